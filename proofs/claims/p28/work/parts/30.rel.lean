/-! CLASS AND REFERENCE: the cells of a Table against the row z -/
def okc (k i : Nat) : Prop := (k = 0 ∧ i < 4) ∨ (1 ≤ k ∧ k ≤ 9 ∧ i < 5) ∨ (k = 10 ∧ i < 3)
def off (k : Nat) : Nat := if k = 0 then 0 else if k = 1 then 48 else if k = 2 then 8 else if k = 3 then 13 else if k = 4 then 18 else if k = 5 then 23 else if k = 6 then 28 else if k = 7 then 33 else if k = 8 then 38 else if k = 9 then 43 else 4
def adr (k i : Nat) : Nat := if k = 10 then (if i = 2 then 7 else 4 + i) else off k + i
theorem okc_k {k i : Nat} (h : okc k i) : k = 0 ∨ k = 1 ∨ k = 2 ∨ k = 3 ∨ k = 4 ∨ k = 5 ∨ k = 6 ∨ k = 7 ∨ k = 8 ∨ k = 9 ∨ k = 10 := by unfold okc at h; omega
theorem adr_lt {k i : Nat} (h : okc k i) : adr k i < 53 ∧ adr k i ≠ 6 := by
  rcases okc_k h with rfl | rfl | rfl | rfl | rfl | rfl | rfl | rfl | rfl | rfl | rfl <;> simp [okc, adr, off] at h ⊢ <;> (try split) <;> omega
theorem adr_inj {k i k' i' : Nat} (h : okc k i) (h' : okc k' i') (e : adr k i = adr k' i') : k = k' ∧ i = i' := by
  rcases okc_k h with rfl | rfl | rfl | rfl | rfl | rfl | rfl | rfl | rfl | rfl | rfl <;>
  rcases okc_k h' with rfl | rfl | rfl | rfl | rfl | rfl | rfl | rfl | rfl | rfl | rfl <;>
  simp [okc, adr, off] at h h' e ⊢ <;> (try split at e) <;> (try split at e) <;> omega
/-- the cells agree -/
def RelV (T : Tb) (z : Nat → Int32) : Prop := ∀ k i, okc k i → T k i = z (adr k i)
def ZE (z z' : Nat → Int32) : Prop := ∀ k, k < 53 → z k = z' k
theorem RelV.congr {T : Tb} {z z' : Nat → Int32} (h : RelV T z) (e : ZE z z') : RelV T z' := fun k i hk => (h k i hk).trans (e _ (adr_lt hk).1)
theorem tup_at (T : Tb) (k i : Nat) (x : Int32) (k' i' : Nat) : tup T k i x k' i' = if k' = k ∧ i' = i then x else T k' i' := by
  unfold tup
  by_cases h : k' = k
  · subst h
    simp only [if_true, true_and]
    unfold upd
    rfl
  · simp [h]
theorem upd_at (f : Nat → Int32) (i : Nat) (x : Int32) (j : Nat) : upd f i x j = if j = i then x else f j := rfl
theorem RelV.up {T : Tb} {z : Nat → Int32} (h : RelV T z) {k i : Nat} (hk : okc k i) {x y : Int32} (e : x = y) : RelV (tup T k i x) (upd z (adr k i) y) := by
  subst e
  intro k' i' hk'
  rw [tup_at, upd_at]
  by_cases q : k' = k ∧ i' = i
  · rw [if_pos q, q.1, q.2, if_pos rfl]
  · rw [if_neg q, if_neg (fun e => q (adr_inj hk' hk e)), h k' i' hk']
theorem RelV.hi {T : Tb} {z : Nat → Int32} (h : RelV T z) (x : Int32) : RelV T (upd z 6 x) := fun k i hk => by rw [upd_at, if_neg (adr_lt hk).2]; exact h k i hk
theorem RelV.se {T : Tb} {z : Nat → Int32} (h : RelV T z) {i : Nat} (hi : i < 4) : T 0 i = z i := by have := h 0 i (by unfold okc; omega); rw [this]; show z (0 + i) = z i; rw [Nat.zero_add]
theorem RelV.pz {T : Tb} {z : Nat → Int32} (h : RelV T z) {i : Nat} (hi : i < 5) : T 1 i = z (48 + i) := h 1 i (by unfold okc; omega)
theorem RelV.co {T : Tb} {z : Nat → Int32} (h : RelV T z) {i : Nat} (hi : i < 5) : T 2 i = z (8 + i) := h 2 i (by unfold okc; omega)
theorem RelV.li {T : Tb} {z : Nat → Int32} (h : RelV T z) {i : Nat} (hi : i < 5) : T 3 i = z (13 + i) := h 3 i (by unfold okc; omega)
theorem RelV.pl {T : Tb} {z : Nat → Int32} (h : RelV T z) {i : Nat} (hi : i < 5) : T 4 i = z (18 + i) := h 4 i (by unfold okc; omega)
theorem RelV.bi {T : Tb} {z : Nat → Int32} (h : RelV T z) {i : Nat} (hi : i < 5) : T 5 i = z (23 + i) := h 5 i (by unfold okc; omega)
theorem RelV.go {T : Tb} {z : Nat → Int32} (h : RelV T z) {i : Nat} (hi : i < 5) : T 6 i = z (28 + i) := h 6 i (by unfold okc; omega)
theorem RelV.pa {T : Tb} {z : Nat → Int32} (h : RelV T z) {i : Nat} (hi : i < 5) : T 7 i = z (33 + i) := h 7 i (by unfold okc; omega)
theorem RelV.ta {T : Tb} {z : Nat → Int32} (h : RelV T z) {i : Nat} (hi : i < 5) : T 8 i = z (38 + i) := h 8 i (by unfold okc; omega)
theorem RelV.wo {T : Tb} {z : Nat → Int32} (h : RelV T z) {i : Nat} (hi : i < 5) : T 9 i = z (43 + i) := h 9 i (by unfold okc; omega)
theorem RelV.uw {T : Tb} {z : Nat → Int32} (h : RelV T z) : T 10 0 = z 4 := h 10 0 (by unfold okc; omega)
theorem RelV.tu {T : Tb} {z : Nat → Int32} (h : RelV T z) : T 10 1 = z 5 := h 10 1 (by unfold okc; omega)
theorem RelV.ro {T : Tb} {z : Nat → Int32} (h : RelV T z) : T 10 2 = z 7 := h 10 2 (by unfold okc; omega)
theorem RelV.of {T : Tb} {z : Nat → Int32} (h0 : ∀ i, i < 4 → T 0 i = z i) (h1 : ∀ i, i < 5 → T 1 i = z (48 + i) ∧ T 2 i = z (8 + i) ∧ T 3 i = z (13 + i) ∧ T 4 i = z (18 + i) ∧ T 5 i = z (23 + i) ∧ T 6 i = z (28 + i) ∧ T 7 i = z (33 + i) ∧ T 8 i = z (38 + i) ∧ T 9 i = z (43 + i)) (h2 : T 10 0 = z 4) (h3 : T 10 1 = z 5) (h4 : T 10 2 = z 7) : RelV T z := by
  intro k i hk
  rcases okc_k hk with rfl | rfl | rfl | rfl | rfl | rfl | rfl | rfl | rfl | rfl | rfl
  · show T 0 i = z (0 + i); rw [Nat.zero_add]; exact h0 i (by unfold okc at hk; omega)
  · exact (h1 i (by unfold okc at hk; omega)).1
  · exact (h1 i (by unfold okc at hk; omega)).2.1
  · exact (h1 i (by unfold okc at hk; omega)).2.2.1
  · exact (h1 i (by unfold okc at hk; omega)).2.2.2.1
  · exact (h1 i (by unfold okc at hk; omega)).2.2.2.2.1
  · exact (h1 i (by unfold okc at hk; omega)).2.2.2.2.2.1
  · exact (h1 i (by unfold okc at hk; omega)).2.2.2.2.2.2.1
  · exact (h1 i (by unfold okc at hk; omega)).2.2.2.2.2.2.2.1
  · exact (h1 i (by unfold okc at hk; omega)).2.2.2.2.2.2.2.2
  · rcases (show i = 0 ∨ i = 1 ∨ i = 2 by unfold okc at hk; omega) with rfl | rfl | rfl
    · exact h2
    · exact h3
    · exact h4
/-- the players have the places 0 to 4: Q i is i's place, P a the one at a -/
def Per (pl : Nat → Int32) (P Q : Nat → Nat) : Prop := (∀ i, i < 5 → Q i < 5 ∧ pl i = nI (Q i) ∧ P (Q i) = i) ∧ ∀ a, a < 5 → P a < 5 ∧ Q (P a) = a
theorem Per.iff {pl : Nat → Int32} {P Q : Nat → Nat} (h : Per pl P Q) {i a : Nat} (hi : i < 5) (ha : a < 5) : (pl i = nI a) = (P a = i) := by
  obtain ⟨q1, q2, q3⟩ := h.1 i hi
  refine propext ⟨fun e => ?_, fun e => ?_⟩
  · rw [q2, nI_eq (by omega) (by omega)] at e
    rw [← e, q3]
  · rw [q2, ← e, (h.2 a ha).2]
theorem lt5 {n : Nat} (h : n < 5) : n = 0 ∨ n = 1 ∨ n = 2 ∨ n = 3 ∨ n = 4 := by omega
theorem pAt_per {pl : Nat → Int32} {P Q : Nat → Nat} (h : Per pl P Q) {a : Nat} (ha : a < 5) : pAt pl (nI a) = nI (P a) := by
  simp only [pAt, pAtL, Nat.zero_add, Nat.reduceAdd, h.iff (show 0 < 5 by decide) ha, h.iff (show 1 < 5 by decide) ha, h.iff (show 2 < 5 by decide) ha, h.iff (show 3 < 5 by decide) ha, h.iff (show 4 < 5 by decide) ha]
  rcases lt5 (h.2 a ha).1 with e | e | e | e | e <;> rw [e] <;> rfl
theorem mAt_per {z : Nat → Int32} {P Q : Nat → Nat} (h : Per (fun i => z (18 + i)) P Q) {a : Nat} (ha : a < 5) : mAt z (nI a) = nI (P a) := by
  have k : ∀ i, i < 5 → (z (18 + i) = nI a) = (P a = i) := fun i hi => h.iff hi ha
  simp only [mAt, mAtL, k 0 (by decide), k (0 + 1) (by decide), k (0 + 1 + 1) (by decide), k (0 + 1 + 1 + 1) (by decide), k (0 + 1 + 1 + 1 + 1) (by decide)]
  rcases lt5 (h.2 a ha).1 with e | e | e | e | e <;> rw [e] <;> rfl
theorem Per.congr {pl pl' : Nat → Int32} {P Q : Nat → Nat} (h : Per pl P Q) (e : ∀ i, i < 5 → pl i = pl' i) : Per pl' P Q := ⟨fun i hi => ⟨(h.1 i hi).1, (e i hi).symm.trans (h.1 i hi).2.1, (h.1 i hi).2.2⟩, h.2⟩
theorem isPb_n {n : Nat} (h : n < 5) : isPb (nI n) = 1 := by
  rcases lt5 h with e | e | e | e | e <;> rw [e] <;> decide +kernel
theorem ix_n {n : Nat} (h : n < 5) : ix (nI n) = n := nI_clamp (by omega)
theorem nI_none {n : Nat} (h : n < 100000) : ¬ nI n = (-100006) := by
  intro e
  have := congrArg Int32.toInt e
  rw [nI_toInt (by omega)] at this
  have e2 : (-100006 : Int32).toInt = -100006 := by decide
  omega
