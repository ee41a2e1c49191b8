/-! THE INVARIANT of the reference's state -/
def cnt5 (p : Nat → Bool) : Nat := (p 0).toNat + (p 1).toNat + (p 2).toNat + (p 3).toNat + (p 4).toNat
def inG (z : Nat → Int32) (i : Nat) : Bool := decide (z (28 + i) = (-100006))
def nin (z : Nat → Int32) : Nat := cnt5 (inG z)
def Stt (z : Nat → Int32) : Prop := (∃ s, 1 ≤ s ∧ s ≤ 9 ∧ z 0 = nI s) ∧ (∃ f, f ≤ 20 ∧ z 1 = nI f) ∧ (∃ h, h ≤ 100 ∧ z 2 = nI h) ∧ ∃ d, d ≤ 100 ∧ z 3 = nI d
def Lim (z : Nat → Int32) : Prop := ∀ i, i < 5 → ∃ l, l ≤ 99 ∧ z (13 + i) = nI l
def Coi (z : Nat → Int32) : Prop := ∀ i, i < 5 → ∃ c, c ≤ 9999 ∧ z (8 + i) = nI c
def Prz (z : Nat → Int32) : Prop := ∀ i, i < 5 → ∃ c, c ≤ 99 ∧ z (48 + i) = nI c
def Hi (z : Nat → Int32) : Prop := (z 6 = (-100006) ∧ ∀ i, i < 5 → z (23 + i) = (-100006)) ∨ ∃ m, m ≤ 9999 ∧ z 6 = nI m ∧ (∃ i, i < 5 ∧ z (23 + i) = nI m) ∧ ∀ i, i < 5 → z (23 + i) = (-100006) ∨ ∃ b, b ≤ m ∧ z (23 + i) = nI b
def Cov (z : Nat → Int32) : Prop := ∀ i, i < 5 → z (28 + i) = (-100006) → z (23 + i) = (-100006) ∨ ∃ b c, b ≤ c ∧ c ≤ 9999 ∧ z (23 + i) = nI b ∧ z (8 + i) = nI c
def Got (z : Nat → Int32) (n : Nat) : Prop := (∀ i, i < 5 → z (28 + i) = (-100006) ∨ ∃ a, n ≤ a ∧ a < 5 ∧ z (28 + i) = nI a) ∧ ∀ i i', i < 5 → i' < 5 → ¬ z (28 + i) = (-100006) → z (28 + i) = z (28 + i') → i = i'
def Idle (z : Nat → Int32) : Prop := z 4 = 0 ∧ z 5 = (-100006) ∧ z 6 = (-100006) ∧ ∀ i, i < 5 → z (23 + i) = (-100006) ∧ z (28 + i) = (-100006)
def Runs (z : Nat → Int32) : Prop := z 4 = 1 ∧ 2 ≤ nin z ∧ (∃ j, j < 5 ∧ z 5 = nI j ∧ z (28 + j) = (-100006)) ∧ Hi z ∧ Cov z ∧ Got z (nin z)
def Pers (z : Nat → Int32) : Prop := ∃ P Q : Nat → Nat, Per (fun i => z (18 + i)) P Q
def ZB (z : Nat → Int32) : Prop := Stt z ∧ Lim z ∧ (Coi z ∧ Prz z) ∧ Pers z
def ZI (z : Nat → Int32) : Prop := ZB z ∧ (Idle z ∨ Runs z)
theorem cnt5_congr {p q : Nat → Bool} (h : ∀ i, i < 5 → p i = q i) : cnt5 p = cnt5 q := by
  unfold cnt5; rw [h 0 (by decide), h 1 (by decide), h 2 (by decide), h 3 (by decide), h 4 (by decide)]
theorem cnt5_le (p : Nat → Bool) : cnt5 p ≤ 5 := by
  unfold cnt5
  have h : ∀ b : Bool, b.toNat ≤ 1 := fun b => by cases b <;> decide
  have := h (p 0); have := h (p 1); have := h (p 2); have := h (p 3); have := h (p 4)
  omega
theorem cnt5_up {p q : Nat → Bool} {j : Nat} (hj : j < 5) (h1 : p j = true) (h2 : q j = false) (h : ∀ i, i < 5 → i ≠ j → p i = q i) : cnt5 p = cnt5 q + 1 := by
  unfold cnt5
  rcases lt5 hj with rfl | rfl | rfl | rfl | rfl
  · rw [h1, h2, h 1 (by decide) (by decide), h 2 (by decide) (by decide), h 3 (by decide) (by decide), h 4 (by decide) (by decide)]; simp only [Bool.toNat_true, Bool.toNat_false]; omega
  · rw [h1, h2, h 0 (by decide) (by decide), h 2 (by decide) (by decide), h 3 (by decide) (by decide), h 4 (by decide) (by decide)]; simp only [Bool.toNat_true, Bool.toNat_false]; omega
  · rw [h1, h2, h 0 (by decide) (by decide), h 1 (by decide) (by decide), h 3 (by decide) (by decide), h 4 (by decide) (by decide)]; simp only [Bool.toNat_true, Bool.toNat_false]; omega
  · rw [h1, h2, h 0 (by decide) (by decide), h 1 (by decide) (by decide), h 2 (by decide) (by decide), h 4 (by decide) (by decide)]; simp only [Bool.toNat_true, Bool.toNat_false]; omega
  · rw [h1, h2, h 0 (by decide) (by decide), h 1 (by decide) (by decide), h 2 (by decide) (by decide), h 3 (by decide) (by decide)]
    try rfl
/-- two of them are in: one beside j -/
theorem cnt5_other {p : Nat → Bool} {j : Nat} (hj : j < 5) (h : 2 ≤ cnt5 p) : ∃ i, i < 5 ∧ i ≠ j ∧ p i = true := by
  refine Classical.byContradiction fun hn => ?_
  have f : ∀ i, i < 5 → i ≠ j → p i = false := fun i hi hij => by
    cases hp : p i
    · rfl
    · exact absurd ⟨i, hi, hij, hp⟩ hn
  have hb : ∀ b : Bool, b.toNat ≤ 1 := fun b => by cases b <;> decide
  have hb0 := hb (p j)
  unfold cnt5 at h
  rcases lt5 hj with rfl | rfl | rfl | rfl | rfl
  · rw [f 1 (by decide) (by decide), f 2 (by decide) (by decide), f 3 (by decide) (by decide), f 4 (by decide) (by decide)] at h; simp only [Bool.toNat_false] at h; omega
  · rw [f 0 (by decide) (by decide), f 2 (by decide) (by decide), f 3 (by decide) (by decide), f 4 (by decide) (by decide)] at h; simp only [Bool.toNat_false] at h; omega
  · rw [f 0 (by decide) (by decide), f 1 (by decide) (by decide), f 3 (by decide) (by decide), f 4 (by decide) (by decide)] at h; simp only [Bool.toNat_false] at h; omega
  · rw [f 0 (by decide) (by decide), f 1 (by decide) (by decide), f 2 (by decide) (by decide), f 4 (by decide) (by decide)] at h; simp only [Bool.toNat_false] at h; omega
  · rw [f 0 (by decide) (by decide), f 1 (by decide) (by decide), f 2 (by decide) (by decide), f 3 (by decide) (by decide)] at h; simp only [Bool.toNat_false] at h; omega
theorem clZ_at (z : Nat → Int32) (k : Nat) : clZ z k = if 23 ≤ k ∧ k < 33 then (-100006) else if k = 4 then 0 else if k = 5 then (-100006) else if k = 6 then (-100006) else z k := by
  simp only [clZ, clL, upd_at, Nat.zero_add, Nat.reduceAdd]
  by_cases h : 23 ≤ k ∧ k < 33
  · rw [if_pos h]
    rcases (show k = 23 ∨ k = 24 ∨ k = 25 ∨ k = 26 ∨ k = 27 ∨ k = 28 ∨ k = 29 ∨ k = 30 ∨ k = 31 ∨ k = 32 by omega) with rfl | rfl | rfl | rfl | rfl | rfl | rfl | rfl | rfl | rfl <;> rfl
  · rw [if_neg h]
    rw [if_neg (by omega), if_neg (by omega), if_neg (by omega), if_neg (by omega), if_neg (by omega), if_neg (by omega), if_neg (by omega), if_neg (by omega), if_neg (by omega), if_neg (by omega)]
    by_cases h4 : k = 4
    · subst h4; rfl
    · rw [if_neg h4]
      by_cases h5 : k = 5
      · subst h5; rfl
      · rw [if_neg h5]
        by_cases h6 : k = 6
        · subst h6; rfl
        · rw [if_neg h6, if_neg h5, if_neg h4]
theorem clZ_idle {z : Nat → Int32} (h : Idle z) : ZE (clZ z) z := by
  intro k hk
  obtain ⟨h4, h5, h6, hb⟩ := h
  rw [clZ_at]
  by_cases hk2 : 23 ≤ k ∧ k < 33
  · rw [if_pos hk2]
    by_cases h28 : k < 28
    · have := (hb (k - 23) (by omega)).1
      rw [show 23 + (k - 23) = k by omega] at this
      exact this.symm
    · have := (hb (k - 28) (by omega)).2
      rw [show 28 + (k - 28) = k by omega] at this
      exact this.symm
  · rw [if_neg hk2]
    by_cases q4 : k = 4
    · rw [if_pos q4, q4, h4]
    · rw [if_neg q4]
      by_cases q5 : k = 5
      · rw [if_pos q5, q5, h5]
      · rw [if_neg q5]
        by_cases q6 : k = 6
        · rw [if_pos q6, q6, h6]
        · rw [if_neg q6]
/-- what hangs on settings, limits, coins and places alone -/
theorem ZB.congr {z z' : Nat → Int32} (h : ZB z) (e0 : ∀ i, i < 4 → z i = z' i) (e1 : ∀ i, i < 5 → z (13 + i) = z' (13 + i) ∧ z (8 + i) = z' (8 + i) ∧ z (18 + i) = z' (18 + i) ∧ z (48 + i) = z' (48 + i)) : ZB z' := by
  obtain ⟨⟨h1, h2, h3, h4⟩, hl, ⟨hc, hz⟩, P, Q, hp⟩ := h
  rw [e0 0 (by decide)] at h1; rw [e0 1 (by decide)] at h2; rw [e0 2 (by decide)] at h3; rw [e0 3 (by decide)] at h4
  exact ⟨⟨h1, h2, h3, h4⟩, fun i hi => by rw [← (e1 i hi).1]; exact hl i hi, ⟨fun i hi => by rw [← (e1 i hi).2.1]; exact hc i hi, fun i hi => by rw [← (e1 i hi).2.2.2]; exact hz i hi⟩, P, Q, hp.congr (fun i hi => (e1 i hi).2.2.1)⟩
theorem nin_congr {z z' : Nat → Int32} (h : ∀ i, i < 5 → z (28 + i) = z' (28 + i)) : nin z = nin z' := cnt5_congr (fun i hi => by unfold inG; rw [h i hi])
theorem Hi.congr {z z' : Nat → Int32} (h : Hi z) (e6 : z 6 = z' 6) (e : ∀ i, i < 5 → z (23 + i) = z' (23 + i)) : Hi z' := by
  rcases h with ⟨a, b⟩ | ⟨m, hm, a, ⟨i, hi, b⟩, c⟩
  · exact Or.inl ⟨by rw [← e6]; exact a, fun i hi => by rw [← e i hi]; exact b i hi⟩
  · exact Or.inr ⟨m, hm, by rw [← e6]; exact a, ⟨i, hi, by rw [← e i hi]; exact b⟩, fun i hi => by rw [← e i hi]; exact c i hi⟩
theorem Cov.congr {z z' : Nat → Int32} (h : Cov z) (e : ∀ i, i < 5 → z (28 + i) = z' (28 + i) ∧ z (23 + i) = z' (23 + i) ∧ z (8 + i) = z' (8 + i)) : Cov z' := fun i hi => by rw [← (e i hi).1, ← (e i hi).2.1, ← (e i hi).2.2]; exact h i hi
theorem Got.congr {z z' : Nat → Int32} {n : Nat} (h : Got z n) (e : ∀ i, i < 5 → z (28 + i) = z' (28 + i)) : Got z' n := ⟨fun i hi => by rw [← e i hi]; exact h.1 i hi, fun i i' hi hi' => by rw [← e i hi, ← e i' hi']; exact h.2 i i' hi hi'⟩
theorem ZI.congr {z z' : Nat → Int32} (h : ZI z) (e : ZE z z') : ZI z' := by
  refine ⟨h.1.congr (fun i hi => e i (by omega)) (fun i hi => ⟨e _ (by omega), e _ (by omega), e _ (by omega), e _ (by omega)⟩), ?_⟩
  rcases h.2 with ⟨a, b, c, d⟩ | ⟨a, b, ⟨j, hj, c, d⟩, hh, hc, hg⟩
  · exact Or.inl ⟨by rw [← e 4 (by decide)]; exact a, by rw [← e 5 (by decide)]; exact b, by rw [← e 6 (by decide)]; exact c, fun i hi => by rw [← e (23 + i) (by omega), ← e (28 + i) (by omega)]; exact d i hi⟩
  · have en : nin z = nin z' := nin_congr (fun i hi => e _ (by omega))
    refine Or.inr ⟨by rw [← e 4 (by decide)]; exact a, by rw [← en]; exact b, ⟨j, hj, by rw [← e 5 (by decide)]; exact c, by rw [← e (28 + j) (by omega)]; exact d⟩, hh.congr (e _ (by decide)) (fun i hi => e _ (by omega)), hc.congr (fun i hi => ⟨e _ (by omega), e _ (by omega), e _ (by omega)⟩), ?_⟩
    rw [← en]
    exact hg.congr (fun i hi => e _ (by omega))
theorem ZI.is01 {z : Nat → Int32} (h : ZI z) : is01 (z 4) := h.2.elim (fun q => Or.inl q.1) (fun q => Or.inr q.1)
