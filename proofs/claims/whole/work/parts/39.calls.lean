/-! THE CALLS: class and reference side by side. History and slots -/
def HistR (nx ln : Nat) (ad : Ad) (S : Nat → Tb) (pa : Nat → Int32) (n : Nat) : Prop := ln = n ∧ n ≤ 6 ∧ n ≤ nx ∧ ∀ k, k < n → (∃ a, ad ((nx - n + k) % 6) = some a) ∧ RelV (S ((nx - n + k) % 6)) (fun i => pa (53 * k + i)) ∧ ZI (fun i => pa (53 * k + i))
def SlotR (ad : Ad) (S : Nat → Tb) (st sv : Nat → Int32) : Prop := ∀ k, k < 2 → (sv k = 0 ∧ ad (6 + k) = none) ∨ (¬ sv k = 0 ∧ (∃ a, ad (6 + k) = some a) ∧ RelV (S (6 + k)) (fun i => st (53 * k + i)) ∧ ZI (fun i => st (53 * k + i)))
def Old (ad : Ad) (S : Nat → Tb) : Prop := ∀ k, k < 8 → ¬ ad k = none → is01 (S k 10 0)
theorem rcA_at (z pa : Nat → Int32) {n : Nat} (hn : n ≤ 6) (k i : Nat) (hi : i < 53) (hk : k < rcN n) : rcA z pa n (53 * k + i) = if k + 1 = rcN n then z i else if n = 6 then pa (53 * (k + 1) + i) else pa (53 * k + i) := by
  by_cases h6 : n = 6
  · subst h6
    have hk : k < 6 := hk
    unfold rcA
    rw [if_pos rfl, if_pos rfl]
    show _ = if k + 1 = 6 then _ else _
    by_cases h5 : k = 5
    · subst h5
      rw [if_pos rfl, pk_cpy_in (by omega) (by omega)]
      exact congrArg z (by omega)
    · rw [if_neg (by omega), pk_cpy_out (by omega)]
      unfold shA
      rw [if_pos (by omega)]
      exact congrArg pa (by omega)
  · have hr : rcN n = n + 1 := (rcN_n h6).symm
    rw [hr] at hk ⊢
    unfold rcA
    rw [if_neg h6, if_neg h6]
    by_cases h5 : k = n
    · subst h5
      rw [if_pos rfl, pk_cpy_in (by omega) (by omega)]
      exact congrArg z (by omega)
    · rw [if_neg (by omega), pk_cpy_out (by omega)]
theorem rec_ok {T : Tb} {z pa : Nat → Int32} {nx ln n : Nat} {ad : Ad} {S : Nat → Tb} (hR : RelV T z) (hZ : ZI z) (h : HistR nx ln ad S pa n) (u : Nat → Nat) : HistR (nx + 1) (min (ln + 1) 6) (va_up ad (nx % 6) (some u)) (va_up S (nx % 6) T) (rcA z pa n) (rcN n) := by
  obtain ⟨rfl, h6, hnx, hall⟩ := h
  have hrn : rcN ln = min (ln + 1) 6 := by
    unfold rcN
    split <;> omega
  refine ⟨hrn.symm, by omega, by omega, fun k hk => ?_⟩
  have hE : ∀ i, i < 53 → rcA z pa ln (53 * k + i) = if k + 1 = rcN ln then z i else if ln = 6 then pa (53 * (k + 1) + i) else pa (53 * k + i) := fun i hi => rcA_at z pa h6 k i hi hk
  by_cases hl : k + 1 = rcN ln
  · have hix : (nx + 1 - rcN ln + k) % 6 = nx % 6 := by omega
    rw [hix, va_up_self, va_up_self]
    refine ⟨⟨u, rfl⟩, hR.congr (fun i hi => ?_), hZ.congr (fun i hi => ?_)⟩
    · rw [hE i hi, if_pos hl]
    · rw [hE i hi, if_pos hl]
  · have hne : (nx + 1 - rcN ln + k) % 6 ≠ nx % 6 := by omega
    rw [va_up_ne _ _ hne, va_up_ne _ _ hne]
    by_cases hn6 : ln = 6
    · obtain ⟨a1, a2, a3⟩ := hall (k + 1) (by omega)
      have hix : (nx - ln + (k + 1)) % 6 = (nx + 1 - rcN ln + k) % 6 := by omega
      rw [hix] at a1 a2
      exact ⟨a1, a2.congr (fun i hi => by rw [hE i hi, if_neg hl, if_pos hn6]), a3.congr (fun i hi => by rw [hE i hi, if_neg hl, if_pos hn6])⟩
    · obtain ⟨a1, a2, a3⟩ := hall k (by omega)
      have hix : (nx - ln + k) % 6 = (nx + 1 - rcN ln + k) % 6 := by omega
      rw [hix] at a1 a2
      exact ⟨a1, a2.congr (fun i hi => by rw [hE i hi, if_neg hl, if_neg hn6]), a3.congr (fun i hi => by rw [hE i hi, if_neg hl, if_neg hn6])⟩
theorem SlotR.rec {ad : Ad} {S : Nat → Tb} {st sv : Nat → Int32} (h : SlotR ad S st sv) (k : Nat) (u : Option (Nat → Nat)) (T : Tb) : SlotR (va_up ad (k % 6) u) (va_up S (k % 6) T) st sv := fun i hi => by
  have hne : 6 + i ≠ k % 6 := by omega
  rw [va_up_ne _ _ hne, va_up_ne _ _ hne]
  exact h i hi
theorem Old.up {ad : Ad} {S : Nat → Tb} (h : Old ad S) (k : Nat) (u : Option (Nat → Nat)) {T : Tb} (hT : is01 (T 10 0)) : Old (va_up ad k u) (va_up S k T) := fun i hi hn => by
  by_cases hx : i = k
  · subst hx; rw [va_up_self]; exact hT
  · rw [va_up_ne _ _ hx] at hn ⊢; exact h i hi hn
/-- the whole invariant: class against reference -/
def INV (c : CS) (z pa st sv pd : Nat → Int32) (n t : Nat) : Prop := RelV c.1 z ∧ ZI z ∧ HistR c.2.2.1 c.2.2.2.1 c.2.2.2.2.1 c.2.2.2.2.2.1 pa n ∧ SlotR c.2.2.2.2.1 c.2.2.2.2.2.1 st sv ∧ Old c.2.2.2.2.1 c.2.2.2.2.2.1 ∧ c.2.2.2.2.2.2.1 = pd ∧ chs pd ∧ c.2.2.2.2.2.2.2 = t ∧ t ≤ 60
section KEEPS
variable {T U : Tb} {nx ln : Nat} {ad : Ad} {S : Nat → Tb} {ps : Nat → Int32} {pl : Nat} {z pa st sv pd : Nat → Int32} {n t : Nat}
theorem INV.t01 (h : INV (T, U, nx, ln, ad, S, ps, pl) z pa st sv pd n t) : is01 (T 10 0) := by
  have e : T 10 0 = z 4 := h.1.uw
  rw [e]
  exact h.2.1.is01
/-- the state is kept, then it changes -/
theorem INV.keep (h : INV (T, U, nx, ln, ad, S, ps, pl) z pa st sv pd n t) (u : Nat → Nat) {T1 : Tb} {z1 : Nat → Int32} (hR : RelV T1 z1) (hZ : ZI z1) : INV (kpC T U nx ln ad S ps pl u T1) z1 (rcA z pa n) st sv pd (rcN n) t :=
  ⟨hR, hZ, rec_ok h.1 h.2.1 h.2.2.1 u, h.2.2.2.1.rec nx _ T, h.2.2.2.2.1.up _ _ h.t01, h.2.2.2.2.2⟩
theorem INV.trial (h : INV (T, U, nx, ln, ad, S, ps, pl) z pa st sv pd n t) (U1 : Tb) : INV (T, U1, nx, ln, ad, S, ps, pl) z pa st sv pd n t := h
end KEEPS
-- ranges
theorem isPb_inB (x : Int32) : isPb x = inB x 0 4 := by
  unfold isPb inB
  have e : (4 < x) = (5 ≤ x) := by
    rw [Int32.lt_iff_toInt_lt, Int32.le_iff_toInt_le]
    have e4 : (4 : Int32).toInt = 4 := by decide
    have e5 : (5 : Int32).toInt = 5 := by decide
    rw [e4, e5]
    exact propext (by omega)
  simp only [e]
theorem inB_3 (v lo hi : Int32) {α : Type} (a b : α) : (if v < lo then a else if v ≤ hi then b else a) = if inB v lo hi = 0 then a else b := by
  unfold inB
  by_cases h1 : v < lo
  · rw [if_pos h1, if_pos h1, if_pos rfl]
  · rw [if_neg h1, if_neg h1]
    by_cases h2 : v ≤ hi
    · rw [if_pos h2, if_neg (Int32.not_lt.mpr h2), if_neg lz_o]
    · rw [if_neg h2, if_pos (Int32.not_le.mp h2), if_pos rfl]
theorem inB_r {x : Int32} {N : Nat} (hN : N < 2 ^ 30) (h : ¬ inB x 0 (nI N) = 0) : ∃ j, j ≤ N ∧ x = nI j := by
  obtain ⟨j, hj, e⟩ := inB_of hN h
  exact ⟨j, by omega, e⟩
theorem inB_n {j N : Nat} (hN : N < 2 ^ 30) (hj : j ≤ N) : inB (nI j) 0 (nI N) = 1 := by
  unfold inB
  rw [if_neg (nI_pos (by omega)), if_neg (nI_nlt hj (by omega))]
theorem seC_iv (x v : Int32) : seC x v = if ivB x v = 0 then (-100002) else 0 := by
  unfold seC
  by_cases h0 : x < 0
  · rw [if_pos h0]
    have hn : ∀ k : Nat, k < 4 → ¬ x = nI k := fun k hk e => by rw [e] at h0; exact nI_pos (by omega) h0
    have : ivB x v = 0 := by
      unfold ivB
      rw [if_neg (show ¬ x = 0 from hn 0 (by decide)), if_neg (show ¬ x = 1 from hn 1 (by decide)), if_neg (show ¬ x = 2 from hn 2 (by decide)), if_neg (show ¬ x = 3 from hn 3 (by decide))]
    rw [this, if_pos rfl]
  · rw [if_neg h0]
    by_cases h4 : x < 4
    · rw [if_pos h4]
      obtain ⟨j, hj, rfl⟩ := x_lt (N := 4) (by decide) h0 h4
      rw [ix_n (by omega), inB_3]
      rcases (show j = 0 ∨ j = 1 ∨ j = 2 ∨ j = 3 by omega) with rfl | rfl | rfl | rfl
      · rfl
      · show (if inB v 0 20 = 0 then _ else _) = if ivB (nI 1) v = 0 then _ else _
        have : ivB (nI 1) v = inB v 0 20 := by unfold ivB; rw [if_neg (by decide +kernel), if_pos (by decide +kernel)]
        rw [this]
      · show (if inB v 0 100 = 0 then _ else _) = if ivB (nI 2) v = 0 then _ else _
        have : ivB (nI 2) v = inB v 0 100 := by unfold ivB; rw [if_neg (by decide +kernel), if_neg (by decide +kernel), if_pos (by decide +kernel)]
        rw [this]
      · show (if inB v 0 100 = 0 then _ else _) = if ivB (nI 3) v = 0 then _ else _
        have : ivB (nI 3) v = inB v 0 100 := by unfold ivB; rw [if_neg (by decide +kernel), if_neg (by decide +kernel), if_neg (by decide +kernel), if_pos (by decide +kernel)]
        rw [this]
    · rw [if_neg h4]
      have hn : ∀ k : Nat, k < 4 → ¬ x = nI k := fun k hk e => by rw [e] at h4; exact h4 (nI_lt (a := k) (b := 4) hk (by decide))
      have : ivB x v = 0 := by
        unfold ivB
        rw [if_neg (show ¬ x = 0 from hn 0 (by decide)), if_neg (show ¬ x = 1 from hn 1 (by decide)), if_neg (show ¬ x = 2 from hn 2 (by decide)), if_neg (show ¬ x = 3 from hn 3 (by decide))]
      rw [this, if_pos rfl]
theorem liC_er (x v : Int32) : liC x v = erL x v := by
  unfold liC erL
  rw [isPb_inB, inB_3]
theorem coC_er {T : Tb} {z : Nat → Int32} (hR : RelV T z) (hZ : ZI z) (x v : Int32) : coC T x v = erC z x v := by
  unfold coC erC
  rw [isPb_inB, inB_3]
  by_cases hx : inB x 0 4 = 0
  · rw [if_pos hx, if_pos hx]
  rw [if_neg hx, if_neg hx]
  by_cases hv : inB v 0 9999 = 0
  · rw [if_pos hv, if_pos hv]
  rw [if_neg hv, if_neg hv]
  obtain ⟨j, hj, rfl⟩ := inB_r (N := 4) (by decide) hx
  obtain ⟨b, hb, rfl⟩ := inB_r (N := 9999) (by decide) hv
  have hj5 : j < 5 := by omega
  have hbid : z (23 + j) = (-100006) ∨ ∃ k, k ≤ 9999 ∧ z (23 + j) = nI k := by
    rcases hZ.2 with h | h
    · exact Or.inl (h.2.2.2 j hj5).1
    · rcases h.2.2.2.1 with ⟨-, q⟩ | ⟨m, hm, -, -, q⟩
      · exact Or.inl (q j hj5)
      · rcases q j hj5 with q | ⟨k, hk, q⟩
        · exact Or.inl q
        · exact Or.inr ⟨k, by omega, q⟩
  unfold covB bnZ
  rw [isPb_n hj5, if_neg lz_o, ix_n hj5, hR.go hj5, hR.bi hj5]
  have h0 : (0 : Int32) ≤ nI b := nI_pos' (by omega)
  by_cases hg : z (28 + j) = (-100006)
  · rw [if_pos hg, if_pos hg]
    rcases hbid with q | ⟨k, hk, q⟩
    · have e1 : (if (0 : Int32) < z (23 + j) then z (23 + j) else 0) = 0 := by rw [q]; decide +kernel
      rw [e1, if_pos h0, if_pos q, if_pos rfl]
    · rw [q, if_neg (nI_none (by omega))]
      by_cases hk0 : (0 : Int32) < nI k
      · rw [if_pos hk0]
        by_cases hkb : nI k ≤ nI b
        · rw [if_pos hkb, if_pos hkb, if_pos rfl]
        · rw [if_neg hkb, if_neg hkb, if_neg lz_o]
      · have hk00 : nI k ≤ nI b := Int32.le_trans (Int32.not_lt.mp hk0) h0
        rw [if_neg hk0, if_pos h0, if_pos hk00, if_pos rfl]
  · rw [if_neg hg, if_neg hg, if_pos h0]
    split <;> rw [if_pos rfl]
theorem bdC_er {T : Tb} {z : Nat → Int32} (hR : RelV T z) (hZ : ZI z) (v : Int32) : bdC T v = erD z v := by
  unfold bdC erD
  rw [inB_3]
  have : mayB T v = mbZ z v := by
    unfold mbZ
    rcases hZ.2 with h | h
    · unfold mayB
      rw [hR.uw, h.1, if_pos rfl, if_neg (by decide)]
    · rw [mayB_ok h hR, h.1, if_pos rfl]
      have hc : cbZ z v = 0 ∨ cbZ z v = 1 := by
        unfold cbZ
        repeat' split
        all_goals first | exact Or.inl rfl | exact Or.inr rfl
      rcases hc with q | q
      · rw [q, if_pos rfl]
      · rw [q, if_neg lz_o]
  rw [this]
