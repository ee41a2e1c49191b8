/-! WHO IS LEFT; THE PRIZES' RANKS; PAYMENTS -/
theorem lf_step (z : Nat → Int32) (i k : Nat) : (if z (28 + i) = (-100006) then nI k + 1 else nI k + 0) = nI (k + (inG z i).toNat) := by
  unfold inG
  by_cases h : z (28 + i) = (-100006)
  · rw [if_pos h, decide_eq_true h, nI_1]; rfl
  · rw [if_neg h, decide_eq_false h, Int32.add_zero]; rfl
theorem lfZ_nin (z : Nat → Int32) : lfZ z = nI (nin z) := by
  unfold lfZ
  rw [show (0 : Int32) = nI 0 from rfl]
  simp only [lfL, lf_step]
  unfold nin cnt5
  rw [Nat.zero_add]
theorem bitC_pl (g : Nat → Int32) : bitC (plL g 5 0 0) = nI (cnt5 (fun i => decide (g i = (-100006)))) := by
  simp only [plL, cnt5, Nat.zero_add, Nat.reduceAdd]
  by_cases h0 : g 0 = (-100006) <;> by_cases h1 : g 1 = (-100006) <;> by_cases h2 : g 2 = (-100006) <;> by_cases h3 : g 3 = (-100006) <;> by_cases h4 : g 4 = (-100006) <;>
    (simp only [h0, h1, h2, h3, h4, if_true, if_false, decide_true, decide_false]; decide +kernel)
theorem plB_nin {T : Tb} {z : Nat → Int32} (hR : RelV T z) (h4 : z 4 = 1) : bitC (plB T) = nI (nin z) := by
  unfold plB
  rw [hR.uw, h4, if_neg lz_o, bitC_pl]
  congr 1
  exact cnt5_congr (fun i hi => by unfold inG; rw [hR.go hi])
/-- the prize j comes ahead of the prize i -/
abbrev Bf (pr : Nat → Int32) (j i : Nat) : Prop := pr i < pr j ∨ (pr j = pr i ∧ j < i)
def rk (pr : Nat → Int32) (i : Nat) : Nat := cnt5 (fun j => decide (Bf pr j i))
theorem Bf.trans {pr : Nat → Int32} {a b c : Nat} (h1 : Bf pr a b) (h2 : Bf pr b c) : Bf pr a c := by
  unfold Bf at *
  simp only [Int32.lt_iff_toInt_lt, ← Int32.toInt_inj] at *
  omega
theorem Bf.irr {pr : Nat → Int32} {a : Nat} : ¬ Bf pr a a := by
  unfold Bf
  simp only [Int32.lt_iff_toInt_lt]
  omega
theorem Bf.total {pr : Nat → Int32} {a b : Nat} (h : a ≠ b) : Bf pr a b ∨ Bf pr b a := by
  unfold Bf
  simp only [Int32.lt_iff_toInt_lt, ← Int32.toInt_inj]
  omega
theorem cnt5_lt {p q : Nat → Bool} {j : Nat} (hj : j < 5) (h : ∀ i, i < 5 → p i = true → q i = true) (h1 : q j = true) (h2 : p j = false) : cnt5 p < cnt5 q := by
  have hb : ∀ i, i < 5 → (p i).toNat ≤ (q i).toNat := fun i hi => by
    cases hp : p i
    · exact Nat.zero_le _
    · rw [h i hi hp]; exact Nat.le_refl _
  have h0 := hb 0 (by decide); have h1' := hb 1 (by decide); have h2' := hb 2 (by decide); have h3' := hb 3 (by decide); have h4' := hb 4 (by decide)
  have hs : (p j).toNat < (q j).toNat := by rw [h1, h2]; decide
  unfold cnt5
  rcases lt5 hj with rfl | rfl | rfl | rfl | rfl <;> omega
theorem rk_lt {pr : Nat → Int32} {i i' : Nat} (hi' : i' < 5) (h : Bf pr i' i) : rk pr i' < rk pr i := by
  unfold rk
  refine cnt5_lt (j := i') hi' (fun k _ hk => ?_) (decide_eq_true h) (decide_eq_false Bf.irr)
  exact decide_eq_true ((of_decide_eq_true hk).trans h)
theorem rk_inj {pr : Nat → Int32} {i i' : Nat} (hi : i < 5) (hi' : i' < 5) (h : rk pr i = rk pr i') : i = i' := by
  refine Classical.byContradiction fun hn => ?_
  rcases Bf.total (pr := pr) hn with q | q
  · have := rk_lt hi q; omega
  · have := rk_lt hi' q; omega
theorem rk_le (pr : Nat → Int32) (i : Nat) : rk pr i ≤ 5 := cnt5_le _
theorem ah_step (pr : Nat → Int32) {i j : Nat} (hi : i < 5) (hj : j < 5) (k : Nat) : (if pr i < pr j then nI k + 1 else if pr j = pr i then (if nI i ≤ nI j then nI k else nI k + 1) else nI k) = nI (k + (decide (Bf pr j i)).toNat) := by
  by_cases h1 : pr i < pr j
  · rw [if_pos h1, decide_eq_true (show Bf pr j i from Or.inl h1), nI_1]; rfl
  · rw [if_neg h1]
    by_cases h2 : pr j = pr i
    · rw [if_pos h2]
      by_cases h3 : i ≤ j
      · rw [if_pos (nI_le h3 (by omega)), decide_eq_false (show ¬ Bf pr j i from fun q => q.elim h1 (fun q => by omega))]; rfl
      · rw [if_neg (fun q => h3 ((nI_leI (by omega) (by omega)).mp q)), decide_eq_true (show Bf pr j i from Or.inr ⟨h2, by omega⟩), nI_1]; rfl
    · rw [if_neg h2, decide_eq_false (show ¬ Bf pr j i from fun q => q.elim h1 (fun q => h2 q.1))]; rfl
theorem ahL_rk (pr : Nat → Int32) {i : Nat} (hi : i < 5) : ahL pr i 5 0 0 = nI (rk pr i) := by
  rw [show (0 : Int32) = nI 0 from rfl]
  simp only [ahL, ah_step pr hi (show 0 < 5 by decide), ah_step pr hi (show 0 + 1 < 5 by decide), ah_step pr hi (show 0 + 1 + 1 < 5 by decide), ah_step pr hi (show 0 + 1 + 1 + 1 < 5 by decide), ah_step pr hi (show 0 + 1 + 1 + 1 + 1 < 5 by decide)]
  unfold rk cnt5
  rw [Nat.zero_add]
theorem mhL_rk (z : Nat → Int32) {i : Nat} (hi : i < 5) : mhL z i 5 0 0 = nI (rk (fun j => z (48 + j)) i) := by
  rw [← ahL_rk _ hi]
  simp only [mhL, ahL, Int32.add_zero]
theorem one5 {q : Nat → Prop} [∀ i, Decidable (q i)] (h : ∀ i i', i < 5 → i' < 5 → q i → q i' → i = i') (p : Nat → Int32) (x : Int32) :
    (if q 0 then p 0 else if q 1 then p 1 else if q 2 then p 2 else if q 3 then p 3 else if q 4 then p 4 else x) = (if q 4 then p 4 else if q 3 then p 3 else if q 2 then p 2 else if q 1 then p 1 else if q 0 then p 0 else x) := by
  have n : ∀ i i', i < 5 → i' < 5 → i ≠ i' → q i → ¬ q i' := fun i i' hi hi' hn a b => hn (h i i' hi hi' a b)
  by_cases h0 : q 0
  · rw [if_pos h0, if_neg (n 0 4 (by decide) (by decide) (by decide) h0), if_neg (n 0 3 (by decide) (by decide) (by decide) h0), if_neg (n 0 2 (by decide) (by decide) (by decide) h0), if_neg (n 0 1 (by decide) (by decide) (by decide) h0), if_pos h0]
  rw [if_neg h0, if_neg h0]
  by_cases h1 : q 1
  · rw [if_pos h1, if_neg (n 1 4 (by decide) (by decide) (by decide) h1), if_neg (n 1 3 (by decide) (by decide) (by decide) h1), if_neg (n 1 2 (by decide) (by decide) (by decide) h1), if_pos h1]
  rw [if_neg h1, if_neg h1]
  by_cases h2 : q 2
  · rw [if_pos h2, if_neg (n 2 4 (by decide) (by decide) (by decide) h2), if_neg (n 2 3 (by decide) (by decide) (by decide) h2), if_pos h2]
  rw [if_neg h2, if_neg h2]
  by_cases h3 : q 3
  · rw [if_pos h3, if_neg (n 3 4 (by decide) (by decide) (by decide) h3), if_pos h3]
  rw [if_neg h3, if_neg h3]
/-- the first prize of a rank is the last -/
theorem prize_eq {pr : Nat → Int32} {z : Nat → Int32} (h : ∀ i, i < 5 → pr i = z (48 + i)) {a : Nat} (ha : a < 5) : pfL pr (nI a) 5 0 = mpZ z (nI a) := by
  have hr : ∀ i, i < 5 → rk pr i = rk (fun j => z (48 + j)) i := fun i hi => cnt5_congr (fun j hj => by unfold Bf; rw [h i hi, h j hj])
  unfold mpZ
  simp only [pfL, mpL, ahL_rk pr (show 0 < 5 by decide), ahL_rk pr (show 0 + 1 < 5 by decide), ahL_rk pr (show 0 + 1 + 1 < 5 by decide), ahL_rk pr (show 0 + 1 + 1 + 1 < 5 by decide), ahL_rk pr (show 0 + 1 + 1 + 1 + 1 < 5 by decide), mhL_rk z (show 0 < 5 by decide), mhL_rk z (show 0 + 1 < 5 by decide), mhL_rk z (show 0 + 1 + 1 < 5 by decide), mhL_rk z (show 0 + 1 + 1 + 1 < 5 by decide), mhL_rk z (show 0 + 1 + 1 + 1 + 1 < 5 by decide)]
  have z0 : z 48 = pr 0 := (h 0 (by decide)).symm
  have z1 : z 49 = pr 1 := (h 1 (by decide)).symm
  have z2 : z 50 = pr 2 := (h 2 (by decide)).symm
  have z3 : z 51 = pr 3 := (h 3 (by decide)).symm
  have z4 : z 52 = pr 4 := (h 4 (by decide)).symm
  simp only [Nat.zero_add, Nat.reduceAdd, (hr 0 (by decide)).symm, (hr 1 (by decide)).symm, (hr 2 (by decide)).symm, (hr 3 (by decide)).symm, (hr 4 (by decide)).symm, z0, z1, z2, z3, z4]
  exact one5 (q := fun i => nI (rk pr i) = nI a) (fun i i' hi hi' e1 e2 => rk_inj (pr := pr) hi hi' (by
    have := (nI_eq (a := rk pr i) (b := a) (by have := rk_le pr i; omega) (by omega)).mp e1
    have := (nI_eq (a := rk pr i') (b := a) (by have := rk_le pr i'; omega) (by omega)).mp e2
    omega)) pr 0
