/-! SETTINGS, LIMITS, PRIZES, COINS: the state behind a change -/
theorem TI_up {T : Tb} {B : Nat} (h : TI T B) {k i : Nat} (hk : okc k i) (h10 : k ≠ 10) (h9 : k ≠ 9) (h5 : k ≠ 5) {x : Int32} (hz : ∀ z, RelV T z → ZI z → ZI (upd z (adr k i) x)) : TI (tup T k i x) B := by
  obtain ⟨⟨⟨z, hR, hZ⟩, hW⟩, hH⟩ := h
  refine ⟨⟨⟨_, hR.up hk rfl, hz z hR hZ⟩, ?_⟩, fun j hj => ?_⟩
  · unfold WT
    rw [tup_row _ _ _ (show (10 : Nat) ≠ k by omega), tup_row _ _ _ (show (9 : Nat) ≠ k by omega)]
    exact hW
  · rw [tup_row _ _ _ (show (5 : Nat) ≠ k by omega)]
    exact hH j hj
theorem TI_set {T : Tb} {B : Nat} (h : TI T B) {j : Nat} (hj : j < 4) {v : Nat} (hv : seC (nI j) (nI v) = 0) : TI (tup T 0 j (nI v)) B := by
  refine TI_up h (by unfold okc; omega) (by decide) (by decide) (by decide) (fun z hR hZ => ?_)
  rw [seC_iv] at hv
  rw [show adr 0 j = j from Nat.zero_add j]
  exact hZ.set hj (fun q => by rw [if_pos q] at hv; exact absurd hv lz_2)
theorem TI_limit {T : Tb} {B : Nat} (h : TI T B) {j : Nat} (hj : j < 5) {v : Nat} (hv : v ≤ 99) : TI (tup T 3 j (nI v)) B :=
  TI_up h (by unfold okc; omega) (by decide) (by decide) (by decide) (fun z hR hZ => hZ.limit hj hv)
theorem TI_prize {T : Tb} {B : Nat} (h : TI T B) {j : Nat} (hj : j < 5) {v : Nat} (hv : v ≤ 99) : TI (tup T 1 j (nI v)) B :=
  TI_up h (by unfold okc; omega) (by decide) (by decide) (by decide) (fun z hR hZ => hZ.prize hj hv)
theorem TI_coins {T : Tb} {B : Nat} (h : TI T B) {j : Nat} (hj : j < 5) {v : Nat} (hv : v ≤ 9999) (hb : T 5 j ≤ nI v ∨ ¬ T 6 j = (-100006)) : TI (tup T 2 j (nI v)) B :=
  TI_up h (by unfold okc; omega) (by decide) (by decide) (by decide) (fun z hR hZ => hZ.coins hj hv (by
    unfold bnZ
    rw [ix_n hj, ← hR.bi hj, ← hR.go hj]
    by_cases h1 : T 5 j = (-100006)
    · rw [if_pos h1]
    · rw [if_neg h1]
      by_cases h2 : T 6 j = (-100006)
      · rw [if_pos h2, if_pos (hb.resolve_right (fun q => q h2))]
      · rw [if_neg h2]))
theorem coC_ok {T : Tb} {j : Nat} (hj : j < 5) {v : Nat} (hv : v ≤ 9999) (hb : T 5 j ≤ nI v ∨ ¬ T 6 j = (-100006)) : coC T (nI j) (nI v) = 0 := by
  have hc : covB T (nI j) ≤ nI v := by
    unfold covB
    rw [isPb_n hj, if_neg lz_o, ix_n hj]
    by_cases h2 : T 6 j = (-100006)
    · rw [if_pos h2]
      split
      · exact hb.resolve_right (fun q => q h2)
      · exact nI_pos' (by omega)
    · rw [if_neg h2]; exact nI_pos' (by omega)
  unfold coC
  rw [isPb_n hj, if_neg lz_o, if_neg (nI_pos (by omega)), if_pos (show nI v ≤ 9999 from nI_le (b := 9999) hv (by decide)), if_pos hc]
theorem coC_bound {T : Tb} {j : Nat} (hj : j < 5) {v : Nat} (hv : v ≤ 9999) (h1 : ¬ T 5 j ≤ nI v) (h2 : T 6 j = (-100006)) : coC T (nI j) (nI v) = (-100005) := by
  have h0 : (0 : Int32) < T 5 j := Int32.lt_of_le_of_lt (nI_pos' (n := v) (by omega)) (Int32.not_le.mp h1)
  have hc : ¬ covB T (nI j) ≤ nI v := by
    unfold covB
    rw [isPb_n hj, if_neg lz_o, ix_n hj, if_pos h2, if_pos h0]
    exact h1
  unfold coC
  rw [isPb_n hj, if_neg lz_o, if_neg (nI_pos (by omega)), if_pos (show nI v ≤ 9999 from nI_le (b := 9999) hv (by decide)), if_neg hc]
theorem liC_ok {j : Nat} (hj : j < 5) {v : Nat} (hv : v ≤ 99) : liC (nI j) (nI v) = 0 := by
  unfold liC
  rw [isPb_n hj, if_neg lz_o, if_neg (nI_pos (by omega)), if_pos (show nI v ≤ 99 from nI_le (b := 99) hv (by decide))]
theorem seC_ok {j v : Nat} (h : (j = 0 ∧ 1 ≤ v ∧ v ≤ 9) ∨ (j = 1 ∧ v ≤ 20) ∨ (2 ≤ j ∧ j < 4 ∧ v ≤ 100)) : seC (nI j) (nI v) = 0 := by
  unfold seC
  rw [if_neg (nI_pos (by omega)), if_pos (show nI j < 4 from nI_lt (b := 4) (by omega) (by decide)), show ix (nI j) = j from nI_clamp (by omega)]
  rcases h with ⟨rfl, h1, h2⟩ | ⟨rfl, h1⟩ | ⟨h1, h2, h3⟩
  · show (if nI v < 1 then (-100002) else if nI v ≤ 9 then 0 else (-100002)) = (0 : Int32)
    rw [if_neg (show ¬ nI v < 1 from nI_nlt (b := 1) h1 (by omega)), if_pos (show nI v ≤ 9 from nI_le (b := 9) h2 (by decide))]
  · show (if nI v < 0 then (-100002) else if nI v ≤ 20 then 0 else (-100002)) = (0 : Int32)
    rw [if_neg (show ¬ nI v < 0 from nI_pos (by omega)), if_pos (show nI v ≤ 20 from nI_le (b := 20) h1 (by decide))]
  · rcases (show j = 2 ∨ j = 3 by omega) with rfl | rfl
    · show (if nI v < 0 then (-100002) else if nI v ≤ 100 then 0 else (-100002)) = (0 : Int32)
      rw [if_neg (show ¬ nI v < 0 from nI_pos (by omega)), if_pos (show nI v ≤ 100 from nI_le (b := 100) h3 (by decide))]
    · show (if nI v < 0 then (-100002) else if nI v ≤ 100 then 0 else (-100002)) = (0 : Int32)
      rw [if_neg (show ¬ nI v < 0 from nI_pos (by omega)), if_pos (show nI v ≤ 100 from nI_le (b := 100) h3 (by decide))]
