/-! A BID -/
theorem i32_lt {a b : Nat} (ha : a < 2 ^ 31) (hb : b < 2 ^ 31) : (nI a < nI b) = (a < b) := propext (nI_ltI ha hb)
theorem i32_le {a b : Nat} (ha : a < 2 ^ 31) (hb : b < 2 ^ 31) : (nI a ≤ nI b) = (a ≤ b) := propext (nI_leI ha hb)
theorem none_lt {b : Nat} (h : b < 100000) : (-100006 : Int32) < nI b := by
  rw [Int32.lt_iff_toInt_lt, nI_toInt (by omega)]
  have e2 : (-100006 : Int32).toInt = -100006 := by decide
  omega
/-- the least bid, as a number -/
theorem lsZ_n {z : Nat → Int32} (hS : Stt z) (hH : Hi z) : ∃ n, n ≤ 10008 ∧ lsZ z = nI n ∧ (z 6 = (-100006) ∨ ∃ m, z 6 = nI m ∧ m < n ∧ m ≤ 9999) := by
  obtain ⟨⟨s, hs1, hs2, hs⟩, ⟨f, hf, hff⟩, -, -⟩ := hS
  rcases hH with ⟨h6, -⟩ | ⟨m, hm, h6, -, -⟩
  · exact ⟨f, by omega, by rw [lsZ, if_pos h6, hff], Or.inl h6⟩
  · exact ⟨m + s, by omega, by rw [lsZ, if_neg (by rw [h6]; exact nI_none (by omega)), h6, hs, nI_add], Or.inr ⟨m, h6, by omega, hm⟩⟩
theorem nlt_nI {a b : Nat} (ha : a < 2 ^ 31) (hb : b < 2 ^ 31) (h : ¬ nI a < nI b) : b ≤ a := by rw [i32_lt ha hb] at h; omega
theorem bid_ok {z : Nat → Int32} (hZ : ZB z) (hu : Runs z) {b : Nat} (hb : b ≤ 9999) (hmay : ¬ cbZ z (nI b) = 0) :
    BdOK z (nI b) ∧ ZB (bdZ z (nI b)) ∧ Runs (bdZ z (nI b)) ∧ nin (bdZ z (nI b)) = nin z ∧ bdZ z (nI b) 6 = nI b ∧ (∀ i, i < 5 → bdZ z (nI b) (13 + i) = z (13 + i)) ∧ ∀ T, RelV T z → RelV (takT T (nI b)) (bdZ z (nI b)) := by
  obtain ⟨hS, hL, hC, P, Q, hp⟩ := hZ
  obtain ⟨h4, hn, ⟨j, hj, h5, hgj⟩, hH, hV, hG⟩ := hu
  obtain ⟨n, hn1, hn2, hn3⟩ := lsZ_n hS hH
  obtain ⟨c, hc, hcj⟩ := hC.1 j hj
  have hmay2 : n ≤ b ∧ b ≤ c := by
    unfold cbZ at hmay
    rw [hn2, h5, ix_n hj, hcj] at hmay
    split at hmay
    · exact absurd rfl hmay
    · rename_i q1
      split at hmay
      · exact absurd rfl hmay
      · rename_i q2
        exact ⟨nlt_nI (by omega) (by omega) q1, nlt_nI (by omega) (by omega) q2⟩
  generalize hw : bdA z (nI b) = w
  have hwE : ∀ k, w k = if k = 6 then nI b else if k = 23 + j then nI b else z k := by
    intro k
    rw [← hw, bdA, upd_at, upd_at, h5, ix_n hj]
  have hwz : ∀ k, k ≠ 6 → k ≠ 23 + j → w k = z k := fun k a a2 => by rw [hwE, if_neg a, if_neg a2]
  have hpw : Per (fun i => w (18 + i)) P Q := hp.congr (fun i hi => (hwz _ (by omega) (by omega)).symm)
  have hnw : nin w = nin z := nin_congr (fun i hi => hwz _ (by omega) (by omega))
  obtain ⟨i, hi, hij, hin⟩ := cnt5_other hj hn
  have hin : z (28 + i) = (-100006) := of_decide_eq_true hin
  obtain ⟨hpa, j', hj', hjj, hg', hps, hT⟩ := pass_ok hpw hj (by rw [hwz 5 (by decide) (by omega)]; exact h5) hi hij (by rw [hwz _ (by omega) (by omega)]; exact hin)
  have hbd : bdZ z (nI b) = upd w 5 (nI j') := by rw [bdZ, hw, hps]
  have hE : ∀ k, k ≠ 6 → k ≠ 23 + j → k ≠ 5 → bdZ z (nI b) k = z k := fun k a a2 a3 => by rw [hbd, un a3, hwz k a a2]
  have h6 : bdZ z (nI b) 6 = nI b := by rw [hbd, un (by decide), hwE, if_pos rfl]
  have hbj : bdZ z (nI b) (23 + j) = nI b := by rw [hbd, un (by omega), hwE, if_neg (by omega), if_pos rfl]
  have hgE : ∀ i, i < 5 → bdZ z (nI b) (28 + i) = z (28 + i) := fun i hi => hE _ (by omega) (by omega) (by omega)
  have hnE : nin (bdZ z (nI b)) = nin z := nin_congr hgE
  have hbE : ∀ i, i < 5 → i ≠ j → bdZ z (nI b) (23 + i) = z (23 + i) := fun i hi hx => hE _ (by omega) (by omega) (by omega)
  refine ⟨⟨by rw [h5]; exact vp_in_nI hj (by decide), by rw [hw]; exact hpa⟩, ZB.congr ⟨hS, hL, hC, P, Q, hp⟩ (fun i hi => (hE _ (by omega) (by omega) (by omega)).symm) (fun i hi => ⟨(hE _ (by omega) (by omega) (by omega)).symm, (hE _ (by omega) (by omega) (by omega)).symm, (hE _ (by omega) (by omega) (by omega)).symm, (hE _ (by omega) (by omega) (by omega)).symm⟩), ?_, hnE, h6, fun i hi => hE _ (by omega) (by omega) (by omega), ?_⟩
  · refine ⟨by rw [hE 4 (by decide) (by omega) (by decide)]; exact h4, by rw [hnE]; exact hn, ⟨j', hj', by rw [hbd, us rfl], by rw [hgE _ hj', ← hwz _ (by omega) (by omega)]; exact hg'⟩, Or.inr ⟨b, hb, h6, ⟨j, hj, hbj⟩, fun i hi => ?_⟩, fun i hi hgi => ?_, by rw [hnE]; exact hG.congr (fun i hi => (hgE i hi).symm)⟩
    · by_cases hx : i = j
      · subst hx; exact Or.inr ⟨b, Nat.le_refl _, hbj⟩
      · rw [hbE i hi hx]
        rcases hH with ⟨-, q⟩ | ⟨m, hm, hm6, -, q⟩
        · exact Or.inl (q i hi)
        · rcases q i hi with q | ⟨b', hb', q⟩
          · exact Or.inl q
          · refine Or.inr ⟨b', ?_, q⟩
            rcases hn3 with q6 | ⟨m', q6, hlt, hm9⟩
            · rw [q6] at hm6; exact absurd hm6.symm (nI_none (by omega))
            · rw [q6, nI_eq (by omega) (by omega)] at hm6
              omega
    · rw [hgE i hi] at hgi
      rw [hE (8 + i) (by omega) (by omega) (by omega)]
      by_cases hx : i = j
      · subst hx
        exact Or.inr ⟨b, c, hmay2.2, hc, hbj, hcj⟩
      · rw [hbE i hi hx]
        exact hV i hi hgi
  · intro T hR
    have hr : RelV (tup T 5 j (nI b)) w := by
      have := (hR.up (k := 5) (i := j) (by unfold okc; omega) (rfl : nI b = nI b)).hi (nI b)
      refine this.congr (fun k hk => ?_)
      rw [hwE, upd_at, upd_at]
      rfl
    unfold takT
    rw [hR.tu, h5, isPb_n hj, if_neg lz_o, ix_n hj, hT _ hr, hbd]
    exact hr.up (k := 10) (i := 1) (by unfold okc; omega) rfl
