/-! A BID; A DROP THAT DOES NOT END THE AUCTION -/
theorem bid_T {T : Tb} {B B' : Nat} (h : TI T B) (h1 : ¬ T 10 0 = 0) {b : Nat} (hb : b ≤ 9999) (hB : B ≤ B') (hbB : b ≤ B') (hm : ¬ mayB T (nI b) = 0) :
    TI (takT T (nI b)) B' ∧ takT T (nI b) 10 0 = 1 ∧ ∃ j j', j < 5 ∧ j' < 5 ∧ j' ≠ j ∧ T 10 1 = nI j ∧ T 6 j' = (-100006) ∧ takT T (nI b) = tup (tup T 5 j (nI b)) 10 1 (nI j') ∧ hiB (takT T (nI b)) = nI b := by
  obtain ⟨z, hR, hZ, hu⟩ := h.1.runs h1
  have hu2 := hu
  have hm' : ¬ cbZ z (nI b) = 0 := by rw [← mayB_ok hu hR]; exact hm
  obtain ⟨-, b2, b3, b4, b5, b6, b7⟩ := bid_ok hZ.1 hu hb hm'
  obtain ⟨h4, hn, ⟨j, hj, h5, hgj⟩, hHi, hV, hG⟩ := hu
  obtain ⟨P, Q, hp⟩ := hZ.1.2.2.2
  obtain ⟨i, hi, hij, hin⟩ := cnt5_other hj hn
  have hin : z (28 + i) = (-100006) := of_decide_eq_true hin
  have hr : RelV (tup T 5 j (nI b)) (upd z (23 + j) (nI b)) := hR.up (k := 5) (i := j) (by unfold okc; omega) rfl
  obtain ⟨-, j', hj', hjj, hg', -, hT⟩ := pass_ok (z := upd z (23 + j) (nI b)) (hp.congr (fun i hi => (un (by omega)).symm)) hj (by rw [un (by omega)]; exact h5) hi hij (by rw [un (by omega)]; exact hin)
  have hTk : takT T (nI b) = tup (tup T 5 j (nI b)) 10 1 (nI j') := by
    unfold takT
    rw [hR.tu, h5, isPb_n hj, if_neg lz_o, ix_n hj]
    exact hT _ hr
  refine ⟨⟨⟨⟨_, b7 T hR, b2, Or.inr b3⟩, ?_⟩, ?_⟩, by rw [(b7 T hR).uw]; exact b3.1, j, j', hj, hj', hjj, hR.tu.trans h5, ?_, hTk, ?_⟩
  · rw [hTk]
    unfold WT
    rw [tup_at, if_neg (by omega), tup_at, if_neg (by omega), tup_row _ _ _ (by decide), tup_row _ _ _ (by decide)]
    exact h.1.2
  · intro i hi
    rw [hTk, tup_at, if_neg (by omega), tup_at]
    split
    · exact Or.inr ⟨b, hbB, rfl⟩
    · rcases h.2 i hi with q | ⟨b', hb', q⟩
      · exact Or.inl q
      · exact Or.inr ⟨b', by omega, q⟩
  · rw [hR.go hj', ← hg', un (by omega)]
  · rw [hiB_ok b3.2.2.2.1 (b7 T hR), b5]
/-- what a player who drops pays -/
def shr (T : Tb) (j : Nat) (d : Int32) : Int32 := if T 5 j = (-100006) then 0 else T 5 j * d / 100
theorem pay_at (T : Tb) {j : Nat} (hj : j < 5) (v d : Int32) (k i : Nat) : payT (tup T 6 j v) (nI j) d 0 k i = if k = 2 ∧ i = j then T 2 j - shr T j d else if k = 7 ∧ i = j then T 7 j + shr T j d else if k = 6 ∧ i = j then v else T k i := by
  unfold payT shr
  rw [isPb_n hj, if_neg lz_o, ix_n hj, tup_row T j v (show (5 : Nat) ≠ 6 by decide), tup_row T j v (show (2 : Nat) ≠ 6 by decide)]
  by_cases hb : T 5 j = (-100006)
  · rw [if_pos hb, if_pos hb, Int32.sub_zero, Int32.add_zero, tup_at]
    by_cases hi : i = j
    · subst hi
      by_cases h2 : k = 2
      · subst h2; simp
      · by_cases h7 : k = 7
        · subst h7; simp
        · simp [h2, h7]
    · simp [hi]
  · rw [if_neg hb, if_neg hb, Int32.add_zero, tup_row _ _ _ (show (7 : Nat) ≠ 2 by decide), tup_row _ _ _ (show (7 : Nat) ≠ 6 by decide)]
    simp only [tup_at]
    by_cases hi : i = j
    · subst hi
      by_cases h2 : k = 2
      · subst h2; simp
      · by_cases h7 : k = 7
        · subst h7; simp
        · simp [h2, h7]
    · simp [hi]
theorem drA_eq {T : Tb} {j n : Nat} (h5 : T 10 1 = nI j) (hj : j < 5) (hl : lfB T = nI n) : drB T = payT (tup T 6 j (nI n)) (nI j) (T 0 3) 0 := by
  unfold drB drA
  rw [h5, ix_n hj, hl, tup_row T j _ (show (10 : Nat) ≠ 6 by decide), h5, tup_row T j _ (show (0 : Nat) ≠ 6 by decide)]
theorem lfB_n {T : Tb} (h : TJ T) (h1 : ¬ T 10 0 = 0) : lfB T = nI (nT T - 1) := by
  obtain ⟨z, hR, hZ, hu⟩ := h.runs h1
  unfold lfB
  rw [plB_nin hR hu.1, nT_nin hR]
  exact pk_sub (a := nin z) (b := 1) (by have := hu.2.1; omega)
theorem nT_le (T : Tb) : nT T ≤ 5 := cnt5_le _
/-- a drop, more than two being left -/
theorem more_T {T : Tb} {B : Nat} (h : TI T B) (h1 : ¬ T 10 0 = 0) (h3 : 3 ≤ nT T) :
    TI (drT T) B ∧ drT T 10 0 = 1 ∧ ∃ j j', j < 5 ∧ j' < 5 ∧ j' ≠ j ∧ T 10 1 = nI j ∧ T 6 j = (-100006) ∧ drV T = nI j' ∧ ∀ k i, drT T k i = if k = 10 ∧ i = 1 then nI j' else if k = 2 ∧ i = j then T 2 j - shr T j (T 0 3) else if k = 7 ∧ i = j then T 7 j + shr T j (T 0 3) else if k = 6 ∧ i = j then nI (nT T - 1) else T k i := by
  obtain ⟨z, hR, hZ, hu⟩ := h.1.runs h1
  have hl := lfB_n h.1 h1
  have h3z : 3 ≤ nin z := by rw [← nT_nin hR]; exact h3
  obtain ⟨-, m2, m3, m4, m5, m6, m7⟩ := drop_more hZ.1 hu h3z
  have hu2 := hu
  obtain ⟨h4, hn, ⟨j, hj, h5, hgj⟩, hHi, hV, hG⟩ := hu
  have ht : T 10 1 = nI j := hR.tu.trans h5
  have hB := drA_eq ht hj hl
  obtain ⟨P, Q, hp⟩ := hZ.1.2.2.2
  obtain ⟨i, hi, hij, hin⟩ := cnt5_other hj hn
  have hin : z (28 + i) = (-100006) := of_decide_eq_true hin
  obtain ⟨c, pp, hc, hA, hT0⟩ := doA_ok hZ.1 hV hj h5 hgj
  have hrB : RelV (drB T) (upd (doA z) (28 + j) (nI (nT T - 1))) := by
    rw [hB, hR.se (show 3 < 4 by decide)]
    exact hT0 T _ hR
  have hyE : ∀ k, k ≠ 28 + j → k ≠ 33 + j → k ≠ 8 + j → upd (doA z) (28 + j) (nI (nT T - 1)) k = z k := fun k a b d => by rw [un a, hA, if_neg b, if_neg d]
  obtain ⟨-, j', hj', hjj, hg', -, hT⟩ := pass_ok (z := upd (doA z) (28 + j) (nI (nT T - 1))) (hp.congr (fun i hi => (hyE _ (by omega) (by omega) (by omega)).symm)) hj (by rw [hyE 5 (by omega) (by omega) (by omega)]; exact h5) hi hij (by rw [hyE _ (by omega) (by omega) (by omega)]; exact hin)
  have hno : ¬ bitC (plB T) - 1 = 1 := by
    have e : bitC (plB T) - 1 = nI (nT T - 1) := hl
    rw [e]
    intro q
    have := (nI_eq (a := nT T - 1) (b := 1) (by have := nT_le T; omega) (by decide)).mp q
    omega
  have hdr : drT T = tup (drB T) 10 1 (nI j') := by
    unfold drT
    rw [ht, isPb_n hj, if_neg lz_o, if_neg hno]
    exact hT _ hrB
  have hpt : ∀ k i, drT T k i = if k = 10 ∧ i = 1 then nI j' else if k = 2 ∧ i = j then T 2 j - shr T j (T 0 3) else if k = 7 ∧ i = j then T 7 j + shr T j (T 0 3) else if k = 6 ∧ i = j then nI (nT T - 1) else T k i := fun k i => by
    rw [hdr, tup_at, hB, pay_at T hj]
  refine ⟨⟨⟨⟨_, m7 T hR, m2, Or.inr m3⟩, ?_⟩, ?_⟩, by rw [(m7 T hR).uw]; exact m3.1, j, j', hj, hj', hjj, ht, by rw [hR.go hj]; exact hgj, ?_, hpt⟩
  · unfold WT
    rw [hpt, if_neg (by omega), if_neg (by omega), if_neg (by omega), if_neg (by omega), h.1.2]
    exact s5_congr (fun i hi => by rw [hpt, if_neg (by omega), if_neg (by omega), if_neg (by omega), if_neg (by omega)])
  · intro i hi
    rw [hpt, if_neg (by omega), if_neg (by omega), if_neg (by omega), if_neg (by omega)]
    exact h.2 i hi
  · unfold drV
    rw [ht, isPb_n hj, if_neg lz_o, hpt, if_pos ⟨rfl, rfl⟩]
