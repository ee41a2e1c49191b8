/-! A DROP that does not end the auction -/
theorem share_n {b h m : Nat} (hb : b ≤ 9999) (hh : h ≤ 100) (hm : m ≤ 99) : (nI b * nI h + nI m) / 100 = nI ((b * h + m) / 100) := by
  have h1 : b * h ≤ 9999 * 100 := Nat.mul_le_mul hb hh
  rw [pk_mul, nI_add]
  exact pk_div (a := b * h + m) (d := 100) (by omega) (by decide) (by decide)
theorem share_le {b h m : Nat} (hh : h ≤ 100) (hm : m ≤ 99) : (b * h + m) / 100 ≤ b := by
  have h1 : b * h ≤ b * 100 := Nat.mul_le_mul_left b hh
  omega
/-- the drop's payment, in the reference and in the class -/
theorem doA_ok {z : Nat → Int32} (hZ : ZB z) (hV : Cov z) {j : Nat} (hj : j < 5) (h5 : z 5 = nI j) (hg : z (28 + j) = (-100006)) :
    ∃ (c : Nat) (p : Int32), c ≤ 9999 ∧ (∀ k, doA z k = if k = 33 + j then p else if k = 8 + j then nI c else z k) ∧ ∀ T v, RelV T z → RelV (payT (tup T 6 j v) (nI j) (z 3) 0) (upd (doA z) (28 + j) v) := by
  obtain ⟨⟨-, -, -, d, hd, hz3⟩, -, ⟨hC, -⟩, -⟩ := hZ
  obtain ⟨c0, hc0, hcj⟩ := hC j hj
  have hok : ∀ {T : Tb} {v : Int32}, RelV T z → RelV (tup T 6 j v) (upd z (28 + j) v) := fun hR => hR.up (k := 6) (i := j) (by unfold okc; omega) rfl
  by_cases hb : z (23 + j) = (-100006)
  · have hd : doA z = z := by unfold doA; rw [h5, ix_n hj, if_pos hb]
    refine ⟨c0, z (33 + j), hc0, fun k => ?_, fun T v hR => ?_⟩
    · rw [hd]
      split
      · rename_i e; rw [e]
      · split
        · rename_i e; rw [e, hcj]
        · rfl
    · rw [hd]
      unfold payT
      rw [isPb_n hj, if_neg lz_o, ix_n hj, tup_row T j v (show (5 : Nat) ≠ 6 by decide), hR.bi hj, if_pos hb]
      exact hok hR
  · obtain ⟨b, c, hbc, hc, hzb, hzc⟩ := (hV j hj hg).resolve_left hb
    have hsh : z (23 + j) * z 3 / 100 = nI (b * d / 100) := by
      have := share_n (b := b) (h := d) (m := 0) (by omega) hd (by decide)
      rw [show nI 0 = 0 from rfl, Int32.add_zero] at this
      rw [hzb, hz3, this]; rfl
    have hle : b * d / 100 ≤ b := share_le (m := 0) hd (by decide)
    have hd : doA z = upd (upd z (8 + j) (nI (c - b * d / 100))) (33 + j) (z (33 + j) + nI (b * d / 100)) := by
      unfold doA pyZ
      rw [h5, ix_n hj, if_neg hb, hsh, hzc, show nI c - nI (b * d / 100) = nI (c - b * d / 100) from pk_sub (by omega), un (show 33 + j ≠ 8 + j by omega)]
    refine ⟨c - b * d / 100, z (33 + j) + nI (b * d / 100), by omega, fun k => by rw [hd, upd_at, upd_at], fun T v hR => ?_⟩
    have hp : payT (tup T 6 j v) (nI j) (z 3) 0 = tup (tup (tup T 6 j v) 2 j (nI (c - b * d / 100))) 7 j (z (33 + j) + nI (b * d / 100)) := by
      unfold payT
      rw [isPb_n hj, if_neg lz_o, ix_n hj, tup_row T j v (show (5 : Nat) ≠ 6 by decide), hR.bi hj, if_neg hb, Int32.add_zero, hsh, tup_row T j v (show (2 : Nat) ≠ 6 by decide), hR.co hj, hzc, show nI c - nI (b * d / 100) = nI (c - b * d / 100) from pk_sub (by omega), tup_row _ j _ (show (7 : Nat) ≠ 2 by decide), tup_row T j v (show (7 : Nat) ≠ 6 by decide), hR.pa hj]
    rw [hp, hd]
    refine (((hok hR).up (k := 2) (i := j) (by unfold okc; omega) rfl).up (k := 7) (i := j) (by unfold okc; omega) rfl).congr (fun k hk => ?_)
    show upd (upd (upd z (28 + j) v) (8 + j) _) (33 + j) _ k = upd (upd (upd z (8 + j) _) (33 + j) _) (28 + j) v k
    simp only [upd_at]
    repeat' split
    all_goals first | rfl | omega
theorem drop_more {z : Nat → Int32} (hZ : ZB z) (hu : Runs z) (h3 : 3 ≤ nin z) :
    DrOK z ∧ ZB (doZ z) ∧ Runs (doZ z) ∧ nin (doZ z) + 1 = nin z ∧ doZ z 6 = z 6 ∧ (∀ i, i < 5 → doZ z (13 + i) = z (13 + i)) ∧ ∀ T, RelV T z → RelV (drT T) (doZ z) := by
  obtain ⟨h4, hn, ⟨j, hj, h5, hgj⟩, hH, hV, hG⟩ := hu
  obtain ⟨c, p, hc, hA, hT⟩ := doA_ok hZ hV hj h5 hgj
  obtain ⟨hS, hL, ⟨hC, hPz⟩, P, Q, hp⟩ := hZ
  have hn5 := cnt5_le (inG z)
  have hn5 : nin z ≤ 5 := hn5
  have hlf : lfZ z - 1 = nI (nin z - 1) := by rw [lfZ_nin]; exact pk_sub (a := nin z) (b := 1) (by omega)
  have hno : ¬ lfZ z - 1 ≤ 1 := by
    rw [hlf]
    intro q
    have := (nI_leI (a := nin z - 1) (b := 1) (by omega) (by decide)).mp q
    omega
  generalize hy : upd (doA z) (28 + j) (nI (nin z - 1)) = y at *
  have hyE : ∀ k, y k = if k = 28 + j then nI (nin z - 1) else if k = 33 + j then p else if k = 8 + j then nI c else z k := fun k => by rw [← hy, upd_at, hA]
  have hyz : ∀ k, k ≠ 28 + j → k ≠ 33 + j → k ≠ 8 + j → y k = z k := fun k a b d => by rw [hyE, if_neg a, if_neg b, if_neg d]
  have hyg : y (28 + j) = nI (nin z - 1) := by rw [hyE, if_pos rfl]
  obtain ⟨i, hi, hij, hin⟩ := cnt5_other hj hn
  have hin : z (28 + i) = (-100006) := of_decide_eq_true hin
  have hpy : Per (fun i => y (18 + i)) P Q := hp.congr (fun i hi => (hyz _ (by omega) (by omega) (by omega)).symm)
  obtain ⟨hpa, j', hj', hjj, hg', hps, hTp⟩ := pass_ok hpy hj (by rw [hyz 5 (by omega) (by omega) (by omega)]; exact h5) hi hij (by rw [hyz _ (by omega) (by omega) (by omega)]; exact hin)
  have hdo : doZ z = upd y 5 (nI j') := by
    unfold doZ
    rw [if_neg hno, h5, ix_n hj, hlf, hy, hps]
  have hE : ∀ k, k ≠ 5 → doZ z k = y k := fun k a => by rw [hdo, un a]
  have hEz : ∀ k, k ≠ 5 → k ≠ 28 + j → k ≠ 33 + j → k ≠ 8 + j → doZ z k = z k := fun k a b d e => by rw [hE k a, hyz k b d e]
  have hnn : nin (doZ z) + 1 = nin z := by
    refine (cnt5_up hj (decide_eq_true hgj) (decide_eq_false ?_) (fun i hi hx => ?_)).symm
    · rw [hE _ (by omega), hyg]; exact nI_none (by omega)
    · unfold inG; rw [hEz _ (by omega) (by omega) (by omega) (by omega)]
  have hZB : ZB (doZ z) := by
    obtain ⟨s1, s2, s3, s4⟩ := hS
    refine ⟨⟨by rw [hEz 0 (by omega) (by omega) (by omega) (by omega)]; exact s1, by rw [hEz 1 (by omega) (by omega) (by omega) (by omega)]; exact s2, by rw [hEz 2 (by omega) (by omega) (by omega) (by omega)]; exact s3, by rw [hEz 3 (by omega) (by omega) (by omega) (by omega)]; exact s4⟩, fun i hi => by rw [hEz _ (by omega) (by omega) (by omega) (by omega)]; exact hL i hi, ⟨fun i hi => ?_, fun i hi => by rw [hEz _ (by omega) (by omega) (by omega) (by omega)]; exact hPz i hi⟩, P, Q, hp.congr (fun i hi => (hEz _ (by omega) (by omega) (by omega) (by omega)).symm)⟩
    rw [hE _ (by omega), hyE]
    by_cases hx : i = j
    · subst hx; exact ⟨c, hc, by rw [if_neg (by omega), if_neg (by omega), if_pos rfl]⟩
    · rw [if_neg (by omega), if_neg (by omega), if_neg (by omega)]; exact hC i hi
  refine ⟨⟨by rw [h5]; exact vp_in_nI hj (by decide), fun q => absurd q hno, fun _ => by rw [h5, ix_n hj, hlf, hy]; exact hpa⟩, hZB, ?_, hnn, hEz 6 (by decide) (by omega) (by omega) (by omega), fun i hi => hEz _ (by omega) (by omega) (by omega) (by omega), ?_⟩
  · refine ⟨by rw [hEz 4 (by decide) (by omega) (by omega) (by omega)]; exact h4, by omega, ⟨j', hj', by rw [hdo, us rfl], by rw [hE _ (by omega)]; exact hg'⟩, hH.congr (hEz 6 (by decide) (by omega) (by omega) (by omega)).symm (fun i hi => (hEz _ (by omega) (by omega) (by omega) (by omega)).symm), fun i hi hgi => ?_, ⟨fun i hi => ?_, fun i i' hi hi' h1 h2 => ?_⟩⟩
    · have hx : i ≠ j := by
        intro e; subst e
        rw [hE _ (by omega), hyg] at hgi
        exact nI_none (by omega) hgi
      rw [hEz (28 + i) (by omega) (by omega) (by omega) (by omega)] at hgi
      rw [hEz (23 + i) (by omega) (by omega) (by omega) (by omega), hEz (8 + i) (by omega) (by omega) (by omega) (by omega)]
      exact hV i hi hgi
    · by_cases hx : i = j
      · subst hx; exact Or.inr ⟨nin z - 1, by omega, by omega, by rw [hE _ (by omega), hyg]⟩
      · rw [hEz (28 + i) (by omega) (by omega) (by omega) (by omega)]
        rcases hG.1 i hi with q | ⟨a, ha, ha5, q⟩
        · exact Or.inl q
        · exact Or.inr ⟨a, by omega, ha5, q⟩
    · by_cases hx : i = j <;> by_cases hx' : i' = j
      · omega
      · subst hx
        rw [hE _ (by omega), hyg, hEz (28 + i') (by omega) (by omega) (by omega) (by omega)] at h2
        rcases hG.1 i' hi' with q | ⟨a, ha, ha5, q⟩
        · rw [q] at h2; exact absurd h2 (nI_none (by omega))
        · rw [q, nI_eq (by omega) (by omega)] at h2; omega
      · subst hx'
        rw [hE (28 + i') (by omega), hyg, hEz (28 + i) (by omega) (by omega) (by omega) (by omega)] at h2
        rcases hG.1 i hi with q | ⟨a, ha, ha5, q⟩
        · rw [q] at h2; exact absurd h2.symm (nI_none (by omega))
        · rw [q, nI_eq (by omega) (by omega)] at h2; omega
      · rw [hEz (28 + i) (by omega) (by omega) (by omega) (by omega)] at h1 h2
        rw [hEz (28 + i') (by omega) (by omega) (by omega) (by omega)] at h2
        exact hG.2 i i' hi hi' h1 h2
  · intro T hR
    have hbc : bitC (plB T) - 1 = nI (nin z - 1) := by rw [plB_nin hR h4]; exact pk_sub (a := nin z) (b := 1) (by omega)
    have hdA : drA T = tup T 6 j (nI (nin z - 1)) := by unfold drA lfB; rw [hR.tu, h5, ix_n hj, hbc]
    have hdB : RelV (drB T) y := by
      unfold drB
      rw [hdA, tup_row T j _ (show (10 : Nat) ≠ 6 by decide), hR.tu, h5, tup_row T j _ (show (0 : Nat) ≠ 6 by decide), hR.se (show 3 < 4 by decide)]
      rw [← hy]
      exact hT T _ hR
    have h1 : ¬ bitC (plB T) - 1 = 1 := by
      rw [hbc]
      intro q
      have := (nI_eq (a := nin z - 1) (b := 1) (by omega) (by decide)).mp q
      omega
    unfold drT
    rw [hR.tu, h5, isPb_n hj, if_neg lz_o, if_neg h1, hTp _ hdB, hdo]
    exact hdB.up (k := 10) (i := 1) (by unfold okc; omega) rfl
