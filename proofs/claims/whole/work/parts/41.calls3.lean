/-! THE CALLS, ONE BY ONE: what there is, and what if -/
theorem inB_toInt (w : Int32) {N : Nat} (hN : N < 2 ^ 30) : inB w 0 (nI N) = if w.toInt < 0 ∨ ((N : Nat) : Int) < w.toInt then 0 else 1 := by
  unfold inB
  have e1 : (w < 0) ↔ (w.toInt < 0) := by
    rw [Int32.lt_iff_toInt_lt]
    have e0 : (0 : Int32).toInt = 0 := by decide
    rw [e0]
  have e2 : (nI N < w) ↔ ((N : Nat) : Int) < w.toInt := by rw [Int32.lt_iff_toInt_lt, nI_toInt (by omega)]
  by_cases h1 : w < 0
  · rw [if_pos h1, if_pos (Or.inl (e1.mp h1))]
  · rw [if_neg h1]
    by_cases h2 : nI N < w
    · rw [if_pos h2, if_pos (Or.inr (e2.mp h2))]
    · rw [if_neg h2, if_neg (fun q => q.elim (fun q => h1 (e1.mpr q)) (fun q => h2 (e2.mpr q)))]
theorem le7 {k : Nat} (h : k ≤ 7) : k = 0 ∨ k = 1 ∨ k = 2 ∨ k = 3 ∨ k = 4 ∨ k = 5 ∨ k = 6 ∨ k = 7 := by omega
theorem q_player {T : Tb} {z : Nat → Int32} (hR : RelV T z) (x w : Int32) : plC T x w = if erW x w 7 = 0 then z ((8 + 5 * ix w) + ix x) else erW x w 7 := by
  unfold plC erW
  rw [isPb_inB]
  by_cases hx : inB x 0 4 = 0
  · rw [if_pos hx, if_pos hx, if_neg lz_1]
  rw [if_neg hx, if_neg hx]
  have hw := inB_toInt w (N := 7) (by decide)
  by_cases h7 : w.toInt < 0 ∨ 7 < w.toInt
  · have : inB w 0 7 = 0 := by rw [show (7 : Int32) = nI 7 from rfl, hw]; exact if_pos h7
    rw [if_pos h7, if_pos this, if_neg lz_2]
  · have h1 : inB w 0 7 = 1 := by rw [show (7 : Int32) = nI 7 from rfl, hw]; exact if_neg h7
    have h1' : ¬ inB w 0 7 = 0 := by rw [h1]; exact lz_o
    rw [if_neg h7, if_neg h1', if_pos rfl]
    obtain ⟨j, hj, rfl⟩ := inB_r (N := 4) (by decide) hx
    obtain ⟨k, hk, rfl⟩ := inB_r (N := 7) (by decide) h1'
    rw [ix_n (n := j) (by omega), show ix (nI k) = k from nI_clamp (by omega), hR (k + 2) j (by unfold okc; omega)]
    rcases le7 hk with rfl | rfl | rfl | rfl | rfl | rfl | rfl | rfl <;> rfl
theorem lt5_le4 (x : Int32) : (x < 5) ↔ (x ≤ 4) := by
  rw [Int32.lt_iff_toInt_lt, Int32.le_iff_toInt_le]
  have e4 : (4 : Int32).toInt = 4 := by decide
  have e5 : (5 : Int32).toInt = 5 := by decide
  rw [e4, e5]
  omega
theorem q_at {T : Tb} {z : Nat → Int32} (hR : RelV T z) (hZ : ZI z) (x : Int32) : (if x < 0 then (-100001) else if x < 5 then pAt (T 4) x else (-100001)) = if inB x 0 4 = 0 then (-100001) else mAt z x := by
  have h := inB_3 x 0 4 (-100001 : Int32) (pAt (T 4) x)
  have e : (if x < 0 then (-100001) else if x < 5 then pAt (T 4) x else (-100001)) = if inB x 0 4 = 0 then (-100001) else pAt (T 4) x := by
    rw [← h]
    by_cases h0 : x < 0
    · rw [if_pos h0, if_pos h0]
    · rw [if_neg h0, if_neg h0]
      by_cases h5 : x < 5
      · rw [if_pos h5, if_pos ((lt5_le4 x).mp h5)]
      · rw [if_neg h5, if_neg (fun q => h5 ((lt5_le4 x).mpr q))]
  rw [e]
  by_cases hx : inB x 0 4 = 0
  · rw [if_pos hx, if_pos hx]
  · rw [if_neg hx, if_neg hx]
    obtain ⟨j, hj, rfl⟩ := inB_r (N := 4) (by decide) hx
    obtain ⟨P, Q, hp⟩ := hZ.1.2.2.2
    rw [pAt_per (hp.congr (fun i hi => (hR.pl hi).symm)) (by omega), mAt_per hp (by omega)]
theorem q_prizeOf {T : Tb} {z : Nat → Int32} (hR : RelV T z) (x : Int32) : (if isPb x = 0 then (-100001) else T 1 (ix x)) = if inB x 0 4 = 0 then (-100001) else z (48 + ix x) := by
  rw [isPb_inB]
  by_cases hx : inB x 0 4 = 0
  · rw [if_pos hx, if_pos hx]
  · rw [if_neg hx, if_neg hx]
    obtain ⟨j, hj, rfl⟩ := inB_r (N := 4) (by decide) hx
    rw [ix_n (by omega), hR.pz (by omega)]
theorem sum_eq {g z : Nat → Int32} {w : Nat} (h : ∀ i, i < 5 → g i = z (w + i)) : sqC g = smB z w := by
  unfold sqC smB
  simp only [sqL, smL, h 0 (by decide), h (0 + 1) (by decide), h (0 + 1 + 1) (by decide), h (0 + 1 + 1 + 1) (by decide), h (0 + 1 + 1 + 1 + 1) (by decide)]
theorem ZI.hi {z : Nat → Int32} (h : ZI z) : Hi z := h.2.elim (fun q => Or.inl ⟨q.2.2.1, fun i hi => (q.2.2.2 i hi).1⟩) (fun q => q.2.2.2.1)
theorem or_0 (x : Int32) : x ||| 0 = x := by
  apply Int32.toBitVec_inj.mp
  rw [Int32.toBitVec_or]
  exact BitVec.or_zero
theorem left_eq {T : Tb} {z : Nat → Int32} (hR : RelV T z) (hZ : ZI z) : plB T = lmZ z := by
  unfold plB lmZ
  rw [hR.uw]
  by_cases h4 : z 4 = 0
  · rw [if_pos h4, lsL, if_neg (by rw [h4]; decide)]
  · have h1 := (hZ.runs h4).1
    rw [if_neg h4]
    simp only [plL, lsL, h1, if_true, or_0, hR.go (show 0 < 5 by decide), hR.go (show 0 + 1 < 5 by decide), hR.go (show 0 + 1 + 1 < 5 by decide), hR.go (show 0 + 1 + 1 + 1 < 5 by decide), hR.go (show 0 + 1 + 1 + 1 + 1 < 5 by decide)]
theorem le15 {k : Nat} (h : k ≤ 15) : k = 0 ∨ k = 1 ∨ k = 2 ∨ k = 3 ∨ k = 4 ∨ k = 5 ∨ k = 6 ∨ k = 7 ∨ k = 8 ∨ k = 9 ∨ k = 10 ∨ k = 11 ∨ k = 12 ∨ k = 13 ∨ k = 14 ∨ k = 15 := by omega
theorem q_count {T : Tb} {z : Nat → Int32} (hR : RelV T z) (hZ : ZI z) (n t : Nat) (x : Int32) : cnC T n t x = cnV z (nI n) (nI t) x := by
  unfold cnC cnV
  have e0 : (0 : Int32).toInt = 0 := by decide
  have e4 : (4 : Int32).toInt = 4 := by decide
  by_cases hr : x.toInt < 0 ∨ 15 < x.toInt
  · rw [if_pos hr]
    have h4 : x.toInt < 4 ∨ 15 < x.toInt := by omega
    by_cases h0 : x < 0
    · rw [if_pos h0, if_pos h4]
    · rw [if_neg h0]
      by_cases h5 : 4 ≤ x
      · rw [if_pos h5, if_pos h4]
      · rw [Int32.lt_iff_toInt_lt, e0] at h0
        rw [Int32.le_iff_toInt_le, e4] at h5
        omega
  · rw [if_neg hr]
    obtain ⟨k, hk, rfl⟩ := sw_in (N := 15) hr (by decide)
    have hx : ix (nI k) = k := nI_clamp (by omega)
    have hn : ¬ nI k < 0 := nI_pos (by omega)
    rw [if_neg hn, hx]
    have hto : (nI k).toInt = k := nI_toInt (by omega)
    by_cases h4 : 4 ≤ k
    · rw [if_pos (show (4 : Int32) ≤ nI k from nI_le (a := 4) (b := k) h4 (by omega)), if_neg (by rw [hto]; omega)]
      rcases le15 (show k ≤ 15 by omega) with rfl | rfl | rfl | rfl | rfl | rfl | rfl | rfl | rfl | rfl | rfl | rfl | rfl | rfl | rfl | rfl
      · omega
      · omega
      · omega
      · omega
      · show (if T 10 0 = 0 then (0 : Int32) else 1) = z 4
        rw [hR.uw]
        rcases hZ.is01 with q | q
        · rw [q, if_pos rfl]
        · rw [q, if_neg lz_o]
      · exact hR.tu
      · exact hiB_ok hZ.hi hR
      · show leB T = if z 4 = 1 then lsZ z else (-100006)
        by_cases q : z 4 = 0
        · rw [if_neg (by rw [q]; decide)]; unfold leB; rw [hR.uw, if_pos q]
        · obtain ⟨q1, hu⟩ := hZ.runs q
          rw [if_pos q1]; exact leB_ok hu hR
      · exact left_eq hR hZ
      · exact hR.ro
      · exact sum_eq (fun i hi => hR.co hi)
      · exact sum_eq (fun i hi => hR.pa hi)
      · exact sum_eq (fun i hi => hR.ta hi)
      · exact sum_eq (fun i hi => hR.pz hi)
      · rfl
      · rfl
    · have h4' : ¬ (4 : Int32) ≤ nI k := fun q => h4 ((nI_leI (a := 4) (b := k) (by decide) (by omega)).mp q)
      rw [if_neg h4', hR.se (by omega)]
      rcases (show k = 0 ∨ k = 1 ∨ k = 2 ∨ k = 3 by omega) with rfl | rfl | rfl | rfl <;> rfl
theorem erI_er (x w : Int32) : erI x w = erW x w 3 := by
  unfold erI erW
  rw [isPb_inB, inB_3]
theorem erM_er (x r : Int32) : erM x r = erR x r := by
  unfold erM erR
  rw [isPb_inB, inB_3]
theorem erN_er (r : Int32) : erN r = if inB r 1 100 = 0 then (-100002) else 0 := by
  unfold erN
  rw [inB_3]
theorem q_ifF {T : Tb} {z : Nat → Int32} (hR : RelV T z) (hZ : ZI z) (x w : Int32) : (¬ erW x w 3 = 0 ∨ FiOK z) ∧ (if erI x w = 0 then ifC T (tyL 1 T) x w else erI x w) = if erW x w 3 = 0 then ifV z x w else erW x w 3 := by
  obtain ⟨a, b, c, d⟩ := round_ok hZ
  refine ⟨Or.inr a, ?_⟩
  rw [erI_er]
  by_cases he : erW x w 3 = 0
  · rw [if_pos he, if_pos he]
    obtain ⟨d1, -⟩ := d T hR
    have hU : tyL 1 T = (prR T).1 := rfl
    rw [hU]
    unfold erW at he
    by_cases h1 : inB x 0 4 = 0
    · rw [if_pos h1] at he; exact absurd he lz_1
    rw [if_neg h1] at he
    by_cases h2 : inB w 0 3 = 0
    · rw [if_pos h2] at he; exact absurd he lz_2
    obtain ⟨j, hj, rfl⟩ := inB_r (N := 4) (by decide) h1
    obtain ⟨k, hk, rfl⟩ := inB_r (N := 3) (by decide) h2
    have hj5 : j < 5 := by omega
    have hto : (nI k).toInt = k := nI_toInt (by omega)
    unfold ifC ifV ifW
    rw [ix_n hj5, show ix (nI k) = k from nI_clamp (by omega), hto]
    rcases (show k = 0 ∨ k = 1 ∨ k = 2 ∨ k = 3 by omega) with rfl | rfl | rfl | rfl
    · rw [if_neg (by omega), if_pos rfl, if_pos (show nI 0 = 0 from rfl)]; exact d1.pl hj5
    · rw [if_neg (by omega), if_neg (by decide), if_pos rfl, if_neg (show ¬ nI 1 = 0 by decide +kernel), if_pos (show nI 1 = 1 from rfl), d1.pa hj5, hR.pa hj5]
    · rw [if_neg (by omega), if_neg (by decide), if_neg (by decide), if_neg (show ¬ nI 2 = 0 by decide +kernel), if_neg (show ¬ nI 2 = 1 by decide +kernel), if_pos (show nI 2 = 2 from rfl), d1.ta hj5, hR.ta hj5]
    · rw [if_pos (by omega), if_neg (show ¬ nI 3 = 0 by decide +kernel), if_neg (show ¬ nI 3 = 1 by decide +kernel), if_neg (show ¬ nI 3 = 2 by decide +kernel), d1.co hj5, hR.co hj5]
  · rw [if_neg he, if_neg he]
theorem play_ok : ∀ (k : Nat) (z : Nat → Int32), ZI z → PlOK k z ∧ ZI (pyL k z) ∧ ∀ T, RelV T z → RelV (tyL k T) (pyL k z) := by
  intro k
  induction k with
  | zero => intro z hZ; exact ⟨trivial, hZ, fun T hR => hR⟩
  | succ k ih =>
    intro z hZ
    obtain ⟨a, b, c, d⟩ := round_ok hZ
    obtain ⟨e, f, g⟩ := ih _ b
    exact ⟨⟨a, e⟩, f, fun T hR => g _ (d T hR).1⟩
theorem q_coinsB {T : Tb} {z : Nat → Int32} (hR : RelV T z) (hZ : ZI z) (x r : Int32) : (¬ erR x r = 0 ∨ PlOK (ix r) z) ∧ (if erM x r = 0 then tyL (ix r) T 2 (ix x) else erM x r) = if erR x r = 0 then pyL (ix r) z (8 + ix x) else erR x r := by
  obtain ⟨a, b, c⟩ := play_ok (ix r) z hZ
  refine ⟨Or.inr a, ?_⟩
  rw [erM_er]
  by_cases he : erR x r = 0
  · rw [if_pos he, if_pos he]
    unfold erR at he
    by_cases h1 : inB x 0 4 = 0
    · rw [if_pos h1] at he; exact absurd he lz_1
    obtain ⟨j, hj, rfl⟩ := inB_r (N := 4) (by decide) h1
    rw [ix_n (by omega)]
    exact (c T hR).co (by omega)
  · rw [if_neg he, if_neg he]
theorem q_moves {T : Tb} {z : Nat → Int32} (hR : RelV T z) (hZ : ZI z) : (z 4 = 0 ∨ FiOK z) ∧ (if T 10 0 = 0 then (-100005) else nI (prR T).2) = if z 4 = 0 then (-100005) else nI (fiR z).2 := by
  obtain ⟨a, b, c, d⟩ := round_ok hZ
  refine ⟨Or.inr a, ?_⟩
  rw [hR.uw, (d T hR).2]
