/-! SETTINGS, LIMITS, PRIZES, COINS: what holds behind a change -/
theorem isPb_inB (x : Int32) : isPb x = inB x 0 4 := by
  unfold isPb inB
  have e : (4 < x) = (5 ≤ x) := by
    rw [Int32.lt_iff_toInt_lt, Int32.le_iff_toInt_le]
    have e4 : (4 : Int32).toInt = 4 := by decide
    have e5 : (5 : Int32).toInt = 5 := by decide
    rw [e4, e5]
    exact propext (by omega)
  simp only [e]
theorem inB_3 (v lo hi : Int32) {α : Type} (a b : α) : (if v < lo then a else if v ≤ hi then b else a) = if inB v lo hi = 0 then a else b := by
  unfold inB
  by_cases h1 : v < lo
  · rw [if_pos h1, if_pos h1, if_pos rfl]
  · rw [if_neg h1, if_neg h1]
    by_cases h2 : v ≤ hi
    · rw [if_pos h2, if_neg (Int32.not_lt.mpr h2), if_neg lz_o]
    · rw [if_neg h2, if_pos (Int32.not_le.mp h2), if_pos rfl]
theorem inB_r {x : Int32} {N : Nat} (hN : N < 2 ^ 30) (h : ¬ inB x 0 (nI N) = 0) : ∃ j, j ≤ N ∧ x = nI j := by
  obtain ⟨j, hj, e⟩ := inB_of hN h
  exact ⟨j, by omega, e⟩
theorem inB_n {j N : Nat} (hN : N < 2 ^ 30) (hj : j ≤ N) : inB (nI j) 0 (nI N) = 1 := by
  unfold inB
  rw [if_neg (nI_pos (by omega)), if_neg (nI_nlt hj (by omega))]
theorem seC_iv (x v : Int32) : seC x v = if ivB x v = 0 then (-100002) else 0 := by
  unfold seC
  by_cases h0 : x < 0
  · rw [if_pos h0]
    have hn : ∀ k : Nat, k < 4 → ¬ x = nI k := fun k hk e => by rw [e] at h0; exact nI_pos (by omega) h0
    have : ivB x v = 0 := by
      unfold ivB
      rw [if_neg (show ¬ x = 0 from hn 0 (by decide)), if_neg (show ¬ x = 1 from hn 1 (by decide)), if_neg (show ¬ x = 2 from hn 2 (by decide)), if_neg (show ¬ x = 3 from hn 3 (by decide))]
    rw [this, if_pos rfl]
  · rw [if_neg h0]
    by_cases h4 : x < 4
    · rw [if_pos h4]
      obtain ⟨j, hj, rfl⟩ := x_lt (N := 4) (by decide) h0 h4
      rw [ix_n (by omega), inB_3]
      rcases (show j = 0 ∨ j = 1 ∨ j = 2 ∨ j = 3 by omega) with rfl | rfl | rfl | rfl
      · rfl
      · show (if inB v 0 20 = 0 then _ else _) = if ivB (nI 1) v = 0 then _ else _
        have : ivB (nI 1) v = inB v 0 20 := by unfold ivB; rw [if_neg (by decide +kernel), if_pos (by decide +kernel)]
        rw [this]
      · show (if inB v 0 100 = 0 then _ else _) = if ivB (nI 2) v = 0 then _ else _
        have : ivB (nI 2) v = inB v 0 100 := by unfold ivB; rw [if_neg (by decide +kernel), if_neg (by decide +kernel), if_pos (by decide +kernel)]
        rw [this]
      · show (if inB v 0 100 = 0 then _ else _) = if ivB (nI 3) v = 0 then _ else _
        have : ivB (nI 3) v = inB v 0 100 := by unfold ivB; rw [if_neg (by decide +kernel), if_neg (by decide +kernel), if_neg (by decide +kernel), if_pos (by decide +kernel)]
        rw [this]
    · rw [if_neg h4]
      have hn : ∀ k : Nat, k < 4 → ¬ x = nI k := fun k hk e => by rw [e] at h4; exact h4 (nI_lt (a := k) (b := 4) hk (by decide))
      have : ivB x v = 0 := by
        unfold ivB
        rw [if_neg (show ¬ x = 0 from hn 0 (by decide)), if_neg (show ¬ x = 1 from hn 1 (by decide)), if_neg (show ¬ x = 2 from hn 2 (by decide)), if_neg (show ¬ x = 3 from hn 3 (by decide))]
      rw [this, if_pos rfl]
/-- the auction's part of the invariant, where only settings, limits, prizes change -/
theorem auc_congr {z z' : Nat → Int32} (h : Idle z ∨ Runs z) (e : ∀ k, (4 ≤ k ∧ k < 7) ∨ (8 ≤ k ∧ k < 13) ∨ (23 ≤ k ∧ k < 33) → z k = z' k) : Idle z' ∨ Runs z' := by
  rcases h with ⟨a, b, c, d⟩ | ⟨a, b, ⟨j, hj, c, d⟩, hh, hc, hg⟩
  · exact Or.inl ⟨by rw [← e 4 (by omega)]; exact a, by rw [← e 5 (by omega)]; exact b, by rw [← e 6 (by omega)]; exact c, fun i hi => by rw [← e (23 + i) (by omega), ← e (28 + i) (by omega)]; exact d i hi⟩
  · have en : nin z = nin z' := nin_congr (fun i hi => e _ (by omega))
    refine Or.inr ⟨by rw [← e 4 (by omega)]; exact a, by rw [← en]; exact b, ⟨j, hj, by rw [← e 5 (by omega)]; exact c, by rw [← e (28 + j) (by omega)]; exact d⟩, hh.congr (e _ (by omega)) (fun i hi => e _ (by omega)), hc.congr (fun i hi => ⟨e _ (by omega), e _ (by omega), e _ (by omega)⟩), ?_⟩
    rw [← en]
    exact hg.congr (fun i hi => e _ (by omega))
theorem ZI.set {z : Nat → Int32} (h : ZI z) {j : Nat} (hj : j < 4) {v : Int32} (hv : ¬ ivB (nI j) v = 0) : ZI (upd z j v) := by
  obtain ⟨⟨⟨s1, s2, s3, s4⟩, hL, ⟨hC, hP⟩, P, Q, hp⟩, ha⟩ := h
  have u : ∀ k, k ≠ j → upd z j v k = z k := fun k hk => un hk
  refine ⟨⟨?_, fun i hi => by rw [u _ (by omega)]; exact hL i hi, ⟨fun i hi => by rw [u _ (by omega)]; exact hC i hi, fun i hi => by rw [u _ (by omega)]; exact hP i hi⟩, P, Q, hp.congr (fun i hi => (u _ (by omega)).symm)⟩, auc_congr ha (fun k hk => (u _ (by omega)).symm)⟩
  unfold ivB at hv
  rcases (show j = 0 ∨ j = 1 ∨ j = 2 ∨ j = 3 by omega) with rfl | rfl | rfl | rfl
  · rw [if_pos (show nI 0 = 0 from rfl)] at hv
    obtain ⟨k, hk1, hk, e⟩ := inB_1of (N := 9) (by decide) hv
    exact ⟨⟨k, hk1, by omega, by rw [us rfl]; exact e⟩, by rw [u 1 (by decide)]; exact s2, by rw [u 2 (by decide)]; exact s3, by rw [u 3 (by decide)]; exact s4⟩
  · rw [if_neg (show ¬ nI 1 = 0 by decide +kernel), if_pos (show nI 1 = 1 from rfl)] at hv
    obtain ⟨k, hk, e⟩ := inB_r (N := 20) (by decide) hv
    exact ⟨by rw [u 0 (by decide)]; exact s1, ⟨k, hk, by rw [us rfl]; exact e⟩, by rw [u 2 (by decide)]; exact s3, by rw [u 3 (by decide)]; exact s4⟩
  · rw [if_neg (show ¬ nI 2 = 0 by decide +kernel), if_neg (show ¬ nI 2 = 1 by decide +kernel), if_pos (show nI 2 = 2 from rfl)] at hv
    obtain ⟨k, hk, e⟩ := inB_r (N := 100) (by decide) hv
    exact ⟨by rw [u 0 (by decide)]; exact s1, by rw [u 1 (by decide)]; exact s2, ⟨k, hk, by rw [us rfl]; exact e⟩, by rw [u 3 (by decide)]; exact s4⟩
  · rw [if_neg (show ¬ nI 3 = 0 by decide +kernel), if_neg (show ¬ nI 3 = 1 by decide +kernel), if_neg (show ¬ nI 3 = 2 by decide +kernel), if_pos (show nI 3 = 3 from rfl)] at hv
    obtain ⟨k, hk, e⟩ := inB_r (N := 100) (by decide) hv
    exact ⟨by rw [u 0 (by decide)]; exact s1, by rw [u 1 (by decide)]; exact s2, by rw [u 2 (by decide)]; exact s3, ⟨k, hk, by rw [us rfl]; exact e⟩⟩
theorem ZI.limit {z : Nat → Int32} (h : ZI z) {j : Nat} (hj : j < 5) {v : Nat} (hv : v ≤ 99) : ZI (upd z (13 + j) (nI v)) := by
  obtain ⟨⟨⟨s1, s2, s3, s4⟩, hL, ⟨hC, hP⟩, P, Q, hp⟩, ha⟩ := h
  have u : ∀ k, k ≠ 13 + j → upd z (13 + j) (nI v) k = z k := fun k hk => un hk
  refine ⟨⟨⟨by rw [u 0 (by omega)]; exact s1, by rw [u 1 (by omega)]; exact s2, by rw [u 2 (by omega)]; exact s3, by rw [u 3 (by omega)]; exact s4⟩, fun i hi => ?_, ⟨fun i hi => by rw [u _ (by omega)]; exact hC i hi, fun i hi => by rw [u _ (by omega)]; exact hP i hi⟩, P, Q, hp.congr (fun i hi => (u _ (by omega)).symm)⟩, auc_congr ha (fun k hk => (u _ (by omega)).symm)⟩
  by_cases hx : i = j
  · subst hx; exact ⟨v, hv, us rfl⟩
  · rw [u _ (by omega)]; exact hL i hi
theorem ZI.prize {z : Nat → Int32} (h : ZI z) {j : Nat} (hj : j < 5) {v : Nat} (hv : v ≤ 99) : ZI (upd z (48 + j) (nI v)) := by
  obtain ⟨⟨⟨s1, s2, s3, s4⟩, hL, ⟨hC, hP⟩, P, Q, hp⟩, ha⟩ := h
  have u : ∀ k, k ≠ 48 + j → upd z (48 + j) (nI v) k = z k := fun k hk => un hk
  refine ⟨⟨⟨by rw [u 0 (by omega)]; exact s1, by rw [u 1 (by omega)]; exact s2, by rw [u 2 (by omega)]; exact s3, by rw [u 3 (by omega)]; exact s4⟩, fun i hi => by rw [u _ (by omega)]; exact hL i hi, ⟨fun i hi => by rw [u _ (by omega)]; exact hC i hi, fun i hi => ?_⟩, P, Q, hp.congr (fun i hi => (u _ (by omega)).symm)⟩, auc_congr ha (fun k hk => (u _ (by omega)).symm)⟩
  by_cases hx : i = j
  · subst hx; exact ⟨v, hv, us rfl⟩
  · rw [u _ (by omega)]; exact hP i hi
theorem ZI.coins {z : Nat → Int32} (h : ZI z) {j : Nat} (hj : j < 5) {v : Nat} (hv : v ≤ 9999) (hb : bnZ z (nI j) (nI v) = 0) : ZI (upd z (8 + j) (nI v)) := by
  obtain ⟨⟨⟨s1, s2, s3, s4⟩, hL, ⟨hC, hP⟩, P, Q, hp⟩, ha⟩ := h
  have u : ∀ k, k ≠ 8 + j → upd z (8 + j) (nI v) k = z k := fun k hk => un hk
  have hcc : ∀ i, i < 5 → ∃ c, c ≤ 9999 ∧ upd z (8 + j) (nI v) (8 + i) = nI c := fun i hi => by
    by_cases hx : i = j
    · subst hx; exact ⟨v, hv, us rfl⟩
    · rw [u _ (by omega)]; exact hC i hi
  refine ⟨⟨⟨by rw [u 0 (by omega)]; exact s1, by rw [u 1 (by omega)]; exact s2, by rw [u 2 (by omega)]; exact s3, by rw [u 3 (by omega)]; exact s4⟩, fun i hi => by rw [u _ (by omega)]; exact hL i hi, ⟨hcc, fun i hi => by rw [u _ (by omega)]; exact hP i hi⟩, P, Q, hp.congr (fun i hi => (u _ (by omega)).symm)⟩, ?_⟩
  rcases ha with ⟨a, b, c, d⟩ | ⟨a, b, ⟨j', hj', c, d⟩, hh, hc, hg⟩
  · exact Or.inl ⟨by rw [u 4 (by omega)]; exact a, by rw [u 5 (by omega)]; exact b, by rw [u 6 (by omega)]; exact c, fun i hi => by rw [u (23 + i) (by omega), u (28 + i) (by omega)]; exact d i hi⟩
  · have en : nin (upd z (8 + j) (nI v)) = nin z := nin_congr (fun i hi => u _ (by omega))
    refine Or.inr ⟨by rw [u 4 (by omega)]; exact a, by rw [en]; exact b, ⟨j', hj', by rw [u 5 (by omega)]; exact c, by rw [u (28 + j') (by omega)]; exact d⟩, hh.congr (u _ (by omega)).symm (fun i hi => (u _ (by omega)).symm), fun i hi hgi => ?_, by rw [en]; exact hg.congr (fun i hi => (u _ (by omega)).symm)⟩
    rw [u (28 + i) (by omega)] at hgi
    rw [u (23 + i) (by omega)]
    by_cases hx : i = j
    · subst hx
      rcases hc i hi hgi with q | ⟨b', c', h1, h2, h3, h4⟩
      · exact Or.inl q
      · refine Or.inr ⟨b', v, ?_, hv, h3, us rfl⟩
        unfold bnZ at hb
        rw [ix_n hi, h3, if_neg (nI_none (by omega)), if_pos hgi] at hb
        by_cases q : nI b' ≤ nI v
        · exact (nI_leI (by omega) (by omega)).mp q
        · rw [if_neg q] at hb; exact absurd hb lz_o
    · rw [u (8 + i) (by omega)]
      exact hc i hi hgi
