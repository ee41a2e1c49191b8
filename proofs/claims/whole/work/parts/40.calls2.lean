/-! THE CALLS, ONE BY ONE: changes -/
/-- the auction's part of the invariant, where only settings, limits, prizes change -/
theorem auc_congr {z z' : Nat → Int32} (h : Idle z ∨ Runs z) (e : ∀ k, (4 ≤ k ∧ k < 7) ∨ (8 ≤ k ∧ k < 13) ∨ (23 ≤ k ∧ k < 33) → z k = z' k) : Idle z' ∨ Runs z' := by
  rcases h with ⟨a, b, c, d⟩ | ⟨a, b, ⟨j, hj, c, d⟩, hh, hc, hg⟩
  · exact Or.inl ⟨by rw [← e 4 (by omega)]; exact a, by rw [← e 5 (by omega)]; exact b, by rw [← e 6 (by omega)]; exact c, fun i hi => by rw [← e (23 + i) (by omega), ← e (28 + i) (by omega)]; exact d i hi⟩
  · have en : nin z = nin z' := nin_congr (fun i hi => e _ (by omega))
    refine Or.inr ⟨by rw [← e 4 (by omega)]; exact a, by rw [← en]; exact b, ⟨j, hj, by rw [← e 5 (by omega)]; exact c, by rw [← e (28 + j) (by omega)]; exact d⟩, hh.congr (e _ (by omega)) (fun i hi => e _ (by omega)), hc.congr (fun i hi => ⟨e _ (by omega), e _ (by omega), e _ (by omega)⟩), ?_⟩
    rw [← en]
    exact hg.congr (fun i hi => e _ (by omega))
theorem ZI.set {z : Nat → Int32} (h : ZI z) {j : Nat} (hj : j < 4) {v : Int32} (hv : ¬ ivB (nI j) v = 0) : ZI (upd z j v) := by
  obtain ⟨⟨⟨s1, s2, s3, s4⟩, hL, ⟨hC, hP⟩, P, Q, hp⟩, ha⟩ := h
  have u : ∀ k, k ≠ j → upd z j v k = z k := fun k hk => un hk
  refine ⟨⟨?_, fun i hi => by rw [u _ (by omega)]; exact hL i hi, ⟨fun i hi => by rw [u _ (by omega)]; exact hC i hi, fun i hi => by rw [u _ (by omega)]; exact hP i hi⟩, P, Q, hp.congr (fun i hi => (u _ (by omega)).symm)⟩, auc_congr ha (fun k hk => (u _ (by omega)).symm)⟩
  unfold ivB at hv
  rcases (show j = 0 ∨ j = 1 ∨ j = 2 ∨ j = 3 by omega) with rfl | rfl | rfl | rfl
  · rw [if_pos (show nI 0 = 0 from rfl)] at hv
    obtain ⟨k, hk1, hk, e⟩ := inB_1of (N := 9) (by decide) hv
    exact ⟨⟨k, hk1, by omega, by rw [us rfl]; exact e⟩, by rw [u 1 (by decide)]; exact s2, by rw [u 2 (by decide)]; exact s3, by rw [u 3 (by decide)]; exact s4⟩
  · rw [if_neg (show ¬ nI 1 = 0 by decide +kernel), if_pos (show nI 1 = 1 from rfl)] at hv
    obtain ⟨k, hk, e⟩ := inB_r (N := 20) (by decide) hv
    exact ⟨by rw [u 0 (by decide)]; exact s1, ⟨k, hk, by rw [us rfl]; exact e⟩, by rw [u 2 (by decide)]; exact s3, by rw [u 3 (by decide)]; exact s4⟩
  · rw [if_neg (show ¬ nI 2 = 0 by decide +kernel), if_neg (show ¬ nI 2 = 1 by decide +kernel), if_pos (show nI 2 = 2 from rfl)] at hv
    obtain ⟨k, hk, e⟩ := inB_r (N := 100) (by decide) hv
    exact ⟨by rw [u 0 (by decide)]; exact s1, by rw [u 1 (by decide)]; exact s2, ⟨k, hk, by rw [us rfl]; exact e⟩, by rw [u 3 (by decide)]; exact s4⟩
  · rw [if_neg (show ¬ nI 3 = 0 by decide +kernel), if_neg (show ¬ nI 3 = 1 by decide +kernel), if_neg (show ¬ nI 3 = 2 by decide +kernel), if_pos (show nI 3 = 3 from rfl)] at hv
    obtain ⟨k, hk, e⟩ := inB_r (N := 100) (by decide) hv
    exact ⟨by rw [u 0 (by decide)]; exact s1, by rw [u 1 (by decide)]; exact s2, by rw [u 2 (by decide)]; exact s3, ⟨k, hk, by rw [us rfl]; exact e⟩⟩
theorem ZI.limit {z : Nat → Int32} (h : ZI z) {j : Nat} (hj : j < 5) {v : Nat} (hv : v ≤ 99) : ZI (upd z (13 + j) (nI v)) := by
  obtain ⟨⟨⟨s1, s2, s3, s4⟩, hL, ⟨hC, hP⟩, P, Q, hp⟩, ha⟩ := h
  have u : ∀ k, k ≠ 13 + j → upd z (13 + j) (nI v) k = z k := fun k hk => un hk
  refine ⟨⟨⟨by rw [u 0 (by omega)]; exact s1, by rw [u 1 (by omega)]; exact s2, by rw [u 2 (by omega)]; exact s3, by rw [u 3 (by omega)]; exact s4⟩, fun i hi => ?_, ⟨fun i hi => by rw [u _ (by omega)]; exact hC i hi, fun i hi => by rw [u _ (by omega)]; exact hP i hi⟩, P, Q, hp.congr (fun i hi => (u _ (by omega)).symm)⟩, auc_congr ha (fun k hk => (u _ (by omega)).symm)⟩
  by_cases hx : i = j
  · subst hx; exact ⟨v, hv, us rfl⟩
  · rw [u _ (by omega)]; exact hL i hi
theorem ZI.prize {z : Nat → Int32} (h : ZI z) {j : Nat} (hj : j < 5) {v : Nat} (hv : v ≤ 99) : ZI (upd z (48 + j) (nI v)) := by
  obtain ⟨⟨⟨s1, s2, s3, s4⟩, hL, ⟨hC, hP⟩, P, Q, hp⟩, ha⟩ := h
  have u : ∀ k, k ≠ 48 + j → upd z (48 + j) (nI v) k = z k := fun k hk => un hk
  refine ⟨⟨⟨by rw [u 0 (by omega)]; exact s1, by rw [u 1 (by omega)]; exact s2, by rw [u 2 (by omega)]; exact s3, by rw [u 3 (by omega)]; exact s4⟩, fun i hi => by rw [u _ (by omega)]; exact hL i hi, ⟨fun i hi => by rw [u _ (by omega)]; exact hC i hi, fun i hi => ?_⟩, P, Q, hp.congr (fun i hi => (u _ (by omega)).symm)⟩, auc_congr ha (fun k hk => (u _ (by omega)).symm)⟩
  by_cases hx : i = j
  · subst hx; exact ⟨v, hv, us rfl⟩
  · rw [u _ (by omega)]; exact hP i hi
theorem ZI.coins {z : Nat → Int32} (h : ZI z) {j : Nat} (hj : j < 5) {v : Nat} (hv : v ≤ 9999) (hb : bnZ z (nI j) (nI v) = 0) : ZI (upd z (8 + j) (nI v)) := by
  obtain ⟨⟨⟨s1, s2, s3, s4⟩, hL, ⟨hC, hP⟩, P, Q, hp⟩, ha⟩ := h
  have u : ∀ k, k ≠ 8 + j → upd z (8 + j) (nI v) k = z k := fun k hk => un hk
  have hcc : ∀ i, i < 5 → ∃ c, c ≤ 9999 ∧ upd z (8 + j) (nI v) (8 + i) = nI c := fun i hi => by
    by_cases hx : i = j
    · subst hx; exact ⟨v, hv, us rfl⟩
    · rw [u _ (by omega)]; exact hC i hi
  refine ⟨⟨⟨by rw [u 0 (by omega)]; exact s1, by rw [u 1 (by omega)]; exact s2, by rw [u 2 (by omega)]; exact s3, by rw [u 3 (by omega)]; exact s4⟩, fun i hi => by rw [u _ (by omega)]; exact hL i hi, ⟨hcc, fun i hi => by rw [u _ (by omega)]; exact hP i hi⟩, P, Q, hp.congr (fun i hi => (u _ (by omega)).symm)⟩, ?_⟩
  rcases ha with ⟨a, b, c, d⟩ | ⟨a, b, ⟨j', hj', c, d⟩, hh, hc, hg⟩
  · exact Or.inl ⟨by rw [u 4 (by omega)]; exact a, by rw [u 5 (by omega)]; exact b, by rw [u 6 (by omega)]; exact c, fun i hi => by rw [u (23 + i) (by omega), u (28 + i) (by omega)]; exact d i hi⟩
  · have en : nin (upd z (8 + j) (nI v)) = nin z := nin_congr (fun i hi => u _ (by omega))
    refine Or.inr ⟨by rw [u 4 (by omega)]; exact a, by rw [en]; exact b, ⟨j', hj', by rw [u 5 (by omega)]; exact c, by rw [u (28 + j') (by omega)]; exact d⟩, hh.congr (u _ (by omega)).symm (fun i hi => (u _ (by omega)).symm), fun i hi hgi => ?_, by rw [en]; exact hg.congr (fun i hi => (u _ (by omega)).symm)⟩
    rw [u (28 + i) (by omega)] at hgi
    rw [u (23 + i) (by omega)]
    by_cases hx : i = j
    · subst hx
      rcases hc i hi hgi with q | ⟨b', c', h1, h2, h3, h4⟩
      · exact Or.inl q
      · refine Or.inr ⟨b', v, ?_, hv, h3, us rfl⟩
        unfold bnZ at hb
        rw [ix_n hi, h3, if_neg (nI_none (by omega)), if_pos hgi] at hb
        by_cases q : nI b' ≤ nI v
        · exact (nI_leI (by omega) (by omega)).mp q
        · rw [if_neg q] at hb; exact absurd hb lz_o
    · rw [u (8 + i) (by omega)]
      exact hc i hi hgi
section CALLS2
variable {T U : Tb} {nx ln : Nat} {ad : Ad} {S : Nat → Tb} {ps : Nat → Int32} {pl : Nat} {z pa st sv pd : Nat → Int32} {n t : Nat}
theorem q_set (h : INV (T, U, nx, ln, ad, S, ps, pl) z pa st sv pd n t) (x v : Int32) : (if seC x v = 0 then T 0 (ix x) else seC x v) = (if ivB x v = 0 then (-100002) else z (ix x)) ∧ ∀ u, INV (if seC x v = 0 then kpC T U nx ln ad S ps pl u (tup T 0 (ix x) v) else (T, U, nx, ln, ad, S, ps, pl)) (if ivB x v = 0 then z else upd z (ix x) v) (if ivB x v = 0 then pa else rcA z pa n) st sv pd (if ivB x v = 0 then n else rcN n) t := by
  rw [seC_iv]
  by_cases hq : ivB x v = 0
  · simp only [if_pos hq, if_neg lz_2]
    exact ⟨trivial, fun _ => h⟩
  · obtain ⟨j, hj, rfl⟩ := ivB_of hq
    simp only [if_neg hq, if_true]
    rw [ix_n (by omega)]
    refine ⟨h.1.se hj, fun u => h.keep u ?_ (h.2.1.set hj hq)⟩
    have := h.1.up (k := 0) (i := j) (by unfold okc; omega) (rfl : v = v)
    rwa [show adr 0 j = j from Nat.zero_add j] at this
theorem q_coins (h : INV (T, U, nx, ln, ad, S, ps, pl) z pa st sv pd n t) (x v : Int32) : (if coC T x v = 0 then T 2 (ix x) else coC T x v) = (if erC z x v = 0 then z (8 + ix x) else erC z x v) ∧ ∀ u, INV (if coC T x v = 0 then kpC T U nx ln ad S ps pl u (tup T 2 (ix x) v) else (T, U, nx, ln, ad, S, ps, pl)) (if erC z x v = 0 then upd z (8 + ix x) v else z) (if erC z x v = 0 then rcA z pa n else pa) st sv pd (if erC z x v = 0 then rcN n else n) t := by
  rw [coC_er h.1 h.2.1]
  by_cases hq : erC z x v = 0
  · simp only [if_pos hq]
    unfold erC at hq
    by_cases h1 : inB x 0 4 = 0
    · rw [if_pos h1] at hq; exact absurd hq lz_1
    rw [if_neg h1] at hq
    by_cases h2 : inB v 0 9999 = 0
    · rw [if_pos h2] at hq; exact absurd hq lz_2
    rw [if_neg h2] at hq
    by_cases h3 : bnZ z x v = 0
    · obtain ⟨j, hj, rfl⟩ := inB_r (N := 4) (by decide) h1
      obtain ⟨b, hb, rfl⟩ := inB_r (N := 9999) (by decide) h2
      rw [ix_n (by omega)]
      exact ⟨h.1.co (by omega), fun u => h.keep u (h.1.up (k := 2) (i := j) (by unfold okc; omega) rfl) (h.2.1.coins (by omega) hb h3)⟩
    · rw [if_neg h3] at hq; exact absurd hq lz_5
  · simp only [if_neg hq]
    exact ⟨trivial, fun _ => h⟩
theorem q_limit (h : INV (T, U, nx, ln, ad, S, ps, pl) z pa st sv pd n t) (x v : Int32) : (if liC x v = 0 then T 3 (ix x) else liC x v) = (if erL x v = 0 then z (13 + ix x) else erL x v) ∧ ∀ u, INV (if liC x v = 0 then kpC T U nx ln ad S ps pl u (tup T 3 (ix x) v) else (T, U, nx, ln, ad, S, ps, pl)) (if erL x v = 0 then upd z (13 + ix x) v else z) (if erL x v = 0 then rcA z pa n else pa) st sv pd (if erL x v = 0 then rcN n else n) t := by
  rw [liC_er]
  by_cases hq : erL x v = 0
  · simp only [if_pos hq]
    unfold erL at hq
    by_cases h1 : inB x 0 4 = 0
    · rw [if_pos h1] at hq; exact absurd hq lz_1
    rw [if_neg h1] at hq
    by_cases h2 : inB v 0 99 = 0
    · rw [if_pos h2] at hq; exact absurd hq lz_2
    obtain ⟨j, hj, rfl⟩ := inB_r (N := 4) (by decide) h1
    obtain ⟨b, hb, rfl⟩ := inB_r (N := 99) (by decide) h2
    rw [ix_n (by omega)]
    exact ⟨h.1.li (by omega), fun u => h.keep u (h.1.up (k := 3) (i := j) (by unfold okc; omega) rfl) (h.2.1.limit (by omega) hb)⟩
  · simp only [if_neg hq]
    exact ⟨trivial, fun _ => h⟩
theorem q_prize (h : INV (T, U, nx, ln, ad, S, ps, pl) z pa st sv pd n t) (x v : Int32) : (if liC x v = 0 then T 1 (ix x) else liC x v) = (if erL x v = 0 then z (48 + ix x) else erL x v) ∧ ∀ u, INV (if liC x v = 0 then kpC T U nx ln ad S ps pl u (tup T 1 (ix x) v) else (T, U, nx, ln, ad, S, ps, pl)) (if erL x v = 0 then upd z (48 + ix x) v else z) (if erL x v = 0 then rcA z pa n else pa) st sv pd (if erL x v = 0 then rcN n else n) t := by
  rw [liC_er]
  by_cases hq : erL x v = 0
  · simp only [if_pos hq]
    unfold erL at hq
    by_cases h1 : inB x 0 4 = 0
    · rw [if_pos h1] at hq; exact absurd hq lz_1
    rw [if_neg h1] at hq
    by_cases h2 : inB v 0 99 = 0
    · rw [if_pos h2] at hq; exact absurd hq lz_2
    obtain ⟨j, hj, rfl⟩ := inB_r (N := 4) (by decide) h1
    obtain ⟨b, hb, rfl⟩ := inB_r (N := 99) (by decide) h2
    rw [ix_n (by omega)]
    exact ⟨h.1.pz (by omega), fun u => h.keep u (h.1.up (k := 1) (i := j) (by unfold okc; omega) rfl) (h.2.1.prize (by omega) hb)⟩
  · simp only [if_neg hq]
    exact ⟨trivial, fun _ => h⟩
theorem ZI.runs {z : Nat → Int32} (h : ZI z) (h4 : ¬ z 4 = 0) : z 4 = 1 ∧ Runs z := by
  have q : Runs z := h.2.resolve_left (fun q => h4 q.1)
  exact ⟨q.1, q⟩
theorem ZI.idle {z : Nat → Int32} (h : ZI z) (h4 : z 4 = 0) : Idle z := h.2.resolve_right (fun q => by rw [q.1] at h4; exact absurd h4 lz_o)
theorem q_begin (h : INV (T, U, nx, ln, ad, S, ps, pl) z pa st sv pd n t) : (if T 10 0 = 0 then staT T 10 1 else (-100005)) = (if z 4 = 1 then (-100005) else bgZ z 5) ∧ ∀ u, INV (if T 10 0 = 0 then kpC T U nx ln ad S ps pl u (staT T) else (T, U, nx, ln, ad, S, ps, pl)) (if z 4 = 1 then z else bgZ z) (if z 4 = 1 then pa else rcA z pa n) st sv pd (if z 4 = 1 then n else rcN n) t := by
  have e : T 10 0 = z 4 := h.1.uw
  rw [e]
  by_cases hq : z 4 = 0
  · obtain ⟨a, b, c⟩ := start_ok h.1 h.2.1.1 (h.2.1.idle hq)
    have h1 : ¬ z 4 = 1 := by rw [hq]; decide
    simp only [if_pos hq, if_neg h1]
    exact ⟨a.tu, fun u => h.keep u a b⟩
  · have h1 := (h.2.1.runs hq).1
    simp only [if_neg hq, if_pos h1]
    exact ⟨trivial, fun _ => h⟩
theorem q_bid (h : INV (T, U, nx, ln, ad, S, ps, pl) z pa st sv pd n t) (v : Int32) : (¬ mbZ z v = 0 → inB v 0 9999 = 1 → BdOK z v) ∧ (if bdC T v = 0 then takT T v 10 1 else bdC T v) = (if erD z v = 0 then bdZ z v 5 else erD z v) ∧ ∀ u, INV (if bdC T v = 0 then kpC T U nx ln ad S ps pl u (takT T v) else (T, U, nx, ln, ad, S, ps, pl)) (if erD z v = 0 then bdZ z v else z) (if erD z v = 0 then rcA z pa n else pa) st sv pd (if erD z v = 0 then rcN n else n) t := by
  rw [bdC_er h.1 h.2.1]
  have hm : ∀ b, b ≤ 9999 → ¬ mbZ z (nI b) = 0 → Runs z ∧ ¬ cbZ z (nI b) = 0 := fun b hb hm => by
    unfold mbZ at hm
    by_cases h4 : z 4 = 1
    · rw [if_pos h4] at hm
      refine ⟨(h.2.1.runs (by rw [h4]; exact lz_o)).2, fun q => hm (by rw [if_pos q])⟩
    · rw [if_neg h4] at hm; exact absurd rfl hm
  refine ⟨fun h1 h2 => ?_, ?_⟩
  · obtain ⟨b, hb, rfl⟩ := inB_r (N := 9999) (x := v) (by decide) (by rw [show nI 9999 = 9999 from rfl, h2]; exact lz_o)
    obtain ⟨a1, a2⟩ := hm b hb h1
    exact (bid_ok h.2.1.1 a1 hb a2).1
  · by_cases hq : erD z v = 0
    · simp only [if_pos hq]
      unfold erD at hq
      by_cases h2 : inB v 0 9999 = 0
      · rw [if_pos h2] at hq; exact absurd hq lz_2
      rw [if_neg h2] at hq
      by_cases h3 : mbZ z v = 0
      · rw [if_pos h3] at hq; exact absurd hq lz_5
      obtain ⟨b, hb, rfl⟩ := inB_r (N := 9999) (by decide) h2
      obtain ⟨a1, a2⟩ := hm b hb h3
      obtain ⟨b1, b2, b3, b4, b5, b6, b7⟩ := bid_ok h.2.1.1 a1 hb a2
      have hr := b7 T h.1
      exact ⟨hr.tu, fun u => h.keep u hr ⟨b2, Or.inr b3⟩⟩
    · simp only [if_neg hq]
      exact ⟨trivial, fun _ => h⟩
theorem q_drop (h : INV (T, U, nx, ln, ad, S, ps, pl) z pa st sv pd n t) : (¬ z 4 = 0 → DrOK z) ∧ (if T 10 0 = 0 then (-100005) else drV T) = (if z 4 = 0 then (-100005) else doZ z 5) ∧ ∀ u, INV (if T 10 0 = 0 then (T, U, nx, ln, ad, S, ps, pl) else kpC T U nx ln ad S ps pl u (drT T)) (if z 4 = 0 then z else doZ z) (if z 4 = 0 then pa else rcA z pa n) st sv pd (if z 4 = 0 then n else rcN n) t := by
  have e : T 10 0 = z 4 := h.1.uw
  rw [e]
  by_cases hq : z 4 = 0
  · simp only [if_pos hq]
    exact ⟨fun q => absurd hq q, trivial, fun _ => h⟩
  · have hu := (h.2.1.runs hq).2
    obtain ⟨a, b, c, d, f⟩ := drop_ok h.2.1.1 hu
    simp only [if_neg hq]
    exact ⟨fun _ => a, drV_ok h.2.1.1 hu h.1, fun u => h.keep u (f T h.1) b⟩
theorem q_act (h : INV (T, U, nx, ln, ad, S, ps, pl) z pa st sv pd n t) : (¬ z 4 = 0 → AcOK z) ∧ (if T 10 0 = 0 then (-100005) else acV T) = (if z 4 = 0 then (-100005) else acZ z 5) ∧ ∀ u, INV (if T 10 0 = 0 then (T, U, nx, ln, ad, S, ps, pl) else kpC T U nx ln ad S ps pl u (acT T)) (if z 4 = 0 then z else acZ z) (if z 4 = 0 then pa else rcA z pa n) st sv pd (if z 4 = 0 then n else rcN n) t := by
  have e : T 10 0 = z 4 := h.1.uw
  rw [e]
  by_cases hq : z 4 = 0
  · simp only [if_pos hq]
    exact ⟨fun q => absurd hq q, trivial, fun _ => h⟩
  · have hu := (h.2.1.runs hq).2
    obtain ⟨a, b, c, d, f⟩ := act_ok h.2.1.1 hu
    simp only [if_neg hq]
    exact ⟨fun _ => a, (f T h.1).2, fun u => h.keep u (f T h.1).1 b⟩
theorem q_finish (h : INV (T, U, nx, ln, ad, S, ps, pl) z pa st sv pd n t) : FiOK z ∧ pAt ((prR T).1 4) 0 = mAt (fiR z).1 0 ∧ ∀ u, INV (kpC T U nx ln ad S ps pl u (prR T).1) (fiR z).1 (rcA z pa n) st sv pd (rcN n) t := by
  obtain ⟨a, b, c, d⟩ := round_ok h.2.1
  obtain ⟨d1, d2⟩ := d T h.1
  obtain ⟨P, Q, hp⟩ := b.1.2.2.2
  refine ⟨a, ?_, fun u => h.keep u d1 b⟩
  have e1 : pAt ((prR T).1 4) 0 = nI (P 0) := pAt_per (a := 0) (hp.congr (fun i hi => (d1.pl hi).symm)) (by decide)
  have e2 : mAt (fiR z).1 0 = nI (P 0) := mAt_per (a := 0) hp (by decide)
  rw [e1, e2]
end CALLS2
