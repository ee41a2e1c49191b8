/-! STEPS: begin, the turn passes, a bid -/
theorem tup_row (T : Tb) {k k' : Nat} (i : Nat) (x : Int32) (h : k' ≠ k) : tup T k i x k' = T k' := by unfold tup; rw [if_neg h]
theorem un {f : Nat → Int32} {i k : Nat} {x : Int32} (h : k ≠ i) : upd f i x k = f k := by rw [upd_at, if_neg h]
theorem us {f : Nat → Int32} {i k : Nat} {x : Int32} (h : k = i) : upd f i x k = x := by rw [upd_at, if_pos h]
theorem m5 {q i : Nat} (h : q + i < 100000) : nI q + nI i - (nI q + nI i) / 5 * 5 = nI ((q + i) % 5) := by
  rw [nI_add]
  exact pk_rem (a := q + i) (d := 5) (by omega) (by decide) (by decide)
theorem Per.inj {pl : Nat → Int32} {P Q : Nat → Nat} (h : Per pl P Q) {i j : Nat} (hi : i < 5) (hj : j < 5) (e : Q i = Q j) : i = j := by rw [← (h.1 i hi).2.2, e, (h.1 j hj).2.2]
theorem pass_ok {z : Nat → Int32} {P Q : Nat → Nat} (hp : Per (fun i => z (18 + i)) P Q) {j i : Nat} (hj : j < 5) (ht : z 5 = nI j) (hi : i < 5) (hij : i ≠ j) (hin : z (28 + i) = (-100006)) :
    PaOK z ∧ ∃ j', j' < 5 ∧ j' ≠ j ∧ z (28 + j') = (-100006) ∧ psZ z = upd z 5 (nI j') ∧ ∀ T, RelV T z → pasT T = tup T 10 1 (nI j') := by
  have hq := (hp.1 j hj).1
  have hzq : z (18 + j) = nI (Q j) := (hp.1 j hj).2.1
  generalize hQ : Q j = q at hq hzq
  have hP : ∀ a, P ((q + a) % 5) < 5 := fun a => (hp.2 _ (Nat.mod_lt _ (by decide))).1
  have hmA : ∀ a, mAt z (nI ((q + a) % 5)) = nI (P ((q + a) % 5)) := fun a => mAt_per hp (Nat.mod_lt _ (by decide))
  have hne : ∀ a, 1 ≤ a → a ≤ 4 → P ((q + a) % 5) ≠ j := by
    intro a h1 h2 e
    have := (hp.2 ((q + a) % 5) (Nat.mod_lt _ (by decide))).2
    rw [e, hQ] at this
    omega
  have hn1 : nxt q = (q + 1) % 5 := rfl
  have hn2 : nxt ((q + 1) % 5) = (q + 2) % 5 := by unfold nxt; omega
  have hn3 : nxt ((q + 2) % 5) = (q + 3) % 5 := by unfold nxt; omega
  have hn4 : nxt ((q + 3) % 5) = (q + 4) % 5 := by unfold nxt; omega
  have hn5 : nxt ((q + 4) % 5) = (q + 5) % 5 := by unfold nxt; omega
  have hsome : z (28 + P ((q + 1) % 5)) = (-100006) ∨ z (28 + P ((q + 2) % 5)) = (-100006) ∨ z (28 + P ((q + 3) % 5)) = (-100006) ∨ z (28 + P ((q + 4) % 5)) = (-100006) := by
    have hqi := (hp.1 i hi).1
    have hPi := (hp.1 i hi).2.2
    have hdiff : Q i ≠ q := fun e => hij (hp.inj hi hj (e.trans hQ.symm))
    have hk : ∀ a, (q + a) % 5 = Q i → z (28 + P ((q + a) % 5)) = (-100006) := fun a e => by rw [e, hPi]; exact hin
    rcases (show (q + 1) % 5 = Q i ∨ (q + 2) % 5 = Q i ∨ (q + 3) % 5 = Q i ∨ (q + 4) % 5 = Q i by omega) with e | e | e | e
    · exact Or.inl (hk 1 e)
    · exact Or.inr (Or.inl (hk 2 e))
    · exact Or.inr (Or.inr (Or.inl (hk 3 e)))
    · exact Or.inr (Or.inr (Or.inr (hk 4 e)))
  have hps : psZ z = upd z 5 (mAt z (nI (npL z 4 q))) := by
    unfold psZ
    rw [ht, ix_n hj, hzq, ix_n hq]
  have hsd : sdP z 4 q := by
    simp only [sdP, hn1, hn2, hn3, hn4, hn5, hmA, ix_n (hP 1), ix_n (hP 2), ix_n (hP 3), ix_n (hP 4)]
    rcases hsome with h | h | h | h
    · exact Or.inl h
    · exact Or.inr (Or.inl h)
    · exact Or.inr (Or.inr (Or.inl h))
    · exact Or.inr (Or.inr (Or.inr (Or.inl h)))
  refine ⟨⟨by rw [ht]; exact vp_in_nI hj (by decide), by rw [ht, ix_n hj, hzq]; exact vp_in_nI hq (by decide), fun a ha => by rw [mAt_per hp ha]; exact vp_in_nI (hp.2 a ha).1 (by decide), by rw [ht, ix_n hj, hzq, ix_n hq]; exact hsd⟩, ?_⟩
  have hT : ∀ T, RelV T z → pasT T = paL T (nI q) 4 1 := by
    intro T hR
    unfold pasT
    rw [hR.tu, ht, isPb_n hj, if_neg lz_o, ix_n hj, hR.pl hj, hzq]
  have hgo : ∀ T, RelV T z → ∀ a, T 6 (P ((q + a) % 5)) = z (28 + P ((q + a) % 5)) := fun T hR a => hR.go (hP a)
  have hpA : ∀ T, RelV T z → ∀ a, pAt (T 4) (nI ((q + a) % 5)) = nI (P ((q + a) % 5)) := fun T hR a => pAt_per (hp.congr (fun i hi => (hR.pl hi).symm)) (Nat.mod_lt _ (by decide))
  by_cases c1 : z (28 + P ((q + 1) % 5)) = (-100006)
  · refine ⟨_, hP 1, hne 1 (by decide) (by decide), c1, ?_, fun T hR => ?_⟩
    · rw [hps, npL, hn1, hmA, ix_n (hP 1), if_pos c1, hmA]
    · rw [hT T hR, paL, m5 (by omega), hpA T hR, isPb_n (hP 1), if_neg lz_o, ix_n (hP 1), hgo T hR, if_pos c1]
  by_cases c2 : z (28 + P ((q + 2) % 5)) = (-100006)
  · refine ⟨_, hP 2, hne 2 (by decide) (by decide), c2, ?_, fun T hR => ?_⟩
    · rw [hps, npL, hn1, hmA, ix_n (hP 1), if_neg c1, npL, hn2, hmA, ix_n (hP 2), if_pos c2, hmA]
    · rw [hT T hR, paL, m5 (by omega), hpA T hR, isPb_n (hP 1), if_neg lz_o, ix_n (hP 1), hgo T hR, if_neg c1, paL, m5 (by omega), hpA T hR, isPb_n (hP 2), if_neg lz_o, ix_n (hP 2), hgo T hR, if_pos c2]
  by_cases c3 : z (28 + P ((q + 3) % 5)) = (-100006)
  · refine ⟨_, hP 3, hne 3 (by decide) (by decide), c3, ?_, fun T hR => ?_⟩
    · rw [hps, npL, hn1, hmA, ix_n (hP 1), if_neg c1, npL, hn2, hmA, ix_n (hP 2), if_neg c2, npL, hn3, hmA, ix_n (hP 3), if_pos c3, hmA]
    · rw [hT T hR, paL, m5 (by omega), hpA T hR, isPb_n (hP 1), if_neg lz_o, ix_n (hP 1), hgo T hR, if_neg c1, paL, m5 (by omega), hpA T hR, isPb_n (hP 2), if_neg lz_o, ix_n (hP 2), hgo T hR, if_neg c2, paL, m5 (by omega), hpA T hR, isPb_n (hP 3), if_neg lz_o, ix_n (hP 3), hgo T hR, if_pos c3]
  have c4 : z (28 + P ((q + 4) % 5)) = (-100006) := by
    rcases hsome with h | h | h | h
    · exact absurd h c1
    · exact absurd h c2
    · exact absurd h c3
    · exact h
  refine ⟨_, hP 4, hne 4 (by decide) (by decide), c4, ?_, fun T hR => ?_⟩
  · rw [hps, npL, hn1, hmA, ix_n (hP 1), if_neg c1, npL, hn2, hmA, ix_n (hP 2), if_neg c2, npL, hn3, hmA, ix_n (hP 3), if_neg c3, npL, hn4, hmA, ix_n (hP 4), if_pos c4, hmA]
  · rw [hT T hR, paL, m5 (by omega), hpA T hR, isPb_n (hP 1), if_neg lz_o, ix_n (hP 1), hgo T hR, if_neg c1, paL, m5 (by omega), hpA T hR, isPb_n (hP 2), if_neg lz_o, ix_n (hP 2), hgo T hR, if_neg c2, paL, m5 (by omega), hpA T hR, isPb_n (hP 3), if_neg lz_o, ix_n (hP 3), hgo T hR, if_neg c3, paL, m5 (by omega), hpA T hR, isPb_n (hP 4), if_neg lz_o, ix_n (hP 4), hgo T hR, if_pos c4]
theorem nin_all {z : Nat → Int32} (h : ∀ i, i < 5 → z (28 + i) = (-100006)) : nin z = 5 := by
  have f : ∀ i, i < 5 → inG z i = true := fun i hi => by unfold inG; rw [h i hi]; rfl
  unfold nin cnt5
  rw [f 0 (by decide), f 1 (by decide), f 2 (by decide), f 3 (by decide), f 4 (by decide)]
  rfl
theorem start_ok {T : Tb} {z : Nat → Int32} (hR : RelV T z) (hB : ZB z) (h : Idle z) : RelV (staT T) (bgZ z) ∧ ZI (bgZ z) ∧ Runs (bgZ z) := by
  obtain ⟨h1, h2, h3, P, Q, hp⟩ := hB
  have hP0 := (hp.2 0 (by decide)).1
  have e1 : ZE (upd (clZ z) 4 1) (upd z 4 1) := fun k hk => by rw [upd_at, upd_at, clZ_idle h k hk]
  have hm : mAt (upd (clZ z) 4 1) 0 = nI (P 0) := by
    refine mAt_per (a := 0) (hp.congr (fun i hi => ?_)) (by decide)
    rw [e1 (18 + i) (by omega), un (by omega)]
  have e2 : ZE (upd (upd z 4 1) 5 (nI (P 0))) (bgZ z) := fun k hk => by
    unfold bgZ
    rw [hm, upd_at, upd_at (upd (clZ z) 4 1), e1 k hk]
  have hu : ∀ k, k ≠ 4 → k ≠ 5 → upd (upd z 4 1) 5 (nI (P 0)) k = z k := fun k h4 h5 => by rw [un h5, un h4]
  obtain ⟨i4, i5, i6, ib⟩ := h
  have hRuns : Runs (upd (upd z 4 1) 5 (nI (P 0))) := by
    have hg : ∀ i, i < 5 → upd (upd z 4 1) 5 (nI (P 0)) (28 + i) = (-100006) := fun i hi => by rw [hu _ (by omega) (by omega)]; exact (ib i hi).2
    have hb : ∀ i, i < 5 → upd (upd z 4 1) 5 (nI (P 0)) (23 + i) = (-100006) := fun i hi => by rw [hu _ (by omega) (by omega)]; exact (ib i hi).1
    refine ⟨by rw [un (by decide), us rfl], by rw [nin_all hg]; decide, ⟨P 0, hP0, us rfl, hg _ hP0⟩, Or.inl ⟨by rw [hu 6 (by decide) (by decide)]; exact i6, hb⟩, fun i hi _ => Or.inl (hb i hi), fun i hi => Or.inl (hg i hi), fun i i' hi hi' hn _ => absurd (hg i hi) hn⟩
  have hZB : ZB (upd (upd z 4 1) 5 (nI (P 0))) := ZB.congr ⟨h1, h2, h3, P, Q, hp⟩ (fun i hi => (hu _ (by omega) (by omega)).symm) (fun i hi => ⟨(hu _ (by omega) (by omega)).symm, (hu _ (by omega) (by omega)).symm, (hu _ (by omega) (by omega)).symm, (hu _ (by omega) (by omega)).symm⟩)
  have hZ : ZI (bgZ z) := ZI.congr ⟨hZB, Or.inr hRuns⟩ e2
  refine ⟨?_, hZ, hZ.2.resolve_left (fun q => ?_)⟩
  · have hr : RelV (tup (tup T 10 0 1) 10 1 (nI (P 0))) (upd (upd z 4 1) 5 (nI (P 0))) := (hR.up (k := 10) (i := 0) (by unfold okc; omega) rfl).up (k := 10) (i := 1) (by unfold okc; omega) rfl
    have hs : staT T = tup (tup T 10 0 1) 10 1 (nI (P 0)) := by
      unfold staT
      rw [tup_row T 0 1 (show (4 : Nat) ≠ 10 by decide)]
      have : pAt (T 4) 0 = nI (P 0) := pAt_per (a := 0) (hp.congr (fun i hi => (hR.pl hi).symm)) (by decide)
      rw [this]
    rw [hs]
    exact hr.congr e2
  · have := q.1
    rw [← e2 4 (by decide), un (by decide), us rfl] at this
    exact absurd this (by decide)
