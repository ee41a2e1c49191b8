/-! THE PAD'S FAULT: the class's automaton against the reference's reader -/
/-- how many more digits may come -/
def rem4 (v : Int32) : Int32 := if v ≤ 0 then 0 else if v < 10 then 3 else if v < 100 then 2 else if v < 1000 then 1 else 0
theorem dig_in (x : Int32) : digB x = inB x 48 57 := rfl
theorem saB_n (pd : Nat → Int32) {i : Nat} (h : i < 60) : saB pd (nI i) = pd i := by
  unfold saB
  rw [if_neg (nI_pos (by omega)), if_neg (show ¬ (60 : Int32) ≤ nI i from fun q => by have := (nI_leI (a := 60) (b := i) (by decide) (by omega)).mp q; omega), show ix (nI i) = i from nI_clamp (by omega)]
/-- what may be in a reader's hand -/
def Vok (v : Int32) : Prop := v ≤ 0 ∨ ∃ a, 1 ≤ a ∧ a ≤ 9999 ∧ v = nI a
theorem rem_le {v : Int32} (h : v ≤ 0) : rem4 v = 0 := if_pos h
theorem rem_n {a : Nat} (h1 : 1 ≤ a) (h : a ≤ 9999) : rem4 (nI a) = if a < 10 then 3 else if a < 100 then 2 else if a < 1000 then 1 else 0 := by
  have l : ∀ b : Nat, b < 100000 → ((nI a < nI b) ↔ a < b) := fun b hb => nI_ltI (by omega) (by omega)
  unfold rem4
  rw [if_neg (fun q => by have := (nI_leI (a := a) (b := 0) (by omega) (by decide)).mp q; omega)]
  by_cases h10 : a < 10
  · rw [if_pos h10, if_pos (show nI a < 10 from (l 10 (by decide)).mpr h10)]
  · rw [if_neg h10, if_neg (show ¬ nI a < 10 from fun q => h10 ((l 10 (by decide)).mp q))]
    by_cases h100 : a < 100
    · rw [if_pos h100, if_pos (show nI a < 100 from (l 100 (by decide)).mpr h100)]
    · rw [if_neg h100, if_neg (show ¬ nI a < 100 from fun q => h100 ((l 100 (by decide)).mp q))]
      by_cases h1000 : a < 1000
      · rw [if_pos h1000, if_pos (show nI a < 1000 from (l 1000 (by decide)).mpr h1000)]
      · rw [if_neg h1000, if_neg (show ¬ nI a < 1000 from fun q => h1000 ((l 1000 (by decide)).mp q))]
theorem rem_ne {v : Int32} : ¬ rem4 v = -1 := by
  unfold rem4
  repeat' split
  all_goals decide
theorem dig_n {x : Int32} (h : ¬ inB x 48 57 = 0) : ∃ d, d ≤ 9 ∧ x = nI (48 + d) := by
  unfold inB at h
  split at h
  · exact absurd rfl h
  · rename_i h1
    split at h
    · exact absurd rfl h
    · rename_i h2
      have h0 : ¬ x < 0 := fun q => h1 (Int32.lt_trans q (by decide))
      obtain ⟨j, hj, rfl⟩ := nI_of2 (M := 57) (n := 57) (by decide) h0 (Int32.not_lt.mp h2)
      have : ¬ j < 48 := fun q => h1 (nI_lt (a := j) (b := 48) q (by decide))
      exact ⟨j - 48, by omega, by rw [show 48 + (j - 48) = j by omega]⟩
theorem dig_44 {d : Nat} (h : d ≤ 9) : ¬ nI (48 + d) = 44 := fun e => by
  have := (nI_eq (a := 48 + d) (b := 44) (by omega) (by decide)).mp e
  omega
/-- the next number in hand -/
theorem next_n {a d : Nat} (ha : a ≤ 9999) (hd : d ≤ 9) : (10 : Int32) * nI a + nI (48 + d) - 48 = nI (10 * a + d) := by
  have e : (10 : Int32) * nI a = nI (10 * a) := pk_mul (a := 10) (b := a)
  rw [e, nI_add]
  have : nI (10 * a + (48 + d)) - nI 48 = nI (10 * a + (48 + d) - 48) := pk_sub (by omega)
  rw [show (48 : Int32) = nI 48 from rfl, this, show 10 * a + (48 + d) - 48 = 10 * a + d by omega]
/-- the reader has stopped at s -/
def Stop (pd : Nat → Int32) (t s : Nat) (v : Int32) : Prop := s = t ∨ (s < t ∧ duB (rem4 v) (pd s) = if pd s = 44 then (-1) else (-2))
theorem du_stop {d x : Int32} (h : ¬ d = -1) (h2 : d ≤ 0 ∨ digB x = 0) : duB d x = if x = 44 then (-1) else (-2) := by
  unfold duB
  rw [if_neg h]
  by_cases h44 : x = 44
  · rw [if_pos h44, if_pos h44]
  · rw [if_neg h44, if_neg h44]
    rcases h2 with q | q
    · rw [if_pos q]
    · rw [if_pos q]; split <;> rfl
theorem rd_fq {pd : Nat → Int32} {t : Nat} (ht : t ≤ 60) : ∀ (f s : Nat) (v : Int32), s + f = 61 → s ≤ t → Vok v →
    s ≤ (rdL pd t f s v).1 ∧ (rdL pd t f s v).1 ≤ t ∧ Vok (rdL pd t f s v).2 ∧ Stop pd t (rdL pd t f s v).1 (rdL pd t f s v).2 ∧ fqL pd (t - s) s (rem4 v) = fqL pd (t - (rdL pd t f s v).1) (rdL pd t f s v).1 (rem4 (rdL pd t f s v).2) := by
  intro f
  induction f with
  | zero => intro s v h1 h2 _; omega
  | succ f ih =>
    intro s v h1 h2 hv
    have stop : (s = t ∨ (s < t ∧ (rem4 v ≤ 0 ∨ digB (pd s) = 0))) → s ≤ s ∧ s ≤ t ∧ Vok v ∧ Stop pd t s v ∧ fqL pd (t - s) s (rem4 v) = fqL pd (t - s) s (rem4 v) := fun h => ⟨Nat.le_refl _, h2, hv, h.imp id (fun q => ⟨q.1, du_stop rem_ne q.2⟩), rfl⟩
    rw [rdL]
    by_cases hv0 : v ≤ 0
    · rw [if_pos hv0]
      refine stop ?_
      rcases Nat.lt_or_ge s t with q | q
      · exact Or.inr ⟨q, Or.inl (by rw [rem_le hv0]; decide)⟩
      · exact Or.inl (by omega)
    · rw [if_neg hv0]
      obtain ⟨a, ha1, ha2, rfl⟩ := hv.resolve_left hv0
      by_cases hs : seB pd s t 48 57 = 0
      · rw [if_pos hs]
        refine stop ?_
        rcases Nat.lt_or_ge s t with q | q
        · refine Or.inr ⟨q, Or.inr ?_⟩
          unfold seB at hs
          rw [if_neg (nI_ge q (by omega))] at hs
          rw [dig_in]
          by_cases e : inB (pd s) 48 57 = 0
          · exact e
          · rw [if_neg e] at hs; exact absurd hs lz_o
        · exact Or.inl (by omega)
      · rw [if_neg hs]
        have hst : s < t := seB_lt (by omega) hs
        have hdg : ¬ inB (pd s) 48 57 = 0 := by
          unfold seB at hs
          rw [if_neg (nI_ge hst (by omega))] at hs
          exact fun e => hs (by rw [if_pos e])
        obtain ⟨d, hd, hx⟩ := dig_n hdg
        rw [hx, next_n ha2 hd]
        by_cases hov : (9999 : Int32) < nI (10 * a + d)
        · rw [if_pos hov]
          have : 9999 < 10 * a + d := (nI_ltI (a := 9999) (b := 10 * a + d) (by decide) (by omega)).mp hov
          refine stop (Or.inr ⟨hst, Or.inl ?_⟩)
          rw [rem_n ha1 ha2, if_neg (by omega), if_neg (by omega), if_neg (by omega)]
          decide
        · rw [if_neg hov]
          have hle : 10 * a + d ≤ 9999 := by
            rcases Nat.lt_or_ge 9999 (10 * a + d) with q | q
            · exact absurd ((nI_ltI (a := 9999) (b := 10 * a + d) (by decide) (by omega)).mpr q) hov
            · exact q
          obtain ⟨i1, i2, i3, i4, i5⟩ := ih (s + 1) (nI (10 * a + d)) (by omega) hst (Or.inr ⟨10 * a + d, by omega, hle, rfl⟩)
          refine ⟨by omega, i2, i3, i4, ?_⟩
          rw [← i5, show t - s = (t - (s + 1)) + 1 by omega, fqL, saB_n pd (by omega), hx]
          have hdu : duB (rem4 (nI a)) (nI (48 + d)) = rem4 (nI (10 * a + d)) := by
            have hgt : ¬ rem4 (nI a) ≤ 0 := by
              rw [rem_n ha1 ha2]
              by_cases q1 : a < 10
              · rw [if_pos q1]; decide
              · rw [if_neg q1]
                by_cases q2 : a < 100
                · rw [if_pos q2]; decide
                · rw [if_neg q2, if_pos (by omega)]; decide
            have hdg2 : ¬ digB (nI (48 + d)) = 0 := by rw [dig_in, ← hx]; exact hdg
            unfold duB
            rw [if_neg rem_ne, if_neg (dig_44 hd), if_neg hgt, if_neg hdg2, rem_n ha1 ha2, rem_n (by omega) hle]
            by_cases q1 : a < 10
            · rw [if_pos q1, if_neg (by omega), if_pos (by omega)]; decide
            · rw [if_neg q1]
              by_cases q2 : a < 100
              · rw [if_pos q2, if_neg (by omega), if_neg (by omega), if_pos (by omega)]; decide
              · rw [if_neg q2, if_pos (by omega), if_neg (by omega), if_neg (by omega), if_neg (by omega)]; decide
          have hne : ¬ rem4 (nI (10 * a + d)) = -2 := by
            rw [rem_n (by omega) hle]
            repeat' split
            all_goals decide
          rw [hdu, if_neg hne]
/-- what the first sign of a move puts into the hand -/
def v0 (x : Int32) : Int32 := if inB x 48 57 = 0 then x - 1000 else x - 48
theorem first_ok {pd : Nat → Int32} {s t : Nat} (ht : t ≤ 60) (h : ¬ rmK pd s t = 0) (hs : s ≤ 60) : s < t ∧ Vok (v0 (pd s)) ∧ duB (-1) (pd s) = rem4 (v0 (pd s)) ∧ (∃ d, d ≤ 9 ∧ pd s = nI (48 + d) ∧ v0 (pd s) = nI d ∨ inB (pd s) 48 57 = 0 ∧ (pd s = 43 ∨ pd s = 45 ∨ pd s = 42 ∨ pd s = 33)) := by
  have hst := rmK_lt hs h
  have hsg : sgB pd s t = pd s := by unfold sgB; rw [if_neg (nI_ge hst (by omega))]
  refine ⟨hst, ?_⟩
  unfold rmK at h
  rw [hsg] at h
  by_cases hd : inB (pd s) 48 57 = 0
  · rw [if_pos hd] at h
    have hcase : pd s = 43 ∨ pd s = 45 ∨ pd s = 42 ∨ pd s = 33 := by
      by_cases a1 : pd s = 43
      · exact Or.inl a1
      rw [if_neg a1] at h
      by_cases a2 : pd s = 45
      · exact Or.inr (Or.inl a2)
      rw [if_neg a2] at h
      by_cases a3 : pd s = 42
      · exact Or.inr (Or.inr (Or.inl a3))
      rw [if_neg a3] at h
      by_cases a4 : pd s = 33
      · exact Or.inr (Or.inr (Or.inr a4))
      rw [if_neg a4] at h
      exact absurd rfl h
    refine ⟨?_, ?_, 0, Or.inr ⟨hd, hcase⟩⟩
    · unfold v0
      rw [if_pos hd]
      rcases hcase with e | e | e | e <;> rw [e] <;> exact Or.inl (by decide)
    · unfold v0
      rw [if_pos hd]
      rcases hcase with e | e | e | e <;> rw [e] <;> decide
  · obtain ⟨d, hd9, hx⟩ := dig_n hd
    have hv : v0 (pd s) = nI d := by
      unfold v0
      rw [if_neg hd, hx]
      have : nI (48 + d) - nI 48 = nI (48 + d - 48) := pk_sub (by omega)
      rw [show (48 : Int32) = nI 48 from rfl, this, show 48 + d - 48 = d by omega]
    refine ⟨?_, ?_, d, Or.inl ⟨hd9, hx, hv⟩⟩
    · rw [hv]
      rcases Nat.eq_zero_or_pos d with q | q
      · subst q; exact Or.inl (by decide)
      · exact Or.inr ⟨d, q, by omega, rfl⟩
    · rw [hv, hx]
      rcases (show d = 0 ∨ d = 1 ∨ d = 2 ∨ d = 3 ∨ d = 4 ∨ d = 5 ∨ d = 6 ∨ d = 7 ∨ d = 8 ∨ d = 9 by omega) with rfl | rfl | rfl | rfl | rfl | rfl | rfl | rfl | rfl | rfl <;> decide +kernel
theorem rmR_eq {pd : Nat → Int32} {s t : Nat} (hst : s < t) (ht : t ≤ 60) : rmR pd s t = rdL pd t (61 - (s + 1)) (s + 1) (v0 (pd s)) := by
  have hsg : sgB pd s t = pd s := by unfold sgB; rw [if_neg (nI_ge hst (by omega))]
  unfold rmR v0
  rw [hsg]
  split <;> rfl
theorem fq_first {pd : Nat → Int32} {s t : Nat} (ht : t ≤ 60) (hs : s ≤ t) : (rmK pd s t = 0 → fqL pd (t - s) s (-1) = nI s) ∧ (¬ rmK pd s t = 0 → s < (rmR pd s t).1 ∧ (rmR pd s t).1 ≤ t ∧ Vok (rmR pd s t).2 ∧ Stop pd t (rmR pd s t).1 (rmR pd s t).2 ∧ fqL pd (t - s) s (-1) = fqL pd (t - (rmR pd s t).1) (rmR pd s t).1 (rem4 (rmR pd s t).2)) := by
  refine ⟨fun h => ?_, fun h => ?_⟩
  · rcases Nat.lt_or_ge s t with q | q
    · have hsg : sgB pd s t = pd s := by unfold sgB; rw [if_neg (nI_ge q (by omega))]
      unfold rmK at h
      rw [hsg] at h
      by_cases hd : inB (pd s) 48 57 = 0
      · rw [if_pos hd] at h
        have hdu : duB (-1) (pd s) = -2 := by
          have n1 : ¬ pd s = 43 := fun e => by rw [if_pos e] at h; exact absurd h lz_o
          rw [if_neg n1] at h
          have n2 : ¬ pd s = 45 := fun e => by rw [if_pos e] at h; exact absurd h lz_o
          rw [if_neg n2] at h
          have n3 : ¬ pd s = 42 := fun e => by rw [if_pos e] at h; exact absurd h lz_o
          rw [if_neg n3] at h
          have n4 : ¬ pd s = 33 := fun e => by rw [if_pos e] at h; exact absurd h lz_o
          have n5 : ¬ pd s = 48 := fun e => by rw [e] at hd; exact absurd hd (by decide)
          unfold duB
          rw [if_pos rfl, if_neg n1, if_neg n2, if_neg n3, if_neg n4, if_neg n5, dig_in, if_pos hd]
        rw [show t - s = (t - s - 1) + 1 by omega, fqL, saB_n pd (by omega), hdu, if_pos rfl]
      · rw [if_neg hd] at h; exact absurd h lz_o
    · obtain rfl : s = t := (by omega)
      rw [Nat.sub_self, fqL, if_pos rfl]
  · obtain ⟨hst, hV, hdu, -⟩ := first_ok ht h (by omega)
    obtain ⟨r1, r2, r3, r4, r5⟩ := rd_fq ht (61 - (s + 1)) (s + 1) (v0 (pd s)) (by omega) hst hV
    rw [rmR_eq hst ht]
    refine ⟨by omega, r2, r3, r4, ?_⟩
    rw [← r5, show t - s = (t - (s + 1)) + 1 by omega, fqL, saB_n pd (by omega), hdu, if_neg]
    intro e
    unfold rem4 at e
    revert e
    repeat' split
    all_goals decide
theorem fq_rp {pd : Nat → Int32} {t : Nat} (ht : t ≤ 60) : ∀ (f : Nat) (g : Int32) (s q : Nat) (tl : Nat → Int32) (v : Int32), ¬ g = 0 → t < s + f → s ≤ t → Stop pd t s v →
    fqL pd (t - s) s (rem4 v) = if (rpL pd t f (g, s, q, tl)).1 = 0 then nI (rpL pd t f (g, s, q, tl)).2.1 else (-100006) := by
  intro f
  induction f with
  | zero => intro g s q tl v hg hf hs _; omega
  | succ f ih =>
    intro g s q tl v hg hf hs hst
    have hz : ∀ f u, u.1 = (0 : Int32) → rpL pd t f u = u := fun f u hu => by
      cases f with
      | zero => rfl
      | succ f => rw [rpL, if_pos hu]
    rw [rpL]
    show fqL pd (t - s) s (rem4 v) = if (if g = 0 then (g, s, q, tl) else if nI t ≤ nI s then (g, s, q, tl) else _).1 = 0 then nI (if g = 0 then (g, s, q, tl) else if nI t ≤ nI s then (g, s, q, tl) else _).2.1 else (-100006)
    rw [if_neg hg]
    rcases hst with e | ⟨hlt, hdu⟩
    · subst e
      rw [if_pos (nI_le (Nat.le_refl _) (by omega)), if_neg hg, Nat.sub_self, fqL, if_neg rem_ne]
    · rw [if_neg (nI_ge hlt (by omega)), show t - s = (t - s - 1) + 1 by omega, fqL, saB_n pd (by omega), hdu]
      by_cases h44 : pd s = 44
      · have hse : ¬ seB pd s t 44 44 = 0 := by
          unfold seB
          rw [if_neg (nI_ge hlt (by omega)), h44]
          decide
        rw [if_neg hse, if_pos h44, if_neg (by decide), show t - s - 1 = t - (s + 1) by omega]
        obtain ⟨k1, k2⟩ := fq_first (pd := pd) (s := s + 1) ht hlt
        by_cases hk : rmK pd (s + 1) t = 0
        · rw [if_pos hk, hz _ _ rfl, k1 hk, if_pos rfl]
        · obtain ⟨r1, r2, r3, r4, r5⟩ := k2 hk
          rw [if_neg hk, r5]
          exact ih 1 _ _ _ _ lz_o (by omega) r2 r4
      · have hse : seB pd s t 44 44 = 0 := by
          unfold seB
          rw [if_neg (nI_ge hlt (by omega))]
          have : inB (pd s) 44 44 = 0 := by
            unfold inB
            by_cases a : pd s < 44
            · rw [if_pos a]
            · rw [if_neg a, if_pos]
              rcases Int32.lt_or_eq_of_le (Int32.not_lt.mp a) with b | b
              · exact b
              · exact absurd b.symm h44
          rw [if_pos this]
        rw [if_pos hse, if_neg h44, if_pos rfl, hz _ _ rfl, if_pos rfl]
        rfl
/-- the fault -/
theorem fault_eq {pd : Nat → Int32} {t : Nat} (ht : t ≤ 60) (tl : Nat → Int32) : fqC pd t = if (rpR pd t tl).1 = 0 then nI (rpR pd t tl).2.1 else (-100006) := by
  unfold fqC rpR
  obtain ⟨k1, k2⟩ := fq_first (pd := pd) (s := 0) ht (Nat.zero_le t)
  rw [Nat.sub_zero] at k1 k2
  by_cases hk : rmK pd 0 t = 0
  · rw [rmS_1 hk, k1 hk]
    have : rpL pd t (62 + t) (0, 0, 0, tl) = (0, 0, 0, tl) := by
      rw [show 62 + t = (61 + t) + 1 by omega, rpL, if_pos rfl]
    rw [this, if_pos rfl]
  · obtain ⟨r1, r2, r3, r4, r5⟩ := k2 hk
    rw [rmS_2 hk, r5]
    exact fq_rp ht (62 + t) 1 _ _ _ _ lz_o (by omega) r2 r4
