/-! THE LAST DROP; ANY DROP; A MOVE BY LIMIT -/
theorem cnt5_0 {p : Nat → Bool} (h : cnt5 p = 0) : ∀ i, i < 5 → p i = false := by
  intro i hi
  cases hp : p i
  · rfl
  · exfalso
    unfold cnt5 at h
    rcases lt5 hi with rfl | rfl | rfl | rfl | rfl <;> rw [hp] at h <;> simp only [Bool.toNat_true] at h <;> omega
theorem cnt5_two {p : Nat → Bool} {j j' : Nat} (hj : j < 5) (hj' : j' < 5) (hne : j' ≠ j) (h : cnt5 p = 2) (h1 : p j = true) (h2 : p j' = true) : ∀ i, i < 5 → i ≠ j → i ≠ j' → p i = false := by
  have e1 := cnt5_up (p := p) (q := fun i => if i = j then false else p i) hj h1 (by simp) (fun i _ hx => by simp [hx])
  have e2 := cnt5_up (p := fun i => if i = j then false else p i) (q := fun i => if i = j' then false else if i = j then false else p i) hj' (by simp [hne, h2]) (by simp) (fun i _ hx => by simp [hx])
  have e3 := cnt5_0 (p := fun i => if i = j' then false else if i = j then false else p i) (by omega)
  intro i hi hx hx'
  have := e3 i hi
  simp only [if_neg hx, if_neg hx'] at this
  exact this
theorem drop_last {z : Nat → Int32} (hZ : ZB z) (hu : Runs z) (h2 : nin z = 2) :
    DrOK z ∧ ZB (doZ z) ∧ Idle (doZ z) ∧ (∀ i, i < 5 → doZ z (13 + i) = z (13 + i)) ∧ ∀ T, RelV T z → RelV (drT T) (doZ z) := by
  obtain ⟨h4, hn, ⟨j, hj, h5, hgj⟩, hH, hV, hG⟩ := hu
  obtain ⟨c, p, hc, hA, hT⟩ := doA_ok hZ hV hj h5 hgj
  obtain ⟨hS, hL, ⟨hC, hPz⟩, P, Q, hp⟩ := hZ
  have hlf : lfZ z - 1 = 1 := by rw [lfZ_nin, h2]; decide +kernel
  have hyes : lfZ z - 1 ≤ 1 := by rw [hlf]; decide
  have hAz : ∀ k, k ≠ 33 + j → k ≠ 8 + j → doA z k = z k := fun k a b => by rw [hA, if_neg a, if_neg b]
  obtain ⟨i, hi, hij, hin⟩ := cnt5_other hj hn
  have hin : z (28 + i) = (-100006) := of_decide_eq_true hin
  have hpA : Per (fun i => doA z (18 + i)) P Q := hp.congr (fun i hi => (hAz _ (by omega) (by omega)).symm)
  obtain ⟨hpa, w, hw, hwj, hgw, hps, -⟩ := pass_ok hpA hj (by rw [hAz 5 (by omega) (by omega)]; exact h5) hi hij (by rw [hAz _ (by omega) (by omega)]; exact hin)
  have hgw : z (28 + w) = (-100006) := by rw [← hAz _ (by omega) (by omega)]; exact hgw
  have hrest := cnt5_two hj hw hwj h2 (decide_eq_true hgj) (decide_eq_true hgw)
  generalize hy : upd (upd (doA z) 5 (nI w)) (28 + j) 1 = y
  have hyE : ∀ k, y k = if k = 28 + j then 1 else if k = 5 then nI w else doA z k := fun k => by rw [← hy, upd_at, upd_at]
  have hyz : ∀ k, k ≠ 28 + j → k ≠ 5 → k ≠ 33 + j → k ≠ 8 + j → y k = z k := fun k a b d e => by rw [hyE, if_neg a, if_neg b, hAz k d e]
  have hy5 : y 5 = nI w := by rw [hyE, if_neg (by omega), if_pos rfl]
  have hdo : doZ z = ndZ y (nI w) := by
    unfold doZ
    rw [if_pos hyes, h5, ix_n hj, hlf, hps, hy, hy5]
  have hyg : ∀ i, i < 5 → i ≠ w → ∃ a, 1 ≤ a ∧ a < 5 ∧ y (28 + i) = nI a ∧ (i ≠ j → 2 ≤ a ∧ z (28 + i) = nI a) ∧ (i = j → a = 1) := fun i hi hx => by
    by_cases hxj : i = j
    · subst hxj; exact ⟨1, by decide, by decide, by rw [hyE, if_pos rfl]; rfl, fun q => absurd rfl q, fun _ => rfl⟩
    · have hno : ¬ z (28 + i) = (-100006) := of_decide_eq_false (hrest i hi hxj hx)
      obtain ⟨a, ha, ha5, e⟩ := (hG.1 i hi).resolve_left hno
      exact ⟨a, by omega, ha5, by rw [hyz _ (by omega) (by omega) (by omega) (by omega)]; exact e, fun _ => ⟨by omega, e⟩, fun q => absurd q hxj⟩
  obtain ⟨r1, r2, r3, r4⟩ := end_ok (y := y) hw
    (by obtain ⟨s1, s2, s3, s4⟩ := hS; exact ⟨by rw [hyz 0 (by omega) (by omega) (by omega) (by omega)]; exact s1, by rw [hyz 1 (by omega) (by omega) (by omega) (by omega)]; exact s2, by rw [hyz 2 (by omega) (by omega) (by omega) (by omega)]; exact s3, by rw [hyz 3 (by omega) (by omega) (by omega) (by omega)]; exact s4⟩)
    (fun i hi => by rw [hyz _ (by omega) (by omega) (by omega) (by omega)]; exact hL i hi)
    (fun i hi => by
      by_cases hx : i = j
      · subst hx; exact ⟨c, hc, by rw [hyE, if_neg (by omega), if_neg (by omega), hA, if_neg (by omega), if_pos rfl]⟩
      · rw [hyz _ (by omega) (by omega) (by omega) (by omega)]; exact hC i hi)
    (fun i hi => by rw [hyz _ (by omega) (by omega) (by omega) (by omega)]; exact hPz i hi)
    (by rw [hyz _ (by omega) (by omega) (by omega) (by omega)]; exact hgw)
    (fun i hi hx => by obtain ⟨a, ha1, ha5, e, -⟩ := hyg i hi hx; exact ⟨a, ha1, ha5, e⟩)
    (fun i i' hi hi' hx hx' e => by
      obtain ⟨a, ha1, ha5, ea, a1, a2⟩ := hyg i hi hx
      obtain ⟨b, hb1, hb5, eb, b1, b2⟩ := hyg i' hi' hx'
      rw [ea, eb, nI_eq (by omega) (by omega)] at e
      by_cases hxj : i = j <;> by_cases hxj' : i' = j
      · omega
      · have := a2 hxj; have := (b1 hxj').1; omega
      · have := b2 hxj'; have := (a1 hxj).1; omega
      · exact hG.2 i i' hi hi' (by rw [(a1 hxj).2]; exact nI_none (by omega)) (by rw [(a1 hxj).2, (b1 hxj').2, e]))
    (by rw [hyz (23 + w) (by omega) (by omega) (by omega) (by omega), hyz (8 + w) (by omega) (by omega) (by omega) (by omega)]; exact hV w hw hgw)
  refine ⟨⟨by rw [h5]; exact vp_in_nI hj (by decide), fun _ => ⟨hpa, by rw [h5, ix_n hj, hlf, hps, hy, hy5]; exact vp_in_nI hw (by decide)⟩, fun q => absurd hyes q⟩, by rw [hdo]; exact r1, by rw [hdo]; exact r2, fun i hi => by rw [hdo, r3 i hi, hyz _ (by omega) (by omega) (by omega) (by omega)], fun T hR => ?_⟩
  have hbc : bitC (plB T) - 1 = 1 := by rw [plB_nin hR h4, h2]; decide +kernel
  have hdA : drA T = tup T 6 j 1 := by unfold drA lfB; rw [hR.tu, h5, ix_n hj, hbc]
  have hdB : RelV (drB T) (upd y 5 (z 5)) := by
    unfold drB
    rw [hdA, tup_row T j _ (show (10 : Nat) ≠ 6 by decide), hR.tu, h5, tup_row T j _ (show (0 : Nat) ≠ 6 by decide), hR.se (show 3 < 4 by decide)]
    refine (hT T 1 hR).congr (fun k hk => ?_)
    rw [upd_at, upd_at, hyE]
    by_cases q5 : k = 5
    · rw [if_pos q5, if_neg (by omega), q5, hAz 5 (by omega) (by omega), h5]
    · rw [if_neg q5, if_neg q5]
  unfold drT
  rw [hR.tu, h5, isPb_n hj, if_neg lz_o, if_pos hbc, hdo]
  exact r4 _ _ hdB
/-- any drop -/
theorem drop_ok {z : Nat → Int32} (hZ : ZB z) (hu : Runs z) :
    DrOK z ∧ ZI (doZ z) ∧ (∀ i, i < 5 → doZ z (13 + i) = z (13 + i)) ∧ (doZ z 4 = 1 → nin (doZ z) + 1 = nin z ∧ doZ z 6 = z 6) ∧ ∀ T, RelV T z → RelV (drT T) (doZ z) := by
  by_cases h : 3 ≤ nin z
  · obtain ⟨a, b, c, d, e, f, g⟩ := drop_more hZ hu h
    exact ⟨a, ⟨b, Or.inr c⟩, f, fun _ => ⟨d, e⟩, g⟩
  · have h2 : nin z = 2 := by have := hu.2.1; omega
    obtain ⟨a, b, c, f, g⟩ := drop_last hZ hu h2
    exact ⟨a, ⟨b, Or.inl c⟩, f, fun q => by rw [c.1] at q; exact absurd q (by decide), g⟩
theorem drV_ok {z : Nat → Int32} (hZ : ZB z) (hu : Runs z) {T : Tb} (hR : RelV T z) : drV T = doZ z 5 := by
  obtain ⟨-, -, -, -, g⟩ := drop_ok hZ hu
  have h := (g T hR).tu
  obtain ⟨h4, hn, ⟨j, hj, h5, hgj⟩, -⟩ := hu
  unfold drV
  rw [hR.tu, h5, isPb_n hj, if_neg lz_o]
  exact h
theorem bid_none (m : Nat) (h : m ≤ 9999) : nI m ≠ (-100006) := nI_none (by omega)
theorem hbL_le {b : Nat → Int32} : ∀ (f i : Nat) (h : Int32), h ≤ hbL b f i h := by
  intro f
  induction f with
  | zero => intro i h; exact Int32.le_refl _
  | succ f ih =>
    intro i h
    unfold hbL
    split
    · exact ih _ _
    · rename_i q
      exact Int32.le_trans (Int32.le_of_lt (Int32.not_le.mp q)) (ih _ _)
theorem hbL_ge {b : Nat → Int32} : ∀ (f i : Nat) (h : Int32), ∀ k, i ≤ k → k < i + f → b k ≤ hbL b f i h := by
  intro f
  induction f with
  | zero => intro i h k h1 h2; omega
  | succ f ih =>
    intro i h k h1 h2
    unfold hbL
    by_cases hk : k = i
    · subst hk
      split
      · rename_i q; exact Int32.le_trans q (hbL_le _ _ _)
      · exact hbL_le _ _ _
    · exact ih _ _ k (by omega) (by omega)
theorem hbL_in {b : Nat → Int32} : ∀ (f i : Nat) (h : Int32), hbL b f i h = h ∨ ∃ k, i ≤ k ∧ k < i + f ∧ hbL b f i h = b k := by
  intro f
  induction f with
  | zero => intro i h; exact Or.inl rfl
  | succ f ih =>
    intro i h
    unfold hbL
    split
    · rcases ih (i + 1) h with q | ⟨k, h1, h2, q⟩
      · exact Or.inl q
      · exact Or.inr ⟨k, by omega, by omega, q⟩
    · rcases ih (i + 1) (b i) with q | ⟨k, h1, h2, q⟩
      · exact Or.inr ⟨i, Nat.le_refl _, by omega, q⟩
      · exact Or.inr ⟨k, by omega, by omega, q⟩
/-- the highest bid -/
theorem hiB_ok {z : Nat → Int32} (hH : Hi z) {T : Tb} (hR : RelV T z) : hiB T = z 6 := by
  unfold hiB
  have hb : ∀ k, k < 5 → T 5 k = z (23 + k) := fun k hk => hR.bi hk
  rcases hH with ⟨h6, hn⟩ | ⟨m, hm, h6, ⟨i, hi, hmi⟩, hall⟩
  · rcases hbL_in (b := T 5) 5 0 (-100006) with q | ⟨k, _, hk, q⟩
    · rw [q, h6]
    · rw [q, hb k (by omega), hn k (by omega), h6]
  · rw [h6]
    have h1 := hbL_ge (b := T 5) 5 0 (-100006) i (Nat.zero_le _) (by omega)
    rw [hb i hi, hmi] at h1
    rcases hbL_in (b := T 5) 5 0 (-100006) with q | ⟨k, _, hk, q⟩
    · rw [q] at h1
      exact absurd h1 (Int32.not_le.mpr (none_lt (by omega)))
    · rw [hb k (by omega)] at q
      rcases hall k (by omega) with e | ⟨b, hbm, e⟩
      · rw [q, e] at h1
        exact absurd h1 (Int32.not_le.mpr (none_lt (by omega)))
      · rw [q, e] at h1 ⊢
        have := (nI_leI (by omega) (by omega)).mp h1
        rw [show b = m by omega]
theorem leB_ok {z : Nat → Int32} (hu : Runs z) {T : Tb} (hR : RelV T z) : leB T = lsZ z := by
  unfold leB lsZ
  rw [hR.uw, hu.1, if_neg lz_o, hiB_ok hu.2.2.2.1 hR, hR.se (show 1 < 4 by decide), hR.se (show 0 < 4 by decide)]
theorem mayB_ok {z : Nat → Int32} (hu : Runs z) {T : Tb} (hR : RelV T z) (k : Int32) : mayB T k = cbZ z k := by
  obtain ⟨j, hj, h5, -⟩ := hu.2.2.1
  unfold mayB cbZ
  rw [leB_ok hu hR, hR.uw, hu.1, if_neg lz_o, hR.tu, h5, isPb_n hj, if_neg lz_o, ix_n hj, hR.co hj]
/-- how far an auction is from its end -/
def mea (z : Nat → Int32) : Nat := (if z 6 = (-100006) then 101 else 100 - (z 6).toNatClampNeg) + nin z
theorem mea_le (z : Nat → Int32) : mea z ≤ 106 := by
  have := cnt5_le (inG z)
  have : nin z ≤ 5 := this
  unfold mea
  split <;> omega
theorem act_ok {z : Nat → Int32} (hZ : ZB z) (hu : Runs z) :
    AcOK z ∧ ZI (acZ z) ∧ (∀ i, i < 5 → acZ z (13 + i) = z (13 + i)) ∧ (acZ z 4 = 1 → mea (acZ z) < mea z) ∧ ∀ T, RelV T z → RelV (acT T) (acZ z) ∧ acV T = acZ z 5 := by
  obtain ⟨d1, d2, d3, d4, d5⟩ := drop_ok hZ hu
  obtain ⟨n, hn1, hn2, hn3⟩ := lsZ_n hZ.1 hu.2.2.2.1
  obtain ⟨j, hj, h5, hgj⟩ := hu.2.2.1
  obtain ⟨l, hl, hlj⟩ := hZ.2.1 j hj
  have hdm : doZ z 4 = 1 → mea (doZ z) < mea z := fun q => by
    obtain ⟨a, b⟩ := d4 q
    unfold mea
    rw [b]
    omega
  have hbid : ¬ z (13 + ix (z 5)) < lsZ z → ¬ cbZ z (lsZ z) = 0 → BdOK z (lsZ z) ∧ ZI (bdZ z (lsZ z)) ∧ (∀ i, i < 5 → bdZ z (lsZ z) (13 + i) = z (13 + i)) ∧ mea (bdZ z (lsZ z)) < mea z ∧ ∀ T, RelV T z → RelV (takT T (lsZ z)) (bdZ z (lsZ z)) := by
    intro h1 h2
    rw [h5, ix_n hj, hlj, hn2] at h1
    have hnl : n ≤ l := nlt_nI (by omega) (by omega) h1
    rw [hn2] at h2 ⊢
    obtain ⟨b1, b2, b3, b4, b5, b6, b7⟩ := bid_ok hZ hu (b := n) (by omega) h2
    refine ⟨b1, ⟨b2, Or.inr b3⟩, b6, ?_, b7⟩
    unfold mea
    rw [b4, b5, if_neg (bid_none n (by omega)), nI_clamp (by omega)]
    rcases hn3 with q | ⟨m, q, hlt, hm9⟩
    · rw [if_pos q]; omega
    · rw [q, if_neg (bid_none m hm9), nI_clamp (by omega)]; omega
  refine ⟨⟨by rw [h5]; exact vp_in_nI hj (by decide), d1, fun h1 h2 => (hbid h1 h2).1⟩, ?_, ?_, ?_, ?_⟩
  · unfold acZ
    split
    · exact d2
    · rename_i h1
      split
      · exact d2
      · rename_i h2; exact (hbid h1 h2).2.1
  · unfold acZ
    split
    · exact d3
    · rename_i h1
      split
      · exact d3
      · rename_i h2; exact (hbid h1 h2).2.2.1
  · unfold acZ
    split
    · exact hdm
    · rename_i h1
      split
      · exact hdm
      · rename_i h2; exact fun _ => (hbid h1 h2).2.2.2.1
  · intro T hR
    have hv := drV_ok hZ hu hR
    unfold acT acV acZ
    rw [hR.tu, h5, isPb_n hj, if_neg lz_o, if_neg lz_o, ix_n hj, hR.li hj, leB_ok hu hR, mayB_ok hu hR]
    by_cases h1 : z (13 + j) < lsZ z
    · rw [if_pos h1, if_pos h1, if_pos h1]; exact ⟨d5 T hR, hv⟩
    · rw [if_neg h1, if_neg h1, if_neg h1]
      by_cases h2 : cbZ z (lsZ z) = 0
      · rw [if_pos h2, if_pos h2, if_pos h2]; exact ⟨d5 T hR, hv⟩
      · rw [if_neg h2, if_neg h2, if_neg h2]
        have hr := (hbid (by rw [h5, ix_n hj]; exact h1) h2).2.2.2.2 T hR
        exact ⟨hr, hr.tu⟩
/-- a round by limits -/
theorem fi_ok (f : Nat) : ∀ (n : Nat) (z : Nat → Int32), ZI z → mea z ≤ f → foP f z ∧ ZI (fiL f n z).1 ∧ ((fiL f n z).1 4 = 0) ∧ (∀ i, i < 5 → (fiL f n z).1 (13 + i) = z (13 + i)) ∧ ∀ T, RelV T z → RelV (prL f n T).1 (fiL f n z).1 ∧ (prL f n T).2 = (fiL f n z).2 := by
  induction f with
  | zero =>
    intro n z hZ hm
    have hno : ¬ z 4 = 1 := by
      intro q
      rcases hZ.2 with h | h
      · rw [h.1] at q; exact absurd q (by decide)
      · have := h.2.1
        unfold mea at hm
        omega
    have h0 : z 4 = 0 := hZ.is01.resolve_right hno
    exact ⟨hno, hZ, h0, fun _ _ => rfl, fun T hR => ⟨hR, rfl⟩⟩
  | succ f ih =>
    intro n z hZ hm
    by_cases h4 : z 4 = 1
    · have hu : Runs z := hZ.2.resolve_left (fun q => by rw [q.1] at h4; exact absurd h4 (by decide))
      obtain ⟨a1, a2, a3, a4, a5⟩ := act_ok hZ.1 hu
      have hstep : fiL (f + 1) n z = fiL f (n + 1) (acZ z) := by rw [fiL, if_pos h4]
      by_cases hq : acZ z 4 = 1
      · obtain ⟨b1, b2, b3, b4, b5⟩ := ih (n + 1) (acZ z) a2 (by have := a4 hq; omega)
        refine ⟨fun _ => ⟨a1, b1⟩, by rw [hstep]; exact b2, by rw [hstep]; exact b3, fun i hi => by rw [hstep, b4 i hi, a3 i hi], fun T hR => ?_⟩
        rw [hstep, prL, if_neg (by rw [hR.uw, h4]; exact lz_o)]
        exact b5 _ (a5 T hR).1
      · have h0 : acZ z 4 = 0 := a2.is01.resolve_right hq
        have hf : ∀ f n, fiL f n (acZ z) = (acZ z, n) := fun f n => by
          cases f with
          | zero => rfl
          | succ f => rw [fiL, if_neg hq]
        have hfo : ∀ f, foP f (acZ z) := fun f => by
          cases f with
          | zero => exact hq
          | succ f => exact fun q => absurd q hq
        have hp : ∀ f n T, T 10 0 = 0 → prL f n T = (T, n) := fun f n T hT => by
          cases f with
          | zero => rfl
          | succ f => rw [prL, if_pos hT]
        refine ⟨fun _ => ⟨a1, hfo f⟩, by rw [hstep, hf]; exact a2, by rw [hstep, hf]; exact h0, fun i hi => by rw [hstep, hf]; exact a3 i hi, fun T hR => ?_⟩
        have hr := (a5 T hR).1
        rw [hstep, hf, prL, if_neg (by rw [hR.uw, h4]; exact lz_o), hp _ _ _ (by rw [hr.uw]; exact h0)]
        exact ⟨hr, rfl⟩
    · have h0 : z 4 = 0 := hZ.is01.resolve_right h4
      refine ⟨fun q => absurd q h4, by rw [fiL, if_neg h4]; exact hZ, by rw [fiL, if_neg h4]; exact h0, fun i hi => by rw [fiL, if_neg h4], fun T hR => ?_⟩
      rw [fiL, if_neg h4, prL, if_pos (by rw [hR.uw]; exact h0)]
      exact ⟨hR, rfl⟩
/-- a round from anywhere -/
theorem round_ok {z : Nat → Int32} (hZ : ZI z) : FiOK z ∧ ZI (fiR z).1 ∧ (fiR z).1 4 = 0 ∧ ∀ T, RelV T z → RelV (prR T).1 (fiR z).1 ∧ (prR T).2 = (fiR z).2 := by
  by_cases h4 : z 4 = 0
  · have hi : Idle z := hZ.2.resolve_right (fun q => by rw [q.1] at h4; exact absurd h4 (by decide))
    have hZ2 : ZI (bgZ z) := by
      obtain ⟨P, Q, hp⟩ := hZ.1.2.2.2
      exact (start_ok (T := fun k i => z (adr k i)) (fun k i _ => rfl) hZ.1 hi).2.1
    obtain ⟨b1, b2, b3, -, b5⟩ := fi_ok 10000 0 (bgZ z) hZ2 (Nat.le_trans (mea_le _) (by decide))
    unfold FiOK fiR
    rw [if_pos h4]
    refine ⟨b1, b2, b3, fun T hR => ?_⟩
    unfold prR
    rw [if_pos (by rw [hR.uw]; exact h4)]
    exact b5 _ (start_ok hR hZ.1 hi).1
  · obtain ⟨b1, b2, b3, -, b5⟩ := fi_ok 10000 0 z hZ (Nat.le_trans (mea_le _) (by decide))
    unfold FiOK fiR
    rw [if_neg h4]
    refine ⟨b1, b2, b3, fun T hR => ?_⟩
    unfold prR
    rw [if_neg (by rw [hR.uw]; exact h4)]
    exact b5 _ hR
