/-! THE AUCTION'S END: class and reference agree, and what holds behind it -/
theorem pg5 : ∀ a b c d e x : Fin 5, a ≠ b → a ≠ c → a ≠ d → a ≠ e → b ≠ c → b ≠ d → b ≠ e → c ≠ d → c ≠ e → d ≠ e → x = a ∨ x = b ∨ x = c ∨ x = d ∨ x = e := by decide +kernel
theorem per_of {pl : Nat → Int32} {g : Nat → Nat} (h : ∀ i, i < 5 → g i < 5 ∧ pl i = nI (g i)) (inj : ∀ i i', i < 5 → i' < 5 → g i = g i' → i = i') : ∃ P Q, Per pl P Q := by
  have hs : ∀ a, a < 5 → ∃ i, i < 5 ∧ g i = a := by
    intro a ha
    have hn : ∀ i i' (hi : i < 5) (hi' : i' < 5), i ≠ i' → (⟨g i, (h i hi).1⟩ : Fin 5) ≠ ⟨g i', (h i' hi').1⟩ := fun i i' hi hi' hx e => hx (inj i i' hi hi' (congrArg Fin.val e))
    rcases pg5 ⟨g 0, (h 0 (by decide)).1⟩ ⟨g 1, (h 1 (by decide)).1⟩ ⟨g 2, (h 2 (by decide)).1⟩ ⟨g 3, (h 3 (by decide)).1⟩ ⟨g 4, (h 4 (by decide)).1⟩ ⟨a, ha⟩ (hn 0 1 (by decide) (by decide) (by decide)) (hn 0 2 (by decide) (by decide) (by decide)) (hn 0 3 (by decide) (by decide) (by decide)) (hn 0 4 (by decide) (by decide) (by decide)) (hn 1 2 (by decide) (by decide) (by decide)) (hn 1 3 (by decide) (by decide) (by decide)) (hn 1 4 (by decide) (by decide) (by decide)) (hn 2 3 (by decide) (by decide) (by decide)) (hn 2 4 (by decide) (by decide) (by decide)) (hn 3 4 (by decide) (by decide) (by decide)) with e | e | e | e | e
    · exact ⟨0, by decide, (congrArg Fin.val e).symm⟩
    · exact ⟨1, by decide, (congrArg Fin.val e).symm⟩
    · exact ⟨2, by decide, (congrArg Fin.val e).symm⟩
    · exact ⟨3, by decide, (congrArg Fin.val e).symm⟩
    · exact ⟨4, by decide, (congrArg Fin.val e).symm⟩
  have hP : ∀ a, ∃ i, a < 5 → i < 5 ∧ g i = a := fun a => by
    by_cases ha : a < 5
    · obtain ⟨i, hi⟩ := hs a ha; exact ⟨i, fun _ => hi⟩
    · exact ⟨0, fun q => absurd q ha⟩
  refine ⟨fun a => Classical.choose (hP a), g, fun i hi => ⟨(h i hi).1, (h i hi).2, ?_⟩, fun a ha => Classical.choose_spec (hP a) ha⟩
  have := Classical.choose_spec (hP (g i)) (h i hi).1
  exact inj _ _ this.1 hi this.2
theorem ndB_at {y : Nat → Int32} {w : Nat} (hw : w < 5) (hS : Stt y) (hC : Coi y) (hgw : y (28 + w) = (-100006)) (hb : y (23 + w) = (-100006) ∨ ∃ b c, b ≤ c ∧ c ≤ 9999 ∧ y (23 + w) = nI b ∧ y (8 + w) = nI c) :
    ∃ (c : Nat) (p : Int32), c ≤ 9999 ∧ (∀ k, ndB y (nI w) k = if k = 43 + w then y (43 + w) + 1 else if k = 28 + w then 0 else if k = 33 + w then p else if k = 8 + w then nI c else y k) ∧
      ∀ V : Tb, V 6 w = (-100006) → V 5 w = y (23 + w) → V 0 2 = y 2 → V 2 w = y (8 + w) → V 7 w = y (33 + w) → V 9 w = y (43 + w) → enA V w 6 w = 0 ∧ enA V w 2 w = nI c ∧ enA V w 7 w = p ∧ enA V w 9 w = y (43 + w) + 1 := by
  obtain ⟨-, -, ⟨h, hh, hz2⟩, -⟩ := hS
  obtain ⟨c0, hc0, hcw⟩ := hC w hw
  have e5 : ∀ V : Tb, enB V w 5 w = V 5 w := fun U => by unfold enB; rw [tup_row _ w _ (show (5 : Nat) ≠ 9 by decide), tup_row _ w _ (show (5 : Nat) ≠ 6 by decide)]
  have e0 : ∀ V : Tb, enB V w 0 2 = V 0 2 := fun U => by unfold enB; rw [tup_row _ w _ (show (0 : Nat) ≠ 9 by decide), tup_row _ w _ (show (0 : Nat) ≠ 6 by decide)]
  have e2 : ∀ V : Tb, enB V w 2 w = V 2 w := fun U => by unfold enB; rw [tup_row _ w _ (show (2 : Nat) ≠ 9 by decide), tup_row _ w _ (show (2 : Nat) ≠ 6 by decide)]
  have e7 : ∀ V : Tb, enB V w 7 w = V 7 w := fun U => by unfold enB; rw [tup_row _ w _ (show (7 : Nat) ≠ 9 by decide), tup_row _ w _ (show (7 : Nat) ≠ 6 by decide)]
  have e6 : ∀ V : Tb, enB V w 6 w = 0 := fun U => by unfold enB; rw [tup_row _ w _ (show (6 : Nat) ≠ 9 by decide), tup_at, if_pos ⟨rfl, rfl⟩]
  have e9 : ∀ V : Tb, enB V w 9 w = V 9 w + 1 := fun U => by unfold enB; rw [tup_at, if_pos ⟨rfl, rfl⟩, tup_row _ w _ (show (9 : Nat) ≠ 6 by decide)]
  by_cases hbn : y (23 + w) = (-100006)
  · have hA : ndA y (nI w) = y := by unfold ndA; rw [ix_n hw, if_pos hbn]
    refine ⟨c0, y (33 + w), hc0, fun k => ?_, fun V v6 v5 v0 v2 v7 v9 => ?_⟩
    · unfold ndB
      rw [hA, ix_n hw, upd_at, un (show 43 + w ≠ 28 + w by omega), upd_at]
      repeat' split
      all_goals first | rfl | (rename_i e; rw [e]; done) | (rename_i e; rw [e]; exact hcw)
    · have : enA V w = enB V w := by
        unfold enA payT
        rw [if_pos v6, isPb_n hw, if_neg lz_o, ix_n hw, e5, v5, if_pos hbn]
      rw [this, e6, e2, e7, e9, v2, v7, v9]
      exact ⟨rfl, hcw, rfl, rfl⟩
  · obtain ⟨b, c, hbc, hc, hzb, hzc⟩ := hb.resolve_left hbn
    have hsh : (y (23 + w) * y 2 + 99) / 100 = nI ((b * h + 99) / 100) := by rw [hzb, hz2]; exact share_n (m := 99) (by omega) hh (by decide)
    have hle : (b * h + 99) / 100 ≤ b := share_le hh (by decide)
    have hsub : nI c - nI ((b * h + 99) / 100) = nI (c - (b * h + 99) / 100) := pk_sub (by omega)
    have hA : ndA y (nI w) = upd (upd y (8 + w) (nI (c - (b * h + 99) / 100))) (33 + w) (y (33 + w) + nI ((b * h + 99) / 100)) := by
      unfold ndA pyZ
      rw [ix_n hw, if_neg hbn, hsh, hzc, hsub, un (show 33 + w ≠ 8 + w by omega)]
    refine ⟨c - (b * h + 99) / 100, y (33 + w) + nI ((b * h + 99) / 100), by omega, fun k => ?_, fun V v6 v5 v0 v2 v7 v9 => ?_⟩
    · unfold ndB
      rw [hA, ix_n hw, upd_at, un (show 43 + w ≠ 28 + w by omega), un (show 43 + w ≠ 33 + w by omega), un (show 43 + w ≠ 8 + w by omega), upd_at, upd_at, upd_at]
    · have : enA V w = tup (tup (enB V w) 2 w (nI (c - (b * h + 99) / 100))) 7 w (y (33 + w) + nI ((b * h + 99) / 100)) := by
        unfold enA payT
        rw [if_pos v6, isPb_n hw, if_neg lz_o, ix_n hw, e5, v5, if_neg hbn, e0, v0, hsh, e2, v2, hzc, hsub, tup_row _ w _ (show (7 : Nat) ≠ 2 by decide), e7, v7]
      rw [this]
      refine ⟨?_, ?_, ?_, ?_⟩
      · rw [tup_row _ w _ (show (6 : Nat) ≠ 7 by decide), tup_row _ w _ (show (6 : Nat) ≠ 2 by decide), e6]
      · rw [tup_row _ w _ (show (2 : Nat) ≠ 7 by decide), tup_at, if_pos ⟨rfl, rfl⟩]
      · rw [tup_at, if_pos ⟨rfl, rfl⟩]
      · rw [tup_row _ w _ (show (9 : Nat) ≠ 7 by decide), tup_row _ w _ (show (9 : Nat) ≠ 2 by decide), e9, v9]
theorem end_ok {y : Nat → Int32} {w : Nat} (hw : w < 5) (hS : Stt y) (hL : Lim y) (hC : Coi y) (hPz : Prz y) (hgw : y (28 + w) = (-100006)) (hg : ∀ i, i < 5 → i ≠ w → ∃ a, 1 ≤ a ∧ a < 5 ∧ y (28 + i) = nI a) (hinj : ∀ i i', i < 5 → i' < 5 → i ≠ w → i' ≠ w → y (28 + i) = y (28 + i') → i = i')
    (hb : y (23 + w) = (-100006) ∨ ∃ b c, b ≤ c ∧ c ≤ 9999 ∧ y (23 + w) = nI b ∧ y (8 + w) = nI c) :
    ZB (ndZ y (nI w)) ∧ Idle (ndZ y (nI w)) ∧ (∀ i, i < 5 → ndZ y (nI w) (13 + i) = y (13 + i)) ∧ ∀ V t, RelV V (upd y 5 t) → RelV (endT V) (ndZ y (nI w)) := by
  obtain ⟨c, p, hc, hx, hVA⟩ := ndB_at hw hS hC hgw hb
  generalize hxe : ndB y (nI w) = x at hx
  have hxy : ∀ k, k ≠ 43 + w → k ≠ 28 + w → k ≠ 33 + w → k ≠ 8 + w → x k = y k := fun k a b d e => by rw [hx, if_neg a, if_neg b, if_neg d, if_neg e]
  -- the places that the players get
  have hG : ∃ g : Nat → Nat, (∀ i, i < 5 → g i < 5 ∧ x (28 + i) = nI (g i)) ∧ ∀ i i', i < 5 → i' < 5 → g i = g i' → i = i' := by
    have hex : ∀ i, ∃ a, i < 5 → a < 5 ∧ x (28 + i) = nI a ∧ (i ≠ w → 1 ≤ a ∧ y (28 + i) = nI a) ∧ (i = w → a = 0) := fun i => by
      by_cases hi : i < 5
      · by_cases hiw : i = w
        · subst hiw
          exact ⟨0, fun _ => ⟨by decide, by rw [hx, if_neg (by omega), if_pos rfl]; rfl, fun q => absurd rfl q, fun _ => rfl⟩⟩
        · obtain ⟨a, ha1, ha5, e⟩ := hg i hi hiw
          exact ⟨a, fun _ => ⟨ha5, by rw [hxy _ (by omega) (by omega) (by omega) (by omega)]; exact e, fun _ => ⟨ha1, e⟩, fun q => absurd q hiw⟩⟩
      · exact ⟨0, fun q => absurd q hi⟩
    refine ⟨fun i => Classical.choose (hex i), fun i hi => ⟨(Classical.choose_spec (hex i) hi).1, (Classical.choose_spec (hex i) hi).2.1⟩, fun i i' hi hi' e => ?_⟩
    obtain ⟨-, -, a1, a2⟩ := Classical.choose_spec (hex i) hi
    obtain ⟨-, -, b1, b2⟩ := Classical.choose_spec (hex i') hi'
    have e : Classical.choose (hex i) = Classical.choose (hex i') := e
    by_cases hiw : i = w <;> by_cases hiw' : i' = w
    · omega
    · have := a2 hiw; have := (b1 hiw').1; omega
    · have := b2 hiw'; have := (a1 hiw).1; omega
    · exact hinj i i' hi hi' hiw hiw' (by rw [(a1 hiw).2, (b1 hiw').2, e])
  obtain ⟨g, hg1, hg2⟩ := hG
  obtain ⟨hl1, hl2⟩ := ndL_at 5 0 x rfl (fun q hq => ⟨g q, hg1 q hq⟩)
  generalize hLe : ndL 5 0 x = L at hl1 hl2
  have hr : ndZ y (nI w) = clZ (upd L 7 (L 7 + 1)) := by unfold ndZ ndE; rw [hxe, hLe]
  have hrk : ∀ k, ¬ (23 ≤ k ∧ k < 33) → k ≠ 4 → k ≠ 5 → k ≠ 6 → k ≠ 7 → ndZ y (nI w) k = L k := fun k a b d e f => by rw [hr, clZ_at, if_neg a, if_neg b, if_neg d, if_neg e, un f]
  have hry : ∀ k, ¬ (8 ≤ k ∧ k < 13) → ¬ (18 ≤ k ∧ k < 23) → ¬ (23 ≤ k ∧ k < 33) → ¬ (33 ≤ k ∧ k < 48) → k ≠ 4 → k ≠ 5 → k ≠ 6 → k ≠ 7 → ndZ y (nI w) k = y k := fun k a b d e f1 f2 f3 f4 => by
    rw [hrk k d f1 f2 f3 f4, hl2 k (by omega) (by omega) (by omega), hxy k (by omega) (by omega) (by omega) (by omega)]
  have hpl : ∀ i, i < 5 → ndZ y (nI w) (18 + i) = nI (g i) := fun i hi => by rw [hrk _ (by omega) (by omega) (by omega) (by omega) (by omega), (hl1 i hi).1, if_pos (Nat.zero_le _), (hg1 i hi).2]
  have hPx : Prz x := fun i hi => by rw [hxy _ (by omega) (by omega) (by omega) (by omega)]; exact hPz i hi
  have hxc : ∀ i, i < 5 → ∃ c, c ≤ 9999 ∧ x (8 + i) = nI c := fun i hi => by
    by_cases hiw : i = w
    · subst hiw; exact ⟨c, hc, by rw [hx, if_neg (by omega), if_neg (by omega), if_neg (by omega), if_pos rfl]⟩
    · rw [hxy _ (by omega) (by omega) (by omega) (by omega)]; exact hC i hi
  have hco : ∀ i, i < 5 → ndZ y (nI w) (8 + i) = capZ (x (8 + i) + mpZ x (x (28 + i))) := fun i hi => by rw [hrk _ (by omega) (by omega) (by omega) (by omega) (by omega), (hl1 i hi).2.1, if_pos (Nat.zero_le _)]
  have h5 : ndZ y (nI w) 5 = (-100006) := by rw [hr, clZ_at]; rfl
  have h4 : ndZ y (nI w) 4 = 0 := by rw [hr, clZ_at]; rfl
  have h6 : ndZ y (nI w) 6 = (-100006) := by rw [hr, clZ_at]; rfl
  have hbg : ∀ k, 23 ≤ k → k < 33 → ndZ y (nI w) k = (-100006) := fun k a b => by rw [hr, clZ_at, if_pos ⟨a, b⟩]
  have h7 : ndZ y (nI w) 7 = y 7 + 1 := by rw [hr, clZ_at, if_neg (by decide), if_neg (by decide), if_neg (by decide), if_neg (by decide), us rfl, hl2 7 (by decide) (by decide) (by decide), hxy 7 (by omega) (by omega) (by omega) (by omega)]
  refine ⟨⟨?_, fun i hi => ?_, ⟨fun i hi => ?_, fun i hi => ?_⟩, per_of (fun i hi => ⟨(hg1 i hi).1, hpl i hi⟩) hg2⟩, ⟨h4, h5, h6, fun i hi => ⟨hbg _ (by omega) (by omega), hbg _ (by omega) (by omega)⟩⟩, fun i hi => hry _ (by omega) (by omega) (by omega) (by omega) (by omega) (by omega) (by omega) (by omega), ?_⟩
  · obtain ⟨s1, s2, s3, s4⟩ := hS
    have e : ∀ i, i < 4 → ndZ y (nI w) i = y i := fun i hi => hry i (by omega) (by omega) (by omega) (by omega) (by omega) (by omega) (by omega) (by omega)
    exact ⟨by rw [e 0 (by decide)]; exact s1, by rw [e 1 (by decide)]; exact s2, by rw [e 2 (by decide)]; exact s3, by rw [e 3 (by decide)]; exact s4⟩
  · rw [hry _ (by omega) (by omega) (by omega) (by omega) (by omega) (by omega) (by omega) (by omega)]; exact hL i hi
  · rw [hco i hi]
    obtain ⟨c1, hc1, e1⟩ := hxc i hi
    obtain ⟨c2, hc2, e2⟩ := mpZ_n hPx (x (28 + i))
    rw [e1, e2, nI_add]
    exact cap_n (by omega)
  · rw [hry _ (by omega) (by omega) (by omega) (by omega) (by omega) (by omega) (by omega) (by omega)]; exact hPz i hi
  · intro V t hR
    have hv : ∀ k i, okc k i → ¬ (k = 10) → V k i = y (adr k i) := fun k i hk hne => by
      rw [hR k i hk, un]
      intro e
      exact hne (adr_inj hk (show okc 10 1 by unfold okc; omega) e).1
    have v0 : ∀ i, i < 4 → V 0 i = y i := fun i hi => by have := hv 0 i (by unfold okc; omega) (by decide); rw [this]; show y (0 + i) = y i; rw [Nat.zero_add]
    have v1 : ∀ i, i < 5 → V 1 i = y (48 + i) := fun i hi => hv 1 i (by unfold okc; omega) (by decide)
    have v2 : ∀ i, i < 5 → V 2 i = y (8 + i) := fun i hi => hv 2 i (by unfold okc; omega) (by decide)
    have v3 : ∀ i, i < 5 → V 3 i = y (13 + i) := fun i hi => hv 3 i (by unfold okc; omega) (by decide)
    have v5 : ∀ i, i < 5 → V 5 i = y (23 + i) := fun i hi => hv 5 i (by unfold okc; omega) (by decide)
    have v6 : ∀ i, i < 5 → V 6 i = y (28 + i) := fun i hi => hv 6 i (by unfold okc; omega) (by decide)
    have v7 : ∀ i, i < 5 → V 7 i = y (33 + i) := fun i hi => hv 7 i (by unfold okc; omega) (by decide)
    have v8 : ∀ i, i < 5 → V 8 i = y (38 + i) := fun i hi => hv 8 i (by unfold okc; omega) (by decide)
    have v9 : ∀ i, i < 5 → V 9 i = y (43 + i) := fun i hi => hv 9 i (by unfold okc; omega) (by decide)
    have vr : V 10 2 = y 7 := by rw [hR.ro, un (by decide)]
    obtain ⟨a6, a2, a7, a9⟩ := hVA V (by rw [v6 w hw, hgw]) (v5 w hw) (v0 2 (by decide)) (v2 w hw) (v7 w hw) (v9 w hw)
    have hA : ∀ i, i < 5 → enA V i 6 i = x (28 + i) ∧ enA V i 2 i = x (8 + i) ∧ enA V i 7 i = x (33 + i) ∧ enA V i 9 i = x (43 + i) := fun i hi => by
      by_cases hiw : i = w
      · subst hiw
        refine ⟨?_, ?_, ?_, ?_⟩
        · rw [a6, hx, if_neg (by omega), if_pos rfl]
        · rw [a2, hx, if_neg (by omega), if_neg (by omega), if_neg (by omega), if_pos rfl]
        · rw [a7, hx, if_neg (by omega), if_neg (by omega), if_pos rfl]
        · rw [a9, hx, if_pos rfl]
      · obtain ⟨a, ha1, ha5, e⟩ := hg i hi hiw
        have : enA V i = V := by unfold enA; rw [if_neg]; rw [v6 i hi, e]; exact nI_none (by omega)
        rw [this, v6 i hi, v2 i hi, v7 i hi, v9 i hi, hxy _ (by omega) (by omega) (by omega) (by omega), hxy _ (by omega) (by omega) (by omega) (by omega), hxy _ (by omega) (by omega) (by omega) (by omega), hxy _ (by omega) (by omega) (by omega) (by omega)]
        exact ⟨rfl, rfl, rfl, rfl⟩
    have hA1 : ∀ i, i < 5 → enA V i 1 = V 1 := fun i hi => by funext q; exact enA_off V i hi 1 q (Or.inr ⟨by decide, by decide, by decide, by decide⟩)
    have hpz : ∀ i, i < 5 → pfL (enA V i 1) (enA V i 6 i) 5 0 = mpZ x (x (28 + i)) := fun i hi => by
      rw [hA1 i hi, (hA i hi).1, (hg1 i hi).2]
      exact prize_eq (fun q hq => by rw [v1 q hq, hxy _ (by omega) (by omega) (by omega) (by omega)]) (hg1 i hi).1
    obtain ⟨e1, e2⟩ := enL_at 5 0 V rfl
    have eT : ∀ k i, 1 ≤ k → k ≤ 9 → i < 5 → endT V k i = enS (enA V i) i k i := fun k i hk1 hk9 hi => by
      unfold endT enZ
      rw [tup_row _ 2 _ (show k ≠ 10 by omega), tup_row _ 1 _ (show k ≠ 10 by omega), tup_row _ 0 _ (show k ≠ 10 by omega), e1 i hi k hk1 hk9, if_pos (Nat.zero_le _)]
    refine RelV.of (fun i hi => ?_) (fun i hi => ⟨?_, ?_, ?_, ?_, ?_, ?_, ?_, ?_, ?_⟩) ?_ ?_ ?_
    · unfold endT enZ
      rw [tup_row _ 2 _ (show (0 : Nat) ≠ 10 by decide), tup_row _ 1 _ (show (0 : Nat) ≠ 10 by decide), tup_row _ 0 _ (show (0 : Nat) ≠ 10 by decide), e2 0 (by omega), v0 i hi, hry i (by omega) (by omega) (by omega) (by omega) (by omega) (by omega) (by omega) (by omega)]
    · unfold endT enZ
      rw [tup_row _ 2 _ (show (1 : Nat) ≠ 10 by decide), tup_row _ 1 _ (show (1 : Nat) ≠ 10 by decide), tup_row _ 0 _ (show (1 : Nat) ≠ 10 by decide), e2 1 (by omega), v1 i hi, hry _ (by omega) (by omega) (by omega) (by omega) (by omega) (by omega) (by omega) (by omega)]
    · rw [eT 2 i (by decide) (by decide) hi, enS_at, if_pos rfl, if_neg (by decide), if_pos rfl, hpz i hi, (hA i hi).2.1, cap_eq, hco i hi]
    · unfold endT enZ
      rw [tup_row _ 2 _ (show (3 : Nat) ≠ 10 by decide), tup_row _ 1 _ (show (3 : Nat) ≠ 10 by decide), tup_row _ 0 _ (show (3 : Nat) ≠ 10 by decide), e2 3 (by omega), v3 i hi, hry _ (by omega) (by omega) (by omega) (by omega) (by omega) (by omega) (by omega) (by omega)]
    · rw [eT 4 i (by decide) (by decide) hi, enS_at, if_pos rfl, if_pos rfl, (hA i hi).1, (hg1 i hi).2, hpl i hi]
    · rw [eT 5 i (by decide) (by decide) hi, enS_at, if_pos rfl, if_neg (by decide), if_neg (by decide), if_neg (by decide), if_pos (Or.inr rfl), hbg _ (by omega) (by omega)]
    · rw [eT 6 i (by decide) (by decide) hi, enS_at, if_pos rfl, if_neg (by decide), if_neg (by decide), if_neg (by decide), if_pos (Or.inl rfl), hbg _ (by omega) (by omega)]
    · rw [eT 7 i (by decide) (by decide) hi, enS_at, if_pos rfl, if_neg (by decide), if_neg (by decide), if_neg (by decide), if_neg (by decide), (hA i hi).2.2.1, hrk _ (by omega) (by omega) (by omega) (by omega) (by omega), hl2 _ (by omega) (by omega) (by omega)]
    · rw [eT 8 i (by decide) (by decide) hi, enS_at, if_pos rfl, if_neg (by decide), if_neg (by decide), if_pos rfl, hpz i hi, enA_off V i hi 8 i (Or.inr ⟨by decide, by decide, by decide, by decide⟩), v8 i hi, hrk _ (by omega) (by omega) (by omega) (by omega) (by omega), (hl1 i hi).2.2, if_pos (Nat.zero_le _), hxy (38 + i) (by omega) (by omega) (by omega) (by omega)]
    · rw [eT 9 i (by decide) (by decide) hi, enS_at, if_pos rfl, if_neg (by decide), if_neg (by decide), if_neg (by decide), if_neg (by decide), (hA i hi).2.2.2, hrk _ (by omega) (by omega) (by omega) (by omega) (by omega), hl2 _ (by omega) (by omega) (by omega)]
    · rw [h4]; unfold endT enZ; simp only [tup_at]; rfl
    · rw [h5]; unfold endT enZ; simp only [tup_at]; rfl
    · rw [h7]; unfold endT enZ; simp only [tup_at]
      rw [e2 10 (by omega), vr]; rfl
