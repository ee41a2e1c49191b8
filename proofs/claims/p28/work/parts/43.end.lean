/-! THE DROP THAT ENDS THE AUCTION -/
theorem perm5 : ∀ a b c d e : Fin 5, a ≠ b → a ≠ c → a ≠ d → a ≠ e → b ≠ c → b ≠ d → b ≠ e → c ≠ d → c ≠ e → d ≠ e → [a, b, c, d, e].Perm [0, 1, 2, 3, 4] := by decide +kernel
theorem perm_sum {l l' : List (Fin 5)} (h : l.Perm l') (f : Nat → Int32) : l.foldr (fun i x => f i.val + x) 0 = l'.foldr (fun i x => f i.val + x) 0 := by
  induction h with
  | nil => rfl
  | cons x _ ih => exact congrArg (fun y => f x.val + y) ih
  | swap x y l =>
    show f y.val + (f x.val + _) = f x.val + (f y.val + _)
    rw [← Int32.add_assoc, Int32.add_comm (f y.val), Int32.add_assoc]
  | trans _ _ h1 h2 => exact h1.trans h2
theorem s5_perm (f : Nat → Int32) {σ : Nat → Nat} (h : ∀ i, i < 5 → σ i < 5) (inj : ∀ i i', i < 5 → i' < 5 → σ i = σ i' → i = i') : s5 (fun i => f (σ i)) = s5 f := by
  have hn : ∀ i i' (hi : i < 5) (hi' : i' < 5), i ≠ i' → (⟨σ i, h i hi⟩ : Fin 5) ≠ ⟨σ i', h i' hi'⟩ := fun i i' hi hi' hx e => hx (inj i i' hi hi' (congrArg Fin.val e))
  have hp : f (σ 0) + (f (σ 1) + (f (σ 2) + (f (σ 3) + (f (σ 4) + 0)))) = f 0 + (f 1 + (f 2 + (f 3 + (f 4 + 0)))) :=
    perm_sum (perm5 ⟨σ 0, h 0 (by decide)⟩ ⟨σ 1, h 1 (by decide)⟩ ⟨σ 2, h 2 (by decide)⟩ ⟨σ 3, h 3 (by decide)⟩ ⟨σ 4, h 4 (by decide)⟩ (hn 0 1 (by decide) (by decide) (by decide)) (hn 0 2 (by decide) (by decide) (by decide)) (hn 0 3 (by decide) (by decide) (by decide)) (hn 0 4 (by decide) (by decide) (by decide)) (hn 1 2 (by decide) (by decide) (by decide)) (hn 1 3 (by decide) (by decide) (by decide)) (hn 1 4 (by decide) (by decide) (by decide)) (hn 2 3 (by decide) (by decide) (by decide)) (hn 2 4 (by decide) (by decide) (by decide)) (hn 3 4 (by decide) (by decide) (by decide))) f
  unfold s5
  rw [Int32.add_zero, Int32.add_zero] at hp
  show f (σ 0) + f (σ 1) + f (σ 2) + f (σ 3) + f (σ 4) = _
  rw [Int32.add_assoc, Int32.add_assoc, Int32.add_assoc, hp, Int32.add_assoc (f 0 + f 1 + f 2), Int32.add_assoc (f 0 + f 1), Int32.add_assoc (f 0)]
theorem rk_lt5 {pr : Nat → Int32} {i : Nat} (hi : i < 5) : rk pr i < 5 :=
  cnt5_lt (p := fun j => decide (Bf pr j i)) (q := fun _ => true) hi (fun _ _ _ => rfl) rfl (decide_eq_false Bf.irr)
theorem pf_rk (pr : Nat → Int32) {m : Nat} (hm : m < 5) : pfL pr (nI (rk pr m)) 5 0 = pr m := by
  have e : ∀ i, i < 5 → (nI (rk pr i) = nI (rk pr m)) = (i = m) := fun i hi => propext ⟨fun q => rk_inj hi hm ((nI_eq (by have := rk_le pr i; omega) (by have := rk_le pr m; omega)).mp q), fun q => by rw [q]⟩
  simp only [pfL, ahL_rk pr (show 0 < 5 by decide), ahL_rk pr (show 0 + 1 < 5 by decide), ahL_rk pr (show 0 + 1 + 1 < 5 by decide), ahL_rk pr (show 0 + 1 + 1 + 1 < 5 by decide), ahL_rk pr (show 0 + 1 + 1 + 1 + 1 < 5 by decide), e 0 (by decide), e (0 + 1) (by decide), e (0 + 1 + 1) (by decide), e (0 + 1 + 1 + 1) (by decide), e (0 + 1 + 1 + 1 + 1) (by decide)]
  rcases lt5 hm with rfl | rfl | rfl | rfl | rfl <;> rfl
theorem prizes_sum (pr : Nat → Int32) {Q : Nat → Nat} (h : ∀ i, i < 5 → Q i < 5) (inj : ∀ i i', i < 5 → i' < 5 → Q i = Q i' → i = i') : s5 (fun i => pfL pr (nI (Q i)) 5 0) = s5 pr := by
  rw [s5_perm (fun a => pfL pr (nI a) 5 0) h inj, ← s5_perm (fun a => pfL pr (nI a) 5 0) (σ := rk pr) (fun i hi => rk_lt5 hi) (fun i i' hi hi' e => rk_inj hi hi' e)]
  exact s5_congr (fun m hm => pf_rk pr hm)
theorem pf_n {pr : Nat → Int32} (h : ∀ i, i < 5 → ∃ c, c ≤ 99 ∧ pr i = nI c) (x : Int32) : ∃ c, c ≤ 99 ∧ pfL pr x 5 0 = nI c := by
  have hs : ∀ (k : Nat) (P : Prop) [Decidable P] (r : Int32), k < 5 → (∃ c, c ≤ 99 ∧ r = nI c) → ∃ c, c ≤ 99 ∧ (if P then pr k else r) = nI c := by
    intro k P _ r hk hr
    split
    · exact h k hk
    · exact hr
  simp only [pfL]
  exact hs _ _ _ (by decide) (hs _ _ _ (by decide) (hs _ _ _ (by decide) (hs _ _ _ (by decide) (hs _ _ _ (by decide) ⟨0, by decide, rfl⟩))))
theorem capC_n {a : Nat} (h : a ≤ 100000) : capC (nI a) = nI (min a 9999) := by
  unfold capC
  show (if nI 9999 < nI a then nI 9999 else nI a) = nI (min a 9999)
  by_cases q : 9999 < a
  · rw [if_pos ((nI_ltI (a := 9999) (b := a) (by decide) (by omega)).mpr q), show min a 9999 = 9999 by omega]
  · rw [if_neg (fun e => q ((nI_ltI (a := 9999) (b := a) (by decide) (by omega)).mp e)), show min a 9999 = a by omega]
/-- what the last one pays -/
def shw (T : Tb) (w : Nat) : Int32 := if T 5 w = (-100006) then 0 else (T 5 w * T 0 2 + 99) / 100
theorem enA_at (U : Tb) {w : Nat} (hw : w < 5) (h6 : U 6 w = (-100006)) : enA U w 6 w = 0 ∧ enA U w 2 w = U 2 w - shw U w ∧ enA U w 7 w = U 7 w + shw U w ∧ enA U w 9 w = U 9 w + 1 := by
  have e5 : enB U w 5 w = U 5 w := by unfold enB; rw [tup_row _ w _ (show (5 : Nat) ≠ 9 by decide), tup_row _ w _ (show (5 : Nat) ≠ 6 by decide)]
  have e0 : enB U w 0 2 = U 0 2 := by unfold enB; rw [tup_row _ w _ (show (0 : Nat) ≠ 9 by decide), tup_row _ w _ (show (0 : Nat) ≠ 6 by decide)]
  have e2 : enB U w 2 w = U 2 w := by unfold enB; rw [tup_row _ w _ (show (2 : Nat) ≠ 9 by decide), tup_row _ w _ (show (2 : Nat) ≠ 6 by decide)]
  have e7 : enB U w 7 w = U 7 w := by unfold enB; rw [tup_row _ w _ (show (7 : Nat) ≠ 9 by decide), tup_row _ w _ (show (7 : Nat) ≠ 6 by decide)]
  have e6 : enB U w 6 w = 0 := by unfold enB; rw [tup_row _ w _ (show (6 : Nat) ≠ 9 by decide), tup_at, if_pos ⟨rfl, rfl⟩]
  have e9 : enB U w 9 w = U 9 w + 1 := by unfold enB; rw [tup_at, if_pos ⟨rfl, rfl⟩, tup_row _ w _ (show (9 : Nat) ≠ 6 by decide)]
  by_cases hb : U 5 w = (-100006)
  · have e : enA U w = enB U w := by
      unfold enA payT
      rw [if_pos h6, isPb_n hw, if_neg lz_o, ix_n hw, e5, if_pos hb]
    have es : shw U w = 0 := by unfold shw; rw [if_pos hb]
    rw [e, es, e6, e2, e7, e9, Int32.sub_zero, Int32.add_zero]
    exact ⟨rfl, rfl, rfl, rfl⟩
  · have es : shw U w = (U 5 w * U 0 2 + 99) / 100 := by unfold shw; rw [if_neg hb]
    have e : enA U w = tup (tup (enB U w) 2 w (U 2 w - shw U w)) 7 w (U 7 w + shw U w) := by
      rw [es]
      unfold enA payT
      rw [if_pos h6, isPb_n hw, if_neg lz_o, ix_n hw, e5, if_neg hb, e0, e2, tup_row _ w _ (show (7 : Nat) ≠ 2 by decide), e7]
    rw [e]
    refine ⟨?_, ?_, ?_, ?_⟩
    · rw [tup_row _ w _ (show (6 : Nat) ≠ 7 by decide), tup_row _ w _ (show (6 : Nat) ≠ 2 by decide), e6]
    · rw [tup_row _ w _ (show (2 : Nat) ≠ 7 by decide), tup_at, if_pos ⟨rfl, rfl⟩]
    · rw [tup_at, if_pos ⟨rfl, rfl⟩]
    · rw [tup_row _ w _ (show (9 : Nat) ≠ 7 by decide), tup_row _ w _ (show (9 : Nat) ≠ 2 by decide), e9]
/-- a share of what is bid, out of the coins -/
theorem share_T {T : Tb} {z : Nat → Int32} (hR : RelV T z) (hZ : ZB z) (hV : Cov z) {i : Nat} (hi : i < 5) (hg : T 6 i = (-100006)) : (∃ d, d ≤ 9999 ∧ T 2 i = nI d + shr T i (T 0 3)) ∧ ∃ d, d ≤ 9999 ∧ T 2 i = nI d + shw T i := by
  obtain ⟨⟨-, -, ⟨h, hh, hz2⟩, d, hd, hz3⟩, -, ⟨hC, -⟩, -⟩ := hZ
  obtain ⟨c0, hc0, hci⟩ := hC i hi
  unfold shr shw
  rw [hR.bi hi, hR.co hi, hR.se (show 3 < 4 by decide), hR.se (show 2 < 4 by decide)]
  by_cases hb : z (23 + i) = (-100006)
  · rw [if_pos hb, if_pos hb, hci]
    exact ⟨⟨c0, hc0, (Int32.add_zero _).symm⟩, c0, hc0, (Int32.add_zero _).symm⟩
  · obtain ⟨b, c, hbc, hc, hzb, hzc⟩ := (hV i hi (by rw [← hR.go hi]; exact hg)).resolve_left hb
    have h1 : z (23 + i) * z 3 / 100 = nI (b * d / 100) := by
      have := share_n (b := b) (h := d) (m := 0) (by omega) hd (by decide)
      rw [show nI 0 = 0 from rfl, Int32.add_zero] at this
      rw [hzb, hz3, this]; rfl
    have h2 : (z (23 + i) * z 2 + 99) / 100 = nI ((b * h + 99) / 100) := by rw [hzb, hz2]; exact share_n (m := 99) (by omega) hh (by decide)
    have l1 : b * d / 100 ≤ b := share_le (m := 0) hd (by decide)
    have l2 : (b * h + 99) / 100 ≤ b := share_le hh (by decide)
    rw [if_neg hb, if_neg hb, h1, h2, hzc]
    exact ⟨⟨c - b * d / 100, by omega, by rw [nI_add]; exact congrArg nI (by omega)⟩, c - (b * h + 99) / 100, by omega, by rw [nI_add]; exact congrArg nI (by omega)⟩
/-- what an auction's end makes of the coins, payments and prizes -/
def EndF (T T' : Tb) (sh : Nat → Int32) : Prop := ∃ d pz c' : Nat → Nat, (∀ i, i < 5 → T 2 i = nI (d i) + sh i ∧ T' 7 i = T 7 i + sh i ∧ T' 2 i = nI (c' i) ∧ c' i ≤ d i + pz i ∧ d i ≤ 9999 ∧ pz i ≤ 99 ∧ T' 8 i = T 8 i + nI (pz i)) ∧ s5 (fun i => nI (pz i)) = s5 (T 1)
theorem last_T {T : Tb} {B : Nat} (h : TI T B) (h1 : ¬ T 10 0 = 0) (h2 : nT T = 2) :
    TJ (drT T) ∧ drT T 10 0 = 0 ∧ drV T = (-100006) ∧ drT T 10 2 = T 10 2 + 1 ∧ drT T 1 = T 1 ∧ drT T 0 = T 0 ∧ ∃ j w, j < 5 ∧ w < 5 ∧ w ≠ j ∧ T 10 1 = nI j ∧ T 6 j = (-100006) ∧ T 6 w = (-100006) ∧ (∀ i, i < 5 → i ≠ j → i ≠ w → ¬ T 6 i = (-100006)) ∧ drT T 4 j = 1 ∧ drT T 4 w = 0 ∧
      ∃ sh : Nat → Int32, sh j = shr T j (T 0 3) ∧ EndF T (drT T) sh := by
  obtain ⟨z, hR, hZ, hu⟩ := h.1.runs h1
  have hl : lfB T = nI 1 := by rw [lfB_n h.1 h1, h2]
  have h2z : nin z = 2 := by rw [← nT_nin hR]; exact h2
  obtain ⟨-, m2, m3, m5, m6⟩ := drop_last hZ.1 hu h2z
  have hu2 := hu
  obtain ⟨h4, hn, ⟨j, hj, h5, hgj⟩, hHi, hV, hG⟩ := hu
  have ht : T 10 1 = nI j := hR.tu.trans h5
  have hgT : T 6 j = (-100006) := by rw [hR.go hj]; exact hgj
  obtain ⟨w, hw, hwj, hwin⟩ := cnt5_other hj hn
  have hwT : T 6 w = (-100006) := by rw [hR.go hw]; exact of_decide_eq_true hwin
  have hrest := cnt5_two hj hw hwj h2z (decide_eq_true hgj) hwin
  have hrT : ∀ i, i < 5 → i ≠ j → i ≠ w → ¬ T 6 i = (-100006) := fun i hi a b => by rw [hR.go hi]; exact of_decide_eq_false (hrest i hi a b)
  obtain ⟨U, hU⟩ : ∃ U, U = drB T := ⟨_, rfl⟩
  have hUp : ∀ k i, U k i = if k = 2 ∧ i = j then T 2 j - shr T j (T 0 3) else if k = 7 ∧ i = j then T 7 j + shr T j (T 0 3) else if k = 6 ∧ i = j then nI 1 else T k i := fun k i => by rw [hU, drA_eq ht hj hl, pay_at T hj]
  have hUT : ∀ k i, k ≠ 2 → k ≠ 7 → k ≠ 6 → U k i = T k i := fun k i a b c => by rw [hUp, if_neg (by omega), if_neg (by omega), if_neg (by omega)]
  have hUi : ∀ k i, i ≠ j → U k i = T k i := fun k i a => by rw [hUp, if_neg (by omega), if_neg (by omega), if_neg (by omega)]
  have hU1 : U 1 = T 1 := funext (fun i => hUT 1 i (by decide) (by decide) (by decide))
  have hdr : drT T = endT U := by
    unfold drT
    have e : bitC (plB T) - 1 = 1 := hl
    rw [ht, isPb_n hj, if_neg lz_o, if_pos e, hU]
  obtain ⟨e1, e2⟩ := enL_at 5 0 U rfl
  have eT : ∀ k i, 1 ≤ k → k ≤ 9 → i < 5 → drT T k i = enS (enA U i) i k i := fun k i hk1 hk9 hi => by
    rw [hdr]
    unfold endT enZ
    rw [tup_row _ 2 _ (show k ≠ 10 by omega), tup_row _ 1 _ (show k ≠ 10 by omega), tup_row _ 0 _ (show k ≠ 10 by omega), e1 i hi k hk1 hk9, if_pos (Nat.zero_le _)]
  have eR : ∀ k, (k = 0 ∨ k = 1 ∨ k = 3) → drT T k = U k := fun k hk => by
    rw [hdr]
    unfold endT enZ
    rw [tup_row _ 2 _ (show k ≠ 10 by omega), tup_row _ 1 _ (show k ≠ 10 by omega), tup_row _ 0 _ (show k ≠ 10 by omega), e2 k (by omega)]
  have hRel := m6 T hR
  have h0 : drT T 10 0 = 0 := by rw [hRel.uw]; exact m3.1
  have hN : drT T 10 1 = (-100006) := by rw [hRel.tu]; exact m3.2.1
  have h10 : drT T 10 2 = T 10 2 + 1 := by
    rw [hdr]
    unfold endT enZ
    simp only [tup_at]
    rw [e2 10 (by omega), hUT 10 2 (by decide) (by decide) (by decide)]
    rfl
  -- the column of a player ahead of the prizes
  obtain ⟨sh, hsh⟩ : ∃ sh : Nat → Int32, sh = fun i => if i = j then shr T j (T 0 3) else if i = w then shw T w else 0 := ⟨_, rfl⟩
  have hA : ∀ i, i < 5 → enA U i 1 = T 1 ∧ enA U i 2 i = T 2 i - sh i ∧ enA U i 7 i = T 7 i + sh i ∧ enA U i 8 i = T 8 i ∧ enA U i 9 i = T 9 i + (if i = w then 1 else 0) ∧ (i = j → enA U i 6 i = 1) ∧ (i = w → enA U i 6 i = 0) := fun i hi => by
    have r1 : enA U i 1 = T 1 := by
      rw [← hU1]
      funext q
      exact enA_off U i hi 1 q (Or.inr ⟨by decide, by decide, by decide, by decide⟩)
    have r8 : enA U i 8 i = T 8 i := by rw [enA_off U i hi 8 i (Or.inr ⟨by decide, by decide, by decide, by decide⟩), hUT 8 i (by decide) (by decide) (by decide)]
    by_cases hiw : i = w
    · subst hiw
      obtain ⟨a6, a2, a7, a9⟩ := enA_at U hi (by rw [hUi 6 i hwj]; exact hwT)
      have es : shw U i = sh i := by rw [hsh]; unfold shw; simp only [if_neg hwj, if_true]; rw [hUi 5 i hwj, hUT 0 2 (by decide) (by decide) (by decide)]
      rw [es] at a2 a7
      rw [hUi 2 i hwj] at a2; rw [hUi 7 i hwj] at a7; rw [hUi 9 i hwj] at a9
      exact ⟨r1, a2, a7, r8, by rw [if_pos rfl]; exact a9, fun q => absurd q hwj, fun _ => a6⟩
    · have h6 : ¬ U 6 i = (-100006) := by
        by_cases hij : i = j
        · rw [hUp, if_neg (by omega), if_neg (by omega), if_pos ⟨rfl, hij⟩]; decide +kernel
        · rw [hUi 6 i hij]; exact hrT i hi hij hiw
      have e : enA U i = U := by unfold enA; rw [if_neg h6]
      rw [e] at r1 r8 ⊢
      refine ⟨r1, ?_, ?_, r8, by rw [if_neg hiw, Int32.add_zero]; exact hUT 9 i (by decide) (by decide) (by decide), fun q => ?_, fun q => absurd q hiw⟩
      · by_cases hij : i = j
        · subst hij; rw [hUp, if_pos ⟨rfl, rfl⟩, hsh]; simp only [if_true]
        · rw [hUi 2 i hij, hsh]; simp only [if_neg hij, if_neg hiw, Int32.sub_zero]
      · by_cases hij : i = j
        · subst hij; rw [hUp, if_neg (by omega), if_pos ⟨rfl, rfl⟩, hsh]; simp only [if_true]
        · rw [hUi 7 i hij, hsh]; simp only [if_neg hij, if_neg hiw, Int32.add_zero]
      · rw [hUp, if_neg (by omega), if_neg (by omega), if_pos ⟨rfl, q⟩]; rfl
  have h4T : ∀ i, i < 5 → drT T 4 i = enA U i 6 i := fun i hi => by rw [eT 4 i (by decide) (by decide) hi, enS_at, if_pos rfl, if_pos rfl]
  have hWT : WT (drT T) := by
    unfold WT
    rw [h10, h.1.2, s5_congr (f := drT T 9) (f' := fun i => T 9 i + (if i = w then 1 else 0)) (fun i hi => by rw [eT 9 i (by decide) (by decide) hi, enS_at, if_pos rfl, if_neg (by decide), if_neg (by decide), if_neg (by decide), if_neg (by decide), (hA i hi).2.2.2.2.1]), s5_add, s5_1 1 hw]
  have hTJ : TJ (drT T) := ⟨⟨_, hRel, m2, Or.inl m3⟩, hWT⟩
  refine ⟨hTJ, h0, ?_, h10, by rw [eR 1 (by omega), hU1], by rw [eR 0 (by omega)]; exact funext (fun i => hUT 0 i (by decide) (by decide) (by decide)), j, w, hj, hw, hwj, ht, hgT, hwT, hrT, by rw [h4T j hj]; exact (hA j hj).2.2.2.2.2.1 rfl, by rw [h4T w hw]; exact (hA w hw).2.2.2.2.2.2 rfl, sh, by rw [hsh]; simp only [if_true], ?_⟩
  · unfold drV
    rw [ht, isPb_n hj, if_neg lz_o]
    exact hN
  · have hd : ∀ i, ∃ d, i < 5 → d ≤ 9999 ∧ T 2 i = nI d + sh i := fun i => by
      by_cases hi : i < 5
      · by_cases hij : i = j
        · subst hij
          obtain ⟨d, d1, d2⟩ := (share_T hR hZ.1 hV hi hgT).1
          exact ⟨d, fun _ => ⟨d1, by rw [hsh]; simp only [if_true]; exact d2⟩⟩
        · by_cases hiw : i = w
          · subst hiw
            obtain ⟨d, d1, d2⟩ := (share_T hR hZ.1 hV hi hwT).2
            exact ⟨d, fun _ => ⟨d1, by rw [hsh]; simp only [if_neg hij, if_true]; exact d2⟩⟩
          · obtain ⟨d, d1, d2⟩ := h.1.coins hi
            exact ⟨d, fun _ => ⟨d1, by rw [hsh]; simp only [if_neg hij, if_neg hiw, Int32.add_zero]; exact d2⟩⟩
      · exact ⟨0, fun q => absurd q hi⟩
    have hz : ∀ i, ∃ c, c ≤ 99 ∧ pfL (T 1) (drT T 4 i) 5 0 = nI c := fun i => pf_n (fun m hm => h.1.prizes hm) _
    obtain ⟨P', Q', hp'⟩ := hTJ.per
    obtain ⟨dF, hdF⟩ : ∃ dF : Nat → Nat, ∀ i, i < 5 → dF i ≤ 9999 ∧ T 2 i = nI (dF i) + sh i := ⟨fun i => Classical.choose (hd i), fun i => Classical.choose_spec (hd i)⟩
    obtain ⟨zF, hzF⟩ : ∃ zF : Nat → Nat, ∀ i, zF i ≤ 99 ∧ pfL (T 1) (drT T 4 i) 5 0 = nI (zF i) := ⟨fun i => Classical.choose (hz i), fun i => Classical.choose_spec (hz i)⟩
    refine ⟨dF, zF, fun i => min (dF i + zF i) 9999, fun i hi => ?_, ?_⟩
    · obtain ⟨d1, d2⟩ := hdF i hi
      obtain ⟨z1, z2⟩ := hzF i
      rw [h4T i hi] at z2
      refine ⟨d2, ?_, ?_, Nat.min_le_left _ _, d1, z1, ?_⟩
      · rw [eT 7 i (by decide) (by decide) hi, enS_at, if_pos rfl, if_neg (by decide), if_neg (by decide), if_neg (by decide), if_neg (by decide), (hA i hi).2.2.1]
      · rw [eT 2 i (by decide) (by decide) hi, enS_at, if_pos rfl, if_neg (by decide), if_pos rfl, (hA i hi).1, z2, (hA i hi).2.1]
        have e9 : T 2 i - sh i = nI (dF i) := by rw [d2, Int32.add_sub_cancel]
        rw [e9, nI_add]
        exact capC_n (by omega)
      · rw [eT 8 i (by decide) (by decide) hi, enS_at, if_pos rfl, if_neg (by decide), if_neg (by decide), if_pos rfl, (hA i hi).1, z2, (hA i hi).2.2.2.1]
    · rw [s5_congr (f := fun i => nI (zF i)) (f' := fun i => pfL (T 1) (nI (Q' i)) 5 0) (fun i hi => by rw [← (hp'.1 i hi).2.1]; exact (hzF i).2.symm)]
      exact prizes_sum (T 1) (fun i hi => (hp'.1 i hi).1) (fun i i' hi hi' e => hp'.inj hi hi' e)
