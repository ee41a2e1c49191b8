/-! CONTRACTS of the reference: its steps (laid by wip/whole/gen/mod.py) -/
set_option maxHeartbeats 4000000 in
set_option maxRecDepth 100000 in
theorem c_X4_in (l : Launch) (G : qG) (x lo hi : Int32) : MP l yX4_in wsX4_in 0 0 G [.int x, .int lo, .int hi] ([]) (inB x lo hi) := by
  refine MP.of (ty := .boolean) (by decide) rfl (Nat.le_of_ble_eq_true rfl) (inB_nar x lo hi) ?_
  intro p e s m below meth c hx hb hml hown hts hK hP Q hret ls hl
  have hown : s.vm.findClass RX4 = some m.cls := hown
  have hl : lv_has ls 3 [(0, .int x), (1, .int lo), (2, .int hi)] := hl
  refine lv_iload_n hx hb dX4_in_0 rfl (lv_at hl 0 rfl) ?_
  refine lv_iload_n hx hb dX4_in_1 rfl (lv_at hl 1 rfl) ?_
  refine lv_icmp_lt (tgt := 14) hx hb dX4_in_2 (by decide) (fun c_2_1 => ?_) (fun c_2_1 => ?_)
  · refine lv_iconst (v := 0) hx hb dX4_in_14 (by decide) ?_
    exact hret _ _ _ (by simp only [inB, if_pos c_2_1]) dX4_in_15
  · refine lv_iload_n hx hb dX4_in_5 rfl (lv_at hl 0 rfl) ?_
    refine lv_iload_n hx hb dX4_in_6 rfl (lv_at hl 2 rfl) ?_
    refine lv_icmp_gt (tgt := 14) hx hb dX4_in_7 (by decide) (fun c_7_2 => ?_) (fun c_7_2 => ?_)
    · refine lv_iconst (v := 0) hx hb dX4_in_14 (by decide) ?_
      exact hret _ _ _ (by simp only [inB, if_neg c_2_1, if_pos c_7_2]) dX4_in_15
    · refine lv_iconst (v := 1) hx hb dX4_in_10 (by decide) ?_
      refine lv_goto (tgt := 15) hx hb dX4_in_11 (by decide) ?_
      exact hret _ _ _ (by simp only [inB, if_neg c_2_1, if_neg c_7_2]) dX4_in_15
set_option maxHeartbeats 4000000 in
set_option maxRecDepth 100000 in
theorem c_X4_isPlayer (l : Launch) (G : qG) (x : Int32) : MP l yX4_isPlayer wsX4_isPlayer 1 22 G [.int x] ([]) (inB x 0 4) := by
  refine MP.of (ty := .boolean) (by decide) rfl (Nat.le_of_ble_eq_true rfl) (inB_nar x 0 4) ?_
  intro p e s m below meth c hx hb hml hown hts hK hP Q hret ls hl
  have hown : s.vm.findClass RX4 = some m.cls := hown
  have hl : lv_has ls 1 [(0, .int x)] := hl
  have wk1 := hts (Cond.methodLink RX4 35 yX4_in) (List.mem_of_getElem? (i := 1) rfl)
  refine lv_iload_n hx hb dX4_isPlayer_0 rfl (lv_at hl 0 rfl) ?_
  refine lv_iconst (v := 0) hx hb dX4_isPlayer_1 (by decide) ?_
  refine lv_iconst (v := 4) hx hb dX4_isPlayer_2 (by decide) ?_
  refine cPS (As := [.int x, .int 0, .int 4]) (rest := []) ⟨hx, hb, hml, hown, hts⟩ (c_X4_in l G x 0 4) (cwS 3 hts gX4_isPlayer_X4_in rfl rfl rfl (by decide +kernel) ⟨Nat.le_of_ble_eq_true rfl, Nat.le_of_ble_eq_true rfl⟩) hK (fun k q h => by simp at h) rfl rfl hl.1 (Nat.le_of_ble_eq_true rfl) dX4_isPlayer_3 ⟨Nat.le_of_ble_eq_true rfl, Nat.le_of_ble_eq_true rfl⟩ ?_
  exact hret _ _ _ (by rfl) dX4_isPlayer_6
set_option maxHeartbeats 4000000 in
set_option maxRecDepth 100000 in
theorem c_X4_sum (l : Launch) (G : qG) (a : Nat → Nat) (z sp pa st sv pd tl : Nat → Int32) (ns ty spt tm : Int32) (w : Nat) (hw : w + 5 ≤ 53)  : MP l yX4_sum wsX4_sum 0 0 G [.ref (a 0), .int (nI w)] (mw G a z sp pa st sv pd tl ns ty spt tm) (smB z w) := by
  refine MP.of (ty := .int) (by decide) rfl (Nat.le_of_ble_eq_true rfl) rfl ?_
  intro p e s m below meth c hx hb hml hown hts hK hP Q hret ls hl
  have hown : s.vm.findClass RX4 = some m.cls := hown
  have hl : lv_has ls 4 [(0, .ref (a 0)), (1, .int (nI w))] := hl
  have wk1 := hts (Cond.fieldLink RX4 7 "TurnBidsModel" "z" "[I") (List.mem_of_getElem? (i := 1) rfl)
  have hinX4 : ∀ w ∈ wsX40, w ∈ wsX4_sum := fun _ h => (List.mem_cons_of_mem _ (List.mem_append_right _ h))
  refine lv_iconst (v := 0) hx hb dX4_sum_0 (by decide) ?_
  refine lv_istore_n (lv' := [(2, .int 0), (0, .ref (a 0)), (1, .int (nI w))]) hx hb dX4_sum_1 rfl hl (by decide) rfl (fun ls hl => ?_)
  refine lv_iconst (v := 0) hx hb dX4_sum_2 (by decide) ?_
  refine lv_istore_n (lv' := [(3, .int 0), (2, .int 0), (0, .ref (a 0)), (1, .int (nI w))]) hx hb dX4_sum_3 rfl hl (by decide) rfl (fun ls hl => ?_)
  have L4 : ∀ (f i : Nat) (k : Int32), i + f = 5 → smL z w f i k = smB z w → ∀ ls : Array Slot, lv_has ls 4 [(3, .int (nI i)), (2, .int k), (0, .ref (a 0)), (1, .int (nI w))] → W p l e { frames := 0, cells := 0, slots := 0, locals := 0 } s m ([.ref (a 0), .int (nI w)] : List Value).toArray below meth c s.heap [] 0 0 Q (F0 m 4 ls []) := by
    intro f
    induction f with
    | zero =>
      intro i k hi hv4 ls hl
      obtain rfl : i = 5 := by omega
      refine lv_iload_n hx hb dX4_sum_4 rfl (lv_at hl 0 rfl) ?_
      refine lv_iconst (v := 5) hx hb dX4_sum_5 (by decide) ?_
      refine lv_icmp_ge (tgt := 26) hx hb dX4_sum_6 (by decide) (fun _ => ?_) (fun c_9 => absurd (by decide +kernel) c_9)
      refine lv_iload_n hx hb dX4_sum_26 rfl (lv_at hl 1 rfl) ?_
      exact hret _ _ _ (by rw [← hv4]; simp only [smB, smL]) dX4_sum_27
    | succ f ih =>
      intro i k hi hv4 ls hl
      have hlt : i < 5 := by omega
      refine lv_iload_n hx hb dX4_sum_4 rfl (lv_at hl 0 rfl) ?_
      refine lv_iconst (v := 5) hx hb dX4_sum_5 (by decide) ?_
      refine lv_icmp_ge (tgt := 26) hx hb dX4_sum_6 (by decide) (fun c_9 => absurd c_9 (nI_ge (b := 5) hlt (by decide))) (fun _ => ?_)
      refine lv_iload_n hx hb dX4_sum_9 rfl (lv_at hl 1 rfl) ?_
      refine lv_aload_n hx hb dX4_sum_10 rfl (lv_at hl 2 rfl) ?_
      refine va_get (D := G.1) (ci := 4) (v := .ref (a 1)) (C := RX4) (T := TX4) (N := 11) hx hb hts hinX4 hown hK.1 hP 0 rfl rfl 0 (by decide) wk1 (fun _ h9 => h9) rfl dX4_sum_11 ?_
      refine lv_iload_n hx hb dX4_sum_14 rfl (lv_at hl 3 rfl) ?_
      refine lv_iload_n hx hb dX4_sum_15 rfl (lv_at hl 0 rfl) ?_
      refine lv_iadd hx hb dX4_sum_16 ?_
      refine qtop (nI_add w i) ?_
      refine qild hx hb hK.1 hP 1 0 rfl rfl (k := w + i) (nI_clamp (by omega)) (vp_in_nI (by omega) (by decide)) dX4_sum_17 ?_
      refine lv_iadd hx hb dX4_sum_18 ?_
      refine lv_istore_n (lv' := [(2, .int (k + (z (w + i)))), (3, .int (nI i)), (0, .ref (a 0)), (1, .int (nI w))]) hx hb dX4_sum_19 rfl hl (by decide) rfl (fun ls hl => ?_)
      refine lv_iinc (v := nI (i + 1)) (lv' := [(3, .int (nI (i + 1))), (2, .int (k + (z (w + i)))), (0, .ref (a 0)), (1, .int (nI w))]) hx hb dX4_sum_20 hl (k := 1) rfl (nI_1 _) (by decide) rfl (fun ls hl => ?_)
      refine lv_goto (tgt := 4) hx hb dX4_sum_23 (by decide) ?_
      exact ih (i + 1) (k + (z (w + i))) (by omega) (by rw [← hv4]; simp only [smB, smL]) ls (lv_sub hl [0, 1, 2, 3] rfl)
  exact L4 5 0 0 rfl (by simp only [smB]) ls (lv_sub hl [0, 1, 2, 3] rfl)
set_option maxHeartbeats 4000000 in
set_option maxRecDepth 100000 in
theorem c_X4_playerAt (l : Launch) (G : qG) (a : Nat → Nat) (z sp pa st sv pd tl : Nat → Int32) (ns ty spt tm : Int32) (x : Int32) : MP l yX4_playerAt wsX4_playerAt 0 0 G [.ref (a 0), .int x] (mw G a z sp pa st sv pd tl ns ty spt tm) (mAt z x) := by
  refine MP.of (ty := .int) (by decide) rfl (Nat.le_of_ble_eq_true rfl) rfl ?_
  intro p e s m below meth c hx hb hml hown hts hK hP Q hret ls hl
  have hown : s.vm.findClass RX4 = some m.cls := hown
  have hl : lv_has ls 4 [(0, .ref (a 0)), (1, .int x)] := hl
  have wk1 := hts (Cond.constant RX4 39 (-100006)) (List.mem_of_getElem? (i := 1) rfl)
  have wk2 := hts (Cond.fieldLink RX4 7 "TurnBidsModel" "z" "[I") (List.mem_of_getElem? (i := 2) rfl)
  have hinX4 : ∀ w ∈ wsX40, w ∈ wsX4_playerAt := fun _ h => (List.mem_cons_of_mem _ (List.mem_append_right _ h))
  refine lv_ldc (v := (-100006)) hx hb hown wk1 dX4_playerAt_0 ?_
  refine lv_istore_n (lv' := [(2, .int (-100006)), (0, .ref (a 0)), (1, .int x)]) hx hb dX4_playerAt_2 rfl hl (by decide) rfl (fun ls hl => ?_)
  refine lv_iconst (v := 0) hx hb dX4_playerAt_3 (by decide) ?_
  refine lv_istore_n (lv' := [(3, .int 0), (2, .int (-100006)), (0, .ref (a 0)), (1, .int x)]) hx hb dX4_playerAt_4 rfl hl (by decide) rfl (fun ls hl => ?_)
  have L5 : ∀ (f i : Nat) (k : Int32), i + f = 5 → mAtL z x f i k = mAt z x → ∀ ls : Array Slot, lv_has ls 4 [(3, .int (nI i)), (2, .int k), (0, .ref (a 0)), (1, .int x)] → W p l e { frames := 0, cells := 0, slots := 0, locals := 0 } s m ([.ref (a 0), .int x] : List Value).toArray below meth c s.heap [] 0 0 Q (F0 m 5 ls []) := by
    intro f
    induction f with
    | zero =>
      intro i k hi hv5 ls hl
      obtain rfl : i = 5 := by omega
      refine lv_iload_n hx hb dX4_playerAt_5 rfl (lv_at hl 0 rfl) ?_
      refine lv_iconst (v := 5) hx hb dX4_playerAt_6 (by decide) ?_
      refine lv_icmp_ge (tgt := 35) hx hb dX4_playerAt_7 (by decide) (fun _ => ?_) (fun c_9 => absurd (by decide +kernel) c_9)
      refine lv_iload_n hx hb dX4_playerAt_35 rfl (lv_at hl 1 rfl) ?_
      exact hret _ _ _ (by rw [← hv5]; simp only [mAt, mAtL]) dX4_playerAt_36
    | succ f ih =>
      intro i k hi hv5 ls hl
      have hlt : i < 5 := by omega
      refine lv_iload_n hx hb dX4_playerAt_5 rfl (lv_at hl 0 rfl) ?_
      refine lv_iconst (v := 5) hx hb dX4_playerAt_6 (by decide) ?_
      refine lv_icmp_ge (tgt := 35) hx hb dX4_playerAt_7 (by decide) (fun c_9 => absurd c_9 (nI_ge (b := 5) hlt (by decide))) (fun _ => ?_)
      refine lv_aload_n hx hb dX4_playerAt_10 rfl (lv_at hl 2 rfl) ?_
      refine va_get (D := G.1) (ci := 4) (v := .ref (a 1)) (C := RX4) (T := TX4) (N := 11) hx hb hts hinX4 hown hK.1 hP 0 rfl rfl 0 (by decide) wk2 (fun _ h9 => h9) rfl dX4_playerAt_11 ?_
      refine lv_bipush (v := 18) hx hb dX4_playerAt_14 (by decide) ?_
      refine lv_iload_n hx hb dX4_playerAt_16 rfl (lv_at hl 0 rfl) ?_
      refine lv_iadd hx hb dX4_playerAt_17 ?_
      refine qtop (nI_add 18 i) ?_
      refine qild hx hb hK.1 hP 1 0 rfl rfl (k := 18 + i) (nI_clamp (by omega)) (vp_in_nI (by omega) (by decide)) dX4_playerAt_18 ?_
      refine lv_iload_n hx hb dX4_playerAt_19 rfl (lv_at hl 3 rfl) ?_
      refine lv_icmp_ne (tgt := 27) hx hb dX4_playerAt_20 (by decide) (fun c_20_1 => ?_) (fun c_20_1 => ?_)
      · refine lv_iload_n hx hb dX4_playerAt_27 rfl (lv_at hl 1 rfl) ?_
        refine lv_istore_n (lv' := [(2, .int k), (3, .int (nI i)), (0, .ref (a 0)), (1, .int x)]) hx hb dX4_playerAt_28 rfl hl (by decide) rfl (fun ls hl => ?_)
        refine lv_iinc (v := nI (i + 1)) (lv' := [(3, .int (nI (i + 1))), (2, .int k), (0, .ref (a 0)), (1, .int x)]) hx hb dX4_playerAt_29 hl (k := 1) rfl (nI_1 _) (by decide) rfl (fun ls hl => ?_)
        refine lv_goto (tgt := 5) hx hb dX4_playerAt_32 (by decide) ?_
        exact ih (i + 1) k (by omega) (by rw [← hv5]; simp only [mAt, mAtL, if_neg c_20_1]) ls (lv_sub hl [0, 1, 2, 3] rfl)
      · refine lv_iload_n hx hb dX4_playerAt_23 rfl (lv_at hl 0 rfl) ?_
        refine lv_goto (tgt := 28) hx hb dX4_playerAt_24 (by decide) ?_
        refine lv_istore_n (lv' := [(2, .int (nI i)), (3, .int (nI i)), (0, .ref (a 0)), (1, .int x)]) hx hb dX4_playerAt_28 rfl hl (by decide) rfl (fun ls hl => ?_)
        refine lv_iinc (v := nI (i + 1)) (lv' := [(3, .int (nI (i + 1))), (2, .int (nI i)), (0, .ref (a 0)), (1, .int x)]) hx hb dX4_playerAt_29 hl (k := 1) rfl (nI_1 _) (by decide) rfl (fun ls hl => ?_)
        refine lv_goto (tgt := 5) hx hb dX4_playerAt_32 (by decide) ?_
        exact ih (i + 1) (nI i) (by omega) (by rw [← hv5]; simp only [mAt, mAtL, if_pos c_20_1]) ls (lv_sub hl [0, 1, 2, 3] rfl)
  exact L5 5 0 (-100006) rfl (by simp only [mAt]) ls (lv_sub hl [0, 1, 2, 3] rfl)
set_option maxHeartbeats 4000000 in
set_option maxRecDepth 100000 in
theorem c_X4_clearAuction (l : Launch) (G : qG) (a : Nat → Nat) (z sp pa st sv pd tl : Nat → Int32) (ns ty spt tm : Int32)  (sz : Nat) : MV l yX4_clearAuction wsX4_clearAuction 0 0 G sz [.ref (a 0)] (mw G a z sp pa st sv pd tl ns ty spt tm) (mw G a (clZ z) sp pa st sv pd tl ns ty spt tm) := by
  refine MV.of' (by decide) rfl (Nat.le_of_ble_eq_true rfl) ?_
  intro p e s m below meth c hx hb hml hown hts hK hsz hP A hAe hA hD hS hmn Q hret ls hl
  have hown : s.vm.findClass RX4 = some m.cls := hown
  have hl : lv_has ls 2 [(0, .ref (a 0))] := hl
  have wk1 := hts (Cond.fieldLink RX4 7 "TurnBidsModel" "z" "[I") (List.mem_of_getElem? (i := 1) rfl)
  have wk2 := hts (Cond.constant RX4 39 (-100006)) (List.mem_of_getElem? (i := 2) rfl)
  have hinX4 : ∀ w ∈ wsX40, w ∈ wsX4_clearAuction := fun _ h => (List.mem_cons_of_mem _ (List.mem_append_right _ h))
  refine lv_aload_n hx hb dX4_clearAuction_0 rfl (lv_at hl 0 rfl) ?_
  refine va_get (D := G.1) (ci := 4) (v := .ref (a 1)) (C := RX4) (T := TX4) (N := 11) hx hb hts hinX4 hown hK.1 hP 0 rfl rfl 0 (by decide) wk1 (fun _ h9 => h9) rfl dX4_clearAuction_1 ?_
  refine lv_iconst (v := 4) hx hb dX4_clearAuction_4 (by decide) ?_
  refine lv_iconst (v := 0) hx hb dX4_clearAuction_5 (by decide) ?_
  refine qist hx hb hK.1 hP hD hS 1 0 rfl rfl (k := 4) rfl (vp_in_nI (n := 4) (by decide) (by decide)) dX4_clearAuction_6 (fun H locs hP hD hS => ?_)
  have hP : va_P G.1 vwCl (mw G a (upd z 4 0) sp pa st sv pd tl ns ty spt tm) H := hP
  have hD : va_D A (mw G a (upd z 4 0) sp pa st sv pd tl ns ty spt tm) := hD
  refine lv_aload_n hx hb dX4_clearAuction_7 rfl (lv_at hl 0 rfl) ?_
  refine va_get (D := G.1) (ci := 4) (v := .ref (a 1)) (C := RX4) (T := TX4) (N := 11) hx hb hts hinX4 hown hK.1 hP 0 rfl rfl 0 (by decide) wk1 (fun _ h9 => h9) rfl dX4_clearAuction_8 ?_
  refine lv_iconst (v := 5) hx hb dX4_clearAuction_11 (by decide) ?_
  refine lv_ldc (v := (-100006)) hx hb hown wk2 dX4_clearAuction_12 ?_
  refine qist hx hb hK.1 hP hD hS 1 0 rfl rfl (k := 5) rfl (vp_in_nI (n := 5) (by decide) (by decide)) dX4_clearAuction_14 (fun H locs hP hD hS => ?_)
  have hP : va_P G.1 vwCl (mw G a (upd (upd z 4 0) 5 (-100006)) sp pa st sv pd tl ns ty spt tm) H := hP
  have hD : va_D A (mw G a (upd (upd z 4 0) 5 (-100006)) sp pa st sv pd tl ns ty spt tm) := hD
  refine lv_aload_n hx hb dX4_clearAuction_15 rfl (lv_at hl 0 rfl) ?_
  refine va_get (D := G.1) (ci := 4) (v := .ref (a 1)) (C := RX4) (T := TX4) (N := 11) hx hb hts hinX4 hown hK.1 hP 0 rfl rfl 0 (by decide) wk1 (fun _ h9 => h9) rfl dX4_clearAuction_16 ?_
  refine lv_bipush (v := 6) hx hb dX4_clearAuction_19 (by decide) ?_
  refine lv_ldc (v := (-100006)) hx hb hown wk2 dX4_clearAuction_21 ?_
  refine qist hx hb hK.1 hP hD hS 1 0 rfl rfl (k := 6) rfl (vp_in_nI (n := 6) (by decide) (by decide)) dX4_clearAuction_23 (fun H locs hP hD hS => ?_)
  have hP : va_P G.1 vwCl (mw G a (upd (upd (upd z 4 0) 5 (-100006)) 6 (-100006)) sp pa st sv pd tl ns ty spt tm) H := hP
  have hD : va_D A (mw G a (upd (upd (upd z 4 0) 5 (-100006)) 6 (-100006)) sp pa st sv pd tl ns ty spt tm) := hD
  refine lv_iconst (v := 0) hx hb dX4_clearAuction_24 (by decide) ?_
  refine lv_istore_n (lv' := [(1, .int 0), (0, .ref (a 0))]) hx hb dX4_clearAuction_25 rfl hl (by decide) rfl (fun ls hl => ?_)
  have L26 : ∀ (f i : Nat)  (y : Nat → Int32), i + f = 5 → clL f i y = clZ z → ∀ (H : Heap) (locs : List Loc), va_P G.1 vwCl (mw G a y sp pa st sv pd tl ns ty spt tm) H → va_D A (mw G a y sp pa st sv pd tl ns ty spt tm) → va_S A s.heap H locs → ∀ ls : Array Slot, lv_has ls 2 [(1, .int (nI i)), (0, .ref (a 0))] → W p l e { frames := 0, cells := 0, slots := 0, locals := 0 } s m ([.ref (a 0)] : List Value).toArray below meth c H locs 0 0 Q (F0 m 26 ls []) := by
    intro f
    induction f with
    | zero =>
      intro i y hi hv26 H locs hP hD hS ls hl
      obtain rfl : i = 5 := by omega
      refine lv_iload_n hx hb dX4_clearAuction_26 rfl (lv_at hl 0 rfl) ?_
      refine lv_iconst (v := 5) hx hb dX4_clearAuction_27 (by decide) ?_
      refine lv_icmp_ge (tgt := 59) hx hb dX4_clearAuction_28 (by decide) (fun _ => ?_) (fun c_9 => absurd (by decide +kernel) c_9)
      have hf0 : (y) = (clZ z) := (by rw [← hv26]; simp only [clZ, clL])
      have hP : va_P G.1 vwCl (mw G a (clZ z) sp pa st sv pd tl ns ty spt tm) H := by rw [← hf0]; exact hP
      have hD : va_D A (mw G a (clZ z) sp pa st sv pd tl ns ty spt tm) := by rw [← hf0]; exact hD
      exact hret _ _ _ _ () trivial hP hD hS dX4_clearAuction_59
    | succ f ih =>
      intro i y hi hv26 H locs hP hD hS ls hl
      have hlt : i < 5 := by omega
      refine lv_iload_n hx hb dX4_clearAuction_26 rfl (lv_at hl 0 rfl) ?_
      refine lv_iconst (v := 5) hx hb dX4_clearAuction_27 (by decide) ?_
      refine lv_icmp_ge (tgt := 59) hx hb dX4_clearAuction_28 (by decide) (fun c_9 => absurd c_9 (nI_ge (b := 5) hlt (by decide))) (fun _ => ?_)
      refine lv_aload_n hx hb dX4_clearAuction_31 rfl (lv_at hl 1 rfl) ?_
      refine va_get (D := G.1) (ci := 4) (v := .ref (a 1)) (C := RX4) (T := TX4) (N := 11) hx hb hts hinX4 hown hK.1 hP 0 rfl rfl 0 (by decide) wk1 (fun _ h9 => h9) rfl dX4_clearAuction_32 ?_
      refine lv_bipush (v := 23) hx hb dX4_clearAuction_35 (by decide) ?_
      refine lv_iload_n hx hb dX4_clearAuction_37 rfl (lv_at hl 0 rfl) ?_
      refine lv_iadd hx hb dX4_clearAuction_38 ?_
      refine qtop (nI_add 23 i) ?_
      refine lv_ldc (v := (-100006)) hx hb hown wk2 dX4_clearAuction_39 ?_
      refine qist hx hb hK.1 hP hD hS 1 0 rfl rfl (k := 23 + i) (nI_clamp (by omega)) (vp_in_nI (by omega) (by decide)) dX4_clearAuction_41 (fun H locs hP hD hS => ?_)
      have hP : va_P G.1 vwCl (mw G a (upd y (23 + i) (-100006)) sp pa st sv pd tl ns ty spt tm) H := hP
      have hD : va_D A (mw G a (upd y (23 + i) (-100006)) sp pa st sv pd tl ns ty spt tm) := hD
      refine lv_aload_n hx hb dX4_clearAuction_42 rfl (lv_at hl 1 rfl) ?_
      refine va_get (D := G.1) (ci := 4) (v := .ref (a 1)) (C := RX4) (T := TX4) (N := 11) hx hb hts hinX4 hown hK.1 hP 0 rfl rfl 0 (by decide) wk1 (fun _ h9 => h9) rfl dX4_clearAuction_43 ?_
      refine lv_bipush (v := 28) hx hb dX4_clearAuction_46 (by decide) ?_
      refine lv_iload_n hx hb dX4_clearAuction_48 rfl (lv_at hl 0 rfl) ?_
      refine lv_iadd hx hb dX4_clearAuction_49 ?_
      refine qtop (nI_add 28 i) ?_
      refine lv_ldc (v := (-100006)) hx hb hown wk2 dX4_clearAuction_50 ?_
      refine qist hx hb hK.1 hP hD hS 1 0 rfl rfl (k := 28 + i) (nI_clamp (by omega)) (vp_in_nI (by omega) (by decide)) dX4_clearAuction_52 (fun H locs hP hD hS => ?_)
      have hP : va_P G.1 vwCl (mw G a (upd (upd y (23 + i) (-100006)) (28 + i) (-100006)) sp pa st sv pd tl ns ty spt tm) H := hP
      have hD : va_D A (mw G a (upd (upd y (23 + i) (-100006)) (28 + i) (-100006)) sp pa st sv pd tl ns ty spt tm) := hD
      refine lv_iinc (v := nI (i + 1)) (lv' := [(1, .int (nI (i + 1))), (0, .ref (a 0))]) hx hb dX4_clearAuction_53 hl (k := 0) rfl (nI_1 _) (by decide) rfl (fun ls hl => ?_)
      refine lv_goto (tgt := 26) hx hb dX4_clearAuction_56 (by decide) ?_
      exact ih (i + 1)  (upd (upd y (23 + i) (-100006)) (28 + i) (-100006)) (by omega) (by rw [← hv26]; simp only [clZ, clL]) _ _ hP hD hS ls (lv_sub hl [0, 1] rfl)
  exact L26 5 0  (upd (upd (upd z 4 0) 5 (-100006)) 6 (-100006)) rfl (by simp only [clZ]) _ _ hP hD hS ls (lv_sub hl [0, 1] rfl)
set_option maxHeartbeats 4000000 in
set_option maxRecDepth 100000 in
theorem c_X4_copyState (l : Launch) (G : qG) (p₀ q₀ n1 n2 fa ta : Nat) (u0 u1 u2 : Nat → Int32) (h1 : fa + 53 ≤ n1) (h2 : ta + 53 ≤ n2) (h3 : n1 < 2147483648) (h4 : n2 < 2147483648) (hg : ∀ k, k < n2 → u2 k = va_cpy u0 u1 fa ta 53 k) (sz : Nat) : MV l yX4_copyState wsX4_copyState 0 0 G sz [.ref p₀, .int (nI fa), .ref q₀, .int (nI ta)] ([(p₀, .inl (gI G, n1, .inl u0))] ++ [(q₀, .inl (gI G, n2, .inl u1))]) ([(p₀, .inl (gI G, n1, .inl u0))] ++ [(q₀, .inl (gI G, n2, .inl u2))]) := by
  refine MV.of' (by decide) rfl (Nat.le_of_ble_eq_true rfl) ?_
  intro p e s m below meth c hx hb hml hown hts hK hsz hP A hAe hA hD hS hmn Q hret ls hl
  have hown : s.vm.findClass RX4 = some m.cls := hown
  have hl : lv_has ls 5 [(0, .ref p₀), (1, .int (nI fa)), (2, .ref q₀), (3, .int (nI ta))] := hl
  refine lv_iconst (v := 0) hx hb dX4_copyState_0 (by decide) ?_
  refine lv_istore (lv' := [(4, .int 0), (0, .ref p₀), (1, .int (nI fa)), (2, .ref q₀), (3, .int (nI ta))]) hx hb dX4_copyState_1 hl (by decide) rfl (fun ls hl => ?_)
  have L3 : ∀ (f i : Nat)  (y : Nat → Int32), i + f = 53 → va_cpy u0 u1 fa ta i = y → ∀ (H : Heap) (locs : List Loc), va_P G.1 vwCl ([(p₀, .inl (gI G, n1, .inl u0))] ++ [(q₀, .inl (gI G, n2, .inl y))]) H → va_D A ([(p₀, .inl (gI G, n1, .inl u0))] ++ [(q₀, .inl (gI G, n2, .inl y))]) → va_S A s.heap H locs → ∀ ls : Array Slot, lv_has ls 5 [(4, .int (nI i)), (0, .ref p₀), (1, .int (nI fa)), (2, .ref q₀), (3, .int (nI ta))] → W p l e { frames := 0, cells := 0, slots := 0, locals := 0 } s m ([.ref p₀, .int (nI fa), .ref q₀, .int (nI ta)] : List Value).toArray below meth c H locs 0 0 Q (F0 m 3 ls []) := by
    intro f
    induction f with
    | zero =>
      intro i y hi hv3 H locs hP hD hS ls hl
      obtain rfl : i = 53 := by omega
      refine lv_iload hx hb dX4_copyState_3 (lv_at hl 0 rfl) ?_
      refine lv_bipush (v := 53) hx hb dX4_copyState_5 (by decide) ?_
      refine lv_icmp_ge (tgt := 28) hx hb dX4_copyState_7 (by decide) (fun _ => ?_) (fun c_9 => absurd (by decide +kernel) c_9)
      have hP : va_P G.1 vwCl ([(p₀, .inl (gI G, n1, .inl u0))] ++ [(q₀, .inl (gI G, n2, .inl u2))]) H := hP.cell (p := 1) (e := .inl (gI G, n2, .inl y)) (ws := [(p₀, .inl (gI G, n1, .inl u0)), (q₀, .inl (gI G, n2, .inl u1))]) (fun h => by show H[q₀]? = some (vp_cell (gI G) (n2, .inl u2)); rw [arr_congr hg, hv3]; exact h)
      have hD : va_D A ([(p₀, .inl (gI G, n1, .inl u0))] ++ [(q₀, .inl (gI G, n2, .inl u2))]) := hD.set (p := 1) rfl
      exact hret _ _ _ _ () trivial hP hD hS dX4_copyState_28
    | succ f ih =>
      intro i y hi hv3 H locs hP hD hS ls hl
      have hlt : i < 53 := by omega
      refine lv_iload hx hb dX4_copyState_3 (lv_at hl 0 rfl) ?_
      refine lv_bipush (v := 53) hx hb dX4_copyState_5 (by decide) ?_
      refine lv_icmp_ge (tgt := 28) hx hb dX4_copyState_7 (by decide) (fun c_9 => absurd c_9 (nI_ge (b := 53) hlt (by decide))) (fun _ => ?_)
      refine lv_aload_n hx hb dX4_copyState_10 rfl (lv_at hl 3 rfl) ?_
      refine lv_iload_n hx hb dX4_copyState_11 rfl (lv_at hl 4 rfl) ?_
      refine lv_iload hx hb dX4_copyState_12 (lv_at hl 0 rfl) ?_
      refine lv_iadd hx hb dX4_copyState_14 ?_
      refine qtop (nI_add ta i) ?_
      refine lv_aload_n hx hb dX4_copyState_15 rfl (lv_at hl 1 rfl) ?_
      refine lv_iload_n hx hb dX4_copyState_16 rfl (lv_at hl 2 rfl) ?_
      refine lv_iload hx hb dX4_copyState_17 (lv_at hl 0 rfl) ?_
      refine lv_iadd hx hb dX4_copyState_19 ?_
      refine qtop (nI_add fa i) ?_
      refine qild hx hb hK.1 hP 0 0 rfl rfl (k := fa + i) (nI_clamp (by omega)) (vp_in_nI (by omega) (by omega)) dX4_copyState_20 ?_
      refine qist hx hb hK.1 hP hD hS 1 0 rfl rfl (k := ta + i) (nI_clamp (by omega)) (vp_in_nI (by omega) (by omega)) dX4_copyState_21 (fun H locs hP hD hS => ?_)
      have hP : va_P G.1 vwCl ([(p₀, .inl (gI G, n1, .inl u0))] ++ [(q₀, .inl (gI G, n2, .inl (upd y (ta + i) (u0 (fa + i)))))]) H := hP
      have hD : va_D A ([(p₀, .inl (gI G, n1, .inl u0))] ++ [(q₀, .inl (gI G, n2, .inl (upd y (ta + i) (u0 (fa + i)))))]) := hD
      refine lv_iinc (v := nI (i + 1)) (lv' := [(4, .int (nI (i + 1))), (0, .ref p₀), (1, .int (nI fa)), (2, .ref q₀), (3, .int (nI ta))]) hx hb dX4_copyState_22 hl (k := 0) rfl (nI_1 _) (by decide) rfl (fun ls hl => ?_)
      refine lv_goto (tgt := 3) hx hb dX4_copyState_25 (by decide) ?_
      exact ih (i + 1)  (upd y (ta + i) (u0 (fa + i))) (by omega) (by rw [← hv3]; first | exact cpy_0 _ _ _ _ | rw [cpy_succ]) _ _ hP hD hS ls (lv_sub hl [0, 1, 2, 3, 4] rfl)
  exact L3 53 0  u1 rfl (by first | exact cpy_0 _ _ _ _ | rw [cpy_succ]) _ _ hP hD hS ls (lv_sub hl [0, 1, 2, 3, 4] rfl)
set_option maxHeartbeats 4000000 in
set_option maxRecDepth 100000 in
theorem c_X4_least (l : Launch) (G : qG) (a : Nat → Nat) (z sp pa st sv pd tl : Nat → Int32) (ns ty spt tm : Int32)  : MP l yX4_least wsX4_least 0 0 G [.ref (a 0)] (mw G a z sp pa st sv pd tl ns ty spt tm) (lsZ z) := by
  refine MP.of (ty := .int) (by decide) rfl (Nat.le_of_ble_eq_true rfl) rfl ?_
  intro p e s m below meth c hx hb hml hown hts hK hP Q hret ls hl
  have hown : s.vm.findClass RX4 = some m.cls := hown
  have hl : lv_has ls 1 [(0, .ref (a 0))] := hl
  have wk1 := hts (Cond.fieldLink RX4 7 "TurnBidsModel" "z" "[I") (List.mem_of_getElem? (i := 1) rfl)
  have wk2 := hts (Cond.constant RX4 39 (-100006)) (List.mem_of_getElem? (i := 2) rfl)
  have hinX4 : ∀ w ∈ wsX40, w ∈ wsX4_least := fun _ h => (List.mem_cons_of_mem _ (List.mem_append_right _ h))
  refine lv_aload_n hx hb dX4_least_0 rfl (lv_at hl 0 rfl) ?_
  refine va_get (D := G.1) (ci := 4) (v := .ref (a 1)) (C := RX4) (T := TX4) (N := 11) hx hb hts hinX4 hown hK.1 hP 0 rfl rfl 0 (by decide) wk1 (fun _ h9 => h9) rfl dX4_least_1 ?_
  refine lv_bipush (v := 6) hx hb dX4_least_4 (by decide) ?_
  refine qild hx hb hK.1 hP 1 0 rfl rfl (k := 6) rfl (vp_in_nI (n := 6) (by decide) (by decide)) dX4_least_6 ?_
  refine lv_ldc (v := (-100006)) hx hb hown wk2 dX4_least_7 ?_
  refine lv_icmp_ne (tgt := 21) hx hb dX4_least_9 (by decide) (fun c_9_1 => ?_) (fun c_9_1 => ?_)
  · refine lv_aload_n hx hb dX4_least_21 rfl (lv_at hl 0 rfl) ?_
    refine va_get (D := G.1) (ci := 4) (v := .ref (a 1)) (C := RX4) (T := TX4) (N := 11) hx hb hts hinX4 hown hK.1 hP 0 rfl rfl 0 (by decide) wk1 (fun _ h9 => h9) rfl dX4_least_22 ?_
    refine lv_bipush (v := 6) hx hb dX4_least_25 (by decide) ?_
    refine qild hx hb hK.1 hP 1 0 rfl rfl (k := 6) rfl (vp_in_nI (n := 6) (by decide) (by decide)) dX4_least_27 ?_
    refine lv_aload_n hx hb dX4_least_28 rfl (lv_at hl 0 rfl) ?_
    refine va_get (D := G.1) (ci := 4) (v := .ref (a 1)) (C := RX4) (T := TX4) (N := 11) hx hb hts hinX4 hown hK.1 hP 0 rfl rfl 0 (by decide) wk1 (fun _ h9 => h9) rfl dX4_least_29 ?_
    refine lv_iconst (v := 0) hx hb dX4_least_32 (by decide) ?_
    refine qild hx hb hK.1 hP 1 0 rfl rfl (k := 0) rfl (vp_in_nI (n := 0) (by decide) (by decide)) dX4_least_33 ?_
    refine lv_iadd hx hb dX4_least_34 ?_
    exact hret _ _ _ (by simp only [lsZ, if_neg c_9_1]) dX4_least_35
  · refine lv_aload_n hx hb dX4_least_12 rfl (lv_at hl 0 rfl) ?_
    refine va_get (D := G.1) (ci := 4) (v := .ref (a 1)) (C := RX4) (T := TX4) (N := 11) hx hb hts hinX4 hown hK.1 hP 0 rfl rfl 0 (by decide) wk1 (fun _ h9 => h9) rfl dX4_least_13 ?_
    refine lv_iconst (v := 1) hx hb dX4_least_16 (by decide) ?_
    refine qild hx hb hK.1 hP 1 0 rfl rfl (k := 1) rfl (vp_in_nI (n := 1) (by decide) (by decide)) dX4_least_17 ?_
    refine lv_goto (tgt := 35) hx hb dX4_least_18 (by decide) ?_
    exact hret _ _ _ (by simp only [lsZ, if_pos c_9_1]) dX4_least_35
set_option maxHeartbeats 4000000 in
set_option maxRecDepth 100000 in
theorem c_X4_beginNow (l : Launch) (G : qG) (a : Nat → Nat) (z sp pa st sv pd tl : Nat → Int32) (ns ty spt tm : Int32)  (sz : Nat) : MV l yX4_beginNow wsX4_beginNow 1 23 G sz [.ref (a 0)] (mw G a z sp pa st sv pd tl ns ty spt tm) (mw G a (bgZ z) sp pa st sv pd tl ns ty spt tm) := by
  refine MV.of' (by decide) rfl (Nat.le_of_ble_eq_true rfl) ?_
  intro p e s m below meth c hx hb hml hown hts hK hsz hP A hAe hA hD hS hmn Q hret ls hl
  have hown : s.vm.findClass RX4 = some m.cls := hown
  have hl : lv_has ls 1 [(0, .ref (a 0))] := hl
  have wk1 := hts (Cond.fieldLink RX4 7 "TurnBidsModel" "z" "[I") (List.mem_of_getElem? (i := 1) rfl)
  have wk2 := hts (Cond.methodLink RX4 32 yX4_clearAuction) (List.mem_of_getElem? (i := 2) rfl)
  have wk8 := hts (Cond.methodLink RX4 70 yX4_playerAt) (List.mem_of_getElem? (i := 8) rfl)
  have hinX4 : ∀ w ∈ wsX40, w ∈ wsX4_beginNow := fun _ h => (List.mem_cons_of_mem _ (List.mem_append_right _ h))
  refine lv_aload_n hx hb dX4_beginNow_0 rfl (lv_at hl 0 rfl) ?_
  refine cAV (As := []) (rest := []) ⟨hx, hb, hml, hown, hts⟩ (c_X4_clearAuction l G a z sp pa st sv pd tl ns ty spt tm _) (cwV 0 hts gX4_beginNow_X4_clearAuction rfl rfl rfl (by decide +kernel) ⟨Nat.le_of_ble_eq_true rfl, Nat.le_of_ble_eq_true rfl⟩) hK hP hD hS hA 0 (ci := 4) rfl rfl rfl rfl rfl hl.1 (Nat.le_of_ble_eq_true rfl) dX4_beginNow_1 ⟨Nat.le_of_ble_eq_true rfl, Nat.le_of_ble_eq_true rfl⟩ (fun u_1 H locs hr_1 hP hD hS => ?_)
  have hP : va_P G.1 vwCl (mw G a (clZ z) sp pa st sv pd tl ns ty spt tm) H := hP
  have hD : va_D A (mw G a (clZ z) sp pa st sv pd tl ns ty spt tm) := hD
  refine lv_aload_n hx hb dX4_beginNow_4 rfl (lv_at hl 0 rfl) ?_
  refine va_get (D := G.1) (ci := 4) (v := .ref (a 1)) (C := RX4) (T := TX4) (N := 11) hx hb hts hinX4 hown hK.1 hP 0 rfl rfl 0 (by decide) wk1 (fun _ h9 => h9) rfl dX4_beginNow_5 ?_
  refine lv_iconst (v := 4) hx hb dX4_beginNow_8 (by decide) ?_
  refine lv_iconst (v := 1) hx hb dX4_beginNow_9 (by decide) ?_
  refine qist hx hb hK.1 hP hD hS 1 0 rfl rfl (k := 4) rfl (vp_in_nI (n := 4) (by decide) (by decide)) dX4_beginNow_10 (fun H locs hP hD hS => ?_)
  have hP : va_P G.1 vwCl (mw G a (upd (clZ z) 4 1) sp pa st sv pd tl ns ty spt tm) H := hP
  have hD : va_D A (mw G a (upd (clZ z) 4 1) sp pa st sv pd tl ns ty spt tm) := hD
  refine lv_aload_n hx hb dX4_beginNow_11 rfl (lv_at hl 0 rfl) ?_
  refine va_get (D := G.1) (ci := 4) (v := .ref (a 1)) (C := RX4) (T := TX4) (N := 11) hx hb hts hinX4 hown hK.1 hP 0 rfl rfl 0 (by decide) wk1 (fun _ h9 => h9) rfl dX4_beginNow_12 ?_
  refine lv_iconst (v := 5) hx hb dX4_beginNow_15 (by decide) ?_
  refine lv_aload_n hx hb dX4_beginNow_16 rfl (lv_at hl 0 rfl) ?_
  refine lv_iconst (v := 0) hx hb dX4_beginNow_17 (by decide) ?_
  refine cPV (As := [.int 0]) (rest := [.int 5, .ref (a 1)]) ⟨hx, hb, hml, hown, hts⟩ (c_X4_playerAt l G a (upd (clZ z) 4 1) sp pa st sv pd tl ns ty spt tm 0) (cwV 1 hts gX4_beginNow_X4_playerAt rfl rfl rfl (by decide +kernel) ⟨Nat.le_of_ble_eq_true rfl, Nat.le_of_ble_eq_true rfl⟩) hK hP 0 (ci := 4) rfl rfl rfl rfl rfl hl.1 (Nat.le_of_ble_eq_true rfl) dX4_beginNow_18 ⟨Nat.le_of_ble_eq_true rfl, Nat.le_of_ble_eq_true rfl⟩ ?_
  refine qist hx hb hK.1 hP hD hS 1 0 rfl rfl (k := 5) rfl (vp_in_nI (n := 5) (by decide) (by decide)) dX4_beginNow_21 (fun H locs hP hD hS => ?_)
  have hP : va_P G.1 vwCl (mw G a (upd (upd (clZ z) 4 1) 5 (mAt (upd (clZ z) 4 1) 0)) sp pa st sv pd tl ns ty spt tm) H := hP
  have hD : va_D A (mw G a (upd (upd (clZ z) 4 1) 5 (mAt (upd (clZ z) 4 1) 0)) sp pa st sv pd tl ns ty spt tm) := hD
  have hf0 : (upd (upd (clZ z) 4 1) 5 (mAt (upd (clZ z) 4 1) 0)) = (bgZ z) := (by simp only [bgZ])
  have hP : va_P G.1 vwCl (mw G a (bgZ z) sp pa st sv pd tl ns ty spt tm) H := by rw [← hf0]; exact hP
  have hD : va_D A (mw G a (bgZ z) sp pa st sv pd tl ns ty spt tm) := by rw [← hf0]; exact hD
  exact hret _ _ _ _ () trivial hP hD hS dX4_beginNow_22
set_option maxHeartbeats 4000000 in
set_option maxRecDepth 100000 in
theorem c_X4_pay (l : Launch) (G : qG) (a : Nat → Nat) (z sp pa st sv pd tl : Nat → Int32) (ns ty spt tm : Int32) (x k : Int32) (hx5 : vp_in x 5) (sz : Nat) : MV l yX4_pay wsX4_pay 0 0 G sz [.ref (a 0), .int x, .int k] (mw G a z sp pa st sv pd tl ns ty spt tm) (mw G a (pyZ z x k) sp pa st sv pd tl ns ty spt tm) := by
  refine MV.of' (by decide) rfl (Nat.le_of_ble_eq_true rfl) ?_
  intro p e s m below meth c hx hb hml hown hts hK hsz hP A hAe hA hD hS hmn Q hret ls hl
  have hown : s.vm.findClass RX4 = some m.cls := hown
  have hl : lv_has ls 3 [(0, .ref (a 0)), (1, .int x), (2, .int k)] := hl
  have wk1 := hts (Cond.fieldLink RX4 7 "TurnBidsModel" "z" "[I") (List.mem_of_getElem? (i := 1) rfl)
  have hinX4 : ∀ w ∈ wsX40, w ∈ wsX4_pay := fun _ h => (List.mem_cons_of_mem _ (List.mem_append_right _ h))
  refine lv_aload_n hx hb dX4_pay_0 rfl (lv_at hl 0 rfl) ?_
  refine va_get (D := G.1) (ci := 4) (v := .ref (a 1)) (C := RX4) (T := TX4) (N := 11) hx hb hts hinX4 hown hK.1 hP 0 rfl rfl 0 (by decide) wk1 (fun _ h9 => h9) rfl dX4_pay_1 ?_
  refine lv_bipush (v := 8) hx hb dX4_pay_4 (by decide) ?_
  refine lv_iload_n hx hb dX4_pay_6 rfl (lv_at hl 1 rfl) ?_
  refine lv_iadd hx hb dX4_pay_7 ?_
  refine lv_dup2_11 hx hb dX4_pay_8 rfl rfl ?_
  refine qild hx hb hK.1 hP 1 0 rfl rfl (k := 8 + ix x) (ixa (c := 8) (m := 5) (n := 53) rfl (by assumption) (by decide) (by decide)).1 (ixa (c := 8) (m := 5) (n := 53) rfl (by assumption) (by decide) (by decide)).2 dX4_pay_9 ?_
  refine lv_iload_n hx hb dX4_pay_10 rfl (lv_at hl 2 rfl) ?_
  refine lv_isub hx hb dX4_pay_11 ?_
  refine qist hx hb hK.1 hP hD hS 1 0 rfl rfl (k := 8 + ix x) (ixa (c := 8) (m := 5) (n := 53) rfl (by assumption) (by decide) (by decide)).1 (ixa (c := 8) (m := 5) (n := 53) rfl (by assumption) (by decide) (by decide)).2 dX4_pay_12 (fun H locs hP hD hS => ?_)
  have hP : va_P G.1 vwCl (mw G a (upd z (8 + ix x) ((z (8 + ix x)) - k)) sp pa st sv pd tl ns ty spt tm) H := hP
  have hD : va_D A (mw G a (upd z (8 + ix x) ((z (8 + ix x)) - k)) sp pa st sv pd tl ns ty spt tm) := hD
  refine lv_aload_n hx hb dX4_pay_13 rfl (lv_at hl 0 rfl) ?_
  refine va_get (D := G.1) (ci := 4) (v := .ref (a 1)) (C := RX4) (T := TX4) (N := 11) hx hb hts hinX4 hown hK.1 hP 0 rfl rfl 0 (by decide) wk1 (fun _ h9 => h9) rfl dX4_pay_14 ?_
  refine lv_bipush (v := 33) hx hb dX4_pay_17 (by decide) ?_
  refine lv_iload_n hx hb dX4_pay_19 rfl (lv_at hl 1 rfl) ?_
  refine lv_iadd hx hb dX4_pay_20 ?_
  refine lv_dup2_11 hx hb dX4_pay_21 rfl rfl ?_
  refine qild hx hb hK.1 hP 1 0 rfl rfl (k := 33 + ix x) (ixa (c := 33) (m := 5) (n := 53) rfl (by assumption) (by decide) (by decide)).1 (ixa (c := 33) (m := 5) (n := 53) rfl (by assumption) (by decide) (by decide)).2 dX4_pay_22 ?_
  refine lv_iload_n hx hb dX4_pay_23 rfl (lv_at hl 2 rfl) ?_
  refine lv_iadd hx hb dX4_pay_24 ?_
  refine qist hx hb hK.1 hP hD hS 1 0 rfl rfl (k := 33 + ix x) (ixa (c := 33) (m := 5) (n := 53) rfl (by assumption) (by decide) (by decide)).1 (ixa (c := 33) (m := 5) (n := 53) rfl (by assumption) (by decide) (by decide)).2 dX4_pay_25 (fun H locs hP hD hS => ?_)
  have hP : va_P G.1 vwCl (mw G a (upd (upd z (8 + ix x) ((z (8 + ix x)) - k)) (33 + ix x) (((upd z (8 + ix x) ((z (8 + ix x)) - k)) (33 + ix x)) + k)) sp pa st sv pd tl ns ty spt tm) H := hP
  have hD : va_D A (mw G a (upd (upd z (8 + ix x) ((z (8 + ix x)) - k)) (33 + ix x) (((upd z (8 + ix x) ((z (8 + ix x)) - k)) (33 + ix x)) + k)) sp pa st sv pd tl ns ty spt tm) := hD
  obtain ⟨z_1, hT_1⟩ : ∃ w₀ : Nat → Int32, w₀ = upd (upd z (8 + ix x) ((z (8 + ix x)) - k)) (33 + ix x) (((upd z (8 + ix x) ((z (8 + ix x)) - k)) (33 + ix x)) + k) := ⟨_, rfl⟩
  have hP : va_P G.1 vwCl (mw G a z_1 sp pa st sv pd tl ns ty spt tm) H := by rw [hT_1]; exact hP
  have hD : va_D A (mw G a z_1 sp pa st sv pd tl ns ty spt tm) := by rw [hT_1]; exact hD
  have hf0 : (z_1) = (pyZ z x k) := (by subst hT_1; simp only [pyZ])
  have hP : va_P G.1 vwCl (mw G a (pyZ z x k) sp pa st sv pd tl ns ty spt tm) H := by rw [← hf0]; exact hP
  have hD : va_D A (mw G a (pyZ z x k) sp pa st sv pd tl ns ty spt tm) := by rw [← hf0]; exact hD
  exact hret _ _ _ _ () trivial hP hD hS dX4_pay_26
set_option maxHeartbeats 4000000 in
set_option maxRecDepth 100000 in
theorem c_X4_canBid (l : Launch) (G : qG) (a : Nat → Nat) (z sp pa st sv pd tl : Nat → Int32) (ns ty spt tm : Int32) (k : Int32) (hz5 : vp_in (z 5) 5) : MP l yX4_canBid wsX4_canBid 1 20 G [.ref (a 0), .int k] (mw G a z sp pa st sv pd tl ns ty spt tm) (cbZ z k) := by
  refine MP.of (ty := .boolean) (by decide) rfl (Nat.le_of_ble_eq_true rfl) (cbZ_nar z k) ?_
  intro p e s m below meth c hx hb hml hown hts hK hP Q hret ls hl
  have hown : s.vm.findClass RX4 = some m.cls := hown
  have hl : lv_has ls 2 [(0, .ref (a 0)), (1, .int k)] := hl
  have wk1 := hts (Cond.fieldLink RX4 7 "TurnBidsModel" "z" "[I") (List.mem_of_getElem? (i := 1) rfl)
  have wk2 := hts (Cond.methodLink RX4 73 yX4_least) (List.mem_of_getElem? (i := 2) rfl)
  have hinX4 : ∀ w ∈ wsX40, w ∈ wsX4_canBid := fun _ h => (List.mem_cons_of_mem _ (List.mem_append_right _ h))
  refine lv_iload_n hx hb dX4_canBid_0 rfl (lv_at hl 1 rfl) ?_
  refine lv_aload_n hx hb dX4_canBid_1 rfl (lv_at hl 0 rfl) ?_
  refine cPV (As := []) (rest := [.int k]) ⟨hx, hb, hml, hown, hts⟩ (c_X4_least l G a z sp pa st sv pd tl ns ty spt tm) (cwV 0 hts gX4_canBid_X4_least rfl rfl rfl (by decide +kernel) ⟨Nat.le_of_ble_eq_true rfl, Nat.le_of_ble_eq_true rfl⟩) hK hP 0 (ci := 4) rfl rfl rfl rfl rfl hl.1 (Nat.le_of_ble_eq_true rfl) dX4_canBid_2 ⟨Nat.le_of_ble_eq_true rfl, Nat.le_of_ble_eq_true rfl⟩ ?_
  refine lv_icmp_lt (tgt := 30) hx hb dX4_canBid_5 (by decide) (fun c_5_1 => ?_) (fun c_5_1 => ?_)
  · refine lv_iconst (v := 0) hx hb dX4_canBid_30 (by decide) ?_
    exact hret _ _ _ (by simp only [cbZ, if_pos c_5_1]) dX4_canBid_31
  · refine lv_iload_n hx hb dX4_canBid_8 rfl (lv_at hl 1 rfl) ?_
    refine lv_aload_n hx hb dX4_canBid_9 rfl (lv_at hl 0 rfl) ?_
    refine va_get (D := G.1) (ci := 4) (v := .ref (a 1)) (C := RX4) (T := TX4) (N := 11) hx hb hts hinX4 hown hK.1 hP 0 rfl rfl 0 (by decide) wk1 (fun _ h9 => h9) rfl dX4_canBid_10 ?_
    refine lv_bipush (v := 8) hx hb dX4_canBid_13 (by decide) ?_
    refine lv_aload_n hx hb dX4_canBid_15 rfl (lv_at hl 0 rfl) ?_
    refine va_get (D := G.1) (ci := 4) (v := .ref (a 1)) (C := RX4) (T := TX4) (N := 11) hx hb hts hinX4 hown hK.1 hP 0 rfl rfl 0 (by decide) wk1 (fun _ h9 => h9) rfl dX4_canBid_16 ?_
    refine lv_iconst (v := 5) hx hb dX4_canBid_19 (by decide) ?_
    refine qild hx hb hK.1 hP 1 0 rfl rfl (k := 5) rfl (vp_in_nI (n := 5) (by decide) (by decide)) dX4_canBid_20 ?_
    refine lv_iadd hx hb dX4_canBid_21 ?_
    refine qild hx hb hK.1 hP 1 0 rfl rfl (k := 8 + ix (z 5)) (ixa (c := 8) (m := 5) (n := 53) rfl (by assumption) (by decide) (by decide)).1 (ixa (c := 8) (m := 5) (n := 53) rfl (by assumption) (by decide) (by decide)).2 dX4_canBid_22 ?_
    refine lv_icmp_gt (tgt := 30) hx hb dX4_canBid_23 (by decide) (fun c_23_2 => ?_) (fun c_23_2 => ?_)
    · refine lv_iconst (v := 0) hx hb dX4_canBid_30 (by decide) ?_
      exact hret _ _ _ (by simp only [cbZ, if_neg c_5_1, if_pos c_23_2]) dX4_canBid_31
    · refine lv_iconst (v := 1) hx hb dX4_canBid_26 (by decide) ?_
      refine lv_goto (tgt := 31) hx hb dX4_canBid_27 (by decide) ?_
      exact hret _ _ _ (by simp only [cbZ, if_neg c_5_1, if_neg c_23_2]) dX4_canBid_31
set_option maxHeartbeats 4000000 in
set_option maxRecDepth 100000 in
theorem c_X4_left (l : Launch) (G : qG) (a : Nat → Nat) (z sp pa st sv pd tl : Nat → Int32) (ns ty spt tm : Int32)  : MP l yX4_left wsX4_left 0 0 G [.ref (a 0)] (mw G a z sp pa st sv pd tl ns ty spt tm) (lfZ z) := by
  refine MP.of (ty := .int) (by decide) rfl (Nat.le_of_ble_eq_true rfl) rfl ?_
  intro p e s m below meth c hx hb hml hown hts hK hP Q hret ls hl
  have hown : s.vm.findClass RX4 = some m.cls := hown
  have hl : lv_has ls 3 [(0, .ref (a 0))] := hl
  have wk1 := hts (Cond.fieldLink RX4 7 "TurnBidsModel" "z" "[I") (List.mem_of_getElem? (i := 1) rfl)
  have wk2 := hts (Cond.constant RX4 39 (-100006)) (List.mem_of_getElem? (i := 2) rfl)
  have hinX4 : ∀ w ∈ wsX40, w ∈ wsX4_left := fun _ h => (List.mem_cons_of_mem _ (List.mem_append_right _ h))
  refine lv_iconst (v := 0) hx hb dX4_left_0 (by decide) ?_
  refine lv_istore_n (lv' := [(1, .int 0), (0, .ref (a 0))]) hx hb dX4_left_1 rfl hl (by decide) rfl (fun ls hl => ?_)
  refine lv_iconst (v := 0) hx hb dX4_left_2 (by decide) ?_
  refine lv_istore_n (lv' := [(2, .int 0), (1, .int 0), (0, .ref (a 0))]) hx hb dX4_left_3 rfl hl (by decide) rfl (fun ls hl => ?_)
  have L4 : ∀ (f i : Nat) (k : Int32), i + f = 5 → lfL z f i k = lfZ z → ∀ ls : Array Slot, lv_has ls 3 [(2, .int (nI i)), (1, .int k), (0, .ref (a 0))] → W p l e { frames := 0, cells := 0, slots := 0, locals := 0 } s m ([.ref (a 0)] : List Value).toArray below meth c s.heap [] 0 0 Q (F0 m 4 ls []) := by
    intro f
    induction f with
    | zero =>
      intro i k hi hv4 ls hl
      obtain rfl : i = 5 := by omega
      refine lv_iload_n hx hb dX4_left_4 rfl (lv_at hl 0 rfl) ?_
      refine lv_iconst (v := 5) hx hb dX4_left_5 (by decide) ?_
      refine lv_icmp_ge (tgt := 37) hx hb dX4_left_6 (by decide) (fun _ => ?_) (fun c_9 => absurd (by decide +kernel) c_9)
      refine lv_iload_n hx hb dX4_left_37 rfl (lv_at hl 1 rfl) ?_
      exact hret _ _ _ (by rw [← hv4]; simp only [lfZ, lfL]) dX4_left_38
    | succ f ih =>
      intro i k hi hv4 ls hl
      have hlt : i < 5 := by omega
      refine lv_iload_n hx hb dX4_left_4 rfl (lv_at hl 0 rfl) ?_
      refine lv_iconst (v := 5) hx hb dX4_left_5 (by decide) ?_
      refine lv_icmp_ge (tgt := 37) hx hb dX4_left_6 (by decide) (fun c_9 => absurd c_9 (nI_ge (b := 5) hlt (by decide))) (fun _ => ?_)
      refine lv_iload_n hx hb dX4_left_9 rfl (lv_at hl 1 rfl) ?_
      refine lv_aload_n hx hb dX4_left_10 rfl (lv_at hl 2 rfl) ?_
      refine va_get (D := G.1) (ci := 4) (v := .ref (a 1)) (C := RX4) (T := TX4) (N := 11) hx hb hts hinX4 hown hK.1 hP 0 rfl rfl 0 (by decide) wk1 (fun _ h9 => h9) rfl dX4_left_11 ?_
      refine lv_bipush (v := 28) hx hb dX4_left_14 (by decide) ?_
      refine lv_iload_n hx hb dX4_left_16 rfl (lv_at hl 0 rfl) ?_
      refine lv_iadd hx hb dX4_left_17 ?_
      refine qtop (nI_add 28 i) ?_
      refine qild hx hb hK.1 hP 1 0 rfl rfl (k := 28 + i) (nI_clamp (by omega)) (vp_in_nI (by omega) (by decide)) dX4_left_18 ?_
      refine lv_ldc (v := (-100006)) hx hb hown wk2 dX4_left_19 ?_
      refine lv_icmp_ne (tgt := 28) hx hb dX4_left_21 (by decide) (fun c_21_1 => ?_) (fun c_21_1 => ?_)
      · refine lv_iconst (v := 0) hx hb dX4_left_28 (by decide) ?_
        refine lv_iadd hx hb dX4_left_29 ?_
        refine lv_istore_n (lv' := [(1, .int (k + 0)), (2, .int (nI i)), (0, .ref (a 0))]) hx hb dX4_left_30 rfl hl (by decide) rfl (fun ls hl => ?_)
        refine lv_iinc (v := nI (i + 1)) (lv' := [(2, .int (nI (i + 1))), (1, .int (k + 0)), (0, .ref (a 0))]) hx hb dX4_left_31 hl (k := 1) rfl (nI_1 _) (by decide) rfl (fun ls hl => ?_)
        refine lv_goto (tgt := 4) hx hb dX4_left_34 (by decide) ?_
        exact ih (i + 1) (k + 0) (by omega) (by rw [← hv4]; simp only [lfZ, lfL, if_neg c_21_1]) ls (lv_sub hl [0, 1, 2] rfl)
      · refine lv_iconst (v := 1) hx hb dX4_left_24 (by decide) ?_
        refine lv_goto (tgt := 29) hx hb dX4_left_25 (by decide) ?_
        refine lv_iadd hx hb dX4_left_29 ?_
        refine lv_istore_n (lv' := [(1, .int (k + 1)), (2, .int (nI i)), (0, .ref (a 0))]) hx hb dX4_left_30 rfl hl (by decide) rfl (fun ls hl => ?_)
        refine lv_iinc (v := nI (i + 1)) (lv' := [(2, .int (nI (i + 1))), (1, .int (k + 1)), (0, .ref (a 0))]) hx hb dX4_left_31 hl (k := 1) rfl (nI_1 _) (by decide) rfl (fun ls hl => ?_)
        refine lv_goto (tgt := 4) hx hb dX4_left_34 (by decide) ?_
        exact ih (i + 1) (k + 1) (by omega) (by rw [← hv4]; simp only [lfZ, lfL, if_pos c_21_1]) ls (lv_sub hl [0, 1, 2] rfl)
  exact L4 5 0 0 rfl (by simp only [lfZ]) ls (lv_sub hl [0, 1, 2] rfl)
set_option maxHeartbeats 4000000 in
set_option maxRecDepth 100000 in
theorem c_X4_prizeAt (l : Launch) (G : qG) (a : Nat → Nat) (z sp pa st sv pd tl : Nat → Int32) (ns ty spt tm : Int32) (x : Int32) : MP l yX4_prizeAt wsX4_prizeAt 0 0 G [.ref (a 0), .int x] (mw G a z sp pa st sv pd tl ns ty spt tm) (mpZ z x) := by
  refine MP.of (ty := .int) (by decide) rfl (Nat.le_of_ble_eq_true rfl) rfl ?_
  intro p e s m below meth c hx hb hml hown hts hK hP Q hret ls hl
  have hown : s.vm.findClass RX4 = some m.cls := hown
  have hl : lv_has ls 6 [(0, .ref (a 0)), (1, .int x)] := hl
  have wk1 := hts (Cond.fieldLink RX4 7 "TurnBidsModel" "z" "[I") (List.mem_of_getElem? (i := 1) rfl)
  have hinX4 : ∀ w ∈ wsX40, w ∈ wsX4_prizeAt := fun _ h => (List.mem_cons_of_mem _ (List.mem_append_right _ h))
  refine lv_iconst (v := 0) hx hb dX4_prizeAt_0 (by decide) ?_
  refine lv_istore_n (lv' := [(2, .int 0), (0, .ref (a 0)), (1, .int x)]) hx hb dX4_prizeAt_1 rfl hl (by decide) rfl (fun ls hl => ?_)
  refine lv_iconst (v := 0) hx hb dX4_prizeAt_2 (by decide) ?_
  refine lv_istore_n (lv' := [(3, .int 0), (2, .int 0), (0, .ref (a 0)), (1, .int x)]) hx hb dX4_prizeAt_3 rfl hl (by decide) rfl (fun ls hl => ?_)
  have L4 : ∀ (f i : Nat) (k : Int32), i + f = 5 → mpL z x f i k = mpZ z x → ∀ ls : Array Slot, lv_has ls 6 [(3, .int (nI i)), (2, .int k), (0, .ref (a 0)), (1, .int x)] → W p l e { frames := 0, cells := 0, slots := 0, locals := 0 } s m ([.ref (a 0), .int x] : List Value).toArray below meth c s.heap [] 0 0 Q (F0 m 4 ls []) := by
    intro f
    induction f with
    | zero =>
      intro i k hi hv4 ls hl
      obtain rfl : i = 5 := by omega
      refine lv_iload_n hx hb dX4_prizeAt_4 rfl (lv_at hl 0 rfl) ?_
      refine lv_iconst (v := 5) hx hb dX4_prizeAt_5 (by decide) ?_
      refine lv_icmp_ge (tgt := 113) hx hb dX4_prizeAt_6 (by decide) (fun _ => ?_) (fun c_9 => absurd (by decide +kernel) c_9)
      refine lv_iload_n hx hb dX4_prizeAt_113 rfl (lv_at hl 1 rfl) ?_
      exact hret _ _ _ (by rw [← hv4]; simp only [mpZ, mpL]) dX4_prizeAt_114
    | succ f ih =>
      intro i k hi hv4 ls hl
      have hlt : i < 5 := by omega
      refine lv_iload_n hx hb dX4_prizeAt_4 rfl (lv_at hl 0 rfl) ?_
      refine lv_iconst (v := 5) hx hb dX4_prizeAt_5 (by decide) ?_
      refine lv_icmp_ge (tgt := 113) hx hb dX4_prizeAt_6 (by decide) (fun c_9 => absurd c_9 (nI_ge (b := 5) hlt (by decide))) (fun _ => ?_)
      refine lv_iconst (v := 0) hx hb dX4_prizeAt_9 (by decide) ?_
      refine lv_istore (lv' := [(4, .int 0), (3, .int (nI i)), (2, .int k), (0, .ref (a 0)), (1, .int x)]) hx hb dX4_prizeAt_10 hl (by decide) rfl (fun ls hl => ?_)
      refine lv_iconst (v := 0) hx hb dX4_prizeAt_12 (by decide) ?_
      refine lv_istore (lv' := [(5, .int 0), (4, .int 0), (3, .int (nI i)), (2, .int k), (0, .ref (a 0)), (1, .int x)]) hx hb dX4_prizeAt_13 hl (by decide) rfl (fun ls hl => ?_)
      have L15 : ∀ (f j : Nat) (v : Int32) (n : Int32), j + f = 5 → mhL z i f j n = v → (∀ ls : Array Slot, lv_has ls 6 [(5, .int (nI 5)), (4, .int v), (3, .int (nI i)), (2, .int k), (0, .ref (a 0)), (1, .int x)] → W p l e { frames := 0, cells := 0, slots := 0, locals := 0 } s m ([.ref (a 0), .int x] : List Value).toArray below meth c s.heap [] 0 0 Q (F0 m 87 ls [])) → ∀ ls : Array Slot, lv_has ls 6 [(5, .int (nI j)), (4, .int n), (3, .int (nI i)), (2, .int k), (0, .ref (a 0)), (1, .int x)] → W p l e { frames := 0, cells := 0, slots := 0, locals := 0 } s m ([.ref (a 0), .int x] : List Value).toArray below meth c s.heap [] 0 0 Q (F0 m 15 ls []) := by
        intro f
        induction f with
        | zero =>
          intro j v n hi hv15 kk ls hl
          obtain rfl : j = 5 := by omega
          refine lv_iload hx hb dX4_prizeAt_15 (lv_at hl 0 rfl) ?_
          refine lv_iconst (v := 5) hx hb dX4_prizeAt_17 (by decide) ?_
          refine lv_icmp_ge (tgt := 87) hx hb dX4_prizeAt_18 (by decide) (fun _ => ?_) (fun c_9 => absurd (by decide +kernel) c_9)
          have ho0 : n = v := (by rw [← hv15]; simp only [mpZ, mhL])
          rw [ho0] at hl
          exact kk ls (lv_sub hl [0, 1, 2, 3, 4, 5] rfl)
        | succ f ih =>
          intro j v n hi hv15 kk ls hl
          have hlt : j < 5 := by omega
          refine lv_iload hx hb dX4_prizeAt_15 (lv_at hl 0 rfl) ?_
          refine lv_iconst (v := 5) hx hb dX4_prizeAt_17 (by decide) ?_
          refine lv_icmp_ge (tgt := 87) hx hb dX4_prizeAt_18 (by decide) (fun c_9 => absurd c_9 (nI_ge (b := 5) hlt (by decide))) (fun _ => ?_)
          refine lv_iload hx hb dX4_prizeAt_21 (lv_at hl 1 rfl) ?_
          refine lv_aload_n hx hb dX4_prizeAt_23 rfl (lv_at hl 4 rfl) ?_
          refine va_get (D := G.1) (ci := 4) (v := .ref (a 1)) (C := RX4) (T := TX4) (N := 11) hx hb hts hinX4 hown hK.1 hP 0 rfl rfl 0 (by decide) wk1 (fun _ h9 => h9) rfl dX4_prizeAt_24 ?_
          refine lv_bipush (v := 48) hx hb dX4_prizeAt_27 (by decide) ?_
          refine lv_iload hx hb dX4_prizeAt_29 (lv_at hl 0 rfl) ?_
          refine lv_iadd hx hb dX4_prizeAt_31 ?_
          refine qtop (nI_add 48 j) ?_
          refine qild hx hb hK.1 hP 1 0 rfl rfl (k := 48 + j) (nI_clamp (by omega)) (vp_in_nI (by omega) (by decide)) dX4_prizeAt_32 ?_
          refine lv_aload_n hx hb dX4_prizeAt_33 rfl (lv_at hl 4 rfl) ?_
          refine va_get (D := G.1) (ci := 4) (v := .ref (a 1)) (C := RX4) (T := TX4) (N := 11) hx hb hts hinX4 hown hK.1 hP 0 rfl rfl 0 (by decide) wk1 (fun _ h9 => h9) rfl dX4_prizeAt_34 ?_
          refine lv_bipush (v := 48) hx hb dX4_prizeAt_37 (by decide) ?_
          refine lv_iload_n hx hb dX4_prizeAt_39 rfl (lv_at hl 2 rfl) ?_
          refine lv_iadd hx hb dX4_prizeAt_40 ?_
          refine qtop (nI_add 48 i) ?_
          refine qild hx hb hK.1 hP 1 0 rfl rfl (k := 48 + i) (nI_clamp (by omega)) (vp_in_nI (by omega) (by decide)) dX4_prizeAt_41 ?_
          refine lv_icmp_gt (tgt := 73) hx hb dX4_prizeAt_42 (by decide) (fun c_42_1 => ?_) (fun c_42_1 => ?_)
          · refine lv_iconst (v := 1) hx hb dX4_prizeAt_73 (by decide) ?_
            refine lv_goto (tgt := 78) hx hb dX4_prizeAt_74 (by decide) ?_
            refine lv_iadd hx hb dX4_prizeAt_78 ?_
            refine lv_istore (lv' := [(4, .int (n + 1)), (5, .int (nI j)), (3, .int (nI i)), (2, .int k), (0, .ref (a 0)), (1, .int x)]) hx hb dX4_prizeAt_79 hl (by decide) rfl (fun ls hl => ?_)
            refine lv_iinc (v := nI (j + 1)) (lv' := [(5, .int (nI (j + 1))), (4, .int (n + 1)), (3, .int (nI i)), (2, .int k), (0, .ref (a 0)), (1, .int x)]) hx hb dX4_prizeAt_81 hl (k := 1) rfl (nI_1 _) (by decide) rfl (fun ls hl => ?_)
            refine lv_goto (tgt := 15) hx hb dX4_prizeAt_84 (by decide) ?_
            exact ih (j + 1) v (n + 1) (by omega) (by rw [← hv15]; simp only [mpZ, mhL, if_pos c_42_1]) kk ls (lv_sub hl [0, 1, 2, 3, 4, 5] rfl)
          · refine lv_aload_n hx hb dX4_prizeAt_45 rfl (lv_at hl 4 rfl) ?_
            refine va_get (D := G.1) (ci := 4) (v := .ref (a 1)) (C := RX4) (T := TX4) (N := 11) hx hb hts hinX4 hown hK.1 hP 0 rfl rfl 0 (by decide) wk1 (fun _ h9 => h9) rfl dX4_prizeAt_46 ?_
            refine lv_bipush (v := 48) hx hb dX4_prizeAt_49 (by decide) ?_
            refine lv_iload hx hb dX4_prizeAt_51 (lv_at hl 0 rfl) ?_
            refine lv_iadd hx hb dX4_prizeAt_53 ?_
            refine qtop (nI_add 48 j) ?_
            refine qild hx hb hK.1 hP 1 0 rfl rfl (k := 48 + j) (nI_clamp (by omega)) (vp_in_nI (by omega) (by decide)) dX4_prizeAt_54 ?_
            refine lv_aload_n hx hb dX4_prizeAt_55 rfl (lv_at hl 4 rfl) ?_
            refine va_get (D := G.1) (ci := 4) (v := .ref (a 1)) (C := RX4) (T := TX4) (N := 11) hx hb hts hinX4 hown hK.1 hP 0 rfl rfl 0 (by decide) wk1 (fun _ h9 => h9) rfl dX4_prizeAt_56 ?_
            refine lv_bipush (v := 48) hx hb dX4_prizeAt_59 (by decide) ?_
            refine lv_iload_n hx hb dX4_prizeAt_61 rfl (lv_at hl 2 rfl) ?_
            refine lv_iadd hx hb dX4_prizeAt_62 ?_
            refine qtop (nI_add 48 i) ?_
            refine qild hx hb hK.1 hP 1 0 rfl rfl (k := 48 + i) (nI_clamp (by omega)) (vp_in_nI (by omega) (by decide)) dX4_prizeAt_63 ?_
            refine lv_icmp_ne (tgt := 77) hx hb dX4_prizeAt_64 (by decide) (fun c_64_2 => ?_) (fun c_64_2 => ?_)
            · refine lv_iconst (v := 0) hx hb dX4_prizeAt_77 (by decide) ?_
              refine lv_iadd hx hb dX4_prizeAt_78 ?_
              refine lv_istore (lv' := [(4, .int (n + 0)), (5, .int (nI j)), (3, .int (nI i)), (2, .int k), (0, .ref (a 0)), (1, .int x)]) hx hb dX4_prizeAt_79 hl (by decide) rfl (fun ls hl => ?_)
              refine lv_iinc (v := nI (j + 1)) (lv' := [(5, .int (nI (j + 1))), (4, .int (n + 0)), (3, .int (nI i)), (2, .int k), (0, .ref (a 0)), (1, .int x)]) hx hb dX4_prizeAt_81 hl (k := 1) rfl (nI_1 _) (by decide) rfl (fun ls hl => ?_)
              refine lv_goto (tgt := 15) hx hb dX4_prizeAt_84 (by decide) ?_
              exact ih (j + 1) v (n + 0) (by omega) (by rw [← hv15]; simp only [mpZ, mhL, if_neg c_42_1, if_neg c_64_2]) kk ls (lv_sub hl [0, 1, 2, 3, 4, 5] rfl)
            · refine lv_iload hx hb dX4_prizeAt_67 (lv_at hl 0 rfl) ?_
              refine lv_iload_n hx hb dX4_prizeAt_69 rfl (lv_at hl 2 rfl) ?_
              refine lv_icmp_ge (tgt := 77) hx hb dX4_prizeAt_70 (by decide) (fun c_70_3 => ?_) (fun c_70_3 => ?_)
              · refine lv_iconst (v := 0) hx hb dX4_prizeAt_77 (by decide) ?_
                refine lv_iadd hx hb dX4_prizeAt_78 ?_
                refine lv_istore (lv' := [(4, .int (n + 0)), (5, .int (nI j)), (3, .int (nI i)), (2, .int k), (0, .ref (a 0)), (1, .int x)]) hx hb dX4_prizeAt_79 hl (by decide) rfl (fun ls hl => ?_)
                refine lv_iinc (v := nI (j + 1)) (lv' := [(5, .int (nI (j + 1))), (4, .int (n + 0)), (3, .int (nI i)), (2, .int k), (0, .ref (a 0)), (1, .int x)]) hx hb dX4_prizeAt_81 hl (k := 1) rfl (nI_1 _) (by decide) rfl (fun ls hl => ?_)
                refine lv_goto (tgt := 15) hx hb dX4_prizeAt_84 (by decide) ?_
                exact ih (j + 1) v (n + 0) (by omega) (by rw [← hv15]; simp only [mpZ, mhL, if_neg c_42_1, if_pos c_64_2, if_pos c_70_3]) kk ls (lv_sub hl [0, 1, 2, 3, 4, 5] rfl)
              · refine lv_iconst (v := 1) hx hb dX4_prizeAt_73 (by decide) ?_
                refine lv_goto (tgt := 78) hx hb dX4_prizeAt_74 (by decide) ?_
                refine lv_iadd hx hb dX4_prizeAt_78 ?_
                refine lv_istore (lv' := [(4, .int (n + 1)), (5, .int (nI j)), (3, .int (nI i)), (2, .int k), (0, .ref (a 0)), (1, .int x)]) hx hb dX4_prizeAt_79 hl (by decide) rfl (fun ls hl => ?_)
                refine lv_iinc (v := nI (j + 1)) (lv' := [(5, .int (nI (j + 1))), (4, .int (n + 1)), (3, .int (nI i)), (2, .int k), (0, .ref (a 0)), (1, .int x)]) hx hb dX4_prizeAt_81 hl (k := 1) rfl (nI_1 _) (by decide) rfl (fun ls hl => ?_)
                refine lv_goto (tgt := 15) hx hb dX4_prizeAt_84 (by decide) ?_
                exact ih (j + 1) v (n + 1) (by omega) (by rw [← hv15]; simp only [mpZ, mhL, if_neg c_42_1, if_pos c_64_2, if_neg c_70_3]) kk ls (lv_sub hl [0, 1, 2, 3, 4, 5] rfl)
      refine L15 5 0 _ 0 rfl rfl (fun ls hl => ?_) ls (lv_sub hl [0, 1, 2, 3, 4, 5] rfl)
      refine lv_iload hx hb dX4_prizeAt_87 (lv_at hl 1 rfl) ?_
      refine lv_iload_n hx hb dX4_prizeAt_89 rfl (lv_at hl 5 rfl) ?_
      refine lv_icmp_ne (tgt := 105) hx hb dX4_prizeAt_90 (by decide) (fun c_90_4 => ?_) (fun c_90_4 => ?_)
      · refine lv_iload_n hx hb dX4_prizeAt_105 rfl (lv_at hl 3 rfl) ?_
        refine lv_istore_n (lv' := [(2, .int k), (5, .int (nI 5)), (4, .int (mhL z i 5 0 0)), (3, .int (nI i)), (0, .ref (a 0)), (1, .int x)]) hx hb dX4_prizeAt_106 rfl hl (by decide) rfl (fun ls hl => ?_)
        refine lv_iinc (v := nI (i + 1)) (lv' := [(3, .int (nI (i + 1))), (2, .int k), (5, .int (nI 5)), (4, .int (mhL z i 5 0 0)), (0, .ref (a 0)), (1, .int x)]) hx hb dX4_prizeAt_107 hl (k := 3) rfl (nI_1 _) (by decide) rfl (fun ls hl => ?_)
        refine lv_goto (tgt := 4) hx hb dX4_prizeAt_110 (by decide) ?_
        exact ih (i + 1) k (by omega) (by rw [← hv4]; simp only [mpZ, mpL, if_neg c_90_4]) ls (lv_sub hl [0, 1, 4, 5] rfl)
      · refine lv_aload_n hx hb dX4_prizeAt_93 rfl (lv_at hl 4 rfl) ?_
        refine va_get (D := G.1) (ci := 4) (v := .ref (a 1)) (C := RX4) (T := TX4) (N := 11) hx hb hts hinX4 hown hK.1 hP 0 rfl rfl 0 (by decide) wk1 (fun _ h9 => h9) rfl dX4_prizeAt_94 ?_
        refine lv_bipush (v := 48) hx hb dX4_prizeAt_97 (by decide) ?_
        refine lv_iload_n hx hb dX4_prizeAt_99 rfl (lv_at hl 2 rfl) ?_
        refine lv_iadd hx hb dX4_prizeAt_100 ?_
        refine qtop (nI_add 48 i) ?_
        refine qild hx hb hK.1 hP 1 0 rfl rfl (k := 48 + i) (nI_clamp (by omega)) (vp_in_nI (by omega) (by decide)) dX4_prizeAt_101 ?_
        refine lv_goto (tgt := 106) hx hb dX4_prizeAt_102 (by decide) ?_
        refine lv_istore_n (lv' := [(2, .int (z (48 + i))), (5, .int (nI 5)), (4, .int (mhL z i 5 0 0)), (3, .int (nI i)), (0, .ref (a 0)), (1, .int x)]) hx hb dX4_prizeAt_106 rfl hl (by decide) rfl (fun ls hl => ?_)
        refine lv_iinc (v := nI (i + 1)) (lv' := [(3, .int (nI (i + 1))), (2, .int (z (48 + i))), (5, .int (nI 5)), (4, .int (mhL z i 5 0 0)), (0, .ref (a 0)), (1, .int x)]) hx hb dX4_prizeAt_107 hl (k := 3) rfl (nI_1 _) (by decide) rfl (fun ls hl => ?_)
        refine lv_goto (tgt := 4) hx hb dX4_prizeAt_110 (by decide) ?_
        exact ih (i + 1) (z (48 + i)) (by omega) (by rw [← hv4]; simp only [mpZ, mpL, if_pos c_90_4]) ls (lv_sub hl [0, 1, 4, 5] rfl)
  exact L4 5 0 0 rfl (by simp only [mpZ]) ls (lv_sub hl [0, 1, 2, 3] rfl)
set_option maxHeartbeats 4000000 in
set_option maxRecDepth 100000 in
theorem c_X4_leftSet (l : Launch) (G : qG) (a : Nat → Nat) (z sp pa st sv pd tl : Nat → Int32) (ns ty spt tm : Int32)  : MP l yX4_leftSet wsX4_leftSet 0 0 G [.ref (a 0)] (mw G a z sp pa st sv pd tl ns ty spt tm) (lmZ z) := by
  refine MP.of (ty := .int) (by decide) rfl (Nat.le_of_ble_eq_true rfl) rfl ?_
  intro p e s m below meth c hx hb hml hown hts hK hP Q hret ls hl
  have hown : s.vm.findClass RX4 = some m.cls := hown
  have hl : lv_has ls 3 [(0, .ref (a 0))] := hl
  have wk1 := hts (Cond.fieldLink RX4 7 "TurnBidsModel" "z" "[I") (List.mem_of_getElem? (i := 1) rfl)
  have wk2 := hts (Cond.constant RX4 39 (-100006)) (List.mem_of_getElem? (i := 2) rfl)
  have hinX4 : ∀ w ∈ wsX40, w ∈ wsX4_leftSet := fun _ h => (List.mem_cons_of_mem _ (List.mem_append_right _ h))
  refine lv_iconst (v := 0) hx hb dX4_leftSet_0 (by decide) ?_
  refine lv_istore_n (lv' := [(1, .int 0), (0, .ref (a 0))]) hx hb dX4_leftSet_1 rfl hl (by decide) rfl (fun ls hl => ?_)
  refine lv_iconst (v := 0) hx hb dX4_leftSet_2 (by decide) ?_
  refine lv_istore_n (lv' := [(2, .int 0), (1, .int 0), (0, .ref (a 0))]) hx hb dX4_leftSet_3 rfl hl (by decide) rfl (fun ls hl => ?_)
  have L4 : ∀ (f i : Nat) (k : Int32), i + f = 5 → lsL z f i k = lmZ z → ∀ ls : Array Slot, lv_has ls 3 [(2, .int (nI i)), (1, .int k), (0, .ref (a 0))] → W p l e { frames := 0, cells := 0, slots := 0, locals := 0 } s m ([.ref (a 0)] : List Value).toArray below meth c s.heap [] 0 0 Q (F0 m 4 ls []) := by
    intro f
    induction f with
    | zero =>
      intro i k hi hv4 ls hl
      obtain rfl : i = 5 := by omega
      refine lv_iload_n hx hb dX4_leftSet_4 rfl (lv_at hl 0 rfl) ?_
      refine lv_iconst (v := 5) hx hb dX4_leftSet_5 (by decide) ?_
      refine lv_icmp_ge (tgt := 49) hx hb dX4_leftSet_6 (by decide) (fun _ => ?_) (fun c_9 => absurd (by decide +kernel) c_9)
      refine lv_iload_n hx hb dX4_leftSet_49 rfl (lv_at hl 1 rfl) ?_
      exact hret _ _ _ (by rw [← hv4]; simp only [lmZ, lsL]) dX4_leftSet_50
    | succ f ih =>
      intro i k hi hv4 ls hl
      have hlt : i < 5 := by omega
      refine lv_iload_n hx hb dX4_leftSet_4 rfl (lv_at hl 0 rfl) ?_
      refine lv_iconst (v := 5) hx hb dX4_leftSet_5 (by decide) ?_
      refine lv_icmp_ge (tgt := 49) hx hb dX4_leftSet_6 (by decide) (fun c_9 => absurd c_9 (nI_ge (b := 5) hlt (by decide))) (fun _ => ?_)
      refine lv_aload_n hx hb dX4_leftSet_9 rfl (lv_at hl 2 rfl) ?_
      refine va_get (D := G.1) (ci := 4) (v := .ref (a 1)) (C := RX4) (T := TX4) (N := 11) hx hb hts hinX4 hown hK.1 hP 0 rfl rfl 0 (by decide) wk1 (fun _ h9 => h9) rfl dX4_leftSet_10 ?_
      refine lv_iconst (v := 4) hx hb dX4_leftSet_13 (by decide) ?_
      refine qild hx hb hK.1 hP 1 0 rfl rfl (k := 4) rfl (vp_in_nI (n := 4) (by decide) (by decide)) dX4_leftSet_14 ?_
      refine lv_iconst (v := 1) hx hb dX4_leftSet_15 (by decide) ?_
      refine lv_icmp_ne (tgt := 49) hx hb dX4_leftSet_16 (by decide) (fun c_16_1 => ?_) (fun c_16_1 => ?_)
      · refine lv_iload_n hx hb dX4_leftSet_49 rfl (lv_at hl 1 rfl) ?_
        exact hret _ _ _ (by rw [← hv4]; simp only [lmZ, lsL, if_neg c_16_1]) dX4_leftSet_50
      · refine lv_iload_n hx hb dX4_leftSet_19 rfl (lv_at hl 1 rfl) ?_
        refine lv_aload_n hx hb dX4_leftSet_20 rfl (lv_at hl 2 rfl) ?_
        refine va_get (D := G.1) (ci := 4) (v := .ref (a 1)) (C := RX4) (T := TX4) (N := 11) hx hb hts hinX4 hown hK.1 hP 0 rfl rfl 0 (by decide) wk1 (fun _ h9 => h9) rfl dX4_leftSet_21 ?_
        refine lv_bipush (v := 28) hx hb dX4_leftSet_24 (by decide) ?_
        refine lv_iload_n hx hb dX4_leftSet_26 rfl (lv_at hl 0 rfl) ?_
        refine lv_iadd hx hb dX4_leftSet_27 ?_
        refine qtop (nI_add 28 i) ?_
        refine qild hx hb hK.1 hP 1 0 rfl rfl (k := 28 + i) (nI_clamp (by omega)) (vp_in_nI (by omega) (by decide)) dX4_leftSet_28 ?_
        refine lv_ldc (v := (-100006)) hx hb hown wk2 dX4_leftSet_29 ?_
        refine lv_icmp_ne (tgt := 40) hx hb dX4_leftSet_31 (by decide) (fun c_31_2 => ?_) (fun c_31_2 => ?_)
        · refine lv_iconst (v := 0) hx hb dX4_leftSet_40 (by decide) ?_
          refine lv_ior hx hb dX4_leftSet_41 ?_
          refine lv_istore_n (lv' := [(1, .int (k ||| 0)), (2, .int (nI i)), (0, .ref (a 0))]) hx hb dX4_leftSet_42 rfl hl (by decide) rfl (fun ls hl => ?_)
          refine lv_iinc (v := nI (i + 1)) (lv' := [(2, .int (nI (i + 1))), (1, .int (k ||| 0)), (0, .ref (a 0))]) hx hb dX4_leftSet_43 hl (k := 1) rfl (nI_1 _) (by decide) rfl (fun ls hl => ?_)
          refine lv_goto (tgt := 4) hx hb dX4_leftSet_46 (by decide) ?_
          exact ih (i + 1) (k ||| 0) (by omega) (by rw [← hv4]; simp only [lmZ, lsL, if_pos c_16_1, if_neg c_31_2]) ls (lv_sub hl [0, 1, 2] rfl)
        · refine lv_iconst (v := 1) hx hb dX4_leftSet_34 (by decide) ?_
          refine lv_iload_n hx hb dX4_leftSet_35 rfl (lv_at hl 0 rfl) ?_
          refine lv_ishl hx hb dX4_leftSet_36 ?_
          refine lv_goto (tgt := 41) hx hb dX4_leftSet_37 (by decide) ?_
          refine lv_ior hx hb dX4_leftSet_41 ?_
          refine lv_istore_n (lv' := [(1, .int (k ||| (1 <<< ((nI i) &&& 31)))), (2, .int (nI i)), (0, .ref (a 0))]) hx hb dX4_leftSet_42 rfl hl (by decide) rfl (fun ls hl => ?_)
          refine lv_iinc (v := nI (i + 1)) (lv' := [(2, .int (nI (i + 1))), (1, .int (k ||| (1 <<< ((nI i) &&& 31)))), (0, .ref (a 0))]) hx hb dX4_leftSet_43 hl (k := 1) rfl (nI_1 _) (by decide) rfl (fun ls hl => ?_)
          refine lv_goto (tgt := 4) hx hb dX4_leftSet_46 (by decide) ?_
          exact ih (i + 1) (k ||| (1 <<< ((nI i) &&& 31))) (by omega) (by rw [← hv4]; simp only [lmZ, lsL, if_pos c_16_1, if_pos c_31_2]) ls (lv_sub hl [0, 1, 2] rfl)
  exact L4 5 0 0 rfl (by simp only [lmZ]) ls (lv_sub hl [0, 1, 2] rfl)
set_option maxHeartbeats 4000000 in
set_option maxRecDepth 100000 in
theorem c_X4_mayBid (l : Launch) (G : qG) (a : Nat → Nat) (z sp pa st sv pd tl : Nat → Int32) (ns ty spt tm : Int32) (k : Int32) (hz4 : z 4 = 1 → vp_in (z 5) 5) : MP l yX4_mayBid wsX4_mayBid 2 41 G [.ref (a 0), .int k] (mw G a z sp pa st sv pd tl ns ty spt tm) (mbZ z k) := by
  refine MP.of (ty := .boolean) (by decide) rfl (Nat.le_of_ble_eq_true rfl) (mbZ_nar z k) ?_
  intro p e s m below meth c hx hb hml hown hts hK hP Q hret ls hl
  have hown : s.vm.findClass RX4 = some m.cls := hown
  have hl : lv_has ls 2 [(0, .ref (a 0)), (1, .int k)] := hl
  have wk1 := hts (Cond.fieldLink RX4 7 "TurnBidsModel" "z" "[I") (List.mem_of_getElem? (i := 1) rfl)
  have wk2 := hts (Cond.methodLink RX4 94 yX4_canBid) (List.mem_of_getElem? (i := 2) rfl)
  have hinX4 : ∀ w ∈ wsX40, w ∈ wsX4_mayBid := fun _ h => (List.mem_cons_of_mem _ (List.mem_append_right _ h))
  refine lv_aload_n hx hb dX4_mayBid_0 rfl (lv_at hl 0 rfl) ?_
  refine va_get (D := G.1) (ci := 4) (v := .ref (a 1)) (C := RX4) (T := TX4) (N := 11) hx hb hts hinX4 hown hK.1 hP 0 rfl rfl 0 (by decide) wk1 (fun _ h9 => h9) rfl dX4_mayBid_1 ?_
  refine lv_iconst (v := 4) hx hb dX4_mayBid_4 (by decide) ?_
  refine qild hx hb hK.1 hP 1 0 rfl rfl (k := 4) rfl (vp_in_nI (n := 4) (by decide) (by decide)) dX4_mayBid_5 ?_
  refine lv_iconst (v := 1) hx hb dX4_mayBid_6 (by decide) ?_
  refine lv_icmp_ne (tgt := 22) hx hb dX4_mayBid_7 (by decide) (fun c_7_1 => ?_) (fun c_7_1 => ?_)
  · refine lv_iconst (v := 0) hx hb dX4_mayBid_22 (by decide) ?_
    exact hret _ _ _ (by simp only [mbZ, if_neg c_7_1]) dX4_mayBid_23
  · have hz5 := hz4 c_7_1
    refine lv_aload_n hx hb dX4_mayBid_10 rfl (lv_at hl 0 rfl) ?_
    refine lv_iload_n hx hb dX4_mayBid_11 rfl (lv_at hl 1 rfl) ?_
    refine cPV (As := [.int k]) (rest := []) ⟨hx, hb, hml, hown, hts⟩ (c_X4_canBid l G a z sp pa st sv pd tl ns ty spt tm k (by assumption)) (cwV 1 hts gX4_mayBid_X4_canBid rfl rfl rfl (by decide +kernel) ⟨Nat.le_of_ble_eq_true rfl, Nat.le_of_ble_eq_true rfl⟩) hK hP 0 (ci := 4) rfl rfl rfl rfl rfl hl.1 (Nat.le_of_ble_eq_true rfl) dX4_mayBid_12 ⟨Nat.le_of_ble_eq_true rfl, Nat.le_of_ble_eq_true rfl⟩ ?_
    refine lv_if_eq (tgt := 22) hx hb dX4_mayBid_15 (by decide) (fun c_15_2 => ?_) (fun c_15_2 => ?_)
    · refine lv_iconst (v := 0) hx hb dX4_mayBid_22 (by decide) ?_
      exact hret _ _ _ (by simp only [mbZ, if_pos c_7_1, if_pos c_15_2]) dX4_mayBid_23
    · refine lv_iconst (v := 1) hx hb dX4_mayBid_18 (by decide) ?_
      refine lv_goto (tgt := 23) hx hb dX4_mayBid_19 (by decide) ?_
      exact hret _ _ _ (by simp only [mbZ, if_pos c_7_1, if_neg c_15_2]) dX4_mayBid_23
set_option maxHeartbeats 4000000 in
set_option maxRecDepth 100000 in
theorem c_X4_pass (l : Launch) (G : qG) (a : Nat → Nat) (z sp pa st sv pd tl : Nat → Int32) (ns ty spt tm : Int32) (hok : PaOK z) (sz : Nat) : MV l yX4_pass wsX4_pass 1 23 G sz [.ref (a 0)] (mw G a z sp pa st sv pd tl ns ty spt tm) (mw G a (psZ z) sp pa st sv pd tl ns ty spt tm) := by
  refine MV.of' (by decide) rfl (Nat.le_of_ble_eq_true rfl) ?_
  intro p e s m below meth c hx hb hml hown hts hK hsz hP A hAe hA hD hS hmn Q hret ls hl
  have hown : s.vm.findClass RX4 = some m.cls := hown
  have hl : lv_has ls 2 [(0, .ref (a 0))] := hl
  have wk1 := hts (Cond.fieldLink RX4 7 "TurnBidsModel" "z" "[I") (List.mem_of_getElem? (i := 1) rfl)
  have wk2 := hts (Cond.constant RX4 39 (-100006)) (List.mem_of_getElem? (i := 2) rfl)
  have wk3 := hts (Cond.methodLink RX4 70 yX4_playerAt) (List.mem_of_getElem? (i := 3) rfl)
  have hinX4 : ∀ w ∈ wsX40, w ∈ wsX4_pass := fun _ h => (List.mem_cons_of_mem _ (List.mem_append_right _ h))
  obtain ⟨hz5, hpl0, hpl, hsd0⟩ := hok
  refine lv_aload_n hx hb dX4_pass_0 rfl (lv_at hl 0 rfl) ?_
  refine va_get (D := G.1) (ci := 4) (v := .ref (a 1)) (C := RX4) (T := TX4) (N := 11) hx hb hts hinX4 hown hK.1 hP 0 rfl rfl 0 (by decide) wk1 (fun _ h9 => h9) rfl dX4_pass_1 ?_
  refine lv_bipush (v := 18) hx hb dX4_pass_4 (by decide) ?_
  refine lv_aload_n hx hb dX4_pass_6 rfl (lv_at hl 0 rfl) ?_
  refine va_get (D := G.1) (ci := 4) (v := .ref (a 1)) (C := RX4) (T := TX4) (N := 11) hx hb hts hinX4 hown hK.1 hP 0 rfl rfl 0 (by decide) wk1 (fun _ h9 => h9) rfl dX4_pass_7 ?_
  refine lv_iconst (v := 5) hx hb dX4_pass_10 (by decide) ?_
  refine qild hx hb hK.1 hP 1 0 rfl rfl (k := 5) rfl (vp_in_nI (n := 5) (by decide) (by decide)) dX4_pass_11 ?_
  refine lv_iadd hx hb dX4_pass_12 ?_
  refine qild hx hb hK.1 hP 1 0 rfl rfl (k := 18 + ix (z 5)) (ixa (c := 18) (m := 5) (n := 53) rfl (by assumption) (by decide) (by decide)).1 (ixa (c := 18) (m := 5) (n := 53) rfl (by assumption) (by decide) (by decide)).2 dX4_pass_13 ?_
  refine lv_istore_n (lv' := [(1, .int (z (18 + ix (z 5)))), (0, .ref (a 0))]) hx hb dX4_pass_14 rfl hl (by decide) rfl (fun ls hl => ?_)
  have L15 : ∀ (f j : Nat), j < 5 → sdP z f j → npL z f j = npL z 4 (ix (z (18 + ix (z 5)))) → ∀ ls : Array Slot, lv_has ls 2 [(1, .int (nI j)), (0, .ref (a 0))] → W p l e { frames := 1, cells := 0, slots := 0, locals := 23 } s m ([.ref (a 0)] : List Value).toArray below meth c s.heap [] 0 0 Q (F0 m 15 ls []) := by
    intro f
    induction f with
    | zero =>
      intro j hj hsd hv ls hl
      have hj2 : nxt j < 5 := Nat.mod_lt _ (by decide)
      have hv5 := hpl (nxt j) hj2
      refine lv_iload_n hx hb dX4_pass_15 rfl (lv_at hl 0 rfl) ?_
      refine lv_iconst (v := 1) hx hb dX4_pass_16 (by decide) ?_
      refine lv_iadd hx hb dX4_pass_17 ?_
      refine qtop (nI_add j 1) ?_
      refine lv_iconst (v := 5) hx hb dX4_pass_18 (by decide) ?_
      refine lv_irem hx hb dX4_pass_19 (by decide) ?_
      refine qtop (y := nI (nxt j)) (by rw [show nxt j = (j + 1) % 5 from rfl]; exact pk_rem (a := j + 1) (d := 5) (by omega) (by decide) (by decide)) ?_
      refine lv_istore_n (lv' := [(1, .int (nI (nxt j))), (0, .ref (a 0))]) hx hb dX4_pass_20 rfl hl (by decide) rfl (fun ls hl => ?_)
      refine lv_aload_n hx hb dX4_pass_21 rfl (lv_at hl 1 rfl) ?_
      refine va_get (D := G.1) (ci := 4) (v := .ref (a 1)) (C := RX4) (T := TX4) (N := 11) hx hb hts hinX4 hown hK.1 hP 0 rfl rfl 0 (by decide) wk1 (fun _ h9 => h9) rfl dX4_pass_22 ?_
      refine lv_bipush (v := 28) hx hb dX4_pass_25 (by decide) ?_
      refine lv_aload_n hx hb dX4_pass_27 rfl (lv_at hl 1 rfl) ?_
      refine lv_iload_n hx hb dX4_pass_28 rfl (lv_at hl 0 rfl) ?_
      refine cPV (As := [.int (nI (nxt j))]) (rest := [.int 28, .ref (a 1)]) ⟨hx, hb, hml, hown, hts⟩ (c_X4_playerAt l G a z sp pa st sv pd tl ns ty spt tm (nI (nxt j))) (cwV 1 hts gX4_pass_X4_playerAt rfl rfl rfl (by decide +kernel) ⟨Nat.le_of_ble_eq_true rfl, Nat.le_of_ble_eq_true rfl⟩) hK hP 0 (ci := 4) rfl rfl rfl rfl rfl hl.1 (Nat.le_of_ble_eq_true rfl) dX4_pass_29 ⟨Nat.le_of_ble_eq_true rfl, Nat.le_of_ble_eq_true rfl⟩ ?_
      refine lv_iadd hx hb dX4_pass_32 ?_
      refine qild hx hb hK.1 hP 1 0 rfl rfl (k := 28 + ix (mAt z (nI (nxt j)))) (ixa (c := 28) (m := 5) (n := 53) rfl (by assumption) (by decide) (by decide)).1 (ixa (c := 28) (m := 5) (n := 53) rfl (by assumption) (by decide) (by decide)).2 dX4_pass_33 ?_
      refine lv_ldc (v := (-100006)) hx hb hown wk2 dX4_pass_34 ?_
      refine lv_icmp_ne (tgt := 15) hx hb dX4_pass_36 (by decide) (fun c_9 => absurd hsd c_9) (fun _ => ?_)
      refine lv_aload_n hx hb dX4_pass_39 rfl (lv_at hl 1 rfl) ?_
      refine va_get (D := G.1) (ci := 4) (v := .ref (a 1)) (C := RX4) (T := TX4) (N := 11) hx hb hts hinX4 hown hK.1 hP 0 rfl rfl 0 (by decide) wk1 (fun _ h9 => h9) rfl dX4_pass_40 ?_
      refine lv_iconst (v := 5) hx hb dX4_pass_43 (by decide) ?_
      refine lv_aload_n hx hb dX4_pass_44 rfl (lv_at hl 1 rfl) ?_
      refine lv_iload_n hx hb dX4_pass_45 rfl (lv_at hl 0 rfl) ?_
      refine cPV (As := [.int (nI (nxt j))]) (rest := [.int 5, .ref (a 1)]) ⟨hx, hb, hml, hown, hts⟩ (c_X4_playerAt l G a z sp pa st sv pd tl ns ty spt tm (nI (nxt j))) (cwV 1 hts gX4_pass_X4_playerAt rfl rfl rfl (by decide +kernel) ⟨Nat.le_of_ble_eq_true rfl, Nat.le_of_ble_eq_true rfl⟩) hK hP 0 (ci := 4) rfl rfl rfl rfl rfl hl.1 (Nat.le_of_ble_eq_true rfl) dX4_pass_46 ⟨Nat.le_of_ble_eq_true rfl, Nat.le_of_ble_eq_true rfl⟩ ?_
      refine qist hx hb hK.1 hP hD hS 1 0 rfl rfl (k := 5) rfl (vp_in_nI (n := 5) (by decide) (by decide)) dX4_pass_49 (fun H locs hP hD hS => ?_)
      have hP : va_P G.1 vwCl (mw G a (upd z 5 (mAt z (nI (nxt j)))) sp pa st sv pd tl ns ty spt tm) H := hP
      have hD : va_D A (mw G a (upd z 5 (mAt z (nI (nxt j)))) sp pa st sv pd tl ns ty spt tm) := hD
      have hf0 : upd z 5 (mAt z (nI (nxt j))) = psZ z := by rw [psZ, ← hv]; simp only [npL]
      rw [hf0] at hP hD
      exact hret _ _ _ _ () trivial hP hD hS dX4_pass_50
    | succ f ih =>
      intro j hj hsd hv ls hl
      have hj2 : nxt j < 5 := Nat.mod_lt _ (by decide)
      have hv5 := hpl (nxt j) hj2
      refine lv_iload_n hx hb dX4_pass_15 rfl (lv_at hl 0 rfl) ?_
      refine lv_iconst (v := 1) hx hb dX4_pass_16 (by decide) ?_
      refine lv_iadd hx hb dX4_pass_17 ?_
      refine qtop (nI_add j 1) ?_
      refine lv_iconst (v := 5) hx hb dX4_pass_18 (by decide) ?_
      refine lv_irem hx hb dX4_pass_19 (by decide) ?_
      refine qtop (y := nI (nxt j)) (by rw [show nxt j = (j + 1) % 5 from rfl]; exact pk_rem (a := j + 1) (d := 5) (by omega) (by decide) (by decide)) ?_
      refine lv_istore_n (lv' := [(1, .int (nI (nxt j))), (0, .ref (a 0))]) hx hb dX4_pass_20 rfl hl (by decide) rfl (fun ls hl => ?_)
      refine lv_aload_n hx hb dX4_pass_21 rfl (lv_at hl 1 rfl) ?_
      refine va_get (D := G.1) (ci := 4) (v := .ref (a 1)) (C := RX4) (T := TX4) (N := 11) hx hb hts hinX4 hown hK.1 hP 0 rfl rfl 0 (by decide) wk1 (fun _ h9 => h9) rfl dX4_pass_22 ?_
      refine lv_bipush (v := 28) hx hb dX4_pass_25 (by decide) ?_
      refine lv_aload_n hx hb dX4_pass_27 rfl (lv_at hl 1 rfl) ?_
      refine lv_iload_n hx hb dX4_pass_28 rfl (lv_at hl 0 rfl) ?_
      refine cPV (As := [.int (nI (nxt j))]) (rest := [.int 28, .ref (a 1)]) ⟨hx, hb, hml, hown, hts⟩ (c_X4_playerAt l G a z sp pa st sv pd tl ns ty spt tm (nI (nxt j))) (cwV 1 hts gX4_pass_X4_playerAt rfl rfl rfl (by decide +kernel) ⟨Nat.le_of_ble_eq_true rfl, Nat.le_of_ble_eq_true rfl⟩) hK hP 0 (ci := 4) rfl rfl rfl rfl rfl hl.1 (Nat.le_of_ble_eq_true rfl) dX4_pass_29 ⟨Nat.le_of_ble_eq_true rfl, Nat.le_of_ble_eq_true rfl⟩ ?_
      refine lv_iadd hx hb dX4_pass_32 ?_
      refine qild hx hb hK.1 hP 1 0 rfl rfl (k := 28 + ix (mAt z (nI (nxt j)))) (ixa (c := 28) (m := 5) (n := 53) rfl (by assumption) (by decide) (by decide)).1 (ixa (c := 28) (m := 5) (n := 53) rfl (by assumption) (by decide) (by decide)).2 dX4_pass_33 ?_
      refine lv_ldc (v := (-100006)) hx hb hown wk2 dX4_pass_34 ?_
      refine lv_icmp_ne (tgt := 15) hx hb dX4_pass_36 (by decide) (fun c_36_1 => ?_) (fun c_36_1 => ?_)
      · exact ih (nxt j) hj2 (hsd.resolve_left c_36_1) (by rw [← hv]; simp only [npL, if_neg c_36_1]) ls (lv_sub hl [0, 1] rfl)
      · refine lv_aload_n hx hb dX4_pass_39 rfl (lv_at hl 1 rfl) ?_
        refine va_get (D := G.1) (ci := 4) (v := .ref (a 1)) (C := RX4) (T := TX4) (N := 11) hx hb hts hinX4 hown hK.1 hP 0 rfl rfl 0 (by decide) wk1 (fun _ h9 => h9) rfl dX4_pass_40 ?_
        refine lv_iconst (v := 5) hx hb dX4_pass_43 (by decide) ?_
        refine lv_aload_n hx hb dX4_pass_44 rfl (lv_at hl 1 rfl) ?_
        refine lv_iload_n hx hb dX4_pass_45 rfl (lv_at hl 0 rfl) ?_
        refine cPV (As := [.int (nI (nxt j))]) (rest := [.int 5, .ref (a 1)]) ⟨hx, hb, hml, hown, hts⟩ (c_X4_playerAt l G a z sp pa st sv pd tl ns ty spt tm (nI (nxt j))) (cwV 1 hts gX4_pass_X4_playerAt rfl rfl rfl (by decide +kernel) ⟨Nat.le_of_ble_eq_true rfl, Nat.le_of_ble_eq_true rfl⟩) hK hP 0 (ci := 4) rfl rfl rfl rfl rfl hl.1 (Nat.le_of_ble_eq_true rfl) dX4_pass_46 ⟨Nat.le_of_ble_eq_true rfl, Nat.le_of_ble_eq_true rfl⟩ ?_
        refine qist hx hb hK.1 hP hD hS 1 0 rfl rfl (k := 5) rfl (vp_in_nI (n := 5) (by decide) (by decide)) dX4_pass_49 (fun H locs hP hD hS => ?_)
        have hP : va_P G.1 vwCl (mw G a (upd z 5 (mAt z (nI (nxt j)))) sp pa st sv pd tl ns ty spt tm) H := hP
        have hD : va_D A (mw G a (upd z 5 (mAt z (nI (nxt j)))) sp pa st sv pd tl ns ty spt tm) := hD
        have hf0 : upd z 5 (mAt z (nI (nxt j))) = psZ z := by rw [psZ, ← hv]; simp only [npL, if_pos c_36_1]
        rw [hf0] at hP hD
        exact hret _ _ _ _ () trivial hP hD hS dX4_pass_50
  obtain ⟨j0, hj0, hj1⟩ := vp_in_of hpl0 (by decide)
  rw [hj1] at hl
  exact L15 4 j0 hj0 (by rw [hj1, ix, nI_clamp (by omega)] at hsd0; exact hsd0) (by rw [hj1, ix, nI_clamp (by omega)]) ls (lv_sub hl [0, 1] rfl)
set_option maxHeartbeats 4000000 in
set_option maxRecDepth 100000 in
theorem c_X4_bidNow (l : Launch) (G : qG) (a : Nat → Nat) (z sp pa st sv pd tl : Nat → Int32) (ns ty spt tm : Int32) (k : Int32) (hok : BdOK z k) (sz : Nat) : MV l yX4_bidNow wsX4_bidNow 2 44 G sz [.ref (a 0), .int k] (mw G a z sp pa st sv pd tl ns ty spt tm) (mw G a (bdZ z k) sp pa st sv pd tl ns ty spt tm) := by
  refine MV.of' (by decide) rfl (Nat.le_of_ble_eq_true rfl) ?_
  intro p e s m below meth c hx hb hml hown hts hK hsz hP A hAe hA hD hS hmn Q hret ls hl
  have hown : s.vm.findClass RX4 = some m.cls := hown
  have hl : lv_has ls 2 [(0, .ref (a 0)), (1, .int k)] := hl
  have wk1 := hts (Cond.fieldLink RX4 7 "TurnBidsModel" "z" "[I") (List.mem_of_getElem? (i := 1) rfl)
  have wk2 := hts (Cond.methodLink RX4 77 yX4_pass) (List.mem_of_getElem? (i := 2) rfl)
  have hinX4 : ∀ w ∈ wsX40, w ∈ wsX4_bidNow := fun _ h => (List.mem_cons_of_mem _ (List.mem_append_right _ h))
  obtain ⟨hz5, hpa⟩ := hok
  refine lv_aload_n hx hb dX4_bidNow_0 rfl (lv_at hl 0 rfl) ?_
  refine va_get (D := G.1) (ci := 4) (v := .ref (a 1)) (C := RX4) (T := TX4) (N := 11) hx hb hts hinX4 hown hK.1 hP 0 rfl rfl 0 (by decide) wk1 (fun _ h9 => h9) rfl dX4_bidNow_1 ?_
  refine lv_bipush (v := 23) hx hb dX4_bidNow_4 (by decide) ?_
  refine lv_aload_n hx hb dX4_bidNow_6 rfl (lv_at hl 0 rfl) ?_
  refine va_get (D := G.1) (ci := 4) (v := .ref (a 1)) (C := RX4) (T := TX4) (N := 11) hx hb hts hinX4 hown hK.1 hP 0 rfl rfl 0 (by decide) wk1 (fun _ h9 => h9) rfl dX4_bidNow_7 ?_
  refine lv_iconst (v := 5) hx hb dX4_bidNow_10 (by decide) ?_
  refine qild hx hb hK.1 hP 1 0 rfl rfl (k := 5) rfl (vp_in_nI (n := 5) (by decide) (by decide)) dX4_bidNow_11 ?_
  refine lv_iadd hx hb dX4_bidNow_12 ?_
  refine lv_iload_n hx hb dX4_bidNow_13 rfl (lv_at hl 1 rfl) ?_
  refine qist hx hb hK.1 hP hD hS 1 0 rfl rfl (k := 23 + ix (z 5)) (ixa (c := 23) (m := 5) (n := 53) rfl (by assumption) (by decide) (by decide)).1 (ixa (c := 23) (m := 5) (n := 53) rfl (by assumption) (by decide) (by decide)).2 dX4_bidNow_14 (fun H locs hP hD hS => ?_)
  have hP : va_P G.1 vwCl (mw G a (upd z (23 + ix (z 5)) k) sp pa st sv pd tl ns ty spt tm) H := hP
  have hD : va_D A (mw G a (upd z (23 + ix (z 5)) k) sp pa st sv pd tl ns ty spt tm) := hD
  refine lv_aload_n hx hb dX4_bidNow_15 rfl (lv_at hl 0 rfl) ?_
  refine va_get (D := G.1) (ci := 4) (v := .ref (a 1)) (C := RX4) (T := TX4) (N := 11) hx hb hts hinX4 hown hK.1 hP 0 rfl rfl 0 (by decide) wk1 (fun _ h9 => h9) rfl dX4_bidNow_16 ?_
  refine lv_bipush (v := 6) hx hb dX4_bidNow_19 (by decide) ?_
  refine lv_iload_n hx hb dX4_bidNow_21 rfl (lv_at hl 1 rfl) ?_
  refine qist hx hb hK.1 hP hD hS 1 0 rfl rfl (k := 6) rfl (vp_in_nI (n := 6) (by decide) (by decide)) dX4_bidNow_22 (fun H locs hP hD hS => ?_)
  have hP : va_P G.1 vwCl (mw G a (upd (upd z (23 + ix (z 5)) k) 6 k) sp pa st sv pd tl ns ty spt tm) H := hP
  have hD : va_D A (mw G a (upd (upd z (23 + ix (z 5)) k) 6 k) sp pa st sv pd tl ns ty spt tm) := hD
  refine lv_aload_n hx hb dX4_bidNow_23 rfl (lv_at hl 0 rfl) ?_
  refine cAV (As := []) (rest := []) ⟨hx, hb, hml, hown, hts⟩ (c_X4_pass l G a (upd (upd z (23 + ix (z 5)) k) 6 k) sp pa st sv pd tl ns ty spt tm hpa _) (cwV 0 hts gX4_bidNow_X4_pass rfl rfl rfl (by decide +kernel) ⟨Nat.le_of_ble_eq_true rfl, Nat.le_of_ble_eq_true rfl⟩) hK hP hD hS hA 0 (ci := 4) rfl rfl rfl rfl rfl hl.1 (Nat.le_of_ble_eq_true rfl) dX4_bidNow_24 ⟨Nat.le_of_ble_eq_true rfl, Nat.le_of_ble_eq_true rfl⟩ (fun u_1 H locs hr_1 hP hD hS => ?_)
  have hP : va_P G.1 vwCl (mw G a (psZ (upd (upd z (23 + ix (z 5)) k) 6 k)) sp pa st sv pd tl ns ty spt tm) H := hP
  have hD : va_D A (mw G a (psZ (upd (upd z (23 + ix (z 5)) k) 6 k)) sp pa st sv pd tl ns ty spt tm) := hD
  have hf0 : (psZ (upd (upd z (23 + ix (z 5)) k) 6 k)) = (bdZ z k) := (by simp only [bdZ, bdA])
  have hP : va_P G.1 vwCl (mw G a (bdZ z k) sp pa st sv pd tl ns ty spt tm) H := by rw [← hf0]; exact hP
  have hD : va_D A (mw G a (bdZ z k) sp pa st sv pd tl ns ty spt tm) := by rw [← hf0]; exact hD
  exact hret _ _ _ _ () trivial hP hD hS dX4_bidNow_27
set_option maxHeartbeats 4000000 in
set_option maxRecDepth 100000 in
theorem c_X4_endNow (l : Launch) (G : qG) (a : Nat → Nat) (z sp pa st sv pd tl : Nat → Int32) (ns ty spt tm : Int32) (x : Int32) (hx5 : vp_in x 5) (sz : Nat) : MV l yX4_endNow wsX4_endNow 1 25 G sz [.ref (a 0), .int x] (mw G a z sp pa st sv pd tl ns ty spt tm) (mw G a (ndZ z x) sp pa st sv pd tl ns ty spt tm) := by
  refine MV.of' (by decide) rfl (Nat.le_of_ble_eq_true rfl) ?_
  intro p e s m below meth c hx hb hml hown hts hK hsz hP A hAe hA hD hS hmn Q hret ls hl
  have hown : s.vm.findClass RX4 = some m.cls := hown
  have hl : lv_has ls 5 [(0, .ref (a 0)), (1, .int x)] := hl
  have wk1 := hts (Cond.fieldLink RX4 7 "TurnBidsModel" "z" "[I") (List.mem_of_getElem? (i := 1) rfl)
  have wk2 := hts (Cond.constant RX4 39 (-100006)) (List.mem_of_getElem? (i := 2) rfl)
  have wk3 := hts (Cond.methodLink RX4 83 yX4_pay) (List.mem_of_getElem? (i := 3) rfl)
  have wk8 := hts (Cond.methodLink RX4 91 yX4_prizeAt) (List.mem_of_getElem? (i := 8) rfl)
  have wk12 := hts (Cond.methodLink RX4 32 yX4_clearAuction) (List.mem_of_getElem? (i := 12) rfl)
  have hinX4 : ∀ w ∈ wsX40, w ∈ wsX4_endNow := fun _ h => (List.mem_cons_of_mem _ (List.mem_append_right _ h))
  refine lv_aload_n hx hb dX4_endNow_0 rfl (lv_at hl 0 rfl) ?_
  refine va_get (D := G.1) (ci := 4) (v := .ref (a 1)) (C := RX4) (T := TX4) (N := 11) hx hb hts hinX4 hown hK.1 hP 0 rfl rfl 0 (by decide) wk1 (fun _ h9 => h9) rfl dX4_endNow_1 ?_
  refine lv_bipush (v := 23) hx hb dX4_endNow_4 (by decide) ?_
  refine lv_iload_n hx hb dX4_endNow_6 rfl (lv_at hl 1 rfl) ?_
  refine lv_iadd hx hb dX4_endNow_7 ?_
  refine qild hx hb hK.1 hP 1 0 rfl rfl (k := 23 + ix x) (ixa (c := 23) (m := 5) (n := 53) rfl (by assumption) (by decide) (by decide)).1 (ixa (c := 23) (m := 5) (n := 53) rfl (by assumption) (by decide) (by decide)).2 dX4_endNow_8 ?_
  refine lv_ldc (v := (-100006)) hx hb hown wk2 dX4_endNow_9 ?_
  refine lv_icmp_eq (tgt := 41) hx hb dX4_endNow_11 (by decide) (fun c_11_1 => ?_) (fun c_11_1 => ?_)
  · refine lv_aload_n hx hb dX4_endNow_41 rfl (lv_at hl 0 rfl) ?_
    refine va_get (D := G.1) (ci := 4) (v := .ref (a 1)) (C := RX4) (T := TX4) (N := 11) hx hb hts hinX4 hown hK.1 hP 0 rfl rfl 0 (by decide) wk1 (fun _ h9 => h9) rfl dX4_endNow_42 ?_
    refine lv_bipush (v := 28) hx hb dX4_endNow_45 (by decide) ?_
    refine lv_iload_n hx hb dX4_endNow_47 rfl (lv_at hl 1 rfl) ?_
    refine lv_iadd hx hb dX4_endNow_48 ?_
    refine lv_iconst (v := 0) hx hb dX4_endNow_49 (by decide) ?_
    refine qist hx hb hK.1 hP hD hS 1 0 rfl rfl (k := 28 + ix x) (ixa (c := 28) (m := 5) (n := 53) rfl (by assumption) (by decide) (by decide)).1 (ixa (c := 28) (m := 5) (n := 53) rfl (by assumption) (by decide) (by decide)).2 dX4_endNow_50 (fun H locs hP hD hS => ?_)
    have hP : va_P G.1 vwCl (mw G a (upd z (28 + ix x) 0) sp pa st sv pd tl ns ty spt tm) H := hP
    have hD : va_D A (mw G a (upd z (28 + ix x) 0) sp pa st sv pd tl ns ty spt tm) := hD
    refine lv_aload_n hx hb dX4_endNow_51 rfl (lv_at hl 0 rfl) ?_
    refine va_get (D := G.1) (ci := 4) (v := .ref (a 1)) (C := RX4) (T := TX4) (N := 11) hx hb hts hinX4 hown hK.1 hP 0 rfl rfl 0 (by decide) wk1 (fun _ h9 => h9) rfl dX4_endNow_52 ?_
    refine lv_bipush (v := 43) hx hb dX4_endNow_55 (by decide) ?_
    refine lv_iload_n hx hb dX4_endNow_57 rfl (lv_at hl 1 rfl) ?_
    refine lv_iadd hx hb dX4_endNow_58 ?_
    refine lv_dup2_11 hx hb dX4_endNow_59 rfl rfl ?_
    refine qild hx hb hK.1 hP 1 0 rfl rfl (k := 43 + ix x) (ixa (c := 43) (m := 5) (n := 53) rfl (by assumption) (by decide) (by decide)).1 (ixa (c := 43) (m := 5) (n := 53) rfl (by assumption) (by decide) (by decide)).2 dX4_endNow_60 ?_
    refine lv_iconst (v := 1) hx hb dX4_endNow_61 (by decide) ?_
    refine lv_iadd hx hb dX4_endNow_62 ?_
    refine qist hx hb hK.1 hP hD hS 1 0 rfl rfl (k := 43 + ix x) (ixa (c := 43) (m := 5) (n := 53) rfl (by assumption) (by decide) (by decide)).1 (ixa (c := 43) (m := 5) (n := 53) rfl (by assumption) (by decide) (by decide)).2 dX4_endNow_63 (fun H locs hP hD hS => ?_)
    have hP : va_P G.1 vwCl (mw G a (upd (upd z (28 + ix x) 0) (43 + ix x) (((upd z (28 + ix x) 0) (43 + ix x)) + 1)) sp pa st sv pd tl ns ty spt tm) H := hP
    have hD : va_D A (mw G a (upd (upd z (28 + ix x) 0) (43 + ix x) (((upd z (28 + ix x) 0) (43 + ix x)) + 1)) sp pa st sv pd tl ns ty spt tm) := hD
    refine lv_iconst (v := 0) hx hb dX4_endNow_64 (by decide) ?_
    refine lv_istore_n (lv' := [(2, .int 0), (0, .ref (a 0)), (1, .int x)]) hx hb dX4_endNow_65 rfl hl (by decide) rfl (fun ls hl => ?_)
    have L66 : ∀ (f i : Nat)  (y : Nat → Int32), i + f = 5 → ndE (ndL f i y) = ndZ z x → ∀ (H : Heap) (locs : List Loc), va_P G.1 vwCl (mw G a y sp pa st sv pd tl ns ty spt tm) H → va_D A (mw G a y sp pa st sv pd tl ns ty spt tm) → va_S A s.heap H locs → ∀ ls : Array Slot, lv_has ls 5 [(2, .int (nI i)), (0, .ref (a 0)), (1, .int x)] → W p l e { frames := 1, cells := 0, slots := 0, locals := 25 } s m ([.ref (a 0), .int x] : List Value).toArray below meth c H locs 0 0 Q (F0 m 66 ls []) := by
      intro f
      induction f with
      | zero =>
        intro i y hi hv66 H locs hP hD hS ls hl
        obtain rfl : i = 5 := by omega
        refine lv_iload_n hx hb dX4_endNow_66 rfl (lv_at hl 0 rfl) ?_
        refine lv_iconst (v := 5) hx hb dX4_endNow_67 (by decide) ?_
        refine lv_icmp_ge (tgt := 160) hx hb dX4_endNow_68 (by decide) (fun _ => ?_) (fun c_9 => absurd (by decide +kernel) c_9)
        refine lv_aload_n hx hb dX4_endNow_160 rfl (lv_at hl 1 rfl) ?_
        refine va_get (D := G.1) (ci := 4) (v := .ref (a 1)) (C := RX4) (T := TX4) (N := 11) hx hb hts hinX4 hown hK.1 hP 0 rfl rfl 0 (by decide) wk1 (fun _ h9 => h9) rfl dX4_endNow_161 ?_
        refine lv_bipush (v := 7) hx hb dX4_endNow_164 (by decide) ?_
        refine lv_dup2_11 hx hb dX4_endNow_166 rfl rfl ?_
        refine qild hx hb hK.1 hP 1 0 rfl rfl (k := 7) rfl (vp_in_nI (n := 7) (by decide) (by decide)) dX4_endNow_167 ?_
        refine lv_iconst (v := 1) hx hb dX4_endNow_168 (by decide) ?_
        refine lv_iadd hx hb dX4_endNow_169 ?_
        refine qist hx hb hK.1 hP hD hS 1 0 rfl rfl (k := 7) rfl (vp_in_nI (n := 7) (by decide) (by decide)) dX4_endNow_170 (fun H locs hP hD hS => ?_)
        have hP : va_P G.1 vwCl (mw G a (upd y 7 ((y 7) + 1)) sp pa st sv pd tl ns ty spt tm) H := hP
        have hD : va_D A (mw G a (upd y 7 ((y 7) + 1)) sp pa st sv pd tl ns ty spt tm) := hD
        refine lv_aload_n hx hb dX4_endNow_171 rfl (lv_at hl 1 rfl) ?_
        refine cAV (As := []) (rest := []) ⟨hx, hb, hml, hown, hts⟩ (c_X4_clearAuction l G a (upd y 7 ((y 7) + 1)) sp pa st sv pd tl ns ty spt tm _) (cwV 0 hts gX4_endNow_X4_clearAuction rfl rfl rfl (by decide +kernel) ⟨Nat.le_of_ble_eq_true rfl, Nat.le_of_ble_eq_true rfl⟩) hK hP hD hS hA 0 (ci := 4) rfl rfl rfl rfl rfl hl.1 (Nat.le_of_ble_eq_true rfl) dX4_endNow_172 ⟨Nat.le_of_ble_eq_true rfl, Nat.le_of_ble_eq_true rfl⟩ (fun u_2 H locs hr_2 hP hD hS => ?_)
        have hP : va_P G.1 vwCl (mw G a (clZ (upd y 7 ((y 7) + 1))) sp pa st sv pd tl ns ty spt tm) H := hP
        have hD : va_D A (mw G a (clZ (upd y 7 ((y 7) + 1))) sp pa st sv pd tl ns ty spt tm) := hD
        have hf0 : (clZ (upd y 7 ((y 7) + 1))) = (ndZ z x) := (by rw [← hv66]; simp only [ndZ, ndE, ndS, nd1, nd2, nd3, ndB, ndA, ndL, if_pos c_11_1])
        have hP : va_P G.1 vwCl (mw G a (ndZ z x) sp pa st sv pd tl ns ty spt tm) H := by rw [← hf0]; exact hP
        have hD : va_D A (mw G a (ndZ z x) sp pa st sv pd tl ns ty spt tm) := by rw [← hf0]; exact hD
        exact hret _ _ _ _ () trivial hP hD hS dX4_endNow_175
      | succ f ih =>
        intro i y hi hv66 H locs hP hD hS ls hl
        have hlt : i < 5 := by omega
        refine lv_iload_n hx hb dX4_endNow_66 rfl (lv_at hl 0 rfl) ?_
        refine lv_iconst (v := 5) hx hb dX4_endNow_67 (by decide) ?_
        refine lv_icmp_ge (tgt := 160) hx hb dX4_endNow_68 (by decide) (fun c_9 => absurd c_9 (nI_ge (b := 5) hlt (by decide))) (fun _ => ?_)
        refine lv_aload_n hx hb dX4_endNow_71 rfl (lv_at hl 1 rfl) ?_
        refine lv_aload_n hx hb dX4_endNow_72 rfl (lv_at hl 1 rfl) ?_
        refine va_get (D := G.1) (ci := 4) (v := .ref (a 1)) (C := RX4) (T := TX4) (N := 11) hx hb hts hinX4 hown hK.1 hP 0 rfl rfl 0 (by decide) wk1 (fun _ h9 => h9) rfl dX4_endNow_73 ?_
        refine lv_bipush (v := 28) hx hb dX4_endNow_76 (by decide) ?_
        refine lv_iload_n hx hb dX4_endNow_78 rfl (lv_at hl 0 rfl) ?_
        refine lv_iadd hx hb dX4_endNow_79 ?_
        refine qtop (nI_add 28 i) ?_
        refine qild hx hb hK.1 hP 1 0 rfl rfl (k := 28 + i) (nI_clamp (by omega)) (vp_in_nI (by omega) (by decide)) dX4_endNow_80 ?_
        refine cPV (As := [.int (y (28 + i))]) (rest := []) ⟨hx, hb, hml, hown, hts⟩ (c_X4_prizeAt l G a y sp pa st sv pd tl ns ty spt tm (y (28 + i))) (cwV 1 hts gX4_endNow_X4_prizeAt rfl rfl rfl (by decide +kernel) ⟨Nat.le_of_ble_eq_true rfl, Nat.le_of_ble_eq_true rfl⟩) hK hP 0 (ci := 4) rfl rfl rfl rfl rfl hl.1 (Nat.le_of_ble_eq_true rfl) dX4_endNow_81 ⟨Nat.le_of_ble_eq_true rfl, Nat.le_of_ble_eq_true rfl⟩ ?_
        refine lv_istore_n (lv' := [(3, .int (mpZ y (y (28 + i)))), (2, .int (nI i)), (0, .ref (a 0)), (1, .int x)]) hx hb dX4_endNow_84 rfl hl (by decide) rfl (fun ls hl => ?_)
        refine lv_aload_n hx hb dX4_endNow_85 rfl (lv_at hl 2 rfl) ?_
        refine va_get (D := G.1) (ci := 4) (v := .ref (a 1)) (C := RX4) (T := TX4) (N := 11) hx hb hts hinX4 hown hK.1 hP 0 rfl rfl 0 (by decide) wk1 (fun _ h9 => h9) rfl dX4_endNow_86 ?_
        refine lv_bipush (v := 8) hx hb dX4_endNow_89 (by decide) ?_
        refine lv_iload_n hx hb dX4_endNow_91 rfl (lv_at hl 1 rfl) ?_
        refine lv_iadd hx hb dX4_endNow_92 ?_
        refine qtop (nI_add 8 i) ?_
        refine qild hx hb hK.1 hP 1 0 rfl rfl (k := 8 + i) (nI_clamp (by omega)) (vp_in_nI (by omega) (by decide)) dX4_endNow_93 ?_
        refine lv_iload_n hx hb dX4_endNow_94 rfl (lv_at hl 0 rfl) ?_
        refine lv_iadd hx hb dX4_endNow_95 ?_
        refine lv_istore (lv' := [(4, .int ((y (8 + i)) + (mpZ y (y (28 + i))))), (3, .int (mpZ y (y (28 + i)))), (2, .int (nI i)), (0, .ref (a 0)), (1, .int x)]) hx hb dX4_endNow_96 hl (by decide) rfl (fun ls hl => ?_)
        refine lv_aload_n hx hb dX4_endNow_98 rfl (lv_at hl 3 rfl) ?_
        refine va_get (D := G.1) (ci := 4) (v := .ref (a 1)) (C := RX4) (T := TX4) (N := 11) hx hb hts hinX4 hown hK.1 hP 0 rfl rfl 0 (by decide) wk1 (fun _ h9 => h9) rfl dX4_endNow_99 ?_
        refine lv_bipush (v := 18) hx hb dX4_endNow_102 (by decide) ?_
        refine lv_iload_n hx hb dX4_endNow_104 rfl (lv_at hl 2 rfl) ?_
        refine lv_iadd hx hb dX4_endNow_105 ?_
        refine qtop (nI_add 18 i) ?_
        refine lv_aload_n hx hb dX4_endNow_106 rfl (lv_at hl 3 rfl) ?_
        refine va_get (D := G.1) (ci := 4) (v := .ref (a 1)) (C := RX4) (T := TX4) (N := 11) hx hb hts hinX4 hown hK.1 hP 0 rfl rfl 0 (by decide) wk1 (fun _ h9 => h9) rfl dX4_endNow_107 ?_
        refine lv_bipush (v := 28) hx hb dX4_endNow_110 (by decide) ?_
        refine lv_iload_n hx hb dX4_endNow_112 rfl (lv_at hl 2 rfl) ?_
        refine lv_iadd hx hb dX4_endNow_113 ?_
        refine qtop (nI_add 28 i) ?_
        refine qild hx hb hK.1 hP 1 0 rfl rfl (k := 28 + i) (nI_clamp (by omega)) (vp_in_nI (by omega) (by decide)) dX4_endNow_114 ?_
        refine qist hx hb hK.1 hP hD hS 1 0 rfl rfl (k := 18 + i) (nI_clamp (by omega)) (vp_in_nI (by omega) (by decide)) dX4_endNow_115 (fun H locs hP hD hS => ?_)
        have hP : va_P G.1 vwCl (mw G a (upd y (18 + i) (y (28 + i))) sp pa st sv pd tl ns ty spt tm) H := hP
        have hD : va_D A (mw G a (upd y (18 + i) (y (28 + i))) sp pa st sv pd tl ns ty spt tm) := hD
        refine lv_aload_n hx hb dX4_endNow_116 rfl (lv_at hl 3 rfl) ?_
        refine va_get (D := G.1) (ci := 4) (v := .ref (a 1)) (C := RX4) (T := TX4) (N := 11) hx hb hts hinX4 hown hK.1 hP 0 rfl rfl 0 (by decide) wk1 (fun _ h9 => h9) rfl dX4_endNow_117 ?_
        refine lv_bipush (v := 8) hx hb dX4_endNow_120 (by decide) ?_
        refine lv_iload_n hx hb dX4_endNow_122 rfl (lv_at hl 2 rfl) ?_
        refine lv_iadd hx hb dX4_endNow_123 ?_
        refine qtop (nI_add 8 i) ?_
        refine lv_iload hx hb dX4_endNow_124 (lv_at hl 0 rfl) ?_
        refine lv_sipush (v := 9999) hx hb dX4_endNow_126 (by decide) ?_
        refine lv_icmp_le (tgt := 138) hx hb dX4_endNow_129 (by decide) (fun c_129_3 => ?_) (fun c_129_3 => ?_)
        · refine lv_iload hx hb dX4_endNow_138 (lv_at hl 0 rfl) ?_
          refine qist hx hb hK.1 hP hD hS 1 0 rfl rfl (k := 8 + i) (nI_clamp (by omega)) (vp_in_nI (by omega) (by decide)) dX4_endNow_140 (fun H locs hP hD hS => ?_)
          have hP : va_P G.1 vwCl (mw G a (upd (upd y (18 + i) (y (28 + i))) (8 + i) ((y (8 + i)) + (mpZ y (y (28 + i))))) sp pa st sv pd tl ns ty spt tm) H := hP
          have hD : va_D A (mw G a (upd (upd y (18 + i) (y (28 + i))) (8 + i) ((y (8 + i)) + (mpZ y (y (28 + i))))) sp pa st sv pd tl ns ty spt tm) := hD
          refine lv_aload_n hx hb dX4_endNow_141 rfl (lv_at hl 3 rfl) ?_
          refine va_get (D := G.1) (ci := 4) (v := .ref (a 1)) (C := RX4) (T := TX4) (N := 11) hx hb hts hinX4 hown hK.1 hP 0 rfl rfl 0 (by decide) wk1 (fun _ h9 => h9) rfl dX4_endNow_142 ?_
          refine lv_bipush (v := 38) hx hb dX4_endNow_145 (by decide) ?_
          refine lv_iload_n hx hb dX4_endNow_147 rfl (lv_at hl 2 rfl) ?_
          refine lv_iadd hx hb dX4_endNow_148 ?_
          refine qtop (nI_add 38 i) ?_
          refine lv_dup2_11 hx hb dX4_endNow_149 rfl rfl ?_
          refine qild hx hb hK.1 hP 1 0 rfl rfl (k := 38 + i) (nI_clamp (by omega)) (vp_in_nI (by omega) (by decide)) dX4_endNow_150 ?_
          refine lv_iload_n hx hb dX4_endNow_151 rfl (lv_at hl 1 rfl) ?_
          refine lv_iadd hx hb dX4_endNow_152 ?_
          refine lv_topi (fun x_4 hx_4 => ?_)
          refine qist hx hb hK.1 hP hD hS 1 0 rfl rfl (k := 38 + i) (nI_clamp (by omega)) (vp_in_nI (by omega) (by decide)) dX4_endNow_153 (fun H locs hP hD hS => ?_)
          have hP : va_P G.1 vwCl (mw G a (upd (upd (upd y (18 + i) (y (28 + i))) (8 + i) ((y (8 + i)) + (mpZ y (y (28 + i))))) (38 + i) x_4) sp pa st sv pd tl ns ty spt tm) H := hP
          have hD : va_D A (mw G a (upd (upd (upd y (18 + i) (y (28 + i))) (8 + i) ((y (8 + i)) + (mpZ y (y (28 + i))))) (38 + i) x_4) sp pa st sv pd tl ns ty spt tm) := hD
          obtain ⟨z_5, hT_5⟩ : ∃ w₀ : Nat → Int32, w₀ = upd (upd (upd y (18 + i) (y (28 + i))) (8 + i) ((y (8 + i)) + (mpZ y (y (28 + i))))) (38 + i) x_4 := ⟨_, rfl⟩
          have hP : va_P G.1 vwCl (mw G a z_5 sp pa st sv pd tl ns ty spt tm) H := by rw [hT_5]; exact hP
          have hD : va_D A (mw G a z_5 sp pa st sv pd tl ns ty spt tm) := by rw [hT_5]; exact hD
          refine lv_iinc (v := nI (i + 1)) (lv' := [(2, .int (nI (i + 1))), (4, .int ((y (8 + i)) + (mpZ y (y (28 + i))))), (3, .int (mpZ y (y (28 + i)))), (0, .ref (a 0)), (1, .int x)]) hx hb dX4_endNow_154 hl (k := 2) rfl (nI_1 _) (by decide) rfl (fun ls hl => ?_)
          refine lv_goto (tgt := 66) hx hb dX4_endNow_157 (by decide) ?_
          exact ih (i + 1)  z_5 (by omega) (by subst hx_4 hT_5; rw [← hv66]; simp only [ndZ, ndE, ndS, nd1, nd2, nd3, ndB, ndA, ndL, if_pos c_11_1, if_pos c_129_3]) _ _ hP hD hS ls (lv_sub hl [0, 3, 4] rfl)
        · refine lv_sipush (v := 9999) hx hb dX4_endNow_132 (by decide) ?_
          refine lv_goto (tgt := 140) hx hb dX4_endNow_135 (by decide) ?_
          refine qist hx hb hK.1 hP hD hS 1 0 rfl rfl (k := 8 + i) (nI_clamp (by omega)) (vp_in_nI (by omega) (by decide)) dX4_endNow_140 (fun H locs hP hD hS => ?_)
          have hP : va_P G.1 vwCl (mw G a (upd (upd y (18 + i) (y (28 + i))) (8 + i) 9999) sp pa st sv pd tl ns ty spt tm) H := hP
          have hD : va_D A (mw G a (upd (upd y (18 + i) (y (28 + i))) (8 + i) 9999) sp pa st sv pd tl ns ty spt tm) := hD
          refine lv_aload_n hx hb dX4_endNow_141 rfl (lv_at hl 3 rfl) ?_
          refine va_get (D := G.1) (ci := 4) (v := .ref (a 1)) (C := RX4) (T := TX4) (N := 11) hx hb hts hinX4 hown hK.1 hP 0 rfl rfl 0 (by decide) wk1 (fun _ h9 => h9) rfl dX4_endNow_142 ?_
          refine lv_bipush (v := 38) hx hb dX4_endNow_145 (by decide) ?_
          refine lv_iload_n hx hb dX4_endNow_147 rfl (lv_at hl 2 rfl) ?_
          refine lv_iadd hx hb dX4_endNow_148 ?_
          refine qtop (nI_add 38 i) ?_
          refine lv_dup2_11 hx hb dX4_endNow_149 rfl rfl ?_
          refine qild hx hb hK.1 hP 1 0 rfl rfl (k := 38 + i) (nI_clamp (by omega)) (vp_in_nI (by omega) (by decide)) dX4_endNow_150 ?_
          refine lv_iload_n hx hb dX4_endNow_151 rfl (lv_at hl 1 rfl) ?_
          refine lv_iadd hx hb dX4_endNow_152 ?_
          refine lv_topi (fun x_6 hx_6 => ?_)
          refine qist hx hb hK.1 hP hD hS 1 0 rfl rfl (k := 38 + i) (nI_clamp (by omega)) (vp_in_nI (by omega) (by decide)) dX4_endNow_153 (fun H locs hP hD hS => ?_)
          have hP : va_P G.1 vwCl (mw G a (upd (upd (upd y (18 + i) (y (28 + i))) (8 + i) 9999) (38 + i) x_6) sp pa st sv pd tl ns ty spt tm) H := hP
          have hD : va_D A (mw G a (upd (upd (upd y (18 + i) (y (28 + i))) (8 + i) 9999) (38 + i) x_6) sp pa st sv pd tl ns ty spt tm) := hD
          refine lv_iinc (v := nI (i + 1)) (lv' := [(2, .int (nI (i + 1))), (4, .int ((y (8 + i)) + (mpZ y (y (28 + i))))), (3, .int (mpZ y (y (28 + i)))), (0, .ref (a 0)), (1, .int x)]) hx hb dX4_endNow_154 hl (k := 2) rfl (nI_1 _) (by decide) rfl (fun ls hl => ?_)
          refine lv_goto (tgt := 66) hx hb dX4_endNow_157 (by decide) ?_
          exact ih (i + 1)  (upd (upd (upd y (18 + i) (y (28 + i))) (8 + i) 9999) (38 + i) x_6) (by omega) (by subst hx_6; rw [← hv66]; simp only [ndZ, ndE, ndS, nd1, nd2, nd3, ndB, ndA, ndL, if_pos c_11_1, if_neg c_129_3]) _ _ hP hD hS ls (lv_sub hl [0, 3, 4] rfl)
    exact L66 5 0  (upd (upd z (28 + ix x) 0) (43 + ix x) (((upd z (28 + ix x) 0) (43 + ix x)) + 1)) rfl (by simp only [ndZ, ndE, ndS, nd1, nd2, nd3, ndB, ndA, if_pos c_11_1]) _ _ hP hD hS ls (lv_sub hl [0, 1, 2] rfl)
  · refine lv_aload_n hx hb dX4_endNow_14 rfl (lv_at hl 0 rfl) ?_
    refine lv_iload_n hx hb dX4_endNow_15 rfl (lv_at hl 1 rfl) ?_
    refine lv_aload_n hx hb dX4_endNow_16 rfl (lv_at hl 0 rfl) ?_
    refine va_get (D := G.1) (ci := 4) (v := .ref (a 1)) (C := RX4) (T := TX4) (N := 11) hx hb hts hinX4 hown hK.1 hP 0 rfl rfl 0 (by decide) wk1 (fun _ h9 => h9) rfl dX4_endNow_17 ?_
    refine lv_bipush (v := 23) hx hb dX4_endNow_20 (by decide) ?_
    refine lv_iload_n hx hb dX4_endNow_22 rfl (lv_at hl 1 rfl) ?_
    refine lv_iadd hx hb dX4_endNow_23 ?_
    refine qild hx hb hK.1 hP 1 0 rfl rfl (k := 23 + ix x) (ixa (c := 23) (m := 5) (n := 53) rfl (by assumption) (by decide) (by decide)).1 (ixa (c := 23) (m := 5) (n := 53) rfl (by assumption) (by decide) (by decide)).2 dX4_endNow_24 ?_
    refine lv_aload_n hx hb dX4_endNow_25 rfl (lv_at hl 0 rfl) ?_
    refine va_get (D := G.1) (ci := 4) (v := .ref (a 1)) (C := RX4) (T := TX4) (N := 11) hx hb hts hinX4 hown hK.1 hP 0 rfl rfl 0 (by decide) wk1 (fun _ h9 => h9) rfl dX4_endNow_26 ?_
    refine lv_iconst (v := 2) hx hb dX4_endNow_29 (by decide) ?_
    refine qild hx hb hK.1 hP 1 0 rfl rfl (k := 2) rfl (vp_in_nI (n := 2) (by decide) (by decide)) dX4_endNow_30 ?_
    refine lv_imul hx hb dX4_endNow_31 ?_
    refine lv_bipush (v := 99) hx hb dX4_endNow_32 (by decide) ?_
    refine lv_iadd hx hb dX4_endNow_34 ?_
    refine lv_bipush (v := 100) hx hb dX4_endNow_35 (by decide) ?_
    refine lv_idiv hx hb dX4_endNow_37 (by decide) ?_
    refine cAV (As := [.int x, .int ((((z (23 + ix x)) * (z 2)) + 99) / 100)]) (rest := []) ⟨hx, hb, hml, hown, hts⟩ (c_X4_pay l G a z sp pa st sv pd tl ns ty spt tm x ((((z (23 + ix x)) * (z 2)) + 99) / 100) (by assumption) _) (cwV 2 hts gX4_endNow_X4_pay rfl rfl rfl (by decide +kernel) ⟨Nat.le_of_ble_eq_true rfl, Nat.le_of_ble_eq_true rfl⟩) hK hP hD hS hA 0 (ci := 4) rfl rfl rfl rfl rfl hl.1 (Nat.le_of_ble_eq_true rfl) dX4_endNow_38 ⟨Nat.le_of_ble_eq_true rfl, Nat.le_of_ble_eq_true rfl⟩ (fun u_7 H locs hr_7 hP hD hS => ?_)
    have hP : va_P G.1 vwCl (mw G a (pyZ z x ((((z (23 + ix x)) * (z 2)) + 99) / 100)) sp pa st sv pd tl ns ty spt tm) H := hP
    have hD : va_D A (mw G a (pyZ z x ((((z (23 + ix x)) * (z 2)) + 99) / 100)) sp pa st sv pd tl ns ty spt tm) := hD
    refine lv_aload_n hx hb dX4_endNow_41 rfl (lv_at hl 0 rfl) ?_
    refine va_get (D := G.1) (ci := 4) (v := .ref (a 1)) (C := RX4) (T := TX4) (N := 11) hx hb hts hinX4 hown hK.1 hP 0 rfl rfl 0 (by decide) wk1 (fun _ h9 => h9) rfl dX4_endNow_42 ?_
    refine lv_bipush (v := 28) hx hb dX4_endNow_45 (by decide) ?_
    refine lv_iload_n hx hb dX4_endNow_47 rfl (lv_at hl 1 rfl) ?_
    refine lv_iadd hx hb dX4_endNow_48 ?_
    refine lv_iconst (v := 0) hx hb dX4_endNow_49 (by decide) ?_
    refine qist hx hb hK.1 hP hD hS 1 0 rfl rfl (k := 28 + ix x) (ixa (c := 28) (m := 5) (n := 53) rfl (by assumption) (by decide) (by decide)).1 (ixa (c := 28) (m := 5) (n := 53) rfl (by assumption) (by decide) (by decide)).2 dX4_endNow_50 (fun H locs hP hD hS => ?_)
    have hP : va_P G.1 vwCl (mw G a (upd (pyZ z x ((((z (23 + ix x)) * (z 2)) + 99) / 100)) (28 + ix x) 0) sp pa st sv pd tl ns ty spt tm) H := hP
    have hD : va_D A (mw G a (upd (pyZ z x ((((z (23 + ix x)) * (z 2)) + 99) / 100)) (28 + ix x) 0) sp pa st sv pd tl ns ty spt tm) := hD
    refine lv_aload_n hx hb dX4_endNow_51 rfl (lv_at hl 0 rfl) ?_
    refine va_get (D := G.1) (ci := 4) (v := .ref (a 1)) (C := RX4) (T := TX4) (N := 11) hx hb hts hinX4 hown hK.1 hP 0 rfl rfl 0 (by decide) wk1 (fun _ h9 => h9) rfl dX4_endNow_52 ?_
    refine lv_bipush (v := 43) hx hb dX4_endNow_55 (by decide) ?_
    refine lv_iload_n hx hb dX4_endNow_57 rfl (lv_at hl 1 rfl) ?_
    refine lv_iadd hx hb dX4_endNow_58 ?_
    refine lv_dup2_11 hx hb dX4_endNow_59 rfl rfl ?_
    refine qild hx hb hK.1 hP 1 0 rfl rfl (k := 43 + ix x) (ixa (c := 43) (m := 5) (n := 53) rfl (by assumption) (by decide) (by decide)).1 (ixa (c := 43) (m := 5) (n := 53) rfl (by assumption) (by decide) (by decide)).2 dX4_endNow_60 ?_
    refine lv_iconst (v := 1) hx hb dX4_endNow_61 (by decide) ?_
    refine lv_iadd hx hb dX4_endNow_62 ?_
    refine lv_topi (fun x_8 hx_8 => ?_)
    refine qist hx hb hK.1 hP hD hS 1 0 rfl rfl (k := 43 + ix x) (ixa (c := 43) (m := 5) (n := 53) rfl (by assumption) (by decide) (by decide)).1 (ixa (c := 43) (m := 5) (n := 53) rfl (by assumption) (by decide) (by decide)).2 dX4_endNow_63 (fun H locs hP hD hS => ?_)
    have hP : va_P G.1 vwCl (mw G a (upd (upd (pyZ z x ((((z (23 + ix x)) * (z 2)) + 99) / 100)) (28 + ix x) 0) (43 + ix x) x_8) sp pa st sv pd tl ns ty spt tm) H := hP
    have hD : va_D A (mw G a (upd (upd (pyZ z x ((((z (23 + ix x)) * (z 2)) + 99) / 100)) (28 + ix x) 0) (43 + ix x) x_8) sp pa st sv pd tl ns ty spt tm) := hD
    refine lv_iconst (v := 0) hx hb dX4_endNow_64 (by decide) ?_
    refine lv_istore_n (lv' := [(2, .int 0), (0, .ref (a 0)), (1, .int x)]) hx hb dX4_endNow_65 rfl hl (by decide) rfl (fun ls hl => ?_)
    have L66 : ∀ (f i : Nat)  (y : Nat → Int32), i + f = 5 → ndE (ndL f i y) = ndZ z x → ∀ (H : Heap) (locs : List Loc), va_P G.1 vwCl (mw G a y sp pa st sv pd tl ns ty spt tm) H → va_D A (mw G a y sp pa st sv pd tl ns ty spt tm) → va_S A s.heap H locs → ∀ ls : Array Slot, lv_has ls 5 [(2, .int (nI i)), (0, .ref (a 0)), (1, .int x)] → W p l e { frames := 1, cells := 0, slots := 0, locals := 25 } s m ([.ref (a 0), .int x] : List Value).toArray below meth c H locs 0 0 Q (F0 m 66 ls []) := by
      intro f
      induction f with
      | zero =>
        intro i y hi hv66 H locs hP hD hS ls hl
        obtain rfl : i = 5 := by omega
        refine lv_iload_n hx hb dX4_endNow_66 rfl (lv_at hl 0 rfl) ?_
        refine lv_iconst (v := 5) hx hb dX4_endNow_67 (by decide) ?_
        refine lv_icmp_ge (tgt := 160) hx hb dX4_endNow_68 (by decide) (fun _ => ?_) (fun c_9 => absurd (by decide +kernel) c_9)
        refine lv_aload_n hx hb dX4_endNow_160 rfl (lv_at hl 1 rfl) ?_
        refine va_get (D := G.1) (ci := 4) (v := .ref (a 1)) (C := RX4) (T := TX4) (N := 11) hx hb hts hinX4 hown hK.1 hP 0 rfl rfl 0 (by decide) wk1 (fun _ h9 => h9) rfl dX4_endNow_161 ?_
        refine lv_bipush (v := 7) hx hb dX4_endNow_164 (by decide) ?_
        refine lv_dup2_11 hx hb dX4_endNow_166 rfl rfl ?_
        refine qild hx hb hK.1 hP 1 0 rfl rfl (k := 7) rfl (vp_in_nI (n := 7) (by decide) (by decide)) dX4_endNow_167 ?_
        refine lv_iconst (v := 1) hx hb dX4_endNow_168 (by decide) ?_
        refine lv_iadd hx hb dX4_endNow_169 ?_
        refine qist hx hb hK.1 hP hD hS 1 0 rfl rfl (k := 7) rfl (vp_in_nI (n := 7) (by decide) (by decide)) dX4_endNow_170 (fun H locs hP hD hS => ?_)
        have hP : va_P G.1 vwCl (mw G a (upd y 7 ((y 7) + 1)) sp pa st sv pd tl ns ty spt tm) H := hP
        have hD : va_D A (mw G a (upd y 7 ((y 7) + 1)) sp pa st sv pd tl ns ty spt tm) := hD
        refine lv_aload_n hx hb dX4_endNow_171 rfl (lv_at hl 1 rfl) ?_
        refine cAV (As := []) (rest := []) ⟨hx, hb, hml, hown, hts⟩ (c_X4_clearAuction l G a (upd y 7 ((y 7) + 1)) sp pa st sv pd tl ns ty spt tm _) (cwV 0 hts gX4_endNow_X4_clearAuction rfl rfl rfl (by decide +kernel) ⟨Nat.le_of_ble_eq_true rfl, Nat.le_of_ble_eq_true rfl⟩) hK hP hD hS hA 0 (ci := 4) rfl rfl rfl rfl rfl hl.1 (Nat.le_of_ble_eq_true rfl) dX4_endNow_172 ⟨Nat.le_of_ble_eq_true rfl, Nat.le_of_ble_eq_true rfl⟩ (fun u_9 H locs hr_9 hP hD hS => ?_)
        have hP : va_P G.1 vwCl (mw G a (clZ (upd y 7 ((y 7) + 1))) sp pa st sv pd tl ns ty spt tm) H := hP
        have hD : va_D A (mw G a (clZ (upd y 7 ((y 7) + 1))) sp pa st sv pd tl ns ty spt tm) := hD
        have hf0 : (clZ (upd y 7 ((y 7) + 1))) = (ndZ z x) := (by subst hx_8; rw [← hv66]; simp only [ndZ, ndE, ndS, nd1, nd2, nd3, ndB, ndA, ndL, if_neg c_11_1])
        have hP : va_P G.1 vwCl (mw G a (ndZ z x) sp pa st sv pd tl ns ty spt tm) H := by rw [← hf0]; exact hP
        have hD : va_D A (mw G a (ndZ z x) sp pa st sv pd tl ns ty spt tm) := by rw [← hf0]; exact hD
        exact hret _ _ _ _ () trivial hP hD hS dX4_endNow_175
      | succ f ih =>
        intro i y hi hv66 H locs hP hD hS ls hl
        have hlt : i < 5 := by omega
        refine lv_iload_n hx hb dX4_endNow_66 rfl (lv_at hl 0 rfl) ?_
        refine lv_iconst (v := 5) hx hb dX4_endNow_67 (by decide) ?_
        refine lv_icmp_ge (tgt := 160) hx hb dX4_endNow_68 (by decide) (fun c_9 => absurd c_9 (nI_ge (b := 5) hlt (by decide))) (fun _ => ?_)
        refine lv_aload_n hx hb dX4_endNow_71 rfl (lv_at hl 1 rfl) ?_
        refine lv_aload_n hx hb dX4_endNow_72 rfl (lv_at hl 1 rfl) ?_
        refine va_get (D := G.1) (ci := 4) (v := .ref (a 1)) (C := RX4) (T := TX4) (N := 11) hx hb hts hinX4 hown hK.1 hP 0 rfl rfl 0 (by decide) wk1 (fun _ h9 => h9) rfl dX4_endNow_73 ?_
        refine lv_bipush (v := 28) hx hb dX4_endNow_76 (by decide) ?_
        refine lv_iload_n hx hb dX4_endNow_78 rfl (lv_at hl 0 rfl) ?_
        refine lv_iadd hx hb dX4_endNow_79 ?_
        refine qtop (nI_add 28 i) ?_
        refine qild hx hb hK.1 hP 1 0 rfl rfl (k := 28 + i) (nI_clamp (by omega)) (vp_in_nI (by omega) (by decide)) dX4_endNow_80 ?_
        refine cPV (As := [.int (y (28 + i))]) (rest := []) ⟨hx, hb, hml, hown, hts⟩ (c_X4_prizeAt l G a y sp pa st sv pd tl ns ty spt tm (y (28 + i))) (cwV 1 hts gX4_endNow_X4_prizeAt rfl rfl rfl (by decide +kernel) ⟨Nat.le_of_ble_eq_true rfl, Nat.le_of_ble_eq_true rfl⟩) hK hP 0 (ci := 4) rfl rfl rfl rfl rfl hl.1 (Nat.le_of_ble_eq_true rfl) dX4_endNow_81 ⟨Nat.le_of_ble_eq_true rfl, Nat.le_of_ble_eq_true rfl⟩ ?_
        refine lv_istore_n (lv' := [(3, .int (mpZ y (y (28 + i)))), (2, .int (nI i)), (0, .ref (a 0)), (1, .int x)]) hx hb dX4_endNow_84 rfl hl (by decide) rfl (fun ls hl => ?_)
        refine lv_aload_n hx hb dX4_endNow_85 rfl (lv_at hl 2 rfl) ?_
        refine va_get (D := G.1) (ci := 4) (v := .ref (a 1)) (C := RX4) (T := TX4) (N := 11) hx hb hts hinX4 hown hK.1 hP 0 rfl rfl 0 (by decide) wk1 (fun _ h9 => h9) rfl dX4_endNow_86 ?_
        refine lv_bipush (v := 8) hx hb dX4_endNow_89 (by decide) ?_
        refine lv_iload_n hx hb dX4_endNow_91 rfl (lv_at hl 1 rfl) ?_
        refine lv_iadd hx hb dX4_endNow_92 ?_
        refine qtop (nI_add 8 i) ?_
        refine qild hx hb hK.1 hP 1 0 rfl rfl (k := 8 + i) (nI_clamp (by omega)) (vp_in_nI (by omega) (by decide)) dX4_endNow_93 ?_
        refine lv_iload_n hx hb dX4_endNow_94 rfl (lv_at hl 0 rfl) ?_
        refine lv_iadd hx hb dX4_endNow_95 ?_
        refine lv_istore (lv' := [(4, .int ((y (8 + i)) + (mpZ y (y (28 + i))))), (3, .int (mpZ y (y (28 + i)))), (2, .int (nI i)), (0, .ref (a 0)), (1, .int x)]) hx hb dX4_endNow_96 hl (by decide) rfl (fun ls hl => ?_)
        refine lv_aload_n hx hb dX4_endNow_98 rfl (lv_at hl 3 rfl) ?_
        refine va_get (D := G.1) (ci := 4) (v := .ref (a 1)) (C := RX4) (T := TX4) (N := 11) hx hb hts hinX4 hown hK.1 hP 0 rfl rfl 0 (by decide) wk1 (fun _ h9 => h9) rfl dX4_endNow_99 ?_
        refine lv_bipush (v := 18) hx hb dX4_endNow_102 (by decide) ?_
        refine lv_iload_n hx hb dX4_endNow_104 rfl (lv_at hl 2 rfl) ?_
        refine lv_iadd hx hb dX4_endNow_105 ?_
        refine qtop (nI_add 18 i) ?_
        refine lv_aload_n hx hb dX4_endNow_106 rfl (lv_at hl 3 rfl) ?_
        refine va_get (D := G.1) (ci := 4) (v := .ref (a 1)) (C := RX4) (T := TX4) (N := 11) hx hb hts hinX4 hown hK.1 hP 0 rfl rfl 0 (by decide) wk1 (fun _ h9 => h9) rfl dX4_endNow_107 ?_
        refine lv_bipush (v := 28) hx hb dX4_endNow_110 (by decide) ?_
        refine lv_iload_n hx hb dX4_endNow_112 rfl (lv_at hl 2 rfl) ?_
        refine lv_iadd hx hb dX4_endNow_113 ?_
        refine qtop (nI_add 28 i) ?_
        refine qild hx hb hK.1 hP 1 0 rfl rfl (k := 28 + i) (nI_clamp (by omega)) (vp_in_nI (by omega) (by decide)) dX4_endNow_114 ?_
        refine qist hx hb hK.1 hP hD hS 1 0 rfl rfl (k := 18 + i) (nI_clamp (by omega)) (vp_in_nI (by omega) (by decide)) dX4_endNow_115 (fun H locs hP hD hS => ?_)
        have hP : va_P G.1 vwCl (mw G a (upd y (18 + i) (y (28 + i))) sp pa st sv pd tl ns ty spt tm) H := hP
        have hD : va_D A (mw G a (upd y (18 + i) (y (28 + i))) sp pa st sv pd tl ns ty spt tm) := hD
        refine lv_aload_n hx hb dX4_endNow_116 rfl (lv_at hl 3 rfl) ?_
        refine va_get (D := G.1) (ci := 4) (v := .ref (a 1)) (C := RX4) (T := TX4) (N := 11) hx hb hts hinX4 hown hK.1 hP 0 rfl rfl 0 (by decide) wk1 (fun _ h9 => h9) rfl dX4_endNow_117 ?_
        refine lv_bipush (v := 8) hx hb dX4_endNow_120 (by decide) ?_
        refine lv_iload_n hx hb dX4_endNow_122 rfl (lv_at hl 2 rfl) ?_
        refine lv_iadd hx hb dX4_endNow_123 ?_
        refine qtop (nI_add 8 i) ?_
        refine lv_iload hx hb dX4_endNow_124 (lv_at hl 0 rfl) ?_
        refine lv_sipush (v := 9999) hx hb dX4_endNow_126 (by decide) ?_
        refine lv_icmp_le (tgt := 138) hx hb dX4_endNow_129 (by decide) (fun c_129_10 => ?_) (fun c_129_10 => ?_)
        · refine lv_iload hx hb dX4_endNow_138 (lv_at hl 0 rfl) ?_
          refine qist hx hb hK.1 hP hD hS 1 0 rfl rfl (k := 8 + i) (nI_clamp (by omega)) (vp_in_nI (by omega) (by decide)) dX4_endNow_140 (fun H locs hP hD hS => ?_)
          have hP : va_P G.1 vwCl (mw G a (upd (upd y (18 + i) (y (28 + i))) (8 + i) ((y (8 + i)) + (mpZ y (y (28 + i))))) sp pa st sv pd tl ns ty spt tm) H := hP
          have hD : va_D A (mw G a (upd (upd y (18 + i) (y (28 + i))) (8 + i) ((y (8 + i)) + (mpZ y (y (28 + i))))) sp pa st sv pd tl ns ty spt tm) := hD
          refine lv_aload_n hx hb dX4_endNow_141 rfl (lv_at hl 3 rfl) ?_
          refine va_get (D := G.1) (ci := 4) (v := .ref (a 1)) (C := RX4) (T := TX4) (N := 11) hx hb hts hinX4 hown hK.1 hP 0 rfl rfl 0 (by decide) wk1 (fun _ h9 => h9) rfl dX4_endNow_142 ?_
          refine lv_bipush (v := 38) hx hb dX4_endNow_145 (by decide) ?_
          refine lv_iload_n hx hb dX4_endNow_147 rfl (lv_at hl 2 rfl) ?_
          refine lv_iadd hx hb dX4_endNow_148 ?_
          refine qtop (nI_add 38 i) ?_
          refine lv_dup2_11 hx hb dX4_endNow_149 rfl rfl ?_
          refine qild hx hb hK.1 hP 1 0 rfl rfl (k := 38 + i) (nI_clamp (by omega)) (vp_in_nI (by omega) (by decide)) dX4_endNow_150 ?_
          refine lv_iload_n hx hb dX4_endNow_151 rfl (lv_at hl 1 rfl) ?_
          refine lv_iadd hx hb dX4_endNow_152 ?_
          refine lv_topi (fun x_11 hx_11 => ?_)
          refine qist hx hb hK.1 hP hD hS 1 0 rfl rfl (k := 38 + i) (nI_clamp (by omega)) (vp_in_nI (by omega) (by decide)) dX4_endNow_153 (fun H locs hP hD hS => ?_)
          have hP : va_P G.1 vwCl (mw G a (upd (upd (upd y (18 + i) (y (28 + i))) (8 + i) ((y (8 + i)) + (mpZ y (y (28 + i))))) (38 + i) x_11) sp pa st sv pd tl ns ty spt tm) H := hP
          have hD : va_D A (mw G a (upd (upd (upd y (18 + i) (y (28 + i))) (8 + i) ((y (8 + i)) + (mpZ y (y (28 + i))))) (38 + i) x_11) sp pa st sv pd tl ns ty spt tm) := hD
          obtain ⟨z_12, hT_12⟩ : ∃ w₀ : Nat → Int32, w₀ = upd (upd (upd y (18 + i) (y (28 + i))) (8 + i) ((y (8 + i)) + (mpZ y (y (28 + i))))) (38 + i) x_11 := ⟨_, rfl⟩
          have hP : va_P G.1 vwCl (mw G a z_12 sp pa st sv pd tl ns ty spt tm) H := by rw [hT_12]; exact hP
          have hD : va_D A (mw G a z_12 sp pa st sv pd tl ns ty spt tm) := by rw [hT_12]; exact hD
          refine lv_iinc (v := nI (i + 1)) (lv' := [(2, .int (nI (i + 1))), (4, .int ((y (8 + i)) + (mpZ y (y (28 + i))))), (3, .int (mpZ y (y (28 + i)))), (0, .ref (a 0)), (1, .int x)]) hx hb dX4_endNow_154 hl (k := 2) rfl (nI_1 _) (by decide) rfl (fun ls hl => ?_)
          refine lv_goto (tgt := 66) hx hb dX4_endNow_157 (by decide) ?_
          exact ih (i + 1)  z_12 (by omega) (by subst hx_8 hx_11 hT_12; rw [← hv66]; simp only [ndZ, ndE, ndS, nd1, nd2, nd3, ndB, ndA, ndL, if_neg c_11_1, if_pos c_129_10]) _ _ hP hD hS ls (lv_sub hl [0, 3, 4] rfl)
        · refine lv_sipush (v := 9999) hx hb dX4_endNow_132 (by decide) ?_
          refine lv_goto (tgt := 140) hx hb dX4_endNow_135 (by decide) ?_
          refine qist hx hb hK.1 hP hD hS 1 0 rfl rfl (k := 8 + i) (nI_clamp (by omega)) (vp_in_nI (by omega) (by decide)) dX4_endNow_140 (fun H locs hP hD hS => ?_)
          have hP : va_P G.1 vwCl (mw G a (upd (upd y (18 + i) (y (28 + i))) (8 + i) 9999) sp pa st sv pd tl ns ty spt tm) H := hP
          have hD : va_D A (mw G a (upd (upd y (18 + i) (y (28 + i))) (8 + i) 9999) sp pa st sv pd tl ns ty spt tm) := hD
          refine lv_aload_n hx hb dX4_endNow_141 rfl (lv_at hl 3 rfl) ?_
          refine va_get (D := G.1) (ci := 4) (v := .ref (a 1)) (C := RX4) (T := TX4) (N := 11) hx hb hts hinX4 hown hK.1 hP 0 rfl rfl 0 (by decide) wk1 (fun _ h9 => h9) rfl dX4_endNow_142 ?_
          refine lv_bipush (v := 38) hx hb dX4_endNow_145 (by decide) ?_
          refine lv_iload_n hx hb dX4_endNow_147 rfl (lv_at hl 2 rfl) ?_
          refine lv_iadd hx hb dX4_endNow_148 ?_
          refine qtop (nI_add 38 i) ?_
          refine lv_dup2_11 hx hb dX4_endNow_149 rfl rfl ?_
          refine qild hx hb hK.1 hP 1 0 rfl rfl (k := 38 + i) (nI_clamp (by omega)) (vp_in_nI (by omega) (by decide)) dX4_endNow_150 ?_
          refine lv_iload_n hx hb dX4_endNow_151 rfl (lv_at hl 1 rfl) ?_
          refine lv_iadd hx hb dX4_endNow_152 ?_
          refine lv_topi (fun x_13 hx_13 => ?_)
          refine qist hx hb hK.1 hP hD hS 1 0 rfl rfl (k := 38 + i) (nI_clamp (by omega)) (vp_in_nI (by omega) (by decide)) dX4_endNow_153 (fun H locs hP hD hS => ?_)
          have hP : va_P G.1 vwCl (mw G a (upd (upd (upd y (18 + i) (y (28 + i))) (8 + i) 9999) (38 + i) x_13) sp pa st sv pd tl ns ty spt tm) H := hP
          have hD : va_D A (mw G a (upd (upd (upd y (18 + i) (y (28 + i))) (8 + i) 9999) (38 + i) x_13) sp pa st sv pd tl ns ty spt tm) := hD
          refine lv_iinc (v := nI (i + 1)) (lv' := [(2, .int (nI (i + 1))), (4, .int ((y (8 + i)) + (mpZ y (y (28 + i))))), (3, .int (mpZ y (y (28 + i)))), (0, .ref (a 0)), (1, .int x)]) hx hb dX4_endNow_154 hl (k := 2) rfl (nI_1 _) (by decide) rfl (fun ls hl => ?_)
          refine lv_goto (tgt := 66) hx hb dX4_endNow_157 (by decide) ?_
          exact ih (i + 1)  (upd (upd (upd y (18 + i) (y (28 + i))) (8 + i) 9999) (38 + i) x_13) (by omega) (by subst hx_8 hx_13; rw [← hv66]; simp only [ndZ, ndE, ndS, nd1, nd2, nd3, ndB, ndA, ndL, if_neg c_11_1, if_neg c_129_10]) _ _ hP hD hS ls (lv_sub hl [0, 3, 4] rfl)
    exact L66 5 0  (upd (upd (pyZ z x ((((z (23 + ix x)) * (z 2)) + 99) / 100)) (28 + ix x) 0) (43 + ix x) x_8) rfl (by subst hx_8; simp only [ndZ, ndE, ndS, nd1, nd2, nd3, ndB, ndA, if_neg c_11_1]) _ _ hP hD hS ls (lv_sub hl [0, 1, 2] rfl)
