/-! CONTRACTS of the class's Table, and of what it calls (laid by wip/whole/gen/tab.py) -/
set_option maxHeartbeats 4000000 in
set_option maxRecDepth 100000 in
theorem c_X3_isPlayer (l : Launch) (G : qG) (x : Int32) : MP l yX3_isPlayer wsX3_isPlayer 0 0 G [.int x] ([]) (isPb x) := by
  refine MP.of (ty := .boolean) (by decide) rfl (Nat.le_of_ble_eq_true rfl) (isPb_nar x) ?_
  intro p e s m below meth c hx hb hml hown hts hK hP Q hret ls hl
  have hown : s.vm.findClass RX3 = some m.cls := hown
  have hl : lv_has ls 1 [(0, .int x)] := hl
  refine lv_iload_n hx hb dX3_isPlayer_0 rfl (lv_at hl 0 rfl) ?_
  refine lv_if_lt (tgt := 13) hx hb dX3_isPlayer_1 (by decide) (fun c_1_1 => ?_) (fun c_1_1 => ?_)
  · refine lv_iconst (v := 0) hx hb dX3_isPlayer_13 (by decide) ?_
    exact hret _ _ _ (by simp only [isPb, if_pos c_1_1]) dX3_isPlayer_14
  · refine lv_iload_n hx hb dX3_isPlayer_4 rfl (lv_at hl 0 rfl) ?_
    refine lv_iconst (v := 5) hx hb dX3_isPlayer_5 (by decide) ?_
    refine lv_icmp_ge (tgt := 13) hx hb dX3_isPlayer_6 (by decide) (fun c_6_2 => ?_) (fun c_6_2 => ?_)
    · refine lv_iconst (v := 0) hx hb dX3_isPlayer_13 (by decide) ?_
      exact hret _ _ _ (by simp only [isPb, if_neg c_1_1, if_pos c_6_2]) dX3_isPlayer_14
    · refine lv_iconst (v := 1) hx hb dX3_isPlayer_9 (by decide) ?_
      refine lv_goto (tgt := 14) hx hb dX3_isPlayer_10 (by decide) ?_
      exact hret _ _ _ (by simp only [isPb, if_neg c_1_1, if_neg c_6_2]) dX3_isPlayer_14
set_option maxHeartbeats 4000000 in
set_option maxRecDepth 100000 in
theorem c_X3_isPrize (l : Launch) (G : qG) (x : Int32) : MP l yX3_isPrize wsX3_isPrize 0 0 G [.int x] ([]) (isPb x) := by
  refine MP.of (ty := .boolean) (by decide) rfl (Nat.le_of_ble_eq_true rfl) (isPb_nar x) ?_
  intro p e s m below meth c hx hb hml hown hts hK hP Q hret ls hl
  have hown : s.vm.findClass RX3 = some m.cls := hown
  have hl : lv_has ls 1 [(0, .int x)] := hl
  refine lv_iload_n hx hb dX3_isPrize_0 rfl (lv_at hl 0 rfl) ?_
  refine lv_if_lt (tgt := 13) hx hb dX3_isPrize_1 (by decide) (fun c_1_1 => ?_) (fun c_1_1 => ?_)
  · refine lv_iconst (v := 0) hx hb dX3_isPrize_13 (by decide) ?_
    exact hret _ _ _ (by simp only [isPb, if_pos c_1_1]) dX3_isPrize_14
  · refine lv_iload_n hx hb dX3_isPrize_4 rfl (lv_at hl 0 rfl) ?_
    refine lv_iconst (v := 5) hx hb dX3_isPrize_5 (by decide) ?_
    refine lv_icmp_ge (tgt := 13) hx hb dX3_isPrize_6 (by decide) (fun c_6_2 => ?_) (fun c_6_2 => ?_)
    · refine lv_iconst (v := 0) hx hb dX3_isPrize_13 (by decide) ?_
      exact hret _ _ _ (by simp only [isPb, if_neg c_1_1, if_pos c_6_2]) dX3_isPrize_14
    · refine lv_iconst (v := 1) hx hb dX3_isPrize_9 (by decide) ?_
      refine lv_goto (tgt := 14) hx hb dX3_isPrize_10 (by decide) ?_
      exact hret _ _ _ (by simp only [isPb, if_neg c_1_1, if_neg c_6_2]) dX3_isPrize_14
set_option maxHeartbeats 4000000 in
set_option maxRecDepth 100000 in
theorem c_J6_bitCount_0f7a4 (l : Launch) (G : qG) (x : Int32) : MP l yJ6_bitCount_0f7a4 wsJ6_bitCount_0f7a4 0 0 G [.int x] ([]) (bitC x) := by
  refine MP.of (ty := .int) (by decide) rfl (Nat.le_of_ble_eq_true rfl) rfl ?_
  intro p e s m below meth c hx hb hml hown hts hK hP Q hret ls hl
  have hown : s.vm.findClass RJ6 = some m.cls := hown
  have hl : lv_has ls 1 [(0, .int x)] := hl
  have wk1 := hts (Cond.constant RJ6 265 (1431655765)) (List.mem_of_getElem? (i := 1) rfl)
  have wk2 := hts (Cond.constant RJ6 266 (858993459)) (List.mem_of_getElem? (i := 2) rfl)
  have wk3 := hts (Cond.constant RJ6 267 (252645135)) (List.mem_of_getElem? (i := 3) rfl)
  refine lv_iload_n hx hb dJ6_bitCount_0f7a4_0 rfl (lv_at hl 0 rfl) ?_
  refine lv_iload_n hx hb dJ6_bitCount_0f7a4_1 rfl (lv_at hl 0 rfl) ?_
  refine lv_iconst (v := 1) hx hb dJ6_bitCount_0f7a4_2 (by decide) ?_
  refine lv_iushr (v := ush x 1) hx hb dJ6_bitCount_0f7a4_3 rfl ?_
  refine lv_ldcw (v := 1431655765) hx hb hown wk1 dJ6_bitCount_0f7a4_4 ?_
  refine lv_iand hx hb dJ6_bitCount_0f7a4_7 ?_
  refine lv_isub hx hb dJ6_bitCount_0f7a4_8 ?_
  refine lv_istore_n (lv' := [(0, .int (x - ((ush x 1) &&& 1431655765)))]) hx hb dJ6_bitCount_0f7a4_9 rfl hl (by decide) rfl (fun ls hl => ?_)
  refine lv_iload_n hx hb dJ6_bitCount_0f7a4_10 rfl (lv_at hl 0 rfl) ?_
  refine lv_ldcw (v := 858993459) hx hb hown wk2 dJ6_bitCount_0f7a4_11 ?_
  refine lv_iand hx hb dJ6_bitCount_0f7a4_14 ?_
  refine lv_iload_n hx hb dJ6_bitCount_0f7a4_15 rfl (lv_at hl 0 rfl) ?_
  refine lv_iconst (v := 2) hx hb dJ6_bitCount_0f7a4_16 (by decide) ?_
  refine lv_iushr (v := ush (x - ((ush x 1) &&& 1431655765)) 2) hx hb dJ6_bitCount_0f7a4_17 rfl ?_
  refine lv_ldcw (v := 858993459) hx hb hown wk2 dJ6_bitCount_0f7a4_18 ?_
  refine lv_iand hx hb dJ6_bitCount_0f7a4_21 ?_
  refine lv_iadd hx hb dJ6_bitCount_0f7a4_22 ?_
  refine lv_istore_n (lv' := [(0, .int (((x - ((ush x 1) &&& 1431655765)) &&& 858993459) + ((ush (x - ((ush x 1) &&& 1431655765)) 2) &&& 858993459)))]) hx hb dJ6_bitCount_0f7a4_23 rfl hl (by decide) rfl (fun ls hl => ?_)
  refine lv_iload_n hx hb dJ6_bitCount_0f7a4_24 rfl (lv_at hl 0 rfl) ?_
  refine lv_iload_n hx hb dJ6_bitCount_0f7a4_25 rfl (lv_at hl 0 rfl) ?_
  refine lv_iconst (v := 4) hx hb dJ6_bitCount_0f7a4_26 (by decide) ?_
  refine lv_iushr (v := ush (((x - ((ush x 1) &&& 1431655765)) &&& 858993459) + ((ush (x - ((ush x 1) &&& 1431655765)) 2) &&& 858993459)) 4) hx hb dJ6_bitCount_0f7a4_27 rfl ?_
  refine lv_iadd hx hb dJ6_bitCount_0f7a4_28 ?_
  refine lv_ldcw (v := 252645135) hx hb hown wk3 dJ6_bitCount_0f7a4_29 ?_
  refine lv_iand hx hb dJ6_bitCount_0f7a4_32 ?_
  refine lv_istore_n (lv' := [(0, .int (((((x - ((ush x 1) &&& 1431655765)) &&& 858993459) + ((ush (x - ((ush x 1) &&& 1431655765)) 2) &&& 858993459)) + (ush (((x - ((ush x 1) &&& 1431655765)) &&& 858993459) + ((ush (x - ((ush x 1) &&& 1431655765)) 2) &&& 858993459)) 4)) &&& 252645135))]) hx hb dJ6_bitCount_0f7a4_33 rfl hl (by decide) rfl (fun ls hl => ?_)
  refine lv_iload_n hx hb dJ6_bitCount_0f7a4_34 rfl (lv_at hl 0 rfl) ?_
  refine lv_iload_n hx hb dJ6_bitCount_0f7a4_35 rfl (lv_at hl 0 rfl) ?_
  refine lv_bipush (v := 8) hx hb dJ6_bitCount_0f7a4_36 (by decide) ?_
  refine lv_iushr (v := ush (((((x - ((ush x 1) &&& 1431655765)) &&& 858993459) + ((ush (x - ((ush x 1) &&& 1431655765)) 2) &&& 858993459)) + (ush (((x - ((ush x 1) &&& 1431655765)) &&& 858993459) + ((ush (x - ((ush x 1) &&& 1431655765)) 2) &&& 858993459)) 4)) &&& 252645135) 8) hx hb dJ6_bitCount_0f7a4_38 rfl ?_
  refine lv_iadd hx hb dJ6_bitCount_0f7a4_39 ?_
  refine lv_istore_n (lv' := [(0, .int ((((((x - ((ush x 1) &&& 1431655765)) &&& 858993459) + ((ush (x - ((ush x 1) &&& 1431655765)) 2) &&& 858993459)) + (ush (((x - ((ush x 1) &&& 1431655765)) &&& 858993459) + ((ush (x - ((ush x 1) &&& 1431655765)) 2) &&& 858993459)) 4)) &&& 252645135) + (ush (((((x - ((ush x 1) &&& 1431655765)) &&& 858993459) + ((ush (x - ((ush x 1) &&& 1431655765)) 2) &&& 858993459)) + (ush (((x - ((ush x 1) &&& 1431655765)) &&& 858993459) + ((ush (x - ((ush x 1) &&& 1431655765)) 2) &&& 858993459)) 4)) &&& 252645135) 8)))]) hx hb dJ6_bitCount_0f7a4_40 rfl hl (by decide) rfl (fun ls hl => ?_)
  refine lv_iload_n hx hb dJ6_bitCount_0f7a4_41 rfl (lv_at hl 0 rfl) ?_
  refine lv_iload_n hx hb dJ6_bitCount_0f7a4_42 rfl (lv_at hl 0 rfl) ?_
  refine lv_bipush (v := 16) hx hb dJ6_bitCount_0f7a4_43 (by decide) ?_
  refine lv_iushr (v := ush ((((((x - ((ush x 1) &&& 1431655765)) &&& 858993459) + ((ush (x - ((ush x 1) &&& 1431655765)) 2) &&& 858993459)) + (ush (((x - ((ush x 1) &&& 1431655765)) &&& 858993459) + ((ush (x - ((ush x 1) &&& 1431655765)) 2) &&& 858993459)) 4)) &&& 252645135) + (ush (((((x - ((ush x 1) &&& 1431655765)) &&& 858993459) + ((ush (x - ((ush x 1) &&& 1431655765)) 2) &&& 858993459)) + (ush (((x - ((ush x 1) &&& 1431655765)) &&& 858993459) + ((ush (x - ((ush x 1) &&& 1431655765)) 2) &&& 858993459)) 4)) &&& 252645135) 8)) 16) hx hb dJ6_bitCount_0f7a4_45 rfl ?_
  refine lv_iadd hx hb dJ6_bitCount_0f7a4_46 ?_
  refine lv_istore_n (lv' := [(0, .int (((((((x - ((ush x 1) &&& 1431655765)) &&& 858993459) + ((ush (x - ((ush x 1) &&& 1431655765)) 2) &&& 858993459)) + (ush (((x - ((ush x 1) &&& 1431655765)) &&& 858993459) + ((ush (x - ((ush x 1) &&& 1431655765)) 2) &&& 858993459)) 4)) &&& 252645135) + (ush (((((x - ((ush x 1) &&& 1431655765)) &&& 858993459) + ((ush (x - ((ush x 1) &&& 1431655765)) 2) &&& 858993459)) + (ush (((x - ((ush x 1) &&& 1431655765)) &&& 858993459) + ((ush (x - ((ush x 1) &&& 1431655765)) 2) &&& 858993459)) 4)) &&& 252645135) 8)) + (ush ((((((x - ((ush x 1) &&& 1431655765)) &&& 858993459) + ((ush (x - ((ush x 1) &&& 1431655765)) 2) &&& 858993459)) + (ush (((x - ((ush x 1) &&& 1431655765)) &&& 858993459) + ((ush (x - ((ush x 1) &&& 1431655765)) 2) &&& 858993459)) 4)) &&& 252645135) + (ush (((((x - ((ush x 1) &&& 1431655765)) &&& 858993459) + ((ush (x - ((ush x 1) &&& 1431655765)) 2) &&& 858993459)) + (ush (((x - ((ush x 1) &&& 1431655765)) &&& 858993459) + ((ush (x - ((ush x 1) &&& 1431655765)) 2) &&& 858993459)) 4)) &&& 252645135) 8)) 16)))]) hx hb dJ6_bitCount_0f7a4_47 rfl hl (by decide) rfl (fun ls hl => ?_)
  refine lv_iload_n hx hb dJ6_bitCount_0f7a4_48 rfl (lv_at hl 0 rfl) ?_
  refine lv_bipush (v := 63) hx hb dJ6_bitCount_0f7a4_49 (by decide) ?_
  refine lv_iand hx hb dJ6_bitCount_0f7a4_51 ?_
  exact hret _ _ _ (by rfl) dJ6_bitCount_0f7a4_52
set_option maxHeartbeats 4000000 in
set_option maxRecDepth 100000 in
theorem c_X2_playerAt (l : Launch) (G : qG) (a : Nat → Nat) (T : Tb) (x : Int32) : MP l yX2_playerAt wsX2_playerAt 0 0 G [.ref (a 0), .int x] (tw G a T) (pAt (T 4) x) := by
  refine MP.of (ty := .int) (by decide) rfl (Nat.le_of_ble_eq_true rfl) rfl ?_
  intro p e s m below meth c hx hb hml hown hts hK hP Q hret ls hl
  have hown : s.vm.findClass RX2 = some m.cls := hown
  have hl : lv_has ls 3 [(0, .ref (a 0)), (1, .int x)] := hl
  have wk1 := hts (Cond.fieldLink RX2 24 "TurnBids$Table" "places" "[I") (List.mem_of_getElem? (i := 1) rfl)
  have wk2 := hts (Cond.constant RX2 27 (-100006)) (List.mem_of_getElem? (i := 2) rfl)
  have hinX2 : ∀ w ∈ wsX20, w ∈ wsX2_playerAt := fun _ h => (List.mem_cons_of_mem _ (List.mem_append_right _ h))
  refine lv_iconst (v := 0) hx hb dX2_playerAt_0 (by decide) ?_
  refine lv_istore_n (lv' := [(2, .int 0), (0, .ref (a 0)), (1, .int x)]) hx hb dX2_playerAt_1 rfl hl (by decide) rfl (fun ls hl => ?_)
  have L2 : ∀ (f i : Nat), i + f = 5 → pAtL (T 4) x f i = pAt (T 4) x → ∀ ls : Array Slot, lv_has ls 3 [(2, .int (nI i)), (0, .ref (a 0)), (1, .int x)] → W p l e { frames := 0, cells := 0, slots := 0, locals := 0 } s m ([.ref (a 0), .int x] : List Value).toArray below meth c s.heap [] 0 0 Q (F0 m 2 ls []) := by
    intro f
    induction f with
    | zero =>
      intro i  hi hv2 ls hl
      obtain rfl : i = 5 := by omega
      refine lv_iload_n hx hb dX2_playerAt_2 rfl (lv_at hl 0 rfl) ?_
      refine lv_iconst (v := 5) hx hb dX2_playerAt_3 (by decide) ?_
      refine lv_icmp_ge (tgt := 25) hx hb dX2_playerAt_4 (by decide) (fun _ => ?_) (fun c_9 => absurd (by decide +kernel) c_9)
      refine lv_ldc (v := (-100006)) hx hb hown wk2 dX2_playerAt_25 ?_
      exact hret _ _ _ (by rw [← hv2]; simp only [pAt, pAtL]) dX2_playerAt_27
    | succ f ih =>
      intro i  hi hv2 ls hl
      have hlt : i < 5 := by omega
      refine lv_iload_n hx hb dX2_playerAt_2 rfl (lv_at hl 0 rfl) ?_
      refine lv_iconst (v := 5) hx hb dX2_playerAt_3 (by decide) ?_
      refine lv_icmp_ge (tgt := 25) hx hb dX2_playerAt_4 (by decide) (fun c_9 => absurd c_9 (nI_ge (b := 5) hlt (by decide))) (fun _ => ?_)
      refine lv_aload_n hx hb dX2_playerAt_7 rfl (lv_at hl 1 rfl) ?_
      refine va_get (D := G.1) (ci := 2) (v := .ref (a 5)) (C := RX2) (T := TX2) (N := 13) hx hb hts hinX2 hown hK.1 hP 0 rfl rfl 4 (by decide) wk1 (fun _ h9 => h9) rfl dX2_playerAt_8 ?_
      refine lv_iload_n hx hb dX2_playerAt_11 rfl (lv_at hl 0 rfl) ?_
      refine qild hx hb hK.1 hP 5 0 rfl rfl (k := i) (nI_clamp (by omega)) (vp_in_nI (by omega) (by decide)) dX2_playerAt_12 ?_
      refine lv_iload_n hx hb dX2_playerAt_13 rfl (lv_at hl 2 rfl) ?_
      refine lv_icmp_ne (tgt := 19) hx hb dX2_playerAt_14 (by decide) (fun c_14_1 => ?_) (fun c_14_1 => ?_)
      · refine lv_iinc (v := nI (i + 1)) (lv' := [(2, .int (nI (i + 1))), (0, .ref (a 0)), (1, .int x)]) hx hb dX2_playerAt_19 hl (k := 0) rfl (nI_1 _) (by decide) rfl (fun ls hl => ?_)
        refine lv_goto (tgt := 2) hx hb dX2_playerAt_22 (by decide) ?_
        exact ih (i + 1)  (by omega) (by rw [← hv2]; simp only [pAt, pAtL, if_neg c_14_1]) ls (lv_sub hl [0, 1, 2] rfl)
      · refine lv_iload_n hx hb dX2_playerAt_17 rfl (lv_at hl 0 rfl) ?_
        exact hret _ _ _ (by rw [← hv2]; simp only [pAt, pAtL, if_pos c_14_1]) dX2_playerAt_18
  exact L2 5 0  rfl (by simp only [pAt]) ls (lv_sub hl [0, 1, 2] rfl)
set_option maxHeartbeats 4000000 in
set_option maxRecDepth 100000 in
theorem c_X2_playersLeft (l : Launch) (G : qG) (a : Nat → Nat) (T : Tb)  : MP l yX2_playersLeft wsX2_playersLeft 0 0 G [.ref (a 0)] (tw G a T) (plB T) := by
  refine MP.of (ty := .int) (by decide) rfl (Nat.le_of_ble_eq_true rfl) rfl ?_
  intro p e s m below meth c hx hb hml hown hts hK hP Q hret ls hl
  have hown : s.vm.findClass RX2 = some m.cls := hown
  have hl : lv_has ls 3 [(0, .ref (a 0))] := hl
  have wk1 := hts (Cond.fieldLink RX2 43 "TurnBids$Table" "underWay" "Z") (List.mem_of_getElem? (i := 1) rfl)
  have wk2 := hts (Cond.fieldLink RX2 31 "TurnBids$Table" "placesGot" "[I") (List.mem_of_getElem? (i := 2) rfl)
  have wk3 := hts (Cond.constant RX2 27 (-100006)) (List.mem_of_getElem? (i := 3) rfl)
  have hinX2 : ∀ w ∈ wsX20, w ∈ wsX2_playersLeft := fun _ h => (List.mem_cons_of_mem _ (List.mem_append_right _ h))
  refine lv_aload_n hx hb dX2_playersLeft_0 rfl (lv_at hl 0 rfl) ?_
  refine va_get (D := G.1) (ci := 2) (v := .int (T 10 0)) (C := RX2) (T := TX2) (N := 13) hx hb hts hinX2 hown hK.1 hP 0 rfl rfl 10 (by decide) wk1 (fun _ h9 => h9) rfl dX2_playersLeft_1 ?_
  refine lv_if_ne (tgt := 9) hx hb dX2_playersLeft_4 (by decide) (fun c_4_1 => ?_) (fun c_4_1 => ?_)
  · refine lv_iconst (v := 0) hx hb dX2_playersLeft_9 (by decide) ?_
    refine lv_istore_n (lv' := [(1, .int 0), (0, .ref (a 0))]) hx hb dX2_playersLeft_10 rfl hl (by decide) rfl (fun ls hl => ?_)
    refine lv_iconst (v := 0) hx hb dX2_playersLeft_11 (by decide) ?_
    refine lv_istore_n (lv' := [(2, .int 0), (1, .int 0), (0, .ref (a 0))]) hx hb dX2_playersLeft_12 rfl hl (by decide) rfl (fun ls hl => ?_)
    have L13 : ∀ (f i : Nat) (k : Int32), i + f = 5 → plL (T 6) f i k = plB T → ∀ ls : Array Slot, lv_has ls 3 [(2, .int (nI i)), (1, .int k), (0, .ref (a 0))] → W p l e { frames := 0, cells := 0, slots := 0, locals := 0 } s m ([.ref (a 0)] : List Value).toArray below meth c s.heap [] 0 0 Q (F0 m 13 ls []) := by
      intro f
      induction f with
      | zero =>
        intro i k hi hv13 ls hl
        obtain rfl : i = 5 := by omega
        refine lv_iload_n hx hb dX2_playersLeft_13 rfl (lv_at hl 0 rfl) ?_
        refine lv_iconst (v := 5) hx hb dX2_playersLeft_14 (by decide) ?_
        refine lv_icmp_ge (tgt := 41) hx hb dX2_playersLeft_15 (by decide) (fun _ => ?_) (fun c_9 => absurd (by decide +kernel) c_9)
        refine lv_iload_n hx hb dX2_playersLeft_41 rfl (lv_at hl 1 rfl) ?_
        exact hret _ _ _ (by rw [← hv13]; simp only [plB, plL, if_neg c_4_1]) dX2_playersLeft_42
      | succ f ih =>
        intro i k hi hv13 ls hl
        have hlt : i < 5 := by omega
        refine lv_iload_n hx hb dX2_playersLeft_13 rfl (lv_at hl 0 rfl) ?_
        refine lv_iconst (v := 5) hx hb dX2_playersLeft_14 (by decide) ?_
        refine lv_icmp_ge (tgt := 41) hx hb dX2_playersLeft_15 (by decide) (fun c_9 => absurd c_9 (nI_ge (b := 5) hlt (by decide))) (fun _ => ?_)
        refine lv_aload_n hx hb dX2_playersLeft_18 rfl (lv_at hl 2 rfl) ?_
        refine va_get (D := G.1) (ci := 2) (v := .ref (a 7)) (C := RX2) (T := TX2) (N := 13) hx hb hts hinX2 hown hK.1 hP 0 rfl rfl 6 (by decide) wk2 (fun _ h9 => h9) rfl dX2_playersLeft_19 ?_
        refine lv_iload_n hx hb dX2_playersLeft_22 rfl (lv_at hl 0 rfl) ?_
        refine qild hx hb hK.1 hP 7 0 rfl rfl (k := i) (nI_clamp (by omega)) (vp_in_nI (by omega) (by decide)) dX2_playersLeft_23 ?_
        refine lv_ldc (v := (-100006)) hx hb hown wk3 dX2_playersLeft_24 ?_
        refine lv_icmp_ne (tgt := 35) hx hb dX2_playersLeft_26 (by decide) (fun c_26_2 => ?_) (fun c_26_2 => ?_)
        · refine lv_iinc (v := nI (i + 1)) (lv' := [(2, .int (nI (i + 1))), (1, .int k), (0, .ref (a 0))]) hx hb dX2_playersLeft_35 hl (k := 0) rfl (nI_1 _) (by decide) rfl (fun ls hl => ?_)
          refine lv_goto (tgt := 13) hx hb dX2_playersLeft_38 (by decide) ?_
          exact ih (i + 1) k (by omega) (by rw [← hv13]; simp only [plB, plL, if_neg c_4_1, if_neg c_26_2]) ls (lv_sub hl [0, 1, 2] rfl)
        · refine lv_iload_n hx hb dX2_playersLeft_29 rfl (lv_at hl 1 rfl) ?_
          refine lv_iconst (v := 1) hx hb dX2_playersLeft_30 (by decide) ?_
          refine lv_iload_n hx hb dX2_playersLeft_31 rfl (lv_at hl 0 rfl) ?_
          refine lv_ishl hx hb dX2_playersLeft_32 ?_
          refine lv_ior hx hb dX2_playersLeft_33 ?_
          refine lv_istore_n (lv' := [(1, .int (k ||| (1 <<< ((nI i) &&& 31)))), (2, .int (nI i)), (0, .ref (a 0))]) hx hb dX2_playersLeft_34 rfl hl (by decide) rfl (fun ls hl => ?_)
          refine lv_iinc (v := nI (i + 1)) (lv' := [(2, .int (nI (i + 1))), (1, .int (k ||| (1 <<< ((nI i) &&& 31)))), (0, .ref (a 0))]) hx hb dX2_playersLeft_35 hl (k := 1) rfl (nI_1 _) (by decide) rfl (fun ls hl => ?_)
          refine lv_goto (tgt := 13) hx hb dX2_playersLeft_38 (by decide) ?_
          exact ih (i + 1) (k ||| (1 <<< ((nI i) &&& 31))) (by omega) (by rw [← hv13]; simp only [plB, plL, if_neg c_4_1, if_pos c_26_2]) ls (lv_sub hl [0, 1, 2] rfl)
    exact L13 5 0 0 rfl (by simp only [plB, if_neg c_4_1]) ls (lv_sub hl [0, 1, 2] rfl)
  · refine lv_iconst (v := 0) hx hb dX2_playersLeft_7 (by decide) ?_
    exact hret _ _ _ (by simp only [plB, if_pos c_4_1]) dX2_playersLeft_8
set_option maxHeartbeats 4000000 in
set_option maxRecDepth 100000 in
theorem c_X2_highestBid (l : Launch) (G : qG) (a : Nat → Nat) (T : Tb)  : MP l yX2_highestBid wsX2_highestBid 0 0 G [.ref (a 0)] (tw G a T) (hiB T) := by
  refine MP.of (ty := .int) (by decide) rfl (Nat.le_of_ble_eq_true rfl) rfl ?_
  intro p e s m below meth c hx hb hml hown hts hK hP Q hret ls hl
  have hown : s.vm.findClass RX2 = some m.cls := hown
  have hl : lv_has ls 6 [(0, .ref (a 0))] := hl
  have wk1 := hts (Cond.constant RX2 27 (-100006)) (List.mem_of_getElem? (i := 1) rfl)
  have wk2 := hts (Cond.fieldLink RX2 28 "TurnBids$Table" "bids" "[I") (List.mem_of_getElem? (i := 2) rfl)
  have hinX2 : ∀ w ∈ wsX20, w ∈ wsX2_highestBid := fun _ h => (List.mem_cons_of_mem _ (List.mem_append_right _ h))
  refine lv_ldc (v := (-100006)) hx hb hown wk1 dX2_highestBid_0 ?_
  refine lv_istore_n (lv' := [(1, .int (-100006)), (0, .ref (a 0))]) hx hb dX2_highestBid_2 rfl hl (by decide) rfl (fun ls hl => ?_)
  refine lv_aload_n hx hb dX2_highestBid_3 rfl (lv_at hl 1 rfl) ?_
  refine va_get (D := G.1) (ci := 2) (v := .ref (a 6)) (C := RX2) (T := TX2) (N := 13) hx hb hts hinX2 hown hK.1 hP 0 rfl rfl 5 (by decide) wk2 (fun _ h9 => h9) rfl dX2_highestBid_4 ?_
  refine lv_astore_n (lv' := [(2, .ref (a 6)), (1, .int (-100006)), (0, .ref (a 0))]) hx hb dX2_highestBid_7 rfl hl (by decide) rfl (fun ls hl => ?_)
  refine lv_aload_n hx hb dX2_highestBid_8 rfl (lv_at hl 0 rfl) ?_
  refine va_alen (v := 5) hx hb hK.1 hP 6 0 rfl rfl rfl dX2_highestBid_9 ?_
  refine lv_istore_n (lv' := [(3, .int 5), (2, .ref (a 6)), (1, .int (-100006)), (0, .ref (a 0))]) hx hb dX2_highestBid_10 rfl hl (by decide) rfl (fun ls hl => ?_)
  refine lv_iconst (v := 0) hx hb dX2_highestBid_11 (by decide) ?_
  refine lv_istore (lv' := [(4, .int 0), (3, .int 5), (2, .ref (a 6)), (1, .int (-100006)), (0, .ref (a 0))]) hx hb dX2_highestBid_12 hl (by decide) rfl (fun ls hl => ?_)
  have L14 : ∀ (f i : Nat) (k : Int32), i + f = 5 → hbL (T 5) f i k = hiB T → ∀ ls : Array Slot, lv_has ls 6 [(4, .int (nI i)), (3, .int 5), (2, .ref (a 6)), (1, .int k), (0, .ref (a 0))] → W p l e { frames := 0, cells := 0, slots := 0, locals := 0 } s m ([.ref (a 0)] : List Value).toArray below meth c s.heap [] 0 0 Q (F0 m 14 ls []) := by
    intro f
    induction f with
    | zero =>
      intro i k hi hv14 ls hl
      obtain rfl : i = 5 := by omega
      refine lv_iload hx hb dX2_highestBid_14 (lv_at hl 0 rfl) ?_
      refine lv_iload_n hx hb dX2_highestBid_16 rfl (lv_at hl 1 rfl) ?_
      refine lv_icmp_ge (tgt := 41) hx hb dX2_highestBid_17 (by decide) (fun _ => ?_) (fun c_9 => absurd (by decide +kernel) c_9)
      refine lv_iload_n hx hb dX2_highestBid_41 rfl (lv_at hl 3 rfl) ?_
      exact hret _ _ _ (by rw [← hv14]; simp only [hiB, hbL]) dX2_highestBid_42
    | succ f ih =>
      intro i k hi hv14 ls hl
      have hlt : i < 5 := by omega
      refine lv_iload hx hb dX2_highestBid_14 (lv_at hl 0 rfl) ?_
      refine lv_iload_n hx hb dX2_highestBid_16 rfl (lv_at hl 1 rfl) ?_
      refine lv_icmp_ge (tgt := 41) hx hb dX2_highestBid_17 (by decide) (fun c_9 => absurd c_9 (nI_ge (b := 5) hlt (by decide))) (fun _ => ?_)
      refine lv_aload_n hx hb dX2_highestBid_20 rfl (lv_at hl 2 rfl) ?_
      refine lv_iload hx hb dX2_highestBid_21 (lv_at hl 0 rfl) ?_
      refine qild hx hb hK.1 hP 6 0 rfl rfl (k := i) (nI_clamp (by omega)) (vp_in_nI (by omega) (by decide)) dX2_highestBid_23 ?_
      refine lv_istore (lv' := [(5, .int (T 5 i)), (4, .int (nI i)), (3, .int 5), (2, .ref (a 6)), (1, .int k), (0, .ref (a 0))]) hx hb dX2_highestBid_24 hl (by decide) rfl (fun ls hl => ?_)
      refine lv_iload hx hb dX2_highestBid_26 (lv_at hl 0 rfl) ?_
      refine lv_iload_n hx hb dX2_highestBid_28 rfl (lv_at hl 4 rfl) ?_
      refine lv_icmp_le (tgt := 35) hx hb dX2_highestBid_29 (by decide) (fun c_29_1 => ?_) (fun c_29_1 => ?_)
      · refine lv_iinc (v := nI (i + 1)) (lv' := [(4, .int (nI (i + 1))), (5, .int (T 5 i)), (3, .int 5), (2, .ref (a 6)), (1, .int k), (0, .ref (a 0))]) hx hb dX2_highestBid_35 hl (k := 1) rfl (nI_1 _) (by decide) rfl (fun ls hl => ?_)
        refine lv_goto (tgt := 14) hx hb dX2_highestBid_38 (by decide) ?_
        exact ih (i + 1) k (by omega) (by rw [← hv14]; simp only [hiB, hbL, if_pos c_29_1]) ls (lv_sub hl [0, 2, 3, 4, 5] rfl)
      · refine lv_iload hx hb dX2_highestBid_32 (lv_at hl 0 rfl) ?_
        refine lv_istore_n (lv' := [(1, .int (T 5 i)), (5, .int (T 5 i)), (4, .int (nI i)), (3, .int 5), (2, .ref (a 6)), (0, .ref (a 0))]) hx hb dX2_highestBid_34 rfl hl (by decide) rfl (fun ls hl => ?_)
        refine lv_iinc (v := nI (i + 1)) (lv' := [(4, .int (nI (i + 1))), (1, .int (T 5 i)), (5, .int (T 5 i)), (3, .int 5), (2, .ref (a 6)), (0, .ref (a 0))]) hx hb dX2_highestBid_35 hl (k := 2) rfl (nI_1 _) (by decide) rfl (fun ls hl => ?_)
        refine lv_goto (tgt := 14) hx hb dX2_highestBid_38 (by decide) ?_
        exact ih (i + 1) (T 5 i) (by omega) (by rw [← hv14]; simp only [hiB, hbL, if_neg c_29_1]) ls (lv_sub hl [0, 3, 4, 1, 5] rfl)
  exact L14 5 0 (-100006) rfl (by simp only [hiB]) ls (lv_sub hl [0, 1, 2, 3, 4] rfl)
set_option maxHeartbeats 4000000 in
set_option maxRecDepth 100000 in
theorem c_X2_leastBid (l : Launch) (G : qG) (a : Nat → Nat) (T : Tb)  : MP l yX2_leastBid wsX2_leastBid 1 25 G [.ref (a 0)] (tw G a T) (leB T) := by
  refine MP.of (ty := .int) (by decide) rfl (Nat.le_of_ble_eq_true rfl) rfl ?_
  intro p e s m below meth c hx hb hml hown hts hK hP Q hret ls hl
  have hown : s.vm.findClass RX2 = some m.cls := hown
  have hl : lv_has ls 2 [(0, .ref (a 0))] := hl
  have wk1 := hts (Cond.fieldLink RX2 43 "TurnBids$Table" "underWay" "Z") (List.mem_of_getElem? (i := 1) rfl)
  have wk2 := hts (Cond.constant RX2 27 (-100006)) (List.mem_of_getElem? (i := 2) rfl)
  have wk3 := hts (Cond.fieldLink RX2 9 "TurnBids$Table" "settings" "[I") (List.mem_of_getElem? (i := 3) rfl)
  have wk4 := hts (Cond.methodLink RX2 60 yX2_highestBid) (List.mem_of_getElem? (i := 4) rfl)
  have hinX2 : ∀ w ∈ wsX20, w ∈ wsX2_leastBid := fun _ h => (List.mem_cons_of_mem _ (List.mem_append_right _ h))
  refine lv_aload_n hx hb dX2_leastBid_0 rfl (lv_at hl 0 rfl) ?_
  refine va_get (D := G.1) (ci := 2) (v := .int (T 10 0)) (C := RX2) (T := TX2) (N := 13) hx hb hts hinX2 hown hK.1 hP 0 rfl rfl 10 (by decide) wk1 (fun _ h9 => h9) rfl dX2_leastBid_1 ?_
  refine lv_if_ne (tgt := 10) hx hb dX2_leastBid_4 (by decide) (fun c_4_1 => ?_) (fun c_4_1 => ?_)
  · refine lv_aload_n hx hb dX2_leastBid_10 rfl (lv_at hl 0 rfl) ?_
    refine cPV (As := []) (rest := []) ⟨hx, hb, hml, hown, hts⟩ (c_X2_highestBid l G a T) (cwV 0 hts gX2_leastBid_X2_highestBid rfl rfl rfl (by decide +kernel) ⟨Nat.le_of_ble_eq_true rfl, Nat.le_of_ble_eq_true rfl⟩) hK hP 0 (ci := 2) rfl rfl rfl rfl rfl hl.1 (Nat.le_of_ble_eq_true rfl) dX2_leastBid_11 ⟨Nat.le_of_ble_eq_true rfl, Nat.le_of_ble_eq_true rfl⟩ ?_
    refine lv_istore_n (lv' := [(1, .int (hiB T)), (0, .ref (a 0))]) hx hb dX2_leastBid_14 rfl hl (by decide) rfl (fun ls hl => ?_)
    refine lv_iload_n hx hb dX2_leastBid_15 rfl (lv_at hl 0 rfl) ?_
    refine lv_ldc (v := (-100006)) hx hb hown wk2 dX2_leastBid_16 ?_
    refine lv_icmp_ne (tgt := 30) hx hb dX2_leastBid_18 (by decide) (fun c_18_2 => ?_) (fun c_18_2 => ?_)
    · refine lv_iload_n hx hb dX2_leastBid_30 rfl (lv_at hl 0 rfl) ?_
      refine lv_aload_n hx hb dX2_leastBid_31 rfl (lv_at hl 1 rfl) ?_
      refine va_get (D := G.1) (ci := 2) (v := .ref (a 1)) (C := RX2) (T := TX2) (N := 13) hx hb hts hinX2 hown hK.1 hP 0 rfl rfl 0 (by decide) wk3 (fun _ h9 => h9) rfl dX2_leastBid_32 ?_
      refine lv_iconst (v := 0) hx hb dX2_leastBid_35 (by decide) ?_
      refine qild hx hb hK.1 hP 1 0 rfl rfl (k := 0) rfl (vp_in_nI (n := 0) (by decide) (by decide)) dX2_leastBid_36 ?_
      refine lv_iadd hx hb dX2_leastBid_37 ?_
      exact hret _ _ _ (by simp only [leB, if_neg c_4_1, if_neg c_18_2]) dX2_leastBid_38
    · refine lv_aload_n hx hb dX2_leastBid_21 rfl (lv_at hl 1 rfl) ?_
      refine va_get (D := G.1) (ci := 2) (v := .ref (a 1)) (C := RX2) (T := TX2) (N := 13) hx hb hts hinX2 hown hK.1 hP 0 rfl rfl 0 (by decide) wk3 (fun _ h9 => h9) rfl dX2_leastBid_22 ?_
      refine lv_iconst (v := 1) hx hb dX2_leastBid_25 (by decide) ?_
      refine qild hx hb hK.1 hP 1 0 rfl rfl (k := 1) rfl (vp_in_nI (n := 1) (by decide) (by decide)) dX2_leastBid_26 ?_
      refine lv_goto (tgt := 38) hx hb dX2_leastBid_27 (by decide) ?_
      exact hret _ _ _ (by simp only [leB, if_neg c_4_1, if_pos c_18_2]) dX2_leastBid_38
  · refine lv_ldc (v := (-100006)) hx hb hown wk2 dX2_leastBid_7 ?_
    exact hret _ _ _ (by simp only [leB, if_pos c_4_1]) dX2_leastBid_9
set_option maxHeartbeats 4000000 in
set_option maxRecDepth 100000 in
theorem c_X2_hasToCover (l : Launch) (G : qG) (a : Nat → Nat) (T : Tb) (x : Int32) : MP l yX2_hasToCover wsX2_hasToCover 1 21 G [.ref (a 0), .int x] (tw G a T) (covB T x) := by
  refine MP.of (ty := .int) (by decide) rfl (Nat.le_of_ble_eq_true rfl) rfl ?_
  intro p e s m below meth c hx hb hml hown hts hK hP Q hret ls hl
  have hown : s.vm.findClass RX2 = some m.cls := hown
  have hl : lv_has ls 2 [(0, .ref (a 0)), (1, .int x)] := hl
  have wk1 := hts (Cond.fieldLink RX2 31 "TurnBids$Table" "placesGot" "[I") (List.mem_of_getElem? (i := 1) rfl)
  have wk2 := hts (Cond.constant RX2 27 (-100006)) (List.mem_of_getElem? (i := 2) rfl)
  have wk3 := hts (Cond.fieldLink RX2 28 "TurnBids$Table" "bids" "[I") (List.mem_of_getElem? (i := 3) rfl)
  have wk4 := hts (Cond.methodLink RX2 68 Lib.Math.max.name) (List.mem_of_getElem? (i := 4) rfl)
  have wk5 := hts (Cond.static Lib.Math.max.name) (List.mem_of_getElem? (i := 5) rfl)
  have wk6 := hts (Cond.initialized "java/lang/Math") (List.mem_of_getElem? (i := 6) rfl)
  have wk7 := hts (Cond.code Lib.Math.max.name Lib.Math.max.code 2 (some .int)) (List.mem_of_getElem? (i := 7) rfl)
  have wk8 := hts (Cond.static yX3_isPlayer) (List.mem_of_getElem? (i := 8) rfl)
  have wk9 := hts (Cond.initialized RX3) (List.mem_of_getElem? (i := 9) rfl)
  have hinX2 : ∀ w ∈ wsX20, w ∈ wsX2_hasToCover := fun _ h => (List.mem_cons_of_mem _ (List.mem_append_right _ h))
  refine lv_iload_n hx hb dX2_hasToCover_0 rfl (lv_at hl 1 rfl) ?_
  refine cPN (As := [.int x]) (rest := []) ⟨hx, hb, hml, hown, hts⟩ (c_X3_isPlayer l G x) ⟨va_cnB (host := RX3) 1 hts gX2_hasToCover_X3_isPlayer_n64 rfl rfl rfl hK.2.1.1 wk9 (by decide +kernel) ⟨Nat.le_of_ble_eq_true rfl, Nat.le_of_ble_eq_true rfl⟩, wk8, trivial⟩ hK (fun k q h => by simp at h) rfl rfl hl.1 (Nat.le_of_ble_eq_true rfl) dX2_hasToCover_1 ⟨Nat.le_of_ble_eq_true rfl, Nat.le_of_ble_eq_true rfl⟩ ?_
  refine lv_if_eq (tgt := 18) hx hb dX2_hasToCover_4 (by decide) (fun c_4_1 => ?_) (fun c_4_1 => ?_)
  · refine lv_iconst (v := 0) hx hb dX2_hasToCover_18 (by decide) ?_
    exact hret _ _ _ (by simp only [covB, if_pos c_4_1]) dX2_hasToCover_19
  · have hin_2 := isPb_in c_4_1
    refine lv_aload_n hx hb dX2_hasToCover_7 rfl (lv_at hl 0 rfl) ?_
    refine va_get (D := G.1) (ci := 2) (v := .ref (a 7)) (C := RX2) (T := TX2) (N := 13) hx hb hts hinX2 hown hK.1 hP 0 rfl rfl 6 (by decide) wk1 (fun _ h9 => h9) rfl dX2_hasToCover_8 ?_
    refine lv_iload_n hx hb dX2_hasToCover_11 rfl (lv_at hl 1 rfl) ?_
    refine qild hx hb hK.1 hP 7 0 rfl rfl (k := ix x) rfl (by assumption) dX2_hasToCover_12 ?_
    refine lv_ldc (v := (-100006)) hx hb hown wk2 dX2_hasToCover_13 ?_
    refine lv_icmp_eq (tgt := 20) hx hb dX2_hasToCover_15 (by decide) (fun c_15_3 => ?_) (fun c_15_3 => ?_)
    · refine lv_iconst (v := 0) hx hb dX2_hasToCover_20 (by decide) ?_
      refine lv_aload_n hx hb dX2_hasToCover_21 rfl (lv_at hl 0 rfl) ?_
      refine va_get (D := G.1) (ci := 2) (v := .ref (a 6)) (C := RX2) (T := TX2) (N := 13) hx hb hts hinX2 hown hK.1 hP 0 rfl rfl 5 (by decide) wk3 (fun _ h9 => h9) rfl dX2_hasToCover_22 ?_
      refine lv_iload_n hx hb dX2_hasToCover_25 rfl (lv_at hl 1 rfl) ?_
      refine qild hx hb hK.1 hP 6 0 rfl rfl (k := ix x) rfl (by assumption) dX2_hasToCover_26 ?_
      refine va_mmax hx hb (hml.trans hl.1.symm) hown wk4 wk5 wk6 wk7 (Nat.le_of_ble_eq_true rfl) (Nat.le_of_ble_eq_true rfl) (Nat.le_of_ble_eq_true rfl) (Nat.le_of_ble_eq_true rfl) dX2_hasToCover_27 ?_
      exact hret _ _ _ (by simp only [covB, if_neg c_4_1, if_pos c_15_3]) dX2_hasToCover_30
    · refine lv_iconst (v := 0) hx hb dX2_hasToCover_18 (by decide) ?_
      exact hret _ _ _ (by simp only [covB, if_neg c_4_1, if_neg c_15_3]) dX2_hasToCover_19
set_option maxHeartbeats 4000000 in
set_option maxRecDepth 100000 in
theorem c_X2_mayBid (l : Launch) (G : qG) (a : Nat → Nat) (T : Tb) (x : Int32) : MP l yX2_mayBid wsX2_mayBid 2 46 G [.ref (a 0), .int x] (tw G a T) (mayB T x) := by
  refine MP.of (ty := .boolean) (by decide) rfl (Nat.le_of_ble_eq_true rfl) (mayB_nar T x) ?_
  intro p e s m below meth c hx hb hml hown hts hK hP Q hret ls hl
  have hown : s.vm.findClass RX2 = some m.cls := hown
  have hl : lv_has ls 2 [(0, .ref (a 0)), (1, .int x)] := hl
  have wk1 := hts (Cond.fieldLink RX2 43 "TurnBids$Table" "underWay" "Z") (List.mem_of_getElem? (i := 1) rfl)
  have wk2 := hts (Cond.fieldLink RX2 47 "TurnBids$Table" "turn" "I") (List.mem_of_getElem? (i := 2) rfl)
  have wk3 := hts (Cond.fieldLink RX2 18 "TurnBids$Table" "coins" "[I") (List.mem_of_getElem? (i := 3) rfl)
  have wk4 := hts (Cond.static yX3_isPlayer) (List.mem_of_getElem? (i := 4) rfl)
  have wk5 := hts (Cond.initialized RX3) (List.mem_of_getElem? (i := 5) rfl)
  have wk7 := hts (Cond.methodLink RX2 74 yX2_leastBid) (List.mem_of_getElem? (i := 7) rfl)
  have hinX2 : ∀ w ∈ wsX20, w ∈ wsX2_mayBid := fun _ h => (List.mem_cons_of_mem _ (List.mem_append_right _ h))
  refine lv_aload_n hx hb dX2_mayBid_0 rfl (lv_at hl 0 rfl) ?_
  refine va_get (D := G.1) (ci := 2) (v := .int (T 10 0)) (C := RX2) (T := TX2) (N := 13) hx hb hts hinX2 hown hK.1 hP 0 rfl rfl 10 (by decide) wk1 (fun _ h9 => h9) rfl dX2_mayBid_1 ?_
  refine lv_if_eq (tgt := 42) hx hb dX2_mayBid_4 (by decide) (fun c_4_1 => ?_) (fun c_4_1 => ?_)
  · refine lv_iconst (v := 0) hx hb dX2_mayBid_42 (by decide) ?_
    exact hret _ _ _ (by simp only [mayB, if_pos c_4_1]) dX2_mayBid_43
  · refine lv_aload_n hx hb dX2_mayBid_7 rfl (lv_at hl 0 rfl) ?_
    refine va_get (D := G.1) (ci := 2) (v := .int (T 10 1)) (C := RX2) (T := TX2) (N := 13) hx hb hts hinX2 hown hK.1 hP 0 rfl rfl 11 (by decide) wk2 (fun _ h9 => h9) rfl dX2_mayBid_8 ?_
    refine cPN (As := [.int (T 10 1)]) (rest := []) ⟨hx, hb, hml, hown, hts⟩ (c_X3_isPlayer l G (T 10 1)) ⟨va_cnB (host := RX3) 1 hts gX2_mayBid_X3_isPlayer_n64 rfl rfl rfl hK.2.1.1 wk5 (by decide +kernel) ⟨Nat.le_of_ble_eq_true rfl, Nat.le_of_ble_eq_true rfl⟩, wk4, trivial⟩ hK (fun k q h => by simp at h) rfl rfl hl.1 (Nat.le_of_ble_eq_true rfl) dX2_mayBid_11 ⟨Nat.le_of_ble_eq_true rfl, Nat.le_of_ble_eq_true rfl⟩ ?_
    refine lv_if_eq (tgt := 42) hx hb dX2_mayBid_14 (by decide) (fun c_14_2 => ?_) (fun c_14_2 => ?_)
    · refine lv_iconst (v := 0) hx hb dX2_mayBid_42 (by decide) ?_
      exact hret _ _ _ (by simp only [mayB, if_neg c_4_1, if_pos c_14_2]) dX2_mayBid_43
    · have hin_3 := isPb_in c_14_2
      refine lv_iload_n hx hb dX2_mayBid_17 rfl (lv_at hl 1 rfl) ?_
      refine lv_aload_n hx hb dX2_mayBid_18 rfl (lv_at hl 0 rfl) ?_
      refine cPV (As := []) (rest := [.int x]) ⟨hx, hb, hml, hown, hts⟩ (c_X2_leastBid l G a T) (cwV 0 hts gX2_mayBid_X2_leastBid rfl rfl rfl (by decide +kernel) ⟨Nat.le_of_ble_eq_true rfl, Nat.le_of_ble_eq_true rfl⟩) hK hP 0 (ci := 2) rfl rfl rfl rfl rfl hl.1 (Nat.le_of_ble_eq_true rfl) dX2_mayBid_19 ⟨Nat.le_of_ble_eq_true rfl, Nat.le_of_ble_eq_true rfl⟩ ?_
      refine lv_icmp_lt (tgt := 42) hx hb dX2_mayBid_22 (by decide) (fun c_22_4 => ?_) (fun c_22_4 => ?_)
      · refine lv_iconst (v := 0) hx hb dX2_mayBid_42 (by decide) ?_
        exact hret _ _ _ (by simp only [mayB, if_neg c_4_1, if_neg c_14_2, if_pos c_22_4]) dX2_mayBid_43
      · refine lv_iload_n hx hb dX2_mayBid_25 rfl (lv_at hl 1 rfl) ?_
        refine lv_aload_n hx hb dX2_mayBid_26 rfl (lv_at hl 0 rfl) ?_
        refine va_get (D := G.1) (ci := 2) (v := .ref (a 3)) (C := RX2) (T := TX2) (N := 13) hx hb hts hinX2 hown hK.1 hP 0 rfl rfl 2 (by decide) wk3 (fun _ h9 => h9) rfl dX2_mayBid_27 ?_
        refine lv_aload_n hx hb dX2_mayBid_30 rfl (lv_at hl 0 rfl) ?_
        refine va_get (D := G.1) (ci := 2) (v := .int (T 10 1)) (C := RX2) (T := TX2) (N := 13) hx hb hts hinX2 hown hK.1 hP 0 rfl rfl 11 (by decide) wk2 (fun _ h9 => h9) rfl dX2_mayBid_31 ?_
        refine qild hx hb hK.1 hP 3 0 rfl rfl (k := ix (T 10 1)) rfl (by assumption) dX2_mayBid_34 ?_
        refine lv_icmp_gt (tgt := 42) hx hb dX2_mayBid_35 (by decide) (fun c_35_5 => ?_) (fun c_35_5 => ?_)
        · refine lv_iconst (v := 0) hx hb dX2_mayBid_42 (by decide) ?_
          exact hret _ _ _ (by simp only [mayB, if_neg c_4_1, if_neg c_14_2, if_neg c_22_4, if_pos c_35_5]) dX2_mayBid_43
        · refine lv_iconst (v := 1) hx hb dX2_mayBid_38 (by decide) ?_
          refine lv_goto (tgt := 43) hx hb dX2_mayBid_39 (by decide) ?_
          exact hret _ _ _ (by simp only [mayB, if_neg c_4_1, if_neg c_14_2, if_neg c_22_4, if_neg c_35_5]) dX2_mayBid_43
set_option maxHeartbeats 4000000 in
set_option maxRecDepth 100000 in
theorem c_X2_start (l : Launch) (G : qG) (a : Nat → Nat) (T : Tb)  (sz : Nat) : MI l yX2_start wsX2_start 1 22 G sz [.ref (a 0)] (tw G a T) (staT T 10 1) (tw G a (staT T)) := by
  refine MI.of' (by decide) rfl (Nat.le_of_ble_eq_true rfl) ?_
  intro p e s m below meth c hx hb hml hown hts hK hsz hP A hAe hA hD hS Q hret ls hl
  have hown : s.vm.findClass RX2 = some m.cls := hown
  have hl : lv_has ls 1 [(0, .ref (a 0))] := hl
  have wk1 := hts (Cond.fieldLink RX2 43 "TurnBids$Table" "underWay" "Z") (List.mem_of_getElem? (i := 1) rfl)
  have wk2 := hts (Cond.fieldLink RX2 47 "TurnBids$Table" "turn" "I") (List.mem_of_getElem? (i := 2) rfl)
  have wk3 := hts (Cond.methodLink RX2 77 yX2_playerAt) (List.mem_of_getElem? (i := 3) rfl)
  have hinX2 : ∀ w ∈ wsX20, w ∈ wsX2_start := fun _ h => (List.mem_cons_of_mem _ (List.mem_append_right _ h))
  refine lv_aload_n hx hb dX2_start_0 rfl (lv_at hl 0 rfl) ?_
  refine lv_iconst (v := 1) hx hb dX2_start_1 (by decide) ?_
  refine va_put (D := G.1) (ci := 2) (v := .int 1) (ty := .boolean) (C := RX2) (T := TX2) (N := 13) hx hb hts hinX2 tyX2 tyX2_ok nmX2 hown hK.1 hP hD hS 0 rfl rfl 10 (by decide) wk1 (fun _ h9 => h9) rfl (by decide +kernel) rfl rfl (Nat.le_of_ble_eq_true rfl) dX2_start_2 (fun H locs hP hD hS => ?_)
  have hP : va_P G.1 vwCl (tw G a (tup T 10 0 1)) H := hP
  have hD : va_D A (tw G a (tup T 10 0 1)) := hD
  refine lv_aload_n hx hb dX2_start_5 rfl (lv_at hl 0 rfl) ?_
  refine lv_aload_n hx hb dX2_start_6 rfl (lv_at hl 0 rfl) ?_
  refine lv_iconst (v := 0) hx hb dX2_start_7 (by decide) ?_
  refine cPV (As := [.int 0]) (rest := [.ref (a 0)]) ⟨hx, hb, hml, hown, hts⟩ (c_X2_playerAt l G a (tup T 10 0 1) 0) (cwV 1 hts gX2_start_X2_playerAt rfl rfl rfl (by decide +kernel) ⟨Nat.le_of_ble_eq_true rfl, Nat.le_of_ble_eq_true rfl⟩) hK hP 0 (ci := 2) rfl rfl rfl rfl rfl hl.1 (Nat.le_of_ble_eq_true rfl) dX2_start_8 ⟨Nat.le_of_ble_eq_true rfl, Nat.le_of_ble_eq_true rfl⟩ ?_
  refine va_put (D := G.1) (ci := 2) (v := .int (pAt ((tup T 10 0 1) 4) 0)) (ty := .int) (C := RX2) (T := TX2) (N := 13) hx hb hts hinX2 tyX2 tyX2_ok nmX2 hown hK.1 hP hD hS 0 rfl rfl 11 (by decide) wk2 (fun _ h9 => h9) rfl (by decide +kernel) rfl rfl (Nat.le_of_ble_eq_true rfl) dX2_start_11 (fun H locs hP hD hS => ?_)
  have hP : va_P G.1 vwCl (tw G a (tup (tup T 10 0 1) 10 1 (pAt ((tup T 10 0 1) 4) 0))) H := hP
  have hD : va_D A (tw G a (tup (tup T 10 0 1) 10 1 (pAt ((tup T 10 0 1) 4) 0))) := hD
  refine lv_aload_n hx hb dX2_start_14 rfl (lv_at hl 0 rfl) ?_
  refine va_get (D := G.1) (ci := 2) (v := .int ((tup (tup T 10 0 1) 10 1 (pAt ((tup T 10 0 1) 4) 0)) 10 1)) (C := RX2) (T := TX2) (N := 13) hx hb hts hinX2 hown hK.1 hP 0 rfl rfl 11 (by decide) wk2 (fun _ h9 => h9) rfl dX2_start_15 ?_
  have hf0 : (tup (tup T 10 0 1) 10 1 (pAt ((tup T 10 0 1) 4) 0)) = (staT T) := (by simp only [staT])
  have hP : va_P G.1 vwCl (tw G a (staT T)) H := by rw [← hf0]; exact hP
  have hD : va_D A (tw G a (staT T)) := by rw [← hf0]; exact hD
  exact hret _ _ _ _ _ () (by simp only [staT]) hP hD hS dX2_start_18
set_option maxHeartbeats 4000000 in
set_option maxRecDepth 100000 in
theorem c_X2_passTurn (l : Launch) (G : qG) (a : Nat → Nat) (T : Tb)  (sz : Nat) : MV l yX2_passTurn wsX2_passTurn 1 22 G sz [.ref (a 0)] (tw G a T) (tw G a (pasT T)) := by
  refine MV.of' (by decide) rfl (Nat.le_of_ble_eq_true rfl) ?_
  intro p e s m below meth c hx hb hml hown hts hK hsz hP A hAe hA hD hS hmn Q hret ls hl
  have hown : s.vm.findClass RX2 = some m.cls := hown
  have hl : lv_has ls 4 [(0, .ref (a 0))] := hl
  have wk1 := hts (Cond.fieldLink RX2 47 "TurnBids$Table" "turn" "I") (List.mem_of_getElem? (i := 1) rfl)
  have wk2 := hts (Cond.fieldLink RX2 24 "TurnBids$Table" "places" "[I") (List.mem_of_getElem? (i := 2) rfl)
  have wk3 := hts (Cond.fieldLink RX2 31 "TurnBids$Table" "placesGot" "[I") (List.mem_of_getElem? (i := 3) rfl)
  have wk4 := hts (Cond.constant RX2 27 (-100006)) (List.mem_of_getElem? (i := 4) rfl)
  have wk5 := hts (Cond.static yX3_isPlayer) (List.mem_of_getElem? (i := 5) rfl)
  have wk6 := hts (Cond.initialized RX3) (List.mem_of_getElem? (i := 6) rfl)
  have wk8 := hts (Cond.methodLink RX2 77 yX2_playerAt) (List.mem_of_getElem? (i := 8) rfl)
  have hinX2 : ∀ w ∈ wsX20, w ∈ wsX2_passTurn := fun _ h => (List.mem_cons_of_mem _ (List.mem_append_right _ h))
  refine lv_aload_n hx hb dX2_passTurn_0 rfl (lv_at hl 0 rfl) ?_
  refine va_get (D := G.1) (ci := 2) (v := .int (T 10 1)) (C := RX2) (T := TX2) (N := 13) hx hb hts hinX2 hown hK.1 hP 0 rfl rfl 11 (by decide) wk1 (fun _ h9 => h9) rfl dX2_passTurn_1 ?_
  refine cPN (As := [.int (T 10 1)]) (rest := []) ⟨hx, hb, hml, hown, hts⟩ (c_X3_isPlayer l G (T 10 1)) ⟨va_cnB (host := RX3) 1 hts gX2_passTurn_X3_isPlayer_n64 rfl rfl rfl hK.2.1.1 wk6 (by decide +kernel) ⟨Nat.le_of_ble_eq_true rfl, Nat.le_of_ble_eq_true rfl⟩, wk5, trivial⟩ hK (fun k q h => by simp at h) rfl rfl hl.1 (Nat.le_of_ble_eq_true rfl) dX2_passTurn_4 ⟨Nat.le_of_ble_eq_true rfl, Nat.le_of_ble_eq_true rfl⟩ ?_
  refine lv_if_ne (tgt := 11) hx hb dX2_passTurn_7 (by decide) (fun c_7_1 => ?_) (fun c_7_1 => ?_)
  · have hin_2 := isPb_in c_7_1
    refine lv_aload_n hx hb dX2_passTurn_11 rfl (lv_at hl 0 rfl) ?_
    refine va_get (D := G.1) (ci := 2) (v := .ref (a 5)) (C := RX2) (T := TX2) (N := 13) hx hb hts hinX2 hown hK.1 hP 0 rfl rfl 4 (by decide) wk2 (fun _ h9 => h9) rfl dX2_passTurn_12 ?_
    refine lv_aload_n hx hb dX2_passTurn_15 rfl (lv_at hl 0 rfl) ?_
    refine va_get (D := G.1) (ci := 2) (v := .int (T 10 1)) (C := RX2) (T := TX2) (N := 13) hx hb hts hinX2 hown hK.1 hP 0 rfl rfl 11 (by decide) wk1 (fun _ h9 => h9) rfl dX2_passTurn_16 ?_
    refine qild hx hb hK.1 hP 5 0 rfl rfl (k := ix (T 10 1)) rfl (by assumption) dX2_passTurn_19 ?_
    refine lv_istore_n (lv' := [(1, .int (T 4 (ix (T 10 1)))), (0, .ref (a 0))]) hx hb dX2_passTurn_20 rfl hl (by decide) rfl (fun ls hl => ?_)
    refine lv_iconst (v := 1) hx hb dX2_passTurn_21 (by decide) ?_
    refine lv_istore_n (lv' := [(2, .int 1), (1, .int (T 4 (ix (T 10 1)))), (0, .ref (a 0))]) hx hb dX2_passTurn_22 rfl hl (by decide) rfl (fun ls hl => ?_)
    have L23 : ∀ (f i : Nat), i + f = 5 → paL T (T 4 (ix (T 10 1))) f i = pasT T → ∀ ls : Array Slot, lv_has ls 4 [(2, .int (nI i)), (1, .int (T 4 (ix (T 10 1)))), (0, .ref (a 0))] → W p l e { frames := 1, cells := 0, slots := 0, locals := 22 } s m ([.ref (a 0)] : List Value).toArray below meth c s.heap [] 0 0 Q (F0 m 23 ls []) := by
      intro f
      induction f with
      | zero =>
        intro i  hi hv23 ls hl
        obtain rfl : i = 5 := by omega
        refine lv_iload_n hx hb dX2_passTurn_23 rfl (lv_at hl 0 rfl) ?_
        refine lv_iconst (v := 5) hx hb dX2_passTurn_24 (by decide) ?_
        refine lv_icmp_ge (tgt := 68) hx hb dX2_passTurn_25 (by decide) (fun _ => ?_) (fun c_9 => absurd (by decide +kernel) c_9)
        have hf0 : (T) = (pasT T) := (by rw [← hv23]; simp only [pasT, paL, if_neg c_7_1])
        have hP : va_P G.1 vwCl (tw G a (pasT T)) s.heap := by rw [← hf0]; exact hP
        have hD : va_D A (tw G a (pasT T)) := by rw [← hf0]; exact hD
        exact hret _ _ _ _ () trivial hP hD hS dX2_passTurn_68
      | succ f ih =>
        intro i  hi hv23 ls hl
        have hlt : i < 5 := by omega
        refine lv_iload_n hx hb dX2_passTurn_23 rfl (lv_at hl 0 rfl) ?_
        refine lv_iconst (v := 5) hx hb dX2_passTurn_24 (by decide) ?_
        refine lv_icmp_ge (tgt := 68) hx hb dX2_passTurn_25 (by decide) (fun c_9 => absurd c_9 (nI_ge (b := 5) hlt (by decide))) (fun _ => ?_)
        refine lv_aload_n hx hb dX2_passTurn_28 rfl (lv_at hl 2 rfl) ?_
        refine lv_iload_n hx hb dX2_passTurn_29 rfl (lv_at hl 1 rfl) ?_
        refine lv_iload_n hx hb dX2_passTurn_30 rfl (lv_at hl 0 rfl) ?_
        refine lv_iadd hx hb dX2_passTurn_31 ?_
        refine lv_iconst (v := 5) hx hb dX2_passTurn_32 (by decide) ?_
        refine lv_irem hx hb dX2_passTurn_33 (by decide) ?_
        refine lv_topi (fun x_3 hx_3 => ?_)
        refine cPV (As := [.int x_3]) (rest := []) ⟨hx, hb, hml, hown, hts⟩ (c_X2_playerAt l G a T x_3) (cwV 1 hts gX2_passTurn_X2_playerAt rfl rfl rfl (by decide +kernel) ⟨Nat.le_of_ble_eq_true rfl, Nat.le_of_ble_eq_true rfl⟩) hK hP 0 (ci := 2) rfl rfl rfl rfl rfl hl.1 (Nat.le_of_ble_eq_true rfl) dX2_passTurn_34 ⟨Nat.le_of_ble_eq_true rfl, Nat.le_of_ble_eq_true rfl⟩ ?_
        refine lv_istore_n (lv' := [(3, .int (pAt (T 4) x_3)), (2, .int (nI i)), (1, .int (T 4 (ix (T 10 1)))), (0, .ref (a 0))]) hx hb dX2_passTurn_37 rfl hl (by decide) rfl (fun ls hl => ?_)
        refine lv_iload_n hx hb dX2_passTurn_38 rfl (lv_at hl 0 rfl) ?_
        refine cPN (As := [.int (pAt (T 4) x_3)]) (rest := []) ⟨hx, hb, hml, hown, hts⟩ (c_X3_isPlayer l G (pAt (T 4) x_3)) ⟨va_cnB (host := RX3) 1 hts gX2_passTurn_X3_isPlayer_n64 rfl rfl rfl hK.2.1.1 wk6 (by decide +kernel) ⟨Nat.le_of_ble_eq_true rfl, Nat.le_of_ble_eq_true rfl⟩, wk5, trivial⟩ hK (fun k q h => by simp at h) rfl rfl hl.1 (Nat.le_of_ble_eq_true rfl) dX2_passTurn_39 ⟨Nat.le_of_ble_eq_true rfl, Nat.le_of_ble_eq_true rfl⟩ ?_
        refine lv_if_eq (tgt := 62) hx hb dX2_passTurn_42 (by decide) (fun c_42_4 => ?_) (fun c_42_4 => ?_)
        · refine lv_iinc (v := nI (i + 1)) (lv' := [(2, .int (nI (i + 1))), (3, .int (pAt (T 4) x_3)), (1, .int (T 4 (ix (T 10 1)))), (0, .ref (a 0))]) hx hb dX2_passTurn_62 hl (k := 1) rfl (nI_1 _) (by decide) rfl (fun ls hl => ?_)
          refine lv_goto (tgt := 23) hx hb dX2_passTurn_65 (by decide) ?_
          exact ih (i + 1)  (by omega) (by subst hx_3; rw [← hv23]; simp only [pasT, paL, if_neg c_7_1, if_pos c_42_4]) ls (lv_sub hl [0, 2, 3] rfl)
        · have hin_5 := isPb_in c_42_4
          refine lv_aload_n hx hb dX2_passTurn_45 rfl (lv_at hl 3 rfl) ?_
          refine va_get (D := G.1) (ci := 2) (v := .ref (a 7)) (C := RX2) (T := TX2) (N := 13) hx hb hts hinX2 hown hK.1 hP 0 rfl rfl 6 (by decide) wk3 (fun _ h9 => h9) rfl dX2_passTurn_46 ?_
          refine lv_iload_n hx hb dX2_passTurn_49 rfl (lv_at hl 0 rfl) ?_
          refine qild hx hb hK.1 hP 7 0 rfl rfl (k := ix (pAt (T 4) x_3)) rfl (by assumption) dX2_passTurn_50 ?_
          refine lv_ldc (v := (-100006)) hx hb hown wk4 dX2_passTurn_51 ?_
          refine lv_icmp_ne (tgt := 62) hx hb dX2_passTurn_53 (by decide) (fun c_53_6 => ?_) (fun c_53_6 => ?_)
          · refine lv_iinc (v := nI (i + 1)) (lv' := [(2, .int (nI (i + 1))), (3, .int (pAt (T 4) x_3)), (1, .int (T 4 (ix (T 10 1)))), (0, .ref (a 0))]) hx hb dX2_passTurn_62 hl (k := 1) rfl (nI_1 _) (by decide) rfl (fun ls hl => ?_)
            refine lv_goto (tgt := 23) hx hb dX2_passTurn_65 (by decide) ?_
            exact ih (i + 1)  (by omega) (by subst hx_3; rw [← hv23]; simp only [pasT, paL, if_neg c_7_1, if_neg c_42_4, if_neg c_53_6]) ls (lv_sub hl [0, 2, 3] rfl)
          · refine lv_aload_n hx hb dX2_passTurn_56 rfl (lv_at hl 3 rfl) ?_
            refine lv_iload_n hx hb dX2_passTurn_57 rfl (lv_at hl 0 rfl) ?_
            refine va_put (D := G.1) (ci := 2) (v := .int (pAt (T 4) x_3)) (ty := .int) (C := RX2) (T := TX2) (N := 13) hx hb hts hinX2 tyX2 tyX2_ok nmX2 hown hK.1 hP hD hS 0 rfl rfl 11 (by decide) wk1 (fun _ h9 => h9) rfl (by decide +kernel) rfl rfl (Nat.le_of_ble_eq_true rfl) dX2_passTurn_58 (fun H locs hP hD hS => ?_)
            have hP : va_P G.1 vwCl (tw G a (tup T 10 1 (pAt (T 4) x_3))) H := hP
            have hD : va_D A (tw G a (tup T 10 1 (pAt (T 4) x_3))) := hD
            have hf0 : (tup T 10 1 (pAt (T 4) x_3)) = (pasT T) := (by subst hx_3; rw [← hv23]; simp only [pasT, paL, if_neg c_7_1, if_neg c_42_4, if_pos c_53_6])
            have hP : va_P G.1 vwCl (tw G a (pasT T)) H := by rw [← hf0]; exact hP
            have hD : va_D A (tw G a (pasT T)) := by rw [← hf0]; exact hD
            exact hret _ _ _ _ () trivial hP hD hS dX2_passTurn_61
    exact L23 4 1  rfl (by simp only [pasT, if_neg c_7_1]) ls (lv_sub hl [0, 1, 2] rfl)
  · have hf0 : (T) = (pasT T) := (by simp only [pasT, if_pos c_7_1])
    have hP : va_P G.1 vwCl (tw G a (pasT T)) s.heap := by rw [← hf0]; exact hP
    have hD : va_D A (tw G a (pasT T)) := by rw [← hf0]; exact hD
    exact hret _ _ _ _ () trivial hP hD hS dX2_passTurn_10
set_option maxHeartbeats 4000000 in
set_option maxRecDepth 100000 in
theorem c_X2_takeBid (l : Launch) (G : qG) (a : Nat → Nat) (T : Tb) (x : Int32) (sz : Nat) : MI l yX2_takeBid wsX2_takeBid 2 45 G sz [.ref (a 0), .int x] (tw G a T) (takT T x 10 1) (tw G a (takT T x)) := by
  refine MI.of' (by decide) rfl (Nat.le_of_ble_eq_true rfl) ?_
  intro p e s m below meth c hx hb hml hown hts hK hsz hP A hAe hA hD hS Q hret ls hl
  have hown : s.vm.findClass RX2 = some m.cls := hown
  have hl : lv_has ls 2 [(0, .ref (a 0)), (1, .int x)] := hl
  have wk1 := hts (Cond.fieldLink RX2 47 "TurnBids$Table" "turn" "I") (List.mem_of_getElem? (i := 1) rfl)
  have wk2 := hts (Cond.fieldLink RX2 28 "TurnBids$Table" "bids" "[I") (List.mem_of_getElem? (i := 2) rfl)
  have wk3 := hts (Cond.static yX3_isPlayer) (List.mem_of_getElem? (i := 3) rfl)
  have wk4 := hts (Cond.initialized RX3) (List.mem_of_getElem? (i := 4) rfl)
  have wk6 := hts (Cond.methodLink RX2 81 yX2_passTurn) (List.mem_of_getElem? (i := 6) rfl)
  have hinX2 : ∀ w ∈ wsX20, w ∈ wsX2_takeBid := fun _ h => (List.mem_cons_of_mem _ (List.mem_append_right _ h))
  refine lv_aload_n hx hb dX2_takeBid_0 rfl (lv_at hl 0 rfl) ?_
  refine va_get (D := G.1) (ci := 2) (v := .int (T 10 1)) (C := RX2) (T := TX2) (N := 13) hx hb hts hinX2 hown hK.1 hP 0 rfl rfl 11 (by decide) wk1 (fun _ h9 => h9) rfl dX2_takeBid_1 ?_
  refine cPN (As := [.int (T 10 1)]) (rest := []) ⟨hx, hb, hml, hown, hts⟩ (c_X3_isPlayer l G (T 10 1)) ⟨va_cnB (host := RX3) 1 hts gX2_takeBid_X3_isPlayer_n64 rfl rfl rfl hK.2.1.1 wk4 (by decide +kernel) ⟨Nat.le_of_ble_eq_true rfl, Nat.le_of_ble_eq_true rfl⟩, wk3, trivial⟩ hK (fun k q h => by simp at h) rfl rfl hl.1 (Nat.le_of_ble_eq_true rfl) dX2_takeBid_4 ⟨Nat.le_of_ble_eq_true rfl, Nat.le_of_ble_eq_true rfl⟩ ?_
  refine lv_if_eq (tgt := 20) hx hb dX2_takeBid_7 (by decide) (fun c_7_1 => ?_) (fun c_7_1 => ?_)
  · refine lv_aload_n hx hb dX2_takeBid_20 rfl (lv_at hl 0 rfl) ?_
    refine cAV (As := []) (rest := []) ⟨hx, hb, hml, hown, hts⟩ (c_X2_passTurn l G a T _) (cwV 0 hts gX2_takeBid_X2_passTurn rfl rfl rfl (by decide +kernel) ⟨Nat.le_of_ble_eq_true rfl, Nat.le_of_ble_eq_true rfl⟩) hK hP hD hS hA 0 (ci := 2) rfl rfl rfl rfl rfl hl.1 (Nat.le_of_ble_eq_true rfl) dX2_takeBid_21 ⟨Nat.le_of_ble_eq_true rfl, Nat.le_of_ble_eq_true rfl⟩ (fun u_2 H locs hr_2 hP hD hS => ?_)
    have hP : va_P G.1 vwCl (tw G a (pasT T)) H := hP
    have hD : va_D A (tw G a (pasT T)) := hD
    refine lv_aload_n hx hb dX2_takeBid_24 rfl (lv_at hl 0 rfl) ?_
    refine va_get (D := G.1) (ci := 2) (v := .int ((pasT T) 10 1)) (C := RX2) (T := TX2) (N := 13) hx hb hts hinX2 hown hK.1 hP 0 rfl rfl 11 (by decide) wk1 (fun _ h9 => h9) rfl dX2_takeBid_25 ?_
    have hf0 : (pasT T) = (takT T x) := (by simp only [takT, if_pos c_7_1])
    have hP : va_P G.1 vwCl (tw G a (takT T x)) H := by rw [← hf0]; exact hP
    have hD : va_D A (tw G a (takT T x)) := by rw [← hf0]; exact hD
    exact hret _ _ _ _ _ () (by simp only [takT, if_pos c_7_1]) hP hD hS dX2_takeBid_28
  · have hin_3 := isPb_in c_7_1
    refine lv_aload_n hx hb dX2_takeBid_10 rfl (lv_at hl 0 rfl) ?_
    refine va_get (D := G.1) (ci := 2) (v := .ref (a 6)) (C := RX2) (T := TX2) (N := 13) hx hb hts hinX2 hown hK.1 hP 0 rfl rfl 5 (by decide) wk2 (fun _ h9 => h9) rfl dX2_takeBid_11 ?_
    refine lv_aload_n hx hb dX2_takeBid_14 rfl (lv_at hl 0 rfl) ?_
    refine va_get (D := G.1) (ci := 2) (v := .int (T 10 1)) (C := RX2) (T := TX2) (N := 13) hx hb hts hinX2 hown hK.1 hP 0 rfl rfl 11 (by decide) wk1 (fun _ h9 => h9) rfl dX2_takeBid_15 ?_
    refine lv_iload_n hx hb dX2_takeBid_18 rfl (lv_at hl 1 rfl) ?_
    refine qist hx hb hK.1 hP hD hS 6 0 rfl rfl (k := ix (T 10 1)) rfl (by assumption) dX2_takeBid_19 (fun H locs hP hD hS => ?_)
    have hP : va_P G.1 vwCl (tw G a (tup T 5 (ix (T 10 1)) x)) H := hP
    have hD : va_D A (tw G a (tup T 5 (ix (T 10 1)) x)) := hD
    refine lv_aload_n hx hb dX2_takeBid_20 rfl (lv_at hl 0 rfl) ?_
    refine cAV (As := []) (rest := []) ⟨hx, hb, hml, hown, hts⟩ (c_X2_passTurn l G a (tup T 5 (ix (T 10 1)) x) _) (cwV 0 hts gX2_takeBid_X2_passTurn rfl rfl rfl (by decide +kernel) ⟨Nat.le_of_ble_eq_true rfl, Nat.le_of_ble_eq_true rfl⟩) hK hP hD hS hA 0 (ci := 2) rfl rfl rfl rfl rfl hl.1 (Nat.le_of_ble_eq_true rfl) dX2_takeBid_21 ⟨Nat.le_of_ble_eq_true rfl, Nat.le_of_ble_eq_true rfl⟩ (fun u_4 H locs hr_4 hP hD hS => ?_)
    have hP : va_P G.1 vwCl (tw G a (pasT (tup T 5 (ix (T 10 1)) x))) H := hP
    have hD : va_D A (tw G a (pasT (tup T 5 (ix (T 10 1)) x))) := hD
    refine lv_aload_n hx hb dX2_takeBid_24 rfl (lv_at hl 0 rfl) ?_
    refine va_get (D := G.1) (ci := 2) (v := .int ((pasT (tup T 5 (ix (T 10 1)) x)) 10 1)) (C := RX2) (T := TX2) (N := 13) hx hb hts hinX2 hown hK.1 hP 0 rfl rfl 11 (by decide) wk1 (fun _ h9 => h9) rfl dX2_takeBid_25 ?_
    have hf0 : (pasT (tup T 5 (ix (T 10 1)) x)) = (takT T x) := (by simp only [takT, if_neg c_7_1])
    have hP : va_P G.1 vwCl (tw G a (takT T x)) H := by rw [← hf0]; exact hP
    have hD : va_D A (tw G a (takT T x)) := by rw [← hf0]; exact hD
    exact hret _ _ _ _ _ () (by simp only [takT, if_neg c_7_1]) hP hD hS dX2_takeBid_28
set_option maxHeartbeats 4000000 in
set_option maxRecDepth 100000 in
theorem c_X2_pay (l : Launch) (G : qG) (a : Nat → Nat) (T : Tb) (x h k : Int32) (sz : Nat) : MV l yX2_pay wsX2_pay 1 20 G sz [.ref (a 0), .int x, .int h, .int k] (tw G a T) (tw G a (payT T x h k)) := by
  refine MV.of' (by decide) rfl (Nat.le_of_ble_eq_true rfl) ?_
  intro p e s m below meth c hx hb hml hown hts hK hsz hP A hAe hA hD hS hmn Q hret ls hl
  have hown : s.vm.findClass RX2 = some m.cls := hown
  have hl : lv_has ls 5 [(0, .ref (a 0)), (1, .int x), (2, .int h), (3, .int k)] := hl
  have wk1 := hts (Cond.fieldLink RX2 28 "TurnBids$Table" "bids" "[I") (List.mem_of_getElem? (i := 1) rfl)
  have wk2 := hts (Cond.constant RX2 27 (-100006)) (List.mem_of_getElem? (i := 2) rfl)
  have wk3 := hts (Cond.fieldLink RX2 18 "TurnBids$Table" "coins" "[I") (List.mem_of_getElem? (i := 3) rfl)
  have wk4 := hts (Cond.fieldLink RX2 34 "TurnBids$Table" "paid" "[I") (List.mem_of_getElem? (i := 4) rfl)
  have wk5 := hts (Cond.static yX3_isPlayer) (List.mem_of_getElem? (i := 5) rfl)
  have wk6 := hts (Cond.initialized RX3) (List.mem_of_getElem? (i := 6) rfl)
  have hinX2 : ∀ w ∈ wsX20, w ∈ wsX2_pay := fun _ h => (List.mem_cons_of_mem _ (List.mem_append_right _ h))
  refine lv_iload_n hx hb dX2_pay_0 rfl (lv_at hl 1 rfl) ?_
  refine cPN (As := [.int x]) (rest := []) ⟨hx, hb, hml, hown, hts⟩ (c_X3_isPlayer l G x) ⟨va_cnB (host := RX3) 1 hts gX2_pay_X3_isPlayer_n64 rfl rfl rfl hK.2.1.1 wk6 (by decide +kernel) ⟨Nat.le_of_ble_eq_true rfl, Nat.le_of_ble_eq_true rfl⟩, wk5, trivial⟩ hK (fun k q h => by simp at h) rfl rfl hl.1 (Nat.le_of_ble_eq_true rfl) dX2_pay_1 ⟨Nat.le_of_ble_eq_true rfl, Nat.le_of_ble_eq_true rfl⟩ ?_
  refine lv_if_eq (tgt := 18) hx hb dX2_pay_4 (by decide) (fun c_4_1 => ?_) (fun c_4_1 => ?_)
  · have hf0 : (T) = (payT T x h k) := (by simp only [payT, if_pos c_4_1])
    have hP : va_P G.1 vwCl (tw G a (payT T x h k)) s.heap := by rw [← hf0]; exact hP
    have hD : va_D A (tw G a (payT T x h k)) := by rw [← hf0]; exact hD
    exact hret _ _ _ _ () trivial hP hD hS dX2_pay_18
  · have hin_2 := isPb_in c_4_1
    refine lv_aload_n hx hb dX2_pay_7 rfl (lv_at hl 0 rfl) ?_
    refine va_get (D := G.1) (ci := 2) (v := .ref (a 6)) (C := RX2) (T := TX2) (N := 13) hx hb hts hinX2 hown hK.1 hP 0 rfl rfl 5 (by decide) wk1 (fun _ h9 => h9) rfl dX2_pay_8 ?_
    refine lv_iload_n hx hb dX2_pay_11 rfl (lv_at hl 1 rfl) ?_
    refine qild hx hb hK.1 hP 6 0 rfl rfl (k := ix x) rfl (by assumption) dX2_pay_12 ?_
    refine lv_ldc (v := (-100006)) hx hb hown wk2 dX2_pay_13 ?_
    refine lv_icmp_ne (tgt := 19) hx hb dX2_pay_15 (by decide) (fun c_15_3 => ?_) (fun c_15_3 => ?_)
    · refine lv_aload_n hx hb dX2_pay_19 rfl (lv_at hl 0 rfl) ?_
      refine va_get (D := G.1) (ci := 2) (v := .ref (a 6)) (C := RX2) (T := TX2) (N := 13) hx hb hts hinX2 hown hK.1 hP 0 rfl rfl 5 (by decide) wk1 (fun _ h9 => h9) rfl dX2_pay_20 ?_
      refine lv_iload_n hx hb dX2_pay_23 rfl (lv_at hl 1 rfl) ?_
      refine qild hx hb hK.1 hP 6 0 rfl rfl (k := ix x) rfl (by assumption) dX2_pay_24 ?_
      refine lv_iload_n hx hb dX2_pay_25 rfl (lv_at hl 2 rfl) ?_
      refine lv_imul hx hb dX2_pay_26 ?_
      refine lv_iload_n hx hb dX2_pay_27 rfl (lv_at hl 3 rfl) ?_
      refine lv_iadd hx hb dX2_pay_28 ?_
      refine lv_bipush (v := 100) hx hb dX2_pay_29 (by decide) ?_
      refine lv_idiv hx hb dX2_pay_31 (by decide) ?_
      refine lv_istore (lv' := [(4, .int ((((T 5 (ix x)) * h) + k) / 100)), (0, .ref (a 0)), (1, .int x), (2, .int h), (3, .int k)]) hx hb dX2_pay_32 hl (by decide) rfl (fun ls hl => ?_)
      refine lv_aload_n hx hb dX2_pay_34 rfl (lv_at hl 1 rfl) ?_
      refine va_get (D := G.1) (ci := 2) (v := .ref (a 3)) (C := RX2) (T := TX2) (N := 13) hx hb hts hinX2 hown hK.1 hP 0 rfl rfl 2 (by decide) wk3 (fun _ h9 => h9) rfl dX2_pay_35 ?_
      refine lv_iload_n hx hb dX2_pay_38 rfl (lv_at hl 2 rfl) ?_
      refine lv_dup2_11 hx hb dX2_pay_39 rfl rfl ?_
      refine qild hx hb hK.1 hP 3 0 rfl rfl (k := ix x) rfl (by assumption) dX2_pay_40 ?_
      refine lv_iload hx hb dX2_pay_41 (lv_at hl 0 rfl) ?_
      refine lv_isub hx hb dX2_pay_43 ?_
      refine qist hx hb hK.1 hP hD hS 3 0 rfl rfl (k := ix x) rfl (by assumption) dX2_pay_44 (fun H locs hP hD hS => ?_)
      have hP : va_P G.1 vwCl (tw G a (tup T 2 (ix x) ((T 2 (ix x)) - ((((T 5 (ix x)) * h) + k) / 100)))) H := hP
      have hD : va_D A (tw G a (tup T 2 (ix x) ((T 2 (ix x)) - ((((T 5 (ix x)) * h) + k) / 100)))) := hD
      refine lv_aload_n hx hb dX2_pay_45 rfl (lv_at hl 1 rfl) ?_
      refine va_get (D := G.1) (ci := 2) (v := .ref (a 8)) (C := RX2) (T := TX2) (N := 13) hx hb hts hinX2 hown hK.1 hP 0 rfl rfl 7 (by decide) wk4 (fun _ h9 => h9) rfl dX2_pay_46 ?_
      refine lv_iload_n hx hb dX2_pay_49 rfl (lv_at hl 2 rfl) ?_
      refine lv_dup2_11 hx hb dX2_pay_50 rfl rfl ?_
      refine qild hx hb hK.1 hP 8 0 rfl rfl (k := ix x) rfl (by assumption) dX2_pay_51 ?_
      refine lv_iload hx hb dX2_pay_52 (lv_at hl 0 rfl) ?_
      refine lv_iadd hx hb dX2_pay_54 ?_
      refine qist hx hb hK.1 hP hD hS 8 0 rfl rfl (k := ix x) rfl (by assumption) dX2_pay_55 (fun H locs hP hD hS => ?_)
      have hP : va_P G.1 vwCl (tw G a (tup (tup T 2 (ix x) ((T 2 (ix x)) - ((((T 5 (ix x)) * h) + k) / 100))) 7 (ix x) ((((tup T 2 (ix x) ((T 2 (ix x)) - ((((T 5 (ix x)) * h) + k) / 100))) 7) (ix x)) + ((((T 5 (ix x)) * h) + k) / 100)))) H := hP
      have hD : va_D A (tw G a (tup (tup T 2 (ix x) ((T 2 (ix x)) - ((((T 5 (ix x)) * h) + k) / 100))) 7 (ix x) ((((tup T 2 (ix x) ((T 2 (ix x)) - ((((T 5 (ix x)) * h) + k) / 100))) 7) (ix x)) + ((((T 5 (ix x)) * h) + k) / 100)))) := hD
      have hf0 : (tup (tup T 2 (ix x) ((T 2 (ix x)) - ((((T 5 (ix x)) * h) + k) / 100))) 7 (ix x) ((((tup T 2 (ix x) ((T 2 (ix x)) - ((((T 5 (ix x)) * h) + k) / 100))) 7) (ix x)) + ((((T 5 (ix x)) * h) + k) / 100))) = (payT T x h k) := (by simp only [payT, if_neg c_4_1, if_neg c_15_3])
      have hP : va_P G.1 vwCl (tw G a (payT T x h k)) H := by rw [← hf0]; exact hP
      have hD : va_D A (tw G a (payT T x h k)) := by rw [← hf0]; exact hD
      exact hret _ _ _ _ () trivial hP hD hS dX2_pay_56
    · have hf0 : (T) = (payT T x h k) := (by simp only [payT, if_neg c_4_1, if_pos c_15_3])
      have hP : va_P G.1 vwCl (tw G a (payT T x h k)) s.heap := by rw [← hf0]; exact hP
      have hD : va_D A (tw G a (payT T x h k)) := by rw [← hf0]; exact hD
      exact hret _ _ _ _ () trivial hP hD hS dX2_pay_18
set_option maxHeartbeats 4000000 in
set_option maxRecDepth 100000 in
theorem c_X2_prizeFor (l : Launch) (G : qG) (a : Nat → Nat) (T : Tb) (x : Int32) : MP l yX2_prizeFor wsX2_prizeFor 0 0 G [.ref (a 0), .int x] (tw G a T) (pfB T x) := by
  refine MP.of (ty := .int) (by decide) rfl (Nat.le_of_ble_eq_true rfl) rfl ?_
  intro p e s m below meth c hx hb hml hown hts hK hP Q hret ls hl
  have hown : s.vm.findClass RX2 = some m.cls := hown
  have hl : lv_has ls 5 [(0, .ref (a 0)), (1, .int x)] := hl
  have wk1 := hts (Cond.fieldLink RX2 15 "TurnBids$Table" "prizes" "[I") (List.mem_of_getElem? (i := 1) rfl)
  have hinX2 : ∀ w ∈ wsX20, w ∈ wsX2_prizeFor := fun _ h => (List.mem_cons_of_mem _ (List.mem_append_right _ h))
  refine lv_iconst (v := 0) hx hb dX2_prizeFor_0 (by decide) ?_
  refine lv_istore_n (lv' := [(2, .int 0), (0, .ref (a 0)), (1, .int x)]) hx hb dX2_prizeFor_1 rfl hl (by decide) rfl (fun ls hl => ?_)
  have L2 : ∀ (f i : Nat), i + f = 5 → pfL (T 1) x f i = pfB T x → ∀ ls : Array Slot, lv_has ls 5 [(2, .int (nI i)), (0, .ref (a 0)), (1, .int x)] → W p l e { frames := 0, cells := 0, slots := 0, locals := 0 } s m ([.ref (a 0), .int x] : List Value).toArray below meth c s.heap [] 0 0 Q (F0 m 2 ls []) := by
    intro f
    induction f with
    | zero =>
      intro i  hi hv2 ls hl
      obtain rfl : i = 5 := by omega
      refine lv_iload_n hx hb dX2_prizeFor_2 rfl (lv_at hl 0 rfl) ?_
      refine lv_iconst (v := 5) hx hb dX2_prizeFor_3 (by decide) ?_
      refine lv_icmp_ge (tgt := 83) hx hb dX2_prizeFor_4 (by decide) (fun _ => ?_) (fun c_9 => absurd (by decide +kernel) c_9)
      refine lv_iconst (v := 0) hx hb dX2_prizeFor_83 (by decide) ?_
      exact hret _ _ _ (by rw [← hv2]; simp only [pfB, pfL]) dX2_prizeFor_84
    | succ f ih =>
      intro i  hi hv2 ls hl
      have hlt : i < 5 := by omega
      refine lv_iload_n hx hb dX2_prizeFor_2 rfl (lv_at hl 0 rfl) ?_
      refine lv_iconst (v := 5) hx hb dX2_prizeFor_3 (by decide) ?_
      refine lv_icmp_ge (tgt := 83) hx hb dX2_prizeFor_4 (by decide) (fun c_9 => absurd c_9 (nI_ge (b := 5) hlt (by decide))) (fun _ => ?_)
      refine lv_iconst (v := 0) hx hb dX2_prizeFor_7 (by decide) ?_
      refine lv_istore_n (lv' := [(3, .int 0), (2, .int (nI i)), (0, .ref (a 0)), (1, .int x)]) hx hb dX2_prizeFor_8 rfl hl (by decide) rfl (fun ls hl => ?_)
      refine lv_iconst (v := 0) hx hb dX2_prizeFor_9 (by decide) ?_
      refine lv_istore (lv' := [(4, .int 0), (3, .int 0), (2, .int (nI i)), (0, .ref (a 0)), (1, .int x)]) hx hb dX2_prizeFor_10 hl (by decide) rfl (fun ls hl => ?_)
      have L12 : ∀ (f j : Nat) (v : Int32) (n : Int32), j + f = 5 → ahL (T 1) i f j n = v → (∀ ls : Array Slot, lv_has ls 5 [(4, .int (nI 5)), (3, .int v), (2, .int (nI i)), (0, .ref (a 0)), (1, .int x)] → W p l e { frames := 0, cells := 0, slots := 0, locals := 0 } s m ([.ref (a 0), .int x] : List Value).toArray below meth c s.heap [] 0 0 Q (F0 m 65 ls [])) → ∀ ls : Array Slot, lv_has ls 5 [(4, .int (nI j)), (3, .int n), (2, .int (nI i)), (0, .ref (a 0)), (1, .int x)] → W p l e { frames := 0, cells := 0, slots := 0, locals := 0 } s m ([.ref (a 0), .int x] : List Value).toArray below meth c s.heap [] 0 0 Q (F0 m 12 ls []) := by
        intro f
        induction f with
        | zero =>
          intro j v n hi hv12 kk ls hl
          obtain rfl : j = 5 := by omega
          refine lv_iload hx hb dX2_prizeFor_12 (lv_at hl 0 rfl) ?_
          refine lv_iconst (v := 5) hx hb dX2_prizeFor_14 (by decide) ?_
          refine lv_icmp_ge (tgt := 65) hx hb dX2_prizeFor_15 (by decide) (fun _ => ?_) (fun c_9 => absurd (by decide +kernel) c_9)
          have ho0 : n = v := (by rw [← hv12]; simp only [pfB, ahL])
          rw [ho0] at hl
          exact kk ls (lv_sub hl [0, 1, 2, 3, 4] rfl)
        | succ f ih =>
          intro j v n hi hv12 kk ls hl
          have hlt : j < 5 := by omega
          refine lv_iload hx hb dX2_prizeFor_12 (lv_at hl 0 rfl) ?_
          refine lv_iconst (v := 5) hx hb dX2_prizeFor_14 (by decide) ?_
          refine lv_icmp_ge (tgt := 65) hx hb dX2_prizeFor_15 (by decide) (fun c_9 => absurd c_9 (nI_ge (b := 5) hlt (by decide))) (fun _ => ?_)
          refine lv_aload_n hx hb dX2_prizeFor_18 rfl (lv_at hl 3 rfl) ?_
          refine va_get (D := G.1) (ci := 2) (v := .ref (a 2)) (C := RX2) (T := TX2) (N := 13) hx hb hts hinX2 hown hK.1 hP 0 rfl rfl 1 (by decide) wk1 (fun _ h9 => h9) rfl dX2_prizeFor_19 ?_
          refine lv_iload hx hb dX2_prizeFor_22 (lv_at hl 0 rfl) ?_
          refine qild hx hb hK.1 hP 2 0 rfl rfl (k := j) (nI_clamp (by omega)) (vp_in_nI (by omega) (by decide)) dX2_prizeFor_24 ?_
          refine lv_aload_n hx hb dX2_prizeFor_25 rfl (lv_at hl 3 rfl) ?_
          refine va_get (D := G.1) (ci := 2) (v := .ref (a 2)) (C := RX2) (T := TX2) (N := 13) hx hb hts hinX2 hown hK.1 hP 0 rfl rfl 1 (by decide) wk1 (fun _ h9 => h9) rfl dX2_prizeFor_26 ?_
          refine lv_iload_n hx hb dX2_prizeFor_29 rfl (lv_at hl 2 rfl) ?_
          refine qild hx hb hK.1 hP 2 0 rfl rfl (k := i) (nI_clamp (by omega)) (vp_in_nI (by omega) (by decide)) dX2_prizeFor_30 ?_
          refine lv_icmp_gt (tgt := 56) hx hb dX2_prizeFor_31 (by decide) (fun c_31_1 => ?_) (fun c_31_1 => ?_)
          · refine lv_iinc (v := n + 1) (lv' := [(3, .int (n + 1)), (4, .int (nI j)), (2, .int (nI i)), (0, .ref (a 0)), (1, .int x)]) hx hb dX2_prizeFor_56 hl (k := 1) rfl rfl (by decide) rfl (fun ls hl => ?_)
            refine lv_iinc (v := nI (j + 1)) (lv' := [(4, .int (nI (j + 1))), (3, .int (n + 1)), (2, .int (nI i)), (0, .ref (a 0)), (1, .int x)]) hx hb dX2_prizeFor_59 hl (k := 1) rfl (nI_1 _) (by decide) rfl (fun ls hl => ?_)
            refine lv_goto (tgt := 12) hx hb dX2_prizeFor_62 (by decide) ?_
            exact ih (j + 1) v (n + 1) (by omega) (by rw [← hv12]; simp only [pfB, ahL, if_pos c_31_1]) kk ls (lv_sub hl [0, 1, 2, 3, 4] rfl)
          · refine lv_aload_n hx hb dX2_prizeFor_34 rfl (lv_at hl 3 rfl) ?_
            refine va_get (D := G.1) (ci := 2) (v := .ref (a 2)) (C := RX2) (T := TX2) (N := 13) hx hb hts hinX2 hown hK.1 hP 0 rfl rfl 1 (by decide) wk1 (fun _ h9 => h9) rfl dX2_prizeFor_35 ?_
            refine lv_iload hx hb dX2_prizeFor_38 (lv_at hl 0 rfl) ?_
            refine qild hx hb hK.1 hP 2 0 rfl rfl (k := j) (nI_clamp (by omega)) (vp_in_nI (by omega) (by decide)) dX2_prizeFor_40 ?_
            refine lv_aload_n hx hb dX2_prizeFor_41 rfl (lv_at hl 3 rfl) ?_
            refine va_get (D := G.1) (ci := 2) (v := .ref (a 2)) (C := RX2) (T := TX2) (N := 13) hx hb hts hinX2 hown hK.1 hP 0 rfl rfl 1 (by decide) wk1 (fun _ h9 => h9) rfl dX2_prizeFor_42 ?_
            refine lv_iload_n hx hb dX2_prizeFor_45 rfl (lv_at hl 2 rfl) ?_
            refine qild hx hb hK.1 hP 2 0 rfl rfl (k := i) (nI_clamp (by omega)) (vp_in_nI (by omega) (by decide)) dX2_prizeFor_46 ?_
            refine lv_icmp_ne (tgt := 59) hx hb dX2_prizeFor_47 (by decide) (fun c_47_2 => ?_) (fun c_47_2 => ?_)
            · refine lv_iinc (v := nI (j + 1)) (lv' := [(4, .int (nI (j + 1))), (3, .int n), (2, .int (nI i)), (0, .ref (a 0)), (1, .int x)]) hx hb dX2_prizeFor_59 hl (k := 0) rfl (nI_1 _) (by decide) rfl (fun ls hl => ?_)
              refine lv_goto (tgt := 12) hx hb dX2_prizeFor_62 (by decide) ?_
              exact ih (j + 1) v n (by omega) (by rw [← hv12]; simp only [pfB, ahL, if_neg c_31_1, if_neg c_47_2]) kk ls (lv_sub hl [0, 1, 2, 3, 4] rfl)
            · refine lv_iload hx hb dX2_prizeFor_50 (lv_at hl 0 rfl) ?_
              refine lv_iload_n hx hb dX2_prizeFor_52 rfl (lv_at hl 2 rfl) ?_
              refine lv_icmp_ge (tgt := 59) hx hb dX2_prizeFor_53 (by decide) (fun c_53_3 => ?_) (fun c_53_3 => ?_)
              · refine lv_iinc (v := nI (j + 1)) (lv' := [(4, .int (nI (j + 1))), (3, .int n), (2, .int (nI i)), (0, .ref (a 0)), (1, .int x)]) hx hb dX2_prizeFor_59 hl (k := 0) rfl (nI_1 _) (by decide) rfl (fun ls hl => ?_)
                refine lv_goto (tgt := 12) hx hb dX2_prizeFor_62 (by decide) ?_
                exact ih (j + 1) v n (by omega) (by rw [← hv12]; simp only [pfB, ahL, if_neg c_31_1, if_pos c_47_2, if_pos c_53_3]) kk ls (lv_sub hl [0, 1, 2, 3, 4] rfl)
              · refine lv_iinc (v := n + 1) (lv' := [(3, .int (n + 1)), (4, .int (nI j)), (2, .int (nI i)), (0, .ref (a 0)), (1, .int x)]) hx hb dX2_prizeFor_56 hl (k := 1) rfl rfl (by decide) rfl (fun ls hl => ?_)
                refine lv_iinc (v := nI (j + 1)) (lv' := [(4, .int (nI (j + 1))), (3, .int (n + 1)), (2, .int (nI i)), (0, .ref (a 0)), (1, .int x)]) hx hb dX2_prizeFor_59 hl (k := 1) rfl (nI_1 _) (by decide) rfl (fun ls hl => ?_)
                refine lv_goto (tgt := 12) hx hb dX2_prizeFor_62 (by decide) ?_
                exact ih (j + 1) v (n + 1) (by omega) (by rw [← hv12]; simp only [pfB, ahL, if_neg c_31_1, if_pos c_47_2, if_neg c_53_3]) kk ls (lv_sub hl [0, 1, 2, 3, 4] rfl)
      refine L12 5 0 _ 0 rfl rfl (fun ls hl => ?_) ls (lv_sub hl [0, 1, 2, 3, 4] rfl)
      refine lv_iload_n hx hb dX2_prizeFor_65 rfl (lv_at hl 1 rfl) ?_
      refine lv_iload_n hx hb dX2_prizeFor_66 rfl (lv_at hl 4 rfl) ?_
      refine lv_icmp_ne (tgt := 77) hx hb dX2_prizeFor_67 (by decide) (fun c_67_4 => ?_) (fun c_67_4 => ?_)
      · refine lv_iinc (v := nI (i + 1)) (lv' := [(2, .int (nI (i + 1))), (4, .int (nI 5)), (3, .int (ahL (T 1) i 5 0 0)), (0, .ref (a 0)), (1, .int x)]) hx hb dX2_prizeFor_77 hl (k := 2) rfl (nI_1 _) (by decide) rfl (fun ls hl => ?_)
        refine lv_goto (tgt := 2) hx hb dX2_prizeFor_80 (by decide) ?_
        exact ih (i + 1)  (by omega) (by rw [← hv2]; simp only [pfB, pfL, if_neg c_67_4]) ls (lv_sub hl [0, 3, 4] rfl)
      · refine lv_aload_n hx hb dX2_prizeFor_70 rfl (lv_at hl 3 rfl) ?_
        refine va_get (D := G.1) (ci := 2) (v := .ref (a 2)) (C := RX2) (T := TX2) (N := 13) hx hb hts hinX2 hown hK.1 hP 0 rfl rfl 1 (by decide) wk1 (fun _ h9 => h9) rfl dX2_prizeFor_71 ?_
        refine lv_iload_n hx hb dX2_prizeFor_74 rfl (lv_at hl 2 rfl) ?_
        refine qild hx hb hK.1 hP 2 0 rfl rfl (k := i) (nI_clamp (by omega)) (vp_in_nI (by omega) (by decide)) dX2_prizeFor_75 ?_
        exact hret _ _ _ (by rw [← hv2]; simp only [pfB, pfL, if_pos c_67_4]) dX2_prizeFor_76
  exact L2 5 0  rfl (by simp only [pfB]) ls (lv_sub hl [0, 1, 2] rfl)
set_option maxHeartbeats 4000000 in
set_option maxRecDepth 100000 in
theorem c_X2_endAuction (l : Launch) (G : qG) (a : Nat → Nat) (T : Tb)  (sz : Nat) : MV l yX2_endAuction wsX2_endAuction 2 44 G sz [.ref (a 0)] (tw G a T) (tw G a (endT T)) := by
  refine MV.of' (by decide) rfl (Nat.le_of_ble_eq_true rfl) ?_
  intro p e s m below meth c hx hb hml hown hts hK hsz hP A hAe hA hD hS hmn Q hret ls hl
  have hown : s.vm.findClass RX2 = some m.cls := hown
  have hl : lv_has ls 3 [(0, .ref (a 0))] := hl
  have wk1 := hts (Cond.fieldLink RX2 31 "TurnBids$Table" "placesGot" "[I") (List.mem_of_getElem? (i := 1) rfl)
  have wk2 := hts (Cond.constant RX2 27 (-100006)) (List.mem_of_getElem? (i := 2) rfl)
  have wk3 := hts (Cond.fieldLink RX2 40 "TurnBids$Table" "won" "[I") (List.mem_of_getElem? (i := 3) rfl)
  have wk4 := hts (Cond.fieldLink RX2 9 "TurnBids$Table" "settings" "[I") (List.mem_of_getElem? (i := 4) rfl)
  have wk5 := hts (Cond.fieldLink RX2 24 "TurnBids$Table" "places" "[I") (List.mem_of_getElem? (i := 5) rfl)
  have wk6 := hts (Cond.fieldLink RX2 18 "TurnBids$Table" "coins" "[I") (List.mem_of_getElem? (i := 6) rfl)
  have wk7 := hts (Cond.methodLink RX2 117 Lib.Math.min.name) (List.mem_of_getElem? (i := 7) rfl)
  have wk8 := hts (Cond.static Lib.Math.min.name) (List.mem_of_getElem? (i := 8) rfl)
  have wk9 := hts (Cond.initialized "java/lang/Math") (List.mem_of_getElem? (i := 9) rfl)
  have wk10 := hts (Cond.code Lib.Math.min.name Lib.Math.min.code 2 (some .int)) (List.mem_of_getElem? (i := 10) rfl)
  have wk11 := hts (Cond.fieldLink RX2 37 "TurnBids$Table" "taken" "[I") (List.mem_of_getElem? (i := 11) rfl)
  have wk12 := hts (Cond.fieldLink RX2 28 "TurnBids$Table" "bids" "[I") (List.mem_of_getElem? (i := 12) rfl)
  have wk13 := hts (Cond.fieldLink RX2 43 "TurnBids$Table" "underWay" "Z") (List.mem_of_getElem? (i := 13) rfl)
  have wk14 := hts (Cond.fieldLink RX2 47 "TurnBids$Table" "turn" "I") (List.mem_of_getElem? (i := 14) rfl)
  have wk15 := hts (Cond.fieldLink RX2 51 "TurnBids$Table" "rounds" "I") (List.mem_of_getElem? (i := 15) rfl)
  have wk16 := hts (Cond.methodLink RX2 92 yX2_pay) (List.mem_of_getElem? (i := 16) rfl)
  have wk25 := hts (Cond.methodLink RX2 114 yX2_prizeFor) (List.mem_of_getElem? (i := 25) rfl)
  have hinX2 : ∀ w ∈ wsX20, w ∈ wsX2_endAuction := fun _ h => (List.mem_cons_of_mem _ (List.mem_append_right _ h))
  refine lv_iconst (v := 0) hx hb dX2_endAuction_0 (by decide) ?_
  refine lv_istore_n (lv' := [(1, .int 0), (0, .ref (a 0))]) hx hb dX2_endAuction_1 rfl hl (by decide) rfl (fun ls hl => ?_)
  have L2 : ∀ (f i : Nat)  (U : Tb), i + f = 5 → enZ (enL f i U) = endT T → ∀ (H : Heap) (locs : List Loc), va_P G.1 vwCl (tw G a U) H → va_D A (tw G a U) → va_S A s.heap H locs → ∀ ls : Array Slot, lv_has ls 3 [(1, .int (nI i)), (0, .ref (a 0))] → W p l e { frames := 2, cells := 0, slots := 0, locals := 44 } s m ([.ref (a 0)] : List Value).toArray below meth c H locs 0 0 Q (F0 m 2 ls []) := by
    intro f
    induction f with
    | zero =>
      intro i U hi hv2 H locs hP hD hS ls hl
      obtain rfl : i = 5 := by omega
      refine lv_iload_n hx hb dX2_endAuction_2 rfl (lv_at hl 0 rfl) ?_
      refine lv_iconst (v := 5) hx hb dX2_endAuction_3 (by decide) ?_
      refine lv_icmp_ge (tgt := 123) hx hb dX2_endAuction_4 (by decide) (fun _ => ?_) (fun c_9 => absurd (by decide +kernel) c_9)
      refine lv_aload_n hx hb dX2_endAuction_123 rfl (lv_at hl 1 rfl) ?_
      refine lv_iconst (v := 0) hx hb dX2_endAuction_124 (by decide) ?_
      refine va_put (D := G.1) (ci := 2) (v := .int 0) (ty := .boolean) (C := RX2) (T := TX2) (N := 13) hx hb hts hinX2 tyX2 tyX2_ok nmX2 hown hK.1 hP hD hS 0 rfl rfl 10 (by decide) wk13 (fun _ h9 => h9) rfl (by decide +kernel) rfl rfl (Nat.le_of_ble_eq_true rfl) dX2_endAuction_125 (fun H locs hP hD hS => ?_)
      have hP : va_P G.1 vwCl (tw G a (tup U 10 0 0)) H := hP
      have hD : va_D A (tw G a (tup U 10 0 0)) := hD
      refine lv_aload_n hx hb dX2_endAuction_128 rfl (lv_at hl 1 rfl) ?_
      refine lv_ldc (v := (-100006)) hx hb hown wk2 dX2_endAuction_129 ?_
      refine va_put (D := G.1) (ci := 2) (v := .int (-100006)) (ty := .int) (C := RX2) (T := TX2) (N := 13) hx hb hts hinX2 tyX2 tyX2_ok nmX2 hown hK.1 hP hD hS 0 rfl rfl 11 (by decide) wk14 (fun _ h9 => h9) rfl (by decide +kernel) rfl rfl (Nat.le_of_ble_eq_true rfl) dX2_endAuction_131 (fun H locs hP hD hS => ?_)
      have hP : va_P G.1 vwCl (tw G a (tup (tup U 10 0 0) 10 1 (-100006))) H := hP
      have hD : va_D A (tw G a (tup (tup U 10 0 0) 10 1 (-100006))) := hD
      refine lv_aload_n hx hb dX2_endAuction_134 rfl (lv_at hl 1 rfl) ?_
      refine lv_dup hx hb dX2_endAuction_135 rfl ?_
      refine va_get (D := G.1) (ci := 2) (v := .int ((tup (tup U 10 0 0) 10 1 (-100006)) 10 2)) (C := RX2) (T := TX2) (N := 13) hx hb hts hinX2 hown hK.1 hP 0 rfl rfl 12 (by decide) wk15 (fun _ h9 => h9) rfl dX2_endAuction_136 ?_
      refine lv_iconst (v := 1) hx hb dX2_endAuction_139 (by decide) ?_
      refine lv_iadd hx hb dX2_endAuction_140 ?_
      refine va_put (D := G.1) (ci := 2) (v := .int (((tup (tup U 10 0 0) 10 1 (-100006)) 10 2) + 1)) (ty := .int) (C := RX2) (T := TX2) (N := 13) hx hb hts hinX2 tyX2 tyX2_ok nmX2 hown hK.1 hP hD hS 0 rfl rfl 12 (by decide) wk15 (fun _ h9 => h9) rfl (by decide +kernel) rfl rfl (Nat.le_of_ble_eq_true rfl) dX2_endAuction_141 (fun H locs hP hD hS => ?_)
      have hP : va_P G.1 vwCl (tw G a (tup (tup (tup U 10 0 0) 10 1 (-100006)) 10 2 (((tup (tup U 10 0 0) 10 1 (-100006)) 10 2) + 1))) H := hP
      have hD : va_D A (tw G a (tup (tup (tup U 10 0 0) 10 1 (-100006)) 10 2 (((tup (tup U 10 0 0) 10 1 (-100006)) 10 2) + 1))) := hD
      obtain ⟨T_1, hT_1⟩ : ∃ w₀ : Tb, w₀ = tup (tup (tup U 10 0 0) 10 1 (-100006)) 10 2 (((tup (tup U 10 0 0) 10 1 (-100006)) 10 2) + 1) := ⟨_, rfl⟩
      have hP : va_P G.1 vwCl (tw G a T_1) H := by rw [hT_1]; exact hP
      have hD : va_D A (tw G a T_1) := by rw [hT_1]; exact hD
      have hf0 : (T_1) = (endT T) := (by subst hT_1; rw [← hv2]; simp only [endT, enZ, enS, en1, en2, en3, enA, enB, enL])
      have hP : va_P G.1 vwCl (tw G a (endT T)) H := by rw [← hf0]; exact hP
      have hD : va_D A (tw G a (endT T)) := by rw [← hf0]; exact hD
      exact hret _ _ _ _ () trivial hP hD hS dX2_endAuction_144
    | succ f ih =>
      intro i U hi hv2 H locs hP hD hS ls hl
      have hlt : i < 5 := by omega
      refine lv_iload_n hx hb dX2_endAuction_2 rfl (lv_at hl 0 rfl) ?_
      refine lv_iconst (v := 5) hx hb dX2_endAuction_3 (by decide) ?_
      refine lv_icmp_ge (tgt := 123) hx hb dX2_endAuction_4 (by decide) (fun c_9 => absurd c_9 (nI_ge (b := 5) hlt (by decide))) (fun _ => ?_)
      refine lv_aload_n hx hb dX2_endAuction_7 rfl (lv_at hl 1 rfl) ?_
      refine va_get (D := G.1) (ci := 2) (v := .ref (a 7)) (C := RX2) (T := TX2) (N := 13) hx hb hts hinX2 hown hK.1 hP 0 rfl rfl 6 (by decide) wk1 (fun _ h9 => h9) rfl dX2_endAuction_8 ?_
      refine lv_iload_n hx hb dX2_endAuction_11 rfl (lv_at hl 0 rfl) ?_
      refine qild hx hb hK.1 hP 7 0 rfl rfl (k := i) (nI_clamp (by omega)) (vp_in_nI (by omega) (by decide)) dX2_endAuction_12 ?_
      refine lv_ldc (v := (-100006)) hx hb hown wk2 dX2_endAuction_13 ?_
      refine lv_icmp_ne (tgt := 48) hx hb dX2_endAuction_15 (by decide) (fun c_15_2 => ?_) (fun c_15_2 => ?_)
      · refine lv_aload_n hx hb dX2_endAuction_48 rfl (lv_at hl 1 rfl) ?_
        refine va_get (D := G.1) (ci := 2) (v := .ref (a 5)) (C := RX2) (T := TX2) (N := 13) hx hb hts hinX2 hown hK.1 hP 0 rfl rfl 4 (by decide) wk5 (fun _ h9 => h9) rfl dX2_endAuction_49 ?_
        refine lv_iload_n hx hb dX2_endAuction_52 rfl (lv_at hl 0 rfl) ?_
        refine lv_aload_n hx hb dX2_endAuction_53 rfl (lv_at hl 1 rfl) ?_
        refine va_get (D := G.1) (ci := 2) (v := .ref (a 7)) (C := RX2) (T := TX2) (N := 13) hx hb hts hinX2 hown hK.1 hP 0 rfl rfl 6 (by decide) wk1 (fun _ h9 => h9) rfl dX2_endAuction_54 ?_
        refine lv_iload_n hx hb dX2_endAuction_57 rfl (lv_at hl 0 rfl) ?_
        refine qild hx hb hK.1 hP 7 0 rfl rfl (k := i) (nI_clamp (by omega)) (vp_in_nI (by omega) (by decide)) dX2_endAuction_58 ?_
        refine qist hx hb hK.1 hP hD hS 5 0 rfl rfl (k := i) (nI_clamp (by omega)) (vp_in_nI (by omega) (by decide)) dX2_endAuction_59 (fun H locs hP hD hS => ?_)
        have hP : va_P G.1 vwCl (tw G a (tup U 4 i (U 6 i))) H := hP
        have hD : va_D A (tw G a (tup U 4 i (U 6 i))) := hD
        refine lv_aload_n hx hb dX2_endAuction_60 rfl (lv_at hl 1 rfl) ?_
        refine lv_aload_n hx hb dX2_endAuction_61 rfl (lv_at hl 1 rfl) ?_
        refine va_get (D := G.1) (ci := 2) (v := .ref (a 5)) (C := RX2) (T := TX2) (N := 13) hx hb hts hinX2 hown hK.1 hP 0 rfl rfl 4 (by decide) wk5 (fun _ h9 => h9) rfl dX2_endAuction_62 ?_
        refine lv_iload_n hx hb dX2_endAuction_65 rfl (lv_at hl 0 rfl) ?_
        refine qild hx hb hK.1 hP 5 0 rfl rfl (k := i) (nI_clamp (by omega)) (vp_in_nI (by omega) (by decide)) dX2_endAuction_66 ?_
        refine cPV (As := [.int (((tup U 4 i (U 6 i)) 4) i)]) (rest := []) ⟨hx, hb, hml, hown, hts⟩ (c_X2_prizeFor l G a (tup U 4 i (U 6 i)) (((tup U 4 i (U 6 i)) 4) i)) (cwV 1 hts gX2_endAuction_X2_prizeFor rfl rfl rfl (by decide +kernel) ⟨Nat.le_of_ble_eq_true rfl, Nat.le_of_ble_eq_true rfl⟩) hK hP 0 (ci := 2) rfl rfl rfl rfl rfl hl.1 (Nat.le_of_ble_eq_true rfl) dX2_endAuction_67 ⟨Nat.le_of_ble_eq_true rfl, Nat.le_of_ble_eq_true rfl⟩ ?_
        refine lv_istore_n (lv' := [(2, .int (pfB (tup U 4 i (U 6 i)) (((tup U 4 i (U 6 i)) 4) i))), (1, .int (nI i)), (0, .ref (a 0))]) hx hb dX2_endAuction_70 rfl hl (by decide) rfl (fun ls hl => ?_)
        refine lv_aload_n hx hb dX2_endAuction_71 rfl (lv_at hl 2 rfl) ?_
        refine va_get (D := G.1) (ci := 2) (v := .ref (a 3)) (C := RX2) (T := TX2) (N := 13) hx hb hts hinX2 hown hK.1 hP 0 rfl rfl 2 (by decide) wk6 (fun _ h9 => h9) rfl dX2_endAuction_72 ?_
        refine lv_iload_n hx hb dX2_endAuction_75 rfl (lv_at hl 1 rfl) ?_
        refine lv_aload_n hx hb dX2_endAuction_76 rfl (lv_at hl 2 rfl) ?_
        refine va_get (D := G.1) (ci := 2) (v := .ref (a 3)) (C := RX2) (T := TX2) (N := 13) hx hb hts hinX2 hown hK.1 hP 0 rfl rfl 2 (by decide) wk6 (fun _ h9 => h9) rfl dX2_endAuction_77 ?_
        refine lv_iload_n hx hb dX2_endAuction_80 rfl (lv_at hl 1 rfl) ?_
        refine qild hx hb hK.1 hP 3 0 rfl rfl (k := i) (nI_clamp (by omega)) (vp_in_nI (by omega) (by decide)) dX2_endAuction_81 ?_
        refine lv_iload_n hx hb dX2_endAuction_82 rfl (lv_at hl 0 rfl) ?_
        refine lv_iadd hx hb dX2_endAuction_83 ?_
        refine lv_topi (fun x_3 hx_3 => ?_)
        refine lv_sipush (v := 9999) hx hb dX2_endAuction_84 (by decide) ?_
        refine va_mmin hx hb (hml.trans hl.1.symm) hown wk7 wk8 wk9 wk10 (Nat.le_of_ble_eq_true rfl) (Nat.le_of_ble_eq_true rfl) (Nat.le_of_ble_eq_true rfl) (Nat.le_of_ble_eq_true rfl) dX2_endAuction_87 ?_
        refine qist hx hb hK.1 hP hD hS 3 0 rfl rfl (k := i) (nI_clamp (by omega)) (vp_in_nI (by omega) (by decide)) dX2_endAuction_90 (fun H locs hP hD hS => ?_)
        have hP : va_P G.1 vwCl (tw G a (tup (tup U 4 i (U 6 i)) 2 i (if (9999 : Int32) < x_3 then 9999 else x_3))) H := hP
        have hD : va_D A (tw G a (tup (tup U 4 i (U 6 i)) 2 i (if (9999 : Int32) < x_3 then 9999 else x_3))) := hD
        refine lv_aload_n hx hb dX2_endAuction_91 rfl (lv_at hl 2 rfl) ?_
        refine va_get (D := G.1) (ci := 2) (v := .ref (a 9)) (C := RX2) (T := TX2) (N := 13) hx hb hts hinX2 hown hK.1 hP 0 rfl rfl 8 (by decide) wk11 (fun _ h9 => h9) rfl dX2_endAuction_92 ?_
        refine lv_iload_n hx hb dX2_endAuction_95 rfl (lv_at hl 1 rfl) ?_
        refine lv_dup2_11 hx hb dX2_endAuction_96 rfl rfl ?_
        refine qild hx hb hK.1 hP 9 0 rfl rfl (k := i) (nI_clamp (by omega)) (vp_in_nI (by omega) (by decide)) dX2_endAuction_97 ?_
        refine lv_iload_n hx hb dX2_endAuction_98 rfl (lv_at hl 0 rfl) ?_
        refine lv_iadd hx hb dX2_endAuction_99 ?_
        refine lv_topi (fun x_4 hx_4 => ?_)
        refine qist hx hb hK.1 hP hD hS 9 0 rfl rfl (k := i) (nI_clamp (by omega)) (vp_in_nI (by omega) (by decide)) dX2_endAuction_100 (fun H locs hP hD hS => ?_)
        have hP : va_P G.1 vwCl (tw G a (tup (tup (tup U 4 i (U 6 i)) 2 i (if (9999 : Int32) < x_3 then 9999 else x_3)) 8 i x_4)) H := hP
        have hD : va_D A (tw G a (tup (tup (tup U 4 i (U 6 i)) 2 i (if (9999 : Int32) < x_3 then 9999 else x_3)) 8 i x_4)) := hD
        refine lv_aload_n hx hb dX2_endAuction_101 rfl (lv_at hl 2 rfl) ?_
        refine va_get (D := G.1) (ci := 2) (v := .ref (a 7)) (C := RX2) (T := TX2) (N := 13) hx hb hts hinX2 hown hK.1 hP 0 rfl rfl 6 (by decide) wk1 (fun _ h9 => h9) rfl dX2_endAuction_102 ?_
        refine lv_iload_n hx hb dX2_endAuction_105 rfl (lv_at hl 1 rfl) ?_
        refine lv_ldc (v := (-100006)) hx hb hown wk2 dX2_endAuction_106 ?_
        refine qist hx hb hK.1 hP hD hS 7 0 rfl rfl (k := i) (nI_clamp (by omega)) (vp_in_nI (by omega) (by decide)) dX2_endAuction_108 (fun H locs hP hD hS => ?_)
        have hP : va_P G.1 vwCl (tw G a (tup (tup (tup (tup U 4 i (U 6 i)) 2 i (if (9999 : Int32) < x_3 then 9999 else x_3)) 8 i x_4) 6 i (-100006))) H := hP
        have hD : va_D A (tw G a (tup (tup (tup (tup U 4 i (U 6 i)) 2 i (if (9999 : Int32) < x_3 then 9999 else x_3)) 8 i x_4) 6 i (-100006))) := hD
        obtain ⟨T_5, hT_5⟩ : ∃ w₀ : Tb, w₀ = tup (tup (tup (tup U 4 i (U 6 i)) 2 i (if (9999 : Int32) < x_3 then 9999 else x_3)) 8 i x_4) 6 i (-100006) := ⟨_, rfl⟩
        have hP : va_P G.1 vwCl (tw G a T_5) H := by rw [hT_5]; exact hP
        have hD : va_D A (tw G a T_5) := by rw [hT_5]; exact hD
        refine lv_aload_n hx hb dX2_endAuction_109 rfl (lv_at hl 2 rfl) ?_
        refine va_get (D := G.1) (ci := 2) (v := .ref (a 6)) (C := RX2) (T := TX2) (N := 13) hx hb hts hinX2 hown hK.1 hP 0 rfl rfl 5 (by decide) wk12 (fun _ h9 => h9) rfl dX2_endAuction_110 ?_
        refine lv_iload_n hx hb dX2_endAuction_113 rfl (lv_at hl 1 rfl) ?_
        refine lv_ldc (v := (-100006)) hx hb hown wk2 dX2_endAuction_114 ?_
        refine qist hx hb hK.1 hP hD hS 6 0 rfl rfl (k := i) (nI_clamp (by omega)) (vp_in_nI (by omega) (by decide)) dX2_endAuction_116 (fun H locs hP hD hS => ?_)
        have hP : va_P G.1 vwCl (tw G a (tup T_5 5 i (-100006))) H := hP
        have hD : va_D A (tw G a (tup T_5 5 i (-100006))) := hD
        refine lv_iinc (v := nI (i + 1)) (lv' := [(1, .int (nI (i + 1))), (2, .int (pfB (tup U 4 i (U 6 i)) (((tup U 4 i (U 6 i)) 4) i))), (0, .ref (a 0))]) hx hb dX2_endAuction_117 hl (k := 1) rfl (nI_1 _) (by decide) rfl (fun ls hl => ?_)
        refine lv_goto (tgt := 2) hx hb dX2_endAuction_120 (by decide) ?_
        exact ih (i + 1)  (tup T_5 5 i (-100006)) (by omega) (by subst hx_3 hx_4 hT_5; rw [← hv2]; simp only [endT, enZ, enS, en1, en2, en3, enA, enB, enL, if_neg c_15_2]) _ _ hP hD hS ls (lv_sub hl [0, 2] rfl)
      · refine lv_aload_n hx hb dX2_endAuction_18 rfl (lv_at hl 1 rfl) ?_
        refine va_get (D := G.1) (ci := 2) (v := .ref (a 7)) (C := RX2) (T := TX2) (N := 13) hx hb hts hinX2 hown hK.1 hP 0 rfl rfl 6 (by decide) wk1 (fun _ h9 => h9) rfl dX2_endAuction_19 ?_
        refine lv_iload_n hx hb dX2_endAuction_22 rfl (lv_at hl 0 rfl) ?_
        refine lv_iconst (v := 0) hx hb dX2_endAuction_23 (by decide) ?_
        refine qist hx hb hK.1 hP hD hS 7 0 rfl rfl (k := i) (nI_clamp (by omega)) (vp_in_nI (by omega) (by decide)) dX2_endAuction_24 (fun H locs hP hD hS => ?_)
        have hP : va_P G.1 vwCl (tw G a (tup U 6 i 0)) H := hP
        have hD : va_D A (tw G a (tup U 6 i 0)) := hD
        refine lv_aload_n hx hb dX2_endAuction_25 rfl (lv_at hl 1 rfl) ?_
        refine va_get (D := G.1) (ci := 2) (v := .ref (a 10)) (C := RX2) (T := TX2) (N := 13) hx hb hts hinX2 hown hK.1 hP 0 rfl rfl 9 (by decide) wk3 (fun _ h9 => h9) rfl dX2_endAuction_26 ?_
        refine lv_iload_n hx hb dX2_endAuction_29 rfl (lv_at hl 0 rfl) ?_
        refine lv_dup2_11 hx hb dX2_endAuction_30 rfl rfl ?_
        refine qild hx hb hK.1 hP 10 0 rfl rfl (k := i) (nI_clamp (by omega)) (vp_in_nI (by omega) (by decide)) dX2_endAuction_31 ?_
        refine lv_iconst (v := 1) hx hb dX2_endAuction_32 (by decide) ?_
        refine lv_iadd hx hb dX2_endAuction_33 ?_
        refine qist hx hb hK.1 hP hD hS 10 0 rfl rfl (k := i) (nI_clamp (by omega)) (vp_in_nI (by omega) (by decide)) dX2_endAuction_34 (fun H locs hP hD hS => ?_)
        have hP : va_P G.1 vwCl (tw G a (tup (tup U 6 i 0) 9 i ((((tup U 6 i 0) 9) i) + 1))) H := hP
        have hD : va_D A (tw G a (tup (tup U 6 i 0) 9 i ((((tup U 6 i 0) 9) i) + 1))) := hD
        refine lv_aload_n hx hb dX2_endAuction_35 rfl (lv_at hl 1 rfl) ?_
        refine lv_iload_n hx hb dX2_endAuction_36 rfl (lv_at hl 0 rfl) ?_
        refine lv_aload_n hx hb dX2_endAuction_37 rfl (lv_at hl 1 rfl) ?_
        refine va_get (D := G.1) (ci := 2) (v := .ref (a 1)) (C := RX2) (T := TX2) (N := 13) hx hb hts hinX2 hown hK.1 hP 0 rfl rfl 0 (by decide) wk4 (fun _ h9 => h9) rfl dX2_endAuction_38 ?_
        refine lv_iconst (v := 2) hx hb dX2_endAuction_41 (by decide) ?_
        refine qild hx hb hK.1 hP 1 0 rfl rfl (k := 2) rfl (vp_in_nI (n := 2) (by decide) (by decide)) dX2_endAuction_42 ?_
        refine lv_bipush (v := 99) hx hb dX2_endAuction_43 (by decide) ?_
        refine cAV (As := [.int (nI i), .int (((tup (tup U 6 i 0) 9 i ((((tup U 6 i 0) 9) i) + 1)) 0) 2), .int 99]) (rest := []) ⟨hx, hb, hml, hown, hts⟩ (c_X2_pay l G a (tup (tup U 6 i 0) 9 i ((((tup U 6 i 0) 9) i) + 1)) (nI i) (((tup (tup U 6 i 0) 9 i ((((tup U 6 i 0) 9) i) + 1)) 0) 2) 99 _) (cwV 3 hts gX2_endAuction_X2_pay rfl rfl rfl (by decide +kernel) ⟨Nat.le_of_ble_eq_true rfl, Nat.le_of_ble_eq_true rfl⟩) hK hP hD hS hA 0 (ci := 2) rfl rfl rfl rfl rfl hl.1 (Nat.le_of_ble_eq_true rfl) dX2_endAuction_45 ⟨Nat.le_of_ble_eq_true rfl, Nat.le_of_ble_eq_true rfl⟩ (fun u_6 H locs hr_6 hP hD hS => ?_)
        have hP : va_P G.1 vwCl (tw G a (payT (tup (tup U 6 i 0) 9 i ((((tup U 6 i 0) 9) i) + 1)) (nI i) (((tup (tup U 6 i 0) 9 i ((((tup U 6 i 0) 9) i) + 1)) 0) 2) 99)) H := hP
        have hD : va_D A (tw G a (payT (tup (tup U 6 i 0) 9 i ((((tup U 6 i 0) 9) i) + 1)) (nI i) (((tup (tup U 6 i 0) 9 i ((((tup U 6 i 0) 9) i) + 1)) 0) 2) 99)) := hD
        obtain ⟨T_7, hT_7⟩ : ∃ w₀ : Tb, w₀ = payT (tup (tup U 6 i 0) 9 i ((((tup U 6 i 0) 9) i) + 1)) (nI i) (((tup (tup U 6 i 0) 9 i ((((tup U 6 i 0) 9) i) + 1)) 0) 2) 99 := ⟨_, rfl⟩
        have hP : va_P G.1 vwCl (tw G a T_7) H := by rw [hT_7]; exact hP
        have hD : va_D A (tw G a T_7) := by rw [hT_7]; exact hD
        refine lv_aload_n hx hb dX2_endAuction_48 rfl (lv_at hl 1 rfl) ?_
        refine va_get (D := G.1) (ci := 2) (v := .ref (a 5)) (C := RX2) (T := TX2) (N := 13) hx hb hts hinX2 hown hK.1 hP 0 rfl rfl 4 (by decide) wk5 (fun _ h9 => h9) rfl dX2_endAuction_49 ?_
        refine lv_iload_n hx hb dX2_endAuction_52 rfl (lv_at hl 0 rfl) ?_
        refine lv_aload_n hx hb dX2_endAuction_53 rfl (lv_at hl 1 rfl) ?_
        refine va_get (D := G.1) (ci := 2) (v := .ref (a 7)) (C := RX2) (T := TX2) (N := 13) hx hb hts hinX2 hown hK.1 hP 0 rfl rfl 6 (by decide) wk1 (fun _ h9 => h9) rfl dX2_endAuction_54 ?_
        refine lv_iload_n hx hb dX2_endAuction_57 rfl (lv_at hl 0 rfl) ?_
        refine qild hx hb hK.1 hP 7 0 rfl rfl (k := i) (nI_clamp (by omega)) (vp_in_nI (by omega) (by decide)) dX2_endAuction_58 ?_
        refine qist hx hb hK.1 hP hD hS 5 0 rfl rfl (k := i) (nI_clamp (by omega)) (vp_in_nI (by omega) (by decide)) dX2_endAuction_59 (fun H locs hP hD hS => ?_)
        have hP : va_P G.1 vwCl (tw G a (tup T_7 4 i (T_7 6 i))) H := hP
        have hD : va_D A (tw G a (tup T_7 4 i (T_7 6 i))) := hD
        refine lv_aload_n hx hb dX2_endAuction_60 rfl (lv_at hl 1 rfl) ?_
        refine lv_aload_n hx hb dX2_endAuction_61 rfl (lv_at hl 1 rfl) ?_
        refine va_get (D := G.1) (ci := 2) (v := .ref (a 5)) (C := RX2) (T := TX2) (N := 13) hx hb hts hinX2 hown hK.1 hP 0 rfl rfl 4 (by decide) wk5 (fun _ h9 => h9) rfl dX2_endAuction_62 ?_
        refine lv_iload_n hx hb dX2_endAuction_65 rfl (lv_at hl 0 rfl) ?_
        refine qild hx hb hK.1 hP 5 0 rfl rfl (k := i) (nI_clamp (by omega)) (vp_in_nI (by omega) (by decide)) dX2_endAuction_66 ?_
        refine cPV (As := [.int (((tup T_7 4 i (T_7 6 i)) 4) i)]) (rest := []) ⟨hx, hb, hml, hown, hts⟩ (c_X2_prizeFor l G a (tup T_7 4 i (T_7 6 i)) (((tup T_7 4 i (T_7 6 i)) 4) i)) (cwV 1 hts gX2_endAuction_X2_prizeFor rfl rfl rfl (by decide +kernel) ⟨Nat.le_of_ble_eq_true rfl, Nat.le_of_ble_eq_true rfl⟩) hK hP 0 (ci := 2) rfl rfl rfl rfl rfl hl.1 (Nat.le_of_ble_eq_true rfl) dX2_endAuction_67 ⟨Nat.le_of_ble_eq_true rfl, Nat.le_of_ble_eq_true rfl⟩ ?_
        refine lv_istore_n (lv' := [(2, .int (pfB (tup T_7 4 i (T_7 6 i)) (((tup T_7 4 i (T_7 6 i)) 4) i))), (1, .int (nI i)), (0, .ref (a 0))]) hx hb dX2_endAuction_70 rfl hl (by decide) rfl (fun ls hl => ?_)
        refine lv_aload_n hx hb dX2_endAuction_71 rfl (lv_at hl 2 rfl) ?_
        refine va_get (D := G.1) (ci := 2) (v := .ref (a 3)) (C := RX2) (T := TX2) (N := 13) hx hb hts hinX2 hown hK.1 hP 0 rfl rfl 2 (by decide) wk6 (fun _ h9 => h9) rfl dX2_endAuction_72 ?_
        refine lv_iload_n hx hb dX2_endAuction_75 rfl (lv_at hl 1 rfl) ?_
        refine lv_aload_n hx hb dX2_endAuction_76 rfl (lv_at hl 2 rfl) ?_
        refine va_get (D := G.1) (ci := 2) (v := .ref (a 3)) (C := RX2) (T := TX2) (N := 13) hx hb hts hinX2 hown hK.1 hP 0 rfl rfl 2 (by decide) wk6 (fun _ h9 => h9) rfl dX2_endAuction_77 ?_
        refine lv_iload_n hx hb dX2_endAuction_80 rfl (lv_at hl 1 rfl) ?_
        refine qild hx hb hK.1 hP 3 0 rfl rfl (k := i) (nI_clamp (by omega)) (vp_in_nI (by omega) (by decide)) dX2_endAuction_81 ?_
        refine lv_iload_n hx hb dX2_endAuction_82 rfl (lv_at hl 0 rfl) ?_
        refine lv_iadd hx hb dX2_endAuction_83 ?_
        refine lv_topi (fun x_8 hx_8 => ?_)
        refine lv_sipush (v := 9999) hx hb dX2_endAuction_84 (by decide) ?_
        refine va_mmin hx hb (hml.trans hl.1.symm) hown wk7 wk8 wk9 wk10 (Nat.le_of_ble_eq_true rfl) (Nat.le_of_ble_eq_true rfl) (Nat.le_of_ble_eq_true rfl) (Nat.le_of_ble_eq_true rfl) dX2_endAuction_87 ?_
        refine qist hx hb hK.1 hP hD hS 3 0 rfl rfl (k := i) (nI_clamp (by omega)) (vp_in_nI (by omega) (by decide)) dX2_endAuction_90 (fun H locs hP hD hS => ?_)
        have hP : va_P G.1 vwCl (tw G a (tup (tup T_7 4 i (T_7 6 i)) 2 i (if (9999 : Int32) < x_8 then 9999 else x_8))) H := hP
        have hD : va_D A (tw G a (tup (tup T_7 4 i (T_7 6 i)) 2 i (if (9999 : Int32) < x_8 then 9999 else x_8))) := hD
        refine lv_aload_n hx hb dX2_endAuction_91 rfl (lv_at hl 2 rfl) ?_
        refine va_get (D := G.1) (ci := 2) (v := .ref (a 9)) (C := RX2) (T := TX2) (N := 13) hx hb hts hinX2 hown hK.1 hP 0 rfl rfl 8 (by decide) wk11 (fun _ h9 => h9) rfl dX2_endAuction_92 ?_
        refine lv_iload_n hx hb dX2_endAuction_95 rfl (lv_at hl 1 rfl) ?_
        refine lv_dup2_11 hx hb dX2_endAuction_96 rfl rfl ?_
        refine qild hx hb hK.1 hP 9 0 rfl rfl (k := i) (nI_clamp (by omega)) (vp_in_nI (by omega) (by decide)) dX2_endAuction_97 ?_
        refine lv_iload_n hx hb dX2_endAuction_98 rfl (lv_at hl 0 rfl) ?_
        refine lv_iadd hx hb dX2_endAuction_99 ?_
        refine lv_topi (fun x_9 hx_9 => ?_)
        refine qist hx hb hK.1 hP hD hS 9 0 rfl rfl (k := i) (nI_clamp (by omega)) (vp_in_nI (by omega) (by decide)) dX2_endAuction_100 (fun H locs hP hD hS => ?_)
        have hP : va_P G.1 vwCl (tw G a (tup (tup (tup T_7 4 i (T_7 6 i)) 2 i (if (9999 : Int32) < x_8 then 9999 else x_8)) 8 i x_9)) H := hP
        have hD : va_D A (tw G a (tup (tup (tup T_7 4 i (T_7 6 i)) 2 i (if (9999 : Int32) < x_8 then 9999 else x_8)) 8 i x_9)) := hD
        refine lv_aload_n hx hb dX2_endAuction_101 rfl (lv_at hl 2 rfl) ?_
        refine va_get (D := G.1) (ci := 2) (v := .ref (a 7)) (C := RX2) (T := TX2) (N := 13) hx hb hts hinX2 hown hK.1 hP 0 rfl rfl 6 (by decide) wk1 (fun _ h9 => h9) rfl dX2_endAuction_102 ?_
        refine lv_iload_n hx hb dX2_endAuction_105 rfl (lv_at hl 1 rfl) ?_
        refine lv_ldc (v := (-100006)) hx hb hown wk2 dX2_endAuction_106 ?_
        refine qist hx hb hK.1 hP hD hS 7 0 rfl rfl (k := i) (nI_clamp (by omega)) (vp_in_nI (by omega) (by decide)) dX2_endAuction_108 (fun H locs hP hD hS => ?_)
        have hP : va_P G.1 vwCl (tw G a (tup (tup (tup (tup T_7 4 i (T_7 6 i)) 2 i (if (9999 : Int32) < x_8 then 9999 else x_8)) 8 i x_9) 6 i (-100006))) H := hP
        have hD : va_D A (tw G a (tup (tup (tup (tup T_7 4 i (T_7 6 i)) 2 i (if (9999 : Int32) < x_8 then 9999 else x_8)) 8 i x_9) 6 i (-100006))) := hD
        obtain ⟨T_10, hT_10⟩ : ∃ w₀ : Tb, w₀ = tup (tup (tup (tup T_7 4 i (T_7 6 i)) 2 i (if (9999 : Int32) < x_8 then 9999 else x_8)) 8 i x_9) 6 i (-100006) := ⟨_, rfl⟩
        have hP : va_P G.1 vwCl (tw G a T_10) H := by rw [hT_10]; exact hP
        have hD : va_D A (tw G a T_10) := by rw [hT_10]; exact hD
        refine lv_aload_n hx hb dX2_endAuction_109 rfl (lv_at hl 2 rfl) ?_
        refine va_get (D := G.1) (ci := 2) (v := .ref (a 6)) (C := RX2) (T := TX2) (N := 13) hx hb hts hinX2 hown hK.1 hP 0 rfl rfl 5 (by decide) wk12 (fun _ h9 => h9) rfl dX2_endAuction_110 ?_
        refine lv_iload_n hx hb dX2_endAuction_113 rfl (lv_at hl 1 rfl) ?_
        refine lv_ldc (v := (-100006)) hx hb hown wk2 dX2_endAuction_114 ?_
        refine qist hx hb hK.1 hP hD hS 6 0 rfl rfl (k := i) (nI_clamp (by omega)) (vp_in_nI (by omega) (by decide)) dX2_endAuction_116 (fun H locs hP hD hS => ?_)
        have hP : va_P G.1 vwCl (tw G a (tup T_10 5 i (-100006))) H := hP
        have hD : va_D A (tw G a (tup T_10 5 i (-100006))) := hD
        refine lv_iinc (v := nI (i + 1)) (lv' := [(1, .int (nI (i + 1))), (2, .int (pfB (tup T_7 4 i (T_7 6 i)) (((tup T_7 4 i (T_7 6 i)) 4) i))), (0, .ref (a 0))]) hx hb dX2_endAuction_117 hl (k := 1) rfl (nI_1 _) (by decide) rfl (fun ls hl => ?_)
        refine lv_goto (tgt := 2) hx hb dX2_endAuction_120 (by decide) ?_
        exact ih (i + 1)  (tup T_10 5 i (-100006)) (by omega) (by subst hT_7 hx_8 hx_9 hT_10; rw [← hv2]; simp only [endT, enZ, enS, en1, en2, en3, enA, enB, enL, if_pos c_15_2]) _ _ hP hD hS ls (lv_sub hl [0, 2] rfl)
  exact L2 5 0  T rfl (by simp only [endT, enZ, enS, en1, en2, en3, enA, enB]) _ _ hP hD hS ls (lv_sub hl [0, 1] rfl)
set_option maxHeartbeats 4000000 in
set_option maxRecDepth 100000 in
theorem c_X2_dropOut (l : Launch) (G : qG) (a : Nat → Nat) (T : Tb)  (sz : Nat) : MI l yX2_dropOut wsX2_dropOut 3 66 G sz [.ref (a 0)] (tw G a T) (drV T) (tw G a (drT T)) := by
  refine MI.of' (by decide) rfl (Nat.le_of_ble_eq_true rfl) ?_
  intro p e s m below meth c hx hb hml hown hts hK hsz hP A hAe hA hD hS Q hret ls hl
  have hown : s.vm.findClass RX2 = some m.cls := hown
  have hl : lv_has ls 2 [(0, .ref (a 0))] := hl
  have wk1 := hts (Cond.fieldLink RX2 47 "TurnBids$Table" "turn" "I") (List.mem_of_getElem? (i := 1) rfl)
  have wk2 := hts (Cond.constant RX2 27 (-100006)) (List.mem_of_getElem? (i := 2) rfl)
  have wk3 := hts (Cond.fieldLink RX2 31 "TurnBids$Table" "placesGot" "[I") (List.mem_of_getElem? (i := 3) rfl)
  have wk4 := hts (Cond.fieldLink RX2 9 "TurnBids$Table" "settings" "[I") (List.mem_of_getElem? (i := 4) rfl)
  have wk5 := hts (Cond.static yX3_isPlayer) (List.mem_of_getElem? (i := 5) rfl)
  have wk6 := hts (Cond.initialized RX3) (List.mem_of_getElem? (i := 6) rfl)
  have wk8 := hts (Cond.methodLink RX2 84 yX2_playersLeft) (List.mem_of_getElem? (i := 8) rfl)
  have wk14 := hts (Cond.methodLink RX2 87 yJ6_bitCount_0f7a4) (List.mem_of_getElem? (i := 14) rfl)
  have wk21 := hts (Cond.methodLink RX2 92 yX2_pay) (List.mem_of_getElem? (i := 21) rfl)
  have wk28 := hts (Cond.methodLink RX2 96 yX2_endAuction) (List.mem_of_getElem? (i := 28) rfl)
  have wk45 := hts (Cond.methodLink RX2 81 yX2_passTurn) (List.mem_of_getElem? (i := 45) rfl)
  have hinX2 : ∀ w ∈ wsX20, w ∈ wsX2_dropOut := fun _ h => (List.mem_cons_of_mem _ (List.mem_append_right _ h))
  refine lv_aload_n hx hb dX2_dropOut_0 rfl (lv_at hl 0 rfl) ?_
  refine va_get (D := G.1) (ci := 2) (v := .int (T 10 1)) (C := RX2) (T := TX2) (N := 13) hx hb hts hinX2 hown hK.1 hP 0 rfl rfl 11 (by decide) wk1 (fun _ h9 => h9) rfl dX2_dropOut_1 ?_
  refine cPN (As := [.int (T 10 1)]) (rest := []) ⟨hx, hb, hml, hown, hts⟩ (c_X3_isPlayer l G (T 10 1)) ⟨va_cnB (host := RX3) 1 hts gX2_dropOut_X3_isPlayer_n64 rfl rfl rfl hK.2.1.1 wk6 (by decide +kernel) ⟨Nat.le_of_ble_eq_true rfl, Nat.le_of_ble_eq_true rfl⟩, wk5, trivial⟩ hK (fun k q h => by simp at h) rfl rfl hl.1 (Nat.le_of_ble_eq_true rfl) dX2_dropOut_4 ⟨Nat.le_of_ble_eq_true rfl, Nat.le_of_ble_eq_true rfl⟩ ?_
  refine lv_if_ne (tgt := 13) hx hb dX2_dropOut_7 (by decide) (fun c_7_1 => ?_) (fun c_7_1 => ?_)
  · have hin_2 := isPb_in c_7_1
    refine lv_aload_n hx hb dX2_dropOut_13 rfl (lv_at hl 0 rfl) ?_
    refine cPV (As := []) (rest := []) ⟨hx, hb, hml, hown, hts⟩ (c_X2_playersLeft l G a T) (cwV 0 hts gX2_dropOut_X2_playersLeft rfl rfl rfl (by decide +kernel) ⟨Nat.le_of_ble_eq_true rfl, Nat.le_of_ble_eq_true rfl⟩) hK hP 0 (ci := 2) rfl rfl rfl rfl rfl hl.1 (Nat.le_of_ble_eq_true rfl) dX2_dropOut_14 ⟨Nat.le_of_ble_eq_true rfl, Nat.le_of_ble_eq_true rfl⟩ ?_
    refine cPS (As := [.int (plB T)]) (rest := []) ⟨hx, hb, hml, hown, hts⟩ (c_J6_bitCount_0f7a4 l G (plB T)) (va_cwS 1 hts gX2_dropOut_J6_bitCount_0f7a4 rfl rfl rfl (by decide +kernel) ⟨Nat.le_of_ble_eq_true rfl, Nat.le_of_ble_eq_true rfl⟩) hK (fun k q h => by simp at h) rfl rfl hl.1 (Nat.le_of_ble_eq_true rfl) dX2_dropOut_17 ⟨Nat.le_of_ble_eq_true rfl, Nat.le_of_ble_eq_true rfl⟩ ?_
    refine lv_iconst (v := 1) hx hb dX2_dropOut_20 (by decide) ?_
    refine lv_isub hx hb dX2_dropOut_21 ?_
    refine lv_istore_n (lv' := [(1, .int ((bitC (plB T)) - 1)), (0, .ref (a 0))]) hx hb dX2_dropOut_22 rfl hl (by decide) rfl (fun ls hl => ?_)
    refine lv_aload_n hx hb dX2_dropOut_23 rfl (lv_at hl 1 rfl) ?_
    refine va_get (D := G.1) (ci := 2) (v := .ref (a 7)) (C := RX2) (T := TX2) (N := 13) hx hb hts hinX2 hown hK.1 hP 0 rfl rfl 6 (by decide) wk3 (fun _ h9 => h9) rfl dX2_dropOut_24 ?_
    refine lv_aload_n hx hb dX2_dropOut_27 rfl (lv_at hl 1 rfl) ?_
    refine va_get (D := G.1) (ci := 2) (v := .int (T 10 1)) (C := RX2) (T := TX2) (N := 13) hx hb hts hinX2 hown hK.1 hP 0 rfl rfl 11 (by decide) wk1 (fun _ h9 => h9) rfl dX2_dropOut_28 ?_
    refine lv_iload_n hx hb dX2_dropOut_31 rfl (lv_at hl 0 rfl) ?_
    refine qist hx hb hK.1 hP hD hS 7 0 rfl rfl (k := ix (T 10 1)) rfl (by assumption) dX2_dropOut_32 (fun H locs hP hD hS => ?_)
    have hP : va_P G.1 vwCl (tw G a (tup T 6 (ix (T 10 1)) ((bitC (plB T)) - 1))) H := hP
    have hD : va_D A (tw G a (tup T 6 (ix (T 10 1)) ((bitC (plB T)) - 1))) := hD
    refine lv_aload_n hx hb dX2_dropOut_33 rfl (lv_at hl 1 rfl) ?_
    refine lv_aload_n hx hb dX2_dropOut_34 rfl (lv_at hl 1 rfl) ?_
    refine va_get (D := G.1) (ci := 2) (v := .int ((tup T 6 (ix (T 10 1)) ((bitC (plB T)) - 1)) 10 1)) (C := RX2) (T := TX2) (N := 13) hx hb hts hinX2 hown hK.1 hP 0 rfl rfl 11 (by decide) wk1 (fun _ h9 => h9) rfl dX2_dropOut_35 ?_
    refine lv_aload_n hx hb dX2_dropOut_38 rfl (lv_at hl 1 rfl) ?_
    refine va_get (D := G.1) (ci := 2) (v := .ref (a 1)) (C := RX2) (T := TX2) (N := 13) hx hb hts hinX2 hown hK.1 hP 0 rfl rfl 0 (by decide) wk4 (fun _ h9 => h9) rfl dX2_dropOut_39 ?_
    refine lv_iconst (v := 3) hx hb dX2_dropOut_42 (by decide) ?_
    refine qild hx hb hK.1 hP 1 0 rfl rfl (k := 3) rfl (vp_in_nI (n := 3) (by decide) (by decide)) dX2_dropOut_43 ?_
    refine lv_iconst (v := 0) hx hb dX2_dropOut_44 (by decide) ?_
    refine cAV (As := [.int ((tup T 6 (ix (T 10 1)) ((bitC (plB T)) - 1)) 10 1), .int (((tup T 6 (ix (T 10 1)) ((bitC (plB T)) - 1)) 0) 3), .int 0]) (rest := []) ⟨hx, hb, hml, hown, hts⟩ (c_X2_pay l G a (tup T 6 (ix (T 10 1)) ((bitC (plB T)) - 1)) ((tup T 6 (ix (T 10 1)) ((bitC (plB T)) - 1)) 10 1) (((tup T 6 (ix (T 10 1)) ((bitC (plB T)) - 1)) 0) 3) 0 _) (cwV 3 hts gX2_dropOut_X2_pay rfl rfl rfl (by decide +kernel) ⟨Nat.le_of_ble_eq_true rfl, Nat.le_of_ble_eq_true rfl⟩) hK hP hD hS hA 0 (ci := 2) rfl rfl rfl rfl rfl hl.1 (Nat.le_of_ble_eq_true rfl) dX2_dropOut_45 ⟨Nat.le_of_ble_eq_true rfl, Nat.le_of_ble_eq_true rfl⟩ (fun u_3 H locs hr_3 hP hD hS => ?_)
    have hP : va_P G.1 vwCl (tw G a (payT (tup T 6 (ix (T 10 1)) ((bitC (plB T)) - 1)) ((tup T 6 (ix (T 10 1)) ((bitC (plB T)) - 1)) 10 1) (((tup T 6 (ix (T 10 1)) ((bitC (plB T)) - 1)) 0) 3) 0)) H := hP
    have hD : va_D A (tw G a (payT (tup T 6 (ix (T 10 1)) ((bitC (plB T)) - 1)) ((tup T 6 (ix (T 10 1)) ((bitC (plB T)) - 1)) 10 1) (((tup T 6 (ix (T 10 1)) ((bitC (plB T)) - 1)) 0) 3) 0)) := hD
    refine lv_iload_n hx hb dX2_dropOut_48 rfl (lv_at hl 0 rfl) ?_
    refine lv_iconst (v := 1) hx hb dX2_dropOut_49 (by decide) ?_
    refine lv_icmp_ne (tgt := 60) hx hb dX2_dropOut_50 (by decide) (fun c_50_4 => ?_) (fun c_50_4 => ?_)
    · refine lv_aload_n hx hb dX2_dropOut_60 rfl (lv_at hl 1 rfl) ?_
      refine cAV (As := []) (rest := []) ⟨hx, hb, hml, hown, hts⟩ (c_X2_passTurn l G a (payT (tup T 6 (ix (T 10 1)) ((bitC (plB T)) - 1)) ((tup T 6 (ix (T 10 1)) ((bitC (plB T)) - 1)) 10 1) (((tup T 6 (ix (T 10 1)) ((bitC (plB T)) - 1)) 0) 3) 0) _) (cwV 0 hts gX2_dropOut_X2_passTurn rfl rfl rfl (by decide +kernel) ⟨Nat.le_of_ble_eq_true rfl, Nat.le_of_ble_eq_true rfl⟩) hK hP hD hS hA 0 (ci := 2) rfl rfl rfl rfl rfl hl.1 (Nat.le_of_ble_eq_true rfl) dX2_dropOut_61 ⟨Nat.le_of_ble_eq_true rfl, Nat.le_of_ble_eq_true rfl⟩ (fun u_5 H locs hr_5 hP hD hS => ?_)
      have hP : va_P G.1 vwCl (tw G a (pasT (payT (tup T 6 (ix (T 10 1)) ((bitC (plB T)) - 1)) ((tup T 6 (ix (T 10 1)) ((bitC (plB T)) - 1)) 10 1) (((tup T 6 (ix (T 10 1)) ((bitC (plB T)) - 1)) 0) 3) 0))) H := hP
      have hD : va_D A (tw G a (pasT (payT (tup T 6 (ix (T 10 1)) ((bitC (plB T)) - 1)) ((tup T 6 (ix (T 10 1)) ((bitC (plB T)) - 1)) 10 1) (((tup T 6 (ix (T 10 1)) ((bitC (plB T)) - 1)) 0) 3) 0))) := hD
      refine lv_aload_n hx hb dX2_dropOut_64 rfl (lv_at hl 1 rfl) ?_
      refine va_get (D := G.1) (ci := 2) (v := .int ((pasT (payT (tup T 6 (ix (T 10 1)) ((bitC (plB T)) - 1)) ((tup T 6 (ix (T 10 1)) ((bitC (plB T)) - 1)) 10 1) (((tup T 6 (ix (T 10 1)) ((bitC (plB T)) - 1)) 0) 3) 0)) 10 1)) (C := RX2) (T := TX2) (N := 13) hx hb hts hinX2 hown hK.1 hP 0 rfl rfl 11 (by decide) wk1 (fun _ h9 => h9) rfl dX2_dropOut_65 ?_
      have hf0 : (pasT (payT (tup T 6 (ix (T 10 1)) ((bitC (plB T)) - 1)) ((tup T 6 (ix (T 10 1)) ((bitC (plB T)) - 1)) 10 1) (((tup T 6 (ix (T 10 1)) ((bitC (plB T)) - 1)) 0) 3) 0)) = (drT T) := (by simp only [drV, drT, drB, drA, lfB, if_neg c_7_1, if_neg c_50_4])
      have hP : va_P G.1 vwCl (tw G a (drT T)) H := by rw [← hf0]; exact hP
      have hD : va_D A (tw G a (drT T)) := by rw [← hf0]; exact hD
      exact hret _ _ _ _ _ () (by simp only [drV, drT, drB, drA, lfB, if_neg c_7_1, if_neg c_50_4]) hP hD hS dX2_dropOut_68
    · refine lv_aload_n hx hb dX2_dropOut_53 rfl (lv_at hl 1 rfl) ?_
      refine cAV (As := []) (rest := []) ⟨hx, hb, hml, hown, hts⟩ (c_X2_endAuction l G a (payT (tup T 6 (ix (T 10 1)) ((bitC (plB T)) - 1)) ((tup T 6 (ix (T 10 1)) ((bitC (plB T)) - 1)) 10 1) (((tup T 6 (ix (T 10 1)) ((bitC (plB T)) - 1)) 0) 3) 0) _) (cwV 0 hts gX2_dropOut_X2_endAuction rfl rfl rfl (by decide +kernel) ⟨Nat.le_of_ble_eq_true rfl, Nat.le_of_ble_eq_true rfl⟩) hK hP hD hS hA 0 (ci := 2) rfl rfl rfl rfl rfl hl.1 (Nat.le_of_ble_eq_true rfl) dX2_dropOut_54 ⟨Nat.le_of_ble_eq_true rfl, Nat.le_of_ble_eq_true rfl⟩ (fun u_6 H locs hr_6 hP hD hS => ?_)
      have hP : va_P G.1 vwCl (tw G a (endT (payT (tup T 6 (ix (T 10 1)) ((bitC (plB T)) - 1)) ((tup T 6 (ix (T 10 1)) ((bitC (plB T)) - 1)) 10 1) (((tup T 6 (ix (T 10 1)) ((bitC (plB T)) - 1)) 0) 3) 0))) H := hP
      have hD : va_D A (tw G a (endT (payT (tup T 6 (ix (T 10 1)) ((bitC (plB T)) - 1)) ((tup T 6 (ix (T 10 1)) ((bitC (plB T)) - 1)) 10 1) (((tup T 6 (ix (T 10 1)) ((bitC (plB T)) - 1)) 0) 3) 0))) := hD
      refine lv_goto (tgt := 64) hx hb dX2_dropOut_57 (by decide) ?_
      refine lv_aload_n hx hb dX2_dropOut_64 rfl (lv_at hl 1 rfl) ?_
      refine va_get (D := G.1) (ci := 2) (v := .int ((endT (payT (tup T 6 (ix (T 10 1)) ((bitC (plB T)) - 1)) ((tup T 6 (ix (T 10 1)) ((bitC (plB T)) - 1)) 10 1) (((tup T 6 (ix (T 10 1)) ((bitC (plB T)) - 1)) 0) 3) 0)) 10 1)) (C := RX2) (T := TX2) (N := 13) hx hb hts hinX2 hown hK.1 hP 0 rfl rfl 11 (by decide) wk1 (fun _ h9 => h9) rfl dX2_dropOut_65 ?_
      have hf0 : (endT (payT (tup T 6 (ix (T 10 1)) ((bitC (plB T)) - 1)) ((tup T 6 (ix (T 10 1)) ((bitC (plB T)) - 1)) 10 1) (((tup T 6 (ix (T 10 1)) ((bitC (plB T)) - 1)) 0) 3) 0)) = (drT T) := (by simp only [drV, drT, drB, drA, lfB, if_neg c_7_1, if_pos c_50_4])
      have hP : va_P G.1 vwCl (tw G a (drT T)) H := by rw [← hf0]; exact hP
      have hD : va_D A (tw G a (drT T)) := by rw [← hf0]; exact hD
      exact hret _ _ _ _ _ () (by simp only [drV, drT, drB, drA, lfB, if_neg c_7_1, if_pos c_50_4]) hP hD hS dX2_dropOut_68
  · refine lv_ldc (v := (-100006)) hx hb hown wk2 dX2_dropOut_10 ?_
    have hf0 : (T) = (drT T) := (by simp only [drV, drT, drB, drA, lfB, if_pos c_7_1])
    have hP : va_P G.1 vwCl (tw G a (drT T)) s.heap := by rw [← hf0]; exact hP
    have hD : va_D A (tw G a (drT T)) := by rw [← hf0]; exact hD
    exact hret _ _ _ _ _ () (by simp only [drV, drT, drB, drA, lfB, if_pos c_7_1]) hP hD hS dX2_dropOut_12
set_option maxHeartbeats 4000000 in
set_option maxRecDepth 100000 in
theorem c_X2_actByLimit (l : Launch) (G : qG) (a : Nat → Nat) (T : Tb)  (sz : Nat) : MI l yX2_actByLimit wsX2_actByLimit 4 87 G sz [.ref (a 0)] (tw G a T) (acV T) (tw G a (acT T)) := by
  refine MI.of' (by decide) rfl (Nat.le_of_ble_eq_true rfl) ?_
  intro p e s m below meth c hx hb hml hown hts hK hsz hP A hAe hA hD hS Q hret ls hl
  have hown : s.vm.findClass RX2 = some m.cls := hown
  have hl : lv_has ls 2 [(0, .ref (a 0))] := hl
  have wk1 := hts (Cond.fieldLink RX2 47 "TurnBids$Table" "turn" "I") (List.mem_of_getElem? (i := 1) rfl)
  have wk2 := hts (Cond.fieldLink RX2 21 "TurnBids$Table" "limits" "[I") (List.mem_of_getElem? (i := 2) rfl)
  have wk3 := hts (Cond.methodLink RX2 74 yX2_leastBid) (List.mem_of_getElem? (i := 3) rfl)
  have wk16 := hts (Cond.static yX3_isPlayer) (List.mem_of_getElem? (i := 16) rfl)
  have wk17 := hts (Cond.initialized RX3) (List.mem_of_getElem? (i := 17) rfl)
  have wk19 := hts (Cond.methodLink RX2 99 yX2_mayBid) (List.mem_of_getElem? (i := 19) rfl)
  have wk24 := hts (Cond.methodLink RX2 102 yX2_takeBid) (List.mem_of_getElem? (i := 24) rfl)
  have wk38 := hts (Cond.methodLink RX2 105 yX2_dropOut) (List.mem_of_getElem? (i := 38) rfl)
  have hinX2 : ∀ w ∈ wsX20, w ∈ wsX2_actByLimit := fun _ h => (List.mem_cons_of_mem _ (List.mem_append_right _ h))
  refine lv_aload_n hx hb dX2_actByLimit_0 rfl (lv_at hl 0 rfl) ?_
  refine cPV (As := []) (rest := []) ⟨hx, hb, hml, hown, hts⟩ (c_X2_leastBid l G a T) (cwV 0 hts gX2_actByLimit_X2_leastBid rfl rfl rfl (by decide +kernel) ⟨Nat.le_of_ble_eq_true rfl, Nat.le_of_ble_eq_true rfl⟩) hK hP 0 (ci := 2) rfl rfl rfl rfl rfl hl.1 (Nat.le_of_ble_eq_true rfl) dX2_actByLimit_1 ⟨Nat.le_of_ble_eq_true rfl, Nat.le_of_ble_eq_true rfl⟩ ?_
  refine lv_istore_n (lv' := [(1, .int (leB T)), (0, .ref (a 0))]) hx hb dX2_actByLimit_4 rfl hl (by decide) rfl (fun ls hl => ?_)
  refine lv_aload_n hx hb dX2_actByLimit_5 rfl (lv_at hl 1 rfl) ?_
  refine va_get (D := G.1) (ci := 2) (v := .int (T 10 1)) (C := RX2) (T := TX2) (N := 13) hx hb hts hinX2 hown hK.1 hP 0 rfl rfl 11 (by decide) wk1 (fun _ h9 => h9) rfl dX2_actByLimit_6 ?_
  refine cPN (As := [.int (T 10 1)]) (rest := []) ⟨hx, hb, hml, hown, hts⟩ (c_X3_isPlayer l G (T 10 1)) ⟨va_cnB (host := RX3) 1 hts gX2_actByLimit_X3_isPlayer_n64 rfl rfl rfl hK.2.1.1 wk17 (by decide +kernel) ⟨Nat.le_of_ble_eq_true rfl, Nat.le_of_ble_eq_true rfl⟩, wk16, trivial⟩ hK (fun k q h => by simp at h) rfl rfl hl.1 (Nat.le_of_ble_eq_true rfl) dX2_actByLimit_9 ⟨Nat.le_of_ble_eq_true rfl, Nat.le_of_ble_eq_true rfl⟩ ?_
  refine lv_if_eq (tgt := 42) hx hb dX2_actByLimit_12 (by decide) (fun c_12_1 => ?_) (fun c_12_1 => ?_)
  · refine lv_aload_n hx hb dX2_actByLimit_42 rfl (lv_at hl 1 rfl) ?_
    refine cAI (As := []) (rest := []) ⟨hx, hb, hml, hown, hts⟩ (c_X2_dropOut l G a T _) (cwV 0 hts gX2_actByLimit_X2_dropOut rfl rfl rfl (by decide +kernel) ⟨Nat.le_of_ble_eq_true rfl, Nat.le_of_ble_eq_true rfl⟩) hK hP hD hS hA 0 (ci := 2) rfl rfl rfl rfl rfl hl.1 (Nat.le_of_ble_eq_true rfl) dX2_actByLimit_43 ⟨Nat.le_of_ble_eq_true rfl, Nat.le_of_ble_eq_true rfl⟩ (fun r_2 u_2 H locs hr_2 hP hD hS => ?_)
    have hr_2 : r_2 = drV T := hr_2
    subst hr_2
    have hP : va_P G.1 vwCl (tw G a (drT T)) H := hP
    have hD : va_D A (tw G a (drT T)) := hD
    have hf0 : (drT T) = (acT T) := (by simp only [acV, acT, if_pos c_12_1])
    have hP : va_P G.1 vwCl (tw G a (acT T)) H := by rw [← hf0]; exact hP
    have hD : va_D A (tw G a (acT T)) := by rw [← hf0]; exact hD
    exact hret _ _ _ _ _ () (by simp only [acV, acT, if_pos c_12_1]) hP hD hS dX2_actByLimit_46
  · have hin_3 := isPb_in c_12_1
    refine lv_iload_n hx hb dX2_actByLimit_15 rfl (lv_at hl 0 rfl) ?_
    refine lv_aload_n hx hb dX2_actByLimit_16 rfl (lv_at hl 1 rfl) ?_
    refine va_get (D := G.1) (ci := 2) (v := .ref (a 4)) (C := RX2) (T := TX2) (N := 13) hx hb hts hinX2 hown hK.1 hP 0 rfl rfl 3 (by decide) wk2 (fun _ h9 => h9) rfl dX2_actByLimit_17 ?_
    refine lv_aload_n hx hb dX2_actByLimit_20 rfl (lv_at hl 1 rfl) ?_
    refine va_get (D := G.1) (ci := 2) (v := .int (T 10 1)) (C := RX2) (T := TX2) (N := 13) hx hb hts hinX2 hown hK.1 hP 0 rfl rfl 11 (by decide) wk1 (fun _ h9 => h9) rfl dX2_actByLimit_21 ?_
    refine qild hx hb hK.1 hP 4 0 rfl rfl (k := ix (T 10 1)) rfl (by assumption) dX2_actByLimit_24 ?_
    refine lv_icmp_gt (tgt := 42) hx hb dX2_actByLimit_25 (by decide) (fun c_25_4 => ?_) (fun c_25_4 => ?_)
    · refine lv_aload_n hx hb dX2_actByLimit_42 rfl (lv_at hl 1 rfl) ?_
      refine cAI (As := []) (rest := []) ⟨hx, hb, hml, hown, hts⟩ (c_X2_dropOut l G a T _) (cwV 0 hts gX2_actByLimit_X2_dropOut rfl rfl rfl (by decide +kernel) ⟨Nat.le_of_ble_eq_true rfl, Nat.le_of_ble_eq_true rfl⟩) hK hP hD hS hA 0 (ci := 2) rfl rfl rfl rfl rfl hl.1 (Nat.le_of_ble_eq_true rfl) dX2_actByLimit_43 ⟨Nat.le_of_ble_eq_true rfl, Nat.le_of_ble_eq_true rfl⟩ (fun r_5 u_5 H locs hr_5 hP hD hS => ?_)
      have hr_5 : r_5 = drV T := hr_5
      subst hr_5
      have hP : va_P G.1 vwCl (tw G a (drT T)) H := hP
      have hD : va_D A (tw G a (drT T)) := hD
      have hf0 : (drT T) = (acT T) := (by simp only [acV, acT, if_neg c_12_1, if_pos c_25_4])
      have hP : va_P G.1 vwCl (tw G a (acT T)) H := by rw [← hf0]; exact hP
      have hD : va_D A (tw G a (acT T)) := by rw [← hf0]; exact hD
      exact hret _ _ _ _ _ () (by simp only [acV, acT, if_neg c_12_1, if_pos c_25_4]) hP hD hS dX2_actByLimit_46
    · refine lv_aload_n hx hb dX2_actByLimit_28 rfl (lv_at hl 1 rfl) ?_
      refine lv_iload_n hx hb dX2_actByLimit_29 rfl (lv_at hl 0 rfl) ?_
      refine cPV (As := [.int (leB T)]) (rest := []) ⟨hx, hb, hml, hown, hts⟩ (c_X2_mayBid l G a T (leB T)) (cwV 1 hts gX2_actByLimit_X2_mayBid rfl rfl rfl (by decide +kernel) ⟨Nat.le_of_ble_eq_true rfl, Nat.le_of_ble_eq_true rfl⟩) hK hP 0 (ci := 2) rfl rfl rfl rfl rfl hl.1 (Nat.le_of_ble_eq_true rfl) dX2_actByLimit_30 ⟨Nat.le_of_ble_eq_true rfl, Nat.le_of_ble_eq_true rfl⟩ ?_
      refine lv_if_eq (tgt := 42) hx hb dX2_actByLimit_33 (by decide) (fun c_33_6 => ?_) (fun c_33_6 => ?_)
      · refine lv_aload_n hx hb dX2_actByLimit_42 rfl (lv_at hl 1 rfl) ?_
        refine cAI (As := []) (rest := []) ⟨hx, hb, hml, hown, hts⟩ (c_X2_dropOut l G a T _) (cwV 0 hts gX2_actByLimit_X2_dropOut rfl rfl rfl (by decide +kernel) ⟨Nat.le_of_ble_eq_true rfl, Nat.le_of_ble_eq_true rfl⟩) hK hP hD hS hA 0 (ci := 2) rfl rfl rfl rfl rfl hl.1 (Nat.le_of_ble_eq_true rfl) dX2_actByLimit_43 ⟨Nat.le_of_ble_eq_true rfl, Nat.le_of_ble_eq_true rfl⟩ (fun r_7 u_7 H locs hr_7 hP hD hS => ?_)
        have hr_7 : r_7 = drV T := hr_7
        subst hr_7
        have hP : va_P G.1 vwCl (tw G a (drT T)) H := hP
        have hD : va_D A (tw G a (drT T)) := hD
        have hf0 : (drT T) = (acT T) := (by simp only [acV, acT, if_neg c_12_1, if_neg c_25_4, if_pos c_33_6])
        have hP : va_P G.1 vwCl (tw G a (acT T)) H := by rw [← hf0]; exact hP
        have hD : va_D A (tw G a (acT T)) := by rw [← hf0]; exact hD
        exact hret _ _ _ _ _ () (by simp only [acV, acT, if_neg c_12_1, if_neg c_25_4, if_pos c_33_6]) hP hD hS dX2_actByLimit_46
      · refine lv_aload_n hx hb dX2_actByLimit_36 rfl (lv_at hl 1 rfl) ?_
        refine lv_iload_n hx hb dX2_actByLimit_37 rfl (lv_at hl 0 rfl) ?_
        refine cAI (As := [.int (leB T)]) (rest := []) ⟨hx, hb, hml, hown, hts⟩ (c_X2_takeBid l G a T (leB T) _) (cwV 1 hts gX2_actByLimit_X2_takeBid rfl rfl rfl (by decide +kernel) ⟨Nat.le_of_ble_eq_true rfl, Nat.le_of_ble_eq_true rfl⟩) hK hP hD hS hA 0 (ci := 2) rfl rfl rfl rfl rfl hl.1 (Nat.le_of_ble_eq_true rfl) dX2_actByLimit_38 ⟨Nat.le_of_ble_eq_true rfl, Nat.le_of_ble_eq_true rfl⟩ (fun r_8 u_8 H locs hr_8 hP hD hS => ?_)
        have hr_8 : r_8 = takT T (leB T) 10 1 := hr_8
        subst hr_8
        have hP : va_P G.1 vwCl (tw G a (takT T (leB T))) H := hP
        have hD : va_D A (tw G a (takT T (leB T))) := hD
        have hf0 : (takT T (leB T)) = (acT T) := (by simp only [acV, acT, if_neg c_12_1, if_neg c_25_4, if_neg c_33_6])
        have hP : va_P G.1 vwCl (tw G a (acT T)) H := by rw [← hf0]; exact hP
        have hD : va_D A (tw G a (acT T)) := by rw [← hf0]; exact hD
        exact hret _ _ _ _ _ () (by simp only [acV, acT, if_neg c_12_1, if_neg c_25_4, if_neg c_33_6]) hP hD hS dX2_actByLimit_41
set_option maxHeartbeats 4000000 in
set_option maxRecDepth 100000 in
theorem c_X2_playRound (l : Launch) (G : qG) (a : Nat → Nat) (T : Tb)  (sz : Nat) : MI l yX2_playRound wsX2_playRound 5 108 G sz [.ref (a 0)] (tw G a T) (nI (prR T).2) (tw G a ((prR T).1)) := by
  refine MI.of' (by decide) rfl (Nat.le_of_ble_eq_true rfl) ?_
  intro p e s m below meth c hx hb hml hown hts hK hsz hP A hAe hA hD hS Q hret ls hl
  have hown : s.vm.findClass RX2 = some m.cls := hown
  have hl : lv_has ls 2 [(0, .ref (a 0))] := hl
  have wk1 := hts (Cond.fieldLink RX2 43 "TurnBids$Table" "underWay" "Z") (List.mem_of_getElem? (i := 1) rfl)
  have wk2 := hts (Cond.methodLink RX2 108 yX2_start) (List.mem_of_getElem? (i := 2) rfl)
  have wk14 := hts (Cond.methodLink RX2 111 yX2_actByLimit) (List.mem_of_getElem? (i := 14) rfl)
  have hinX2 : ∀ w ∈ wsX20, w ∈ wsX2_playRound := fun _ h => (List.mem_cons_of_mem _ (List.mem_append_right _ h))
  have L14 : ∀ (f n : Nat)  (U : Tb), n + f = 10000 → prL f n U = prR T → ∀ (H : Heap) (locs : List Loc), va_P G.1 vwCl (tw G a U) H → va_D A (tw G a U) → va_S A s.heap H locs → ∀ ls : Array Slot, lv_has ls 2 [(1, .int (nI n)), (0, .ref (a 0))] → W p l e { frames := 5, cells := 0, slots := 0, locals := 108 } s m ([.ref (a 0)] : List Value).toArray below meth c H locs 0 0 Q (F0 m 14 ls []) := by
    intro f
    induction f with
    | zero =>
      intro n U hi hv14 H locs hP hD hS ls hl
      obtain rfl : n = 10000 := by omega
      refine lv_aload_n hx hb dX2_playRound_14 rfl (lv_at hl 1 rfl) ?_
      refine va_get (D := G.1) (ci := 2) (v := .int (U 10 0)) (C := RX2) (T := TX2) (N := 13) hx hb hts hinX2 hown hK.1 hP 0 rfl rfl 10 (by decide) wk1 (fun _ h9 => h9) rfl dX2_playRound_15 ?_
      refine lv_if_eq (tgt := 39) hx hb dX2_playRound_18 (by decide) (fun c_18_1 => ?_) (fun c_18_1 => ?_)
      · refine lv_iload_n hx hb dX2_playRound_39 rfl (lv_at hl 0 rfl) ?_
        have hf0 : (U) = ((prR T).1) := (by rw [← hv14]; simp only [prR, prL, if_pos c_18_1])
        have hP : va_P G.1 vwCl (tw G a ((prR T).1)) H := by rw [← hf0]; exact hP
        have hD : va_D A (tw G a ((prR T).1)) := by rw [← hf0]; exact hD
        exact hret _ _ _ _ _ () (by rw [← hv14]; simp only [prR, prL, if_pos c_18_1]) hP hD hS dX2_playRound_40
      · refine lv_iload_n hx hb dX2_playRound_21 rfl (lv_at hl 0 rfl) ?_
        refine lv_sipush (v := 10000) hx hb dX2_playRound_22 (by decide) ?_
        refine lv_icmp_ge (tgt := 39) hx hb dX2_playRound_25 (by decide) (fun _ => ?_) (fun c_9 => absurd (by decide +kernel) c_9)
        refine lv_iload_n hx hb dX2_playRound_39 rfl (lv_at hl 0 rfl) ?_
        have hf0 : (U) = ((prR T).1) := (by rw [← hv14]; simp only [prR, prL, if_neg c_18_1])
        have hP : va_P G.1 vwCl (tw G a ((prR T).1)) H := by rw [← hf0]; exact hP
        have hD : va_D A (tw G a ((prR T).1)) := by rw [← hf0]; exact hD
        exact hret _ _ _ _ _ () (by rw [← hv14]; simp only [prR, prL, if_neg c_18_1]) hP hD hS dX2_playRound_40
    | succ f ih =>
      intro n U hi hv14 H locs hP hD hS ls hl
      have hlt : n < 10000 := by omega
      refine lv_aload_n hx hb dX2_playRound_14 rfl (lv_at hl 1 rfl) ?_
      refine va_get (D := G.1) (ci := 2) (v := .int (U 10 0)) (C := RX2) (T := TX2) (N := 13) hx hb hts hinX2 hown hK.1 hP 0 rfl rfl 10 (by decide) wk1 (fun _ h9 => h9) rfl dX2_playRound_15 ?_
      refine lv_if_eq (tgt := 39) hx hb dX2_playRound_18 (by decide) (fun c_18_2 => ?_) (fun c_18_2 => ?_)
      · refine lv_iload_n hx hb dX2_playRound_39 rfl (lv_at hl 0 rfl) ?_
        have hf0 : (U) = ((prR T).1) := (by rw [← hv14]; simp only [prR, prL, if_pos c_18_2])
        have hP : va_P G.1 vwCl (tw G a ((prR T).1)) H := by rw [← hf0]; exact hP
        have hD : va_D A (tw G a ((prR T).1)) := by rw [← hf0]; exact hD
        exact hret _ _ _ _ _ () (by rw [← hv14]; simp only [prR, prL, if_pos c_18_2]) hP hD hS dX2_playRound_40
      · refine lv_iload_n hx hb dX2_playRound_21 rfl (lv_at hl 0 rfl) ?_
        refine lv_sipush (v := 10000) hx hb dX2_playRound_22 (by decide) ?_
        refine lv_icmp_ge (tgt := 39) hx hb dX2_playRound_25 (by decide) (fun c_9 => absurd c_9 (nI_ge (b := 10000) hlt (by decide))) (fun _ => ?_)
        refine lv_aload_n hx hb dX2_playRound_28 rfl (lv_at hl 1 rfl) ?_
        refine cAI (As := []) (rest := []) ⟨hx, hb, hml, hown, hts⟩ (c_X2_actByLimit l G a U _) (cwV 0 hts gX2_playRound_X2_actByLimit rfl rfl rfl (by decide +kernel) ⟨Nat.le_of_ble_eq_true rfl, Nat.le_of_ble_eq_true rfl⟩) hK hP hD hS hA 0 (ci := 2) rfl rfl rfl rfl rfl hl.1 (Nat.le_of_ble_eq_true rfl) dX2_playRound_29 ⟨Nat.le_of_ble_eq_true rfl, Nat.le_of_ble_eq_true rfl⟩ (fun r_3 u_3 H locs hr_3 hP hD hS => ?_)
        have hr_3 : r_3 = acV U := hr_3
        subst hr_3
        have hP : va_P G.1 vwCl (tw G a (acT U)) H := hP
        have hD : va_D A (tw G a (acT U)) := hD
        refine lv_pop hx hb dX2_playRound_32 rfl ?_
        refine lv_iinc (v := nI (n + 1)) (lv' := [(1, .int (nI (n + 1))), (0, .ref (a 0))]) hx hb dX2_playRound_33 hl (k := 0) rfl (nI_1 _) (by decide) rfl (fun ls hl => ?_)
        refine lv_goto (tgt := 14) hx hb dX2_playRound_36 (by decide) ?_
        exact ih (n + 1)  (acT U) (by omega) (by rw [← hv14]; simp only [prR, prL, if_neg c_18_2]) _ _ hP hD hS ls (lv_sub hl [0, 1] rfl)
  refine lv_aload_n hx hb dX2_playRound_0 rfl (lv_at hl 0 rfl) ?_
  refine va_get (D := G.1) (ci := 2) (v := .int (T 10 0)) (C := RX2) (T := TX2) (N := 13) hx hb hts hinX2 hown hK.1 hP 0 rfl rfl 10 (by decide) wk1 (fun _ h9 => h9) rfl dX2_playRound_1 ?_
  refine lv_if_ne (tgt := 12) hx hb dX2_playRound_4 (by decide) (fun c_4_4 => ?_) (fun c_4_4 => ?_)
  · refine lv_iconst (v := 0) hx hb dX2_playRound_12 (by decide) ?_
    refine lv_istore_n (lv' := [(1, .int 0), (0, .ref (a 0))]) hx hb dX2_playRound_13 rfl hl (by decide) rfl (fun ls hl => ?_)
    exact L14 10000 0  T rfl (by simp only [prR, if_neg c_4_4]) _ _ hP hD hS ls (lv_sub hl [0, 1] rfl)
  · refine lv_aload_n hx hb dX2_playRound_7 rfl (lv_at hl 0 rfl) ?_
    refine cAI (As := []) (rest := []) ⟨hx, hb, hml, hown, hts⟩ (c_X2_start l G a T _) (cwV 0 hts gX2_playRound_X2_start rfl rfl rfl (by decide +kernel) ⟨Nat.le_of_ble_eq_true rfl, Nat.le_of_ble_eq_true rfl⟩) hK hP hD hS hA 0 (ci := 2) rfl rfl rfl rfl rfl hl.1 (Nat.le_of_ble_eq_true rfl) dX2_playRound_8 ⟨Nat.le_of_ble_eq_true rfl, Nat.le_of_ble_eq_true rfl⟩ (fun r_5 u_5 H locs hr_5 hP hD hS => ?_)
    have hr_5 : r_5 = staT T 10 1 := hr_5
    subst hr_5
    have hP : va_P G.1 vwCl (tw G a (staT T)) H := hP
    have hD : va_D A (tw G a (staT T)) := hD
    refine lv_pop hx hb dX2_playRound_11 rfl ?_
    refine lv_iconst (v := 0) hx hb dX2_playRound_12 (by decide) ?_
    refine lv_istore_n (lv' := [(1, .int 0), (0, .ref (a 0))]) hx hb dX2_playRound_13 rfl hl (by decide) rfl (fun ls hl => ?_)
    exact L14 10000 0  (staT T) rfl (by simp only [prR, if_pos c_4_4]) _ _ hP hD hS ls (lv_sub hl [0, 1] rfl)
