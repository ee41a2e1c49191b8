/-! CONTRACTS of the class's History (laid by wip/whole/gen/hist.py) -/
theorem va_up_id {α : Type} (f : Nat → α) (k : Nat) : va_up f k (f k) = f := by
  funext j
  unfold va_up
  split
  · rename_i h; rw [h]
  · rfl
set_option maxHeartbeats 4000000 in
set_option maxRecDepth 100000 in
theorem c_X0_keep (l : Launch) (G : qG) (h t : Nat → Nat) (T : Tb) (hT : is01 (T 10 0)) (nx ln : Nat) (hnx : nx < 100000) (hln : ln ≤ 6) (ad : Ad) (S : Nat → Tb) (sz : Nat) : Met l yX0_keep wsX0_keep { frames := 2, cells := 11, slots := 62, locals := 39 } (PW G sz [.ref (h 0), .ref (t 0)] (hw G h nx ln (hd ad 0 6) ++ tw G t T ++ pool G ad S)) (QV (S := Nat → Nat) G sz (hw G h nx ln (hd ad 0 6) ++ tw G t T ++ pool G ad S) (fun _ => True) (fun b => hw G h (nx + 1) (min (ln + 1) 6) (hd (va_up ad (nx % 6) (some b)) 0 6) ++ tw G t T ++ pool G (va_up ad (nx % 6) (some b)) (va_up S (nx % 6) T))) 11 62 (va_A (hw G h nx ln (hd ad 0 6) ++ tw G t T ++ pool G ad S) sz) := by
  refine MV.of' (by decide) rfl (Nat.le_of_ble_eq_true rfl) ?_
  intro p e s m below meth c hx hb hml hown hts hK hsz hP A hAe hA hD hS hmn Q hret ls hl
  have hown : s.vm.findClass RX0 = some m.cls := hown
  have hl : lv_has ls 4 [(0, .ref (h 0)), (1, .ref (t 0))] := hl
  have wk1 := hts (Cond.fieldLink RX0 17 "TurnBids$History" "next" "I") (List.mem_of_getElem? (i := 1) rfl)
  have wk2 := hts (Cond.fieldLink RX0 11 "TurnBids$History" "states" "[LTurnBids$Table;") (List.mem_of_getElem? (i := 2) rfl)
  have wk3 := hts (Cond.classLink RX0 9 RX2) (List.mem_of_getElem? (i := 3) rfl)
  have wk4 := hts (Cond.instantiable RX2 13) (List.mem_of_getElem? (i := 4) rfl)
  have wk5 := hts (Cond.initialized RX2) (List.mem_of_getElem? (i := 5) rfl)
  have wk6 := hts (Cond.fieldLink RX0 21 "TurnBids$History" "length" "I") (List.mem_of_getElem? (i := 6) rfl)
  have wk7 := hts (Cond.methodLink RX0 35 Lib.Math.min.name) (List.mem_of_getElem? (i := 7) rfl)
  have wk8 := hts (Cond.static Lib.Math.min.name) (List.mem_of_getElem? (i := 8) rfl)
  have wk9 := hts (Cond.initialized "java/lang/Math") (List.mem_of_getElem? (i := 9) rfl)
  have wk10 := hts (Cond.code Lib.Math.min.name Lib.Math.min.code 2 (some .int)) (List.mem_of_getElem? (i := 10) rfl)
  have wk11 := hts (Cond.methodLink RX0 24 yJ9_floorMod_7cf53) (List.mem_of_getElem? (i := 11) rfl)
  have wk15 := hts (Cond.instanceMethod yX2_init) (List.mem_of_getElem? (i := 15) rfl)
  have hinX0 : ∀ w ∈ wsX00, w ∈ wsX0_keep := fun _ h => (List.mem_cons_of_mem _ (List.mem_append_left _ (List.mem_append_right _ h)))
  have hinX2 : ∀ w ∈ wsX20, w ∈ wsX0_keep := fun _ h => (List.mem_cons_of_mem _ (List.mem_append_right _ h))
  have hk6 : nx % 6 < 6 := Nat.mod_lt _ (by decide)
  have J36 : ∀ (b : Nat → Nat) (U : Tb) (H : Heap) (locs : List Loc), va_P G.1 vwCl (hw G h nx ln (hd (va_up ad (nx % 6) (some b)) 0 6) ++ tw G t T ++ tw G b U ++ pool G (va_up ad (nx % 6) none) S) H → va_D A (hw G h nx ln (hd (va_up ad (nx % 6) (some b)) 0 6) ++ tw G t T ++ tw G b U ++ pool G (va_up ad (nx % 6) none) S) → va_S A s.heap H locs → ∀ ls : Array Slot, lv_has ls 4 [(3, .ref (b 0)), (0, .ref (h 0)), (1, .ref (t 0))] → W p l e { frames := 2, cells := 11, slots := 62, locals := 39 } s m ([.ref (h 0), .ref (t 0)] : List Value).toArray below meth c H locs 11 62 Q (F0 m 36 ls []) := by
    intro b U H locs hP hD hS ls hl
    refine lv_aload_n hx hb dX0_keep_36 rfl (lv_at hl 0 rfl) ?_
    refine lv_aload_n hx hb dX0_keep_37 rfl (lv_at hl 2 rfl) ?_
    refine cQV (wr := hw G h nx ln (hd (va_up ad (nx % 6) (some b)) 0 6)) (wc := tw G b U ++ tw G t T) (As := [.ref (t 0)]) (rest := []) ⟨hx, hb, hml, hown, hts⟩ (c_X2_copyFrom l G b t U T hT _) (cwV 1 hts gX0_keep_X2_copyFrom rfl rfl rfl (by decide +kernel) ⟨Nat.le_of_ble_eq_true rfl, Nat.le_of_ble_eq_true rfl⟩) hK hP hD hS hA [13, 14, 15, 16, 17, 18, 19, 20, 21, 22, 23, 2, 3, 4, 5, 6, 7, 8, 9, 10, 11, 12] [0, 1] rfl rfl (by decide) (by decide) (by decide) 0 (ci := 2) rfl rfl rfl rfl rfl hl.1 (Nat.le_of_ble_eq_true rfl) dX0_keep_38 ⟨Nat.le_of_ble_eq_true rfl, Nat.le_of_ble_eq_true rfl⟩ (fun u_1 H locs hr_1 hP hD hS => ?_)
    have hP : va_P G.1 vwCl (hw G h nx ln (hd (va_up ad (nx % 6) (some b)) 0 6) ++ tw G t T ++ tw G b T ++ pool G (va_up ad (nx % 6) none) S) H := hP.part (cx := hw G h nx ln (hd (va_up ad (nx % 6) (some b)) 0 6) ++ tw G t T ++ tw G b T) [0, 1, 13, 14, 15, 16, 17, 18, 19, 20, 21, 22, 23, 2, 3, 4, 5, 6, 7, 8, 9, 10, 11, 12] rfl
    have hD : va_D A (hw G h nx ln (hd (va_up ad (nx % 6) (some b)) 0 6) ++ tw G t T ++ tw G b T ++ pool G (va_up ad (nx % 6) none) S) := hD.part (cx := hw G h nx ln (hd (va_up ad (nx % 6) (some b)) 0 6) ++ tw G t T ++ tw G b T) [0, 1, 13, 14, 15, 16, 17, 18, 19, 20, 21, 22, 23, 2, 3, 4, 5, 6, 7, 8, 9, 10, 11, 12] (by decide) rfl
    refine lv_aload_n hx hb dX0_keep_41 rfl (lv_at hl 1 rfl) ?_
    refine lv_dup hx hb dX0_keep_42 rfl ?_
    refine va_get (D := G.1) (ci := 0) (v := .int (nI nx)) (C := RX0) (T := TX0) (N := 3) hx hb hts hinX0 hown hK.1 hP 0 rfl rfl 1 (by decide) wk1 (fun _ h9 => h9) rfl dX0_keep_43 ?_
    refine lv_iconst (v := 1) hx hb dX0_keep_46 (by decide) ?_
    refine lv_iadd hx hb dX0_keep_47 ?_
    refine qtop (nI_add nx 1) ?_
    refine va_put (D := G.1) (ci := 0) (v := .int (nI (nx + 1))) (ty := .int) (C := RX0) (T := TX0) (N := 3) hx hb hts hinX0 tyX0 tyX0_ok nmX0 hown hK.1 hP hD hS 0 rfl rfl 1 (by decide) wk1 (fun _ h9 => h9) rfl (by decide +kernel) rfl rfl (Nat.le_of_ble_eq_true rfl) dX0_keep_48 (fun H locs hP hD hS => ?_)
    have hP : va_P G.1 vwCl (hw G h (nx + 1) ln (hd (va_up ad (nx % 6) (some b)) 0 6) ++ tw G t T ++ tw G b T ++ pool G (va_up ad (nx % 6) none) S) H := hP
    have hD : va_D A (hw G h (nx + 1) ln (hd (va_up ad (nx % 6) (some b)) 0 6) ++ tw G t T ++ tw G b T ++ pool G (va_up ad (nx % 6) none) S) := hD
    refine lv_aload_n hx hb dX0_keep_51 rfl (lv_at hl 1 rfl) ?_
    refine lv_aload_n hx hb dX0_keep_52 rfl (lv_at hl 1 rfl) ?_
    refine va_get (D := G.1) (ci := 0) (v := .int (nI ln)) (C := RX0) (T := TX0) (N := 3) hx hb hts hinX0 hown hK.1 hP 0 rfl rfl 2 (by decide) wk6 (fun _ h9 => h9) rfl dX0_keep_53 ?_
    refine lv_iconst (v := 1) hx hb dX0_keep_56 (by decide) ?_
    refine lv_iadd hx hb dX0_keep_57 ?_
    refine qtop (nI_add ln 1) ?_
    refine lv_bipush (v := 6) hx hb dX0_keep_58 (by decide) ?_
    refine va_mmin hx hb (hml.trans hl.1.symm) hown wk7 wk8 wk9 wk10 (Nat.le_of_ble_eq_true rfl) (Nat.le_of_ble_eq_true rfl) (Nat.le_of_ble_eq_true rfl) (Nat.le_of_ble_eq_true rfl) dX0_keep_60 ?_
    refine qtop (min6 (by omega)) ?_
    refine va_put (D := G.1) (ci := 0) (v := .int (nI (min (ln + 1) 6))) (ty := .int) (C := RX0) (T := TX0) (N := 3) hx hb hts hinX0 tyX0 tyX0_ok nmX0 hown hK.1 hP hD hS 0 rfl rfl 2 (by decide) wk6 (fun _ h9 => h9) rfl (by decide +kernel) rfl rfl (Nat.le_of_ble_eq_true rfl) dX0_keep_63 (fun H locs hP hD hS => ?_)
    have hP : va_P G.1 vwCl (hw G h (nx + 1) (min (ln + 1) 6) (hd (va_up ad (nx % 6) (some b)) 0 6) ++ tw G t T ++ tw G b T ++ pool G (va_up ad (nx % 6) none) S) H := hP
    have hD : va_D A (hw G h (nx + 1) (min (ln + 1) 6) (hd (va_up ad (nx % 6) (some b)) 0 6) ++ tw G t T ++ tw G b T ++ pool G (va_up ad (nx % 6) none) S) := hD
    exact hret _ _ _ _ b trivial (hP.perm (pool_in _ (by omega))) (hD.perm (pool_in _ (by omega))) hS dX0_keep_66
  refine lv_aload_n hx hb dX0_keep_0 rfl (lv_at hl 0 rfl) ?_
  refine va_get (D := G.1) (ci := 0) (v := .int (nI nx)) (C := RX0) (T := TX0) (N := 3) hx hb hts hinX0 hown hK.1 hP 0 rfl rfl 1 (by decide) wk1 (fun _ h9 => h9) rfl dX0_keep_1 ?_
  refine lv_bipush (v := 6) hx hb dX0_keep_4 (by decide) ?_
  refine cPS (As := [.int (nI nx), .int 6]) (rest := []) ⟨hx, hb, hml, hown, hts⟩ (c_J9_floorMod l G (nI nx) 6 (by decide)) (va_cwS 2 hts gX0_keep_J9_floorMod_7cf53 rfl rfl rfl (by decide +kernel) ⟨Nat.le_of_ble_eq_true rfl, Nat.le_of_ble_eq_true rfl⟩) hK (fun k q h => by simp at h) rfl rfl hl.1 (Nat.le_of_ble_eq_true rfl) dX0_keep_6 ⟨Nat.le_of_ble_eq_true rfl, Nat.le_of_ble_eq_true rfl⟩ ?_
  refine qtop (fm6 hnx) ?_
  refine lv_istore_n (lv' := [(2, .int (nI (nx % 6))), (0, .ref (h 0)), (1, .ref (t 0))]) hx hb dX0_keep_9 rfl hl (by decide) rfl (fun ls hl => ?_)
  refine lv_aload_n hx hb dX0_keep_10 rfl (lv_at hl 1 rfl) ?_
  refine va_get (D := G.1) (ci := 0) (v := .ref (h 1)) (C := RX0) (T := TX0) (N := 3) hx hb hts hinX0 hown hK.1 hP 0 rfl rfl 0 (by decide) wk2 (fun _ h9 => h9) rfl dX0_keep_11 ?_
  refine lv_iload_n hx hb dX0_keep_14 rfl (lv_at hl 0 rfl) ?_
  refine va_aldq hx hb hK.1 hP 1 2 rfl rfl (i := nI (nx % 6)) (vp_in_nI (n := nx % 6) (by omega) (by decide)) dX0_keep_15 ?_
  have hv9 : hd ad 0 6 (nI (nx % 6)).toNatClampNeg = (ad ((nx % 6))).map (fun x => x 0) := by rw [nI_clamp (by omega), hd_get (by omega), Nat.zero_add]
  rw [hv9]
  rcases hc9 : ad (nx % 6) with _ | b
  · refine W.eq (g2 := F0 m 16 ls [.null]) rfl ?_
    refine lv_astore_nN (lv' := [(3, .null), (2, .int (nI (nx % 6))), (0, .ref (h 0)), (1, .ref (t 0))]) hx hb dX0_keep_16 rfl hl (by decide) rfl (fun ls hl => ?_)
    refine lv_aload_nN hx hb dX0_keep_17 rfl (lv_at hl 0 rfl) ?_
    refine lv_ifnonnullN hx hb dX0_keep_18 ?_
    refine va_new (ci := 2) (fs := [.null, .null, .null, .null, .null, .null, .null, .null, .null, .null, .int 0, .int 0, .int 0]) (C := RX2) (T := TX2) (N := 13) hx hb hts hinX2 tyX2 tyX2_ok hown wk3 wk4 wk5 hK.1 hP hD hS hA rfl dfX2 (Nat.le_of_ble_eq_true rfl) (Nat.le_of_ble_eq_true rfl) dX0_keep_21 (fun q_2 H hP hD hS => ?_)
    refine lv_dup hx hb dX0_keep_24 rfl ?_
    refine cNI (wf := hw G h nx ln (hd ad 0 6) ++ tw G t T ++ pool G ad S) (wc := [(q_2, .inr (2, [.null, .null, .null, .null, .null, .null, .null, .null, .null, .null, .int 0, .int 0, .int 0]))]) (As := []) (rest := [.ref q_2]) ⟨hx, hb, hml, hown, hts⟩ (c_X2_init l G q_2 _) ⟨va_cnB (host := RX3) 0 hts gX0_keep_X2_init_n30 rfl rfl rfl hK.2.1.2.1 wk5 (by decide +kernel) ⟨Nat.le_of_ble_eq_true rfl, Nat.le_of_ble_eq_true rfl⟩, rfl, wk15⟩ hK hP hD hS hA rfl rfl hl.1 (Nat.le_of_ble_eq_true rfl) dX0_keep_25 ⟨Nat.le_of_ble_eq_true rfl, Nat.le_of_ble_eq_true rfl⟩ (fun b_2 H locs hq_2 hP hD hS => ?_)
    have hq_2 : b_2 0 = q_2 := hq_2
    refine W.eq (g2 := F0 m 28 ls [.ref (b_2 0)]) (by rw [hq_2]) ?_
    have hP := hP.swap
    have hD := hD.swap
    have hP : va_P G.1 vwCl (hw G h nx ln (hd ad 0 6) ++ tw G t T ++ tw G b_2 iniT ++ pool G ad S) H := hP
    have hD : va_D A (hw G h nx ln (hd ad 0 6) ++ tw G t T ++ tw G b_2 iniT ++ pool G ad S) := hD
    refine lv_astore_n (lv' := [(3, .ref (b_2 0)), (2, .int (nI (nx % 6))), (0, .ref (h 0)), (1, .ref (t 0))]) hx hb dX0_keep_28 rfl hl (by decide) rfl (fun ls hl => ?_)
    refine lv_aload_n hx hb dX0_keep_29 rfl (lv_at hl 2 rfl) ?_
    refine va_get (D := G.1) (ci := 0) (v := .ref (h 1)) (C := RX0) (T := TX0) (N := 3) hx hb hts hinX0 hown hK.1 hP 0 rfl rfl 0 (by decide) wk2 (fun _ h9 => h9) rfl dX0_keep_30 ?_
    refine lv_iload_n hx hb dX0_keep_33 rfl (lv_at hl 1 rfl) ?_
    refine lv_aload_n hx hb dX0_keep_34 rfl (lv_at hl 0 rfl) ?_
    refine va_astq hx hb hK.1 hP hD hS 1 2 13 2 rfl rfl rfl rfl (i := nI (nx % 6)) (vp_in_nI (n := nx % 6) (by omega) (by decide)) dX0_keep_35 (fun H locs hP hD hS => ?_)
    have hab : va_up ad (nx % 6) none = ad := by rw [← hc9]; exact va_up_id ad _
    have hP : va_P G.1 vwCl (hw G h nx ln (va_up (hd ad 0 6) (nI (nx % 6)).toNatClampNeg (some (b_2 0))) ++ tw G t T ++ tw G b_2 iniT ++ pool G ad S) H := hP
    have hD : va_D A (hw G h nx ln (va_up (hd ad 0 6) (nI (nx % 6)).toNatClampNeg (some (b_2 0))) ++ tw G t T ++ tw G b_2 iniT ++ pool G ad S) := hD
    have hF9 : va_up (hd ad 0 6) (nI (nx % 6)).toNatClampNeg (some (b_2 0)) = hd (va_up ad (nx % 6) (some b_2)) 0 6 := by rw [nI_clamp (by omega), hd_up (by omega), Nat.zero_add]
    rw [hF9] at hP hD
    refine J36 b_2 iniT _ _ ?_ ?_ hS ls (lv_sub hl [0, 2, 3] rfl)
    · rw [hab]; exact hP
    · rw [hab]; exact hD
  · refine W.eq (g2 := F0 m 16 ls [.ref (b 0)]) rfl ?_
    have hab : va_up ad (nx % 6) (some b) = ad := by rw [← hc9]; exact va_up_id ad _
    refine lv_astore_n (lv' := [(3, .ref (b 0)), (2, .int (nI (nx % 6))), (0, .ref (h 0)), (1, .ref (t 0))]) hx hb dX0_keep_16 rfl hl (by decide) rfl (fun ls hl => ?_)
    refine lv_aload_n hx hb dX0_keep_17 rfl (lv_at hl 0 rfl) ?_
    refine lv_ifnonnull (tgt := 36) hx hb dX0_keep_18 (by decide) ?_
    refine W.widen (k := 11) (n := 62) (by decide) (by decide) ?_
    refine J36 b (S (nx % 6)) _ _ ?_ ?_ hS ls (lv_sub hl [0, 2, 3] rfl)
    · rw [hab]; exact hP.perm (pool_out _ (by omega) hc9)
    · rw [hab]; exact hD.perm (pool_out _ (by omega) hc9)
set_option maxHeartbeats 4000000 in
set_option maxRecDepth 100000 in
theorem c_X0_takeBack (l : Launch) (G : qG) (h t : Nat → Nat) (T : Tb) (nx ln : Nat) (hnx : nx < 100000) (hln : ln < 6) (ad : Ad) (S : Nat → Tb) (b : Nat → Nat) (hb9 : ad (nx % 6) = some b) (hS9 : is01 (S (nx % 6) 10 0)) (sz : Nat) : Met l yX0_takeBack wsX0_takeBack { frames := 2, cells := 0, slots := 0, locals := 39 } (PW G sz [.ref (h 0), .ref (t 0)] (hw G h (nx + 1) (ln + 1) (hd ad 0 6) ++ tw G t T ++ pool G ad S)) (QV (S := Unit) G sz (hw G h (nx + 1) (ln + 1) (hd ad 0 6) ++ tw G t T ++ pool G ad S) (fun _ => True) (fun _ => hw G h nx ln (hd ad 0 6) ++ tw G t (S (nx % 6)) ++ pool G ad S)) 0 0 (va_A (hw G h (nx + 1) (ln + 1) (hd ad 0 6) ++ tw G t T ++ pool G ad S) sz) := by
  refine MV.of' (by decide) rfl (Nat.le_of_ble_eq_true rfl) ?_
  intro p e s m below meth c hx hb hml hown hts hK hsz hP A hAe hA hD hS hmn Q hret ls hl
  have hown : s.vm.findClass RX0 = some m.cls := hown
  have hl : lv_has ls 3 [(0, .ref (h 0)), (1, .ref (t 0))] := hl
  have wk1 := hts (Cond.fieldLink RX0 11 "TurnBids$History" "states" "[LTurnBids$Table;") (List.mem_of_getElem? (i := 1) rfl)
  have wk2 := hts (Cond.fieldLink RX0 17 "TurnBids$History" "next" "I") (List.mem_of_getElem? (i := 2) rfl)
  have wk3 := hts (Cond.fieldLink RX0 21 "TurnBids$History" "length" "I") (List.mem_of_getElem? (i := 3) rfl)
  have wk4 := hts (Cond.methodLink RX0 24 yJ9_floorMod_7cf53) (List.mem_of_getElem? (i := 4) rfl)
  have hinX0 : ∀ w ∈ wsX00, w ∈ wsX0_takeBack := fun _ h => (List.mem_cons_of_mem _ (List.mem_append_left _ (List.mem_append_right _ h)))
  have hk6 : nx % 6 < 6 := Nat.mod_lt _ (by decide)
  refine lv_aload_n hx hb dX0_takeBack_0 rfl (lv_at hl 0 rfl) ?_
  refine va_get (D := G.1) (ci := 0) (v := .ref (h 1)) (C := RX0) (T := TX0) (N := 3) hx hb hts hinX0 hown hK.1 hP 0 rfl rfl 0 (by decide) wk1 (fun _ h9 => h9) rfl dX0_takeBack_1 ?_
  refine lv_aload_n hx hb dX0_takeBack_4 rfl (lv_at hl 0 rfl) ?_
  refine va_get (D := G.1) (ci := 0) (v := .int (nI (nx + 1))) (C := RX0) (T := TX0) (N := 3) hx hb hts hinX0 hown hK.1 hP 0 rfl rfl 1 (by decide) wk2 (fun _ h9 => h9) rfl dX0_takeBack_5 ?_
  refine lv_iconst (v := 1) hx hb dX0_takeBack_8 (by decide) ?_
  refine lv_isub hx hb dX0_takeBack_9 ?_
  refine lv_bipush (v := 6) hx hb dX0_takeBack_10 (by decide) ?_
  refine cPS (As := [.int (nI (nx + 1) - 1), .int 6]) (rest := [.ref (h 1)]) ⟨hx, hb, hml, hown, hts⟩ (c_J9_floorMod l G (nI (nx + 1) - 1) 6 (by decide)) (va_cwS 2 hts gX0_takeBack_J9_floorMod_7cf53 rfl rfl rfl (by decide +kernel) ⟨Nat.le_of_ble_eq_true rfl, Nat.le_of_ble_eq_true rfl⟩) hK (fun k q h => by simp at h) rfl rfl hl.1 (Nat.le_of_ble_eq_true rfl) dX0_takeBack_12 ⟨Nat.le_of_ble_eq_true rfl, Nat.le_of_ble_eq_true rfl⟩ ?_
  refine qtop (fm6p hnx) ?_
  refine va_aldq hx hb hK.1 hP 1 2 rfl rfl (i := nI (nx % 6)) (vp_in_nI (n := nx % 6) (by omega) (by decide)) dX0_takeBack_15 ?_
  have hv9 : hd ad 0 6 (nI (nx % 6)).toNatClampNeg = (ad ((nx % 6))).map (fun x => x 0) := by rw [nI_clamp (by omega), hd_get (by omega), Nat.zero_add]
  rw [hv9]
  refine W.eq (g2 := F0 m 16 ls [.ref (b 0)]) (by rw [hb9]; rfl) ?_
  refine lv_astore_n (lv' := [(2, .ref (b 0)), (0, .ref (h 0)), (1, .ref (t 0))]) hx hb dX0_takeBack_16 rfl hl (by decide) rfl (fun ls hl => ?_)
  refine lv_aload_n hx hb dX0_takeBack_17 rfl (lv_at hl 1 rfl) ?_
  refine va_get (D := G.1) (ci := 0) (v := .int (nI (ln + 1))) (C := RX0) (T := TX0) (N := 3) hx hb hts hinX0 hown hK.1 hP 0 rfl rfl 2 (by decide) wk3 (fun _ h9 => h9) rfl dX0_takeBack_18 ?_
  refine lv_if_eq (tgt := 28) hx hb dX0_takeBack_21 (by decide) (fun c_9 => absurd c_9 (nI_ne0 (by omega) (by omega))) (fun _ => ?_)
  refine lv_aload_n hx hb dX0_takeBack_24 rfl (lv_at hl 0 rfl) ?_
  refine lv_ifnonnull (tgt := 29) hx hb dX0_takeBack_25 (by decide) ?_
  refine lv_aload_n hx hb dX0_takeBack_29 rfl (lv_at hl 2 rfl) ?_
  refine lv_aload_n hx hb dX0_takeBack_30 rfl (lv_at hl 0 rfl) ?_
  have hP : va_P G.1 vwCl (hw G h (nx + 1) (ln + 1) (hd ad 0 6) ++ tw G t T ++ tw G b (S (nx % 6)) ++ pool G (va_up ad (nx % 6) none) S) s.heap := hP.perm (pool_out _ (by omega) hb9)
  have hD : va_D A (hw G h (nx + 1) (ln + 1) (hd ad 0 6) ++ tw G t T ++ tw G b (S (nx % 6)) ++ pool G (va_up ad (nx % 6) none) S) := hD.perm (pool_out _ (by omega) hb9)
  refine cQV (wr := hw G h (nx + 1) (ln + 1) (hd ad 0 6)) (wc := tw G t T ++ tw G b (S (nx % 6))) (As := [.ref (b 0)]) (rest := []) ⟨hx, hb, hml, hown, hts⟩ (c_X2_copyFrom l G t b T (S (nx % 6)) hS9 _) (cwV 1 hts gX0_takeBack_X2_copyFrom rfl rfl rfl (by decide +kernel) ⟨Nat.le_of_ble_eq_true rfl, Nat.le_of_ble_eq_true rfl⟩) hK hP hD hS hA [2, 3, 4, 5, 6, 7, 8, 9, 10, 11, 12, 13, 14, 15, 16, 17, 18, 19, 20, 21, 22, 23] [0, 1] rfl rfl (by decide) (by decide) (by decide) 0 (ci := 2) rfl rfl rfl rfl rfl hl.1 (Nat.le_of_ble_eq_true rfl) dX0_takeBack_31 ⟨Nat.le_of_ble_eq_true rfl, Nat.le_of_ble_eq_true rfl⟩ (fun u_1 H locs hr_1 hP hD hS => ?_)
  have hP : va_P G.1 vwCl (hw G h (nx + 1) (ln + 1) (hd ad 0 6) ++ tw G t (S (nx % 6)) ++ tw G b (S (nx % 6)) ++ pool G (va_up ad (nx % 6) none) S) H := hP.part (cx := hw G h (nx + 1) (ln + 1) (hd ad 0 6) ++ tw G t (S (nx % 6)) ++ tw G b (S (nx % 6))) [0, 1, 2, 3, 4, 5, 6, 7, 8, 9, 10, 11, 12, 13, 14, 15, 16, 17, 18, 19, 20, 21, 22, 23] rfl
  have hD : va_D A (hw G h (nx + 1) (ln + 1) (hd ad 0 6) ++ tw G t (S (nx % 6)) ++ tw G b (S (nx % 6)) ++ pool G (va_up ad (nx % 6) none) S) := hD.part (cx := hw G h (nx + 1) (ln + 1) (hd ad 0 6) ++ tw G t (S (nx % 6)) ++ tw G b (S (nx % 6))) [0, 1, 2, 3, 4, 5, 6, 7, 8, 9, 10, 11, 12, 13, 14, 15, 16, 17, 18, 19, 20, 21, 22, 23] (by decide) rfl
  refine lv_aload_n hx hb dX0_takeBack_34 rfl (lv_at hl 1 rfl) ?_
  refine lv_dup hx hb dX0_takeBack_35 rfl ?_
  refine va_get (D := G.1) (ci := 0) (v := .int (nI (nx + 1))) (C := RX0) (T := TX0) (N := 3) hx hb hts hinX0 hown hK.1 hP 0 rfl rfl 1 (by decide) wk2 (fun _ h9 => h9) rfl dX0_takeBack_36 ?_
  refine lv_iconst (v := 1) hx hb dX0_takeBack_39 (by decide) ?_
  refine lv_isub hx hb dX0_takeBack_40 ?_
  refine qtop (nI_pred nx) ?_
  refine va_put (D := G.1) (ci := 0) (v := .int (nI nx)) (ty := .int) (C := RX0) (T := TX0) (N := 3) hx hb hts hinX0 tyX0 tyX0_ok nmX0 hown hK.1 hP hD hS 0 rfl rfl 1 (by decide) wk2 (fun _ h9 => h9) rfl (by decide +kernel) rfl rfl (Nat.le_of_ble_eq_true rfl) dX0_takeBack_41 (fun H locs hP hD hS => ?_)
  have hP : va_P G.1 vwCl (hw G h nx (ln + 1) (hd ad 0 6) ++ tw G t (S (nx % 6)) ++ tw G b (S (nx % 6)) ++ pool G (va_up ad (nx % 6) none) S) H := hP
  have hD : va_D A (hw G h nx (ln + 1) (hd ad 0 6) ++ tw G t (S (nx % 6)) ++ tw G b (S (nx % 6)) ++ pool G (va_up ad (nx % 6) none) S) := hD
  refine lv_aload_n hx hb dX0_takeBack_44 rfl (lv_at hl 1 rfl) ?_
  refine lv_dup hx hb dX0_takeBack_45 rfl ?_
  refine va_get (D := G.1) (ci := 0) (v := .int (nI (ln + 1))) (C := RX0) (T := TX0) (N := 3) hx hb hts hinX0 hown hK.1 hP 0 rfl rfl 2 (by decide) wk3 (fun _ h9 => h9) rfl dX0_takeBack_46 ?_
  refine lv_iconst (v := 1) hx hb dX0_takeBack_49 (by decide) ?_
  refine lv_isub hx hb dX0_takeBack_50 ?_
  refine qtop (nI_pred ln) ?_
  refine va_put (D := G.1) (ci := 0) (v := .int (nI ln)) (ty := .int) (C := RX0) (T := TX0) (N := 3) hx hb hts hinX0 tyX0 tyX0_ok nmX0 hown hK.1 hP hD hS 0 rfl rfl 2 (by decide) wk3 (fun _ h9 => h9) rfl (by decide +kernel) rfl rfl (Nat.le_of_ble_eq_true rfl) dX0_takeBack_51 (fun H locs hP hD hS => ?_)
  have hP : va_P G.1 vwCl (hw G h nx ln (hd ad 0 6) ++ tw G t (S (nx % 6)) ++ tw G b (S (nx % 6)) ++ pool G (va_up ad (nx % 6) none) S) H := hP
  have hD : va_D A (hw G h nx ln (hd ad 0 6) ++ tw G t (S (nx % 6)) ++ tw G b (S (nx % 6)) ++ pool G (va_up ad (nx % 6) none) S) := hD
  have hP := hP.perm (pool_in (T := S (nx % 6)) _ (by omega))
  have hD := hD.perm (pool_in (T := S (nx % 6)) _ (by omega))
  have hab : va_up ad (nx % 6) (some b) = ad := by rw [← hb9]; exact va_up_id ad _
  rw [hab, va_up_id S] at hP hD
  exact hret _ _ _ _ () trivial hP hD hS dX0_takeBack_54
