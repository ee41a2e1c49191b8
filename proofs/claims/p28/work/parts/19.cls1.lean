/-! CONTRACTS of the class: copies, constructors, the pad (laid by wip/whole/gen/cls.py) -/
set_option maxHeartbeats 4000000 in
set_option maxRecDepth 100000 in
theorem c_X2_copyFrom (l : Launch) (G : qG) (a b : Nat → Nat) (T U : Tb) (h01 : is01 (U 10 0))  (sz : Nat) : MV l yX2_copyFrom wsX2_copyFrom 1 18 G sz [.ref (a 0), .ref (b 0)] (tw G a T ++ tw G b U) (tw G a U ++ tw G b U) := by
  refine MV.of' (by decide) rfl (Nat.le_of_ble_eq_true rfl) ?_
  intro p e s m below meth c hx hb hml hown hts hK hsz hP A hAe hA hD hS hmn Q hret ls hl
  have hown : s.vm.findClass RX2 = some m.cls := hown
  have hl : lv_has ls 2 [(0, .ref (a 0)), (1, .ref (b 0))] := hl
  have wk1 := hts (Cond.fieldLink RX2 9 "TurnBids$Table" "settings" "[I") (List.mem_of_getElem? (i := 1) rfl)
  have wk2 := hts (Cond.methodLink RX2 54 arraycopyName) (List.mem_of_getElem? (i := 2) rfl)
  have wk3 := hts (Cond.native arraycopyName) (List.mem_of_getElem? (i := 3) rfl)
  have wk4 := hts (Cond.static arraycopyName) (List.mem_of_getElem? (i := 4) rfl)
  have wk5 := hts (Cond.initialized "java/lang/System") (List.mem_of_getElem? (i := 5) rfl)
  have wk6 := hts (Cond.fieldLink RX2 15 "TurnBids$Table" "prizes" "[I") (List.mem_of_getElem? (i := 6) rfl)
  have wk7 := hts (Cond.fieldLink RX2 18 "TurnBids$Table" "coins" "[I") (List.mem_of_getElem? (i := 7) rfl)
  have wk8 := hts (Cond.fieldLink RX2 21 "TurnBids$Table" "limits" "[I") (List.mem_of_getElem? (i := 8) rfl)
  have wk9 := hts (Cond.fieldLink RX2 24 "TurnBids$Table" "places" "[I") (List.mem_of_getElem? (i := 9) rfl)
  have wk10 := hts (Cond.fieldLink RX2 28 "TurnBids$Table" "bids" "[I") (List.mem_of_getElem? (i := 10) rfl)
  have wk11 := hts (Cond.fieldLink RX2 31 "TurnBids$Table" "placesGot" "[I") (List.mem_of_getElem? (i := 11) rfl)
  have wk12 := hts (Cond.fieldLink RX2 34 "TurnBids$Table" "paid" "[I") (List.mem_of_getElem? (i := 12) rfl)
  have wk13 := hts (Cond.fieldLink RX2 37 "TurnBids$Table" "taken" "[I") (List.mem_of_getElem? (i := 13) rfl)
  have wk14 := hts (Cond.fieldLink RX2 40 "TurnBids$Table" "won" "[I") (List.mem_of_getElem? (i := 14) rfl)
  have wk15 := hts (Cond.fieldLink RX2 43 "TurnBids$Table" "underWay" "Z") (List.mem_of_getElem? (i := 15) rfl)
  have wk16 := hts (Cond.fieldLink RX2 47 "TurnBids$Table" "turn" "I") (List.mem_of_getElem? (i := 16) rfl)
  have wk17 := hts (Cond.fieldLink RX2 51 "TurnBids$Table" "rounds" "I") (List.mem_of_getElem? (i := 17) rfl)
  have hinX2 : ∀ w ∈ wsX20, w ∈ wsX2_copyFrom := fun _ h => (List.mem_cons_of_mem _ (List.mem_append_right _ h))
  refine lv_aload_n hx hb dX2_copyFrom_0 rfl (lv_at hl 1 rfl) ?_
  refine va_get (D := G.1) (ci := 2) (v := .ref (b 1)) (C := RX2) (T := TX2) (N := 13) hx hb hts hinX2 hown hK.1 hP 11 rfl rfl 0 (by decide) wk1 (fun _ h9 => h9) rfl dX2_copyFrom_1 ?_
  refine lv_iconst (v := 0) hx hb dX2_copyFrom_4 (by decide) ?_
  refine lv_aload_n hx hb dX2_copyFrom_5 rfl (lv_at hl 0 rfl) ?_
  refine va_get (D := G.1) (ci := 2) (v := .ref (a 1)) (C := RX2) (T := TX2) (N := 13) hx hb hts hinX2 hown hK.1 hP 0 rfl rfl 0 (by decide) wk1 (fun _ h9 => h9) rfl dX2_copyFrom_6 ?_
  refine lv_iconst (v := 0) hx hb dX2_copyFrom_9 (by decide) ?_
  refine lv_iconst (v := 4) hx hb dX2_copyFrom_10 (by decide) ?_
  refine qcopy hx hb (hml.trans hl.1.symm) hown wk2 wk3 wk4 wk5 hK.1 hP hD hS 12 1 0 rfl rfl rfl (N := 4) (by decide +kernel) (by decide +kernel) (Nat.le_of_ble_eq_true rfl) (Nat.le_of_ble_eq_true rfl) dX2_copyFrom_11 (fun H locs hP hD hS => ?_)
  have hP : va_P G.1 vwCl (tw G a (rowT T 0 (U 0)) ++ tw G b U) H := hP
  have hD : va_D A (tw G a (rowT T 0 (U 0)) ++ tw G b U) := hD
  refine lv_aload_n hx hb dX2_copyFrom_14 rfl (lv_at hl 1 rfl) ?_
  refine va_get (D := G.1) (ci := 2) (v := .ref (b 2)) (C := RX2) (T := TX2) (N := 13) hx hb hts hinX2 hown hK.1 hP 11 rfl rfl 1 (by decide) wk6 (fun _ h9 => h9) rfl dX2_copyFrom_15 ?_
  refine lv_iconst (v := 0) hx hb dX2_copyFrom_18 (by decide) ?_
  refine lv_aload_n hx hb dX2_copyFrom_19 rfl (lv_at hl 0 rfl) ?_
  refine va_get (D := G.1) (ci := 2) (v := .ref (a 2)) (C := RX2) (T := TX2) (N := 13) hx hb hts hinX2 hown hK.1 hP 0 rfl rfl 1 (by decide) wk6 (fun _ h9 => h9) rfl dX2_copyFrom_20 ?_
  refine lv_iconst (v := 0) hx hb dX2_copyFrom_23 (by decide) ?_
  refine lv_iconst (v := 5) hx hb dX2_copyFrom_24 (by decide) ?_
  refine qcopy hx hb (hml.trans hl.1.symm) hown wk2 wk3 wk4 wk5 hK.1 hP hD hS 13 2 0 rfl rfl rfl (N := 5) (by decide +kernel) (by decide +kernel) (Nat.le_of_ble_eq_true rfl) (Nat.le_of_ble_eq_true rfl) dX2_copyFrom_25 (fun H locs hP hD hS => ?_)
  have hP : va_P G.1 vwCl (tw G a (rowT (rowT T 0 (U 0)) 1 (U 1)) ++ tw G b U) H := hP
  have hD : va_D A (tw G a (rowT (rowT T 0 (U 0)) 1 (U 1)) ++ tw G b U) := hD
  refine lv_aload_n hx hb dX2_copyFrom_28 rfl (lv_at hl 1 rfl) ?_
  refine va_get (D := G.1) (ci := 2) (v := .ref (b 3)) (C := RX2) (T := TX2) (N := 13) hx hb hts hinX2 hown hK.1 hP 11 rfl rfl 2 (by decide) wk7 (fun _ h9 => h9) rfl dX2_copyFrom_29 ?_
  refine lv_iconst (v := 0) hx hb dX2_copyFrom_32 (by decide) ?_
  refine lv_aload_n hx hb dX2_copyFrom_33 rfl (lv_at hl 0 rfl) ?_
  refine va_get (D := G.1) (ci := 2) (v := .ref (a 3)) (C := RX2) (T := TX2) (N := 13) hx hb hts hinX2 hown hK.1 hP 0 rfl rfl 2 (by decide) wk7 (fun _ h9 => h9) rfl dX2_copyFrom_34 ?_
  refine lv_iconst (v := 0) hx hb dX2_copyFrom_37 (by decide) ?_
  refine lv_iconst (v := 5) hx hb dX2_copyFrom_38 (by decide) ?_
  refine qcopy hx hb (hml.trans hl.1.symm) hown wk2 wk3 wk4 wk5 hK.1 hP hD hS 14 3 0 rfl rfl rfl (N := 5) (by decide +kernel) (by decide +kernel) (Nat.le_of_ble_eq_true rfl) (Nat.le_of_ble_eq_true rfl) dX2_copyFrom_39 (fun H locs hP hD hS => ?_)
  have hP : va_P G.1 vwCl (tw G a (rowT (rowT (rowT T 0 (U 0)) 1 (U 1)) 2 (U 2)) ++ tw G b U) H := hP
  have hD : va_D A (tw G a (rowT (rowT (rowT T 0 (U 0)) 1 (U 1)) 2 (U 2)) ++ tw G b U) := hD
  refine lv_aload_n hx hb dX2_copyFrom_42 rfl (lv_at hl 1 rfl) ?_
  refine va_get (D := G.1) (ci := 2) (v := .ref (b 4)) (C := RX2) (T := TX2) (N := 13) hx hb hts hinX2 hown hK.1 hP 11 rfl rfl 3 (by decide) wk8 (fun _ h9 => h9) rfl dX2_copyFrom_43 ?_
  refine lv_iconst (v := 0) hx hb dX2_copyFrom_46 (by decide) ?_
  refine lv_aload_n hx hb dX2_copyFrom_47 rfl (lv_at hl 0 rfl) ?_
  refine va_get (D := G.1) (ci := 2) (v := .ref (a 4)) (C := RX2) (T := TX2) (N := 13) hx hb hts hinX2 hown hK.1 hP 0 rfl rfl 3 (by decide) wk8 (fun _ h9 => h9) rfl dX2_copyFrom_48 ?_
  refine lv_iconst (v := 0) hx hb dX2_copyFrom_51 (by decide) ?_
  refine lv_iconst (v := 5) hx hb dX2_copyFrom_52 (by decide) ?_
  refine qcopy hx hb (hml.trans hl.1.symm) hown wk2 wk3 wk4 wk5 hK.1 hP hD hS 15 4 0 rfl rfl rfl (N := 5) (by decide +kernel) (by decide +kernel) (Nat.le_of_ble_eq_true rfl) (Nat.le_of_ble_eq_true rfl) dX2_copyFrom_53 (fun H locs hP hD hS => ?_)
  have hP : va_P G.1 vwCl (tw G a (rowT (rowT (rowT (rowT T 0 (U 0)) 1 (U 1)) 2 (U 2)) 3 (U 3)) ++ tw G b U) H := hP
  have hD : va_D A (tw G a (rowT (rowT (rowT (rowT T 0 (U 0)) 1 (U 1)) 2 (U 2)) 3 (U 3)) ++ tw G b U) := hD
  refine lv_aload_n hx hb dX2_copyFrom_56 rfl (lv_at hl 1 rfl) ?_
  refine va_get (D := G.1) (ci := 2) (v := .ref (b 5)) (C := RX2) (T := TX2) (N := 13) hx hb hts hinX2 hown hK.1 hP 11 rfl rfl 4 (by decide) wk9 (fun _ h9 => h9) rfl dX2_copyFrom_57 ?_
  refine lv_iconst (v := 0) hx hb dX2_copyFrom_60 (by decide) ?_
  refine lv_aload_n hx hb dX2_copyFrom_61 rfl (lv_at hl 0 rfl) ?_
  refine va_get (D := G.1) (ci := 2) (v := .ref (a 5)) (C := RX2) (T := TX2) (N := 13) hx hb hts hinX2 hown hK.1 hP 0 rfl rfl 4 (by decide) wk9 (fun _ h9 => h9) rfl dX2_copyFrom_62 ?_
  refine lv_iconst (v := 0) hx hb dX2_copyFrom_65 (by decide) ?_
  refine lv_iconst (v := 5) hx hb dX2_copyFrom_66 (by decide) ?_
  refine qcopy hx hb (hml.trans hl.1.symm) hown wk2 wk3 wk4 wk5 hK.1 hP hD hS 16 5 0 rfl rfl rfl (N := 5) (by decide +kernel) (by decide +kernel) (Nat.le_of_ble_eq_true rfl) (Nat.le_of_ble_eq_true rfl) dX2_copyFrom_67 (fun H locs hP hD hS => ?_)
  have hP : va_P G.1 vwCl (tw G a (rowT (rowT (rowT (rowT (rowT T 0 (U 0)) 1 (U 1)) 2 (U 2)) 3 (U 3)) 4 (U 4)) ++ tw G b U) H := hP
  have hD : va_D A (tw G a (rowT (rowT (rowT (rowT (rowT T 0 (U 0)) 1 (U 1)) 2 (U 2)) 3 (U 3)) 4 (U 4)) ++ tw G b U) := hD
  refine lv_aload_n hx hb dX2_copyFrom_70 rfl (lv_at hl 1 rfl) ?_
  refine va_get (D := G.1) (ci := 2) (v := .ref (b 6)) (C := RX2) (T := TX2) (N := 13) hx hb hts hinX2 hown hK.1 hP 11 rfl rfl 5 (by decide) wk10 (fun _ h9 => h9) rfl dX2_copyFrom_71 ?_
  refine lv_iconst (v := 0) hx hb dX2_copyFrom_74 (by decide) ?_
  refine lv_aload_n hx hb dX2_copyFrom_75 rfl (lv_at hl 0 rfl) ?_
  refine va_get (D := G.1) (ci := 2) (v := .ref (a 6)) (C := RX2) (T := TX2) (N := 13) hx hb hts hinX2 hown hK.1 hP 0 rfl rfl 5 (by decide) wk10 (fun _ h9 => h9) rfl dX2_copyFrom_76 ?_
  refine lv_iconst (v := 0) hx hb dX2_copyFrom_79 (by decide) ?_
  refine lv_iconst (v := 5) hx hb dX2_copyFrom_80 (by decide) ?_
  refine qcopy hx hb (hml.trans hl.1.symm) hown wk2 wk3 wk4 wk5 hK.1 hP hD hS 17 6 0 rfl rfl rfl (N := 5) (by decide +kernel) (by decide +kernel) (Nat.le_of_ble_eq_true rfl) (Nat.le_of_ble_eq_true rfl) dX2_copyFrom_81 (fun H locs hP hD hS => ?_)
  have hP : va_P G.1 vwCl (tw G a (rowT (rowT (rowT (rowT (rowT (rowT T 0 (U 0)) 1 (U 1)) 2 (U 2)) 3 (U 3)) 4 (U 4)) 5 (U 5)) ++ tw G b U) H := hP
  have hD : va_D A (tw G a (rowT (rowT (rowT (rowT (rowT (rowT T 0 (U 0)) 1 (U 1)) 2 (U 2)) 3 (U 3)) 4 (U 4)) 5 (U 5)) ++ tw G b U) := hD
  refine lv_aload_n hx hb dX2_copyFrom_84 rfl (lv_at hl 1 rfl) ?_
  refine va_get (D := G.1) (ci := 2) (v := .ref (b 7)) (C := RX2) (T := TX2) (N := 13) hx hb hts hinX2 hown hK.1 hP 11 rfl rfl 6 (by decide) wk11 (fun _ h9 => h9) rfl dX2_copyFrom_85 ?_
  refine lv_iconst (v := 0) hx hb dX2_copyFrom_88 (by decide) ?_
  refine lv_aload_n hx hb dX2_copyFrom_89 rfl (lv_at hl 0 rfl) ?_
  refine va_get (D := G.1) (ci := 2) (v := .ref (a 7)) (C := RX2) (T := TX2) (N := 13) hx hb hts hinX2 hown hK.1 hP 0 rfl rfl 6 (by decide) wk11 (fun _ h9 => h9) rfl dX2_copyFrom_90 ?_
  refine lv_iconst (v := 0) hx hb dX2_copyFrom_93 (by decide) ?_
  refine lv_iconst (v := 5) hx hb dX2_copyFrom_94 (by decide) ?_
  refine qcopy hx hb (hml.trans hl.1.symm) hown wk2 wk3 wk4 wk5 hK.1 hP hD hS 18 7 0 rfl rfl rfl (N := 5) (by decide +kernel) (by decide +kernel) (Nat.le_of_ble_eq_true rfl) (Nat.le_of_ble_eq_true rfl) dX2_copyFrom_95 (fun H locs hP hD hS => ?_)
  have hP : va_P G.1 vwCl (tw G a (rowT (rowT (rowT (rowT (rowT (rowT (rowT T 0 (U 0)) 1 (U 1)) 2 (U 2)) 3 (U 3)) 4 (U 4)) 5 (U 5)) 6 (U 6)) ++ tw G b U) H := hP
  have hD : va_D A (tw G a (rowT (rowT (rowT (rowT (rowT (rowT (rowT T 0 (U 0)) 1 (U 1)) 2 (U 2)) 3 (U 3)) 4 (U 4)) 5 (U 5)) 6 (U 6)) ++ tw G b U) := hD
  refine lv_aload_n hx hb dX2_copyFrom_98 rfl (lv_at hl 1 rfl) ?_
  refine va_get (D := G.1) (ci := 2) (v := .ref (b 8)) (C := RX2) (T := TX2) (N := 13) hx hb hts hinX2 hown hK.1 hP 11 rfl rfl 7 (by decide) wk12 (fun _ h9 => h9) rfl dX2_copyFrom_99 ?_
  refine lv_iconst (v := 0) hx hb dX2_copyFrom_102 (by decide) ?_
  refine lv_aload_n hx hb dX2_copyFrom_103 rfl (lv_at hl 0 rfl) ?_
  refine va_get (D := G.1) (ci := 2) (v := .ref (a 8)) (C := RX2) (T := TX2) (N := 13) hx hb hts hinX2 hown hK.1 hP 0 rfl rfl 7 (by decide) wk12 (fun _ h9 => h9) rfl dX2_copyFrom_104 ?_
  refine lv_iconst (v := 0) hx hb dX2_copyFrom_107 (by decide) ?_
  refine lv_iconst (v := 5) hx hb dX2_copyFrom_108 (by decide) ?_
  refine qcopy hx hb (hml.trans hl.1.symm) hown wk2 wk3 wk4 wk5 hK.1 hP hD hS 19 8 0 rfl rfl rfl (N := 5) (by decide +kernel) (by decide +kernel) (Nat.le_of_ble_eq_true rfl) (Nat.le_of_ble_eq_true rfl) dX2_copyFrom_109 (fun H locs hP hD hS => ?_)
  have hP : va_P G.1 vwCl (tw G a (rowT (rowT (rowT (rowT (rowT (rowT (rowT (rowT T 0 (U 0)) 1 (U 1)) 2 (U 2)) 3 (U 3)) 4 (U 4)) 5 (U 5)) 6 (U 6)) 7 (U 7)) ++ tw G b U) H := hP
  have hD : va_D A (tw G a (rowT (rowT (rowT (rowT (rowT (rowT (rowT (rowT T 0 (U 0)) 1 (U 1)) 2 (U 2)) 3 (U 3)) 4 (U 4)) 5 (U 5)) 6 (U 6)) 7 (U 7)) ++ tw G b U) := hD
  refine lv_aload_n hx hb dX2_copyFrom_112 rfl (lv_at hl 1 rfl) ?_
  refine va_get (D := G.1) (ci := 2) (v := .ref (b 9)) (C := RX2) (T := TX2) (N := 13) hx hb hts hinX2 hown hK.1 hP 11 rfl rfl 8 (by decide) wk13 (fun _ h9 => h9) rfl dX2_copyFrom_113 ?_
  refine lv_iconst (v := 0) hx hb dX2_copyFrom_116 (by decide) ?_
  refine lv_aload_n hx hb dX2_copyFrom_117 rfl (lv_at hl 0 rfl) ?_
  refine va_get (D := G.1) (ci := 2) (v := .ref (a 9)) (C := RX2) (T := TX2) (N := 13) hx hb hts hinX2 hown hK.1 hP 0 rfl rfl 8 (by decide) wk13 (fun _ h9 => h9) rfl dX2_copyFrom_118 ?_
  refine lv_iconst (v := 0) hx hb dX2_copyFrom_121 (by decide) ?_
  refine lv_iconst (v := 5) hx hb dX2_copyFrom_122 (by decide) ?_
  refine qcopy hx hb (hml.trans hl.1.symm) hown wk2 wk3 wk4 wk5 hK.1 hP hD hS 20 9 0 rfl rfl rfl (N := 5) (by decide +kernel) (by decide +kernel) (Nat.le_of_ble_eq_true rfl) (Nat.le_of_ble_eq_true rfl) dX2_copyFrom_123 (fun H locs hP hD hS => ?_)
  have hP : va_P G.1 vwCl (tw G a (rowT (rowT (rowT (rowT (rowT (rowT (rowT (rowT (rowT T 0 (U 0)) 1 (U 1)) 2 (U 2)) 3 (U 3)) 4 (U 4)) 5 (U 5)) 6 (U 6)) 7 (U 7)) 8 (U 8)) ++ tw G b U) H := hP
  have hD : va_D A (tw G a (rowT (rowT (rowT (rowT (rowT (rowT (rowT (rowT (rowT T 0 (U 0)) 1 (U 1)) 2 (U 2)) 3 (U 3)) 4 (U 4)) 5 (U 5)) 6 (U 6)) 7 (U 7)) 8 (U 8)) ++ tw G b U) := hD
  refine lv_aload_n hx hb dX2_copyFrom_126 rfl (lv_at hl 1 rfl) ?_
  refine va_get (D := G.1) (ci := 2) (v := .ref (b 10)) (C := RX2) (T := TX2) (N := 13) hx hb hts hinX2 hown hK.1 hP 11 rfl rfl 9 (by decide) wk14 (fun _ h9 => h9) rfl dX2_copyFrom_127 ?_
  refine lv_iconst (v := 0) hx hb dX2_copyFrom_130 (by decide) ?_
  refine lv_aload_n hx hb dX2_copyFrom_131 rfl (lv_at hl 0 rfl) ?_
  refine va_get (D := G.1) (ci := 2) (v := .ref (a 10)) (C := RX2) (T := TX2) (N := 13) hx hb hts hinX2 hown hK.1 hP 0 rfl rfl 9 (by decide) wk14 (fun _ h9 => h9) rfl dX2_copyFrom_132 ?_
  refine lv_iconst (v := 0) hx hb dX2_copyFrom_135 (by decide) ?_
  refine lv_iconst (v := 5) hx hb dX2_copyFrom_136 (by decide) ?_
  refine qcopy hx hb (hml.trans hl.1.symm) hown wk2 wk3 wk4 wk5 hK.1 hP hD hS 21 10 0 rfl rfl rfl (N := 5) (by decide +kernel) (by decide +kernel) (Nat.le_of_ble_eq_true rfl) (Nat.le_of_ble_eq_true rfl) dX2_copyFrom_137 (fun H locs hP hD hS => ?_)
  have hP : va_P G.1 vwCl (tw G a (rowT (rowT (rowT (rowT (rowT (rowT (rowT (rowT (rowT (rowT T 0 (U 0)) 1 (U 1)) 2 (U 2)) 3 (U 3)) 4 (U 4)) 5 (U 5)) 6 (U 6)) 7 (U 7)) 8 (U 8)) 9 (U 9)) ++ tw G b U) H := hP
  have hD : va_D A (tw G a (rowT (rowT (rowT (rowT (rowT (rowT (rowT (rowT (rowT (rowT T 0 (U 0)) 1 (U 1)) 2 (U 2)) 3 (U 3)) 4 (U 4)) 5 (U 5)) 6 (U 6)) 7 (U 7)) 8 (U 8)) 9 (U 9)) ++ tw G b U) := hD
  refine lv_aload_n hx hb dX2_copyFrom_140 rfl (lv_at hl 0 rfl) ?_
  refine lv_aload_n hx hb dX2_copyFrom_141 rfl (lv_at hl 1 rfl) ?_
  refine va_get (D := G.1) (ci := 2) (v := .int (U 10 0)) (C := RX2) (T := TX2) (N := 13) hx hb hts hinX2 hown hK.1 hP 11 rfl rfl 10 (by decide) wk15 (fun _ h9 => h9) rfl dX2_copyFrom_142 ?_
  refine va_put (D := G.1) (ci := 2) (v := .int (U 10 0)) (ty := .boolean) (C := RX2) (T := TX2) (N := 13) hx hb hts hinX2 tyX2 tyX2_ok nmX2 hown hK.1 hP hD hS 0 rfl rfl 10 (by decide) wk15 (fun _ h9 => h9) rfl (by decide +kernel) (is01_nar h01) (is01_fit h01) (Nat.le_of_ble_eq_true rfl) dX2_copyFrom_145 (fun H locs hP hD hS => ?_)
  have hP : va_P G.1 vwCl (tw G a (tup (rowT (rowT (rowT (rowT (rowT (rowT (rowT (rowT (rowT (rowT T 0 (U 0)) 1 (U 1)) 2 (U 2)) 3 (U 3)) 4 (U 4)) 5 (U 5)) 6 (U 6)) 7 (U 7)) 8 (U 8)) 9 (U 9)) 10 0 (U 10 0)) ++ tw G b U) H := hP
  have hD : va_D A (tw G a (tup (rowT (rowT (rowT (rowT (rowT (rowT (rowT (rowT (rowT (rowT T 0 (U 0)) 1 (U 1)) 2 (U 2)) 3 (U 3)) 4 (U 4)) 5 (U 5)) 6 (U 6)) 7 (U 7)) 8 (U 8)) 9 (U 9)) 10 0 (U 10 0)) ++ tw G b U) := hD
  refine lv_aload_n hx hb dX2_copyFrom_148 rfl (lv_at hl 0 rfl) ?_
  refine lv_aload_n hx hb dX2_copyFrom_149 rfl (lv_at hl 1 rfl) ?_
  refine va_get (D := G.1) (ci := 2) (v := .int (U 10 1)) (C := RX2) (T := TX2) (N := 13) hx hb hts hinX2 hown hK.1 hP 11 rfl rfl 11 (by decide) wk16 (fun _ h9 => h9) rfl dX2_copyFrom_150 ?_
  refine va_put (D := G.1) (ci := 2) (v := .int (U 10 1)) (ty := .int) (C := RX2) (T := TX2) (N := 13) hx hb hts hinX2 tyX2 tyX2_ok nmX2 hown hK.1 hP hD hS 0 rfl rfl 11 (by decide) wk16 (fun _ h9 => h9) rfl (by decide +kernel) rfl rfl (Nat.le_of_ble_eq_true rfl) dX2_copyFrom_153 (fun H locs hP hD hS => ?_)
  have hP : va_P G.1 vwCl (tw G a (tup (tup (rowT (rowT (rowT (rowT (rowT (rowT (rowT (rowT (rowT (rowT T 0 (U 0)) 1 (U 1)) 2 (U 2)) 3 (U 3)) 4 (U 4)) 5 (U 5)) 6 (U 6)) 7 (U 7)) 8 (U 8)) 9 (U 9)) 10 0 (U 10 0)) 10 1 (U 10 1)) ++ tw G b U) H := hP
  have hD : va_D A (tw G a (tup (tup (rowT (rowT (rowT (rowT (rowT (rowT (rowT (rowT (rowT (rowT T 0 (U 0)) 1 (U 1)) 2 (U 2)) 3 (U 3)) 4 (U 4)) 5 (U 5)) 6 (U 6)) 7 (U 7)) 8 (U 8)) 9 (U 9)) 10 0 (U 10 0)) 10 1 (U 10 1)) ++ tw G b U) := hD
  refine lv_aload_n hx hb dX2_copyFrom_156 rfl (lv_at hl 0 rfl) ?_
  refine lv_aload_n hx hb dX2_copyFrom_157 rfl (lv_at hl 1 rfl) ?_
  refine va_get (D := G.1) (ci := 2) (v := .int (U 10 2)) (C := RX2) (T := TX2) (N := 13) hx hb hts hinX2 hown hK.1 hP 11 rfl rfl 12 (by decide) wk17 (fun _ h9 => h9) rfl dX2_copyFrom_158 ?_
  refine va_put (D := G.1) (ci := 2) (v := .int (U 10 2)) (ty := .int) (C := RX2) (T := TX2) (N := 13) hx hb hts hinX2 tyX2 tyX2_ok nmX2 hown hK.1 hP hD hS 0 rfl rfl 12 (by decide) wk17 (fun _ h9 => h9) rfl (by decide +kernel) rfl rfl (Nat.le_of_ble_eq_true rfl) dX2_copyFrom_161 (fun H locs hP hD hS => ?_)
  have hP : va_P G.1 vwCl (tw G a (tup (tup (tup (rowT (rowT (rowT (rowT (rowT (rowT (rowT (rowT (rowT (rowT T 0 (U 0)) 1 (U 1)) 2 (U 2)) 3 (U 3)) 4 (U 4)) 5 (U 5)) 6 (U 6)) 7 (U 7)) 8 (U 8)) 9 (U 9)) 10 0 (U 10 0)) 10 1 (U 10 1)) 10 2 (U 10 2)) ++ tw G b U) H := hP
  have hD : va_D A (tw G a (tup (tup (tup (rowT (rowT (rowT (rowT (rowT (rowT (rowT (rowT (rowT (rowT T 0 (U 0)) 1 (U 1)) 2 (U 2)) 3 (U 3)) 4 (U 4)) 5 (U 5)) 6 (U 6)) 7 (U 7)) 8 (U 8)) 9 (U 9)) 10 0 (U 10 0)) 10 1 (U 10 1)) 10 2 (U 10 2)) ++ tw G b U) := hD
  have hP : va_P G.1 vwCl (tw G a U ++ tw G b U) H := hP
  have hD : va_D A (tw G a U ++ tw G b U) := hD
  exact hret _ _ _ _ () trivial hP hD hS dX2_copyFrom_164
set_option maxHeartbeats 4000000 in
set_option maxRecDepth 100000 in
theorem c_X2_init (l : Launch) (G : qG) (q : Nat) (sz : Nat) : Met l yX2_init wsX2_init { frames := 1, cells := 10, slots := 49, locals := 12 } (PW G sz [.ref q] ([(q, .inr (2, [.null, .null, .null, .null, .null, .null, .null, .null, .null, .null, .int 0, .int 0, .int 0]))])) (QV (S := Nat → Nat) G sz ([(q, .inr (2, [.null, .null, .null, .null, .null, .null, .null, .null, .null, .null, .int 0, .int 0, .int 0]))]) (fun u => u 0 = q) (fun u => tw G u iniT)) 10 49 (va_A ([(q, .inr (2, [.null, .null, .null, .null, .null, .null, .null, .null, .null, .null, .int 0, .int 0, .int 0]))]) sz) := by
  refine MV.of' (by decide) rfl (Nat.le_of_ble_eq_true rfl) ?_
  intro p e s m below meth c hx hb hml hown hts hK hsz hP A hAe hA hD hS hmn Q hret ls hl
  have hown : s.vm.findClass RX2 = some m.cls := hown
  have hl : lv_has ls 1 [(0, .ref q)] := hl
  have wk1 := hts (Cond.methodLink RX2 3 objectInit) (List.mem_of_getElem? (i := 1) rfl)
  have wk2 := hts (Cond.instanceMethod objectInit) (List.mem_of_getElem? (i := 2) rfl)
  have wk3 := hts (Cond.code objectInit ⟨#[0xb1]⟩ 1 none) (List.mem_of_getElem? (i := 3) rfl)
  have wk4 := hts (Cond.arrayClass .int) (List.mem_of_getElem? (i := 4) rfl)
  have wk5 := hts (Cond.fieldLink RX2 9 "TurnBids$Table" "settings" "[I") (List.mem_of_getElem? (i := 5) rfl)
  have wk6 := hts (Cond.fieldLink RX2 15 "TurnBids$Table" "prizes" "[I") (List.mem_of_getElem? (i := 6) rfl)
  have wk7 := hts (Cond.fieldLink RX2 18 "TurnBids$Table" "coins" "[I") (List.mem_of_getElem? (i := 7) rfl)
  have wk8 := hts (Cond.fieldLink RX2 21 "TurnBids$Table" "limits" "[I") (List.mem_of_getElem? (i := 8) rfl)
  have wk9 := hts (Cond.fieldLink RX2 24 "TurnBids$Table" "places" "[I") (List.mem_of_getElem? (i := 9) rfl)
  have wk10 := hts (Cond.constant RX2 27 (-100006)) (List.mem_of_getElem? (i := 10) rfl)
  have wk11 := hts (Cond.fieldLink RX2 28 "TurnBids$Table" "bids" "[I") (List.mem_of_getElem? (i := 11) rfl)
  have wk12 := hts (Cond.fieldLink RX2 31 "TurnBids$Table" "placesGot" "[I") (List.mem_of_getElem? (i := 12) rfl)
  have wk13 := hts (Cond.fieldLink RX2 34 "TurnBids$Table" "paid" "[I") (List.mem_of_getElem? (i := 13) rfl)
  have wk14 := hts (Cond.fieldLink RX2 37 "TurnBids$Table" "taken" "[I") (List.mem_of_getElem? (i := 14) rfl)
  have wk15 := hts (Cond.fieldLink RX2 40 "TurnBids$Table" "won" "[I") (List.mem_of_getElem? (i := 15) rfl)
  have wk16 := hts (Cond.fieldLink RX2 43 "TurnBids$Table" "underWay" "Z") (List.mem_of_getElem? (i := 16) rfl)
  have wk17 := hts (Cond.fieldLink RX2 47 "TurnBids$Table" "turn" "I") (List.mem_of_getElem? (i := 17) rfl)
  have wk18 := hts (Cond.fieldLink RX2 51 "TurnBids$Table" "rounds" "I") (List.mem_of_getElem? (i := 18) rfl)
  have hinX2 : ∀ w ∈ wsX20, w ∈ wsX2_init := fun _ h => (List.mem_cons_of_mem _ (List.mem_append_right _ h))
  refine lv_aload_n hx hb dX2_init_0 rfl (lv_at hl 0 rfl) ?_
  refine W.objInit hx hb hown wk1 wk2 wk3 rfl (by rw [hml]; exact hl.1) rfl dX2_init_1 (Nat.le_of_ble_eq_true rfl) (Nat.le_of_ble_eq_true rfl) ?_
  refine W.eq (g2 := F0 m 4 ls []) rfl ?_
  refine lv_aload_n hx hb dX2_init_4 rfl (lv_at hl 0 rfl) ?_
  refine lv_iconst (v := 4) hx hb dX2_init_5 (by decide) ?_
  refine qnewi hx hb wk4 hK hP hD hS hA (N' := 4) (by decide +kernel) (by decide +kernel) (Nat.le_of_ble_eq_true rfl) (Nat.le_of_ble_eq_true rfl) (Nat.le_of_ble_eq_true rfl) dX2_init_6 (fun q_1 H hP hD hS => ?_)
  have hP : va_P G.1 vwCl ([(q, .inr (2, [.null, .null, .null, .null, .null, .null, .null, .null, .null, .null, .int 0, .int 0, .int 0])), (q_1, .inl (gI G, 4, .inl (fun _ => 0)))]) H := hP
  have hD : va_D A ([(q, .inr (2, [.null, .null, .null, .null, .null, .null, .null, .null, .null, .null, .int 0, .int 0, .int 0])), (q_1, .inl (gI G, 4, .inl (fun _ => 0)))]) := hD
  refine lv_dup hx hb dX2_init_8 rfl ?_
  refine lv_iconst (v := 0) hx hb dX2_init_9 (by decide) ?_
  refine lv_iconst (v := 1) hx hb dX2_init_10 (by decide) ?_
  refine qist hx hb hK.1 hP hD hS 1 0 rfl rfl (k := 0) rfl (vp_in_nI (n := 0) (by decide) (by decide)) dX2_init_11 (fun H locs hP hD hS => ?_)
  have hP : va_P G.1 vwCl ([(q, .inr (2, [.null, .null, .null, .null, .null, .null, .null, .null, .null, .null, .int 0, .int 0, .int 0])), (q_1, .inl (gI G, 4, .inl (upd (fun _ => 0) 0 1)))]) H := hP
  have hD : va_D A ([(q, .inr (2, [.null, .null, .null, .null, .null, .null, .null, .null, .null, .null, .int 0, .int 0, .int 0])), (q_1, .inl (gI G, 4, .inl (upd (fun _ => 0) 0 1)))]) := hD
  refine lv_dup hx hb dX2_init_12 rfl ?_
  refine lv_iconst (v := 1) hx hb dX2_init_13 (by decide) ?_
  refine lv_iconst (v := 1) hx hb dX2_init_14 (by decide) ?_
  refine qist hx hb hK.1 hP hD hS 1 0 rfl rfl (k := 1) rfl (vp_in_nI (n := 1) (by decide) (by decide)) dX2_init_15 (fun H locs hP hD hS => ?_)
  have hP : va_P G.1 vwCl ([(q, .inr (2, [.null, .null, .null, .null, .null, .null, .null, .null, .null, .null, .int 0, .int 0, .int 0])), (q_1, .inl (gI G, 4, .inl (upd (upd (fun _ => 0) 0 1) 1 1)))]) H := hP
  have hD : va_D A ([(q, .inr (2, [.null, .null, .null, .null, .null, .null, .null, .null, .null, .null, .int 0, .int 0, .int 0])), (q_1, .inl (gI G, 4, .inl (upd (upd (fun _ => 0) 0 1) 1 1)))]) := hD
  refine lv_dup hx hb dX2_init_16 rfl ?_
  refine lv_iconst (v := 2) hx hb dX2_init_17 (by decide) ?_
  refine lv_bipush (v := 50) hx hb dX2_init_18 (by decide) ?_
  refine qist hx hb hK.1 hP hD hS 1 0 rfl rfl (k := 2) rfl (vp_in_nI (n := 2) (by decide) (by decide)) dX2_init_20 (fun H locs hP hD hS => ?_)
  have hP : va_P G.1 vwCl ([(q, .inr (2, [.null, .null, .null, .null, .null, .null, .null, .null, .null, .null, .int 0, .int 0, .int 0])), (q_1, .inl (gI G, 4, .inl (upd (upd (upd (fun _ => 0) 0 1) 1 1) 2 50)))]) H := hP
  have hD : va_D A ([(q, .inr (2, [.null, .null, .null, .null, .null, .null, .null, .null, .null, .null, .int 0, .int 0, .int 0])), (q_1, .inl (gI G, 4, .inl (upd (upd (upd (fun _ => 0) 0 1) 1 1) 2 50)))]) := hD
  refine lv_dup hx hb dX2_init_21 rfl ?_
  refine lv_iconst (v := 3) hx hb dX2_init_22 (by decide) ?_
  refine lv_iconst (v := 0) hx hb dX2_init_23 (by decide) ?_
  refine qist hx hb hK.1 hP hD hS 1 0 rfl rfl (k := 3) rfl (vp_in_nI (n := 3) (by decide) (by decide)) dX2_init_24 (fun H locs hP hD hS => ?_)
  have hP : va_P G.1 vwCl ([(q, .inr (2, [.null, .null, .null, .null, .null, .null, .null, .null, .null, .null, .int 0, .int 0, .int 0])), (q_1, .inl (gI G, 4, .inl (upd (upd (upd (upd (fun _ => 0) 0 1) 1 1) 2 50) 3 0)))]) H := hP
  have hD : va_D A ([(q, .inr (2, [.null, .null, .null, .null, .null, .null, .null, .null, .null, .null, .int 0, .int 0, .int 0])), (q_1, .inl (gI G, 4, .inl (upd (upd (upd (upd (fun _ => 0) 0 1) 1 1) 2 50) 3 0)))]) := hD
  refine va_putF (D := G.1) (ci := 2) (v := .ref q_1) (ty := .array .int) (C := RX2) (T := TX2) (N := 13) hx hb hts hinX2 tyX2 tyX2_ok nmX2 hown hK.1 hP hD hS 0 rfl rfl 0 (by decide) wk5 (fun _ h9 => h9) rfl hmn rfl (by decide +kernel) rfl rfl (Nat.le_of_ble_eq_true rfl) dX2_init_25 (fun H locs hP hD hS => ?_)
  have hP : va_P G.1 vwCl ([(q, .inr (2, [.ref q_1, .null, .null, .null, .null, .null, .null, .null, .null, .null, .int 0, .int 0, .int 0])), (q_1, .inl (gI G, 4, .inl (upd (upd (upd (upd (fun _ => 0) 0 1) 1 1) 2 50) 3 0)))]) H := hP
  have hD : va_D A ([(q, .inr (2, [.ref q_1, .null, .null, .null, .null, .null, .null, .null, .null, .null, .int 0, .int 0, .int 0])), (q_1, .inl (gI G, 4, .inl (upd (upd (upd (upd (fun _ => 0) 0 1) 1 1) 2 50) 3 0)))]) := hD
  refine lv_aload_n hx hb dX2_init_28 rfl (lv_at hl 0 rfl) ?_
  refine lv_iconst (v := 5) hx hb dX2_init_29 (by decide) ?_
  refine qnewi hx hb wk4 hK hP hD hS hA (N' := 5) (by decide +kernel) (by decide +kernel) (Nat.le_of_ble_eq_true rfl) (Nat.le_of_ble_eq_true rfl) (Nat.le_of_ble_eq_true rfl) dX2_init_30 (fun q_2 H hP hD hS => ?_)
  have hP : va_P G.1 vwCl ([(q, .inr (2, [.ref q_1, .null, .null, .null, .null, .null, .null, .null, .null, .null, .int 0, .int 0, .int 0])), (q_1, .inl (gI G, 4, .inl (upd (upd (upd (upd (fun _ => 0) 0 1) 1 1) 2 50) 3 0))), (q_2, .inl (gI G, 5, .inl (fun _ => 0)))]) H := hP
  have hD : va_D A ([(q, .inr (2, [.ref q_1, .null, .null, .null, .null, .null, .null, .null, .null, .null, .int 0, .int 0, .int 0])), (q_1, .inl (gI G, 4, .inl (upd (upd (upd (upd (fun _ => 0) 0 1) 1 1) 2 50) 3 0))), (q_2, .inl (gI G, 5, .inl (fun _ => 0)))]) := hD
  refine lv_dup hx hb dX2_init_32 rfl ?_
  refine lv_iconst (v := 0) hx hb dX2_init_33 (by decide) ?_
  refine lv_iconst (v := 5) hx hb dX2_init_34 (by decide) ?_
  refine qist hx hb hK.1 hP hD hS 2 0 rfl rfl (k := 0) rfl (vp_in_nI (n := 0) (by decide) (by decide)) dX2_init_35 (fun H locs hP hD hS => ?_)
  have hP : va_P G.1 vwCl ([(q, .inr (2, [.ref q_1, .null, .null, .null, .null, .null, .null, .null, .null, .null, .int 0, .int 0, .int 0])), (q_1, .inl (gI G, 4, .inl (upd (upd (upd (upd (fun _ => 0) 0 1) 1 1) 2 50) 3 0))), (q_2, .inl (gI G, 5, .inl (upd (fun _ => 0) 0 5)))]) H := hP
  have hD : va_D A ([(q, .inr (2, [.ref q_1, .null, .null, .null, .null, .null, .null, .null, .null, .null, .int 0, .int 0, .int 0])), (q_1, .inl (gI G, 4, .inl (upd (upd (upd (upd (fun _ => 0) 0 1) 1 1) 2 50) 3 0))), (q_2, .inl (gI G, 5, .inl (upd (fun _ => 0) 0 5)))]) := hD
  refine lv_dup hx hb dX2_init_36 rfl ?_
  refine lv_iconst (v := 1) hx hb dX2_init_37 (by decide) ?_
  refine lv_iconst (v := 4) hx hb dX2_init_38 (by decide) ?_
  refine qist hx hb hK.1 hP hD hS 2 0 rfl rfl (k := 1) rfl (vp_in_nI (n := 1) (by decide) (by decide)) dX2_init_39 (fun H locs hP hD hS => ?_)
  have hP : va_P G.1 vwCl ([(q, .inr (2, [.ref q_1, .null, .null, .null, .null, .null, .null, .null, .null, .null, .int 0, .int 0, .int 0])), (q_1, .inl (gI G, 4, .inl (upd (upd (upd (upd (fun _ => 0) 0 1) 1 1) 2 50) 3 0))), (q_2, .inl (gI G, 5, .inl (upd (upd (fun _ => 0) 0 5) 1 4)))]) H := hP
  have hD : va_D A ([(q, .inr (2, [.ref q_1, .null, .null, .null, .null, .null, .null, .null, .null, .null, .int 0, .int 0, .int 0])), (q_1, .inl (gI G, 4, .inl (upd (upd (upd (upd (fun _ => 0) 0 1) 1 1) 2 50) 3 0))), (q_2, .inl (gI G, 5, .inl (upd (upd (fun _ => 0) 0 5) 1 4)))]) := hD
  refine lv_dup hx hb dX2_init_40 rfl ?_
  refine lv_iconst (v := 2) hx hb dX2_init_41 (by decide) ?_
  refine lv_iconst (v := 3) hx hb dX2_init_42 (by decide) ?_
  refine qist hx hb hK.1 hP hD hS 2 0 rfl rfl (k := 2) rfl (vp_in_nI (n := 2) (by decide) (by decide)) dX2_init_43 (fun H locs hP hD hS => ?_)
  have hP : va_P G.1 vwCl ([(q, .inr (2, [.ref q_1, .null, .null, .null, .null, .null, .null, .null, .null, .null, .int 0, .int 0, .int 0])), (q_1, .inl (gI G, 4, .inl (upd (upd (upd (upd (fun _ => 0) 0 1) 1 1) 2 50) 3 0))), (q_2, .inl (gI G, 5, .inl (upd (upd (upd (fun _ => 0) 0 5) 1 4) 2 3)))]) H := hP
  have hD : va_D A ([(q, .inr (2, [.ref q_1, .null, .null, .null, .null, .null, .null, .null, .null, .null, .int 0, .int 0, .int 0])), (q_1, .inl (gI G, 4, .inl (upd (upd (upd (upd (fun _ => 0) 0 1) 1 1) 2 50) 3 0))), (q_2, .inl (gI G, 5, .inl (upd (upd (upd (fun _ => 0) 0 5) 1 4) 2 3)))]) := hD
  refine lv_dup hx hb dX2_init_44 rfl ?_
  refine lv_iconst (v := 3) hx hb dX2_init_45 (by decide) ?_
  refine lv_iconst (v := 2) hx hb dX2_init_46 (by decide) ?_
  refine qist hx hb hK.1 hP hD hS 2 0 rfl rfl (k := 3) rfl (vp_in_nI (n := 3) (by decide) (by decide)) dX2_init_47 (fun H locs hP hD hS => ?_)
  have hP : va_P G.1 vwCl ([(q, .inr (2, [.ref q_1, .null, .null, .null, .null, .null, .null, .null, .null, .null, .int 0, .int 0, .int 0])), (q_1, .inl (gI G, 4, .inl (upd (upd (upd (upd (fun _ => 0) 0 1) 1 1) 2 50) 3 0))), (q_2, .inl (gI G, 5, .inl (upd (upd (upd (upd (fun _ => 0) 0 5) 1 4) 2 3) 3 2)))]) H := hP
  have hD : va_D A ([(q, .inr (2, [.ref q_1, .null, .null, .null, .null, .null, .null, .null, .null, .null, .int 0, .int 0, .int 0])), (q_1, .inl (gI G, 4, .inl (upd (upd (upd (upd (fun _ => 0) 0 1) 1 1) 2 50) 3 0))), (q_2, .inl (gI G, 5, .inl (upd (upd (upd (upd (fun _ => 0) 0 5) 1 4) 2 3) 3 2)))]) := hD
  refine lv_dup hx hb dX2_init_48 rfl ?_
  refine lv_iconst (v := 4) hx hb dX2_init_49 (by decide) ?_
  refine lv_iconst (v := 1) hx hb dX2_init_50 (by decide) ?_
  refine qist hx hb hK.1 hP hD hS 2 0 rfl rfl (k := 4) rfl (vp_in_nI (n := 4) (by decide) (by decide)) dX2_init_51 (fun H locs hP hD hS => ?_)
  have hP : va_P G.1 vwCl ([(q, .inr (2, [.ref q_1, .null, .null, .null, .null, .null, .null, .null, .null, .null, .int 0, .int 0, .int 0])), (q_1, .inl (gI G, 4, .inl (upd (upd (upd (upd (fun _ => 0) 0 1) 1 1) 2 50) 3 0))), (q_2, .inl (gI G, 5, .inl (upd (upd (upd (upd (upd (fun _ => 0) 0 5) 1 4) 2 3) 3 2) 4 1)))]) H := hP
  have hD : va_D A ([(q, .inr (2, [.ref q_1, .null, .null, .null, .null, .null, .null, .null, .null, .null, .int 0, .int 0, .int 0])), (q_1, .inl (gI G, 4, .inl (upd (upd (upd (upd (fun _ => 0) 0 1) 1 1) 2 50) 3 0))), (q_2, .inl (gI G, 5, .inl (upd (upd (upd (upd (upd (fun _ => 0) 0 5) 1 4) 2 3) 3 2) 4 1)))]) := hD
  refine va_putF (D := G.1) (ci := 2) (v := .ref q_2) (ty := .array .int) (C := RX2) (T := TX2) (N := 13) hx hb hts hinX2 tyX2 tyX2_ok nmX2 hown hK.1 hP hD hS 0 rfl rfl 1 (by decide) wk6 (fun _ h9 => h9) rfl hmn rfl (by decide +kernel) rfl rfl (Nat.le_of_ble_eq_true rfl) dX2_init_52 (fun H locs hP hD hS => ?_)
  have hP : va_P G.1 vwCl ([(q, .inr (2, [.ref q_1, .ref q_2, .null, .null, .null, .null, .null, .null, .null, .null, .int 0, .int 0, .int 0])), (q_1, .inl (gI G, 4, .inl (upd (upd (upd (upd (fun _ => 0) 0 1) 1 1) 2 50) 3 0))), (q_2, .inl (gI G, 5, .inl (upd (upd (upd (upd (upd (fun _ => 0) 0 5) 1 4) 2 3) 3 2) 4 1)))]) H := hP
  have hD : va_D A ([(q, .inr (2, [.ref q_1, .ref q_2, .null, .null, .null, .null, .null, .null, .null, .null, .int 0, .int 0, .int 0])), (q_1, .inl (gI G, 4, .inl (upd (upd (upd (upd (fun _ => 0) 0 1) 1 1) 2 50) 3 0))), (q_2, .inl (gI G, 5, .inl (upd (upd (upd (upd (upd (fun _ => 0) 0 5) 1 4) 2 3) 3 2) 4 1)))]) := hD
  refine lv_aload_n hx hb dX2_init_55 rfl (lv_at hl 0 rfl) ?_
  refine lv_iconst (v := 5) hx hb dX2_init_56 (by decide) ?_
  refine qnewi hx hb wk4 hK hP hD hS hA (N' := 5) (by decide +kernel) (by decide +kernel) (Nat.le_of_ble_eq_true rfl) (Nat.le_of_ble_eq_true rfl) (Nat.le_of_ble_eq_true rfl) dX2_init_57 (fun q_3 H hP hD hS => ?_)
  have hP : va_P G.1 vwCl ([(q, .inr (2, [.ref q_1, .ref q_2, .null, .null, .null, .null, .null, .null, .null, .null, .int 0, .int 0, .int 0])), (q_1, .inl (gI G, 4, .inl (upd (upd (upd (upd (fun _ => 0) 0 1) 1 1) 2 50) 3 0))), (q_2, .inl (gI G, 5, .inl (upd (upd (upd (upd (upd (fun _ => 0) 0 5) 1 4) 2 3) 3 2) 4 1))), (q_3, .inl (gI G, 5, .inl (fun _ => 0)))]) H := hP
  have hD : va_D A ([(q, .inr (2, [.ref q_1, .ref q_2, .null, .null, .null, .null, .null, .null, .null, .null, .int 0, .int 0, .int 0])), (q_1, .inl (gI G, 4, .inl (upd (upd (upd (upd (fun _ => 0) 0 1) 1 1) 2 50) 3 0))), (q_2, .inl (gI G, 5, .inl (upd (upd (upd (upd (upd (fun _ => 0) 0 5) 1 4) 2 3) 3 2) 4 1))), (q_3, .inl (gI G, 5, .inl (fun _ => 0)))]) := hD
  refine lv_dup hx hb dX2_init_59 rfl ?_
  refine lv_iconst (v := 0) hx hb dX2_init_60 (by decide) ?_
  refine lv_bipush (v := 20) hx hb dX2_init_61 (by decide) ?_
  refine qist hx hb hK.1 hP hD hS 3 0 rfl rfl (k := 0) rfl (vp_in_nI (n := 0) (by decide) (by decide)) dX2_init_63 (fun H locs hP hD hS => ?_)
  have hP : va_P G.1 vwCl ([(q, .inr (2, [.ref q_1, .ref q_2, .null, .null, .null, .null, .null, .null, .null, .null, .int 0, .int 0, .int 0])), (q_1, .inl (gI G, 4, .inl (upd (upd (upd (upd (fun _ => 0) 0 1) 1 1) 2 50) 3 0))), (q_2, .inl (gI G, 5, .inl (upd (upd (upd (upd (upd (fun _ => 0) 0 5) 1 4) 2 3) 3 2) 4 1))), (q_3, .inl (gI G, 5, .inl (upd (fun _ => 0) 0 20)))]) H := hP
  have hD : va_D A ([(q, .inr (2, [.ref q_1, .ref q_2, .null, .null, .null, .null, .null, .null, .null, .null, .int 0, .int 0, .int 0])), (q_1, .inl (gI G, 4, .inl (upd (upd (upd (upd (fun _ => 0) 0 1) 1 1) 2 50) 3 0))), (q_2, .inl (gI G, 5, .inl (upd (upd (upd (upd (upd (fun _ => 0) 0 5) 1 4) 2 3) 3 2) 4 1))), (q_3, .inl (gI G, 5, .inl (upd (fun _ => 0) 0 20)))]) := hD
  refine lv_dup hx hb dX2_init_64 rfl ?_
  refine lv_iconst (v := 1) hx hb dX2_init_65 (by decide) ?_
  refine lv_bipush (v := 20) hx hb dX2_init_66 (by decide) ?_
  refine qist hx hb hK.1 hP hD hS 3 0 rfl rfl (k := 1) rfl (vp_in_nI (n := 1) (by decide) (by decide)) dX2_init_68 (fun H locs hP hD hS => ?_)
  have hP : va_P G.1 vwCl ([(q, .inr (2, [.ref q_1, .ref q_2, .null, .null, .null, .null, .null, .null, .null, .null, .int 0, .int 0, .int 0])), (q_1, .inl (gI G, 4, .inl (upd (upd (upd (upd (fun _ => 0) 0 1) 1 1) 2 50) 3 0))), (q_2, .inl (gI G, 5, .inl (upd (upd (upd (upd (upd (fun _ => 0) 0 5) 1 4) 2 3) 3 2) 4 1))), (q_3, .inl (gI G, 5, .inl (upd (upd (fun _ => 0) 0 20) 1 20)))]) H := hP
  have hD : va_D A ([(q, .inr (2, [.ref q_1, .ref q_2, .null, .null, .null, .null, .null, .null, .null, .null, .int 0, .int 0, .int 0])), (q_1, .inl (gI G, 4, .inl (upd (upd (upd (upd (fun _ => 0) 0 1) 1 1) 2 50) 3 0))), (q_2, .inl (gI G, 5, .inl (upd (upd (upd (upd (upd (fun _ => 0) 0 5) 1 4) 2 3) 3 2) 4 1))), (q_3, .inl (gI G, 5, .inl (upd (upd (fun _ => 0) 0 20) 1 20)))]) := hD
  refine lv_dup hx hb dX2_init_69 rfl ?_
  refine lv_iconst (v := 2) hx hb dX2_init_70 (by decide) ?_
  refine lv_bipush (v := 20) hx hb dX2_init_71 (by decide) ?_
  refine qist hx hb hK.1 hP hD hS 3 0 rfl rfl (k := 2) rfl (vp_in_nI (n := 2) (by decide) (by decide)) dX2_init_73 (fun H locs hP hD hS => ?_)
  have hP : va_P G.1 vwCl ([(q, .inr (2, [.ref q_1, .ref q_2, .null, .null, .null, .null, .null, .null, .null, .null, .int 0, .int 0, .int 0])), (q_1, .inl (gI G, 4, .inl (upd (upd (upd (upd (fun _ => 0) 0 1) 1 1) 2 50) 3 0))), (q_2, .inl (gI G, 5, .inl (upd (upd (upd (upd (upd (fun _ => 0) 0 5) 1 4) 2 3) 3 2) 4 1))), (q_3, .inl (gI G, 5, .inl (upd (upd (upd (fun _ => 0) 0 20) 1 20) 2 20)))]) H := hP
  have hD : va_D A ([(q, .inr (2, [.ref q_1, .ref q_2, .null, .null, .null, .null, .null, .null, .null, .null, .int 0, .int 0, .int 0])), (q_1, .inl (gI G, 4, .inl (upd (upd (upd (upd (fun _ => 0) 0 1) 1 1) 2 50) 3 0))), (q_2, .inl (gI G, 5, .inl (upd (upd (upd (upd (upd (fun _ => 0) 0 5) 1 4) 2 3) 3 2) 4 1))), (q_3, .inl (gI G, 5, .inl (upd (upd (upd (fun _ => 0) 0 20) 1 20) 2 20)))]) := hD
  refine lv_dup hx hb dX2_init_74 rfl ?_
  refine lv_iconst (v := 3) hx hb dX2_init_75 (by decide) ?_
  refine lv_bipush (v := 20) hx hb dX2_init_76 (by decide) ?_
  refine qist hx hb hK.1 hP hD hS 3 0 rfl rfl (k := 3) rfl (vp_in_nI (n := 3) (by decide) (by decide)) dX2_init_78 (fun H locs hP hD hS => ?_)
  have hP : va_P G.1 vwCl ([(q, .inr (2, [.ref q_1, .ref q_2, .null, .null, .null, .null, .null, .null, .null, .null, .int 0, .int 0, .int 0])), (q_1, .inl (gI G, 4, .inl (upd (upd (upd (upd (fun _ => 0) 0 1) 1 1) 2 50) 3 0))), (q_2, .inl (gI G, 5, .inl (upd (upd (upd (upd (upd (fun _ => 0) 0 5) 1 4) 2 3) 3 2) 4 1))), (q_3, .inl (gI G, 5, .inl (upd (upd (upd (upd (fun _ => 0) 0 20) 1 20) 2 20) 3 20)))]) H := hP
  have hD : va_D A ([(q, .inr (2, [.ref q_1, .ref q_2, .null, .null, .null, .null, .null, .null, .null, .null, .int 0, .int 0, .int 0])), (q_1, .inl (gI G, 4, .inl (upd (upd (upd (upd (fun _ => 0) 0 1) 1 1) 2 50) 3 0))), (q_2, .inl (gI G, 5, .inl (upd (upd (upd (upd (upd (fun _ => 0) 0 5) 1 4) 2 3) 3 2) 4 1))), (q_3, .inl (gI G, 5, .inl (upd (upd (upd (upd (fun _ => 0) 0 20) 1 20) 2 20) 3 20)))]) := hD
  refine lv_dup hx hb dX2_init_79 rfl ?_
  refine lv_iconst (v := 4) hx hb dX2_init_80 (by decide) ?_
  refine lv_bipush (v := 20) hx hb dX2_init_81 (by decide) ?_
  refine qist hx hb hK.1 hP hD hS 3 0 rfl rfl (k := 4) rfl (vp_in_nI (n := 4) (by decide) (by decide)) dX2_init_83 (fun H locs hP hD hS => ?_)
  have hP : va_P G.1 vwCl ([(q, .inr (2, [.ref q_1, .ref q_2, .null, .null, .null, .null, .null, .null, .null, .null, .int 0, .int 0, .int 0])), (q_1, .inl (gI G, 4, .inl (upd (upd (upd (upd (fun _ => 0) 0 1) 1 1) 2 50) 3 0))), (q_2, .inl (gI G, 5, .inl (upd (upd (upd (upd (upd (fun _ => 0) 0 5) 1 4) 2 3) 3 2) 4 1))), (q_3, .inl (gI G, 5, .inl (upd (upd (upd (upd (upd (fun _ => 0) 0 20) 1 20) 2 20) 3 20) 4 20)))]) H := hP
  have hD : va_D A ([(q, .inr (2, [.ref q_1, .ref q_2, .null, .null, .null, .null, .null, .null, .null, .null, .int 0, .int 0, .int 0])), (q_1, .inl (gI G, 4, .inl (upd (upd (upd (upd (fun _ => 0) 0 1) 1 1) 2 50) 3 0))), (q_2, .inl (gI G, 5, .inl (upd (upd (upd (upd (upd (fun _ => 0) 0 5) 1 4) 2 3) 3 2) 4 1))), (q_3, .inl (gI G, 5, .inl (upd (upd (upd (upd (upd (fun _ => 0) 0 20) 1 20) 2 20) 3 20) 4 20)))]) := hD
  refine va_putF (D := G.1) (ci := 2) (v := .ref q_3) (ty := .array .int) (C := RX2) (T := TX2) (N := 13) hx hb hts hinX2 tyX2 tyX2_ok nmX2 hown hK.1 hP hD hS 0 rfl rfl 2 (by decide) wk7 (fun _ h9 => h9) rfl hmn rfl (by decide +kernel) rfl rfl (Nat.le_of_ble_eq_true rfl) dX2_init_84 (fun H locs hP hD hS => ?_)
  have hP : va_P G.1 vwCl ([(q, .inr (2, [.ref q_1, .ref q_2, .ref q_3, .null, .null, .null, .null, .null, .null, .null, .int 0, .int 0, .int 0])), (q_1, .inl (gI G, 4, .inl (upd (upd (upd (upd (fun _ => 0) 0 1) 1 1) 2 50) 3 0))), (q_2, .inl (gI G, 5, .inl (upd (upd (upd (upd (upd (fun _ => 0) 0 5) 1 4) 2 3) 3 2) 4 1))), (q_3, .inl (gI G, 5, .inl (upd (upd (upd (upd (upd (fun _ => 0) 0 20) 1 20) 2 20) 3 20) 4 20)))]) H := hP
  have hD : va_D A ([(q, .inr (2, [.ref q_1, .ref q_2, .ref q_3, .null, .null, .null, .null, .null, .null, .null, .int 0, .int 0, .int 0])), (q_1, .inl (gI G, 4, .inl (upd (upd (upd (upd (fun _ => 0) 0 1) 1 1) 2 50) 3 0))), (q_2, .inl (gI G, 5, .inl (upd (upd (upd (upd (upd (fun _ => 0) 0 5) 1 4) 2 3) 3 2) 4 1))), (q_3, .inl (gI G, 5, .inl (upd (upd (upd (upd (upd (fun _ => 0) 0 20) 1 20) 2 20) 3 20) 4 20)))]) := hD
  refine lv_aload_n hx hb dX2_init_87 rfl (lv_at hl 0 rfl) ?_
  refine lv_iconst (v := 5) hx hb dX2_init_88 (by decide) ?_
  refine qnewi hx hb wk4 hK hP hD hS hA (N' := 5) (by decide +kernel) (by decide +kernel) (Nat.le_of_ble_eq_true rfl) (Nat.le_of_ble_eq_true rfl) (Nat.le_of_ble_eq_true rfl) dX2_init_89 (fun q_4 H hP hD hS => ?_)
  have hP : va_P G.1 vwCl ([(q, .inr (2, [.ref q_1, .ref q_2, .ref q_3, .null, .null, .null, .null, .null, .null, .null, .int 0, .int 0, .int 0])), (q_1, .inl (gI G, 4, .inl (upd (upd (upd (upd (fun _ => 0) 0 1) 1 1) 2 50) 3 0))), (q_2, .inl (gI G, 5, .inl (upd (upd (upd (upd (upd (fun _ => 0) 0 5) 1 4) 2 3) 3 2) 4 1))), (q_3, .inl (gI G, 5, .inl (upd (upd (upd (upd (upd (fun _ => 0) 0 20) 1 20) 2 20) 3 20) 4 20))), (q_4, .inl (gI G, 5, .inl (fun _ => 0)))]) H := hP
  have hD : va_D A ([(q, .inr (2, [.ref q_1, .ref q_2, .ref q_3, .null, .null, .null, .null, .null, .null, .null, .int 0, .int 0, .int 0])), (q_1, .inl (gI G, 4, .inl (upd (upd (upd (upd (fun _ => 0) 0 1) 1 1) 2 50) 3 0))), (q_2, .inl (gI G, 5, .inl (upd (upd (upd (upd (upd (fun _ => 0) 0 5) 1 4) 2 3) 3 2) 4 1))), (q_3, .inl (gI G, 5, .inl (upd (upd (upd (upd (upd (fun _ => 0) 0 20) 1 20) 2 20) 3 20) 4 20))), (q_4, .inl (gI G, 5, .inl (fun _ => 0)))]) := hD
  refine lv_dup hx hb dX2_init_91 rfl ?_
  refine lv_iconst (v := 0) hx hb dX2_init_92 (by decide) ?_
  refine lv_bipush (v := 10) hx hb dX2_init_93 (by decide) ?_
  refine qist hx hb hK.1 hP hD hS 4 0 rfl rfl (k := 0) rfl (vp_in_nI (n := 0) (by decide) (by decide)) dX2_init_95 (fun H locs hP hD hS => ?_)
  have hP : va_P G.1 vwCl ([(q, .inr (2, [.ref q_1, .ref q_2, .ref q_3, .null, .null, .null, .null, .null, .null, .null, .int 0, .int 0, .int 0])), (q_1, .inl (gI G, 4, .inl (upd (upd (upd (upd (fun _ => 0) 0 1) 1 1) 2 50) 3 0))), (q_2, .inl (gI G, 5, .inl (upd (upd (upd (upd (upd (fun _ => 0) 0 5) 1 4) 2 3) 3 2) 4 1))), (q_3, .inl (gI G, 5, .inl (upd (upd (upd (upd (upd (fun _ => 0) 0 20) 1 20) 2 20) 3 20) 4 20))), (q_4, .inl (gI G, 5, .inl (upd (fun _ => 0) 0 10)))]) H := hP
  have hD : va_D A ([(q, .inr (2, [.ref q_1, .ref q_2, .ref q_3, .null, .null, .null, .null, .null, .null, .null, .int 0, .int 0, .int 0])), (q_1, .inl (gI G, 4, .inl (upd (upd (upd (upd (fun _ => 0) 0 1) 1 1) 2 50) 3 0))), (q_2, .inl (gI G, 5, .inl (upd (upd (upd (upd (upd (fun _ => 0) 0 5) 1 4) 2 3) 3 2) 4 1))), (q_3, .inl (gI G, 5, .inl (upd (upd (upd (upd (upd (fun _ => 0) 0 20) 1 20) 2 20) 3 20) 4 20))), (q_4, .inl (gI G, 5, .inl (upd (fun _ => 0) 0 10)))]) := hD
  refine lv_dup hx hb dX2_init_96 rfl ?_
  refine lv_iconst (v := 1) hx hb dX2_init_97 (by decide) ?_
  refine lv_bipush (v := 10) hx hb dX2_init_98 (by decide) ?_
  refine qist hx hb hK.1 hP hD hS 4 0 rfl rfl (k := 1) rfl (vp_in_nI (n := 1) (by decide) (by decide)) dX2_init_100 (fun H locs hP hD hS => ?_)
  have hP : va_P G.1 vwCl ([(q, .inr (2, [.ref q_1, .ref q_2, .ref q_3, .null, .null, .null, .null, .null, .null, .null, .int 0, .int 0, .int 0])), (q_1, .inl (gI G, 4, .inl (upd (upd (upd (upd (fun _ => 0) 0 1) 1 1) 2 50) 3 0))), (q_2, .inl (gI G, 5, .inl (upd (upd (upd (upd (upd (fun _ => 0) 0 5) 1 4) 2 3) 3 2) 4 1))), (q_3, .inl (gI G, 5, .inl (upd (upd (upd (upd (upd (fun _ => 0) 0 20) 1 20) 2 20) 3 20) 4 20))), (q_4, .inl (gI G, 5, .inl (upd (upd (fun _ => 0) 0 10) 1 10)))]) H := hP
  have hD : va_D A ([(q, .inr (2, [.ref q_1, .ref q_2, .ref q_3, .null, .null, .null, .null, .null, .null, .null, .int 0, .int 0, .int 0])), (q_1, .inl (gI G, 4, .inl (upd (upd (upd (upd (fun _ => 0) 0 1) 1 1) 2 50) 3 0))), (q_2, .inl (gI G, 5, .inl (upd (upd (upd (upd (upd (fun _ => 0) 0 5) 1 4) 2 3) 3 2) 4 1))), (q_3, .inl (gI G, 5, .inl (upd (upd (upd (upd (upd (fun _ => 0) 0 20) 1 20) 2 20) 3 20) 4 20))), (q_4, .inl (gI G, 5, .inl (upd (upd (fun _ => 0) 0 10) 1 10)))]) := hD
  refine lv_dup hx hb dX2_init_101 rfl ?_
  refine lv_iconst (v := 2) hx hb dX2_init_102 (by decide) ?_
  refine lv_bipush (v := 10) hx hb dX2_init_103 (by decide) ?_
  refine qist hx hb hK.1 hP hD hS 4 0 rfl rfl (k := 2) rfl (vp_in_nI (n := 2) (by decide) (by decide)) dX2_init_105 (fun H locs hP hD hS => ?_)
  have hP : va_P G.1 vwCl ([(q, .inr (2, [.ref q_1, .ref q_2, .ref q_3, .null, .null, .null, .null, .null, .null, .null, .int 0, .int 0, .int 0])), (q_1, .inl (gI G, 4, .inl (upd (upd (upd (upd (fun _ => 0) 0 1) 1 1) 2 50) 3 0))), (q_2, .inl (gI G, 5, .inl (upd (upd (upd (upd (upd (fun _ => 0) 0 5) 1 4) 2 3) 3 2) 4 1))), (q_3, .inl (gI G, 5, .inl (upd (upd (upd (upd (upd (fun _ => 0) 0 20) 1 20) 2 20) 3 20) 4 20))), (q_4, .inl (gI G, 5, .inl (upd (upd (upd (fun _ => 0) 0 10) 1 10) 2 10)))]) H := hP
  have hD : va_D A ([(q, .inr (2, [.ref q_1, .ref q_2, .ref q_3, .null, .null, .null, .null, .null, .null, .null, .int 0, .int 0, .int 0])), (q_1, .inl (gI G, 4, .inl (upd (upd (upd (upd (fun _ => 0) 0 1) 1 1) 2 50) 3 0))), (q_2, .inl (gI G, 5, .inl (upd (upd (upd (upd (upd (fun _ => 0) 0 5) 1 4) 2 3) 3 2) 4 1))), (q_3, .inl (gI G, 5, .inl (upd (upd (upd (upd (upd (fun _ => 0) 0 20) 1 20) 2 20) 3 20) 4 20))), (q_4, .inl (gI G, 5, .inl (upd (upd (upd (fun _ => 0) 0 10) 1 10) 2 10)))]) := hD
  refine lv_dup hx hb dX2_init_106 rfl ?_
  refine lv_iconst (v := 3) hx hb dX2_init_107 (by decide) ?_
  refine lv_bipush (v := 10) hx hb dX2_init_108 (by decide) ?_
  refine qist hx hb hK.1 hP hD hS 4 0 rfl rfl (k := 3) rfl (vp_in_nI (n := 3) (by decide) (by decide)) dX2_init_110 (fun H locs hP hD hS => ?_)
  have hP : va_P G.1 vwCl ([(q, .inr (2, [.ref q_1, .ref q_2, .ref q_3, .null, .null, .null, .null, .null, .null, .null, .int 0, .int 0, .int 0])), (q_1, .inl (gI G, 4, .inl (upd (upd (upd (upd (fun _ => 0) 0 1) 1 1) 2 50) 3 0))), (q_2, .inl (gI G, 5, .inl (upd (upd (upd (upd (upd (fun _ => 0) 0 5) 1 4) 2 3) 3 2) 4 1))), (q_3, .inl (gI G, 5, .inl (upd (upd (upd (upd (upd (fun _ => 0) 0 20) 1 20) 2 20) 3 20) 4 20))), (q_4, .inl (gI G, 5, .inl (upd (upd (upd (upd (fun _ => 0) 0 10) 1 10) 2 10) 3 10)))]) H := hP
  have hD : va_D A ([(q, .inr (2, [.ref q_1, .ref q_2, .ref q_3, .null, .null, .null, .null, .null, .null, .null, .int 0, .int 0, .int 0])), (q_1, .inl (gI G, 4, .inl (upd (upd (upd (upd (fun _ => 0) 0 1) 1 1) 2 50) 3 0))), (q_2, .inl (gI G, 5, .inl (upd (upd (upd (upd (upd (fun _ => 0) 0 5) 1 4) 2 3) 3 2) 4 1))), (q_3, .inl (gI G, 5, .inl (upd (upd (upd (upd (upd (fun _ => 0) 0 20) 1 20) 2 20) 3 20) 4 20))), (q_4, .inl (gI G, 5, .inl (upd (upd (upd (upd (fun _ => 0) 0 10) 1 10) 2 10) 3 10)))]) := hD
  refine lv_dup hx hb dX2_init_111 rfl ?_
  refine lv_iconst (v := 4) hx hb dX2_init_112 (by decide) ?_
  refine lv_bipush (v := 10) hx hb dX2_init_113 (by decide) ?_
  refine qist hx hb hK.1 hP hD hS 4 0 rfl rfl (k := 4) rfl (vp_in_nI (n := 4) (by decide) (by decide)) dX2_init_115 (fun H locs hP hD hS => ?_)
  have hP : va_P G.1 vwCl ([(q, .inr (2, [.ref q_1, .ref q_2, .ref q_3, .null, .null, .null, .null, .null, .null, .null, .int 0, .int 0, .int 0])), (q_1, .inl (gI G, 4, .inl (upd (upd (upd (upd (fun _ => 0) 0 1) 1 1) 2 50) 3 0))), (q_2, .inl (gI G, 5, .inl (upd (upd (upd (upd (upd (fun _ => 0) 0 5) 1 4) 2 3) 3 2) 4 1))), (q_3, .inl (gI G, 5, .inl (upd (upd (upd (upd (upd (fun _ => 0) 0 20) 1 20) 2 20) 3 20) 4 20))), (q_4, .inl (gI G, 5, .inl (upd (upd (upd (upd (upd (fun _ => 0) 0 10) 1 10) 2 10) 3 10) 4 10)))]) H := hP
  have hD : va_D A ([(q, .inr (2, [.ref q_1, .ref q_2, .ref q_3, .null, .null, .null, .null, .null, .null, .null, .int 0, .int 0, .int 0])), (q_1, .inl (gI G, 4, .inl (upd (upd (upd (upd (fun _ => 0) 0 1) 1 1) 2 50) 3 0))), (q_2, .inl (gI G, 5, .inl (upd (upd (upd (upd (upd (fun _ => 0) 0 5) 1 4) 2 3) 3 2) 4 1))), (q_3, .inl (gI G, 5, .inl (upd (upd (upd (upd (upd (fun _ => 0) 0 20) 1 20) 2 20) 3 20) 4 20))), (q_4, .inl (gI G, 5, .inl (upd (upd (upd (upd (upd (fun _ => 0) 0 10) 1 10) 2 10) 3 10) 4 10)))]) := hD
  refine va_putF (D := G.1) (ci := 2) (v := .ref q_4) (ty := .array .int) (C := RX2) (T := TX2) (N := 13) hx hb hts hinX2 tyX2 tyX2_ok nmX2 hown hK.1 hP hD hS 0 rfl rfl 3 (by decide) wk8 (fun _ h9 => h9) rfl hmn rfl (by decide +kernel) rfl rfl (Nat.le_of_ble_eq_true rfl) dX2_init_116 (fun H locs hP hD hS => ?_)
  have hP : va_P G.1 vwCl ([(q, .inr (2, [.ref q_1, .ref q_2, .ref q_3, .ref q_4, .null, .null, .null, .null, .null, .null, .int 0, .int 0, .int 0])), (q_1, .inl (gI G, 4, .inl (upd (upd (upd (upd (fun _ => 0) 0 1) 1 1) 2 50) 3 0))), (q_2, .inl (gI G, 5, .inl (upd (upd (upd (upd (upd (fun _ => 0) 0 5) 1 4) 2 3) 3 2) 4 1))), (q_3, .inl (gI G, 5, .inl (upd (upd (upd (upd (upd (fun _ => 0) 0 20) 1 20) 2 20) 3 20) 4 20))), (q_4, .inl (gI G, 5, .inl (upd (upd (upd (upd (upd (fun _ => 0) 0 10) 1 10) 2 10) 3 10) 4 10)))]) H := hP
  have hD : va_D A ([(q, .inr (2, [.ref q_1, .ref q_2, .ref q_3, .ref q_4, .null, .null, .null, .null, .null, .null, .int 0, .int 0, .int 0])), (q_1, .inl (gI G, 4, .inl (upd (upd (upd (upd (fun _ => 0) 0 1) 1 1) 2 50) 3 0))), (q_2, .inl (gI G, 5, .inl (upd (upd (upd (upd (upd (fun _ => 0) 0 5) 1 4) 2 3) 3 2) 4 1))), (q_3, .inl (gI G, 5, .inl (upd (upd (upd (upd (upd (fun _ => 0) 0 20) 1 20) 2 20) 3 20) 4 20))), (q_4, .inl (gI G, 5, .inl (upd (upd (upd (upd (upd (fun _ => 0) 0 10) 1 10) 2 10) 3 10) 4 10)))]) := hD
  refine lv_aload_n hx hb dX2_init_119 rfl (lv_at hl 0 rfl) ?_
  refine lv_iconst (v := 5) hx hb dX2_init_120 (by decide) ?_
  refine qnewi hx hb wk4 hK hP hD hS hA (N' := 5) (by decide +kernel) (by decide +kernel) (Nat.le_of_ble_eq_true rfl) (Nat.le_of_ble_eq_true rfl) (Nat.le_of_ble_eq_true rfl) dX2_init_121 (fun q_5 H hP hD hS => ?_)
  have hP : va_P G.1 vwCl ([(q, .inr (2, [.ref q_1, .ref q_2, .ref q_3, .ref q_4, .null, .null, .null, .null, .null, .null, .int 0, .int 0, .int 0])), (q_1, .inl (gI G, 4, .inl (upd (upd (upd (upd (fun _ => 0) 0 1) 1 1) 2 50) 3 0))), (q_2, .inl (gI G, 5, .inl (upd (upd (upd (upd (upd (fun _ => 0) 0 5) 1 4) 2 3) 3 2) 4 1))), (q_3, .inl (gI G, 5, .inl (upd (upd (upd (upd (upd (fun _ => 0) 0 20) 1 20) 2 20) 3 20) 4 20))), (q_4, .inl (gI G, 5, .inl (upd (upd (upd (upd (upd (fun _ => 0) 0 10) 1 10) 2 10) 3 10) 4 10))), (q_5, .inl (gI G, 5, .inl (fun _ => 0)))]) H := hP
  have hD : va_D A ([(q, .inr (2, [.ref q_1, .ref q_2, .ref q_3, .ref q_4, .null, .null, .null, .null, .null, .null, .int 0, .int 0, .int 0])), (q_1, .inl (gI G, 4, .inl (upd (upd (upd (upd (fun _ => 0) 0 1) 1 1) 2 50) 3 0))), (q_2, .inl (gI G, 5, .inl (upd (upd (upd (upd (upd (fun _ => 0) 0 5) 1 4) 2 3) 3 2) 4 1))), (q_3, .inl (gI G, 5, .inl (upd (upd (upd (upd (upd (fun _ => 0) 0 20) 1 20) 2 20) 3 20) 4 20))), (q_4, .inl (gI G, 5, .inl (upd (upd (upd (upd (upd (fun _ => 0) 0 10) 1 10) 2 10) 3 10) 4 10))), (q_5, .inl (gI G, 5, .inl (fun _ => 0)))]) := hD
  refine lv_dup hx hb dX2_init_123 rfl ?_
  refine lv_iconst (v := 0) hx hb dX2_init_124 (by decide) ?_
  refine lv_iconst (v := 0) hx hb dX2_init_125 (by decide) ?_
  refine qist hx hb hK.1 hP hD hS 5 0 rfl rfl (k := 0) rfl (vp_in_nI (n := 0) (by decide) (by decide)) dX2_init_126 (fun H locs hP hD hS => ?_)
  have hP : va_P G.1 vwCl ([(q, .inr (2, [.ref q_1, .ref q_2, .ref q_3, .ref q_4, .null, .null, .null, .null, .null, .null, .int 0, .int 0, .int 0])), (q_1, .inl (gI G, 4, .inl (upd (upd (upd (upd (fun _ => 0) 0 1) 1 1) 2 50) 3 0))), (q_2, .inl (gI G, 5, .inl (upd (upd (upd (upd (upd (fun _ => 0) 0 5) 1 4) 2 3) 3 2) 4 1))), (q_3, .inl (gI G, 5, .inl (upd (upd (upd (upd (upd (fun _ => 0) 0 20) 1 20) 2 20) 3 20) 4 20))), (q_4, .inl (gI G, 5, .inl (upd (upd (upd (upd (upd (fun _ => 0) 0 10) 1 10) 2 10) 3 10) 4 10))), (q_5, .inl (gI G, 5, .inl (upd (fun _ => 0) 0 0)))]) H := hP
  have hD : va_D A ([(q, .inr (2, [.ref q_1, .ref q_2, .ref q_3, .ref q_4, .null, .null, .null, .null, .null, .null, .int 0, .int 0, .int 0])), (q_1, .inl (gI G, 4, .inl (upd (upd (upd (upd (fun _ => 0) 0 1) 1 1) 2 50) 3 0))), (q_2, .inl (gI G, 5, .inl (upd (upd (upd (upd (upd (fun _ => 0) 0 5) 1 4) 2 3) 3 2) 4 1))), (q_3, .inl (gI G, 5, .inl (upd (upd (upd (upd (upd (fun _ => 0) 0 20) 1 20) 2 20) 3 20) 4 20))), (q_4, .inl (gI G, 5, .inl (upd (upd (upd (upd (upd (fun _ => 0) 0 10) 1 10) 2 10) 3 10) 4 10))), (q_5, .inl (gI G, 5, .inl (upd (fun _ => 0) 0 0)))]) := hD
  refine lv_dup hx hb dX2_init_127 rfl ?_
  refine lv_iconst (v := 1) hx hb dX2_init_128 (by decide) ?_
  refine lv_iconst (v := 1) hx hb dX2_init_129 (by decide) ?_
  refine qist hx hb hK.1 hP hD hS 5 0 rfl rfl (k := 1) rfl (vp_in_nI (n := 1) (by decide) (by decide)) dX2_init_130 (fun H locs hP hD hS => ?_)
  have hP : va_P G.1 vwCl ([(q, .inr (2, [.ref q_1, .ref q_2, .ref q_3, .ref q_4, .null, .null, .null, .null, .null, .null, .int 0, .int 0, .int 0])), (q_1, .inl (gI G, 4, .inl (upd (upd (upd (upd (fun _ => 0) 0 1) 1 1) 2 50) 3 0))), (q_2, .inl (gI G, 5, .inl (upd (upd (upd (upd (upd (fun _ => 0) 0 5) 1 4) 2 3) 3 2) 4 1))), (q_3, .inl (gI G, 5, .inl (upd (upd (upd (upd (upd (fun _ => 0) 0 20) 1 20) 2 20) 3 20) 4 20))), (q_4, .inl (gI G, 5, .inl (upd (upd (upd (upd (upd (fun _ => 0) 0 10) 1 10) 2 10) 3 10) 4 10))), (q_5, .inl (gI G, 5, .inl (upd (upd (fun _ => 0) 0 0) 1 1)))]) H := hP
  have hD : va_D A ([(q, .inr (2, [.ref q_1, .ref q_2, .ref q_3, .ref q_4, .null, .null, .null, .null, .null, .null, .int 0, .int 0, .int 0])), (q_1, .inl (gI G, 4, .inl (upd (upd (upd (upd (fun _ => 0) 0 1) 1 1) 2 50) 3 0))), (q_2, .inl (gI G, 5, .inl (upd (upd (upd (upd (upd (fun _ => 0) 0 5) 1 4) 2 3) 3 2) 4 1))), (q_3, .inl (gI G, 5, .inl (upd (upd (upd (upd (upd (fun _ => 0) 0 20) 1 20) 2 20) 3 20) 4 20))), (q_4, .inl (gI G, 5, .inl (upd (upd (upd (upd (upd (fun _ => 0) 0 10) 1 10) 2 10) 3 10) 4 10))), (q_5, .inl (gI G, 5, .inl (upd (upd (fun _ => 0) 0 0) 1 1)))]) := hD
  refine lv_dup hx hb dX2_init_131 rfl ?_
  refine lv_iconst (v := 2) hx hb dX2_init_132 (by decide) ?_
  refine lv_iconst (v := 2) hx hb dX2_init_133 (by decide) ?_
  refine qist hx hb hK.1 hP hD hS 5 0 rfl rfl (k := 2) rfl (vp_in_nI (n := 2) (by decide) (by decide)) dX2_init_134 (fun H locs hP hD hS => ?_)
  have hP : va_P G.1 vwCl ([(q, .inr (2, [.ref q_1, .ref q_2, .ref q_3, .ref q_4, .null, .null, .null, .null, .null, .null, .int 0, .int 0, .int 0])), (q_1, .inl (gI G, 4, .inl (upd (upd (upd (upd (fun _ => 0) 0 1) 1 1) 2 50) 3 0))), (q_2, .inl (gI G, 5, .inl (upd (upd (upd (upd (upd (fun _ => 0) 0 5) 1 4) 2 3) 3 2) 4 1))), (q_3, .inl (gI G, 5, .inl (upd (upd (upd (upd (upd (fun _ => 0) 0 20) 1 20) 2 20) 3 20) 4 20))), (q_4, .inl (gI G, 5, .inl (upd (upd (upd (upd (upd (fun _ => 0) 0 10) 1 10) 2 10) 3 10) 4 10))), (q_5, .inl (gI G, 5, .inl (upd (upd (upd (fun _ => 0) 0 0) 1 1) 2 2)))]) H := hP
  have hD : va_D A ([(q, .inr (2, [.ref q_1, .ref q_2, .ref q_3, .ref q_4, .null, .null, .null, .null, .null, .null, .int 0, .int 0, .int 0])), (q_1, .inl (gI G, 4, .inl (upd (upd (upd (upd (fun _ => 0) 0 1) 1 1) 2 50) 3 0))), (q_2, .inl (gI G, 5, .inl (upd (upd (upd (upd (upd (fun _ => 0) 0 5) 1 4) 2 3) 3 2) 4 1))), (q_3, .inl (gI G, 5, .inl (upd (upd (upd (upd (upd (fun _ => 0) 0 20) 1 20) 2 20) 3 20) 4 20))), (q_4, .inl (gI G, 5, .inl (upd (upd (upd (upd (upd (fun _ => 0) 0 10) 1 10) 2 10) 3 10) 4 10))), (q_5, .inl (gI G, 5, .inl (upd (upd (upd (fun _ => 0) 0 0) 1 1) 2 2)))]) := hD
  refine lv_dup hx hb dX2_init_135 rfl ?_
  refine lv_iconst (v := 3) hx hb dX2_init_136 (by decide) ?_
  refine lv_iconst (v := 3) hx hb dX2_init_137 (by decide) ?_
  refine qist hx hb hK.1 hP hD hS 5 0 rfl rfl (k := 3) rfl (vp_in_nI (n := 3) (by decide) (by decide)) dX2_init_138 (fun H locs hP hD hS => ?_)
  have hP : va_P G.1 vwCl ([(q, .inr (2, [.ref q_1, .ref q_2, .ref q_3, .ref q_4, .null, .null, .null, .null, .null, .null, .int 0, .int 0, .int 0])), (q_1, .inl (gI G, 4, .inl (upd (upd (upd (upd (fun _ => 0) 0 1) 1 1) 2 50) 3 0))), (q_2, .inl (gI G, 5, .inl (upd (upd (upd (upd (upd (fun _ => 0) 0 5) 1 4) 2 3) 3 2) 4 1))), (q_3, .inl (gI G, 5, .inl (upd (upd (upd (upd (upd (fun _ => 0) 0 20) 1 20) 2 20) 3 20) 4 20))), (q_4, .inl (gI G, 5, .inl (upd (upd (upd (upd (upd (fun _ => 0) 0 10) 1 10) 2 10) 3 10) 4 10))), (q_5, .inl (gI G, 5, .inl (upd (upd (upd (upd (fun _ => 0) 0 0) 1 1) 2 2) 3 3)))]) H := hP
  have hD : va_D A ([(q, .inr (2, [.ref q_1, .ref q_2, .ref q_3, .ref q_4, .null, .null, .null, .null, .null, .null, .int 0, .int 0, .int 0])), (q_1, .inl (gI G, 4, .inl (upd (upd (upd (upd (fun _ => 0) 0 1) 1 1) 2 50) 3 0))), (q_2, .inl (gI G, 5, .inl (upd (upd (upd (upd (upd (fun _ => 0) 0 5) 1 4) 2 3) 3 2) 4 1))), (q_3, .inl (gI G, 5, .inl (upd (upd (upd (upd (upd (fun _ => 0) 0 20) 1 20) 2 20) 3 20) 4 20))), (q_4, .inl (gI G, 5, .inl (upd (upd (upd (upd (upd (fun _ => 0) 0 10) 1 10) 2 10) 3 10) 4 10))), (q_5, .inl (gI G, 5, .inl (upd (upd (upd (upd (fun _ => 0) 0 0) 1 1) 2 2) 3 3)))]) := hD
  refine lv_dup hx hb dX2_init_139 rfl ?_
  refine lv_iconst (v := 4) hx hb dX2_init_140 (by decide) ?_
  refine lv_iconst (v := 4) hx hb dX2_init_141 (by decide) ?_
  refine qist hx hb hK.1 hP hD hS 5 0 rfl rfl (k := 4) rfl (vp_in_nI (n := 4) (by decide) (by decide)) dX2_init_142 (fun H locs hP hD hS => ?_)
  have hP : va_P G.1 vwCl ([(q, .inr (2, [.ref q_1, .ref q_2, .ref q_3, .ref q_4, .null, .null, .null, .null, .null, .null, .int 0, .int 0, .int 0])), (q_1, .inl (gI G, 4, .inl (upd (upd (upd (upd (fun _ => 0) 0 1) 1 1) 2 50) 3 0))), (q_2, .inl (gI G, 5, .inl (upd (upd (upd (upd (upd (fun _ => 0) 0 5) 1 4) 2 3) 3 2) 4 1))), (q_3, .inl (gI G, 5, .inl (upd (upd (upd (upd (upd (fun _ => 0) 0 20) 1 20) 2 20) 3 20) 4 20))), (q_4, .inl (gI G, 5, .inl (upd (upd (upd (upd (upd (fun _ => 0) 0 10) 1 10) 2 10) 3 10) 4 10))), (q_5, .inl (gI G, 5, .inl (upd (upd (upd (upd (upd (fun _ => 0) 0 0) 1 1) 2 2) 3 3) 4 4)))]) H := hP
  have hD : va_D A ([(q, .inr (2, [.ref q_1, .ref q_2, .ref q_3, .ref q_4, .null, .null, .null, .null, .null, .null, .int 0, .int 0, .int 0])), (q_1, .inl (gI G, 4, .inl (upd (upd (upd (upd (fun _ => 0) 0 1) 1 1) 2 50) 3 0))), (q_2, .inl (gI G, 5, .inl (upd (upd (upd (upd (upd (fun _ => 0) 0 5) 1 4) 2 3) 3 2) 4 1))), (q_3, .inl (gI G, 5, .inl (upd (upd (upd (upd (upd (fun _ => 0) 0 20) 1 20) 2 20) 3 20) 4 20))), (q_4, .inl (gI G, 5, .inl (upd (upd (upd (upd (upd (fun _ => 0) 0 10) 1 10) 2 10) 3 10) 4 10))), (q_5, .inl (gI G, 5, .inl (upd (upd (upd (upd (upd (fun _ => 0) 0 0) 1 1) 2 2) 3 3) 4 4)))]) := hD
  refine va_putF (D := G.1) (ci := 2) (v := .ref q_5) (ty := .array .int) (C := RX2) (T := TX2) (N := 13) hx hb hts hinX2 tyX2 tyX2_ok nmX2 hown hK.1 hP hD hS 0 rfl rfl 4 (by decide) wk9 (fun _ h9 => h9) rfl hmn rfl (by decide +kernel) rfl rfl (Nat.le_of_ble_eq_true rfl) dX2_init_143 (fun H locs hP hD hS => ?_)
  have hP : va_P G.1 vwCl ([(q, .inr (2, [.ref q_1, .ref q_2, .ref q_3, .ref q_4, .ref q_5, .null, .null, .null, .null, .null, .int 0, .int 0, .int 0])), (q_1, .inl (gI G, 4, .inl (upd (upd (upd (upd (fun _ => 0) 0 1) 1 1) 2 50) 3 0))), (q_2, .inl (gI G, 5, .inl (upd (upd (upd (upd (upd (fun _ => 0) 0 5) 1 4) 2 3) 3 2) 4 1))), (q_3, .inl (gI G, 5, .inl (upd (upd (upd (upd (upd (fun _ => 0) 0 20) 1 20) 2 20) 3 20) 4 20))), (q_4, .inl (gI G, 5, .inl (upd (upd (upd (upd (upd (fun _ => 0) 0 10) 1 10) 2 10) 3 10) 4 10))), (q_5, .inl (gI G, 5, .inl (upd (upd (upd (upd (upd (fun _ => 0) 0 0) 1 1) 2 2) 3 3) 4 4)))]) H := hP
  have hD : va_D A ([(q, .inr (2, [.ref q_1, .ref q_2, .ref q_3, .ref q_4, .ref q_5, .null, .null, .null, .null, .null, .int 0, .int 0, .int 0])), (q_1, .inl (gI G, 4, .inl (upd (upd (upd (upd (fun _ => 0) 0 1) 1 1) 2 50) 3 0))), (q_2, .inl (gI G, 5, .inl (upd (upd (upd (upd (upd (fun _ => 0) 0 5) 1 4) 2 3) 3 2) 4 1))), (q_3, .inl (gI G, 5, .inl (upd (upd (upd (upd (upd (fun _ => 0) 0 20) 1 20) 2 20) 3 20) 4 20))), (q_4, .inl (gI G, 5, .inl (upd (upd (upd (upd (upd (fun _ => 0) 0 10) 1 10) 2 10) 3 10) 4 10))), (q_5, .inl (gI G, 5, .inl (upd (upd (upd (upd (upd (fun _ => 0) 0 0) 1 1) 2 2) 3 3) 4 4)))]) := hD
  refine lv_aload_n hx hb dX2_init_146 rfl (lv_at hl 0 rfl) ?_
  refine lv_iconst (v := 5) hx hb dX2_init_147 (by decide) ?_
  refine qnewi hx hb wk4 hK hP hD hS hA (N' := 5) (by decide +kernel) (by decide +kernel) (Nat.le_of_ble_eq_true rfl) (Nat.le_of_ble_eq_true rfl) (Nat.le_of_ble_eq_true rfl) dX2_init_148 (fun q_6 H hP hD hS => ?_)
  have hP : va_P G.1 vwCl ([(q, .inr (2, [.ref q_1, .ref q_2, .ref q_3, .ref q_4, .ref q_5, .null, .null, .null, .null, .null, .int 0, .int 0, .int 0])), (q_1, .inl (gI G, 4, .inl (upd (upd (upd (upd (fun _ => 0) 0 1) 1 1) 2 50) 3 0))), (q_2, .inl (gI G, 5, .inl (upd (upd (upd (upd (upd (fun _ => 0) 0 5) 1 4) 2 3) 3 2) 4 1))), (q_3, .inl (gI G, 5, .inl (upd (upd (upd (upd (upd (fun _ => 0) 0 20) 1 20) 2 20) 3 20) 4 20))), (q_4, .inl (gI G, 5, .inl (upd (upd (upd (upd (upd (fun _ => 0) 0 10) 1 10) 2 10) 3 10) 4 10))), (q_5, .inl (gI G, 5, .inl (upd (upd (upd (upd (upd (fun _ => 0) 0 0) 1 1) 2 2) 3 3) 4 4))), (q_6, .inl (gI G, 5, .inl (fun _ => 0)))]) H := hP
  have hD : va_D A ([(q, .inr (2, [.ref q_1, .ref q_2, .ref q_3, .ref q_4, .ref q_5, .null, .null, .null, .null, .null, .int 0, .int 0, .int 0])), (q_1, .inl (gI G, 4, .inl (upd (upd (upd (upd (fun _ => 0) 0 1) 1 1) 2 50) 3 0))), (q_2, .inl (gI G, 5, .inl (upd (upd (upd (upd (upd (fun _ => 0) 0 5) 1 4) 2 3) 3 2) 4 1))), (q_3, .inl (gI G, 5, .inl (upd (upd (upd (upd (upd (fun _ => 0) 0 20) 1 20) 2 20) 3 20) 4 20))), (q_4, .inl (gI G, 5, .inl (upd (upd (upd (upd (upd (fun _ => 0) 0 10) 1 10) 2 10) 3 10) 4 10))), (q_5, .inl (gI G, 5, .inl (upd (upd (upd (upd (upd (fun _ => 0) 0 0) 1 1) 2 2) 3 3) 4 4))), (q_6, .inl (gI G, 5, .inl (fun _ => 0)))]) := hD
  refine lv_dup hx hb dX2_init_150 rfl ?_
  refine lv_iconst (v := 0) hx hb dX2_init_151 (by decide) ?_
  refine lv_ldc (v := (-100006)) hx hb hown wk10 dX2_init_152 ?_
  refine qist hx hb hK.1 hP hD hS 6 0 rfl rfl (k := 0) rfl (vp_in_nI (n := 0) (by decide) (by decide)) dX2_init_154 (fun H locs hP hD hS => ?_)
  have hP : va_P G.1 vwCl ([(q, .inr (2, [.ref q_1, .ref q_2, .ref q_3, .ref q_4, .ref q_5, .null, .null, .null, .null, .null, .int 0, .int 0, .int 0])), (q_1, .inl (gI G, 4, .inl (upd (upd (upd (upd (fun _ => 0) 0 1) 1 1) 2 50) 3 0))), (q_2, .inl (gI G, 5, .inl (upd (upd (upd (upd (upd (fun _ => 0) 0 5) 1 4) 2 3) 3 2) 4 1))), (q_3, .inl (gI G, 5, .inl (upd (upd (upd (upd (upd (fun _ => 0) 0 20) 1 20) 2 20) 3 20) 4 20))), (q_4, .inl (gI G, 5, .inl (upd (upd (upd (upd (upd (fun _ => 0) 0 10) 1 10) 2 10) 3 10) 4 10))), (q_5, .inl (gI G, 5, .inl (upd (upd (upd (upd (upd (fun _ => 0) 0 0) 1 1) 2 2) 3 3) 4 4))), (q_6, .inl (gI G, 5, .inl (upd (fun _ => 0) 0 (-100006))))]) H := hP
  have hD : va_D A ([(q, .inr (2, [.ref q_1, .ref q_2, .ref q_3, .ref q_4, .ref q_5, .null, .null, .null, .null, .null, .int 0, .int 0, .int 0])), (q_1, .inl (gI G, 4, .inl (upd (upd (upd (upd (fun _ => 0) 0 1) 1 1) 2 50) 3 0))), (q_2, .inl (gI G, 5, .inl (upd (upd (upd (upd (upd (fun _ => 0) 0 5) 1 4) 2 3) 3 2) 4 1))), (q_3, .inl (gI G, 5, .inl (upd (upd (upd (upd (upd (fun _ => 0) 0 20) 1 20) 2 20) 3 20) 4 20))), (q_4, .inl (gI G, 5, .inl (upd (upd (upd (upd (upd (fun _ => 0) 0 10) 1 10) 2 10) 3 10) 4 10))), (q_5, .inl (gI G, 5, .inl (upd (upd (upd (upd (upd (fun _ => 0) 0 0) 1 1) 2 2) 3 3) 4 4))), (q_6, .inl (gI G, 5, .inl (upd (fun _ => 0) 0 (-100006))))]) := hD
  refine lv_dup hx hb dX2_init_155 rfl ?_
  refine lv_iconst (v := 1) hx hb dX2_init_156 (by decide) ?_
  refine lv_ldc (v := (-100006)) hx hb hown wk10 dX2_init_157 ?_
  refine qist hx hb hK.1 hP hD hS 6 0 rfl rfl (k := 1) rfl (vp_in_nI (n := 1) (by decide) (by decide)) dX2_init_159 (fun H locs hP hD hS => ?_)
  have hP : va_P G.1 vwCl ([(q, .inr (2, [.ref q_1, .ref q_2, .ref q_3, .ref q_4, .ref q_5, .null, .null, .null, .null, .null, .int 0, .int 0, .int 0])), (q_1, .inl (gI G, 4, .inl (upd (upd (upd (upd (fun _ => 0) 0 1) 1 1) 2 50) 3 0))), (q_2, .inl (gI G, 5, .inl (upd (upd (upd (upd (upd (fun _ => 0) 0 5) 1 4) 2 3) 3 2) 4 1))), (q_3, .inl (gI G, 5, .inl (upd (upd (upd (upd (upd (fun _ => 0) 0 20) 1 20) 2 20) 3 20) 4 20))), (q_4, .inl (gI G, 5, .inl (upd (upd (upd (upd (upd (fun _ => 0) 0 10) 1 10) 2 10) 3 10) 4 10))), (q_5, .inl (gI G, 5, .inl (upd (upd (upd (upd (upd (fun _ => 0) 0 0) 1 1) 2 2) 3 3) 4 4))), (q_6, .inl (gI G, 5, .inl (upd (upd (fun _ => 0) 0 (-100006)) 1 (-100006))))]) H := hP
  have hD : va_D A ([(q, .inr (2, [.ref q_1, .ref q_2, .ref q_3, .ref q_4, .ref q_5, .null, .null, .null, .null, .null, .int 0, .int 0, .int 0])), (q_1, .inl (gI G, 4, .inl (upd (upd (upd (upd (fun _ => 0) 0 1) 1 1) 2 50) 3 0))), (q_2, .inl (gI G, 5, .inl (upd (upd (upd (upd (upd (fun _ => 0) 0 5) 1 4) 2 3) 3 2) 4 1))), (q_3, .inl (gI G, 5, .inl (upd (upd (upd (upd (upd (fun _ => 0) 0 20) 1 20) 2 20) 3 20) 4 20))), (q_4, .inl (gI G, 5, .inl (upd (upd (upd (upd (upd (fun _ => 0) 0 10) 1 10) 2 10) 3 10) 4 10))), (q_5, .inl (gI G, 5, .inl (upd (upd (upd (upd (upd (fun _ => 0) 0 0) 1 1) 2 2) 3 3) 4 4))), (q_6, .inl (gI G, 5, .inl (upd (upd (fun _ => 0) 0 (-100006)) 1 (-100006))))]) := hD
  refine lv_dup hx hb dX2_init_160 rfl ?_
  refine lv_iconst (v := 2) hx hb dX2_init_161 (by decide) ?_
  refine lv_ldc (v := (-100006)) hx hb hown wk10 dX2_init_162 ?_
  refine qist hx hb hK.1 hP hD hS 6 0 rfl rfl (k := 2) rfl (vp_in_nI (n := 2) (by decide) (by decide)) dX2_init_164 (fun H locs hP hD hS => ?_)
  have hP : va_P G.1 vwCl ([(q, .inr (2, [.ref q_1, .ref q_2, .ref q_3, .ref q_4, .ref q_5, .null, .null, .null, .null, .null, .int 0, .int 0, .int 0])), (q_1, .inl (gI G, 4, .inl (upd (upd (upd (upd (fun _ => 0) 0 1) 1 1) 2 50) 3 0))), (q_2, .inl (gI G, 5, .inl (upd (upd (upd (upd (upd (fun _ => 0) 0 5) 1 4) 2 3) 3 2) 4 1))), (q_3, .inl (gI G, 5, .inl (upd (upd (upd (upd (upd (fun _ => 0) 0 20) 1 20) 2 20) 3 20) 4 20))), (q_4, .inl (gI G, 5, .inl (upd (upd (upd (upd (upd (fun _ => 0) 0 10) 1 10) 2 10) 3 10) 4 10))), (q_5, .inl (gI G, 5, .inl (upd (upd (upd (upd (upd (fun _ => 0) 0 0) 1 1) 2 2) 3 3) 4 4))), (q_6, .inl (gI G, 5, .inl (upd (upd (upd (fun _ => 0) 0 (-100006)) 1 (-100006)) 2 (-100006))))]) H := hP
  have hD : va_D A ([(q, .inr (2, [.ref q_1, .ref q_2, .ref q_3, .ref q_4, .ref q_5, .null, .null, .null, .null, .null, .int 0, .int 0, .int 0])), (q_1, .inl (gI G, 4, .inl (upd (upd (upd (upd (fun _ => 0) 0 1) 1 1) 2 50) 3 0))), (q_2, .inl (gI G, 5, .inl (upd (upd (upd (upd (upd (fun _ => 0) 0 5) 1 4) 2 3) 3 2) 4 1))), (q_3, .inl (gI G, 5, .inl (upd (upd (upd (upd (upd (fun _ => 0) 0 20) 1 20) 2 20) 3 20) 4 20))), (q_4, .inl (gI G, 5, .inl (upd (upd (upd (upd (upd (fun _ => 0) 0 10) 1 10) 2 10) 3 10) 4 10))), (q_5, .inl (gI G, 5, .inl (upd (upd (upd (upd (upd (fun _ => 0) 0 0) 1 1) 2 2) 3 3) 4 4))), (q_6, .inl (gI G, 5, .inl (upd (upd (upd (fun _ => 0) 0 (-100006)) 1 (-100006)) 2 (-100006))))]) := hD
  refine lv_dup hx hb dX2_init_165 rfl ?_
  refine lv_iconst (v := 3) hx hb dX2_init_166 (by decide) ?_
  refine lv_ldc (v := (-100006)) hx hb hown wk10 dX2_init_167 ?_
  refine qist hx hb hK.1 hP hD hS 6 0 rfl rfl (k := 3) rfl (vp_in_nI (n := 3) (by decide) (by decide)) dX2_init_169 (fun H locs hP hD hS => ?_)
  have hP : va_P G.1 vwCl ([(q, .inr (2, [.ref q_1, .ref q_2, .ref q_3, .ref q_4, .ref q_5, .null, .null, .null, .null, .null, .int 0, .int 0, .int 0])), (q_1, .inl (gI G, 4, .inl (upd (upd (upd (upd (fun _ => 0) 0 1) 1 1) 2 50) 3 0))), (q_2, .inl (gI G, 5, .inl (upd (upd (upd (upd (upd (fun _ => 0) 0 5) 1 4) 2 3) 3 2) 4 1))), (q_3, .inl (gI G, 5, .inl (upd (upd (upd (upd (upd (fun _ => 0) 0 20) 1 20) 2 20) 3 20) 4 20))), (q_4, .inl (gI G, 5, .inl (upd (upd (upd (upd (upd (fun _ => 0) 0 10) 1 10) 2 10) 3 10) 4 10))), (q_5, .inl (gI G, 5, .inl (upd (upd (upd (upd (upd (fun _ => 0) 0 0) 1 1) 2 2) 3 3) 4 4))), (q_6, .inl (gI G, 5, .inl (upd (upd (upd (upd (fun _ => 0) 0 (-100006)) 1 (-100006)) 2 (-100006)) 3 (-100006))))]) H := hP
  have hD : va_D A ([(q, .inr (2, [.ref q_1, .ref q_2, .ref q_3, .ref q_4, .ref q_5, .null, .null, .null, .null, .null, .int 0, .int 0, .int 0])), (q_1, .inl (gI G, 4, .inl (upd (upd (upd (upd (fun _ => 0) 0 1) 1 1) 2 50) 3 0))), (q_2, .inl (gI G, 5, .inl (upd (upd (upd (upd (upd (fun _ => 0) 0 5) 1 4) 2 3) 3 2) 4 1))), (q_3, .inl (gI G, 5, .inl (upd (upd (upd (upd (upd (fun _ => 0) 0 20) 1 20) 2 20) 3 20) 4 20))), (q_4, .inl (gI G, 5, .inl (upd (upd (upd (upd (upd (fun _ => 0) 0 10) 1 10) 2 10) 3 10) 4 10))), (q_5, .inl (gI G, 5, .inl (upd (upd (upd (upd (upd (fun _ => 0) 0 0) 1 1) 2 2) 3 3) 4 4))), (q_6, .inl (gI G, 5, .inl (upd (upd (upd (upd (fun _ => 0) 0 (-100006)) 1 (-100006)) 2 (-100006)) 3 (-100006))))]) := hD
  refine lv_dup hx hb dX2_init_170 rfl ?_
  refine lv_iconst (v := 4) hx hb dX2_init_171 (by decide) ?_
  refine lv_ldc (v := (-100006)) hx hb hown wk10 dX2_init_172 ?_
  refine qist hx hb hK.1 hP hD hS 6 0 rfl rfl (k := 4) rfl (vp_in_nI (n := 4) (by decide) (by decide)) dX2_init_174 (fun H locs hP hD hS => ?_)
  have hP : va_P G.1 vwCl ([(q, .inr (2, [.ref q_1, .ref q_2, .ref q_3, .ref q_4, .ref q_5, .null, .null, .null, .null, .null, .int 0, .int 0, .int 0])), (q_1, .inl (gI G, 4, .inl (upd (upd (upd (upd (fun _ => 0) 0 1) 1 1) 2 50) 3 0))), (q_2, .inl (gI G, 5, .inl (upd (upd (upd (upd (upd (fun _ => 0) 0 5) 1 4) 2 3) 3 2) 4 1))), (q_3, .inl (gI G, 5, .inl (upd (upd (upd (upd (upd (fun _ => 0) 0 20) 1 20) 2 20) 3 20) 4 20))), (q_4, .inl (gI G, 5, .inl (upd (upd (upd (upd (upd (fun _ => 0) 0 10) 1 10) 2 10) 3 10) 4 10))), (q_5, .inl (gI G, 5, .inl (upd (upd (upd (upd (upd (fun _ => 0) 0 0) 1 1) 2 2) 3 3) 4 4))), (q_6, .inl (gI G, 5, .inl (upd (upd (upd (upd (upd (fun _ => 0) 0 (-100006)) 1 (-100006)) 2 (-100006)) 3 (-100006)) 4 (-100006))))]) H := hP
  have hD : va_D A ([(q, .inr (2, [.ref q_1, .ref q_2, .ref q_3, .ref q_4, .ref q_5, .null, .null, .null, .null, .null, .int 0, .int 0, .int 0])), (q_1, .inl (gI G, 4, .inl (upd (upd (upd (upd (fun _ => 0) 0 1) 1 1) 2 50) 3 0))), (q_2, .inl (gI G, 5, .inl (upd (upd (upd (upd (upd (fun _ => 0) 0 5) 1 4) 2 3) 3 2) 4 1))), (q_3, .inl (gI G, 5, .inl (upd (upd (upd (upd (upd (fun _ => 0) 0 20) 1 20) 2 20) 3 20) 4 20))), (q_4, .inl (gI G, 5, .inl (upd (upd (upd (upd (upd (fun _ => 0) 0 10) 1 10) 2 10) 3 10) 4 10))), (q_5, .inl (gI G, 5, .inl (upd (upd (upd (upd (upd (fun _ => 0) 0 0) 1 1) 2 2) 3 3) 4 4))), (q_6, .inl (gI G, 5, .inl (upd (upd (upd (upd (upd (fun _ => 0) 0 (-100006)) 1 (-100006)) 2 (-100006)) 3 (-100006)) 4 (-100006))))]) := hD
  refine va_putF (D := G.1) (ci := 2) (v := .ref q_6) (ty := .array .int) (C := RX2) (T := TX2) (N := 13) hx hb hts hinX2 tyX2 tyX2_ok nmX2 hown hK.1 hP hD hS 0 rfl rfl 5 (by decide) wk11 (fun _ h9 => h9) rfl hmn rfl (by decide +kernel) rfl rfl (Nat.le_of_ble_eq_true rfl) dX2_init_175 (fun H locs hP hD hS => ?_)
  have hP : va_P G.1 vwCl ([(q, .inr (2, [.ref q_1, .ref q_2, .ref q_3, .ref q_4, .ref q_5, .ref q_6, .null, .null, .null, .null, .int 0, .int 0, .int 0])), (q_1, .inl (gI G, 4, .inl (upd (upd (upd (upd (fun _ => 0) 0 1) 1 1) 2 50) 3 0))), (q_2, .inl (gI G, 5, .inl (upd (upd (upd (upd (upd (fun _ => 0) 0 5) 1 4) 2 3) 3 2) 4 1))), (q_3, .inl (gI G, 5, .inl (upd (upd (upd (upd (upd (fun _ => 0) 0 20) 1 20) 2 20) 3 20) 4 20))), (q_4, .inl (gI G, 5, .inl (upd (upd (upd (upd (upd (fun _ => 0) 0 10) 1 10) 2 10) 3 10) 4 10))), (q_5, .inl (gI G, 5, .inl (upd (upd (upd (upd (upd (fun _ => 0) 0 0) 1 1) 2 2) 3 3) 4 4))), (q_6, .inl (gI G, 5, .inl (upd (upd (upd (upd (upd (fun _ => 0) 0 (-100006)) 1 (-100006)) 2 (-100006)) 3 (-100006)) 4 (-100006))))]) H := hP
  have hD : va_D A ([(q, .inr (2, [.ref q_1, .ref q_2, .ref q_3, .ref q_4, .ref q_5, .ref q_6, .null, .null, .null, .null, .int 0, .int 0, .int 0])), (q_1, .inl (gI G, 4, .inl (upd (upd (upd (upd (fun _ => 0) 0 1) 1 1) 2 50) 3 0))), (q_2, .inl (gI G, 5, .inl (upd (upd (upd (upd (upd (fun _ => 0) 0 5) 1 4) 2 3) 3 2) 4 1))), (q_3, .inl (gI G, 5, .inl (upd (upd (upd (upd (upd (fun _ => 0) 0 20) 1 20) 2 20) 3 20) 4 20))), (q_4, .inl (gI G, 5, .inl (upd (upd (upd (upd (upd (fun _ => 0) 0 10) 1 10) 2 10) 3 10) 4 10))), (q_5, .inl (gI G, 5, .inl (upd (upd (upd (upd (upd (fun _ => 0) 0 0) 1 1) 2 2) 3 3) 4 4))), (q_6, .inl (gI G, 5, .inl (upd (upd (upd (upd (upd (fun _ => 0) 0 (-100006)) 1 (-100006)) 2 (-100006)) 3 (-100006)) 4 (-100006))))]) := hD
  refine lv_aload_n hx hb dX2_init_178 rfl (lv_at hl 0 rfl) ?_
  refine lv_iconst (v := 5) hx hb dX2_init_179 (by decide) ?_
  refine qnewi hx hb wk4 hK hP hD hS hA (N' := 5) (by decide +kernel) (by decide +kernel) (Nat.le_of_ble_eq_true rfl) (Nat.le_of_ble_eq_true rfl) (Nat.le_of_ble_eq_true rfl) dX2_init_180 (fun q_7 H hP hD hS => ?_)
  have hP : va_P G.1 vwCl ([(q, .inr (2, [.ref q_1, .ref q_2, .ref q_3, .ref q_4, .ref q_5, .ref q_6, .null, .null, .null, .null, .int 0, .int 0, .int 0])), (q_1, .inl (gI G, 4, .inl (upd (upd (upd (upd (fun _ => 0) 0 1) 1 1) 2 50) 3 0))), (q_2, .inl (gI G, 5, .inl (upd (upd (upd (upd (upd (fun _ => 0) 0 5) 1 4) 2 3) 3 2) 4 1))), (q_3, .inl (gI G, 5, .inl (upd (upd (upd (upd (upd (fun _ => 0) 0 20) 1 20) 2 20) 3 20) 4 20))), (q_4, .inl (gI G, 5, .inl (upd (upd (upd (upd (upd (fun _ => 0) 0 10) 1 10) 2 10) 3 10) 4 10))), (q_5, .inl (gI G, 5, .inl (upd (upd (upd (upd (upd (fun _ => 0) 0 0) 1 1) 2 2) 3 3) 4 4))), (q_6, .inl (gI G, 5, .inl (upd (upd (upd (upd (upd (fun _ => 0) 0 (-100006)) 1 (-100006)) 2 (-100006)) 3 (-100006)) 4 (-100006)))), (q_7, .inl (gI G, 5, .inl (fun _ => 0)))]) H := hP
  have hD : va_D A ([(q, .inr (2, [.ref q_1, .ref q_2, .ref q_3, .ref q_4, .ref q_5, .ref q_6, .null, .null, .null, .null, .int 0, .int 0, .int 0])), (q_1, .inl (gI G, 4, .inl (upd (upd (upd (upd (fun _ => 0) 0 1) 1 1) 2 50) 3 0))), (q_2, .inl (gI G, 5, .inl (upd (upd (upd (upd (upd (fun _ => 0) 0 5) 1 4) 2 3) 3 2) 4 1))), (q_3, .inl (gI G, 5, .inl (upd (upd (upd (upd (upd (fun _ => 0) 0 20) 1 20) 2 20) 3 20) 4 20))), (q_4, .inl (gI G, 5, .inl (upd (upd (upd (upd (upd (fun _ => 0) 0 10) 1 10) 2 10) 3 10) 4 10))), (q_5, .inl (gI G, 5, .inl (upd (upd (upd (upd (upd (fun _ => 0) 0 0) 1 1) 2 2) 3 3) 4 4))), (q_6, .inl (gI G, 5, .inl (upd (upd (upd (upd (upd (fun _ => 0) 0 (-100006)) 1 (-100006)) 2 (-100006)) 3 (-100006)) 4 (-100006)))), (q_7, .inl (gI G, 5, .inl (fun _ => 0)))]) := hD
  refine lv_dup hx hb dX2_init_182 rfl ?_
  refine lv_iconst (v := 0) hx hb dX2_init_183 (by decide) ?_
  refine lv_ldc (v := (-100006)) hx hb hown wk10 dX2_init_184 ?_
  refine qist hx hb hK.1 hP hD hS 7 0 rfl rfl (k := 0) rfl (vp_in_nI (n := 0) (by decide) (by decide)) dX2_init_186 (fun H locs hP hD hS => ?_)
  have hP : va_P G.1 vwCl ([(q, .inr (2, [.ref q_1, .ref q_2, .ref q_3, .ref q_4, .ref q_5, .ref q_6, .null, .null, .null, .null, .int 0, .int 0, .int 0])), (q_1, .inl (gI G, 4, .inl (upd (upd (upd (upd (fun _ => 0) 0 1) 1 1) 2 50) 3 0))), (q_2, .inl (gI G, 5, .inl (upd (upd (upd (upd (upd (fun _ => 0) 0 5) 1 4) 2 3) 3 2) 4 1))), (q_3, .inl (gI G, 5, .inl (upd (upd (upd (upd (upd (fun _ => 0) 0 20) 1 20) 2 20) 3 20) 4 20))), (q_4, .inl (gI G, 5, .inl (upd (upd (upd (upd (upd (fun _ => 0) 0 10) 1 10) 2 10) 3 10) 4 10))), (q_5, .inl (gI G, 5, .inl (upd (upd (upd (upd (upd (fun _ => 0) 0 0) 1 1) 2 2) 3 3) 4 4))), (q_6, .inl (gI G, 5, .inl (upd (upd (upd (upd (upd (fun _ => 0) 0 (-100006)) 1 (-100006)) 2 (-100006)) 3 (-100006)) 4 (-100006)))), (q_7, .inl (gI G, 5, .inl (upd (fun _ => 0) 0 (-100006))))]) H := hP
  have hD : va_D A ([(q, .inr (2, [.ref q_1, .ref q_2, .ref q_3, .ref q_4, .ref q_5, .ref q_6, .null, .null, .null, .null, .int 0, .int 0, .int 0])), (q_1, .inl (gI G, 4, .inl (upd (upd (upd (upd (fun _ => 0) 0 1) 1 1) 2 50) 3 0))), (q_2, .inl (gI G, 5, .inl (upd (upd (upd (upd (upd (fun _ => 0) 0 5) 1 4) 2 3) 3 2) 4 1))), (q_3, .inl (gI G, 5, .inl (upd (upd (upd (upd (upd (fun _ => 0) 0 20) 1 20) 2 20) 3 20) 4 20))), (q_4, .inl (gI G, 5, .inl (upd (upd (upd (upd (upd (fun _ => 0) 0 10) 1 10) 2 10) 3 10) 4 10))), (q_5, .inl (gI G, 5, .inl (upd (upd (upd (upd (upd (fun _ => 0) 0 0) 1 1) 2 2) 3 3) 4 4))), (q_6, .inl (gI G, 5, .inl (upd (upd (upd (upd (upd (fun _ => 0) 0 (-100006)) 1 (-100006)) 2 (-100006)) 3 (-100006)) 4 (-100006)))), (q_7, .inl (gI G, 5, .inl (upd (fun _ => 0) 0 (-100006))))]) := hD
  refine lv_dup hx hb dX2_init_187 rfl ?_
  refine lv_iconst (v := 1) hx hb dX2_init_188 (by decide) ?_
  refine lv_ldc (v := (-100006)) hx hb hown wk10 dX2_init_189 ?_
  refine qist hx hb hK.1 hP hD hS 7 0 rfl rfl (k := 1) rfl (vp_in_nI (n := 1) (by decide) (by decide)) dX2_init_191 (fun H locs hP hD hS => ?_)
  have hP : va_P G.1 vwCl ([(q, .inr (2, [.ref q_1, .ref q_2, .ref q_3, .ref q_4, .ref q_5, .ref q_6, .null, .null, .null, .null, .int 0, .int 0, .int 0])), (q_1, .inl (gI G, 4, .inl (upd (upd (upd (upd (fun _ => 0) 0 1) 1 1) 2 50) 3 0))), (q_2, .inl (gI G, 5, .inl (upd (upd (upd (upd (upd (fun _ => 0) 0 5) 1 4) 2 3) 3 2) 4 1))), (q_3, .inl (gI G, 5, .inl (upd (upd (upd (upd (upd (fun _ => 0) 0 20) 1 20) 2 20) 3 20) 4 20))), (q_4, .inl (gI G, 5, .inl (upd (upd (upd (upd (upd (fun _ => 0) 0 10) 1 10) 2 10) 3 10) 4 10))), (q_5, .inl (gI G, 5, .inl (upd (upd (upd (upd (upd (fun _ => 0) 0 0) 1 1) 2 2) 3 3) 4 4))), (q_6, .inl (gI G, 5, .inl (upd (upd (upd (upd (upd (fun _ => 0) 0 (-100006)) 1 (-100006)) 2 (-100006)) 3 (-100006)) 4 (-100006)))), (q_7, .inl (gI G, 5, .inl (upd (upd (fun _ => 0) 0 (-100006)) 1 (-100006))))]) H := hP
  have hD : va_D A ([(q, .inr (2, [.ref q_1, .ref q_2, .ref q_3, .ref q_4, .ref q_5, .ref q_6, .null, .null, .null, .null, .int 0, .int 0, .int 0])), (q_1, .inl (gI G, 4, .inl (upd (upd (upd (upd (fun _ => 0) 0 1) 1 1) 2 50) 3 0))), (q_2, .inl (gI G, 5, .inl (upd (upd (upd (upd (upd (fun _ => 0) 0 5) 1 4) 2 3) 3 2) 4 1))), (q_3, .inl (gI G, 5, .inl (upd (upd (upd (upd (upd (fun _ => 0) 0 20) 1 20) 2 20) 3 20) 4 20))), (q_4, .inl (gI G, 5, .inl (upd (upd (upd (upd (upd (fun _ => 0) 0 10) 1 10) 2 10) 3 10) 4 10))), (q_5, .inl (gI G, 5, .inl (upd (upd (upd (upd (upd (fun _ => 0) 0 0) 1 1) 2 2) 3 3) 4 4))), (q_6, .inl (gI G, 5, .inl (upd (upd (upd (upd (upd (fun _ => 0) 0 (-100006)) 1 (-100006)) 2 (-100006)) 3 (-100006)) 4 (-100006)))), (q_7, .inl (gI G, 5, .inl (upd (upd (fun _ => 0) 0 (-100006)) 1 (-100006))))]) := hD
  refine lv_dup hx hb dX2_init_192 rfl ?_
  refine lv_iconst (v := 2) hx hb dX2_init_193 (by decide) ?_
  refine lv_ldc (v := (-100006)) hx hb hown wk10 dX2_init_194 ?_
  refine qist hx hb hK.1 hP hD hS 7 0 rfl rfl (k := 2) rfl (vp_in_nI (n := 2) (by decide) (by decide)) dX2_init_196 (fun H locs hP hD hS => ?_)
  have hP : va_P G.1 vwCl ([(q, .inr (2, [.ref q_1, .ref q_2, .ref q_3, .ref q_4, .ref q_5, .ref q_6, .null, .null, .null, .null, .int 0, .int 0, .int 0])), (q_1, .inl (gI G, 4, .inl (upd (upd (upd (upd (fun _ => 0) 0 1) 1 1) 2 50) 3 0))), (q_2, .inl (gI G, 5, .inl (upd (upd (upd (upd (upd (fun _ => 0) 0 5) 1 4) 2 3) 3 2) 4 1))), (q_3, .inl (gI G, 5, .inl (upd (upd (upd (upd (upd (fun _ => 0) 0 20) 1 20) 2 20) 3 20) 4 20))), (q_4, .inl (gI G, 5, .inl (upd (upd (upd (upd (upd (fun _ => 0) 0 10) 1 10) 2 10) 3 10) 4 10))), (q_5, .inl (gI G, 5, .inl (upd (upd (upd (upd (upd (fun _ => 0) 0 0) 1 1) 2 2) 3 3) 4 4))), (q_6, .inl (gI G, 5, .inl (upd (upd (upd (upd (upd (fun _ => 0) 0 (-100006)) 1 (-100006)) 2 (-100006)) 3 (-100006)) 4 (-100006)))), (q_7, .inl (gI G, 5, .inl (upd (upd (upd (fun _ => 0) 0 (-100006)) 1 (-100006)) 2 (-100006))))]) H := hP
  have hD : va_D A ([(q, .inr (2, [.ref q_1, .ref q_2, .ref q_3, .ref q_4, .ref q_5, .ref q_6, .null, .null, .null, .null, .int 0, .int 0, .int 0])), (q_1, .inl (gI G, 4, .inl (upd (upd (upd (upd (fun _ => 0) 0 1) 1 1) 2 50) 3 0))), (q_2, .inl (gI G, 5, .inl (upd (upd (upd (upd (upd (fun _ => 0) 0 5) 1 4) 2 3) 3 2) 4 1))), (q_3, .inl (gI G, 5, .inl (upd (upd (upd (upd (upd (fun _ => 0) 0 20) 1 20) 2 20) 3 20) 4 20))), (q_4, .inl (gI G, 5, .inl (upd (upd (upd (upd (upd (fun _ => 0) 0 10) 1 10) 2 10) 3 10) 4 10))), (q_5, .inl (gI G, 5, .inl (upd (upd (upd (upd (upd (fun _ => 0) 0 0) 1 1) 2 2) 3 3) 4 4))), (q_6, .inl (gI G, 5, .inl (upd (upd (upd (upd (upd (fun _ => 0) 0 (-100006)) 1 (-100006)) 2 (-100006)) 3 (-100006)) 4 (-100006)))), (q_7, .inl (gI G, 5, .inl (upd (upd (upd (fun _ => 0) 0 (-100006)) 1 (-100006)) 2 (-100006))))]) := hD
  refine lv_dup hx hb dX2_init_197 rfl ?_
  refine lv_iconst (v := 3) hx hb dX2_init_198 (by decide) ?_
  refine lv_ldc (v := (-100006)) hx hb hown wk10 dX2_init_199 ?_
  refine qist hx hb hK.1 hP hD hS 7 0 rfl rfl (k := 3) rfl (vp_in_nI (n := 3) (by decide) (by decide)) dX2_init_201 (fun H locs hP hD hS => ?_)
  have hP : va_P G.1 vwCl ([(q, .inr (2, [.ref q_1, .ref q_2, .ref q_3, .ref q_4, .ref q_5, .ref q_6, .null, .null, .null, .null, .int 0, .int 0, .int 0])), (q_1, .inl (gI G, 4, .inl (upd (upd (upd (upd (fun _ => 0) 0 1) 1 1) 2 50) 3 0))), (q_2, .inl (gI G, 5, .inl (upd (upd (upd (upd (upd (fun _ => 0) 0 5) 1 4) 2 3) 3 2) 4 1))), (q_3, .inl (gI G, 5, .inl (upd (upd (upd (upd (upd (fun _ => 0) 0 20) 1 20) 2 20) 3 20) 4 20))), (q_4, .inl (gI G, 5, .inl (upd (upd (upd (upd (upd (fun _ => 0) 0 10) 1 10) 2 10) 3 10) 4 10))), (q_5, .inl (gI G, 5, .inl (upd (upd (upd (upd (upd (fun _ => 0) 0 0) 1 1) 2 2) 3 3) 4 4))), (q_6, .inl (gI G, 5, .inl (upd (upd (upd (upd (upd (fun _ => 0) 0 (-100006)) 1 (-100006)) 2 (-100006)) 3 (-100006)) 4 (-100006)))), (q_7, .inl (gI G, 5, .inl (upd (upd (upd (upd (fun _ => 0) 0 (-100006)) 1 (-100006)) 2 (-100006)) 3 (-100006))))]) H := hP
  have hD : va_D A ([(q, .inr (2, [.ref q_1, .ref q_2, .ref q_3, .ref q_4, .ref q_5, .ref q_6, .null, .null, .null, .null, .int 0, .int 0, .int 0])), (q_1, .inl (gI G, 4, .inl (upd (upd (upd (upd (fun _ => 0) 0 1) 1 1) 2 50) 3 0))), (q_2, .inl (gI G, 5, .inl (upd (upd (upd (upd (upd (fun _ => 0) 0 5) 1 4) 2 3) 3 2) 4 1))), (q_3, .inl (gI G, 5, .inl (upd (upd (upd (upd (upd (fun _ => 0) 0 20) 1 20) 2 20) 3 20) 4 20))), (q_4, .inl (gI G, 5, .inl (upd (upd (upd (upd (upd (fun _ => 0) 0 10) 1 10) 2 10) 3 10) 4 10))), (q_5, .inl (gI G, 5, .inl (upd (upd (upd (upd (upd (fun _ => 0) 0 0) 1 1) 2 2) 3 3) 4 4))), (q_6, .inl (gI G, 5, .inl (upd (upd (upd (upd (upd (fun _ => 0) 0 (-100006)) 1 (-100006)) 2 (-100006)) 3 (-100006)) 4 (-100006)))), (q_7, .inl (gI G, 5, .inl (upd (upd (upd (upd (fun _ => 0) 0 (-100006)) 1 (-100006)) 2 (-100006)) 3 (-100006))))]) := hD
  refine lv_dup hx hb dX2_init_202 rfl ?_
  refine lv_iconst (v := 4) hx hb dX2_init_203 (by decide) ?_
  refine lv_ldc (v := (-100006)) hx hb hown wk10 dX2_init_204 ?_
  refine qist hx hb hK.1 hP hD hS 7 0 rfl rfl (k := 4) rfl (vp_in_nI (n := 4) (by decide) (by decide)) dX2_init_206 (fun H locs hP hD hS => ?_)
  have hP : va_P G.1 vwCl ([(q, .inr (2, [.ref q_1, .ref q_2, .ref q_3, .ref q_4, .ref q_5, .ref q_6, .null, .null, .null, .null, .int 0, .int 0, .int 0])), (q_1, .inl (gI G, 4, .inl (upd (upd (upd (upd (fun _ => 0) 0 1) 1 1) 2 50) 3 0))), (q_2, .inl (gI G, 5, .inl (upd (upd (upd (upd (upd (fun _ => 0) 0 5) 1 4) 2 3) 3 2) 4 1))), (q_3, .inl (gI G, 5, .inl (upd (upd (upd (upd (upd (fun _ => 0) 0 20) 1 20) 2 20) 3 20) 4 20))), (q_4, .inl (gI G, 5, .inl (upd (upd (upd (upd (upd (fun _ => 0) 0 10) 1 10) 2 10) 3 10) 4 10))), (q_5, .inl (gI G, 5, .inl (upd (upd (upd (upd (upd (fun _ => 0) 0 0) 1 1) 2 2) 3 3) 4 4))), (q_6, .inl (gI G, 5, .inl (upd (upd (upd (upd (upd (fun _ => 0) 0 (-100006)) 1 (-100006)) 2 (-100006)) 3 (-100006)) 4 (-100006)))), (q_7, .inl (gI G, 5, .inl (upd (upd (upd (upd (upd (fun _ => 0) 0 (-100006)) 1 (-100006)) 2 (-100006)) 3 (-100006)) 4 (-100006))))]) H := hP
  have hD : va_D A ([(q, .inr (2, [.ref q_1, .ref q_2, .ref q_3, .ref q_4, .ref q_5, .ref q_6, .null, .null, .null, .null, .int 0, .int 0, .int 0])), (q_1, .inl (gI G, 4, .inl (upd (upd (upd (upd (fun _ => 0) 0 1) 1 1) 2 50) 3 0))), (q_2, .inl (gI G, 5, .inl (upd (upd (upd (upd (upd (fun _ => 0) 0 5) 1 4) 2 3) 3 2) 4 1))), (q_3, .inl (gI G, 5, .inl (upd (upd (upd (upd (upd (fun _ => 0) 0 20) 1 20) 2 20) 3 20) 4 20))), (q_4, .inl (gI G, 5, .inl (upd (upd (upd (upd (upd (fun _ => 0) 0 10) 1 10) 2 10) 3 10) 4 10))), (q_5, .inl (gI G, 5, .inl (upd (upd (upd (upd (upd (fun _ => 0) 0 0) 1 1) 2 2) 3 3) 4 4))), (q_6, .inl (gI G, 5, .inl (upd (upd (upd (upd (upd (fun _ => 0) 0 (-100006)) 1 (-100006)) 2 (-100006)) 3 (-100006)) 4 (-100006)))), (q_7, .inl (gI G, 5, .inl (upd (upd (upd (upd (upd (fun _ => 0) 0 (-100006)) 1 (-100006)) 2 (-100006)) 3 (-100006)) 4 (-100006))))]) := hD
  refine va_putF (D := G.1) (ci := 2) (v := .ref q_7) (ty := .array .int) (C := RX2) (T := TX2) (N := 13) hx hb hts hinX2 tyX2 tyX2_ok nmX2 hown hK.1 hP hD hS 0 rfl rfl 6 (by decide) wk12 (fun _ h9 => h9) rfl hmn rfl (by decide +kernel) rfl rfl (Nat.le_of_ble_eq_true rfl) dX2_init_207 (fun H locs hP hD hS => ?_)
  have hP : va_P G.1 vwCl ([(q, .inr (2, [.ref q_1, .ref q_2, .ref q_3, .ref q_4, .ref q_5, .ref q_6, .ref q_7, .null, .null, .null, .int 0, .int 0, .int 0])), (q_1, .inl (gI G, 4, .inl (upd (upd (upd (upd (fun _ => 0) 0 1) 1 1) 2 50) 3 0))), (q_2, .inl (gI G, 5, .inl (upd (upd (upd (upd (upd (fun _ => 0) 0 5) 1 4) 2 3) 3 2) 4 1))), (q_3, .inl (gI G, 5, .inl (upd (upd (upd (upd (upd (fun _ => 0) 0 20) 1 20) 2 20) 3 20) 4 20))), (q_4, .inl (gI G, 5, .inl (upd (upd (upd (upd (upd (fun _ => 0) 0 10) 1 10) 2 10) 3 10) 4 10))), (q_5, .inl (gI G, 5, .inl (upd (upd (upd (upd (upd (fun _ => 0) 0 0) 1 1) 2 2) 3 3) 4 4))), (q_6, .inl (gI G, 5, .inl (upd (upd (upd (upd (upd (fun _ => 0) 0 (-100006)) 1 (-100006)) 2 (-100006)) 3 (-100006)) 4 (-100006)))), (q_7, .inl (gI G, 5, .inl (upd (upd (upd (upd (upd (fun _ => 0) 0 (-100006)) 1 (-100006)) 2 (-100006)) 3 (-100006)) 4 (-100006))))]) H := hP
  have hD : va_D A ([(q, .inr (2, [.ref q_1, .ref q_2, .ref q_3, .ref q_4, .ref q_5, .ref q_6, .ref q_7, .null, .null, .null, .int 0, .int 0, .int 0])), (q_1, .inl (gI G, 4, .inl (upd (upd (upd (upd (fun _ => 0) 0 1) 1 1) 2 50) 3 0))), (q_2, .inl (gI G, 5, .inl (upd (upd (upd (upd (upd (fun _ => 0) 0 5) 1 4) 2 3) 3 2) 4 1))), (q_3, .inl (gI G, 5, .inl (upd (upd (upd (upd (upd (fun _ => 0) 0 20) 1 20) 2 20) 3 20) 4 20))), (q_4, .inl (gI G, 5, .inl (upd (upd (upd (upd (upd (fun _ => 0) 0 10) 1 10) 2 10) 3 10) 4 10))), (q_5, .inl (gI G, 5, .inl (upd (upd (upd (upd (upd (fun _ => 0) 0 0) 1 1) 2 2) 3 3) 4 4))), (q_6, .inl (gI G, 5, .inl (upd (upd (upd (upd (upd (fun _ => 0) 0 (-100006)) 1 (-100006)) 2 (-100006)) 3 (-100006)) 4 (-100006)))), (q_7, .inl (gI G, 5, .inl (upd (upd (upd (upd (upd (fun _ => 0) 0 (-100006)) 1 (-100006)) 2 (-100006)) 3 (-100006)) 4 (-100006))))]) := hD
  refine lv_aload_n hx hb dX2_init_210 rfl (lv_at hl 0 rfl) ?_
  refine lv_iconst (v := 5) hx hb dX2_init_211 (by decide) ?_
  refine qnewi hx hb wk4 hK hP hD hS hA (N' := 5) (by decide +kernel) (by decide +kernel) (Nat.le_of_ble_eq_true rfl) (Nat.le_of_ble_eq_true rfl) (Nat.le_of_ble_eq_true rfl) dX2_init_212 (fun q_8 H hP hD hS => ?_)
  have hP : va_P G.1 vwCl ([(q, .inr (2, [.ref q_1, .ref q_2, .ref q_3, .ref q_4, .ref q_5, .ref q_6, .ref q_7, .null, .null, .null, .int 0, .int 0, .int 0])), (q_1, .inl (gI G, 4, .inl (upd (upd (upd (upd (fun _ => 0) 0 1) 1 1) 2 50) 3 0))), (q_2, .inl (gI G, 5, .inl (upd (upd (upd (upd (upd (fun _ => 0) 0 5) 1 4) 2 3) 3 2) 4 1))), (q_3, .inl (gI G, 5, .inl (upd (upd (upd (upd (upd (fun _ => 0) 0 20) 1 20) 2 20) 3 20) 4 20))), (q_4, .inl (gI G, 5, .inl (upd (upd (upd (upd (upd (fun _ => 0) 0 10) 1 10) 2 10) 3 10) 4 10))), (q_5, .inl (gI G, 5, .inl (upd (upd (upd (upd (upd (fun _ => 0) 0 0) 1 1) 2 2) 3 3) 4 4))), (q_6, .inl (gI G, 5, .inl (upd (upd (upd (upd (upd (fun _ => 0) 0 (-100006)) 1 (-100006)) 2 (-100006)) 3 (-100006)) 4 (-100006)))), (q_7, .inl (gI G, 5, .inl (upd (upd (upd (upd (upd (fun _ => 0) 0 (-100006)) 1 (-100006)) 2 (-100006)) 3 (-100006)) 4 (-100006)))), (q_8, .inl (gI G, 5, .inl (fun _ => 0)))]) H := hP
  have hD : va_D A ([(q, .inr (2, [.ref q_1, .ref q_2, .ref q_3, .ref q_4, .ref q_5, .ref q_6, .ref q_7, .null, .null, .null, .int 0, .int 0, .int 0])), (q_1, .inl (gI G, 4, .inl (upd (upd (upd (upd (fun _ => 0) 0 1) 1 1) 2 50) 3 0))), (q_2, .inl (gI G, 5, .inl (upd (upd (upd (upd (upd (fun _ => 0) 0 5) 1 4) 2 3) 3 2) 4 1))), (q_3, .inl (gI G, 5, .inl (upd (upd (upd (upd (upd (fun _ => 0) 0 20) 1 20) 2 20) 3 20) 4 20))), (q_4, .inl (gI G, 5, .inl (upd (upd (upd (upd (upd (fun _ => 0) 0 10) 1 10) 2 10) 3 10) 4 10))), (q_5, .inl (gI G, 5, .inl (upd (upd (upd (upd (upd (fun _ => 0) 0 0) 1 1) 2 2) 3 3) 4 4))), (q_6, .inl (gI G, 5, .inl (upd (upd (upd (upd (upd (fun _ => 0) 0 (-100006)) 1 (-100006)) 2 (-100006)) 3 (-100006)) 4 (-100006)))), (q_7, .inl (gI G, 5, .inl (upd (upd (upd (upd (upd (fun _ => 0) 0 (-100006)) 1 (-100006)) 2 (-100006)) 3 (-100006)) 4 (-100006)))), (q_8, .inl (gI G, 5, .inl (fun _ => 0)))]) := hD
  refine va_putF (D := G.1) (ci := 2) (v := .ref q_8) (ty := .array .int) (C := RX2) (T := TX2) (N := 13) hx hb hts hinX2 tyX2 tyX2_ok nmX2 hown hK.1 hP hD hS 0 rfl rfl 7 (by decide) wk13 (fun _ h9 => h9) rfl hmn rfl (by decide +kernel) rfl rfl (Nat.le_of_ble_eq_true rfl) dX2_init_214 (fun H locs hP hD hS => ?_)
  have hP : va_P G.1 vwCl ([(q, .inr (2, [.ref q_1, .ref q_2, .ref q_3, .ref q_4, .ref q_5, .ref q_6, .ref q_7, .ref q_8, .null, .null, .int 0, .int 0, .int 0])), (q_1, .inl (gI G, 4, .inl (upd (upd (upd (upd (fun _ => 0) 0 1) 1 1) 2 50) 3 0))), (q_2, .inl (gI G, 5, .inl (upd (upd (upd (upd (upd (fun _ => 0) 0 5) 1 4) 2 3) 3 2) 4 1))), (q_3, .inl (gI G, 5, .inl (upd (upd (upd (upd (upd (fun _ => 0) 0 20) 1 20) 2 20) 3 20) 4 20))), (q_4, .inl (gI G, 5, .inl (upd (upd (upd (upd (upd (fun _ => 0) 0 10) 1 10) 2 10) 3 10) 4 10))), (q_5, .inl (gI G, 5, .inl (upd (upd (upd (upd (upd (fun _ => 0) 0 0) 1 1) 2 2) 3 3) 4 4))), (q_6, .inl (gI G, 5, .inl (upd (upd (upd (upd (upd (fun _ => 0) 0 (-100006)) 1 (-100006)) 2 (-100006)) 3 (-100006)) 4 (-100006)))), (q_7, .inl (gI G, 5, .inl (upd (upd (upd (upd (upd (fun _ => 0) 0 (-100006)) 1 (-100006)) 2 (-100006)) 3 (-100006)) 4 (-100006)))), (q_8, .inl (gI G, 5, .inl (fun _ => 0)))]) H := hP
  have hD : va_D A ([(q, .inr (2, [.ref q_1, .ref q_2, .ref q_3, .ref q_4, .ref q_5, .ref q_6, .ref q_7, .ref q_8, .null, .null, .int 0, .int 0, .int 0])), (q_1, .inl (gI G, 4, .inl (upd (upd (upd (upd (fun _ => 0) 0 1) 1 1) 2 50) 3 0))), (q_2, .inl (gI G, 5, .inl (upd (upd (upd (upd (upd (fun _ => 0) 0 5) 1 4) 2 3) 3 2) 4 1))), (q_3, .inl (gI G, 5, .inl (upd (upd (upd (upd (upd (fun _ => 0) 0 20) 1 20) 2 20) 3 20) 4 20))), (q_4, .inl (gI G, 5, .inl (upd (upd (upd (upd (upd (fun _ => 0) 0 10) 1 10) 2 10) 3 10) 4 10))), (q_5, .inl (gI G, 5, .inl (upd (upd (upd (upd (upd (fun _ => 0) 0 0) 1 1) 2 2) 3 3) 4 4))), (q_6, .inl (gI G, 5, .inl (upd (upd (upd (upd (upd (fun _ => 0) 0 (-100006)) 1 (-100006)) 2 (-100006)) 3 (-100006)) 4 (-100006)))), (q_7, .inl (gI G, 5, .inl (upd (upd (upd (upd (upd (fun _ => 0) 0 (-100006)) 1 (-100006)) 2 (-100006)) 3 (-100006)) 4 (-100006)))), (q_8, .inl (gI G, 5, .inl (fun _ => 0)))]) := hD
  refine lv_aload_n hx hb dX2_init_217 rfl (lv_at hl 0 rfl) ?_
  refine lv_iconst (v := 5) hx hb dX2_init_218 (by decide) ?_
  refine qnewi hx hb wk4 hK hP hD hS hA (N' := 5) (by decide +kernel) (by decide +kernel) (Nat.le_of_ble_eq_true rfl) (Nat.le_of_ble_eq_true rfl) (Nat.le_of_ble_eq_true rfl) dX2_init_219 (fun q_9 H hP hD hS => ?_)
  have hP : va_P G.1 vwCl ([(q, .inr (2, [.ref q_1, .ref q_2, .ref q_3, .ref q_4, .ref q_5, .ref q_6, .ref q_7, .ref q_8, .null, .null, .int 0, .int 0, .int 0])), (q_1, .inl (gI G, 4, .inl (upd (upd (upd (upd (fun _ => 0) 0 1) 1 1) 2 50) 3 0))), (q_2, .inl (gI G, 5, .inl (upd (upd (upd (upd (upd (fun _ => 0) 0 5) 1 4) 2 3) 3 2) 4 1))), (q_3, .inl (gI G, 5, .inl (upd (upd (upd (upd (upd (fun _ => 0) 0 20) 1 20) 2 20) 3 20) 4 20))), (q_4, .inl (gI G, 5, .inl (upd (upd (upd (upd (upd (fun _ => 0) 0 10) 1 10) 2 10) 3 10) 4 10))), (q_5, .inl (gI G, 5, .inl (upd (upd (upd (upd (upd (fun _ => 0) 0 0) 1 1) 2 2) 3 3) 4 4))), (q_6, .inl (gI G, 5, .inl (upd (upd (upd (upd (upd (fun _ => 0) 0 (-100006)) 1 (-100006)) 2 (-100006)) 3 (-100006)) 4 (-100006)))), (q_7, .inl (gI G, 5, .inl (upd (upd (upd (upd (upd (fun _ => 0) 0 (-100006)) 1 (-100006)) 2 (-100006)) 3 (-100006)) 4 (-100006)))), (q_8, .inl (gI G, 5, .inl (fun _ => 0))), (q_9, .inl (gI G, 5, .inl (fun _ => 0)))]) H := hP
  have hD : va_D A ([(q, .inr (2, [.ref q_1, .ref q_2, .ref q_3, .ref q_4, .ref q_5, .ref q_6, .ref q_7, .ref q_8, .null, .null, .int 0, .int 0, .int 0])), (q_1, .inl (gI G, 4, .inl (upd (upd (upd (upd (fun _ => 0) 0 1) 1 1) 2 50) 3 0))), (q_2, .inl (gI G, 5, .inl (upd (upd (upd (upd (upd (fun _ => 0) 0 5) 1 4) 2 3) 3 2) 4 1))), (q_3, .inl (gI G, 5, .inl (upd (upd (upd (upd (upd (fun _ => 0) 0 20) 1 20) 2 20) 3 20) 4 20))), (q_4, .inl (gI G, 5, .inl (upd (upd (upd (upd (upd (fun _ => 0) 0 10) 1 10) 2 10) 3 10) 4 10))), (q_5, .inl (gI G, 5, .inl (upd (upd (upd (upd (upd (fun _ => 0) 0 0) 1 1) 2 2) 3 3) 4 4))), (q_6, .inl (gI G, 5, .inl (upd (upd (upd (upd (upd (fun _ => 0) 0 (-100006)) 1 (-100006)) 2 (-100006)) 3 (-100006)) 4 (-100006)))), (q_7, .inl (gI G, 5, .inl (upd (upd (upd (upd (upd (fun _ => 0) 0 (-100006)) 1 (-100006)) 2 (-100006)) 3 (-100006)) 4 (-100006)))), (q_8, .inl (gI G, 5, .inl (fun _ => 0))), (q_9, .inl (gI G, 5, .inl (fun _ => 0)))]) := hD
  refine va_putF (D := G.1) (ci := 2) (v := .ref q_9) (ty := .array .int) (C := RX2) (T := TX2) (N := 13) hx hb hts hinX2 tyX2 tyX2_ok nmX2 hown hK.1 hP hD hS 0 rfl rfl 8 (by decide) wk14 (fun _ h9 => h9) rfl hmn rfl (by decide +kernel) rfl rfl (Nat.le_of_ble_eq_true rfl) dX2_init_221 (fun H locs hP hD hS => ?_)
  have hP : va_P G.1 vwCl ([(q, .inr (2, [.ref q_1, .ref q_2, .ref q_3, .ref q_4, .ref q_5, .ref q_6, .ref q_7, .ref q_8, .ref q_9, .null, .int 0, .int 0, .int 0])), (q_1, .inl (gI G, 4, .inl (upd (upd (upd (upd (fun _ => 0) 0 1) 1 1) 2 50) 3 0))), (q_2, .inl (gI G, 5, .inl (upd (upd (upd (upd (upd (fun _ => 0) 0 5) 1 4) 2 3) 3 2) 4 1))), (q_3, .inl (gI G, 5, .inl (upd (upd (upd (upd (upd (fun _ => 0) 0 20) 1 20) 2 20) 3 20) 4 20))), (q_4, .inl (gI G, 5, .inl (upd (upd (upd (upd (upd (fun _ => 0) 0 10) 1 10) 2 10) 3 10) 4 10))), (q_5, .inl (gI G, 5, .inl (upd (upd (upd (upd (upd (fun _ => 0) 0 0) 1 1) 2 2) 3 3) 4 4))), (q_6, .inl (gI G, 5, .inl (upd (upd (upd (upd (upd (fun _ => 0) 0 (-100006)) 1 (-100006)) 2 (-100006)) 3 (-100006)) 4 (-100006)))), (q_7, .inl (gI G, 5, .inl (upd (upd (upd (upd (upd (fun _ => 0) 0 (-100006)) 1 (-100006)) 2 (-100006)) 3 (-100006)) 4 (-100006)))), (q_8, .inl (gI G, 5, .inl (fun _ => 0))), (q_9, .inl (gI G, 5, .inl (fun _ => 0)))]) H := hP
  have hD : va_D A ([(q, .inr (2, [.ref q_1, .ref q_2, .ref q_3, .ref q_4, .ref q_5, .ref q_6, .ref q_7, .ref q_8, .ref q_9, .null, .int 0, .int 0, .int 0])), (q_1, .inl (gI G, 4, .inl (upd (upd (upd (upd (fun _ => 0) 0 1) 1 1) 2 50) 3 0))), (q_2, .inl (gI G, 5, .inl (upd (upd (upd (upd (upd (fun _ => 0) 0 5) 1 4) 2 3) 3 2) 4 1))), (q_3, .inl (gI G, 5, .inl (upd (upd (upd (upd (upd (fun _ => 0) 0 20) 1 20) 2 20) 3 20) 4 20))), (q_4, .inl (gI G, 5, .inl (upd (upd (upd (upd (upd (fun _ => 0) 0 10) 1 10) 2 10) 3 10) 4 10))), (q_5, .inl (gI G, 5, .inl (upd (upd (upd (upd (upd (fun _ => 0) 0 0) 1 1) 2 2) 3 3) 4 4))), (q_6, .inl (gI G, 5, .inl (upd (upd (upd (upd (upd (fun _ => 0) 0 (-100006)) 1 (-100006)) 2 (-100006)) 3 (-100006)) 4 (-100006)))), (q_7, .inl (gI G, 5, .inl (upd (upd (upd (upd (upd (fun _ => 0) 0 (-100006)) 1 (-100006)) 2 (-100006)) 3 (-100006)) 4 (-100006)))), (q_8, .inl (gI G, 5, .inl (fun _ => 0))), (q_9, .inl (gI G, 5, .inl (fun _ => 0)))]) := hD
  refine lv_aload_n hx hb dX2_init_224 rfl (lv_at hl 0 rfl) ?_
  refine lv_iconst (v := 5) hx hb dX2_init_225 (by decide) ?_
  refine qnewi hx hb wk4 hK hP hD hS hA (N' := 5) (by decide +kernel) (by decide +kernel) (Nat.le_of_ble_eq_true rfl) (Nat.le_of_ble_eq_true rfl) (Nat.le_of_ble_eq_true rfl) dX2_init_226 (fun q_10 H hP hD hS => ?_)
  have hP : va_P G.1 vwCl ([(q, .inr (2, [.ref q_1, .ref q_2, .ref q_3, .ref q_4, .ref q_5, .ref q_6, .ref q_7, .ref q_8, .ref q_9, .null, .int 0, .int 0, .int 0])), (q_1, .inl (gI G, 4, .inl (upd (upd (upd (upd (fun _ => 0) 0 1) 1 1) 2 50) 3 0))), (q_2, .inl (gI G, 5, .inl (upd (upd (upd (upd (upd (fun _ => 0) 0 5) 1 4) 2 3) 3 2) 4 1))), (q_3, .inl (gI G, 5, .inl (upd (upd (upd (upd (upd (fun _ => 0) 0 20) 1 20) 2 20) 3 20) 4 20))), (q_4, .inl (gI G, 5, .inl (upd (upd (upd (upd (upd (fun _ => 0) 0 10) 1 10) 2 10) 3 10) 4 10))), (q_5, .inl (gI G, 5, .inl (upd (upd (upd (upd (upd (fun _ => 0) 0 0) 1 1) 2 2) 3 3) 4 4))), (q_6, .inl (gI G, 5, .inl (upd (upd (upd (upd (upd (fun _ => 0) 0 (-100006)) 1 (-100006)) 2 (-100006)) 3 (-100006)) 4 (-100006)))), (q_7, .inl (gI G, 5, .inl (upd (upd (upd (upd (upd (fun _ => 0) 0 (-100006)) 1 (-100006)) 2 (-100006)) 3 (-100006)) 4 (-100006)))), (q_8, .inl (gI G, 5, .inl (fun _ => 0))), (q_9, .inl (gI G, 5, .inl (fun _ => 0))), (q_10, .inl (gI G, 5, .inl (fun _ => 0)))]) H := hP
  have hD : va_D A ([(q, .inr (2, [.ref q_1, .ref q_2, .ref q_3, .ref q_4, .ref q_5, .ref q_6, .ref q_7, .ref q_8, .ref q_9, .null, .int 0, .int 0, .int 0])), (q_1, .inl (gI G, 4, .inl (upd (upd (upd (upd (fun _ => 0) 0 1) 1 1) 2 50) 3 0))), (q_2, .inl (gI G, 5, .inl (upd (upd (upd (upd (upd (fun _ => 0) 0 5) 1 4) 2 3) 3 2) 4 1))), (q_3, .inl (gI G, 5, .inl (upd (upd (upd (upd (upd (fun _ => 0) 0 20) 1 20) 2 20) 3 20) 4 20))), (q_4, .inl (gI G, 5, .inl (upd (upd (upd (upd (upd (fun _ => 0) 0 10) 1 10) 2 10) 3 10) 4 10))), (q_5, .inl (gI G, 5, .inl (upd (upd (upd (upd (upd (fun _ => 0) 0 0) 1 1) 2 2) 3 3) 4 4))), (q_6, .inl (gI G, 5, .inl (upd (upd (upd (upd (upd (fun _ => 0) 0 (-100006)) 1 (-100006)) 2 (-100006)) 3 (-100006)) 4 (-100006)))), (q_7, .inl (gI G, 5, .inl (upd (upd (upd (upd (upd (fun _ => 0) 0 (-100006)) 1 (-100006)) 2 (-100006)) 3 (-100006)) 4 (-100006)))), (q_8, .inl (gI G, 5, .inl (fun _ => 0))), (q_9, .inl (gI G, 5, .inl (fun _ => 0))), (q_10, .inl (gI G, 5, .inl (fun _ => 0)))]) := hD
  refine va_putF (D := G.1) (ci := 2) (v := .ref q_10) (ty := .array .int) (C := RX2) (T := TX2) (N := 13) hx hb hts hinX2 tyX2 tyX2_ok nmX2 hown hK.1 hP hD hS 0 rfl rfl 9 (by decide) wk15 (fun _ h9 => h9) rfl hmn rfl (by decide +kernel) rfl rfl (Nat.le_of_ble_eq_true rfl) dX2_init_228 (fun H locs hP hD hS => ?_)
  have hP : va_P G.1 vwCl ([(q, .inr (2, [.ref q_1, .ref q_2, .ref q_3, .ref q_4, .ref q_5, .ref q_6, .ref q_7, .ref q_8, .ref q_9, .ref q_10, .int 0, .int 0, .int 0])), (q_1, .inl (gI G, 4, .inl (upd (upd (upd (upd (fun _ => 0) 0 1) 1 1) 2 50) 3 0))), (q_2, .inl (gI G, 5, .inl (upd (upd (upd (upd (upd (fun _ => 0) 0 5) 1 4) 2 3) 3 2) 4 1))), (q_3, .inl (gI G, 5, .inl (upd (upd (upd (upd (upd (fun _ => 0) 0 20) 1 20) 2 20) 3 20) 4 20))), (q_4, .inl (gI G, 5, .inl (upd (upd (upd (upd (upd (fun _ => 0) 0 10) 1 10) 2 10) 3 10) 4 10))), (q_5, .inl (gI G, 5, .inl (upd (upd (upd (upd (upd (fun _ => 0) 0 0) 1 1) 2 2) 3 3) 4 4))), (q_6, .inl (gI G, 5, .inl (upd (upd (upd (upd (upd (fun _ => 0) 0 (-100006)) 1 (-100006)) 2 (-100006)) 3 (-100006)) 4 (-100006)))), (q_7, .inl (gI G, 5, .inl (upd (upd (upd (upd (upd (fun _ => 0) 0 (-100006)) 1 (-100006)) 2 (-100006)) 3 (-100006)) 4 (-100006)))), (q_8, .inl (gI G, 5, .inl (fun _ => 0))), (q_9, .inl (gI G, 5, .inl (fun _ => 0))), (q_10, .inl (gI G, 5, .inl (fun _ => 0)))]) H := hP
  have hD : va_D A ([(q, .inr (2, [.ref q_1, .ref q_2, .ref q_3, .ref q_4, .ref q_5, .ref q_6, .ref q_7, .ref q_8, .ref q_9, .ref q_10, .int 0, .int 0, .int 0])), (q_1, .inl (gI G, 4, .inl (upd (upd (upd (upd (fun _ => 0) 0 1) 1 1) 2 50) 3 0))), (q_2, .inl (gI G, 5, .inl (upd (upd (upd (upd (upd (fun _ => 0) 0 5) 1 4) 2 3) 3 2) 4 1))), (q_3, .inl (gI G, 5, .inl (upd (upd (upd (upd (upd (fun _ => 0) 0 20) 1 20) 2 20) 3 20) 4 20))), (q_4, .inl (gI G, 5, .inl (upd (upd (upd (upd (upd (fun _ => 0) 0 10) 1 10) 2 10) 3 10) 4 10))), (q_5, .inl (gI G, 5, .inl (upd (upd (upd (upd (upd (fun _ => 0) 0 0) 1 1) 2 2) 3 3) 4 4))), (q_6, .inl (gI G, 5, .inl (upd (upd (upd (upd (upd (fun _ => 0) 0 (-100006)) 1 (-100006)) 2 (-100006)) 3 (-100006)) 4 (-100006)))), (q_7, .inl (gI G, 5, .inl (upd (upd (upd (upd (upd (fun _ => 0) 0 (-100006)) 1 (-100006)) 2 (-100006)) 3 (-100006)) 4 (-100006)))), (q_8, .inl (gI G, 5, .inl (fun _ => 0))), (q_9, .inl (gI G, 5, .inl (fun _ => 0))), (q_10, .inl (gI G, 5, .inl (fun _ => 0)))]) := hD
  refine lv_aload_n hx hb dX2_init_231 rfl (lv_at hl 0 rfl) ?_
  refine lv_iconst (v := 0) hx hb dX2_init_232 (by decide) ?_
  refine va_put (D := G.1) (ci := 2) (v := .int 0) (ty := .boolean) (C := RX2) (T := TX2) (N := 13) hx hb hts hinX2 tyX2 tyX2_ok nmX2 hown hK.1 hP hD hS 0 rfl rfl 10 (by decide) wk16 (fun _ h9 => h9) rfl (by decide +kernel) rfl rfl (Nat.le_of_ble_eq_true rfl) dX2_init_233 (fun H locs hP hD hS => ?_)
  have hP : va_P G.1 vwCl ([(q, .inr (2, [.ref q_1, .ref q_2, .ref q_3, .ref q_4, .ref q_5, .ref q_6, .ref q_7, .ref q_8, .ref q_9, .ref q_10, .int 0, .int 0, .int 0])), (q_1, .inl (gI G, 4, .inl (upd (upd (upd (upd (fun _ => 0) 0 1) 1 1) 2 50) 3 0))), (q_2, .inl (gI G, 5, .inl (upd (upd (upd (upd (upd (fun _ => 0) 0 5) 1 4) 2 3) 3 2) 4 1))), (q_3, .inl (gI G, 5, .inl (upd (upd (upd (upd (upd (fun _ => 0) 0 20) 1 20) 2 20) 3 20) 4 20))), (q_4, .inl (gI G, 5, .inl (upd (upd (upd (upd (upd (fun _ => 0) 0 10) 1 10) 2 10) 3 10) 4 10))), (q_5, .inl (gI G, 5, .inl (upd (upd (upd (upd (upd (fun _ => 0) 0 0) 1 1) 2 2) 3 3) 4 4))), (q_6, .inl (gI G, 5, .inl (upd (upd (upd (upd (upd (fun _ => 0) 0 (-100006)) 1 (-100006)) 2 (-100006)) 3 (-100006)) 4 (-100006)))), (q_7, .inl (gI G, 5, .inl (upd (upd (upd (upd (upd (fun _ => 0) 0 (-100006)) 1 (-100006)) 2 (-100006)) 3 (-100006)) 4 (-100006)))), (q_8, .inl (gI G, 5, .inl (fun _ => 0))), (q_9, .inl (gI G, 5, .inl (fun _ => 0))), (q_10, .inl (gI G, 5, .inl (fun _ => 0)))]) H := hP
  have hD : va_D A ([(q, .inr (2, [.ref q_1, .ref q_2, .ref q_3, .ref q_4, .ref q_5, .ref q_6, .ref q_7, .ref q_8, .ref q_9, .ref q_10, .int 0, .int 0, .int 0])), (q_1, .inl (gI G, 4, .inl (upd (upd (upd (upd (fun _ => 0) 0 1) 1 1) 2 50) 3 0))), (q_2, .inl (gI G, 5, .inl (upd (upd (upd (upd (upd (fun _ => 0) 0 5) 1 4) 2 3) 3 2) 4 1))), (q_3, .inl (gI G, 5, .inl (upd (upd (upd (upd (upd (fun _ => 0) 0 20) 1 20) 2 20) 3 20) 4 20))), (q_4, .inl (gI G, 5, .inl (upd (upd (upd (upd (upd (fun _ => 0) 0 10) 1 10) 2 10) 3 10) 4 10))), (q_5, .inl (gI G, 5, .inl (upd (upd (upd (upd (upd (fun _ => 0) 0 0) 1 1) 2 2) 3 3) 4 4))), (q_6, .inl (gI G, 5, .inl (upd (upd (upd (upd (upd (fun _ => 0) 0 (-100006)) 1 (-100006)) 2 (-100006)) 3 (-100006)) 4 (-100006)))), (q_7, .inl (gI G, 5, .inl (upd (upd (upd (upd (upd (fun _ => 0) 0 (-100006)) 1 (-100006)) 2 (-100006)) 3 (-100006)) 4 (-100006)))), (q_8, .inl (gI G, 5, .inl (fun _ => 0))), (q_9, .inl (gI G, 5, .inl (fun _ => 0))), (q_10, .inl (gI G, 5, .inl (fun _ => 0)))]) := hD
  refine lv_aload_n hx hb dX2_init_236 rfl (lv_at hl 0 rfl) ?_
  refine lv_ldc (v := (-100006)) hx hb hown wk10 dX2_init_237 ?_
  refine va_put (D := G.1) (ci := 2) (v := .int (-100006)) (ty := .int) (C := RX2) (T := TX2) (N := 13) hx hb hts hinX2 tyX2 tyX2_ok nmX2 hown hK.1 hP hD hS 0 rfl rfl 11 (by decide) wk17 (fun _ h9 => h9) rfl (by decide +kernel) rfl rfl (Nat.le_of_ble_eq_true rfl) dX2_init_239 (fun H locs hP hD hS => ?_)
  have hP : va_P G.1 vwCl ([(q, .inr (2, [.ref q_1, .ref q_2, .ref q_3, .ref q_4, .ref q_5, .ref q_6, .ref q_7, .ref q_8, .ref q_9, .ref q_10, .int 0, .int (-100006), .int 0])), (q_1, .inl (gI G, 4, .inl (upd (upd (upd (upd (fun _ => 0) 0 1) 1 1) 2 50) 3 0))), (q_2, .inl (gI G, 5, .inl (upd (upd (upd (upd (upd (fun _ => 0) 0 5) 1 4) 2 3) 3 2) 4 1))), (q_3, .inl (gI G, 5, .inl (upd (upd (upd (upd (upd (fun _ => 0) 0 20) 1 20) 2 20) 3 20) 4 20))), (q_4, .inl (gI G, 5, .inl (upd (upd (upd (upd (upd (fun _ => 0) 0 10) 1 10) 2 10) 3 10) 4 10))), (q_5, .inl (gI G, 5, .inl (upd (upd (upd (upd (upd (fun _ => 0) 0 0) 1 1) 2 2) 3 3) 4 4))), (q_6, .inl (gI G, 5, .inl (upd (upd (upd (upd (upd (fun _ => 0) 0 (-100006)) 1 (-100006)) 2 (-100006)) 3 (-100006)) 4 (-100006)))), (q_7, .inl (gI G, 5, .inl (upd (upd (upd (upd (upd (fun _ => 0) 0 (-100006)) 1 (-100006)) 2 (-100006)) 3 (-100006)) 4 (-100006)))), (q_8, .inl (gI G, 5, .inl (fun _ => 0))), (q_9, .inl (gI G, 5, .inl (fun _ => 0))), (q_10, .inl (gI G, 5, .inl (fun _ => 0)))]) H := hP
  have hD : va_D A ([(q, .inr (2, [.ref q_1, .ref q_2, .ref q_3, .ref q_4, .ref q_5, .ref q_6, .ref q_7, .ref q_8, .ref q_9, .ref q_10, .int 0, .int (-100006), .int 0])), (q_1, .inl (gI G, 4, .inl (upd (upd (upd (upd (fun _ => 0) 0 1) 1 1) 2 50) 3 0))), (q_2, .inl (gI G, 5, .inl (upd (upd (upd (upd (upd (fun _ => 0) 0 5) 1 4) 2 3) 3 2) 4 1))), (q_3, .inl (gI G, 5, .inl (upd (upd (upd (upd (upd (fun _ => 0) 0 20) 1 20) 2 20) 3 20) 4 20))), (q_4, .inl (gI G, 5, .inl (upd (upd (upd (upd (upd (fun _ => 0) 0 10) 1 10) 2 10) 3 10) 4 10))), (q_5, .inl (gI G, 5, .inl (upd (upd (upd (upd (upd (fun _ => 0) 0 0) 1 1) 2 2) 3 3) 4 4))), (q_6, .inl (gI G, 5, .inl (upd (upd (upd (upd (upd (fun _ => 0) 0 (-100006)) 1 (-100006)) 2 (-100006)) 3 (-100006)) 4 (-100006)))), (q_7, .inl (gI G, 5, .inl (upd (upd (upd (upd (upd (fun _ => 0) 0 (-100006)) 1 (-100006)) 2 (-100006)) 3 (-100006)) 4 (-100006)))), (q_8, .inl (gI G, 5, .inl (fun _ => 0))), (q_9, .inl (gI G, 5, .inl (fun _ => 0))), (q_10, .inl (gI G, 5, .inl (fun _ => 0)))]) := hD
  refine lv_aload_n hx hb dX2_init_242 rfl (lv_at hl 0 rfl) ?_
  refine lv_iconst (v := 0) hx hb dX2_init_243 (by decide) ?_
  refine va_put (D := G.1) (ci := 2) (v := .int 0) (ty := .int) (C := RX2) (T := TX2) (N := 13) hx hb hts hinX2 tyX2 tyX2_ok nmX2 hown hK.1 hP hD hS 0 rfl rfl 12 (by decide) wk18 (fun _ h9 => h9) rfl (by decide +kernel) rfl rfl (Nat.le_of_ble_eq_true rfl) dX2_init_244 (fun H locs hP hD hS => ?_)
  have hP : va_P G.1 vwCl ([(q, .inr (2, [.ref q_1, .ref q_2, .ref q_3, .ref q_4, .ref q_5, .ref q_6, .ref q_7, .ref q_8, .ref q_9, .ref q_10, .int 0, .int (-100006), .int 0])), (q_1, .inl (gI G, 4, .inl (upd (upd (upd (upd (fun _ => 0) 0 1) 1 1) 2 50) 3 0))), (q_2, .inl (gI G, 5, .inl (upd (upd (upd (upd (upd (fun _ => 0) 0 5) 1 4) 2 3) 3 2) 4 1))), (q_3, .inl (gI G, 5, .inl (upd (upd (upd (upd (upd (fun _ => 0) 0 20) 1 20) 2 20) 3 20) 4 20))), (q_4, .inl (gI G, 5, .inl (upd (upd (upd (upd (upd (fun _ => 0) 0 10) 1 10) 2 10) 3 10) 4 10))), (q_5, .inl (gI G, 5, .inl (upd (upd (upd (upd (upd (fun _ => 0) 0 0) 1 1) 2 2) 3 3) 4 4))), (q_6, .inl (gI G, 5, .inl (upd (upd (upd (upd (upd (fun _ => 0) 0 (-100006)) 1 (-100006)) 2 (-100006)) 3 (-100006)) 4 (-100006)))), (q_7, .inl (gI G, 5, .inl (upd (upd (upd (upd (upd (fun _ => 0) 0 (-100006)) 1 (-100006)) 2 (-100006)) 3 (-100006)) 4 (-100006)))), (q_8, .inl (gI G, 5, .inl (fun _ => 0))), (q_9, .inl (gI G, 5, .inl (fun _ => 0))), (q_10, .inl (gI G, 5, .inl (fun _ => 0)))]) H := hP
  have hD : va_D A ([(q, .inr (2, [.ref q_1, .ref q_2, .ref q_3, .ref q_4, .ref q_5, .ref q_6, .ref q_7, .ref q_8, .ref q_9, .ref q_10, .int 0, .int (-100006), .int 0])), (q_1, .inl (gI G, 4, .inl (upd (upd (upd (upd (fun _ => 0) 0 1) 1 1) 2 50) 3 0))), (q_2, .inl (gI G, 5, .inl (upd (upd (upd (upd (upd (fun _ => 0) 0 5) 1 4) 2 3) 3 2) 4 1))), (q_3, .inl (gI G, 5, .inl (upd (upd (upd (upd (upd (fun _ => 0) 0 20) 1 20) 2 20) 3 20) 4 20))), (q_4, .inl (gI G, 5, .inl (upd (upd (upd (upd (upd (fun _ => 0) 0 10) 1 10) 2 10) 3 10) 4 10))), (q_5, .inl (gI G, 5, .inl (upd (upd (upd (upd (upd (fun _ => 0) 0 0) 1 1) 2 2) 3 3) 4 4))), (q_6, .inl (gI G, 5, .inl (upd (upd (upd (upd (upd (fun _ => 0) 0 (-100006)) 1 (-100006)) 2 (-100006)) 3 (-100006)) 4 (-100006)))), (q_7, .inl (gI G, 5, .inl (upd (upd (upd (upd (upd (fun _ => 0) 0 (-100006)) 1 (-100006)) 2 (-100006)) 3 (-100006)) 4 (-100006)))), (q_8, .inl (gI G, 5, .inl (fun _ => 0))), (q_9, .inl (gI G, 5, .inl (fun _ => 0))), (q_10, .inl (gI G, 5, .inl (fun _ => 0)))]) := hD
  exact hret _ _ _ _ (fun i => [q, q_1, q_2, q_3, q_4, q_5, q_6, q_7, q_8, q_9, q_10].getD i 0) rfl hP hD hS dX2_init_247
set_option maxHeartbeats 4000000 in
set_option maxRecDepth 100000 in
theorem c_X1_init (l : Launch) (G : qG) (q : Nat) (sz : Nat) : Met l yX1_init wsX1_init { frames := 1, cells := 1, slots := 60, locals := 12 } (PW G sz [.ref q] ([(q, .inr (1, [.null, .int 0]))])) (QV (S := Nat → Nat) G sz ([(q, .inr (1, [.null, .int 0]))]) (fun u => u 0 = q) (fun u => pw G u (fun _ => 0) (nI 0))) 1 60 (va_A ([(q, .inr (1, [.null, .int 0]))]) sz) := by
  refine MV.of' (by decide) rfl (Nat.le_of_ble_eq_true rfl) ?_
  intro p e s m below meth c hx hb hml hown hts hK hsz hP A hAe hA hD hS hmn Q hret ls hl
  have hown : s.vm.findClass RX1 = some m.cls := hown
  have hl : lv_has ls 1 [(0, .ref q)] := hl
  have wk1 := hts (Cond.methodLink RX1 3 objectInit) (List.mem_of_getElem? (i := 1) rfl)
  have wk2 := hts (Cond.instanceMethod objectInit) (List.mem_of_getElem? (i := 2) rfl)
  have wk3 := hts (Cond.code objectInit ⟨#[0xb1]⟩ 1 none) (List.mem_of_getElem? (i := 3) rfl)
  have wk4 := hts (Cond.arrayClass .char) (List.mem_of_getElem? (i := 4) rfl)
  have wk5 := hts (Cond.fieldLink RX1 9 "TurnBids$Pad" "signs" "[C") (List.mem_of_getElem? (i := 5) rfl)
  have wk6 := hts (Cond.fieldLink RX1 15 "TurnBids$Pad" "length" "I") (List.mem_of_getElem? (i := 6) rfl)
  have hinX1 : ∀ w ∈ wsX10, w ∈ wsX1_init := fun _ h => (List.mem_cons_of_mem _ (List.mem_append_right _ h))
  refine lv_aload_n hx hb dX1_init_0 rfl (lv_at hl 0 rfl) ?_
  refine W.objInit hx hb hown wk1 wk2 wk3 rfl (by rw [hml]; exact hl.1) rfl dX1_init_1 (Nat.le_of_ble_eq_true rfl) (Nat.le_of_ble_eq_true rfl) ?_
  refine W.eq (g2 := F0 m 4 ls []) rfl ?_
  refine lv_aload_n hx hb dX1_init_4 rfl (lv_at hl 0 rfl) ?_
  refine lv_bipush (v := 60) hx hb dX1_init_5 (by decide) ?_
  refine qnewc hx hb wk4 hK hP hD hS hA (N' := 60) (by decide +kernel) (by decide +kernel) (Nat.le_of_ble_eq_true rfl) (Nat.le_of_ble_eq_true rfl) (Nat.le_of_ble_eq_true rfl) dX1_init_7 (fun q_1 H hP hD hS => ?_)
  have hP : va_P G.1 vwCl ([(q, .inr (1, [.null, .int 0])), (q_1, .inl (gC G, 60, .inl (fun _ => 0)))]) H := hP
  have hD : va_D A ([(q, .inr (1, [.null, .int 0])), (q_1, .inl (gC G, 60, .inl (fun _ => 0)))]) := hD
  refine va_putF (D := G.1) (ci := 1) (v := .ref q_1) (ty := .array .char) (C := RX1) (T := TX1) (N := 2) hx hb hts hinX1 tyX1 tyX1_ok nmX1 hown hK.1 hP hD hS 0 rfl rfl 0 (by decide) wk5 (fun _ h9 => h9) rfl hmn rfl (by decide +kernel) rfl rfl (Nat.le_of_ble_eq_true rfl) dX1_init_9 (fun H locs hP hD hS => ?_)
  have hP : va_P G.1 vwCl ([(q, .inr (1, [.ref q_1, .int 0])), (q_1, .inl (gC G, 60, .inl (fun _ => 0)))]) H := hP
  have hD : va_D A ([(q, .inr (1, [.ref q_1, .int 0])), (q_1, .inl (gC G, 60, .inl (fun _ => 0)))]) := hD
  refine lv_aload_n hx hb dX1_init_12 rfl (lv_at hl 0 rfl) ?_
  refine lv_iconst (v := 0) hx hb dX1_init_13 (by decide) ?_
  refine va_put (D := G.1) (ci := 1) (v := .int 0) (ty := .int) (C := RX1) (T := TX1) (N := 2) hx hb hts hinX1 tyX1 tyX1_ok nmX1 hown hK.1 hP hD hS 0 rfl rfl 1 (by decide) wk6 (fun _ h9 => h9) rfl (by decide +kernel) rfl rfl (Nat.le_of_ble_eq_true rfl) dX1_init_14 (fun H locs hP hD hS => ?_)
  have hP : va_P G.1 vwCl ([(q, .inr (1, [.ref q_1, .int 0])), (q_1, .inl (gC G, 60, .inl (fun _ => 0)))]) H := hP
  have hD : va_D A ([(q, .inr (1, [.ref q_1, .int 0])), (q_1, .inl (gC G, 60, .inl (fun _ => 0)))]) := hD
  exact hret _ _ _ _ (fun i => [q, q_1].getD i 0) rfl hP hD hS dX1_init_17
set_option maxHeartbeats 4000000 in
set_option maxRecDepth 100000 in
theorem c_X0_init (l : Launch) (G : qG) (q : Nat) (sz : Nat) : Met l yX0_init wsX0_init { frames := 1, cells := 1, slots := 6, locals := 12 } (PW G sz [.ref q] ([(q, .inr (0, [.null, .int 0, .int 0]))])) (QV (S := Nat → Nat) G sz ([(q, .inr (0, [.null, .int 0, .int 0]))]) (fun u => u 0 = q) (fun u => hw G u 0 0 (fun _ => none))) 1 6 (va_A ([(q, .inr (0, [.null, .int 0, .int 0]))]) sz) := by
  refine MV.of' (by decide) rfl (Nat.le_of_ble_eq_true rfl) ?_
  intro p e s m below meth c hx hb hml hown hts hK hsz hP A hAe hA hD hS hmn Q hret ls hl
  have hown : s.vm.findClass RX0 = some m.cls := hown
  have hl : lv_has ls 1 [(0, .ref q)] := hl
  have wk1 := hts (Cond.methodLink RX0 3 objectInit) (List.mem_of_getElem? (i := 1) rfl)
  have wk2 := hts (Cond.instanceMethod objectInit) (List.mem_of_getElem? (i := 2) rfl)
  have wk3 := hts (Cond.code objectInit ⟨#[0xb1]⟩ 1 none) (List.mem_of_getElem? (i := 3) rfl)
  have wk4 := hts (Cond.classLink RX0 9 RX2) (List.mem_of_getElem? (i := 4) rfl)
  have wk5 := hts (Cond.fieldLink RX0 11 "TurnBids$History" "states" "[LTurnBids$Table;") (List.mem_of_getElem? (i := 5) rfl)
  have wk6 := hts (Cond.fieldLink RX0 17 "TurnBids$History" "next" "I") (List.mem_of_getElem? (i := 6) rfl)
  have wk7 := hts (Cond.fieldLink RX0 21 "TurnBids$History" "length" "I") (List.mem_of_getElem? (i := 7) rfl)
  have hinX0 : ∀ w ∈ wsX00, w ∈ wsX0_init := fun _ h => (List.mem_cons_of_mem _ (List.mem_append_right _ h))
  refine lv_aload_n hx hb dX0_init_0 rfl (lv_at hl 0 rfl) ?_
  refine W.objInit hx hb hown wk1 wk2 wk3 rfl (by rw [hml]; exact hl.1) rfl dX0_init_1 (Nat.le_of_ble_eq_true rfl) (Nat.le_of_ble_eq_true rfl) ?_
  refine W.eq (g2 := F0 m 4 ls []) rfl ?_
  refine lv_aload_n hx hb dX0_init_4 rfl (lv_at hl 0 rfl) ?_
  refine lv_bipush (v := 6) hx hb dX0_init_5 (by decide) ?_
  refine qnewq hx hb hown wk4 hK hP hD hS hA (N' := 6) (by decide +kernel) (by decide +kernel) (Nat.le_of_ble_eq_true rfl) (Nat.le_of_ble_eq_true rfl) (Nat.le_of_ble_eq_true rfl) dX0_init_7 (fun q_1 H hP hD hS => ?_)
  have hP : va_P G.1 vwCl ([(q, .inr (0, [.null, .int 0, .int 0])), (q_1, .inl (gR G, 6, .inr (.inr (.inr (.inr (fun _ => none))))))]) H := hP
  have hD : va_D A ([(q, .inr (0, [.null, .int 0, .int 0])), (q_1, .inl (gR G, 6, .inr (.inr (.inr (.inr (fun _ => none))))))]) := hD
  refine va_putF (D := G.1) (ci := 0) (v := .ref q_1) (ty := .array (.object RX2)) (C := RX0) (T := TX0) (N := 3) hx hb hts hinX0 tyX0 tyX0_ok nmX0 hown hK.1 hP hD hS 0 rfl rfl 0 (by decide) wk5 (fun _ h9 => h9) rfl hmn rfl (by decide +kernel) rfl rfl (Nat.le_of_ble_eq_true rfl) dX0_init_10 (fun H locs hP hD hS => ?_)
  have hP : va_P G.1 vwCl ([(q, .inr (0, [.ref q_1, .int 0, .int 0])), (q_1, .inl (gR G, 6, .inr (.inr (.inr (.inr (fun _ => none))))))]) H := hP
  have hD : va_D A ([(q, .inr (0, [.ref q_1, .int 0, .int 0])), (q_1, .inl (gR G, 6, .inr (.inr (.inr (.inr (fun _ => none))))))]) := hD
  refine lv_aload_n hx hb dX0_init_13 rfl (lv_at hl 0 rfl) ?_
  refine lv_iconst (v := 0) hx hb dX0_init_14 (by decide) ?_
  refine va_put (D := G.1) (ci := 0) (v := .int 0) (ty := .int) (C := RX0) (T := TX0) (N := 3) hx hb hts hinX0 tyX0 tyX0_ok nmX0 hown hK.1 hP hD hS 0 rfl rfl 1 (by decide) wk6 (fun _ h9 => h9) rfl (by decide +kernel) rfl rfl (Nat.le_of_ble_eq_true rfl) dX0_init_15 (fun H locs hP hD hS => ?_)
  have hP : va_P G.1 vwCl ([(q, .inr (0, [.ref q_1, .int 0, .int 0])), (q_1, .inl (gR G, 6, .inr (.inr (.inr (.inr (fun _ => none))))))]) H := hP
  have hD : va_D A ([(q, .inr (0, [.ref q_1, .int 0, .int 0])), (q_1, .inl (gR G, 6, .inr (.inr (.inr (.inr (fun _ => none))))))]) := hD
  refine lv_aload_n hx hb dX0_init_18 rfl (lv_at hl 0 rfl) ?_
  refine lv_iconst (v := 0) hx hb dX0_init_19 (by decide) ?_
  refine va_put (D := G.1) (ci := 0) (v := .int 0) (ty := .int) (C := RX0) (T := TX0) (N := 3) hx hb hts hinX0 tyX0 tyX0_ok nmX0 hown hK.1 hP hD hS 0 rfl rfl 2 (by decide) wk7 (fun _ h9 => h9) rfl (by decide +kernel) rfl rfl (Nat.le_of_ble_eq_true rfl) dX0_init_20 (fun H locs hP hD hS => ?_)
  have hP : va_P G.1 vwCl ([(q, .inr (0, [.ref q_1, .int 0, .int 0])), (q_1, .inl (gR G, 6, .inr (.inr (.inr (.inr (fun _ => none))))))]) H := hP
  have hD : va_D A ([(q, .inr (0, [.ref q_1, .int 0, .int 0])), (q_1, .inl (gR G, 6, .inr (.inr (.inr (.inr (fun _ => none))))))]) := hD
  exact hret _ _ _ _ (fun i => [q, q_1].getD i 0) rfl hP hD hS dX0_init_23
def iniZ : Nat → Int32 := upd (upd (upd (upd (upd (upd (upd (upd (upd (upd (upd (upd (upd (upd (upd (upd (upd (upd (upd (upd (upd (upd (upd (fun _ => 0) 0 1) 1 1) 2 50) 8 20) 13 10) 18 0) 48 5) 9 20) 14 10) 19 1) 49 4) 10 20) 15 10) 20 2) 50 3) 11 20) 16 10) 21 3) 51 2) 12 20) 17 10) 22 4) 52 1
set_option maxHeartbeats 4000000 in
set_option maxRecDepth 100000 in
theorem c_X1_isDigit (l : Launch) (G : qG) (x : Int32) : MP l yX1_isDigit wsX1_isDigit 0 0 G [.int x] ([]) (digB x) := by
  refine MP.of (ty := .boolean) (by decide) rfl (Nat.le_of_ble_eq_true rfl) (digB_nar x) ?_
  intro p e s m below meth c hx hb hml hown hts hK hP Q hret ls hl
  have hown : s.vm.findClass RX1 = some m.cls := hown
  have hl : lv_has ls 1 [(0, .int x)] := hl
  refine lv_iload_n hx hb dX1_isDigit_0 rfl (lv_at hl 0 rfl) ?_
  refine lv_bipush (v := 48) hx hb dX1_isDigit_1 (by decide) ?_
  refine lv_icmp_lt (tgt := 16) hx hb dX1_isDigit_3 (by decide) (fun c_3_1 => ?_) (fun c_3_1 => ?_)
  · refine lv_iconst (v := 0) hx hb dX1_isDigit_16 (by decide) ?_
    exact hret _ _ _ (by simp only [digB, if_pos c_3_1]) dX1_isDigit_17
  · refine lv_iload_n hx hb dX1_isDigit_6 rfl (lv_at hl 0 rfl) ?_
    refine lv_bipush (v := 57) hx hb dX1_isDigit_7 (by decide) ?_
    refine lv_icmp_gt (tgt := 16) hx hb dX1_isDigit_9 (by decide) (fun c_9_2 => ?_) (fun c_9_2 => ?_)
    · refine lv_iconst (v := 0) hx hb dX1_isDigit_16 (by decide) ?_
      exact hret _ _ _ (by simp only [digB, if_neg c_3_1, if_pos c_9_2]) dX1_isDigit_17
    · refine lv_iconst (v := 1) hx hb dX1_isDigit_12 (by decide) ?_
      refine lv_goto (tgt := 17) hx hb dX1_isDigit_13 (by decide) ?_
      exact hret _ _ _ (by simp only [digB, if_neg c_3_1, if_neg c_9_2]) dX1_isDigit_17
set_option maxHeartbeats 4000000 in
set_option maxRecDepth 100000 in
theorem c_X1_signAt (l : Launch) (G : qG) (a : Nat → Nat) (ps : Nat → Int32) (ln x : Int32) (hps : chs ps) : MP l yX1_signAt wsX1_signAt 0 0 G [.ref (a 0), .int x] (pw G a ps ln) (saB ps x) := by
  refine MP.of (ty := .char) (by decide) rfl (Nat.le_of_ble_eq_true rfl) (chs_nar hps x) ?_
  intro p e s m below meth c hx hb hml hown hts hK hP Q hret ls hl
  have hown : s.vm.findClass RX1 = some m.cls := hown
  have hl : lv_has ls 2 [(0, .ref (a 0)), (1, .int x)] := hl
  have wk1 := hts (Cond.fieldLink RX1 9 "TurnBids$Pad" "signs" "[C") (List.mem_of_getElem? (i := 1) rfl)
  have hinX1 : ∀ w ∈ wsX10, w ∈ wsX1_signAt := fun _ h => (List.mem_cons_of_mem _ (List.mem_append_right _ h))
  refine lv_iload_n hx hb dX1_signAt_0 rfl (lv_at hl 1 rfl) ?_
  refine lv_if_lt (tgt := 19) hx hb dX1_signAt_1 (by decide) (fun c_1_1 => ?_) (fun c_1_1 => ?_)
  · refine lv_bipush (v := 44) hx hb dX1_signAt_19 (by decide) ?_
    exact hret _ _ _ (by simp only [saB, if_pos c_1_1]) dX1_signAt_21
  · refine lv_iload_n hx hb dX1_signAt_4 rfl (lv_at hl 1 rfl) ?_
    refine lv_bipush (v := 60) hx hb dX1_signAt_5 (by decide) ?_
    refine lv_icmp_ge (tgt := 19) hx hb dX1_signAt_7 (by decide) (fun c_7_2 => ?_) (fun c_7_2 => ?_)
    · refine lv_bipush (v := 44) hx hb dX1_signAt_19 (by decide) ?_
      exact hret _ _ _ (by simp only [saB, if_neg c_1_1, if_pos c_7_2]) dX1_signAt_21
    · have hin9 : vp_in x 60 := vp_in_60 c_1_1 c_7_2
      refine lv_aload_n hx hb dX1_signAt_10 rfl (lv_at hl 0 rfl) ?_
      refine va_get (D := G.1) (ci := 1) (v := .ref (a 1)) (C := RX1) (T := TX1) (N := 2) hx hb hts hinX1 hown hK.1 hP 0 rfl rfl 0 (by decide) wk1 (fun _ h9 => h9) rfl dX1_signAt_11 ?_
      refine lv_iload_n hx hb dX1_signAt_14 rfl (lv_at hl 1 rfl) ?_
      refine qcld hx hb hK.1 hP 1 1 rfl rfl (k := ix x) rfl (by assumption) dX1_signAt_15 ?_
      refine lv_goto (tgt := 21) hx hb dX1_signAt_16 (by decide) ?_
      exact hret _ _ _ (by simp only [saB, if_neg c_1_1, if_neg c_7_2]) dX1_signAt_21
set_option maxHeartbeats 4000000 in
set_option maxRecDepth 100000 in
theorem c_X1_dueBehind (l : Launch) (G : qG) (x y : Int32) : MP l yX1_dueBehind wsX1_dueBehind 1 20 G [.int x, .int y] ([]) (duB x y) := by
  refine MP.of (ty := .int) (by decide) rfl (Nat.le_of_ble_eq_true rfl) rfl ?_
  intro p e s m below meth c hx hb hml hown hts hK hP Q hret ls hl
  have hown : s.vm.findClass RX1 = some m.cls := hown
  have hl : lv_has ls 2 [(0, .int x), (1, .int y)] := hl
  have wk1 := hts (Cond.methodLink RX1 34 yX1_isDigit) (List.mem_of_getElem? (i := 1) rfl)
  refine lv_iload_n hx hb dX1_dueBehind_0 rfl (lv_at hl 0 rfl) ?_
  refine lv_iconst (v := (-1)) hx hb dX1_dueBehind_1 (by decide) ?_
  refine lv_icmp_eq (tgt := 33) hx hb dX1_dueBehind_2 (by decide) (fun c_2_1 => ?_) (fun c_2_1 => ?_)
  · refine lv_iload_n hx hb dX1_dueBehind_33 rfl (lv_at hl 1 rfl) ?_
    refine lv_bipush (v := 43) hx hb dX1_dueBehind_34 (by decide) ?_
    refine lv_icmp_eq (tgt := 63) hx hb dX1_dueBehind_36 (by decide) (fun c_36_2 => ?_) (fun c_36_2 => ?_)
    · refine lv_iconst (v := 0) hx hb dX1_dueBehind_63 (by decide) ?_
      exact hret _ _ _ (by simp only [duB, if_pos c_2_1, if_pos c_36_2]) dX1_dueBehind_64
    · refine lv_iload_n hx hb dX1_dueBehind_39 rfl (lv_at hl 1 rfl) ?_
      refine lv_bipush (v := 45) hx hb dX1_dueBehind_40 (by decide) ?_
      refine lv_icmp_eq (tgt := 63) hx hb dX1_dueBehind_42 (by decide) (fun c_42_3 => ?_) (fun c_42_3 => ?_)
      · refine lv_iconst (v := 0) hx hb dX1_dueBehind_63 (by decide) ?_
        exact hret _ _ _ (by simp only [duB, if_pos c_2_1, if_neg c_36_2, if_pos c_42_3]) dX1_dueBehind_64
      · refine lv_iload_n hx hb dX1_dueBehind_45 rfl (lv_at hl 1 rfl) ?_
        refine lv_bipush (v := 42) hx hb dX1_dueBehind_46 (by decide) ?_
        refine lv_icmp_eq (tgt := 63) hx hb dX1_dueBehind_48 (by decide) (fun c_48_4 => ?_) (fun c_48_4 => ?_)
        · refine lv_iconst (v := 0) hx hb dX1_dueBehind_63 (by decide) ?_
          exact hret _ _ _ (by simp only [duB, if_pos c_2_1, if_neg c_36_2, if_neg c_42_3, if_pos c_48_4]) dX1_dueBehind_64
        · refine lv_iload_n hx hb dX1_dueBehind_51 rfl (lv_at hl 1 rfl) ?_
          refine lv_bipush (v := 33) hx hb dX1_dueBehind_52 (by decide) ?_
          refine lv_icmp_eq (tgt := 63) hx hb dX1_dueBehind_54 (by decide) (fun c_54_5 => ?_) (fun c_54_5 => ?_)
          · refine lv_iconst (v := 0) hx hb dX1_dueBehind_63 (by decide) ?_
            exact hret _ _ _ (by simp only [duB, if_pos c_2_1, if_neg c_36_2, if_neg c_42_3, if_neg c_48_4, if_pos c_54_5]) dX1_dueBehind_64
          · refine lv_iload_n hx hb dX1_dueBehind_57 rfl (lv_at hl 1 rfl) ?_
            refine lv_bipush (v := 48) hx hb dX1_dueBehind_58 (by decide) ?_
            refine lv_icmp_ne (tgt := 65) hx hb dX1_dueBehind_60 (by decide) (fun c_60_6 => ?_) (fun c_60_6 => ?_)
            · refine lv_iload_n hx hb dX1_dueBehind_65 rfl (lv_at hl 1 rfl) ?_
              refine cPS (As := [.int y]) (rest := []) ⟨hx, hb, hml, hown, hts⟩ (c_X1_isDigit l G y) (cwS 1 hts gX1_dueBehind_X1_isDigit rfl rfl rfl (by decide +kernel) ⟨Nat.le_of_ble_eq_true rfl, Nat.le_of_ble_eq_true rfl⟩) hK (fun k q h => by simp at h) rfl rfl hl.1 (Nat.le_of_ble_eq_true rfl) dX1_dueBehind_66 ⟨Nat.le_of_ble_eq_true rfl, Nat.le_of_ble_eq_true rfl⟩ ?_
              refine lv_if_eq (tgt := 76) hx hb dX1_dueBehind_69 (by decide) (fun c_69_7 => ?_) (fun c_69_7 => ?_)
              · refine lv_bipush (v := (-2)) hx hb dX1_dueBehind_76 (by decide) ?_
                exact hret _ _ _ (by simp only [duB, if_pos c_2_1, if_neg c_36_2, if_neg c_42_3, if_neg c_48_4, if_neg c_54_5, if_neg c_60_6, if_pos c_69_7]) dX1_dueBehind_78
              · refine lv_iconst (v := 3) hx hb dX1_dueBehind_72 (by decide) ?_
                refine lv_goto (tgt := 78) hx hb dX1_dueBehind_73 (by decide) ?_
                exact hret _ _ _ (by simp only [duB, if_pos c_2_1, if_neg c_36_2, if_neg c_42_3, if_neg c_48_4, if_neg c_54_5, if_neg c_60_6, if_neg c_69_7]) dX1_dueBehind_78
            · refine lv_iconst (v := 0) hx hb dX1_dueBehind_63 (by decide) ?_
              exact hret _ _ _ (by simp only [duB, if_pos c_2_1, if_neg c_36_2, if_neg c_42_3, if_neg c_48_4, if_neg c_54_5, if_pos c_60_6]) dX1_dueBehind_64
  · refine lv_iload_n hx hb dX1_dueBehind_5 rfl (lv_at hl 1 rfl) ?_
    refine lv_bipush (v := 44) hx hb dX1_dueBehind_6 (by decide) ?_
    refine lv_icmp_ne (tgt := 13) hx hb dX1_dueBehind_8 (by decide) (fun c_8_8 => ?_) (fun c_8_8 => ?_)
    · refine lv_iload_n hx hb dX1_dueBehind_13 rfl (lv_at hl 0 rfl) ?_
      refine lv_if_le (tgt := 30) hx hb dX1_dueBehind_14 (by decide) (fun c_14_9 => ?_) (fun c_14_9 => ?_)
      · refine lv_bipush (v := (-2)) hx hb dX1_dueBehind_30 (by decide) ?_
        exact hret _ _ _ (by simp only [duB, if_neg c_2_1, if_neg c_8_8, if_pos c_14_9]) dX1_dueBehind_32
      · refine lv_iload_n hx hb dX1_dueBehind_17 rfl (lv_at hl 1 rfl) ?_
        refine cPS (As := [.int y]) (rest := []) ⟨hx, hb, hml, hown, hts⟩ (c_X1_isDigit l G y) (cwS 1 hts gX1_dueBehind_X1_isDigit rfl rfl rfl (by decide +kernel) ⟨Nat.le_of_ble_eq_true rfl, Nat.le_of_ble_eq_true rfl⟩) hK (fun k q h => by simp at h) rfl rfl hl.1 (Nat.le_of_ble_eq_true rfl) dX1_dueBehind_18 ⟨Nat.le_of_ble_eq_true rfl, Nat.le_of_ble_eq_true rfl⟩ ?_
        refine lv_if_eq (tgt := 30) hx hb dX1_dueBehind_21 (by decide) (fun c_21_10 => ?_) (fun c_21_10 => ?_)
        · refine lv_bipush (v := (-2)) hx hb dX1_dueBehind_30 (by decide) ?_
          exact hret _ _ _ (by simp only [duB, if_neg c_2_1, if_neg c_8_8, if_neg c_14_9, if_pos c_21_10]) dX1_dueBehind_32
        · refine lv_iload_n hx hb dX1_dueBehind_24 rfl (lv_at hl 0 rfl) ?_
          refine lv_iconst (v := 1) hx hb dX1_dueBehind_25 (by decide) ?_
          refine lv_isub hx hb dX1_dueBehind_26 ?_
          refine lv_goto (tgt := 32) hx hb dX1_dueBehind_27 (by decide) ?_
          exact hret _ _ _ (by simp only [duB, if_neg c_2_1, if_neg c_8_8, if_neg c_14_9, if_neg c_21_10]) dX1_dueBehind_32
    · refine lv_iconst (v := (-1)) hx hb dX1_dueBehind_11 (by decide) ?_
      exact hret _ _ _ (by simp only [duB, if_neg c_2_1, if_pos c_8_8]) dX1_dueBehind_12
set_option maxHeartbeats 4000000 in
set_option maxRecDepth 100000 in
theorem c_X1_faultIndex (l : Launch) (G : qG) (a : Nat → Nat) (ps : Nat → Int32) (t : Nat) (ht : t ≤ 60) (hps : chs ps) : MP l yX1_faultIndex wsX1_faultIndex 2 41 G [.ref (a 0)] (pw G a ps (nI t)) (fqC ps t) := by
  refine MP.of (ty := .int) (by decide) rfl (Nat.le_of_ble_eq_true rfl) rfl ?_
  intro p e s m below meth c hx hb hml hown hts hK hP Q hret ls hl
  have hown : s.vm.findClass RX1 = some m.cls := hown
  have hl : lv_has ls 3 [(0, .ref (a 0))] := hl
  have wk1 := hts (Cond.fieldLink RX1 15 "TurnBids$Pad" "length" "I") (List.mem_of_getElem? (i := 1) rfl)
  have wk2 := hts (Cond.constant RX1 33 (-100006)) (List.mem_of_getElem? (i := 2) rfl)
  have wk3 := hts (Cond.methodLink RX1 25 yX1_signAt) (List.mem_of_getElem? (i := 3) rfl)
  have wk9 := hts (Cond.methodLink RX1 29 yX1_dueBehind) (List.mem_of_getElem? (i := 9) rfl)
  have hinX1 : ∀ w ∈ wsX10, w ∈ wsX1_faultIndex := fun _ h => (List.mem_cons_of_mem _ (List.mem_append_right _ h))
  refine lv_iconst (v := (-1)) hx hb dX1_faultIndex_0 (by decide) ?_
  refine lv_istore_n (lv' := [(1, .int (-1)), (0, .ref (a 0))]) hx hb dX1_faultIndex_1 rfl hl (by decide) rfl (fun ls hl => ?_)
  refine lv_iconst (v := 0) hx hb dX1_faultIndex_2 (by decide) ?_
  refine lv_istore_n (lv' := [(2, .int 0), (1, .int (-1)), (0, .ref (a 0))]) hx hb dX1_faultIndex_3 rfl hl (by decide) rfl (fun ls hl => ?_)
  have L4 : ∀ (f i : Nat) (d : Int32), i + f = t → fqL ps f i d = fqC ps t → ∀ ls : Array Slot, lv_has ls 3 [(2, .int (nI i)), (1, .int d), (0, .ref (a 0))] → W p l e { frames := 2, cells := 0, slots := 0, locals := 41 } s m ([.ref (a 0)] : List Value).toArray below meth c s.heap [] 0 0 Q (F0 m 4 ls []) := by
    intro f
    induction f with
    | zero =>
      intro i d hi hv4 ls hl
      have hN : i = t := by omega
      refine lv_iload_n hx hb dX1_faultIndex_4 rfl (lv_at hl 0 rfl) ?_
      refine lv_aload_n hx hb dX1_faultIndex_5 rfl (lv_at hl 2 rfl) ?_
      refine va_get (D := G.1) (ci := 1) (v := .int (nI t)) (C := RX1) (T := TX1) (N := 2) hx hb hts hinX1 hown hK.1 hP 0 rfl rfl 1 (by decide) wk1 (fun _ h9 => h9) rfl dX1_faultIndex_6 ?_
      refine lv_icmp_ge (tgt := 36) hx hb dX1_faultIndex_9 (by decide) (fun _ => ?_) (fun c_9 => absurd (nI_le (a := t) (b := i) (by omega) (by omega)) c_9)
      refine lv_iload_n hx hb dX1_faultIndex_36 rfl (lv_at hl 1 rfl) ?_
      refine lv_iconst (v := (-1)) hx hb dX1_faultIndex_37 (by decide) ?_
      refine lv_icmp_ne (tgt := 48) hx hb dX1_faultIndex_38 (by decide) (fun c_38_1 => ?_) (fun c_38_1 => ?_)
      · refine lv_ldc (v := (-100006)) hx hb hown wk2 dX1_faultIndex_48 ?_
        exact hret _ _ _ (by rw [← hv4]; subst hN; simp only [fqL, if_neg c_38_1]) dX1_faultIndex_50
      · refine lv_aload_n hx hb dX1_faultIndex_41 rfl (lv_at hl 2 rfl) ?_
        refine va_get (D := G.1) (ci := 1) (v := .int (nI t)) (C := RX1) (T := TX1) (N := 2) hx hb hts hinX1 hown hK.1 hP 0 rfl rfl 1 (by decide) wk1 (fun _ h9 => h9) rfl dX1_faultIndex_42 ?_
        refine lv_goto (tgt := 50) hx hb dX1_faultIndex_45 (by decide) ?_
        exact hret _ _ _ (by rw [← hv4]; subst hN; simp only [fqL, if_pos c_38_1]) dX1_faultIndex_50
    | succ f ih =>
      intro i d hi hv4 ls hl
      have hlt : i < t := by omega
      refine lv_iload_n hx hb dX1_faultIndex_4 rfl (lv_at hl 0 rfl) ?_
      refine lv_aload_n hx hb dX1_faultIndex_5 rfl (lv_at hl 2 rfl) ?_
      refine va_get (D := G.1) (ci := 1) (v := .int (nI t)) (C := RX1) (T := TX1) (N := 2) hx hb hts hinX1 hown hK.1 hP 0 rfl rfl 1 (by decide) wk1 (fun _ h9 => h9) rfl dX1_faultIndex_6 ?_
      refine lv_icmp_ge (tgt := 36) hx hb dX1_faultIndex_9 (by decide) (fun c_9 => absurd c_9 (nI_ge (b := t) hlt (by omega))) (fun _ => ?_)
      refine lv_iload_n hx hb dX1_faultIndex_12 rfl (lv_at hl 1 rfl) ?_
      refine lv_aload_n hx hb dX1_faultIndex_13 rfl (lv_at hl 2 rfl) ?_
      refine lv_iload_n hx hb dX1_faultIndex_14 rfl (lv_at hl 0 rfl) ?_
      refine cPV (As := [.int (nI i)]) (rest := [.int d]) ⟨hx, hb, hml, hown, hts⟩ (c_X1_signAt l G a ps (nI t) (nI i) hps) (cwV 1 hts gX1_faultIndex_X1_signAt rfl rfl rfl (by decide +kernel) ⟨Nat.le_of_ble_eq_true rfl, Nat.le_of_ble_eq_true rfl⟩) hK hP 0 (ci := 1) rfl rfl rfl rfl rfl hl.1 (Nat.le_of_ble_eq_true rfl) dX1_faultIndex_15 ⟨Nat.le_of_ble_eq_true rfl, Nat.le_of_ble_eq_true rfl⟩ ?_
      refine cPS (As := [.int d, .int (saB ps (nI i))]) (rest := []) ⟨hx, hb, hml, hown, hts⟩ (c_X1_dueBehind l G d (saB ps (nI i))) (cwS 2 hts gX1_faultIndex_X1_dueBehind rfl rfl rfl (by decide +kernel) ⟨Nat.le_of_ble_eq_true rfl, Nat.le_of_ble_eq_true rfl⟩) hK (fun k q h => by simp at h) rfl rfl hl.1 (Nat.le_of_ble_eq_true rfl) dX1_faultIndex_18 ⟨Nat.le_of_ble_eq_true rfl, Nat.le_of_ble_eq_true rfl⟩ ?_
      refine lv_istore_n (lv' := [(1, .int (duB d (saB ps (nI i)))), (2, .int (nI i)), (0, .ref (a 0))]) hx hb dX1_faultIndex_21 rfl hl (by decide) rfl (fun ls hl => ?_)
      refine lv_iload_n hx hb dX1_faultIndex_22 rfl (lv_at hl 0 rfl) ?_
      refine lv_bipush (v := (-2)) hx hb dX1_faultIndex_23 (by decide) ?_
      refine lv_icmp_ne (tgt := 30) hx hb dX1_faultIndex_25 (by decide) (fun c_25_2 => ?_) (fun c_25_2 => ?_)
      · refine lv_iinc (v := nI (i + 1)) (lv' := [(2, .int (nI (i + 1))), (1, .int (duB d (saB ps (nI i)))), (0, .ref (a 0))]) hx hb dX1_faultIndex_30 hl (k := 1) rfl (nI_1 _) (by decide) rfl (fun ls hl => ?_)
        refine lv_goto (tgt := 4) hx hb dX1_faultIndex_33 (by decide) ?_
        exact ih (i + 1) (duB d (saB ps (nI i))) (by omega) (by rw [← hv4]; simp only [fqC, Nat.sub_zero, fqL, if_neg c_25_2]) ls (lv_sub hl [0, 1, 2] rfl)
      · refine lv_iload_n hx hb dX1_faultIndex_28 rfl (lv_at hl 1 rfl) ?_
        exact hret _ _ _ (by rw [← hv4]; simp only [fqC, Nat.sub_zero, fqL, if_pos c_25_2]) dX1_faultIndex_29
  exact L4 (t - 0) 0 (-1) (by omega) (by simp only [fqC, Nat.sub_zero]) ls (lv_sub hl [0, 1, 2] rfl)
set_option maxHeartbeats 4000000 in
set_option maxRecDepth 100000 in
theorem c_X3_sum (l : Launch) (G : qG) (a : Nat) (g : Nat → Int32) : MP l yX3_sum wsX3_sum 0 0 G [.ref a] ([(a, .inl (gI G, 5, .inl g))]) (sqC g) := by
  refine MP.of (ty := .int) (by decide) rfl (Nat.le_of_ble_eq_true rfl) rfl ?_
  intro p e s m below meth c hx hb hml hown hts hK hP Q hret ls hl
  have hown : s.vm.findClass RX3 = some m.cls := hown
  have hl : lv_has ls 6 [(0, .ref a)] := hl
  refine lv_iconst (v := 0) hx hb dX3_sum_0 (by decide) ?_
  refine lv_istore_n (lv' := [(1, .int 0), (0, .ref a)]) hx hb dX3_sum_1 rfl hl (by decide) rfl (fun ls hl => ?_)
  refine lv_aload_n hx hb dX3_sum_2 rfl (lv_at hl 1 rfl) ?_
  refine lv_astore_n (lv' := [(2, .ref a), (1, .int 0), (0, .ref a)]) hx hb dX3_sum_3 rfl hl (by decide) rfl (fun ls hl => ?_)
  refine lv_aload_n hx hb dX3_sum_4 rfl (lv_at hl 0 rfl) ?_
  refine va_alen (v := 5) hx hb hK.1 hP 0 0 rfl rfl rfl dX3_sum_5 ?_
  refine lv_istore_n (lv' := [(3, .int 5), (2, .ref a), (1, .int 0), (0, .ref a)]) hx hb dX3_sum_6 rfl hl (by decide) rfl (fun ls hl => ?_)
  refine lv_iconst (v := 0) hx hb dX3_sum_7 (by decide) ?_
  refine lv_istore (lv' := [(4, .int 0), (3, .int 5), (2, .ref a), (1, .int 0), (0, .ref a)]) hx hb dX3_sum_8 hl (by decide) rfl (fun ls hl => ?_)
  have L10 : ∀ (f i : Nat) (k : Int32), i + f = 5 → sqL g f i k = sqC g → ∀ ls : Array Slot, lv_has ls 6 [(4, .int (nI i)), (3, .int 5), (2, .ref a), (1, .int k), (0, .ref a)] → W p l e { frames := 0, cells := 0, slots := 0, locals := 0 } s m ([.ref a] : List Value).toArray below meth c s.heap [] 0 0 Q (F0 m 10 ls []) := by
    intro f
    induction f with
    | zero =>
      intro i k hi hv10 ls hl
      obtain rfl : i = 5 := by omega
      refine lv_iload hx hb dX3_sum_10 (lv_at hl 0 rfl) ?_
      refine lv_iload_n hx hb dX3_sum_12 rfl (lv_at hl 1 rfl) ?_
      refine lv_icmp_ge (tgt := 33) hx hb dX3_sum_13 (by decide) (fun _ => ?_) (fun c_9 => absurd (by decide +kernel) c_9)
      refine lv_iload_n hx hb dX3_sum_33 rfl (lv_at hl 3 rfl) ?_
      exact hret _ _ _ (by rw [← hv10]; simp only [sqC, sqL]) dX3_sum_34
    | succ f ih =>
      intro i k hi hv10 ls hl
      have hlt : i < 5 := by omega
      refine lv_iload hx hb dX3_sum_10 (lv_at hl 0 rfl) ?_
      refine lv_iload_n hx hb dX3_sum_12 rfl (lv_at hl 1 rfl) ?_
      refine lv_icmp_ge (tgt := 33) hx hb dX3_sum_13 (by decide) (fun c_9 => absurd c_9 (nI_ge (b := 5) hlt (by decide))) (fun _ => ?_)
      refine lv_aload_n hx hb dX3_sum_16 rfl (lv_at hl 2 rfl) ?_
      refine lv_iload hx hb dX3_sum_17 (lv_at hl 0 rfl) ?_
      refine qild hx hb hK.1 hP 0 0 rfl rfl (k := i) (nI_clamp (by omega)) (vp_in_nI (by omega) (by decide)) dX3_sum_19 ?_
      refine lv_istore (lv' := [(5, .int (g i)), (4, .int (nI i)), (3, .int 5), (2, .ref a), (1, .int k), (0, .ref a)]) hx hb dX3_sum_20 hl (by decide) rfl (fun ls hl => ?_)
      refine lv_iload_n hx hb dX3_sum_22 rfl (lv_at hl 4 rfl) ?_
      refine lv_iload hx hb dX3_sum_23 (lv_at hl 0 rfl) ?_
      refine lv_iadd hx hb dX3_sum_25 ?_
      refine lv_istore_n (lv' := [(1, .int (k + (g i))), (5, .int (g i)), (4, .int (nI i)), (3, .int 5), (2, .ref a), (0, .ref a)]) hx hb dX3_sum_26 rfl hl (by decide) rfl (fun ls hl => ?_)
      refine lv_iinc (v := nI (i + 1)) (lv' := [(4, .int (nI (i + 1))), (1, .int (k + (g i))), (5, .int (g i)), (3, .int 5), (2, .ref a), (0, .ref a)]) hx hb dX3_sum_27 hl (k := 2) rfl (nI_1 _) (by decide) rfl (fun ls hl => ?_)
      refine lv_goto (tgt := 10) hx hb dX3_sum_30 (by decide) ?_
      exact ih (i + 1) (k + (g i)) (by omega) (by rw [← hv10]; simp only [sqC, sqL]) ls (lv_sub hl [0, 3, 4, 1, 5] rfl)
  exact L10 5 0 0 rfl (by simp only [sqC]) ls (lv_sub hl [0, 1, 2, 3, 4] rfl)
