/-! CONTRACTS of the class's constructor and of run (laid by wip/whole/gen/obj4.py) -/
set_option maxHeartbeats 4000000 in
set_option maxRecDepth 100000 in
theorem c_X3_init (l : Launch) (G : qG) (q : Nat) (sz : Nat) : Met l yX3_init wsX3_init { frames := 2, cells := 27, slots := 197, locals := 32 } (PW G sz [.ref q] ([(q, .inr (3, [.null, .null, .null, .null, .null]))])) (QV (S := (Nat → Nat) × (Nat → Nat) × (Nat → Nat) × Nat × (Nat → Nat)) G sz ([(q, .inr (3, [.null, .null, .null, .null, .null]))]) (fun _ => True) (fun u => ows G q u.1 u.2.1 u.2.2.1 u.2.2.2.1 u.2.2.2.2 iniC)) 27 197 (va_A ([(q, .inr (3, [.null, .null, .null, .null, .null]))]) sz) := by
  refine MV.of' (by decide) rfl (Nat.le_of_ble_eq_true rfl) ?_
  intro p e s m below meth c hx hb hml hown hts hK hsz hP A hAe hA hD hS hmn Q hret ls hl
  have hown : s.vm.findClass RX3 = some m.cls := hown
  have hl : lv_has ls 1 [(0, .ref q)] := hl
  have wk1 := hts (Cond.methodLink RX3 1 objectInit) (List.mem_of_getElem? (i := 1) rfl)
  have wk2 := hts (Cond.instanceMethod objectInit) (List.mem_of_getElem? (i := 2) rfl)
  have wk3 := hts (Cond.code objectInit ⟨#[0xb1]⟩ 1 none) (List.mem_of_getElem? (i := 3) rfl)
  have wk4 := hts (Cond.classLink RX3 7 RX2) (List.mem_of_getElem? (i := 4) rfl)
  have wk5 := hts (Cond.instantiable RX2 13) (List.mem_of_getElem? (i := 5) rfl)
  have wk6 := hts (Cond.initialized RX2) (List.mem_of_getElem? (i := 6) rfl)
  have wk7 := hts (Cond.fieldLink RX3 10 "TurnBids" "table" "LTurnBids$Table;") (List.mem_of_getElem? (i := 7) rfl)
  have wk8 := hts (Cond.fieldLink RX3 16 "TurnBids" "trial" "LTurnBids$Table;") (List.mem_of_getElem? (i := 8) rfl)
  have wk9 := hts (Cond.classLink RX3 19 RX0) (List.mem_of_getElem? (i := 9) rfl)
  have wk10 := hts (Cond.instantiable RX0 3) (List.mem_of_getElem? (i := 10) rfl)
  have wk11 := hts (Cond.initialized RX0) (List.mem_of_getElem? (i := 11) rfl)
  have wk12 := hts (Cond.fieldLink RX3 22 "TurnBids" "history" "LTurnBids$History;") (List.mem_of_getElem? (i := 12) rfl)
  have wk13 := hts (Cond.fieldLink RX3 26 "TurnBids" "slots" "[LTurnBids$Table;") (List.mem_of_getElem? (i := 13) rfl)
  have wk14 := hts (Cond.classLink RX3 30 RX1) (List.mem_of_getElem? (i := 14) rfl)
  have wk15 := hts (Cond.instantiable RX1 2) (List.mem_of_getElem? (i := 15) rfl)
  have wk16 := hts (Cond.initialized RX1) (List.mem_of_getElem? (i := 16) rfl)
  have wk17 := hts (Cond.fieldLink RX3 33 "TurnBids" "pad" "LTurnBids$Pad;") (List.mem_of_getElem? (i := 17) rfl)
  have wk18 := hts (Cond.instanceMethod yX2_init) (List.mem_of_getElem? (i := 18) rfl)
  have wk36 := hts (Cond.instanceMethod yX0_init) (List.mem_of_getElem? (i := 36) rfl)
  have wk43 := hts (Cond.instanceMethod yX1_init) (List.mem_of_getElem? (i := 43) rfl)
  have hinX2 : ∀ w ∈ wsX20, w ∈ wsX3_init := fun _ h => (List.mem_cons_of_mem _ (List.mem_append_left _ (List.mem_append_left _ (List.mem_append_left _ (List.mem_append_right _ h)))))
  have hinX3 : ∀ w ∈ wsX30, w ∈ wsX3_init := fun _ h => (List.mem_cons_of_mem _ (List.mem_append_left _ (List.mem_append_left _ (List.mem_append_right _ h))))
  have hinX0 : ∀ w ∈ wsX00, w ∈ wsX3_init := fun _ h => (List.mem_cons_of_mem _ (List.mem_append_left _ (List.mem_append_right _ h)))
  have hinX1 : ∀ w ∈ wsX10, w ∈ wsX3_init := fun _ h => (List.mem_cons_of_mem _ (List.mem_append_right _ h))
  refine lv_aload_n hx hb dX3_init_0 rfl (lv_at hl 0 rfl) ?_
  refine W.objInit hx hb hown wk1 wk2 wk3 rfl (by rw [hml]; exact hl.1) rfl dX3_init_1 (Nat.le_of_ble_eq_true rfl) (Nat.le_of_ble_eq_true rfl) ?_
  refine W.eq (g2 := F0 m 4 ls []) rfl ?_
  refine lv_aload_n hx hb dX3_init_4 rfl (lv_at hl 0 rfl) ?_
  refine va_new (ci := 2) (fs := [.null, .null, .null, .null, .null, .null, .null, .null, .null, .null, .int 0, .int 0, .int 0]) (C := RX2) (T := TX2) (N := 13) hx hb hts hinX2 tyX2 tyX2_ok hown wk4 wk5 wk6 hK.1 hP hD hS hA rfl dfX2 (Nat.le_of_ble_eq_true rfl) (Nat.le_of_ble_eq_true rfl) dX3_init_5 (fun q_1 H hP hD hS => ?_)
  refine lv_dup hx hb dX3_init_8 rfl ?_
  refine cNI (wf := [(q, .inr (3, [.null, .null, .null, .null, .null]))]) (wc := [(q_1, .inr (2, [.null, .null, .null, .null, .null, .null, .null, .null, .null, .null, .int 0, .int 0, .int 0]))]) (As := []) (rest := [.ref q_1, .ref q]) ⟨hx, hb, hml, hown, hts⟩ (c_X2_init l G q_1 _) ⟨va_cnB (host := RX3) 0 hts gX3_init_X2_init_n9 rfl rfl rfl hK.2.1.2.2.1 wk6 (by decide +kernel) ⟨Nat.le_of_ble_eq_true rfl, Nat.le_of_ble_eq_true rfl⟩, rfl, wk18⟩ hK hP hD hS hA rfl rfl hl.1 (Nat.le_of_ble_eq_true rfl) dX3_init_9 ⟨Nat.le_of_ble_eq_true rfl, Nat.le_of_ble_eq_true rfl⟩ (fun b_1 H locs hq_1 hP hD hS => ?_)
  have hq_1 : b_1 0 = q_1 := hq_1
  refine W.eq (g2 := F0 m 12 ls [.ref (b_1 0), .ref q]) (by rw [hq_1]) ?_
  have hP : va_P G.1 vwCl ([(q, .inr (3, [.null, .null, .null, .null, .null]))] ++ tw G b_1 iniT) H := hP
  have hD : va_D A ([(q, .inr (3, [.null, .null, .null, .null, .null]))] ++ tw G b_1 iniT) := hD
  refine va_putF (D := G.1) (ci := 3) (v := .ref (b_1 0)) (ty := .object "TurnBids$Table") (C := RX3) (T := TX3) (N := 5) hx hb hts hinX3 tyX3 tyX3_ok nmX3 hown hK.1 hP hD hS 0 rfl rfl 0 (by decide) wk7 (fun _ h9 => h9) rfl hmn rfl (by decide +kernel) rfl rfl (Nat.le_of_ble_eq_true rfl) dX3_init_12 (fun H locs hP hD hS => ?_)
  have hP : va_P G.1 vwCl ([(q, .inr (3, [.ref (b_1 0), .null, .null, .null, .null]))] ++ tw G b_1 iniT) H := hP
  have hD : va_D A ([(q, .inr (3, [.ref (b_1 0), .null, .null, .null, .null]))] ++ tw G b_1 iniT) := hD
  refine lv_aload_n hx hb dX3_init_15 rfl (lv_at hl 0 rfl) ?_
  refine va_new (ci := 2) (fs := [.null, .null, .null, .null, .null, .null, .null, .null, .null, .null, .int 0, .int 0, .int 0]) (C := RX2) (T := TX2) (N := 13) hx hb hts hinX2 tyX2 tyX2_ok hown wk4 wk5 wk6 hK.1 hP hD hS hA rfl dfX2 (Nat.le_of_ble_eq_true rfl) (Nat.le_of_ble_eq_true rfl) dX3_init_16 (fun q_2 H hP hD hS => ?_)
  refine lv_dup hx hb dX3_init_19 rfl ?_
  refine cNI (wf := [(q, .inr (3, [.ref (b_1 0), .null, .null, .null, .null]))] ++ tw G b_1 iniT) (wc := [(q_2, .inr (2, [.null, .null, .null, .null, .null, .null, .null, .null, .null, .null, .int 0, .int 0, .int 0]))]) (As := []) (rest := [.ref q_2, .ref q]) ⟨hx, hb, hml, hown, hts⟩ (c_X2_init l G q_2 _) ⟨va_cnB (host := RX3) 0 hts gX3_init_X2_init_n9 rfl rfl rfl hK.2.1.2.2.1 wk6 (by decide +kernel) ⟨Nat.le_of_ble_eq_true rfl, Nat.le_of_ble_eq_true rfl⟩, rfl, wk18⟩ hK hP hD hS hA rfl rfl hl.1 (Nat.le_of_ble_eq_true rfl) dX3_init_20 ⟨Nat.le_of_ble_eq_true rfl, Nat.le_of_ble_eq_true rfl⟩ (fun b_2 H locs hq_2 hP hD hS => ?_)
  have hq_2 : b_2 0 = q_2 := hq_2
  refine W.eq (g2 := F0 m 23 ls [.ref (b_2 0), .ref q]) (by rw [hq_2]) ?_
  have hP : va_P G.1 vwCl ([(q, .inr (3, [.ref (b_1 0), .null, .null, .null, .null]))] ++ tw G b_1 iniT ++ tw G b_2 iniT) H := hP
  have hD : va_D A ([(q, .inr (3, [.ref (b_1 0), .null, .null, .null, .null]))] ++ tw G b_1 iniT ++ tw G b_2 iniT) := hD
  refine va_putF (D := G.1) (ci := 3) (v := .ref (b_2 0)) (ty := .object "TurnBids$Table") (C := RX3) (T := TX3) (N := 5) hx hb hts hinX3 tyX3 tyX3_ok nmX3 hown hK.1 hP hD hS 0 rfl rfl 1 (by decide) wk8 (fun _ h9 => h9) rfl hmn rfl (by decide +kernel) rfl rfl (Nat.le_of_ble_eq_true rfl) dX3_init_23 (fun H locs hP hD hS => ?_)
  have hP : va_P G.1 vwCl ([(q, .inr (3, [.ref (b_1 0), .ref (b_2 0), .null, .null, .null]))] ++ tw G b_1 iniT ++ tw G b_2 iniT) H := hP
  have hD : va_D A ([(q, .inr (3, [.ref (b_1 0), .ref (b_2 0), .null, .null, .null]))] ++ tw G b_1 iniT ++ tw G b_2 iniT) := hD
  refine lv_aload_n hx hb dX3_init_26 rfl (lv_at hl 0 rfl) ?_
  refine va_new (ci := 0) (fs := [.null, .int 0, .int 0]) (C := RX0) (T := TX0) (N := 3) hx hb hts hinX0 tyX0 tyX0_ok hown wk9 wk10 wk11 hK.1 hP hD hS hA rfl dfX0 (Nat.le_of_ble_eq_true rfl) (Nat.le_of_ble_eq_true rfl) dX3_init_27 (fun q_3 H hP hD hS => ?_)
  refine lv_dup hx hb dX3_init_30 rfl ?_
  refine cNI (wf := [(q, .inr (3, [.ref (b_1 0), .ref (b_2 0), .null, .null, .null]))] ++ tw G b_1 iniT ++ tw G b_2 iniT) (wc := [(q_3, .inr (0, [.null, .int 0, .int 0]))]) (As := []) (rest := [.ref q_3, .ref q]) ⟨hx, hb, hml, hown, hts⟩ (c_X0_init l G q_3 _) ⟨va_cnB (host := RX3) 0 hts gX3_init_X0_init_n21 rfl rfl rfl hK.2.1.2.2.2.1 wk11 (by decide +kernel) ⟨Nat.le_of_ble_eq_true rfl, Nat.le_of_ble_eq_true rfl⟩, rfl, wk36⟩ hK hP hD hS hA rfl rfl hl.1 (Nat.le_of_ble_eq_true rfl) dX3_init_31 ⟨Nat.le_of_ble_eq_true rfl, Nat.le_of_ble_eq_true rfl⟩ (fun b_3 H locs hq_3 hP hD hS => ?_)
  have hq_3 : b_3 0 = q_3 := hq_3
  refine W.eq (g2 := F0 m 34 ls [.ref (b_3 0), .ref q]) (by rw [hq_3]) ?_
  have hP : va_P G.1 vwCl ([(q, .inr (3, [.ref (b_1 0), .ref (b_2 0), .null, .null, .null]))] ++ tw G b_1 iniT ++ tw G b_2 iniT ++ hw G b_3 0 0 (fun _ => none)) H := hP
  have hD : va_D A ([(q, .inr (3, [.ref (b_1 0), .ref (b_2 0), .null, .null, .null]))] ++ tw G b_1 iniT ++ tw G b_2 iniT ++ hw G b_3 0 0 (fun _ => none)) := hD
  refine va_putF (D := G.1) (ci := 3) (v := .ref (b_3 0)) (ty := .object "TurnBids$History") (C := RX3) (T := TX3) (N := 5) hx hb hts hinX3 tyX3 tyX3_ok nmX3 hown hK.1 hP hD hS 0 rfl rfl 2 (by decide) wk12 (fun _ h9 => h9) rfl hmn rfl (by decide +kernel) rfl rfl (Nat.le_of_ble_eq_true rfl) dX3_init_34 (fun H locs hP hD hS => ?_)
  have hP : va_P G.1 vwCl ([(q, .inr (3, [.ref (b_1 0), .ref (b_2 0), .ref (b_3 0), .null, .null]))] ++ tw G b_1 iniT ++ tw G b_2 iniT ++ hw G b_3 0 0 (fun _ => none)) H := hP
  have hD : va_D A ([(q, .inr (3, [.ref (b_1 0), .ref (b_2 0), .ref (b_3 0), .null, .null]))] ++ tw G b_1 iniT ++ tw G b_2 iniT ++ hw G b_3 0 0 (fun _ => none)) := hD
  refine lv_aload_n hx hb dX3_init_37 rfl (lv_at hl 0 rfl) ?_
  refine lv_iconst (v := 2) hx hb dX3_init_38 (by decide) ?_
  refine qnewq hx hb hown wk4 hK hP hD hS hA (N' := 2) (by decide +kernel) (by decide +kernel) (Nat.le_of_ble_eq_true rfl) (Nat.le_of_ble_eq_true rfl) (Nat.le_of_ble_eq_true rfl) dX3_init_39 (fun q_4 H hP hD hS => ?_)
  have hP : va_P G.1 vwCl ([(q, .inr (3, [.ref (b_1 0), .ref (b_2 0), .ref (b_3 0), .null, .null]))] ++ tw G b_1 iniT ++ tw G b_2 iniT ++ hw G b_3 0 0 (fun _ => none) ++ [(q_4, .inl (gR G, 2, .inr (.inr (.inr (.inr (fun _ => none))))))]) H := hP
  have hD : va_D A ([(q, .inr (3, [.ref (b_1 0), .ref (b_2 0), .ref (b_3 0), .null, .null]))] ++ tw G b_1 iniT ++ tw G b_2 iniT ++ hw G b_3 0 0 (fun _ => none) ++ [(q_4, .inl (gR G, 2, .inr (.inr (.inr (.inr (fun _ => none))))))]) := hD
  refine va_putF (D := G.1) (ci := 3) (v := .ref q_4) (ty := .array (.object RX2)) (C := RX3) (T := TX3) (N := 5) hx hb hts hinX3 tyX3 tyX3_ok nmX3 hown hK.1 hP hD hS 0 rfl rfl 3 (by decide) wk13 (fun _ h9 => h9) rfl hmn rfl (by decide +kernel) rfl rfl (Nat.le_of_ble_eq_true rfl) dX3_init_42 (fun H locs hP hD hS => ?_)
  have hP : va_P G.1 vwCl ([(q, .inr (3, [.ref (b_1 0), .ref (b_2 0), .ref (b_3 0), .ref q_4, .null]))] ++ tw G b_1 iniT ++ tw G b_2 iniT ++ hw G b_3 0 0 (fun _ => none) ++ [(q_4, .inl (gR G, 2, .inr (.inr (.inr (.inr (fun _ => none))))))]) H := hP
  have hD : va_D A ([(q, .inr (3, [.ref (b_1 0), .ref (b_2 0), .ref (b_3 0), .ref q_4, .null]))] ++ tw G b_1 iniT ++ tw G b_2 iniT ++ hw G b_3 0 0 (fun _ => none) ++ [(q_4, .inl (gR G, 2, .inr (.inr (.inr (.inr (fun _ => none))))))]) := hD
  refine lv_aload_n hx hb dX3_init_45 rfl (lv_at hl 0 rfl) ?_
  refine va_new (ci := 1) (fs := [.null, .int 0]) (C := RX1) (T := TX1) (N := 2) hx hb hts hinX1 tyX1 tyX1_ok hown wk14 wk15 wk16 hK.1 hP hD hS hA rfl dfX1 (Nat.le_of_ble_eq_true rfl) (Nat.le_of_ble_eq_true rfl) dX3_init_46 (fun q_5 H hP hD hS => ?_)
  refine lv_dup hx hb dX3_init_49 rfl ?_
  refine cNI (wf := [(q, .inr (3, [.ref (b_1 0), .ref (b_2 0), .ref (b_3 0), .ref q_4, .null]))] ++ tw G b_1 iniT ++ tw G b_2 iniT ++ hw G b_3 0 0 (fun _ => none) ++ [(q_4, .inl (gR G, 2, .inr (.inr (.inr (.inr (fun _ => none))))))]) (wc := [(q_5, .inr (1, [.null, .int 0]))]) (As := []) (rest := [.ref q_5, .ref q]) ⟨hx, hb, hml, hown, hts⟩ (c_X1_init l G q_5 _) ⟨va_cnB (host := RX3) 0 hts gX3_init_X1_init_n32 rfl rfl rfl hK.2.1.2.2.2.2 wk16 (by decide +kernel) ⟨Nat.le_of_ble_eq_true rfl, Nat.le_of_ble_eq_true rfl⟩, rfl, wk43⟩ hK hP hD hS hA rfl rfl hl.1 (Nat.le_of_ble_eq_true rfl) dX3_init_50 ⟨Nat.le_of_ble_eq_true rfl, Nat.le_of_ble_eq_true rfl⟩ (fun b_5 H locs hq_5 hP hD hS => ?_)
  have hq_5 : b_5 0 = q_5 := hq_5
  refine W.eq (g2 := F0 m 53 ls [.ref (b_5 0), .ref q]) (by rw [hq_5]) ?_
  have hP : va_P G.1 vwCl ([(q, .inr (3, [.ref (b_1 0), .ref (b_2 0), .ref (b_3 0), .ref q_4, .null]))] ++ tw G b_1 iniT ++ tw G b_2 iniT ++ hw G b_3 0 0 (fun _ => none) ++ [(q_4, .inl (gR G, 2, .inr (.inr (.inr (.inr (fun _ => none))))))] ++ pw G b_5 (fun _ => 0) (nI 0)) H := hP
  have hD : va_D A ([(q, .inr (3, [.ref (b_1 0), .ref (b_2 0), .ref (b_3 0), .ref q_4, .null]))] ++ tw G b_1 iniT ++ tw G b_2 iniT ++ hw G b_3 0 0 (fun _ => none) ++ [(q_4, .inl (gR G, 2, .inr (.inr (.inr (.inr (fun _ => none))))))] ++ pw G b_5 (fun _ => 0) (nI 0)) := hD
  refine va_putF (D := G.1) (ci := 3) (v := .ref (b_5 0)) (ty := .object "TurnBids$Pad") (C := RX3) (T := TX3) (N := 5) hx hb hts hinX3 tyX3 tyX3_ok nmX3 hown hK.1 hP hD hS 0 rfl rfl 4 (by decide) wk17 (fun _ h9 => h9) rfl hmn rfl (by decide +kernel) rfl rfl (Nat.le_of_ble_eq_true rfl) dX3_init_53 (fun H locs hP hD hS => ?_)
  have hP : va_P G.1 vwCl ([(q, .inr (3, [.ref (b_1 0), .ref (b_2 0), .ref (b_3 0), .ref q_4, .ref (b_5 0)]))] ++ tw G b_1 iniT ++ tw G b_2 iniT ++ hw G b_3 0 0 (fun _ => none) ++ [(q_4, .inl (gR G, 2, .inr (.inr (.inr (.inr (fun _ => none))))))] ++ pw G b_5 (fun _ => 0) (nI 0)) H := hP
  have hD : va_D A ([(q, .inr (3, [.ref (b_1 0), .ref (b_2 0), .ref (b_3 0), .ref q_4, .ref (b_5 0)]))] ++ tw G b_1 iniT ++ tw G b_2 iniT ++ hw G b_3 0 0 (fun _ => none) ++ [(q_4, .inl (gR G, 2, .inr (.inr (.inr (.inr (fun _ => none))))))] ++ pw G b_5 (fun _ => 0) (nI 0)) := hD
  have hP : va_P G.1 vwCl (ows G q b_1 b_2 b_3 q_4 b_5 iniC) H := by rw [ows_ini]; exact hP
  have hD : va_D A (ows G q b_1 b_2 b_3 q_4 b_5 iniC) := by rw [ows_ini]; exact hD
  exact hret _ _ _ _ (b_1, b_2, b_3, q_4, b_5) trivial hP hD hS dX3_init_56
set_option maxHeartbeats 4000000 in
set_option maxRecDepth 100000 in
theorem c_X3_run (l : Launch) (G : qG) (o : Nat) (t r h : Nat → Nat) (g : Nat) (b : Nat → Nat) (T U : Tb) (hT : is01 (T 10 0)) (nx ln : Nat) (hnx : nx < 100000) (hln : ln ≤ 6) (ad : Ad) (S : Nat → Tb) (ps : Nat → Int32) (hps : chs ps) (pl : Nat) (hpl : pl ≤ 60)  (sz : Nat) : Met l yX3_run wsX3_run { frames := 7, cells := 11, slots := 62, locals := 151 } (PW G sz [.ref o] (ow G o t r h g b T U nx ln (hd ad 0 6) (hd ad 6 2) ps pl ++ pool G ad S)) (QI (S := CS) G sz (ow G o t r h g b T U nx ln (hd ad 0 6) (hd ad 6 2) ps pl ++ pool G ad S) (fun r₀ c₀ => r₀ = (if fqC ps pl = (-100006) then (rnC ps pl T).2 else (-100003)) ∧ ∃ u : Nat → Nat, c₀ = (if fqC ps pl = (-100006) then ((rnC ps pl T).1, U, nx + 1, min (ln + 1) 6, va_up ad (nx % 6) (some u), va_up S (nx % 6) T, ps, 0) else (T, U, nx, ln, ad, S, ps, pl))) (fun c₀ => ows G o t r h g b c₀)) 11 62 (va_A (ow G o t r h g b T U nx ln (hd ad 0 6) (hd ad 6 2) ps pl ++ pool G ad S) sz) := by
  refine MI.of' (by decide) rfl (Nat.le_of_ble_eq_true rfl) ?_
  intro p e s m below meth c hx hb hml hown hts hK hsz hP A hAe hA hD hS Q hret ls hl
  have hown : s.vm.findClass RX3 = some m.cls := hown
  have hl : lv_has ls 6 [(0, .ref o)] := hl
  have wk1 := hts (Cond.fieldLink RX3 33 "TurnBids" "pad" "LTurnBids$Pad;") (List.mem_of_getElem? (i := 1) rfl)
  have wk2 := hts (Cond.constant RX3 103 (-100006)) (List.mem_of_getElem? (i := 2) rfl)
  have wk3 := hts (Cond.constant RX3 104 (-100003)) (List.mem_of_getElem? (i := 3) rfl)
  have wk4 := hts (Cond.fieldLink RX3 22 "TurnBids" "history" "LTurnBids$History;") (List.mem_of_getElem? (i := 4) rfl)
  have wk5 := hts (Cond.fieldLink RX3 10 "TurnBids" "table" "LTurnBids$Table;") (List.mem_of_getElem? (i := 5) rfl)
  have wk6 := hts (Cond.fieldLink RX3 105 "TurnBids$Pad" "length" "I") (List.mem_of_getElem? (i := 6) rfl)
  have wk7 := hts (Cond.constant RX3 61 (-100005)) (List.mem_of_getElem? (i := 7) rfl)
  have wk8 := hts (Cond.methodLink RX3 100 yX1_faultIndex) (List.mem_of_getElem? (i := 8) rfl)
  have wk26 := hts (Cond.methodLink RX3 45 yX0_keep) (List.mem_of_getElem? (i := 26) rfl)
  have wk73 := hts (Cond.methodLink RX3 109 yX1_signAt) (List.mem_of_getElem? (i := 73) rfl)
  have wk74 := hts (Cond.methodLink RX3 113 yX1_isDigit) (List.mem_of_getElem? (i := 74) rfl)
  have wk75 := hts (Cond.methodLink RX3 117 yX3_doMove) (List.mem_of_getElem? (i := 75) rfl)
  have hinX3 : ∀ w ∈ wsX30, w ∈ wsX3_run := fun _ h => (List.mem_cons_of_mem _ (List.mem_append_left _ (List.mem_append_left _ (List.mem_append_left _ (List.mem_append_right _ h)))))
  have hinX1 : ∀ w ∈ wsX10, w ∈ wsX3_run := fun _ h => (List.mem_cons_of_mem _ (List.mem_append_left _ (List.mem_append_left _ (List.mem_append_right _ h))))
  refine lv_aload_n hx hb dX3_run_0 rfl (lv_at hl 0 rfl) ?_
  refine va_get (D := G.1) (ci := 3) (v := .ref (b 0)) (C := RX3) (T := TX3) (N := 5) hx hb hts hinX3 hown hK.1 hP 0 rfl rfl 4 (by decide) wk1 (fun _ h9 => h9) rfl dX3_run_1 ?_
  refine cPV (As := []) (rest := []) ⟨hx, hb, hml, hown, hts⟩ (c_X1_faultIndex l G b ps pl hpl hps) (cwV 0 hts gX3_run_X1_faultIndex rfl rfl rfl (by decide +kernel) ⟨Nat.le_of_ble_eq_true rfl, Nat.le_of_ble_eq_true rfl⟩) hK (hP.sub (ws' := pw G b ps (nI pl)) [26, 27] rfl) 0 (ci := 1) rfl rfl rfl rfl rfl hl.1 (Nat.le_of_ble_eq_true rfl) dX3_run_4 ⟨Nat.le_of_ble_eq_true rfl, Nat.le_of_ble_eq_true rfl⟩ ?_
  refine lv_ldc (v := (-100006)) hx hb hown wk2 dX3_run_7 ?_
  refine lv_icmp_eq (tgt := 15) hx hb dX3_run_9 (by decide) (fun c_9_1 => ?_) (fun c_9_1 => ?_)
  · have hfq := c_9_1
    refine lv_aload_n hx hb dX3_run_15 rfl (lv_at hl 0 rfl) ?_
    refine va_get (D := G.1) (ci := 3) (v := .ref (h 0)) (C := RX3) (T := TX3) (N := 5) hx hb hts hinX3 hown hK.1 hP 0 rfl rfl 2 (by decide) wk4 (fun _ h9 => h9) rfl dX3_run_16 ?_
    refine lv_aload_n hx hb dX3_run_19 rfl (lv_at hl 0 rfl) ?_
    refine va_get (D := G.1) (ci := 3) (v := .ref (t 0)) (C := RX3) (T := TX3) (N := 5) hx hb hts hinX3 hown hK.1 hP 0 rfl rfl 0 (by decide) wk5 (fun _ h9 => h9) rfl dX3_run_20 ?_
    refine cPoolV (wr := [(o, .inr (3, [.ref (t 0), .ref (r 0), .ref (h 0), .ref g, .ref (b 0)]))] ++ tw G r U ++ [(g, .inl (gR G, 2, .inr (.inr (.inr (.inr (hd ad 6 2))))))] ++ pw G b ps (nI pl)) (wc := hw G h nx ln (hd ad 0 6) ++ tw G t T) (As := [.ref (t 0)]) (rest := []) ⟨hx, hb, hml, hown, hts⟩ (c_X0_keep l G h t T hT nx ln hnx hln ad S _) (cwV 1 hts gX3_run_X0_keep rfl rfl rfl (by decide +kernel) ⟨Nat.le_of_ble_eq_true rfl, Nat.le_of_ble_eq_true rfl⟩) hK hP hD hS hA [23, 24, 1, 2, 3, 4, 5, 6, 7, 8, 9, 10, 11] [0, 12, 13, 14, 15, 16, 17, 18, 19, 20, 21, 22, 25, 26, 27] rfl rfl (by decide) (by decide) (by decide) 0 (ci := 0) rfl rfl rfl rfl rfl hl.1 (Nat.le_of_ble_eq_true rfl) dX3_run_23 ⟨Nat.le_of_ble_eq_true rfl, Nat.le_of_ble_eq_true rfl⟩ (fun u_2 H locs hr_2 hP hD hS => ?_)
    have hP : va_P G.1 vwCl (ow G o t r h g b T U (nx + 1) (min (ln + 1) 6) (hd (va_up ad (nx % 6) (some u_2)) 0 6) (hd ad 6 2) ps pl ++ pool G (va_up ad (nx % 6) (some u_2)) (va_up S (nx % 6) T)) H := hP.part (cx := ow G o t r h g b T U (nx + 1) (min (ln + 1) 6) (hd (va_up ad (nx % 6) (some u_2)) 0 6) (hd ad 6 2) ps pl) [0, 17, 18, 19, 20, 21, 22, 23, 24, 25, 26, 27, 1, 2, 3, 4, 5, 6, 7, 8, 9, 10, 11, 15, 16, 12, 13, 14] rfl
    have hD : va_D A (ow G o t r h g b T U (nx + 1) (min (ln + 1) 6) (hd (va_up ad (nx % 6) (some u_2)) 0 6) (hd ad 6 2) ps pl ++ pool G (va_up ad (nx % 6) (some u_2)) (va_up S (nx % 6) T)) := hD.part (cx := ow G o t r h g b T U (nx + 1) (min (ln + 1) 6) (hd (va_up ad (nx % 6) (some u_2)) 0 6) (hd ad 6 2) ps pl) [0, 17, 18, 19, 20, 21, 22, 23, 24, 25, 26, 27, 1, 2, 3, 4, 5, 6, 7, 8, 9, 10, 11, 15, 16, 12, 13, 14] (by decide) rfl
    have ho9 : hd ad 6 2 = hd (va_up ad (nx % 6) (some u_2)) 6 2 := (hd_off (Or.inl (by omega))).symm
    rw [ho9] at hP hD
    have hP : va_P G.1 vwCl (ow G o t r h g b T U (nx + 1) (min (ln + 1) 6) (hd (va_up ad (nx % 6) (some u_2)) 0 6) (hd (va_up ad (nx % 6) (some u_2)) 6 2) ps pl ++ pool G (va_up ad (nx % 6) (some u_2)) (va_up S (nx % 6) T)) H := hP
    have hD : va_D A (ow G o t r h g b T U (nx + 1) (min (ln + 1) 6) (hd (va_up ad (nx % 6) (some u_2)) 0 6) (hd (va_up ad (nx % 6) (some u_2)) 6 2) ps pl ++ pool G (va_up ad (nx % 6) (some u_2)) (va_up S (nx % 6) T)) := hD
    refine lv_iconst (v := 0) hx hb dX3_run_26 (by decide) ?_
    refine lv_istore_n (lv' := [(1, .int 0), (0, .ref o)]) hx hb dX3_run_27 rfl hl (by decide) rfl (fun ls hl => ?_)
    refine lv_iconst (v := 0) hx hb dX3_run_28 (by decide) ?_
    refine lv_istore_n (lv' := [(2, .int 0), (1, .int 0), (0, .ref o)]) hx hb dX3_run_29 rfl hl (by decide) rfl (fun ls hl => ?_)
    refine lv_iconst (v := 0) hx hb dX3_run_30 (by decide) ?_
    refine lv_istore_n (lv' := [(3, .int 0), (2, .int 0), (1, .int 0), (0, .ref o)]) hx hb dX3_run_31 rfl hl (by decide) rfl (fun ls hl => ?_)
    have L32 : ∀ (f i : Nat) (k : Int32) (n : Int32) (V : Tb), i + f = pl → rnL ps pl f i k n V = rnC ps pl T → ∀ (H : Heap) (locs : List Loc), va_P G.1 vwCl (ow G o t r h g b V U (nx + 1) (min (ln + 1) 6) (hd (va_up ad (nx % 6) (some u_2)) 0 6) (hd (va_up ad (nx % 6) (some u_2)) 6 2) ps pl ++ pool G (va_up ad (nx % 6) (some u_2)) (va_up S (nx % 6) T)) H → va_D A (ow G o t r h g b V U (nx + 1) (min (ln + 1) 6) (hd (va_up ad (nx % 6) (some u_2)) 0 6) (hd (va_up ad (nx % 6) (some u_2)) 6 2) ps pl ++ pool G (va_up ad (nx % 6) (some u_2)) (va_up S (nx % 6) T)) → va_S A s.heap H locs → ∀ ls : Array Slot, lv_has ls 6 [(3, .int (nI i)), (2, .int n), (1, .int k), (0, .ref o)] → W p l e { frames := 7, cells := 11, slots := 62, locals := 151 } s m ([.ref o] : List Value).toArray below meth c H locs 11 62 Q (F0 m 32 ls []) := by
      intro f
      induction f with
      | zero =>
        intro i k n V hi hv32 H locs hP hD hS ls hl
        have hN : i = pl := by omega
        refine lv_iload_n hx hb dX3_run_32 rfl (lv_at hl 0 rfl) ?_
        refine lv_aload_n hx hb dX3_run_33 rfl (lv_at hl 3 rfl) ?_
        refine va_get (D := G.1) (ci := 3) (v := .ref (b 0)) (C := RX3) (T := TX3) (N := 5) hx hb hts hinX3 hown hK.1 hP 0 rfl rfl 4 (by decide) wk1 (fun _ h9 => h9) rfl dX3_run_34 ?_
        refine va_get (D := G.1) (ci := 1) (v := .int (nI pl)) (C := RX1) (T := TX1) (N := 2) hx hb hts hinX1 hown hK.1 hP 26 rfl rfl 1 (by decide) wk6 (fun _ h9 => h9) rfl dX3_run_37 ?_
        refine lv_icmp_ge (tgt := 148) hx hb dX3_run_40 (by decide) (fun _ => ?_) (fun c_9 => absurd (nI_le (a := pl) (b := i) (by omega) (by omega)) c_9)
        refine lv_aload_n hx hb dX3_run_148 rfl (lv_at hl 3 rfl) ?_
        refine va_get (D := G.1) (ci := 3) (v := .ref (b 0)) (C := RX3) (T := TX3) (N := 5) hx hb hts hinX3 hown hK.1 hP 0 rfl rfl 4 (by decide) wk1 (fun _ h9 => h9) rfl dX3_run_149 ?_
        refine lv_iconst (v := 0) hx hb dX3_run_152 (by decide) ?_
        refine va_put (D := G.1) (ci := 1) (v := .int 0) (ty := .int) (C := RX1) (T := TX1) (N := 2) hx hb hts hinX1 tyX1 tyX1_ok nmX1 hown hK.1 hP hD hS 26 rfl rfl 1 (by decide) wk6 (fun _ h9 => h9) rfl (by decide +kernel) rfl rfl (Nat.le_of_ble_eq_true rfl) dX3_run_153 (fun H locs hP hD hS => ?_)
        have hP : va_P G.1 vwCl (ow G o t r h g b V U (nx + 1) (min (ln + 1) 6) (hd (va_up ad (nx % 6) (some u_2)) 0 6) (hd (va_up ad (nx % 6) (some u_2)) 6 2) ps 0 ++ pool G (va_up ad (nx % 6) (some u_2)) (va_up S (nx % 6) T)) H := hP
        have hD : va_D A (ow G o t r h g b V U (nx + 1) (min (ln + 1) 6) (hd (va_up ad (nx % 6) (some u_2)) 0 6) (hd (va_up ad (nx % 6) (some u_2)) 6 2) ps 0 ++ pool G (va_up ad (nx % 6) (some u_2)) (va_up S (nx % 6) T)) := hD
        refine lv_iload_n hx hb dX3_run_156 rfl (lv_at hl 2 rfl) ?_
        exact hret _ _ _ _ _ (V, U, nx + 1, min (ln + 1) 6, va_up ad (nx % 6) (some u_2), va_up S (nx % 6) T, ps, 0) ⟨by rw [if_pos hfq, ← hv32] <;> simp only [rnL, emB, nuB, if_true, if_false, lz_o, lz_1, lz_2, lz_5, lz_3, lz_4, if_pos c_9_1], u_2, by rw [if_pos hfq, ← hv32] <;> simp only [rnL, emB, nuB, if_true, if_false, lz_o, lz_1, lz_2, lz_5, lz_3, lz_4, if_pos c_9_1]⟩ hP hD hS dX3_run_157
      | succ f ih =>
        intro i k n V hi hv32 H locs hP hD hS ls hl
        have hlt : i < pl := by omega
        refine lv_iload_n hx hb dX3_run_32 rfl (lv_at hl 0 rfl) ?_
        refine lv_aload_n hx hb dX3_run_33 rfl (lv_at hl 3 rfl) ?_
        refine va_get (D := G.1) (ci := 3) (v := .ref (b 0)) (C := RX3) (T := TX3) (N := 5) hx hb hts hinX3 hown hK.1 hP 0 rfl rfl 4 (by decide) wk1 (fun _ h9 => h9) rfl dX3_run_34 ?_
        refine va_get (D := G.1) (ci := 1) (v := .int (nI pl)) (C := RX1) (T := TX1) (N := 2) hx hb hts hinX1 hown hK.1 hP 26 rfl rfl 1 (by decide) wk6 (fun _ h9 => h9) rfl dX3_run_37 ?_
        refine lv_icmp_ge (tgt := 148) hx hb dX3_run_40 (by decide) (fun c_9 => absurd c_9 (nI_ge (b := pl) hlt (by omega))) (fun _ => ?_)
        refine lv_aload_n hx hb dX3_run_43 rfl (lv_at hl 3 rfl) ?_
        refine va_get (D := G.1) (ci := 3) (v := .ref (b 0)) (C := RX3) (T := TX3) (N := 5) hx hb hts hinX3 hown hK.1 hP 0 rfl rfl 4 (by decide) wk1 (fun _ h9 => h9) rfl dX3_run_44 ?_
        refine lv_iload_n hx hb dX3_run_47 rfl (lv_at hl 0 rfl) ?_
        refine cPV (As := [.int (nI i)]) (rest := []) ⟨hx, hb, hml, hown, hts⟩ (c_X1_signAt l G b ps (nI pl) (nI i) hps) (cwV 1 hts gX3_run_X1_signAt rfl rfl rfl (by decide +kernel) ⟨Nat.le_of_ble_eq_true rfl, Nat.le_of_ble_eq_true rfl⟩) hK (hP.sub (ws' := pw G b ps (nI pl)) [26, 27] rfl) 0 (ci := 1) rfl rfl rfl rfl rfl hl.1 (Nat.le_of_ble_eq_true rfl) dX3_run_48 ⟨Nat.le_of_ble_eq_true rfl, Nat.le_of_ble_eq_true rfl⟩ ?_
        refine lv_istore (lv' := [(4, .int (saB ps (nI i))), (3, .int (nI i)), (2, .int n), (1, .int k), (0, .ref o)]) hx hb dX3_run_51 hl (by decide) rfl (fun ls hl => ?_)
        refine lv_iload hx hb dX3_run_53 (lv_at hl 0 rfl) ?_
        refine cPS (As := [.int (saB ps (nI i))]) (rest := []) ⟨hx, hb, hml, hown, hts⟩ (c_X1_isDigit l G (saB ps (nI i))) (va_cwS 1 hts gX3_run_X1_isDigit rfl rfl rfl (by decide +kernel) ⟨Nat.le_of_ble_eq_true rfl, Nat.le_of_ble_eq_true rfl⟩) hK (fun k q h => by simp at h) rfl rfl hl.1 (Nat.le_of_ble_eq_true rfl) dX3_run_55 ⟨Nat.le_of_ble_eq_true rfl, Nat.le_of_ble_eq_true rfl⟩ ?_
        refine lv_if_eq (tgt := 72) hx hb dX3_run_58 (by decide) (fun c_58_3 => ?_) (fun c_58_3 => ?_)
        · refine lv_iload hx hb dX3_run_72 (lv_at hl 0 rfl) ?_
          refine lv_bipush (v := 44) hx hb dX3_run_74 (by decide) ?_
          refine lv_icmp_eq (tgt := 111) hx hb dX3_run_76 (by decide) (fun c_76_4 => ?_) (fun c_76_4 => ?_)
          · refine lv_iconst (v := 0) hx hb dX3_run_111 (by decide) ?_
            refine lv_istore (lv' := [(5, .int 0), (4, .int (saB ps (nI i))), (3, .int (nI i)), (2, .int n), (1, .int k), (0, .ref o)]) hx hb dX3_run_112 hl (by decide) rfl (fun ls hl => ?_)
            refine lv_iload hx hb dX3_run_114 (lv_at hl 0 rfl) ?_
            refine lv_if_ne (tgt := 122) hx hb dX3_run_116 (by decide) (fun c_9 => absurd (by decide) c_9) (fun _ => ?_)
            refine lv_goto (tgt := 142) hx hb dX3_run_119 (by decide) ?_
            refine lv_iinc (v := nI (i + 1)) (lv' := [(3, .int (nI (i + 1))), (5, .int 0), (4, .int (saB ps (nI i))), (2, .int n), (1, .int k), (0, .ref o)]) hx hb dX3_run_142 hl (k := 2) rfl (nI_1 _) (by decide) rfl (fun ls hl => ?_)
            refine lv_goto (tgt := 32) hx hb dX3_run_145 (by decide) ?_
            exact ih (i + 1) k n V (by omega) (by rw [← hv32]; simp only [if_true, if_false, lz_o, lz_1, lz_2, lz_5, lz_3, lz_4, Nat.sub_zero, rnC, rnL, emB, nuB, if_pos c_9_1, if_pos c_58_3, if_pos c_76_4]) _ _ hP hD hS ls (lv_sub hl [0, 3, 4, 5] rfl)
          · refine lv_iload_n hx hb dX3_run_79 rfl (lv_at hl 1 rfl) ?_
            refine lv_iconst (v := 1) hx hb dX3_run_80 (by decide) ?_
            refine lv_iadd hx hb dX3_run_81 ?_
            refine qtop (nI_add i 1) ?_
            refine lv_aload_n hx hb dX3_run_82 rfl (lv_at hl 4 rfl) ?_
            refine va_get (D := G.1) (ci := 3) (v := .ref (b 0)) (C := RX3) (T := TX3) (N := 5) hx hb hts hinX3 hown hK.1 hP 0 rfl rfl 4 (by decide) wk1 (fun _ h9 => h9) rfl dX3_run_83 ?_
            refine va_get (D := G.1) (ci := 1) (v := .int (nI pl)) (C := RX1) (T := TX1) (N := 2) hx hb hts hinX1 hown hK.1 hP 26 rfl rfl 1 (by decide) wk6 (fun _ h9 => h9) rfl dX3_run_86 ?_
            refine lv_icmp_eq (tgt := 107) hx hb dX3_run_89 (by decide) (fun c_89_5 => ?_) (fun c_89_5 => ?_)
            · refine lv_iconst (v := 1) hx hb dX3_run_107 (by decide) ?_
              refine lv_goto (tgt := 112) hx hb dX3_run_108 (by decide) ?_
              refine lv_istore (lv' := [(5, .int 1), (4, .int (saB ps (nI i))), (3, .int (nI i)), (2, .int n), (1, .int k), (0, .ref o)]) hx hb dX3_run_112 hl (by decide) rfl (fun ls hl => ?_)
              refine lv_iload hx hb dX3_run_114 (lv_at hl 0 rfl) ?_
              refine lv_if_ne (tgt := 122) hx hb dX3_run_116 (by decide) (fun _ => ?_) (fun c_9 => absurd c_9 (by decide))
              refine lv_aload_n hx hb dX3_run_122 rfl (lv_at hl 5 rfl) ?_
              refine lv_iload hx hb dX3_run_123 (lv_at hl 1 rfl) ?_
              refine lv_iload_n hx hb dX3_run_125 rfl (lv_at hl 3 rfl) ?_
              refine cAI (As := [.int (saB ps (nI i)), .int n]) (rest := []) ⟨hx, hb, hml, hown, hts⟩ (c_X3_doMove l G o t r h g b V U (nx + 1) (min (ln + 1) 6) (va_up ad (nx % 6) (some u_2)) (va_up S (nx % 6) T) ps pl (saB ps (nI i)) n _) (cwV 2 hts gX3_run_X3_doMove rfl rfl rfl (by decide +kernel) ⟨Nat.le_of_ble_eq_true rfl, Nat.le_of_ble_eq_true rfl⟩) hK hP hD hS hA 0 (ci := 3) rfl rfl rfl rfl rfl hl.1 (Nat.le_of_ble_eq_true rfl) dX3_run_126 ⟨Nat.le_of_ble_eq_true rfl, Nat.le_of_ble_eq_true rfl⟩ (fun r_6 u_6 H locs hr_6 hP hD hS => ?_)
              obtain ⟨hr_6, _, hu_6⟩ := hr_6
              have hr_6 : r_6 = doV V (saB ps (nI i)) n := hr_6
              subst hu_6
              subst hr_6
              have hP : va_P G.1 vwCl (ow G o t r h g b (doT V (saB ps (nI i)) n) U (nx + 1) (min (ln + 1) 6) (hd (va_up ad (nx % 6) (some u_2)) 0 6) (hd (va_up ad (nx % 6) (some u_2)) 6 2) ps pl ++ pool G (va_up ad (nx % 6) (some u_2)) (va_up S (nx % 6) T)) H := hP
              have hD : va_D A (ow G o t r h g b (doT V (saB ps (nI i)) n) U (nx + 1) (min (ln + 1) 6) (hd (va_up ad (nx % 6) (some u_2)) 0 6) (hd (va_up ad (nx % 6) (some u_2)) 6 2) ps pl ++ pool G (va_up ad (nx % 6) (some u_2)) (va_up S (nx % 6) T)) := hD
              refine lv_ldc (v := (-100005)) hx hb hown wk7 dX3_run_129 ?_
              refine lv_icmp_ne (tgt := 137) hx hb dX3_run_131 (by decide) (fun c_131_7 => ?_) (fun c_131_7 => ?_)
              · refine lv_iinc (v := k + 1) (lv' := [(1, .int (k + 1)), (5, .int 1), (4, .int (saB ps (nI i))), (3, .int (nI i)), (2, .int n), (0, .ref o)]) hx hb dX3_run_137 hl (k := 4) rfl rfl (by decide) rfl (fun ls hl => ?_)
                refine lv_iconst (v := 0) hx hb dX3_run_140 (by decide) ?_
                refine lv_istore_n (lv' := [(2, .int 0), (1, .int (k + 1)), (5, .int 1), (4, .int (saB ps (nI i))), (3, .int (nI i)), (0, .ref o)]) hx hb dX3_run_141 rfl hl (by decide) rfl (fun ls hl => ?_)
                refine lv_iinc (v := nI (i + 1)) (lv' := [(3, .int (nI (i + 1))), (2, .int 0), (1, .int (k + 1)), (5, .int 1), (4, .int (saB ps (nI i))), (0, .ref o)]) hx hb dX3_run_142 hl (k := 4) rfl (nI_1 _) (by decide) rfl (fun ls hl => ?_)
                refine lv_goto (tgt := 32) hx hb dX3_run_145 (by decide) ?_
                exact ih (i + 1) (k + 1) 0 (doT V (saB ps (nI i)) n) (by omega) (by rw [← hv32]; simp only [if_true, if_false, lz_o, lz_1, lz_2, lz_5, lz_3, lz_4, Nat.sub_zero, rnC, rnL, emB, nuB, if_pos c_9_1, if_pos c_58_3, if_neg c_76_4, if_pos c_89_5, if_neg c_131_7]) _ _ hP hD hS ls (lv_sub hl [0, 1, 2, 5] rfl)
              · refine lv_goto (tgt := 148) hx hb dX3_run_134 (by decide) ?_
                refine lv_aload_n hx hb dX3_run_148 rfl (lv_at hl 5 rfl) ?_
                refine va_get (D := G.1) (ci := 3) (v := .ref (b 0)) (C := RX3) (T := TX3) (N := 5) hx hb hts hinX3 hown hK.1 hP 0 rfl rfl 4 (by decide) wk1 (fun _ h9 => h9) rfl dX3_run_149 ?_
                refine lv_iconst (v := 0) hx hb dX3_run_152 (by decide) ?_
                refine va_put (D := G.1) (ci := 1) (v := .int 0) (ty := .int) (C := RX1) (T := TX1) (N := 2) hx hb hts hinX1 tyX1 tyX1_ok nmX1 hown hK.1 hP hD hS 26 rfl rfl 1 (by decide) wk6 (fun _ h9 => h9) rfl (by decide +kernel) rfl rfl (Nat.le_of_ble_eq_true rfl) dX3_run_153 (fun H locs hP hD hS => ?_)
                have hP : va_P G.1 vwCl (ow G o t r h g b (doT V (saB ps (nI i)) n) U (nx + 1) (min (ln + 1) 6) (hd (va_up ad (nx % 6) (some u_2)) 0 6) (hd (va_up ad (nx % 6) (some u_2)) 6 2) ps 0 ++ pool G (va_up ad (nx % 6) (some u_2)) (va_up S (nx % 6) T)) H := hP
                have hD : va_D A (ow G o t r h g b (doT V (saB ps (nI i)) n) U (nx + 1) (min (ln + 1) 6) (hd (va_up ad (nx % 6) (some u_2)) 0 6) (hd (va_up ad (nx % 6) (some u_2)) 6 2) ps 0 ++ pool G (va_up ad (nx % 6) (some u_2)) (va_up S (nx % 6) T)) := hD
                refine lv_iload_n hx hb dX3_run_156 rfl (lv_at hl 4 rfl) ?_
                exact hret _ _ _ _ _ (doT V (saB ps (nI i)) n, U, nx + 1, min (ln + 1) 6, va_up ad (nx % 6) (some u_2), va_up S (nx % 6) T, ps, 0) ⟨by rw [if_pos hfq, ← hv32] <;> simp only [rnL, emB, nuB, if_true, if_false, lz_o, lz_1, lz_2, lz_5, lz_3, lz_4, if_pos c_9_1, if_pos c_58_3, if_neg c_76_4, if_pos c_89_5, if_pos c_131_7], u_2, by rw [if_pos hfq, ← hv32] <;> simp only [rnL, emB, nuB, if_true, if_false, lz_o, lz_1, lz_2, lz_5, lz_3, lz_4, if_pos c_9_1, if_pos c_58_3, if_neg c_76_4, if_pos c_89_5, if_pos c_131_7]⟩ hP hD hS dX3_run_157
            · refine lv_aload_n hx hb dX3_run_92 rfl (lv_at hl 4 rfl) ?_
              refine va_get (D := G.1) (ci := 3) (v := .ref (b 0)) (C := RX3) (T := TX3) (N := 5) hx hb hts hinX3 hown hK.1 hP 0 rfl rfl 4 (by decide) wk1 (fun _ h9 => h9) rfl dX3_run_93 ?_
              refine lv_iload_n hx hb dX3_run_96 rfl (lv_at hl 1 rfl) ?_
              refine lv_iconst (v := 1) hx hb dX3_run_97 (by decide) ?_
              refine lv_iadd hx hb dX3_run_98 ?_
              refine qtop (nI_add i 1) ?_
              refine cPV (As := [.int (nI (i + 1))]) (rest := []) ⟨hx, hb, hml, hown, hts⟩ (c_X1_signAt l G b ps (nI pl) (nI (i + 1)) hps) (cwV 1 hts gX3_run_X1_signAt rfl rfl rfl (by decide +kernel) ⟨Nat.le_of_ble_eq_true rfl, Nat.le_of_ble_eq_true rfl⟩) hK (hP.sub (ws' := pw G b ps (nI pl)) [26, 27] rfl) 0 (ci := 1) rfl rfl rfl rfl rfl hl.1 (Nat.le_of_ble_eq_true rfl) dX3_run_99 ⟨Nat.le_of_ble_eq_true rfl, Nat.le_of_ble_eq_true rfl⟩ ?_
              refine lv_bipush (v := 44) hx hb dX3_run_102 (by decide) ?_
              refine lv_icmp_ne (tgt := 111) hx hb dX3_run_104 (by decide) (fun c_104_8 => ?_) (fun c_104_8 => ?_)
              · refine lv_iconst (v := 0) hx hb dX3_run_111 (by decide) ?_
                refine lv_istore (lv' := [(5, .int 0), (4, .int (saB ps (nI i))), (3, .int (nI i)), (2, .int n), (1, .int k), (0, .ref o)]) hx hb dX3_run_112 hl (by decide) rfl (fun ls hl => ?_)
                refine lv_iload hx hb dX3_run_114 (lv_at hl 0 rfl) ?_
                refine lv_if_ne (tgt := 122) hx hb dX3_run_116 (by decide) (fun c_9 => absurd (by decide) c_9) (fun _ => ?_)
                refine lv_goto (tgt := 142) hx hb dX3_run_119 (by decide) ?_
                refine lv_iinc (v := nI (i + 1)) (lv' := [(3, .int (nI (i + 1))), (5, .int 0), (4, .int (saB ps (nI i))), (2, .int n), (1, .int k), (0, .ref o)]) hx hb dX3_run_142 hl (k := 2) rfl (nI_1 _) (by decide) rfl (fun ls hl => ?_)
                refine lv_goto (tgt := 32) hx hb dX3_run_145 (by decide) ?_
                exact ih (i + 1) k n V (by omega) (by rw [← hv32]; simp only [if_true, if_false, lz_o, lz_1, lz_2, lz_5, lz_3, lz_4, Nat.sub_zero, rnC, rnL, emB, nuB, if_pos c_9_1, if_pos c_58_3, if_neg c_76_4, if_neg c_89_5, if_neg c_104_8]) _ _ hP hD hS ls (lv_sub hl [0, 3, 4, 5] rfl)
              · refine lv_iconst (v := 1) hx hb dX3_run_107 (by decide) ?_
                refine lv_goto (tgt := 112) hx hb dX3_run_108 (by decide) ?_
                refine lv_istore (lv' := [(5, .int 1), (4, .int (saB ps (nI i))), (3, .int (nI i)), (2, .int n), (1, .int k), (0, .ref o)]) hx hb dX3_run_112 hl (by decide) rfl (fun ls hl => ?_)
                refine lv_iload hx hb dX3_run_114 (lv_at hl 0 rfl) ?_
                refine lv_if_ne (tgt := 122) hx hb dX3_run_116 (by decide) (fun _ => ?_) (fun c_9 => absurd c_9 (by decide))
                refine lv_aload_n hx hb dX3_run_122 rfl (lv_at hl 5 rfl) ?_
                refine lv_iload hx hb dX3_run_123 (lv_at hl 1 rfl) ?_
                refine lv_iload_n hx hb dX3_run_125 rfl (lv_at hl 3 rfl) ?_
                refine cAI (As := [.int (saB ps (nI i)), .int n]) (rest := []) ⟨hx, hb, hml, hown, hts⟩ (c_X3_doMove l G o t r h g b V U (nx + 1) (min (ln + 1) 6) (va_up ad (nx % 6) (some u_2)) (va_up S (nx % 6) T) ps pl (saB ps (nI i)) n _) (cwV 2 hts gX3_run_X3_doMove rfl rfl rfl (by decide +kernel) ⟨Nat.le_of_ble_eq_true rfl, Nat.le_of_ble_eq_true rfl⟩) hK hP hD hS hA 0 (ci := 3) rfl rfl rfl rfl rfl hl.1 (Nat.le_of_ble_eq_true rfl) dX3_run_126 ⟨Nat.le_of_ble_eq_true rfl, Nat.le_of_ble_eq_true rfl⟩ (fun r_9 u_9 H locs hr_9 hP hD hS => ?_)
                obtain ⟨hr_9, _, hu_9⟩ := hr_9
                have hr_9 : r_9 = doV V (saB ps (nI i)) n := hr_9
                subst hu_9
                subst hr_9
                have hP : va_P G.1 vwCl (ow G o t r h g b (doT V (saB ps (nI i)) n) U (nx + 1) (min (ln + 1) 6) (hd (va_up ad (nx % 6) (some u_2)) 0 6) (hd (va_up ad (nx % 6) (some u_2)) 6 2) ps pl ++ pool G (va_up ad (nx % 6) (some u_2)) (va_up S (nx % 6) T)) H := hP
                have hD : va_D A (ow G o t r h g b (doT V (saB ps (nI i)) n) U (nx + 1) (min (ln + 1) 6) (hd (va_up ad (nx % 6) (some u_2)) 0 6) (hd (va_up ad (nx % 6) (some u_2)) 6 2) ps pl ++ pool G (va_up ad (nx % 6) (some u_2)) (va_up S (nx % 6) T)) := hD
                refine lv_ldc (v := (-100005)) hx hb hown wk7 dX3_run_129 ?_
                refine lv_icmp_ne (tgt := 137) hx hb dX3_run_131 (by decide) (fun c_131_10 => ?_) (fun c_131_10 => ?_)
                · refine lv_iinc (v := k + 1) (lv' := [(1, .int (k + 1)), (5, .int 1), (4, .int (saB ps (nI i))), (3, .int (nI i)), (2, .int n), (0, .ref o)]) hx hb dX3_run_137 hl (k := 4) rfl rfl (by decide) rfl (fun ls hl => ?_)
                  refine lv_iconst (v := 0) hx hb dX3_run_140 (by decide) ?_
                  refine lv_istore_n (lv' := [(2, .int 0), (1, .int (k + 1)), (5, .int 1), (4, .int (saB ps (nI i))), (3, .int (nI i)), (0, .ref o)]) hx hb dX3_run_141 rfl hl (by decide) rfl (fun ls hl => ?_)
                  refine lv_iinc (v := nI (i + 1)) (lv' := [(3, .int (nI (i + 1))), (2, .int 0), (1, .int (k + 1)), (5, .int 1), (4, .int (saB ps (nI i))), (0, .ref o)]) hx hb dX3_run_142 hl (k := 4) rfl (nI_1 _) (by decide) rfl (fun ls hl => ?_)
                  refine lv_goto (tgt := 32) hx hb dX3_run_145 (by decide) ?_
                  exact ih (i + 1) (k + 1) 0 (doT V (saB ps (nI i)) n) (by omega) (by rw [← hv32]; simp only [if_true, if_false, lz_o, lz_1, lz_2, lz_5, lz_3, lz_4, Nat.sub_zero, rnC, rnL, emB, nuB, if_pos c_9_1, if_pos c_58_3, if_neg c_76_4, if_neg c_89_5, if_pos c_104_8, if_neg c_131_10]) _ _ hP hD hS ls (lv_sub hl [0, 1, 2, 5] rfl)
                · refine lv_goto (tgt := 148) hx hb dX3_run_134 (by decide) ?_
                  refine lv_aload_n hx hb dX3_run_148 rfl (lv_at hl 5 rfl) ?_
                  refine va_get (D := G.1) (ci := 3) (v := .ref (b 0)) (C := RX3) (T := TX3) (N := 5) hx hb hts hinX3 hown hK.1 hP 0 rfl rfl 4 (by decide) wk1 (fun _ h9 => h9) rfl dX3_run_149 ?_
                  refine lv_iconst (v := 0) hx hb dX3_run_152 (by decide) ?_
                  refine va_put (D := G.1) (ci := 1) (v := .int 0) (ty := .int) (C := RX1) (T := TX1) (N := 2) hx hb hts hinX1 tyX1 tyX1_ok nmX1 hown hK.1 hP hD hS 26 rfl rfl 1 (by decide) wk6 (fun _ h9 => h9) rfl (by decide +kernel) rfl rfl (Nat.le_of_ble_eq_true rfl) dX3_run_153 (fun H locs hP hD hS => ?_)
                  have hP : va_P G.1 vwCl (ow G o t r h g b (doT V (saB ps (nI i)) n) U (nx + 1) (min (ln + 1) 6) (hd (va_up ad (nx % 6) (some u_2)) 0 6) (hd (va_up ad (nx % 6) (some u_2)) 6 2) ps 0 ++ pool G (va_up ad (nx % 6) (some u_2)) (va_up S (nx % 6) T)) H := hP
                  have hD : va_D A (ow G o t r h g b (doT V (saB ps (nI i)) n) U (nx + 1) (min (ln + 1) 6) (hd (va_up ad (nx % 6) (some u_2)) 0 6) (hd (va_up ad (nx % 6) (some u_2)) 6 2) ps 0 ++ pool G (va_up ad (nx % 6) (some u_2)) (va_up S (nx % 6) T)) := hD
                  refine lv_iload_n hx hb dX3_run_156 rfl (lv_at hl 4 rfl) ?_
                  exact hret _ _ _ _ _ (doT V (saB ps (nI i)) n, U, nx + 1, min (ln + 1) 6, va_up ad (nx % 6) (some u_2), va_up S (nx % 6) T, ps, 0) ⟨by rw [if_pos hfq, ← hv32] <;> simp only [rnL, emB, nuB, if_true, if_false, lz_o, lz_1, lz_2, lz_5, lz_3, lz_4, if_pos c_9_1, if_pos c_58_3, if_neg c_76_4, if_neg c_89_5, if_pos c_104_8, if_pos c_131_10], u_2, by rw [if_pos hfq, ← hv32] <;> simp only [rnL, emB, nuB, if_true, if_false, lz_o, lz_1, lz_2, lz_5, lz_3, lz_4, if_pos c_9_1, if_pos c_58_3, if_neg c_76_4, if_neg c_89_5, if_pos c_104_8, if_pos c_131_10]⟩ hP hD hS dX3_run_157
        · refine lv_iload_n hx hb dX3_run_61 rfl (lv_at hl 2 rfl) ?_
          refine lv_bipush (v := 10) hx hb dX3_run_62 (by decide) ?_
          refine lv_imul hx hb dX3_run_64 ?_
          refine lv_iload hx hb dX3_run_65 (lv_at hl 0 rfl) ?_
          refine lv_iadd hx hb dX3_run_67 ?_
          refine lv_bipush (v := 48) hx hb dX3_run_68 (by decide) ?_
          refine lv_isub hx hb dX3_run_70 ?_
          refine lv_istore_n (lv' := [(2, .int (((n * 10) + (saB ps (nI i))) - 48)), (4, .int (saB ps (nI i))), (3, .int (nI i)), (1, .int k), (0, .ref o)]) hx hb dX3_run_71 rfl hl (by decide) rfl (fun ls hl => ?_)
          refine lv_iload hx hb dX3_run_72 (lv_at hl 1 rfl) ?_
          refine lv_bipush (v := 44) hx hb dX3_run_74 (by decide) ?_
          refine lv_icmp_eq (tgt := 111) hx hb dX3_run_76 (by decide) (fun c_76_11 => ?_) (fun c_76_11 => ?_)
          · refine lv_iconst (v := 0) hx hb dX3_run_111 (by decide) ?_
            refine lv_istore (lv' := [(5, .int 0), (2, .int (((n * 10) + (saB ps (nI i))) - 48)), (4, .int (saB ps (nI i))), (3, .int (nI i)), (1, .int k), (0, .ref o)]) hx hb dX3_run_112 hl (by decide) rfl (fun ls hl => ?_)
            refine lv_iload hx hb dX3_run_114 (lv_at hl 0 rfl) ?_
            refine lv_if_ne (tgt := 122) hx hb dX3_run_116 (by decide) (fun c_9 => absurd (by decide) c_9) (fun _ => ?_)
            refine lv_goto (tgt := 142) hx hb dX3_run_119 (by decide) ?_
            refine lv_iinc (v := nI (i + 1)) (lv' := [(3, .int (nI (i + 1))), (5, .int 0), (2, .int (((n * 10) + (saB ps (nI i))) - 48)), (4, .int (saB ps (nI i))), (1, .int k), (0, .ref o)]) hx hb dX3_run_142 hl (k := 3) rfl (nI_1 _) (by decide) rfl (fun ls hl => ?_)
            refine lv_goto (tgt := 32) hx hb dX3_run_145 (by decide) ?_
            exact ih (i + 1) k (((n * 10) + (saB ps (nI i))) - 48) V (by omega) (by rw [← hv32]; simp only [if_true, if_false, lz_o, lz_1, lz_2, lz_5, lz_3, lz_4, Nat.sub_zero, rnC, rnL, emB, nuB, if_pos c_9_1, if_neg c_58_3, if_pos c_76_11]) _ _ hP hD hS ls (lv_sub hl [0, 2, 4, 5] rfl)
          · refine lv_iload_n hx hb dX3_run_79 rfl (lv_at hl 2 rfl) ?_
            refine lv_iconst (v := 1) hx hb dX3_run_80 (by decide) ?_
            refine lv_iadd hx hb dX3_run_81 ?_
            refine qtop (nI_add i 1) ?_
            refine lv_aload_n hx hb dX3_run_82 rfl (lv_at hl 4 rfl) ?_
            refine va_get (D := G.1) (ci := 3) (v := .ref (b 0)) (C := RX3) (T := TX3) (N := 5) hx hb hts hinX3 hown hK.1 hP 0 rfl rfl 4 (by decide) wk1 (fun _ h9 => h9) rfl dX3_run_83 ?_
            refine va_get (D := G.1) (ci := 1) (v := .int (nI pl)) (C := RX1) (T := TX1) (N := 2) hx hb hts hinX1 hown hK.1 hP 26 rfl rfl 1 (by decide) wk6 (fun _ h9 => h9) rfl dX3_run_86 ?_
            refine lv_icmp_eq (tgt := 107) hx hb dX3_run_89 (by decide) (fun c_89_12 => ?_) (fun c_89_12 => ?_)
            · refine lv_iconst (v := 1) hx hb dX3_run_107 (by decide) ?_
              refine lv_goto (tgt := 112) hx hb dX3_run_108 (by decide) ?_
              refine lv_istore (lv' := [(5, .int 1), (2, .int (((n * 10) + (saB ps (nI i))) - 48)), (4, .int (saB ps (nI i))), (3, .int (nI i)), (1, .int k), (0, .ref o)]) hx hb dX3_run_112 hl (by decide) rfl (fun ls hl => ?_)
              refine lv_iload hx hb dX3_run_114 (lv_at hl 0 rfl) ?_
              refine lv_if_ne (tgt := 122) hx hb dX3_run_116 (by decide) (fun _ => ?_) (fun c_9 => absurd c_9 (by decide))
              refine lv_aload_n hx hb dX3_run_122 rfl (lv_at hl 5 rfl) ?_
              refine lv_iload hx hb dX3_run_123 (lv_at hl 2 rfl) ?_
              refine lv_iload_n hx hb dX3_run_125 rfl (lv_at hl 1 rfl) ?_
              refine cAI (As := [.int (saB ps (nI i)), .int (((n * 10) + (saB ps (nI i))) - 48)]) (rest := []) ⟨hx, hb, hml, hown, hts⟩ (c_X3_doMove l G o t r h g b V U (nx + 1) (min (ln + 1) 6) (va_up ad (nx % 6) (some u_2)) (va_up S (nx % 6) T) ps pl (saB ps (nI i)) (((n * 10) + (saB ps (nI i))) - 48) _) (cwV 2 hts gX3_run_X3_doMove rfl rfl rfl (by decide +kernel) ⟨Nat.le_of_ble_eq_true rfl, Nat.le_of_ble_eq_true rfl⟩) hK hP hD hS hA 0 (ci := 3) rfl rfl rfl rfl rfl hl.1 (Nat.le_of_ble_eq_true rfl) dX3_run_126 ⟨Nat.le_of_ble_eq_true rfl, Nat.le_of_ble_eq_true rfl⟩ (fun r_13 u_13 H locs hr_13 hP hD hS => ?_)
              obtain ⟨hr_13, _, hu_13⟩ := hr_13
              have hr_13 : r_13 = doV V (saB ps (nI i)) (((n * 10) + (saB ps (nI i))) - 48) := hr_13
              subst hu_13
              subst hr_13
              have hP : va_P G.1 vwCl (ow G o t r h g b (doT V (saB ps (nI i)) (((n * 10) + (saB ps (nI i))) - 48)) U (nx + 1) (min (ln + 1) 6) (hd (va_up ad (nx % 6) (some u_2)) 0 6) (hd (va_up ad (nx % 6) (some u_2)) 6 2) ps pl ++ pool G (va_up ad (nx % 6) (some u_2)) (va_up S (nx % 6) T)) H := hP
              have hD : va_D A (ow G o t r h g b (doT V (saB ps (nI i)) (((n * 10) + (saB ps (nI i))) - 48)) U (nx + 1) (min (ln + 1) 6) (hd (va_up ad (nx % 6) (some u_2)) 0 6) (hd (va_up ad (nx % 6) (some u_2)) 6 2) ps pl ++ pool G (va_up ad (nx % 6) (some u_2)) (va_up S (nx % 6) T)) := hD
              refine lv_ldc (v := (-100005)) hx hb hown wk7 dX3_run_129 ?_
              refine lv_icmp_ne (tgt := 137) hx hb dX3_run_131 (by decide) (fun c_131_14 => ?_) (fun c_131_14 => ?_)
              · refine lv_iinc (v := k + 1) (lv' := [(1, .int (k + 1)), (5, .int 1), (2, .int (((n * 10) + (saB ps (nI i))) - 48)), (4, .int (saB ps (nI i))), (3, .int (nI i)), (0, .ref o)]) hx hb dX3_run_137 hl (k := 4) rfl rfl (by decide) rfl (fun ls hl => ?_)
                refine lv_iconst (v := 0) hx hb dX3_run_140 (by decide) ?_
                refine lv_istore_n (lv' := [(2, .int 0), (1, .int (k + 1)), (5, .int 1), (4, .int (saB ps (nI i))), (3, .int (nI i)), (0, .ref o)]) hx hb dX3_run_141 rfl hl (by decide) rfl (fun ls hl => ?_)
                refine lv_iinc (v := nI (i + 1)) (lv' := [(3, .int (nI (i + 1))), (2, .int 0), (1, .int (k + 1)), (5, .int 1), (4, .int (saB ps (nI i))), (0, .ref o)]) hx hb dX3_run_142 hl (k := 4) rfl (nI_1 _) (by decide) rfl (fun ls hl => ?_)
                refine lv_goto (tgt := 32) hx hb dX3_run_145 (by decide) ?_
                exact ih (i + 1) (k + 1) 0 (doT V (saB ps (nI i)) (((n * 10) + (saB ps (nI i))) - 48)) (by omega) (by rw [← hv32]; simp only [if_true, if_false, lz_o, lz_1, lz_2, lz_5, lz_3, lz_4, Nat.sub_zero, rnC, rnL, emB, nuB, if_pos c_9_1, if_neg c_58_3, if_neg c_76_11, if_pos c_89_12, if_neg c_131_14]) _ _ hP hD hS ls (lv_sub hl [0, 1, 2, 5] rfl)
              · refine lv_goto (tgt := 148) hx hb dX3_run_134 (by decide) ?_
                refine lv_aload_n hx hb dX3_run_148 rfl (lv_at hl 5 rfl) ?_
                refine va_get (D := G.1) (ci := 3) (v := .ref (b 0)) (C := RX3) (T := TX3) (N := 5) hx hb hts hinX3 hown hK.1 hP 0 rfl rfl 4 (by decide) wk1 (fun _ h9 => h9) rfl dX3_run_149 ?_
                refine lv_iconst (v := 0) hx hb dX3_run_152 (by decide) ?_
                refine va_put (D := G.1) (ci := 1) (v := .int 0) (ty := .int) (C := RX1) (T := TX1) (N := 2) hx hb hts hinX1 tyX1 tyX1_ok nmX1 hown hK.1 hP hD hS 26 rfl rfl 1 (by decide) wk6 (fun _ h9 => h9) rfl (by decide +kernel) rfl rfl (Nat.le_of_ble_eq_true rfl) dX3_run_153 (fun H locs hP hD hS => ?_)
                have hP : va_P G.1 vwCl (ow G o t r h g b (doT V (saB ps (nI i)) (((n * 10) + (saB ps (nI i))) - 48)) U (nx + 1) (min (ln + 1) 6) (hd (va_up ad (nx % 6) (some u_2)) 0 6) (hd (va_up ad (nx % 6) (some u_2)) 6 2) ps 0 ++ pool G (va_up ad (nx % 6) (some u_2)) (va_up S (nx % 6) T)) H := hP
                have hD : va_D A (ow G o t r h g b (doT V (saB ps (nI i)) (((n * 10) + (saB ps (nI i))) - 48)) U (nx + 1) (min (ln + 1) 6) (hd (va_up ad (nx % 6) (some u_2)) 0 6) (hd (va_up ad (nx % 6) (some u_2)) 6 2) ps 0 ++ pool G (va_up ad (nx % 6) (some u_2)) (va_up S (nx % 6) T)) := hD
                refine lv_iload_n hx hb dX3_run_156 rfl (lv_at hl 4 rfl) ?_
                exact hret _ _ _ _ _ (doT V (saB ps (nI i)) (((n * 10) + (saB ps (nI i))) - 48), U, nx + 1, min (ln + 1) 6, va_up ad (nx % 6) (some u_2), va_up S (nx % 6) T, ps, 0) ⟨by rw [if_pos hfq, ← hv32] <;> simp only [rnL, emB, nuB, if_true, if_false, lz_o, lz_1, lz_2, lz_5, lz_3, lz_4, if_pos c_9_1, if_neg c_58_3, if_neg c_76_11, if_pos c_89_12, if_pos c_131_14], u_2, by rw [if_pos hfq, ← hv32] <;> simp only [rnL, emB, nuB, if_true, if_false, lz_o, lz_1, lz_2, lz_5, lz_3, lz_4, if_pos c_9_1, if_neg c_58_3, if_neg c_76_11, if_pos c_89_12, if_pos c_131_14]⟩ hP hD hS dX3_run_157
            · refine lv_aload_n hx hb dX3_run_92 rfl (lv_at hl 4 rfl) ?_
              refine va_get (D := G.1) (ci := 3) (v := .ref (b 0)) (C := RX3) (T := TX3) (N := 5) hx hb hts hinX3 hown hK.1 hP 0 rfl rfl 4 (by decide) wk1 (fun _ h9 => h9) rfl dX3_run_93 ?_
              refine lv_iload_n hx hb dX3_run_96 rfl (lv_at hl 2 rfl) ?_
              refine lv_iconst (v := 1) hx hb dX3_run_97 (by decide) ?_
              refine lv_iadd hx hb dX3_run_98 ?_
              refine qtop (nI_add i 1) ?_
              refine cPV (As := [.int (nI (i + 1))]) (rest := []) ⟨hx, hb, hml, hown, hts⟩ (c_X1_signAt l G b ps (nI pl) (nI (i + 1)) hps) (cwV 1 hts gX3_run_X1_signAt rfl rfl rfl (by decide +kernel) ⟨Nat.le_of_ble_eq_true rfl, Nat.le_of_ble_eq_true rfl⟩) hK (hP.sub (ws' := pw G b ps (nI pl)) [26, 27] rfl) 0 (ci := 1) rfl rfl rfl rfl rfl hl.1 (Nat.le_of_ble_eq_true rfl) dX3_run_99 ⟨Nat.le_of_ble_eq_true rfl, Nat.le_of_ble_eq_true rfl⟩ ?_
              refine lv_bipush (v := 44) hx hb dX3_run_102 (by decide) ?_
              refine lv_icmp_ne (tgt := 111) hx hb dX3_run_104 (by decide) (fun c_104_15 => ?_) (fun c_104_15 => ?_)
              · refine lv_iconst (v := 0) hx hb dX3_run_111 (by decide) ?_
                refine lv_istore (lv' := [(5, .int 0), (2, .int (((n * 10) + (saB ps (nI i))) - 48)), (4, .int (saB ps (nI i))), (3, .int (nI i)), (1, .int k), (0, .ref o)]) hx hb dX3_run_112 hl (by decide) rfl (fun ls hl => ?_)
                refine lv_iload hx hb dX3_run_114 (lv_at hl 0 rfl) ?_
                refine lv_if_ne (tgt := 122) hx hb dX3_run_116 (by decide) (fun c_9 => absurd (by decide) c_9) (fun _ => ?_)
                refine lv_goto (tgt := 142) hx hb dX3_run_119 (by decide) ?_
                refine lv_iinc (v := nI (i + 1)) (lv' := [(3, .int (nI (i + 1))), (5, .int 0), (2, .int (((n * 10) + (saB ps (nI i))) - 48)), (4, .int (saB ps (nI i))), (1, .int k), (0, .ref o)]) hx hb dX3_run_142 hl (k := 3) rfl (nI_1 _) (by decide) rfl (fun ls hl => ?_)
                refine lv_goto (tgt := 32) hx hb dX3_run_145 (by decide) ?_
                exact ih (i + 1) k (((n * 10) + (saB ps (nI i))) - 48) V (by omega) (by rw [← hv32]; simp only [if_true, if_false, lz_o, lz_1, lz_2, lz_5, lz_3, lz_4, Nat.sub_zero, rnC, rnL, emB, nuB, if_pos c_9_1, if_neg c_58_3, if_neg c_76_11, if_neg c_89_12, if_neg c_104_15]) _ _ hP hD hS ls (lv_sub hl [0, 2, 4, 5] rfl)
              · refine lv_iconst (v := 1) hx hb dX3_run_107 (by decide) ?_
                refine lv_goto (tgt := 112) hx hb dX3_run_108 (by decide) ?_
                refine lv_istore (lv' := [(5, .int 1), (2, .int (((n * 10) + (saB ps (nI i))) - 48)), (4, .int (saB ps (nI i))), (3, .int (nI i)), (1, .int k), (0, .ref o)]) hx hb dX3_run_112 hl (by decide) rfl (fun ls hl => ?_)
                refine lv_iload hx hb dX3_run_114 (lv_at hl 0 rfl) ?_
                refine lv_if_ne (tgt := 122) hx hb dX3_run_116 (by decide) (fun _ => ?_) (fun c_9 => absurd c_9 (by decide))
                refine lv_aload_n hx hb dX3_run_122 rfl (lv_at hl 5 rfl) ?_
                refine lv_iload hx hb dX3_run_123 (lv_at hl 2 rfl) ?_
                refine lv_iload_n hx hb dX3_run_125 rfl (lv_at hl 1 rfl) ?_
                refine cAI (As := [.int (saB ps (nI i)), .int (((n * 10) + (saB ps (nI i))) - 48)]) (rest := []) ⟨hx, hb, hml, hown, hts⟩ (c_X3_doMove l G o t r h g b V U (nx + 1) (min (ln + 1) 6) (va_up ad (nx % 6) (some u_2)) (va_up S (nx % 6) T) ps pl (saB ps (nI i)) (((n * 10) + (saB ps (nI i))) - 48) _) (cwV 2 hts gX3_run_X3_doMove rfl rfl rfl (by decide +kernel) ⟨Nat.le_of_ble_eq_true rfl, Nat.le_of_ble_eq_true rfl⟩) hK hP hD hS hA 0 (ci := 3) rfl rfl rfl rfl rfl hl.1 (Nat.le_of_ble_eq_true rfl) dX3_run_126 ⟨Nat.le_of_ble_eq_true rfl, Nat.le_of_ble_eq_true rfl⟩ (fun r_16 u_16 H locs hr_16 hP hD hS => ?_)
                obtain ⟨hr_16, _, hu_16⟩ := hr_16
                have hr_16 : r_16 = doV V (saB ps (nI i)) (((n * 10) + (saB ps (nI i))) - 48) := hr_16
                subst hu_16
                subst hr_16
                have hP : va_P G.1 vwCl (ow G o t r h g b (doT V (saB ps (nI i)) (((n * 10) + (saB ps (nI i))) - 48)) U (nx + 1) (min (ln + 1) 6) (hd (va_up ad (nx % 6) (some u_2)) 0 6) (hd (va_up ad (nx % 6) (some u_2)) 6 2) ps pl ++ pool G (va_up ad (nx % 6) (some u_2)) (va_up S (nx % 6) T)) H := hP
                have hD : va_D A (ow G o t r h g b (doT V (saB ps (nI i)) (((n * 10) + (saB ps (nI i))) - 48)) U (nx + 1) (min (ln + 1) 6) (hd (va_up ad (nx % 6) (some u_2)) 0 6) (hd (va_up ad (nx % 6) (some u_2)) 6 2) ps pl ++ pool G (va_up ad (nx % 6) (some u_2)) (va_up S (nx % 6) T)) := hD
                refine lv_ldc (v := (-100005)) hx hb hown wk7 dX3_run_129 ?_
                refine lv_icmp_ne (tgt := 137) hx hb dX3_run_131 (by decide) (fun c_131_17 => ?_) (fun c_131_17 => ?_)
                · refine lv_iinc (v := k + 1) (lv' := [(1, .int (k + 1)), (5, .int 1), (2, .int (((n * 10) + (saB ps (nI i))) - 48)), (4, .int (saB ps (nI i))), (3, .int (nI i)), (0, .ref o)]) hx hb dX3_run_137 hl (k := 4) rfl rfl (by decide) rfl (fun ls hl => ?_)
                  refine lv_iconst (v := 0) hx hb dX3_run_140 (by decide) ?_
                  refine lv_istore_n (lv' := [(2, .int 0), (1, .int (k + 1)), (5, .int 1), (4, .int (saB ps (nI i))), (3, .int (nI i)), (0, .ref o)]) hx hb dX3_run_141 rfl hl (by decide) rfl (fun ls hl => ?_)
                  refine lv_iinc (v := nI (i + 1)) (lv' := [(3, .int (nI (i + 1))), (2, .int 0), (1, .int (k + 1)), (5, .int 1), (4, .int (saB ps (nI i))), (0, .ref o)]) hx hb dX3_run_142 hl (k := 4) rfl (nI_1 _) (by decide) rfl (fun ls hl => ?_)
                  refine lv_goto (tgt := 32) hx hb dX3_run_145 (by decide) ?_
                  exact ih (i + 1) (k + 1) 0 (doT V (saB ps (nI i)) (((n * 10) + (saB ps (nI i))) - 48)) (by omega) (by rw [← hv32]; simp only [if_true, if_false, lz_o, lz_1, lz_2, lz_5, lz_3, lz_4, Nat.sub_zero, rnC, rnL, emB, nuB, if_pos c_9_1, if_neg c_58_3, if_neg c_76_11, if_neg c_89_12, if_pos c_104_15, if_neg c_131_17]) _ _ hP hD hS ls (lv_sub hl [0, 1, 2, 5] rfl)
                · refine lv_goto (tgt := 148) hx hb dX3_run_134 (by decide) ?_
                  refine lv_aload_n hx hb dX3_run_148 rfl (lv_at hl 5 rfl) ?_
                  refine va_get (D := G.1) (ci := 3) (v := .ref (b 0)) (C := RX3) (T := TX3) (N := 5) hx hb hts hinX3 hown hK.1 hP 0 rfl rfl 4 (by decide) wk1 (fun _ h9 => h9) rfl dX3_run_149 ?_
                  refine lv_iconst (v := 0) hx hb dX3_run_152 (by decide) ?_
                  refine va_put (D := G.1) (ci := 1) (v := .int 0) (ty := .int) (C := RX1) (T := TX1) (N := 2) hx hb hts hinX1 tyX1 tyX1_ok nmX1 hown hK.1 hP hD hS 26 rfl rfl 1 (by decide) wk6 (fun _ h9 => h9) rfl (by decide +kernel) rfl rfl (Nat.le_of_ble_eq_true rfl) dX3_run_153 (fun H locs hP hD hS => ?_)
                  have hP : va_P G.1 vwCl (ow G o t r h g b (doT V (saB ps (nI i)) (((n * 10) + (saB ps (nI i))) - 48)) U (nx + 1) (min (ln + 1) 6) (hd (va_up ad (nx % 6) (some u_2)) 0 6) (hd (va_up ad (nx % 6) (some u_2)) 6 2) ps 0 ++ pool G (va_up ad (nx % 6) (some u_2)) (va_up S (nx % 6) T)) H := hP
                  have hD : va_D A (ow G o t r h g b (doT V (saB ps (nI i)) (((n * 10) + (saB ps (nI i))) - 48)) U (nx + 1) (min (ln + 1) 6) (hd (va_up ad (nx % 6) (some u_2)) 0 6) (hd (va_up ad (nx % 6) (some u_2)) 6 2) ps 0 ++ pool G (va_up ad (nx % 6) (some u_2)) (va_up S (nx % 6) T)) := hD
                  refine lv_iload_n hx hb dX3_run_156 rfl (lv_at hl 4 rfl) ?_
                  exact hret _ _ _ _ _ (doT V (saB ps (nI i)) (((n * 10) + (saB ps (nI i))) - 48), U, nx + 1, min (ln + 1) 6, va_up ad (nx % 6) (some u_2), va_up S (nx % 6) T, ps, 0) ⟨by rw [if_pos hfq, ← hv32] <;> simp only [rnL, emB, nuB, if_true, if_false, lz_o, lz_1, lz_2, lz_5, lz_3, lz_4, if_pos c_9_1, if_neg c_58_3, if_neg c_76_11, if_neg c_89_12, if_pos c_104_15, if_pos c_131_17], u_2, by rw [if_pos hfq, ← hv32] <;> simp only [rnL, emB, nuB, if_true, if_false, lz_o, lz_1, lz_2, lz_5, lz_3, lz_4, if_pos c_9_1, if_neg c_58_3, if_neg c_76_11, if_neg c_89_12, if_pos c_104_15, if_pos c_131_17]⟩ hP hD hS dX3_run_157
    exact L32 (pl - 0) 0 0 0 T (by omega) (by simp only [if_true, if_false, lz_o, lz_1, lz_2, lz_5, lz_3, lz_4, Nat.sub_zero, rnC, if_pos c_9_1]) _ _ hP hD hS ls (lv_sub hl [0, 1, 2, 3] rfl)
  · refine lv_ldc (v := (-100003)) hx hb hown wk3 dX3_run_12 ?_
    refine W.widen (k := 11) (n := 62) (by decide) (by decide) ?_
    exact hret _ _ _ _ _ (T, U, nx, ln, ad, S, ps, pl) ⟨by simp only [if_true, if_false, lz_o, lz_1, lz_2, lz_5, lz_3, lz_4, Nat.sub_zero, rnC, if_neg c_9_1], (fun _ => 0), by simp only [if_true, if_false, lz_o, lz_1, lz_2, lz_5, lz_3, lz_4, Nat.sub_zero, rnC, if_neg c_9_1]⟩ hP hD hS dX3_run_14
