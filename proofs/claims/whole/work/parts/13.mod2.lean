/-! CONTRACTS of the reference: its calls (laid by wip/whole/gen/mod2.py) -/
set_option maxHeartbeats 4000000 in
set_option maxRecDepth 100000 in
theorem c_X4_dropNow (l : Launch) (G : qG) (a : Nat → Nat) (z sp pa st sv pd tl : Nat → Int32) (ns ty spt tm : Int32) (hok : DrOK z) (sz : Nat) : MV l yX4_dropNow wsX4_dropNow 2 49 G sz [.ref (a 0)] (mw G a z sp pa st sv pd tl ns ty spt tm) (mw G a (doZ z) sp pa st sv pd tl ns ty spt tm) := by
  refine MV.of' (by decide) rfl (Nat.le_of_ble_eq_true rfl) ?_
  intro p e s m below meth c hx hb hml hown hts hK hsz hP A hAe hA hD hS hmn Q hret ls hl
  have hown : s.vm.findClass RX4 = some m.cls := hown
  have hl : lv_has ls 3 [(0, .ref (a 0))] := hl
  have wk1 := hts (Cond.fieldLink RX4 7 "TurnBidsModel" "z" "[I") (List.mem_of_getElem? (i := 1) rfl)
  have wk2 := hts (Cond.constant RX4 39 (-100006)) (List.mem_of_getElem? (i := 2) rfl)
  have wk3 := hts (Cond.methodLink RX4 80 yX4_left) (List.mem_of_getElem? (i := 3) rfl)
  have wk8 := hts (Cond.methodLink RX4 83 yX4_pay) (List.mem_of_getElem? (i := 8) rfl)
  have wk12 := hts (Cond.methodLink RX4 77 yX4_pass) (List.mem_of_getElem? (i := 12) rfl)
  have wk20 := hts (Cond.methodLink RX4 87 yX4_endNow) (List.mem_of_getElem? (i := 20) rfl)
  have hinX4 : ∀ w ∈ wsX40, w ∈ wsX4_dropNow := fun _ h => (List.mem_cons_of_mem _ (List.mem_append_right _ h))
  obtain ⟨hz5, hdr1, hdr2⟩ := hok
  refine lv_aload_n hx hb dX4_dropNow_0 rfl (lv_at hl 0 rfl) ?_
  refine va_get (D := G.1) (ci := 4) (v := .ref (a 1)) (C := RX4) (T := TX4) (N := 11) hx hb hts hinX4 hown hK.1 hP 0 rfl rfl 0 (by decide) wk1 (fun _ h9 => h9) rfl dX4_dropNow_1 ?_
  refine lv_iconst (v := 5) hx hb dX4_dropNow_4 (by decide) ?_
  refine qild hx hb hK.1 hP 1 0 rfl rfl (k := 5) rfl (vp_in_nI (n := 5) (by decide) (by decide)) dX4_dropNow_5 ?_
  refine lv_istore_n (lv' := [(1, .int (z 5)), (0, .ref (a 0))]) hx hb dX4_dropNow_6 rfl hl (by decide) rfl (fun ls hl => ?_)
  refine lv_aload_n hx hb dX4_dropNow_7 rfl (lv_at hl 1 rfl) ?_
  refine cPV (As := []) (rest := []) ⟨hx, hb, hml, hown, hts⟩ (c_X4_left l G a z sp pa st sv pd tl ns ty spt tm) (cwV 0 hts gX4_dropNow_X4_left rfl rfl rfl (by decide +kernel) ⟨Nat.le_of_ble_eq_true rfl, Nat.le_of_ble_eq_true rfl⟩) hK hP 0 (ci := 4) rfl rfl rfl rfl rfl hl.1 (Nat.le_of_ble_eq_true rfl) dX4_dropNow_8 ⟨Nat.le_of_ble_eq_true rfl, Nat.le_of_ble_eq_true rfl⟩ ?_
  refine lv_iconst (v := 1) hx hb dX4_dropNow_11 (by decide) ?_
  refine lv_isub hx hb dX4_dropNow_12 ?_
  refine lv_istore_n (lv' := [(2, .int ((lfZ z) - 1)), (1, .int (z 5)), (0, .ref (a 0))]) hx hb dX4_dropNow_13 rfl hl (by decide) rfl (fun ls hl => ?_)
  refine lv_aload_n hx hb dX4_dropNow_14 rfl (lv_at hl 2 rfl) ?_
  refine va_get (D := G.1) (ci := 4) (v := .ref (a 1)) (C := RX4) (T := TX4) (N := 11) hx hb hts hinX4 hown hK.1 hP 0 rfl rfl 0 (by decide) wk1 (fun _ h9 => h9) rfl dX4_dropNow_15 ?_
  refine lv_bipush (v := 23) hx hb dX4_dropNow_18 (by decide) ?_
  refine lv_iload_n hx hb dX4_dropNow_20 rfl (lv_at hl 1 rfl) ?_
  refine lv_iadd hx hb dX4_dropNow_21 ?_
  refine qild hx hb hK.1 hP 1 0 rfl rfl (k := 23 + ix (z 5)) (ixa (c := 23) (m := 5) (n := 53) rfl (by assumption) (by decide) (by decide)).1 (ixa (c := 23) (m := 5) (n := 53) rfl (by assumption) (by decide) (by decide)).2 dX4_dropNow_22 ?_
  refine lv_ldc (v := (-100006)) hx hb hown wk2 dX4_dropNow_23 ?_
  refine lv_icmp_eq (tgt := 52) hx hb dX4_dropNow_25 (by decide) (fun c_25_1 => ?_) (fun c_25_1 => ?_)
  · refine lv_iload_n hx hb dX4_dropNow_52 rfl (lv_at hl 0 rfl) ?_
    refine lv_iconst (v := 1) hx hb dX4_dropNow_53 (by decide) ?_
    refine lv_icmp_le (tgt := 72) hx hb dX4_dropNow_54 (by decide) (fun c_54_2 => ?_) (fun c_54_2 => ?_)
    · have hq := hdr1 c_54_2
      simp only [doA, if_pos c_25_1] at hq
      obtain ⟨hq1, hq2⟩ := hq
      refine lv_aload_n hx hb dX4_dropNow_72 rfl (lv_at hl 2 rfl) ?_
      refine cAV (As := []) (rest := []) ⟨hx, hb, hml, hown, hts⟩ (c_X4_pass l G a z sp pa st sv pd tl ns ty spt tm hq1 _) (cwV 0 hts gX4_dropNow_X4_pass rfl rfl rfl (by decide +kernel) ⟨Nat.le_of_ble_eq_true rfl, Nat.le_of_ble_eq_true rfl⟩) hK hP hD hS hA 0 (ci := 4) rfl rfl rfl rfl rfl hl.1 (Nat.le_of_ble_eq_true rfl) dX4_dropNow_73 ⟨Nat.le_of_ble_eq_true rfl, Nat.le_of_ble_eq_true rfl⟩ (fun u_3 H locs hr_3 hP hD hS => ?_)
      have hP : va_P G.1 vwCl (mw G a (psZ z) sp pa st sv pd tl ns ty spt tm) H := hP
      have hD : va_D A (mw G a (psZ z) sp pa st sv pd tl ns ty spt tm) := hD
      refine lv_aload_n hx hb dX4_dropNow_76 rfl (lv_at hl 2 rfl) ?_
      refine va_get (D := G.1) (ci := 4) (v := .ref (a 1)) (C := RX4) (T := TX4) (N := 11) hx hb hts hinX4 hown hK.1 hP 0 rfl rfl 0 (by decide) wk1 (fun _ h9 => h9) rfl dX4_dropNow_77 ?_
      refine lv_bipush (v := 28) hx hb dX4_dropNow_80 (by decide) ?_
      refine lv_iload_n hx hb dX4_dropNow_82 rfl (lv_at hl 1 rfl) ?_
      refine lv_iadd hx hb dX4_dropNow_83 ?_
      refine lv_iload_n hx hb dX4_dropNow_84 rfl (lv_at hl 0 rfl) ?_
      refine qist hx hb hK.1 hP hD hS 1 0 rfl rfl (k := 28 + ix (z 5)) (ixa (c := 28) (m := 5) (n := 53) rfl (by assumption) (by decide) (by decide)).1 (ixa (c := 28) (m := 5) (n := 53) rfl (by assumption) (by decide) (by decide)).2 dX4_dropNow_85 (fun H locs hP hD hS => ?_)
      have hP : va_P G.1 vwCl (mw G a (upd (psZ z) (28 + ix (z 5)) ((lfZ z) - 1)) sp pa st sv pd tl ns ty spt tm) H := hP
      have hD : va_D A (mw G a (upd (psZ z) (28 + ix (z 5)) ((lfZ z) - 1)) sp pa st sv pd tl ns ty spt tm) := hD
      refine lv_aload_n hx hb dX4_dropNow_86 rfl (lv_at hl 2 rfl) ?_
      refine lv_aload_n hx hb dX4_dropNow_87 rfl (lv_at hl 2 rfl) ?_
      refine va_get (D := G.1) (ci := 4) (v := .ref (a 1)) (C := RX4) (T := TX4) (N := 11) hx hb hts hinX4 hown hK.1 hP 0 rfl rfl 0 (by decide) wk1 (fun _ h9 => h9) rfl dX4_dropNow_88 ?_
      refine lv_iconst (v := 5) hx hb dX4_dropNow_91 (by decide) ?_
      refine qild hx hb hK.1 hP 1 0 rfl rfl (k := 5) rfl (vp_in_nI (n := 5) (by decide) (by decide)) dX4_dropNow_92 ?_
      refine cAV (As := [.int ((upd (psZ z) (28 + ix (z 5)) ((lfZ z) - 1)) 5)]) (rest := []) ⟨hx, hb, hml, hown, hts⟩ (c_X4_endNow l G a (upd (psZ z) (28 + ix (z 5)) ((lfZ z) - 1)) sp pa st sv pd tl ns ty spt tm ((upd (psZ z) (28 + ix (z 5)) ((lfZ z) - 1)) 5) hq2 _) (cwV 1 hts gX4_dropNow_X4_endNow rfl rfl rfl (by decide +kernel) ⟨Nat.le_of_ble_eq_true rfl, Nat.le_of_ble_eq_true rfl⟩) hK hP hD hS hA 0 (ci := 4) rfl rfl rfl rfl rfl hl.1 (Nat.le_of_ble_eq_true rfl) dX4_dropNow_93 ⟨Nat.le_of_ble_eq_true rfl, Nat.le_of_ble_eq_true rfl⟩ (fun u_4 H locs hr_4 hP hD hS => ?_)
      have hP : va_P G.1 vwCl (mw G a (ndZ (upd (psZ z) (28 + ix (z 5)) ((lfZ z) - 1)) ((upd (psZ z) (28 + ix (z 5)) ((lfZ z) - 1)) 5)) sp pa st sv pd tl ns ty spt tm) H := hP
      have hD : va_D A (mw G a (ndZ (upd (psZ z) (28 + ix (z 5)) ((lfZ z) - 1)) ((upd (psZ z) (28 + ix (z 5)) ((lfZ z) - 1)) 5)) sp pa st sv pd tl ns ty spt tm) := hD
      have hf0 : (ndZ (upd (psZ z) (28 + ix (z 5)) ((lfZ z) - 1)) ((upd (psZ z) (28 + ix (z 5)) ((lfZ z) - 1)) 5)) = (doZ z) := (by simp only [doZ, doA, if_pos c_25_1, if_pos c_54_2])
      have hP : va_P G.1 vwCl (mw G a (doZ z) sp pa st sv pd tl ns ty spt tm) H := by rw [← hf0]; exact hP
      have hD : va_D A (mw G a (doZ z) sp pa st sv pd tl ns ty spt tm) := by rw [← hf0]; exact hD
      exact hret _ _ _ _ () trivial hP hD hS dX4_dropNow_96
    · have hq := hdr2 c_54_2
      simp only [doA, if_pos c_25_1] at hq
      refine lv_aload_n hx hb dX4_dropNow_57 rfl (lv_at hl 2 rfl) ?_
      refine va_get (D := G.1) (ci := 4) (v := .ref (a 1)) (C := RX4) (T := TX4) (N := 11) hx hb hts hinX4 hown hK.1 hP 0 rfl rfl 0 (by decide) wk1 (fun _ h9 => h9) rfl dX4_dropNow_58 ?_
      refine lv_bipush (v := 28) hx hb dX4_dropNow_61 (by decide) ?_
      refine lv_iload_n hx hb dX4_dropNow_63 rfl (lv_at hl 1 rfl) ?_
      refine lv_iadd hx hb dX4_dropNow_64 ?_
      refine lv_iload_n hx hb dX4_dropNow_65 rfl (lv_at hl 0 rfl) ?_
      refine qist hx hb hK.1 hP hD hS 1 0 rfl rfl (k := 28 + ix (z 5)) (ixa (c := 28) (m := 5) (n := 53) rfl (by assumption) (by decide) (by decide)).1 (ixa (c := 28) (m := 5) (n := 53) rfl (by assumption) (by decide) (by decide)).2 dX4_dropNow_66 (fun H locs hP hD hS => ?_)
      have hP : va_P G.1 vwCl (mw G a (upd z (28 + ix (z 5)) ((lfZ z) - 1)) sp pa st sv pd tl ns ty spt tm) H := hP
      have hD : va_D A (mw G a (upd z (28 + ix (z 5)) ((lfZ z) - 1)) sp pa st sv pd tl ns ty spt tm) := hD
      refine lv_aload_n hx hb dX4_dropNow_67 rfl (lv_at hl 2 rfl) ?_
      refine cAV (As := []) (rest := []) ⟨hx, hb, hml, hown, hts⟩ (c_X4_pass l G a (upd z (28 + ix (z 5)) ((lfZ z) - 1)) sp pa st sv pd tl ns ty spt tm hq _) (cwV 0 hts gX4_dropNow_X4_pass rfl rfl rfl (by decide +kernel) ⟨Nat.le_of_ble_eq_true rfl, Nat.le_of_ble_eq_true rfl⟩) hK hP hD hS hA 0 (ci := 4) rfl rfl rfl rfl rfl hl.1 (Nat.le_of_ble_eq_true rfl) dX4_dropNow_68 ⟨Nat.le_of_ble_eq_true rfl, Nat.le_of_ble_eq_true rfl⟩ (fun u_5 H locs hr_5 hP hD hS => ?_)
      have hP : va_P G.1 vwCl (mw G a (psZ (upd z (28 + ix (z 5)) ((lfZ z) - 1))) sp pa st sv pd tl ns ty spt tm) H := hP
      have hD : va_D A (mw G a (psZ (upd z (28 + ix (z 5)) ((lfZ z) - 1))) sp pa st sv pd tl ns ty spt tm) := hD
      have hf0 : (psZ (upd z (28 + ix (z 5)) ((lfZ z) - 1))) = (doZ z) := (by simp only [doZ, doA, if_pos c_25_1, if_neg c_54_2])
      have hP : va_P G.1 vwCl (mw G a (doZ z) sp pa st sv pd tl ns ty spt tm) H := by rw [← hf0]; exact hP
      have hD : va_D A (mw G a (doZ z) sp pa st sv pd tl ns ty spt tm) := by rw [← hf0]; exact hD
      exact hret _ _ _ _ () trivial hP hD hS dX4_dropNow_71
  · refine lv_aload_n hx hb dX4_dropNow_28 rfl (lv_at hl 2 rfl) ?_
    refine lv_iload_n hx hb dX4_dropNow_29 rfl (lv_at hl 1 rfl) ?_
    refine lv_aload_n hx hb dX4_dropNow_30 rfl (lv_at hl 2 rfl) ?_
    refine va_get (D := G.1) (ci := 4) (v := .ref (a 1)) (C := RX4) (T := TX4) (N := 11) hx hb hts hinX4 hown hK.1 hP 0 rfl rfl 0 (by decide) wk1 (fun _ h9 => h9) rfl dX4_dropNow_31 ?_
    refine lv_bipush (v := 23) hx hb dX4_dropNow_34 (by decide) ?_
    refine lv_iload_n hx hb dX4_dropNow_36 rfl (lv_at hl 1 rfl) ?_
    refine lv_iadd hx hb dX4_dropNow_37 ?_
    refine qild hx hb hK.1 hP 1 0 rfl rfl (k := 23 + ix (z 5)) (ixa (c := 23) (m := 5) (n := 53) rfl (by assumption) (by decide) (by decide)).1 (ixa (c := 23) (m := 5) (n := 53) rfl (by assumption) (by decide) (by decide)).2 dX4_dropNow_38 ?_
    refine lv_aload_n hx hb dX4_dropNow_39 rfl (lv_at hl 2 rfl) ?_
    refine va_get (D := G.1) (ci := 4) (v := .ref (a 1)) (C := RX4) (T := TX4) (N := 11) hx hb hts hinX4 hown hK.1 hP 0 rfl rfl 0 (by decide) wk1 (fun _ h9 => h9) rfl dX4_dropNow_40 ?_
    refine lv_iconst (v := 3) hx hb dX4_dropNow_43 (by decide) ?_
    refine qild hx hb hK.1 hP 1 0 rfl rfl (k := 3) rfl (vp_in_nI (n := 3) (by decide) (by decide)) dX4_dropNow_44 ?_
    refine lv_imul hx hb dX4_dropNow_45 ?_
    refine lv_bipush (v := 100) hx hb dX4_dropNow_46 (by decide) ?_
    refine lv_idiv hx hb dX4_dropNow_48 (by decide) ?_
    refine cAV (As := [.int (z 5), .int (((z (23 + ix (z 5))) * (z 3)) / 100)]) (rest := []) ⟨hx, hb, hml, hown, hts⟩ (c_X4_pay l G a z sp pa st sv pd tl ns ty spt tm (z 5) (((z (23 + ix (z 5))) * (z 3)) / 100) (by assumption) _) (cwV 2 hts gX4_dropNow_X4_pay rfl rfl rfl (by decide +kernel) ⟨Nat.le_of_ble_eq_true rfl, Nat.le_of_ble_eq_true rfl⟩) hK hP hD hS hA 0 (ci := 4) rfl rfl rfl rfl rfl hl.1 (Nat.le_of_ble_eq_true rfl) dX4_dropNow_49 ⟨Nat.le_of_ble_eq_true rfl, Nat.le_of_ble_eq_true rfl⟩ (fun u_6 H locs hr_6 hP hD hS => ?_)
    have hP : va_P G.1 vwCl (mw G a (pyZ z (z 5) (((z (23 + ix (z 5))) * (z 3)) / 100)) sp pa st sv pd tl ns ty spt tm) H := hP
    have hD : va_D A (mw G a (pyZ z (z 5) (((z (23 + ix (z 5))) * (z 3)) / 100)) sp pa st sv pd tl ns ty spt tm) := hD
    refine lv_iload_n hx hb dX4_dropNow_52 rfl (lv_at hl 0 rfl) ?_
    refine lv_iconst (v := 1) hx hb dX4_dropNow_53 (by decide) ?_
    refine lv_icmp_le (tgt := 72) hx hb dX4_dropNow_54 (by decide) (fun c_54_7 => ?_) (fun c_54_7 => ?_)
    · have hq := hdr1 c_54_7
      simp only [doA, if_neg c_25_1] at hq
      obtain ⟨hq1, hq2⟩ := hq
      refine lv_aload_n hx hb dX4_dropNow_72 rfl (lv_at hl 2 rfl) ?_
      refine cAV (As := []) (rest := []) ⟨hx, hb, hml, hown, hts⟩ (c_X4_pass l G a (pyZ z (z 5) (((z (23 + ix (z 5))) * (z 3)) / 100)) sp pa st sv pd tl ns ty spt tm hq1 _) (cwV 0 hts gX4_dropNow_X4_pass rfl rfl rfl (by decide +kernel) ⟨Nat.le_of_ble_eq_true rfl, Nat.le_of_ble_eq_true rfl⟩) hK hP hD hS hA 0 (ci := 4) rfl rfl rfl rfl rfl hl.1 (Nat.le_of_ble_eq_true rfl) dX4_dropNow_73 ⟨Nat.le_of_ble_eq_true rfl, Nat.le_of_ble_eq_true rfl⟩ (fun u_8 H locs hr_8 hP hD hS => ?_)
      have hP : va_P G.1 vwCl (mw G a (psZ (pyZ z (z 5) (((z (23 + ix (z 5))) * (z 3)) / 100))) sp pa st sv pd tl ns ty spt tm) H := hP
      have hD : va_D A (mw G a (psZ (pyZ z (z 5) (((z (23 + ix (z 5))) * (z 3)) / 100))) sp pa st sv pd tl ns ty spt tm) := hD
      refine lv_aload_n hx hb dX4_dropNow_76 rfl (lv_at hl 2 rfl) ?_
      refine va_get (D := G.1) (ci := 4) (v := .ref (a 1)) (C := RX4) (T := TX4) (N := 11) hx hb hts hinX4 hown hK.1 hP 0 rfl rfl 0 (by decide) wk1 (fun _ h9 => h9) rfl dX4_dropNow_77 ?_
      refine lv_bipush (v := 28) hx hb dX4_dropNow_80 (by decide) ?_
      refine lv_iload_n hx hb dX4_dropNow_82 rfl (lv_at hl 1 rfl) ?_
      refine lv_iadd hx hb dX4_dropNow_83 ?_
      refine lv_iload_n hx hb dX4_dropNow_84 rfl (lv_at hl 0 rfl) ?_
      refine qist hx hb hK.1 hP hD hS 1 0 rfl rfl (k := 28 + ix (z 5)) (ixa (c := 28) (m := 5) (n := 53) rfl (by assumption) (by decide) (by decide)).1 (ixa (c := 28) (m := 5) (n := 53) rfl (by assumption) (by decide) (by decide)).2 dX4_dropNow_85 (fun H locs hP hD hS => ?_)
      have hP : va_P G.1 vwCl (mw G a (upd (psZ (pyZ z (z 5) (((z (23 + ix (z 5))) * (z 3)) / 100))) (28 + ix (z 5)) ((lfZ z) - 1)) sp pa st sv pd tl ns ty spt tm) H := hP
      have hD : va_D A (mw G a (upd (psZ (pyZ z (z 5) (((z (23 + ix (z 5))) * (z 3)) / 100))) (28 + ix (z 5)) ((lfZ z) - 1)) sp pa st sv pd tl ns ty spt tm) := hD
      refine lv_aload_n hx hb dX4_dropNow_86 rfl (lv_at hl 2 rfl) ?_
      refine lv_aload_n hx hb dX4_dropNow_87 rfl (lv_at hl 2 rfl) ?_
      refine va_get (D := G.1) (ci := 4) (v := .ref (a 1)) (C := RX4) (T := TX4) (N := 11) hx hb hts hinX4 hown hK.1 hP 0 rfl rfl 0 (by decide) wk1 (fun _ h9 => h9) rfl dX4_dropNow_88 ?_
      refine lv_iconst (v := 5) hx hb dX4_dropNow_91 (by decide) ?_
      refine qild hx hb hK.1 hP 1 0 rfl rfl (k := 5) rfl (vp_in_nI (n := 5) (by decide) (by decide)) dX4_dropNow_92 ?_
      refine cAV (As := [.int ((upd (psZ (pyZ z (z 5) (((z (23 + ix (z 5))) * (z 3)) / 100))) (28 + ix (z 5)) ((lfZ z) - 1)) 5)]) (rest := []) ⟨hx, hb, hml, hown, hts⟩ (c_X4_endNow l G a (upd (psZ (pyZ z (z 5) (((z (23 + ix (z 5))) * (z 3)) / 100))) (28 + ix (z 5)) ((lfZ z) - 1)) sp pa st sv pd tl ns ty spt tm ((upd (psZ (pyZ z (z 5) (((z (23 + ix (z 5))) * (z 3)) / 100))) (28 + ix (z 5)) ((lfZ z) - 1)) 5) hq2 _) (cwV 1 hts gX4_dropNow_X4_endNow rfl rfl rfl (by decide +kernel) ⟨Nat.le_of_ble_eq_true rfl, Nat.le_of_ble_eq_true rfl⟩) hK hP hD hS hA 0 (ci := 4) rfl rfl rfl rfl rfl hl.1 (Nat.le_of_ble_eq_true rfl) dX4_dropNow_93 ⟨Nat.le_of_ble_eq_true rfl, Nat.le_of_ble_eq_true rfl⟩ (fun u_9 H locs hr_9 hP hD hS => ?_)
      have hP : va_P G.1 vwCl (mw G a (ndZ (upd (psZ (pyZ z (z 5) (((z (23 + ix (z 5))) * (z 3)) / 100))) (28 + ix (z 5)) ((lfZ z) - 1)) ((upd (psZ (pyZ z (z 5) (((z (23 + ix (z 5))) * (z 3)) / 100))) (28 + ix (z 5)) ((lfZ z) - 1)) 5)) sp pa st sv pd tl ns ty spt tm) H := hP
      have hD : va_D A (mw G a (ndZ (upd (psZ (pyZ z (z 5) (((z (23 + ix (z 5))) * (z 3)) / 100))) (28 + ix (z 5)) ((lfZ z) - 1)) ((upd (psZ (pyZ z (z 5) (((z (23 + ix (z 5))) * (z 3)) / 100))) (28 + ix (z 5)) ((lfZ z) - 1)) 5)) sp pa st sv pd tl ns ty spt tm) := hD
      have hf0 : (ndZ (upd (psZ (pyZ z (z 5) (((z (23 + ix (z 5))) * (z 3)) / 100))) (28 + ix (z 5)) ((lfZ z) - 1)) ((upd (psZ (pyZ z (z 5) (((z (23 + ix (z 5))) * (z 3)) / 100))) (28 + ix (z 5)) ((lfZ z) - 1)) 5)) = (doZ z) := (by simp only [doZ, doA, if_neg c_25_1, if_pos c_54_7])
      have hP : va_P G.1 vwCl (mw G a (doZ z) sp pa st sv pd tl ns ty spt tm) H := by rw [← hf0]; exact hP
      have hD : va_D A (mw G a (doZ z) sp pa st sv pd tl ns ty spt tm) := by rw [← hf0]; exact hD
      exact hret _ _ _ _ () trivial hP hD hS dX4_dropNow_96
    · have hq := hdr2 c_54_7
      simp only [doA, if_neg c_25_1] at hq
      refine lv_aload_n hx hb dX4_dropNow_57 rfl (lv_at hl 2 rfl) ?_
      refine va_get (D := G.1) (ci := 4) (v := .ref (a 1)) (C := RX4) (T := TX4) (N := 11) hx hb hts hinX4 hown hK.1 hP 0 rfl rfl 0 (by decide) wk1 (fun _ h9 => h9) rfl dX4_dropNow_58 ?_
      refine lv_bipush (v := 28) hx hb dX4_dropNow_61 (by decide) ?_
      refine lv_iload_n hx hb dX4_dropNow_63 rfl (lv_at hl 1 rfl) ?_
      refine lv_iadd hx hb dX4_dropNow_64 ?_
      refine lv_iload_n hx hb dX4_dropNow_65 rfl (lv_at hl 0 rfl) ?_
      refine qist hx hb hK.1 hP hD hS 1 0 rfl rfl (k := 28 + ix (z 5)) (ixa (c := 28) (m := 5) (n := 53) rfl (by assumption) (by decide) (by decide)).1 (ixa (c := 28) (m := 5) (n := 53) rfl (by assumption) (by decide) (by decide)).2 dX4_dropNow_66 (fun H locs hP hD hS => ?_)
      have hP : va_P G.1 vwCl (mw G a (upd (pyZ z (z 5) (((z (23 + ix (z 5))) * (z 3)) / 100)) (28 + ix (z 5)) ((lfZ z) - 1)) sp pa st sv pd tl ns ty spt tm) H := hP
      have hD : va_D A (mw G a (upd (pyZ z (z 5) (((z (23 + ix (z 5))) * (z 3)) / 100)) (28 + ix (z 5)) ((lfZ z) - 1)) sp pa st sv pd tl ns ty spt tm) := hD
      refine lv_aload_n hx hb dX4_dropNow_67 rfl (lv_at hl 2 rfl) ?_
      refine cAV (As := []) (rest := []) ⟨hx, hb, hml, hown, hts⟩ (c_X4_pass l G a (upd (pyZ z (z 5) (((z (23 + ix (z 5))) * (z 3)) / 100)) (28 + ix (z 5)) ((lfZ z) - 1)) sp pa st sv pd tl ns ty spt tm hq _) (cwV 0 hts gX4_dropNow_X4_pass rfl rfl rfl (by decide +kernel) ⟨Nat.le_of_ble_eq_true rfl, Nat.le_of_ble_eq_true rfl⟩) hK hP hD hS hA 0 (ci := 4) rfl rfl rfl rfl rfl hl.1 (Nat.le_of_ble_eq_true rfl) dX4_dropNow_68 ⟨Nat.le_of_ble_eq_true rfl, Nat.le_of_ble_eq_true rfl⟩ (fun u_10 H locs hr_10 hP hD hS => ?_)
      have hP : va_P G.1 vwCl (mw G a (psZ (upd (pyZ z (z 5) (((z (23 + ix (z 5))) * (z 3)) / 100)) (28 + ix (z 5)) ((lfZ z) - 1))) sp pa st sv pd tl ns ty spt tm) H := hP
      have hD : va_D A (mw G a (psZ (upd (pyZ z (z 5) (((z (23 + ix (z 5))) * (z 3)) / 100)) (28 + ix (z 5)) ((lfZ z) - 1))) sp pa st sv pd tl ns ty spt tm) := hD
      have hf0 : (psZ (upd (pyZ z (z 5) (((z (23 + ix (z 5))) * (z 3)) / 100)) (28 + ix (z 5)) ((lfZ z) - 1))) = (doZ z) := (by simp only [doZ, doA, if_neg c_25_1, if_neg c_54_7])
      have hP : va_P G.1 vwCl (mw G a (doZ z) sp pa st sv pd tl ns ty spt tm) H := by rw [← hf0]; exact hP
      have hD : va_D A (mw G a (doZ z) sp pa st sv pd tl ns ty spt tm) := by rw [← hf0]; exact hD
      exact hret _ _ _ _ () trivial hP hD hS dX4_dropNow_71
set_option maxHeartbeats 4000000 in
set_option maxRecDepth 100000 in
theorem c_X4_actNow (l : Launch) (G : qG) (a : Nat → Nat) (z sp pa st sv pd tl : Nat → Int32) (ns ty spt tm : Int32) (hok : AcOK z) (sz : Nat) : MV l yX4_actNow wsX4_actNow 3 71 G sz [.ref (a 0)] (mw G a z sp pa st sv pd tl ns ty spt tm) (mw G a (acZ z) sp pa st sv pd tl ns ty spt tm) := by
  refine MV.of' (by decide) rfl (Nat.le_of_ble_eq_true rfl) ?_
  intro p e s m below meth c hx hb hml hown hts hK hsz hP A hAe hA hD hS hmn Q hret ls hl
  have hown : s.vm.findClass RX4 = some m.cls := hown
  have hl : lv_has ls 2 [(0, .ref (a 0))] := hl
  have wk1 := hts (Cond.fieldLink RX4 7 "TurnBidsModel" "z" "[I") (List.mem_of_getElem? (i := 1) rfl)
  have wk2 := hts (Cond.methodLink RX4 73 yX4_least) (List.mem_of_getElem? (i := 2) rfl)
  have wk8 := hts (Cond.methodLink RX4 94 yX4_canBid) (List.mem_of_getElem? (i := 8) rfl)
  have wk12 := hts (Cond.methodLink RX4 97 yX4_bidNow) (List.mem_of_getElem? (i := 12) rfl)
  have wk24 := hts (Cond.methodLink RX4 100 yX4_dropNow) (List.mem_of_getElem? (i := 24) rfl)
  have hinX4 : ∀ w ∈ wsX40, w ∈ wsX4_actNow := fun _ h => (List.mem_cons_of_mem _ (List.mem_append_right _ h))
  obtain ⟨hz5, hdr, hbd⟩ := hok
  refine lv_aload_n hx hb dX4_actNow_0 rfl (lv_at hl 0 rfl) ?_
  refine cPV (As := []) (rest := []) ⟨hx, hb, hml, hown, hts⟩ (c_X4_least l G a z sp pa st sv pd tl ns ty spt tm) (cwV 0 hts gX4_actNow_X4_least rfl rfl rfl (by decide +kernel) ⟨Nat.le_of_ble_eq_true rfl, Nat.le_of_ble_eq_true rfl⟩) hK hP 0 (ci := 4) rfl rfl rfl rfl rfl hl.1 (Nat.le_of_ble_eq_true rfl) dX4_actNow_1 ⟨Nat.le_of_ble_eq_true rfl, Nat.le_of_ble_eq_true rfl⟩ ?_
  refine lv_istore_n (lv' := [(1, .int (lsZ z)), (0, .ref (a 0))]) hx hb dX4_actNow_4 rfl hl (by decide) rfl (fun ls hl => ?_)
  refine lv_iload_n hx hb dX4_actNow_5 rfl (lv_at hl 0 rfl) ?_
  refine lv_aload_n hx hb dX4_actNow_6 rfl (lv_at hl 1 rfl) ?_
  refine va_get (D := G.1) (ci := 4) (v := .ref (a 1)) (C := RX4) (T := TX4) (N := 11) hx hb hts hinX4 hown hK.1 hP 0 rfl rfl 0 (by decide) wk1 (fun _ h9 => h9) rfl dX4_actNow_7 ?_
  refine lv_bipush (v := 13) hx hb dX4_actNow_10 (by decide) ?_
  refine lv_aload_n hx hb dX4_actNow_12 rfl (lv_at hl 1 rfl) ?_
  refine va_get (D := G.1) (ci := 4) (v := .ref (a 1)) (C := RX4) (T := TX4) (N := 11) hx hb hts hinX4 hown hK.1 hP 0 rfl rfl 0 (by decide) wk1 (fun _ h9 => h9) rfl dX4_actNow_13 ?_
  refine lv_iconst (v := 5) hx hb dX4_actNow_16 (by decide) ?_
  refine qild hx hb hK.1 hP 1 0 rfl rfl (k := 5) rfl (vp_in_nI (n := 5) (by decide) (by decide)) dX4_actNow_17 ?_
  refine lv_iadd hx hb dX4_actNow_18 ?_
  refine qild hx hb hK.1 hP 1 0 rfl rfl (k := 13 + ix (z 5)) (ixa (c := 13) (m := 5) (n := 53) rfl (by assumption) (by decide) (by decide)).1 (ixa (c := 13) (m := 5) (n := 53) rfl (by assumption) (by decide) (by decide)).2 dX4_actNow_19 ?_
  refine lv_icmp_gt (tgt := 39) hx hb dX4_actNow_20 (by decide) (fun c_20_1 => ?_) (fun c_20_1 => ?_)
  · refine lv_aload_n hx hb dX4_actNow_39 rfl (lv_at hl 1 rfl) ?_
    refine cAV (As := []) (rest := []) ⟨hx, hb, hml, hown, hts⟩ (c_X4_dropNow l G a z sp pa st sv pd tl ns ty spt tm (by assumption) _) (cwV 0 hts gX4_actNow_X4_dropNow rfl rfl rfl (by decide +kernel) ⟨Nat.le_of_ble_eq_true rfl, Nat.le_of_ble_eq_true rfl⟩) hK hP hD hS hA 0 (ci := 4) rfl rfl rfl rfl rfl hl.1 (Nat.le_of_ble_eq_true rfl) dX4_actNow_40 ⟨Nat.le_of_ble_eq_true rfl, Nat.le_of_ble_eq_true rfl⟩ (fun u_2 H locs hr_2 hP hD hS => ?_)
    have hP : va_P G.1 vwCl (mw G a (doZ z) sp pa st sv pd tl ns ty spt tm) H := hP
    have hD : va_D A (mw G a (doZ z) sp pa st sv pd tl ns ty spt tm) := hD
    have hf0 : (doZ z) = (acZ z) := (by simp only [acZ, if_pos c_20_1])
    have hP : va_P G.1 vwCl (mw G a (acZ z) sp pa st sv pd tl ns ty spt tm) H := by rw [← hf0]; exact hP
    have hD : va_D A (mw G a (acZ z) sp pa st sv pd tl ns ty spt tm) := by rw [← hf0]; exact hD
    exact hret _ _ _ _ () trivial hP hD hS dX4_actNow_43
  · refine lv_aload_n hx hb dX4_actNow_23 rfl (lv_at hl 1 rfl) ?_
    refine lv_iload_n hx hb dX4_actNow_24 rfl (lv_at hl 0 rfl) ?_
    refine cPV (As := [.int (lsZ z)]) (rest := []) ⟨hx, hb, hml, hown, hts⟩ (c_X4_canBid l G a z sp pa st sv pd tl ns ty spt tm (lsZ z) (by assumption)) (cwV 1 hts gX4_actNow_X4_canBid rfl rfl rfl (by decide +kernel) ⟨Nat.le_of_ble_eq_true rfl, Nat.le_of_ble_eq_true rfl⟩) hK hP 0 (ci := 4) rfl rfl rfl rfl rfl hl.1 (Nat.le_of_ble_eq_true rfl) dX4_actNow_25 ⟨Nat.le_of_ble_eq_true rfl, Nat.le_of_ble_eq_true rfl⟩ ?_
    refine lv_if_eq (tgt := 39) hx hb dX4_actNow_28 (by decide) (fun c_28_3 => ?_) (fun c_28_3 => ?_)
    · refine lv_aload_n hx hb dX4_actNow_39 rfl (lv_at hl 1 rfl) ?_
      refine cAV (As := []) (rest := []) ⟨hx, hb, hml, hown, hts⟩ (c_X4_dropNow l G a z sp pa st sv pd tl ns ty spt tm (by assumption) _) (cwV 0 hts gX4_actNow_X4_dropNow rfl rfl rfl (by decide +kernel) ⟨Nat.le_of_ble_eq_true rfl, Nat.le_of_ble_eq_true rfl⟩) hK hP hD hS hA 0 (ci := 4) rfl rfl rfl rfl rfl hl.1 (Nat.le_of_ble_eq_true rfl) dX4_actNow_40 ⟨Nat.le_of_ble_eq_true rfl, Nat.le_of_ble_eq_true rfl⟩ (fun u_4 H locs hr_4 hP hD hS => ?_)
      have hP : va_P G.1 vwCl (mw G a (doZ z) sp pa st sv pd tl ns ty spt tm) H := hP
      have hD : va_D A (mw G a (doZ z) sp pa st sv pd tl ns ty spt tm) := hD
      have hf0 : (doZ z) = (acZ z) := (by simp only [acZ, if_neg c_20_1, if_pos c_28_3])
      have hP : va_P G.1 vwCl (mw G a (acZ z) sp pa st sv pd tl ns ty spt tm) H := by rw [← hf0]; exact hP
      have hD : va_D A (mw G a (acZ z) sp pa st sv pd tl ns ty spt tm) := by rw [← hf0]; exact hD
      exact hret _ _ _ _ () trivial hP hD hS dX4_actNow_43
    · refine lv_aload_n hx hb dX4_actNow_31 rfl (lv_at hl 1 rfl) ?_
      refine lv_iload_n hx hb dX4_actNow_32 rfl (lv_at hl 0 rfl) ?_
      refine cAV (As := [.int (lsZ z)]) (rest := []) ⟨hx, hb, hml, hown, hts⟩ (c_X4_bidNow l G a z sp pa st sv pd tl ns ty spt tm (lsZ z) (hbd c_20_1 c_28_3) _) (cwV 1 hts gX4_actNow_X4_bidNow rfl rfl rfl (by decide +kernel) ⟨Nat.le_of_ble_eq_true rfl, Nat.le_of_ble_eq_true rfl⟩) hK hP hD hS hA 0 (ci := 4) rfl rfl rfl rfl rfl hl.1 (Nat.le_of_ble_eq_true rfl) dX4_actNow_33 ⟨Nat.le_of_ble_eq_true rfl, Nat.le_of_ble_eq_true rfl⟩ (fun u_5 H locs hr_5 hP hD hS => ?_)
      have hP : va_P G.1 vwCl (mw G a (bdZ z (lsZ z)) sp pa st sv pd tl ns ty spt tm) H := hP
      have hD : va_D A (mw G a (bdZ z (lsZ z)) sp pa st sv pd tl ns ty spt tm) := hD
      refine lv_goto (tgt := 43) hx hb dX4_actNow_36 (by decide) ?_
      have hf0 : (bdZ z (lsZ z)) = (acZ z) := (by simp only [acZ, if_neg c_20_1, if_neg c_28_3])
      have hP : va_P G.1 vwCl (mw G a (acZ z) sp pa st sv pd tl ns ty spt tm) H := by rw [← hf0]; exact hP
      have hD : va_D A (mw G a (acZ z) sp pa st sv pd tl ns ty spt tm) := by rw [← hf0]; exact hD
      exact hret _ _ _ _ () trivial hP hD hS dX4_actNow_43
set_option maxHeartbeats 4000000 in
set_option maxRecDepth 100000 in
theorem c_X4_finishNow (l : Launch) (G : qG) (a : Nat → Nat) (z sp pa st sv pd tl : Nat → Int32) (ns ty spt tm : Int32) (hok : FiOK z) (sz : Nat) : MI l yX4_finishNow wsX4_finishNow 4 92 G sz [.ref (a 0)] (mw G a z sp pa st sv pd tl ns ty spt tm) (nI (fiR z).2) (mw G a ((fiR z).1) sp pa st sv pd tl ns ty spt tm) := by
  refine MI.of' (by decide) rfl (Nat.le_of_ble_eq_true rfl) ?_
  intro p e s m below meth c hx hb hml hown hts hK hsz hP A hAe hA hD hS Q hret ls hl
  have hown : s.vm.findClass RX4 = some m.cls := hown
  have hl : lv_has ls 2 [(0, .ref (a 0))] := hl
  have wk1 := hts (Cond.fieldLink RX4 7 "TurnBidsModel" "z" "[I") (List.mem_of_getElem? (i := 1) rfl)
  have wk2 := hts (Cond.methodLink RX4 103 yX4_beginNow) (List.mem_of_getElem? (i := 2) rfl)
  have wk16 := hts (Cond.methodLink RX4 106 yX4_actNow) (List.mem_of_getElem? (i := 16) rfl)
  have hinX4 : ∀ w ∈ wsX40, w ∈ wsX4_finishNow := fun _ h => (List.mem_cons_of_mem _ (List.mem_append_right _ h))
  have L15 : ∀ (f n : Nat)  (y : Nat → Int32), n + f = 10000 → fiL f n y = fiR z → foP f y → ∀ (H : Heap) (locs : List Loc), va_P G.1 vwCl (mw G a y sp pa st sv pd tl ns ty spt tm) H → va_D A (mw G a y sp pa st sv pd tl ns ty spt tm) → va_S A s.heap H locs → ∀ ls : Array Slot, lv_has ls 2 [(1, .int (nI n)), (0, .ref (a 0))] → W p l e { frames := 4, cells := 0, slots := 0, locals := 92 } s m ([.ref (a 0)] : List Value).toArray below meth c H locs 0 0 Q (F0 m 15 ls []) := by
    intro f
    induction f with
    | zero =>
      intro n y hi hv15 hfo H locs hP hD hS ls hl
      refine lv_aload_n hx hb dX4_finishNow_15 rfl (lv_at hl 1 rfl) ?_
      refine va_get (D := G.1) (ci := 4) (v := .ref (a 1)) (C := RX4) (T := TX4) (N := 11) hx hb hts hinX4 hown hK.1 hP 0 rfl rfl 0 (by decide) wk1 (fun _ h9 => h9) rfl dX4_finishNow_16 ?_
      refine lv_iconst (v := 4) hx hb dX4_finishNow_19 (by decide) ?_
      refine qild hx hb hK.1 hP 1 0 rfl rfl (k := 4) rfl (vp_in_nI (n := 4) (by decide) (by decide)) dX4_finishNow_20 ?_
      refine lv_iconst (v := 1) hx hb dX4_finishNow_21 (by decide) ?_
      refine lv_icmp_ne (tgt := 35) hx hb dX4_finishNow_22 (by decide) (fun _ => ?_) (fun c_9 => absurd c_9 hfo)
      refine lv_iload_n hx hb dX4_finishNow_35 rfl (lv_at hl 0 rfl) ?_
      have hf0 : (y) = ((fiR z).1) := (by rw [← hv15]; simp only [fiR, fiL])
      have hP : va_P G.1 vwCl (mw G a ((fiR z).1) sp pa st sv pd tl ns ty spt tm) H := by rw [← hf0]; exact hP
      have hD : va_D A (mw G a ((fiR z).1) sp pa st sv pd tl ns ty spt tm) := by rw [← hf0]; exact hD
      exact hret _ _ _ _ _ () (by rw [← hv15]; simp only [fiR, fiL]) hP hD hS dX4_finishNow_36
    | succ f ih =>
      intro n y hi hv15 hfo H locs hP hD hS ls hl
      refine lv_aload_n hx hb dX4_finishNow_15 rfl (lv_at hl 1 rfl) ?_
      refine va_get (D := G.1) (ci := 4) (v := .ref (a 1)) (C := RX4) (T := TX4) (N := 11) hx hb hts hinX4 hown hK.1 hP 0 rfl rfl 0 (by decide) wk1 (fun _ h9 => h9) rfl dX4_finishNow_16 ?_
      refine lv_iconst (v := 4) hx hb dX4_finishNow_19 (by decide) ?_
      refine qild hx hb hK.1 hP 1 0 rfl rfl (k := 4) rfl (vp_in_nI (n := 4) (by decide) (by decide)) dX4_finishNow_20 ?_
      refine lv_iconst (v := 1) hx hb dX4_finishNow_21 (by decide) ?_
      refine lv_icmp_ne (tgt := 35) hx hb dX4_finishNow_22 (by decide) (fun c_22_1 => ?_) (fun c_22_1 => ?_)
      · refine lv_iload_n hx hb dX4_finishNow_35 rfl (lv_at hl 0 rfl) ?_
        have hf0 : (y) = ((fiR z).1) := (by rw [← hv15]; simp only [fiR, fiL, if_neg c_22_1])
        have hP : va_P G.1 vwCl (mw G a ((fiR z).1) sp pa st sv pd tl ns ty spt tm) H := by rw [← hf0]; exact hP
        have hD : va_D A (mw G a ((fiR z).1) sp pa st sv pd tl ns ty spt tm) := by rw [← hf0]; exact hD
        exact hret _ _ _ _ _ () (by rw [← hv15]; simp only [fiR, fiL, if_neg c_22_1]) hP hD hS dX4_finishNow_36
      · obtain ⟨hac, hfo2⟩ := hfo c_22_1
        refine lv_aload_n hx hb dX4_finishNow_25 rfl (lv_at hl 1 rfl) ?_
        refine cAV (As := []) (rest := []) ⟨hx, hb, hml, hown, hts⟩ (c_X4_actNow l G a y sp pa st sv pd tl ns ty spt tm hac _) (cwV 0 hts gX4_finishNow_X4_actNow rfl rfl rfl (by decide +kernel) ⟨Nat.le_of_ble_eq_true rfl, Nat.le_of_ble_eq_true rfl⟩) hK hP hD hS hA 0 (ci := 4) rfl rfl rfl rfl rfl hl.1 (Nat.le_of_ble_eq_true rfl) dX4_finishNow_26 ⟨Nat.le_of_ble_eq_true rfl, Nat.le_of_ble_eq_true rfl⟩ (fun u_2 H locs hr_2 hP hD hS => ?_)
        have hP : va_P G.1 vwCl (mw G a (acZ y) sp pa st sv pd tl ns ty spt tm) H := hP
        have hD : va_D A (mw G a (acZ y) sp pa st sv pd tl ns ty spt tm) := hD
        refine lv_iinc (v := nI (n + 1)) (lv' := [(1, .int (nI (n + 1))), (0, .ref (a 0))]) hx hb dX4_finishNow_29 hl (k := 0) rfl (nI_1 _) (by decide) rfl (fun ls hl => ?_)
        refine lv_goto (tgt := 15) hx hb dX4_finishNow_32 (by decide) ?_
        exact ih (n + 1)  (acZ y) (by omega) (by rw [← hv15]; simp only [fiR, fiL, if_pos c_22_1]) hfo2 _ _ hP hD hS ls (lv_sub hl [0, 1] rfl)
  refine lv_aload_n hx hb dX4_finishNow_0 rfl (lv_at hl 0 rfl) ?_
  refine va_get (D := G.1) (ci := 4) (v := .ref (a 1)) (C := RX4) (T := TX4) (N := 11) hx hb hts hinX4 hown hK.1 hP 0 rfl rfl 0 (by decide) wk1 (fun _ h9 => h9) rfl dX4_finishNow_1 ?_
  refine lv_iconst (v := 4) hx hb dX4_finishNow_4 (by decide) ?_
  refine qild hx hb hK.1 hP 1 0 rfl rfl (k := 4) rfl (vp_in_nI (n := 4) (by decide) (by decide)) dX4_finishNow_5 ?_
  refine lv_if_ne (tgt := 13) hx hb dX4_finishNow_6 (by decide) (fun c_6_3 => ?_) (fun c_6_3 => ?_)
  · have hfo0 := hok
    simp only [FiOK, if_neg c_6_3] at hfo0
    refine lv_iconst (v := 0) hx hb dX4_finishNow_13 (by decide) ?_
    refine lv_istore_n (lv' := [(1, .int 0), (0, .ref (a 0))]) hx hb dX4_finishNow_14 rfl hl (by decide) rfl (fun ls hl => ?_)
    exact L15 10000 0  z rfl (by simp only [fiR, if_neg c_6_3]) hfo0 _ _ hP hD hS ls (lv_sub hl [0, 1] rfl)
  · have hfo0 := hok
    simp only [FiOK, if_pos c_6_3] at hfo0
    refine lv_aload_n hx hb dX4_finishNow_9 rfl (lv_at hl 0 rfl) ?_
    refine cAV (As := []) (rest := []) ⟨hx, hb, hml, hown, hts⟩ (c_X4_beginNow l G a z sp pa st sv pd tl ns ty spt tm _) (cwV 0 hts gX4_finishNow_X4_beginNow rfl rfl rfl (by decide +kernel) ⟨Nat.le_of_ble_eq_true rfl, Nat.le_of_ble_eq_true rfl⟩) hK hP hD hS hA 0 (ci := 4) rfl rfl rfl rfl rfl hl.1 (Nat.le_of_ble_eq_true rfl) dX4_finishNow_10 ⟨Nat.le_of_ble_eq_true rfl, Nat.le_of_ble_eq_true rfl⟩ (fun u_4 H locs hr_4 hP hD hS => ?_)
    have hP : va_P G.1 vwCl (mw G a (bgZ z) sp pa st sv pd tl ns ty spt tm) H := hP
    have hD : va_D A (mw G a (bgZ z) sp pa st sv pd tl ns ty spt tm) := hD
    refine lv_iconst (v := 0) hx hb dX4_finishNow_13 (by decide) ?_
    refine lv_istore_n (lv' := [(1, .int 0), (0, .ref (a 0))]) hx hb dX4_finishNow_14 rfl hl (by decide) rfl (fun ls hl => ?_)
    exact L15 10000 0  (bgZ z) rfl (by simp only [fiR, if_pos c_6_3]) hfo0 _ _ hP hD hS ls (lv_sub hl [0, 1] rfl)
set_option maxHeartbeats 4000000 in
set_option maxRecDepth 100000 in
theorem c_X4_record (l : Launch) (G : qG) (a : Nat → Nat) (z sp pa st sv pd tl : Nat → Int32) (ty spt tm : Int32) (n : Nat) (hn : n ≤ 6)  (sz : Nat) : MV l yX4_record wsX4_record 1 24 G sz [.ref (a 0)] (mw G a z sp pa st sv pd tl (nI n) ty spt tm) (mw G a z sp (rcA z pa n) st sv pd tl (nI (rcN n)) ty spt tm) := by
  refine MV.of' (by decide) rfl (Nat.le_of_ble_eq_true rfl) ?_
  intro p e s m below meth c hx hb hml hown hts hK hsz hP A hAe hA hD hS hmn Q hret ls hl
  have hown : s.vm.findClass RX4 = some m.cls := hown
  have hl : lv_has ls 2 [(0, .ref (a 0))] := hl
  have wk1 := hts (Cond.fieldLink RX4 40 "TurnBidsModel" "states" "I") (List.mem_of_getElem? (i := 1) rfl)
  have wk2 := hts (Cond.fieldLink RX4 16 "TurnBidsModel" "past" "[I") (List.mem_of_getElem? (i := 2) rfl)
  have wk3 := hts (Cond.fieldLink RX4 7 "TurnBidsModel" "z" "[I") (List.mem_of_getElem? (i := 3) rfl)
  have hinX4 : ∀ w ∈ wsX40, w ∈ wsX4_record := fun _ h => (List.mem_cons_of_mem _ (List.mem_append_right _ h))
  refine lv_aload_n hx hb dX4_record_0 rfl (lv_at hl 0 rfl) ?_
  refine va_get (D := G.1) (ci := 4) (v := .int (nI n)) (C := RX4) (T := TX4) (N := 11) hx hb hts hinX4 hown hK.1 hP 0 rfl rfl 3 (by decide) wk1 (fun _ h9 => h9) rfl dX4_record_1 ?_
  refine lv_bipush (v := 6) hx hb dX4_record_4 (by decide) ?_
  refine lv_icmp_ne (tgt := 49) hx hb dX4_record_6 (by decide) (fun c_6_1 => ?_) (fun c_6_1 => ?_)
  · have hn6 := ne6 c_6_1
    refine lv_aload_n hx hb dX4_record_49 rfl (lv_at hl 0 rfl) ?_
    refine va_get (D := G.1) (ci := 4) (v := .ref (a 1)) (C := RX4) (T := TX4) (N := 11) hx hb hts hinX4 hown hK.1 hP 0 rfl rfl 0 (by decide) wk3 (fun _ h9 => h9) rfl dX4_record_50 ?_
    refine lv_iconst (v := 0) hx hb dX4_record_53 (by decide) ?_
    refine lv_aload_n hx hb dX4_record_54 rfl (lv_at hl 0 rfl) ?_
    refine va_get (D := G.1) (ci := 4) (v := .ref (a 3)) (C := RX4) (T := TX4) (N := 11) hx hb hts hinX4 hown hK.1 hP 0 rfl rfl 2 (by decide) wk2 (fun _ h9 => h9) rfl dX4_record_55 ?_
    refine lv_bipush (v := 53) hx hb dX4_record_58 (by decide) ?_
    refine lv_aload_n hx hb dX4_record_60 rfl (lv_at hl 0 rfl) ?_
    refine va_get (D := G.1) (ci := 4) (v := .int (nI n)) (C := RX4) (T := TX4) (N := 11) hx hb hts hinX4 hown hK.1 hP 0 rfl rfl 3 (by decide) wk1 (fun _ h9 => h9) rfl dX4_record_61 ?_
    refine lv_imul hx hb dX4_record_64 ?_
    refine qtop (pk_mul 53 n) ?_
    refine cBV (As := [.ref (a 1), .int 0, .ref (a 3), .int (nI (53 * n))]) (rest := []) ⟨hx, hb, hml, hown, hts⟩ (c_X4_copyState l G (a 1) (a 3) 53 318 0 (53 * n) z pa (va_cpy z pa 0 (53 * n) 53) (by omega) (by omega) (by decide) (by decide) (fun _ _ => rfl) _) (cwS 4 hts gX4_record_X4_copyState rfl rfl rfl (by decide +kernel) ⟨Nat.le_of_ble_eq_true rfl, Nat.le_of_ble_eq_true rfl⟩) hK hP hD hS hA [1, 3] [0, 2, 4, 5, 6, 7] rfl (wr := [(a 0, .inr (4, [.ref (a 1), .ref (a 2), .ref (a 3), .int (nI n), .ref (a 4), .ref (a 5), .ref (a 6), .int ty, .int spt, .ref (a 7), .int tm])), (a 2, .inl (gI G, 53, .inl sp)), (a 4, .inl (gI G, 106, .inl st)), (a 5, .inl (gZ G, 2, .inl sv)), (a 6, .inl (gI G, 60, .inl pd)), (a 7, .inl (gI G, 31, .inl tl))]) rfl rfl rfl (by decide) rfl rfl hl.1 (Nat.le_of_ble_eq_true rfl) dX4_record_65 ⟨Nat.le_of_ble_eq_true rfl, Nat.le_of_ble_eq_true rfl⟩ (fun u_2 H locs hr_2 hP hD hS => ?_)
    have hP : va_P G.1 vwCl (mw G a z sp (va_cpy z pa 0 (53 * n) 53) st sv pd tl (nI n) ty spt tm) H := hP.sub [0, 6, 1, 7, 2, 3, 4, 5] rfl
    have hD : va_D A (mw G a z sp (va_cpy z pa 0 (53 * n) 53) st sv pd tl (nI n) ty spt tm) := hD.sub [0, 6, 1, 7, 2, 3, 4, 5] (by decide) rfl
    refine lv_aload_n hx hb dX4_record_68 rfl (lv_at hl 0 rfl) ?_
    refine lv_dup hx hb dX4_record_69 rfl ?_
    refine va_get (D := G.1) (ci := 4) (v := .int (nI n)) (C := RX4) (T := TX4) (N := 11) hx hb hts hinX4 hown hK.1 hP 0 rfl rfl 3 (by decide) wk1 (fun _ h9 => h9) rfl dX4_record_70 ?_
    refine lv_iconst (v := 1) hx hb dX4_record_73 (by decide) ?_
    refine lv_iadd hx hb dX4_record_74 ?_
    refine qtop (nI_add n 1) ?_
    refine va_put (D := G.1) (ci := 4) (v := .int (nI (n + 1))) (ty := .int) (C := RX4) (T := TX4) (N := 11) hx hb hts hinX4 tyX4 tyX4_ok nmX4 hown hK.1 hP hD hS 0 rfl rfl 3 (by decide) wk1 (fun _ h9 => h9) rfl (by decide +kernel) rfl rfl (Nat.le_of_ble_eq_true rfl) dX4_record_75 (fun H locs hP hD hS => ?_)
    have hP : va_P G.1 vwCl (mw G a z sp (va_cpy z pa 0 (53 * n) 53) st sv pd tl (nI (n + 1)) ty spt tm) H := hP
    have hD : va_D A (mw G a z sp (va_cpy z pa 0 (53 * n) 53) st sv pd tl (nI (n + 1)) ty spt tm) := hD
    rw [rcA_n z pa hn6, rcN_n hn6] at hP hD
    exact hret _ _ _ _ () trivial hP hD hS dX4_record_78
  · obtain rfl := eq6 hn c_6_1
    refine lv_iconst (v := 0) hx hb dX4_record_9 (by decide) ?_
    refine lv_istore_n (lv' := [(1, .int 0), (0, .ref (a 0))]) hx hb dX4_record_10 rfl hl (by decide) rfl (fun ls hl => ?_)
    have L11 : ∀ (f i : Nat)  (y : Nat → Int32), i + f = 265 → y = shP pa i → ∀ (H : Heap) (locs : List Loc), va_P G.1 vwCl (mw G a z sp y st sv pd tl (nI 6) ty spt tm) H → va_D A (mw G a z sp y st sv pd tl (nI 6) ty spt tm) → va_S A s.heap H locs → ∀ ls : Array Slot, lv_has ls 2 [(1, .int (nI i)), (0, .ref (a 0))] → W p l e { frames := 1, cells := 0, slots := 0, locals := 24 } s m ([.ref (a 0)] : List Value).toArray below meth c H locs 0 0 Q (F0 m 11 ls []) := by
      intro f
      induction f with
      | zero =>
        intro i y hi hv11 H locs hP hD hS ls hl
        obtain rfl : i = 265 := by omega
        refine lv_iload_n hx hb dX4_record_11 rfl (lv_at hl 0 rfl) ?_
        refine lv_sipush (v := 265) hx hb dX4_record_12 (by decide) ?_
        refine lv_icmp_ge (tgt := 39) hx hb dX4_record_15 (by decide) (fun _ => ?_) (fun c_9 => absurd (by decide +kernel) c_9)
        refine lv_aload_n hx hb dX4_record_39 rfl (lv_at hl 1 rfl) ?_
        refine lv_dup hx hb dX4_record_40 rfl ?_
        refine va_get (D := G.1) (ci := 4) (v := .int (nI 6)) (C := RX4) (T := TX4) (N := 11) hx hb hts hinX4 hown hK.1 hP 0 rfl rfl 3 (by decide) wk1 (fun _ h9 => h9) rfl dX4_record_41 ?_
        refine lv_iconst (v := 1) hx hb dX4_record_44 (by decide) ?_
        refine lv_isub hx hb dX4_record_45 ?_
        refine qtop (pk_sub (a := 6) (b := 1) (by omega)) ?_
        refine va_put (D := G.1) (ci := 4) (v := .int (nI 5)) (ty := .int) (C := RX4) (T := TX4) (N := 11) hx hb hts hinX4 tyX4 tyX4_ok nmX4 hown hK.1 hP hD hS 0 rfl rfl 3 (by decide) wk1 (fun _ h9 => h9) rfl (by decide +kernel) rfl rfl (Nat.le_of_ble_eq_true rfl) dX4_record_46 (fun H locs hP hD hS => ?_)
        have hP : va_P G.1 vwCl (mw G a z sp y st sv pd tl (nI 5) ty spt tm) H := hP
        have hD : va_D A (mw G a z sp y st sv pd tl (nI 5) ty spt tm) := hD
        refine lv_aload_n hx hb dX4_record_49 rfl (lv_at hl 1 rfl) ?_
        refine va_get (D := G.1) (ci := 4) (v := .ref (a 1)) (C := RX4) (T := TX4) (N := 11) hx hb hts hinX4 hown hK.1 hP 0 rfl rfl 0 (by decide) wk3 (fun _ h9 => h9) rfl dX4_record_50 ?_
        refine lv_iconst (v := 0) hx hb dX4_record_53 (by decide) ?_
        refine lv_aload_n hx hb dX4_record_54 rfl (lv_at hl 1 rfl) ?_
        refine va_get (D := G.1) (ci := 4) (v := .ref (a 3)) (C := RX4) (T := TX4) (N := 11) hx hb hts hinX4 hown hK.1 hP 0 rfl rfl 2 (by decide) wk2 (fun _ h9 => h9) rfl dX4_record_55 ?_
        refine lv_bipush (v := 53) hx hb dX4_record_58 (by decide) ?_
        refine lv_aload_n hx hb dX4_record_60 rfl (lv_at hl 1 rfl) ?_
        refine va_get (D := G.1) (ci := 4) (v := .int (nI 5)) (C := RX4) (T := TX4) (N := 11) hx hb hts hinX4 hown hK.1 hP 0 rfl rfl 3 (by decide) wk1 (fun _ h9 => h9) rfl dX4_record_61 ?_
        refine lv_imul hx hb dX4_record_64 ?_
        refine qtop (pk_mul 53 5) ?_
        refine cBV (As := [.ref (a 1), .int 0, .ref (a 3), .int (nI (53 * 5))]) (rest := []) ⟨hx, hb, hml, hown, hts⟩ (c_X4_copyState l G (a 1) (a 3) 53 318 0 (53 * 5) z y (va_cpy z y 0 (53 * 5) 53) (by omega) (by omega) (by decide) (by decide) (fun _ _ => rfl) _) (cwS 4 hts gX4_record_X4_copyState rfl rfl rfl (by decide +kernel) ⟨Nat.le_of_ble_eq_true rfl, Nat.le_of_ble_eq_true rfl⟩) hK hP hD hS hA [1, 3] [0, 2, 4, 5, 6, 7] rfl (wr := [(a 0, .inr (4, [.ref (a 1), .ref (a 2), .ref (a 3), .int (nI 5), .ref (a 4), .ref (a 5), .ref (a 6), .int ty, .int spt, .ref (a 7), .int tm])), (a 2, .inl (gI G, 53, .inl sp)), (a 4, .inl (gI G, 106, .inl st)), (a 5, .inl (gZ G, 2, .inl sv)), (a 6, .inl (gI G, 60, .inl pd)), (a 7, .inl (gI G, 31, .inl tl))]) rfl rfl rfl (by decide) rfl rfl hl.1 (Nat.le_of_ble_eq_true rfl) dX4_record_65 ⟨Nat.le_of_ble_eq_true rfl, Nat.le_of_ble_eq_true rfl⟩ (fun u_3 H locs hr_3 hP hD hS => ?_)
        have hP : va_P G.1 vwCl (mw G a z sp (va_cpy z y 0 (53 * 5) 53) st sv pd tl (nI 5) ty spt tm) H := hP.sub [0, 6, 1, 7, 2, 3, 4, 5] rfl
        have hD : va_D A (mw G a z sp (va_cpy z y 0 (53 * 5) 53) st sv pd tl (nI 5) ty spt tm) := hD.sub [0, 6, 1, 7, 2, 3, 4, 5] (by decide) rfl
        refine lv_aload_n hx hb dX4_record_68 rfl (lv_at hl 1 rfl) ?_
        refine lv_dup hx hb dX4_record_69 rfl ?_
        refine va_get (D := G.1) (ci := 4) (v := .int (nI 5)) (C := RX4) (T := TX4) (N := 11) hx hb hts hinX4 hown hK.1 hP 0 rfl rfl 3 (by decide) wk1 (fun _ h9 => h9) rfl dX4_record_70 ?_
        refine lv_iconst (v := 1) hx hb dX4_record_73 (by decide) ?_
        refine lv_iadd hx hb dX4_record_74 ?_
        refine qtop (nI_add 5 1) ?_
        refine va_put (D := G.1) (ci := 4) (v := .int (nI (5 + 1))) (ty := .int) (C := RX4) (T := TX4) (N := 11) hx hb hts hinX4 tyX4 tyX4_ok nmX4 hown hK.1 hP hD hS 0 rfl rfl 3 (by decide) wk1 (fun _ h9 => h9) rfl (by decide +kernel) rfl rfl (Nat.le_of_ble_eq_true rfl) dX4_record_75 (fun H locs hP hD hS => ?_)
        have hP : va_P G.1 vwCl (mw G a z sp (va_cpy z y 0 (53 * 5) 53) st sv pd tl (nI (5 + 1)) ty spt tm) H := hP
        have hD : va_D A (mw G a z sp (va_cpy z y 0 (53 * 5) 53) st sv pd tl (nI (5 + 1)) ty spt tm) := hD
        rw [hv11] at hP hD
        have hP : va_P G.1 vwCl (mw G a z sp (rcA z pa 6) st sv pd tl (nI (rcN 6)) ty spt tm) H := by rw [← rcA_6]; exact hP
        have hD : va_D A (mw G a z sp (rcA z pa 6) st sv pd tl (nI (rcN 6)) ty spt tm) := by rw [← rcA_6]; exact hD
        exact hret _ _ _ _ () trivial hP hD hS dX4_record_78
      | succ f ih =>
        intro i y hi hv11 H locs hP hD hS ls hl
        have hlt : i < 265 := by omega
        refine lv_iload_n hx hb dX4_record_11 rfl (lv_at hl 0 rfl) ?_
        refine lv_sipush (v := 265) hx hb dX4_record_12 (by decide) ?_
        refine lv_icmp_ge (tgt := 39) hx hb dX4_record_15 (by decide) (fun c_9 => absurd c_9 (nI_ge (b := 265) hlt (by decide))) (fun _ => ?_)
        refine lv_aload_n hx hb dX4_record_18 rfl (lv_at hl 1 rfl) ?_
        refine va_get (D := G.1) (ci := 4) (v := .ref (a 3)) (C := RX4) (T := TX4) (N := 11) hx hb hts hinX4 hown hK.1 hP 0 rfl rfl 2 (by decide) wk2 (fun _ h9 => h9) rfl dX4_record_19 ?_
        refine lv_iload_n hx hb dX4_record_22 rfl (lv_at hl 0 rfl) ?_
        refine lv_aload_n hx hb dX4_record_23 rfl (lv_at hl 1 rfl) ?_
        refine va_get (D := G.1) (ci := 4) (v := .ref (a 3)) (C := RX4) (T := TX4) (N := 11) hx hb hts hinX4 hown hK.1 hP 0 rfl rfl 2 (by decide) wk2 (fun _ h9 => h9) rfl dX4_record_24 ?_
        refine lv_iload_n hx hb dX4_record_27 rfl (lv_at hl 0 rfl) ?_
        refine lv_bipush (v := 53) hx hb dX4_record_28 (by decide) ?_
        refine lv_iadd hx hb dX4_record_30 ?_
        refine qtop (nI_add i 53) ?_
        refine qild hx hb hK.1 hP 3 0 rfl rfl (k := i + 53) (nI_clamp (by omega)) (vp_in_nI (by omega) (by decide)) dX4_record_31 ?_
        refine qist hx hb hK.1 hP hD hS 3 0 rfl rfl (k := i) (nI_clamp (by omega)) (vp_in_nI (by omega) (by decide)) dX4_record_32 (fun H locs hP hD hS => ?_)
        have hP : va_P G.1 vwCl (mw G a z sp (upd y i (y (i + 53))) st sv pd tl (nI 6) ty spt tm) H := hP
        have hD : va_D A (mw G a z sp (upd y i (y (i + 53))) st sv pd tl (nI 6) ty spt tm) := hD
        refine lv_iinc (v := nI (i + 1)) (lv' := [(1, .int (nI (i + 1))), (0, .ref (a 0))]) hx hb dX4_record_33 hl (k := 0) rfl (nI_1 _) (by decide) rfl (fun ls hl => ?_)
        refine lv_goto (tgt := 11) hx hb dX4_record_36 (by decide) ?_
        exact ih (i + 1)  (upd y i (y (i + 53))) (by omega) (by first | exact shP_0 _ | (rw [hv11]; exact shP_succ _ _)) _ _ hP hD hS ls (lv_sub hl [0, 1] rfl)
    exact L11 265 0  pa rfl (by first | exact shP_0 _ | (rw [hv11]; exact shP_succ _ _)) _ _ hP hD hS ls (lv_sub hl [0, 1] rfl)
set_option maxHeartbeats 4000000 in
set_option maxRecDepth 100000 in
theorem c_X4_change (l : Launch) (G : qG) (a : Nat → Nat) (z sp pa st sv pd tl : Nat → Int32) (ty spt tm : Int32) (n : Nat) (hn : n ≤ 6) (w : Nat) (k : Int32) (hw : w < 53)  (sz : Nat) : MI l yX4_change wsX4_change 2 45 G sz [.ref (a 0), .int (nI w), .int k] (mw G a z sp pa st sv pd tl (nI n) ty spt tm) (z w) (mw G a (upd z w k) sp (rcA z pa n) st sv pd tl (nI (rcN n)) ty spt tm) := by
  refine MI.of' (by decide) rfl (Nat.le_of_ble_eq_true rfl) ?_
  intro p e s m below meth c hx hb hml hown hts hK hsz hP A hAe hA hD hS Q hret ls hl
  have hown : s.vm.findClass RX4 = some m.cls := hown
  have hl : lv_has ls 4 [(0, .ref (a 0)), (1, .int (nI w)), (2, .int k)] := hl
  have wk1 := hts (Cond.fieldLink RX4 7 "TurnBidsModel" "z" "[I") (List.mem_of_getElem? (i := 1) rfl)
  have wk2 := hts (Cond.methodLink RX4 54 yX4_record) (List.mem_of_getElem? (i := 2) rfl)
  have hinX4 : ∀ w ∈ wsX40, w ∈ wsX4_change := fun _ h => (List.mem_cons_of_mem _ (List.mem_append_right _ h))
  refine lv_aload_n hx hb dX4_change_0 rfl (lv_at hl 0 rfl) ?_
  refine cAV (As := []) (rest := []) ⟨hx, hb, hml, hown, hts⟩ (c_X4_record l G a z sp pa st sv pd tl ty spt tm n (by first | assumption | (unfold rcN; split <;> omega)) _) (cwV 0 hts gX4_change_X4_record rfl rfl rfl (by decide +kernel) ⟨Nat.le_of_ble_eq_true rfl, Nat.le_of_ble_eq_true rfl⟩) hK hP hD hS hA 0 (ci := 4) rfl rfl rfl rfl rfl hl.1 (Nat.le_of_ble_eq_true rfl) dX4_change_1 ⟨Nat.le_of_ble_eq_true rfl, Nat.le_of_ble_eq_true rfl⟩ (fun u_1 H locs hr_1 hP hD hS => ?_)
  have hP : va_P G.1 vwCl (mw G a z sp (rcA z pa n) st sv pd tl (nI (rcN n)) ty spt tm) H := hP
  have hD : va_D A (mw G a z sp (rcA z pa n) st sv pd tl (nI (rcN n)) ty spt tm) := hD
  refine lv_aload_n hx hb dX4_change_4 rfl (lv_at hl 0 rfl) ?_
  refine va_get (D := G.1) (ci := 4) (v := .ref (a 1)) (C := RX4) (T := TX4) (N := 11) hx hb hts hinX4 hown hK.1 hP 0 rfl rfl 0 (by decide) wk1 (fun _ h9 => h9) rfl dX4_change_5 ?_
  refine lv_iload_n hx hb dX4_change_8 rfl (lv_at hl 1 rfl) ?_
  refine qild hx hb hK.1 hP 1 0 rfl rfl (k := w) (nI_clamp (by omega)) (vp_in_nI (by omega) (by decide)) dX4_change_9 ?_
  refine lv_istore_n (lv' := [(3, .int (z w)), (0, .ref (a 0)), (1, .int (nI w)), (2, .int k)]) hx hb dX4_change_10 rfl hl (by decide) rfl (fun ls hl => ?_)
  refine lv_aload_n hx hb dX4_change_11 rfl (lv_at hl 1 rfl) ?_
  refine va_get (D := G.1) (ci := 4) (v := .ref (a 1)) (C := RX4) (T := TX4) (N := 11) hx hb hts hinX4 hown hK.1 hP 0 rfl rfl 0 (by decide) wk1 (fun _ h9 => h9) rfl dX4_change_12 ?_
  refine lv_iload_n hx hb dX4_change_15 rfl (lv_at hl 2 rfl) ?_
  refine lv_iload_n hx hb dX4_change_16 rfl (lv_at hl 3 rfl) ?_
  refine qist hx hb hK.1 hP hD hS 1 0 rfl rfl (k := w) (nI_clamp (by omega)) (vp_in_nI (by omega) (by decide)) dX4_change_17 (fun H locs hP hD hS => ?_)
  have hP : va_P G.1 vwCl (mw G a (upd z w k) sp (rcA z pa n) st sv pd tl (nI (rcN n)) ty spt tm) H := hP
  have hD : va_D A (mw G a (upd z w k) sp (rcA z pa n) st sv pd tl (nI (rcN n)) ty spt tm) := hD
  refine lv_iload_n hx hb dX4_change_18 rfl (lv_at hl 0 rfl) ?_
  exact hret _ _ _ _ _ () (by rfl) hP hD hS dX4_change_19
set_option maxHeartbeats 4000000 in
set_option maxRecDepth 100000 in
theorem c_X4_isValue (l : Launch) (G : qG) (x k : Int32) : MP l yX4_isValue wsX4_isValue 1 22 G [.int x, .int k] ([]) (ivB x k) := by
  refine MP.of (ty := .boolean) (by decide) rfl (Nat.le_of_ble_eq_true rfl) (ivB_nar x k) ?_
  intro p e s m below meth c hx hb hml hown hts hK hP Q hret ls hl
  have hown : s.vm.findClass RX4 = some m.cls := hown
  have hl : lv_has ls 2 [(0, .int x), (1, .int k)] := hl
  have wk1 := hts (Cond.methodLink RX4 35 yX4_in) (List.mem_of_getElem? (i := 1) rfl)
  refine lv_iload_n hx hb dX4_isValue_0 rfl (lv_at hl 0 rfl) ?_
  by_cases htw : x.toInt < 0 ∨ 3 < x.toInt
  · refine lv_tableOut (tgt := 56) hx hb dX4_isValue_1 htw (by decide) ?_
    have hne0 : ¬ x = 0 := fun e => by rw [e] at htw; revert htw; decide
    have hne1 : ¬ x = 1 := fun e => by rw [e] at htw; revert htw; decide
    have hne2 : ¬ x = 2 := fun e => by rw [e] at htw; revert htw; decide
    have hne3 : ¬ x = 3 := fun e => by rw [e] at htw; revert htw; decide
    refine lv_iconst (v := 0) hx hb dX4_isValue_56 (by decide) ?_
    exact hret _ _ _ (by first | rfl | (simp only [ivB, if_neg hne0, if_neg hne1, if_neg hne2, if_neg hne3])) dX4_isValue_57
  · obtain ⟨k₀, hk₀, rfl⟩ := sw_in (N := 3) htw (by decide)
    rcases (show k₀ = 0 ∨ k₀ = 1 ∨ k₀ = 2 ∨ k₀ = 3 by omega) with rfl | rfl | rfl | rfl
    · refine lv_tableIn (off := 31) (tgt := 32) hx hb dX4_isValue_1 (by decide +kernel) (by decide +kernel) (by decide +kernel) (by decide) ?_
      refine lv_iload_n hx hb dX4_isValue_32 rfl (lv_at hl 1 rfl) ?_
      refine lv_iconst (v := 1) hx hb dX4_isValue_33 (by decide) ?_
      refine lv_bipush (v := 9) hx hb dX4_isValue_34 (by decide) ?_
      refine cPS (As := [.int k, .int 1, .int 9]) (rest := []) ⟨hx, hb, hml, hown, hts⟩ (c_X4_in l G k 1 9) (cwS 3 hts gX4_isValue_X4_in rfl rfl rfl (by decide +kernel) ⟨Nat.le_of_ble_eq_true rfl, Nat.le_of_ble_eq_true rfl⟩) hK (fun k q h => by simp at h) rfl rfl hl.1 (Nat.le_of_ble_eq_true rfl) dX4_isValue_36 ⟨Nat.le_of_ble_eq_true rfl, Nat.le_of_ble_eq_true rfl⟩ ?_
      exact hret _ _ _ (by first | rfl | (simp only [ivB, if_neg hne0, if_neg hne1, if_neg hne2, if_neg hne3])) dX4_isValue_39
    · refine lv_tableIn (off := 39) (tgt := 40) hx hb dX4_isValue_1 (by decide +kernel) (by decide +kernel) (by decide +kernel) (by decide) ?_
      refine lv_iload_n hx hb dX4_isValue_40 rfl (lv_at hl 1 rfl) ?_
      refine lv_iconst (v := 0) hx hb dX4_isValue_41 (by decide) ?_
      refine lv_bipush (v := 20) hx hb dX4_isValue_42 (by decide) ?_
      refine cPS (As := [.int k, .int 0, .int 20]) (rest := []) ⟨hx, hb, hml, hown, hts⟩ (c_X4_in l G k 0 20) (cwS 3 hts gX4_isValue_X4_in rfl rfl rfl (by decide +kernel) ⟨Nat.le_of_ble_eq_true rfl, Nat.le_of_ble_eq_true rfl⟩) hK (fun k q h => by simp at h) rfl rfl hl.1 (Nat.le_of_ble_eq_true rfl) dX4_isValue_44 ⟨Nat.le_of_ble_eq_true rfl, Nat.le_of_ble_eq_true rfl⟩ ?_
      exact hret _ _ _ (by first | rfl | (simp only [ivB, if_neg hne0, if_neg hne1, if_neg hne2, if_neg hne3])) dX4_isValue_47
    · refine lv_tableIn (off := 47) (tgt := 48) hx hb dX4_isValue_1 (by decide +kernel) (by decide +kernel) (by decide +kernel) (by decide) ?_
      refine lv_iload_n hx hb dX4_isValue_48 rfl (lv_at hl 1 rfl) ?_
      refine lv_iconst (v := 0) hx hb dX4_isValue_49 (by decide) ?_
      refine lv_bipush (v := 100) hx hb dX4_isValue_50 (by decide) ?_
      refine cPS (As := [.int k, .int 0, .int 100]) (rest := []) ⟨hx, hb, hml, hown, hts⟩ (c_X4_in l G k 0 100) (cwS 3 hts gX4_isValue_X4_in rfl rfl rfl (by decide +kernel) ⟨Nat.le_of_ble_eq_true rfl, Nat.le_of_ble_eq_true rfl⟩) hK (fun k q h => by simp at h) rfl rfl hl.1 (Nat.le_of_ble_eq_true rfl) dX4_isValue_52 ⟨Nat.le_of_ble_eq_true rfl, Nat.le_of_ble_eq_true rfl⟩ ?_
      exact hret _ _ _ (by first | rfl | (simp only [ivB, if_neg hne0, if_neg hne1, if_neg hne2, if_neg hne3])) dX4_isValue_55
    · refine lv_tableIn (off := 47) (tgt := 48) hx hb dX4_isValue_1 (by decide +kernel) (by decide +kernel) (by decide +kernel) (by decide) ?_
      refine lv_iload_n hx hb dX4_isValue_48 rfl (lv_at hl 1 rfl) ?_
      refine lv_iconst (v := 0) hx hb dX4_isValue_49 (by decide) ?_
      refine lv_bipush (v := 100) hx hb dX4_isValue_50 (by decide) ?_
      refine cPS (As := [.int k, .int 0, .int 100]) (rest := []) ⟨hx, hb, hml, hown, hts⟩ (c_X4_in l G k 0 100) (cwS 3 hts gX4_isValue_X4_in rfl rfl rfl (by decide +kernel) ⟨Nat.le_of_ble_eq_true rfl, Nat.le_of_ble_eq_true rfl⟩) hK (fun k q h => by simp at h) rfl rfl hl.1 (Nat.le_of_ble_eq_true rfl) dX4_isValue_52 ⟨Nat.le_of_ble_eq_true rfl, Nat.le_of_ble_eq_true rfl⟩ ?_
      exact hret _ _ _ (by first | rfl | (simp only [ivB, if_neg hne0, if_neg hne1, if_neg hne2, if_neg hne3])) dX4_isValue_55
set_option maxHeartbeats 4000000 in
set_option maxRecDepth 100000 in
theorem c_X4_set (l : Launch) (G : qG) (a : Nat → Nat) (z sp pa st sv pd tl : Nat → Int32) (ty spt tm : Int32) (n : Nat) (hn : n ≤ 6) (x k : Int32) (sz : Nat) : MI l yX4_set wsX4_set 3 68 G sz [.ref (a 0), .int x, .int k] (mw G a z sp pa st sv pd tl (nI n) ty spt tm) (if ivB x k = 0 then (-100002) else z (ix x)) (mw G a (if ivB x k = 0 then z else upd z (ix x) k) sp (if ivB x k = 0 then pa else rcA z pa n) st sv pd tl (nI (if ivB x k = 0 then n else rcN n)) ty spt tm) := by
  refine MI.of' (by decide) rfl (Nat.le_of_ble_eq_true rfl) ?_
  intro p e s m below meth c hx hb hml hown hts hK hsz hP A hAe hA hD hS Q hret ls hl
  have hown : s.vm.findClass RX4 = some m.cls := hown
  have hl : lv_has ls 3 [(0, .ref (a 0)), (1, .int x), (2, .int k)] := hl
  have wk1 := hts (Cond.constant RX4 49 (-100002)) (List.mem_of_getElem? (i := 1) rfl)
  have wk2 := hts (Cond.methodLink RX4 57 yX4_isValue) (List.mem_of_getElem? (i := 2) rfl)
  have wk9 := hts (Cond.methodLink RX4 61 yX4_change) (List.mem_of_getElem? (i := 9) rfl)
  refine lv_iload_n hx hb dX4_set_0 rfl (lv_at hl 1 rfl) ?_
  refine lv_iload_n hx hb dX4_set_1 rfl (lv_at hl 2 rfl) ?_
  refine cPS (As := [.int x, .int k]) (rest := []) ⟨hx, hb, hml, hown, hts⟩ (c_X4_isValue l G x k) (cwS 2 hts gX4_set_X4_isValue rfl rfl rfl (by decide +kernel) ⟨Nat.le_of_ble_eq_true rfl, Nat.le_of_ble_eq_true rfl⟩) hK (fun k q h => by simp at h) rfl rfl hl.1 (Nat.le_of_ble_eq_true rfl) dX4_set_2 ⟨Nat.le_of_ble_eq_true rfl, Nat.le_of_ble_eq_true rfl⟩ ?_
  refine lv_if_eq (tgt := 17) hx hb dX4_set_5 (by decide) (fun c_5_1 => ?_) (fun c_5_1 => ?_)
  · refine lv_ldc (v := (-100002)) hx hb hown wk1 dX4_set_17 ?_
    have hf0 : (z) = (if ivB x k = 0 then z else upd z (ix x) k) := (by simp only [if_true, if_false, lz_o, lz_1, lz_2, lz_5, if_pos c_5_1])
    have hf1 : (pa) = (if ivB x k = 0 then pa else rcA z pa n) := (by simp only [if_true, if_false, lz_o, lz_1, lz_2, lz_5, if_pos c_5_1])
    have hf2 : (nI n) = (nI (if ivB x k = 0 then n else rcN n)) := (by simp only [if_true, if_false, lz_o, lz_1, lz_2, lz_5, if_pos c_5_1])
    have hP : va_P G.1 vwCl (mw G a (if ivB x k = 0 then z else upd z (ix x) k) sp (if ivB x k = 0 then pa else rcA z pa n) st sv pd tl (nI (if ivB x k = 0 then n else rcN n)) ty spt tm) s.heap := by rw [← hf0, ← hf1, ← hf2]; exact hP
    have hD : va_D A (mw G a (if ivB x k = 0 then z else upd z (ix x) k) sp (if ivB x k = 0 then pa else rcA z pa n) st sv pd tl (nI (if ivB x k = 0 then n else rcN n)) ty spt tm) := by rw [← hf0, ← hf1, ← hf2]; exact hD
    exact hret _ _ _ _ _ () (by simp only [if_true, if_false, lz_o, lz_1, lz_2, lz_5, if_pos c_5_1]) hP hD hS dX4_set_19
  · obtain ⟨j, hj, hej⟩ := ivB_of c_5_1
    rw [hej] at hl
    have hxj : ix x = j := by rw [hej]; exact nI_clamp (by omega)
    refine lv_aload_n hx hb dX4_set_8 rfl (lv_at hl 0 rfl) ?_
    refine lv_iload_n hx hb dX4_set_9 rfl (lv_at hl 1 rfl) ?_
    refine lv_iload_n hx hb dX4_set_10 rfl (lv_at hl 2 rfl) ?_
    refine cAI (As := [.int (nI j), .int k]) (rest := []) ⟨hx, hb, hml, hown, hts⟩ (c_X4_change l G a z sp pa st sv pd tl ty spt tm n (by assumption) j k (by omega) _) (cwV 2 hts gX4_set_X4_change rfl rfl rfl (by decide +kernel) ⟨Nat.le_of_ble_eq_true rfl, Nat.le_of_ble_eq_true rfl⟩) hK hP hD hS hA 0 (ci := 4) rfl rfl rfl rfl rfl hl.1 (Nat.le_of_ble_eq_true rfl) dX4_set_11 ⟨Nat.le_of_ble_eq_true rfl, Nat.le_of_ble_eq_true rfl⟩ (fun r_2 u_2 H locs hr_2 hP hD hS => ?_)
    have hr_2 : r_2 = z j := hr_2
    subst hr_2
    have hP : va_P G.1 vwCl (mw G a (upd z j k) sp (rcA z pa n) st sv pd tl (nI (rcN n)) ty spt tm) H := hP
    have hD : va_D A (mw G a (upd z j k) sp (rcA z pa n) st sv pd tl (nI (rcN n)) ty spt tm) := hD
    refine lv_goto (tgt := 19) hx hb dX4_set_14 (by decide) ?_
    have hf0 : (upd z j k) = (if ivB x k = 0 then z else upd z (ix x) k) := (by simp only [if_true, if_false, lz_o, lz_1, lz_2, lz_5, if_neg c_5_1, hxj])
    have hf1 : (rcA z pa n) = (if ivB x k = 0 then pa else rcA z pa n) := (by simp only [if_true, if_false, lz_o, lz_1, lz_2, lz_5, if_neg c_5_1, hxj])
    have hf2 : (nI (rcN n)) = (nI (if ivB x k = 0 then n else rcN n)) := (by simp only [if_true, if_false, lz_o, lz_1, lz_2, lz_5, if_neg c_5_1, hxj])
    have hP : va_P G.1 vwCl (mw G a (if ivB x k = 0 then z else upd z (ix x) k) sp (if ivB x k = 0 then pa else rcA z pa n) st sv pd tl (nI (if ivB x k = 0 then n else rcN n)) ty spt tm) H := by rw [← hf0, ← hf1, ← hf2]; exact hP
    have hD : va_D A (mw G a (if ivB x k = 0 then z else upd z (ix x) k) sp (if ivB x k = 0 then pa else rcA z pa n) st sv pd tl (nI (if ivB x k = 0 then n else rcN n)) ty spt tm) := by rw [← hf0, ← hf1, ← hf2]; exact hD
    exact hret _ _ _ _ _ () (by simp only [if_true, if_false, lz_o, lz_1, lz_2, lz_5, if_neg c_5_1, hxj]) hP hD hS dX4_set_19
set_option maxHeartbeats 4000000 in
set_option maxRecDepth 100000 in
theorem c_X4_coins (l : Launch) (G : qG) (a : Nat → Nat) (z sp pa st sv pd tl : Nat → Int32) (ty spt tm : Int32) (n : Nat) (hn : n ≤ 6) (x k : Int32) (sz : Nat) : MI l yX4_coins wsX4_coins 3 68 G sz [.ref (a 0), .int x, .int k] (mw G a z sp pa st sv pd tl (nI n) ty spt tm) (if erC z x k = 0 then z (8 + ix x) else erC z x k) (mw G a (if erC z x k = 0 then upd z (8 + ix x) k else z) sp (if erC z x k = 0 then rcA z pa n else pa) st sv pd tl (nI (if erC z x k = 0 then rcN n else n)) ty spt tm) := by
  refine MI.of' (by decide) rfl (Nat.le_of_ble_eq_true rfl) ?_
  intro p e s m below meth c hx hb hml hown hts hK hsz hP A hAe hA hD hS Q hret ls hl
  have hown : s.vm.findClass RX4 = some m.cls := hown
  have hl : lv_has ls 4 [(0, .ref (a 0)), (1, .int x), (2, .int k)] := hl
  have wk1 := hts (Cond.constant RX4 69 (-100001)) (List.mem_of_getElem? (i := 1) rfl)
  have wk2 := hts (Cond.constant RX4 49 (-100002)) (List.mem_of_getElem? (i := 2) rfl)
  have wk3 := hts (Cond.fieldLink RX4 7 "TurnBidsModel" "z" "[I") (List.mem_of_getElem? (i := 3) rfl)
  have wk4 := hts (Cond.constant RX4 39 (-100006)) (List.mem_of_getElem? (i := 4) rfl)
  have wk5 := hts (Cond.constant RX4 48 (-100005)) (List.mem_of_getElem? (i := 5) rfl)
  have wk6 := hts (Cond.methodLink RX4 65 yX4_isPlayer) (List.mem_of_getElem? (i := 6) rfl)
  have wk10 := hts (Cond.methodLink RX4 35 yX4_in) (List.mem_of_getElem? (i := 10) rfl)
  have wk13 := hts (Cond.methodLink RX4 61 yX4_change) (List.mem_of_getElem? (i := 13) rfl)
  have hinX4 : ∀ w ∈ wsX40, w ∈ wsX4_coins := fun _ h => (List.mem_cons_of_mem _ (List.mem_append_right _ h))
  refine lv_iload_n hx hb dX4_coins_0 rfl (lv_at hl 1 rfl) ?_
  refine cPS (As := [.int x]) (rest := []) ⟨hx, hb, hml, hown, hts⟩ (c_X4_isPlayer l G x) (cwS 1 hts gX4_coins_X4_isPlayer rfl rfl rfl (by decide +kernel) ⟨Nat.le_of_ble_eq_true rfl, Nat.le_of_ble_eq_true rfl⟩) hK (fun k q h => by simp at h) rfl rfl hl.1 (Nat.le_of_ble_eq_true rfl) dX4_coins_1 ⟨Nat.le_of_ble_eq_true rfl, Nat.le_of_ble_eq_true rfl⟩ ?_
  refine lv_if_ne (tgt := 10) hx hb dX4_coins_4 (by decide) (fun c_4_1 => ?_) (fun c_4_1 => ?_)
  · have hin_2 := inB5 c_4_1
    obtain ⟨j, hj, hej⟩ := vp_in_of (inB5 c_4_1) (by decide)
    rw [hej] at hl
    have hxj : ix x = j := by rw [hej]; exact nI_clamp (by omega)
    refine lv_iload_n hx hb dX4_coins_10 rfl (lv_at hl 2 rfl) ?_
    refine lv_iconst (v := 0) hx hb dX4_coins_11 (by decide) ?_
    refine lv_sipush (v := 9999) hx hb dX4_coins_12 (by decide) ?_
    refine cPS (As := [.int k, .int 0, .int 9999]) (rest := []) ⟨hx, hb, hml, hown, hts⟩ (c_X4_in l G k 0 9999) (cwS 3 hts gX4_coins_X4_in rfl rfl rfl (by decide +kernel) ⟨Nat.le_of_ble_eq_true rfl, Nat.le_of_ble_eq_true rfl⟩) hK (fun k q h => by simp at h) rfl rfl hl.1 (Nat.le_of_ble_eq_true rfl) dX4_coins_15 ⟨Nat.le_of_ble_eq_true rfl, Nat.le_of_ble_eq_true rfl⟩ ?_
    refine lv_if_ne (tgt := 24) hx hb dX4_coins_18 (by decide) (fun c_18_3 => ?_) (fun c_18_3 => ?_)
    · refine lv_aload_n hx hb dX4_coins_24 rfl (lv_at hl 0 rfl) ?_
      refine va_get (D := G.1) (ci := 4) (v := .ref (a 1)) (C := RX4) (T := TX4) (N := 11) hx hb hts hinX4 hown hK.1 hP 0 rfl rfl 0 (by decide) wk3 (fun _ h9 => h9) rfl dX4_coins_25 ?_
      refine lv_bipush (v := 23) hx hb dX4_coins_28 (by decide) ?_
      refine lv_iload_n hx hb dX4_coins_30 rfl (lv_at hl 1 rfl) ?_
      refine lv_iadd hx hb dX4_coins_31 ?_
      refine qtop (nI_add 23 j) ?_
      refine qild hx hb hK.1 hP 1 0 rfl rfl (k := 23 + j) (nI_clamp (by omega)) (vp_in_nI (by omega) (by decide)) dX4_coins_32 ?_
      refine lv_ldc (v := (-100006)) hx hb hown wk4 dX4_coins_33 ?_
      refine lv_icmp_eq (tgt := 69) hx hb dX4_coins_35 (by decide) (fun c_35_4 => ?_) (fun c_35_4 => ?_)
      · refine lv_iconst (v := 0) hx hb dX4_coins_69 (by decide) ?_
        refine lv_istore_n (lv' := [(3, .int 0), (0, .ref (a 0)), (1, .int (nI j)), (2, .int k)]) hx hb dX4_coins_70 rfl hl (by decide) rfl (fun ls hl => ?_)
        refine lv_iload_n hx hb dX4_coins_71 rfl (lv_at hl 0 rfl) ?_
        refine lv_if_eq (tgt := 80) hx hb dX4_coins_72 (by decide) (fun _ => ?_) (fun c_9 => absurd (by decide) c_9)
        refine lv_aload_n hx hb dX4_coins_80 rfl (lv_at hl 1 rfl) ?_
        refine lv_bipush (v := 8) hx hb dX4_coins_81 (by decide) ?_
        refine lv_iload_n hx hb dX4_coins_83 rfl (lv_at hl 2 rfl) ?_
        refine lv_iadd hx hb dX4_coins_84 ?_
        refine qtop (nI_add 8 j) ?_
        refine lv_iload_n hx hb dX4_coins_85 rfl (lv_at hl 3 rfl) ?_
        refine cAI (As := [.int (nI (8 + j)), .int k]) (rest := []) ⟨hx, hb, hml, hown, hts⟩ (c_X4_change l G a z sp pa st sv pd tl ty spt tm n (by assumption) (8 + j) k (by omega) _) (cwV 2 hts gX4_coins_X4_change rfl rfl rfl (by decide +kernel) ⟨Nat.le_of_ble_eq_true rfl, Nat.le_of_ble_eq_true rfl⟩) hK hP hD hS hA 0 (ci := 4) rfl rfl rfl rfl rfl hl.1 (Nat.le_of_ble_eq_true rfl) dX4_coins_86 ⟨Nat.le_of_ble_eq_true rfl, Nat.le_of_ble_eq_true rfl⟩ (fun r_5 u_5 H locs hr_5 hP hD hS => ?_)
        have hr_5 : r_5 = z (8 + j) := hr_5
        subst hr_5
        have hP : va_P G.1 vwCl (mw G a (upd z (8 + j) k) sp (rcA z pa n) st sv pd tl (nI (rcN n)) ty spt tm) H := hP
        have hD : va_D A (mw G a (upd z (8 + j) k) sp (rcA z pa n) st sv pd tl (nI (rcN n)) ty spt tm) := hD
        have hf0 : (upd z (8 + j) k) = (if erC z x k = 0 then upd z (8 + ix x) k else z) := (by simp only [if_true, if_false, lz_o, lz_1, lz_2, lz_5, erC, bnZ, if_neg c_4_1, hxj, if_neg c_18_3, if_pos c_35_4])
        have hf1 : (rcA z pa n) = (if erC z x k = 0 then rcA z pa n else pa) := (by simp only [if_true, if_false, lz_o, lz_1, lz_2, lz_5, erC, bnZ, if_neg c_4_1, hxj, if_neg c_18_3, if_pos c_35_4])
        have hf2 : (nI (rcN n)) = (nI (if erC z x k = 0 then rcN n else n)) := (by simp only [if_true, if_false, lz_o, lz_1, lz_2, lz_5, erC, bnZ, if_neg c_4_1, hxj, if_neg c_18_3, if_pos c_35_4])
        have hP : va_P G.1 vwCl (mw G a (if erC z x k = 0 then upd z (8 + ix x) k else z) sp (if erC z x k = 0 then rcA z pa n else pa) st sv pd tl (nI (if erC z x k = 0 then rcN n else n)) ty spt tm) H := by rw [← hf0, ← hf1, ← hf2]; exact hP
        have hD : va_D A (mw G a (if erC z x k = 0 then upd z (8 + ix x) k else z) sp (if erC z x k = 0 then rcA z pa n else pa) st sv pd tl (nI (if erC z x k = 0 then rcN n else n)) ty spt tm) := by rw [← hf0, ← hf1, ← hf2]; exact hD
        exact hret _ _ _ _ _ () (by simp only [if_true, if_false, lz_o, lz_1, lz_2, lz_5, erC, bnZ, if_neg c_4_1, hxj, if_neg c_18_3, if_pos c_35_4]) hP hD hS dX4_coins_89
      · refine lv_aload_n hx hb dX4_coins_38 rfl (lv_at hl 0 rfl) ?_
        refine va_get (D := G.1) (ci := 4) (v := .ref (a 1)) (C := RX4) (T := TX4) (N := 11) hx hb hts hinX4 hown hK.1 hP 0 rfl rfl 0 (by decide) wk3 (fun _ h9 => h9) rfl dX4_coins_39 ?_
        refine lv_bipush (v := 28) hx hb dX4_coins_42 (by decide) ?_
        refine lv_iload_n hx hb dX4_coins_44 rfl (lv_at hl 1 rfl) ?_
        refine lv_iadd hx hb dX4_coins_45 ?_
        refine qtop (nI_add 28 j) ?_
        refine qild hx hb hK.1 hP 1 0 rfl rfl (k := 28 + j) (nI_clamp (by omega)) (vp_in_nI (by omega) (by decide)) dX4_coins_46 ?_
        refine lv_ldc (v := (-100006)) hx hb hown wk4 dX4_coins_47 ?_
        refine lv_icmp_ne (tgt := 69) hx hb dX4_coins_49 (by decide) (fun c_49_6 => ?_) (fun c_49_6 => ?_)
        · refine lv_iconst (v := 0) hx hb dX4_coins_69 (by decide) ?_
          refine lv_istore_n (lv' := [(3, .int 0), (0, .ref (a 0)), (1, .int (nI j)), (2, .int k)]) hx hb dX4_coins_70 rfl hl (by decide) rfl (fun ls hl => ?_)
          refine lv_iload_n hx hb dX4_coins_71 rfl (lv_at hl 0 rfl) ?_
          refine lv_if_eq (tgt := 80) hx hb dX4_coins_72 (by decide) (fun _ => ?_) (fun c_9 => absurd (by decide) c_9)
          refine lv_aload_n hx hb dX4_coins_80 rfl (lv_at hl 1 rfl) ?_
          refine lv_bipush (v := 8) hx hb dX4_coins_81 (by decide) ?_
          refine lv_iload_n hx hb dX4_coins_83 rfl (lv_at hl 2 rfl) ?_
          refine lv_iadd hx hb dX4_coins_84 ?_
          refine qtop (nI_add 8 j) ?_
          refine lv_iload_n hx hb dX4_coins_85 rfl (lv_at hl 3 rfl) ?_
          refine cAI (As := [.int (nI (8 + j)), .int k]) (rest := []) ⟨hx, hb, hml, hown, hts⟩ (c_X4_change l G a z sp pa st sv pd tl ty spt tm n (by assumption) (8 + j) k (by omega) _) (cwV 2 hts gX4_coins_X4_change rfl rfl rfl (by decide +kernel) ⟨Nat.le_of_ble_eq_true rfl, Nat.le_of_ble_eq_true rfl⟩) hK hP hD hS hA 0 (ci := 4) rfl rfl rfl rfl rfl hl.1 (Nat.le_of_ble_eq_true rfl) dX4_coins_86 ⟨Nat.le_of_ble_eq_true rfl, Nat.le_of_ble_eq_true rfl⟩ (fun r_7 u_7 H locs hr_7 hP hD hS => ?_)
          have hr_7 : r_7 = z (8 + j) := hr_7
          subst hr_7
          have hP : va_P G.1 vwCl (mw G a (upd z (8 + j) k) sp (rcA z pa n) st sv pd tl (nI (rcN n)) ty spt tm) H := hP
          have hD : va_D A (mw G a (upd z (8 + j) k) sp (rcA z pa n) st sv pd tl (nI (rcN n)) ty spt tm) := hD
          have hf0 : (upd z (8 + j) k) = (if erC z x k = 0 then upd z (8 + ix x) k else z) := (by simp only [if_true, if_false, lz_o, lz_1, lz_2, lz_5, erC, bnZ, if_neg c_4_1, hxj, if_neg c_18_3, if_neg c_35_4, if_neg c_49_6])
          have hf1 : (rcA z pa n) = (if erC z x k = 0 then rcA z pa n else pa) := (by simp only [if_true, if_false, lz_o, lz_1, lz_2, lz_5, erC, bnZ, if_neg c_4_1, hxj, if_neg c_18_3, if_neg c_35_4, if_neg c_49_6])
          have hf2 : (nI (rcN n)) = (nI (if erC z x k = 0 then rcN n else n)) := (by simp only [if_true, if_false, lz_o, lz_1, lz_2, lz_5, erC, bnZ, if_neg c_4_1, hxj, if_neg c_18_3, if_neg c_35_4, if_neg c_49_6])
          have hP : va_P G.1 vwCl (mw G a (if erC z x k = 0 then upd z (8 + ix x) k else z) sp (if erC z x k = 0 then rcA z pa n else pa) st sv pd tl (nI (if erC z x k = 0 then rcN n else n)) ty spt tm) H := by rw [← hf0, ← hf1, ← hf2]; exact hP
          have hD : va_D A (mw G a (if erC z x k = 0 then upd z (8 + ix x) k else z) sp (if erC z x k = 0 then rcA z pa n else pa) st sv pd tl (nI (if erC z x k = 0 then rcN n else n)) ty spt tm) := by rw [← hf0, ← hf1, ← hf2]; exact hD
          exact hret _ _ _ _ _ () (by simp only [if_true, if_false, lz_o, lz_1, lz_2, lz_5, erC, bnZ, if_neg c_4_1, hxj, if_neg c_18_3, if_neg c_35_4, if_neg c_49_6]) hP hD hS dX4_coins_89
        · refine lv_aload_n hx hb dX4_coins_52 rfl (lv_at hl 0 rfl) ?_
          refine va_get (D := G.1) (ci := 4) (v := .ref (a 1)) (C := RX4) (T := TX4) (N := 11) hx hb hts hinX4 hown hK.1 hP 0 rfl rfl 0 (by decide) wk3 (fun _ h9 => h9) rfl dX4_coins_53 ?_
          refine lv_bipush (v := 23) hx hb dX4_coins_56 (by decide) ?_
          refine lv_iload_n hx hb dX4_coins_58 rfl (lv_at hl 1 rfl) ?_
          refine lv_iadd hx hb dX4_coins_59 ?_
          refine qtop (nI_add 23 j) ?_
          refine qild hx hb hK.1 hP 1 0 rfl rfl (k := 23 + j) (nI_clamp (by omega)) (vp_in_nI (by omega) (by decide)) dX4_coins_60 ?_
          refine lv_iload_n hx hb dX4_coins_61 rfl (lv_at hl 2 rfl) ?_
          refine lv_icmp_le (tgt := 69) hx hb dX4_coins_62 (by decide) (fun c_62_8 => ?_) (fun c_62_8 => ?_)
          · refine lv_iconst (v := 0) hx hb dX4_coins_69 (by decide) ?_
            refine lv_istore_n (lv' := [(3, .int 0), (0, .ref (a 0)), (1, .int (nI j)), (2, .int k)]) hx hb dX4_coins_70 rfl hl (by decide) rfl (fun ls hl => ?_)
            refine lv_iload_n hx hb dX4_coins_71 rfl (lv_at hl 0 rfl) ?_
            refine lv_if_eq (tgt := 80) hx hb dX4_coins_72 (by decide) (fun _ => ?_) (fun c_9 => absurd (by decide) c_9)
            refine lv_aload_n hx hb dX4_coins_80 rfl (lv_at hl 1 rfl) ?_
            refine lv_bipush (v := 8) hx hb dX4_coins_81 (by decide) ?_
            refine lv_iload_n hx hb dX4_coins_83 rfl (lv_at hl 2 rfl) ?_
            refine lv_iadd hx hb dX4_coins_84 ?_
            refine qtop (nI_add 8 j) ?_
            refine lv_iload_n hx hb dX4_coins_85 rfl (lv_at hl 3 rfl) ?_
            refine cAI (As := [.int (nI (8 + j)), .int k]) (rest := []) ⟨hx, hb, hml, hown, hts⟩ (c_X4_change l G a z sp pa st sv pd tl ty spt tm n (by assumption) (8 + j) k (by omega) _) (cwV 2 hts gX4_coins_X4_change rfl rfl rfl (by decide +kernel) ⟨Nat.le_of_ble_eq_true rfl, Nat.le_of_ble_eq_true rfl⟩) hK hP hD hS hA 0 (ci := 4) rfl rfl rfl rfl rfl hl.1 (Nat.le_of_ble_eq_true rfl) dX4_coins_86 ⟨Nat.le_of_ble_eq_true rfl, Nat.le_of_ble_eq_true rfl⟩ (fun r_9 u_9 H locs hr_9 hP hD hS => ?_)
            have hr_9 : r_9 = z (8 + j) := hr_9
            subst hr_9
            have hP : va_P G.1 vwCl (mw G a (upd z (8 + j) k) sp (rcA z pa n) st sv pd tl (nI (rcN n)) ty spt tm) H := hP
            have hD : va_D A (mw G a (upd z (8 + j) k) sp (rcA z pa n) st sv pd tl (nI (rcN n)) ty spt tm) := hD
            have hf0 : (upd z (8 + j) k) = (if erC z x k = 0 then upd z (8 + ix x) k else z) := (by simp only [if_true, if_false, lz_o, lz_1, lz_2, lz_5, erC, bnZ, if_neg c_4_1, hxj, if_neg c_18_3, if_neg c_35_4, if_pos c_49_6, if_pos c_62_8])
            have hf1 : (rcA z pa n) = (if erC z x k = 0 then rcA z pa n else pa) := (by simp only [if_true, if_false, lz_o, lz_1, lz_2, lz_5, erC, bnZ, if_neg c_4_1, hxj, if_neg c_18_3, if_neg c_35_4, if_pos c_49_6, if_pos c_62_8])
            have hf2 : (nI (rcN n)) = (nI (if erC z x k = 0 then rcN n else n)) := (by simp only [if_true, if_false, lz_o, lz_1, lz_2, lz_5, erC, bnZ, if_neg c_4_1, hxj, if_neg c_18_3, if_neg c_35_4, if_pos c_49_6, if_pos c_62_8])
            have hP : va_P G.1 vwCl (mw G a (if erC z x k = 0 then upd z (8 + ix x) k else z) sp (if erC z x k = 0 then rcA z pa n else pa) st sv pd tl (nI (if erC z x k = 0 then rcN n else n)) ty spt tm) H := by rw [← hf0, ← hf1, ← hf2]; exact hP
            have hD : va_D A (mw G a (if erC z x k = 0 then upd z (8 + ix x) k else z) sp (if erC z x k = 0 then rcA z pa n else pa) st sv pd tl (nI (if erC z x k = 0 then rcN n else n)) ty spt tm) := by rw [← hf0, ← hf1, ← hf2]; exact hD
            exact hret _ _ _ _ _ () (by simp only [if_true, if_false, lz_o, lz_1, lz_2, lz_5, erC, bnZ, if_neg c_4_1, hxj, if_neg c_18_3, if_neg c_35_4, if_pos c_49_6, if_pos c_62_8]) hP hD hS dX4_coins_89
          · refine lv_iconst (v := 1) hx hb dX4_coins_65 (by decide) ?_
            refine lv_goto (tgt := 70) hx hb dX4_coins_66 (by decide) ?_
            refine lv_istore_n (lv' := [(3, .int 1), (0, .ref (a 0)), (1, .int (nI j)), (2, .int k)]) hx hb dX4_coins_70 rfl hl (by decide) rfl (fun ls hl => ?_)
            refine lv_iload_n hx hb dX4_coins_71 rfl (lv_at hl 0 rfl) ?_
            refine lv_if_eq (tgt := 80) hx hb dX4_coins_72 (by decide) (fun c_9 => absurd c_9 (by decide)) (fun _ => ?_)
            refine lv_ldc (v := (-100005)) hx hb hown wk5 dX4_coins_75 ?_
            refine lv_goto (tgt := 89) hx hb dX4_coins_77 (by decide) ?_
            have hf0 : (z) = (if erC z x k = 0 then upd z (8 + ix x) k else z) := (by simp only [if_true, if_false, lz_o, lz_1, lz_2, lz_5, erC, bnZ, if_neg c_4_1, hxj, if_neg c_18_3, if_neg c_35_4, if_pos c_49_6, if_neg c_62_8])
            have hf1 : (pa) = (if erC z x k = 0 then rcA z pa n else pa) := (by simp only [if_true, if_false, lz_o, lz_1, lz_2, lz_5, erC, bnZ, if_neg c_4_1, hxj, if_neg c_18_3, if_neg c_35_4, if_pos c_49_6, if_neg c_62_8])
            have hf2 : (nI n) = (nI (if erC z x k = 0 then rcN n else n)) := (by simp only [if_true, if_false, lz_o, lz_1, lz_2, lz_5, erC, bnZ, if_neg c_4_1, hxj, if_neg c_18_3, if_neg c_35_4, if_pos c_49_6, if_neg c_62_8])
            have hP : va_P G.1 vwCl (mw G a (if erC z x k = 0 then upd z (8 + ix x) k else z) sp (if erC z x k = 0 then rcA z pa n else pa) st sv pd tl (nI (if erC z x k = 0 then rcN n else n)) ty spt tm) s.heap := by rw [← hf0, ← hf1, ← hf2]; exact hP
            have hD : va_D A (mw G a (if erC z x k = 0 then upd z (8 + ix x) k else z) sp (if erC z x k = 0 then rcA z pa n else pa) st sv pd tl (nI (if erC z x k = 0 then rcN n else n)) ty spt tm) := by rw [← hf0, ← hf1, ← hf2]; exact hD
            exact hret _ _ _ _ _ () (by simp only [if_true, if_false, lz_o, lz_1, lz_2, lz_5, erC, bnZ, if_neg c_4_1, hxj, if_neg c_18_3, if_neg c_35_4, if_pos c_49_6, if_neg c_62_8]) hP hD hS dX4_coins_89
    · refine lv_ldc (v := (-100002)) hx hb hown wk2 dX4_coins_21 ?_
      have hf0 : (z) = (if erC z x k = 0 then upd z (8 + ix x) k else z) := (by simp only [if_true, if_false, lz_o, lz_1, lz_2, lz_5, erC, bnZ, if_neg c_4_1, hxj, if_pos c_18_3])
      have hf1 : (pa) = (if erC z x k = 0 then rcA z pa n else pa) := (by simp only [if_true, if_false, lz_o, lz_1, lz_2, lz_5, erC, bnZ, if_neg c_4_1, hxj, if_pos c_18_3])
      have hf2 : (nI n) = (nI (if erC z x k = 0 then rcN n else n)) := (by simp only [if_true, if_false, lz_o, lz_1, lz_2, lz_5, erC, bnZ, if_neg c_4_1, hxj, if_pos c_18_3])
      have hP : va_P G.1 vwCl (mw G a (if erC z x k = 0 then upd z (8 + ix x) k else z) sp (if erC z x k = 0 then rcA z pa n else pa) st sv pd tl (nI (if erC z x k = 0 then rcN n else n)) ty spt tm) s.heap := by rw [← hf0, ← hf1, ← hf2]; exact hP
      have hD : va_D A (mw G a (if erC z x k = 0 then upd z (8 + ix x) k else z) sp (if erC z x k = 0 then rcA z pa n else pa) st sv pd tl (nI (if erC z x k = 0 then rcN n else n)) ty spt tm) := by rw [← hf0, ← hf1, ← hf2]; exact hD
      exact hret _ _ _ _ _ () (by simp only [if_true, if_false, lz_o, lz_1, lz_2, lz_5, erC, bnZ, if_neg c_4_1, hxj, if_pos c_18_3]) hP hD hS dX4_coins_23
  · refine lv_ldc (v := (-100001)) hx hb hown wk1 dX4_coins_7 ?_
    have hf0 : (z) = (if erC z x k = 0 then upd z (8 + ix x) k else z) := (by simp only [if_true, if_false, lz_o, lz_1, lz_2, lz_5, erC, bnZ, if_pos c_4_1])
    have hf1 : (pa) = (if erC z x k = 0 then rcA z pa n else pa) := (by simp only [if_true, if_false, lz_o, lz_1, lz_2, lz_5, erC, bnZ, if_pos c_4_1])
    have hf2 : (nI n) = (nI (if erC z x k = 0 then rcN n else n)) := (by simp only [if_true, if_false, lz_o, lz_1, lz_2, lz_5, erC, bnZ, if_pos c_4_1])
    have hP : va_P G.1 vwCl (mw G a (if erC z x k = 0 then upd z (8 + ix x) k else z) sp (if erC z x k = 0 then rcA z pa n else pa) st sv pd tl (nI (if erC z x k = 0 then rcN n else n)) ty spt tm) s.heap := by rw [← hf0, ← hf1, ← hf2]; exact hP
    have hD : va_D A (mw G a (if erC z x k = 0 then upd z (8 + ix x) k else z) sp (if erC z x k = 0 then rcA z pa n else pa) st sv pd tl (nI (if erC z x k = 0 then rcN n else n)) ty spt tm) := by rw [← hf0, ← hf1, ← hf2]; exact hD
    exact hret _ _ _ _ _ () (by simp only [if_true, if_false, lz_o, lz_1, lz_2, lz_5, erC, bnZ, if_pos c_4_1]) hP hD hS dX4_coins_9
set_option maxHeartbeats 4000000 in
set_option maxRecDepth 100000 in
theorem c_X4_limit (l : Launch) (G : qG) (a : Nat → Nat) (z sp pa st sv pd tl : Nat → Int32) (ty spt tm : Int32) (n : Nat) (hn : n ≤ 6) (x k : Int32) (sz : Nat) : MI l yX4_limit wsX4_limit 3 68 G sz [.ref (a 0), .int x, .int k] (mw G a z sp pa st sv pd tl (nI n) ty spt tm) (if erL x k = 0 then z (13 + ix x) else erL x k) (mw G a (if erL x k = 0 then upd z (13 + ix x) k else z) sp (if erL x k = 0 then rcA z pa n else pa) st sv pd tl (nI (if erL x k = 0 then rcN n else n)) ty spt tm) := by
  refine MI.of' (by decide) rfl (Nat.le_of_ble_eq_true rfl) ?_
  intro p e s m below meth c hx hb hml hown hts hK hsz hP A hAe hA hD hS Q hret ls hl
  have hown : s.vm.findClass RX4 = some m.cls := hown
  have hl : lv_has ls 3 [(0, .ref (a 0)), (1, .int x), (2, .int k)] := hl
  have wk1 := hts (Cond.constant RX4 69 (-100001)) (List.mem_of_getElem? (i := 1) rfl)
  have wk2 := hts (Cond.constant RX4 49 (-100002)) (List.mem_of_getElem? (i := 2) rfl)
  have wk3 := hts (Cond.methodLink RX4 65 yX4_isPlayer) (List.mem_of_getElem? (i := 3) rfl)
  have wk7 := hts (Cond.methodLink RX4 35 yX4_in) (List.mem_of_getElem? (i := 7) rfl)
  have wk10 := hts (Cond.methodLink RX4 61 yX4_change) (List.mem_of_getElem? (i := 10) rfl)
  refine lv_iload_n hx hb dX4_limit_0 rfl (lv_at hl 1 rfl) ?_
  refine cPS (As := [.int x]) (rest := []) ⟨hx, hb, hml, hown, hts⟩ (c_X4_isPlayer l G x) (cwS 1 hts gX4_limit_X4_isPlayer rfl rfl rfl (by decide +kernel) ⟨Nat.le_of_ble_eq_true rfl, Nat.le_of_ble_eq_true rfl⟩) hK (fun k q h => by simp at h) rfl rfl hl.1 (Nat.le_of_ble_eq_true rfl) dX4_limit_1 ⟨Nat.le_of_ble_eq_true rfl, Nat.le_of_ble_eq_true rfl⟩ ?_
  refine lv_if_ne (tgt := 12) hx hb dX4_limit_4 (by decide) (fun c_4_1 => ?_) (fun c_4_1 => ?_)
  · have hin_2 := inB5 c_4_1
    obtain ⟨j, hj, hej⟩ := vp_in_of (inB5 c_4_1) (by decide)
    rw [hej] at hl
    have hxj : ix x = j := by rw [hej]; exact nI_clamp (by omega)
    refine lv_iload_n hx hb dX4_limit_12 rfl (lv_at hl 2 rfl) ?_
    refine lv_iconst (v := 0) hx hb dX4_limit_13 (by decide) ?_
    refine lv_bipush (v := 99) hx hb dX4_limit_14 (by decide) ?_
    refine cPS (As := [.int k, .int 0, .int 99]) (rest := []) ⟨hx, hb, hml, hown, hts⟩ (c_X4_in l G k 0 99) (cwS 3 hts gX4_limit_X4_in rfl rfl rfl (by decide +kernel) ⟨Nat.le_of_ble_eq_true rfl, Nat.le_of_ble_eq_true rfl⟩) hK (fun k q h => by simp at h) rfl rfl hl.1 (Nat.le_of_ble_eq_true rfl) dX4_limit_16 ⟨Nat.le_of_ble_eq_true rfl, Nat.le_of_ble_eq_true rfl⟩ ?_
    refine lv_if_eq (tgt := 34) hx hb dX4_limit_19 (by decide) (fun c_19_3 => ?_) (fun c_19_3 => ?_)
    · refine lv_ldc (v := (-100002)) hx hb hown wk2 dX4_limit_34 ?_
      have hf0 : (z) = (if erL x k = 0 then upd z (13 + ix x) k else z) := (by simp only [if_true, if_false, lz_o, lz_1, lz_2, lz_5, erL, if_neg c_4_1, hxj, if_pos c_19_3])
      have hf1 : (pa) = (if erL x k = 0 then rcA z pa n else pa) := (by simp only [if_true, if_false, lz_o, lz_1, lz_2, lz_5, erL, if_neg c_4_1, hxj, if_pos c_19_3])
      have hf2 : (nI n) = (nI (if erL x k = 0 then rcN n else n)) := (by simp only [if_true, if_false, lz_o, lz_1, lz_2, lz_5, erL, if_neg c_4_1, hxj, if_pos c_19_3])
      have hP : va_P G.1 vwCl (mw G a (if erL x k = 0 then upd z (13 + ix x) k else z) sp (if erL x k = 0 then rcA z pa n else pa) st sv pd tl (nI (if erL x k = 0 then rcN n else n)) ty spt tm) s.heap := by rw [← hf0, ← hf1, ← hf2]; exact hP
      have hD : va_D A (mw G a (if erL x k = 0 then upd z (13 + ix x) k else z) sp (if erL x k = 0 then rcA z pa n else pa) st sv pd tl (nI (if erL x k = 0 then rcN n else n)) ty spt tm) := by rw [← hf0, ← hf1, ← hf2]; exact hD
      exact hret _ _ _ _ _ () (by simp only [if_true, if_false, lz_o, lz_1, lz_2, lz_5, erL, if_neg c_4_1, hxj, if_pos c_19_3]) hP hD hS dX4_limit_36
    · refine lv_aload_n hx hb dX4_limit_22 rfl (lv_at hl 0 rfl) ?_
      refine lv_bipush (v := 13) hx hb dX4_limit_23 (by decide) ?_
      refine lv_iload_n hx hb dX4_limit_25 rfl (lv_at hl 1 rfl) ?_
      refine lv_iadd hx hb dX4_limit_26 ?_
      refine qtop (nI_add 13 j) ?_
      refine lv_iload_n hx hb dX4_limit_27 rfl (lv_at hl 2 rfl) ?_
      refine cAI (As := [.int (nI (13 + j)), .int k]) (rest := []) ⟨hx, hb, hml, hown, hts⟩ (c_X4_change l G a z sp pa st sv pd tl ty spt tm n (by assumption) (13 + j) k (by omega) _) (cwV 2 hts gX4_limit_X4_change rfl rfl rfl (by decide +kernel) ⟨Nat.le_of_ble_eq_true rfl, Nat.le_of_ble_eq_true rfl⟩) hK hP hD hS hA 0 (ci := 4) rfl rfl rfl rfl rfl hl.1 (Nat.le_of_ble_eq_true rfl) dX4_limit_28 ⟨Nat.le_of_ble_eq_true rfl, Nat.le_of_ble_eq_true rfl⟩ (fun r_4 u_4 H locs hr_4 hP hD hS => ?_)
      have hr_4 : r_4 = z (13 + j) := hr_4
      subst hr_4
      have hP : va_P G.1 vwCl (mw G a (upd z (13 + j) k) sp (rcA z pa n) st sv pd tl (nI (rcN n)) ty spt tm) H := hP
      have hD : va_D A (mw G a (upd z (13 + j) k) sp (rcA z pa n) st sv pd tl (nI (rcN n)) ty spt tm) := hD
      refine lv_goto (tgt := 36) hx hb dX4_limit_31 (by decide) ?_
      have hf0 : (upd z (13 + j) k) = (if erL x k = 0 then upd z (13 + ix x) k else z) := (by simp only [if_true, if_false, lz_o, lz_1, lz_2, lz_5, erL, if_neg c_4_1, hxj, if_neg c_19_3])
      have hf1 : (rcA z pa n) = (if erL x k = 0 then rcA z pa n else pa) := (by simp only [if_true, if_false, lz_o, lz_1, lz_2, lz_5, erL, if_neg c_4_1, hxj, if_neg c_19_3])
      have hf2 : (nI (rcN n)) = (nI (if erL x k = 0 then rcN n else n)) := (by simp only [if_true, if_false, lz_o, lz_1, lz_2, lz_5, erL, if_neg c_4_1, hxj, if_neg c_19_3])
      have hP : va_P G.1 vwCl (mw G a (if erL x k = 0 then upd z (13 + ix x) k else z) sp (if erL x k = 0 then rcA z pa n else pa) st sv pd tl (nI (if erL x k = 0 then rcN n else n)) ty spt tm) H := by rw [← hf0, ← hf1, ← hf2]; exact hP
      have hD : va_D A (mw G a (if erL x k = 0 then upd z (13 + ix x) k else z) sp (if erL x k = 0 then rcA z pa n else pa) st sv pd tl (nI (if erL x k = 0 then rcN n else n)) ty spt tm) := by rw [← hf0, ← hf1, ← hf2]; exact hD
      exact hret _ _ _ _ _ () (by simp only [if_true, if_false, lz_o, lz_1, lz_2, lz_5, erL, if_neg c_4_1, hxj, if_neg c_19_3]) hP hD hS dX4_limit_36
  · refine lv_ldc (v := (-100001)) hx hb hown wk1 dX4_limit_7 ?_
    refine lv_goto (tgt := 36) hx hb dX4_limit_9 (by decide) ?_
    have hf0 : (z) = (if erL x k = 0 then upd z (13 + ix x) k else z) := (by simp only [if_true, if_false, lz_o, lz_1, lz_2, lz_5, erL, if_pos c_4_1])
    have hf1 : (pa) = (if erL x k = 0 then rcA z pa n else pa) := (by simp only [if_true, if_false, lz_o, lz_1, lz_2, lz_5, erL, if_pos c_4_1])
    have hf2 : (nI n) = (nI (if erL x k = 0 then rcN n else n)) := (by simp only [if_true, if_false, lz_o, lz_1, lz_2, lz_5, erL, if_pos c_4_1])
    have hP : va_P G.1 vwCl (mw G a (if erL x k = 0 then upd z (13 + ix x) k else z) sp (if erL x k = 0 then rcA z pa n else pa) st sv pd tl (nI (if erL x k = 0 then rcN n else n)) ty spt tm) s.heap := by rw [← hf0, ← hf1, ← hf2]; exact hP
    have hD : va_D A (mw G a (if erL x k = 0 then upd z (13 + ix x) k else z) sp (if erL x k = 0 then rcA z pa n else pa) st sv pd tl (nI (if erL x k = 0 then rcN n else n)) ty spt tm) := by rw [← hf0, ← hf1, ← hf2]; exact hD
    exact hret _ _ _ _ _ () (by simp only [if_true, if_false, lz_o, lz_1, lz_2, lz_5, erL, if_pos c_4_1]) hP hD hS dX4_limit_36
set_option maxHeartbeats 4000000 in
set_option maxRecDepth 100000 in
theorem c_X4_prize (l : Launch) (G : qG) (a : Nat → Nat) (z sp pa st sv pd tl : Nat → Int32) (ty spt tm : Int32) (n : Nat) (hn : n ≤ 6) (x k : Int32) (sz : Nat) : MI l yX4_prize wsX4_prize 3 68 G sz [.ref (a 0), .int x, .int k] (mw G a z sp pa st sv pd tl (nI n) ty spt tm) (if erL x k = 0 then z (48 + ix x) else erL x k) (mw G a (if erL x k = 0 then upd z (48 + ix x) k else z) sp (if erL x k = 0 then rcA z pa n else pa) st sv pd tl (nI (if erL x k = 0 then rcN n else n)) ty spt tm) := by
  refine MI.of' (by decide) rfl (Nat.le_of_ble_eq_true rfl) ?_
  intro p e s m below meth c hx hb hml hown hts hK hsz hP A hAe hA hD hS Q hret ls hl
  have hown : s.vm.findClass RX4 = some m.cls := hown
  have hl : lv_has ls 3 [(0, .ref (a 0)), (1, .int x), (2, .int k)] := hl
  have wk1 := hts (Cond.constant RX4 69 (-100001)) (List.mem_of_getElem? (i := 1) rfl)
  have wk2 := hts (Cond.constant RX4 49 (-100002)) (List.mem_of_getElem? (i := 2) rfl)
  have wk3 := hts (Cond.methodLink RX4 65 yX4_isPlayer) (List.mem_of_getElem? (i := 3) rfl)
  have wk7 := hts (Cond.methodLink RX4 35 yX4_in) (List.mem_of_getElem? (i := 7) rfl)
  have wk10 := hts (Cond.methodLink RX4 61 yX4_change) (List.mem_of_getElem? (i := 10) rfl)
  refine lv_iload_n hx hb dX4_prize_0 rfl (lv_at hl 1 rfl) ?_
  refine cPS (As := [.int x]) (rest := []) ⟨hx, hb, hml, hown, hts⟩ (c_X4_isPlayer l G x) (cwS 1 hts gX4_prize_X4_isPlayer rfl rfl rfl (by decide +kernel) ⟨Nat.le_of_ble_eq_true rfl, Nat.le_of_ble_eq_true rfl⟩) hK (fun k q h => by simp at h) rfl rfl hl.1 (Nat.le_of_ble_eq_true rfl) dX4_prize_1 ⟨Nat.le_of_ble_eq_true rfl, Nat.le_of_ble_eq_true rfl⟩ ?_
  refine lv_if_ne (tgt := 12) hx hb dX4_prize_4 (by decide) (fun c_4_1 => ?_) (fun c_4_1 => ?_)
  · have hin_2 := inB5 c_4_1
    obtain ⟨j, hj, hej⟩ := vp_in_of (inB5 c_4_1) (by decide)
    rw [hej] at hl
    have hxj : ix x = j := by rw [hej]; exact nI_clamp (by omega)
    refine lv_iload_n hx hb dX4_prize_12 rfl (lv_at hl 2 rfl) ?_
    refine lv_iconst (v := 0) hx hb dX4_prize_13 (by decide) ?_
    refine lv_bipush (v := 99) hx hb dX4_prize_14 (by decide) ?_
    refine cPS (As := [.int k, .int 0, .int 99]) (rest := []) ⟨hx, hb, hml, hown, hts⟩ (c_X4_in l G k 0 99) (cwS 3 hts gX4_prize_X4_in rfl rfl rfl (by decide +kernel) ⟨Nat.le_of_ble_eq_true rfl, Nat.le_of_ble_eq_true rfl⟩) hK (fun k q h => by simp at h) rfl rfl hl.1 (Nat.le_of_ble_eq_true rfl) dX4_prize_16 ⟨Nat.le_of_ble_eq_true rfl, Nat.le_of_ble_eq_true rfl⟩ ?_
    refine lv_if_eq (tgt := 34) hx hb dX4_prize_19 (by decide) (fun c_19_3 => ?_) (fun c_19_3 => ?_)
    · refine lv_ldc (v := (-100002)) hx hb hown wk2 dX4_prize_34 ?_
      have hf0 : (z) = (if erL x k = 0 then upd z (48 + ix x) k else z) := (by simp only [if_true, if_false, lz_o, lz_1, lz_2, lz_5, erL, if_neg c_4_1, hxj, if_pos c_19_3])
      have hf1 : (pa) = (if erL x k = 0 then rcA z pa n else pa) := (by simp only [if_true, if_false, lz_o, lz_1, lz_2, lz_5, erL, if_neg c_4_1, hxj, if_pos c_19_3])
      have hf2 : (nI n) = (nI (if erL x k = 0 then rcN n else n)) := (by simp only [if_true, if_false, lz_o, lz_1, lz_2, lz_5, erL, if_neg c_4_1, hxj, if_pos c_19_3])
      have hP : va_P G.1 vwCl (mw G a (if erL x k = 0 then upd z (48 + ix x) k else z) sp (if erL x k = 0 then rcA z pa n else pa) st sv pd tl (nI (if erL x k = 0 then rcN n else n)) ty spt tm) s.heap := by rw [← hf0, ← hf1, ← hf2]; exact hP
      have hD : va_D A (mw G a (if erL x k = 0 then upd z (48 + ix x) k else z) sp (if erL x k = 0 then rcA z pa n else pa) st sv pd tl (nI (if erL x k = 0 then rcN n else n)) ty spt tm) := by rw [← hf0, ← hf1, ← hf2]; exact hD
      exact hret _ _ _ _ _ () (by simp only [if_true, if_false, lz_o, lz_1, lz_2, lz_5, erL, if_neg c_4_1, hxj, if_pos c_19_3]) hP hD hS dX4_prize_36
    · refine lv_aload_n hx hb dX4_prize_22 rfl (lv_at hl 0 rfl) ?_
      refine lv_bipush (v := 48) hx hb dX4_prize_23 (by decide) ?_
      refine lv_iload_n hx hb dX4_prize_25 rfl (lv_at hl 1 rfl) ?_
      refine lv_iadd hx hb dX4_prize_26 ?_
      refine qtop (nI_add 48 j) ?_
      refine lv_iload_n hx hb dX4_prize_27 rfl (lv_at hl 2 rfl) ?_
      refine cAI (As := [.int (nI (48 + j)), .int k]) (rest := []) ⟨hx, hb, hml, hown, hts⟩ (c_X4_change l G a z sp pa st sv pd tl ty spt tm n (by assumption) (48 + j) k (by omega) _) (cwV 2 hts gX4_prize_X4_change rfl rfl rfl (by decide +kernel) ⟨Nat.le_of_ble_eq_true rfl, Nat.le_of_ble_eq_true rfl⟩) hK hP hD hS hA 0 (ci := 4) rfl rfl rfl rfl rfl hl.1 (Nat.le_of_ble_eq_true rfl) dX4_prize_28 ⟨Nat.le_of_ble_eq_true rfl, Nat.le_of_ble_eq_true rfl⟩ (fun r_4 u_4 H locs hr_4 hP hD hS => ?_)
      have hr_4 : r_4 = z (48 + j) := hr_4
      subst hr_4
      have hP : va_P G.1 vwCl (mw G a (upd z (48 + j) k) sp (rcA z pa n) st sv pd tl (nI (rcN n)) ty spt tm) H := hP
      have hD : va_D A (mw G a (upd z (48 + j) k) sp (rcA z pa n) st sv pd tl (nI (rcN n)) ty spt tm) := hD
      refine lv_goto (tgt := 36) hx hb dX4_prize_31 (by decide) ?_
      have hf0 : (upd z (48 + j) k) = (if erL x k = 0 then upd z (48 + ix x) k else z) := (by simp only [if_true, if_false, lz_o, lz_1, lz_2, lz_5, erL, if_neg c_4_1, hxj, if_neg c_19_3])
      have hf1 : (rcA z pa n) = (if erL x k = 0 then rcA z pa n else pa) := (by simp only [if_true, if_false, lz_o, lz_1, lz_2, lz_5, erL, if_neg c_4_1, hxj, if_neg c_19_3])
      have hf2 : (nI (rcN n)) = (nI (if erL x k = 0 then rcN n else n)) := (by simp only [if_true, if_false, lz_o, lz_1, lz_2, lz_5, erL, if_neg c_4_1, hxj, if_neg c_19_3])
      have hP : va_P G.1 vwCl (mw G a (if erL x k = 0 then upd z (48 + ix x) k else z) sp (if erL x k = 0 then rcA z pa n else pa) st sv pd tl (nI (if erL x k = 0 then rcN n else n)) ty spt tm) H := by rw [← hf0, ← hf1, ← hf2]; exact hP
      have hD : va_D A (mw G a (if erL x k = 0 then upd z (48 + ix x) k else z) sp (if erL x k = 0 then rcA z pa n else pa) st sv pd tl (nI (if erL x k = 0 then rcN n else n)) ty spt tm) := by rw [← hf0, ← hf1, ← hf2]; exact hD
      exact hret _ _ _ _ _ () (by simp only [if_true, if_false, lz_o, lz_1, lz_2, lz_5, erL, if_neg c_4_1, hxj, if_neg c_19_3]) hP hD hS dX4_prize_36
  · refine lv_ldc (v := (-100001)) hx hb hown wk1 dX4_prize_7 ?_
    refine lv_goto (tgt := 36) hx hb dX4_prize_9 (by decide) ?_
    have hf0 : (z) = (if erL x k = 0 then upd z (48 + ix x) k else z) := (by simp only [if_true, if_false, lz_o, lz_1, lz_2, lz_5, erL, if_pos c_4_1])
    have hf1 : (pa) = (if erL x k = 0 then rcA z pa n else pa) := (by simp only [if_true, if_false, lz_o, lz_1, lz_2, lz_5, erL, if_pos c_4_1])
    have hf2 : (nI n) = (nI (if erL x k = 0 then rcN n else n)) := (by simp only [if_true, if_false, lz_o, lz_1, lz_2, lz_5, erL, if_pos c_4_1])
    have hP : va_P G.1 vwCl (mw G a (if erL x k = 0 then upd z (48 + ix x) k else z) sp (if erL x k = 0 then rcA z pa n else pa) st sv pd tl (nI (if erL x k = 0 then rcN n else n)) ty spt tm) s.heap := by rw [← hf0, ← hf1, ← hf2]; exact hP
    have hD : va_D A (mw G a (if erL x k = 0 then upd z (48 + ix x) k else z) sp (if erL x k = 0 then rcA z pa n else pa) st sv pd tl (nI (if erL x k = 0 then rcN n else n)) ty spt tm) := by rw [← hf0, ← hf1, ← hf2]; exact hD
    exact hret _ _ _ _ _ () (by simp only [if_true, if_false, lz_o, lz_1, lz_2, lz_5, erL, if_pos c_4_1]) hP hD hS dX4_prize_36
set_option maxHeartbeats 4000000 in
set_option maxRecDepth 100000 in
theorem c_X4_begin (l : Launch) (G : qG) (a : Nat → Nat) (z sp pa st sv pd tl : Nat → Int32) (ty spt tm : Int32) (n : Nat) (hn : n ≤ 6)  (sz : Nat) : MI l yX4_begin wsX4_begin 2 45 G sz [.ref (a 0)] (mw G a z sp pa st sv pd tl (nI n) ty spt tm) (if z 4 = 1 then (-100005) else bgZ z 5) (mw G a (if z 4 = 1 then z else bgZ z) sp (if z 4 = 1 then pa else rcA z pa n) st sv pd tl (nI (if z 4 = 1 then n else rcN n)) ty spt tm) := by
  refine MI.of' (by decide) rfl (Nat.le_of_ble_eq_true rfl) ?_
  intro p e s m below meth c hx hb hml hown hts hK hsz hP A hAe hA hD hS Q hret ls hl
  have hown : s.vm.findClass RX4 = some m.cls := hown
  have hl : lv_has ls 1 [(0, .ref (a 0))] := hl
  have wk1 := hts (Cond.fieldLink RX4 7 "TurnBidsModel" "z" "[I") (List.mem_of_getElem? (i := 1) rfl)
  have wk2 := hts (Cond.constant RX4 48 (-100005)) (List.mem_of_getElem? (i := 2) rfl)
  have wk3 := hts (Cond.methodLink RX4 54 yX4_record) (List.mem_of_getElem? (i := 3) rfl)
  have wk13 := hts (Cond.methodLink RX4 103 yX4_beginNow) (List.mem_of_getElem? (i := 13) rfl)
  have hinX4 : ∀ w ∈ wsX40, w ∈ wsX4_begin := fun _ h => (List.mem_cons_of_mem _ (List.mem_append_right _ h))
  refine lv_aload_n hx hb dX4_begin_0 rfl (lv_at hl 0 rfl) ?_
  refine va_get (D := G.1) (ci := 4) (v := .ref (a 1)) (C := RX4) (T := TX4) (N := 11) hx hb hts hinX4 hown hK.1 hP 0 rfl rfl 0 (by decide) wk1 (fun _ h9 => h9) rfl dX4_begin_1 ?_
  refine lv_iconst (v := 4) hx hb dX4_begin_4 (by decide) ?_
  refine qild hx hb hK.1 hP 1 0 rfl rfl (k := 4) rfl (vp_in_nI (n := 4) (by decide) (by decide)) dX4_begin_5 ?_
  refine lv_iconst (v := 1) hx hb dX4_begin_6 (by decide) ?_
  refine lv_icmp_ne (tgt := 13) hx hb dX4_begin_7 (by decide) (fun c_7_1 => ?_) (fun c_7_1 => ?_)
  · refine lv_aload_n hx hb dX4_begin_13 rfl (lv_at hl 0 rfl) ?_
    refine cAV (As := []) (rest := []) ⟨hx, hb, hml, hown, hts⟩ (c_X4_record l G a z sp pa st sv pd tl ty spt tm n (by first | assumption | (unfold rcN; split <;> omega)) _) (cwV 0 hts gX4_begin_X4_record rfl rfl rfl (by decide +kernel) ⟨Nat.le_of_ble_eq_true rfl, Nat.le_of_ble_eq_true rfl⟩) hK hP hD hS hA 0 (ci := 4) rfl rfl rfl rfl rfl hl.1 (Nat.le_of_ble_eq_true rfl) dX4_begin_14 ⟨Nat.le_of_ble_eq_true rfl, Nat.le_of_ble_eq_true rfl⟩ (fun u_2 H locs hr_2 hP hD hS => ?_)
    have hP : va_P G.1 vwCl (mw G a z sp (rcA z pa n) st sv pd tl (nI (rcN n)) ty spt tm) H := hP
    have hD : va_D A (mw G a z sp (rcA z pa n) st sv pd tl (nI (rcN n)) ty spt tm) := hD
    refine lv_aload_n hx hb dX4_begin_17 rfl (lv_at hl 0 rfl) ?_
    refine cAV (As := []) (rest := []) ⟨hx, hb, hml, hown, hts⟩ (c_X4_beginNow l G a z sp (rcA z pa n) st sv pd tl (nI (rcN n)) ty spt tm _) (cwV 0 hts gX4_begin_X4_beginNow rfl rfl rfl (by decide +kernel) ⟨Nat.le_of_ble_eq_true rfl, Nat.le_of_ble_eq_true rfl⟩) hK hP hD hS hA 0 (ci := 4) rfl rfl rfl rfl rfl hl.1 (Nat.le_of_ble_eq_true rfl) dX4_begin_18 ⟨Nat.le_of_ble_eq_true rfl, Nat.le_of_ble_eq_true rfl⟩ (fun u_3 H locs hr_3 hP hD hS => ?_)
    have hP : va_P G.1 vwCl (mw G a (bgZ z) sp (rcA z pa n) st sv pd tl (nI (rcN n)) ty spt tm) H := hP
    have hD : va_D A (mw G a (bgZ z) sp (rcA z pa n) st sv pd tl (nI (rcN n)) ty spt tm) := hD
    refine lv_aload_n hx hb dX4_begin_21 rfl (lv_at hl 0 rfl) ?_
    refine va_get (D := G.1) (ci := 4) (v := .ref (a 1)) (C := RX4) (T := TX4) (N := 11) hx hb hts hinX4 hown hK.1 hP 0 rfl rfl 0 (by decide) wk1 (fun _ h9 => h9) rfl dX4_begin_22 ?_
    refine lv_iconst (v := 5) hx hb dX4_begin_25 (by decide) ?_
    refine qild hx hb hK.1 hP 1 0 rfl rfl (k := 5) rfl (vp_in_nI (n := 5) (by decide) (by decide)) dX4_begin_26 ?_
    have hf0 : (bgZ z) = (if z 4 = 1 then z else bgZ z) := (by simp only [if_neg c_7_1])
    have hf1 : (rcA z pa n) = (if z 4 = 1 then pa else rcA z pa n) := (by simp only [if_neg c_7_1])
    have hf2 : (nI (rcN n)) = (nI (if z 4 = 1 then n else rcN n)) := (by simp only [if_neg c_7_1])
    have hP : va_P G.1 vwCl (mw G a (if z 4 = 1 then z else bgZ z) sp (if z 4 = 1 then pa else rcA z pa n) st sv pd tl (nI (if z 4 = 1 then n else rcN n)) ty spt tm) H := by rw [← hf0, ← hf1, ← hf2]; exact hP
    have hD : va_D A (mw G a (if z 4 = 1 then z else bgZ z) sp (if z 4 = 1 then pa else rcA z pa n) st sv pd tl (nI (if z 4 = 1 then n else rcN n)) ty spt tm) := by rw [← hf0, ← hf1, ← hf2]; exact hD
    exact hret _ _ _ _ _ () (by simp only [if_neg c_7_1]) hP hD hS dX4_begin_27
  · refine lv_ldc (v := (-100005)) hx hb hown wk2 dX4_begin_10 ?_
    have hf0 : (z) = (if z 4 = 1 then z else bgZ z) := (by simp only [if_pos c_7_1])
    have hf1 : (pa) = (if z 4 = 1 then pa else rcA z pa n) := (by simp only [if_pos c_7_1])
    have hf2 : (nI n) = (nI (if z 4 = 1 then n else rcN n)) := (by simp only [if_pos c_7_1])
    have hP : va_P G.1 vwCl (mw G a (if z 4 = 1 then z else bgZ z) sp (if z 4 = 1 then pa else rcA z pa n) st sv pd tl (nI (if z 4 = 1 then n else rcN n)) ty spt tm) s.heap := by rw [← hf0, ← hf1, ← hf2]; exact hP
    have hD : va_D A (mw G a (if z 4 = 1 then z else bgZ z) sp (if z 4 = 1 then pa else rcA z pa n) st sv pd tl (nI (if z 4 = 1 then n else rcN n)) ty spt tm) := by rw [← hf0, ← hf1, ← hf2]; exact hD
    exact hret _ _ _ _ _ () (by simp only [if_pos c_7_1]) hP hD hS dX4_begin_12
set_option maxHeartbeats 4000000 in
set_option maxRecDepth 100000 in
theorem c_X4_bid (l : Launch) (G : qG) (a : Nat → Nat) (z sp pa st sv pd tl : Nat → Int32) (ty spt tm : Int32) (n : Nat) (hn : n ≤ 6) (k : Int32) (hz4 : z 4 = 1 → vp_in (z 5) 5) (hbd : ¬ mbZ z k = 0 → BdOK z k) (sz : Nat) : MI l yX4_bid wsX4_bid 3 65 G sz [.ref (a 0), .int k] (mw G a z sp pa st sv pd tl (nI n) ty spt tm) (if erD z k = 0 then bdZ z k 5 else erD z k) (mw G a (if erD z k = 0 then bdZ z k else z) sp (if erD z k = 0 then rcA z pa n else pa) st sv pd tl (nI (if erD z k = 0 then rcN n else n)) ty spt tm) := by
  refine MI.of' (by decide) rfl (Nat.le_of_ble_eq_true rfl) ?_
  intro p e s m below meth c hx hb hml hown hts hK hsz hP A hAe hA hD hS Q hret ls hl
  have hown : s.vm.findClass RX4 = some m.cls := hown
  have hl : lv_has ls 2 [(0, .ref (a 0)), (1, .int k)] := hl
  have wk1 := hts (Cond.constant RX4 49 (-100002)) (List.mem_of_getElem? (i := 1) rfl)
  have wk2 := hts (Cond.constant RX4 48 (-100005)) (List.mem_of_getElem? (i := 2) rfl)
  have wk3 := hts (Cond.fieldLink RX4 7 "TurnBidsModel" "z" "[I") (List.mem_of_getElem? (i := 3) rfl)
  have wk4 := hts (Cond.methodLink RX4 35 yX4_in) (List.mem_of_getElem? (i := 4) rfl)
  have wk8 := hts (Cond.methodLink RX4 109 yX4_mayBid) (List.mem_of_getElem? (i := 8) rfl)
  have wk21 := hts (Cond.methodLink RX4 54 yX4_record) (List.mem_of_getElem? (i := 21) rfl)
  have wk30 := hts (Cond.methodLink RX4 97 yX4_bidNow) (List.mem_of_getElem? (i := 30) rfl)
  have hinX4 : ∀ w ∈ wsX40, w ∈ wsX4_bid := fun _ h => (List.mem_cons_of_mem _ (List.mem_append_right _ h))
  refine lv_iload_n hx hb dX4_bid_0 rfl (lv_at hl 1 rfl) ?_
  refine lv_iconst (v := 0) hx hb dX4_bid_1 (by decide) ?_
  refine lv_sipush (v := 9999) hx hb dX4_bid_2 (by decide) ?_
  refine cPS (As := [.int k, .int 0, .int 9999]) (rest := []) ⟨hx, hb, hml, hown, hts⟩ (c_X4_in l G k 0 9999) (cwS 3 hts gX4_bid_X4_in rfl rfl rfl (by decide +kernel) ⟨Nat.le_of_ble_eq_true rfl, Nat.le_of_ble_eq_true rfl⟩) hK (fun k q h => by simp at h) rfl rfl hl.1 (Nat.le_of_ble_eq_true rfl) dX4_bid_5 ⟨Nat.le_of_ble_eq_true rfl, Nat.le_of_ble_eq_true rfl⟩ ?_
  refine lv_if_ne (tgt := 14) hx hb dX4_bid_8 (by decide) (fun c_8_1 => ?_) (fun c_8_1 => ?_)
  · refine lv_aload_n hx hb dX4_bid_14 rfl (lv_at hl 0 rfl) ?_
    refine lv_iload_n hx hb dX4_bid_15 rfl (lv_at hl 1 rfl) ?_
    refine cPV (As := [.int k]) (rest := []) ⟨hx, hb, hml, hown, hts⟩ (c_X4_mayBid l G a z sp pa st sv pd tl (nI n) ty spt tm k (by assumption)) (cwV 1 hts gX4_bid_X4_mayBid rfl rfl rfl (by decide +kernel) ⟨Nat.le_of_ble_eq_true rfl, Nat.le_of_ble_eq_true rfl⟩) hK hP 0 (ci := 4) rfl rfl rfl rfl rfl hl.1 (Nat.le_of_ble_eq_true rfl) dX4_bid_16 ⟨Nat.le_of_ble_eq_true rfl, Nat.le_of_ble_eq_true rfl⟩ ?_
    refine lv_if_ne (tgt := 25) hx hb dX4_bid_19 (by decide) (fun c_19_2 => ?_) (fun c_19_2 => ?_)
    · have hbd0 := hbd c_19_2
      refine lv_aload_n hx hb dX4_bid_25 rfl (lv_at hl 0 rfl) ?_
      refine cAV (As := []) (rest := []) ⟨hx, hb, hml, hown, hts⟩ (c_X4_record l G a z sp pa st sv pd tl ty spt tm n (by first | assumption | (unfold rcN; split <;> omega)) _) (cwV 0 hts gX4_bid_X4_record rfl rfl rfl (by decide +kernel) ⟨Nat.le_of_ble_eq_true rfl, Nat.le_of_ble_eq_true rfl⟩) hK hP hD hS hA 0 (ci := 4) rfl rfl rfl rfl rfl hl.1 (Nat.le_of_ble_eq_true rfl) dX4_bid_26 ⟨Nat.le_of_ble_eq_true rfl, Nat.le_of_ble_eq_true rfl⟩ (fun u_3 H locs hr_3 hP hD hS => ?_)
      have hP : va_P G.1 vwCl (mw G a z sp (rcA z pa n) st sv pd tl (nI (rcN n)) ty spt tm) H := hP
      have hD : va_D A (mw G a z sp (rcA z pa n) st sv pd tl (nI (rcN n)) ty spt tm) := hD
      refine lv_aload_n hx hb dX4_bid_29 rfl (lv_at hl 0 rfl) ?_
      refine lv_iload_n hx hb dX4_bid_30 rfl (lv_at hl 1 rfl) ?_
      refine cAV (As := [.int k]) (rest := []) ⟨hx, hb, hml, hown, hts⟩ (c_X4_bidNow l G a z sp (rcA z pa n) st sv pd tl (nI (rcN n)) ty spt tm k (by assumption) _) (cwV 1 hts gX4_bid_X4_bidNow rfl rfl rfl (by decide +kernel) ⟨Nat.le_of_ble_eq_true rfl, Nat.le_of_ble_eq_true rfl⟩) hK hP hD hS hA 0 (ci := 4) rfl rfl rfl rfl rfl hl.1 (Nat.le_of_ble_eq_true rfl) dX4_bid_31 ⟨Nat.le_of_ble_eq_true rfl, Nat.le_of_ble_eq_true rfl⟩ (fun u_4 H locs hr_4 hP hD hS => ?_)
      have hP : va_P G.1 vwCl (mw G a (bdZ z k) sp (rcA z pa n) st sv pd tl (nI (rcN n)) ty spt tm) H := hP
      have hD : va_D A (mw G a (bdZ z k) sp (rcA z pa n) st sv pd tl (nI (rcN n)) ty spt tm) := hD
      refine lv_aload_n hx hb dX4_bid_34 rfl (lv_at hl 0 rfl) ?_
      refine va_get (D := G.1) (ci := 4) (v := .ref (a 1)) (C := RX4) (T := TX4) (N := 11) hx hb hts hinX4 hown hK.1 hP 0 rfl rfl 0 (by decide) wk3 (fun _ h9 => h9) rfl dX4_bid_35 ?_
      refine lv_iconst (v := 5) hx hb dX4_bid_38 (by decide) ?_
      refine qild hx hb hK.1 hP 1 0 rfl rfl (k := 5) rfl (vp_in_nI (n := 5) (by decide) (by decide)) dX4_bid_39 ?_
      have hf0 : (bdZ z k) = (if erD z k = 0 then bdZ z k else z) := (by simp only [if_true, if_false, lz_o, lz_1, lz_2, lz_5, erD, if_neg c_8_1, if_neg c_19_2])
      have hf1 : (rcA z pa n) = (if erD z k = 0 then rcA z pa n else pa) := (by simp only [if_true, if_false, lz_o, lz_1, lz_2, lz_5, erD, if_neg c_8_1, if_neg c_19_2])
      have hf2 : (nI (rcN n)) = (nI (if erD z k = 0 then rcN n else n)) := (by simp only [if_true, if_false, lz_o, lz_1, lz_2, lz_5, erD, if_neg c_8_1, if_neg c_19_2])
      have hP : va_P G.1 vwCl (mw G a (if erD z k = 0 then bdZ z k else z) sp (if erD z k = 0 then rcA z pa n else pa) st sv pd tl (nI (if erD z k = 0 then rcN n else n)) ty spt tm) H := by rw [← hf0, ← hf1, ← hf2]; exact hP
      have hD : va_D A (mw G a (if erD z k = 0 then bdZ z k else z) sp (if erD z k = 0 then rcA z pa n else pa) st sv pd tl (nI (if erD z k = 0 then rcN n else n)) ty spt tm) := by rw [← hf0, ← hf1, ← hf2]; exact hD
      exact hret _ _ _ _ _ () (by simp only [if_true, if_false, lz_o, lz_1, lz_2, lz_5, erD, if_neg c_8_1, if_neg c_19_2]) hP hD hS dX4_bid_40
    · refine lv_ldc (v := (-100005)) hx hb hown wk2 dX4_bid_22 ?_
      have hf0 : (z) = (if erD z k = 0 then bdZ z k else z) := (by simp only [if_true, if_false, lz_o, lz_1, lz_2, lz_5, erD, if_neg c_8_1, if_pos c_19_2])
      have hf1 : (pa) = (if erD z k = 0 then rcA z pa n else pa) := (by simp only [if_true, if_false, lz_o, lz_1, lz_2, lz_5, erD, if_neg c_8_1, if_pos c_19_2])
      have hf2 : (nI n) = (nI (if erD z k = 0 then rcN n else n)) := (by simp only [if_true, if_false, lz_o, lz_1, lz_2, lz_5, erD, if_neg c_8_1, if_pos c_19_2])
      have hP : va_P G.1 vwCl (mw G a (if erD z k = 0 then bdZ z k else z) sp (if erD z k = 0 then rcA z pa n else pa) st sv pd tl (nI (if erD z k = 0 then rcN n else n)) ty spt tm) s.heap := by rw [← hf0, ← hf1, ← hf2]; exact hP
      have hD : va_D A (mw G a (if erD z k = 0 then bdZ z k else z) sp (if erD z k = 0 then rcA z pa n else pa) st sv pd tl (nI (if erD z k = 0 then rcN n else n)) ty spt tm) := by rw [← hf0, ← hf1, ← hf2]; exact hD
      exact hret _ _ _ _ _ () (by simp only [if_true, if_false, lz_o, lz_1, lz_2, lz_5, erD, if_neg c_8_1, if_pos c_19_2]) hP hD hS dX4_bid_24
  · refine lv_ldc (v := (-100002)) hx hb hown wk1 dX4_bid_11 ?_
    have hf0 : (z) = (if erD z k = 0 then bdZ z k else z) := (by simp only [if_true, if_false, lz_o, lz_1, lz_2, lz_5, erD, if_pos c_8_1])
    have hf1 : (pa) = (if erD z k = 0 then rcA z pa n else pa) := (by simp only [if_true, if_false, lz_o, lz_1, lz_2, lz_5, erD, if_pos c_8_1])
    have hf2 : (nI n) = (nI (if erD z k = 0 then rcN n else n)) := (by simp only [if_true, if_false, lz_o, lz_1, lz_2, lz_5, erD, if_pos c_8_1])
    have hP : va_P G.1 vwCl (mw G a (if erD z k = 0 then bdZ z k else z) sp (if erD z k = 0 then rcA z pa n else pa) st sv pd tl (nI (if erD z k = 0 then rcN n else n)) ty spt tm) s.heap := by rw [← hf0, ← hf1, ← hf2]; exact hP
    have hD : va_D A (mw G a (if erD z k = 0 then bdZ z k else z) sp (if erD z k = 0 then rcA z pa n else pa) st sv pd tl (nI (if erD z k = 0 then rcN n else n)) ty spt tm) := by rw [← hf0, ← hf1, ← hf2]; exact hD
    exact hret _ _ _ _ _ () (by simp only [if_true, if_false, lz_o, lz_1, lz_2, lz_5, erD, if_pos c_8_1]) hP hD hS dX4_bid_13
set_option maxHeartbeats 4000000 in
set_option maxRecDepth 100000 in
theorem c_X4_drop (l : Launch) (G : qG) (a : Nat → Nat) (z sp pa st sv pd tl : Nat → Int32) (ty spt tm : Int32) (n : Nat) (hn : n ≤ 6) (hdr : ¬ z 4 = 0 → DrOK z) (sz : Nat) : MI l yX4_drop wsX4_drop 3 71 G sz [.ref (a 0)] (mw G a z sp pa st sv pd tl (nI n) ty spt tm) (if z 4 = 0 then (-100005) else doZ z 5) (mw G a (if z 4 = 0 then z else doZ z) sp (if z 4 = 0 then pa else rcA z pa n) st sv pd tl (nI (if z 4 = 0 then n else rcN n)) ty spt tm) := by
  refine MI.of' (by decide) rfl (Nat.le_of_ble_eq_true rfl) ?_
  intro p e s m below meth c hx hb hml hown hts hK hsz hP A hAe hA hD hS Q hret ls hl
  have hown : s.vm.findClass RX4 = some m.cls := hown
  have hl : lv_has ls 1 [(0, .ref (a 0))] := hl
  have wk1 := hts (Cond.fieldLink RX4 7 "TurnBidsModel" "z" "[I") (List.mem_of_getElem? (i := 1) rfl)
  have wk2 := hts (Cond.constant RX4 48 (-100005)) (List.mem_of_getElem? (i := 2) rfl)
  have wk3 := hts (Cond.methodLink RX4 54 yX4_record) (List.mem_of_getElem? (i := 3) rfl)
  have wk13 := hts (Cond.methodLink RX4 100 yX4_dropNow) (List.mem_of_getElem? (i := 13) rfl)
  have hinX4 : ∀ w ∈ wsX40, w ∈ wsX4_drop := fun _ h => (List.mem_cons_of_mem _ (List.mem_append_right _ h))
  refine lv_aload_n hx hb dX4_drop_0 rfl (lv_at hl 0 rfl) ?_
  refine va_get (D := G.1) (ci := 4) (v := .ref (a 1)) (C := RX4) (T := TX4) (N := 11) hx hb hts hinX4 hown hK.1 hP 0 rfl rfl 0 (by decide) wk1 (fun _ h9 => h9) rfl dX4_drop_1 ?_
  refine lv_iconst (v := 4) hx hb dX4_drop_4 (by decide) ?_
  refine qild hx hb hK.1 hP 1 0 rfl rfl (k := 4) rfl (vp_in_nI (n := 4) (by decide) (by decide)) dX4_drop_5 ?_
  refine lv_if_ne (tgt := 12) hx hb dX4_drop_6 (by decide) (fun c_6_1 => ?_) (fun c_6_1 => ?_)
  · have hok := hdr c_6_1
    refine lv_aload_n hx hb dX4_drop_12 rfl (lv_at hl 0 rfl) ?_
    refine cAV (As := []) (rest := []) ⟨hx, hb, hml, hown, hts⟩ (c_X4_record l G a z sp pa st sv pd tl ty spt tm n (by first | assumption | (unfold rcN; split <;> omega)) _) (cwV 0 hts gX4_drop_X4_record rfl rfl rfl (by decide +kernel) ⟨Nat.le_of_ble_eq_true rfl, Nat.le_of_ble_eq_true rfl⟩) hK hP hD hS hA 0 (ci := 4) rfl rfl rfl rfl rfl hl.1 (Nat.le_of_ble_eq_true rfl) dX4_drop_13 ⟨Nat.le_of_ble_eq_true rfl, Nat.le_of_ble_eq_true rfl⟩ (fun u_2 H locs hr_2 hP hD hS => ?_)
    have hP : va_P G.1 vwCl (mw G a z sp (rcA z pa n) st sv pd tl (nI (rcN n)) ty spt tm) H := hP
    have hD : va_D A (mw G a z sp (rcA z pa n) st sv pd tl (nI (rcN n)) ty spt tm) := hD
    refine lv_aload_n hx hb dX4_drop_16 rfl (lv_at hl 0 rfl) ?_
    refine cAV (As := []) (rest := []) ⟨hx, hb, hml, hown, hts⟩ (c_X4_dropNow l G a z sp (rcA z pa n) st sv pd tl (nI (rcN n)) ty spt tm (by assumption) _) (cwV 0 hts gX4_drop_X4_dropNow rfl rfl rfl (by decide +kernel) ⟨Nat.le_of_ble_eq_true rfl, Nat.le_of_ble_eq_true rfl⟩) hK hP hD hS hA 0 (ci := 4) rfl rfl rfl rfl rfl hl.1 (Nat.le_of_ble_eq_true rfl) dX4_drop_17 ⟨Nat.le_of_ble_eq_true rfl, Nat.le_of_ble_eq_true rfl⟩ (fun u_3 H locs hr_3 hP hD hS => ?_)
    have hP : va_P G.1 vwCl (mw G a (doZ z) sp (rcA z pa n) st sv pd tl (nI (rcN n)) ty spt tm) H := hP
    have hD : va_D A (mw G a (doZ z) sp (rcA z pa n) st sv pd tl (nI (rcN n)) ty spt tm) := hD
    refine lv_aload_n hx hb dX4_drop_20 rfl (lv_at hl 0 rfl) ?_
    refine va_get (D := G.1) (ci := 4) (v := .ref (a 1)) (C := RX4) (T := TX4) (N := 11) hx hb hts hinX4 hown hK.1 hP 0 rfl rfl 0 (by decide) wk1 (fun _ h9 => h9) rfl dX4_drop_21 ?_
    refine lv_iconst (v := 5) hx hb dX4_drop_24 (by decide) ?_
    refine qild hx hb hK.1 hP 1 0 rfl rfl (k := 5) rfl (vp_in_nI (n := 5) (by decide) (by decide)) dX4_drop_25 ?_
    have hf0 : (doZ z) = (if z 4 = 0 then z else doZ z) := (by simp only [if_neg c_6_1])
    have hf1 : (rcA z pa n) = (if z 4 = 0 then pa else rcA z pa n) := (by simp only [if_neg c_6_1])
    have hf2 : (nI (rcN n)) = (nI (if z 4 = 0 then n else rcN n)) := (by simp only [if_neg c_6_1])
    have hP : va_P G.1 vwCl (mw G a (if z 4 = 0 then z else doZ z) sp (if z 4 = 0 then pa else rcA z pa n) st sv pd tl (nI (if z 4 = 0 then n else rcN n)) ty spt tm) H := by rw [← hf0, ← hf1, ← hf2]; exact hP
    have hD : va_D A (mw G a (if z 4 = 0 then z else doZ z) sp (if z 4 = 0 then pa else rcA z pa n) st sv pd tl (nI (if z 4 = 0 then n else rcN n)) ty spt tm) := by rw [← hf0, ← hf1, ← hf2]; exact hD
    exact hret _ _ _ _ _ () (by simp only [if_neg c_6_1]) hP hD hS dX4_drop_26
  · refine lv_ldc (v := (-100005)) hx hb hown wk2 dX4_drop_9 ?_
    have hf0 : (z) = (if z 4 = 0 then z else doZ z) := (by simp only [if_pos c_6_1])
    have hf1 : (pa) = (if z 4 = 0 then pa else rcA z pa n) := (by simp only [if_pos c_6_1])
    have hf2 : (nI n) = (nI (if z 4 = 0 then n else rcN n)) := (by simp only [if_pos c_6_1])
    have hP : va_P G.1 vwCl (mw G a (if z 4 = 0 then z else doZ z) sp (if z 4 = 0 then pa else rcA z pa n) st sv pd tl (nI (if z 4 = 0 then n else rcN n)) ty spt tm) s.heap := by rw [← hf0, ← hf1, ← hf2]; exact hP
    have hD : va_D A (mw G a (if z 4 = 0 then z else doZ z) sp (if z 4 = 0 then pa else rcA z pa n) st sv pd tl (nI (if z 4 = 0 then n else rcN n)) ty spt tm) := by rw [← hf0, ← hf1, ← hf2]; exact hD
    exact hret _ _ _ _ _ () (by simp only [if_pos c_6_1]) hP hD hS dX4_drop_11
set_option maxHeartbeats 4000000 in
set_option maxRecDepth 100000 in
theorem c_X4_act (l : Launch) (G : qG) (a : Nat → Nat) (z sp pa st sv pd tl : Nat → Int32) (ty spt tm : Int32) (n : Nat) (hn : n ≤ 6) (hdr : ¬ z 4 = 0 → AcOK z) (sz : Nat) : MI l yX4_act wsX4_act 4 92 G sz [.ref (a 0)] (mw G a z sp pa st sv pd tl (nI n) ty spt tm) (if z 4 = 0 then (-100005) else acZ z 5) (mw G a (if z 4 = 0 then z else acZ z) sp (if z 4 = 0 then pa else rcA z pa n) st sv pd tl (nI (if z 4 = 0 then n else rcN n)) ty spt tm) := by
  refine MI.of' (by decide) rfl (Nat.le_of_ble_eq_true rfl) ?_
  intro p e s m below meth c hx hb hml hown hts hK hsz hP A hAe hA hD hS Q hret ls hl
  have hown : s.vm.findClass RX4 = some m.cls := hown
  have hl : lv_has ls 1 [(0, .ref (a 0))] := hl
  have wk1 := hts (Cond.fieldLink RX4 7 "TurnBidsModel" "z" "[I") (List.mem_of_getElem? (i := 1) rfl)
  have wk2 := hts (Cond.constant RX4 48 (-100005)) (List.mem_of_getElem? (i := 2) rfl)
  have wk3 := hts (Cond.methodLink RX4 54 yX4_record) (List.mem_of_getElem? (i := 3) rfl)
  have wk13 := hts (Cond.methodLink RX4 106 yX4_actNow) (List.mem_of_getElem? (i := 13) rfl)
  have hinX4 : ∀ w ∈ wsX40, w ∈ wsX4_act := fun _ h => (List.mem_cons_of_mem _ (List.mem_append_right _ h))
  refine lv_aload_n hx hb dX4_act_0 rfl (lv_at hl 0 rfl) ?_
  refine va_get (D := G.1) (ci := 4) (v := .ref (a 1)) (C := RX4) (T := TX4) (N := 11) hx hb hts hinX4 hown hK.1 hP 0 rfl rfl 0 (by decide) wk1 (fun _ h9 => h9) rfl dX4_act_1 ?_
  refine lv_iconst (v := 4) hx hb dX4_act_4 (by decide) ?_
  refine qild hx hb hK.1 hP 1 0 rfl rfl (k := 4) rfl (vp_in_nI (n := 4) (by decide) (by decide)) dX4_act_5 ?_
  refine lv_if_ne (tgt := 12) hx hb dX4_act_6 (by decide) (fun c_6_1 => ?_) (fun c_6_1 => ?_)
  · have hok := hdr c_6_1
    refine lv_aload_n hx hb dX4_act_12 rfl (lv_at hl 0 rfl) ?_
    refine cAV (As := []) (rest := []) ⟨hx, hb, hml, hown, hts⟩ (c_X4_record l G a z sp pa st sv pd tl ty spt tm n (by first | assumption | (unfold rcN; split <;> omega)) _) (cwV 0 hts gX4_act_X4_record rfl rfl rfl (by decide +kernel) ⟨Nat.le_of_ble_eq_true rfl, Nat.le_of_ble_eq_true rfl⟩) hK hP hD hS hA 0 (ci := 4) rfl rfl rfl rfl rfl hl.1 (Nat.le_of_ble_eq_true rfl) dX4_act_13 ⟨Nat.le_of_ble_eq_true rfl, Nat.le_of_ble_eq_true rfl⟩ (fun u_2 H locs hr_2 hP hD hS => ?_)
    have hP : va_P G.1 vwCl (mw G a z sp (rcA z pa n) st sv pd tl (nI (rcN n)) ty spt tm) H := hP
    have hD : va_D A (mw G a z sp (rcA z pa n) st sv pd tl (nI (rcN n)) ty spt tm) := hD
    refine lv_aload_n hx hb dX4_act_16 rfl (lv_at hl 0 rfl) ?_
    refine cAV (As := []) (rest := []) ⟨hx, hb, hml, hown, hts⟩ (c_X4_actNow l G a z sp (rcA z pa n) st sv pd tl (nI (rcN n)) ty spt tm (by assumption) _) (cwV 0 hts gX4_act_X4_actNow rfl rfl rfl (by decide +kernel) ⟨Nat.le_of_ble_eq_true rfl, Nat.le_of_ble_eq_true rfl⟩) hK hP hD hS hA 0 (ci := 4) rfl rfl rfl rfl rfl hl.1 (Nat.le_of_ble_eq_true rfl) dX4_act_17 ⟨Nat.le_of_ble_eq_true rfl, Nat.le_of_ble_eq_true rfl⟩ (fun u_3 H locs hr_3 hP hD hS => ?_)
    have hP : va_P G.1 vwCl (mw G a (acZ z) sp (rcA z pa n) st sv pd tl (nI (rcN n)) ty spt tm) H := hP
    have hD : va_D A (mw G a (acZ z) sp (rcA z pa n) st sv pd tl (nI (rcN n)) ty spt tm) := hD
    refine lv_aload_n hx hb dX4_act_20 rfl (lv_at hl 0 rfl) ?_
    refine va_get (D := G.1) (ci := 4) (v := .ref (a 1)) (C := RX4) (T := TX4) (N := 11) hx hb hts hinX4 hown hK.1 hP 0 rfl rfl 0 (by decide) wk1 (fun _ h9 => h9) rfl dX4_act_21 ?_
    refine lv_iconst (v := 5) hx hb dX4_act_24 (by decide) ?_
    refine qild hx hb hK.1 hP 1 0 rfl rfl (k := 5) rfl (vp_in_nI (n := 5) (by decide) (by decide)) dX4_act_25 ?_
    have hf0 : (acZ z) = (if z 4 = 0 then z else acZ z) := (by simp only [if_neg c_6_1])
    have hf1 : (rcA z pa n) = (if z 4 = 0 then pa else rcA z pa n) := (by simp only [if_neg c_6_1])
    have hf2 : (nI (rcN n)) = (nI (if z 4 = 0 then n else rcN n)) := (by simp only [if_neg c_6_1])
    have hP : va_P G.1 vwCl (mw G a (if z 4 = 0 then z else acZ z) sp (if z 4 = 0 then pa else rcA z pa n) st sv pd tl (nI (if z 4 = 0 then n else rcN n)) ty spt tm) H := by rw [← hf0, ← hf1, ← hf2]; exact hP
    have hD : va_D A (mw G a (if z 4 = 0 then z else acZ z) sp (if z 4 = 0 then pa else rcA z pa n) st sv pd tl (nI (if z 4 = 0 then n else rcN n)) ty spt tm) := by rw [← hf0, ← hf1, ← hf2]; exact hD
    exact hret _ _ _ _ _ () (by simp only [if_neg c_6_1]) hP hD hS dX4_act_26
  · refine lv_ldc (v := (-100005)) hx hb hown wk2 dX4_act_9 ?_
    have hf0 : (z) = (if z 4 = 0 then z else acZ z) := (by simp only [if_pos c_6_1])
    have hf1 : (pa) = (if z 4 = 0 then pa else rcA z pa n) := (by simp only [if_pos c_6_1])
    have hf2 : (nI n) = (nI (if z 4 = 0 then n else rcN n)) := (by simp only [if_pos c_6_1])
    have hP : va_P G.1 vwCl (mw G a (if z 4 = 0 then z else acZ z) sp (if z 4 = 0 then pa else rcA z pa n) st sv pd tl (nI (if z 4 = 0 then n else rcN n)) ty spt tm) s.heap := by rw [← hf0, ← hf1, ← hf2]; exact hP
    have hD : va_D A (mw G a (if z 4 = 0 then z else acZ z) sp (if z 4 = 0 then pa else rcA z pa n) st sv pd tl (nI (if z 4 = 0 then n else rcN n)) ty spt tm) := by rw [← hf0, ← hf1, ← hf2]; exact hD
    exact hret _ _ _ _ _ () (by simp only [if_pos c_6_1]) hP hD hS dX4_act_11
set_option maxHeartbeats 4000000 in
set_option maxRecDepth 100000 in
theorem c_X4_finish (l : Launch) (G : qG) (a : Nat → Nat) (z sp pa st sv pd tl : Nat → Int32) (ty spt tm : Int32) (n : Nat) (hn : n ≤ 6) (hok : FiOK z) (sz : Nat) : MI l yX4_finish wsX4_finish 5 113 G sz [.ref (a 0)] (mw G a z sp pa st sv pd tl (nI n) ty spt tm) (mAt (fiR z).1 0) (mw G a ((fiR z).1) sp (rcA z pa n) st sv pd tl (nI (rcN n)) ty spt tm) := by
  refine MI.of' (by decide) rfl (Nat.le_of_ble_eq_true rfl) ?_
  intro p e s m below meth c hx hb hml hown hts hK hsz hP A hAe hA hD hS Q hret ls hl
  have hown : s.vm.findClass RX4 = some m.cls := hown
  have hl : lv_has ls 1 [(0, .ref (a 0))] := hl
  have wk1 := hts (Cond.methodLink RX4 54 yX4_record) (List.mem_of_getElem? (i := 1) rfl)
  have wk12 := hts (Cond.methodLink RX4 112 yX4_finishNow) (List.mem_of_getElem? (i := 12) rfl)
  have wk25 := hts (Cond.methodLink RX4 70 yX4_playerAt) (List.mem_of_getElem? (i := 25) rfl)
  refine lv_aload_n hx hb dX4_finish_0 rfl (lv_at hl 0 rfl) ?_
  refine cAV (As := []) (rest := []) ⟨hx, hb, hml, hown, hts⟩ (c_X4_record l G a z sp pa st sv pd tl ty spt tm n (by first | assumption | (unfold rcN; split <;> omega)) _) (cwV 0 hts gX4_finish_X4_record rfl rfl rfl (by decide +kernel) ⟨Nat.le_of_ble_eq_true rfl, Nat.le_of_ble_eq_true rfl⟩) hK hP hD hS hA 0 (ci := 4) rfl rfl rfl rfl rfl hl.1 (Nat.le_of_ble_eq_true rfl) dX4_finish_1 ⟨Nat.le_of_ble_eq_true rfl, Nat.le_of_ble_eq_true rfl⟩ (fun u_1 H locs hr_1 hP hD hS => ?_)
  have hP : va_P G.1 vwCl (mw G a z sp (rcA z pa n) st sv pd tl (nI (rcN n)) ty spt tm) H := hP
  have hD : va_D A (mw G a z sp (rcA z pa n) st sv pd tl (nI (rcN n)) ty spt tm) := hD
  refine lv_aload_n hx hb dX4_finish_4 rfl (lv_at hl 0 rfl) ?_
  refine cAI (As := []) (rest := []) ⟨hx, hb, hml, hown, hts⟩ (c_X4_finishNow l G a z sp (rcA z pa n) st sv pd tl (nI (rcN n)) ty spt tm (by assumption) _) (cwV 0 hts gX4_finish_X4_finishNow rfl rfl rfl (by decide +kernel) ⟨Nat.le_of_ble_eq_true rfl, Nat.le_of_ble_eq_true rfl⟩) hK hP hD hS hA 0 (ci := 4) rfl rfl rfl rfl rfl hl.1 (Nat.le_of_ble_eq_true rfl) dX4_finish_5 ⟨Nat.le_of_ble_eq_true rfl, Nat.le_of_ble_eq_true rfl⟩ (fun r_2 u_2 H locs hr_2 hP hD hS => ?_)
  have hr_2 : r_2 = nI (fiR z).2 := hr_2
  subst hr_2
  have hP : va_P G.1 vwCl (mw G a ((fiR z).1) sp (rcA z pa n) st sv pd tl (nI (rcN n)) ty spt tm) H := hP
  have hD : va_D A (mw G a ((fiR z).1) sp (rcA z pa n) st sv pd tl (nI (rcN n)) ty spt tm) := hD
  refine lv_pop hx hb dX4_finish_8 rfl ?_
  refine lv_aload_n hx hb dX4_finish_9 rfl (lv_at hl 0 rfl) ?_
  refine lv_iconst (v := 0) hx hb dX4_finish_10 (by decide) ?_
  refine cPV (As := [.int 0]) (rest := []) ⟨hx, hb, hml, hown, hts⟩ (c_X4_playerAt l G a ((fiR z).1) sp (rcA z pa n) st sv pd tl (nI (rcN n)) ty spt tm 0) (cwV 1 hts gX4_finish_X4_playerAt rfl rfl rfl (by decide +kernel) ⟨Nat.le_of_ble_eq_true rfl, Nat.le_of_ble_eq_true rfl⟩) hK hP 0 (ci := 4) rfl rfl rfl rfl rfl hl.1 (Nat.le_of_ble_eq_true rfl) dX4_finish_11 ⟨Nat.le_of_ble_eq_true rfl, Nat.le_of_ble_eq_true rfl⟩ ?_
  exact hret _ _ _ _ _ () (by rfl) hP hD hS dX4_finish_14
set_option maxHeartbeats 4000000 in
set_option maxRecDepth 100000 in
theorem c_X4_undo (l : Launch) (G : qG) (a : Nat → Nat) (z sp pa st sv pd tl : Nat → Int32) (ty spt tm : Int32) (n : Nat) (hn : n ≤ 6)  (sz : Nat) : MI l yX4_undo wsX4_undo 1 24 G sz [.ref (a 0)] (mw G a z sp pa st sv pd tl (nI n) ty spt tm) (if nI n = 0 then (-100005) else nI (n - 1)) (mw G a (if nI n = 0 then z else fun i₀ => pa (53 * (n - 1) + i₀)) sp pa st sv pd tl (nI (if nI n = 0 then n else n - 1)) ty spt tm) := by
  refine MI.of' (by decide) rfl (Nat.le_of_ble_eq_true rfl) ?_
  intro p e s m below meth c hx hb hml hown hts hK hsz hP A hAe hA hD hS Q hret ls hl
  have hown : s.vm.findClass RX4 = some m.cls := hown
  have hl : lv_has ls 1 [(0, .ref (a 0))] := hl
  have wk1 := hts (Cond.fieldLink RX4 40 "TurnBidsModel" "states" "I") (List.mem_of_getElem? (i := 1) rfl)
  have wk2 := hts (Cond.constant RX4 48 (-100005)) (List.mem_of_getElem? (i := 2) rfl)
  have wk3 := hts (Cond.fieldLink RX4 16 "TurnBidsModel" "past" "[I") (List.mem_of_getElem? (i := 3) rfl)
  have wk4 := hts (Cond.fieldLink RX4 7 "TurnBidsModel" "z" "[I") (List.mem_of_getElem? (i := 4) rfl)
  have hinX4 : ∀ w ∈ wsX40, w ∈ wsX4_undo := fun _ h => (List.mem_cons_of_mem _ (List.mem_append_right _ h))
  refine lv_aload_n hx hb dX4_undo_0 rfl (lv_at hl 0 rfl) ?_
  refine va_get (D := G.1) (ci := 4) (v := .int (nI n)) (C := RX4) (T := TX4) (N := 11) hx hb hts hinX4 hown hK.1 hP 0 rfl rfl 3 (by decide) wk1 (fun _ h9 => h9) rfl dX4_undo_1 ?_
  refine lv_if_ne (tgt := 10) hx hb dX4_undo_4 (by decide) (fun c_4_1 => ?_) (fun c_4_1 => ?_)
  · have hn1 := ne0 c_4_1
    refine lv_aload_n hx hb dX4_undo_10 rfl (lv_at hl 0 rfl) ?_
    refine lv_dup hx hb dX4_undo_11 rfl ?_
    refine va_get (D := G.1) (ci := 4) (v := .int (nI n)) (C := RX4) (T := TX4) (N := 11) hx hb hts hinX4 hown hK.1 hP 0 rfl rfl 3 (by decide) wk1 (fun _ h9 => h9) rfl dX4_undo_12 ?_
    refine lv_iconst (v := 1) hx hb dX4_undo_15 (by decide) ?_
    refine lv_isub hx hb dX4_undo_16 ?_
    refine qtop (pk_sub (a := n) (b := 1) (by omega)) ?_
    refine va_put (D := G.1) (ci := 4) (v := .int (nI (n - 1))) (ty := .int) (C := RX4) (T := TX4) (N := 11) hx hb hts hinX4 tyX4 tyX4_ok nmX4 hown hK.1 hP hD hS 0 rfl rfl 3 (by decide) wk1 (fun _ h9 => h9) rfl (by decide +kernel) rfl rfl (Nat.le_of_ble_eq_true rfl) dX4_undo_17 (fun H locs hP hD hS => ?_)
    have hP : va_P G.1 vwCl (mw G a z sp pa st sv pd tl (nI (n - 1)) ty spt tm) H := hP
    have hD : va_D A (mw G a z sp pa st sv pd tl (nI (n - 1)) ty spt tm) := hD
    refine lv_aload_n hx hb dX4_undo_20 rfl (lv_at hl 0 rfl) ?_
    refine va_get (D := G.1) (ci := 4) (v := .ref (a 3)) (C := RX4) (T := TX4) (N := 11) hx hb hts hinX4 hown hK.1 hP 0 rfl rfl 2 (by decide) wk3 (fun _ h9 => h9) rfl dX4_undo_21 ?_
    refine lv_bipush (v := 53) hx hb dX4_undo_24 (by decide) ?_
    refine lv_aload_n hx hb dX4_undo_26 rfl (lv_at hl 0 rfl) ?_
    refine va_get (D := G.1) (ci := 4) (v := .int (nI (n - 1))) (C := RX4) (T := TX4) (N := 11) hx hb hts hinX4 hown hK.1 hP 0 rfl rfl 3 (by decide) wk1 (fun _ h9 => h9) rfl dX4_undo_27 ?_
    refine lv_imul hx hb dX4_undo_30 ?_
    refine qtop (pk_mul 53 (n - 1)) ?_
    refine lv_aload_n hx hb dX4_undo_31 rfl (lv_at hl 0 rfl) ?_
    refine va_get (D := G.1) (ci := 4) (v := .ref (a 1)) (C := RX4) (T := TX4) (N := 11) hx hb hts hinX4 hown hK.1 hP 0 rfl rfl 0 (by decide) wk4 (fun _ h9 => h9) rfl dX4_undo_32 ?_
    refine lv_iconst (v := 0) hx hb dX4_undo_35 (by decide) ?_
    refine cBV (As := [.ref (a 3), .int (nI (53 * (n - 1))), .ref (a 1), .int 0]) (rest := []) ⟨hx, hb, hml, hown, hts⟩ (c_X4_copyState l G (a 3) (a 1) 318 53 (53 * (n - 1)) 0 pa z (fun i₀ => pa (53 * (n - 1) + i₀)) (by omega) (by omega) (by decide) (by decide) (cpy_all _ _ _) _) (cwS 4 hts gX4_undo_X4_copyState rfl rfl rfl (by decide +kernel) ⟨Nat.le_of_ble_eq_true rfl, Nat.le_of_ble_eq_true rfl⟩) hK hP hD hS hA [3, 1] [0, 2, 4, 5, 6, 7] rfl (wr := [(a 0, .inr (4, [.ref (a 1), .ref (a 2), .ref (a 3), .int (nI (n - 1)), .ref (a 4), .ref (a 5), .ref (a 6), .int ty, .int spt, .ref (a 7), .int tm])), (a 2, .inl (gI G, 53, .inl sp)), (a 4, .inl (gI G, 106, .inl st)), (a 5, .inl (gZ G, 2, .inl sv)), (a 6, .inl (gI G, 60, .inl pd)), (a 7, .inl (gI G, 31, .inl tl))]) rfl rfl rfl (by decide) rfl rfl hl.1 (Nat.le_of_ble_eq_true rfl) dX4_undo_36 ⟨Nat.le_of_ble_eq_true rfl, Nat.le_of_ble_eq_true rfl⟩ (fun u_2 H locs hr_2 hP hD hS => ?_)
    have hP : va_P G.1 vwCl (mw G a (fun i₀ => pa (53 * (n - 1) + i₀)) sp pa st sv pd tl (nI (n - 1)) ty spt tm) H := hP.sub [0, 7, 1, 6, 2, 3, 4, 5] rfl
    have hD : va_D A (mw G a (fun i₀ => pa (53 * (n - 1) + i₀)) sp pa st sv pd tl (nI (n - 1)) ty spt tm) := hD.sub [0, 7, 1, 6, 2, 3, 4, 5] (by decide) rfl
    refine lv_aload_n hx hb dX4_undo_39 rfl (lv_at hl 0 rfl) ?_
    refine va_get (D := G.1) (ci := 4) (v := .int (nI (n - 1))) (C := RX4) (T := TX4) (N := 11) hx hb hts hinX4 hown hK.1 hP 0 rfl rfl 3 (by decide) wk1 (fun _ h9 => h9) rfl dX4_undo_40 ?_
    have hf0 : (fun i₀ => pa (53 * (n - 1) + i₀)) = (if nI n = 0 then z else fun i₀ => pa (53 * (n - 1) + i₀)) := (by simp only [if_neg c_4_1])
    have hf1 : (nI (n - 1)) = (nI (if nI n = 0 then n else n - 1)) := (by simp only [if_neg c_4_1])
    have hP : va_P G.1 vwCl (mw G a (if nI n = 0 then z else fun i₀ => pa (53 * (n - 1) + i₀)) sp pa st sv pd tl (nI (if nI n = 0 then n else n - 1)) ty spt tm) H := by rw [← hf0, ← hf1]; exact hP
    have hD : va_D A (mw G a (if nI n = 0 then z else fun i₀ => pa (53 * (n - 1) + i₀)) sp pa st sv pd tl (nI (if nI n = 0 then n else n - 1)) ty spt tm) := by rw [← hf0, ← hf1]; exact hD
    exact hret _ _ _ _ _ () (by simp only [if_neg c_4_1]) hP hD hS dX4_undo_43
  · refine lv_ldc (v := (-100005)) hx hb hown wk2 dX4_undo_7 ?_
    have hf0 : (z) = (if nI n = 0 then z else fun i₀ => pa (53 * (n - 1) + i₀)) := (by simp only [if_pos c_4_1])
    have hf1 : (nI n) = (nI (if nI n = 0 then n else n - 1)) := (by simp only [if_pos c_4_1])
    have hP : va_P G.1 vwCl (mw G a (if nI n = 0 then z else fun i₀ => pa (53 * (n - 1) + i₀)) sp pa st sv pd tl (nI (if nI n = 0 then n else n - 1)) ty spt tm) s.heap := by rw [← hf0, ← hf1]; exact hP
    have hD : va_D A (mw G a (if nI n = 0 then z else fun i₀ => pa (53 * (n - 1) + i₀)) sp pa st sv pd tl (nI (if nI n = 0 then n else n - 1)) ty spt tm) := by rw [← hf0, ← hf1]; exact hD
    exact hret _ _ _ _ _ () (by simp only [if_pos c_4_1]) hP hD hS dX4_undo_9
set_option maxHeartbeats 4000000 in
set_option maxRecDepth 100000 in
theorem c_X4_save (l : Launch) (G : qG) (a : Nat → Nat) (z sp pa st sv pd tl : Nat → Int32) (ty spt tm : Int32) (n : Nat) (hn : n ≤ 6) (x : Int32) (sz : Nat) : MI l yX4_save wsX4_save 1 24 G sz [.ref (a 0), .int x] (mw G a z sp pa st sv pd tl (nI n) ty spt tm) (if inB x 0 1 = 0 then (-100002) else smB z 8) (mw G a z sp pa (if inB x 0 1 = 0 then st else va_cpy z st 0 (53 * ix x) 53) (if inB x 0 1 = 0 then sv else upd sv (ix x) 1) pd tl (nI n) ty spt tm) := by
  refine MI.of' (by decide) rfl (Nat.le_of_ble_eq_true rfl) ?_
  intro p e s m below meth c hx hb hml hown hts hK hsz hP A hAe hA hD hS Q hret ls hl
  have hown : s.vm.findClass RX4 = some m.cls := hown
  have hl : lv_has ls 2 [(0, .ref (a 0)), (1, .int x)] := hl
  have wk1 := hts (Cond.constant RX4 49 (-100002)) (List.mem_of_getElem? (i := 1) rfl)
  have wk2 := hts (Cond.fieldLink RX4 7 "TurnBidsModel" "z" "[I") (List.mem_of_getElem? (i := 2) rfl)
  have wk3 := hts (Cond.fieldLink RX4 19 "TurnBidsModel" "slots" "[I") (List.mem_of_getElem? (i := 3) rfl)
  have wk4 := hts (Cond.fieldLink RX4 22 "TurnBidsModel" "isSaved" "[Z") (List.mem_of_getElem? (i := 4) rfl)
  have wk5 := hts (Cond.methodLink RX4 35 yX4_in) (List.mem_of_getElem? (i := 5) rfl)
  have wk12 := hts (Cond.methodLink RX4 50 yX4_sum) (List.mem_of_getElem? (i := 12) rfl)
  have hinX4 : ∀ w ∈ wsX40, w ∈ wsX4_save := fun _ h => (List.mem_cons_of_mem _ (List.mem_append_right _ h))
  refine lv_iload_n hx hb dX4_save_0 rfl (lv_at hl 1 rfl) ?_
  refine lv_iconst (v := 0) hx hb dX4_save_1 (by decide) ?_
  refine lv_iconst (v := 1) hx hb dX4_save_2 (by decide) ?_
  refine cPS (As := [.int x, .int 0, .int 1]) (rest := []) ⟨hx, hb, hml, hown, hts⟩ (c_X4_in l G x 0 1) (cwS 3 hts gX4_save_X4_in rfl rfl rfl (by decide +kernel) ⟨Nat.le_of_ble_eq_true rfl, Nat.le_of_ble_eq_true rfl⟩) hK (fun k q h => by simp at h) rfl rfl hl.1 (Nat.le_of_ble_eq_true rfl) dX4_save_3 ⟨Nat.le_of_ble_eq_true rfl, Nat.le_of_ble_eq_true rfl⟩ ?_
  refine lv_if_ne (tgt := 12) hx hb dX4_save_6 (by decide) (fun c_6_1 => ?_) (fun c_6_1 => ?_)
  · obtain ⟨j, hj, hej⟩ := inB_of (N := 1) (by decide) c_6_1
    rw [hej] at hl
    have hxj : ix x = j := by rw [hej]; exact nI_clamp (by omega)
    refine lv_aload_n hx hb dX4_save_12 rfl (lv_at hl 0 rfl) ?_
    refine va_get (D := G.1) (ci := 4) (v := .ref (a 1)) (C := RX4) (T := TX4) (N := 11) hx hb hts hinX4 hown hK.1 hP 0 rfl rfl 0 (by decide) wk2 (fun _ h9 => h9) rfl dX4_save_13 ?_
    refine lv_iconst (v := 0) hx hb dX4_save_16 (by decide) ?_
    refine lv_aload_n hx hb dX4_save_17 rfl (lv_at hl 0 rfl) ?_
    refine va_get (D := G.1) (ci := 4) (v := .ref (a 4)) (C := RX4) (T := TX4) (N := 11) hx hb hts hinX4 hown hK.1 hP 0 rfl rfl 4 (by decide) wk3 (fun _ h9 => h9) rfl dX4_save_18 ?_
    refine lv_bipush (v := 53) hx hb dX4_save_21 (by decide) ?_
    refine lv_iload_n hx hb dX4_save_23 rfl (lv_at hl 1 rfl) ?_
    refine lv_imul hx hb dX4_save_24 ?_
    refine qtop (pk_mul 53 j) ?_
    refine cBV (As := [.ref (a 1), .int 0, .ref (a 4), .int (nI (53 * j))]) (rest := []) ⟨hx, hb, hml, hown, hts⟩ (c_X4_copyState l G (a 1) (a 4) 53 106 0 (53 * j) z st (va_cpy z st 0 (53 * j) 53) (by omega) (by omega) (by decide) (by decide) (fun _ _ => rfl) _) (cwS 4 hts gX4_save_X4_copyState rfl rfl rfl (by decide +kernel) ⟨Nat.le_of_ble_eq_true rfl, Nat.le_of_ble_eq_true rfl⟩) hK hP hD hS hA [1, 4] [0, 2, 3, 5, 6, 7] rfl (wr := [(a 0, .inr (4, [.ref (a 1), .ref (a 2), .ref (a 3), .int (nI n), .ref (a 4), .ref (a 5), .ref (a 6), .int ty, .int spt, .ref (a 7), .int tm])), (a 2, .inl (gI G, 53, .inl sp)), (a 3, .inl (gI G, 318, .inl pa)), (a 5, .inl (gZ G, 2, .inl sv)), (a 6, .inl (gI G, 60, .inl pd)), (a 7, .inl (gI G, 31, .inl tl))]) rfl rfl rfl (by decide) rfl rfl hl.1 (Nat.le_of_ble_eq_true rfl) dX4_save_25 ⟨Nat.le_of_ble_eq_true rfl, Nat.le_of_ble_eq_true rfl⟩ (fun u_2 H locs hr_2 hP hD hS => ?_)
    have hP : va_P G.1 vwCl (mw G a z sp pa (va_cpy z st 0 (53 * j) 53) sv pd tl (nI n) ty spt tm) H := hP.sub [0, 6, 1, 2, 7, 3, 4, 5] rfl
    have hD : va_D A (mw G a z sp pa (va_cpy z st 0 (53 * j) 53) sv pd tl (nI n) ty spt tm) := hD.sub [0, 6, 1, 2, 7, 3, 4, 5] (by decide) rfl
    refine lv_aload_n hx hb dX4_save_28 rfl (lv_at hl 0 rfl) ?_
    refine va_get (D := G.1) (ci := 4) (v := .ref (a 5)) (C := RX4) (T := TX4) (N := 11) hx hb hts hinX4 hown hK.1 hP 0 rfl rfl 5 (by decide) wk4 (fun _ h9 => h9) rfl dX4_save_29 ?_
    refine lv_iload_n hx hb dX4_save_32 rfl (lv_at hl 1 rfl) ?_
    refine lv_iconst (v := 1) hx hb dX4_save_33 (by decide) ?_
    refine qzst hx hb hK.1 hP hD hS 5 2 rfl rfl (k := j) (nI_clamp (by omega)) (vp_in_nI (by omega) (by decide)) rfl dX4_save_34 (fun H locs hP hD hS => ?_)
    have hP : va_P G.1 vwCl (mw G a z sp pa (va_cpy z st 0 (53 * j) 53) (upd sv j 1) pd tl (nI n) ty spt tm) H := hP
    have hD : va_D A (mw G a z sp pa (va_cpy z st 0 (53 * j) 53) (upd sv j 1) pd tl (nI n) ty spt tm) := hD
    refine lv_aload_n hx hb dX4_save_35 rfl (lv_at hl 0 rfl) ?_
    refine lv_bipush (v := 8) hx hb dX4_save_36 (by decide) ?_
    refine cPV (As := [.int 8]) (rest := []) ⟨hx, hb, hml, hown, hts⟩ (c_X4_sum l G a z sp pa (va_cpy z st 0 (53 * j) 53) (upd sv j 1) pd tl (nI n) ty spt tm 8 (by decide)) (cwV 1 hts gX4_save_X4_sum rfl rfl rfl (by decide +kernel) ⟨Nat.le_of_ble_eq_true rfl, Nat.le_of_ble_eq_true rfl⟩) hK hP 0 (ci := 4) rfl rfl rfl rfl rfl hl.1 (Nat.le_of_ble_eq_true rfl) dX4_save_38 ⟨Nat.le_of_ble_eq_true rfl, Nat.le_of_ble_eq_true rfl⟩ ?_
    have hf0 : (va_cpy z st 0 (53 * j) 53) = (if inB x 0 1 = 0 then st else va_cpy z st 0 (53 * ix x) 53) := (by simp only [if_neg c_6_1, hxj])
    have hf1 : (upd sv j 1) = (if inB x 0 1 = 0 then sv else upd sv (ix x) 1) := (by simp only [if_neg c_6_1, hxj])
    have hP : va_P G.1 vwCl (mw G a z sp pa (if inB x 0 1 = 0 then st else va_cpy z st 0 (53 * ix x) 53) (if inB x 0 1 = 0 then sv else upd sv (ix x) 1) pd tl (nI n) ty spt tm) H := by rw [← hf0, ← hf1]; exact hP
    have hD : va_D A (mw G a z sp pa (if inB x 0 1 = 0 then st else va_cpy z st 0 (53 * ix x) 53) (if inB x 0 1 = 0 then sv else upd sv (ix x) 1) pd tl (nI n) ty spt tm) := by rw [← hf0, ← hf1]; exact hD
    exact hret _ _ _ _ _ () (by simp only [if_neg c_6_1, hxj]) hP hD hS dX4_save_41
  · refine lv_ldc (v := (-100002)) hx hb hown wk1 dX4_save_9 ?_
    have hf0 : (st) = (if inB x 0 1 = 0 then st else va_cpy z st 0 (53 * ix x) 53) := (by simp only [if_pos c_6_1])
    have hf1 : (sv) = (if inB x 0 1 = 0 then sv else upd sv (ix x) 1) := (by simp only [if_pos c_6_1])
    have hP : va_P G.1 vwCl (mw G a z sp pa (if inB x 0 1 = 0 then st else va_cpy z st 0 (53 * ix x) 53) (if inB x 0 1 = 0 then sv else upd sv (ix x) 1) pd tl (nI n) ty spt tm) s.heap := by rw [← hf0, ← hf1]; exact hP
    have hD : va_D A (mw G a z sp pa (if inB x 0 1 = 0 then st else va_cpy z st 0 (53 * ix x) 53) (if inB x 0 1 = 0 then sv else upd sv (ix x) 1) pd tl (nI n) ty spt tm) := by rw [← hf0, ← hf1]; exact hD
    exact hret _ _ _ _ _ () (by simp only [if_pos c_6_1]) hP hD hS dX4_save_11
set_option maxHeartbeats 4000000 in
set_option maxRecDepth 100000 in
theorem c_X4_restore (l : Launch) (G : qG) (a : Nat → Nat) (z sp pa st sv pd tl : Nat → Int32) (ty spt tm : Int32) (n : Nat) (hn : n ≤ 6) (x : Int32) (sz : Nat) : MI l yX4_restore wsX4_restore 2 45 G sz [.ref (a 0), .int x] (mw G a z sp pa st sv pd tl (nI n) ty spt tm) (if erS z sv x = 0 then smB (fun i₀ => st (53 * ix x + i₀)) 8 else erS z sv x) (mw G a (if erS z sv x = 0 then (fun i₀ => st (53 * ix x + i₀)) else z) sp (if erS z sv x = 0 then rcA z pa n else pa) st sv pd tl (nI (if erS z sv x = 0 then rcN n else n)) ty spt tm) := by
  refine MI.of' (by decide) rfl (Nat.le_of_ble_eq_true rfl) ?_
  intro p e s m below meth c hx hb hml hown hts hK hsz hP A hAe hA hD hS Q hret ls hl
  have hown : s.vm.findClass RX4 = some m.cls := hown
  have hl : lv_has ls 2 [(0, .ref (a 0)), (1, .int x)] := hl
  have wk1 := hts (Cond.constant RX4 49 (-100002)) (List.mem_of_getElem? (i := 1) rfl)
  have wk2 := hts (Cond.fieldLink RX4 22 "TurnBidsModel" "isSaved" "[Z") (List.mem_of_getElem? (i := 2) rfl)
  have wk3 := hts (Cond.constant RX4 48 (-100005)) (List.mem_of_getElem? (i := 3) rfl)
  have wk4 := hts (Cond.fieldLink RX4 19 "TurnBidsModel" "slots" "[I") (List.mem_of_getElem? (i := 4) rfl)
  have wk5 := hts (Cond.fieldLink RX4 7 "TurnBidsModel" "z" "[I") (List.mem_of_getElem? (i := 5) rfl)
  have wk6 := hts (Cond.methodLink RX4 35 yX4_in) (List.mem_of_getElem? (i := 6) rfl)
  have wk10 := hts (Cond.methodLink RX4 54 yX4_record) (List.mem_of_getElem? (i := 10) rfl)
  have wk19 := hts (Cond.methodLink RX4 50 yX4_sum) (List.mem_of_getElem? (i := 19) rfl)
  have hinX4 : ∀ w ∈ wsX40, w ∈ wsX4_restore := fun _ h => (List.mem_cons_of_mem _ (List.mem_append_right _ h))
  refine lv_iload_n hx hb dX4_restore_0 rfl (lv_at hl 1 rfl) ?_
  refine lv_iconst (v := 0) hx hb dX4_restore_1 (by decide) ?_
  refine lv_iconst (v := 1) hx hb dX4_restore_2 (by decide) ?_
  refine cPS (As := [.int x, .int 0, .int 1]) (rest := []) ⟨hx, hb, hml, hown, hts⟩ (c_X4_in l G x 0 1) (cwS 3 hts gX4_restore_X4_in rfl rfl rfl (by decide +kernel) ⟨Nat.le_of_ble_eq_true rfl, Nat.le_of_ble_eq_true rfl⟩) hK (fun k q h => by simp at h) rfl rfl hl.1 (Nat.le_of_ble_eq_true rfl) dX4_restore_3 ⟨Nat.le_of_ble_eq_true rfl, Nat.le_of_ble_eq_true rfl⟩ ?_
  refine lv_if_ne (tgt := 12) hx hb dX4_restore_6 (by decide) (fun c_6_1 => ?_) (fun c_6_1 => ?_)
  · obtain ⟨j, hj, hej⟩ := inB_of (N := 1) (by decide) c_6_1
    rw [hej] at hl
    have hxj : ix x = j := by rw [hej]; exact nI_clamp (by omega)
    refine lv_aload_n hx hb dX4_restore_12 rfl (lv_at hl 0 rfl) ?_
    refine va_get (D := G.1) (ci := 4) (v := .ref (a 5)) (C := RX4) (T := TX4) (N := 11) hx hb hts hinX4 hown hK.1 hP 0 rfl rfl 5 (by decide) wk2 (fun _ h9 => h9) rfl dX4_restore_13 ?_
    refine lv_iload_n hx hb dX4_restore_16 rfl (lv_at hl 1 rfl) ?_
    refine qzld hx hb hK.1 hP 5 2 rfl rfl (k := j) (nI_clamp (by omega)) (vp_in_nI (by omega) (by decide)) dX4_restore_17 ?_
    refine lv_if_ne (tgt := 24) hx hb dX4_restore_18 (by decide) (fun c_18_2 => ?_) (fun c_18_2 => ?_)
    · refine lv_aload_n hx hb dX4_restore_24 rfl (lv_at hl 0 rfl) ?_
      refine cAV (As := []) (rest := []) ⟨hx, hb, hml, hown, hts⟩ (c_X4_record l G a z sp pa st sv pd tl ty spt tm n (by first | assumption | (unfold rcN; split <;> omega)) _) (cwV 0 hts gX4_restore_X4_record rfl rfl rfl (by decide +kernel) ⟨Nat.le_of_ble_eq_true rfl, Nat.le_of_ble_eq_true rfl⟩) hK hP hD hS hA 0 (ci := 4) rfl rfl rfl rfl rfl hl.1 (Nat.le_of_ble_eq_true rfl) dX4_restore_25 ⟨Nat.le_of_ble_eq_true rfl, Nat.le_of_ble_eq_true rfl⟩ (fun u_3 H locs hr_3 hP hD hS => ?_)
      have hP : va_P G.1 vwCl (mw G a z sp (rcA z pa n) st sv pd tl (nI (rcN n)) ty spt tm) H := hP
      have hD : va_D A (mw G a z sp (rcA z pa n) st sv pd tl (nI (rcN n)) ty spt tm) := hD
      refine lv_aload_n hx hb dX4_restore_28 rfl (lv_at hl 0 rfl) ?_
      refine va_get (D := G.1) (ci := 4) (v := .ref (a 4)) (C := RX4) (T := TX4) (N := 11) hx hb hts hinX4 hown hK.1 hP 0 rfl rfl 4 (by decide) wk4 (fun _ h9 => h9) rfl dX4_restore_29 ?_
      refine lv_bipush (v := 53) hx hb dX4_restore_32 (by decide) ?_
      refine lv_iload_n hx hb dX4_restore_34 rfl (lv_at hl 1 rfl) ?_
      refine lv_imul hx hb dX4_restore_35 ?_
      refine qtop (pk_mul 53 j) ?_
      refine lv_aload_n hx hb dX4_restore_36 rfl (lv_at hl 0 rfl) ?_
      refine va_get (D := G.1) (ci := 4) (v := .ref (a 1)) (C := RX4) (T := TX4) (N := 11) hx hb hts hinX4 hown hK.1 hP 0 rfl rfl 0 (by decide) wk5 (fun _ h9 => h9) rfl dX4_restore_37 ?_
      refine lv_iconst (v := 0) hx hb dX4_restore_40 (by decide) ?_
      refine cBV (As := [.ref (a 4), .int (nI (53 * j)), .ref (a 1), .int 0]) (rest := []) ⟨hx, hb, hml, hown, hts⟩ (c_X4_copyState l G (a 4) (a 1) 106 53 (53 * j) 0 st z (fun i₀ => st (53 * j + i₀)) (by omega) (by omega) (by decide) (by decide) (cpy_all _ _ _) _) (cwS 4 hts gX4_restore_X4_copyState rfl rfl rfl (by decide +kernel) ⟨Nat.le_of_ble_eq_true rfl, Nat.le_of_ble_eq_true rfl⟩) hK hP hD hS hA [4, 1] [0, 2, 3, 5, 6, 7] rfl (wr := [(a 0, .inr (4, [.ref (a 1), .ref (a 2), .ref (a 3), .int (nI (rcN n)), .ref (a 4), .ref (a 5), .ref (a 6), .int ty, .int spt, .ref (a 7), .int tm])), (a 2, .inl (gI G, 53, .inl sp)), (a 3, .inl (gI G, 318, .inl (rcA z pa n))), (a 5, .inl (gZ G, 2, .inl sv)), (a 6, .inl (gI G, 60, .inl pd)), (a 7, .inl (gI G, 31, .inl tl))]) rfl rfl rfl (by decide) rfl rfl hl.1 (Nat.le_of_ble_eq_true rfl) dX4_restore_41 ⟨Nat.le_of_ble_eq_true rfl, Nat.le_of_ble_eq_true rfl⟩ (fun u_4 H locs hr_4 hP hD hS => ?_)
      have hP : va_P G.1 vwCl (mw G a (fun i₀ => st (53 * j + i₀)) sp (rcA z pa n) st sv pd tl (nI (rcN n)) ty spt tm) H := hP.sub [0, 7, 1, 2, 6, 3, 4, 5] rfl
      have hD : va_D A (mw G a (fun i₀ => st (53 * j + i₀)) sp (rcA z pa n) st sv pd tl (nI (rcN n)) ty spt tm) := hD.sub [0, 7, 1, 2, 6, 3, 4, 5] (by decide) rfl
      refine lv_aload_n hx hb dX4_restore_44 rfl (lv_at hl 0 rfl) ?_
      refine lv_bipush (v := 8) hx hb dX4_restore_45 (by decide) ?_
      refine cPV (As := [.int 8]) (rest := []) ⟨hx, hb, hml, hown, hts⟩ (c_X4_sum l G a (fun i₀ => st (53 * j + i₀)) sp (rcA z pa n) st sv pd tl (nI (rcN n)) ty spt tm 8 (by decide)) (cwV 1 hts gX4_restore_X4_sum rfl rfl rfl (by decide +kernel) ⟨Nat.le_of_ble_eq_true rfl, Nat.le_of_ble_eq_true rfl⟩) hK hP 0 (ci := 4) rfl rfl rfl rfl rfl hl.1 (Nat.le_of_ble_eq_true rfl) dX4_restore_47 ⟨Nat.le_of_ble_eq_true rfl, Nat.le_of_ble_eq_true rfl⟩ ?_
      have hf0 : (fun i₀ => st (53 * j + i₀)) = (if erS z sv x = 0 then (fun i₀ => st (53 * ix x + i₀)) else z) := (by simp only [if_true, if_false, lz_o, lz_1, lz_2, lz_5, erS, if_neg c_6_1, hxj, if_neg c_18_2])
      have hf1 : (rcA z pa n) = (if erS z sv x = 0 then rcA z pa n else pa) := (by simp only [if_true, if_false, lz_o, lz_1, lz_2, lz_5, erS, if_neg c_6_1, hxj, if_neg c_18_2])
      have hf2 : (nI (rcN n)) = (nI (if erS z sv x = 0 then rcN n else n)) := (by simp only [if_true, if_false, lz_o, lz_1, lz_2, lz_5, erS, if_neg c_6_1, hxj, if_neg c_18_2])
      have hP : va_P G.1 vwCl (mw G a (if erS z sv x = 0 then (fun i₀ => st (53 * ix x + i₀)) else z) sp (if erS z sv x = 0 then rcA z pa n else pa) st sv pd tl (nI (if erS z sv x = 0 then rcN n else n)) ty spt tm) H := by rw [← hf0, ← hf1, ← hf2]; exact hP
      have hD : va_D A (mw G a (if erS z sv x = 0 then (fun i₀ => st (53 * ix x + i₀)) else z) sp (if erS z sv x = 0 then rcA z pa n else pa) st sv pd tl (nI (if erS z sv x = 0 then rcN n else n)) ty spt tm) := by rw [← hf0, ← hf1, ← hf2]; exact hD
      exact hret _ _ _ _ _ () (by simp only [if_true, if_false, lz_o, lz_1, lz_2, lz_5, erS, if_neg c_6_1, hxj, if_neg c_18_2]) hP hD hS dX4_restore_50
    · refine lv_ldc (v := (-100005)) hx hb hown wk3 dX4_restore_21 ?_
      have hf0 : (z) = (if erS z sv x = 0 then (fun i₀ => st (53 * ix x + i₀)) else z) := (by simp only [if_true, if_false, lz_o, lz_1, lz_2, lz_5, erS, if_neg c_6_1, hxj, if_pos c_18_2])
      have hf1 : (pa) = (if erS z sv x = 0 then rcA z pa n else pa) := (by simp only [if_true, if_false, lz_o, lz_1, lz_2, lz_5, erS, if_neg c_6_1, hxj, if_pos c_18_2])
      have hf2 : (nI n) = (nI (if erS z sv x = 0 then rcN n else n)) := (by simp only [if_true, if_false, lz_o, lz_1, lz_2, lz_5, erS, if_neg c_6_1, hxj, if_pos c_18_2])
      have hP : va_P G.1 vwCl (mw G a (if erS z sv x = 0 then (fun i₀ => st (53 * ix x + i₀)) else z) sp (if erS z sv x = 0 then rcA z pa n else pa) st sv pd tl (nI (if erS z sv x = 0 then rcN n else n)) ty spt tm) s.heap := by rw [← hf0, ← hf1, ← hf2]; exact hP
      have hD : va_D A (mw G a (if erS z sv x = 0 then (fun i₀ => st (53 * ix x + i₀)) else z) sp (if erS z sv x = 0 then rcA z pa n else pa) st sv pd tl (nI (if erS z sv x = 0 then rcN n else n)) ty spt tm) := by rw [← hf0, ← hf1, ← hf2]; exact hD
      exact hret _ _ _ _ _ () (by simp only [if_true, if_false, lz_o, lz_1, lz_2, lz_5, erS, if_neg c_6_1, hxj, if_pos c_18_2]) hP hD hS dX4_restore_23
  · refine lv_ldc (v := (-100002)) hx hb hown wk1 dX4_restore_9 ?_
    have hf0 : (z) = (if erS z sv x = 0 then (fun i₀ => st (53 * ix x + i₀)) else z) := (by simp only [if_true, if_false, lz_o, lz_1, lz_2, lz_5, erS, if_pos c_6_1])
    have hf1 : (pa) = (if erS z sv x = 0 then rcA z pa n else pa) := (by simp only [if_true, if_false, lz_o, lz_1, lz_2, lz_5, erS, if_pos c_6_1])
    have hf2 : (nI n) = (nI (if erS z sv x = 0 then rcN n else n)) := (by simp only [if_true, if_false, lz_o, lz_1, lz_2, lz_5, erS, if_pos c_6_1])
    have hP : va_P G.1 vwCl (mw G a (if erS z sv x = 0 then (fun i₀ => st (53 * ix x + i₀)) else z) sp (if erS z sv x = 0 then rcA z pa n else pa) st sv pd tl (nI (if erS z sv x = 0 then rcN n else n)) ty spt tm) s.heap := by rw [← hf0, ← hf1, ← hf2]; exact hP
    have hD : va_D A (mw G a (if erS z sv x = 0 then (fun i₀ => st (53 * ix x + i₀)) else z) sp (if erS z sv x = 0 then rcA z pa n else pa) st sv pd tl (nI (if erS z sv x = 0 then rcN n else n)) ty spt tm) := by rw [← hf0, ← hf1, ← hf2]; exact hD
    exact hret _ _ _ _ _ () (by simp only [if_true, if_false, lz_o, lz_1, lz_2, lz_5, erS, if_pos c_6_1]) hP hD hS dX4_restore_11
