/-! CONTRACTS of the class's calls (laid by wip/whole/gen/obj.py) -/
set_option maxHeartbeats 4000000 in
set_option maxRecDepth 100000 in
theorem c_X3_at (l : Launch) (G : qG) (o : Nat) (t r h : Nat → Nat) (g : Nat) (b : Nat → Nat) (T U : Tb) (hT : is01 (T 10 0)) (nx ln : Nat) (hnx : nx < 100000) (hln : ln ≤ 6) (ad : Ad) (S : Nat → Tb) (ps : Nat → Int32) (hps : chs ps) (pl : Nat) (hpl : pl ≤ 60) (x : Int32) : MP l yX3_at wsX3_at 1 22 G [.ref o, .int x] (ow G o t r h g b T U nx ln (hd ad 0 6) (hd ad 6 2) ps pl ++ pool G ad S) (if x < 0 then (-100001) else if x < 5 then pAt (T 4) x else (-100001)) := by
  refine MP.of (ty := .int) (by decide) rfl (Nat.le_of_ble_eq_true rfl) rfl ?_
  intro p e s m below meth c hx hb hml hown hts hK hP Q hret ls hl
  have hown : s.vm.findClass RX3 = some m.cls := hown
  have hl : lv_has ls 2 [(0, .ref o), (1, .int x)] := hl
  have wk1 := hts (Cond.constant RX3 56 (-100001)) (List.mem_of_getElem? (i := 1) rfl)
  have wk2 := hts (Cond.fieldLink RX3 10 "TurnBids" "table" "LTurnBids$Table;") (List.mem_of_getElem? (i := 2) rfl)
  have wk3 := hts (Cond.methodLink RX3 97 yX2_playerAt) (List.mem_of_getElem? (i := 3) rfl)
  have hinX3 : ∀ w ∈ wsX30, w ∈ wsX3_at := fun _ h => (List.mem_cons_of_mem _ (List.mem_append_left _ (List.mem_append_right _ h)))
  refine lv_iload_n hx hb dX3_at_0 rfl (lv_at hl 1 rfl) ?_
  refine lv_if_lt (tgt := 9) hx hb dX3_at_1 (by decide) (fun c_1_1 => ?_) (fun c_1_1 => ?_)
  · refine lv_ldc (v := (-100001)) hx hb hown wk1 dX3_at_9 ?_
    exact hret _ _ _ (by simp only [if_pos c_1_1]) dX3_at_11
  · refine lv_iload_n hx hb dX3_at_4 rfl (lv_at hl 1 rfl) ?_
    refine lv_iconst (v := 5) hx hb dX3_at_5 (by decide) ?_
    refine lv_icmp_lt (tgt := 12) hx hb dX3_at_6 (by decide) (fun c_6_2 => ?_) (fun c_6_2 => ?_)
    · refine lv_aload_n hx hb dX3_at_12 rfl (lv_at hl 0 rfl) ?_
      refine va_get (D := G.1) (ci := 3) (v := .ref (t 0)) (C := RX3) (T := TX3) (N := 5) hx hb hts hinX3 hown hK.1 hP 0 rfl rfl 0 (by decide) wk2 (fun _ h9 => h9) rfl dX3_at_13 ?_
      refine lv_iload_n hx hb dX3_at_16 rfl (lv_at hl 1 rfl) ?_
      refine cPV (As := [.int x]) (rest := []) ⟨hx, hb, hml, hown, hts⟩ (c_X2_playerAt l G t T x) (cwV 1 hts gX3_at_X2_playerAt rfl rfl rfl (by decide +kernel) ⟨Nat.le_of_ble_eq_true rfl, Nat.le_of_ble_eq_true rfl⟩) hK (hP.sub (ws' := tw G t T) [1, 2, 3, 4, 5, 6, 7, 8, 9, 10, 11] rfl) 0 (ci := 2) rfl rfl rfl rfl rfl hl.1 (Nat.le_of_ble_eq_true rfl) dX3_at_17 ⟨Nat.le_of_ble_eq_true rfl, Nat.le_of_ble_eq_true rfl⟩ ?_
      exact hret _ _ _ (by simp only [if_neg c_1_1, if_pos c_6_2]) dX3_at_20
    · refine lv_ldc (v := (-100001)) hx hb hown wk1 dX3_at_9 ?_
      exact hret _ _ _ (by simp only [if_neg c_1_1, if_neg c_6_2]) dX3_at_11
set_option maxHeartbeats 4000000 in
set_option maxRecDepth 100000 in
theorem c_X3_prizeOf (l : Launch) (G : qG) (o : Nat) (t r h : Nat → Nat) (g : Nat) (b : Nat → Nat) (T U : Tb) (hT : is01 (T 10 0)) (nx ln : Nat) (hnx : nx < 100000) (hln : ln ≤ 6) (ad : Ad) (S : Nat → Tb) (ps : Nat → Int32) (hps : chs ps) (pl : Nat) (hpl : pl ≤ 60) (x : Int32) : MP l yX3_prizeOf wsX3_prizeOf 1 20 G [.ref o, .int x] (ow G o t r h g b T U nx ln (hd ad 0 6) (hd ad 6 2) ps pl ++ pool G ad S) (if isPb x = 0 then (-100001) else T 1 (ix x)) := by
  refine MP.of (ty := .int) (by decide) rfl (Nat.le_of_ble_eq_true rfl) rfl ?_
  intro p e s m below meth c hx hb hml hown hts hK hP Q hret ls hl
  have hown : s.vm.findClass RX3 = some m.cls := hown
  have hl : lv_has ls 2 [(0, .ref o), (1, .int x)] := hl
  have wk1 := hts (Cond.constant RX3 56 (-100001)) (List.mem_of_getElem? (i := 1) rfl)
  have wk2 := hts (Cond.fieldLink RX3 10 "TurnBids" "table" "LTurnBids$Table;") (List.mem_of_getElem? (i := 2) rfl)
  have wk3 := hts (Cond.fieldLink RX3 71 "TurnBids$Table" "prizes" "[I") (List.mem_of_getElem? (i := 3) rfl)
  have wk4 := hts (Cond.methodLink RX3 68 yX3_isPrize) (List.mem_of_getElem? (i := 4) rfl)
  have hinX3 : ∀ w ∈ wsX30, w ∈ wsX3_prizeOf := fun _ h => (List.mem_cons_of_mem _ (List.mem_append_left _ (List.mem_append_right _ h)))
  have hinX2 : ∀ w ∈ wsX20, w ∈ wsX3_prizeOf := fun _ h => (List.mem_cons_of_mem _ (List.mem_append_right _ h))
  refine lv_iload_n hx hb dX3_prizeOf_0 rfl (lv_at hl 1 rfl) ?_
  refine cPS (As := [.int x]) (rest := []) ⟨hx, hb, hml, hown, hts⟩ (c_X3_isPrize l G x) (cwS 1 hts gX3_prizeOf_X3_isPrize rfl rfl rfl (by decide +kernel) ⟨Nat.le_of_ble_eq_true rfl, Nat.le_of_ble_eq_true rfl⟩) hK (fun k q h => by simp at h) rfl rfl hl.1 (Nat.le_of_ble_eq_true rfl) dX3_prizeOf_1 ⟨Nat.le_of_ble_eq_true rfl, Nat.le_of_ble_eq_true rfl⟩ ?_
  refine lv_if_ne (tgt := 10) hx hb dX3_prizeOf_4 (by decide) (fun c_4_1 => ?_) (fun c_4_1 => ?_)
  · have hin_2 := isPb_in c_4_1
    refine lv_aload_n hx hb dX3_prizeOf_10 rfl (lv_at hl 0 rfl) ?_
    refine va_get (D := G.1) (ci := 3) (v := .ref (t 0)) (C := RX3) (T := TX3) (N := 5) hx hb hts hinX3 hown hK.1 hP 0 rfl rfl 0 (by decide) wk2 (fun _ h9 => h9) rfl dX3_prizeOf_11 ?_
    refine va_get (D := G.1) (ci := 2) (v := .ref (t 2)) (C := RX2) (T := TX2) (N := 13) hx hb hts hinX2 hown hK.1 hP 1 rfl rfl 1 (by decide) wk3 (fun _ h9 => h9) rfl dX3_prizeOf_14 ?_
    refine lv_iload_n hx hb dX3_prizeOf_17 rfl (lv_at hl 1 rfl) ?_
    refine qild hx hb hK.1 hP 3 0 rfl rfl (k := ix x) rfl (by assumption) dX3_prizeOf_18 ?_
    exact hret _ _ _ (by simp only [if_neg c_4_1]) dX3_prizeOf_19
  · refine lv_ldc (v := (-100001)) hx hb hown wk1 dX3_prizeOf_7 ?_
    exact hret _ _ _ (by simp only [if_pos c_4_1]) dX3_prizeOf_9
set_option maxHeartbeats 4000000 in
set_option maxRecDepth 100000 in
theorem c_X3_fault (l : Launch) (G : qG) (o : Nat) (t r h : Nat → Nat) (g : Nat) (b : Nat → Nat) (T U : Tb) (hT : is01 (T 10 0)) (nx ln : Nat) (hnx : nx < 100000) (hln : ln ≤ 6) (ad : Ad) (S : Nat → Tb) (ps : Nat → Int32) (hps : chs ps) (pl : Nat) (hpl : pl ≤ 60)  : MP l yX3_fault wsX3_fault 3 63 G [.ref o] (ow G o t r h g b T U nx ln (hd ad 0 6) (hd ad 6 2) ps pl ++ pool G ad S) (fqC ps pl) := by
  refine MP.of (ty := .int) (by decide) rfl (Nat.le_of_ble_eq_true rfl) rfl ?_
  intro p e s m below meth c hx hb hml hown hts hK hP Q hret ls hl
  have hown : s.vm.findClass RX3 = some m.cls := hown
  have hl : lv_has ls 1 [(0, .ref o)] := hl
  have wk1 := hts (Cond.fieldLink RX3 33 "TurnBids" "pad" "LTurnBids$Pad;") (List.mem_of_getElem? (i := 1) rfl)
  have wk2 := hts (Cond.methodLink RX3 100 yX1_faultIndex) (List.mem_of_getElem? (i := 2) rfl)
  have hinX3 : ∀ w ∈ wsX30, w ∈ wsX3_fault := fun _ h => (List.mem_cons_of_mem _ (List.mem_append_left _ (List.mem_append_right _ h)))
  refine lv_aload_n hx hb dX3_fault_0 rfl (lv_at hl 0 rfl) ?_
  refine va_get (D := G.1) (ci := 3) (v := .ref (b 0)) (C := RX3) (T := TX3) (N := 5) hx hb hts hinX3 hown hK.1 hP 0 rfl rfl 4 (by decide) wk1 (fun _ h9 => h9) rfl dX3_fault_1 ?_
  refine cPV (As := []) (rest := []) ⟨hx, hb, hml, hown, hts⟩ (c_X1_faultIndex l G b ps pl hpl hps) (cwV 0 hts gX3_fault_X1_faultIndex rfl rfl rfl (by decide +kernel) ⟨Nat.le_of_ble_eq_true rfl, Nat.le_of_ble_eq_true rfl⟩) hK (hP.sub (ws' := pw G b ps (nI pl)) [26, 27] rfl) 0 (ci := 1) rfl rfl rfl rfl rfl hl.1 (Nat.le_of_ble_eq_true rfl) dX3_fault_4 ⟨Nat.le_of_ble_eq_true rfl, Nat.le_of_ble_eq_true rfl⟩ ?_
  exact hret _ _ _ (by rfl) dX3_fault_7
set_option maxHeartbeats 4000000 in
set_option maxRecDepth 100000 in
theorem c_X3_coins (l : Launch) (G : qG) (o : Nat) (t r h : Nat → Nat) (g : Nat) (b : Nat → Nat) (T U : Tb) (hT : is01 (T 10 0)) (nx ln : Nat) (hnx : nx < 100000) (hln : ln ≤ 6) (ad : Ad) (S : Nat → Tb) (ps : Nat → Int32) (hps : chs ps) (pl : Nat) (hpl : pl ≤ 60) (x v : Int32) (sz : Nat) : Met l yX3_coins wsX3_coins { frames := 3, cells := 11, slots := 62, locals := 62 } (PW G sz [.ref o, .int x, .int v] (ow G o t r h g b T U nx ln (hd ad 0 6) (hd ad 6 2) ps pl ++ pool G ad S)) (QI (S := CS) G sz (ow G o t r h g b T U nx ln (hd ad 0 6) (hd ad 6 2) ps pl ++ pool G ad S) (fun r₀ c₀ => r₀ = (if coC T x v = 0 then T 2 (ix x) else coC T x v) ∧ ∃ u : Nat → Nat, c₀ = (if coC T x v = 0 then kpC T U nx ln ad S ps pl u (tup T 2 (ix x) v) else (T, U, nx, ln, ad, S, ps, pl))) (fun c₀ => ows G o t r h g b c₀)) 11 62 (va_A (ow G o t r h g b T U nx ln (hd ad 0 6) (hd ad 6 2) ps pl ++ pool G ad S) sz) := by
  refine MI.of' (by decide) rfl (Nat.le_of_ble_eq_true rfl) ?_
  intro p e s m below meth c hx hb hml hown hts hK hsz hP A hAe hA hD hS Q hret ls hl
  have hown : s.vm.findClass RX3 = some m.cls := hown
  have hl : lv_has ls 4 [(0, .ref o), (1, .int x), (2, .int v)] := hl
  have wk1 := hts (Cond.constant RX3 56 (-100001)) (List.mem_of_getElem? (i := 1) rfl)
  have wk2 := hts (Cond.constant RX3 37 (-100002)) (List.mem_of_getElem? (i := 2) rfl)
  have wk3 := hts (Cond.fieldLink RX3 10 "TurnBids" "table" "LTurnBids$Table;") (List.mem_of_getElem? (i := 3) rfl)
  have wk4 := hts (Cond.constant RX3 61 (-100005)) (List.mem_of_getElem? (i := 4) rfl)
  have wk5 := hts (Cond.fieldLink RX3 22 "TurnBids" "history" "LTurnBids$History;") (List.mem_of_getElem? (i := 5) rfl)
  have wk6 := hts (Cond.fieldLink RX3 62 "TurnBids$Table" "coins" "[I") (List.mem_of_getElem? (i := 6) rfl)
  have wk7 := hts (Cond.methodLink RX3 52 yX3_isPlayer) (List.mem_of_getElem? (i := 7) rfl)
  have wk11 := hts (Cond.methodLink RX3 57 yX2_hasToCover) (List.mem_of_getElem? (i := 11) rfl)
  have wk23 := hts (Cond.methodLink RX3 45 yX0_keep) (List.mem_of_getElem? (i := 23) rfl)
  have hinX3 : ∀ w ∈ wsX30, w ∈ wsX3_coins := fun _ h => (List.mem_cons_of_mem _ (List.mem_append_left _ (List.mem_append_left _ (List.mem_append_right _ h))))
  have hinX2 : ∀ w ∈ wsX20, w ∈ wsX3_coins := fun _ h => (List.mem_cons_of_mem _ (List.mem_append_left _ (List.mem_append_right _ h)))
  refine lv_iload_n hx hb dX3_coins_0 rfl (lv_at hl 1 rfl) ?_
  refine cPS (As := [.int x]) (rest := []) ⟨hx, hb, hml, hown, hts⟩ (c_X3_isPlayer l G x) (cwS 1 hts gX3_coins_X3_isPlayer rfl rfl rfl (by decide +kernel) ⟨Nat.le_of_ble_eq_true rfl, Nat.le_of_ble_eq_true rfl⟩) hK (fun k q h => by simp at h) rfl rfl hl.1 (Nat.le_of_ble_eq_true rfl) dX3_coins_1 ⟨Nat.le_of_ble_eq_true rfl, Nat.le_of_ble_eq_true rfl⟩ ?_
  refine lv_if_ne (tgt := 10) hx hb dX3_coins_4 (by decide) (fun c_4_1 => ?_) (fun c_4_1 => ?_)
  · have hin_2 := isPb_in c_4_1
    refine lv_iload_n hx hb dX3_coins_10 rfl (lv_at hl 2 rfl) ?_
    refine lv_if_lt (tgt := 21) hx hb dX3_coins_11 (by decide) (fun c_11_3 => ?_) (fun c_11_3 => ?_)
    · refine lv_ldc (v := (-100002)) hx hb hown wk2 dX3_coins_21 ?_
      refine W.widen (k := 11) (n := 62) (by decide) (by decide) ?_
      exact hret _ _ _ _ _ (T, U, nx, ln, ad, S, ps, pl) ⟨by simp only [if_true, if_false, lz_o, lz_1, lz_2, lz_5, lz_3, lz_4, coC, kpC, if_neg c_4_1, if_pos c_11_3], (fun _ => 0), by simp only [if_true, if_false, lz_o, lz_1, lz_2, lz_5, lz_3, lz_4, coC, kpC, if_neg c_4_1, if_pos c_11_3]⟩ hP hD hS dX3_coins_23
    · refine lv_iload_n hx hb dX3_coins_14 rfl (lv_at hl 2 rfl) ?_
      refine lv_sipush (v := 9999) hx hb dX3_coins_15 (by decide) ?_
      refine lv_icmp_le (tgt := 24) hx hb dX3_coins_18 (by decide) (fun c_18_4 => ?_) (fun c_18_4 => ?_)
      · refine lv_aload_n hx hb dX3_coins_24 rfl (lv_at hl 0 rfl) ?_
        refine va_get (D := G.1) (ci := 3) (v := .ref (t 0)) (C := RX3) (T := TX3) (N := 5) hx hb hts hinX3 hown hK.1 hP 0 rfl rfl 0 (by decide) wk3 (fun _ h9 => h9) rfl dX3_coins_25 ?_
        refine lv_iload_n hx hb dX3_coins_28 rfl (lv_at hl 1 rfl) ?_
        refine cPV (As := [.int x]) (rest := []) ⟨hx, hb, hml, hown, hts⟩ (c_X2_hasToCover l G t T x) (cwV 1 hts gX3_coins_X2_hasToCover rfl rfl rfl (by decide +kernel) ⟨Nat.le_of_ble_eq_true rfl, Nat.le_of_ble_eq_true rfl⟩) hK (hP.sub (ws' := tw G t T) [1, 2, 3, 4, 5, 6, 7, 8, 9, 10, 11] rfl) 0 (ci := 2) rfl rfl rfl rfl rfl hl.1 (Nat.le_of_ble_eq_true rfl) dX3_coins_29 ⟨Nat.le_of_ble_eq_true rfl, Nat.le_of_ble_eq_true rfl⟩ ?_
        refine lv_iload_n hx hb dX3_coins_32 rfl (lv_at hl 2 rfl) ?_
        refine lv_icmp_le (tgt := 39) hx hb dX3_coins_33 (by decide) (fun c_33_5 => ?_) (fun c_33_5 => ?_)
        · refine lv_aload_n hx hb dX3_coins_39 rfl (lv_at hl 0 rfl) ?_
          refine va_get (D := G.1) (ci := 3) (v := .ref (h 0)) (C := RX3) (T := TX3) (N := 5) hx hb hts hinX3 hown hK.1 hP 0 rfl rfl 2 (by decide) wk5 (fun _ h9 => h9) rfl dX3_coins_40 ?_
          refine lv_aload_n hx hb dX3_coins_43 rfl (lv_at hl 0 rfl) ?_
          refine va_get (D := G.1) (ci := 3) (v := .ref (t 0)) (C := RX3) (T := TX3) (N := 5) hx hb hts hinX3 hown hK.1 hP 0 rfl rfl 0 (by decide) wk3 (fun _ h9 => h9) rfl dX3_coins_44 ?_
          refine cPoolV (wr := [(o, .inr (3, [.ref (t 0), .ref (r 0), .ref (h 0), .ref g, .ref (b 0)]))] ++ tw G r U ++ [(g, .inl (gR G, 2, .inr (.inr (.inr (.inr (hd ad 6 2))))))] ++ pw G b ps (nI pl)) (wc := hw G h nx ln (hd ad 0 6) ++ tw G t T) (As := [.ref (t 0)]) (rest := []) ⟨hx, hb, hml, hown, hts⟩ (c_X0_keep l G h t T hT nx ln hnx hln ad S _) (cwV 1 hts gX3_coins_X0_keep rfl rfl rfl (by decide +kernel) ⟨Nat.le_of_ble_eq_true rfl, Nat.le_of_ble_eq_true rfl⟩) hK hP hD hS hA [23, 24, 1, 2, 3, 4, 5, 6, 7, 8, 9, 10, 11] [0, 12, 13, 14, 15, 16, 17, 18, 19, 20, 21, 22, 25, 26, 27] rfl rfl (by decide) (by decide) (by decide) 0 (ci := 0) rfl rfl rfl rfl rfl hl.1 (Nat.le_of_ble_eq_true rfl) dX3_coins_47 ⟨Nat.le_of_ble_eq_true rfl, Nat.le_of_ble_eq_true rfl⟩ (fun u_6 H locs hr_6 hP hD hS => ?_)
          have hP : va_P G.1 vwCl (ow G o t r h g b T U (nx + 1) (min (ln + 1) 6) (hd (va_up ad (nx % 6) (some u_6)) 0 6) (hd ad 6 2) ps pl ++ pool G (va_up ad (nx % 6) (some u_6)) (va_up S (nx % 6) T)) H := hP.part (cx := ow G o t r h g b T U (nx + 1) (min (ln + 1) 6) (hd (va_up ad (nx % 6) (some u_6)) 0 6) (hd ad 6 2) ps pl) [0, 17, 18, 19, 20, 21, 22, 23, 24, 25, 26, 27, 1, 2, 3, 4, 5, 6, 7, 8, 9, 10, 11, 15, 16, 12, 13, 14] rfl
          have hD : va_D A (ow G o t r h g b T U (nx + 1) (min (ln + 1) 6) (hd (va_up ad (nx % 6) (some u_6)) 0 6) (hd ad 6 2) ps pl ++ pool G (va_up ad (nx % 6) (some u_6)) (va_up S (nx % 6) T)) := hD.part (cx := ow G o t r h g b T U (nx + 1) (min (ln + 1) 6) (hd (va_up ad (nx % 6) (some u_6)) 0 6) (hd ad 6 2) ps pl) [0, 17, 18, 19, 20, 21, 22, 23, 24, 25, 26, 27, 1, 2, 3, 4, 5, 6, 7, 8, 9, 10, 11, 15, 16, 12, 13, 14] (by decide) rfl
          have ho9 : hd ad 6 2 = hd (va_up ad (nx % 6) (some u_6)) 6 2 := (hd_off (Or.inl (by omega))).symm
          rw [ho9] at hP hD
          have hP : va_P G.1 vwCl (ow G o t r h g b T U (nx + 1) (min (ln + 1) 6) (hd (va_up ad (nx % 6) (some u_6)) 0 6) (hd (va_up ad (nx % 6) (some u_6)) 6 2) ps pl ++ pool G (va_up ad (nx % 6) (some u_6)) (va_up S (nx % 6) T)) H := hP
          have hD : va_D A (ow G o t r h g b T U (nx + 1) (min (ln + 1) 6) (hd (va_up ad (nx % 6) (some u_6)) 0 6) (hd (va_up ad (nx % 6) (some u_6)) 6 2) ps pl ++ pool G (va_up ad (nx % 6) (some u_6)) (va_up S (nx % 6) T)) := hD
          refine lv_aload_n hx hb dX3_coins_50 rfl (lv_at hl 0 rfl) ?_
          refine va_get (D := G.1) (ci := 3) (v := .ref (t 0)) (C := RX3) (T := TX3) (N := 5) hx hb hts hinX3 hown hK.1 hP 0 rfl rfl 0 (by decide) wk3 (fun _ h9 => h9) rfl dX3_coins_51 ?_
          refine va_get (D := G.1) (ci := 2) (v := .ref (t 3)) (C := RX2) (T := TX2) (N := 13) hx hb hts hinX2 hown hK.1 hP 1 rfl rfl 2 (by decide) wk6 (fun _ h9 => h9) rfl dX3_coins_54 ?_
          refine lv_iload_n hx hb dX3_coins_57 rfl (lv_at hl 1 rfl) ?_
          refine qild hx hb hK.1 hP 4 0 rfl rfl (k := ix x) rfl (by assumption) dX3_coins_58 ?_
          refine lv_istore_n (lv' := [(3, .int (T 2 (ix x))), (0, .ref o), (1, .int x), (2, .int v)]) hx hb dX3_coins_59 rfl hl (by decide) rfl (fun ls hl => ?_)
          refine lv_aload_n hx hb dX3_coins_60 rfl (lv_at hl 1 rfl) ?_
          refine va_get (D := G.1) (ci := 3) (v := .ref (t 0)) (C := RX3) (T := TX3) (N := 5) hx hb hts hinX3 hown hK.1 hP 0 rfl rfl 0 (by decide) wk3 (fun _ h9 => h9) rfl dX3_coins_61 ?_
          refine va_get (D := G.1) (ci := 2) (v := .ref (t 3)) (C := RX2) (T := TX2) (N := 13) hx hb hts hinX2 hown hK.1 hP 1 rfl rfl 2 (by decide) wk6 (fun _ h9 => h9) rfl dX3_coins_64 ?_
          refine lv_iload_n hx hb dX3_coins_67 rfl (lv_at hl 2 rfl) ?_
          refine lv_iload_n hx hb dX3_coins_68 rfl (lv_at hl 3 rfl) ?_
          refine qist hx hb hK.1 hP hD hS 4 0 rfl rfl (k := ix x) rfl (by assumption) dX3_coins_69 (fun H locs hP hD hS => ?_)
          have hP : va_P G.1 vwCl (ow G o t r h g b (tup T 2 (ix x) v) U (nx + 1) (min (ln + 1) 6) (hd (va_up ad (nx % 6) (some u_6)) 0 6) (hd (va_up ad (nx % 6) (some u_6)) 6 2) ps pl ++ pool G (va_up ad (nx % 6) (some u_6)) (va_up S (nx % 6) T)) H := hP
          have hD : va_D A (ow G o t r h g b (tup T 2 (ix x) v) U (nx + 1) (min (ln + 1) 6) (hd (va_up ad (nx % 6) (some u_6)) 0 6) (hd (va_up ad (nx % 6) (some u_6)) 6 2) ps pl ++ pool G (va_up ad (nx % 6) (some u_6)) (va_up S (nx % 6) T)) := hD
          refine lv_iload_n hx hb dX3_coins_70 rfl (lv_at hl 0 rfl) ?_
          exact hret _ _ _ _ _ (tup T 2 (ix x) v, U, nx + 1, min (ln + 1) 6, va_up ad (nx % 6) (some u_6), va_up S (nx % 6) T, ps, pl) ⟨by simp only [if_true, if_false, lz_o, lz_1, lz_2, lz_5, lz_3, lz_4, coC, kpC, if_neg c_4_1, if_neg c_11_3, if_pos c_18_4, if_pos c_33_5], u_6, by simp only [if_true, if_false, lz_o, lz_1, lz_2, lz_5, lz_3, lz_4, coC, kpC, if_neg c_4_1, if_neg c_11_3, if_pos c_18_4, if_pos c_33_5]⟩ hP hD hS dX3_coins_71
        · refine lv_ldc (v := (-100005)) hx hb hown wk4 dX3_coins_36 ?_
          refine W.widen (k := 11) (n := 62) (by decide) (by decide) ?_
          exact hret _ _ _ _ _ (T, U, nx, ln, ad, S, ps, pl) ⟨by simp only [if_true, if_false, lz_o, lz_1, lz_2, lz_5, lz_3, lz_4, coC, kpC, if_neg c_4_1, if_neg c_11_3, if_pos c_18_4, if_neg c_33_5], (fun _ => 0), by simp only [if_true, if_false, lz_o, lz_1, lz_2, lz_5, lz_3, lz_4, coC, kpC, if_neg c_4_1, if_neg c_11_3, if_pos c_18_4, if_neg c_33_5]⟩ hP hD hS dX3_coins_38
      · refine lv_ldc (v := (-100002)) hx hb hown wk2 dX3_coins_21 ?_
        refine W.widen (k := 11) (n := 62) (by decide) (by decide) ?_
        exact hret _ _ _ _ _ (T, U, nx, ln, ad, S, ps, pl) ⟨by simp only [if_true, if_false, lz_o, lz_1, lz_2, lz_5, lz_3, lz_4, coC, kpC, if_neg c_4_1, if_neg c_11_3, if_neg c_18_4], (fun _ => 0), by simp only [if_true, if_false, lz_o, lz_1, lz_2, lz_5, lz_3, lz_4, coC, kpC, if_neg c_4_1, if_neg c_11_3, if_neg c_18_4]⟩ hP hD hS dX3_coins_23
  · refine lv_ldc (v := (-100001)) hx hb hown wk1 dX3_coins_7 ?_
    refine W.widen (k := 11) (n := 62) (by decide) (by decide) ?_
    exact hret _ _ _ _ _ (T, U, nx, ln, ad, S, ps, pl) ⟨by simp only [if_true, if_false, lz_o, lz_1, lz_2, lz_5, lz_3, lz_4, coC, kpC, if_pos c_4_1], (fun _ => 0), by simp only [if_true, if_false, lz_o, lz_1, lz_2, lz_5, lz_3, lz_4, coC, kpC, if_pos c_4_1]⟩ hP hD hS dX3_coins_9
set_option maxHeartbeats 4000000 in
set_option maxRecDepth 100000 in
theorem c_X3_limit (l : Launch) (G : qG) (o : Nat) (t r h : Nat → Nat) (g : Nat) (b : Nat → Nat) (T U : Tb) (hT : is01 (T 10 0)) (nx ln : Nat) (hnx : nx < 100000) (hln : ln ≤ 6) (ad : Ad) (S : Nat → Tb) (ps : Nat → Int32) (hps : chs ps) (pl : Nat) (hpl : pl ≤ 60) (x v : Int32) (sz : Nat) : Met l yX3_limit wsX3_limit { frames := 3, cells := 11, slots := 62, locals := 62 } (PW G sz [.ref o, .int x, .int v] (ow G o t r h g b T U nx ln (hd ad 0 6) (hd ad 6 2) ps pl ++ pool G ad S)) (QI (S := CS) G sz (ow G o t r h g b T U nx ln (hd ad 0 6) (hd ad 6 2) ps pl ++ pool G ad S) (fun r₀ c₀ => r₀ = (if liC x v = 0 then T 3 (ix x) else liC x v) ∧ ∃ u : Nat → Nat, c₀ = (if liC x v = 0 then kpC T U nx ln ad S ps pl u (tup T 3 (ix x) v) else (T, U, nx, ln, ad, S, ps, pl))) (fun c₀ => ows G o t r h g b c₀)) 11 62 (va_A (ow G o t r h g b T U nx ln (hd ad 0 6) (hd ad 6 2) ps pl ++ pool G ad S) sz) := by
  refine MI.of' (by decide) rfl (Nat.le_of_ble_eq_true rfl) ?_
  intro p e s m below meth c hx hb hml hown hts hK hsz hP A hAe hA hD hS Q hret ls hl
  have hown : s.vm.findClass RX3 = some m.cls := hown
  have hl : lv_has ls 4 [(0, .ref o), (1, .int x), (2, .int v)] := hl
  have wk1 := hts (Cond.constant RX3 56 (-100001)) (List.mem_of_getElem? (i := 1) rfl)
  have wk2 := hts (Cond.constant RX3 37 (-100002)) (List.mem_of_getElem? (i := 2) rfl)
  have wk3 := hts (Cond.fieldLink RX3 22 "TurnBids" "history" "LTurnBids$History;") (List.mem_of_getElem? (i := 3) rfl)
  have wk4 := hts (Cond.fieldLink RX3 10 "TurnBids" "table" "LTurnBids$Table;") (List.mem_of_getElem? (i := 4) rfl)
  have wk5 := hts (Cond.fieldLink RX3 65 "TurnBids$Table" "limits" "[I") (List.mem_of_getElem? (i := 5) rfl)
  have wk6 := hts (Cond.methodLink RX3 52 yX3_isPlayer) (List.mem_of_getElem? (i := 6) rfl)
  have wk10 := hts (Cond.methodLink RX3 45 yX0_keep) (List.mem_of_getElem? (i := 10) rfl)
  have hinX3 : ∀ w ∈ wsX30, w ∈ wsX3_limit := fun _ h => (List.mem_cons_of_mem _ (List.mem_append_left _ (List.mem_append_left _ (List.mem_append_right _ h))))
  have hinX2 : ∀ w ∈ wsX20, w ∈ wsX3_limit := fun _ h => (List.mem_cons_of_mem _ (List.mem_append_left _ (List.mem_append_right _ h)))
  refine lv_iload_n hx hb dX3_limit_0 rfl (lv_at hl 1 rfl) ?_
  refine cPS (As := [.int x]) (rest := []) ⟨hx, hb, hml, hown, hts⟩ (c_X3_isPlayer l G x) (cwS 1 hts gX3_limit_X3_isPlayer rfl rfl rfl (by decide +kernel) ⟨Nat.le_of_ble_eq_true rfl, Nat.le_of_ble_eq_true rfl⟩) hK (fun k q h => by simp at h) rfl rfl hl.1 (Nat.le_of_ble_eq_true rfl) dX3_limit_1 ⟨Nat.le_of_ble_eq_true rfl, Nat.le_of_ble_eq_true rfl⟩ ?_
  refine lv_if_ne (tgt := 10) hx hb dX3_limit_4 (by decide) (fun c_4_1 => ?_) (fun c_4_1 => ?_)
  · have hin_2 := isPb_in c_4_1
    refine lv_iload_n hx hb dX3_limit_10 rfl (lv_at hl 2 rfl) ?_
    refine lv_if_lt (tgt := 20) hx hb dX3_limit_11 (by decide) (fun c_11_3 => ?_) (fun c_11_3 => ?_)
    · refine lv_ldc (v := (-100002)) hx hb hown wk2 dX3_limit_20 ?_
      refine W.widen (k := 11) (n := 62) (by decide) (by decide) ?_
      exact hret _ _ _ _ _ (T, U, nx, ln, ad, S, ps, pl) ⟨by simp only [if_true, if_false, lz_o, lz_1, lz_2, lz_5, lz_3, lz_4, liC, kpC, if_neg c_4_1, if_pos c_11_3], (fun _ => 0), by simp only [if_true, if_false, lz_o, lz_1, lz_2, lz_5, lz_3, lz_4, liC, kpC, if_neg c_4_1, if_pos c_11_3]⟩ hP hD hS dX3_limit_22
    · refine lv_iload_n hx hb dX3_limit_14 rfl (lv_at hl 2 rfl) ?_
      refine lv_bipush (v := 99) hx hb dX3_limit_15 (by decide) ?_
      refine lv_icmp_le (tgt := 23) hx hb dX3_limit_17 (by decide) (fun c_17_4 => ?_) (fun c_17_4 => ?_)
      · refine lv_aload_n hx hb dX3_limit_23 rfl (lv_at hl 0 rfl) ?_
        refine va_get (D := G.1) (ci := 3) (v := .ref (h 0)) (C := RX3) (T := TX3) (N := 5) hx hb hts hinX3 hown hK.1 hP 0 rfl rfl 2 (by decide) wk3 (fun _ h9 => h9) rfl dX3_limit_24 ?_
        refine lv_aload_n hx hb dX3_limit_27 rfl (lv_at hl 0 rfl) ?_
        refine va_get (D := G.1) (ci := 3) (v := .ref (t 0)) (C := RX3) (T := TX3) (N := 5) hx hb hts hinX3 hown hK.1 hP 0 rfl rfl 0 (by decide) wk4 (fun _ h9 => h9) rfl dX3_limit_28 ?_
        refine cPoolV (wr := [(o, .inr (3, [.ref (t 0), .ref (r 0), .ref (h 0), .ref g, .ref (b 0)]))] ++ tw G r U ++ [(g, .inl (gR G, 2, .inr (.inr (.inr (.inr (hd ad 6 2))))))] ++ pw G b ps (nI pl)) (wc := hw G h nx ln (hd ad 0 6) ++ tw G t T) (As := [.ref (t 0)]) (rest := []) ⟨hx, hb, hml, hown, hts⟩ (c_X0_keep l G h t T hT nx ln hnx hln ad S _) (cwV 1 hts gX3_limit_X0_keep rfl rfl rfl (by decide +kernel) ⟨Nat.le_of_ble_eq_true rfl, Nat.le_of_ble_eq_true rfl⟩) hK hP hD hS hA [23, 24, 1, 2, 3, 4, 5, 6, 7, 8, 9, 10, 11] [0, 12, 13, 14, 15, 16, 17, 18, 19, 20, 21, 22, 25, 26, 27] rfl rfl (by decide) (by decide) (by decide) 0 (ci := 0) rfl rfl rfl rfl rfl hl.1 (Nat.le_of_ble_eq_true rfl) dX3_limit_31 ⟨Nat.le_of_ble_eq_true rfl, Nat.le_of_ble_eq_true rfl⟩ (fun u_5 H locs hr_5 hP hD hS => ?_)
        have hP : va_P G.1 vwCl (ow G o t r h g b T U (nx + 1) (min (ln + 1) 6) (hd (va_up ad (nx % 6) (some u_5)) 0 6) (hd ad 6 2) ps pl ++ pool G (va_up ad (nx % 6) (some u_5)) (va_up S (nx % 6) T)) H := hP.part (cx := ow G o t r h g b T U (nx + 1) (min (ln + 1) 6) (hd (va_up ad (nx % 6) (some u_5)) 0 6) (hd ad 6 2) ps pl) [0, 17, 18, 19, 20, 21, 22, 23, 24, 25, 26, 27, 1, 2, 3, 4, 5, 6, 7, 8, 9, 10, 11, 15, 16, 12, 13, 14] rfl
        have hD : va_D A (ow G o t r h g b T U (nx + 1) (min (ln + 1) 6) (hd (va_up ad (nx % 6) (some u_5)) 0 6) (hd ad 6 2) ps pl ++ pool G (va_up ad (nx % 6) (some u_5)) (va_up S (nx % 6) T)) := hD.part (cx := ow G o t r h g b T U (nx + 1) (min (ln + 1) 6) (hd (va_up ad (nx % 6) (some u_5)) 0 6) (hd ad 6 2) ps pl) [0, 17, 18, 19, 20, 21, 22, 23, 24, 25, 26, 27, 1, 2, 3, 4, 5, 6, 7, 8, 9, 10, 11, 15, 16, 12, 13, 14] (by decide) rfl
        have ho9 : hd ad 6 2 = hd (va_up ad (nx % 6) (some u_5)) 6 2 := (hd_off (Or.inl (by omega))).symm
        rw [ho9] at hP hD
        have hP : va_P G.1 vwCl (ow G o t r h g b T U (nx + 1) (min (ln + 1) 6) (hd (va_up ad (nx % 6) (some u_5)) 0 6) (hd (va_up ad (nx % 6) (some u_5)) 6 2) ps pl ++ pool G (va_up ad (nx % 6) (some u_5)) (va_up S (nx % 6) T)) H := hP
        have hD : va_D A (ow G o t r h g b T U (nx + 1) (min (ln + 1) 6) (hd (va_up ad (nx % 6) (some u_5)) 0 6) (hd (va_up ad (nx % 6) (some u_5)) 6 2) ps pl ++ pool G (va_up ad (nx % 6) (some u_5)) (va_up S (nx % 6) T)) := hD
        refine lv_aload_n hx hb dX3_limit_34 rfl (lv_at hl 0 rfl) ?_
        refine va_get (D := G.1) (ci := 3) (v := .ref (t 0)) (C := RX3) (T := TX3) (N := 5) hx hb hts hinX3 hown hK.1 hP 0 rfl rfl 0 (by decide) wk4 (fun _ h9 => h9) rfl dX3_limit_35 ?_
        refine va_get (D := G.1) (ci := 2) (v := .ref (t 4)) (C := RX2) (T := TX2) (N := 13) hx hb hts hinX2 hown hK.1 hP 1 rfl rfl 3 (by decide) wk5 (fun _ h9 => h9) rfl dX3_limit_38 ?_
        refine lv_iload_n hx hb dX3_limit_41 rfl (lv_at hl 1 rfl) ?_
        refine qild hx hb hK.1 hP 5 0 rfl rfl (k := ix x) rfl (by assumption) dX3_limit_42 ?_
        refine lv_istore_n (lv' := [(3, .int (T 3 (ix x))), (0, .ref o), (1, .int x), (2, .int v)]) hx hb dX3_limit_43 rfl hl (by decide) rfl (fun ls hl => ?_)
        refine lv_aload_n hx hb dX3_limit_44 rfl (lv_at hl 1 rfl) ?_
        refine va_get (D := G.1) (ci := 3) (v := .ref (t 0)) (C := RX3) (T := TX3) (N := 5) hx hb hts hinX3 hown hK.1 hP 0 rfl rfl 0 (by decide) wk4 (fun _ h9 => h9) rfl dX3_limit_45 ?_
        refine va_get (D := G.1) (ci := 2) (v := .ref (t 4)) (C := RX2) (T := TX2) (N := 13) hx hb hts hinX2 hown hK.1 hP 1 rfl rfl 3 (by decide) wk5 (fun _ h9 => h9) rfl dX3_limit_48 ?_
        refine lv_iload_n hx hb dX3_limit_51 rfl (lv_at hl 2 rfl) ?_
        refine lv_iload_n hx hb dX3_limit_52 rfl (lv_at hl 3 rfl) ?_
        refine qist hx hb hK.1 hP hD hS 5 0 rfl rfl (k := ix x) rfl (by assumption) dX3_limit_53 (fun H locs hP hD hS => ?_)
        have hP : va_P G.1 vwCl (ow G o t r h g b (tup T 3 (ix x) v) U (nx + 1) (min (ln + 1) 6) (hd (va_up ad (nx % 6) (some u_5)) 0 6) (hd (va_up ad (nx % 6) (some u_5)) 6 2) ps pl ++ pool G (va_up ad (nx % 6) (some u_5)) (va_up S (nx % 6) T)) H := hP
        have hD : va_D A (ow G o t r h g b (tup T 3 (ix x) v) U (nx + 1) (min (ln + 1) 6) (hd (va_up ad (nx % 6) (some u_5)) 0 6) (hd (va_up ad (nx % 6) (some u_5)) 6 2) ps pl ++ pool G (va_up ad (nx % 6) (some u_5)) (va_up S (nx % 6) T)) := hD
        refine lv_iload_n hx hb dX3_limit_54 rfl (lv_at hl 0 rfl) ?_
        exact hret _ _ _ _ _ (tup T 3 (ix x) v, U, nx + 1, min (ln + 1) 6, va_up ad (nx % 6) (some u_5), va_up S (nx % 6) T, ps, pl) ⟨by simp only [if_true, if_false, lz_o, lz_1, lz_2, lz_5, lz_3, lz_4, liC, kpC, if_neg c_4_1, if_neg c_11_3, if_pos c_17_4], u_5, by simp only [if_true, if_false, lz_o, lz_1, lz_2, lz_5, lz_3, lz_4, liC, kpC, if_neg c_4_1, if_neg c_11_3, if_pos c_17_4]⟩ hP hD hS dX3_limit_55
      · refine lv_ldc (v := (-100002)) hx hb hown wk2 dX3_limit_20 ?_
        refine W.widen (k := 11) (n := 62) (by decide) (by decide) ?_
        exact hret _ _ _ _ _ (T, U, nx, ln, ad, S, ps, pl) ⟨by simp only [if_true, if_false, lz_o, lz_1, lz_2, lz_5, lz_3, lz_4, liC, kpC, if_neg c_4_1, if_neg c_11_3, if_neg c_17_4], (fun _ => 0), by simp only [if_true, if_false, lz_o, lz_1, lz_2, lz_5, lz_3, lz_4, liC, kpC, if_neg c_4_1, if_neg c_11_3, if_neg c_17_4]⟩ hP hD hS dX3_limit_22
  · refine lv_ldc (v := (-100001)) hx hb hown wk1 dX3_limit_7 ?_
    refine W.widen (k := 11) (n := 62) (by decide) (by decide) ?_
    exact hret _ _ _ _ _ (T, U, nx, ln, ad, S, ps, pl) ⟨by simp only [if_true, if_false, lz_o, lz_1, lz_2, lz_5, lz_3, lz_4, liC, kpC, if_pos c_4_1], (fun _ => 0), by simp only [if_true, if_false, lz_o, lz_1, lz_2, lz_5, lz_3, lz_4, liC, kpC, if_pos c_4_1]⟩ hP hD hS dX3_limit_9
set_option maxHeartbeats 4000000 in
set_option maxRecDepth 100000 in
theorem c_X3_prize (l : Launch) (G : qG) (o : Nat) (t r h : Nat → Nat) (g : Nat) (b : Nat → Nat) (T U : Tb) (hT : is01 (T 10 0)) (nx ln : Nat) (hnx : nx < 100000) (hln : ln ≤ 6) (ad : Ad) (S : Nat → Tb) (ps : Nat → Int32) (hps : chs ps) (pl : Nat) (hpl : pl ≤ 60) (x v : Int32) (sz : Nat) : Met l yX3_prize wsX3_prize { frames := 3, cells := 11, slots := 62, locals := 62 } (PW G sz [.ref o, .int x, .int v] (ow G o t r h g b T U nx ln (hd ad 0 6) (hd ad 6 2) ps pl ++ pool G ad S)) (QI (S := CS) G sz (ow G o t r h g b T U nx ln (hd ad 0 6) (hd ad 6 2) ps pl ++ pool G ad S) (fun r₀ c₀ => r₀ = (if liC x v = 0 then T 1 (ix x) else liC x v) ∧ ∃ u : Nat → Nat, c₀ = (if liC x v = 0 then kpC T U nx ln ad S ps pl u (tup T 1 (ix x) v) else (T, U, nx, ln, ad, S, ps, pl))) (fun c₀ => ows G o t r h g b c₀)) 11 62 (va_A (ow G o t r h g b T U nx ln (hd ad 0 6) (hd ad 6 2) ps pl ++ pool G ad S) sz) := by
  refine MI.of' (by decide) rfl (Nat.le_of_ble_eq_true rfl) ?_
  intro p e s m below meth c hx hb hml hown hts hK hsz hP A hAe hA hD hS Q hret ls hl
  have hown : s.vm.findClass RX3 = some m.cls := hown
  have hl : lv_has ls 4 [(0, .ref o), (1, .int x), (2, .int v)] := hl
  have wk1 := hts (Cond.constant RX3 56 (-100001)) (List.mem_of_getElem? (i := 1) rfl)
  have wk2 := hts (Cond.constant RX3 37 (-100002)) (List.mem_of_getElem? (i := 2) rfl)
  have wk3 := hts (Cond.fieldLink RX3 22 "TurnBids" "history" "LTurnBids$History;") (List.mem_of_getElem? (i := 3) rfl)
  have wk4 := hts (Cond.fieldLink RX3 10 "TurnBids" "table" "LTurnBids$Table;") (List.mem_of_getElem? (i := 4) rfl)
  have wk5 := hts (Cond.fieldLink RX3 71 "TurnBids$Table" "prizes" "[I") (List.mem_of_getElem? (i := 5) rfl)
  have wk6 := hts (Cond.methodLink RX3 68 yX3_isPrize) (List.mem_of_getElem? (i := 6) rfl)
  have wk10 := hts (Cond.methodLink RX3 45 yX0_keep) (List.mem_of_getElem? (i := 10) rfl)
  have hinX3 : ∀ w ∈ wsX30, w ∈ wsX3_prize := fun _ h => (List.mem_cons_of_mem _ (List.mem_append_left _ (List.mem_append_left _ (List.mem_append_right _ h))))
  have hinX2 : ∀ w ∈ wsX20, w ∈ wsX3_prize := fun _ h => (List.mem_cons_of_mem _ (List.mem_append_left _ (List.mem_append_right _ h)))
  refine lv_iload_n hx hb dX3_prize_0 rfl (lv_at hl 1 rfl) ?_
  refine cPS (As := [.int x]) (rest := []) ⟨hx, hb, hml, hown, hts⟩ (c_X3_isPrize l G x) (cwS 1 hts gX3_prize_X3_isPrize rfl rfl rfl (by decide +kernel) ⟨Nat.le_of_ble_eq_true rfl, Nat.le_of_ble_eq_true rfl⟩) hK (fun k q h => by simp at h) rfl rfl hl.1 (Nat.le_of_ble_eq_true rfl) dX3_prize_1 ⟨Nat.le_of_ble_eq_true rfl, Nat.le_of_ble_eq_true rfl⟩ ?_
  refine lv_if_ne (tgt := 10) hx hb dX3_prize_4 (by decide) (fun c_4_1 => ?_) (fun c_4_1 => ?_)
  · have hin_2 := isPb_in c_4_1
    refine lv_iload_n hx hb dX3_prize_10 rfl (lv_at hl 2 rfl) ?_
    refine lv_if_lt (tgt := 20) hx hb dX3_prize_11 (by decide) (fun c_11_3 => ?_) (fun c_11_3 => ?_)
    · refine lv_ldc (v := (-100002)) hx hb hown wk2 dX3_prize_20 ?_
      refine W.widen (k := 11) (n := 62) (by decide) (by decide) ?_
      exact hret _ _ _ _ _ (T, U, nx, ln, ad, S, ps, pl) ⟨by simp only [if_true, if_false, lz_o, lz_1, lz_2, lz_5, lz_3, lz_4, liC, kpC, if_neg c_4_1, if_pos c_11_3], (fun _ => 0), by simp only [if_true, if_false, lz_o, lz_1, lz_2, lz_5, lz_3, lz_4, liC, kpC, if_neg c_4_1, if_pos c_11_3]⟩ hP hD hS dX3_prize_22
    · refine lv_iload_n hx hb dX3_prize_14 rfl (lv_at hl 2 rfl) ?_
      refine lv_bipush (v := 99) hx hb dX3_prize_15 (by decide) ?_
      refine lv_icmp_le (tgt := 23) hx hb dX3_prize_17 (by decide) (fun c_17_4 => ?_) (fun c_17_4 => ?_)
      · refine lv_aload_n hx hb dX3_prize_23 rfl (lv_at hl 0 rfl) ?_
        refine va_get (D := G.1) (ci := 3) (v := .ref (h 0)) (C := RX3) (T := TX3) (N := 5) hx hb hts hinX3 hown hK.1 hP 0 rfl rfl 2 (by decide) wk3 (fun _ h9 => h9) rfl dX3_prize_24 ?_
        refine lv_aload_n hx hb dX3_prize_27 rfl (lv_at hl 0 rfl) ?_
        refine va_get (D := G.1) (ci := 3) (v := .ref (t 0)) (C := RX3) (T := TX3) (N := 5) hx hb hts hinX3 hown hK.1 hP 0 rfl rfl 0 (by decide) wk4 (fun _ h9 => h9) rfl dX3_prize_28 ?_
        refine cPoolV (wr := [(o, .inr (3, [.ref (t 0), .ref (r 0), .ref (h 0), .ref g, .ref (b 0)]))] ++ tw G r U ++ [(g, .inl (gR G, 2, .inr (.inr (.inr (.inr (hd ad 6 2))))))] ++ pw G b ps (nI pl)) (wc := hw G h nx ln (hd ad 0 6) ++ tw G t T) (As := [.ref (t 0)]) (rest := []) ⟨hx, hb, hml, hown, hts⟩ (c_X0_keep l G h t T hT nx ln hnx hln ad S _) (cwV 1 hts gX3_prize_X0_keep rfl rfl rfl (by decide +kernel) ⟨Nat.le_of_ble_eq_true rfl, Nat.le_of_ble_eq_true rfl⟩) hK hP hD hS hA [23, 24, 1, 2, 3, 4, 5, 6, 7, 8, 9, 10, 11] [0, 12, 13, 14, 15, 16, 17, 18, 19, 20, 21, 22, 25, 26, 27] rfl rfl (by decide) (by decide) (by decide) 0 (ci := 0) rfl rfl rfl rfl rfl hl.1 (Nat.le_of_ble_eq_true rfl) dX3_prize_31 ⟨Nat.le_of_ble_eq_true rfl, Nat.le_of_ble_eq_true rfl⟩ (fun u_5 H locs hr_5 hP hD hS => ?_)
        have hP : va_P G.1 vwCl (ow G o t r h g b T U (nx + 1) (min (ln + 1) 6) (hd (va_up ad (nx % 6) (some u_5)) 0 6) (hd ad 6 2) ps pl ++ pool G (va_up ad (nx % 6) (some u_5)) (va_up S (nx % 6) T)) H := hP.part (cx := ow G o t r h g b T U (nx + 1) (min (ln + 1) 6) (hd (va_up ad (nx % 6) (some u_5)) 0 6) (hd ad 6 2) ps pl) [0, 17, 18, 19, 20, 21, 22, 23, 24, 25, 26, 27, 1, 2, 3, 4, 5, 6, 7, 8, 9, 10, 11, 15, 16, 12, 13, 14] rfl
        have hD : va_D A (ow G o t r h g b T U (nx + 1) (min (ln + 1) 6) (hd (va_up ad (nx % 6) (some u_5)) 0 6) (hd ad 6 2) ps pl ++ pool G (va_up ad (nx % 6) (some u_5)) (va_up S (nx % 6) T)) := hD.part (cx := ow G o t r h g b T U (nx + 1) (min (ln + 1) 6) (hd (va_up ad (nx % 6) (some u_5)) 0 6) (hd ad 6 2) ps pl) [0, 17, 18, 19, 20, 21, 22, 23, 24, 25, 26, 27, 1, 2, 3, 4, 5, 6, 7, 8, 9, 10, 11, 15, 16, 12, 13, 14] (by decide) rfl
        have ho9 : hd ad 6 2 = hd (va_up ad (nx % 6) (some u_5)) 6 2 := (hd_off (Or.inl (by omega))).symm
        rw [ho9] at hP hD
        have hP : va_P G.1 vwCl (ow G o t r h g b T U (nx + 1) (min (ln + 1) 6) (hd (va_up ad (nx % 6) (some u_5)) 0 6) (hd (va_up ad (nx % 6) (some u_5)) 6 2) ps pl ++ pool G (va_up ad (nx % 6) (some u_5)) (va_up S (nx % 6) T)) H := hP
        have hD : va_D A (ow G o t r h g b T U (nx + 1) (min (ln + 1) 6) (hd (va_up ad (nx % 6) (some u_5)) 0 6) (hd (va_up ad (nx % 6) (some u_5)) 6 2) ps pl ++ pool G (va_up ad (nx % 6) (some u_5)) (va_up S (nx % 6) T)) := hD
        refine lv_aload_n hx hb dX3_prize_34 rfl (lv_at hl 0 rfl) ?_
        refine va_get (D := G.1) (ci := 3) (v := .ref (t 0)) (C := RX3) (T := TX3) (N := 5) hx hb hts hinX3 hown hK.1 hP 0 rfl rfl 0 (by decide) wk4 (fun _ h9 => h9) rfl dX3_prize_35 ?_
        refine va_get (D := G.1) (ci := 2) (v := .ref (t 2)) (C := RX2) (T := TX2) (N := 13) hx hb hts hinX2 hown hK.1 hP 1 rfl rfl 1 (by decide) wk5 (fun _ h9 => h9) rfl dX3_prize_38 ?_
        refine lv_iload_n hx hb dX3_prize_41 rfl (lv_at hl 1 rfl) ?_
        refine qild hx hb hK.1 hP 3 0 rfl rfl (k := ix x) rfl (by assumption) dX3_prize_42 ?_
        refine lv_istore_n (lv' := [(3, .int (T 1 (ix x))), (0, .ref o), (1, .int x), (2, .int v)]) hx hb dX3_prize_43 rfl hl (by decide) rfl (fun ls hl => ?_)
        refine lv_aload_n hx hb dX3_prize_44 rfl (lv_at hl 1 rfl) ?_
        refine va_get (D := G.1) (ci := 3) (v := .ref (t 0)) (C := RX3) (T := TX3) (N := 5) hx hb hts hinX3 hown hK.1 hP 0 rfl rfl 0 (by decide) wk4 (fun _ h9 => h9) rfl dX3_prize_45 ?_
        refine va_get (D := G.1) (ci := 2) (v := .ref (t 2)) (C := RX2) (T := TX2) (N := 13) hx hb hts hinX2 hown hK.1 hP 1 rfl rfl 1 (by decide) wk5 (fun _ h9 => h9) rfl dX3_prize_48 ?_
        refine lv_iload_n hx hb dX3_prize_51 rfl (lv_at hl 2 rfl) ?_
        refine lv_iload_n hx hb dX3_prize_52 rfl (lv_at hl 3 rfl) ?_
        refine qist hx hb hK.1 hP hD hS 3 0 rfl rfl (k := ix x) rfl (by assumption) dX3_prize_53 (fun H locs hP hD hS => ?_)
        have hP : va_P G.1 vwCl (ow G o t r h g b (tup T 1 (ix x) v) U (nx + 1) (min (ln + 1) 6) (hd (va_up ad (nx % 6) (some u_5)) 0 6) (hd (va_up ad (nx % 6) (some u_5)) 6 2) ps pl ++ pool G (va_up ad (nx % 6) (some u_5)) (va_up S (nx % 6) T)) H := hP
        have hD : va_D A (ow G o t r h g b (tup T 1 (ix x) v) U (nx + 1) (min (ln + 1) 6) (hd (va_up ad (nx % 6) (some u_5)) 0 6) (hd (va_up ad (nx % 6) (some u_5)) 6 2) ps pl ++ pool G (va_up ad (nx % 6) (some u_5)) (va_up S (nx % 6) T)) := hD
        refine lv_iload_n hx hb dX3_prize_54 rfl (lv_at hl 0 rfl) ?_
        exact hret _ _ _ _ _ (tup T 1 (ix x) v, U, nx + 1, min (ln + 1) 6, va_up ad (nx % 6) (some u_5), va_up S (nx % 6) T, ps, pl) ⟨by simp only [if_true, if_false, lz_o, lz_1, lz_2, lz_5, lz_3, lz_4, liC, kpC, if_neg c_4_1, if_neg c_11_3, if_pos c_17_4], u_5, by simp only [if_true, if_false, lz_o, lz_1, lz_2, lz_5, lz_3, lz_4, liC, kpC, if_neg c_4_1, if_neg c_11_3, if_pos c_17_4]⟩ hP hD hS dX3_prize_55
      · refine lv_ldc (v := (-100002)) hx hb hown wk2 dX3_prize_20 ?_
        refine W.widen (k := 11) (n := 62) (by decide) (by decide) ?_
        exact hret _ _ _ _ _ (T, U, nx, ln, ad, S, ps, pl) ⟨by simp only [if_true, if_false, lz_o, lz_1, lz_2, lz_5, lz_3, lz_4, liC, kpC, if_neg c_4_1, if_neg c_11_3, if_neg c_17_4], (fun _ => 0), by simp only [if_true, if_false, lz_o, lz_1, lz_2, lz_5, lz_3, lz_4, liC, kpC, if_neg c_4_1, if_neg c_11_3, if_neg c_17_4]⟩ hP hD hS dX3_prize_22
  · refine lv_ldc (v := (-100001)) hx hb hown wk1 dX3_prize_7 ?_
    refine W.widen (k := 11) (n := 62) (by decide) (by decide) ?_
    exact hret _ _ _ _ _ (T, U, nx, ln, ad, S, ps, pl) ⟨by simp only [if_true, if_false, lz_o, lz_1, lz_2, lz_5, lz_3, lz_4, liC, kpC, if_pos c_4_1], (fun _ => 0), by simp only [if_true, if_false, lz_o, lz_1, lz_2, lz_5, lz_3, lz_4, liC, kpC, if_pos c_4_1]⟩ hP hD hS dX3_prize_9
set_option maxHeartbeats 4000000 in
set_option maxRecDepth 100000 in
theorem c_X3_begin (l : Launch) (G : qG) (o : Nat) (t r h : Nat → Nat) (g : Nat) (b : Nat → Nat) (T U : Tb) (hT : is01 (T 10 0)) (nx ln : Nat) (hnx : nx < 100000) (hln : ln ≤ 6) (ad : Ad) (S : Nat → Tb) (ps : Nat → Int32) (hps : chs ps) (pl : Nat) (hpl : pl ≤ 60)  (sz : Nat) : Met l yX3_begin wsX3_begin { frames := 3, cells := 11, slots := 62, locals := 62 } (PW G sz [.ref o] (ow G o t r h g b T U nx ln (hd ad 0 6) (hd ad 6 2) ps pl ++ pool G ad S)) (QI (S := CS) G sz (ow G o t r h g b T U nx ln (hd ad 0 6) (hd ad 6 2) ps pl ++ pool G ad S) (fun r₀ c₀ => r₀ = (if T 10 0 = 0 then staT T 10 1 else (-100005)) ∧ ∃ u : Nat → Nat, c₀ = (if T 10 0 = 0 then kpC T U nx ln ad S ps pl u (staT T) else (T, U, nx, ln, ad, S, ps, pl))) (fun c₀ => ows G o t r h g b c₀)) 11 62 (va_A (ow G o t r h g b T U nx ln (hd ad 0 6) (hd ad 6 2) ps pl ++ pool G ad S) sz) := by
  refine MI.of' (by decide) rfl (Nat.le_of_ble_eq_true rfl) ?_
  intro p e s m below meth c hx hb hml hown hts hK hsz hP A hAe hA hD hS Q hret ls hl
  have hown : s.vm.findClass RX3 = some m.cls := hown
  have hl : lv_has ls 1 [(0, .ref o)] := hl
  have wk1 := hts (Cond.fieldLink RX3 10 "TurnBids" "table" "LTurnBids$Table;") (List.mem_of_getElem? (i := 1) rfl)
  have wk2 := hts (Cond.fieldLink RX3 74 "TurnBids$Table" "underWay" "Z") (List.mem_of_getElem? (i := 2) rfl)
  have wk3 := hts (Cond.constant RX3 61 (-100005)) (List.mem_of_getElem? (i := 3) rfl)
  have wk4 := hts (Cond.fieldLink RX3 22 "TurnBids" "history" "LTurnBids$History;") (List.mem_of_getElem? (i := 4) rfl)
  have wk5 := hts (Cond.methodLink RX3 45 yX0_keep) (List.mem_of_getElem? (i := 5) rfl)
  have wk52 := hts (Cond.methodLink RX3 78 yX2_start) (List.mem_of_getElem? (i := 52) rfl)
  have hinX3 : ∀ w ∈ wsX30, w ∈ wsX3_begin := fun _ h => (List.mem_cons_of_mem _ (List.mem_append_left _ (List.mem_append_left _ (List.mem_append_right _ h))))
  have hinX2 : ∀ w ∈ wsX20, w ∈ wsX3_begin := fun _ h => (List.mem_cons_of_mem _ (List.mem_append_left _ (List.mem_append_right _ h)))
  refine lv_aload_n hx hb dX3_begin_0 rfl (lv_at hl 0 rfl) ?_
  refine va_get (D := G.1) (ci := 3) (v := .ref (t 0)) (C := RX3) (T := TX3) (N := 5) hx hb hts hinX3 hown hK.1 hP 0 rfl rfl 0 (by decide) wk1 (fun _ h9 => h9) rfl dX3_begin_1 ?_
  refine va_get (D := G.1) (ci := 2) (v := .int (T 10 0)) (C := RX2) (T := TX2) (N := 13) hx hb hts hinX2 hown hK.1 hP 1 rfl rfl 10 (by decide) wk2 (fun _ h9 => h9) rfl dX3_begin_4 ?_
  refine lv_if_eq (tgt := 13) hx hb dX3_begin_7 (by decide) (fun c_7_1 => ?_) (fun c_7_1 => ?_)
  · refine lv_aload_n hx hb dX3_begin_13 rfl (lv_at hl 0 rfl) ?_
    refine va_get (D := G.1) (ci := 3) (v := .ref (h 0)) (C := RX3) (T := TX3) (N := 5) hx hb hts hinX3 hown hK.1 hP 0 rfl rfl 2 (by decide) wk4 (fun _ h9 => h9) rfl dX3_begin_14 ?_
    refine lv_aload_n hx hb dX3_begin_17 rfl (lv_at hl 0 rfl) ?_
    refine va_get (D := G.1) (ci := 3) (v := .ref (t 0)) (C := RX3) (T := TX3) (N := 5) hx hb hts hinX3 hown hK.1 hP 0 rfl rfl 0 (by decide) wk1 (fun _ h9 => h9) rfl dX3_begin_18 ?_
    refine cPoolV (wr := [(o, .inr (3, [.ref (t 0), .ref (r 0), .ref (h 0), .ref g, .ref (b 0)]))] ++ tw G r U ++ [(g, .inl (gR G, 2, .inr (.inr (.inr (.inr (hd ad 6 2))))))] ++ pw G b ps (nI pl)) (wc := hw G h nx ln (hd ad 0 6) ++ tw G t T) (As := [.ref (t 0)]) (rest := []) ⟨hx, hb, hml, hown, hts⟩ (c_X0_keep l G h t T hT nx ln hnx hln ad S _) (cwV 1 hts gX3_begin_X0_keep rfl rfl rfl (by decide +kernel) ⟨Nat.le_of_ble_eq_true rfl, Nat.le_of_ble_eq_true rfl⟩) hK hP hD hS hA [23, 24, 1, 2, 3, 4, 5, 6, 7, 8, 9, 10, 11] [0, 12, 13, 14, 15, 16, 17, 18, 19, 20, 21, 22, 25, 26, 27] rfl rfl (by decide) (by decide) (by decide) 0 (ci := 0) rfl rfl rfl rfl rfl hl.1 (Nat.le_of_ble_eq_true rfl) dX3_begin_21 ⟨Nat.le_of_ble_eq_true rfl, Nat.le_of_ble_eq_true rfl⟩ (fun u_2 H locs hr_2 hP hD hS => ?_)
    have hP : va_P G.1 vwCl (ow G o t r h g b T U (nx + 1) (min (ln + 1) 6) (hd (va_up ad (nx % 6) (some u_2)) 0 6) (hd ad 6 2) ps pl ++ pool G (va_up ad (nx % 6) (some u_2)) (va_up S (nx % 6) T)) H := hP.part (cx := ow G o t r h g b T U (nx + 1) (min (ln + 1) 6) (hd (va_up ad (nx % 6) (some u_2)) 0 6) (hd ad 6 2) ps pl) [0, 17, 18, 19, 20, 21, 22, 23, 24, 25, 26, 27, 1, 2, 3, 4, 5, 6, 7, 8, 9, 10, 11, 15, 16, 12, 13, 14] rfl
    have hD : va_D A (ow G o t r h g b T U (nx + 1) (min (ln + 1) 6) (hd (va_up ad (nx % 6) (some u_2)) 0 6) (hd ad 6 2) ps pl ++ pool G (va_up ad (nx % 6) (some u_2)) (va_up S (nx % 6) T)) := hD.part (cx := ow G o t r h g b T U (nx + 1) (min (ln + 1) 6) (hd (va_up ad (nx % 6) (some u_2)) 0 6) (hd ad 6 2) ps pl) [0, 17, 18, 19, 20, 21, 22, 23, 24, 25, 26, 27, 1, 2, 3, 4, 5, 6, 7, 8, 9, 10, 11, 15, 16, 12, 13, 14] (by decide) rfl
    have ho9 : hd ad 6 2 = hd (va_up ad (nx % 6) (some u_2)) 6 2 := (hd_off (Or.inl (by omega))).symm
    rw [ho9] at hP hD
    have hP : va_P G.1 vwCl (ow G o t r h g b T U (nx + 1) (min (ln + 1) 6) (hd (va_up ad (nx % 6) (some u_2)) 0 6) (hd (va_up ad (nx % 6) (some u_2)) 6 2) ps pl ++ pool G (va_up ad (nx % 6) (some u_2)) (va_up S (nx % 6) T)) H := hP
    have hD : va_D A (ow G o t r h g b T U (nx + 1) (min (ln + 1) 6) (hd (va_up ad (nx % 6) (some u_2)) 0 6) (hd (va_up ad (nx % 6) (some u_2)) 6 2) ps pl ++ pool G (va_up ad (nx % 6) (some u_2)) (va_up S (nx % 6) T)) := hD
    refine lv_aload_n hx hb dX3_begin_24 rfl (lv_at hl 0 rfl) ?_
    refine va_get (D := G.1) (ci := 3) (v := .ref (t 0)) (C := RX3) (T := TX3) (N := 5) hx hb hts hinX3 hown hK.1 hP 0 rfl rfl 0 (by decide) wk1 (fun _ h9 => h9) rfl dX3_begin_25 ?_
    refine cQI (wr := [(o, .inr (3, [.ref (t 0), .ref (r 0), .ref (h 0), .ref g, .ref (b 0)]))] ++ tw G r U ++ hw G h (nx + 1) (min (ln + 1) 6) (hd (va_up ad (nx % 6) (some u_2)) 0 6) ++ [(g, .inl (gR G, 2, .inr (.inr (.inr (.inr (hd (va_up ad (nx % 6) (some u_2)) 6 2))))))] ++ pw G b ps (nI pl)) (wc := tw G t T) (As := []) (rest := []) ⟨hx, hb, hml, hown, hts⟩ (c_X2_start l G t T _) (cwV 0 hts gX3_begin_X2_start rfl rfl rfl (by decide +kernel) ⟨Nat.le_of_ble_eq_true rfl, Nat.le_of_ble_eq_true rfl⟩) hK hP hD hS hA [1, 2, 3, 4, 5, 6, 7, 8, 9, 10, 11] [0, 12, 13, 14, 15, 16, 17, 18, 19, 20, 21, 22, 23, 24, 25, 26, 27] rfl rfl (by decide) (by decide) (by decide) 0 (ci := 2) rfl rfl rfl rfl rfl hl.1 (Nat.le_of_ble_eq_true rfl) dX3_begin_28 ⟨Nat.le_of_ble_eq_true rfl, Nat.le_of_ble_eq_true rfl⟩ (fun r_3 u_3 H locs hr_3 hP hD hS => ?_)
    have hP : va_P G.1 vwCl (ow G o t r h g b (staT T) U (nx + 1) (min (ln + 1) 6) (hd (va_up ad (nx % 6) (some u_2)) 0 6) (hd (va_up ad (nx % 6) (some u_2)) 6 2) ps pl ++ pool G (va_up ad (nx % 6) (some u_2)) (va_up S (nx % 6) T)) H := hP.part (cx := ow G o t r h g b (staT T) U (nx + 1) (min (ln + 1) 6) (hd (va_up ad (nx % 6) (some u_2)) 0 6) (hd (va_up ad (nx % 6) (some u_2)) 6 2) ps pl) [0, 17, 18, 19, 20, 21, 22, 23, 24, 25, 26, 27, 1, 2, 3, 4, 5, 6, 7, 8, 9, 10, 11, 12, 13, 14, 15, 16] rfl
    have hD : va_D A (ow G o t r h g b (staT T) U (nx + 1) (min (ln + 1) 6) (hd (va_up ad (nx % 6) (some u_2)) 0 6) (hd (va_up ad (nx % 6) (some u_2)) 6 2) ps pl ++ pool G (va_up ad (nx % 6) (some u_2)) (va_up S (nx % 6) T)) := hD.part (cx := ow G o t r h g b (staT T) U (nx + 1) (min (ln + 1) 6) (hd (va_up ad (nx % 6) (some u_2)) 0 6) (hd (va_up ad (nx % 6) (some u_2)) 6 2) ps pl) [0, 17, 18, 19, 20, 21, 22, 23, 24, 25, 26, 27, 1, 2, 3, 4, 5, 6, 7, 8, 9, 10, 11, 12, 13, 14, 15, 16] (by decide) rfl
    have hr_3 : r_3 = staT T 10 1 := hr_3
    subst hr_3
    exact hret _ _ _ _ _ (staT T, U, nx + 1, min (ln + 1) 6, va_up ad (nx % 6) (some u_2), va_up S (nx % 6) T, ps, pl) ⟨by simp only [if_true, if_false, lz_o, lz_1, lz_2, lz_5, lz_3, lz_4, kpC, if_pos c_7_1], u_2, by simp only [if_true, if_false, lz_o, lz_1, lz_2, lz_5, lz_3, lz_4, kpC, if_pos c_7_1]⟩ hP hD hS dX3_begin_31
  · refine lv_ldc (v := (-100005)) hx hb hown wk3 dX3_begin_10 ?_
    refine W.widen (k := 11) (n := 62) (by decide) (by decide) ?_
    exact hret _ _ _ _ _ (T, U, nx, ln, ad, S, ps, pl) ⟨by simp only [if_true, if_false, lz_o, lz_1, lz_2, lz_5, lz_3, lz_4, kpC, if_neg c_7_1], (fun _ => 0), by simp only [if_true, if_false, lz_o, lz_1, lz_2, lz_5, lz_3, lz_4, kpC, if_neg c_7_1]⟩ hP hD hS dX3_begin_12
set_option maxHeartbeats 4000000 in
set_option maxRecDepth 100000 in
theorem c_X3_bid (l : Launch) (G : qG) (o : Nat) (t r h : Nat → Nat) (g : Nat) (b : Nat → Nat) (T U : Tb) (hT : is01 (T 10 0)) (nx ln : Nat) (hnx : nx < 100000) (hln : ln ≤ 6) (ad : Ad) (S : Nat → Tb) (ps : Nat → Int32) (hps : chs ps) (pl : Nat) (hpl : pl ≤ 60) (v : Int32) (sz : Nat) : Met l yX3_bid wsX3_bid { frames := 3, cells := 11, slots := 62, locals := 67 } (PW G sz [.ref o, .int v] (ow G o t r h g b T U nx ln (hd ad 0 6) (hd ad 6 2) ps pl ++ pool G ad S)) (QI (S := CS) G sz (ow G o t r h g b T U nx ln (hd ad 0 6) (hd ad 6 2) ps pl ++ pool G ad S) (fun r₀ c₀ => r₀ = (if bdC T v = 0 then takT T v 10 1 else bdC T v) ∧ ∃ u : Nat → Nat, c₀ = (if bdC T v = 0 then kpC T U nx ln ad S ps pl u (takT T v) else (T, U, nx, ln, ad, S, ps, pl))) (fun c₀ => ows G o t r h g b c₀)) 11 62 (va_A (ow G o t r h g b T U nx ln (hd ad 0 6) (hd ad 6 2) ps pl ++ pool G ad S) sz) := by
  refine MI.of' (by decide) rfl (Nat.le_of_ble_eq_true rfl) ?_
  intro p e s m below meth c hx hb hml hown hts hK hsz hP A hAe hA hD hS Q hret ls hl
  have hown : s.vm.findClass RX3 = some m.cls := hown
  have hl : lv_has ls 2 [(0, .ref o), (1, .int v)] := hl
  have wk1 := hts (Cond.constant RX3 37 (-100002)) (List.mem_of_getElem? (i := 1) rfl)
  have wk2 := hts (Cond.fieldLink RX3 10 "TurnBids" "table" "LTurnBids$Table;") (List.mem_of_getElem? (i := 2) rfl)
  have wk3 := hts (Cond.constant RX3 61 (-100005)) (List.mem_of_getElem? (i := 3) rfl)
  have wk4 := hts (Cond.fieldLink RX3 22 "TurnBids" "history" "LTurnBids$History;") (List.mem_of_getElem? (i := 4) rfl)
  have wk5 := hts (Cond.methodLink RX3 82 yX2_mayBid) (List.mem_of_getElem? (i := 5) rfl)
  have wk27 := hts (Cond.methodLink RX3 45 yX0_keep) (List.mem_of_getElem? (i := 27) rfl)
  have wk67 := hts (Cond.methodLink RX3 85 yX2_takeBid) (List.mem_of_getElem? (i := 67) rfl)
  have hinX3 : ∀ w ∈ wsX30, w ∈ wsX3_bid := fun _ h => (List.mem_cons_of_mem _ (List.mem_append_left _ (List.mem_append_left _ (List.mem_append_right _ h))))
  refine lv_iload_n hx hb dX3_bid_0 rfl (lv_at hl 1 rfl) ?_
  refine lv_if_lt (tgt := 11) hx hb dX3_bid_1 (by decide) (fun c_1_1 => ?_) (fun c_1_1 => ?_)
  · refine lv_ldc (v := (-100002)) hx hb hown wk1 dX3_bid_11 ?_
    refine W.widen (k := 11) (n := 62) (by decide) (by decide) ?_
    exact hret _ _ _ _ _ (T, U, nx, ln, ad, S, ps, pl) ⟨by simp only [if_true, if_false, lz_o, lz_1, lz_2, lz_5, lz_3, lz_4, bdC, kpC, if_pos c_1_1], (fun _ => 0), by simp only [if_true, if_false, lz_o, lz_1, lz_2, lz_5, lz_3, lz_4, bdC, kpC, if_pos c_1_1]⟩ hP hD hS dX3_bid_13
  · refine lv_iload_n hx hb dX3_bid_4 rfl (lv_at hl 1 rfl) ?_
    refine lv_sipush (v := 9999) hx hb dX3_bid_5 (by decide) ?_
    refine lv_icmp_le (tgt := 14) hx hb dX3_bid_8 (by decide) (fun c_8_2 => ?_) (fun c_8_2 => ?_)
    · refine lv_aload_n hx hb dX3_bid_14 rfl (lv_at hl 0 rfl) ?_
      refine va_get (D := G.1) (ci := 3) (v := .ref (t 0)) (C := RX3) (T := TX3) (N := 5) hx hb hts hinX3 hown hK.1 hP 0 rfl rfl 0 (by decide) wk2 (fun _ h9 => h9) rfl dX3_bid_15 ?_
      refine lv_iload_n hx hb dX3_bid_18 rfl (lv_at hl 1 rfl) ?_
      refine cPV (As := [.int v]) (rest := []) ⟨hx, hb, hml, hown, hts⟩ (c_X2_mayBid l G t T v) (cwV 1 hts gX3_bid_X2_mayBid rfl rfl rfl (by decide +kernel) ⟨Nat.le_of_ble_eq_true rfl, Nat.le_of_ble_eq_true rfl⟩) hK (hP.sub (ws' := tw G t T) [1, 2, 3, 4, 5, 6, 7, 8, 9, 10, 11] rfl) 0 (ci := 2) rfl rfl rfl rfl rfl hl.1 (Nat.le_of_ble_eq_true rfl) dX3_bid_19 ⟨Nat.le_of_ble_eq_true rfl, Nat.le_of_ble_eq_true rfl⟩ ?_
      refine lv_if_ne (tgt := 28) hx hb dX3_bid_22 (by decide) (fun c_22_3 => ?_) (fun c_22_3 => ?_)
      · refine lv_aload_n hx hb dX3_bid_28 rfl (lv_at hl 0 rfl) ?_
        refine va_get (D := G.1) (ci := 3) (v := .ref (h 0)) (C := RX3) (T := TX3) (N := 5) hx hb hts hinX3 hown hK.1 hP 0 rfl rfl 2 (by decide) wk4 (fun _ h9 => h9) rfl dX3_bid_29 ?_
        refine lv_aload_n hx hb dX3_bid_32 rfl (lv_at hl 0 rfl) ?_
        refine va_get (D := G.1) (ci := 3) (v := .ref (t 0)) (C := RX3) (T := TX3) (N := 5) hx hb hts hinX3 hown hK.1 hP 0 rfl rfl 0 (by decide) wk2 (fun _ h9 => h9) rfl dX3_bid_33 ?_
        refine cPoolV (wr := [(o, .inr (3, [.ref (t 0), .ref (r 0), .ref (h 0), .ref g, .ref (b 0)]))] ++ tw G r U ++ [(g, .inl (gR G, 2, .inr (.inr (.inr (.inr (hd ad 6 2))))))] ++ pw G b ps (nI pl)) (wc := hw G h nx ln (hd ad 0 6) ++ tw G t T) (As := [.ref (t 0)]) (rest := []) ⟨hx, hb, hml, hown, hts⟩ (c_X0_keep l G h t T hT nx ln hnx hln ad S _) (cwV 1 hts gX3_bid_X0_keep rfl rfl rfl (by decide +kernel) ⟨Nat.le_of_ble_eq_true rfl, Nat.le_of_ble_eq_true rfl⟩) hK hP hD hS hA [23, 24, 1, 2, 3, 4, 5, 6, 7, 8, 9, 10, 11] [0, 12, 13, 14, 15, 16, 17, 18, 19, 20, 21, 22, 25, 26, 27] rfl rfl (by decide) (by decide) (by decide) 0 (ci := 0) rfl rfl rfl rfl rfl hl.1 (Nat.le_of_ble_eq_true rfl) dX3_bid_36 ⟨Nat.le_of_ble_eq_true rfl, Nat.le_of_ble_eq_true rfl⟩ (fun u_4 H locs hr_4 hP hD hS => ?_)
        have hP : va_P G.1 vwCl (ow G o t r h g b T U (nx + 1) (min (ln + 1) 6) (hd (va_up ad (nx % 6) (some u_4)) 0 6) (hd ad 6 2) ps pl ++ pool G (va_up ad (nx % 6) (some u_4)) (va_up S (nx % 6) T)) H := hP.part (cx := ow G o t r h g b T U (nx + 1) (min (ln + 1) 6) (hd (va_up ad (nx % 6) (some u_4)) 0 6) (hd ad 6 2) ps pl) [0, 17, 18, 19, 20, 21, 22, 23, 24, 25, 26, 27, 1, 2, 3, 4, 5, 6, 7, 8, 9, 10, 11, 15, 16, 12, 13, 14] rfl
        have hD : va_D A (ow G o t r h g b T U (nx + 1) (min (ln + 1) 6) (hd (va_up ad (nx % 6) (some u_4)) 0 6) (hd ad 6 2) ps pl ++ pool G (va_up ad (nx % 6) (some u_4)) (va_up S (nx % 6) T)) := hD.part (cx := ow G o t r h g b T U (nx + 1) (min (ln + 1) 6) (hd (va_up ad (nx % 6) (some u_4)) 0 6) (hd ad 6 2) ps pl) [0, 17, 18, 19, 20, 21, 22, 23, 24, 25, 26, 27, 1, 2, 3, 4, 5, 6, 7, 8, 9, 10, 11, 15, 16, 12, 13, 14] (by decide) rfl
        have ho9 : hd ad 6 2 = hd (va_up ad (nx % 6) (some u_4)) 6 2 := (hd_off (Or.inl (by omega))).symm
        rw [ho9] at hP hD
        have hP : va_P G.1 vwCl (ow G o t r h g b T U (nx + 1) (min (ln + 1) 6) (hd (va_up ad (nx % 6) (some u_4)) 0 6) (hd (va_up ad (nx % 6) (some u_4)) 6 2) ps pl ++ pool G (va_up ad (nx % 6) (some u_4)) (va_up S (nx % 6) T)) H := hP
        have hD : va_D A (ow G o t r h g b T U (nx + 1) (min (ln + 1) 6) (hd (va_up ad (nx % 6) (some u_4)) 0 6) (hd (va_up ad (nx % 6) (some u_4)) 6 2) ps pl ++ pool G (va_up ad (nx % 6) (some u_4)) (va_up S (nx % 6) T)) := hD
        refine lv_aload_n hx hb dX3_bid_39 rfl (lv_at hl 0 rfl) ?_
        refine va_get (D := G.1) (ci := 3) (v := .ref (t 0)) (C := RX3) (T := TX3) (N := 5) hx hb hts hinX3 hown hK.1 hP 0 rfl rfl 0 (by decide) wk2 (fun _ h9 => h9) rfl dX3_bid_40 ?_
        refine lv_iload_n hx hb dX3_bid_43 rfl (lv_at hl 1 rfl) ?_
        refine cQI (wr := [(o, .inr (3, [.ref (t 0), .ref (r 0), .ref (h 0), .ref g, .ref (b 0)]))] ++ tw G r U ++ hw G h (nx + 1) (min (ln + 1) 6) (hd (va_up ad (nx % 6) (some u_4)) 0 6) ++ [(g, .inl (gR G, 2, .inr (.inr (.inr (.inr (hd (va_up ad (nx % 6) (some u_4)) 6 2))))))] ++ pw G b ps (nI pl)) (wc := tw G t T) (As := [.int v]) (rest := []) ⟨hx, hb, hml, hown, hts⟩ (c_X2_takeBid l G t T v _) (cwV 1 hts gX3_bid_X2_takeBid rfl rfl rfl (by decide +kernel) ⟨Nat.le_of_ble_eq_true rfl, Nat.le_of_ble_eq_true rfl⟩) hK hP hD hS hA [1, 2, 3, 4, 5, 6, 7, 8, 9, 10, 11] [0, 12, 13, 14, 15, 16, 17, 18, 19, 20, 21, 22, 23, 24, 25, 26, 27] rfl rfl (by decide) (by decide) (by decide) 0 (ci := 2) rfl rfl rfl rfl rfl hl.1 (Nat.le_of_ble_eq_true rfl) dX3_bid_44 ⟨Nat.le_of_ble_eq_true rfl, Nat.le_of_ble_eq_true rfl⟩ (fun r_5 u_5 H locs hr_5 hP hD hS => ?_)
        have hP : va_P G.1 vwCl (ow G o t r h g b (takT T v) U (nx + 1) (min (ln + 1) 6) (hd (va_up ad (nx % 6) (some u_4)) 0 6) (hd (va_up ad (nx % 6) (some u_4)) 6 2) ps pl ++ pool G (va_up ad (nx % 6) (some u_4)) (va_up S (nx % 6) T)) H := hP.part (cx := ow G o t r h g b (takT T v) U (nx + 1) (min (ln + 1) 6) (hd (va_up ad (nx % 6) (some u_4)) 0 6) (hd (va_up ad (nx % 6) (some u_4)) 6 2) ps pl) [0, 17, 18, 19, 20, 21, 22, 23, 24, 25, 26, 27, 1, 2, 3, 4, 5, 6, 7, 8, 9, 10, 11, 12, 13, 14, 15, 16] rfl
        have hD : va_D A (ow G o t r h g b (takT T v) U (nx + 1) (min (ln + 1) 6) (hd (va_up ad (nx % 6) (some u_4)) 0 6) (hd (va_up ad (nx % 6) (some u_4)) 6 2) ps pl ++ pool G (va_up ad (nx % 6) (some u_4)) (va_up S (nx % 6) T)) := hD.part (cx := ow G o t r h g b (takT T v) U (nx + 1) (min (ln + 1) 6) (hd (va_up ad (nx % 6) (some u_4)) 0 6) (hd (va_up ad (nx % 6) (some u_4)) 6 2) ps pl) [0, 17, 18, 19, 20, 21, 22, 23, 24, 25, 26, 27, 1, 2, 3, 4, 5, 6, 7, 8, 9, 10, 11, 12, 13, 14, 15, 16] (by decide) rfl
        have hr_5 : r_5 = takT T v 10 1 := hr_5
        subst hr_5
        exact hret _ _ _ _ _ (takT T v, U, nx + 1, min (ln + 1) 6, va_up ad (nx % 6) (some u_4), va_up S (nx % 6) T, ps, pl) ⟨by simp only [if_true, if_false, lz_o, lz_1, lz_2, lz_5, lz_3, lz_4, bdC, kpC, if_neg c_1_1, if_pos c_8_2, if_neg c_22_3], u_4, by simp only [if_true, if_false, lz_o, lz_1, lz_2, lz_5, lz_3, lz_4, bdC, kpC, if_neg c_1_1, if_pos c_8_2, if_neg c_22_3]⟩ hP hD hS dX3_bid_47
      · refine lv_ldc (v := (-100005)) hx hb hown wk3 dX3_bid_25 ?_
        refine W.widen (k := 11) (n := 62) (by decide) (by decide) ?_
        exact hret _ _ _ _ _ (T, U, nx, ln, ad, S, ps, pl) ⟨by simp only [if_true, if_false, lz_o, lz_1, lz_2, lz_5, lz_3, lz_4, bdC, kpC, if_neg c_1_1, if_pos c_8_2, if_pos c_22_3], (fun _ => 0), by simp only [if_true, if_false, lz_o, lz_1, lz_2, lz_5, lz_3, lz_4, bdC, kpC, if_neg c_1_1, if_pos c_8_2, if_pos c_22_3]⟩ hP hD hS dX3_bid_27
    · refine lv_ldc (v := (-100002)) hx hb hown wk1 dX3_bid_11 ?_
      refine W.widen (k := 11) (n := 62) (by decide) (by decide) ?_
      exact hret _ _ _ _ _ (T, U, nx, ln, ad, S, ps, pl) ⟨by simp only [if_true, if_false, lz_o, lz_1, lz_2, lz_5, lz_3, lz_4, bdC, kpC, if_neg c_1_1, if_neg c_8_2], (fun _ => 0), by simp only [if_true, if_false, lz_o, lz_1, lz_2, lz_5, lz_3, lz_4, bdC, kpC, if_neg c_1_1, if_neg c_8_2]⟩ hP hD hS dX3_bid_13
set_option maxHeartbeats 4000000 in
set_option maxRecDepth 100000 in
theorem c_X3_drop (l : Launch) (G : qG) (o : Nat) (t r h : Nat → Nat) (g : Nat) (b : Nat → Nat) (T U : Tb) (hT : is01 (T 10 0)) (nx ln : Nat) (hnx : nx < 100000) (hln : ln ≤ 6) (ad : Ad) (S : Nat → Tb) (ps : Nat → Int32) (hps : chs ps) (pl : Nat) (hpl : pl ≤ 60)  (sz : Nat) : Met l yX3_drop wsX3_drop { frames := 4, cells := 11, slots := 62, locals := 87 } (PW G sz [.ref o] (ow G o t r h g b T U nx ln (hd ad 0 6) (hd ad 6 2) ps pl ++ pool G ad S)) (QI (S := CS) G sz (ow G o t r h g b T U nx ln (hd ad 0 6) (hd ad 6 2) ps pl ++ pool G ad S) (fun r₀ c₀ => r₀ = (if T 10 0 = 0 then (-100005) else drV T) ∧ ∃ u : Nat → Nat, c₀ = (if T 10 0 = 0 then (T, U, nx, ln, ad, S, ps, pl) else kpC T U nx ln ad S ps pl u (drT T))) (fun c₀ => ows G o t r h g b c₀)) 11 62 (va_A (ow G o t r h g b T U nx ln (hd ad 0 6) (hd ad 6 2) ps pl ++ pool G ad S) sz) := by
  refine MI.of' (by decide) rfl (Nat.le_of_ble_eq_true rfl) ?_
  intro p e s m below meth c hx hb hml hown hts hK hsz hP A hAe hA hD hS Q hret ls hl
  have hown : s.vm.findClass RX3 = some m.cls := hown
  have hl : lv_has ls 1 [(0, .ref o)] := hl
  have wk1 := hts (Cond.fieldLink RX3 10 "TurnBids" "table" "LTurnBids$Table;") (List.mem_of_getElem? (i := 1) rfl)
  have wk2 := hts (Cond.fieldLink RX3 74 "TurnBids$Table" "underWay" "Z") (List.mem_of_getElem? (i := 2) rfl)
  have wk3 := hts (Cond.constant RX3 61 (-100005)) (List.mem_of_getElem? (i := 3) rfl)
  have wk4 := hts (Cond.fieldLink RX3 22 "TurnBids" "history" "LTurnBids$History;") (List.mem_of_getElem? (i := 4) rfl)
  have wk5 := hts (Cond.methodLink RX3 45 yX0_keep) (List.mem_of_getElem? (i := 5) rfl)
  have wk52 := hts (Cond.methodLink RX3 88 yX2_dropOut) (List.mem_of_getElem? (i := 52) rfl)
  have hinX3 : ∀ w ∈ wsX30, w ∈ wsX3_drop := fun _ h => (List.mem_cons_of_mem _ (List.mem_append_left _ (List.mem_append_left _ (List.mem_append_right _ h))))
  have hinX2 : ∀ w ∈ wsX20, w ∈ wsX3_drop := fun _ h => (List.mem_cons_of_mem _ (List.mem_append_left _ (List.mem_append_right _ h)))
  refine lv_aload_n hx hb dX3_drop_0 rfl (lv_at hl 0 rfl) ?_
  refine va_get (D := G.1) (ci := 3) (v := .ref (t 0)) (C := RX3) (T := TX3) (N := 5) hx hb hts hinX3 hown hK.1 hP 0 rfl rfl 0 (by decide) wk1 (fun _ h9 => h9) rfl dX3_drop_1 ?_
  refine va_get (D := G.1) (ci := 2) (v := .int (T 10 0)) (C := RX2) (T := TX2) (N := 13) hx hb hts hinX2 hown hK.1 hP 1 rfl rfl 10 (by decide) wk2 (fun _ h9 => h9) rfl dX3_drop_4 ?_
  refine lv_if_ne (tgt := 13) hx hb dX3_drop_7 (by decide) (fun c_7_1 => ?_) (fun c_7_1 => ?_)
  · refine lv_aload_n hx hb dX3_drop_13 rfl (lv_at hl 0 rfl) ?_
    refine va_get (D := G.1) (ci := 3) (v := .ref (h 0)) (C := RX3) (T := TX3) (N := 5) hx hb hts hinX3 hown hK.1 hP 0 rfl rfl 2 (by decide) wk4 (fun _ h9 => h9) rfl dX3_drop_14 ?_
    refine lv_aload_n hx hb dX3_drop_17 rfl (lv_at hl 0 rfl) ?_
    refine va_get (D := G.1) (ci := 3) (v := .ref (t 0)) (C := RX3) (T := TX3) (N := 5) hx hb hts hinX3 hown hK.1 hP 0 rfl rfl 0 (by decide) wk1 (fun _ h9 => h9) rfl dX3_drop_18 ?_
    refine cPoolV (wr := [(o, .inr (3, [.ref (t 0), .ref (r 0), .ref (h 0), .ref g, .ref (b 0)]))] ++ tw G r U ++ [(g, .inl (gR G, 2, .inr (.inr (.inr (.inr (hd ad 6 2))))))] ++ pw G b ps (nI pl)) (wc := hw G h nx ln (hd ad 0 6) ++ tw G t T) (As := [.ref (t 0)]) (rest := []) ⟨hx, hb, hml, hown, hts⟩ (c_X0_keep l G h t T hT nx ln hnx hln ad S _) (cwV 1 hts gX3_drop_X0_keep rfl rfl rfl (by decide +kernel) ⟨Nat.le_of_ble_eq_true rfl, Nat.le_of_ble_eq_true rfl⟩) hK hP hD hS hA [23, 24, 1, 2, 3, 4, 5, 6, 7, 8, 9, 10, 11] [0, 12, 13, 14, 15, 16, 17, 18, 19, 20, 21, 22, 25, 26, 27] rfl rfl (by decide) (by decide) (by decide) 0 (ci := 0) rfl rfl rfl rfl rfl hl.1 (Nat.le_of_ble_eq_true rfl) dX3_drop_21 ⟨Nat.le_of_ble_eq_true rfl, Nat.le_of_ble_eq_true rfl⟩ (fun u_2 H locs hr_2 hP hD hS => ?_)
    have hP : va_P G.1 vwCl (ow G o t r h g b T U (nx + 1) (min (ln + 1) 6) (hd (va_up ad (nx % 6) (some u_2)) 0 6) (hd ad 6 2) ps pl ++ pool G (va_up ad (nx % 6) (some u_2)) (va_up S (nx % 6) T)) H := hP.part (cx := ow G o t r h g b T U (nx + 1) (min (ln + 1) 6) (hd (va_up ad (nx % 6) (some u_2)) 0 6) (hd ad 6 2) ps pl) [0, 17, 18, 19, 20, 21, 22, 23, 24, 25, 26, 27, 1, 2, 3, 4, 5, 6, 7, 8, 9, 10, 11, 15, 16, 12, 13, 14] rfl
    have hD : va_D A (ow G o t r h g b T U (nx + 1) (min (ln + 1) 6) (hd (va_up ad (nx % 6) (some u_2)) 0 6) (hd ad 6 2) ps pl ++ pool G (va_up ad (nx % 6) (some u_2)) (va_up S (nx % 6) T)) := hD.part (cx := ow G o t r h g b T U (nx + 1) (min (ln + 1) 6) (hd (va_up ad (nx % 6) (some u_2)) 0 6) (hd ad 6 2) ps pl) [0, 17, 18, 19, 20, 21, 22, 23, 24, 25, 26, 27, 1, 2, 3, 4, 5, 6, 7, 8, 9, 10, 11, 15, 16, 12, 13, 14] (by decide) rfl
    have ho9 : hd ad 6 2 = hd (va_up ad (nx % 6) (some u_2)) 6 2 := (hd_off (Or.inl (by omega))).symm
    rw [ho9] at hP hD
    have hP : va_P G.1 vwCl (ow G o t r h g b T U (nx + 1) (min (ln + 1) 6) (hd (va_up ad (nx % 6) (some u_2)) 0 6) (hd (va_up ad (nx % 6) (some u_2)) 6 2) ps pl ++ pool G (va_up ad (nx % 6) (some u_2)) (va_up S (nx % 6) T)) H := hP
    have hD : va_D A (ow G o t r h g b T U (nx + 1) (min (ln + 1) 6) (hd (va_up ad (nx % 6) (some u_2)) 0 6) (hd (va_up ad (nx % 6) (some u_2)) 6 2) ps pl ++ pool G (va_up ad (nx % 6) (some u_2)) (va_up S (nx % 6) T)) := hD
    refine lv_aload_n hx hb dX3_drop_24 rfl (lv_at hl 0 rfl) ?_
    refine va_get (D := G.1) (ci := 3) (v := .ref (t 0)) (C := RX3) (T := TX3) (N := 5) hx hb hts hinX3 hown hK.1 hP 0 rfl rfl 0 (by decide) wk1 (fun _ h9 => h9) rfl dX3_drop_25 ?_
    refine cQI (wr := [(o, .inr (3, [.ref (t 0), .ref (r 0), .ref (h 0), .ref g, .ref (b 0)]))] ++ tw G r U ++ hw G h (nx + 1) (min (ln + 1) 6) (hd (va_up ad (nx % 6) (some u_2)) 0 6) ++ [(g, .inl (gR G, 2, .inr (.inr (.inr (.inr (hd (va_up ad (nx % 6) (some u_2)) 6 2))))))] ++ pw G b ps (nI pl)) (wc := tw G t T) (As := []) (rest := []) ⟨hx, hb, hml, hown, hts⟩ (c_X2_dropOut l G t T _) (cwV 0 hts gX3_drop_X2_dropOut rfl rfl rfl (by decide +kernel) ⟨Nat.le_of_ble_eq_true rfl, Nat.le_of_ble_eq_true rfl⟩) hK hP hD hS hA [1, 2, 3, 4, 5, 6, 7, 8, 9, 10, 11] [0, 12, 13, 14, 15, 16, 17, 18, 19, 20, 21, 22, 23, 24, 25, 26, 27] rfl rfl (by decide) (by decide) (by decide) 0 (ci := 2) rfl rfl rfl rfl rfl hl.1 (Nat.le_of_ble_eq_true rfl) dX3_drop_28 ⟨Nat.le_of_ble_eq_true rfl, Nat.le_of_ble_eq_true rfl⟩ (fun r_3 u_3 H locs hr_3 hP hD hS => ?_)
    have hP : va_P G.1 vwCl (ow G o t r h g b (drT T) U (nx + 1) (min (ln + 1) 6) (hd (va_up ad (nx % 6) (some u_2)) 0 6) (hd (va_up ad (nx % 6) (some u_2)) 6 2) ps pl ++ pool G (va_up ad (nx % 6) (some u_2)) (va_up S (nx % 6) T)) H := hP.part (cx := ow G o t r h g b (drT T) U (nx + 1) (min (ln + 1) 6) (hd (va_up ad (nx % 6) (some u_2)) 0 6) (hd (va_up ad (nx % 6) (some u_2)) 6 2) ps pl) [0, 17, 18, 19, 20, 21, 22, 23, 24, 25, 26, 27, 1, 2, 3, 4, 5, 6, 7, 8, 9, 10, 11, 12, 13, 14, 15, 16] rfl
    have hD : va_D A (ow G o t r h g b (drT T) U (nx + 1) (min (ln + 1) 6) (hd (va_up ad (nx % 6) (some u_2)) 0 6) (hd (va_up ad (nx % 6) (some u_2)) 6 2) ps pl ++ pool G (va_up ad (nx % 6) (some u_2)) (va_up S (nx % 6) T)) := hD.part (cx := ow G o t r h g b (drT T) U (nx + 1) (min (ln + 1) 6) (hd (va_up ad (nx % 6) (some u_2)) 0 6) (hd (va_up ad (nx % 6) (some u_2)) 6 2) ps pl) [0, 17, 18, 19, 20, 21, 22, 23, 24, 25, 26, 27, 1, 2, 3, 4, 5, 6, 7, 8, 9, 10, 11, 12, 13, 14, 15, 16] (by decide) rfl
    have hr_3 : r_3 = drV T := hr_3
    subst hr_3
    exact hret _ _ _ _ _ (drT T, U, nx + 1, min (ln + 1) 6, va_up ad (nx % 6) (some u_2), va_up S (nx % 6) T, ps, pl) ⟨by simp only [if_true, if_false, lz_o, lz_1, lz_2, lz_5, lz_3, lz_4, kpC, if_neg c_7_1], u_2, by simp only [if_true, if_false, lz_o, lz_1, lz_2, lz_5, lz_3, lz_4, kpC, if_neg c_7_1]⟩ hP hD hS dX3_drop_31
  · refine lv_ldc (v := (-100005)) hx hb hown wk3 dX3_drop_10 ?_
    refine W.widen (k := 11) (n := 62) (by decide) (by decide) ?_
    exact hret _ _ _ _ _ (T, U, nx, ln, ad, S, ps, pl) ⟨by simp only [if_true, if_false, lz_o, lz_1, lz_2, lz_5, lz_3, lz_4, kpC, if_pos c_7_1], (fun _ => 0), by simp only [if_true, if_false, lz_o, lz_1, lz_2, lz_5, lz_3, lz_4, kpC, if_pos c_7_1]⟩ hP hD hS dX3_drop_12
set_option maxHeartbeats 4000000 in
set_option maxRecDepth 100000 in
theorem c_X3_act (l : Launch) (G : qG) (o : Nat) (t r h : Nat → Nat) (g : Nat) (b : Nat → Nat) (T U : Tb) (hT : is01 (T 10 0)) (nx ln : Nat) (hnx : nx < 100000) (hln : ln ≤ 6) (ad : Ad) (S : Nat → Tb) (ps : Nat → Int32) (hps : chs ps) (pl : Nat) (hpl : pl ≤ 60)  (sz : Nat) : Met l yX3_act wsX3_act { frames := 5, cells := 11, slots := 62, locals := 108 } (PW G sz [.ref o] (ow G o t r h g b T U nx ln (hd ad 0 6) (hd ad 6 2) ps pl ++ pool G ad S)) (QI (S := CS) G sz (ow G o t r h g b T U nx ln (hd ad 0 6) (hd ad 6 2) ps pl ++ pool G ad S) (fun r₀ c₀ => r₀ = (if T 10 0 = 0 then (-100005) else acV T) ∧ ∃ u : Nat → Nat, c₀ = (if T 10 0 = 0 then (T, U, nx, ln, ad, S, ps, pl) else kpC T U nx ln ad S ps pl u (acT T))) (fun c₀ => ows G o t r h g b c₀)) 11 62 (va_A (ow G o t r h g b T U nx ln (hd ad 0 6) (hd ad 6 2) ps pl ++ pool G ad S) sz) := by
  refine MI.of' (by decide) rfl (Nat.le_of_ble_eq_true rfl) ?_
  intro p e s m below meth c hx hb hml hown hts hK hsz hP A hAe hA hD hS Q hret ls hl
  have hown : s.vm.findClass RX3 = some m.cls := hown
  have hl : lv_has ls 1 [(0, .ref o)] := hl
  have wk1 := hts (Cond.fieldLink RX3 10 "TurnBids" "table" "LTurnBids$Table;") (List.mem_of_getElem? (i := 1) rfl)
  have wk2 := hts (Cond.fieldLink RX3 74 "TurnBids$Table" "underWay" "Z") (List.mem_of_getElem? (i := 2) rfl)
  have wk3 := hts (Cond.constant RX3 61 (-100005)) (List.mem_of_getElem? (i := 3) rfl)
  have wk4 := hts (Cond.fieldLink RX3 22 "TurnBids" "history" "LTurnBids$History;") (List.mem_of_getElem? (i := 4) rfl)
  have wk5 := hts (Cond.methodLink RX3 45 yX0_keep) (List.mem_of_getElem? (i := 5) rfl)
  have wk52 := hts (Cond.methodLink RX3 91 yX2_actByLimit) (List.mem_of_getElem? (i := 52) rfl)
  have hinX3 : ∀ w ∈ wsX30, w ∈ wsX3_act := fun _ h => (List.mem_cons_of_mem _ (List.mem_append_left _ (List.mem_append_left _ (List.mem_append_right _ h))))
  have hinX2 : ∀ w ∈ wsX20, w ∈ wsX3_act := fun _ h => (List.mem_cons_of_mem _ (List.mem_append_left _ (List.mem_append_right _ h)))
  refine lv_aload_n hx hb dX3_act_0 rfl (lv_at hl 0 rfl) ?_
  refine va_get (D := G.1) (ci := 3) (v := .ref (t 0)) (C := RX3) (T := TX3) (N := 5) hx hb hts hinX3 hown hK.1 hP 0 rfl rfl 0 (by decide) wk1 (fun _ h9 => h9) rfl dX3_act_1 ?_
  refine va_get (D := G.1) (ci := 2) (v := .int (T 10 0)) (C := RX2) (T := TX2) (N := 13) hx hb hts hinX2 hown hK.1 hP 1 rfl rfl 10 (by decide) wk2 (fun _ h9 => h9) rfl dX3_act_4 ?_
  refine lv_if_ne (tgt := 13) hx hb dX3_act_7 (by decide) (fun c_7_1 => ?_) (fun c_7_1 => ?_)
  · refine lv_aload_n hx hb dX3_act_13 rfl (lv_at hl 0 rfl) ?_
    refine va_get (D := G.1) (ci := 3) (v := .ref (h 0)) (C := RX3) (T := TX3) (N := 5) hx hb hts hinX3 hown hK.1 hP 0 rfl rfl 2 (by decide) wk4 (fun _ h9 => h9) rfl dX3_act_14 ?_
    refine lv_aload_n hx hb dX3_act_17 rfl (lv_at hl 0 rfl) ?_
    refine va_get (D := G.1) (ci := 3) (v := .ref (t 0)) (C := RX3) (T := TX3) (N := 5) hx hb hts hinX3 hown hK.1 hP 0 rfl rfl 0 (by decide) wk1 (fun _ h9 => h9) rfl dX3_act_18 ?_
    refine cPoolV (wr := [(o, .inr (3, [.ref (t 0), .ref (r 0), .ref (h 0), .ref g, .ref (b 0)]))] ++ tw G r U ++ [(g, .inl (gR G, 2, .inr (.inr (.inr (.inr (hd ad 6 2))))))] ++ pw G b ps (nI pl)) (wc := hw G h nx ln (hd ad 0 6) ++ tw G t T) (As := [.ref (t 0)]) (rest := []) ⟨hx, hb, hml, hown, hts⟩ (c_X0_keep l G h t T hT nx ln hnx hln ad S _) (cwV 1 hts gX3_act_X0_keep rfl rfl rfl (by decide +kernel) ⟨Nat.le_of_ble_eq_true rfl, Nat.le_of_ble_eq_true rfl⟩) hK hP hD hS hA [23, 24, 1, 2, 3, 4, 5, 6, 7, 8, 9, 10, 11] [0, 12, 13, 14, 15, 16, 17, 18, 19, 20, 21, 22, 25, 26, 27] rfl rfl (by decide) (by decide) (by decide) 0 (ci := 0) rfl rfl rfl rfl rfl hl.1 (Nat.le_of_ble_eq_true rfl) dX3_act_21 ⟨Nat.le_of_ble_eq_true rfl, Nat.le_of_ble_eq_true rfl⟩ (fun u_2 H locs hr_2 hP hD hS => ?_)
    have hP : va_P G.1 vwCl (ow G o t r h g b T U (nx + 1) (min (ln + 1) 6) (hd (va_up ad (nx % 6) (some u_2)) 0 6) (hd ad 6 2) ps pl ++ pool G (va_up ad (nx % 6) (some u_2)) (va_up S (nx % 6) T)) H := hP.part (cx := ow G o t r h g b T U (nx + 1) (min (ln + 1) 6) (hd (va_up ad (nx % 6) (some u_2)) 0 6) (hd ad 6 2) ps pl) [0, 17, 18, 19, 20, 21, 22, 23, 24, 25, 26, 27, 1, 2, 3, 4, 5, 6, 7, 8, 9, 10, 11, 15, 16, 12, 13, 14] rfl
    have hD : va_D A (ow G o t r h g b T U (nx + 1) (min (ln + 1) 6) (hd (va_up ad (nx % 6) (some u_2)) 0 6) (hd ad 6 2) ps pl ++ pool G (va_up ad (nx % 6) (some u_2)) (va_up S (nx % 6) T)) := hD.part (cx := ow G o t r h g b T U (nx + 1) (min (ln + 1) 6) (hd (va_up ad (nx % 6) (some u_2)) 0 6) (hd ad 6 2) ps pl) [0, 17, 18, 19, 20, 21, 22, 23, 24, 25, 26, 27, 1, 2, 3, 4, 5, 6, 7, 8, 9, 10, 11, 15, 16, 12, 13, 14] (by decide) rfl
    have ho9 : hd ad 6 2 = hd (va_up ad (nx % 6) (some u_2)) 6 2 := (hd_off (Or.inl (by omega))).symm
    rw [ho9] at hP hD
    have hP : va_P G.1 vwCl (ow G o t r h g b T U (nx + 1) (min (ln + 1) 6) (hd (va_up ad (nx % 6) (some u_2)) 0 6) (hd (va_up ad (nx % 6) (some u_2)) 6 2) ps pl ++ pool G (va_up ad (nx % 6) (some u_2)) (va_up S (nx % 6) T)) H := hP
    have hD : va_D A (ow G o t r h g b T U (nx + 1) (min (ln + 1) 6) (hd (va_up ad (nx % 6) (some u_2)) 0 6) (hd (va_up ad (nx % 6) (some u_2)) 6 2) ps pl ++ pool G (va_up ad (nx % 6) (some u_2)) (va_up S (nx % 6) T)) := hD
    refine lv_aload_n hx hb dX3_act_24 rfl (lv_at hl 0 rfl) ?_
    refine va_get (D := G.1) (ci := 3) (v := .ref (t 0)) (C := RX3) (T := TX3) (N := 5) hx hb hts hinX3 hown hK.1 hP 0 rfl rfl 0 (by decide) wk1 (fun _ h9 => h9) rfl dX3_act_25 ?_
    refine cQI (wr := [(o, .inr (3, [.ref (t 0), .ref (r 0), .ref (h 0), .ref g, .ref (b 0)]))] ++ tw G r U ++ hw G h (nx + 1) (min (ln + 1) 6) (hd (va_up ad (nx % 6) (some u_2)) 0 6) ++ [(g, .inl (gR G, 2, .inr (.inr (.inr (.inr (hd (va_up ad (nx % 6) (some u_2)) 6 2))))))] ++ pw G b ps (nI pl)) (wc := tw G t T) (As := []) (rest := []) ⟨hx, hb, hml, hown, hts⟩ (c_X2_actByLimit l G t T _) (cwV 0 hts gX3_act_X2_actByLimit rfl rfl rfl (by decide +kernel) ⟨Nat.le_of_ble_eq_true rfl, Nat.le_of_ble_eq_true rfl⟩) hK hP hD hS hA [1, 2, 3, 4, 5, 6, 7, 8, 9, 10, 11] [0, 12, 13, 14, 15, 16, 17, 18, 19, 20, 21, 22, 23, 24, 25, 26, 27] rfl rfl (by decide) (by decide) (by decide) 0 (ci := 2) rfl rfl rfl rfl rfl hl.1 (Nat.le_of_ble_eq_true rfl) dX3_act_28 ⟨Nat.le_of_ble_eq_true rfl, Nat.le_of_ble_eq_true rfl⟩ (fun r_3 u_3 H locs hr_3 hP hD hS => ?_)
    have hP : va_P G.1 vwCl (ow G o t r h g b (acT T) U (nx + 1) (min (ln + 1) 6) (hd (va_up ad (nx % 6) (some u_2)) 0 6) (hd (va_up ad (nx % 6) (some u_2)) 6 2) ps pl ++ pool G (va_up ad (nx % 6) (some u_2)) (va_up S (nx % 6) T)) H := hP.part (cx := ow G o t r h g b (acT T) U (nx + 1) (min (ln + 1) 6) (hd (va_up ad (nx % 6) (some u_2)) 0 6) (hd (va_up ad (nx % 6) (some u_2)) 6 2) ps pl) [0, 17, 18, 19, 20, 21, 22, 23, 24, 25, 26, 27, 1, 2, 3, 4, 5, 6, 7, 8, 9, 10, 11, 12, 13, 14, 15, 16] rfl
    have hD : va_D A (ow G o t r h g b (acT T) U (nx + 1) (min (ln + 1) 6) (hd (va_up ad (nx % 6) (some u_2)) 0 6) (hd (va_up ad (nx % 6) (some u_2)) 6 2) ps pl ++ pool G (va_up ad (nx % 6) (some u_2)) (va_up S (nx % 6) T)) := hD.part (cx := ow G o t r h g b (acT T) U (nx + 1) (min (ln + 1) 6) (hd (va_up ad (nx % 6) (some u_2)) 0 6) (hd (va_up ad (nx % 6) (some u_2)) 6 2) ps pl) [0, 17, 18, 19, 20, 21, 22, 23, 24, 25, 26, 27, 1, 2, 3, 4, 5, 6, 7, 8, 9, 10, 11, 12, 13, 14, 15, 16] (by decide) rfl
    have hr_3 : r_3 = acV T := hr_3
    subst hr_3
    exact hret _ _ _ _ _ (acT T, U, nx + 1, min (ln + 1) 6, va_up ad (nx % 6) (some u_2), va_up S (nx % 6) T, ps, pl) ⟨by simp only [if_true, if_false, lz_o, lz_1, lz_2, lz_5, lz_3, lz_4, kpC, if_neg c_7_1], u_2, by simp only [if_true, if_false, lz_o, lz_1, lz_2, lz_5, lz_3, lz_4, kpC, if_neg c_7_1]⟩ hP hD hS dX3_act_31
  · refine lv_ldc (v := (-100005)) hx hb hown wk3 dX3_act_10 ?_
    refine W.widen (k := 11) (n := 62) (by decide) (by decide) ?_
    exact hret _ _ _ _ _ (T, U, nx, ln, ad, S, ps, pl) ⟨by simp only [if_true, if_false, lz_o, lz_1, lz_2, lz_5, lz_3, lz_4, kpC, if_pos c_7_1], (fun _ => 0), by simp only [if_true, if_false, lz_o, lz_1, lz_2, lz_5, lz_3, lz_4, kpC, if_pos c_7_1]⟩ hP hD hS dX3_act_12
set_option maxHeartbeats 4000000 in
set_option maxRecDepth 100000 in
theorem c_X3_finish (l : Launch) (G : qG) (o : Nat) (t r h : Nat → Nat) (g : Nat) (b : Nat → Nat) (T U : Tb) (hT : is01 (T 10 0)) (nx ln : Nat) (hnx : nx < 100000) (hln : ln ≤ 6) (ad : Ad) (S : Nat → Tb) (ps : Nat → Int32) (hps : chs ps) (pl : Nat) (hpl : pl ≤ 60)  (sz : Nat) : Met l yX3_finish wsX3_finish { frames := 6, cells := 11, slots := 62, locals := 129 } (PW G sz [.ref o] (ow G o t r h g b T U nx ln (hd ad 0 6) (hd ad 6 2) ps pl ++ pool G ad S)) (QI (S := CS) G sz (ow G o t r h g b T U nx ln (hd ad 0 6) (hd ad 6 2) ps pl ++ pool G ad S) (fun r₀ c₀ => r₀ = (pAt ((prR T).1 4) 0) ∧ ∃ u : Nat → Nat, c₀ = (kpC T U nx ln ad S ps pl u ((prR T).1))) (fun c₀ => ows G o t r h g b c₀)) 11 62 (va_A (ow G o t r h g b T U nx ln (hd ad 0 6) (hd ad 6 2) ps pl ++ pool G ad S) sz) := by
  refine MI.of' (by decide) rfl (Nat.le_of_ble_eq_true rfl) ?_
  intro p e s m below meth c hx hb hml hown hts hK hsz hP A hAe hA hD hS Q hret ls hl
  have hown : s.vm.findClass RX3 = some m.cls := hown
  have hl : lv_has ls 1 [(0, .ref o)] := hl
  have wk1 := hts (Cond.fieldLink RX3 22 "TurnBids" "history" "LTurnBids$History;") (List.mem_of_getElem? (i := 1) rfl)
  have wk2 := hts (Cond.fieldLink RX3 10 "TurnBids" "table" "LTurnBids$Table;") (List.mem_of_getElem? (i := 2) rfl)
  have wk3 := hts (Cond.methodLink RX3 45 yX0_keep) (List.mem_of_getElem? (i := 3) rfl)
  have wk50 := hts (Cond.methodLink RX3 94 yX2_playRound) (List.mem_of_getElem? (i := 50) rfl)
  have wk117 := hts (Cond.methodLink RX3 97 yX2_playerAt) (List.mem_of_getElem? (i := 117) rfl)
  have hinX3 : ∀ w ∈ wsX30, w ∈ wsX3_finish := fun _ h => (List.mem_cons_of_mem _ (List.mem_append_left _ (List.mem_append_left _ (List.mem_append_right _ h))))
  refine lv_aload_n hx hb dX3_finish_0 rfl (lv_at hl 0 rfl) ?_
  refine va_get (D := G.1) (ci := 3) (v := .ref (h 0)) (C := RX3) (T := TX3) (N := 5) hx hb hts hinX3 hown hK.1 hP 0 rfl rfl 2 (by decide) wk1 (fun _ h9 => h9) rfl dX3_finish_1 ?_
  refine lv_aload_n hx hb dX3_finish_4 rfl (lv_at hl 0 rfl) ?_
  refine va_get (D := G.1) (ci := 3) (v := .ref (t 0)) (C := RX3) (T := TX3) (N := 5) hx hb hts hinX3 hown hK.1 hP 0 rfl rfl 0 (by decide) wk2 (fun _ h9 => h9) rfl dX3_finish_5 ?_
  refine cPoolV (wr := [(o, .inr (3, [.ref (t 0), .ref (r 0), .ref (h 0), .ref g, .ref (b 0)]))] ++ tw G r U ++ [(g, .inl (gR G, 2, .inr (.inr (.inr (.inr (hd ad 6 2))))))] ++ pw G b ps (nI pl)) (wc := hw G h nx ln (hd ad 0 6) ++ tw G t T) (As := [.ref (t 0)]) (rest := []) ⟨hx, hb, hml, hown, hts⟩ (c_X0_keep l G h t T hT nx ln hnx hln ad S _) (cwV 1 hts gX3_finish_X0_keep rfl rfl rfl (by decide +kernel) ⟨Nat.le_of_ble_eq_true rfl, Nat.le_of_ble_eq_true rfl⟩) hK hP hD hS hA [23, 24, 1, 2, 3, 4, 5, 6, 7, 8, 9, 10, 11] [0, 12, 13, 14, 15, 16, 17, 18, 19, 20, 21, 22, 25, 26, 27] rfl rfl (by decide) (by decide) (by decide) 0 (ci := 0) rfl rfl rfl rfl rfl hl.1 (Nat.le_of_ble_eq_true rfl) dX3_finish_8 ⟨Nat.le_of_ble_eq_true rfl, Nat.le_of_ble_eq_true rfl⟩ (fun u_1 H locs hr_1 hP hD hS => ?_)
  have hP : va_P G.1 vwCl (ow G o t r h g b T U (nx + 1) (min (ln + 1) 6) (hd (va_up ad (nx % 6) (some u_1)) 0 6) (hd ad 6 2) ps pl ++ pool G (va_up ad (nx % 6) (some u_1)) (va_up S (nx % 6) T)) H := hP.part (cx := ow G o t r h g b T U (nx + 1) (min (ln + 1) 6) (hd (va_up ad (nx % 6) (some u_1)) 0 6) (hd ad 6 2) ps pl) [0, 17, 18, 19, 20, 21, 22, 23, 24, 25, 26, 27, 1, 2, 3, 4, 5, 6, 7, 8, 9, 10, 11, 15, 16, 12, 13, 14] rfl
  have hD : va_D A (ow G o t r h g b T U (nx + 1) (min (ln + 1) 6) (hd (va_up ad (nx % 6) (some u_1)) 0 6) (hd ad 6 2) ps pl ++ pool G (va_up ad (nx % 6) (some u_1)) (va_up S (nx % 6) T)) := hD.part (cx := ow G o t r h g b T U (nx + 1) (min (ln + 1) 6) (hd (va_up ad (nx % 6) (some u_1)) 0 6) (hd ad 6 2) ps pl) [0, 17, 18, 19, 20, 21, 22, 23, 24, 25, 26, 27, 1, 2, 3, 4, 5, 6, 7, 8, 9, 10, 11, 15, 16, 12, 13, 14] (by decide) rfl
  have ho9 : hd ad 6 2 = hd (va_up ad (nx % 6) (some u_1)) 6 2 := (hd_off (Or.inl (by omega))).symm
  rw [ho9] at hP hD
  have hP : va_P G.1 vwCl (ow G o t r h g b T U (nx + 1) (min (ln + 1) 6) (hd (va_up ad (nx % 6) (some u_1)) 0 6) (hd (va_up ad (nx % 6) (some u_1)) 6 2) ps pl ++ pool G (va_up ad (nx % 6) (some u_1)) (va_up S (nx % 6) T)) H := hP
  have hD : va_D A (ow G o t r h g b T U (nx + 1) (min (ln + 1) 6) (hd (va_up ad (nx % 6) (some u_1)) 0 6) (hd (va_up ad (nx % 6) (some u_1)) 6 2) ps pl ++ pool G (va_up ad (nx % 6) (some u_1)) (va_up S (nx % 6) T)) := hD
  refine lv_aload_n hx hb dX3_finish_11 rfl (lv_at hl 0 rfl) ?_
  refine va_get (D := G.1) (ci := 3) (v := .ref (t 0)) (C := RX3) (T := TX3) (N := 5) hx hb hts hinX3 hown hK.1 hP 0 rfl rfl 0 (by decide) wk2 (fun _ h9 => h9) rfl dX3_finish_12 ?_
  refine cQI (wr := [(o, .inr (3, [.ref (t 0), .ref (r 0), .ref (h 0), .ref g, .ref (b 0)]))] ++ tw G r U ++ hw G h (nx + 1) (min (ln + 1) 6) (hd (va_up ad (nx % 6) (some u_1)) 0 6) ++ [(g, .inl (gR G, 2, .inr (.inr (.inr (.inr (hd (va_up ad (nx % 6) (some u_1)) 6 2))))))] ++ pw G b ps (nI pl)) (wc := tw G t T) (As := []) (rest := []) ⟨hx, hb, hml, hown, hts⟩ (c_X2_playRound l G t T _) (cwV 0 hts gX3_finish_X2_playRound rfl rfl rfl (by decide +kernel) ⟨Nat.le_of_ble_eq_true rfl, Nat.le_of_ble_eq_true rfl⟩) hK hP hD hS hA [1, 2, 3, 4, 5, 6, 7, 8, 9, 10, 11] [0, 12, 13, 14, 15, 16, 17, 18, 19, 20, 21, 22, 23, 24, 25, 26, 27] rfl rfl (by decide) (by decide) (by decide) 0 (ci := 2) rfl rfl rfl rfl rfl hl.1 (Nat.le_of_ble_eq_true rfl) dX3_finish_15 ⟨Nat.le_of_ble_eq_true rfl, Nat.le_of_ble_eq_true rfl⟩ (fun r_2 u_2 H locs hr_2 hP hD hS => ?_)
  have hP : va_P G.1 vwCl (ow G o t r h g b ((prR T).1) U (nx + 1) (min (ln + 1) 6) (hd (va_up ad (nx % 6) (some u_1)) 0 6) (hd (va_up ad (nx % 6) (some u_1)) 6 2) ps pl ++ pool G (va_up ad (nx % 6) (some u_1)) (va_up S (nx % 6) T)) H := hP.part (cx := ow G o t r h g b ((prR T).1) U (nx + 1) (min (ln + 1) 6) (hd (va_up ad (nx % 6) (some u_1)) 0 6) (hd (va_up ad (nx % 6) (some u_1)) 6 2) ps pl) [0, 17, 18, 19, 20, 21, 22, 23, 24, 25, 26, 27, 1, 2, 3, 4, 5, 6, 7, 8, 9, 10, 11, 12, 13, 14, 15, 16] rfl
  have hD : va_D A (ow G o t r h g b ((prR T).1) U (nx + 1) (min (ln + 1) 6) (hd (va_up ad (nx % 6) (some u_1)) 0 6) (hd (va_up ad (nx % 6) (some u_1)) 6 2) ps pl ++ pool G (va_up ad (nx % 6) (some u_1)) (va_up S (nx % 6) T)) := hD.part (cx := ow G o t r h g b ((prR T).1) U (nx + 1) (min (ln + 1) 6) (hd (va_up ad (nx % 6) (some u_1)) 0 6) (hd (va_up ad (nx % 6) (some u_1)) 6 2) ps pl) [0, 17, 18, 19, 20, 21, 22, 23, 24, 25, 26, 27, 1, 2, 3, 4, 5, 6, 7, 8, 9, 10, 11, 12, 13, 14, 15, 16] (by decide) rfl
  have hr_2 : r_2 = nI (prR T).2 := hr_2
  subst hr_2
  refine lv_pop hx hb dX3_finish_18 rfl ?_
  refine lv_aload_n hx hb dX3_finish_19 rfl (lv_at hl 0 rfl) ?_
  refine va_get (D := G.1) (ci := 3) (v := .ref (t 0)) (C := RX3) (T := TX3) (N := 5) hx hb hts hinX3 hown hK.1 hP 0 rfl rfl 0 (by decide) wk2 (fun _ h9 => h9) rfl dX3_finish_20 ?_
  refine lv_iconst (v := 0) hx hb dX3_finish_23 (by decide) ?_
  refine cPV (As := [.int 0]) (rest := []) ⟨hx, hb, hml, hown, hts⟩ (c_X2_playerAt l G t ((prR T).1) 0) (cwV 1 hts gX3_finish_X2_playerAt rfl rfl rfl (by decide +kernel) ⟨Nat.le_of_ble_eq_true rfl, Nat.le_of_ble_eq_true rfl⟩) hK (hP.sub (ws' := tw G t ((prR T).1)) [1, 2, 3, 4, 5, 6, 7, 8, 9, 10, 11] rfl) 0 (ci := 2) rfl rfl rfl rfl rfl hl.1 (Nat.le_of_ble_eq_true rfl) dX3_finish_24 ⟨Nat.le_of_ble_eq_true rfl, Nat.le_of_ble_eq_true rfl⟩ ?_
  exact hret _ _ _ _ _ ((prR T).1, U, nx + 1, min (ln + 1) 6, va_up ad (nx % 6) (some u_1), va_up S (nx % 6) T, ps, pl) ⟨by rfl, u_1, by rfl⟩ hP hD hS dX3_finish_27
