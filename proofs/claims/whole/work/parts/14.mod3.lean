/-! CONTRACTS of the reference: what there is, and what if (laid by wip/whole/gen/mod3.py) -/
set_option maxHeartbeats 4000000 in
set_option maxRecDepth 100000 in
theorem c_X4_player (l : Launch) (G : qG) (a : Nat → Nat) (z sp pa st sv pd tl : Nat → Int32) (ns ty spt tm : Int32) (x w : Int32) : MP l yX4_player wsX4_player 2 42 G [.ref (a 0), .int x, .int w] (mw G a z sp pa st sv pd tl ns ty spt tm) (if erW x w 7 = 0 then z ((8 + 5 * ix w) + ix x) else erW x w 7) := by
  refine MP.of (ty := .int) (by decide) rfl (Nat.le_of_ble_eq_true rfl) rfl ?_
  intro p e s m below meth c hx hb hml hown hts hK hP Q hret ls hl
  have hown : s.vm.findClass RX4 = some m.cls := hown
  have hl : lv_has ls 3 [(0, .ref (a 0)), (1, .int x), (2, .int w)] := hl
  have wk1 := hts (Cond.constant RX4 69 (-100001)) (List.mem_of_getElem? (i := 1) rfl)
  have wk2 := hts (Cond.fieldLink RX4 7 "TurnBidsModel" "z" "[I") (List.mem_of_getElem? (i := 2) rfl)
  have wk3 := hts (Cond.constant RX4 49 (-100002)) (List.mem_of_getElem? (i := 3) rfl)
  have wk4 := hts (Cond.methodLink RX4 65 yX4_isPlayer) (List.mem_of_getElem? (i := 4) rfl)
  have wk8 := hts (Cond.methodLink RX4 35 yX4_in) (List.mem_of_getElem? (i := 8) rfl)
  have hinX4 : ∀ w ∈ wsX40, w ∈ wsX4_player := fun _ h => (List.mem_cons_of_mem _ (List.mem_append_right _ h))
  refine lv_iload_n hx hb dX4_player_0 rfl (lv_at hl 1 rfl) ?_
  refine cPS (As := [.int x]) (rest := []) ⟨hx, hb, hml, hown, hts⟩ (c_X4_isPlayer l G x) (cwS 1 hts gX4_player_X4_isPlayer rfl rfl rfl (by decide +kernel) ⟨Nat.le_of_ble_eq_true rfl, Nat.le_of_ble_eq_true rfl⟩) hK (fun k q h => by simp at h) rfl rfl hl.1 (Nat.le_of_ble_eq_true rfl) dX4_player_1 ⟨Nat.le_of_ble_eq_true rfl, Nat.le_of_ble_eq_true rfl⟩ ?_
  refine lv_if_ne (tgt := 10) hx hb dX4_player_4 (by decide) (fun c_4_1 => ?_) (fun c_4_1 => ?_)
  · have hin_2 := inB5 c_4_1
    obtain ⟨j, hj, hej⟩ := vp_in_of (inB5 c_4_1) (by decide)
    rw [hej] at hl
    have hxj : ix x = j := by rw [hej]; exact nI_clamp (by omega)
    refine lv_iload_n hx hb dX4_player_10 rfl (lv_at hl 2 rfl) ?_
    refine lv_iconst (v := 0) hx hb dX4_player_11 (by decide) ?_
    refine lv_bipush (v := 7) hx hb dX4_player_12 (by decide) ?_
    refine cPS (As := [.int w, .int 0, .int 7]) (rest := []) ⟨hx, hb, hml, hown, hts⟩ (c_X4_in l G w 0 7) (cwS 3 hts gX4_player_X4_in rfl rfl rfl (by decide +kernel) ⟨Nat.le_of_ble_eq_true rfl, Nat.le_of_ble_eq_true rfl⟩) hK (fun k q h => by simp at h) rfl rfl hl.1 (Nat.le_of_ble_eq_true rfl) dX4_player_14 ⟨Nat.le_of_ble_eq_true rfl, Nat.le_of_ble_eq_true rfl⟩ ?_
    refine lv_if_eq (tgt := 36) hx hb dX4_player_17 (by decide) (fun c_17_3 => ?_) (fun c_17_3 => ?_)
    · refine lv_ldc (v := (-100002)) hx hb hown wk3 dX4_player_36 ?_
      exact hret _ _ _ (by simp only [if_true, if_false, lz_o, lz_1, lz_2, lz_5, erW, if_neg c_4_1, hxj, if_pos c_17_3]) dX4_player_38
    · obtain ⟨i, hi, hei⟩ := inB_of (N := 7) (by decide) c_17_3
      rw [hei] at hl
      have hxi : ix w = i := by rw [hei]; exact nI_clamp (by omega)
      refine lv_aload_n hx hb dX4_player_20 rfl (lv_at hl 0 rfl) ?_
      refine va_get (D := G.1) (ci := 4) (v := .ref (a 1)) (C := RX4) (T := TX4) (N := 11) hx hb hts hinX4 hown hK.1 hP 0 rfl rfl 0 (by decide) wk2 (fun _ h9 => h9) rfl dX4_player_21 ?_
      refine lv_bipush (v := 8) hx hb dX4_player_24 (by decide) ?_
      refine lv_iconst (v := 5) hx hb dX4_player_26 (by decide) ?_
      refine lv_iload_n hx hb dX4_player_27 rfl (lv_at hl 2 rfl) ?_
      refine lv_imul hx hb dX4_player_28 ?_
      refine qtop (pk_mul 5 i) ?_
      refine lv_iadd hx hb dX4_player_29 ?_
      refine qtop (nI_add 8 (5 * i)) ?_
      refine lv_iload_n hx hb dX4_player_30 rfl (lv_at hl 1 rfl) ?_
      refine lv_iadd hx hb dX4_player_31 ?_
      refine qtop (nI_add (8 + 5 * i) j) ?_
      refine qild hx hb hK.1 hP 1 0 rfl rfl (k := 8 + 5 * i + j) (nI_clamp (by omega)) (vp_in_nI (by omega) (by decide)) dX4_player_32 ?_
      refine lv_goto (tgt := 38) hx hb dX4_player_33 (by decide) ?_
      exact hret _ _ _ (by simp only [if_true, if_false, lz_o, lz_1, lz_2, lz_5, erW, if_neg c_4_1, hxj, if_neg c_17_3, hxi]) dX4_player_38
  · refine lv_ldc (v := (-100001)) hx hb hown wk1 dX4_player_7 ?_
    exact hret _ _ _ (by simp only [if_true, if_false, lz_o, lz_1, lz_2, lz_5, erW, if_pos c_4_1]) dX4_player_9
set_option maxHeartbeats 4000000 in
set_option maxRecDepth 100000 in
theorem c_X4_at (l : Launch) (G : qG) (a : Nat → Nat) (z sp pa st sv pd tl : Nat → Int32) (ns ty spt tm : Int32) (x : Int32) : MP l yX4_at wsX4_at 2 42 G [.ref (a 0), .int x] (mw G a z sp pa st sv pd tl ns ty spt tm) (if inB x 0 4 = 0 then (-100001) else mAt z x) := by
  refine MP.of (ty := .int) (by decide) rfl (Nat.le_of_ble_eq_true rfl) rfl ?_
  intro p e s m below meth c hx hb hml hown hts hK hP Q hret ls hl
  have hown : s.vm.findClass RX4 = some m.cls := hown
  have hl : lv_has ls 2 [(0, .ref (a 0)), (1, .int x)] := hl
  have wk1 := hts (Cond.constant RX4 69 (-100001)) (List.mem_of_getElem? (i := 1) rfl)
  have wk2 := hts (Cond.methodLink RX4 65 yX4_isPlayer) (List.mem_of_getElem? (i := 2) rfl)
  have wk9 := hts (Cond.methodLink RX4 70 yX4_playerAt) (List.mem_of_getElem? (i := 9) rfl)
  refine lv_iload_n hx hb dX4_at_0 rfl (lv_at hl 1 rfl) ?_
  refine cPS (As := [.int x]) (rest := []) ⟨hx, hb, hml, hown, hts⟩ (c_X4_isPlayer l G x) (cwS 1 hts gX4_at_X4_isPlayer rfl rfl rfl (by decide +kernel) ⟨Nat.le_of_ble_eq_true rfl, Nat.le_of_ble_eq_true rfl⟩) hK (fun k q h => by simp at h) rfl rfl hl.1 (Nat.le_of_ble_eq_true rfl) dX4_at_1 ⟨Nat.le_of_ble_eq_true rfl, Nat.le_of_ble_eq_true rfl⟩ ?_
  refine lv_if_eq (tgt := 15) hx hb dX4_at_4 (by decide) (fun c_4_1 => ?_) (fun c_4_1 => ?_)
  · refine lv_ldc (v := (-100001)) hx hb hown wk1 dX4_at_15 ?_
    exact hret _ _ _ (by simp only [if_pos c_4_1]) dX4_at_17
  · have hin_2 := inB5 c_4_1
    refine lv_aload_n hx hb dX4_at_7 rfl (lv_at hl 0 rfl) ?_
    refine lv_iload_n hx hb dX4_at_8 rfl (lv_at hl 1 rfl) ?_
    refine cPV (As := [.int x]) (rest := []) ⟨hx, hb, hml, hown, hts⟩ (c_X4_playerAt l G a z sp pa st sv pd tl ns ty spt tm x) (cwV 1 hts gX4_at_X4_playerAt rfl rfl rfl (by decide +kernel) ⟨Nat.le_of_ble_eq_true rfl, Nat.le_of_ble_eq_true rfl⟩) hK hP 0 (ci := 4) rfl rfl rfl rfl rfl hl.1 (Nat.le_of_ble_eq_true rfl) dX4_at_9 ⟨Nat.le_of_ble_eq_true rfl, Nat.le_of_ble_eq_true rfl⟩ ?_
    refine lv_goto (tgt := 17) hx hb dX4_at_12 (by decide) ?_
    exact hret _ _ _ (by simp only [if_neg c_4_1]) dX4_at_17
set_option maxHeartbeats 4000000 in
set_option maxRecDepth 100000 in
theorem c_X4_prizeOf (l : Launch) (G : qG) (a : Nat → Nat) (z sp pa st sv pd tl : Nat → Int32) (ns ty spt tm : Int32) (x : Int32) : MP l yX4_prizeOf wsX4_prizeOf 2 42 G [.ref (a 0), .int x] (mw G a z sp pa st sv pd tl ns ty spt tm) (if inB x 0 4 = 0 then (-100001) else z (48 + ix x)) := by
  refine MP.of (ty := .int) (by decide) rfl (Nat.le_of_ble_eq_true rfl) rfl ?_
  intro p e s m below meth c hx hb hml hown hts hK hP Q hret ls hl
  have hown : s.vm.findClass RX4 = some m.cls := hown
  have hl : lv_has ls 2 [(0, .ref (a 0)), (1, .int x)] := hl
  have wk1 := hts (Cond.fieldLink RX4 7 "TurnBidsModel" "z" "[I") (List.mem_of_getElem? (i := 1) rfl)
  have wk2 := hts (Cond.constant RX4 69 (-100001)) (List.mem_of_getElem? (i := 2) rfl)
  have wk3 := hts (Cond.methodLink RX4 65 yX4_isPlayer) (List.mem_of_getElem? (i := 3) rfl)
  have hinX4 : ∀ w ∈ wsX40, w ∈ wsX4_prizeOf := fun _ h => (List.mem_cons_of_mem _ (List.mem_append_right _ h))
  refine lv_iload_n hx hb dX4_prizeOf_0 rfl (lv_at hl 1 rfl) ?_
  refine cPS (As := [.int x]) (rest := []) ⟨hx, hb, hml, hown, hts⟩ (c_X4_isPlayer l G x) (cwS 1 hts gX4_prizeOf_X4_isPlayer rfl rfl rfl (by decide +kernel) ⟨Nat.le_of_ble_eq_true rfl, Nat.le_of_ble_eq_true rfl⟩) hK (fun k q h => by simp at h) rfl rfl hl.1 (Nat.le_of_ble_eq_true rfl) dX4_prizeOf_1 ⟨Nat.le_of_ble_eq_true rfl, Nat.le_of_ble_eq_true rfl⟩ ?_
  refine lv_if_eq (tgt := 19) hx hb dX4_prizeOf_4 (by decide) (fun c_4_1 => ?_) (fun c_4_1 => ?_)
  · refine lv_ldc (v := (-100001)) hx hb hown wk2 dX4_prizeOf_19 ?_
    exact hret _ _ _ (by simp only [if_pos c_4_1]) dX4_prizeOf_21
  · have hin_2 := inB5 c_4_1
    obtain ⟨j, hj, hej⟩ := vp_in_of (inB5 c_4_1) (by decide)
    rw [hej] at hl
    have hxj : ix x = j := by rw [hej]; exact nI_clamp (by omega)
    refine lv_aload_n hx hb dX4_prizeOf_7 rfl (lv_at hl 0 rfl) ?_
    refine va_get (D := G.1) (ci := 4) (v := .ref (a 1)) (C := RX4) (T := TX4) (N := 11) hx hb hts hinX4 hown hK.1 hP 0 rfl rfl 0 (by decide) wk1 (fun _ h9 => h9) rfl dX4_prizeOf_8 ?_
    refine lv_bipush (v := 48) hx hb dX4_prizeOf_11 (by decide) ?_
    refine lv_iload_n hx hb dX4_prizeOf_13 rfl (lv_at hl 1 rfl) ?_
    refine lv_iadd hx hb dX4_prizeOf_14 ?_
    refine qtop (nI_add 48 j) ?_
    refine qild hx hb hK.1 hP 1 0 rfl rfl (k := 48 + j) (nI_clamp (by omega)) (vp_in_nI (by omega) (by decide)) dX4_prizeOf_15 ?_
    refine lv_goto (tgt := 21) hx hb dX4_prizeOf_16 (by decide) ?_
    exact hret _ _ _ (by simp only [if_neg c_4_1, hxj]) dX4_prizeOf_21
set_option maxHeartbeats 4000000 in
set_option maxRecDepth 100000 in
theorem c_X4_count (l : Launch) (G : qG) (a : Nat → Nat) (z sp pa st sv pd tl : Nat → Int32) (ns ty spt tm : Int32) (x : Int32) : MP l yX4_count wsX4_count 1 23 G [.ref (a 0), .int x] (mw G a z sp pa st sv pd tl ns ty spt tm) (cnV z ns ty x) := by
  refine MP.of (ty := .int) (by decide) rfl (Nat.le_of_ble_eq_true rfl) rfl ?_
  intro p e s m below meth c hx hb hml hown hts hK hP Q hret ls hl
  have hown : s.vm.findClass RX4 = some m.cls := hown
  have hl : lv_has ls 2 [(0, .ref (a 0)), (1, .int x)] := hl
  have wk1 := hts (Cond.fieldLink RX4 7 "TurnBidsModel" "z" "[I") (List.mem_of_getElem? (i := 1) rfl)
  have wk2 := hts (Cond.constant RX4 39 (-100006)) (List.mem_of_getElem? (i := 2) rfl)
  have wk3 := hts (Cond.fieldLink RX4 117 "TurnBidsModel" "typed" "I") (List.mem_of_getElem? (i := 3) rfl)
  have wk4 := hts (Cond.fieldLink RX4 40 "TurnBidsModel" "states" "I") (List.mem_of_getElem? (i := 4) rfl)
  have wk5 := hts (Cond.constant RX4 49 (-100002)) (List.mem_of_getElem? (i := 5) rfl)
  have wk6 := hts (Cond.methodLink RX4 73 yX4_least) (List.mem_of_getElem? (i := 6) rfl)
  have wk11 := hts (Cond.methodLink RX4 147 yX4_leftSet) (List.mem_of_getElem? (i := 11) rfl)
  have wk15 := hts (Cond.methodLink RX4 50 yX4_sum) (List.mem_of_getElem? (i := 15) rfl)
  have hinX4 : ∀ w ∈ wsX40, w ∈ wsX4_count := fun _ h => (List.mem_cons_of_mem _ (List.mem_append_right _ h))
  refine lv_iload_n hx hb dX4_count_0 rfl (lv_at hl 1 rfl) ?_
  by_cases htw : x.toInt < 0 ∨ 15 < x.toInt
  · refine lv_tableOut (tgt := 158) hx hb dX4_count_1 htw (by decide) ?_
    refine lv_ldc (v := (-100002)) hx hb hown wk5 dX4_count_158 ?_
    exact hret _ _ _ (by simp only [cnV, cnT, if_pos htw]) dX4_count_160
  · obtain ⟨k₀, hk₀, he₀⟩ := sw_in (N := 15) htw (by decide)
    rcases (show k₀ = 0 ∨ k₀ = 1 ∨ k₀ = 2 ∨ k₀ = 3 ∨ k₀ = 4 ∨ k₀ = 5 ∨ k₀ = 6 ∨ k₀ = 7 ∨ k₀ = 8 ∨ k₀ = 9 ∨ k₀ = 10 ∨ k₀ = 11 ∨ k₀ = 12 ∨ k₀ = 13 ∨ k₀ = 14 ∨ k₀ = 15 by omega) with rfl | rfl | rfl | rfl | rfl | rfl | rfl | rfl | rfl | rfl | rfl | rfl | rfl | rfl | rfl | rfl
    · rw [he₀] at hl
      refine qtop (y := nI 0) he₀ ?_
      have hxk : ix x = 0 := by rw [he₀]; exact nI_clamp (by decide)
      refine lv_tableIn (off := 79) (tgt := 80) hx hb dX4_count_1 (by decide +kernel) (by decide +kernel) (by decide +kernel) (by decide) ?_
      refine lv_aload_n hx hb dX4_count_80 rfl (lv_at hl 0 rfl) ?_
      refine va_get (D := G.1) (ci := 4) (v := .ref (a 1)) (C := RX4) (T := TX4) (N := 11) hx hb hts hinX4 hown hK.1 hP 0 rfl rfl 0 (by decide) wk1 (fun _ h9 => h9) rfl dX4_count_81 ?_
      refine lv_iload_n hx hb dX4_count_84 rfl (lv_at hl 1 rfl) ?_
      refine qild hx hb hK.1 hP 1 0 rfl rfl (k := 0) (nI_clamp (by omega)) (vp_in_nI (by omega) (by decide)) dX4_count_85 ?_
      exact hret _ _ _ (by simp only [cnV, cnT, if_neg htw, hxk]) dX4_count_86
    · rw [he₀] at hl
      refine qtop (y := nI 1) he₀ ?_
      have hxk : ix x = 1 := by rw [he₀]; exact nI_clamp (by decide)
      refine lv_tableIn (off := 79) (tgt := 80) hx hb dX4_count_1 (by decide +kernel) (by decide +kernel) (by decide +kernel) (by decide) ?_
      refine lv_aload_n hx hb dX4_count_80 rfl (lv_at hl 0 rfl) ?_
      refine va_get (D := G.1) (ci := 4) (v := .ref (a 1)) (C := RX4) (T := TX4) (N := 11) hx hb hts hinX4 hown hK.1 hP 0 rfl rfl 0 (by decide) wk1 (fun _ h9 => h9) rfl dX4_count_81 ?_
      refine lv_iload_n hx hb dX4_count_84 rfl (lv_at hl 1 rfl) ?_
      refine qild hx hb hK.1 hP 1 0 rfl rfl (k := 1) (nI_clamp (by omega)) (vp_in_nI (by omega) (by decide)) dX4_count_85 ?_
      exact hret _ _ _ (by simp only [cnV, cnT, if_neg htw, hxk]) dX4_count_86
    · rw [he₀] at hl
      refine qtop (y := nI 2) he₀ ?_
      have hxk : ix x = 2 := by rw [he₀]; exact nI_clamp (by decide)
      refine lv_tableIn (off := 79) (tgt := 80) hx hb dX4_count_1 (by decide +kernel) (by decide +kernel) (by decide +kernel) (by decide) ?_
      refine lv_aload_n hx hb dX4_count_80 rfl (lv_at hl 0 rfl) ?_
      refine va_get (D := G.1) (ci := 4) (v := .ref (a 1)) (C := RX4) (T := TX4) (N := 11) hx hb hts hinX4 hown hK.1 hP 0 rfl rfl 0 (by decide) wk1 (fun _ h9 => h9) rfl dX4_count_81 ?_
      refine lv_iload_n hx hb dX4_count_84 rfl (lv_at hl 1 rfl) ?_
      refine qild hx hb hK.1 hP 1 0 rfl rfl (k := 2) (nI_clamp (by omega)) (vp_in_nI (by omega) (by decide)) dX4_count_85 ?_
      exact hret _ _ _ (by simp only [cnV, cnT, if_neg htw, hxk]) dX4_count_86
    · rw [he₀] at hl
      refine qtop (y := nI 3) he₀ ?_
      have hxk : ix x = 3 := by rw [he₀]; exact nI_clamp (by decide)
      refine lv_tableIn (off := 79) (tgt := 80) hx hb dX4_count_1 (by decide +kernel) (by decide +kernel) (by decide +kernel) (by decide) ?_
      refine lv_aload_n hx hb dX4_count_80 rfl (lv_at hl 0 rfl) ?_
      refine va_get (D := G.1) (ci := 4) (v := .ref (a 1)) (C := RX4) (T := TX4) (N := 11) hx hb hts hinX4 hown hK.1 hP 0 rfl rfl 0 (by decide) wk1 (fun _ h9 => h9) rfl dX4_count_81 ?_
      refine lv_iload_n hx hb dX4_count_84 rfl (lv_at hl 1 rfl) ?_
      refine qild hx hb hK.1 hP 1 0 rfl rfl (k := 3) (nI_clamp (by omega)) (vp_in_nI (by omega) (by decide)) dX4_count_85 ?_
      exact hret _ _ _ (by simp only [cnV, cnT, if_neg htw, hxk]) dX4_count_86
    · rw [he₀] at hl
      refine qtop (y := nI 4) he₀ ?_
      have hxk : ix x = 4 := by rw [he₀]; exact nI_clamp (by decide)
      refine lv_tableIn (off := 79) (tgt := 80) hx hb dX4_count_1 (by decide +kernel) (by decide +kernel) (by decide +kernel) (by decide) ?_
      refine lv_aload_n hx hb dX4_count_80 rfl (lv_at hl 0 rfl) ?_
      refine va_get (D := G.1) (ci := 4) (v := .ref (a 1)) (C := RX4) (T := TX4) (N := 11) hx hb hts hinX4 hown hK.1 hP 0 rfl rfl 0 (by decide) wk1 (fun _ h9 => h9) rfl dX4_count_81 ?_
      refine lv_iload_n hx hb dX4_count_84 rfl (lv_at hl 1 rfl) ?_
      refine qild hx hb hK.1 hP 1 0 rfl rfl (k := 4) (nI_clamp (by omega)) (vp_in_nI (by omega) (by decide)) dX4_count_85 ?_
      exact hret _ _ _ (by simp only [cnV, cnT, if_neg htw, hxk]) dX4_count_86
    · rw [he₀] at hl
      refine qtop (y := nI 5) he₀ ?_
      have hxk : ix x = 5 := by rw [he₀]; exact nI_clamp (by decide)
      refine lv_tableIn (off := 79) (tgt := 80) hx hb dX4_count_1 (by decide +kernel) (by decide +kernel) (by decide +kernel) (by decide) ?_
      refine lv_aload_n hx hb dX4_count_80 rfl (lv_at hl 0 rfl) ?_
      refine va_get (D := G.1) (ci := 4) (v := .ref (a 1)) (C := RX4) (T := TX4) (N := 11) hx hb hts hinX4 hown hK.1 hP 0 rfl rfl 0 (by decide) wk1 (fun _ h9 => h9) rfl dX4_count_81 ?_
      refine lv_iload_n hx hb dX4_count_84 rfl (lv_at hl 1 rfl) ?_
      refine qild hx hb hK.1 hP 1 0 rfl rfl (k := 5) (nI_clamp (by omega)) (vp_in_nI (by omega) (by decide)) dX4_count_85 ?_
      exact hret _ _ _ (by simp only [cnV, cnT, if_neg htw, hxk]) dX4_count_86
    · rw [he₀] at hl
      refine qtop (y := nI 6) he₀ ?_
      have hxk : ix x = 6 := by rw [he₀]; exact nI_clamp (by decide)
      refine lv_tableIn (off := 79) (tgt := 80) hx hb dX4_count_1 (by decide +kernel) (by decide +kernel) (by decide +kernel) (by decide) ?_
      refine lv_aload_n hx hb dX4_count_80 rfl (lv_at hl 0 rfl) ?_
      refine va_get (D := G.1) (ci := 4) (v := .ref (a 1)) (C := RX4) (T := TX4) (N := 11) hx hb hts hinX4 hown hK.1 hP 0 rfl rfl 0 (by decide) wk1 (fun _ h9 => h9) rfl dX4_count_81 ?_
      refine lv_iload_n hx hb dX4_count_84 rfl (lv_at hl 1 rfl) ?_
      refine qild hx hb hK.1 hP 1 0 rfl rfl (k := 6) (nI_clamp (by omega)) (vp_in_nI (by omega) (by decide)) dX4_count_85 ?_
      exact hret _ _ _ (by simp only [cnV, cnT, if_neg htw, hxk]) dX4_count_86
    · rw [he₀] at hl
      refine qtop (y := nI 7) he₀ ?_
      have hxk : ix x = 7 := by rw [he₀]; exact nI_clamp (by decide)
      refine lv_tableIn (off := 86) (tgt := 87) hx hb dX4_count_1 (by decide +kernel) (by decide +kernel) (by decide +kernel) (by decide) ?_
      refine lv_aload_n hx hb dX4_count_87 rfl (lv_at hl 0 rfl) ?_
      refine va_get (D := G.1) (ci := 4) (v := .ref (a 1)) (C := RX4) (T := TX4) (N := 11) hx hb hts hinX4 hown hK.1 hP 0 rfl rfl 0 (by decide) wk1 (fun _ h9 => h9) rfl dX4_count_88 ?_
      refine lv_iconst (v := 4) hx hb dX4_count_91 (by decide) ?_
      refine qild hx hb hK.1 hP 1 0 rfl rfl (k := 4) rfl (vp_in_nI (n := 4) (by decide) (by decide)) dX4_count_92 ?_
      refine lv_iconst (v := 1) hx hb dX4_count_93 (by decide) ?_
      refine lv_icmp_ne (tgt := 104) hx hb dX4_count_94 (by decide) (fun c_94_1 => ?_) (fun c_94_1 => ?_)
      · refine lv_ldc (v := (-100006)) hx hb hown wk2 dX4_count_104 ?_
        exact hret _ _ _ (by simp only [cnV, cnT, if_neg htw, hxk, if_neg c_94_1]) dX4_count_106
      · refine lv_aload_n hx hb dX4_count_97 rfl (lv_at hl 0 rfl) ?_
        refine cPV (As := []) (rest := []) ⟨hx, hb, hml, hown, hts⟩ (c_X4_least l G a z sp pa st sv pd tl ns ty spt tm) (cwV 0 hts gX4_count_X4_least rfl rfl rfl (by decide +kernel) ⟨Nat.le_of_ble_eq_true rfl, Nat.le_of_ble_eq_true rfl⟩) hK hP 0 (ci := 4) rfl rfl rfl rfl rfl hl.1 (Nat.le_of_ble_eq_true rfl) dX4_count_98 ⟨Nat.le_of_ble_eq_true rfl, Nat.le_of_ble_eq_true rfl⟩ ?_
        refine lv_goto (tgt := 106) hx hb dX4_count_101 (by decide) ?_
        exact hret _ _ _ (by simp only [cnV, cnT, if_neg htw, hxk, if_pos c_94_1]) dX4_count_106
    · rw [he₀] at hl
      refine qtop (y := nI 8) he₀ ?_
      have hxk : ix x = 8 := by rw [he₀]; exact nI_clamp (by decide)
      refine lv_tableIn (off := 106) (tgt := 107) hx hb dX4_count_1 (by decide +kernel) (by decide +kernel) (by decide +kernel) (by decide) ?_
      refine lv_aload_n hx hb dX4_count_107 rfl (lv_at hl 0 rfl) ?_
      refine cPV (As := []) (rest := []) ⟨hx, hb, hml, hown, hts⟩ (c_X4_leftSet l G a z sp pa st sv pd tl ns ty spt tm) (cwV 0 hts gX4_count_X4_leftSet rfl rfl rfl (by decide +kernel) ⟨Nat.le_of_ble_eq_true rfl, Nat.le_of_ble_eq_true rfl⟩) hK hP 0 (ci := 4) rfl rfl rfl rfl rfl hl.1 (Nat.le_of_ble_eq_true rfl) dX4_count_108 ⟨Nat.le_of_ble_eq_true rfl, Nat.le_of_ble_eq_true rfl⟩ ?_
      exact hret _ _ _ (by simp only [cnV, cnT, if_neg htw, hxk]) dX4_count_111
    · rw [he₀] at hl
      refine qtop (y := nI 9) he₀ ?_
      have hxk : ix x = 9 := by rw [he₀]; exact nI_clamp (by decide)
      refine lv_tableIn (off := 111) (tgt := 112) hx hb dX4_count_1 (by decide +kernel) (by decide +kernel) (by decide +kernel) (by decide) ?_
      refine lv_aload_n hx hb dX4_count_112 rfl (lv_at hl 0 rfl) ?_
      refine va_get (D := G.1) (ci := 4) (v := .ref (a 1)) (C := RX4) (T := TX4) (N := 11) hx hb hts hinX4 hown hK.1 hP 0 rfl rfl 0 (by decide) wk1 (fun _ h9 => h9) rfl dX4_count_113 ?_
      refine lv_bipush (v := 7) hx hb dX4_count_116 (by decide) ?_
      refine qild hx hb hK.1 hP 1 0 rfl rfl (k := 7) rfl (vp_in_nI (n := 7) (by decide) (by decide)) dX4_count_118 ?_
      exact hret _ _ _ (by simp only [cnV, cnT, if_neg htw, hxk]) dX4_count_119
    · rw [he₀] at hl
      refine qtop (y := nI 10) he₀ ?_
      have hxk : ix x = 10 := by rw [he₀]; exact nI_clamp (by decide)
      refine lv_tableIn (off := 119) (tgt := 120) hx hb dX4_count_1 (by decide +kernel) (by decide +kernel) (by decide +kernel) (by decide) ?_
      refine lv_aload_n hx hb dX4_count_120 rfl (lv_at hl 0 rfl) ?_
      refine lv_bipush (v := 8) hx hb dX4_count_121 (by decide) ?_
      refine cPV (As := [.int 8]) (rest := []) ⟨hx, hb, hml, hown, hts⟩ (c_X4_sum l G a z sp pa st sv pd tl ns ty spt tm 8 (by decide)) (cwV 1 hts gX4_count_X4_sum rfl rfl rfl (by decide +kernel) ⟨Nat.le_of_ble_eq_true rfl, Nat.le_of_ble_eq_true rfl⟩) hK hP 0 (ci := 4) rfl rfl rfl rfl rfl hl.1 (Nat.le_of_ble_eq_true rfl) dX4_count_123 ⟨Nat.le_of_ble_eq_true rfl, Nat.le_of_ble_eq_true rfl⟩ ?_
      exact hret _ _ _ (by simp only [cnV, cnT, if_neg htw, hxk]) dX4_count_126
    · rw [he₀] at hl
      refine qtop (y := nI 11) he₀ ?_
      have hxk : ix x = 11 := by rw [he₀]; exact nI_clamp (by decide)
      refine lv_tableIn (off := 126) (tgt := 127) hx hb dX4_count_1 (by decide +kernel) (by decide +kernel) (by decide +kernel) (by decide) ?_
      refine lv_aload_n hx hb dX4_count_127 rfl (lv_at hl 0 rfl) ?_
      refine lv_bipush (v := 33) hx hb dX4_count_128 (by decide) ?_
      refine cPV (As := [.int 33]) (rest := []) ⟨hx, hb, hml, hown, hts⟩ (c_X4_sum l G a z sp pa st sv pd tl ns ty spt tm 33 (by decide)) (cwV 1 hts gX4_count_X4_sum rfl rfl rfl (by decide +kernel) ⟨Nat.le_of_ble_eq_true rfl, Nat.le_of_ble_eq_true rfl⟩) hK hP 0 (ci := 4) rfl rfl rfl rfl rfl hl.1 (Nat.le_of_ble_eq_true rfl) dX4_count_130 ⟨Nat.le_of_ble_eq_true rfl, Nat.le_of_ble_eq_true rfl⟩ ?_
      exact hret _ _ _ (by simp only [cnV, cnT, if_neg htw, hxk]) dX4_count_133
    · rw [he₀] at hl
      refine qtop (y := nI 12) he₀ ?_
      have hxk : ix x = 12 := by rw [he₀]; exact nI_clamp (by decide)
      refine lv_tableIn (off := 133) (tgt := 134) hx hb dX4_count_1 (by decide +kernel) (by decide +kernel) (by decide +kernel) (by decide) ?_
      refine lv_aload_n hx hb dX4_count_134 rfl (lv_at hl 0 rfl) ?_
      refine lv_bipush (v := 38) hx hb dX4_count_135 (by decide) ?_
      refine cPV (As := [.int 38]) (rest := []) ⟨hx, hb, hml, hown, hts⟩ (c_X4_sum l G a z sp pa st sv pd tl ns ty spt tm 38 (by decide)) (cwV 1 hts gX4_count_X4_sum rfl rfl rfl (by decide +kernel) ⟨Nat.le_of_ble_eq_true rfl, Nat.le_of_ble_eq_true rfl⟩) hK hP 0 (ci := 4) rfl rfl rfl rfl rfl hl.1 (Nat.le_of_ble_eq_true rfl) dX4_count_137 ⟨Nat.le_of_ble_eq_true rfl, Nat.le_of_ble_eq_true rfl⟩ ?_
      exact hret _ _ _ (by simp only [cnV, cnT, if_neg htw, hxk]) dX4_count_140
    · rw [he₀] at hl
      refine qtop (y := nI 13) he₀ ?_
      have hxk : ix x = 13 := by rw [he₀]; exact nI_clamp (by decide)
      refine lv_tableIn (off := 140) (tgt := 141) hx hb dX4_count_1 (by decide +kernel) (by decide +kernel) (by decide +kernel) (by decide) ?_
      refine lv_aload_n hx hb dX4_count_141 rfl (lv_at hl 0 rfl) ?_
      refine lv_bipush (v := 48) hx hb dX4_count_142 (by decide) ?_
      refine cPV (As := [.int 48]) (rest := []) ⟨hx, hb, hml, hown, hts⟩ (c_X4_sum l G a z sp pa st sv pd tl ns ty spt tm 48 (by decide)) (cwV 1 hts gX4_count_X4_sum rfl rfl rfl (by decide +kernel) ⟨Nat.le_of_ble_eq_true rfl, Nat.le_of_ble_eq_true rfl⟩) hK hP 0 (ci := 4) rfl rfl rfl rfl rfl hl.1 (Nat.le_of_ble_eq_true rfl) dX4_count_144 ⟨Nat.le_of_ble_eq_true rfl, Nat.le_of_ble_eq_true rfl⟩ ?_
      exact hret _ _ _ (by simp only [cnV, cnT, if_neg htw, hxk]) dX4_count_147
    · rw [he₀] at hl
      refine qtop (y := nI 14) he₀ ?_
      have hxk : ix x = 14 := by rw [he₀]; exact nI_clamp (by decide)
      refine lv_tableIn (off := 147) (tgt := 148) hx hb dX4_count_1 (by decide +kernel) (by decide +kernel) (by decide +kernel) (by decide) ?_
      refine lv_aload_n hx hb dX4_count_148 rfl (lv_at hl 0 rfl) ?_
      refine va_get (D := G.1) (ci := 4) (v := .int ty) (C := RX4) (T := TX4) (N := 11) hx hb hts hinX4 hown hK.1 hP 0 rfl rfl 7 (by decide) wk3 (fun _ h9 => h9) rfl dX4_count_149 ?_
      exact hret _ _ _ (by simp only [cnV, cnT, if_neg htw, hxk]) dX4_count_152
    · rw [he₀] at hl
      refine qtop (y := nI 15) he₀ ?_
      have hxk : ix x = 15 := by rw [he₀]; exact nI_clamp (by decide)
      refine lv_tableIn (off := 152) (tgt := 153) hx hb dX4_count_1 (by decide +kernel) (by decide +kernel) (by decide +kernel) (by decide) ?_
      refine lv_aload_n hx hb dX4_count_153 rfl (lv_at hl 0 rfl) ?_
      refine va_get (D := G.1) (ci := 4) (v := .int ns) (C := RX4) (T := TX4) (N := 11) hx hb hts hinX4 hown hK.1 hP 0 rfl rfl 3 (by decide) wk4 (fun _ h9 => h9) rfl dX4_count_154 ?_
      exact hret _ _ _ (by simp only [cnV, cnT, if_neg htw, hxk]) dX4_count_157
set_option maxHeartbeats 4000000 in
set_option maxRecDepth 100000 in
theorem c_X4_ifFinished (l : Launch) (G : qG) (a : Nat → Nat) (z sp pa st sv pd tl : Nat → Int32) (ns ty spt tm : Int32) (x w : Int32) (hok : ¬ erW x w 3 = 0 ∨ FiOK z) (sz : Nat) : MI l yX4_ifFinished wsX4_ifFinished 5 113 G sz [.ref (a 0), .int x, .int w] (mw G a z sp pa st sv pd tl ns ty spt tm) (if erW x w 3 = 0 then ifV z x w else erW x w 3) (mw G a z (if erW x w 3 = 0 then z else sp) pa st sv pd tl ns ty spt tm) := by
  refine MI.of' (by decide) rfl (Nat.le_of_ble_eq_true rfl) ?_
  intro p e s m below meth c hx hb hml hown hts hK hsz hP A hAe hA hD hS Q hret ls hl
  have hown : s.vm.findClass RX4 = some m.cls := hown
  have hl : lv_has ls 6 [(0, .ref (a 0)), (1, .int x), (2, .int w)] := hl
  have wk1 := hts (Cond.constant RX4 69 (-100001)) (List.mem_of_getElem? (i := 1) rfl)
  have wk2 := hts (Cond.constant RX4 49 (-100002)) (List.mem_of_getElem? (i := 2) rfl)
  have wk3 := hts (Cond.fieldLink RX4 7 "TurnBidsModel" "z" "[I") (List.mem_of_getElem? (i := 3) rfl)
  have wk4 := hts (Cond.fieldLink RX4 13 "TurnBidsModel" "spare" "[I") (List.mem_of_getElem? (i := 4) rfl)
  have wk5 := hts (Cond.methodLink RX4 65 yX4_isPlayer) (List.mem_of_getElem? (i := 5) rfl)
  have wk9 := hts (Cond.methodLink RX4 35 yX4_in) (List.mem_of_getElem? (i := 9) rfl)
  have wk15 := hts (Cond.methodLink RX4 112 yX4_finishNow) (List.mem_of_getElem? (i := 15) rfl)
  have hinX4 : ∀ w ∈ wsX40, w ∈ wsX4_ifFinished := fun _ h => (List.mem_cons_of_mem _ (List.mem_append_right _ h))
  refine lv_iload_n hx hb dX4_ifFinished_0 rfl (lv_at hl 1 rfl) ?_
  refine cPS (As := [.int x]) (rest := []) ⟨hx, hb, hml, hown, hts⟩ (c_X4_isPlayer l G x) (cwS 1 hts gX4_ifFinished_X4_isPlayer rfl rfl rfl (by decide +kernel) ⟨Nat.le_of_ble_eq_true rfl, Nat.le_of_ble_eq_true rfl⟩) hK (fun k q h => by simp at h) rfl rfl hl.1 (Nat.le_of_ble_eq_true rfl) dX4_ifFinished_1 ⟨Nat.le_of_ble_eq_true rfl, Nat.le_of_ble_eq_true rfl⟩ ?_
  refine lv_if_ne (tgt := 10) hx hb dX4_ifFinished_4 (by decide) (fun c_4_1 => ?_) (fun c_4_1 => ?_)
  · have hin_2 := inB5 c_4_1
    obtain ⟨j, hj, hej⟩ := vp_in_of (inB5 c_4_1) (by decide)
    rw [hej] at hl
    have hxj : ix x = j := by rw [hej]; exact nI_clamp (by omega)
    refine lv_iload_n hx hb dX4_ifFinished_10 rfl (lv_at hl 2 rfl) ?_
    refine lv_iconst (v := 0) hx hb dX4_ifFinished_11 (by decide) ?_
    refine lv_iconst (v := 3) hx hb dX4_ifFinished_12 (by decide) ?_
    refine cPS (As := [.int w, .int 0, .int 3]) (rest := []) ⟨hx, hb, hml, hown, hts⟩ (c_X4_in l G w 0 3) (cwS 3 hts gX4_ifFinished_X4_in rfl rfl rfl (by decide +kernel) ⟨Nat.le_of_ble_eq_true rfl, Nat.le_of_ble_eq_true rfl⟩) hK (fun k q h => by simp at h) rfl rfl hl.1 (Nat.le_of_ble_eq_true rfl) dX4_ifFinished_13 ⟨Nat.le_of_ble_eq_true rfl, Nat.le_of_ble_eq_true rfl⟩ ?_
    refine lv_if_ne (tgt := 22) hx hb dX4_ifFinished_16 (by decide) (fun c_16_3 => ?_) (fun c_16_3 => ?_)
    · have hfo : FiOK z := hok.resolve_left (fun q => q (by simp only [erW, if_true, if_false, lz_o, lz_1, lz_2, lz_5, if_neg c_4_1, hxj, if_neg c_16_3]))
      refine lv_aload_n hx hb dX4_ifFinished_22 rfl (lv_at hl 0 rfl) ?_
      refine va_get (D := G.1) (ci := 4) (v := .ref (a 1)) (C := RX4) (T := TX4) (N := 11) hx hb hts hinX4 hown hK.1 hP 0 rfl rfl 0 (by decide) wk3 (fun _ h9 => h9) rfl dX4_ifFinished_23 ?_
      refine lv_iconst (v := 0) hx hb dX4_ifFinished_26 (by decide) ?_
      refine lv_aload_n hx hb dX4_ifFinished_27 rfl (lv_at hl 0 rfl) ?_
      refine va_get (D := G.1) (ci := 4) (v := .ref (a 2)) (C := RX4) (T := TX4) (N := 11) hx hb hts hinX4 hown hK.1 hP 0 rfl rfl 1 (by decide) wk4 (fun _ h9 => h9) rfl dX4_ifFinished_28 ?_
      refine lv_iconst (v := 0) hx hb dX4_ifFinished_31 (by decide) ?_
      refine cBV (As := [.ref (a 1), .int 0, .ref (a 2), .int 0]) (rest := []) ⟨hx, hb, hml, hown, hts⟩ (c_X4_copyState l G (a 1) (a 2) 53 53 0 0 z sp z (by omega) (by omega) (by decide) (by decide) (cpy_all0 _ _) _) (cwS 4 hts gX4_ifFinished_X4_copyState rfl rfl rfl (by decide +kernel) ⟨Nat.le_of_ble_eq_true rfl, Nat.le_of_ble_eq_true rfl⟩) hK hP hD hS hA [1, 2] [0, 3, 4, 5, 6, 7] rfl (wr := [(a 0, .inr (4, [.ref (a 1), .ref (a 2), .ref (a 3), .int ns, .ref (a 4), .ref (a 5), .ref (a 6), .int ty, .int spt, .ref (a 7), .int tm])), (a 3, .inl (gI G, 318, .inl pa)), (a 4, .inl (gI G, 106, .inl st)), (a 5, .inl (gZ G, 2, .inl sv)), (a 6, .inl (gI G, 60, .inl pd)), (a 7, .inl (gI G, 31, .inl tl))]) rfl rfl rfl (by decide) rfl rfl hl.1 (Nat.le_of_ble_eq_true rfl) dX4_ifFinished_32 ⟨Nat.le_of_ble_eq_true rfl, Nat.le_of_ble_eq_true rfl⟩ (fun u_4 H locs hr_4 hP hD hS => ?_)
      have hP : va_P G.1 vwCl (mw G a z z pa st sv pd tl ns ty spt tm) H := hP.sub [0, 6, 7, 1, 2, 3, 4, 5] rfl
      have hD : va_D A (mw G a z z pa st sv pd tl ns ty spt tm) := hD.sub [0, 6, 7, 1, 2, 3, 4, 5] (by decide) rfl
      refine lv_aload_n hx hb dX4_ifFinished_35 rfl (lv_at hl 0 rfl) ?_
      refine cAI (As := []) (rest := []) ⟨hx, hb, hml, hown, hts⟩ (c_X4_finishNow l G a z z pa st sv pd tl ns ty spt tm hfo _) (cwV 0 hts gX4_ifFinished_X4_finishNow rfl rfl rfl (by decide +kernel) ⟨Nat.le_of_ble_eq_true rfl, Nat.le_of_ble_eq_true rfl⟩) hK hP hD hS hA 0 (ci := 4) rfl rfl rfl rfl rfl hl.1 (Nat.le_of_ble_eq_true rfl) dX4_ifFinished_36 ⟨Nat.le_of_ble_eq_true rfl, Nat.le_of_ble_eq_true rfl⟩ (fun r_5 u_5 H locs hr_5 hP hD hS => ?_)
      have hr_5 : r_5 = nI (fiR z).2 := hr_5
      subst hr_5
      have hP : va_P G.1 vwCl (mw G a ((fiR z).1) z pa st sv pd tl ns ty spt tm) H := hP
      have hD : va_D A (mw G a ((fiR z).1) z pa st sv pd tl ns ty spt tm) := hD
      refine lv_pop hx hb dX4_ifFinished_39 rfl ?_
      refine lv_iload_n hx hb dX4_ifFinished_40 rfl (lv_at hl 2 rfl) ?_
      refine lv_iconst (v := 1) hx hb dX4_ifFinished_41 (by decide) ?_
      refine lv_icmp_ne (tgt := 50) hx hb dX4_ifFinished_42 (by decide) (fun c_42_6 => ?_) (fun c_42_6 => ?_)
      · refine lv_iload_n hx hb dX4_ifFinished_50 rfl (lv_at hl 2 rfl) ?_
        refine lv_iconst (v := 2) hx hb dX4_ifFinished_51 (by decide) ?_
        refine lv_icmp_ne (tgt := 60) hx hb dX4_ifFinished_52 (by decide) (fun c_52_7 => ?_) (fun c_52_7 => ?_)
        · refine lv_bipush (v := 8) hx hb dX4_ifFinished_60 (by decide) ?_
          refine lv_istore_n (lv' := [(3, .int 8), (0, .ref (a 0)), (1, .int (nI j)), (2, .int w)]) hx hb dX4_ifFinished_62 rfl hl (by decide) rfl (fun ls hl => ?_)
          refine lv_aload_n hx hb dX4_ifFinished_63 rfl (lv_at hl 1 rfl) ?_
          refine va_get (D := G.1) (ci := 4) (v := .ref (a 1)) (C := RX4) (T := TX4) (N := 11) hx hb hts hinX4 hown hK.1 hP 0 rfl rfl 0 (by decide) wk3 (fun _ h9 => h9) rfl dX4_ifFinished_64 ?_
          refine lv_iload_n hx hb dX4_ifFinished_67 rfl (lv_at hl 0 rfl) ?_
          refine lv_iload_n hx hb dX4_ifFinished_68 rfl (lv_at hl 2 rfl) ?_
          refine lv_iadd hx hb dX4_ifFinished_69 ?_
          refine qtop (nI_add 8 j) ?_
          refine qild hx hb hK.1 hP 1 0 rfl rfl (k := 8 + j) (nI_clamp (by omega)) (vp_in_nI (by omega) (by decide)) dX4_ifFinished_70 ?_
          refine lv_aload_n hx hb dX4_ifFinished_71 rfl (lv_at hl 1 rfl) ?_
          refine va_get (D := G.1) (ci := 4) (v := .ref (a 2)) (C := RX4) (T := TX4) (N := 11) hx hb hts hinX4 hown hK.1 hP 0 rfl rfl 1 (by decide) wk4 (fun _ h9 => h9) rfl dX4_ifFinished_72 ?_
          refine lv_iload_n hx hb dX4_ifFinished_75 rfl (lv_at hl 0 rfl) ?_
          refine lv_iload_n hx hb dX4_ifFinished_76 rfl (lv_at hl 2 rfl) ?_
          refine lv_iadd hx hb dX4_ifFinished_77 ?_
          refine qtop (nI_add 8 j) ?_
          refine qild hx hb hK.1 hP 2 0 rfl rfl (k := 8 + j) (nI_clamp (by omega)) (vp_in_nI (by omega) (by decide)) dX4_ifFinished_78 ?_
          refine lv_isub hx hb dX4_ifFinished_79 ?_
          refine lv_istore (lv' := [(4, .int ((((fiR z).1) (8 + j)) - (z (8 + j)))), (3, .int 8), (0, .ref (a 0)), (1, .int (nI j)), (2, .int w)]) hx hb dX4_ifFinished_80 hl (by decide) rfl (fun ls hl => ?_)
          refine lv_aload_n hx hb dX4_ifFinished_82 rfl (lv_at hl 2 rfl) ?_
          refine va_get (D := G.1) (ci := 4) (v := .ref (a 1)) (C := RX4) (T := TX4) (N := 11) hx hb hts hinX4 hown hK.1 hP 0 rfl rfl 0 (by decide) wk3 (fun _ h9 => h9) rfl dX4_ifFinished_83 ?_
          refine lv_bipush (v := 18) hx hb dX4_ifFinished_86 (by decide) ?_
          refine lv_iload_n hx hb dX4_ifFinished_88 rfl (lv_at hl 3 rfl) ?_
          refine lv_iadd hx hb dX4_ifFinished_89 ?_
          refine qtop (nI_add 18 j) ?_
          refine qild hx hb hK.1 hP 1 0 rfl rfl (k := 18 + j) (nI_clamp (by omega)) (vp_in_nI (by omega) (by decide)) dX4_ifFinished_90 ?_
          refine lv_istore (lv' := [(5, .int (((fiR z).1) (18 + j))), (4, .int ((((fiR z).1) (8 + j)) - (z (8 + j)))), (3, .int 8), (0, .ref (a 0)), (1, .int (nI j)), (2, .int w)]) hx hb dX4_ifFinished_91 hl (by decide) rfl (fun ls hl => ?_)
          refine lv_aload_n hx hb dX4_ifFinished_93 rfl (lv_at hl 3 rfl) ?_
          refine va_get (D := G.1) (ci := 4) (v := .ref (a 2)) (C := RX4) (T := TX4) (N := 11) hx hb hts hinX4 hown hK.1 hP 0 rfl rfl 1 (by decide) wk4 (fun _ h9 => h9) rfl dX4_ifFinished_94 ?_
          refine lv_iconst (v := 0) hx hb dX4_ifFinished_97 (by decide) ?_
          refine lv_aload_n hx hb dX4_ifFinished_98 rfl (lv_at hl 3 rfl) ?_
          refine va_get (D := G.1) (ci := 4) (v := .ref (a 1)) (C := RX4) (T := TX4) (N := 11) hx hb hts hinX4 hown hK.1 hP 0 rfl rfl 0 (by decide) wk3 (fun _ h9 => h9) rfl dX4_ifFinished_99 ?_
          refine lv_iconst (v := 0) hx hb dX4_ifFinished_102 (by decide) ?_
          refine cBV (As := [.ref (a 2), .int 0, .ref (a 1), .int 0]) (rest := []) ⟨hx, hb, hml, hown, hts⟩ (c_X4_copyState l G (a 2) (a 1) 53 53 0 0 z ((fiR z).1) z (by omega) (by omega) (by decide) (by decide) (cpy_all0 _ _) _) (cwS 4 hts gX4_ifFinished_X4_copyState rfl rfl rfl (by decide +kernel) ⟨Nat.le_of_ble_eq_true rfl, Nat.le_of_ble_eq_true rfl⟩) hK hP hD hS hA [2, 1] [0, 3, 4, 5, 6, 7] rfl (wr := [(a 0, .inr (4, [.ref (a 1), .ref (a 2), .ref (a 3), .int ns, .ref (a 4), .ref (a 5), .ref (a 6), .int ty, .int spt, .ref (a 7), .int tm])), (a 3, .inl (gI G, 318, .inl pa)), (a 4, .inl (gI G, 106, .inl st)), (a 5, .inl (gZ G, 2, .inl sv)), (a 6, .inl (gI G, 60, .inl pd)), (a 7, .inl (gI G, 31, .inl tl))]) rfl rfl rfl (by decide) rfl rfl hl.1 (Nat.le_of_ble_eq_true rfl) dX4_ifFinished_103 ⟨Nat.le_of_ble_eq_true rfl, Nat.le_of_ble_eq_true rfl⟩ (fun u_8 H locs hr_8 hP hD hS => ?_)
          have hP : va_P G.1 vwCl (mw G a z z pa st sv pd tl ns ty spt tm) H := hP.sub [0, 7, 6, 1, 2, 3, 4, 5] rfl
          have hD : va_D A (mw G a z z pa st sv pd tl ns ty spt tm) := hD.sub [0, 7, 6, 1, 2, 3, 4, 5] (by decide) rfl
          refine lv_iload_n hx hb dX4_ifFinished_106 rfl (lv_at hl 5 rfl) ?_
          refine lv_if_ne (tgt := 115) hx hb dX4_ifFinished_107 (by decide) (fun c_107_9 => ?_) (fun c_107_9 => ?_)
          · refine lv_iload hx hb dX4_ifFinished_115 (lv_at hl 1 rfl) ?_
            have hf0 : (z) = (if erW x w 3 = 0 then z else sp) := (by simp only [if_true, if_false, lz_o, lz_1, lz_2, lz_5, erW, ifV, ifW, if_neg c_4_1, hxj, if_neg c_16_3, if_neg c_42_6, if_neg c_52_7, if_neg c_107_9])
            have hP : va_P G.1 vwCl (mw G a z (if erW x w 3 = 0 then z else sp) pa st sv pd tl ns ty spt tm) H := by rw [← hf0]; exact hP
            have hD : va_D A (mw G a z (if erW x w 3 = 0 then z else sp) pa st sv pd tl ns ty spt tm) := by rw [← hf0]; exact hD
            exact hret _ _ _ _ _ () (by simp only [if_true, if_false, lz_o, lz_1, lz_2, lz_5, erW, ifV, ifW, if_neg c_4_1, hxj, if_neg c_16_3, if_neg c_42_6, if_neg c_52_7, if_neg c_107_9]) hP hD hS dX4_ifFinished_117
          · refine lv_iload hx hb dX4_ifFinished_110 (lv_at hl 0 rfl) ?_
            refine lv_goto (tgt := 117) hx hb dX4_ifFinished_112 (by decide) ?_
            have hf0 : (z) = (if erW x w 3 = 0 then z else sp) := (by simp only [if_true, if_false, lz_o, lz_1, lz_2, lz_5, erW, ifV, ifW, if_neg c_4_1, hxj, if_neg c_16_3, if_neg c_42_6, if_neg c_52_7, if_pos c_107_9])
            have hP : va_P G.1 vwCl (mw G a z (if erW x w 3 = 0 then z else sp) pa st sv pd tl ns ty spt tm) H := by rw [← hf0]; exact hP
            have hD : va_D A (mw G a z (if erW x w 3 = 0 then z else sp) pa st sv pd tl ns ty spt tm) := by rw [← hf0]; exact hD
            exact hret _ _ _ _ _ () (by simp only [if_true, if_false, lz_o, lz_1, lz_2, lz_5, erW, ifV, ifW, if_neg c_4_1, hxj, if_neg c_16_3, if_neg c_42_6, if_neg c_52_7, if_pos c_107_9]) hP hD hS dX4_ifFinished_117
        · refine lv_bipush (v := 38) hx hb dX4_ifFinished_55 (by decide) ?_
          refine lv_goto (tgt := 62) hx hb dX4_ifFinished_57 (by decide) ?_
          refine lv_istore_n (lv' := [(3, .int 38), (0, .ref (a 0)), (1, .int (nI j)), (2, .int w)]) hx hb dX4_ifFinished_62 rfl hl (by decide) rfl (fun ls hl => ?_)
          refine lv_aload_n hx hb dX4_ifFinished_63 rfl (lv_at hl 1 rfl) ?_
          refine va_get (D := G.1) (ci := 4) (v := .ref (a 1)) (C := RX4) (T := TX4) (N := 11) hx hb hts hinX4 hown hK.1 hP 0 rfl rfl 0 (by decide) wk3 (fun _ h9 => h9) rfl dX4_ifFinished_64 ?_
          refine lv_iload_n hx hb dX4_ifFinished_67 rfl (lv_at hl 0 rfl) ?_
          refine lv_iload_n hx hb dX4_ifFinished_68 rfl (lv_at hl 2 rfl) ?_
          refine lv_iadd hx hb dX4_ifFinished_69 ?_
          refine qtop (nI_add 38 j) ?_
          refine qild hx hb hK.1 hP 1 0 rfl rfl (k := 38 + j) (nI_clamp (by omega)) (vp_in_nI (by omega) (by decide)) dX4_ifFinished_70 ?_
          refine lv_aload_n hx hb dX4_ifFinished_71 rfl (lv_at hl 1 rfl) ?_
          refine va_get (D := G.1) (ci := 4) (v := .ref (a 2)) (C := RX4) (T := TX4) (N := 11) hx hb hts hinX4 hown hK.1 hP 0 rfl rfl 1 (by decide) wk4 (fun _ h9 => h9) rfl dX4_ifFinished_72 ?_
          refine lv_iload_n hx hb dX4_ifFinished_75 rfl (lv_at hl 0 rfl) ?_
          refine lv_iload_n hx hb dX4_ifFinished_76 rfl (lv_at hl 2 rfl) ?_
          refine lv_iadd hx hb dX4_ifFinished_77 ?_
          refine qtop (nI_add 38 j) ?_
          refine qild hx hb hK.1 hP 2 0 rfl rfl (k := 38 + j) (nI_clamp (by omega)) (vp_in_nI (by omega) (by decide)) dX4_ifFinished_78 ?_
          refine lv_isub hx hb dX4_ifFinished_79 ?_
          refine lv_istore (lv' := [(4, .int ((((fiR z).1) (38 + j)) - (z (38 + j)))), (3, .int 38), (0, .ref (a 0)), (1, .int (nI j)), (2, .int w)]) hx hb dX4_ifFinished_80 hl (by decide) rfl (fun ls hl => ?_)
          refine lv_aload_n hx hb dX4_ifFinished_82 rfl (lv_at hl 2 rfl) ?_
          refine va_get (D := G.1) (ci := 4) (v := .ref (a 1)) (C := RX4) (T := TX4) (N := 11) hx hb hts hinX4 hown hK.1 hP 0 rfl rfl 0 (by decide) wk3 (fun _ h9 => h9) rfl dX4_ifFinished_83 ?_
          refine lv_bipush (v := 18) hx hb dX4_ifFinished_86 (by decide) ?_
          refine lv_iload_n hx hb dX4_ifFinished_88 rfl (lv_at hl 3 rfl) ?_
          refine lv_iadd hx hb dX4_ifFinished_89 ?_
          refine qtop (nI_add 18 j) ?_
          refine qild hx hb hK.1 hP 1 0 rfl rfl (k := 18 + j) (nI_clamp (by omega)) (vp_in_nI (by omega) (by decide)) dX4_ifFinished_90 ?_
          refine lv_istore (lv' := [(5, .int (((fiR z).1) (18 + j))), (4, .int ((((fiR z).1) (38 + j)) - (z (38 + j)))), (3, .int 38), (0, .ref (a 0)), (1, .int (nI j)), (2, .int w)]) hx hb dX4_ifFinished_91 hl (by decide) rfl (fun ls hl => ?_)
          refine lv_aload_n hx hb dX4_ifFinished_93 rfl (lv_at hl 3 rfl) ?_
          refine va_get (D := G.1) (ci := 4) (v := .ref (a 2)) (C := RX4) (T := TX4) (N := 11) hx hb hts hinX4 hown hK.1 hP 0 rfl rfl 1 (by decide) wk4 (fun _ h9 => h9) rfl dX4_ifFinished_94 ?_
          refine lv_iconst (v := 0) hx hb dX4_ifFinished_97 (by decide) ?_
          refine lv_aload_n hx hb dX4_ifFinished_98 rfl (lv_at hl 3 rfl) ?_
          refine va_get (D := G.1) (ci := 4) (v := .ref (a 1)) (C := RX4) (T := TX4) (N := 11) hx hb hts hinX4 hown hK.1 hP 0 rfl rfl 0 (by decide) wk3 (fun _ h9 => h9) rfl dX4_ifFinished_99 ?_
          refine lv_iconst (v := 0) hx hb dX4_ifFinished_102 (by decide) ?_
          refine cBV (As := [.ref (a 2), .int 0, .ref (a 1), .int 0]) (rest := []) ⟨hx, hb, hml, hown, hts⟩ (c_X4_copyState l G (a 2) (a 1) 53 53 0 0 z ((fiR z).1) z (by omega) (by omega) (by decide) (by decide) (cpy_all0 _ _) _) (cwS 4 hts gX4_ifFinished_X4_copyState rfl rfl rfl (by decide +kernel) ⟨Nat.le_of_ble_eq_true rfl, Nat.le_of_ble_eq_true rfl⟩) hK hP hD hS hA [2, 1] [0, 3, 4, 5, 6, 7] rfl (wr := [(a 0, .inr (4, [.ref (a 1), .ref (a 2), .ref (a 3), .int ns, .ref (a 4), .ref (a 5), .ref (a 6), .int ty, .int spt, .ref (a 7), .int tm])), (a 3, .inl (gI G, 318, .inl pa)), (a 4, .inl (gI G, 106, .inl st)), (a 5, .inl (gZ G, 2, .inl sv)), (a 6, .inl (gI G, 60, .inl pd)), (a 7, .inl (gI G, 31, .inl tl))]) rfl rfl rfl (by decide) rfl rfl hl.1 (Nat.le_of_ble_eq_true rfl) dX4_ifFinished_103 ⟨Nat.le_of_ble_eq_true rfl, Nat.le_of_ble_eq_true rfl⟩ (fun u_10 H locs hr_10 hP hD hS => ?_)
          have hP : va_P G.1 vwCl (mw G a z z pa st sv pd tl ns ty spt tm) H := hP.sub [0, 7, 6, 1, 2, 3, 4, 5] rfl
          have hD : va_D A (mw G a z z pa st sv pd tl ns ty spt tm) := hD.sub [0, 7, 6, 1, 2, 3, 4, 5] (by decide) rfl
          refine lv_iload_n hx hb dX4_ifFinished_106 rfl (lv_at hl 5 rfl) ?_
          refine lv_if_ne (tgt := 115) hx hb dX4_ifFinished_107 (by decide) (fun c_107_11 => ?_) (fun c_107_11 => ?_)
          · refine lv_iload hx hb dX4_ifFinished_115 (lv_at hl 1 rfl) ?_
            have hf0 : (z) = (if erW x w 3 = 0 then z else sp) := (by simp only [if_true, if_false, lz_o, lz_1, lz_2, lz_5, erW, ifV, ifW, if_neg c_4_1, hxj, if_neg c_16_3, if_neg c_42_6, if_pos c_52_7, if_neg c_107_11])
            have hP : va_P G.1 vwCl (mw G a z (if erW x w 3 = 0 then z else sp) pa st sv pd tl ns ty spt tm) H := by rw [← hf0]; exact hP
            have hD : va_D A (mw G a z (if erW x w 3 = 0 then z else sp) pa st sv pd tl ns ty spt tm) := by rw [← hf0]; exact hD
            exact hret _ _ _ _ _ () (by simp only [if_true, if_false, lz_o, lz_1, lz_2, lz_5, erW, ifV, ifW, if_neg c_4_1, hxj, if_neg c_16_3, if_neg c_42_6, if_pos c_52_7, if_neg c_107_11]) hP hD hS dX4_ifFinished_117
          · refine lv_iload hx hb dX4_ifFinished_110 (lv_at hl 0 rfl) ?_
            refine lv_goto (tgt := 117) hx hb dX4_ifFinished_112 (by decide) ?_
            have hf0 : (z) = (if erW x w 3 = 0 then z else sp) := (by simp only [if_true, if_false, lz_o, lz_1, lz_2, lz_5, erW, ifV, ifW, if_neg c_4_1, hxj, if_neg c_16_3, if_neg c_42_6, if_pos c_52_7, if_pos c_107_11])
            have hP : va_P G.1 vwCl (mw G a z (if erW x w 3 = 0 then z else sp) pa st sv pd tl ns ty spt tm) H := by rw [← hf0]; exact hP
            have hD : va_D A (mw G a z (if erW x w 3 = 0 then z else sp) pa st sv pd tl ns ty spt tm) := by rw [← hf0]; exact hD
            exact hret _ _ _ _ _ () (by simp only [if_true, if_false, lz_o, lz_1, lz_2, lz_5, erW, ifV, ifW, if_neg c_4_1, hxj, if_neg c_16_3, if_neg c_42_6, if_pos c_52_7, if_pos c_107_11]) hP hD hS dX4_ifFinished_117
      · refine lv_bipush (v := 33) hx hb dX4_ifFinished_45 (by decide) ?_
        refine lv_goto (tgt := 62) hx hb dX4_ifFinished_47 (by decide) ?_
        refine lv_istore_n (lv' := [(3, .int 33), (0, .ref (a 0)), (1, .int (nI j)), (2, .int w)]) hx hb dX4_ifFinished_62 rfl hl (by decide) rfl (fun ls hl => ?_)
        refine lv_aload_n hx hb dX4_ifFinished_63 rfl (lv_at hl 1 rfl) ?_
        refine va_get (D := G.1) (ci := 4) (v := .ref (a 1)) (C := RX4) (T := TX4) (N := 11) hx hb hts hinX4 hown hK.1 hP 0 rfl rfl 0 (by decide) wk3 (fun _ h9 => h9) rfl dX4_ifFinished_64 ?_
        refine lv_iload_n hx hb dX4_ifFinished_67 rfl (lv_at hl 0 rfl) ?_
        refine lv_iload_n hx hb dX4_ifFinished_68 rfl (lv_at hl 2 rfl) ?_
        refine lv_iadd hx hb dX4_ifFinished_69 ?_
        refine qtop (nI_add 33 j) ?_
        refine qild hx hb hK.1 hP 1 0 rfl rfl (k := 33 + j) (nI_clamp (by omega)) (vp_in_nI (by omega) (by decide)) dX4_ifFinished_70 ?_
        refine lv_aload_n hx hb dX4_ifFinished_71 rfl (lv_at hl 1 rfl) ?_
        refine va_get (D := G.1) (ci := 4) (v := .ref (a 2)) (C := RX4) (T := TX4) (N := 11) hx hb hts hinX4 hown hK.1 hP 0 rfl rfl 1 (by decide) wk4 (fun _ h9 => h9) rfl dX4_ifFinished_72 ?_
        refine lv_iload_n hx hb dX4_ifFinished_75 rfl (lv_at hl 0 rfl) ?_
        refine lv_iload_n hx hb dX4_ifFinished_76 rfl (lv_at hl 2 rfl) ?_
        refine lv_iadd hx hb dX4_ifFinished_77 ?_
        refine qtop (nI_add 33 j) ?_
        refine qild hx hb hK.1 hP 2 0 rfl rfl (k := 33 + j) (nI_clamp (by omega)) (vp_in_nI (by omega) (by decide)) dX4_ifFinished_78 ?_
        refine lv_isub hx hb dX4_ifFinished_79 ?_
        refine lv_istore (lv' := [(4, .int ((((fiR z).1) (33 + j)) - (z (33 + j)))), (3, .int 33), (0, .ref (a 0)), (1, .int (nI j)), (2, .int w)]) hx hb dX4_ifFinished_80 hl (by decide) rfl (fun ls hl => ?_)
        refine lv_aload_n hx hb dX4_ifFinished_82 rfl (lv_at hl 2 rfl) ?_
        refine va_get (D := G.1) (ci := 4) (v := .ref (a 1)) (C := RX4) (T := TX4) (N := 11) hx hb hts hinX4 hown hK.1 hP 0 rfl rfl 0 (by decide) wk3 (fun _ h9 => h9) rfl dX4_ifFinished_83 ?_
        refine lv_bipush (v := 18) hx hb dX4_ifFinished_86 (by decide) ?_
        refine lv_iload_n hx hb dX4_ifFinished_88 rfl (lv_at hl 3 rfl) ?_
        refine lv_iadd hx hb dX4_ifFinished_89 ?_
        refine qtop (nI_add 18 j) ?_
        refine qild hx hb hK.1 hP 1 0 rfl rfl (k := 18 + j) (nI_clamp (by omega)) (vp_in_nI (by omega) (by decide)) dX4_ifFinished_90 ?_
        refine lv_istore (lv' := [(5, .int (((fiR z).1) (18 + j))), (4, .int ((((fiR z).1) (33 + j)) - (z (33 + j)))), (3, .int 33), (0, .ref (a 0)), (1, .int (nI j)), (2, .int w)]) hx hb dX4_ifFinished_91 hl (by decide) rfl (fun ls hl => ?_)
        refine lv_aload_n hx hb dX4_ifFinished_93 rfl (lv_at hl 3 rfl) ?_
        refine va_get (D := G.1) (ci := 4) (v := .ref (a 2)) (C := RX4) (T := TX4) (N := 11) hx hb hts hinX4 hown hK.1 hP 0 rfl rfl 1 (by decide) wk4 (fun _ h9 => h9) rfl dX4_ifFinished_94 ?_
        refine lv_iconst (v := 0) hx hb dX4_ifFinished_97 (by decide) ?_
        refine lv_aload_n hx hb dX4_ifFinished_98 rfl (lv_at hl 3 rfl) ?_
        refine va_get (D := G.1) (ci := 4) (v := .ref (a 1)) (C := RX4) (T := TX4) (N := 11) hx hb hts hinX4 hown hK.1 hP 0 rfl rfl 0 (by decide) wk3 (fun _ h9 => h9) rfl dX4_ifFinished_99 ?_
        refine lv_iconst (v := 0) hx hb dX4_ifFinished_102 (by decide) ?_
        refine cBV (As := [.ref (a 2), .int 0, .ref (a 1), .int 0]) (rest := []) ⟨hx, hb, hml, hown, hts⟩ (c_X4_copyState l G (a 2) (a 1) 53 53 0 0 z ((fiR z).1) z (by omega) (by omega) (by decide) (by decide) (cpy_all0 _ _) _) (cwS 4 hts gX4_ifFinished_X4_copyState rfl rfl rfl (by decide +kernel) ⟨Nat.le_of_ble_eq_true rfl, Nat.le_of_ble_eq_true rfl⟩) hK hP hD hS hA [2, 1] [0, 3, 4, 5, 6, 7] rfl (wr := [(a 0, .inr (4, [.ref (a 1), .ref (a 2), .ref (a 3), .int ns, .ref (a 4), .ref (a 5), .ref (a 6), .int ty, .int spt, .ref (a 7), .int tm])), (a 3, .inl (gI G, 318, .inl pa)), (a 4, .inl (gI G, 106, .inl st)), (a 5, .inl (gZ G, 2, .inl sv)), (a 6, .inl (gI G, 60, .inl pd)), (a 7, .inl (gI G, 31, .inl tl))]) rfl rfl rfl (by decide) rfl rfl hl.1 (Nat.le_of_ble_eq_true rfl) dX4_ifFinished_103 ⟨Nat.le_of_ble_eq_true rfl, Nat.le_of_ble_eq_true rfl⟩ (fun u_12 H locs hr_12 hP hD hS => ?_)
        have hP : va_P G.1 vwCl (mw G a z z pa st sv pd tl ns ty spt tm) H := hP.sub [0, 7, 6, 1, 2, 3, 4, 5] rfl
        have hD : va_D A (mw G a z z pa st sv pd tl ns ty spt tm) := hD.sub [0, 7, 6, 1, 2, 3, 4, 5] (by decide) rfl
        refine lv_iload_n hx hb dX4_ifFinished_106 rfl (lv_at hl 5 rfl) ?_
        refine lv_if_ne (tgt := 115) hx hb dX4_ifFinished_107 (by decide) (fun c_107_13 => ?_) (fun c_107_13 => ?_)
        · refine lv_iload hx hb dX4_ifFinished_115 (lv_at hl 1 rfl) ?_
          have hf0 : (z) = (if erW x w 3 = 0 then z else sp) := (by simp only [if_true, if_false, lz_o, lz_1, lz_2, lz_5, erW, ifV, ifW, if_neg c_4_1, hxj, if_neg c_16_3, if_pos c_42_6, if_neg c_107_13])
          have hP : va_P G.1 vwCl (mw G a z (if erW x w 3 = 0 then z else sp) pa st sv pd tl ns ty spt tm) H := by rw [← hf0]; exact hP
          have hD : va_D A (mw G a z (if erW x w 3 = 0 then z else sp) pa st sv pd tl ns ty spt tm) := by rw [← hf0]; exact hD
          exact hret _ _ _ _ _ () (by simp only [if_true, if_false, lz_o, lz_1, lz_2, lz_5, erW, ifV, ifW, if_neg c_4_1, hxj, if_neg c_16_3, if_pos c_42_6, if_neg c_107_13]) hP hD hS dX4_ifFinished_117
        · refine lv_iload hx hb dX4_ifFinished_110 (lv_at hl 0 rfl) ?_
          refine lv_goto (tgt := 117) hx hb dX4_ifFinished_112 (by decide) ?_
          have hf0 : (z) = (if erW x w 3 = 0 then z else sp) := (by simp only [if_true, if_false, lz_o, lz_1, lz_2, lz_5, erW, ifV, ifW, if_neg c_4_1, hxj, if_neg c_16_3, if_pos c_42_6, if_pos c_107_13])
          have hP : va_P G.1 vwCl (mw G a z (if erW x w 3 = 0 then z else sp) pa st sv pd tl ns ty spt tm) H := by rw [← hf0]; exact hP
          have hD : va_D A (mw G a z (if erW x w 3 = 0 then z else sp) pa st sv pd tl ns ty spt tm) := by rw [← hf0]; exact hD
          exact hret _ _ _ _ _ () (by simp only [if_true, if_false, lz_o, lz_1, lz_2, lz_5, erW, ifV, ifW, if_neg c_4_1, hxj, if_neg c_16_3, if_pos c_42_6, if_pos c_107_13]) hP hD hS dX4_ifFinished_117
    · refine lv_ldc (v := (-100002)) hx hb hown wk2 dX4_ifFinished_19 ?_
      have hf0 : (sp) = (if erW x w 3 = 0 then z else sp) := (by simp only [if_true, if_false, lz_o, lz_1, lz_2, lz_5, erW, ifV, ifW, if_neg c_4_1, hxj, if_pos c_16_3])
      have hP : va_P G.1 vwCl (mw G a z (if erW x w 3 = 0 then z else sp) pa st sv pd tl ns ty spt tm) s.heap := by rw [← hf0]; exact hP
      have hD : va_D A (mw G a z (if erW x w 3 = 0 then z else sp) pa st sv pd tl ns ty spt tm) := by rw [← hf0]; exact hD
      exact hret _ _ _ _ _ () (by simp only [if_true, if_false, lz_o, lz_1, lz_2, lz_5, erW, ifV, ifW, if_neg c_4_1, hxj, if_pos c_16_3]) hP hD hS dX4_ifFinished_21
  · refine lv_ldc (v := (-100001)) hx hb hown wk1 dX4_ifFinished_7 ?_
    have hf0 : (sp) = (if erW x w 3 = 0 then z else sp) := (by simp only [if_true, if_false, lz_o, lz_1, lz_2, lz_5, erW, ifV, ifW, if_pos c_4_1])
    have hP : va_P G.1 vwCl (mw G a z (if erW x w 3 = 0 then z else sp) pa st sv pd tl ns ty spt tm) s.heap := by rw [← hf0]; exact hP
    have hD : va_D A (mw G a z (if erW x w 3 = 0 then z else sp) pa st sv pd tl ns ty spt tm) := by rw [← hf0]; exact hD
    exact hret _ _ _ _ _ () (by simp only [if_true, if_false, lz_o, lz_1, lz_2, lz_5, erW, ifV, ifW, if_pos c_4_1]) hP hD hS dX4_ifFinished_9
set_option maxHeartbeats 4000000 in
set_option maxRecDepth 100000 in
theorem c_X4_bestLimit (l : Launch) (G : qG) (a : Nat → Nat) (z sp pa st sv pd tl : Nat → Int32) (ns ty spt tm : Int32) (x w : Int32) (hok : ¬ erW x w 1 = 0 ∨ ∀ i, i < 100 → FiOK (upd z (13 + ix x) (nI i))) (sz : Nat) : Met l yX4_bestLimit wsX4_bestLimit { frames := 5, cells := 0, slots := 0, locals := 113 } (PW G sz [.ref (a 0), .int x, .int w] (mw G a z sp pa st sv pd tl ns ty spt tm)) (QI (S := Nat → Int32) G sz (mw G a z sp pa st sv pd tl ns ty spt tm) (fun r₀ _ => r₀ = if erW x w 1 = 0 then (if w = 0 then (blR z x).1 else (blR z x).2) else erW x w 1) (fun u₀ => mw G a z u₀ pa st sv pd tl ns ty spt tm)) 0 0 (va_A (mw G a z sp pa st sv pd tl ns ty spt tm) sz) := by
  refine MI.of' (by decide) rfl (Nat.le_of_ble_eq_true rfl) ?_
  intro p e s m below meth c hx hb hml hown hts hK hsz hP A hAe hA hD hS Q hret ls hl
  have hown : s.vm.findClass RX4 = some m.cls := hown
  have hl : lv_has ls 8 [(0, .ref (a 0)), (1, .int x), (2, .int w)] := hl
  have wk1 := hts (Cond.constant RX4 69 (-100001)) (List.mem_of_getElem? (i := 1) rfl)
  have wk2 := hts (Cond.constant RX4 49 (-100002)) (List.mem_of_getElem? (i := 2) rfl)
  have wk3 := hts (Cond.constant RX4 39 (-100006)) (List.mem_of_getElem? (i := 3) rfl)
  have wk4 := hts (Cond.fieldLink RX4 7 "TurnBidsModel" "z" "[I") (List.mem_of_getElem? (i := 4) rfl)
  have wk5 := hts (Cond.fieldLink RX4 13 "TurnBidsModel" "spare" "[I") (List.mem_of_getElem? (i := 5) rfl)
  have wk6 := hts (Cond.methodLink RX4 65 yX4_isPlayer) (List.mem_of_getElem? (i := 6) rfl)
  have wk10 := hts (Cond.methodLink RX4 35 yX4_in) (List.mem_of_getElem? (i := 10) rfl)
  have wk16 := hts (Cond.methodLink RX4 112 yX4_finishNow) (List.mem_of_getElem? (i := 16) rfl)
  have hinX4 : ∀ w ∈ wsX40, w ∈ wsX4_bestLimit := fun _ h => (List.mem_cons_of_mem _ (List.mem_append_right _ h))
  refine lv_iload_n hx hb dX4_bestLimit_0 rfl (lv_at hl 1 rfl) ?_
  refine cPS (As := [.int x]) (rest := []) ⟨hx, hb, hml, hown, hts⟩ (c_X4_isPlayer l G x) (cwS 1 hts gX4_bestLimit_X4_isPlayer rfl rfl rfl (by decide +kernel) ⟨Nat.le_of_ble_eq_true rfl, Nat.le_of_ble_eq_true rfl⟩) hK (fun k q h => by simp at h) rfl rfl hl.1 (Nat.le_of_ble_eq_true rfl) dX4_bestLimit_1 ⟨Nat.le_of_ble_eq_true rfl, Nat.le_of_ble_eq_true rfl⟩ ?_
  refine lv_if_ne (tgt := 10) hx hb dX4_bestLimit_4 (by decide) (fun c_4_1 => ?_) (fun c_4_1 => ?_)
  · have hin_2 := inB5 c_4_1
    obtain ⟨j, hj, hej⟩ := vp_in_of (inB5 c_4_1) (by decide)
    rw [hej] at hl
    have hxj : ix x = j := by rw [hej]; exact nI_clamp (by omega)
    refine lv_iload_n hx hb dX4_bestLimit_10 rfl (lv_at hl 2 rfl) ?_
    refine lv_iconst (v := 0) hx hb dX4_bestLimit_11 (by decide) ?_
    refine lv_iconst (v := 1) hx hb dX4_bestLimit_12 (by decide) ?_
    refine cPS (As := [.int w, .int 0, .int 1]) (rest := []) ⟨hx, hb, hml, hown, hts⟩ (c_X4_in l G w 0 1) (cwS 3 hts gX4_bestLimit_X4_in rfl rfl rfl (by decide +kernel) ⟨Nat.le_of_ble_eq_true rfl, Nat.le_of_ble_eq_true rfl⟩) hK (fun k q h => by simp at h) rfl rfl hl.1 (Nat.le_of_ble_eq_true rfl) dX4_bestLimit_13 ⟨Nat.le_of_ble_eq_true rfl, Nat.le_of_ble_eq_true rfl⟩ ?_
    refine lv_if_ne (tgt := 22) hx hb dX4_bestLimit_16 (by decide) (fun c_16_3 => ?_) (fun c_16_3 => ?_)
    · have hfo : ∀ i, i < 100 → FiOK (upd z (13 + j) (nI i)) := by rw [← hxj]; exact hok.resolve_left (fun q => q (by simp only [erW, if_true, if_false, lz_o, lz_1, lz_2, lz_5, if_neg c_4_1, if_neg c_16_3]))
      refine lv_ldc (v := (-100006)) hx hb hown wk3 dX4_bestLimit_22 ?_
      refine lv_istore_n (lv' := [(3, .int (-100006)), (0, .ref (a 0)), (1, .int (nI j)), (2, .int w)]) hx hb dX4_bestLimit_24 rfl hl (by decide) rfl (fun ls hl => ?_)
      refine lv_iconst (v := 0) hx hb dX4_bestLimit_25 (by decide) ?_
      refine lv_istore (lv' := [(4, .int 0), (3, .int (-100006)), (0, .ref (a 0)), (1, .int (nI j)), (2, .int w)]) hx hb dX4_bestLimit_26 hl (by decide) rfl (fun ls hl => ?_)
      refine lv_iconst (v := 0) hx hb dX4_bestLimit_28 (by decide) ?_
      refine lv_istore (lv' := [(5, .int 0), (4, .int 0), (3, .int (-100006)), (0, .ref (a 0)), (1, .int (nI j)), (2, .int w)]) hx hb dX4_bestLimit_29 hl (by decide) rfl (fun ls hl => ?_)
      have L31 : ∀ (f i : Nat) (b : Int32) (k : Int32) (y : Nat → Int32), i + f = 100 → blL z x f i b k = blR z x → ∀ (H : Heap) (locs : List Loc), va_P G.1 vwCl (mw G a z y pa st sv pd tl ns ty spt tm) H → va_D A (mw G a z y pa st sv pd tl ns ty spt tm) → va_S A s.heap H locs → ∀ ls : Array Slot, lv_has ls 8 [(5, .int (nI i)), (4, .int k), (3, .int b), (0, .ref (a 0)), (1, .int (nI j)), (2, .int w)] → W p l e { frames := 5, cells := 0, slots := 0, locals := 113 } s m ([.ref (a 0), .int x, .int w] : List Value).toArray below meth c H locs 0 0 Q (F0 m 31 ls []) := by
        intro f
        induction f with
        | zero =>
          intro i b k y hi hv31 H locs hP hD hS ls hl
          obtain rfl : i = 100 := by omega
          refine lv_iload hx hb dX4_bestLimit_31 (lv_at hl 0 rfl) ?_
          refine lv_bipush (v := 100) hx hb dX4_bestLimit_33 (by decide) ?_
          refine lv_icmp_ge (tgt := 153) hx hb dX4_bestLimit_35 (by decide) (fun _ => ?_) (fun c_9 => absurd (by decide +kernel) c_9)
          refine lv_iload_n hx hb dX4_bestLimit_153 rfl (lv_at hl 5 rfl) ?_
          refine lv_if_ne (tgt := 161) hx hb dX4_bestLimit_154 (by decide) (fun c_154_4 => ?_) (fun c_154_4 => ?_)
          · refine lv_iload hx hb dX4_bestLimit_161 (lv_at hl 1 rfl) ?_
            exact hret _ _ _ _ _ (y) (by rw [← hv31]; simp only [if_true, if_false, lz_o, lz_1, lz_2, lz_5, erW, blR, blL, blI, if_neg c_4_1, hxj, if_neg c_16_3, if_neg c_154_4]) hP hD hS dX4_bestLimit_163
          · refine lv_iload_n hx hb dX4_bestLimit_157 rfl (lv_at hl 2 rfl) ?_
            refine lv_goto (tgt := 163) hx hb dX4_bestLimit_158 (by decide) ?_
            exact hret _ _ _ _ _ (y) (by rw [← hv31]; simp only [if_true, if_false, lz_o, lz_1, lz_2, lz_5, erW, blR, blL, blI, if_neg c_4_1, hxj, if_neg c_16_3, if_pos c_154_4]) hP hD hS dX4_bestLimit_163
        | succ f ih =>
          intro i b k y hi hv31 H locs hP hD hS ls hl
          have hlt : i < 100 := by omega
          refine lv_iload hx hb dX4_bestLimit_31 (lv_at hl 0 rfl) ?_
          refine lv_bipush (v := 100) hx hb dX4_bestLimit_33 (by decide) ?_
          refine lv_icmp_ge (tgt := 153) hx hb dX4_bestLimit_35 (by decide) (fun c_9 => absurd c_9 (nI_ge (b := 100) hlt (by decide))) (fun _ => ?_)
          refine lv_aload_n hx hb dX4_bestLimit_38 rfl (lv_at hl 3 rfl) ?_
          refine va_get (D := G.1) (ci := 4) (v := .ref (a 1)) (C := RX4) (T := TX4) (N := 11) hx hb hts hinX4 hown hK.1 hP 0 rfl rfl 0 (by decide) wk4 (fun _ h9 => h9) rfl dX4_bestLimit_39 ?_
          refine lv_iconst (v := 0) hx hb dX4_bestLimit_42 (by decide) ?_
          refine lv_aload_n hx hb dX4_bestLimit_43 rfl (lv_at hl 3 rfl) ?_
          refine va_get (D := G.1) (ci := 4) (v := .ref (a 2)) (C := RX4) (T := TX4) (N := 11) hx hb hts hinX4 hown hK.1 hP 0 rfl rfl 1 (by decide) wk5 (fun _ h9 => h9) rfl dX4_bestLimit_44 ?_
          refine lv_iconst (v := 0) hx hb dX4_bestLimit_47 (by decide) ?_
          refine cBV (As := [.ref (a 1), .int 0, .ref (a 2), .int 0]) (rest := []) ⟨hx, hb, hml, hown, hts⟩ (c_X4_copyState l G (a 1) (a 2) 53 53 0 0 z y z (by omega) (by omega) (by decide) (by decide) (cpy_all0 _ _) _) (cwS 4 hts gX4_bestLimit_X4_copyState rfl rfl rfl (by decide +kernel) ⟨Nat.le_of_ble_eq_true rfl, Nat.le_of_ble_eq_true rfl⟩) hK hP hD hS hA [1, 2] [0, 3, 4, 5, 6, 7] rfl (wr := [(a 0, .inr (4, [.ref (a 1), .ref (a 2), .ref (a 3), .int ns, .ref (a 4), .ref (a 5), .ref (a 6), .int ty, .int spt, .ref (a 7), .int tm])), (a 3, .inl (gI G, 318, .inl pa)), (a 4, .inl (gI G, 106, .inl st)), (a 5, .inl (gZ G, 2, .inl sv)), (a 6, .inl (gI G, 60, .inl pd)), (a 7, .inl (gI G, 31, .inl tl))]) rfl rfl rfl (by decide) rfl rfl hl.1 (Nat.le_of_ble_eq_true rfl) dX4_bestLimit_48 ⟨Nat.le_of_ble_eq_true rfl, Nat.le_of_ble_eq_true rfl⟩ (fun u_5 H locs hr_5 hP hD hS => ?_)
          have hP : va_P G.1 vwCl (mw G a z z pa st sv pd tl ns ty spt tm) H := hP.sub [0, 6, 7, 1, 2, 3, 4, 5] rfl
          have hD : va_D A (mw G a z z pa st sv pd tl ns ty spt tm) := hD.sub [0, 6, 7, 1, 2, 3, 4, 5] (by decide) rfl
          refine lv_aload_n hx hb dX4_bestLimit_51 rfl (lv_at hl 3 rfl) ?_
          refine va_get (D := G.1) (ci := 4) (v := .ref (a 1)) (C := RX4) (T := TX4) (N := 11) hx hb hts hinX4 hown hK.1 hP 0 rfl rfl 0 (by decide) wk4 (fun _ h9 => h9) rfl dX4_bestLimit_52 ?_
          refine lv_bipush (v := 13) hx hb dX4_bestLimit_55 (by decide) ?_
          refine lv_iload_n hx hb dX4_bestLimit_57 rfl (lv_at hl 4 rfl) ?_
          refine lv_iadd hx hb dX4_bestLimit_58 ?_
          refine qtop (nI_add 13 j) ?_
          refine lv_iload hx hb dX4_bestLimit_59 (lv_at hl 0 rfl) ?_
          refine qist hx hb hK.1 hP hD hS 1 0 rfl rfl (k := 13 + j) (nI_clamp (by omega)) (vp_in_nI (by omega) (by decide)) dX4_bestLimit_61 (fun H locs hP hD hS => ?_)
          have hP : va_P G.1 vwCl (mw G a (upd z (13 + j) (nI i)) z pa st sv pd tl ns ty spt tm) H := hP
          have hD : va_D A (mw G a (upd z (13 + j) (nI i)) z pa st sv pd tl ns ty spt tm) := hD
          refine lv_aload_n hx hb dX4_bestLimit_62 rfl (lv_at hl 3 rfl) ?_
          refine cAI (As := []) (rest := []) ⟨hx, hb, hml, hown, hts⟩ (c_X4_finishNow l G a (upd z (13 + j) (nI i)) z pa st sv pd tl ns ty spt tm (hfo _ (by omega)) _) (cwV 0 hts gX4_bestLimit_X4_finishNow rfl rfl rfl (by decide +kernel) ⟨Nat.le_of_ble_eq_true rfl, Nat.le_of_ble_eq_true rfl⟩) hK hP hD hS hA 0 (ci := 4) rfl rfl rfl rfl rfl hl.1 (Nat.le_of_ble_eq_true rfl) dX4_bestLimit_63 ⟨Nat.le_of_ble_eq_true rfl, Nat.le_of_ble_eq_true rfl⟩ (fun r_6 u_6 H locs hr_6 hP hD hS => ?_)
          have hr_6 : r_6 = nI (fiR (upd z (13 + j) (nI i))).2 := hr_6
          subst hr_6
          have hP : va_P G.1 vwCl (mw G a ((fiR (upd z (13 + j) (nI i))).1) z pa st sv pd tl ns ty spt tm) H := hP
          have hD : va_D A (mw G a ((fiR (upd z (13 + j) (nI i))).1) z pa st sv pd tl ns ty spt tm) := hD
          refine lv_pop hx hb dX4_bestLimit_66 rfl ?_
          refine lv_aload_n hx hb dX4_bestLimit_67 rfl (lv_at hl 3 rfl) ?_
          refine va_get (D := G.1) (ci := 4) (v := .ref (a 1)) (C := RX4) (T := TX4) (N := 11) hx hb hts hinX4 hown hK.1 hP 0 rfl rfl 0 (by decide) wk4 (fun _ h9 => h9) rfl dX4_bestLimit_68 ?_
          refine lv_bipush (v := 8) hx hb dX4_bestLimit_71 (by decide) ?_
          refine lv_iload_n hx hb dX4_bestLimit_73 rfl (lv_at hl 4 rfl) ?_
          refine lv_iadd hx hb dX4_bestLimit_74 ?_
          refine qtop (nI_add 8 j) ?_
          refine qild hx hb hK.1 hP 1 0 rfl rfl (k := 8 + j) (nI_clamp (by omega)) (vp_in_nI (by omega) (by decide)) dX4_bestLimit_75 ?_
          refine lv_aload_n hx hb dX4_bestLimit_76 rfl (lv_at hl 3 rfl) ?_
          refine va_get (D := G.1) (ci := 4) (v := .ref (a 2)) (C := RX4) (T := TX4) (N := 11) hx hb hts hinX4 hown hK.1 hP 0 rfl rfl 1 (by decide) wk5 (fun _ h9 => h9) rfl dX4_bestLimit_77 ?_
          refine lv_bipush (v := 8) hx hb dX4_bestLimit_80 (by decide) ?_
          refine lv_iload_n hx hb dX4_bestLimit_82 rfl (lv_at hl 4 rfl) ?_
          refine lv_iadd hx hb dX4_bestLimit_83 ?_
          refine qtop (nI_add 8 j) ?_
          refine qild hx hb hK.1 hP 2 0 rfl rfl (k := 8 + j) (nI_clamp (by omega)) (vp_in_nI (by omega) (by decide)) dX4_bestLimit_84 ?_
          refine lv_isub hx hb dX4_bestLimit_85 ?_
          refine lv_istore (lv' := [(6, .int ((((fiR (upd z (13 + j) (nI i))).1) (8 + j)) - (z (8 + j)))), (5, .int (nI i)), (4, .int k), (3, .int b), (0, .ref (a 0)), (1, .int (nI j)), (2, .int w)]) hx hb dX4_bestLimit_86 hl (by decide) rfl (fun ls hl => ?_)
          refine lv_aload_n hx hb dX4_bestLimit_88 rfl (lv_at hl 4 rfl) ?_
          refine va_get (D := G.1) (ci := 4) (v := .ref (a 2)) (C := RX4) (T := TX4) (N := 11) hx hb hts hinX4 hown hK.1 hP 0 rfl rfl 1 (by decide) wk5 (fun _ h9 => h9) rfl dX4_bestLimit_89 ?_
          refine lv_iconst (v := 0) hx hb dX4_bestLimit_92 (by decide) ?_
          refine lv_aload_n hx hb dX4_bestLimit_93 rfl (lv_at hl 4 rfl) ?_
          refine va_get (D := G.1) (ci := 4) (v := .ref (a 1)) (C := RX4) (T := TX4) (N := 11) hx hb hts hinX4 hown hK.1 hP 0 rfl rfl 0 (by decide) wk4 (fun _ h9 => h9) rfl dX4_bestLimit_94 ?_
          refine lv_iconst (v := 0) hx hb dX4_bestLimit_97 (by decide) ?_
          refine cBV (As := [.ref (a 2), .int 0, .ref (a 1), .int 0]) (rest := []) ⟨hx, hb, hml, hown, hts⟩ (c_X4_copyState l G (a 2) (a 1) 53 53 0 0 z ((fiR (upd z (13 + j) (nI i))).1) z (by omega) (by omega) (by decide) (by decide) (cpy_all0 _ _) _) (cwS 4 hts gX4_bestLimit_X4_copyState rfl rfl rfl (by decide +kernel) ⟨Nat.le_of_ble_eq_true rfl, Nat.le_of_ble_eq_true rfl⟩) hK hP hD hS hA [2, 1] [0, 3, 4, 5, 6, 7] rfl (wr := [(a 0, .inr (4, [.ref (a 1), .ref (a 2), .ref (a 3), .int ns, .ref (a 4), .ref (a 5), .ref (a 6), .int ty, .int spt, .ref (a 7), .int tm])), (a 3, .inl (gI G, 318, .inl pa)), (a 4, .inl (gI G, 106, .inl st)), (a 5, .inl (gZ G, 2, .inl sv)), (a 6, .inl (gI G, 60, .inl pd)), (a 7, .inl (gI G, 31, .inl tl))]) rfl rfl rfl (by decide) rfl rfl hl.1 (Nat.le_of_ble_eq_true rfl) dX4_bestLimit_98 ⟨Nat.le_of_ble_eq_true rfl, Nat.le_of_ble_eq_true rfl⟩ (fun u_7 H locs hr_7 hP hD hS => ?_)
          have hP : va_P G.1 vwCl (mw G a z z pa st sv pd tl ns ty spt tm) H := hP.sub [0, 7, 6, 1, 2, 3, 4, 5] rfl
          have hD : va_D A (mw G a z z pa st sv pd tl ns ty spt tm) := hD.sub [0, 7, 6, 1, 2, 3, 4, 5] (by decide) rfl
          refine lv_iload_n hx hb dX4_bestLimit_101 rfl (lv_at hl 3 rfl) ?_
          refine lv_ldc (v := (-100006)) hx hb hown wk3 dX4_bestLimit_102 ?_
          refine lv_icmp_eq (tgt := 114) hx hb dX4_bestLimit_104 (by decide) (fun c_104_8 => ?_) (fun c_104_8 => ?_)
          · refine lv_iconst (v := 1) hx hb dX4_bestLimit_114 (by decide) ?_
            refine lv_goto (tgt := 119) hx hb dX4_bestLimit_115 (by decide) ?_
            refine lv_istore (lv' := [(7, .int 1), (6, .int ((((fiR (upd z (13 + j) (nI i))).1) (8 + j)) - (z (8 + j)))), (5, .int (nI i)), (4, .int k), (3, .int b), (0, .ref (a 0)), (1, .int (nI j)), (2, .int w)]) hx hb dX4_bestLimit_119 hl (by decide) rfl (fun ls hl => ?_)
            refine lv_iload hx hb dX4_bestLimit_121 (lv_at hl 0 rfl) ?_
            refine lv_if_eq (tgt := 131) hx hb dX4_bestLimit_123 (by decide) (fun c_9 => absurd c_9 (by decide)) (fun _ => ?_)
            refine lv_iload hx hb dX4_bestLimit_126 (lv_at hl 2 rfl) ?_
            refine lv_goto (tgt := 132) hx hb dX4_bestLimit_128 (by decide) ?_
            refine lv_istore_n (lv' := [(3, .int (nI i)), (7, .int 1), (6, .int ((((fiR (upd z (13 + j) (nI i))).1) (8 + j)) - (z (8 + j)))), (5, .int (nI i)), (4, .int k), (0, .ref (a 0)), (1, .int (nI j)), (2, .int w)]) hx hb dX4_bestLimit_132 rfl hl (by decide) rfl (fun ls hl => ?_)
            refine lv_iload hx hb dX4_bestLimit_133 (lv_at hl 1 rfl) ?_
            refine lv_if_eq (tgt := 143) hx hb dX4_bestLimit_135 (by decide) (fun c_9 => absurd c_9 (by decide)) (fun _ => ?_)
            refine lv_iload hx hb dX4_bestLimit_138 (lv_at hl 2 rfl) ?_
            refine lv_goto (tgt := 145) hx hb dX4_bestLimit_140 (by decide) ?_
            refine lv_istore (lv' := [(4, .int ((((fiR (upd z (13 + j) (nI i))).1) (8 + j)) - (z (8 + j)))), (3, .int (nI i)), (7, .int 1), (6, .int ((((fiR (upd z (13 + j) (nI i))).1) (8 + j)) - (z (8 + j)))), (5, .int (nI i)), (0, .ref (a 0)), (1, .int (nI j)), (2, .int w)]) hx hb dX4_bestLimit_145 hl (by decide) rfl (fun ls hl => ?_)
            refine lv_iinc (v := nI (i + 1)) (lv' := [(5, .int (nI (i + 1))), (4, .int ((((fiR (upd z (13 + j) (nI i))).1) (8 + j)) - (z (8 + j)))), (3, .int (nI i)), (7, .int 1), (6, .int ((((fiR (upd z (13 + j) (nI i))).1) (8 + j)) - (z (8 + j)))), (0, .ref (a 0)), (1, .int (nI j)), (2, .int w)]) hx hb dX4_bestLimit_147 hl (k := 4) rfl (nI_1 _) (by decide) rfl (fun ls hl => ?_)
            refine lv_goto (tgt := 31) hx hb dX4_bestLimit_150 (by decide) ?_
            exact ih (i + 1) (nI i) ((((fiR (upd z (13 + j) (nI i))).1) (8 + j)) - (z (8 + j))) z (by omega) (by rw [← hv31]; simp only [if_true, if_false, lz_o, lz_1, lz_2, lz_5, erW, blR, blL, blI, if_neg c_4_1, hxj, if_neg c_16_3, if_pos c_104_8]) _ _ hP hD hS ls (lv_sub hl [0, 1, 2, 5, 6, 7] rfl)
          · refine lv_iload hx hb dX4_bestLimit_107 (lv_at hl 0 rfl) ?_
            refine lv_iload hx hb dX4_bestLimit_109 (lv_at hl 2 rfl) ?_
            refine lv_icmp_le (tgt := 118) hx hb dX4_bestLimit_111 (by decide) (fun c_111_9 => ?_) (fun c_111_9 => ?_)
            · refine lv_iconst (v := 0) hx hb dX4_bestLimit_118 (by decide) ?_
              refine lv_istore (lv' := [(7, .int 0), (6, .int ((((fiR (upd z (13 + j) (nI i))).1) (8 + j)) - (z (8 + j)))), (5, .int (nI i)), (4, .int k), (3, .int b), (0, .ref (a 0)), (1, .int (nI j)), (2, .int w)]) hx hb dX4_bestLimit_119 hl (by decide) rfl (fun ls hl => ?_)
              refine lv_iload hx hb dX4_bestLimit_121 (lv_at hl 0 rfl) ?_
              refine lv_if_eq (tgt := 131) hx hb dX4_bestLimit_123 (by decide) (fun _ => ?_) (fun c_9 => absurd (by decide) c_9)
              refine lv_iload_n hx hb dX4_bestLimit_131 rfl (lv_at hl 4 rfl) ?_
              refine lv_istore_n (lv' := [(3, .int b), (7, .int 0), (6, .int ((((fiR (upd z (13 + j) (nI i))).1) (8 + j)) - (z (8 + j)))), (5, .int (nI i)), (4, .int k), (0, .ref (a 0)), (1, .int (nI j)), (2, .int w)]) hx hb dX4_bestLimit_132 rfl hl (by decide) rfl (fun ls hl => ?_)
              refine lv_iload hx hb dX4_bestLimit_133 (lv_at hl 1 rfl) ?_
              refine lv_if_eq (tgt := 143) hx hb dX4_bestLimit_135 (by decide) (fun _ => ?_) (fun c_9 => absurd (by decide) c_9)
              refine lv_iload hx hb dX4_bestLimit_143 (lv_at hl 4 rfl) ?_
              refine lv_istore (lv' := [(4, .int k), (3, .int b), (7, .int 0), (6, .int ((((fiR (upd z (13 + j) (nI i))).1) (8 + j)) - (z (8 + j)))), (5, .int (nI i)), (0, .ref (a 0)), (1, .int (nI j)), (2, .int w)]) hx hb dX4_bestLimit_145 hl (by decide) rfl (fun ls hl => ?_)
              refine lv_iinc (v := nI (i + 1)) (lv' := [(5, .int (nI (i + 1))), (4, .int k), (3, .int b), (7, .int 0), (6, .int ((((fiR (upd z (13 + j) (nI i))).1) (8 + j)) - (z (8 + j)))), (0, .ref (a 0)), (1, .int (nI j)), (2, .int w)]) hx hb dX4_bestLimit_147 hl (k := 4) rfl (nI_1 _) (by decide) rfl (fun ls hl => ?_)
              refine lv_goto (tgt := 31) hx hb dX4_bestLimit_150 (by decide) ?_
              exact ih (i + 1) b k z (by omega) (by rw [← hv31]; simp only [if_true, if_false, lz_o, lz_1, lz_2, lz_5, erW, blR, blL, blI, if_neg c_4_1, hxj, if_neg c_16_3, if_neg c_104_8, if_pos c_111_9]) _ _ hP hD hS ls (lv_sub hl [0, 1, 2, 5, 6, 7] rfl)
            · refine lv_iconst (v := 1) hx hb dX4_bestLimit_114 (by decide) ?_
              refine lv_goto (tgt := 119) hx hb dX4_bestLimit_115 (by decide) ?_
              refine lv_istore (lv' := [(7, .int 1), (6, .int ((((fiR (upd z (13 + j) (nI i))).1) (8 + j)) - (z (8 + j)))), (5, .int (nI i)), (4, .int k), (3, .int b), (0, .ref (a 0)), (1, .int (nI j)), (2, .int w)]) hx hb dX4_bestLimit_119 hl (by decide) rfl (fun ls hl => ?_)
              refine lv_iload hx hb dX4_bestLimit_121 (lv_at hl 0 rfl) ?_
              refine lv_if_eq (tgt := 131) hx hb dX4_bestLimit_123 (by decide) (fun c_9 => absurd c_9 (by decide)) (fun _ => ?_)
              refine lv_iload hx hb dX4_bestLimit_126 (lv_at hl 2 rfl) ?_
              refine lv_goto (tgt := 132) hx hb dX4_bestLimit_128 (by decide) ?_
              refine lv_istore_n (lv' := [(3, .int (nI i)), (7, .int 1), (6, .int ((((fiR (upd z (13 + j) (nI i))).1) (8 + j)) - (z (8 + j)))), (5, .int (nI i)), (4, .int k), (0, .ref (a 0)), (1, .int (nI j)), (2, .int w)]) hx hb dX4_bestLimit_132 rfl hl (by decide) rfl (fun ls hl => ?_)
              refine lv_iload hx hb dX4_bestLimit_133 (lv_at hl 1 rfl) ?_
              refine lv_if_eq (tgt := 143) hx hb dX4_bestLimit_135 (by decide) (fun c_9 => absurd c_9 (by decide)) (fun _ => ?_)
              refine lv_iload hx hb dX4_bestLimit_138 (lv_at hl 2 rfl) ?_
              refine lv_goto (tgt := 145) hx hb dX4_bestLimit_140 (by decide) ?_
              refine lv_istore (lv' := [(4, .int ((((fiR (upd z (13 + j) (nI i))).1) (8 + j)) - (z (8 + j)))), (3, .int (nI i)), (7, .int 1), (6, .int ((((fiR (upd z (13 + j) (nI i))).1) (8 + j)) - (z (8 + j)))), (5, .int (nI i)), (0, .ref (a 0)), (1, .int (nI j)), (2, .int w)]) hx hb dX4_bestLimit_145 hl (by decide) rfl (fun ls hl => ?_)
              refine lv_iinc (v := nI (i + 1)) (lv' := [(5, .int (nI (i + 1))), (4, .int ((((fiR (upd z (13 + j) (nI i))).1) (8 + j)) - (z (8 + j)))), (3, .int (nI i)), (7, .int 1), (6, .int ((((fiR (upd z (13 + j) (nI i))).1) (8 + j)) - (z (8 + j)))), (0, .ref (a 0)), (1, .int (nI j)), (2, .int w)]) hx hb dX4_bestLimit_147 hl (k := 4) rfl (nI_1 _) (by decide) rfl (fun ls hl => ?_)
              refine lv_goto (tgt := 31) hx hb dX4_bestLimit_150 (by decide) ?_
              exact ih (i + 1) (nI i) ((((fiR (upd z (13 + j) (nI i))).1) (8 + j)) - (z (8 + j))) z (by omega) (by rw [← hv31]; simp only [if_true, if_false, lz_o, lz_1, lz_2, lz_5, erW, blR, blL, blI, if_neg c_4_1, hxj, if_neg c_16_3, if_neg c_104_8, if_neg c_111_9]) _ _ hP hD hS ls (lv_sub hl [0, 1, 2, 5, 6, 7] rfl)
      exact L31 100 0 (-100006) 0 sp rfl (by simp only [if_true, if_false, lz_o, lz_1, lz_2, lz_5, erW, blR, if_neg c_4_1, hxj, if_neg c_16_3]) _ _ hP hD hS ls (lv_sub hl [0, 1, 2, 3, 4, 5] rfl)
    · refine lv_ldc (v := (-100002)) hx hb hown wk2 dX4_bestLimit_19 ?_
      exact hret _ _ _ _ _ (sp) (by simp only [if_true, if_false, lz_o, lz_1, lz_2, lz_5, erW, blR, if_neg c_4_1, hxj, if_pos c_16_3]) hP hD hS dX4_bestLimit_21
  · refine lv_ldc (v := (-100001)) hx hb hown wk1 dX4_bestLimit_7 ?_
    exact hret _ _ _ _ _ (sp) (by simp only [if_true, if_false, lz_o, lz_1, lz_2, lz_5, erW, blR, if_pos c_4_1]) hP hD hS dX4_bestLimit_9
set_option maxHeartbeats 4000000 in
set_option maxRecDepth 100000 in
theorem c_X4_play (l : Launch) (G : qG) (a : Nat → Nat) (z sp pa st sv pd tl : Nat → Int32) (ns ty spt tm : Int32) (r : Nat) (hr100 : r < 2147483648) (hok : PlOK r z) (sz : Nat) : MV l yX4_play wsX4_play 5 113 G sz [.ref (a 0), .int (nI r)] (mw G a z sp pa st sv pd tl ns ty spt tm) (mw G a (pyL r z) z pa st sv pd tl ns ty spt tm) := by
  refine MV.of' (by decide) rfl (Nat.le_of_ble_eq_true rfl) ?_
  intro p e s m below meth c hx hb hml hown hts hK hsz hP A hAe hA hD hS hmn Q hret ls hl
  have hown : s.vm.findClass RX4 = some m.cls := hown
  have hl : lv_has ls 3 [(0, .ref (a 0)), (1, .int (nI r))] := hl
  have wk1 := hts (Cond.fieldLink RX4 7 "TurnBidsModel" "z" "[I") (List.mem_of_getElem? (i := 1) rfl)
  have wk2 := hts (Cond.fieldLink RX4 13 "TurnBidsModel" "spare" "[I") (List.mem_of_getElem? (i := 2) rfl)
  have wk7 := hts (Cond.methodLink RX4 112 yX4_finishNow) (List.mem_of_getElem? (i := 7) rfl)
  have hinX4 : ∀ w ∈ wsX40, w ∈ wsX4_play := fun _ h => (List.mem_cons_of_mem _ (List.mem_append_right _ h))
  have hfo0 : PlOK (r - 0) z := hok
  refine lv_aload_n hx hb dX4_play_0 rfl (lv_at hl 0 rfl) ?_
  refine va_get (D := G.1) (ci := 4) (v := .ref (a 1)) (C := RX4) (T := TX4) (N := 11) hx hb hts hinX4 hown hK.1 hP 0 rfl rfl 0 (by decide) wk1 (fun _ h9 => h9) rfl dX4_play_1 ?_
  refine lv_iconst (v := 0) hx hb dX4_play_4 (by decide) ?_
  refine lv_aload_n hx hb dX4_play_5 rfl (lv_at hl 0 rfl) ?_
  refine va_get (D := G.1) (ci := 4) (v := .ref (a 2)) (C := RX4) (T := TX4) (N := 11) hx hb hts hinX4 hown hK.1 hP 0 rfl rfl 1 (by decide) wk2 (fun _ h9 => h9) rfl dX4_play_6 ?_
  refine lv_iconst (v := 0) hx hb dX4_play_9 (by decide) ?_
  refine cBV (As := [.ref (a 1), .int 0, .ref (a 2), .int 0]) (rest := []) ⟨hx, hb, hml, hown, hts⟩ (c_X4_copyState l G (a 1) (a 2) 53 53 0 0 z sp z (by omega) (by omega) (by decide) (by decide) (cpy_all0 _ _) _) (cwS 4 hts gX4_play_X4_copyState rfl rfl rfl (by decide +kernel) ⟨Nat.le_of_ble_eq_true rfl, Nat.le_of_ble_eq_true rfl⟩) hK hP hD hS hA [1, 2] [0, 3, 4, 5, 6, 7] rfl (wr := [(a 0, .inr (4, [.ref (a 1), .ref (a 2), .ref (a 3), .int ns, .ref (a 4), .ref (a 5), .ref (a 6), .int ty, .int spt, .ref (a 7), .int tm])), (a 3, .inl (gI G, 318, .inl pa)), (a 4, .inl (gI G, 106, .inl st)), (a 5, .inl (gZ G, 2, .inl sv)), (a 6, .inl (gI G, 60, .inl pd)), (a 7, .inl (gI G, 31, .inl tl))]) rfl rfl rfl (by decide) rfl rfl hl.1 (Nat.le_of_ble_eq_true rfl) dX4_play_10 ⟨Nat.le_of_ble_eq_true rfl, Nat.le_of_ble_eq_true rfl⟩ (fun u_1 H locs hr_1 hP hD hS => ?_)
  have hP : va_P G.1 vwCl (mw G a z z pa st sv pd tl ns ty spt tm) H := hP.sub [0, 6, 7, 1, 2, 3, 4, 5] rfl
  have hD : va_D A (mw G a z z pa st sv pd tl ns ty spt tm) := hD.sub [0, 6, 7, 1, 2, 3, 4, 5] (by decide) rfl
  refine lv_iconst (v := 0) hx hb dX4_play_13 (by decide) ?_
  refine lv_istore_n (lv' := [(2, .int 0), (0, .ref (a 0)), (1, .int (nI r))]) hx hb dX4_play_14 rfl hl (by decide) rfl (fun ls hl => ?_)
  have L15 : ∀ (f i : Nat)  (y : Nat → Int32), i + f = r → pyL f y = pyL r z → PlOK f y → ∀ (H : Heap) (locs : List Loc), va_P G.1 vwCl (mw G a y z pa st sv pd tl ns ty spt tm) H → va_D A (mw G a y z pa st sv pd tl ns ty spt tm) → va_S A s.heap H locs → ∀ ls : Array Slot, lv_has ls 3 [(2, .int (nI i)), (0, .ref (a 0)), (1, .int (nI r))] → W p l e { frames := 5, cells := 0, slots := 0, locals := 113 } s m ([.ref (a 0), .int (nI r)] : List Value).toArray below meth c H locs 0 0 Q (F0 m 15 ls []) := by
    intro f
    induction f with
    | zero =>
      intro i y hi hv15 hfo H locs hP hD hS ls hl
      have hN : i = r := by omega
      refine lv_iload_n hx hb dX4_play_15 rfl (lv_at hl 0 rfl) ?_
      refine lv_iload_n hx hb dX4_play_16 rfl (lv_at hl 2 rfl) ?_
      refine lv_icmp_ge (tgt := 31) hx hb dX4_play_17 (by decide) (fun _ => ?_) (fun c_9 => absurd (nI_le (a := r) (b := i) (by omega) (by omega)) c_9)
      have hf0 : (y) = (pyL r z) := (by rw [← hv15]; simp only [Nat.sub_zero, pyL])
      have hP : va_P G.1 vwCl (mw G a (pyL r z) z pa st sv pd tl ns ty spt tm) H := by rw [← hf0]; exact hP
      have hD : va_D A (mw G a (pyL r z) z pa st sv pd tl ns ty spt tm) := by rw [← hf0]; exact hD
      exact hret _ _ _ _ () trivial hP hD hS dX4_play_31
    | succ f ih =>
      intro i y hi hv15 hfo H locs hP hD hS ls hl
      have hlt : i < r := by omega
      refine lv_iload_n hx hb dX4_play_15 rfl (lv_at hl 0 rfl) ?_
      refine lv_iload_n hx hb dX4_play_16 rfl (lv_at hl 2 rfl) ?_
      refine lv_icmp_ge (tgt := 31) hx hb dX4_play_17 (by decide) (fun c_9 => absurd c_9 (nI_ge (b := r) hlt (by omega))) (fun _ => ?_)
      obtain ⟨hfi, hfo2⟩ := hfo
      refine lv_aload_n hx hb dX4_play_20 rfl (lv_at hl 1 rfl) ?_
      refine cAI (As := []) (rest := []) ⟨hx, hb, hml, hown, hts⟩ (c_X4_finishNow l G a y z pa st sv pd tl ns ty spt tm hfi _) (cwV 0 hts gX4_play_X4_finishNow rfl rfl rfl (by decide +kernel) ⟨Nat.le_of_ble_eq_true rfl, Nat.le_of_ble_eq_true rfl⟩) hK hP hD hS hA 0 (ci := 4) rfl rfl rfl rfl rfl hl.1 (Nat.le_of_ble_eq_true rfl) dX4_play_21 ⟨Nat.le_of_ble_eq_true rfl, Nat.le_of_ble_eq_true rfl⟩ (fun r_2 u_2 H locs hr_2 hP hD hS => ?_)
      have hr_2 : r_2 = nI (fiR y).2 := hr_2
      subst hr_2
      have hP : va_P G.1 vwCl (mw G a ((fiR y).1) z pa st sv pd tl ns ty spt tm) H := hP
      have hD : va_D A (mw G a ((fiR y).1) z pa st sv pd tl ns ty spt tm) := hD
      refine lv_pop hx hb dX4_play_24 rfl ?_
      refine lv_iinc (v := nI (i + 1)) (lv' := [(2, .int (nI (i + 1))), (0, .ref (a 0)), (1, .int (nI r))]) hx hb dX4_play_25 hl (k := 0) rfl (nI_1 _) (by decide) rfl (fun ls hl => ?_)
      refine lv_goto (tgt := 15) hx hb dX4_play_28 (by decide) ?_
      exact ih (i + 1)  ((fiR y).1) (by omega) (by rw [← hv15]; simp only [Nat.sub_zero, pyL]) hfo2 _ _ hP hD hS ls (lv_sub hl [0, 1, 2] rfl)
  exact L15 (r - 0) 0  z (by omega) (by simp only [Nat.sub_zero]) hfo0 _ _ hP hD hS ls (lv_sub hl [0, 1, 2] rfl)
set_option maxHeartbeats 4000000 in
set_option maxRecDepth 100000 in
theorem c_X4_coinsBehind (l : Launch) (G : qG) (a : Nat → Nat) (z sp pa st sv pd tl : Nat → Int32) (ns ty spt tm : Int32) (x r : Int32) (hok : ¬ erR x r = 0 ∨ PlOK (ix r) z) (sz : Nat) : MI l yX4_coinsBehind wsX4_coinsBehind 6 135 G sz [.ref (a 0), .int x, .int r] (mw G a z sp pa st sv pd tl ns ty spt tm) (if erR x r = 0 then pyL (ix r) z (8 + ix x) else erR x r) (mw G a z (if erR x r = 0 then z else sp) pa st sv pd tl ns ty spt tm) := by
  refine MI.of' (by decide) rfl (Nat.le_of_ble_eq_true rfl) ?_
  intro p e s m below meth c hx hb hml hown hts hK hsz hP A hAe hA hD hS Q hret ls hl
  have hown : s.vm.findClass RX4 = some m.cls := hown
  have hl : lv_has ls 4 [(0, .ref (a 0)), (1, .int x), (2, .int r)] := hl
  have wk1 := hts (Cond.constant RX4 69 (-100001)) (List.mem_of_getElem? (i := 1) rfl)
  have wk2 := hts (Cond.constant RX4 49 (-100002)) (List.mem_of_getElem? (i := 2) rfl)
  have wk3 := hts (Cond.fieldLink RX4 7 "TurnBidsModel" "z" "[I") (List.mem_of_getElem? (i := 3) rfl)
  have wk4 := hts (Cond.fieldLink RX4 13 "TurnBidsModel" "spare" "[I") (List.mem_of_getElem? (i := 4) rfl)
  have wk5 := hts (Cond.methodLink RX4 65 yX4_isPlayer) (List.mem_of_getElem? (i := 5) rfl)
  have wk9 := hts (Cond.methodLink RX4 35 yX4_in) (List.mem_of_getElem? (i := 9) rfl)
  have wk12 := hts (Cond.methodLink RX4 150 yX4_play) (List.mem_of_getElem? (i := 12) rfl)
  have hinX4 : ∀ w ∈ wsX40, w ∈ wsX4_coinsBehind := fun _ h => (List.mem_cons_of_mem _ (List.mem_append_right _ h))
  refine lv_iload_n hx hb dX4_coinsBehind_0 rfl (lv_at hl 1 rfl) ?_
  refine cPS (As := [.int x]) (rest := []) ⟨hx, hb, hml, hown, hts⟩ (c_X4_isPlayer l G x) (cwS 1 hts gX4_coinsBehind_X4_isPlayer rfl rfl rfl (by decide +kernel) ⟨Nat.le_of_ble_eq_true rfl, Nat.le_of_ble_eq_true rfl⟩) hK (fun k q h => by simp at h) rfl rfl hl.1 (Nat.le_of_ble_eq_true rfl) dX4_coinsBehind_1 ⟨Nat.le_of_ble_eq_true rfl, Nat.le_of_ble_eq_true rfl⟩ ?_
  refine lv_if_ne (tgt := 10) hx hb dX4_coinsBehind_4 (by decide) (fun c_4_1 => ?_) (fun c_4_1 => ?_)
  · have hin_2 := inB5 c_4_1
    obtain ⟨j, hj, hej⟩ := vp_in_of (inB5 c_4_1) (by decide)
    rw [hej] at hl
    have hxj : ix x = j := by rw [hej]; exact nI_clamp (by omega)
    refine lv_iload_n hx hb dX4_coinsBehind_10 rfl (lv_at hl 2 rfl) ?_
    refine lv_iconst (v := 1) hx hb dX4_coinsBehind_11 (by decide) ?_
    refine lv_bipush (v := 100) hx hb dX4_coinsBehind_12 (by decide) ?_
    refine cPS (As := [.int r, .int 1, .int 100]) (rest := []) ⟨hx, hb, hml, hown, hts⟩ (c_X4_in l G r 1 100) (cwS 3 hts gX4_coinsBehind_X4_in rfl rfl rfl (by decide +kernel) ⟨Nat.le_of_ble_eq_true rfl, Nat.le_of_ble_eq_true rfl⟩) hK (fun k q h => by simp at h) rfl rfl hl.1 (Nat.le_of_ble_eq_true rfl) dX4_coinsBehind_14 ⟨Nat.le_of_ble_eq_true rfl, Nat.le_of_ble_eq_true rfl⟩ ?_
    refine lv_if_ne (tgt := 23) hx hb dX4_coinsBehind_17 (by decide) (fun c_17_3 => ?_) (fun c_17_3 => ?_)
    · obtain ⟨i, h1, hi, hei⟩ := inB_1of (N := 100) (by decide) c_17_3
      rw [hei] at hl
      have hxi : ix r = i := by rw [hei]; exact nI_clamp (by omega)
      have hfo : PlOK i z := by rw [← hxi]; exact hok.resolve_left (fun q => q (by simp only [erR, if_true, if_false, lz_o, lz_1, lz_2, lz_5, if_neg c_4_1, if_neg c_17_3]))
      refine lv_aload_n hx hb dX4_coinsBehind_23 rfl (lv_at hl 0 rfl) ?_
      refine lv_iload_n hx hb dX4_coinsBehind_24 rfl (lv_at hl 2 rfl) ?_
      refine cAV (As := [.int (nI i)]) (rest := []) ⟨hx, hb, hml, hown, hts⟩ (c_X4_play l G a z sp pa st sv pd tl ns ty spt tm i (by omega) hfo _) (cwV 1 hts gX4_coinsBehind_X4_play rfl rfl rfl (by decide +kernel) ⟨Nat.le_of_ble_eq_true rfl, Nat.le_of_ble_eq_true rfl⟩) hK hP hD hS hA 0 (ci := 4) rfl rfl rfl rfl rfl hl.1 (Nat.le_of_ble_eq_true rfl) dX4_coinsBehind_25 ⟨Nat.le_of_ble_eq_true rfl, Nat.le_of_ble_eq_true rfl⟩ (fun u_4 H locs hr_4 hP hD hS => ?_)
      have hP : va_P G.1 vwCl (mw G a (pyL i z) z pa st sv pd tl ns ty spt tm) H := hP
      have hD : va_D A (mw G a (pyL i z) z pa st sv pd tl ns ty spt tm) := hD
      refine lv_aload_n hx hb dX4_coinsBehind_28 rfl (lv_at hl 0 rfl) ?_
      refine va_get (D := G.1) (ci := 4) (v := .ref (a 1)) (C := RX4) (T := TX4) (N := 11) hx hb hts hinX4 hown hK.1 hP 0 rfl rfl 0 (by decide) wk3 (fun _ h9 => h9) rfl dX4_coinsBehind_29 ?_
      refine lv_bipush (v := 8) hx hb dX4_coinsBehind_32 (by decide) ?_
      refine lv_iload_n hx hb dX4_coinsBehind_34 rfl (lv_at hl 1 rfl) ?_
      refine lv_iadd hx hb dX4_coinsBehind_35 ?_
      refine qtop (nI_add 8 j) ?_
      refine qild hx hb hK.1 hP 1 0 rfl rfl (k := 8 + j) (nI_clamp (by omega)) (vp_in_nI (by omega) (by decide)) dX4_coinsBehind_36 ?_
      refine lv_istore_n (lv' := [(3, .int ((pyL i z) (8 + j))), (0, .ref (a 0)), (1, .int (nI j)), (2, .int (nI i))]) hx hb dX4_coinsBehind_37 rfl hl (by decide) rfl (fun ls hl => ?_)
      refine lv_aload_n hx hb dX4_coinsBehind_38 rfl (lv_at hl 1 rfl) ?_
      refine va_get (D := G.1) (ci := 4) (v := .ref (a 2)) (C := RX4) (T := TX4) (N := 11) hx hb hts hinX4 hown hK.1 hP 0 rfl rfl 1 (by decide) wk4 (fun _ h9 => h9) rfl dX4_coinsBehind_39 ?_
      refine lv_iconst (v := 0) hx hb dX4_coinsBehind_42 (by decide) ?_
      refine lv_aload_n hx hb dX4_coinsBehind_43 rfl (lv_at hl 1 rfl) ?_
      refine va_get (D := G.1) (ci := 4) (v := .ref (a 1)) (C := RX4) (T := TX4) (N := 11) hx hb hts hinX4 hown hK.1 hP 0 rfl rfl 0 (by decide) wk3 (fun _ h9 => h9) rfl dX4_coinsBehind_44 ?_
      refine lv_iconst (v := 0) hx hb dX4_coinsBehind_47 (by decide) ?_
      refine cBV (As := [.ref (a 2), .int 0, .ref (a 1), .int 0]) (rest := []) ⟨hx, hb, hml, hown, hts⟩ (c_X4_copyState l G (a 2) (a 1) 53 53 0 0 z (pyL i z) z (by omega) (by omega) (by decide) (by decide) (cpy_all0 _ _) _) (cwS 4 hts gX4_coinsBehind_X4_copyState rfl rfl rfl (by decide +kernel) ⟨Nat.le_of_ble_eq_true rfl, Nat.le_of_ble_eq_true rfl⟩) hK hP hD hS hA [2, 1] [0, 3, 4, 5, 6, 7] rfl (wr := [(a 0, .inr (4, [.ref (a 1), .ref (a 2), .ref (a 3), .int ns, .ref (a 4), .ref (a 5), .ref (a 6), .int ty, .int spt, .ref (a 7), .int tm])), (a 3, .inl (gI G, 318, .inl pa)), (a 4, .inl (gI G, 106, .inl st)), (a 5, .inl (gZ G, 2, .inl sv)), (a 6, .inl (gI G, 60, .inl pd)), (a 7, .inl (gI G, 31, .inl tl))]) rfl rfl rfl (by decide) rfl rfl hl.1 (Nat.le_of_ble_eq_true rfl) dX4_coinsBehind_48 ⟨Nat.le_of_ble_eq_true rfl, Nat.le_of_ble_eq_true rfl⟩ (fun u_5 H locs hr_5 hP hD hS => ?_)
      have hP : va_P G.1 vwCl (mw G a z z pa st sv pd tl ns ty spt tm) H := hP.sub [0, 7, 6, 1, 2, 3, 4, 5] rfl
      have hD : va_D A (mw G a z z pa st sv pd tl ns ty spt tm) := hD.sub [0, 7, 6, 1, 2, 3, 4, 5] (by decide) rfl
      refine lv_iload_n hx hb dX4_coinsBehind_51 rfl (lv_at hl 0 rfl) ?_
      have hf0 : (z) = (if erR x r = 0 then z else sp) := (by simp only [if_true, if_false, lz_o, lz_1, lz_2, lz_5, erR, if_neg c_4_1, hxj, if_neg c_17_3, hxi])
      have hP : va_P G.1 vwCl (mw G a z (if erR x r = 0 then z else sp) pa st sv pd tl ns ty spt tm) H := by rw [← hf0]; exact hP
      have hD : va_D A (mw G a z (if erR x r = 0 then z else sp) pa st sv pd tl ns ty spt tm) := by rw [← hf0]; exact hD
      exact hret _ _ _ _ _ () (by simp only [if_true, if_false, lz_o, lz_1, lz_2, lz_5, erR, if_neg c_4_1, hxj, if_neg c_17_3, hxi]) hP hD hS dX4_coinsBehind_52
    · refine lv_ldc (v := (-100002)) hx hb hown wk2 dX4_coinsBehind_20 ?_
      have hf0 : (sp) = (if erR x r = 0 then z else sp) := (by simp only [if_true, if_false, lz_o, lz_1, lz_2, lz_5, erR, if_neg c_4_1, hxj, if_pos c_17_3])
      have hP : va_P G.1 vwCl (mw G a z (if erR x r = 0 then z else sp) pa st sv pd tl ns ty spt tm) s.heap := by rw [← hf0]; exact hP
      have hD : va_D A (mw G a z (if erR x r = 0 then z else sp) pa st sv pd tl ns ty spt tm) := by rw [← hf0]; exact hD
      exact hret _ _ _ _ _ () (by simp only [if_true, if_false, lz_o, lz_1, lz_2, lz_5, erR, if_neg c_4_1, hxj, if_pos c_17_3]) hP hD hS dX4_coinsBehind_22
  · refine lv_ldc (v := (-100001)) hx hb hown wk1 dX4_coinsBehind_7 ?_
    have hf0 : (sp) = (if erR x r = 0 then z else sp) := (by simp only [if_true, if_false, lz_o, lz_1, lz_2, lz_5, erR, if_pos c_4_1])
    have hP : va_P G.1 vwCl (mw G a z (if erR x r = 0 then z else sp) pa st sv pd tl ns ty spt tm) s.heap := by rw [← hf0]; exact hP
    have hD : va_D A (mw G a z (if erR x r = 0 then z else sp) pa st sv pd tl ns ty spt tm) := by rw [← hf0]; exact hD
    exact hret _ _ _ _ _ () (by simp only [if_true, if_false, lz_o, lz_1, lz_2, lz_5, erR, if_pos c_4_1]) hP hD hS dX4_coinsBehind_9
set_option maxHeartbeats 4000000 in
set_option maxRecDepth 100000 in
theorem c_X4_richest (l : Launch) (G : qG) (a : Nat → Nat) (z sp pa st sv pd tl : Nat → Int32) (ns ty spt tm : Int32) (r : Int32) (hok : inB r 1 100 = 0 ∨ (PlOK (ix r) z ∧ ∀ j, j < 5 → vp_in (mAt (pyL (ix r) z) (nI j)) 5)) (sz : Nat) : MI l yX4_richest wsX4_richest 6 135 G sz [.ref (a 0), .int r] (mw G a z sp pa st sv pd tl ns ty spt tm) (if inB r 1 100 = 0 then (-100002) else riV (pyL (ix r) z)) (mw G a z (if inB r 1 100 = 0 then sp else z) pa st sv pd tl ns ty spt tm) := by
  refine MI.of' (by decide) rfl (Nat.le_of_ble_eq_true rfl) ?_
  intro p e s m below meth c hx hb hml hown hts hK hsz hP A hAe hA hD hS Q hret ls hl
  have hown : s.vm.findClass RX4 = some m.cls := hown
  have hl : lv_has ls 5 [(0, .ref (a 0)), (1, .int r)] := hl
  have wk1 := hts (Cond.constant RX4 49 (-100002)) (List.mem_of_getElem? (i := 1) rfl)
  have wk2 := hts (Cond.fieldLink RX4 7 "TurnBidsModel" "z" "[I") (List.mem_of_getElem? (i := 2) rfl)
  have wk3 := hts (Cond.fieldLink RX4 13 "TurnBidsModel" "spare" "[I") (List.mem_of_getElem? (i := 3) rfl)
  have wk4 := hts (Cond.methodLink RX4 35 yX4_in) (List.mem_of_getElem? (i := 4) rfl)
  have wk8 := hts (Cond.methodLink RX4 150 yX4_play) (List.mem_of_getElem? (i := 8) rfl)
  have wk28 := hts (Cond.methodLink RX4 70 yX4_playerAt) (List.mem_of_getElem? (i := 28) rfl)
  have hinX4 : ∀ w ∈ wsX40, w ∈ wsX4_richest := fun _ h => (List.mem_cons_of_mem _ (List.mem_append_right _ h))
  refine lv_iload_n hx hb dX4_richest_0 rfl (lv_at hl 1 rfl) ?_
  refine lv_iconst (v := 1) hx hb dX4_richest_1 (by decide) ?_
  refine lv_bipush (v := 100) hx hb dX4_richest_2 (by decide) ?_
  refine cPS (As := [.int r, .int 1, .int 100]) (rest := []) ⟨hx, hb, hml, hown, hts⟩ (c_X4_in l G r 1 100) (cwS 3 hts gX4_richest_X4_in rfl rfl rfl (by decide +kernel) ⟨Nat.le_of_ble_eq_true rfl, Nat.le_of_ble_eq_true rfl⟩) hK (fun k q h => by simp at h) rfl rfl hl.1 (Nat.le_of_ble_eq_true rfl) dX4_richest_4 ⟨Nat.le_of_ble_eq_true rfl, Nat.le_of_ble_eq_true rfl⟩ ?_
  refine lv_if_ne (tgt := 13) hx hb dX4_richest_7 (by decide) (fun c_7_1 => ?_) (fun c_7_1 => ?_)
  · obtain ⟨i₁, h1, hi₁, hei₁⟩ := inB_1of (N := 100) (by decide) c_7_1
    rw [hei₁] at hl
    have hxi₁ : ix r = i₁ := by rw [hei₁]; exact nI_clamp (by omega)
    obtain ⟨hfo, hall⟩ : PlOK i₁ z ∧ ∀ j, j < 5 → vp_in (mAt (pyL i₁ z) (nI j)) 5 := by rw [← hxi₁]; exact hok.resolve_left c_7_1
    obtain ⟨y, hy⟩ : ∃ w₀ : Nat → Int32, w₀ = pyL i₁ z := ⟨_, rfl⟩
    refine lv_aload_n hx hb dX4_richest_13 rfl (lv_at hl 0 rfl) ?_
    refine lv_iload_n hx hb dX4_richest_14 rfl (lv_at hl 1 rfl) ?_
    refine cAV (As := [.int (nI i₁)]) (rest := []) ⟨hx, hb, hml, hown, hts⟩ (c_X4_play l G a z sp pa st sv pd tl ns ty spt tm i₁ (by omega) hfo _) (cwV 1 hts gX4_richest_X4_play rfl rfl rfl (by decide +kernel) ⟨Nat.le_of_ble_eq_true rfl, Nat.le_of_ble_eq_true rfl⟩) hK hP hD hS hA 0 (ci := 4) rfl rfl rfl rfl rfl hl.1 (Nat.le_of_ble_eq_true rfl) dX4_richest_15 ⟨Nat.le_of_ble_eq_true rfl, Nat.le_of_ble_eq_true rfl⟩ (fun u_2 H locs hr_2 hP hD hS => ?_)
    have hP : va_P G.1 vwCl (mw G a (pyL i₁ z) z pa st sv pd tl ns ty spt tm) H := hP
    have hD : va_D A (mw G a (pyL i₁ z) z pa st sv pd tl ns ty spt tm) := hD
    rw [← hy] at hP hD hall
    have hP : va_P G.1 vwCl (mw G a y z pa st sv pd tl ns ty spt tm) H := hP
    have hD : va_D A (mw G a y z pa st sv pd tl ns ty spt tm) := hD
    refine lv_aload_n hx hb dX4_richest_18 rfl (lv_at hl 0 rfl) ?_
    refine lv_iconst (v := 0) hx hb dX4_richest_19 (by decide) ?_
    refine cPV (As := [.int 0]) (rest := []) ⟨hx, hb, hml, hown, hts⟩ (c_X4_playerAt l G a y z pa st sv pd tl ns ty spt tm 0) (cwV 1 hts gX4_richest_X4_playerAt rfl rfl rfl (by decide +kernel) ⟨Nat.le_of_ble_eq_true rfl, Nat.le_of_ble_eq_true rfl⟩) hK hP 0 (ci := 4) rfl rfl rfl rfl rfl hl.1 (Nat.le_of_ble_eq_true rfl) dX4_richest_20 ⟨Nat.le_of_ble_eq_true rfl, Nat.le_of_ble_eq_true rfl⟩ ?_
    refine lv_istore_n (lv' := [(2, .int (mAt y 0)), (0, .ref (a 0)), (1, .int (nI i₁))]) hx hb dX4_richest_23 rfl hl (by decide) rfl (fun ls hl => ?_)
    have hfo0 := hall 0 (by decide)
    refine lv_iconst (v := 1) hx hb dX4_richest_24 (by decide) ?_
    refine lv_istore_n (lv' := [(3, .int 1), (2, .int (mAt y 0)), (0, .ref (a 0)), (1, .int (nI i₁))]) hx hb dX4_richest_25 rfl hl (by decide) rfl (fun ls hl => ?_)
    have L26 : ∀ (f i : Nat) (k : Int32), i + f = 5 → riL y f i k = riV y → vp_in k 5 → ∀ ls : Array Slot, lv_has ls 5 [(3, .int (nI i)), (2, .int k), (0, .ref (a 0)), (1, .int (nI i₁))] → W p l e { frames := 6, cells := 0, slots := 0, locals := 135 } s m ([.ref (a 0), .int r] : List Value).toArray below meth c H locs 0 0 Q (F0 m 26 ls []) := by
      intro f
      induction f with
      | zero =>
        intro i k hi hv26 hfo ls hl
        obtain rfl : i = 5 := by omega
        refine lv_iload_n hx hb dX4_richest_26 rfl (lv_at hl 0 rfl) ?_
        refine lv_iconst (v := 5) hx hb dX4_richest_27 (by decide) ?_
        refine lv_icmp_ge (tgt := 73) hx hb dX4_richest_28 (by decide) (fun _ => ?_) (fun c_9 => absurd (by decide +kernel) c_9)
        refine lv_aload_n hx hb dX4_richest_73 rfl (lv_at hl 2 rfl) ?_
        refine va_get (D := G.1) (ci := 4) (v := .ref (a 2)) (C := RX4) (T := TX4) (N := 11) hx hb hts hinX4 hown hK.1 hP 0 rfl rfl 1 (by decide) wk3 (fun _ h9 => h9) rfl dX4_richest_74 ?_
        refine lv_iconst (v := 0) hx hb dX4_richest_77 (by decide) ?_
        refine lv_aload_n hx hb dX4_richest_78 rfl (lv_at hl 2 rfl) ?_
        refine va_get (D := G.1) (ci := 4) (v := .ref (a 1)) (C := RX4) (T := TX4) (N := 11) hx hb hts hinX4 hown hK.1 hP 0 rfl rfl 0 (by decide) wk2 (fun _ h9 => h9) rfl dX4_richest_79 ?_
        refine lv_iconst (v := 0) hx hb dX4_richest_82 (by decide) ?_
        refine cBV (As := [.ref (a 2), .int 0, .ref (a 1), .int 0]) (rest := []) ⟨hx, hb, hml, hown, hts⟩ (c_X4_copyState l G (a 2) (a 1) 53 53 0 0 z y z (by omega) (by omega) (by decide) (by decide) (cpy_all0 _ _) _) (cwS 4 hts gX4_richest_X4_copyState rfl rfl rfl (by decide +kernel) ⟨Nat.le_of_ble_eq_true rfl, Nat.le_of_ble_eq_true rfl⟩) hK hP hD hS hA [2, 1] [0, 3, 4, 5, 6, 7] rfl (wr := [(a 0, .inr (4, [.ref (a 1), .ref (a 2), .ref (a 3), .int ns, .ref (a 4), .ref (a 5), .ref (a 6), .int ty, .int spt, .ref (a 7), .int tm])), (a 3, .inl (gI G, 318, .inl pa)), (a 4, .inl (gI G, 106, .inl st)), (a 5, .inl (gZ G, 2, .inl sv)), (a 6, .inl (gI G, 60, .inl pd)), (a 7, .inl (gI G, 31, .inl tl))]) rfl rfl rfl (by decide) rfl rfl hl.1 (Nat.le_of_ble_eq_true rfl) dX4_richest_83 ⟨Nat.le_of_ble_eq_true rfl, Nat.le_of_ble_eq_true rfl⟩ (fun u_3 H locs hr_3 hP hD hS => ?_)
        have hP : va_P G.1 vwCl (mw G a z z pa st sv pd tl ns ty spt tm) H := hP.sub [0, 7, 6, 1, 2, 3, 4, 5] rfl
        have hD : va_D A (mw G a z z pa st sv pd tl ns ty spt tm) := hD.sub [0, 7, 6, 1, 2, 3, 4, 5] (by decide) rfl
        refine lv_iload_n hx hb dX4_richest_86 rfl (lv_at hl 1 rfl) ?_
        have hf0 : (z) = (if inB r 1 100 = 0 then sp else z) := (by subst hy; first | (rw [← hv26]; simp only [riV, riL, if_neg c_7_1, hxi₁]) | (simp only [riV, riL, if_neg c_7_1, hxi₁]))
        have hP : va_P G.1 vwCl (mw G a z (if inB r 1 100 = 0 then sp else z) pa st sv pd tl ns ty spt tm) H := by rw [← hf0]; exact hP
        have hD : va_D A (mw G a z (if inB r 1 100 = 0 then sp else z) pa st sv pd tl ns ty spt tm) := by rw [← hf0]; exact hD
        exact hret _ _ _ _ _ () (by rw [if_neg c_7_1, hxi₁, ← hy, ← hv26]; simp only [riL]) hP hD hS dX4_richest_87
      | succ f ih =>
        intro i k hi hv26 hfo ls hl
        have hlt : i < 5 := by omega
        refine lv_iload_n hx hb dX4_richest_26 rfl (lv_at hl 0 rfl) ?_
        refine lv_iconst (v := 5) hx hb dX4_richest_27 (by decide) ?_
        refine lv_icmp_ge (tgt := 73) hx hb dX4_richest_28 (by decide) (fun c_9 => absurd c_9 (nI_ge (b := 5) hlt (by decide))) (fun _ => ?_)
        have hi5 := hall i (by omega)
        refine lv_aload_n hx hb dX4_richest_31 rfl (lv_at hl 2 rfl) ?_
        refine lv_iload_n hx hb dX4_richest_32 rfl (lv_at hl 0 rfl) ?_
        refine cPV (As := [.int (nI i)]) (rest := []) ⟨hx, hb, hml, hown, hts⟩ (c_X4_playerAt l G a y z pa st sv pd tl ns ty spt tm (nI i)) (cwV 1 hts gX4_richest_X4_playerAt rfl rfl rfl (by decide +kernel) ⟨Nat.le_of_ble_eq_true rfl, Nat.le_of_ble_eq_true rfl⟩) hK hP 0 (ci := 4) rfl rfl rfl rfl rfl hl.1 (Nat.le_of_ble_eq_true rfl) dX4_richest_33 ⟨Nat.le_of_ble_eq_true rfl, Nat.le_of_ble_eq_true rfl⟩ ?_
        refine lv_istore (lv' := [(4, .int (mAt y (nI i))), (3, .int (nI i)), (2, .int k), (0, .ref (a 0)), (1, .int (nI i₁))]) hx hb dX4_richest_36 hl (by decide) rfl (fun ls hl => ?_)
        refine lv_aload_n hx hb dX4_richest_38 rfl (lv_at hl 3 rfl) ?_
        refine va_get (D := G.1) (ci := 4) (v := .ref (a 1)) (C := RX4) (T := TX4) (N := 11) hx hb hts hinX4 hown hK.1 hP 0 rfl rfl 0 (by decide) wk2 (fun _ h9 => h9) rfl dX4_richest_39 ?_
        refine lv_bipush (v := 8) hx hb dX4_richest_42 (by decide) ?_
        refine lv_iload hx hb dX4_richest_44 (lv_at hl 0 rfl) ?_
        refine lv_iadd hx hb dX4_richest_46 ?_
        refine qild hx hb hK.1 hP 1 0 rfl rfl (k := 8 + ix (mAt y (nI i))) (ixa (c := 8) (m := 5) (n := 53) rfl (by assumption) (by decide) (by decide)).1 (ixa (c := 8) (m := 5) (n := 53) rfl (by assumption) (by decide) (by decide)).2 dX4_richest_47 ?_
        refine lv_aload_n hx hb dX4_richest_48 rfl (lv_at hl 3 rfl) ?_
        refine va_get (D := G.1) (ci := 4) (v := .ref (a 1)) (C := RX4) (T := TX4) (N := 11) hx hb hts hinX4 hown hK.1 hP 0 rfl rfl 0 (by decide) wk2 (fun _ h9 => h9) rfl dX4_richest_49 ?_
        refine lv_bipush (v := 8) hx hb dX4_richest_52 (by decide) ?_
        refine lv_iload_n hx hb dX4_richest_54 rfl (lv_at hl 2 rfl) ?_
        refine lv_iadd hx hb dX4_richest_55 ?_
        refine qild hx hb hK.1 hP 1 0 rfl rfl (k := 8 + ix k) (ixa (c := 8) (m := 5) (n := 53) rfl (by assumption) (by decide) (by decide)).1 (ixa (c := 8) (m := 5) (n := 53) rfl (by assumption) (by decide) (by decide)).2 dX4_richest_56 ?_
        refine lv_icmp_le (tgt := 65) hx hb dX4_richest_57 (by decide) (fun c_57_4 => ?_) (fun c_57_4 => ?_)
        · have hfo2 := hfo
          refine lv_iload_n hx hb dX4_richest_65 rfl (lv_at hl 2 rfl) ?_
          refine lv_istore_n (lv' := [(2, .int k), (4, .int (mAt y (nI i))), (3, .int (nI i)), (0, .ref (a 0)), (1, .int (nI i₁))]) hx hb dX4_richest_66 rfl hl (by decide) rfl (fun ls hl => ?_)
          refine lv_iinc (v := nI (i + 1)) (lv' := [(3, .int (nI (i + 1))), (2, .int k), (4, .int (mAt y (nI i))), (0, .ref (a 0)), (1, .int (nI i₁))]) hx hb dX4_richest_67 hl (k := 2) rfl (nI_1 _) (by decide) rfl (fun ls hl => ?_)
          refine lv_goto (tgt := 26) hx hb dX4_richest_70 (by decide) ?_
          exact ih (i + 1) k (by omega) (by subst hy; first | (rw [← hv26]; simp only [riV, riL, if_neg c_7_1, hxi₁, if_pos c_57_4]) | (simp only [riV, riL, if_neg c_7_1, hxi₁, if_pos c_57_4])) hfo2 ls (lv_sub hl [0, 1, 3, 4] rfl)
        · have hfo2 := hi5
          refine lv_iload hx hb dX4_richest_60 (lv_at hl 0 rfl) ?_
          refine lv_goto (tgt := 66) hx hb dX4_richest_62 (by decide) ?_
          refine lv_istore_n (lv' := [(2, .int (mAt y (nI i))), (4, .int (mAt y (nI i))), (3, .int (nI i)), (0, .ref (a 0)), (1, .int (nI i₁))]) hx hb dX4_richest_66 rfl hl (by decide) rfl (fun ls hl => ?_)
          refine lv_iinc (v := nI (i + 1)) (lv' := [(3, .int (nI (i + 1))), (2, .int (mAt y (nI i))), (4, .int (mAt y (nI i))), (0, .ref (a 0)), (1, .int (nI i₁))]) hx hb dX4_richest_67 hl (k := 2) rfl (nI_1 _) (by decide) rfl (fun ls hl => ?_)
          refine lv_goto (tgt := 26) hx hb dX4_richest_70 (by decide) ?_
          exact ih (i + 1) (mAt y (nI i)) (by omega) (by subst hy; first | (rw [← hv26]; simp only [riV, riL, if_neg c_7_1, hxi₁, if_neg c_57_4]) | (simp only [riV, riL, if_neg c_7_1, hxi₁, if_neg c_57_4])) hfo2 ls (lv_sub hl [0, 1, 3, 4] rfl)
    exact L26 4 1 (mAt y 0) rfl (by subst hy; simp only [riV, if_neg c_7_1, hxi₁]) hfo0 ls (lv_sub hl [0, 1, 2, 3] rfl)
  · refine lv_ldc (v := (-100002)) hx hb hown wk1 dX4_richest_10 ?_
    have hf0 : (sp) = (if inB r 1 100 = 0 then sp else z) := (by simp only [riV, if_pos c_7_1])
    have hP : va_P G.1 vwCl (mw G a z (if inB r 1 100 = 0 then sp else z) pa st sv pd tl ns ty spt tm) s.heap := by rw [← hf0]; exact hP
    have hD : va_D A (mw G a z (if inB r 1 100 = 0 then sp else z) pa st sv pd tl ns ty spt tm) := by rw [← hf0]; exact hD
    exact hret _ _ _ _ _ () (by simp only [riV, if_pos c_7_1]) hP hD hS dX4_richest_12
set_option maxHeartbeats 4000000 in
set_option maxRecDepth 100000 in
theorem c_X4_movesLeft (l : Launch) (G : qG) (a : Nat → Nat) (z sp pa st sv pd tl : Nat → Int32) (ns ty spt tm : Int32) (hok : z 4 = 0 ∨ FiOK z) (sz : Nat) : MI l yX4_movesLeft wsX4_movesLeft 5 113 G sz [.ref (a 0)] (mw G a z sp pa st sv pd tl ns ty spt tm) (if z 4 = 0 then (-100005) else nI (fiR z).2) (mw G a z (if z 4 = 0 then sp else z) pa st sv pd tl ns ty spt tm) := by
  refine MI.of' (by decide) rfl (Nat.le_of_ble_eq_true rfl) ?_
  intro p e s m below meth c hx hb hml hown hts hK hsz hP A hAe hA hD hS Q hret ls hl
  have hown : s.vm.findClass RX4 = some m.cls := hown
  have hl : lv_has ls 2 [(0, .ref (a 0))] := hl
  have wk1 := hts (Cond.fieldLink RX4 7 "TurnBidsModel" "z" "[I") (List.mem_of_getElem? (i := 1) rfl)
  have wk2 := hts (Cond.constant RX4 48 (-100005)) (List.mem_of_getElem? (i := 2) rfl)
  have wk3 := hts (Cond.fieldLink RX4 13 "TurnBidsModel" "spare" "[I") (List.mem_of_getElem? (i := 3) rfl)
  have wk8 := hts (Cond.methodLink RX4 112 yX4_finishNow) (List.mem_of_getElem? (i := 8) rfl)
  have hinX4 : ∀ w ∈ wsX40, w ∈ wsX4_movesLeft := fun _ h => (List.mem_cons_of_mem _ (List.mem_append_right _ h))
  refine lv_aload_n hx hb dX4_movesLeft_0 rfl (lv_at hl 0 rfl) ?_
  refine va_get (D := G.1) (ci := 4) (v := .ref (a 1)) (C := RX4) (T := TX4) (N := 11) hx hb hts hinX4 hown hK.1 hP 0 rfl rfl 0 (by decide) wk1 (fun _ h9 => h9) rfl dX4_movesLeft_1 ?_
  refine lv_iconst (v := 4) hx hb dX4_movesLeft_4 (by decide) ?_
  refine qild hx hb hK.1 hP 1 0 rfl rfl (k := 4) rfl (vp_in_nI (n := 4) (by decide) (by decide)) dX4_movesLeft_5 ?_
  refine lv_if_ne (tgt := 12) hx hb dX4_movesLeft_6 (by decide) (fun c_6_1 => ?_) (fun c_6_1 => ?_)
  · have hfo := hok.resolve_left c_6_1
    refine lv_aload_n hx hb dX4_movesLeft_12 rfl (lv_at hl 0 rfl) ?_
    refine va_get (D := G.1) (ci := 4) (v := .ref (a 1)) (C := RX4) (T := TX4) (N := 11) hx hb hts hinX4 hown hK.1 hP 0 rfl rfl 0 (by decide) wk1 (fun _ h9 => h9) rfl dX4_movesLeft_13 ?_
    refine lv_iconst (v := 0) hx hb dX4_movesLeft_16 (by decide) ?_
    refine lv_aload_n hx hb dX4_movesLeft_17 rfl (lv_at hl 0 rfl) ?_
    refine va_get (D := G.1) (ci := 4) (v := .ref (a 2)) (C := RX4) (T := TX4) (N := 11) hx hb hts hinX4 hown hK.1 hP 0 rfl rfl 1 (by decide) wk3 (fun _ h9 => h9) rfl dX4_movesLeft_18 ?_
    refine lv_iconst (v := 0) hx hb dX4_movesLeft_21 (by decide) ?_
    refine cBV (As := [.ref (a 1), .int 0, .ref (a 2), .int 0]) (rest := []) ⟨hx, hb, hml, hown, hts⟩ (c_X4_copyState l G (a 1) (a 2) 53 53 0 0 z sp z (by omega) (by omega) (by decide) (by decide) (cpy_all0 _ _) _) (cwS 4 hts gX4_movesLeft_X4_copyState rfl rfl rfl (by decide +kernel) ⟨Nat.le_of_ble_eq_true rfl, Nat.le_of_ble_eq_true rfl⟩) hK hP hD hS hA [1, 2] [0, 3, 4, 5, 6, 7] rfl (wr := [(a 0, .inr (4, [.ref (a 1), .ref (a 2), .ref (a 3), .int ns, .ref (a 4), .ref (a 5), .ref (a 6), .int ty, .int spt, .ref (a 7), .int tm])), (a 3, .inl (gI G, 318, .inl pa)), (a 4, .inl (gI G, 106, .inl st)), (a 5, .inl (gZ G, 2, .inl sv)), (a 6, .inl (gI G, 60, .inl pd)), (a 7, .inl (gI G, 31, .inl tl))]) rfl rfl rfl (by decide) rfl rfl hl.1 (Nat.le_of_ble_eq_true rfl) dX4_movesLeft_22 ⟨Nat.le_of_ble_eq_true rfl, Nat.le_of_ble_eq_true rfl⟩ (fun u_2 H locs hr_2 hP hD hS => ?_)
    have hP : va_P G.1 vwCl (mw G a z z pa st sv pd tl ns ty spt tm) H := hP.sub [0, 6, 7, 1, 2, 3, 4, 5] rfl
    have hD : va_D A (mw G a z z pa st sv pd tl ns ty spt tm) := hD.sub [0, 6, 7, 1, 2, 3, 4, 5] (by decide) rfl
    refine lv_aload_n hx hb dX4_movesLeft_25 rfl (lv_at hl 0 rfl) ?_
    refine cAI (As := []) (rest := []) ⟨hx, hb, hml, hown, hts⟩ (c_X4_finishNow l G a z z pa st sv pd tl ns ty spt tm hfo _) (cwV 0 hts gX4_movesLeft_X4_finishNow rfl rfl rfl (by decide +kernel) ⟨Nat.le_of_ble_eq_true rfl, Nat.le_of_ble_eq_true rfl⟩) hK hP hD hS hA 0 (ci := 4) rfl rfl rfl rfl rfl hl.1 (Nat.le_of_ble_eq_true rfl) dX4_movesLeft_26 ⟨Nat.le_of_ble_eq_true rfl, Nat.le_of_ble_eq_true rfl⟩ (fun r_3 u_3 H locs hr_3 hP hD hS => ?_)
    have hr_3 : r_3 = nI (fiR z).2 := hr_3
    subst hr_3
    have hP : va_P G.1 vwCl (mw G a ((fiR z).1) z pa st sv pd tl ns ty spt tm) H := hP
    have hD : va_D A (mw G a ((fiR z).1) z pa st sv pd tl ns ty spt tm) := hD
    refine lv_istore_n (lv' := [(1, .int (nI (fiR z).2)), (0, .ref (a 0))]) hx hb dX4_movesLeft_29 rfl hl (by decide) rfl (fun ls hl => ?_)
    refine lv_aload_n hx hb dX4_movesLeft_30 rfl (lv_at hl 1 rfl) ?_
    refine va_get (D := G.1) (ci := 4) (v := .ref (a 2)) (C := RX4) (T := TX4) (N := 11) hx hb hts hinX4 hown hK.1 hP 0 rfl rfl 1 (by decide) wk3 (fun _ h9 => h9) rfl dX4_movesLeft_31 ?_
    refine lv_iconst (v := 0) hx hb dX4_movesLeft_34 (by decide) ?_
    refine lv_aload_n hx hb dX4_movesLeft_35 rfl (lv_at hl 1 rfl) ?_
    refine va_get (D := G.1) (ci := 4) (v := .ref (a 1)) (C := RX4) (T := TX4) (N := 11) hx hb hts hinX4 hown hK.1 hP 0 rfl rfl 0 (by decide) wk1 (fun _ h9 => h9) rfl dX4_movesLeft_36 ?_
    refine lv_iconst (v := 0) hx hb dX4_movesLeft_39 (by decide) ?_
    refine cBV (As := [.ref (a 2), .int 0, .ref (a 1), .int 0]) (rest := []) ⟨hx, hb, hml, hown, hts⟩ (c_X4_copyState l G (a 2) (a 1) 53 53 0 0 z ((fiR z).1) z (by omega) (by omega) (by decide) (by decide) (cpy_all0 _ _) _) (cwS 4 hts gX4_movesLeft_X4_copyState rfl rfl rfl (by decide +kernel) ⟨Nat.le_of_ble_eq_true rfl, Nat.le_of_ble_eq_true rfl⟩) hK hP hD hS hA [2, 1] [0, 3, 4, 5, 6, 7] rfl (wr := [(a 0, .inr (4, [.ref (a 1), .ref (a 2), .ref (a 3), .int ns, .ref (a 4), .ref (a 5), .ref (a 6), .int ty, .int spt, .ref (a 7), .int tm])), (a 3, .inl (gI G, 318, .inl pa)), (a 4, .inl (gI G, 106, .inl st)), (a 5, .inl (gZ G, 2, .inl sv)), (a 6, .inl (gI G, 60, .inl pd)), (a 7, .inl (gI G, 31, .inl tl))]) rfl rfl rfl (by decide) rfl rfl hl.1 (Nat.le_of_ble_eq_true rfl) dX4_movesLeft_40 ⟨Nat.le_of_ble_eq_true rfl, Nat.le_of_ble_eq_true rfl⟩ (fun u_4 H locs hr_4 hP hD hS => ?_)
    have hP : va_P G.1 vwCl (mw G a z z pa st sv pd tl ns ty spt tm) H := hP.sub [0, 7, 6, 1, 2, 3, 4, 5] rfl
    have hD : va_D A (mw G a z z pa st sv pd tl ns ty spt tm) := hD.sub [0, 7, 6, 1, 2, 3, 4, 5] (by decide) rfl
    refine lv_iload_n hx hb dX4_movesLeft_43 rfl (lv_at hl 0 rfl) ?_
    have hf0 : (z) = (if z 4 = 0 then sp else z) := (by simp only [if_neg c_6_1])
    have hP : va_P G.1 vwCl (mw G a z (if z 4 = 0 then sp else z) pa st sv pd tl ns ty spt tm) H := by rw [← hf0]; exact hP
    have hD : va_D A (mw G a z (if z 4 = 0 then sp else z) pa st sv pd tl ns ty spt tm) := by rw [← hf0]; exact hD
    exact hret _ _ _ _ _ () (by simp only [if_neg c_6_1]) hP hD hS dX4_movesLeft_44
  · refine lv_ldc (v := (-100005)) hx hb hown wk2 dX4_movesLeft_9 ?_
    have hf0 : (sp) = (if z 4 = 0 then sp else z) := (by simp only [if_pos c_6_1])
    have hP : va_P G.1 vwCl (mw G a z (if z 4 = 0 then sp else z) pa st sv pd tl ns ty spt tm) s.heap := by rw [← hf0]; exact hP
    have hD : va_D A (mw G a z (if z 4 = 0 then sp else z) pa st sv pd tl ns ty spt tm) := by rw [← hf0]; exact hD
    exact hret _ _ _ _ _ () (by simp only [if_pos c_6_1]) hP hD hS dX4_movesLeft_11
