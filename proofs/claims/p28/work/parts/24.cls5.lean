/-! CONTRACTS of the class's calls, third part (laid by wip/whole/gen/obj3.py) -/
set_option maxHeartbeats 4000000 in
set_option maxRecDepth 100000 in
theorem c_X3_richest (l : Launch) (G : qG) (o : Nat) (t r h : Nat → Nat) (g : Nat) (b : Nat → Nat) (T U : Tb) (hT : is01 (T 10 0)) (nx ln : Nat) (hnx : nx < 100000) (hln : ln ≤ 6) (ad : Ad) (S : Nat → Tb) (ps : Nat → Int32) (hps : chs ps) (pl : Nat) (hpl : pl ≤ 60) (r₁ : Int32) (sz : Nat) : Met l yX3_richest wsX3_richest { frames := 7, cells := 0, slots := 0, locals := 151 } (PW G sz [.ref o, .int r₁] (ow G o t r h g b T U nx ln (hd ad 0 6) (hd ad 6 2) ps pl ++ pool G ad S)) (QI (S := CS) G sz (ow G o t r h g b T U nx ln (hd ad 0 6) (hd ad 6 2) ps pl ++ pool G ad S) (fun r₀ c₀ => r₀ = (if erN r₁ = 0 then rhL (tyL (ix r₁) T) 4 1 0 else erN r₁) ∧ ∃ u : Nat → Nat, c₀ = (if erN r₁ = 0 then (T, tyL (ix r₁) T, nx, ln, ad, S, ps, pl) else (T, U, nx, ln, ad, S, ps, pl))) (fun c₀ => ows G o t r h g b c₀)) 0 0 (va_A (ow G o t r h g b T U nx ln (hd ad 0 6) (hd ad 6 2) ps pl ++ pool G ad S) sz) := by
  refine MI.of' (by decide) rfl (Nat.le_of_ble_eq_true rfl) ?_
  intro p e s m below meth c hx hb hml hown hts hK hsz hP A hAe hA hD hS Q hret ls hl
  have hown : s.vm.findClass RX3 = some m.cls := hown
  have hl : lv_has ls 5 [(0, .ref o), (1, .int r₁)] := hl
  have wk1 := hts (Cond.constant RX3 37 (-100002)) (List.mem_of_getElem? (i := 1) rfl)
  have wk2 := hts (Cond.fieldLink RX3 16 "TurnBids" "trial" "LTurnBids$Table;") (List.mem_of_getElem? (i := 2) rfl)
  have wk3 := hts (Cond.fieldLink RX3 62 "TurnBids$Table" "coins" "[I") (List.mem_of_getElem? (i := 3) rfl)
  have wk4 := hts (Cond.fieldLink RX3 121 "TurnBids$Table" "places" "[I") (List.mem_of_getElem? (i := 4) rfl)
  have wk5 := hts (Cond.methodLink RX3 159 yX3_tryRounds) (List.mem_of_getElem? (i := 5) rfl)
  have hinX3 : ∀ w ∈ wsX30, w ∈ wsX3_richest := fun _ h => (List.mem_cons_of_mem _ (List.mem_append_left _ (List.mem_append_right _ h)))
  have hinX2 : ∀ w ∈ wsX20, w ∈ wsX3_richest := fun _ h => (List.mem_cons_of_mem _ (List.mem_append_right _ h))
  refine lv_iload_n hx hb dX3_richest_0 rfl (lv_at hl 1 rfl) ?_
  refine lv_iconst (v := 1) hx hb dX3_richest_1 (by decide) ?_
  refine lv_icmp_lt (tgt := 11) hx hb dX3_richest_2 (by decide) (fun c_2_1 => ?_) (fun c_2_1 => ?_)
  · refine lv_ldc (v := (-100002)) hx hb hown wk1 dX3_richest_11 ?_
    exact hret _ _ _ _ _ (T, U, nx, ln, ad, S, ps, pl) ⟨by simp only [if_true, if_false, lz_o, lz_1, lz_2, lz_5, lz_3, lz_4, erN, if_pos c_2_1], (fun _ => 0), by simp only [if_true, if_false, lz_o, lz_1, lz_2, lz_5, lz_3, lz_4, erN, if_pos c_2_1]⟩ hP hD hS dX3_richest_13
  · have hr1 := c_2_1
    refine lv_iload_n hx hb dX3_richest_5 rfl (lv_at hl 1 rfl) ?_
    refine lv_bipush (v := 100) hx hb dX3_richest_6 (by decide) ?_
    refine lv_icmp_le (tgt := 14) hx hb dX3_richest_8 (by decide) (fun c_8_2 => ?_) (fun c_8_2 => ?_)
    · have her9 : erN r₁ = 0 := by simp only [if_true, if_false, lz_o, lz_1, lz_2, lz_5, lz_3, lz_4, erN, if_neg c_2_1, if_pos c_8_2]
      obtain ⟨j, hj, hej⟩ := x1_100 hr1 c_8_2
      rw [hej] at hl
      have hxj : ix r₁ = j := by rw [hej]; exact nI_clamp (by omega)
      refine lv_aload_n hx hb dX3_richest_14 rfl (lv_at hl 0 rfl) ?_
      refine lv_iload_n hx hb dX3_richest_15 rfl (lv_at hl 1 rfl) ?_
      refine cAV (As := [.int (nI j)]) (rest := []) ⟨hx, hb, hml, hown, hts⟩ (c_X3_tryRounds l G o t r h g b T U hT nx ln hnx hln ad S ps hps pl hpl j (by omega) _) (cwV 1 hts gX3_richest_X3_tryRounds rfl rfl rfl (by decide +kernel) ⟨Nat.le_of_ble_eq_true rfl, Nat.le_of_ble_eq_true rfl⟩) hK hP hD hS hA 0 (ci := 3) rfl rfl rfl rfl rfl hl.1 (Nat.le_of_ble_eq_true rfl) dX3_richest_16 ⟨Nat.le_of_ble_eq_true rfl, Nat.le_of_ble_eq_true rfl⟩ (fun u_3 H locs hr_3 hP hD hS => ?_)
      have hP : va_P G.1 vwCl (ow G o t r h g b T (tyL j T) nx ln (hd ad 0 6) (hd ad 6 2) ps pl ++ pool G ad S) H := hP
      have hD : va_D A (ow G o t r h g b T (tyL j T) nx ln (hd ad 0 6) (hd ad 6 2) ps pl ++ pool G ad S) := hD
      obtain ⟨y, hy⟩ : ∃ w₀ : Tb, w₀ = tyL j T := ⟨_, rfl⟩
      rw [← hy] at hP hD
      have hP : va_P G.1 vwCl (ow G o t r h g b T y nx ln (hd ad 0 6) (hd ad 6 2) ps pl ++ pool G ad S) H := hP
      have hD : va_D A (ow G o t r h g b T y nx ln (hd ad 0 6) (hd ad 6 2) ps pl ++ pool G ad S) := hD
      have hfo0 : vp_in 0 5 := vp_in_nI (n := 0) (by decide) (by decide)
      refine lv_iconst (v := 0) hx hb dX3_richest_19 (by decide) ?_
      refine lv_istore_n (lv' := [(2, .int 0), (0, .ref o), (1, .int (nI j))]) hx hb dX3_richest_20 rfl hl (by decide) rfl (fun ls hl => ?_)
      refine lv_iconst (v := 1) hx hb dX3_richest_21 (by decide) ?_
      refine lv_istore_n (lv' := [(3, .int 1), (2, .int 0), (0, .ref o), (1, .int (nI j))]) hx hb dX3_richest_22 rfl hl (by decide) rfl (fun ls hl => ?_)
      have L23 : ∀ (f i : Nat) (k : Int32), i + f = 5 → rhL y f i k = rhL y 4 1 0 → vp_in k 5 → ∀ ls : Array Slot, lv_has ls 5 [(3, .int (nI i)), (2, .int k), (0, .ref o), (1, .int (nI j))] → W p l e { frames := 7, cells := 0, slots := 0, locals := 151 } s m ([.ref o, .int r₁] : List Value).toArray below meth c H locs 0 0 Q (F0 m 23 ls []) := by
        intro f
        induction f with
        | zero =>
          intro i k hi hv23 hfo ls hl
          obtain rfl : i = 5 := by omega
          refine lv_iload_n hx hb dX3_richest_23 rfl (lv_at hl 0 rfl) ?_
          refine lv_iconst (v := 5) hx hb dX3_richest_24 (by decide) ?_
          refine lv_icmp_ge (tgt := 88) hx hb dX3_richest_25 (by decide) (fun _ => ?_) (fun c_9 => absurd (by decide +kernel) c_9)
          refine lv_iload_n hx hb dX3_richest_88 rfl (lv_at hl 1 rfl) ?_
          exact hret _ _ _ _ _ (T, y, nx, ln, ad, S, ps, pl) ⟨by rw [if_pos her9, hxj, ← hy, ← hv23]; simp only [rhL], (fun _ => 0), by rw [if_pos her9, hxj, ← hy]⟩ hP hD hS dX3_richest_89
        | succ f ih =>
          intro i k hi hv23 hfo ls hl
          have hlt : i < 5 := by omega
          refine lv_iload_n hx hb dX3_richest_23 rfl (lv_at hl 0 rfl) ?_
          refine lv_iconst (v := 5) hx hb dX3_richest_24 (by decide) ?_
          refine lv_icmp_ge (tgt := 88) hx hb dX3_richest_25 (by decide) (fun c_9 => absurd c_9 (nI_ge (b := 5) hlt (by decide))) (fun _ => ?_)
          refine lv_aload_n hx hb dX3_richest_28 rfl (lv_at hl 2 rfl) ?_
          refine va_get (D := G.1) (ci := 3) (v := .ref (r 0)) (C := RX3) (T := TX3) (N := 5) hx hb hts hinX3 hown hK.1 hP 0 rfl rfl 1 (by decide) wk2 (fun _ h9 => h9) rfl dX3_richest_29 ?_
          refine va_get (D := G.1) (ci := 2) (v := .ref (r 3)) (C := RX2) (T := TX2) (N := 13) hx hb hts hinX2 hown hK.1 hP 12 rfl rfl 2 (by decide) wk3 (fun _ h9 => h9) rfl dX3_richest_32 ?_
          refine lv_iload_n hx hb dX3_richest_35 rfl (lv_at hl 0 rfl) ?_
          refine qild hx hb hK.1 hP 15 0 rfl rfl (k := i) (nI_clamp (by omega)) (vp_in_nI (by omega) (by decide)) dX3_richest_36 ?_
          refine lv_aload_n hx hb dX3_richest_37 rfl (lv_at hl 2 rfl) ?_
          refine va_get (D := G.1) (ci := 3) (v := .ref (r 0)) (C := RX3) (T := TX3) (N := 5) hx hb hts hinX3 hown hK.1 hP 0 rfl rfl 1 (by decide) wk2 (fun _ h9 => h9) rfl dX3_richest_38 ?_
          refine va_get (D := G.1) (ci := 2) (v := .ref (r 3)) (C := RX2) (T := TX2) (N := 13) hx hb hts hinX2 hown hK.1 hP 12 rfl rfl 2 (by decide) wk3 (fun _ h9 => h9) rfl dX3_richest_41 ?_
          refine lv_iload_n hx hb dX3_richest_44 rfl (lv_at hl 1 rfl) ?_
          refine qild hx hb hK.1 hP 15 0 rfl rfl (k := ix k) rfl (by assumption) dX3_richest_45 ?_
          refine lv_isub hx hb dX3_richest_46 ?_
          refine lv_istore (lv' := [(4, .int ((y 2 i) - (y 2 (ix k)))), (3, .int (nI i)), (2, .int k), (0, .ref o), (1, .int (nI j))]) hx hb dX3_richest_47 hl (by decide) rfl (fun ls hl => ?_)
          refine lv_iload hx hb dX3_richest_49 (lv_at hl 0 rfl) ?_
          refine lv_if_gt (tgt := 80) hx hb dX3_richest_51 (by decide) (fun c_51_4 => ?_) (fun c_51_4 => ?_)
          · have hfo2 : vp_in (nI i) 5 := vp_in_nI (by omega) (by decide)
            refine lv_iload_n hx hb dX3_richest_80 rfl (lv_at hl 1 rfl) ?_
            refine lv_istore_n (lv' := [(2, .int (nI i)), (4, .int ((y 2 i) - (y 2 (ix k)))), (3, .int (nI i)), (0, .ref o), (1, .int (nI j))]) hx hb dX3_richest_81 rfl hl (by decide) rfl (fun ls hl => ?_)
            refine lv_iinc (v := nI (i + 1)) (lv' := [(3, .int (nI (i + 1))), (2, .int (nI i)), (4, .int ((y 2 i) - (y 2 (ix k)))), (0, .ref o), (1, .int (nI j))]) hx hb dX3_richest_82 hl (k := 2) rfl (nI_1 _) (by decide) rfl (fun ls hl => ?_)
            refine lv_goto (tgt := 23) hx hb dX3_richest_85 (by decide) ?_
            exact ih (i + 1) (nI i) (by omega) (by rw [← hv23]; simp only [if_true, if_false, lz_o, lz_1, lz_2, lz_5, lz_3, lz_4, erN, rhL, if_neg c_2_1, if_pos c_8_2, hxj, if_pos c_51_4]) hfo2 ls (lv_sub hl [0, 1, 3, 4] rfl)
          · refine lv_iload hx hb dX3_richest_54 (lv_at hl 0 rfl) ?_
            refine lv_if_ne (tgt := 82) hx hb dX3_richest_56 (by decide) (fun c_56_5 => ?_) (fun c_56_5 => ?_)
            · have hfo2 := hfo
              refine lv_iinc (v := nI (i + 1)) (lv' := [(3, .int (nI (i + 1))), (4, .int ((y 2 i) - (y 2 (ix k)))), (2, .int k), (0, .ref o), (1, .int (nI j))]) hx hb dX3_richest_82 hl (k := 1) rfl (nI_1 _) (by decide) rfl (fun ls hl => ?_)
              refine lv_goto (tgt := 23) hx hb dX3_richest_85 (by decide) ?_
              exact ih (i + 1) k (by omega) (by rw [← hv23]; simp only [if_true, if_false, lz_o, lz_1, lz_2, lz_5, lz_3, lz_4, erN, rhL, if_neg c_2_1, if_pos c_8_2, hxj, if_neg c_51_4, if_neg c_56_5]) hfo2 ls (lv_sub hl [0, 2, 3, 4] rfl)
            · refine lv_aload_n hx hb dX3_richest_59 rfl (lv_at hl 3 rfl) ?_
              refine va_get (D := G.1) (ci := 3) (v := .ref (r 0)) (C := RX3) (T := TX3) (N := 5) hx hb hts hinX3 hown hK.1 hP 0 rfl rfl 1 (by decide) wk2 (fun _ h9 => h9) rfl dX3_richest_60 ?_
              refine va_get (D := G.1) (ci := 2) (v := .ref (r 5)) (C := RX2) (T := TX2) (N := 13) hx hb hts hinX2 hown hK.1 hP 12 rfl rfl 4 (by decide) wk4 (fun _ h9 => h9) rfl dX3_richest_63 ?_
              refine lv_iload_n hx hb dX3_richest_66 rfl (lv_at hl 1 rfl) ?_
              refine qild hx hb hK.1 hP 17 0 rfl rfl (k := i) (nI_clamp (by omega)) (vp_in_nI (by omega) (by decide)) dX3_richest_67 ?_
              refine lv_aload_n hx hb dX3_richest_68 rfl (lv_at hl 3 rfl) ?_
              refine va_get (D := G.1) (ci := 3) (v := .ref (r 0)) (C := RX3) (T := TX3) (N := 5) hx hb hts hinX3 hown hK.1 hP 0 rfl rfl 1 (by decide) wk2 (fun _ h9 => h9) rfl dX3_richest_69 ?_
              refine va_get (D := G.1) (ci := 2) (v := .ref (r 5)) (C := RX2) (T := TX2) (N := 13) hx hb hts hinX2 hown hK.1 hP 12 rfl rfl 4 (by decide) wk4 (fun _ h9 => h9) rfl dX3_richest_72 ?_
              refine lv_iload_n hx hb dX3_richest_75 rfl (lv_at hl 2 rfl) ?_
              refine qild hx hb hK.1 hP 17 0 rfl rfl (k := ix k) rfl (by assumption) dX3_richest_76 ?_
              refine lv_icmp_ge (tgt := 82) hx hb dX3_richest_77 (by decide) (fun c_77_6 => ?_) (fun c_77_6 => ?_)
              · have hfo2 := hfo
                refine lv_iinc (v := nI (i + 1)) (lv' := [(3, .int (nI (i + 1))), (4, .int ((y 2 i) - (y 2 (ix k)))), (2, .int k), (0, .ref o), (1, .int (nI j))]) hx hb dX3_richest_82 hl (k := 1) rfl (nI_1 _) (by decide) rfl (fun ls hl => ?_)
                refine lv_goto (tgt := 23) hx hb dX3_richest_85 (by decide) ?_
                exact ih (i + 1) k (by omega) (by rw [← hv23]; simp only [if_true, if_false, lz_o, lz_1, lz_2, lz_5, lz_3, lz_4, erN, rhL, if_neg c_2_1, if_pos c_8_2, hxj, if_neg c_51_4, if_pos c_56_5, if_pos c_77_6]) hfo2 ls (lv_sub hl [0, 2, 3, 4] rfl)
              · have hfo2 : vp_in (nI i) 5 := vp_in_nI (by omega) (by decide)
                refine lv_iload_n hx hb dX3_richest_80 rfl (lv_at hl 1 rfl) ?_
                refine lv_istore_n (lv' := [(2, .int (nI i)), (4, .int ((y 2 i) - (y 2 (ix k)))), (3, .int (nI i)), (0, .ref o), (1, .int (nI j))]) hx hb dX3_richest_81 rfl hl (by decide) rfl (fun ls hl => ?_)
                refine lv_iinc (v := nI (i + 1)) (lv' := [(3, .int (nI (i + 1))), (2, .int (nI i)), (4, .int ((y 2 i) - (y 2 (ix k)))), (0, .ref o), (1, .int (nI j))]) hx hb dX3_richest_82 hl (k := 2) rfl (nI_1 _) (by decide) rfl (fun ls hl => ?_)
                refine lv_goto (tgt := 23) hx hb dX3_richest_85 (by decide) ?_
                exact ih (i + 1) (nI i) (by omega) (by rw [← hv23]; simp only [if_true, if_false, lz_o, lz_1, lz_2, lz_5, lz_3, lz_4, erN, rhL, if_neg c_2_1, if_pos c_8_2, hxj, if_neg c_51_4, if_pos c_56_5, if_neg c_77_6]) hfo2 ls (lv_sub hl [0, 1, 3, 4] rfl)
      exact L23 4 1 0 rfl (by simp only [if_true, if_false, lz_o, lz_1, lz_2, lz_5, lz_3, lz_4, erN, if_neg c_2_1, if_pos c_8_2, hxj]) hfo0 ls (lv_sub hl [0, 1, 2, 3] rfl)
    · refine lv_ldc (v := (-100002)) hx hb hown wk1 dX3_richest_11 ?_
      exact hret _ _ _ _ _ (T, U, nx, ln, ad, S, ps, pl) ⟨by simp only [if_true, if_false, lz_o, lz_1, lz_2, lz_5, lz_3, lz_4, erN, if_neg c_2_1, if_neg c_8_2], (fun _ => 0), by simp only [if_true, if_false, lz_o, lz_1, lz_2, lz_5, lz_3, lz_4, erN, if_neg c_2_1, if_neg c_8_2]⟩ hP hD hS dX3_richest_13
set_option maxHeartbeats 4000000 in
set_option maxRecDepth 100000 in
theorem c_X3_bestLimit (l : Launch) (G : qG) (o : Nat) (t r h : Nat → Nat) (g : Nat) (b : Nat → Nat) (T U : Tb) (hT : is01 (T 10 0)) (nx ln : Nat) (hnx : nx < 100000) (hln : ln ≤ 6) (ad : Ad) (S : Nat → Tb) (ps : Nat → Int32) (hps : chs ps) (pl : Nat) (hpl : pl ≤ 60) (x w : Int32) (sz : Nat) : Met l yX3_bestLimit wsX3_bestLimit { frames := 6, cells := 0, slots := 0, locals := 129 } (PW G sz [.ref o, .int x, .int w] (ow G o t r h g b T U nx ln (hd ad 0 6) (hd ad 6 2) ps pl ++ pool G ad S)) (QI (S := CS) G sz (ow G o t r h g b T U nx ln (hd ad 0 6) (hd ad 6 2) ps pl ++ pool G ad S) (fun r₀ c₀ => r₀ = (if erT x w = 0 then (if w = 0 then (bcR T U (ix x)).1 else (bcR T U (ix x)).2.1 - T 2 (ix x)) else erT x w) ∧ ∃ u : Nat → Nat, c₀ = (if erT x w = 0 then (T, (bcR T U (ix x)).2.2, nx, ln, ad, S, ps, pl) else (T, U, nx, ln, ad, S, ps, pl))) (fun c₀ => ows G o t r h g b c₀)) 0 0 (va_A (ow G o t r h g b T U nx ln (hd ad 0 6) (hd ad 6 2) ps pl ++ pool G ad S) sz) := by
  refine MI.of' (by decide) rfl (Nat.le_of_ble_eq_true rfl) ?_
  intro p e s m below meth c hx hb hml hown hts hK hsz hP A hAe hA hD hS Q hret ls hl
  have hown : s.vm.findClass RX3 = some m.cls := hown
  have hl : lv_has ls 6 [(0, .ref o), (1, .int x), (2, .int w)] := hl
  have wk1 := hts (Cond.constant RX3 56 (-100001)) (List.mem_of_getElem? (i := 1) rfl)
  have wk2 := hts (Cond.constant RX3 37 (-100002)) (List.mem_of_getElem? (i := 2) rfl)
  have wk3 := hts (Cond.constant RX3 103 (-100006)) (List.mem_of_getElem? (i := 3) rfl)
  have wk4 := hts (Cond.fieldLink RX3 16 "TurnBids" "trial" "LTurnBids$Table;") (List.mem_of_getElem? (i := 4) rfl)
  have wk5 := hts (Cond.fieldLink RX3 10 "TurnBids" "table" "LTurnBids$Table;") (List.mem_of_getElem? (i := 5) rfl)
  have wk6 := hts (Cond.fieldLink RX3 65 "TurnBids$Table" "limits" "[I") (List.mem_of_getElem? (i := 6) rfl)
  have wk7 := hts (Cond.fieldLink RX3 62 "TurnBids$Table" "coins" "[I") (List.mem_of_getElem? (i := 7) rfl)
  have wk8 := hts (Cond.methodLink RX3 52 yX3_isPlayer) (List.mem_of_getElem? (i := 8) rfl)
  have wk12 := hts (Cond.methodLink RX3 163 yX2_copyFrom) (List.mem_of_getElem? (i := 12) rfl)
  have wk34 := hts (Cond.methodLink RX3 94 yX2_playRound) (List.mem_of_getElem? (i := 34) rfl)
  have hinX3 : ∀ w ∈ wsX30, w ∈ wsX3_bestLimit := fun _ h => (List.mem_cons_of_mem _ (List.mem_append_left _ (List.mem_append_right _ h)))
  have hinX2 : ∀ w ∈ wsX20, w ∈ wsX3_bestLimit := fun _ h => (List.mem_cons_of_mem _ (List.mem_append_right _ h))
  refine lv_iload_n hx hb dX3_bestLimit_0 rfl (lv_at hl 1 rfl) ?_
  refine cPS (As := [.int x]) (rest := []) ⟨hx, hb, hml, hown, hts⟩ (c_X3_isPlayer l G x) (cwS 1 hts gX3_bestLimit_X3_isPlayer rfl rfl rfl (by decide +kernel) ⟨Nat.le_of_ble_eq_true rfl, Nat.le_of_ble_eq_true rfl⟩) hK (fun k q h => by simp at h) rfl rfl hl.1 (Nat.le_of_ble_eq_true rfl) dX3_bestLimit_1 ⟨Nat.le_of_ble_eq_true rfl, Nat.le_of_ble_eq_true rfl⟩ ?_
  refine lv_if_ne (tgt := 10) hx hb dX3_bestLimit_4 (by decide) (fun c_4_1 => ?_) (fun c_4_1 => ?_)
  · have hin_2 := isPb_in c_4_1
    obtain ⟨j, hj, hej⟩ := vp_in_of (isPb_in c_4_1) (by decide)
    rw [hej] at hl
    have hxj : ix x = j := by rw [hej]; exact nI_clamp (by omega)
    have J22 : erT x w = 0 → ∀ ls : Array Slot, lv_has ls 6 [(0, .ref o), (1, .int (nI j)), (2, .int w)] → W p l e { frames := 6, cells := 0, slots := 0, locals := 129 } s m ([.ref o, .int x, .int w] : List Value).toArray below meth c s.heap [] 0 0 Q (F0 m 22 ls []) := by
      intro her9 ls hl
      refine lv_iconst (v := 0) hx hb dX3_bestLimit_22 (by decide) ?_
      refine lv_istore_n (lv' := [(3, .int 0), (0, .ref o), (1, .int (nI j)), (2, .int w)]) hx hb dX3_bestLimit_23 rfl hl (by decide) rfl (fun ls hl => ?_)
      refine lv_ldc (v := (-100006)) hx hb hown wk3 dX3_bestLimit_24 ?_
      refine lv_istore (lv' := [(4, .int (-100006)), (3, .int 0), (0, .ref o), (1, .int (nI j)), (2, .int w)]) hx hb dX3_bestLimit_26 hl (by decide) rfl (fun ls hl => ?_)
      refine lv_iconst (v := 0) hx hb dX3_bestLimit_28 (by decide) ?_
      refine lv_istore (lv' := [(5, .int 0), (4, .int (-100006)), (3, .int 0), (0, .ref o), (1, .int (nI j)), (2, .int w)]) hx hb dX3_bestLimit_29 hl (by decide) rfl (fun ls hl => ?_)
      have L31 : ∀ (f i : Nat) (b₀ : Int32) (k : Int32) (V : Tb), i + f = 100 → bcL T j f i b₀ k V = bcR T U j → ∀ (H : Heap) (locs : List Loc), va_P G.1 vwCl (ow G o t r h g b T V nx ln (hd ad 0 6) (hd ad 6 2) ps pl ++ pool G ad S) H → va_D A (ow G o t r h g b T V nx ln (hd ad 0 6) (hd ad 6 2) ps pl ++ pool G ad S) → va_S A s.heap H locs → ∀ ls : Array Slot, lv_has ls 6 [(5, .int (nI i)), (4, .int k), (3, .int b₀), (0, .ref o), (1, .int (nI j)), (2, .int w)] → W p l e { frames := 6, cells := 0, slots := 0, locals := 129 } s m ([.ref o, .int x, .int w] : List Value).toArray below meth c H locs 0 0 Q (F0 m 31 ls []) := by
        intro f
        induction f with
        | zero =>
          intro i b₀ k V hi hv31 H locs hP hD hS ls hl
          obtain rfl : i = 100 := by omega
          refine lv_iload hx hb dX3_bestLimit_31 (lv_at hl 0 rfl) ?_
          refine lv_bipush (v := 99) hx hb dX3_bestLimit_33 (by decide) ?_
          refine lv_icmp_gt (tgt := 102) hx hb dX3_bestLimit_35 (by decide) (fun _ => ?_) (fun c_9 => absurd (by decide +kernel) c_9)
          refine lv_iload_n hx hb dX3_bestLimit_102 rfl (lv_at hl 5 rfl) ?_
          refine lv_if_ne (tgt := 110) hx hb dX3_bestLimit_103 (by decide) (fun c_103_3 => ?_) (fun c_103_3 => ?_)
          · refine lv_iload hx hb dX3_bestLimit_110 (lv_at hl 1 rfl) ?_
            refine lv_aload_n hx hb dX3_bestLimit_112 rfl (lv_at hl 3 rfl) ?_
            refine va_get (D := G.1) (ci := 3) (v := .ref (t 0)) (C := RX3) (T := TX3) (N := 5) hx hb hts hinX3 hown hK.1 hP 0 rfl rfl 0 (by decide) wk5 (fun _ h9 => h9) rfl dX3_bestLimit_113 ?_
            refine va_get (D := G.1) (ci := 2) (v := .ref (t 3)) (C := RX2) (T := TX2) (N := 13) hx hb hts hinX2 hown hK.1 hP 1 rfl rfl 2 (by decide) wk7 (fun _ h9 => h9) rfl dX3_bestLimit_116 ?_
            refine lv_iload_n hx hb dX3_bestLimit_119 rfl (lv_at hl 4 rfl) ?_
            refine qild hx hb hK.1 hP 4 0 rfl rfl (k := j) (nI_clamp (by omega)) (vp_in_nI (by omega) (by decide)) dX3_bestLimit_120 ?_
            refine lv_isub hx hb dX3_bestLimit_121 ?_
            exact hret _ _ _ _ _ (T, V, nx, ln, ad, S, ps, pl) ⟨by rw [if_pos her9, hxj, ← hv31]; simp only [bcL, if_true, if_false, lz_o, lz_1, lz_2, lz_5, lz_3, lz_4, if_neg c_4_1, hxj, if_neg c_103_3], (fun _ => 0), by rw [if_pos her9, hxj, ← hv31]; simp only [bcL]⟩ hP hD hS dX3_bestLimit_122
          · refine lv_iload_n hx hb dX3_bestLimit_106 rfl (lv_at hl 2 rfl) ?_
            refine lv_goto (tgt := 122) hx hb dX3_bestLimit_107 (by decide) ?_
            exact hret _ _ _ _ _ (T, V, nx, ln, ad, S, ps, pl) ⟨by rw [if_pos her9, hxj, ← hv31]; simp only [bcL, if_true, if_false, lz_o, lz_1, lz_2, lz_5, lz_3, lz_4, if_neg c_4_1, hxj, if_pos c_103_3], (fun _ => 0), by rw [if_pos her9, hxj, ← hv31]; simp only [bcL]⟩ hP hD hS dX3_bestLimit_122
        | succ f ih =>
          intro i b₀ k V hi hv31 H locs hP hD hS ls hl
          have hlt : i < 100 := by omega
          refine lv_iload hx hb dX3_bestLimit_31 (lv_at hl 0 rfl) ?_
          refine lv_bipush (v := 99) hx hb dX3_bestLimit_33 (by decide) ?_
          refine lv_icmp_gt (tgt := 102) hx hb dX3_bestLimit_35 (by decide) (fun c_9 => absurd c_9 (nI_nlt (a := 99) (b := i) (by omega) (by decide))) (fun _ => ?_)
          refine lv_aload_n hx hb dX3_bestLimit_38 rfl (lv_at hl 3 rfl) ?_
          refine va_get (D := G.1) (ci := 3) (v := .ref (r 0)) (C := RX3) (T := TX3) (N := 5) hx hb hts hinX3 hown hK.1 hP 0 rfl rfl 1 (by decide) wk4 (fun _ h9 => h9) rfl dX3_bestLimit_39 ?_
          refine lv_aload_n hx hb dX3_bestLimit_42 rfl (lv_at hl 3 rfl) ?_
          refine va_get (D := G.1) (ci := 3) (v := .ref (t 0)) (C := RX3) (T := TX3) (N := 5) hx hb hts hinX3 hown hK.1 hP 0 rfl rfl 0 (by decide) wk5 (fun _ h9 => h9) rfl dX3_bestLimit_43 ?_
          refine cQV (wr := [(o, .inr (3, [.ref (t 0), .ref (r 0), .ref (h 0), .ref g, .ref (b 0)]))] ++ hw G h nx ln (hd ad 0 6) ++ [(g, .inl (gR G, 2, .inr (.inr (.inr (.inr (hd ad 6 2))))))] ++ pw G b ps (nI pl)) (wc := tw G r V ++ tw G t T) (As := [.ref (t 0)]) (rest := []) ⟨hx, hb, hml, hown, hts⟩ (c_X2_copyFrom l G r t V T hT _) (cwV 1 hts gX3_bestLimit_X2_copyFrom rfl rfl rfl (by decide +kernel) ⟨Nat.le_of_ble_eq_true rfl, Nat.le_of_ble_eq_true rfl⟩) hK hP hD hS hA [12, 13, 14, 15, 16, 17, 18, 19, 20, 21, 22, 1, 2, 3, 4, 5, 6, 7, 8, 9, 10, 11] [0, 23, 24, 25, 26, 27] rfl rfl (by decide) (by decide) (by decide) 0 (ci := 2) rfl rfl rfl rfl rfl hl.1 (Nat.le_of_ble_eq_true rfl) dX3_bestLimit_46 ⟨Nat.le_of_ble_eq_true rfl, Nat.le_of_ble_eq_true rfl⟩ (fun u_4 H locs hr_4 hP hD hS => ?_)
          have hP : va_P G.1 vwCl (ow G o t r h g b T T nx ln (hd ad 0 6) (hd ad 6 2) ps pl ++ pool G ad S) H := hP.part (cx := ow G o t r h g b T T nx ln (hd ad 0 6) (hd ad 6 2) ps pl) [0, 17, 18, 19, 20, 21, 22, 23, 24, 25, 26, 27, 6, 7, 8, 9, 10, 11, 12, 13, 14, 15, 16, 1, 2, 3, 4, 5] rfl
          have hD : va_D A (ow G o t r h g b T T nx ln (hd ad 0 6) (hd ad 6 2) ps pl ++ pool G ad S) := hD.part (cx := ow G o t r h g b T T nx ln (hd ad 0 6) (hd ad 6 2) ps pl) [0, 17, 18, 19, 20, 21, 22, 23, 24, 25, 26, 27, 6, 7, 8, 9, 10, 11, 12, 13, 14, 15, 16, 1, 2, 3, 4, 5] (by decide) rfl
          refine lv_aload_n hx hb dX3_bestLimit_49 rfl (lv_at hl 3 rfl) ?_
          refine va_get (D := G.1) (ci := 3) (v := .ref (r 0)) (C := RX3) (T := TX3) (N := 5) hx hb hts hinX3 hown hK.1 hP 0 rfl rfl 1 (by decide) wk4 (fun _ h9 => h9) rfl dX3_bestLimit_50 ?_
          refine va_get (D := G.1) (ci := 2) (v := .ref (r 4)) (C := RX2) (T := TX2) (N := 13) hx hb hts hinX2 hown hK.1 hP 12 rfl rfl 3 (by decide) wk6 (fun _ h9 => h9) rfl dX3_bestLimit_53 ?_
          refine lv_iload_n hx hb dX3_bestLimit_56 rfl (lv_at hl 4 rfl) ?_
          refine lv_iload hx hb dX3_bestLimit_57 (lv_at hl 0 rfl) ?_
          refine qist hx hb hK.1 hP hD hS 16 0 rfl rfl (k := j) (nI_clamp (by omega)) (vp_in_nI (by omega) (by decide)) dX3_bestLimit_59 (fun H locs hP hD hS => ?_)
          have hP : va_P G.1 vwCl (ow G o t r h g b T (tup T 3 j (nI i)) nx ln (hd ad 0 6) (hd ad 6 2) ps pl ++ pool G ad S) H := hP
          have hD : va_D A (ow G o t r h g b T (tup T 3 j (nI i)) nx ln (hd ad 0 6) (hd ad 6 2) ps pl ++ pool G ad S) := hD
          refine lv_aload_n hx hb dX3_bestLimit_60 rfl (lv_at hl 3 rfl) ?_
          refine va_get (D := G.1) (ci := 3) (v := .ref (r 0)) (C := RX3) (T := TX3) (N := 5) hx hb hts hinX3 hown hK.1 hP 0 rfl rfl 1 (by decide) wk4 (fun _ h9 => h9) rfl dX3_bestLimit_61 ?_
          refine cQI (wr := [(o, .inr (3, [.ref (t 0), .ref (r 0), .ref (h 0), .ref g, .ref (b 0)]))] ++ tw G t T ++ hw G h nx ln (hd ad 0 6) ++ [(g, .inl (gR G, 2, .inr (.inr (.inr (.inr (hd ad 6 2))))))] ++ pw G b ps (nI pl)) (wc := tw G r (tup T 3 j (nI i))) (As := []) (rest := []) ⟨hx, hb, hml, hown, hts⟩ (c_X2_playRound l G r (tup T 3 j (nI i)) _) (cwV 0 hts gX3_bestLimit_X2_playRound rfl rfl rfl (by decide +kernel) ⟨Nat.le_of_ble_eq_true rfl, Nat.le_of_ble_eq_true rfl⟩) hK hP hD hS hA [12, 13, 14, 15, 16, 17, 18, 19, 20, 21, 22] [0, 1, 2, 3, 4, 5, 6, 7, 8, 9, 10, 11, 23, 24, 25, 26, 27] rfl rfl (by decide) (by decide) (by decide) 0 (ci := 2) rfl rfl rfl rfl rfl hl.1 (Nat.le_of_ble_eq_true rfl) dX3_bestLimit_64 ⟨Nat.le_of_ble_eq_true rfl, Nat.le_of_ble_eq_true rfl⟩ (fun r_5 u_5 H locs hr_5 hP hD hS => ?_)
          have hP : va_P G.1 vwCl (ow G o t r h g b T ((prR (tup T 3 j (nI i))).1) nx ln (hd ad 0 6) (hd ad 6 2) ps pl ++ pool G ad S) H := hP.part (cx := ow G o t r h g b T ((prR (tup T 3 j (nI i))).1) nx ln (hd ad 0 6) (hd ad 6 2) ps pl) [0, 1, 2, 3, 4, 5, 6, 7, 8, 9, 10, 11, 17, 18, 19, 20, 21, 22, 23, 24, 25, 26, 27, 12, 13, 14, 15, 16] rfl
          have hD : va_D A (ow G o t r h g b T ((prR (tup T 3 j (nI i))).1) nx ln (hd ad 0 6) (hd ad 6 2) ps pl ++ pool G ad S) := hD.part (cx := ow G o t r h g b T ((prR (tup T 3 j (nI i))).1) nx ln (hd ad 0 6) (hd ad 6 2) ps pl) [0, 1, 2, 3, 4, 5, 6, 7, 8, 9, 10, 11, 17, 18, 19, 20, 21, 22, 23, 24, 25, 26, 27, 12, 13, 14, 15, 16] (by decide) rfl
          have hr_5 : r_5 = nI (prR (tup T 3 j (nI i))).2 := hr_5
          subst hr_5
          refine lv_pop hx hb dX3_bestLimit_67 rfl ?_
          refine lv_aload_n hx hb dX3_bestLimit_68 rfl (lv_at hl 3 rfl) ?_
          refine va_get (D := G.1) (ci := 3) (v := .ref (r 0)) (C := RX3) (T := TX3) (N := 5) hx hb hts hinX3 hown hK.1 hP 0 rfl rfl 1 (by decide) wk4 (fun _ h9 => h9) rfl dX3_bestLimit_69 ?_
          refine va_get (D := G.1) (ci := 2) (v := .ref (r 3)) (C := RX2) (T := TX2) (N := 13) hx hb hts hinX2 hown hK.1 hP 12 rfl rfl 2 (by decide) wk7 (fun _ h9 => h9) rfl dX3_bestLimit_72 ?_
          refine lv_iload_n hx hb dX3_bestLimit_75 rfl (lv_at hl 4 rfl) ?_
          refine qild hx hb hK.1 hP 15 0 rfl rfl (k := j) (nI_clamp (by omega)) (vp_in_nI (by omega) (by decide)) dX3_bestLimit_76 ?_
          refine lv_iload hx hb dX3_bestLimit_77 (lv_at hl 1 rfl) ?_
          refine lv_icmp_le (tgt := 96) hx hb dX3_bestLimit_79 (by decide) (fun c_79_6 => ?_) (fun c_79_6 => ?_)
          · refine lv_iinc (v := nI (i + 1)) (lv' := [(5, .int (nI (i + 1))), (4, .int k), (3, .int b₀), (0, .ref o), (1, .int (nI j)), (2, .int w)]) hx hb dX3_bestLimit_96 hl (k := 0) rfl (nI_1 _) (by decide) rfl (fun ls hl => ?_)
            refine lv_goto (tgt := 31) hx hb dX3_bestLimit_99 (by decide) ?_
            exact ih (i + 1) b₀ k ((prR (tup T 3 j (nI i))).1) (by omega) (by rw [← hv31]; simp only [if_true, if_false, lz_o, lz_1, lz_2, lz_5, lz_3, lz_4, erT, bcR, bcL, if_neg c_4_1, hxj, if_pos c_79_6]) _ _ hP hD hS ls (lv_sub hl [0, 1, 2, 3, 4, 5] rfl)
          · refine lv_aload_n hx hb dX3_bestLimit_82 rfl (lv_at hl 3 rfl) ?_
            refine va_get (D := G.1) (ci := 3) (v := .ref (r 0)) (C := RX3) (T := TX3) (N := 5) hx hb hts hinX3 hown hK.1 hP 0 rfl rfl 1 (by decide) wk4 (fun _ h9 => h9) rfl dX3_bestLimit_83 ?_
            refine va_get (D := G.1) (ci := 2) (v := .ref (r 3)) (C := RX2) (T := TX2) (N := 13) hx hb hts hinX2 hown hK.1 hP 12 rfl rfl 2 (by decide) wk7 (fun _ h9 => h9) rfl dX3_bestLimit_86 ?_
            refine lv_iload_n hx hb dX3_bestLimit_89 rfl (lv_at hl 4 rfl) ?_
            refine qild hx hb hK.1 hP 15 0 rfl rfl (k := j) (nI_clamp (by omega)) (vp_in_nI (by omega) (by decide)) dX3_bestLimit_90 ?_
            refine lv_istore (lv' := [(4, .int ((((prR (tup T 3 j (nI i))).1) 2) j)), (5, .int (nI i)), (3, .int b₀), (0, .ref o), (1, .int (nI j)), (2, .int w)]) hx hb dX3_bestLimit_91 hl (by decide) rfl (fun ls hl => ?_)
            refine lv_iload hx hb dX3_bestLimit_93 (lv_at hl 1 rfl) ?_
            refine lv_istore_n (lv' := [(3, .int (nI i)), (4, .int ((((prR (tup T 3 j (nI i))).1) 2) j)), (5, .int (nI i)), (0, .ref o), (1, .int (nI j)), (2, .int w)]) hx hb dX3_bestLimit_95 rfl hl (by decide) rfl (fun ls hl => ?_)
            refine lv_iinc (v := nI (i + 1)) (lv' := [(5, .int (nI (i + 1))), (3, .int (nI i)), (4, .int ((((prR (tup T 3 j (nI i))).1) 2) j)), (0, .ref o), (1, .int (nI j)), (2, .int w)]) hx hb dX3_bestLimit_96 hl (k := 2) rfl (nI_1 _) (by decide) rfl (fun ls hl => ?_)
            refine lv_goto (tgt := 31) hx hb dX3_bestLimit_99 (by decide) ?_
            exact ih (i + 1) (nI i) ((((prR (tup T 3 j (nI i))).1) 2) j) ((prR (tup T 3 j (nI i))).1) (by omega) (by rw [← hv31]; simp only [if_true, if_false, lz_o, lz_1, lz_2, lz_5, lz_3, lz_4, erT, bcR, bcL, if_neg c_4_1, hxj, if_neg c_79_6]) _ _ hP hD hS ls (lv_sub hl [0, 2, 1, 3, 4, 5] rfl)
      exact L31 100 0 0 (-100006) U rfl (by simp only [if_true, if_false, lz_o, lz_1, lz_2, lz_5, lz_3, lz_4, erT, bcR, if_neg c_4_1, hxj]) _ _ hP hD hS ls (lv_sub hl [0, 1, 2, 3, 4, 5] rfl)
    refine lv_iload_n hx hb dX3_bestLimit_10 rfl (lv_at hl 2 rfl) ?_
    refine lv_if_eq (tgt := 22) hx hb dX3_bestLimit_11 (by decide) (fun c_11_7 => ?_) (fun c_11_7 => ?_)
    · exact J22 (by simp only [if_true, if_false, lz_o, lz_1, lz_2, lz_5, lz_3, lz_4, erT, if_neg c_4_1, hxj, if_pos c_11_7]) ls (lv_sub hl [0, 1, 2] rfl)
    · refine lv_iload_n hx hb dX3_bestLimit_14 rfl (lv_at hl 2 rfl) ?_
      refine lv_iconst (v := 1) hx hb dX3_bestLimit_15 (by decide) ?_
      refine lv_icmp_eq (tgt := 22) hx hb dX3_bestLimit_16 (by decide) (fun c_16_8 => ?_) (fun c_16_8 => ?_)
      · exact J22 (by simp only [if_true, if_false, lz_o, lz_1, lz_2, lz_5, lz_3, lz_4, erT, if_neg c_4_1, hxj, if_neg c_11_7, if_pos c_16_8]) ls (lv_sub hl [0, 1, 2] rfl)
      · refine lv_ldc (v := (-100002)) hx hb hown wk2 dX3_bestLimit_19 ?_
        exact hret _ _ _ _ _ (T, U, nx, ln, ad, S, ps, pl) ⟨by simp only [if_true, if_false, lz_o, lz_1, lz_2, lz_5, lz_3, lz_4, erT, bcR, if_neg c_4_1, hxj, if_neg c_11_7, if_neg c_16_8], (fun _ => 0), by simp only [if_true, if_false, lz_o, lz_1, lz_2, lz_5, lz_3, lz_4, erT, bcR, if_neg c_4_1, hxj, if_neg c_11_7, if_neg c_16_8]⟩ hP hD hS dX3_bestLimit_21
  · refine lv_ldc (v := (-100001)) hx hb hown wk1 dX3_bestLimit_7 ?_
    exact hret _ _ _ _ _ (T, U, nx, ln, ad, S, ps, pl) ⟨by simp only [if_true, if_false, lz_o, lz_1, lz_2, lz_5, lz_3, lz_4, erT, bcR, if_pos c_4_1], (fun _ => 0), by simp only [if_true, if_false, lz_o, lz_1, lz_2, lz_5, lz_3, lz_4, erT, bcR, if_pos c_4_1]⟩ hP hD hS dX3_bestLimit_9
set_option maxHeartbeats 4000000 in
set_option maxRecDepth 100000 in
theorem c_X3_undo (l : Launch) (G : qG) (o : Nat) (t r h : Nat → Nat) (g : Nat) (b : Nat → Nat) (T U : Tb) (hT : is01 (T 10 0)) (nx ln : Nat) (hnx : nx < 100000) (hln : ln ≤ 6) (ad : Ad) (S : Nat → Tb) (ps : Nat → Int32) (hps : chs ps) (pl : Nat) (hpl : pl ≤ 60) (hS9 : ∀ k, k < 8 → ¬ ad k = none → is01 (S k 10 0)) (hun : ¬ ln = 0 → ∃ (n : Nat) (a : Nat → Nat), nx = n + 1 ∧ ad (n % 6) = some a)  (sz : Nat) : Met l yX3_undo wsX3_undo { frames := 3, cells := 0, slots := 0, locals := 61 } (PW G sz [.ref o] (ow G o t r h g b T U nx ln (hd ad 0 6) (hd ad 6 2) ps pl ++ pool G ad S)) (QI (S := CS) G sz (ow G o t r h g b T U nx ln (hd ad 0 6) (hd ad 6 2) ps pl ++ pool G ad S) (fun r₀ c₀ => r₀ = (if ln = 0 then (-100005) else nI (ln - 1)) ∧ ∃ u : Nat → Nat, c₀ = (if ln = 0 then (T, U, nx, ln, ad, S, ps, pl) else (S ((nx - 1) % 6), U, nx - 1, ln - 1, ad, S, ps, pl))) (fun c₀ => ows G o t r h g b c₀)) 0 0 (va_A (ow G o t r h g b T U nx ln (hd ad 0 6) (hd ad 6 2) ps pl ++ pool G ad S) sz) := by
  refine MI.of' (by decide) rfl (Nat.le_of_ble_eq_true rfl) ?_
  intro p e s m below meth c hx hb hml hown hts hK hsz hP A hAe hA hD hS Q hret ls hl
  have hown : s.vm.findClass RX3 = some m.cls := hown
  have hl : lv_has ls 1 [(0, .ref o)] := hl
  have wk1 := hts (Cond.fieldLink RX3 22 "TurnBids" "history" "LTurnBids$History;") (List.mem_of_getElem? (i := 1) rfl)
  have wk2 := hts (Cond.fieldLink RX3 158 "TurnBids$History" "length" "I") (List.mem_of_getElem? (i := 2) rfl)
  have wk3 := hts (Cond.constant RX3 61 (-100005)) (List.mem_of_getElem? (i := 3) rfl)
  have wk4 := hts (Cond.fieldLink RX3 10 "TurnBids" "table" "LTurnBids$Table;") (List.mem_of_getElem? (i := 4) rfl)
  have hinX3 : ∀ w ∈ wsX30, w ∈ wsX3_undo := fun _ h => (List.mem_cons_of_mem _ (List.mem_append_left _ (List.mem_append_left _ (List.mem_append_right _ h))))
  have hinX0 : ∀ w ∈ wsX00, w ∈ wsX3_undo := fun _ h => (List.mem_cons_of_mem _ (List.mem_append_left _ (List.mem_append_right _ h)))
  rcases Nat.eq_zero_or_pos ln with rfl | hpos
  · skip
    refine lv_aload_n hx hb dX3_undo_0 rfl (lv_at hl 0 rfl) ?_
    refine va_get (D := G.1) (ci := 3) (v := .ref (h 0)) (C := RX3) (T := TX3) (N := 5) hx hb hts hinX3 hown hK.1 hP 0 rfl rfl 2 (by decide) wk1 (fun _ h9 => h9) rfl dX3_undo_1 ?_
    refine va_get (D := G.1) (ci := 0) (v := .int (nI 0)) (C := RX0) (T := TX0) (N := 3) hx hb hts hinX0 hown hK.1 hP 23 rfl rfl 2 (by decide) wk2 (fun _ h9 => h9) rfl dX3_undo_4 ?_
    refine lv_if_ne (tgt := 13) hx hb dX3_undo_7 (by decide) (fun c_9 => absurd (by decide +kernel) c_9) (fun _ => ?_)
    refine lv_ldc (v := (-100005)) hx hb hown wk3 dX3_undo_10 ?_
    exact hret _ _ _ _ _ (T, U, nx, 0, ad, S, ps, pl) ⟨by exact (if_pos rfl).symm, (fun _ => 0), by exact (if_pos rfl).symm⟩ hP hD hS dX3_undo_12
  · obtain ⟨n, a, rfl, ha9⟩ := hun (by omega)
    obtain ⟨l₁, rfl⟩ : ∃ l₁, ln = l₁ + 1 := ⟨ln - 1, by omega⟩
    have hs9 : is01 (S (n % 6) 10 0) := hS9 _ (by omega) (by rw [ha9]; exact fun h => by cases h)
    refine lv_aload_n hx hb dX3_undo_0 rfl (lv_at hl 0 rfl) ?_
    refine va_get (D := G.1) (ci := 3) (v := .ref (h 0)) (C := RX3) (T := TX3) (N := 5) hx hb hts hinX3 hown hK.1 hP 0 rfl rfl 2 (by decide) wk1 (fun _ h9 => h9) rfl dX3_undo_1 ?_
    refine va_get (D := G.1) (ci := 0) (v := .int (nI (l₁ + 1))) (C := RX0) (T := TX0) (N := 3) hx hb hts hinX0 hown hK.1 hP 23 rfl rfl 2 (by decide) wk2 (fun _ h9 => h9) rfl dX3_undo_4 ?_
    refine lv_if_ne (tgt := 13) hx hb dX3_undo_7 (by decide) (fun _ => ?_) (fun c_9 => absurd c_9 (nI_ne0 (by omega) (by omega)))
    refine lv_aload_n hx hb dX3_undo_13 rfl (lv_at hl 0 rfl) ?_
    refine va_get (D := G.1) (ci := 3) (v := .ref (h 0)) (C := RX3) (T := TX3) (N := 5) hx hb hts hinX3 hown hK.1 hP 0 rfl rfl 2 (by decide) wk1 (fun _ h9 => h9) rfl dX3_undo_14 ?_
    refine lv_aload_n hx hb dX3_undo_17 rfl (lv_at hl 0 rfl) ?_
    refine va_get (D := G.1) (ci := 3) (v := .ref (t 0)) (C := RX3) (T := TX3) (N := 5) hx hb hts hinX3 hown hK.1 hP 0 rfl rfl 0 (by decide) wk4 (fun _ h9 => h9) rfl dX3_undo_18 ?_
    refine cPoolV (wr := [(o, .inr (3, [.ref (t 0), .ref (r 0), .ref (h 0), .ref g, .ref (b 0)]))] ++ tw G r U ++ [(g, .inl (gR G, 2, .inr (.inr (.inr (.inr (hd ad 6 2))))))] ++ pw G b ps (nI pl)) (wc := hw G h (n + 1) (l₁ + 1) (hd ad 0 6) ++ tw G t T) (As := [.ref (t 0)]) (rest := []) ⟨hx, hb, hml, hown, hts⟩ (c_X0_takeBack l G h t T n l₁ (by omega) (by omega) ad S a ha9 hs9 _) (cwV 1 hts gX3_undo_X0_takeBack rfl rfl rfl (by decide +kernel) ⟨Nat.le_of_ble_eq_true rfl, Nat.le_of_ble_eq_true rfl⟩) hK hP hD hS hA [23, 24, 1, 2, 3, 4, 5, 6, 7, 8, 9, 10, 11] [0, 12, 13, 14, 15, 16, 17, 18, 19, 20, 21, 22, 25, 26, 27] rfl rfl (by decide) (by decide) (by decide) 0 (ci := 0) rfl rfl rfl rfl rfl hl.1 (Nat.le_of_ble_eq_true rfl) dX3_undo_21 ⟨Nat.le_of_ble_eq_true rfl, Nat.le_of_ble_eq_true rfl⟩ (fun u_1 H locs hr_1 hP hD hS => ?_)
    have hP : va_P G.1 vwCl (ow G o t r h g b (S (n % 6)) U n l₁ (hd ad 0 6) (hd ad 6 2) ps pl ++ pool G ad S) H := hP.part (cx := ow G o t r h g b (S (n % 6)) U n l₁ (hd ad 0 6) (hd ad 6 2) ps pl) [0, 17, 18, 19, 20, 21, 22, 23, 24, 25, 26, 27, 1, 2, 3, 4, 5, 6, 7, 8, 9, 10, 11, 15, 16, 12, 13, 14] rfl
    have hD : va_D A (ow G o t r h g b (S (n % 6)) U n l₁ (hd ad 0 6) (hd ad 6 2) ps pl ++ pool G ad S) := hD.part (cx := ow G o t r h g b (S (n % 6)) U n l₁ (hd ad 0 6) (hd ad 6 2) ps pl) [0, 17, 18, 19, 20, 21, 22, 23, 24, 25, 26, 27, 1, 2, 3, 4, 5, 6, 7, 8, 9, 10, 11, 15, 16, 12, 13, 14] (by decide) rfl
    refine lv_aload_n hx hb dX3_undo_24 rfl (lv_at hl 0 rfl) ?_
    refine va_get (D := G.1) (ci := 3) (v := .ref (h 0)) (C := RX3) (T := TX3) (N := 5) hx hb hts hinX3 hown hK.1 hP 0 rfl rfl 2 (by decide) wk1 (fun _ h9 => h9) rfl dX3_undo_25 ?_
    refine va_get (D := G.1) (ci := 0) (v := .int (nI l₁)) (C := RX0) (T := TX0) (N := 3) hx hb hts hinX0 hown hK.1 hP 23 rfl rfl 2 (by decide) wk2 (fun _ h9 => h9) rfl dX3_undo_28 ?_
    exact hret _ _ _ _ _ (S (n % 6), U, n, l₁, ad, S, ps, pl) ⟨by exact (if_neg (Nat.succ_ne_zero _)).symm, (fun _ => 0), by exact (if_neg (Nat.succ_ne_zero _)).symm⟩ hP hD hS dX3_undo_31
set_option maxHeartbeats 4000000 in
set_option maxRecDepth 100000 in
theorem c_X3_save (l : Launch) (G : qG) (o : Nat) (t r h : Nat → Nat) (g : Nat) (b : Nat → Nat) (T U : Tb) (hT : is01 (T 10 0)) (nx ln : Nat) (hnx : nx < 100000) (hln : ln ≤ 6) (ad : Ad) (S : Nat → Tb) (ps : Nat → Int32) (hps : chs ps) (pl : Nat) (hpl : pl ≤ 60) (x : Int32) (sz : Nat) : Met l yX3_save wsX3_save { frames := 2, cells := 11, slots := 62, locals := 39 } (PW G sz [.ref o, .int x] (ow G o t r h g b T U nx ln (hd ad 0 6) (hd ad 6 2) ps pl ++ pool G ad S)) (QI (S := CS) G sz (ow G o t r h g b T U nx ln (hd ad 0 6) (hd ad 6 2) ps pl ++ pool G ad S) (fun r₀ c₀ => r₀ = (if slC x = 0 then sqC (T 2) else slC x) ∧ ∃ u : Nat → Nat, c₀ = (if slC x = 0 then (T, U, nx, ln, va_up ad (6 + ix x) (some u), va_up S (6 + ix x) T, ps, pl) else (T, U, nx, ln, ad, S, ps, pl))) (fun c₀ => ows G o t r h g b c₀)) 11 62 (va_A (ow G o t r h g b T U nx ln (hd ad 0 6) (hd ad 6 2) ps pl ++ pool G ad S) sz) := by
  refine MI.of' (by decide) rfl (Nat.le_of_ble_eq_true rfl) ?_
  intro p e s m below meth c hx hb hml hown hts hK hsz hP A hAe hA hD hS Q hret ls hl
  have hown : s.vm.findClass RX3 = some m.cls := hown
  have hl : lv_has ls 3 [(0, .ref o), (1, .int x)] := hl
  have wk1 := hts (Cond.constant RX3 37 (-100002)) (List.mem_of_getElem? (i := 1) rfl)
  have wk2 := hts (Cond.fieldLink RX3 26 "TurnBids" "slots" "[LTurnBids$Table;") (List.mem_of_getElem? (i := 2) rfl)
  have wk3 := hts (Cond.classLink RX3 7 RX2) (List.mem_of_getElem? (i := 3) rfl)
  have wk4 := hts (Cond.instantiable RX2 13) (List.mem_of_getElem? (i := 4) rfl)
  have wk5 := hts (Cond.initialized RX2) (List.mem_of_getElem? (i := 5) rfl)
  have wk6 := hts (Cond.fieldLink RX3 10 "TurnBids" "table" "LTurnBids$Table;") (List.mem_of_getElem? (i := 6) rfl)
  have wk7 := hts (Cond.fieldLink RX3 62 "TurnBids$Table" "coins" "[I") (List.mem_of_getElem? (i := 7) rfl)
  have wk8 := hts (Cond.instanceMethod yX2_init) (List.mem_of_getElem? (i := 8) rfl)
  have wk28 := hts (Cond.methodLink RX3 163 yX2_copyFrom) (List.mem_of_getElem? (i := 28) rfl)
  have wk36 := hts (Cond.methodLink RX3 154 yX3_sum) (List.mem_of_getElem? (i := 36) rfl)
  have hinX3 : ∀ w ∈ wsX30, w ∈ wsX3_save := fun _ h => (List.mem_cons_of_mem _ (List.mem_append_left _ (List.mem_append_right _ h)))
  have hinX2 : ∀ w ∈ wsX20, w ∈ wsX3_save := fun _ h => (List.mem_cons_of_mem _ (List.mem_append_right _ h))
  refine lv_iload_n hx hb dX3_save_0 rfl (lv_at hl 1 rfl) ?_
  refine lv_if_lt (tgt := 9) hx hb dX3_save_1 (by decide) (fun c_1_1 => ?_) (fun c_1_1 => ?_)
  · refine lv_ldc (v := (-100002)) hx hb hown wk1 dX3_save_9 ?_
    refine W.widen (k := 11) (n := 62) (by decide) (by decide) ?_
    exact hret _ _ _ _ _ (T, U, nx, ln, ad, S, ps, pl) ⟨by simp only [if_true, if_false, lz_o, lz_1, lz_2, lz_5, lz_3, lz_4, slC, if_pos c_1_1], (fun _ => 0), by simp only [if_true, if_false, lz_o, lz_1, lz_2, lz_5, lz_3, lz_4, slC, if_pos c_1_1]⟩ hP hD hS dX3_save_11
  · refine lv_iload_n hx hb dX3_save_4 rfl (lv_at hl 1 rfl) ?_
    refine lv_iconst (v := 2) hx hb dX3_save_5 (by decide) ?_
    refine lv_icmp_lt (tgt := 12) hx hb dX3_save_6 (by decide) (fun c_6_2 => ?_) (fun c_6_2 => ?_)
    · have c0_ := c_1_1
      obtain ⟨j, hj, hej⟩ := x_lt (N := 2) (by decide) c0_ c_6_2
      rw [hej] at hl
      have hxj : ix x = j := by rw [hej]; exact nI_clamp (by omega)
      refine lv_aload_n hx hb dX3_save_12 rfl (lv_at hl 0 rfl) ?_
      refine va_get (D := G.1) (ci := 3) (v := .ref g) (C := RX3) (T := TX3) (N := 5) hx hb hts hinX3 hown hK.1 hP 0 rfl rfl 3 (by decide) wk2 (fun _ h9 => h9) rfl dX3_save_13 ?_
      refine lv_iload_n hx hb dX3_save_16 rfl (lv_at hl 1 rfl) ?_
      refine va_aldq hx hb hK.1 hP 25 2 rfl rfl (i := nI j) (vp_in_nI (n := j) (by omega) (by decide)) dX3_save_17 ?_
      have hv9 : hd ad 6 2 (nI j).toNatClampNeg = (ad (6 + (j))).map (fun x => x 0) := by rw [nI_clamp (by omega), hd_get (by omega)]
      rw [hv9]
      have J38 : ∀ (a : Nat → Nat) (V : Tb) (H : Heap) (locs : List Loc), va_P G.1 vwCl (ow G o t r h g b T U nx ln (hd (va_up ad (6 + j) (some a)) 0 6) (hd (va_up ad (6 + j) (some a)) 6 2) ps pl ++ tw G a V ++ pool G (va_up ad (6 + j) none) S) H → va_D A (ow G o t r h g b T U nx ln (hd (va_up ad (6 + j) (some a)) 0 6) (hd (va_up ad (6 + j) (some a)) 6 2) ps pl ++ tw G a V ++ pool G (va_up ad (6 + j) none) S) → va_S A s.heap H locs → ∀ ls : Array Slot, lv_has ls 3 [(2, .ref (a 0)), (0, .ref o), (1, .int (nI j))] → W p l e { frames := 2, cells := 11, slots := 62, locals := 39 } s m ([.ref o, .int x] : List Value).toArray below meth c H locs 11 62 Q (F0 m 38 ls []) := by
        intro a V H locs hP hD hS ls hl
        refine lv_aload_n hx hb dX3_save_38 rfl (lv_at hl 0 rfl) ?_
        refine lv_aload_n hx hb dX3_save_39 rfl (lv_at hl 1 rfl) ?_
        refine va_get (D := G.1) (ci := 3) (v := .ref (t 0)) (C := RX3) (T := TX3) (N := 5) hx hb hts hinX3 hown hK.1 hP 0 rfl rfl 0 (by decide) wk6 (fun _ h9 => h9) rfl dX3_save_40 ?_
        refine cQV (wr := [(o, .inr (3, [.ref (t 0), .ref (r 0), .ref (h 0), .ref g, .ref (b 0)]))] ++ tw G r U ++ hw G h nx ln (hd (va_up ad (6 + j) (some a)) 0 6) ++ [(g, .inl (gR G, 2, .inr (.inr (.inr (.inr (hd (va_up ad (6 + j) (some a)) 6 2))))))] ++ pw G b ps (nI pl)) (wc := tw G a V ++ tw G t T) (As := [.ref (t 0)]) (rest := []) ⟨hx, hb, hml, hown, hts⟩ (c_X2_copyFrom l G a t V T hT _) (cwV 1 hts gX3_save_X2_copyFrom rfl rfl rfl (by decide +kernel) ⟨Nat.le_of_ble_eq_true rfl, Nat.le_of_ble_eq_true rfl⟩) hK hP hD hS hA [28, 29, 30, 31, 32, 33, 34, 35, 36, 37, 38, 1, 2, 3, 4, 5, 6, 7, 8, 9, 10, 11] [0, 12, 13, 14, 15, 16, 17, 18, 19, 20, 21, 22, 23, 24, 25, 26, 27] rfl rfl (by decide) (by decide) (by decide) 0 (ci := 2) rfl rfl rfl rfl rfl hl.1 (Nat.le_of_ble_eq_true rfl) dX3_save_43 ⟨Nat.le_of_ble_eq_true rfl, Nat.le_of_ble_eq_true rfl⟩ (fun u_3 H locs hr_3 hP hD hS => ?_)
        have hP : va_P G.1 vwCl (ow G o t r h g b T U nx ln (hd (va_up ad (6 + j) (some a)) 0 6) (hd (va_up ad (6 + j) (some a)) 6 2) ps pl ++ tw G a T ++ pool G (va_up ad (6 + j) none) S) H := hP.part (cx := ow G o t r h g b T U nx ln (hd (va_up ad (6 + j) (some a)) 0 6) (hd (va_up ad (6 + j) (some a)) 6 2) ps pl ++ tw G a T) [0, 28, 29, 30, 31, 32, 33, 34, 35, 36, 37, 38, 1, 2, 3, 4, 5, 6, 7, 8, 9, 10, 11, 12, 13, 14, 15, 16, 17, 18, 19, 20, 21, 22, 23, 24, 25, 26, 27] rfl
        have hD : va_D A (ow G o t r h g b T U nx ln (hd (va_up ad (6 + j) (some a)) 0 6) (hd (va_up ad (6 + j) (some a)) 6 2) ps pl ++ tw G a T ++ pool G (va_up ad (6 + j) none) S) := hD.part (cx := ow G o t r h g b T U nx ln (hd (va_up ad (6 + j) (some a)) 0 6) (hd (va_up ad (6 + j) (some a)) 6 2) ps pl ++ tw G a T) [0, 28, 29, 30, 31, 32, 33, 34, 35, 36, 37, 38, 1, 2, 3, 4, 5, 6, 7, 8, 9, 10, 11, 12, 13, 14, 15, 16, 17, 18, 19, 20, 21, 22, 23, 24, 25, 26, 27] (by decide) rfl
        refine lv_aload_n hx hb dX3_save_46 rfl (lv_at hl 1 rfl) ?_
        refine va_get (D := G.1) (ci := 3) (v := .ref (t 0)) (C := RX3) (T := TX3) (N := 5) hx hb hts hinX3 hown hK.1 hP 0 rfl rfl 0 (by decide) wk6 (fun _ h9 => h9) rfl dX3_save_47 ?_
        refine va_get (D := G.1) (ci := 2) (v := .ref (t 3)) (C := RX2) (T := TX2) (N := 13) hx hb hts hinX2 hown hK.1 hP 1 rfl rfl 2 (by decide) wk7 (fun _ h9 => h9) rfl dX3_save_50 ?_
        refine cPS (As := [.ref (t 3)]) (rest := []) ⟨hx, hb, hml, hown, hts⟩ (c_X3_sum l G (t 3) (T 2)) (cwS 1 hts gX3_save_X3_sum rfl rfl rfl (by decide +kernel) ⟨Nat.le_of_ble_eq_true rfl, Nat.le_of_ble_eq_true rfl⟩) hK (hP.sub (ws' := [(t 3, .inl (gI G, 5, .inl (T 2)))]) [4] rfl) rfl rfl hl.1 (Nat.le_of_ble_eq_true rfl) dX3_save_53 ⟨Nat.le_of_ble_eq_true rfl, Nat.le_of_ble_eq_true rfl⟩ ?_
        exact hret _ _ _ _ _ (T, U, nx, ln, va_up ad (6 + j) (some a), va_up S (6 + j) T, ps, pl) ⟨by simp only [if_true, if_false, lz_o, lz_1, lz_2, lz_5, lz_3, lz_4, slC, if_neg c_1_1, if_pos c_6_2, hxj], a, by simp only [if_true, if_false, lz_o, lz_1, lz_2, lz_5, lz_3, lz_4, slC, if_neg c_1_1, if_pos c_6_2, hxj]⟩ (hP.perm (pool_in _ (by omega))) (hD.perm (pool_in _ (by omega))) hS dX3_save_56
      rcases hc9 : ad (6 + j) with _ | a
      · refine W.eq (g2 := F0 m 18 ls [.null]) rfl ?_
        have hab : va_up ad (6 + j) none = ad := by rw [← hc9]; exact va_up_id ad _
        refine lv_astore_nN (lv' := [(2, .null), (0, .ref o), (1, .int (nI j))]) hx hb dX3_save_18 rfl hl (by decide) rfl (fun ls hl => ?_)
        refine lv_aload_nN hx hb dX3_save_19 rfl (lv_at hl 0 rfl) ?_
        refine lv_ifnonnullN hx hb dX3_save_20 ?_
        refine va_new (ci := 2) (fs := [.null, .null, .null, .null, .null, .null, .null, .null, .null, .null, .int 0, .int 0, .int 0]) (C := RX2) (T := TX2) (N := 13) hx hb hts hinX2 tyX2 tyX2_ok hown wk3 wk4 wk5 hK.1 hP hD hS hA rfl dfX2 (Nat.le_of_ble_eq_true rfl) (Nat.le_of_ble_eq_true rfl) dX3_save_23 (fun q_4 H hP hD hS => ?_)
        refine lv_dup hx hb dX3_save_26 rfl ?_
        refine cNI (wf := ow G o t r h g b T U nx ln (hd ad 0 6) (hd ad 6 2) ps pl ++ pool G ad S) (wc := [(q_4, .inr (2, [.null, .null, .null, .null, .null, .null, .null, .null, .null, .null, .int 0, .int 0, .int 0]))]) (As := []) (rest := [.ref q_4]) ⟨hx, hb, hml, hown, hts⟩ (c_X2_init l G q_4 _) ⟨va_cnB (host := RX3) 0 hts gX3_save_X2_init_n9 rfl rfl rfl hK.2.1.2.2.1 wk5 (by decide +kernel) ⟨Nat.le_of_ble_eq_true rfl, Nat.le_of_ble_eq_true rfl⟩, rfl, wk8⟩ hK hP hD hS hA rfl rfl hl.1 (Nat.le_of_ble_eq_true rfl) dX3_save_27 ⟨Nat.le_of_ble_eq_true rfl, Nat.le_of_ble_eq_true rfl⟩ (fun b_4 H locs hq_4 hP hD hS => ?_)
        have hq_4 : b_4 0 = q_4 := hq_4
        refine W.eq (g2 := F0 m 30 ls [.ref (b_4 0)]) (by rw [hq_4]) ?_
        have hP := hP.swap
        have hD := hD.swap
        have hP : va_P G.1 vwCl (ow G o t r h g b T U nx ln (hd ad 0 6) (hd ad 6 2) ps pl ++ tw G b_4 iniT ++ pool G ad S) H := hP
        have hD : va_D A (ow G o t r h g b T U nx ln (hd ad 0 6) (hd ad 6 2) ps pl ++ tw G b_4 iniT ++ pool G ad S) := hD
        refine lv_astore_n (lv' := [(2, .ref (b_4 0)), (0, .ref o), (1, .int (nI j))]) hx hb dX3_save_30 rfl hl (by decide) rfl (fun ls hl => ?_)
        refine lv_aload_n hx hb dX3_save_31 rfl (lv_at hl 1 rfl) ?_
        refine va_get (D := G.1) (ci := 3) (v := .ref g) (C := RX3) (T := TX3) (N := 5) hx hb hts hinX3 hown hK.1 hP 0 rfl rfl 3 (by decide) wk2 (fun _ h9 => h9) rfl dX3_save_32 ?_
        refine lv_iload_n hx hb dX3_save_35 rfl (lv_at hl 2 rfl) ?_
        refine lv_aload_n hx hb dX3_save_36 rfl (lv_at hl 0 rfl) ?_
        refine va_astq hx hb hK.1 hP hD hS 25 2 28 2 rfl rfl rfl rfl (i := nI j) (vp_in_nI (n := j) (by omega) (by decide)) dX3_save_37 (fun H locs hP hD hS => ?_)
        have hP : va_P G.1 vwCl (ow G o t r h g b T U nx ln (hd ad 0 6) (va_up (hd ad 6 2) (nI j).toNatClampNeg (some (b_4 0))) ps pl ++ tw G b_4 iniT ++ pool G ad S) H := hP
        have hD : va_D A (ow G o t r h g b T U nx ln (hd ad 0 6) (va_up (hd ad 6 2) (nI j).toNatClampNeg (some (b_4 0))) ps pl ++ tw G b_4 iniT ++ pool G ad S) := hD
        have hF9 : va_up (hd ad 6 2) (nI j).toNatClampNeg (some (b_4 0)) = hd (va_up ad (6 + j) (some b_4)) 6 2 := by rw [nI_clamp (by omega), hd_up (by omega)]
        have ho9 : hd ad 0 6 = hd (va_up ad (6 + j) (some b_4)) 0 6 := (hd_off (Or.inr (by omega))).symm
        rw [hF9, ho9] at hP hD
        refine J38 b_4 iniT _ _ ?_ ?_ hS ls (lv_sub hl [0, 1, 2] rfl)
        · rw [hab]; exact hP
        · rw [hab]; exact hD
      · refine W.eq (g2 := F0 m 18 ls [.ref (a 0)]) rfl ?_
        have hab : va_up ad (6 + j) (some a) = ad := by rw [← hc9]; exact va_up_id ad _
        refine lv_astore_n (lv' := [(2, .ref (a 0)), (0, .ref o), (1, .int (nI j))]) hx hb dX3_save_18 rfl hl (by decide) rfl (fun ls hl => ?_)
        refine lv_aload_n hx hb dX3_save_19 rfl (lv_at hl 0 rfl) ?_
        refine lv_ifnonnull (tgt := 38) hx hb dX3_save_20 (by decide) ?_
        refine W.widen (k := 11) (n := 62) (by decide) (by decide) ?_
        refine J38 a (S (6 + j)) _ _ ?_ ?_ hS ls (lv_sub hl [0, 1, 2] rfl)
        · rw [hab]; exact hP.perm (pool_out _ (by omega) hc9)
        · rw [hab]; exact hD.perm (pool_out _ (by omega) hc9)
    · refine lv_ldc (v := (-100002)) hx hb hown wk1 dX3_save_9 ?_
      refine W.widen (k := 11) (n := 62) (by decide) (by decide) ?_
      exact hret _ _ _ _ _ (T, U, nx, ln, ad, S, ps, pl) ⟨by simp only [if_true, if_false, lz_o, lz_1, lz_2, lz_5, lz_3, lz_4, slC, if_neg c_1_1, if_neg c_6_2], (fun _ => 0), by simp only [if_true, if_false, lz_o, lz_1, lz_2, lz_5, lz_3, lz_4, slC, if_neg c_1_1, if_neg c_6_2]⟩ hP hD hS dX3_save_11
set_option maxHeartbeats 4000000 in
set_option maxRecDepth 100000 in
theorem c_X3_restore (l : Launch) (G : qG) (o : Nat) (t r h : Nat → Nat) (g : Nat) (b : Nat → Nat) (T U : Tb) (hT : is01 (T 10 0)) (nx ln : Nat) (hnx : nx < 100000) (hln : ln ≤ 6) (ad : Ad) (S : Nat → Tb) (ps : Nat → Int32) (hps : chs ps) (pl : Nat) (hpl : pl ≤ 60) (hS9 : ∀ k, k < 8 → ¬ ad k = none → is01 (S k 10 0)) (x : Int32) (sz : Nat) : Met l yX3_restore wsX3_restore { frames := 3, cells := 11, slots := 62, locals := 62 } (PW G sz [.ref o, .int x] (ow G o t r h g b T U nx ln (hd ad 0 6) (hd ad 6 2) ps pl ++ pool G ad S)) (QI (S := CS) G sz (ow G o t r h g b T U nx ln (hd ad 0 6) (hd ad 6 2) ps pl ++ pool G ad S) (fun r₀ c₀ => r₀ = (if rsC ad x = 0 then sqC (S (6 + ix x) 2) else rsC ad x) ∧ ∃ u : Nat → Nat, c₀ = (if rsC ad x = 0 then kpC T U nx ln ad S ps pl u (S (6 + ix x)) else (T, U, nx, ln, ad, S, ps, pl))) (fun c₀ => ows G o t r h g b c₀)) 11 62 (va_A (ow G o t r h g b T U nx ln (hd ad 0 6) (hd ad 6 2) ps pl ++ pool G ad S) sz) := by
  refine MI.of' (by decide) rfl (Nat.le_of_ble_eq_true rfl) ?_
  intro p e s m below meth c hx hb hml hown hts hK hsz hP A hAe hA hD hS Q hret ls hl
  have hown : s.vm.findClass RX3 = some m.cls := hown
  have hl : lv_has ls 3 [(0, .ref o), (1, .int x)] := hl
  have wk1 := hts (Cond.constant RX3 37 (-100002)) (List.mem_of_getElem? (i := 1) rfl)
  have wk2 := hts (Cond.fieldLink RX3 26 "TurnBids" "slots" "[LTurnBids$Table;") (List.mem_of_getElem? (i := 2) rfl)
  have wk3 := hts (Cond.constant RX3 61 (-100005)) (List.mem_of_getElem? (i := 3) rfl)
  have wk4 := hts (Cond.fieldLink RX3 22 "TurnBids" "history" "LTurnBids$History;") (List.mem_of_getElem? (i := 4) rfl)
  have wk5 := hts (Cond.fieldLink RX3 10 "TurnBids" "table" "LTurnBids$Table;") (List.mem_of_getElem? (i := 5) rfl)
  have wk6 := hts (Cond.fieldLink RX3 62 "TurnBids$Table" "coins" "[I") (List.mem_of_getElem? (i := 6) rfl)
  have wk7 := hts (Cond.methodLink RX3 45 yX0_keep) (List.mem_of_getElem? (i := 7) rfl)
  have wk55 := hts (Cond.methodLink RX3 154 yX3_sum) (List.mem_of_getElem? (i := 55) rfl)
  have hinX3 : ∀ w ∈ wsX30, w ∈ wsX3_restore := fun _ h => (List.mem_cons_of_mem _ (List.mem_append_left _ (List.mem_append_left _ (List.mem_append_right _ h))))
  have hinX2 : ∀ w ∈ wsX20, w ∈ wsX3_restore := fun _ h => (List.mem_cons_of_mem _ (List.mem_append_left _ (List.mem_append_right _ h)))
  refine lv_iload_n hx hb dX3_restore_0 rfl (lv_at hl 1 rfl) ?_
  refine lv_if_lt (tgt := 9) hx hb dX3_restore_1 (by decide) (fun c_1_1 => ?_) (fun c_1_1 => ?_)
  · refine lv_ldc (v := (-100002)) hx hb hown wk1 dX3_restore_9 ?_
    refine W.widen (k := 11) (n := 62) (by decide) (by decide) ?_
    exact hret _ _ _ _ _ (T, U, nx, ln, ad, S, ps, pl) ⟨by simp only [if_true, if_false, lz_o, lz_1, lz_2, lz_5, lz_3, lz_4, rsC, kpC, if_pos c_1_1], (fun _ => 0), by simp only [if_true, if_false, lz_o, lz_1, lz_2, lz_5, lz_3, lz_4, rsC, kpC, if_pos c_1_1]⟩ hP hD hS dX3_restore_11
  · refine lv_iload_n hx hb dX3_restore_4 rfl (lv_at hl 1 rfl) ?_
    refine lv_iconst (v := 2) hx hb dX3_restore_5 (by decide) ?_
    refine lv_icmp_lt (tgt := 12) hx hb dX3_restore_6 (by decide) (fun c_6_2 => ?_) (fun c_6_2 => ?_)
    · have c0_ := c_1_1
      obtain ⟨j, hj, hej⟩ := x_lt (N := 2) (by decide) c0_ c_6_2
      rw [hej] at hl
      have hxj : ix x = j := by rw [hej]; exact nI_clamp (by omega)
      refine lv_aload_n hx hb dX3_restore_12 rfl (lv_at hl 0 rfl) ?_
      refine va_get (D := G.1) (ci := 3) (v := .ref g) (C := RX3) (T := TX3) (N := 5) hx hb hts hinX3 hown hK.1 hP 0 rfl rfl 3 (by decide) wk2 (fun _ h9 => h9) rfl dX3_restore_13 ?_
      refine lv_iload_n hx hb dX3_restore_16 rfl (lv_at hl 1 rfl) ?_
      refine va_aldq hx hb hK.1 hP 25 2 rfl rfl (i := nI j) (vp_in_nI (n := j) (by omega) (by decide)) dX3_restore_17 ?_
      have hv9 : hd ad 6 2 (nI j).toNatClampNeg = (ad (6 + (j))).map (fun x => x 0) := by rw [nI_clamp (by omega), hd_get (by omega)]
      rw [hv9]
      rcases hc9 : ad (6 + j) with _ | a
      · refine W.eq (g2 := F0 m 18 ls [.null]) rfl ?_
        have hno : (ad (6 + j)).isNone = true := by rw [hc9]; rfl
        refine lv_astore_nN (lv' := [(2, .null), (0, .ref o), (1, .int (nI j))]) hx hb dX3_restore_18 rfl hl (by decide) rfl (fun ls hl => ?_)
        refine lv_aload_nN hx hb dX3_restore_19 rfl (lv_at hl 0 rfl) ?_
        refine lv_ifnonnullN hx hb dX3_restore_20 ?_
        refine lv_ldc (v := (-100005)) hx hb hown wk3 dX3_restore_23 ?_
        refine W.widen (k := 11) (n := 62) (by decide) (by decide) ?_
        exact hret _ _ _ _ _ (T, U, nx, ln, ad, S, ps, pl) ⟨by simp only [if_true, if_false, lz_o, lz_1, lz_2, lz_5, lz_3, lz_4, rsC, kpC, if_neg c_1_1, if_pos c_6_2, hxj, if_pos hno], (fun _ => 0), by simp only [if_true, if_false, lz_o, lz_1, lz_2, lz_5, lz_3, lz_4, rsC, kpC, if_neg c_1_1, if_pos c_6_2, hxj, if_pos hno]⟩ hP hD hS dX3_restore_25
      · refine W.eq (g2 := F0 m 18 ls [.ref (a 0)]) rfl ?_
        have hno : ¬ (ad (6 + j)).isNone = true := by rw [hc9]; exact fun h => by cases h
        have hs9 : is01 (S (6 + j) 10 0) := hS9 _ (by omega) (by rw [hc9]; exact fun h => by cases h)
        refine lv_astore_n (lv' := [(2, .ref (a 0)), (0, .ref o), (1, .int (nI j))]) hx hb dX3_restore_18 rfl hl (by decide) rfl (fun ls hl => ?_)
        refine lv_aload_n hx hb dX3_restore_19 rfl (lv_at hl 0 rfl) ?_
        refine lv_ifnonnull (tgt := 26) hx hb dX3_restore_20 (by decide) ?_
        refine lv_aload_n hx hb dX3_restore_26 rfl (lv_at hl 1 rfl) ?_
        refine va_get (D := G.1) (ci := 3) (v := .ref (h 0)) (C := RX3) (T := TX3) (N := 5) hx hb hts hinX3 hown hK.1 hP 0 rfl rfl 2 (by decide) wk4 (fun _ h9 => h9) rfl dX3_restore_27 ?_
        refine lv_aload_n hx hb dX3_restore_30 rfl (lv_at hl 1 rfl) ?_
        refine va_get (D := G.1) (ci := 3) (v := .ref (t 0)) (C := RX3) (T := TX3) (N := 5) hx hb hts hinX3 hown hK.1 hP 0 rfl rfl 0 (by decide) wk5 (fun _ h9 => h9) rfl dX3_restore_31 ?_
        refine cPoolV (wr := [(o, .inr (3, [.ref (t 0), .ref (r 0), .ref (h 0), .ref g, .ref (b 0)]))] ++ tw G r U ++ [(g, .inl (gR G, 2, .inr (.inr (.inr (.inr (hd ad 6 2))))))] ++ pw G b ps (nI pl)) (wc := hw G h nx ln (hd ad 0 6) ++ tw G t T) (As := [.ref (t 0)]) (rest := []) ⟨hx, hb, hml, hown, hts⟩ (c_X0_keep l G h t T hT nx ln hnx hln ad S _) (cwV 1 hts gX3_restore_X0_keep rfl rfl rfl (by decide +kernel) ⟨Nat.le_of_ble_eq_true rfl, Nat.le_of_ble_eq_true rfl⟩) hK hP hD hS hA [23, 24, 1, 2, 3, 4, 5, 6, 7, 8, 9, 10, 11] [0, 12, 13, 14, 15, 16, 17, 18, 19, 20, 21, 22, 25, 26, 27] rfl rfl (by decide) (by decide) (by decide) 0 (ci := 0) rfl rfl rfl rfl rfl hl.1 (Nat.le_of_ble_eq_true rfl) dX3_restore_34 ⟨Nat.le_of_ble_eq_true rfl, Nat.le_of_ble_eq_true rfl⟩ (fun u_3 H locs hr_3 hP hD hS => ?_)
        have hP : va_P G.1 vwCl (ow G o t r h g b T U (nx + 1) (min (ln + 1) 6) (hd (va_up ad (nx % 6) (some u_3)) 0 6) (hd ad 6 2) ps pl ++ pool G (va_up ad (nx % 6) (some u_3)) (va_up S (nx % 6) T)) H := hP.part (cx := ow G o t r h g b T U (nx + 1) (min (ln + 1) 6) (hd (va_up ad (nx % 6) (some u_3)) 0 6) (hd ad 6 2) ps pl) [0, 17, 18, 19, 20, 21, 22, 23, 24, 25, 26, 27, 1, 2, 3, 4, 5, 6, 7, 8, 9, 10, 11, 15, 16, 12, 13, 14] rfl
        have hD : va_D A (ow G o t r h g b T U (nx + 1) (min (ln + 1) 6) (hd (va_up ad (nx % 6) (some u_3)) 0 6) (hd ad 6 2) ps pl ++ pool G (va_up ad (nx % 6) (some u_3)) (va_up S (nx % 6) T)) := hD.part (cx := ow G o t r h g b T U (nx + 1) (min (ln + 1) 6) (hd (va_up ad (nx % 6) (some u_3)) 0 6) (hd ad 6 2) ps pl) [0, 17, 18, 19, 20, 21, 22, 23, 24, 25, 26, 27, 1, 2, 3, 4, 5, 6, 7, 8, 9, 10, 11, 15, 16, 12, 13, 14] (by decide) rfl
        have ho9 : hd ad 6 2 = hd (va_up ad (nx % 6) (some u_3)) 6 2 := (hd_off (Or.inl (by omega))).symm
        rw [ho9] at hP hD
        have hP : va_P G.1 vwCl (ow G o t r h g b T U (nx + 1) (min (ln + 1) 6) (hd (va_up ad (nx % 6) (some u_3)) 0 6) (hd (va_up ad (nx % 6) (some u_3)) 6 2) ps pl ++ pool G (va_up ad (nx % 6) (some u_3)) (va_up S (nx % 6) T)) H := hP
        have hD : va_D A (ow G o t r h g b T U (nx + 1) (min (ln + 1) 6) (hd (va_up ad (nx % 6) (some u_3)) 0 6) (hd (va_up ad (nx % 6) (some u_3)) 6 2) ps pl ++ pool G (va_up ad (nx % 6) (some u_3)) (va_up S (nx % 6) T)) := hD
        refine lv_aload_n hx hb dX3_restore_37 rfl (lv_at hl 1 rfl) ?_
        refine va_get (D := G.1) (ci := 3) (v := .ref (t 0)) (C := RX3) (T := TX3) (N := 5) hx hb hts hinX3 hown hK.1 hP 0 rfl rfl 0 (by decide) wk5 (fun _ h9 => h9) rfl dX3_restore_38 ?_
        refine lv_aload_n hx hb dX3_restore_41 rfl (lv_at hl 0 rfl) ?_
        have hsl : (va_up ad (nx % 6) (some u_3)) (6 + j) = some a := by rw [va_up_ne _ _ (by omega)]; exact hc9
        have hsv : (va_up S (nx % 6) T) (6 + j) = S (6 + j) := va_up_ne _ _ (by omega)
        have hP := hP.perm (pool_out _ (by omega) hsl)
        have hD := hD.perm (pool_out _ (by omega) hsl)
        rw [hsv] at hP hD
        have hP : va_P G.1 vwCl (ow G o t r h g b T U (nx + 1) (min (ln + 1) 6) (hd (va_up ad (nx % 6) (some u_3)) 0 6) (hd (va_up ad (nx % 6) (some u_3)) 6 2) ps pl ++ tw G a (S (6 + j)) ++ pool G (va_up (va_up ad (nx % 6) (some u_3)) (6 + j) none) (va_up S (nx % 6) T)) H := hP
        have hD : va_D A (ow G o t r h g b T U (nx + 1) (min (ln + 1) 6) (hd (va_up ad (nx % 6) (some u_3)) 0 6) (hd (va_up ad (nx % 6) (some u_3)) 6 2) ps pl ++ tw G a (S (6 + j)) ++ pool G (va_up (va_up ad (nx % 6) (some u_3)) (6 + j) none) (va_up S (nx % 6) T)) := hD
        refine cQV (wr := [(o, .inr (3, [.ref (t 0), .ref (r 0), .ref (h 0), .ref g, .ref (b 0)]))] ++ tw G r U ++ hw G h (nx + 1) (min (ln + 1) 6) (hd (va_up ad (nx % 6) (some u_3)) 0 6) ++ [(g, .inl (gR G, 2, .inr (.inr (.inr (.inr (hd (va_up ad (nx % 6) (some u_3)) 6 2))))))] ++ pw G b ps (nI pl)) (wc := tw G t T ++ tw G a (S (6 + j))) (As := [.ref (a 0)]) (rest := []) ⟨hx, hb, hml, hown, hts⟩ (c_X2_copyFrom l G t a T (S (6 + j)) hs9 _) (cwV 1 hts gX3_restore_X2_copyFrom rfl rfl rfl (by decide +kernel) ⟨Nat.le_of_ble_eq_true rfl, Nat.le_of_ble_eq_true rfl⟩) hK hP hD hS hA [1, 2, 3, 4, 5, 6, 7, 8, 9, 10, 11, 28, 29, 30, 31, 32, 33, 34, 35, 36, 37, 38] [0, 12, 13, 14, 15, 16, 17, 18, 19, 20, 21, 22, 23, 24, 25, 26, 27] rfl rfl (by decide) (by decide) (by decide) 0 (ci := 2) rfl rfl rfl rfl rfl hl.1 (Nat.le_of_ble_eq_true rfl) dX3_restore_42 ⟨Nat.le_of_ble_eq_true rfl, Nat.le_of_ble_eq_true rfl⟩ (fun u_4 H locs hr_4 hP hD hS => ?_)
        have hP : va_P G.1 vwCl (ow G o t r h g b (S (6 + j)) U (nx + 1) (min (ln + 1) 6) (hd (va_up ad (nx % 6) (some u_3)) 0 6) (hd (va_up ad (nx % 6) (some u_3)) 6 2) ps pl ++ tw G a (S (6 + j)) ++ pool G (va_up (va_up ad (nx % 6) (some u_3)) (6 + j) none) (va_up S (nx % 6) T)) H := hP.part (cx := ow G o t r h g b (S (6 + j)) U (nx + 1) (min (ln + 1) 6) (hd (va_up ad (nx % 6) (some u_3)) 0 6) (hd (va_up ad (nx % 6) (some u_3)) 6 2) ps pl ++ tw G a (S (6 + j))) [0, 17, 18, 19, 20, 21, 22, 23, 24, 25, 26, 27, 1, 2, 3, 4, 5, 6, 7, 8, 9, 10, 11, 12, 13, 14, 15, 16, 28, 29, 30, 31, 32, 33, 34, 35, 36, 37, 38] rfl
        have hD : va_D A (ow G o t r h g b (S (6 + j)) U (nx + 1) (min (ln + 1) 6) (hd (va_up ad (nx % 6) (some u_3)) 0 6) (hd (va_up ad (nx % 6) (some u_3)) 6 2) ps pl ++ tw G a (S (6 + j)) ++ pool G (va_up (va_up ad (nx % 6) (some u_3)) (6 + j) none) (va_up S (nx % 6) T)) := hD.part (cx := ow G o t r h g b (S (6 + j)) U (nx + 1) (min (ln + 1) 6) (hd (va_up ad (nx % 6) (some u_3)) 0 6) (hd (va_up ad (nx % 6) (some u_3)) 6 2) ps pl ++ tw G a (S (6 + j))) [0, 17, 18, 19, 20, 21, 22, 23, 24, 25, 26, 27, 1, 2, 3, 4, 5, 6, 7, 8, 9, 10, 11, 12, 13, 14, 15, 16, 28, 29, 30, 31, 32, 33, 34, 35, 36, 37, 38] (by decide) rfl
        refine lv_aload_n hx hb dX3_restore_45 rfl (lv_at hl 1 rfl) ?_
        refine va_get (D := G.1) (ci := 3) (v := .ref (t 0)) (C := RX3) (T := TX3) (N := 5) hx hb hts hinX3 hown hK.1 hP 0 rfl rfl 0 (by decide) wk5 (fun _ h9 => h9) rfl dX3_restore_46 ?_
        refine va_get (D := G.1) (ci := 2) (v := .ref (t 3)) (C := RX2) (T := TX2) (N := 13) hx hb hts hinX2 hown hK.1 hP 1 rfl rfl 2 (by decide) wk6 (fun _ h9 => h9) rfl dX3_restore_49 ?_
        refine cPS (As := [.ref (t 3)]) (rest := []) ⟨hx, hb, hml, hown, hts⟩ (c_X3_sum l G (t 3) ((S (6 + j)) 2)) (cwS 1 hts gX3_restore_X3_sum rfl rfl rfl (by decide +kernel) ⟨Nat.le_of_ble_eq_true rfl, Nat.le_of_ble_eq_true rfl⟩) hK (hP.sub (ws' := [(t 3, .inl (gI G, 5, .inl ((S (6 + j)) 2)))]) [4] rfl) rfl rfl hl.1 (Nat.le_of_ble_eq_true rfl) dX3_restore_52 ⟨Nat.le_of_ble_eq_true rfl, Nat.le_of_ble_eq_true rfl⟩ ?_
        have hP := hP.perm (pool_in (T := S (6 + j)) _ (by omega))
        have hD := hD.perm (pool_in (T := S (6 + j)) _ (by omega))
        have hab : va_up (va_up ad (nx % 6) (some u_3)) (6 + j) (some a) = va_up ad (nx % 6) (some u_3) := by rw [← hsl]; exact va_up_id _ _
        have has : va_up (va_up S (nx % 6) T) (6 + j) (S (6 + j)) = va_up S (nx % 6) T := by rw [← hsv]; exact va_up_id _ _
        rw [hab, has] at hP hD
        exact hret _ _ _ _ _ (S (6 + j), U, nx + 1, min (ln + 1) 6, va_up ad (nx % 6) (some u_3), va_up S (nx % 6) T, ps, pl) ⟨by simp only [if_true, if_false, lz_o, lz_1, lz_2, lz_5, lz_3, lz_4, rsC, if_neg c_1_1, if_pos c_6_2, hxj, if_neg hno], u_3, by simp only [if_true, if_false, lz_o, lz_1, lz_2, lz_5, lz_3, lz_4, rsC, kpC, if_neg c_1_1, if_pos c_6_2, hxj, if_neg hno]⟩ hP hD hS dX3_restore_55
    · refine lv_ldc (v := (-100002)) hx hb hown wk1 dX3_restore_9 ?_
      refine W.widen (k := 11) (n := 62) (by decide) (by decide) ?_
      exact hret _ _ _ _ _ (T, U, nx, ln, ad, S, ps, pl) ⟨by simp only [if_true, if_false, lz_o, lz_1, lz_2, lz_5, lz_3, lz_4, rsC, kpC, if_neg c_1_1, if_neg c_6_2], (fun _ => 0), by simp only [if_true, if_false, lz_o, lz_1, lz_2, lz_5, lz_3, lz_4, rsC, kpC, if_neg c_1_1, if_neg c_6_2]⟩ hP hD hS dX3_restore_11
