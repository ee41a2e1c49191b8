/-! CONTRACTS of the class's calls, second part (laid by wip/whole/gen/obj2.py) -/
set_option maxHeartbeats 4000000 in
set_option maxRecDepth 100000 in
theorem c_X3_doMove (l : Launch) (G : qG) (o : Nat) (t r h : Nat → Nat) (g : Nat) (b : Nat → Nat) (T U : Tb) (nx ln : Nat) (ad : Ad) (S : Nat → Tb) (ps : Nat → Int32) (pl : Nat) (x n : Int32) (sz : Nat) : Met l yX3_doMove wsX3_doMove { frames := 6, cells := 0, slots := 0, locals := 129 } (PW G sz [.ref o, .int x, .int n] (ow G o t r h g b T U nx ln (hd ad 0 6) (hd ad 6 2) ps pl ++ pool G ad S)) (QI (S := CS) G sz (ow G o t r h g b T U nx ln (hd ad 0 6) (hd ad 6 2) ps pl ++ pool G ad S) (fun r₀ c₀ => r₀ = (doV T x n) ∧ ∃ u : Nat → Nat, c₀ = ((doT T x n, U, nx, ln, ad, S, ps, pl))) (fun c₀ => ows G o t r h g b c₀)) 0 0 (va_A (ow G o t r h g b T U nx ln (hd ad 0 6) (hd ad 6 2) ps pl ++ pool G ad S) sz) := by
  refine MI.of' (by decide) rfl (Nat.le_of_ble_eq_true rfl) ?_
  intro p e s m below meth c hx hb hml hown hts hK hsz hP A hAe hA hD hS Q hret ls hl
  have hown : s.vm.findClass RX3 = some m.cls := hown
  have hl : lv_has ls 3 [(0, .ref o), (1, .int x), (2, .int n)] := hl
  have wk1 := hts (Cond.fieldLink RX3 10 "TurnBids" "table" "LTurnBids$Table;") (List.mem_of_getElem? (i := 1) rfl)
  have wk2 := hts (Cond.fieldLink RX3 74 "TurnBids$Table" "underWay" "Z") (List.mem_of_getElem? (i := 2) rfl)
  have wk3 := hts (Cond.constant RX3 61 (-100005)) (List.mem_of_getElem? (i := 3) rfl)
  have wk4 := hts (Cond.methodLink RX3 78 yX2_start) (List.mem_of_getElem? (i := 4) rfl)
  have wk17 := hts (Cond.methodLink RX3 94 yX2_playRound) (List.mem_of_getElem? (i := 17) rfl)
  have wk90 := hts (Cond.methodLink RX3 88 yX2_dropOut) (List.mem_of_getElem? (i := 90) rfl)
  have wk91 := hts (Cond.methodLink RX3 91 yX2_actByLimit) (List.mem_of_getElem? (i := 91) rfl)
  have wk92 := hts (Cond.methodLink RX3 82 yX2_mayBid) (List.mem_of_getElem? (i := 92) rfl)
  have wk93 := hts (Cond.methodLink RX3 85 yX2_takeBid) (List.mem_of_getElem? (i := 93) rfl)
  have hinX3 : ∀ w ∈ wsX30, w ∈ wsX3_doMove := fun _ h => (List.mem_cons_of_mem _ (List.mem_append_left _ (List.mem_append_right _ h)))
  have hinX2 : ∀ w ∈ wsX20, w ∈ wsX3_doMove := fun _ h => (List.mem_cons_of_mem _ (List.mem_append_right _ h))
  refine lv_iload_n hx hb dX3_doMove_0 rfl (lv_at hl 1 rfl) ?_
  refine lv_bipush (v := 43) hx hb dX3_doMove_1 (by decide) ?_
  refine lv_icmp_ne (tgt := 29) hx hb dX3_doMove_3 (by decide) (fun c_3_1 => ?_) (fun c_3_1 => ?_)
  · refine lv_iload_n hx hb dX3_doMove_29 rfl (lv_at hl 1 rfl) ?_
    refine lv_bipush (v := 33) hx hb dX3_doMove_30 (by decide) ?_
    refine lv_icmp_ne (tgt := 43) hx hb dX3_doMove_32 (by decide) (fun c_32_2 => ?_) (fun c_32_2 => ?_)
    · refine lv_aload_n hx hb dX3_doMove_43 rfl (lv_at hl 0 rfl) ?_
      refine va_get (D := G.1) (ci := 3) (v := .ref (t 0)) (C := RX3) (T := TX3) (N := 5) hx hb hts hinX3 hown hK.1 hP 0 rfl rfl 0 (by decide) wk1 (fun _ h9 => h9) rfl dX3_doMove_44 ?_
      refine va_get (D := G.1) (ci := 2) (v := .int (T 10 0)) (C := RX2) (T := TX2) (N := 13) hx hb hts hinX2 hown hK.1 hP 1 rfl rfl 10 (by decide) wk2 (fun _ h9 => h9) rfl dX3_doMove_47 ?_
      refine lv_if_ne (tgt := 56) hx hb dX3_doMove_50 (by decide) (fun c_50_3 => ?_) (fun c_50_3 => ?_)
      · refine lv_iload_n hx hb dX3_doMove_56 rfl (lv_at hl 1 rfl) ?_
        refine lv_bipush (v := 45) hx hb dX3_doMove_57 (by decide) ?_
        refine lv_icmp_ne (tgt := 70) hx hb dX3_doMove_59 (by decide) (fun c_59_4 => ?_) (fun c_59_4 => ?_)
        · refine lv_iload_n hx hb dX3_doMove_70 rfl (lv_at hl 1 rfl) ?_
          refine lv_bipush (v := 42) hx hb dX3_doMove_71 (by decide) ?_
          refine lv_icmp_ne (tgt := 84) hx hb dX3_doMove_73 (by decide) (fun c_73_5 => ?_) (fun c_73_5 => ?_)
          · refine lv_aload_n hx hb dX3_doMove_84 rfl (lv_at hl 0 rfl) ?_
            refine va_get (D := G.1) (ci := 3) (v := .ref (t 0)) (C := RX3) (T := TX3) (N := 5) hx hb hts hinX3 hown hK.1 hP 0 rfl rfl 0 (by decide) wk1 (fun _ h9 => h9) rfl dX3_doMove_85 ?_
            refine lv_iload_n hx hb dX3_doMove_88 rfl (lv_at hl 2 rfl) ?_
            refine cPV (As := [.int n]) (rest := []) ⟨hx, hb, hml, hown, hts⟩ (c_X2_mayBid l G t T n) (cwV 1 hts gX3_doMove_X2_mayBid rfl rfl rfl (by decide +kernel) ⟨Nat.le_of_ble_eq_true rfl, Nat.le_of_ble_eq_true rfl⟩) hK (hP.sub (ws' := tw G t T) [1, 2, 3, 4, 5, 6, 7, 8, 9, 10, 11] rfl) 0 (ci := 2) rfl rfl rfl rfl rfl hl.1 (Nat.le_of_ble_eq_true rfl) dX3_doMove_89 ⟨Nat.le_of_ble_eq_true rfl, Nat.le_of_ble_eq_true rfl⟩ ?_
            refine lv_if_eq (tgt := 106) hx hb dX3_doMove_92 (by decide) (fun c_92_6 => ?_) (fun c_92_6 => ?_)
            · refine lv_ldc (v := (-100005)) hx hb hown wk3 dX3_doMove_106 ?_
              exact hret _ _ _ _ _ (T, U, nx, ln, ad, S, ps, pl) ⟨by simp only [if_true, if_false, lz_o, lz_1, lz_2, lz_5, lz_3, lz_4, doV, doT, if_neg c_3_1, if_neg c_32_2, if_neg c_50_3, if_neg c_59_4, if_neg c_73_5, if_pos c_92_6], (fun _ => 0), by simp only [if_true, if_false, lz_o, lz_1, lz_2, lz_5, lz_3, lz_4, doV, doT, if_neg c_3_1, if_neg c_32_2, if_neg c_50_3, if_neg c_59_4, if_neg c_73_5, if_pos c_92_6]⟩ hP hD hS dX3_doMove_108
            · refine lv_aload_n hx hb dX3_doMove_95 rfl (lv_at hl 0 rfl) ?_
              refine va_get (D := G.1) (ci := 3) (v := .ref (t 0)) (C := RX3) (T := TX3) (N := 5) hx hb hts hinX3 hown hK.1 hP 0 rfl rfl 0 (by decide) wk1 (fun _ h9 => h9) rfl dX3_doMove_96 ?_
              refine lv_iload_n hx hb dX3_doMove_99 rfl (lv_at hl 2 rfl) ?_
              refine cQI (wr := [(o, .inr (3, [.ref (t 0), .ref (r 0), .ref (h 0), .ref g, .ref (b 0)]))] ++ tw G r U ++ hw G h nx ln (hd ad 0 6) ++ [(g, .inl (gR G, 2, .inr (.inr (.inr (.inr (hd ad 6 2))))))] ++ pw G b ps (nI pl)) (wc := tw G t T) (As := [.int n]) (rest := []) ⟨hx, hb, hml, hown, hts⟩ (c_X2_takeBid l G t T n _) (cwV 1 hts gX3_doMove_X2_takeBid rfl rfl rfl (by decide +kernel) ⟨Nat.le_of_ble_eq_true rfl, Nat.le_of_ble_eq_true rfl⟩) hK hP hD hS hA [1, 2, 3, 4, 5, 6, 7, 8, 9, 10, 11] [0, 12, 13, 14, 15, 16, 17, 18, 19, 20, 21, 22, 23, 24, 25, 26, 27] rfl rfl (by decide) (by decide) (by decide) 0 (ci := 2) rfl rfl rfl rfl rfl hl.1 (Nat.le_of_ble_eq_true rfl) dX3_doMove_100 ⟨Nat.le_of_ble_eq_true rfl, Nat.le_of_ble_eq_true rfl⟩ (fun r_7 u_7 H locs hr_7 hP hD hS => ?_)
              have hP : va_P G.1 vwCl (ow G o t r h g b (takT T n) U nx ln (hd ad 0 6) (hd ad 6 2) ps pl ++ pool G ad S) H := hP.part (cx := ow G o t r h g b (takT T n) U nx ln (hd ad 0 6) (hd ad 6 2) ps pl) [0, 17, 18, 19, 20, 21, 22, 23, 24, 25, 26, 27, 1, 2, 3, 4, 5, 6, 7, 8, 9, 10, 11, 12, 13, 14, 15, 16] rfl
              have hD : va_D A (ow G o t r h g b (takT T n) U nx ln (hd ad 0 6) (hd ad 6 2) ps pl ++ pool G ad S) := hD.part (cx := ow G o t r h g b (takT T n) U nx ln (hd ad 0 6) (hd ad 6 2) ps pl) [0, 17, 18, 19, 20, 21, 22, 23, 24, 25, 26, 27, 1, 2, 3, 4, 5, 6, 7, 8, 9, 10, 11, 12, 13, 14, 15, 16] (by decide) rfl
              have hr_7 : r_7 = takT T n 10 1 := hr_7
              subst hr_7
              refine lv_goto (tgt := 108) hx hb dX3_doMove_103 (by decide) ?_
              exact hret _ _ _ _ _ (takT T n, U, nx, ln, ad, S, ps, pl) ⟨by simp only [if_true, if_false, lz_o, lz_1, lz_2, lz_5, lz_3, lz_4, doV, doT, if_neg c_3_1, if_neg c_32_2, if_neg c_50_3, if_neg c_59_4, if_neg c_73_5, if_neg c_92_6], (fun _ => 0), by simp only [if_true, if_false, lz_o, lz_1, lz_2, lz_5, lz_3, lz_4, doV, doT, if_neg c_3_1, if_neg c_32_2, if_neg c_50_3, if_neg c_59_4, if_neg c_73_5, if_neg c_92_6]⟩ hP hD hS dX3_doMove_108
          · refine lv_aload_n hx hb dX3_doMove_76 rfl (lv_at hl 0 rfl) ?_
            refine va_get (D := G.1) (ci := 3) (v := .ref (t 0)) (C := RX3) (T := TX3) (N := 5) hx hb hts hinX3 hown hK.1 hP 0 rfl rfl 0 (by decide) wk1 (fun _ h9 => h9) rfl dX3_doMove_77 ?_
            refine cQI (wr := [(o, .inr (3, [.ref (t 0), .ref (r 0), .ref (h 0), .ref g, .ref (b 0)]))] ++ tw G r U ++ hw G h nx ln (hd ad 0 6) ++ [(g, .inl (gR G, 2, .inr (.inr (.inr (.inr (hd ad 6 2))))))] ++ pw G b ps (nI pl)) (wc := tw G t T) (As := []) (rest := []) ⟨hx, hb, hml, hown, hts⟩ (c_X2_actByLimit l G t T _) (cwV 0 hts gX3_doMove_X2_actByLimit rfl rfl rfl (by decide +kernel) ⟨Nat.le_of_ble_eq_true rfl, Nat.le_of_ble_eq_true rfl⟩) hK hP hD hS hA [1, 2, 3, 4, 5, 6, 7, 8, 9, 10, 11] [0, 12, 13, 14, 15, 16, 17, 18, 19, 20, 21, 22, 23, 24, 25, 26, 27] rfl rfl (by decide) (by decide) (by decide) 0 (ci := 2) rfl rfl rfl rfl rfl hl.1 (Nat.le_of_ble_eq_true rfl) dX3_doMove_80 ⟨Nat.le_of_ble_eq_true rfl, Nat.le_of_ble_eq_true rfl⟩ (fun r_8 u_8 H locs hr_8 hP hD hS => ?_)
            have hP : va_P G.1 vwCl (ow G o t r h g b (acT T) U nx ln (hd ad 0 6) (hd ad 6 2) ps pl ++ pool G ad S) H := hP.part (cx := ow G o t r h g b (acT T) U nx ln (hd ad 0 6) (hd ad 6 2) ps pl) [0, 17, 18, 19, 20, 21, 22, 23, 24, 25, 26, 27, 1, 2, 3, 4, 5, 6, 7, 8, 9, 10, 11, 12, 13, 14, 15, 16] rfl
            have hD : va_D A (ow G o t r h g b (acT T) U nx ln (hd ad 0 6) (hd ad 6 2) ps pl ++ pool G ad S) := hD.part (cx := ow G o t r h g b (acT T) U nx ln (hd ad 0 6) (hd ad 6 2) ps pl) [0, 17, 18, 19, 20, 21, 22, 23, 24, 25, 26, 27, 1, 2, 3, 4, 5, 6, 7, 8, 9, 10, 11, 12, 13, 14, 15, 16] (by decide) rfl
            have hr_8 : r_8 = acV T := hr_8
            subst hr_8
            exact hret _ _ _ _ _ (acT T, U, nx, ln, ad, S, ps, pl) ⟨by simp only [if_true, if_false, lz_o, lz_1, lz_2, lz_5, lz_3, lz_4, doV, doT, if_neg c_3_1, if_neg c_32_2, if_neg c_50_3, if_neg c_59_4, if_pos c_73_5], (fun _ => 0), by simp only [if_true, if_false, lz_o, lz_1, lz_2, lz_5, lz_3, lz_4, doV, doT, if_neg c_3_1, if_neg c_32_2, if_neg c_50_3, if_neg c_59_4, if_pos c_73_5]⟩ hP hD hS dX3_doMove_83
        · refine lv_aload_n hx hb dX3_doMove_62 rfl (lv_at hl 0 rfl) ?_
          refine va_get (D := G.1) (ci := 3) (v := .ref (t 0)) (C := RX3) (T := TX3) (N := 5) hx hb hts hinX3 hown hK.1 hP 0 rfl rfl 0 (by decide) wk1 (fun _ h9 => h9) rfl dX3_doMove_63 ?_
          refine cQI (wr := [(o, .inr (3, [.ref (t 0), .ref (r 0), .ref (h 0), .ref g, .ref (b 0)]))] ++ tw G r U ++ hw G h nx ln (hd ad 0 6) ++ [(g, .inl (gR G, 2, .inr (.inr (.inr (.inr (hd ad 6 2))))))] ++ pw G b ps (nI pl)) (wc := tw G t T) (As := []) (rest := []) ⟨hx, hb, hml, hown, hts⟩ (c_X2_dropOut l G t T _) (cwV 0 hts gX3_doMove_X2_dropOut rfl rfl rfl (by decide +kernel) ⟨Nat.le_of_ble_eq_true rfl, Nat.le_of_ble_eq_true rfl⟩) hK hP hD hS hA [1, 2, 3, 4, 5, 6, 7, 8, 9, 10, 11] [0, 12, 13, 14, 15, 16, 17, 18, 19, 20, 21, 22, 23, 24, 25, 26, 27] rfl rfl (by decide) (by decide) (by decide) 0 (ci := 2) rfl rfl rfl rfl rfl hl.1 (Nat.le_of_ble_eq_true rfl) dX3_doMove_66 ⟨Nat.le_of_ble_eq_true rfl, Nat.le_of_ble_eq_true rfl⟩ (fun r_9 u_9 H locs hr_9 hP hD hS => ?_)
          have hP : va_P G.1 vwCl (ow G o t r h g b (drT T) U nx ln (hd ad 0 6) (hd ad 6 2) ps pl ++ pool G ad S) H := hP.part (cx := ow G o t r h g b (drT T) U nx ln (hd ad 0 6) (hd ad 6 2) ps pl) [0, 17, 18, 19, 20, 21, 22, 23, 24, 25, 26, 27, 1, 2, 3, 4, 5, 6, 7, 8, 9, 10, 11, 12, 13, 14, 15, 16] rfl
          have hD : va_D A (ow G o t r h g b (drT T) U nx ln (hd ad 0 6) (hd ad 6 2) ps pl ++ pool G ad S) := hD.part (cx := ow G o t r h g b (drT T) U nx ln (hd ad 0 6) (hd ad 6 2) ps pl) [0, 17, 18, 19, 20, 21, 22, 23, 24, 25, 26, 27, 1, 2, 3, 4, 5, 6, 7, 8, 9, 10, 11, 12, 13, 14, 15, 16] (by decide) rfl
          have hr_9 : r_9 = drV T := hr_9
          subst hr_9
          exact hret _ _ _ _ _ (drT T, U, nx, ln, ad, S, ps, pl) ⟨by simp only [if_true, if_false, lz_o, lz_1, lz_2, lz_5, lz_3, lz_4, doV, doT, if_neg c_3_1, if_neg c_32_2, if_neg c_50_3, if_pos c_59_4], (fun _ => 0), by simp only [if_true, if_false, lz_o, lz_1, lz_2, lz_5, lz_3, lz_4, doV, doT, if_neg c_3_1, if_neg c_32_2, if_neg c_50_3, if_pos c_59_4]⟩ hP hD hS dX3_doMove_69
      · refine lv_ldc (v := (-100005)) hx hb hown wk3 dX3_doMove_53 ?_
        exact hret _ _ _ _ _ (T, U, nx, ln, ad, S, ps, pl) ⟨by simp only [if_true, if_false, lz_o, lz_1, lz_2, lz_5, lz_3, lz_4, doV, doT, if_neg c_3_1, if_neg c_32_2, if_pos c_50_3], (fun _ => 0), by simp only [if_true, if_false, lz_o, lz_1, lz_2, lz_5, lz_3, lz_4, doV, doT, if_neg c_3_1, if_neg c_32_2, if_pos c_50_3]⟩ hP hD hS dX3_doMove_55
    · refine lv_aload_n hx hb dX3_doMove_35 rfl (lv_at hl 0 rfl) ?_
      refine va_get (D := G.1) (ci := 3) (v := .ref (t 0)) (C := RX3) (T := TX3) (N := 5) hx hb hts hinX3 hown hK.1 hP 0 rfl rfl 0 (by decide) wk1 (fun _ h9 => h9) rfl dX3_doMove_36 ?_
      refine cQI (wr := [(o, .inr (3, [.ref (t 0), .ref (r 0), .ref (h 0), .ref g, .ref (b 0)]))] ++ tw G r U ++ hw G h nx ln (hd ad 0 6) ++ [(g, .inl (gR G, 2, .inr (.inr (.inr (.inr (hd ad 6 2))))))] ++ pw G b ps (nI pl)) (wc := tw G t T) (As := []) (rest := []) ⟨hx, hb, hml, hown, hts⟩ (c_X2_playRound l G t T _) (cwV 0 hts gX3_doMove_X2_playRound rfl rfl rfl (by decide +kernel) ⟨Nat.le_of_ble_eq_true rfl, Nat.le_of_ble_eq_true rfl⟩) hK hP hD hS hA [1, 2, 3, 4, 5, 6, 7, 8, 9, 10, 11] [0, 12, 13, 14, 15, 16, 17, 18, 19, 20, 21, 22, 23, 24, 25, 26, 27] rfl rfl (by decide) (by decide) (by decide) 0 (ci := 2) rfl rfl rfl rfl rfl hl.1 (Nat.le_of_ble_eq_true rfl) dX3_doMove_39 ⟨Nat.le_of_ble_eq_true rfl, Nat.le_of_ble_eq_true rfl⟩ (fun r_10 u_10 H locs hr_10 hP hD hS => ?_)
      have hP : va_P G.1 vwCl (ow G o t r h g b ((prR T).1) U nx ln (hd ad 0 6) (hd ad 6 2) ps pl ++ pool G ad S) H := hP.part (cx := ow G o t r h g b ((prR T).1) U nx ln (hd ad 0 6) (hd ad 6 2) ps pl) [0, 17, 18, 19, 20, 21, 22, 23, 24, 25, 26, 27, 1, 2, 3, 4, 5, 6, 7, 8, 9, 10, 11, 12, 13, 14, 15, 16] rfl
      have hD : va_D A (ow G o t r h g b ((prR T).1) U nx ln (hd ad 0 6) (hd ad 6 2) ps pl ++ pool G ad S) := hD.part (cx := ow G o t r h g b ((prR T).1) U nx ln (hd ad 0 6) (hd ad 6 2) ps pl) [0, 17, 18, 19, 20, 21, 22, 23, 24, 25, 26, 27, 1, 2, 3, 4, 5, 6, 7, 8, 9, 10, 11, 12, 13, 14, 15, 16] (by decide) rfl
      have hr_10 : r_10 = nI (prR T).2 := hr_10
      subst hr_10
      exact hret _ _ _ _ _ ((prR T).1, U, nx, ln, ad, S, ps, pl) ⟨by simp only [if_true, if_false, lz_o, lz_1, lz_2, lz_5, lz_3, lz_4, doV, doT, if_neg c_3_1, if_pos c_32_2], (fun _ => 0), by simp only [if_true, if_false, lz_o, lz_1, lz_2, lz_5, lz_3, lz_4, doV, doT, if_neg c_3_1, if_pos c_32_2]⟩ hP hD hS dX3_doMove_42
  · refine lv_aload_n hx hb dX3_doMove_6 rfl (lv_at hl 0 rfl) ?_
    refine va_get (D := G.1) (ci := 3) (v := .ref (t 0)) (C := RX3) (T := TX3) (N := 5) hx hb hts hinX3 hown hK.1 hP 0 rfl rfl 0 (by decide) wk1 (fun _ h9 => h9) rfl dX3_doMove_7 ?_
    refine va_get (D := G.1) (ci := 2) (v := .int (T 10 0)) (C := RX2) (T := TX2) (N := 13) hx hb hts hinX2 hown hK.1 hP 1 rfl rfl 10 (by decide) wk2 (fun _ h9 => h9) rfl dX3_doMove_10 ?_
    refine lv_if_eq (tgt := 21) hx hb dX3_doMove_13 (by decide) (fun c_13_11 => ?_) (fun c_13_11 => ?_)
    · refine lv_aload_n hx hb dX3_doMove_21 rfl (lv_at hl 0 rfl) ?_
      refine va_get (D := G.1) (ci := 3) (v := .ref (t 0)) (C := RX3) (T := TX3) (N := 5) hx hb hts hinX3 hown hK.1 hP 0 rfl rfl 0 (by decide) wk1 (fun _ h9 => h9) rfl dX3_doMove_22 ?_
      refine cQI (wr := [(o, .inr (3, [.ref (t 0), .ref (r 0), .ref (h 0), .ref g, .ref (b 0)]))] ++ tw G r U ++ hw G h nx ln (hd ad 0 6) ++ [(g, .inl (gR G, 2, .inr (.inr (.inr (.inr (hd ad 6 2))))))] ++ pw G b ps (nI pl)) (wc := tw G t T) (As := []) (rest := []) ⟨hx, hb, hml, hown, hts⟩ (c_X2_start l G t T _) (cwV 0 hts gX3_doMove_X2_start rfl rfl rfl (by decide +kernel) ⟨Nat.le_of_ble_eq_true rfl, Nat.le_of_ble_eq_true rfl⟩) hK hP hD hS hA [1, 2, 3, 4, 5, 6, 7, 8, 9, 10, 11] [0, 12, 13, 14, 15, 16, 17, 18, 19, 20, 21, 22, 23, 24, 25, 26, 27] rfl rfl (by decide) (by decide) (by decide) 0 (ci := 2) rfl rfl rfl rfl rfl hl.1 (Nat.le_of_ble_eq_true rfl) dX3_doMove_25 ⟨Nat.le_of_ble_eq_true rfl, Nat.le_of_ble_eq_true rfl⟩ (fun r_12 u_12 H locs hr_12 hP hD hS => ?_)
      have hP : va_P G.1 vwCl (ow G o t r h g b (staT T) U nx ln (hd ad 0 6) (hd ad 6 2) ps pl ++ pool G ad S) H := hP.part (cx := ow G o t r h g b (staT T) U nx ln (hd ad 0 6) (hd ad 6 2) ps pl) [0, 17, 18, 19, 20, 21, 22, 23, 24, 25, 26, 27, 1, 2, 3, 4, 5, 6, 7, 8, 9, 10, 11, 12, 13, 14, 15, 16] rfl
      have hD : va_D A (ow G o t r h g b (staT T) U nx ln (hd ad 0 6) (hd ad 6 2) ps pl ++ pool G ad S) := hD.part (cx := ow G o t r h g b (staT T) U nx ln (hd ad 0 6) (hd ad 6 2) ps pl) [0, 17, 18, 19, 20, 21, 22, 23, 24, 25, 26, 27, 1, 2, 3, 4, 5, 6, 7, 8, 9, 10, 11, 12, 13, 14, 15, 16] (by decide) rfl
      have hr_12 : r_12 = staT T 10 1 := hr_12
      subst hr_12
      exact hret _ _ _ _ _ (staT T, U, nx, ln, ad, S, ps, pl) ⟨by simp only [if_true, if_false, lz_o, lz_1, lz_2, lz_5, lz_3, lz_4, doV, doT, if_pos c_3_1, if_pos c_13_11], (fun _ => 0), by simp only [if_true, if_false, lz_o, lz_1, lz_2, lz_5, lz_3, lz_4, doV, doT, if_pos c_3_1, if_pos c_13_11]⟩ hP hD hS dX3_doMove_28
    · refine lv_ldc (v := (-100005)) hx hb hown wk3 dX3_doMove_16 ?_
      refine lv_goto (tgt := 28) hx hb dX3_doMove_18 (by decide) ?_
      exact hret _ _ _ _ _ (T, U, nx, ln, ad, S, ps, pl) ⟨by simp only [if_true, if_false, lz_o, lz_1, lz_2, lz_5, lz_3, lz_4, doV, doT, if_pos c_3_1, if_neg c_13_11], (fun _ => 0), by simp only [if_true, if_false, lz_o, lz_1, lz_2, lz_5, lz_3, lz_4, doV, doT, if_pos c_3_1, if_neg c_13_11]⟩ hP hD hS dX3_doMove_28
set_option maxHeartbeats 4000000 in
set_option maxRecDepth 100000 in
theorem c_X3_player (l : Launch) (G : qG) (o : Nat) (t r h : Nat → Nat) (g : Nat) (b : Nat → Nat) (T U : Tb) (hT : is01 (T 10 0)) (nx ln : Nat) (hnx : nx < 100000) (hln : ln ≤ 6) (ad : Ad) (S : Nat → Tb) (ps : Nat → Int32) (hps : chs ps) (pl : Nat) (hpl : pl ≤ 60) (x w : Int32) : MP l yX3_player wsX3_player 1 20 G [.ref o, .int x, .int w] (ow G o t r h g b T U nx ln (hd ad 0 6) (hd ad 6 2) ps pl ++ pool G ad S) (plC T x w) := by
  refine MP.of (ty := .int) (by decide) rfl (Nat.le_of_ble_eq_true rfl) rfl ?_
  intro p e s m below meth c hx hb hml hown hts hK hP Q hret ls hl
  have hown : s.vm.findClass RX3 = some m.cls := hown
  have hl : lv_has ls 3 [(0, .ref o), (1, .int x), (2, .int w)] := hl
  have wk1 := hts (Cond.constant RX3 56 (-100001)) (List.mem_of_getElem? (i := 1) rfl)
  have wk2 := hts (Cond.fieldLink RX3 10 "TurnBids" "table" "LTurnBids$Table;") (List.mem_of_getElem? (i := 2) rfl)
  have wk3 := hts (Cond.fieldLink RX3 62 "TurnBids$Table" "coins" "[I") (List.mem_of_getElem? (i := 3) rfl)
  have wk4 := hts (Cond.fieldLink RX3 65 "TurnBids$Table" "limits" "[I") (List.mem_of_getElem? (i := 4) rfl)
  have wk5 := hts (Cond.fieldLink RX3 121 "TurnBids$Table" "places" "[I") (List.mem_of_getElem? (i := 5) rfl)
  have wk6 := hts (Cond.fieldLink RX3 124 "TurnBids$Table" "bids" "[I") (List.mem_of_getElem? (i := 6) rfl)
  have wk7 := hts (Cond.fieldLink RX3 127 "TurnBids$Table" "placesGot" "[I") (List.mem_of_getElem? (i := 7) rfl)
  have wk8 := hts (Cond.fieldLink RX3 130 "TurnBids$Table" "paid" "[I") (List.mem_of_getElem? (i := 8) rfl)
  have wk9 := hts (Cond.fieldLink RX3 133 "TurnBids$Table" "taken" "[I") (List.mem_of_getElem? (i := 9) rfl)
  have wk10 := hts (Cond.fieldLink RX3 136 "TurnBids$Table" "won" "[I") (List.mem_of_getElem? (i := 10) rfl)
  have wk11 := hts (Cond.constant RX3 37 (-100002)) (List.mem_of_getElem? (i := 11) rfl)
  have wk12 := hts (Cond.methodLink RX3 52 yX3_isPlayer) (List.mem_of_getElem? (i := 12) rfl)
  have hinX3 : ∀ w ∈ wsX30, w ∈ wsX3_player := fun _ h => (List.mem_cons_of_mem _ (List.mem_append_left _ (List.mem_append_right _ h)))
  have hinX2 : ∀ w ∈ wsX20, w ∈ wsX3_player := fun _ h => (List.mem_cons_of_mem _ (List.mem_append_right _ h))
  refine lv_iload_n hx hb dX3_player_0 rfl (lv_at hl 1 rfl) ?_
  refine cPS (As := [.int x]) (rest := []) ⟨hx, hb, hml, hown, hts⟩ (c_X3_isPlayer l G x) (cwS 1 hts gX3_player_X3_isPlayer rfl rfl rfl (by decide +kernel) ⟨Nat.le_of_ble_eq_true rfl, Nat.le_of_ble_eq_true rfl⟩) hK (fun k q h => by simp at h) rfl rfl hl.1 (Nat.le_of_ble_eq_true rfl) dX3_player_1 ⟨Nat.le_of_ble_eq_true rfl, Nat.le_of_ble_eq_true rfl⟩ ?_
  refine lv_if_ne (tgt := 10) hx hb dX3_player_4 (by decide) (fun c_4_1 => ?_) (fun c_4_1 => ?_)
  · have hin_2 := isPb_in c_4_1
    refine lv_iload_n hx hb dX3_player_10 rfl (lv_at hl 2 rfl) ?_
    by_cases htw : w.toInt < 0 ∨ 7 < w.toInt
    · refine lv_tableOut (tgt := 136) hx hb dX3_player_11 htw (by decide) ?_
      refine lv_ldc (v := (-100002)) hx hb hown wk11 dX3_player_136 ?_
      exact hret _ _ _ (by simp only [plC, Nat.reduceAdd, if_neg c_4_1, if_pos htw]) dX3_player_138
    · obtain ⟨k₀, hk₀, he₀⟩ := sw_in (N := 7) htw (by decide)
      rcases (show k₀ = 0 ∨ k₀ = 1 ∨ k₀ = 2 ∨ k₀ = 3 ∨ k₀ = 4 ∨ k₀ = 5 ∨ k₀ = 6 ∨ k₀ = 7 by omega) with rfl | rfl | rfl | rfl | rfl | rfl | rfl | rfl
      · rw [he₀] at hl
        refine qtop (y := nI 0) he₀ ?_
        have hxk : ix w = 0 := by rw [he₀]; exact nI_clamp (by decide)
        refine lv_tableIn (off := 45) (tgt := 56) hx hb dX3_player_11 (by decide +kernel) (by decide +kernel) (by decide +kernel) (by decide) ?_
        refine lv_aload_n hx hb dX3_player_56 rfl (lv_at hl 0 rfl) ?_
        refine va_get (D := G.1) (ci := 3) (v := .ref (t 0)) (C := RX3) (T := TX3) (N := 5) hx hb hts hinX3 hown hK.1 hP 0 rfl rfl 0 (by decide) wk2 (fun _ h9 => h9) rfl dX3_player_57 ?_
        refine va_get (D := G.1) (ci := 2) (v := .ref (t 3)) (C := RX2) (T := TX2) (N := 13) hx hb hts hinX2 hown hK.1 hP 1 rfl rfl 2 (by decide) wk3 (fun _ h9 => h9) rfl dX3_player_60 ?_
        refine lv_iload_n hx hb dX3_player_63 rfl (lv_at hl 1 rfl) ?_
        refine qild hx hb hK.1 hP 4 0 rfl rfl (k := ix x) rfl (by assumption) dX3_player_64 ?_
        exact hret _ _ _ (by simp only [plC, Nat.reduceAdd, if_neg c_4_1, if_neg htw, hxk]) dX3_player_65
      · rw [he₀] at hl
        refine qtop (y := nI 1) he₀ ?_
        have hxk : ix w = 1 := by rw [he₀]; exact nI_clamp (by decide)
        refine lv_tableIn (off := 55) (tgt := 66) hx hb dX3_player_11 (by decide +kernel) (by decide +kernel) (by decide +kernel) (by decide) ?_
        refine lv_aload_n hx hb dX3_player_66 rfl (lv_at hl 0 rfl) ?_
        refine va_get (D := G.1) (ci := 3) (v := .ref (t 0)) (C := RX3) (T := TX3) (N := 5) hx hb hts hinX3 hown hK.1 hP 0 rfl rfl 0 (by decide) wk2 (fun _ h9 => h9) rfl dX3_player_67 ?_
        refine va_get (D := G.1) (ci := 2) (v := .ref (t 4)) (C := RX2) (T := TX2) (N := 13) hx hb hts hinX2 hown hK.1 hP 1 rfl rfl 3 (by decide) wk4 (fun _ h9 => h9) rfl dX3_player_70 ?_
        refine lv_iload_n hx hb dX3_player_73 rfl (lv_at hl 1 rfl) ?_
        refine qild hx hb hK.1 hP 5 0 rfl rfl (k := ix x) rfl (by assumption) dX3_player_74 ?_
        exact hret _ _ _ (by simp only [plC, Nat.reduceAdd, if_neg c_4_1, if_neg htw, hxk]) dX3_player_75
      · rw [he₀] at hl
        refine qtop (y := nI 2) he₀ ?_
        have hxk : ix w = 2 := by rw [he₀]; exact nI_clamp (by decide)
        refine lv_tableIn (off := 65) (tgt := 76) hx hb dX3_player_11 (by decide +kernel) (by decide +kernel) (by decide +kernel) (by decide) ?_
        refine lv_aload_n hx hb dX3_player_76 rfl (lv_at hl 0 rfl) ?_
        refine va_get (D := G.1) (ci := 3) (v := .ref (t 0)) (C := RX3) (T := TX3) (N := 5) hx hb hts hinX3 hown hK.1 hP 0 rfl rfl 0 (by decide) wk2 (fun _ h9 => h9) rfl dX3_player_77 ?_
        refine va_get (D := G.1) (ci := 2) (v := .ref (t 5)) (C := RX2) (T := TX2) (N := 13) hx hb hts hinX2 hown hK.1 hP 1 rfl rfl 4 (by decide) wk5 (fun _ h9 => h9) rfl dX3_player_80 ?_
        refine lv_iload_n hx hb dX3_player_83 rfl (lv_at hl 1 rfl) ?_
        refine qild hx hb hK.1 hP 6 0 rfl rfl (k := ix x) rfl (by assumption) dX3_player_84 ?_
        exact hret _ _ _ (by simp only [plC, Nat.reduceAdd, if_neg c_4_1, if_neg htw, hxk]) dX3_player_85
      · rw [he₀] at hl
        refine qtop (y := nI 3) he₀ ?_
        have hxk : ix w = 3 := by rw [he₀]; exact nI_clamp (by decide)
        refine lv_tableIn (off := 75) (tgt := 86) hx hb dX3_player_11 (by decide +kernel) (by decide +kernel) (by decide +kernel) (by decide) ?_
        refine lv_aload_n hx hb dX3_player_86 rfl (lv_at hl 0 rfl) ?_
        refine va_get (D := G.1) (ci := 3) (v := .ref (t 0)) (C := RX3) (T := TX3) (N := 5) hx hb hts hinX3 hown hK.1 hP 0 rfl rfl 0 (by decide) wk2 (fun _ h9 => h9) rfl dX3_player_87 ?_
        refine va_get (D := G.1) (ci := 2) (v := .ref (t 6)) (C := RX2) (T := TX2) (N := 13) hx hb hts hinX2 hown hK.1 hP 1 rfl rfl 5 (by decide) wk6 (fun _ h9 => h9) rfl dX3_player_90 ?_
        refine lv_iload_n hx hb dX3_player_93 rfl (lv_at hl 1 rfl) ?_
        refine qild hx hb hK.1 hP 7 0 rfl rfl (k := ix x) rfl (by assumption) dX3_player_94 ?_
        exact hret _ _ _ (by simp only [plC, Nat.reduceAdd, if_neg c_4_1, if_neg htw, hxk]) dX3_player_95
      · rw [he₀] at hl
        refine qtop (y := nI 4) he₀ ?_
        have hxk : ix w = 4 := by rw [he₀]; exact nI_clamp (by decide)
        refine lv_tableIn (off := 85) (tgt := 96) hx hb dX3_player_11 (by decide +kernel) (by decide +kernel) (by decide +kernel) (by decide) ?_
        refine lv_aload_n hx hb dX3_player_96 rfl (lv_at hl 0 rfl) ?_
        refine va_get (D := G.1) (ci := 3) (v := .ref (t 0)) (C := RX3) (T := TX3) (N := 5) hx hb hts hinX3 hown hK.1 hP 0 rfl rfl 0 (by decide) wk2 (fun _ h9 => h9) rfl dX3_player_97 ?_
        refine va_get (D := G.1) (ci := 2) (v := .ref (t 7)) (C := RX2) (T := TX2) (N := 13) hx hb hts hinX2 hown hK.1 hP 1 rfl rfl 6 (by decide) wk7 (fun _ h9 => h9) rfl dX3_player_100 ?_
        refine lv_iload_n hx hb dX3_player_103 rfl (lv_at hl 1 rfl) ?_
        refine qild hx hb hK.1 hP 8 0 rfl rfl (k := ix x) rfl (by assumption) dX3_player_104 ?_
        exact hret _ _ _ (by simp only [plC, Nat.reduceAdd, if_neg c_4_1, if_neg htw, hxk]) dX3_player_105
      · rw [he₀] at hl
        refine qtop (y := nI 5) he₀ ?_
        have hxk : ix w = 5 := by rw [he₀]; exact nI_clamp (by decide)
        refine lv_tableIn (off := 95) (tgt := 106) hx hb dX3_player_11 (by decide +kernel) (by decide +kernel) (by decide +kernel) (by decide) ?_
        refine lv_aload_n hx hb dX3_player_106 rfl (lv_at hl 0 rfl) ?_
        refine va_get (D := G.1) (ci := 3) (v := .ref (t 0)) (C := RX3) (T := TX3) (N := 5) hx hb hts hinX3 hown hK.1 hP 0 rfl rfl 0 (by decide) wk2 (fun _ h9 => h9) rfl dX3_player_107 ?_
        refine va_get (D := G.1) (ci := 2) (v := .ref (t 8)) (C := RX2) (T := TX2) (N := 13) hx hb hts hinX2 hown hK.1 hP 1 rfl rfl 7 (by decide) wk8 (fun _ h9 => h9) rfl dX3_player_110 ?_
        refine lv_iload_n hx hb dX3_player_113 rfl (lv_at hl 1 rfl) ?_
        refine qild hx hb hK.1 hP 9 0 rfl rfl (k := ix x) rfl (by assumption) dX3_player_114 ?_
        exact hret _ _ _ (by simp only [plC, Nat.reduceAdd, if_neg c_4_1, if_neg htw, hxk]) dX3_player_115
      · rw [he₀] at hl
        refine qtop (y := nI 6) he₀ ?_
        have hxk : ix w = 6 := by rw [he₀]; exact nI_clamp (by decide)
        refine lv_tableIn (off := 105) (tgt := 116) hx hb dX3_player_11 (by decide +kernel) (by decide +kernel) (by decide +kernel) (by decide) ?_
        refine lv_aload_n hx hb dX3_player_116 rfl (lv_at hl 0 rfl) ?_
        refine va_get (D := G.1) (ci := 3) (v := .ref (t 0)) (C := RX3) (T := TX3) (N := 5) hx hb hts hinX3 hown hK.1 hP 0 rfl rfl 0 (by decide) wk2 (fun _ h9 => h9) rfl dX3_player_117 ?_
        refine va_get (D := G.1) (ci := 2) (v := .ref (t 9)) (C := RX2) (T := TX2) (N := 13) hx hb hts hinX2 hown hK.1 hP 1 rfl rfl 8 (by decide) wk9 (fun _ h9 => h9) rfl dX3_player_120 ?_
        refine lv_iload_n hx hb dX3_player_123 rfl (lv_at hl 1 rfl) ?_
        refine qild hx hb hK.1 hP 10 0 rfl rfl (k := ix x) rfl (by assumption) dX3_player_124 ?_
        exact hret _ _ _ (by simp only [plC, Nat.reduceAdd, if_neg c_4_1, if_neg htw, hxk]) dX3_player_125
      · rw [he₀] at hl
        refine qtop (y := nI 7) he₀ ?_
        have hxk : ix w = 7 := by rw [he₀]; exact nI_clamp (by decide)
        refine lv_tableIn (off := 115) (tgt := 126) hx hb dX3_player_11 (by decide +kernel) (by decide +kernel) (by decide +kernel) (by decide) ?_
        refine lv_aload_n hx hb dX3_player_126 rfl (lv_at hl 0 rfl) ?_
        refine va_get (D := G.1) (ci := 3) (v := .ref (t 0)) (C := RX3) (T := TX3) (N := 5) hx hb hts hinX3 hown hK.1 hP 0 rfl rfl 0 (by decide) wk2 (fun _ h9 => h9) rfl dX3_player_127 ?_
        refine va_get (D := G.1) (ci := 2) (v := .ref (t 10)) (C := RX2) (T := TX2) (N := 13) hx hb hts hinX2 hown hK.1 hP 1 rfl rfl 9 (by decide) wk10 (fun _ h9 => h9) rfl dX3_player_130 ?_
        refine lv_iload_n hx hb dX3_player_133 rfl (lv_at hl 1 rfl) ?_
        refine qild hx hb hK.1 hP 11 0 rfl rfl (k := ix x) rfl (by assumption) dX3_player_134 ?_
        exact hret _ _ _ (by simp only [plC, Nat.reduceAdd, if_neg c_4_1, if_neg htw, hxk]) dX3_player_135
  · refine lv_ldc (v := (-100001)) hx hb hown wk1 dX3_player_7 ?_
    exact hret _ _ _ (by simp only [plC, Nat.reduceAdd, if_pos c_4_1]) dX3_player_9
set_option maxHeartbeats 4000000 in
set_option maxRecDepth 100000 in
theorem c_X3_count (l : Launch) (G : qG) (o : Nat) (t r h : Nat → Nat) (g : Nat) (b : Nat → Nat) (T U : Tb) (hT : is01 (T 10 0)) (nx ln : Nat) (hnx : nx < 100000) (hln : ln ≤ 6) (ad : Ad) (S : Nat → Tb) (ps : Nat → Int32) (hps : chs ps) (pl : Nat) (hpl : pl ≤ 60) (x : Int32) : MP l yX3_count wsX3_count 2 46 G [.ref o, .int x] (ow G o t r h g b T U nx ln (hd ad 0 6) (hd ad 6 2) ps pl ++ pool G ad S) (cnC T ln pl x) := by
  refine MP.of (ty := .int) (by decide) rfl (Nat.le_of_ble_eq_true rfl) rfl ?_
  intro p e s m below meth c hx hb hml hown hts hK hP Q hret ls hl
  have hown : s.vm.findClass RX3 = some m.cls := hown
  have hl : lv_has ls 2 [(0, .ref o), (1, .int x)] := hl
  have wk1 := hts (Cond.fieldLink RX3 10 "TurnBids" "table" "LTurnBids$Table;") (List.mem_of_getElem? (i := 1) rfl)
  have wk2 := hts (Cond.fieldLink RX3 49 "TurnBids$Table" "settings" "[I") (List.mem_of_getElem? (i := 2) rfl)
  have wk3 := hts (Cond.fieldLink RX3 74 "TurnBids$Table" "underWay" "Z") (List.mem_of_getElem? (i := 3) rfl)
  have wk4 := hts (Cond.fieldLink RX3 139 "TurnBids$Table" "turn" "I") (List.mem_of_getElem? (i := 4) rfl)
  have wk5 := hts (Cond.fieldLink RX3 151 "TurnBids$Table" "rounds" "I") (List.mem_of_getElem? (i := 5) rfl)
  have wk6 := hts (Cond.fieldLink RX3 62 "TurnBids$Table" "coins" "[I") (List.mem_of_getElem? (i := 6) rfl)
  have wk7 := hts (Cond.fieldLink RX3 130 "TurnBids$Table" "paid" "[I") (List.mem_of_getElem? (i := 7) rfl)
  have wk8 := hts (Cond.fieldLink RX3 133 "TurnBids$Table" "taken" "[I") (List.mem_of_getElem? (i := 8) rfl)
  have wk9 := hts (Cond.fieldLink RX3 71 "TurnBids$Table" "prizes" "[I") (List.mem_of_getElem? (i := 9) rfl)
  have wk10 := hts (Cond.fieldLink RX3 33 "TurnBids" "pad" "LTurnBids$Pad;") (List.mem_of_getElem? (i := 10) rfl)
  have wk11 := hts (Cond.fieldLink RX3 105 "TurnBids$Pad" "length" "I") (List.mem_of_getElem? (i := 11) rfl)
  have wk12 := hts (Cond.fieldLink RX3 22 "TurnBids" "history" "LTurnBids$History;") (List.mem_of_getElem? (i := 12) rfl)
  have wk13 := hts (Cond.fieldLink RX3 158 "TurnBids$History" "length" "I") (List.mem_of_getElem? (i := 13) rfl)
  have wk14 := hts (Cond.constant RX3 37 (-100002)) (List.mem_of_getElem? (i := 14) rfl)
  have wk15 := hts (Cond.methodLink RX3 142 yX2_highestBid) (List.mem_of_getElem? (i := 15) rfl)
  have wk22 := hts (Cond.methodLink RX3 145 yX2_leastBid) (List.mem_of_getElem? (i := 22) rfl)
  have wk29 := hts (Cond.methodLink RX3 148 yX2_playersLeft) (List.mem_of_getElem? (i := 29) rfl)
  have wk34 := hts (Cond.methodLink RX3 154 yX3_sum) (List.mem_of_getElem? (i := 34) rfl)
  have hinX3 : ∀ w ∈ wsX30, w ∈ wsX3_count := fun _ h => (List.mem_cons_of_mem _ (List.mem_append_left _ (List.mem_append_left _ (List.mem_append_left _ (List.mem_append_right _ h)))))
  have hinX2 : ∀ w ∈ wsX20, w ∈ wsX3_count := fun _ h => (List.mem_cons_of_mem _ (List.mem_append_left _ (List.mem_append_left _ (List.mem_append_right _ h))))
  have hinX1 : ∀ w ∈ wsX10, w ∈ wsX3_count := fun _ h => (List.mem_cons_of_mem _ (List.mem_append_left _ (List.mem_append_right _ h)))
  have hinX0 : ∀ w ∈ wsX00, w ∈ wsX3_count := fun _ h => (List.mem_cons_of_mem _ (List.mem_append_right _ h))
  refine lv_iload_n hx hb dX3_count_0 rfl (lv_at hl 1 rfl) ?_
  refine lv_if_lt (tgt := 19) hx hb dX3_count_1 (by decide) (fun c_1_1 => ?_) (fun c_1_1 => ?_)
  · refine lv_iload_n hx hb dX3_count_19 rfl (lv_at hl 1 rfl) ?_
    by_cases htw : x.toInt < 4 ∨ 15 < x.toInt
    · refine lv_tableOut (tgt := 200) hx hb dX3_count_20 htw (by decide) ?_
      refine lv_ldc (v := (-100002)) hx hb hown wk14 dX3_count_200 ?_
      exact hret _ _ _ (by simp only [cnC, cnS, if_pos c_1_1, if_pos htw]) dX3_count_202
    · obtain ⟨k₀, hk₁, hk₀, he₀⟩ := sw_4 htw
      rcases (show k₀ = 4 ∨ k₀ = 5 ∨ k₀ = 6 ∨ k₀ = 7 ∨ k₀ = 8 ∨ k₀ = 9 ∨ k₀ = 10 ∨ k₀ = 11 ∨ k₀ = 12 ∨ k₀ = 13 ∨ k₀ = 14 ∨ k₀ = 15 by omega) with rfl | rfl | rfl | rfl | rfl | rfl | rfl | rfl | rfl | rfl | rfl | rfl
      · rw [he₀] at hl
        refine qtop (y := nI 4) he₀ ?_
        have hxk : ix x = 4 := by rw [he₀]; exact nI_clamp (by decide)
        refine lv_tableIn (off := 64) (tgt := 84) hx hb dX3_count_20 (by decide +kernel) (by decide +kernel) (by decide +kernel) (by decide) ?_
        refine lv_aload_n hx hb dX3_count_84 rfl (lv_at hl 0 rfl) ?_
        refine va_get (D := G.1) (ci := 3) (v := .ref (t 0)) (C := RX3) (T := TX3) (N := 5) hx hb hts hinX3 hown hK.1 hP 0 rfl rfl 0 (by decide) wk1 (fun _ h9 => h9) rfl dX3_count_85 ?_
        refine va_get (D := G.1) (ci := 2) (v := .int (T 10 0)) (C := RX2) (T := TX2) (N := 13) hx hb hts hinX2 hown hK.1 hP 1 rfl rfl 10 (by decide) wk3 (fun _ h9 => h9) rfl dX3_count_88 ?_
        refine lv_if_eq (tgt := 98) hx hb dX3_count_91 (by decide) (fun c_91_2 => ?_) (fun c_91_2 => ?_)
        · refine lv_iconst (v := 0) hx hb dX3_count_98 (by decide) ?_
          exact hret _ _ _ (by simp only [cnC, cnS, if_pos c_1_1, if_neg htw, hxk, if_pos c_91_2]) dX3_count_99
        · refine lv_iconst (v := 1) hx hb dX3_count_94 (by decide) ?_
          refine lv_goto (tgt := 99) hx hb dX3_count_95 (by decide) ?_
          exact hret _ _ _ (by simp only [cnC, cnS, if_pos c_1_1, if_neg htw, hxk, if_neg c_91_2]) dX3_count_99
      · rw [he₀] at hl
        refine qtop (y := nI 5) he₀ ?_
        have hxk : ix x = 5 := by rw [he₀]; exact nI_clamp (by decide)
        refine lv_tableIn (off := 80) (tgt := 100) hx hb dX3_count_20 (by decide +kernel) (by decide +kernel) (by decide +kernel) (by decide) ?_
        refine lv_aload_n hx hb dX3_count_100 rfl (lv_at hl 0 rfl) ?_
        refine va_get (D := G.1) (ci := 3) (v := .ref (t 0)) (C := RX3) (T := TX3) (N := 5) hx hb hts hinX3 hown hK.1 hP 0 rfl rfl 0 (by decide) wk1 (fun _ h9 => h9) rfl dX3_count_101 ?_
        refine va_get (D := G.1) (ci := 2) (v := .int (T 10 1)) (C := RX2) (T := TX2) (N := 13) hx hb hts hinX2 hown hK.1 hP 1 rfl rfl 11 (by decide) wk4 (fun _ h9 => h9) rfl dX3_count_104 ?_
        exact hret _ _ _ (by simp only [cnC, cnS, if_pos c_1_1, if_neg htw, hxk]) dX3_count_107
      · rw [he₀] at hl
        refine qtop (y := nI 6) he₀ ?_
        have hxk : ix x = 6 := by rw [he₀]; exact nI_clamp (by decide)
        refine lv_tableIn (off := 88) (tgt := 108) hx hb dX3_count_20 (by decide +kernel) (by decide +kernel) (by decide +kernel) (by decide) ?_
        refine lv_aload_n hx hb dX3_count_108 rfl (lv_at hl 0 rfl) ?_
        refine va_get (D := G.1) (ci := 3) (v := .ref (t 0)) (C := RX3) (T := TX3) (N := 5) hx hb hts hinX3 hown hK.1 hP 0 rfl rfl 0 (by decide) wk1 (fun _ h9 => h9) rfl dX3_count_109 ?_
        refine cPV (As := []) (rest := []) ⟨hx, hb, hml, hown, hts⟩ (c_X2_highestBid l G t T) (cwV 0 hts gX3_count_X2_highestBid rfl rfl rfl (by decide +kernel) ⟨Nat.le_of_ble_eq_true rfl, Nat.le_of_ble_eq_true rfl⟩) hK (hP.sub (ws' := tw G t T) [1, 2, 3, 4, 5, 6, 7, 8, 9, 10, 11] rfl) 0 (ci := 2) rfl rfl rfl rfl rfl hl.1 (Nat.le_of_ble_eq_true rfl) dX3_count_112 ⟨Nat.le_of_ble_eq_true rfl, Nat.le_of_ble_eq_true rfl⟩ ?_
        exact hret _ _ _ (by simp only [cnC, cnS, if_pos c_1_1, if_neg htw, hxk]) dX3_count_115
      · rw [he₀] at hl
        refine qtop (y := nI 7) he₀ ?_
        have hxk : ix x = 7 := by rw [he₀]; exact nI_clamp (by decide)
        refine lv_tableIn (off := 96) (tgt := 116) hx hb dX3_count_20 (by decide +kernel) (by decide +kernel) (by decide +kernel) (by decide) ?_
        refine lv_aload_n hx hb dX3_count_116 rfl (lv_at hl 0 rfl) ?_
        refine va_get (D := G.1) (ci := 3) (v := .ref (t 0)) (C := RX3) (T := TX3) (N := 5) hx hb hts hinX3 hown hK.1 hP 0 rfl rfl 0 (by decide) wk1 (fun _ h9 => h9) rfl dX3_count_117 ?_
        refine cPV (As := []) (rest := []) ⟨hx, hb, hml, hown, hts⟩ (c_X2_leastBid l G t T) (cwV 0 hts gX3_count_X2_leastBid rfl rfl rfl (by decide +kernel) ⟨Nat.le_of_ble_eq_true rfl, Nat.le_of_ble_eq_true rfl⟩) hK (hP.sub (ws' := tw G t T) [1, 2, 3, 4, 5, 6, 7, 8, 9, 10, 11] rfl) 0 (ci := 2) rfl rfl rfl rfl rfl hl.1 (Nat.le_of_ble_eq_true rfl) dX3_count_120 ⟨Nat.le_of_ble_eq_true rfl, Nat.le_of_ble_eq_true rfl⟩ ?_
        exact hret _ _ _ (by simp only [cnC, cnS, if_pos c_1_1, if_neg htw, hxk]) dX3_count_123
      · rw [he₀] at hl
        refine qtop (y := nI 8) he₀ ?_
        have hxk : ix x = 8 := by rw [he₀]; exact nI_clamp (by decide)
        refine lv_tableIn (off := 104) (tgt := 124) hx hb dX3_count_20 (by decide +kernel) (by decide +kernel) (by decide +kernel) (by decide) ?_
        refine lv_aload_n hx hb dX3_count_124 rfl (lv_at hl 0 rfl) ?_
        refine va_get (D := G.1) (ci := 3) (v := .ref (t 0)) (C := RX3) (T := TX3) (N := 5) hx hb hts hinX3 hown hK.1 hP 0 rfl rfl 0 (by decide) wk1 (fun _ h9 => h9) rfl dX3_count_125 ?_
        refine cPV (As := []) (rest := []) ⟨hx, hb, hml, hown, hts⟩ (c_X2_playersLeft l G t T) (cwV 0 hts gX3_count_X2_playersLeft rfl rfl rfl (by decide +kernel) ⟨Nat.le_of_ble_eq_true rfl, Nat.le_of_ble_eq_true rfl⟩) hK (hP.sub (ws' := tw G t T) [1, 2, 3, 4, 5, 6, 7, 8, 9, 10, 11] rfl) 0 (ci := 2) rfl rfl rfl rfl rfl hl.1 (Nat.le_of_ble_eq_true rfl) dX3_count_128 ⟨Nat.le_of_ble_eq_true rfl, Nat.le_of_ble_eq_true rfl⟩ ?_
        exact hret _ _ _ (by simp only [cnC, cnS, if_pos c_1_1, if_neg htw, hxk]) dX3_count_131
      · rw [he₀] at hl
        refine qtop (y := nI 9) he₀ ?_
        have hxk : ix x = 9 := by rw [he₀]; exact nI_clamp (by decide)
        refine lv_tableIn (off := 112) (tgt := 132) hx hb dX3_count_20 (by decide +kernel) (by decide +kernel) (by decide +kernel) (by decide) ?_
        refine lv_aload_n hx hb dX3_count_132 rfl (lv_at hl 0 rfl) ?_
        refine va_get (D := G.1) (ci := 3) (v := .ref (t 0)) (C := RX3) (T := TX3) (N := 5) hx hb hts hinX3 hown hK.1 hP 0 rfl rfl 0 (by decide) wk1 (fun _ h9 => h9) rfl dX3_count_133 ?_
        refine va_get (D := G.1) (ci := 2) (v := .int (T 10 2)) (C := RX2) (T := TX2) (N := 13) hx hb hts hinX2 hown hK.1 hP 1 rfl rfl 12 (by decide) wk5 (fun _ h9 => h9) rfl dX3_count_136 ?_
        exact hret _ _ _ (by simp only [cnC, cnS, if_pos c_1_1, if_neg htw, hxk]) dX3_count_139
      · rw [he₀] at hl
        refine qtop (y := nI 10) he₀ ?_
        have hxk : ix x = 10 := by rw [he₀]; exact nI_clamp (by decide)
        refine lv_tableIn (off := 120) (tgt := 140) hx hb dX3_count_20 (by decide +kernel) (by decide +kernel) (by decide +kernel) (by decide) ?_
        refine lv_aload_n hx hb dX3_count_140 rfl (lv_at hl 0 rfl) ?_
        refine va_get (D := G.1) (ci := 3) (v := .ref (t 0)) (C := RX3) (T := TX3) (N := 5) hx hb hts hinX3 hown hK.1 hP 0 rfl rfl 0 (by decide) wk1 (fun _ h9 => h9) rfl dX3_count_141 ?_
        refine va_get (D := G.1) (ci := 2) (v := .ref (t 3)) (C := RX2) (T := TX2) (N := 13) hx hb hts hinX2 hown hK.1 hP 1 rfl rfl 2 (by decide) wk6 (fun _ h9 => h9) rfl dX3_count_144 ?_
        refine cPS (As := [.ref (t 3)]) (rest := []) ⟨hx, hb, hml, hown, hts⟩ (c_X3_sum l G (t 3) (T 2)) (cwS 1 hts gX3_count_X3_sum rfl rfl rfl (by decide +kernel) ⟨Nat.le_of_ble_eq_true rfl, Nat.le_of_ble_eq_true rfl⟩) hK (hP.sub (ws' := [(t 3, .inl (gI G, 5, .inl (T 2)))]) [4] rfl) rfl rfl hl.1 (Nat.le_of_ble_eq_true rfl) dX3_count_147 ⟨Nat.le_of_ble_eq_true rfl, Nat.le_of_ble_eq_true rfl⟩ ?_
        exact hret _ _ _ (by simp only [cnC, cnS, if_pos c_1_1, if_neg htw, hxk]) dX3_count_150
      · rw [he₀] at hl
        refine qtop (y := nI 11) he₀ ?_
        have hxk : ix x = 11 := by rw [he₀]; exact nI_clamp (by decide)
        refine lv_tableIn (off := 131) (tgt := 151) hx hb dX3_count_20 (by decide +kernel) (by decide +kernel) (by decide +kernel) (by decide) ?_
        refine lv_aload_n hx hb dX3_count_151 rfl (lv_at hl 0 rfl) ?_
        refine va_get (D := G.1) (ci := 3) (v := .ref (t 0)) (C := RX3) (T := TX3) (N := 5) hx hb hts hinX3 hown hK.1 hP 0 rfl rfl 0 (by decide) wk1 (fun _ h9 => h9) rfl dX3_count_152 ?_
        refine va_get (D := G.1) (ci := 2) (v := .ref (t 8)) (C := RX2) (T := TX2) (N := 13) hx hb hts hinX2 hown hK.1 hP 1 rfl rfl 7 (by decide) wk7 (fun _ h9 => h9) rfl dX3_count_155 ?_
        refine cPS (As := [.ref (t 8)]) (rest := []) ⟨hx, hb, hml, hown, hts⟩ (c_X3_sum l G (t 8) (T 7)) (cwS 1 hts gX3_count_X3_sum rfl rfl rfl (by decide +kernel) ⟨Nat.le_of_ble_eq_true rfl, Nat.le_of_ble_eq_true rfl⟩) hK (hP.sub (ws' := [(t 8, .inl (gI G, 5, .inl (T 7)))]) [9] rfl) rfl rfl hl.1 (Nat.le_of_ble_eq_true rfl) dX3_count_158 ⟨Nat.le_of_ble_eq_true rfl, Nat.le_of_ble_eq_true rfl⟩ ?_
        exact hret _ _ _ (by simp only [cnC, cnS, if_pos c_1_1, if_neg htw, hxk]) dX3_count_161
      · rw [he₀] at hl
        refine qtop (y := nI 12) he₀ ?_
        have hxk : ix x = 12 := by rw [he₀]; exact nI_clamp (by decide)
        refine lv_tableIn (off := 142) (tgt := 162) hx hb dX3_count_20 (by decide +kernel) (by decide +kernel) (by decide +kernel) (by decide) ?_
        refine lv_aload_n hx hb dX3_count_162 rfl (lv_at hl 0 rfl) ?_
        refine va_get (D := G.1) (ci := 3) (v := .ref (t 0)) (C := RX3) (T := TX3) (N := 5) hx hb hts hinX3 hown hK.1 hP 0 rfl rfl 0 (by decide) wk1 (fun _ h9 => h9) rfl dX3_count_163 ?_
        refine va_get (D := G.1) (ci := 2) (v := .ref (t 9)) (C := RX2) (T := TX2) (N := 13) hx hb hts hinX2 hown hK.1 hP 1 rfl rfl 8 (by decide) wk8 (fun _ h9 => h9) rfl dX3_count_166 ?_
        refine cPS (As := [.ref (t 9)]) (rest := []) ⟨hx, hb, hml, hown, hts⟩ (c_X3_sum l G (t 9) (T 8)) (cwS 1 hts gX3_count_X3_sum rfl rfl rfl (by decide +kernel) ⟨Nat.le_of_ble_eq_true rfl, Nat.le_of_ble_eq_true rfl⟩) hK (hP.sub (ws' := [(t 9, .inl (gI G, 5, .inl (T 8)))]) [10] rfl) rfl rfl hl.1 (Nat.le_of_ble_eq_true rfl) dX3_count_169 ⟨Nat.le_of_ble_eq_true rfl, Nat.le_of_ble_eq_true rfl⟩ ?_
        exact hret _ _ _ (by simp only [cnC, cnS, if_pos c_1_1, if_neg htw, hxk]) dX3_count_172
      · rw [he₀] at hl
        refine qtop (y := nI 13) he₀ ?_
        have hxk : ix x = 13 := by rw [he₀]; exact nI_clamp (by decide)
        refine lv_tableIn (off := 153) (tgt := 173) hx hb dX3_count_20 (by decide +kernel) (by decide +kernel) (by decide +kernel) (by decide) ?_
        refine lv_aload_n hx hb dX3_count_173 rfl (lv_at hl 0 rfl) ?_
        refine va_get (D := G.1) (ci := 3) (v := .ref (t 0)) (C := RX3) (T := TX3) (N := 5) hx hb hts hinX3 hown hK.1 hP 0 rfl rfl 0 (by decide) wk1 (fun _ h9 => h9) rfl dX3_count_174 ?_
        refine va_get (D := G.1) (ci := 2) (v := .ref (t 2)) (C := RX2) (T := TX2) (N := 13) hx hb hts hinX2 hown hK.1 hP 1 rfl rfl 1 (by decide) wk9 (fun _ h9 => h9) rfl dX3_count_177 ?_
        refine cPS (As := [.ref (t 2)]) (rest := []) ⟨hx, hb, hml, hown, hts⟩ (c_X3_sum l G (t 2) (T 1)) (cwS 1 hts gX3_count_X3_sum rfl rfl rfl (by decide +kernel) ⟨Nat.le_of_ble_eq_true rfl, Nat.le_of_ble_eq_true rfl⟩) hK (hP.sub (ws' := [(t 2, .inl (gI G, 5, .inl (T 1)))]) [3] rfl) rfl rfl hl.1 (Nat.le_of_ble_eq_true rfl) dX3_count_180 ⟨Nat.le_of_ble_eq_true rfl, Nat.le_of_ble_eq_true rfl⟩ ?_
        exact hret _ _ _ (by simp only [cnC, cnS, if_pos c_1_1, if_neg htw, hxk]) dX3_count_183
      · rw [he₀] at hl
        refine qtop (y := nI 14) he₀ ?_
        have hxk : ix x = 14 := by rw [he₀]; exact nI_clamp (by decide)
        refine lv_tableIn (off := 164) (tgt := 184) hx hb dX3_count_20 (by decide +kernel) (by decide +kernel) (by decide +kernel) (by decide) ?_
        refine lv_aload_n hx hb dX3_count_184 rfl (lv_at hl 0 rfl) ?_
        refine va_get (D := G.1) (ci := 3) (v := .ref (b 0)) (C := RX3) (T := TX3) (N := 5) hx hb hts hinX3 hown hK.1 hP 0 rfl rfl 4 (by decide) wk10 (fun _ h9 => h9) rfl dX3_count_185 ?_
        refine va_get (D := G.1) (ci := 1) (v := .int (nI pl)) (C := RX1) (T := TX1) (N := 2) hx hb hts hinX1 hown hK.1 hP 26 rfl rfl 1 (by decide) wk11 (fun _ h9 => h9) rfl dX3_count_188 ?_
        exact hret _ _ _ (by simp only [cnC, cnS, if_pos c_1_1, if_neg htw, hxk]) dX3_count_191
      · rw [he₀] at hl
        refine qtop (y := nI 15) he₀ ?_
        have hxk : ix x = 15 := by rw [he₀]; exact nI_clamp (by decide)
        refine lv_tableIn (off := 172) (tgt := 192) hx hb dX3_count_20 (by decide +kernel) (by decide +kernel) (by decide +kernel) (by decide) ?_
        refine lv_aload_n hx hb dX3_count_192 rfl (lv_at hl 0 rfl) ?_
        refine va_get (D := G.1) (ci := 3) (v := .ref (h 0)) (C := RX3) (T := TX3) (N := 5) hx hb hts hinX3 hown hK.1 hP 0 rfl rfl 2 (by decide) wk12 (fun _ h9 => h9) rfl dX3_count_193 ?_
        refine va_get (D := G.1) (ci := 0) (v := .int (nI ln)) (C := RX0) (T := TX0) (N := 3) hx hb hts hinX0 hown hK.1 hP 23 rfl rfl 2 (by decide) wk13 (fun _ h9 => h9) rfl dX3_count_196 ?_
        exact hret _ _ _ (by simp only [cnC, cnS, if_pos c_1_1, if_neg htw, hxk]) dX3_count_199
  · refine lv_iload_n hx hb dX3_count_4 rfl (lv_at hl 1 rfl) ?_
    refine lv_iconst (v := 4) hx hb dX3_count_5 (by decide) ?_
    refine lv_icmp_ge (tgt := 19) hx hb dX3_count_6 (by decide) (fun c_6_3 => ?_) (fun c_6_3 => ?_)
    · refine lv_iload_n hx hb dX3_count_19 rfl (lv_at hl 1 rfl) ?_
      by_cases htw : x.toInt < 4 ∨ 15 < x.toInt
      · refine lv_tableOut (tgt := 200) hx hb dX3_count_20 htw (by decide) ?_
        refine lv_ldc (v := (-100002)) hx hb hown wk14 dX3_count_200 ?_
        exact hret _ _ _ (by simp only [cnC, cnS, if_neg c_1_1, if_pos c_6_3, if_pos htw]) dX3_count_202
      · obtain ⟨k₀, hk₁, hk₀, he₀⟩ := sw_4 htw
        rcases (show k₀ = 4 ∨ k₀ = 5 ∨ k₀ = 6 ∨ k₀ = 7 ∨ k₀ = 8 ∨ k₀ = 9 ∨ k₀ = 10 ∨ k₀ = 11 ∨ k₀ = 12 ∨ k₀ = 13 ∨ k₀ = 14 ∨ k₀ = 15 by omega) with rfl | rfl | rfl | rfl | rfl | rfl | rfl | rfl | rfl | rfl | rfl | rfl
        · rw [he₀] at hl
          refine qtop (y := nI 4) he₀ ?_
          have hxk : ix x = 4 := by rw [he₀]; exact nI_clamp (by decide)
          refine lv_tableIn (off := 64) (tgt := 84) hx hb dX3_count_20 (by decide +kernel) (by decide +kernel) (by decide +kernel) (by decide) ?_
          refine lv_aload_n hx hb dX3_count_84 rfl (lv_at hl 0 rfl) ?_
          refine va_get (D := G.1) (ci := 3) (v := .ref (t 0)) (C := RX3) (T := TX3) (N := 5) hx hb hts hinX3 hown hK.1 hP 0 rfl rfl 0 (by decide) wk1 (fun _ h9 => h9) rfl dX3_count_85 ?_
          refine va_get (D := G.1) (ci := 2) (v := .int (T 10 0)) (C := RX2) (T := TX2) (N := 13) hx hb hts hinX2 hown hK.1 hP 1 rfl rfl 10 (by decide) wk3 (fun _ h9 => h9) rfl dX3_count_88 ?_
          refine lv_if_eq (tgt := 98) hx hb dX3_count_91 (by decide) (fun c_91_4 => ?_) (fun c_91_4 => ?_)
          · refine lv_iconst (v := 0) hx hb dX3_count_98 (by decide) ?_
            exact hret _ _ _ (by simp only [cnC, cnS, if_neg c_1_1, if_pos c_6_3, if_neg htw, hxk, if_pos c_91_4]) dX3_count_99
          · refine lv_iconst (v := 1) hx hb dX3_count_94 (by decide) ?_
            refine lv_goto (tgt := 99) hx hb dX3_count_95 (by decide) ?_
            exact hret _ _ _ (by simp only [cnC, cnS, if_neg c_1_1, if_pos c_6_3, if_neg htw, hxk, if_neg c_91_4]) dX3_count_99
        · rw [he₀] at hl
          refine qtop (y := nI 5) he₀ ?_
          have hxk : ix x = 5 := by rw [he₀]; exact nI_clamp (by decide)
          refine lv_tableIn (off := 80) (tgt := 100) hx hb dX3_count_20 (by decide +kernel) (by decide +kernel) (by decide +kernel) (by decide) ?_
          refine lv_aload_n hx hb dX3_count_100 rfl (lv_at hl 0 rfl) ?_
          refine va_get (D := G.1) (ci := 3) (v := .ref (t 0)) (C := RX3) (T := TX3) (N := 5) hx hb hts hinX3 hown hK.1 hP 0 rfl rfl 0 (by decide) wk1 (fun _ h9 => h9) rfl dX3_count_101 ?_
          refine va_get (D := G.1) (ci := 2) (v := .int (T 10 1)) (C := RX2) (T := TX2) (N := 13) hx hb hts hinX2 hown hK.1 hP 1 rfl rfl 11 (by decide) wk4 (fun _ h9 => h9) rfl dX3_count_104 ?_
          exact hret _ _ _ (by simp only [cnC, cnS, if_neg c_1_1, if_pos c_6_3, if_neg htw, hxk]) dX3_count_107
        · rw [he₀] at hl
          refine qtop (y := nI 6) he₀ ?_
          have hxk : ix x = 6 := by rw [he₀]; exact nI_clamp (by decide)
          refine lv_tableIn (off := 88) (tgt := 108) hx hb dX3_count_20 (by decide +kernel) (by decide +kernel) (by decide +kernel) (by decide) ?_
          refine lv_aload_n hx hb dX3_count_108 rfl (lv_at hl 0 rfl) ?_
          refine va_get (D := G.1) (ci := 3) (v := .ref (t 0)) (C := RX3) (T := TX3) (N := 5) hx hb hts hinX3 hown hK.1 hP 0 rfl rfl 0 (by decide) wk1 (fun _ h9 => h9) rfl dX3_count_109 ?_
          refine cPV (As := []) (rest := []) ⟨hx, hb, hml, hown, hts⟩ (c_X2_highestBid l G t T) (cwV 0 hts gX3_count_X2_highestBid rfl rfl rfl (by decide +kernel) ⟨Nat.le_of_ble_eq_true rfl, Nat.le_of_ble_eq_true rfl⟩) hK (hP.sub (ws' := tw G t T) [1, 2, 3, 4, 5, 6, 7, 8, 9, 10, 11] rfl) 0 (ci := 2) rfl rfl rfl rfl rfl hl.1 (Nat.le_of_ble_eq_true rfl) dX3_count_112 ⟨Nat.le_of_ble_eq_true rfl, Nat.le_of_ble_eq_true rfl⟩ ?_
          exact hret _ _ _ (by simp only [cnC, cnS, if_neg c_1_1, if_pos c_6_3, if_neg htw, hxk]) dX3_count_115
        · rw [he₀] at hl
          refine qtop (y := nI 7) he₀ ?_
          have hxk : ix x = 7 := by rw [he₀]; exact nI_clamp (by decide)
          refine lv_tableIn (off := 96) (tgt := 116) hx hb dX3_count_20 (by decide +kernel) (by decide +kernel) (by decide +kernel) (by decide) ?_
          refine lv_aload_n hx hb dX3_count_116 rfl (lv_at hl 0 rfl) ?_
          refine va_get (D := G.1) (ci := 3) (v := .ref (t 0)) (C := RX3) (T := TX3) (N := 5) hx hb hts hinX3 hown hK.1 hP 0 rfl rfl 0 (by decide) wk1 (fun _ h9 => h9) rfl dX3_count_117 ?_
          refine cPV (As := []) (rest := []) ⟨hx, hb, hml, hown, hts⟩ (c_X2_leastBid l G t T) (cwV 0 hts gX3_count_X2_leastBid rfl rfl rfl (by decide +kernel) ⟨Nat.le_of_ble_eq_true rfl, Nat.le_of_ble_eq_true rfl⟩) hK (hP.sub (ws' := tw G t T) [1, 2, 3, 4, 5, 6, 7, 8, 9, 10, 11] rfl) 0 (ci := 2) rfl rfl rfl rfl rfl hl.1 (Nat.le_of_ble_eq_true rfl) dX3_count_120 ⟨Nat.le_of_ble_eq_true rfl, Nat.le_of_ble_eq_true rfl⟩ ?_
          exact hret _ _ _ (by simp only [cnC, cnS, if_neg c_1_1, if_pos c_6_3, if_neg htw, hxk]) dX3_count_123
        · rw [he₀] at hl
          refine qtop (y := nI 8) he₀ ?_
          have hxk : ix x = 8 := by rw [he₀]; exact nI_clamp (by decide)
          refine lv_tableIn (off := 104) (tgt := 124) hx hb dX3_count_20 (by decide +kernel) (by decide +kernel) (by decide +kernel) (by decide) ?_
          refine lv_aload_n hx hb dX3_count_124 rfl (lv_at hl 0 rfl) ?_
          refine va_get (D := G.1) (ci := 3) (v := .ref (t 0)) (C := RX3) (T := TX3) (N := 5) hx hb hts hinX3 hown hK.1 hP 0 rfl rfl 0 (by decide) wk1 (fun _ h9 => h9) rfl dX3_count_125 ?_
          refine cPV (As := []) (rest := []) ⟨hx, hb, hml, hown, hts⟩ (c_X2_playersLeft l G t T) (cwV 0 hts gX3_count_X2_playersLeft rfl rfl rfl (by decide +kernel) ⟨Nat.le_of_ble_eq_true rfl, Nat.le_of_ble_eq_true rfl⟩) hK (hP.sub (ws' := tw G t T) [1, 2, 3, 4, 5, 6, 7, 8, 9, 10, 11] rfl) 0 (ci := 2) rfl rfl rfl rfl rfl hl.1 (Nat.le_of_ble_eq_true rfl) dX3_count_128 ⟨Nat.le_of_ble_eq_true rfl, Nat.le_of_ble_eq_true rfl⟩ ?_
          exact hret _ _ _ (by simp only [cnC, cnS, if_neg c_1_1, if_pos c_6_3, if_neg htw, hxk]) dX3_count_131
        · rw [he₀] at hl
          refine qtop (y := nI 9) he₀ ?_
          have hxk : ix x = 9 := by rw [he₀]; exact nI_clamp (by decide)
          refine lv_tableIn (off := 112) (tgt := 132) hx hb dX3_count_20 (by decide +kernel) (by decide +kernel) (by decide +kernel) (by decide) ?_
          refine lv_aload_n hx hb dX3_count_132 rfl (lv_at hl 0 rfl) ?_
          refine va_get (D := G.1) (ci := 3) (v := .ref (t 0)) (C := RX3) (T := TX3) (N := 5) hx hb hts hinX3 hown hK.1 hP 0 rfl rfl 0 (by decide) wk1 (fun _ h9 => h9) rfl dX3_count_133 ?_
          refine va_get (D := G.1) (ci := 2) (v := .int (T 10 2)) (C := RX2) (T := TX2) (N := 13) hx hb hts hinX2 hown hK.1 hP 1 rfl rfl 12 (by decide) wk5 (fun _ h9 => h9) rfl dX3_count_136 ?_
          exact hret _ _ _ (by simp only [cnC, cnS, if_neg c_1_1, if_pos c_6_3, if_neg htw, hxk]) dX3_count_139
        · rw [he₀] at hl
          refine qtop (y := nI 10) he₀ ?_
          have hxk : ix x = 10 := by rw [he₀]; exact nI_clamp (by decide)
          refine lv_tableIn (off := 120) (tgt := 140) hx hb dX3_count_20 (by decide +kernel) (by decide +kernel) (by decide +kernel) (by decide) ?_
          refine lv_aload_n hx hb dX3_count_140 rfl (lv_at hl 0 rfl) ?_
          refine va_get (D := G.1) (ci := 3) (v := .ref (t 0)) (C := RX3) (T := TX3) (N := 5) hx hb hts hinX3 hown hK.1 hP 0 rfl rfl 0 (by decide) wk1 (fun _ h9 => h9) rfl dX3_count_141 ?_
          refine va_get (D := G.1) (ci := 2) (v := .ref (t 3)) (C := RX2) (T := TX2) (N := 13) hx hb hts hinX2 hown hK.1 hP 1 rfl rfl 2 (by decide) wk6 (fun _ h9 => h9) rfl dX3_count_144 ?_
          refine cPS (As := [.ref (t 3)]) (rest := []) ⟨hx, hb, hml, hown, hts⟩ (c_X3_sum l G (t 3) (T 2)) (cwS 1 hts gX3_count_X3_sum rfl rfl rfl (by decide +kernel) ⟨Nat.le_of_ble_eq_true rfl, Nat.le_of_ble_eq_true rfl⟩) hK (hP.sub (ws' := [(t 3, .inl (gI G, 5, .inl (T 2)))]) [4] rfl) rfl rfl hl.1 (Nat.le_of_ble_eq_true rfl) dX3_count_147 ⟨Nat.le_of_ble_eq_true rfl, Nat.le_of_ble_eq_true rfl⟩ ?_
          exact hret _ _ _ (by simp only [cnC, cnS, if_neg c_1_1, if_pos c_6_3, if_neg htw, hxk]) dX3_count_150
        · rw [he₀] at hl
          refine qtop (y := nI 11) he₀ ?_
          have hxk : ix x = 11 := by rw [he₀]; exact nI_clamp (by decide)
          refine lv_tableIn (off := 131) (tgt := 151) hx hb dX3_count_20 (by decide +kernel) (by decide +kernel) (by decide +kernel) (by decide) ?_
          refine lv_aload_n hx hb dX3_count_151 rfl (lv_at hl 0 rfl) ?_
          refine va_get (D := G.1) (ci := 3) (v := .ref (t 0)) (C := RX3) (T := TX3) (N := 5) hx hb hts hinX3 hown hK.1 hP 0 rfl rfl 0 (by decide) wk1 (fun _ h9 => h9) rfl dX3_count_152 ?_
          refine va_get (D := G.1) (ci := 2) (v := .ref (t 8)) (C := RX2) (T := TX2) (N := 13) hx hb hts hinX2 hown hK.1 hP 1 rfl rfl 7 (by decide) wk7 (fun _ h9 => h9) rfl dX3_count_155 ?_
          refine cPS (As := [.ref (t 8)]) (rest := []) ⟨hx, hb, hml, hown, hts⟩ (c_X3_sum l G (t 8) (T 7)) (cwS 1 hts gX3_count_X3_sum rfl rfl rfl (by decide +kernel) ⟨Nat.le_of_ble_eq_true rfl, Nat.le_of_ble_eq_true rfl⟩) hK (hP.sub (ws' := [(t 8, .inl (gI G, 5, .inl (T 7)))]) [9] rfl) rfl rfl hl.1 (Nat.le_of_ble_eq_true rfl) dX3_count_158 ⟨Nat.le_of_ble_eq_true rfl, Nat.le_of_ble_eq_true rfl⟩ ?_
          exact hret _ _ _ (by simp only [cnC, cnS, if_neg c_1_1, if_pos c_6_3, if_neg htw, hxk]) dX3_count_161
        · rw [he₀] at hl
          refine qtop (y := nI 12) he₀ ?_
          have hxk : ix x = 12 := by rw [he₀]; exact nI_clamp (by decide)
          refine lv_tableIn (off := 142) (tgt := 162) hx hb dX3_count_20 (by decide +kernel) (by decide +kernel) (by decide +kernel) (by decide) ?_
          refine lv_aload_n hx hb dX3_count_162 rfl (lv_at hl 0 rfl) ?_
          refine va_get (D := G.1) (ci := 3) (v := .ref (t 0)) (C := RX3) (T := TX3) (N := 5) hx hb hts hinX3 hown hK.1 hP 0 rfl rfl 0 (by decide) wk1 (fun _ h9 => h9) rfl dX3_count_163 ?_
          refine va_get (D := G.1) (ci := 2) (v := .ref (t 9)) (C := RX2) (T := TX2) (N := 13) hx hb hts hinX2 hown hK.1 hP 1 rfl rfl 8 (by decide) wk8 (fun _ h9 => h9) rfl dX3_count_166 ?_
          refine cPS (As := [.ref (t 9)]) (rest := []) ⟨hx, hb, hml, hown, hts⟩ (c_X3_sum l G (t 9) (T 8)) (cwS 1 hts gX3_count_X3_sum rfl rfl rfl (by decide +kernel) ⟨Nat.le_of_ble_eq_true rfl, Nat.le_of_ble_eq_true rfl⟩) hK (hP.sub (ws' := [(t 9, .inl (gI G, 5, .inl (T 8)))]) [10] rfl) rfl rfl hl.1 (Nat.le_of_ble_eq_true rfl) dX3_count_169 ⟨Nat.le_of_ble_eq_true rfl, Nat.le_of_ble_eq_true rfl⟩ ?_
          exact hret _ _ _ (by simp only [cnC, cnS, if_neg c_1_1, if_pos c_6_3, if_neg htw, hxk]) dX3_count_172
        · rw [he₀] at hl
          refine qtop (y := nI 13) he₀ ?_
          have hxk : ix x = 13 := by rw [he₀]; exact nI_clamp (by decide)
          refine lv_tableIn (off := 153) (tgt := 173) hx hb dX3_count_20 (by decide +kernel) (by decide +kernel) (by decide +kernel) (by decide) ?_
          refine lv_aload_n hx hb dX3_count_173 rfl (lv_at hl 0 rfl) ?_
          refine va_get (D := G.1) (ci := 3) (v := .ref (t 0)) (C := RX3) (T := TX3) (N := 5) hx hb hts hinX3 hown hK.1 hP 0 rfl rfl 0 (by decide) wk1 (fun _ h9 => h9) rfl dX3_count_174 ?_
          refine va_get (D := G.1) (ci := 2) (v := .ref (t 2)) (C := RX2) (T := TX2) (N := 13) hx hb hts hinX2 hown hK.1 hP 1 rfl rfl 1 (by decide) wk9 (fun _ h9 => h9) rfl dX3_count_177 ?_
          refine cPS (As := [.ref (t 2)]) (rest := []) ⟨hx, hb, hml, hown, hts⟩ (c_X3_sum l G (t 2) (T 1)) (cwS 1 hts gX3_count_X3_sum rfl rfl rfl (by decide +kernel) ⟨Nat.le_of_ble_eq_true rfl, Nat.le_of_ble_eq_true rfl⟩) hK (hP.sub (ws' := [(t 2, .inl (gI G, 5, .inl (T 1)))]) [3] rfl) rfl rfl hl.1 (Nat.le_of_ble_eq_true rfl) dX3_count_180 ⟨Nat.le_of_ble_eq_true rfl, Nat.le_of_ble_eq_true rfl⟩ ?_
          exact hret _ _ _ (by simp only [cnC, cnS, if_neg c_1_1, if_pos c_6_3, if_neg htw, hxk]) dX3_count_183
        · rw [he₀] at hl
          refine qtop (y := nI 14) he₀ ?_
          have hxk : ix x = 14 := by rw [he₀]; exact nI_clamp (by decide)
          refine lv_tableIn (off := 164) (tgt := 184) hx hb dX3_count_20 (by decide +kernel) (by decide +kernel) (by decide +kernel) (by decide) ?_
          refine lv_aload_n hx hb dX3_count_184 rfl (lv_at hl 0 rfl) ?_
          refine va_get (D := G.1) (ci := 3) (v := .ref (b 0)) (C := RX3) (T := TX3) (N := 5) hx hb hts hinX3 hown hK.1 hP 0 rfl rfl 4 (by decide) wk10 (fun _ h9 => h9) rfl dX3_count_185 ?_
          refine va_get (D := G.1) (ci := 1) (v := .int (nI pl)) (C := RX1) (T := TX1) (N := 2) hx hb hts hinX1 hown hK.1 hP 26 rfl rfl 1 (by decide) wk11 (fun _ h9 => h9) rfl dX3_count_188 ?_
          exact hret _ _ _ (by simp only [cnC, cnS, if_neg c_1_1, if_pos c_6_3, if_neg htw, hxk]) dX3_count_191
        · rw [he₀] at hl
          refine qtop (y := nI 15) he₀ ?_
          have hxk : ix x = 15 := by rw [he₀]; exact nI_clamp (by decide)
          refine lv_tableIn (off := 172) (tgt := 192) hx hb dX3_count_20 (by decide +kernel) (by decide +kernel) (by decide +kernel) (by decide) ?_
          refine lv_aload_n hx hb dX3_count_192 rfl (lv_at hl 0 rfl) ?_
          refine va_get (D := G.1) (ci := 3) (v := .ref (h 0)) (C := RX3) (T := TX3) (N := 5) hx hb hts hinX3 hown hK.1 hP 0 rfl rfl 2 (by decide) wk12 (fun _ h9 => h9) rfl dX3_count_193 ?_
          refine va_get (D := G.1) (ci := 0) (v := .int (nI ln)) (C := RX0) (T := TX0) (N := 3) hx hb hts hinX0 hown hK.1 hP 23 rfl rfl 2 (by decide) wk13 (fun _ h9 => h9) rfl dX3_count_196 ?_
          exact hret _ _ _ (by simp only [cnC, cnS, if_neg c_1_1, if_pos c_6_3, if_neg htw, hxk]) dX3_count_199
    · obtain ⟨j, hj, hej⟩ := x_lt (N := 4) (by decide) c_1_1 (Int32.not_le.mp c_6_3)
      rw [hej] at hl
      have hxj : ix x = j := by rw [hej]; exact nI_clamp (by omega)
      refine lv_aload_n hx hb dX3_count_9 rfl (lv_at hl 0 rfl) ?_
      refine va_get (D := G.1) (ci := 3) (v := .ref (t 0)) (C := RX3) (T := TX3) (N := 5) hx hb hts hinX3 hown hK.1 hP 0 rfl rfl 0 (by decide) wk1 (fun _ h9 => h9) rfl dX3_count_10 ?_
      refine va_get (D := G.1) (ci := 2) (v := .ref (t 1)) (C := RX2) (T := TX2) (N := 13) hx hb hts hinX2 hown hK.1 hP 1 rfl rfl 0 (by decide) wk2 (fun _ h9 => h9) rfl dX3_count_13 ?_
      refine lv_iload_n hx hb dX3_count_16 rfl (lv_at hl 1 rfl) ?_
      refine qild hx hb hK.1 hP 2 0 rfl rfl (k := j) (nI_clamp (by omega)) (vp_in_nI (by omega) (by decide)) dX3_count_17 ?_
      exact hret _ _ _ (by simp only [cnC, cnS, if_neg c_1_1, if_neg c_6_3, hxj]) dX3_count_18
set_option maxHeartbeats 4000000 in
set_option maxRecDepth 100000 in
theorem c_X3_tryRounds (l : Launch) (G : qG) (o : Nat) (t r h : Nat → Nat) (g : Nat) (b : Nat → Nat) (T U : Tb) (hT : is01 (T 10 0)) (nx ln : Nat) (hnx : nx < 100000) (hln : ln ≤ 6) (ad : Ad) (S : Nat → Tb) (ps : Nat → Int32) (hps : chs ps) (pl : Nat) (hpl : pl ≤ 60) (k : Nat) (hk : k ≤ 100) (sz : Nat) : Met l yX3_tryRounds wsX3_tryRounds { frames := 6, cells := 0, slots := 0, locals := 129 } (PW G sz [.ref o, .int (nI k)] (ow G o t r h g b T U nx ln (hd ad 0 6) (hd ad 6 2) ps pl ++ pool G ad S)) (QV (S := Unit) G sz (ow G o t r h g b T U nx ln (hd ad 0 6) (hd ad 6 2) ps pl ++ pool G ad S) (fun _ => True) (fun _ => ows G o t r h g b (T, tyL k T, nx, ln, ad, S, ps, pl))) 0 0 (va_A (ow G o t r h g b T U nx ln (hd ad 0 6) (hd ad 6 2) ps pl ++ pool G ad S) sz) := by
  refine MV.of' (by decide) rfl (Nat.le_of_ble_eq_true rfl) ?_
  intro p e s m below meth c hx hb hml hown hts hK hsz hP A hAe hA hD hS hmn Q hret ls hl
  have hown : s.vm.findClass RX3 = some m.cls := hown
  have hl : lv_has ls 3 [(0, .ref o), (1, .int (nI k))] := hl
  have wk1 := hts (Cond.fieldLink RX3 16 "TurnBids" "trial" "LTurnBids$Table;") (List.mem_of_getElem? (i := 1) rfl)
  have wk2 := hts (Cond.fieldLink RX3 10 "TurnBids" "table" "LTurnBids$Table;") (List.mem_of_getElem? (i := 2) rfl)
  have wk3 := hts (Cond.methodLink RX3 163 yX2_copyFrom) (List.mem_of_getElem? (i := 3) rfl)
  have wk25 := hts (Cond.methodLink RX3 94 yX2_playRound) (List.mem_of_getElem? (i := 25) rfl)
  have hinX3 : ∀ w ∈ wsX30, w ∈ wsX3_tryRounds := fun _ h => (List.mem_cons_of_mem _ (List.mem_append_left _ (List.mem_append_right _ h)))
  refine lv_aload_n hx hb dX3_tryRounds_0 rfl (lv_at hl 0 rfl) ?_
  refine va_get (D := G.1) (ci := 3) (v := .ref (r 0)) (C := RX3) (T := TX3) (N := 5) hx hb hts hinX3 hown hK.1 hP 0 rfl rfl 1 (by decide) wk1 (fun _ h9 => h9) rfl dX3_tryRounds_1 ?_
  refine lv_aload_n hx hb dX3_tryRounds_4 rfl (lv_at hl 0 rfl) ?_
  refine va_get (D := G.1) (ci := 3) (v := .ref (t 0)) (C := RX3) (T := TX3) (N := 5) hx hb hts hinX3 hown hK.1 hP 0 rfl rfl 0 (by decide) wk2 (fun _ h9 => h9) rfl dX3_tryRounds_5 ?_
  refine cQV (wr := [(o, .inr (3, [.ref (t 0), .ref (r 0), .ref (h 0), .ref g, .ref (b 0)]))] ++ hw G h nx ln (hd ad 0 6) ++ [(g, .inl (gR G, 2, .inr (.inr (.inr (.inr (hd ad 6 2))))))] ++ pw G b ps (nI pl)) (wc := tw G r U ++ tw G t T) (As := [.ref (t 0)]) (rest := []) ⟨hx, hb, hml, hown, hts⟩ (c_X2_copyFrom l G r t U T hT _) (cwV 1 hts gX3_tryRounds_X2_copyFrom rfl rfl rfl (by decide +kernel) ⟨Nat.le_of_ble_eq_true rfl, Nat.le_of_ble_eq_true rfl⟩) hK hP hD hS hA [12, 13, 14, 15, 16, 17, 18, 19, 20, 21, 22, 1, 2, 3, 4, 5, 6, 7, 8, 9, 10, 11] [0, 23, 24, 25, 26, 27] rfl rfl (by decide) (by decide) (by decide) 0 (ci := 2) rfl rfl rfl rfl rfl hl.1 (Nat.le_of_ble_eq_true rfl) dX3_tryRounds_8 ⟨Nat.le_of_ble_eq_true rfl, Nat.le_of_ble_eq_true rfl⟩ (fun u_1 H locs hr_1 hP hD hS => ?_)
  have hP : va_P G.1 vwCl (ow G o t r h g b T T nx ln (hd ad 0 6) (hd ad 6 2) ps pl ++ pool G ad S) H := hP.part (cx := ow G o t r h g b T T nx ln (hd ad 0 6) (hd ad 6 2) ps pl) [0, 17, 18, 19, 20, 21, 22, 23, 24, 25, 26, 27, 6, 7, 8, 9, 10, 11, 12, 13, 14, 15, 16, 1, 2, 3, 4, 5] rfl
  have hD : va_D A (ow G o t r h g b T T nx ln (hd ad 0 6) (hd ad 6 2) ps pl ++ pool G ad S) := hD.part (cx := ow G o t r h g b T T nx ln (hd ad 0 6) (hd ad 6 2) ps pl) [0, 17, 18, 19, 20, 21, 22, 23, 24, 25, 26, 27, 6, 7, 8, 9, 10, 11, 12, 13, 14, 15, 16, 1, 2, 3, 4, 5] (by decide) rfl
  refine lv_iconst (v := 0) hx hb dX3_tryRounds_11 (by decide) ?_
  refine lv_istore_n (lv' := [(2, .int 0), (0, .ref o), (1, .int (nI k))]) hx hb dX3_tryRounds_12 rfl hl (by decide) rfl (fun ls hl => ?_)
  have L13 : ∀ (f i : Nat)  (V : Tb), i + f = k → tyL f V = tyL k T → ∀ (H : Heap) (locs : List Loc), va_P G.1 vwCl (ow G o t r h g b T V nx ln (hd ad 0 6) (hd ad 6 2) ps pl ++ pool G ad S) H → va_D A (ow G o t r h g b T V nx ln (hd ad 0 6) (hd ad 6 2) ps pl ++ pool G ad S) → va_S A s.heap H locs → ∀ ls : Array Slot, lv_has ls 3 [(2, .int (nI i)), (0, .ref o), (1, .int (nI k))] → W p l e { frames := 6, cells := 0, slots := 0, locals := 129 } s m ([.ref o, .int (nI k)] : List Value).toArray below meth c H locs 0 0 Q (F0 m 13 ls []) := by
    intro f
    induction f with
    | zero =>
      intro i V hi hv13 H locs hP hD hS ls hl
      have hN : i = k := by omega
      refine lv_iload_n hx hb dX3_tryRounds_13 rfl (lv_at hl 0 rfl) ?_
      refine lv_iload_n hx hb dX3_tryRounds_14 rfl (lv_at hl 2 rfl) ?_
      refine lv_icmp_ge (tgt := 32) hx hb dX3_tryRounds_15 (by decide) (fun _ => ?_) (fun c_9 => absurd (nI_le (a := k) (b := i) (by omega) (by omega)) c_9)
      have hf9 : (T, V, nx, ln, ad, S, ps, pl) = (T, tyL k T, nx, ln, ad, S, ps, pl) := by rw [← hv13]; simp only [Nat.sub_zero, tyL]
      exact hret _ _ _ _ () trivial (by rw [← hf9]; exact hP) (by rw [← hf9]; exact hD) hS dX3_tryRounds_32
    | succ f ih =>
      intro i V hi hv13 H locs hP hD hS ls hl
      have hlt : i < k := by omega
      refine lv_iload_n hx hb dX3_tryRounds_13 rfl (lv_at hl 0 rfl) ?_
      refine lv_iload_n hx hb dX3_tryRounds_14 rfl (lv_at hl 2 rfl) ?_
      refine lv_icmp_ge (tgt := 32) hx hb dX3_tryRounds_15 (by decide) (fun c_9 => absurd c_9 (nI_ge (b := k) hlt (by omega))) (fun _ => ?_)
      refine lv_aload_n hx hb dX3_tryRounds_18 rfl (lv_at hl 1 rfl) ?_
      refine va_get (D := G.1) (ci := 3) (v := .ref (r 0)) (C := RX3) (T := TX3) (N := 5) hx hb hts hinX3 hown hK.1 hP 0 rfl rfl 1 (by decide) wk1 (fun _ h9 => h9) rfl dX3_tryRounds_19 ?_
      refine cQI (wr := [(o, .inr (3, [.ref (t 0), .ref (r 0), .ref (h 0), .ref g, .ref (b 0)]))] ++ tw G t T ++ hw G h nx ln (hd ad 0 6) ++ [(g, .inl (gR G, 2, .inr (.inr (.inr (.inr (hd ad 6 2))))))] ++ pw G b ps (nI pl)) (wc := tw G r V) (As := []) (rest := []) ⟨hx, hb, hml, hown, hts⟩ (c_X2_playRound l G r V _) (cwV 0 hts gX3_tryRounds_X2_playRound rfl rfl rfl (by decide +kernel) ⟨Nat.le_of_ble_eq_true rfl, Nat.le_of_ble_eq_true rfl⟩) hK hP hD hS hA [12, 13, 14, 15, 16, 17, 18, 19, 20, 21, 22] [0, 1, 2, 3, 4, 5, 6, 7, 8, 9, 10, 11, 23, 24, 25, 26, 27] rfl rfl (by decide) (by decide) (by decide) 0 (ci := 2) rfl rfl rfl rfl rfl hl.1 (Nat.le_of_ble_eq_true rfl) dX3_tryRounds_22 ⟨Nat.le_of_ble_eq_true rfl, Nat.le_of_ble_eq_true rfl⟩ (fun r_2 u_2 H locs hr_2 hP hD hS => ?_)
      have hP : va_P G.1 vwCl (ow G o t r h g b T ((prR V).1) nx ln (hd ad 0 6) (hd ad 6 2) ps pl ++ pool G ad S) H := hP.part (cx := ow G o t r h g b T ((prR V).1) nx ln (hd ad 0 6) (hd ad 6 2) ps pl) [0, 1, 2, 3, 4, 5, 6, 7, 8, 9, 10, 11, 17, 18, 19, 20, 21, 22, 23, 24, 25, 26, 27, 12, 13, 14, 15, 16] rfl
      have hD : va_D A (ow G o t r h g b T ((prR V).1) nx ln (hd ad 0 6) (hd ad 6 2) ps pl ++ pool G ad S) := hD.part (cx := ow G o t r h g b T ((prR V).1) nx ln (hd ad 0 6) (hd ad 6 2) ps pl) [0, 1, 2, 3, 4, 5, 6, 7, 8, 9, 10, 11, 17, 18, 19, 20, 21, 22, 23, 24, 25, 26, 27, 12, 13, 14, 15, 16] (by decide) rfl
      have hr_2 : r_2 = nI (prR V).2 := hr_2
      subst hr_2
      refine lv_pop hx hb dX3_tryRounds_25 rfl ?_
      refine lv_iinc (v := nI (i + 1)) (lv' := [(2, .int (nI (i + 1))), (0, .ref o), (1, .int (nI k))]) hx hb dX3_tryRounds_26 hl (k := 0) rfl (nI_1 _) (by decide) rfl (fun ls hl => ?_)
      refine lv_goto (tgt := 13) hx hb dX3_tryRounds_29 (by decide) ?_
      exact ih (i + 1)  ((prR V).1) (by omega) (by rw [← hv13]; simp only [Nat.sub_zero, tyL]) _ _ hP hD hS ls (lv_sub hl [0, 1, 2] rfl)
  exact L13 (k - 0) 0  T (by omega) (by simp only [Nat.sub_zero]) _ _ hP hD hS ls (lv_sub hl [0, 1, 2] rfl)
set_option maxHeartbeats 4000000 in
set_option maxRecDepth 100000 in
theorem c_X3_ifFinished (l : Launch) (G : qG) (o : Nat) (t r h : Nat → Nat) (g : Nat) (b : Nat → Nat) (T U : Tb) (hT : is01 (T 10 0)) (nx ln : Nat) (hnx : nx < 100000) (hln : ln ≤ 6) (ad : Ad) (S : Nat → Tb) (ps : Nat → Int32) (hps : chs ps) (pl : Nat) (hpl : pl ≤ 60) (x w : Int32) (sz : Nat) : Met l yX3_ifFinished wsX3_ifFinished { frames := 7, cells := 0, slots := 0, locals := 151 } (PW G sz [.ref o, .int x, .int w] (ow G o t r h g b T U nx ln (hd ad 0 6) (hd ad 6 2) ps pl ++ pool G ad S)) (QI (S := CS) G sz (ow G o t r h g b T U nx ln (hd ad 0 6) (hd ad 6 2) ps pl ++ pool G ad S) (fun r₀ c₀ => r₀ = (if erI x w = 0 then ifC T (tyL 1 T) x w else erI x w) ∧ ∃ u : Nat → Nat, c₀ = (if erI x w = 0 then (T, tyL 1 T, nx, ln, ad, S, ps, pl) else (T, U, nx, ln, ad, S, ps, pl))) (fun c₀ => ows G o t r h g b c₀)) 0 0 (va_A (ow G o t r h g b T U nx ln (hd ad 0 6) (hd ad 6 2) ps pl ++ pool G ad S) sz) := by
  refine MI.of' (by decide) rfl (Nat.le_of_ble_eq_true rfl) ?_
  intro p e s m below meth c hx hb hml hown hts hK hsz hP A hAe hA hD hS Q hret ls hl
  have hown : s.vm.findClass RX3 = some m.cls := hown
  have hl : lv_has ls 3 [(0, .ref o), (1, .int x), (2, .int w)] := hl
  have wk1 := hts (Cond.constant RX3 56 (-100001)) (List.mem_of_getElem? (i := 1) rfl)
  have wk2 := hts (Cond.constant RX3 37 (-100002)) (List.mem_of_getElem? (i := 2) rfl)
  have wk3 := hts (Cond.fieldLink RX3 16 "TurnBids" "trial" "LTurnBids$Table;") (List.mem_of_getElem? (i := 3) rfl)
  have wk4 := hts (Cond.fieldLink RX3 121 "TurnBids$Table" "places" "[I") (List.mem_of_getElem? (i := 4) rfl)
  have wk5 := hts (Cond.fieldLink RX3 130 "TurnBids$Table" "paid" "[I") (List.mem_of_getElem? (i := 5) rfl)
  have wk6 := hts (Cond.fieldLink RX3 10 "TurnBids" "table" "LTurnBids$Table;") (List.mem_of_getElem? (i := 6) rfl)
  have wk7 := hts (Cond.fieldLink RX3 133 "TurnBids$Table" "taken" "[I") (List.mem_of_getElem? (i := 7) rfl)
  have wk8 := hts (Cond.fieldLink RX3 62 "TurnBids$Table" "coins" "[I") (List.mem_of_getElem? (i := 8) rfl)
  have wk9 := hts (Cond.methodLink RX3 52 yX3_isPlayer) (List.mem_of_getElem? (i := 9) rfl)
  have wk13 := hts (Cond.methodLink RX3 159 yX3_tryRounds) (List.mem_of_getElem? (i := 13) rfl)
  have hinX3 : ∀ w ∈ wsX30, w ∈ wsX3_ifFinished := fun _ h => (List.mem_cons_of_mem _ (List.mem_append_left _ (List.mem_append_right _ h)))
  have hinX2 : ∀ w ∈ wsX20, w ∈ wsX3_ifFinished := fun _ h => (List.mem_cons_of_mem _ (List.mem_append_right _ h))
  refine lv_iload_n hx hb dX3_ifFinished_0 rfl (lv_at hl 1 rfl) ?_
  refine cPS (As := [.int x]) (rest := []) ⟨hx, hb, hml, hown, hts⟩ (c_X3_isPlayer l G x) (cwS 1 hts gX3_ifFinished_X3_isPlayer rfl rfl rfl (by decide +kernel) ⟨Nat.le_of_ble_eq_true rfl, Nat.le_of_ble_eq_true rfl⟩) hK (fun k q h => by simp at h) rfl rfl hl.1 (Nat.le_of_ble_eq_true rfl) dX3_ifFinished_1 ⟨Nat.le_of_ble_eq_true rfl, Nat.le_of_ble_eq_true rfl⟩ ?_
  refine lv_if_ne (tgt := 10) hx hb dX3_ifFinished_4 (by decide) (fun c_4_1 => ?_) (fun c_4_1 => ?_)
  · have hin_2 := isPb_in c_4_1
    refine lv_iload_n hx hb dX3_ifFinished_10 rfl (lv_at hl 2 rfl) ?_
    refine lv_if_lt (tgt := 19) hx hb dX3_ifFinished_11 (by decide) (fun c_11_3 => ?_) (fun c_11_3 => ?_)
    · refine lv_ldc (v := (-100002)) hx hb hown wk2 dX3_ifFinished_19 ?_
      exact hret _ _ _ _ _ (T, U, nx, ln, ad, S, ps, pl) ⟨by simp only [if_true, if_false, lz_o, lz_1, lz_2, lz_5, lz_3, lz_4, erI, ifC, lz_n10, lz_n20, lz_n21, if_neg c_4_1, if_pos c_11_3], (fun _ => 0), by simp only [if_true, if_false, lz_o, lz_1, lz_2, lz_5, lz_3, lz_4, erI, ifC, lz_n10, lz_n20, lz_n21, if_neg c_4_1, if_pos c_11_3]⟩ hP hD hS dX3_ifFinished_21
    · refine lv_iload_n hx hb dX3_ifFinished_14 rfl (lv_at hl 2 rfl) ?_
      refine lv_iconst (v := 3) hx hb dX3_ifFinished_15 (by decide) ?_
      refine lv_icmp_le (tgt := 22) hx hb dX3_ifFinished_16 (by decide) (fun c_16_4 => ?_) (fun c_16_4 => ?_)
      · refine lv_aload_n hx hb dX3_ifFinished_22 rfl (lv_at hl 0 rfl) ?_
        refine lv_iconst (v := 1) hx hb dX3_ifFinished_23 (by decide) ?_
        refine cAV (As := [.int 1]) (rest := []) ⟨hx, hb, hml, hown, hts⟩ (c_X3_tryRounds l G o t r h g b T U hT nx ln hnx hln ad S ps hps pl hpl 1 (by omega) _) (cwV 1 hts gX3_ifFinished_X3_tryRounds rfl rfl rfl (by decide +kernel) ⟨Nat.le_of_ble_eq_true rfl, Nat.le_of_ble_eq_true rfl⟩) hK hP hD hS hA 0 (ci := 3) rfl rfl rfl rfl rfl hl.1 (Nat.le_of_ble_eq_true rfl) dX3_ifFinished_24 ⟨Nat.le_of_ble_eq_true rfl, Nat.le_of_ble_eq_true rfl⟩ (fun u_5 H locs hr_5 hP hD hS => ?_)
        have hP : va_P G.1 vwCl (ow G o t r h g b T (tyL 1 T) nx ln (hd ad 0 6) (hd ad 6 2) ps pl ++ pool G ad S) H := hP
        have hD : va_D A (ow G o t r h g b T (tyL 1 T) nx ln (hd ad 0 6) (hd ad 6 2) ps pl ++ pool G ad S) := hD
        refine lv_iload_n hx hb dX3_ifFinished_27 rfl (lv_at hl 2 rfl) ?_
        by_cases htw : w.toInt < 0 ∨ 2 < w.toInt
        · refine lv_tableOut (tgt := 106) hx hb dX3_ifFinished_28 htw (by decide) ?_
          refine lv_aload_n hx hb dX3_ifFinished_106 rfl (lv_at hl 0 rfl) ?_
          refine va_get (D := G.1) (ci := 3) (v := .ref (r 0)) (C := RX3) (T := TX3) (N := 5) hx hb hts hinX3 hown hK.1 hP 0 rfl rfl 1 (by decide) wk3 (fun _ h9 => h9) rfl dX3_ifFinished_107 ?_
          refine va_get (D := G.1) (ci := 2) (v := .ref (r 3)) (C := RX2) (T := TX2) (N := 13) hx hb hts hinX2 hown hK.1 hP 12 rfl rfl 2 (by decide) wk8 (fun _ h9 => h9) rfl dX3_ifFinished_110 ?_
          refine lv_iload_n hx hb dX3_ifFinished_113 rfl (lv_at hl 1 rfl) ?_
          refine qild hx hb hK.1 hP 15 0 rfl rfl (k := ix x) rfl (by assumption) dX3_ifFinished_114 ?_
          refine lv_aload_n hx hb dX3_ifFinished_115 rfl (lv_at hl 0 rfl) ?_
          refine va_get (D := G.1) (ci := 3) (v := .ref (t 0)) (C := RX3) (T := TX3) (N := 5) hx hb hts hinX3 hown hK.1 hP 0 rfl rfl 0 (by decide) wk6 (fun _ h9 => h9) rfl dX3_ifFinished_116 ?_
          refine va_get (D := G.1) (ci := 2) (v := .ref (t 3)) (C := RX2) (T := TX2) (N := 13) hx hb hts hinX2 hown hK.1 hP 1 rfl rfl 2 (by decide) wk8 (fun _ h9 => h9) rfl dX3_ifFinished_119 ?_
          refine lv_iload_n hx hb dX3_ifFinished_122 rfl (lv_at hl 1 rfl) ?_
          refine qild hx hb hK.1 hP 4 0 rfl rfl (k := ix x) rfl (by assumption) dX3_ifFinished_123 ?_
          refine lv_isub hx hb dX3_ifFinished_124 ?_
          exact hret _ _ _ _ _ (T, tyL 1 T, nx, ln, ad, S, ps, pl) ⟨by simp only [if_true, if_false, lz_o, lz_1, lz_2, lz_5, lz_3, lz_4, erI, ifC, lz_n10, lz_n20, lz_n21, if_neg c_4_1, if_neg c_11_3, if_pos c_16_4, if_pos htw], (fun _ => 0), by simp only [if_true, if_false, lz_o, lz_1, lz_2, lz_5, lz_3, lz_4, erI, ifC, lz_n10, lz_n20, lz_n21, if_neg c_4_1, if_neg c_11_3, if_pos c_16_4, if_pos htw]⟩ hP hD hS dX3_ifFinished_125
        · obtain ⟨k₀, hk₀, he₀⟩ := sw_in (N := 2) htw (by decide)
          rcases (show k₀ = 0 ∨ k₀ = 1 ∨ k₀ = 2 by omega) with rfl | rfl | rfl
          · rw [he₀] at hl
            refine qtop (y := nI 0) he₀ ?_
            have hxk : ix w = 0 := by rw [he₀]; exact nI_clamp (by decide)
            refine lv_tableIn (off := 28) (tgt := 56) hx hb dX3_ifFinished_28 (by decide +kernel) (by decide +kernel) (by decide +kernel) (by decide) ?_
            refine lv_aload_n hx hb dX3_ifFinished_56 rfl (lv_at hl 0 rfl) ?_
            refine va_get (D := G.1) (ci := 3) (v := .ref (r 0)) (C := RX3) (T := TX3) (N := 5) hx hb hts hinX3 hown hK.1 hP 0 rfl rfl 1 (by decide) wk3 (fun _ h9 => h9) rfl dX3_ifFinished_57 ?_
            refine va_get (D := G.1) (ci := 2) (v := .ref (r 5)) (C := RX2) (T := TX2) (N := 13) hx hb hts hinX2 hown hK.1 hP 12 rfl rfl 4 (by decide) wk4 (fun _ h9 => h9) rfl dX3_ifFinished_60 ?_
            refine lv_iload_n hx hb dX3_ifFinished_63 rfl (lv_at hl 1 rfl) ?_
            refine qild hx hb hK.1 hP 17 0 rfl rfl (k := ix x) rfl (by assumption) dX3_ifFinished_64 ?_
            exact hret _ _ _ _ _ (T, tyL 1 T, nx, ln, ad, S, ps, pl) ⟨by simp only [if_true, if_false, lz_o, lz_1, lz_2, lz_5, lz_3, lz_4, erI, ifC, lz_n10, lz_n20, lz_n21, if_neg c_4_1, if_neg c_11_3, if_pos c_16_4, if_neg htw, hxk], (fun _ => 0), by simp only [if_true, if_false, lz_o, lz_1, lz_2, lz_5, lz_3, lz_4, erI, ifC, lz_n10, lz_n20, lz_n21, if_neg c_4_1, if_neg c_11_3, if_pos c_16_4, if_neg htw, hxk]⟩ hP hD hS dX3_ifFinished_65
          · rw [he₀] at hl
            refine qtop (y := nI 1) he₀ ?_
            have hxk : ix w = 1 := by rw [he₀]; exact nI_clamp (by decide)
            refine lv_tableIn (off := 38) (tgt := 66) hx hb dX3_ifFinished_28 (by decide +kernel) (by decide +kernel) (by decide +kernel) (by decide) ?_
            refine lv_aload_n hx hb dX3_ifFinished_66 rfl (lv_at hl 0 rfl) ?_
            refine va_get (D := G.1) (ci := 3) (v := .ref (r 0)) (C := RX3) (T := TX3) (N := 5) hx hb hts hinX3 hown hK.1 hP 0 rfl rfl 1 (by decide) wk3 (fun _ h9 => h9) rfl dX3_ifFinished_67 ?_
            refine va_get (D := G.1) (ci := 2) (v := .ref (r 8)) (C := RX2) (T := TX2) (N := 13) hx hb hts hinX2 hown hK.1 hP 12 rfl rfl 7 (by decide) wk5 (fun _ h9 => h9) rfl dX3_ifFinished_70 ?_
            refine lv_iload_n hx hb dX3_ifFinished_73 rfl (lv_at hl 1 rfl) ?_
            refine qild hx hb hK.1 hP 20 0 rfl rfl (k := ix x) rfl (by assumption) dX3_ifFinished_74 ?_
            refine lv_aload_n hx hb dX3_ifFinished_75 rfl (lv_at hl 0 rfl) ?_
            refine va_get (D := G.1) (ci := 3) (v := .ref (t 0)) (C := RX3) (T := TX3) (N := 5) hx hb hts hinX3 hown hK.1 hP 0 rfl rfl 0 (by decide) wk6 (fun _ h9 => h9) rfl dX3_ifFinished_76 ?_
            refine va_get (D := G.1) (ci := 2) (v := .ref (t 8)) (C := RX2) (T := TX2) (N := 13) hx hb hts hinX2 hown hK.1 hP 1 rfl rfl 7 (by decide) wk5 (fun _ h9 => h9) rfl dX3_ifFinished_79 ?_
            refine lv_iload_n hx hb dX3_ifFinished_82 rfl (lv_at hl 1 rfl) ?_
            refine qild hx hb hK.1 hP 9 0 rfl rfl (k := ix x) rfl (by assumption) dX3_ifFinished_83 ?_
            refine lv_isub hx hb dX3_ifFinished_84 ?_
            exact hret _ _ _ _ _ (T, tyL 1 T, nx, ln, ad, S, ps, pl) ⟨by simp only [if_true, if_false, lz_o, lz_1, lz_2, lz_5, lz_3, lz_4, erI, ifC, lz_n10, lz_n20, lz_n21, if_neg c_4_1, if_neg c_11_3, if_pos c_16_4, if_neg htw, hxk], (fun _ => 0), by simp only [if_true, if_false, lz_o, lz_1, lz_2, lz_5, lz_3, lz_4, erI, ifC, lz_n10, lz_n20, lz_n21, if_neg c_4_1, if_neg c_11_3, if_pos c_16_4, if_neg htw, hxk]⟩ hP hD hS dX3_ifFinished_85
          · rw [he₀] at hl
            refine qtop (y := nI 2) he₀ ?_
            have hxk : ix w = 2 := by rw [he₀]; exact nI_clamp (by decide)
            refine lv_tableIn (off := 58) (tgt := 86) hx hb dX3_ifFinished_28 (by decide +kernel) (by decide +kernel) (by decide +kernel) (by decide) ?_
            refine lv_aload_n hx hb dX3_ifFinished_86 rfl (lv_at hl 0 rfl) ?_
            refine va_get (D := G.1) (ci := 3) (v := .ref (r 0)) (C := RX3) (T := TX3) (N := 5) hx hb hts hinX3 hown hK.1 hP 0 rfl rfl 1 (by decide) wk3 (fun _ h9 => h9) rfl dX3_ifFinished_87 ?_
            refine va_get (D := G.1) (ci := 2) (v := .ref (r 9)) (C := RX2) (T := TX2) (N := 13) hx hb hts hinX2 hown hK.1 hP 12 rfl rfl 8 (by decide) wk7 (fun _ h9 => h9) rfl dX3_ifFinished_90 ?_
            refine lv_iload_n hx hb dX3_ifFinished_93 rfl (lv_at hl 1 rfl) ?_
            refine qild hx hb hK.1 hP 21 0 rfl rfl (k := ix x) rfl (by assumption) dX3_ifFinished_94 ?_
            refine lv_aload_n hx hb dX3_ifFinished_95 rfl (lv_at hl 0 rfl) ?_
            refine va_get (D := G.1) (ci := 3) (v := .ref (t 0)) (C := RX3) (T := TX3) (N := 5) hx hb hts hinX3 hown hK.1 hP 0 rfl rfl 0 (by decide) wk6 (fun _ h9 => h9) rfl dX3_ifFinished_96 ?_
            refine va_get (D := G.1) (ci := 2) (v := .ref (t 9)) (C := RX2) (T := TX2) (N := 13) hx hb hts hinX2 hown hK.1 hP 1 rfl rfl 8 (by decide) wk7 (fun _ h9 => h9) rfl dX3_ifFinished_99 ?_
            refine lv_iload_n hx hb dX3_ifFinished_102 rfl (lv_at hl 1 rfl) ?_
            refine qild hx hb hK.1 hP 10 0 rfl rfl (k := ix x) rfl (by assumption) dX3_ifFinished_103 ?_
            refine lv_isub hx hb dX3_ifFinished_104 ?_
            exact hret _ _ _ _ _ (T, tyL 1 T, nx, ln, ad, S, ps, pl) ⟨by simp only [if_true, if_false, lz_o, lz_1, lz_2, lz_5, lz_3, lz_4, erI, ifC, lz_n10, lz_n20, lz_n21, if_neg c_4_1, if_neg c_11_3, if_pos c_16_4, if_neg htw, hxk], (fun _ => 0), by simp only [if_true, if_false, lz_o, lz_1, lz_2, lz_5, lz_3, lz_4, erI, ifC, lz_n10, lz_n20, lz_n21, if_neg c_4_1, if_neg c_11_3, if_pos c_16_4, if_neg htw, hxk]⟩ hP hD hS dX3_ifFinished_105
      · refine lv_ldc (v := (-100002)) hx hb hown wk2 dX3_ifFinished_19 ?_
        exact hret _ _ _ _ _ (T, U, nx, ln, ad, S, ps, pl) ⟨by simp only [if_true, if_false, lz_o, lz_1, lz_2, lz_5, lz_3, lz_4, erI, ifC, lz_n10, lz_n20, lz_n21, if_neg c_4_1, if_neg c_11_3, if_neg c_16_4], (fun _ => 0), by simp only [if_true, if_false, lz_o, lz_1, lz_2, lz_5, lz_3, lz_4, erI, ifC, lz_n10, lz_n20, lz_n21, if_neg c_4_1, if_neg c_11_3, if_neg c_16_4]⟩ hP hD hS dX3_ifFinished_21
  · refine lv_ldc (v := (-100001)) hx hb hown wk1 dX3_ifFinished_7 ?_
    exact hret _ _ _ _ _ (T, U, nx, ln, ad, S, ps, pl) ⟨by simp only [if_true, if_false, lz_o, lz_1, lz_2, lz_5, lz_3, lz_4, erI, ifC, lz_n10, lz_n20, lz_n21, if_pos c_4_1], (fun _ => 0), by simp only [if_true, if_false, lz_o, lz_1, lz_2, lz_5, lz_3, lz_4, erI, ifC, lz_n10, lz_n20, lz_n21, if_pos c_4_1]⟩ hP hD hS dX3_ifFinished_9
set_option maxHeartbeats 4000000 in
set_option maxRecDepth 100000 in
theorem c_X3_movesLeft (l : Launch) (G : qG) (o : Nat) (t r h : Nat → Nat) (g : Nat) (b : Nat → Nat) (T U : Tb) (hT : is01 (T 10 0)) (nx ln : Nat) (hnx : nx < 100000) (hln : ln ≤ 6) (ad : Ad) (S : Nat → Tb) (ps : Nat → Int32) (hps : chs ps) (pl : Nat) (hpl : pl ≤ 60)  (sz : Nat) : Met l yX3_movesLeft wsX3_movesLeft { frames := 6, cells := 0, slots := 0, locals := 129 } (PW G sz [.ref o] (ow G o t r h g b T U nx ln (hd ad 0 6) (hd ad 6 2) ps pl ++ pool G ad S)) (QI (S := CS) G sz (ow G o t r h g b T U nx ln (hd ad 0 6) (hd ad 6 2) ps pl ++ pool G ad S) (fun r₀ c₀ => r₀ = (if T 10 0 = 0 then (-100005) else nI (prR T).2) ∧ ∃ u : Nat → Nat, c₀ = (if T 10 0 = 0 then (T, U, nx, ln, ad, S, ps, pl) else (T, (prR T).1, nx, ln, ad, S, ps, pl))) (fun c₀ => ows G o t r h g b c₀)) 0 0 (va_A (ow G o t r h g b T U nx ln (hd ad 0 6) (hd ad 6 2) ps pl ++ pool G ad S) sz) := by
  refine MI.of' (by decide) rfl (Nat.le_of_ble_eq_true rfl) ?_
  intro p e s m below meth c hx hb hml hown hts hK hsz hP A hAe hA hD hS Q hret ls hl
  have hown : s.vm.findClass RX3 = some m.cls := hown
  have hl : lv_has ls 1 [(0, .ref o)] := hl
  have wk1 := hts (Cond.fieldLink RX3 10 "TurnBids" "table" "LTurnBids$Table;") (List.mem_of_getElem? (i := 1) rfl)
  have wk2 := hts (Cond.fieldLink RX3 74 "TurnBids$Table" "underWay" "Z") (List.mem_of_getElem? (i := 2) rfl)
  have wk3 := hts (Cond.constant RX3 61 (-100005)) (List.mem_of_getElem? (i := 3) rfl)
  have wk4 := hts (Cond.fieldLink RX3 16 "TurnBids" "trial" "LTurnBids$Table;") (List.mem_of_getElem? (i := 4) rfl)
  have wk5 := hts (Cond.methodLink RX3 163 yX2_copyFrom) (List.mem_of_getElem? (i := 5) rfl)
  have wk27 := hts (Cond.methodLink RX3 94 yX2_playRound) (List.mem_of_getElem? (i := 27) rfl)
  have hinX3 : ∀ w ∈ wsX30, w ∈ wsX3_movesLeft := fun _ h => (List.mem_cons_of_mem _ (List.mem_append_left _ (List.mem_append_right _ h)))
  have hinX2 : ∀ w ∈ wsX20, w ∈ wsX3_movesLeft := fun _ h => (List.mem_cons_of_mem _ (List.mem_append_right _ h))
  refine lv_aload_n hx hb dX3_movesLeft_0 rfl (lv_at hl 0 rfl) ?_
  refine va_get (D := G.1) (ci := 3) (v := .ref (t 0)) (C := RX3) (T := TX3) (N := 5) hx hb hts hinX3 hown hK.1 hP 0 rfl rfl 0 (by decide) wk1 (fun _ h9 => h9) rfl dX3_movesLeft_1 ?_
  refine va_get (D := G.1) (ci := 2) (v := .int (T 10 0)) (C := RX2) (T := TX2) (N := 13) hx hb hts hinX2 hown hK.1 hP 1 rfl rfl 10 (by decide) wk2 (fun _ h9 => h9) rfl dX3_movesLeft_4 ?_
  refine lv_if_ne (tgt := 13) hx hb dX3_movesLeft_7 (by decide) (fun c_7_1 => ?_) (fun c_7_1 => ?_)
  · refine lv_aload_n hx hb dX3_movesLeft_13 rfl (lv_at hl 0 rfl) ?_
    refine va_get (D := G.1) (ci := 3) (v := .ref (r 0)) (C := RX3) (T := TX3) (N := 5) hx hb hts hinX3 hown hK.1 hP 0 rfl rfl 1 (by decide) wk4 (fun _ h9 => h9) rfl dX3_movesLeft_14 ?_
    refine lv_aload_n hx hb dX3_movesLeft_17 rfl (lv_at hl 0 rfl) ?_
    refine va_get (D := G.1) (ci := 3) (v := .ref (t 0)) (C := RX3) (T := TX3) (N := 5) hx hb hts hinX3 hown hK.1 hP 0 rfl rfl 0 (by decide) wk1 (fun _ h9 => h9) rfl dX3_movesLeft_18 ?_
    refine cQV (wr := [(o, .inr (3, [.ref (t 0), .ref (r 0), .ref (h 0), .ref g, .ref (b 0)]))] ++ hw G h nx ln (hd ad 0 6) ++ [(g, .inl (gR G, 2, .inr (.inr (.inr (.inr (hd ad 6 2))))))] ++ pw G b ps (nI pl)) (wc := tw G r U ++ tw G t T) (As := [.ref (t 0)]) (rest := []) ⟨hx, hb, hml, hown, hts⟩ (c_X2_copyFrom l G r t U T hT _) (cwV 1 hts gX3_movesLeft_X2_copyFrom rfl rfl rfl (by decide +kernel) ⟨Nat.le_of_ble_eq_true rfl, Nat.le_of_ble_eq_true rfl⟩) hK hP hD hS hA [12, 13, 14, 15, 16, 17, 18, 19, 20, 21, 22, 1, 2, 3, 4, 5, 6, 7, 8, 9, 10, 11] [0, 23, 24, 25, 26, 27] rfl rfl (by decide) (by decide) (by decide) 0 (ci := 2) rfl rfl rfl rfl rfl hl.1 (Nat.le_of_ble_eq_true rfl) dX3_movesLeft_21 ⟨Nat.le_of_ble_eq_true rfl, Nat.le_of_ble_eq_true rfl⟩ (fun u_2 H locs hr_2 hP hD hS => ?_)
    have hP : va_P G.1 vwCl (ow G o t r h g b T T nx ln (hd ad 0 6) (hd ad 6 2) ps pl ++ pool G ad S) H := hP.part (cx := ow G o t r h g b T T nx ln (hd ad 0 6) (hd ad 6 2) ps pl) [0, 17, 18, 19, 20, 21, 22, 23, 24, 25, 26, 27, 6, 7, 8, 9, 10, 11, 12, 13, 14, 15, 16, 1, 2, 3, 4, 5] rfl
    have hD : va_D A (ow G o t r h g b T T nx ln (hd ad 0 6) (hd ad 6 2) ps pl ++ pool G ad S) := hD.part (cx := ow G o t r h g b T T nx ln (hd ad 0 6) (hd ad 6 2) ps pl) [0, 17, 18, 19, 20, 21, 22, 23, 24, 25, 26, 27, 6, 7, 8, 9, 10, 11, 12, 13, 14, 15, 16, 1, 2, 3, 4, 5] (by decide) rfl
    refine lv_aload_n hx hb dX3_movesLeft_24 rfl (lv_at hl 0 rfl) ?_
    refine va_get (D := G.1) (ci := 3) (v := .ref (r 0)) (C := RX3) (T := TX3) (N := 5) hx hb hts hinX3 hown hK.1 hP 0 rfl rfl 1 (by decide) wk4 (fun _ h9 => h9) rfl dX3_movesLeft_25 ?_
    refine cQI (wr := [(o, .inr (3, [.ref (t 0), .ref (r 0), .ref (h 0), .ref g, .ref (b 0)]))] ++ tw G t T ++ hw G h nx ln (hd ad 0 6) ++ [(g, .inl (gR G, 2, .inr (.inr (.inr (.inr (hd ad 6 2))))))] ++ pw G b ps (nI pl)) (wc := tw G r T) (As := []) (rest := []) ⟨hx, hb, hml, hown, hts⟩ (c_X2_playRound l G r T _) (cwV 0 hts gX3_movesLeft_X2_playRound rfl rfl rfl (by decide +kernel) ⟨Nat.le_of_ble_eq_true rfl, Nat.le_of_ble_eq_true rfl⟩) hK hP hD hS hA [12, 13, 14, 15, 16, 17, 18, 19, 20, 21, 22] [0, 1, 2, 3, 4, 5, 6, 7, 8, 9, 10, 11, 23, 24, 25, 26, 27] rfl rfl (by decide) (by decide) (by decide) 0 (ci := 2) rfl rfl rfl rfl rfl hl.1 (Nat.le_of_ble_eq_true rfl) dX3_movesLeft_28 ⟨Nat.le_of_ble_eq_true rfl, Nat.le_of_ble_eq_true rfl⟩ (fun r_3 u_3 H locs hr_3 hP hD hS => ?_)
    have hP : va_P G.1 vwCl (ow G o t r h g b T ((prR T).1) nx ln (hd ad 0 6) (hd ad 6 2) ps pl ++ pool G ad S) H := hP.part (cx := ow G o t r h g b T ((prR T).1) nx ln (hd ad 0 6) (hd ad 6 2) ps pl) [0, 1, 2, 3, 4, 5, 6, 7, 8, 9, 10, 11, 17, 18, 19, 20, 21, 22, 23, 24, 25, 26, 27, 12, 13, 14, 15, 16] rfl
    have hD : va_D A (ow G o t r h g b T ((prR T).1) nx ln (hd ad 0 6) (hd ad 6 2) ps pl ++ pool G ad S) := hD.part (cx := ow G o t r h g b T ((prR T).1) nx ln (hd ad 0 6) (hd ad 6 2) ps pl) [0, 1, 2, 3, 4, 5, 6, 7, 8, 9, 10, 11, 17, 18, 19, 20, 21, 22, 23, 24, 25, 26, 27, 12, 13, 14, 15, 16] (by decide) rfl
    have hr_3 : r_3 = nI (prR T).2 := hr_3
    subst hr_3
    exact hret _ _ _ _ _ (T, (prR T).1, nx, ln, ad, S, ps, pl) ⟨by simp only [if_true, if_false, lz_o, lz_1, lz_2, lz_5, lz_3, lz_4, if_neg c_7_1], (fun _ => 0), by simp only [if_true, if_false, lz_o, lz_1, lz_2, lz_5, lz_3, lz_4, if_neg c_7_1]⟩ hP hD hS dX3_movesLeft_31
  · refine lv_ldc (v := (-100005)) hx hb hown wk3 dX3_movesLeft_10 ?_
    exact hret _ _ _ _ _ (T, U, nx, ln, ad, S, ps, pl) ⟨by simp only [if_true, if_false, lz_o, lz_1, lz_2, lz_5, lz_3, lz_4, if_pos c_7_1], (fun _ => 0), by simp only [if_true, if_false, lz_o, lz_1, lz_2, lz_5, lz_3, lz_4, if_pos c_7_1]⟩ hP hD hS dX3_movesLeft_12
set_option maxHeartbeats 4000000 in
set_option maxRecDepth 100000 in
theorem c_X3_wipe (l : Launch) (G : qG) (o : Nat) (t r h : Nat → Nat) (g : Nat) (b : Nat → Nat) (T U : Tb) (hT : is01 (T 10 0)) (nx ln : Nat) (hnx : nx < 100000) (hln : ln ≤ 6) (ad : Ad) (S : Nat → Tb) (ps : Nat → Int32) (hps : chs ps) (pl : Nat) (hpl : pl ≤ 60)  (sz : Nat) : Met l yX3_wipe wsX3_wipe { frames := 0, cells := 0, slots := 0, locals := 0 } (PW G sz [.ref o] (ow G o t r h g b T U nx ln (hd ad 0 6) (hd ad 6 2) ps pl ++ pool G ad S)) (QI (S := CS) G sz (ow G o t r h g b T U nx ln (hd ad 0 6) (hd ad 6 2) ps pl ++ pool G ad S) (fun r₀ c₀ => r₀ = (nI pl) ∧ ∃ u : Nat → Nat, c₀ = ((T, U, nx, ln, ad, S, ps, 0))) (fun c₀ => ows G o t r h g b c₀)) 0 0 (va_A (ow G o t r h g b T U nx ln (hd ad 0 6) (hd ad 6 2) ps pl ++ pool G ad S) sz) := by
  refine MI.of' (by decide) rfl (Nat.le_of_ble_eq_true rfl) ?_
  intro p e s m below meth c hx hb hml hown hts hK hsz hP A hAe hA hD hS Q hret ls hl
  have hown : s.vm.findClass RX3 = some m.cls := hown
  have hl : lv_has ls 2 [(0, .ref o)] := hl
  have wk1 := hts (Cond.fieldLink RX3 33 "TurnBids" "pad" "LTurnBids$Pad;") (List.mem_of_getElem? (i := 1) rfl)
  have wk2 := hts (Cond.fieldLink RX3 105 "TurnBids$Pad" "length" "I") (List.mem_of_getElem? (i := 2) rfl)
  have hinX3 : ∀ w ∈ wsX30, w ∈ wsX3_wipe := fun _ h => (List.mem_cons_of_mem _ (List.mem_append_left _ (List.mem_append_right _ h)))
  have hinX1 : ∀ w ∈ wsX10, w ∈ wsX3_wipe := fun _ h => (List.mem_cons_of_mem _ (List.mem_append_right _ h))
  refine lv_aload_n hx hb dX3_wipe_0 rfl (lv_at hl 0 rfl) ?_
  refine va_get (D := G.1) (ci := 3) (v := .ref (b 0)) (C := RX3) (T := TX3) (N := 5) hx hb hts hinX3 hown hK.1 hP 0 rfl rfl 4 (by decide) wk1 (fun _ h9 => h9) rfl dX3_wipe_1 ?_
  refine va_get (D := G.1) (ci := 1) (v := .int (nI pl)) (C := RX1) (T := TX1) (N := 2) hx hb hts hinX1 hown hK.1 hP 26 rfl rfl 1 (by decide) wk2 (fun _ h9 => h9) rfl dX3_wipe_4 ?_
  refine lv_istore_n (lv' := [(1, .int (nI pl)), (0, .ref o)]) hx hb dX3_wipe_7 rfl hl (by decide) rfl (fun ls hl => ?_)
  refine lv_aload_n hx hb dX3_wipe_8 rfl (lv_at hl 1 rfl) ?_
  refine va_get (D := G.1) (ci := 3) (v := .ref (b 0)) (C := RX3) (T := TX3) (N := 5) hx hb hts hinX3 hown hK.1 hP 0 rfl rfl 4 (by decide) wk1 (fun _ h9 => h9) rfl dX3_wipe_9 ?_
  refine lv_iconst (v := 0) hx hb dX3_wipe_12 (by decide) ?_
  refine va_put (D := G.1) (ci := 1) (v := .int 0) (ty := .int) (C := RX1) (T := TX1) (N := 2) hx hb hts hinX1 tyX1 tyX1_ok nmX1 hown hK.1 hP hD hS 26 rfl rfl 1 (by decide) wk2 (fun _ h9 => h9) rfl (by decide +kernel) rfl rfl (Nat.le_of_ble_eq_true rfl) dX3_wipe_13 (fun H locs hP hD hS => ?_)
  have hP : va_P G.1 vwCl (ow G o t r h g b T U nx ln (hd ad 0 6) (hd ad 6 2) ps 0 ++ pool G ad S) H := hP
  have hD : va_D A (ow G o t r h g b T U nx ln (hd ad 0 6) (hd ad 6 2) ps 0 ++ pool G ad S) := hD
  refine lv_iload_n hx hb dX3_wipe_16 rfl (lv_at hl 0 rfl) ?_
  exact hret _ _ _ _ _ (T, U, nx, ln, ad, S, ps, 0) ⟨by rfl, (fun _ => 0), by rfl⟩ hP hD hS dX3_wipe_17
set_option maxHeartbeats 4000000 in
set_option maxRecDepth 100000 in
theorem c_X3_coinsBehind (l : Launch) (G : qG) (o : Nat) (t r h : Nat → Nat) (g : Nat) (b : Nat → Nat) (T U : Tb) (hT : is01 (T 10 0)) (nx ln : Nat) (hnx : nx < 100000) (hln : ln ≤ 6) (ad : Ad) (S : Nat → Tb) (ps : Nat → Int32) (hps : chs ps) (pl : Nat) (hpl : pl ≤ 60) (x r₁ : Int32) (sz : Nat) : Met l yX3_coinsBehind wsX3_coinsBehind { frames := 7, cells := 0, slots := 0, locals := 151 } (PW G sz [.ref o, .int x, .int r₁] (ow G o t r h g b T U nx ln (hd ad 0 6) (hd ad 6 2) ps pl ++ pool G ad S)) (QI (S := CS) G sz (ow G o t r h g b T U nx ln (hd ad 0 6) (hd ad 6 2) ps pl ++ pool G ad S) (fun r₀ c₀ => r₀ = (if erM x r₁ = 0 then tyL (ix r₁) T 2 (ix x) else erM x r₁) ∧ ∃ u : Nat → Nat, c₀ = (if erM x r₁ = 0 then (T, tyL (ix r₁) T, nx, ln, ad, S, ps, pl) else (T, U, nx, ln, ad, S, ps, pl))) (fun c₀ => ows G o t r h g b c₀)) 0 0 (va_A (ow G o t r h g b T U nx ln (hd ad 0 6) (hd ad 6 2) ps pl ++ pool G ad S) sz) := by
  refine MI.of' (by decide) rfl (Nat.le_of_ble_eq_true rfl) ?_
  intro p e s m below meth c hx hb hml hown hts hK hsz hP A hAe hA hD hS Q hret ls hl
  have hown : s.vm.findClass RX3 = some m.cls := hown
  have hl : lv_has ls 3 [(0, .ref o), (1, .int x), (2, .int r₁)] := hl
  have wk1 := hts (Cond.constant RX3 56 (-100001)) (List.mem_of_getElem? (i := 1) rfl)
  have wk2 := hts (Cond.constant RX3 37 (-100002)) (List.mem_of_getElem? (i := 2) rfl)
  have wk3 := hts (Cond.fieldLink RX3 16 "TurnBids" "trial" "LTurnBids$Table;") (List.mem_of_getElem? (i := 3) rfl)
  have wk4 := hts (Cond.fieldLink RX3 62 "TurnBids$Table" "coins" "[I") (List.mem_of_getElem? (i := 4) rfl)
  have wk5 := hts (Cond.methodLink RX3 52 yX3_isPlayer) (List.mem_of_getElem? (i := 5) rfl)
  have wk9 := hts (Cond.methodLink RX3 159 yX3_tryRounds) (List.mem_of_getElem? (i := 9) rfl)
  have hinX3 : ∀ w ∈ wsX30, w ∈ wsX3_coinsBehind := fun _ h => (List.mem_cons_of_mem _ (List.mem_append_left _ (List.mem_append_right _ h)))
  have hinX2 : ∀ w ∈ wsX20, w ∈ wsX3_coinsBehind := fun _ h => (List.mem_cons_of_mem _ (List.mem_append_right _ h))
  refine lv_iload_n hx hb dX3_coinsBehind_0 rfl (lv_at hl 1 rfl) ?_
  refine cPS (As := [.int x]) (rest := []) ⟨hx, hb, hml, hown, hts⟩ (c_X3_isPlayer l G x) (cwS 1 hts gX3_coinsBehind_X3_isPlayer rfl rfl rfl (by decide +kernel) ⟨Nat.le_of_ble_eq_true rfl, Nat.le_of_ble_eq_true rfl⟩) hK (fun k q h => by simp at h) rfl rfl hl.1 (Nat.le_of_ble_eq_true rfl) dX3_coinsBehind_1 ⟨Nat.le_of_ble_eq_true rfl, Nat.le_of_ble_eq_true rfl⟩ ?_
  refine lv_if_ne (tgt := 10) hx hb dX3_coinsBehind_4 (by decide) (fun c_4_1 => ?_) (fun c_4_1 => ?_)
  · have hin_2 := isPb_in c_4_1
    refine lv_iload_n hx hb dX3_coinsBehind_10 rfl (lv_at hl 2 rfl) ?_
    refine lv_iconst (v := 1) hx hb dX3_coinsBehind_11 (by decide) ?_
    refine lv_icmp_lt (tgt := 21) hx hb dX3_coinsBehind_12 (by decide) (fun c_12_3 => ?_) (fun c_12_3 => ?_)
    · refine lv_ldc (v := (-100002)) hx hb hown wk2 dX3_coinsBehind_21 ?_
      exact hret _ _ _ _ _ (T, U, nx, ln, ad, S, ps, pl) ⟨by simp only [if_true, if_false, lz_o, lz_1, lz_2, lz_5, lz_3, lz_4, erM, if_neg c_4_1, if_pos c_12_3], (fun _ => 0), by simp only [if_true, if_false, lz_o, lz_1, lz_2, lz_5, lz_3, lz_4, erM, if_neg c_4_1, if_pos c_12_3]⟩ hP hD hS dX3_coinsBehind_23
    · have hr1 := c_12_3
      refine lv_iload_n hx hb dX3_coinsBehind_15 rfl (lv_at hl 2 rfl) ?_
      refine lv_bipush (v := 100) hx hb dX3_coinsBehind_16 (by decide) ?_
      refine lv_icmp_le (tgt := 24) hx hb dX3_coinsBehind_18 (by decide) (fun c_18_4 => ?_) (fun c_18_4 => ?_)
      · obtain ⟨j, hj, hej⟩ := x1_100 hr1 c_18_4
        rw [hej] at hl
        have hxj : ix r₁ = j := by rw [hej]; exact nI_clamp (by omega)
        refine lv_aload_n hx hb dX3_coinsBehind_24 rfl (lv_at hl 0 rfl) ?_
        refine lv_iload_n hx hb dX3_coinsBehind_25 rfl (lv_at hl 2 rfl) ?_
        refine cAV (As := [.int (nI j)]) (rest := []) ⟨hx, hb, hml, hown, hts⟩ (c_X3_tryRounds l G o t r h g b T U hT nx ln hnx hln ad S ps hps pl hpl j (by omega) _) (cwV 1 hts gX3_coinsBehind_X3_tryRounds rfl rfl rfl (by decide +kernel) ⟨Nat.le_of_ble_eq_true rfl, Nat.le_of_ble_eq_true rfl⟩) hK hP hD hS hA 0 (ci := 3) rfl rfl rfl rfl rfl hl.1 (Nat.le_of_ble_eq_true rfl) dX3_coinsBehind_26 ⟨Nat.le_of_ble_eq_true rfl, Nat.le_of_ble_eq_true rfl⟩ (fun u_5 H locs hr_5 hP hD hS => ?_)
        have hP : va_P G.1 vwCl (ow G o t r h g b T (tyL j T) nx ln (hd ad 0 6) (hd ad 6 2) ps pl ++ pool G ad S) H := hP
        have hD : va_D A (ow G o t r h g b T (tyL j T) nx ln (hd ad 0 6) (hd ad 6 2) ps pl ++ pool G ad S) := hD
        refine lv_aload_n hx hb dX3_coinsBehind_29 rfl (lv_at hl 0 rfl) ?_
        refine va_get (D := G.1) (ci := 3) (v := .ref (r 0)) (C := RX3) (T := TX3) (N := 5) hx hb hts hinX3 hown hK.1 hP 0 rfl rfl 1 (by decide) wk3 (fun _ h9 => h9) rfl dX3_coinsBehind_30 ?_
        refine va_get (D := G.1) (ci := 2) (v := .ref (r 3)) (C := RX2) (T := TX2) (N := 13) hx hb hts hinX2 hown hK.1 hP 12 rfl rfl 2 (by decide) wk4 (fun _ h9 => h9) rfl dX3_coinsBehind_33 ?_
        refine lv_iload_n hx hb dX3_coinsBehind_36 rfl (lv_at hl 1 rfl) ?_
        refine qild hx hb hK.1 hP 15 0 rfl rfl (k := ix x) rfl (by assumption) dX3_coinsBehind_37 ?_
        exact hret _ _ _ _ _ (T, tyL j T, nx, ln, ad, S, ps, pl) ⟨by simp only [if_true, if_false, lz_o, lz_1, lz_2, lz_5, lz_3, lz_4, erM, if_neg c_4_1, if_neg c_12_3, if_pos c_18_4, hxj], (fun _ => 0), by simp only [if_true, if_false, lz_o, lz_1, lz_2, lz_5, lz_3, lz_4, erM, if_neg c_4_1, if_neg c_12_3, if_pos c_18_4, hxj]⟩ hP hD hS dX3_coinsBehind_38
      · refine lv_ldc (v := (-100002)) hx hb hown wk2 dX3_coinsBehind_21 ?_
        exact hret _ _ _ _ _ (T, U, nx, ln, ad, S, ps, pl) ⟨by simp only [if_true, if_false, lz_o, lz_1, lz_2, lz_5, lz_3, lz_4, erM, if_neg c_4_1, if_neg c_12_3, if_neg c_18_4], (fun _ => 0), by simp only [if_true, if_false, lz_o, lz_1, lz_2, lz_5, lz_3, lz_4, erM, if_neg c_4_1, if_neg c_12_3, if_neg c_18_4]⟩ hP hD hS dX3_coinsBehind_23
  · refine lv_ldc (v := (-100001)) hx hb hown wk1 dX3_coinsBehind_7 ?_
    exact hret _ _ _ _ _ (T, U, nx, ln, ad, S, ps, pl) ⟨by simp only [if_true, if_false, lz_o, lz_1, lz_2, lz_5, lz_3, lz_4, erM, if_pos c_4_1], (fun _ => 0), by simp only [if_true, if_false, lz_o, lz_1, lz_2, lz_5, lz_3, lz_4, erM, if_pos c_4_1]⟩ hP hD hS dX3_coinsBehind_9
