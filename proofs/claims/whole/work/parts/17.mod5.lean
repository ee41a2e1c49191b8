set_option maxHeartbeats 4000000 in
set_option maxRecDepth 100000 in
theorem c_X4_readPad (l : Launch) (G : qG) (a : Nat → Nat) (z sp pa st sv pd tl : Nat → Int32) (ns spt tm : Int32) (t : Nat) (ht : t ≤ 60)  (sz : Nat) : MI l yX4_readPad wsX4_readPad 3 67 G sz [.ref (a 0)] (mw G a z sp pa st sv pd tl ns (nI t) spt tm) ((rpR pd t tl).1) (mw G a z sp pa st sv pd ((rpR pd t tl).2.2.2) ns (nI t) (nI ((rpR pd t tl).2.1)) (nI ((rpR pd t tl).2.2.1))) := by
  refine MI.ofZ (rpR_nar pd t tl) (by decide) rfl (Nat.le_of_ble_eq_true rfl) ?_
  intro p e s m below meth c hx hb hml hown hts hK hsz hP A hAe hA hD hS Q hret ls hl
  have hown : s.vm.findClass RX4 = some m.cls := hown
  have hl : lv_has ls 2 [(0, .ref (a 0))] := hl
  have wk1 := hts (Cond.fieldLink RX4 121 "TurnBidsModel" "spot" "I") (List.mem_of_getElem? (i := 1) rfl)
  have wk2 := hts (Cond.fieldLink RX4 127 "TurnBidsModel" "toldMany" "I") (List.mem_of_getElem? (i := 2) rfl)
  have wk3 := hts (Cond.fieldLink RX4 117 "TurnBidsModel" "typed" "I") (List.mem_of_getElem? (i := 3) rfl)
  have wk4 := hts (Cond.methodLink RX4 130 yX4_readMove) (List.mem_of_getElem? (i := 4) rfl)
  have wk18 := hts (Cond.methodLink RX4 134 yX4_takes) (List.mem_of_getElem? (i := 18) rfl)
  have hinX4 : ∀ w ∈ wsX40, w ∈ wsX4_readPad := fun _ h => (List.mem_cons_of_mem _ (List.mem_append_right _ h))
  have L15 : ∀ (f : Nat) (g : Int32) (u q : Nat) (y : Nat → Int32), (¬ g = 0 → 62 ≤ u + f) → u ≤ t → 2 * q ≤ u + 1 → rpL pd t f (g, u, q, y) = rpR pd t tl → ∀ (H : Heap) (locs : List Loc), va_P G.1 vwCl (mw G a z sp pa st sv pd y ns (nI t) (nI u) (nI q)) H → va_D A (mw G a z sp pa st sv pd y ns (nI t) (nI u) (nI q)) → va_S A s.heap H locs → ∀ ls : Array Slot, lv_has ls 2 [(1, .int g), (0, .ref (a 0))] → W p l e { frames := 3, cells := 0, slots := 0, locals := 67 } s m ([.ref (a 0)] : List Value).toArray below meth c H locs 0 0 Q (F0 m 15 ls []) := by
    intro f
    induction f with
    | zero =>
      intro g u q y hi hu hq hv H locs hP hD hS ls hl
      refine lv_iload_n hx hb dX4_readPad_15 rfl (lv_at hl 0 rfl) ?_
      refine lv_if_eq (tgt := 55) hx hb dX4_readPad_16 (by decide) (fun c_16_1 => ?_) (fun c_16_1 => ?_)
      · refine lv_iload_n hx hb dX4_readPad_55 rfl (lv_at hl 0 rfl) ?_
        have he : rpR pd t tl = (g, u, q, y) := by rw [← hv]; simp only [rpL, if_pos c_16_1]
        have hP : va_P G.1 vwCl (mw G a z sp pa st sv pd (rpR pd t tl).2.2.2 ns (nI t) (nI (rpR pd t tl).2.1) (nI (rpR pd t tl).2.2.1)) H := by rw [he]; exact hP
        have hD : va_D A (mw G a z sp pa st sv pd (rpR pd t tl).2.2.2 ns (nI t) (nI (rpR pd t tl).2.1) (nI (rpR pd t tl).2.2.1)) := by rw [he]; exact hD
        exact hret _ _ _ _ _ () (by rw [he]) hP hD hS dX4_readPad_56
      · exact absurd (hi c_16_1) (by omega)
    | succ f ih =>
      intro g u q y hi hu hq hv H locs hP hD hS ls hl
      refine lv_iload_n hx hb dX4_readPad_15 rfl (lv_at hl 0 rfl) ?_
      refine lv_if_eq (tgt := 55) hx hb dX4_readPad_16 (by decide) (fun c_16_2 => ?_) (fun c_16_2 => ?_)
      · refine lv_iload_n hx hb dX4_readPad_55 rfl (lv_at hl 0 rfl) ?_
        have he : rpR pd t tl = (g, u, q, y) := by rw [← hv]; simp only [rpL, if_pos c_16_2]
        have hP : va_P G.1 vwCl (mw G a z sp pa st sv pd (rpR pd t tl).2.2.2 ns (nI t) (nI (rpR pd t tl).2.1) (nI (rpR pd t tl).2.2.1)) H := by rw [he]; exact hP
        have hD : va_D A (mw G a z sp pa st sv pd (rpR pd t tl).2.2.2 ns (nI t) (nI (rpR pd t tl).2.1) (nI (rpR pd t tl).2.2.1)) := by rw [he]; exact hD
        exact hret _ _ _ _ _ () (by rw [he]) hP hD hS dX4_readPad_56
      · have hi2 := hi c_16_2
        refine lv_aload_n hx hb dX4_readPad_19 rfl (lv_at hl 1 rfl) ?_
        refine va_get (D := G.1) (ci := 4) (v := .int (nI u)) (C := RX4) (T := TX4) (N := 11) hx hb hts hinX4 hown hK.1 hP 0 rfl rfl 8 (by decide) wk1 (fun _ h9 => h9) rfl dX4_readPad_20 ?_
        refine lv_aload_n hx hb dX4_readPad_23 rfl (lv_at hl 1 rfl) ?_
        refine va_get (D := G.1) (ci := 4) (v := .int (nI t)) (C := RX4) (T := TX4) (N := 11) hx hb hts hinX4 hown hK.1 hP 0 rfl rfl 7 (by decide) wk3 (fun _ h9 => h9) rfl dX4_readPad_24 ?_
        refine lv_icmp_ge (tgt := 55) hx hb dX4_readPad_27 (by decide) (fun c_27_3 => ?_) (fun c_27_3 => ?_)
        · refine lv_iload_n hx hb dX4_readPad_55 rfl (lv_at hl 0 rfl) ?_
          have he : rpR pd t tl = (g, u, q, y) := by rw [← hv]; simp only [rpL, if_neg c_16_2, if_pos c_27_3]
          have hP : va_P G.1 vwCl (mw G a z sp pa st sv pd (rpR pd t tl).2.2.2 ns (nI t) (nI (rpR pd t tl).2.1) (nI (rpR pd t tl).2.2.1)) H := by rw [he]; exact hP
          have hD : va_D A (mw G a z sp pa st sv pd (rpR pd t tl).2.2.2 ns (nI t) (nI (rpR pd t tl).2.1) (nI (rpR pd t tl).2.2.1)) := by rw [he]; exact hD
          exact hret _ _ _ _ _ () (by rw [he]) hP hD hS dX4_readPad_56
        · have hut := nlt_of (by omega) c_27_3
          refine lv_aload_n hx hb dX4_readPad_30 rfl (lv_at hl 1 rfl) ?_
          refine lv_bipush (v := 44) hx hb dX4_readPad_31 (by decide) ?_
          refine cAI (As := [.int 44]) (rest := []) ⟨hx, hb, hml, hown, hts⟩ (c_X4_takes l G a z sp pa st sv pd y ns (nI q) t u (by assumption) (by omega) 44 _) (cwV 1 hts gX4_readPad_X4_takes rfl rfl rfl (by decide +kernel) ⟨Nat.le_of_ble_eq_true rfl, Nat.le_of_ble_eq_true rfl⟩) hK hP hD hS hA 0 (ci := 4) rfl rfl rfl rfl rfl hl.1 (Nat.le_of_ble_eq_true rfl) dX4_readPad_33 ⟨Nat.le_of_ble_eq_true rfl, Nat.le_of_ble_eq_true rfl⟩ (fun r_4 u_4 H locs hr_4 hP hD hS => ?_)
          have hr_4 : r_4 = seB pd u t 44 44 := hr_4
          subst hr_4
          have hP : va_P G.1 vwCl (mw G a z sp pa st sv pd y ns (nI t) (nI (tkS pd u t 44)) (nI q)) H := hP
          have hD : va_D A (mw G a z sp pa st sv pd y ns (nI t) (nI (tkS pd u t 44)) (nI q)) := hD
          refine lv_if_eq (tgt := 50) hx hb dX4_readPad_36 (by decide) (fun c_36_5 => ?_) (fun c_36_5 => ?_)
          · have htk : tkS pd u t 44 = u + 0 := by rw [tkS, if_pos c_36_5]
            rw [htk] at hP hD
            refine lv_iconst (v := 0) hx hb dX4_readPad_50 (by decide) ?_
            refine lv_istore_n (lv' := [(1, .int 0), (0, .ref (a 0))]) hx hb dX4_readPad_51 rfl hl (by decide) rfl (fun ls hl => ?_)
            refine lv_goto (tgt := 15) hx hb dX4_readPad_52 (by decide) ?_
            exact ih 0 (u + 0) q y (fun h => absurd rfl h) (by omega) (by omega) (by rw [← hv]; simp only [rpL, if_neg c_16_2, if_neg c_27_3, if_pos c_36_5]) _ _ hP hD hS ls (lv_sub hl [0, 1] rfl)
          · have htk : tkS pd u t 44 = u + 1 := by rw [tkS, if_neg c_36_5]
            rw [htk] at hP hD
            refine lv_aload_n hx hb dX4_readPad_39 rfl (lv_at hl 1 rfl) ?_
            refine cAI (As := []) (rest := []) ⟨hx, hb, hml, hown, hts⟩ (c_X4_readMove l G a z sp pa st sv pd y ns t (u + 1) q (by assumption) (by omega) (by omega) _) (cwV 0 hts gX4_readPad_X4_readMove rfl rfl rfl (by decide +kernel) ⟨Nat.le_of_ble_eq_true rfl, Nat.le_of_ble_eq_true rfl⟩) hK hP hD hS hA 0 (ci := 4) rfl rfl rfl rfl rfl hl.1 (Nat.le_of_ble_eq_true rfl) dX4_readPad_40 ⟨Nat.le_of_ble_eq_true rfl, Nat.le_of_ble_eq_true rfl⟩ (fun r_6 u_6 H locs hr_6 hP hD hS => ?_)
            have hr_6 : r_6 = (rmS pd t (u + 1) q y).1 := hr_6
            subst hr_6
            have hP : va_P G.1 vwCl (mw G a z sp pa st sv pd ((rmS pd t (u + 1) q y).2.2.2) ns (nI t) (nI ((rmS pd t (u + 1) q y).2.1)) (nI ((rmS pd t (u + 1) q y).2.2.1))) H := hP
            have hD : va_D A (mw G a z sp pa st sv pd ((rmS pd t (u + 1) q y).2.2.2) ns (nI t) (nI ((rmS pd t (u + 1) q y).2.1)) (nI ((rmS pd t (u + 1) q y).2.2.1))) := hD
            refine lv_if_eq (tgt := 50) hx hb dX4_readPad_43 (by decide) (fun c_43_7 => ?_) (fun c_43_7 => ?_)
            · have hk := rmS_k c_43_7
              rw [rmS_1 hk] at hP hD
              refine lv_iconst (v := 0) hx hb dX4_readPad_50 (by decide) ?_
              refine lv_istore_n (lv' := [(1, .int 0), (0, .ref (a 0))]) hx hb dX4_readPad_51 rfl hl (by decide) rfl (fun ls hl => ?_)
              refine lv_goto (tgt := 15) hx hb dX4_readPad_52 (by decide) ?_
              exact ih 0 (u + 1) q y (fun h => absurd rfl h) (by omega) (by omega) (by rw [← hv]; simp only [rpL, if_neg c_16_2, if_neg c_27_3, if_neg c_36_5, if_pos hk]) _ _ hP hD hS ls (lv_sub hl [0, 1] rfl)
            · have hk := rmS_n c_43_7
              rw [rmS_2 hk] at hP hD
              have hrr := rmR_le (pd := pd) ht (rmK_lt (by omega) hk)
              refine lv_iconst (v := 1) hx hb dX4_readPad_46 (by decide) ?_
              refine lv_goto (tgt := 51) hx hb dX4_readPad_47 (by decide) ?_
              refine lv_istore_n (lv' := [(1, .int 1), (0, .ref (a 0))]) hx hb dX4_readPad_51 rfl hl (by decide) rfl (fun ls hl => ?_)
              refine lv_goto (tgt := 15) hx hb dX4_readPad_52 (by decide) ?_
              exact ih 1 ((rmR pd (u + 1) t).1) (q + 1) (upd y q (rmR pd (u + 1) t).2) (fun _ => by omega) (by omega) (by omega) (by rw [← hv]; simp only [rpL, if_neg c_16_2, if_neg c_27_3, if_neg c_36_5, if_neg hk]) _ _ hP hD hS ls (lv_sub hl [0, 1] rfl)
  refine lv_aload_n hx hb dX4_readPad_0 rfl (lv_at hl 0 rfl) ?_
  refine lv_iconst (v := 0) hx hb dX4_readPad_1 (by decide) ?_
  refine va_put (D := G.1) (ci := 4) (v := .int 0) (ty := .int) (C := RX4) (T := TX4) (N := 11) hx hb hts hinX4 tyX4 tyX4_ok nmX4 hown hK.1 hP hD hS 0 rfl rfl 8 (by decide) wk1 (fun _ h9 => h9) rfl (by decide +kernel) rfl rfl (Nat.le_of_ble_eq_true rfl) dX4_readPad_2 (fun H locs hP hD hS => ?_)
  have hP : va_P G.1 vwCl (mw G a z sp pa st sv pd tl ns (nI t) 0 tm) H := hP
  have hD : va_D A (mw G a z sp pa st sv pd tl ns (nI t) 0 tm) := hD
  refine lv_aload_n hx hb dX4_readPad_5 rfl (lv_at hl 0 rfl) ?_
  refine lv_iconst (v := 0) hx hb dX4_readPad_6 (by decide) ?_
  refine va_put (D := G.1) (ci := 4) (v := .int 0) (ty := .int) (C := RX4) (T := TX4) (N := 11) hx hb hts hinX4 tyX4 tyX4_ok nmX4 hown hK.1 hP hD hS 0 rfl rfl 10 (by decide) wk2 (fun _ h9 => h9) rfl (by decide +kernel) rfl rfl (Nat.le_of_ble_eq_true rfl) dX4_readPad_7 (fun H locs hP hD hS => ?_)
  have hP : va_P G.1 vwCl (mw G a z sp pa st sv pd tl ns (nI t) 0 0) H := hP
  have hD : va_D A (mw G a z sp pa st sv pd tl ns (nI t) 0 0) := hD
  refine lv_aload_n hx hb dX4_readPad_10 rfl (lv_at hl 0 rfl) ?_
  refine cAI (As := []) (rest := []) ⟨hx, hb, hml, hown, hts⟩ (c_X4_readMove l G a z sp pa st sv pd tl ns t 0 0 (by assumption) (by omega) (by omega) _) (cwV 0 hts gX4_readPad_X4_readMove rfl rfl rfl (by decide +kernel) ⟨Nat.le_of_ble_eq_true rfl, Nat.le_of_ble_eq_true rfl⟩) hK hP hD hS hA 0 (ci := 4) rfl rfl rfl rfl rfl hl.1 (Nat.le_of_ble_eq_true rfl) dX4_readPad_11 ⟨Nat.le_of_ble_eq_true rfl, Nat.le_of_ble_eq_true rfl⟩ (fun r_8 u_8 H locs hr_8 hP hD hS => ?_)
  have hr_8 : r_8 = (rmS pd t 0 0 tl).1 := hr_8
  subst hr_8
  have hP : va_P G.1 vwCl (mw G a z sp pa st sv pd ((rmS pd t 0 0 tl).2.2.2) ns (nI t) (nI ((rmS pd t 0 0 tl).2.1)) (nI ((rmS pd t 0 0 tl).2.2.1))) H := hP
  have hD : va_D A (mw G a z sp pa st sv pd ((rmS pd t 0 0 tl).2.2.2) ns (nI t) (nI ((rmS pd t 0 0 tl).2.1)) (nI ((rmS pd t 0 0 tl).2.2.1))) := hD
  refine lv_istore_n (lv' := [(1, .int ((rmS pd t 0 0 tl).1)), (0, .ref (a 0))]) hx hb dX4_readPad_14 rfl hl (by decide) rfl (fun ls hl => ?_)
  have hin := rmS_in (pd := pd) (q := 0) (tl := tl) ht (Nat.zero_le t) (by omega)
  have hrv : rpL pd t 62 ((rmS pd t 0 0 tl).1, (rmS pd t 0 0 tl).2.1, (rmS pd t 0 0 tl).2.2.1, (rmS pd t 0 0 tl).2.2.2) = rpR pd t tl := by unfold rpR; exact congrArg (rpL pd t 62) rfl
  exact L15 62 (rmS pd t 0 0 tl).1 (rmS pd t 0 0 tl).2.1 (rmS pd t 0 0 tl).2.2.1 (rmS pd t 0 0 tl).2.2.2 (fun _ => by omega) hin.1 hin.2 hrv _ _ hP hD hS ls (lv_sub hl [0, 1] rfl)
