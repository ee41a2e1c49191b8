set_option maxHeartbeats 4000000 in
set_option maxRecDepth 100000 in
theorem c_X4_wipe (l : Launch) (G : qG) (a : Nat → Nat) (z sp pa st sv pd tl : Nat → Int32) (ns ty spt tm : Int32)  (sz : Nat) : MI l yX4_wipe wsX4_wipe 0 0 G sz [.ref (a 0)] (mw G a z sp pa st sv pd tl ns ty spt tm) (ty) (mw G a z sp pa st sv pd tl ns 0 spt tm) := by
  refine MI.of' (by decide) rfl (Nat.le_of_ble_eq_true rfl) ?_
  intro p e s m below meth c hx hb hml hown hts hK hsz hP A hAe hA hD hS Q hret ls hl
  have hown : s.vm.findClass RX4 = some m.cls := hown
  have hl : lv_has ls 2 [(0, .ref (a 0))] := hl
  have wk1 := hts (Cond.fieldLink RX4 117 "TurnBidsModel" "typed" "I") (List.mem_of_getElem? (i := 1) rfl)
  have hinX4 : ∀ w ∈ wsX40, w ∈ wsX4_wipe := fun _ h => (List.mem_cons_of_mem _ (List.mem_append_right _ h))
  refine lv_aload_n hx hb dX4_wipe_0 rfl (lv_at hl 0 rfl) ?_
  refine va_get (D := G.1) (ci := 4) (v := .int ty) (C := RX4) (T := TX4) (N := 11) hx hb hts hinX4 hown hK.1 hP 0 rfl rfl 7 (by decide) wk1 (fun _ h9 => h9) rfl dX4_wipe_1 ?_
  refine lv_istore_n (lv' := [(1, .int ty), (0, .ref (a 0))]) hx hb dX4_wipe_4 rfl hl (by decide) rfl (fun ls hl => ?_)
  refine lv_aload_n hx hb dX4_wipe_5 rfl (lv_at hl 1 rfl) ?_
  refine lv_iconst (v := 0) hx hb dX4_wipe_6 (by decide) ?_
  refine va_put (D := G.1) (ci := 4) (v := .int 0) (ty := .int) (C := RX4) (T := TX4) (N := 11) hx hb hts hinX4 tyX4 tyX4_ok nmX4 hown hK.1 hP hD hS 0 rfl rfl 7 (by decide) wk1 (fun _ h9 => h9) rfl (by decide +kernel) rfl rfl (Nat.le_of_ble_eq_true rfl) dX4_wipe_7 (fun H locs hP hD hS => ?_)
  have hP : va_P G.1 vwCl (mw G a z sp pa st sv pd tl ns 0 spt tm) H := hP
  have hD : va_D A (mw G a z sp pa st sv pd tl ns 0 spt tm) := hD
  refine lv_iload_n hx hb dX4_wipe_10 rfl (lv_at hl 0 rfl) ?_
  exact hret _ _ _ _ _ () (by rfl) hP hD hS dX4_wipe_11
set_option maxHeartbeats 4000000 in
set_option maxRecDepth 100000 in
theorem c_X4_sees (l : Launch) (G : qG) (a : Nat → Nat) (z sp pa st sv pd tl : Nat → Int32) (ns tm : Int32) (t s₀ : Nat) (ht : t ≤ 60) (hs : s₀ ≤ 60) (lo hi : Int32) : MP l yX4_sees wsX4_sees 1 22 G [.ref (a 0), .int lo, .int hi] (mw G a z sp pa st sv pd tl ns (nI t) (nI s₀) tm) (seB pd s₀ t lo hi) := by
  refine MP.of (ty := .boolean) (by decide) rfl (Nat.le_of_ble_eq_true rfl) (seB_nar pd s₀ t lo hi) ?_
  intro p e s m below meth c hx hb hml hown hts hK hP Q hret ls hl
  have hown : s.vm.findClass RX4 = some m.cls := hown
  have hl : lv_has ls 3 [(0, .ref (a 0)), (1, .int lo), (2, .int hi)] := hl
  have wk1 := hts (Cond.fieldLink RX4 121 "TurnBidsModel" "spot" "I") (List.mem_of_getElem? (i := 1) rfl)
  have wk2 := hts (Cond.fieldLink RX4 117 "TurnBidsModel" "typed" "I") (List.mem_of_getElem? (i := 2) rfl)
  have wk3 := hts (Cond.fieldLink RX4 26 "TurnBidsModel" "pad" "[I") (List.mem_of_getElem? (i := 3) rfl)
  have wk4 := hts (Cond.methodLink RX4 35 yX4_in) (List.mem_of_getElem? (i := 4) rfl)
  have hinX4 : ∀ w ∈ wsX40, w ∈ wsX4_sees := fun _ h => (List.mem_cons_of_mem _ (List.mem_append_right _ h))
  refine lv_aload_n hx hb dX4_sees_0 rfl (lv_at hl 0 rfl) ?_
  refine va_get (D := G.1) (ci := 4) (v := .int (nI s₀)) (C := RX4) (T := TX4) (N := 11) hx hb hts hinX4 hown hK.1 hP 0 rfl rfl 8 (by decide) wk1 (fun _ h9 => h9) rfl dX4_sees_1 ?_
  refine lv_aload_n hx hb dX4_sees_4 rfl (lv_at hl 0 rfl) ?_
  refine va_get (D := G.1) (ci := 4) (v := .int (nI t)) (C := RX4) (T := TX4) (N := 11) hx hb hts hinX4 hown hK.1 hP 0 rfl rfl 7 (by decide) wk2 (fun _ h9 => h9) rfl dX4_sees_5 ?_
  refine lv_icmp_ge (tgt := 32) hx hb dX4_sees_8 (by decide) (fun c_8_1 => ?_) (fun c_8_1 => ?_)
  · refine lv_iconst (v := 0) hx hb dX4_sees_32 (by decide) ?_
    exact hret _ _ _ (by simp only [seB, if_pos c_8_1]) dX4_sees_33
  · have hlt := nlt_of (by omega) c_8_1
    refine lv_aload_n hx hb dX4_sees_11 rfl (lv_at hl 0 rfl) ?_
    refine va_get (D := G.1) (ci := 4) (v := .ref (a 6)) (C := RX4) (T := TX4) (N := 11) hx hb hts hinX4 hown hK.1 hP 0 rfl rfl 6 (by decide) wk3 (fun _ h9 => h9) rfl dX4_sees_12 ?_
    refine lv_aload_n hx hb dX4_sees_15 rfl (lv_at hl 0 rfl) ?_
    refine va_get (D := G.1) (ci := 4) (v := .int (nI s₀)) (C := RX4) (T := TX4) (N := 11) hx hb hts hinX4 hown hK.1 hP 0 rfl rfl 8 (by decide) wk1 (fun _ h9 => h9) rfl dX4_sees_16 ?_
    refine qild hx hb hK.1 hP 6 0 rfl rfl (k := s₀) (nI_clamp (by omega)) (vp_in_nI (by omega) (by decide)) dX4_sees_19 ?_
    refine lv_iload_n hx hb dX4_sees_20 rfl (lv_at hl 1 rfl) ?_
    refine lv_iload_n hx hb dX4_sees_21 rfl (lv_at hl 2 rfl) ?_
    refine cPS (As := [.int (pd s₀), .int lo, .int hi]) (rest := []) ⟨hx, hb, hml, hown, hts⟩ (c_X4_in l G (pd s₀) lo hi) (cwS 3 hts gX4_sees_X4_in rfl rfl rfl (by decide +kernel) ⟨Nat.le_of_ble_eq_true rfl, Nat.le_of_ble_eq_true rfl⟩) hK (fun k q h => by simp at h) rfl rfl hl.1 (Nat.le_of_ble_eq_true rfl) dX4_sees_22 ⟨Nat.le_of_ble_eq_true rfl, Nat.le_of_ble_eq_true rfl⟩ ?_
    refine lv_if_eq (tgt := 32) hx hb dX4_sees_25 (by decide) (fun c_25_2 => ?_) (fun c_25_2 => ?_)
    · refine lv_iconst (v := 0) hx hb dX4_sees_32 (by decide) ?_
      exact hret _ _ _ (by simp only [seB, if_neg c_8_1, if_pos c_25_2]) dX4_sees_33
    · refine lv_iconst (v := 1) hx hb dX4_sees_28 (by decide) ?_
      refine lv_goto (tgt := 33) hx hb dX4_sees_29 (by decide) ?_
      exact hret _ _ _ (by simp only [seB, if_neg c_8_1, if_neg c_25_2]) dX4_sees_33
set_option maxHeartbeats 4000000 in
set_option maxRecDepth 100000 in
theorem c_X4_takes (l : Launch) (G : qG) (a : Nat → Nat) (z sp pa st sv pd tl : Nat → Int32) (ns tm : Int32) (t s₀ : Nat) (ht : t ≤ 60) (hs : s₀ ≤ 60) (x : Int32) (sz : Nat) : MI l yX4_takes wsX4_takes 2 44 G sz [.ref (a 0), .int x] (mw G a z sp pa st sv pd tl ns (nI t) (nI s₀) tm) (seB pd s₀ t x x) (mw G a z sp pa st sv pd tl ns (nI t) (nI (tkS pd s₀ t x)) tm) := by
  refine MI.ofZ (seB_nar pd s₀ t x x) (by decide) rfl (Nat.le_of_ble_eq_true rfl) ?_
  intro p e s m below meth c hx hb hml hown hts hK hsz hP A hAe hA hD hS Q hret ls hl
  have hown : s.vm.findClass RX4 = some m.cls := hown
  have hl : lv_has ls 3 [(0, .ref (a 0)), (1, .int x)] := hl
  have wk1 := hts (Cond.fieldLink RX4 121 "TurnBidsModel" "spot" "I") (List.mem_of_getElem? (i := 1) rfl)
  have wk2 := hts (Cond.methodLink RX4 124 yX4_sees) (List.mem_of_getElem? (i := 2) rfl)
  have hinX4 : ∀ w ∈ wsX40, w ∈ wsX4_takes := fun _ h => (List.mem_cons_of_mem _ (List.mem_append_right _ h))
  refine lv_aload_n hx hb dX4_takes_0 rfl (lv_at hl 0 rfl) ?_
  refine lv_iload_n hx hb dX4_takes_1 rfl (lv_at hl 1 rfl) ?_
  refine lv_iload_n hx hb dX4_takes_2 rfl (lv_at hl 1 rfl) ?_
  refine cPV (As := [.int x, .int x]) (rest := []) ⟨hx, hb, hml, hown, hts⟩ (c_X4_sees l G a z sp pa st sv pd tl ns tm t s₀ (by assumption) (by omega) x x) (cwV 2 hts gX4_takes_X4_sees rfl rfl rfl (by decide +kernel) ⟨Nat.le_of_ble_eq_true rfl, Nat.le_of_ble_eq_true rfl⟩) hK hP 0 (ci := 4) rfl rfl rfl rfl rfl hl.1 (Nat.le_of_ble_eq_true rfl) dX4_takes_3 ⟨Nat.le_of_ble_eq_true rfl, Nat.le_of_ble_eq_true rfl⟩ ?_
  refine lv_istore_n (lv' := [(2, .int (seB pd s₀ t x x)), (0, .ref (a 0)), (1, .int x)]) hx hb dX4_takes_6 rfl hl (by decide) rfl (fun ls hl => ?_)
  refine lv_aload_n hx hb dX4_takes_7 rfl (lv_at hl 1 rfl) ?_
  refine lv_dup hx hb dX4_takes_8 rfl ?_
  refine va_get (D := G.1) (ci := 4) (v := .int (nI s₀)) (C := RX4) (T := TX4) (N := 11) hx hb hts hinX4 hown hK.1 hP 0 rfl rfl 8 (by decide) wk1 (fun _ h9 => h9) rfl dX4_takes_9 ?_
  refine lv_iload_n hx hb dX4_takes_12 rfl (lv_at hl 0 rfl) ?_
  refine lv_if_eq (tgt := 20) hx hb dX4_takes_13 (by decide) (fun c_13_1 => ?_) (fun c_13_1 => ?_)
  · refine lv_iconst (v := 0) hx hb dX4_takes_20 (by decide) ?_
    refine lv_iadd hx hb dX4_takes_21 ?_
    refine qtop (nI_add s₀ 0) ?_
    refine va_put (D := G.1) (ci := 4) (v := .int (nI (s₀ + 0))) (ty := .int) (C := RX4) (T := TX4) (N := 11) hx hb hts hinX4 tyX4 tyX4_ok nmX4 hown hK.1 hP hD hS 0 rfl rfl 8 (by decide) wk1 (fun _ h9 => h9) rfl (by decide +kernel) rfl rfl (Nat.le_of_ble_eq_true rfl) dX4_takes_22 (fun H locs hP hD hS => ?_)
    have hP : va_P G.1 vwCl (mw G a z sp pa st sv pd tl ns (nI t) (nI (s₀ + 0)) tm) H := hP
    have hD : va_D A (mw G a z sp pa st sv pd tl ns (nI t) (nI (s₀ + 0)) tm) := hD
    refine lv_iload_n hx hb dX4_takes_25 rfl (lv_at hl 0 rfl) ?_
    have hf0 : (nI (s₀ + 0)) = (nI (tkS pd s₀ t x)) := (by simp only [tkS, if_pos c_13_1])
    have hP : va_P G.1 vwCl (mw G a z sp pa st sv pd tl ns (nI t) (nI (tkS pd s₀ t x)) tm) H := by rw [← hf0]; exact hP
    have hD : va_D A (mw G a z sp pa st sv pd tl ns (nI t) (nI (tkS pd s₀ t x)) tm) := by rw [← hf0]; exact hD
    exact hret _ _ _ _ _ () rfl hP hD hS dX4_takes_26
  · refine lv_iconst (v := 1) hx hb dX4_takes_16 (by decide) ?_
    refine lv_goto (tgt := 21) hx hb dX4_takes_17 (by decide) ?_
    refine lv_iadd hx hb dX4_takes_21 ?_
    refine qtop (nI_add s₀ 1) ?_
    refine va_put (D := G.1) (ci := 4) (v := .int (nI (s₀ + 1))) (ty := .int) (C := RX4) (T := TX4) (N := 11) hx hb hts hinX4 tyX4 tyX4_ok nmX4 hown hK.1 hP hD hS 0 rfl rfl 8 (by decide) wk1 (fun _ h9 => h9) rfl (by decide +kernel) rfl rfl (Nat.le_of_ble_eq_true rfl) dX4_takes_22 (fun H locs hP hD hS => ?_)
    have hP : va_P G.1 vwCl (mw G a z sp pa st sv pd tl ns (nI t) (nI (s₀ + 1)) tm) H := hP
    have hD : va_D A (mw G a z sp pa st sv pd tl ns (nI t) (nI (s₀ + 1)) tm) := hD
    refine lv_iload_n hx hb dX4_takes_25 rfl (lv_at hl 0 rfl) ?_
    have hf0 : (nI (s₀ + 1)) = (nI (tkS pd s₀ t x)) := (by simp only [tkS, if_neg c_13_1])
    have hP : va_P G.1 vwCl (mw G a z sp pa st sv pd tl ns (nI t) (nI (tkS pd s₀ t x)) tm) H := by rw [← hf0]; exact hP
    have hD : va_D A (mw G a z sp pa st sv pd tl ns (nI t) (nI (tkS pd s₀ t x)) tm) := by rw [← hf0]; exact hD
    exact hret _ _ _ _ _ () rfl hP hD hS dX4_takes_26
set_option maxHeartbeats 4000000 in
set_option maxRecDepth 100000 in
theorem c_X4_readMove (l : Launch) (G : qG) (a : Nat → Nat) (z sp pa st sv pd tl : Nat → Int32) (ns : Int32) (t s₀ q₀ : Nat) (ht : t ≤ 60) (hs : s₀ ≤ t) (hq : q₀ < 31)  (sz : Nat) : MI l yX4_readMove wsX4_readMove 2 44 G sz [.ref (a 0)] (mw G a z sp pa st sv pd tl ns (nI t) (nI s₀) (nI q₀)) ((rmS pd t s₀ q₀ tl).1) (mw G a z sp pa st sv pd ((rmS pd t s₀ q₀ tl).2.2.2) ns (nI t) (nI ((rmS pd t s₀ q₀ tl).2.1)) (nI ((rmS pd t s₀ q₀ tl).2.2.1))) := by
  refine MI.ofZ (rmS_nar pd t s₀ q₀ tl) (by decide) rfl (Nat.le_of_ble_eq_true rfl) ?_
  intro p e s m below meth c hx hb hml hown hts hK hsz hP A hAe hA hD hS Q hret ls hl
  have hown : s.vm.findClass RX4 = some m.cls := hown
  have hl : lv_has ls 4 [(0, .ref (a 0))] := hl
  have wk1 := hts (Cond.fieldLink RX4 121 "TurnBidsModel" "spot" "I") (List.mem_of_getElem? (i := 1) rfl)
  have wk2 := hts (Cond.fieldLink RX4 117 "TurnBidsModel" "typed" "I") (List.mem_of_getElem? (i := 2) rfl)
  have wk3 := hts (Cond.fieldLink RX4 26 "TurnBidsModel" "pad" "[I") (List.mem_of_getElem? (i := 3) rfl)
  have wk4 := hts (Cond.fieldLink RX4 29 "TurnBidsModel" "told" "[I") (List.mem_of_getElem? (i := 4) rfl)
  have wk5 := hts (Cond.fieldLink RX4 127 "TurnBidsModel" "toldMany" "I") (List.mem_of_getElem? (i := 5) rfl)
  have wk6 := hts (Cond.methodLink RX4 35 yX4_in) (List.mem_of_getElem? (i := 6) rfl)
  have wk10 := hts (Cond.methodLink RX4 124 yX4_sees) (List.mem_of_getElem? (i := 10) rfl)
  have hinX4 : ∀ w ∈ wsX40, w ∈ wsX4_readMove := fun _ h => (List.mem_cons_of_mem _ (List.mem_append_right _ h))
  have L91 : ¬ rmK pd s₀ t = 0 → ∀ (f u : Nat) (v : Int32), u + f = 61 → u ≤ t → rdL pd t f u v = rmR pd s₀ t → ∀ (H : Heap) (locs : List Loc), va_P G.1 vwCl (mw G a z sp pa st sv pd tl ns (nI t) (nI u) (nI q₀)) H → va_D A (mw G a z sp pa st sv pd tl ns (nI t) (nI u) (nI q₀)) → va_S A s.heap H locs → ∀ ls : Array Slot, lv_has ls 4 [(3, .int v), (0, .ref (a 0))] → W p l e { frames := 2, cells := 0, slots := 0, locals := 44 } s m ([.ref (a 0)] : List Value).toArray below meth c H locs 0 0 Q (F0 m 91 ls []) := by
    intro hk f
    induction f with
    | zero => intro u v hi hu; omega
    | succ f ih =>
      intro u v hi hu hv H locs hP hD hS ls hl
      refine lv_iload_n hx hb dX4_readMove_91 rfl (lv_at hl 0 rfl) ?_
      refine lv_if_le (tgt := 160) hx hb dX4_readMove_92 (by decide) (fun c_92_1 => ?_) (fun c_92_1 => ?_)
      · refine lv_aload_n hx hb dX4_readMove_160 rfl (lv_at hl 1 rfl) ?_
        refine va_get (D := G.1) (ci := 4) (v := .ref (a 7)) (C := RX4) (T := TX4) (N := 11) hx hb hts hinX4 hown hK.1 hP 0 rfl rfl 9 (by decide) wk4 (fun _ h9 => h9) rfl dX4_readMove_161 ?_
        refine lv_aload_n hx hb dX4_readMove_164 rfl (lv_at hl 1 rfl) ?_
        refine va_get (D := G.1) (ci := 4) (v := .int (nI q₀)) (C := RX4) (T := TX4) (N := 11) hx hb hts hinX4 hown hK.1 hP 0 rfl rfl 10 (by decide) wk5 (fun _ h9 => h9) rfl dX4_readMove_165 ?_
        refine lv_iload_n hx hb dX4_readMove_168 rfl (lv_at hl 0 rfl) ?_
        refine qist hx hb hK.1 hP hD hS 7 0 rfl rfl (k := q₀) (nI_clamp (by omega)) (vp_in_nI (by omega) (by decide)) dX4_readMove_169 (fun H locs hP hD hS => ?_)
        have hP : va_P G.1 vwCl (mw G a z sp pa st sv pd (upd tl q₀ v) ns (nI t) (nI u) (nI q₀)) H := hP
        have hD : va_D A (mw G a z sp pa st sv pd (upd tl q₀ v) ns (nI t) (nI u) (nI q₀)) := hD
        refine lv_aload_n hx hb dX4_readMove_170 rfl (lv_at hl 1 rfl) ?_
        refine lv_dup hx hb dX4_readMove_171 rfl ?_
        refine va_get (D := G.1) (ci := 4) (v := .int (nI q₀)) (C := RX4) (T := TX4) (N := 11) hx hb hts hinX4 hown hK.1 hP 0 rfl rfl 10 (by decide) wk5 (fun _ h9 => h9) rfl dX4_readMove_172 ?_
        refine lv_iconst (v := 1) hx hb dX4_readMove_175 (by decide) ?_
        refine lv_iadd hx hb dX4_readMove_176 ?_
        refine qtop (nI_add q₀ 1) ?_
        refine va_put (D := G.1) (ci := 4) (v := .int (nI (q₀ + 1))) (ty := .int) (C := RX4) (T := TX4) (N := 11) hx hb hts hinX4 tyX4 tyX4_ok nmX4 hown hK.1 hP hD hS 0 rfl rfl 10 (by decide) wk5 (fun _ h9 => h9) rfl (by decide +kernel) rfl rfl (Nat.le_of_ble_eq_true rfl) dX4_readMove_177 (fun H locs hP hD hS => ?_)
        have hP : va_P G.1 vwCl (mw G a z sp pa st sv pd (upd tl q₀ v) ns (nI t) (nI u) (nI (q₀ + 1))) H := hP
        have hD : va_D A (mw G a z sp pa st sv pd (upd tl q₀ v) ns (nI t) (nI u) (nI (q₀ + 1))) := hD
        refine lv_iconst (v := 1) hx hb dX4_readMove_180 (by decide) ?_
        have he : rmS pd t s₀ q₀ tl = (1, u, q₀ + 1, upd tl q₀ v) := by rw [rmS_2 hk, ← hv]; simp only [rdL, if_pos c_92_1]
        have hP : va_P G.1 vwCl (mw G a z sp pa st sv pd (rmS pd t s₀ q₀ tl).2.2.2 ns (nI t) (nI (rmS pd t s₀ q₀ tl).2.1) (nI (rmS pd t s₀ q₀ tl).2.2.1)) H := by rw [he]; exact hP
        have hD : va_D A (mw G a z sp pa st sv pd (rmS pd t s₀ q₀ tl).2.2.2 ns (nI t) (nI (rmS pd t s₀ q₀ tl).2.1) (nI (rmS pd t s₀ q₀ tl).2.2.1)) := by rw [he]; exact hD
        exact hret _ _ _ _ _ () (by rw [he]) hP hD hS dX4_readMove_181
      · refine lv_aload_n hx hb dX4_readMove_95 rfl (lv_at hl 1 rfl) ?_
        refine lv_bipush (v := 48) hx hb dX4_readMove_96 (by decide) ?_
        refine lv_bipush (v := 57) hx hb dX4_readMove_98 (by decide) ?_
        refine cPV (As := [.int 48, .int 57]) (rest := []) ⟨hx, hb, hml, hown, hts⟩ (c_X4_sees l G a z sp pa st sv pd tl ns (nI q₀) t u (by assumption) (by omega) 48 57) (cwV 2 hts gX4_readMove_X4_sees rfl rfl rfl (by decide +kernel) ⟨Nat.le_of_ble_eq_true rfl, Nat.le_of_ble_eq_true rfl⟩) hK hP 0 (ci := 4) rfl rfl rfl rfl rfl hl.1 (Nat.le_of_ble_eq_true rfl) dX4_readMove_100 ⟨Nat.le_of_ble_eq_true rfl, Nat.le_of_ble_eq_true rfl⟩ ?_
        refine lv_if_eq (tgt := 160) hx hb dX4_readMove_103 (by decide) (fun c_103_2 => ?_) (fun c_103_2 => ?_)
        · refine lv_aload_n hx hb dX4_readMove_160 rfl (lv_at hl 1 rfl) ?_
          refine va_get (D := G.1) (ci := 4) (v := .ref (a 7)) (C := RX4) (T := TX4) (N := 11) hx hb hts hinX4 hown hK.1 hP 0 rfl rfl 9 (by decide) wk4 (fun _ h9 => h9) rfl dX4_readMove_161 ?_
          refine lv_aload_n hx hb dX4_readMove_164 rfl (lv_at hl 1 rfl) ?_
          refine va_get (D := G.1) (ci := 4) (v := .int (nI q₀)) (C := RX4) (T := TX4) (N := 11) hx hb hts hinX4 hown hK.1 hP 0 rfl rfl 10 (by decide) wk5 (fun _ h9 => h9) rfl dX4_readMove_165 ?_
          refine lv_iload_n hx hb dX4_readMove_168 rfl (lv_at hl 0 rfl) ?_
          refine qist hx hb hK.1 hP hD hS 7 0 rfl rfl (k := q₀) (nI_clamp (by omega)) (vp_in_nI (by omega) (by decide)) dX4_readMove_169 (fun H locs hP hD hS => ?_)
          have hP : va_P G.1 vwCl (mw G a z sp pa st sv pd (upd tl q₀ v) ns (nI t) (nI u) (nI q₀)) H := hP
          have hD : va_D A (mw G a z sp pa st sv pd (upd tl q₀ v) ns (nI t) (nI u) (nI q₀)) := hD
          refine lv_aload_n hx hb dX4_readMove_170 rfl (lv_at hl 1 rfl) ?_
          refine lv_dup hx hb dX4_readMove_171 rfl ?_
          refine va_get (D := G.1) (ci := 4) (v := .int (nI q₀)) (C := RX4) (T := TX4) (N := 11) hx hb hts hinX4 hown hK.1 hP 0 rfl rfl 10 (by decide) wk5 (fun _ h9 => h9) rfl dX4_readMove_172 ?_
          refine lv_iconst (v := 1) hx hb dX4_readMove_175 (by decide) ?_
          refine lv_iadd hx hb dX4_readMove_176 ?_
          refine qtop (nI_add q₀ 1) ?_
          refine va_put (D := G.1) (ci := 4) (v := .int (nI (q₀ + 1))) (ty := .int) (C := RX4) (T := TX4) (N := 11) hx hb hts hinX4 tyX4 tyX4_ok nmX4 hown hK.1 hP hD hS 0 rfl rfl 10 (by decide) wk5 (fun _ h9 => h9) rfl (by decide +kernel) rfl rfl (Nat.le_of_ble_eq_true rfl) dX4_readMove_177 (fun H locs hP hD hS => ?_)
          have hP : va_P G.1 vwCl (mw G a z sp pa st sv pd (upd tl q₀ v) ns (nI t) (nI u) (nI (q₀ + 1))) H := hP
          have hD : va_D A (mw G a z sp pa st sv pd (upd tl q₀ v) ns (nI t) (nI u) (nI (q₀ + 1))) := hD
          refine lv_iconst (v := 1) hx hb dX4_readMove_180 (by decide) ?_
          have he : rmS pd t s₀ q₀ tl = (1, u, q₀ + 1, upd tl q₀ v) := by rw [rmS_2 hk, ← hv]; simp only [rdL, if_neg c_92_1, if_pos c_103_2]
          have hP : va_P G.1 vwCl (mw G a z sp pa st sv pd (rmS pd t s₀ q₀ tl).2.2.2 ns (nI t) (nI (rmS pd t s₀ q₀ tl).2.1) (nI (rmS pd t s₀ q₀ tl).2.2.1)) H := by rw [he]; exact hP
          have hD : va_D A (mw G a z sp pa st sv pd (rmS pd t s₀ q₀ tl).2.2.2 ns (nI t) (nI (rmS pd t s₀ q₀ tl).2.1) (nI (rmS pd t s₀ q₀ tl).2.2.1)) := by rw [he]; exact hD
          exact hret _ _ _ _ _ () (by rw [he]) hP hD hS dX4_readMove_181
        · have hut := seB_lt (by omega) c_103_2
          refine lv_bipush (v := 10) hx hb dX4_readMove_106 (by decide) ?_
          refine lv_iload_n hx hb dX4_readMove_108 rfl (lv_at hl 0 rfl) ?_
          refine lv_imul hx hb dX4_readMove_109 ?_
          refine lv_aload_n hx hb dX4_readMove_110 rfl (lv_at hl 1 rfl) ?_
          refine va_get (D := G.1) (ci := 4) (v := .ref (a 6)) (C := RX4) (T := TX4) (N := 11) hx hb hts hinX4 hown hK.1 hP 0 rfl rfl 6 (by decide) wk3 (fun _ h9 => h9) rfl dX4_readMove_111 ?_
          refine lv_aload_n hx hb dX4_readMove_114 rfl (lv_at hl 1 rfl) ?_
          refine va_get (D := G.1) (ci := 4) (v := .int (nI u)) (C := RX4) (T := TX4) (N := 11) hx hb hts hinX4 hown hK.1 hP 0 rfl rfl 8 (by decide) wk1 (fun _ h9 => h9) rfl dX4_readMove_115 ?_
          refine qild hx hb hK.1 hP 6 0 rfl rfl (k := u) (nI_clamp (by omega)) (vp_in_nI (by omega) (by decide)) dX4_readMove_118 ?_
          refine lv_iadd hx hb dX4_readMove_119 ?_
          refine lv_bipush (v := 48) hx hb dX4_readMove_120 (by decide) ?_
          refine lv_isub hx hb dX4_readMove_122 ?_
          refine lv_sipush (v := 9999) hx hb dX4_readMove_123 (by decide) ?_
          refine lv_icmp_gt (tgt := 160) hx hb dX4_readMove_126 (by decide) (fun c_126_3 => ?_) (fun c_126_3 => ?_)
          · refine lv_aload_n hx hb dX4_readMove_160 rfl (lv_at hl 1 rfl) ?_
            refine va_get (D := G.1) (ci := 4) (v := .ref (a 7)) (C := RX4) (T := TX4) (N := 11) hx hb hts hinX4 hown hK.1 hP 0 rfl rfl 9 (by decide) wk4 (fun _ h9 => h9) rfl dX4_readMove_161 ?_
            refine lv_aload_n hx hb dX4_readMove_164 rfl (lv_at hl 1 rfl) ?_
            refine va_get (D := G.1) (ci := 4) (v := .int (nI q₀)) (C := RX4) (T := TX4) (N := 11) hx hb hts hinX4 hown hK.1 hP 0 rfl rfl 10 (by decide) wk5 (fun _ h9 => h9) rfl dX4_readMove_165 ?_
            refine lv_iload_n hx hb dX4_readMove_168 rfl (lv_at hl 0 rfl) ?_
            refine qist hx hb hK.1 hP hD hS 7 0 rfl rfl (k := q₀) (nI_clamp (by omega)) (vp_in_nI (by omega) (by decide)) dX4_readMove_169 (fun H locs hP hD hS => ?_)
            have hP : va_P G.1 vwCl (mw G a z sp pa st sv pd (upd tl q₀ v) ns (nI t) (nI u) (nI q₀)) H := hP
            have hD : va_D A (mw G a z sp pa st sv pd (upd tl q₀ v) ns (nI t) (nI u) (nI q₀)) := hD
            refine lv_aload_n hx hb dX4_readMove_170 rfl (lv_at hl 1 rfl) ?_
            refine lv_dup hx hb dX4_readMove_171 rfl ?_
            refine va_get (D := G.1) (ci := 4) (v := .int (nI q₀)) (C := RX4) (T := TX4) (N := 11) hx hb hts hinX4 hown hK.1 hP 0 rfl rfl 10 (by decide) wk5 (fun _ h9 => h9) rfl dX4_readMove_172 ?_
            refine lv_iconst (v := 1) hx hb dX4_readMove_175 (by decide) ?_
            refine lv_iadd hx hb dX4_readMove_176 ?_
            refine qtop (nI_add q₀ 1) ?_
            refine va_put (D := G.1) (ci := 4) (v := .int (nI (q₀ + 1))) (ty := .int) (C := RX4) (T := TX4) (N := 11) hx hb hts hinX4 tyX4 tyX4_ok nmX4 hown hK.1 hP hD hS 0 rfl rfl 10 (by decide) wk5 (fun _ h9 => h9) rfl (by decide +kernel) rfl rfl (Nat.le_of_ble_eq_true rfl) dX4_readMove_177 (fun H locs hP hD hS => ?_)
            have hP : va_P G.1 vwCl (mw G a z sp pa st sv pd (upd tl q₀ v) ns (nI t) (nI u) (nI (q₀ + 1))) H := hP
            have hD : va_D A (mw G a z sp pa st sv pd (upd tl q₀ v) ns (nI t) (nI u) (nI (q₀ + 1))) := hD
            refine lv_iconst (v := 1) hx hb dX4_readMove_180 (by decide) ?_
            have he : rmS pd t s₀ q₀ tl = (1, u, q₀ + 1, upd tl q₀ v) := by rw [rmS_2 hk, ← hv]; simp only [rdL, if_neg c_92_1, if_neg c_103_2, if_pos c_126_3]
            have hP : va_P G.1 vwCl (mw G a z sp pa st sv pd (rmS pd t s₀ q₀ tl).2.2.2 ns (nI t) (nI (rmS pd t s₀ q₀ tl).2.1) (nI (rmS pd t s₀ q₀ tl).2.2.1)) H := by rw [he]; exact hP
            have hD : va_D A (mw G a z sp pa st sv pd (rmS pd t s₀ q₀ tl).2.2.2 ns (nI t) (nI (rmS pd t s₀ q₀ tl).2.1) (nI (rmS pd t s₀ q₀ tl).2.2.1)) := by rw [he]; exact hD
            exact hret _ _ _ _ _ () (by rw [he]) hP hD hS dX4_readMove_181
          · refine lv_bipush (v := 10) hx hb dX4_readMove_129 (by decide) ?_
            refine lv_iload_n hx hb dX4_readMove_131 rfl (lv_at hl 0 rfl) ?_
            refine lv_imul hx hb dX4_readMove_132 ?_
            refine lv_aload_n hx hb dX4_readMove_133 rfl (lv_at hl 1 rfl) ?_
            refine va_get (D := G.1) (ci := 4) (v := .ref (a 6)) (C := RX4) (T := TX4) (N := 11) hx hb hts hinX4 hown hK.1 hP 0 rfl rfl 6 (by decide) wk3 (fun _ h9 => h9) rfl dX4_readMove_134 ?_
            refine lv_aload_n hx hb dX4_readMove_137 rfl (lv_at hl 1 rfl) ?_
            refine va_get (D := G.1) (ci := 4) (v := .int (nI u)) (C := RX4) (T := TX4) (N := 11) hx hb hts hinX4 hown hK.1 hP 0 rfl rfl 8 (by decide) wk1 (fun _ h9 => h9) rfl dX4_readMove_138 ?_
            refine qild hx hb hK.1 hP 6 0 rfl rfl (k := u) (nI_clamp (by omega)) (vp_in_nI (by omega) (by decide)) dX4_readMove_141 ?_
            refine lv_iadd hx hb dX4_readMove_142 ?_
            refine lv_bipush (v := 48) hx hb dX4_readMove_143 (by decide) ?_
            refine lv_isub hx hb dX4_readMove_145 ?_
            refine lv_istore_n (lv' := [(3, .int (((10 * v) + (pd u)) - 48)), (0, .ref (a 0))]) hx hb dX4_readMove_146 rfl hl (by decide) rfl (fun ls hl => ?_)
            refine lv_aload_n hx hb dX4_readMove_147 rfl (lv_at hl 1 rfl) ?_
            refine lv_dup hx hb dX4_readMove_148 rfl ?_
            refine va_get (D := G.1) (ci := 4) (v := .int (nI u)) (C := RX4) (T := TX4) (N := 11) hx hb hts hinX4 hown hK.1 hP 0 rfl rfl 8 (by decide) wk1 (fun _ h9 => h9) rfl dX4_readMove_149 ?_
            refine lv_iconst (v := 1) hx hb dX4_readMove_152 (by decide) ?_
            refine lv_iadd hx hb dX4_readMove_153 ?_
            refine qtop (nI_add u 1) ?_
            refine va_put (D := G.1) (ci := 4) (v := .int (nI (u + 1))) (ty := .int) (C := RX4) (T := TX4) (N := 11) hx hb hts hinX4 tyX4 tyX4_ok nmX4 hown hK.1 hP hD hS 0 rfl rfl 8 (by decide) wk1 (fun _ h9 => h9) rfl (by decide +kernel) rfl rfl (Nat.le_of_ble_eq_true rfl) dX4_readMove_154 (fun H locs hP hD hS => ?_)
            have hP : va_P G.1 vwCl (mw G a z sp pa st sv pd tl ns (nI t) (nI (u + 1)) (nI q₀)) H := hP
            have hD : va_D A (mw G a z sp pa st sv pd tl ns (nI t) (nI (u + 1)) (nI q₀)) := hD
            refine lv_goto (tgt := 91) hx hb dX4_readMove_157 (by decide) ?_
            exact ih (u + 1) (((10 * v) + (pd u)) - 48) (by omega) hut (by rw [← hv]; simp only [rdL, if_neg c_92_1, if_neg c_103_2, if_neg c_126_3]) _ _ hP hD hS ls (lv_sub hl [0, 1] rfl)
  refine lv_aload_n hx hb dX4_readMove_0 rfl (lv_at hl 0 rfl) ?_
  refine va_get (D := G.1) (ci := 4) (v := .int (nI s₀)) (C := RX4) (T := TX4) (N := 11) hx hb hts hinX4 hown hK.1 hP 0 rfl rfl 8 (by decide) wk1 (fun _ h9 => h9) rfl dX4_readMove_1 ?_
  refine lv_aload_n hx hb dX4_readMove_4 rfl (lv_at hl 0 rfl) ?_
  refine va_get (D := G.1) (ci := 4) (v := .int (nI t)) (C := RX4) (T := TX4) (N := 11) hx hb hts hinX4 hown hK.1 hP 0 rfl rfl 7 (by decide) wk2 (fun _ h9 => h9) rfl dX4_readMove_5 ?_
  refine lv_icmp_ge (tgt := 23) hx hb dX4_readMove_8 (by decide) (fun c_8_4 => ?_) (fun c_8_4 => ?_)
  · have h035 : inB 0 48 57 = 0 := by decide +kernel
    refine lv_iconst (v := 0) hx hb dX4_readMove_23 (by decide) ?_
    refine lv_istore_n (lv' := [(1, .int 0), (0, .ref (a 0))]) hx hb dX4_readMove_24 rfl hl (by decide) rfl (fun ls hl => ?_)
    refine lv_iload_n hx hb dX4_readMove_25 rfl (lv_at hl 0 rfl) ?_
    refine lv_bipush (v := 48) hx hb dX4_readMove_26 (by decide) ?_
    refine lv_bipush (v := 57) hx hb dX4_readMove_28 (by decide) ?_
    refine cPS (As := [.int 0, .int 48, .int 57]) (rest := []) ⟨hx, hb, hml, hown, hts⟩ (c_X4_in l G 0 48 57) (cwS 3 hts gX4_readMove_X4_in rfl rfl rfl (by decide +kernel) ⟨Nat.le_of_ble_eq_true rfl, Nat.le_of_ble_eq_true rfl⟩) hK (fun k q h => by simp at h) rfl rfl hl.1 (Nat.le_of_ble_eq_true rfl) dX4_readMove_30 ⟨Nat.le_of_ble_eq_true rfl, Nat.le_of_ble_eq_true rfl⟩ ?_
    refine lv_istore_n (lv' := [(2, .int (inB 0 48 57)), (1, .int 0), (0, .ref (a 0))]) hx hb dX4_readMove_33 rfl hl (by decide) rfl (fun ls hl => ?_)
    refine lv_iload_n hx hb dX4_readMove_34 rfl (lv_at hl 0 rfl) ?_
    refine lv_if_ne (tgt := 64) hx hb dX4_readMove_35 (by decide) (fun c_9 => absurd h035 c_9) (fun _ => ?_)
    refine lv_iload_n hx hb dX4_readMove_38 rfl (lv_at hl 1 rfl) ?_
    refine lv_bipush (v := 43) hx hb dX4_readMove_39 (by decide) ?_
    refine lv_icmp_eq (tgt := 64) hx hb dX4_readMove_41 (by decide) (fun c_9 => absurd c_9 (by decide)) (fun _ => ?_)
    refine lv_iload_n hx hb dX4_readMove_44 rfl (lv_at hl 1 rfl) ?_
    refine lv_bipush (v := 45) hx hb dX4_readMove_45 (by decide) ?_
    refine lv_icmp_eq (tgt := 64) hx hb dX4_readMove_47 (by decide) (fun c_9 => absurd c_9 (by decide)) (fun _ => ?_)
    refine lv_iload_n hx hb dX4_readMove_50 rfl (lv_at hl 1 rfl) ?_
    refine lv_bipush (v := 42) hx hb dX4_readMove_51 (by decide) ?_
    refine lv_icmp_eq (tgt := 64) hx hb dX4_readMove_53 (by decide) (fun c_9 => absurd c_9 (by decide)) (fun _ => ?_)
    refine lv_iload_n hx hb dX4_readMove_56 rfl (lv_at hl 1 rfl) ?_
    refine lv_bipush (v := 33) hx hb dX4_readMove_57 (by decide) ?_
    refine lv_icmp_eq (tgt := 64) hx hb dX4_readMove_59 (by decide) (fun c_9 => absurd c_9 (by decide)) (fun _ => ?_)
    refine lv_iconst (v := 0) hx hb dX4_readMove_62 (by decide) ?_
    have hk : rmK pd s₀ t = 0 := by simp only [rmK, sgB, if_pos c_8_4, if_pos h035, lz_43, lz_45, lz_42, lz_33, if_false, if_true, if_false]
    have hP : va_P G.1 vwCl (mw G a z sp pa st sv pd (rmS pd t s₀ q₀ tl).2.2.2 ns (nI t) (nI (rmS pd t s₀ q₀ tl).2.1) (nI (rmS pd t s₀ q₀ tl).2.2.1)) s.heap := by rw [rmS_1 hk]; exact hP
    have hD : va_D A (mw G a z sp pa st sv pd (rmS pd t s₀ q₀ tl).2.2.2 ns (nI t) (nI (rmS pd t s₀ q₀ tl).2.1) (nI (rmS pd t s₀ q₀ tl).2.2.1)) := by rw [rmS_1 hk]; exact hD
    exact hret _ _ _ _ _ () (by rw [rmS_1 hk]) hP hD hS dX4_readMove_63
  · have hlt := nlt_of (by omega) c_8_4
    refine lv_aload_n hx hb dX4_readMove_11 rfl (lv_at hl 0 rfl) ?_
    refine va_get (D := G.1) (ci := 4) (v := .ref (a 6)) (C := RX4) (T := TX4) (N := 11) hx hb hts hinX4 hown hK.1 hP 0 rfl rfl 6 (by decide) wk3 (fun _ h9 => h9) rfl dX4_readMove_12 ?_
    refine lv_aload_n hx hb dX4_readMove_15 rfl (lv_at hl 0 rfl) ?_
    refine va_get (D := G.1) (ci := 4) (v := .int (nI s₀)) (C := RX4) (T := TX4) (N := 11) hx hb hts hinX4 hown hK.1 hP 0 rfl rfl 8 (by decide) wk1 (fun _ h9 => h9) rfl dX4_readMove_16 ?_
    refine qild hx hb hK.1 hP 6 0 rfl rfl (k := s₀) (nI_clamp (by omega)) (vp_in_nI (by omega) (by decide)) dX4_readMove_19 ?_
    refine lv_goto (tgt := 24) hx hb dX4_readMove_20 (by decide) ?_
    refine lv_istore_n (lv' := [(1, .int (pd s₀)), (0, .ref (a 0))]) hx hb dX4_readMove_24 rfl hl (by decide) rfl (fun ls hl => ?_)
    refine lv_iload_n hx hb dX4_readMove_25 rfl (lv_at hl 0 rfl) ?_
    refine lv_bipush (v := 48) hx hb dX4_readMove_26 (by decide) ?_
    refine lv_bipush (v := 57) hx hb dX4_readMove_28 (by decide) ?_
    refine cPS (As := [.int (pd s₀), .int 48, .int 57]) (rest := []) ⟨hx, hb, hml, hown, hts⟩ (c_X4_in l G (pd s₀) 48 57) (cwS 3 hts gX4_readMove_X4_in rfl rfl rfl (by decide +kernel) ⟨Nat.le_of_ble_eq_true rfl, Nat.le_of_ble_eq_true rfl⟩) hK (fun k q h => by simp at h) rfl rfl hl.1 (Nat.le_of_ble_eq_true rfl) dX4_readMove_30 ⟨Nat.le_of_ble_eq_true rfl, Nat.le_of_ble_eq_true rfl⟩ ?_
    refine lv_istore_n (lv' := [(2, .int (inB (pd s₀) 48 57)), (1, .int (pd s₀)), (0, .ref (a 0))]) hx hb dX4_readMove_33 rfl hl (by decide) rfl (fun ls hl => ?_)
    refine lv_iload_n hx hb dX4_readMove_34 rfl (lv_at hl 0 rfl) ?_
    refine lv_if_ne (tgt := 64) hx hb dX4_readMove_35 (by decide) (fun c_35_5 => ?_) (fun c_35_5 => ?_)
    · refine lv_iload_n hx hb dX4_readMove_64 rfl (lv_at hl 0 rfl) ?_
      refine lv_if_eq (tgt := 75) hx hb dX4_readMove_65 (by decide) (fun c_9 => absurd c_9 c_35_5) (fun _ => ?_)
      refine lv_iload_n hx hb dX4_readMove_68 rfl (lv_at hl 1 rfl) ?_
      refine lv_bipush (v := 48) hx hb dX4_readMove_69 (by decide) ?_
      refine lv_isub hx hb dX4_readMove_71 ?_
      refine lv_goto (tgt := 80) hx hb dX4_readMove_72 (by decide) ?_
      refine lv_istore_n (lv' := [(3, .int ((pd s₀) - 48)), (2, .int (inB (pd s₀) 48 57)), (1, .int (pd s₀)), (0, .ref (a 0))]) hx hb dX4_readMove_80 rfl hl (by decide) rfl (fun ls hl => ?_)
      refine lv_aload_n hx hb dX4_readMove_81 rfl (lv_at hl 3 rfl) ?_
      refine lv_dup hx hb dX4_readMove_82 rfl ?_
      refine va_get (D := G.1) (ci := 4) (v := .int (nI s₀)) (C := RX4) (T := TX4) (N := 11) hx hb hts hinX4 hown hK.1 hP 0 rfl rfl 8 (by decide) wk1 (fun _ h9 => h9) rfl dX4_readMove_83 ?_
      refine lv_iconst (v := 1) hx hb dX4_readMove_86 (by decide) ?_
      refine lv_iadd hx hb dX4_readMove_87 ?_
      refine qtop (nI_add s₀ 1) ?_
      refine va_put (D := G.1) (ci := 4) (v := .int (nI (s₀ + 1))) (ty := .int) (C := RX4) (T := TX4) (N := 11) hx hb hts hinX4 tyX4 tyX4_ok nmX4 hown hK.1 hP hD hS 0 rfl rfl 8 (by decide) wk1 (fun _ h9 => h9) rfl (by decide +kernel) rfl rfl (Nat.le_of_ble_eq_true rfl) dX4_readMove_88 (fun H locs hP hD hS => ?_)
      have hP : va_P G.1 vwCl (mw G a z sp pa st sv pd tl ns (nI t) (nI (s₀ + 1)) (nI q₀)) H := hP
      have hD : va_D A (mw G a z sp pa st sv pd tl ns (nI t) (nI (s₀ + 1)) (nI q₀)) := hD
      have hk : ¬ rmK pd s₀ t = 0 := by simp only [rmK, sgB, if_neg c_8_4, if_neg c_35_5, if_true, if_false]; exact lz_o
      exact L91 hk (61 - (s₀ + 1)) (s₀ + 1) ((pd s₀) - 48) (by omega) (rmK_lt (by omega) hk) (by simp only [rmR, sgB, if_neg c_8_4, if_neg c_35_5]) _ _ hP hD hS ls (lv_sub hl [0, 3] rfl)
    · refine lv_iload_n hx hb dX4_readMove_38 rfl (lv_at hl 1 rfl) ?_
      refine lv_bipush (v := 43) hx hb dX4_readMove_39 (by decide) ?_
      refine lv_icmp_eq (tgt := 64) hx hb dX4_readMove_41 (by decide) (fun c_41_6 => ?_) (fun c_41_6 => ?_)
      · refine lv_iload_n hx hb dX4_readMove_64 rfl (lv_at hl 0 rfl) ?_
        refine lv_if_eq (tgt := 75) hx hb dX4_readMove_65 (by decide) (fun _ => ?_) (fun c_9 => absurd c_35_5 c_9)
        refine lv_iload_n hx hb dX4_readMove_75 rfl (lv_at hl 1 rfl) ?_
        refine lv_sipush (v := 1000) hx hb dX4_readMove_76 (by decide) ?_
        refine lv_isub hx hb dX4_readMove_79 ?_
        refine lv_istore_n (lv' := [(3, .int ((pd s₀) - 1000)), (2, .int (inB (pd s₀) 48 57)), (1, .int (pd s₀)), (0, .ref (a 0))]) hx hb dX4_readMove_80 rfl hl (by decide) rfl (fun ls hl => ?_)
        refine lv_aload_n hx hb dX4_readMove_81 rfl (lv_at hl 3 rfl) ?_
        refine lv_dup hx hb dX4_readMove_82 rfl ?_
        refine va_get (D := G.1) (ci := 4) (v := .int (nI s₀)) (C := RX4) (T := TX4) (N := 11) hx hb hts hinX4 hown hK.1 hP 0 rfl rfl 8 (by decide) wk1 (fun _ h9 => h9) rfl dX4_readMove_83 ?_
        refine lv_iconst (v := 1) hx hb dX4_readMove_86 (by decide) ?_
        refine lv_iadd hx hb dX4_readMove_87 ?_
        refine qtop (nI_add s₀ 1) ?_
        refine va_put (D := G.1) (ci := 4) (v := .int (nI (s₀ + 1))) (ty := .int) (C := RX4) (T := TX4) (N := 11) hx hb hts hinX4 tyX4 tyX4_ok nmX4 hown hK.1 hP hD hS 0 rfl rfl 8 (by decide) wk1 (fun _ h9 => h9) rfl (by decide +kernel) rfl rfl (Nat.le_of_ble_eq_true rfl) dX4_readMove_88 (fun H locs hP hD hS => ?_)
        have hP : va_P G.1 vwCl (mw G a z sp pa st sv pd tl ns (nI t) (nI (s₀ + 1)) (nI q₀)) H := hP
        have hD : va_D A (mw G a z sp pa st sv pd tl ns (nI t) (nI (s₀ + 1)) (nI q₀)) := hD
        have hk : ¬ rmK pd s₀ t = 0 := by simp only [rmK, sgB, if_neg c_8_4, if_pos c_35_5, if_pos c_41_6, if_true, if_false]; exact lz_o
        exact L91 hk (61 - (s₀ + 1)) (s₀ + 1) ((pd s₀) - 1000) (by omega) (rmK_lt (by omega) hk) (by simp only [rmR, sgB, if_neg c_8_4, if_pos c_35_5, if_pos c_41_6]) _ _ hP hD hS ls (lv_sub hl [0, 3] rfl)
      · refine lv_iload_n hx hb dX4_readMove_44 rfl (lv_at hl 1 rfl) ?_
        refine lv_bipush (v := 45) hx hb dX4_readMove_45 (by decide) ?_
        refine lv_icmp_eq (tgt := 64) hx hb dX4_readMove_47 (by decide) (fun c_47_7 => ?_) (fun c_47_7 => ?_)
        · refine lv_iload_n hx hb dX4_readMove_64 rfl (lv_at hl 0 rfl) ?_
          refine lv_if_eq (tgt := 75) hx hb dX4_readMove_65 (by decide) (fun _ => ?_) (fun c_9 => absurd c_35_5 c_9)
          refine lv_iload_n hx hb dX4_readMove_75 rfl (lv_at hl 1 rfl) ?_
          refine lv_sipush (v := 1000) hx hb dX4_readMove_76 (by decide) ?_
          refine lv_isub hx hb dX4_readMove_79 ?_
          refine lv_istore_n (lv' := [(3, .int ((pd s₀) - 1000)), (2, .int (inB (pd s₀) 48 57)), (1, .int (pd s₀)), (0, .ref (a 0))]) hx hb dX4_readMove_80 rfl hl (by decide) rfl (fun ls hl => ?_)
          refine lv_aload_n hx hb dX4_readMove_81 rfl (lv_at hl 3 rfl) ?_
          refine lv_dup hx hb dX4_readMove_82 rfl ?_
          refine va_get (D := G.1) (ci := 4) (v := .int (nI s₀)) (C := RX4) (T := TX4) (N := 11) hx hb hts hinX4 hown hK.1 hP 0 rfl rfl 8 (by decide) wk1 (fun _ h9 => h9) rfl dX4_readMove_83 ?_
          refine lv_iconst (v := 1) hx hb dX4_readMove_86 (by decide) ?_
          refine lv_iadd hx hb dX4_readMove_87 ?_
          refine qtop (nI_add s₀ 1) ?_
          refine va_put (D := G.1) (ci := 4) (v := .int (nI (s₀ + 1))) (ty := .int) (C := RX4) (T := TX4) (N := 11) hx hb hts hinX4 tyX4 tyX4_ok nmX4 hown hK.1 hP hD hS 0 rfl rfl 8 (by decide) wk1 (fun _ h9 => h9) rfl (by decide +kernel) rfl rfl (Nat.le_of_ble_eq_true rfl) dX4_readMove_88 (fun H locs hP hD hS => ?_)
          have hP : va_P G.1 vwCl (mw G a z sp pa st sv pd tl ns (nI t) (nI (s₀ + 1)) (nI q₀)) H := hP
          have hD : va_D A (mw G a z sp pa st sv pd tl ns (nI t) (nI (s₀ + 1)) (nI q₀)) := hD
          have hk : ¬ rmK pd s₀ t = 0 := by simp only [rmK, sgB, if_neg c_8_4, if_pos c_35_5, if_neg c_41_6, if_pos c_47_7, if_true, if_false]; exact lz_o
          exact L91 hk (61 - (s₀ + 1)) (s₀ + 1) ((pd s₀) - 1000) (by omega) (rmK_lt (by omega) hk) (by simp only [rmR, sgB, if_neg c_8_4, if_pos c_35_5, if_neg c_41_6, if_pos c_47_7]) _ _ hP hD hS ls (lv_sub hl [0, 3] rfl)
        · refine lv_iload_n hx hb dX4_readMove_50 rfl (lv_at hl 1 rfl) ?_
          refine lv_bipush (v := 42) hx hb dX4_readMove_51 (by decide) ?_
          refine lv_icmp_eq (tgt := 64) hx hb dX4_readMove_53 (by decide) (fun c_53_8 => ?_) (fun c_53_8 => ?_)
          · refine lv_iload_n hx hb dX4_readMove_64 rfl (lv_at hl 0 rfl) ?_
            refine lv_if_eq (tgt := 75) hx hb dX4_readMove_65 (by decide) (fun _ => ?_) (fun c_9 => absurd c_35_5 c_9)
            refine lv_iload_n hx hb dX4_readMove_75 rfl (lv_at hl 1 rfl) ?_
            refine lv_sipush (v := 1000) hx hb dX4_readMove_76 (by decide) ?_
            refine lv_isub hx hb dX4_readMove_79 ?_
            refine lv_istore_n (lv' := [(3, .int ((pd s₀) - 1000)), (2, .int (inB (pd s₀) 48 57)), (1, .int (pd s₀)), (0, .ref (a 0))]) hx hb dX4_readMove_80 rfl hl (by decide) rfl (fun ls hl => ?_)
            refine lv_aload_n hx hb dX4_readMove_81 rfl (lv_at hl 3 rfl) ?_
            refine lv_dup hx hb dX4_readMove_82 rfl ?_
            refine va_get (D := G.1) (ci := 4) (v := .int (nI s₀)) (C := RX4) (T := TX4) (N := 11) hx hb hts hinX4 hown hK.1 hP 0 rfl rfl 8 (by decide) wk1 (fun _ h9 => h9) rfl dX4_readMove_83 ?_
            refine lv_iconst (v := 1) hx hb dX4_readMove_86 (by decide) ?_
            refine lv_iadd hx hb dX4_readMove_87 ?_
            refine qtop (nI_add s₀ 1) ?_
            refine va_put (D := G.1) (ci := 4) (v := .int (nI (s₀ + 1))) (ty := .int) (C := RX4) (T := TX4) (N := 11) hx hb hts hinX4 tyX4 tyX4_ok nmX4 hown hK.1 hP hD hS 0 rfl rfl 8 (by decide) wk1 (fun _ h9 => h9) rfl (by decide +kernel) rfl rfl (Nat.le_of_ble_eq_true rfl) dX4_readMove_88 (fun H locs hP hD hS => ?_)
            have hP : va_P G.1 vwCl (mw G a z sp pa st sv pd tl ns (nI t) (nI (s₀ + 1)) (nI q₀)) H := hP
            have hD : va_D A (mw G a z sp pa st sv pd tl ns (nI t) (nI (s₀ + 1)) (nI q₀)) := hD
            have hk : ¬ rmK pd s₀ t = 0 := by simp only [rmK, sgB, if_neg c_8_4, if_pos c_35_5, if_neg c_41_6, if_neg c_47_7, if_pos c_53_8, if_true, if_false]; exact lz_o
            exact L91 hk (61 - (s₀ + 1)) (s₀ + 1) ((pd s₀) - 1000) (by omega) (rmK_lt (by omega) hk) (by simp only [rmR, sgB, if_neg c_8_4, if_pos c_35_5, if_neg c_41_6, if_neg c_47_7, if_pos c_53_8]) _ _ hP hD hS ls (lv_sub hl [0, 3] rfl)
          · refine lv_iload_n hx hb dX4_readMove_56 rfl (lv_at hl 1 rfl) ?_
            refine lv_bipush (v := 33) hx hb dX4_readMove_57 (by decide) ?_
            refine lv_icmp_eq (tgt := 64) hx hb dX4_readMove_59 (by decide) (fun c_59_9 => ?_) (fun c_59_9 => ?_)
            · refine lv_iload_n hx hb dX4_readMove_64 rfl (lv_at hl 0 rfl) ?_
              refine lv_if_eq (tgt := 75) hx hb dX4_readMove_65 (by decide) (fun _ => ?_) (fun c_9 => absurd c_35_5 c_9)
              refine lv_iload_n hx hb dX4_readMove_75 rfl (lv_at hl 1 rfl) ?_
              refine lv_sipush (v := 1000) hx hb dX4_readMove_76 (by decide) ?_
              refine lv_isub hx hb dX4_readMove_79 ?_
              refine lv_istore_n (lv' := [(3, .int ((pd s₀) - 1000)), (2, .int (inB (pd s₀) 48 57)), (1, .int (pd s₀)), (0, .ref (a 0))]) hx hb dX4_readMove_80 rfl hl (by decide) rfl (fun ls hl => ?_)
              refine lv_aload_n hx hb dX4_readMove_81 rfl (lv_at hl 3 rfl) ?_
              refine lv_dup hx hb dX4_readMove_82 rfl ?_
              refine va_get (D := G.1) (ci := 4) (v := .int (nI s₀)) (C := RX4) (T := TX4) (N := 11) hx hb hts hinX4 hown hK.1 hP 0 rfl rfl 8 (by decide) wk1 (fun _ h9 => h9) rfl dX4_readMove_83 ?_
              refine lv_iconst (v := 1) hx hb dX4_readMove_86 (by decide) ?_
              refine lv_iadd hx hb dX4_readMove_87 ?_
              refine qtop (nI_add s₀ 1) ?_
              refine va_put (D := G.1) (ci := 4) (v := .int (nI (s₀ + 1))) (ty := .int) (C := RX4) (T := TX4) (N := 11) hx hb hts hinX4 tyX4 tyX4_ok nmX4 hown hK.1 hP hD hS 0 rfl rfl 8 (by decide) wk1 (fun _ h9 => h9) rfl (by decide +kernel) rfl rfl (Nat.le_of_ble_eq_true rfl) dX4_readMove_88 (fun H locs hP hD hS => ?_)
              have hP : va_P G.1 vwCl (mw G a z sp pa st sv pd tl ns (nI t) (nI (s₀ + 1)) (nI q₀)) H := hP
              have hD : va_D A (mw G a z sp pa st sv pd tl ns (nI t) (nI (s₀ + 1)) (nI q₀)) := hD
              have hk : ¬ rmK pd s₀ t = 0 := by simp only [rmK, sgB, if_neg c_8_4, if_pos c_35_5, if_neg c_41_6, if_neg c_47_7, if_neg c_53_8, if_pos c_59_9, if_true, if_false]; exact lz_o
              exact L91 hk (61 - (s₀ + 1)) (s₀ + 1) ((pd s₀) - 1000) (by omega) (rmK_lt (by omega) hk) (by simp only [rmR, sgB, if_neg c_8_4, if_pos c_35_5, if_neg c_41_6, if_neg c_47_7, if_neg c_53_8, if_pos c_59_9]) _ _ hP hD hS ls (lv_sub hl [0, 3] rfl)
            · refine lv_iconst (v := 0) hx hb dX4_readMove_62 (by decide) ?_
              have hk : rmK pd s₀ t = 0 := by simp only [rmK, sgB, if_neg c_8_4, if_pos c_35_5, if_neg c_41_6, if_neg c_47_7, if_neg c_53_8, if_neg c_59_9, if_true, if_false]
              have hP : va_P G.1 vwCl (mw G a z sp pa st sv pd (rmS pd t s₀ q₀ tl).2.2.2 ns (nI t) (nI (rmS pd t s₀ q₀ tl).2.1) (nI (rmS pd t s₀ q₀ tl).2.2.1)) s.heap := by rw [rmS_1 hk]; exact hP
              have hD : va_D A (mw G a z sp pa st sv pd (rmS pd t s₀ q₀ tl).2.2.2 ns (nI t) (nI (rmS pd t s₀ q₀ tl).2.1) (nI (rmS pd t s₀ q₀ tl).2.2.1)) := by rw [rmS_1 hk]; exact hD
              exact hret _ _ _ _ _ () (by rw [rmS_1 hk]) hP hD hS dX4_readMove_63
