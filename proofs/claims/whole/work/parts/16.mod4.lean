/-! CONTRACTS of the reference: the pad (laid by wip/whole/gen/mod4.py) -/
set_option maxHeartbeats 4000000 in
set_option maxRecDepth 100000 in
theorem c_X4_wipe (l : Launch) (G : qG) (a : Nat → Nat) (z sp pa st sv pd tl : Nat → Int32) (ns ty spt tm : Int32)  (sz : Nat) : MI l yX4_wipe wsX4_wipe 0 0 G sz [.ref (a 0)] (mw G a z sp pa st sv pd tl ns ty spt tm) (ty) (mw G a z sp pa st sv pd tl ns 0 spt tm) := by
  refine MI.of' (by decide) rfl (Nat.le_of_ble_eq_true rfl) ?_
  intro p e s m below meth c hx hb hml hown hts hK hsz hP A hAe hA hD hS Q hret ls hl
  have hown : s.vm.findClass RX4 = some m.cls := hown
  have hl : lv_has ls 2 [(0, .ref (a 0))] := hl
  have wk1 := hts (Cond.fieldLink RX4 117 "TurnBidsModel" "typed" "I") (List.mem_of_getElem? (i := 1) rfl)
  have hinX4 : ∀ w ∈ wsX40, w ∈ wsX4_wipe := fun _ h => (List.mem_cons_of_mem _ (List.mem_append_right _ h))
  refine lv_aload_n hx hb dX4_wipe_0 rfl (lv_at hl 0 rfl) ?_
  refine va_get (D := G.1) (ci := 4) (v := .int ty) (C := RX4) (T := TX4) (N := 11) hx hb hts hinX4 hown hK.1 hP 0 rfl rfl 7 (by decide) wk1 (fun _ h9 => h9) rfl dX4_wipe_1 ?_
  refine lv_istore_n (lv' := [(1, .int ty), (0, .ref (a 0))]) hx hb dX4_wipe_4 rfl hl (by decide) rfl (fun ls hl => ?_)
  refine lv_aload_n hx hb dX4_wipe_5 rfl (lv_at hl 1 rfl) ?_
  refine lv_iconst (v := 0) hx hb dX4_wipe_6 (by decide) ?_
  refine va_put (D := G.1) (ci := 4) (v := .int 0) (ty := .int) (C := RX4) (T := TX4) (N := 11) hx hb hts hinX4 tyX4 tyX4_ok nmX4 hown hK.1 hP hD hS 0 rfl rfl 7 (by decide) wk1 (fun _ h9 => h9) rfl (by decide +kernel) rfl rfl (Nat.le_of_ble_eq_true rfl) dX4_wipe_7 (fun H locs hP hD hS => ?_)
  have hP : va_P G.1 vwCl (mw G a z sp pa st sv pd tl ns 0 spt tm) H := hP
  have hD : va_D A (mw G a z sp pa st sv pd tl ns 0 spt tm) := hD
  refine lv_iload_n hx hb dX4_wipe_10 rfl (lv_at hl 0 rfl) ?_
  exact hret _ _ _ _ _ () (by rfl) hP hD hS dX4_wipe_11
set_option maxHeartbeats 4000000 in
set_option maxRecDepth 100000 in
theorem c_X4_sees (l : Launch) (G : qG) (a : Nat → Nat) (z sp pa st sv pd tl : Nat → Int32) (ns tm : Int32) (t s₀ : Nat) (ht : t ≤ 60) (hs : s₀ ≤ 60) (lo hi : Int32) : MP l yX4_sees wsX4_sees 1 22 G [.ref (a 0), .int lo, .int hi] (mw G a z sp pa st sv pd tl ns (nI t) (nI s₀) tm) (seB pd s₀ t lo hi) := by
  refine MP.of (ty := .boolean) (by decide) rfl (Nat.le_of_ble_eq_true rfl) (seB_nar pd s₀ t lo hi) ?_
  intro p e s m below meth c hx hb hml hown hts hK hP Q hret ls hl
  have hown : s.vm.findClass RX4 = some m.cls := hown
  have hl : lv_has ls 3 [(0, .ref (a 0)), (1, .int lo), (2, .int hi)] := hl
  have wk1 := hts (Cond.fieldLink RX4 121 "TurnBidsModel" "spot" "I") (List.mem_of_getElem? (i := 1) rfl)
  have wk2 := hts (Cond.fieldLink RX4 117 "TurnBidsModel" "typed" "I") (List.mem_of_getElem? (i := 2) rfl)
  have wk3 := hts (Cond.fieldLink RX4 26 "TurnBidsModel" "pad" "[I") (List.mem_of_getElem? (i := 3) rfl)
  have wk4 := hts (Cond.methodLink RX4 35 yX4_in) (List.mem_of_getElem? (i := 4) rfl)
  have hinX4 : ∀ w ∈ wsX40, w ∈ wsX4_sees := fun _ h => (List.mem_cons_of_mem _ (List.mem_append_right _ h))
  refine lv_aload_n hx hb dX4_sees_0 rfl (lv_at hl 0 rfl) ?_
  refine va_get (D := G.1) (ci := 4) (v := .int (nI s₀)) (C := RX4) (T := TX4) (N := 11) hx hb hts hinX4 hown hK.1 hP 0 rfl rfl 8 (by decide) wk1 (fun _ h9 => h9) rfl dX4_sees_1 ?_
  refine lv_aload_n hx hb dX4_sees_4 rfl (lv_at hl 0 rfl) ?_
  refine va_get (D := G.1) (ci := 4) (v := .int (nI t)) (C := RX4) (T := TX4) (N := 11) hx hb hts hinX4 hown hK.1 hP 0 rfl rfl 7 (by decide) wk2 (fun _ h9 => h9) rfl dX4_sees_5 ?_
  refine lv_icmp_ge (tgt := 32) hx hb dX4_sees_8 (by decide) (fun c_8_1 => ?_) (fun c_8_1 => ?_)
  · refine lv_iconst (v := 0) hx hb dX4_sees_32 (by decide) ?_
    exact hret _ _ _ (by simp only [seB, if_pos c_8_1]) dX4_sees_33
  · have hlt := nlt_of (by omega) c_8_1
    refine lv_aload_n hx hb dX4_sees_11 rfl (lv_at hl 0 rfl) ?_
    refine va_get (D := G.1) (ci := 4) (v := .ref (a 6)) (C := RX4) (T := TX4) (N := 11) hx hb hts hinX4 hown hK.1 hP 0 rfl rfl 6 (by decide) wk3 (fun _ h9 => h9) rfl dX4_sees_12 ?_
    refine lv_aload_n hx hb dX4_sees_15 rfl (lv_at hl 0 rfl) ?_
    refine va_get (D := G.1) (ci := 4) (v := .int (nI s₀)) (C := RX4) (T := TX4) (N := 11) hx hb hts hinX4 hown hK.1 hP 0 rfl rfl 8 (by decide) wk1 (fun _ h9 => h9) rfl dX4_sees_16 ?_
    refine qild hx hb hK.1 hP 6 0 rfl rfl (k := s₀) (nI_clamp (by omega)) (vp_in_nI (by omega) (by decide)) dX4_sees_19 ?_
    refine lv_iload_n hx hb dX4_sees_20 rfl (lv_at hl 1 rfl) ?_
    refine lv_iload_n hx hb dX4_sees_21 rfl (lv_at hl 2 rfl) ?_
    refine cPS (As := [.int (pd s₀), .int lo, .int hi]) (rest := []) ⟨hx, hb, hml, hown, hts⟩ (c_X4_in l G (pd s₀) lo hi) (cwS 3 hts gX4_sees_X4_in rfl rfl rfl (by decide +kernel) ⟨Nat.le_of_ble_eq_true rfl, Nat.le_of_ble_eq_true rfl⟩) hK (fun k q h => by simp at h) rfl rfl hl.1 (Nat.le_of_ble_eq_true rfl) dX4_sees_22 ⟨Nat.le_of_ble_eq_true rfl, Nat.le_of_ble_eq_true rfl⟩ ?_
    refine lv_if_eq (tgt := 32) hx hb dX4_sees_25 (by decide) (fun c_25_2 => ?_) (fun c_25_2 => ?_)
    · refine lv_iconst (v := 0) hx hb dX4_sees_32 (by decide) ?_
      exact hret _ _ _ (by simp only [seB, if_neg c_8_1, if_pos c_25_2]) dX4_sees_33
    · refine lv_iconst (v := 1) hx hb dX4_sees_28 (by decide) ?_
      refine lv_goto (tgt := 33) hx hb dX4_sees_29 (by decide) ?_
      exact hret _ _ _ (by simp only [seB, if_neg c_8_1, if_neg c_25_2]) dX4_sees_33
set_option maxHeartbeats 4000000 in
set_option maxRecDepth 100000 in
theorem c_X4_takes (l : Launch) (G : qG) (a : Nat → Nat) (z sp pa st sv pd tl : Nat → Int32) (ns tm : Int32) (t s₀ : Nat) (ht : t ≤ 60) (hs : s₀ ≤ 60) (x : Int32) (sz : Nat) : MI l yX4_takes wsX4_takes 2 44 G sz [.ref (a 0), .int x] (mw G a z sp pa st sv pd tl ns (nI t) (nI s₀) tm) (seB pd s₀ t x x) (mw G a z sp pa st sv pd tl ns (nI t) (nI (tkS pd s₀ t x)) tm) := by
  refine MI.ofZ (seB_nar pd s₀ t x x) (by decide) rfl (Nat.le_of_ble_eq_true rfl) ?_
  intro p e s m below meth c hx hb hml hown hts hK hsz hP A hAe hA hD hS Q hret ls hl
  have hown : s.vm.findClass RX4 = some m.cls := hown
  have hl : lv_has ls 3 [(0, .ref (a 0)), (1, .int x)] := hl
  have wk1 := hts (Cond.fieldLink RX4 121 "TurnBidsModel" "spot" "I") (List.mem_of_getElem? (i := 1) rfl)
  have wk2 := hts (Cond.methodLink RX4 124 yX4_sees) (List.mem_of_getElem? (i := 2) rfl)
  have hinX4 : ∀ w ∈ wsX40, w ∈ wsX4_takes := fun _ h => (List.mem_cons_of_mem _ (List.mem_append_right _ h))
  refine lv_aload_n hx hb dX4_takes_0 rfl (lv_at hl 0 rfl) ?_
  refine lv_iload_n hx hb dX4_takes_1 rfl (lv_at hl 1 rfl) ?_
  refine lv_iload_n hx hb dX4_takes_2 rfl (lv_at hl 1 rfl) ?_
  refine cPV (As := [.int x, .int x]) (rest := []) ⟨hx, hb, hml, hown, hts⟩ (c_X4_sees l G a z sp pa st sv pd tl ns tm t s₀ (by assumption) (by omega) x x) (cwV 2 hts gX4_takes_X4_sees rfl rfl rfl (by decide +kernel) ⟨Nat.le_of_ble_eq_true rfl, Nat.le_of_ble_eq_true rfl⟩) hK hP 0 (ci := 4) rfl rfl rfl rfl rfl hl.1 (Nat.le_of_ble_eq_true rfl) dX4_takes_3 ⟨Nat.le_of_ble_eq_true rfl, Nat.le_of_ble_eq_true rfl⟩ ?_
  refine lv_istore_n (lv' := [(2, .int (seB pd s₀ t x x)), (0, .ref (a 0)), (1, .int x)]) hx hb dX4_takes_6 rfl hl (by decide) rfl (fun ls hl => ?_)
  refine lv_aload_n hx hb dX4_takes_7 rfl (lv_at hl 1 rfl) ?_
  refine lv_dup hx hb dX4_takes_8 rfl ?_
  refine va_get (D := G.1) (ci := 4) (v := .int (nI s₀)) (C := RX4) (T := TX4) (N := 11) hx hb hts hinX4 hown hK.1 hP 0 rfl rfl 8 (by decide) wk1 (fun _ h9 => h9) rfl dX4_takes_9 ?_
  refine lv_iload_n hx hb dX4_takes_12 rfl (lv_at hl 0 rfl) ?_
  refine lv_if_eq (tgt := 20) hx hb dX4_takes_13 (by decide) (fun c_13_1 => ?_) (fun c_13_1 => ?_)
  · refine lv_iconst (v := 0) hx hb dX4_takes_20 (by decide) ?_
    refine lv_iadd hx hb dX4_takes_21 ?_
    refine qtop (nI_add s₀ 0) ?_
    refine va_put (D := G.1) (ci := 4) (v := .int (nI (s₀ + 0))) (ty := .int) (C := RX4) (T := TX4) (N := 11) hx hb hts hinX4 tyX4 tyX4_ok nmX4 hown hK.1 hP hD hS 0 rfl rfl 8 (by decide) wk1 (fun _ h9 => h9) rfl (by decide +kernel) rfl rfl (Nat.le_of_ble_eq_true rfl) dX4_takes_22 (fun H locs hP hD hS => ?_)
    have hP : va_P G.1 vwCl (mw G a z sp pa st sv pd tl ns (nI t) (nI (s₀ + 0)) tm) H := hP
    have hD : va_D A (mw G a z sp pa st sv pd tl ns (nI t) (nI (s₀ + 0)) tm) := hD
    refine lv_iload_n hx hb dX4_takes_25 rfl (lv_at hl 0 rfl) ?_
    have hf0 : (nI (s₀ + 0)) = (nI (tkS pd s₀ t x)) := (by simp only [tkS, if_pos c_13_1])
    have hP : va_P G.1 vwCl (mw G a z sp pa st sv pd tl ns (nI t) (nI (tkS pd s₀ t x)) tm) H := by rw [← hf0]; exact hP
    have hD : va_D A (mw G a z sp pa st sv pd tl ns (nI t) (nI (tkS pd s₀ t x)) tm) := by rw [← hf0]; exact hD
    exact hret _ _ _ _ _ () rfl hP hD hS dX4_takes_26
  · refine lv_iconst (v := 1) hx hb dX4_takes_16 (by decide) ?_
    refine lv_goto (tgt := 21) hx hb dX4_takes_17 (by decide) ?_
    refine lv_iadd hx hb dX4_takes_21 ?_
    refine qtop (nI_add s₀ 1) ?_
    refine va_put (D := G.1) (ci := 4) (v := .int (nI (s₀ + 1))) (ty := .int) (C := RX4) (T := TX4) (N := 11) hx hb hts hinX4 tyX4 tyX4_ok nmX4 hown hK.1 hP hD hS 0 rfl rfl 8 (by decide) wk1 (fun _ h9 => h9) rfl (by decide +kernel) rfl rfl (Nat.le_of_ble_eq_true rfl) dX4_takes_22 (fun H locs hP hD hS => ?_)
    have hP : va_P G.1 vwCl (mw G a z sp pa st sv pd tl ns (nI t) (nI (s₀ + 1)) tm) H := hP
    have hD : va_D A (mw G a z sp pa st sv pd tl ns (nI t) (nI (s₀ + 1)) tm) := hD
    refine lv_iload_n hx hb dX4_takes_25 rfl (lv_at hl 0 rfl) ?_
    have hf0 : (nI (s₀ + 1)) = (nI (tkS pd s₀ t x)) := (by simp only [tkS, if_neg c_13_1])
    have hP : va_P G.1 vwCl (mw G a z sp pa st sv pd tl ns (nI t) (nI (tkS pd s₀ t x)) tm) H := by rw [← hf0]; exact hP
    have hD : va_D A (mw G a z sp pa st sv pd tl ns (nI t) (nI (tkS pd s₀ t x)) tm) := by rw [← hf0]; exact hD
    exact hret _ _ _ _ _ () rfl hP hD hS dX4_takes_26
set_option maxHeartbeats 4000000 in
set_option maxRecDepth 100000 in
theorem c_X4_readMove (l : Launch) (G : qG) (a : Nat → Nat) (z sp pa st sv pd tl : Nat → Int32) (ns : Int32) (t s₀ q₀ : Nat) (ht : t ≤ 60) (hs : s₀ ≤ t) (hq : q₀ < 31)  (sz : Nat) : MI l yX4_readMove wsX4_readMove 2 44 G sz [.ref (a 0)] (mw G a z sp pa st sv pd tl ns (nI t) (nI s₀) (nI q₀)) ((rmS pd t s₀ q₀ tl).1) (mw G a z sp pa st sv pd ((rmS pd t s₀ q₀ tl).2.2.2) ns (nI t) (nI ((rmS pd t s₀ q₀ tl).2.1)) (nI ((rmS pd t s₀ q₀ tl).2.2.1))) := by
  refine MI.ofZ (rmS_nar pd t s₀ q₀ tl) (by decide) rfl (Nat.le_of_ble_eq_true rfl) ?_
  intro p e s m below meth c hx hb hml hown hts hK hsz hP A hAe hA hD hS Q hret ls hl
  have hown : s.vm.findClass RX4 = some m.cls := hown
  have hl : lv_has ls 4 [(0, .ref (a 0))] := hl
  have wk1 := hts (Cond.fieldLink RX4 121 "TurnBidsModel" "spot" "I") (List.mem_of_getElem? (i := 1) rfl)
  have wk2 := hts (Cond.fieldLink RX4 117 "TurnBidsModel" "typed" "I") (List.mem_of_getElem? (i := 2) rfl)
  have wk3 := hts (Cond.fieldLink RX4 26 "TurnBidsModel" "pad" "[I") (List.mem_of_getElem? (i := 3) rfl)
  have wk4 := hts (Cond.fieldLink RX4 29 "TurnBidsModel" "told" "[I") (List.mem_of_getElem? (i := 4) rfl)
  have wk5 := hts (Cond.fieldLink RX4 127 "TurnBidsModel" "toldMany" "I") (List.mem_of_getElem? (i := 5) rfl)
  have wk6 := hts (Cond.methodLink RX4 35 yX4_in) (List.mem_of_getElem? (i := 6) rfl)
  have wk10 := hts (Cond.methodLink RX4 124 yX4_sees) (List.mem_of_getElem? (i := 10) rfl)
  have hinX4 : ∀ w ∈ wsX40, w ∈ wsX4_readMove := fun _ h => (List.mem_cons_of_mem _ (List.mem_append_right _ h))
  have L91 : ¬ rmK pd s₀ t = 0 → ∀ (f u : Nat) (v : Int32), u + f = 61 → u ≤ t → rdL pd t f u v = rmR pd s₀ t → ∀ (H : Heap) (locs : List Loc), va_P G.1 vwCl (mw G a z sp pa st sv pd tl ns (nI t) (nI u) (nI q₀)) H → va_D A (mw G a z sp pa st sv pd tl ns (nI t) (nI u) (nI q₀)) → va_S A s.heap H locs → ∀ ls : Array Slot, lv_has ls 4 [(3, .int v), (0, .ref (a 0))] → W p l e { frames := 2, cells := 0, slots := 0, locals := 44 } s m ([.ref (a 0)] : List Value).toArray below meth c H locs 0 0 Q (F0 m 91 ls []) := by
    intro hk f
    induction f with
    | zero => intro u v hi hu; omega
    | succ f ih =>
      intro u v hi hu hv H locs hP hD hS ls hl
      refine lv_iload_n hx hb dX4_readMove_91 rfl (lv_at hl 0 rfl) ?_
      refine lv_if_le (tgt := 160) hx hb dX4_readMove_92 (by decide) (fun c_92_1 => ?_) (fun c_92_1 => ?_)
      · refine lv_aload_n hx hb dX4_readMove_160 rfl (lv_at hl 1 rfl) ?_
        refine va_get (D := G.1) (ci := 4) (v := .ref (a 7)) (C := RX4) (T := TX4) (N := 11) hx hb hts hinX4 hown hK.1 hP 0 rfl rfl 9 (by decide) wk4 (fun _ h9 => h9) rfl dX4_readMove_161 ?_
        refine lv_aload_n hx hb dX4_readMove_164 rfl (lv_at hl 1 rfl) ?_
        refine va_get (D := G.1) (ci := 4) (v := .int (nI q₀)) (C := RX4) (T := TX4) (N := 11) hx hb hts hinX4 hown hK.1 hP 0 rfl rfl 10 (by decide) wk5 (fun _ h9 => h9) rfl dX4_readMove_165 ?_
        refine lv_iload_n hx hb dX4_readMove_168 rfl (lv_at hl 0 rfl) ?_
        refine qist hx hb hK.1 hP hD hS 7 0 rfl rfl (k := q₀) (nI_clamp (by omega)) (vp_in_nI (by omega) (by decide)) dX4_readMove_169 (fun H locs hP hD hS => ?_)
        have hP : va_P G.1 vwCl (mw G a z sp pa st sv pd (upd tl q₀ v) ns (nI t) (nI u) (nI q₀)) H := hP
        have hD : va_D A (mw G a z sp pa st sv pd (upd tl q₀ v) ns (nI t) (nI u) (nI q₀)) := hD
        refine lv_aload_n hx hb dX4_readMove_170 rfl (lv_at hl 1 rfl) ?_
        refine lv_dup hx hb dX4_readMove_171 rfl ?_
        refine va_get (D := G.1) (ci := 4) (v := .int (nI q₀)) (C := RX4) (T := TX4) (N := 11) hx hb hts hinX4 hown hK.1 hP 0 rfl rfl 10 (by decide) wk5 (fun _ h9 => h9) rfl dX4_readMove_172 ?_
        refine lv_iconst (v := 1) hx hb dX4_readMove_175 (by decide) ?_
        refine lv_iadd hx hb dX4_readMove_176 ?_
        refine qtop (nI_add q₀ 1) ?_
        refine va_put (D := G.1) (ci := 4) (v := .int (nI (q₀ + 1))) (ty := .int) (C := RX4) (T := TX4) (N := 11) hx hb hts hinX4 tyX4 tyX4_ok nmX4 hown hK.1 hP hD hS 0 rfl rfl 10 (by decide) wk5 (fun _ h9 => h9) rfl (by decide +kernel) rfl rfl (Nat.le_of_ble_eq_true rfl) dX4_readMove_177 (fun H locs hP hD hS => ?_)
        have hP : va_P G.1 vwCl (mw G a z sp pa st sv pd (upd tl q₀ v) ns (nI t) (nI u) (nI (q₀ + 1))) H := hP
        have hD : va_D A (mw G a z sp pa st sv pd (upd tl q₀ v) ns (nI t) (nI u) (nI (q₀ + 1))) := hD
        refine lv_iconst (v := 1) hx hb dX4_readMove_180 (by decide) ?_
        have he : rmS pd t s₀ q₀ tl = (1, u, q₀ + 1, upd tl q₀ v) := by rw [rmS_2 hk, ← hv]; simp only [rdL, if_pos c_92_1]
        have hP : va_P G.1 vwCl (mw G a z sp pa st sv pd (rmS pd t s₀ q₀ tl).2.2.2 ns (nI t) (nI (rmS pd t s₀ q₀ tl).2.1) (nI (rmS pd t s₀ q₀ tl).2.2.1)) H := by rw [he]; exact hP
        have hD : va_D A (mw G a z sp pa st sv pd (rmS pd t s₀ q₀ tl).2.2.2 ns (nI t) (nI (rmS pd t s₀ q₀ tl).2.1) (nI (rmS pd t s₀ q₀ tl).2.2.1)) := by rw [he]; exact hD
        exact hret _ _ _ _ _ () (by rw [he]) hP hD hS dX4_readMove_181
      · refine lv_aload_n hx hb dX4_readMove_95 rfl (lv_at hl 1 rfl) ?_
        refine lv_bipush (v := 48) hx hb dX4_readMove_96 (by decide) ?_
        refine lv_bipush (v := 57) hx hb dX4_readMove_98 (by decide) ?_
        refine cPV (As := [.int 48, .int 57]) (rest := []) ⟨hx, hb, hml, hown, hts⟩ (c_X4_sees l G a z sp pa st sv pd tl ns (nI q₀) t u (by assumption) (by omega) 48 57) (cwV 2 hts gX4_readMove_X4_sees rfl rfl rfl (by decide +kernel) ⟨Nat.le_of_ble_eq_true rfl, Nat.le_of_ble_eq_true rfl⟩) hK hP 0 (ci := 4) rfl rfl rfl rfl rfl hl.1 (Nat.le_of_ble_eq_true rfl) dX4_readMove_100 ⟨Nat.le_of_ble_eq_true rfl, Nat.le_of_ble_eq_true rfl⟩ ?_
        refine lv_if_eq (tgt := 160) hx hb dX4_readMove_103 (by decide) (fun c_103_2 => ?_) (fun c_103_2 => ?_)
        · refine lv_aload_n hx hb dX4_readMove_160 rfl (lv_at hl 1 rfl) ?_
          refine va_get (D := G.1) (ci := 4) (v := .ref (a 7)) (C := RX4) (T := TX4) (N := 11) hx hb hts hinX4 hown hK.1 hP 0 rfl rfl 9 (by decide) wk4 (fun _ h9 => h9) rfl dX4_readMove_161 ?_
          refine lv_aload_n hx hb dX4_readMove_164 rfl (lv_at hl 1 rfl) ?_
          refine va_get (D := G.1) (ci := 4) (v := .int (nI q₀)) (C := RX4) (T := TX4) (N := 11) hx hb hts hinX4 hown hK.1 hP 0 rfl rfl 10 (by decide) wk5 (fun _ h9 => h9) rfl dX4_readMove_165 ?_
          refine lv_iload_n hx hb dX4_readMove_168 rfl (lv_at hl 0 rfl) ?_
          refine qist hx hb hK.1 hP hD hS 7 0 rfl rfl (k := q₀) (nI_clamp (by omega)) (vp_in_nI (by omega) (by decide)) dX4_readMove_169 (fun H locs hP hD hS => ?_)
          have hP : va_P G.1 vwCl (mw G a z sp pa st sv pd (upd tl q₀ v) ns (nI t) (nI u) (nI q₀)) H := hP
          have hD : va_D A (mw G a z sp pa st sv pd (upd tl q₀ v) ns (nI t) (nI u) (nI q₀)) := hD
          refine lv_aload_n hx hb dX4_readMove_170 rfl (lv_at hl 1 rfl) ?_
          refine lv_dup hx hb dX4_readMove_171 rfl ?_
          refine va_get (D := G.1) (ci := 4) (v := .int (nI q₀)) (C := RX4) (T := TX4) (N := 11) hx hb hts hinX4 hown hK.1 hP 0 rfl rfl 10 (by decide) wk5 (fun _ h9 => h9) rfl dX4_readMove_172 ?_
          refine lv_iconst (v := 1) hx hb dX4_readMove_175 (by decide) ?_
          refine lv_iadd hx hb dX4_readMove_176 ?_
          refine qtop (nI_add q₀ 1) ?_
          refine va_put (D := G.1) (ci := 4) (v := .int (nI (q₀ + 1))) (ty := .int) (C := RX4) (T := TX4) (N := 11) hx hb hts hinX4 tyX4 tyX4_ok nmX4 hown hK.1 hP hD hS 0 rfl rfl 10 (by decide) wk5 (fun _ h9 => h9) rfl (by decide +kernel) rfl rfl (Nat.le_of_ble_eq_true rfl) dX4_readMove_177 (fun H locs hP hD hS => ?_)
          have hP : va_P G.1 vwCl (mw G a z sp pa st sv pd (upd tl q₀ v) ns (nI t) (nI u) (nI (q₀ + 1))) H := hP
          have hD : va_D A (mw G a z sp pa st sv pd (upd tl q₀ v) ns (nI t) (nI u) (nI (q₀ + 1))) := hD
          refine lv_iconst (v := 1) hx hb dX4_readMove_180 (by decide) ?_
          have he : rmS pd t s₀ q₀ tl = (1, u, q₀ + 1, upd tl q₀ v) := by rw [rmS_2 hk, ← hv]; simp only [rdL, if_neg c_92_1, if_pos c_103_2]
          have hP : va_P G.1 vwCl (mw G a z sp pa st sv pd (rmS pd t s₀ q₀ tl).2.2.2 ns (nI t) (nI (rmS pd t s₀ q₀ tl).2.1) (nI (rmS pd t s₀ q₀ tl).2.2.1)) H := by rw [he]; exact hP
          have hD : va_D A (mw G a z sp pa st sv pd (rmS pd t s₀ q₀ tl).2.2.2 ns (nI t) (nI (rmS pd t s₀ q₀ tl).2.1) (nI (rmS pd t s₀ q₀ tl).2.2.1)) := by rw [he]; exact hD
          exact hret _ _ _ _ _ () (by rw [he]) hP hD hS dX4_readMove_181
        · have hut := seB_lt (by omega) c_103_2
          refine lv_bipush (v := 10) hx hb dX4_readMove_106 (by decide) ?_
          refine lv_iload_n hx hb dX4_readMove_108 rfl (lv_at hl 0 rfl) ?_
          refine lv_imul hx hb dX4_readMove_109 ?_
          refine lv_aload_n hx hb dX4_readMove_110 rfl (lv_at hl 1 rfl) ?_
          refine va_get (D := G.1) (ci := 4) (v := .ref (a 6)) (C := RX4) (T := TX4) (N := 11) hx hb hts hinX4 hown hK.1 hP 0 rfl rfl 6 (by decide) wk3 (fun _ h9 => h9) rfl dX4_readMove_111 ?_
          refine lv_aload_n hx hb dX4_readMove_114 rfl (lv_at hl 1 rfl) ?_
          refine va_get (D := G.1) (ci := 4) (v := .int (nI u)) (C := RX4) (T := TX4) (N := 11) hx hb hts hinX4 hown hK.1 hP 0 rfl rfl 8 (by decide) wk1 (fun _ h9 => h9) rfl dX4_readMove_115 ?_
          refine qild hx hb hK.1 hP 6 0 rfl rfl (k := u) (nI_clamp (by omega)) (vp_in_nI (by omega) (by decide)) dX4_readMove_118 ?_
          refine lv_iadd hx hb dX4_readMove_119 ?_
          refine lv_bipush (v := 48) hx hb dX4_readMove_120 (by decide) ?_
          refine lv_isub hx hb dX4_readMove_122 ?_
          refine lv_sipush (v := 9999) hx hb dX4_readMove_123 (by decide) ?_
          refine lv_icmp_gt (tgt := 160) hx hb dX4_readMove_126 (by decide) (fun c_126_3 => ?_) (fun c_126_3 => ?_)
          · refine lv_aload_n hx hb dX4_readMove_160 rfl (lv_at hl 1 rfl) ?_
            refine va_get (D := G.1) (ci := 4) (v := .ref (a 7)) (C := RX4) (T := TX4) (N := 11) hx hb hts hinX4 hown hK.1 hP 0 rfl rfl 9 (by decide) wk4 (fun _ h9 => h9) rfl dX4_readMove_161 ?_
            refine lv_aload_n hx hb dX4_readMove_164 rfl (lv_at hl 1 rfl) ?_
            refine va_get (D := G.1) (ci := 4) (v := .int (nI q₀)) (C := RX4) (T := TX4) (N := 11) hx hb hts hinX4 hown hK.1 hP 0 rfl rfl 10 (by decide) wk5 (fun _ h9 => h9) rfl dX4_readMove_165 ?_
            refine lv_iload_n hx hb dX4_readMove_168 rfl (lv_at hl 0 rfl) ?_
            refine qist hx hb hK.1 hP hD hS 7 0 rfl rfl (k := q₀) (nI_clamp (by omega)) (vp_in_nI (by omega) (by decide)) dX4_readMove_169 (fun H locs hP hD hS => ?_)
            have hP : va_P G.1 vwCl (mw G a z sp pa st sv pd (upd tl q₀ v) ns (nI t) (nI u) (nI q₀)) H := hP
            have hD : va_D A (mw G a z sp pa st sv pd (upd tl q₀ v) ns (nI t) (nI u) (nI q₀)) := hD
            refine lv_aload_n hx hb dX4_readMove_170 rfl (lv_at hl 1 rfl) ?_
            refine lv_dup hx hb dX4_readMove_171 rfl ?_
            refine va_get (D := G.1) (ci := 4) (v := .int (nI q₀)) (C := RX4) (T := TX4) (N := 11) hx hb hts hinX4 hown hK.1 hP 0 rfl rfl 10 (by decide) wk5 (fun _ h9 => h9) rfl dX4_readMove_172 ?_
            refine lv_iconst (v := 1) hx hb dX4_readMove_175 (by decide) ?_
            refine lv_iadd hx hb dX4_readMove_176 ?_
            refine qtop (nI_add q₀ 1) ?_
            refine va_put (D := G.1) (ci := 4) (v := .int (nI (q₀ + 1))) (ty := .int) (C := RX4) (T := TX4) (N := 11) hx hb hts hinX4 tyX4 tyX4_ok nmX4 hown hK.1 hP hD hS 0 rfl rfl 10 (by decide) wk5 (fun _ h9 => h9) rfl (by decide +kernel) rfl rfl (Nat.le_of_ble_eq_true rfl) dX4_readMove_177 (fun H locs hP hD hS => ?_)
            have hP : va_P G.1 vwCl (mw G a z sp pa st sv pd (upd tl q₀ v) ns (nI t) (nI u) (nI (q₀ + 1))) H := hP
            have hD : va_D A (mw G a z sp pa st sv pd (upd tl q₀ v) ns (nI t) (nI u) (nI (q₀ + 1))) := hD
            refine lv_iconst (v := 1) hx hb dX4_readMove_180 (by decide) ?_
            have he : rmS pd t s₀ q₀ tl = (1, u, q₀ + 1, upd tl q₀ v) := by rw [rmS_2 hk, ← hv]; simp only [rdL, if_neg c_92_1, if_neg c_103_2, if_pos c_126_3]
            have hP : va_P G.1 vwCl (mw G a z sp pa st sv pd (rmS pd t s₀ q₀ tl).2.2.2 ns (nI t) (nI (rmS pd t s₀ q₀ tl).2.1) (nI (rmS pd t s₀ q₀ tl).2.2.1)) H := by rw [he]; exact hP
            have hD : va_D A (mw G a z sp pa st sv pd (rmS pd t s₀ q₀ tl).2.2.2 ns (nI t) (nI (rmS pd t s₀ q₀ tl).2.1) (nI (rmS pd t s₀ q₀ tl).2.2.1)) := by rw [he]; exact hD
            exact hret _ _ _ _ _ () (by rw [he]) hP hD hS dX4_readMove_181
          · refine lv_bipush (v := 10) hx hb dX4_readMove_129 (by decide) ?_
            refine lv_iload_n hx hb dX4_readMove_131 rfl (lv_at hl 0 rfl) ?_
            refine lv_imul hx hb dX4_readMove_132 ?_
            refine lv_aload_n hx hb dX4_readMove_133 rfl (lv_at hl 1 rfl) ?_
            refine va_get (D := G.1) (ci := 4) (v := .ref (a 6)) (C := RX4) (T := TX4) (N := 11) hx hb hts hinX4 hown hK.1 hP 0 rfl rfl 6 (by decide) wk3 (fun _ h9 => h9) rfl dX4_readMove_134 ?_
            refine lv_aload_n hx hb dX4_readMove_137 rfl (lv_at hl 1 rfl) ?_
            refine va_get (D := G.1) (ci := 4) (v := .int (nI u)) (C := RX4) (T := TX4) (N := 11) hx hb hts hinX4 hown hK.1 hP 0 rfl rfl 8 (by decide) wk1 (fun _ h9 => h9) rfl dX4_readMove_138 ?_
            refine qild hx hb hK.1 hP 6 0 rfl rfl (k := u) (nI_clamp (by omega)) (vp_in_nI (by omega) (by decide)) dX4_readMove_141 ?_
            refine lv_iadd hx hb dX4_readMove_142 ?_
            refine lv_bipush (v := 48) hx hb dX4_readMove_143 (by decide) ?_
            refine lv_isub hx hb dX4_readMove_145 ?_
            refine lv_istore_n (lv' := [(3, .int (((10 * v) + (pd u)) - 48)), (0, .ref (a 0))]) hx hb dX4_readMove_146 rfl hl (by decide) rfl (fun ls hl => ?_)
            refine lv_aload_n hx hb dX4_readMove_147 rfl (lv_at hl 1 rfl) ?_
            refine lv_dup hx hb dX4_readMove_148 rfl ?_
            refine va_get (D := G.1) (ci := 4) (v := .int (nI u)) (C := RX4) (T := TX4) (N := 11) hx hb hts hinX4 hown hK.1 hP 0 rfl rfl 8 (by decide) wk1 (fun _ h9 => h9) rfl dX4_readMove_149 ?_
            refine lv_iconst (v := 1) hx hb dX4_readMove_152 (by decide) ?_
            refine lv_iadd hx hb dX4_readMove_153 ?_
            refine qtop (nI_add u 1) ?_
            refine va_put (D := G.1) (ci := 4) (v := .int (nI (u + 1))) (ty := .int) (C := RX4) (T := TX4) (N := 11) hx hb hts hinX4 tyX4 tyX4_ok nmX4 hown hK.1 hP hD hS 0 rfl rfl 8 (by decide) wk1 (fun _ h9 => h9) rfl (by decide +kernel) rfl rfl (Nat.le_of_ble_eq_true rfl) dX4_readMove_154 (fun H locs hP hD hS => ?_)
            have hP : va_P G.1 vwCl (mw G a z sp pa st sv pd tl ns (nI t) (nI (u + 1)) (nI q₀)) H := hP
            have hD : va_D A (mw G a z sp pa st sv pd tl ns (nI t) (nI (u + 1)) (nI q₀)) := hD
            refine lv_goto (tgt := 91) hx hb dX4_readMove_157 (by decide) ?_
            exact ih (u + 1) (((10 * v) + (pd u)) - 48) (by omega) hut (by rw [← hv]; simp only [rdL, if_neg c_92_1, if_neg c_103_2, if_neg c_126_3]) _ _ hP hD hS ls (lv_sub hl [0, 1] rfl)
  refine lv_aload_n hx hb dX4_readMove_0 rfl (lv_at hl 0 rfl) ?_
  refine va_get (D := G.1) (ci := 4) (v := .int (nI s₀)) (C := RX4) (T := TX4) (N := 11) hx hb hts hinX4 hown hK.1 hP 0 rfl rfl 8 (by decide) wk1 (fun _ h9 => h9) rfl dX4_readMove_1 ?_
  refine lv_aload_n hx hb dX4_readMove_4 rfl (lv_at hl 0 rfl) ?_
  refine va_get (D := G.1) (ci := 4) (v := .int (nI t)) (C := RX4) (T := TX4) (N := 11) hx hb hts hinX4 hown hK.1 hP 0 rfl rfl 7 (by decide) wk2 (fun _ h9 => h9) rfl dX4_readMove_5 ?_
  refine lv_icmp_ge (tgt := 23) hx hb dX4_readMove_8 (by decide) (fun c_8_4 => ?_) (fun c_8_4 => ?_)
  · have h035 : inB 0 48 57 = 0 := by decide +kernel
    refine lv_iconst (v := 0) hx hb dX4_readMove_23 (by decide) ?_
    refine lv_istore_n (lv' := [(1, .int 0), (0, .ref (a 0))]) hx hb dX4_readMove_24 rfl hl (by decide) rfl (fun ls hl => ?_)
    refine lv_iload_n hx hb dX4_readMove_25 rfl (lv_at hl 0 rfl) ?_
    refine lv_bipush (v := 48) hx hb dX4_readMove_26 (by decide) ?_
    refine lv_bipush (v := 57) hx hb dX4_readMove_28 (by decide) ?_
    refine cPS (As := [.int 0, .int 48, .int 57]) (rest := []) ⟨hx, hb, hml, hown, hts⟩ (c_X4_in l G 0 48 57) (cwS 3 hts gX4_readMove_X4_in rfl rfl rfl (by decide +kernel) ⟨Nat.le_of_ble_eq_true rfl, Nat.le_of_ble_eq_true rfl⟩) hK (fun k q h => by simp at h) rfl rfl hl.1 (Nat.le_of_ble_eq_true rfl) dX4_readMove_30 ⟨Nat.le_of_ble_eq_true rfl, Nat.le_of_ble_eq_true rfl⟩ ?_
    refine lv_istore_n (lv' := [(2, .int (inB 0 48 57)), (1, .int 0), (0, .ref (a 0))]) hx hb dX4_readMove_33 rfl hl (by decide) rfl (fun ls hl => ?_)
    refine lv_iload_n hx hb dX4_readMove_34 rfl (lv_at hl 0 rfl) ?_
    refine lv_if_ne (tgt := 64) hx hb dX4_readMove_35 (by decide) (fun c_9 => absurd h035 c_9) (fun _ => ?_)
    refine lv_iload_n hx hb dX4_readMove_38 rfl (lv_at hl 1 rfl) ?_
    refine lv_bipush (v := 43) hx hb dX4_readMove_39 (by decide) ?_
    refine lv_icmp_eq (tgt := 64) hx hb dX4_readMove_41 (by decide) (fun c_9 => absurd c_9 (by decide)) (fun _ => ?_)
    refine lv_iload_n hx hb dX4_readMove_44 rfl (lv_at hl 1 rfl) ?_
    refine lv_bipush (v := 45) hx hb dX4_readMove_45 (by decide) ?_
    refine lv_icmp_eq (tgt := 64) hx hb dX4_readMove_47 (by decide) (fun c_9 => absurd c_9 (by decide)) (fun _ => ?_)
    refine lv_iload_n hx hb dX4_readMove_50 rfl (lv_at hl 1 rfl) ?_
    refine lv_bipush (v := 42) hx hb dX4_readMove_51 (by decide) ?_
    refine lv_icmp_eq (tgt := 64) hx hb dX4_readMove_53 (by decide) (fun c_9 => absurd c_9 (by decide)) (fun _ => ?_)
    refine lv_iload_n hx hb dX4_readMove_56 rfl (lv_at hl 1 rfl) ?_
    refine lv_bipush (v := 33) hx hb dX4_readMove_57 (by decide) ?_
    refine lv_icmp_eq (tgt := 64) hx hb dX4_readMove_59 (by decide) (fun c_9 => absurd c_9 (by decide)) (fun _ => ?_)
    refine lv_iconst (v := 0) hx hb dX4_readMove_62 (by decide) ?_
    have hk : rmK pd s₀ t = 0 := by simp only [rmK, sgB, if_pos c_8_4, if_pos h035, lz_43, lz_45, lz_42, lz_33, if_false, if_true, if_false]
    have hP : va_P G.1 vwCl (mw G a z sp pa st sv pd (rmS pd t s₀ q₀ tl).2.2.2 ns (nI t) (nI (rmS pd t s₀ q₀ tl).2.1) (nI (rmS pd t s₀ q₀ tl).2.2.1)) s.heap := by rw [rmS_1 hk]; exact hP
    have hD : va_D A (mw G a z sp pa st sv pd (rmS pd t s₀ q₀ tl).2.2.2 ns (nI t) (nI (rmS pd t s₀ q₀ tl).2.1) (nI (rmS pd t s₀ q₀ tl).2.2.1)) := by rw [rmS_1 hk]; exact hD
    exact hret _ _ _ _ _ () (by rw [rmS_1 hk]) hP hD hS dX4_readMove_63
  · have hlt := nlt_of (by omega) c_8_4
    refine lv_aload_n hx hb dX4_readMove_11 rfl (lv_at hl 0 rfl) ?_
    refine va_get (D := G.1) (ci := 4) (v := .ref (a 6)) (C := RX4) (T := TX4) (N := 11) hx hb hts hinX4 hown hK.1 hP 0 rfl rfl 6 (by decide) wk3 (fun _ h9 => h9) rfl dX4_readMove_12 ?_
    refine lv_aload_n hx hb dX4_readMove_15 rfl (lv_at hl 0 rfl) ?_
    refine va_get (D := G.1) (ci := 4) (v := .int (nI s₀)) (C := RX4) (T := TX4) (N := 11) hx hb hts hinX4 hown hK.1 hP 0 rfl rfl 8 (by decide) wk1 (fun _ h9 => h9) rfl dX4_readMove_16 ?_
    refine qild hx hb hK.1 hP 6 0 rfl rfl (k := s₀) (nI_clamp (by omega)) (vp_in_nI (by omega) (by decide)) dX4_readMove_19 ?_
    refine lv_goto (tgt := 24) hx hb dX4_readMove_20 (by decide) ?_
    refine lv_istore_n (lv' := [(1, .int (pd s₀)), (0, .ref (a 0))]) hx hb dX4_readMove_24 rfl hl (by decide) rfl (fun ls hl => ?_)
    refine lv_iload_n hx hb dX4_readMove_25 rfl (lv_at hl 0 rfl) ?_
    refine lv_bipush (v := 48) hx hb dX4_readMove_26 (by decide) ?_
    refine lv_bipush (v := 57) hx hb dX4_readMove_28 (by decide) ?_
    refine cPS (As := [.int (pd s₀), .int 48, .int 57]) (rest := []) ⟨hx, hb, hml, hown, hts⟩ (c_X4_in l G (pd s₀) 48 57) (cwS 3 hts gX4_readMove_X4_in rfl rfl rfl (by decide +kernel) ⟨Nat.le_of_ble_eq_true rfl, Nat.le_of_ble_eq_true rfl⟩) hK (fun k q h => by simp at h) rfl rfl hl.1 (Nat.le_of_ble_eq_true rfl) dX4_readMove_30 ⟨Nat.le_of_ble_eq_true rfl, Nat.le_of_ble_eq_true rfl⟩ ?_
    refine lv_istore_n (lv' := [(2, .int (inB (pd s₀) 48 57)), (1, .int (pd s₀)), (0, .ref (a 0))]) hx hb dX4_readMove_33 rfl hl (by decide) rfl (fun ls hl => ?_)
    refine lv_iload_n hx hb dX4_readMove_34 rfl (lv_at hl 0 rfl) ?_
    refine lv_if_ne (tgt := 64) hx hb dX4_readMove_35 (by decide) (fun c_35_5 => ?_) (fun c_35_5 => ?_)
    · refine lv_iload_n hx hb dX4_readMove_64 rfl (lv_at hl 0 rfl) ?_
      refine lv_if_eq (tgt := 75) hx hb dX4_readMove_65 (by decide) (fun c_9 => absurd c_9 c_35_5) (fun _ => ?_)
      refine lv_iload_n hx hb dX4_readMove_68 rfl (lv_at hl 1 rfl) ?_
      refine lv_bipush (v := 48) hx hb dX4_readMove_69 (by decide) ?_
      refine lv_isub hx hb dX4_readMove_71 ?_
      refine lv_goto (tgt := 80) hx hb dX4_readMove_72 (by decide) ?_
      refine lv_istore_n (lv' := [(3, .int ((pd s₀) - 48)), (2, .int (inB (pd s₀) 48 57)), (1, .int (pd s₀)), (0, .ref (a 0))]) hx hb dX4_readMove_80 rfl hl (by decide) rfl (fun ls hl => ?_)
      refine lv_aload_n hx hb dX4_readMove_81 rfl (lv_at hl 3 rfl) ?_
      refine lv_dup hx hb dX4_readMove_82 rfl ?_
      refine va_get (D := G.1) (ci := 4) (v := .int (nI s₀)) (C := RX4) (T := TX4) (N := 11) hx hb hts hinX4 hown hK.1 hP 0 rfl rfl 8 (by decide) wk1 (fun _ h9 => h9) rfl dX4_readMove_83 ?_
      refine lv_iconst (v := 1) hx hb dX4_readMove_86 (by decide) ?_
      refine lv_iadd hx hb dX4_readMove_87 ?_
      refine qtop (nI_add s₀ 1) ?_
      refine va_put (D := G.1) (ci := 4) (v := .int (nI (s₀ + 1))) (ty := .int) (C := RX4) (T := TX4) (N := 11) hx hb hts hinX4 tyX4 tyX4_ok nmX4 hown hK.1 hP hD hS 0 rfl rfl 8 (by decide) wk1 (fun _ h9 => h9) rfl (by decide +kernel) rfl rfl (Nat.le_of_ble_eq_true rfl) dX4_readMove_88 (fun H locs hP hD hS => ?_)
      have hP : va_P G.1 vwCl (mw G a z sp pa st sv pd tl ns (nI t) (nI (s₀ + 1)) (nI q₀)) H := hP
      have hD : va_D A (mw G a z sp pa st sv pd tl ns (nI t) (nI (s₀ + 1)) (nI q₀)) := hD
      have hk : ¬ rmK pd s₀ t = 0 := by simp only [rmK, sgB, if_neg c_8_4, if_neg c_35_5, if_true, if_false]; exact lz_o
      exact L91 hk (61 - (s₀ + 1)) (s₀ + 1) ((pd s₀) - 48) (by omega) (rmK_lt (by omega) hk) (by simp only [rmR, sgB, if_neg c_8_4, if_neg c_35_5]) _ _ hP hD hS ls (lv_sub hl [0, 3] rfl)
    · refine lv_iload_n hx hb dX4_readMove_38 rfl (lv_at hl 1 rfl) ?_
      refine lv_bipush (v := 43) hx hb dX4_readMove_39 (by decide) ?_
      refine lv_icmp_eq (tgt := 64) hx hb dX4_readMove_41 (by decide) (fun c_41_6 => ?_) (fun c_41_6 => ?_)
      · refine lv_iload_n hx hb dX4_readMove_64 rfl (lv_at hl 0 rfl) ?_
        refine lv_if_eq (tgt := 75) hx hb dX4_readMove_65 (by decide) (fun _ => ?_) (fun c_9 => absurd c_35_5 c_9)
        refine lv_iload_n hx hb dX4_readMove_75 rfl (lv_at hl 1 rfl) ?_
        refine lv_sipush (v := 1000) hx hb dX4_readMove_76 (by decide) ?_
        refine lv_isub hx hb dX4_readMove_79 ?_
        refine lv_istore_n (lv' := [(3, .int ((pd s₀) - 1000)), (2, .int (inB (pd s₀) 48 57)), (1, .int (pd s₀)), (0, .ref (a 0))]) hx hb dX4_readMove_80 rfl hl (by decide) rfl (fun ls hl => ?_)
        refine lv_aload_n hx hb dX4_readMove_81 rfl (lv_at hl 3 rfl) ?_
        refine lv_dup hx hb dX4_readMove_82 rfl ?_
        refine va_get (D := G.1) (ci := 4) (v := .int (nI s₀)) (C := RX4) (T := TX4) (N := 11) hx hb hts hinX4 hown hK.1 hP 0 rfl rfl 8 (by decide) wk1 (fun _ h9 => h9) rfl dX4_readMove_83 ?_
        refine lv_iconst (v := 1) hx hb dX4_readMove_86 (by decide) ?_
        refine lv_iadd hx hb dX4_readMove_87 ?_
        refine qtop (nI_add s₀ 1) ?_
        refine va_put (D := G.1) (ci := 4) (v := .int (nI (s₀ + 1))) (ty := .int) (C := RX4) (T := TX4) (N := 11) hx hb hts hinX4 tyX4 tyX4_ok nmX4 hown hK.1 hP hD hS 0 rfl rfl 8 (by decide) wk1 (fun _ h9 => h9) rfl (by decide +kernel) rfl rfl (Nat.le_of_ble_eq_true rfl) dX4_readMove_88 (fun H locs hP hD hS => ?_)
        have hP : va_P G.1 vwCl (mw G a z sp pa st sv pd tl ns (nI t) (nI (s₀ + 1)) (nI q₀)) H := hP
        have hD : va_D A (mw G a z sp pa st sv pd tl ns (nI t) (nI (s₀ + 1)) (nI q₀)) := hD
        have hk : ¬ rmK pd s₀ t = 0 := by simp only [rmK, sgB, if_neg c_8_4, if_pos c_35_5, if_pos c_41_6, if_true, if_false]; exact lz_o
        exact L91 hk (61 - (s₀ + 1)) (s₀ + 1) ((pd s₀) - 1000) (by omega) (rmK_lt (by omega) hk) (by simp only [rmR, sgB, if_neg c_8_4, if_pos c_35_5, if_pos c_41_6]) _ _ hP hD hS ls (lv_sub hl [0, 3] rfl)
      · refine lv_iload_n hx hb dX4_readMove_44 rfl (lv_at hl 1 rfl) ?_
        refine lv_bipush (v := 45) hx hb dX4_readMove_45 (by decide) ?_
        refine lv_icmp_eq (tgt := 64) hx hb dX4_readMove_47 (by decide) (fun c_47_7 => ?_) (fun c_47_7 => ?_)
        · refine lv_iload_n hx hb dX4_readMove_64 rfl (lv_at hl 0 rfl) ?_
          refine lv_if_eq (tgt := 75) hx hb dX4_readMove_65 (by decide) (fun _ => ?_) (fun c_9 => absurd c_35_5 c_9)
          refine lv_iload_n hx hb dX4_readMove_75 rfl (lv_at hl 1 rfl) ?_
          refine lv_sipush (v := 1000) hx hb dX4_readMove_76 (by decide) ?_
          refine lv_isub hx hb dX4_readMove_79 ?_
          refine lv_istore_n (lv' := [(3, .int ((pd s₀) - 1000)), (2, .int (inB (pd s₀) 48 57)), (1, .int (pd s₀)), (0, .ref (a 0))]) hx hb dX4_readMove_80 rfl hl (by decide) rfl (fun ls hl => ?_)
          refine lv_aload_n hx hb dX4_readMove_81 rfl (lv_at hl 3 rfl) ?_
          refine lv_dup hx hb dX4_readMove_82 rfl ?_
          refine va_get (D := G.1) (ci := 4) (v := .int (nI s₀)) (C := RX4) (T := TX4) (N := 11) hx hb hts hinX4 hown hK.1 hP 0 rfl rfl 8 (by decide) wk1 (fun _ h9 => h9) rfl dX4_readMove_83 ?_
          refine lv_iconst (v := 1) hx hb dX4_readMove_86 (by decide) ?_
          refine lv_iadd hx hb dX4_readMove_87 ?_
          refine qtop (nI_add s₀ 1) ?_
          refine va_put (D := G.1) (ci := 4) (v := .int (nI (s₀ + 1))) (ty := .int) (C := RX4) (T := TX4) (N := 11) hx hb hts hinX4 tyX4 tyX4_ok nmX4 hown hK.1 hP hD hS 0 rfl rfl 8 (by decide) wk1 (fun _ h9 => h9) rfl (by decide +kernel) rfl rfl (Nat.le_of_ble_eq_true rfl) dX4_readMove_88 (fun H locs hP hD hS => ?_)
          have hP : va_P G.1 vwCl (mw G a z sp pa st sv pd tl ns (nI t) (nI (s₀ + 1)) (nI q₀)) H := hP
          have hD : va_D A (mw G a z sp pa st sv pd tl ns (nI t) (nI (s₀ + 1)) (nI q₀)) := hD
          have hk : ¬ rmK pd s₀ t = 0 := by simp only [rmK, sgB, if_neg c_8_4, if_pos c_35_5, if_neg c_41_6, if_pos c_47_7, if_true, if_false]; exact lz_o
          exact L91 hk (61 - (s₀ + 1)) (s₀ + 1) ((pd s₀) - 1000) (by omega) (rmK_lt (by omega) hk) (by simp only [rmR, sgB, if_neg c_8_4, if_pos c_35_5, if_neg c_41_6, if_pos c_47_7]) _ _ hP hD hS ls (lv_sub hl [0, 3] rfl)
        · refine lv_iload_n hx hb dX4_readMove_50 rfl (lv_at hl 1 rfl) ?_
          refine lv_bipush (v := 42) hx hb dX4_readMove_51 (by decide) ?_
          refine lv_icmp_eq (tgt := 64) hx hb dX4_readMove_53 (by decide) (fun c_53_8 => ?_) (fun c_53_8 => ?_)
          · refine lv_iload_n hx hb dX4_readMove_64 rfl (lv_at hl 0 rfl) ?_
            refine lv_if_eq (tgt := 75) hx hb dX4_readMove_65 (by decide) (fun _ => ?_) (fun c_9 => absurd c_35_5 c_9)
            refine lv_iload_n hx hb dX4_readMove_75 rfl (lv_at hl 1 rfl) ?_
            refine lv_sipush (v := 1000) hx hb dX4_readMove_76 (by decide) ?_
            refine lv_isub hx hb dX4_readMove_79 ?_
            refine lv_istore_n (lv' := [(3, .int ((pd s₀) - 1000)), (2, .int (inB (pd s₀) 48 57)), (1, .int (pd s₀)), (0, .ref (a 0))]) hx hb dX4_readMove_80 rfl hl (by decide) rfl (fun ls hl => ?_)
            refine lv_aload_n hx hb dX4_readMove_81 rfl (lv_at hl 3 rfl) ?_
            refine lv_dup hx hb dX4_readMove_82 rfl ?_
            refine va_get (D := G.1) (ci := 4) (v := .int (nI s₀)) (C := RX4) (T := TX4) (N := 11) hx hb hts hinX4 hown hK.1 hP 0 rfl rfl 8 (by decide) wk1 (fun _ h9 => h9) rfl dX4_readMove_83 ?_
            refine lv_iconst (v := 1) hx hb dX4_readMove_86 (by decide) ?_
            refine lv_iadd hx hb dX4_readMove_87 ?_
            refine qtop (nI_add s₀ 1) ?_
            refine va_put (D := G.1) (ci := 4) (v := .int (nI (s₀ + 1))) (ty := .int) (C := RX4) (T := TX4) (N := 11) hx hb hts hinX4 tyX4 tyX4_ok nmX4 hown hK.1 hP hD hS 0 rfl rfl 8 (by decide) wk1 (fun _ h9 => h9) rfl (by decide +kernel) rfl rfl (Nat.le_of_ble_eq_true rfl) dX4_readMove_88 (fun H locs hP hD hS => ?_)
            have hP : va_P G.1 vwCl (mw G a z sp pa st sv pd tl ns (nI t) (nI (s₀ + 1)) (nI q₀)) H := hP
            have hD : va_D A (mw G a z sp pa st sv pd tl ns (nI t) (nI (s₀ + 1)) (nI q₀)) := hD
            have hk : ¬ rmK pd s₀ t = 0 := by simp only [rmK, sgB, if_neg c_8_4, if_pos c_35_5, if_neg c_41_6, if_neg c_47_7, if_pos c_53_8, if_true, if_false]; exact lz_o
            exact L91 hk (61 - (s₀ + 1)) (s₀ + 1) ((pd s₀) - 1000) (by omega) (rmK_lt (by omega) hk) (by simp only [rmR, sgB, if_neg c_8_4, if_pos c_35_5, if_neg c_41_6, if_neg c_47_7, if_pos c_53_8]) _ _ hP hD hS ls (lv_sub hl [0, 3] rfl)
          · refine lv_iload_n hx hb dX4_readMove_56 rfl (lv_at hl 1 rfl) ?_
            refine lv_bipush (v := 33) hx hb dX4_readMove_57 (by decide) ?_
            refine lv_icmp_eq (tgt := 64) hx hb dX4_readMove_59 (by decide) (fun c_59_9 => ?_) (fun c_59_9 => ?_)
            · refine lv_iload_n hx hb dX4_readMove_64 rfl (lv_at hl 0 rfl) ?_
              refine lv_if_eq (tgt := 75) hx hb dX4_readMove_65 (by decide) (fun _ => ?_) (fun c_9 => absurd c_35_5 c_9)
              refine lv_iload_n hx hb dX4_readMove_75 rfl (lv_at hl 1 rfl) ?_
              refine lv_sipush (v := 1000) hx hb dX4_readMove_76 (by decide) ?_
              refine lv_isub hx hb dX4_readMove_79 ?_
              refine lv_istore_n (lv' := [(3, .int ((pd s₀) - 1000)), (2, .int (inB (pd s₀) 48 57)), (1, .int (pd s₀)), (0, .ref (a 0))]) hx hb dX4_readMove_80 rfl hl (by decide) rfl (fun ls hl => ?_)
              refine lv_aload_n hx hb dX4_readMove_81 rfl (lv_at hl 3 rfl) ?_
              refine lv_dup hx hb dX4_readMove_82 rfl ?_
              refine va_get (D := G.1) (ci := 4) (v := .int (nI s₀)) (C := RX4) (T := TX4) (N := 11) hx hb hts hinX4 hown hK.1 hP 0 rfl rfl 8 (by decide) wk1 (fun _ h9 => h9) rfl dX4_readMove_83 ?_
              refine lv_iconst (v := 1) hx hb dX4_readMove_86 (by decide) ?_
              refine lv_iadd hx hb dX4_readMove_87 ?_
              refine qtop (nI_add s₀ 1) ?_
              refine va_put (D := G.1) (ci := 4) (v := .int (nI (s₀ + 1))) (ty := .int) (C := RX4) (T := TX4) (N := 11) hx hb hts hinX4 tyX4 tyX4_ok nmX4 hown hK.1 hP hD hS 0 rfl rfl 8 (by decide) wk1 (fun _ h9 => h9) rfl (by decide +kernel) rfl rfl (Nat.le_of_ble_eq_true rfl) dX4_readMove_88 (fun H locs hP hD hS => ?_)
              have hP : va_P G.1 vwCl (mw G a z sp pa st sv pd tl ns (nI t) (nI (s₀ + 1)) (nI q₀)) H := hP
              have hD : va_D A (mw G a z sp pa st sv pd tl ns (nI t) (nI (s₀ + 1)) (nI q₀)) := hD
              have hk : ¬ rmK pd s₀ t = 0 := by simp only [rmK, sgB, if_neg c_8_4, if_pos c_35_5, if_neg c_41_6, if_neg c_47_7, if_neg c_53_8, if_pos c_59_9, if_true, if_false]; exact lz_o
              exact L91 hk (61 - (s₀ + 1)) (s₀ + 1) ((pd s₀) - 1000) (by omega) (rmK_lt (by omega) hk) (by simp only [rmR, sgB, if_neg c_8_4, if_pos c_35_5, if_neg c_41_6, if_neg c_47_7, if_neg c_53_8, if_pos c_59_9]) _ _ hP hD hS ls (lv_sub hl [0, 3] rfl)
            · refine lv_iconst (v := 0) hx hb dX4_readMove_62 (by decide) ?_
              have hk : rmK pd s₀ t = 0 := by simp only [rmK, sgB, if_neg c_8_4, if_pos c_35_5, if_neg c_41_6, if_neg c_47_7, if_neg c_53_8, if_neg c_59_9, if_true, if_false]
              have hP : va_P G.1 vwCl (mw G a z sp pa st sv pd (rmS pd t s₀ q₀ tl).2.2.2 ns (nI t) (nI (rmS pd t s₀ q₀ tl).2.1) (nI (rmS pd t s₀ q₀ tl).2.2.1)) s.heap := by rw [rmS_1 hk]; exact hP
              have hD : va_D A (mw G a z sp pa st sv pd (rmS pd t s₀ q₀ tl).2.2.2 ns (nI t) (nI (rmS pd t s₀ q₀ tl).2.1) (nI (rmS pd t s₀ q₀ tl).2.2.1)) := by rw [rmS_1 hk]; exact hD
              exact hret _ _ _ _ _ () (by rw [rmS_1 hk]) hP hD hS dX4_readMove_63
set_option maxHeartbeats 4000000 in
set_option maxRecDepth 100000 in
theorem c_X4_readPad (l : Launch) (G : qG) (a : Nat → Nat) (z sp pa st sv pd tl : Nat → Int32) (ns spt tm : Int32) (t : Nat) (ht : t ≤ 60)  (sz : Nat) : MI l yX4_readPad wsX4_readPad 3 67 G sz [.ref (a 0)] (mw G a z sp pa st sv pd tl ns (nI t) spt tm) ((rpR pd t tl).1) (mw G a z sp pa st sv pd ((rpR pd t tl).2.2.2) ns (nI t) (nI ((rpR pd t tl).2.1)) (nI ((rpR pd t tl).2.2.1))) := by
  refine MI.ofZ (rpR_nar pd t tl) (by decide) rfl (Nat.le_of_ble_eq_true rfl) ?_
  intro p e s m below meth c hx hb hml hown hts hK hsz hP A hAe hA hD hS Q hret ls hl
  have hown : s.vm.findClass RX4 = some m.cls := hown
  have hl : lv_has ls 2 [(0, .ref (a 0))] := hl
  have wk1 := hts (Cond.fieldLink RX4 121 "TurnBidsModel" "spot" "I") (List.mem_of_getElem? (i := 1) rfl)
  have wk2 := hts (Cond.fieldLink RX4 127 "TurnBidsModel" "toldMany" "I") (List.mem_of_getElem? (i := 2) rfl)
  have wk3 := hts (Cond.fieldLink RX4 117 "TurnBidsModel" "typed" "I") (List.mem_of_getElem? (i := 3) rfl)
  have wk4 := hts (Cond.methodLink RX4 130 yX4_readMove) (List.mem_of_getElem? (i := 4) rfl)
  have wk18 := hts (Cond.methodLink RX4 134 yX4_takes) (List.mem_of_getElem? (i := 18) rfl)
  have hinX4 : ∀ w ∈ wsX40, w ∈ wsX4_readPad := fun _ h => (List.mem_cons_of_mem _ (List.mem_append_right _ h))
  have L15 : ∀ (f : Nat) (g : Int32) (u q : Nat) (y : Nat → Int32), (¬ g = 0 → 62 ≤ u + f) → u ≤ t → 2 * q ≤ u + 1 → rpL pd t f (g, u, q, y) = rpR pd t tl → ∀ (H : Heap) (locs : List Loc), va_P G.1 vwCl (mw G a z sp pa st sv pd y ns (nI t) (nI u) (nI q)) H → va_D A (mw G a z sp pa st sv pd y ns (nI t) (nI u) (nI q)) → va_S A s.heap H locs → ∀ ls : Array Slot, lv_has ls 2 [(1, .int g), (0, .ref (a 0))] → W p l e { frames := 3, cells := 0, slots := 0, locals := 67 } s m ([.ref (a 0)] : List Value).toArray below meth c H locs 0 0 Q (F0 m 15 ls []) := by
    intro f
    induction f with
    | zero =>
      intro g u q y hi hu hq hv H locs hP hD hS ls hl
      refine lv_iload_n hx hb dX4_readPad_15 rfl (lv_at hl 0 rfl) ?_
      refine lv_if_eq (tgt := 55) hx hb dX4_readPad_16 (by decide) (fun c_16_1 => ?_) (fun c_16_1 => ?_)
      · refine lv_iload_n hx hb dX4_readPad_55 rfl (lv_at hl 0 rfl) ?_
        have he : rpR pd t tl = (g, u, q, y) := by rw [← hv]; simp only [rpL, if_pos c_16_1]
        have hP : va_P G.1 vwCl (mw G a z sp pa st sv pd (rpR pd t tl).2.2.2 ns (nI t) (nI (rpR pd t tl).2.1) (nI (rpR pd t tl).2.2.1)) H := by rw [he]; exact hP
        have hD : va_D A (mw G a z sp pa st sv pd (rpR pd t tl).2.2.2 ns (nI t) (nI (rpR pd t tl).2.1) (nI (rpR pd t tl).2.2.1)) := by rw [he]; exact hD
        exact hret _ _ _ _ _ () (by rw [he]) hP hD hS dX4_readPad_56
      · exact absurd (hi c_16_1) (by omega)
    | succ f ih =>
      intro g u q y hi hu hq hv H locs hP hD hS ls hl
      refine lv_iload_n hx hb dX4_readPad_15 rfl (lv_at hl 0 rfl) ?_
      refine lv_if_eq (tgt := 55) hx hb dX4_readPad_16 (by decide) (fun c_16_2 => ?_) (fun c_16_2 => ?_)
      · refine lv_iload_n hx hb dX4_readPad_55 rfl (lv_at hl 0 rfl) ?_
        have he : rpR pd t tl = (g, u, q, y) := by rw [← hv]; simp only [rpL, if_pos c_16_2]
        have hP : va_P G.1 vwCl (mw G a z sp pa st sv pd (rpR pd t tl).2.2.2 ns (nI t) (nI (rpR pd t tl).2.1) (nI (rpR pd t tl).2.2.1)) H := by rw [he]; exact hP
        have hD : va_D A (mw G a z sp pa st sv pd (rpR pd t tl).2.2.2 ns (nI t) (nI (rpR pd t tl).2.1) (nI (rpR pd t tl).2.2.1)) := by rw [he]; exact hD
        exact hret _ _ _ _ _ () (by rw [he]) hP hD hS dX4_readPad_56
      · have hi2 := hi c_16_2
        refine lv_aload_n hx hb dX4_readPad_19 rfl (lv_at hl 1 rfl) ?_
        refine va_get (D := G.1) (ci := 4) (v := .int (nI u)) (C := RX4) (T := TX4) (N := 11) hx hb hts hinX4 hown hK.1 hP 0 rfl rfl 8 (by decide) wk1 (fun _ h9 => h9) rfl dX4_readPad_20 ?_
        refine lv_aload_n hx hb dX4_readPad_23 rfl (lv_at hl 1 rfl) ?_
        refine va_get (D := G.1) (ci := 4) (v := .int (nI t)) (C := RX4) (T := TX4) (N := 11) hx hb hts hinX4 hown hK.1 hP 0 rfl rfl 7 (by decide) wk3 (fun _ h9 => h9) rfl dX4_readPad_24 ?_
        refine lv_icmp_ge (tgt := 55) hx hb dX4_readPad_27 (by decide) (fun c_27_3 => ?_) (fun c_27_3 => ?_)
        · refine lv_iload_n hx hb dX4_readPad_55 rfl (lv_at hl 0 rfl) ?_
          have he : rpR pd t tl = (g, u, q, y) := by rw [← hv]; simp only [rpL, if_neg c_16_2, if_pos c_27_3]
          have hP : va_P G.1 vwCl (mw G a z sp pa st sv pd (rpR pd t tl).2.2.2 ns (nI t) (nI (rpR pd t tl).2.1) (nI (rpR pd t tl).2.2.1)) H := by rw [he]; exact hP
          have hD : va_D A (mw G a z sp pa st sv pd (rpR pd t tl).2.2.2 ns (nI t) (nI (rpR pd t tl).2.1) (nI (rpR pd t tl).2.2.1)) := by rw [he]; exact hD
          exact hret _ _ _ _ _ () (by rw [he]) hP hD hS dX4_readPad_56
        · have hut := nlt_of (by omega) c_27_3
          refine lv_aload_n hx hb dX4_readPad_30 rfl (lv_at hl 1 rfl) ?_
          refine lv_bipush (v := 44) hx hb dX4_readPad_31 (by decide) ?_
          refine cAI (As := [.int 44]) (rest := []) ⟨hx, hb, hml, hown, hts⟩ (c_X4_takes l G a z sp pa st sv pd y ns (nI q) t u (by assumption) (by omega) 44 _) (cwV 1 hts gX4_readPad_X4_takes rfl rfl rfl (by decide +kernel) ⟨Nat.le_of_ble_eq_true rfl, Nat.le_of_ble_eq_true rfl⟩) hK hP hD hS hA 0 (ci := 4) rfl rfl rfl rfl rfl hl.1 (Nat.le_of_ble_eq_true rfl) dX4_readPad_33 ⟨Nat.le_of_ble_eq_true rfl, Nat.le_of_ble_eq_true rfl⟩ (fun r_4 u_4 H locs hr_4 hP hD hS => ?_)
          have hr_4 : r_4 = seB pd u t 44 44 := hr_4
          subst hr_4
          have hP : va_P G.1 vwCl (mw G a z sp pa st sv pd y ns (nI t) (nI (tkS pd u t 44)) (nI q)) H := hP
          have hD : va_D A (mw G a z sp pa st sv pd y ns (nI t) (nI (tkS pd u t 44)) (nI q)) := hD
          refine lv_if_eq (tgt := 50) hx hb dX4_readPad_36 (by decide) (fun c_36_5 => ?_) (fun c_36_5 => ?_)
          · have htk : tkS pd u t 44 = u + 0 := by rw [tkS, if_pos c_36_5]
            rw [htk] at hP hD
            refine lv_iconst (v := 0) hx hb dX4_readPad_50 (by decide) ?_
            refine lv_istore_n (lv' := [(1, .int 0), (0, .ref (a 0))]) hx hb dX4_readPad_51 rfl hl (by decide) rfl (fun ls hl => ?_)
            refine lv_goto (tgt := 15) hx hb dX4_readPad_52 (by decide) ?_
            exact ih 0 (u + 0) q y (fun h => absurd rfl h) (by omega) (by omega) (by rw [← hv]; simp only [rpL, if_neg c_16_2, if_neg c_27_3, if_pos c_36_5]) _ _ hP hD hS ls (lv_sub hl [0, 1] rfl)
          · have htk : tkS pd u t 44 = u + 1 := by rw [tkS, if_neg c_36_5]
            rw [htk] at hP hD
            refine lv_aload_n hx hb dX4_readPad_39 rfl (lv_at hl 1 rfl) ?_
            refine cAI (As := []) (rest := []) ⟨hx, hb, hml, hown, hts⟩ (c_X4_readMove l G a z sp pa st sv pd y ns t (u + 1) q (by assumption) (by omega) (by omega) _) (cwV 0 hts gX4_readPad_X4_readMove rfl rfl rfl (by decide +kernel) ⟨Nat.le_of_ble_eq_true rfl, Nat.le_of_ble_eq_true rfl⟩) hK hP hD hS hA 0 (ci := 4) rfl rfl rfl rfl rfl hl.1 (Nat.le_of_ble_eq_true rfl) dX4_readPad_40 ⟨Nat.le_of_ble_eq_true rfl, Nat.le_of_ble_eq_true rfl⟩ (fun r_6 u_6 H locs hr_6 hP hD hS => ?_)
            have hr_6 : r_6 = (rmS pd t (u + 1) q y).1 := hr_6
            subst hr_6
            have hP : va_P G.1 vwCl (mw G a z sp pa st sv pd ((rmS pd t (u + 1) q y).2.2.2) ns (nI t) (nI ((rmS pd t (u + 1) q y).2.1)) (nI ((rmS pd t (u + 1) q y).2.2.1))) H := hP
            have hD : va_D A (mw G a z sp pa st sv pd ((rmS pd t (u + 1) q y).2.2.2) ns (nI t) (nI ((rmS pd t (u + 1) q y).2.1)) (nI ((rmS pd t (u + 1) q y).2.2.1))) := hD
            refine lv_if_eq (tgt := 50) hx hb dX4_readPad_43 (by decide) (fun c_43_7 => ?_) (fun c_43_7 => ?_)
            · have hk := rmS_k c_43_7
              rw [rmS_1 hk] at hP hD
              refine lv_iconst (v := 0) hx hb dX4_readPad_50 (by decide) ?_
              refine lv_istore_n (lv' := [(1, .int 0), (0, .ref (a 0))]) hx hb dX4_readPad_51 rfl hl (by decide) rfl (fun ls hl => ?_)
              refine lv_goto (tgt := 15) hx hb dX4_readPad_52 (by decide) ?_
              exact ih 0 (u + 1) q y (fun h => absurd rfl h) (by omega) (by omega) (by rw [← hv]; simp only [rpL, if_neg c_16_2, if_neg c_27_3, if_neg c_36_5, if_pos hk]) _ _ hP hD hS ls (lv_sub hl [0, 1] rfl)
            · have hk := rmS_n c_43_7
              rw [rmS_2 hk] at hP hD
              have hrr := rmR_le (pd := pd) ht (rmK_lt (by omega) hk)
              refine lv_iconst (v := 1) hx hb dX4_readPad_46 (by decide) ?_
              refine lv_goto (tgt := 51) hx hb dX4_readPad_47 (by decide) ?_
              refine lv_istore_n (lv' := [(1, .int 1), (0, .ref (a 0))]) hx hb dX4_readPad_51 rfl hl (by decide) rfl (fun ls hl => ?_)
              refine lv_goto (tgt := 15) hx hb dX4_readPad_52 (by decide) ?_
              exact ih 1 ((rmR pd (u + 1) t).1) (q + 1) (upd y q (rmR pd (u + 1) t).2) (fun _ => by omega) (by omega) (by omega) (by rw [← hv]; simp only [rpL, if_neg c_16_2, if_neg c_27_3, if_neg c_36_5, if_neg hk]) _ _ hP hD hS ls (lv_sub hl [0, 1] rfl)
  refine lv_aload_n hx hb dX4_readPad_0 rfl (lv_at hl 0 rfl) ?_
  refine lv_iconst (v := 0) hx hb dX4_readPad_1 (by decide) ?_
  refine va_put (D := G.1) (ci := 4) (v := .int 0) (ty := .int) (C := RX4) (T := TX4) (N := 11) hx hb hts hinX4 tyX4 tyX4_ok nmX4 hown hK.1 hP hD hS 0 rfl rfl 8 (by decide) wk1 (fun _ h9 => h9) rfl (by decide +kernel) rfl rfl (Nat.le_of_ble_eq_true rfl) dX4_readPad_2 (fun H locs hP hD hS => ?_)
  have hP : va_P G.1 vwCl (mw G a z sp pa st sv pd tl ns (nI t) 0 tm) H := hP
  have hD : va_D A (mw G a z sp pa st sv pd tl ns (nI t) 0 tm) := hD
  refine lv_aload_n hx hb dX4_readPad_5 rfl (lv_at hl 0 rfl) ?_
  refine lv_iconst (v := 0) hx hb dX4_readPad_6 (by decide) ?_
  refine va_put (D := G.1) (ci := 4) (v := .int 0) (ty := .int) (C := RX4) (T := TX4) (N := 11) hx hb hts hinX4 tyX4 tyX4_ok nmX4 hown hK.1 hP hD hS 0 rfl rfl 10 (by decide) wk2 (fun _ h9 => h9) rfl (by decide +kernel) rfl rfl (Nat.le_of_ble_eq_true rfl) dX4_readPad_7 (fun H locs hP hD hS => ?_)
  have hP : va_P G.1 vwCl (mw G a z sp pa st sv pd tl ns (nI t) 0 0) H := hP
  have hD : va_D A (mw G a z sp pa st sv pd tl ns (nI t) 0 0) := hD
  refine lv_aload_n hx hb dX4_readPad_10 rfl (lv_at hl 0 rfl) ?_
  refine cAI (As := []) (rest := []) ⟨hx, hb, hml, hown, hts⟩ (c_X4_readMove l G a z sp pa st sv pd tl ns t 0 0 (by assumption) (by omega) (by omega) _) (cwV 0 hts gX4_readPad_X4_readMove rfl rfl rfl (by decide +kernel) ⟨Nat.le_of_ble_eq_true rfl, Nat.le_of_ble_eq_true rfl⟩) hK hP hD hS hA 0 (ci := 4) rfl rfl rfl rfl rfl hl.1 (Nat.le_of_ble_eq_true rfl) dX4_readPad_11 ⟨Nat.le_of_ble_eq_true rfl, Nat.le_of_ble_eq_true rfl⟩ (fun r_8 u_8 H locs hr_8 hP hD hS => ?_)
  have hr_8 : r_8 = (rmS pd t 0 0 tl).1 := hr_8
  subst hr_8
  have hP : va_P G.1 vwCl (mw G a z sp pa st sv pd ((rmS pd t 0 0 tl).2.2.2) ns (nI t) (nI ((rmS pd t 0 0 tl).2.1)) (nI ((rmS pd t 0 0 tl).2.2.1))) H := hP
  have hD : va_D A (mw G a z sp pa st sv pd ((rmS pd t 0 0 tl).2.2.2) ns (nI t) (nI ((rmS pd t 0 0 tl).2.1)) (nI ((rmS pd t 0 0 tl).2.2.1))) := hD
  refine lv_istore_n (lv' := [(1, .int ((rmS pd t 0 0 tl).1)), (0, .ref (a 0))]) hx hb dX4_readPad_14 rfl hl (by decide) rfl (fun ls hl => ?_)
  have hin := rmS_in (pd := pd) (q := 0) (tl := tl) ht (Nat.zero_le t) (by omega)
  have hrv : rpL pd t (62 + t) ((rmS pd t 0 0 tl).1, (rmS pd t 0 0 tl).2.1, (rmS pd t 0 0 tl).2.2.1, (rmS pd t 0 0 tl).2.2.2) = rpR pd t tl := by rw [rd_eta, rpR]
  exact L15 (62 + t) (rmS pd t 0 0 tl).1 (rmS pd t 0 0 tl).2.1 (rmS pd t 0 0 tl).2.2.1 (rmS pd t 0 0 tl).2.2.2 (fun _ => by omega) hin.1 hin.2 hrv _ _ hP hD hS ls (lv_sub hl [0, 1] rfl)
set_option maxHeartbeats 4000000 in
set_option maxRecDepth 100000 in
theorem c_X4_fault (l : Launch) (G : qG) (a : Nat → Nat) (z sp pa st sv pd tl : Nat → Int32) (ns spt tm : Int32) (t : Nat) (ht : t ≤ 60)  (sz : Nat) : MI l yX4_fault wsX4_fault 4 88 G sz [.ref (a 0)] (mw G a z sp pa st sv pd tl ns (nI t) spt tm) (if (rpR pd t tl).1 = 0 then nI ((rpR pd t tl).2.1) else (-100006)) (mw G a z sp pa st sv pd ((rpR pd t tl).2.2.2) ns (nI t) (nI ((rpR pd t tl).2.1)) (nI ((rpR pd t tl).2.2.1))) := by
  refine MI.of' (by decide) rfl (Nat.le_of_ble_eq_true rfl) ?_
  intro p e s m below meth c hx hb hml hown hts hK hsz hP A hAe hA hD hS Q hret ls hl
  have hown : s.vm.findClass RX4 = some m.cls := hown
  have hl : lv_has ls 1 [(0, .ref (a 0))] := hl
  have wk1 := hts (Cond.constant RX4 39 (-100006)) (List.mem_of_getElem? (i := 1) rfl)
  have wk2 := hts (Cond.fieldLink RX4 121 "TurnBidsModel" "spot" "I") (List.mem_of_getElem? (i := 2) rfl)
  have wk3 := hts (Cond.methodLink RX4 137 yX4_readPad) (List.mem_of_getElem? (i := 3) rfl)
  have hinX4 : ∀ w ∈ wsX40, w ∈ wsX4_fault := fun _ h => (List.mem_cons_of_mem _ (List.mem_append_right _ h))
  refine lv_aload_n hx hb dX4_fault_0 rfl (lv_at hl 0 rfl) ?_
  refine cAI (As := []) (rest := []) ⟨hx, hb, hml, hown, hts⟩ (c_X4_readPad l G a z sp pa st sv pd tl ns spt tm t (by assumption) _) (cwV 0 hts gX4_fault_X4_readPad rfl rfl rfl (by decide +kernel) ⟨Nat.le_of_ble_eq_true rfl, Nat.le_of_ble_eq_true rfl⟩) hK hP hD hS hA 0 (ci := 4) rfl rfl rfl rfl rfl hl.1 (Nat.le_of_ble_eq_true rfl) dX4_fault_1 ⟨Nat.le_of_ble_eq_true rfl, Nat.le_of_ble_eq_true rfl⟩ (fun r_1 u_1 H locs hr_1 hP hD hS => ?_)
  have hr_1 : r_1 = (rpR pd t tl).1 := hr_1
  subst hr_1
  have hP : va_P G.1 vwCl (mw G a z sp pa st sv pd ((rpR pd t tl).2.2.2) ns (nI t) (nI ((rpR pd t tl).2.1)) (nI ((rpR pd t tl).2.2.1))) H := hP
  have hD : va_D A (mw G a z sp pa st sv pd ((rpR pd t tl).2.2.2) ns (nI t) (nI ((rpR pd t tl).2.1)) (nI ((rpR pd t tl).2.2.1))) := hD
  refine lv_if_eq (tgt := 12) hx hb dX4_fault_4 (by decide) (fun c_4_2 => ?_) (fun c_4_2 => ?_)
  · refine lv_aload_n hx hb dX4_fault_12 rfl (lv_at hl 0 rfl) ?_
    refine va_get (D := G.1) (ci := 4) (v := .int (nI ((rpR pd t tl).2.1))) (C := RX4) (T := TX4) (N := 11) hx hb hts hinX4 hown hK.1 hP 0 rfl rfl 8 (by decide) wk2 (fun _ h9 => h9) rfl dX4_fault_13 ?_
    exact hret _ _ _ _ _ () (by simp only [if_pos c_4_2]) hP hD hS dX4_fault_16
  · refine lv_ldc (v := (-100006)) hx hb hown wk1 dX4_fault_7 ?_
    refine lv_goto (tgt := 16) hx hb dX4_fault_9 (by decide) ?_
    exact hret _ _ _ _ _ () (by simp only [if_neg c_4_2]) hP hD hS dX4_fault_16
set_option maxHeartbeats 4000000 in
set_option maxRecDepth 100000 in
theorem c_X4_can (l : Launch) (G : qG) (a : Nat → Nat) (z sp pa st sv pd tl : Nat → Int32) (ns ty spt tm : Int32) (k : Int32) (hz4 : z 4 = 1 → vp_in (z 5) 5) : MP l yX4_can wsX4_can 3 62 G [.ref (a 0), .int k] (mw G a z sp pa st sv pd tl ns ty spt tm) (caZ z k) := by
  refine MP.of (ty := .boolean) (by decide) rfl (Nat.le_of_ble_eq_true rfl) (caZ_nar z k) ?_
  intro p e s m below meth c hx hb hml hown hts hK hP Q hret ls hl
  have hown : s.vm.findClass RX4 = some m.cls := hown
  have hl : lv_has ls 3 [(0, .ref (a 0)), (1, .int k)] := hl
  have wk1 := hts (Cond.fieldLink RX4 7 "TurnBidsModel" "z" "[I") (List.mem_of_getElem? (i := 1) rfl)
  have wk2 := hts (Cond.methodLink RX4 109 yX4_mayBid) (List.mem_of_getElem? (i := 2) rfl)
  have hinX4 : ∀ w ∈ wsX40, w ∈ wsX4_can := fun _ h => (List.mem_cons_of_mem _ (List.mem_append_right _ h))
  refine lv_iload_n hx hb dX4_can_0 rfl (lv_at hl 1 rfl) ?_
  refine lv_if_lt (tgt := 10) hx hb dX4_can_1 (by decide) (fun c_1_1 => ?_) (fun c_1_1 => ?_)
  · refine lv_iload_n hx hb dX4_can_10 rfl (lv_at hl 1 rfl) ?_
    refine lv_sipush (v := 1000) hx hb dX4_can_11 (by decide) ?_
    refine lv_iadd hx hb dX4_can_14 ?_
    refine lv_istore_n (lv' := [(2, .int (k + 1000)), (0, .ref (a 0)), (1, .int k)]) hx hb dX4_can_15 rfl hl (by decide) rfl (fun ls hl => ?_)
    refine lv_iload_n hx hb dX4_can_16 rfl (lv_at hl 0 rfl) ?_
    refine lv_bipush (v := 33) hx hb dX4_can_17 (by decide) ?_
    refine lv_icmp_eq (tgt := 50) hx hb dX4_can_19 (by decide) (fun c_19_2 => ?_) (fun c_19_2 => ?_)
    · refine lv_iconst (v := 1) hx hb dX4_can_50 (by decide) ?_
      refine lv_goto (tgt := 55) hx hb dX4_can_51 (by decide) ?_
      exact hret _ _ _ (by simp only [caZ, if_pos c_1_1, if_pos c_19_2]) dX4_can_55
    · refine lv_iload_n hx hb dX4_can_22 rfl (lv_at hl 0 rfl) ?_
      refine lv_bipush (v := 43) hx hb dX4_can_23 (by decide) ?_
      refine lv_icmp_ne (tgt := 32) hx hb dX4_can_25 (by decide) (fun c_25_3 => ?_) (fun c_25_3 => ?_)
      · refine lv_iconst (v := 0) hx hb dX4_can_32 (by decide) ?_
        refine lv_aload_n hx hb dX4_can_33 rfl (lv_at hl 1 rfl) ?_
        refine va_get (D := G.1) (ci := 4) (v := .ref (a 1)) (C := RX4) (T := TX4) (N := 11) hx hb hts hinX4 hown hK.1 hP 0 rfl rfl 0 (by decide) wk1 (fun _ h9 => h9) rfl dX4_can_34 ?_
        refine lv_iconst (v := 4) hx hb dX4_can_37 (by decide) ?_
        refine qild hx hb hK.1 hP 1 0 rfl rfl (k := 4) rfl (vp_in_nI (n := 4) (by decide) (by decide)) dX4_can_38 ?_
        refine lv_if_ne (tgt := 46) hx hb dX4_can_39 (by decide) (fun c_39_4 => ?_) (fun c_39_4 => ?_)
        · refine lv_iconst (v := 0) hx hb dX4_can_46 (by decide) ?_
          refine lv_icmp_ne (tgt := 54) hx hb dX4_can_47 (by decide) (fun c_9 => absurd (by decide) c_9) (fun _ => ?_)
          refine lv_iconst (v := 1) hx hb dX4_can_50 (by decide) ?_
          refine lv_goto (tgt := 55) hx hb dX4_can_51 (by decide) ?_
          exact hret _ _ _ (by simp only [caZ, if_pos c_1_1, if_neg c_19_2, if_neg c_25_3, if_neg c_39_4]) dX4_can_55
        · refine lv_iconst (v := 1) hx hb dX4_can_42 (by decide) ?_
          refine lv_goto (tgt := 47) hx hb dX4_can_43 (by decide) ?_
          refine lv_icmp_ne (tgt := 54) hx hb dX4_can_47 (by decide) (fun _ => ?_) (fun c_9 => absurd c_9 (by decide))
          refine lv_iconst (v := 0) hx hb dX4_can_54 (by decide) ?_
          exact hret _ _ _ (by simp only [caZ, if_pos c_1_1, if_neg c_19_2, if_neg c_25_3, if_pos c_39_4]) dX4_can_55
      · refine lv_iconst (v := 1) hx hb dX4_can_28 (by decide) ?_
        refine lv_goto (tgt := 33) hx hb dX4_can_29 (by decide) ?_
        refine lv_aload_n hx hb dX4_can_33 rfl (lv_at hl 1 rfl) ?_
        refine va_get (D := G.1) (ci := 4) (v := .ref (a 1)) (C := RX4) (T := TX4) (N := 11) hx hb hts hinX4 hown hK.1 hP 0 rfl rfl 0 (by decide) wk1 (fun _ h9 => h9) rfl dX4_can_34 ?_
        refine lv_iconst (v := 4) hx hb dX4_can_37 (by decide) ?_
        refine qild hx hb hK.1 hP 1 0 rfl rfl (k := 4) rfl (vp_in_nI (n := 4) (by decide) (by decide)) dX4_can_38 ?_
        refine lv_if_ne (tgt := 46) hx hb dX4_can_39 (by decide) (fun c_39_5 => ?_) (fun c_39_5 => ?_)
        · refine lv_iconst (v := 0) hx hb dX4_can_46 (by decide) ?_
          refine lv_icmp_ne (tgt := 54) hx hb dX4_can_47 (by decide) (fun _ => ?_) (fun c_9 => absurd c_9 (by decide))
          refine lv_iconst (v := 0) hx hb dX4_can_54 (by decide) ?_
          exact hret _ _ _ (by simp only [caZ, if_pos c_1_1, if_neg c_19_2, if_pos c_25_3, if_neg c_39_5]) dX4_can_55
        · refine lv_iconst (v := 1) hx hb dX4_can_42 (by decide) ?_
          refine lv_goto (tgt := 47) hx hb dX4_can_43 (by decide) ?_
          refine lv_icmp_ne (tgt := 54) hx hb dX4_can_47 (by decide) (fun c_9 => absurd (by decide) c_9) (fun _ => ?_)
          refine lv_iconst (v := 1) hx hb dX4_can_50 (by decide) ?_
          refine lv_goto (tgt := 55) hx hb dX4_can_51 (by decide) ?_
          exact hret _ _ _ (by simp only [caZ, if_pos c_1_1, if_neg c_19_2, if_pos c_25_3, if_pos c_39_5]) dX4_can_55
  · refine lv_aload_n hx hb dX4_can_4 rfl (lv_at hl 0 rfl) ?_
    refine lv_iload_n hx hb dX4_can_5 rfl (lv_at hl 1 rfl) ?_
    refine cPV (As := [.int k]) (rest := []) ⟨hx, hb, hml, hown, hts⟩ (c_X4_mayBid l G a z sp pa st sv pd tl ns ty spt tm k (by assumption)) (cwV 1 hts gX4_can_X4_mayBid rfl rfl rfl (by decide +kernel) ⟨Nat.le_of_ble_eq_true rfl, Nat.le_of_ble_eq_true rfl⟩) hK hP 0 (ci := 4) rfl rfl rfl rfl rfl hl.1 (Nat.le_of_ble_eq_true rfl) dX4_can_6 ⟨Nat.le_of_ble_eq_true rfl, Nat.le_of_ble_eq_true rfl⟩ ?_
    exact hret _ _ _ (by simp only [caZ, if_neg c_1_1]) dX4_can_9
set_option maxHeartbeats 4000000 in
set_option maxRecDepth 100000 in
theorem c_X4_doMove (l : Launch) (G : qG) (a : Nat → Nat) (z sp pa st sv pd tl : Nat → Int32) (ns ty spt tm : Int32) (k : Int32) (hok : DmOK z k) (sz : Nat) : MV l yX4_doMove wsX4_doMove 5 113 G sz [.ref (a 0), .int k] (mw G a z sp pa st sv pd tl ns ty spt tm) (mw G a (dmZ z k) sp pa st sv pd tl ns ty spt tm) := by
  refine MV.of' (by decide) rfl (Nat.le_of_ble_eq_true rfl) ?_
  intro p e s m below meth c hx hb hml hown hts hK hsz hP A hAe hA hD hS hmn Q hret ls hl
  have hown : s.vm.findClass RX4 = some m.cls := hown
  have hl : lv_has ls 2 [(0, .ref (a 0)), (1, .int k)] := hl
  have wk1 := hts (Cond.methodLink RX4 103 yX4_beginNow) (List.mem_of_getElem? (i := 1) rfl)
  have wk16 := hts (Cond.methodLink RX4 100 yX4_dropNow) (List.mem_of_getElem? (i := 16) rfl)
  have wk40 := hts (Cond.methodLink RX4 106 yX4_actNow) (List.mem_of_getElem? (i := 40) rfl)
  have wk52 := hts (Cond.methodLink RX4 97 yX4_bidNow) (List.mem_of_getElem? (i := 52) rfl)
  have wk56 := hts (Cond.methodLink RX4 112 yX4_finishNow) (List.mem_of_getElem? (i := 56) rfl)
  rcases hok with ⟨hk0, hbd⟩ | hk | ⟨hk, hdr⟩ | ⟨hk, hac⟩ | ⟨hk, hfi⟩
  · skip
    refine lv_iload_n hx hb dX4_doMove_0 rfl (lv_at hl 1 rfl) ?_
    refine lv_if_ge (tgt := 12) hx hb dX4_doMove_1 (by decide) (fun _ => ?_) (fun c_9 => absurd hk0 c_9)
    refine lv_iconst (v := 0) hx hb dX4_doMove_12 (by decide) ?_
    refine lv_lookup (x := 0) (off := 72) (tgt := 85) hx hb dX4_doMove_13 (by decide +kernel) (by decide +kernel) (by decide) ?_
    refine lv_aload_n hx hb dX4_doMove_85 rfl (lv_at hl 0 rfl) ?_
    refine lv_iload_n hx hb dX4_doMove_86 rfl (lv_at hl 1 rfl) ?_
    refine cAV (As := [.int k]) (rest := []) ⟨hx, hb, hml, hown, hts⟩ (c_X4_bidNow l G a z sp pa st sv pd tl ns ty spt tm k hbd _) (cwV 1 hts gX4_doMove_X4_bidNow rfl rfl rfl (by decide +kernel) ⟨Nat.le_of_ble_eq_true rfl, Nat.le_of_ble_eq_true rfl⟩) hK hP hD hS hA 0 (ci := 4) rfl rfl rfl rfl rfl hl.1 (Nat.le_of_ble_eq_true rfl) dX4_doMove_87 ⟨Nat.le_of_ble_eq_true rfl, Nat.le_of_ble_eq_true rfl⟩ (fun u_1 H locs hr_1 hP hD hS => ?_)
    have hP : va_P G.1 vwCl (mw G a (bdZ z k) sp pa st sv pd tl ns ty spt tm) H := hP
    have hD : va_D A (mw G a (bdZ z k) sp pa st sv pd tl ns ty spt tm) := hD
    have hf0 : (bdZ z k) = (dmZ z k) := (by first | (rw [hk]; rfl) | (simp only [dmZ, if_pos hk0]))
    have hP : va_P G.1 vwCl (mw G a (dmZ z k) sp pa st sv pd tl ns ty spt tm) H := by rw [← hf0]; exact hP
    have hD : va_D A (mw G a (dmZ z k) sp pa st sv pd tl ns ty spt tm) := by rw [← hf0]; exact hD
    exact hret _ _ _ _ () trivial hP hD hS dX4_doMove_90
  · rw [hk] at hl
    refine lv_iload_n hx hb dX4_doMove_0 rfl (lv_at hl 1 rfl) ?_
    refine lv_if_ge (tgt := 12) hx hb dX4_doMove_1 (by decide) (fun c_9 => absurd c_9 (by decide)) (fun _ => ?_)
    refine lv_iload_n hx hb dX4_doMove_4 rfl (lv_at hl 1 rfl) ?_
    refine lv_sipush (v := 1000) hx hb dX4_doMove_5 (by decide) ?_
    refine lv_iadd hx hb dX4_doMove_8 ?_
    refine qtop (y := 43) (by decide) ?_
    refine lv_goto (tgt := 13) hx hb dX4_doMove_9 (by decide) ?_
    refine lv_lookup (x := 43) (off := 43) (tgt := 56) hx hb dX4_doMove_13 (by decide +kernel) (by decide +kernel) (by decide) ?_
    refine lv_aload_n hx hb dX4_doMove_56 rfl (lv_at hl 0 rfl) ?_
    refine cAV (As := []) (rest := []) ⟨hx, hb, hml, hown, hts⟩ (c_X4_beginNow l G a z sp pa st sv pd tl ns ty spt tm _) (cwV 0 hts gX4_doMove_X4_beginNow rfl rfl rfl (by decide +kernel) ⟨Nat.le_of_ble_eq_true rfl, Nat.le_of_ble_eq_true rfl⟩) hK hP hD hS hA 0 (ci := 4) rfl rfl rfl rfl rfl hl.1 (Nat.le_of_ble_eq_true rfl) dX4_doMove_57 ⟨Nat.le_of_ble_eq_true rfl, Nat.le_of_ble_eq_true rfl⟩ (fun u_2 H locs hr_2 hP hD hS => ?_)
    have hP : va_P G.1 vwCl (mw G a (bgZ z) sp pa st sv pd tl ns ty spt tm) H := hP
    have hD : va_D A (mw G a (bgZ z) sp pa st sv pd tl ns ty spt tm) := hD
    refine lv_goto (tgt := 90) hx hb dX4_doMove_60 (by decide) ?_
    have hf0 : (bgZ z) = (dmZ z k) := (by first | (rw [hk]; rfl) | (simp only [dmZ, if_pos hk0]))
    have hP : va_P G.1 vwCl (mw G a (dmZ z k) sp pa st sv pd tl ns ty spt tm) H := by rw [← hf0]; exact hP
    have hD : va_D A (mw G a (dmZ z k) sp pa st sv pd tl ns ty spt tm) := by rw [← hf0]; exact hD
    exact hret _ _ _ _ () trivial hP hD hS dX4_doMove_90
  · rw [hk] at hl
    refine lv_iload_n hx hb dX4_doMove_0 rfl (lv_at hl 1 rfl) ?_
    refine lv_if_ge (tgt := 12) hx hb dX4_doMove_1 (by decide) (fun c_9 => absurd c_9 (by decide)) (fun _ => ?_)
    refine lv_iload_n hx hb dX4_doMove_4 rfl (lv_at hl 1 rfl) ?_
    refine lv_sipush (v := 1000) hx hb dX4_doMove_5 (by decide) ?_
    refine lv_iadd hx hb dX4_doMove_8 ?_
    refine qtop (y := 45) (by decide) ?_
    refine lv_goto (tgt := 13) hx hb dX4_doMove_9 (by decide) ?_
    refine lv_lookup (x := 45) (off := 50) (tgt := 63) hx hb dX4_doMove_13 (by decide +kernel) (by decide +kernel) (by decide) ?_
    refine lv_aload_n hx hb dX4_doMove_63 rfl (lv_at hl 0 rfl) ?_
    refine cAV (As := []) (rest := []) ⟨hx, hb, hml, hown, hts⟩ (c_X4_dropNow l G a z sp pa st sv pd tl ns ty spt tm hdr _) (cwV 0 hts gX4_doMove_X4_dropNow rfl rfl rfl (by decide +kernel) ⟨Nat.le_of_ble_eq_true rfl, Nat.le_of_ble_eq_true rfl⟩) hK hP hD hS hA 0 (ci := 4) rfl rfl rfl rfl rfl hl.1 (Nat.le_of_ble_eq_true rfl) dX4_doMove_64 ⟨Nat.le_of_ble_eq_true rfl, Nat.le_of_ble_eq_true rfl⟩ (fun u_3 H locs hr_3 hP hD hS => ?_)
    have hP : va_P G.1 vwCl (mw G a (doZ z) sp pa st sv pd tl ns ty spt tm) H := hP
    have hD : va_D A (mw G a (doZ z) sp pa st sv pd tl ns ty spt tm) := hD
    refine lv_goto (tgt := 90) hx hb dX4_doMove_67 (by decide) ?_
    have hf0 : (doZ z) = (dmZ z k) := (by first | (rw [hk]; rfl) | (simp only [dmZ, if_pos hk0]))
    have hP : va_P G.1 vwCl (mw G a (dmZ z k) sp pa st sv pd tl ns ty spt tm) H := by rw [← hf0]; exact hP
    have hD : va_D A (mw G a (dmZ z k) sp pa st sv pd tl ns ty spt tm) := by rw [← hf0]; exact hD
    exact hret _ _ _ _ () trivial hP hD hS dX4_doMove_90
  · rw [hk] at hl
    refine lv_iload_n hx hb dX4_doMove_0 rfl (lv_at hl 1 rfl) ?_
    refine lv_if_ge (tgt := 12) hx hb dX4_doMove_1 (by decide) (fun c_9 => absurd c_9 (by decide)) (fun _ => ?_)
    refine lv_iload_n hx hb dX4_doMove_4 rfl (lv_at hl 1 rfl) ?_
    refine lv_sipush (v := 1000) hx hb dX4_doMove_5 (by decide) ?_
    refine lv_iadd hx hb dX4_doMove_8 ?_
    refine qtop (y := 42) (by decide) ?_
    refine lv_goto (tgt := 13) hx hb dX4_doMove_9 (by decide) ?_
    refine lv_lookup (x := 42) (off := 57) (tgt := 70) hx hb dX4_doMove_13 (by decide +kernel) (by decide +kernel) (by decide) ?_
    refine lv_aload_n hx hb dX4_doMove_70 rfl (lv_at hl 0 rfl) ?_
    refine cAV (As := []) (rest := []) ⟨hx, hb, hml, hown, hts⟩ (c_X4_actNow l G a z sp pa st sv pd tl ns ty spt tm hac _) (cwV 0 hts gX4_doMove_X4_actNow rfl rfl rfl (by decide +kernel) ⟨Nat.le_of_ble_eq_true rfl, Nat.le_of_ble_eq_true rfl⟩) hK hP hD hS hA 0 (ci := 4) rfl rfl rfl rfl rfl hl.1 (Nat.le_of_ble_eq_true rfl) dX4_doMove_71 ⟨Nat.le_of_ble_eq_true rfl, Nat.le_of_ble_eq_true rfl⟩ (fun u_4 H locs hr_4 hP hD hS => ?_)
    have hP : va_P G.1 vwCl (mw G a (acZ z) sp pa st sv pd tl ns ty spt tm) H := hP
    have hD : va_D A (mw G a (acZ z) sp pa st sv pd tl ns ty spt tm) := hD
    refine lv_goto (tgt := 90) hx hb dX4_doMove_74 (by decide) ?_
    have hf0 : (acZ z) = (dmZ z k) := (by first | (rw [hk]; rfl) | (simp only [dmZ, if_pos hk0]))
    have hP : va_P G.1 vwCl (mw G a (dmZ z k) sp pa st sv pd tl ns ty spt tm) H := by rw [← hf0]; exact hP
    have hD : va_D A (mw G a (dmZ z k) sp pa st sv pd tl ns ty spt tm) := by rw [← hf0]; exact hD
    exact hret _ _ _ _ () trivial hP hD hS dX4_doMove_90
  · rw [hk] at hl
    refine lv_iload_n hx hb dX4_doMove_0 rfl (lv_at hl 1 rfl) ?_
    refine lv_if_ge (tgt := 12) hx hb dX4_doMove_1 (by decide) (fun c_9 => absurd c_9 (by decide)) (fun _ => ?_)
    refine lv_iload_n hx hb dX4_doMove_4 rfl (lv_at hl 1 rfl) ?_
    refine lv_sipush (v := 1000) hx hb dX4_doMove_5 (by decide) ?_
    refine lv_iadd hx hb dX4_doMove_8 ?_
    refine qtop (y := 33) (by decide) ?_
    refine lv_goto (tgt := 13) hx hb dX4_doMove_9 (by decide) ?_
    refine lv_lookup (x := 33) (off := 64) (tgt := 77) hx hb dX4_doMove_13 (by decide +kernel) (by decide +kernel) (by decide) ?_
    refine lv_aload_n hx hb dX4_doMove_77 rfl (lv_at hl 0 rfl) ?_
    refine cAI (As := []) (rest := []) ⟨hx, hb, hml, hown, hts⟩ (c_X4_finishNow l G a z sp pa st sv pd tl ns ty spt tm hfi _) (cwV 0 hts gX4_doMove_X4_finishNow rfl rfl rfl (by decide +kernel) ⟨Nat.le_of_ble_eq_true rfl, Nat.le_of_ble_eq_true rfl⟩) hK hP hD hS hA 0 (ci := 4) rfl rfl rfl rfl rfl hl.1 (Nat.le_of_ble_eq_true rfl) dX4_doMove_78 ⟨Nat.le_of_ble_eq_true rfl, Nat.le_of_ble_eq_true rfl⟩ (fun r_5 u_5 H locs hr_5 hP hD hS => ?_)
    have hr_5 : r_5 = nI (fiR z).2 := hr_5
    subst hr_5
    have hP : va_P G.1 vwCl (mw G a ((fiR z).1) sp pa st sv pd tl ns ty spt tm) H := hP
    have hD : va_D A (mw G a ((fiR z).1) sp pa st sv pd tl ns ty spt tm) := hD
    refine lv_pop hx hb dX4_doMove_81 rfl ?_
    refine lv_goto (tgt := 90) hx hb dX4_doMove_82 (by decide) ?_
    have hf0 : ((fiR z).1) = (dmZ z k) := (by first | (rw [hk]; rfl) | (simp only [dmZ, if_pos hk0]))
    have hP : va_P G.1 vwCl (mw G a (dmZ z k) sp pa st sv pd tl ns ty spt tm) H := by rw [← hf0]; exact hP
    have hD : va_D A (mw G a (dmZ z k) sp pa st sv pd tl ns ty spt tm) := by rw [← hf0]; exact hD
    exact hret _ _ _ _ () trivial hP hD hS dX4_doMove_90
set_option maxHeartbeats 4000000 in
set_option maxRecDepth 100000 in
theorem c_X4_run (l : Launch) (G : qG) (a : Nat → Nat) (z sp pa st sv pd tl : Nat → Int32) (spt tm : Int32) (n t : Nat) (hn : n ≤ 6) (ht : t ≤ 60) (hok : ¬ (rpR pd t tl).1 = 0 → RuOK (rpR pd t tl).2.2.2 (rpR pd t tl).2.2.1 0 z) (sz : Nat) : MI l yX4_run wsX4_run 6 134 G sz [.ref (a 0)] (mw G a z sp pa st sv pd tl (nI n) (nI t) spt tm) (if (rpR pd t tl).1 = 0 then (-100003) else nI ((rnR z pd t tl).2)) (mw G a (if (rpR pd t tl).1 = 0 then z else (rnR z pd t tl).1) sp (if (rpR pd t tl).1 = 0 then pa else rcA z pa n) st sv pd ((rpR pd t tl).2.2.2) (nI (if (rpR pd t tl).1 = 0 then n else rcN n)) (nI (if (rpR pd t tl).1 = 0 then t else 0)) (nI (rpR pd t tl).2.1) (nI (rpR pd t tl).2.2.1)) := by
  refine MI.of' (by decide) rfl (Nat.le_of_ble_eq_true rfl) ?_
  intro p e s m below meth c hx hb hml hown hts hK hsz hP A hAe hA hD hS Q hret ls hl
  have hown : s.vm.findClass RX4 = some m.cls := hown
  have hl : lv_has ls 2 [(0, .ref (a 0))] := hl
  have wk1 := hts (Cond.constant RX4 140 (-100003)) (List.mem_of_getElem? (i := 1) rfl)
  have wk2 := hts (Cond.fieldLink RX4 127 "TurnBidsModel" "toldMany" "I") (List.mem_of_getElem? (i := 2) rfl)
  have wk3 := hts (Cond.fieldLink RX4 29 "TurnBidsModel" "told" "[I") (List.mem_of_getElem? (i := 3) rfl)
  have wk4 := hts (Cond.fieldLink RX4 117 "TurnBidsModel" "typed" "I") (List.mem_of_getElem? (i := 4) rfl)
  have wk5 := hts (Cond.methodLink RX4 137 yX4_readPad) (List.mem_of_getElem? (i := 5) rfl)
  have wk27 := hts (Cond.methodLink RX4 54 yX4_record) (List.mem_of_getElem? (i := 27) rfl)
  have wk37 := hts (Cond.methodLink RX4 141 yX4_can) (List.mem_of_getElem? (i := 37) rfl)
  have wk54 := hts (Cond.methodLink RX4 144 yX4_doMove) (List.mem_of_getElem? (i := 54) rfl)
  have hinX4 : ∀ w ∈ wsX40, w ∈ wsX4_run := fun _ h => (List.mem_cons_of_mem _ (List.mem_append_right _ h))
  refine lv_aload_n hx hb dX4_run_0 rfl (lv_at hl 0 rfl) ?_
  refine cAI (As := []) (rest := []) ⟨hx, hb, hml, hown, hts⟩ (c_X4_readPad l G a z sp pa st sv pd tl (nI n) spt tm t (by assumption) _) (cwV 0 hts gX4_run_X4_readPad rfl rfl rfl (by decide +kernel) ⟨Nat.le_of_ble_eq_true rfl, Nat.le_of_ble_eq_true rfl⟩) hK hP hD hS hA 0 (ci := 4) rfl rfl rfl rfl rfl hl.1 (Nat.le_of_ble_eq_true rfl) dX4_run_1 ⟨Nat.le_of_ble_eq_true rfl, Nat.le_of_ble_eq_true rfl⟩ (fun r_1 u_1 H locs hr_1 hP hD hS => ?_)
  have hr_1 : r_1 = (rpR pd t tl).1 := hr_1
  subst hr_1
  have hP : va_P G.1 vwCl (mw G a z sp pa st sv pd ((rpR pd t tl).2.2.2) (nI n) (nI t) (nI ((rpR pd t tl).2.1)) (nI ((rpR pd t tl).2.2.1))) H := hP
  have hD : va_D A (mw G a z sp pa st sv pd ((rpR pd t tl).2.2.2) (nI n) (nI t) (nI ((rpR pd t tl).2.1)) (nI ((rpR pd t tl).2.2.1))) := hD
  obtain ⟨u₁, hu₁⟩ : ∃ u : Rd, rpR pd t tl = u := ⟨_, rfl⟩
  obtain ⟨g₁, s₁, q₁, tl₁⟩ := u₁
  have hq30 := rpR_q (pd := pd) (tl := tl) ht
  rw [hu₁] at hP hD hq30
  have hq30 : q₁ ≤ 30 := hq30
  have hP : va_P G.1 vwCl (mw G a z sp pa st sv pd tl₁ (nI n) (nI t) (nI s₁) (nI q₁)) H := hP
  have hD : va_D A (mw G a z sp pa st sv pd tl₁ (nI n) (nI t) (nI s₁) (nI q₁)) := hD
  refine lv_if_ne (tgt := 10) hx hb dX4_run_4 (by decide) (fun c_4_2 => ?_) (fun c_4_2 => ?_)
  · have hg : ¬ (rpR pd t tl).1 = 0 := c_4_2
    have hfo0 := hok hg
    rw [hu₁] at hfo0
    have hfo0 : RuOK tl₁ (q₁ - 0) 0 z := hfo0
    refine lv_aload_n hx hb dX4_run_10 rfl (lv_at hl 0 rfl) ?_
    refine cAV (As := []) (rest := []) ⟨hx, hb, hml, hown, hts⟩ (c_X4_record l G a z sp pa st sv pd tl₁ (nI t) (nI s₁) (nI q₁) n (by first | assumption | (unfold rcN; split <;> omega)) _) (cwV 0 hts gX4_run_X4_record rfl rfl rfl (by decide +kernel) ⟨Nat.le_of_ble_eq_true rfl, Nat.le_of_ble_eq_true rfl⟩) hK hP hD hS hA 0 (ci := 4) rfl rfl rfl rfl rfl hl.1 (Nat.le_of_ble_eq_true rfl) dX4_run_11 ⟨Nat.le_of_ble_eq_true rfl, Nat.le_of_ble_eq_true rfl⟩ (fun u_3 H locs hr_3 hP hD hS => ?_)
    have hP : va_P G.1 vwCl (mw G a z sp (rcA z pa n) st sv pd tl₁ (nI (rcN n)) (nI t) (nI s₁) (nI q₁)) H := hP
    have hD : va_D A (mw G a z sp (rcA z pa n) st sv pd tl₁ (nI (rcN n)) (nI t) (nI s₁) (nI q₁)) := hD
    refine lv_iconst (v := 0) hx hb dX4_run_14 (by decide) ?_
    refine lv_istore_n (lv' := [(1, .int 0), (0, .ref (a 0))]) hx hb dX4_run_15 rfl hl (by decide) rfl (fun ls hl => ?_)
    have L16 : ∀ (f i : Nat)  (y : Nat → Int32), i + f = q₁ → ruL tl₁ f i y = ruL tl₁ q₁ 0 z → RuOK tl₁ f i y → ∀ (H : Heap) (locs : List Loc), va_P G.1 vwCl (mw G a y sp (rcA z pa n) st sv pd tl₁ (nI (rcN n)) (nI t) (nI s₁) (nI q₁)) H → va_D A (mw G a y sp (rcA z pa n) st sv pd tl₁ (nI (rcN n)) (nI t) (nI s₁) (nI q₁)) → va_S A s.heap H locs → ∀ ls : Array Slot, lv_has ls 2 [(1, .int (nI i)), (0, .ref (a 0))] → W p l e { frames := 6, cells := 0, slots := 0, locals := 134 } s m ([.ref (a 0)] : List Value).toArray below meth c H locs 0 0 Q (F0 m 16 ls []) := by
      intro f
      induction f with
      | zero =>
        intro i y hi hv16 hfo H locs hP hD hS ls hl
        have hN : i = q₁ := by omega
        refine lv_iload_n hx hb dX4_run_16 rfl (lv_at hl 0 rfl) ?_
        refine lv_aload_n hx hb dX4_run_17 rfl (lv_at hl 1 rfl) ?_
        refine va_get (D := G.1) (ci := 4) (v := .int (nI q₁)) (C := RX4) (T := TX4) (N := 11) hx hb hts hinX4 hown hK.1 hP 0 rfl rfl 10 (by decide) wk2 (fun _ h9 => h9) rfl dX4_run_18 ?_
        refine lv_icmp_ge (tgt := 53) hx hb dX4_run_21 (by decide) (fun _ => ?_) (fun c_9 => absurd (nI_le (a := q₁) (b := i) (by omega) (by omega)) c_9)
        refine lv_aload_n hx hb dX4_run_53 rfl (lv_at hl 1 rfl) ?_
        refine lv_iconst (v := 0) hx hb dX4_run_54 (by decide) ?_
        refine va_put (D := G.1) (ci := 4) (v := .int 0) (ty := .int) (C := RX4) (T := TX4) (N := 11) hx hb hts hinX4 tyX4 tyX4_ok nmX4 hown hK.1 hP hD hS 0 rfl rfl 7 (by decide) wk4 (fun _ h9 => h9) rfl (by decide +kernel) rfl rfl (Nat.le_of_ble_eq_true rfl) dX4_run_55 (fun H locs hP hD hS => ?_)
        have hP : va_P G.1 vwCl (mw G a y sp (rcA z pa n) st sv pd tl₁ (nI (rcN n)) 0 (nI s₁) (nI q₁)) H := hP
        have hD : va_D A (mw G a y sp (rcA z pa n) st sv pd tl₁ (nI (rcN n)) 0 (nI s₁) (nI q₁)) := hD
        refine lv_iload_n hx hb dX4_run_58 rfl (lv_at hl 0 rfl) ?_
        have he : rnR z pd t tl = (y, i) := by rw [rnR, hu₁]; show ruL tl₁ q₁ 0 z = _; rw [← hv16]; simp only [ruL]
        have hP : va_P G.1 vwCl (mw G a (if (rpR pd t tl).1 = 0 then z else (rnR z pd t tl).1) sp (if (rpR pd t tl).1 = 0 then pa else rcA z pa n) st sv pd (rpR pd t tl).2.2.2 (nI (if (rpR pd t tl).1 = 0 then n else rcN n)) (nI (if (rpR pd t tl).1 = 0 then t else 0)) (nI (rpR pd t tl).2.1) (nI (rpR pd t tl).2.2.1)) H := by rw [if_neg hg, if_neg hg, if_neg hg, if_neg hg, he, hu₁]; exact hP
        have hD : va_D A (mw G a (if (rpR pd t tl).1 = 0 then z else (rnR z pd t tl).1) sp (if (rpR pd t tl).1 = 0 then pa else rcA z pa n) st sv pd (rpR pd t tl).2.2.2 (nI (if (rpR pd t tl).1 = 0 then n else rcN n)) (nI (if (rpR pd t tl).1 = 0 then t else 0)) (nI (rpR pd t tl).2.1) (nI (rpR pd t tl).2.2.1)) := by rw [if_neg hg, if_neg hg, if_neg hg, if_neg hg, he, hu₁]; exact hD
        exact hret _ _ _ _ _ () (by rw [if_neg hg, he]) hP hD hS dX4_run_59
      | succ f ih =>
        intro i y hi hv16 hfo H locs hP hD hS ls hl
        have hlt : i < q₁ := by omega
        refine lv_iload_n hx hb dX4_run_16 rfl (lv_at hl 0 rfl) ?_
        refine lv_aload_n hx hb dX4_run_17 rfl (lv_at hl 1 rfl) ?_
        refine va_get (D := G.1) (ci := 4) (v := .int (nI q₁)) (C := RX4) (T := TX4) (N := 11) hx hb hts hinX4 hown hK.1 hP 0 rfl rfl 10 (by decide) wk2 (fun _ h9 => h9) rfl dX4_run_18 ?_
        refine lv_icmp_ge (tgt := 53) hx hb dX4_run_21 (by decide) (fun c_9 => absurd c_9 (nI_ge (b := q₁) hlt (by omega))) (fun _ => ?_)
        obtain ⟨hz4, hfo1⟩ := hfo
        refine lv_aload_n hx hb dX4_run_24 rfl (lv_at hl 1 rfl) ?_
        refine lv_aload_n hx hb dX4_run_25 rfl (lv_at hl 1 rfl) ?_
        refine va_get (D := G.1) (ci := 4) (v := .ref (a 7)) (C := RX4) (T := TX4) (N := 11) hx hb hts hinX4 hown hK.1 hP 0 rfl rfl 9 (by decide) wk3 (fun _ h9 => h9) rfl dX4_run_26 ?_
        refine lv_iload_n hx hb dX4_run_29 rfl (lv_at hl 0 rfl) ?_
        refine qild hx hb hK.1 hP 7 0 rfl rfl (k := i) (nI_clamp (by omega)) (vp_in_nI (by omega) (by decide)) dX4_run_30 ?_
        refine cPV (As := [.int (tl₁ i)]) (rest := []) ⟨hx, hb, hml, hown, hts⟩ (c_X4_can l G a y sp (rcA z pa n) st sv pd tl₁ (nI (rcN n)) (nI t) (nI s₁) (nI q₁) (tl₁ i) hz4) (cwV 1 hts gX4_run_X4_can rfl rfl rfl (by decide +kernel) ⟨Nat.le_of_ble_eq_true rfl, Nat.le_of_ble_eq_true rfl⟩) hK hP 0 (ci := 4) rfl rfl rfl rfl rfl hl.1 (Nat.le_of_ble_eq_true rfl) dX4_run_31 ⟨Nat.le_of_ble_eq_true rfl, Nat.le_of_ble_eq_true rfl⟩ ?_
        refine lv_if_eq (tgt := 53) hx hb dX4_run_34 (by decide) (fun c_34_4 => ?_) (fun c_34_4 => ?_)
        · refine lv_aload_n hx hb dX4_run_53 rfl (lv_at hl 1 rfl) ?_
          refine lv_iconst (v := 0) hx hb dX4_run_54 (by decide) ?_
          refine va_put (D := G.1) (ci := 4) (v := .int 0) (ty := .int) (C := RX4) (T := TX4) (N := 11) hx hb hts hinX4 tyX4 tyX4_ok nmX4 hown hK.1 hP hD hS 0 rfl rfl 7 (by decide) wk4 (fun _ h9 => h9) rfl (by decide +kernel) rfl rfl (Nat.le_of_ble_eq_true rfl) dX4_run_55 (fun H locs hP hD hS => ?_)
          have hP : va_P G.1 vwCl (mw G a y sp (rcA z pa n) st sv pd tl₁ (nI (rcN n)) 0 (nI s₁) (nI q₁)) H := hP
          have hD : va_D A (mw G a y sp (rcA z pa n) st sv pd tl₁ (nI (rcN n)) 0 (nI s₁) (nI q₁)) := hD
          refine lv_iload_n hx hb dX4_run_58 rfl (lv_at hl 0 rfl) ?_
          have he : rnR z pd t tl = (y, i) := by rw [rnR, hu₁]; show ruL tl₁ q₁ 0 z = _; rw [← hv16]; simp only [ruL, if_pos c_34_4]
          have hP : va_P G.1 vwCl (mw G a (if (rpR pd t tl).1 = 0 then z else (rnR z pd t tl).1) sp (if (rpR pd t tl).1 = 0 then pa else rcA z pa n) st sv pd (rpR pd t tl).2.2.2 (nI (if (rpR pd t tl).1 = 0 then n else rcN n)) (nI (if (rpR pd t tl).1 = 0 then t else 0)) (nI (rpR pd t tl).2.1) (nI (rpR pd t tl).2.2.1)) H := by rw [if_neg hg, if_neg hg, if_neg hg, if_neg hg, he, hu₁]; exact hP
          have hD : va_D A (mw G a (if (rpR pd t tl).1 = 0 then z else (rnR z pd t tl).1) sp (if (rpR pd t tl).1 = 0 then pa else rcA z pa n) st sv pd (rpR pd t tl).2.2.2 (nI (if (rpR pd t tl).1 = 0 then n else rcN n)) (nI (if (rpR pd t tl).1 = 0 then t else 0)) (nI (rpR pd t tl).2.1) (nI (rpR pd t tl).2.2.1)) := by rw [if_neg hg, if_neg hg, if_neg hg, if_neg hg, he, hu₁]; exact hD
          exact hret _ _ _ _ _ () (by rw [if_neg hg, he]) hP hD hS dX4_run_59
        · obtain ⟨hdm, hfo2⟩ := hfo1 c_34_4
          refine lv_aload_n hx hb dX4_run_37 rfl (lv_at hl 1 rfl) ?_
          refine lv_aload_n hx hb dX4_run_38 rfl (lv_at hl 1 rfl) ?_
          refine va_get (D := G.1) (ci := 4) (v := .ref (a 7)) (C := RX4) (T := TX4) (N := 11) hx hb hts hinX4 hown hK.1 hP 0 rfl rfl 9 (by decide) wk3 (fun _ h9 => h9) rfl dX4_run_39 ?_
          refine lv_iload_n hx hb dX4_run_42 rfl (lv_at hl 0 rfl) ?_
          refine qild hx hb hK.1 hP 7 0 rfl rfl (k := i) (nI_clamp (by omega)) (vp_in_nI (by omega) (by decide)) dX4_run_43 ?_
          refine cAV (As := [.int (tl₁ i)]) (rest := []) ⟨hx, hb, hml, hown, hts⟩ (c_X4_doMove l G a y sp (rcA z pa n) st sv pd tl₁ (nI (rcN n)) (nI t) (nI s₁) (nI q₁) (tl₁ i) hdm _) (cwV 1 hts gX4_run_X4_doMove rfl rfl rfl (by decide +kernel) ⟨Nat.le_of_ble_eq_true rfl, Nat.le_of_ble_eq_true rfl⟩) hK hP hD hS hA 0 (ci := 4) rfl rfl rfl rfl rfl hl.1 (Nat.le_of_ble_eq_true rfl) dX4_run_44 ⟨Nat.le_of_ble_eq_true rfl, Nat.le_of_ble_eq_true rfl⟩ (fun u_5 H locs hr_5 hP hD hS => ?_)
          have hP : va_P G.1 vwCl (mw G a (dmZ y (tl₁ i)) sp (rcA z pa n) st sv pd tl₁ (nI (rcN n)) (nI t) (nI s₁) (nI q₁)) H := hP
          have hD : va_D A (mw G a (dmZ y (tl₁ i)) sp (rcA z pa n) st sv pd tl₁ (nI (rcN n)) (nI t) (nI s₁) (nI q₁)) := hD
          refine lv_iinc (v := nI (i + 1)) (lv' := [(1, .int (nI (i + 1))), (0, .ref (a 0))]) hx hb dX4_run_47 hl (k := 0) rfl (nI_1 _) (by decide) rfl (fun ls hl => ?_)
          refine lv_goto (tgt := 16) hx hb dX4_run_50 (by decide) ?_
          exact ih (i + 1)  (dmZ y (tl₁ i)) (by omega) (by rw [← hv16]; simp only [Nat.sub_zero, ruL, if_neg c_34_4]) hfo2 _ _ hP hD hS ls (lv_sub hl [0, 1] rfl)
    exact L16 (q₁ - 0) 0  z (by omega) (by simp only [Nat.sub_zero]) hfo0 _ _ hP hD hS ls (lv_sub hl [0, 1] rfl)
  · refine lv_ldc (v := (-100003)) hx hb hown wk1 dX4_run_7 ?_
    have hg : (rpR pd t tl).1 = 0 := c_4_2
    have hP : va_P G.1 vwCl (mw G a (if (rpR pd t tl).1 = 0 then z else (rnR z pd t tl).1) sp (if (rpR pd t tl).1 = 0 then pa else rcA z pa n) st sv pd (rpR pd t tl).2.2.2 (nI (if (rpR pd t tl).1 = 0 then n else rcN n)) (nI (if (rpR pd t tl).1 = 0 then t else 0)) (nI (rpR pd t tl).2.1) (nI (rpR pd t tl).2.2.1)) H := by rw [if_pos hg, if_pos hg, if_pos hg, if_pos hg, hu₁]; exact hP
    have hD : va_D A (mw G a (if (rpR pd t tl).1 = 0 then z else (rnR z pd t tl).1) sp (if (rpR pd t tl).1 = 0 then pa else rcA z pa n) st sv pd (rpR pd t tl).2.2.2 (nI (if (rpR pd t tl).1 = 0 then n else rcN n)) (nI (if (rpR pd t tl).1 = 0 then t else 0)) (nI (rpR pd t tl).2.1) (nI (rpR pd t tl).2.2.1)) := by rw [if_pos hg, if_pos hg, if_pos hg, if_pos hg, hu₁]; exact hD
    exact hret _ _ _ _ _ () (by rw [if_pos hg]) hP hD hS dX4_run_9
set_option maxHeartbeats 4000000 in
set_option maxRecDepth 100000 in
theorem c_X4_put (l : Launch) (G : qG) (a : Nat → Nat) (z sp pa st sv pd tl : Nat → Int32) (ns spt tm : Int32) (t : Nat) (ht : t ≤ 60) (w : Int64) (sz : Nat) : MI l yX4_put wsX4_put 1 22 G sz [.ref (a 0), .long w] (mw G a z sp pa st sv pd tl ns (nI t) spt tm) (if erP t w = 0 then nI (t + ptC w) else erP t w) (mw G a z sp pa st sv (if erP t w = 0 then apL w (ptC w) t pd else pd) tl ns (nI (if erP t w = 0 then t + ptC w else t)) spt tm) := by
  refine MI.of' (by decide) rfl (Nat.le_of_ble_eq_true rfl) ?_
  intro p e s m below meth c hx hb hml hown hts hK hsz hP A hAe hA hD hS Q hret ls hl
  have hown : s.vm.findClass RX4 = some m.cls := hown
  have hl : lv_has ls 7 [(0, .ref (a 0)), (1, .long w)] := hl
  have wk1 := hts (Cond.constantLong RX4 115 (255)) (List.mem_of_getElem? (i := 1) rfl)
  have wk2 := hts (Cond.constant RX4 49 (-100002)) (List.mem_of_getElem? (i := 2) rfl)
  have wk3 := hts (Cond.fieldLink RX4 117 "TurnBidsModel" "typed" "I") (List.mem_of_getElem? (i := 3) rfl)
  have wk4 := hts (Cond.constant RX4 120 (-100004)) (List.mem_of_getElem? (i := 4) rfl)
  have wk5 := hts (Cond.fieldLink RX4 26 "TurnBidsModel" "pad" "[I") (List.mem_of_getElem? (i := 5) rfl)
  have wk6 := hts (Cond.methodLink RX4 35 yX4_in) (List.mem_of_getElem? (i := 6) rfl)
  have hinX4 : ∀ w ∈ wsX40, w ∈ wsX4_put := fun _ h => (List.mem_cons_of_mem _ (List.mem_append_right _ h))
  have J48 : ∀ (k : Nat), k ≤ 8 → ptC w = k → ∀ ls : Array Slot, lv_has ls 7 [(5, .int (nI k)), (0, .ref (a 0)), (1, .long w)] → W p l e { frames := 1, cells := 0, slots := 0, locals := 22 } s m ([.ref (a 0), .long w] : List Value).toArray below meth c s.heap [] 0 0 Q (F0 m 48 ls []) := by
    intro k hk hc ls hl
    refine lv_iload hx hb dX4_put_48 (lv_at hl 0 rfl) ?_
    refine lv_if_ne (tgt := 56) hx hb dX4_put_50 (by decide) (fun c_50_1 => ?_) (fun c_50_1 => ?_)
    · have hn0 := c_50_1
      have hk1 := ne0 hn0
      refine lv_aload_n hx hb dX4_put_56 rfl (lv_at hl 1 rfl) ?_
      refine va_get (D := G.1) (ci := 4) (v := .int (nI t)) (C := RX4) (T := TX4) (N := 11) hx hb hts hinX4 hown hK.1 hP 0 rfl rfl 7 (by decide) wk3 (fun _ h9 => h9) rfl dX4_put_57 ?_
      refine lv_iload hx hb dX4_put_60 (lv_at hl 0 rfl) ?_
      refine lv_iadd hx hb dX4_put_62 ?_
      refine qtop (nI_add t k) ?_
      refine lv_bipush (v := 60) hx hb dX4_put_63 (by decide) ?_
      refine lv_icmp_le (tgt := 71) hx hb dX4_put_65 (by decide) (fun c_65_2 => ?_) (fun c_65_2 => ?_)
      · have hc60 := c_65_2
        have hle := nle_of (a := 60) (b := t + k) (by decide) (by omega) c_65_2
        have L77 : ∀ (f u : Nat) (y : Nat → Int32), u + f = t + ptC w → apL w f u y = apL w (ptC w) t pd → ∀ (H : Heap) (locs : List Loc), va_P G.1 vwCl (mw G a z sp pa st sv y tl ns (nI u) spt tm) H → va_D A (mw G a z sp pa st sv y tl ns (nI u) spt tm) → va_S A s.heap H locs → ∀ ls : Array Slot, lv_has ls 7 [(6, .int (nI f - 1)), (0, .ref (a 0)), (1, .long w)] → W p l e { frames := 1, cells := 0, slots := 0, locals := 22 } s m ([.ref (a 0), .long w] : List Value).toArray below meth c H locs 0 0 Q (F0 m 77 ls []) := by
          intro f
          induction f with
          | zero =>
            intro u y hi hv H locs hP hD hS ls hl
            refine lv_iload hx hb dX4_put_77 (lv_at hl 0 rfl) ?_
            refine lv_if_lt (tgt := 119) hx hb dX4_put_79 (by decide) (fun _ => ?_) (fun c_9 => absurd (by decide +kernel) c_9)
            refine lv_aload_n hx hb dX4_put_119 rfl (lv_at hl 1 rfl) ?_
            refine va_get (D := G.1) (ci := 4) (v := .int (nI u)) (C := RX4) (T := TX4) (N := 11) hx hb hts hinX4 hown hK.1 hP 0 rfl rfl 7 (by decide) wk3 (fun _ h9 => h9) rfl dX4_put_120 ?_
            have hc9 : ¬ ptC w = 9 := by omega
            have her : erP t w = 0 := by rw [erP, if_neg hc9, if_neg (by rw [hc]; exact hn0), if_pos (by rw [hc]; exact hc60)]
            have hy : y = apL w (ptC w) t pd := hv
            have hu : u = t + ptC w := by omega
            have hP : va_P G.1 vwCl (mw G a z sp pa st sv (if erP t w = 0 then apL w (ptC w) t pd else pd) tl ns (nI (if erP t w = 0 then t + ptC w else t)) spt tm) H := by rw [if_pos her, if_pos her, ← hy, ← hu]; exact hP
            have hD : va_D A (mw G a z sp pa st sv (if erP t w = 0 then apL w (ptC w) t pd else pd) tl ns (nI (if erP t w = 0 then t + ptC w else t)) spt tm) := by rw [if_pos her, if_pos her, ← hy, ← hu]; exact hD
            exact hret _ _ _ _ _ () (by rw [if_pos her, ← hu]) hP hD hS dX4_put_123
          | succ f ih =>
            intro u y hi hv H locs hP hD hS ls hl
            rw [nI_pred] at hl
            have hu60 : u < 60 := by omega
            refine lv_iload hx hb dX4_put_77 (lv_at hl 0 rfl) ?_
            refine lv_if_lt (tgt := 119) hx hb dX4_put_79 (by decide) (fun c_9 => absurd c_9 (nI_pos (by omega))) (fun _ => ?_)
            refine lv_aload_n hx hb dX4_put_82 rfl (lv_at hl 1 rfl) ?_
            refine va_get (D := G.1) (ci := 4) (v := .ref (a 6)) (C := RX4) (T := TX4) (N := 11) hx hb hts hinX4 hown hK.1 hP 0 rfl rfl 6 (by decide) wk5 (fun _ h9 => h9) rfl dX4_put_83 ?_
            refine lv_aload_n hx hb dX4_put_86 rfl (lv_at hl 1 rfl) ?_
            refine va_get (D := G.1) (ci := 4) (v := .int (nI u)) (C := RX4) (T := TX4) (N := 11) hx hb hts hinX4 hown hK.1 hP 0 rfl rfl 7 (by decide) wk3 (fun _ h9 => h9) rfl dX4_put_87 ?_
            refine lv_lload_n hx hb dX4_put_90 rfl (lv_at hl 2 rfl) ?_
            refine lv_bipush (v := 8) hx hb dX4_put_91 (by decide) ?_
            refine lv_iload hx hb dX4_put_93 (lv_at hl 0 rfl) ?_
            refine lv_imul hx hb dX4_put_95 ?_
            refine qtop (pk_mul 8 f) ?_
            refine lv_lushr (v := (w.toUInt64 >>> ((nI (8 * f)).toInt64.toUInt64 &&& Int64.toUInt64 63)).toInt64) hx hb dX4_put_96 rfl ?_
            refine lv_ldc2 (v := 255) hx hb hown wk1 dX4_put_97 ?_
            refine lv_land hx hb dX4_put_100 ?_
            refine lv_l2i (v := (((w.toUInt64 >>> ((nI (8 * f)).toInt64.toUInt64 &&& Int64.toUInt64 63)).toInt64) &&& 255).toInt32) hx hb dX4_put_101 rfl ?_
            refine qist hx hb hK.1 hP hD hS 6 0 rfl rfl (k := u) (nI_clamp (by omega)) (vp_in_nI (by omega) (by decide)) dX4_put_102 (fun H locs hP hD hS => ?_)
            have hP : va_P G.1 vwCl (mw G a z sp pa st sv (upd y u ((((w.toUInt64 >>> ((nI (8 * f)).toInt64.toUInt64 &&& Int64.toUInt64 63)).toInt64) &&& 255).toInt32)) tl ns (nI u) spt tm) H := hP
            have hD : va_D A (mw G a z sp pa st sv (upd y u ((((w.toUInt64 >>> ((nI (8 * f)).toInt64.toUInt64 &&& Int64.toUInt64 63)).toInt64) &&& 255).toInt32)) tl ns (nI u) spt tm) := hD
            refine lv_aload_n hx hb dX4_put_103 rfl (lv_at hl 1 rfl) ?_
            refine lv_dup hx hb dX4_put_104 rfl ?_
            refine va_get (D := G.1) (ci := 4) (v := .int (nI u)) (C := RX4) (T := TX4) (N := 11) hx hb hts hinX4 hown hK.1 hP 0 rfl rfl 7 (by decide) wk3 (fun _ h9 => h9) rfl dX4_put_105 ?_
            refine lv_iconst (v := 1) hx hb dX4_put_108 (by decide) ?_
            refine lv_iadd hx hb dX4_put_109 ?_
            refine qtop (nI_add u 1) ?_
            refine va_put (D := G.1) (ci := 4) (v := .int (nI (u + 1))) (ty := .int) (C := RX4) (T := TX4) (N := 11) hx hb hts hinX4 tyX4 tyX4_ok nmX4 hown hK.1 hP hD hS 0 rfl rfl 7 (by decide) wk3 (fun _ h9 => h9) rfl (by decide +kernel) rfl rfl (Nat.le_of_ble_eq_true rfl) dX4_put_110 (fun H locs hP hD hS => ?_)
            have hP : va_P G.1 vwCl (mw G a z sp pa st sv (upd y u ((((w.toUInt64 >>> ((nI (8 * f)).toInt64.toUInt64 &&& Int64.toUInt64 63)).toInt64) &&& 255).toInt32)) tl ns (nI (u + 1)) spt tm) H := hP
            have hD : va_D A (mw G a z sp pa st sv (upd y u ((((w.toUInt64 >>> ((nI (8 * f)).toInt64.toUInt64 &&& Int64.toUInt64 63)).toInt64) &&& 255).toInt32)) tl ns (nI (u + 1)) spt tm) := hD
            refine lv_iinc (v := nI f - 1) (lv' := [(6, .int (nI f - 1)), (0, .ref (a 0)), (1, .long w)]) hx hb dX4_put_113 hl (k := 0) rfl (qdec f) (by decide) rfl (fun ls hl => ?_)
            refine lv_goto (tgt := 77) hx hb dX4_put_116 (by decide) ?_
            exact ih (u + 1) _ (by omega) (by rw [← hv, apL]; rfl) _ _ hP hD hS ls (lv_sub hl [0, 1, 2] rfl)
        refine lv_iload hx hb dX4_put_71 (lv_at hl 0 rfl) ?_
        refine lv_iconst (v := 1) hx hb dX4_put_73 (by decide) ?_
        refine lv_isub hx hb dX4_put_74 ?_
        refine qtop (pk_sub (a := k) (b := 1) (by omega)) ?_
        refine lv_istore (lv' := [(6, .int (nI (k - 1))), (5, .int (nI k)), (0, .ref (a 0)), (1, .long w)]) hx hb dX4_put_75 hl (by decide) rfl (fun ls hl => ?_)
        have he1 : nI (k - 1) = nI (ptC w) - 1 := by rw [hc]; exact (pk_sub (a := k) (b := 1) (by omega)).symm
        rw [he1] at hl
        exact L77 (ptC w) t pd (by omega) rfl _ _ hP hD hS ls (lv_sub hl [0, 2, 3] rfl)
      · refine lv_ldc (v := (-100004)) hx hb hown wk4 dX4_put_68 ?_
        have hc9 : ¬ ptC w = 9 := by omega
        have her : erP t w = (-100004) := by rw [erP, if_neg hc9, if_neg (by rw [hc]; exact c_50_1), if_neg (by rw [hc]; exact c_65_2)]
        have hP : va_P G.1 vwCl (mw G a z sp pa st sv (if erP t w = 0 then apL w (ptC w) t pd else pd) tl ns (nI (if erP t w = 0 then t + ptC w else t)) spt tm) s.heap := by rw [her]; exact hP
        have hD : va_D A (mw G a z sp pa st sv (if erP t w = 0 then apL w (ptC w) t pd else pd) tl ns (nI (if erP t w = 0 then t + ptC w else t)) spt tm) := by rw [her]; exact hD
        exact hret _ _ _ _ _ () (by rw [her]; rfl) hP hD hS dX4_put_70
    · refine lv_ldc (v := (-100002)) hx hb hown wk2 dX4_put_53 ?_
      have hc9 : ¬ ptC w = 9 := by omega
      have her : erP t w = (-100002) := by rw [erP, if_neg hc9, if_pos (by rw [hc]; exact c_50_1)]
      have hP : va_P G.1 vwCl (mw G a z sp pa st sv (if erP t w = 0 then apL w (ptC w) t pd else pd) tl ns (nI (if erP t w = 0 then t + ptC w else t)) spt tm) s.heap := by rw [her]; exact hP
      have hD : va_D A (mw G a z sp pa st sv (if erP t w = 0 then apL w (ptC w) t pd else pd) tl ns (nI (if erP t w = 0 then t + ptC w else t)) spt tm) := by rw [her]; exact hD
      exact hret _ _ _ _ _ () (by rw [her]; rfl) hP hD hS dX4_put_55
  have L5 : ∀ (f k : Nat) (v : Int64), k + f = 8 → ptL f k v = ptC w → ∀ ls : Array Slot, lv_has ls 7 [(5, .int (nI k)), (3, .long v), (0, .ref (a 0)), (1, .long w)] → W p l e { frames := 1, cells := 0, slots := 0, locals := 22 } s m ([.ref (a 0), .long w] : List Value).toArray below meth c s.heap [] 0 0 Q (F0 m 5 ls []) := by
    intro f
    induction f with
    | zero =>
      intro k v hi hv ls hl
      refine lv_lload_n hx hb dX4_put_5 rfl (lv_at hl 1 rfl) ?_
      refine lv_lconst (v := 0) hx hb dX4_put_6 (by decide) ?_
      refine W.lcmp hx hb dX4_put_7 ?_
      refine lv_if_eq (tgt := 48) hx hb dX4_put_8 (by decide) (fun c_8_3 => ?_) (fun c_8_3 => ?_)
      · exact J48 k (by omega) (by rw [← hv]; simp only [ptL, if_pos c_8_3]) ls (lv_sub hl [0, 2, 3] rfl)
      · refine lv_iload hx hb dX4_put_11 (lv_at hl 0 rfl) ?_
        refine lv_bipush (v := 8) hx hb dX4_put_13 (by decide) ?_
        refine lv_icmp_ge (tgt := 48) hx hb dX4_put_15 (by decide) (fun _ => ?_) (fun c_9 => absurd (nI_le (a := 8) (b := k) (by omega) (by omega)) c_9)
        exact J48 k (by omega) (by rw [← hv]; simp only [ptL, if_neg c_8_3]) ls (lv_sub hl [0, 2, 3] rfl)
    | succ f ih =>
      intro k v hi hv ls hl
      refine lv_lload_n hx hb dX4_put_5 rfl (lv_at hl 1 rfl) ?_
      refine lv_lconst (v := 0) hx hb dX4_put_6 (by decide) ?_
      refine W.lcmp hx hb dX4_put_7 ?_
      refine lv_if_eq (tgt := 48) hx hb dX4_put_8 (by decide) (fun c_8_4 => ?_) (fun c_8_4 => ?_)
      · exact J48 k (by omega) (by rw [← hv]; simp only [ptL, if_pos c_8_4]) ls (lv_sub hl [0, 2, 3] rfl)
      · refine lv_iload hx hb dX4_put_11 (lv_at hl 0 rfl) ?_
        refine lv_bipush (v := 8) hx hb dX4_put_13 (by decide) ?_
        refine lv_icmp_ge (tgt := 48) hx hb dX4_put_15 (by decide) (fun c_9 => absurd c_9 (nI_ge (a := k) (b := 8) (by omega) (by decide))) (fun _ => ?_)
        refine lv_lload_n hx hb dX4_put_18 rfl (lv_at hl 1 rfl) ?_
        refine lv_ldc2 (v := 255) hx hb hown wk1 dX4_put_19 ?_
        refine lv_land hx hb dX4_put_22 ?_
        refine lv_l2i (v := (v &&& 255).toInt32) hx hb dX4_put_23 rfl ?_
        refine lv_bipush (v := 33) hx hb dX4_put_24 (by decide) ?_
        refine lv_bipush (v := 126) hx hb dX4_put_26 (by decide) ?_
        refine cPS (As := [.int ((v &&& 255).toInt32), .int 33, .int 126]) (rest := []) ⟨hx, hb, hml, hown, hts⟩ (c_X4_in l G ((v &&& 255).toInt32) 33 126) (cwS 3 hts gX4_put_X4_in rfl rfl rfl (by decide +kernel) ⟨Nat.le_of_ble_eq_true rfl, Nat.le_of_ble_eq_true rfl⟩) hK (fun k q h => by simp at h) rfl rfl hl.1 (Nat.le_of_ble_eq_true rfl) dX4_put_28 ⟨Nat.le_of_ble_eq_true rfl, Nat.le_of_ble_eq_true rfl⟩ ?_
        refine lv_if_ne (tgt := 37) hx hb dX4_put_31 (by decide) (fun c_31_5 => ?_) (fun c_31_5 => ?_)
        · refine lv_lload_n hx hb dX4_put_37 rfl (lv_at hl 1 rfl) ?_
          refine lv_bipush (v := 8) hx hb dX4_put_38 (by decide) ?_
          refine lv_lushr (v := (v.toUInt64 >>> ((8 : Int32).toInt64.toUInt64 &&& Int64.toUInt64 63)).toInt64) hx hb dX4_put_40 rfl ?_
          refine lv_lstore_n (lv' := [(3, .long ((v.toUInt64 >>> ((8 : Int32).toInt64.toUInt64 &&& Int64.toUInt64 63)).toInt64)), (5, .int (nI k)), (0, .ref (a 0)), (1, .long w)]) hx hb dX4_put_41 rfl hl (by decide) rfl (fun ls hl => ?_)
          refine lv_iinc (v := nI (k + 1)) (lv' := [(5, .int (nI (k + 1))), (3, .long ((v.toUInt64 >>> ((8 : Int32).toInt64.toUInt64 &&& Int64.toUInt64 63)).toInt64)), (0, .ref (a 0)), (1, .long w)]) hx hb dX4_put_42 hl (k := 1) rfl (nI_1 _) (by decide) rfl (fun ls hl => ?_)
          refine lv_goto (tgt := 5) hx hb dX4_put_45 (by decide) ?_
          exact ih (k + 1) _ (by omega) (by rw [← hv]; simp only [ptL, if_neg c_8_4, if_neg c_31_5]) ls (lv_sub hl [0, 1, 2, 3] rfl)
        · refine lv_ldc (v := (-100002)) hx hb hown wk2 dX4_put_34 ?_
          have hc9 : ptC w = 9 := by rw [← hv]; simp only [ptL, if_neg c_8_4, if_pos c_31_5]
          have her : erP t w = (-100002) := by rw [erP, if_pos hc9]
          have hP : va_P G.1 vwCl (mw G a z sp pa st sv (if erP t w = 0 then apL w (ptC w) t pd else pd) tl ns (nI (if erP t w = 0 then t + ptC w else t)) spt tm) s.heap := by rw [her]; exact hP
          have hD : va_D A (mw G a z sp pa st sv (if erP t w = 0 then apL w (ptC w) t pd else pd) tl ns (nI (if erP t w = 0 then t + ptC w else t)) spt tm) := by rw [her]; exact hD
          exact hret _ _ _ _ _ () (by rw [her]; rfl) hP hD hS dX4_put_36
  refine lv_lload_n hx hb dX4_put_0 rfl (lv_at hl 1 rfl) ?_
  refine lv_lstore_n (lv' := [(3, .long w), (0, .ref (a 0)), (1, .long w)]) hx hb dX4_put_1 rfl hl (by decide) rfl (fun ls hl => ?_)
  refine lv_iconst (v := 0) hx hb dX4_put_2 (by decide) ?_
  refine lv_istore (lv' := [(5, .int 0), (3, .long w), (0, .ref (a 0)), (1, .long w)]) hx hb dX4_put_3 hl (by decide) rfl (fun ls hl => ?_)
  exact L5 8 0 w rfl rfl ls (lv_sub hl [0, 1, 2, 3] rfl)
