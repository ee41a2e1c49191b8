set_option maxHeartbeats 4000000 in
set_option maxRecDepth 100000 in
/-- a cell of the script -/
theorem c_L_cell (l : Launch) (G : qG) (bs L : Nat) (xs : Nat → Int32) (hL : L ≤ 260) (i : Nat) (hi : i < 100) : Met l yL_cell wsL_cell { frames := 0, cells := 0, slots := 0, locals := 0 } (va_Pc [.ref bs, .int (nI i)] (fun U => va_X bs L xs U U.heap ∧ bs < U.heap.size)) (vp_Si (fun r₀ => r₀ = ceV L xs i)) 0 0 (fun _ => False) := by
  refine Met.ofW (cc := cL_cell) (maxL := 2) (ret := some .int) (by decide) rfl ?_
  intro p e s m args below meth c s₁ B hml hv
  obtain ⟨rfl, hX, hbl⟩ := hv
  have hts := atoms_spec (ws := wsL_cell) B.pre
  obtain ⟨ls, he, hl⟩ := lv_start (m := m) [.ref bs, .int (nI i)] (n := 2) (Nat.le_of_ble_eq_true rfl)
  rw [he]
  have hx := B.exec
  have hb := B.bytes
  have hown : s.vm.findClass RL = some m.cls := findClass_of_methodNamed B.named
  have hl : lv_has ls 2 [(0, .ref bs), (1, .int (nI i))] := hl
  have hS : va_S (fun q : Nat => s.heap.size ≤ q) s.heap s.heap [] := va_S.rf
  have hbA : ¬ (fun q : Nat => s.heap.size ≤ q) bs := Nat.not_le.mpr hbl
  have w1 := hts (Cond.constant RL 7 (1925078388)) (List.mem_of_getElem? (i := 1) rfl)
  have w2 := hts (Cond.constant RL 8 (2147483647)) (List.mem_of_getElem? (i := 2) rfl)
  refine lv_iload_n hx hb dL_cell_0 rfl (lv_at hl 1 rfl) ?_
  refine lv_aload_n hx hb dL_cell_1 rfl (lv_at hl 0 rfl) ?_
  refine va_slen hx hb hX hbl hbA hS dL_cell_2 ?_
  refine lv_icmp_ge (tgt := 12) hx hb dL_cell_3 (by decide) (fun q => ?_) (fun q => ?_)
  · have hn : ¬ i < L := fun h9 => by
      have := (nI_leI (by omega) (by omega)).mp q
      omega
    refine lv_ldc (v := 1925078388) hx hb hown w1 dL_cell_12 ?_
    refine lv_iload_n hx hb dL_cell_14 rfl (lv_at hl 1 rfl) ?_
    refine lv_sipush (v := 139) hx hb dL_cell_15 (by decide) ?_
    refine lv_iadd hx hb dL_cell_18 ?_
    refine lv_imul hx hb dL_cell_19 ?_
    refine lv_sipush (v := 29009) hx hb dL_cell_20 (by decide) ?_
    refine lv_iadd hx hb dL_cell_23 ?_
    refine lv_ldc (v := 2147483647) hx hb hown w2 dL_cell_24 ?_
    refine lv_iand hx hb dL_cell_26 ?_
    exact W.iret B.exec B.bytes B.returns (fun t ht _ => ⟨_, rfl, by unfold ceV; rw [if_neg hn], ht⟩) (fun q h => by cases h) dL_cell_27 B.notSynchronized
  · have hn : i < L := by
      have h9 : ¬ L ≤ i := fun h8 => q ((nI_leI (by omega) (by omega)).mpr h8)
      omega
    refine lv_aload_n hx hb dL_cell_6 rfl (lv_at hl 0 rfl) ?_
    refine lv_iload_n hx hb dL_cell_7 rfl (lv_at hl 1 rfl) ?_
    refine va_sld hx hb hX hbl hbA hS (vp_in_nI hn (by omega)) dL_cell_8 ?_
    rw [nI_clamp (by omega)]
    refine lv_goto (tgt := 24) hx hb dL_cell_9 (by decide) ?_
    refine lv_ldc (v := 2147483647) hx hb hown w2 dL_cell_24 ?_
    refine lv_iand hx hb dL_cell_26 ?_
    exact W.iret B.exec B.bytes B.returns (fun t ht _ => ⟨_, rfl, by unfold ceV; rw [if_pos hn], ht⟩) (fun q h => by cases h) dL_cell_27 B.notSynchronized
