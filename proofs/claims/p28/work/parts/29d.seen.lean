set_option maxHeartbeats 4000000 in
set_option maxRecDepth 100000 in
theorem c_L_seen (l : Launch) (G : qG) (o : Nat) (t r h : Nat → Nat) (g : Nat) (b : Nat → Nat) {k : CS} (ok : OKC k) : Met l yL_seen wsL_seen { frames := 3, cells := 0, slots := 0, locals := 67 } (PP G [.ref o] (ows G o t r h g b k)) (vp_Sl (fun r₀ => r₀ = snF k.1)) 0 0 (fun _ => False) := by
  refine MPl.of (by decide) rfl (Nat.le_of_ble_eq_true rfl) ?_
  intro p e s m below meth c hx hb hml hown hts hK hP Q hret ls hl
  have hown : s.vm.findClass RL = some m.cls := hown
  have hl : lv_has ls 4 [(0, .ref o)] := hl
  have wk1 := hts (Cond.constantLong RL 9 (103)) (List.mem_of_getElem? (i := 1) (by first | rfl | decide +kernel))
  have wk2 := hts (Cond.constantLong RL 11 (31)) (List.mem_of_getElem? (i := 2) (by first | rfl | decide +kernel))
  have L67 : ∀ (f i : Nat) (hh : Int64), i + f = 5 → snD k.1 f i hh = snF k.1 → ∀ ls : Array Slot, lv_has ls 4 [(3, .int (nI i)), (1, .long hh), (0, .ref o)] → W p l e { frames := 3, cells := 0, slots := 0, locals := 67 } s m ([.ref o] : List Value).toArray below meth c s.heap [] (0) (0) Q (F0 m 67 ls []) := by
    intro f
    induction f with
    | zero =>
      intro i hh hi hv ls hl
      rw [snD_0] at hv
      obtain rfl : i = 5 := by omega
      refine lv_iload_n hx hb dL_seen_67 rfl (lv_at hl 0 rfl) ?_
      refine lv_iconst (v := 5) hx hb dL_seen_68 (by decide) ?_
      refine lv_icmp_ge (tgt := 102) hx hb dL_seen_69 (by decide) (fun _ => ?_) (fun c_9 => absurd (by decide +kernel) c_9)
      refine lv_lload_n hx hb dL_seen_102 rfl (lv_at hl 1 rfl) ?_
      exact hret _ _ _ hv dL_seen_103
    | succ f ih =>
      intro i hh hi hv ls hl
      rw [snD_s] at hv
      have hlt : i < 5 := by omega
      skip
      refine lv_iload_n hx hb dL_seen_67 rfl (lv_at hl 0 rfl) ?_
      refine lv_iconst (v := 5) hx hb dL_seen_68 (by decide) ?_
      refine lv_icmp_ge (tgt := 102) hx hb dL_seen_69 (by decide) (fun c_9 => absurd c_9 (nI_ge (b := 5) hlt (by decide))) (fun _ => ?_)
      refine lv_ldc2 (v := 31) hx hb hown wk2 dL_seen_72 ?_
      refine lv_ldc2 (v := 31) hx hb hown wk2 dL_seen_75 ?_
      refine lv_lload_n hx hb dL_seen_78 rfl (lv_at hl 1 rfl) ?_
      refine lv_lmul hx hb dL_seen_79 ?_
      refine lv_aload_n hx hb dL_seen_80 rfl (lv_at hl 2 rfl) ?_
      refine lv_iload_n hx hb dL_seen_81 rfl (lv_at hl 0 rfl) ?_
      refine lR (atV k.1 (nI i)) (As := [.int (nI i)]) (rest := [.long (31 * hh), .long 31]) ⟨hx, hb, hml, hown, hts⟩ (k_at l G o t r h g b ok (nI i)) rfl (cwV 1 hts gL_seen_X3_at rfl rfl rfl (by decide +kernel) ⟨Nat.le_of_ble_eq_true rfl, Nat.le_of_ble_eq_true rfl⟩) hK hP rfl rfl hl.1 (Nat.le_of_ble_eq_true rfl) dL_seen_82 ⟨Nat.le_of_ble_eq_true rfl, Nat.le_of_ble_eq_true rfl⟩ ?_
      refine lv_i2l (v := (atV k.1 (nI i)).toInt64) hx hb dL_seen_85 rfl ?_
      refine lv_ladd hx hb dL_seen_86 ?_
      refine lv_lmul hx hb dL_seen_87 ?_
      refine lv_aload_n hx hb dL_seen_88 rfl (lv_at hl 2 rfl) ?_
      refine lv_iload_n hx hb dL_seen_89 rfl (lv_at hl 0 rfl) ?_
      refine lR (pzV k.1 (nI i)) (As := [.int (nI i)]) (rest := [.long (31 * ((31 * hh) + ((atV k.1 (nI i)).toInt64)))]) ⟨hx, hb, hml, hown, hts⟩ (k_prizeOf l G o t r h g b ok (nI i)) rfl (cwV 1 hts gL_seen_X3_prizeOf rfl rfl rfl (by decide +kernel) ⟨Nat.le_of_ble_eq_true rfl, Nat.le_of_ble_eq_true rfl⟩) hK hP rfl rfl hl.1 (Nat.le_of_ble_eq_true rfl) dL_seen_90 ⟨Nat.le_of_ble_eq_true rfl, Nat.le_of_ble_eq_true rfl⟩ ?_
      refine lv_i2l (v := (pzV k.1 (nI i)).toInt64) hx hb dL_seen_93 rfl ?_
      refine lv_ladd hx hb dL_seen_94 ?_
      refine lv_lstore_n (lv' := [(1, .long ((31 * ((31 * hh) + ((atV k.1 (nI i)).toInt64))) + ((pzV k.1 (nI i)).toInt64))), (3, .int (nI i)), (0, .ref o)]) hx hb dL_seen_95 rfl hl (by decide) rfl (fun ls hl => ?_)
      refine lv_iinc (v := nI (i + 1)) (lv' := [(3, .int (nI (i + 1))), (1, .long ((31 * ((31 * hh) + ((atV k.1 (nI i)).toInt64))) + ((pzV k.1 (nI i)).toInt64))), (0, .ref o)]) hx hb dL_seen_96 hl (k := 1) rfl (nI_1 _) (by decide) rfl (fun ls hl => ?_)
      refine lv_goto (tgt := 67) hx hb dL_seen_99 (by decide) ?_
      exact ih (i + 1) _ (by omega) hv ls (lv_sub hl [0, 1, 2] rfl)
  have L33 : ∀ (f i : Nat) (hh : Int64), i + f = 40 → snD k.1 5 0 (snB k.1 f i hh) = snF k.1 → ∀ ls : Array Slot, lv_has ls 4 [(3, .int (nI i)), (1, .long hh), (0, .ref o)] → W p l e { frames := 3, cells := 0, slots := 0, locals := 67 } s m ([.ref o] : List Value).toArray below meth c s.heap [] (0) (0) Q (F0 m 33 ls []) := by
    intro f
    induction f with
    | zero =>
      intro i hh hi hv ls hl
      rw [snB_0] at hv
      obtain rfl : i = 40 := by omega
      refine lv_iload_n hx hb dL_seen_33 rfl (lv_at hl 0 rfl) ?_
      refine lv_bipush (v := 40) hx hb dL_seen_34 (by decide) ?_
      refine lv_icmp_ge (tgt := 65) hx hb dL_seen_36 (by decide) (fun _ => ?_) (fun c_9 => absurd (by decide +kernel) c_9)
      refine lv_iconst (v := 0) hx hb dL_seen_65 (by decide) ?_
      refine lv_istore_n (lv' := [(3, .int 0), (1, .long hh), (0, .ref o)]) hx hb dL_seen_66 rfl hl (by decide) rfl (fun ls hl => ?_)
      exact L67 5 0 hh rfl hv ls (lv_sub hl [0, 1, 2] rfl)
    | succ f ih =>
      intro i hh hi hv ls hl
      rw [snB_s] at hv
      have hlt : i < 40 := by omega
      skip
      refine lv_iload_n hx hb dL_seen_33 rfl (lv_at hl 0 rfl) ?_
      refine lv_bipush (v := 40) hx hb dL_seen_34 (by decide) ?_
      refine lv_icmp_ge (tgt := 65) hx hb dL_seen_36 (by decide) (fun c_9 => absurd c_9 (nI_ge (b := 40) hlt (by decide))) (fun _ => ?_)
      refine lv_ldc2 (v := 31) hx hb hown wk2 dL_seen_39 ?_
      refine lv_lload_n hx hb dL_seen_42 rfl (lv_at hl 1 rfl) ?_
      refine lv_lmul hx hb dL_seen_43 ?_
      refine lv_aload_n hx hb dL_seen_44 rfl (lv_at hl 2 rfl) ?_
      refine lv_iload_n hx hb dL_seen_45 rfl (lv_at hl 0 rfl) ?_
      refine lv_bipush (v := 8) hx hb dL_seen_46 (by decide) ?_
      refine lv_idiv hx hb dL_seen_48 (by decide) ?_
      refine lv_iload_n hx hb dL_seen_49 rfl (lv_at hl 0 rfl) ?_
      refine lv_bipush (v := 8) hx hb dL_seen_50 (by decide) ?_
      refine lv_irem hx hb dL_seen_52 (by decide) ?_
      refine lR (plC k.1 (nI i / 8) (nI i - nI i / 8 * 8)) (As := [.int ((nI i) / 8), .int ((nI i) - (nI i) / 8 * 8)]) (rest := [.long (31 * hh)]) ⟨hx, hb, hml, hown, hts⟩ (k_player l G o t r h g b ok ((nI i) / 8) ((nI i) - (nI i) / 8 * 8)) rfl (cwV 2 hts gL_seen_X3_player rfl rfl rfl (by decide +kernel) ⟨Nat.le_of_ble_eq_true rfl, Nat.le_of_ble_eq_true rfl⟩) hK hP rfl rfl hl.1 (Nat.le_of_ble_eq_true rfl) dL_seen_53 ⟨Nat.le_of_ble_eq_true rfl, Nat.le_of_ble_eq_true rfl⟩ ?_
      refine lv_i2l (v := (plC k.1 (nI i / 8) (nI i - nI i / 8 * 8)).toInt64) hx hb dL_seen_56 rfl ?_
      refine lv_ladd hx hb dL_seen_57 ?_
      refine lv_lstore_n (lv' := [(1, .long ((31 * hh) + ((plC k.1 (nI i / 8) (nI i - nI i / 8 * 8)).toInt64))), (3, .int (nI i)), (0, .ref o)]) hx hb dL_seen_58 rfl hl (by decide) rfl (fun ls hl => ?_)
      refine lv_iinc (v := nI (i + 1)) (lv' := [(3, .int (nI (i + 1))), (1, .long ((31 * hh) + ((plC k.1 (nI i / 8) (nI i - nI i / 8 * 8)).toInt64))), (0, .ref o)]) hx hb dL_seen_59 hl (k := 1) rfl (nI_1 _) (by decide) rfl (fun ls hl => ?_)
      refine lv_goto (tgt := 33) hx hb dL_seen_62 (by decide) ?_
      exact ih (i + 1) _ (by omega) hv ls (lv_sub hl [0, 1, 2] rfl)
  have L6 : ∀ (f i : Nat) (hh : Int64), i + f = 14 → snD k.1 5 0 (snB k.1 40 0 (snA k.1 f i hh)) = snF k.1 → ∀ ls : Array Slot, lv_has ls 4 [(3, .int (nI i)), (1, .long hh), (0, .ref o)] → W p l e { frames := 3, cells := 0, slots := 0, locals := 67 } s m ([.ref o] : List Value).toArray below meth c s.heap [] (0) (0) Q (F0 m 6 ls []) := by
    intro f
    induction f with
    | zero =>
      intro i hh hi hv ls hl
      rw [snA_0] at hv
      obtain rfl : i = 14 := by omega
      refine lv_iload_n hx hb dL_seen_6 rfl (lv_at hl 0 rfl) ?_
      refine lv_bipush (v := 14) hx hb dL_seen_7 (by decide) ?_
      refine lv_icmp_ge (tgt := 31) hx hb dL_seen_9 (by decide) (fun _ => ?_) (fun c_9 => absurd (by decide +kernel) c_9)
      refine lv_iconst (v := 0) hx hb dL_seen_31 (by decide) ?_
      refine lv_istore_n (lv' := [(3, .int 0), (1, .long hh), (0, .ref o)]) hx hb dL_seen_32 rfl hl (by decide) rfl (fun ls hl => ?_)
      exact L33 40 0 hh rfl hv ls (lv_sub hl [0, 1, 2] rfl)
    | succ f ih =>
      intro i hh hi hv ls hl
      rw [snA_s] at hv
      have hlt : i < 14 := by omega
      skip
      refine lv_iload_n hx hb dL_seen_6 rfl (lv_at hl 0 rfl) ?_
      refine lv_bipush (v := 14) hx hb dL_seen_7 (by decide) ?_
      refine lv_icmp_ge (tgt := 31) hx hb dL_seen_9 (by decide) (fun c_9 => absurd c_9 (nI_ge (b := 14) hlt (by decide))) (fun _ => ?_)
      refine lv_ldc2 (v := 31) hx hb hown wk2 dL_seen_12 ?_
      refine lv_lload_n hx hb dL_seen_15 rfl (lv_at hl 1 rfl) ?_
      refine lv_lmul hx hb dL_seen_16 ?_
      refine lv_aload_n hx hb dL_seen_17 rfl (lv_at hl 2 rfl) ?_
      refine lv_iload_n hx hb dL_seen_18 rfl (lv_at hl 0 rfl) ?_
      refine lR (cnC k.1 0 0 (nI i)) (As := [.int (nI i)]) (rest := [.long (31 * hh)]) ⟨hx, hb, hml, hown, hts⟩ (k_count l G o t r h g b ok (nI i)) (cn_free k.1 _ _ (by omega)) (cwV 1 hts gL_seen_X3_count rfl rfl rfl (by decide +kernel) ⟨Nat.le_of_ble_eq_true rfl, Nat.le_of_ble_eq_true rfl⟩) hK hP rfl rfl hl.1 (Nat.le_of_ble_eq_true rfl) dL_seen_19 ⟨Nat.le_of_ble_eq_true rfl, Nat.le_of_ble_eq_true rfl⟩ ?_
      refine lv_i2l (v := (cnC k.1 0 0 (nI i)).toInt64) hx hb dL_seen_22 rfl ?_
      refine lv_ladd hx hb dL_seen_23 ?_
      refine lv_lstore_n (lv' := [(1, .long ((31 * hh) + ((cnC k.1 0 0 (nI i)).toInt64))), (3, .int (nI i)), (0, .ref o)]) hx hb dL_seen_24 rfl hl (by decide) rfl (fun ls hl => ?_)
      refine lv_iinc (v := nI (i + 1)) (lv' := [(3, .int (nI (i + 1))), (1, .long ((31 * hh) + ((cnC k.1 0 0 (nI i)).toInt64))), (0, .ref o)]) hx hb dL_seen_25 hl (k := 1) rfl (nI_1 _) (by decide) rfl (fun ls hl => ?_)
      refine lv_goto (tgt := 6) hx hb dL_seen_28 (by decide) ?_
      exact ih (i + 1) _ (by omega) hv ls (lv_sub hl [0, 1, 2] rfl)
  refine lv_ldc2 (v := 103) hx hb hown wk1 dL_seen_0 ?_
  refine lv_lstore_n (lv' := [(1, .long 103), (0, .ref o)]) hx hb dL_seen_3 rfl hl (by decide) rfl (fun ls hl => ?_)
  refine lv_iconst (v := 0) hx hb dL_seen_4 (by decide) ?_
  refine lv_istore_n (lv' := [(3, .int 0), (1, .long 103), (0, .ref o)]) hx hb dL_seen_5 rfl hl (by decide) rfl (fun ls hl => ?_)
  exact L6 14 0 103 rfl (by unfold snF; rfl) ls (lv_sub hl [0, 1, 2] rfl)
