/-! THE LAW: drop (laid by wip/p28/gen/l4.py) -/
set_option maxHeartbeats 4000000 in
set_option maxRecDepth 100000 in
theorem c_L_drop (l : Launch) (G : qG) (o : Nat) (t r h : Nat → Nat) (g : Nat) (b : Nat → Nat) {k : CS} {B : Nat} (hF : RF k B) (sz : Nat) : Met l yL_drop wsL_drop { frames := 5, cells := 11, slots := 62, locals := 107 } (PWz G sz [.ref o] (ows G o t r h g b k)) (QI (S := CS) G sz (ows G o t r h g b k) (ActP k B) (fun c₀ => ows G o t r h g b c₀)) 11 62 (va_A (ows G o t r h g b k) sz) := by
  refine MIz.of' (by decide) rfl (Nat.le_of_ble_eq_true rfl) ?_
  intro p e s m below meth c hx hb hml hown hts hK hsz hP A hAe hA hD hS hz Q hret ls hl
  have hown : s.vm.findClass RL = some m.cls := hown
  have hl : lv_has ls 11 [(0, .ref o)] := hl
  obtain ⟨ok, hTI, hB9, hpl0, hold, hnx⟩ := hF
  have wk1 := hts (Cond.constant RL 31 (-100006)) (List.mem_of_getElem? (i := 1) (by first | rfl | decide +kernel))
  have wk2 := hts (Cond.constant RL 36 (-100005)) (List.mem_of_getElem? (i := 2) (by first | rfl | decide +kernel))
  by_cases hu : k.1 10 0 = 0
  · have hidt : k.1 10 1 = (-100006) := (hTI.1.idle hu).1
    refine lv_aload_n hx hb dL_drop_0 rfl (lv_at hl 0 rfl) ?_
    refine lv_iconst (v := 5) hx hb dL_drop_1 (by decide) ?_
    refine lR ((-100006)) (As := [.int 5]) (rest := []) ⟨hx, hb, hml, hown, hts⟩ (k_count l G o t r h g b ok 5) ((cn5 _ _ _).trans hidt) (cwV 1 hts gL_drop_X3_count rfl rfl rfl (by decide +kernel) ⟨Nat.le_of_ble_eq_true rfl, Nat.le_of_ble_eq_true rfl⟩) hK hP rfl rfl hl.1 (Nat.le_of_ble_eq_true rfl) dL_drop_2 ⟨Nat.le_of_ble_eq_true rfl, Nat.le_of_ble_eq_true rfl⟩ ?_
    refine lv_istore_n (lv' := [(1, .int (-100006)), (0, .ref o)]) hx hb dL_drop_5 rfl hl (by decide) rfl (fun ls hl => ?_)
    refine lv_aload_n hx hb dL_drop_6 rfl (lv_at hl 1 rfl) ?_
    refine lv_bipush (v := 8) hx hb dL_drop_7 (by decide) ?_
    refine lR (plB k.1) (As := [.int 8]) (rest := []) ⟨hx, hb, hml, hown, hts⟩ (k_count l G o t r h g b ok 8) (cn8 _ _ _) (cwV 1 hts gL_drop_X3_count rfl rfl rfl (by decide +kernel) ⟨Nat.le_of_ble_eq_true rfl, Nat.le_of_ble_eq_true rfl⟩) hK hP rfl rfl hl.1 (Nat.le_of_ble_eq_true rfl) dL_drop_9 ⟨Nat.le_of_ble_eq_true rfl, Nat.le_of_ble_eq_true rfl⟩ ?_
    refine lv_istore_n (lv' := [(2, .int (plB k.1)), (1, .int (-100006)), (0, .ref o)]) hx hb dL_drop_12 rfl hl (by decide) rfl (fun ls hl => ?_)
    refine lv_aload_n hx hb dL_drop_13 rfl (lv_at hl 2 rfl) ?_
    refine lv_bipush (v := 10) hx hb dL_drop_14 (by decide) ?_
    refine lR (s5 (k.1 2)) (As := [.int 10]) (rest := []) ⟨hx, hb, hml, hown, hts⟩ (k_count l G o t r h g b ok 10) (cn10 _ _ _) (cwV 1 hts gL_drop_X3_count rfl rfl rfl (by decide +kernel) ⟨Nat.le_of_ble_eq_true rfl, Nat.le_of_ble_eq_true rfl⟩) hK hP rfl rfl hl.1 (Nat.le_of_ble_eq_true rfl) dL_drop_16 ⟨Nat.le_of_ble_eq_true rfl, Nat.le_of_ble_eq_true rfl⟩ ?_
    refine lv_istore_n (lv' := [(3, .int (s5 (k.1 2))), (2, .int (plB k.1)), (1, .int (-100006)), (0, .ref o)]) hx hb dL_drop_19 rfl hl (by decide) rfl (fun ls hl => ?_)
    refine lv_aload_n hx hb dL_drop_20 rfl (lv_at hl 3 rfl) ?_
    refine lv_bipush (v := 11) hx hb dL_drop_21 (by decide) ?_
    refine lR (s5 (k.1 7)) (As := [.int 11]) (rest := []) ⟨hx, hb, hml, hown, hts⟩ (k_count l G o t r h g b ok 11) (cn11 _ _ _) (cwV 1 hts gL_drop_X3_count rfl rfl rfl (by decide +kernel) ⟨Nat.le_of_ble_eq_true rfl, Nat.le_of_ble_eq_true rfl⟩) hK hP rfl rfl hl.1 (Nat.le_of_ble_eq_true rfl) dL_drop_23 ⟨Nat.le_of_ble_eq_true rfl, Nat.le_of_ble_eq_true rfl⟩ ?_
    refine lv_istore (lv' := [(4, .int (s5 (k.1 7))), (3, .int (s5 (k.1 2))), (2, .int (plB k.1)), (1, .int (-100006)), (0, .ref o)]) hx hb dL_drop_26 hl (by decide) rfl (fun ls hl => ?_)
    refine lv_aload_n hx hb dL_drop_28 rfl (lv_at hl 4 rfl) ?_
    refine lv_bipush (v := 12) hx hb dL_drop_29 (by decide) ?_
    refine lR (s5 (k.1 8)) (As := [.int 12]) (rest := []) ⟨hx, hb, hml, hown, hts⟩ (k_count l G o t r h g b ok 12) (cn12 _ _ _) (cwV 1 hts gL_drop_X3_count rfl rfl rfl (by decide +kernel) ⟨Nat.le_of_ble_eq_true rfl, Nat.le_of_ble_eq_true rfl⟩) hK hP rfl rfl hl.1 (Nat.le_of_ble_eq_true rfl) dL_drop_31 ⟨Nat.le_of_ble_eq_true rfl, Nat.le_of_ble_eq_true rfl⟩ ?_
    refine lv_istore (lv' := [(5, .int (s5 (k.1 8))), (4, .int (s5 (k.1 7))), (3, .int (s5 (k.1 2))), (2, .int (plB k.1)), (1, .int (-100006)), (0, .ref o)]) hx hb dL_drop_34 hl (by decide) rfl (fun ls hl => ?_)
    refine lv_iload_n hx hb dL_drop_36 rfl (lv_at hl 4 rfl) ?_
    refine lv_if_ge (tgt := 45) hx hb dL_drop_37 (by decide) (fun c_9 => absurd c_9 (by decide)) (fun _ => ?_)
    refine lv_ldc (v := (-100006)) hx hb hown wk1 dL_drop_40 ?_
    refine lv_goto (tgt := 51) hx hb dL_drop_42 (by decide) ?_
    refine lv_istore (lv' := [(6, .int (-100006)), (5, .int (s5 (k.1 8))), (4, .int (s5 (k.1 7))), (3, .int (s5 (k.1 2))), (2, .int (plB k.1)), (1, .int (-100006)), (0, .ref o)]) hx hb dL_drop_51 hl (by decide) rfl (fun ls hl => ?_)
    refine lv_iload_n hx hb dL_drop_53 rfl (lv_at hl 5 rfl) ?_
    refine lv_if_ge (tgt := 61) hx hb dL_drop_54 (by decide) (fun c_9 => absurd c_9 (by decide)) (fun _ => ?_)
    refine lv_iconst (v := 0) hx hb dL_drop_57 (by decide) ?_
    refine lv_goto (tgt := 67) hx hb dL_drop_58 (by decide) ?_
    refine lv_istore (lv' := [(7, .int 0), (6, .int (-100006)), (5, .int (s5 (k.1 8))), (4, .int (s5 (k.1 7))), (3, .int (s5 (k.1 2))), (2, .int (plB k.1)), (1, .int (-100006)), (0, .ref o)]) hx hb dL_drop_67 hl (by decide) rfl (fun ls hl => ?_)
    refine lv_aload_n hx hb dL_drop_69 rfl (lv_at hl 7 rfl) ?_
    refine lWr ((-100005)) (As := []) (rest := []) ⟨hx, hb, hml, hown, hts⟩ (k_drop l G o t r h g b ok  _) (refdp hu) (cwV 0 hts gL_drop_X3_drop rfl rfl rfl (by decide +kernel) ⟨Nat.le_of_ble_eq_true rfl, Nat.le_of_ble_eq_true rfl⟩) hK hP hD hS hA rfl rfl hl.1 (Nat.le_of_ble_eq_true rfl) dL_drop_70 ⟨Nat.le_of_ble_eq_true rfl, Nat.le_of_ble_eq_true rfl⟩ (fun H locs hP hD hS => ?_)
    refine lv_istore (lv' := [(8, .int (-100005)), (7, .int 0), (6, .int (-100006)), (5, .int (s5 (k.1 8))), (4, .int (s5 (k.1 7))), (3, .int (s5 (k.1 2))), (2, .int (plB k.1)), (1, .int (-100006)), (0, .ref o)]) hx hb dL_drop_73 hl (by decide) rfl (fun ls hl => ?_)
    refine lv_iload_n hx hb dL_drop_75 rfl (lv_at hl 7 rfl) ?_
    refine lv_if_ge (tgt := 93) hx hb dL_drop_76 (by decide) (fun c_9 => absurd c_9 (by decide)) (fun _ => ?_)
    refine lv_iload hx hb dL_drop_79 (lv_at hl 0 rfl) ?_
    refine lv_ldc (v := (-100005)) hx hb hown wk2 dL_drop_81 ?_
    refine lv_icmp_ne (tgt := 90) hx hb dL_drop_83 (by decide) (fun c_9 => absurd (by decide) c_9) (fun _ => ?_)
    refine lv_iconst (v := 0) hx hb dL_drop_86 (by decide) ?_
    refine lv_goto (tgt := 92) hx hb dL_drop_87 (by decide) ?_
    refine W.widen (k := 11) (n := 62) (Nat.le_of_ble_eq_true rfl) (Nat.le_of_ble_eq_true rfl) ?_
    exact hret _ _ _ _ _ _ (Or.inl ⟨rfl, rfl⟩) hP hD hS dL_drop_92
  · obtain ⟨hTI1, hsz, j, hj, ht, hr0, h7, hcase⟩ := drop_F hTI hu
    obtain ⟨T1, hT1⟩ : ∃ T1 : Tb, T1 = drT k.1 := ⟨_, rfl⟩
    rw [← hT1] at hTI1 hr0 h7 hcase
    obtain ⟨-, -, -, hc0, -⟩ := hTI1.1.plr hj
    rcases hcase with ⟨j', h3, hj', hv, g5, g10, g6, g8, gs⟩ | ⟨w, h2, hw, hv, g10, g4, gat, gpl, gs8, gle⟩
    · have hn5 := nT_le k.1
      refine lv_aload_n hx hb dL_drop_0 rfl (lv_at hl 0 rfl) ?_
      refine lv_iconst (v := 5) hx hb dL_drop_1 (by decide) ?_
      refine lR (nI j) (As := [.int 5]) (rest := []) ⟨hx, hb, hml, hown, hts⟩ (k_count l G o t r h g b ok 5) ((cn5 _ _ _).trans (ht)) (cwV 1 hts gL_drop_X3_count rfl rfl rfl (by decide +kernel) ⟨Nat.le_of_ble_eq_true rfl, Nat.le_of_ble_eq_true rfl⟩) hK hP rfl rfl hl.1 (Nat.le_of_ble_eq_true rfl) dL_drop_2 ⟨Nat.le_of_ble_eq_true rfl, Nat.le_of_ble_eq_true rfl⟩ ?_
      refine lv_istore_n (lv' := [(1, .int (nI j)), (0, .ref o)]) hx hb dL_drop_5 rfl hl (by decide) rfl (fun ls hl => ?_)
      refine lv_aload_n hx hb dL_drop_6 rfl (lv_at hl 1 rfl) ?_
      refine lv_bipush (v := 8) hx hb dL_drop_7 (by decide) ?_
      refine lR (plB k.1) (As := [.int 8]) (rest := []) ⟨hx, hb, hml, hown, hts⟩ (k_count l G o t r h g b ok 8) (cn8 _ _ _) (cwV 1 hts gL_drop_X3_count rfl rfl rfl (by decide +kernel) ⟨Nat.le_of_ble_eq_true rfl, Nat.le_of_ble_eq_true rfl⟩) hK hP rfl rfl hl.1 (Nat.le_of_ble_eq_true rfl) dL_drop_9 ⟨Nat.le_of_ble_eq_true rfl, Nat.le_of_ble_eq_true rfl⟩ ?_
      refine lv_istore_n (lv' := [(2, .int (plB k.1)), (1, .int (nI j)), (0, .ref o)]) hx hb dL_drop_12 rfl hl (by decide) rfl (fun ls hl => ?_)
      refine lv_aload_n hx hb dL_drop_13 rfl (lv_at hl 2 rfl) ?_
      refine lv_bipush (v := 10) hx hb dL_drop_14 (by decide) ?_
      refine lR (s5 (k.1 2)) (As := [.int 10]) (rest := []) ⟨hx, hb, hml, hown, hts⟩ (k_count l G o t r h g b ok 10) (cn10 _ _ _) (cwV 1 hts gL_drop_X3_count rfl rfl rfl (by decide +kernel) ⟨Nat.le_of_ble_eq_true rfl, Nat.le_of_ble_eq_true rfl⟩) hK hP rfl rfl hl.1 (Nat.le_of_ble_eq_true rfl) dL_drop_16 ⟨Nat.le_of_ble_eq_true rfl, Nat.le_of_ble_eq_true rfl⟩ ?_
      refine lv_istore_n (lv' := [(3, .int (s5 (k.1 2))), (2, .int (plB k.1)), (1, .int (nI j)), (0, .ref o)]) hx hb dL_drop_19 rfl hl (by decide) rfl (fun ls hl => ?_)
      refine lv_aload_n hx hb dL_drop_20 rfl (lv_at hl 3 rfl) ?_
      refine lv_bipush (v := 11) hx hb dL_drop_21 (by decide) ?_
      refine lR (s5 (k.1 7)) (As := [.int 11]) (rest := []) ⟨hx, hb, hml, hown, hts⟩ (k_count l G o t r h g b ok 11) (cn11 _ _ _) (cwV 1 hts gL_drop_X3_count rfl rfl rfl (by decide +kernel) ⟨Nat.le_of_ble_eq_true rfl, Nat.le_of_ble_eq_true rfl⟩) hK hP rfl rfl hl.1 (Nat.le_of_ble_eq_true rfl) dL_drop_23 ⟨Nat.le_of_ble_eq_true rfl, Nat.le_of_ble_eq_true rfl⟩ ?_
      refine lv_istore (lv' := [(4, .int (s5 (k.1 7))), (3, .int (s5 (k.1 2))), (2, .int (plB k.1)), (1, .int (nI j)), (0, .ref o)]) hx hb dL_drop_26 hl (by decide) rfl (fun ls hl => ?_)
      refine lv_aload_n hx hb dL_drop_28 rfl (lv_at hl 4 rfl) ?_
      refine lv_bipush (v := 12) hx hb dL_drop_29 (by decide) ?_
      refine lR (s5 (k.1 8)) (As := [.int 12]) (rest := []) ⟨hx, hb, hml, hown, hts⟩ (k_count l G o t r h g b ok 12) (cn12 _ _ _) (cwV 1 hts gL_drop_X3_count rfl rfl rfl (by decide +kernel) ⟨Nat.le_of_ble_eq_true rfl, Nat.le_of_ble_eq_true rfl⟩) hK hP rfl rfl hl.1 (Nat.le_of_ble_eq_true rfl) dL_drop_31 ⟨Nat.le_of_ble_eq_true rfl, Nat.le_of_ble_eq_true rfl⟩ ?_
      refine lv_istore (lv' := [(5, .int (s5 (k.1 8))), (4, .int (s5 (k.1 7))), (3, .int (s5 (k.1 2))), (2, .int (plB k.1)), (1, .int (nI j)), (0, .ref o)]) hx hb dL_drop_34 hl (by decide) rfl (fun ls hl => ?_)
      refine lv_iload_n hx hb dL_drop_36 rfl (lv_at hl 4 rfl) ?_
      refine lv_if_ge (tgt := 45) hx hb dL_drop_37 (by decide) (fun _ => ?_) (fun c_9 => absurd (nI_pos' (by omega)) c_9)
      refine lv_aload_n hx hb dL_drop_45 rfl (lv_at hl 5 rfl) ?_
      refine lv_iload_n hx hb dL_drop_46 rfl (lv_at hl 4 rfl) ?_
      refine lv_iconst (v := 3) hx hb dL_drop_47 (by decide) ?_
      refine lR (k.1 5 j) (As := [.int (nI j), .int 3]) (rest := []) ⟨hx, hb, hml, hown, hts⟩ (k_player l G o t r h g b ok (nI j) 3) (pl_at k.1 hj 3 (by decide)) (cwV 2 hts gL_drop_X3_player rfl rfl rfl (by decide +kernel) ⟨Nat.le_of_ble_eq_true rfl, Nat.le_of_ble_eq_true rfl⟩) hK hP rfl rfl hl.1 (Nat.le_of_ble_eq_true rfl) dL_drop_48 ⟨Nat.le_of_ble_eq_true rfl, Nat.le_of_ble_eq_true rfl⟩ ?_
      refine lv_istore (lv' := [(6, .int (k.1 5 j)), (5, .int (s5 (k.1 8))), (4, .int (s5 (k.1 7))), (3, .int (s5 (k.1 2))), (2, .int (plB k.1)), (1, .int (nI j)), (0, .ref o)]) hx hb dL_drop_51 hl (by decide) rfl (fun ls hl => ?_)
      refine lv_iload_n hx hb dL_drop_53 rfl (lv_at hl 5 rfl) ?_
      refine lv_if_ge (tgt := 61) hx hb dL_drop_54 (by decide) (fun _ => ?_) (fun c_9 => absurd (nI_pos' (by omega)) c_9)
      refine lv_aload_n hx hb dL_drop_61 rfl (lv_at hl 6 rfl) ?_
      refine lv_iload_n hx hb dL_drop_62 rfl (lv_at hl 5 rfl) ?_
      refine lv_iconst (v := 5) hx hb dL_drop_63 (by decide) ?_
      refine lR (k.1 7 j) (As := [.int (nI j), .int 5]) (rest := []) ⟨hx, hb, hml, hown, hts⟩ (k_player l G o t r h g b ok (nI j) 5) (pl_at k.1 hj 5 (by decide)) (cwV 2 hts gL_drop_X3_player rfl rfl rfl (by decide +kernel) ⟨Nat.le_of_ble_eq_true rfl, Nat.le_of_ble_eq_true rfl⟩) hK hP rfl rfl hl.1 (Nat.le_of_ble_eq_true rfl) dL_drop_64 ⟨Nat.le_of_ble_eq_true rfl, Nat.le_of_ble_eq_true rfl⟩ ?_
      refine lv_istore (lv' := [(7, .int (k.1 7 j)), (6, .int (k.1 5 j)), (5, .int (s5 (k.1 8))), (4, .int (s5 (k.1 7))), (3, .int (s5 (k.1 2))), (2, .int (plB k.1)), (1, .int (nI j)), (0, .ref o)]) hx hb dL_drop_67 hl (by decide) rfl (fun ls hl => ?_)
      refine lv_aload_n hx hb dL_drop_69 rfl (lv_at hl 7 rfl) ?_
      refine lW (As := []) (rest := []) ⟨hx, hb, hml, hown, hts⟩ (k_drop l G o t r h g b ok  _) (cwV 0 hts gL_drop_X3_drop rfl rfl rfl (by decide +kernel) ⟨Nat.le_of_ble_eq_true rfl, Nat.le_of_ble_eq_true rfl⟩) hK hP hD hS hA rfl rfl hl.1 (Nat.le_of_ble_eq_true rfl) dL_drop_70 ⟨Nat.le_of_ble_eq_true rfl, Nat.le_of_ble_eq_true rfl⟩ (fun r_1 k1 H locs hr_1 hP hD hS => ?_)
      obtain ⟨e_r, u, e_k⟩ := maden hu _ _ hr_1
      rw [← hT1] at e_k
      rw [hv] at e_r
      subst e_r
      subst e_k
      refine lv_istore (lv' := [(8, .int (nI j')), (7, .int (k.1 7 j)), (6, .int (k.1 5 j)), (5, .int (s5 (k.1 8))), (4, .int (s5 (k.1 7))), (3, .int (s5 (k.1 2))), (2, .int (plB k.1)), (1, .int (nI j)), (0, .ref o)]) hx hb dL_drop_73 hl (by decide) rfl (fun ls hl => ?_)
      refine lv_iload_n hx hb dL_drop_75 rfl (lv_at hl 7 rfl) ?_
      refine lv_if_ge (tgt := 93) hx hb dL_drop_76 (by decide) (fun _ => ?_) (fun c_9 => absurd (nI_pos' (by omega)) c_9)
      have J123 : ∀ (H : Heap) (locs : List Loc), va_P G.1 vwCl (ows G o t r h g b (kp k u T1)) H → va_D A (ows G o t r h g b (kp k u T1)) → va_S A s.heap H locs → ∀ ls : Array Slot, lv_has ls 11 [(8, .int (nI j')), (7, .int (k.1 7 j)), (6, .int (k.1 5 j)), (5, .int (s5 (k.1 8))), (4, .int (s5 (k.1 7))), (3, .int (s5 (k.1 2))), (2, .int (plB k.1)), (1, .int (nI j)), (0, .ref o)] → W p l e { frames := 5, cells := 11, slots := 62, locals := 107 } s m ([.ref o] : List Value).toArray below meth c H locs (11) (62) Q (F0 m 123 ls [.int (shr k.1 j (k.1 0 3)), .int (k.1 7 j), .int (k.1 7 j + shr k.1 j (k.1 0 3))]) := by
        intro H locs hP hD hS ls hl
        refine lv_iadd hx hb dL_drop_123 ?_
        refine lv_icmp_ne (tgt := 140) hx hb dL_drop_124 (by decide) (fun c_9 => absurd rfl c_9) (fun _ => ?_)
        refine lv_aload_n hx hb dL_drop_127 rfl (lv_at hl 8 rfl) ?_
        refine lv_iload_n hx hb dL_drop_128 rfl (lv_at hl 7 rfl) ?_
        refine lv_iconst (v := 0) hx hb dL_drop_129 (by decide) ?_
        refine lR (T1 2 j) (As := [.int (nI j), .int 0]) (rest := []) ⟨hx, hb, hml, hown, hts⟩ (k_player l G o t r h g b (OKC_kp ok hnx hTI1.1.t01 u) (nI j) 0) (pl_at T1 hj 0 (by decide)) (cwV 2 hts gL_drop_X3_player rfl rfl rfl (by decide +kernel) ⟨Nat.le_of_ble_eq_true rfl, Nat.le_of_ble_eq_true rfl⟩) hK hP rfl rfl hl.1 (Nat.le_of_ble_eq_true rfl) dL_drop_130 ⟨Nat.le_of_ble_eq_true rfl, Nat.le_of_ble_eq_true rfl⟩ ?_
        refine lv_if_lt (tgt := 140) hx hb dL_drop_133 (by decide) (fun c_9 => absurd c_9 hc0) (fun _ => ?_)
        refine lv_iconst (v := 1) hx hb dL_drop_136 (by decide) ?_
        refine lv_goto (tgt := 141) hx hb dL_drop_137 (by decide) ?_
        refine lv_istore (lv' := [(9, .int 1), (8, .int (nI j')), (7, .int (k.1 7 j)), (6, .int (k.1 5 j)), (5, .int (s5 (k.1 8))), (4, .int (s5 (k.1 7))), (3, .int (s5 (k.1 2))), (2, .int (plB k.1)), (1, .int (nI j)), (0, .ref o)]) hx hb dL_drop_141 hl (by decide) rfl (fun ls hl => ?_)
        refine lv_iload_n hx hb dL_drop_143 rfl (lv_at hl 7 rfl) ?_
        refine lSi (nI (nT k.1)) (As := [.int (plB k.1)]) (rest := []) ⟨hx, hb, hml, hown, hts⟩ (c_L_size l G (plB k.1)) hsz (va_cwS 1 hts gL_drop_L_size rfl rfl rfl (by decide +kernel) ⟨Nat.le_of_ble_eq_true rfl, Nat.le_of_ble_eq_true rfl⟩) hK rfl rfl hl.1 (Nat.le_of_ble_eq_true rfl) dL_drop_144 ⟨Nat.le_of_ble_eq_true rfl, Nat.le_of_ble_eq_true rfl⟩ ?_
        refine lv_iconst (v := 2) hx hb dL_drop_147 (by decide) ?_
        refine lv_icmp_le (tgt := 227) hx hb dL_drop_148 (by decide) (fun c_9 => absurd c_9 (nI_ge (a := 2) (b := nT k.1) (by omega) (by omega))) (fun _ => ?_)
        refine lv_iload hx hb dL_drop_151 (lv_at hl 0 rfl) ?_
        refine lv_if_eq (tgt := 224) hx hb dL_drop_153 (by decide) (fun c_9 => absurd c_9 (by decide)) (fun _ => ?_)
        refine lv_iload hx hb dL_drop_156 (lv_at hl 1 rfl) ?_
        refine lv_if_lt (tgt := 224) hx hb dL_drop_158 (by decide) (fun c_9 => absurd c_9 (nI_pos (by omega))) (fun _ => ?_)
        refine lv_aload_n hx hb dL_drop_161 rfl (lv_at hl 9 rfl) ?_
        refine lv_iconst (v := 5) hx hb dL_drop_162 (by decide) ?_
        refine lR (nI j') (As := [.int 5]) (rest := []) ⟨hx, hb, hml, hown, hts⟩ (k_count l G o t r h g b (OKC_kp ok hnx hTI1.1.t01 u) 5) ((cn5 _ _ _).trans (g5)) (cwV 1 hts gL_drop_X3_count rfl rfl rfl (by decide +kernel) ⟨Nat.le_of_ble_eq_true rfl, Nat.le_of_ble_eq_true rfl⟩) hK hP rfl rfl hl.1 (Nat.le_of_ble_eq_true rfl) dL_drop_163 ⟨Nat.le_of_ble_eq_true rfl, Nat.le_of_ble_eq_true rfl⟩ ?_
        refine lv_iload hx hb dL_drop_166 (lv_at hl 1 rfl) ?_
        refine lv_icmp_ne (tgt := 224) hx hb dL_drop_168 (by decide) (fun c_9 => absurd rfl c_9) (fun _ => ?_)
        refine lv_aload_n hx hb dL_drop_171 rfl (lv_at hl 9 rfl) ?_
        refine lv_iload_n hx hb dL_drop_172 rfl (lv_at hl 8 rfl) ?_
        refine lv_iconst (v := 4) hx hb dL_drop_173 (by decide) ?_
        refine lR (nI (nT k.1 - 1)) (As := [.int (nI j), .int 4]) (rest := []) ⟨hx, hb, hml, hown, hts⟩ (k_player l G o t r h g b (OKC_kp ok hnx hTI1.1.t01 u) (nI j) 4) ((pl_at T1 hj 4 (by decide)).trans g6) (cwV 2 hts gL_drop_X3_player rfl rfl rfl (by decide +kernel) ⟨Nat.le_of_ble_eq_true rfl, Nat.le_of_ble_eq_true rfl⟩) hK hP rfl rfl hl.1 (Nat.le_of_ble_eq_true rfl) dL_drop_174 ⟨Nat.le_of_ble_eq_true rfl, Nat.le_of_ble_eq_true rfl⟩ ?_
        refine lv_iload_n hx hb dL_drop_177 rfl (lv_at hl 7 rfl) ?_
        refine lSi (nI (nT k.1)) (As := [.int (plB k.1)]) (rest := [.int (nI (nT k.1 - 1))]) ⟨hx, hb, hml, hown, hts⟩ (c_L_size l G (plB k.1)) hsz (va_cwS 1 hts gL_drop_L_size rfl rfl rfl (by decide +kernel) ⟨Nat.le_of_ble_eq_true rfl, Nat.le_of_ble_eq_true rfl⟩) hK rfl rfl hl.1 (Nat.le_of_ble_eq_true rfl) dL_drop_178 ⟨Nat.le_of_ble_eq_true rfl, Nat.le_of_ble_eq_true rfl⟩ ?_
        refine lv_iconst (v := 1) hx hb dL_drop_181 (by decide) ?_
        refine lv_isub hx hb dL_drop_182 ?_
        refine qtop (y := nI (nT k.1 - 1)) (pk_sub (a := nT k.1) (b := 1) (by omega)) ?_
        refine lv_icmp_ne (tgt := 224) hx hb dL_drop_183 (by decide) (fun c_9 => absurd rfl c_9) (fun _ => ?_)
        refine lv_aload_n hx hb dL_drop_186 rfl (lv_at hl 9 rfl) ?_
        refine lv_bipush (v := 8) hx hb dL_drop_187 (by decide) ?_
        refine lR (plB k.1 - ((1 : Int32) <<< (nI j &&& 31))) (As := [.int 8]) (rest := []) ⟨hx, hb, hml, hown, hts⟩ (k_count l G o t r h g b (OKC_kp ok hnx hTI1.1.t01 u) 8) ((cn8 _ _ _).trans (g8)) (cwV 1 hts gL_drop_X3_count rfl rfl rfl (by decide +kernel) ⟨Nat.le_of_ble_eq_true rfl, Nat.le_of_ble_eq_true rfl⟩) hK hP rfl rfl hl.1 (Nat.le_of_ble_eq_true rfl) dL_drop_189 ⟨Nat.le_of_ble_eq_true rfl, Nat.le_of_ble_eq_true rfl⟩ ?_
        refine lv_iload_n hx hb dL_drop_192 rfl (lv_at hl 7 rfl) ?_
        refine lv_iconst (v := 1) hx hb dL_drop_193 (by decide) ?_
        refine lv_iload_n hx hb dL_drop_194 rfl (lv_at hl 8 rfl) ?_
        refine lv_ishl hx hb dL_drop_195 ?_
        refine lv_isub hx hb dL_drop_196 ?_
        refine lv_icmp_ne (tgt := 224) hx hb dL_drop_197 (by decide) (fun c_9 => absurd rfl c_9) (fun _ => ?_)
        refine lv_aload_n hx hb dL_drop_200 rfl (lv_at hl 9 rfl) ?_
        refine lv_bipush (v := 10) hx hb dL_drop_201 (by decide) ?_
        refine lR (s5 (T1 2)) (As := [.int 10]) (rest := []) ⟨hx, hb, hml, hown, hts⟩ (k_count l G o t r h g b (OKC_kp ok hnx hTI1.1.t01 u) 10) (cn10 T1 _ _) (cwV 1 hts gL_drop_X3_count rfl rfl rfl (by decide +kernel) ⟨Nat.le_of_ble_eq_true rfl, Nat.le_of_ble_eq_true rfl⟩) hK hP rfl rfl hl.1 (Nat.le_of_ble_eq_true rfl) dL_drop_203 ⟨Nat.le_of_ble_eq_true rfl, Nat.le_of_ble_eq_true rfl⟩ ?_
        refine lv_iload_n hx hb dL_drop_206 rfl (lv_at hl 6 rfl) ?_
        refine lv_aload_n hx hb dL_drop_207 rfl (lv_at hl 9 rfl) ?_
        refine lv_bipush (v := 11) hx hb dL_drop_208 (by decide) ?_
        refine lR (s5 (T1 7)) (As := [.int 11]) (rest := [.int (s5 (k.1 2)), .int (s5 (T1 2))]) ⟨hx, hb, hml, hown, hts⟩ (k_count l G o t r h g b (OKC_kp ok hnx hTI1.1.t01 u) 11) (cn11 T1 _ _) (cwV 1 hts gL_drop_X3_count rfl rfl rfl (by decide +kernel) ⟨Nat.le_of_ble_eq_true rfl, Nat.le_of_ble_eq_true rfl⟩) hK hP rfl rfl hl.1 (Nat.le_of_ble_eq_true rfl) dL_drop_210 ⟨Nat.le_of_ble_eq_true rfl, Nat.le_of_ble_eq_true rfl⟩ ?_
        refine lv_isub hx hb dL_drop_213 ?_
        refine lv_iload hx hb dL_drop_214 (lv_at hl 5 rfl) ?_
        refine lv_iadd hx hb dL_drop_216 ?_
        refine lv_icmp_ne (tgt := 224) hx hb dL_drop_217 (by decide) (fun c_9 => absurd gs c_9) (fun _ => ?_)
        refine lv_iconst (v := 1) hx hb dL_drop_220 (by decide) ?_
        refine lv_goto (tgt := 226) hx hb dL_drop_221 (by decide) ?_
        refine W.widen (k := 11) (n := 62) (Nat.le_of_ble_eq_true rfl) (Nat.le_of_ble_eq_true rfl) ?_
        exact hret _ _ _ _ _ _ (Or.inr ⟨rfl, u, T1, rfl, hTI1⟩) hP hD hS dL_drop_226
      refine lv_aload_n hx hb dL_drop_93 rfl (lv_at hl 8 rfl) ?_
      refine lv_iload_n hx hb dL_drop_94 rfl (lv_at hl 7 rfl) ?_
      refine lv_iconst (v := 5) hx hb dL_drop_95 (by decide) ?_
      refine lR (k.1 7 j + shr k.1 j (k.1 0 3)) (As := [.int (nI j), .int 5]) (rest := []) ⟨hx, hb, hml, hown, hts⟩ (k_player l G o t r h g b (OKC_kp ok hnx hTI1.1.t01 u) (nI j) 5) ((pl_at T1 hj 5 (by decide)).trans h7) (cwV 2 hts gL_drop_X3_player rfl rfl rfl (by decide +kernel) ⟨Nat.le_of_ble_eq_true rfl, Nat.le_of_ble_eq_true rfl⟩) hK hP rfl rfl hl.1 (Nat.le_of_ble_eq_true rfl) dL_drop_96 ⟨Nat.le_of_ble_eq_true rfl, Nat.le_of_ble_eq_true rfl⟩ ?_
      refine lv_iload hx hb dL_drop_99 (lv_at hl 1 rfl) ?_
      refine lv_iload hx hb dL_drop_101 (lv_at hl 2 rfl) ?_
      refine lv_ldc (v := (-100006)) hx hb hown wk1 dL_drop_103 ?_
      refine lv_icmp_ne (tgt := 112) hx hb dL_drop_105 (by decide) (fun c_b => ?_) (fun c_b => ?_)
      · refine lv_iload hx hb dL_drop_112 (lv_at hl 2 rfl) ?_
        refine lv_aload_n hx hb dL_drop_114 rfl (lv_at hl 8 rfl) ?_
        refine lv_iconst (v := 3) hx hb dL_drop_115 (by decide) ?_
        refine lR (k.1 0 3) (As := [.int 3]) (rest := [.int (k.1 5 j), .int (k.1 7 j), .int (k.1 7 j + shr k.1 j (k.1 0 3))]) ⟨hx, hb, hml, hown, hts⟩ (k_count l G o t r h g b (OKC_kp ok hnx hTI1.1.t01 u) 3) ((cnS0 T1 _ _ (i := 3) (by decide)).trans (by rw [hr0])) (cwV 1 hts gL_drop_X3_count rfl rfl rfl (by decide +kernel) ⟨Nat.le_of_ble_eq_true rfl, Nat.le_of_ble_eq_true rfl⟩) hK hP rfl rfl hl.1 (Nat.le_of_ble_eq_true rfl) dL_drop_116 ⟨Nat.le_of_ble_eq_true rfl, Nat.le_of_ble_eq_true rfl⟩ ?_
        refine lv_imul hx hb dL_drop_119 ?_
        refine lv_bipush (v := 100) hx hb dL_drop_120 (by decide) ?_
        refine lv_idiv hx hb dL_drop_122 (by decide) ?_
        refine qtop (y := shr k.1 j (k.1 0 3)) (show k.1 5 j * k.1 0 3 / 100 = shr k.1 j (k.1 0 3) from by unfold shr; rw [if_neg c_b]) ?_
        refine W.widen (k := 11) (n := 62) (Nat.le_of_ble_eq_true rfl) (Nat.le_of_ble_eq_true rfl) ?_
        exact J123 _ _ hP hD hS ls (lv_sub hl [0, 1, 2, 3, 4, 5, 6, 7, 8] rfl)
      · refine lv_iconst (v := 0) hx hb dL_drop_108 (by decide) ?_
        refine lv_goto (tgt := 123) hx hb dL_drop_109 (by decide) ?_
        refine qtop (y := shr k.1 j (k.1 0 3)) (show (0 : Int32) = shr k.1 j (k.1 0 3) from by unfold shr; rw [if_pos c_b]) ?_
        refine W.widen (k := 11) (n := 62) (Nat.le_of_ble_eq_true rfl) (Nat.le_of_ble_eq_true rfl) ?_
        exact J123 _ _ hP hD hS ls (lv_sub hl [0, 1, 2, 3, 4, 5, 6, 7, 8] rfl)
    · skip
      refine lv_aload_n hx hb dL_drop_0 rfl (lv_at hl 0 rfl) ?_
      refine lv_iconst (v := 5) hx hb dL_drop_1 (by decide) ?_
      refine lR (nI j) (As := [.int 5]) (rest := []) ⟨hx, hb, hml, hown, hts⟩ (k_count l G o t r h g b ok 5) ((cn5 _ _ _).trans (ht)) (cwV 1 hts gL_drop_X3_count rfl rfl rfl (by decide +kernel) ⟨Nat.le_of_ble_eq_true rfl, Nat.le_of_ble_eq_true rfl⟩) hK hP rfl rfl hl.1 (Nat.le_of_ble_eq_true rfl) dL_drop_2 ⟨Nat.le_of_ble_eq_true rfl, Nat.le_of_ble_eq_true rfl⟩ ?_
      refine lv_istore_n (lv' := [(1, .int (nI j)), (0, .ref o)]) hx hb dL_drop_5 rfl hl (by decide) rfl (fun ls hl => ?_)
      refine lv_aload_n hx hb dL_drop_6 rfl (lv_at hl 1 rfl) ?_
      refine lv_bipush (v := 8) hx hb dL_drop_7 (by decide) ?_
      refine lR (plB k.1) (As := [.int 8]) (rest := []) ⟨hx, hb, hml, hown, hts⟩ (k_count l G o t r h g b ok 8) (cn8 _ _ _) (cwV 1 hts gL_drop_X3_count rfl rfl rfl (by decide +kernel) ⟨Nat.le_of_ble_eq_true rfl, Nat.le_of_ble_eq_true rfl⟩) hK hP rfl rfl hl.1 (Nat.le_of_ble_eq_true rfl) dL_drop_9 ⟨Nat.le_of_ble_eq_true rfl, Nat.le_of_ble_eq_true rfl⟩ ?_
      refine lv_istore_n (lv' := [(2, .int (plB k.1)), (1, .int (nI j)), (0, .ref o)]) hx hb dL_drop_12 rfl hl (by decide) rfl (fun ls hl => ?_)
      refine lv_aload_n hx hb dL_drop_13 rfl (lv_at hl 2 rfl) ?_
      refine lv_bipush (v := 10) hx hb dL_drop_14 (by decide) ?_
      refine lR (s5 (k.1 2)) (As := [.int 10]) (rest := []) ⟨hx, hb, hml, hown, hts⟩ (k_count l G o t r h g b ok 10) (cn10 _ _ _) (cwV 1 hts gL_drop_X3_count rfl rfl rfl (by decide +kernel) ⟨Nat.le_of_ble_eq_true rfl, Nat.le_of_ble_eq_true rfl⟩) hK hP rfl rfl hl.1 (Nat.le_of_ble_eq_true rfl) dL_drop_16 ⟨Nat.le_of_ble_eq_true rfl, Nat.le_of_ble_eq_true rfl⟩ ?_
      refine lv_istore_n (lv' := [(3, .int (s5 (k.1 2))), (2, .int (plB k.1)), (1, .int (nI j)), (0, .ref o)]) hx hb dL_drop_19 rfl hl (by decide) rfl (fun ls hl => ?_)
      refine lv_aload_n hx hb dL_drop_20 rfl (lv_at hl 3 rfl) ?_
      refine lv_bipush (v := 11) hx hb dL_drop_21 (by decide) ?_
      refine lR (s5 (k.1 7)) (As := [.int 11]) (rest := []) ⟨hx, hb, hml, hown, hts⟩ (k_count l G o t r h g b ok 11) (cn11 _ _ _) (cwV 1 hts gL_drop_X3_count rfl rfl rfl (by decide +kernel) ⟨Nat.le_of_ble_eq_true rfl, Nat.le_of_ble_eq_true rfl⟩) hK hP rfl rfl hl.1 (Nat.le_of_ble_eq_true rfl) dL_drop_23 ⟨Nat.le_of_ble_eq_true rfl, Nat.le_of_ble_eq_true rfl⟩ ?_
      refine lv_istore (lv' := [(4, .int (s5 (k.1 7))), (3, .int (s5 (k.1 2))), (2, .int (plB k.1)), (1, .int (nI j)), (0, .ref o)]) hx hb dL_drop_26 hl (by decide) rfl (fun ls hl => ?_)
      refine lv_aload_n hx hb dL_drop_28 rfl (lv_at hl 4 rfl) ?_
      refine lv_bipush (v := 12) hx hb dL_drop_29 (by decide) ?_
      refine lR (s5 (k.1 8)) (As := [.int 12]) (rest := []) ⟨hx, hb, hml, hown, hts⟩ (k_count l G o t r h g b ok 12) (cn12 _ _ _) (cwV 1 hts gL_drop_X3_count rfl rfl rfl (by decide +kernel) ⟨Nat.le_of_ble_eq_true rfl, Nat.le_of_ble_eq_true rfl⟩) hK hP rfl rfl hl.1 (Nat.le_of_ble_eq_true rfl) dL_drop_31 ⟨Nat.le_of_ble_eq_true rfl, Nat.le_of_ble_eq_true rfl⟩ ?_
      refine lv_istore (lv' := [(5, .int (s5 (k.1 8))), (4, .int (s5 (k.1 7))), (3, .int (s5 (k.1 2))), (2, .int (plB k.1)), (1, .int (nI j)), (0, .ref o)]) hx hb dL_drop_34 hl (by decide) rfl (fun ls hl => ?_)
      refine lv_iload_n hx hb dL_drop_36 rfl (lv_at hl 4 rfl) ?_
      refine lv_if_ge (tgt := 45) hx hb dL_drop_37 (by decide) (fun _ => ?_) (fun c_9 => absurd (nI_pos' (by omega)) c_9)
      refine lv_aload_n hx hb dL_drop_45 rfl (lv_at hl 5 rfl) ?_
      refine lv_iload_n hx hb dL_drop_46 rfl (lv_at hl 4 rfl) ?_
      refine lv_iconst (v := 3) hx hb dL_drop_47 (by decide) ?_
      refine lR (k.1 5 j) (As := [.int (nI j), .int 3]) (rest := []) ⟨hx, hb, hml, hown, hts⟩ (k_player l G o t r h g b ok (nI j) 3) (pl_at k.1 hj 3 (by decide)) (cwV 2 hts gL_drop_X3_player rfl rfl rfl (by decide +kernel) ⟨Nat.le_of_ble_eq_true rfl, Nat.le_of_ble_eq_true rfl⟩) hK hP rfl rfl hl.1 (Nat.le_of_ble_eq_true rfl) dL_drop_48 ⟨Nat.le_of_ble_eq_true rfl, Nat.le_of_ble_eq_true rfl⟩ ?_
      refine lv_istore (lv' := [(6, .int (k.1 5 j)), (5, .int (s5 (k.1 8))), (4, .int (s5 (k.1 7))), (3, .int (s5 (k.1 2))), (2, .int (plB k.1)), (1, .int (nI j)), (0, .ref o)]) hx hb dL_drop_51 hl (by decide) rfl (fun ls hl => ?_)
      refine lv_iload_n hx hb dL_drop_53 rfl (lv_at hl 5 rfl) ?_
      refine lv_if_ge (tgt := 61) hx hb dL_drop_54 (by decide) (fun _ => ?_) (fun c_9 => absurd (nI_pos' (by omega)) c_9)
      refine lv_aload_n hx hb dL_drop_61 rfl (lv_at hl 6 rfl) ?_
      refine lv_iload_n hx hb dL_drop_62 rfl (lv_at hl 5 rfl) ?_
      refine lv_iconst (v := 5) hx hb dL_drop_63 (by decide) ?_
      refine lR (k.1 7 j) (As := [.int (nI j), .int 5]) (rest := []) ⟨hx, hb, hml, hown, hts⟩ (k_player l G o t r h g b ok (nI j) 5) (pl_at k.1 hj 5 (by decide)) (cwV 2 hts gL_drop_X3_player rfl rfl rfl (by decide +kernel) ⟨Nat.le_of_ble_eq_true rfl, Nat.le_of_ble_eq_true rfl⟩) hK hP rfl rfl hl.1 (Nat.le_of_ble_eq_true rfl) dL_drop_64 ⟨Nat.le_of_ble_eq_true rfl, Nat.le_of_ble_eq_true rfl⟩ ?_
      refine lv_istore (lv' := [(7, .int (k.1 7 j)), (6, .int (k.1 5 j)), (5, .int (s5 (k.1 8))), (4, .int (s5 (k.1 7))), (3, .int (s5 (k.1 2))), (2, .int (plB k.1)), (1, .int (nI j)), (0, .ref o)]) hx hb dL_drop_67 hl (by decide) rfl (fun ls hl => ?_)
      refine lv_aload_n hx hb dL_drop_69 rfl (lv_at hl 7 rfl) ?_
      refine lW (As := []) (rest := []) ⟨hx, hb, hml, hown, hts⟩ (k_drop l G o t r h g b ok  _) (cwV 0 hts gL_drop_X3_drop rfl rfl rfl (by decide +kernel) ⟨Nat.le_of_ble_eq_true rfl, Nat.le_of_ble_eq_true rfl⟩) hK hP hD hS hA rfl rfl hl.1 (Nat.le_of_ble_eq_true rfl) dL_drop_70 ⟨Nat.le_of_ble_eq_true rfl, Nat.le_of_ble_eq_true rfl⟩ (fun r_2 k1 H locs hr_2 hP hD hS => ?_)
      obtain ⟨e_r, u, e_k⟩ := maden hu _ _ hr_2
      rw [← hT1] at e_k
      rw [hv] at e_r
      subst e_r
      subst e_k
      refine lv_istore (lv' := [(8, .int (-100006)), (7, .int (k.1 7 j)), (6, .int (k.1 5 j)), (5, .int (s5 (k.1 8))), (4, .int (s5 (k.1 7))), (3, .int (s5 (k.1 2))), (2, .int (plB k.1)), (1, .int (nI j)), (0, .ref o)]) hx hb dL_drop_73 hl (by decide) rfl (fun ls hl => ?_)
      refine lv_iload_n hx hb dL_drop_75 rfl (lv_at hl 7 rfl) ?_
      refine lv_if_ge (tgt := 93) hx hb dL_drop_76 (by decide) (fun _ => ?_) (fun c_9 => absurd (nI_pos' (by omega)) c_9)
      have J123 : ∀ (H : Heap) (locs : List Loc), va_P G.1 vwCl (ows G o t r h g b (kp k u T1)) H → va_D A (ows G o t r h g b (kp k u T1)) → va_S A s.heap H locs → ∀ ls : Array Slot, lv_has ls 11 [(8, .int (-100006)), (7, .int (k.1 7 j)), (6, .int (k.1 5 j)), (5, .int (s5 (k.1 8))), (4, .int (s5 (k.1 7))), (3, .int (s5 (k.1 2))), (2, .int (plB k.1)), (1, .int (nI j)), (0, .ref o)] → W p l e { frames := 5, cells := 11, slots := 62, locals := 107 } s m ([.ref o] : List Value).toArray below meth c H locs (11) (62) Q (F0 m 123 ls [.int (shr k.1 j (k.1 0 3)), .int (k.1 7 j), .int (k.1 7 j + shr k.1 j (k.1 0 3))]) := by
        intro H locs hP hD hS ls hl
        refine lv_iadd hx hb dL_drop_123 ?_
        refine lv_icmp_ne (tgt := 140) hx hb dL_drop_124 (by decide) (fun c_9 => absurd rfl c_9) (fun _ => ?_)
        refine lv_aload_n hx hb dL_drop_127 rfl (lv_at hl 8 rfl) ?_
        refine lv_iload_n hx hb dL_drop_128 rfl (lv_at hl 7 rfl) ?_
        refine lv_iconst (v := 0) hx hb dL_drop_129 (by decide) ?_
        refine lR (T1 2 j) (As := [.int (nI j), .int 0]) (rest := []) ⟨hx, hb, hml, hown, hts⟩ (k_player l G o t r h g b (OKC_kp ok hnx hTI1.1.t01 u) (nI j) 0) (pl_at T1 hj 0 (by decide)) (cwV 2 hts gL_drop_X3_player rfl rfl rfl (by decide +kernel) ⟨Nat.le_of_ble_eq_true rfl, Nat.le_of_ble_eq_true rfl⟩) hK hP rfl rfl hl.1 (Nat.le_of_ble_eq_true rfl) dL_drop_130 ⟨Nat.le_of_ble_eq_true rfl, Nat.le_of_ble_eq_true rfl⟩ ?_
        refine lv_if_lt (tgt := 140) hx hb dL_drop_133 (by decide) (fun c_9 => absurd c_9 hc0) (fun _ => ?_)
        refine lv_iconst (v := 1) hx hb dL_drop_136 (by decide) ?_
        refine lv_goto (tgt := 141) hx hb dL_drop_137 (by decide) ?_
        refine lv_istore (lv' := [(9, .int 1), (8, .int (-100006)), (7, .int (k.1 7 j)), (6, .int (k.1 5 j)), (5, .int (s5 (k.1 8))), (4, .int (s5 (k.1 7))), (3, .int (s5 (k.1 2))), (2, .int (plB k.1)), (1, .int (nI j)), (0, .ref o)]) hx hb dL_drop_141 hl (by decide) rfl (fun ls hl => ?_)
        refine lv_iload_n hx hb dL_drop_143 rfl (lv_at hl 7 rfl) ?_
        refine lSi (nI (nT k.1)) (As := [.int (plB k.1)]) (rest := []) ⟨hx, hb, hml, hown, hts⟩ (c_L_size l G (plB k.1)) hsz (va_cwS 1 hts gL_drop_L_size rfl rfl rfl (by decide +kernel) ⟨Nat.le_of_ble_eq_true rfl, Nat.le_of_ble_eq_true rfl⟩) hK rfl rfl hl.1 (Nat.le_of_ble_eq_true rfl) dL_drop_144 ⟨Nat.le_of_ble_eq_true rfl, Nat.le_of_ble_eq_true rfl⟩ ?_
        refine lv_iconst (v := 2) hx hb dL_drop_147 (by decide) ?_
        refine lv_icmp_le (tgt := 227) hx hb dL_drop_148 (by decide) (fun _ => ?_) (fun c_9 => absurd (show nI (nT k.1) ≤ 2 from by rw [h2]; decide +kernel) c_9)
        refine lv_aload_n hx hb dL_drop_227 rfl (lv_at hl 9 rfl) ?_
        refine lv_iconst (v := 0) hx hb dL_drop_228 (by decide) ?_
        refine lR (nI w) (As := [.int 0]) (rest := []) ⟨hx, hb, hml, hown, hts⟩ (k_at l G o t r h g b (OKC_kp ok hnx hTI1.1.t01 u) 0) (show (if (0 : Int32) < 0 then (-100001) else if (0 : Int32) < 5 then pAt (T1 4) 0 else (-100001)) = nI w from by rw [if_neg (by decide), if_pos (by decide)]; exact gat) (cwV 1 hts gL_drop_X3_at rfl rfl rfl (by decide +kernel) ⟨Nat.le_of_ble_eq_true rfl, Nat.le_of_ble_eq_true rfl⟩) hK hP rfl rfl hl.1 (Nat.le_of_ble_eq_true rfl) dL_drop_229 ⟨Nat.le_of_ble_eq_true rfl, Nat.le_of_ble_eq_true rfl⟩ ?_
        refine lv_istore (lv' := [(10, .int (nI w)), (9, .int 1), (8, .int (-100006)), (7, .int (k.1 7 j)), (6, .int (k.1 5 j)), (5, .int (s5 (k.1 8))), (4, .int (s5 (k.1 7))), (3, .int (s5 (k.1 2))), (2, .int (plB k.1)), (1, .int (nI j)), (0, .ref o)]) hx hb dL_drop_232 hl (by decide) rfl (fun ls hl => ?_)
        refine lv_iload hx hb dL_drop_234 (lv_at hl 1 rfl) ?_
        refine lv_if_eq (tgt := 325) hx hb dL_drop_236 (by decide) (fun c_9 => absurd c_9 (by decide)) (fun _ => ?_)
        refine lv_iload hx hb dL_drop_239 (lv_at hl 2 rfl) ?_
        refine lv_ldc (v := (-100006)) hx hb hown wk1 dL_drop_241 ?_
        refine lv_icmp_ne (tgt := 325) hx hb dL_drop_243 (by decide) (fun c_9 => absurd (by decide) c_9) (fun _ => ?_)
        refine lv_aload_n hx hb dL_drop_246 rfl (lv_at hl 10 rfl) ?_
        refine lv_iconst (v := 4) hx hb dL_drop_247 (by decide) ?_
        refine lR (0) (As := [.int 4]) (rest := []) ⟨hx, hb, hml, hown, hts⟩ (k_count l G o t r h g b (OKC_kp ok hnx hTI1.1.t01 u) 4) ((cn4 hTI1.1.t01 _ _).trans g10) (cwV 1 hts gL_drop_X3_count rfl rfl rfl (by decide +kernel) ⟨Nat.le_of_ble_eq_true rfl, Nat.le_of_ble_eq_true rfl⟩) hK hP rfl rfl hl.1 (Nat.le_of_ble_eq_true rfl) dL_drop_248 ⟨Nat.le_of_ble_eq_true rfl, Nat.le_of_ble_eq_true rfl⟩ ?_
        refine lv_if_ne (tgt := 325) hx hb dL_drop_251 (by decide) (fun c_9 => absurd (by decide) c_9) (fun _ => ?_)
        refine lv_aload_n hx hb dL_drop_254 rfl (lv_at hl 10 rfl) ?_
        refine lv_iload_n hx hb dL_drop_255 rfl (lv_at hl 9 rfl) ?_
        refine lv_iconst (v := 2) hx hb dL_drop_256 (by decide) ?_
        refine lR (1) (As := [.int (nI j), .int 2]) (rest := []) ⟨hx, hb, hml, hown, hts⟩ (k_player l G o t r h g b (OKC_kp ok hnx hTI1.1.t01 u) (nI j) 2) ((pl_at T1 hj 2 (by decide)).trans g4) (cwV 2 hts gL_drop_X3_player rfl rfl rfl (by decide +kernel) ⟨Nat.le_of_ble_eq_true rfl, Nat.le_of_ble_eq_true rfl⟩) hK hP rfl rfl hl.1 (Nat.le_of_ble_eq_true rfl) dL_drop_257 ⟨Nat.le_of_ble_eq_true rfl, Nat.le_of_ble_eq_true rfl⟩ ?_
        refine lv_iconst (v := 1) hx hb dL_drop_260 (by decide) ?_
        refine lv_icmp_ne (tgt := 325) hx hb dL_drop_261 (by decide) (fun c_9 => absurd (by decide) c_9) (fun _ => ?_)
        refine lv_iload_n hx hb dL_drop_264 rfl (lv_at hl 8 rfl) ?_
        refine lv_iconst (v := 1) hx hb dL_drop_265 (by decide) ?_
        refine lv_iload_n hx hb dL_drop_266 rfl (lv_at hl 9 rfl) ?_
        refine lv_ishl hx hb dL_drop_267 ?_
        refine lv_iconst (v := 1) hx hb dL_drop_268 (by decide) ?_
        refine lv_iload hx hb dL_drop_269 (lv_at hl 0 rfl) ?_
        refine lv_ishl hx hb dL_drop_271 ?_
        refine lv_ior hx hb dL_drop_272 ?_
        refine lv_icmp_ne (tgt := 325) hx hb dL_drop_273 (by decide) (fun c_9 => absurd gpl c_9) (fun _ => ?_)
        refine lv_aload_n hx hb dL_drop_276 rfl (lv_at hl 10 rfl) ?_
        refine lv_bipush (v := 12) hx hb dL_drop_277 (by decide) ?_
        refine lR (s5 (T1 8)) (As := [.int 12]) (rest := []) ⟨hx, hb, hml, hown, hts⟩ (k_count l G o t r h g b (OKC_kp ok hnx hTI1.1.t01 u) 12) (cn12 T1 _ _) (cwV 1 hts gL_drop_X3_count rfl rfl rfl (by decide +kernel) ⟨Nat.le_of_ble_eq_true rfl, Nat.le_of_ble_eq_true rfl⟩) hK hP rfl rfl hl.1 (Nat.le_of_ble_eq_true rfl) dL_drop_279 ⟨Nat.le_of_ble_eq_true rfl, Nat.le_of_ble_eq_true rfl⟩ ?_
        refine lv_iload hx hb dL_drop_282 (lv_at hl 5 rfl) ?_
        refine lv_aload_n hx hb dL_drop_284 rfl (lv_at hl 10 rfl) ?_
        refine lv_bipush (v := 13) hx hb dL_drop_285 (by decide) ?_
        refine lR (s5 (T1 1)) (As := [.int 13]) (rest := [.int (s5 (k.1 8)), .int (s5 (T1 8))]) ⟨hx, hb, hml, hown, hts⟩ (k_count l G o t r h g b (OKC_kp ok hnx hTI1.1.t01 u) 13) (cn13 T1 _ _) (cwV 1 hts gL_drop_X3_count rfl rfl rfl (by decide +kernel) ⟨Nat.le_of_ble_eq_true rfl, Nat.le_of_ble_eq_true rfl⟩) hK hP rfl rfl hl.1 (Nat.le_of_ble_eq_true rfl) dL_drop_287 ⟨Nat.le_of_ble_eq_true rfl, Nat.le_of_ble_eq_true rfl⟩ ?_
        refine lv_iadd hx hb dL_drop_290 ?_
        refine lv_icmp_ne (tgt := 325) hx hb dL_drop_291 (by decide) (fun c_9 => absurd gs8 c_9) (fun _ => ?_)
        refine lv_aload_n hx hb dL_drop_294 rfl (lv_at hl 10 rfl) ?_
        refine lv_bipush (v := 10) hx hb dL_drop_295 (by decide) ?_
        refine lR (s5 (T1 2)) (As := [.int 10]) (rest := []) ⟨hx, hb, hml, hown, hts⟩ (k_count l G o t r h g b (OKC_kp ok hnx hTI1.1.t01 u) 10) (cn10 T1 _ _) (cwV 1 hts gL_drop_X3_count rfl rfl rfl (by decide +kernel) ⟨Nat.le_of_ble_eq_true rfl, Nat.le_of_ble_eq_true rfl⟩) hK hP rfl rfl hl.1 (Nat.le_of_ble_eq_true rfl) dL_drop_297 ⟨Nat.le_of_ble_eq_true rfl, Nat.le_of_ble_eq_true rfl⟩ ?_
        refine lv_iload_n hx hb dL_drop_300 rfl (lv_at hl 7 rfl) ?_
        refine lv_aload_n hx hb dL_drop_301 rfl (lv_at hl 10 rfl) ?_
        refine lv_bipush (v := 11) hx hb dL_drop_302 (by decide) ?_
        refine lR (s5 (T1 7)) (As := [.int 11]) (rest := [.int (s5 (k.1 2)), .int (s5 (T1 2))]) ⟨hx, hb, hml, hown, hts⟩ (k_count l G o t r h g b (OKC_kp ok hnx hTI1.1.t01 u) 11) (cn11 T1 _ _) (cwV 1 hts gL_drop_X3_count rfl rfl rfl (by decide +kernel) ⟨Nat.le_of_ble_eq_true rfl, Nat.le_of_ble_eq_true rfl⟩) hK hP rfl rfl hl.1 (Nat.le_of_ble_eq_true rfl) dL_drop_304 ⟨Nat.le_of_ble_eq_true rfl, Nat.le_of_ble_eq_true rfl⟩ ?_
        refine lv_isub hx hb dL_drop_307 ?_
        refine lv_iload hx hb dL_drop_308 (lv_at hl 6 rfl) ?_
        refine lv_iadd hx hb dL_drop_310 ?_
        refine lv_aload_n hx hb dL_drop_311 rfl (lv_at hl 10 rfl) ?_
        refine lv_bipush (v := 13) hx hb dL_drop_312 (by decide) ?_
        refine lR (s5 (T1 1)) (As := [.int 13]) (rest := [.int (((s5 (k.1 2)) - (s5 (T1 7))) + (s5 (k.1 7))), .int (s5 (T1 2))]) ⟨hx, hb, hml, hown, hts⟩ (k_count l G o t r h g b (OKC_kp ok hnx hTI1.1.t01 u) 13) (cn13 T1 _ _) (cwV 1 hts gL_drop_X3_count rfl rfl rfl (by decide +kernel) ⟨Nat.le_of_ble_eq_true rfl, Nat.le_of_ble_eq_true rfl⟩) hK hP rfl rfl hl.1 (Nat.le_of_ble_eq_true rfl) dL_drop_314 ⟨Nat.le_of_ble_eq_true rfl, Nat.le_of_ble_eq_true rfl⟩ ?_
        refine lv_iadd hx hb dL_drop_317 ?_
        refine lv_icmp_gt (tgt := 325) hx hb dL_drop_318 (by decide) (fun c_9 => absurd c_9 gle) (fun _ => ?_)
        refine lv_iconst (v := 1) hx hb dL_drop_321 (by decide) ?_
        refine lv_goto (tgt := 327) hx hb dL_drop_322 (by decide) ?_
        refine W.widen (k := 11) (n := 62) (Nat.le_of_ble_eq_true rfl) (Nat.le_of_ble_eq_true rfl) ?_
        exact hret _ _ _ _ _ _ (Or.inr ⟨rfl, u, T1, rfl, hTI1⟩) hP hD hS dL_drop_327
      refine lv_aload_n hx hb dL_drop_93 rfl (lv_at hl 8 rfl) ?_
      refine lv_iload_n hx hb dL_drop_94 rfl (lv_at hl 7 rfl) ?_
      refine lv_iconst (v := 5) hx hb dL_drop_95 (by decide) ?_
      refine lR (k.1 7 j + shr k.1 j (k.1 0 3)) (As := [.int (nI j), .int 5]) (rest := []) ⟨hx, hb, hml, hown, hts⟩ (k_player l G o t r h g b (OKC_kp ok hnx hTI1.1.t01 u) (nI j) 5) ((pl_at T1 hj 5 (by decide)).trans h7) (cwV 2 hts gL_drop_X3_player rfl rfl rfl (by decide +kernel) ⟨Nat.le_of_ble_eq_true rfl, Nat.le_of_ble_eq_true rfl⟩) hK hP rfl rfl hl.1 (Nat.le_of_ble_eq_true rfl) dL_drop_96 ⟨Nat.le_of_ble_eq_true rfl, Nat.le_of_ble_eq_true rfl⟩ ?_
      refine lv_iload hx hb dL_drop_99 (lv_at hl 1 rfl) ?_
      refine lv_iload hx hb dL_drop_101 (lv_at hl 2 rfl) ?_
      refine lv_ldc (v := (-100006)) hx hb hown wk1 dL_drop_103 ?_
      refine lv_icmp_ne (tgt := 112) hx hb dL_drop_105 (by decide) (fun c_b => ?_) (fun c_b => ?_)
      · refine lv_iload hx hb dL_drop_112 (lv_at hl 2 rfl) ?_
        refine lv_aload_n hx hb dL_drop_114 rfl (lv_at hl 8 rfl) ?_
        refine lv_iconst (v := 3) hx hb dL_drop_115 (by decide) ?_
        refine lR (k.1 0 3) (As := [.int 3]) (rest := [.int (k.1 5 j), .int (k.1 7 j), .int (k.1 7 j + shr k.1 j (k.1 0 3))]) ⟨hx, hb, hml, hown, hts⟩ (k_count l G o t r h g b (OKC_kp ok hnx hTI1.1.t01 u) 3) ((cnS0 T1 _ _ (i := 3) (by decide)).trans (by rw [hr0])) (cwV 1 hts gL_drop_X3_count rfl rfl rfl (by decide +kernel) ⟨Nat.le_of_ble_eq_true rfl, Nat.le_of_ble_eq_true rfl⟩) hK hP rfl rfl hl.1 (Nat.le_of_ble_eq_true rfl) dL_drop_116 ⟨Nat.le_of_ble_eq_true rfl, Nat.le_of_ble_eq_true rfl⟩ ?_
        refine lv_imul hx hb dL_drop_119 ?_
        refine lv_bipush (v := 100) hx hb dL_drop_120 (by decide) ?_
        refine lv_idiv hx hb dL_drop_122 (by decide) ?_
        refine qtop (y := shr k.1 j (k.1 0 3)) (show k.1 5 j * k.1 0 3 / 100 = shr k.1 j (k.1 0 3) from by unfold shr; rw [if_neg c_b]) ?_
        refine W.widen (k := 11) (n := 62) (Nat.le_of_ble_eq_true rfl) (Nat.le_of_ble_eq_true rfl) ?_
        exact J123 _ _ hP hD hS ls (lv_sub hl [0, 1, 2, 3, 4, 5, 6, 7, 8] rfl)
      · refine lv_iconst (v := 0) hx hb dL_drop_108 (by decide) ?_
        refine lv_goto (tgt := 123) hx hb dL_drop_109 (by decide) ?_
        refine qtop (y := shr k.1 j (k.1 0 3)) (show (0 : Int32) = shr k.1 j (k.1 0 3) from by unfold shr; rw [if_pos c_b]) ?_
        refine W.widen (k := 11) (n := 62) (Nat.le_of_ble_eq_true rfl) (Nat.le_of_ble_eq_true rfl) ?_
        exact J123 _ _ hP hD hS ls (lv_sub hl [0, 1, 2, 3, 4, 5, 6, 7, 8] rfl)
