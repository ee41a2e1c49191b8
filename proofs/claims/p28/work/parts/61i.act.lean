/-! THE LAW: act, further (laid by wip/p28/gen/l5.py) -/
set_option maxHeartbeats 4000000 in
set_option maxRecDepth 100000 in
theorem c_L_act_set (l : Launch) (G : qG) (o : Nat) (t r h : Nat → Nat) (g : Nat) (b : Nat → Nat) {k : CS} {B : Nat} (hF : RF k B) (hB29 : 29 ≤ B) {n : Nat} (hn : n < 2 ^ 31) (hc : n % 16 = 15) (sz : Nat) : Met l yL_act wsL_act { frames := 7, cells := 11, slots := 62, locals := 149 } (PWz G sz [.ref o, .int (nI n)] (ows G o t r h g b k)) (QI (S := CS) G sz (ows G o t r h g b k) (ActP k (B + 11)) (fun c₀ => ows G o t r h g b c₀)) 11 62 (va_A (ows G o t r h g b k) sz) := by
  refine MIz.of' (by decide) rfl (Nat.le_of_ble_eq_true rfl) ?_
  intro p e s m below meth c hx hb hml hown hts hK hsz hP A hAe hA hD hS hz Q hret ls hl
  have hown : s.vm.findClass RL = some m.cls := hown
  have hl : lv_has ls 10 [(0, .ref o), (1, .int (nI n))] := hl
  have hF0 := hF
  obtain ⟨ok, hTI, hB9, hpl0, hold, hnx⟩ := hF
  obtain ⟨y, hy, hy9⟩ : ∃ y : Nat, nI n / 16 = nI y ∧ y < 2 ^ 28 := ⟨n / 16, pk_div (a := n) (d := 16) hn (by decide) (by decide), by omega⟩
  obtain ⟨p5, hp5, hp55⟩ : ∃ q : Nat, nI y - nI y / 5 * 5 = nI q ∧ q < 5 := ⟨y % 5, pk_rem (a := y) (d := 5) (by omega) (by decide) (by decide), Nat.mod_lt _ (by decide)⟩
  have ha : nI n - nI n / 16 * 16 = 15 := by rw [show nI n - nI n / 16 * 16 = nI (n % 16) from pk_rem (a := n) (d := 16) hn (by decide) (by decide), hc]; rfl
  obtain ⟨y4, hy4, hy49⟩ : ∃ q : Nat, nI y / 4 = nI q ∧ q < 2 ^ 28 := ⟨y / 4, pk_div (a := y) (d := 4) (by omega) (by decide) (by decide), by omega⟩
  obtain ⟨w4, hw4e, hw4⟩ : ∃ q : Nat, nI y - nI y / 4 * 4 = nI q ∧ q < 4 := ⟨y % 4, pk_rem (a := y) (d := 4) (by omega) (by decide) (by decide), Nat.mod_lt _ (by decide)⟩
  obtain ⟨m9, hm9, hm99⟩ : ∃ q : Nat, nI y4 - nI y4 / 9 * 9 = nI q ∧ q < 9 := ⟨y4 % 9, pk_rem (a := y4) (d := 9) (by omega) (by decide) (by decide), Nat.mod_lt _ (by decide)⟩
  obtain ⟨m21, hm21, hm219⟩ : ∃ q : Nat, nI y4 - nI y4 / 21 * 21 = nI q ∧ q < 21 := ⟨y4 % 21, pk_rem (a := y4) (d := 21) (by omega) (by decide) (by decide), Nat.mod_lt _ (by decide)⟩
  obtain ⟨m101, hm101, hm1019⟩ : ∃ q : Nat, nI y4 - nI y4 / 101 * 101 = nI q ∧ q < 101 := ⟨y4 % 101, pk_rem (a := y4) (d := 101) (by omega) (by decide) (by decide), Nat.mod_lt _ (by decide)⟩
  by_cases hu : k.1 10 0 = 0
  · have hidt : k.1 10 1 = (-100006) := (hTI.1.idle hu).1
    have J689 : ∀ (vN : Nat), seC (nI w4) (nI vN) = 0 → ∀ ls : Array Slot, lv_has ls 10 [(6, .int (nI w4)), (5, .int 0), (4, .int (nI p5)), (3, .int (nI y)), (2, .int 15), (1, .int (nI n)), (0, .ref o)] → W p l e { frames := 7, cells := 11, slots := 62, locals := 149 } s m ([.ref o, .int (nI n)] : List Value).toArray below meth c s.heap [] (0) (0) Q (F0 m 689 ls [.int (nI vN)]) := by
      intro vN hco ls hl
      have hT1 := TI_set hTI hw4 hco
      obtain ⟨T1, hT⟩ : ∃ T1 : Tb, T1 = tup k.1 0 w4 (nI vN) := ⟨_, rfl⟩
      have g2 : T1 0 w4 = nI vN := by rw [hT, tup_at, if_pos ⟨rfl, rfl⟩]
      rw [← hT] at hT1
      refine lv_istore (lv' := [(7, .int (nI vN)), (6, .int (nI w4)), (5, .int 0), (4, .int (nI p5)), (3, .int (nI y)), (2, .int 15), (1, .int (nI n)), (0, .ref o)]) hx hb dL_act_689 hl (by decide) rfl (fun ls hl => ?_)
      refine lv_aload_n hx hb dL_act_691 rfl (lv_at hl 7 rfl) ?_
      refine lv_iload hx hb dL_act_692 (lv_at hl 1 rfl) ?_
      refine lR (k.1 0 w4) (As := [.int (nI w4)]) (rest := []) ⟨hx, hb, hml, hown, hts⟩ (k_count l G o t r h g b ok (nI w4)) (cnS0 k.1 _ _ hw4) (cwV 1 hts gL_act_X3_count rfl rfl rfl (by decide +kernel) ⟨Nat.le_of_ble_eq_true rfl, Nat.le_of_ble_eq_true rfl⟩) hK hP rfl rfl hl.1 (Nat.le_of_ble_eq_true rfl) dL_act_694 ⟨Nat.le_of_ble_eq_true rfl, Nat.le_of_ble_eq_true rfl⟩ ?_
      refine lv_istore (lv' := [(8, .int (k.1 0 w4)), (7, .int (nI vN)), (6, .int (nI w4)), (5, .int 0), (4, .int (nI p5)), (3, .int (nI y)), (2, .int 15), (1, .int (nI n)), (0, .ref o)]) hx hb dL_act_697 hl (by decide) rfl (fun ls hl => ?_)
      refine lv_aload_n hx hb dL_act_699 rfl (lv_at hl 8 rfl) ?_
      refine lv_iload hx hb dL_act_700 (lv_at hl 2 rfl) ?_
      refine lv_iload hx hb dL_act_702 (lv_at hl 1 rfl) ?_
      refine lWz (As := [.int (nI w4), .int (nI vN)]) (rest := []) ⟨hx, hb, hml, hown, hts⟩ (k_set l G o t r h g b ok (nI w4) (nI vN) _) (cwV 2 hts gL_act_X3_set rfl rfl rfl (by decide +kernel) ⟨Nat.le_of_ble_eq_true rfl, Nat.le_of_ble_eq_true rfl⟩) hK hz hP hD hS hA rfl rfl hl.1 (Nat.le_of_ble_eq_true rfl) dL_act_704 ⟨Nat.le_of_ble_eq_true rfl, Nat.le_of_ble_eq_true rfl⟩ (fun r_1 k1 H locs hr_1 hP hD hS => ?_)
      obtain ⟨e_r, u, e_k⟩ := l_made hco _ _ hr_1
      rw [show ix (nI w4) = w4 from nI_clamp (by omega)] at e_r e_k
      rw [← hT] at e_k
      subst e_r
      subst e_k
      refine lv_iload hx hb dL_act_707 (lv_at hl 0 rfl) ?_
      refine lv_icmp_ne (tgt := 727) hx hb dL_act_709 (by decide) (fun c_9 => absurd rfl c_9) (fun _ => ?_)
      refine lv_aload_n hx hb dL_act_712 rfl (lv_at hl 8 rfl) ?_
      refine lv_iload hx hb dL_act_713 (lv_at hl 2 rfl) ?_
      refine lR (nI vN) (As := [.int (nI w4)]) (rest := []) ⟨hx, hb, hml, hown, hts⟩ (k_count l G o t r h g b (OKC_kp ok hnx hT1.1.t01 u) (nI w4)) ((cnS0 T1 _ _ hw4).trans g2) (cwV 1 hts gL_act_X3_count rfl rfl rfl (by decide +kernel) ⟨Nat.le_of_ble_eq_true rfl, Nat.le_of_ble_eq_true rfl⟩) hK hP rfl rfl hl.1 (Nat.le_of_ble_eq_true rfl) dL_act_715 ⟨Nat.le_of_ble_eq_true rfl, Nat.le_of_ble_eq_true rfl⟩ ?_
      refine lv_iload hx hb dL_act_718 (lv_at hl 1 rfl) ?_
      refine lv_icmp_ne (tgt := 727) hx hb dL_act_720 (by decide) (fun c_9 => absurd rfl c_9) (fun _ => ?_)
      refine lv_iconst (v := 1) hx hb dL_act_723 (by decide) ?_
      refine lv_goto (tgt := 729) hx hb dL_act_724 (by decide) ?_
      refine W.widen (k := 11) (n := 62) (Nat.le_of_ble_eq_true rfl) (Nat.le_of_ble_eq_true rfl) ?_
      exact hret _ _ _ _ _ _ (Or.inr ⟨rfl, u, T1, rfl, hT1.mono (by omega)⟩) hP hD hS dL_act_729
    refine lv_iload_n hx hb dL_act_0 rfl (lv_at hl 1 rfl) ?_
    refine lv_bipush (v := 16) hx hb dL_act_1 (by decide) ?_
    refine lv_irem hx hb dL_act_3 (by decide) ?_
    refine qtop (y := 15) ha ?_
    refine lv_istore_n (lv' := [(2, .int 15), (0, .ref o), (1, .int (nI n))]) hx hb dL_act_4 rfl hl (by decide) rfl (fun ls hl => ?_)
    refine lv_iload_n hx hb dL_act_5 rfl (lv_at hl 2 rfl) ?_
    refine lv_bipush (v := 16) hx hb dL_act_6 (by decide) ?_
    refine lv_idiv hx hb dL_act_8 (by decide) ?_
    refine qtop (y := nI y) hy ?_
    refine lv_istore_n (lv' := [(3, .int (nI y)), (2, .int 15), (0, .ref o), (1, .int (nI n))]) hx hb dL_act_9 rfl hl (by decide) rfl (fun ls hl => ?_)
    refine lv_iload_n hx hb dL_act_10 rfl (lv_at hl 0 rfl) ?_
    refine lv_iconst (v := 5) hx hb dL_act_11 (by decide) ?_
    refine lv_irem hx hb dL_act_12 (by decide) ?_
    refine qtop (y := nI p5) hp5 ?_
    refine lv_istore (lv' := [(4, .int (nI p5)), (3, .int (nI y)), (2, .int 15), (0, .ref o), (1, .int (nI n))]) hx hb dL_act_13 hl (by decide) rfl (fun ls hl => ?_)
    refine lv_aload_n hx hb dL_act_15 rfl (lv_at hl 3 rfl) ?_
    refine lv_iconst (v := 4) hx hb dL_act_16 (by decide) ?_
    refine lR (0) (As := [.int 4]) (rest := []) ⟨hx, hb, hml, hown, hts⟩ (k_count l G o t r h g b ok 4) ((cn4 ok.1 _ _).trans hu) (cwV 1 hts gL_act_X3_count rfl rfl rfl (by decide +kernel) ⟨Nat.le_of_ble_eq_true rfl, Nat.le_of_ble_eq_true rfl⟩) hK hP rfl rfl hl.1 (Nat.le_of_ble_eq_true rfl) dL_act_17 ⟨Nat.le_of_ble_eq_true rfl, Nat.le_of_ble_eq_true rfl⟩ ?_
    refine lv_iconst (v := 1) hx hb dL_act_20 (by decide) ?_
    refine lv_icmp_ne (tgt := 28) hx hb dL_act_21 (by decide) (fun _ => ?_) (fun c_9 => absurd c_9 (by decide))
    refine lv_iconst (v := 0) hx hb dL_act_28 (by decide) ?_
    refine lv_istore (lv' := [(5, .int 0), (4, .int (nI p5)), (3, .int (nI y)), (2, .int 15), (0, .ref o), (1, .int (nI n))]) hx hb dL_act_29 hl (by decide) rfl (fun ls hl => ?_)
    refine lv_iload_n hx hb dL_act_31 rfl (lv_at hl 3 rfl) ?_
    refine lv_iconst (v := 2) hx hb dL_act_32 (by decide) ?_
    refine lv_icmp_ge (tgt := 102) hx hb dL_act_33 (by decide) (fun _ => ?_) (fun c_9 => absurd (by decide) c_9)
    refine lv_iload_n hx hb dL_act_102 rfl (lv_at hl 3 rfl) ?_
    refine lv_bipush (v := 6) hx hb dL_act_103 (by decide) ?_
    refine lv_icmp_ge (tgt := 145) hx hb dL_act_105 (by decide) (fun _ => ?_) (fun c_9 => absurd (by decide) c_9)
    refine lv_iload_n hx hb dL_act_145 rfl (lv_at hl 3 rfl) ?_
    refine lv_bipush (v := 8) hx hb dL_act_146 (by decide) ?_
    refine lv_icmp_ge (tgt := 156) hx hb dL_act_148 (by decide) (fun _ => ?_) (fun c_9 => absurd (by decide) c_9)
    refine lv_iload_n hx hb dL_act_156 rfl (lv_at hl 3 rfl) ?_
    refine lv_bipush (v := 11) hx hb dL_act_157 (by decide) ?_
    refine lv_icmp_ge (tgt := 322) hx hb dL_act_159 (by decide) (fun _ => ?_) (fun c_9 => absurd (by decide) c_9)
    refine lv_iload_n hx hb dL_act_322 rfl (lv_at hl 3 rfl) ?_
    refine lv_bipush (v := 11) hx hb dL_act_323 (by decide) ?_
    refine lv_icmp_ne (tgt := 406) hx hb dL_act_325 (by decide) (fun _ => ?_) (fun c_9 => absurd c_9 (by decide))
    refine lv_iload_n hx hb dL_act_406 rfl (lv_at hl 3 rfl) ?_
    refine lv_bipush (v := 12) hx hb dL_act_407 (by decide) ?_
    refine lv_icmp_ne (tgt := 539) hx hb dL_act_409 (by decide) (fun _ => ?_) (fun c_9 => absurd c_9 (by decide))
    refine lv_iload_n hx hb dL_act_539 rfl (lv_at hl 3 rfl) ?_
    refine lv_bipush (v := 13) hx hb dL_act_540 (by decide) ?_
    refine lv_icmp_ne (tgt := 594) hx hb dL_act_542 (by decide) (fun _ => ?_) (fun c_9 => absurd c_9 (by decide))
    refine lv_iload_n hx hb dL_act_594 rfl (lv_at hl 3 rfl) ?_
    refine lv_bipush (v := 14) hx hb dL_act_595 (by decide) ?_
    refine lv_icmp_ne (tgt := 647) hx hb dL_act_597 (by decide) (fun _ => ?_) (fun c_9 => absurd c_9 (by decide))
    refine lv_iload_n hx hb dL_act_647 rfl (lv_at hl 2 rfl) ?_
    refine lv_iconst (v := 4) hx hb dL_act_648 (by decide) ?_
    refine lv_irem hx hb dL_act_649 (by decide) ?_
    refine qtop (y := nI w4) hw4e ?_
    refine lv_istore (lv' := [(6, .int (nI w4)), (5, .int 0), (4, .int (nI p5)), (3, .int (nI y)), (2, .int 15), (0, .ref o), (1, .int (nI n))]) hx hb dL_act_650 hl (by decide) rfl (fun ls hl => ?_)
    refine lv_iload hx hb dL_act_652 (lv_at hl 0 rfl) ?_
    refine lv_if_ne (tgt := 668) hx hb dL_act_654 (by decide) (fun c_0 => ?_) (fun c_0 => ?_)
    · refine lv_iload hx hb dL_act_668 (lv_at hl 0 rfl) ?_
      refine lv_iconst (v := 1) hx hb dL_act_670 (by decide) ?_
      refine lv_icmp_ne (tgt := 683) hx hb dL_act_671 (by decide) (fun c_1 => ?_) (fun c_1 => ?_)
      · have e0 : w4 ≠ 0 := fun q => c_0 (by rw [q]; rfl)
        have e1 : w4 ≠ 1 := fun q => c_1 (by rw [q]; rfl)
        refine lv_iload_n hx hb dL_act_683 rfl (lv_at hl 3 rfl) ?_
        refine lv_iconst (v := 4) hx hb dL_act_684 (by decide) ?_
        refine lv_idiv hx hb dL_act_685 (by decide) ?_
        refine qtop (y := nI y4) hy4 ?_
        refine lv_bipush (v := 101) hx hb dL_act_686 (by decide) ?_
        refine lv_irem hx hb dL_act_688 (by decide) ?_
        refine qtop (y := nI m101) hm101 ?_
        exact J689 m101 (seC_ok (Or.inr (Or.inr ⟨by omega, hw4, by omega⟩))) ls (lv_sub hl [0, 1, 2, 3, 4, 6, 5] rfl)
      · have e1 : w4 = 1 := (nI_eq (b := 1) (by omega) (by decide)).mp c_1
        refine lv_iload_n hx hb dL_act_674 rfl (lv_at hl 3 rfl) ?_
        refine lv_iconst (v := 4) hx hb dL_act_675 (by decide) ?_
        refine lv_idiv hx hb dL_act_676 (by decide) ?_
        refine qtop (y := nI y4) hy4 ?_
        refine lv_bipush (v := 21) hx hb dL_act_677 (by decide) ?_
        refine lv_irem hx hb dL_act_679 (by decide) ?_
        refine qtop (y := nI m21) hm21 ?_
        refine lv_goto (tgt := 689) hx hb dL_act_680 (by decide) ?_
        exact J689 m21 (seC_ok (Or.inr (Or.inl ⟨e1, by omega⟩))) ls (lv_sub hl [0, 1, 2, 3, 4, 6, 5] rfl)
    · have e0 : w4 = 0 := (nI_eq (b := 0) (by omega) (by decide)).mp c_0
      refine lv_iconst (v := 1) hx hb dL_act_657 (by decide) ?_
      refine lv_iload_n hx hb dL_act_658 rfl (lv_at hl 3 rfl) ?_
      refine lv_iconst (v := 4) hx hb dL_act_659 (by decide) ?_
      refine lv_idiv hx hb dL_act_660 (by decide) ?_
      refine qtop (y := nI y4) hy4 ?_
      refine lv_bipush (v := 9) hx hb dL_act_661 (by decide) ?_
      refine lv_irem hx hb dL_act_663 (by decide) ?_
      refine qtop (y := nI m9) hm9 ?_
      refine lv_iadd hx hb dL_act_664 ?_
      refine qtop (y := nI (1 + m9)) (nI_add 1 m9) ?_
      refine lv_goto (tgt := 689) hx hb dL_act_665 (by decide) ?_
      exact J689 (1 + m9) (seC_ok (Or.inl ⟨e0, by omega, by omega⟩)) ls (lv_sub hl [0, 1, 2, 3, 4, 6, 5] rfl)
  · obtain ⟨hu1, -⟩ := hTI.1.turn hu
    have J689 : ∀ (vN : Nat), seC (nI w4) (nI vN) = 0 → ∀ ls : Array Slot, lv_has ls 10 [(6, .int (nI w4)), (5, .int 1), (4, .int (nI p5)), (3, .int (nI y)), (2, .int 15), (1, .int (nI n)), (0, .ref o)] → W p l e { frames := 7, cells := 11, slots := 62, locals := 149 } s m ([.ref o, .int (nI n)] : List Value).toArray below meth c s.heap [] (0) (0) Q (F0 m 689 ls [.int (nI vN)]) := by
      intro vN hco ls hl
      have hT1 := TI_set hTI hw4 hco
      obtain ⟨T1, hT⟩ : ∃ T1 : Tb, T1 = tup k.1 0 w4 (nI vN) := ⟨_, rfl⟩
      have g2 : T1 0 w4 = nI vN := by rw [hT, tup_at, if_pos ⟨rfl, rfl⟩]
      rw [← hT] at hT1
      refine lv_istore (lv' := [(7, .int (nI vN)), (6, .int (nI w4)), (5, .int 1), (4, .int (nI p5)), (3, .int (nI y)), (2, .int 15), (1, .int (nI n)), (0, .ref o)]) hx hb dL_act_689 hl (by decide) rfl (fun ls hl => ?_)
      refine lv_aload_n hx hb dL_act_691 rfl (lv_at hl 7 rfl) ?_
      refine lv_iload hx hb dL_act_692 (lv_at hl 1 rfl) ?_
      refine lR (k.1 0 w4) (As := [.int (nI w4)]) (rest := []) ⟨hx, hb, hml, hown, hts⟩ (k_count l G o t r h g b ok (nI w4)) (cnS0 k.1 _ _ hw4) (cwV 1 hts gL_act_X3_count rfl rfl rfl (by decide +kernel) ⟨Nat.le_of_ble_eq_true rfl, Nat.le_of_ble_eq_true rfl⟩) hK hP rfl rfl hl.1 (Nat.le_of_ble_eq_true rfl) dL_act_694 ⟨Nat.le_of_ble_eq_true rfl, Nat.le_of_ble_eq_true rfl⟩ ?_
      refine lv_istore (lv' := [(8, .int (k.1 0 w4)), (7, .int (nI vN)), (6, .int (nI w4)), (5, .int 1), (4, .int (nI p5)), (3, .int (nI y)), (2, .int 15), (1, .int (nI n)), (0, .ref o)]) hx hb dL_act_697 hl (by decide) rfl (fun ls hl => ?_)
      refine lv_aload_n hx hb dL_act_699 rfl (lv_at hl 8 rfl) ?_
      refine lv_iload hx hb dL_act_700 (lv_at hl 2 rfl) ?_
      refine lv_iload hx hb dL_act_702 (lv_at hl 1 rfl) ?_
      refine lWz (As := [.int (nI w4), .int (nI vN)]) (rest := []) ⟨hx, hb, hml, hown, hts⟩ (k_set l G o t r h g b ok (nI w4) (nI vN) _) (cwV 2 hts gL_act_X3_set rfl rfl rfl (by decide +kernel) ⟨Nat.le_of_ble_eq_true rfl, Nat.le_of_ble_eq_true rfl⟩) hK hz hP hD hS hA rfl rfl hl.1 (Nat.le_of_ble_eq_true rfl) dL_act_704 ⟨Nat.le_of_ble_eq_true rfl, Nat.le_of_ble_eq_true rfl⟩ (fun r_2 k1 H locs hr_2 hP hD hS => ?_)
      obtain ⟨e_r, u, e_k⟩ := l_made hco _ _ hr_2
      rw [show ix (nI w4) = w4 from nI_clamp (by omega)] at e_r e_k
      rw [← hT] at e_k
      subst e_r
      subst e_k
      refine lv_iload hx hb dL_act_707 (lv_at hl 0 rfl) ?_
      refine lv_icmp_ne (tgt := 727) hx hb dL_act_709 (by decide) (fun c_9 => absurd rfl c_9) (fun _ => ?_)
      refine lv_aload_n hx hb dL_act_712 rfl (lv_at hl 8 rfl) ?_
      refine lv_iload hx hb dL_act_713 (lv_at hl 2 rfl) ?_
      refine lR (nI vN) (As := [.int (nI w4)]) (rest := []) ⟨hx, hb, hml, hown, hts⟩ (k_count l G o t r h g b (OKC_kp ok hnx hT1.1.t01 u) (nI w4)) ((cnS0 T1 _ _ hw4).trans g2) (cwV 1 hts gL_act_X3_count rfl rfl rfl (by decide +kernel) ⟨Nat.le_of_ble_eq_true rfl, Nat.le_of_ble_eq_true rfl⟩) hK hP rfl rfl hl.1 (Nat.le_of_ble_eq_true rfl) dL_act_715 ⟨Nat.le_of_ble_eq_true rfl, Nat.le_of_ble_eq_true rfl⟩ ?_
      refine lv_iload hx hb dL_act_718 (lv_at hl 1 rfl) ?_
      refine lv_icmp_ne (tgt := 727) hx hb dL_act_720 (by decide) (fun c_9 => absurd rfl c_9) (fun _ => ?_)
      refine lv_iconst (v := 1) hx hb dL_act_723 (by decide) ?_
      refine lv_goto (tgt := 729) hx hb dL_act_724 (by decide) ?_
      refine W.widen (k := 11) (n := 62) (Nat.le_of_ble_eq_true rfl) (Nat.le_of_ble_eq_true rfl) ?_
      exact hret _ _ _ _ _ _ (Or.inr ⟨rfl, u, T1, rfl, hT1.mono (by omega)⟩) hP hD hS dL_act_729
    refine lv_iload_n hx hb dL_act_0 rfl (lv_at hl 1 rfl) ?_
    refine lv_bipush (v := 16) hx hb dL_act_1 (by decide) ?_
    refine lv_irem hx hb dL_act_3 (by decide) ?_
    refine qtop (y := 15) ha ?_
    refine lv_istore_n (lv' := [(2, .int 15), (0, .ref o), (1, .int (nI n))]) hx hb dL_act_4 rfl hl (by decide) rfl (fun ls hl => ?_)
    refine lv_iload_n hx hb dL_act_5 rfl (lv_at hl 2 rfl) ?_
    refine lv_bipush (v := 16) hx hb dL_act_6 (by decide) ?_
    refine lv_idiv hx hb dL_act_8 (by decide) ?_
    refine qtop (y := nI y) hy ?_
    refine lv_istore_n (lv' := [(3, .int (nI y)), (2, .int 15), (0, .ref o), (1, .int (nI n))]) hx hb dL_act_9 rfl hl (by decide) rfl (fun ls hl => ?_)
    refine lv_iload_n hx hb dL_act_10 rfl (lv_at hl 0 rfl) ?_
    refine lv_iconst (v := 5) hx hb dL_act_11 (by decide) ?_
    refine lv_irem hx hb dL_act_12 (by decide) ?_
    refine qtop (y := nI p5) hp5 ?_
    refine lv_istore (lv' := [(4, .int (nI p5)), (3, .int (nI y)), (2, .int 15), (0, .ref o), (1, .int (nI n))]) hx hb dL_act_13 hl (by decide) rfl (fun ls hl => ?_)
    refine lv_aload_n hx hb dL_act_15 rfl (lv_at hl 3 rfl) ?_
    refine lv_iconst (v := 4) hx hb dL_act_16 (by decide) ?_
    refine lR (1) (As := [.int 4]) (rest := []) ⟨hx, hb, hml, hown, hts⟩ (k_count l G o t r h g b ok 4) ((cn4 ok.1 _ _).trans hu1) (cwV 1 hts gL_act_X3_count rfl rfl rfl (by decide +kernel) ⟨Nat.le_of_ble_eq_true rfl, Nat.le_of_ble_eq_true rfl⟩) hK hP rfl rfl hl.1 (Nat.le_of_ble_eq_true rfl) dL_act_17 ⟨Nat.le_of_ble_eq_true rfl, Nat.le_of_ble_eq_true rfl⟩ ?_
    refine lv_iconst (v := 1) hx hb dL_act_20 (by decide) ?_
    refine lv_icmp_ne (tgt := 28) hx hb dL_act_21 (by decide) (fun c_9 => absurd (by decide) c_9) (fun _ => ?_)
    refine lv_iconst (v := 1) hx hb dL_act_24 (by decide) ?_
    refine lv_goto (tgt := 29) hx hb dL_act_25 (by decide) ?_
    refine lv_istore (lv' := [(5, .int 1), (4, .int (nI p5)), (3, .int (nI y)), (2, .int 15), (0, .ref o), (1, .int (nI n))]) hx hb dL_act_29 hl (by decide) rfl (fun ls hl => ?_)
    refine lv_iload_n hx hb dL_act_31 rfl (lv_at hl 3 rfl) ?_
    refine lv_iconst (v := 2) hx hb dL_act_32 (by decide) ?_
    refine lv_icmp_ge (tgt := 102) hx hb dL_act_33 (by decide) (fun _ => ?_) (fun c_9 => absurd (by decide) c_9)
    refine lv_iload_n hx hb dL_act_102 rfl (lv_at hl 3 rfl) ?_
    refine lv_bipush (v := 6) hx hb dL_act_103 (by decide) ?_
    refine lv_icmp_ge (tgt := 145) hx hb dL_act_105 (by decide) (fun _ => ?_) (fun c_9 => absurd (by decide) c_9)
    refine lv_iload_n hx hb dL_act_145 rfl (lv_at hl 3 rfl) ?_
    refine lv_bipush (v := 8) hx hb dL_act_146 (by decide) ?_
    refine lv_icmp_ge (tgt := 156) hx hb dL_act_148 (by decide) (fun _ => ?_) (fun c_9 => absurd (by decide) c_9)
    refine lv_iload_n hx hb dL_act_156 rfl (lv_at hl 3 rfl) ?_
    refine lv_bipush (v := 11) hx hb dL_act_157 (by decide) ?_
    refine lv_icmp_ge (tgt := 322) hx hb dL_act_159 (by decide) (fun _ => ?_) (fun c_9 => absurd (by decide) c_9)
    refine lv_iload_n hx hb dL_act_322 rfl (lv_at hl 3 rfl) ?_
    refine lv_bipush (v := 11) hx hb dL_act_323 (by decide) ?_
    refine lv_icmp_ne (tgt := 406) hx hb dL_act_325 (by decide) (fun _ => ?_) (fun c_9 => absurd c_9 (by decide))
    refine lv_iload_n hx hb dL_act_406 rfl (lv_at hl 3 rfl) ?_
    refine lv_bipush (v := 12) hx hb dL_act_407 (by decide) ?_
    refine lv_icmp_ne (tgt := 539) hx hb dL_act_409 (by decide) (fun _ => ?_) (fun c_9 => absurd c_9 (by decide))
    refine lv_iload_n hx hb dL_act_539 rfl (lv_at hl 3 rfl) ?_
    refine lv_bipush (v := 13) hx hb dL_act_540 (by decide) ?_
    refine lv_icmp_ne (tgt := 594) hx hb dL_act_542 (by decide) (fun _ => ?_) (fun c_9 => absurd c_9 (by decide))
    refine lv_iload_n hx hb dL_act_594 rfl (lv_at hl 3 rfl) ?_
    refine lv_bipush (v := 14) hx hb dL_act_595 (by decide) ?_
    refine lv_icmp_ne (tgt := 647) hx hb dL_act_597 (by decide) (fun _ => ?_) (fun c_9 => absurd c_9 (by decide))
    refine lv_iload_n hx hb dL_act_647 rfl (lv_at hl 2 rfl) ?_
    refine lv_iconst (v := 4) hx hb dL_act_648 (by decide) ?_
    refine lv_irem hx hb dL_act_649 (by decide) ?_
    refine qtop (y := nI w4) hw4e ?_
    refine lv_istore (lv' := [(6, .int (nI w4)), (5, .int 1), (4, .int (nI p5)), (3, .int (nI y)), (2, .int 15), (0, .ref o), (1, .int (nI n))]) hx hb dL_act_650 hl (by decide) rfl (fun ls hl => ?_)
    refine lv_iload hx hb dL_act_652 (lv_at hl 0 rfl) ?_
    refine lv_if_ne (tgt := 668) hx hb dL_act_654 (by decide) (fun c_0 => ?_) (fun c_0 => ?_)
    · refine lv_iload hx hb dL_act_668 (lv_at hl 0 rfl) ?_
      refine lv_iconst (v := 1) hx hb dL_act_670 (by decide) ?_
      refine lv_icmp_ne (tgt := 683) hx hb dL_act_671 (by decide) (fun c_1 => ?_) (fun c_1 => ?_)
      · have e0 : w4 ≠ 0 := fun q => c_0 (by rw [q]; rfl)
        have e1 : w4 ≠ 1 := fun q => c_1 (by rw [q]; rfl)
        refine lv_iload_n hx hb dL_act_683 rfl (lv_at hl 3 rfl) ?_
        refine lv_iconst (v := 4) hx hb dL_act_684 (by decide) ?_
        refine lv_idiv hx hb dL_act_685 (by decide) ?_
        refine qtop (y := nI y4) hy4 ?_
        refine lv_bipush (v := 101) hx hb dL_act_686 (by decide) ?_
        refine lv_irem hx hb dL_act_688 (by decide) ?_
        refine qtop (y := nI m101) hm101 ?_
        exact J689 m101 (seC_ok (Or.inr (Or.inr ⟨by omega, hw4, by omega⟩))) ls (lv_sub hl [0, 1, 2, 3, 4, 6, 5] rfl)
      · have e1 : w4 = 1 := (nI_eq (b := 1) (by omega) (by decide)).mp c_1
        refine lv_iload_n hx hb dL_act_674 rfl (lv_at hl 3 rfl) ?_
        refine lv_iconst (v := 4) hx hb dL_act_675 (by decide) ?_
        refine lv_idiv hx hb dL_act_676 (by decide) ?_
        refine qtop (y := nI y4) hy4 ?_
        refine lv_bipush (v := 21) hx hb dL_act_677 (by decide) ?_
        refine lv_irem hx hb dL_act_679 (by decide) ?_
        refine qtop (y := nI m21) hm21 ?_
        refine lv_goto (tgt := 689) hx hb dL_act_680 (by decide) ?_
        exact J689 m21 (seC_ok (Or.inr (Or.inl ⟨e1, by omega⟩))) ls (lv_sub hl [0, 1, 2, 3, 4, 6, 5] rfl)
    · have e0 : w4 = 0 := (nI_eq (b := 0) (by omega) (by decide)).mp c_0
      refine lv_iconst (v := 1) hx hb dL_act_657 (by decide) ?_
      refine lv_iload_n hx hb dL_act_658 rfl (lv_at hl 3 rfl) ?_
      refine lv_iconst (v := 4) hx hb dL_act_659 (by decide) ?_
      refine lv_idiv hx hb dL_act_660 (by decide) ?_
      refine qtop (y := nI y4) hy4 ?_
      refine lv_bipush (v := 9) hx hb dL_act_661 (by decide) ?_
      refine lv_irem hx hb dL_act_663 (by decide) ?_
      refine qtop (y := nI m9) hm9 ?_
      refine lv_iadd hx hb dL_act_664 ?_
      refine qtop (y := nI (1 + m9)) (nI_add 1 m9) ?_
      refine lv_goto (tgt := 689) hx hb dL_act_665 (by decide) ?_
      exact J689 (1 + m9) (seC_ok (Or.inl ⟨e0, by omega, by omega⟩)) ls (lv_sub hl [0, 1, 2, 3, 4, 6, 5] rfl)
