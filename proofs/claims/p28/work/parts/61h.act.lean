/-! THE LAW: act, further (laid by wip/p28/gen/l5.py) -/
set_option maxHeartbeats 4000000 in
set_option maxRecDepth 100000 in
theorem c_L_act_prize (l : Launch) (G : qG) (o : Nat) (t r h : Nat → Nat) (g : Nat) (b : Nat → Nat) {k : CS} {B : Nat} (hF : RF k B) (hB29 : 29 ≤ B) {n : Nat} (hn : n < 2 ^ 31) (hc : n % 16 = 14) (sz : Nat) : Met l yL_act wsL_act { frames := 7, cells := 11, slots := 62, locals := 149 } (PWz G sz [.ref o, .int (nI n)] (ows G o t r h g b k)) (QI (S := CS) G sz (ows G o t r h g b k) (ActP k (B + 11)) (fun c₀ => ows G o t r h g b c₀)) 11 62 (va_A (ows G o t r h g b k) sz) := by
  refine MIz.of' (by decide) rfl (Nat.le_of_ble_eq_true rfl) ?_
  intro p e s m below meth c hx hb hml hown hts hK hsz hP A hAe hA hD hS hz Q hret ls hl
  have hown : s.vm.findClass RL = some m.cls := hown
  have hl : lv_has ls 10 [(0, .ref o), (1, .int (nI n))] := hl
  have hF0 := hF
  obtain ⟨ok, hTI, hB9, hpl0, hold, hnx⟩ := hF
  obtain ⟨y, hy, hy9⟩ : ∃ y : Nat, nI n / 16 = nI y ∧ y < 2 ^ 28 := ⟨n / 16, pk_div (a := n) (d := 16) hn (by decide) (by decide), by omega⟩
  obtain ⟨p5, hp5, hp55⟩ : ∃ q : Nat, nI y - nI y / 5 * 5 = nI q ∧ q < 5 := ⟨y % 5, pk_rem (a := y) (d := 5) (by omega) (by decide) (by decide), Nat.mod_lt _ (by decide)⟩
  have ha : nI n - nI n / 16 * 16 = 14 := by rw [show nI n - nI n / 16 * 16 = nI (n % 16) from pk_rem (a := n) (d := 16) hn (by decide) (by decide), hc]; rfl
  obtain ⟨y5, hy5, hy59⟩ : ∃ q : Nat, nI y / 5 = nI q ∧ q < 2 ^ 28 := ⟨y / 5, pk_div (a := y) (d := 5) (by omega) (by decide) (by decide), by omega⟩
  obtain ⟨mN, hmN, hmN9⟩ : ∃ q : Nat, nI y5 - nI y5 / 100 * 100 = nI q ∧ q < 100 := ⟨y5 % 100, pk_rem (a := y5) (d := 100) (by omega) (by decide) (by decide), Nat.mod_lt _ (by decide)⟩
  have hco := liC_ok hp55 (v := mN) (by omega)
  have hT1 := TI_prize hTI hp55 (v := mN) (by omega)
  obtain ⟨T1, hT⟩ : ∃ T1 : Tb, T1 = tup k.1 1 p5 (nI mN) := ⟨_, rfl⟩
  have g2 : T1 1 p5 = nI mN := by rw [hT, tup_at, if_pos ⟨rfl, rfl⟩]
  rw [← hT] at hT1
  by_cases hu : k.1 10 0 = 0
  · have hidt : k.1 10 1 = (-100006) := (hTI.1.idle hu).1
    refine lv_iload_n hx hb dL_act_0 rfl (lv_at hl 1 rfl) ?_
    refine lv_bipush (v := 16) hx hb dL_act_1 (by decide) ?_
    refine lv_irem hx hb dL_act_3 (by decide) ?_
    refine qtop (y := 14) ha ?_
    refine lv_istore_n (lv' := [(2, .int 14), (0, .ref o), (1, .int (nI n))]) hx hb dL_act_4 rfl hl (by decide) rfl (fun ls hl => ?_)
    refine lv_iload_n hx hb dL_act_5 rfl (lv_at hl 2 rfl) ?_
    refine lv_bipush (v := 16) hx hb dL_act_6 (by decide) ?_
    refine lv_idiv hx hb dL_act_8 (by decide) ?_
    refine qtop (y := nI y) hy ?_
    refine lv_istore_n (lv' := [(3, .int (nI y)), (2, .int 14), (0, .ref o), (1, .int (nI n))]) hx hb dL_act_9 rfl hl (by decide) rfl (fun ls hl => ?_)
    refine lv_iload_n hx hb dL_act_10 rfl (lv_at hl 0 rfl) ?_
    refine lv_iconst (v := 5) hx hb dL_act_11 (by decide) ?_
    refine lv_irem hx hb dL_act_12 (by decide) ?_
    refine qtop (y := nI p5) hp5 ?_
    refine lv_istore (lv' := [(4, .int (nI p5)), (3, .int (nI y)), (2, .int 14), (0, .ref o), (1, .int (nI n))]) hx hb dL_act_13 hl (by decide) rfl (fun ls hl => ?_)
    refine lv_aload_n hx hb dL_act_15 rfl (lv_at hl 3 rfl) ?_
    refine lv_iconst (v := 4) hx hb dL_act_16 (by decide) ?_
    refine lR (0) (As := [.int 4]) (rest := []) ⟨hx, hb, hml, hown, hts⟩ (k_count l G o t r h g b ok 4) ((cn4 ok.1 _ _).trans hu) (cwV 1 hts gL_act_X3_count rfl rfl rfl (by decide +kernel) ⟨Nat.le_of_ble_eq_true rfl, Nat.le_of_ble_eq_true rfl⟩) hK hP rfl rfl hl.1 (Nat.le_of_ble_eq_true rfl) dL_act_17 ⟨Nat.le_of_ble_eq_true rfl, Nat.le_of_ble_eq_true rfl⟩ ?_
    refine lv_iconst (v := 1) hx hb dL_act_20 (by decide) ?_
    refine lv_icmp_ne (tgt := 28) hx hb dL_act_21 (by decide) (fun _ => ?_) (fun c_9 => absurd c_9 (by decide))
    refine lv_iconst (v := 0) hx hb dL_act_28 (by decide) ?_
    refine lv_istore (lv' := [(5, .int 0), (4, .int (nI p5)), (3, .int (nI y)), (2, .int 14), (0, .ref o), (1, .int (nI n))]) hx hb dL_act_29 hl (by decide) rfl (fun ls hl => ?_)
    refine lv_iload_n hx hb dL_act_31 rfl (lv_at hl 3 rfl) ?_
    refine lv_iconst (v := 2) hx hb dL_act_32 (by decide) ?_
    refine lv_icmp_ge (tgt := 102) hx hb dL_act_33 (by decide) (fun _ => ?_) (fun c_9 => absurd (by decide) c_9)
    refine lv_iload_n hx hb dL_act_102 rfl (lv_at hl 3 rfl) ?_
    refine lv_bipush (v := 6) hx hb dL_act_103 (by decide) ?_
    refine lv_icmp_ge (tgt := 145) hx hb dL_act_105 (by decide) (fun _ => ?_) (fun c_9 => absurd (by decide) c_9)
    refine lv_iload_n hx hb dL_act_145 rfl (lv_at hl 3 rfl) ?_
    refine lv_bipush (v := 8) hx hb dL_act_146 (by decide) ?_
    refine lv_icmp_ge (tgt := 156) hx hb dL_act_148 (by decide) (fun _ => ?_) (fun c_9 => absurd (by decide) c_9)
    refine lv_iload_n hx hb dL_act_156 rfl (lv_at hl 3 rfl) ?_
    refine lv_bipush (v := 11) hx hb dL_act_157 (by decide) ?_
    refine lv_icmp_ge (tgt := 322) hx hb dL_act_159 (by decide) (fun _ => ?_) (fun c_9 => absurd (by decide) c_9)
    refine lv_iload_n hx hb dL_act_322 rfl (lv_at hl 3 rfl) ?_
    refine lv_bipush (v := 11) hx hb dL_act_323 (by decide) ?_
    refine lv_icmp_ne (tgt := 406) hx hb dL_act_325 (by decide) (fun _ => ?_) (fun c_9 => absurd c_9 (by decide))
    refine lv_iload_n hx hb dL_act_406 rfl (lv_at hl 3 rfl) ?_
    refine lv_bipush (v := 12) hx hb dL_act_407 (by decide) ?_
    refine lv_icmp_ne (tgt := 539) hx hb dL_act_409 (by decide) (fun _ => ?_) (fun c_9 => absurd c_9 (by decide))
    refine lv_iload_n hx hb dL_act_539 rfl (lv_at hl 3 rfl) ?_
    refine lv_bipush (v := 13) hx hb dL_act_540 (by decide) ?_
    refine lv_icmp_ne (tgt := 594) hx hb dL_act_542 (by decide) (fun _ => ?_) (fun c_9 => absurd c_9 (by decide))
    refine lv_iload_n hx hb dL_act_594 rfl (lv_at hl 3 rfl) ?_
    refine lv_bipush (v := 14) hx hb dL_act_595 (by decide) ?_
    refine lv_icmp_ne (tgt := 647) hx hb dL_act_597 (by decide) (fun c_9 => absurd (by decide) c_9) (fun _ => ?_)
    refine lv_aload_n hx hb dL_act_600 rfl (lv_at hl 4 rfl) ?_
    refine lv_iload hx hb dL_act_601 (lv_at hl 1 rfl) ?_
    refine lR (k.1 1 p5) (As := [.int (nI p5)]) (rest := []) ⟨hx, hb, hml, hown, hts⟩ (k_prizeOf l G o t r h g b ok (nI p5)) (pz_at k.1 hp55) (cwV 1 hts gL_act_X3_prizeOf rfl rfl rfl (by decide +kernel) ⟨Nat.le_of_ble_eq_true rfl, Nat.le_of_ble_eq_true rfl⟩) hK hP rfl rfl hl.1 (Nat.le_of_ble_eq_true rfl) dL_act_603 ⟨Nat.le_of_ble_eq_true rfl, Nat.le_of_ble_eq_true rfl⟩ ?_
    refine lv_istore (lv' := [(6, .int (k.1 1 p5)), (5, .int 0), (4, .int (nI p5)), (3, .int (nI y)), (2, .int 14), (0, .ref o), (1, .int (nI n))]) hx hb dL_act_606 hl (by decide) rfl (fun ls hl => ?_)
    refine lv_iload_n hx hb dL_act_608 rfl (lv_at hl 3 rfl) ?_
    refine lv_iconst (v := 5) hx hb dL_act_609 (by decide) ?_
    refine lv_idiv hx hb dL_act_610 (by decide) ?_
    refine qtop (y := nI y5) hy5 ?_
    refine lv_bipush (v := 100) hx hb dL_act_611 (by decide) ?_
    refine lv_irem hx hb dL_act_613 (by decide) ?_
    refine qtop (y := nI mN) hmN ?_
    refine lv_istore (lv' := [(7, .int (nI mN)), (6, .int (k.1 1 p5)), (5, .int 0), (4, .int (nI p5)), (3, .int (nI y)), (2, .int 14), (0, .ref o), (1, .int (nI n))]) hx hb dL_act_614 hl (by decide) rfl (fun ls hl => ?_)
    refine lv_aload_n hx hb dL_act_616 rfl (lv_at hl 6 rfl) ?_
    refine lv_iload hx hb dL_act_617 (lv_at hl 3 rfl) ?_
    refine lv_iload hx hb dL_act_619 (lv_at hl 0 rfl) ?_
    refine lW (As := [.int (nI p5), .int (nI mN)]) (rest := []) ⟨hx, hb, hml, hown, hts⟩ (k_prize l G o t r h g b ok (nI p5) (nI mN) _) (cwV 2 hts gL_act_X3_prize rfl rfl rfl (by decide +kernel) ⟨Nat.le_of_ble_eq_true rfl, Nat.le_of_ble_eq_true rfl⟩) hK hP hD hS hA rfl rfl hl.1 (Nat.le_of_ble_eq_true rfl) dL_act_621 ⟨Nat.le_of_ble_eq_true rfl, Nat.le_of_ble_eq_true rfl⟩ (fun r_1 k1 H locs hr_1 hP hD hS => ?_)
    obtain ⟨e_r, u, e_k⟩ := l_made hco _ _ hr_1
    rw [ix_n hp55] at e_r e_k
    rw [← hT] at e_k
    subst e_r
    subst e_k
    refine lv_iload hx hb dL_act_624 (lv_at hl 1 rfl) ?_
    refine lv_icmp_ne (tgt := 644) hx hb dL_act_626 (by decide) (fun c_9 => absurd rfl c_9) (fun _ => ?_)
    refine lv_aload_n hx hb dL_act_629 rfl (lv_at hl 6 rfl) ?_
    refine lv_iload hx hb dL_act_630 (lv_at hl 3 rfl) ?_
    refine lR (nI mN) (As := [.int (nI p5)]) (rest := []) ⟨hx, hb, hml, hown, hts⟩ (k_prizeOf l G o t r h g b (OKC_kp ok hnx hT1.1.t01 u) (nI p5)) ((pz_at T1 hp55).trans g2) (cwV 1 hts gL_act_X3_prizeOf rfl rfl rfl (by decide +kernel) ⟨Nat.le_of_ble_eq_true rfl, Nat.le_of_ble_eq_true rfl⟩) hK hP rfl rfl hl.1 (Nat.le_of_ble_eq_true rfl) dL_act_632 ⟨Nat.le_of_ble_eq_true rfl, Nat.le_of_ble_eq_true rfl⟩ ?_
    refine lv_iload hx hb dL_act_635 (lv_at hl 0 rfl) ?_
    refine lv_icmp_ne (tgt := 644) hx hb dL_act_637 (by decide) (fun c_9 => absurd rfl c_9) (fun _ => ?_)
    refine lv_iconst (v := 1) hx hb dL_act_640 (by decide) ?_
    refine lv_goto (tgt := 646) hx hb dL_act_641 (by decide) ?_
    refine W.widen (k := 11) (n := 62) (Nat.le_of_ble_eq_true rfl) (Nat.le_of_ble_eq_true rfl) ?_
    exact hret _ _ _ _ _ _ (Or.inr ⟨rfl, u, T1, rfl, hT1.mono (by omega)⟩) hP hD hS dL_act_646
  · obtain ⟨hu1, -⟩ := hTI.1.turn hu
    refine lv_iload_n hx hb dL_act_0 rfl (lv_at hl 1 rfl) ?_
    refine lv_bipush (v := 16) hx hb dL_act_1 (by decide) ?_
    refine lv_irem hx hb dL_act_3 (by decide) ?_
    refine qtop (y := 14) ha ?_
    refine lv_istore_n (lv' := [(2, .int 14), (0, .ref o), (1, .int (nI n))]) hx hb dL_act_4 rfl hl (by decide) rfl (fun ls hl => ?_)
    refine lv_iload_n hx hb dL_act_5 rfl (lv_at hl 2 rfl) ?_
    refine lv_bipush (v := 16) hx hb dL_act_6 (by decide) ?_
    refine lv_idiv hx hb dL_act_8 (by decide) ?_
    refine qtop (y := nI y) hy ?_
    refine lv_istore_n (lv' := [(3, .int (nI y)), (2, .int 14), (0, .ref o), (1, .int (nI n))]) hx hb dL_act_9 rfl hl (by decide) rfl (fun ls hl => ?_)
    refine lv_iload_n hx hb dL_act_10 rfl (lv_at hl 0 rfl) ?_
    refine lv_iconst (v := 5) hx hb dL_act_11 (by decide) ?_
    refine lv_irem hx hb dL_act_12 (by decide) ?_
    refine qtop (y := nI p5) hp5 ?_
    refine lv_istore (lv' := [(4, .int (nI p5)), (3, .int (nI y)), (2, .int 14), (0, .ref o), (1, .int (nI n))]) hx hb dL_act_13 hl (by decide) rfl (fun ls hl => ?_)
    refine lv_aload_n hx hb dL_act_15 rfl (lv_at hl 3 rfl) ?_
    refine lv_iconst (v := 4) hx hb dL_act_16 (by decide) ?_
    refine lR (1) (As := [.int 4]) (rest := []) ⟨hx, hb, hml, hown, hts⟩ (k_count l G o t r h g b ok 4) ((cn4 ok.1 _ _).trans hu1) (cwV 1 hts gL_act_X3_count rfl rfl rfl (by decide +kernel) ⟨Nat.le_of_ble_eq_true rfl, Nat.le_of_ble_eq_true rfl⟩) hK hP rfl rfl hl.1 (Nat.le_of_ble_eq_true rfl) dL_act_17 ⟨Nat.le_of_ble_eq_true rfl, Nat.le_of_ble_eq_true rfl⟩ ?_
    refine lv_iconst (v := 1) hx hb dL_act_20 (by decide) ?_
    refine lv_icmp_ne (tgt := 28) hx hb dL_act_21 (by decide) (fun c_9 => absurd (by decide) c_9) (fun _ => ?_)
    refine lv_iconst (v := 1) hx hb dL_act_24 (by decide) ?_
    refine lv_goto (tgt := 29) hx hb dL_act_25 (by decide) ?_
    refine lv_istore (lv' := [(5, .int 1), (4, .int (nI p5)), (3, .int (nI y)), (2, .int 14), (0, .ref o), (1, .int (nI n))]) hx hb dL_act_29 hl (by decide) rfl (fun ls hl => ?_)
    refine lv_iload_n hx hb dL_act_31 rfl (lv_at hl 3 rfl) ?_
    refine lv_iconst (v := 2) hx hb dL_act_32 (by decide) ?_
    refine lv_icmp_ge (tgt := 102) hx hb dL_act_33 (by decide) (fun _ => ?_) (fun c_9 => absurd (by decide) c_9)
    refine lv_iload_n hx hb dL_act_102 rfl (lv_at hl 3 rfl) ?_
    refine lv_bipush (v := 6) hx hb dL_act_103 (by decide) ?_
    refine lv_icmp_ge (tgt := 145) hx hb dL_act_105 (by decide) (fun _ => ?_) (fun c_9 => absurd (by decide) c_9)
    refine lv_iload_n hx hb dL_act_145 rfl (lv_at hl 3 rfl) ?_
    refine lv_bipush (v := 8) hx hb dL_act_146 (by decide) ?_
    refine lv_icmp_ge (tgt := 156) hx hb dL_act_148 (by decide) (fun _ => ?_) (fun c_9 => absurd (by decide) c_9)
    refine lv_iload_n hx hb dL_act_156 rfl (lv_at hl 3 rfl) ?_
    refine lv_bipush (v := 11) hx hb dL_act_157 (by decide) ?_
    refine lv_icmp_ge (tgt := 322) hx hb dL_act_159 (by decide) (fun _ => ?_) (fun c_9 => absurd (by decide) c_9)
    refine lv_iload_n hx hb dL_act_322 rfl (lv_at hl 3 rfl) ?_
    refine lv_bipush (v := 11) hx hb dL_act_323 (by decide) ?_
    refine lv_icmp_ne (tgt := 406) hx hb dL_act_325 (by decide) (fun _ => ?_) (fun c_9 => absurd c_9 (by decide))
    refine lv_iload_n hx hb dL_act_406 rfl (lv_at hl 3 rfl) ?_
    refine lv_bipush (v := 12) hx hb dL_act_407 (by decide) ?_
    refine lv_icmp_ne (tgt := 539) hx hb dL_act_409 (by decide) (fun _ => ?_) (fun c_9 => absurd c_9 (by decide))
    refine lv_iload_n hx hb dL_act_539 rfl (lv_at hl 3 rfl) ?_
    refine lv_bipush (v := 13) hx hb dL_act_540 (by decide) ?_
    refine lv_icmp_ne (tgt := 594) hx hb dL_act_542 (by decide) (fun _ => ?_) (fun c_9 => absurd c_9 (by decide))
    refine lv_iload_n hx hb dL_act_594 rfl (lv_at hl 3 rfl) ?_
    refine lv_bipush (v := 14) hx hb dL_act_595 (by decide) ?_
    refine lv_icmp_ne (tgt := 647) hx hb dL_act_597 (by decide) (fun c_9 => absurd (by decide) c_9) (fun _ => ?_)
    refine lv_aload_n hx hb dL_act_600 rfl (lv_at hl 4 rfl) ?_
    refine lv_iload hx hb dL_act_601 (lv_at hl 1 rfl) ?_
    refine lR (k.1 1 p5) (As := [.int (nI p5)]) (rest := []) ⟨hx, hb, hml, hown, hts⟩ (k_prizeOf l G o t r h g b ok (nI p5)) (pz_at k.1 hp55) (cwV 1 hts gL_act_X3_prizeOf rfl rfl rfl (by decide +kernel) ⟨Nat.le_of_ble_eq_true rfl, Nat.le_of_ble_eq_true rfl⟩) hK hP rfl rfl hl.1 (Nat.le_of_ble_eq_true rfl) dL_act_603 ⟨Nat.le_of_ble_eq_true rfl, Nat.le_of_ble_eq_true rfl⟩ ?_
    refine lv_istore (lv' := [(6, .int (k.1 1 p5)), (5, .int 1), (4, .int (nI p5)), (3, .int (nI y)), (2, .int 14), (0, .ref o), (1, .int (nI n))]) hx hb dL_act_606 hl (by decide) rfl (fun ls hl => ?_)
    refine lv_iload_n hx hb dL_act_608 rfl (lv_at hl 3 rfl) ?_
    refine lv_iconst (v := 5) hx hb dL_act_609 (by decide) ?_
    refine lv_idiv hx hb dL_act_610 (by decide) ?_
    refine qtop (y := nI y5) hy5 ?_
    refine lv_bipush (v := 100) hx hb dL_act_611 (by decide) ?_
    refine lv_irem hx hb dL_act_613 (by decide) ?_
    refine qtop (y := nI mN) hmN ?_
    refine lv_istore (lv' := [(7, .int (nI mN)), (6, .int (k.1 1 p5)), (5, .int 1), (4, .int (nI p5)), (3, .int (nI y)), (2, .int 14), (0, .ref o), (1, .int (nI n))]) hx hb dL_act_614 hl (by decide) rfl (fun ls hl => ?_)
    refine lv_aload_n hx hb dL_act_616 rfl (lv_at hl 6 rfl) ?_
    refine lv_iload hx hb dL_act_617 (lv_at hl 3 rfl) ?_
    refine lv_iload hx hb dL_act_619 (lv_at hl 0 rfl) ?_
    refine lW (As := [.int (nI p5), .int (nI mN)]) (rest := []) ⟨hx, hb, hml, hown, hts⟩ (k_prize l G o t r h g b ok (nI p5) (nI mN) _) (cwV 2 hts gL_act_X3_prize rfl rfl rfl (by decide +kernel) ⟨Nat.le_of_ble_eq_true rfl, Nat.le_of_ble_eq_true rfl⟩) hK hP hD hS hA rfl rfl hl.1 (Nat.le_of_ble_eq_true rfl) dL_act_621 ⟨Nat.le_of_ble_eq_true rfl, Nat.le_of_ble_eq_true rfl⟩ (fun r_2 k1 H locs hr_2 hP hD hS => ?_)
    obtain ⟨e_r, u, e_k⟩ := l_made hco _ _ hr_2
    rw [ix_n hp55] at e_r e_k
    rw [← hT] at e_k
    subst e_r
    subst e_k
    refine lv_iload hx hb dL_act_624 (lv_at hl 1 rfl) ?_
    refine lv_icmp_ne (tgt := 644) hx hb dL_act_626 (by decide) (fun c_9 => absurd rfl c_9) (fun _ => ?_)
    refine lv_aload_n hx hb dL_act_629 rfl (lv_at hl 6 rfl) ?_
    refine lv_iload hx hb dL_act_630 (lv_at hl 3 rfl) ?_
    refine lR (nI mN) (As := [.int (nI p5)]) (rest := []) ⟨hx, hb, hml, hown, hts⟩ (k_prizeOf l G o t r h g b (OKC_kp ok hnx hT1.1.t01 u) (nI p5)) ((pz_at T1 hp55).trans g2) (cwV 1 hts gL_act_X3_prizeOf rfl rfl rfl (by decide +kernel) ⟨Nat.le_of_ble_eq_true rfl, Nat.le_of_ble_eq_true rfl⟩) hK hP rfl rfl hl.1 (Nat.le_of_ble_eq_true rfl) dL_act_632 ⟨Nat.le_of_ble_eq_true rfl, Nat.le_of_ble_eq_true rfl⟩ ?_
    refine lv_iload hx hb dL_act_635 (lv_at hl 0 rfl) ?_
    refine lv_icmp_ne (tgt := 644) hx hb dL_act_637 (by decide) (fun c_9 => absurd rfl c_9) (fun _ => ?_)
    refine lv_iconst (v := 1) hx hb dL_act_640 (by decide) ?_
    refine lv_goto (tgt := 646) hx hb dL_act_641 (by decide) ?_
    refine W.widen (k := 11) (n := 62) (Nat.le_of_ble_eq_true rfl) (Nat.le_of_ble_eq_true rfl) ?_
    exact hret _ _ _ _ _ _ (Or.inr ⟨rfl, u, T1, rfl, hT1.mono (by omega)⟩) hP hD hS dL_act_646
