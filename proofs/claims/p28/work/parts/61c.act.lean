/-! THE LAW: act, further (laid by wip/p28/gen/l5.py) -/
set_option maxHeartbeats 4000000 in
set_option maxRecDepth 100000 in
theorem c_L_act_drop (l : Launch) (G : qG) (o : Nat) (t r h : Nat → Nat) (g : Nat) (b : Nat → Nat) {k : CS} {B : Nat} (hF : RF k B) (hB29 : 29 ≤ B) {n : Nat} (hn : n < 2 ^ 31) (hc : 6 ≤ n % 16 ∧ n % 16 < 8) (sz : Nat) : Met l yL_act wsL_act { frames := 7, cells := 11, slots := 62, locals := 149 } (PWz G sz [.ref o, .int (nI n)] (ows G o t r h g b k)) (QI (S := CS) G sz (ows G o t r h g b k) (ActP k (B + 11)) (fun c₀ => ows G o t r h g b c₀)) 11 62 (va_A (ows G o t r h g b k) sz) := by
  refine MIz.of' (by decide) rfl (Nat.le_of_ble_eq_true rfl) ?_
  intro p e s m below meth c hx hb hml hown hts hK hsz hP A hAe hA hD hS hz Q hret ls hl
  have hown : s.vm.findClass RL = some m.cls := hown
  have hl : lv_has ls 10 [(0, .ref o), (1, .int (nI n))] := hl
  have hF0 := hF
  obtain ⟨ok, hTI, hB9, hpl0, hold, hnx⟩ := hF
  obtain ⟨y, hy, hy9⟩ : ∃ y : Nat, nI n / 16 = nI y ∧ y < 2 ^ 28 := ⟨n / 16, pk_div (a := n) (d := 16) hn (by decide) (by decide), by omega⟩
  obtain ⟨p5, hp5, hp55⟩ : ∃ q : Nat, nI y - nI y / 5 * 5 = nI q ∧ q < 5 := ⟨y % 5, pk_rem (a := y) (d := 5) (by omega) (by decide) (by decide), Nat.mod_lt _ (by decide)⟩
  obtain ⟨a, ha, ha1, ha2⟩ : ∃ q : Nat, nI n - nI n / 16 * 16 = nI q ∧ 6 ≤ q ∧ q < 8 := ⟨n % 16, pk_rem (a := n) (d := 16) hn (by decide) (by decide), hc.1, hc.2⟩
  by_cases hu : k.1 10 0 = 0
  · have hidt : k.1 10 1 = (-100006) := (hTI.1.idle hu).1
    refine lv_iload_n hx hb dL_act_0 rfl (lv_at hl 1 rfl) ?_
    refine lv_bipush (v := 16) hx hb dL_act_1 (by decide) ?_
    refine lv_irem hx hb dL_act_3 (by decide) ?_
    refine qtop (y := nI a) ha ?_
    refine lv_istore_n (lv' := [(2, .int (nI a)), (0, .ref o), (1, .int (nI n))]) hx hb dL_act_4 rfl hl (by decide) rfl (fun ls hl => ?_)
    refine lv_iload_n hx hb dL_act_5 rfl (lv_at hl 2 rfl) ?_
    refine lv_bipush (v := 16) hx hb dL_act_6 (by decide) ?_
    refine lv_idiv hx hb dL_act_8 (by decide) ?_
    refine qtop (y := nI y) hy ?_
    refine lv_istore_n (lv' := [(3, .int (nI y)), (2, .int (nI a)), (0, .ref o), (1, .int (nI n))]) hx hb dL_act_9 rfl hl (by decide) rfl (fun ls hl => ?_)
    refine lv_iload_n hx hb dL_act_10 rfl (lv_at hl 0 rfl) ?_
    refine lv_iconst (v := 5) hx hb dL_act_11 (by decide) ?_
    refine lv_irem hx hb dL_act_12 (by decide) ?_
    refine qtop (y := nI p5) hp5 ?_
    refine lv_istore (lv' := [(4, .int (nI p5)), (3, .int (nI y)), (2, .int (nI a)), (0, .ref o), (1, .int (nI n))]) hx hb dL_act_13 hl (by decide) rfl (fun ls hl => ?_)
    refine lv_aload_n hx hb dL_act_15 rfl (lv_at hl 3 rfl) ?_
    refine lv_iconst (v := 4) hx hb dL_act_16 (by decide) ?_
    refine lR (0) (As := [.int 4]) (rest := []) ⟨hx, hb, hml, hown, hts⟩ (k_count l G o t r h g b ok 4) ((cn4 ok.1 _ _).trans hu) (cwV 1 hts gL_act_X3_count rfl rfl rfl (by decide +kernel) ⟨Nat.le_of_ble_eq_true rfl, Nat.le_of_ble_eq_true rfl⟩) hK hP rfl rfl hl.1 (Nat.le_of_ble_eq_true rfl) dL_act_17 ⟨Nat.le_of_ble_eq_true rfl, Nat.le_of_ble_eq_true rfl⟩ ?_
    refine lv_iconst (v := 1) hx hb dL_act_20 (by decide) ?_
    refine lv_icmp_ne (tgt := 28) hx hb dL_act_21 (by decide) (fun _ => ?_) (fun c_9 => absurd c_9 (by decide))
    refine lv_iconst (v := 0) hx hb dL_act_28 (by decide) ?_
    refine lv_istore (lv' := [(5, .int 0), (4, .int (nI p5)), (3, .int (nI y)), (2, .int (nI a)), (0, .ref o), (1, .int (nI n))]) hx hb dL_act_29 hl (by decide) rfl (fun ls hl => ?_)
    refine lv_iload_n hx hb dL_act_31 rfl (lv_at hl 3 rfl) ?_
    refine lv_iconst (v := 2) hx hb dL_act_32 (by decide) ?_
    refine lv_icmp_ge (tgt := 102) hx hb dL_act_33 (by decide) (fun _ => ?_) (fun c_9 => absurd (nI_le (a := 2) (by omega) (by omega)) c_9)
    refine lv_iload_n hx hb dL_act_102 rfl (lv_at hl 3 rfl) ?_
    refine lv_bipush (v := 6) hx hb dL_act_103 (by decide) ?_
    refine lv_icmp_ge (tgt := 145) hx hb dL_act_105 (by decide) (fun _ => ?_) (fun c_9 => absurd (nI_le (a := 6) (by omega) (by omega)) c_9)
    refine lv_iload_n hx hb dL_act_145 rfl (lv_at hl 3 rfl) ?_
    refine lv_bipush (v := 8) hx hb dL_act_146 (by decide) ?_
    refine lv_icmp_ge (tgt := 156) hx hb dL_act_148 (by decide) (fun c_9 => absurd c_9 (nI_ge (b := 8) (by omega) (by decide))) (fun _ => ?_)
    refine lv_aload_n hx hb dL_act_151 rfl (lv_at hl 4 rfl) ?_
    refine lSw (As := [.ref o]) (rest := []) ⟨hx, hb, hml, hown, hts⟩ (c_L_drop l G o t r h g b hF0 _) (va_cwS 1 hts gL_act_L_drop rfl rfl rfl (by decide +kernel) ⟨Nat.le_of_ble_eq_true rfl, Nat.le_of_ble_eq_true rfl⟩) hK hz hP hD hS hA rfl rfl hl.1 (Nat.le_of_ble_eq_true rfl) dL_act_152 ⟨Nat.le_of_ble_eq_true rfl, Nat.le_of_ble_eq_true rfl⟩ (fun r_1 k1 H locs hr_1 hP hD hS => ?_)
    refine W.widen (k := 11) (n := 62) (Nat.le_of_ble_eq_true rfl) (Nat.le_of_ble_eq_true rfl) ?_
    exact hret _ _ _ _ _ _ (ActP.mono hr_1 (by omega)) hP hD hS dL_act_155
  · obtain ⟨hu1, -⟩ := hTI.1.turn hu
    refine lv_iload_n hx hb dL_act_0 rfl (lv_at hl 1 rfl) ?_
    refine lv_bipush (v := 16) hx hb dL_act_1 (by decide) ?_
    refine lv_irem hx hb dL_act_3 (by decide) ?_
    refine qtop (y := nI a) ha ?_
    refine lv_istore_n (lv' := [(2, .int (nI a)), (0, .ref o), (1, .int (nI n))]) hx hb dL_act_4 rfl hl (by decide) rfl (fun ls hl => ?_)
    refine lv_iload_n hx hb dL_act_5 rfl (lv_at hl 2 rfl) ?_
    refine lv_bipush (v := 16) hx hb dL_act_6 (by decide) ?_
    refine lv_idiv hx hb dL_act_8 (by decide) ?_
    refine qtop (y := nI y) hy ?_
    refine lv_istore_n (lv' := [(3, .int (nI y)), (2, .int (nI a)), (0, .ref o), (1, .int (nI n))]) hx hb dL_act_9 rfl hl (by decide) rfl (fun ls hl => ?_)
    refine lv_iload_n hx hb dL_act_10 rfl (lv_at hl 0 rfl) ?_
    refine lv_iconst (v := 5) hx hb dL_act_11 (by decide) ?_
    refine lv_irem hx hb dL_act_12 (by decide) ?_
    refine qtop (y := nI p5) hp5 ?_
    refine lv_istore (lv' := [(4, .int (nI p5)), (3, .int (nI y)), (2, .int (nI a)), (0, .ref o), (1, .int (nI n))]) hx hb dL_act_13 hl (by decide) rfl (fun ls hl => ?_)
    refine lv_aload_n hx hb dL_act_15 rfl (lv_at hl 3 rfl) ?_
    refine lv_iconst (v := 4) hx hb dL_act_16 (by decide) ?_
    refine lR (1) (As := [.int 4]) (rest := []) ⟨hx, hb, hml, hown, hts⟩ (k_count l G o t r h g b ok 4) ((cn4 ok.1 _ _).trans hu1) (cwV 1 hts gL_act_X3_count rfl rfl rfl (by decide +kernel) ⟨Nat.le_of_ble_eq_true rfl, Nat.le_of_ble_eq_true rfl⟩) hK hP rfl rfl hl.1 (Nat.le_of_ble_eq_true rfl) dL_act_17 ⟨Nat.le_of_ble_eq_true rfl, Nat.le_of_ble_eq_true rfl⟩ ?_
    refine lv_iconst (v := 1) hx hb dL_act_20 (by decide) ?_
    refine lv_icmp_ne (tgt := 28) hx hb dL_act_21 (by decide) (fun c_9 => absurd (by decide) c_9) (fun _ => ?_)
    refine lv_iconst (v := 1) hx hb dL_act_24 (by decide) ?_
    refine lv_goto (tgt := 29) hx hb dL_act_25 (by decide) ?_
    refine lv_istore (lv' := [(5, .int 1), (4, .int (nI p5)), (3, .int (nI y)), (2, .int (nI a)), (0, .ref o), (1, .int (nI n))]) hx hb dL_act_29 hl (by decide) rfl (fun ls hl => ?_)
    refine lv_iload_n hx hb dL_act_31 rfl (lv_at hl 3 rfl) ?_
    refine lv_iconst (v := 2) hx hb dL_act_32 (by decide) ?_
    refine lv_icmp_ge (tgt := 102) hx hb dL_act_33 (by decide) (fun _ => ?_) (fun c_9 => absurd (nI_le (a := 2) (by omega) (by omega)) c_9)
    refine lv_iload_n hx hb dL_act_102 rfl (lv_at hl 3 rfl) ?_
    refine lv_bipush (v := 6) hx hb dL_act_103 (by decide) ?_
    refine lv_icmp_ge (tgt := 145) hx hb dL_act_105 (by decide) (fun _ => ?_) (fun c_9 => absurd (nI_le (a := 6) (by omega) (by omega)) c_9)
    refine lv_iload_n hx hb dL_act_145 rfl (lv_at hl 3 rfl) ?_
    refine lv_bipush (v := 8) hx hb dL_act_146 (by decide) ?_
    refine lv_icmp_ge (tgt := 156) hx hb dL_act_148 (by decide) (fun c_9 => absurd c_9 (nI_ge (b := 8) (by omega) (by decide))) (fun _ => ?_)
    refine lv_aload_n hx hb dL_act_151 rfl (lv_at hl 4 rfl) ?_
    refine lSw (As := [.ref o]) (rest := []) ⟨hx, hb, hml, hown, hts⟩ (c_L_drop l G o t r h g b hF0 _) (va_cwS 1 hts gL_act_L_drop rfl rfl rfl (by decide +kernel) ⟨Nat.le_of_ble_eq_true rfl, Nat.le_of_ble_eq_true rfl⟩) hK hz hP hD hS hA rfl rfl hl.1 (Nat.le_of_ble_eq_true rfl) dL_act_152 ⟨Nat.le_of_ble_eq_true rfl, Nat.le_of_ble_eq_true rfl⟩ (fun r_2 k1 H locs hr_2 hP hD hS => ?_)
    refine W.widen (k := 11) (n := 62) (Nat.le_of_ble_eq_true rfl) (Nat.le_of_ble_eq_true rfl) ?_
    exact hret _ _ _ _ _ _ (ActP.mono hr_2 (by omega)) hP hD hS dL_act_155
