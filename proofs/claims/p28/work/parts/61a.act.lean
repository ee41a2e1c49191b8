/-! THE LAW: act, by what is done (laid by wip/p28/gen/l5.py) -/
theorem ActP.mono {k : CS} {B B' : Nat} {r₀ : Int32} {c₀ : CS} (h : ActP k B r₀ c₀) (hB : B ≤ B') : ActP k B' r₀ c₀ := h.imp id (fun ⟨e, u, T1, e2, h2⟩ => ⟨e, u, T1, e2, h2.mono hB⟩)
theorem l_made {C a : Int32} {k : CS} {F : (Nat → Nat) → CS} (e : C = 0) : ∀ (r₀ : Int32) (c₀ : CS), (r₀ = (if C = 0 then a else C) ∧ ∃ u : Nat → Nat, c₀ = (if C = 0 then F u else k)) → r₀ = a ∧ ∃ u, c₀ = F u := made e
set_option maxHeartbeats 4000000 in
set_option maxRecDepth 100000 in
theorem c_L_act_begin (l : Launch) (G : qG) (o : Nat) (t r h : Nat → Nat) (g : Nat) (b : Nat → Nat) {k : CS} {B : Nat} (hF : RF k B) (hB29 : 29 ≤ B) {n : Nat} (hn : n < 2 ^ 31) (hc : 0 ≤ n % 16 ∧ n % 16 < 2) (sz : Nat) : Met l yL_act wsL_act { frames := 7, cells := 11, slots := 62, locals := 149 } (PWz G sz [.ref o, .int (nI n)] (ows G o t r h g b k)) (QI (S := CS) G sz (ows G o t r h g b k) (ActP k (B + 11)) (fun c₀ => ows G o t r h g b c₀)) 11 62 (va_A (ows G o t r h g b k) sz) := by
  refine MIz.of' (by decide) rfl (Nat.le_of_ble_eq_true rfl) ?_
  intro p e s m below meth c hx hb hml hown hts hK hsz hP A hAe hA hD hS hz Q hret ls hl
  have hown : s.vm.findClass RL = some m.cls := hown
  have hl : lv_has ls 10 [(0, .ref o), (1, .int (nI n))] := hl
  have hF0 := hF
  obtain ⟨ok, hTI, hB9, hpl0, hold, hnx⟩ := hF
  obtain ⟨y, hy, hy9⟩ : ∃ y : Nat, nI n / 16 = nI y ∧ y < 2 ^ 28 := ⟨n / 16, pk_div (a := n) (d := 16) hn (by decide) (by decide), by omega⟩
  obtain ⟨p5, hp5, hp55⟩ : ∃ q : Nat, nI y - nI y / 5 * 5 = nI q ∧ q < 5 := ⟨y % 5, pk_rem (a := y) (d := 5) (by omega) (by decide) (by decide), Nat.mod_lt _ (by decide)⟩
  obtain ⟨a, ha, ha1, ha2⟩ : ∃ q : Nat, nI n - nI n / 16 * 16 = nI q ∧ 0 ≤ q ∧ q < 2 := ⟨n % 16, pk_rem (a := n) (d := 16) hn (by decide) (by decide), hc.1, hc.2⟩
  have wk1 := hts (Cond.constant RL 36 (-100005)) (List.mem_of_getElem? (i := 1) (by first | rfl | decide +kernel))
  have wk2 := hts (Cond.constant RL 31 (-100006)) (List.mem_of_getElem? (i := 2) (by first | rfl | decide +kernel))
  by_cases hu : k.1 10 0 = 0
  · have hidt : k.1 10 1 = (-100006) := (hTI.1.idle hu).1
    obtain ⟨hT1, -, hat, -, hro, h31, hhi⟩ := start_T hTI hu
    obtain ⟨T1, hT⟩ : ∃ T1 : Tb, T1 = staT k.1 := ⟨_, rfl⟩
    rw [← hT] at hT1 hat hro h31 hhi
    rw [← hro 4 (by decide)] at hat
    refine lv_iload_n hx hb dL_act_0 rfl (lv_at hl 1 rfl) ?_
    refine lv_bipush (v := 16) hx hb dL_act_1 (by decide) ?_
    refine lv_irem hx hb dL_act_3 (by decide) ?_
    refine qtop (y := nI a) ha ?_
    refine lv_istore_n (lv' := [(2, .int (nI a)), (0, .ref o), (1, .int (nI n))]) hx hb dL_act_4 rfl hl (by decide) rfl (fun ls hl => ?_)
    refine lv_iload_n hx hb dL_act_5 rfl (lv_at hl 2 rfl) ?_
    refine lv_bipush (v := 16) hx hb dL_act_6 (by decide) ?_
    refine lv_idiv hx hb dL_act_8 (by decide) ?_
    refine qtop (y := nI y) hy ?_
    refine lv_istore_n (lv' := [(3, .int (nI y)), (2, .int (nI a)), (0, .ref o), (1, .int (nI n))]) hx hb dL_act_9 rfl hl (by decide) rfl (fun ls hl => ?_)
    refine lv_iload_n hx hb dL_act_10 rfl (lv_at hl 0 rfl) ?_
    refine lv_iconst (v := 5) hx hb dL_act_11 (by decide) ?_
    refine lv_irem hx hb dL_act_12 (by decide) ?_
    refine qtop (y := nI p5) hp5 ?_
    refine lv_istore (lv' := [(4, .int (nI p5)), (3, .int (nI y)), (2, .int (nI a)), (0, .ref o), (1, .int (nI n))]) hx hb dL_act_13 hl (by decide) rfl (fun ls hl => ?_)
    refine lv_aload_n hx hb dL_act_15 rfl (lv_at hl 3 rfl) ?_
    refine lv_iconst (v := 4) hx hb dL_act_16 (by decide) ?_
    refine lR (0) (As := [.int 4]) (rest := []) ⟨hx, hb, hml, hown, hts⟩ (k_count l G o t r h g b ok 4) ((cn4 ok.1 _ _).trans hu) (cwV 1 hts gL_act_X3_count rfl rfl rfl (by decide +kernel) ⟨Nat.le_of_ble_eq_true rfl, Nat.le_of_ble_eq_true rfl⟩) hK hP rfl rfl hl.1 (Nat.le_of_ble_eq_true rfl) dL_act_17 ⟨Nat.le_of_ble_eq_true rfl, Nat.le_of_ble_eq_true rfl⟩ ?_
    refine lv_iconst (v := 1) hx hb dL_act_20 (by decide) ?_
    refine lv_icmp_ne (tgt := 28) hx hb dL_act_21 (by decide) (fun _ => ?_) (fun c_9 => absurd c_9 (by decide))
    refine lv_iconst (v := 0) hx hb dL_act_28 (by decide) ?_
    refine lv_istore (lv' := [(5, .int 0), (4, .int (nI p5)), (3, .int (nI y)), (2, .int (nI a)), (0, .ref o), (1, .int (nI n))]) hx hb dL_act_29 hl (by decide) rfl (fun ls hl => ?_)
    refine lv_iload_n hx hb dL_act_31 rfl (lv_at hl 3 rfl) ?_
    refine lv_iconst (v := 2) hx hb dL_act_32 (by decide) ?_
    refine lv_icmp_ge (tgt := 102) hx hb dL_act_33 (by decide) (fun c_9 => absurd c_9 (nI_ge (b := 2) ha2 (by decide))) (fun _ => ?_)
    refine lv_aload_n hx hb dL_act_36 rfl (lv_at hl 4 rfl) ?_
    refine lW (As := []) (rest := []) ⟨hx, hb, hml, hown, hts⟩ (k_begin l G o t r h g b ok  _) (cwV 0 hts gL_act_X3_begin rfl rfl rfl (by decide +kernel) ⟨Nat.le_of_ble_eq_true rfl, Nat.le_of_ble_eq_true rfl⟩) hK hP hD hS hA rfl rfl hl.1 (Nat.le_of_ble_eq_true rfl) dL_act_37 ⟨Nat.le_of_ble_eq_true rfl, Nat.le_of_ble_eq_true rfl⟩ (fun r_1 k1 H locs hr_1 hP hD hS => ?_)
    obtain ⟨e_r, u, e_k⟩ := madep hu _ _ hr_1
    rw [← hT] at e_r e_k
    rw [hat] at e_r
    subst e_r
    subst e_k
    refine lv_istore (lv' := [(6, .int (pAt (T1 4) 0)), (5, .int 0), (4, .int (nI p5)), (3, .int (nI y)), (2, .int (nI a)), (0, .ref o), (1, .int (nI n))]) hx hb dL_act_40 hl (by decide) rfl (fun ls hl => ?_)
    refine lv_iload hx hb dL_act_42 (lv_at hl 1 rfl) ?_
    refine lv_if_eq (tgt := 63) hx hb dL_act_44 (by decide) (fun _ => ?_) (fun c_9 => absurd (by decide) c_9)
    refine lv_iload hx hb dL_act_63 (lv_at hl 0 rfl) ?_
    refine lv_aload_n hx hb dL_act_65 rfl (lv_at hl 5 rfl) ?_
    refine lv_iconst (v := 0) hx hb dL_act_66 (by decide) ?_
    refine lR (pAt (T1 4) 0) (As := [.int 0]) (rest := [.int (pAt (T1 4) 0)]) ⟨hx, hb, hml, hown, hts⟩ (k_at l G o t r h g b (OKC_kp ok hnx hT1.1.t01 u) 0) (show (if (0 : Int32) < 0 then (-100001) else if (0 : Int32) < 5 then pAt (T1 4) 0 else (-100001)) = pAt (T1 4) 0 from by rw [if_neg (by decide), if_pos (by decide)]) (cwV 1 hts gL_act_X3_at rfl rfl rfl (by decide +kernel) ⟨Nat.le_of_ble_eq_true rfl, Nat.le_of_ble_eq_true rfl⟩) hK hP rfl rfl hl.1 (Nat.le_of_ble_eq_true rfl) dL_act_67 ⟨Nat.le_of_ble_eq_true rfl, Nat.le_of_ble_eq_true rfl⟩ ?_
    refine lv_icmp_ne (tgt := 99) hx hb dL_act_70 (by decide) (fun c_9 => absurd rfl c_9) (fun _ => ?_)
    refine lv_aload_n hx hb dL_act_73 rfl (lv_at hl 5 rfl) ?_
    refine lv_bipush (v := 8) hx hb dL_act_74 (by decide) ?_
    refine lR (31) (As := [.int 8]) (rest := []) ⟨hx, hb, hml, hown, hts⟩ (k_count l G o t r h g b (OKC_kp ok hnx hT1.1.t01 u) 8) ((cn8 _ _ _).trans (h31)) (cwV 1 hts gL_act_X3_count rfl rfl rfl (by decide +kernel) ⟨Nat.le_of_ble_eq_true rfl, Nat.le_of_ble_eq_true rfl⟩) hK hP rfl rfl hl.1 (Nat.le_of_ble_eq_true rfl) dL_act_76 ⟨Nat.le_of_ble_eq_true rfl, Nat.le_of_ble_eq_true rfl⟩ ?_
    refine lv_bipush (v := 31) hx hb dL_act_79 (by decide) ?_
    refine lv_icmp_ne (tgt := 99) hx hb dL_act_81 (by decide) (fun c_9 => absurd (by decide) c_9) (fun _ => ?_)
    refine lv_aload_n hx hb dL_act_84 rfl (lv_at hl 5 rfl) ?_
    refine lv_bipush (v := 6) hx hb dL_act_85 (by decide) ?_
    refine lR ((-100006)) (As := [.int 6]) (rest := []) ⟨hx, hb, hml, hown, hts⟩ (k_count l G o t r h g b (OKC_kp ok hnx hT1.1.t01 u) 6) ((cn6 _ _ _).trans hhi) (cwV 1 hts gL_act_X3_count rfl rfl rfl (by decide +kernel) ⟨Nat.le_of_ble_eq_true rfl, Nat.le_of_ble_eq_true rfl⟩) hK hP rfl rfl hl.1 (Nat.le_of_ble_eq_true rfl) dL_act_87 ⟨Nat.le_of_ble_eq_true rfl, Nat.le_of_ble_eq_true rfl⟩ ?_
    refine lv_ldc (v := (-100006)) hx hb hown wk2 dL_act_90 ?_
    refine lv_icmp_ne (tgt := 99) hx hb dL_act_92 (by decide) (fun c_9 => absurd (by decide) c_9) (fun _ => ?_)
    refine lv_iconst (v := 1) hx hb dL_act_95 (by decide) ?_
    refine lv_goto (tgt := 101) hx hb dL_act_96 (by decide) ?_
    refine W.widen (k := 11) (n := 62) (Nat.le_of_ble_eq_true rfl) (Nat.le_of_ble_eq_true rfl) ?_
    exact hret _ _ _ _ _ _ (Or.inr ⟨rfl, u, T1, rfl, hT1.mono (by omega)⟩) hP hD hS dL_act_101
  · obtain ⟨hu1, -⟩ := hTI.1.turn hu
    refine lv_iload_n hx hb dL_act_0 rfl (lv_at hl 1 rfl) ?_
    refine lv_bipush (v := 16) hx hb dL_act_1 (by decide) ?_
    refine lv_irem hx hb dL_act_3 (by decide) ?_
    refine qtop (y := nI a) ha ?_
    refine lv_istore_n (lv' := [(2, .int (nI a)), (0, .ref o), (1, .int (nI n))]) hx hb dL_act_4 rfl hl (by decide) rfl (fun ls hl => ?_)
    refine lv_iload_n hx hb dL_act_5 rfl (lv_at hl 2 rfl) ?_
    refine lv_bipush (v := 16) hx hb dL_act_6 (by decide) ?_
    refine lv_idiv hx hb dL_act_8 (by decide) ?_
    refine qtop (y := nI y) hy ?_
    refine lv_istore_n (lv' := [(3, .int (nI y)), (2, .int (nI a)), (0, .ref o), (1, .int (nI n))]) hx hb dL_act_9 rfl hl (by decide) rfl (fun ls hl => ?_)
    refine lv_iload_n hx hb dL_act_10 rfl (lv_at hl 0 rfl) ?_
    refine lv_iconst (v := 5) hx hb dL_act_11 (by decide) ?_
    refine lv_irem hx hb dL_act_12 (by decide) ?_
    refine qtop (y := nI p5) hp5 ?_
    refine lv_istore (lv' := [(4, .int (nI p5)), (3, .int (nI y)), (2, .int (nI a)), (0, .ref o), (1, .int (nI n))]) hx hb dL_act_13 hl (by decide) rfl (fun ls hl => ?_)
    refine lv_aload_n hx hb dL_act_15 rfl (lv_at hl 3 rfl) ?_
    refine lv_iconst (v := 4) hx hb dL_act_16 (by decide) ?_
    refine lR (1) (As := [.int 4]) (rest := []) ⟨hx, hb, hml, hown, hts⟩ (k_count l G o t r h g b ok 4) ((cn4 ok.1 _ _).trans hu1) (cwV 1 hts gL_act_X3_count rfl rfl rfl (by decide +kernel) ⟨Nat.le_of_ble_eq_true rfl, Nat.le_of_ble_eq_true rfl⟩) hK hP rfl rfl hl.1 (Nat.le_of_ble_eq_true rfl) dL_act_17 ⟨Nat.le_of_ble_eq_true rfl, Nat.le_of_ble_eq_true rfl⟩ ?_
    refine lv_iconst (v := 1) hx hb dL_act_20 (by decide) ?_
    refine lv_icmp_ne (tgt := 28) hx hb dL_act_21 (by decide) (fun c_9 => absurd (by decide) c_9) (fun _ => ?_)
    refine lv_iconst (v := 1) hx hb dL_act_24 (by decide) ?_
    refine lv_goto (tgt := 29) hx hb dL_act_25 (by decide) ?_
    refine lv_istore (lv' := [(5, .int 1), (4, .int (nI p5)), (3, .int (nI y)), (2, .int (nI a)), (0, .ref o), (1, .int (nI n))]) hx hb dL_act_29 hl (by decide) rfl (fun ls hl => ?_)
    refine lv_iload_n hx hb dL_act_31 rfl (lv_at hl 3 rfl) ?_
    refine lv_iconst (v := 2) hx hb dL_act_32 (by decide) ?_
    refine lv_icmp_ge (tgt := 102) hx hb dL_act_33 (by decide) (fun c_9 => absurd c_9 (nI_ge (b := 2) ha2 (by decide))) (fun _ => ?_)
    refine lv_aload_n hx hb dL_act_36 rfl (lv_at hl 4 rfl) ?_
    refine lWr ((-100005)) (As := []) (rest := []) ⟨hx, hb, hml, hown, hts⟩ (k_begin l G o t r h g b ok  _) (refdn hu) (cwV 0 hts gL_act_X3_begin rfl rfl rfl (by decide +kernel) ⟨Nat.le_of_ble_eq_true rfl, Nat.le_of_ble_eq_true rfl⟩) hK hP hD hS hA rfl rfl hl.1 (Nat.le_of_ble_eq_true rfl) dL_act_37 ⟨Nat.le_of_ble_eq_true rfl, Nat.le_of_ble_eq_true rfl⟩ (fun H locs hP hD hS => ?_)
    refine lv_istore (lv' := [(6, .int (-100005)), (5, .int 1), (4, .int (nI p5)), (3, .int (nI y)), (2, .int (nI a)), (0, .ref o), (1, .int (nI n))]) hx hb dL_act_40 hl (by decide) rfl (fun ls hl => ?_)
    refine lv_iload hx hb dL_act_42 (lv_at hl 1 rfl) ?_
    refine lv_if_eq (tgt := 63) hx hb dL_act_44 (by decide) (fun c_9 => absurd c_9 (by decide)) (fun _ => ?_)
    refine lv_iload hx hb dL_act_47 (lv_at hl 0 rfl) ?_
    refine lv_ldc (v := (-100005)) hx hb hown wk1 dL_act_49 ?_
    refine lv_icmp_ne (tgt := 58) hx hb dL_act_51 (by decide) (fun c_9 => absurd (by decide) c_9) (fun _ => ?_)
    refine lv_iconst (v := 0) hx hb dL_act_54 (by decide) ?_
    refine lv_goto (tgt := 101) hx hb dL_act_55 (by decide) ?_
    refine W.widen (k := 11) (n := 62) (Nat.le_of_ble_eq_true rfl) (Nat.le_of_ble_eq_true rfl) ?_
    exact hret _ _ _ _ _ _ (Or.inl ⟨rfl, rfl⟩) hP hD hS dL_act_101
