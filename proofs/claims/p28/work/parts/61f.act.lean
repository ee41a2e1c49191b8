/-! THE LAW: act, further (laid by wip/p28/gen/l5.py) -/
set_option maxHeartbeats 4000000 in
set_option maxRecDepth 100000 in
theorem c_L_act_coins (l : Launch) (G : qG) (o : Nat) (t r h : Nat → Nat) (g : Nat) (b : Nat → Nat) {k : CS} {B : Nat} (hF : RF k B) (hB29 : 29 ≤ B) {n : Nat} (hn : n < 2 ^ 31) (hc : n % 16 = 12) (sz : Nat) : Met l yL_act wsL_act { frames := 7, cells := 11, slots := 62, locals := 149 } (PWz G sz [.ref o, .int (nI n)] (ows G o t r h g b k)) (QI (S := CS) G sz (ows G o t r h g b k) (ActP k (B + 11)) (fun c₀ => ows G o t r h g b c₀)) 11 62 (va_A (ows G o t r h g b k) sz) := by
  refine MIz.of' (by decide) rfl (Nat.le_of_ble_eq_true rfl) ?_
  intro p e s m below meth c hx hb hml hown hts hK hsz hP A hAe hA hD hS hz Q hret ls hl
  have hown : s.vm.findClass RL = some m.cls := hown
  have hl : lv_has ls 10 [(0, .ref o), (1, .int (nI n))] := hl
  have hF0 := hF
  obtain ⟨ok, hTI, hB9, hpl0, hold, hnx⟩ := hF
  obtain ⟨y, hy, hy9⟩ : ∃ y : Nat, nI n / 16 = nI y ∧ y < 2 ^ 28 := ⟨n / 16, pk_div (a := n) (d := 16) hn (by decide) (by decide), by omega⟩
  obtain ⟨p5, hp5, hp55⟩ : ∃ q : Nat, nI y - nI y / 5 * 5 = nI q ∧ q < 5 := ⟨y % 5, pk_rem (a := y) (d := 5) (by omega) (by decide) (by decide), Nat.mod_lt _ (by decide)⟩
  have ha : nI n - nI n / 16 * 16 = 12 := by rw [show nI n - nI n / 16 * 16 = nI (n % 16) from pk_rem (a := n) (d := 16) hn (by decide) (by decide), hc]; rfl
  have wk1 := hts (Cond.constant RL 36 (-100005)) (List.mem_of_getElem? (i := 1) (by first | rfl | decide +kernel))
  have wk2 := hts (Cond.constant RL 31 (-100006)) (List.mem_of_getElem? (i := 2) (by first | rfl | decide +kernel))
  obtain ⟨y5, hy5, hy59⟩ : ∃ q : Nat, nI y / 5 = nI q ∧ q < 2 ^ 28 := ⟨y / 5, pk_div (a := y) (d := 5) (by omega) (by decide) (by decide), by omega⟩
  obtain ⟨y20, hy20, hy209⟩ : ∃ q : Nat, nI y / 20 = nI q ∧ q < 2 ^ 28 := ⟨y / 20, pk_div (a := y) (d := 20) (by omega) (by decide) (by decide), by omega⟩
  obtain ⟨m4, hm4, hm49⟩ : ∃ q : Nat, nI y5 - nI y5 / 4 * 4 = nI q ∧ q < 4 := ⟨y5 % 4, pk_rem (a := y5) (d := 4) (by omega) (by decide) (by decide), Nat.mod_lt _ (by decide)⟩
  obtain ⟨m50, hm50, hm509⟩ : ∃ q : Nat, nI y5 - nI y5 / 50 * 50 = nI q ∧ q < 50 := ⟨y5 % 50, pk_rem (a := y5) (d := 50) (by omega) (by decide) (by decide), Nat.mod_lt _ (by decide)⟩
  obtain ⟨m10, hm10, hm109⟩ : ∃ q : Nat, nI y20 - nI y20 / 10 * 10 = nI q ∧ q < 10 := ⟨y20 % 10, pk_rem (a := y20) (d := 10) (by omega) (by decide) (by decide), Nat.mod_lt _ (by decide)⟩
  by_cases hu : k.1 10 0 = 0
  · have hidt : k.1 10 1 = (-100006) := (hTI.1.idle hu).1
    have J440 : ∀ (cN : Nat), cN ≤ 9999 → ∀ ls : Array Slot, lv_has ls 10 [(5, .int 0), (4, .int (nI p5)), (3, .int (nI y)), (2, .int 12), (1, .int (nI n)), (0, .ref o)] → W p l e { frames := 7, cells := 11, slots := 62, locals := 149 } s m ([.ref o, .int (nI n)] : List Value).toArray below meth c s.heap [] (0) (0) Q (F0 m 440 ls [.int (nI cN)]) := by
      intro cN hcN ls hl
      refine lv_istore (lv' := [(6, .int (nI cN)), (5, .int 0), (4, .int (nI p5)), (3, .int (nI y)), (2, .int 12), (1, .int (nI n)), (0, .ref o)]) hx hb dL_act_440 hl (by decide) rfl (fun ls hl => ?_)
      have J470 : ∀ (_ : k.1 5 p5 ≤ nI cN ∨ ¬ k.1 6 p5 = (-100006)), ∀ ls : Array Slot, lv_has ls 10 [(6, .int (nI cN)), (5, .int 0), (4, .int (nI p5)), (3, .int (nI y)), (2, .int 12), (1, .int (nI n)), (0, .ref o)] → W p l e { frames := 7, cells := 11, slots := 62, locals := 149 } s m ([.ref o, .int (nI n)] : List Value).toArray below meth c s.heap [] (0) (0) Q (F0 m 470 ls []) := by
        intro hnb ls hl
        have hco := coC_ok (T := k.1) hp55 hcN hnb
        have hT1 := TI_coins hTI hp55 hcN hnb
        obtain ⟨T1, hT⟩ : ∃ T1 : Tb, T1 = tup k.1 2 p5 (nI cN) := ⟨_, rfl⟩
        have g2 : T1 2 p5 = nI cN := by rw [hT, tup_at, if_pos ⟨rfl, rfl⟩]
        rw [← hT] at hT1
        refine lv_iconst (v := 0) hx hb dL_act_470 (by decide) ?_
        refine lv_istore (lv' := [(7, .int 0), (6, .int (nI cN)), (5, .int 0), (4, .int (nI p5)), (3, .int (nI y)), (2, .int 12), (1, .int (nI n)), (0, .ref o)]) hx hb dL_act_471 hl (by decide) rfl (fun ls hl => ?_)
        refine lv_aload_n hx hb dL_act_473 rfl (lv_at hl 7 rfl) ?_
        refine lv_iload hx hb dL_act_474 (lv_at hl 3 rfl) ?_
        refine lv_iconst (v := 0) hx hb dL_act_476 (by decide) ?_
        refine lR (k.1 2 p5) (As := [.int (nI p5), .int 0]) (rest := []) ⟨hx, hb, hml, hown, hts⟩ (k_player l G o t r h g b ok (nI p5) 0) (pl_at k.1 hp55 0 (by decide)) (cwV 2 hts gL_act_X3_player rfl rfl rfl (by decide +kernel) ⟨Nat.le_of_ble_eq_true rfl, Nat.le_of_ble_eq_true rfl⟩) hK hP rfl rfl hl.1 (Nat.le_of_ble_eq_true rfl) dL_act_477 ⟨Nat.le_of_ble_eq_true rfl, Nat.le_of_ble_eq_true rfl⟩ ?_
        refine lv_istore (lv' := [(8, .int (k.1 2 p5)), (7, .int 0), (6, .int (nI cN)), (5, .int 0), (4, .int (nI p5)), (3, .int (nI y)), (2, .int 12), (1, .int (nI n)), (0, .ref o)]) hx hb dL_act_480 hl (by decide) rfl (fun ls hl => ?_)
        refine lv_aload_n hx hb dL_act_482 rfl (lv_at hl 8 rfl) ?_
        refine lv_iload hx hb dL_act_483 (lv_at hl 4 rfl) ?_
        refine lv_iload hx hb dL_act_485 (lv_at hl 2 rfl) ?_
        refine lW (As := [.int (nI p5), .int (nI cN)]) (rest := []) ⟨hx, hb, hml, hown, hts⟩ (k_coins l G o t r h g b ok (nI p5) (nI cN) _) (cwV 2 hts gL_act_X3_coins rfl rfl rfl (by decide +kernel) ⟨Nat.le_of_ble_eq_true rfl, Nat.le_of_ble_eq_true rfl⟩) hK hP hD hS hA rfl rfl hl.1 (Nat.le_of_ble_eq_true rfl) dL_act_487 ⟨Nat.le_of_ble_eq_true rfl, Nat.le_of_ble_eq_true rfl⟩ (fun r_1 k1 H locs hr_1 hP hD hS => ?_)
        obtain ⟨e_r, u, e_k⟩ := l_made hco _ _ hr_1
        rw [ix_n hp55] at e_r e_k
        rw [← hT] at e_k
        subst e_r
        subst e_k
        refine lv_istore (lv' := [(9, .int (k.1 2 p5)), (8, .int (k.1 2 p5)), (7, .int 0), (6, .int (nI cN)), (5, .int 0), (4, .int (nI p5)), (3, .int (nI y)), (2, .int 12), (1, .int (nI n)), (0, .ref o)]) hx hb dL_act_490 hl (by decide) rfl (fun ls hl => ?_)
        refine lv_iload hx hb dL_act_492 (lv_at hl 2 rfl) ?_
        refine lv_if_eq (tgt := 513) hx hb dL_act_494 (by decide) (fun _ => ?_) (fun c_9 => absurd (by decide) c_9)
        refine lv_iload hx hb dL_act_513 (lv_at hl 0 rfl) ?_
        refine lv_iload hx hb dL_act_515 (lv_at hl 1 rfl) ?_
        refine lv_icmp_ne (tgt := 536) hx hb dL_act_517 (by decide) (fun c_9 => absurd rfl c_9) (fun _ => ?_)
        refine lv_aload_n hx hb dL_act_520 rfl (lv_at hl 9 rfl) ?_
        refine lv_iload hx hb dL_act_521 (lv_at hl 5 rfl) ?_
        refine lv_iconst (v := 0) hx hb dL_act_523 (by decide) ?_
        refine lR (nI cN) (As := [.int (nI p5), .int 0]) (rest := []) ⟨hx, hb, hml, hown, hts⟩ (k_player l G o t r h g b (OKC_kp ok hnx hT1.1.t01 u) (nI p5) 0) ((pl_at T1 hp55 0 (by decide)).trans g2) (cwV 2 hts gL_act_X3_player rfl rfl rfl (by decide +kernel) ⟨Nat.le_of_ble_eq_true rfl, Nat.le_of_ble_eq_true rfl⟩) hK hP rfl rfl hl.1 (Nat.le_of_ble_eq_true rfl) dL_act_524 ⟨Nat.le_of_ble_eq_true rfl, Nat.le_of_ble_eq_true rfl⟩ ?_
        refine lv_iload hx hb dL_act_527 (lv_at hl 3 rfl) ?_
        refine lv_icmp_ne (tgt := 536) hx hb dL_act_529 (by decide) (fun c_9 => absurd rfl c_9) (fun _ => ?_)
        refine lv_iconst (v := 1) hx hb dL_act_532 (by decide) ?_
        refine lv_goto (tgt := 538) hx hb dL_act_533 (by decide) ?_
        refine W.widen (k := 11) (n := 62) (Nat.le_of_ble_eq_true rfl) (Nat.le_of_ble_eq_true rfl) ?_
        exact hret _ _ _ _ _ _ (Or.inr ⟨rfl, u, T1, rfl, hT1.mono (by omega)⟩) hP hD hS dL_act_538
      refine lv_aload_n hx hb dL_act_442 rfl (lv_at hl 6 rfl) ?_
      refine lv_iload hx hb dL_act_443 (lv_at hl 2 rfl) ?_
      refine lv_iconst (v := 3) hx hb dL_act_445 (by decide) ?_
      refine lR (k.1 5 p5) (As := [.int (nI p5), .int 3]) (rest := []) ⟨hx, hb, hml, hown, hts⟩ (k_player l G o t r h g b ok (nI p5) 3) (pl_at k.1 hp55 3 (by decide)) (cwV 2 hts gL_act_X3_player rfl rfl rfl (by decide +kernel) ⟨Nat.le_of_ble_eq_true rfl, Nat.le_of_ble_eq_true rfl⟩) hK hP rfl rfl hl.1 (Nat.le_of_ble_eq_true rfl) dL_act_446 ⟨Nat.le_of_ble_eq_true rfl, Nat.le_of_ble_eq_true rfl⟩ ?_
      refine lv_iload hx hb dL_act_449 (lv_at hl 0 rfl) ?_
      refine lv_icmp_le (tgt := 470) hx hb dL_act_451 (by decide) (fun c_le => ?_) (fun c_le => ?_)
      · exact J470 (Or.inl c_le) ls (lv_sub hl [0, 1, 2, 3, 4, 5, 6] rfl)
      · refine lv_aload_n hx hb dL_act_454 rfl (lv_at hl 6 rfl) ?_
        refine lv_iload hx hb dL_act_455 (lv_at hl 2 rfl) ?_
        refine lv_iconst (v := 4) hx hb dL_act_457 (by decide) ?_
        refine lR (k.1 6 p5) (As := [.int (nI p5), .int 4]) (rest := []) ⟨hx, hb, hml, hown, hts⟩ (k_player l G o t r h g b ok (nI p5) 4) (pl_at k.1 hp55 4 (by decide)) (cwV 2 hts gL_act_X3_player rfl rfl rfl (by decide +kernel) ⟨Nat.le_of_ble_eq_true rfl, Nat.le_of_ble_eq_true rfl⟩) hK hP rfl rfl hl.1 (Nat.le_of_ble_eq_true rfl) dL_act_458 ⟨Nat.le_of_ble_eq_true rfl, Nat.le_of_ble_eq_true rfl⟩ ?_
        refine lv_ldc (v := (-100006)) hx hb hown wk2 dL_act_461 ?_
        refine lv_icmp_ne (tgt := 470) hx hb dL_act_463 (by decide) (fun c_g => ?_) (fun c_g => ?_)
        · exact J470 (Or.inr c_g) ls (lv_sub hl [0, 1, 2, 3, 4, 5, 6] rfl)
        · refine lv_iconst (v := 1) hx hb dL_act_466 (by decide) ?_
          refine lv_goto (tgt := 471) hx hb dL_act_467 (by decide) ?_
          refine lv_istore (lv' := [(7, .int 1), (6, .int (nI cN)), (5, .int 0), (4, .int (nI p5)), (3, .int (nI y)), (2, .int 12), (1, .int (nI n)), (0, .ref o)]) hx hb dL_act_471 hl (by decide) rfl (fun ls hl => ?_)
          refine lv_aload_n hx hb dL_act_473 rfl (lv_at hl 7 rfl) ?_
          refine lv_iload hx hb dL_act_474 (lv_at hl 3 rfl) ?_
          refine lv_iconst (v := 0) hx hb dL_act_476 (by decide) ?_
          refine lR (k.1 2 p5) (As := [.int (nI p5), .int 0]) (rest := []) ⟨hx, hb, hml, hown, hts⟩ (k_player l G o t r h g b ok (nI p5) 0) (pl_at k.1 hp55 0 (by decide)) (cwV 2 hts gL_act_X3_player rfl rfl rfl (by decide +kernel) ⟨Nat.le_of_ble_eq_true rfl, Nat.le_of_ble_eq_true rfl⟩) hK hP rfl rfl hl.1 (Nat.le_of_ble_eq_true rfl) dL_act_477 ⟨Nat.le_of_ble_eq_true rfl, Nat.le_of_ble_eq_true rfl⟩ ?_
          refine lv_istore (lv' := [(8, .int (k.1 2 p5)), (7, .int 1), (6, .int (nI cN)), (5, .int 0), (4, .int (nI p5)), (3, .int (nI y)), (2, .int 12), (1, .int (nI n)), (0, .ref o)]) hx hb dL_act_480 hl (by decide) rfl (fun ls hl => ?_)
          refine lv_aload_n hx hb dL_act_482 rfl (lv_at hl 8 rfl) ?_
          refine lv_iload hx hb dL_act_483 (lv_at hl 4 rfl) ?_
          refine lv_iload hx hb dL_act_485 (lv_at hl 2 rfl) ?_
          refine lWr ((-100005)) (As := [.int (nI p5), .int (nI cN)]) (rest := []) ⟨hx, hb, hml, hown, hts⟩ (k_coins l G o t r h g b ok (nI p5) (nI cN) _) (refd (coC_bound (T := k.1) hp55 hcN c_le c_g) lz_5) (cwV 2 hts gL_act_X3_coins rfl rfl rfl (by decide +kernel) ⟨Nat.le_of_ble_eq_true rfl, Nat.le_of_ble_eq_true rfl⟩) hK hP hD hS hA rfl rfl hl.1 (Nat.le_of_ble_eq_true rfl) dL_act_487 ⟨Nat.le_of_ble_eq_true rfl, Nat.le_of_ble_eq_true rfl⟩ (fun H locs hP hD hS => ?_)
          refine lv_istore (lv' := [(9, .int (-100005)), (8, .int (k.1 2 p5)), (7, .int 1), (6, .int (nI cN)), (5, .int 0), (4, .int (nI p5)), (3, .int (nI y)), (2, .int 12), (1, .int (nI n)), (0, .ref o)]) hx hb dL_act_490 hl (by decide) rfl (fun ls hl => ?_)
          refine lv_iload hx hb dL_act_492 (lv_at hl 2 rfl) ?_
          refine lv_if_eq (tgt := 513) hx hb dL_act_494 (by decide) (fun c_9 => absurd c_9 (by decide)) (fun _ => ?_)
          refine lv_iload hx hb dL_act_497 (lv_at hl 0 rfl) ?_
          refine lv_ldc (v := (-100005)) hx hb hown wk1 dL_act_499 ?_
          refine lv_icmp_ne (tgt := 508) hx hb dL_act_501 (by decide) (fun c_9 => absurd (by decide) c_9) (fun _ => ?_)
          refine lv_iconst (v := 0) hx hb dL_act_504 (by decide) ?_
          refine lv_goto (tgt := 538) hx hb dL_act_505 (by decide) ?_
          refine W.widen (k := 11) (n := 62) (Nat.le_of_ble_eq_true rfl) (Nat.le_of_ble_eq_true rfl) ?_
          exact hret _ _ _ _ _ _ (Or.inl ⟨rfl, rfl⟩) hP hD hS dL_act_538
    refine lv_iload_n hx hb dL_act_0 rfl (lv_at hl 1 rfl) ?_
    refine lv_bipush (v := 16) hx hb dL_act_1 (by decide) ?_
    refine lv_irem hx hb dL_act_3 (by decide) ?_
    refine qtop (y := 12) ha ?_
    refine lv_istore_n (lv' := [(2, .int 12), (0, .ref o), (1, .int (nI n))]) hx hb dL_act_4 rfl hl (by decide) rfl (fun ls hl => ?_)
    refine lv_iload_n hx hb dL_act_5 rfl (lv_at hl 2 rfl) ?_
    refine lv_bipush (v := 16) hx hb dL_act_6 (by decide) ?_
    refine lv_idiv hx hb dL_act_8 (by decide) ?_
    refine qtop (y := nI y) hy ?_
    refine lv_istore_n (lv' := [(3, .int (nI y)), (2, .int 12), (0, .ref o), (1, .int (nI n))]) hx hb dL_act_9 rfl hl (by decide) rfl (fun ls hl => ?_)
    refine lv_iload_n hx hb dL_act_10 rfl (lv_at hl 0 rfl) ?_
    refine lv_iconst (v := 5) hx hb dL_act_11 (by decide) ?_
    refine lv_irem hx hb dL_act_12 (by decide) ?_
    refine qtop (y := nI p5) hp5 ?_
    refine lv_istore (lv' := [(4, .int (nI p5)), (3, .int (nI y)), (2, .int 12), (0, .ref o), (1, .int (nI n))]) hx hb dL_act_13 hl (by decide) rfl (fun ls hl => ?_)
    refine lv_aload_n hx hb dL_act_15 rfl (lv_at hl 3 rfl) ?_
    refine lv_iconst (v := 4) hx hb dL_act_16 (by decide) ?_
    refine lR (0) (As := [.int 4]) (rest := []) ⟨hx, hb, hml, hown, hts⟩ (k_count l G o t r h g b ok 4) ((cn4 ok.1 _ _).trans hu) (cwV 1 hts gL_act_X3_count rfl rfl rfl (by decide +kernel) ⟨Nat.le_of_ble_eq_true rfl, Nat.le_of_ble_eq_true rfl⟩) hK hP rfl rfl hl.1 (Nat.le_of_ble_eq_true rfl) dL_act_17 ⟨Nat.le_of_ble_eq_true rfl, Nat.le_of_ble_eq_true rfl⟩ ?_
    refine lv_iconst (v := 1) hx hb dL_act_20 (by decide) ?_
    refine lv_icmp_ne (tgt := 28) hx hb dL_act_21 (by decide) (fun _ => ?_) (fun c_9 => absurd c_9 (by decide))
    refine lv_iconst (v := 0) hx hb dL_act_28 (by decide) ?_
    refine lv_istore (lv' := [(5, .int 0), (4, .int (nI p5)), (3, .int (nI y)), (2, .int 12), (0, .ref o), (1, .int (nI n))]) hx hb dL_act_29 hl (by decide) rfl (fun ls hl => ?_)
    refine lv_iload_n hx hb dL_act_31 rfl (lv_at hl 3 rfl) ?_
    refine lv_iconst (v := 2) hx hb dL_act_32 (by decide) ?_
    refine lv_icmp_ge (tgt := 102) hx hb dL_act_33 (by decide) (fun _ => ?_) (fun c_9 => absurd (by decide) c_9)
    refine lv_iload_n hx hb dL_act_102 rfl (lv_at hl 3 rfl) ?_
    refine lv_bipush (v := 6) hx hb dL_act_103 (by decide) ?_
    refine lv_icmp_ge (tgt := 145) hx hb dL_act_105 (by decide) (fun _ => ?_) (fun c_9 => absurd (by decide) c_9)
    refine lv_iload_n hx hb dL_act_145 rfl (lv_at hl 3 rfl) ?_
    refine lv_bipush (v := 8) hx hb dL_act_146 (by decide) ?_
    refine lv_icmp_ge (tgt := 156) hx hb dL_act_148 (by decide) (fun _ => ?_) (fun c_9 => absurd (by decide) c_9)
    refine lv_iload_n hx hb dL_act_156 rfl (lv_at hl 3 rfl) ?_
    refine lv_bipush (v := 11) hx hb dL_act_157 (by decide) ?_
    refine lv_icmp_ge (tgt := 322) hx hb dL_act_159 (by decide) (fun _ => ?_) (fun c_9 => absurd (by decide) c_9)
    refine lv_iload_n hx hb dL_act_322 rfl (lv_at hl 3 rfl) ?_
    refine lv_bipush (v := 11) hx hb dL_act_323 (by decide) ?_
    refine lv_icmp_ne (tgt := 406) hx hb dL_act_325 (by decide) (fun _ => ?_) (fun c_9 => absurd c_9 (by decide))
    refine lv_iload_n hx hb dL_act_406 rfl (lv_at hl 3 rfl) ?_
    refine lv_bipush (v := 12) hx hb dL_act_407 (by decide) ?_
    refine lv_icmp_ne (tgt := 539) hx hb dL_act_409 (by decide) (fun c_9 => absurd (by decide) c_9) (fun _ => ?_)
    refine lv_iload_n hx hb dL_act_412 rfl (lv_at hl 2 rfl) ?_
    refine lv_iconst (v := 5) hx hb dL_act_413 (by decide) ?_
    refine lv_idiv hx hb dL_act_414 (by decide) ?_
    refine qtop (y := nI y5) hy5 ?_
    refine lv_iconst (v := 4) hx hb dL_act_415 (by decide) ?_
    refine lv_irem hx hb dL_act_416 (by decide) ?_
    refine qtop (y := nI m4) hm4 ?_
    refine lv_if_ne (tgt := 434) hx hb dL_act_417 (by decide) (fun c_4 => ?_) (fun c_4 => ?_)
    · refine lv_iload_n hx hb dL_act_434 rfl (lv_at hl 2 rfl) ?_
      refine lv_iconst (v := 5) hx hb dL_act_435 (by decide) ?_
      refine lv_idiv hx hb dL_act_436 (by decide) ?_
      refine qtop (y := nI y5) hy5 ?_
      refine lv_bipush (v := 50) hx hb dL_act_437 (by decide) ?_
      refine lv_irem hx hb dL_act_439 (by decide) ?_
      refine qtop (y := nI m50) hm50 ?_
      exact J440 m50 (by omega) ls (lv_sub hl [0, 1, 2, 3, 5, 4] rfl)
    · refine lv_sipush (v := 9990) hx hb dL_act_420 (by decide) ?_
      refine lv_iload_n hx hb dL_act_423 rfl (lv_at hl 2 rfl) ?_
      refine lv_bipush (v := 20) hx hb dL_act_424 (by decide) ?_
      refine lv_idiv hx hb dL_act_426 (by decide) ?_
      refine qtop (y := nI y20) hy20 ?_
      refine lv_bipush (v := 10) hx hb dL_act_427 (by decide) ?_
      refine lv_irem hx hb dL_act_429 (by decide) ?_
      refine qtop (y := nI m10) hm10 ?_
      refine lv_iadd hx hb dL_act_430 ?_
      refine qtop (y := nI (9990 + m10)) (nI_add 9990 m10) ?_
      refine lv_goto (tgt := 440) hx hb dL_act_431 (by decide) ?_
      exact J440 (9990 + m10) (by omega) ls (lv_sub hl [0, 1, 2, 3, 5, 4] rfl)
  · obtain ⟨hu1, -⟩ := hTI.1.turn hu
    have J440 : ∀ (cN : Nat), cN ≤ 9999 → ∀ ls : Array Slot, lv_has ls 10 [(5, .int 1), (4, .int (nI p5)), (3, .int (nI y)), (2, .int 12), (1, .int (nI n)), (0, .ref o)] → W p l e { frames := 7, cells := 11, slots := 62, locals := 149 } s m ([.ref o, .int (nI n)] : List Value).toArray below meth c s.heap [] (0) (0) Q (F0 m 440 ls [.int (nI cN)]) := by
      intro cN hcN ls hl
      refine lv_istore (lv' := [(6, .int (nI cN)), (5, .int 1), (4, .int (nI p5)), (3, .int (nI y)), (2, .int 12), (1, .int (nI n)), (0, .ref o)]) hx hb dL_act_440 hl (by decide) rfl (fun ls hl => ?_)
      have J470 : ∀ (_ : k.1 5 p5 ≤ nI cN ∨ ¬ k.1 6 p5 = (-100006)), ∀ ls : Array Slot, lv_has ls 10 [(6, .int (nI cN)), (5, .int 1), (4, .int (nI p5)), (3, .int (nI y)), (2, .int 12), (1, .int (nI n)), (0, .ref o)] → W p l e { frames := 7, cells := 11, slots := 62, locals := 149 } s m ([.ref o, .int (nI n)] : List Value).toArray below meth c s.heap [] (0) (0) Q (F0 m 470 ls []) := by
        intro hnb ls hl
        have hco := coC_ok (T := k.1) hp55 hcN hnb
        have hT1 := TI_coins hTI hp55 hcN hnb
        obtain ⟨T1, hT⟩ : ∃ T1 : Tb, T1 = tup k.1 2 p5 (nI cN) := ⟨_, rfl⟩
        have g2 : T1 2 p5 = nI cN := by rw [hT, tup_at, if_pos ⟨rfl, rfl⟩]
        rw [← hT] at hT1
        refine lv_iconst (v := 0) hx hb dL_act_470 (by decide) ?_
        refine lv_istore (lv' := [(7, .int 0), (6, .int (nI cN)), (5, .int 1), (4, .int (nI p5)), (3, .int (nI y)), (2, .int 12), (1, .int (nI n)), (0, .ref o)]) hx hb dL_act_471 hl (by decide) rfl (fun ls hl => ?_)
        refine lv_aload_n hx hb dL_act_473 rfl (lv_at hl 7 rfl) ?_
        refine lv_iload hx hb dL_act_474 (lv_at hl 3 rfl) ?_
        refine lv_iconst (v := 0) hx hb dL_act_476 (by decide) ?_
        refine lR (k.1 2 p5) (As := [.int (nI p5), .int 0]) (rest := []) ⟨hx, hb, hml, hown, hts⟩ (k_player l G o t r h g b ok (nI p5) 0) (pl_at k.1 hp55 0 (by decide)) (cwV 2 hts gL_act_X3_player rfl rfl rfl (by decide +kernel) ⟨Nat.le_of_ble_eq_true rfl, Nat.le_of_ble_eq_true rfl⟩) hK hP rfl rfl hl.1 (Nat.le_of_ble_eq_true rfl) dL_act_477 ⟨Nat.le_of_ble_eq_true rfl, Nat.le_of_ble_eq_true rfl⟩ ?_
        refine lv_istore (lv' := [(8, .int (k.1 2 p5)), (7, .int 0), (6, .int (nI cN)), (5, .int 1), (4, .int (nI p5)), (3, .int (nI y)), (2, .int 12), (1, .int (nI n)), (0, .ref o)]) hx hb dL_act_480 hl (by decide) rfl (fun ls hl => ?_)
        refine lv_aload_n hx hb dL_act_482 rfl (lv_at hl 8 rfl) ?_
        refine lv_iload hx hb dL_act_483 (lv_at hl 4 rfl) ?_
        refine lv_iload hx hb dL_act_485 (lv_at hl 2 rfl) ?_
        refine lW (As := [.int (nI p5), .int (nI cN)]) (rest := []) ⟨hx, hb, hml, hown, hts⟩ (k_coins l G o t r h g b ok (nI p5) (nI cN) _) (cwV 2 hts gL_act_X3_coins rfl rfl rfl (by decide +kernel) ⟨Nat.le_of_ble_eq_true rfl, Nat.le_of_ble_eq_true rfl⟩) hK hP hD hS hA rfl rfl hl.1 (Nat.le_of_ble_eq_true rfl) dL_act_487 ⟨Nat.le_of_ble_eq_true rfl, Nat.le_of_ble_eq_true rfl⟩ (fun r_2 k1 H locs hr_2 hP hD hS => ?_)
        obtain ⟨e_r, u, e_k⟩ := l_made hco _ _ hr_2
        rw [ix_n hp55] at e_r e_k
        rw [← hT] at e_k
        subst e_r
        subst e_k
        refine lv_istore (lv' := [(9, .int (k.1 2 p5)), (8, .int (k.1 2 p5)), (7, .int 0), (6, .int (nI cN)), (5, .int 1), (4, .int (nI p5)), (3, .int (nI y)), (2, .int 12), (1, .int (nI n)), (0, .ref o)]) hx hb dL_act_490 hl (by decide) rfl (fun ls hl => ?_)
        refine lv_iload hx hb dL_act_492 (lv_at hl 2 rfl) ?_
        refine lv_if_eq (tgt := 513) hx hb dL_act_494 (by decide) (fun _ => ?_) (fun c_9 => absurd (by decide) c_9)
        refine lv_iload hx hb dL_act_513 (lv_at hl 0 rfl) ?_
        refine lv_iload hx hb dL_act_515 (lv_at hl 1 rfl) ?_
        refine lv_icmp_ne (tgt := 536) hx hb dL_act_517 (by decide) (fun c_9 => absurd rfl c_9) (fun _ => ?_)
        refine lv_aload_n hx hb dL_act_520 rfl (lv_at hl 9 rfl) ?_
        refine lv_iload hx hb dL_act_521 (lv_at hl 5 rfl) ?_
        refine lv_iconst (v := 0) hx hb dL_act_523 (by decide) ?_
        refine lR (nI cN) (As := [.int (nI p5), .int 0]) (rest := []) ⟨hx, hb, hml, hown, hts⟩ (k_player l G o t r h g b (OKC_kp ok hnx hT1.1.t01 u) (nI p5) 0) ((pl_at T1 hp55 0 (by decide)).trans g2) (cwV 2 hts gL_act_X3_player rfl rfl rfl (by decide +kernel) ⟨Nat.le_of_ble_eq_true rfl, Nat.le_of_ble_eq_true rfl⟩) hK hP rfl rfl hl.1 (Nat.le_of_ble_eq_true rfl) dL_act_524 ⟨Nat.le_of_ble_eq_true rfl, Nat.le_of_ble_eq_true rfl⟩ ?_
        refine lv_iload hx hb dL_act_527 (lv_at hl 3 rfl) ?_
        refine lv_icmp_ne (tgt := 536) hx hb dL_act_529 (by decide) (fun c_9 => absurd rfl c_9) (fun _ => ?_)
        refine lv_iconst (v := 1) hx hb dL_act_532 (by decide) ?_
        refine lv_goto (tgt := 538) hx hb dL_act_533 (by decide) ?_
        refine W.widen (k := 11) (n := 62) (Nat.le_of_ble_eq_true rfl) (Nat.le_of_ble_eq_true rfl) ?_
        exact hret _ _ _ _ _ _ (Or.inr ⟨rfl, u, T1, rfl, hT1.mono (by omega)⟩) hP hD hS dL_act_538
      refine lv_aload_n hx hb dL_act_442 rfl (lv_at hl 6 rfl) ?_
      refine lv_iload hx hb dL_act_443 (lv_at hl 2 rfl) ?_
      refine lv_iconst (v := 3) hx hb dL_act_445 (by decide) ?_
      refine lR (k.1 5 p5) (As := [.int (nI p5), .int 3]) (rest := []) ⟨hx, hb, hml, hown, hts⟩ (k_player l G o t r h g b ok (nI p5) 3) (pl_at k.1 hp55 3 (by decide)) (cwV 2 hts gL_act_X3_player rfl rfl rfl (by decide +kernel) ⟨Nat.le_of_ble_eq_true rfl, Nat.le_of_ble_eq_true rfl⟩) hK hP rfl rfl hl.1 (Nat.le_of_ble_eq_true rfl) dL_act_446 ⟨Nat.le_of_ble_eq_true rfl, Nat.le_of_ble_eq_true rfl⟩ ?_
      refine lv_iload hx hb dL_act_449 (lv_at hl 0 rfl) ?_
      refine lv_icmp_le (tgt := 470) hx hb dL_act_451 (by decide) (fun c_le => ?_) (fun c_le => ?_)
      · exact J470 (Or.inl c_le) ls (lv_sub hl [0, 1, 2, 3, 4, 5, 6] rfl)
      · refine lv_aload_n hx hb dL_act_454 rfl (lv_at hl 6 rfl) ?_
        refine lv_iload hx hb dL_act_455 (lv_at hl 2 rfl) ?_
        refine lv_iconst (v := 4) hx hb dL_act_457 (by decide) ?_
        refine lR (k.1 6 p5) (As := [.int (nI p5), .int 4]) (rest := []) ⟨hx, hb, hml, hown, hts⟩ (k_player l G o t r h g b ok (nI p5) 4) (pl_at k.1 hp55 4 (by decide)) (cwV 2 hts gL_act_X3_player rfl rfl rfl (by decide +kernel) ⟨Nat.le_of_ble_eq_true rfl, Nat.le_of_ble_eq_true rfl⟩) hK hP rfl rfl hl.1 (Nat.le_of_ble_eq_true rfl) dL_act_458 ⟨Nat.le_of_ble_eq_true rfl, Nat.le_of_ble_eq_true rfl⟩ ?_
        refine lv_ldc (v := (-100006)) hx hb hown wk2 dL_act_461 ?_
        refine lv_icmp_ne (tgt := 470) hx hb dL_act_463 (by decide) (fun c_g => ?_) (fun c_g => ?_)
        · exact J470 (Or.inr c_g) ls (lv_sub hl [0, 1, 2, 3, 4, 5, 6] rfl)
        · refine lv_iconst (v := 1) hx hb dL_act_466 (by decide) ?_
          refine lv_goto (tgt := 471) hx hb dL_act_467 (by decide) ?_
          refine lv_istore (lv' := [(7, .int 1), (6, .int (nI cN)), (5, .int 1), (4, .int (nI p5)), (3, .int (nI y)), (2, .int 12), (1, .int (nI n)), (0, .ref o)]) hx hb dL_act_471 hl (by decide) rfl (fun ls hl => ?_)
          refine lv_aload_n hx hb dL_act_473 rfl (lv_at hl 7 rfl) ?_
          refine lv_iload hx hb dL_act_474 (lv_at hl 3 rfl) ?_
          refine lv_iconst (v := 0) hx hb dL_act_476 (by decide) ?_
          refine lR (k.1 2 p5) (As := [.int (nI p5), .int 0]) (rest := []) ⟨hx, hb, hml, hown, hts⟩ (k_player l G o t r h g b ok (nI p5) 0) (pl_at k.1 hp55 0 (by decide)) (cwV 2 hts gL_act_X3_player rfl rfl rfl (by decide +kernel) ⟨Nat.le_of_ble_eq_true rfl, Nat.le_of_ble_eq_true rfl⟩) hK hP rfl rfl hl.1 (Nat.le_of_ble_eq_true rfl) dL_act_477 ⟨Nat.le_of_ble_eq_true rfl, Nat.le_of_ble_eq_true rfl⟩ ?_
          refine lv_istore (lv' := [(8, .int (k.1 2 p5)), (7, .int 1), (6, .int (nI cN)), (5, .int 1), (4, .int (nI p5)), (3, .int (nI y)), (2, .int 12), (1, .int (nI n)), (0, .ref o)]) hx hb dL_act_480 hl (by decide) rfl (fun ls hl => ?_)
          refine lv_aload_n hx hb dL_act_482 rfl (lv_at hl 8 rfl) ?_
          refine lv_iload hx hb dL_act_483 (lv_at hl 4 rfl) ?_
          refine lv_iload hx hb dL_act_485 (lv_at hl 2 rfl) ?_
          refine lWr ((-100005)) (As := [.int (nI p5), .int (nI cN)]) (rest := []) ⟨hx, hb, hml, hown, hts⟩ (k_coins l G o t r h g b ok (nI p5) (nI cN) _) (refd (coC_bound (T := k.1) hp55 hcN c_le c_g) lz_5) (cwV 2 hts gL_act_X3_coins rfl rfl rfl (by decide +kernel) ⟨Nat.le_of_ble_eq_true rfl, Nat.le_of_ble_eq_true rfl⟩) hK hP hD hS hA rfl rfl hl.1 (Nat.le_of_ble_eq_true rfl) dL_act_487 ⟨Nat.le_of_ble_eq_true rfl, Nat.le_of_ble_eq_true rfl⟩ (fun H locs hP hD hS => ?_)
          refine lv_istore (lv' := [(9, .int (-100005)), (8, .int (k.1 2 p5)), (7, .int 1), (6, .int (nI cN)), (5, .int 1), (4, .int (nI p5)), (3, .int (nI y)), (2, .int 12), (1, .int (nI n)), (0, .ref o)]) hx hb dL_act_490 hl (by decide) rfl (fun ls hl => ?_)
          refine lv_iload hx hb dL_act_492 (lv_at hl 2 rfl) ?_
          refine lv_if_eq (tgt := 513) hx hb dL_act_494 (by decide) (fun c_9 => absurd c_9 (by decide)) (fun _ => ?_)
          refine lv_iload hx hb dL_act_497 (lv_at hl 0 rfl) ?_
          refine lv_ldc (v := (-100005)) hx hb hown wk1 dL_act_499 ?_
          refine lv_icmp_ne (tgt := 508) hx hb dL_act_501 (by decide) (fun c_9 => absurd (by decide) c_9) (fun _ => ?_)
          refine lv_iconst (v := 0) hx hb dL_act_504 (by decide) ?_
          refine lv_goto (tgt := 538) hx hb dL_act_505 (by decide) ?_
          refine W.widen (k := 11) (n := 62) (Nat.le_of_ble_eq_true rfl) (Nat.le_of_ble_eq_true rfl) ?_
          exact hret _ _ _ _ _ _ (Or.inl ⟨rfl, rfl⟩) hP hD hS dL_act_538
    refine lv_iload_n hx hb dL_act_0 rfl (lv_at hl 1 rfl) ?_
    refine lv_bipush (v := 16) hx hb dL_act_1 (by decide) ?_
    refine lv_irem hx hb dL_act_3 (by decide) ?_
    refine qtop (y := 12) ha ?_
    refine lv_istore_n (lv' := [(2, .int 12), (0, .ref o), (1, .int (nI n))]) hx hb dL_act_4 rfl hl (by decide) rfl (fun ls hl => ?_)
    refine lv_iload_n hx hb dL_act_5 rfl (lv_at hl 2 rfl) ?_
    refine lv_bipush (v := 16) hx hb dL_act_6 (by decide) ?_
    refine lv_idiv hx hb dL_act_8 (by decide) ?_
    refine qtop (y := nI y) hy ?_
    refine lv_istore_n (lv' := [(3, .int (nI y)), (2, .int 12), (0, .ref o), (1, .int (nI n))]) hx hb dL_act_9 rfl hl (by decide) rfl (fun ls hl => ?_)
    refine lv_iload_n hx hb dL_act_10 rfl (lv_at hl 0 rfl) ?_
    refine lv_iconst (v := 5) hx hb dL_act_11 (by decide) ?_
    refine lv_irem hx hb dL_act_12 (by decide) ?_
    refine qtop (y := nI p5) hp5 ?_
    refine lv_istore (lv' := [(4, .int (nI p5)), (3, .int (nI y)), (2, .int 12), (0, .ref o), (1, .int (nI n))]) hx hb dL_act_13 hl (by decide) rfl (fun ls hl => ?_)
    refine lv_aload_n hx hb dL_act_15 rfl (lv_at hl 3 rfl) ?_
    refine lv_iconst (v := 4) hx hb dL_act_16 (by decide) ?_
    refine lR (1) (As := [.int 4]) (rest := []) ⟨hx, hb, hml, hown, hts⟩ (k_count l G o t r h g b ok 4) ((cn4 ok.1 _ _).trans hu1) (cwV 1 hts gL_act_X3_count rfl rfl rfl (by decide +kernel) ⟨Nat.le_of_ble_eq_true rfl, Nat.le_of_ble_eq_true rfl⟩) hK hP rfl rfl hl.1 (Nat.le_of_ble_eq_true rfl) dL_act_17 ⟨Nat.le_of_ble_eq_true rfl, Nat.le_of_ble_eq_true rfl⟩ ?_
    refine lv_iconst (v := 1) hx hb dL_act_20 (by decide) ?_
    refine lv_icmp_ne (tgt := 28) hx hb dL_act_21 (by decide) (fun c_9 => absurd (by decide) c_9) (fun _ => ?_)
    refine lv_iconst (v := 1) hx hb dL_act_24 (by decide) ?_
    refine lv_goto (tgt := 29) hx hb dL_act_25 (by decide) ?_
    refine lv_istore (lv' := [(5, .int 1), (4, .int (nI p5)), (3, .int (nI y)), (2, .int 12), (0, .ref o), (1, .int (nI n))]) hx hb dL_act_29 hl (by decide) rfl (fun ls hl => ?_)
    refine lv_iload_n hx hb dL_act_31 rfl (lv_at hl 3 rfl) ?_
    refine lv_iconst (v := 2) hx hb dL_act_32 (by decide) ?_
    refine lv_icmp_ge (tgt := 102) hx hb dL_act_33 (by decide) (fun _ => ?_) (fun c_9 => absurd (by decide) c_9)
    refine lv_iload_n hx hb dL_act_102 rfl (lv_at hl 3 rfl) ?_
    refine lv_bipush (v := 6) hx hb dL_act_103 (by decide) ?_
    refine lv_icmp_ge (tgt := 145) hx hb dL_act_105 (by decide) (fun _ => ?_) (fun c_9 => absurd (by decide) c_9)
    refine lv_iload_n hx hb dL_act_145 rfl (lv_at hl 3 rfl) ?_
    refine lv_bipush (v := 8) hx hb dL_act_146 (by decide) ?_
    refine lv_icmp_ge (tgt := 156) hx hb dL_act_148 (by decide) (fun _ => ?_) (fun c_9 => absurd (by decide) c_9)
    refine lv_iload_n hx hb dL_act_156 rfl (lv_at hl 3 rfl) ?_
    refine lv_bipush (v := 11) hx hb dL_act_157 (by decide) ?_
    refine lv_icmp_ge (tgt := 322) hx hb dL_act_159 (by decide) (fun _ => ?_) (fun c_9 => absurd (by decide) c_9)
    refine lv_iload_n hx hb dL_act_322 rfl (lv_at hl 3 rfl) ?_
    refine lv_bipush (v := 11) hx hb dL_act_323 (by decide) ?_
    refine lv_icmp_ne (tgt := 406) hx hb dL_act_325 (by decide) (fun _ => ?_) (fun c_9 => absurd c_9 (by decide))
    refine lv_iload_n hx hb dL_act_406 rfl (lv_at hl 3 rfl) ?_
    refine lv_bipush (v := 12) hx hb dL_act_407 (by decide) ?_
    refine lv_icmp_ne (tgt := 539) hx hb dL_act_409 (by decide) (fun c_9 => absurd (by decide) c_9) (fun _ => ?_)
    refine lv_iload_n hx hb dL_act_412 rfl (lv_at hl 2 rfl) ?_
    refine lv_iconst (v := 5) hx hb dL_act_413 (by decide) ?_
    refine lv_idiv hx hb dL_act_414 (by decide) ?_
    refine qtop (y := nI y5) hy5 ?_
    refine lv_iconst (v := 4) hx hb dL_act_415 (by decide) ?_
    refine lv_irem hx hb dL_act_416 (by decide) ?_
    refine qtop (y := nI m4) hm4 ?_
    refine lv_if_ne (tgt := 434) hx hb dL_act_417 (by decide) (fun c_4 => ?_) (fun c_4 => ?_)
    · refine lv_iload_n hx hb dL_act_434 rfl (lv_at hl 2 rfl) ?_
      refine lv_iconst (v := 5) hx hb dL_act_435 (by decide) ?_
      refine lv_idiv hx hb dL_act_436 (by decide) ?_
      refine qtop (y := nI y5) hy5 ?_
      refine lv_bipush (v := 50) hx hb dL_act_437 (by decide) ?_
      refine lv_irem hx hb dL_act_439 (by decide) ?_
      refine qtop (y := nI m50) hm50 ?_
      exact J440 m50 (by omega) ls (lv_sub hl [0, 1, 2, 3, 5, 4] rfl)
    · refine lv_sipush (v := 9990) hx hb dL_act_420 (by decide) ?_
      refine lv_iload_n hx hb dL_act_423 rfl (lv_at hl 2 rfl) ?_
      refine lv_bipush (v := 20) hx hb dL_act_424 (by decide) ?_
      refine lv_idiv hx hb dL_act_426 (by decide) ?_
      refine qtop (y := nI y20) hy20 ?_
      refine lv_bipush (v := 10) hx hb dL_act_427 (by decide) ?_
      refine lv_irem hx hb dL_act_429 (by decide) ?_
      refine qtop (y := nI m10) hm10 ?_
      refine lv_iadd hx hb dL_act_430 ?_
      refine qtop (y := nI (9990 + m10)) (nI_add 9990 m10) ?_
      refine lv_goto (tgt := 440) hx hb dL_act_431 (by decide) ?_
      exact J440 (9990 + m10) (by omega) ls (lv_sub hl [0, 1, 2, 3, 5, 4] rfl)
