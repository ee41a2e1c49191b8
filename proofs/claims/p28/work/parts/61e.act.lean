/-! THE LAW: act, further (laid by wip/p28/gen/l5.py) -/
set_option maxHeartbeats 4000000 in
set_option maxRecDepth 100000 in
theorem c_L_act_finish (l : Launch) (G : qG) (o : Nat) (t r h : Nat → Nat) (g : Nat) (b : Nat → Nat) {k : CS} {B : Nat} (hF : RF k B) (hB29 : 29 ≤ B) {n : Nat} (hn : n < 2 ^ 31) (hc : n % 16 = 11) (sz : Nat) : Met l yL_act wsL_act { frames := 7, cells := 11, slots := 62, locals := 149 } (PWz G sz [.ref o, .int (nI n)] (ows G o t r h g b k)) (QI (S := CS) G sz (ows G o t r h g b k) (ActP k (B + 11)) (fun c₀ => ows G o t r h g b c₀)) 11 62 (va_A (ows G o t r h g b k) sz) := by
  refine MIz.of' (by decide) rfl (Nat.le_of_ble_eq_true rfl) ?_
  intro p e s m below meth c hx hb hml hown hts hK hsz hP A hAe hA hD hS hz Q hret ls hl
  have hown : s.vm.findClass RL = some m.cls := hown
  have hl : lv_has ls 10 [(0, .ref o), (1, .int (nI n))] := hl
  have hF0 := hF
  obtain ⟨ok, hTI, hB9, hpl0, hold, hnx⟩ := hF
  obtain ⟨y, hy, hy9⟩ : ∃ y : Nat, nI n / 16 = nI y ∧ y < 2 ^ 28 := ⟨n / 16, pk_div (a := n) (d := 16) hn (by decide) (by decide), by omega⟩
  obtain ⟨p5, hp5, hp55⟩ : ∃ q : Nat, nI y - nI y / 5 * 5 = nI q ∧ q < 5 := ⟨y % 5, pk_rem (a := y) (d := 5) (by omega) (by decide) (by decide), Nat.mod_lt _ (by decide)⟩
  have ha : nI n - nI n / 16 * 16 = 11 := by rw [show nI n - nI n / 16 * 16 = nI (n % 16) from pk_rem (a := n) (d := 16) hn (by decide) (by decide), hc]; rfl
  obtain ⟨hJ1, h10, r1, r2, r3⟩ := round_T hTI.1
  obtain ⟨T1, hT⟩ : ∃ T1 : Tb, T1 = (prR k.1).1 := ⟨_, rfl⟩
  rw [← hT] at hJ1 h10 r1 r2 r3
  rw [← r1] at r3
  have hT1 : TI T1 (B + 11) := TI.of_idle hJ1 h10 _
  by_cases hu : k.1 10 0 = 0
  · have hidt : k.1 10 1 = (-100006) := (hTI.1.idle hu).1
    refine lv_iload_n hx hb dL_act_0 rfl (lv_at hl 1 rfl) ?_
    refine lv_bipush (v := 16) hx hb dL_act_1 (by decide) ?_
    refine lv_irem hx hb dL_act_3 (by decide) ?_
    refine qtop (y := 11) ha ?_
    refine lv_istore_n (lv' := [(2, .int 11), (0, .ref o), (1, .int (nI n))]) hx hb dL_act_4 rfl hl (by decide) rfl (fun ls hl => ?_)
    refine lv_iload_n hx hb dL_act_5 rfl (lv_at hl 2 rfl) ?_
    refine lv_bipush (v := 16) hx hb dL_act_6 (by decide) ?_
    refine lv_idiv hx hb dL_act_8 (by decide) ?_
    refine qtop (y := nI y) hy ?_
    refine lv_istore_n (lv' := [(3, .int (nI y)), (2, .int 11), (0, .ref o), (1, .int (nI n))]) hx hb dL_act_9 rfl hl (by decide) rfl (fun ls hl => ?_)
    refine lv_iload_n hx hb dL_act_10 rfl (lv_at hl 0 rfl) ?_
    refine lv_iconst (v := 5) hx hb dL_act_11 (by decide) ?_
    refine lv_irem hx hb dL_act_12 (by decide) ?_
    refine qtop (y := nI p5) hp5 ?_
    refine lv_istore (lv' := [(4, .int (nI p5)), (3, .int (nI y)), (2, .int 11), (0, .ref o), (1, .int (nI n))]) hx hb dL_act_13 hl (by decide) rfl (fun ls hl => ?_)
    refine lv_aload_n hx hb dL_act_15 rfl (lv_at hl 3 rfl) ?_
    refine lv_iconst (v := 4) hx hb dL_act_16 (by decide) ?_
    refine lR (0) (As := [.int 4]) (rest := []) ⟨hx, hb, hml, hown, hts⟩ (k_count l G o t r h g b ok 4) ((cn4 ok.1 _ _).trans hu) (cwV 1 hts gL_act_X3_count rfl rfl rfl (by decide +kernel) ⟨Nat.le_of_ble_eq_true rfl, Nat.le_of_ble_eq_true rfl⟩) hK hP rfl rfl hl.1 (Nat.le_of_ble_eq_true rfl) dL_act_17 ⟨Nat.le_of_ble_eq_true rfl, Nat.le_of_ble_eq_true rfl⟩ ?_
    refine lv_iconst (v := 1) hx hb dL_act_20 (by decide) ?_
    refine lv_icmp_ne (tgt := 28) hx hb dL_act_21 (by decide) (fun _ => ?_) (fun c_9 => absurd c_9 (by decide))
    refine lv_iconst (v := 0) hx hb dL_act_28 (by decide) ?_
    refine lv_istore (lv' := [(5, .int 0), (4, .int (nI p5)), (3, .int (nI y)), (2, .int 11), (0, .ref o), (1, .int (nI n))]) hx hb dL_act_29 hl (by decide) rfl (fun ls hl => ?_)
    refine lv_iload_n hx hb dL_act_31 rfl (lv_at hl 3 rfl) ?_
    refine lv_iconst (v := 2) hx hb dL_act_32 (by decide) ?_
    refine lv_icmp_ge (tgt := 102) hx hb dL_act_33 (by decide) (fun _ => ?_) (fun c_9 => absurd (by decide) c_9)
    refine lv_iload_n hx hb dL_act_102 rfl (lv_at hl 3 rfl) ?_
    refine lv_bipush (v := 6) hx hb dL_act_103 (by decide) ?_
    refine lv_icmp_ge (tgt := 145) hx hb dL_act_105 (by decide) (fun _ => ?_) (fun c_9 => absurd (by decide) c_9)
    refine lv_iload_n hx hb dL_act_145 rfl (lv_at hl 3 rfl) ?_
    refine lv_bipush (v := 8) hx hb dL_act_146 (by decide) ?_
    refine lv_icmp_ge (tgt := 156) hx hb dL_act_148 (by decide) (fun _ => ?_) (fun c_9 => absurd (by decide) c_9)
    refine lv_iload_n hx hb dL_act_156 rfl (lv_at hl 3 rfl) ?_
    refine lv_bipush (v := 11) hx hb dL_act_157 (by decide) ?_
    refine lv_icmp_ge (tgt := 322) hx hb dL_act_159 (by decide) (fun _ => ?_) (fun c_9 => absurd (by decide) c_9)
    refine lv_iload_n hx hb dL_act_322 rfl (lv_at hl 3 rfl) ?_
    refine lv_bipush (v := 11) hx hb dL_act_323 (by decide) ?_
    refine lv_icmp_ne (tgt := 406) hx hb dL_act_325 (by decide) (fun c_9 => absurd (by decide) c_9) (fun _ => ?_)
    refine lv_aload_n hx hb dL_act_328 rfl (lv_at hl 4 rfl) ?_
    refine lv_bipush (v := 9) hx hb dL_act_329 (by decide) ?_
    refine lR (k.1 10 2) (As := [.int 9]) (rest := []) ⟨hx, hb, hml, hown, hts⟩ (k_count l G o t r h g b ok 9) (cn9 _ _ _) (cwV 1 hts gL_act_X3_count rfl rfl rfl (by decide +kernel) ⟨Nat.le_of_ble_eq_true rfl, Nat.le_of_ble_eq_true rfl⟩) hK hP rfl rfl hl.1 (Nat.le_of_ble_eq_true rfl) dL_act_331 ⟨Nat.le_of_ble_eq_true rfl, Nat.le_of_ble_eq_true rfl⟩ ?_
    refine lv_istore (lv' := [(6, .int (k.1 10 2)), (5, .int 0), (4, .int (nI p5)), (3, .int (nI y)), (2, .int 11), (0, .ref o), (1, .int (nI n))]) hx hb dL_act_334 hl (by decide) rfl (fun ls hl => ?_)
    refine lv_aload_n hx hb dL_act_336 rfl (lv_at hl 5 rfl) ?_
    refine lv_bipush (v := 12) hx hb dL_act_337 (by decide) ?_
    refine lR (s5 (k.1 8)) (As := [.int 12]) (rest := []) ⟨hx, hb, hml, hown, hts⟩ (k_count l G o t r h g b ok 12) (cn12 _ _ _) (cwV 1 hts gL_act_X3_count rfl rfl rfl (by decide +kernel) ⟨Nat.le_of_ble_eq_true rfl, Nat.le_of_ble_eq_true rfl⟩) hK hP rfl rfl hl.1 (Nat.le_of_ble_eq_true rfl) dL_act_339 ⟨Nat.le_of_ble_eq_true rfl, Nat.le_of_ble_eq_true rfl⟩ ?_
    refine lv_istore (lv' := [(7, .int (s5 (k.1 8))), (6, .int (k.1 10 2)), (5, .int 0), (4, .int (nI p5)), (3, .int (nI y)), (2, .int 11), (0, .ref o), (1, .int (nI n))]) hx hb dL_act_342 hl (by decide) rfl (fun ls hl => ?_)
    refine lv_aload_n hx hb dL_act_344 rfl (lv_at hl 6 rfl) ?_
    refine lW (As := []) (rest := []) ⟨hx, hb, hml, hown, hts⟩ (k_finish l G o t r h g b ok  _) (cwV 0 hts gL_act_X3_finish rfl rfl rfl (by decide +kernel) ⟨Nat.le_of_ble_eq_true rfl, Nat.le_of_ble_eq_true rfl⟩) hK hP hD hS hA rfl rfl hl.1 (Nat.le_of_ble_eq_true rfl) dL_act_345 ⟨Nat.le_of_ble_eq_true rfl, Nat.le_of_ble_eq_true rfl⟩ (fun r_1 k1 H locs hr_1 hP hD hS => ?_)
    obtain ⟨e_r, u, e_k⟩ := hr_1
    rw [← hT] at e_r e_k
    subst e_r
    subst e_k
    refine lv_istore (lv' := [(8, .int (pAt (T1 4) 0)), (7, .int (s5 (k.1 8))), (6, .int (k.1 10 2)), (5, .int 0), (4, .int (nI p5)), (3, .int (nI y)), (2, .int 11), (0, .ref o), (1, .int (nI n))]) hx hb dL_act_348 hl (by decide) rfl (fun ls hl => ?_)
    refine lv_iload hx hb dL_act_350 (lv_at hl 0 rfl) ?_
    refine lv_aload_n hx hb dL_act_352 rfl (lv_at hl 7 rfl) ?_
    refine lv_iconst (v := 0) hx hb dL_act_353 (by decide) ?_
    refine lR (pAt (T1 4) 0) (As := [.int 0]) (rest := [.int (pAt (T1 4) 0)]) ⟨hx, hb, hml, hown, hts⟩ (k_at l G o t r h g b (OKC_kp ok hnx hT1.1.t01 u) 0) (show (if (0 : Int32) < 0 then (-100001) else if (0 : Int32) < 5 then pAt (T1 4) 0 else (-100001)) = pAt (T1 4) 0 from by rw [if_neg (by decide), if_pos (by decide)]) (cwV 1 hts gL_act_X3_at rfl rfl rfl (by decide +kernel) ⟨Nat.le_of_ble_eq_true rfl, Nat.le_of_ble_eq_true rfl⟩) hK hP rfl rfl hl.1 (Nat.le_of_ble_eq_true rfl) dL_act_354 ⟨Nat.le_of_ble_eq_true rfl, Nat.le_of_ble_eq_true rfl⟩ ?_
    refine lv_icmp_ne (tgt := 403) hx hb dL_act_357 (by decide) (fun c_9 => absurd rfl c_9) (fun _ => ?_)
    refine lv_aload_n hx hb dL_act_360 rfl (lv_at hl 7 rfl) ?_
    refine lv_bipush (v := 9) hx hb dL_act_361 (by decide) ?_
    refine lR (k.1 10 2 + 1) (As := [.int 9]) (rest := []) ⟨hx, hb, hml, hown, hts⟩ (k_count l G o t r h g b (OKC_kp ok hnx hT1.1.t01 u) 9) ((cn9 _ _ _).trans (r2)) (cwV 1 hts gL_act_X3_count rfl rfl rfl (by decide +kernel) ⟨Nat.le_of_ble_eq_true rfl, Nat.le_of_ble_eq_true rfl⟩) hK hP rfl rfl hl.1 (Nat.le_of_ble_eq_true rfl) dL_act_363 ⟨Nat.le_of_ble_eq_true rfl, Nat.le_of_ble_eq_true rfl⟩ ?_
    refine lv_iload hx hb dL_act_366 (lv_at hl 2 rfl) ?_
    refine lv_iconst (v := 1) hx hb dL_act_368 (by decide) ?_
    refine lv_iadd hx hb dL_act_369 ?_
    refine lv_icmp_ne (tgt := 403) hx hb dL_act_370 (by decide) (fun c_9 => absurd rfl c_9) (fun _ => ?_)
    refine lv_aload_n hx hb dL_act_373 rfl (lv_at hl 7 rfl) ?_
    refine lv_bipush (v := 12) hx hb dL_act_374 (by decide) ?_
    refine lR (s5 (k.1 8) + s5 (T1 1)) (As := [.int 12]) (rest := []) ⟨hx, hb, hml, hown, hts⟩ (k_count l G o t r h g b (OKC_kp ok hnx hT1.1.t01 u) 12) ((cn12 T1 _ _).trans r3) (cwV 1 hts gL_act_X3_count rfl rfl rfl (by decide +kernel) ⟨Nat.le_of_ble_eq_true rfl, Nat.le_of_ble_eq_true rfl⟩) hK hP rfl rfl hl.1 (Nat.le_of_ble_eq_true rfl) dL_act_376 ⟨Nat.le_of_ble_eq_true rfl, Nat.le_of_ble_eq_true rfl⟩ ?_
    refine lv_iload hx hb dL_act_379 (lv_at hl 1 rfl) ?_
    refine lv_aload_n hx hb dL_act_381 rfl (lv_at hl 7 rfl) ?_
    refine lv_bipush (v := 13) hx hb dL_act_382 (by decide) ?_
    refine lR (s5 (T1 1)) (As := [.int 13]) (rest := [.int (s5 (k.1 8)), .int (s5 (k.1 8) + s5 (T1 1))]) ⟨hx, hb, hml, hown, hts⟩ (k_count l G o t r h g b (OKC_kp ok hnx hT1.1.t01 u) 13) (cn13 T1 _ _) (cwV 1 hts gL_act_X3_count rfl rfl rfl (by decide +kernel) ⟨Nat.le_of_ble_eq_true rfl, Nat.le_of_ble_eq_true rfl⟩) hK hP rfl rfl hl.1 (Nat.le_of_ble_eq_true rfl) dL_act_384 ⟨Nat.le_of_ble_eq_true rfl, Nat.le_of_ble_eq_true rfl⟩ ?_
    refine lv_iadd hx hb dL_act_387 ?_
    refine lv_icmp_ne (tgt := 403) hx hb dL_act_388 (by decide) (fun c_9 => absurd rfl c_9) (fun _ => ?_)
    refine lv_aload_n hx hb dL_act_391 rfl (lv_at hl 7 rfl) ?_
    refine lv_iconst (v := 4) hx hb dL_act_392 (by decide) ?_
    refine lR (0) (As := [.int 4]) (rest := []) ⟨hx, hb, hml, hown, hts⟩ (k_count l G o t r h g b (OKC_kp ok hnx hT1.1.t01 u) 4) ((cn4 hT1.1.t01 _ _).trans h10) (cwV 1 hts gL_act_X3_count rfl rfl rfl (by decide +kernel) ⟨Nat.le_of_ble_eq_true rfl, Nat.le_of_ble_eq_true rfl⟩) hK hP rfl rfl hl.1 (Nat.le_of_ble_eq_true rfl) dL_act_393 ⟨Nat.le_of_ble_eq_true rfl, Nat.le_of_ble_eq_true rfl⟩ ?_
    refine lv_if_ne (tgt := 403) hx hb dL_act_396 (by decide) (fun c_9 => absurd (by decide) c_9) (fun _ => ?_)
    refine lv_iconst (v := 1) hx hb dL_act_399 (by decide) ?_
    refine lv_goto (tgt := 405) hx hb dL_act_400 (by decide) ?_
    refine W.widen (k := 11) (n := 62) (Nat.le_of_ble_eq_true rfl) (Nat.le_of_ble_eq_true rfl) ?_
    exact hret _ _ _ _ _ _ (Or.inr ⟨rfl, u, T1, rfl, hT1⟩) hP hD hS dL_act_405
  · obtain ⟨hu1, -⟩ := hTI.1.turn hu
    refine lv_iload_n hx hb dL_act_0 rfl (lv_at hl 1 rfl) ?_
    refine lv_bipush (v := 16) hx hb dL_act_1 (by decide) ?_
    refine lv_irem hx hb dL_act_3 (by decide) ?_
    refine qtop (y := 11) ha ?_
    refine lv_istore_n (lv' := [(2, .int 11), (0, .ref o), (1, .int (nI n))]) hx hb dL_act_4 rfl hl (by decide) rfl (fun ls hl => ?_)
    refine lv_iload_n hx hb dL_act_5 rfl (lv_at hl 2 rfl) ?_
    refine lv_bipush (v := 16) hx hb dL_act_6 (by decide) ?_
    refine lv_idiv hx hb dL_act_8 (by decide) ?_
    refine qtop (y := nI y) hy ?_
    refine lv_istore_n (lv' := [(3, .int (nI y)), (2, .int 11), (0, .ref o), (1, .int (nI n))]) hx hb dL_act_9 rfl hl (by decide) rfl (fun ls hl => ?_)
    refine lv_iload_n hx hb dL_act_10 rfl (lv_at hl 0 rfl) ?_
    refine lv_iconst (v := 5) hx hb dL_act_11 (by decide) ?_
    refine lv_irem hx hb dL_act_12 (by decide) ?_
    refine qtop (y := nI p5) hp5 ?_
    refine lv_istore (lv' := [(4, .int (nI p5)), (3, .int (nI y)), (2, .int 11), (0, .ref o), (1, .int (nI n))]) hx hb dL_act_13 hl (by decide) rfl (fun ls hl => ?_)
    refine lv_aload_n hx hb dL_act_15 rfl (lv_at hl 3 rfl) ?_
    refine lv_iconst (v := 4) hx hb dL_act_16 (by decide) ?_
    refine lR (1) (As := [.int 4]) (rest := []) ⟨hx, hb, hml, hown, hts⟩ (k_count l G o t r h g b ok 4) ((cn4 ok.1 _ _).trans hu1) (cwV 1 hts gL_act_X3_count rfl rfl rfl (by decide +kernel) ⟨Nat.le_of_ble_eq_true rfl, Nat.le_of_ble_eq_true rfl⟩) hK hP rfl rfl hl.1 (Nat.le_of_ble_eq_true rfl) dL_act_17 ⟨Nat.le_of_ble_eq_true rfl, Nat.le_of_ble_eq_true rfl⟩ ?_
    refine lv_iconst (v := 1) hx hb dL_act_20 (by decide) ?_
    refine lv_icmp_ne (tgt := 28) hx hb dL_act_21 (by decide) (fun c_9 => absurd (by decide) c_9) (fun _ => ?_)
    refine lv_iconst (v := 1) hx hb dL_act_24 (by decide) ?_
    refine lv_goto (tgt := 29) hx hb dL_act_25 (by decide) ?_
    refine lv_istore (lv' := [(5, .int 1), (4, .int (nI p5)), (3, .int (nI y)), (2, .int 11), (0, .ref o), (1, .int (nI n))]) hx hb dL_act_29 hl (by decide) rfl (fun ls hl => ?_)
    refine lv_iload_n hx hb dL_act_31 rfl (lv_at hl 3 rfl) ?_
    refine lv_iconst (v := 2) hx hb dL_act_32 (by decide) ?_
    refine lv_icmp_ge (tgt := 102) hx hb dL_act_33 (by decide) (fun _ => ?_) (fun c_9 => absurd (by decide) c_9)
    refine lv_iload_n hx hb dL_act_102 rfl (lv_at hl 3 rfl) ?_
    refine lv_bipush (v := 6) hx hb dL_act_103 (by decide) ?_
    refine lv_icmp_ge (tgt := 145) hx hb dL_act_105 (by decide) (fun _ => ?_) (fun c_9 => absurd (by decide) c_9)
    refine lv_iload_n hx hb dL_act_145 rfl (lv_at hl 3 rfl) ?_
    refine lv_bipush (v := 8) hx hb dL_act_146 (by decide) ?_
    refine lv_icmp_ge (tgt := 156) hx hb dL_act_148 (by decide) (fun _ => ?_) (fun c_9 => absurd (by decide) c_9)
    refine lv_iload_n hx hb dL_act_156 rfl (lv_at hl 3 rfl) ?_
    refine lv_bipush (v := 11) hx hb dL_act_157 (by decide) ?_
    refine lv_icmp_ge (tgt := 322) hx hb dL_act_159 (by decide) (fun _ => ?_) (fun c_9 => absurd (by decide) c_9)
    refine lv_iload_n hx hb dL_act_322 rfl (lv_at hl 3 rfl) ?_
    refine lv_bipush (v := 11) hx hb dL_act_323 (by decide) ?_
    refine lv_icmp_ne (tgt := 406) hx hb dL_act_325 (by decide) (fun c_9 => absurd (by decide) c_9) (fun _ => ?_)
    refine lv_aload_n hx hb dL_act_328 rfl (lv_at hl 4 rfl) ?_
    refine lv_bipush (v := 9) hx hb dL_act_329 (by decide) ?_
    refine lR (k.1 10 2) (As := [.int 9]) (rest := []) ⟨hx, hb, hml, hown, hts⟩ (k_count l G o t r h g b ok 9) (cn9 _ _ _) (cwV 1 hts gL_act_X3_count rfl rfl rfl (by decide +kernel) ⟨Nat.le_of_ble_eq_true rfl, Nat.le_of_ble_eq_true rfl⟩) hK hP rfl rfl hl.1 (Nat.le_of_ble_eq_true rfl) dL_act_331 ⟨Nat.le_of_ble_eq_true rfl, Nat.le_of_ble_eq_true rfl⟩ ?_
    refine lv_istore (lv' := [(6, .int (k.1 10 2)), (5, .int 1), (4, .int (nI p5)), (3, .int (nI y)), (2, .int 11), (0, .ref o), (1, .int (nI n))]) hx hb dL_act_334 hl (by decide) rfl (fun ls hl => ?_)
    refine lv_aload_n hx hb dL_act_336 rfl (lv_at hl 5 rfl) ?_
    refine lv_bipush (v := 12) hx hb dL_act_337 (by decide) ?_
    refine lR (s5 (k.1 8)) (As := [.int 12]) (rest := []) ⟨hx, hb, hml, hown, hts⟩ (k_count l G o t r h g b ok 12) (cn12 _ _ _) (cwV 1 hts gL_act_X3_count rfl rfl rfl (by decide +kernel) ⟨Nat.le_of_ble_eq_true rfl, Nat.le_of_ble_eq_true rfl⟩) hK hP rfl rfl hl.1 (Nat.le_of_ble_eq_true rfl) dL_act_339 ⟨Nat.le_of_ble_eq_true rfl, Nat.le_of_ble_eq_true rfl⟩ ?_
    refine lv_istore (lv' := [(7, .int (s5 (k.1 8))), (6, .int (k.1 10 2)), (5, .int 1), (4, .int (nI p5)), (3, .int (nI y)), (2, .int 11), (0, .ref o), (1, .int (nI n))]) hx hb dL_act_342 hl (by decide) rfl (fun ls hl => ?_)
    refine lv_aload_n hx hb dL_act_344 rfl (lv_at hl 6 rfl) ?_
    refine lW (As := []) (rest := []) ⟨hx, hb, hml, hown, hts⟩ (k_finish l G o t r h g b ok  _) (cwV 0 hts gL_act_X3_finish rfl rfl rfl (by decide +kernel) ⟨Nat.le_of_ble_eq_true rfl, Nat.le_of_ble_eq_true rfl⟩) hK hP hD hS hA rfl rfl hl.1 (Nat.le_of_ble_eq_true rfl) dL_act_345 ⟨Nat.le_of_ble_eq_true rfl, Nat.le_of_ble_eq_true rfl⟩ (fun r_2 k1 H locs hr_2 hP hD hS => ?_)
    obtain ⟨e_r, u, e_k⟩ := hr_2
    rw [← hT] at e_r e_k
    subst e_r
    subst e_k
    refine lv_istore (lv' := [(8, .int (pAt (T1 4) 0)), (7, .int (s5 (k.1 8))), (6, .int (k.1 10 2)), (5, .int 1), (4, .int (nI p5)), (3, .int (nI y)), (2, .int 11), (0, .ref o), (1, .int (nI n))]) hx hb dL_act_348 hl (by decide) rfl (fun ls hl => ?_)
    refine lv_iload hx hb dL_act_350 (lv_at hl 0 rfl) ?_
    refine lv_aload_n hx hb dL_act_352 rfl (lv_at hl 7 rfl) ?_
    refine lv_iconst (v := 0) hx hb dL_act_353 (by decide) ?_
    refine lR (pAt (T1 4) 0) (As := [.int 0]) (rest := [.int (pAt (T1 4) 0)]) ⟨hx, hb, hml, hown, hts⟩ (k_at l G o t r h g b (OKC_kp ok hnx hT1.1.t01 u) 0) (show (if (0 : Int32) < 0 then (-100001) else if (0 : Int32) < 5 then pAt (T1 4) 0 else (-100001)) = pAt (T1 4) 0 from by rw [if_neg (by decide), if_pos (by decide)]) (cwV 1 hts gL_act_X3_at rfl rfl rfl (by decide +kernel) ⟨Nat.le_of_ble_eq_true rfl, Nat.le_of_ble_eq_true rfl⟩) hK hP rfl rfl hl.1 (Nat.le_of_ble_eq_true rfl) dL_act_354 ⟨Nat.le_of_ble_eq_true rfl, Nat.le_of_ble_eq_true rfl⟩ ?_
    refine lv_icmp_ne (tgt := 403) hx hb dL_act_357 (by decide) (fun c_9 => absurd rfl c_9) (fun _ => ?_)
    refine lv_aload_n hx hb dL_act_360 rfl (lv_at hl 7 rfl) ?_
    refine lv_bipush (v := 9) hx hb dL_act_361 (by decide) ?_
    refine lR (k.1 10 2 + 1) (As := [.int 9]) (rest := []) ⟨hx, hb, hml, hown, hts⟩ (k_count l G o t r h g b (OKC_kp ok hnx hT1.1.t01 u) 9) ((cn9 _ _ _).trans (r2)) (cwV 1 hts gL_act_X3_count rfl rfl rfl (by decide +kernel) ⟨Nat.le_of_ble_eq_true rfl, Nat.le_of_ble_eq_true rfl⟩) hK hP rfl rfl hl.1 (Nat.le_of_ble_eq_true rfl) dL_act_363 ⟨Nat.le_of_ble_eq_true rfl, Nat.le_of_ble_eq_true rfl⟩ ?_
    refine lv_iload hx hb dL_act_366 (lv_at hl 2 rfl) ?_
    refine lv_iconst (v := 1) hx hb dL_act_368 (by decide) ?_
    refine lv_iadd hx hb dL_act_369 ?_
    refine lv_icmp_ne (tgt := 403) hx hb dL_act_370 (by decide) (fun c_9 => absurd rfl c_9) (fun _ => ?_)
    refine lv_aload_n hx hb dL_act_373 rfl (lv_at hl 7 rfl) ?_
    refine lv_bipush (v := 12) hx hb dL_act_374 (by decide) ?_
    refine lR (s5 (k.1 8) + s5 (T1 1)) (As := [.int 12]) (rest := []) ⟨hx, hb, hml, hown, hts⟩ (k_count l G o t r h g b (OKC_kp ok hnx hT1.1.t01 u) 12) ((cn12 T1 _ _).trans r3) (cwV 1 hts gL_act_X3_count rfl rfl rfl (by decide +kernel) ⟨Nat.le_of_ble_eq_true rfl, Nat.le_of_ble_eq_true rfl⟩) hK hP rfl rfl hl.1 (Nat.le_of_ble_eq_true rfl) dL_act_376 ⟨Nat.le_of_ble_eq_true rfl, Nat.le_of_ble_eq_true rfl⟩ ?_
    refine lv_iload hx hb dL_act_379 (lv_at hl 1 rfl) ?_
    refine lv_aload_n hx hb dL_act_381 rfl (lv_at hl 7 rfl) ?_
    refine lv_bipush (v := 13) hx hb dL_act_382 (by decide) ?_
    refine lR (s5 (T1 1)) (As := [.int 13]) (rest := [.int (s5 (k.1 8)), .int (s5 (k.1 8) + s5 (T1 1))]) ⟨hx, hb, hml, hown, hts⟩ (k_count l G o t r h g b (OKC_kp ok hnx hT1.1.t01 u) 13) (cn13 T1 _ _) (cwV 1 hts gL_act_X3_count rfl rfl rfl (by decide +kernel) ⟨Nat.le_of_ble_eq_true rfl, Nat.le_of_ble_eq_true rfl⟩) hK hP rfl rfl hl.1 (Nat.le_of_ble_eq_true rfl) dL_act_384 ⟨Nat.le_of_ble_eq_true rfl, Nat.le_of_ble_eq_true rfl⟩ ?_
    refine lv_iadd hx hb dL_act_387 ?_
    refine lv_icmp_ne (tgt := 403) hx hb dL_act_388 (by decide) (fun c_9 => absurd rfl c_9) (fun _ => ?_)
    refine lv_aload_n hx hb dL_act_391 rfl (lv_at hl 7 rfl) ?_
    refine lv_iconst (v := 4) hx hb dL_act_392 (by decide) ?_
    refine lR (0) (As := [.int 4]) (rest := []) ⟨hx, hb, hml, hown, hts⟩ (k_count l G o t r h g b (OKC_kp ok hnx hT1.1.t01 u) 4) ((cn4 hT1.1.t01 _ _).trans h10) (cwV 1 hts gL_act_X3_count rfl rfl rfl (by decide +kernel) ⟨Nat.le_of_ble_eq_true rfl, Nat.le_of_ble_eq_true rfl⟩) hK hP rfl rfl hl.1 (Nat.le_of_ble_eq_true rfl) dL_act_393 ⟨Nat.le_of_ble_eq_true rfl, Nat.le_of_ble_eq_true rfl⟩ ?_
    refine lv_if_ne (tgt := 403) hx hb dL_act_396 (by decide) (fun c_9 => absurd (by decide) c_9) (fun _ => ?_)
    refine lv_iconst (v := 1) hx hb dL_act_399 (by decide) ?_
    refine lv_goto (tgt := 405) hx hb dL_act_400 (by decide) ?_
    refine W.widen (k := 11) (n := 62) (Nat.le_of_ble_eq_true rfl) (Nat.le_of_ble_eq_true rfl) ?_
    exact hret _ _ _ _ _ _ (Or.inr ⟨rfl, u, T1, rfl, hT1⟩) hP hD hS dL_act_405
