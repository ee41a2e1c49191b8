/-! THE LAW: isWhole (laid by wip/p28/gen/l2.py) -/
set_option maxHeartbeats 4000000 in
set_option maxRecDepth 100000 in
/-- a state that holds together is whole -/
theorem c_L_isWhole (l : Launch) (G : qG) (o : Nat) (t r h : Nat → Nat) (g : Nat) (b : Nat → Nat) {k : CS} (ok : OKC k) {B : Nat} (hTI : TI k.1 B) (sz : Nat) : Met l yL_isWhole wsL_isWhole { frames := 7, cells := 0, slots := 0, locals := 149 } (PWz G sz [.ref o] (ows G o t r h g b k)) (QI (S := CS) G sz (ows G o t r h g b k) (fun r₀ c₀ => r₀ = 1 ∧ ∃ U : Tb, c₀ = (k.1, U, k.2.2)) (fun c₀ => ows G o t r h g b c₀)) 0 0 (va_A (ows G o t r h g b k) sz) := by
  refine MZz.of (by decide) rfl (Nat.le_of_ble_eq_true rfl) ?_
  intro p e s m below meth c hx hb hml hown hts hK hsz hP A hAe hA hD hS hz Q hret ls hl
  have hown : s.vm.findClass RL = some m.cls := hown
  have hl : lv_has ls 16 [(0, .ref o)] := hl
  obtain ⟨P5, Q5, hp⟩ := hTI.1.per
  have wk1 := hts (Cond.constant RL 31 (-100006)) (List.mem_of_getElem? (i := 1) (by first | rfl | decide +kernel))
  have wk2 := hts (Cond.constant RL 36 (-100005)) (List.mem_of_getElem? (i := 2) (by first | rfl | decide +kernel))
  have L47 : ∀ (f i : Nat), i + f = 5 → ∀ ls : Array Slot, lv_has ls 16 [(12, .int (nI i)), (1, .int (sm (k.1 2) i)), (2, .int (sm (k.1 7) i)), (3, .int (sm (k.1 8) i)), (4, .int (sm (k.1 9) i)), (5, .int (sm (k.1 1) i)), (6, .int (plM (fun i => nI (Q5 i)) i)), (7, .int (lfM (k.1 10 0) (k.1 6) i)), (8, .int (mnM (k.1 10 0) (k.1 6) i)), (9, .int (hiM (k.1 5) i)), (10, .int (k.1 10 0)), (11, .int 1), (0, .ref o)] → W p l e { frames := 7, cells := 0, slots := 0, locals := 149 } s m ([.ref o] : List Value).toArray below meth c s.heap [] (0) (0) Q (F0 m 47 ls []) := by
    intro f
    induction f with
    | zero =>
      intro i hi ls hl
      obtain rfl : i = 5 := by omega
      have hpl := plM_31 hp
      refine lv_iload hx hb dL_isWhole_47 (lv_at hl 0 rfl) ?_
      refine lv_iconst (v := 5) hx hb dL_isWhole_49 (by decide) ?_
      refine lv_icmp_ge (tgt := 329) hx hb dL_isWhole_50 (by decide) (fun _ => ?_) (fun c_9 => absurd (by decide +kernel) c_9)
      by_cases hu0 : k.1 10 0 = 0
      · have hturn : k.1 10 1 = (-100006) := (hTI.1.idle hu0).1
        refine lv_iload hx hb dL_isWhole_329 (lv_at hl 11 rfl) ?_
        refine lv_if_eq (tgt := 430) hx hb dL_isWhole_331 (by decide) (fun c_9 => absurd c_9 (by decide)) (fun _ => ?_)
        refine lv_iload hx hb dL_isWhole_334 (lv_at hl 6 rfl) ?_
        refine lv_bipush (v := 31) hx hb dL_isWhole_336 (by decide) ?_
        refine lv_icmp_ne (tgt := 430) hx hb dL_isWhole_338 (by decide) (fun c_9 => absurd hpl c_9) (fun _ => ?_)
        refine lv_iload_n hx hb dL_isWhole_341 rfl (lv_at hl 1 rfl) ?_
        refine lv_aload_n hx hb dL_isWhole_342 rfl (lv_at hl 12 rfl) ?_
        refine lv_bipush (v := 10) hx hb dL_isWhole_343 (by decide) ?_
        refine lR (sm (k.1 2) 5) (As := [.int 10]) (rest := [.int (sm (k.1 2) 5)]) ⟨hx, hb, hml, hown, hts⟩ (k_count l G o t r h g b ok 10) ((cn10 _ _ _).trans (sm_s5 _)) (cwV 1 hts gL_isWhole_X3_count rfl rfl rfl (by decide +kernel) ⟨Nat.le_of_ble_eq_true rfl, Nat.le_of_ble_eq_true rfl⟩) hK hP rfl rfl hl.1 (Nat.le_of_ble_eq_true rfl) dL_isWhole_345 ⟨Nat.le_of_ble_eq_true rfl, Nat.le_of_ble_eq_true rfl⟩ ?_
        refine lv_icmp_ne (tgt := 430) hx hb dL_isWhole_348 (by decide) (fun c_9 => absurd rfl c_9) (fun _ => ?_)
        refine lv_iload_n hx hb dL_isWhole_351 rfl (lv_at hl 2 rfl) ?_
        refine lv_aload_n hx hb dL_isWhole_352 rfl (lv_at hl 12 rfl) ?_
        refine lv_bipush (v := 11) hx hb dL_isWhole_353 (by decide) ?_
        refine lR (sm (k.1 7) 5) (As := [.int 11]) (rest := [.int (sm (k.1 7) 5)]) ⟨hx, hb, hml, hown, hts⟩ (k_count l G o t r h g b ok 11) ((cn11 _ _ _).trans (sm_s5 _)) (cwV 1 hts gL_isWhole_X3_count rfl rfl rfl (by decide +kernel) ⟨Nat.le_of_ble_eq_true rfl, Nat.le_of_ble_eq_true rfl⟩) hK hP rfl rfl hl.1 (Nat.le_of_ble_eq_true rfl) dL_isWhole_355 ⟨Nat.le_of_ble_eq_true rfl, Nat.le_of_ble_eq_true rfl⟩ ?_
        refine lv_icmp_ne (tgt := 430) hx hb dL_isWhole_358 (by decide) (fun c_9 => absurd rfl c_9) (fun _ => ?_)
        refine lv_iload_n hx hb dL_isWhole_361 rfl (lv_at hl 3 rfl) ?_
        refine lv_aload_n hx hb dL_isWhole_362 rfl (lv_at hl 12 rfl) ?_
        refine lv_bipush (v := 12) hx hb dL_isWhole_363 (by decide) ?_
        refine lR (sm (k.1 8) 5) (As := [.int 12]) (rest := [.int (sm (k.1 8) 5)]) ⟨hx, hb, hml, hown, hts⟩ (k_count l G o t r h g b ok 12) ((cn12 _ _ _).trans (sm_s5 _)) (cwV 1 hts gL_isWhole_X3_count rfl rfl rfl (by decide +kernel) ⟨Nat.le_of_ble_eq_true rfl, Nat.le_of_ble_eq_true rfl⟩) hK hP rfl rfl hl.1 (Nat.le_of_ble_eq_true rfl) dL_isWhole_365 ⟨Nat.le_of_ble_eq_true rfl, Nat.le_of_ble_eq_true rfl⟩ ?_
        refine lv_icmp_ne (tgt := 430) hx hb dL_isWhole_368 (by decide) (fun c_9 => absurd rfl c_9) (fun _ => ?_)
        refine lv_iload hx hb dL_isWhole_371 (lv_at hl 4 rfl) ?_
        refine lv_aload_n hx hb dL_isWhole_373 rfl (lv_at hl 12 rfl) ?_
        refine lv_bipush (v := 9) hx hb dL_isWhole_374 (by decide) ?_
        refine lR (sm (k.1 9) 5) (As := [.int 9]) (rest := [.int (sm (k.1 9) 5)]) ⟨hx, hb, hml, hown, hts⟩ (k_count l G o t r h g b ok 9) ((cn9 _ _ _).trans (hTI.1.2.trans (sm_s5 _))) (cwV 1 hts gL_isWhole_X3_count rfl rfl rfl (by decide +kernel) ⟨Nat.le_of_ble_eq_true rfl, Nat.le_of_ble_eq_true rfl⟩) hK hP rfl rfl hl.1 (Nat.le_of_ble_eq_true rfl) dL_isWhole_376 ⟨Nat.le_of_ble_eq_true rfl, Nat.le_of_ble_eq_true rfl⟩ ?_
        refine lv_icmp_ne (tgt := 430) hx hb dL_isWhole_379 (by decide) (fun c_9 => absurd rfl c_9) (fun _ => ?_)
        refine lv_iload hx hb dL_isWhole_382 (lv_at hl 5 rfl) ?_
        refine lv_aload_n hx hb dL_isWhole_384 rfl (lv_at hl 12 rfl) ?_
        refine lv_bipush (v := 13) hx hb dL_isWhole_385 (by decide) ?_
        refine lR (sm (k.1 1) 5) (As := [.int 13]) (rest := [.int (sm (k.1 1) 5)]) ⟨hx, hb, hml, hown, hts⟩ (k_count l G o t r h g b ok 13) ((cn13 _ _ _).trans (sm_s5 _)) (cwV 1 hts gL_isWhole_X3_count rfl rfl rfl (by decide +kernel) ⟨Nat.le_of_ble_eq_true rfl, Nat.le_of_ble_eq_true rfl⟩) hK hP rfl rfl hl.1 (Nat.le_of_ble_eq_true rfl) dL_isWhole_387 ⟨Nat.le_of_ble_eq_true rfl, Nat.le_of_ble_eq_true rfl⟩ ?_
        refine lv_icmp_ne (tgt := 430) hx hb dL_isWhole_390 (by decide) (fun c_9 => absurd rfl c_9) (fun _ => ?_)
        refine lv_iload hx hb dL_isWhole_393 (lv_at hl 7 rfl) ?_
        refine lv_aload_n hx hb dL_isWhole_395 rfl (lv_at hl 12 rfl) ?_
        refine lv_bipush (v := 8) hx hb dL_isWhole_396 (by decide) ?_
        refine lR (lfM (k.1 10 0) (k.1 6) 5) (As := [.int 8]) (rest := [.int (lfM (k.1 10 0) (k.1 6) 5)]) ⟨hx, hb, hml, hown, hts⟩ (k_count l G o t r h g b ok 8) ((cn8 _ _ _).trans (lfM_pl k.1)) (cwV 1 hts gL_isWhole_X3_count rfl rfl rfl (by decide +kernel) ⟨Nat.le_of_ble_eq_true rfl, Nat.le_of_ble_eq_true rfl⟩) hK hP rfl rfl hl.1 (Nat.le_of_ble_eq_true rfl) dL_isWhole_398 ⟨Nat.le_of_ble_eq_true rfl, Nat.le_of_ble_eq_true rfl⟩ ?_
        refine lv_icmp_ne (tgt := 430) hx hb dL_isWhole_401 (by decide) (fun c_9 => absurd rfl c_9) (fun _ => ?_)
        refine lv_iload hx hb dL_isWhole_404 (lv_at hl 9 rfl) ?_
        refine lv_aload_n hx hb dL_isWhole_406 rfl (lv_at hl 12 rfl) ?_
        refine lv_bipush (v := 6) hx hb dL_isWhole_407 (by decide) ?_
        refine lR (hiM (k.1 5) 5) (As := [.int 6]) (rest := [.int (hiM (k.1 5) 5)]) ⟨hx, hb, hml, hown, hts⟩ (k_count l G o t r h g b ok 6) ((cn6 _ _ _).trans (hiM_hi k.1)) (cwV 1 hts gL_isWhole_X3_count rfl rfl rfl (by decide +kernel) ⟨Nat.le_of_ble_eq_true rfl, Nat.le_of_ble_eq_true rfl⟩) hK hP rfl rfl hl.1 (Nat.le_of_ble_eq_true rfl) dL_isWhole_409 ⟨Nat.le_of_ble_eq_true rfl, Nat.le_of_ble_eq_true rfl⟩ ?_
        refine lv_icmp_ne (tgt := 430) hx hb dL_isWhole_412 (by decide) (fun c_9 => absurd rfl c_9) (fun _ => ?_)
        refine lv_iload hx hb dL_isWhole_415 (lv_at hl 10 rfl) ?_
        refine lv_if_eq (tgt := 426) hx hb dL_isWhole_417 (by decide) (fun _ => ?_) (fun c_9 => absurd hu0 c_9)
        refine lv_iconst (v := 1) hx hb dL_isWhole_426 (by decide) ?_
        refine lv_goto (tgt := 431) hx hb dL_isWhole_427 (by decide) ?_
        refine lv_istore (lv' := [(11, .int 1), (12, .int (nI 5)), (1, .int (sm (k.1 2) 5)), (2, .int (sm (k.1 7) 5)), (3, .int (sm (k.1 8) 5)), (4, .int (sm (k.1 9) 5)), (5, .int (sm (k.1 1) 5)), (6, .int (plM (fun i => nI (Q5 i)) 5)), (7, .int (lfM (k.1 10 0) (k.1 6) 5)), (8, .int (mnM (k.1 10 0) (k.1 6) 5)), (9, .int (hiM (k.1 5) 5)), (10, .int (k.1 10 0)), (0, .ref o)]) hx hb dL_isWhole_431 hl (by decide) rfl (fun ls hl => ?_)
        refine lv_aload_n hx hb dL_isWhole_433 rfl (lv_at hl 12 rfl) ?_
        refine lv_iconst (v := 5) hx hb dL_isWhole_434 (by decide) ?_
        refine lR ((-100006)) (As := [.int 5]) (rest := []) ⟨hx, hb, hml, hown, hts⟩ (k_count l G o t r h g b ok 5) ((cn5 _ _ _).trans hturn) (cwV 1 hts gL_isWhole_X3_count rfl rfl rfl (by decide +kernel) ⟨Nat.le_of_ble_eq_true rfl, Nat.le_of_ble_eq_true rfl⟩) hK hP rfl rfl hl.1 (Nat.le_of_ble_eq_true rfl) dL_isWhole_435 ⟨Nat.le_of_ble_eq_true rfl, Nat.le_of_ble_eq_true rfl⟩ ?_
        refine lv_istore (lv' := [(12, .int (-100006)), (11, .int 1), (1, .int (sm (k.1 2) 5)), (2, .int (sm (k.1 7) 5)), (3, .int (sm (k.1 8) 5)), (4, .int (sm (k.1 9) 5)), (5, .int (sm (k.1 1) 5)), (6, .int (plM (fun i => nI (Q5 i)) 5)), (7, .int (lfM (k.1 10 0) (k.1 6) 5)), (8, .int (mnM (k.1 10 0) (k.1 6) 5)), (9, .int (hiM (k.1 5) 5)), (10, .int (k.1 10 0)), (0, .ref o)]) hx hb dL_isWhole_438 hl (by decide) rfl (fun ls hl => ?_)
        refine lv_iload hx hb dL_isWhole_440 (lv_at hl 1 rfl) ?_
        refine lv_if_eq (tgt := 545) hx hb dL_isWhole_442 (by decide) (fun c_9 => absurd c_9 (by decide)) (fun _ => ?_)
        refine lv_iload hx hb dL_isWhole_445 (lv_at hl 11 rfl) ?_
        refine lv_if_eq (tgt := 514) hx hb dL_isWhole_447 (by decide) (fun _ => ?_) (fun c_9 => absurd hu0 c_9)
        refine lv_iload hx hb dL_isWhole_514 (lv_at hl 0 rfl) ?_
        refine lv_ldc (v := (-100006)) hx hb hown wk1 dL_isWhole_516 ?_
        refine lv_icmp_ne (tgt := 545) hx hb dL_isWhole_518 (by decide) (fun c_9 => absurd (by decide) c_9) (fun _ => ?_)
        refine lv_aload_n hx hb dL_isWhole_521 rfl (lv_at hl 12 rfl) ?_
        refine lv_bipush (v := 7) hx hb dL_isWhole_522 (by decide) ?_
        refine lR ((-100006)) (As := [.int 7]) (rest := []) ⟨hx, hb, hml, hown, hts⟩ (k_count l G o t r h g b ok 7) ((cn7 _ _ _).trans (by unfold leB; rw [if_pos hu0])) (cwV 1 hts gL_isWhole_X3_count rfl rfl rfl (by decide +kernel) ⟨Nat.le_of_ble_eq_true rfl, Nat.le_of_ble_eq_true rfl⟩) hK hP rfl rfl hl.1 (Nat.le_of_ble_eq_true rfl) dL_isWhole_524 ⟨Nat.le_of_ble_eq_true rfl, Nat.le_of_ble_eq_true rfl⟩ ?_
        refine lv_ldc (v := (-100006)) hx hb hown wk1 dL_isWhole_527 ?_
        refine lv_icmp_ne (tgt := 545) hx hb dL_isWhole_529 (by decide) (fun c_9 => absurd (by decide) c_9) (fun _ => ?_)
        refine lv_aload_n hx hb dL_isWhole_532 rfl (lv_at hl 12 rfl) ?_
        refine lWr ((-100005)) (As := []) (rest := []) ⟨hx, hb, hml, hown, hts⟩ (k_movesLeft l G o t r h g b ok  _) (refdp hu0) (cwV 0 hts gL_isWhole_X3_movesLeft rfl rfl rfl (by decide +kernel) ⟨Nat.le_of_ble_eq_true rfl, Nat.le_of_ble_eq_true rfl⟩) hK hP hD hS hA rfl rfl hl.1 (Nat.le_of_ble_eq_true rfl) dL_isWhole_533 ⟨Nat.le_of_ble_eq_true rfl, Nat.le_of_ble_eq_true rfl⟩ (fun H locs hP hD hS => ?_)
        refine lv_ldc (v := (-100005)) hx hb hown wk2 dL_isWhole_536 ?_
        refine lv_icmp_ne (tgt := 545) hx hb dL_isWhole_538 (by decide) (fun c_9 => absurd (by decide) c_9) (fun _ => ?_)
        refine lv_iconst (v := 1) hx hb dL_isWhole_541 (by decide) ?_
        refine lv_goto (tgt := 546) hx hb dL_isWhole_542 (by decide) ?_
        exact hret _ _ _ _ k ⟨rfl, k.2.1, rfl⟩ hP hD hS dL_isWhole_546
      · obtain ⟨-, hn2, j, hj, hturn, hgj⟩ := hTI.1.turn hu0
        have hmn : ¬ mnM (k.1 10 0) (k.1 6) 5 ≤ 1 := by rw [mnM_n k.1 hu0]; exact nI_ge (a := 1) (b := nT k.1) (by omega) (by have := nT_le k.1; omega)
        have hbit : (lfM (k.1 10 0) (k.1 6) 5 >>> (nI j &&& 31)) &&& 1 = 1 := by rw [← lfM_pl]; unfold plB; rw [if_neg hu0]; exact pl_bit _ hj hgj
        have hle1 : hiM (k.1 5) 5 = (-100006) → leB k.1 = k.1 0 1 := fun q => by unfold leB; rw [if_neg hu0, hiM_hi, if_pos q]
        have hle2 : ¬ hiM (k.1 5) 5 = (-100006) → leB k.1 = hiM (k.1 5) 5 + k.1 0 0 := fun q => by unfold leB; rw [if_neg hu0, hiM_hi, if_neg q]
        obtain ⟨hm1, hm2⟩ := moves_n hu0
        refine lv_iload hx hb dL_isWhole_329 (lv_at hl 11 rfl) ?_
        refine lv_if_eq (tgt := 430) hx hb dL_isWhole_331 (by decide) (fun c_9 => absurd c_9 (by decide)) (fun _ => ?_)
        refine lv_iload hx hb dL_isWhole_334 (lv_at hl 6 rfl) ?_
        refine lv_bipush (v := 31) hx hb dL_isWhole_336 (by decide) ?_
        refine lv_icmp_ne (tgt := 430) hx hb dL_isWhole_338 (by decide) (fun c_9 => absurd hpl c_9) (fun _ => ?_)
        refine lv_iload_n hx hb dL_isWhole_341 rfl (lv_at hl 1 rfl) ?_
        refine lv_aload_n hx hb dL_isWhole_342 rfl (lv_at hl 12 rfl) ?_
        refine lv_bipush (v := 10) hx hb dL_isWhole_343 (by decide) ?_
        refine lR (sm (k.1 2) 5) (As := [.int 10]) (rest := [.int (sm (k.1 2) 5)]) ⟨hx, hb, hml, hown, hts⟩ (k_count l G o t r h g b ok 10) ((cn10 _ _ _).trans (sm_s5 _)) (cwV 1 hts gL_isWhole_X3_count rfl rfl rfl (by decide +kernel) ⟨Nat.le_of_ble_eq_true rfl, Nat.le_of_ble_eq_true rfl⟩) hK hP rfl rfl hl.1 (Nat.le_of_ble_eq_true rfl) dL_isWhole_345 ⟨Nat.le_of_ble_eq_true rfl, Nat.le_of_ble_eq_true rfl⟩ ?_
        refine lv_icmp_ne (tgt := 430) hx hb dL_isWhole_348 (by decide) (fun c_9 => absurd rfl c_9) (fun _ => ?_)
        refine lv_iload_n hx hb dL_isWhole_351 rfl (lv_at hl 2 rfl) ?_
        refine lv_aload_n hx hb dL_isWhole_352 rfl (lv_at hl 12 rfl) ?_
        refine lv_bipush (v := 11) hx hb dL_isWhole_353 (by decide) ?_
        refine lR (sm (k.1 7) 5) (As := [.int 11]) (rest := [.int (sm (k.1 7) 5)]) ⟨hx, hb, hml, hown, hts⟩ (k_count l G o t r h g b ok 11) ((cn11 _ _ _).trans (sm_s5 _)) (cwV 1 hts gL_isWhole_X3_count rfl rfl rfl (by decide +kernel) ⟨Nat.le_of_ble_eq_true rfl, Nat.le_of_ble_eq_true rfl⟩) hK hP rfl rfl hl.1 (Nat.le_of_ble_eq_true rfl) dL_isWhole_355 ⟨Nat.le_of_ble_eq_true rfl, Nat.le_of_ble_eq_true rfl⟩ ?_
        refine lv_icmp_ne (tgt := 430) hx hb dL_isWhole_358 (by decide) (fun c_9 => absurd rfl c_9) (fun _ => ?_)
        refine lv_iload_n hx hb dL_isWhole_361 rfl (lv_at hl 3 rfl) ?_
        refine lv_aload_n hx hb dL_isWhole_362 rfl (lv_at hl 12 rfl) ?_
        refine lv_bipush (v := 12) hx hb dL_isWhole_363 (by decide) ?_
        refine lR (sm (k.1 8) 5) (As := [.int 12]) (rest := [.int (sm (k.1 8) 5)]) ⟨hx, hb, hml, hown, hts⟩ (k_count l G o t r h g b ok 12) ((cn12 _ _ _).trans (sm_s5 _)) (cwV 1 hts gL_isWhole_X3_count rfl rfl rfl (by decide +kernel) ⟨Nat.le_of_ble_eq_true rfl, Nat.le_of_ble_eq_true rfl⟩) hK hP rfl rfl hl.1 (Nat.le_of_ble_eq_true rfl) dL_isWhole_365 ⟨Nat.le_of_ble_eq_true rfl, Nat.le_of_ble_eq_true rfl⟩ ?_
        refine lv_icmp_ne (tgt := 430) hx hb dL_isWhole_368 (by decide) (fun c_9 => absurd rfl c_9) (fun _ => ?_)
        refine lv_iload hx hb dL_isWhole_371 (lv_at hl 4 rfl) ?_
        refine lv_aload_n hx hb dL_isWhole_373 rfl (lv_at hl 12 rfl) ?_
        refine lv_bipush (v := 9) hx hb dL_isWhole_374 (by decide) ?_
        refine lR (sm (k.1 9) 5) (As := [.int 9]) (rest := [.int (sm (k.1 9) 5)]) ⟨hx, hb, hml, hown, hts⟩ (k_count l G o t r h g b ok 9) ((cn9 _ _ _).trans (hTI.1.2.trans (sm_s5 _))) (cwV 1 hts gL_isWhole_X3_count rfl rfl rfl (by decide +kernel) ⟨Nat.le_of_ble_eq_true rfl, Nat.le_of_ble_eq_true rfl⟩) hK hP rfl rfl hl.1 (Nat.le_of_ble_eq_true rfl) dL_isWhole_376 ⟨Nat.le_of_ble_eq_true rfl, Nat.le_of_ble_eq_true rfl⟩ ?_
        refine lv_icmp_ne (tgt := 430) hx hb dL_isWhole_379 (by decide) (fun c_9 => absurd rfl c_9) (fun _ => ?_)
        refine lv_iload hx hb dL_isWhole_382 (lv_at hl 5 rfl) ?_
        refine lv_aload_n hx hb dL_isWhole_384 rfl (lv_at hl 12 rfl) ?_
        refine lv_bipush (v := 13) hx hb dL_isWhole_385 (by decide) ?_
        refine lR (sm (k.1 1) 5) (As := [.int 13]) (rest := [.int (sm (k.1 1) 5)]) ⟨hx, hb, hml, hown, hts⟩ (k_count l G o t r h g b ok 13) ((cn13 _ _ _).trans (sm_s5 _)) (cwV 1 hts gL_isWhole_X3_count rfl rfl rfl (by decide +kernel) ⟨Nat.le_of_ble_eq_true rfl, Nat.le_of_ble_eq_true rfl⟩) hK hP rfl rfl hl.1 (Nat.le_of_ble_eq_true rfl) dL_isWhole_387 ⟨Nat.le_of_ble_eq_true rfl, Nat.le_of_ble_eq_true rfl⟩ ?_
        refine lv_icmp_ne (tgt := 430) hx hb dL_isWhole_390 (by decide) (fun c_9 => absurd rfl c_9) (fun _ => ?_)
        refine lv_iload hx hb dL_isWhole_393 (lv_at hl 7 rfl) ?_
        refine lv_aload_n hx hb dL_isWhole_395 rfl (lv_at hl 12 rfl) ?_
        refine lv_bipush (v := 8) hx hb dL_isWhole_396 (by decide) ?_
        refine lR (lfM (k.1 10 0) (k.1 6) 5) (As := [.int 8]) (rest := [.int (lfM (k.1 10 0) (k.1 6) 5)]) ⟨hx, hb, hml, hown, hts⟩ (k_count l G o t r h g b ok 8) ((cn8 _ _ _).trans (lfM_pl k.1)) (cwV 1 hts gL_isWhole_X3_count rfl rfl rfl (by decide +kernel) ⟨Nat.le_of_ble_eq_true rfl, Nat.le_of_ble_eq_true rfl⟩) hK hP rfl rfl hl.1 (Nat.le_of_ble_eq_true rfl) dL_isWhole_398 ⟨Nat.le_of_ble_eq_true rfl, Nat.le_of_ble_eq_true rfl⟩ ?_
        refine lv_icmp_ne (tgt := 430) hx hb dL_isWhole_401 (by decide) (fun c_9 => absurd rfl c_9) (fun _ => ?_)
        refine lv_iload hx hb dL_isWhole_404 (lv_at hl 9 rfl) ?_
        refine lv_aload_n hx hb dL_isWhole_406 rfl (lv_at hl 12 rfl) ?_
        refine lv_bipush (v := 6) hx hb dL_isWhole_407 (by decide) ?_
        refine lR (hiM (k.1 5) 5) (As := [.int 6]) (rest := [.int (hiM (k.1 5) 5)]) ⟨hx, hb, hml, hown, hts⟩ (k_count l G o t r h g b ok 6) ((cn6 _ _ _).trans (hiM_hi k.1)) (cwV 1 hts gL_isWhole_X3_count rfl rfl rfl (by decide +kernel) ⟨Nat.le_of_ble_eq_true rfl, Nat.le_of_ble_eq_true rfl⟩) hK hP rfl rfl hl.1 (Nat.le_of_ble_eq_true rfl) dL_isWhole_409 ⟨Nat.le_of_ble_eq_true rfl, Nat.le_of_ble_eq_true rfl⟩ ?_
        refine lv_icmp_ne (tgt := 430) hx hb dL_isWhole_412 (by decide) (fun c_9 => absurd rfl c_9) (fun _ => ?_)
        refine lv_iload hx hb dL_isWhole_415 (lv_at hl 10 rfl) ?_
        refine lv_if_eq (tgt := 426) hx hb dL_isWhole_417 (by decide) (fun c_9 => absurd c_9 hu0) (fun _ => ?_)
        refine lv_iload hx hb dL_isWhole_420 (lv_at hl 8 rfl) ?_
        refine lv_iconst (v := 1) hx hb dL_isWhole_422 (by decide) ?_
        refine lv_icmp_le (tgt := 430) hx hb dL_isWhole_423 (by decide) (fun c_9 => absurd c_9 hmn) (fun _ => ?_)
        refine lv_iconst (v := 1) hx hb dL_isWhole_426 (by decide) ?_
        refine lv_goto (tgt := 431) hx hb dL_isWhole_427 (by decide) ?_
        refine lv_istore (lv' := [(11, .int 1), (12, .int (nI 5)), (1, .int (sm (k.1 2) 5)), (2, .int (sm (k.1 7) 5)), (3, .int (sm (k.1 8) 5)), (4, .int (sm (k.1 9) 5)), (5, .int (sm (k.1 1) 5)), (6, .int (plM (fun i => nI (Q5 i)) 5)), (7, .int (lfM (k.1 10 0) (k.1 6) 5)), (8, .int (mnM (k.1 10 0) (k.1 6) 5)), (9, .int (hiM (k.1 5) 5)), (10, .int (k.1 10 0)), (0, .ref o)]) hx hb dL_isWhole_431 hl (by decide) rfl (fun ls hl => ?_)
        refine lv_aload_n hx hb dL_isWhole_433 rfl (lv_at hl 12 rfl) ?_
        refine lv_iconst (v := 5) hx hb dL_isWhole_434 (by decide) ?_
        refine lR (nI j) (As := [.int 5]) (rest := []) ⟨hx, hb, hml, hown, hts⟩ (k_count l G o t r h g b ok 5) ((cn5 _ _ _).trans hturn) (cwV 1 hts gL_isWhole_X3_count rfl rfl rfl (by decide +kernel) ⟨Nat.le_of_ble_eq_true rfl, Nat.le_of_ble_eq_true rfl⟩) hK hP rfl rfl hl.1 (Nat.le_of_ble_eq_true rfl) dL_isWhole_435 ⟨Nat.le_of_ble_eq_true rfl, Nat.le_of_ble_eq_true rfl⟩ ?_
        refine lv_istore (lv' := [(12, .int (nI j)), (11, .int 1), (1, .int (sm (k.1 2) 5)), (2, .int (sm (k.1 7) 5)), (3, .int (sm (k.1 8) 5)), (4, .int (sm (k.1 9) 5)), (5, .int (sm (k.1 1) 5)), (6, .int (plM (fun i => nI (Q5 i)) 5)), (7, .int (lfM (k.1 10 0) (k.1 6) 5)), (8, .int (mnM (k.1 10 0) (k.1 6) 5)), (9, .int (hiM (k.1 5) 5)), (10, .int (k.1 10 0)), (0, .ref o)]) hx hb dL_isWhole_438 hl (by decide) rfl (fun ls hl => ?_)
        refine lv_iload hx hb dL_isWhole_440 (lv_at hl 1 rfl) ?_
        refine lv_if_eq (tgt := 545) hx hb dL_isWhole_442 (by decide) (fun c_9 => absurd c_9 (by decide)) (fun _ => ?_)
        refine lv_iload hx hb dL_isWhole_445 (lv_at hl 11 rfl) ?_
        refine lv_if_eq (tgt := 514) hx hb dL_isWhole_447 (by decide) (fun c_9 => absurd c_9 hu0) (fun _ => ?_)
        refine lv_iload hx hb dL_isWhole_450 (lv_at hl 0 rfl) ?_
        refine lv_if_lt (tgt := 545) hx hb dL_isWhole_452 (by decide) (fun c_9 => absurd c_9 (nI_pos (by omega))) (fun _ => ?_)
        refine lv_iload hx hb dL_isWhole_455 (lv_at hl 0 rfl) ?_
        refine lv_iconst (v := 5) hx hb dL_isWhole_457 (by decide) ?_
        refine lv_icmp_ge (tgt := 545) hx hb dL_isWhole_458 (by decide) (fun c_9 => absurd c_9 (nI_ge (b := 5) hj (by decide))) (fun _ => ?_)
        refine lv_iload hx hb dL_isWhole_461 (lv_at hl 8 rfl) ?_
        refine lv_iload hx hb dL_isWhole_463 (lv_at hl 0 rfl) ?_
        refine lv_ishr hx hb dL_isWhole_465 ?_
        refine lv_iconst (v := 1) hx hb dL_isWhole_466 (by decide) ?_
        refine lv_iand hx hb dL_isWhole_467 ?_
        refine lv_iconst (v := 1) hx hb dL_isWhole_468 (by decide) ?_
        refine lv_icmp_ne (tgt := 545) hx hb dL_isWhole_469 (by decide) (fun c_9 => absurd hbit c_9) (fun _ => ?_)
        refine lv_aload_n hx hb dL_isWhole_472 rfl (lv_at hl 12 rfl) ?_
        refine lv_bipush (v := 7) hx hb dL_isWhole_473 (by decide) ?_
        refine lR (leB k.1) (As := [.int 7]) (rest := []) ⟨hx, hb, hml, hown, hts⟩ (k_count l G o t r h g b ok 7) (cn7 _ _ _) (cwV 1 hts gL_isWhole_X3_count rfl rfl rfl (by decide +kernel) ⟨Nat.le_of_ble_eq_true rfl, Nat.le_of_ble_eq_true rfl⟩) hK hP rfl rfl hl.1 (Nat.le_of_ble_eq_true rfl) dL_isWhole_475 ⟨Nat.le_of_ble_eq_true rfl, Nat.le_of_ble_eq_true rfl⟩ ?_
        refine lv_iload hx hb dL_isWhole_478 (lv_at hl 10 rfl) ?_
        refine lv_ldc (v := (-100006)) hx hb hown wk1 dL_isWhole_480 ?_
        refine lv_icmp_ne (tgt := 493) hx hb dL_isWhole_482 (by decide) (fun c_q => ?_) (fun c_q => ?_)
        · refine lv_iload hx hb dL_isWhole_493 (lv_at hl 10 rfl) ?_
          refine lv_aload_n hx hb dL_isWhole_495 rfl (lv_at hl 12 rfl) ?_
          refine lv_iconst (v := 0) hx hb dL_isWhole_496 (by decide) ?_
          refine lR (k.1 0 0) (As := [.int 0]) (rest := [.int (hiM (k.1 5) 5), .int (leB k.1)]) ⟨hx, hb, hml, hown, hts⟩ (k_count l G o t r h g b ok 0) (cnS0 k.1 _ _ (i := 0) (by decide)) (cwV 1 hts gL_isWhole_X3_count rfl rfl rfl (by decide +kernel) ⟨Nat.le_of_ble_eq_true rfl, Nat.le_of_ble_eq_true rfl⟩) hK hP rfl rfl hl.1 (Nat.le_of_ble_eq_true rfl) dL_isWhole_497 ⟨Nat.le_of_ble_eq_true rfl, Nat.le_of_ble_eq_true rfl⟩ ?_
          refine lv_iadd hx hb dL_isWhole_500 ?_
          refine lv_icmp_ne (tgt := 545) hx hb dL_isWhole_501 (by decide) (fun c_9 => absurd (hle2 c_q) c_9) (fun _ => ?_)
          refine lv_aload_n hx hb dL_isWhole_504 rfl (lv_at hl 12 rfl) ?_
          refine lW (As := []) (rest := []) ⟨hx, hb, hml, hown, hts⟩ (k_movesLeft l G o t r h g b ok  _) (cwV 0 hts gL_isWhole_X3_movesLeft rfl rfl rfl (by decide +kernel) ⟨Nat.le_of_ble_eq_true rfl, Nat.le_of_ble_eq_true rfl⟩) hK hP hD hS hA rfl rfl hl.1 (Nat.le_of_ble_eq_true rfl) dL_isWhole_505 ⟨Nat.le_of_ble_eq_true rfl, Nat.le_of_ble_eq_true rfl⟩ (fun r_1 k1 H locs hr_1 hP hD hS => ?_)
          obtain ⟨e_r, u_m, e_k⟩ := hr_1
          rw [if_neg hu0] at e_r e_k
          subst e_r
          subst e_k
          refine lv_if_le (tgt := 545) hx hb dL_isWhole_508 (by decide) (fun c_9 => absurd c_9 (nI_ge (a := 0) (by omega) (by omega))) (fun _ => ?_)
          refine lv_goto (tgt := 541) hx hb dL_isWhole_511 (by decide) ?_
          refine lv_iconst (v := 1) hx hb dL_isWhole_541 (by decide) ?_
          refine lv_goto (tgt := 546) hx hb dL_isWhole_542 (by decide) ?_
          exact hret _ _ _ _ _ ⟨rfl, _, rfl⟩ hP hD hS dL_isWhole_546
        · refine lv_aload_n hx hb dL_isWhole_485 rfl (lv_at hl 12 rfl) ?_
          refine lv_iconst (v := 1) hx hb dL_isWhole_486 (by decide) ?_
          refine lR (k.1 0 1) (As := [.int 1]) (rest := [.int (leB k.1)]) ⟨hx, hb, hml, hown, hts⟩ (k_count l G o t r h g b ok 1) (cnS0 k.1 _ _ (i := 1) (by decide)) (cwV 1 hts gL_isWhole_X3_count rfl rfl rfl (by decide +kernel) ⟨Nat.le_of_ble_eq_true rfl, Nat.le_of_ble_eq_true rfl⟩) hK hP rfl rfl hl.1 (Nat.le_of_ble_eq_true rfl) dL_isWhole_487 ⟨Nat.le_of_ble_eq_true rfl, Nat.le_of_ble_eq_true rfl⟩ ?_
          refine lv_goto (tgt := 501) hx hb dL_isWhole_490 (by decide) ?_
          refine lv_icmp_ne (tgt := 545) hx hb dL_isWhole_501 (by decide) (fun c_9 => absurd (hle1 c_q) c_9) (fun _ => ?_)
          refine lv_aload_n hx hb dL_isWhole_504 rfl (lv_at hl 12 rfl) ?_
          refine lW (As := []) (rest := []) ⟨hx, hb, hml, hown, hts⟩ (k_movesLeft l G o t r h g b ok  _) (cwV 0 hts gL_isWhole_X3_movesLeft rfl rfl rfl (by decide +kernel) ⟨Nat.le_of_ble_eq_true rfl, Nat.le_of_ble_eq_true rfl⟩) hK hP hD hS hA rfl rfl hl.1 (Nat.le_of_ble_eq_true rfl) dL_isWhole_505 ⟨Nat.le_of_ble_eq_true rfl, Nat.le_of_ble_eq_true rfl⟩ (fun r_2 k1 H locs hr_2 hP hD hS => ?_)
          obtain ⟨e_r, u_m, e_k⟩ := hr_2
          rw [if_neg hu0] at e_r e_k
          subst e_r
          subst e_k
          refine lv_if_le (tgt := 545) hx hb dL_isWhole_508 (by decide) (fun c_9 => absurd c_9 (nI_ge (a := 0) (by omega) (by omega))) (fun _ => ?_)
          refine lv_goto (tgt := 541) hx hb dL_isWhole_511 (by decide) ?_
          refine lv_iconst (v := 1) hx hb dL_isWhole_541 (by decide) ?_
          refine lv_goto (tgt := 546) hx hb dL_isWhole_542 (by decide) ?_
          exact hret _ _ _ _ _ ⟨rfl, _, rfl⟩ hP hD hS dL_isWhole_546
    | succ f ih =>
      intro i hi ls hl
      have hlt : i < 5 := by omega
      obtain ⟨hb0, hcv, hg0, hc0, hc9⟩ := hTI.1.plr hlt
      refine lv_iload hx hb dL_isWhole_47 (lv_at hl 0 rfl) ?_
      refine lv_iconst (v := 5) hx hb dL_isWhole_49 (by decide) ?_
      refine lv_icmp_ge (tgt := 329) hx hb dL_isWhole_50 (by decide) (fun c_9 => absurd c_9 (nI_ge (b := 5) hlt (by decide))) (fun _ => ?_)
      refine lv_iload hx hb dL_isWhole_53 (lv_at hl 11 rfl) ?_
      refine lv_if_eq (tgt := 329) hx hb dL_isWhole_55 (by decide) (fun c_9 => absurd c_9 (by decide)) (fun _ => ?_)
      refine lv_aload_n hx hb dL_isWhole_58 rfl (lv_at hl 12 rfl) ?_
      refine lv_iload hx hb dL_isWhole_59 (lv_at hl 0 rfl) ?_
      refine lv_iconst (v := 2) hx hb dL_isWhole_61 (by decide) ?_
      refine lR (nI (Q5 i)) (As := [.int (nI i), .int 2]) (rest := []) ⟨hx, hb, hml, hown, hts⟩ (k_player l G o t r h g b ok (nI i) 2) ((pl_at k.1 hlt 2 (by decide)).trans (hp.1 i hlt).2.1) (cwV 2 hts gL_isWhole_X3_player rfl rfl rfl (by decide +kernel) ⟨Nat.le_of_ble_eq_true rfl, Nat.le_of_ble_eq_true rfl⟩) hK hP rfl rfl hl.1 (Nat.le_of_ble_eq_true rfl) dL_isWhole_62 ⟨Nat.le_of_ble_eq_true rfl, Nat.le_of_ble_eq_true rfl⟩ ?_
      refine lv_istore (lv' := [(13, .int (nI (Q5 i))), (12, .int (nI i)), (1, .int (sm (k.1 2) i)), (2, .int (sm (k.1 7) i)), (3, .int (sm (k.1 8) i)), (4, .int (sm (k.1 9) i)), (5, .int (sm (k.1 1) i)), (6, .int (plM (fun i => nI (Q5 i)) i)), (7, .int (lfM (k.1 10 0) (k.1 6) i)), (8, .int (mnM (k.1 10 0) (k.1 6) i)), (9, .int (hiM (k.1 5) i)), (10, .int (k.1 10 0)), (11, .int 1), (0, .ref o)]) hx hb dL_isWhole_65 hl (by decide) rfl (fun ls hl => ?_)
      refine lv_aload_n hx hb dL_isWhole_67 rfl (lv_at hl 13 rfl) ?_
      refine lv_iload hx hb dL_isWhole_68 (lv_at hl 1 rfl) ?_
      refine lv_iconst (v := 3) hx hb dL_isWhole_70 (by decide) ?_
      refine lR (k.1 5 i) (As := [.int (nI i), .int 3]) (rest := []) ⟨hx, hb, hml, hown, hts⟩ (k_player l G o t r h g b ok (nI i) 3) (pl_at k.1 hlt 3 (by decide)) (cwV 2 hts gL_isWhole_X3_player rfl rfl rfl (by decide +kernel) ⟨Nat.le_of_ble_eq_true rfl, Nat.le_of_ble_eq_true rfl⟩) hK hP rfl rfl hl.1 (Nat.le_of_ble_eq_true rfl) dL_isWhole_71 ⟨Nat.le_of_ble_eq_true rfl, Nat.le_of_ble_eq_true rfl⟩ ?_
      refine lv_istore (lv' := [(14, .int (k.1 5 i)), (13, .int (nI (Q5 i))), (12, .int (nI i)), (1, .int (sm (k.1 2) i)), (2, .int (sm (k.1 7) i)), (3, .int (sm (k.1 8) i)), (4, .int (sm (k.1 9) i)), (5, .int (sm (k.1 1) i)), (6, .int (plM (fun i => nI (Q5 i)) i)), (7, .int (lfM (k.1 10 0) (k.1 6) i)), (8, .int (mnM (k.1 10 0) (k.1 6) i)), (9, .int (hiM (k.1 5) i)), (10, .int (k.1 10 0)), (11, .int 1), (0, .ref o)]) hx hb dL_isWhole_74 hl (by decide) rfl (fun ls hl => ?_)
      refine lv_aload_n hx hb dL_isWhole_76 rfl (lv_at hl 14 rfl) ?_
      refine lv_iload hx hb dL_isWhole_77 (lv_at hl 2 rfl) ?_
      refine lv_iconst (v := 4) hx hb dL_isWhole_79 (by decide) ?_
      refine lR (k.1 6 i) (As := [.int (nI i), .int 4]) (rest := []) ⟨hx, hb, hml, hown, hts⟩ (k_player l G o t r h g b ok (nI i) 4) (pl_at k.1 hlt 4 (by decide)) (cwV 2 hts gL_isWhole_X3_player rfl rfl rfl (by decide +kernel) ⟨Nat.le_of_ble_eq_true rfl, Nat.le_of_ble_eq_true rfl⟩) hK hP rfl rfl hl.1 (Nat.le_of_ble_eq_true rfl) dL_isWhole_80 ⟨Nat.le_of_ble_eq_true rfl, Nat.le_of_ble_eq_true rfl⟩ ?_
      refine lv_istore (lv' := [(15, .int (k.1 6 i)), (14, .int (k.1 5 i)), (13, .int (nI (Q5 i))), (12, .int (nI i)), (1, .int (sm (k.1 2) i)), (2, .int (sm (k.1 7) i)), (3, .int (sm (k.1 8) i)), (4, .int (sm (k.1 9) i)), (5, .int (sm (k.1 1) i)), (6, .int (plM (fun i => nI (Q5 i)) i)), (7, .int (lfM (k.1 10 0) (k.1 6) i)), (8, .int (mnM (k.1 10 0) (k.1 6) i)), (9, .int (hiM (k.1 5) i)), (10, .int (k.1 10 0)), (11, .int 1), (0, .ref o)]) hx hb dL_isWhole_83 hl (by decide) rfl (fun ls hl => ?_)
      refine lv_iload_n hx hb dL_isWhole_85 rfl (lv_at hl 4 rfl) ?_
      refine lv_aload_n hx hb dL_isWhole_86 rfl (lv_at hl 15 rfl) ?_
      refine lv_iload hx hb dL_isWhole_87 (lv_at hl 3 rfl) ?_
      refine lv_iconst (v := 0) hx hb dL_isWhole_89 (by decide) ?_
      refine lR (k.1 2 i) (As := [.int (nI i), .int 0]) (rest := [.int (sm (k.1 2) i)]) ⟨hx, hb, hml, hown, hts⟩ (k_player l G o t r h g b ok (nI i) 0) (pl_at k.1 hlt 0 (by decide)) (cwV 2 hts gL_isWhole_X3_player rfl rfl rfl (by decide +kernel) ⟨Nat.le_of_ble_eq_true rfl, Nat.le_of_ble_eq_true rfl⟩) hK hP rfl rfl hl.1 (Nat.le_of_ble_eq_true rfl) dL_isWhole_90 ⟨Nat.le_of_ble_eq_true rfl, Nat.le_of_ble_eq_true rfl⟩ ?_
      refine lv_iadd hx hb dL_isWhole_93 ?_
      refine qtop (y := sm (k.1 2) (i + 1)) rfl ?_
      refine lv_istore_n (lv' := [(1, .int (sm (k.1 2) (i + 1))), (15, .int (k.1 6 i)), (14, .int (k.1 5 i)), (13, .int (nI (Q5 i))), (12, .int (nI i)), (2, .int (sm (k.1 7) i)), (3, .int (sm (k.1 8) i)), (4, .int (sm (k.1 9) i)), (5, .int (sm (k.1 1) i)), (6, .int (plM (fun i => nI (Q5 i)) i)), (7, .int (lfM (k.1 10 0) (k.1 6) i)), (8, .int (mnM (k.1 10 0) (k.1 6) i)), (9, .int (hiM (k.1 5) i)), (10, .int (k.1 10 0)), (11, .int 1), (0, .ref o)]) hx hb dL_isWhole_94 rfl hl (by decide) rfl (fun ls hl => ?_)
      refine lv_iload_n hx hb dL_isWhole_95 rfl (lv_at hl 5 rfl) ?_
      refine lv_aload_n hx hb dL_isWhole_96 rfl (lv_at hl 15 rfl) ?_
      refine lv_iload hx hb dL_isWhole_97 (lv_at hl 4 rfl) ?_
      refine lv_iconst (v := 5) hx hb dL_isWhole_99 (by decide) ?_
      refine lR (k.1 7 i) (As := [.int (nI i), .int 5]) (rest := [.int (sm (k.1 7) i)]) ⟨hx, hb, hml, hown, hts⟩ (k_player l G o t r h g b ok (nI i) 5) (pl_at k.1 hlt 5 (by decide)) (cwV 2 hts gL_isWhole_X3_player rfl rfl rfl (by decide +kernel) ⟨Nat.le_of_ble_eq_true rfl, Nat.le_of_ble_eq_true rfl⟩) hK hP rfl rfl hl.1 (Nat.le_of_ble_eq_true rfl) dL_isWhole_100 ⟨Nat.le_of_ble_eq_true rfl, Nat.le_of_ble_eq_true rfl⟩ ?_
      refine lv_iadd hx hb dL_isWhole_103 ?_
      refine qtop (y := sm (k.1 7) (i + 1)) rfl ?_
      refine lv_istore_n (lv' := [(2, .int (sm (k.1 7) (i + 1))), (1, .int (sm (k.1 2) (i + 1))), (15, .int (k.1 6 i)), (14, .int (k.1 5 i)), (13, .int (nI (Q5 i))), (12, .int (nI i)), (3, .int (sm (k.1 8) i)), (4, .int (sm (k.1 9) i)), (5, .int (sm (k.1 1) i)), (6, .int (plM (fun i => nI (Q5 i)) i)), (7, .int (lfM (k.1 10 0) (k.1 6) i)), (8, .int (mnM (k.1 10 0) (k.1 6) i)), (9, .int (hiM (k.1 5) i)), (10, .int (k.1 10 0)), (11, .int 1), (0, .ref o)]) hx hb dL_isWhole_104 rfl hl (by decide) rfl (fun ls hl => ?_)
      refine lv_iload_n hx hb dL_isWhole_105 rfl (lv_at hl 6 rfl) ?_
      refine lv_aload_n hx hb dL_isWhole_106 rfl (lv_at hl 15 rfl) ?_
      refine lv_iload hx hb dL_isWhole_107 (lv_at hl 5 rfl) ?_
      refine lv_bipush (v := 6) hx hb dL_isWhole_109 (by decide) ?_
      refine lR (k.1 8 i) (As := [.int (nI i), .int 6]) (rest := [.int (sm (k.1 8) i)]) ⟨hx, hb, hml, hown, hts⟩ (k_player l G o t r h g b ok (nI i) 6) (pl_at k.1 hlt 6 (by decide)) (cwV 2 hts gL_isWhole_X3_player rfl rfl rfl (by decide +kernel) ⟨Nat.le_of_ble_eq_true rfl, Nat.le_of_ble_eq_true rfl⟩) hK hP rfl rfl hl.1 (Nat.le_of_ble_eq_true rfl) dL_isWhole_111 ⟨Nat.le_of_ble_eq_true rfl, Nat.le_of_ble_eq_true rfl⟩ ?_
      refine lv_iadd hx hb dL_isWhole_114 ?_
      refine qtop (y := sm (k.1 8) (i + 1)) rfl ?_
      refine lv_istore_n (lv' := [(3, .int (sm (k.1 8) (i + 1))), (2, .int (sm (k.1 7) (i + 1))), (1, .int (sm (k.1 2) (i + 1))), (15, .int (k.1 6 i)), (14, .int (k.1 5 i)), (13, .int (nI (Q5 i))), (12, .int (nI i)), (4, .int (sm (k.1 9) i)), (5, .int (sm (k.1 1) i)), (6, .int (plM (fun i => nI (Q5 i)) i)), (7, .int (lfM (k.1 10 0) (k.1 6) i)), (8, .int (mnM (k.1 10 0) (k.1 6) i)), (9, .int (hiM (k.1 5) i)), (10, .int (k.1 10 0)), (11, .int 1), (0, .ref o)]) hx hb dL_isWhole_115 rfl hl (by decide) rfl (fun ls hl => ?_)
      refine lv_iload hx hb dL_isWhole_116 (lv_at hl 7 rfl) ?_
      refine lv_aload_n hx hb dL_isWhole_118 rfl (lv_at hl 15 rfl) ?_
      refine lv_iload hx hb dL_isWhole_119 (lv_at hl 6 rfl) ?_
      refine lv_bipush (v := 7) hx hb dL_isWhole_121 (by decide) ?_
      refine lR (k.1 9 i) (As := [.int (nI i), .int 7]) (rest := [.int (sm (k.1 9) i)]) ⟨hx, hb, hml, hown, hts⟩ (k_player l G o t r h g b ok (nI i) 7) (pl_at k.1 hlt 7 (by decide)) (cwV 2 hts gL_isWhole_X3_player rfl rfl rfl (by decide +kernel) ⟨Nat.le_of_ble_eq_true rfl, Nat.le_of_ble_eq_true rfl⟩) hK hP rfl rfl hl.1 (Nat.le_of_ble_eq_true rfl) dL_isWhole_123 ⟨Nat.le_of_ble_eq_true rfl, Nat.le_of_ble_eq_true rfl⟩ ?_
      refine lv_iadd hx hb dL_isWhole_126 ?_
      refine qtop (y := sm (k.1 9) (i + 1)) rfl ?_
      refine lv_istore (lv' := [(4, .int (sm (k.1 9) (i + 1))), (3, .int (sm (k.1 8) (i + 1))), (2, .int (sm (k.1 7) (i + 1))), (1, .int (sm (k.1 2) (i + 1))), (15, .int (k.1 6 i)), (14, .int (k.1 5 i)), (13, .int (nI (Q5 i))), (12, .int (nI i)), (5, .int (sm (k.1 1) i)), (6, .int (plM (fun i => nI (Q5 i)) i)), (7, .int (lfM (k.1 10 0) (k.1 6) i)), (8, .int (mnM (k.1 10 0) (k.1 6) i)), (9, .int (hiM (k.1 5) i)), (10, .int (k.1 10 0)), (11, .int 1), (0, .ref o)]) hx hb dL_isWhole_127 hl (by decide) rfl (fun ls hl => ?_)
      refine lv_iload hx hb dL_isWhole_129 (lv_at hl 8 rfl) ?_
      refine lv_aload_n hx hb dL_isWhole_131 rfl (lv_at hl 15 rfl) ?_
      refine lv_iload hx hb dL_isWhole_132 (lv_at hl 7 rfl) ?_
      refine lR (k.1 1 i) (As := [.int (nI i)]) (rest := [.int (sm (k.1 1) i)]) ⟨hx, hb, hml, hown, hts⟩ (k_prizeOf l G o t r h g b ok (nI i)) (pz_at k.1 hlt) (cwV 1 hts gL_isWhole_X3_prizeOf rfl rfl rfl (by decide +kernel) ⟨Nat.le_of_ble_eq_true rfl, Nat.le_of_ble_eq_true rfl⟩) hK hP rfl rfl hl.1 (Nat.le_of_ble_eq_true rfl) dL_isWhole_134 ⟨Nat.le_of_ble_eq_true rfl, Nat.le_of_ble_eq_true rfl⟩ ?_
      refine lv_iadd hx hb dL_isWhole_137 ?_
      refine qtop (y := sm (k.1 1) (i + 1)) rfl ?_
      refine lv_istore (lv' := [(5, .int (sm (k.1 1) (i + 1))), (4, .int (sm (k.1 9) (i + 1))), (3, .int (sm (k.1 8) (i + 1))), (2, .int (sm (k.1 7) (i + 1))), (1, .int (sm (k.1 2) (i + 1))), (15, .int (k.1 6 i)), (14, .int (k.1 5 i)), (13, .int (nI (Q5 i))), (12, .int (nI i)), (6, .int (plM (fun i => nI (Q5 i)) i)), (7, .int (lfM (k.1 10 0) (k.1 6) i)), (8, .int (mnM (k.1 10 0) (k.1 6) i)), (9, .int (hiM (k.1 5) i)), (10, .int (k.1 10 0)), (11, .int 1), (0, .ref o)]) hx hb dL_isWhole_138 hl (by decide) rfl (fun ls hl => ?_)
      refine lv_iload hx hb dL_isWhole_140 (lv_at hl 9 rfl) ?_
      refine lv_iconst (v := 1) hx hb dL_isWhole_142 (by decide) ?_
      refine lv_iload hx hb dL_isWhole_143 (lv_at hl 7 rfl) ?_
      refine lv_ishl hx hb dL_isWhole_145 ?_
      refine lv_ior hx hb dL_isWhole_146 ?_
      refine qtop (y := plM (fun i => nI (Q5 i)) (i + 1)) rfl ?_
      refine lv_istore (lv' := [(6, .int (plM (fun i => nI (Q5 i)) (i + 1))), (5, .int (sm (k.1 1) (i + 1))), (4, .int (sm (k.1 9) (i + 1))), (3, .int (sm (k.1 8) (i + 1))), (2, .int (sm (k.1 7) (i + 1))), (1, .int (sm (k.1 2) (i + 1))), (15, .int (k.1 6 i)), (14, .int (k.1 5 i)), (13, .int (nI (Q5 i))), (12, .int (nI i)), (7, .int (lfM (k.1 10 0) (k.1 6) i)), (8, .int (mnM (k.1 10 0) (k.1 6) i)), (9, .int (hiM (k.1 5) i)), (10, .int (k.1 10 0)), (11, .int 1), (0, .ref o)]) hx hb dL_isWhole_147 hl (by decide) rfl (fun ls hl => ?_)
      have J171 : ∀ ls : Array Slot, lv_has ls 16 [(6, .int (plM (fun i => nI (Q5 i)) (i + 1))), (5, .int (sm (k.1 1) (i + 1))), (4, .int (sm (k.1 9) (i + 1))), (3, .int (sm (k.1 8) (i + 1))), (2, .int (sm (k.1 7) (i + 1))), (1, .int (sm (k.1 2) (i + 1))), (15, .int (k.1 6 i)), (14, .int (k.1 5 i)), (13, .int (nI (Q5 i))), (12, .int (nI i)), (7, .int (lfM (k.1 10 0) (k.1 6) i)), (8, .int (mnM (k.1 10 0) (k.1 6) i)), (9, .int (hiM (k.1 5) i)), (10, .int (k.1 10 0)), (11, .int 1), (0, .ref o)] → W p l e { frames := 7, cells := 0, slots := 0, locals := 149 } s m ([.ref o] : List Value).toArray below meth c s.heap [] (0) (0) Q (F0 m 171 ls [.int (lfV (k.1 10 0) (k.1 6) i), .int (lfM (k.1 10 0) (k.1 6) i)]) := by
        intro ls hl
        refine lv_ior hx hb dL_isWhole_171 ?_
        refine qtop (y := lfM (k.1 10 0) (k.1 6) (i + 1)) rfl ?_
        refine lv_istore (lv' := [(7, .int (lfM (k.1 10 0) (k.1 6) (i + 1))), (6, .int (plM (fun i => nI (Q5 i)) (i + 1))), (5, .int (sm (k.1 1) (i + 1))), (4, .int (sm (k.1 9) (i + 1))), (3, .int (sm (k.1 8) (i + 1))), (2, .int (sm (k.1 7) (i + 1))), (1, .int (sm (k.1 2) (i + 1))), (15, .int (k.1 6 i)), (14, .int (k.1 5 i)), (13, .int (nI (Q5 i))), (12, .int (nI i)), (8, .int (mnM (k.1 10 0) (k.1 6) i)), (9, .int (hiM (k.1 5) i)), (10, .int (k.1 10 0)), (11, .int 1), (0, .ref o)]) hx hb dL_isWhole_172 hl (by decide) rfl (fun ls hl => ?_)
        have J193 : ∀ ls : Array Slot, lv_has ls 16 [(7, .int (lfM (k.1 10 0) (k.1 6) (i + 1))), (6, .int (plM (fun i => nI (Q5 i)) (i + 1))), (5, .int (sm (k.1 1) (i + 1))), (4, .int (sm (k.1 9) (i + 1))), (3, .int (sm (k.1 8) (i + 1))), (2, .int (sm (k.1 7) (i + 1))), (1, .int (sm (k.1 2) (i + 1))), (15, .int (k.1 6 i)), (14, .int (k.1 5 i)), (13, .int (nI (Q5 i))), (12, .int (nI i)), (8, .int (mnM (k.1 10 0) (k.1 6) i)), (9, .int (hiM (k.1 5) i)), (10, .int (k.1 10 0)), (11, .int 1), (0, .ref o)] → W p l e { frames := 7, cells := 0, slots := 0, locals := 149 } s m ([.ref o] : List Value).toArray below meth c s.heap [] (0) (0) Q (F0 m 193 ls [.int (mnV (k.1 10 0) (k.1 6) i), .int (mnM (k.1 10 0) (k.1 6) i)]) := by
          intro ls hl
          refine lv_iadd hx hb dL_isWhole_193 ?_
          refine qtop (y := mnM (k.1 10 0) (k.1 6) (i + 1)) rfl ?_
          refine lv_istore (lv' := [(8, .int (mnM (k.1 10 0) (k.1 6) (i + 1))), (7, .int (lfM (k.1 10 0) (k.1 6) (i + 1))), (6, .int (plM (fun i => nI (Q5 i)) (i + 1))), (5, .int (sm (k.1 1) (i + 1))), (4, .int (sm (k.1 9) (i + 1))), (3, .int (sm (k.1 8) (i + 1))), (2, .int (sm (k.1 7) (i + 1))), (1, .int (sm (k.1 2) (i + 1))), (15, .int (k.1 6 i)), (14, .int (k.1 5 i)), (13, .int (nI (Q5 i))), (12, .int (nI i)), (9, .int (hiM (k.1 5) i)), (10, .int (k.1 10 0)), (11, .int 1), (0, .ref o)]) hx hb dL_isWhole_194 hl (by decide) rfl (fun ls hl => ?_)
          have J210 : ∀ ls : Array Slot, lv_has ls 16 [(8, .int (mnM (k.1 10 0) (k.1 6) (i + 1))), (7, .int (lfM (k.1 10 0) (k.1 6) (i + 1))), (6, .int (plM (fun i => nI (Q5 i)) (i + 1))), (5, .int (sm (k.1 1) (i + 1))), (4, .int (sm (k.1 9) (i + 1))), (3, .int (sm (k.1 8) (i + 1))), (2, .int (sm (k.1 7) (i + 1))), (1, .int (sm (k.1 2) (i + 1))), (15, .int (k.1 6 i)), (14, .int (k.1 5 i)), (13, .int (nI (Q5 i))), (12, .int (nI i)), (9, .int (hiM (k.1 5) i)), (10, .int (k.1 10 0)), (11, .int 1), (0, .ref o)] → W p l e { frames := 7, cells := 0, slots := 0, locals := 149 } s m ([.ref o] : List Value).toArray below meth c s.heap [] (0) (0) Q (F0 m 210 ls [.int (hiM (k.1 5) (i + 1))]) := by
            intro ls hl
            refine lv_istore (lv' := [(9, .int (hiM (k.1 5) (i + 1))), (8, .int (mnM (k.1 10 0) (k.1 6) (i + 1))), (7, .int (lfM (k.1 10 0) (k.1 6) (i + 1))), (6, .int (plM (fun i => nI (Q5 i)) (i + 1))), (5, .int (sm (k.1 1) (i + 1))), (4, .int (sm (k.1 9) (i + 1))), (3, .int (sm (k.1 8) (i + 1))), (2, .int (sm (k.1 7) (i + 1))), (1, .int (sm (k.1 2) (i + 1))), (15, .int (k.1 6 i)), (14, .int (k.1 5 i)), (13, .int (nI (Q5 i))), (12, .int (nI i)), (10, .int (k.1 10 0)), (11, .int 1), (0, .ref o)]) hx hb dL_isWhole_210 hl (by decide) rfl (fun ls hl => ?_)
            have J293 : ∀ ls : Array Slot, lv_has ls 16 [(9, .int (hiM (k.1 5) (i + 1))), (8, .int (mnM (k.1 10 0) (k.1 6) (i + 1))), (7, .int (lfM (k.1 10 0) (k.1 6) (i + 1))), (6, .int (plM (fun i => nI (Q5 i)) (i + 1))), (5, .int (sm (k.1 1) (i + 1))), (4, .int (sm (k.1 9) (i + 1))), (3, .int (sm (k.1 8) (i + 1))), (2, .int (sm (k.1 7) (i + 1))), (1, .int (sm (k.1 2) (i + 1))), (15, .int (k.1 6 i)), (14, .int (k.1 5 i)), (13, .int (nI (Q5 i))), (12, .int (nI i)), (10, .int (k.1 10 0)), (11, .int 1), (0, .ref o)] → W p l e { frames := 7, cells := 0, slots := 0, locals := 149 } s m ([.ref o] : List Value).toArray below meth c s.heap [] (0) (0) Q (F0 m 293 ls []) := by
              intro ls hl
              refine lv_iload hx hb dL_isWhole_293 (lv_at hl 9 rfl) ?_
              refine lv_ldc (v := (-100006)) hx hb hown wk1 dL_isWhole_295 ?_
              refine lv_icmp_eq (tgt := 316) hx hb dL_isWhole_297 (by decide) (fun c_n => ?_) (fun c_n => ?_)
              · refine lv_iconst (v := 1) hx hb dL_isWhole_316 (by decide) ?_
                refine lv_goto (tgt := 321) hx hb dL_isWhole_317 (by decide) ?_
                refine lv_istore (lv' := [(11, .int 1), (9, .int (hiM (k.1 5) (i + 1))), (8, .int (mnM (k.1 10 0) (k.1 6) (i + 1))), (7, .int (lfM (k.1 10 0) (k.1 6) (i + 1))), (6, .int (plM (fun i => nI (Q5 i)) (i + 1))), (5, .int (sm (k.1 1) (i + 1))), (4, .int (sm (k.1 9) (i + 1))), (3, .int (sm (k.1 8) (i + 1))), (2, .int (sm (k.1 7) (i + 1))), (1, .int (sm (k.1 2) (i + 1))), (15, .int (k.1 6 i)), (14, .int (k.1 5 i)), (13, .int (nI (Q5 i))), (12, .int (nI i)), (10, .int (k.1 10 0)), (0, .ref o)]) hx hb dL_isWhole_321 hl (by decide) rfl (fun ls hl => ?_)
                refine lv_iinc (v := nI (i + 1)) (lv' := [(12, .int (nI (i + 1))), (11, .int 1), (9, .int (hiM (k.1 5) (i + 1))), (8, .int (mnM (k.1 10 0) (k.1 6) (i + 1))), (7, .int (lfM (k.1 10 0) (k.1 6) (i + 1))), (6, .int (plM (fun i => nI (Q5 i)) (i + 1))), (5, .int (sm (k.1 1) (i + 1))), (4, .int (sm (k.1 9) (i + 1))), (3, .int (sm (k.1 8) (i + 1))), (2, .int (sm (k.1 7) (i + 1))), (1, .int (sm (k.1 2) (i + 1))), (15, .int (k.1 6 i)), (14, .int (k.1 5 i)), (13, .int (nI (Q5 i))), (10, .int (k.1 10 0)), (0, .ref o)]) hx hb dL_isWhole_323 hl (k := 13) rfl (nI_1 _) (by decide) rfl (fun ls hl => ?_)
                refine lv_goto (tgt := 47) hx hb dL_isWhole_326 (by decide) ?_
                exact ih (i + 1) (by omega) ls (lv_sub hl [0, 10, 9, 8, 7, 6, 5, 4, 3, 2, 14, 1, 15] rfl)
              · refine lv_iload hx hb dL_isWhole_300 (lv_at hl 13 rfl) ?_
                refine lv_if_eq (tgt := 320) hx hb dL_isWhole_302 (by decide) (fun c_9 => absurd c_9 (fun q => c_n ((hTI.1.idle q).2 i hlt).2)) (fun _ => ?_)
                refine lv_iload hx hb dL_isWhole_305 (lv_at hl 9 rfl) ?_
                refine lv_if_le (tgt := 320) hx hb dL_isWhole_307 (by decide) (fun c_9 => absurd c_9 (hg0 c_n).1) (fun _ => ?_)
                refine lv_iload hx hb dL_isWhole_310 (lv_at hl 9 rfl) ?_
                refine lv_iconst (v := 5) hx hb dL_isWhole_312 (by decide) ?_
                refine lv_icmp_ge (tgt := 320) hx hb dL_isWhole_313 (by decide) (fun c_9 => absurd c_9 (hg0 c_n).2) (fun _ => ?_)
                refine lv_iconst (v := 1) hx hb dL_isWhole_316 (by decide) ?_
                refine lv_goto (tgt := 321) hx hb dL_isWhole_317 (by decide) ?_
                refine lv_istore (lv' := [(11, .int 1), (9, .int (hiM (k.1 5) (i + 1))), (8, .int (mnM (k.1 10 0) (k.1 6) (i + 1))), (7, .int (lfM (k.1 10 0) (k.1 6) (i + 1))), (6, .int (plM (fun i => nI (Q5 i)) (i + 1))), (5, .int (sm (k.1 1) (i + 1))), (4, .int (sm (k.1 9) (i + 1))), (3, .int (sm (k.1 8) (i + 1))), (2, .int (sm (k.1 7) (i + 1))), (1, .int (sm (k.1 2) (i + 1))), (15, .int (k.1 6 i)), (14, .int (k.1 5 i)), (13, .int (nI (Q5 i))), (12, .int (nI i)), (10, .int (k.1 10 0)), (0, .ref o)]) hx hb dL_isWhole_321 hl (by decide) rfl (fun ls hl => ?_)
                refine lv_iinc (v := nI (i + 1)) (lv' := [(12, .int (nI (i + 1))), (11, .int 1), (9, .int (hiM (k.1 5) (i + 1))), (8, .int (mnM (k.1 10 0) (k.1 6) (i + 1))), (7, .int (lfM (k.1 10 0) (k.1 6) (i + 1))), (6, .int (plM (fun i => nI (Q5 i)) (i + 1))), (5, .int (sm (k.1 1) (i + 1))), (4, .int (sm (k.1 9) (i + 1))), (3, .int (sm (k.1 8) (i + 1))), (2, .int (sm (k.1 7) (i + 1))), (1, .int (sm (k.1 2) (i + 1))), (15, .int (k.1 6 i)), (14, .int (k.1 5 i)), (13, .int (nI (Q5 i))), (10, .int (k.1 10 0)), (0, .ref o)]) hx hb dL_isWhole_323 hl (k := 13) rfl (nI_1 _) (by decide) rfl (fun ls hl => ?_)
                refine lv_goto (tgt := 47) hx hb dL_isWhole_326 (by decide) ?_
                exact ih (i + 1) (by omega) ls (lv_sub hl [0, 10, 9, 8, 7, 6, 5, 4, 3, 2, 14, 1, 15] rfl)
            refine lv_iload hx hb dL_isWhole_212 (lv_at hl 11 rfl) ?_
            refine lv_if_lt (tgt := 320) hx hb dL_isWhole_214 (by decide) (fun c_9 => absurd c_9 (nI_pos (by have := (hp.1 i hlt).1; omega))) (fun _ => ?_)
            refine lv_iload hx hb dL_isWhole_217 (lv_at hl 11 rfl) ?_
            refine lv_iconst (v := 5) hx hb dL_isWhole_219 (by decide) ?_
            refine lv_icmp_ge (tgt := 320) hx hb dL_isWhole_220 (by decide) (fun c_9 => absurd c_9 (nI_ge (b := 5) (hp.1 i hlt).1 (by decide))) (fun _ => ?_)
            refine lv_aload_n hx hb dL_isWhole_223 rfl (lv_at hl 15 rfl) ?_
            refine lv_iload hx hb dL_isWhole_224 (lv_at hl 11 rfl) ?_
            refine lR (nI i) (As := [.int (nI (Q5 i))]) (rest := []) ⟨hx, hb, hml, hown, hts⟩ (k_at l G o t r h g b ok (nI (Q5 i))) ((at_P hp (hp.1 i hlt).1).trans (congrArg nI (hp.1 i hlt).2.2)) (cwV 1 hts gL_isWhole_X3_at rfl rfl rfl (by decide +kernel) ⟨Nat.le_of_ble_eq_true rfl, Nat.le_of_ble_eq_true rfl⟩) hK hP rfl rfl hl.1 (Nat.le_of_ble_eq_true rfl) dL_isWhole_226 ⟨Nat.le_of_ble_eq_true rfl, Nat.le_of_ble_eq_true rfl⟩ ?_
            refine lv_iload hx hb dL_isWhole_229 (lv_at hl 12 rfl) ?_
            refine lv_icmp_ne (tgt := 320) hx hb dL_isWhole_231 (by decide) (fun c_9 => absurd rfl c_9) (fun _ => ?_)
            refine lv_aload_n hx hb dL_isWhole_234 rfl (lv_at hl 15 rfl) ?_
            refine lv_iload hx hb dL_isWhole_235 (lv_at hl 12 rfl) ?_
            refine lv_iconst (v := 0) hx hb dL_isWhole_237 (by decide) ?_
            refine lR (k.1 2 i) (As := [.int (nI i), .int 0]) (rest := []) ⟨hx, hb, hml, hown, hts⟩ (k_player l G o t r h g b ok (nI i) 0) (pl_at k.1 hlt 0 (by decide)) (cwV 2 hts gL_isWhole_X3_player rfl rfl rfl (by decide +kernel) ⟨Nat.le_of_ble_eq_true rfl, Nat.le_of_ble_eq_true rfl⟩) hK hP rfl rfl hl.1 (Nat.le_of_ble_eq_true rfl) dL_isWhole_238 ⟨Nat.le_of_ble_eq_true rfl, Nat.le_of_ble_eq_true rfl⟩ ?_
            refine lv_if_lt (tgt := 320) hx hb dL_isWhole_241 (by decide) (fun c_9 => absurd c_9 hc0) (fun _ => ?_)
            refine lv_aload_n hx hb dL_isWhole_244 rfl (lv_at hl 15 rfl) ?_
            refine lv_iload hx hb dL_isWhole_245 (lv_at hl 12 rfl) ?_
            refine lv_iconst (v := 0) hx hb dL_isWhole_247 (by decide) ?_
            refine lR (k.1 2 i) (As := [.int (nI i), .int 0]) (rest := []) ⟨hx, hb, hml, hown, hts⟩ (k_player l G o t r h g b ok (nI i) 0) (pl_at k.1 hlt 0 (by decide)) (cwV 2 hts gL_isWhole_X3_player rfl rfl rfl (by decide +kernel) ⟨Nat.le_of_ble_eq_true rfl, Nat.le_of_ble_eq_true rfl⟩) hK hP rfl rfl hl.1 (Nat.le_of_ble_eq_true rfl) dL_isWhole_248 ⟨Nat.le_of_ble_eq_true rfl, Nat.le_of_ble_eq_true rfl⟩ ?_
            refine lv_sipush (v := 9999) hx hb dL_isWhole_251 (by decide) ?_
            refine lv_icmp_gt (tgt := 320) hx hb dL_isWhole_254 (by decide) (fun c_9 => absurd c_9 hc9) (fun _ => ?_)
            refine lv_iload hx hb dL_isWhole_257 (lv_at hl 10 rfl) ?_
            refine lv_ldc (v := (-100006)) hx hb hown wk1 dL_isWhole_259 ?_
            refine lv_icmp_eq (tgt := 293) hx hb dL_isWhole_261 (by decide) (fun c_b => ?_) (fun c_b => ?_)
            · exact J293 ls (lv_sub hl [0, 1, 2, 3, 4, 5, 6, 7, 8, 9, 10, 11, 12, 13, 14, 15] rfl)
            · refine lv_iload hx hb dL_isWhole_264 (lv_at hl 13 rfl) ?_
              refine lv_if_eq (tgt := 320) hx hb dL_isWhole_266 (by decide) (fun c_9 => absurd c_9 (fun q => c_b ((hTI.1.idle q).2 i hlt).1)) (fun _ => ?_)
              refine lv_iload hx hb dL_isWhole_269 (lv_at hl 10 rfl) ?_
              refine lv_if_lt (tgt := 320) hx hb dL_isWhole_271 (by decide) (fun c_9 => absurd c_9 (hb0 c_b)) (fun _ => ?_)
              refine lv_iload hx hb dL_isWhole_274 (lv_at hl 9 rfl) ?_
              refine lv_ldc (v := (-100006)) hx hb hown wk1 dL_isWhole_276 ?_
              refine lv_icmp_ne (tgt := 293) hx hb dL_isWhole_278 (by decide) (fun c_g => ?_) (fun c_g => ?_)
              · exact J293 ls (lv_sub hl [0, 1, 2, 3, 4, 5, 6, 7, 8, 9, 10, 11, 12, 13, 14, 15] rfl)
              · refine lv_iload hx hb dL_isWhole_281 (lv_at hl 10 rfl) ?_
                refine lv_aload_n hx hb dL_isWhole_283 rfl (lv_at hl 15 rfl) ?_
                refine lv_iload hx hb dL_isWhole_284 (lv_at hl 12 rfl) ?_
                refine lv_iconst (v := 0) hx hb dL_isWhole_286 (by decide) ?_
                refine lR (k.1 2 i) (As := [.int (nI i), .int 0]) (rest := [.int (k.1 5 i)]) ⟨hx, hb, hml, hown, hts⟩ (k_player l G o t r h g b ok (nI i) 0) (pl_at k.1 hlt 0 (by decide)) (cwV 2 hts gL_isWhole_X3_player rfl rfl rfl (by decide +kernel) ⟨Nat.le_of_ble_eq_true rfl, Nat.le_of_ble_eq_true rfl⟩) hK hP rfl rfl hl.1 (Nat.le_of_ble_eq_true rfl) dL_isWhole_287 ⟨Nat.le_of_ble_eq_true rfl, Nat.le_of_ble_eq_true rfl⟩ ?_
                refine lv_icmp_gt (tgt := 320) hx hb dL_isWhole_290 (by decide) (fun c_9 => absurd c_9 (hcv c_g c_b)) (fun _ => ?_)
                exact J293 ls (lv_sub hl [0, 1, 2, 3, 4, 5, 6, 7, 8, 9, 10, 11, 12, 13, 14, 15] rfl)
          refine lv_iload hx hb dL_isWhole_196 (lv_at hl 9 rfl) ?_
          refine lv_iload hx hb dL_isWhole_198 (lv_at hl 12 rfl) ?_
          refine lv_icmp_le (tgt := 208) hx hb dL_isWhole_200 (by decide) (fun c_h => ?_) (fun c_h => ?_)
          · refine lv_iload hx hb dL_isWhole_208 (lv_at hl 12 rfl) ?_
            refine qtop (y := hiM (k.1 5) (i + 1)) (show hiM (k.1 5) i = hiM (k.1 5) (i + 1) from by rw [hiM, if_pos c_h]) ?_
            exact J210 ls (lv_sub hl [0, 1, 2, 3, 4, 5, 6, 7, 8, 9, 10, 11, 12, 13, 14, 15] rfl)
          · refine lv_iload hx hb dL_isWhole_203 (lv_at hl 9 rfl) ?_
            refine lv_goto (tgt := 210) hx hb dL_isWhole_205 (by decide) ?_
            refine qtop (y := hiM (k.1 5) (i + 1)) (show k.1 5 i = hiM (k.1 5) (i + 1) from by rw [hiM, if_neg c_h]) ?_
            exact J210 ls (lv_sub hl [0, 1, 2, 3, 4, 5, 6, 7, 8, 9, 10, 11, 12, 13, 14, 15] rfl)
        refine lv_iload hx hb dL_isWhole_174 (lv_at hl 11 rfl) ?_
        refine lv_iload hx hb dL_isWhole_176 (lv_at hl 13 rfl) ?_
        refine lv_if_eq (tgt := 192) hx hb dL_isWhole_178 (by decide) (fun c_u => ?_) (fun c_u => ?_)
        · refine lv_iconst (v := 0) hx hb dL_isWhole_192 (by decide) ?_
          refine qtop (y := mnV (k.1 10 0) (k.1 6) i) (show (0 : Int32) = mnV (k.1 10 0) (k.1 6) i from by unfold mnV; rw [if_pos c_u]) ?_
          exact J193 ls (lv_sub hl [0, 1, 2, 3, 4, 5, 6, 7, 8, 9, 10, 11, 12, 13, 14, 15] rfl)
        · refine lv_iload hx hb dL_isWhole_181 (lv_at hl 7 rfl) ?_
          refine lv_ldc (v := (-100006)) hx hb hown wk1 dL_isWhole_183 ?_
          refine lv_icmp_ne (tgt := 192) hx hb dL_isWhole_185 (by decide) (fun c_g => ?_) (fun c_g => ?_)
          · refine lv_iconst (v := 0) hx hb dL_isWhole_192 (by decide) ?_
            refine qtop (y := mnV (k.1 10 0) (k.1 6) i) (show (0 : Int32) = mnV (k.1 10 0) (k.1 6) i from by unfold mnV; rw [if_neg c_u, if_neg c_g]) ?_
            exact J193 ls (lv_sub hl [0, 1, 2, 3, 4, 5, 6, 7, 8, 9, 10, 11, 12, 13, 14, 15] rfl)
          · refine lv_iconst (v := 1) hx hb dL_isWhole_188 (by decide) ?_
            refine lv_goto (tgt := 193) hx hb dL_isWhole_189 (by decide) ?_
            refine qtop (y := mnV (k.1 10 0) (k.1 6) i) (show (1 : Int32) = mnV (k.1 10 0) (k.1 6) i from by unfold mnV; rw [if_neg c_u, if_pos c_g]) ?_
            exact J193 ls (lv_sub hl [0, 1, 2, 3, 4, 5, 6, 7, 8, 9, 10, 11, 12, 13, 14, 15] rfl)
      refine lv_iload hx hb dL_isWhole_149 (lv_at hl 10 rfl) ?_
      refine lv_iload hx hb dL_isWhole_151 (lv_at hl 13 rfl) ?_
      refine lv_if_eq (tgt := 170) hx hb dL_isWhole_153 (by decide) (fun c_u => ?_) (fun c_u => ?_)
      · refine lv_iconst (v := 0) hx hb dL_isWhole_170 (by decide) ?_
        refine qtop (y := lfV (k.1 10 0) (k.1 6) i) (show (0 : Int32) = lfV (k.1 10 0) (k.1 6) i from by unfold lfV; rw [if_pos c_u]) ?_
        exact J171 ls (lv_sub hl [0, 1, 2, 3, 4, 5, 6, 7, 8, 9, 10, 11, 12, 13, 14, 15] rfl)
      · refine lv_iload hx hb dL_isWhole_156 (lv_at hl 6 rfl) ?_
        refine lv_ldc (v := (-100006)) hx hb hown wk1 dL_isWhole_158 ?_
        refine lv_icmp_ne (tgt := 170) hx hb dL_isWhole_160 (by decide) (fun c_g => ?_) (fun c_g => ?_)
        · refine lv_iconst (v := 0) hx hb dL_isWhole_170 (by decide) ?_
          refine qtop (y := lfV (k.1 10 0) (k.1 6) i) (show (0 : Int32) = lfV (k.1 10 0) (k.1 6) i from by unfold lfV; rw [if_neg c_u, if_neg c_g]) ?_
          exact J171 ls (lv_sub hl [0, 1, 2, 3, 4, 5, 6, 7, 8, 9, 10, 11, 12, 13, 14, 15] rfl)
        · refine lv_iconst (v := 1) hx hb dL_isWhole_163 (by decide) ?_
          refine lv_iload hx hb dL_isWhole_164 (lv_at hl 9 rfl) ?_
          refine lv_ishl hx hb dL_isWhole_166 ?_
          refine lv_goto (tgt := 171) hx hb dL_isWhole_167 (by decide) ?_
          refine qtop (y := lfV (k.1 10 0) (k.1 6) i) (show (1 : Int32) <<< (nI i &&& 31) = lfV (k.1 10 0) (k.1 6) i from by unfold lfV; rw [if_neg c_u, if_pos c_g]) ?_
          exact J171 ls (lv_sub hl [0, 1, 2, 3, 4, 5, 6, 7, 8, 9, 10, 11, 12, 13, 14, 15] rfl)
  have J39 : ∀ ls : Array Slot, lv_has ls 16 [(9, .int (-100006)), (8, .int 0), (7, .int 0), (6, .int 0), (5, .int 0), (4, .int 0), (3, .int 0), (2, .int 0), (1, .int 0), (0, .ref o)] → W p l e { frames := 7, cells := 0, slots := 0, locals := 149 } s m ([.ref o] : List Value).toArray below meth c s.heap [] (0) (0) Q (F0 m 39 ls [.int (k.1 10 0)]) := by
    intro ls hl
    refine lv_istore (lv' := [(10, .int (k.1 10 0)), (9, .int (-100006)), (8, .int 0), (7, .int 0), (6, .int 0), (5, .int 0), (4, .int 0), (3, .int 0), (2, .int 0), (1, .int 0), (0, .ref o)]) hx hb dL_isWhole_39 hl (by decide) rfl (fun ls hl => ?_)
    refine lv_iconst (v := 1) hx hb dL_isWhole_41 (by decide) ?_
    refine lv_istore (lv' := [(11, .int 1), (10, .int (k.1 10 0)), (9, .int (-100006)), (8, .int 0), (7, .int 0), (6, .int 0), (5, .int 0), (4, .int 0), (3, .int 0), (2, .int 0), (1, .int 0), (0, .ref o)]) hx hb dL_isWhole_42 hl (by decide) rfl (fun ls hl => ?_)
    refine lv_iconst (v := 0) hx hb dL_isWhole_44 (by decide) ?_
    refine lv_istore (lv' := [(12, .int 0), (11, .int 1), (10, .int (k.1 10 0)), (9, .int (-100006)), (8, .int 0), (7, .int 0), (6, .int 0), (5, .int 0), (4, .int 0), (3, .int 0), (2, .int 0), (1, .int 0), (0, .ref o)]) hx hb dL_isWhole_45 hl (by decide) rfl (fun ls hl => ?_)
    exact L47 5 0 rfl ls (lv_sub hl [0, 11, 10, 9, 8, 7, 6, 5, 4, 3, 2, 1, 12] rfl)
  refine lv_iconst (v := 0) hx hb dL_isWhole_0 (by decide) ?_
  refine lv_istore_n (lv' := [(1, .int 0), (0, .ref o)]) hx hb dL_isWhole_1 rfl hl (by decide) rfl (fun ls hl => ?_)
  refine lv_iconst (v := 0) hx hb dL_isWhole_2 (by decide) ?_
  refine lv_istore_n (lv' := [(2, .int 0), (1, .int 0), (0, .ref o)]) hx hb dL_isWhole_3 rfl hl (by decide) rfl (fun ls hl => ?_)
  refine lv_iconst (v := 0) hx hb dL_isWhole_4 (by decide) ?_
  refine lv_istore_n (lv' := [(3, .int 0), (2, .int 0), (1, .int 0), (0, .ref o)]) hx hb dL_isWhole_5 rfl hl (by decide) rfl (fun ls hl => ?_)
  refine lv_iconst (v := 0) hx hb dL_isWhole_6 (by decide) ?_
  refine lv_istore (lv' := [(4, .int 0), (3, .int 0), (2, .int 0), (1, .int 0), (0, .ref o)]) hx hb dL_isWhole_7 hl (by decide) rfl (fun ls hl => ?_)
  refine lv_iconst (v := 0) hx hb dL_isWhole_9 (by decide) ?_
  refine lv_istore (lv' := [(5, .int 0), (4, .int 0), (3, .int 0), (2, .int 0), (1, .int 0), (0, .ref o)]) hx hb dL_isWhole_10 hl (by decide) rfl (fun ls hl => ?_)
  refine lv_iconst (v := 0) hx hb dL_isWhole_12 (by decide) ?_
  refine lv_istore (lv' := [(6, .int 0), (5, .int 0), (4, .int 0), (3, .int 0), (2, .int 0), (1, .int 0), (0, .ref o)]) hx hb dL_isWhole_13 hl (by decide) rfl (fun ls hl => ?_)
  refine lv_iconst (v := 0) hx hb dL_isWhole_15 (by decide) ?_
  refine lv_istore (lv' := [(7, .int 0), (6, .int 0), (5, .int 0), (4, .int 0), (3, .int 0), (2, .int 0), (1, .int 0), (0, .ref o)]) hx hb dL_isWhole_16 hl (by decide) rfl (fun ls hl => ?_)
  refine lv_iconst (v := 0) hx hb dL_isWhole_18 (by decide) ?_
  refine lv_istore (lv' := [(8, .int 0), (7, .int 0), (6, .int 0), (5, .int 0), (4, .int 0), (3, .int 0), (2, .int 0), (1, .int 0), (0, .ref o)]) hx hb dL_isWhole_19 hl (by decide) rfl (fun ls hl => ?_)
  refine lv_ldc (v := (-100006)) hx hb hown wk1 dL_isWhole_21 ?_
  refine lv_istore (lv' := [(9, .int (-100006)), (8, .int 0), (7, .int 0), (6, .int 0), (5, .int 0), (4, .int 0), (3, .int 0), (2, .int 0), (1, .int 0), (0, .ref o)]) hx hb dL_isWhole_23 hl (by decide) rfl (fun ls hl => ?_)
  refine lv_aload_n hx hb dL_isWhole_25 rfl (lv_at hl 9 rfl) ?_
  refine lv_iconst (v := 4) hx hb dL_isWhole_26 (by decide) ?_
  refine lR (k.1 10 0) (As := [.int 4]) (rest := []) ⟨hx, hb, hml, hown, hts⟩ (k_count l G o t r h g b ok 4) (cn4 ok.1 _ _) (cwV 1 hts gL_isWhole_X3_count rfl rfl rfl (by decide +kernel) ⟨Nat.le_of_ble_eq_true rfl, Nat.le_of_ble_eq_true rfl⟩) hK hP rfl rfl hl.1 (Nat.le_of_ble_eq_true rfl) dL_isWhole_27 ⟨Nat.le_of_ble_eq_true rfl, Nat.le_of_ble_eq_true rfl⟩ ?_
  refine lv_iconst (v := 1) hx hb dL_isWhole_30 (by decide) ?_
  refine lv_icmp_ne (tgt := 38) hx hb dL_isWhole_31 (by decide) (fun c_1 => ?_) (fun c_1 => ?_)
  · refine lv_iconst (v := 0) hx hb dL_isWhole_38 (by decide) ?_
    refine qtop (y := k.1 10 0) ((ok.1.resolve_right c_1).symm) ?_
    exact J39 ls (lv_sub hl [0, 1, 2, 3, 4, 5, 6, 7, 8, 9] rfl)
  · refine lv_iconst (v := 1) hx hb dL_isWhole_34 (by decide) ?_
    refine lv_goto (tgt := 39) hx hb dL_isWhole_35 (by decide) ?_
    refine qtop (y := k.1 10 0) c_1.symm ?_
    exact J39 ls (lv_sub hl [0, 1, 2, 3, 4, 5, 6, 7, 8, 9] rfl)
