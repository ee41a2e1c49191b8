/-! THE LAW: refusesAny and refuses (laid by wip/p28/gen/l3.py) -/
theorem rng2 {v N a : Int32} (h : v < 0 ∨ ¬ v ≤ N) : (if v < 0 then (-100002) else if v ≤ N then a else (-100002)) = (-100002 : Int32) := by
  by_cases h0 : v < 0
  · rw [if_pos h0]
  · rw [if_neg h0, if_neg (h.resolve_left h0)]
theorem coC_bad {T : Tb} {v : Int32} (h : v < 0 ∨ ¬ v ≤ 9999) : coC T 0 v = (-100002) := by
  unfold coC
  rw [if_neg (by decide +kernel)]
  exact rng2 h
theorem coC_no {T : Tb} {x v : Int32} (h : isPb x = 0) : coC T x v = (-100001) := by unfold coC; rw [if_pos h]
theorem liC_bad {v : Int32} (h : v < 0 ∨ ¬ v ≤ 99) : liC 0 v = (-100002) := by
  unfold liC
  rw [if_neg (by decide +kernel)]
  exact rng2 h
theorem liC_no {x v : Int32} (h : isPb x = 0) : liC x v = (-100001) := by unfold liC; rw [if_pos h]
theorem bdC_bad {T : Tb} {v : Int32} (h : v < 0 ∨ ¬ v ≤ 9999) : bdC T v = (-100002) := by
  unfold bdC
  exact rng2 h
theorem bdC_np {T : Tb} {v : Nat} (hv : v ≤ 9999) (hm : mayB T (nI v) = 0) : bdC T (nI v) = (-100005) := by
  unfold bdC
  rw [if_neg (nI_pos (by omega)), if_pos (show nI v ≤ 9999 from nI_le (b := 9999) hv (by decide)), if_pos hm]
theorem pl_bad {T : Tb} {w : Int32} (hw : w.toInt < 0 ∨ 7 < w.toInt) : plC T 0 w = (-100002) := by
  unfold plC
  rw [if_neg (by decide +kernel), if_pos hw]
theorem at_no {T : Tb} {x : Int32} (h : isPb x = 0) : (if x < 0 then (-100001) else if x < 5 then pAt (T 4) x else (-100001)) = (-100001 : Int32) := by
  unfold isPb at h
  by_cases h0 : x < 0
  · rw [if_pos h0]
  · rw [if_neg h0] at h ⊢
    by_cases h5 : 5 ≤ x
    · rw [if_neg (Int32.not_lt.mpr h5)]
    · rw [if_neg h5] at h; exact absurd h lz_o
theorem cn_bad (T : Tb) (ln pl : Nat) : cnC T ln pl (-1) = (-100002) ∧ cnC T ln pl 16 = (-100002) := by
  unfold cnC
  constructor
  · rw [if_pos (by decide), if_pos (by decide +kernel)]
  · rw [if_neg (by decide), if_pos (by decide), if_pos (by decide +kernel)]
theorem erI_no {x w : Int32} (h : isPb x = 0) : erI x w = (-100001) := by unfold erI; rw [if_pos h]
theorem erT_no {x w : Int32} (h : isPb x = 0) : erT x w = (-100001) := by unfold erT; rw [if_pos h]
theorem erM_no {x w : Int32} (h : isPb x = 0) : erM x w = (-100001) := by unfold erM; rw [if_pos h]
theorem rsC_bad (ad : Ad) : rsC ad (-1) = (-100002) ∧ rsC ad 2 = (-100002) := by
  unfold rsC
  constructor
  · rw [if_pos (by decide)]
  · rw [if_neg (by decide), if_neg (by decide)]
/-- what is used of a state all along -/
def RF (k : CS) (B : Nat) : Prop := OKC k ∧ TI k.1 B ∧ B ≤ 9900 ∧ k.2.2.2.2.2.2.2 = 0 ∧ Old k.2.2.2.2.1 k.2.2.2.2.2.1 ∧ k.2.2.1 < 99000
theorem pl0_back {k : CS} (h : k.2.2.2.2.2.2.2 = 0) : ∀ (r₀ : Int32) (c₀ : CS), (r₀ = nI k.2.2.2.2.2.2.2 ∧ ∃ u : Nat → Nat, c₀ = (k.1, k.2.1, k.2.2.1, k.2.2.2.1, k.2.2.2.2.1, k.2.2.2.2.2.1, k.2.2.2.2.2.2.1, 0)) → r₀ = 0 ∧ c₀ = k := by
  intro r₀ c₀ hq
  obtain ⟨e1, u, e2⟩ := hq
  exact ⟨by rw [e1, h]; rfl, e2.trans (congrArg (fun q => (k.1, k.2.1, k.2.2.1, k.2.2.2.1, k.2.2.2.2.1, k.2.2.2.2.2.1, k.2.2.2.2.2.2.1, q)) h.symm)⟩
set_option maxHeartbeats 4000000 in
set_option maxRecDepth 100000 in
theorem c_L_refusesAny_even (l : Launch) (G : qG) (o : Nat) (t r h : Nat → Nat) (g : Nat) (b : Nat → Nat) {k : CS} {B : Nat} (hF : RF k B) {n : Nat} (hn : n < 2 ^ 31) (hev : n % 2 = 0) (sz : Nat) : Met l yL_refusesAny wsL_refusesAny { frames := 8, cells := 198, slots := 1116, locals := 176 } (PWz G sz [.ref o, .int (nI n)] (ows G o t r h g b k)) (QI (S := CS) G sz (ows G o t r h g b k) (fun r₀ c₀ => r₀ = 1 ∧ c₀ = k) (fun c₀ => ows G o t r h g b c₀)) 198 1116 (va_A (ows G o t r h g b k) sz) := by
  refine MZz.of (by decide) rfl (Nat.le_of_ble_eq_true rfl) ?_
  intro p e s m below meth c hx hb hml hown hts hK hsz hP A hAe hA hD hS hz Q hret ls hl
  have hown : s.vm.findClass RL = some m.cls := hown
  have hl : lv_has ls 7 [(0, .ref o), (1, .int (nI n))] := hl
  obtain ⟨ok, hTI, hB9, hpl0, hold, -⟩ := hF
  obtain ⟨q, hq, hq9⟩ : ∃ q : Nat, nI n - nI n / 99 * 99 = nI q ∧ q < 99 := ⟨n % 99, pk_rem (a := n) (d := 99) hn (by decide) (by decide), Nat.mod_lt _ (by decide)⟩
  have hpar : nI n - nI n / 2 * 2 = 0 := by rw [show nI n - nI n / 2 * 2 = nI (n % 2) from pk_rem (a := n) (d := 2) hn (by decide) (by decide), hev]; rfl
  have hneg : (-1 : Int32) - nI q < 0 := by
    rw [Int32.lt_iff_toInt_lt, Int32.toInt_sub, nI_toInt (by omega)]
    have e1 : (-1 : Int32).toInt = -1 := by decide
    have e0 : (0 : Int32).toInt = 0 := by decide
    rw [e1, e0, Int.bmod_eq_of_le (by omega) (by omega)]
    omega
  have hno : isPb ((-1) - nI q) = 0 := by unfold isPb; rw [if_pos hneg]
  have hfar : (-1) - nI q < 0 ∨ ¬ (-1) - nI q ≤ 9999 := Or.inl hneg
  have hsome : (-1) - nI q < 0 ∨ ¬ (-1) - nI q ≤ 99 := Or.inl hneg
  have wk1 := hts (Cond.constant RL 40 (-100002)) (List.mem_of_getElem? (i := 1) (by first | rfl | decide +kernel))
  have wk2 := hts (Cond.constant RL 44 (-100001)) (List.mem_of_getElem? (i := 2) (by first | rfl | decide +kernel))
  have wk3 := hts (Cond.constant RL 36 (-100005)) (List.mem_of_getElem? (i := 3) (by first | rfl | decide +kernel))
  have wk4 := hts (Cond.constant RL 87 (-100003)) (List.mem_of_getElem? (i := 4) (by first | rfl | decide +kernel))
  have J383 : ∀ (H : Heap) (locs : List Loc), va_P G.1 vwCl (ows G o t r h g b k) H → va_D A (ows G o t r h g b k) → va_S A s.heap H locs → ∀ ls : Array Slot, lv_has ls 7 [(4, .int ((-1) - nI q)), (3, .int ((-1) - nI q)), (2, .int ((-1) - nI q)), (1, .int (nI n)), (0, .ref o)] → W p l e { frames := 8, cells := 198, slots := 1116, locals := 176 } s m ([.ref o, .int (nI n)] : List Value).toArray below meth c H locs (165) (930) Q (F0 m 383 ls []) := by
    intro H locs hP hD hS ls hl
    refine lv_iconst (v := 1) hx hb dL_refusesAny_383 (by decide) ?_
    refine lv_goto (tgt := 388) hx hb dL_refusesAny_384 (by decide) ?_
    refine lv_istore (lv' := [(6, .int 1), (4, .int ((-1) - nI q)), (3, .int ((-1) - nI q)), (2, .int ((-1) - nI q)), (1, .int (nI n)), (0, .ref o)]) hx hb dL_refusesAny_388 hl (by decide) rfl (fun ls hl => ?_)
    refine lv_iload hx hb dL_refusesAny_390 (lv_at hl 0 rfl) ?_
    refine lv_if_eq (tgt := 634) hx hb dL_refusesAny_392 (by decide) (fun c_9 => absurd c_9 (by decide)) (fun _ => ?_)
    refine lv_aload_n hx hb dL_refusesAny_395 rfl (lv_at hl 5 rfl) ?_
    refine lv_iload_n hx hb dL_refusesAny_396 rfl (lv_at hl 3 rfl) ?_
    refine lv_bipush (v := 99) hx hb dL_refusesAny_397 (by decide) ?_
    refine lR ((-100001)) (As := [.int ((-1) - nI q), .int 99]) (rest := []) ⟨hx, hb, hml, hown, hts⟩ (k_player l G o t r h g b ok ((-1) - nI q) 99) (show plC k.1 ((-1) - nI q) 99 = (-100001) from if_pos hno) (cwV 2 hts gL_refusesAny_X3_player rfl rfl rfl (by decide +kernel) ⟨Nat.le_of_ble_eq_true rfl, Nat.le_of_ble_eq_true rfl⟩) hK hP rfl rfl hl.1 (Nat.le_of_ble_eq_true rfl) dL_refusesAny_399 ⟨Nat.le_of_ble_eq_true rfl, Nat.le_of_ble_eq_true rfl⟩ ?_
    refine lv_ldc (v := (-100001)) hx hb hown wk2 dL_refusesAny_402 ?_
    refine lv_icmp_ne (tgt := 634) hx hb dL_refusesAny_404 (by decide) (fun c_9 => absurd (by decide) c_9) (fun _ => ?_)
    refine lv_aload_n hx hb dL_refusesAny_407 rfl (lv_at hl 5 rfl) ?_
    refine lv_iconst (v := 0) hx hb dL_refusesAny_408 (by decide) ?_
    refine lv_iload_n hx hb dL_refusesAny_409 rfl (lv_at hl 4 rfl) ?_
    refine lv_iconst (v := 2) hx hb dL_refusesAny_410 (by decide) ?_
    refine lv_irem hx hb dL_refusesAny_411 (by decide) ?_
    refine qtop (y := 0) hpar ?_
    refine lv_if_ne (tgt := 419) hx hb dL_refusesAny_412 (by decide) (fun c_9 => absurd (by decide) c_9) (fun _ => ?_)
    refine lv_iconst (v := (-1)) hx hb dL_refusesAny_415 (by decide) ?_
    refine lv_goto (tgt := 421) hx hb dL_refusesAny_416 (by decide) ?_
    refine lR ((-100002)) (As := [.int 0, .int (-1)]) (rest := []) ⟨hx, hb, hml, hown, hts⟩ (k_player l G o t r h g b ok 0 (-1)) (pl_bad (by decide +kernel)) (cwV 2 hts gL_refusesAny_X3_player rfl rfl rfl (by decide +kernel) ⟨Nat.le_of_ble_eq_true rfl, Nat.le_of_ble_eq_true rfl⟩) hK hP rfl rfl hl.1 (Nat.le_of_ble_eq_true rfl) dL_refusesAny_421 ⟨Nat.le_of_ble_eq_true rfl, Nat.le_of_ble_eq_true rfl⟩ ?_
    refine lv_ldc (v := (-100002)) hx hb hown wk1 dL_refusesAny_424 ?_
    refine lv_icmp_ne (tgt := 634) hx hb dL_refusesAny_426 (by decide) (fun c_9 => absurd (by decide) c_9) (fun _ => ?_)
    refine lv_aload_n hx hb dL_refusesAny_429 rfl (lv_at hl 5 rfl) ?_
    refine lv_iload_n hx hb dL_refusesAny_430 rfl (lv_at hl 3 rfl) ?_
    refine lR ((-100001)) (As := [.int ((-1) - nI q)]) (rest := []) ⟨hx, hb, hml, hown, hts⟩ (k_at l G o t r h g b ok ((-1) - nI q)) (at_no hno) (cwV 1 hts gL_refusesAny_X3_at rfl rfl rfl (by decide +kernel) ⟨Nat.le_of_ble_eq_true rfl, Nat.le_of_ble_eq_true rfl⟩) hK hP rfl rfl hl.1 (Nat.le_of_ble_eq_true rfl) dL_refusesAny_431 ⟨Nat.le_of_ble_eq_true rfl, Nat.le_of_ble_eq_true rfl⟩ ?_
    refine lv_ldc (v := (-100001)) hx hb hown wk2 dL_refusesAny_434 ?_
    refine lv_icmp_ne (tgt := 634) hx hb dL_refusesAny_436 (by decide) (fun c_9 => absurd (by decide) c_9) (fun _ => ?_)
    refine lv_aload_n hx hb dL_refusesAny_439 rfl (lv_at hl 5 rfl) ?_
    refine lv_iload_n hx hb dL_refusesAny_440 rfl (lv_at hl 3 rfl) ?_
    refine lR ((-100001)) (As := [.int ((-1) - nI q)]) (rest := []) ⟨hx, hb, hml, hown, hts⟩ (k_prizeOf l G o t r h g b ok ((-1) - nI q)) (if_pos hno) (cwV 1 hts gL_refusesAny_X3_prizeOf rfl rfl rfl (by decide +kernel) ⟨Nat.le_of_ble_eq_true rfl, Nat.le_of_ble_eq_true rfl⟩) hK hP rfl rfl hl.1 (Nat.le_of_ble_eq_true rfl) dL_refusesAny_441 ⟨Nat.le_of_ble_eq_true rfl, Nat.le_of_ble_eq_true rfl⟩ ?_
    refine lv_ldc (v := (-100001)) hx hb hown wk2 dL_refusesAny_444 ?_
    refine lv_icmp_ne (tgt := 634) hx hb dL_refusesAny_446 (by decide) (fun c_9 => absurd (by decide) c_9) (fun _ => ?_)
    refine lv_aload_n hx hb dL_refusesAny_449 rfl (lv_at hl 5 rfl) ?_
    refine lv_iload_n hx hb dL_refusesAny_450 rfl (lv_at hl 4 rfl) ?_
    refine lv_iconst (v := 2) hx hb dL_refusesAny_451 (by decide) ?_
    refine lv_irem hx hb dL_refusesAny_452 (by decide) ?_
    refine qtop (y := 0) hpar ?_
    refine lv_if_ne (tgt := 460) hx hb dL_refusesAny_453 (by decide) (fun c_9 => absurd (by decide) c_9) (fun _ => ?_)
    refine lv_iconst (v := (-1)) hx hb dL_refusesAny_456 (by decide) ?_
    refine lv_goto (tgt := 462) hx hb dL_refusesAny_457 (by decide) ?_
    refine lR ((-100002)) (As := [.int (-1)]) (rest := []) ⟨hx, hb, hml, hown, hts⟩ (k_count l G o t r h g b ok (-1)) (cn_bad _ _ _).1 (cwV 1 hts gL_refusesAny_X3_count rfl rfl rfl (by decide +kernel) ⟨Nat.le_of_ble_eq_true rfl, Nat.le_of_ble_eq_true rfl⟩) hK hP rfl rfl hl.1 (Nat.le_of_ble_eq_true rfl) dL_refusesAny_462 ⟨Nat.le_of_ble_eq_true rfl, Nat.le_of_ble_eq_true rfl⟩ ?_
    refine lv_ldc (v := (-100002)) hx hb hown wk1 dL_refusesAny_465 ?_
    refine lv_icmp_ne (tgt := 634) hx hb dL_refusesAny_467 (by decide) (fun c_9 => absurd (by decide) c_9) (fun _ => ?_)
    refine lv_aload_n hx hb dL_refusesAny_470 rfl (lv_at hl 5 rfl) ?_
    refine lv_iload_n hx hb dL_refusesAny_471 rfl (lv_at hl 3 rfl) ?_
    refine lv_bipush (v := 9) hx hb dL_refusesAny_472 (by decide) ?_
    refine lWr ((-100001)) (As := [.int ((-1) - nI q), .int 9]) (rest := []) ⟨hx, hb, hml, hown, hts⟩ (k_ifFinished l G o t r h g b ok ((-1) - nI q) 9 _) (refd (erI_no hno) lz_1) (cwV 2 hts gL_refusesAny_X3_ifFinished rfl rfl rfl (by decide +kernel) ⟨Nat.le_of_ble_eq_true rfl, Nat.le_of_ble_eq_true rfl⟩) hK hP hD hS hA rfl rfl hl.1 (Nat.le_of_ble_eq_true rfl) dL_refusesAny_474 ⟨Nat.le_of_ble_eq_true rfl, Nat.le_of_ble_eq_true rfl⟩ (fun H locs hP hD hS => ?_)
    refine lv_ldc (v := (-100001)) hx hb hown wk2 dL_refusesAny_477 ?_
    refine lv_icmp_ne (tgt := 634) hx hb dL_refusesAny_479 (by decide) (fun c_9 => absurd (by decide) c_9) (fun _ => ?_)
    refine lv_aload_n hx hb dL_refusesAny_482 rfl (lv_at hl 5 rfl) ?_
    refine lv_iconst (v := 0) hx hb dL_refusesAny_483 (by decide) ?_
    refine lv_iload_n hx hb dL_refusesAny_484 rfl (lv_at hl 4 rfl) ?_
    refine lv_iconst (v := 2) hx hb dL_refusesAny_485 (by decide) ?_
    refine lv_irem hx hb dL_refusesAny_486 (by decide) ?_
    refine qtop (y := 0) hpar ?_
    refine lv_if_ne (tgt := 494) hx hb dL_refusesAny_487 (by decide) (fun c_9 => absurd (by decide) c_9) (fun _ => ?_)
    refine lv_iconst (v := (-1)) hx hb dL_refusesAny_490 (by decide) ?_
    refine lv_goto (tgt := 495) hx hb dL_refusesAny_491 (by decide) ?_
    refine lWr ((-100002)) (As := [.int 0, .int (-1)]) (rest := []) ⟨hx, hb, hml, hown, hts⟩ (k_ifFinished l G o t r h g b ok 0 (-1) _) (refd (show erI 0 (-1) = (-100002) by decide +kernel) lz_2) (cwV 2 hts gL_refusesAny_X3_ifFinished rfl rfl rfl (by decide +kernel) ⟨Nat.le_of_ble_eq_true rfl, Nat.le_of_ble_eq_true rfl⟩) hK hP hD hS hA rfl rfl hl.1 (Nat.le_of_ble_eq_true rfl) dL_refusesAny_495 ⟨Nat.le_of_ble_eq_true rfl, Nat.le_of_ble_eq_true rfl⟩ (fun H locs hP hD hS => ?_)
    refine lv_ldc (v := (-100002)) hx hb hown wk1 dL_refusesAny_498 ?_
    refine lv_icmp_ne (tgt := 634) hx hb dL_refusesAny_500 (by decide) (fun c_9 => absurd (by decide) c_9) (fun _ => ?_)
    refine lv_aload_n hx hb dL_refusesAny_503 rfl (lv_at hl 5 rfl) ?_
    refine lv_iload_n hx hb dL_refusesAny_504 rfl (lv_at hl 3 rfl) ?_
    refine lv_bipush (v := 9) hx hb dL_refusesAny_505 (by decide) ?_
    refine lWr ((-100001)) (As := [.int ((-1) - nI q), .int 9]) (rest := []) ⟨hx, hb, hml, hown, hts⟩ (k_bestLimit l G o t r h g b ok ((-1) - nI q) 9 _) (refd (erT_no hno) lz_1) (cwV 2 hts gL_refusesAny_X3_bestLimit rfl rfl rfl (by decide +kernel) ⟨Nat.le_of_ble_eq_true rfl, Nat.le_of_ble_eq_true rfl⟩) hK hP hD hS hA rfl rfl hl.1 (Nat.le_of_ble_eq_true rfl) dL_refusesAny_507 ⟨Nat.le_of_ble_eq_true rfl, Nat.le_of_ble_eq_true rfl⟩ (fun H locs hP hD hS => ?_)
    refine lv_ldc (v := (-100001)) hx hb hown wk2 dL_refusesAny_510 ?_
    refine lv_icmp_ne (tgt := 634) hx hb dL_refusesAny_512 (by decide) (fun c_9 => absurd (by decide) c_9) (fun _ => ?_)
    refine lv_aload_n hx hb dL_refusesAny_515 rfl (lv_at hl 5 rfl) ?_
    refine lv_iconst (v := 0) hx hb dL_refusesAny_516 (by decide) ?_
    refine lv_iload_n hx hb dL_refusesAny_517 rfl (lv_at hl 4 rfl) ?_
    refine lv_iconst (v := 2) hx hb dL_refusesAny_518 (by decide) ?_
    refine lv_irem hx hb dL_refusesAny_519 (by decide) ?_
    refine qtop (y := 0) hpar ?_
    refine lv_if_ne (tgt := 527) hx hb dL_refusesAny_520 (by decide) (fun c_9 => absurd (by decide) c_9) (fun _ => ?_)
    refine lv_iconst (v := (-1)) hx hb dL_refusesAny_523 (by decide) ?_
    refine lv_goto (tgt := 528) hx hb dL_refusesAny_524 (by decide) ?_
    refine lWr ((-100002)) (As := [.int 0, .int (-1)]) (rest := []) ⟨hx, hb, hml, hown, hts⟩ (k_bestLimit l G o t r h g b ok 0 (-1) _) (refd (show erT 0 (-1) = (-100002) by decide +kernel) lz_2) (cwV 2 hts gL_refusesAny_X3_bestLimit rfl rfl rfl (by decide +kernel) ⟨Nat.le_of_ble_eq_true rfl, Nat.le_of_ble_eq_true rfl⟩) hK hP hD hS hA rfl rfl hl.1 (Nat.le_of_ble_eq_true rfl) dL_refusesAny_528 ⟨Nat.le_of_ble_eq_true rfl, Nat.le_of_ble_eq_true rfl⟩ (fun H locs hP hD hS => ?_)
    refine lv_ldc (v := (-100002)) hx hb hown wk1 dL_refusesAny_531 ?_
    refine lv_icmp_ne (tgt := 634) hx hb dL_refusesAny_533 (by decide) (fun c_9 => absurd (by decide) c_9) (fun _ => ?_)
    refine lv_aload_n hx hb dL_refusesAny_536 rfl (lv_at hl 5 rfl) ?_
    refine lv_iload_n hx hb dL_refusesAny_537 rfl (lv_at hl 3 rfl) ?_
    refine lv_iconst (v := 0) hx hb dL_refusesAny_538 (by decide) ?_
    refine lWr ((-100001)) (As := [.int ((-1) - nI q), .int 0]) (rest := []) ⟨hx, hb, hml, hown, hts⟩ (k_coinsBehind l G o t r h g b ok ((-1) - nI q) 0 _) (refd (erM_no hno) lz_1) (cwV 2 hts gL_refusesAny_X3_coinsBehind rfl rfl rfl (by decide +kernel) ⟨Nat.le_of_ble_eq_true rfl, Nat.le_of_ble_eq_true rfl⟩) hK hP hD hS hA rfl rfl hl.1 (Nat.le_of_ble_eq_true rfl) dL_refusesAny_539 ⟨Nat.le_of_ble_eq_true rfl, Nat.le_of_ble_eq_true rfl⟩ (fun H locs hP hD hS => ?_)
    refine lv_ldc (v := (-100001)) hx hb hown wk2 dL_refusesAny_542 ?_
    refine lv_icmp_ne (tgt := 634) hx hb dL_refusesAny_544 (by decide) (fun c_9 => absurd (by decide) c_9) (fun _ => ?_)
    refine lv_aload_n hx hb dL_refusesAny_547 rfl (lv_at hl 5 rfl) ?_
    refine lv_iconst (v := 0) hx hb dL_refusesAny_548 (by decide) ?_
    refine lv_iload_n hx hb dL_refusesAny_549 rfl (lv_at hl 4 rfl) ?_
    refine lv_iconst (v := 2) hx hb dL_refusesAny_550 (by decide) ?_
    refine lv_irem hx hb dL_refusesAny_551 (by decide) ?_
    refine qtop (y := 0) hpar ?_
    refine lv_if_ne (tgt := 559) hx hb dL_refusesAny_552 (by decide) (fun c_9 => absurd (by decide) c_9) (fun _ => ?_)
    refine lv_iconst (v := 0) hx hb dL_refusesAny_555 (by decide) ?_
    refine lv_goto (tgt := 561) hx hb dL_refusesAny_556 (by decide) ?_
    refine lWr ((-100002)) (As := [.int 0, .int 0]) (rest := []) ⟨hx, hb, hml, hown, hts⟩ (k_coinsBehind l G o t r h g b ok 0 0 _) (refd (show erM 0 0 = (-100002) by decide +kernel) lz_2) (cwV 2 hts gL_refusesAny_X3_coinsBehind rfl rfl rfl (by decide +kernel) ⟨Nat.le_of_ble_eq_true rfl, Nat.le_of_ble_eq_true rfl⟩) hK hP hD hS hA rfl rfl hl.1 (Nat.le_of_ble_eq_true rfl) dL_refusesAny_561 ⟨Nat.le_of_ble_eq_true rfl, Nat.le_of_ble_eq_true rfl⟩ (fun H locs hP hD hS => ?_)
    refine lv_ldc (v := (-100002)) hx hb hown wk1 dL_refusesAny_564 ?_
    refine lv_icmp_ne (tgt := 634) hx hb dL_refusesAny_566 (by decide) (fun c_9 => absurd (by decide) c_9) (fun _ => ?_)
    refine lv_aload_n hx hb dL_refusesAny_569 rfl (lv_at hl 5 rfl) ?_
    refine lv_iload_n hx hb dL_refusesAny_570 rfl (lv_at hl 4 rfl) ?_
    refine lv_iconst (v := 2) hx hb dL_refusesAny_571 (by decide) ?_
    refine lv_irem hx hb dL_refusesAny_572 (by decide) ?_
    refine qtop (y := 0) hpar ?_
    refine lv_if_ne (tgt := 580) hx hb dL_refusesAny_573 (by decide) (fun c_9 => absurd (by decide) c_9) (fun _ => ?_)
    refine lv_iconst (v := 0) hx hb dL_refusesAny_576 (by decide) ?_
    refine lv_goto (tgt := 582) hx hb dL_refusesAny_577 (by decide) ?_
    refine lWr ((-100002)) (As := [.int 0]) (rest := []) ⟨hx, hb, hml, hown, hts⟩ (k_richest l G o t r h g b ok 0 _) (refd (show erN 0 = (-100002) by decide +kernel) lz_2) (cwV 1 hts gL_refusesAny_X3_richest rfl rfl rfl (by decide +kernel) ⟨Nat.le_of_ble_eq_true rfl, Nat.le_of_ble_eq_true rfl⟩) hK hP hD hS hA rfl rfl hl.1 (Nat.le_of_ble_eq_true rfl) dL_refusesAny_582 ⟨Nat.le_of_ble_eq_true rfl, Nat.le_of_ble_eq_true rfl⟩ (fun H locs hP hD hS => ?_)
    refine lv_ldc (v := (-100002)) hx hb hown wk1 dL_refusesAny_585 ?_
    refine lv_icmp_ne (tgt := 634) hx hb dL_refusesAny_587 (by decide) (fun c_9 => absurd (by decide) c_9) (fun _ => ?_)
    refine lv_aload_n hx hb dL_refusesAny_590 rfl (lv_at hl 5 rfl) ?_
    refine lv_iload_n hx hb dL_refusesAny_591 rfl (lv_at hl 4 rfl) ?_
    refine lv_iconst (v := 2) hx hb dL_refusesAny_592 (by decide) ?_
    refine lv_irem hx hb dL_refusesAny_593 (by decide) ?_
    refine qtop (y := 0) hpar ?_
    refine lv_if_ne (tgt := 601) hx hb dL_refusesAny_594 (by decide) (fun c_9 => absurd (by decide) c_9) (fun _ => ?_)
    refine lv_iconst (v := (-1)) hx hb dL_refusesAny_597 (by decide) ?_
    refine lv_goto (tgt := 602) hx hb dL_refusesAny_598 (by decide) ?_
    refine lWr ((-100002)) (As := [.int (-1)]) (rest := []) ⟨hx, hb, hml, hown, hts⟩ (k_save l G o t r h g b ok (-1) _) (refd (show slC (-1) = (-100002) by decide +kernel) lz_2) (cwV 1 hts gL_refusesAny_X3_save rfl rfl rfl (by decide +kernel) ⟨Nat.le_of_ble_eq_true rfl, Nat.le_of_ble_eq_true rfl⟩) hK hP hD hS hA rfl rfl hl.1 (Nat.le_of_ble_eq_true rfl) dL_refusesAny_602 ⟨Nat.le_of_ble_eq_true rfl, Nat.le_of_ble_eq_true rfl⟩ (fun H locs hP hD hS => ?_)
    refine lv_ldc (v := (-100002)) hx hb hown wk1 dL_refusesAny_605 ?_
    refine lv_icmp_ne (tgt := 634) hx hb dL_refusesAny_607 (by decide) (fun c_9 => absurd (by decide) c_9) (fun _ => ?_)
    refine lv_aload_n hx hb dL_refusesAny_610 rfl (lv_at hl 5 rfl) ?_
    refine lv_iload_n hx hb dL_refusesAny_611 rfl (lv_at hl 4 rfl) ?_
    refine lv_iconst (v := 2) hx hb dL_refusesAny_612 (by decide) ?_
    refine lv_irem hx hb dL_refusesAny_613 (by decide) ?_
    refine qtop (y := 0) hpar ?_
    refine lv_if_ne (tgt := 621) hx hb dL_refusesAny_614 (by decide) (fun c_9 => absurd (by decide) c_9) (fun _ => ?_)
    refine lv_iconst (v := (-1)) hx hb dL_refusesAny_617 (by decide) ?_
    refine lv_goto (tgt := 622) hx hb dL_refusesAny_618 (by decide) ?_
    refine lWr ((-100002)) (As := [.int (-1)]) (rest := []) ⟨hx, hb, hml, hown, hts⟩ (k_restore l G o t r h g b ok hold (-1) _) (refd (rsC_bad _).1 lz_2) (cwV 1 hts gL_refusesAny_X3_restore rfl rfl rfl (by decide +kernel) ⟨Nat.le_of_ble_eq_true rfl, Nat.le_of_ble_eq_true rfl⟩) hK hP hD hS hA rfl rfl hl.1 (Nat.le_of_ble_eq_true rfl) dL_refusesAny_622 ⟨Nat.le_of_ble_eq_true rfl, Nat.le_of_ble_eq_true rfl⟩ (fun H locs hP hD hS => ?_)
    refine lv_ldc (v := (-100002)) hx hb hown wk1 dL_refusesAny_625 ?_
    refine lv_icmp_ne (tgt := 634) hx hb dL_refusesAny_627 (by decide) (fun c_9 => absurd (by decide) c_9) (fun _ => ?_)
    refine lv_iconst (v := 1) hx hb dL_refusesAny_630 (by decide) ?_
    refine lv_goto (tgt := 635) hx hb dL_refusesAny_631 (by decide) ?_
    refine lv_istore (lv' := [(6, .int 1), (4, .int ((-1) - nI q)), (3, .int ((-1) - nI q)), (2, .int ((-1) - nI q)), (1, .int (nI n)), (0, .ref o)]) hx hb dL_refusesAny_635 hl (by decide) rfl (fun ls hl => ?_)
    refine lv_iload hx hb dL_refusesAny_637 (lv_at hl 0 rfl) ?_
    refine lv_if_eq (tgt := 669) hx hb dL_refusesAny_639 (by decide) (fun c_9 => absurd c_9 (by decide)) (fun _ => ?_)
    refine lv_aload_n hx hb dL_refusesAny_642 rfl (lv_at hl 5 rfl) ?_
    refine lWr (0) (As := []) (rest := []) ⟨hx, hb, hml, hown, hts⟩ (k_wipe l G o t r h g b ok  _) (pl0_back hpl0) (cwV 0 hts gL_refusesAny_X3_wipe rfl rfl rfl (by decide +kernel) ⟨Nat.le_of_ble_eq_true rfl, Nat.le_of_ble_eq_true rfl⟩) hK hP hD hS hA rfl rfl hl.1 (Nat.le_of_ble_eq_true rfl) dL_refusesAny_643 ⟨Nat.le_of_ble_eq_true rfl, Nat.le_of_ble_eq_true rfl⟩ (fun H locs hP hD hS => ?_)
    refine lv_if_ne (tgt := 669) hx hb dL_refusesAny_646 (by decide) (fun c_9 => absurd (by decide) c_9) (fun _ => ?_)
    refine lv_aload_n hx hb dL_refusesAny_649 rfl (lv_at hl 5 rfl) ?_
    refine lWr ((-100003)) (As := []) (rest := []) ⟨hx, hb, hml, hown, hts⟩ (k_run l G o t r h g b ok  _) (refdn (show ¬ fqC k.2.2.2.2.2.2.1 k.2.2.2.2.2.2.2 = (-100006) by rw [hpl0]; exact nI_none (n := 0) (by decide))) (cwV 0 hts gL_refusesAny_X3_run rfl rfl rfl (by decide +kernel) ⟨Nat.le_of_ble_eq_true rfl, Nat.le_of_ble_eq_true rfl⟩) hK hP hD hS hA rfl rfl hl.1 (Nat.le_of_ble_eq_true rfl) dL_refusesAny_650 ⟨Nat.le_of_ble_eq_true rfl, Nat.le_of_ble_eq_true rfl⟩ (fun H locs hP hD hS => ?_)
    refine lv_ldc (v := (-100003)) hx hb hown wk4 dL_refusesAny_653 ?_
    refine lv_icmp_ne (tgt := 669) hx hb dL_refusesAny_655 (by decide) (fun c_9 => absurd (by decide) c_9) (fun _ => ?_)
    refine lv_aload_n hx hb dL_refusesAny_658 rfl (lv_at hl 5 rfl) ?_
    refine lR (0) (As := []) (rest := []) ⟨hx, hb, hml, hown, hts⟩ (k_fault l G o t r h g b ok ) (by rw [hpl0]; rfl) (cwV 0 hts gL_refusesAny_X3_fault rfl rfl rfl (by decide +kernel) ⟨Nat.le_of_ble_eq_true rfl, Nat.le_of_ble_eq_true rfl⟩) hK hP rfl rfl hl.1 (Nat.le_of_ble_eq_true rfl) dL_refusesAny_659 ⟨Nat.le_of_ble_eq_true rfl, Nat.le_of_ble_eq_true rfl⟩ ?_
    refine lv_if_ne (tgt := 669) hx hb dL_refusesAny_662 (by decide) (fun c_9 => absurd (by decide) c_9) (fun _ => ?_)
    refine lv_iconst (v := 1) hx hb dL_refusesAny_665 (by decide) ?_
    refine lv_goto (tgt := 670) hx hb dL_refusesAny_666 (by decide) ?_
    exact hret _ _ _ _ k ⟨rfl, rfl⟩ hP hD hS dL_refusesAny_670
  by_cases hu : k.1 10 0 = 0
  · skip
    refine lv_iload_n hx hb dL_refusesAny_0 rfl (lv_at hl 1 rfl) ?_
    refine lv_iconst (v := 2) hx hb dL_refusesAny_1 (by decide) ?_
    refine lv_irem hx hb dL_refusesAny_2 (by decide) ?_
    refine qtop (y := 0) hpar ?_
    refine lv_if_ne (tgt := 15) hx hb dL_refusesAny_3 (by decide) (fun c_9 => absurd (by decide) c_9) (fun _ => ?_)
    refine lv_iconst (v := (-1)) hx hb dL_refusesAny_6 (by decide) ?_
    refine lv_iload_n hx hb dL_refusesAny_7 rfl (lv_at hl 1 rfl) ?_
    refine lv_bipush (v := 99) hx hb dL_refusesAny_8 (by decide) ?_
    refine lv_irem hx hb dL_refusesAny_10 (by decide) ?_
    refine qtop (y := nI q) hq ?_
    refine lv_isub hx hb dL_refusesAny_11 ?_
    refine lv_goto (tgt := 21) hx hb dL_refusesAny_12 (by decide) ?_
    refine lv_istore_n (lv' := [(2, .int ((-1) - (nI q))), (0, .ref o), (1, .int (nI n))]) hx hb dL_refusesAny_21 rfl hl (by decide) rfl (fun ls hl => ?_)
    refine lv_iload_n hx hb dL_refusesAny_22 rfl (lv_at hl 2 rfl) ?_
    refine lv_iconst (v := 2) hx hb dL_refusesAny_23 (by decide) ?_
    refine lv_irem hx hb dL_refusesAny_24 (by decide) ?_
    refine qtop (y := 0) hpar ?_
    refine lv_if_ne (tgt := 37) hx hb dL_refusesAny_25 (by decide) (fun c_9 => absurd (by decide) c_9) (fun _ => ?_)
    refine lv_iconst (v := (-1)) hx hb dL_refusesAny_28 (by decide) ?_
    refine lv_iload_n hx hb dL_refusesAny_29 rfl (lv_at hl 2 rfl) ?_
    refine lv_bipush (v := 99) hx hb dL_refusesAny_30 (by decide) ?_
    refine lv_irem hx hb dL_refusesAny_32 (by decide) ?_
    refine qtop (y := nI q) hq ?_
    refine lv_isub hx hb dL_refusesAny_33 ?_
    refine lv_goto (tgt := 45) hx hb dL_refusesAny_34 (by decide) ?_
    refine lv_istore_n (lv' := [(3, .int ((-1) - (nI q))), (2, .int ((-1) - (nI q))), (0, .ref o), (1, .int (nI n))]) hx hb dL_refusesAny_45 rfl hl (by decide) rfl (fun ls hl => ?_)
    refine lv_iload_n hx hb dL_refusesAny_46 rfl (lv_at hl 3 rfl) ?_
    refine lv_iconst (v := 2) hx hb dL_refusesAny_47 (by decide) ?_
    refine lv_irem hx hb dL_refusesAny_48 (by decide) ?_
    refine qtop (y := 0) hpar ?_
    refine lv_if_ne (tgt := 61) hx hb dL_refusesAny_49 (by decide) (fun c_9 => absurd (by decide) c_9) (fun _ => ?_)
    refine lv_iconst (v := (-1)) hx hb dL_refusesAny_52 (by decide) ?_
    refine lv_iload_n hx hb dL_refusesAny_53 rfl (lv_at hl 3 rfl) ?_
    refine lv_bipush (v := 99) hx hb dL_refusesAny_54 (by decide) ?_
    refine lv_irem hx hb dL_refusesAny_56 (by decide) ?_
    refine qtop (y := nI q) hq ?_
    refine lv_isub hx hb dL_refusesAny_57 ?_
    refine lv_goto (tgt := 68) hx hb dL_refusesAny_58 (by decide) ?_
    refine lv_istore (lv' := [(4, .int ((-1) - (nI q))), (3, .int ((-1) - (nI q))), (2, .int ((-1) - (nI q))), (0, .ref o), (1, .int (nI n))]) hx hb dL_refusesAny_68 hl (by decide) rfl (fun ls hl => ?_)
    refine lv_aload_n hx hb dL_refusesAny_70 rfl (lv_at hl 3 rfl) ?_
    refine lv_iconst (v := 4) hx hb dL_refusesAny_71 (by decide) ?_
    refine lR (0) (As := [.int 4]) (rest := []) ⟨hx, hb, hml, hown, hts⟩ (k_count l G o t r h g b ok 4) ((cn4 ok.1 _ _).trans hu) (cwV 1 hts gL_refusesAny_X3_count rfl rfl rfl (by decide +kernel) ⟨Nat.le_of_ble_eq_true rfl, Nat.le_of_ble_eq_true rfl⟩) hK hP rfl rfl hl.1 (Nat.le_of_ble_eq_true rfl) dL_refusesAny_72 ⟨Nat.le_of_ble_eq_true rfl, Nat.le_of_ble_eq_true rfl⟩ ?_
    refine lv_iconst (v := 1) hx hb dL_refusesAny_75 (by decide) ?_
    refine lv_icmp_ne (tgt := 83) hx hb dL_refusesAny_76 (by decide) (fun _ => ?_) (fun c_9 => absurd c_9 (by decide))
    refine lv_iconst (v := 0) hx hb dL_refusesAny_83 (by decide) ?_
    refine lv_istore (lv' := [(5, .int 0), (4, .int ((-1) - (nI q))), (3, .int ((-1) - (nI q))), (2, .int ((-1) - (nI q))), (0, .ref o), (1, .int (nI n))]) hx hb dL_refusesAny_84 hl (by decide) rfl (fun ls hl => ?_)
    refine lv_aload_n hx hb dL_refusesAny_86 rfl (lv_at hl 4 rfl) ?_
    refine lv_iload_n hx hb dL_refusesAny_87 rfl (lv_at hl 5 rfl) ?_
    refine lv_iconst (v := 2) hx hb dL_refusesAny_88 (by decide) ?_
    refine lv_irem hx hb dL_refusesAny_89 (by decide) ?_
    refine qtop (y := 0) hpar ?_
    refine lv_if_ne (tgt := 97) hx hb dL_refusesAny_90 (by decide) (fun c_9 => absurd (by decide) c_9) (fun _ => ?_)
    refine lv_iconst (v := (-1)) hx hb dL_refusesAny_93 (by decide) ?_
    refine lv_goto (tgt := 98) hx hb dL_refusesAny_94 (by decide) ?_
    refine lv_iconst (v := 1) hx hb dL_refusesAny_98 (by decide) ?_
    refine lWzr ((-100002)) (As := [.int (-1), .int 1]) (rest := []) ⟨hx, hb, hml, hown, hts⟩ (k_set l G o t r h g b ok (-1) 1 _) (refd (show seC (-1) 1 = (-100002) by decide +kernel) lz_2) (cwV 2 hts gL_refusesAny_X3_set rfl rfl rfl (by decide +kernel) ⟨Nat.le_of_ble_eq_true rfl, Nat.le_of_ble_eq_true rfl⟩) hK hz hP hD hS hA rfl rfl hl.1 (Nat.le_of_ble_eq_true rfl) dL_refusesAny_99 ⟨Nat.le_of_ble_eq_true rfl, Nat.le_of_ble_eq_true rfl⟩ (fun H locs hP hD hS => ?_)
    refine lv_ldc (v := (-100002)) hx hb hown wk1 dL_refusesAny_102 ?_
    refine lv_icmp_ne (tgt := 387) hx hb dL_refusesAny_104 (by decide) (fun c_9 => absurd (by decide) c_9) (fun _ => ?_)
    refine lv_aload_n hx hb dL_refusesAny_107 rfl (lv_at hl 4 rfl) ?_
    refine lv_iconst (v := 0) hx hb dL_refusesAny_108 (by decide) ?_
    refine lv_iload_n hx hb dL_refusesAny_109 rfl (lv_at hl 5 rfl) ?_
    refine lv_iconst (v := 2) hx hb dL_refusesAny_110 (by decide) ?_
    refine lv_irem hx hb dL_refusesAny_111 (by decide) ?_
    refine qtop (y := 0) hpar ?_
    refine lv_if_ne (tgt := 119) hx hb dL_refusesAny_112 (by decide) (fun c_9 => absurd (by decide) c_9) (fun _ => ?_)
    refine lv_iconst (v := 0) hx hb dL_refusesAny_115 (by decide) ?_
    refine lv_goto (tgt := 121) hx hb dL_refusesAny_116 (by decide) ?_
    refine lWzr ((-100002)) (As := [.int 0, .int 0]) (rest := []) ⟨hx, hb, hml, hown, hts⟩ (k_set l G o t r h g b ok 0 0 _) (refd (show seC 0 0 = (-100002) by decide +kernel) lz_2) (cwV 2 hts gL_refusesAny_X3_set rfl rfl rfl (by decide +kernel) ⟨Nat.le_of_ble_eq_true rfl, Nat.le_of_ble_eq_true rfl⟩) hK hz hP hD hS hA rfl rfl hl.1 (Nat.le_of_ble_eq_true rfl) dL_refusesAny_121 ⟨Nat.le_of_ble_eq_true rfl, Nat.le_of_ble_eq_true rfl⟩ (fun H locs hP hD hS => ?_)
    refine lv_ldc (v := (-100002)) hx hb hown wk1 dL_refusesAny_124 ?_
    refine lv_icmp_ne (tgt := 387) hx hb dL_refusesAny_126 (by decide) (fun c_9 => absurd (by decide) c_9) (fun _ => ?_)
    refine lv_aload_n hx hb dL_refusesAny_129 rfl (lv_at hl 4 rfl) ?_
    refine lv_iconst (v := 1) hx hb dL_refusesAny_130 (by decide) ?_
    refine lv_iload_n hx hb dL_refusesAny_131 rfl (lv_at hl 5 rfl) ?_
    refine lv_iconst (v := 2) hx hb dL_refusesAny_132 (by decide) ?_
    refine lv_irem hx hb dL_refusesAny_133 (by decide) ?_
    refine qtop (y := 0) hpar ?_
    refine lv_if_ne (tgt := 141) hx hb dL_refusesAny_134 (by decide) (fun c_9 => absurd (by decide) c_9) (fun _ => ?_)
    refine lv_iconst (v := (-1)) hx hb dL_refusesAny_137 (by decide) ?_
    refine lv_goto (tgt := 143) hx hb dL_refusesAny_138 (by decide) ?_
    refine lWzr ((-100002)) (As := [.int 1, .int (-1)]) (rest := []) ⟨hx, hb, hml, hown, hts⟩ (k_set l G o t r h g b ok 1 (-1) _) (refd (show seC 1 (-1) = (-100002) by decide +kernel) lz_2) (cwV 2 hts gL_refusesAny_X3_set rfl rfl rfl (by decide +kernel) ⟨Nat.le_of_ble_eq_true rfl, Nat.le_of_ble_eq_true rfl⟩) hK hz hP hD hS hA rfl rfl hl.1 (Nat.le_of_ble_eq_true rfl) dL_refusesAny_143 ⟨Nat.le_of_ble_eq_true rfl, Nat.le_of_ble_eq_true rfl⟩ (fun H locs hP hD hS => ?_)
    refine lv_ldc (v := (-100002)) hx hb hown wk1 dL_refusesAny_146 ?_
    refine lv_icmp_ne (tgt := 387) hx hb dL_refusesAny_148 (by decide) (fun c_9 => absurd (by decide) c_9) (fun _ => ?_)
    refine lv_aload_n hx hb dL_refusesAny_151 rfl (lv_at hl 4 rfl) ?_
    refine lv_iconst (v := 2) hx hb dL_refusesAny_152 (by decide) ?_
    refine lv_iload_n hx hb dL_refusesAny_153 rfl (lv_at hl 5 rfl) ?_
    refine lv_iconst (v := 2) hx hb dL_refusesAny_154 (by decide) ?_
    refine lv_irem hx hb dL_refusesAny_155 (by decide) ?_
    refine qtop (y := 0) hpar ?_
    refine lv_if_ne (tgt := 163) hx hb dL_refusesAny_156 (by decide) (fun c_9 => absurd (by decide) c_9) (fun _ => ?_)
    refine lv_iconst (v := (-1)) hx hb dL_refusesAny_159 (by decide) ?_
    refine lv_goto (tgt := 165) hx hb dL_refusesAny_160 (by decide) ?_
    refine lWzr ((-100002)) (As := [.int 2, .int (-1)]) (rest := []) ⟨hx, hb, hml, hown, hts⟩ (k_set l G o t r h g b ok 2 (-1) _) (refd (show seC 2 (-1) = (-100002) by decide +kernel) lz_2) (cwV 2 hts gL_refusesAny_X3_set rfl rfl rfl (by decide +kernel) ⟨Nat.le_of_ble_eq_true rfl, Nat.le_of_ble_eq_true rfl⟩) hK hz hP hD hS hA rfl rfl hl.1 (Nat.le_of_ble_eq_true rfl) dL_refusesAny_165 ⟨Nat.le_of_ble_eq_true rfl, Nat.le_of_ble_eq_true rfl⟩ (fun H locs hP hD hS => ?_)
    refine lv_ldc (v := (-100002)) hx hb hown wk1 dL_refusesAny_168 ?_
    refine lv_icmp_ne (tgt := 387) hx hb dL_refusesAny_170 (by decide) (fun c_9 => absurd (by decide) c_9) (fun _ => ?_)
    refine lv_aload_n hx hb dL_refusesAny_173 rfl (lv_at hl 4 rfl) ?_
    refine lv_iconst (v := 3) hx hb dL_refusesAny_174 (by decide) ?_
    refine lv_iload_n hx hb dL_refusesAny_175 rfl (lv_at hl 5 rfl) ?_
    refine lv_iconst (v := 2) hx hb dL_refusesAny_176 (by decide) ?_
    refine lv_irem hx hb dL_refusesAny_177 (by decide) ?_
    refine qtop (y := 0) hpar ?_
    refine lv_if_ne (tgt := 185) hx hb dL_refusesAny_178 (by decide) (fun c_9 => absurd (by decide) c_9) (fun _ => ?_)
    refine lv_iconst (v := (-1)) hx hb dL_refusesAny_181 (by decide) ?_
    refine lv_goto (tgt := 187) hx hb dL_refusesAny_182 (by decide) ?_
    refine lWzr ((-100002)) (As := [.int 3, .int (-1)]) (rest := []) ⟨hx, hb, hml, hown, hts⟩ (k_set l G o t r h g b ok 3 (-1) _) (refd (show seC 3 (-1) = (-100002) by decide +kernel) lz_2) (cwV 2 hts gL_refusesAny_X3_set rfl rfl rfl (by decide +kernel) ⟨Nat.le_of_ble_eq_true rfl, Nat.le_of_ble_eq_true rfl⟩) hK hz hP hD hS hA rfl rfl hl.1 (Nat.le_of_ble_eq_true rfl) dL_refusesAny_187 ⟨Nat.le_of_ble_eq_true rfl, Nat.le_of_ble_eq_true rfl⟩ (fun H locs hP hD hS => ?_)
    refine lv_ldc (v := (-100002)) hx hb hown wk1 dL_refusesAny_190 ?_
    refine lv_icmp_ne (tgt := 387) hx hb dL_refusesAny_192 (by decide) (fun c_9 => absurd (by decide) c_9) (fun _ => ?_)
    refine lv_aload_n hx hb dL_refusesAny_195 rfl (lv_at hl 4 rfl) ?_
    refine lv_iload_n hx hb dL_refusesAny_196 rfl (lv_at hl 3 rfl) ?_
    refine lv_iload_n hx hb dL_refusesAny_197 rfl (lv_at hl 2 rfl) ?_
    refine lWr ((-100001)) (As := [.int ((-1) - (nI q)), .int ((-1) - (nI q))]) (rest := []) ⟨hx, hb, hml, hown, hts⟩ (k_coins l G o t r h g b ok ((-1) - (nI q)) ((-1) - (nI q)) _) (refd (coC_no hno) lz_1) (cwV 2 hts gL_refusesAny_X3_coins rfl rfl rfl (by decide +kernel) ⟨Nat.le_of_ble_eq_true rfl, Nat.le_of_ble_eq_true rfl⟩) hK hP hD hS hA rfl rfl hl.1 (Nat.le_of_ble_eq_true rfl) dL_refusesAny_198 ⟨Nat.le_of_ble_eq_true rfl, Nat.le_of_ble_eq_true rfl⟩ (fun H locs hP hD hS => ?_)
    refine lv_ldc (v := (-100001)) hx hb hown wk2 dL_refusesAny_201 ?_
    refine lv_icmp_ne (tgt := 387) hx hb dL_refusesAny_203 (by decide) (fun c_9 => absurd (by decide) c_9) (fun _ => ?_)
    refine lv_aload_n hx hb dL_refusesAny_206 rfl (lv_at hl 4 rfl) ?_
    refine lv_iconst (v := 0) hx hb dL_refusesAny_207 (by decide) ?_
    refine lv_iload_n hx hb dL_refusesAny_208 rfl (lv_at hl 2 rfl) ?_
    refine lWr ((-100002)) (As := [.int 0, .int ((-1) - (nI q))]) (rest := []) ⟨hx, hb, hml, hown, hts⟩ (k_coins l G o t r h g b ok 0 ((-1) - (nI q)) _) (refd (coC_bad hfar) lz_2) (cwV 2 hts gL_refusesAny_X3_coins rfl rfl rfl (by decide +kernel) ⟨Nat.le_of_ble_eq_true rfl, Nat.le_of_ble_eq_true rfl⟩) hK hP hD hS hA rfl rfl hl.1 (Nat.le_of_ble_eq_true rfl) dL_refusesAny_209 ⟨Nat.le_of_ble_eq_true rfl, Nat.le_of_ble_eq_true rfl⟩ (fun H locs hP hD hS => ?_)
    refine lv_ldc (v := (-100002)) hx hb hown wk1 dL_refusesAny_212 ?_
    refine lv_icmp_ne (tgt := 387) hx hb dL_refusesAny_214 (by decide) (fun c_9 => absurd (by decide) c_9) (fun _ => ?_)
    refine lv_aload_n hx hb dL_refusesAny_217 rfl (lv_at hl 4 rfl) ?_
    refine lv_iload_n hx hb dL_refusesAny_218 rfl (lv_at hl 3 rfl) ?_
    refine lv_iload hx hb dL_refusesAny_219 (lv_at hl 1 rfl) ?_
    refine lWr ((-100001)) (As := [.int ((-1) - (nI q)), .int ((-1) - (nI q))]) (rest := []) ⟨hx, hb, hml, hown, hts⟩ (k_limit l G o t r h g b ok ((-1) - (nI q)) ((-1) - (nI q)) _) (refd (liC_no hno) lz_1) (cwV 2 hts gL_refusesAny_X3_limit rfl rfl rfl (by decide +kernel) ⟨Nat.le_of_ble_eq_true rfl, Nat.le_of_ble_eq_true rfl⟩) hK hP hD hS hA rfl rfl hl.1 (Nat.le_of_ble_eq_true rfl) dL_refusesAny_221 ⟨Nat.le_of_ble_eq_true rfl, Nat.le_of_ble_eq_true rfl⟩ (fun H locs hP hD hS => ?_)
    refine lv_ldc (v := (-100001)) hx hb hown wk2 dL_refusesAny_224 ?_
    refine lv_icmp_ne (tgt := 387) hx hb dL_refusesAny_226 (by decide) (fun c_9 => absurd (by decide) c_9) (fun _ => ?_)
    refine lv_aload_n hx hb dL_refusesAny_229 rfl (lv_at hl 4 rfl) ?_
    refine lv_iconst (v := 0) hx hb dL_refusesAny_230 (by decide) ?_
    refine lv_iload hx hb dL_refusesAny_231 (lv_at hl 1 rfl) ?_
    refine lWr ((-100002)) (As := [.int 0, .int ((-1) - (nI q))]) (rest := []) ⟨hx, hb, hml, hown, hts⟩ (k_limit l G o t r h g b ok 0 ((-1) - (nI q)) _) (refd (liC_bad hsome) lz_2) (cwV 2 hts gL_refusesAny_X3_limit rfl rfl rfl (by decide +kernel) ⟨Nat.le_of_ble_eq_true rfl, Nat.le_of_ble_eq_true rfl⟩) hK hP hD hS hA rfl rfl hl.1 (Nat.le_of_ble_eq_true rfl) dL_refusesAny_233 ⟨Nat.le_of_ble_eq_true rfl, Nat.le_of_ble_eq_true rfl⟩ (fun H locs hP hD hS => ?_)
    refine lv_ldc (v := (-100002)) hx hb hown wk1 dL_refusesAny_236 ?_
    refine lv_icmp_ne (tgt := 387) hx hb dL_refusesAny_238 (by decide) (fun c_9 => absurd (by decide) c_9) (fun _ => ?_)
    refine lv_aload_n hx hb dL_refusesAny_241 rfl (lv_at hl 4 rfl) ?_
    refine lv_iload_n hx hb dL_refusesAny_242 rfl (lv_at hl 3 rfl) ?_
    refine lv_iload hx hb dL_refusesAny_243 (lv_at hl 1 rfl) ?_
    refine lWr ((-100001)) (As := [.int ((-1) - (nI q)), .int ((-1) - (nI q))]) (rest := []) ⟨hx, hb, hml, hown, hts⟩ (k_prize l G o t r h g b ok ((-1) - (nI q)) ((-1) - (nI q)) _) (refd (liC_no hno) lz_1) (cwV 2 hts gL_refusesAny_X3_prize rfl rfl rfl (by decide +kernel) ⟨Nat.le_of_ble_eq_true rfl, Nat.le_of_ble_eq_true rfl⟩) hK hP hD hS hA rfl rfl hl.1 (Nat.le_of_ble_eq_true rfl) dL_refusesAny_245 ⟨Nat.le_of_ble_eq_true rfl, Nat.le_of_ble_eq_true rfl⟩ (fun H locs hP hD hS => ?_)
    refine lv_ldc (v := (-100001)) hx hb hown wk2 dL_refusesAny_248 ?_
    refine lv_icmp_ne (tgt := 387) hx hb dL_refusesAny_250 (by decide) (fun c_9 => absurd (by decide) c_9) (fun _ => ?_)
    refine lv_aload_n hx hb dL_refusesAny_253 rfl (lv_at hl 4 rfl) ?_
    refine lv_iconst (v := 0) hx hb dL_refusesAny_254 (by decide) ?_
    refine lv_iload hx hb dL_refusesAny_255 (lv_at hl 1 rfl) ?_
    refine lWr ((-100002)) (As := [.int 0, .int ((-1) - (nI q))]) (rest := []) ⟨hx, hb, hml, hown, hts⟩ (k_prize l G o t r h g b ok 0 ((-1) - (nI q)) _) (refd (liC_bad hsome) lz_2) (cwV 2 hts gL_refusesAny_X3_prize rfl rfl rfl (by decide +kernel) ⟨Nat.le_of_ble_eq_true rfl, Nat.le_of_ble_eq_true rfl⟩) hK hP hD hS hA rfl rfl hl.1 (Nat.le_of_ble_eq_true rfl) dL_refusesAny_257 ⟨Nat.le_of_ble_eq_true rfl, Nat.le_of_ble_eq_true rfl⟩ (fun H locs hP hD hS => ?_)
    refine lv_ldc (v := (-100002)) hx hb hown wk1 dL_refusesAny_260 ?_
    refine lv_icmp_ne (tgt := 387) hx hb dL_refusesAny_262 (by decide) (fun c_9 => absurd (by decide) c_9) (fun _ => ?_)
    refine lv_aload_n hx hb dL_refusesAny_265 rfl (lv_at hl 4 rfl) ?_
    refine lv_iload_n hx hb dL_refusesAny_266 rfl (lv_at hl 2 rfl) ?_
    refine lWr ((-100002)) (As := [.int ((-1) - (nI q))]) (rest := []) ⟨hx, hb, hml, hown, hts⟩ (k_bid l G o t r h g b ok ((-1) - (nI q)) _) (refd (bdC_bad hfar) lz_2) (cwV 1 hts gL_refusesAny_X3_bid rfl rfl rfl (by decide +kernel) ⟨Nat.le_of_ble_eq_true rfl, Nat.le_of_ble_eq_true rfl⟩) hK hP hD hS hA rfl rfl hl.1 (Nat.le_of_ble_eq_true rfl) dL_refusesAny_267 ⟨Nat.le_of_ble_eq_true rfl, Nat.le_of_ble_eq_true rfl⟩ (fun H locs hP hD hS => ?_)
    refine lv_ldc (v := (-100002)) hx hb hown wk1 dL_refusesAny_270 ?_
    refine lv_icmp_ne (tgt := 387) hx hb dL_refusesAny_272 (by decide) (fun c_9 => absurd (by decide) c_9) (fun _ => ?_)
    refine lv_iload hx hb dL_refusesAny_275 (lv_at hl 0 rfl) ?_
    refine lv_if_eq (tgt := 355) hx hb dL_refusesAny_277 (by decide) (fun _ => ?_) (fun c_9 => absurd (by decide) c_9)
    refine lv_aload_n hx hb dL_refusesAny_355 rfl (lv_at hl 4 rfl) ?_
    refine lv_iconst (v := 5) hx hb dL_refusesAny_356 (by decide) ?_
    refine lWr ((-100005)) (As := [.int 5]) (rest := []) ⟨hx, hb, hml, hown, hts⟩ (k_bid l G o t r h g b ok 5 _) (refd (show bdC k.1 5 = (-100005) from bdC_np (v := 5) (by decide) (by unfold mayB; rw [if_pos hu])) lz_5) (cwV 1 hts gL_refusesAny_X3_bid rfl rfl rfl (by decide +kernel) ⟨Nat.le_of_ble_eq_true rfl, Nat.le_of_ble_eq_true rfl⟩) hK hP hD hS hA rfl rfl hl.1 (Nat.le_of_ble_eq_true rfl) dL_refusesAny_357 ⟨Nat.le_of_ble_eq_true rfl, Nat.le_of_ble_eq_true rfl⟩ (fun H locs hP hD hS => ?_)
    refine lv_ldc (v := (-100005)) hx hb hown wk3 dL_refusesAny_360 ?_
    refine lv_icmp_ne (tgt := 387) hx hb dL_refusesAny_362 (by decide) (fun c_9 => absurd (by decide) c_9) (fun _ => ?_)
    refine lv_aload_n hx hb dL_refusesAny_365 rfl (lv_at hl 4 rfl) ?_
    refine lWr ((-100005)) (As := []) (rest := []) ⟨hx, hb, hml, hown, hts⟩ (k_drop l G o t r h g b ok  _) (refdp hu) (cwV 0 hts gL_refusesAny_X3_drop rfl rfl rfl (by decide +kernel) ⟨Nat.le_of_ble_eq_true rfl, Nat.le_of_ble_eq_true rfl⟩) hK hP hD hS hA rfl rfl hl.1 (Nat.le_of_ble_eq_true rfl) dL_refusesAny_366 ⟨Nat.le_of_ble_eq_true rfl, Nat.le_of_ble_eq_true rfl⟩ (fun H locs hP hD hS => ?_)
    refine lv_ldc (v := (-100005)) hx hb hown wk3 dL_refusesAny_369 ?_
    refine lv_icmp_ne (tgt := 387) hx hb dL_refusesAny_371 (by decide) (fun c_9 => absurd (by decide) c_9) (fun _ => ?_)
    refine lv_aload_n hx hb dL_refusesAny_374 rfl (lv_at hl 4 rfl) ?_
    refine lWr ((-100005)) (As := []) (rest := []) ⟨hx, hb, hml, hown, hts⟩ (k_act l G o t r h g b ok  _) (refdp hu) (cwV 0 hts gL_refusesAny_X3_act rfl rfl rfl (by decide +kernel) ⟨Nat.le_of_ble_eq_true rfl, Nat.le_of_ble_eq_true rfl⟩) hK hP hD hS hA rfl rfl hl.1 (Nat.le_of_ble_eq_true rfl) dL_refusesAny_375 ⟨Nat.le_of_ble_eq_true rfl, Nat.le_of_ble_eq_true rfl⟩ (fun H locs hP hD hS => ?_)
    refine lv_ldc (v := (-100005)) hx hb hown wk3 dL_refusesAny_378 ?_
    refine lv_icmp_ne (tgt := 387) hx hb dL_refusesAny_380 (by decide) (fun c_9 => absurd (by decide) c_9) (fun _ => ?_)
    refine W.widen (k := 165) (n := 930) (Nat.le_of_ble_eq_true rfl) (Nat.le_of_ble_eq_true rfl) ?_
    exact J383 _ _ hP hD hS ls (lv_sub hl [1, 2, 3, 5, 4] rfl)
  · obtain ⟨hu1, -, j, hj, ht, -⟩ := hTI.1.turn hu
    obtain ⟨n7, hn7, hle, -⟩ := hTI.least (by omega) hu
    obtain ⟨cj, hcj9, hcj⟩ := hTI.1.coins hj
    have hmq := mayB_eq hj ht hu
    have hmc : mayB k.1 (nI (cj + 1)) = 0 := by rw [hmq, hcj, if_pos (nI_lt (a := cj) (b := cj + 1) (by omega) (by omega))]; split <;> rfl
    refine lv_iload_n hx hb dL_refusesAny_0 rfl (lv_at hl 1 rfl) ?_
    refine lv_iconst (v := 2) hx hb dL_refusesAny_1 (by decide) ?_
    refine lv_irem hx hb dL_refusesAny_2 (by decide) ?_
    refine qtop (y := 0) hpar ?_
    refine lv_if_ne (tgt := 15) hx hb dL_refusesAny_3 (by decide) (fun c_9 => absurd (by decide) c_9) (fun _ => ?_)
    refine lv_iconst (v := (-1)) hx hb dL_refusesAny_6 (by decide) ?_
    refine lv_iload_n hx hb dL_refusesAny_7 rfl (lv_at hl 1 rfl) ?_
    refine lv_bipush (v := 99) hx hb dL_refusesAny_8 (by decide) ?_
    refine lv_irem hx hb dL_refusesAny_10 (by decide) ?_
    refine qtop (y := nI q) hq ?_
    refine lv_isub hx hb dL_refusesAny_11 ?_
    refine lv_goto (tgt := 21) hx hb dL_refusesAny_12 (by decide) ?_
    refine lv_istore_n (lv' := [(2, .int ((-1) - (nI q))), (0, .ref o), (1, .int (nI n))]) hx hb dL_refusesAny_21 rfl hl (by decide) rfl (fun ls hl => ?_)
    refine lv_iload_n hx hb dL_refusesAny_22 rfl (lv_at hl 2 rfl) ?_
    refine lv_iconst (v := 2) hx hb dL_refusesAny_23 (by decide) ?_
    refine lv_irem hx hb dL_refusesAny_24 (by decide) ?_
    refine qtop (y := 0) hpar ?_
    refine lv_if_ne (tgt := 37) hx hb dL_refusesAny_25 (by decide) (fun c_9 => absurd (by decide) c_9) (fun _ => ?_)
    refine lv_iconst (v := (-1)) hx hb dL_refusesAny_28 (by decide) ?_
    refine lv_iload_n hx hb dL_refusesAny_29 rfl (lv_at hl 2 rfl) ?_
    refine lv_bipush (v := 99) hx hb dL_refusesAny_30 (by decide) ?_
    refine lv_irem hx hb dL_refusesAny_32 (by decide) ?_
    refine qtop (y := nI q) hq ?_
    refine lv_isub hx hb dL_refusesAny_33 ?_
    refine lv_goto (tgt := 45) hx hb dL_refusesAny_34 (by decide) ?_
    refine lv_istore_n (lv' := [(3, .int ((-1) - (nI q))), (2, .int ((-1) - (nI q))), (0, .ref o), (1, .int (nI n))]) hx hb dL_refusesAny_45 rfl hl (by decide) rfl (fun ls hl => ?_)
    refine lv_iload_n hx hb dL_refusesAny_46 rfl (lv_at hl 3 rfl) ?_
    refine lv_iconst (v := 2) hx hb dL_refusesAny_47 (by decide) ?_
    refine lv_irem hx hb dL_refusesAny_48 (by decide) ?_
    refine qtop (y := 0) hpar ?_
    refine lv_if_ne (tgt := 61) hx hb dL_refusesAny_49 (by decide) (fun c_9 => absurd (by decide) c_9) (fun _ => ?_)
    refine lv_iconst (v := (-1)) hx hb dL_refusesAny_52 (by decide) ?_
    refine lv_iload_n hx hb dL_refusesAny_53 rfl (lv_at hl 3 rfl) ?_
    refine lv_bipush (v := 99) hx hb dL_refusesAny_54 (by decide) ?_
    refine lv_irem hx hb dL_refusesAny_56 (by decide) ?_
    refine qtop (y := nI q) hq ?_
    refine lv_isub hx hb dL_refusesAny_57 ?_
    refine lv_goto (tgt := 68) hx hb dL_refusesAny_58 (by decide) ?_
    refine lv_istore (lv' := [(4, .int ((-1) - (nI q))), (3, .int ((-1) - (nI q))), (2, .int ((-1) - (nI q))), (0, .ref o), (1, .int (nI n))]) hx hb dL_refusesAny_68 hl (by decide) rfl (fun ls hl => ?_)
    refine lv_aload_n hx hb dL_refusesAny_70 rfl (lv_at hl 3 rfl) ?_
    refine lv_iconst (v := 4) hx hb dL_refusesAny_71 (by decide) ?_
    refine lR (1) (As := [.int 4]) (rest := []) ⟨hx, hb, hml, hown, hts⟩ (k_count l G o t r h g b ok 4) ((cn4 ok.1 _ _).trans hu1) (cwV 1 hts gL_refusesAny_X3_count rfl rfl rfl (by decide +kernel) ⟨Nat.le_of_ble_eq_true rfl, Nat.le_of_ble_eq_true rfl⟩) hK hP rfl rfl hl.1 (Nat.le_of_ble_eq_true rfl) dL_refusesAny_72 ⟨Nat.le_of_ble_eq_true rfl, Nat.le_of_ble_eq_true rfl⟩ ?_
    refine lv_iconst (v := 1) hx hb dL_refusesAny_75 (by decide) ?_
    refine lv_icmp_ne (tgt := 83) hx hb dL_refusesAny_76 (by decide) (fun c_9 => absurd (by decide) c_9) (fun _ => ?_)
    refine lv_iconst (v := 1) hx hb dL_refusesAny_79 (by decide) ?_
    refine lv_goto (tgt := 84) hx hb dL_refusesAny_80 (by decide) ?_
    refine lv_istore (lv' := [(5, .int 1), (4, .int ((-1) - (nI q))), (3, .int ((-1) - (nI q))), (2, .int ((-1) - (nI q))), (0, .ref o), (1, .int (nI n))]) hx hb dL_refusesAny_84 hl (by decide) rfl (fun ls hl => ?_)
    refine lv_aload_n hx hb dL_refusesAny_86 rfl (lv_at hl 4 rfl) ?_
    refine lv_iload_n hx hb dL_refusesAny_87 rfl (lv_at hl 5 rfl) ?_
    refine lv_iconst (v := 2) hx hb dL_refusesAny_88 (by decide) ?_
    refine lv_irem hx hb dL_refusesAny_89 (by decide) ?_
    refine qtop (y := 0) hpar ?_
    refine lv_if_ne (tgt := 97) hx hb dL_refusesAny_90 (by decide) (fun c_9 => absurd (by decide) c_9) (fun _ => ?_)
    refine lv_iconst (v := (-1)) hx hb dL_refusesAny_93 (by decide) ?_
    refine lv_goto (tgt := 98) hx hb dL_refusesAny_94 (by decide) ?_
    refine lv_iconst (v := 1) hx hb dL_refusesAny_98 (by decide) ?_
    refine lWzr ((-100002)) (As := [.int (-1), .int 1]) (rest := []) ⟨hx, hb, hml, hown, hts⟩ (k_set l G o t r h g b ok (-1) 1 _) (refd (show seC (-1) 1 = (-100002) by decide +kernel) lz_2) (cwV 2 hts gL_refusesAny_X3_set rfl rfl rfl (by decide +kernel) ⟨Nat.le_of_ble_eq_true rfl, Nat.le_of_ble_eq_true rfl⟩) hK hz hP hD hS hA rfl rfl hl.1 (Nat.le_of_ble_eq_true rfl) dL_refusesAny_99 ⟨Nat.le_of_ble_eq_true rfl, Nat.le_of_ble_eq_true rfl⟩ (fun H locs hP hD hS => ?_)
    refine lv_ldc (v := (-100002)) hx hb hown wk1 dL_refusesAny_102 ?_
    refine lv_icmp_ne (tgt := 387) hx hb dL_refusesAny_104 (by decide) (fun c_9 => absurd (by decide) c_9) (fun _ => ?_)
    refine lv_aload_n hx hb dL_refusesAny_107 rfl (lv_at hl 4 rfl) ?_
    refine lv_iconst (v := 0) hx hb dL_refusesAny_108 (by decide) ?_
    refine lv_iload_n hx hb dL_refusesAny_109 rfl (lv_at hl 5 rfl) ?_
    refine lv_iconst (v := 2) hx hb dL_refusesAny_110 (by decide) ?_
    refine lv_irem hx hb dL_refusesAny_111 (by decide) ?_
    refine qtop (y := 0) hpar ?_
    refine lv_if_ne (tgt := 119) hx hb dL_refusesAny_112 (by decide) (fun c_9 => absurd (by decide) c_9) (fun _ => ?_)
    refine lv_iconst (v := 0) hx hb dL_refusesAny_115 (by decide) ?_
    refine lv_goto (tgt := 121) hx hb dL_refusesAny_116 (by decide) ?_
    refine lWzr ((-100002)) (As := [.int 0, .int 0]) (rest := []) ⟨hx, hb, hml, hown, hts⟩ (k_set l G o t r h g b ok 0 0 _) (refd (show seC 0 0 = (-100002) by decide +kernel) lz_2) (cwV 2 hts gL_refusesAny_X3_set rfl rfl rfl (by decide +kernel) ⟨Nat.le_of_ble_eq_true rfl, Nat.le_of_ble_eq_true rfl⟩) hK hz hP hD hS hA rfl rfl hl.1 (Nat.le_of_ble_eq_true rfl) dL_refusesAny_121 ⟨Nat.le_of_ble_eq_true rfl, Nat.le_of_ble_eq_true rfl⟩ (fun H locs hP hD hS => ?_)
    refine lv_ldc (v := (-100002)) hx hb hown wk1 dL_refusesAny_124 ?_
    refine lv_icmp_ne (tgt := 387) hx hb dL_refusesAny_126 (by decide) (fun c_9 => absurd (by decide) c_9) (fun _ => ?_)
    refine lv_aload_n hx hb dL_refusesAny_129 rfl (lv_at hl 4 rfl) ?_
    refine lv_iconst (v := 1) hx hb dL_refusesAny_130 (by decide) ?_
    refine lv_iload_n hx hb dL_refusesAny_131 rfl (lv_at hl 5 rfl) ?_
    refine lv_iconst (v := 2) hx hb dL_refusesAny_132 (by decide) ?_
    refine lv_irem hx hb dL_refusesAny_133 (by decide) ?_
    refine qtop (y := 0) hpar ?_
    refine lv_if_ne (tgt := 141) hx hb dL_refusesAny_134 (by decide) (fun c_9 => absurd (by decide) c_9) (fun _ => ?_)
    refine lv_iconst (v := (-1)) hx hb dL_refusesAny_137 (by decide) ?_
    refine lv_goto (tgt := 143) hx hb dL_refusesAny_138 (by decide) ?_
    refine lWzr ((-100002)) (As := [.int 1, .int (-1)]) (rest := []) ⟨hx, hb, hml, hown, hts⟩ (k_set l G o t r h g b ok 1 (-1) _) (refd (show seC 1 (-1) = (-100002) by decide +kernel) lz_2) (cwV 2 hts gL_refusesAny_X3_set rfl rfl rfl (by decide +kernel) ⟨Nat.le_of_ble_eq_true rfl, Nat.le_of_ble_eq_true rfl⟩) hK hz hP hD hS hA rfl rfl hl.1 (Nat.le_of_ble_eq_true rfl) dL_refusesAny_143 ⟨Nat.le_of_ble_eq_true rfl, Nat.le_of_ble_eq_true rfl⟩ (fun H locs hP hD hS => ?_)
    refine lv_ldc (v := (-100002)) hx hb hown wk1 dL_refusesAny_146 ?_
    refine lv_icmp_ne (tgt := 387) hx hb dL_refusesAny_148 (by decide) (fun c_9 => absurd (by decide) c_9) (fun _ => ?_)
    refine lv_aload_n hx hb dL_refusesAny_151 rfl (lv_at hl 4 rfl) ?_
    refine lv_iconst (v := 2) hx hb dL_refusesAny_152 (by decide) ?_
    refine lv_iload_n hx hb dL_refusesAny_153 rfl (lv_at hl 5 rfl) ?_
    refine lv_iconst (v := 2) hx hb dL_refusesAny_154 (by decide) ?_
    refine lv_irem hx hb dL_refusesAny_155 (by decide) ?_
    refine qtop (y := 0) hpar ?_
    refine lv_if_ne (tgt := 163) hx hb dL_refusesAny_156 (by decide) (fun c_9 => absurd (by decide) c_9) (fun _ => ?_)
    refine lv_iconst (v := (-1)) hx hb dL_refusesAny_159 (by decide) ?_
    refine lv_goto (tgt := 165) hx hb dL_refusesAny_160 (by decide) ?_
    refine lWzr ((-100002)) (As := [.int 2, .int (-1)]) (rest := []) ⟨hx, hb, hml, hown, hts⟩ (k_set l G o t r h g b ok 2 (-1) _) (refd (show seC 2 (-1) = (-100002) by decide +kernel) lz_2) (cwV 2 hts gL_refusesAny_X3_set rfl rfl rfl (by decide +kernel) ⟨Nat.le_of_ble_eq_true rfl, Nat.le_of_ble_eq_true rfl⟩) hK hz hP hD hS hA rfl rfl hl.1 (Nat.le_of_ble_eq_true rfl) dL_refusesAny_165 ⟨Nat.le_of_ble_eq_true rfl, Nat.le_of_ble_eq_true rfl⟩ (fun H locs hP hD hS => ?_)
    refine lv_ldc (v := (-100002)) hx hb hown wk1 dL_refusesAny_168 ?_
    refine lv_icmp_ne (tgt := 387) hx hb dL_refusesAny_170 (by decide) (fun c_9 => absurd (by decide) c_9) (fun _ => ?_)
    refine lv_aload_n hx hb dL_refusesAny_173 rfl (lv_at hl 4 rfl) ?_
    refine lv_iconst (v := 3) hx hb dL_refusesAny_174 (by decide) ?_
    refine lv_iload_n hx hb dL_refusesAny_175 rfl (lv_at hl 5 rfl) ?_
    refine lv_iconst (v := 2) hx hb dL_refusesAny_176 (by decide) ?_
    refine lv_irem hx hb dL_refusesAny_177 (by decide) ?_
    refine qtop (y := 0) hpar ?_
    refine lv_if_ne (tgt := 185) hx hb dL_refusesAny_178 (by decide) (fun c_9 => absurd (by decide) c_9) (fun _ => ?_)
    refine lv_iconst (v := (-1)) hx hb dL_refusesAny_181 (by decide) ?_
    refine lv_goto (tgt := 187) hx hb dL_refusesAny_182 (by decide) ?_
    refine lWzr ((-100002)) (As := [.int 3, .int (-1)]) (rest := []) ⟨hx, hb, hml, hown, hts⟩ (k_set l G o t r h g b ok 3 (-1) _) (refd (show seC 3 (-1) = (-100002) by decide +kernel) lz_2) (cwV 2 hts gL_refusesAny_X3_set rfl rfl rfl (by decide +kernel) ⟨Nat.le_of_ble_eq_true rfl, Nat.le_of_ble_eq_true rfl⟩) hK hz hP hD hS hA rfl rfl hl.1 (Nat.le_of_ble_eq_true rfl) dL_refusesAny_187 ⟨Nat.le_of_ble_eq_true rfl, Nat.le_of_ble_eq_true rfl⟩ (fun H locs hP hD hS => ?_)
    refine lv_ldc (v := (-100002)) hx hb hown wk1 dL_refusesAny_190 ?_
    refine lv_icmp_ne (tgt := 387) hx hb dL_refusesAny_192 (by decide) (fun c_9 => absurd (by decide) c_9) (fun _ => ?_)
    refine lv_aload_n hx hb dL_refusesAny_195 rfl (lv_at hl 4 rfl) ?_
    refine lv_iload_n hx hb dL_refusesAny_196 rfl (lv_at hl 3 rfl) ?_
    refine lv_iload_n hx hb dL_refusesAny_197 rfl (lv_at hl 2 rfl) ?_
    refine lWr ((-100001)) (As := [.int ((-1) - (nI q)), .int ((-1) - (nI q))]) (rest := []) ⟨hx, hb, hml, hown, hts⟩ (k_coins l G o t r h g b ok ((-1) - (nI q)) ((-1) - (nI q)) _) (refd (coC_no hno) lz_1) (cwV 2 hts gL_refusesAny_X3_coins rfl rfl rfl (by decide +kernel) ⟨Nat.le_of_ble_eq_true rfl, Nat.le_of_ble_eq_true rfl⟩) hK hP hD hS hA rfl rfl hl.1 (Nat.le_of_ble_eq_true rfl) dL_refusesAny_198 ⟨Nat.le_of_ble_eq_true rfl, Nat.le_of_ble_eq_true rfl⟩ (fun H locs hP hD hS => ?_)
    refine lv_ldc (v := (-100001)) hx hb hown wk2 dL_refusesAny_201 ?_
    refine lv_icmp_ne (tgt := 387) hx hb dL_refusesAny_203 (by decide) (fun c_9 => absurd (by decide) c_9) (fun _ => ?_)
    refine lv_aload_n hx hb dL_refusesAny_206 rfl (lv_at hl 4 rfl) ?_
    refine lv_iconst (v := 0) hx hb dL_refusesAny_207 (by decide) ?_
    refine lv_iload_n hx hb dL_refusesAny_208 rfl (lv_at hl 2 rfl) ?_
    refine lWr ((-100002)) (As := [.int 0, .int ((-1) - (nI q))]) (rest := []) ⟨hx, hb, hml, hown, hts⟩ (k_coins l G o t r h g b ok 0 ((-1) - (nI q)) _) (refd (coC_bad hfar) lz_2) (cwV 2 hts gL_refusesAny_X3_coins rfl rfl rfl (by decide +kernel) ⟨Nat.le_of_ble_eq_true rfl, Nat.le_of_ble_eq_true rfl⟩) hK hP hD hS hA rfl rfl hl.1 (Nat.le_of_ble_eq_true rfl) dL_refusesAny_209 ⟨Nat.le_of_ble_eq_true rfl, Nat.le_of_ble_eq_true rfl⟩ (fun H locs hP hD hS => ?_)
    refine lv_ldc (v := (-100002)) hx hb hown wk1 dL_refusesAny_212 ?_
    refine lv_icmp_ne (tgt := 387) hx hb dL_refusesAny_214 (by decide) (fun c_9 => absurd (by decide) c_9) (fun _ => ?_)
    refine lv_aload_n hx hb dL_refusesAny_217 rfl (lv_at hl 4 rfl) ?_
    refine lv_iload_n hx hb dL_refusesAny_218 rfl (lv_at hl 3 rfl) ?_
    refine lv_iload hx hb dL_refusesAny_219 (lv_at hl 1 rfl) ?_
    refine lWr ((-100001)) (As := [.int ((-1) - (nI q)), .int ((-1) - (nI q))]) (rest := []) ⟨hx, hb, hml, hown, hts⟩ (k_limit l G o t r h g b ok ((-1) - (nI q)) ((-1) - (nI q)) _) (refd (liC_no hno) lz_1) (cwV 2 hts gL_refusesAny_X3_limit rfl rfl rfl (by decide +kernel) ⟨Nat.le_of_ble_eq_true rfl, Nat.le_of_ble_eq_true rfl⟩) hK hP hD hS hA rfl rfl hl.1 (Nat.le_of_ble_eq_true rfl) dL_refusesAny_221 ⟨Nat.le_of_ble_eq_true rfl, Nat.le_of_ble_eq_true rfl⟩ (fun H locs hP hD hS => ?_)
    refine lv_ldc (v := (-100001)) hx hb hown wk2 dL_refusesAny_224 ?_
    refine lv_icmp_ne (tgt := 387) hx hb dL_refusesAny_226 (by decide) (fun c_9 => absurd (by decide) c_9) (fun _ => ?_)
    refine lv_aload_n hx hb dL_refusesAny_229 rfl (lv_at hl 4 rfl) ?_
    refine lv_iconst (v := 0) hx hb dL_refusesAny_230 (by decide) ?_
    refine lv_iload hx hb dL_refusesAny_231 (lv_at hl 1 rfl) ?_
    refine lWr ((-100002)) (As := [.int 0, .int ((-1) - (nI q))]) (rest := []) ⟨hx, hb, hml, hown, hts⟩ (k_limit l G o t r h g b ok 0 ((-1) - (nI q)) _) (refd (liC_bad hsome) lz_2) (cwV 2 hts gL_refusesAny_X3_limit rfl rfl rfl (by decide +kernel) ⟨Nat.le_of_ble_eq_true rfl, Nat.le_of_ble_eq_true rfl⟩) hK hP hD hS hA rfl rfl hl.1 (Nat.le_of_ble_eq_true rfl) dL_refusesAny_233 ⟨Nat.le_of_ble_eq_true rfl, Nat.le_of_ble_eq_true rfl⟩ (fun H locs hP hD hS => ?_)
    refine lv_ldc (v := (-100002)) hx hb hown wk1 dL_refusesAny_236 ?_
    refine lv_icmp_ne (tgt := 387) hx hb dL_refusesAny_238 (by decide) (fun c_9 => absurd (by decide) c_9) (fun _ => ?_)
    refine lv_aload_n hx hb dL_refusesAny_241 rfl (lv_at hl 4 rfl) ?_
    refine lv_iload_n hx hb dL_refusesAny_242 rfl (lv_at hl 3 rfl) ?_
    refine lv_iload hx hb dL_refusesAny_243 (lv_at hl 1 rfl) ?_
    refine lWr ((-100001)) (As := [.int ((-1) - (nI q)), .int ((-1) - (nI q))]) (rest := []) ⟨hx, hb, hml, hown, hts⟩ (k_prize l G o t r h g b ok ((-1) - (nI q)) ((-1) - (nI q)) _) (refd (liC_no hno) lz_1) (cwV 2 hts gL_refusesAny_X3_prize rfl rfl rfl (by decide +kernel) ⟨Nat.le_of_ble_eq_true rfl, Nat.le_of_ble_eq_true rfl⟩) hK hP hD hS hA rfl rfl hl.1 (Nat.le_of_ble_eq_true rfl) dL_refusesAny_245 ⟨Nat.le_of_ble_eq_true rfl, Nat.le_of_ble_eq_true rfl⟩ (fun H locs hP hD hS => ?_)
    refine lv_ldc (v := (-100001)) hx hb hown wk2 dL_refusesAny_248 ?_
    refine lv_icmp_ne (tgt := 387) hx hb dL_refusesAny_250 (by decide) (fun c_9 => absurd (by decide) c_9) (fun _ => ?_)
    refine lv_aload_n hx hb dL_refusesAny_253 rfl (lv_at hl 4 rfl) ?_
    refine lv_iconst (v := 0) hx hb dL_refusesAny_254 (by decide) ?_
    refine lv_iload hx hb dL_refusesAny_255 (lv_at hl 1 rfl) ?_
    refine lWr ((-100002)) (As := [.int 0, .int ((-1) - (nI q))]) (rest := []) ⟨hx, hb, hml, hown, hts⟩ (k_prize l G o t r h g b ok 0 ((-1) - (nI q)) _) (refd (liC_bad hsome) lz_2) (cwV 2 hts gL_refusesAny_X3_prize rfl rfl rfl (by decide +kernel) ⟨Nat.le_of_ble_eq_true rfl, Nat.le_of_ble_eq_true rfl⟩) hK hP hD hS hA rfl rfl hl.1 (Nat.le_of_ble_eq_true rfl) dL_refusesAny_257 ⟨Nat.le_of_ble_eq_true rfl, Nat.le_of_ble_eq_true rfl⟩ (fun H locs hP hD hS => ?_)
    refine lv_ldc (v := (-100002)) hx hb hown wk1 dL_refusesAny_260 ?_
    refine lv_icmp_ne (tgt := 387) hx hb dL_refusesAny_262 (by decide) (fun c_9 => absurd (by decide) c_9) (fun _ => ?_)
    refine lv_aload_n hx hb dL_refusesAny_265 rfl (lv_at hl 4 rfl) ?_
    refine lv_iload_n hx hb dL_refusesAny_266 rfl (lv_at hl 2 rfl) ?_
    refine lWr ((-100002)) (As := [.int ((-1) - (nI q))]) (rest := []) ⟨hx, hb, hml, hown, hts⟩ (k_bid l G o t r h g b ok ((-1) - (nI q)) _) (refd (bdC_bad hfar) lz_2) (cwV 1 hts gL_refusesAny_X3_bid rfl rfl rfl (by decide +kernel) ⟨Nat.le_of_ble_eq_true rfl, Nat.le_of_ble_eq_true rfl⟩) hK hP hD hS hA rfl rfl hl.1 (Nat.le_of_ble_eq_true rfl) dL_refusesAny_267 ⟨Nat.le_of_ble_eq_true rfl, Nat.le_of_ble_eq_true rfl⟩ (fun H locs hP hD hS => ?_)
    refine lv_ldc (v := (-100002)) hx hb hown wk1 dL_refusesAny_270 ?_
    refine lv_icmp_ne (tgt := 387) hx hb dL_refusesAny_272 (by decide) (fun c_9 => absurd (by decide) c_9) (fun _ => ?_)
    refine lv_iload hx hb dL_refusesAny_275 (lv_at hl 0 rfl) ?_
    refine lv_if_eq (tgt := 355) hx hb dL_refusesAny_277 (by decide) (fun c_9 => absurd c_9 (by decide)) (fun _ => ?_)
    refine lv_aload_n hx hb dL_refusesAny_280 rfl (lv_at hl 4 rfl) ?_
    refine lWr ((-100005)) (As := []) (rest := []) ⟨hx, hb, hml, hown, hts⟩ (k_begin l G o t r h g b ok  _) (refdn hu) (cwV 0 hts gL_refusesAny_X3_begin rfl rfl rfl (by decide +kernel) ⟨Nat.le_of_ble_eq_true rfl, Nat.le_of_ble_eq_true rfl⟩) hK hP hD hS hA rfl rfl hl.1 (Nat.le_of_ble_eq_true rfl) dL_refusesAny_281 ⟨Nat.le_of_ble_eq_true rfl, Nat.le_of_ble_eq_true rfl⟩ (fun H locs hP hD hS => ?_)
    refine lv_ldc (v := (-100005)) hx hb hown wk3 dL_refusesAny_284 ?_
    refine lv_icmp_ne (tgt := 387) hx hb dL_refusesAny_286 (by decide) (fun c_9 => absurd (by decide) c_9) (fun _ => ?_)
    have J315 : ∀ (H : Heap) (locs : List Loc), va_P G.1 vwCl (ows G o t r h g b k) H → va_D A (ows G o t r h g b k) → va_S A s.heap H locs → ∀ ls : Array Slot, lv_has ls 7 [(5, .int 1), (4, .int ((-1) - (nI q))), (3, .int ((-1) - (nI q))), (2, .int ((-1) - (nI q))), (0, .ref o), (1, .int (nI n))] → W p l e { frames := 8, cells := 198, slots := 1116, locals := 176 } s m ([.ref o, .int (nI n)] : List Value).toArray below meth c H locs (154) (868) Q (F0 m 315 ls []) := by
      intro H locs hP hD hS ls hl
      refine lv_aload_n hx hb dL_refusesAny_315 rfl (lv_at hl 4 rfl) ?_
      refine lv_aload_n hx hb dL_refusesAny_316 rfl (lv_at hl 4 rfl) ?_
      refine lv_iconst (v := 5) hx hb dL_refusesAny_317 (by decide) ?_
      refine lR (nI j) (As := [.int 5]) (rest := [.ref o]) ⟨hx, hb, hml, hown, hts⟩ (k_count l G o t r h g b ok 5) ((cn5 _ _ _).trans (ht)) (cwV 1 hts gL_refusesAny_X3_count rfl rfl rfl (by decide +kernel) ⟨Nat.le_of_ble_eq_true rfl, Nat.le_of_ble_eq_true rfl⟩) hK hP rfl rfl hl.1 (Nat.le_of_ble_eq_true rfl) dL_refusesAny_318 ⟨Nat.le_of_ble_eq_true rfl, Nat.le_of_ble_eq_true rfl⟩ ?_
      refine lv_iconst (v := 0) hx hb dL_refusesAny_321 (by decide) ?_
      refine lR (nI cj) (As := [.int (nI j), .int 0]) (rest := []) ⟨hx, hb, hml, hown, hts⟩ (k_player l G o t r h g b ok (nI j) 0) ((pl_at k.1 hj 0 (by decide)).trans hcj) (cwV 2 hts gL_refusesAny_X3_player rfl rfl rfl (by decide +kernel) ⟨Nat.le_of_ble_eq_true rfl, Nat.le_of_ble_eq_true rfl⟩) hK hP rfl rfl hl.1 (Nat.le_of_ble_eq_true rfl) dL_refusesAny_322 ⟨Nat.le_of_ble_eq_true rfl, Nat.le_of_ble_eq_true rfl⟩ ?_
      refine lv_sipush (v := 9999) hx hb dL_refusesAny_325 (by decide) ?_
      refine lv_icmp_eq (tgt := 383) hx hb dL_refusesAny_328 (by decide) (fun c_9c => ?_) (fun c_9c => ?_)
      · refine W.widen (k := 165) (n := 930) (Nat.le_of_ble_eq_true rfl) (Nat.le_of_ble_eq_true rfl) ?_
        exact J383 _ _ hP hD hS ls (lv_sub hl [1, 2, 3, 5, 4] rfl)
      · have h9 : cj ≠ 9999 := fun q0 => c_9c (by rw [q0]; rfl)
        refine lv_aload_n hx hb dL_refusesAny_331 rfl (lv_at hl 4 rfl) ?_
        refine lv_aload_n hx hb dL_refusesAny_332 rfl (lv_at hl 4 rfl) ?_
        refine lv_aload_n hx hb dL_refusesAny_333 rfl (lv_at hl 4 rfl) ?_
        refine lv_iconst (v := 5) hx hb dL_refusesAny_334 (by decide) ?_
        refine lR (nI j) (As := [.int 5]) (rest := [.ref o, .ref o]) ⟨hx, hb, hml, hown, hts⟩ (k_count l G o t r h g b ok 5) ((cn5 _ _ _).trans (ht)) (cwV 1 hts gL_refusesAny_X3_count rfl rfl rfl (by decide +kernel) ⟨Nat.le_of_ble_eq_true rfl, Nat.le_of_ble_eq_true rfl⟩) hK hP rfl rfl hl.1 (Nat.le_of_ble_eq_true rfl) dL_refusesAny_335 ⟨Nat.le_of_ble_eq_true rfl, Nat.le_of_ble_eq_true rfl⟩ ?_
        refine lv_iconst (v := 0) hx hb dL_refusesAny_338 (by decide) ?_
        refine lR (nI cj) (As := [.int (nI j), .int 0]) (rest := [.ref o]) ⟨hx, hb, hml, hown, hts⟩ (k_player l G o t r h g b ok (nI j) 0) ((pl_at k.1 hj 0 (by decide)).trans hcj) (cwV 2 hts gL_refusesAny_X3_player rfl rfl rfl (by decide +kernel) ⟨Nat.le_of_ble_eq_true rfl, Nat.le_of_ble_eq_true rfl⟩) hK hP rfl rfl hl.1 (Nat.le_of_ble_eq_true rfl) dL_refusesAny_339 ⟨Nat.le_of_ble_eq_true rfl, Nat.le_of_ble_eq_true rfl⟩ ?_
        refine lv_iconst (v := 1) hx hb dL_refusesAny_342 (by decide) ?_
        refine lv_iadd hx hb dL_refusesAny_343 ?_
        refine qtop (y := nI (cj + 1)) (nI_add cj 1) ?_
        refine lWr ((-100005)) (As := [.int (nI (cj + 1))]) (rest := []) ⟨hx, hb, hml, hown, hts⟩ (k_bid l G o t r h g b ok (nI (cj + 1)) _) (refd (bdC_np (v := cj + 1) (by omega) hmc) lz_5) (cwV 1 hts gL_refusesAny_X3_bid rfl rfl rfl (by decide +kernel) ⟨Nat.le_of_ble_eq_true rfl, Nat.le_of_ble_eq_true rfl⟩) hK hP hD hS hA rfl rfl hl.1 (Nat.le_of_ble_eq_true rfl) dL_refusesAny_344 ⟨Nat.le_of_ble_eq_true rfl, Nat.le_of_ble_eq_true rfl⟩ (fun H locs hP hD hS => ?_)
        refine lv_ldc (v := (-100005)) hx hb hown wk3 dL_refusesAny_347 ?_
        refine lv_icmp_ne (tgt := 387) hx hb dL_refusesAny_349 (by decide) (fun c_9 => absurd (by decide) c_9) (fun _ => ?_)
        refine lv_goto (tgt := 383) hx hb dL_refusesAny_352 (by decide) ?_
        refine W.widen (k := 165) (n := 930) (Nat.le_of_ble_eq_true rfl) (Nat.le_of_ble_eq_true rfl) ?_
        exact J383 _ _ hP hD hS ls (lv_sub hl [1, 2, 3, 5, 4] rfl)
    refine lv_aload_n hx hb dL_refusesAny_289 rfl (lv_at hl 4 rfl) ?_
    refine lv_bipush (v := 7) hx hb dL_refusesAny_290 (by decide) ?_
    refine lR (nI n7) (As := [.int 7]) (rest := []) ⟨hx, hb, hml, hown, hts⟩ (k_count l G o t r h g b ok 7) ((cn7 _ _ _).trans (hle)) (cwV 1 hts gL_refusesAny_X3_count rfl rfl rfl (by decide +kernel) ⟨Nat.le_of_ble_eq_true rfl, Nat.le_of_ble_eq_true rfl⟩) hK hP rfl rfl hl.1 (Nat.le_of_ble_eq_true rfl) dL_refusesAny_292 ⟨Nat.le_of_ble_eq_true rfl, Nat.le_of_ble_eq_true rfl⟩ ?_
    refine lv_if_eq (tgt := 315) hx hb dL_refusesAny_295 (by decide) (fun c_7 => ?_) (fun c_7 => ?_)
    · refine W.widen (k := 154) (n := 868) (Nat.le_of_ble_eq_true rfl) (Nat.le_of_ble_eq_true rfl) ?_
      exact J315 _ _ hP hD hS ls (lv_sub hl [0, 1, 2, 3, 4, 5] rfl)
    · have h7 : 1 ≤ n7 := by
        rcases Nat.eq_zero_or_pos n7 with q0 | q0
        · exact absurd (by rw [q0]; rfl) c_7
        · exact q0
      have hm7 : mayB k.1 (nI (n7 - 1)) = 0 := by rw [hmq, hle, if_pos (nI_lt (a := n7 - 1) (b := n7) (by omega) (by omega))]
      refine lv_aload_n hx hb dL_refusesAny_298 rfl (lv_at hl 4 rfl) ?_
      refine lv_aload_n hx hb dL_refusesAny_299 rfl (lv_at hl 4 rfl) ?_
      refine lv_bipush (v := 7) hx hb dL_refusesAny_300 (by decide) ?_
      refine lR (nI n7) (As := [.int 7]) (rest := [.ref o]) ⟨hx, hb, hml, hown, hts⟩ (k_count l G o t r h g b ok 7) ((cn7 _ _ _).trans (hle)) (cwV 1 hts gL_refusesAny_X3_count rfl rfl rfl (by decide +kernel) ⟨Nat.le_of_ble_eq_true rfl, Nat.le_of_ble_eq_true rfl⟩) hK hP rfl rfl hl.1 (Nat.le_of_ble_eq_true rfl) dL_refusesAny_302 ⟨Nat.le_of_ble_eq_true rfl, Nat.le_of_ble_eq_true rfl⟩ ?_
      refine lv_iconst (v := 1) hx hb dL_refusesAny_305 (by decide) ?_
      refine lv_isub hx hb dL_refusesAny_306 ?_
      refine qtop (y := nI (n7 - 1)) (pk_sub (a := n7) (b := 1) h7) ?_
      refine lWr ((-100005)) (As := [.int (nI (n7 - 1))]) (rest := []) ⟨hx, hb, hml, hown, hts⟩ (k_bid l G o t r h g b ok (nI (n7 - 1)) _) (refd (bdC_np (v := n7 - 1) (by omega) hm7) lz_5) (cwV 1 hts gL_refusesAny_X3_bid rfl rfl rfl (by decide +kernel) ⟨Nat.le_of_ble_eq_true rfl, Nat.le_of_ble_eq_true rfl⟩) hK hP hD hS hA rfl rfl hl.1 (Nat.le_of_ble_eq_true rfl) dL_refusesAny_307 ⟨Nat.le_of_ble_eq_true rfl, Nat.le_of_ble_eq_true rfl⟩ (fun H locs hP hD hS => ?_)
      refine lv_ldc (v := (-100005)) hx hb hown wk3 dL_refusesAny_310 ?_
      refine lv_icmp_ne (tgt := 387) hx hb dL_refusesAny_312 (by decide) (fun c_9 => absurd (by decide) c_9) (fun _ => ?_)
      refine W.widen (k := 154) (n := 868) (Nat.le_of_ble_eq_true rfl) (Nat.le_of_ble_eq_true rfl) ?_
      exact J315 _ _ hP hD hS ls (lv_sub hl [0, 1, 2, 3, 4, 5] rfl)
