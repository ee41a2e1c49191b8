/-! THE LAW'S LOOP, AND THE LAW FROM ITS ENTRY -/
theorem LG.mono {G : qG} {s : State} {o : Nat} {t r h : Nat → Nat} {g : Nat} {b a : Nat → Nat} {j : Nat} {H : Heap} {locs : List Loc} (hG : LG G s o t r h g b a j H locs) : LG G s o t r h g b a (j + 1) H locs := by
  obtain ⟨k, z, sp, pa, sl, sv, pd, tl, n, q, spt, tm, hI, hn, hP, hD, hS⟩ := hG
  exact ⟨k, z, sp, pa, sl, sv, pd, tl, n, q, spt, tm, hI, Nat.le_succ_of_le hn, hP, hD, hS⟩
theorem LG.S {G : qG} {s : State} {o : Nat} {t r h : Nat → Nat} {g : Nat} {b a : Nat → Nat} {j : Nat} {H : Heap} {locs : List Loc} (hG : LG G s o t r h g b a j H locs) : va_S (fun q : Nat => s.heap.size ≤ q) s.heap H locs := by
  obtain ⟨k, z, sp, pa, sl, sv, pd, tl, n, q, spt, tm, hI, hn, hP, hD, hS⟩ := hG
  exact hS
section LAWL
variable {p : Program} {l : Launch} {e : Env} {s : State} {m : MethodId} {below : List Frame} {meth : Method} {c : Code} {H : Heap} {locs : List Loc} {cells slots : Nat} {Q : State → Prop} {ls : Array Slot} {G : qG} {o : Nat} {t r h : Nat → Nat} {g : Nat} {b a : Nat → Nat} {bs L j : Nat} {xs : Nat → Int32}
set_option maxHeartbeats 4000000 in
set_option maxRecDepth 100000 in
theorem lw_case (C0 : lwC p s m c G bs L xs) (hj : 3 * j + 2 < L) (hG : LG G s o t r h g b a j H locs) (hl : lv_has ls 4 [(0, .ref bs), (1, .ref o), (2, .ref (a 0)), (3, .int (nI (3 * j)))]) (hro : cells + 11 ≤ 651086 ∧ slots + 62 ≤ 7148989)
    (kk : ∀ (H1 : Heap) (locs1 : List Loc), LG G s o t r h g b a (j + 1) H1 locs1 → W p l e room_1 s m #[Value.ref bs] below meth c H1 locs1 (cells + 11) (slots + 62) Q (F0 m 743 ls [])) : W p l e room_1 s m #[Value.ref bs] below meth c H locs cells slots Q (F0 m 32 ls [.int (xs (3 * j) &&& 31)]) := by
  have hx := C0.1
  have hb := C0.2.1
  have hdef : W p l e room_1 s m #[Value.ref bs] below meth c H locs cells slots Q (F0 m 743 ls []) := W.widen (k := cells + 11) (n := slots + 62) (by omega) (by omega) (kk _ _ hG.mono)
  obtain ⟨k, hk, e0⟩ := pk_andE (xs (3 * j)) (m := 31) 5 (by decide +kernel)
  rw [e0]
  match k, hk with
  | 0, _ => exact lv_tableIn (off := 116) (tgt := 148) hx hb dL_law_32 (by decide +kernel) (by decide +kernel) (by decide +kernel) (by decide) (lw_set C0 hj hG hl hro kk)
  | 1, _ => exact lv_tableIn (off := 149) (tgt := 181) hx hb dL_law_32 (by decide +kernel) (by decide +kernel) (by decide +kernel) (by decide) (lw_coins C0 hj hG hl hro kk)
  | 2, _ => exact lv_tableIn (off := 182) (tgt := 214) hx hb dL_law_32 (by decide +kernel) (by decide +kernel) (by decide +kernel) (by decide) (lw_limit C0 hj hG hl hro kk)
  | 3, _ => exact lv_tableIn (off := 215) (tgt := 247) hx hb dL_law_32 (by decide +kernel) (by decide +kernel) (by decide +kernel) (by decide) (lw_prize C0 hj hG hl hro kk)
  | 4, _ => exact lv_tableIn (off := 248) (tgt := 280) hx hb dL_law_32 (by decide +kernel) (by decide +kernel) (by decide +kernel) (by decide) (lw_begin C0 hj hG hl hro kk)
  | 5, _ => exact lv_tableIn (off := 261) (tgt := 293) hx hb dL_law_32 (by decide +kernel) (by decide +kernel) (by decide +kernel) (by decide) (lw_bid C0 hj hG hl hro kk)
  | 6, _ => exact lv_tableIn (off := 284) (tgt := 316) hx hb dL_law_32 (by decide +kernel) (by decide +kernel) (by decide +kernel) (by decide) (lw_drop C0 hj hG hl hro kk)
  | 7, _ => exact lv_tableIn (off := 297) (tgt := 329) hx hb dL_law_32 (by decide +kernel) (by decide +kernel) (by decide +kernel) (by decide) (lw_act C0 hj hG hl hro kk)
  | 8, _ => exact lv_tableIn (off := 310) (tgt := 342) hx hb dL_law_32 (by decide +kernel) (by decide +kernel) (by decide +kernel) (by decide) (lw_finish C0 hj hG hl hro kk)
  | 9, _ => exact lv_tableIn (off := 323) (tgt := 355) hx hb dL_law_32 (by decide +kernel) (by decide +kernel) (by decide +kernel) (by decide) (lw_run C0 hj hG hl hro kk)
  | 10, _ => exact lv_tableIn (off := 336) (tgt := 368) hx hb dL_law_32 (by decide +kernel) (by decide +kernel) (by decide +kernel) (by decide) (lw_player C0 hj hG hl hro kk)
  | 11, _ => exact lv_tableIn (off := 369) (tgt := 401) hx hb dL_law_32 (by decide +kernel) (by decide +kernel) (by decide +kernel) (by decide) (lw_at C0 hj hG hl hro kk)
  | 12, _ => exact lv_tableIn (off := 392) (tgt := 424) hx hb dL_law_32 (by decide +kernel) (by decide +kernel) (by decide +kernel) (by decide) (lw_count C0 hj hG hl hro kk)
  | 13, _ => exact lv_tableIn (off := 415) (tgt := 447) hx hb dL_law_32 (by decide +kernel) (by decide +kernel) (by decide +kernel) (by decide) (lw_prizeOf C0 hj hG hl hro kk)
  | 14, _ => exact lv_tableIn (off := 438) (tgt := 470) hx hb dL_law_32 (by decide +kernel) (by decide +kernel) (by decide +kernel) (by decide) (lw_ifFinished C0 hj hG hl hro kk)
  | 15, _ => exact lv_tableIn (off := 471) (tgt := 503) hx hb dL_law_32 (by decide +kernel) (by decide +kernel) (by decide +kernel) (by decide) (lw_bestLimit C0 hj hG hl hro kk)
  | 16, _ => exact lv_tableIn (off := 504) (tgt := 536) hx hb dL_law_32 (by decide +kernel) (by decide +kernel) (by decide +kernel) (by decide) (lw_coinsBehind C0 hj hG hl hro kk)
  | 17, _ => exact lv_tableIn (off := 537) (tgt := 569) hx hb dL_law_32 (by decide +kernel) (by decide +kernel) (by decide +kernel) (by decide) (lw_richest C0 hj hG hl hro kk)
  | 18, _ => exact lv_tableIn (off := 560) (tgt := 592) hx hb dL_law_32 (by decide +kernel) (by decide +kernel) (by decide +kernel) (by decide) (lw_movesLeft C0 hj hG hl hro kk)
  | 19, _ => exact lv_tableIn (off := 573) (tgt := 605) hx hb dL_law_32 (by decide +kernel) (by decide +kernel) (by decide +kernel) (by decide) (lw_put C0 hj hG hl hro kk)
  | 20, _ => exact lv_tableIn (off := 626) (tgt := 658) hx hb dL_law_32 (by decide +kernel) (by decide +kernel) (by decide +kernel) (by decide) (lw_wipe C0 hj hG hl hro kk)
  | 21, _ => exact lv_tableIn (off := 639) (tgt := 671) hx hb dL_law_32 (by decide +kernel) (by decide +kernel) (by decide +kernel) (by decide) (lw_fault C0 hj hG hl hro kk)
  | 22, _ => exact lv_tableIn (off := 652) (tgt := 684) hx hb dL_law_32 (by decide +kernel) (by decide +kernel) (by decide +kernel) (by decide) (lw_undo C0 hj hG hl hro kk)
  | 23, _ => exact lv_tableIn (off := 665) (tgt := 697) hx hb dL_law_32 (by decide +kernel) (by decide +kernel) (by decide +kernel) (by decide) (lw_save C0 hj hG hl hro kk)
  | 24, _ => exact lv_tableIn (off := 688) (tgt := 720) hx hb dL_law_32 (by decide +kernel) (by decide +kernel) (by decide +kernel) (by decide) (lw_restore C0 hj hG hl hro kk)
  | 25, _ => exact lv_tableOut (tgt := 743) hx hb dL_law_32 (by decide +kernel) (by decide) hdef
  | 26, _ => exact lv_tableOut (tgt := 743) hx hb dL_law_32 (by decide +kernel) (by decide) hdef
  | 27, _ => exact lv_tableOut (tgt := 743) hx hb dL_law_32 (by decide +kernel) (by decide) hdef
  | 28, _ => exact lv_tableOut (tgt := 743) hx hb dL_law_32 (by decide +kernel) (by decide) hdef
  | 29, _ => exact lv_tableOut (tgt := 743) hx hb dL_law_32 (by decide +kernel) (by decide) hdef
  | 30, _ => exact lv_tableOut (tgt := 743) hx hb dL_law_32 (by decide +kernel) (by decide) hdef
  | 31, _ => exact lv_tableOut (tgt := 743) hx hb dL_law_32 (by decide +kernel) (by decide) hdef
  | k + 32, hk => exact absurd hk (by omega)
set_option maxHeartbeats 4000000 in
set_option maxRecDepth 100000 in
/-- one round of the loop -/
theorem lw_iter (hr : meth.sig.returnType = ret) (hlocks : meth.locks = false) (C0 : lwC p s m c G bs L xs) (hj : j ≤ 512) (hG : LG G s o t r h g b a j H locs) (hl : lv_has ls 4 [(0, .ref bs), (1, .ref o), (2, .ref (a 0)), (3, .int (nI (3 * j)))])
    (ih : 3 * j + 2 < L → ∀ (H : Heap) (locs : List Loc), LG G s o t r h g b a (j + 1) H locs → ∀ ls : Array Slot, lv_has ls 4 [(0, .ref bs), (1, .ref o), (2, .ref (a 0)), (3, .int (nI (3 * (j + 1))))] → W p l e room_1 s m #[Value.ref bs] below meth c H locs (100 + 11 * (j + 1)) (1000 + 62 * (j + 1)) (lw_Z below #[Value.ref bs] s) (F0 m 18 ls [])) :
    W p l e room_1 s m #[Value.ref bs] below meth c H locs (100 + 11 * j) (1000 + 62 * j) (lw_Z below #[Value.ref bs] s) (F0 m 18 ls []) := by
  have C1 := C0
  obtain ⟨hx, hb, hml, hown, hts, hX, hbl, hK, hz, hL⟩ := C1
  have hS := hG.S
  have hbA : ¬ (fun q : Nat => s.heap.size ≤ q) bs := Nat.not_le.mpr hbl
  refine lv_iload_n hx hb dL_law_18 rfl (lv_at hl 3 rfl) ?_
  refine lv_aload_n hx hb dL_law_19 rfl (lv_at hl 0 rfl) ?_
  refine va_slen hx hb hX hbl hbA hS dL_law_20 ?_
  refine lv_iconst (v := 3) hx hb dL_law_21 (by decide) ?_
  refine lv_isub hx hb dL_law_22 ?_
  refine lv_icmp_gt (tgt := 749) hx hb dL_law_23 (by decide) (fun q => ?_) (fun q => ?_)
  · refine lv_iconst (v := 1) hx hb dL_law_749 (by decide) ?_
    refine va_forget (fun q hq => hS.2.2 q hq) ?_
    refine W.widen (k := 651086) (n := 7148989) (by omega) (by omega) ?_
    exact lw_ret hx hb hr hlocks dL_law_750
  · have hlt : 3 * j + 2 < L := by
      have q1 : ¬ nI L - nI 3 < nI (3 * j) := q
      rw [Int32.lt_iff_toInt_lt, sub_toInt (by omega) (by omega), nI_toInt (by omega)] at q1
      omega
    refine lv_aload_n hx hb dL_law_26 rfl (lv_at hl 0 rfl) ?_
    refine lv_iload_n hx hb dL_law_27 rfl (lv_at hl 3 rfl) ?_
    refine va_sld hx hb hX hbl hbA hS (vp_in_nI (by omega) (by omega)) dL_law_28 ?_
    rw [nI_clamp (by omega)]
    refine lv_bipush (v := 31) hx hb dL_law_29 (by decide) ?_
    refine lv_iand hx hb dL_law_31 ?_
    refine lw_case C0 hlt hG hl ⟨by omega, by omega⟩ (fun H1 locs1 hG1 => ?_)
    refine lv_iinc (v := nI (3 * (j + 1))) (k := 3) (lv' := [(3, .int (nI (3 * (j + 1)))), (0, .ref bs), (1, .ref o), (2, .ref (a 0))]) hx hb dL_law_743 hl rfl ((nI_add (3 * j) 3).trans (congrArg nI (by omega))) (by decide) rfl (fun ls hl => ?_)
    refine lv_goto (tgt := 18) hx hb dL_law_746 (by decide) ?_
    exact ih hlt _ _ hG1 _ (lv_sub hl [1, 2, 3, 0] rfl)
theorem lw_loop (hr : meth.sig.returnType = ret) (hlocks : meth.locks = false) (C0 : lwC p s m c G bs L xs) : ∀ (nn j : Nat), 600 ≤ j + nn → j ≤ 512 → ∀ (H : Heap) (locs : List Loc), LG G s o t r h g b a j H locs → ∀ ls : Array Slot, lv_has ls 4 [(0, .ref bs), (1, .ref o), (2, .ref (a 0)), (3, .int (nI (3 * j)))] → W p l e room_1 s m #[Value.ref bs] below meth c H locs (100 + 11 * j) (1000 + 62 * j) (lw_Z below #[Value.ref bs] s) (F0 m 18 ls []) := by
  intro nn
  induction nn with
  | zero => intro j h1 h2; omega
  | succ nn ih =>
    intro j h1 h2 H locs hG ls hl
    have hL := C0.2.2.2.2.2.2.2.2.2
    exact lw_iter hr hlocks C0 h2 hG hl (fun hlt H locs hG ls hl => ih (j + 1) (by omega) (by omega) H locs hG ls hl)
end LAWL
theorem lw_mem {w : Cond} {i : Nat} (h : tables_1[i]? = some w) : w ∈ lw_tbl := List.mem_append_right _ (List.mem_of_getElem? h)
set_option maxRecDepth 100000 in
/-- the classes, the arrays' classes, the nest mates -/
theorem law_world {args : Array Value} {s : State} (hts : ∀ w ∈ lw_tbl, w.before args s = true) : ∃ G : qG, KK G s := by
  obtain ⟨c0, i0, k0⟩ := u_known (C := RX0) (T := TX0) (N := 3) (n := 3) hts inX0 (hts (.instantiable RX0 3) (lw_mem (i := 79) (by decide +kernel)))
  obtain ⟨c1, i1, k1⟩ := u_known (C := RX1) (T := TX1) (N := 2) (n := 2) hts inX1 (hts (.instantiable RX1 2) (lw_mem (i := 98) (by decide +kernel)))
  obtain ⟨c2, i2, k2⟩ := u_known (C := RX2) (T := TX2) (N := 13) (n := 13) hts inX2 (hts (.instantiable RX2 13) (lw_mem (i := 18) (by decide +kernel)))
  obtain ⟨c3, i3, k3⟩ := u_known (C := RX3) (T := TX3) (N := 5) (n := 5) hts inX3 (hts (.instantiable RX3 5) (lw_mem (i := 10) (by decide +kernel)))
  obtain ⟨c4, i4, k4⟩ := u_known (C := RX4) (T := TX4) (N := 11) (n := 11) hts inX4 (hts (.instantiable RX4 11) (lw_mem (i := 386) (by decide +kernel)))
  obtain ⟨cI, kI, pI, fI, gI', eI⟩ := Cond.arrayClass_spec (hts (.arrayClass .int) (lw_mem (i := 77) (by decide +kernel)))
  obtain ⟨cC, kC, pC, fC, gC', eC⟩ := Cond.arrayClass_spec (hts (.arrayClass .char) (lw_mem (i := 111) (by decide +kernel)))
  obtain ⟨cZ, kZ, pZ, fZ, gZ', eZ⟩ := Cond.arrayClass_spec (hts (.arrayClass .boolean) (lw_mem (i := 430) (by decide +kernel)))
  have hAO := hts (.arrayOver (.object RX2)) (lw_mem (i := 85) (by decide +kernel))
  obtain ⟨comp, cR, kR, r1, r2, r3, r4, r5⟩ := Cond.arrayOver_spec hAO
  refine ⟨((fun k => if k = 0 then c0 else if k = 1 then c1 else if k = 2 then c2 else if k = 3 then c3 else c4, fun k => if k = 0 then i0 else if k = 1 then i1 else if k = 2 then i2 else if k = 3 then i3 else i4), cI, cC, cZ, cR), ⟨fun k q hq => ?_, fun k q hk => ?_⟩, ⟨?_, ?_, ?_, ?_, ?_⟩, va_AO.of hAO⟩
  · match k, hq with
    | 0, hq => cases hq; exact k0
    | 1, hq => cases hq; exact k1
    | 2, hq => cases hq; exact k2
    | 3, hq => cases hq; exact k3
    | 4, hq => cases hq; exact k4
    | k + 5, hq => simp [vwCl] at hq
  · have hk : ([(cI, FieldType.int), (cC, FieldType.char), (cZ, FieldType.boolean), (cR, FieldType.object RX2)] : List (ClassId × FieldType))[k]? = some q := hk
    match k, hk with
    | 0, hk => cases hk; exact ⟨fun n z => ⟨fun k h => (by cases h), kI, gI', pI, eI⟩, fI⟩
    | 1, hk => cases hk; exact ⟨fun n z => ⟨fun k h => (by cases h), kC, gC', pC, eC⟩, fC⟩
    | 2, hk => cases hk; exact ⟨fun n z => ⟨fun k h => (by cases h), kZ, gZ', pZ, eZ⟩, fZ⟩
    | 3, hk => cases hk; exact ⟨fun n z => ⟨fun k h => (by cases h), kR, r3, comp, r4⟩, kR, comp, r3, r4, r1, r5⟩
    | k + 4, hk => simp at hk
  · exact va_Nw.of rfl (hts _ (lw_mem (i := 167) (by decide +kernel)))
  · exact va_Nw.of rfl (hts _ (lw_mem (i := 144) (by decide +kernel)))
  · exact va_Nw.of rfl (hts _ (lw_mem (i := 19) (by decide +kernel)))
  · exact va_Nw.of rfl (hts _ (lw_mem (i := 80) (by decide +kernel)))
  · exact va_Nw.of rfl (hts _ (lw_mem (i := 99) (by decide +kernel)))
set_option maxRecDepth 100000 in
/-- the two constant arrays -/
theorem law_zs {args : Array Value} {s : State} (hts : ∀ w ∈ lw_tbl, w.before args s = true) (hgv : (Jvm.Cond.and given_1 narrow_1).before args s = true) : ZS (fun q : Nat => s.heap.size ≤ q) s := by
  have hs := flat_of_before _ hgv
  have hA : ∀ a : Nat, a < s.heap.size → ¬ (fun q : Nat => s.heap.size ≤ q) a := fun a h => Nat.not_le.mpr h
  have l1 : (Term.length (.static "TurnBids" "LEAST_VALUES" "[I")).eval args s none [] s = some (.int 4) := va_eqt (hs _ (by decide +kernel))
  have a0 : (Term.elem (.static "TurnBids" "LEAST_VALUES" "[I") (.int 0)).eval args s none [] s = some (.int 1) := va_eqt (hs _ (by decide +kernel))
  have a1 : (Term.elem (.static "TurnBids" "LEAST_VALUES" "[I") (.int 1)).eval args s none [] s = some (.int 0) := va_eqt (hs _ (by decide +kernel))
  have a2 : (Term.elem (.static "TurnBids" "LEAST_VALUES" "[I") (.int 2)).eval args s none [] s = some (.int 0) := va_eqt (hs _ (by decide +kernel))
  have a3 : (Term.elem (.static "TurnBids" "LEAST_VALUES" "[I") (.int 3)).eval args s none [] s = some (.int 0) := va_eqt (hs _ (by decide +kernel))
  have l2 : (Term.length (.static "TurnBids" "MOST_VALUES" "[I")).eval args s none [] s = some (.int 4) := va_eqt (hs _ (by decide +kernel))
  have b0 : (Term.elem (.static "TurnBids" "MOST_VALUES" "[I") (.int 0)).eval args s none [] s = some (.int 9) := va_eqt (hs _ (by decide +kernel))
  have b1 : (Term.elem (.static "TurnBids" "MOST_VALUES" "[I") (.int 1)).eval args s none [] s = some (.int 20) := va_eqt (hs _ (by decide +kernel))
  have b2 : (Term.elem (.static "TurnBids" "MOST_VALUES" "[I") (.int 2)).eval args s none [] s = some (.int 100) := va_eqt (hs _ (by decide +kernel))
  have b3 : (Term.elem (.static "TurnBids" "MOST_VALUES" "[I") (.int 3)).eval args s none [] s = some (.int 100) := va_eqt (hs _ (by decide +kernel))
  obtain ⟨t1, e1, T1⟩ := va_Tof (tm := .static "TurnBids" "LEAST_VALUES" "[I") (ty := .int) (N := 4) (f := fun j => .int (lvv j)) (by decide) (hs _ (by decide +kernel)) l1 (fun j hj => by
    match j, hj with
    | 0, _ => exact a0
    | 1, _ => exact a1
    | 2, _ => exact a2
    | 3, _ => exact a3) hA
  obtain ⟨t2, e2, T2⟩ := va_Tof (tm := .static "TurnBids" "MOST_VALUES" "[I") (ty := .int) (N := 4) (f := fun j => .int (mvv j)) (by decide) (hs _ (by decide +kernel)) l2 (fun j hj => by
    match j, hj with
    | 0, _ => exact b0
    | 1, _ => exact b1
    | 2, _ => exact b2
    | 3, _ => exact b3) hA
  have hin := hts (.initialized "TurnBids") (lw_mem (i := 1) (by decide +kernel))
  exact ⟨t1, t2, ⟨va_Zref (hts _ (lw_mem (i := 134) (by decide +kernel))) hin e1 hA, T1⟩, va_Zref (hts _ (lw_mem (i := 136) (by decide +kernel))) hin e2 hA, T2⟩
/-- the fresh objects agree -/
theorem INV_ini : INV iniC (clZ iniZ) (fun _ => 0) (fun _ => 0) (fun _ => 0) (fun _ => 0) 0 0 := by
  refine ⟨RelV.of (fun i hi => ?_) (fun i hi => ?_) (by decide +kernel) (by decide +kernel) (by decide +kernel), ⟨⟨⟨⟨1, by decide, by decide, by decide +kernel⟩, ⟨1, by decide, by decide +kernel⟩, ⟨50, by decide, by decide +kernel⟩, 0, by decide, by decide +kernel⟩, fun i hi => ⟨10, by decide, ?_⟩, ⟨fun i hi => ⟨20, by decide, ?_⟩, fun i hi => ⟨5 - i, by omega, ?_⟩⟩, fun i => i, fun i => i, fun i hi => ⟨hi, ?_, rfl⟩, fun i hi => ⟨hi, rfl⟩⟩, Or.inl ⟨by decide +kernel, by decide +kernel, by decide +kernel, fun i hi => ?_⟩⟩, ⟨rfl, Nat.zero_le _, Nat.zero_le _, fun k hk => absurd hk (Nat.not_lt_zero _)⟩, fun k hk => Or.inl ⟨rfl, rfl⟩, fun k hk hn => absurd rfl hn, rfl, fun i => show vp_nar .char 0 = 0 by decide +kernel, rfl, Nat.zero_le _⟩
  · rcases (show i = 0 ∨ i = 1 ∨ i = 2 ∨ i = 3 by omega) with rfl | rfl | rfl | rfl <;> decide +kernel
  · rcases lt5 hi with rfl | rfl | rfl | rfl | rfl <;> decide +kernel
  · rcases lt5 hi with rfl | rfl | rfl | rfl | rfl <;> decide +kernel
  · rcases lt5 hi with rfl | rfl | rfl | rfl | rfl <;> decide +kernel
  · rcases lt5 hi with rfl | rfl | rfl | rfl | rfl <;> decide +kernel
  · show clZ iniZ (18 + i) = nI i
    rcases lt5 hi with rfl | rfl | rfl | rfl | rfl <;> decide +kernel
  · rcases lt5 hi with rfl | rfl | rfl | rfl | rfl <;> decide +kernel
