/-! THE LAW, FROM ITS ENTRY (laid by wip/p28/gen/l7.py) -/
section CLI
variable {p : Program} {l : Launch} {e : Env} {R : Room} {s : State} {m : MethodId} {args : Array Value} {below : List Frame} {meth : Method} {c : Code} {H H0 : Heap} {locs : List Loc} {cells slots : Nat} {Q : State → Prop}
variable {y : MethodName} {bytes cc : ByteArray} {maxL nL mc ms n index pc : Nat} {ws : List Cond} {rm : Room} {Ts : List Cond} {own : String} {As rest st : List Value} {ls : Array Slot} {G : qG} {A : Nat → Prop}
/-- a constructor called on the newest cells -/
theorem cLI {S : Type} {post : S → Prop} {w' : S → va_W} {wf wc : va_W} {q0 : Nat} (X : CallFix p m c cc nL s args Ts own) (hM : Met l y ws rm (PW G H.size (.ref q0 :: As) wc) (QV G H.size wc post w') mc ms (va_A wc H.size)) (cw : CallB R s args own index y bytes maxL none ws rm mc ms n ∧ y.name = "<init>" ∧ (Cond.instanceMethod y).before args s = true) (hK : KK G s) (hP : va_P G.1 vwCl (wf ++ wc) H) (hD : va_D A (wf ++ wc)) (hS : va_S A H0 H locs) (hA : ∀ q, H0.size ≤ q → A q)
    (hst : st = As.reverse ++ .ref q0 :: rest) (hna : As.length = n) (hsize : ls.size = nL) (hr : (rest.map fun v => v.category).sum ≤ 8) (hdg : decode cc pc = .ok (.invokespecial index, 3)) (hf : cells + mc ≤ R.cells ∧ slots + ms ≤ R.slots)
    (kk : ∀ (u : S) (H1 : Heap) (locs1 : List Loc), post u → va_P G.1 vwCl (wf ++ w' u) H1 → va_D A (wf ++ w' u) → va_S A H0 H1 locs1 → W p l e R s m args below meth c H1 locs1 (cells + mc) (slots + ms) Q (F0 m (pc + 3) ls rest)) : W p l e R s m args below meth c H locs cells slots Q (F0 m pc ls st) := by
  have hF := app_F hD hS hA
  have hPc := app_P hP
  have hDc := app_D hD
  refine cRV (va_runI (g := F0 m pc ls st) X hM cw ⟨PW.blind, fun U hU hW => ⟨rfl, by rw [hU], by rw [hU]; exact hPc, hK.warm hW, hDc.weaken (fun _ _ _ _ => trivial)⟩⟩ rfl hna hsize hst (lv_room hr) hdg hf) hS hF (fun u H1 locs1 hp hP1 hD1 hk hS1 => ?_)
  obtain ⟨h1, h2⟩ := va_joinA hP hD hk hF hP1 hD1
  exact kk u H1 locs1 hp h1 h2 hS1
end CLI
theorem lw_mem {w : Cond} {i : Nat} (h : tables_1[i]? = some w) : w ∈ lw_tbl := List.mem_append_right _ (List.mem_of_getElem? h)
set_option maxRecDepth 100000 in
/-- the classes, the arrays' classes, the nest mates -/
theorem law_world {args : Array Value} {s : State} (hts : ∀ w ∈ lw_tbl, w.before args s = true) : ∃ G : qG, KK G s := by
  obtain ⟨c0, i0, k0⟩ := u_known (C := RX0) (T := TX0) (N := 3) (n := 3) hts inX0 (hts (.instantiable RX0 3) (lw_mem (i := 78) (by decide +kernel)))
  obtain ⟨c1, i1, k1⟩ := u_known (C := RX1) (T := TX1) (N := 2) (n := 2) hts inX1 (hts (.instantiable RX1 2) (lw_mem (i := 97) (by decide +kernel)))
  obtain ⟨c2, i2, k2⟩ := u_known (C := RX2) (T := TX2) (N := 13) (n := 13) hts inX2 (hts (.instantiable RX2 13) (lw_mem (i := 17) (by decide +kernel)))
  obtain ⟨c3, i3, k3⟩ := u_known (C := RX3) (T := TX3) (N := 5) (n := 5) hts inX3 (hts (.instantiable RX3 5) (lw_mem (i := 9) (by decide +kernel)))
  obtain ⟨cI, kI, pI, fI, gI', eI⟩ := Cond.arrayClass_spec (hts (.arrayClass .int) (lw_mem (i := 76) (by decide +kernel)))
  obtain ⟨cC, kC, pC, fC, gC', eC⟩ := Cond.arrayClass_spec (hts (.arrayClass .char) (lw_mem (i := 110) (by decide +kernel)))
  have hAO := hts (.arrayOver (.object RX2)) (lw_mem (i := 84) (by decide +kernel))
  obtain ⟨comp, cR, kR, r1, r2, r3, r4, r5⟩ := Cond.arrayOver_spec hAO
  refine ⟨((fun k => if k = 0 then c0 else if k = 1 then c1 else if k = 2 then c2 else c3, fun k => if k = 0 then i0 else if k = 1 then i1 else if k = 2 then i2 else i3), cI, cC, cI, cR), ⟨fun k q hq => ?_, fun k q hk => ?_⟩, ⟨?_, ?_, ?_, ?_, ?_⟩, va_AO.of hAO⟩
  · match k, hq with
    | 0, hq => cases hq; exact k0
    | 1, hq => cases hq; exact k1
    | 2, hq => cases hq; exact k2
    | 3, hq => cases hq; exact k3
    | k + 4, hq => simp [vwCl] at hq
  · have hk : ([(cI, FieldType.int), (cC, FieldType.char), (cR, FieldType.object RX2)] : List (ClassId × FieldType))[k]? = some q := hk
    match k, hk with
    | 0, hk => cases hk; exact ⟨fun n z => ⟨fun k h => (by cases h), kI, gI', pI, eI⟩, fI⟩
    | 1, hk => cases hk; exact ⟨fun n z => ⟨fun k h => (by cases h), kC, gC', pC, eC⟩, fC⟩
    | 2, hk => cases hk; exact ⟨fun n z => ⟨fun k h => (by cases h), kR, r3, comp, r4⟩, kR, comp, r3, r4, r1, r5⟩
    | k + 3, hk => simp at hk
  · exact va_Nw.of rfl (hts _ (lw_mem (i := 239) (by decide +kernel)))
  · exact va_Nw.of rfl (hts _ (lw_mem (i := 180) (by decide +kernel)))
  · exact va_Nw.of rfl (hts _ (lw_mem (i := 18) (by decide +kernel)))
  · exact va_Nw.of rfl (hts _ (lw_mem (i := 79) (by decide +kernel)))
  · exact va_Nw.of rfl (hts _ (lw_mem (i := 98) (by decide +kernel)))
set_option maxRecDepth 100000 in
/-- the two constant arrays -/
theorem law_zs {args : Array Value} {s : State} (hts : ∀ w ∈ lw_tbl, w.before args s = true) (hgv : (Jvm.Cond.and given_1 narrow_1).before args s = true) : ZS (fun q : Nat => s.heap.size ≤ q) s := by
  have hs := flat_of_before _ hgv
  have hA : ∀ a : Nat, a < s.heap.size → ¬ (fun q : Nat => s.heap.size ≤ q) a := fun a h => Nat.not_le.mpr h
  have l1 : (Term.length (.static "TurnBids" "LEAST_VALUES" "[I")).eval args s none [] s = some (.int 4) := va_eqt (hs _ (by decide +kernel))
  have a0 : (Term.elem (.static "TurnBids" "LEAST_VALUES" "[I") (.int 0)).eval args s none [] s = some (.int 1) := va_eqt (hs _ (by decide +kernel))
  have a1 : (Term.elem (.static "TurnBids" "LEAST_VALUES" "[I") (.int 1)).eval args s none [] s = some (.int 0) := va_eqt (hs _ (by decide +kernel))
  have a2 : (Term.elem (.static "TurnBids" "LEAST_VALUES" "[I") (.int 2)).eval args s none [] s = some (.int 0) := va_eqt (hs _ (by decide +kernel))
  have a3 : (Term.elem (.static "TurnBids" "LEAST_VALUES" "[I") (.int 3)).eval args s none [] s = some (.int 0) := va_eqt (hs _ (by decide +kernel))
  have l2 : (Term.length (.static "TurnBids" "MOST_VALUES" "[I")).eval args s none [] s = some (.int 4) := va_eqt (hs _ (by decide +kernel))
  have b0 : (Term.elem (.static "TurnBids" "MOST_VALUES" "[I") (.int 0)).eval args s none [] s = some (.int 9) := va_eqt (hs _ (by decide +kernel))
  have b1 : (Term.elem (.static "TurnBids" "MOST_VALUES" "[I") (.int 1)).eval args s none [] s = some (.int 20) := va_eqt (hs _ (by decide +kernel))
  have b2 : (Term.elem (.static "TurnBids" "MOST_VALUES" "[I") (.int 2)).eval args s none [] s = some (.int 100) := va_eqt (hs _ (by decide +kernel))
  have b3 : (Term.elem (.static "TurnBids" "MOST_VALUES" "[I") (.int 3)).eval args s none [] s = some (.int 100) := va_eqt (hs _ (by decide +kernel))
  obtain ⟨t1, e1, T1⟩ := va_Tof (tm := .static "TurnBids" "LEAST_VALUES" "[I") (ty := .int) (N := 4) (f := fun j => .int (lvv j)) (by decide) (hs _ (by decide +kernel)) l1 (fun j hj => by
    match j, hj with
    | 0, _ => exact a0
    | 1, _ => exact a1
    | 2, _ => exact a2
    | 3, _ => exact a3) hA
  obtain ⟨t2, e2, T2⟩ := va_Tof (tm := .static "TurnBids" "MOST_VALUES" "[I") (ty := .int) (N := 4) (f := fun j => .int (mvv j)) (by decide) (hs _ (by decide +kernel)) l2 (fun j hj => by
    match j, hj with
    | 0, _ => exact b0
    | 1, _ => exact b1
    | 2, _ => exact b2
    | 3, _ => exact b3) hA
  have hin := hts (.initialized "TurnBids") (lw_mem (i := 1) (by decide +kernel))
  exact ⟨t1, t2, ⟨va_Zref (hts _ (lw_mem (i := 288) (by decide +kernel))) hin e1 hA, T1⟩, va_Zref (hts _ (lw_mem (i := 290) (by decide +kernel))) hin e2 hA, T2⟩
set_option maxHeartbeats 4000000 in
set_option maxRecDepth 100000 in
/-- THE LAW, from its entry -/
theorem whole_start {p : Program} {e : Env} {s : State} {m : MethodId} {below : List Frame} {meth : Method} {c : Code} (l : Launch) (hflags : l.flags = flags0) {b L : Nat} {xs : Nat → Int32} (hL : L ≤ 260) (C0 : lw_At p s m meth c b L xs) : W p l e room_1 s m #[Value.ref b] below meth c s.heap [] 0 0 (lw_Z below #[Value.ref b] s) (entryFrame m ([Value.ref b] : List Value).toArray 13) := by
  obtain ⟨hx, hb, hr, hml, hown, hts0, hX, hbl, hlocks, hgv⟩ := C0
  obtain ⟨G, hK⟩ := law_world hts0
  have hz := law_zs hts0 hgv
  have hown : s.vm.findClass RL = some m.cls := hown
  have htsL : ∀ w ∈ wsL_law, w.before #[Value.ref b] s = true := fun w h => hts0 w (wsL_law_in w h)
  have hts := htsL
  have hA : ∀ q : Nat, s.heap.size ≤ q → (fun q : Nat => s.heap.size ≤ q) q := fun _ h => h
  have hS : va_S (fun q : Nat => s.heap.size ≤ q) s.heap s.heap [] := va_S.rf
  have hP : va_P G.1 vwCl [] s.heap := fun k q h => by simp at h
  have hD : va_D (fun q : Nat => s.heap.size ≤ q) [] := ⟨fun i j p q h => by simp at h, fun k q h => by simp at h⟩
  obtain ⟨ls, he, hl⟩ := lv_start (m := m) [.ref b] (n := 13) (Nat.le_of_ble_eq_true rfl)
  rw [he]
  have hl : lv_has ls 13 [(0, .ref b)] := hl
  have w1 := htsL (Cond.classLink RL 14 RX3) (List.mem_of_getElem? (i := 0) (by first | rfl | decide +kernel))
  have w2 := htsL (Cond.instantiable RX3 5) (List.mem_of_getElem? (i := 1) (by first | rfl | decide +kernel))
  have w3 := htsL (Cond.initialized RX3) (List.mem_of_getElem? (i := 2) (by first | rfl | decide +kernel))
  have w7 := htsL (Cond.methodLink RL 111 yX3_init) (List.mem_of_getElem? (i := 4) (by first | rfl | decide +kernel))
  have w8 := htsL (Cond.instanceMethod yX3_init) (List.mem_of_getElem? (i := 5) (by first | rfl | decide +kernel))
  have wk3 := hts (Cond.constant RL 36 (-100005)) (List.mem_of_getElem? (i := 3) (by first | rfl | decide +kernel))
  have hF0 : RF iniC 29 := ⟨⟨Or.inl (by decide +kernel), Nat.le_of_ble_eq_true rfl, Nat.le_of_ble_eq_true rfl, fun i => show vp_nar .char 0 = 0 by decide +kernel, Nat.le_of_ble_eq_true rfl⟩, TI_ini, by omega, rfl, fun k hk hn => absurd rfl hn, Nat.le_of_ble_eq_true rfl⟩
  refine va_new (ci := 3) (fs := [.null, .null, .null, .null, .null]) (C := RX3) (T := TX3) (N := 5) hx hb htsL inlX3 tyX3 tyX3_ok hown w1 w2 w3 hK.1 hP hD hS hA rfl dfX3 (Nat.le_of_ble_eq_true rfl) (Nat.le_of_ble_eq_true rfl) dL_law_0 (fun o H hP hD hS => ?_)
  refine lv_dup hx hb dL_law_3 rfl ?_
  refine cLI (wf := []) (wc := [(o, .inr (3, [.null, .null, .null, .null, .null]))]) (As := []) (rest := [.ref o]) ⟨hx, hb, hml, hown, htsL⟩ (c_X3_init l G o _) (cwI 0 htsL gL_law_X3_init rfl rfl rfl w3 w7 w8 rfl (by decide +kernel) ⟨Nat.le_of_ble_eq_true rfl, Nat.le_of_ble_eq_true rfl⟩) hK hP hD hS hA rfl rfl hl.1 (Nat.le_of_ble_eq_true rfl) dL_law_4 ⟨Nat.le_of_ble_eq_true rfl, Nat.le_of_ble_eq_true rfl⟩ (fun u H locs _ hP hD hS => ?_)
  obtain ⟨t, r, h, g, bb⟩ := u
  have hP : va_P G.1 vwCl (ows G o t r h g bb iniC) H := hP
  have hD : va_D (fun q : Nat => s.heap.size ≤ q) (ows G o t r h g bb iniC) := hD
  refine lv_astore_n (lv' := [(1, .ref o), (0, .ref b)]) hx hb dL_law_7 rfl hl (by decide) rfl (fun ls hl => ?_)
  refine lv_aload_n hx hb dL_law_8 rfl (lv_at hl 0 rfl) ?_
  refine lWr ((-100005)) (As := []) (rest := []) ⟨hx, hb, hml, hown, hts⟩ (k_undo l G o t r h g bb hF0.1 hF0.2.2.2.2.1 (fun q => absurd rfl q)  _) (refdp (show iniC.2.2.2.1 = 0 from rfl)) (cwV 0 hts gL_law_X3_undo rfl rfl rfl (by decide +kernel) ⟨Nat.le_of_ble_eq_true rfl, Nat.le_of_ble_eq_true rfl⟩) hK hP hD hS hA rfl rfl hl.1 (Nat.le_of_ble_eq_true rfl) dL_law_9 ⟨(show 28 + 0 ≤ 652571 by omega), (show 202 + 0 ≤ 7144534 by omega)⟩ (fun H locs hP hD hS => ?_)
  refine lv_ldc (v := (-100005)) hx hb hown wk3 dL_law_12 ?_
  refine lv_icmp_ne (tgt := 89) hx hb dL_law_14 (by decide) (fun c_9 => absurd (by decide) c_9) (fun _ => ?_)
  refine lv_aload_n hx hb dL_law_17 rfl (lv_at hl 0 rfl) ?_
  refine lv_iconst (v := 0) hx hb dL_law_18 (by decide) ?_
  refine lWr ((-100005)) (As := [.int 0]) (rest := []) ⟨hx, hb, hml, hown, hts⟩ (k_restore l G o t r h g bb hF0.1 hF0.2.2.2.2.1 0 _) (refd (show rsC iniC.2.2.2.2.1 0 = (-100005) by decide +kernel) lz_5) (cwV 1 hts gL_law_X3_restore rfl rfl rfl (by decide +kernel) ⟨Nat.le_of_ble_eq_true rfl, Nat.le_of_ble_eq_true rfl⟩) hK hP hD hS hA rfl rfl hl.1 (Nat.le_of_ble_eq_true rfl) dL_law_19 ⟨(show 28 + 0 + 11 ≤ 652571 by omega), (show 202 + 0 + 62 ≤ 7144534 by omega)⟩ (fun H locs hP hD hS => ?_)
  refine lv_ldc (v := (-100005)) hx hb hown wk3 dL_law_22 ?_
  refine lv_icmp_ne (tgt := 89) hx hb dL_law_24 (by decide) (fun c_9 => absurd (by decide) c_9) (fun _ => ?_)
  refine lv_aload_n hx hb dL_law_27 rfl (lv_at hl 0 rfl) ?_
  refine lv_iconst (v := 1) hx hb dL_law_28 (by decide) ?_
  refine lWr ((-100005)) (As := [.int 1]) (rest := []) ⟨hx, hb, hml, hown, hts⟩ (k_restore l G o t r h g bb hF0.1 hF0.2.2.2.2.1 1 _) (refd (show rsC iniC.2.2.2.2.1 1 = (-100005) by decide +kernel) lz_5) (cwV 1 hts gL_law_X3_restore rfl rfl rfl (by decide +kernel) ⟨Nat.le_of_ble_eq_true rfl, Nat.le_of_ble_eq_true rfl⟩) hK hP hD hS hA rfl rfl hl.1 (Nat.le_of_ble_eq_true rfl) dL_law_29 ⟨(show 28 + 0 + 11 + 11 ≤ 652571 by omega), (show 202 + 0 + 62 + 62 ≤ 7144534 by omega)⟩ (fun H locs hP hD hS => ?_)
  refine lv_ldc (v := (-100005)) hx hb hown wk3 dL_law_32 ?_
  refine lv_icmp_ne (tgt := 89) hx hb dL_law_34 (by decide) (fun c_9 => absurd (by decide) c_9) (fun _ => ?_)
  refine lv_aload_n hx hb dL_law_37 rfl (lv_at hl 0 rfl) ?_
  refine lv_bipush (v := 10) hx hb dL_law_38 (by decide) ?_
  refine lR (100) (As := [.int 10]) (rest := []) ⟨hx, hb, hml, hown, hts⟩ (k_count l G o t r h g bb hF0.1 10) ((cn10 _ _ _).trans (show s5 (iniT 2) = 100 by decide +kernel)) (cwV 1 hts gL_law_X3_count rfl rfl rfl (by decide +kernel) ⟨Nat.le_of_ble_eq_true rfl, Nat.le_of_ble_eq_true rfl⟩) hK hP rfl rfl hl.1 (Nat.le_of_ble_eq_true rfl) dL_law_40 ⟨(show 28 + 0 + 11 + 11 + 0 ≤ 652571 by omega), (show 202 + 0 + 62 + 62 + 0 ≤ 7144534 by omega)⟩ ?_
  refine lv_bipush (v := 100) hx hb dL_law_43 (by decide) ?_
  refine lv_icmp_ne (tgt := 89) hx hb dL_law_45 (by decide) (fun c_9 => absurd (by decide) c_9) (fun _ => ?_)
  refine lv_aload_n hx hb dL_law_48 rfl (lv_at hl 0 rfl) ?_
  refine lv_bipush (v := 13) hx hb dL_law_49 (by decide) ?_
  refine lR (15) (As := [.int 13]) (rest := []) ⟨hx, hb, hml, hown, hts⟩ (k_count l G o t r h g bb hF0.1 13) ((cn13 _ _ _).trans (show s5 (iniT 1) = 15 by decide +kernel)) (cwV 1 hts gL_law_X3_count rfl rfl rfl (by decide +kernel) ⟨Nat.le_of_ble_eq_true rfl, Nat.le_of_ble_eq_true rfl⟩) hK hP rfl rfl hl.1 (Nat.le_of_ble_eq_true rfl) dL_law_51 ⟨(show 28 + 0 + 11 + 11 + 0 ≤ 652571 by omega), (show 202 + 0 + 62 + 62 + 0 ≤ 7144534 by omega)⟩ ?_
  refine lv_bipush (v := 15) hx hb dL_law_54 (by decide) ?_
  refine lv_icmp_ne (tgt := 89) hx hb dL_law_56 (by decide) (fun c_9 => absurd (by decide) c_9) (fun _ => ?_)
  refine lv_aload_n hx hb dL_law_59 rfl (lv_at hl 0 rfl) ?_
  refine lv_iconst (v := nI 0) hx hb dL_law_60 (by decide) ?_
  refine lSwr (1) (As := [.ref o, .int (nI 0)]) (rest := []) ⟨hx, hb, hml, hown, hts⟩ (c_L_refuses l G o t r h g bb hF0 (n := 0) (by decide) _) (fun _ _ q => q) (va_cwS 2 hts gL_law_L_refuses rfl rfl rfl (by decide +kernel) ⟨Nat.le_of_ble_eq_true rfl, Nat.le_of_ble_eq_true rfl⟩) hK hz hP hD hS hA rfl rfl hl.1 (Nat.le_of_ble_eq_true rfl) dL_law_61 ⟨(show 28 + 0 + 11 + 11 + 198 ≤ 652571 by omega), (show 202 + 0 + 62 + 62 + 1116 ≤ 7144534 by omega)⟩ (fun H locs hP hD hS => ?_)
  refine lv_if_eq (tgt := 89) hx hb dL_law_64 (by decide) (fun c_9 => absurd c_9 (by decide)) (fun _ => ?_)
  refine lv_aload_n hx hb dL_law_67 rfl (lv_at hl 0 rfl) ?_
  refine lv_iconst (v := nI 1) hx hb dL_law_68 (by decide) ?_
  refine lSwr (1) (As := [.ref o, .int (nI 1)]) (rest := []) ⟨hx, hb, hml, hown, hts⟩ (c_L_refuses l G o t r h g bb hF0 (n := 1) (by decide) _) (fun _ _ q => q) (va_cwS 2 hts gL_law_L_refuses rfl rfl rfl (by decide +kernel) ⟨Nat.le_of_ble_eq_true rfl, Nat.le_of_ble_eq_true rfl⟩) hK hz hP hD hS hA rfl rfl hl.1 (Nat.le_of_ble_eq_true rfl) dL_law_69 ⟨(show 28 + 0 + 11 + 11 + 198 + 198 ≤ 652571 by omega), (show 202 + 0 + 62 + 62 + 1116 + 1116 ≤ 7144534 by omega)⟩ (fun H locs hP hD hS => ?_)
  refine lv_if_eq (tgt := 89) hx hb dL_law_72 (by decide) (fun c_9 => absurd c_9 (by decide)) (fun _ => ?_)
  refine lv_aload_n hx hb dL_law_75 rfl (lv_at hl 0 rfl) ?_
  refine lv_iconst (v := 1) hx hb dL_law_76 (by decide) ?_
  refine lW (As := [.int 1]) (rest := []) ⟨hx, hb, hml, hown, hts⟩ (k_save l G o t r h g bb hF0.1 1 _) (cwV 1 hts gL_law_X3_save rfl rfl rfl (by decide +kernel) ⟨Nat.le_of_ble_eq_true rfl, Nat.le_of_ble_eq_true rfl⟩) hK hP hD hS hA rfl rfl hl.1 (Nat.le_of_ble_eq_true rfl) dL_law_77 ⟨(show 28 + 0 + 11 + 11 + 198 + 198 + 11 ≤ 652571 by omega), (show 202 + 0 + 62 + 62 + 1116 + 1116 + 62 ≤ 7144534 by omega)⟩ (fun r_1 k1 H locs hr_1 hP hD hS => ?_)
  obtain ⟨e_r, u, e_k⟩ := made (show slC 1 = 0 by decide +kernel) _ _ hr_1
  have e_r : _ = (100 : Int32) := e_r.trans (show sqC (iniT 2) = 100 by decide +kernel)
  subst e_r
  have e_k : k1 = svC iniC 7 u := e_k
  have hI : LI k1 0 := by rw [e_k]; exact ⟨RF_sv hF0 7 u, ⟨⟨u, show va_up iniC.2.2.2.2.1 7 (some u) 7 = some u from va_up_self _ _ _⟩, show va_up iniC.2.2.2.2.2.1 7 iniT 7 = iniT from va_up_self _ _ _⟩, Nat.zero_le _⟩
  refine lv_bipush (v := 100) hx hb dL_law_80 (by decide) ?_
  refine lv_icmp_ne (tgt := 89) hx hb dL_law_82 (by decide) (fun c_9 => absurd (by decide) c_9) (fun _ => ?_)
  refine lv_iconst (v := 1) hx hb dL_law_85 (by decide) ?_
  refine lv_goto (tgt := 90) hx hb dL_law_86 (by decide) ?_
  refine lv_istore_n (lv' := [(2, .int 1), (1, .ref o), (0, .ref b)]) hx hb dL_law_90 rfl hl (by decide) rfl (fun ls hl => ?_)
  refine lv_iconst (v := nI 0) hx hb dL_law_91 (by decide) ?_
  refine lv_istore_n (lv' := [(3, .int (nI 0)), (2, .int 1), (1, .ref o), (0, .ref b)]) hx hb dL_law_92 rfl hl (by decide) rfl (fun ls hl => ?_)
  refine W.widen (k := 1000 + 250 * 0) (n := 4000 + 1400 * 0) (Nat.le_of_ble_eq_true rfl) (Nat.le_of_ble_eq_true rfl) ?_
  exact lw_loop hr hlocks ⟨hx, hb, hml, hown, hts, hX, hbl, hK, hz, hL⟩ 70 0 rfl k1 hI H locs hP hD hS ls (lv_sub hl [0, 1, 2, 3] rfl)
