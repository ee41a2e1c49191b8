/-! CONTRACT of set: it reads two constant arrays (laid by wip/whole/gen/obj5.py) -/
/-- what the constant arrays hold -/
def ZS (A : Nat → Prop) (U : State) : Prop := ∃ t1 t2 : Nat, (va_Z "TurnBids" "LEAST_VALUES" "[I" (.ref t1) A U U.heap ∧ va_T .int t1 4 (fun j => .int (lvv j)) A U U.heap) ∧ va_Z "TurnBids" "MOST_VALUES" "[I" (.ref t2) A U U.heap ∧ va_T .int t2 4 (fun j => .int (mvv j)) A U U.heap
def PWz (G : qG) (sz : Nat) (av : List Value) (w : va_W) : Array Value → State → Prop := va_Pc av (fun U => U.heap.size = sz ∧ va_P G.1 vwCl w U.heap ∧ KK G U ∧ va_D (fun _ => True) w ∧ ZS (va_A w sz) U)
theorem ZS.call {A : Nat → Prop} {U : State} {g : JFrame} {mk : MethodId} {a : Array Value} (h : ZS A U) : ZS A (U.calling g mk a) := by
  obtain ⟨t1, t2, ⟨h1, h2⟩, h3, h4⟩ := h
  exact ⟨t1, t2, ⟨va_Z.moved (u := U) (U := U.calling g mk a) (Vm.Alike.refl U.vm) h1, va_T.moved (u := U) (U := U.calling g mk a) (Vm.Alike.refl U.vm) h2⟩, va_Z.moved (u := U) (U := U.calling g mk a) (Vm.Alike.refl U.vm) h3, va_T.moved (u := U) (U := U.calling g mk a) (Vm.Alike.refl U.vm) h4⟩
theorem PWz.blind {G : qG} {sz : Nat} {av : List Value} {w : va_W} : FrameBlind (PWz G sz av w) := fun _ _ _ _ q => ⟨q.1, q.2.1, q.2.2.1, q.2.2.2.1.call, q.2.2.2.2.1, q.2.2.2.2.2.call⟩
theorem MIz.of' {l : Launch} {y : MethodName} {ws ws' : List Cond} {mc ms : Nat} {G : qG} {av : List Value} {w : va_W} {cc : ByteArray} {maxL sz : Nat} {S : Type} {post : Int32 → S → Prop} {w' : S → va_W} {rm : Room} (hy : plainName y.cls = true) (hw : ws = Cond.code y cc maxL (some .int) :: ws') (hav : (lg_sl av).length ≤ maxL)
    (body : ∀ (p : Program) (e : Env) (s : State) (m : MethodId) (below : List Frame) (meth : Method) (c : Code), p.tables.exec = Jvm.exec → c.code = cc → c.maxLocals = maxL → s.vm.findClass y.cls = some m.cls → (∀ x ∈ ws, x.before av.toArray s = true) → KK G s → s.heap.size = sz → va_P G.1 vwCl w s.heap →
      ∀ A : Nat → Prop, A = va_A w sz → (∀ q : Nat, s.heap.size ≤ q → A q) → va_D A w → va_S A s.heap s.heap [] → ZS A s →
      ∀ Q : State → Prop, (∀ (H : Heap) (locs : List Loc) (pc : Nat) (ls : Array Slot) (r : Int32) (u : S), post r u → va_P G.1 vwCl (w' u) H → va_D A (w' u) → va_S A s.heap H locs → decode cc pc = .ok (.ireturn, 1) → W p l e rm s m av.toArray below meth c H locs mc ms Q (F0 m pc ls [.int r])) →
      ∀ ls : Array Slot, lv_has ls maxL (lv_args 0 av) → W p l e rm s m av.toArray below meth c s.heap [] 0 0 Q (F0 m 0 ls [])) :
    Met l y ws rm (PWz G sz av w) (QI G sz w post w') mc ms (va_A w sz) := by
  refine Met.ofW (cc := cc) (maxL := maxL) (ret := some .int) hy hw ?_
  intro p e s m args below meth c s₁ B hml hv
  obtain ⟨rfl, hsz, hP, hK, hD, hz⟩ := hv
  have hts := atoms_spec (ws := ws) B.pre
  obtain ⟨ls, he, hl⟩ := lv_start (m := m) av hav
  rw [he]
  subst hsz
  refine body p e s m below meth c B.exec B.bytes hml (findClass_of_methodNamed B.named) hts hK rfl hP _ rfl (fun q h => Or.inr h) hD.self va_S.rf hz _ ?_ ls hl
  intro H locs pc ls r u hp hP1 hD1 hS hd
  exact W.iret B.exec B.bytes B.returns (fun t ht _ => ⟨⟨r, u, rfl, hp, by rw [ht]; exact hP1, hD1⟩, hS.F ht⟩) hS.2.2 hd B.notSynchronized
set_option maxHeartbeats 4000000 in
set_option maxRecDepth 100000 in
theorem c_X3_set (l : Launch) (G : qG) (o : Nat) (t r h : Nat → Nat) (g : Nat) (b : Nat → Nat) (T U : Tb) (hT : is01 (T 10 0)) (nx ln : Nat) (hnx : nx < 100000) (hln : ln ≤ 6) (ad : Ad) (S : Nat → Tb) (ps : Nat → Int32) (hps : chs ps) (pl : Nat) (hpl : pl ≤ 60) (x v : Int32) (sz : Nat) : Met l yX3_set wsX3_set { frames := 3, cells := 11, slots := 62, locals := 62 } (PWz G sz [.ref o, .int x, .int v] (ow G o t r h g b T U nx ln (hd ad 0 6) (hd ad 6 2) ps pl ++ pool G ad S)) (QI (S := CS) G sz (ow G o t r h g b T U nx ln (hd ad 0 6) (hd ad 6 2) ps pl ++ pool G ad S) (fun r₀ c₀ => r₀ = (if seC x v = 0 then T 0 (ix x) else seC x v) ∧ ∃ u : Nat → Nat, c₀ = (if seC x v = 0 then kpC T U nx ln ad S ps pl u (tup T 0 (ix x) v) else (T, U, nx, ln, ad, S, ps, pl))) (fun c₀ => ows G o t r h g b c₀)) 11 62 (va_A (ow G o t r h g b T U nx ln (hd ad 0 6) (hd ad 6 2) ps pl ++ pool G ad S) sz) := by
  refine MIz.of' (by decide) rfl (Nat.le_of_ble_eq_true rfl) ?_
  intro p e s m below meth c hx hb hml hown hts hK hsz hP A hAe hA hD hS hz Q hret ls hl
  obtain ⟨t1, t2, ⟨hz1, hz2⟩, hz3, hz4⟩ := hz
  have hown : s.vm.findClass RX3 = some m.cls := hown
  have hl : lv_has ls 4 [(0, .ref o), (1, .int x), (2, .int v)] := hl
  have wk1 := hts (Cond.constant RX3 37 (-100002)) (List.mem_of_getElem? (i := 1) rfl)
  have wk2 := hts (Cond.fieldLink RX3 38 "TurnBids" "LEAST_VALUES" "[I") (List.mem_of_getElem? (i := 2) rfl)
  have wk3 := hts (Cond.fieldLink RX3 42 "TurnBids" "MOST_VALUES" "[I") (List.mem_of_getElem? (i := 3) rfl)
  have wk4 := hts (Cond.fieldLink RX3 22 "TurnBids" "history" "LTurnBids$History;") (List.mem_of_getElem? (i := 4) rfl)
  have wk5 := hts (Cond.fieldLink RX3 10 "TurnBids" "table" "LTurnBids$Table;") (List.mem_of_getElem? (i := 5) rfl)
  have wk6 := hts (Cond.fieldLink RX3 49 "TurnBids$Table" "settings" "[I") (List.mem_of_getElem? (i := 6) rfl)
  have wk7 := hts (Cond.methodLink RX3 45 yX0_keep) (List.mem_of_getElem? (i := 7) rfl)
  have hinX3 : ∀ w ∈ wsX30, w ∈ wsX3_set := fun _ h => (List.mem_cons_of_mem _ (List.mem_append_left _ (List.mem_append_left _ (List.mem_append_right _ h))))
  have hinX2 : ∀ w ∈ wsX20, w ∈ wsX3_set := fun _ h => (List.mem_cons_of_mem _ (List.mem_append_left _ (List.mem_append_right _ h)))
  refine lv_iload_n hx hb dX3_set_0 rfl (lv_at hl 1 rfl) ?_
  refine lv_if_lt (tgt := 9) hx hb dX3_set_1 (by decide) (fun c_1_1 => ?_) (fun c_1_1 => ?_)
  · refine lv_ldc (v := (-100002)) hx hb hown wk1 dX3_set_9 ?_
    refine W.widen (k := 11) (n := 62) (by decide) (by decide) ?_
    exact hret _ _ _ _ _ (T, U, nx, ln, ad, S, ps, pl) ⟨by simp only [if_true, if_false, lz_o, lz_1, lz_2, lz_5, lz_3, lz_4, seC, kpC, if_pos c_1_1], (fun _ => 0), by simp only [if_true, if_false, lz_o, lz_1, lz_2, lz_5, lz_3, lz_4, seC, kpC, if_pos c_1_1]⟩ hP hD hS dX3_set_11
  · refine lv_iload_n hx hb dX3_set_4 rfl (lv_at hl 1 rfl) ?_
    refine lv_iconst (v := 4) hx hb dX3_set_5 (by decide) ?_
    refine lv_icmp_lt (tgt := 12) hx hb dX3_set_6 (by decide) (fun c_6_2 => ?_) (fun c_6_2 => ?_)
    · have c0_ := c_1_1
      obtain ⟨j, hj, hej⟩ := x_lt (N := 4) (by decide) c0_ c_6_2
      rw [hej] at hl
      have hxj : ix x = j := by rw [hej]; exact nI_clamp (by omega)
      refine lv_iload_n hx hb dX3_set_12 rfl (lv_at hl 2 rfl) ?_
      refine va_gets hx hb (C := "TurnBids") (n := "LEAST_VALUES") (d := "[I") (ref := "TurnBids") (v := .ref t1) hz1 hS hown wk2 (fun _ h9 => h9) dX3_set_13 ?_
      refine lv_iload_n hx hb dX3_set_16 rfl (lv_at hl 1 rfl) ?_
      refine va_ti hx hb hz2 hS (i := nI j) (vp_in_nI (n := j) (by omega) (by decide)) (v := .int (lvv j)) (by rw [nI_clamp (by omega)]) dX3_set_17 ?_
      refine lv_icmp_lt (tgt := 30) hx hb dX3_set_18 (by decide) (fun c_18_3 => ?_) (fun c_18_3 => ?_)
      · refine lv_ldc (v := (-100002)) hx hb hown wk1 dX3_set_30 ?_
        refine W.widen (k := 11) (n := 62) (by decide) (by decide) ?_
        exact hret _ _ _ _ _ (T, U, nx, ln, ad, S, ps, pl) ⟨by simp only [if_true, if_false, lz_o, lz_1, lz_2, lz_5, lz_3, lz_4, seC, kpC, if_neg c_1_1, if_pos c_6_2, hxj, if_pos c_18_3], (fun _ => 0), by simp only [if_true, if_false, lz_o, lz_1, lz_2, lz_5, lz_3, lz_4, seC, kpC, if_neg c_1_1, if_pos c_6_2, hxj, if_pos c_18_3]⟩ hP hD hS dX3_set_32
      · refine lv_iload_n hx hb dX3_set_21 rfl (lv_at hl 2 rfl) ?_
        refine va_gets hx hb (C := "TurnBids") (n := "MOST_VALUES") (d := "[I") (ref := "TurnBids") (v := .ref t2) hz3 hS hown wk3 (fun _ h9 => h9) dX3_set_22 ?_
        refine lv_iload_n hx hb dX3_set_25 rfl (lv_at hl 1 rfl) ?_
        refine va_ti hx hb hz4 hS (i := nI j) (vp_in_nI (n := j) (by omega) (by decide)) (v := .int (mvv j)) (by rw [nI_clamp (by omega)]) dX3_set_26 ?_
        refine lv_icmp_le (tgt := 33) hx hb dX3_set_27 (by decide) (fun c_27_4 => ?_) (fun c_27_4 => ?_)
        · refine lv_aload_n hx hb dX3_set_33 rfl (lv_at hl 0 rfl) ?_
          refine va_get (D := G.1) (ci := 3) (v := .ref (h 0)) (C := RX3) (T := TX3) (N := 5) hx hb hts hinX3 hown hK.1 hP 0 rfl rfl 2 (by decide) wk4 (fun _ h9 => h9) rfl dX3_set_34 ?_
          refine lv_aload_n hx hb dX3_set_37 rfl (lv_at hl 0 rfl) ?_
          refine va_get (D := G.1) (ci := 3) (v := .ref (t 0)) (C := RX3) (T := TX3) (N := 5) hx hb hts hinX3 hown hK.1 hP 0 rfl rfl 0 (by decide) wk5 (fun _ h9 => h9) rfl dX3_set_38 ?_
          refine cPoolV (wr := [(o, .inr (3, [.ref (t 0), .ref (r 0), .ref (h 0), .ref g, .ref (b 0)]))] ++ tw G r U ++ [(g, .inl (gR G, 2, .inr (.inr (.inr (.inr (hd ad 6 2))))))] ++ pw G b ps (nI pl)) (wc := hw G h nx ln (hd ad 0 6) ++ tw G t T) (As := [.ref (t 0)]) (rest := []) ⟨hx, hb, hml, hown, hts⟩ (c_X0_keep l G h t T hT nx ln hnx hln ad S _) (cwV 1 hts gX3_set_X0_keep rfl rfl rfl (by decide +kernel) ⟨Nat.le_of_ble_eq_true rfl, Nat.le_of_ble_eq_true rfl⟩) hK hP hD hS hA [23, 24, 1, 2, 3, 4, 5, 6, 7, 8, 9, 10, 11] [0, 12, 13, 14, 15, 16, 17, 18, 19, 20, 21, 22, 25, 26, 27] rfl rfl (by decide) (by decide) (by decide) 0 (ci := 0) rfl rfl rfl rfl rfl hl.1 (Nat.le_of_ble_eq_true rfl) dX3_set_41 ⟨Nat.le_of_ble_eq_true rfl, Nat.le_of_ble_eq_true rfl⟩ (fun u_5 H locs hr_5 hP hD hS => ?_)
          have hP : va_P G.1 vwCl (ow G o t r h g b T U (nx + 1) (min (ln + 1) 6) (hd (va_up ad (nx % 6) (some u_5)) 0 6) (hd ad 6 2) ps pl ++ pool G (va_up ad (nx % 6) (some u_5)) (va_up S (nx % 6) T)) H := hP.part (cx := ow G o t r h g b T U (nx + 1) (min (ln + 1) 6) (hd (va_up ad (nx % 6) (some u_5)) 0 6) (hd ad 6 2) ps pl) [0, 17, 18, 19, 20, 21, 22, 23, 24, 25, 26, 27, 1, 2, 3, 4, 5, 6, 7, 8, 9, 10, 11, 15, 16, 12, 13, 14] rfl
          have hD : va_D A (ow G o t r h g b T U (nx + 1) (min (ln + 1) 6) (hd (va_up ad (nx % 6) (some u_5)) 0 6) (hd ad 6 2) ps pl ++ pool G (va_up ad (nx % 6) (some u_5)) (va_up S (nx % 6) T)) := hD.part (cx := ow G o t r h g b T U (nx + 1) (min (ln + 1) 6) (hd (va_up ad (nx % 6) (some u_5)) 0 6) (hd ad 6 2) ps pl) [0, 17, 18, 19, 20, 21, 22, 23, 24, 25, 26, 27, 1, 2, 3, 4, 5, 6, 7, 8, 9, 10, 11, 15, 16, 12, 13, 14] (by decide) rfl
          have ho9 : hd ad 6 2 = hd (va_up ad (nx % 6) (some u_5)) 6 2 := (hd_off (Or.inl (by omega))).symm
          rw [ho9] at hP hD
          have hP : va_P G.1 vwCl (ow G o t r h g b T U (nx + 1) (min (ln + 1) 6) (hd (va_up ad (nx % 6) (some u_5)) 0 6) (hd (va_up ad (nx % 6) (some u_5)) 6 2) ps pl ++ pool G (va_up ad (nx % 6) (some u_5)) (va_up S (nx % 6) T)) H := hP
          have hD : va_D A (ow G o t r h g b T U (nx + 1) (min (ln + 1) 6) (hd (va_up ad (nx % 6) (some u_5)) 0 6) (hd (va_up ad (nx % 6) (some u_5)) 6 2) ps pl ++ pool G (va_up ad (nx % 6) (some u_5)) (va_up S (nx % 6) T)) := hD
          refine lv_aload_n hx hb dX3_set_44 rfl (lv_at hl 0 rfl) ?_
          refine va_get (D := G.1) (ci := 3) (v := .ref (t 0)) (C := RX3) (T := TX3) (N := 5) hx hb hts hinX3 hown hK.1 hP 0 rfl rfl 0 (by decide) wk5 (fun _ h9 => h9) rfl dX3_set_45 ?_
          refine va_get (D := G.1) (ci := 2) (v := .ref (t 1)) (C := RX2) (T := TX2) (N := 13) hx hb hts hinX2 hown hK.1 hP 1 rfl rfl 0 (by decide) wk6 (fun _ h9 => h9) rfl dX3_set_48 ?_
          refine lv_iload_n hx hb dX3_set_51 rfl (lv_at hl 1 rfl) ?_
          refine qild hx hb hK.1 hP 2 0 rfl rfl (k := j) (nI_clamp (by omega)) (vp_in_nI (by omega) (by decide)) dX3_set_52 ?_
          refine lv_istore_n (lv' := [(3, .int (T 0 j)), (0, .ref o), (1, .int (nI j)), (2, .int v)]) hx hb dX3_set_53 rfl hl (by decide) rfl (fun ls hl => ?_)
          refine lv_aload_n hx hb dX3_set_54 rfl (lv_at hl 1 rfl) ?_
          refine va_get (D := G.1) (ci := 3) (v := .ref (t 0)) (C := RX3) (T := TX3) (N := 5) hx hb hts hinX3 hown hK.1 hP 0 rfl rfl 0 (by decide) wk5 (fun _ h9 => h9) rfl dX3_set_55 ?_
          refine va_get (D := G.1) (ci := 2) (v := .ref (t 1)) (C := RX2) (T := TX2) (N := 13) hx hb hts hinX2 hown hK.1 hP 1 rfl rfl 0 (by decide) wk6 (fun _ h9 => h9) rfl dX3_set_58 ?_
          refine lv_iload_n hx hb dX3_set_61 rfl (lv_at hl 2 rfl) ?_
          refine lv_iload_n hx hb dX3_set_62 rfl (lv_at hl 3 rfl) ?_
          refine qist hx hb hK.1 hP hD hS 2 0 rfl rfl (k := j) (nI_clamp (by omega)) (vp_in_nI (by omega) (by decide)) dX3_set_63 (fun H locs hP hD hS => ?_)
          have hP : va_P G.1 vwCl (ow G o t r h g b (tup T 0 j v) U (nx + 1) (min (ln + 1) 6) (hd (va_up ad (nx % 6) (some u_5)) 0 6) (hd (va_up ad (nx % 6) (some u_5)) 6 2) ps pl ++ pool G (va_up ad (nx % 6) (some u_5)) (va_up S (nx % 6) T)) H := hP
          have hD : va_D A (ow G o t r h g b (tup T 0 j v) U (nx + 1) (min (ln + 1) 6) (hd (va_up ad (nx % 6) (some u_5)) 0 6) (hd (va_up ad (nx % 6) (some u_5)) 6 2) ps pl ++ pool G (va_up ad (nx % 6) (some u_5)) (va_up S (nx % 6) T)) := hD
          refine lv_iload_n hx hb dX3_set_64 rfl (lv_at hl 0 rfl) ?_
          exact hret _ _ _ _ _ (tup T 0 j v, U, nx + 1, min (ln + 1) 6, va_up ad (nx % 6) (some u_5), va_up S (nx % 6) T, ps, pl) ⟨by simp only [if_true, if_false, lz_o, lz_1, lz_2, lz_5, lz_3, lz_4, seC, kpC, if_neg c_1_1, if_pos c_6_2, hxj, if_neg c_18_3, if_pos c_27_4], u_5, by simp only [if_true, if_false, lz_o, lz_1, lz_2, lz_5, lz_3, lz_4, seC, kpC, if_neg c_1_1, if_pos c_6_2, hxj, if_neg c_18_3, if_pos c_27_4]⟩ hP hD hS dX3_set_65
        · refine lv_ldc (v := (-100002)) hx hb hown wk1 dX3_set_30 ?_
          refine W.widen (k := 11) (n := 62) (by decide) (by decide) ?_
          exact hret _ _ _ _ _ (T, U, nx, ln, ad, S, ps, pl) ⟨by simp only [if_true, if_false, lz_o, lz_1, lz_2, lz_5, lz_3, lz_4, seC, kpC, if_neg c_1_1, if_pos c_6_2, hxj, if_neg c_18_3, if_neg c_27_4], (fun _ => 0), by simp only [if_true, if_false, lz_o, lz_1, lz_2, lz_5, lz_3, lz_4, seC, kpC, if_neg c_1_1, if_pos c_6_2, hxj, if_neg c_18_3, if_neg c_27_4]⟩ hP hD hS dX3_set_32
    · refine lv_ldc (v := (-100002)) hx hb hown wk1 dX3_set_9 ?_
      refine W.widen (k := 11) (n := 62) (by decide) (by decide) ?_
      exact hret _ _ _ _ _ (T, U, nx, ln, ad, S, ps, pl) ⟨by simp only [if_true, if_false, lz_o, lz_1, lz_2, lz_5, lz_3, lz_4, seC, kpC, if_neg c_1_1, if_neg c_6_2], (fun _ => 0), by simp only [if_true, if_false, lz_o, lz_1, lz_2, lz_5, lz_3, lz_4, seC, kpC, if_neg c_1_1, if_neg c_6_2]⟩ hP hD hS dX3_set_11
