set_option maxHeartbeats 4000000 in
set_option maxRecDepth 100000 in
/-- THE LAW, from its entry -/
theorem whole_start {p : Program} {e : Env} {s : State} {m : MethodId} {below : List Frame} {meth : Method} {c : Code} (l : Launch) (hflags : l.flags = flags0) {b L : Nat} {xs : Nat → Int32} (hL : L ≤ 1536) (C0 : lw_At p s m meth c b L xs) : W p l e room_1 s m #[Value.ref b] below meth c s.heap [] 0 0 (lw_Z below #[Value.ref b] s) (entryFrame m ([Value.ref b] : List Value).toArray 4) := by
  obtain ⟨hx, hb, hr, hml, hown, hts, hX, hbl, hlocks, hgv⟩ := C0
  obtain ⟨G, hK⟩ := law_world hts
  have hz := law_zs hts hgv
  have hown : s.vm.findClass RL = some m.cls := hown
  have htsL : ∀ w ∈ wsL_law, w.before #[Value.ref b] s = true := fun w h => hts w (wsL_law_in w h)
  have hA : ∀ q : Nat, s.heap.size ≤ q → (fun q : Nat => s.heap.size ≤ q) q := fun _ h => h
  have hS : va_S (fun q : Nat => s.heap.size ≤ q) s.heap s.heap [] := va_S.rf
  have hP : va_P G.1 vwCl [] s.heap := fun k q h => by simp at h
  have hD : va_D (fun q : Nat => s.heap.size ≤ q) [] := ⟨fun i j p q h => by simp at h, fun k q h => by simp at h⟩
  obtain ⟨ls, he, hl⟩ := lv_start (m := m) [.ref b] (n := 4) (Nat.le_of_ble_eq_true rfl)
  rw [he]
  have hl : lv_has ls 4 [(0, .ref b)] := hl
  have w1 := htsL (Cond.classLink RL 7 RX3) (List.mem_of_getElem? (i := 0) rfl)
  have w2 := htsL (Cond.instantiable RX3 5) (List.mem_of_getElem? (i := 1) rfl)
  have w3 := htsL (Cond.initialized RX3) (List.mem_of_getElem? (i := 2) rfl)
  have w4 := htsL (Cond.classLink RL 10 RX4) (List.mem_of_getElem? (i := 3) rfl)
  have w5 := htsL (Cond.instantiable RX4 11) (List.mem_of_getElem? (i := 4) rfl)
  have w6 := htsL (Cond.initialized RX4) (List.mem_of_getElem? (i := 5) rfl)
  have w7 := htsL (Cond.methodLink RL 9 yX3_init) (List.mem_of_getElem? (i := 7) rfl)
  have w8 := htsL (Cond.instanceMethod yX3_init) (List.mem_of_getElem? (i := 8) rfl)
  have w9 := htsL (Cond.methodLink RL 12 yX4_init) (List.mem_of_getElem? (i := 58) (by decide +kernel))
  have w10 := htsL (Cond.instanceMethod yX4_init) (List.mem_of_getElem? (i := 59) (by decide +kernel))
  refine va_new (ci := 3) (fs := [.null, .null, .null, .null, .null]) (C := RX3) (T := TX3) (N := 5) hx hb htsL inlX3 tyX3 tyX3_ok hown w1 w2 w3 hK.1 hP hD hS hA rfl dfX3 (Nat.le_of_ble_eq_true rfl) (Nat.le_of_ble_eq_true rfl) dL_law_0 (fun q1 H hP hD hS => ?_)
  refine lv_dup hx hb dL_law_3 rfl ?_
  refine cLI (wf := []) (wc := [(q1, .inr (3, [.null, .null, .null, .null, .null]))]) (As := []) (rest := [.ref q1]) ⟨hx, hb, hml, hown, htsL⟩ (c_X3_init l G q1 _) (cwI 0 htsL gL_law_X3_init rfl rfl rfl w3 w7 w8 rfl (by decide +kernel) ⟨Nat.le_of_ble_eq_true rfl, Nat.le_of_ble_eq_true rfl⟩) hK hP hD hS hA rfl rfl hl.1 (Nat.le_of_ble_eq_true rfl) dL_law_4 ⟨Nat.le_of_ble_eq_true rfl, Nat.le_of_ble_eq_true rfl⟩ (fun u H locs _ hP hD hS => ?_)
  obtain ⟨t, r, h, g, bb⟩ := u
  have hP : va_P G.1 vwCl (ows G q1 t r h g bb iniC) H := hP
  have hD : va_D (fun q : Nat => s.heap.size ≤ q) (ows G q1 t r h g bb iniC) := hD
  refine lv_astore_n (lv' := [(1, .ref q1), (0, .ref b)]) hx hb dL_law_7 rfl hl (by decide) rfl (fun ls hl => ?_)
  refine va_new (ci := 4) (fs := [.null, .null, .null, .int 0, .null, .null, .null, .int 0, .int 0, .null, .int 0]) (C := RX4) (T := TX4) (N := 11) hx hb htsL inlX4 tyX4 tyX4_ok hown w4 w5 w6 hK.1 hP hD hS hA rfl dfX4 (Nat.le_of_ble_eq_true rfl) (Nat.le_of_ble_eq_true rfl) dL_law_8 (fun q2 H hP hD hS => ?_)
  refine lv_dup hx hb dL_law_11 rfl ?_
  refine cLI (wf := ows G q1 t r h g bb iniC) (wc := [(q2, .inr (4, [.null, .null, .null, .int 0, .null, .null, .null, .int 0, .int 0, .null, .int 0]))]) (As := []) (rest := [.ref q2]) ⟨hx, hb, hml, hown, htsL⟩ (c_X4_init l G q2 _) (cwI 0 htsL gL_law_X4_init rfl rfl rfl w6 w9 w10 rfl (by decide +kernel) ⟨Nat.le_of_ble_eq_true rfl, Nat.le_of_ble_eq_true rfl⟩) hK hP hD hS hA rfl rfl hl.1 (Nat.le_of_ble_eq_true rfl) dL_law_12 ⟨Nat.le_of_ble_eq_true rfl, Nat.le_of_ble_eq_true rfl⟩ (fun a H locs hq hP hD hS => ?_)
  have hq : a 0 = q2 := hq
  refine W.eq (g2 := F0 m 15 ls [.ref (a 0)]) (by rw [hq]) ?_
  have hP : va_P G.1 vwCl ((owc G q1 t r h g bb iniC ++ plc G iniC) ++ mw G a (clZ iniZ) (fun _ => 0) (fun _ => 0) (fun _ => 0) (fun _ => 0) (fun _ => 0) (fun _ => 0) (nI 0) (nI 0) (nI 0) (nI 0)) H := hP
  have hD : va_D (fun q : Nat => s.heap.size ≤ q) ((owc G q1 t r h g bb iniC ++ plc G iniC) ++ mw G a (clZ iniZ) (fun _ => 0) (fun _ => 0) (fun _ => 0) (fun _ => 0) (fun _ => 0) (fun _ => 0) (nI 0) (nI 0) (nI 0) (nI 0)) := hD
  have hJ : [28, 29, 30, 31, 32, 33, 34, 35, 0, 1, 2, 3, 4, 5, 6, 7, 8, 9, 10, 11, 12, 13, 14, 15, 16, 17, 18, 19, 20, 21, 22, 23, 24, 25, 26, 27].map (fun i => (owc G q1 t r h g bb iniC ++ mw G a (clZ iniZ) (fun _ => 0) (fun _ => 0) (fun _ => 0) (fun _ => 0) (fun _ => 0) (fun _ => 0) (nI 0) (nI 0) (nI 0) (nI 0))[i]?) = (mw G a (clZ iniZ) (fun _ => 0) (fun _ => 0) (fun _ => 0) (fun _ => 0) (fun _ => 0) (fun _ => 0) (nI 0) (nI 0) (nI 0) (nI 0) ++ owc G q1 t r h g bb iniC).map some := rfl
  have hP := hP.swap.part _ hJ
  have hD := hD.swap.part _ (by decide) hJ
  refine lv_astore_n (lv' := [(2, .ref (a 0)), (1, .ref q1), (0, .ref b)]) hx hb dL_law_15 rfl hl (by decide) rfl (fun ls hl => ?_)
  refine lv_iconst (v := nI (3 * 0)) hx hb dL_law_16 (by decide) ?_
  refine lv_istore_n (lv' := [(3, .int (nI (3 * 0))), (2, .ref (a 0)), (1, .ref q1), (0, .ref b)]) hx hb dL_law_17 rfl hl (by decide) rfl (fun ls hl => ?_)
  refine W.widen (k := 100 + 11 * 0) (n := 1000 + 62 * 0) (Nat.le_of_ble_eq_true rfl) (Nat.le_of_ble_eq_true rfl) ?_
  exact lw_loop hr hlocks ⟨hx, hb, hml, hown, htsL, hX, hbl, hK, hz, hL⟩ 600 0 (by omega) (by omega) H locs (LG.of INV_ini (Nat.le_refl _) hP hD hS) ls (lv_sub hl [3, 2, 1, 0] rfl)
