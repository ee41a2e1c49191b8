/-! THE LAW'S LOOP (laid by wip/p28/gen/l6.py) -/
/-- what was saved at the beginning -/
def K7 (k : CS) : Prop := (∃ a, k.2.2.2.2.1 7 = some a) ∧ k.2.2.2.2.2.1 7 = iniT
theorem Old.up {ad : Ad} {S : Nat → Tb} (h : Old ad S) (k : Nat) (u : Option (Nat → Nat)) {T : Tb} (hT : is01 (T 10 0)) : Old (va_up ad k u) (va_up S k T) := fun i hi hn => by
  by_cases hx : i = k
  · subst hx; rw [va_up_self]; exact hT
  · rw [va_up_ne _ _ hx] at hn ⊢; exact h i hi hn
theorem RF_kp {k : CS} {B B' : Nat} (h : RF k B) {T1 : Tb} (hT : TI T1 B') (hB' : B' ≤ 9900) (hnx : k.2.2.1 < 98000) (u : Nat → Nat) : RF (kp k u T1) B' :=
  ⟨OKC_kp h.1 h.2.2.2.2.2 hT.1.t01 u, hT, hB', h.2.2.2.1, h.2.2.2.2.1.up _ _ h.1.1, Nat.lt_of_lt_of_le (Nat.succ_lt_succ hnx) (Nat.le_of_ble_eq_true rfl)⟩
theorem K7_kp {k : CS} (h : K7 k) (u : Nat → Nat) (T1 : Tb) : K7 (kp k u T1) := by
  have hne : (7 : Nat) ≠ k.2.2.1 % 6 := by omega
  obtain ⟨⟨a, h1⟩, h2⟩ := h
  exact ⟨⟨a, (va_up_ne _ _ hne).trans h1⟩, (va_up_ne _ _ hne).trans h2⟩
def svC (k : CS) (i : Nat) (u : Nat → Nat) : CS := (k.1, k.2.1, k.2.2.1, k.2.2.2.1, va_up k.2.2.2.2.1 i (some u), va_up k.2.2.2.2.2.1 i k.1, k.2.2.2.2.2.2.1, k.2.2.2.2.2.2.2)
def unC (k : CS) : CS := (k.2.2.2.2.2.1 ((k.2.2.1 - 1) % 6), k.2.1, k.2.2.1 - 1, k.2.2.2.1 - 1, k.2.2.2.2.1, k.2.2.2.2.2.1, k.2.2.2.2.2.2.1, k.2.2.2.2.2.2.2)
theorem RF_sv {k : CS} {B : Nat} (h : RF k B) (i : Nat) (u : Nat → Nat) : RF (svC k i u) B := ⟨h.1, h.2.1, h.2.2.1, h.2.2.2.1, h.2.2.2.2.1.up _ _ h.1.1, h.2.2.2.2.2⟩
theorem RF_un {k : CS} {B B' : Nat} (h : RF k B) (hT : TI (k.2.2.2.2.2.1 ((k.2.2.1 - 1) % 6)) B') (hB' : B' ≤ 9900) : RF (unC k) B' :=
  ⟨⟨hT.1.t01, Nat.lt_of_le_of_lt (Nat.sub_le _ _) h.1.2.1, Nat.le_trans (Nat.sub_le _ _) h.1.2.2.1, h.1.2.2.2.1, h.1.2.2.2.2⟩, hT, hB', h.2.2.2.1, h.2.2.2.2.1, Nat.lt_of_le_of_lt (Nat.sub_le _ _) h.2.2.2.2.2⟩
/-- behind a change from k0 to T1 -/
def Bk (k0 : CS) (T1 : Tb) (B : Nat) (k1 : CS) : Prop := RF k1 B ∧ k1.1 = T1 ∧ k1.2.2.1 = k0.2.2.1 + 1 ∧ k1.2.2.2.1 = min (k0.2.2.2.1 + 1) 6 ∧ (∃ a, k1.2.2.2.2.1 (k0.2.2.1 % 6) = some a) ∧ k1.2.2.2.2.2.1 (k0.2.2.1 % 6) = k0.1 ∧ K7 k1
theorem Bk_kp {k : CS} {B B' : Nat} (h : RF k B) (h7 : K7 k) {T1 : Tb} (hT : TI T1 B') (hB' : B' ≤ 9900) (hnx : k.2.2.1 < 98000) (u : Nat → Nat) : Bk k T1 B' (kp k u T1) :=
  ⟨RF_kp h hT hB' hnx u, rfl, rfl, rfl, ⟨u, va_up_self _ _ _⟩, va_up_self _ _ _, K7_kp h7 u T1⟩
theorem Bk_sv {k0 k : CS} {B : Nat} {T1 : Tb} (h : Bk k0 T1 B k) (u : Nat → Nat) : Bk k0 T1 B (svC k 6 u) ∧ (svC k 6 u).2.2.2.2.1 6 = some u ∧ (svC k 6 u).2.2.2.2.2.1 6 = T1 := by
  obtain ⟨a, b, c, d, ⟨x, e⟩, f, ⟨y, g1⟩, g2⟩ := h
  have hne : k0.2.2.1 % 6 ≠ 6 := by omega
  have A : ∀ i, i ≠ 6 → va_up k.2.2.2.2.1 6 (some u) i = k.2.2.2.2.1 i := fun i hi => va_up_ne _ _ hi
  have S : ∀ i, i ≠ 6 → va_up k.2.2.2.2.2.1 6 k.1 i = k.2.2.2.2.2.1 i := fun i hi => va_up_ne _ _ hi
  exact ⟨⟨RF_sv a 6 u, b, c, d, ⟨x, (A _ hne).trans e⟩, (S _ hne).trans f, ⟨y, (A 7 (by decide)).trans g1⟩, (S 7 (by decide)).trans g2⟩, show va_up k.2.2.2.2.1 6 (some u) 6 = some u from va_up_self _ _ _, show va_up k.2.2.2.2.2.1 6 k.1 6 = T1 from (va_up_self _ _ _).trans b⟩
theorem Bk_un {k0 k : CS} {B B' : Nat} {T1 : Tb} (h : Bk k0 T1 B k) (h0 : TI k0.1 B') (hB' : B' ≤ 9900) : RF (unC k) B' ∧ (unC k).1 = k0.1 ∧ (unC k).2.2.1 = k0.2.2.1 ∧ (unC k).2.2.2.1 = min (k0.2.2.2.1 + 1) 6 - 1 ∧ K7 (unC k) := by
  obtain ⟨a, b, c, d, e, f, g⟩ := h
  have e1 : (k.2.2.1 - 1) % 6 = k0.2.2.1 % 6 := by rw [c]; rfl
  have e2 : k.2.2.2.2.2.1 ((k.2.2.1 - 1) % 6) = k0.1 := by rw [e1]; exact f
  exact ⟨RF_un a (by rw [e2]; exact h0) hB', e2, by show k.2.2.1 - 1 = _; rw [c]; rfl, by show k.2.2.2.1 - 1 = _; rw [d], g⟩
theorem Bk_hun {k0 k : CS} {B : Nat} {T1 : Tb} (h : Bk k0 T1 B k) : ¬ k.2.2.2.1 = 0 → ∃ (n : Nat) (a : Nat → Nat), k.2.2.1 = n + 1 ∧ k.2.2.2.2.1 (n % 6) = some a := fun _ => by
  obtain ⟨a, b, c, d, ⟨x, e⟩, f, g⟩ := h
  exact ⟨k0.2.2.1, x, c, e⟩
theorem Bk_ln {k0 k : CS} {B : Nat} {T1 : Tb} (h : Bk k0 T1 B k) : ¬ k.2.2.2.1 = 0 := by rw [h.2.2.2.1]; omega
theorem rsC_0 {ad : Ad} {i : Nat} (hi : i < 2) {a : Nat → Nat} (h : ad (6 + i) = some a) : rsC ad (nI i) = 0 := by
  unfold rsC
  rw [if_neg (nI_pos (by omega)), if_pos (show nI i < 2 from nI_lt (b := 2) hi (by decide)), show ix (nI i) = i from nI_clamp (by omega), h, if_neg (show ¬ (some a).isNone = true from fun q => by cases q)]
/-- what holds before the call j -/
def LI (k : CS) (j : Nat) : Prop := RF k (29 + 11 * j) ∧ K7 k ∧ k.2.2.1 ≤ 3 * j + 5
def lwC (p : Program) (s : State) (m : MethodId) (c : Code) (G : qG) (bs L : Nat) (xs : Nat → Int32) : Prop :=
  p.tables.exec = Jvm.exec ∧ c.code = cL_law ∧ c.maxLocals = 13 ∧ s.vm.findClass RL = some m.cls ∧ (∀ w ∈ wsL_law, w.before #[Value.ref bs] s = true) ∧ va_X bs L xs s s.heap ∧ bs < s.heap.size ∧ KK G s ∧ ZS (fun q : Nat => s.heap.size ≤ q) s ∧ L ≤ 260
section LAWL
variable {p : Program} {l : Launch} {e : Env} {s : State} {m : MethodId} {below : List Frame} {meth : Method} {c : Code} {H : Heap} {locs : List Loc} {cells slots : Nat} {Q : State → Prop} {ls : Array Slot} {G : qG} {o : Nat} {t r h : Nat → Nat} {g : Nat} {b : Nat → Nat} {bs L j : Nat} {xs : Nat → Int32}
/-- a call of cell -/
theorem lw_cell (G : qG) {cc : ByteArray} {R : Room} {args : Array Value} {A : Nat → Prop} {index pc nL i : Nat} {Ts : List Cond} {own : String} {st rest : List Value} {v : Int32} (X : CallFix p m c cc nL s args Ts own) (hX : va_X bs L xs s s.heap) (hbl : bs < s.heap.size) (hbA : ¬ A bs) (hL : L ≤ 260) (hi : i < 100) (hv : ceV L xs i = v)
    (cw : CallB R s args own index yL_cell cL_cell 2 (some .int) wsL_cell { frames := 0, cells := 0, slots := 0, locals := 0 } 0 0 2 ∧ (Cond.static yL_cell).before args s = true) (hS : va_S A s.heap H locs)
    (hst : st = [.int (nI i), .ref bs] ++ rest) (hsize : ls.size = nL) (hr : (rest.map fun v => v.category).sum ≤ 8) (hdg : decode cc pc = .ok (.invokestatic index, 3)) (hf : cells + 0 ≤ R.cells ∧ slots + 0 ≤ R.slots)
    (kk : W p l e R s m args below meth c H locs cells slots Q (F0 m (pc + 3) ls (.int v :: rest))) : W p l e R s m args below meth c H locs cells slots Q (F0 m pc ls st) := by
  subst hv
  have hXH : va_X bs L xs s H := hX.kept (hS.2.1 bs hbl hbA)
  have hblH : bs < H.size := by
    obtain ⟨scr, h1, -⟩ := hXH
    exact (Array.getElem?_eq_some_iff.mp h1).1
  exact vp_callSi (va_runS (g := F0 m pc ls st) (As := [.ref bs, .int (nI i)]) X (c_L_cell l G bs L xs hL i hi) cw ⟨fun _ _ _ _ q => ⟨q.1, q.2.1.moved (Vm.Alike.refl _), q.2.2⟩, fun U hU hW => ⟨rfl, by rw [hU]; exact hXH.moved hW.alike, by rw [hU]; exact hblH⟩⟩ rfl rfl hsize hst (lv_room hr) hdg hf).toCallRun (fun r hr => by rw [hr]; exact kk)
theorem RF.mono {k : CS} {B B' : Nat} (h : RF k B) (hB : B ≤ B') (hB' : B' ≤ 9900) : RF k B' := ⟨h.1, h.2.1.mono hB, hB', h.2.2.2.1, h.2.2.2.2.1, h.2.2.2.2.2⟩
set_option maxHeartbeats 4000000 in
set_option maxRecDepth 100000 in
/-- one round of the loop -/
theorem lw_iter (C0 : lwC p s m c G bs L xs) (hj : j < 70) {k : CS} (hI : LI k j) (hP : va_P G.1 vwCl (ows G o t r h g b k) H) (hD : va_D (fun q : Nat => s.heap.size ≤ q) (ows G o t r h g b k)) (hS : va_S (fun q : Nat => s.heap.size ≤ q) s.heap H locs) (hl : lv_has ls 13 [(3, .int (nI j)), (2, .int 1), (1, .ref o), (0, .ref bs)])
    (ih : ∀ (k' : CS), LI k' (j + 1) → ∀ (H : Heap) (locs : List Loc), va_P G.1 vwCl (ows G o t r h g b k') H → va_D (fun q : Nat => s.heap.size ≤ q) (ows G o t r h g b k') → va_S (fun q : Nat => s.heap.size ≤ q) s.heap H locs → ∀ ls : Array Slot, lv_has ls 13 [(3, .int (nI (j + 1))), (2, .int 1), (1, .ref o), (0, .ref bs)] → W p l e room_1 s m #[Value.ref bs] below meth c H locs (1000 + 250 * (j + 1)) (4000 + 1400 * (j + 1)) (lw_Z below #[Value.ref bs] s) (F0 m 93 ls [])) :
    W p l e room_1 s m #[Value.ref bs] below meth c H locs (1000 + 250 * j) (4000 + 1400 * j) (lw_Z below #[Value.ref bs] s) (F0 m 93 ls []) := by
  obtain ⟨hx, hb, hml, hown, hts, hX, hbl, hK, hz, hL⟩ := C0
  obtain ⟨hF, h7, hnx⟩ := hI
  obtain ⟨A, hAe⟩ : ∃ A : Nat → Prop, A = fun q : Nat => s.heap.size ≤ q := ⟨_, rfl⟩
  rw [← hAe] at hz hD hS ih
  have hA : ∀ q : Nat, s.heap.size ≤ q → A q := fun q h9 => by rw [hAe]; exact h9
  have hbA : ¬ A bs := by rw [hAe]; exact Nat.not_le.mpr hbl
  obtain ⟨n, hn, hce⟩ : ∃ n : Nat, n < 2 ^ 31 ∧ ceV L xs j = nI n := pk_andE _ (m := 2147483647) 31 (by decide +kernel)
  obtain ⟨j6, hj6⟩ : ∃ q : Nat, nI j - nI j / 6 * 6 = nI q := ⟨j % 6, pk_rem (a := j) (d := 6) (by omega) (by decide) (by decide)⟩
  obtain ⟨n6, hn6, hn69⟩ : ∃ q : Nat, nI n / 6 = nI q ∧ q < 2 ^ 31 := ⟨n / 6, pk_div (a := n) (d := 6) hn (by decide) (by decide), by omega⟩
  obtain ⟨n17, hn17, hn179⟩ : ∃ q : Nat, nI n / 17 = nI q ∧ q < 2 ^ 31 := ⟨n / 17, pk_div (a := n) (d := 17) hn (by decide) (by decide), by omega⟩
  obtain ⟨n4, hn4⟩ : ∃ q : Nat, nI n17 - nI n17 / 4 * 4 = nI q := ⟨n17 % 4, pk_rem (a := n17) (d := 4) hn179 (by decide) (by decide)⟩

  refine lv_iload_n hx hb dL_law_93 rfl (lv_at hl 0 rfl) ?_
  refine lv_bipush (v := 70) hx hb dL_law_94 (by decide) ?_
  refine lv_icmp_ge (tgt := 330) hx hb dL_law_96 (by decide) (fun c_9 => absurd c_9 (nI_ge (b := 70) hj (by decide))) (fun _ => ?_)
  refine lv_iload_n hx hb dL_law_99 rfl (lv_at hl 1 rfl) ?_
  refine lv_if_eq (tgt := 330) hx hb dL_law_100 (by decide) (fun c_9 => absurd c_9 (by decide)) (fun _ => ?_)
  refine lv_aload_n hx hb dL_law_103 rfl (lv_at hl 3 rfl) ?_
  refine lv_iload_n hx hb dL_law_104 rfl (lv_at hl 0 rfl) ?_
  refine lw_cell G (rest := []) ⟨hx, hb, hml, hown, hts⟩ hX hbl hbA hL (by omega) hce (va_cwS 2 hts gL_law_L_cell rfl rfl rfl (by decide +kernel) ⟨Nat.le_of_ble_eq_true rfl, Nat.le_of_ble_eq_true rfl⟩) hS rfl hl.1 (Nat.le_of_ble_eq_true rfl) dL_law_105 ⟨(show 1000 + 250 * j + 0 ≤ 652571 by omega), (show 4000 + 1400 * j + 0 ≤ 7144534 by omega)⟩ ?_
  refine lv_istore (lv' := [(4, .int (nI n)), (3, .int (nI j)), (2, .int 1), (1, .ref o), (0, .ref bs)]) hx hb dL_law_108 hl (by decide) rfl (fun ls hl => ?_)
  refine lv_aload_n hx hb dL_law_110 rfl (lv_at hl 3 rfl) ?_
  refine lSl (As := [.ref o]) (rest := []) ⟨hx, hb, hml, hown, hts⟩ (c_L_seen l G o t r h g b hF.1) (va_cwS 1 hts gL_law_L_seen rfl rfl rfl (by decide +kernel) ⟨Nat.le_of_ble_eq_true rfl, Nat.le_of_ble_eq_true rfl⟩) hK hP rfl rfl hl.1 (Nat.le_of_ble_eq_true rfl) dL_law_111 ⟨(show 1000 + 250 * j + 0 ≤ 652571 by omega), (show 4000 + 1400 * j + 0 ≤ 7144534 by omega)⟩ ?_
  refine lv_lstore (lv' := [(5, .long (snF k.1)), (4, .int (nI n)), (3, .int (nI j)), (2, .int 1), (1, .ref o), (0, .ref bs)]) hx hb dL_law_114 hl (by decide) rfl (fun ls hl => ?_)
  refine lv_aload_n hx hb dL_law_116 rfl (lv_at hl 4 rfl) ?_
  refine lv_bipush (v := 15) hx hb dL_law_117 (by decide) ?_
  refine lR (nI k.2.2.2.1) (As := [.int 15]) (rest := []) ⟨hx, hb, hml, hown, hts⟩ (k_count l G o t r h g b hF.1 15) (cn15 _ _ _) (cwV 1 hts gL_law_X3_count rfl rfl rfl (by decide +kernel) ⟨Nat.le_of_ble_eq_true rfl, Nat.le_of_ble_eq_true rfl⟩) hK hP rfl rfl hl.1 (Nat.le_of_ble_eq_true rfl) dL_law_119 ⟨(show 1000 + 250 * j + 0 ≤ 652571 by omega), (show 4000 + 1400 * j + 0 ≤ 7144534 by omega)⟩ ?_
  refine lv_istore (lv' := [(7, .int (nI k.2.2.2.1)), (5, .long (snF k.1)), (4, .int (nI n)), (3, .int (nI j)), (2, .int 1), (1, .ref o), (0, .ref bs)]) hx hb dL_law_122 hl (by decide) rfl (fun ls hl => ?_)
  refine lv_aload_n hx hb dL_law_124 rfl (lv_at hl 5 rfl) ?_
  refine lv_iload hx hb dL_law_125 (lv_at hl 2 rfl) ?_
  refine lSw (As := [.ref o, .int (nI n)]) (rest := []) ⟨hx, hb, hml, hown, hts⟩ (c_L_act l G o t r h g b hF (by omega) hn _) (va_cwS 2 hts gL_law_L_act rfl rfl rfl (by decide +kernel) ⟨Nat.le_of_ble_eq_true rfl, Nat.le_of_ble_eq_true rfl⟩) hK hz hP hD hS hA rfl rfl hl.1 (Nat.le_of_ble_eq_true rfl) dL_law_127 ⟨(show 1000 + 250 * j + 11 ≤ 652571 by omega), (show 4000 + 1400 * j + 62 ≤ 7144534 by omega)⟩ (fun r_1 k1 H locs hr_1 hP hD hS => ?_)
  have hr1 := hr_1
  rcases hr1 with ⟨e_r, e_k⟩ | ⟨e_r, u, T1, e_k, hT1⟩
  · subst e_r
    have e_k : k = k1 := e_k.symm
    subst e_k
    refine lv_istore (lv' := [(8, .int 0), (7, .int (nI k.2.2.2.1)), (5, .long (snF k.1)), (4, .int (nI n)), (3, .int (nI j)), (2, .int 1), (1, .ref o), (0, .ref bs)]) hx hb dL_law_130 hl (by decide) rfl (fun ls hl => ?_)
    refine lv_aload_n hx hb dL_law_132 rfl (lv_at hl 6 rfl) ?_
    refine lv_bipush (v := 15) hx hb dL_law_133 (by decide) ?_
    refine lR (nI k.2.2.2.1) (As := [.int 15]) (rest := []) ⟨hx, hb, hml, hown, hts⟩ (k_count l G o t r h g b hF.1 15) (cn15 _ _ _) (cwV 1 hts gL_law_X3_count rfl rfl rfl (by decide +kernel) ⟨Nat.le_of_ble_eq_true rfl, Nat.le_of_ble_eq_true rfl⟩) hK hP rfl rfl hl.1 (Nat.le_of_ble_eq_true rfl) dL_law_135 ⟨(show 1000 + 250 * j + 11 + 0 ≤ 652571 by omega), (show 4000 + 1400 * j + 62 + 0 ≤ 7144534 by omega)⟩ ?_
    refine lv_istore (lv' := [(9, .int (nI k.2.2.2.1)), (8, .int 0), (7, .int (nI k.2.2.2.1)), (5, .long (snF k.1)), (4, .int (nI n)), (3, .int (nI j)), (2, .int 1), (1, .ref o), (0, .ref bs)]) hx hb dL_law_138 hl (by decide) rfl (fun ls hl => ?_)
    refine lv_iload hx hb dL_law_140 (lv_at hl 1 rfl) ?_
    refine lv_if_lt (tgt := 222) hx hb dL_law_142 (by decide) (fun c_9 => absurd c_9 (by decide)) (fun _ => ?_)
    refine lv_iload hx hb dL_law_145 (lv_at hl 1 rfl) ?_
    refine lv_if_ne (tgt := 170) hx hb dL_law_147 (by decide) (fun c_9 => absurd (by decide) c_9) (fun _ => ?_)
    refine lv_iload hx hb dL_law_150 (lv_at hl 0 rfl) ?_
    refine lv_iload hx hb dL_law_152 (lv_at hl 2 rfl) ?_
    refine lv_icmp_ne (tgt := 222) hx hb dL_law_154 (by decide) (fun c_9 => absurd rfl c_9) (fun _ => ?_)
    refine lv_aload_n hx hb dL_law_157 rfl (lv_at hl 7 rfl) ?_
    refine lSl (As := [.ref o]) (rest := []) ⟨hx, hb, hml, hown, hts⟩ (c_L_seen l G o t r h g b hF.1) (va_cwS 1 hts gL_law_L_seen rfl rfl rfl (by decide +kernel) ⟨Nat.le_of_ble_eq_true rfl, Nat.le_of_ble_eq_true rfl⟩) hK hP rfl rfl hl.1 (Nat.le_of_ble_eq_true rfl) dL_law_158 ⟨(show 1000 + 250 * j + 11 + 0 ≤ 652571 by omega), (show 4000 + 1400 * j + 62 + 0 ≤ 7144534 by omega)⟩ ?_
    refine lv_lload hx hb dL_law_161 (lv_at hl 3 rfl) ?_
    refine W.lcmp hx hb dL_law_163 ?_
    refine lv_if_ne (tgt := 222) hx hb dL_law_164 (by decide) (fun c_9 => absurd ((lg_cmp_eq _ _).mpr rfl) c_9) (fun _ => ?_)
    refine lv_goto (tgt := 191) hx hb dL_law_167 (by decide) ?_
    refine lv_aload_n hx hb dL_law_191 rfl (lv_at hl 7 rfl) ?_
    refine lSw (As := [.ref o]) (rest := []) ⟨hx, hb, hml, hown, hts⟩ (c_L_isWhole l G o t r h g b hF.1 hF.2.1 _) (va_cwS 1 hts gL_law_L_isWhole rfl rfl rfl (by decide +kernel) ⟨Nat.le_of_ble_eq_true rfl, Nat.le_of_ble_eq_true rfl⟩) hK hz hP hD hS hA rfl rfl hl.1 (Nat.le_of_ble_eq_true rfl) dL_law_192 ⟨(show 1000 + 250 * j + 11 + 0 ≤ 652571 by omega), (show 4000 + 1400 * j + 62 + 0 ≤ 7144534 by omega)⟩ (fun r_2 k2 H locs hr_2 hP hD hS => ?_)
    obtain ⟨e_r, U2, e_k⟩ := hr_2
    subst e_r
    have hF2 : RF k2 (29 + 11 * j) := by rw [e_k]; exact hF
    have h72 : K7 k2 := by rw [e_k]; exact h7
    have n2 : k2.2.2.1 = k.2.2.1 := by rw [e_k]
    refine lv_if_eq (tgt := 222) hx hb dL_law_195 (by decide) (fun c_9 => absurd c_9 (by decide)) (fun _ => ?_)
    have J218 : ∀ (H : Heap) (locs : List Loc), va_P G.1 vwCl (ows G o t r h g b k2) H → va_D A (ows G o t r h g b k2) → va_S A s.heap H locs → ∀ ls : Array Slot, lv_has ls 13 [(8, .int 0), (3, .int (nI j)), (2, .int 1), (1, .ref o), (0, .ref bs)] → W p l e room_1 s m #[Value.ref bs] below meth c H locs (1000 + 250 * j + 250) (4000 + 1400 * j + 1400) (lw_Z below #[Value.ref bs] s) (F0 m 218 ls []) := by
      intro H locs hP hD hS ls hl
      refine lv_iconst (v := 1) hx hb dL_law_218 (by decide) ?_
      refine lv_goto (tgt := 223) hx hb dL_law_219 (by decide) ?_
      refine lv_istore_n (lv' := [(2, .int 1), (8, .int 0), (3, .int (nI j)), (1, .ref o), (0, .ref bs)]) hx hb dL_law_223 rfl hl (by decide) rfl (fun ls hl => ?_)
      refine lv_iload_n hx hb dL_law_224 rfl (lv_at hl 0 rfl) ?_
      refine lv_if_eq (tgt := 324) hx hb dL_law_225 (by decide) (fun c_9 => absurd c_9 (by decide)) (fun _ => ?_)
      refine lv_iload hx hb dL_law_228 (lv_at hl 1 rfl) ?_
      refine lv_iconst (v := 1) hx hb dL_law_230 (by decide) ?_
      refine lv_icmp_ne (tgt := 324) hx hb dL_law_231 (by decide) (fun _ => ?_) (fun c_9 => absurd c_9 (by decide))
      refine lv_iinc (v := nI (j + 1)) (lv' := [(3, .int (nI (j + 1))), (2, .int 1), (8, .int 0), (1, .ref o), (0, .ref bs)]) hx hb dL_law_324 hl (k := 2) rfl (nI_1 _) (by decide) rfl (fun ls hl => ?_)
      refine lv_goto (tgt := 93) hx hb dL_law_327 (by decide) ?_
      refine W.widen (k := 1000 + 250 * (j + 1)) (n := 4000 + 1400 * (j + 1)) (by omega) (by omega) ?_
      exact ih k2 ⟨RF.mono hF2 (by omega) (by omega), h72, by have := n2; omega⟩ _ _ hP hD hS ls (lv_sub hl [0, 1, 3, 4] rfl)
    refine lv_iload_n hx hb dL_law_198 rfl (lv_at hl 5 rfl) ?_
    refine lv_bipush (v := 6) hx hb dL_law_199 (by decide) ?_
    refine lv_irem hx hb dL_law_201 (by decide) ?_
    refine qtop (y := nI j6) hj6 ?_
    refine lv_iconst (v := 5) hx hb dL_law_202 (by decide) ?_
    refine lv_icmp_ne (tgt := 218) hx hb dL_law_203 (by decide) (fun c_6 => ?_) (fun c_6 => ?_)
    · refine W.widen (k := 1000 + 250 * j + 250) (n := 4000 + 1400 * j + 1400) (by omega) (by omega) ?_
      exact J218 _ _ hP hD hS ls (lv_sub hl [1, 5, 6, 7, 8] rfl)
    · refine lv_aload_n hx hb dL_law_206 rfl (lv_at hl 7 rfl) ?_
      refine lv_iload hx hb dL_law_207 (lv_at hl 4 rfl) ?_
      refine lv_bipush (v := 6) hx hb dL_law_209 (by decide) ?_
      refine lv_idiv hx hb dL_law_211 (by decide) ?_
      refine qtop (y := nI n6) hn6 ?_
      refine lSwr (1) (As := [.ref o, .int (nI n6)]) (rest := []) ⟨hx, hb, hml, hown, hts⟩ (c_L_refuses l G o t r h g b hF2 hn69  _) (fun _ _ q => q) (va_cwS 2 hts gL_law_L_refuses rfl rfl rfl (by decide +kernel) ⟨Nat.le_of_ble_eq_true rfl, Nat.le_of_ble_eq_true rfl⟩) hK hz hP hD hS hA rfl rfl hl.1 (Nat.le_of_ble_eq_true rfl) dL_law_212 ⟨(show 1000 + 250 * j + 11 + 0 + 198 ≤ 652571 by omega), (show 4000 + 1400 * j + 62 + 0 + 1116 ≤ 7144534 by omega)⟩ (fun H locs hP hD hS => ?_)
      refine lv_if_eq (tgt := 222) hx hb dL_law_215 (by decide) (fun c_9 => absurd c_9 (by decide)) (fun _ => ?_)
      refine W.widen (k := 1000 + 250 * j + 250) (n := 4000 + 1400 * j + 1400) (by omega) (by omega) ?_
      exact J218 _ _ hP hD hS ls (lv_sub hl [1, 5, 6, 7, 8] rfl)
  · subst e_r
    have b1 : Bk k T1 (29 + 11 * j + 11) k1 := by rw [e_k]; exact Bk_kp hF h7 hT1 (by omega) (by omega) u
    have hF1 := b1.1
    have hln := hF.1.2.2.1
    refine lv_istore (lv' := [(8, .int 1), (7, .int (nI k.2.2.2.1)), (5, .long (snF k.1)), (4, .int (nI n)), (3, .int (nI j)), (2, .int 1), (1, .ref o), (0, .ref bs)]) hx hb dL_law_130 hl (by decide) rfl (fun ls hl => ?_)
    refine lv_aload_n hx hb dL_law_132 rfl (lv_at hl 6 rfl) ?_
    refine lv_bipush (v := 15) hx hb dL_law_133 (by decide) ?_
    refine lR (nI (min (k.2.2.2.1 + 1) 6)) (As := [.int 15]) (rest := []) ⟨hx, hb, hml, hown, hts⟩ (k_count l G o t r h g b hF1.1 15) ((cn15 _ _ _).trans (by rw [b1.2.2.2.1])) (cwV 1 hts gL_law_X3_count rfl rfl rfl (by decide +kernel) ⟨Nat.le_of_ble_eq_true rfl, Nat.le_of_ble_eq_true rfl⟩) hK hP rfl rfl hl.1 (Nat.le_of_ble_eq_true rfl) dL_law_135 ⟨(show 1000 + 250 * j + 11 + 0 ≤ 652571 by omega), (show 4000 + 1400 * j + 62 + 0 ≤ 7144534 by omega)⟩ ?_
    refine lv_istore (lv' := [(9, .int (nI (min (k.2.2.2.1 + 1) 6))), (8, .int 1), (7, .int (nI k.2.2.2.1)), (5, .long (snF k.1)), (4, .int (nI n)), (3, .int (nI j)), (2, .int 1), (1, .ref o), (0, .ref bs)]) hx hb dL_law_138 hl (by decide) rfl (fun ls hl => ?_)
    refine lv_iload hx hb dL_law_140 (lv_at hl 1 rfl) ?_
    refine lv_if_lt (tgt := 222) hx hb dL_law_142 (by decide) (fun c_9 => absurd c_9 (by decide)) (fun _ => ?_)
    refine lv_iload hx hb dL_law_145 (lv_at hl 1 rfl) ?_
    refine lv_if_ne (tgt := 170) hx hb dL_law_147 (by decide) (fun _ => ?_) (fun c_9 => absurd c_9 (by decide))
    have J191 : ∀ (H : Heap) (locs : List Loc), va_P G.1 vwCl (ows G o t r h g b k1) H → va_D A (ows G o t r h g b k1) → va_S A s.heap H locs → ∀ ls : Array Slot, lv_has ls 13 [(8, .int 1), (7, .int (nI k.2.2.2.1)), (5, .long (snF k.1)), (4, .int (nI n)), (3, .int (nI j)), (2, .int 1), (1, .ref o), (0, .ref bs)] → W p l e room_1 s m #[Value.ref bs] below meth c H locs (1000 + 250 * j + 11) (4000 + 1400 * j + 62) (lw_Z below #[Value.ref bs] s) (F0 m 191 ls []) := by
      intro H locs hP hD hS ls hl
      refine lv_aload_n hx hb dL_law_191 rfl (lv_at hl 6 rfl) ?_
      refine lSw (As := [.ref o]) (rest := []) ⟨hx, hb, hml, hown, hts⟩ (c_L_isWhole l G o t r h g b hF1.1 hF1.2.1 _) (va_cwS 1 hts gL_law_L_isWhole rfl rfl rfl (by decide +kernel) ⟨Nat.le_of_ble_eq_true rfl, Nat.le_of_ble_eq_true rfl⟩) hK hz hP hD hS hA rfl rfl hl.1 (Nat.le_of_ble_eq_true rfl) dL_law_192 ⟨(show 1000 + 250 * j + 11 + 0 ≤ 652571 by omega), (show 4000 + 1400 * j + 62 + 0 ≤ 7144534 by omega)⟩ (fun r_3 k2 H locs hr_3 hP hD hS => ?_)
      obtain ⟨e_r, U2, e_k2⟩ := hr_3
      subst e_r
      have b2 : Bk k T1 (29 + 11 * j + 11) k2 := by rw [e_k2]; exact b1
      have hF2 := b2.1
      refine lv_if_eq (tgt := 222) hx hb dL_law_195 (by decide) (fun c_9 => absurd c_9 (by decide)) (fun _ => ?_)
      have J218 : ∀ (H : Heap) (locs : List Loc), va_P G.1 vwCl (ows G o t r h g b k2) H → va_D A (ows G o t r h g b k2) → va_S A s.heap H locs → ∀ ls : Array Slot, lv_has ls 13 [(8, .int 1), (7, .int (nI k.2.2.2.1)), (5, .long (snF k.1)), (4, .int (nI n)), (3, .int (nI j)), (2, .int 1), (1, .ref o), (0, .ref bs)] → W p l e room_1 s m #[Value.ref bs] below meth c H locs (1000 + 250 * j + 209) (4000 + 1400 * j + 1178) (lw_Z below #[Value.ref bs] s) (F0 m 218 ls []) := by
        intro H locs hP hD hS ls hl
        refine lv_iconst (v := 1) hx hb dL_law_218 (by decide) ?_
        refine lv_goto (tgt := 223) hx hb dL_law_219 (by decide) ?_
        refine lv_istore_n (lv' := [(2, .int 1), (8, .int 1), (7, .int (nI k.2.2.2.1)), (5, .long (snF k.1)), (4, .int (nI n)), (3, .int (nI j)), (1, .ref o), (0, .ref bs)]) hx hb dL_law_223 rfl hl (by decide) rfl (fun ls hl => ?_)
        refine lv_iload_n hx hb dL_law_224 rfl (lv_at hl 0 rfl) ?_
        refine lv_if_eq (tgt := 324) hx hb dL_law_225 (by decide) (fun c_9 => absurd c_9 (by decide)) (fun _ => ?_)
        refine lv_iload hx hb dL_law_228 (lv_at hl 1 rfl) ?_
        refine lv_iconst (v := 1) hx hb dL_law_230 (by decide) ?_
        refine lv_icmp_ne (tgt := 324) hx hb dL_law_231 (by decide) (fun c_9 => absurd (by decide) c_9) (fun _ => ?_)
        refine lv_iload hx hb dL_law_234 (lv_at hl 4 rfl) ?_
        refine lv_bipush (v := 17) hx hb dL_law_236 (by decide) ?_
        refine lv_idiv hx hb dL_law_238 (by decide) ?_
        refine qtop (y := nI n17) hn17 ?_
        refine lv_iconst (v := 4) hx hb dL_law_239 (by decide) ?_
        refine lv_irem hx hb dL_law_240 (by decide) ?_
        refine qtop (y := nI n4) hn4 ?_
        refine lv_if_ne (tgt := 324) hx hb dL_law_241 (by decide) (fun c_4 => ?_) (fun c_4 => ?_)
        · refine lv_iinc (v := nI (j + 1)) (lv' := [(3, .int (nI (j + 1))), (2, .int 1), (8, .int 1), (7, .int (nI k.2.2.2.1)), (5, .long (snF k.1)), (4, .int (nI n)), (1, .ref o), (0, .ref bs)]) hx hb dL_law_324 hl (k := 5) rfl (nI_1 _) (by decide) rfl (fun ls hl => ?_)
          refine lv_goto (tgt := 93) hx hb dL_law_327 (by decide) ?_
          refine W.widen (k := 1000 + 250 * (j + 1)) (n := 4000 + 1400 * (j + 1)) (by omega) (by omega) ?_
          exact ih k2 ⟨RF.mono hF2 (by omega) (by omega), b2.2.2.2.2.2.2, by have := b2.2.2.1; omega⟩ _ _ hP hD hS ls (lv_sub hl [0, 1, 6, 7] rfl)
        · refine lv_aload_n hx hb dL_law_244 rfl (lv_at hl 6 rfl) ?_
          refine lSl (As := [.ref o]) (rest := []) ⟨hx, hb, hml, hown, hts⟩ (c_L_seen l G o t r h g b hF2.1) (va_cwS 1 hts gL_law_L_seen rfl rfl rfl (by decide +kernel) ⟨Nat.le_of_ble_eq_true rfl, Nat.le_of_ble_eq_true rfl⟩) hK hP rfl rfl hl.1 (Nat.le_of_ble_eq_true rfl) dL_law_245 ⟨(show 1000 + 250 * j + 209 + 0 ≤ 652571 by omega), (show 4000 + 1400 * j + 1178 + 0 ≤ 7144534 by omega)⟩ ?_
          refine lv_lstore (lv' := [(10, .long (snF k2.1)), (2, .int 1), (8, .int 1), (7, .int (nI k.2.2.2.1)), (5, .long (snF k.1)), (4, .int (nI n)), (3, .int (nI j)), (1, .ref o), (0, .ref bs)]) hx hb dL_law_248 hl (by decide) rfl (fun ls hl => ?_)
          refine lv_aload_n hx hb dL_law_250 rfl (lv_at hl 7 rfl) ?_
          refine lv_bipush (v := 10) hx hb dL_law_251 (by decide) ?_
          refine lR (s5 (k2.1 2)) (As := [.int 10]) (rest := []) ⟨hx, hb, hml, hown, hts⟩ (k_count l G o t r h g b hF2.1 10) (cn10 _ _ _) (cwV 1 hts gL_law_X3_count rfl rfl rfl (by decide +kernel) ⟨Nat.le_of_ble_eq_true rfl, Nat.le_of_ble_eq_true rfl⟩) hK hP rfl rfl hl.1 (Nat.le_of_ble_eq_true rfl) dL_law_253 ⟨(show 1000 + 250 * j + 209 + 0 ≤ 652571 by omega), (show 4000 + 1400 * j + 1178 + 0 ≤ 7144534 by omega)⟩ ?_
          refine lv_istore (lv' := [(12, .int (s5 (k2.1 2))), (10, .long (snF k2.1)), (2, .int 1), (8, .int 1), (7, .int (nI k.2.2.2.1)), (5, .long (snF k.1)), (4, .int (nI n)), (3, .int (nI j)), (1, .ref o), (0, .ref bs)]) hx hb dL_law_256 hl (by decide) rfl (fun ls hl => ?_)
          refine lv_aload_n hx hb dL_law_258 rfl (lv_at hl 8 rfl) ?_
          refine lv_iconst (v := 0) hx hb dL_law_259 (by decide) ?_
          refine lW (As := [.int 0]) (rest := []) ⟨hx, hb, hml, hown, hts⟩ (k_save l G o t r h g b hF2.1 0 _) (cwV 1 hts gL_law_X3_save rfl rfl rfl (by decide +kernel) ⟨Nat.le_of_ble_eq_true rfl, Nat.le_of_ble_eq_true rfl⟩) hK hP hD hS hA rfl rfl hl.1 (Nat.le_of_ble_eq_true rfl) dL_law_260 ⟨(show 1000 + 250 * j + 209 + 11 ≤ 652571 by omega), (show 4000 + 1400 * j + 1178 + 62 ≤ 7144534 by omega)⟩ (fun r_4 k3 H locs hr_4 hP hD hS => ?_)
          obtain ⟨e_r, u3, e_k3⟩ := made (show slC 0 = 0 by decide +kernel) _ _ hr_4
          rw [sqC_s5] at e_r
          subst e_r
          obtain ⟨b3, a3, s3⟩ : Bk k T1 (29 + 11 * j + 11) k3 ∧ k3.2.2.2.2.1 6 = some u3 ∧ k3.2.2.2.2.2.1 6 = T1 := by rw [e_k3]; exact Bk_sv b2 u3
          have hF3 := b3.1
          refine lv_iload hx hb dL_law_263 (lv_at hl 0 rfl) ?_
          refine lv_icmp_ne (tgt := 322) hx hb dL_law_265 (by decide) (fun c_9 => absurd rfl c_9) (fun _ => ?_)
          refine lv_aload_n hx hb dL_law_268 rfl (lv_at hl 8 rfl) ?_
          refine lW (As := []) (rest := []) ⟨hx, hb, hml, hown, hts⟩ (k_undo l G o t r h g b hF3.1 hF3.2.2.2.2.1 (Bk_hun b3)  _) (cwV 0 hts gL_law_X3_undo rfl rfl rfl (by decide +kernel) ⟨Nat.le_of_ble_eq_true rfl, Nat.le_of_ble_eq_true rfl⟩) hK hP hD hS hA rfl rfl hl.1 (Nat.le_of_ble_eq_true rfl) dL_law_269 ⟨(show 1000 + 250 * j + 209 + 11 + 0 ≤ 652571 by omega), (show 4000 + 1400 * j + 1178 + 62 + 0 ≤ 7144534 by omega)⟩ (fun r_5 k4 H locs hr_5 hP hD hS => ?_)
          obtain ⟨e_r, u9, e_k4⟩ := maden (Bk_ln b3) _ _ hr_5
          subst e_r
          have e_k4 : k4 = unC k3 := e_k4
          obtain ⟨hF4, c4, n4x, l4, h74⟩ : RF k4 (29 + 11 * j) ∧ k4.1 = k.1 ∧ k4.2.2.1 = k.2.2.1 ∧ k4.2.2.2.1 = min (k.2.2.2.1 + 1) 6 - 1 ∧ K7 k4 := by rw [e_k4]; exact Bk_un b3 hF.2.1 (by omega)
          have a4 : k4.2.2.2.2.1 6 = some u3 := by rw [e_k4]; exact a3
          have s4 : k4.2.2.2.2.2.1 6 = T1 := by rw [e_k4]; exact s3
          refine lv_iload hx hb dL_law_272 (lv_at hl 4 rfl) ?_
          refine lv_bipush (v := 6) hx hb dL_law_274 (by decide) ?_
          refine lv_icmp_ge (tgt := 284) hx hb dL_law_276 (by decide) (fun c_t => ?_) (fun c_t => ?_)
          · refine lv_iconst (v := 5) hx hb dL_law_284 (by decide) ?_
            refine lv_icmp_ne (tgt := 322) hx hb dL_law_285 (by decide) (fun c_9 => absurd (show nI (k3.2.2.2.1 - 1) = 5 from by have := (nI_leI (a := 6) (b := k.2.2.2.1) (by decide) (by omega)).mp c_t; rw [b3.2.2.2.1, show min (k.2.2.2.1 + 1) 6 - 1 = 5 by omega]; rfl) c_9) (fun _ => ?_)
            refine lv_aload_n hx hb dL_law_288 rfl (lv_at hl 8 rfl) ?_
            refine lSl (As := [.ref o]) (rest := []) ⟨hx, hb, hml, hown, hts⟩ (c_L_seen l G o t r h g b hF4.1) (va_cwS 1 hts gL_law_L_seen rfl rfl rfl (by decide +kernel) ⟨Nat.le_of_ble_eq_true rfl, Nat.le_of_ble_eq_true rfl⟩) hK hP rfl rfl hl.1 (Nat.le_of_ble_eq_true rfl) dL_law_289 ⟨(show 1000 + 250 * j + 209 + 11 + 0 + 0 ≤ 652571 by omega), (show 4000 + 1400 * j + 1178 + 62 + 0 + 0 ≤ 7144534 by omega)⟩ ?_
            refine lv_lload hx hb dL_law_292 (lv_at hl 5 rfl) ?_
            refine W.lcmp hx hb dL_law_294 ?_
            refine lv_if_ne (tgt := 322) hx hb dL_law_295 (by decide) (fun c_9 => absurd ((lg_cmp_eq _ _).mpr (by rw [c4])) c_9) (fun _ => ?_)
            refine lv_aload_n hx hb dL_law_298 rfl (lv_at hl 8 rfl) ?_
            refine lv_iconst (v := 0) hx hb dL_law_299 (by decide) ?_
            refine lW (As := [.int 0]) (rest := []) ⟨hx, hb, hml, hown, hts⟩ (k_restore l G o t r h g b hF4.1 hF4.2.2.2.2.1 0 _) (cwV 1 hts gL_law_X3_restore rfl rfl rfl (by decide +kernel) ⟨Nat.le_of_ble_eq_true rfl, Nat.le_of_ble_eq_true rfl⟩) hK hP hD hS hA rfl rfl hl.1 (Nat.le_of_ble_eq_true rfl) dL_law_300 ⟨(show 1000 + 250 * j + 209 + 11 + 0 + 11 ≤ 652571 by omega), (show 4000 + 1400 * j + 1178 + 62 + 0 + 62 ≤ 7144534 by omega)⟩ (fun r_6 k5 H locs hr_6 hP hD hS => ?_)
            obtain ⟨e_r, u5, e_k5⟩ := made (rsC_0 (ad := k4.2.2.2.2.1) (i := 0) (by decide) a4) _ _ hr_6
            have e_r : _ = sqC (k4.2.2.2.2.2.1 6 2) := e_r
            rw [sqC_s5, s4, ← b2.2.1] at e_r
            subst e_r
            have e_k5 : k5 = kp k4 u5 (k4.2.2.2.2.2.1 6) := e_k5
            rw [s4] at e_k5
            have hF5 : RF k5 (29 + 11 * j + 11) := by rw [e_k5]; exact RF_kp hF4 hT1 (by omega) (by omega) u5
            have c5 : k5.1 = T1 := by rw [e_k5]; rfl
            have n5 : k5.2.2.1 = k4.2.2.1 + 1 := by rw [e_k5]; rfl
            have h75 : K7 k5 := by rw [e_k5]; exact K7_kp h74 u5 T1
            refine lv_iload hx hb dL_law_303 (lv_at hl 0 rfl) ?_
            refine lv_icmp_ne (tgt := 322) hx hb dL_law_305 (by decide) (fun c_9 => absurd rfl c_9) (fun _ => ?_)
            refine lv_aload_n hx hb dL_law_308 rfl (lv_at hl 8 rfl) ?_
            refine lSl (As := [.ref o]) (rest := []) ⟨hx, hb, hml, hown, hts⟩ (c_L_seen l G o t r h g b hF5.1) (va_cwS 1 hts gL_law_L_seen rfl rfl rfl (by decide +kernel) ⟨Nat.le_of_ble_eq_true rfl, Nat.le_of_ble_eq_true rfl⟩) hK hP rfl rfl hl.1 (Nat.le_of_ble_eq_true rfl) dL_law_309 ⟨(show 1000 + 250 * j + 209 + 11 + 0 + 11 + 0 ≤ 652571 by omega), (show 4000 + 1400 * j + 1178 + 62 + 0 + 62 + 0 ≤ 7144534 by omega)⟩ ?_
            refine lv_lload hx hb dL_law_312 (lv_at hl 1 rfl) ?_
            refine W.lcmp hx hb dL_law_314 ?_
            refine lv_if_ne (tgt := 322) hx hb dL_law_315 (by decide) (fun c_9 => absurd ((lg_cmp_eq _ _).mpr (by rw [c5, b2.2.1])) c_9) (fun _ => ?_)
            refine lv_iconst (v := 1) hx hb dL_law_318 (by decide) ?_
            refine lv_goto (tgt := 323) hx hb dL_law_319 (by decide) ?_
            refine lv_istore_n (lv' := [(2, .int 1), (12, .int (s5 (k2.1 2))), (10, .long (snF k2.1)), (8, .int 1), (7, .int (nI k.2.2.2.1)), (5, .long (snF k.1)), (4, .int (nI n)), (3, .int (nI j)), (1, .ref o), (0, .ref bs)]) hx hb dL_law_323 rfl hl (by decide) rfl (fun ls hl => ?_)
            refine lv_iinc (v := nI (j + 1)) (lv' := [(3, .int (nI (j + 1))), (2, .int 1), (12, .int (s5 (k2.1 2))), (10, .long (snF k2.1)), (8, .int 1), (7, .int (nI k.2.2.2.1)), (5, .long (snF k.1)), (4, .int (nI n)), (1, .ref o), (0, .ref bs)]) hx hb dL_law_324 hl (k := 7) rfl (nI_1 _) (by decide) rfl (fun ls hl => ?_)
            refine lv_goto (tgt := 93) hx hb dL_law_327 (by decide) ?_
            refine W.widen (k := 1000 + 250 * (j + 1)) (n := 4000 + 1400 * (j + 1)) (by omega) (by omega) ?_
            exact ih k5 ⟨RF.mono hF5 (by omega) (by omega), h75, by have := n5; omega⟩ _ _ hP hD hS ls (lv_sub hl [0, 1, 8, 9] rfl)
          · refine lv_iload hx hb dL_law_279 (lv_at hl 4 rfl) ?_
            refine lv_goto (tgt := 285) hx hb dL_law_281 (by decide) ?_
            refine lv_icmp_ne (tgt := 322) hx hb dL_law_285 (by decide) (fun c_9 => absurd (show nI (k3.2.2.2.1 - 1) = nI k.2.2.2.1 from by have : ¬ 6 ≤ k.2.2.2.1 := fun q => c_t (nI_le (a := 6) q (by omega)); rw [b3.2.2.2.1, show min (k.2.2.2.1 + 1) 6 - 1 = k.2.2.2.1 by omega]) c_9) (fun _ => ?_)
            refine lv_aload_n hx hb dL_law_288 rfl (lv_at hl 8 rfl) ?_
            refine lSl (As := [.ref o]) (rest := []) ⟨hx, hb, hml, hown, hts⟩ (c_L_seen l G o t r h g b hF4.1) (va_cwS 1 hts gL_law_L_seen rfl rfl rfl (by decide +kernel) ⟨Nat.le_of_ble_eq_true rfl, Nat.le_of_ble_eq_true rfl⟩) hK hP rfl rfl hl.1 (Nat.le_of_ble_eq_true rfl) dL_law_289 ⟨(show 1000 + 250 * j + 209 + 11 + 0 + 0 ≤ 652571 by omega), (show 4000 + 1400 * j + 1178 + 62 + 0 + 0 ≤ 7144534 by omega)⟩ ?_
            refine lv_lload hx hb dL_law_292 (lv_at hl 5 rfl) ?_
            refine W.lcmp hx hb dL_law_294 ?_
            refine lv_if_ne (tgt := 322) hx hb dL_law_295 (by decide) (fun c_9 => absurd ((lg_cmp_eq _ _).mpr (by rw [c4])) c_9) (fun _ => ?_)
            refine lv_aload_n hx hb dL_law_298 rfl (lv_at hl 8 rfl) ?_
            refine lv_iconst (v := 0) hx hb dL_law_299 (by decide) ?_
            refine lW (As := [.int 0]) (rest := []) ⟨hx, hb, hml, hown, hts⟩ (k_restore l G o t r h g b hF4.1 hF4.2.2.2.2.1 0 _) (cwV 1 hts gL_law_X3_restore rfl rfl rfl (by decide +kernel) ⟨Nat.le_of_ble_eq_true rfl, Nat.le_of_ble_eq_true rfl⟩) hK hP hD hS hA rfl rfl hl.1 (Nat.le_of_ble_eq_true rfl) dL_law_300 ⟨(show 1000 + 250 * j + 209 + 11 + 0 + 11 ≤ 652571 by omega), (show 4000 + 1400 * j + 1178 + 62 + 0 + 62 ≤ 7144534 by omega)⟩ (fun r_7 k5 H locs hr_7 hP hD hS => ?_)
            obtain ⟨e_r, u5, e_k5⟩ := made (rsC_0 (ad := k4.2.2.2.2.1) (i := 0) (by decide) a4) _ _ hr_7
            have e_r : _ = sqC (k4.2.2.2.2.2.1 6 2) := e_r
            rw [sqC_s5, s4, ← b2.2.1] at e_r
            subst e_r
            have e_k5 : k5 = kp k4 u5 (k4.2.2.2.2.2.1 6) := e_k5
            rw [s4] at e_k5
            have hF5 : RF k5 (29 + 11 * j + 11) := by rw [e_k5]; exact RF_kp hF4 hT1 (by omega) (by omega) u5
            have c5 : k5.1 = T1 := by rw [e_k5]; rfl
            have n5 : k5.2.2.1 = k4.2.2.1 + 1 := by rw [e_k5]; rfl
            have h75 : K7 k5 := by rw [e_k5]; exact K7_kp h74 u5 T1
            refine lv_iload hx hb dL_law_303 (lv_at hl 0 rfl) ?_
            refine lv_icmp_ne (tgt := 322) hx hb dL_law_305 (by decide) (fun c_9 => absurd rfl c_9) (fun _ => ?_)
            refine lv_aload_n hx hb dL_law_308 rfl (lv_at hl 8 rfl) ?_
            refine lSl (As := [.ref o]) (rest := []) ⟨hx, hb, hml, hown, hts⟩ (c_L_seen l G o t r h g b hF5.1) (va_cwS 1 hts gL_law_L_seen rfl rfl rfl (by decide +kernel) ⟨Nat.le_of_ble_eq_true rfl, Nat.le_of_ble_eq_true rfl⟩) hK hP rfl rfl hl.1 (Nat.le_of_ble_eq_true rfl) dL_law_309 ⟨(show 1000 + 250 * j + 209 + 11 + 0 + 11 + 0 ≤ 652571 by omega), (show 4000 + 1400 * j + 1178 + 62 + 0 + 62 + 0 ≤ 7144534 by omega)⟩ ?_
            refine lv_lload hx hb dL_law_312 (lv_at hl 1 rfl) ?_
            refine W.lcmp hx hb dL_law_314 ?_
            refine lv_if_ne (tgt := 322) hx hb dL_law_315 (by decide) (fun c_9 => absurd ((lg_cmp_eq _ _).mpr (by rw [c5, b2.2.1])) c_9) (fun _ => ?_)
            refine lv_iconst (v := 1) hx hb dL_law_318 (by decide) ?_
            refine lv_goto (tgt := 323) hx hb dL_law_319 (by decide) ?_
            refine lv_istore_n (lv' := [(2, .int 1), (12, .int (s5 (k2.1 2))), (10, .long (snF k2.1)), (8, .int 1), (7, .int (nI k.2.2.2.1)), (5, .long (snF k.1)), (4, .int (nI n)), (3, .int (nI j)), (1, .ref o), (0, .ref bs)]) hx hb dL_law_323 rfl hl (by decide) rfl (fun ls hl => ?_)
            refine lv_iinc (v := nI (j + 1)) (lv' := [(3, .int (nI (j + 1))), (2, .int 1), (12, .int (s5 (k2.1 2))), (10, .long (snF k2.1)), (8, .int 1), (7, .int (nI k.2.2.2.1)), (5, .long (snF k.1)), (4, .int (nI n)), (1, .ref o), (0, .ref bs)]) hx hb dL_law_324 hl (k := 7) rfl (nI_1 _) (by decide) rfl (fun ls hl => ?_)
            refine lv_goto (tgt := 93) hx hb dL_law_327 (by decide) ?_
            refine W.widen (k := 1000 + 250 * (j + 1)) (n := 4000 + 1400 * (j + 1)) (by omega) (by omega) ?_
            exact ih k5 ⟨RF.mono hF5 (by omega) (by omega), h75, by have := n5; omega⟩ _ _ hP hD hS ls (lv_sub hl [0, 1, 8, 9] rfl)
      refine lv_iload_n hx hb dL_law_198 rfl (lv_at hl 4 rfl) ?_
      refine lv_bipush (v := 6) hx hb dL_law_199 (by decide) ?_
      refine lv_irem hx hb dL_law_201 (by decide) ?_
      refine qtop (y := nI j6) hj6 ?_
      refine lv_iconst (v := 5) hx hb dL_law_202 (by decide) ?_
      refine lv_icmp_ne (tgt := 218) hx hb dL_law_203 (by decide) (fun c_6 => ?_) (fun c_6 => ?_)
      · refine W.widen (k := 1000 + 250 * j + 209) (n := 4000 + 1400 * j + 1178) (by omega) (by omega) ?_
        exact J218 _ _ hP hD hS ls (lv_sub hl [0, 1, 2, 3, 4, 5, 6, 7] rfl)
      · refine lv_aload_n hx hb dL_law_206 rfl (lv_at hl 6 rfl) ?_
        refine lv_iload hx hb dL_law_207 (lv_at hl 3 rfl) ?_
        refine lv_bipush (v := 6) hx hb dL_law_209 (by decide) ?_
        refine lv_idiv hx hb dL_law_211 (by decide) ?_
        refine qtop (y := nI n6) hn6 ?_
        refine lSwr (1) (As := [.ref o, .int (nI n6)]) (rest := []) ⟨hx, hb, hml, hown, hts⟩ (c_L_refuses l G o t r h g b hF2 hn69  _) (fun _ _ q => q) (va_cwS 2 hts gL_law_L_refuses rfl rfl rfl (by decide +kernel) ⟨Nat.le_of_ble_eq_true rfl, Nat.le_of_ble_eq_true rfl⟩) hK hz hP hD hS hA rfl rfl hl.1 (Nat.le_of_ble_eq_true rfl) dL_law_212 ⟨(show 1000 + 250 * j + 11 + 0 + 198 ≤ 652571 by omega), (show 4000 + 1400 * j + 62 + 0 + 1116 ≤ 7144534 by omega)⟩ (fun H locs hP hD hS => ?_)
        refine lv_if_eq (tgt := 222) hx hb dL_law_215 (by decide) (fun c_9 => absurd c_9 (by decide)) (fun _ => ?_)
        refine W.widen (k := 1000 + 250 * j + 209) (n := 4000 + 1400 * j + 1178) (by omega) (by omega) ?_
        exact J218 _ _ hP hD hS ls (lv_sub hl [0, 1, 2, 3, 4, 5, 6, 7] rfl)
    refine lv_iload hx hb dL_law_170 (lv_at hl 0 rfl) ?_
    refine lv_iload hx hb dL_law_172 (lv_at hl 2 rfl) ?_
    refine lv_bipush (v := 6) hx hb dL_law_174 (by decide) ?_
    refine lv_icmp_ge (tgt := 186) hx hb dL_law_176 (by decide) (fun c_s => ?_) (fun c_s => ?_)
    · refine lv_bipush (v := 6) hx hb dL_law_186 (by decide) ?_
      refine lv_icmp_ne (tgt := 222) hx hb dL_law_188 (by decide) (fun c_9 => absurd (show nI (min (k.2.2.2.1 + 1) 6) = 6 from by have := (nI_leI (a := 6) (b := k.2.2.2.1) (by decide) (by omega)).mp c_s; rw [show min (k.2.2.2.1 + 1) 6 = 6 by omega]; rfl) c_9) (fun _ => ?_)
      exact J191 _ _ hP hD hS ls (lv_sub hl [1, 2, 3, 4, 5, 6, 7, 8] rfl)
    · refine lv_iload hx hb dL_law_179 (lv_at hl 2 rfl) ?_
      refine lv_iconst (v := 1) hx hb dL_law_181 (by decide) ?_
      refine lv_iadd hx hb dL_law_182 ?_
      refine qtop (y := nI (k.2.2.2.1 + 1)) (nI_1 _) ?_
      refine lv_goto (tgt := 188) hx hb dL_law_183 (by decide) ?_
      refine lv_icmp_ne (tgt := 222) hx hb dL_law_188 (by decide) (fun c_9 => absurd (show nI (min (k.2.2.2.1 + 1) 6) = nI (k.2.2.2.1 + 1) from by have : ¬ 6 ≤ k.2.2.2.1 := fun q => c_s (nI_le (a := 6) q (by omega)); rw [show min (k.2.2.2.1 + 1) 6 = k.2.2.2.1 + 1 by omega]) c_9) (fun _ => ?_)
      exact J191 _ _ hP hD hS ls (lv_sub hl [1, 2, 3, 4, 5, 6, 7, 8] rfl)
theorem TI_ini : TI iniT 29 := by
  obtain ⟨P, Q, hP⟩ : ∃ P Q, Per (iniT 4) P Q := ⟨fun i => i, fun i => i, fun i hi => ⟨hi, by rcases lt5 hi with rfl | rfl | rfl | rfl | rfl <;> decide +kernel, rfl⟩, fun i hi => ⟨hi, rfl⟩⟩
  refine TI.of_idle ⟨⟨clZ iniZ, RelV.of (fun i hi => ?_) (fun i hi => ?_) (by decide +kernel) (by decide +kernel) (by decide +kernel), ⟨⟨⟨⟨1, by decide, by decide, by decide +kernel⟩, ⟨1, by decide, by decide +kernel⟩, ⟨50, by decide, by decide +kernel⟩, 0, by decide, by decide +kernel⟩, fun i hi => ⟨10, by decide, ?_⟩, ⟨fun i hi => ⟨20, by decide, ?_⟩, fun i hi => ⟨5 - i, by omega, ?_⟩⟩, fun i => i, fun i => i, fun i hi => ⟨hi, ?_, rfl⟩, fun i hi => ⟨hi, rfl⟩⟩, Or.inl ⟨by decide +kernel, by decide +kernel, by decide +kernel, fun i hi => ?_⟩⟩⟩, by unfold WT; decide +kernel⟩ (by decide +kernel) _
  · rcases (show i = 0 ∨ i = 1 ∨ i = 2 ∨ i = 3 by omega) with rfl | rfl | rfl | rfl <;> decide +kernel
  · rcases lt5 hi with rfl | rfl | rfl | rfl | rfl <;> decide +kernel
  · rcases lt5 hi with rfl | rfl | rfl | rfl | rfl <;> decide +kernel
  · rcases lt5 hi with rfl | rfl | rfl | rfl | rfl <;> decide +kernel
  · rcases lt5 hi with rfl | rfl | rfl | rfl | rfl <;> decide +kernel
  · show clZ iniZ (18 + i) = nI i
    rcases lt5 hi with rfl | rfl | rfl | rfl | rfl <;> decide +kernel
  · rcases lt5 hi with rfl | rfl | rfl | rfl | rfl <;> decide +kernel
set_option maxHeartbeats 4000000 in
set_option maxRecDepth 100000 in
/-- behind the loop -/
theorem lw_end (hr : meth.sig.returnType = ret) (hlocks : meth.locks = false) (C0 : lwC p s m c G bs L xs) {k : CS} (hI : LI k 70) (hP : va_P G.1 vwCl (ows G o t r h g b k) H) (hD : va_D (fun q : Nat => s.heap.size ≤ q) (ows G o t r h g b k)) (hS : va_S (fun q : Nat => s.heap.size ≤ q) s.heap H locs) (hl : lv_has ls 13 [(3, .int (nI 70)), (2, .int 1), (1, .ref o), (0, .ref bs)]) :
    W p l e room_1 s m #[Value.ref bs] below meth c H locs (1000 + 250 * 70) (4000 + 1400 * 70) (lw_Z below #[Value.ref bs] s) (F0 m 93 ls []) := by
  obtain ⟨hx, hb, hml, hown, hts, hX, hbl, hK, hz, hL⟩ := C0
  obtain ⟨hF, h7, hnx⟩ := hI
  have h7' := h7
  obtain ⟨⟨a7, ha7⟩, hs7⟩ := h7'
  have hA : ∀ q : Nat, s.heap.size ≤ q → (fun q : Nat => s.heap.size ≤ q) q := fun _ h9 => h9

  refine lv_iload_n hx hb dL_law_93 rfl (lv_at hl 0 rfl) ?_
  refine lv_bipush (v := 70) hx hb dL_law_94 (by decide) ?_
  refine lv_icmp_ge (tgt := 330) hx hb dL_law_96 (by decide) (fun _ => ?_) (fun c_9 => absurd (by decide +kernel) c_9)
  refine lv_iload_n hx hb dL_law_330 rfl (lv_at hl 1 rfl) ?_
  refine lv_if_eq (tgt := 371) hx hb dL_law_331 (by decide) (fun c_9 => absurd c_9 (by decide)) (fun _ => ?_)
  refine lv_aload_n hx hb dL_law_334 rfl (lv_at hl 2 rfl) ?_
  refine lv_iconst (v := nI 1) hx hb dL_law_335 (by decide) ?_
  refine lW (As := [.int (nI 1)]) (rest := []) ⟨hx, hb, hml, hown, hts⟩ (k_restore l G o t r h g b hF.1 hF.2.2.2.2.1 (nI 1) _) (cwV 1 hts gL_law_X3_restore rfl rfl rfl (by decide +kernel) ⟨Nat.le_of_ble_eq_true rfl, Nat.le_of_ble_eq_true rfl⟩) hK hP hD hS hA rfl rfl hl.1 (Nat.le_of_ble_eq_true rfl) dL_law_336 ⟨(show 1000 + 250 * 70 + 11 ≤ 652571 by omega), (show 4000 + 1400 * 70 + 62 ≤ 7144534 by omega)⟩ (fun r_1 k1 H locs hr_1 hP hD hS => ?_)
  obtain ⟨e_r, u, e_k⟩ := made (rsC_0 (ad := k.2.2.2.2.1) (i := 1) (by decide) ha7) _ _ hr_1
  have e_r : _ = sqC (k.2.2.2.2.2.1 7 2) := e_r
  rw [hs7] at e_r
  have e_r : _ = (100 : Int32) := e_r.trans (by decide +kernel)
  subst e_r
  have e_k : k1 = kp k u (k.2.2.2.2.2.1 7) := e_k
  rw [hs7] at e_k
  have b1 : Bk k iniT 29 k1 := by rw [e_k]; exact Bk_kp hF h7 TI_ini (by omega) (by omega) u
  have hF1 := b1.1
  refine lv_bipush (v := 100) hx hb dL_law_339 (by decide) ?_
  refine lv_icmp_ne (tgt := 371) hx hb dL_law_341 (by decide) (fun c_9 => absurd (by decide) c_9) (fun _ => ?_)
  refine lv_aload_n hx hb dL_law_344 rfl (lv_at hl 2 rfl) ?_
  refine lv_bipush (v := 9) hx hb dL_law_345 (by decide) ?_
  refine lR (0) (As := [.int 9]) (rest := []) ⟨hx, hb, hml, hown, hts⟩ (k_count l G o t r h g b hF1.1 9) ((cn9 _ _ _).trans (by rw [b1.2.1]; decide +kernel)) (cwV 1 hts gL_law_X3_count rfl rfl rfl (by decide +kernel) ⟨Nat.le_of_ble_eq_true rfl, Nat.le_of_ble_eq_true rfl⟩) hK hP rfl rfl hl.1 (Nat.le_of_ble_eq_true rfl) dL_law_347 ⟨(show 1000 + 250 * 70 + 11 + 0 ≤ 652571 by omega), (show 4000 + 1400 * 70 + 62 + 0 ≤ 7144534 by omega)⟩ ?_
  refine lv_if_ne (tgt := 371) hx hb dL_law_350 (by decide) (fun c_9 => absurd (by decide) c_9) (fun _ => ?_)
  refine lv_aload_n hx hb dL_law_353 rfl (lv_at hl 2 rfl) ?_
  refine lW (As := []) (rest := []) ⟨hx, hb, hml, hown, hts⟩ (k_undo l G o t r h g b hF1.1 hF1.2.2.2.2.1 (Bk_hun b1)  _) (cwV 0 hts gL_law_X3_undo rfl rfl rfl (by decide +kernel) ⟨Nat.le_of_ble_eq_true rfl, Nat.le_of_ble_eq_true rfl⟩) hK hP hD hS hA rfl rfl hl.1 (Nat.le_of_ble_eq_true rfl) dL_law_354 ⟨(show 1000 + 250 * 70 + 11 + 0 ≤ 652571 by omega), (show 4000 + 1400 * 70 + 62 + 0 ≤ 7144534 by omega)⟩ (fun r_2 k4 H locs hr_2 hP hD hS => ?_)
  obtain ⟨e_r, u9, e_k4⟩ := maden (Bk_ln b1) _ _ hr_2
  subst e_r
  have e_k4 : k4 = unC k1 := e_k4
  have hF4 : RF k4 9000 := by rw [e_k4]; exact (Bk_un b1 (hF.2.1.mono (by omega)) (by omega)).1
  refine lv_if_lt (tgt := 371) hx hb dL_law_357 (by decide) (fun c_9 => absurd c_9 (nI_pos (by have := hF1.1.2.2.1; omega))) (fun _ => ?_)
  refine lv_aload_n hx hb dL_law_360 rfl (lv_at hl 2 rfl) ?_
  refine lSw (As := [.ref o]) (rest := []) ⟨hx, hb, hml, hown, hts⟩ (c_L_isWhole l G o t r h g b hF4.1 hF4.2.1 _) (va_cwS 1 hts gL_law_L_isWhole rfl rfl rfl (by decide +kernel) ⟨Nat.le_of_ble_eq_true rfl, Nat.le_of_ble_eq_true rfl⟩) hK hz hP hD hS hA rfl rfl hl.1 (Nat.le_of_ble_eq_true rfl) dL_law_361 ⟨(show 1000 + 250 * 70 + 11 + 0 + 0 ≤ 652571 by omega), (show 4000 + 1400 * 70 + 62 + 0 + 0 ≤ 7144534 by omega)⟩ (fun r_3 k5 H locs hr_3 hP hD hS => ?_)
  obtain ⟨e_r, U2, e_k5⟩ := hr_3
  subst e_r
  refine lv_if_eq (tgt := 371) hx hb dL_law_364 (by decide) (fun c_9 => absurd c_9 (by decide)) (fun _ => ?_)
  refine lv_iconst (v := 1) hx hb dL_law_367 (by decide) ?_
  refine lv_goto (tgt := 372) hx hb dL_law_368 (by decide) ?_
  refine va_forget (fun q hq => hS.2.2 q hq) ?_
  refine W.widen (k := 652571) (n := 7144534) (by omega) (by omega) ?_
  exact lw_ret hx hb hr hlocks dL_law_372
theorem lw_loop (hr : meth.sig.returnType = ret) (hlocks : meth.locks = false) (C0 : lwC p s m c G bs L xs) : ∀ (nn j : Nat), j + nn = 70 → ∀ (k : CS), LI k j → ∀ (H : Heap) (locs : List Loc), va_P G.1 vwCl (ows G o t r h g b k) H → va_D (fun q : Nat => s.heap.size ≤ q) (ows G o t r h g b k) → va_S (fun q : Nat => s.heap.size ≤ q) s.heap H locs → ∀ ls : Array Slot, lv_has ls 13 [(3, .int (nI j)), (2, .int 1), (1, .ref o), (0, .ref bs)] → W p l e room_1 s m #[Value.ref bs] below meth c H locs (1000 + 250 * j) (4000 + 1400 * j) (lw_Z below #[Value.ref bs] s) (F0 m 93 ls []) := by
  intro nn
  induction nn with
  | zero =>
    intro j h1 k hI H locs hP hD hS ls hl
    obtain rfl : j = 70 := by omega
    exact lw_end hr hlocks C0 hI hP hD hS hl
  | succ nn ih =>
    intro j h1 k hI H locs hP hD hS ls hl
    exact lw_iter C0 (by omega) hI hP hD hS hl (fun k' hI' H locs hP hD hS ls hl => ih (j + 1) (by omega) k' hI' H locs hP hD hS ls hl)
end LAWL
