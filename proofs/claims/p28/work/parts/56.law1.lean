/-! THE LAW'S SMALL METHODS: a cell of the script, all of a state as one number, the size of a set (laid by wip/p28/gen/l1.py) -/
theorem cn_free (T : Tb) (ln pl : Nat) {i : Nat} (hi : i < 14) : cnC T ln pl (nI i) = cnC T 0 0 (nI i) := by
  have e : ∀ k, 4 ≤ k → k < 14 → cnS T ln pl k = cnS T 0 0 k := by
    intro k h4 hk
    rcases (show k = 4 ∨ k = 5 ∨ k = 6 ∨ k = 7 ∨ k = 8 ∨ k = 9 ∨ k = 10 ∨ k = 11 ∨ k = 12 ∨ k = 13 by omega) with rfl | rfl | rfl | rfl | rfl | rfl | rfl | rfl | rfl | rfl <;> rfl
  have hx : ix (nI i) = i := nI_clamp (by omega)
  have h0 : ¬ nI i < 0 := nI_pos (by omega)
  unfold cnC
  rw [if_neg h0, if_neg h0, hx]
  by_cases h4 : i < 4
  · have h9 : ¬ (4 : Int32) ≤ nI i := nI_ge (b := 4) h4 (by decide)
    rw [if_neg h9, if_neg h9]
  · rw [e i (by omega) hi]
def atV (T : Tb) (x : Int32) : Int32 := if x < 0 then (-100001) else if x < 5 then pAt (T 4) x else (-100001)
def pzV (T : Tb) (x : Int32) : Int32 := if isPb x = 0 then (-100001) else T 1 (ix x)
def seA (T : Tb) : Nat → Nat → Int64 → Int64
  | 0, _, x => x
  | f + 1, i, x => seA T f (i + 1) (31 * x + (cnC T 0 0 (nI i)).toInt64)
def seB (T : Tb) : Nat → Nat → Int64 → Int64
  | 0, _, x => x
  | f + 1, i, x => seB T f (i + 1) (31 * x + (plC T (nI i / 8) (nI i - nI i / 8 * 8)).toInt64)
def seD (T : Tb) : Nat → Nat → Int64 → Int64
  | 0, _, x => x
  | f + 1, i, x => seD T f (i + 1) (31 * (31 * x + (atV T (nI i)).toInt64) + (pzV T (nI i)).toInt64)
/-- all that belongs to a state, as one number -/
def seF (T : Tb) : Int64 := seD T 5 0 (seB T 40 0 (seA T 14 0 103))
/-- the size of a set of players -/
def szL (x : Int32) : Nat → Nat → Int32 → Int32
  | 0, _, n => n
  | f + 1, i, n => szL x f (i + 1) (n + ((x >>> (nI i &&& 31)) &&& 1))
def szB (x : Int32) : Int32 := szL x 5 0 0
/-- the script, from the law's entry on: b its address -/
def ceV (L : Nat) (xs : Nat → Int32) (i : Nat) : Int32 := (if i < L then xs i else 1925078388 * (nI i + 139) + 29009) &&& 2147483647
set_option maxHeartbeats 4000000 in
set_option maxRecDepth 100000 in
theorem c_L_seen (l : Launch) (G : qG) (o : Nat) (t r h : Nat → Nat) (g : Nat) (b : Nat → Nat) {k : CS} (ok : OKC k) : Met l yL_seen wsL_seen { frames := 3, cells := 0, slots := 0, locals := 67 } (PP G [.ref o] (ows G o t r h g b k)) (vp_Sl (fun r₀ => r₀ = seF k.1)) 0 0 (fun _ => False) := by
  refine MPl.of (by decide) rfl (Nat.le_of_ble_eq_true rfl) ?_
  intro p e s m below meth c hx hb hml hown hts hK hP Q hret ls hl
  have hown : s.vm.findClass RL = some m.cls := hown
  have hl : lv_has ls 4 [(0, .ref o)] := hl
  have wk1 := hts (Cond.constantLong RL 9 (103)) (List.mem_of_getElem? (i := 1) (by first | rfl | decide +kernel))
  have wk2 := hts (Cond.constantLong RL 11 (31)) (List.mem_of_getElem? (i := 2) (by first | rfl | decide +kernel))
  have L67 : ∀ (f i : Nat) (hh : Int64), i + f = 5 → seD k.1 f i hh = seF k.1 → ∀ ls : Array Slot, lv_has ls 4 [(3, .int (nI i)), (1, .long hh), (0, .ref o)] → W p l e { frames := 3, cells := 0, slots := 0, locals := 67 } s m ([.ref o] : List Value).toArray below meth c s.heap [] (0) (0) Q (F0 m 67 ls []) := by
    intro f
    induction f with
    | zero =>
      intro i hh hi hv ls hl
      obtain rfl : i = 5 := by omega
      refine lv_iload_n hx hb dL_seen_67 rfl (lv_at hl 0 rfl) ?_
      refine lv_iconst (v := 5) hx hb dL_seen_68 (by decide) ?_
      refine lv_icmp_ge (tgt := 102) hx hb dL_seen_69 (by decide) (fun _ => ?_) (fun c_9 => absurd (by decide +kernel) c_9)
      refine lv_lload_n hx hb dL_seen_102 rfl (lv_at hl 1 rfl) ?_
      exact hret _ _ _ hv dL_seen_103
    | succ f ih =>
      intro i hh hi hv ls hl
      have hlt : i < 5 := by omega
      skip
      refine lv_iload_n hx hb dL_seen_67 rfl (lv_at hl 0 rfl) ?_
      refine lv_iconst (v := 5) hx hb dL_seen_68 (by decide) ?_
      refine lv_icmp_ge (tgt := 102) hx hb dL_seen_69 (by decide) (fun c_9 => absurd c_9 (nI_ge (b := 5) hlt (by decide))) (fun _ => ?_)
      refine lv_ldc2 (v := 31) hx hb hown wk2 dL_seen_72 ?_
      refine lv_ldc2 (v := 31) hx hb hown wk2 dL_seen_75 ?_
      refine lv_lload_n hx hb dL_seen_78 rfl (lv_at hl 1 rfl) ?_
      refine lv_lmul hx hb dL_seen_79 ?_
      refine lv_aload_n hx hb dL_seen_80 rfl (lv_at hl 2 rfl) ?_
      refine lv_iload_n hx hb dL_seen_81 rfl (lv_at hl 0 rfl) ?_
      refine lR (atV k.1 (nI i)) (As := [.int (nI i)]) (rest := [.long (31 * hh), .long 31]) ⟨hx, hb, hml, hown, hts⟩ (k_at l G o t r h g b ok (nI i)) rfl (cwV 1 hts gL_seen_X3_at rfl rfl rfl (by decide +kernel) ⟨Nat.le_of_ble_eq_true rfl, Nat.le_of_ble_eq_true rfl⟩) hK hP rfl rfl hl.1 (Nat.le_of_ble_eq_true rfl) dL_seen_82 ⟨Nat.le_of_ble_eq_true rfl, Nat.le_of_ble_eq_true rfl⟩ ?_
      refine lv_i2l (v := (atV k.1 (nI i)).toInt64) hx hb dL_seen_85 rfl ?_
      refine lv_ladd hx hb dL_seen_86 ?_
      refine lv_lmul hx hb dL_seen_87 ?_
      refine lv_aload_n hx hb dL_seen_88 rfl (lv_at hl 2 rfl) ?_
      refine lv_iload_n hx hb dL_seen_89 rfl (lv_at hl 0 rfl) ?_
      refine lR (pzV k.1 (nI i)) (As := [.int (nI i)]) (rest := [.long (31 * ((31 * hh) + ((atV k.1 (nI i)).toInt64)))]) ⟨hx, hb, hml, hown, hts⟩ (k_prizeOf l G o t r h g b ok (nI i)) rfl (cwV 1 hts gL_seen_X3_prizeOf rfl rfl rfl (by decide +kernel) ⟨Nat.le_of_ble_eq_true rfl, Nat.le_of_ble_eq_true rfl⟩) hK hP rfl rfl hl.1 (Nat.le_of_ble_eq_true rfl) dL_seen_90 ⟨Nat.le_of_ble_eq_true rfl, Nat.le_of_ble_eq_true rfl⟩ ?_
      refine lv_i2l (v := (pzV k.1 (nI i)).toInt64) hx hb dL_seen_93 rfl ?_
      refine lv_ladd hx hb dL_seen_94 ?_
      refine lv_lstore_n (lv' := [(1, .long ((31 * ((31 * hh) + ((atV k.1 (nI i)).toInt64))) + ((pzV k.1 (nI i)).toInt64))), (3, .int (nI i)), (0, .ref o)]) hx hb dL_seen_95 rfl hl (by decide) rfl (fun ls hl => ?_)
      refine lv_iinc (v := nI (i + 1)) (lv' := [(3, .int (nI (i + 1))), (1, .long ((31 * ((31 * hh) + ((atV k.1 (nI i)).toInt64))) + ((pzV k.1 (nI i)).toInt64))), (0, .ref o)]) hx hb dL_seen_96 hl (k := 1) rfl (nI_1 _) (by decide) rfl (fun ls hl => ?_)
      refine lv_goto (tgt := 67) hx hb dL_seen_99 (by decide) ?_
      exact ih (i + 1) _ (by omega) hv ls (lv_sub hl [0, 1, 2] rfl)
  have L33 : ∀ (f i : Nat) (hh : Int64), i + f = 40 → seD k.1 5 0 (seB k.1 f i hh) = seF k.1 → ∀ ls : Array Slot, lv_has ls 4 [(3, .int (nI i)), (1, .long hh), (0, .ref o)] → W p l e { frames := 3, cells := 0, slots := 0, locals := 67 } s m ([.ref o] : List Value).toArray below meth c s.heap [] (0) (0) Q (F0 m 33 ls []) := by
    intro f
    induction f with
    | zero =>
      intro i hh hi hv ls hl
      obtain rfl : i = 40 := by omega
      refine lv_iload_n hx hb dL_seen_33 rfl (lv_at hl 0 rfl) ?_
      refine lv_bipush (v := 40) hx hb dL_seen_34 (by decide) ?_
      refine lv_icmp_ge (tgt := 65) hx hb dL_seen_36 (by decide) (fun _ => ?_) (fun c_9 => absurd (by decide +kernel) c_9)
      refine lv_iconst (v := 0) hx hb dL_seen_65 (by decide) ?_
      refine lv_istore_n (lv' := [(3, .int 0), (1, .long hh), (0, .ref o)]) hx hb dL_seen_66 rfl hl (by decide) rfl (fun ls hl => ?_)
      exact L67 5 0 hh rfl hv ls (lv_sub hl [0, 1, 2] rfl)
    | succ f ih =>
      intro i hh hi hv ls hl
      have hlt : i < 40 := by omega
      skip
      refine lv_iload_n hx hb dL_seen_33 rfl (lv_at hl 0 rfl) ?_
      refine lv_bipush (v := 40) hx hb dL_seen_34 (by decide) ?_
      refine lv_icmp_ge (tgt := 65) hx hb dL_seen_36 (by decide) (fun c_9 => absurd c_9 (nI_ge (b := 40) hlt (by decide))) (fun _ => ?_)
      refine lv_ldc2 (v := 31) hx hb hown wk2 dL_seen_39 ?_
      refine lv_lload_n hx hb dL_seen_42 rfl (lv_at hl 1 rfl) ?_
      refine lv_lmul hx hb dL_seen_43 ?_
      refine lv_aload_n hx hb dL_seen_44 rfl (lv_at hl 2 rfl) ?_
      refine lv_iload_n hx hb dL_seen_45 rfl (lv_at hl 0 rfl) ?_
      refine lv_bipush (v := 8) hx hb dL_seen_46 (by decide) ?_
      refine lv_idiv hx hb dL_seen_48 (by decide) ?_
      refine lv_iload_n hx hb dL_seen_49 rfl (lv_at hl 0 rfl) ?_
      refine lv_bipush (v := 8) hx hb dL_seen_50 (by decide) ?_
      refine lv_irem hx hb dL_seen_52 (by decide) ?_
      refine lR (plC k.1 (nI i / 8) (nI i - nI i / 8 * 8)) (As := [.int ((nI i) / 8), .int ((nI i) - (nI i) / 8 * 8)]) (rest := [.long (31 * hh)]) ⟨hx, hb, hml, hown, hts⟩ (k_player l G o t r h g b ok ((nI i) / 8) ((nI i) - (nI i) / 8 * 8)) rfl (cwV 2 hts gL_seen_X3_player rfl rfl rfl (by decide +kernel) ⟨Nat.le_of_ble_eq_true rfl, Nat.le_of_ble_eq_true rfl⟩) hK hP rfl rfl hl.1 (Nat.le_of_ble_eq_true rfl) dL_seen_53 ⟨Nat.le_of_ble_eq_true rfl, Nat.le_of_ble_eq_true rfl⟩ ?_
      refine lv_i2l (v := (plC k.1 (nI i / 8) (nI i - nI i / 8 * 8)).toInt64) hx hb dL_seen_56 rfl ?_
      refine lv_ladd hx hb dL_seen_57 ?_
      refine lv_lstore_n (lv' := [(1, .long ((31 * hh) + ((plC k.1 (nI i / 8) (nI i - nI i / 8 * 8)).toInt64))), (3, .int (nI i)), (0, .ref o)]) hx hb dL_seen_58 rfl hl (by decide) rfl (fun ls hl => ?_)
      refine lv_iinc (v := nI (i + 1)) (lv' := [(3, .int (nI (i + 1))), (1, .long ((31 * hh) + ((plC k.1 (nI i / 8) (nI i - nI i / 8 * 8)).toInt64))), (0, .ref o)]) hx hb dL_seen_59 hl (k := 1) rfl (nI_1 _) (by decide) rfl (fun ls hl => ?_)
      refine lv_goto (tgt := 33) hx hb dL_seen_62 (by decide) ?_
      exact ih (i + 1) _ (by omega) hv ls (lv_sub hl [0, 1, 2] rfl)
  have L6 : ∀ (f i : Nat) (hh : Int64), i + f = 14 → seD k.1 5 0 (seB k.1 40 0 (seA k.1 f i hh)) = seF k.1 → ∀ ls : Array Slot, lv_has ls 4 [(3, .int (nI i)), (1, .long hh), (0, .ref o)] → W p l e { frames := 3, cells := 0, slots := 0, locals := 67 } s m ([.ref o] : List Value).toArray below meth c s.heap [] (0) (0) Q (F0 m 6 ls []) := by
    intro f
    induction f with
    | zero =>
      intro i hh hi hv ls hl
      obtain rfl : i = 14 := by omega
      refine lv_iload_n hx hb dL_seen_6 rfl (lv_at hl 0 rfl) ?_
      refine lv_bipush (v := 14) hx hb dL_seen_7 (by decide) ?_
      refine lv_icmp_ge (tgt := 31) hx hb dL_seen_9 (by decide) (fun _ => ?_) (fun c_9 => absurd (by decide +kernel) c_9)
      refine lv_iconst (v := 0) hx hb dL_seen_31 (by decide) ?_
      refine lv_istore_n (lv' := [(3, .int 0), (1, .long hh), (0, .ref o)]) hx hb dL_seen_32 rfl hl (by decide) rfl (fun ls hl => ?_)
      exact L33 40 0 hh rfl hv ls (lv_sub hl [0, 1, 2] rfl)
    | succ f ih =>
      intro i hh hi hv ls hl
      have hlt : i < 14 := by omega
      skip
      refine lv_iload_n hx hb dL_seen_6 rfl (lv_at hl 0 rfl) ?_
      refine lv_bipush (v := 14) hx hb dL_seen_7 (by decide) ?_
      refine lv_icmp_ge (tgt := 31) hx hb dL_seen_9 (by decide) (fun c_9 => absurd c_9 (nI_ge (b := 14) hlt (by decide))) (fun _ => ?_)
      refine lv_ldc2 (v := 31) hx hb hown wk2 dL_seen_12 ?_
      refine lv_lload_n hx hb dL_seen_15 rfl (lv_at hl 1 rfl) ?_
      refine lv_lmul hx hb dL_seen_16 ?_
      refine lv_aload_n hx hb dL_seen_17 rfl (lv_at hl 2 rfl) ?_
      refine lv_iload_n hx hb dL_seen_18 rfl (lv_at hl 0 rfl) ?_
      refine lR (cnC k.1 0 0 (nI i)) (As := [.int (nI i)]) (rest := [.long (31 * hh)]) ⟨hx, hb, hml, hown, hts⟩ (k_count l G o t r h g b ok (nI i)) (cn_free k.1 _ _ (by omega)) (cwV 1 hts gL_seen_X3_count rfl rfl rfl (by decide +kernel) ⟨Nat.le_of_ble_eq_true rfl, Nat.le_of_ble_eq_true rfl⟩) hK hP rfl rfl hl.1 (Nat.le_of_ble_eq_true rfl) dL_seen_19 ⟨Nat.le_of_ble_eq_true rfl, Nat.le_of_ble_eq_true rfl⟩ ?_
      refine lv_i2l (v := (cnC k.1 0 0 (nI i)).toInt64) hx hb dL_seen_22 rfl ?_
      refine lv_ladd hx hb dL_seen_23 ?_
      refine lv_lstore_n (lv' := [(1, .long ((31 * hh) + ((cnC k.1 0 0 (nI i)).toInt64))), (3, .int (nI i)), (0, .ref o)]) hx hb dL_seen_24 rfl hl (by decide) rfl (fun ls hl => ?_)
      refine lv_iinc (v := nI (i + 1)) (lv' := [(3, .int (nI (i + 1))), (1, .long ((31 * hh) + ((cnC k.1 0 0 (nI i)).toInt64))), (0, .ref o)]) hx hb dL_seen_25 hl (k := 1) rfl (nI_1 _) (by decide) rfl (fun ls hl => ?_)
      refine lv_goto (tgt := 6) hx hb dL_seen_28 (by decide) ?_
      exact ih (i + 1) _ (by omega) hv ls (lv_sub hl [0, 1, 2] rfl)
  refine lv_ldc2 (v := 103) hx hb hown wk1 dL_seen_0 ?_
  refine lv_lstore_n (lv' := [(1, .long 103), (0, .ref o)]) hx hb dL_seen_3 rfl hl (by decide) rfl (fun ls hl => ?_)
  refine lv_iconst (v := 0) hx hb dL_seen_4 (by decide) ?_
  refine lv_istore_n (lv' := [(3, .int 0), (1, .long 103), (0, .ref o)]) hx hb dL_seen_5 rfl hl (by decide) rfl (fun ls hl => ?_)
  exact L6 14 0 103 rfl rfl ls (lv_sub hl [0, 1, 2] rfl)
set_option maxHeartbeats 4000000 in
set_option maxRecDepth 100000 in
theorem c_L_size (l : Launch) (G : qG) (x : Int32) : MP l yL_size wsL_size 0 0 G [.int x] [] (szB x) := by
  refine MP.of (ty := .int) (by decide) rfl (Nat.le_of_ble_eq_true rfl) rfl ?_
  intro p e s m below meth c hx hb hml hown hts hK hP Q hret ls hl
  have hl : lv_has ls 3 [(0, .int x)] := hl
  have L4 : ∀ (f i : Nat) (nn : Int32), i + f = 5 → szL x f i nn = szB x → ∀ ls : Array Slot, lv_has ls 3 [(2, .int (nI i)), (1, .int nn), (0, .int x)] → W p l e { frames := 0, cells := 0, slots := 0, locals := 0 } s m ([.int x] : List Value).toArray below meth c s.heap [] (0) (0) Q (F0 m 4 ls []) := by
    intro f
    induction f with
    | zero =>
      intro i nn hi hv ls hl
      obtain rfl : i = 5 := by omega
      refine lv_iload_n hx hb dL_size_4 rfl (lv_at hl 0 rfl) ?_
      refine lv_iconst (v := 5) hx hb dL_size_5 (by decide) ?_
      refine lv_icmp_ge (tgt := 23) hx hb dL_size_6 (by decide) (fun _ => ?_) (fun c_9 => absurd (by decide +kernel) c_9)
      refine lv_iload_n hx hb dL_size_23 rfl (lv_at hl 1 rfl) ?_
      exact hret _ _ _ hv dL_size_24
    | succ f ih =>
      intro i nn hi hv ls hl
      have hlt : i < 5 := by omega
      skip
      refine lv_iload_n hx hb dL_size_4 rfl (lv_at hl 0 rfl) ?_
      refine lv_iconst (v := 5) hx hb dL_size_5 (by decide) ?_
      refine lv_icmp_ge (tgt := 23) hx hb dL_size_6 (by decide) (fun c_9 => absurd c_9 (nI_ge (b := 5) hlt (by decide))) (fun _ => ?_)
      refine lv_iload_n hx hb dL_size_9 rfl (lv_at hl 1 rfl) ?_
      refine lv_iload_n hx hb dL_size_10 rfl (lv_at hl 2 rfl) ?_
      refine lv_iload_n hx hb dL_size_11 rfl (lv_at hl 0 rfl) ?_
      refine lv_ishr hx hb dL_size_12 ?_
      refine lv_iconst (v := 1) hx hb dL_size_13 (by decide) ?_
      refine lv_iand hx hb dL_size_14 ?_
      refine lv_iadd hx hb dL_size_15 ?_
      refine lv_istore_n (lv' := [(1, .int (nn + ((x >>> ((nI i) &&& 31)) &&& 1))), (2, .int (nI i)), (0, .int x)]) hx hb dL_size_16 rfl hl (by decide) rfl (fun ls hl => ?_)
      refine lv_iinc (v := nI (i + 1)) (lv' := [(2, .int (nI (i + 1))), (1, .int (nn + ((x >>> ((nI i) &&& 31)) &&& 1))), (0, .int x)]) hx hb dL_size_17 hl (k := 1) rfl (nI_1 _) (by decide) rfl (fun ls hl => ?_)
      refine lv_goto (tgt := 4) hx hb dL_size_20 (by decide) ?_
      exact ih (i + 1) _ (by omega) hv ls (lv_sub hl [0, 1, 2] rfl)
  refine lv_iconst (v := 0) hx hb dL_size_0 (by decide) ?_
  refine lv_istore_n (lv' := [(1, .int 0), (0, .int x)]) hx hb dL_size_1 rfl hl (by decide) rfl (fun ls hl => ?_)
  refine lv_iconst (v := 0) hx hb dL_size_2 (by decide) ?_
  refine lv_istore_n (lv' := [(2, .int 0), (1, .int 0), (0, .int x)]) hx hb dL_size_3 rfl hl (by decide) rfl (fun ls hl => ?_)
  exact L4 5 0 0 rfl rfl ls (lv_sub hl [0, 1, 2] rfl)
set_option maxHeartbeats 4000000 in
set_option maxRecDepth 100000 in
/-- a cell of the script -/
theorem c_L_cell (l : Launch) (G : qG) (bs L : Nat) (xs : Nat → Int32) (hL : L ≤ 260) (i : Nat) (hi : i < 100) : Met l yL_cell wsL_cell { frames := 0, cells := 0, slots := 0, locals := 0 } (va_Pc [.ref bs, .int (nI i)] (fun U => va_X bs L xs U U.heap ∧ bs < U.heap.size)) (vp_Si (fun r₀ => r₀ = ceV L xs i)) 0 0 (fun _ => False) := by
  refine Met.ofW (cc := cL_cell) (maxL := 2) (ret := some .int) (by decide) rfl ?_
  intro p e s m args below meth c s₁ B hml hv
  obtain ⟨rfl, hX, hbl⟩ := hv
  have hts := atoms_spec (ws := wsL_cell) B.pre
  obtain ⟨ls, he, hl⟩ := lv_start (m := m) [.ref bs, .int (nI i)] (n := 2) (Nat.le_of_ble_eq_true rfl)
  rw [he]
  have hx := B.exec
  have hb := B.bytes
  have hown : s.vm.findClass RL = some m.cls := findClass_of_methodNamed B.named
  have hl : lv_has ls 2 [(0, .ref bs), (1, .int (nI i))] := hl
  have hS : va_S (fun q : Nat => s.heap.size ≤ q) s.heap s.heap [] := va_S.rf
  have hbA : ¬ (fun q : Nat => s.heap.size ≤ q) bs := Nat.not_le.mpr hbl
  have w1 := hts (Cond.constant RL 7 (1925078388)) (List.mem_of_getElem? (i := 1) rfl)
  have w2 := hts (Cond.constant RL 8 (2147483647)) (List.mem_of_getElem? (i := 2) rfl)
  have fin : ∀ (ls : Array Slot) (v : Int32), v = (if i < L then xs i else 1925078388 * (nI i + 139) + 29009) → W p l e { frames := 0, cells := 0, slots := 0, locals := 0 } s m ([.ref bs, .int (nI i)] : List Value).toArray below meth c s.heap [] 0 0 _ (F0 m 24 ls [.int v]) := by
    intro ls v hv
    refine lv_ldc (v := 2147483647) hx hb hown w2 dL_cell_24 ?_
    refine lv_iand hx hb dL_cell_26 ?_
    exact W.iret B.exec B.bytes B.returns (fun t ht _ => ⟨⟨_, rfl, by rw [hv]; rfl, ht⟩⟩) (fun q h => by cases h) dL_cell_27 B.notSynchronized
  refine lv_iload_n hx hb dL_cell_0 rfl (lv_at hl 1 rfl) ?_
  refine lv_aload_n hx hb dL_cell_1 rfl (lv_at hl 0 rfl) ?_
  refine va_slen hx hb hX hbl hbA hS dL_cell_2 ?_
  refine lv_icmp_ge (tgt := 12) hx hb dL_cell_3 (by decide) (fun q => ?_) (fun q => ?_)
  · have hn : ¬ i < L := fun h9 => by
      have := (nI_leI (by omega) (by omega)).mp q
      omega
    refine lv_ldc (v := 1925078388) hx hb hown w1 dL_cell_12 ?_
    refine lv_iload_n hx hb dL_cell_14 rfl (lv_at hl 1 rfl) ?_
    refine lv_sipush (v := 139) hx hb dL_cell_15 (by decide) ?_
    refine lv_iadd hx hb dL_cell_18 ?_
    refine lv_imul hx hb dL_cell_19 ?_
    refine lv_sipush (v := 29009) hx hb dL_cell_20 (by decide) ?_
    refine lv_iadd hx hb dL_cell_23 ?_
    exact fin ls _ (by rw [if_neg hn])
  · have hn : i < L := by
      have h9 : ¬ L ≤ i := fun h8 => q ((nI_leI (by omega) (by omega)).mpr h8)
      omega
    refine lv_aload_n hx hb dL_cell_6 rfl (lv_at hl 0 rfl) ?_
    refine lv_iload_n hx hb dL_cell_7 rfl (lv_at hl 1 rfl) ?_
    refine va_sld hx hb hX hbl hbA hS (vp_in_nI hn (by omega)) dL_cell_8 ?_
    rw [nI_clamp (by omega)]
    refine lv_goto (tgt := 24) hx hb dL_cell_9 (by decide) ?_
    exact fin ls _ (by rw [if_pos hn])
