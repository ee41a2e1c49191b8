/-! THE LAW: bid and drop (laid by wip/p28/gen/l4.py) -/
/-- a call of the law that changes the state, or is refused -/
def ActP (k : CS) (B : Nat) (r₀ : Int32) (c₀ : CS) : Prop := (r₀ = 0 ∧ c₀ = k) ∨ (r₀ = 1 ∧ ∃ (u : Nat → Nat) (T1 : Tb), c₀ = kp k u T1 ∧ TI T1 B)
theorem maden {P : Prop} [Decidable P] {a b : Int32} {k : CS} {F : (Nat → Nat) → CS} (e : ¬ P) : ∀ (r₀ : Int32) (c₀ : CS), (r₀ = (if P then b else a) ∧ ∃ u : Nat → Nat, c₀ = (if P then k else F u)) → r₀ = a ∧ ∃ u, c₀ = F u := by
  intro r₀ c₀ h
  obtain ⟨h1, u, h2⟩ := h
  rw [if_neg e] at h1 h2
  exact ⟨h1, u, h2⟩
theorem OKC_kp {k : CS} (ok : OKC k) (hnx : k.2.2.1 < 99000) {T1 : Tb} (h : is01 (T1 10 0)) (u : Nat → Nat) : OKC (kp k u T1) :=
  ⟨h, Nat.lt_of_lt_of_le (Nat.succ_lt_succ hnx) (Nat.le_of_ble_eq_true rfl), Nat.min_le_right _ _, ok.2.2.2.1, ok.2.2.2.2⟩
set_option maxHeartbeats 4000000 in
set_option maxRecDepth 100000 in
theorem c_L_bid (l : Launch) (G : qG) (o : Nat) (t r h : Nat → Nat) (g : Nat) (b : Nat → Nat) {k : CS} {B B' : Nat} (hF : RF k B) {x : Nat} (hx9 : x ≤ 9999) (hB' : B ≤ B') (hxB : x ≤ B') (sz : Nat) : Met l yL_bid wsL_bid { frames := 4, cells := 11, slots := 62, locals := 88 } (PWz G sz [.ref o, .int (nI x)] (ows G o t r h g b k)) (QI (S := CS) G sz (ows G o t r h g b k) (ActP k B') (fun c₀ => ows G o t r h g b c₀)) 11 62 (va_A (ows G o t r h g b k) sz) := by
  refine MIz.of' (by decide) rfl (Nat.le_of_ble_eq_true rfl) ?_
  intro p e s m below meth c hx hb hml hown hts hK hsz hP A hAe hA hD hS hz Q hret ls hl
  have hown : s.vm.findClass RL = some m.cls := hown
  have hl : lv_has ls 8 [(0, .ref o), (1, .int (nI x))] := hl
  obtain ⟨ok, hTI, hB9, hpl0, hold, hnx⟩ := hF
  have hu0 : ¬ mayB k.1 (nI x) = 0 → ¬ k.1 10 0 = 0 := fun q q2 => q (by unfold mayB; rw [if_pos q2])
  have wk1 := hts (Cond.constant RL 36 (-100005)) (List.mem_of_getElem? (i := 1) (by first | rfl | decide +kernel))
  by_cases hm : mayB k.1 (nI x) = 0
  · skip
    have J44 : ∀ ls : Array Slot, lv_has ls 8 [(4, .int (plB k.1)), (1, .int (nI x)), (0, .ref o)] → W p l e { frames := 4, cells := 11, slots := 62, locals := 88 } s m ([.ref o, .int (nI x)] : List Value).toArray below meth c s.heap [] (0) (0) Q (F0 m 44 ls []) := by
      intro ls hl
      refine lv_iconst (v := 0) hx hb dL_bid_44 (by decide) ?_
      refine lv_istore (lv' := [(5, .int 0), (4, .int (plB k.1)), (1, .int (nI x)), (0, .ref o)]) hx hb dL_bid_45 hl (by decide) rfl (fun ls hl => ?_)
      refine lv_aload_n hx hb dL_bid_47 rfl (lv_at hl 3 rfl) ?_
      refine lv_bipush (v := 10) hx hb dL_bid_48 (by decide) ?_
      refine lR (s5 (k.1 2)) (As := [.int 10]) (rest := []) ⟨hx, hb, hml, hown, hts⟩ (k_count l G o t r h g b ok 10) (cn10 _ _ _) (cwV 1 hts gL_bid_X3_count rfl rfl rfl (by decide +kernel) ⟨Nat.le_of_ble_eq_true rfl, Nat.le_of_ble_eq_true rfl⟩) hK hP rfl rfl hl.1 (Nat.le_of_ble_eq_true rfl) dL_bid_50 ⟨Nat.le_of_ble_eq_true rfl, Nat.le_of_ble_eq_true rfl⟩ ?_
      refine lv_istore (lv' := [(6, .int (s5 (k.1 2))), (5, .int 0), (4, .int (plB k.1)), (1, .int (nI x)), (0, .ref o)]) hx hb dL_bid_53 hl (by decide) rfl (fun ls hl => ?_)
      refine lv_aload_n hx hb dL_bid_55 rfl (lv_at hl 4 rfl) ?_
      refine lv_iload_n hx hb dL_bid_56 rfl (lv_at hl 3 rfl) ?_
      refine lWr ((-100005)) (As := [.int (nI x)]) (rest := []) ⟨hx, hb, hml, hown, hts⟩ (k_bid l G o t r h g b ok (nI x) _) (refd (bdC_np hx9 hm) lz_5) (cwV 1 hts gL_bid_X3_bid rfl rfl rfl (by decide +kernel) ⟨Nat.le_of_ble_eq_true rfl, Nat.le_of_ble_eq_true rfl⟩) hK hP hD hS hA rfl rfl hl.1 (Nat.le_of_ble_eq_true rfl) dL_bid_57 ⟨Nat.le_of_ble_eq_true rfl, Nat.le_of_ble_eq_true rfl⟩ (fun H locs hP hD hS => ?_)
      refine lv_istore (lv' := [(7, .int (-100005)), (6, .int (s5 (k.1 2))), (5, .int 0), (4, .int (plB k.1)), (1, .int (nI x)), (0, .ref o)]) hx hb dL_bid_60 hl (by decide) rfl (fun ls hl => ?_)
      refine lv_iload hx hb dL_bid_62 (lv_at hl 2 rfl) ?_
      refine lv_if_ne (tgt := 81) hx hb dL_bid_64 (by decide) (fun c_9 => absurd (by decide) c_9) (fun _ => ?_)
      refine lv_iload hx hb dL_bid_67 (lv_at hl 0 rfl) ?_
      refine lv_ldc (v := (-100005)) hx hb hown wk1 dL_bid_69 ?_
      refine lv_icmp_ne (tgt := 78) hx hb dL_bid_71 (by decide) (fun c_9 => absurd (by decide) c_9) (fun _ => ?_)
      refine lv_iconst (v := 0) hx hb dL_bid_74 (by decide) ?_
      refine lv_goto (tgt := 80) hx hb dL_bid_75 (by decide) ?_
      refine W.widen (k := 11) (n := 62) (Nat.le_of_ble_eq_true rfl) (Nat.le_of_ble_eq_true rfl) ?_
      exact hret _ _ _ _ _ _ (Or.inl ⟨rfl, rfl⟩) hP hD hS dL_bid_80
    by_cases hu : k.1 10 0 = 0
    · have hidt : k.1 10 1 = (-100006) := (hTI.1.idle hu).1
      refine lv_aload_n hx hb dL_bid_0 rfl (lv_at hl 0 rfl) ?_
      refine lv_iconst (v := 5) hx hb dL_bid_1 (by decide) ?_
      refine lR ((-100006)) (As := [.int 5]) (rest := []) ⟨hx, hb, hml, hown, hts⟩ (k_count l G o t r h g b ok 5) ((cn5 _ _ _).trans hidt) (cwV 1 hts gL_bid_X3_count rfl rfl rfl (by decide +kernel) ⟨Nat.le_of_ble_eq_true rfl, Nat.le_of_ble_eq_true rfl⟩) hK hP rfl rfl hl.1 (Nat.le_of_ble_eq_true rfl) dL_bid_2 ⟨Nat.le_of_ble_eq_true rfl, Nat.le_of_ble_eq_true rfl⟩ ?_
      refine lv_istore_n (lv' := [(2, .int (-100006)), (0, .ref o), (1, .int (nI x))]) hx hb dL_bid_5 rfl hl (by decide) rfl (fun ls hl => ?_)
      refine lv_aload_n hx hb dL_bid_6 rfl (lv_at hl 1 rfl) ?_
      refine lv_bipush (v := 7) hx hb dL_bid_7 (by decide) ?_
      refine lR (leB k.1) (As := [.int 7]) (rest := []) ⟨hx, hb, hml, hown, hts⟩ (k_count l G o t r h g b ok 7) (cn7 _ _ _) (cwV 1 hts gL_bid_X3_count rfl rfl rfl (by decide +kernel) ⟨Nat.le_of_ble_eq_true rfl, Nat.le_of_ble_eq_true rfl⟩) hK hP rfl rfl hl.1 (Nat.le_of_ble_eq_true rfl) dL_bid_9 ⟨Nat.le_of_ble_eq_true rfl, Nat.le_of_ble_eq_true rfl⟩ ?_
      refine lv_istore_n (lv' := [(3, .int (leB k.1)), (2, .int (-100006)), (0, .ref o), (1, .int (nI x))]) hx hb dL_bid_12 rfl hl (by decide) rfl (fun ls hl => ?_)
      refine lv_aload_n hx hb dL_bid_13 rfl (lv_at hl 2 rfl) ?_
      refine lv_bipush (v := 8) hx hb dL_bid_14 (by decide) ?_
      refine lR (plB k.1) (As := [.int 8]) (rest := []) ⟨hx, hb, hml, hown, hts⟩ (k_count l G o t r h g b ok 8) (cn8 _ _ _) (cwV 1 hts gL_bid_X3_count rfl rfl rfl (by decide +kernel) ⟨Nat.le_of_ble_eq_true rfl, Nat.le_of_ble_eq_true rfl⟩) hK hP rfl rfl hl.1 (Nat.le_of_ble_eq_true rfl) dL_bid_16 ⟨Nat.le_of_ble_eq_true rfl, Nat.le_of_ble_eq_true rfl⟩ ?_
      refine lv_istore (lv' := [(4, .int (plB k.1)), (3, .int (leB k.1)), (2, .int (-100006)), (0, .ref o), (1, .int (nI x))]) hx hb dL_bid_19 hl (by decide) rfl (fun ls hl => ?_)
      refine lv_iload_n hx hb dL_bid_21 rfl (lv_at hl 2 rfl) ?_
      refine lv_if_lt (tgt := 44) hx hb dL_bid_22 (by decide) (fun _ => ?_) (fun c_9 => absurd (by decide) c_9)
      exact J44 ls (lv_sub hl [0, 4, 3] rfl)
    · obtain ⟨-, -, j, hj, ht, -⟩ := hTI.1.turn hu
      have hmq := mayB_eq hj ht hu (nI x)
      refine lv_aload_n hx hb dL_bid_0 rfl (lv_at hl 0 rfl) ?_
      refine lv_iconst (v := 5) hx hb dL_bid_1 (by decide) ?_
      refine lR (nI j) (As := [.int 5]) (rest := []) ⟨hx, hb, hml, hown, hts⟩ (k_count l G o t r h g b ok 5) ((cn5 _ _ _).trans (ht)) (cwV 1 hts gL_bid_X3_count rfl rfl rfl (by decide +kernel) ⟨Nat.le_of_ble_eq_true rfl, Nat.le_of_ble_eq_true rfl⟩) hK hP rfl rfl hl.1 (Nat.le_of_ble_eq_true rfl) dL_bid_2 ⟨Nat.le_of_ble_eq_true rfl, Nat.le_of_ble_eq_true rfl⟩ ?_
      refine lv_istore_n (lv' := [(2, .int (nI j)), (0, .ref o), (1, .int (nI x))]) hx hb dL_bid_5 rfl hl (by decide) rfl (fun ls hl => ?_)
      refine lv_aload_n hx hb dL_bid_6 rfl (lv_at hl 1 rfl) ?_
      refine lv_bipush (v := 7) hx hb dL_bid_7 (by decide) ?_
      refine lR (leB k.1) (As := [.int 7]) (rest := []) ⟨hx, hb, hml, hown, hts⟩ (k_count l G o t r h g b ok 7) (cn7 _ _ _) (cwV 1 hts gL_bid_X3_count rfl rfl rfl (by decide +kernel) ⟨Nat.le_of_ble_eq_true rfl, Nat.le_of_ble_eq_true rfl⟩) hK hP rfl rfl hl.1 (Nat.le_of_ble_eq_true rfl) dL_bid_9 ⟨Nat.le_of_ble_eq_true rfl, Nat.le_of_ble_eq_true rfl⟩ ?_
      refine lv_istore_n (lv' := [(3, .int (leB k.1)), (2, .int (nI j)), (0, .ref o), (1, .int (nI x))]) hx hb dL_bid_12 rfl hl (by decide) rfl (fun ls hl => ?_)
      refine lv_aload_n hx hb dL_bid_13 rfl (lv_at hl 2 rfl) ?_
      refine lv_bipush (v := 8) hx hb dL_bid_14 (by decide) ?_
      refine lR (plB k.1) (As := [.int 8]) (rest := []) ⟨hx, hb, hml, hown, hts⟩ (k_count l G o t r h g b ok 8) (cn8 _ _ _) (cwV 1 hts gL_bid_X3_count rfl rfl rfl (by decide +kernel) ⟨Nat.le_of_ble_eq_true rfl, Nat.le_of_ble_eq_true rfl⟩) hK hP rfl rfl hl.1 (Nat.le_of_ble_eq_true rfl) dL_bid_16 ⟨Nat.le_of_ble_eq_true rfl, Nat.le_of_ble_eq_true rfl⟩ ?_
      refine lv_istore (lv' := [(4, .int (plB k.1)), (3, .int (leB k.1)), (2, .int (nI j)), (0, .ref o), (1, .int (nI x))]) hx hb dL_bid_19 hl (by decide) rfl (fun ls hl => ?_)
      refine lv_iload_n hx hb dL_bid_21 rfl (lv_at hl 2 rfl) ?_
      refine lv_if_lt (tgt := 44) hx hb dL_bid_22 (by decide) (fun c_9 => absurd c_9 (nI_pos (by omega))) (fun _ => ?_)
      refine lv_iload_n hx hb dL_bid_25 rfl (lv_at hl 4 rfl) ?_
      refine lv_iload_n hx hb dL_bid_26 rfl (lv_at hl 1 rfl) ?_
      refine lv_icmp_lt (tgt := 44) hx hb dL_bid_27 (by decide) (fun c_l => ?_) (fun c_l => ?_)
      · exact J44 ls (lv_sub hl [0, 4, 3] rfl)
      · refine lv_iload_n hx hb dL_bid_30 rfl (lv_at hl 4 rfl) ?_
        refine lv_aload_n hx hb dL_bid_31 rfl (lv_at hl 3 rfl) ?_
        refine lv_iload_n hx hb dL_bid_32 rfl (lv_at hl 2 rfl) ?_
        refine lv_iconst (v := 0) hx hb dL_bid_33 (by decide) ?_
        refine lR (k.1 2 j) (As := [.int (nI j), .int 0]) (rest := [.int (nI x)]) ⟨hx, hb, hml, hown, hts⟩ (k_player l G o t r h g b ok (nI j) 0) (pl_at k.1 hj 0 (by decide)) (cwV 2 hts gL_bid_X3_player rfl rfl rfl (by decide +kernel) ⟨Nat.le_of_ble_eq_true rfl, Nat.le_of_ble_eq_true rfl⟩) hK hP rfl rfl hl.1 (Nat.le_of_ble_eq_true rfl) dL_bid_34 ⟨Nat.le_of_ble_eq_true rfl, Nat.le_of_ble_eq_true rfl⟩ ?_
        refine lv_icmp_gt (tgt := 44) hx hb dL_bid_37 (by decide) (fun _ => ?_) (fun c_9 => absurd (show k.1 2 j < nI x from Classical.byContradiction fun q => lz_o (by rw [← hm, hmq, if_neg c_l, if_neg q])) c_9)
        exact J44 ls (lv_sub hl [0, 4, 3] rfl)
  · obtain ⟨hTI1, j, j', hj, hj', hne, ht, f10, fb, f5, f6, f8, f2⟩ := bid_F hTI (hu0 hm) hx9 hB' hxB hm
    have hmq := mayB_eq hj ht (hu0 hm) (nI x)
    have hl0 : ¬ nI x < leB k.1 := fun q => hm (by rw [hmq, if_pos q])
    have hc0 : ¬ k.1 2 j < nI x := fun q => hm (by rw [hmq, if_neg hl0, if_pos q])
    have hbd : bdC k.1 (nI x) = 0 := by unfold bdC; rw [if_neg (nI_pos (by omega)), if_pos (show nI x ≤ 9999 from nI_le (b := 9999) hx9 (by decide)), if_neg hm]
    obtain ⟨T1, hT1⟩ : ∃ T1 : Tb, T1 = takT k.1 (nI x) := ⟨_, rfl⟩
    rw [← hT1] at hTI1 f10 f5 f6 f8 f2
    refine lv_aload_n hx hb dL_bid_0 rfl (lv_at hl 0 rfl) ?_
    refine lv_iconst (v := 5) hx hb dL_bid_1 (by decide) ?_
    refine lR (nI j) (As := [.int 5]) (rest := []) ⟨hx, hb, hml, hown, hts⟩ (k_count l G o t r h g b ok 5) ((cn5 _ _ _).trans (ht)) (cwV 1 hts gL_bid_X3_count rfl rfl rfl (by decide +kernel) ⟨Nat.le_of_ble_eq_true rfl, Nat.le_of_ble_eq_true rfl⟩) hK hP rfl rfl hl.1 (Nat.le_of_ble_eq_true rfl) dL_bid_2 ⟨Nat.le_of_ble_eq_true rfl, Nat.le_of_ble_eq_true rfl⟩ ?_
    refine lv_istore_n (lv' := [(2, .int (nI j)), (0, .ref o), (1, .int (nI x))]) hx hb dL_bid_5 rfl hl (by decide) rfl (fun ls hl => ?_)
    refine lv_aload_n hx hb dL_bid_6 rfl (lv_at hl 1 rfl) ?_
    refine lv_bipush (v := 7) hx hb dL_bid_7 (by decide) ?_
    refine lR (leB k.1) (As := [.int 7]) (rest := []) ⟨hx, hb, hml, hown, hts⟩ (k_count l G o t r h g b ok 7) (cn7 _ _ _) (cwV 1 hts gL_bid_X3_count rfl rfl rfl (by decide +kernel) ⟨Nat.le_of_ble_eq_true rfl, Nat.le_of_ble_eq_true rfl⟩) hK hP rfl rfl hl.1 (Nat.le_of_ble_eq_true rfl) dL_bid_9 ⟨Nat.le_of_ble_eq_true rfl, Nat.le_of_ble_eq_true rfl⟩ ?_
    refine lv_istore_n (lv' := [(3, .int (leB k.1)), (2, .int (nI j)), (0, .ref o), (1, .int (nI x))]) hx hb dL_bid_12 rfl hl (by decide) rfl (fun ls hl => ?_)
    refine lv_aload_n hx hb dL_bid_13 rfl (lv_at hl 2 rfl) ?_
    refine lv_bipush (v := 8) hx hb dL_bid_14 (by decide) ?_
    refine lR (plB k.1) (As := [.int 8]) (rest := []) ⟨hx, hb, hml, hown, hts⟩ (k_count l G o t r h g b ok 8) (cn8 _ _ _) (cwV 1 hts gL_bid_X3_count rfl rfl rfl (by decide +kernel) ⟨Nat.le_of_ble_eq_true rfl, Nat.le_of_ble_eq_true rfl⟩) hK hP rfl rfl hl.1 (Nat.le_of_ble_eq_true rfl) dL_bid_16 ⟨Nat.le_of_ble_eq_true rfl, Nat.le_of_ble_eq_true rfl⟩ ?_
    refine lv_istore (lv' := [(4, .int (plB k.1)), (3, .int (leB k.1)), (2, .int (nI j)), (0, .ref o), (1, .int (nI x))]) hx hb dL_bid_19 hl (by decide) rfl (fun ls hl => ?_)
    refine lv_iload_n hx hb dL_bid_21 rfl (lv_at hl 2 rfl) ?_
    refine lv_if_lt (tgt := 44) hx hb dL_bid_22 (by decide) (fun c_9 => absurd c_9 (nI_pos (by omega))) (fun _ => ?_)
    refine lv_iload_n hx hb dL_bid_25 rfl (lv_at hl 4 rfl) ?_
    refine lv_iload_n hx hb dL_bid_26 rfl (lv_at hl 1 rfl) ?_
    refine lv_icmp_lt (tgt := 44) hx hb dL_bid_27 (by decide) (fun c_9 => absurd c_9 hl0) (fun _ => ?_)
    refine lv_iload_n hx hb dL_bid_30 rfl (lv_at hl 4 rfl) ?_
    refine lv_aload_n hx hb dL_bid_31 rfl (lv_at hl 3 rfl) ?_
    refine lv_iload_n hx hb dL_bid_32 rfl (lv_at hl 2 rfl) ?_
    refine lv_iconst (v := 0) hx hb dL_bid_33 (by decide) ?_
    refine lR (k.1 2 j) (As := [.int (nI j), .int 0]) (rest := [.int (nI x)]) ⟨hx, hb, hml, hown, hts⟩ (k_player l G o t r h g b ok (nI j) 0) (pl_at k.1 hj 0 (by decide)) (cwV 2 hts gL_bid_X3_player rfl rfl rfl (by decide +kernel) ⟨Nat.le_of_ble_eq_true rfl, Nat.le_of_ble_eq_true rfl⟩) hK hP rfl rfl hl.1 (Nat.le_of_ble_eq_true rfl) dL_bid_34 ⟨Nat.le_of_ble_eq_true rfl, Nat.le_of_ble_eq_true rfl⟩ ?_
    refine lv_icmp_gt (tgt := 44) hx hb dL_bid_37 (by decide) (fun c_9 => absurd c_9 hc0) (fun _ => ?_)
    refine lv_iconst (v := 1) hx hb dL_bid_40 (by decide) ?_
    refine lv_goto (tgt := 45) hx hb dL_bid_41 (by decide) ?_
    refine lv_istore (lv' := [(5, .int 1), (4, .int (plB k.1)), (3, .int (leB k.1)), (2, .int (nI j)), (0, .ref o), (1, .int (nI x))]) hx hb dL_bid_45 hl (by decide) rfl (fun ls hl => ?_)
    refine lv_aload_n hx hb dL_bid_47 rfl (lv_at hl 4 rfl) ?_
    refine lv_bipush (v := 10) hx hb dL_bid_48 (by decide) ?_
    refine lR (s5 (k.1 2)) (As := [.int 10]) (rest := []) ⟨hx, hb, hml, hown, hts⟩ (k_count l G o t r h g b ok 10) (cn10 _ _ _) (cwV 1 hts gL_bid_X3_count rfl rfl rfl (by decide +kernel) ⟨Nat.le_of_ble_eq_true rfl, Nat.le_of_ble_eq_true rfl⟩) hK hP rfl rfl hl.1 (Nat.le_of_ble_eq_true rfl) dL_bid_50 ⟨Nat.le_of_ble_eq_true rfl, Nat.le_of_ble_eq_true rfl⟩ ?_
    refine lv_istore (lv' := [(6, .int (s5 (k.1 2))), (5, .int 1), (4, .int (plB k.1)), (3, .int (leB k.1)), (2, .int (nI j)), (0, .ref o), (1, .int (nI x))]) hx hb dL_bid_53 hl (by decide) rfl (fun ls hl => ?_)
    refine lv_aload_n hx hb dL_bid_55 rfl (lv_at hl 5 rfl) ?_
    refine lv_iload_n hx hb dL_bid_56 rfl (lv_at hl 6 rfl) ?_
    refine lW (As := [.int (nI x)]) (rest := []) ⟨hx, hb, hml, hown, hts⟩ (k_bid l G o t r h g b ok (nI x) _) (cwV 1 hts gL_bid_X3_bid rfl rfl rfl (by decide +kernel) ⟨Nat.le_of_ble_eq_true rfl, Nat.le_of_ble_eq_true rfl⟩) hK hP hD hS hA rfl rfl hl.1 (Nat.le_of_ble_eq_true rfl) dL_bid_57 ⟨Nat.le_of_ble_eq_true rfl, Nat.le_of_ble_eq_true rfl⟩ (fun r_1 k1 H locs hr_1 hP hD hS => ?_)
    obtain ⟨e_r, u, e_k⟩ := made hbd _ _ hr_1
    rw [← hT1] at e_r e_k
    rw [f10] at e_r
    subst e_r
    subst e_k
    refine lv_istore (lv' := [(7, .int (nI j')), (6, .int (s5 (k.1 2))), (5, .int 1), (4, .int (plB k.1)), (3, .int (leB k.1)), (2, .int (nI j)), (0, .ref o), (1, .int (nI x))]) hx hb dL_bid_60 hl (by decide) rfl (fun ls hl => ?_)
    refine lv_iload hx hb dL_bid_62 (lv_at hl 2 rfl) ?_
    refine lv_if_ne (tgt := 81) hx hb dL_bid_64 (by decide) (fun _ => ?_) (fun c_9 => absurd c_9 (by decide))
    refine lv_iload hx hb dL_bid_81 (lv_at hl 0 rfl) ?_
    refine lv_if_lt (tgt := 149) hx hb dL_bid_83 (by decide) (fun c_9 => absurd c_9 (nI_pos (by omega))) (fun _ => ?_)
    refine lv_iload hx hb dL_bid_86 (lv_at hl 0 rfl) ?_
    refine lv_iload_n hx hb dL_bid_88 rfl (lv_at hl 5 rfl) ?_
    refine lv_icmp_eq (tgt := 149) hx hb dL_bid_89 (by decide) (fun c_9 => absurd c_9 hne) (fun _ => ?_)
    refine lv_iload hx hb dL_bid_92 (lv_at hl 3 rfl) ?_
    refine lv_iload hx hb dL_bid_94 (lv_at hl 0 rfl) ?_
    refine lv_ishr hx hb dL_bid_96 ?_
    refine lv_iconst (v := 1) hx hb dL_bid_97 (by decide) ?_
    refine lv_iand hx hb dL_bid_98 ?_
    refine lv_iconst (v := 1) hx hb dL_bid_99 (by decide) ?_
    refine lv_icmp_ne (tgt := 149) hx hb dL_bid_100 (by decide) (fun c_9 => absurd fb c_9) (fun _ => ?_)
    refine lv_aload_n hx hb dL_bid_103 rfl (lv_at hl 6 rfl) ?_
    refine lv_iload_n hx hb dL_bid_104 rfl (lv_at hl 5 rfl) ?_
    refine lv_iconst (v := 3) hx hb dL_bid_105 (by decide) ?_
    refine lR (nI x) (As := [.int (nI j), .int 3]) (rest := []) ⟨hx, hb, hml, hown, hts⟩ (k_player l G o t r h g b (OKC_kp ok hnx hTI1.1.t01 u) (nI j) 3) ((pl_at T1 hj 3 (by decide)).trans f5) (cwV 2 hts gL_bid_X3_player rfl rfl rfl (by decide +kernel) ⟨Nat.le_of_ble_eq_true rfl, Nat.le_of_ble_eq_true rfl⟩) hK hP rfl rfl hl.1 (Nat.le_of_ble_eq_true rfl) dL_bid_106 ⟨Nat.le_of_ble_eq_true rfl, Nat.le_of_ble_eq_true rfl⟩ ?_
    refine lv_iload_n hx hb dL_bid_109 rfl (lv_at hl 7 rfl) ?_
    refine lv_icmp_ne (tgt := 149) hx hb dL_bid_110 (by decide) (fun c_9 => absurd rfl c_9) (fun _ => ?_)
    refine lv_aload_n hx hb dL_bid_113 rfl (lv_at hl 6 rfl) ?_
    refine lv_bipush (v := 6) hx hb dL_bid_114 (by decide) ?_
    refine lR (nI x) (As := [.int 6]) (rest := []) ⟨hx, hb, hml, hown, hts⟩ (k_count l G o t r h g b (OKC_kp ok hnx hTI1.1.t01 u) 6) ((cn6 _ _ _).trans (f6)) (cwV 1 hts gL_bid_X3_count rfl rfl rfl (by decide +kernel) ⟨Nat.le_of_ble_eq_true rfl, Nat.le_of_ble_eq_true rfl⟩) hK hP rfl rfl hl.1 (Nat.le_of_ble_eq_true rfl) dL_bid_116 ⟨Nat.le_of_ble_eq_true rfl, Nat.le_of_ble_eq_true rfl⟩ ?_
    refine lv_iload_n hx hb dL_bid_119 rfl (lv_at hl 7 rfl) ?_
    refine lv_icmp_ne (tgt := 149) hx hb dL_bid_120 (by decide) (fun c_9 => absurd rfl c_9) (fun _ => ?_)
    refine lv_aload_n hx hb dL_bid_123 rfl (lv_at hl 6 rfl) ?_
    refine lv_bipush (v := 8) hx hb dL_bid_124 (by decide) ?_
    refine lR (plB k.1) (As := [.int 8]) (rest := []) ⟨hx, hb, hml, hown, hts⟩ (k_count l G o t r h g b (OKC_kp ok hnx hTI1.1.t01 u) 8) ((cn8 _ _ _).trans (f8)) (cwV 1 hts gL_bid_X3_count rfl rfl rfl (by decide +kernel) ⟨Nat.le_of_ble_eq_true rfl, Nat.le_of_ble_eq_true rfl⟩) hK hP rfl rfl hl.1 (Nat.le_of_ble_eq_true rfl) dL_bid_126 ⟨Nat.le_of_ble_eq_true rfl, Nat.le_of_ble_eq_true rfl⟩ ?_
    refine lv_iload hx hb dL_bid_129 (lv_at hl 3 rfl) ?_
    refine lv_icmp_ne (tgt := 149) hx hb dL_bid_131 (by decide) (fun c_9 => absurd rfl c_9) (fun _ => ?_)
    refine lv_aload_n hx hb dL_bid_134 rfl (lv_at hl 6 rfl) ?_
    refine lv_bipush (v := 10) hx hb dL_bid_135 (by decide) ?_
    refine lR (s5 (k.1 2)) (As := [.int 10]) (rest := []) ⟨hx, hb, hml, hown, hts⟩ (k_count l G o t r h g b (OKC_kp ok hnx hTI1.1.t01 u) 10) ((cn10 T1 _ _).trans (by rw [f2])) (cwV 1 hts gL_bid_X3_count rfl rfl rfl (by decide +kernel) ⟨Nat.le_of_ble_eq_true rfl, Nat.le_of_ble_eq_true rfl⟩) hK hP rfl rfl hl.1 (Nat.le_of_ble_eq_true rfl) dL_bid_137 ⟨Nat.le_of_ble_eq_true rfl, Nat.le_of_ble_eq_true rfl⟩ ?_
    refine lv_iload hx hb dL_bid_140 (lv_at hl 1 rfl) ?_
    refine lv_icmp_ne (tgt := 149) hx hb dL_bid_142 (by decide) (fun c_9 => absurd rfl c_9) (fun _ => ?_)
    refine lv_iconst (v := 1) hx hb dL_bid_145 (by decide) ?_
    refine lv_goto (tgt := 151) hx hb dL_bid_146 (by decide) ?_
    refine W.widen (k := 11) (n := 62) (Nat.le_of_ble_eq_true rfl) (Nat.le_of_ble_eq_true rfl) ?_
    exact hret _ _ _ _ _ _ (Or.inr ⟨rfl, u, T1, rfl, hTI1⟩) hP hD hS dL_bid_151
