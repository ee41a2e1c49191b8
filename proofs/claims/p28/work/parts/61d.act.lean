/-! THE LAW: act, further (laid by wip/p28/gen/l5.py) -/
set_option maxHeartbeats 4000000 in
set_option maxRecDepth 100000 in
theorem c_L_act_act (l : Launch) (G : qG) (o : Nat) (t r h : Nat → Nat) (g : Nat) (b : Nat → Nat) {k : CS} {B : Nat} (hF : RF k B) (hB29 : 29 ≤ B) {n : Nat} (hn : n < 2 ^ 31) (hc : 8 ≤ n % 16 ∧ n % 16 < 11) (sz : Nat) : Met l yL_act wsL_act { frames := 7, cells := 11, slots := 62, locals := 149 } (PWz G sz [.ref o, .int (nI n)] (ows G o t r h g b k)) (QI (S := CS) G sz (ows G o t r h g b k) (ActP k (B + 11)) (fun c₀ => ows G o t r h g b c₀)) 11 62 (va_A (ows G o t r h g b k) sz) := by
  refine MIz.of' (by decide) rfl (Nat.le_of_ble_eq_true rfl) ?_
  intro p e s m below meth c hx hb hml hown hts hK hsz hP A hAe hA hD hS hz Q hret ls hl
  have hown : s.vm.findClass RL = some m.cls := hown
  have hl : lv_has ls 10 [(0, .ref o), (1, .int (nI n))] := hl
  have hF0 := hF
  obtain ⟨ok, hTI, hB9, hpl0, hold, hnx⟩ := hF
  obtain ⟨y, hy, hy9⟩ : ∃ y : Nat, nI n / 16 = nI y ∧ y < 2 ^ 28 := ⟨n / 16, pk_div (a := n) (d := 16) hn (by decide) (by decide), by omega⟩
  obtain ⟨p5, hp5, hp55⟩ : ∃ q : Nat, nI y - nI y / 5 * 5 = nI q ∧ q < 5 := ⟨y % 5, pk_rem (a := y) (d := 5) (by omega) (by decide) (by decide), Nat.mod_lt _ (by decide)⟩
  obtain ⟨a, ha, ha1, ha2⟩ : ∃ q : Nat, nI n - nI n / 16 * 16 = nI q ∧ 8 ≤ q ∧ q < 11 := ⟨n % 16, pk_rem (a := n) (d := 16) hn (by decide) (by decide), hc.1, hc.2⟩
  have wk1 := hts (Cond.constant RL 36 (-100005)) (List.mem_of_getElem? (i := 1) (by first | rfl | decide +kernel))
  have wk2 := hts (Cond.constant RL 31 (-100006)) (List.mem_of_getElem? (i := 2) (by first | rfl | decide +kernel))
  by_cases hu : k.1 10 0 = 0
  · have hidt : k.1 10 1 = (-100006) := (hTI.1.idle hu).1
    refine lv_iload_n hx hb dL_act_0 rfl (lv_at hl 1 rfl) ?_
    refine lv_bipush (v := 16) hx hb dL_act_1 (by decide) ?_
    refine lv_irem hx hb dL_act_3 (by decide) ?_
    refine qtop (y := nI a) ha ?_
    refine lv_istore_n (lv' := [(2, .int (nI a)), (0, .ref o), (1, .int (nI n))]) hx hb dL_act_4 rfl hl (by decide) rfl (fun ls hl => ?_)
    refine lv_iload_n hx hb dL_act_5 rfl (lv_at hl 2 rfl) ?_
    refine lv_bipush (v := 16) hx hb dL_act_6 (by decide) ?_
    refine lv_idiv hx hb dL_act_8 (by decide) ?_
    refine qtop (y := nI y) hy ?_
    refine lv_istore_n (lv' := [(3, .int (nI y)), (2, .int (nI a)), (0, .ref o), (1, .int (nI n))]) hx hb dL_act_9 rfl hl (by decide) rfl (fun ls hl => ?_)
    refine lv_iload_n hx hb dL_act_10 rfl (lv_at hl 0 rfl) ?_
    refine lv_iconst (v := 5) hx hb dL_act_11 (by decide) ?_
    refine lv_irem hx hb dL_act_12 (by decide) ?_
    refine qtop (y := nI p5) hp5 ?_
    refine lv_istore (lv' := [(4, .int (nI p5)), (3, .int (nI y)), (2, .int (nI a)), (0, .ref o), (1, .int (nI n))]) hx hb dL_act_13 hl (by decide) rfl (fun ls hl => ?_)
    refine lv_aload_n hx hb dL_act_15 rfl (lv_at hl 3 rfl) ?_
    refine lv_iconst (v := 4) hx hb dL_act_16 (by decide) ?_
    refine lR (0) (As := [.int 4]) (rest := []) ⟨hx, hb, hml, hown, hts⟩ (k_count l G o t r h g b ok 4) ((cn4 ok.1 _ _).trans hu) (cwV 1 hts gL_act_X3_count rfl rfl rfl (by decide +kernel) ⟨Nat.le_of_ble_eq_true rfl, Nat.le_of_ble_eq_true rfl⟩) hK hP rfl rfl hl.1 (Nat.le_of_ble_eq_true rfl) dL_act_17 ⟨Nat.le_of_ble_eq_true rfl, Nat.le_of_ble_eq_true rfl⟩ ?_
    refine lv_iconst (v := 1) hx hb dL_act_20 (by decide) ?_
    refine lv_icmp_ne (tgt := 28) hx hb dL_act_21 (by decide) (fun _ => ?_) (fun c_9 => absurd c_9 (by decide))
    refine lv_iconst (v := 0) hx hb dL_act_28 (by decide) ?_
    refine lv_istore (lv' := [(5, .int 0), (4, .int (nI p5)), (3, .int (nI y)), (2, .int (nI a)), (0, .ref o), (1, .int (nI n))]) hx hb dL_act_29 hl (by decide) rfl (fun ls hl => ?_)
    refine lv_iload_n hx hb dL_act_31 rfl (lv_at hl 3 rfl) ?_
    refine lv_iconst (v := 2) hx hb dL_act_32 (by decide) ?_
    refine lv_icmp_ge (tgt := 102) hx hb dL_act_33 (by decide) (fun _ => ?_) (fun c_9 => absurd (nI_le (a := 2) (by omega) (by omega)) c_9)
    refine lv_iload_n hx hb dL_act_102 rfl (lv_at hl 3 rfl) ?_
    refine lv_bipush (v := 6) hx hb dL_act_103 (by decide) ?_
    refine lv_icmp_ge (tgt := 145) hx hb dL_act_105 (by decide) (fun _ => ?_) (fun c_9 => absurd (nI_le (a := 6) (by omega) (by omega)) c_9)
    refine lv_iload_n hx hb dL_act_145 rfl (lv_at hl 3 rfl) ?_
    refine lv_bipush (v := 8) hx hb dL_act_146 (by decide) ?_
    refine lv_icmp_ge (tgt := 156) hx hb dL_act_148 (by decide) (fun _ => ?_) (fun c_9 => absurd (nI_le (a := 8) (by omega) (by omega)) c_9)
    refine lv_iload_n hx hb dL_act_156 rfl (lv_at hl 3 rfl) ?_
    refine lv_bipush (v := 11) hx hb dL_act_157 (by decide) ?_
    refine lv_icmp_ge (tgt := 322) hx hb dL_act_159 (by decide) (fun c_9 => absurd c_9 (nI_ge (b := 11) (by omega) (by decide))) (fun _ => ?_)
    refine lv_aload_n hx hb dL_act_162 rfl (lv_at hl 4 rfl) ?_
    refine lv_iconst (v := 5) hx hb dL_act_163 (by decide) ?_
    refine lR ((-100006)) (As := [.int 5]) (rest := []) ⟨hx, hb, hml, hown, hts⟩ (k_count l G o t r h g b ok 5) ((cn5 _ _ _).trans hidt) (cwV 1 hts gL_act_X3_count rfl rfl rfl (by decide +kernel) ⟨Nat.le_of_ble_eq_true rfl, Nat.le_of_ble_eq_true rfl⟩) hK hP rfl rfl hl.1 (Nat.le_of_ble_eq_true rfl) dL_act_164 ⟨Nat.le_of_ble_eq_true rfl, Nat.le_of_ble_eq_true rfl⟩ ?_
    refine lv_istore (lv' := [(6, .int (-100006)), (5, .int 0), (4, .int (nI p5)), (3, .int (nI y)), (2, .int (nI a)), (0, .ref o), (1, .int (nI n))]) hx hb dL_act_167 hl (by decide) rfl (fun ls hl => ?_)
    refine lv_aload_n hx hb dL_act_169 rfl (lv_at hl 5 rfl) ?_
    refine lv_bipush (v := 7) hx hb dL_act_170 (by decide) ?_
    refine lR (leB k.1) (As := [.int 7]) (rest := []) ⟨hx, hb, hml, hown, hts⟩ (k_count l G o t r h g b ok 7) (cn7 _ _ _) (cwV 1 hts gL_act_X3_count rfl rfl rfl (by decide +kernel) ⟨Nat.le_of_ble_eq_true rfl, Nat.le_of_ble_eq_true rfl⟩) hK hP rfl rfl hl.1 (Nat.le_of_ble_eq_true rfl) dL_act_172 ⟨Nat.le_of_ble_eq_true rfl, Nat.le_of_ble_eq_true rfl⟩ ?_
    refine lv_istore (lv' := [(7, .int (leB k.1)), (6, .int (-100006)), (5, .int 0), (4, .int (nI p5)), (3, .int (nI y)), (2, .int (nI a)), (0, .ref o), (1, .int (nI n))]) hx hb dL_act_175 hl (by decide) rfl (fun ls hl => ?_)
    refine lv_iload hx hb dL_act_177 (lv_at hl 2 rfl) ?_
    refine lv_if_eq (tgt := 210) hx hb dL_act_179 (by decide) (fun _ => ?_) (fun c_9 => absurd (by decide) c_9)
    refine lv_iconst (v := 0) hx hb dL_act_210 (by decide) ?_
    refine lv_istore (lv' := [(8, .int 0), (7, .int (leB k.1)), (6, .int (-100006)), (5, .int 0), (4, .int (nI p5)), (3, .int (nI y)), (2, .int (nI a)), (0, .ref o), (1, .int (nI n))]) hx hb dL_act_211 hl (by decide) rfl (fun ls hl => ?_)
    refine lv_aload_n hx hb dL_act_213 rfl (lv_at hl 7 rfl) ?_
    refine lWr ((-100005)) (As := []) (rest := []) ⟨hx, hb, hml, hown, hts⟩ (k_act l G o t r h g b ok  _) (refdp hu) (cwV 0 hts gL_act_X3_act rfl rfl rfl (by decide +kernel) ⟨Nat.le_of_ble_eq_true rfl, Nat.le_of_ble_eq_true rfl⟩) hK hP hD hS hA rfl rfl hl.1 (Nat.le_of_ble_eq_true rfl) dL_act_214 ⟨Nat.le_of_ble_eq_true rfl, Nat.le_of_ble_eq_true rfl⟩ (fun H locs hP hD hS => ?_)
    refine lv_istore (lv' := [(9, .int (-100005)), (8, .int 0), (7, .int (leB k.1)), (6, .int (-100006)), (5, .int 0), (4, .int (nI p5)), (3, .int (nI y)), (2, .int (nI a)), (0, .ref o), (1, .int (nI n))]) hx hb dL_act_217 hl (by decide) rfl (fun ls hl => ?_)
    refine lv_iload hx hb dL_act_219 (lv_at hl 4 rfl) ?_
    refine lv_if_ne (tgt := 238) hx hb dL_act_221 (by decide) (fun c_9 => absurd (by decide) c_9) (fun _ => ?_)
    refine lv_iload hx hb dL_act_224 (lv_at hl 0 rfl) ?_
    refine lv_ldc (v := (-100005)) hx hb hown wk1 dL_act_226 ?_
    refine lv_icmp_ne (tgt := 235) hx hb dL_act_228 (by decide) (fun c_9 => absurd (by decide) c_9) (fun _ => ?_)
    refine lv_iconst (v := 0) hx hb dL_act_231 (by decide) ?_
    refine lv_goto (tgt := 237) hx hb dL_act_232 (by decide) ?_
    refine W.widen (k := 11) (n := 62) (Nat.le_of_ble_eq_true rfl) (Nat.le_of_ble_eq_true rfl) ?_
    exact hret _ _ _ _ _ _ (Or.inl ⟨rfl, rfl⟩) hP hD hS dL_act_237
  · obtain ⟨hu1, -⟩ := hTI.1.turn hu
    obtain ⟨j, n0, hj, ht, en, hcase⟩ := act_cases hTI (by omega) hu
    rcases hcase with ⟨q1, q2, ea, ev, hm, hn99, -, hn9⟩ | ⟨q1, ea, ev⟩
    · rw [en] at q1 q2
      obtain ⟨hT1, j0, j', hj0, hj', -, ht0, f10, -, f5, f6, -, -⟩ := bid_F (B' := B + 11) hTI hu (b := n0) (by omega) (by omega) (by have := hn9 (by omega); omega) hm
      obtain rfl : j = j0 := (nI_eq (by omega) (by omega)).mp (ht.symm.trans ht0)
      rw [← ea] at hT1 f10 f5 f6
      obtain ⟨T1, hT⟩ : ∃ T1 : Tb, T1 = acT k.1 := ⟨_, rfl⟩
      have ev2 : acV k.1 = nI j' := by rw [ev, ← ea]; exact f10
      rw [← hT] at hT1 f10 f5 f6
      refine lv_iload_n hx hb dL_act_0 rfl (lv_at hl 1 rfl) ?_
      refine lv_bipush (v := 16) hx hb dL_act_1 (by decide) ?_
      refine lv_irem hx hb dL_act_3 (by decide) ?_
      refine qtop (y := nI a) ha ?_
      refine lv_istore_n (lv' := [(2, .int (nI a)), (0, .ref o), (1, .int (nI n))]) hx hb dL_act_4 rfl hl (by decide) rfl (fun ls hl => ?_)
      refine lv_iload_n hx hb dL_act_5 rfl (lv_at hl 2 rfl) ?_
      refine lv_bipush (v := 16) hx hb dL_act_6 (by decide) ?_
      refine lv_idiv hx hb dL_act_8 (by decide) ?_
      refine qtop (y := nI y) hy ?_
      refine lv_istore_n (lv' := [(3, .int (nI y)), (2, .int (nI a)), (0, .ref o), (1, .int (nI n))]) hx hb dL_act_9 rfl hl (by decide) rfl (fun ls hl => ?_)
      refine lv_iload_n hx hb dL_act_10 rfl (lv_at hl 0 rfl) ?_
      refine lv_iconst (v := 5) hx hb dL_act_11 (by decide) ?_
      refine lv_irem hx hb dL_act_12 (by decide) ?_
      refine qtop (y := nI p5) hp5 ?_
      refine lv_istore (lv' := [(4, .int (nI p5)), (3, .int (nI y)), (2, .int (nI a)), (0, .ref o), (1, .int (nI n))]) hx hb dL_act_13 hl (by decide) rfl (fun ls hl => ?_)
      refine lv_aload_n hx hb dL_act_15 rfl (lv_at hl 3 rfl) ?_
      refine lv_iconst (v := 4) hx hb dL_act_16 (by decide) ?_
      refine lR (1) (As := [.int 4]) (rest := []) ⟨hx, hb, hml, hown, hts⟩ (k_count l G o t r h g b ok 4) ((cn4 ok.1 _ _).trans hu1) (cwV 1 hts gL_act_X3_count rfl rfl rfl (by decide +kernel) ⟨Nat.le_of_ble_eq_true rfl, Nat.le_of_ble_eq_true rfl⟩) hK hP rfl rfl hl.1 (Nat.le_of_ble_eq_true rfl) dL_act_17 ⟨Nat.le_of_ble_eq_true rfl, Nat.le_of_ble_eq_true rfl⟩ ?_
      refine lv_iconst (v := 1) hx hb dL_act_20 (by decide) ?_
      refine lv_icmp_ne (tgt := 28) hx hb dL_act_21 (by decide) (fun c_9 => absurd (by decide) c_9) (fun _ => ?_)
      refine lv_iconst (v := 1) hx hb dL_act_24 (by decide) ?_
      refine lv_goto (tgt := 29) hx hb dL_act_25 (by decide) ?_
      refine lv_istore (lv' := [(5, .int 1), (4, .int (nI p5)), (3, .int (nI y)), (2, .int (nI a)), (0, .ref o), (1, .int (nI n))]) hx hb dL_act_29 hl (by decide) rfl (fun ls hl => ?_)
      refine lv_iload_n hx hb dL_act_31 rfl (lv_at hl 3 rfl) ?_
      refine lv_iconst (v := 2) hx hb dL_act_32 (by decide) ?_
      refine lv_icmp_ge (tgt := 102) hx hb dL_act_33 (by decide) (fun _ => ?_) (fun c_9 => absurd (nI_le (a := 2) (by omega) (by omega)) c_9)
      refine lv_iload_n hx hb dL_act_102 rfl (lv_at hl 3 rfl) ?_
      refine lv_bipush (v := 6) hx hb dL_act_103 (by decide) ?_
      refine lv_icmp_ge (tgt := 145) hx hb dL_act_105 (by decide) (fun _ => ?_) (fun c_9 => absurd (nI_le (a := 6) (by omega) (by omega)) c_9)
      refine lv_iload_n hx hb dL_act_145 rfl (lv_at hl 3 rfl) ?_
      refine lv_bipush (v := 8) hx hb dL_act_146 (by decide) ?_
      refine lv_icmp_ge (tgt := 156) hx hb dL_act_148 (by decide) (fun _ => ?_) (fun c_9 => absurd (nI_le (a := 8) (by omega) (by omega)) c_9)
      refine lv_iload_n hx hb dL_act_156 rfl (lv_at hl 3 rfl) ?_
      refine lv_bipush (v := 11) hx hb dL_act_157 (by decide) ?_
      refine lv_icmp_ge (tgt := 322) hx hb dL_act_159 (by decide) (fun c_9 => absurd c_9 (nI_ge (b := 11) (by omega) (by decide))) (fun _ => ?_)
      refine lv_aload_n hx hb dL_act_162 rfl (lv_at hl 4 rfl) ?_
      refine lv_iconst (v := 5) hx hb dL_act_163 (by decide) ?_
      refine lR (nI j) (As := [.int 5]) (rest := []) ⟨hx, hb, hml, hown, hts⟩ (k_count l G o t r h g b ok 5) ((cn5 _ _ _).trans (ht)) (cwV 1 hts gL_act_X3_count rfl rfl rfl (by decide +kernel) ⟨Nat.le_of_ble_eq_true rfl, Nat.le_of_ble_eq_true rfl⟩) hK hP rfl rfl hl.1 (Nat.le_of_ble_eq_true rfl) dL_act_164 ⟨Nat.le_of_ble_eq_true rfl, Nat.le_of_ble_eq_true rfl⟩ ?_
      refine lv_istore (lv' := [(6, .int (nI j)), (5, .int 1), (4, .int (nI p5)), (3, .int (nI y)), (2, .int (nI a)), (0, .ref o), (1, .int (nI n))]) hx hb dL_act_167 hl (by decide) rfl (fun ls hl => ?_)
      refine lv_aload_n hx hb dL_act_169 rfl (lv_at hl 5 rfl) ?_
      refine lv_bipush (v := 7) hx hb dL_act_170 (by decide) ?_
      refine lR (nI n0) (As := [.int 7]) (rest := []) ⟨hx, hb, hml, hown, hts⟩ (k_count l G o t r h g b ok 7) ((cn7 _ _ _).trans (en)) (cwV 1 hts gL_act_X3_count rfl rfl rfl (by decide +kernel) ⟨Nat.le_of_ble_eq_true rfl, Nat.le_of_ble_eq_true rfl⟩) hK hP rfl rfl hl.1 (Nat.le_of_ble_eq_true rfl) dL_act_172 ⟨Nat.le_of_ble_eq_true rfl, Nat.le_of_ble_eq_true rfl⟩ ?_
      refine lv_istore (lv' := [(7, .int (nI n0)), (6, .int (nI j)), (5, .int 1), (4, .int (nI p5)), (3, .int (nI y)), (2, .int (nI a)), (0, .ref o), (1, .int (nI n))]) hx hb dL_act_175 hl (by decide) rfl (fun ls hl => ?_)
      refine lv_iload hx hb dL_act_177 (lv_at hl 2 rfl) ?_
      refine lv_if_eq (tgt := 210) hx hb dL_act_179 (by decide) (fun c_9 => absurd c_9 (by decide)) (fun _ => ?_)
      refine lv_iload hx hb dL_act_182 (lv_at hl 0 rfl) ?_
      refine lv_aload_n hx hb dL_act_184 rfl (lv_at hl 6 rfl) ?_
      refine lv_iload hx hb dL_act_185 (lv_at hl 1 rfl) ?_
      refine lv_iconst (v := 1) hx hb dL_act_187 (by decide) ?_
      refine lR (k.1 3 j) (As := [.int (nI j), .int 1]) (rest := [.int (nI n0)]) ⟨hx, hb, hml, hown, hts⟩ (k_player l G o t r h g b ok (nI j) 1) (pl_at k.1 hj 1 (by decide)) (cwV 2 hts gL_act_X3_player rfl rfl rfl (by decide +kernel) ⟨Nat.le_of_ble_eq_true rfl, Nat.le_of_ble_eq_true rfl⟩) hK hP rfl rfl hl.1 (Nat.le_of_ble_eq_true rfl) dL_act_188 ⟨Nat.le_of_ble_eq_true rfl, Nat.le_of_ble_eq_true rfl⟩ ?_
      refine lv_icmp_gt (tgt := 210) hx hb dL_act_191 (by decide) (fun c_9 => absurd c_9 (Int32.not_lt.mpr q1)) (fun _ => ?_)
      refine lv_iload hx hb dL_act_194 (lv_at hl 0 rfl) ?_
      refine lv_aload_n hx hb dL_act_196 rfl (lv_at hl 6 rfl) ?_
      refine lv_iload hx hb dL_act_197 (lv_at hl 1 rfl) ?_
      refine lv_iconst (v := 0) hx hb dL_act_199 (by decide) ?_
      refine lR (k.1 2 j) (As := [.int (nI j), .int 0]) (rest := [.int (nI n0)]) ⟨hx, hb, hml, hown, hts⟩ (k_player l G o t r h g b ok (nI j) 0) (pl_at k.1 hj 0 (by decide)) (cwV 2 hts gL_act_X3_player rfl rfl rfl (by decide +kernel) ⟨Nat.le_of_ble_eq_true rfl, Nat.le_of_ble_eq_true rfl⟩) hK hP rfl rfl hl.1 (Nat.le_of_ble_eq_true rfl) dL_act_200 ⟨Nat.le_of_ble_eq_true rfl, Nat.le_of_ble_eq_true rfl⟩ ?_
      refine lv_icmp_gt (tgt := 210) hx hb dL_act_203 (by decide) (fun c_9 => absurd c_9 (Int32.not_lt.mpr q2)) (fun _ => ?_)
      refine lv_iconst (v := 1) hx hb dL_act_206 (by decide) ?_
      refine lv_goto (tgt := 211) hx hb dL_act_207 (by decide) ?_
      refine lv_istore (lv' := [(8, .int 1), (7, .int (nI n0)), (6, .int (nI j)), (5, .int 1), (4, .int (nI p5)), (3, .int (nI y)), (2, .int (nI a)), (0, .ref o), (1, .int (nI n))]) hx hb dL_act_211 hl (by decide) rfl (fun ls hl => ?_)
      refine lv_aload_n hx hb dL_act_213 rfl (lv_at hl 7 rfl) ?_
      refine lW (As := []) (rest := []) ⟨hx, hb, hml, hown, hts⟩ (k_act l G o t r h g b ok  _) (cwV 0 hts gL_act_X3_act rfl rfl rfl (by decide +kernel) ⟨Nat.le_of_ble_eq_true rfl, Nat.le_of_ble_eq_true rfl⟩) hK hP hD hS hA rfl rfl hl.1 (Nat.le_of_ble_eq_true rfl) dL_act_214 ⟨Nat.le_of_ble_eq_true rfl, Nat.le_of_ble_eq_true rfl⟩ (fun r_1 k1 H locs hr_1 hP hD hS => ?_)
      obtain ⟨e_r, u, e_k⟩ := maden hu _ _ hr_1
      rw [← hT] at e_k
      rw [ev2] at e_r
      subst e_r
      subst e_k
      refine lv_istore (lv' := [(9, .int (nI j')), (8, .int 1), (7, .int (nI n0)), (6, .int (nI j)), (5, .int 1), (4, .int (nI p5)), (3, .int (nI y)), (2, .int (nI a)), (0, .ref o), (1, .int (nI n))]) hx hb dL_act_217 hl (by decide) rfl (fun ls hl => ?_)
      refine lv_iload hx hb dL_act_219 (lv_at hl 4 rfl) ?_
      refine lv_if_ne (tgt := 238) hx hb dL_act_221 (by decide) (fun _ => ?_) (fun c_9 => absurd c_9 (by decide))
      refine lv_iload hx hb dL_act_238 (lv_at hl 1 rfl) ?_
      refine lv_if_eq (tgt := 280) hx hb dL_act_240 (by decide) (fun c_9 => absurd c_9 (by decide)) (fun _ => ?_)
      refine lv_aload_n hx hb dL_act_243 rfl (lv_at hl 8 rfl) ?_
      refine lv_bipush (v := 6) hx hb dL_act_244 (by decide) ?_
      refine lR (nI n0) (As := [.int 6]) (rest := []) ⟨hx, hb, hml, hown, hts⟩ (k_count l G o t r h g b (OKC_kp ok hnx hT1.1.t01 u) 6) ((cn6 _ _ _).trans (f6)) (cwV 1 hts gL_act_X3_count rfl rfl rfl (by decide +kernel) ⟨Nat.le_of_ble_eq_true rfl, Nat.le_of_ble_eq_true rfl⟩) hK hP rfl rfl hl.1 (Nat.le_of_ble_eq_true rfl) dL_act_246 ⟨Nat.le_of_ble_eq_true rfl, Nat.le_of_ble_eq_true rfl⟩ ?_
      refine lv_iload hx hb dL_act_249 (lv_at hl 2 rfl) ?_
      refine lv_icmp_ne (tgt := 275) hx hb dL_act_251 (by decide) (fun c_9 => absurd rfl c_9) (fun _ => ?_)
      refine lv_aload_n hx hb dL_act_254 rfl (lv_at hl 8 rfl) ?_
      refine lv_iload hx hb dL_act_255 (lv_at hl 3 rfl) ?_
      refine lv_iconst (v := 3) hx hb dL_act_257 (by decide) ?_
      refine lR (nI n0) (As := [.int (nI j), .int 3]) (rest := []) ⟨hx, hb, hml, hown, hts⟩ (k_player l G o t r h g b (OKC_kp ok hnx hT1.1.t01 u) (nI j) 3) ((pl_at T1 hj0 3 (by decide)).trans f5) (cwV 2 hts gL_act_X3_player rfl rfl rfl (by decide +kernel) ⟨Nat.le_of_ble_eq_true rfl, Nat.le_of_ble_eq_true rfl⟩) hK hP rfl rfl hl.1 (Nat.le_of_ble_eq_true rfl) dL_act_258 ⟨Nat.le_of_ble_eq_true rfl, Nat.le_of_ble_eq_true rfl⟩ ?_
      refine lv_iload hx hb dL_act_261 (lv_at hl 2 rfl) ?_
      refine lv_icmp_ne (tgt := 275) hx hb dL_act_263 (by decide) (fun c_9 => absurd rfl c_9) (fun _ => ?_)
      refine lv_iload hx hb dL_act_266 (lv_at hl 0 rfl) ?_
      refine lv_if_lt (tgt := 275) hx hb dL_act_268 (by decide) (fun c_9 => absurd c_9 (nI_pos (by omega))) (fun _ => ?_)
      refine lv_iconst (v := 1) hx hb dL_act_271 (by decide) ?_
      refine lv_goto (tgt := 321) hx hb dL_act_272 (by decide) ?_
      refine W.widen (k := 11) (n := 62) (Nat.le_of_ble_eq_true rfl) (Nat.le_of_ble_eq_true rfl) ?_
      exact hret _ _ _ _ _ _ (Or.inr ⟨rfl, u, T1, rfl, hT1⟩) hP hD hS dL_act_321
    · rw [en] at q1
      obtain ⟨hT1, -, j0, hj0, ht0, -, -, hcase⟩ := drop_F hTI hu
      obtain rfl : j = j0 := (nI_eq (by omega) (by omega)).mp (ht.symm.trans ht0)
      rw [← ea] at hT1 hcase
      obtain ⟨T1, hT⟩ : ∃ T1 : Tb, T1 = acT k.1 := ⟨_, rfl⟩
      rw [← hT] at hT1 hcase
      rcases hcase with ⟨j', h3, hj', hv, g5, g10, g6, g8, gs⟩ | ⟨w, h2, hw, hv, g10, g4, gat, gpl, gs8, gle⟩
      · have hn5 := nT_le k.1
        refine lv_iload_n hx hb dL_act_0 rfl (lv_at hl 1 rfl) ?_
        refine lv_bipush (v := 16) hx hb dL_act_1 (by decide) ?_
        refine lv_irem hx hb dL_act_3 (by decide) ?_
        refine qtop (y := nI a) ha ?_
        refine lv_istore_n (lv' := [(2, .int (nI a)), (0, .ref o), (1, .int (nI n))]) hx hb dL_act_4 rfl hl (by decide) rfl (fun ls hl => ?_)
        refine lv_iload_n hx hb dL_act_5 rfl (lv_at hl 2 rfl) ?_
        refine lv_bipush (v := 16) hx hb dL_act_6 (by decide) ?_
        refine lv_idiv hx hb dL_act_8 (by decide) ?_
        refine qtop (y := nI y) hy ?_
        refine lv_istore_n (lv' := [(3, .int (nI y)), (2, .int (nI a)), (0, .ref o), (1, .int (nI n))]) hx hb dL_act_9 rfl hl (by decide) rfl (fun ls hl => ?_)
        refine lv_iload_n hx hb dL_act_10 rfl (lv_at hl 0 rfl) ?_
        refine lv_iconst (v := 5) hx hb dL_act_11 (by decide) ?_
        refine lv_irem hx hb dL_act_12 (by decide) ?_
        refine qtop (y := nI p5) hp5 ?_
        refine lv_istore (lv' := [(4, .int (nI p5)), (3, .int (nI y)), (2, .int (nI a)), (0, .ref o), (1, .int (nI n))]) hx hb dL_act_13 hl (by decide) rfl (fun ls hl => ?_)
        refine lv_aload_n hx hb dL_act_15 rfl (lv_at hl 3 rfl) ?_
        refine lv_iconst (v := 4) hx hb dL_act_16 (by decide) ?_
        refine lR (1) (As := [.int 4]) (rest := []) ⟨hx, hb, hml, hown, hts⟩ (k_count l G o t r h g b ok 4) ((cn4 ok.1 _ _).trans hu1) (cwV 1 hts gL_act_X3_count rfl rfl rfl (by decide +kernel) ⟨Nat.le_of_ble_eq_true rfl, Nat.le_of_ble_eq_true rfl⟩) hK hP rfl rfl hl.1 (Nat.le_of_ble_eq_true rfl) dL_act_17 ⟨Nat.le_of_ble_eq_true rfl, Nat.le_of_ble_eq_true rfl⟩ ?_
        refine lv_iconst (v := 1) hx hb dL_act_20 (by decide) ?_
        refine lv_icmp_ne (tgt := 28) hx hb dL_act_21 (by decide) (fun c_9 => absurd (by decide) c_9) (fun _ => ?_)
        refine lv_iconst (v := 1) hx hb dL_act_24 (by decide) ?_
        refine lv_goto (tgt := 29) hx hb dL_act_25 (by decide) ?_
        refine lv_istore (lv' := [(5, .int 1), (4, .int (nI p5)), (3, .int (nI y)), (2, .int (nI a)), (0, .ref o), (1, .int (nI n))]) hx hb dL_act_29 hl (by decide) rfl (fun ls hl => ?_)
        refine lv_iload_n hx hb dL_act_31 rfl (lv_at hl 3 rfl) ?_
        refine lv_iconst (v := 2) hx hb dL_act_32 (by decide) ?_
        refine lv_icmp_ge (tgt := 102) hx hb dL_act_33 (by decide) (fun _ => ?_) (fun c_9 => absurd (nI_le (a := 2) (by omega) (by omega)) c_9)
        refine lv_iload_n hx hb dL_act_102 rfl (lv_at hl 3 rfl) ?_
        refine lv_bipush (v := 6) hx hb dL_act_103 (by decide) ?_
        refine lv_icmp_ge (tgt := 145) hx hb dL_act_105 (by decide) (fun _ => ?_) (fun c_9 => absurd (nI_le (a := 6) (by omega) (by omega)) c_9)
        refine lv_iload_n hx hb dL_act_145 rfl (lv_at hl 3 rfl) ?_
        refine lv_bipush (v := 8) hx hb dL_act_146 (by decide) ?_
        refine lv_icmp_ge (tgt := 156) hx hb dL_act_148 (by decide) (fun _ => ?_) (fun c_9 => absurd (nI_le (a := 8) (by omega) (by omega)) c_9)
        refine lv_iload_n hx hb dL_act_156 rfl (lv_at hl 3 rfl) ?_
        refine lv_bipush (v := 11) hx hb dL_act_157 (by decide) ?_
        refine lv_icmp_ge (tgt := 322) hx hb dL_act_159 (by decide) (fun c_9 => absurd c_9 (nI_ge (b := 11) (by omega) (by decide))) (fun _ => ?_)
        refine lv_aload_n hx hb dL_act_162 rfl (lv_at hl 4 rfl) ?_
        refine lv_iconst (v := 5) hx hb dL_act_163 (by decide) ?_
        refine lR (nI j) (As := [.int 5]) (rest := []) ⟨hx, hb, hml, hown, hts⟩ (k_count l G o t r h g b ok 5) ((cn5 _ _ _).trans (ht)) (cwV 1 hts gL_act_X3_count rfl rfl rfl (by decide +kernel) ⟨Nat.le_of_ble_eq_true rfl, Nat.le_of_ble_eq_true rfl⟩) hK hP rfl rfl hl.1 (Nat.le_of_ble_eq_true rfl) dL_act_164 ⟨Nat.le_of_ble_eq_true rfl, Nat.le_of_ble_eq_true rfl⟩ ?_
        refine lv_istore (lv' := [(6, .int (nI j)), (5, .int 1), (4, .int (nI p5)), (3, .int (nI y)), (2, .int (nI a)), (0, .ref o), (1, .int (nI n))]) hx hb dL_act_167 hl (by decide) rfl (fun ls hl => ?_)
        refine lv_aload_n hx hb dL_act_169 rfl (lv_at hl 5 rfl) ?_
        refine lv_bipush (v := 7) hx hb dL_act_170 (by decide) ?_
        refine lR (nI n0) (As := [.int 7]) (rest := []) ⟨hx, hb, hml, hown, hts⟩ (k_count l G o t r h g b ok 7) ((cn7 _ _ _).trans (en)) (cwV 1 hts gL_act_X3_count rfl rfl rfl (by decide +kernel) ⟨Nat.le_of_ble_eq_true rfl, Nat.le_of_ble_eq_true rfl⟩) hK hP rfl rfl hl.1 (Nat.le_of_ble_eq_true rfl) dL_act_172 ⟨Nat.le_of_ble_eq_true rfl, Nat.le_of_ble_eq_true rfl⟩ ?_
        refine lv_istore (lv' := [(7, .int (nI n0)), (6, .int (nI j)), (5, .int 1), (4, .int (nI p5)), (3, .int (nI y)), (2, .int (nI a)), (0, .ref o), (1, .int (nI n))]) hx hb dL_act_175 hl (by decide) rfl (fun ls hl => ?_)
        have J210 : ∀ ls : Array Slot, lv_has ls 10 [(7, .int (nI n0)), (6, .int (nI j)), (5, .int 1), (4, .int (nI p5)), (3, .int (nI y)), (2, .int (nI a)), (0, .ref o), (1, .int (nI n))] → W p l e { frames := 7, cells := 11, slots := 62, locals := 149 } s m ([.ref o, .int (nI n)] : List Value).toArray below meth c s.heap [] (0) (0) Q (F0 m 210 ls []) := by
          intro ls hl
          refine lv_iconst (v := 0) hx hb dL_act_210 (by decide) ?_
          refine lv_istore (lv' := [(8, .int 0), (7, .int (nI n0)), (6, .int (nI j)), (5, .int 1), (4, .int (nI p5)), (3, .int (nI y)), (2, .int (nI a)), (0, .ref o), (1, .int (nI n))]) hx hb dL_act_211 hl (by decide) rfl (fun ls hl => ?_)
          refine lv_aload_n hx hb dL_act_213 rfl (lv_at hl 7 rfl) ?_
          refine lW (As := []) (rest := []) ⟨hx, hb, hml, hown, hts⟩ (k_act l G o t r h g b ok  _) (cwV 0 hts gL_act_X3_act rfl rfl rfl (by decide +kernel) ⟨Nat.le_of_ble_eq_true rfl, Nat.le_of_ble_eq_true rfl⟩) hK hP hD hS hA rfl rfl hl.1 (Nat.le_of_ble_eq_true rfl) dL_act_214 ⟨Nat.le_of_ble_eq_true rfl, Nat.le_of_ble_eq_true rfl⟩ (fun r_2 k1 H locs hr_2 hP hD hS => ?_)
          obtain ⟨e_r, u, e_k⟩ := maden hu _ _ hr_2
          rw [← hT] at e_k
          rw [ev, hv] at e_r
          subst e_r
          subst e_k
          refine lv_istore (lv' := [(9, .int (nI j')), (8, .int 0), (7, .int (nI n0)), (6, .int (nI j)), (5, .int 1), (4, .int (nI p5)), (3, .int (nI y)), (2, .int (nI a)), (0, .ref o), (1, .int (nI n))]) hx hb dL_act_217 hl (by decide) rfl (fun ls hl => ?_)
          refine lv_iload hx hb dL_act_219 (lv_at hl 4 rfl) ?_
          refine lv_if_ne (tgt := 238) hx hb dL_act_221 (by decide) (fun _ => ?_) (fun c_9 => absurd c_9 (by decide))
          refine lv_iload hx hb dL_act_238 (lv_at hl 1 rfl) ?_
          refine lv_if_eq (tgt := 280) hx hb dL_act_240 (by decide) (fun _ => ?_) (fun c_9 => absurd (by decide) c_9)
          refine lv_iload hx hb dL_act_280 (lv_at hl 0 rfl) ?_
          refine lv_ldc (v := (-100006)) hx hb hown wk2 dL_act_282 ?_
          refine lv_icmp_ne (tgt := 304) hx hb dL_act_284 (by decide) (fun _ => ?_) (fun c_9 => absurd c_9 (nI_none (by omega)))
          refine lv_aload_n hx hb dL_act_304 rfl (lv_at hl 8 rfl) ?_
          refine lv_iload hx hb dL_act_305 (lv_at hl 3 rfl) ?_
          refine lv_iconst (v := 4) hx hb dL_act_307 (by decide) ?_
          refine lR (nI (nT k.1 - 1)) (As := [.int (nI j), .int 4]) (rest := []) ⟨hx, hb, hml, hown, hts⟩ (k_player l G o t r h g b (OKC_kp ok hnx hT1.1.t01 u) (nI j) 4) ((pl_at T1 hj0 4 (by decide)).trans g6) (cwV 2 hts gL_act_X3_player rfl rfl rfl (by decide +kernel) ⟨Nat.le_of_ble_eq_true rfl, Nat.le_of_ble_eq_true rfl⟩) hK hP rfl rfl hl.1 (Nat.le_of_ble_eq_true rfl) dL_act_308 ⟨Nat.le_of_ble_eq_true rfl, Nat.le_of_ble_eq_true rfl⟩ ?_
          refine lv_iconst (v := 1) hx hb dL_act_311 (by decide) ?_
          refine lv_icmp_le (tgt := 319) hx hb dL_act_312 (by decide) (fun c_9 => absurd c_9 (nI_ge (a := 1) (b := nT k.1 - 1) (by omega) (by omega))) (fun _ => ?_)
          refine lv_iconst (v := 1) hx hb dL_act_315 (by decide) ?_
          refine lv_goto (tgt := 321) hx hb dL_act_316 (by decide) ?_
          refine W.widen (k := 11) (n := 62) (Nat.le_of_ble_eq_true rfl) (Nat.le_of_ble_eq_true rfl) ?_
          exact hret _ _ _ _ _ _ (Or.inr ⟨rfl, u, T1, rfl, hT1.mono (by omega)⟩) hP hD hS dL_act_321
        refine lv_iload hx hb dL_act_177 (lv_at hl 2 rfl) ?_
        refine lv_if_eq (tgt := 210) hx hb dL_act_179 (by decide) (fun c_9 => absurd c_9 (by decide)) (fun _ => ?_)
        refine lv_iload hx hb dL_act_182 (lv_at hl 0 rfl) ?_
        refine lv_aload_n hx hb dL_act_184 rfl (lv_at hl 6 rfl) ?_
        refine lv_iload hx hb dL_act_185 (lv_at hl 1 rfl) ?_
        refine lv_iconst (v := 1) hx hb dL_act_187 (by decide) ?_
        refine lR (k.1 3 j) (As := [.int (nI j), .int 1]) (rest := [.int (nI n0)]) ⟨hx, hb, hml, hown, hts⟩ (k_player l G o t r h g b ok (nI j) 1) (pl_at k.1 hj 1 (by decide)) (cwV 2 hts gL_act_X3_player rfl rfl rfl (by decide +kernel) ⟨Nat.le_of_ble_eq_true rfl, Nat.le_of_ble_eq_true rfl⟩) hK hP rfl rfl hl.1 (Nat.le_of_ble_eq_true rfl) dL_act_188 ⟨Nat.le_of_ble_eq_true rfl, Nat.le_of_ble_eq_true rfl⟩ ?_
        refine lv_icmp_gt (tgt := 210) hx hb dL_act_191 (by decide) (fun c_1 => ?_) (fun c_1 => ?_)
        · exact J210 ls (lv_sub hl [0, 1, 2, 3, 4, 5, 6, 7] rfl)
        · refine lv_iload hx hb dL_act_194 (lv_at hl 0 rfl) ?_
          refine lv_aload_n hx hb dL_act_196 rfl (lv_at hl 6 rfl) ?_
          refine lv_iload hx hb dL_act_197 (lv_at hl 1 rfl) ?_
          refine lv_iconst (v := 0) hx hb dL_act_199 (by decide) ?_
          refine lR (k.1 2 j) (As := [.int (nI j), .int 0]) (rest := [.int (nI n0)]) ⟨hx, hb, hml, hown, hts⟩ (k_player l G o t r h g b ok (nI j) 0) (pl_at k.1 hj 0 (by decide)) (cwV 2 hts gL_act_X3_player rfl rfl rfl (by decide +kernel) ⟨Nat.le_of_ble_eq_true rfl, Nat.le_of_ble_eq_true rfl⟩) hK hP rfl rfl hl.1 (Nat.le_of_ble_eq_true rfl) dL_act_200 ⟨Nat.le_of_ble_eq_true rfl, Nat.le_of_ble_eq_true rfl⟩ ?_
          refine lv_icmp_gt (tgt := 210) hx hb dL_act_203 (by decide) (fun _ => ?_) (fun c_9 => absurd (show k.1 2 j < nI n0 from Classical.byContradiction fun q => q1 ⟨Int32.not_lt.mp c_1, Int32.not_lt.mp q⟩) c_9)
          exact J210 ls (lv_sub hl [0, 1, 2, 3, 4, 5, 6, 7] rfl)
      · skip
        refine lv_iload_n hx hb dL_act_0 rfl (lv_at hl 1 rfl) ?_
        refine lv_bipush (v := 16) hx hb dL_act_1 (by decide) ?_
        refine lv_irem hx hb dL_act_3 (by decide) ?_
        refine qtop (y := nI a) ha ?_
        refine lv_istore_n (lv' := [(2, .int (nI a)), (0, .ref o), (1, .int (nI n))]) hx hb dL_act_4 rfl hl (by decide) rfl (fun ls hl => ?_)
        refine lv_iload_n hx hb dL_act_5 rfl (lv_at hl 2 rfl) ?_
        refine lv_bipush (v := 16) hx hb dL_act_6 (by decide) ?_
        refine lv_idiv hx hb dL_act_8 (by decide) ?_
        refine qtop (y := nI y) hy ?_
        refine lv_istore_n (lv' := [(3, .int (nI y)), (2, .int (nI a)), (0, .ref o), (1, .int (nI n))]) hx hb dL_act_9 rfl hl (by decide) rfl (fun ls hl => ?_)
        refine lv_iload_n hx hb dL_act_10 rfl (lv_at hl 0 rfl) ?_
        refine lv_iconst (v := 5) hx hb dL_act_11 (by decide) ?_
        refine lv_irem hx hb dL_act_12 (by decide) ?_
        refine qtop (y := nI p5) hp5 ?_
        refine lv_istore (lv' := [(4, .int (nI p5)), (3, .int (nI y)), (2, .int (nI a)), (0, .ref o), (1, .int (nI n))]) hx hb dL_act_13 hl (by decide) rfl (fun ls hl => ?_)
        refine lv_aload_n hx hb dL_act_15 rfl (lv_at hl 3 rfl) ?_
        refine lv_iconst (v := 4) hx hb dL_act_16 (by decide) ?_
        refine lR (1) (As := [.int 4]) (rest := []) ⟨hx, hb, hml, hown, hts⟩ (k_count l G o t r h g b ok 4) ((cn4 ok.1 _ _).trans hu1) (cwV 1 hts gL_act_X3_count rfl rfl rfl (by decide +kernel) ⟨Nat.le_of_ble_eq_true rfl, Nat.le_of_ble_eq_true rfl⟩) hK hP rfl rfl hl.1 (Nat.le_of_ble_eq_true rfl) dL_act_17 ⟨Nat.le_of_ble_eq_true rfl, Nat.le_of_ble_eq_true rfl⟩ ?_
        refine lv_iconst (v := 1) hx hb dL_act_20 (by decide) ?_
        refine lv_icmp_ne (tgt := 28) hx hb dL_act_21 (by decide) (fun c_9 => absurd (by decide) c_9) (fun _ => ?_)
        refine lv_iconst (v := 1) hx hb dL_act_24 (by decide) ?_
        refine lv_goto (tgt := 29) hx hb dL_act_25 (by decide) ?_
        refine lv_istore (lv' := [(5, .int 1), (4, .int (nI p5)), (3, .int (nI y)), (2, .int (nI a)), (0, .ref o), (1, .int (nI n))]) hx hb dL_act_29 hl (by decide) rfl (fun ls hl => ?_)
        refine lv_iload_n hx hb dL_act_31 rfl (lv_at hl 3 rfl) ?_
        refine lv_iconst (v := 2) hx hb dL_act_32 (by decide) ?_
        refine lv_icmp_ge (tgt := 102) hx hb dL_act_33 (by decide) (fun _ => ?_) (fun c_9 => absurd (nI_le (a := 2) (by omega) (by omega)) c_9)
        refine lv_iload_n hx hb dL_act_102 rfl (lv_at hl 3 rfl) ?_
        refine lv_bipush (v := 6) hx hb dL_act_103 (by decide) ?_
        refine lv_icmp_ge (tgt := 145) hx hb dL_act_105 (by decide) (fun _ => ?_) (fun c_9 => absurd (nI_le (a := 6) (by omega) (by omega)) c_9)
        refine lv_iload_n hx hb dL_act_145 rfl (lv_at hl 3 rfl) ?_
        refine lv_bipush (v := 8) hx hb dL_act_146 (by decide) ?_
        refine lv_icmp_ge (tgt := 156) hx hb dL_act_148 (by decide) (fun _ => ?_) (fun c_9 => absurd (nI_le (a := 8) (by omega) (by omega)) c_9)
        refine lv_iload_n hx hb dL_act_156 rfl (lv_at hl 3 rfl) ?_
        refine lv_bipush (v := 11) hx hb dL_act_157 (by decide) ?_
        refine lv_icmp_ge (tgt := 322) hx hb dL_act_159 (by decide) (fun c_9 => absurd c_9 (nI_ge (b := 11) (by omega) (by decide))) (fun _ => ?_)
        refine lv_aload_n hx hb dL_act_162 rfl (lv_at hl 4 rfl) ?_
        refine lv_iconst (v := 5) hx hb dL_act_163 (by decide) ?_
        refine lR (nI j) (As := [.int 5]) (rest := []) ⟨hx, hb, hml, hown, hts⟩ (k_count l G o t r h g b ok 5) ((cn5 _ _ _).trans (ht)) (cwV 1 hts gL_act_X3_count rfl rfl rfl (by decide +kernel) ⟨Nat.le_of_ble_eq_true rfl, Nat.le_of_ble_eq_true rfl⟩) hK hP rfl rfl hl.1 (Nat.le_of_ble_eq_true rfl) dL_act_164 ⟨Nat.le_of_ble_eq_true rfl, Nat.le_of_ble_eq_true rfl⟩ ?_
        refine lv_istore (lv' := [(6, .int (nI j)), (5, .int 1), (4, .int (nI p5)), (3, .int (nI y)), (2, .int (nI a)), (0, .ref o), (1, .int (nI n))]) hx hb dL_act_167 hl (by decide) rfl (fun ls hl => ?_)
        refine lv_aload_n hx hb dL_act_169 rfl (lv_at hl 5 rfl) ?_
        refine lv_bipush (v := 7) hx hb dL_act_170 (by decide) ?_
        refine lR (nI n0) (As := [.int 7]) (rest := []) ⟨hx, hb, hml, hown, hts⟩ (k_count l G o t r h g b ok 7) ((cn7 _ _ _).trans (en)) (cwV 1 hts gL_act_X3_count rfl rfl rfl (by decide +kernel) ⟨Nat.le_of_ble_eq_true rfl, Nat.le_of_ble_eq_true rfl⟩) hK hP rfl rfl hl.1 (Nat.le_of_ble_eq_true rfl) dL_act_172 ⟨Nat.le_of_ble_eq_true rfl, Nat.le_of_ble_eq_true rfl⟩ ?_
        refine lv_istore (lv' := [(7, .int (nI n0)), (6, .int (nI j)), (5, .int 1), (4, .int (nI p5)), (3, .int (nI y)), (2, .int (nI a)), (0, .ref o), (1, .int (nI n))]) hx hb dL_act_175 hl (by decide) rfl (fun ls hl => ?_)
        have J210 : ∀ ls : Array Slot, lv_has ls 10 [(7, .int (nI n0)), (6, .int (nI j)), (5, .int 1), (4, .int (nI p5)), (3, .int (nI y)), (2, .int (nI a)), (0, .ref o), (1, .int (nI n))] → W p l e { frames := 7, cells := 11, slots := 62, locals := 149 } s m ([.ref o, .int (nI n)] : List Value).toArray below meth c s.heap [] (0) (0) Q (F0 m 210 ls []) := by
          intro ls hl
          refine lv_iconst (v := 0) hx hb dL_act_210 (by decide) ?_
          refine lv_istore (lv' := [(8, .int 0), (7, .int (nI n0)), (6, .int (nI j)), (5, .int 1), (4, .int (nI p5)), (3, .int (nI y)), (2, .int (nI a)), (0, .ref o), (1, .int (nI n))]) hx hb dL_act_211 hl (by decide) rfl (fun ls hl => ?_)
          refine lv_aload_n hx hb dL_act_213 rfl (lv_at hl 7 rfl) ?_
          refine lW (As := []) (rest := []) ⟨hx, hb, hml, hown, hts⟩ (k_act l G o t r h g b ok  _) (cwV 0 hts gL_act_X3_act rfl rfl rfl (by decide +kernel) ⟨Nat.le_of_ble_eq_true rfl, Nat.le_of_ble_eq_true rfl⟩) hK hP hD hS hA rfl rfl hl.1 (Nat.le_of_ble_eq_true rfl) dL_act_214 ⟨Nat.le_of_ble_eq_true rfl, Nat.le_of_ble_eq_true rfl⟩ (fun r_3 k1 H locs hr_3 hP hD hS => ?_)
          obtain ⟨e_r, u, e_k⟩ := maden hu _ _ hr_3
          rw [← hT] at e_k
          rw [ev, hv] at e_r
          subst e_r
          subst e_k
          refine lv_istore (lv' := [(9, .int (-100006)), (8, .int 0), (7, .int (nI n0)), (6, .int (nI j)), (5, .int 1), (4, .int (nI p5)), (3, .int (nI y)), (2, .int (nI a)), (0, .ref o), (1, .int (nI n))]) hx hb dL_act_217 hl (by decide) rfl (fun ls hl => ?_)
          refine lv_iload hx hb dL_act_219 (lv_at hl 4 rfl) ?_
          refine lv_if_ne (tgt := 238) hx hb dL_act_221 (by decide) (fun _ => ?_) (fun c_9 => absurd c_9 (by decide))
          refine lv_iload hx hb dL_act_238 (lv_at hl 1 rfl) ?_
          refine lv_if_eq (tgt := 280) hx hb dL_act_240 (by decide) (fun _ => ?_) (fun c_9 => absurd (by decide) c_9)
          refine lv_iload hx hb dL_act_280 (lv_at hl 0 rfl) ?_
          refine lv_ldc (v := (-100006)) hx hb hown wk2 dL_act_282 ?_
          refine lv_icmp_ne (tgt := 304) hx hb dL_act_284 (by decide) (fun c_9 => absurd rfl c_9) (fun _ => ?_)
          refine lv_aload_n hx hb dL_act_287 rfl (lv_at hl 8 rfl) ?_
          refine lv_iconst (v := 4) hx hb dL_act_288 (by decide) ?_
          refine lR (0) (As := [.int 4]) (rest := []) ⟨hx, hb, hml, hown, hts⟩ (k_count l G o t r h g b (OKC_kp ok hnx hT1.1.t01 u) 4) ((cn4 hT1.1.t01 _ _).trans g10) (cwV 1 hts gL_act_X3_count rfl rfl rfl (by decide +kernel) ⟨Nat.le_of_ble_eq_true rfl, Nat.le_of_ble_eq_true rfl⟩) hK hP rfl rfl hl.1 (Nat.le_of_ble_eq_true rfl) dL_act_289 ⟨Nat.le_of_ble_eq_true rfl, Nat.le_of_ble_eq_true rfl⟩ ?_
          refine lv_if_ne (tgt := 299) hx hb dL_act_292 (by decide) (fun c_9 => absurd (by decide) c_9) (fun _ => ?_)
          refine lv_iconst (v := 1) hx hb dL_act_295 (by decide) ?_
          refine lv_goto (tgt := 321) hx hb dL_act_296 (by decide) ?_
          refine W.widen (k := 11) (n := 62) (Nat.le_of_ble_eq_true rfl) (Nat.le_of_ble_eq_true rfl) ?_
          exact hret _ _ _ _ _ _ (Or.inr ⟨rfl, u, T1, rfl, hT1.mono (by omega)⟩) hP hD hS dL_act_321
        refine lv_iload hx hb dL_act_177 (lv_at hl 2 rfl) ?_
        refine lv_if_eq (tgt := 210) hx hb dL_act_179 (by decide) (fun c_9 => absurd c_9 (by decide)) (fun _ => ?_)
        refine lv_iload hx hb dL_act_182 (lv_at hl 0 rfl) ?_
        refine lv_aload_n hx hb dL_act_184 rfl (lv_at hl 6 rfl) ?_
        refine lv_iload hx hb dL_act_185 (lv_at hl 1 rfl) ?_
        refine lv_iconst (v := 1) hx hb dL_act_187 (by decide) ?_
        refine lR (k.1 3 j) (As := [.int (nI j), .int 1]) (rest := [.int (nI n0)]) ⟨hx, hb, hml, hown, hts⟩ (k_player l G o t r h g b ok (nI j) 1) (pl_at k.1 hj 1 (by decide)) (cwV 2 hts gL_act_X3_player rfl rfl rfl (by decide +kernel) ⟨Nat.le_of_ble_eq_true rfl, Nat.le_of_ble_eq_true rfl⟩) hK hP rfl rfl hl.1 (Nat.le_of_ble_eq_true rfl) dL_act_188 ⟨Nat.le_of_ble_eq_true rfl, Nat.le_of_ble_eq_true rfl⟩ ?_
        refine lv_icmp_gt (tgt := 210) hx hb dL_act_191 (by decide) (fun c_1 => ?_) (fun c_1 => ?_)
        · exact J210 ls (lv_sub hl [0, 1, 2, 3, 4, 5, 6, 7] rfl)
        · refine lv_iload hx hb dL_act_194 (lv_at hl 0 rfl) ?_
          refine lv_aload_n hx hb dL_act_196 rfl (lv_at hl 6 rfl) ?_
          refine lv_iload hx hb dL_act_197 (lv_at hl 1 rfl) ?_
          refine lv_iconst (v := 0) hx hb dL_act_199 (by decide) ?_
          refine lR (k.1 2 j) (As := [.int (nI j), .int 0]) (rest := [.int (nI n0)]) ⟨hx, hb, hml, hown, hts⟩ (k_player l G o t r h g b ok (nI j) 0) (pl_at k.1 hj 0 (by decide)) (cwV 2 hts gL_act_X3_player rfl rfl rfl (by decide +kernel) ⟨Nat.le_of_ble_eq_true rfl, Nat.le_of_ble_eq_true rfl⟩) hK hP rfl rfl hl.1 (Nat.le_of_ble_eq_true rfl) dL_act_200 ⟨Nat.le_of_ble_eq_true rfl, Nat.le_of_ble_eq_true rfl⟩ ?_
          refine lv_icmp_gt (tgt := 210) hx hb dL_act_203 (by decide) (fun _ => ?_) (fun c_9 => absurd (show k.1 2 j < nI n0 from Classical.byContradiction fun q => q1 ⟨Int32.not_lt.mp c_1, Int32.not_lt.mp q⟩) c_9)
          exact J210 ls (lv_sub hl [0, 1, 2, 3, 4, 5, 6, 7] rfl)
