/-! THE LAW, case by case (laid by wip/whole/gen/law.py) -/
/-- what holds all along -/
def lwC (p : Program) (s : State) (m : MethodId) (c : Code) (G : qG) (bs L : Nat) (xs : Nat → Int32) : Prop :=
  p.tables.exec = Jvm.exec ∧ c.code = cL_law ∧ c.maxLocals = 4 ∧ s.vm.findClass RL = some m.cls ∧ (∀ w ∈ wsL_law, w.before #[Value.ref bs] s = true) ∧ va_X bs L xs s s.heap ∧ bs < s.heap.size ∧ KK G s ∧ ZS (fun q : Nat => s.heap.size ≤ q) s ∧ L ≤ 1536
/-- the two objects agree, after j calls -/
def LG (G : qG) (s : State) (o : Nat) (t r h : Nat → Nat) (g : Nat) (b a : Nat → Nat) (j : Nat) (H : Heap) (locs : List Loc) : Prop :=
  ∃ (k : CS) (z sp pa sl sv pd tl : Nat → Int32) (n q : Nat) (spt tm : Int32), INV k z pa sl sv pd n q ∧ k.2.2.1 ≤ j ∧ va_P G.1 vwCl ((mw G a z sp pa sl sv pd tl (nI n) (nI q) spt tm ++ owc G o t r h g b k) ++ plc G k) H ∧ va_D (fun q : Nat => s.heap.size ≤ q) ((mw G a z sp pa sl sv pd tl (nI n) (nI q) spt tm ++ owc G o t r h g b k) ++ plc G k) ∧ va_S (fun q : Nat => s.heap.size ≤ q) s.heap H locs
theorem LG.of {G : qG} {s : State} {o : Nat} {t r h : Nat → Nat} {g : Nat} {b a : Nat → Nat} {j : Nat} {H : Heap} {locs : List Loc} {k : CS} {z sp pa sl sv pd tl : Nat → Int32} {n q : Nat} {spt tm : Int32} (hI : INV k z pa sl sv pd n q) (hn : k.2.2.1 ≤ j) (hP : va_P G.1 vwCl ((mw G a z sp pa sl sv pd tl (nI n) (nI q) spt tm ++ owc G o t r h g b k) ++ plc G k) H) (hD : va_D (fun q : Nat => s.heap.size ≤ q) ((mw G a z sp pa sl sv pd tl (nI n) (nI q) spt tm ++ owc G o t r h g b k) ++ plc G k)) (hS : va_S (fun q : Nat => s.heap.size ≤ q) s.heap H locs) : LG G s o t r h g b a j H locs := ⟨k, z, sp, pa, sl, sv, pd, tl, n, q, spt, tm, hI, hn, hP, hD, hS⟩
section LAWS
variable {p : Program} {l : Launch} {e : Env} {s : State} {m : MethodId} {below : List Frame} {meth : Method} {c : Code} {H : Heap} {locs : List Loc} {cells slots : Nat} {Q : State → Prop} {ls : Array Slot} {G : qG} {o : Nat} {t r h : Nat → Nat} {g : Nat} {b a : Nat → Nat} {bs L j : Nat} {xs : Nat → Int32}

set_option maxHeartbeats 4000000 in
set_option maxRecDepth 100000 in
theorem lw_set (C0 : lwC p s m c G bs L xs) (hj : 3 * j + 2 < L) (hG : LG G s o t r h g b a j H locs) (hl : lv_has ls 4 [(0, .ref bs), (1, .ref o), (2, .ref (a 0)), (3, .int (nI (3 * j)))]) (hro : cells + 11 ≤ 651086 ∧ slots + 62 ≤ 7148989)
    (kk : ∀ (H1 : Heap) (locs1 : List Loc), LG G s o t r h g b a (j + 1) H1 locs1 → W p l e room_1 s m #[Value.ref bs] below meth c H1 locs1 (cells + 11) (slots + 62) Q (F0 m 743 ls [])) : W p l e room_1 s m #[Value.ref bs] below meth c H locs cells slots Q (F0 m 148 ls []) := by
  obtain ⟨hx, hb, hml, hown, hts, hX, hbl, hK, hz, hL⟩ := C0
  obtain ⟨⟨T, U, nx, ln, ad, S, ps, pl⟩, z, sp, pa, sl, sv, pd, tl, n, q, spt, tm, hI, hnx, hP, hD, hS⟩ := hG
  obtain ⟨h01, hn6, hln, hps, hpl, hq60, hold, hR, hZ, hpsd, hplq, hlnn⟩ := hI.facts
  have hnx : nx ≤ j := hnx
  have hnx1 : nx < 100000 := by omega
  have hA : ∀ q : Nat, s.heap.size ≤ q → (fun q : Nat => s.heap.size ≤ q) q := fun _ h => h
  have hbA : ¬ (fun q : Nat => s.heap.size ≤ q) bs := Nat.not_le.mpr hbl
  have hf0 : cells + 0 ≤ room_1.cells ∧ slots + 0 ≤ room_1.slots := ⟨Nat.le_trans (Nat.add_le_add_left (Nat.zero_le 11) _) hro.1, Nat.le_trans (Nat.add_le_add_left (Nat.zero_le 62) _) hro.2⟩
  obtain ⟨e1, e2⟩ := q_set hI (xs (3 * j + 1)) (xs (3 * j + 2))
  refine lv_aload_n hx hb dL_law_148 rfl (lv_at hl 1 rfl) ?_
  refine lw_arg hx hb hX hbl hbA hS hl (kb := 0) (ki := 3) (d := 1) rfl rfl (by decide) (by omega) hL dL_law_149 dL_law_150 dL_law_151 dL_law_152 dL_law_153 ?_
  refine lw_arg hx hb hX hbl hbA hS hl (kb := 0) (ki := 3) (d := 2) rfl rfl (by decide) (by omega) hL dL_law_154 dL_law_155 dL_law_156 dL_law_157 dL_law_158 ?_
  refine lawXw (k := (T, U, nx, ln, ad, S, ps, pl)) (As := [.int (xs (3 * j + 1)), .int (xs (3 * j + 2))]) (rest := []) ⟨hx, hb, hml, hown, hts⟩ (c_X3_set l G o t r h g b T U h01 nx ln hnx1 hln ad S ps hps pl hpl (xs (3 * j + 1)) (xs (3 * j + 2)) H.size) PWz.blind (fun U hU hW hPc hDc hF => ⟨rfl, by rw [hU], by rw [hU]; exact hPc, hK.warm hW, hDc, hz.at hS hU hW hF⟩) (cwV 2 hts gL_law_X3_set rfl rfl rfl (by decide +kernel) ⟨Nat.le_of_ble_eq_true rfl, Nat.le_of_ble_eq_true rfl⟩) hK hP hD hS hA rfl rfl hl.1 (Nat.le_of_ble_eq_true rfl) dL_law_159 hro (fun r1 k1 H locs hr1 hP hD hS => ?_)
  obtain ⟨hr1, u, hk1⟩ := hr1
  refine lv_aload_n hx hb dL_law_162 rfl (lv_at hl 2 rfl) ?_
  refine lw_arg hx hb hX hbl hbA hS hl (kb := 0) (ki := 3) (d := 1) rfl rfl (by decide) (by omega) hL dL_law_163 dL_law_164 dL_law_165 dL_law_166 dL_law_167 ?_
  refine lw_arg hx hb hX hbl hbA hS hl (kb := 0) (ki := 3) (d := 2) rfl rfl (by decide) (by omega) hL dL_law_168 dL_law_169 dL_law_170 dL_law_171 dL_law_172 ?_
  refine lawMw (As := [.int (xs (3 * j + 1)), .int (xs (3 * j + 2))]) ⟨hx, hb, hml, hown, hts⟩ (c_X4_set l G a z sp pa sl sv pd tl (nI q) spt tm n hn6 (xs (3 * j + 1)) (xs (3 * j + 2)) H.size) (cwV 2 hts gL_law_X4_set rfl rfl rfl (by decide +kernel) ⟨Nat.le_of_ble_eq_true rfl, Nat.le_of_ble_eq_true rfl⟩) hK hP hD hS hA rfl rfl hl.1 (Nat.le_of_ble_eq_true rfl) dL_law_173 hro (fun r2 u2 H locs hr2 hP hD hS => ?_)
  refine lw_fin (c2 := cells + 11) (s2 := slots + 62) hx hb dL_law_176 (by decide) (by rw [hr1, hr2]; exact e1) (by omega) (by omega) ?_
  exact kk _ _ (LG.of (by rw [hk1]; exact e2 u) (by rw [hk1]; first | exact Nat.succ_le_succ hnx | exact Nat.le_succ_of_le hnx | (split <;> first | exact Nat.succ_le_succ hnx | exact Nat.le_succ_of_le hnx | exact Nat.le_succ_of_le (Nat.le_trans (Nat.sub_le _ _) hnx))) hP hD hS)
set_option maxHeartbeats 4000000 in
set_option maxRecDepth 100000 in
theorem lw_coins (C0 : lwC p s m c G bs L xs) (hj : 3 * j + 2 < L) (hG : LG G s o t r h g b a j H locs) (hl : lv_has ls 4 [(0, .ref bs), (1, .ref o), (2, .ref (a 0)), (3, .int (nI (3 * j)))]) (hro : cells + 11 ≤ 651086 ∧ slots + 62 ≤ 7148989)
    (kk : ∀ (H1 : Heap) (locs1 : List Loc), LG G s o t r h g b a (j + 1) H1 locs1 → W p l e room_1 s m #[Value.ref bs] below meth c H1 locs1 (cells + 11) (slots + 62) Q (F0 m 743 ls [])) : W p l e room_1 s m #[Value.ref bs] below meth c H locs cells slots Q (F0 m 181 ls []) := by
  obtain ⟨hx, hb, hml, hown, hts, hX, hbl, hK, hz, hL⟩ := C0
  obtain ⟨⟨T, U, nx, ln, ad, S, ps, pl⟩, z, sp, pa, sl, sv, pd, tl, n, q, spt, tm, hI, hnx, hP, hD, hS⟩ := hG
  obtain ⟨h01, hn6, hln, hps, hpl, hq60, hold, hR, hZ, hpsd, hplq, hlnn⟩ := hI.facts
  have hnx : nx ≤ j := hnx
  have hnx1 : nx < 100000 := by omega
  have hA : ∀ q : Nat, s.heap.size ≤ q → (fun q : Nat => s.heap.size ≤ q) q := fun _ h => h
  have hbA : ¬ (fun q : Nat => s.heap.size ≤ q) bs := Nat.not_le.mpr hbl
  have hf0 : cells + 0 ≤ room_1.cells ∧ slots + 0 ≤ room_1.slots := ⟨Nat.le_trans (Nat.add_le_add_left (Nat.zero_le 11) _) hro.1, Nat.le_trans (Nat.add_le_add_left (Nat.zero_le 62) _) hro.2⟩
  obtain ⟨e1, e2⟩ := q_coins hI (xs (3 * j + 1)) (xs (3 * j + 2))
  refine lv_aload_n hx hb dL_law_181 rfl (lv_at hl 1 rfl) ?_
  refine lw_arg hx hb hX hbl hbA hS hl (kb := 0) (ki := 3) (d := 1) rfl rfl (by decide) (by omega) hL dL_law_182 dL_law_183 dL_law_184 dL_law_185 dL_law_186 ?_
  refine lw_arg hx hb hX hbl hbA hS hl (kb := 0) (ki := 3) (d := 2) rfl rfl (by decide) (by omega) hL dL_law_187 dL_law_188 dL_law_189 dL_law_190 dL_law_191 ?_
  refine lawXw (k := (T, U, nx, ln, ad, S, ps, pl)) (As := [.int (xs (3 * j + 1)), .int (xs (3 * j + 2))]) (rest := []) ⟨hx, hb, hml, hown, hts⟩ (c_X3_coins l G o t r h g b T U h01 nx ln hnx1 hln ad S ps hps pl hpl (xs (3 * j + 1)) (xs (3 * j + 2)) H.size) PW.blind (fun U hU hW hPc hDc hF => ⟨rfl, by rw [hU], by rw [hU]; exact hPc, hK.warm hW, hDc⟩) (cwV 2 hts gL_law_X3_coins rfl rfl rfl (by decide +kernel) ⟨Nat.le_of_ble_eq_true rfl, Nat.le_of_ble_eq_true rfl⟩) hK hP hD hS hA rfl rfl hl.1 (Nat.le_of_ble_eq_true rfl) dL_law_192 hro (fun r1 k1 H locs hr1 hP hD hS => ?_)
  obtain ⟨hr1, u, hk1⟩ := hr1
  refine lv_aload_n hx hb dL_law_195 rfl (lv_at hl 2 rfl) ?_
  refine lw_arg hx hb hX hbl hbA hS hl (kb := 0) (ki := 3) (d := 1) rfl rfl (by decide) (by omega) hL dL_law_196 dL_law_197 dL_law_198 dL_law_199 dL_law_200 ?_
  refine lw_arg hx hb hX hbl hbA hS hl (kb := 0) (ki := 3) (d := 2) rfl rfl (by decide) (by omega) hL dL_law_201 dL_law_202 dL_law_203 dL_law_204 dL_law_205 ?_
  refine lawMw (As := [.int (xs (3 * j + 1)), .int (xs (3 * j + 2))]) ⟨hx, hb, hml, hown, hts⟩ (c_X4_coins l G a z sp pa sl sv pd tl (nI q) spt tm n hn6 (xs (3 * j + 1)) (xs (3 * j + 2)) H.size) (cwV 2 hts gL_law_X4_coins rfl rfl rfl (by decide +kernel) ⟨Nat.le_of_ble_eq_true rfl, Nat.le_of_ble_eq_true rfl⟩) hK hP hD hS hA rfl rfl hl.1 (Nat.le_of_ble_eq_true rfl) dL_law_206 hro (fun r2 u2 H locs hr2 hP hD hS => ?_)
  refine lw_fin (c2 := cells + 11) (s2 := slots + 62) hx hb dL_law_209 (by decide) (by rw [hr1, hr2]; exact e1) (by omega) (by omega) ?_
  exact kk _ _ (LG.of (by rw [hk1]; exact e2 u) (by rw [hk1]; first | exact Nat.succ_le_succ hnx | exact Nat.le_succ_of_le hnx | (split <;> first | exact Nat.succ_le_succ hnx | exact Nat.le_succ_of_le hnx | exact Nat.le_succ_of_le (Nat.le_trans (Nat.sub_le _ _) hnx))) hP hD hS)
set_option maxHeartbeats 4000000 in
set_option maxRecDepth 100000 in
theorem lw_limit (C0 : lwC p s m c G bs L xs) (hj : 3 * j + 2 < L) (hG : LG G s o t r h g b a j H locs) (hl : lv_has ls 4 [(0, .ref bs), (1, .ref o), (2, .ref (a 0)), (3, .int (nI (3 * j)))]) (hro : cells + 11 ≤ 651086 ∧ slots + 62 ≤ 7148989)
    (kk : ∀ (H1 : Heap) (locs1 : List Loc), LG G s o t r h g b a (j + 1) H1 locs1 → W p l e room_1 s m #[Value.ref bs] below meth c H1 locs1 (cells + 11) (slots + 62) Q (F0 m 743 ls [])) : W p l e room_1 s m #[Value.ref bs] below meth c H locs cells slots Q (F0 m 214 ls []) := by
  obtain ⟨hx, hb, hml, hown, hts, hX, hbl, hK, hz, hL⟩ := C0
  obtain ⟨⟨T, U, nx, ln, ad, S, ps, pl⟩, z, sp, pa, sl, sv, pd, tl, n, q, spt, tm, hI, hnx, hP, hD, hS⟩ := hG
  obtain ⟨h01, hn6, hln, hps, hpl, hq60, hold, hR, hZ, hpsd, hplq, hlnn⟩ := hI.facts
  have hnx : nx ≤ j := hnx
  have hnx1 : nx < 100000 := by omega
  have hA : ∀ q : Nat, s.heap.size ≤ q → (fun q : Nat => s.heap.size ≤ q) q := fun _ h => h
  have hbA : ¬ (fun q : Nat => s.heap.size ≤ q) bs := Nat.not_le.mpr hbl
  have hf0 : cells + 0 ≤ room_1.cells ∧ slots + 0 ≤ room_1.slots := ⟨Nat.le_trans (Nat.add_le_add_left (Nat.zero_le 11) _) hro.1, Nat.le_trans (Nat.add_le_add_left (Nat.zero_le 62) _) hro.2⟩
  obtain ⟨e1, e2⟩ := q_limit hI (xs (3 * j + 1)) (xs (3 * j + 2))
  refine lv_aload_n hx hb dL_law_214 rfl (lv_at hl 1 rfl) ?_
  refine lw_arg hx hb hX hbl hbA hS hl (kb := 0) (ki := 3) (d := 1) rfl rfl (by decide) (by omega) hL dL_law_215 dL_law_216 dL_law_217 dL_law_218 dL_law_219 ?_
  refine lw_arg hx hb hX hbl hbA hS hl (kb := 0) (ki := 3) (d := 2) rfl rfl (by decide) (by omega) hL dL_law_220 dL_law_221 dL_law_222 dL_law_223 dL_law_224 ?_
  refine lawXw (k := (T, U, nx, ln, ad, S, ps, pl)) (As := [.int (xs (3 * j + 1)), .int (xs (3 * j + 2))]) (rest := []) ⟨hx, hb, hml, hown, hts⟩ (c_X3_limit l G o t r h g b T U h01 nx ln hnx1 hln ad S ps hps pl hpl (xs (3 * j + 1)) (xs (3 * j + 2)) H.size) PW.blind (fun U hU hW hPc hDc hF => ⟨rfl, by rw [hU], by rw [hU]; exact hPc, hK.warm hW, hDc⟩) (cwV 2 hts gL_law_X3_limit rfl rfl rfl (by decide +kernel) ⟨Nat.le_of_ble_eq_true rfl, Nat.le_of_ble_eq_true rfl⟩) hK hP hD hS hA rfl rfl hl.1 (Nat.le_of_ble_eq_true rfl) dL_law_225 hro (fun r1 k1 H locs hr1 hP hD hS => ?_)
  obtain ⟨hr1, u, hk1⟩ := hr1
  refine lv_aload_n hx hb dL_law_228 rfl (lv_at hl 2 rfl) ?_
  refine lw_arg hx hb hX hbl hbA hS hl (kb := 0) (ki := 3) (d := 1) rfl rfl (by decide) (by omega) hL dL_law_229 dL_law_230 dL_law_231 dL_law_232 dL_law_233 ?_
  refine lw_arg hx hb hX hbl hbA hS hl (kb := 0) (ki := 3) (d := 2) rfl rfl (by decide) (by omega) hL dL_law_234 dL_law_235 dL_law_236 dL_law_237 dL_law_238 ?_
  refine lawMw (As := [.int (xs (3 * j + 1)), .int (xs (3 * j + 2))]) ⟨hx, hb, hml, hown, hts⟩ (c_X4_limit l G a z sp pa sl sv pd tl (nI q) spt tm n hn6 (xs (3 * j + 1)) (xs (3 * j + 2)) H.size) (cwV 2 hts gL_law_X4_limit rfl rfl rfl (by decide +kernel) ⟨Nat.le_of_ble_eq_true rfl, Nat.le_of_ble_eq_true rfl⟩) hK hP hD hS hA rfl rfl hl.1 (Nat.le_of_ble_eq_true rfl) dL_law_239 hro (fun r2 u2 H locs hr2 hP hD hS => ?_)
  refine lw_fin (c2 := cells + 11) (s2 := slots + 62) hx hb dL_law_242 (by decide) (by rw [hr1, hr2]; exact e1) (by omega) (by omega) ?_
  exact kk _ _ (LG.of (by rw [hk1]; exact e2 u) (by rw [hk1]; first | exact Nat.succ_le_succ hnx | exact Nat.le_succ_of_le hnx | (split <;> first | exact Nat.succ_le_succ hnx | exact Nat.le_succ_of_le hnx | exact Nat.le_succ_of_le (Nat.le_trans (Nat.sub_le _ _) hnx))) hP hD hS)
set_option maxHeartbeats 4000000 in
set_option maxRecDepth 100000 in
theorem lw_prize (C0 : lwC p s m c G bs L xs) (hj : 3 * j + 2 < L) (hG : LG G s o t r h g b a j H locs) (hl : lv_has ls 4 [(0, .ref bs), (1, .ref o), (2, .ref (a 0)), (3, .int (nI (3 * j)))]) (hro : cells + 11 ≤ 651086 ∧ slots + 62 ≤ 7148989)
    (kk : ∀ (H1 : Heap) (locs1 : List Loc), LG G s o t r h g b a (j + 1) H1 locs1 → W p l e room_1 s m #[Value.ref bs] below meth c H1 locs1 (cells + 11) (slots + 62) Q (F0 m 743 ls [])) : W p l e room_1 s m #[Value.ref bs] below meth c H locs cells slots Q (F0 m 247 ls []) := by
  obtain ⟨hx, hb, hml, hown, hts, hX, hbl, hK, hz, hL⟩ := C0
  obtain ⟨⟨T, U, nx, ln, ad, S, ps, pl⟩, z, sp, pa, sl, sv, pd, tl, n, q, spt, tm, hI, hnx, hP, hD, hS⟩ := hG
  obtain ⟨h01, hn6, hln, hps, hpl, hq60, hold, hR, hZ, hpsd, hplq, hlnn⟩ := hI.facts
  have hnx : nx ≤ j := hnx
  have hnx1 : nx < 100000 := by omega
  have hA : ∀ q : Nat, s.heap.size ≤ q → (fun q : Nat => s.heap.size ≤ q) q := fun _ h => h
  have hbA : ¬ (fun q : Nat => s.heap.size ≤ q) bs := Nat.not_le.mpr hbl
  have hf0 : cells + 0 ≤ room_1.cells ∧ slots + 0 ≤ room_1.slots := ⟨Nat.le_trans (Nat.add_le_add_left (Nat.zero_le 11) _) hro.1, Nat.le_trans (Nat.add_le_add_left (Nat.zero_le 62) _) hro.2⟩
  obtain ⟨e1, e2⟩ := q_prize hI (xs (3 * j + 1)) (xs (3 * j + 2))
  refine lv_aload_n hx hb dL_law_247 rfl (lv_at hl 1 rfl) ?_
  refine lw_arg hx hb hX hbl hbA hS hl (kb := 0) (ki := 3) (d := 1) rfl rfl (by decide) (by omega) hL dL_law_248 dL_law_249 dL_law_250 dL_law_251 dL_law_252 ?_
  refine lw_arg hx hb hX hbl hbA hS hl (kb := 0) (ki := 3) (d := 2) rfl rfl (by decide) (by omega) hL dL_law_253 dL_law_254 dL_law_255 dL_law_256 dL_law_257 ?_
  refine lawXw (k := (T, U, nx, ln, ad, S, ps, pl)) (As := [.int (xs (3 * j + 1)), .int (xs (3 * j + 2))]) (rest := []) ⟨hx, hb, hml, hown, hts⟩ (c_X3_prize l G o t r h g b T U h01 nx ln hnx1 hln ad S ps hps pl hpl (xs (3 * j + 1)) (xs (3 * j + 2)) H.size) PW.blind (fun U hU hW hPc hDc hF => ⟨rfl, by rw [hU], by rw [hU]; exact hPc, hK.warm hW, hDc⟩) (cwV 2 hts gL_law_X3_prize rfl rfl rfl (by decide +kernel) ⟨Nat.le_of_ble_eq_true rfl, Nat.le_of_ble_eq_true rfl⟩) hK hP hD hS hA rfl rfl hl.1 (Nat.le_of_ble_eq_true rfl) dL_law_258 hro (fun r1 k1 H locs hr1 hP hD hS => ?_)
  obtain ⟨hr1, u, hk1⟩ := hr1
  refine lv_aload_n hx hb dL_law_261 rfl (lv_at hl 2 rfl) ?_
  refine lw_arg hx hb hX hbl hbA hS hl (kb := 0) (ki := 3) (d := 1) rfl rfl (by decide) (by omega) hL dL_law_262 dL_law_263 dL_law_264 dL_law_265 dL_law_266 ?_
  refine lw_arg hx hb hX hbl hbA hS hl (kb := 0) (ki := 3) (d := 2) rfl rfl (by decide) (by omega) hL dL_law_267 dL_law_268 dL_law_269 dL_law_270 dL_law_271 ?_
  refine lawMw (As := [.int (xs (3 * j + 1)), .int (xs (3 * j + 2))]) ⟨hx, hb, hml, hown, hts⟩ (c_X4_prize l G a z sp pa sl sv pd tl (nI q) spt tm n hn6 (xs (3 * j + 1)) (xs (3 * j + 2)) H.size) (cwV 2 hts gL_law_X4_prize rfl rfl rfl (by decide +kernel) ⟨Nat.le_of_ble_eq_true rfl, Nat.le_of_ble_eq_true rfl⟩) hK hP hD hS hA rfl rfl hl.1 (Nat.le_of_ble_eq_true rfl) dL_law_272 hro (fun r2 u2 H locs hr2 hP hD hS => ?_)
  refine lw_fin (c2 := cells + 11) (s2 := slots + 62) hx hb dL_law_275 (by decide) (by rw [hr1, hr2]; exact e1) (by omega) (by omega) ?_
  exact kk _ _ (LG.of (by rw [hk1]; exact e2 u) (by rw [hk1]; first | exact Nat.succ_le_succ hnx | exact Nat.le_succ_of_le hnx | (split <;> first | exact Nat.succ_le_succ hnx | exact Nat.le_succ_of_le hnx | exact Nat.le_succ_of_le (Nat.le_trans (Nat.sub_le _ _) hnx))) hP hD hS)
set_option maxHeartbeats 4000000 in
set_option maxRecDepth 100000 in
theorem lw_begin (C0 : lwC p s m c G bs L xs) (hj : 3 * j + 2 < L) (hG : LG G s o t r h g b a j H locs) (hl : lv_has ls 4 [(0, .ref bs), (1, .ref o), (2, .ref (a 0)), (3, .int (nI (3 * j)))]) (hro : cells + 11 ≤ 651086 ∧ slots + 62 ≤ 7148989)
    (kk : ∀ (H1 : Heap) (locs1 : List Loc), LG G s o t r h g b a (j + 1) H1 locs1 → W p l e room_1 s m #[Value.ref bs] below meth c H1 locs1 (cells + 11) (slots + 62) Q (F0 m 743 ls [])) : W p l e room_1 s m #[Value.ref bs] below meth c H locs cells slots Q (F0 m 280 ls []) := by
  obtain ⟨hx, hb, hml, hown, hts, hX, hbl, hK, hz, hL⟩ := C0
  obtain ⟨⟨T, U, nx, ln, ad, S, ps, pl⟩, z, sp, pa, sl, sv, pd, tl, n, q, spt, tm, hI, hnx, hP, hD, hS⟩ := hG
  obtain ⟨h01, hn6, hln, hps, hpl, hq60, hold, hR, hZ, hpsd, hplq, hlnn⟩ := hI.facts
  have hnx : nx ≤ j := hnx
  have hnx1 : nx < 100000 := by omega
  have hA : ∀ q : Nat, s.heap.size ≤ q → (fun q : Nat => s.heap.size ≤ q) q := fun _ h => h
  have hbA : ¬ (fun q : Nat => s.heap.size ≤ q) bs := Nat.not_le.mpr hbl
  have hf0 : cells + 0 ≤ room_1.cells ∧ slots + 0 ≤ room_1.slots := ⟨Nat.le_trans (Nat.add_le_add_left (Nat.zero_le 11) _) hro.1, Nat.le_trans (Nat.add_le_add_left (Nat.zero_le 62) _) hro.2⟩
  obtain ⟨e1, e2⟩ := q_begin hI
  refine lv_aload_n hx hb dL_law_280 rfl (lv_at hl 1 rfl) ?_
  refine lawXw (k := (T, U, nx, ln, ad, S, ps, pl)) (As := []) (rest := []) ⟨hx, hb, hml, hown, hts⟩ (c_X3_begin l G o t r h g b T U h01 nx ln hnx1 hln ad S ps hps pl hpl H.size) PW.blind (fun U hU hW hPc hDc hF => ⟨rfl, by rw [hU], by rw [hU]; exact hPc, hK.warm hW, hDc⟩) (cwV 0 hts gL_law_X3_begin rfl rfl rfl (by decide +kernel) ⟨Nat.le_of_ble_eq_true rfl, Nat.le_of_ble_eq_true rfl⟩) hK hP hD hS hA rfl rfl hl.1 (Nat.le_of_ble_eq_true rfl) dL_law_281 hro (fun r1 k1 H locs hr1 hP hD hS => ?_)
  obtain ⟨hr1, u, hk1⟩ := hr1
  refine lv_aload_n hx hb dL_law_284 rfl (lv_at hl 2 rfl) ?_
  refine lawMw (As := []) ⟨hx, hb, hml, hown, hts⟩ (c_X4_begin l G a z sp pa sl sv pd tl (nI q) spt tm n hn6 H.size) (cwV 0 hts gL_law_X4_begin rfl rfl rfl (by decide +kernel) ⟨Nat.le_of_ble_eq_true rfl, Nat.le_of_ble_eq_true rfl⟩) hK hP hD hS hA rfl rfl hl.1 (Nat.le_of_ble_eq_true rfl) dL_law_285 hro (fun r2 u2 H locs hr2 hP hD hS => ?_)
  refine lw_fin (c2 := cells + 11) (s2 := slots + 62) hx hb dL_law_288 (by decide) (by rw [hr1, hr2]; exact e1) (by omega) (by omega) ?_
  exact kk _ _ (LG.of (by rw [hk1]; exact e2 u) (by rw [hk1]; first | exact Nat.succ_le_succ hnx | exact Nat.le_succ_of_le hnx | (split <;> first | exact Nat.succ_le_succ hnx | exact Nat.le_succ_of_le hnx | exact Nat.le_succ_of_le (Nat.le_trans (Nat.sub_le _ _) hnx))) hP hD hS)
set_option maxHeartbeats 4000000 in
set_option maxRecDepth 100000 in
theorem lw_bid (C0 : lwC p s m c G bs L xs) (hj : 3 * j + 2 < L) (hG : LG G s o t r h g b a j H locs) (hl : lv_has ls 4 [(0, .ref bs), (1, .ref o), (2, .ref (a 0)), (3, .int (nI (3 * j)))]) (hro : cells + 11 ≤ 651086 ∧ slots + 62 ≤ 7148989)
    (kk : ∀ (H1 : Heap) (locs1 : List Loc), LG G s o t r h g b a (j + 1) H1 locs1 → W p l e room_1 s m #[Value.ref bs] below meth c H1 locs1 (cells + 11) (slots + 62) Q (F0 m 743 ls [])) : W p l e room_1 s m #[Value.ref bs] below meth c H locs cells slots Q (F0 m 293 ls []) := by
  obtain ⟨hx, hb, hml, hown, hts, hX, hbl, hK, hz, hL⟩ := C0
  obtain ⟨⟨T, U, nx, ln, ad, S, ps, pl⟩, z, sp, pa, sl, sv, pd, tl, n, q, spt, tm, hI, hnx, hP, hD, hS⟩ := hG
  obtain ⟨h01, hn6, hln, hps, hpl, hq60, hold, hR, hZ, hpsd, hplq, hlnn⟩ := hI.facts
  have hnx : nx ≤ j := hnx
  have hnx1 : nx < 100000 := by omega
  have hA : ∀ q : Nat, s.heap.size ≤ q → (fun q : Nat => s.heap.size ≤ q) q := fun _ h => h
  have hbA : ¬ (fun q : Nat => s.heap.size ≤ q) bs := Nat.not_le.mpr hbl
  have hf0 : cells + 0 ≤ room_1.cells ∧ slots + 0 ≤ room_1.slots := ⟨Nat.le_trans (Nat.add_le_add_left (Nat.zero_le 11) _) hro.1, Nat.le_trans (Nat.add_le_add_left (Nat.zero_le 62) _) hro.2⟩
  obtain ⟨hok, e1, e2⟩ := q_bid hI (xs (3 * j + 1))
  refine lv_aload_n hx hb dL_law_293 rfl (lv_at hl 1 rfl) ?_
  refine lw_arg hx hb hX hbl hbA hS hl (kb := 0) (ki := 3) (d := 1) rfl rfl (by decide) (by omega) hL dL_law_294 dL_law_295 dL_law_296 dL_law_297 dL_law_298 ?_
  refine lawXw (k := (T, U, nx, ln, ad, S, ps, pl)) (As := [.int (xs (3 * j + 1))]) (rest := []) ⟨hx, hb, hml, hown, hts⟩ (c_X3_bid l G o t r h g b T U h01 nx ln hnx1 hln ad S ps hps pl hpl (xs (3 * j + 1)) H.size) PW.blind (fun U hU hW hPc hDc hF => ⟨rfl, by rw [hU], by rw [hU]; exact hPc, hK.warm hW, hDc⟩) (cwV 1 hts gL_law_X3_bid rfl rfl rfl (by decide +kernel) ⟨Nat.le_of_ble_eq_true rfl, Nat.le_of_ble_eq_true rfl⟩) hK hP hD hS hA rfl rfl hl.1 (Nat.le_of_ble_eq_true rfl) dL_law_299 hro (fun r1 k1 H locs hr1 hP hD hS => ?_)
  obtain ⟨hr1, u, hk1⟩ := hr1
  refine lv_aload_n hx hb dL_law_302 rfl (lv_at hl 2 rfl) ?_
  refine lw_arg hx hb hX hbl hbA hS hl (kb := 0) (ki := 3) (d := 1) rfl rfl (by decide) (by omega) hL dL_law_303 dL_law_304 dL_law_305 dL_law_306 dL_law_307 ?_
  refine lawMw (As := [.int (xs (3 * j + 1))]) ⟨hx, hb, hml, hown, hts⟩ (c_X4_bid l G a z sp pa sl sv pd tl (nI q) spt tm n hn6 (xs (3 * j + 1)) (fun q4 => by obtain ⟨-, -, -, ⟨j5, hj5, e5, -⟩, -⟩ := hZ.runs (by rw [q4]; exact lz_o); rw [e5]; exact vp_in_nI hj5 (by decide)) (fun q4 => hok q4 (mbZ_in hZ q4)) H.size) (cwV 1 hts gL_law_X4_bid rfl rfl rfl (by decide +kernel) ⟨Nat.le_of_ble_eq_true rfl, Nat.le_of_ble_eq_true rfl⟩) hK hP hD hS hA rfl rfl hl.1 (Nat.le_of_ble_eq_true rfl) dL_law_308 hro (fun r2 u2 H locs hr2 hP hD hS => ?_)
  refine lw_fin (c2 := cells + 11) (s2 := slots + 62) hx hb dL_law_311 (by decide) (by rw [hr1, hr2]; exact e1) (by omega) (by omega) ?_
  exact kk _ _ (LG.of (by rw [hk1]; exact e2 u) (by rw [hk1]; first | exact Nat.succ_le_succ hnx | exact Nat.le_succ_of_le hnx | (split <;> first | exact Nat.succ_le_succ hnx | exact Nat.le_succ_of_le hnx | exact Nat.le_succ_of_le (Nat.le_trans (Nat.sub_le _ _) hnx))) hP hD hS)
set_option maxHeartbeats 4000000 in
set_option maxRecDepth 100000 in
theorem lw_drop (C0 : lwC p s m c G bs L xs) (hj : 3 * j + 2 < L) (hG : LG G s o t r h g b a j H locs) (hl : lv_has ls 4 [(0, .ref bs), (1, .ref o), (2, .ref (a 0)), (3, .int (nI (3 * j)))]) (hro : cells + 11 ≤ 651086 ∧ slots + 62 ≤ 7148989)
    (kk : ∀ (H1 : Heap) (locs1 : List Loc), LG G s o t r h g b a (j + 1) H1 locs1 → W p l e room_1 s m #[Value.ref bs] below meth c H1 locs1 (cells + 11) (slots + 62) Q (F0 m 743 ls [])) : W p l e room_1 s m #[Value.ref bs] below meth c H locs cells slots Q (F0 m 316 ls []) := by
  obtain ⟨hx, hb, hml, hown, hts, hX, hbl, hK, hz, hL⟩ := C0
  obtain ⟨⟨T, U, nx, ln, ad, S, ps, pl⟩, z, sp, pa, sl, sv, pd, tl, n, q, spt, tm, hI, hnx, hP, hD, hS⟩ := hG
  obtain ⟨h01, hn6, hln, hps, hpl, hq60, hold, hR, hZ, hpsd, hplq, hlnn⟩ := hI.facts
  have hnx : nx ≤ j := hnx
  have hnx1 : nx < 100000 := by omega
  have hA : ∀ q : Nat, s.heap.size ≤ q → (fun q : Nat => s.heap.size ≤ q) q := fun _ h => h
  have hbA : ¬ (fun q : Nat => s.heap.size ≤ q) bs := Nat.not_le.mpr hbl
  have hf0 : cells + 0 ≤ room_1.cells ∧ slots + 0 ≤ room_1.slots := ⟨Nat.le_trans (Nat.add_le_add_left (Nat.zero_le 11) _) hro.1, Nat.le_trans (Nat.add_le_add_left (Nat.zero_le 62) _) hro.2⟩
  obtain ⟨hok, e1, e2⟩ := q_drop hI
  refine lv_aload_n hx hb dL_law_316 rfl (lv_at hl 1 rfl) ?_
  refine lawXw (k := (T, U, nx, ln, ad, S, ps, pl)) (As := []) (rest := []) ⟨hx, hb, hml, hown, hts⟩ (c_X3_drop l G o t r h g b T U h01 nx ln hnx1 hln ad S ps hps pl hpl H.size) PW.blind (fun U hU hW hPc hDc hF => ⟨rfl, by rw [hU], by rw [hU]; exact hPc, hK.warm hW, hDc⟩) (cwV 0 hts gL_law_X3_drop rfl rfl rfl (by decide +kernel) ⟨Nat.le_of_ble_eq_true rfl, Nat.le_of_ble_eq_true rfl⟩) hK hP hD hS hA rfl rfl hl.1 (Nat.le_of_ble_eq_true rfl) dL_law_317 hro (fun r1 k1 H locs hr1 hP hD hS => ?_)
  obtain ⟨hr1, u, hk1⟩ := hr1
  refine lv_aload_n hx hb dL_law_320 rfl (lv_at hl 2 rfl) ?_
  refine lawMw (As := []) ⟨hx, hb, hml, hown, hts⟩ (c_X4_drop l G a z sp pa sl sv pd tl (nI q) spt tm n hn6 hok H.size) (cwV 0 hts gL_law_X4_drop rfl rfl rfl (by decide +kernel) ⟨Nat.le_of_ble_eq_true rfl, Nat.le_of_ble_eq_true rfl⟩) hK hP hD hS hA rfl rfl hl.1 (Nat.le_of_ble_eq_true rfl) dL_law_321 hro (fun r2 u2 H locs hr2 hP hD hS => ?_)
  refine lw_fin (c2 := cells + 11) (s2 := slots + 62) hx hb dL_law_324 (by decide) (by rw [hr1, hr2]; exact e1) (by omega) (by omega) ?_
  exact kk _ _ (LG.of (by rw [hk1]; exact e2 u) (by rw [hk1]; first | exact Nat.succ_le_succ hnx | exact Nat.le_succ_of_le hnx | (split <;> first | exact Nat.succ_le_succ hnx | exact Nat.le_succ_of_le hnx | exact Nat.le_succ_of_le (Nat.le_trans (Nat.sub_le _ _) hnx))) hP hD hS)
set_option maxHeartbeats 4000000 in
set_option maxRecDepth 100000 in
theorem lw_act (C0 : lwC p s m c G bs L xs) (hj : 3 * j + 2 < L) (hG : LG G s o t r h g b a j H locs) (hl : lv_has ls 4 [(0, .ref bs), (1, .ref o), (2, .ref (a 0)), (3, .int (nI (3 * j)))]) (hro : cells + 11 ≤ 651086 ∧ slots + 62 ≤ 7148989)
    (kk : ∀ (H1 : Heap) (locs1 : List Loc), LG G s o t r h g b a (j + 1) H1 locs1 → W p l e room_1 s m #[Value.ref bs] below meth c H1 locs1 (cells + 11) (slots + 62) Q (F0 m 743 ls [])) : W p l e room_1 s m #[Value.ref bs] below meth c H locs cells slots Q (F0 m 329 ls []) := by
  obtain ⟨hx, hb, hml, hown, hts, hX, hbl, hK, hz, hL⟩ := C0
  obtain ⟨⟨T, U, nx, ln, ad, S, ps, pl⟩, z, sp, pa, sl, sv, pd, tl, n, q, spt, tm, hI, hnx, hP, hD, hS⟩ := hG
  obtain ⟨h01, hn6, hln, hps, hpl, hq60, hold, hR, hZ, hpsd, hplq, hlnn⟩ := hI.facts
  have hnx : nx ≤ j := hnx
  have hnx1 : nx < 100000 := by omega
  have hA : ∀ q : Nat, s.heap.size ≤ q → (fun q : Nat => s.heap.size ≤ q) q := fun _ h => h
  have hbA : ¬ (fun q : Nat => s.heap.size ≤ q) bs := Nat.not_le.mpr hbl
  have hf0 : cells + 0 ≤ room_1.cells ∧ slots + 0 ≤ room_1.slots := ⟨Nat.le_trans (Nat.add_le_add_left (Nat.zero_le 11) _) hro.1, Nat.le_trans (Nat.add_le_add_left (Nat.zero_le 62) _) hro.2⟩
  obtain ⟨hok, e1, e2⟩ := q_act hI
  refine lv_aload_n hx hb dL_law_329 rfl (lv_at hl 1 rfl) ?_
  refine lawXw (k := (T, U, nx, ln, ad, S, ps, pl)) (As := []) (rest := []) ⟨hx, hb, hml, hown, hts⟩ (c_X3_act l G o t r h g b T U h01 nx ln hnx1 hln ad S ps hps pl hpl H.size) PW.blind (fun U hU hW hPc hDc hF => ⟨rfl, by rw [hU], by rw [hU]; exact hPc, hK.warm hW, hDc⟩) (cwV 0 hts gL_law_X3_act rfl rfl rfl (by decide +kernel) ⟨Nat.le_of_ble_eq_true rfl, Nat.le_of_ble_eq_true rfl⟩) hK hP hD hS hA rfl rfl hl.1 (Nat.le_of_ble_eq_true rfl) dL_law_330 hro (fun r1 k1 H locs hr1 hP hD hS => ?_)
  obtain ⟨hr1, u, hk1⟩ := hr1
  refine lv_aload_n hx hb dL_law_333 rfl (lv_at hl 2 rfl) ?_
  refine lawMw (As := []) ⟨hx, hb, hml, hown, hts⟩ (c_X4_act l G a z sp pa sl sv pd tl (nI q) spt tm n hn6 hok H.size) (cwV 0 hts gL_law_X4_act rfl rfl rfl (by decide +kernel) ⟨Nat.le_of_ble_eq_true rfl, Nat.le_of_ble_eq_true rfl⟩) hK hP hD hS hA rfl rfl hl.1 (Nat.le_of_ble_eq_true rfl) dL_law_334 hro (fun r2 u2 H locs hr2 hP hD hS => ?_)
  refine lw_fin (c2 := cells + 11) (s2 := slots + 62) hx hb dL_law_337 (by decide) (by rw [hr1, hr2]; exact e1) (by omega) (by omega) ?_
  exact kk _ _ (LG.of (by rw [hk1]; exact e2 u) (by rw [hk1]; first | exact Nat.succ_le_succ hnx | exact Nat.le_succ_of_le hnx | (split <;> first | exact Nat.succ_le_succ hnx | exact Nat.le_succ_of_le hnx | exact Nat.le_succ_of_le (Nat.le_trans (Nat.sub_le _ _) hnx))) hP hD hS)
set_option maxHeartbeats 4000000 in
set_option maxRecDepth 100000 in
theorem lw_finish (C0 : lwC p s m c G bs L xs) (hj : 3 * j + 2 < L) (hG : LG G s o t r h g b a j H locs) (hl : lv_has ls 4 [(0, .ref bs), (1, .ref o), (2, .ref (a 0)), (3, .int (nI (3 * j)))]) (hro : cells + 11 ≤ 651086 ∧ slots + 62 ≤ 7148989)
    (kk : ∀ (H1 : Heap) (locs1 : List Loc), LG G s o t r h g b a (j + 1) H1 locs1 → W p l e room_1 s m #[Value.ref bs] below meth c H1 locs1 (cells + 11) (slots + 62) Q (F0 m 743 ls [])) : W p l e room_1 s m #[Value.ref bs] below meth c H locs cells slots Q (F0 m 342 ls []) := by
  obtain ⟨hx, hb, hml, hown, hts, hX, hbl, hK, hz, hL⟩ := C0
  obtain ⟨⟨T, U, nx, ln, ad, S, ps, pl⟩, z, sp, pa, sl, sv, pd, tl, n, q, spt, tm, hI, hnx, hP, hD, hS⟩ := hG
  obtain ⟨h01, hn6, hln, hps, hpl, hq60, hold, hR, hZ, hpsd, hplq, hlnn⟩ := hI.facts
  have hnx : nx ≤ j := hnx
  have hnx1 : nx < 100000 := by omega
  have hA : ∀ q : Nat, s.heap.size ≤ q → (fun q : Nat => s.heap.size ≤ q) q := fun _ h => h
  have hbA : ¬ (fun q : Nat => s.heap.size ≤ q) bs := Nat.not_le.mpr hbl
  have hf0 : cells + 0 ≤ room_1.cells ∧ slots + 0 ≤ room_1.slots := ⟨Nat.le_trans (Nat.add_le_add_left (Nat.zero_le 11) _) hro.1, Nat.le_trans (Nat.add_le_add_left (Nat.zero_le 62) _) hro.2⟩
  obtain ⟨hok, e1, e2⟩ := q_finish hI
  refine lv_aload_n hx hb dL_law_342 rfl (lv_at hl 1 rfl) ?_
  refine lawXw (k := (T, U, nx, ln, ad, S, ps, pl)) (As := []) (rest := []) ⟨hx, hb, hml, hown, hts⟩ (c_X3_finish l G o t r h g b T U h01 nx ln hnx1 hln ad S ps hps pl hpl H.size) PW.blind (fun U hU hW hPc hDc hF => ⟨rfl, by rw [hU], by rw [hU]; exact hPc, hK.warm hW, hDc⟩) (cwV 0 hts gL_law_X3_finish rfl rfl rfl (by decide +kernel) ⟨Nat.le_of_ble_eq_true rfl, Nat.le_of_ble_eq_true rfl⟩) hK hP hD hS hA rfl rfl hl.1 (Nat.le_of_ble_eq_true rfl) dL_law_343 hro (fun r1 k1 H locs hr1 hP hD hS => ?_)
  obtain ⟨hr1, u, hk1⟩ := hr1
  refine lv_aload_n hx hb dL_law_346 rfl (lv_at hl 2 rfl) ?_
  refine lawMw (As := []) ⟨hx, hb, hml, hown, hts⟩ (c_X4_finish l G a z sp pa sl sv pd tl (nI q) spt tm n hn6 hok H.size) (cwV 0 hts gL_law_X4_finish rfl rfl rfl (by decide +kernel) ⟨Nat.le_of_ble_eq_true rfl, Nat.le_of_ble_eq_true rfl⟩) hK hP hD hS hA rfl rfl hl.1 (Nat.le_of_ble_eq_true rfl) dL_law_347 hro (fun r2 u2 H locs hr2 hP hD hS => ?_)
  refine lw_fin (c2 := cells + 11) (s2 := slots + 62) hx hb dL_law_350 (by decide) (by rw [hr1, hr2]; exact e1) (by omega) (by omega) ?_
  exact kk _ _ (LG.of (by rw [hk1]; exact e2 u) (by rw [hk1]; first | exact Nat.succ_le_succ hnx | exact Nat.le_succ_of_le hnx | (split <;> first | exact Nat.succ_le_succ hnx | exact Nat.le_succ_of_le hnx | exact Nat.le_succ_of_le (Nat.le_trans (Nat.sub_le _ _) hnx))) hP hD hS)
set_option maxHeartbeats 4000000 in
set_option maxRecDepth 100000 in
theorem lw_run (C0 : lwC p s m c G bs L xs) (hj : 3 * j + 2 < L) (hG : LG G s o t r h g b a j H locs) (hl : lv_has ls 4 [(0, .ref bs), (1, .ref o), (2, .ref (a 0)), (3, .int (nI (3 * j)))]) (hro : cells + 11 ≤ 651086 ∧ slots + 62 ≤ 7148989)
    (kk : ∀ (H1 : Heap) (locs1 : List Loc), LG G s o t r h g b a (j + 1) H1 locs1 → W p l e room_1 s m #[Value.ref bs] below meth c H1 locs1 (cells + 11) (slots + 62) Q (F0 m 743 ls [])) : W p l e room_1 s m #[Value.ref bs] below meth c H locs cells slots Q (F0 m 355 ls []) := by
  obtain ⟨hx, hb, hml, hown, hts, hX, hbl, hK, hz, hL⟩ := C0
  obtain ⟨⟨T, U, nx, ln, ad, S, ps, pl⟩, z, sp, pa, sl, sv, pd, tl, n, q, spt, tm, hI, hnx, hP, hD, hS⟩ := hG
  obtain ⟨h01, hn6, hln, hps, hpl, hq60, hold, hR, hZ, hpsd, hplq, hlnn⟩ := hI.facts
  have hnx : nx ≤ j := hnx
  have hnx1 : nx < 100000 := by omega
  have hA : ∀ q : Nat, s.heap.size ≤ q → (fun q : Nat => s.heap.size ≤ q) q := fun _ h => h
  have hbA : ¬ (fun q : Nat => s.heap.size ≤ q) bs := Nat.not_le.mpr hbl
  have hf0 : cells + 0 ≤ room_1.cells ∧ slots + 0 ≤ room_1.slots := ⟨Nat.le_trans (Nat.add_le_add_left (Nat.zero_le 11) _) hro.1, Nat.le_trans (Nat.add_le_add_left (Nat.zero_le 62) _) hro.2⟩
  obtain ⟨hok, e1, e2⟩ := q_run hI tl
  refine lv_aload_n hx hb dL_law_355 rfl (lv_at hl 1 rfl) ?_
  refine lawXw (k := (T, U, nx, ln, ad, S, ps, pl)) (As := []) (rest := []) ⟨hx, hb, hml, hown, hts⟩ (c_X3_run l G o t r h g b T U h01 nx ln hnx1 hln ad S ps hps pl hpl H.size) PW.blind (fun U hU hW hPc hDc hF => ⟨rfl, by rw [hU], by rw [hU]; exact hPc, hK.warm hW, hDc⟩) (cwV 0 hts gL_law_X3_run rfl rfl rfl (by decide +kernel) ⟨Nat.le_of_ble_eq_true rfl, Nat.le_of_ble_eq_true rfl⟩) hK hP hD hS hA rfl rfl hl.1 (Nat.le_of_ble_eq_true rfl) dL_law_356 hro (fun r1 k1 H locs hr1 hP hD hS => ?_)
  obtain ⟨hr1, u, hk1⟩ := hr1
  refine lv_aload_n hx hb dL_law_359 rfl (lv_at hl 2 rfl) ?_
  refine lawMw (As := []) ⟨hx, hb, hml, hown, hts⟩ (c_X4_run l G a z sp pa sl sv pd tl spt tm n q hn6 hq60 hok H.size) (cwV 0 hts gL_law_X4_run rfl rfl rfl (by decide +kernel) ⟨Nat.le_of_ble_eq_true rfl, Nat.le_of_ble_eq_true rfl⟩) hK hP hD hS hA rfl rfl hl.1 (Nat.le_of_ble_eq_true rfl) dL_law_360 hro (fun r2 u2 H locs hr2 hP hD hS => ?_)
  refine lw_fin (c2 := cells + 11) (s2 := slots + 62) hx hb dL_law_363 (by decide) (by rw [hr1, hr2]; exact e1) (by omega) (by omega) ?_
  exact kk _ _ (LG.of (by rw [hk1]; exact e2 u) (by rw [hk1]; first | exact Nat.succ_le_succ hnx | exact Nat.le_succ_of_le hnx | (split <;> first | exact Nat.succ_le_succ hnx | exact Nat.le_succ_of_le hnx | exact Nat.le_succ_of_le (Nat.le_trans (Nat.sub_le _ _) hnx))) hP hD hS)
set_option maxHeartbeats 4000000 in
set_option maxRecDepth 100000 in
theorem lw_player (C0 : lwC p s m c G bs L xs) (hj : 3 * j + 2 < L) (hG : LG G s o t r h g b a j H locs) (hl : lv_has ls 4 [(0, .ref bs), (1, .ref o), (2, .ref (a 0)), (3, .int (nI (3 * j)))]) (hro : cells + 11 ≤ 651086 ∧ slots + 62 ≤ 7148989)
    (kk : ∀ (H1 : Heap) (locs1 : List Loc), LG G s o t r h g b a (j + 1) H1 locs1 → W p l e room_1 s m #[Value.ref bs] below meth c H1 locs1 (cells + 11) (slots + 62) Q (F0 m 743 ls [])) : W p l e room_1 s m #[Value.ref bs] below meth c H locs cells slots Q (F0 m 368 ls []) := by
  obtain ⟨hx, hb, hml, hown, hts, hX, hbl, hK, hz, hL⟩ := C0
  obtain ⟨⟨T, U, nx, ln, ad, S, ps, pl⟩, z, sp, pa, sl, sv, pd, tl, n, q, spt, tm, hI, hnx, hP, hD, hS⟩ := hG
  obtain ⟨h01, hn6, hln, hps, hpl, hq60, hold, hR, hZ, hpsd, hplq, hlnn⟩ := hI.facts
  have hnx : nx ≤ j := hnx
  have hnx1 : nx < 100000 := by omega
  have hA : ∀ q : Nat, s.heap.size ≤ q → (fun q : Nat => s.heap.size ≤ q) q := fun _ h => h
  have hbA : ¬ (fun q : Nat => s.heap.size ≤ q) bs := Nat.not_le.mpr hbl
  have hf0 : cells + 0 ≤ room_1.cells ∧ slots + 0 ≤ room_1.slots := ⟨Nat.le_trans (Nat.add_le_add_left (Nat.zero_le 11) _) hro.1, Nat.le_trans (Nat.add_le_add_left (Nat.zero_le 62) _) hro.2⟩
  refine lv_aload_n hx hb dL_law_368 rfl (lv_at hl 1 rfl) ?_
  refine lw_arg hx hb hX hbl hbA hS hl (kb := 0) (ki := 3) (d := 1) rfl rfl (by decide) (by omega) hL dL_law_369 dL_law_370 dL_law_371 dL_law_372 dL_law_373 ?_
  refine lw_arg hx hb hX hbl hbA hS hl (kb := 0) (ki := 3) (d := 2) rfl rfl (by decide) (by omega) hL dL_law_374 dL_law_375 dL_law_376 dL_law_377 dL_law_378 ?_
  refine lawXr (k := (T, U, nx, ln, ad, S, ps, pl)) (As := [.int (xs (3 * j + 1)), .int (xs (3 * j + 2))]) (rest := []) ⟨hx, hb, hml, hown, hts⟩ (c_X3_player l G o t r h g b T U h01 nx ln hnx1 hln ad S ps hps pl hpl (xs (3 * j + 1)) (xs (3 * j + 2))) (cwV 2 hts gL_law_X3_player rfl rfl rfl (by decide +kernel) ⟨Nat.le_of_ble_eq_true rfl, Nat.le_of_ble_eq_true rfl⟩) hK hP rfl rfl hl.1 (Nat.le_of_ble_eq_true rfl) dL_law_379 hf0 ?_
  refine lv_aload_n hx hb dL_law_382 rfl (lv_at hl 2 rfl) ?_
  refine lw_arg hx hb hX hbl hbA hS hl (kb := 0) (ki := 3) (d := 1) rfl rfl (by decide) (by omega) hL dL_law_383 dL_law_384 dL_law_385 dL_law_386 dL_law_387 ?_
  refine lw_arg hx hb hX hbl hbA hS hl (kb := 0) (ki := 3) (d := 2) rfl rfl (by decide) (by omega) hL dL_law_388 dL_law_389 dL_law_390 dL_law_391 dL_law_392 ?_
  refine lawMr (As := [.int (xs (3 * j + 1)), .int (xs (3 * j + 2))]) ⟨hx, hb, hml, hown, hts⟩ (c_X4_player l G a z sp pa sl sv pd tl (nI n) (nI q) spt tm (xs (3 * j + 1)) (xs (3 * j + 2))) (cwV 2 hts gL_law_X4_player rfl rfl rfl (by decide +kernel) ⟨Nat.le_of_ble_eq_true rfl, Nat.le_of_ble_eq_true rfl⟩) hK hP rfl rfl hl.1 (Nat.le_of_ble_eq_true rfl) dL_law_393 hf0 ?_
  refine lw_fin (c2 := cells + 11) (s2 := slots + 62) hx hb dL_law_396 (by decide) (q_player hR (xs (3 * j + 1)) (xs (3 * j + 2))) (by omega) (by omega) ?_
  exact kk _ _ (LG.of (hI) (Nat.le_succ_of_le hnx) hP hD hS)
set_option maxHeartbeats 4000000 in
set_option maxRecDepth 100000 in
theorem lw_at (C0 : lwC p s m c G bs L xs) (hj : 3 * j + 2 < L) (hG : LG G s o t r h g b a j H locs) (hl : lv_has ls 4 [(0, .ref bs), (1, .ref o), (2, .ref (a 0)), (3, .int (nI (3 * j)))]) (hro : cells + 11 ≤ 651086 ∧ slots + 62 ≤ 7148989)
    (kk : ∀ (H1 : Heap) (locs1 : List Loc), LG G s o t r h g b a (j + 1) H1 locs1 → W p l e room_1 s m #[Value.ref bs] below meth c H1 locs1 (cells + 11) (slots + 62) Q (F0 m 743 ls [])) : W p l e room_1 s m #[Value.ref bs] below meth c H locs cells slots Q (F0 m 401 ls []) := by
  obtain ⟨hx, hb, hml, hown, hts, hX, hbl, hK, hz, hL⟩ := C0
  obtain ⟨⟨T, U, nx, ln, ad, S, ps, pl⟩, z, sp, pa, sl, sv, pd, tl, n, q, spt, tm, hI, hnx, hP, hD, hS⟩ := hG
  obtain ⟨h01, hn6, hln, hps, hpl, hq60, hold, hR, hZ, hpsd, hplq, hlnn⟩ := hI.facts
  have hnx : nx ≤ j := hnx
  have hnx1 : nx < 100000 := by omega
  have hA : ∀ q : Nat, s.heap.size ≤ q → (fun q : Nat => s.heap.size ≤ q) q := fun _ h => h
  have hbA : ¬ (fun q : Nat => s.heap.size ≤ q) bs := Nat.not_le.mpr hbl
  have hf0 : cells + 0 ≤ room_1.cells ∧ slots + 0 ≤ room_1.slots := ⟨Nat.le_trans (Nat.add_le_add_left (Nat.zero_le 11) _) hro.1, Nat.le_trans (Nat.add_le_add_left (Nat.zero_le 62) _) hro.2⟩
  refine lv_aload_n hx hb dL_law_401 rfl (lv_at hl 1 rfl) ?_
  refine lw_arg hx hb hX hbl hbA hS hl (kb := 0) (ki := 3) (d := 1) rfl rfl (by decide) (by omega) hL dL_law_402 dL_law_403 dL_law_404 dL_law_405 dL_law_406 ?_
  refine lawXr (k := (T, U, nx, ln, ad, S, ps, pl)) (As := [.int (xs (3 * j + 1))]) (rest := []) ⟨hx, hb, hml, hown, hts⟩ (c_X3_at l G o t r h g b T U h01 nx ln hnx1 hln ad S ps hps pl hpl (xs (3 * j + 1))) (cwV 1 hts gL_law_X3_at rfl rfl rfl (by decide +kernel) ⟨Nat.le_of_ble_eq_true rfl, Nat.le_of_ble_eq_true rfl⟩) hK hP rfl rfl hl.1 (Nat.le_of_ble_eq_true rfl) dL_law_407 hf0 ?_
  refine lv_aload_n hx hb dL_law_410 rfl (lv_at hl 2 rfl) ?_
  refine lw_arg hx hb hX hbl hbA hS hl (kb := 0) (ki := 3) (d := 1) rfl rfl (by decide) (by omega) hL dL_law_411 dL_law_412 dL_law_413 dL_law_414 dL_law_415 ?_
  refine lawMr (As := [.int (xs (3 * j + 1))]) ⟨hx, hb, hml, hown, hts⟩ (c_X4_at l G a z sp pa sl sv pd tl (nI n) (nI q) spt tm (xs (3 * j + 1))) (cwV 1 hts gL_law_X4_at rfl rfl rfl (by decide +kernel) ⟨Nat.le_of_ble_eq_true rfl, Nat.le_of_ble_eq_true rfl⟩) hK hP rfl rfl hl.1 (Nat.le_of_ble_eq_true rfl) dL_law_416 hf0 ?_
  refine lw_fin (c2 := cells + 11) (s2 := slots + 62) hx hb dL_law_419 (by decide) (q_at hR hZ (xs (3 * j + 1))) (by omega) (by omega) ?_
  exact kk _ _ (LG.of (hI) (Nat.le_succ_of_le hnx) hP hD hS)
set_option maxHeartbeats 4000000 in
set_option maxRecDepth 100000 in
theorem lw_count (C0 : lwC p s m c G bs L xs) (hj : 3 * j + 2 < L) (hG : LG G s o t r h g b a j H locs) (hl : lv_has ls 4 [(0, .ref bs), (1, .ref o), (2, .ref (a 0)), (3, .int (nI (3 * j)))]) (hro : cells + 11 ≤ 651086 ∧ slots + 62 ≤ 7148989)
    (kk : ∀ (H1 : Heap) (locs1 : List Loc), LG G s o t r h g b a (j + 1) H1 locs1 → W p l e room_1 s m #[Value.ref bs] below meth c H1 locs1 (cells + 11) (slots + 62) Q (F0 m 743 ls [])) : W p l e room_1 s m #[Value.ref bs] below meth c H locs cells slots Q (F0 m 424 ls []) := by
  obtain ⟨hx, hb, hml, hown, hts, hX, hbl, hK, hz, hL⟩ := C0
  obtain ⟨⟨T, U, nx, ln, ad, S, ps, pl⟩, z, sp, pa, sl, sv, pd, tl, n, q, spt, tm, hI, hnx, hP, hD, hS⟩ := hG
  obtain ⟨h01, hn6, hln, hps, hpl, hq60, hold, hR, hZ, hpsd, hplq, hlnn⟩ := hI.facts
  have hnx : nx ≤ j := hnx
  have hnx1 : nx < 100000 := by omega
  have hA : ∀ q : Nat, s.heap.size ≤ q → (fun q : Nat => s.heap.size ≤ q) q := fun _ h => h
  have hbA : ¬ (fun q : Nat => s.heap.size ≤ q) bs := Nat.not_le.mpr hbl
  have hf0 : cells + 0 ≤ room_1.cells ∧ slots + 0 ≤ room_1.slots := ⟨Nat.le_trans (Nat.add_le_add_left (Nat.zero_le 11) _) hro.1, Nat.le_trans (Nat.add_le_add_left (Nat.zero_le 62) _) hro.2⟩
  refine lv_aload_n hx hb dL_law_424 rfl (lv_at hl 1 rfl) ?_
  refine lw_arg hx hb hX hbl hbA hS hl (kb := 0) (ki := 3) (d := 1) rfl rfl (by decide) (by omega) hL dL_law_425 dL_law_426 dL_law_427 dL_law_428 dL_law_429 ?_
  refine lawXr (k := (T, U, nx, ln, ad, S, ps, pl)) (As := [.int (xs (3 * j + 1))]) (rest := []) ⟨hx, hb, hml, hown, hts⟩ (c_X3_count l G o t r h g b T U h01 nx ln hnx1 hln ad S ps hps pl hpl (xs (3 * j + 1))) (cwV 1 hts gL_law_X3_count rfl rfl rfl (by decide +kernel) ⟨Nat.le_of_ble_eq_true rfl, Nat.le_of_ble_eq_true rfl⟩) hK hP rfl rfl hl.1 (Nat.le_of_ble_eq_true rfl) dL_law_430 hf0 ?_
  refine lv_aload_n hx hb dL_law_433 rfl (lv_at hl 2 rfl) ?_
  refine lw_arg hx hb hX hbl hbA hS hl (kb := 0) (ki := 3) (d := 1) rfl rfl (by decide) (by omega) hL dL_law_434 dL_law_435 dL_law_436 dL_law_437 dL_law_438 ?_
  refine lawMr (As := [.int (xs (3 * j + 1))]) ⟨hx, hb, hml, hown, hts⟩ (c_X4_count l G a z sp pa sl sv pd tl (nI n) (nI q) spt tm (xs (3 * j + 1))) (cwV 1 hts gL_law_X4_count rfl rfl rfl (by decide +kernel) ⟨Nat.le_of_ble_eq_true rfl, Nat.le_of_ble_eq_true rfl⟩) hK hP rfl rfl hl.1 (Nat.le_of_ble_eq_true rfl) dL_law_439 hf0 ?_
  refine lw_fin (c2 := cells + 11) (s2 := slots + 62) hx hb dL_law_442 (by decide) (by rw [hlnn, hplq]; exact q_count hR hZ n q (xs (3 * j + 1))) (by omega) (by omega) ?_
  exact kk _ _ (LG.of (hI) (Nat.le_succ_of_le hnx) hP hD hS)
set_option maxHeartbeats 4000000 in
set_option maxRecDepth 100000 in
theorem lw_prizeOf (C0 : lwC p s m c G bs L xs) (hj : 3 * j + 2 < L) (hG : LG G s o t r h g b a j H locs) (hl : lv_has ls 4 [(0, .ref bs), (1, .ref o), (2, .ref (a 0)), (3, .int (nI (3 * j)))]) (hro : cells + 11 ≤ 651086 ∧ slots + 62 ≤ 7148989)
    (kk : ∀ (H1 : Heap) (locs1 : List Loc), LG G s o t r h g b a (j + 1) H1 locs1 → W p l e room_1 s m #[Value.ref bs] below meth c H1 locs1 (cells + 11) (slots + 62) Q (F0 m 743 ls [])) : W p l e room_1 s m #[Value.ref bs] below meth c H locs cells slots Q (F0 m 447 ls []) := by
  obtain ⟨hx, hb, hml, hown, hts, hX, hbl, hK, hz, hL⟩ := C0
  obtain ⟨⟨T, U, nx, ln, ad, S, ps, pl⟩, z, sp, pa, sl, sv, pd, tl, n, q, spt, tm, hI, hnx, hP, hD, hS⟩ := hG
  obtain ⟨h01, hn6, hln, hps, hpl, hq60, hold, hR, hZ, hpsd, hplq, hlnn⟩ := hI.facts
  have hnx : nx ≤ j := hnx
  have hnx1 : nx < 100000 := by omega
  have hA : ∀ q : Nat, s.heap.size ≤ q → (fun q : Nat => s.heap.size ≤ q) q := fun _ h => h
  have hbA : ¬ (fun q : Nat => s.heap.size ≤ q) bs := Nat.not_le.mpr hbl
  have hf0 : cells + 0 ≤ room_1.cells ∧ slots + 0 ≤ room_1.slots := ⟨Nat.le_trans (Nat.add_le_add_left (Nat.zero_le 11) _) hro.1, Nat.le_trans (Nat.add_le_add_left (Nat.zero_le 62) _) hro.2⟩
  refine lv_aload_n hx hb dL_law_447 rfl (lv_at hl 1 rfl) ?_
  refine lw_arg hx hb hX hbl hbA hS hl (kb := 0) (ki := 3) (d := 1) rfl rfl (by decide) (by omega) hL dL_law_448 dL_law_449 dL_law_450 dL_law_451 dL_law_452 ?_
  refine lawXr (k := (T, U, nx, ln, ad, S, ps, pl)) (As := [.int (xs (3 * j + 1))]) (rest := []) ⟨hx, hb, hml, hown, hts⟩ (c_X3_prizeOf l G o t r h g b T U h01 nx ln hnx1 hln ad S ps hps pl hpl (xs (3 * j + 1))) (cwV 1 hts gL_law_X3_prizeOf rfl rfl rfl (by decide +kernel) ⟨Nat.le_of_ble_eq_true rfl, Nat.le_of_ble_eq_true rfl⟩) hK hP rfl rfl hl.1 (Nat.le_of_ble_eq_true rfl) dL_law_453 hf0 ?_
  refine lv_aload_n hx hb dL_law_456 rfl (lv_at hl 2 rfl) ?_
  refine lw_arg hx hb hX hbl hbA hS hl (kb := 0) (ki := 3) (d := 1) rfl rfl (by decide) (by omega) hL dL_law_457 dL_law_458 dL_law_459 dL_law_460 dL_law_461 ?_
  refine lawMr (As := [.int (xs (3 * j + 1))]) ⟨hx, hb, hml, hown, hts⟩ (c_X4_prizeOf l G a z sp pa sl sv pd tl (nI n) (nI q) spt tm (xs (3 * j + 1))) (cwV 1 hts gL_law_X4_prizeOf rfl rfl rfl (by decide +kernel) ⟨Nat.le_of_ble_eq_true rfl, Nat.le_of_ble_eq_true rfl⟩) hK hP rfl rfl hl.1 (Nat.le_of_ble_eq_true rfl) dL_law_462 hf0 ?_
  refine lw_fin (c2 := cells + 11) (s2 := slots + 62) hx hb dL_law_465 (by decide) (q_prizeOf hR (xs (3 * j + 1))) (by omega) (by omega) ?_
  exact kk _ _ (LG.of (hI) (Nat.le_succ_of_le hnx) hP hD hS)
set_option maxHeartbeats 4000000 in
set_option maxRecDepth 100000 in
theorem lw_ifFinished (C0 : lwC p s m c G bs L xs) (hj : 3 * j + 2 < L) (hG : LG G s o t r h g b a j H locs) (hl : lv_has ls 4 [(0, .ref bs), (1, .ref o), (2, .ref (a 0)), (3, .int (nI (3 * j)))]) (hro : cells + 11 ≤ 651086 ∧ slots + 62 ≤ 7148989)
    (kk : ∀ (H1 : Heap) (locs1 : List Loc), LG G s o t r h g b a (j + 1) H1 locs1 → W p l e room_1 s m #[Value.ref bs] below meth c H1 locs1 (cells + 11) (slots + 62) Q (F0 m 743 ls [])) : W p l e room_1 s m #[Value.ref bs] below meth c H locs cells slots Q (F0 m 470 ls []) := by
  obtain ⟨hx, hb, hml, hown, hts, hX, hbl, hK, hz, hL⟩ := C0
  obtain ⟨⟨T, U, nx, ln, ad, S, ps, pl⟩, z, sp, pa, sl, sv, pd, tl, n, q, spt, tm, hI, hnx, hP, hD, hS⟩ := hG
  obtain ⟨h01, hn6, hln, hps, hpl, hq60, hold, hR, hZ, hpsd, hplq, hlnn⟩ := hI.facts
  have hnx : nx ≤ j := hnx
  have hnx1 : nx < 100000 := by omega
  have hA : ∀ q : Nat, s.heap.size ≤ q → (fun q : Nat => s.heap.size ≤ q) q := fun _ h => h
  have hbA : ¬ (fun q : Nat => s.heap.size ≤ q) bs := Nat.not_le.mpr hbl
  have hf0 : cells + 0 ≤ room_1.cells ∧ slots + 0 ≤ room_1.slots := ⟨Nat.le_trans (Nat.add_le_add_left (Nat.zero_le 11) _) hro.1, Nat.le_trans (Nat.add_le_add_left (Nat.zero_le 62) _) hro.2⟩
  obtain ⟨hok, e1⟩ := q_ifF hR hZ (xs (3 * j + 1)) (xs (3 * j + 2))
  refine lv_aload_n hx hb dL_law_470 rfl (lv_at hl 1 rfl) ?_
  refine lw_arg hx hb hX hbl hbA hS hl (kb := 0) (ki := 3) (d := 1) rfl rfl (by decide) (by omega) hL dL_law_471 dL_law_472 dL_law_473 dL_law_474 dL_law_475 ?_
  refine lw_arg hx hb hX hbl hbA hS hl (kb := 0) (ki := 3) (d := 2) rfl rfl (by decide) (by omega) hL dL_law_476 dL_law_477 dL_law_478 dL_law_479 dL_law_480 ?_
  refine lawXw (k := (T, U, nx, ln, ad, S, ps, pl)) (As := [.int (xs (3 * j + 1)), .int (xs (3 * j + 2))]) (rest := []) ⟨hx, hb, hml, hown, hts⟩ (c_X3_ifFinished l G o t r h g b T U h01 nx ln hnx1 hln ad S ps hps pl hpl (xs (3 * j + 1)) (xs (3 * j + 2)) H.size) PW.blind (fun U hU hW hPc hDc hF => ⟨rfl, by rw [hU], by rw [hU]; exact hPc, hK.warm hW, hDc⟩) (cwV 2 hts gL_law_X3_ifFinished rfl rfl rfl (by decide +kernel) ⟨Nat.le_of_ble_eq_true rfl, Nat.le_of_ble_eq_true rfl⟩) hK hP hD hS hA rfl rfl hl.1 (Nat.le_of_ble_eq_true rfl) dL_law_481 hf0 (fun r1 k1 H locs hr1 hP hD hS => ?_)
  obtain ⟨hr1, u, hk1⟩ := hr1
  refine lv_aload_n hx hb dL_law_484 rfl (lv_at hl 2 rfl) ?_
  refine lw_arg hx hb hX hbl hbA hS hl (kb := 0) (ki := 3) (d := 1) rfl rfl (by decide) (by omega) hL dL_law_485 dL_law_486 dL_law_487 dL_law_488 dL_law_489 ?_
  refine lw_arg hx hb hX hbl hbA hS hl (kb := 0) (ki := 3) (d := 2) rfl rfl (by decide) (by omega) hL dL_law_490 dL_law_491 dL_law_492 dL_law_493 dL_law_494 ?_
  refine lawMw (As := [.int (xs (3 * j + 1)), .int (xs (3 * j + 2))]) ⟨hx, hb, hml, hown, hts⟩ (c_X4_ifFinished l G a z sp pa sl sv pd tl (nI n) (nI q) spt tm (xs (3 * j + 1)) (xs (3 * j + 2)) hok H.size) (cwV 2 hts gL_law_X4_ifFinished rfl rfl rfl (by decide +kernel) ⟨Nat.le_of_ble_eq_true rfl, Nat.le_of_ble_eq_true rfl⟩) hK hP hD hS hA rfl rfl hl.1 (Nat.le_of_ble_eq_true rfl) dL_law_495 hf0 (fun r2 u2 H locs hr2 hP hD hS => ?_)
  refine lw_fin (c2 := cells + 11) (s2 := slots + 62) hx hb dL_law_498 (by decide) (by rw [hr1, hr2]; exact e1) (by omega) (by omega) ?_
  exact kk _ _ (LG.of (by rw [hk1]; split <;> exact hI) (by rw [hk1]; first | exact Nat.succ_le_succ hnx | exact Nat.le_succ_of_le hnx | (split <;> first | exact Nat.succ_le_succ hnx | exact Nat.le_succ_of_le hnx | exact Nat.le_succ_of_le (Nat.le_trans (Nat.sub_le _ _) hnx))) hP hD hS)
set_option maxHeartbeats 4000000 in
set_option maxRecDepth 100000 in
theorem lw_bestLimit (C0 : lwC p s m c G bs L xs) (hj : 3 * j + 2 < L) (hG : LG G s o t r h g b a j H locs) (hl : lv_has ls 4 [(0, .ref bs), (1, .ref o), (2, .ref (a 0)), (3, .int (nI (3 * j)))]) (hro : cells + 11 ≤ 651086 ∧ slots + 62 ≤ 7148989)
    (kk : ∀ (H1 : Heap) (locs1 : List Loc), LG G s o t r h g b a (j + 1) H1 locs1 → W p l e room_1 s m #[Value.ref bs] below meth c H1 locs1 (cells + 11) (slots + 62) Q (F0 m 743 ls [])) : W p l e room_1 s m #[Value.ref bs] below meth c H locs cells slots Q (F0 m 503 ls []) := by
  obtain ⟨hx, hb, hml, hown, hts, hX, hbl, hK, hz, hL⟩ := C0
  obtain ⟨⟨T, U, nx, ln, ad, S, ps, pl⟩, z, sp, pa, sl, sv, pd, tl, n, q, spt, tm, hI, hnx, hP, hD, hS⟩ := hG
  obtain ⟨h01, hn6, hln, hps, hpl, hq60, hold, hR, hZ, hpsd, hplq, hlnn⟩ := hI.facts
  have hnx : nx ≤ j := hnx
  have hnx1 : nx < 100000 := by omega
  have hA : ∀ q : Nat, s.heap.size ≤ q → (fun q : Nat => s.heap.size ≤ q) q := fun _ h => h
  have hbA : ¬ (fun q : Nat => s.heap.size ≤ q) bs := Nat.not_le.mpr hbl
  have hf0 : cells + 0 ≤ room_1.cells ∧ slots + 0 ≤ room_1.slots := ⟨Nat.le_trans (Nat.add_le_add_left (Nat.zero_le 11) _) hro.1, Nat.le_trans (Nat.add_le_add_left (Nat.zero_le 62) _) hro.2⟩
  obtain ⟨hok, e1⟩ := q_best (U := U) hR hZ (xs (3 * j + 1)) (xs (3 * j + 2))
  refine lv_aload_n hx hb dL_law_503 rfl (lv_at hl 1 rfl) ?_
  refine lw_arg hx hb hX hbl hbA hS hl (kb := 0) (ki := 3) (d := 1) rfl rfl (by decide) (by omega) hL dL_law_504 dL_law_505 dL_law_506 dL_law_507 dL_law_508 ?_
  refine lw_arg hx hb hX hbl hbA hS hl (kb := 0) (ki := 3) (d := 2) rfl rfl (by decide) (by omega) hL dL_law_509 dL_law_510 dL_law_511 dL_law_512 dL_law_513 ?_
  refine lawXw (k := (T, U, nx, ln, ad, S, ps, pl)) (As := [.int (xs (3 * j + 1)), .int (xs (3 * j + 2))]) (rest := []) ⟨hx, hb, hml, hown, hts⟩ (c_X3_bestLimit l G o t r h g b T U h01 nx ln hnx1 hln ad S ps hps pl hpl (xs (3 * j + 1)) (xs (3 * j + 2)) H.size) PW.blind (fun U hU hW hPc hDc hF => ⟨rfl, by rw [hU], by rw [hU]; exact hPc, hK.warm hW, hDc⟩) (cwV 2 hts gL_law_X3_bestLimit rfl rfl rfl (by decide +kernel) ⟨Nat.le_of_ble_eq_true rfl, Nat.le_of_ble_eq_true rfl⟩) hK hP hD hS hA rfl rfl hl.1 (Nat.le_of_ble_eq_true rfl) dL_law_514 hf0 (fun r1 k1 H locs hr1 hP hD hS => ?_)
  obtain ⟨hr1, u, hk1⟩ := hr1
  refine lv_aload_n hx hb dL_law_517 rfl (lv_at hl 2 rfl) ?_
  refine lw_arg hx hb hX hbl hbA hS hl (kb := 0) (ki := 3) (d := 1) rfl rfl (by decide) (by omega) hL dL_law_518 dL_law_519 dL_law_520 dL_law_521 dL_law_522 ?_
  refine lw_arg hx hb hX hbl hbA hS hl (kb := 0) (ki := 3) (d := 2) rfl rfl (by decide) (by omega) hL dL_law_523 dL_law_524 dL_law_525 dL_law_526 dL_law_527 ?_
  refine lawMw (As := [.int (xs (3 * j + 1)), .int (xs (3 * j + 2))]) ⟨hx, hb, hml, hown, hts⟩ (c_X4_bestLimit l G a z sp pa sl sv pd tl (nI n) (nI q) spt tm (xs (3 * j + 1)) (xs (3 * j + 2)) hok H.size) (cwV 2 hts gL_law_X4_bestLimit rfl rfl rfl (by decide +kernel) ⟨Nat.le_of_ble_eq_true rfl, Nat.le_of_ble_eq_true rfl⟩) hK hP hD hS hA rfl rfl hl.1 (Nat.le_of_ble_eq_true rfl) dL_law_528 hf0 (fun r2 u2 H locs hr2 hP hD hS => ?_)
  refine lw_fin (c2 := cells + 11) (s2 := slots + 62) hx hb dL_law_531 (by decide) (by rw [hr1, hr2]; exact e1) (by omega) (by omega) ?_
  exact kk _ _ (LG.of (by rw [hk1]; split <;> exact hI) (by rw [hk1]; first | exact Nat.succ_le_succ hnx | exact Nat.le_succ_of_le hnx | (split <;> first | exact Nat.succ_le_succ hnx | exact Nat.le_succ_of_le hnx | exact Nat.le_succ_of_le (Nat.le_trans (Nat.sub_le _ _) hnx))) hP hD hS)
set_option maxHeartbeats 4000000 in
set_option maxRecDepth 100000 in
theorem lw_coinsBehind (C0 : lwC p s m c G bs L xs) (hj : 3 * j + 2 < L) (hG : LG G s o t r h g b a j H locs) (hl : lv_has ls 4 [(0, .ref bs), (1, .ref o), (2, .ref (a 0)), (3, .int (nI (3 * j)))]) (hro : cells + 11 ≤ 651086 ∧ slots + 62 ≤ 7148989)
    (kk : ∀ (H1 : Heap) (locs1 : List Loc), LG G s o t r h g b a (j + 1) H1 locs1 → W p l e room_1 s m #[Value.ref bs] below meth c H1 locs1 (cells + 11) (slots + 62) Q (F0 m 743 ls [])) : W p l e room_1 s m #[Value.ref bs] below meth c H locs cells slots Q (F0 m 536 ls []) := by
  obtain ⟨hx, hb, hml, hown, hts, hX, hbl, hK, hz, hL⟩ := C0
  obtain ⟨⟨T, U, nx, ln, ad, S, ps, pl⟩, z, sp, pa, sl, sv, pd, tl, n, q, spt, tm, hI, hnx, hP, hD, hS⟩ := hG
  obtain ⟨h01, hn6, hln, hps, hpl, hq60, hold, hR, hZ, hpsd, hplq, hlnn⟩ := hI.facts
  have hnx : nx ≤ j := hnx
  have hnx1 : nx < 100000 := by omega
  have hA : ∀ q : Nat, s.heap.size ≤ q → (fun q : Nat => s.heap.size ≤ q) q := fun _ h => h
  have hbA : ¬ (fun q : Nat => s.heap.size ≤ q) bs := Nat.not_le.mpr hbl
  have hf0 : cells + 0 ≤ room_1.cells ∧ slots + 0 ≤ room_1.slots := ⟨Nat.le_trans (Nat.add_le_add_left (Nat.zero_le 11) _) hro.1, Nat.le_trans (Nat.add_le_add_left (Nat.zero_le 62) _) hro.2⟩
  obtain ⟨hok, e1⟩ := q_coinsB hR hZ (xs (3 * j + 1)) (xs (3 * j + 2))
  refine lv_aload_n hx hb dL_law_536 rfl (lv_at hl 1 rfl) ?_
  refine lw_arg hx hb hX hbl hbA hS hl (kb := 0) (ki := 3) (d := 1) rfl rfl (by decide) (by omega) hL dL_law_537 dL_law_538 dL_law_539 dL_law_540 dL_law_541 ?_
  refine lw_arg hx hb hX hbl hbA hS hl (kb := 0) (ki := 3) (d := 2) rfl rfl (by decide) (by omega) hL dL_law_542 dL_law_543 dL_law_544 dL_law_545 dL_law_546 ?_
  refine lawXw (k := (T, U, nx, ln, ad, S, ps, pl)) (As := [.int (xs (3 * j + 1)), .int (xs (3 * j + 2))]) (rest := []) ⟨hx, hb, hml, hown, hts⟩ (c_X3_coinsBehind l G o t r h g b T U h01 nx ln hnx1 hln ad S ps hps pl hpl (xs (3 * j + 1)) (xs (3 * j + 2)) H.size) PW.blind (fun U hU hW hPc hDc hF => ⟨rfl, by rw [hU], by rw [hU]; exact hPc, hK.warm hW, hDc⟩) (cwV 2 hts gL_law_X3_coinsBehind rfl rfl rfl (by decide +kernel) ⟨Nat.le_of_ble_eq_true rfl, Nat.le_of_ble_eq_true rfl⟩) hK hP hD hS hA rfl rfl hl.1 (Nat.le_of_ble_eq_true rfl) dL_law_547 hf0 (fun r1 k1 H locs hr1 hP hD hS => ?_)
  obtain ⟨hr1, u, hk1⟩ := hr1
  refine lv_aload_n hx hb dL_law_550 rfl (lv_at hl 2 rfl) ?_
  refine lw_arg hx hb hX hbl hbA hS hl (kb := 0) (ki := 3) (d := 1) rfl rfl (by decide) (by omega) hL dL_law_551 dL_law_552 dL_law_553 dL_law_554 dL_law_555 ?_
  refine lw_arg hx hb hX hbl hbA hS hl (kb := 0) (ki := 3) (d := 2) rfl rfl (by decide) (by omega) hL dL_law_556 dL_law_557 dL_law_558 dL_law_559 dL_law_560 ?_
  refine lawMw (As := [.int (xs (3 * j + 1)), .int (xs (3 * j + 2))]) ⟨hx, hb, hml, hown, hts⟩ (c_X4_coinsBehind l G a z sp pa sl sv pd tl (nI n) (nI q) spt tm (xs (3 * j + 1)) (xs (3 * j + 2)) hok H.size) (cwV 2 hts gL_law_X4_coinsBehind rfl rfl rfl (by decide +kernel) ⟨Nat.le_of_ble_eq_true rfl, Nat.le_of_ble_eq_true rfl⟩) hK hP hD hS hA rfl rfl hl.1 (Nat.le_of_ble_eq_true rfl) dL_law_561 hf0 (fun r2 u2 H locs hr2 hP hD hS => ?_)
  refine lw_fin (c2 := cells + 11) (s2 := slots + 62) hx hb dL_law_564 (by decide) (by rw [hr1, hr2]; exact e1) (by omega) (by omega) ?_
  exact kk _ _ (LG.of (by rw [hk1]; split <;> exact hI) (by rw [hk1]; first | exact Nat.succ_le_succ hnx | exact Nat.le_succ_of_le hnx | (split <;> first | exact Nat.succ_le_succ hnx | exact Nat.le_succ_of_le hnx | exact Nat.le_succ_of_le (Nat.le_trans (Nat.sub_le _ _) hnx))) hP hD hS)
set_option maxHeartbeats 4000000 in
set_option maxRecDepth 100000 in
theorem lw_richest (C0 : lwC p s m c G bs L xs) (hj : 3 * j + 2 < L) (hG : LG G s o t r h g b a j H locs) (hl : lv_has ls 4 [(0, .ref bs), (1, .ref o), (2, .ref (a 0)), (3, .int (nI (3 * j)))]) (hro : cells + 11 ≤ 651086 ∧ slots + 62 ≤ 7148989)
    (kk : ∀ (H1 : Heap) (locs1 : List Loc), LG G s o t r h g b a (j + 1) H1 locs1 → W p l e room_1 s m #[Value.ref bs] below meth c H1 locs1 (cells + 11) (slots + 62) Q (F0 m 743 ls [])) : W p l e room_1 s m #[Value.ref bs] below meth c H locs cells slots Q (F0 m 569 ls []) := by
  obtain ⟨hx, hb, hml, hown, hts, hX, hbl, hK, hz, hL⟩ := C0
  obtain ⟨⟨T, U, nx, ln, ad, S, ps, pl⟩, z, sp, pa, sl, sv, pd, tl, n, q, spt, tm, hI, hnx, hP, hD, hS⟩ := hG
  obtain ⟨h01, hn6, hln, hps, hpl, hq60, hold, hR, hZ, hpsd, hplq, hlnn⟩ := hI.facts
  have hnx : nx ≤ j := hnx
  have hnx1 : nx < 100000 := by omega
  have hA : ∀ q : Nat, s.heap.size ≤ q → (fun q : Nat => s.heap.size ≤ q) q := fun _ h => h
  have hbA : ¬ (fun q : Nat => s.heap.size ≤ q) bs := Nat.not_le.mpr hbl
  have hf0 : cells + 0 ≤ room_1.cells ∧ slots + 0 ≤ room_1.slots := ⟨Nat.le_trans (Nat.add_le_add_left (Nat.zero_le 11) _) hro.1, Nat.le_trans (Nat.add_le_add_left (Nat.zero_le 62) _) hro.2⟩
  obtain ⟨hok, e1⟩ := q_richest hR hZ (xs (3 * j + 1))
  refine lv_aload_n hx hb dL_law_569 rfl (lv_at hl 1 rfl) ?_
  refine lw_arg hx hb hX hbl hbA hS hl (kb := 0) (ki := 3) (d := 1) rfl rfl (by decide) (by omega) hL dL_law_570 dL_law_571 dL_law_572 dL_law_573 dL_law_574 ?_
  refine lawXw (k := (T, U, nx, ln, ad, S, ps, pl)) (As := [.int (xs (3 * j + 1))]) (rest := []) ⟨hx, hb, hml, hown, hts⟩ (c_X3_richest l G o t r h g b T U h01 nx ln hnx1 hln ad S ps hps pl hpl (xs (3 * j + 1)) H.size) PW.blind (fun U hU hW hPc hDc hF => ⟨rfl, by rw [hU], by rw [hU]; exact hPc, hK.warm hW, hDc⟩) (cwV 1 hts gL_law_X3_richest rfl rfl rfl (by decide +kernel) ⟨Nat.le_of_ble_eq_true rfl, Nat.le_of_ble_eq_true rfl⟩) hK hP hD hS hA rfl rfl hl.1 (Nat.le_of_ble_eq_true rfl) dL_law_575 hf0 (fun r1 k1 H locs hr1 hP hD hS => ?_)
  obtain ⟨hr1, u, hk1⟩ := hr1
  refine lv_aload_n hx hb dL_law_578 rfl (lv_at hl 2 rfl) ?_
  refine lw_arg hx hb hX hbl hbA hS hl (kb := 0) (ki := 3) (d := 1) rfl rfl (by decide) (by omega) hL dL_law_579 dL_law_580 dL_law_581 dL_law_582 dL_law_583 ?_
  refine lawMw (As := [.int (xs (3 * j + 1))]) ⟨hx, hb, hml, hown, hts⟩ (c_X4_richest l G a z sp pa sl sv pd tl (nI n) (nI q) spt tm (xs (3 * j + 1)) hok H.size) (cwV 1 hts gL_law_X4_richest rfl rfl rfl (by decide +kernel) ⟨Nat.le_of_ble_eq_true rfl, Nat.le_of_ble_eq_true rfl⟩) hK hP hD hS hA rfl rfl hl.1 (Nat.le_of_ble_eq_true rfl) dL_law_584 hf0 (fun r2 u2 H locs hr2 hP hD hS => ?_)
  refine lw_fin (c2 := cells + 11) (s2 := slots + 62) hx hb dL_law_587 (by decide) (by rw [hr1, hr2]; exact e1) (by omega) (by omega) ?_
  exact kk _ _ (LG.of (by rw [hk1]; split <;> exact hI) (by rw [hk1]; first | exact Nat.succ_le_succ hnx | exact Nat.le_succ_of_le hnx | (split <;> first | exact Nat.succ_le_succ hnx | exact Nat.le_succ_of_le hnx | exact Nat.le_succ_of_le (Nat.le_trans (Nat.sub_le _ _) hnx))) hP hD hS)
set_option maxHeartbeats 4000000 in
set_option maxRecDepth 100000 in
theorem lw_movesLeft (C0 : lwC p s m c G bs L xs) (hj : 3 * j + 2 < L) (hG : LG G s o t r h g b a j H locs) (hl : lv_has ls 4 [(0, .ref bs), (1, .ref o), (2, .ref (a 0)), (3, .int (nI (3 * j)))]) (hro : cells + 11 ≤ 651086 ∧ slots + 62 ≤ 7148989)
    (kk : ∀ (H1 : Heap) (locs1 : List Loc), LG G s o t r h g b a (j + 1) H1 locs1 → W p l e room_1 s m #[Value.ref bs] below meth c H1 locs1 (cells + 11) (slots + 62) Q (F0 m 743 ls [])) : W p l e room_1 s m #[Value.ref bs] below meth c H locs cells slots Q (F0 m 592 ls []) := by
  obtain ⟨hx, hb, hml, hown, hts, hX, hbl, hK, hz, hL⟩ := C0
  obtain ⟨⟨T, U, nx, ln, ad, S, ps, pl⟩, z, sp, pa, sl, sv, pd, tl, n, q, spt, tm, hI, hnx, hP, hD, hS⟩ := hG
  obtain ⟨h01, hn6, hln, hps, hpl, hq60, hold, hR, hZ, hpsd, hplq, hlnn⟩ := hI.facts
  have hnx : nx ≤ j := hnx
  have hnx1 : nx < 100000 := by omega
  have hA : ∀ q : Nat, s.heap.size ≤ q → (fun q : Nat => s.heap.size ≤ q) q := fun _ h => h
  have hbA : ¬ (fun q : Nat => s.heap.size ≤ q) bs := Nat.not_le.mpr hbl
  have hf0 : cells + 0 ≤ room_1.cells ∧ slots + 0 ≤ room_1.slots := ⟨Nat.le_trans (Nat.add_le_add_left (Nat.zero_le 11) _) hro.1, Nat.le_trans (Nat.add_le_add_left (Nat.zero_le 62) _) hro.2⟩
  obtain ⟨hok, e1⟩ := q_moves hR hZ
  refine lv_aload_n hx hb dL_law_592 rfl (lv_at hl 1 rfl) ?_
  refine lawXw (k := (T, U, nx, ln, ad, S, ps, pl)) (As := []) (rest := []) ⟨hx, hb, hml, hown, hts⟩ (c_X3_movesLeft l G o t r h g b T U h01 nx ln hnx1 hln ad S ps hps pl hpl H.size) PW.blind (fun U hU hW hPc hDc hF => ⟨rfl, by rw [hU], by rw [hU]; exact hPc, hK.warm hW, hDc⟩) (cwV 0 hts gL_law_X3_movesLeft rfl rfl rfl (by decide +kernel) ⟨Nat.le_of_ble_eq_true rfl, Nat.le_of_ble_eq_true rfl⟩) hK hP hD hS hA rfl rfl hl.1 (Nat.le_of_ble_eq_true rfl) dL_law_593 hf0 (fun r1 k1 H locs hr1 hP hD hS => ?_)
  obtain ⟨hr1, u, hk1⟩ := hr1
  refine lv_aload_n hx hb dL_law_596 rfl (lv_at hl 2 rfl) ?_
  refine lawMw (As := []) ⟨hx, hb, hml, hown, hts⟩ (c_X4_movesLeft l G a z sp pa sl sv pd tl (nI n) (nI q) spt tm hok H.size) (cwV 0 hts gL_law_X4_movesLeft rfl rfl rfl (by decide +kernel) ⟨Nat.le_of_ble_eq_true rfl, Nat.le_of_ble_eq_true rfl⟩) hK hP hD hS hA rfl rfl hl.1 (Nat.le_of_ble_eq_true rfl) dL_law_597 hf0 (fun r2 u2 H locs hr2 hP hD hS => ?_)
  refine lw_fin (c2 := cells + 11) (s2 := slots + 62) hx hb dL_law_600 (by decide) (by rw [hr1, hr2]; exact e1) (by omega) (by omega) ?_
  exact kk _ _ (LG.of (by rw [hk1]; split <;> exact hI) (by rw [hk1]; first | exact Nat.succ_le_succ hnx | exact Nat.le_succ_of_le hnx | (split <;> first | exact Nat.succ_le_succ hnx | exact Nat.le_succ_of_le hnx | exact Nat.le_succ_of_le (Nat.le_trans (Nat.sub_le _ _) hnx))) hP hD hS)
set_option maxHeartbeats 4000000 in
set_option maxRecDepth 100000 in
theorem lw_put (C0 : lwC p s m c G bs L xs) (hj : 3 * j + 2 < L) (hG : LG G s o t r h g b a j H locs) (hl : lv_has ls 4 [(0, .ref bs), (1, .ref o), (2, .ref (a 0)), (3, .int (nI (3 * j)))]) (hro : cells + 11 ≤ 651086 ∧ slots + 62 ≤ 7148989)
    (kk : ∀ (H1 : Heap) (locs1 : List Loc), LG G s o t r h g b a (j + 1) H1 locs1 → W p l e room_1 s m #[Value.ref bs] below meth c H1 locs1 (cells + 11) (slots + 62) Q (F0 m 743 ls [])) : W p l e room_1 s m #[Value.ref bs] below meth c H locs cells slots Q (F0 m 605 ls []) := by
  obtain ⟨hx, hb, hml, hown, hts, hX, hbl, hK, hz, hL⟩ := C0
  obtain ⟨⟨T, U, nx, ln, ad, S, ps, pl⟩, z, sp, pa, sl, sv, pd, tl, n, q, spt, tm, hI, hnx, hP, hD, hS⟩ := hG
  obtain ⟨h01, hn6, hln, hps, hpl, hq60, hold, hR, hZ, hpsd, hplq, hlnn⟩ := hI.facts
  have hnx : nx ≤ j := hnx
  have hnx1 : nx < 100000 := by omega
  have hA : ∀ q : Nat, s.heap.size ≤ q → (fun q : Nat => s.heap.size ≤ q) q := fun _ h => h
  have hbA : ¬ (fun q : Nat => s.heap.size ≤ q) bs := Nat.not_le.mpr hbl
  have hf0 : cells + 0 ≤ room_1.cells ∧ slots + 0 ≤ room_1.slots := ⟨Nat.le_trans (Nat.add_le_add_left (Nat.zero_le 11) _) hro.1, Nat.le_trans (Nat.add_le_add_left (Nat.zero_le 62) _) hro.2⟩
  obtain ⟨e1, e2⟩ := q_put hI (((xs (3 * j + 1)).toInt64 <<< ((32 : Int32).toInt64 &&& 63)) ||| ((xs (3 * j + 2)).toInt64 &&& 4294967295))
  refine lv_aload_n hx hb dL_law_605 rfl (lv_at hl 1 rfl) ?_
  refine lw_arg hx hb hX hbl hbA hS hl (kb := 0) (ki := 3) (d := 1) rfl rfl (by decide) (by omega) hL dL_law_606 dL_law_607 dL_law_608 dL_law_609 dL_law_610 ?_
  refine lv_i2l hx hb dL_law_611 rfl ?_
  refine lv_bipush (v := 32) hx hb dL_law_612 (by decide) ?_
  refine lv_lshl hx hb dL_law_614 rfl ?_
  refine lw_arg hx hb hX hbl hbA hS hl (kb := 0) (ki := 3) (d := 2) rfl rfl (by decide) (by omega) hL dL_law_615 dL_law_616 dL_law_617 dL_law_618 dL_law_619 ?_
  refine lv_i2l hx hb dL_law_620 rfl ?_
  refine lv_ldc2 (v := 4294967295) hx hb hown (hts _ (List.mem_of_getElem? (i := 6) (by decide +kernel))) dL_law_621 ?_
  refine lv_land hx hb dL_law_624 ?_
  refine lv_lor hx hb dL_law_625 ?_
  refine lawXw (k := (T, U, nx, ln, ad, S, ps, pl)) (As := [.long (((xs (3 * j + 1)).toInt64 <<< ((32 : Int32).toInt64 &&& 63)) ||| ((xs (3 * j + 2)).toInt64 &&& 4294967295))]) (rest := []) ⟨hx, hb, hml, hown, hts⟩ (c_X3_put l G o t r h g b T U h01 nx ln hnx1 hln ad S ps hps pl hpl (((xs (3 * j + 1)).toInt64 <<< ((32 : Int32).toInt64 &&& 63)) ||| ((xs (3 * j + 2)).toInt64 &&& 4294967295)) H.size) PW.blind (fun U hU hW hPc hDc hF => ⟨rfl, by rw [hU], by rw [hU]; exact hPc, hK.warm hW, hDc⟩) (cwV 1 hts gL_law_X3_put rfl rfl rfl (by decide +kernel) ⟨Nat.le_of_ble_eq_true rfl, Nat.le_of_ble_eq_true rfl⟩) hK hP hD hS hA rfl rfl hl.1 (Nat.le_of_ble_eq_true rfl) dL_law_626 hf0 (fun r1 k1 H locs hr1 hP hD hS => ?_)
  obtain ⟨hr1, u, hk1⟩ := hr1
  refine lv_aload_n hx hb dL_law_629 rfl (lv_at hl 2 rfl) ?_
  refine lw_arg hx hb hX hbl hbA hS hl (kb := 0) (ki := 3) (d := 1) rfl rfl (by decide) (by omega) hL dL_law_630 dL_law_631 dL_law_632 dL_law_633 dL_law_634 ?_
  refine lv_i2l hx hb dL_law_635 rfl ?_
  refine lv_bipush (v := 32) hx hb dL_law_636 (by decide) ?_
  refine lv_lshl hx hb dL_law_638 rfl ?_
  refine lw_arg hx hb hX hbl hbA hS hl (kb := 0) (ki := 3) (d := 2) rfl rfl (by decide) (by omega) hL dL_law_639 dL_law_640 dL_law_641 dL_law_642 dL_law_643 ?_
  refine lv_i2l hx hb dL_law_644 rfl ?_
  refine lv_ldc2 (v := 4294967295) hx hb hown (hts _ (List.mem_of_getElem? (i := 6) (by decide +kernel))) dL_law_645 ?_
  refine lv_land hx hb dL_law_648 ?_
  refine lv_lor hx hb dL_law_649 ?_
  refine lawMw (As := [.long (((xs (3 * j + 1)).toInt64 <<< ((32 : Int32).toInt64 &&& 63)) ||| ((xs (3 * j + 2)).toInt64 &&& 4294967295))]) ⟨hx, hb, hml, hown, hts⟩ (c_X4_put l G a z sp pa sl sv pd tl (nI n) spt tm q hq60 (((xs (3 * j + 1)).toInt64 <<< ((32 : Int32).toInt64 &&& 63)) ||| ((xs (3 * j + 2)).toInt64 &&& 4294967295)) H.size) (cwV 1 hts gL_law_X4_put rfl rfl rfl (by decide +kernel) ⟨Nat.le_of_ble_eq_true rfl, Nat.le_of_ble_eq_true rfl⟩) hK hP hD hS hA rfl rfl hl.1 (Nat.le_of_ble_eq_true rfl) dL_law_650 hf0 (fun r2 u2 H locs hr2 hP hD hS => ?_)
  refine lw_fin (c2 := cells + 11) (s2 := slots + 62) hx hb dL_law_653 (by decide) (by rw [hr1, hr2]; exact e1) (by omega) (by omega) ?_
  exact kk _ _ (LG.of (by rw [hk1]; exact e2) (by rw [hk1]; first | exact Nat.succ_le_succ hnx | exact Nat.le_succ_of_le hnx | (split <;> first | exact Nat.succ_le_succ hnx | exact Nat.le_succ_of_le hnx | exact Nat.le_succ_of_le (Nat.le_trans (Nat.sub_le _ _) hnx))) hP hD hS)
set_option maxHeartbeats 4000000 in
set_option maxRecDepth 100000 in
theorem lw_wipe (C0 : lwC p s m c G bs L xs) (hj : 3 * j + 2 < L) (hG : LG G s o t r h g b a j H locs) (hl : lv_has ls 4 [(0, .ref bs), (1, .ref o), (2, .ref (a 0)), (3, .int (nI (3 * j)))]) (hro : cells + 11 ≤ 651086 ∧ slots + 62 ≤ 7148989)
    (kk : ∀ (H1 : Heap) (locs1 : List Loc), LG G s o t r h g b a (j + 1) H1 locs1 → W p l e room_1 s m #[Value.ref bs] below meth c H1 locs1 (cells + 11) (slots + 62) Q (F0 m 743 ls [])) : W p l e room_1 s m #[Value.ref bs] below meth c H locs cells slots Q (F0 m 658 ls []) := by
  obtain ⟨hx, hb, hml, hown, hts, hX, hbl, hK, hz, hL⟩ := C0
  obtain ⟨⟨T, U, nx, ln, ad, S, ps, pl⟩, z, sp, pa, sl, sv, pd, tl, n, q, spt, tm, hI, hnx, hP, hD, hS⟩ := hG
  obtain ⟨h01, hn6, hln, hps, hpl, hq60, hold, hR, hZ, hpsd, hplq, hlnn⟩ := hI.facts
  have hnx : nx ≤ j := hnx
  have hnx1 : nx < 100000 := by omega
  have hA : ∀ q : Nat, s.heap.size ≤ q → (fun q : Nat => s.heap.size ≤ q) q := fun _ h => h
  have hbA : ¬ (fun q : Nat => s.heap.size ≤ q) bs := Nat.not_le.mpr hbl
  have hf0 : cells + 0 ≤ room_1.cells ∧ slots + 0 ≤ room_1.slots := ⟨Nat.le_trans (Nat.add_le_add_left (Nat.zero_le 11) _) hro.1, Nat.le_trans (Nat.add_le_add_left (Nat.zero_le 62) _) hro.2⟩
  refine lv_aload_n hx hb dL_law_658 rfl (lv_at hl 1 rfl) ?_
  refine lawXw (k := (T, U, nx, ln, ad, S, ps, pl)) (As := []) (rest := []) ⟨hx, hb, hml, hown, hts⟩ (c_X3_wipe l G o t r h g b T U h01 nx ln hnx1 hln ad S ps hps pl hpl H.size) PW.blind (fun U hU hW hPc hDc hF => ⟨rfl, by rw [hU], by rw [hU]; exact hPc, hK.warm hW, hDc⟩) (cwV 0 hts gL_law_X3_wipe rfl rfl rfl (by decide +kernel) ⟨Nat.le_of_ble_eq_true rfl, Nat.le_of_ble_eq_true rfl⟩) hK hP hD hS hA rfl rfl hl.1 (Nat.le_of_ble_eq_true rfl) dL_law_659 hf0 (fun r1 k1 H locs hr1 hP hD hS => ?_)
  obtain ⟨hr1, u, hk1⟩ := hr1
  refine lv_aload_n hx hb dL_law_662 rfl (lv_at hl 2 rfl) ?_
  refine lawMw (As := []) ⟨hx, hb, hml, hown, hts⟩ (c_X4_wipe l G a z sp pa sl sv pd tl (nI n) (nI q) spt tm H.size) (cwV 0 hts gL_law_X4_wipe rfl rfl rfl (by decide +kernel) ⟨Nat.le_of_ble_eq_true rfl, Nat.le_of_ble_eq_true rfl⟩) hK hP hD hS hA rfl rfl hl.1 (Nat.le_of_ble_eq_true rfl) dL_law_663 hf0 (fun r2 u2 H locs hr2 hP hD hS => ?_)
  refine lw_fin (c2 := cells + 11) (s2 := slots + 62) hx hb dL_law_666 (by decide) (by rw [hr1, hr2]; exact congrArg nI hplq) (by omega) (by omega) ?_
  exact kk _ _ (LG.of (by rw [hk1]; obtain ⟨i1, i2, i3, i4, i5, i6, i7, i8, i9⟩ := hI; exact ⟨i1, i2, i3, i4, i5, i6, i7, rfl, Nat.zero_le _⟩) (by rw [hk1]; first | exact Nat.succ_le_succ hnx | exact Nat.le_succ_of_le hnx | (split <;> first | exact Nat.succ_le_succ hnx | exact Nat.le_succ_of_le hnx | exact Nat.le_succ_of_le (Nat.le_trans (Nat.sub_le _ _) hnx))) hP hD hS)
set_option maxHeartbeats 4000000 in
set_option maxRecDepth 100000 in
theorem lw_fault (C0 : lwC p s m c G bs L xs) (hj : 3 * j + 2 < L) (hG : LG G s o t r h g b a j H locs) (hl : lv_has ls 4 [(0, .ref bs), (1, .ref o), (2, .ref (a 0)), (3, .int (nI (3 * j)))]) (hro : cells + 11 ≤ 651086 ∧ slots + 62 ≤ 7148989)
    (kk : ∀ (H1 : Heap) (locs1 : List Loc), LG G s o t r h g b a (j + 1) H1 locs1 → W p l e room_1 s m #[Value.ref bs] below meth c H1 locs1 (cells + 11) (slots + 62) Q (F0 m 743 ls [])) : W p l e room_1 s m #[Value.ref bs] below meth c H locs cells slots Q (F0 m 671 ls []) := by
  obtain ⟨hx, hb, hml, hown, hts, hX, hbl, hK, hz, hL⟩ := C0
  obtain ⟨⟨T, U, nx, ln, ad, S, ps, pl⟩, z, sp, pa, sl, sv, pd, tl, n, q, spt, tm, hI, hnx, hP, hD, hS⟩ := hG
  obtain ⟨h01, hn6, hln, hps, hpl, hq60, hold, hR, hZ, hpsd, hplq, hlnn⟩ := hI.facts
  have hnx : nx ≤ j := hnx
  have hnx1 : nx < 100000 := by omega
  have hA : ∀ q : Nat, s.heap.size ≤ q → (fun q : Nat => s.heap.size ≤ q) q := fun _ h => h
  have hbA : ¬ (fun q : Nat => s.heap.size ≤ q) bs := Nat.not_le.mpr hbl
  have hf0 : cells + 0 ≤ room_1.cells ∧ slots + 0 ≤ room_1.slots := ⟨Nat.le_trans (Nat.add_le_add_left (Nat.zero_le 11) _) hro.1, Nat.le_trans (Nat.add_le_add_left (Nat.zero_le 62) _) hro.2⟩
  refine lv_aload_n hx hb dL_law_671 rfl (lv_at hl 1 rfl) ?_
  refine lawXr (k := (T, U, nx, ln, ad, S, ps, pl)) (As := []) (rest := []) ⟨hx, hb, hml, hown, hts⟩ (c_X3_fault l G o t r h g b T U h01 nx ln hnx1 hln ad S ps hps pl hpl) (cwV 0 hts gL_law_X3_fault rfl rfl rfl (by decide +kernel) ⟨Nat.le_of_ble_eq_true rfl, Nat.le_of_ble_eq_true rfl⟩) hK hP rfl rfl hl.1 (Nat.le_of_ble_eq_true rfl) dL_law_672 hf0 ?_
  refine lv_aload_n hx hb dL_law_675 rfl (lv_at hl 2 rfl) ?_
  refine lawMw (As := []) ⟨hx, hb, hml, hown, hts⟩ (c_X4_fault l G a z sp pa sl sv pd tl (nI n) spt tm q hq60 H.size) (cwV 0 hts gL_law_X4_fault rfl rfl rfl (by decide +kernel) ⟨Nat.le_of_ble_eq_true rfl, Nat.le_of_ble_eq_true rfl⟩) hK hP hD hS hA rfl rfl hl.1 (Nat.le_of_ble_eq_true rfl) dL_law_676 hf0 (fun r2 u2 H locs hr2 hP hD hS => ?_)
  refine lw_fin (c2 := cells + 11) (s2 := slots + 62) hx hb dL_law_679 (by decide) (by rw [hr2]; exact (by rw [hpsd, hplq]; exact fault_eq hq60 tl)) (by omega) (by omega) ?_
  exact kk _ _ (LG.of (hI) (Nat.le_succ_of_le hnx) hP hD hS)
set_option maxHeartbeats 4000000 in
set_option maxRecDepth 100000 in
theorem lw_undo (C0 : lwC p s m c G bs L xs) (hj : 3 * j + 2 < L) (hG : LG G s o t r h g b a j H locs) (hl : lv_has ls 4 [(0, .ref bs), (1, .ref o), (2, .ref (a 0)), (3, .int (nI (3 * j)))]) (hro : cells + 11 ≤ 651086 ∧ slots + 62 ≤ 7148989)
    (kk : ∀ (H1 : Heap) (locs1 : List Loc), LG G s o t r h g b a (j + 1) H1 locs1 → W p l e room_1 s m #[Value.ref bs] below meth c H1 locs1 (cells + 11) (slots + 62) Q (F0 m 743 ls [])) : W p l e room_1 s m #[Value.ref bs] below meth c H locs cells slots Q (F0 m 684 ls []) := by
  obtain ⟨hx, hb, hml, hown, hts, hX, hbl, hK, hz, hL⟩ := C0
  obtain ⟨⟨T, U, nx, ln, ad, S, ps, pl⟩, z, sp, pa, sl, sv, pd, tl, n, q, spt, tm, hI, hnx, hP, hD, hS⟩ := hG
  obtain ⟨h01, hn6, hln, hps, hpl, hq60, hold, hR, hZ, hpsd, hplq, hlnn⟩ := hI.facts
  have hnx : nx ≤ j := hnx
  have hnx1 : nx < 100000 := by omega
  have hA : ∀ q : Nat, s.heap.size ≤ q → (fun q : Nat => s.heap.size ≤ q) q := fun _ h => h
  have hbA : ¬ (fun q : Nat => s.heap.size ≤ q) bs := Nat.not_le.mpr hbl
  have hf0 : cells + 0 ≤ room_1.cells ∧ slots + 0 ≤ room_1.slots := ⟨Nat.le_trans (Nat.add_le_add_left (Nat.zero_le 11) _) hro.1, Nat.le_trans (Nat.add_le_add_left (Nat.zero_le 62) _) hro.2⟩
  obtain ⟨hun, e1, e2⟩ := q_undo hI
  refine lv_aload_n hx hb dL_law_684 rfl (lv_at hl 1 rfl) ?_
  refine lawXw (k := (T, U, nx, ln, ad, S, ps, pl)) (As := []) (rest := []) ⟨hx, hb, hml, hown, hts⟩ (c_X3_undo l G o t r h g b T U h01 nx ln hnx1 hln ad S ps hps pl hpl hold hun H.size) PW.blind (fun U hU hW hPc hDc hF => ⟨rfl, by rw [hU], by rw [hU]; exact hPc, hK.warm hW, hDc⟩) (cwV 0 hts gL_law_X3_undo rfl rfl rfl (by decide +kernel) ⟨Nat.le_of_ble_eq_true rfl, Nat.le_of_ble_eq_true rfl⟩) hK hP hD hS hA rfl rfl hl.1 (Nat.le_of_ble_eq_true rfl) dL_law_685 hf0 (fun r1 k1 H locs hr1 hP hD hS => ?_)
  obtain ⟨hr1, u, hk1⟩ := hr1
  refine lv_aload_n hx hb dL_law_688 rfl (lv_at hl 2 rfl) ?_
  refine lawMw (As := []) ⟨hx, hb, hml, hown, hts⟩ (c_X4_undo l G a z sp pa sl sv pd tl (nI q) spt tm n hn6 H.size) (cwV 0 hts gL_law_X4_undo rfl rfl rfl (by decide +kernel) ⟨Nat.le_of_ble_eq_true rfl, Nat.le_of_ble_eq_true rfl⟩) hK hP hD hS hA rfl rfl hl.1 (Nat.le_of_ble_eq_true rfl) dL_law_689 hf0 (fun r2 u2 H locs hr2 hP hD hS => ?_)
  refine lw_fin (c2 := cells + 11) (s2 := slots + 62) hx hb dL_law_692 (by decide) (by rw [hr1, hr2]; exact e1) (by omega) (by omega) ?_
  exact kk _ _ (LG.of (by rw [hk1]; exact e2) (by rw [hk1]; first | exact Nat.succ_le_succ hnx | exact Nat.le_succ_of_le hnx | (split <;> first | exact Nat.succ_le_succ hnx | exact Nat.le_succ_of_le hnx | exact Nat.le_succ_of_le (Nat.le_trans (Nat.sub_le _ _) hnx))) hP hD hS)
set_option maxHeartbeats 4000000 in
set_option maxRecDepth 100000 in
theorem lw_save (C0 : lwC p s m c G bs L xs) (hj : 3 * j + 2 < L) (hG : LG G s o t r h g b a j H locs) (hl : lv_has ls 4 [(0, .ref bs), (1, .ref o), (2, .ref (a 0)), (3, .int (nI (3 * j)))]) (hro : cells + 11 ≤ 651086 ∧ slots + 62 ≤ 7148989)
    (kk : ∀ (H1 : Heap) (locs1 : List Loc), LG G s o t r h g b a (j + 1) H1 locs1 → W p l e room_1 s m #[Value.ref bs] below meth c H1 locs1 (cells + 11) (slots + 62) Q (F0 m 743 ls [])) : W p l e room_1 s m #[Value.ref bs] below meth c H locs cells slots Q (F0 m 697 ls []) := by
  obtain ⟨hx, hb, hml, hown, hts, hX, hbl, hK, hz, hL⟩ := C0
  obtain ⟨⟨T, U, nx, ln, ad, S, ps, pl⟩, z, sp, pa, sl, sv, pd, tl, n, q, spt, tm, hI, hnx, hP, hD, hS⟩ := hG
  obtain ⟨h01, hn6, hln, hps, hpl, hq60, hold, hR, hZ, hpsd, hplq, hlnn⟩ := hI.facts
  have hnx : nx ≤ j := hnx
  have hnx1 : nx < 100000 := by omega
  have hA : ∀ q : Nat, s.heap.size ≤ q → (fun q : Nat => s.heap.size ≤ q) q := fun _ h => h
  have hbA : ¬ (fun q : Nat => s.heap.size ≤ q) bs := Nat.not_le.mpr hbl
  have hf0 : cells + 0 ≤ room_1.cells ∧ slots + 0 ≤ room_1.slots := ⟨Nat.le_trans (Nat.add_le_add_left (Nat.zero_le 11) _) hro.1, Nat.le_trans (Nat.add_le_add_left (Nat.zero_le 62) _) hro.2⟩
  obtain ⟨e1, e2⟩ := q_save hI (xs (3 * j + 1))
  refine lv_aload_n hx hb dL_law_697 rfl (lv_at hl 1 rfl) ?_
  refine lw_arg hx hb hX hbl hbA hS hl (kb := 0) (ki := 3) (d := 1) rfl rfl (by decide) (by omega) hL dL_law_698 dL_law_699 dL_law_700 dL_law_701 dL_law_702 ?_
  refine lawXw (k := (T, U, nx, ln, ad, S, ps, pl)) (As := [.int (xs (3 * j + 1))]) (rest := []) ⟨hx, hb, hml, hown, hts⟩ (c_X3_save l G o t r h g b T U h01 nx ln hnx1 hln ad S ps hps pl hpl (xs (3 * j + 1)) H.size) PW.blind (fun U hU hW hPc hDc hF => ⟨rfl, by rw [hU], by rw [hU]; exact hPc, hK.warm hW, hDc⟩) (cwV 1 hts gL_law_X3_save rfl rfl rfl (by decide +kernel) ⟨Nat.le_of_ble_eq_true rfl, Nat.le_of_ble_eq_true rfl⟩) hK hP hD hS hA rfl rfl hl.1 (Nat.le_of_ble_eq_true rfl) dL_law_703 hro (fun r1 k1 H locs hr1 hP hD hS => ?_)
  obtain ⟨hr1, u, hk1⟩ := hr1
  refine lv_aload_n hx hb dL_law_706 rfl (lv_at hl 2 rfl) ?_
  refine lw_arg hx hb hX hbl hbA hS hl (kb := 0) (ki := 3) (d := 1) rfl rfl (by decide) (by omega) hL dL_law_707 dL_law_708 dL_law_709 dL_law_710 dL_law_711 ?_
  refine lawMw (As := [.int (xs (3 * j + 1))]) ⟨hx, hb, hml, hown, hts⟩ (c_X4_save l G a z sp pa sl sv pd tl (nI q) spt tm n hn6 (xs (3 * j + 1)) H.size) (cwV 1 hts gL_law_X4_save rfl rfl rfl (by decide +kernel) ⟨Nat.le_of_ble_eq_true rfl, Nat.le_of_ble_eq_true rfl⟩) hK hP hD hS hA rfl rfl hl.1 (Nat.le_of_ble_eq_true rfl) dL_law_712 hro (fun r2 u2 H locs hr2 hP hD hS => ?_)
  refine lw_fin (c2 := cells + 11) (s2 := slots + 62) hx hb dL_law_715 (by decide) (by rw [hr1, hr2]; exact e1) (by omega) (by omega) ?_
  exact kk _ _ (LG.of (by rw [hk1]; exact e2 u) (by rw [hk1]; first | exact Nat.succ_le_succ hnx | exact Nat.le_succ_of_le hnx | (split <;> first | exact Nat.succ_le_succ hnx | exact Nat.le_succ_of_le hnx | exact Nat.le_succ_of_le (Nat.le_trans (Nat.sub_le _ _) hnx))) hP hD hS)
set_option maxHeartbeats 4000000 in
set_option maxRecDepth 100000 in
theorem lw_restore (C0 : lwC p s m c G bs L xs) (hj : 3 * j + 2 < L) (hG : LG G s o t r h g b a j H locs) (hl : lv_has ls 4 [(0, .ref bs), (1, .ref o), (2, .ref (a 0)), (3, .int (nI (3 * j)))]) (hro : cells + 11 ≤ 651086 ∧ slots + 62 ≤ 7148989)
    (kk : ∀ (H1 : Heap) (locs1 : List Loc), LG G s o t r h g b a (j + 1) H1 locs1 → W p l e room_1 s m #[Value.ref bs] below meth c H1 locs1 (cells + 11) (slots + 62) Q (F0 m 743 ls [])) : W p l e room_1 s m #[Value.ref bs] below meth c H locs cells slots Q (F0 m 720 ls []) := by
  obtain ⟨hx, hb, hml, hown, hts, hX, hbl, hK, hz, hL⟩ := C0
  obtain ⟨⟨T, U, nx, ln, ad, S, ps, pl⟩, z, sp, pa, sl, sv, pd, tl, n, q, spt, tm, hI, hnx, hP, hD, hS⟩ := hG
  obtain ⟨h01, hn6, hln, hps, hpl, hq60, hold, hR, hZ, hpsd, hplq, hlnn⟩ := hI.facts
  have hnx : nx ≤ j := hnx
  have hnx1 : nx < 100000 := by omega
  have hA : ∀ q : Nat, s.heap.size ≤ q → (fun q : Nat => s.heap.size ≤ q) q := fun _ h => h
  have hbA : ¬ (fun q : Nat => s.heap.size ≤ q) bs := Nat.not_le.mpr hbl
  have hf0 : cells + 0 ≤ room_1.cells ∧ slots + 0 ≤ room_1.slots := ⟨Nat.le_trans (Nat.add_le_add_left (Nat.zero_le 11) _) hro.1, Nat.le_trans (Nat.add_le_add_left (Nat.zero_le 62) _) hro.2⟩
  obtain ⟨e1, e2⟩ := q_restore hI (xs (3 * j + 1))
  refine lv_aload_n hx hb dL_law_720 rfl (lv_at hl 1 rfl) ?_
  refine lw_arg hx hb hX hbl hbA hS hl (kb := 0) (ki := 3) (d := 1) rfl rfl (by decide) (by omega) hL dL_law_721 dL_law_722 dL_law_723 dL_law_724 dL_law_725 ?_
  refine lawXw (k := (T, U, nx, ln, ad, S, ps, pl)) (As := [.int (xs (3 * j + 1))]) (rest := []) ⟨hx, hb, hml, hown, hts⟩ (c_X3_restore l G o t r h g b T U h01 nx ln hnx1 hln ad S ps hps pl hpl hold (xs (3 * j + 1)) H.size) PW.blind (fun U hU hW hPc hDc hF => ⟨rfl, by rw [hU], by rw [hU]; exact hPc, hK.warm hW, hDc⟩) (cwV 1 hts gL_law_X3_restore rfl rfl rfl (by decide +kernel) ⟨Nat.le_of_ble_eq_true rfl, Nat.le_of_ble_eq_true rfl⟩) hK hP hD hS hA rfl rfl hl.1 (Nat.le_of_ble_eq_true rfl) dL_law_726 hro (fun r1 k1 H locs hr1 hP hD hS => ?_)
  obtain ⟨hr1, u, hk1⟩ := hr1
  refine lv_aload_n hx hb dL_law_729 rfl (lv_at hl 2 rfl) ?_
  refine lw_arg hx hb hX hbl hbA hS hl (kb := 0) (ki := 3) (d := 1) rfl rfl (by decide) (by omega) hL dL_law_730 dL_law_731 dL_law_732 dL_law_733 dL_law_734 ?_
  refine lawMw (As := [.int (xs (3 * j + 1))]) ⟨hx, hb, hml, hown, hts⟩ (c_X4_restore l G a z sp pa sl sv pd tl (nI q) spt tm n hn6 (xs (3 * j + 1)) H.size) (cwV 1 hts gL_law_X4_restore rfl rfl rfl (by decide +kernel) ⟨Nat.le_of_ble_eq_true rfl, Nat.le_of_ble_eq_true rfl⟩) hK hP hD hS hA rfl rfl hl.1 (Nat.le_of_ble_eq_true rfl) dL_law_735 hro (fun r2 u2 H locs hr2 hP hD hS => ?_)
  refine lw_fin (c2 := cells + 11) (s2 := slots + 62) hx hb dL_law_738 (by decide) (by rw [hr1, hr2]; exact e1) (by omega) (by omega) ?_
  exact kk _ _ (LG.of (by rw [hk1]; exact e2 u) (by rw [hk1]; first | exact Nat.succ_le_succ hnx | exact Nat.le_succ_of_le hnx | (split <;> first | exact Nat.succ_le_succ hnx | exact Nat.le_succ_of_le hnx | exact Nat.le_succ_of_le (Nat.le_trans (Nat.sub_le _ _) hnx))) hP hD hS)
end LAWS
