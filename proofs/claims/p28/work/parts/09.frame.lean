/-! CALLS WITH A FRAME: the callee has some of the cells (wc, at the places isC), the others (wr, at isR) stay -/
section FRAME
variable {p : Program} {l : Launch} {e : Env} {R : Room} {s : State} {m : MethodId} {args : Array Value} {below : List Frame} {meth : Method} {c : Code} {H H0 : Heap} {locs : List Loc} {cells slots : Nat} {Q : State → Prop}
variable {y : MethodName} {bytes cc : ByteArray} {maxL nL mc ms n index pc : Nat} {ret : Option FieldType} {ws : List Cond} {rm : Room} {Ts : List Cond} {own C host : String} {b : Addr} {As rest st : List Value} {ls : Array Slot} {G : qG} {wc w wr pl : va_W} {A : Nat → Prop}
theorem nodup_D {w wc : va_W} (hD : va_D A w) (isC : List Nat) (hn : va_nd isC = true) (hC : isC.map (fun i => w[i]?) = wc.map some) : va_D (fun _ => True) wc := (hD.sub isC hn hC).weaken (fun _ _ _ _ => trivial)
theorem part_P {H : Heap} {w wc : va_W} (hP : va_P G.1 vwCl w H) (isC : List Nat) (hC : isC.map (fun i => w[i]?) = wc.map some) : va_P G.1 vwCl wc H := by
  refine hP.by (fun k => (isC[k]?).getD 0) (fun k q hk => ?_)
  have h1 : (isC.map (fun i => w[i]?))[k]? = some (some q) := by rw [hC, List.getElem?_map, hk]; rfl
  rw [List.getElem?_map] at h1
  cases hi : isC[k]? with
  | none => rw [hi] at h1; cases h1
  | some i => rw [hi] at h1; exact Option.some.inj h1
theorem cut_app {w pl wc : va_W} (isC : List Nat) (hC : isC.map (fun i => w[i]?) = wc.map some) : isC.map (fun i => (w ++ pl)[i]?) = wc.map some := by
  rw [← hC]
  refine List.map_congr_left (fun i hi => ?_)
  have h : w[i]? ∈ isC.map (fun i => w[i]?) := List.mem_map.mpr ⟨i, hi, rfl⟩
  rw [hC] at h
  obtain ⟨q, -, hq⟩ := List.mem_map.mp h
  rw [List.getElem?_append_left (List.getElem?_eq_some_iff.mp hq.symm).1]
/-- a static writing method without an answer -/
theorem cBV {S : Type} {post : S → Prop} {w' : S → va_W} (X : CallFix p m c cc nL s args Ts own) (hM : Met l y ws rm (PW G H.size As wc) (QV G H.size wc post w') mc ms (va_A wc H.size)) (cw : CallB R s args own index y bytes maxL ret ws rm mc ms n ∧ (Cond.static y).before args s = true) (hK : KK G s) (hP : va_P G.1 vwCl w H) (hD : va_D A w) (hS : va_S A H0 H locs) (hA : ∀ q, H0.size ≤ q → A q)
    (isC isR : List Nat) (hC : isC.map (fun i => w[i]?) = wc.map some) (hR : isR.map (fun i => w[i]?) = wr.map some) (hnC : va_nd isC = true) (hn : va_nd isR = true) (hdis : ∀ i ∈ isR, i ∉ isC)
    (hst : st = As.reverse ++ rest) (hna : As.length = n) (hsize : ls.size = nL) (hr : (rest.map fun v => v.category).sum ≤ 8) (hdg : decode cc pc = .ok (.invokestatic index, 3)) (hf : cells + mc ≤ R.cells ∧ slots + ms ≤ R.slots)
    (kk : ∀ (u : S) (H1 : Heap) (locs1 : List Loc), post u → va_P G.1 vwCl (wr ++ w' u) H1 → va_D A (wr ++ w' u) → va_S A H0 H1 locs1 → W p l e R s m args below meth c H1 locs1 (cells + mc) (slots + ms) Q (F0 m (pc + 3) ls rest)) : W p l e R s m args below meth c H locs cells slots Q (F0 m pc ls st) := by
  have hF := va_free (wc := wc) hD hS hA isC hC
  have hPc := part_P hP isC hC
  have hDc := nodup_D hD isC hnC hC
  refine cRV (va_runS (g := F0 m pc ls st) X hM cw ⟨PW.blind, fun U hU hW => ⟨rfl, by rw [hU], by rw [hU]; exact hPc, hK.warm hW, hDc⟩⟩ rfl hna hsize hst (lv_room hr) hdg hf) hS hF (fun u H1 locs1 hp hP1 hD1 hk hS1 => ?_)
  obtain ⟨h1, h2⟩ := va_join hP hD isC isR hC hR hn hdis hk hF hP1 hD1
  exact kk u H1 locs1 hp h1 h2 hS1
/-- an object's writing method, no pool in the caller's world -/
theorem cFV {S : Type} {post : S → Prop} {w' : S → va_W} (X : CallFix p m c cc nL s args Ts own) (hM : Met l y ws rm (PW G H.size (.ref b :: As) wc) (QV G H.size wc post w') mc ms (va_A wc H.size)) (cw : CallW R s args own C index y bytes maxL ret ws rm mc ms n) (hK : KK G s) (hP : va_P G.1 vwCl w H) (hD : va_D A w) (hS : va_S A H0 H locs) (hA : ∀ q, H0.size ≤ q → A q)
    (isC isR : List Nat) (hC : isC.map (fun i => w[i]?) = wc.map some) (hR : isR.map (fun i => w[i]?) = wr.map some) (hnC : va_nd isC = true) (hn : va_nd isR = true) (hdis : ∀ i ∈ isR, i ∉ isC) (q0 : Nat) {ci : Nat} {q : vw_C} {fs : List Value} (hc : vwCl[ci]? = some q) (hq : q.1 = C) (he : wc[q0]? = some (b, .inr (ci, fs)))
    (hst : st = As.reverse ++ .ref b :: rest) (hna : As.length = n) (hsize : ls.size = nL) (hr : (rest.map fun v => v.category).sum ≤ 8) (hdg : decode cc pc = .ok (.invokevirtual index, 3)) (hf : cells + mc ≤ R.cells ∧ slots + ms ≤ R.slots)
    (kk : ∀ (u : S) (H1 : Heap) (locs1 : List Loc), post u → va_P G.1 vwCl (wr ++ w' u) H1 → va_D A (wr ++ w' u) → va_S A H0 H1 locs1 → W p l e R s m args below meth c H1 locs1 (cells + mc) (slots + ms) Q (F0 m (pc + 3) ls rest)) : W p l e R s m args below meth c H locs cells slots Q (F0 m pc ls st) := by
  subst hq
  have hF := va_free (wc := wc) hD hS hA isC hC
  have hPc := part_P hP isC hC
  have hDc := nodup_D hD isC hnC hC
  refine cRV (va_runV (g := F0 m pc ls st) X hM cw ⟨PW.blind, va_recv hK.1 hPc hc he, fun U hU hW => ⟨rfl, by rw [hU], by rw [hU]; exact hPc, hK.warm hW, hDc⟩⟩ rfl hna hsize hst (lv_room hr) hdg hf) hS hF (fun u H1 locs1 hp hP1 hD1 hk hS1 => ?_)
  obtain ⟨h1, h2⟩ := va_join hP hD isC isR hC hR hn hdis hk hF hP1 hD1
  exact kk u H1 locs1 hp h1 h2 hS1
/-- an object's writing method, a pool pl in the caller's world that the callee has not; no answer, or an int -/
theorem cQV {S : Type} {post : S → Prop} {w' : S → va_W} (X : CallFix p m c cc nL s args Ts own) (hM : Met l y ws rm (PW G H.size (.ref b :: As) wc) (QV G H.size wc post w') mc ms (va_A wc H.size)) (cw : CallW R s args own C index y bytes maxL ret ws rm mc ms n) (hK : KK G s) (hP : va_P G.1 vwCl (w ++ pl) H) (hD : va_D A (w ++ pl)) (hS : va_S A H0 H locs) (hA : ∀ q, H0.size ≤ q → A q)
    (isC isR : List Nat) (hC : isC.map (fun i => w[i]?) = wc.map some) (hR : isR.map (fun i => w[i]?) = wr.map some) (hnC : va_nd isC = true) (hn : va_nd isR = true) (hdis : ∀ i ∈ isR, i ∉ isC) (q0 : Nat) {ci : Nat} {q : vw_C} {fs : List Value} (hc : vwCl[ci]? = some q) (hq : q.1 = C) (he : wc[q0]? = some (b, .inr (ci, fs)))
    (hst : st = As.reverse ++ .ref b :: rest) (hna : As.length = n) (hsize : ls.size = nL) (hr : (rest.map fun v => v.category).sum ≤ 8) (hdg : decode cc pc = .ok (.invokevirtual index, 3)) (hf : cells + mc ≤ R.cells ∧ slots + ms ≤ R.slots)
    (kk : ∀ (u : S) (H1 : Heap) (locs1 : List Loc), post u → va_P G.1 vwCl ((wr ++ w' u) ++ pl) H1 → va_D A ((wr ++ w' u) ++ pl) → va_S A H0 H1 locs1 → W p l e R s m args below meth c H1 locs1 (cells + mc) (slots + ms) Q (F0 m (pc + 3) ls rest)) : W p l e R s m args below meth c H locs cells slots Q (F0 m pc ls st) := by
  subst hq
  have hC2 : isC.map (fun i => (w ++ pl)[i]?) = wc.map some := cut_app isC hC
  have hF := va_free (wc := wc) hD hS hA isC hC2
  have hPc := part_P hP isC hC2
  have hDc := nodup_D hD isC hnC hC2
  refine cRV (va_runV (g := F0 m pc ls st) X hM cw ⟨PW.blind, va_recv hK.1 hPc hc he, fun U hU hW => ⟨rfl, by rw [hU], by rw [hU]; exact hPc, hK.warm hW, hDc⟩⟩ rfl hna hsize hst (lv_room hr) hdg hf) hS hF (fun u H1 locs1 hp hP1 hD1 hk hS1 => ?_)
  obtain ⟨h1, h2⟩ := va_joinQ hP hD isC isR hC hR hn hdis hk hF hP1 hD1
  exact kk u H1 locs1 hp h1 h2 hS1
theorem cQI {S : Type} {post : Int32 → S → Prop} {w' : S → va_W} (X : CallFix p m c cc nL s args Ts own) (hM : Met l y ws rm (PW G H.size (.ref b :: As) wc) (QI G H.size wc post w') mc ms (va_A wc H.size)) (cw : CallW R s args own C index y bytes maxL ret ws rm mc ms n) (hK : KK G s) (hP : va_P G.1 vwCl (w ++ pl) H) (hD : va_D A (w ++ pl)) (hS : va_S A H0 H locs) (hA : ∀ q, H0.size ≤ q → A q)
    (isC isR : List Nat) (hC : isC.map (fun i => w[i]?) = wc.map some) (hR : isR.map (fun i => w[i]?) = wr.map some) (hnC : va_nd isC = true) (hn : va_nd isR = true) (hdis : ∀ i ∈ isR, i ∉ isC) (q0 : Nat) {ci : Nat} {q : vw_C} {fs : List Value} (hc : vwCl[ci]? = some q) (hq : q.1 = C) (he : wc[q0]? = some (b, .inr (ci, fs)))
    (hst : st = As.reverse ++ .ref b :: rest) (hna : As.length = n) (hsize : ls.size = nL) (hr : (rest.map fun v => v.category).sum ≤ 8) (hdg : decode cc pc = .ok (.invokevirtual index, 3)) (hf : cells + mc ≤ R.cells ∧ slots + ms ≤ R.slots)
    (kk : ∀ (r : Int32) (u : S) (H1 : Heap) (locs1 : List Loc), post r u → va_P G.1 vwCl ((wr ++ w' u) ++ pl) H1 → va_D A ((wr ++ w' u) ++ pl) → va_S A H0 H1 locs1 → W p l e R s m args below meth c H1 locs1 (cells + mc) (slots + ms) Q (F0 m (pc + 3) ls (.int r :: rest))) : W p l e R s m args below meth c H locs cells slots Q (F0 m pc ls st) := by
  subst hq
  have hC2 : isC.map (fun i => (w ++ pl)[i]?) = wc.map some := cut_app isC hC
  have hF := va_free (wc := wc) hD hS hA isC hC2
  have hPc := part_P hP isC hC2
  have hDc := nodup_D hD isC hnC hC2
  refine cRI (va_runV (g := F0 m pc ls st) X hM cw ⟨PW.blind, va_recv hK.1 hPc hc he, fun U hU hW => ⟨rfl, by rw [hU], by rw [hU]; exact hPc, hK.warm hW, hDc⟩⟩ rfl hna hsize hst (lv_room hr) hdg hf) hS hF (fun r u H1 locs1 hp hP1 hD1 hk hS1 => ?_)
  obtain ⟨h1, h2⟩ := va_joinQ hP hD isC isR hC hR hn hdis hk hF hP1 hD1
  exact kk r u H1 locs1 hp h1 h2 hS1
/-- .. a pool that the callee has -/
theorem cPoolV {S : Type} {post : S → Prop} {w' : S → va_W} {pl' : S → va_W} (X : CallFix p m c cc nL s args Ts own) (hM : Met l y ws rm (PW G H.size (.ref b :: As) (wc ++ pl)) (QV G H.size (wc ++ pl) post (fun u => w' u ++ pl' u)) mc ms (va_A (wc ++ pl) H.size)) (cw : CallW R s args own C index y bytes maxL ret ws rm mc ms n) (hK : KK G s) (hP : va_P G.1 vwCl (w ++ pl) H) (hD : va_D A (w ++ pl)) (hS : va_S A H0 H locs) (hA : ∀ q, H0.size ≤ q → A q)
    (isC isR : List Nat) (hC : isC.map (fun i => w[i]?) = wc.map some) (hR : isR.map (fun i => w[i]?) = wr.map some) (hnC : va_nd isC = true) (hn : va_nd isR = true) (hdis : ∀ i ∈ isR, i ∉ isC) (q0 : Nat) {ci : Nat} {q : vw_C} {fs : List Value} (hc : vwCl[ci]? = some q) (hq : q.1 = C) (he : wc[q0]? = some (b, .inr (ci, fs)))
    (hst : st = As.reverse ++ .ref b :: rest) (hna : As.length = n) (hsize : ls.size = nL) (hr : (rest.map fun v => v.category).sum ≤ 8) (hdg : decode cc pc = .ok (.invokevirtual index, 3)) (hf : cells + mc ≤ R.cells ∧ slots + ms ≤ R.slots)
    (kk : ∀ (u : S) (H1 : Heap) (locs1 : List Loc), post u → va_P G.1 vwCl ((wr ++ w' u) ++ pl' u) H1 → va_D A ((wr ++ w' u) ++ pl' u) → va_S A H0 H1 locs1 → W p l e R s m args below meth c H1 locs1 (cells + mc) (slots + ms) Q (F0 m (pc + 3) ls rest)) : W p l e R s m args below meth c H locs cells slots Q (F0 m pc ls st) := by
  subst hq
  have hF := va_freeP hD hS hA isC hC
  have hPc := hP.part isC hC
  have hDc : va_D (fun _ => True) (wc ++ pl) := (hD.part isC hnC hC).weaken (fun _ _ _ _ => trivial)
  have he2 : (wc ++ pl)[q0]? = some (b, .inr (ci, fs)) := by rw [List.getElem?_append_left (List.getElem?_eq_some_iff.mp he).1]; exact he
  refine cRV (va_runV (g := F0 m pc ls st) X hM cw ⟨PW.blind, va_recv hK.1 hPc hc he2, fun U hU hW => ⟨rfl, by rw [hU], by rw [hU]; exact hPc, hK.warm hW, hDc⟩⟩ rfl hna hsize hst (lv_room hr) hdg hf) hS hF (fun u H1 locs1 hp hP1 hD1 hk hS1 => ?_)
  obtain ⟨h1, h2⟩ := va_joinP hP hD isC isR hC hR hn hdis hk hF hP1 hD1
  exact kk u H1 locs1 hp h1 h2 hS1
end FRAME
