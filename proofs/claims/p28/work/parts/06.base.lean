abbrev vwCl : List vw_C := [(RX0, TX0, 3), (RX1, TX1, 2), (RX2, TX2, 13), (RX3, TX3, 5)]
/-! THE BASE: worlds of this claim, contracts in short, heads, calls and ends -/
-- G: the objects' classes and slots, and the classes of int[], char[], boolean[], Table[]
abbrev qG : Type := va_G × ClassId × ClassId × ClassId × ClassId
abbrev gI (G : qG) : ClassId := G.2.1
abbrev gC (G : qG) : ClassId := G.2.2.1
abbrev gZ (G : qG) : ClassId := G.2.2.2.1
abbrev gR (G : qG) : ClassId := G.2.2.2.2
def gT (G : qG) : List (ClassId × FieldType) := [(gI G, .int), (gC G, .char), (gR G, .object RX2)]
def qNest (U : State) : Prop := va_Nw (.methodLinkNest RX2 64 yX3_isPlayer RX3) U ∧ va_Nw (.methodLinkNest RX0 30 yX2_init RX3) U ∧ va_Nw (.methodLinkNest RX3 9 yX2_init RX3) U ∧ va_Nw (.methodLinkNest RX3 21 yX0_init RX3) U ∧ va_Nw (.methodLinkNest RX3 32 yX1_init RX3) U
theorem qNest.warm {s U : State} (h : qNest s) (hW : s.WarmedH U.vm) : qNest U := ⟨va_Nw.warmM hW h.1, va_Nw.warmM hW h.2.1, va_Nw.warmM hW h.2.2.1, va_Nw.warmM hW h.2.2.2.1, va_Nw.warmM hW h.2.2.2.2⟩
theorem qNest.same {u U : State} (h : qNest u) (e : u.vm = U.vm) : qNest U := ⟨va_Nw.same rfl e h.1, va_Nw.same rfl e h.2.1, va_Nw.same rfl e h.2.2.1, va_Nw.same rfl e h.2.2.2.1, va_Nw.same rfl e h.2.2.2.2⟩
/-- what the tables say, of a state -/
def KK (G : qG) (U : State) : Prop := va_K G.1 vwCl (gT G) U ∧ qNest U ∧ va_AO RX2 U
theorem KK.warm {G : qG} {s U : State} (h : KK G s) (hW : s.WarmedH U.vm) : KK G U := ⟨va_K.moved hW.alike h.1, h.2.1.warm hW, va_AO.moved hW.alike h.2.2⟩
theorem KK.call {G : qG} {U : State} {g : JFrame} {mk : MethodId} {a : Array Value} (h : KK G U) : KK G (U.calling g mk a) := ⟨va_K.moved (u := U) (U := U.calling g mk a) (Vm.Alike.refl U.vm) h.1, h.2.1.same rfl, va_AO.moved (u := U) (U := U.calling g mk a) (Vm.Alike.refl U.vm) h.2.2⟩
/-- a reading method's start: the cells w -/
def PP (G : qG) (av : List Value) (w : va_W) : Array Value → State → Prop := va_Pc av (fun U => va_P G.1 vwCl w U.heap ∧ KK G U)
/-- a writing method's start: the cells w, apart; the heap has sz cells -/
def PW (G : qG) (sz : Nat) (av : List Value) (w : va_W) : Array Value → State → Prop := va_Pc av (fun U => U.heap.size = sz ∧ va_P G.1 vwCl w U.heap ∧ KK G U ∧ va_D (fun _ => True) w)
theorem PP.blind {G : qG} {av : List Value} {w : va_W} : FrameBlind (PP G av w) := fun _ _ _ _ q => ⟨q.1, q.2.1, q.2.2.call⟩
theorem PW.blind {G : qG} {sz : Nat} {av : List Value} {w : va_W} : FrameBlind (PW G sz av w) := fun _ _ _ _ q => ⟨q.1, q.2.1, q.2.2.1, q.2.2.2.1.call, q.2.2.2.2⟩
/-- a writing method's end: an answer v of an int kind, the cells w' -/
abbrev QI {S : Type} (G : qG) (sz : Nat) (w : va_W) (post : Int32 → S → Prop) (w' : S → va_W) : Array Value → State → Outcome → State → Prop := va_Qi post (fun u t => va_P G.1 vwCl (w' u) t.heap ∧ va_D (va_A w sz) (w' u)) (va_A w sz)
abbrev QV {S : Type} (G : qG) (sz : Nat) (w : va_W) (post : S → Prop) (w' : S → va_W) : Array Value → State → Outcome → State → Prop := va_Qv post (fun u t => va_P G.1 vwCl (w' u) t.heap ∧ va_D (va_A w sz) (w' u)) (va_A w sz)
/-- a reading method that answers v -/
abbrev MP (l : Launch) (y : MethodName) (ws : List Cond) (fr lo : Nat) (G : qG) (av : List Value) (w : va_W) (v : Int32) : Prop := Met l y ws { frames := fr, cells := 0, slots := 0, locals := lo } (PP G av w) (vp_Si (fun r => r = v)) 0 0 (fun _ => False)
/-- a writing method that makes nothing, answers v and leaves the cells w' -/
abbrev MI (l : Launch) (y : MethodName) (ws : List Cond) (fr lo : Nat) (G : qG) (sz : Nat) (av : List Value) (w : va_W) (v : Int32) (w' : va_W) : Prop := Met l y ws { frames := fr, cells := 0, slots := 0, locals := lo } (PW G sz av w) (QI (S := Unit) G sz w (fun r _ => r = v) (fun _ => w')) 0 0 (va_A w sz)
abbrev MV (l : Launch) (y : MethodName) (ws : List Cond) (fr lo : Nat) (G : qG) (sz : Nat) (av : List Value) (w : va_W) (w' : va_W) : Prop := Met l y ws { frames := fr, cells := 0, slots := 0, locals := lo } (PW G sz av w) (QV (S := Unit) G sz w (fun _ => True) (fun _ => w')) 0 0 (va_A w sz)
theorem lv_start {m : MethodId} (vs : List Value) {n : Nat} (h : (lg_sl vs).length ≤ n) : ∃ ls : Array Slot, entryFrame m vs.toArray n = F0 m 0 ls [] ∧ lv_has ls n (lv_args 0 vs) := ⟨_, lg_entry_eq m vs n, lv_entry vs h⟩
section HEADS
variable {l : Launch} {y : MethodName} {ws ws' : List Cond} {fr lo mc ms : Nat} {G : qG} {av : List Value} {w : va_W} {cc : ByteArray} {maxL sz : Nat}
/-- THE HEAD of a reading method that answers an int (or a boolean, a char: ty) -/
theorem MP.of {v : Int32} {ty : FieldType} (hy : plainName y.cls = true) (hw : ws = Cond.code y cc maxL (some ty) :: ws') (hav : (lg_sl av).length ≤ maxL) (hn : narrow ty (.int v) = .int v)
    (body : ∀ (p : Program) (e : Env) (s : State) (m : MethodId) (below : List Frame) (meth : Method) (c : Code), p.tables.exec = Jvm.exec → c.code = cc → c.maxLocals = maxL → s.vm.findClass y.cls = some m.cls → (∀ x ∈ ws, x.before av.toArray s = true) → KK G s → va_P G.1 vwCl w s.heap →
      ∀ Q : State → Prop, (∀ (pc : Nat) (ls : Array Slot) (r : Int32), r = v → decode cc pc = .ok (.ireturn, 1) → W p l e { frames := fr, cells := 0, slots := 0, locals := lo } s m av.toArray below meth c s.heap [] 0 0 Q (F0 m pc ls [.int r])) →
      ∀ ls : Array Slot, lv_has ls maxL (lv_args 0 av) → W p l e { frames := fr, cells := 0, slots := 0, locals := lo } s m av.toArray below meth c s.heap [] 0 0 Q (F0 m 0 ls [])) : MP l y ws fr lo G av w v := by
  refine Met.ofW (cc := cc) (maxL := maxL) (ret := some ty) hy hw ?_
  intro p e s m args below meth c s₁ B hml hv
  obtain ⟨rfl, hP, hK⟩ := hv
  have hts := atoms_spec (ws := ws) B.pre
  obtain ⟨ls, he, hl⟩ := lv_start (m := m) av hav
  rw [he]
  refine body p e s m below meth c B.exec B.bytes hml (findClass_of_methodNamed B.named) hts hK hP _ ?_ ls hl
  intro pc ls r hr hd
  subst hr
  exact W.zret B.exec B.bytes B.returns hn (fun t ht _ => ⟨_, rfl, rfl, ht⟩) (fun q h => by cases h) hd B.notSynchronized
/-- THE HEAD of a writing method that answers an int -/
theorem MI.of' {S : Type} {post : Int32 → S → Prop} {w' : S → va_W} {rm : Room} (hy : plainName y.cls = true) (hw : ws = Cond.code y cc maxL (some .int) :: ws') (hav : (lg_sl av).length ≤ maxL)
    (body : ∀ (p : Program) (e : Env) (s : State) (m : MethodId) (below : List Frame) (meth : Method) (c : Code), p.tables.exec = Jvm.exec → c.code = cc → c.maxLocals = maxL → s.vm.findClass y.cls = some m.cls → (∀ x ∈ ws, x.before av.toArray s = true) → KK G s → s.heap.size = sz → va_P G.1 vwCl w s.heap →
      ∀ A : Nat → Prop, A = va_A w sz → (∀ q : Nat, s.heap.size ≤ q → A q) → va_D A w → va_S A s.heap s.heap [] →
      ∀ Q : State → Prop, (∀ (H : Heap) (locs : List Loc) (pc : Nat) (ls : Array Slot) (r : Int32) (u : S), post r u → va_P G.1 vwCl (w' u) H → va_D A (w' u) → va_S A s.heap H locs → decode cc pc = .ok (.ireturn, 1) → W p l e rm s m av.toArray below meth c H locs mc ms Q (F0 m pc ls [.int r])) →
      ∀ ls : Array Slot, lv_has ls maxL (lv_args 0 av) → W p l e rm s m av.toArray below meth c s.heap [] 0 0 Q (F0 m 0 ls [])) :
    Met l y ws rm (PW G sz av w) (QI G sz w post w') mc ms (va_A w sz) := by
  refine Met.ofW (cc := cc) (maxL := maxL) (ret := some .int) hy hw ?_
  intro p e s m args below meth c s₁ B hml hv
  obtain ⟨rfl, hsz, hP, hK, hD⟩ := hv
  have hts := atoms_spec (ws := ws) B.pre
  obtain ⟨ls, he, hl⟩ := lv_start (m := m) av hav
  rw [he]
  subst hsz
  refine body p e s m below meth c B.exec B.bytes hml (findClass_of_methodNamed B.named) hts hK rfl hP _ rfl (fun q h => Or.inr h) hD.self va_S.rf _ ?_ ls hl
  intro H locs pc ls r u hp hP1 hD1 hS hd
  exact W.iret B.exec B.bytes B.returns (fun t ht _ => ⟨⟨r, u, rfl, hp, by rw [ht]; exact hP1, hD1⟩, hS.F ht⟩) hS.2.2 hd B.notSynchronized
theorem MV.of' {S : Type} {post : S → Prop} {w' : S → va_W} {rm : Room} (hy : plainName y.cls = true) (hw : ws = Cond.code y cc maxL none :: ws') (hav : (lg_sl av).length ≤ maxL)
    (body : ∀ (p : Program) (e : Env) (s : State) (m : MethodId) (below : List Frame) (meth : Method) (c : Code), p.tables.exec = Jvm.exec → c.code = cc → c.maxLocals = maxL → s.vm.findClass y.cls = some m.cls → (∀ x ∈ ws, x.before av.toArray s = true) → KK G s → s.heap.size = sz → va_P G.1 vwCl w s.heap →
      ∀ A : Nat → Prop, A = va_A w sz → (∀ q : Nat, s.heap.size ≤ q → A q) → va_D A w → va_S A s.heap s.heap [] → meth.name = y.name →
      ∀ Q : State → Prop, (∀ (H : Heap) (locs : List Loc) (pc : Nat) (ls : Array Slot) (u : S), post u → va_P G.1 vwCl (w' u) H → va_D A (w' u) → va_S A s.heap H locs → decode cc pc = .ok (.return_, 1) → W p l e rm s m av.toArray below meth c H locs mc ms Q (F0 m pc ls [])) →
      ∀ ls : Array Slot, lv_has ls maxL (lv_args 0 av) → W p l e rm s m av.toArray below meth c s.heap [] 0 0 Q (F0 m 0 ls [])) :
    Met l y ws rm (PW G sz av w) (QV G sz w post w') mc ms (va_A w sz) := by
  refine Met.ofW (cc := cc) (maxL := maxL) (ret := none) hy hw ?_
  intro p e s m args below meth c s₁ B hml hv
  obtain ⟨rfl, hsz, hP, hK, hD⟩ := hv
  have hts := atoms_spec (ws := ws) B.pre
  obtain ⟨ls, he, hl⟩ := lv_start (m := m) av hav
  rw [he]
  subst hsz
  refine body p e s m below meth c B.exec B.bytes hml (findClass_of_methodNamed B.named) hts hK rfl hP _ rfl (fun q h => Or.inr h) hD.self va_S.rf (name_of_methodNamed B.named B.method).1 _ ?_ ls hl
  intro H locs pc ls u hp hP1 hD1 hS hd
  exact W.vret B.exec B.bytes B.returns (fun t ht _ => ⟨⟨u, rfl, hp, by rw [ht]; exact hP1, hD1⟩, hS.F ht⟩) hS.2.2 hd B.notSynchronized
end HEADS
section CALLS
variable {p : Program} {l : Launch} {e : Env} {R : Room} {s : State} {m : MethodId} {args : Array Value} {below : List Frame} {meth : Method} {c : Code} {H H0 : Heap} {locs : List Loc} {cells slots : Nat} {Q : State → Prop}
variable {y : MethodName} {bytes cc : ByteArray} {maxL nL mc ms n index pc : Nat} {ret : Option FieldType} {ws : List Cond} {rm : Room} {Ts : List Cond} {own C host : String} {b : Addr} {As rest st : List Value} {ls : Array Slot} {G : qG} {wc w : va_W} {A : Nat → Prop}
/-- a reading call of an object's method -/
theorem cPV {v : Int32} (S : CallFix p m c cc nL s args Ts own) (hM : Met l y ws rm (PP G (.ref b :: As) wc) (vp_Si (fun r => r = v)) 0 0 (fun _ => False)) (cw : CallW R s args own C index y bytes maxL ret ws rm 0 0 n) (hK : KK G s) (hP : va_P G.1 vwCl wc H) (q0 : Nat) {ci : Nat} {q : vw_C} {fs : List Value} (hc : vwCl[ci]? = some q) (hq : q.1 = C) (he : wc[q0]? = some (b, .inr (ci, fs)))
    (hst : st = As.reverse ++ .ref b :: rest) (hn : As.length = n) (hsize : ls.size = nL) (hr : (rest.map fun v => v.category).sum ≤ 8) (hdg : decode cc pc = .ok (.invokevirtual index, 3)) (hf : cells + 0 ≤ R.cells ∧ slots + 0 ≤ R.slots)
    (kk : W p l e R s m args below meth c H locs cells slots Q (F0 m (pc + 3) ls (.int v :: rest))) : W p l e R s m args below meth c H locs cells slots Q (F0 m pc ls st) := by
  subst hq
  exact vp_callSi (W.runV (g := F0 m pc ls st) S hM cw ⟨PP.blind, va_recv hK.1 hP hc he, fun U hU hW => ⟨rfl, by rw [hU]; exact hP, hK.warm hW⟩⟩ rfl hn hsize hst (lv_room hr) hdg hf) (fun r hr => by rw [hr]; exact kk)
/-- a reading call of a static method of the own class -/
theorem cPS {v : Int32} (S : CallFix p m c cc nL s args Ts own) (hM : Met l y ws rm (PP G As wc) (vp_Si (fun r => r = v)) 0 0 (fun _ => False)) (cw : CallB R s args own index y bytes maxL ret ws rm 0 0 n ∧ (Cond.static y).before args s = true) (hK : KK G s) (hP : va_P G.1 vwCl wc H)
    (hst : st = As.reverse ++ rest) (hn : As.length = n) (hsize : ls.size = nL) (hr : (rest.map fun v => v.category).sum ≤ 8) (hdg : decode cc pc = .ok (.invokestatic index, 3)) (hf : cells + 0 ≤ R.cells ∧ slots + 0 ≤ R.slots)
    (kk : W p l e R s m args below meth c H locs cells slots Q (F0 m (pc + 3) ls (.int v :: rest))) : W p l e R s m args below meth c H locs cells slots Q (F0 m pc ls st) :=
  vp_callSi (W.runS (g := F0 m pc ls st) S hM cw ⟨PP.blind, fun U hU hW => ⟨rfl, by rw [hU]; exact hP, hK.warm hW⟩⟩ rfl hn hsize hst (lv_room hr) hdg hf) (fun r hr => by rw [hr]; exact kk)
theorem va_Run.toCallRun {Qa : State → Outcome → State → Prop} {free : Addr → Prop} {g : JFrame} (h : va_Run p l e R s m args below meth c H locs cells slots mc ms g rest Qa free) : CallRun p l e R s m args below meth c H locs cells slots mc ms g rest Qa free := fun T hT X => by
  obtain ⟨v, st₀, t, T', L, h0, X', hL, e1, -, hq, st⟩ := h T hT X
  exact ⟨v, st₀, t, T', L, h0, X', hL, e1, hq, st⟩
/-- .. of a nest mate's private static method -/
theorem cPN {v : Int32} (S : CallFix p m c cc nL s args Ts own) (hM : Met l y ws rm (PP G As wc) (vp_Si (fun r => r = v)) 0 0 (fun _ => False)) (cw : va_CN R s args own index y host bytes maxL ret ws rm 0 0 n ∧ (Cond.static y).before args s = true ∧ True) (hK : KK G s) (hP : va_P G.1 vwCl wc H)
    (hst : st = As.reverse ++ rest) (hn : As.length = n) (hsize : ls.size = nL) (hr : (rest.map fun v => v.category).sum ≤ 8) (hdg : decode cc pc = .ok (.invokestatic index, 3)) (hf : cells + 0 ≤ R.cells ∧ slots + 0 ≤ R.slots)
    (kk : W p l e R s m args below meth c H locs cells slots Q (F0 m (pc + 3) ls (.int v :: rest))) : W p l e R s m args below meth c H locs cells slots Q (F0 m pc ls st) :=
  vp_callSi (va_runSN (g := F0 m pc ls st) S hM cw ⟨PP.blind, fun U hU hW => ⟨rfl, by rw [hU]; exact hP, hK.warm hW⟩⟩ rfl hn hsize hst (lv_room hr) hdg hf).toCallRun (fun r hr => by rw [hr]; exact kk)
/-- what a writing call gives back: any way of running it -/
theorem cRI {S : Type} {post : Int32 → S → Prop} {w' : S → va_W} {a : Array Value} (hr : va_Run p l e R s m args below meth c H locs cells slots mc ms (F0 m pc ls st) rest (QI G H.size wc post w' a) (va_A wc H.size)) (hS : va_S A H0 H locs) (hF : ∀ q, va_A wc H.size q → A q)
    (kk : ∀ (r : Int32) (u : S) (H1 : Heap) (locs1 : List Loc), post r u → va_P G.1 vwCl (w' u) H1 → va_D (va_A wc H.size) (w' u) → (∀ q : Nat, q < H.size → ¬ va_A wc H.size q → H1[q]? = H[q]?) → va_S A H0 H1 locs1 → W p l e R s m args below meth c H1 locs1 (cells + mc) (slots + ms) Q (F0 m (pc + 3) ls (.int r :: rest))) : W p l e R s m args below meth c H locs cells slots Q (F0 m pc ls st) :=
  va_calli hr hS (fun q _ h => hF q h) hF (fun r u t H1 locs1 ht _ hp hB _ hk hS1 => kk r u H1 locs1 hp (by rw [← ht]; exact hB.1) hB.2 hk hS1)
theorem cRV {S : Type} {post : S → Prop} {w' : S → va_W} {a : Array Value} (hr : va_Run p l e R s m args below meth c H locs cells slots mc ms (F0 m pc ls st) rest (QV G H.size wc post w' a) (va_A wc H.size)) (hS : va_S A H0 H locs) (hF : ∀ q, va_A wc H.size q → A q)
    (kk : ∀ (u : S) (H1 : Heap) (locs1 : List Loc), post u → va_P G.1 vwCl (w' u) H1 → va_D (va_A wc H.size) (w' u) → (∀ q : Nat, q < H.size → ¬ va_A wc H.size q → H1[q]? = H[q]?) → va_S A H0 H1 locs1 → W p l e R s m args below meth c H1 locs1 (cells + mc) (slots + ms) Q (F0 m (pc + 3) ls rest)) : W p l e R s m args below meth c H locs cells slots Q (F0 m pc ls st) :=
  va_callv hr hS (fun q _ h => hF q h) hF (fun u t H1 locs1 ht _ hp hB _ hk hS1 => kk u H1 locs1 hp (by rw [← ht]; exact hB.1) hB.2 hk hS1)
theorem free_all {w : va_W} (hD : va_D A w) (hS : va_S A H0 H locs) (hA : ∀ q, H0.size ≤ q → A q) : ∀ q, va_A w H.size q → A q := by
  intro q h
  rcases h with ⟨k, e, h⟩ | h
  · exact hD.2 k (q, e) h
  · exact hA q (Nat.le_trans hS.1 h)
/-- a writing call that has the whole world: an object's method, an int -/
theorem cAI {S : Type} {post : Int32 → S → Prop} {w' : S → va_W} (X : CallFix p m c cc nL s args Ts own) (hM : Met l y ws rm (PW G H.size (.ref b :: As) w) (QI G H.size w post w') mc ms (va_A w H.size)) (cw : CallW R s args own C index y bytes maxL ret ws rm mc ms n) (hK : KK G s) (hP : va_P G.1 vwCl w H) (hD : va_D A w) (hS : va_S A H0 H locs) (hA : ∀ q, H0.size ≤ q → A q) (q0 : Nat) {ci : Nat} {q : vw_C} {fs : List Value} (hc : vwCl[ci]? = some q) (hq : q.1 = C) (he : w[q0]? = some (b, .inr (ci, fs)))
    (hst : st = As.reverse ++ .ref b :: rest) (hn : As.length = n) (hsize : ls.size = nL) (hr : (rest.map fun v => v.category).sum ≤ 8) (hdg : decode cc pc = .ok (.invokevirtual index, 3)) (hf : cells + mc ≤ R.cells ∧ slots + ms ≤ R.slots)
    (kk : ∀ (r : Int32) (u : S) (H1 : Heap) (locs1 : List Loc), post r u → va_P G.1 vwCl (w' u) H1 → va_D A (w' u) → va_S A H0 H1 locs1 → W p l e R s m args below meth c H1 locs1 (cells + mc) (slots + ms) Q (F0 m (pc + 3) ls (.int r :: rest))) : W p l e R s m args below meth c H locs cells slots Q (F0 m pc ls st) := by
  subst hq
  have hF := free_all hD hS hA
  exact cRI (va_runV (g := F0 m pc ls st) X hM cw ⟨PW.blind, va_recv hK.1 hP hc he, fun U hU hW => ⟨rfl, by rw [hU], by rw [hU]; exact hP, hK.warm hW, hD.weaken (fun _ _ _ _ => trivial)⟩⟩ rfl hn hsize hst (lv_room hr) hdg hf) hS hF (fun r u H1 locs1 hp hP1 hD1 _ hS1 => kk r u H1 locs1 hp hP1 (hD1.weaken (fun _ q _ h => hF q.1 h)) hS1)
theorem cAV {S : Type} {post : S → Prop} {w' : S → va_W} (X : CallFix p m c cc nL s args Ts own) (hM : Met l y ws rm (PW G H.size (.ref b :: As) w) (QV G H.size w post w') mc ms (va_A w H.size)) (cw : CallW R s args own C index y bytes maxL ret ws rm mc ms n) (hK : KK G s) (hP : va_P G.1 vwCl w H) (hD : va_D A w) (hS : va_S A H0 H locs) (hA : ∀ q, H0.size ≤ q → A q) (q0 : Nat) {ci : Nat} {q : vw_C} {fs : List Value} (hc : vwCl[ci]? = some q) (hq : q.1 = C) (he : w[q0]? = some (b, .inr (ci, fs)))
    (hst : st = As.reverse ++ .ref b :: rest) (hn : As.length = n) (hsize : ls.size = nL) (hr : (rest.map fun v => v.category).sum ≤ 8) (hdg : decode cc pc = .ok (.invokevirtual index, 3)) (hf : cells + mc ≤ R.cells ∧ slots + ms ≤ R.slots)
    (kk : ∀ (u : S) (H1 : Heap) (locs1 : List Loc), post u → va_P G.1 vwCl (w' u) H1 → va_D A (w' u) → va_S A H0 H1 locs1 → W p l e R s m args below meth c H1 locs1 (cells + mc) (slots + ms) Q (F0 m (pc + 3) ls rest)) : W p l e R s m args below meth c H locs cells slots Q (F0 m pc ls st) := by
  subst hq
  have hF := free_all hD hS hA
  exact cRV (va_runV (g := F0 m pc ls st) X hM cw ⟨PW.blind, va_recv hK.1 hP hc he, fun U hU hW => ⟨rfl, by rw [hU], by rw [hU]; exact hP, hK.warm hW, hD.weaken (fun _ _ _ _ => trivial)⟩⟩ rfl hn hsize hst (lv_room hr) hdg hf) hS hF (fun u H1 locs1 hp hP1 hD1 _ hS1 => kk u H1 locs1 hp hP1 (hD1.weaken (fun _ q _ h => hF q.1 h)) hS1)
end CALLS
/-! records: T k i is the place i of the row k -/
abbrev Tb : Type := Nat → Nat → Int32
def tup (T : Tb) (k i : Nat) (x : Int32) : Tb := fun a => if a = k then upd (T k) i x else T a
/-- the cells of a Table: rows 0 settings, 1 prizes, 2 coins, 3 limits, 4 places, 5 bids, 6 placesGot, 7 paid, 8 taken, 9 won; row 10: underWay, turn, rounds -/
def tw (G : qG) (a : Nat → Nat) (T : Tb) : va_W := [(a 0, .inr (2, [.ref (a 1), .ref (a 2), .ref (a 3), .ref (a 4), .ref (a 5), .ref (a 6), .ref (a 7), .ref (a 8), .ref (a 9), .ref (a 10), .int (T 10 0), .int (T 10 1), .int (T 10 2)])),
  (a 1, .inl (gI G, 4, .inl (T 0))), (a 2, .inl (gI G, 5, .inl (T 1))), (a 3, .inl (gI G, 5, .inl (T 2))), (a 4, .inl (gI G, 5, .inl (T 3))), (a 5, .inl (gI G, 5, .inl (T 4))), (a 6, .inl (gI G, 5, .inl (T 5))), (a 7, .inl (gI G, 5, .inl (T 6))), (a 8, .inl (gI G, 5, .inl (T 7))), (a 9, .inl (gI G, 5, .inl (T 8))), (a 10, .inl (gI G, 5, .inl (T 9)))]
/-- the cells of a Pad: signs, length -/
def pw (G : qG) (a : Nat → Nat) (ps : Nat → Int32) (ln : Int32) : va_W := [(a 0, .inr (1, [.ref (a 1), .int ln])), (a 1, .inl (gC G, 60, .inl ps))]
abbrev NOSUCH : Int32 := -100001
abbrev BADVAL : Int32 := -100002
abbrev BADTEXT : Int32 := -100003
abbrev TOOMANY : Int32 := -100004
abbrev NOTPOS : Int32 := -100005
abbrev NONE : Int32 := -100006
abbrev ix (x : Int32) : Nat := x.toNatClampNeg
section ROWS
variable {p : Program} {l : Launch} {e : Env} {R : Room} {s : State} {m : MethodId} {args : Array Value} {below : List Frame} {meth : Method} {c : Code} {H H0 : Heap} {locs : List Loc} {cells slots : Nat} {Q : State → Prop}
variable {D : va_G} {cl : List vw_C} {ws : va_W} {tys : List (ClassId × FieldType)} {a : Nat} {cc : ByteArray} {pc : Nat} {ls : Array Slot} {rest : List Value} {A : Nat → Prop}
theorem qtop {x y : Int32} (h : x = y) (k : W p l e R s m args below meth c H locs cells slots Q (F0 m pc ls (.int y :: rest))) : W p l e R s m args below meth c H locs cells slots Q (F0 m pc ls (.int x :: rest)) := by rw [h]; exact k
theorem qild (hexec : p.tables.exec = Jvm.exec) (hb : c.code = cc) (hK : va_K D cl tys s) (hP : va_P D cl ws H) (q0 t0 : Nat) {cA : ClassId} {n : Nat} {f : Nat → Int32} (ha : ws[q0]? = some (a, .inl (cA, n, .inl f))) (ht : tys[t0]? = some (cA, .int)) {i : Int32} {k : Nat} (hk : i.toNatClampNeg = k) (hin : vp_in i n) (hdg : decode cc pc = .ok (.iaload, 1))
    (kk : W p l e R s m args below meth c H locs cells slots Q (F0 m (pc + 1) ls (.int (f k) :: rest))) : W p l e R s m args below meth c H locs cells slots Q (F0 m pc ls (.int i :: .ref a :: rest)) := by
  subst hk; exact va_iald hexec hb hK hP q0 t0 ha ht hin hdg kk
theorem qzld (hexec : p.tables.exec = Jvm.exec) (hb : c.code = cc) (hK : va_K D cl tys s) (hP : va_P D cl ws H) (q0 t0 : Nat) {cA : ClassId} {n : Nat} {f : Nat → Int32} (ha : ws[q0]? = some (a, .inl (cA, n, .inl f))) (ht : tys[t0]? = some (cA, .boolean)) {i : Int32} {k : Nat} (hk : i.toNatClampNeg = k) (hin : vp_in i n) (hdg : decode cc pc = .ok (.baload, 1))
    (kk : W p l e R s m args below meth c H locs cells slots Q (F0 m (pc + 1) ls (.int (f k) :: rest))) : W p l e R s m args below meth c H locs cells slots Q (F0 m pc ls (.int i :: .ref a :: rest)) := by
  subst hk; exact va_zald hexec hb hK hP q0 t0 ha ht hin hdg kk
theorem qcld (hexec : p.tables.exec = Jvm.exec) (hb : c.code = cc) (hK : va_K D cl tys s) (hP : va_P D cl ws H) (q0 t0 : Nat) {cA : ClassId} {n : Nat} {f : Nat → Int32} (ha : ws[q0]? = some (a, .inl (cA, n, .inl f))) (ht : tys[t0]? = some (cA, .char)) {i : Int32} {k : Nat} (hk : i.toNatClampNeg = k) (hin : vp_in i n) (hdg : decode cc pc = .ok (.caload, 1))
    (kk : W p l e R s m args below meth c H locs cells slots Q (F0 m (pc + 1) ls (.int (f k) :: rest))) : W p l e R s m args below meth c H locs cells slots Q (F0 m pc ls (.int i :: .ref a :: rest)) := by
  subst hk; exact va_cald hexec hb hK hP q0 t0 ha ht hin hdg kk
theorem qist (hexec : p.tables.exec = Jvm.exec) (hb : c.code = cc) (hK : va_K D cl tys s) (hP : va_P D cl ws H) (hD : va_D A ws) (hS : va_S A H0 H locs) (q0 t0 : Nat) {cA : ClassId} {n : Nat} {f : Nat → Int32} (ha : ws[q0]? = some (a, .inl (cA, n, .inl f))) (ht : tys[t0]? = some (cA, .int)) {i : Int32} {x : Int32} {k : Nat} (hk : i.toNatClampNeg = k) (hin : vp_in i n) (hdg : decode cc pc = .ok (.iastore, 1))
    (kk : ∀ (H1 : Heap) (locs1 : List Loc), va_P D cl (ws.set q0 (a, .inl (cA, n, .inl (upd f k x)))) H1 → va_D A (ws.set q0 (a, .inl (cA, n, .inl (upd f k x)))) → va_S A H0 H1 locs1 → W p l e R s m args below meth c H1 locs1 cells slots Q (F0 m (pc + 1) ls rest)) : W p l e R s m args below meth c H locs cells slots Q (F0 m pc ls (.int x :: .int i :: .ref a :: rest)) := by
  subst hk; exact va_iast hexec hb hK hP hD hS q0 t0 ha ht hin hdg kk
theorem qzst (hexec : p.tables.exec = Jvm.exec) (hb : c.code = cc) (hK : va_K D cl tys s) (hP : va_P D cl ws H) (hD : va_D A ws) (hS : va_S A H0 H locs) (q0 t0 : Nat) {cA : ClassId} {n : Nat} {f : Nat → Int32} (ha : ws[q0]? = some (a, .inl (cA, n, .inl f))) (ht : tys[t0]? = some (cA, .boolean)) {i : Int32} {x : Int32} {k : Nat} (hk : i.toNatClampNeg = k) (hin : vp_in i n) (hx : vp_nar .boolean x = x) (hdg : decode cc pc = .ok (.bastore, 1))
    (kk : ∀ (H1 : Heap) (locs1 : List Loc), va_P D cl (ws.set q0 (a, .inl (cA, n, .inl (upd f k x)))) H1 → va_D A (ws.set q0 (a, .inl (cA, n, .inl (upd f k x)))) → va_S A H0 H1 locs1 → W p l e R s m args below meth c H1 locs1 cells slots Q (F0 m (pc + 1) ls rest)) : W p l e R s m args below meth c H locs cells slots Q (F0 m pc ls (.int x :: .int i :: .ref a :: rest)) := by
  subst hk; exact va_zast hexec hb hK hP hD hS q0 t0 ha ht hin hdg (by rw [hx]; exact kk)
theorem qcst (hexec : p.tables.exec = Jvm.exec) (hb : c.code = cc) (hK : va_K D cl tys s) (hP : va_P D cl ws H) (hD : va_D A ws) (hS : va_S A H0 H locs) (q0 t0 : Nat) {cA : ClassId} {n : Nat} {f : Nat → Int32} (ha : ws[q0]? = some (a, .inl (cA, n, .inl f))) (ht : tys[t0]? = some (cA, .char)) {i : Int32} {x : Int32} {k : Nat} (hk : i.toNatClampNeg = k) (hin : vp_in i n) (hx : vp_nar .char x = x) (hdg : decode cc pc = .ok (.castore, 1))
    (kk : ∀ (H1 : Heap) (locs1 : List Loc), va_P D cl (ws.set q0 (a, .inl (cA, n, .inl (upd f k x)))) H1 → va_D A (ws.set q0 (a, .inl (cA, n, .inl (upd f k x)))) → va_S A H0 H1 locs1 → W p l e R s m args below meth c H1 locs1 cells slots Q (F0 m (pc + 1) ls rest)) : W p l e R s m args below meth c H locs cells slots Q (F0 m pc ls (.int x :: .int i :: .ref a :: rest)) := by
  subst hk; exact va_cast hexec hb hK hP hD hS q0 t0 ha ht hin hdg (by rw [hx]; exact kk)
theorem arr_congr {cA : ClassId} {N : Nat} {f g : Nat → Int32} (h : ∀ j, j < N → f j = g j) : vp_cell cA (N, .inl f) = vp_cell cA (N, .inl g) := by
  rw [vp_cell_i, vp_cell_i]
  have e : (Array.ofFn (n := N) fun j => Value.int (f j.val)) = (Array.ofFn (n := N) fun j => Value.int (g j.val)) := by
    congr 1
    funext j
    rw [h j.val j.isLt]
  unfold arrV
  rw [e]
theorem va_P.cell {H : Heap} {p a : Nat} {e e2 : va_E} (h : va_P D cl (ws.set p (a, e)) H) (he : va_at D cl (a, e) H → va_at D cl (a, e2) H) : va_P D cl (ws.set p (a, e2)) H := by
  intro k q hk
  by_cases hp : p = k
  · subst hp
    by_cases hl : p < ws.length
    · rw [List.getElem?_set_self hl] at hk
      cases hk
      exact he (h p (a, e) (by rw [List.getElem?_set_self hl]))
    · rw [List.getElem?_eq_none (by rw [List.length_set]; omega)] at hk
      cases hk
  · rw [List.getElem?_set_ne hp] at hk
    exact h k q (by rw [List.getElem?_set_ne hp]; exact hk)
/-- System.arraycopy of a whole row of ints onto another -/
theorem qcopy (hexec : p.tables.exec = Jvm.exec) (hb : c.code = cc) (hml : c.maxLocals = ls.size) {own : String} {index : Nat} (hown : s.vm.findClass own = some m.cls) (hlink : (Cond.methodLink own index arraycopyName).before args s = true) (hnat : (Cond.native arraycopyName).before args s = true) (hstat : (Cond.static arraycopyName).before args s = true) (hini : (Cond.initialized "java/lang/System").before args s = true)
    (hK : va_K D cl tys s) (hP : va_P D cl ws H) (hD : va_D A ws) (hS : va_S A H0 H locs) (q0 q1 t0 : Nat) {a0 : Nat} {cA : ClassId} {N : Nat} {f g : Nat → Int32} (ha0 : ws[q0]? = some (a0, .inl (cA, N, .inl f))) (ha1 : ws[q1]? = some (a, .inl (cA, N, .inl g))) (ht : tys[t0]? = some (cA, .int)) {n : Int32} (hn : n.toNatClampNeg = N) (h3 : ¬ n < 0)
    (hframes : 1 ≤ R.frames) (hlocals : (rest.map fun v => v.category).sum + (nativeFrameWords "java/lang/System" "arraycopy" 5 + 11) ≤ R.locals) (hdg : decode cc pc = .ok (.invokestatic index, 3))
    (kk : ∀ (H1 : Heap) (locs1 : List Loc), va_P D cl (ws.set q1 (a, .inl (cA, N, .inl f))) H1 → va_D A (ws.set q1 (a, .inl (cA, N, .inl f))) → va_S A H0 H1 locs1 → W p l e R s m args below meth c H1 locs1 cells slots Q (F0 m (pc + 3) ls rest)) : W p l e R s m args below meth c H locs cells slots Q (F0 m pc ls (.int n :: .int 0 :: .ref a :: .int 0 :: .ref a0 :: rest)) := by
  have z0 : (0 : Int32).toNatClampNeg = 0 := by decide +kernel
  refine va_copyi (ty := .int) (n0 := N) (n1 := N) (c0 := cA) (c1 := cA) hexec hb hml hown hlink hnat hstat hini hK hP hD hS q0 q1 t0 t0 ha0 ha1 ht ht rfl (by decide) (by decide) h3 (by rw [z0]; omega) (by rw [z0]; omega) (fun _ _ => rfl) hframes hlocals hdg (fun H1 locs1 hP1 _ hS1 => kk H1 locs1 (hP1.cell fun h => ?_) (hD.set ha1) hS1)
  have h : H1[a]? = some (vp_cell cA (N, .inl _)) := h
  show H1[a]? = some (vp_cell cA (N, .inl f))
  rw [h, arr_congr (fun j hj => ?_)]
  rw [z0, hn, pk_cpy_in (Nat.zero_le j) (by omega)]
  simp
end ROWS
/-- a written place and a small one -/
theorem ixa {c m n : Nat} {x d : Int32} (hd : d = nI c) (hx : vp_in x m) (hcm : c + m ≤ n) (hn : n < 2 ^ 31) : (d + x).toNatClampNeg = c + x.toNatClampNeg ∧ vp_in (d + x) n := by
  obtain ⟨j, hj, rfl⟩ := vp_in_of hx (by omega)
  subst hd
  rw [nI_add, nI_clamp (by omega), nI_clamp (by omega)]
  exact ⟨rfl, vp_in_nI (by omega) hn⟩
/-- whether it is a player's number, as the class says it -/
def isPb (x : Int32) : Int32 := if x < 0 then 0 else if 5 ≤ x then 0 else 1
theorem isPb_in {x : Int32} (h : ¬ isPb x = 0) : vp_in x 5 := by
  unfold isPb at h
  split at h
  · exact absurd rfl h
  · split at h
    · exact absurd rfl h
    · rename_i h1 h2
      rcases pk_ix x (n := 5) (by decide) with h3 | h3 | ⟨j, hj, rfl⟩
      · exact absurd h3 h1
      · exact absurd h3 h2
      · exact vp_in_nI hj (by decide)
theorem isPb_nar (x : Int32) : narrow .boolean (.int (isPb x)) = .int (isPb x) := by
  unfold isPb
  split
  · rfl
  · split <;> rfl
def ush (x n : Int32) : Int32 := (x.toUInt32 >>> (n.toUInt32 &&& Int32.toUInt32 31)).toInt32
