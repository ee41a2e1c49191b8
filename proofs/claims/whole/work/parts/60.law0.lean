/-! THE LAW: both objects side by side; a call of the one, then of the other -/
section LAWC
variable {p : Program} {l : Launch} {e : Env} {R : Room} {s : State} {m : MethodId} {args : Array Value} {below : List Frame} {meth : Method} {c : Code} {H H0 : Heap} {locs : List Loc} {cells slots : Nat} {Q : State → Prop}
variable {y : MethodName} {bytes cc : ByteArray} {maxL nL mc ms n index pc : Nat} {ret : Option FieldType} {ws : List Cond} {rm : Room} {Ts : List Cond} {own : String} {As rest st : List Value} {ls : Array Slot} {G : qG} {A : Nat → Prop}
variable {o : Nat} {t r h : Nat → Nat} {g : Nat} {b a : Nat → Nat}
/-- a TurnBids without the pool; the pool -/
def owc (G : qG) (o : Nat) (t r h : Nat → Nat) (g : Nat) (b : Nat → Nat) (k : CS) : va_W := ow G o t r h g b k.1 k.2.1 k.2.2.1 k.2.2.2.1 (hd k.2.2.2.2.1 0 6) (hd k.2.2.2.2.1 6 2) k.2.2.2.2.2.2.1 k.2.2.2.2.2.2.2
def plc (G : qG) (k : CS) : va_W := pool G k.2.2.2.2.1 k.2.2.2.2.2.1
variable {k : CS} {z sp pa sl sv pd tl : Nat → Int32} {nv ty spt tm : Int32}
/-- a writing call of the class -/
theorem lawXw {post : Int32 → CS → Prop} {Pc : Array Value → State → Prop} (X : CallFix p m c cc nL s args Ts own)
    (hM : Met l y ws rm Pc (QI (S := CS) G H.size (ows G o t r h g b k) post (fun k1 => ows G o t r h g b k1)) mc ms (va_A (ows G o t r h g b k) H.size)) (hbl : FrameBlind Pc)
    (hpre : ∀ U : State, U.heap = H → s.WarmedH U.vm → va_P G.1 vwCl (ows G o t r h g b k) H → va_D (fun _ => True) (ows G o t r h g b k) → (∀ q, va_A (ows G o t r h g b k) H.size q → A q) → Pc (Value.ref o :: As).toArray U)
    (cw : CallW R s args own RX3 index y bytes maxL ret ws rm mc ms n) (hK : KK G s) (hP : va_P G.1 vwCl ((mw G a z sp pa sl sv pd tl nv ty spt tm ++ owc G o t r h g b k) ++ plc G k) H) (hD : va_D A ((mw G a z sp pa sl sv pd tl nv ty spt tm ++ owc G o t r h g b k) ++ plc G k)) (hS : va_S A H0 H locs) (hA : ∀ q, H0.size ≤ q → A q)
    (hst : st = As.reverse ++ .ref o :: rest) (hna : As.length = n) (hsize : ls.size = nL) (hr : (rest.map fun v => v.category).sum ≤ 8) (hdg : decode cc pc = .ok (.invokevirtual index, 3)) (hf : cells + mc ≤ R.cells ∧ slots + ms ≤ R.slots)
    (kk : ∀ (r₀ : Int32) (k1 : CS) (H1 : Heap) (locs1 : List Loc), post r₀ k1 → va_P G.1 vwCl ((mw G a z sp pa sl sv pd tl nv ty spt tm ++ owc G o t r h g b k1) ++ plc G k1) H1 → va_D A ((mw G a z sp pa sl sv pd tl nv ty spt tm ++ owc G o t r h g b k1) ++ plc G k1) → va_S A H0 H1 locs1 → W p l e R s m args below meth c H1 locs1 (cells + mc) (slots + ms) Q (F0 m (pc + 3) ls (.int r₀ :: rest))) : W p l e R s m args below meth c H locs cells slots Q (F0 m pc ls st) := by
  have hC : [8, 9, 10, 11, 12, 13, 14, 15, 16, 17, 18, 19, 20, 21, 22, 23, 24, 25, 26, 27, 28, 29, 30, 31, 32, 33, 34, 35].map (fun i => (mw G a z sp pa sl sv pd tl nv ty spt tm ++ owc G o t r h g b k)[i]?) = (owc G o t r h g b k).map some := rfl
  have hR : [0, 1, 2, 3, 4, 5, 6, 7].map (fun i => (mw G a z sp pa sl sv pd tl nv ty spt tm ++ owc G o t r h g b k)[i]?) = (mw G a z sp pa sl sv pd tl nv ty spt tm).map some := rfl
  have hF := va_freeP hD hS hA _ hC
  have hPc : va_P G.1 vwCl (ows G o t r h g b k) H := hP.part _ hC
  have hDc : va_D (fun _ => True) (ows G o t r h g b k) := (hD.part _ (by decide) hC).weaken (fun _ _ _ _ => trivial)
  have he : (ows G o t r h g b k)[0]? = some (o, .inr (3, [.ref (t 0), .ref (r 0), .ref (h 0), .ref g, .ref (b 0)])) := rfl
  refine cRI (va_runV (g := F0 m pc ls st) X hM cw ⟨hbl, va_recv hK.1 hPc (ci := 3) (q := (RX3, TX3, 5)) rfl he, fun U hU hW => hpre U hU hW hPc hDc hF⟩ rfl hna hsize hst (lv_room hr) hdg hf) hS hF (fun r₀ u H1 locs1 hp hP1 hD1 hk hS1 => ?_)
  have hP1 : va_P G.1 vwCl (owc G o t r h g b u ++ plc G u) H1 := hP1
  obtain ⟨h1, h2⟩ := va_joinP hP hD _ _ hC hR (by decide) (by decide) hk hF hP1 hD1
  exact kk r₀ u H1 locs1 hp h1 h2 hS1
/-- a reading call of the class -/
theorem lawXr {fr lo : Nat} {v : Int32} (X : CallFix p m c cc nL s args Ts own) (hM : MP l y ws fr lo G (.ref o :: As) (ows G o t r h g b k) v)
    (cw : CallW R s args own RX3 index y bytes maxL ret ws { frames := fr, cells := 0, slots := 0, locals := lo } 0 0 n) (hK : KK G s) (hP : va_P G.1 vwCl ((mw G a z sp pa sl sv pd tl nv ty spt tm ++ owc G o t r h g b k) ++ plc G k) H)
    (hst : st = As.reverse ++ .ref o :: rest) (hna : As.length = n) (hsize : ls.size = nL) (hr : (rest.map fun v => v.category).sum ≤ 8) (hdg : decode cc pc = .ok (.invokevirtual index, 3)) (hf : cells + 0 ≤ R.cells ∧ slots + 0 ≤ R.slots)
    (kk : W p l e R s m args below meth c H locs cells slots Q (F0 m (pc + 3) ls (.int v :: rest))) : W p l e R s m args below meth c H locs cells slots Q (F0 m pc ls st) := by
  have hPc : va_P G.1 vwCl (ows G o t r h g b k) H := hP.part (cx := owc G o t r h g b k) [8, 9, 10, 11, 12, 13, 14, 15, 16, 17, 18, 19, 20, 21, 22, 23, 24, 25, 26, 27, 28, 29, 30, 31, 32, 33, 34, 35] rfl
  have he : (ows G o t r h g b k)[0]? = some (o, .inr (3, [.ref (t 0), .ref (r 0), .ref (h 0), .ref g, .ref (b 0)])) := rfl
  exact cPV X hM cw hK hPc 0 (ci := 3) (q := (RX3, TX3, 5)) rfl rfl he hst hna hsize hr hdg hf kk
/-- a reading call of the reference -/
theorem lawMr {fr lo : Nat} {v : Int32} (X : CallFix p m c cc nL s args Ts own) (hM : MP l y ws fr lo G (.ref (a 0) :: As) (mw G a z sp pa sl sv pd tl nv ty spt tm) v)
    (cw : CallW R s args own RX4 index y bytes maxL ret ws { frames := fr, cells := 0, slots := 0, locals := lo } 0 0 n) (hK : KK G s) (hP : va_P G.1 vwCl ((mw G a z sp pa sl sv pd tl nv ty spt tm ++ owc G o t r h g b k) ++ plc G k) H)
    (hst : st = As.reverse ++ .ref (a 0) :: rest) (hna : As.length = n) (hsize : ls.size = nL) (hr : (rest.map fun v => v.category).sum ≤ 8) (hdg : decode cc pc = .ok (.invokevirtual index, 3)) (hf : cells + 0 ≤ R.cells ∧ slots + 0 ≤ R.slots)
    (kk : W p l e R s m args below meth c H locs cells slots Q (F0 m (pc + 3) ls (.int v :: rest))) : W p l e R s m args below meth c H locs cells slots Q (F0 m pc ls st) := by
  have hC : [0, 1, 2, 3, 4, 5, 6, 7].map (fun i => (mw G a z sp pa sl sv pd tl nv ty spt tm ++ owc G o t r h g b k)[i]?) = (mw G a z sp pa sl sv pd tl nv ty spt tm).map some := rfl
  have he : (mw G a z sp pa sl sv pd tl nv ty spt tm)[0]? = some (a 0, .inr (4, [.ref (a 1), .ref (a 2), .ref (a 3), .int nv, .ref (a 4), .ref (a 5), .ref (a 6), .int ty, .int spt, .ref (a 7), .int tm])) := rfl
  exact cPV X hM cw hK (part_P hP _ (cut_app _ hC)) 0 (ci := 4) (q := (RX4, TX4, 11)) rfl rfl he hst hna hsize hr hdg hf kk
/-- a writing call of the reference -/
theorem lawMw {S : Type} {post : Int32 → S → Prop} {z1 sp1 pa1 sl1 sv1 pd1 tl1 : S → Nat → Int32} {nv1 ty1 spt1 tm1 : S → Int32} (X : CallFix p m c cc nL s args Ts own)
    (hM : Met l y ws rm (PW G H.size (.ref (a 0) :: As) (mw G a z sp pa sl sv pd tl nv ty spt tm)) (QI (S := S) G H.size (mw G a z sp pa sl sv pd tl nv ty spt tm) post (fun u => mw G a (z1 u) (sp1 u) (pa1 u) (sl1 u) (sv1 u) (pd1 u) (tl1 u) (nv1 u) (ty1 u) (spt1 u) (tm1 u))) mc ms (va_A (mw G a z sp pa sl sv pd tl nv ty spt tm) H.size))
    (cw : CallW R s args own RX4 index y bytes maxL ret ws rm mc ms n) (hK : KK G s) (hP : va_P G.1 vwCl ((mw G a z sp pa sl sv pd tl nv ty spt tm ++ owc G o t r h g b k) ++ plc G k) H) (hD : va_D A ((mw G a z sp pa sl sv pd tl nv ty spt tm ++ owc G o t r h g b k) ++ plc G k)) (hS : va_S A H0 H locs) (hA : ∀ q, H0.size ≤ q → A q)
    (hst : st = As.reverse ++ .ref (a 0) :: rest) (hna : As.length = n) (hsize : ls.size = nL) (hr : (rest.map fun v => v.category).sum ≤ 8) (hdg : decode cc pc = .ok (.invokevirtual index, 3)) (hf : cells + mc ≤ R.cells ∧ slots + ms ≤ R.slots)
    (kk : ∀ (r₀ : Int32) (u : S) (H1 : Heap) (locs1 : List Loc), post r₀ u → va_P G.1 vwCl ((mw G a (z1 u) (sp1 u) (pa1 u) (sl1 u) (sv1 u) (pd1 u) (tl1 u) (nv1 u) (ty1 u) (spt1 u) (tm1 u) ++ owc G o t r h g b k) ++ plc G k) H1 → va_D A ((mw G a (z1 u) (sp1 u) (pa1 u) (sl1 u) (sv1 u) (pd1 u) (tl1 u) (nv1 u) (ty1 u) (spt1 u) (tm1 u) ++ owc G o t r h g b k) ++ plc G k) → va_S A H0 H1 locs1 → W p l e R s m args below meth c H1 locs1 (cells + mc) (slots + ms) Q (F0 m (pc + 3) ls (.int r₀ :: rest))) : W p l e R s m args below meth c H locs cells slots Q (F0 m pc ls st) := by
  have hC : [0, 1, 2, 3, 4, 5, 6, 7].map (fun i => (mw G a z sp pa sl sv pd tl nv ty spt tm ++ owc G o t r h g b k)[i]?) = (mw G a z sp pa sl sv pd tl nv ty spt tm).map some := rfl
  have hR : [8, 9, 10, 11, 12, 13, 14, 15, 16, 17, 18, 19, 20, 21, 22, 23, 24, 25, 26, 27, 28, 29, 30, 31, 32, 33, 34, 35].map (fun i => (mw G a z sp pa sl sv pd tl nv ty spt tm ++ owc G o t r h g b k)[i]?) = (owc G o t r h g b k).map some := rfl
  have he : (mw G a z sp pa sl sv pd tl nv ty spt tm)[0]? = some (a 0, .inr (4, [.ref (a 1), .ref (a 2), .ref (a 3), .int nv, .ref (a 4), .ref (a 5), .ref (a 6), .int ty, .int spt, .ref (a 7), .int tm])) := rfl
  refine cQI X hM cw hK hP hD hS hA _ _ hC hR (by decide) (by decide) (by decide) 0 (ci := 4) (q := (RX4, TX4, 11)) rfl rfl he hst hna hsize hr hdg hf (fun r₀ u H1 locs1 hp hP1 hD1 hS1 => ?_)
  have hJ : [28, 29, 30, 31, 32, 33, 34, 35, 0, 1, 2, 3, 4, 5, 6, 7, 8, 9, 10, 11, 12, 13, 14, 15, 16, 17, 18, 19, 20, 21, 22, 23, 24, 25, 26, 27].map (fun i => (owc G o t r h g b k ++ mw G a (z1 u) (sp1 u) (pa1 u) (sl1 u) (sv1 u) (pd1 u) (tl1 u) (nv1 u) (ty1 u) (spt1 u) (tm1 u))[i]?) = (mw G a (z1 u) (sp1 u) (pa1 u) (sl1 u) (sv1 u) (pd1 u) (tl1 u) (nv1 u) (ty1 u) (spt1 u) (tm1 u) ++ owc G o t r h g b k).map some := rfl
  exact kk r₀ u H1 locs1 hp (hP1.part _ hJ) (hD1.part _ (by decide) hJ) hS1
/-- a constructor called on the newest cells -/
theorem cLI {S : Type} {post : S → Prop} {w' : S → va_W} {wf wc : va_W} {q0 : Nat} (X : CallFix p m c cc nL s args Ts own) (hM : Met l y ws rm (PW G H.size (.ref q0 :: As) wc) (QV G H.size wc post w') mc ms (va_A wc H.size)) (cw : CallB R s args own index y bytes maxL none ws rm mc ms n ∧ y.name = "<init>" ∧ (Cond.instanceMethod y).before args s = true) (hK : KK G s) (hP : va_P G.1 vwCl (wf ++ wc) H) (hD : va_D A (wf ++ wc)) (hS : va_S A H0 H locs) (hA : ∀ q, H0.size ≤ q → A q)
    (hst : st = As.reverse ++ .ref q0 :: rest) (hna : As.length = n) (hsize : ls.size = nL) (hr : (rest.map fun v => v.category).sum ≤ 8) (hdg : decode cc pc = .ok (.invokespecial index, 3)) (hf : cells + mc ≤ R.cells ∧ slots + ms ≤ R.slots)
    (kk : ∀ (u : S) (H1 : Heap) (locs1 : List Loc), post u → va_P G.1 vwCl (wf ++ w' u) H1 → va_D A (wf ++ w' u) → va_S A H0 H1 locs1 → W p l e R s m args below meth c H1 locs1 (cells + mc) (slots + ms) Q (F0 m (pc + 3) ls rest)) : W p l e R s m args below meth c H locs cells slots Q (F0 m pc ls st) := by
  have hF := app_F hD hS hA
  have hPc := app_P hP
  have hDc := app_D hD
  refine cRV (va_runI (g := F0 m pc ls st) X hM cw ⟨PW.blind, fun U hU hW => ⟨rfl, by rw [hU], by rw [hU]; exact hPc, hK.warm hW, hDc.weaken (fun _ _ _ _ => trivial)⟩⟩ rfl hna hsize hst (lv_room hr) hdg hf) hS hF (fun u H1 locs1 hp hP1 hD1 hk hS1 => ?_)
  obtain ⟨h1, h2⟩ := va_joinA hP hD hk hF hP1 hD1
  exact kk u H1 locs1 hp h1 h2 hS1
/-- the script's cell i + d, for a place d that is written -/
theorem lw_arg (hx : p.tables.exec = Jvm.exec) (hb : c.code = cc) {bs L : Nat} {xs : Nat → Int32} (hX : va_X bs L xs s H0) (hbl : bs < H0.size) (hbA : ¬ A bs) (hS : va_S A H0 H locs) {lv : List (Nat × Value)} (hl : lv_has ls 4 lv) {kb ki : Nat} {i d : Nat} {dn : Int} (hkb : lv[kb]? = some (0, .ref bs)) (hki : lv[ki]? = some (3, .int (nI i))) (hd0 : Int32.ofInt dn = nI d) (hin : i + d < L) (hL : L ≤ 1536)
    (h1 : decode cc pc = .ok (.aload_n 0, 1)) (h2 : decode cc (pc + 1) = .ok (.iload_n 3, 1)) (h3 : decode cc (pc + 1 + 1) = .ok (.iconst dn, 1)) (h4 : decode cc (pc + 1 + 1 + 1) = .ok (.iadd, 1)) (h5 : decode cc (pc + 1 + 1 + 1 + 1) = .ok (.iaload, 1))
    (kk : W p l e R s m args below meth c H locs cells slots Q (F0 m (pc + 5) ls (.int (xs (i + d)) :: rest))) : W p l e R s m args below meth c H locs cells slots Q (F0 m pc ls rest) := by
  refine lv_aload_n hx hb h1 rfl (lv_at hl kb hkb) ?_
  refine lv_iload_n hx hb h2 rfl (lv_at hl ki hki) ?_
  refine lv_iconst (v := nI d) hx hb h3 hd0 ?_
  refine lv_iadd hx hb h4 ?_
  rw [nI_add]
  refine va_sld hx hb hX hbl hbA hS (vp_in_nI hin (by omega)) h5 ?_
  rw [nI_clamp (by omega)]
  exact kk
/-- the answers are equal: the script goes on -/
theorem lw_fin (hx : p.tables.exec = Jvm.exec) (hb : c.code = cc) {off : Int} (hd : decode cc pc = .ok (.if_icmp .eq off, 3)) (ht : (pc : Int) + off = ((743 : Nat) : Int)) {v w : Int32} (e0 : v = w) {c2 s2 : Nat} (h1 : cells ≤ c2) (h2 : slots ≤ s2)
    (kk : W p l e R s m args below meth c H locs c2 s2 Q (F0 m 743 ls rest)) : W p l e R s m args below meth c H locs cells slots Q (F0 m pc ls (.int w :: .int v :: rest)) :=
  W.widen h1 h2 (lv_icmp_eq (tgt := 743) hx hb hd ht (fun _ => kk) (fun q => absurd e0 q))
end LAWC
/-- the constant arrays, seen later -/
theorem ZS.at {A B : Nat → Prop} {s U : State} {H : Heap} {locs : List Loc} (hz : ZS A s) (hS : va_S A s.heap H locs) (hU : U.heap = H) (hW : s.WarmedH U.vm) (hF : ∀ q, B q → A q) : ZS B U := by
  obtain ⟨t1, t2, ⟨h1, h2⟩, h3, h4⟩ := hz
  have k : ∀ a : Nat, a < s.heap.size → ¬ A a → H[a]? = s.heap[a]? := fun a => hS.2.1 a
  subst hU
  exact ⟨t1, t2, ⟨va_Z.moved hW.alike ((h1.kept k).narrow hF), va_T.moved hW.alike ((h2.kept k).narrow hF)⟩, va_Z.moved hW.alike ((h3.kept k).narrow hF), va_T.moved hW.alike ((h4.kept k).narrow hF)⟩
/-- what the invariant says of the two objects' numbers -/
theorem INV.facts {T U : Tb} {nx ln : Nat} {ad : Ad} {S : Nat → Tb} {ps : Nat → Int32} {pl : Nat} {z pa st sv pd : Nat → Int32} {n t : Nat} (h : INV (T, U, nx, ln, ad, S, ps, pl) z pa st sv pd n t) : is01 (T 10 0) ∧ n ≤ 6 ∧ ln ≤ 6 ∧ chs ps ∧ pl ≤ 60 ∧ t ≤ 60 ∧ Old ad S ∧ RelV T z ∧ ZI z ∧ ps = pd ∧ pl = t ∧ ln = n := by
  have h01 := h.t01
  obtain ⟨hR, hZ, ⟨e, h6, hnx, hall⟩, hs, ho, e1, hc, e2, ht⟩ := h
  have e : ln = n := e
  have e1 : ps = pd := e1
  have e2 : pl = t := e2
  exact ⟨h01, h6, by omega, by rw [e1]; exact hc, by omega, ht, ho, hR, hZ, e1, e2, e⟩
/-- a bid that may be made is a number of coins -/
theorem mbZ_in {z : Nat → Int32} (hZ : ZI z) {v : Int32} (h : ¬ mbZ z v = 0) : inB v 0 9999 = 1 := by
  unfold mbZ at h
  by_cases h4 : z 4 = 1
  · rw [if_pos h4] at h
    obtain ⟨-, hr⟩ := hZ.runs (by rw [h4]; exact lz_o)
    obtain ⟨-, -, ⟨j, hj, h5, -⟩, hh, -, -⟩ := hr
    obtain ⟨c, hc, hcj⟩ := hZ.1.2.2.1.1 j hj
    obtain ⟨⟨s0, -, hs0, es0⟩, ⟨f0, hf0, ef0⟩, -, -⟩ := hZ.1.1
    have hcb : ¬ cbZ z v = 0 := fun q => h (by rw [if_pos q])
    unfold cbZ at hcb
    by_cases h1 : v < lsZ z
    · rw [if_pos h1] at hcb; exact absurd rfl hcb
    rw [if_neg h1] at hcb
    by_cases h2 : z (8 + ix (z 5)) < v
    · rw [if_pos h2] at hcb; exact absurd rfl hcb
    rw [h5, ix_n hj, hcj] at h2
    have hl : ∃ k, k ≤ 10020 ∧ lsZ z = nI k := by
      unfold lsZ
      rcases hh with ⟨q, -⟩ | ⟨m, hm, q, -⟩
      · rw [if_pos q]; exact ⟨f0, by omega, ef0⟩
      · rw [q, if_neg (nI_none (by omega)), es0, nI_add]; exact ⟨m + s0, by omega, rfl⟩
    obtain ⟨k, hk, ek⟩ := hl
    rw [ek] at h1
    rw [Int32.lt_iff_toInt_lt, nI_toInt (by omega)] at h1 h2
    have e0 : (0 : Int32).toInt = 0 := by decide
    have e9 : (9999 : Int32).toInt = 9999 := by decide
    unfold inB
    rw [if_neg (by rw [Int32.lt_iff_toInt_lt, e0]; omega), if_neg (by rw [Int32.lt_iff_toInt_lt, e9]; omega)]
  · rw [if_neg h4] at h; exact absurd rfl h
