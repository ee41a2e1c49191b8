/-! THE MEANING of the class's Pad, History and constructors -/
def digB (x : Int32) : Int32 := if x < 48 then 0 else if 57 < x then 0 else 1
theorem digB_nar (x : Int32) : narrow .boolean (.int (digB x)) = .int (digB x) := by
  unfold digB
  repeat' split
  all_goals rfl
def shr8 (w : Int64) : Int64 := (w.toUInt64 >>> ((8 : Int32).toInt64.toUInt64 &&& Int64.toUInt64 63)).toInt64
def suL : Nat → Nat → Int64 → Nat
  | 0, n, _ => n
  | f + 1, n, w => if lg_cmp w 0 = 0 then n else if lg_cmp (w &&& 255) 33 < 0 then 0 else if lg_cmp (w &&& 255) 126 ≤ 0 then suL f (n + 1) (w.toUInt64 >>> ((8 : Int32).toInt64.toUInt64 &&& Int64.toUInt64 63)).toInt64 else 0
def suC (w : Int64) : Nat := suL 8 0 w
theorem suL_le : ∀ (f n : Nat) (w : Int64), suL f n w ≤ n + f := by
  intro f
  induction f with
  | zero => intro n w; exact Nat.le_refl _
  | succ f ih =>
    intro n w
    unfold suL
    split
    · omega
    · split
      · omega
      · split
        · have := ih (n + 1) (w.toUInt64 >>> ((8 : Int32).toInt64.toUInt64 &&& Int64.toUInt64 63)).toInt64
          omega
        · omega
theorem suC_le (w : Int64) : suC w ≤ 8 := by have := suL_le 8 0 w; rw [suC]; omega
def chC (w : Int64) : Int32 := ((w &&& 255).toInt32.toUInt32 % 65536).toInt32
theorem chC_nar (w : Int64) : vp_nar .char (chC w) = chC w := by
  show ((chC w).toUInt32 % 65536).toInt32 = chC w
  have h : ((w &&& 255).toInt32.toUInt32 % 65536) % 65536 = (w &&& 255).toInt32.toUInt32 % 65536 := by
    apply UInt32.toNat_inj.mp
    rw [UInt32.toNat_mod, UInt32.toNat_mod]
    exact Nat.mod_mod ..
  show (((w &&& 255).toInt32.toUInt32 % 65536).toInt32.toUInt32 % 65536).toInt32 = _
  rw [UInt32.toUInt32_toInt32, h]
  rfl
/-- the characters go in, the last one first -/
def aqL (t : Nat) : Nat → Int64 → (Nat → Int32) → (Nat → Int32)
  | 0, _, ps => ps
  | f + 1, w, ps => aqL t f (w.toUInt64 >>> ((8 : Int32).toInt64.toUInt64 &&& Int64.toUInt64 63)).toInt64 (upd ps (t + f) (chC w))
def saB (ps : Nat → Int32) (x : Int32) : Int32 := if x < 0 then 44 else if 60 ≤ x then 44 else ps (ix x)
/-- all of them are characters -/
def chs (ps : Nat → Int32) : Prop := ∀ i, vp_nar .char (ps i) = ps i
theorem chs_nar {ps : Nat → Int32} (h : chs ps) (x : Int32) : narrow .char (.int (saB ps x)) = .int (saB ps x) := by
  unfold saB
  repeat' split
  · rfl
  · rfl
  · exact congrArg Value.int (h _)
theorem chs_upd {ps : Nat → Int32} (h : chs ps) (i : Nat) (w : Int64) : chs (upd ps i (chC w)) := by
  intro j
  unfold upd
  split
  · exact chC_nar w
  · exact h j
def duB (d x : Int32) : Int32 := if d = -1 then (if x = 43 then 0 else if x = 45 then 0 else if x = 42 then 0 else if x = 33 then 0 else if x = 48 then 0 else if digB x = 0 then (-2) else 3) else if x = 44 then (-1) else if d ≤ 0 then (-2) else if digB x = 0 then (-2) else d - 1
def fqL (ps : Nat → Int32) : Nat → Nat → Int32 → Int32
  | 0, i, d => if d = -1 then nI i else (-100006)
  | f + 1, i, d => if duB d (saB ps (nI i)) = -2 then nI i else fqL ps f (i + 1) (duB d (saB ps (nI i)))
def fqC (ps : Nat → Int32) (t : Nat) : Int32 := fqL ps t 0 (-1)
def sqL (g : Nat → Int32) : Nat → Nat → Int32 → Int32
  | 0, _, k => k
  | f + 1, i, k => sqL g f (i + 1) (k + g i)
def sqC (g : Nat → Int32) : Int32 := sqL g 5 0 0
theorem is01_fit {x : Int32} (h : is01 x) : fits .boolean (.int x) = true := by rcases h with h | h <;> rw [h] <;> rfl
def rowT (T : Tb) (k : Nat) (f : Nat → Int32) : Tb := fun i => if i = k then f else T i
def iniT : Tb
  | 0 => upd (upd (upd (upd (fun _ => 0) 0 1) 1 1) 2 50) 3 0
  | 1 => upd (upd (upd (upd (upd (fun _ => 0) 0 5) 1 4) 2 3) 3 2) 4 1
  | 2 => upd (upd (upd (upd (upd (fun _ => 0) 0 20) 1 20) 2 20) 3 20) 4 20
  | 3 => upd (upd (upd (upd (upd (fun _ => 0) 0 10) 1 10) 2 10) 3 10) 4 10
  | 4 => upd (upd (upd (upd (upd (fun _ => 0) 0 0) 1 1) 2 2) 3 3) 4 4
  | 5 => upd (upd (upd (upd (upd (fun _ => 0) 0 (-100006)) 1 (-100006)) 2 (-100006)) 3 (-100006)) 4 (-100006)
  | 6 => upd (upd (upd (upd (upd (fun _ => 0) 0 (-100006)) 1 (-100006)) 2 (-100006)) 3 (-100006)) 4 (-100006)
  | 10 => upd (fun _ => 0) 1 (-100006)
  | _ => fun _ => 0
theorem dfX2 : ∀ j, j < 13 → defaultValue (tyX2 j) = vp_V [.null, .null, .null, .null, .null, .null, .null, .null, .null, .null, .int 0, .int 0, .int 0] j := by
  intro j hj
  rcases (show j = 0 ∨ j = 1 ∨ j = 2 ∨ j = 3 ∨ j = 4 ∨ j = 5 ∨ j = 6 ∨ j = 7 ∨ j = 8 ∨ j = 9 ∨ j = 10 ∨ j = 11 ∨ j = 12 by omega) with rfl | rfl | rfl | rfl | rfl | rfl | rfl | rfl | rfl | rfl | rfl | rfl | rfl <;> rfl
theorem dfX0 : ∀ j, j < 3 → defaultValue (tyX0 j) = vp_V [.null, .int 0, .int 0] j := by
  intro j hj
  rcases (show j = 0 ∨ j = 1 ∨ j = 2 by omega) with rfl | rfl | rfl <;> rfl
theorem dfX1 : ∀ j, j < 2 → defaultValue (tyX1 j) = vp_V [.null, .int 0] j := by
  intro j hj
  rcases (show j = 0 ∨ j = 1 by omega) with rfl | rfl <;> rfl
theorem dfX3 : ∀ j, j < 5 → defaultValue (tyX3 j) = vp_V [.null, .null, .null, .null, .null] j := by
  intro j hj
  rcases (show j = 0 ∨ j = 1 ∨ j = 2 ∨ j = 3 ∨ j = 4 by omega) with rfl | rfl | rfl | rfl | rfl <;> rfl
section CTOR
variable {p : Program} {l : Launch} {e : Env} {R : Room} {s : State} {m : MethodId} {args : Array Value} {below : List Frame} {meth : Method} {c : Code} {H H0 : Heap} {locs : List Loc} {cells slots : Nat} {Q : State → Prop}
variable {y : MethodName} {bytes cc : ByteArray} {maxL nL mc ms n index pc : Nat} {ws : List Cond} {rm : Room} {Ts : List Cond} {own C host : String} {b : Addr} {As rest st : List Value} {ls : Array Slot} {G : qG} {wc wf : va_W} {A : Nat → Prop}
/-- behind a call that had the last cells of a world -/
theorem va_joinA {A0 : Nat → Prop} {D : va_G} {cl : List vw_C} {w1 : va_W} {H H1 : Heap} (hP : va_P D cl (wf ++ wc) H) (hD : va_D A0 (wf ++ wc)) (hk : ∀ q : Nat, q < H.size → ¬ va_A wc H.size q → H1[q]? = H[q]?) (hF : ∀ q, va_A wc H.size q → A0 q) (hP1 : va_P D cl w1 H1) (hD1 : va_D (va_A wc H.size) w1) : va_P D cl (wf ++ w1) H1 ∧ va_D A0 (wf ++ w1) := by
  have apart : ∀ (k : Nat) (q : Nat × va_E), wf[k]? = some q → q.1 < H.size ∧ ¬ va_A wc H.size q.1 := by
    intro k q hq
    have hkl := (List.getElem?_eq_some_iff.mp hq).1
    have h2 : (wf ++ wc)[k]? = some q := by rw [List.getElem?_append_left hkl]; exact hq
    have hl := (hP k q h2).lt
    refine ⟨hl, fun h => ?_⟩
    rcases h with ⟨k2, e, h⟩ | h
    · have h3 : (wf ++ wc)[wf.length + k2]? = some (q.1, e) := by rw [List.getElem?_append_right (by omega), Nat.add_sub_cancel_left]; exact h
      have := hD.1 _ _ q (q.1, e) h2 h3 rfl
      omega
    · omega
  have hDf : va_D A0 wf := hD.by id (fun k q hq => by
    show (wf ++ wc)[k]? = some q
    rw [List.getElem?_append_left (List.getElem?_eq_some_iff.mp hq).1]; exact hq) (fun i j _ _ e => e)
  refine ⟨va_P.app (fun k q hq => ?_) hP1, va_D.app hDf (hD1.weaken (fun k q _ h => hF q.1 h)) (fun i j x y hx hy hxy => ?_)⟩
  · have h2 : (wf ++ wc)[k]? = some q := by rw [List.getElem?_append_left (List.getElem?_eq_some_iff.mp hq).1]; exact hq
    exact (hP k q h2).kept (hk q.1 (apart k q hq).1 (apart k q hq).2)
  · exact (apart i x hx).2 (by rw [hxy]; exact hD1.2 j y hy)
theorem app_P {D : va_G} {cl : List vw_C} {H : Heap} (hP : va_P D cl (wf ++ wc) H) : va_P D cl wc H := fun k q hq => hP (wf.length + k) q (by rw [List.getElem?_append_right (by omega), Nat.add_sub_cancel_left]; exact hq)
theorem app_D (hD : va_D A (wf ++ wc)) : va_D A wc := hD.by (fun k => wf.length + k) (fun k q hq => by rw [List.getElem?_append_right (by omega), Nat.add_sub_cancel_left]; exact hq) (fun i j _ _ e => by omega)
theorem app_F (hD : va_D A (wf ++ wc)) (hS : va_S A H0 H locs) (hA : ∀ q, H0.size ≤ q → A q) : ∀ q, va_A wc H.size q → A q := by
  intro q h
  rcases h with ⟨k, e, h⟩ | h
  · exact (app_D hD).2 k (q, e) h
  · exact hA q (Nat.le_trans hS.1 h)
/-- a nest mate's private constructor, of the newest cells -/
theorem cNI {S : Type} {post : S → Prop} {w' : S → va_W} (X : CallFix p m c cc nL s args Ts own) (hM : Met l y ws rm (PW G H.size (.ref b :: As) wc) (QV G H.size wc post w') mc ms (va_A wc H.size)) (cw : va_CN R s args own index y host bytes maxL none ws rm mc ms n ∧ y.name = "<init>" ∧ (Cond.instanceMethod y).before args s = true) (hK : KK G s) (hP : va_P G.1 vwCl (wf ++ wc) H) (hD : va_D A (wf ++ wc)) (hS : va_S A H0 H locs) (hA : ∀ q, H0.size ≤ q → A q)
    (hst : st = As.reverse ++ .ref b :: rest) (hna : As.length = n) (hsize : ls.size = nL) (hr : (rest.map fun v => v.category).sum ≤ 8) (hdg : decode cc pc = .ok (.invokespecial index, 3)) (hf : cells + mc ≤ R.cells ∧ slots + ms ≤ R.slots)
    (kk : ∀ (u : S) (H1 : Heap) (locs1 : List Loc), post u → va_P G.1 vwCl (wf ++ w' u) H1 → va_D A (wf ++ w' u) → va_S A H0 H1 locs1 → W p l e R s m args below meth c H1 locs1 (cells + mc) (slots + ms) Q (F0 m (pc + 3) ls rest)) : W p l e R s m args below meth c H locs cells slots Q (F0 m pc ls st) := by
  have hF := app_F hD hS hA
  have hPc := app_P hP
  have hDc := app_D hD
  refine cRV (va_runIN (g := F0 m pc ls st) X hM cw ⟨PW.blind, fun U hU hW => ⟨rfl, by rw [hU], by rw [hU]; exact hPc, hK.warm hW, hDc.weaken (fun _ _ _ _ => trivial)⟩⟩ rfl hna hsize hst (lv_room hr) hdg hf) hS hF (fun u H1 locs1 hp hP1 hD1 hk hS1 => ?_)
  obtain ⟨h1, h2⟩ := va_joinA hP hD hk hF hP1 hD1
  exact kk u H1 locs1 hp h1 h2 hS1
end CTOR
theorem vp_in_60 {x : Int32} (h0 : ¬ x < 0) (h1 : ¬ 60 ≤ x) : vp_in x 60 := by
  obtain ⟨j, hj, rfl⟩ := nI_of h0
  have hlt : j < 60 := by
    rcases Nat.lt_or_ge j 60 with q | q
    · exact q
    · exact absurd (nI_le (a := 60) (b := j) q hj) h1
  exact vp_in_nI hlt (by decide)
theorem pred_lt (t : Nat) (h : t < 2 ^ 31) : nI (t + 0) - 1 < nI t := by
  rcases Nat.eq_zero_or_pos t with q | q
  · subst q; decide +kernel
  · rw [Nat.add_zero, show nI t - 1 = nI (t - 1) from pk_sub (a := t) (b := 1) (by omega)]
    exact nI_lt (by omega) h
theorem min6 {n : Nat} (h : n ≤ 6) : (if (6 : Int32) < nI (n + 1) then (6 : Int32) else nI (n + 1)) = nI (min (n + 1) 6) := by
  rcases Nat.lt_or_ge n 6 with q | q
  · rw [if_neg (fun c => ?_), Nat.min_eq_left (by omega)]
    exact absurd c (nI_nlt (a := 6) (b := n + 1) (by omega) (by decide))
  · obtain rfl : n = 6 := by omega
    decide +kernel
theorem fm6p {n : Nat} (h : n < 100000) : Jvm.Free.MCB.fmod (nI (n + 1) - 1) 6 = nI (n % 6) := by rw [nI_pred]; exact fm6 h
/-- the cells of a TurnBids, the pool aside: the object; table and trial; history and its states; slots; pad -/
def ow (G : qG) (o : Nat) (t r h : Nat → Nat) (g : Nat) (b : Nat → Nat) (T U : Tb) (nx ln : Nat) (f sl : Nat → Option Nat) (ps : Nat → Int32) (pl : Nat) : va_W := [(o, .inr (3, [.ref (t 0), .ref (r 0), .ref (h 0), .ref g, .ref (b 0)])),
  (t 0, .inr (2, [.ref (t 1), .ref (t 2), .ref (t 3), .ref (t 4), .ref (t 5), .ref (t 6), .ref (t 7), .ref (t 8), .ref (t 9), .ref (t 10), .int (T 10 0), .int (T 10 1), .int (T 10 2)])),
  (t 1, .inl (gI G, 4, .inl (T 0))), (t 2, .inl (gI G, 5, .inl (T 1))), (t 3, .inl (gI G, 5, .inl (T 2))), (t 4, .inl (gI G, 5, .inl (T 3))), (t 5, .inl (gI G, 5, .inl (T 4))), (t 6, .inl (gI G, 5, .inl (T 5))), (t 7, .inl (gI G, 5, .inl (T 6))), (t 8, .inl (gI G, 5, .inl (T 7))), (t 9, .inl (gI G, 5, .inl (T 8))), (t 10, .inl (gI G, 5, .inl (T 9))),
  (r 0, .inr (2, [.ref (r 1), .ref (r 2), .ref (r 3), .ref (r 4), .ref (r 5), .ref (r 6), .ref (r 7), .ref (r 8), .ref (r 9), .ref (r 10), .int (U 10 0), .int (U 10 1), .int (U 10 2)])),
  (r 1, .inl (gI G, 4, .inl (U 0))), (r 2, .inl (gI G, 5, .inl (U 1))), (r 3, .inl (gI G, 5, .inl (U 2))), (r 4, .inl (gI G, 5, .inl (U 3))), (r 5, .inl (gI G, 5, .inl (U 4))), (r 6, .inl (gI G, 5, .inl (U 5))), (r 7, .inl (gI G, 5, .inl (U 6))), (r 8, .inl (gI G, 5, .inl (U 7))), (r 9, .inl (gI G, 5, .inl (U 8))), (r 10, .inl (gI G, 5, .inl (U 9))),
  (h 0, .inr (0, [.ref (h 1), .int (nI nx), .int (nI ln)])), (h 1, .inl (gR G, 6, .inr (.inr (.inr (.inr f))))),
  (g, .inl (gR G, 2, .inr (.inr (.inr (.inr sl))))),
  (b 0, .inr (1, [.ref (b 1), .int (nI pl)])), (b 1, .inl (gC G, 60, .inl ps))]
