/-! ROWS of the class: Math.floorMod, new arrays with the class numbers of G -/
theorem c_J9_floorMod (l : Launch) (G : qG) (x y : Int32) (hy : ¬ y = 0) : MP l yJ9_floorMod_7cf53 wsJ9_floorMod_7cf53 0 0 G [.int x, .int y] [] (Jvm.Free.MCB.fmod x y) := by
  intro p e ha hc hk s m args below hf happ hP _
  have h1 := (Spec.appliesLoose_iff hf).mp happ
  have h2 : args = #[.int x, .int y] := hP.1
  obtain ⟨n, o, g1, g2, g3, g4⟩ := Jvm.Free.MCB.FloorMod.gets l x y p e ha hc hk s m args below hf ((Spec.appliesLoose_iff hf).mpr ⟨h1.1, h1.2.1, h1.2.2.1, h1.2.2.2.1, h1.2.2.2.2.1, h1.2.2.2.2.2.1, h1.2.2.2.2.2.2.1, by
    have hts := atoms_spec (ws := wsJ9_floorMod_7cf53) h1.2.2.2.2.2.2.2
    simp only [Jvm.Free.MCB.FloorMod.spec, Cond.before_and, Bool.and_eq_true]
    refine ⟨by rw [h2]; rfl, hts _ List.mem_cons_self⟩⟩) ⟨h2, hy⟩ trivial
  exact ⟨n, o, g1, g2, g3, ⟨_, g4.1, rfl, g4.2.1⟩, [], g4.2.2, fun q h => by cases h⟩
theorem xor_nn {x y : Int32} (hx : ¬ x < 0) (hy : ¬ y < 0) : (0 : Int32) ≤ x ^^^ y := by
  rw [Int32.le_iff_toBitVec_sle, Int32.toBitVec_xor]
  rw [Int32.lt_iff_toBitVec_slt] at hx hy
  have h1 : x.toBitVec.msb = false := by
    have h := BitVec.slt_zero_eq_msb (x := x.toBitVec)
    cases hm : x.toBitVec.msb
    · rfl
    · exact absurd (h.trans hm) hx
  have h2 : y.toBitVec.msb = false := by
    have h := BitVec.slt_zero_eq_msb (x := y.toBitVec)
    cases hm : y.toBitVec.msb
    · rfl
    · exact absurd (h.trans hm) hy
  have h3 : (x.toBitVec ^^^ y.toBitVec).msb = false := by rw [BitVec.msb_xor, h1, h2]; rfl
  have h4 := BitVec.slt_zero_eq_msb (x := x.toBitVec ^^^ y.toBitVec)
  rw [h3] at h4
  have h5 := BitVec.sle_eq_not_slt (x := 0#32) (y := x.toBitVec ^^^ y.toBitVec)
  rw [h4] at h5
  exact h5
theorem fm6 {n : Nat} (h : n < 100000) : Jvm.Free.MCB.fmod (nI n) 6 = nI (n % 6) := by
  unfold Jvm.Free.MCB.fmod Jvm.Free.MCB.remI
  rw [if_pos (xor_nn (nI_pos (n := n) (by omega)) (by decide))]
  exact pk_rem (a := n) (d := 6) (by omega) (by decide) (by decide)
section NEWS
variable {p : Program} {l : Launch} {e : Env} {R : Room} {s : State} {m : MethodId} {args : Array Value} {below : List Frame} {meth : Method} {c : Code} {H H0 : Heap} {locs : List Loc} {cells slots : Nat} {Q : State → Prop}
variable {G : qG} {ws : va_W} {a : Nat} {cc : ByteArray} {pc : Nat} {ls : Array Slot} {rest : List Value} {A : Nat → Prop}
theorem KK.num {ty : FieldType} (hK : KK G s) {cA cB : ClassId} {k : Nat} (hk : (gT G)[k]? = some (cB, ty)) (hx : va_RA s cA ty) : cA = cB := by
  have h := (hK.1.2 k _ hk).2
  cases ty <;> first
    | exact Option.some.inj (Eq.trans (Eq.symm hx) h)
    | (obtain ⟨_, _, _, _, _, h4⟩ := hx; obtain ⟨_, _, _, _, _, h5⟩ := h; exact Option.some.inj (h4.symm.trans h5))
theorem qnewi (hexec : p.tables.exec = Jvm.exec) (hb : c.code = cc) (harr : (Cond.arrayClass (newarray.typeOf .int)).before args s = true) (hK : KK G s) (hP : va_P G.1 vwCl ws H) (hD : va_D A ws) (hS : va_S A H0 H locs) (hA : ∀ q, H0.size ≤ q → A q)
    {n : Int32} {N' : Nat} (hn : ¬ n < 0) (hN : n.toNatClampNeg = N') (hbytes : N' * 4 ≤ 536870912) (hcells : cells + 1 ≤ R.cells) (hslots : slots + N' ≤ R.slots) (hdg : decode cc pc = .ok (.newarray .int, 2))
    (kk : ∀ (q : Nat) (H1 : Heap), va_P G.1 vwCl (ws ++ [(q, .inl (gI G, N', .inl (fun _ => 0)))]) H1 → va_D A (ws ++ [(q, .inl (gI G, N', .inl (fun _ => 0)))]) → va_S A H0 H1 locs →
      W p l e R s m args below meth c H1 locs (cells + 1) (slots + N') Q (F0 m (pc + 2) ls (.ref q :: rest))) : W p l e R s m args below meth c H locs cells slots Q (F0 m pc ls (.int n :: rest)) := by
  refine va_newa (atype := .int) (ty := .int) (a0 := (N', .inl (fun _ => 0))) hexec hb harr rfl hK.1 hP hD hS hA (fun _ => rfl) hn hN hbytes hcells hslots hdg (fun q cA H1 hK1 hP1 hD1 hS1 => ?_)
  obtain rfl : cA = gI G := hK.num (k := 0) rfl (hK1.2 3 (cA, .int) rfl).2
  exact kk q H1 hP1 hD1 hS1
theorem qnewc (hexec : p.tables.exec = Jvm.exec) (hb : c.code = cc) (harr : (Cond.arrayClass (newarray.typeOf .char)).before args s = true) (hK : KK G s) (hP : va_P G.1 vwCl ws H) (hD : va_D A ws) (hS : va_S A H0 H locs) (hA : ∀ q, H0.size ≤ q → A q)
    {n : Int32} {N' : Nat} (hn : ¬ n < 0) (hN : n.toNatClampNeg = N') (hbytes : N' * 2 ≤ 536870912) (hcells : cells + 1 ≤ R.cells) (hslots : slots + N' ≤ R.slots) (hdg : decode cc pc = .ok (.newarray .char, 2))
    (kk : ∀ (q : Nat) (H1 : Heap), va_P G.1 vwCl (ws ++ [(q, .inl (gC G, N', .inl (fun _ => 0)))]) H1 → va_D A (ws ++ [(q, .inl (gC G, N', .inl (fun _ => 0)))]) → va_S A H0 H1 locs →
      W p l e R s m args below meth c H1 locs (cells + 1) (slots + N') Q (F0 m (pc + 2) ls (.ref q :: rest))) : W p l e R s m args below meth c H locs cells slots Q (F0 m pc ls (.int n :: rest)) := by
  refine va_newa (atype := .char) (ty := .char) (a0 := (N', .inl (fun _ => 0))) hexec hb harr rfl hK.1 hP hD hS hA (fun _ => rfl) hn hN hbytes hcells hslots hdg (fun q cA H1 hK1 hP1 hD1 hS1 => ?_)
  obtain rfl : cA = gC G := hK.num (k := 1) rfl (hK1.2 3 (cA, .char) rfl).2
  exact kk q H1 hP1 hD1 hS1
theorem qnewq (hexec : p.tables.exec = Jvm.exec) (hb : c.code = cc) {own : String} {index : Nat} (hown : s.vm.findClass own = some m.cls) (hclink : (Cond.classLink own index RX2).before args s = true) (hK : KK G s) (hP : va_P G.1 vwCl ws H) (hD : va_D A ws) (hS : va_S A H0 H locs) (hA : ∀ q, H0.size ≤ q → A q)
    {n : Int32} {N' : Nat} (hn : ¬ n < 0) (hN : n.toNatClampNeg = N') (hbytes : N' * 4 ≤ 536870912) (hcells : cells + 1 ≤ R.cells) (hslots : slots + N' ≤ R.slots) (hdg : decode cc pc = .ok (.anewarray index, 3))
    (kk : ∀ (q : Nat) (H1 : Heap), va_P G.1 vwCl (ws ++ [(q, .inl (gR G, N', .inr (.inr (.inr (.inr (fun _ => none))))))]) H1 → va_D A (ws ++ [(q, .inl (gR G, N', .inr (.inr (.inr (.inr (fun _ => none))))))]) → va_S A H0 H1 locs →
      W p l e R s m args below meth c H1 locs (cells + 1) (slots + N') Q (F0 m (pc + 3) ls (.ref q :: rest))) : W p l e R s m args below meth c H locs cells slots Q (F0 m pc ls (.int n :: rest)) := by
  refine va_newq (C := RX2) hexec hb hown hclink hK.2.2 hK.1 hP hD hS hA hn hN hbytes hcells hslots hdg (fun q cA H1 hK1 hP1 hD1 hS1 => ?_)
  obtain rfl : cA = gR G := hK.num (k := 2) rfl (hK1.2 3 (cA, .object RX2) rfl).2
  exact kk q H1 hP1 hD1 hS1
end NEWS
/-! worlds in another order -/
theorem va_P.perm {D : va_G} {cl : List vw_C} {ws ws' : va_W} {H : Heap} (h : va_P D cl ws H) (hp : ws.Perm ws') : va_P D cl ws' H := fun k q hk => by
  obtain ⟨i, hi⟩ := List.getElem?_of_mem (hp.mem_iff.mpr (List.mem_of_getElem? hk))
  exact h i q hi
theorem va_D.nodup {A : Nat → Prop} {ws : va_W} (h : va_D A ws) : (ws.map (·.1)).Nodup := by
  rw [List.Nodup, List.pairwise_iff_getElem]
  intro i j hi hj hij e
  rw [List.length_map] at hi hj
  rw [List.getElem_map, List.getElem_map] at e
  have := h.1 i j _ _ (List.getElem?_eq_getElem hi) (List.getElem?_eq_getElem hj) e
  omega
theorem va_D.of_nodup {A : Nat → Prop} {ws : va_W} (h : (ws.map (·.1)).Nodup) (hA : ∀ q ∈ ws, A q.1) : va_D A ws := by
  refine ⟨fun i j x y hx hy e => ?_, fun k q hk => hA q (List.mem_of_getElem? hk)⟩
  rw [List.Nodup, List.pairwise_iff_getElem] at h
  obtain ⟨hi, ex⟩ := List.getElem?_eq_some_iff.mp hx
  obtain ⟨hj, ey⟩ := List.getElem?_eq_some_iff.mp hy
  have hl : (ws.map (·.1)).length = ws.length := List.length_map ..
  rcases Nat.lt_trichotomy i j with q | q | q
  · have := h i j (by omega) (by omega) q
    rw [List.getElem_map, List.getElem_map, ex, ey] at this
    exact absurd e this
  · exact q
  · have := h j i (by omega) (by omega) q
    rw [List.getElem_map, List.getElem_map, ex, ey] at this
    exact absurd e.symm this
theorem va_D.perm {A : Nat → Prop} {ws ws' : va_W} (h : va_D A ws) (hp : ws.Perm ws') : va_D A ws' :=
  va_D.of_nodup ((hp.map (·.1)).nodup_iff.mp h.nodup) (fun q hq => by
    obtain ⟨i, hi⟩ := List.getElem?_of_mem (hp.mem_iff.mpr hq)
    exact h.2 i q hi)
/-! THE POOL: the tables that may be there: spots 0 to 5 the history's, 6 and 7 the slots' -/
abbrev Ad : Type := Nat → Option (Nat → Nat)
def slotW (G : qG) (o : Option (Nat → Nat)) (T : Tb) : va_W := match o with
  | none => []
  | some a => tw G a T
def poolN (G : qG) (ad : Ad) (S : Nat → Tb) : Nat → va_W
  | 0 => []
  | n + 1 => poolN G ad S n ++ slotW G (ad n) (S n)
def pool (G : qG) (ad : Ad) (S : Nat → Tb) : va_W := poolN G ad S 8
def hd (ad : Ad) (j n : Nat) : Nat → Option Nat := fun i => if i < n then (ad (j + i)).map (fun a => a 0) else none
theorem hd_get {ad : Ad} {j n i : Nat} (h : i < n) : hd ad j n i = (ad (j + i)).map (fun a => a 0) := if_pos h
theorem hd_up {ad : Ad} {j n i : Nat} {a : Nat → Nat} (h : i < n) : va_up (hd ad j n) i (some (a 0)) = hd (va_up ad (j + i) (some a)) j n := by
  funext x
  unfold hd va_up
  by_cases hx : x = i
  · subst hx; simp [h]
  · by_cases hn : x < n
    · simp [hx, hn]
    · simp [hx, hn]
theorem hd_off {ad : Ad} {j n k : Nat} {v : Option (Nat → Nat)} (h : k < j ∨ j + n ≤ k) : hd (va_up ad k v) j n = hd ad j n := by
  funext x
  unfold hd va_up
  by_cases hn : x < n
  · rw [if_pos hn, if_pos hn, if_neg (by omega)]
  · rw [if_neg hn, if_neg hn]
theorem poolN_congr {G : qG} {ad ad' : Ad} {S S' : Nat → Tb} {n : Nat} (h : ∀ i, i < n → ad i = ad' i ∧ (S i = S' i ∨ ad i = none)) : poolN G ad S n = poolN G ad' S' n := by
  induction n with
  | zero => rfl
  | succ n ih =>
    rw [poolN, poolN, ih (fun i hi => h i (by omega))]
    obtain ⟨h1, h2⟩ := h n (by omega)
    rcases h2 with h2 | h2
    · rw [h1, h2]
    · rw [← h1, h2]; rfl
theorem poolN_perm (G : qG) (ad : Ad) (S : Nat → Tb) {k n : Nat} (h : k < n) : (poolN G ad S n).Perm (slotW G (ad k) (S k) ++ poolN G (va_up ad k none) S n) := by
  induction n with
  | zero => omega
  | succ n ih =>
    rw [poolN, poolN]
    by_cases hk : k = n
    · subst hk
      rw [va_up_self, show poolN G (va_up ad k none) S k = poolN G ad S k from poolN_congr (fun i hi => ⟨va_up_ne _ _ (by omega), Or.inl rfl⟩)]
      show (poolN G ad S k ++ slotW G (ad k) (S k)).Perm (slotW G (ad k) (S k) ++ (poolN G ad S k ++ []))
      rw [List.append_nil]
      exact List.perm_append_comm
    · rw [va_up_ne _ _ (fun q => hk q.symm), ← List.append_assoc]
      exact (ih (by omega)).append_right _
/-- the table at spot k comes out of the pool -/
theorem pool_out {G : qG} {ad : Ad} {S : Nat → Tb} {k : Nat} {a : Nat → Nat} (w : va_W) (h : k < 8) (ha : ad k = some a) : (w ++ pool G ad S).Perm ((w ++ tw G a (S k)) ++ pool G (va_up ad k none) S) := by
  have h1 := poolN_perm G ad S h
  rw [ha] at h1
  rw [List.append_assoc]
  exact h1.append_left w
/-- .. and goes back, with other numbers -/
theorem pool_in {G : qG} {ad : Ad} {S : Nat → Tb} {k : Nat} {a : Nat → Nat} {T : Tb} (w : va_W) (h : k < 8) : ((w ++ tw G a T) ++ pool G (va_up ad k none) S).Perm (w ++ pool G (va_up ad k (some a)) (va_up S k T)) := by
  have h1 := poolN_perm G (va_up ad k (some a)) (va_up S k T) h
  rw [va_up_self, va_up_self] at h1
  rw [List.append_assoc]
  refine (h1.trans ?_).symm.append_left w
  rw [show poolN G (va_up (va_up ad k (some a)) k none) (va_up S k T) 8 = pool G (va_up ad k none) S from poolN_congr (fun i hi => ?_)]
  · exact List.Perm.refl _
  · by_cases hik : i = k
    · subst hik; rw [va_up_self, va_up_self]; exact ⟨rfl, Or.inr rfl⟩
    · rw [va_up_ne _ _ hik, va_up_ne _ _ hik, va_up_ne _ _ hik, va_up_ne _ _ hik]; exact ⟨rfl, Or.inl rfl⟩
/-- the cells of a History: states, next, length -/
def hw (G : qG) (h : Nat → Nat) (nx ln : Nat) (f : Nat → Option Nat) : va_W := [(h 0, .inr (0, [.ref (h 1), .int (nI nx), .int (nI ln)])), (h 1, .inl (gR G, 6, .inr (.inr (.inr (.inr f)))))]
