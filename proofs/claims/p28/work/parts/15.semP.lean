/-! THE MEANING of the reference's pad: put, the reading of moves, run -/
theorem nlt_of {a b : Nat} (ha : a < 2 ^ 31) (h : ¬ nI b ≤ nI a) : a < b := by
  rcases Nat.lt_or_ge a b with q | q
  · exact q
  · exact absurd (nI_le q ha) h
theorem nle_of {a b : Nat} (ha : a < 2 ^ 31) (hb : b < 2 ^ 31) (h : nI b ≤ nI a) : b ≤ a := (nI_leI hb ha).mp h
theorem qdec (n : Nat) : nI n + Int32.ofInt (-1) = nI n - 1 := by
  rw [Int32.sub_eq_add_neg]; rfl
/-- how many characters a number has; 9: it may not be put -/
def ptL : Nat → Nat → Int64 → Nat
  | 0, n, _ => n
  | f + 1, n, w => if lg_cmp w 0 = 0 then n else if inB (w &&& 255).toInt32 33 126 = 0 then 9 else ptL f (n + 1) (w.toUInt64 >>> ((8 : Int32).toInt64.toUInt64 &&& Int64.toUInt64 63)).toInt64
def ptC (w : Int64) : Nat := ptL 8 0 w
def chB (w : Int64) (f : Nat) : Int32 := ((w.toUInt64 >>> ((nI (8 * f)).toInt64.toUInt64 &&& Int64.toUInt64 63)).toInt64 &&& 255).toInt32
def apL (w : Int64) : Nat → Nat → (Nat → Int32) → (Nat → Int32)
  | 0, _, pd => pd
  | f + 1, t, pd => apL w f (t + 1) (upd pd t (chB w f))
/-- why put(w) is refused; 0: it isn't -/
def erP (t : Nat) (w : Int64) : Int32 := if ptC w = 9 then (-100002) else if nI (ptC w) = 0 then (-100002) else if nI (t + ptC w) ≤ 60 then 0 else (-100004)
def seB (pd : Nat → Int32) (s t : Nat) (lo hi : Int32) : Int32 := if nI t ≤ nI s then 0 else if inB (pd s) lo hi = 0 then 0 else 1
theorem seB_nar (pd : Nat → Int32) (s t : Nat) (lo hi : Int32) : narrow .boolean (.int (seB pd s t lo hi)) = .int (seB pd s t lo hi) := by
  unfold seB
  repeat' split
  all_goals rfl
def sgB (pd : Nat → Int32) (s t : Nat) : Int32 := if nI t ≤ nI s then 0 else pd s
def rmK (pd : Nat → Int32) (s t : Nat) : Int32 := if inB (sgB pd s t) 48 57 = 0 then (if sgB pd s t = 43 then 1 else if sgB pd s t = 45 then 1 else if sgB pd s t = 42 then 1 else if sgB pd s t = 33 then 1 else 0) else 1
def rdL (pd : Nat → Int32) (t : Nat) : Nat → Nat → Int32 → Nat × Int32
  | 0, s, v => (s, v)
  | f + 1, s, v => if v ≤ 0 then (s, v) else if seB pd s t 48 57 = 0 then (s, v) else if 9999 < 10 * v + pd s - 48 then (s, v) else rdL pd t f (s + 1) (10 * v + pd s - 48)
def rmR (pd : Nat → Int32) (s t : Nat) : Nat × Int32 := if inB (sgB pd s t) 48 57 = 0 then rdL pd t (61 - (s + 1)) (s + 1) (sgB pd s t - 1000) else rdL pd t (61 - (s + 1)) (s + 1) (sgB pd s t - 48)
theorem rdL_le (pd : Nat → Int32) (t : Nat) (ht : t ≤ 60) : ∀ (f s : Nat) (v : Int32), s ≤ t → s ≤ (rdL pd t f s v).1 ∧ (rdL pd t f s v).1 ≤ t := by
  intro f
  induction f with
  | zero => intro s v h; exact ⟨Nat.le_refl _, h⟩
  | succ f ih =>
    intro s v h
    unfold rdL
    split
    · exact ⟨Nat.le_refl _, h⟩
    · split
      · exact ⟨Nat.le_refl _, h⟩
      · split
        · exact ⟨Nat.le_refl _, h⟩
        · rename_i h1 h2 h3
          have h4 : s < t := by
            unfold seB at h2
            split at h2
            · exact absurd rfl h2
            · rename_i h5; exact nlt_of (by omega) h5
          obtain ⟨a, b⟩ := ih (s + 1) (10 * v + pd s - 48) h4
          exact ⟨by omega, b⟩
theorem rmK_lt {pd : Nat → Int32} {s t : Nat} (hs : s ≤ 60) (h : ¬ rmK pd s t = 0) : s < t := by
  rcases Classical.em (nI t ≤ nI s) with q | q
  · refine absurd ?_ h
    unfold rmK sgB
    rw [if_pos q]
    decide
  · exact nlt_of (by omega) q
theorem rmR_le {pd : Nat → Int32} {s t : Nat} (ht : t ≤ 60) (h : s < t) : s < (rmR pd s t).1 ∧ (rmR pd s t).1 ≤ t := by
  unfold rmR
  split
  · have := rdL_le pd t ht (61 - (s + 1)) (s + 1) (sgB pd s t - 1000) h; omega
  · have := rdL_le pd t ht (61 - (s + 1)) (s + 1) (sgB pd s t - 48) h; omega
/-- the reader's state: good, spot, toldMany, told -/
abbrev Rd : Type := Int32 × Nat × Nat × (Nat → Int32)
def rmS (pd : Nat → Int32) (t : Nat) (s q : Nat) (tl : Nat → Int32) : Rd := if rmK pd s t = 0 then (0, s, q, tl) else (1, (rmR pd s t).1, q + 1, upd tl q (rmR pd s t).2)
def rpL (pd : Nat → Int32) (t : Nat) : Nat → Rd → Rd
  | 0, u => u
  | f + 1, u => if u.1 = 0 then u else if nI t ≤ nI u.2.1 then u else if seB pd u.2.1 t 44 44 = 0 then rpL pd t f (0, u.2.1 + 0, u.2.2.1, u.2.2.2) else if rmK pd (u.2.1 + 1) t = 0 then rpL pd t f (0, u.2.1 + 1, u.2.2.1, u.2.2.2) else rpL pd t f (1, (rmR pd (u.2.1 + 1) t).1, u.2.2.1 + 1, upd u.2.2.2 u.2.2.1 (rmR pd (u.2.1 + 1) t).2)
def rpR (pd : Nat → Int32) (t : Nat) (tl : Nat → Int32) : Rd := rpL pd t (62 + t) (rmS pd t 0 0 tl)
def caZ (z : Nat → Int32) (k : Int32) : Int32 := if k < 0 then (if k + 1000 = 33 then 1 else if k + 1000 = 43 then (if z 4 = 0 then 1 else 0) else (if z 4 = 0 then 0 else 1)) else mbZ z k
theorem caZ_nar (z : Nat → Int32) (k : Int32) : narrow .boolean (.int (caZ z k)) = .int (caZ z k) := by
  unfold caZ
  repeat' split
  all_goals first | rfl | exact mbZ_nar _ _
/-- a move as the reference tells it -/
def MvOK (k : Int32) : Prop := 0 ≤ k ∨ k = -957 ∨ k = -955 ∨ k = -958 ∨ k = -967
def dmZ (z : Nat → Int32) (k : Int32) : Nat → Int32 := if 0 ≤ k then bdZ z k else if k = -957 then bgZ z else if k = -955 then doZ z else if k = -958 then acZ z else (fiR z).1
def DmOK (z : Nat → Int32) (k : Int32) : Prop := (0 ≤ k ∧ BdOK z k) ∨ k = -957 ∨ (k = -955 ∧ DrOK z) ∨ (k = -958 ∧ AcOK z) ∨ (k = -967 ∧ FiOK z)
def ruL (tl : Nat → Int32) : Nat → Nat → (Nat → Int32) → (Nat → Int32) × Nat
  | 0, n, z => (z, n)
  | f + 1, n, z => if caZ z (tl n) = 0 then (z, n) else ruL tl f (n + 1) (dmZ z (tl n))
def RuOK (tl : Nat → Int32) : Nat → Nat → (Nat → Int32) → Prop
  | 0, _, _ => True
  | f + 1, n, z => (z 4 = 1 → vp_in (z 5) 5) ∧ (¬ caZ z (tl n) = 0 → DmOK z (tl n) ∧ RuOK tl f (n + 1) (dmZ z (tl n)))
def tkS (pd : Nat → Int32) (s t : Nat) (x : Int32) : Nat := if seB pd s t x x = 0 then s + 0 else s + 1
theorem seB_lt {pd : Nat → Int32} {s t : Nat} {lo hi : Int32} (hs : s ≤ 60) (h : ¬ seB pd s t lo hi = 0) : s < t := by
  unfold seB at h
  split at h
  · exact absurd rfl h
  · rename_i q; exact nlt_of (by omega) q
theorem rmS_1 {pd : Nat → Int32} {t s q : Nat} {tl : Nat → Int32} (h : rmK pd s t = 0) : rmS pd t s q tl = (0, s, q, tl) := by rw [rmS, if_pos h]
theorem rmS_2 {pd : Nat → Int32} {t s q : Nat} {tl : Nat → Int32} (h : ¬ rmK pd s t = 0) : rmS pd t s q tl = (1, (rmR pd s t).1, q + 1, upd tl q (rmR pd s t).2) := by rw [rmS, if_neg h]
theorem rmS_k {pd : Nat → Int32} {t s q : Nat} {tl : Nat → Int32} (h : (rmS pd t s q tl).1 = 0) : rmK pd s t = 0 := by
  rcases Classical.em (rmK pd s t = 0) with q | q
  · exact q
  · rw [rmS_2 q] at h; exact absurd h lz_o
theorem rmS_n {pd : Nat → Int32} {t s q : Nat} {tl : Nat → Int32} (h : ¬ (rmS pd t s q tl).1 = 0) : ¬ rmK pd s t = 0 := fun e => h (by rw [rmS_1 e])
/-- the reader stays within the pad, and tells at most every other character -/
def RdIn (t : Nat) (u : Rd) : Prop := u.2.1 ≤ t ∧ 2 * u.2.2.1 ≤ u.2.1 + 1
theorem rmS_in {pd : Nat → Int32} {t s q : Nat} {tl : Nat → Int32} (ht : t ≤ 60) (hs : s ≤ t) (hq : 2 * q ≤ s) : RdIn t (rmS pd t s q tl) := by
  rcases Classical.em (rmK pd s t = 0) with k | k
  · rw [rmS_1 k]; exact ⟨hs, by show 2 * q ≤ s + 1; omega⟩
  · rw [rmS_2 k]
    obtain ⟨a, b⟩ := rmR_le (pd := pd) ht (rmK_lt (by omega) k)
    exact ⟨b, by show 2 * (q + 1) ≤ (rmR pd s t).1 + 1; omega⟩
theorem rpL_in {pd : Nat → Int32} {t : Nat} (ht : t ≤ 60) : ∀ (f : Nat) (u : Rd), RdIn t u → RdIn t (rpL pd t f u) := by
  intro f
  induction f with
  | zero => intro u h; exact h
  | succ f ih =>
    intro u h
    obtain ⟨g, s, q, tl⟩ := u
    obtain ⟨h1, h2⟩ := h
    have h1 : s ≤ t := h1
    have h2 : 2 * q ≤ s + 1 := h2
    unfold rpL
    split
    · exact ⟨h1, h2⟩
    · split
      · exact ⟨h1, h2⟩
      · split
        · exact ih _ ⟨h1, h2⟩
        · rename_i c1 c2 c3
          have h4 : s < t := seB_lt (by omega) c3
          split
          · exact ih _ ⟨h4, by show 2 * q ≤ s + 1 + 1; omega⟩
          · rename_i c4
            obtain ⟨a, b⟩ := rmR_le (pd := pd) (s := s + 1) ht (rmK_lt (by omega) c4)
            exact ih _ ⟨b, by show 2 * (q + 1) ≤ (rmR pd (s + 1) t).1 + 1; omega⟩
theorem rpR_in {pd tl : Nat → Int32} {t : Nat} (ht : t ≤ 60) : RdIn t (rpR pd t tl) := rpL_in ht (62 + t) _ (rmS_in ht (Nat.zero_le _) (Nat.le_refl _))
theorem rpR_q {pd tl : Nat → Int32} {t : Nat} (ht : t ≤ 60) : (rpR pd t tl).2.2.1 ≤ 30 := by
  obtain ⟨a, b⟩ := rpR_in (pd := pd) (tl := tl) ht
  omega
theorem lz_43 : ¬ (0 : Int32) = 43 := by decide
theorem lz_45 : ¬ (0 : Int32) = 45 := by decide
theorem lz_42 : ¬ (0 : Int32) = 42 := by decide
theorem lz_33 : ¬ (0 : Int32) = 33 := by decide
theorem lz_4 : ¬ (-100004 : Int32) = 0 := by decide
def is01 (x : Int32) : Prop := x = 0 ∨ x = 1
theorem is01_nar {x : Int32} (h : is01 x) : narrow .boolean (.int x) = .int x := by
  rcases h with rfl | rfl <;> rfl
theorem rmS_01 (pd : Nat → Int32) (t s q : Nat) (tl : Nat → Int32) : is01 (rmS pd t s q tl).1 := by
  unfold rmS
  split
  · exact Or.inl rfl
  · exact Or.inr rfl
theorem rmS_nar (pd : Nat → Int32) (t s q : Nat) (tl : Nat → Int32) : narrow .boolean (.int (rmS pd t s q tl).1) = .int (rmS pd t s q tl).1 := is01_nar (rmS_01 pd t s q tl)
theorem rpL_01 (pd : Nat → Int32) (t : Nat) : ∀ (f : Nat) (u : Rd), is01 u.1 → is01 (rpL pd t f u).1 := by
  intro f
  induction f with
  | zero => intro u h; exact h
  | succ f ih =>
    intro u h
    unfold rpL
    split
    · exact h
    · split
      · exact h
      · split
        · exact ih _ (Or.inl rfl)
        · split
          · exact ih _ (Or.inl rfl)
          · exact ih _ (Or.inr rfl)
theorem rpR_nar (pd : Nat → Int32) (t : Nat) (tl : Nat → Int32) : narrow .boolean (.int (rpR pd t tl).1) = .int (rpR pd t tl).1 := is01_nar (rpL_01 pd t (62 + t) _ (rmS_01 pd t 0 0 tl))
section HEADZ
variable {l : Launch} {y : MethodName} {ws ws' : List Cond} {mc ms : Nat} {G : qG} {av : List Value} {w : va_W} {cc : ByteArray} {maxL sz : Nat}
/-- THE HEAD of a writing method that answers a boolean -/
theorem MI.ofZ {v : Int32} {w' : va_W} {rm : Room} (hn : narrow .boolean (.int v) = .int v) (hy : plainName y.cls = true) (hw : ws = Cond.code y cc maxL (some .boolean) :: ws') (hav : (lg_sl av).length ≤ maxL)
    (body : ∀ (p : Program) (e : Env) (s : State) (m : MethodId) (below : List Frame) (meth : Method) (c : Code), p.tables.exec = Jvm.exec → c.code = cc → c.maxLocals = maxL → s.vm.findClass y.cls = some m.cls → (∀ x ∈ ws, x.before av.toArray s = true) → KK G s → s.heap.size = sz → va_P G.1 vwCl w s.heap →
      ∀ A : Nat → Prop, A = va_A w sz → (∀ q : Nat, s.heap.size ≤ q → A q) → va_D A w → va_S A s.heap s.heap [] →
      ∀ Q : State → Prop, (∀ (H : Heap) (locs : List Loc) (pc : Nat) (ls : Array Slot) (r : Int32) (u : Unit), r = v → va_P G.1 vwCl w' H → va_D A w' → va_S A s.heap H locs → decode cc pc = .ok (.ireturn, 1) → W p l e rm s m av.toArray below meth c H locs mc ms Q (F0 m pc ls [.int r])) →
      ∀ ls : Array Slot, lv_has ls maxL (lv_args 0 av) → W p l e rm s m av.toArray below meth c s.heap [] 0 0 Q (F0 m 0 ls [])) :
    Met l y ws rm (PW G sz av w) (QI (S := Unit) G sz w (fun r _ => r = v) (fun _ => w')) mc ms (va_A w sz) := by
  refine Met.ofW (cc := cc) (maxL := maxL) (ret := some .boolean) hy hw ?_
  intro p e s m args below meth c s₁ B hml hv
  obtain ⟨rfl, hsz, hP, hK, hD⟩ := hv
  have hts := atoms_spec (ws := ws) B.pre
  obtain ⟨ls, he, hl⟩ := lv_start (m := m) av hav
  rw [he]
  subst hsz
  refine body p e s m below meth c B.exec B.bytes hml (findClass_of_methodNamed B.named) hts hK rfl hP _ rfl (fun q h => Or.inr h) hD.self va_S.rf _ ?_ ls hl
  intro H locs pc ls r u hp hP1 hD1 hS hd
  subst hp
  exact W.zret B.exec B.bytes B.returns hn (fun t ht _ => ⟨⟨r, (), rfl, rfl, by rw [ht]; exact hP1, hD1⟩, hS.F ht⟩) hS.2.2 hd B.notSynchronized
end HEADZ
def rnR (z pd : Nat → Int32) (t : Nat) (tl : Nat → Int32) : (Nat → Int32) × Nat := ruL (rpR pd t tl).2.2.2 (rpR pd t tl).2.2.1 0 z
theorem lv_hasL {ls : Array Slot} {nL : Nat} {l l' : List (Nat × Value)} (h : lv_has ls nL l) (e : l = l') : lv_has ls nL l' := e ▸ h
theorem rd_eta (u : Rd) : (u.1, u.2.1, u.2.2.1, u.2.2.2) = u := rfl
