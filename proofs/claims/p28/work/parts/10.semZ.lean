/-! THE MEANING of the reference's state (the row z), and what each of its steps needs of it -/
def inB (v lo hi : Int32) : Int32 := if v < lo then 0 else if hi < v then 0 else 1
theorem inB_nar (v lo hi : Int32) : narrow .boolean (.int (inB v lo hi)) = .int (inB v lo hi) := by
  unfold inB
  split
  · rfl
  · split <;> rfl
theorem inB5 {x : Int32} (h : ¬ inB x 0 4 = 0) : vp_in x 5 := by
  unfold inB at h
  split at h
  · exact absurd rfl h
  · split at h
    · exact absurd rfl h
    · rename_i h1 h2
      rcases pk_ix x (n := 5) (by decide) with h3 | h3 | ⟨j, hj, rfl⟩
      · exact absurd h3 h1
      · refine absurd (Int32.lt_iff_toInt_lt.mpr ?_) h2
        have h4 := Int32.le_iff_toInt_le.mp h3
        have e5 : (nI 5).toInt = 5 := nI_toInt (by decide)
        have e4 : (4 : Int32).toInt = 4 := by decide
        omega
      · exact vp_in_nI hj (by decide)
def smL (z : Nat → Int32) (w : Nat) : Nat → Nat → Int32 → Int32
  | 0, _, k => k
  | f + 1, i, k => smL z w f (i + 1) (k + z (w + i))
def smB (z : Nat → Int32) (w : Nat) : Int32 := smL z w 5 0 0
def mAtL (z : Nat → Int32) (x : Int32) : Nat → Nat → Int32 → Int32
  | 0, _, r => r
  | f + 1, i, r => mAtL z x f (i + 1) (if z (18 + i) = x then nI i else r)
def mAt (z : Nat → Int32) (x : Int32) : Int32 := mAtL z x 5 0 (-100006)
def clL : Nat → Nat → (Nat → Int32) → (Nat → Int32)
  | 0, _, z => z
  | f + 1, i, z => clL f (i + 1) (upd (upd z (23 + i) (-100006)) (28 + i) (-100006))
def clZ (z : Nat → Int32) : Nat → Int32 := clL 5 0 (upd (upd (upd z 4 0) 5 (-100006)) 6 (-100006))
def lsZ (z : Nat → Int32) : Int32 := if z 6 = (-100006) then z 1 else z 6 + z 0
def bgZ (z : Nat → Int32) : Nat → Int32 := upd (upd (clZ z) 4 1) 5 (mAt (upd (clZ z) 4 1) 0)
def nxt (j : Nat) : Nat := (j + 1) % 5
def npL (z : Nat → Int32) : Nat → Nat → Nat
  | 0, j => nxt j
  | f + 1, j => if z (28 + ix (mAt z (nI (nxt j)))) = (-100006) then nxt j else npL z f (nxt j)
def sdP (z : Nat → Int32) : Nat → Nat → Prop
  | 0, j => z (28 + ix (mAt z (nI (nxt j)))) = (-100006)
  | f + 1, j => z (28 + ix (mAt z (nI (nxt j)))) = (-100006) ∨ sdP z f (nxt j)
def psZ (z : Nat → Int32) : Nat → Int32 := upd z 5 (mAt z (nI (npL z 4 (ix (z (18 + ix (z 5)))))))
/-- the turn can pass -/
def PaOK (z : Nat → Int32) : Prop := vp_in (z 5) 5 ∧ vp_in (z (18 + ix (z 5))) 5 ∧ (∀ j, j < 5 → vp_in (mAt z (nI j)) 5) ∧ sdP z 4 (ix (z (18 + ix (z 5))))
def pyZ (z : Nat → Int32) (x k : Int32) : Nat → Int32 := upd (upd z (8 + ix x) (z (8 + ix x) - k)) (33 + ix x) (upd z (8 + ix x) (z (8 + ix x) - k) (33 + ix x) + k)
def cbZ (z : Nat → Int32) (k : Int32) : Int32 := if k < lsZ z then 0 else if z (8 + ix (z 5)) < k then 0 else 1
theorem cbZ_nar (z : Nat → Int32) (k : Int32) : narrow .boolean (.int (cbZ z k)) = .int (cbZ z k) := by
  unfold cbZ
  split
  · rfl
  · split <;> rfl
def bdA (z : Nat → Int32) (k : Int32) : Nat → Int32 := upd (upd z (23 + ix (z 5)) k) 6 k
def bdZ (z : Nat → Int32) (k : Int32) : Nat → Int32 := psZ (bdA z k)
def BdOK (z : Nat → Int32) (k : Int32) : Prop := vp_in (z 5) 5 ∧ PaOK (bdA z k)
def lfL (z : Nat → Int32) : Nat → Nat → Int32 → Int32
  | 0, _, n => n
  | f + 1, i, n => lfL z f (i + 1) (if z (28 + i) = (-100006) then n + 1 else n + 0)
def lfZ (z : Nat → Int32) : Int32 := lfL z 5 0 0
def mhL (z : Nat → Int32) (k : Nat) : Nat → Nat → Int32 → Int32
  | 0, _, n => n
  | f + 1, j, n => mhL z k f (j + 1) (if z (48 + k) < z (48 + j) then n + 1 else if z (48 + j) = z (48 + k) then (if nI k ≤ nI j then n + 0 else n + 1) else n + 0)
def mpL (z : Nat → Int32) (x : Int32) : Nat → Nat → Int32 → Int32
  | 0, _, r => r
  | f + 1, k, r => mpL z x f (k + 1) (if mhL z k 5 0 0 = x then z (48 + k) else r)
def mpZ (z : Nat → Int32) (x : Int32) : Int32 := mpL z x 5 0 0
def ndA (z : Nat → Int32) (w : Int32) : Nat → Int32 := if z (23 + ix w) = (-100006) then z else pyZ z w ((z (23 + ix w) * z 2 + 99) / 100)
def ndB (z : Nat → Int32) (w : Int32) : Nat → Int32 := upd (upd (ndA z w) (28 + ix w) 0) (43 + ix w) (upd (ndA z w) (28 + ix w) 0 (43 + ix w) + 1)
def nd1 (z : Nat → Int32) (i : Nat) : Nat → Int32 := upd z (18 + i) (z (28 + i))
def nd2 (z : Nat → Int32) (i : Nat) (k : Int32) : Nat → Int32 := upd z (8 + i) (if k ≤ 9999 then k else 9999)
def nd3 (z : Nat → Int32) (i : Nat) (pz : Int32) : Nat → Int32 := upd z (38 + i) (z (38 + i) + pz)
def ndS (z : Nat → Int32) (i : Nat) : Nat → Int32 := nd3 (nd2 (nd1 z i) i (z (8 + i) + mpZ z (z (28 + i)))) i (mpZ z (z (28 + i)))
def ndL : Nat → Nat → (Nat → Int32) → (Nat → Int32)
  | 0, _, z => z
  | f + 1, i, z => ndL f (i + 1) (ndS z i)
def ndE (z : Nat → Int32) : Nat → Int32 := clZ (upd z 7 (z 7 + 1))
def ndZ (z : Nat → Int32) (w : Int32) : Nat → Int32 := ndE (ndL 5 0 (ndB z w))
def doA (z : Nat → Int32) : Nat → Int32 := if z (23 + ix (z 5)) = (-100006) then z else pyZ z (z 5) (z (23 + ix (z 5)) * z 3 / 100)
def doZ (z : Nat → Int32) : Nat → Int32 := if lfZ z - 1 ≤ 1 then ndZ (upd (psZ (doA z)) (28 + ix (z 5)) (lfZ z - 1)) (upd (psZ (doA z)) (28 + ix (z 5)) (lfZ z - 1) 5) else psZ (upd (doA z) (28 + ix (z 5)) (lfZ z - 1))
def DrOK (z : Nat → Int32) : Prop := vp_in (z 5) 5 ∧ (lfZ z - 1 ≤ 1 → PaOK (doA z) ∧ vp_in (upd (psZ (doA z)) (28 + ix (z 5)) (lfZ z - 1) 5) 5) ∧ (¬ lfZ z - 1 ≤ 1 → PaOK (upd (doA z) (28 + ix (z 5)) (lfZ z - 1)))
def acZ (z : Nat → Int32) : Nat → Int32 := if z (13 + ix (z 5)) < lsZ z then doZ z else if cbZ z (lsZ z) = 0 then doZ z else bdZ z (lsZ z)
def AcOK (z : Nat → Int32) : Prop := vp_in (z 5) 5 ∧ DrOK z ∧ (¬ z (13 + ix (z 5)) < lsZ z → ¬ cbZ z (lsZ z) = 0 → BdOK z (lsZ z))
def fiL : Nat → Nat → (Nat → Int32) → (Nat → Int32) × Nat
  | 0, n, z => (z, n)
  | f + 1, n, z => if z 4 = 1 then fiL f (n + 1) (acZ z) else (z, n)
def fiR (z : Nat → Int32) : (Nat → Int32) × Nat := fiL 10000 0 (if z 4 = 0 then bgZ z else z)
def foP : Nat → (Nat → Int32) → Prop
  | 0, z => ¬ z 4 = 1
  | f + 1, z => z 4 = 1 → AcOK z ∧ foP f (acZ z)
def FiOK (z : Nat → Int32) : Prop := foP 10000 (if z 4 = 0 then bgZ z else z)
def mbZ (z : Nat → Int32) (k : Int32) : Int32 := if z 4 = 1 then (if cbZ z k = 0 then 0 else 1) else 0
theorem mbZ_nar (z : Nat → Int32) (k : Int32) : narrow .boolean (.int (mbZ z k)) = .int (mbZ z k) := by
  unfold mbZ
  repeat' split
  all_goals rfl
def lsL (z : Nat → Int32) : Nat → Nat → Int32 → Int32
  | 0, _, n => n
  | f + 1, i, n => if z 4 = 1 then lsL z f (i + 1) (if z (28 + i) = (-100006) then n ||| ((1 : Int32) <<< (nI i &&& 31)) else n ||| 0) else n
def lmZ (z : Nat → Int32) : Int32 := lsL z 5 0 0
def ivB (k v : Int32) : Int32 := if k = 0 then inB v 1 9 else if k = 1 then inB v 0 20 else if k = 2 then inB v 0 100 else if k = 3 then inB v 0 100 else 0
/-- the history: what is recorded of z in pa, with n states there -/
def shA (pa : Nat → Int32) : Nat → Int32 := fun k => if k < 265 then pa (k + 53) else pa k
def rcA (z pa : Nat → Int32) (n : Nat) : Nat → Int32 := if n = 6 then va_cpy z (shA pa) 0 265 53 else va_cpy z pa 0 (53 * n) 53
def rcN (n : Nat) : Nat := if n = 6 then 6 else n + 1
theorem cpy_succ (f g : Nat → Int32) (fa ta i : Nat) : upd (va_cpy f g fa ta i) (ta + i) (f (fa + i)) = va_cpy f g fa ta (i + 1) := by
  funext k
  by_cases h : k = ta + i
  · subst h
    rw [pk_us, pk_cpy_in (by omega) (by omega), Nat.add_sub_cancel_left]
  · rw [pk_un h]
    by_cases h2 : ta ≤ k ∧ k < ta + i
    · rw [pk_cpy_in h2.1 h2.2, pk_cpy_in h2.1 (by omega)]
    · rw [pk_cpy_out (by omega), pk_cpy_out (by omega)]
theorem cpy_0 (f g : Nat → Int32) (fa ta : Nat) : va_cpy f g fa ta 0 = g := by
  funext k
  exact pk_cpy_out (by omega)
/-- a whole row onto a row of 53 -/
theorem cpy_all (f g : Nat → Int32) (fa : Nat) : ∀ k, k < 53 → (fun j => f (fa + j)) k = va_cpy f g fa 0 53 k := fun k hk => by rw [pk_cpy_in (Nat.zero_le k) (by omega)]; simp
theorem cpy_all0 (f g : Nat → Int32) : ∀ k, k < 53 → f k = va_cpy f g 0 0 53 k := fun k hk => by rw [pk_cpy_in (Nat.zero_le k) (by omega)]; simp
