/-! THE LAW'S SMALL METHODS: a cell of the script, all of a state as one number, the size of a set (laid by wip/p28/gen/l1.py) -/
theorem cn_free (T : Tb) (ln pl : Nat) {i : Nat} (hi : i < 14) : cnC T ln pl (nI i) = cnC T 0 0 (nI i) := by
  have e : ∀ k, 4 ≤ k → k < 14 → cnS T ln pl k = cnS T 0 0 k := by
    intro k h4 hk
    rcases (show k = 4 ∨ k = 5 ∨ k = 6 ∨ k = 7 ∨ k = 8 ∨ k = 9 ∨ k = 10 ∨ k = 11 ∨ k = 12 ∨ k = 13 by omega) with rfl | rfl | rfl | rfl | rfl | rfl | rfl | rfl | rfl | rfl <;> rfl
  have hx : ix (nI i) = i := nI_clamp (by omega)
  have h0 : ¬ nI i < 0 := nI_pos (by omega)
  unfold cnC
  rw [if_neg h0, if_neg h0, hx]
  by_cases h4 : i < 4
  · have h9 : ¬ (4 : Int32) ≤ nI i := nI_ge (b := 4) h4 (by decide)
    rw [if_neg h9, if_neg h9]
  · rw [e i (by omega) hi]
def atV (T : Tb) (x : Int32) : Int32 := if x < 0 then (-100001) else if x < 5 then pAt (T 4) x else (-100001)
def pzV (T : Tb) (x : Int32) : Int32 := if isPb x = 0 then (-100001) else T 1 (ix x)
def snA (T : Tb) : Nat → Nat → Int64 → Int64
  | 0, _, x => x
  | f + 1, i, x => snA T f (i + 1) (31 * x + (cnC T 0 0 (nI i)).toInt64)
def snB (T : Tb) : Nat → Nat → Int64 → Int64
  | 0, _, x => x
  | f + 1, i, x => snB T f (i + 1) (31 * x + (plC T (nI i / 8) (nI i - nI i / 8 * 8)).toInt64)
def snD (T : Tb) : Nat → Nat → Int64 → Int64
  | 0, _, x => x
  | f + 1, i, x => snD T f (i + 1) (31 * (31 * x + (atV T (nI i)).toInt64) + (pzV T (nI i)).toInt64)
theorem snA_0 (T : Tb) (i : Nat) (x : Int64) : snA T 0 i x = x := rfl
theorem snB_0 (T : Tb) (i : Nat) (x : Int64) : snB T 0 i x = x := rfl
theorem snD_0 (T : Tb) (i : Nat) (x : Int64) : snD T 0 i x = x := rfl
theorem snA_s (T : Tb) (f i : Nat) (x : Int64) : snA T (f + 1) i x = snA T f (i + 1) (31 * x + (cnC T 0 0 (nI i)).toInt64) := rfl
theorem snB_s (T : Tb) (f i : Nat) (x : Int64) : snB T (f + 1) i x = snB T f (i + 1) (31 * x + (plC T (nI i / 8) (nI i - nI i / 8 * 8)).toInt64) := rfl
theorem snD_s (T : Tb) (f i : Nat) (x : Int64) : snD T (f + 1) i x = snD T f (i + 1) (31 * (31 * x + (atV T (nI i)).toInt64) + (pzV T (nI i)).toInt64) := rfl
/-- all that belongs to a state, as one number -/
def snF (T : Tb) : Int64 := snD T 5 0 (snB T 40 0 (snA T 14 0 103))
/-- the size of a set of players -/
def szL (x : Int32) : Nat → Nat → Int32 → Int32
  | 0, _, n => n
  | f + 1, i, n => szL x f (i + 1) (n + ((x >>> (nI i &&& 31)) &&& 1))
def szB (x : Int32) : Int32 := szL x 5 0 0
theorem szL_0 (x : Int32) (i : Nat) (n : Int32) : szL x 0 i n = n := rfl
theorem szL_s (x : Int32) (f i : Nat) (n : Int32) : szL x (f + 1) i n = szL x f (i + 1) (n + ((x >>> (nI i &&& 31)) &&& 1)) := rfl
/-- the script, from the law's entry on: b its address -/
def ceV (L : Nat) (xs : Nat → Int32) (i : Nat) : Int32 := (if i < L then xs i else 1925078388 * (nI i + 139) + 29009) &&& 2147483647
