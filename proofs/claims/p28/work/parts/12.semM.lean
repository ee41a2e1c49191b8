/-! THE MEANING of the reference's calls -/
theorem lz_0 : (0 : Int32) = 0 := rfl
theorem lz_o : ¬ (1 : Int32) = 0 := by decide
theorem lz_1 : ¬ (-100001 : Int32) = 0 := by decide
theorem lz_2 : ¬ (-100002 : Int32) = 0 := by decide
theorem lz_3 : ¬ (-100003 : Int32) = 0 := by decide
theorem lz_5 : ¬ (-100005 : Int32) = 0 := by decide
theorem inB_of {x : Int32} {N : Nat} (hN : N < 2 ^ 30) (h : ¬ inB x 0 (nI N) = 0) : ∃ j : Nat, j < N + 1 ∧ x = nI j := by
  unfold inB at h
  split at h
  · exact absurd rfl h
  · split at h
    · exact absurd rfl h
    · rename_i h1 h2
      rcases pk_ix x (n := N + 1) (by omega) with h3 | h3 | h3
      · exact absurd h3 h1
      · refine absurd (Int32.lt_iff_toInt_lt.mpr ?_) h2
        have h4 := Int32.le_iff_toInt_le.mp h3
        rw [nI_toInt (by omega)] at h4
        rw [nI_toInt (by omega)]
        omega
      · exact h3
theorem inB_1of {x : Int32} {N : Nat} (hN : N < 2 ^ 30) (h : ¬ inB x 1 (nI N) = 0) : ∃ j : Nat, 1 ≤ j ∧ j < N + 1 ∧ x = nI j := by
  have h0 : ¬ inB x 0 (nI N) = 0 := by
    intro q
    apply h
    unfold inB at q ⊢
    split
    · rfl
    · rename_i h1
      rw [if_neg (fun h2 => h1 ?_)] at q
      · exact q
      · rw [Int32.lt_iff_toInt_lt] at h2 ⊢
        have e0 : (0 : Int32).toInt = 0 := by decide
        have e1 : (1 : Int32).toInt = 1 := by decide
        omega
  obtain ⟨j, hj, rfl⟩ := inB_of hN h0
  refine ⟨j, ?_, hj, rfl⟩
  rcases Nat.eq_zero_or_pos j with rfl | h1
  · exact absurd (by unfold inB; rw [if_pos (by decide)]) h
  · exact h1
theorem ivB_of {x k : Int32} (h : ¬ ivB x k = 0) : ∃ j : Nat, j < 4 ∧ x = nI j := by
  unfold ivB at h
  split at h
  · rename_i q; exact ⟨0, by decide, q⟩
  · split at h
    · rename_i q; exact ⟨1, by decide, q⟩
    · split at h
      · rename_i q; exact ⟨2, by decide, q⟩
      · split at h
        · rename_i q; exact ⟨3, by decide, q⟩
        · exact absurd rfl h
theorem ivB_nar (x k : Int32) : narrow .boolean (.int (ivB x k)) = .int (ivB x k) := by
  unfold ivB
  repeat' split
  all_goals first | exact inB_nar _ _ _ | rfl
def shP (pa : Nat → Int32) (i : Nat) : Nat → Int32 := fun k => if k < i then pa (k + 53) else pa k
theorem shP_0 (pa : Nat → Int32) : pa = shP pa 0 := by funext k; simp [shP]
theorem shP_succ (pa : Nat → Int32) (i : Nat) : upd (shP pa i) i (shP pa i (i + 53)) = shP pa (i + 1) := by
  funext k
  by_cases h : k = i
  · subst h; rw [pk_us]; simp only [shP]; rw [if_neg (by omega), if_pos (by omega)]
  · rw [pk_un h]
    unfold shP
    by_cases h2 : k < i
    · rw [if_pos h2, if_pos (by omega)]
    · rw [if_neg h2, if_neg (by omega)]
theorem rcA_6 (z pa : Nat → Int32) : va_cpy z (shP pa 265) 0 (53 * 5) 53 = rcA z pa 6 := by
  rw [rcA, if_pos rfl]; rfl
theorem rcA_n (z pa : Nat → Int32) {n : Nat} (h : ¬ n = 6) : va_cpy z pa 0 (53 * n) 53 = rcA z pa n := by rw [rcA, if_neg h]
theorem rcN_n {n : Nat} (h : ¬ n = 6) : n + 1 = rcN n := by rw [rcN, if_neg h]
theorem ne6 {n : Nat} (h : ¬ nI n = 6) : ¬ n = 6 := fun e => h (by rw [e]; rfl)
theorem eq6 {n : Nat} (hn : n ≤ 6) (h : nI n = 6) : n = 6 := (nI_eq (b := 6) (by omega) (by decide)).mp h
theorem ne0 {n : Nat} (h : ¬ nI n = 0) : 1 ≤ n := by
  rcases Nat.eq_zero_or_pos n with rfl | h1
  · exact absurd rfl h
  · exact h1
def bnZ (z : Nat → Int32) (x k : Int32) : Int32 := if z (23 + ix x) = (-100006) then 0 else if z (28 + ix x) = (-100006) then (if z (23 + ix x) ≤ k then 0 else 1) else 0
/-- why coins(x, k) is refused; 0: it isn't -/
def erC (z : Nat → Int32) (x k : Int32) : Int32 := if inB x 0 4 = 0 then (-100001) else if inB k 0 9999 = 0 then (-100002) else if bnZ z x k = 0 then 0 else (-100005)
def erL (x k : Int32) : Int32 := if inB x 0 4 = 0 then (-100001) else if inB k 0 99 = 0 then (-100002) else 0
def erD (z : Nat → Int32) (k : Int32) : Int32 := if inB k 0 9999 = 0 then (-100002) else if mbZ z k = 0 then (-100005) else 0
def erW (x w N : Int32) : Int32 := if inB x 0 4 = 0 then (-100001) else if inB w 0 N = 0 then (-100002) else 0
def erR (x r : Int32) : Int32 := if inB x 0 4 = 0 then (-100001) else if inB r 1 100 = 0 then (-100002) else 0
def erS (z sv : Nat → Int32) (x : Int32) : Int32 := if inB x 0 1 = 0 then (-100002) else if sv (ix x) = 0 then (-100005) else 0
/-- which row ifFinished looks at -/
def ifW (w : Int32) : Nat := if w = 1 then 33 else if w = 2 then 38 else 8
def ifV (z : Nat → Int32) (x w : Int32) : Int32 := if w = 0 then (fiR z).1 (18 + ix x) else (fiR z).1 (ifW w + ix x) - z (ifW w + ix x)
def blI (z : Nat → Int32) (x : Int32) (i : Nat) : Int32 := (fiR (upd z (13 + ix x) (nI i))).1 (8 + ix x) - z (8 + ix x)
def blL (z : Nat → Int32) (x : Int32) : Nat → Nat → Int32 → Int32 → Int32 × Int32
  | 0, _, b, k => (b, k)
  | f + 1, i, b, k => if b = (-100006) then blL z x f (i + 1) (nI i) (blI z x i) else if blI z x i ≤ k then blL z x f (i + 1) b k else blL z x f (i + 1) (nI i) (blI z x i)
def blR (z : Nat → Int32) (x : Int32) : Int32 × Int32 := blL z x 100 0 (-100006) 0
def pyL : Nat → (Nat → Int32) → (Nat → Int32)
  | 0, z => z
  | f + 1, z => pyL f (fiR z).1
def PlOK : Nat → (Nat → Int32) → Prop
  | 0, _ => True
  | f + 1, z => FiOK z ∧ PlOK f (fiR z).1
def riL (z : Nat → Int32) : Nat → Nat → Int32 → Int32
  | 0, _, r => r
  | f + 1, i, r => if z (8 + ix (mAt z (nI i))) ≤ z (8 + ix r) then riL z f (i + 1) r else riL z f (i + 1) (mAt z (nI i))
def riV (z : Nat → Int32) : Int32 := riL z 4 1 (mAt z 0)
def cnT (z : Nat → Int32) (ns ty : Int32) : Nat → Int32
  | 0 => z 0 | 1 => z 1 | 2 => z 2 | 3 => z 3 | 4 => z 4 | 5 => z 5 | 6 => z 6
  | 7 => if z 4 = 1 then lsZ z else (-100006)
  | 8 => lmZ z | 9 => z 7 | 10 => smB z 8 | 11 => smB z 33 | 12 => smB z 38 | 13 => smB z 48 | 14 => ty | _ => ns
def cnV (z : Nat → Int32) (ns ty x : Int32) : Int32 := if x.toInt < 0 ∨ 15 < x.toInt then (-100002) else cnT z ns ty (ix x)
theorem sw_in {x : Int32} {N : Nat} (h : ¬ (x.toInt < 0 ∨ ((N : Nat) : Int) < x.toInt)) (hN : N < 2 ^ 30) : ∃ k : Nat, k < N + 1 ∧ x = nI k := by
  have h0 : ¬ x < 0 := by
    rw [Int32.lt_iff_toInt_lt]
    have e0 : (0 : Int32).toInt = 0 := by decide
    omega
  obtain ⟨k, hk, rfl⟩ := nI_of h0
  rw [nI_toInt hk] at h
  exact ⟨k, by omega, rfl⟩
