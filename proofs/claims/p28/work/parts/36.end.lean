/-! THE AUCTION'S END -/
def capC (x : Int32) : Int32 := if (9999 : Int32) < x then 9999 else x
def capZ (x : Int32) : Int32 := if x ≤ 9999 then x else 9999
theorem cap_eq (x : Int32) : capC x = capZ x := by
  unfold capC capZ
  by_cases h : x ≤ 9999
  · rw [if_pos h, if_neg (Int32.not_lt.mpr h)]
  · rw [if_neg h, if_pos (Int32.not_le.mp h)]
theorem cap_n {a : Nat} (h : a ≤ 100000) : ∃ c, c ≤ 9999 ∧ capZ (nI a) = nI c := by
  unfold capZ
  by_cases q : a ≤ 9999
  · exact ⟨a, q, if_pos ((nI_leI (a := a) (b := 9999) (by omega) (by decide)).mpr q)⟩
  · exact ⟨9999, Nat.le_refl _, if_neg (fun e => q ((nI_leI (a := a) (b := 9999) (by omega) (by decide)).mp e))⟩
-- the reference
theorem ndS_at (x : Nat → Int32) (i k : Nat) : ndS x i k = if k = 38 + i then x (38 + i) + mpZ x (x (28 + i)) else if k = 8 + i then capZ (x (8 + i) + mpZ x (x (28 + i))) else if k = 18 + i then x (28 + i) else x k := by
  unfold ndS nd3 nd2 nd1 capZ
  simp only [upd_at]
  by_cases h1 : k = 38 + i
  · subst h1
    rw [if_pos rfl, if_pos rfl, if_neg (by omega), if_neg (by omega)]
  · rw [if_neg h1, if_neg h1]
theorem mpZ_congr {z z' : Nat → Int32} (h : ∀ i, i < 5 → z (48 + i) = z' (48 + i)) {a : Nat} (ha : a < 5) : mpZ z (nI a) = mpZ z' (nI a) := by
  rw [← prize_eq (pr := fun i => z (48 + i)) (z := z) (fun i hi => rfl) ha, ← prize_eq (pr := fun i => z (48 + i)) (z := z') h ha]
theorem mpZ_n {z : Nat → Int32} (h : Prz z) (v : Int32) : ∃ c, c ≤ 99 ∧ mpZ z v = nI c := by
  unfold mpZ
  have hs : ∀ k r, k < 5 → (∃ c, c ≤ 99 ∧ r = nI c) → ∃ c, c ≤ 99 ∧ (if mhL z k 5 0 0 = v then z (48 + k) else r) = nI c := by
    intro k r hk hr
    split
    · exact h k hk
    · exact hr
  simp only [mpL]
  exact hs _ _ (by decide) (hs _ _ (by decide) (hs _ _ (by decide) (hs _ _ (by decide) (hs _ _ (by decide) ⟨0, by decide, rfl⟩))))
theorem ndL_at : ∀ (f i : Nat) (x : Nat → Int32), i + f = 5 → (∀ p, p < 5 → ∃ a, a < 5 ∧ x (28 + p) = nI a) →
    (∀ p, p < 5 → ndL f i x (18 + p) = (if i ≤ p then x (28 + p) else x (18 + p)) ∧ ndL f i x (8 + p) = (if i ≤ p then capZ (x (8 + p) + mpZ x (x (28 + p))) else x (8 + p)) ∧ ndL f i x (38 + p) = (if i ≤ p then x (38 + p) + mpZ x (x (28 + p)) else x (38 + p))) ∧
    ∀ k, ¬ (18 ≤ k ∧ k < 23) → ¬ (8 ≤ k ∧ k < 13) → ¬ (38 ≤ k ∧ k < 43) → ndL f i x k = x k := by
  intro f
  induction f with
  | zero =>
    intro i x hi hg
    refine ⟨fun p hp => ?_, fun k _ _ _ => rfl⟩
    rw [if_neg (by omega), if_neg (by omega), if_neg (by omega)]
    exact ⟨rfl, rfl, rfl⟩
  | succ f ih =>
    intro i x hi hg
    have hs : ∀ k, k ≠ 38 + i → k ≠ 8 + i → k ≠ 18 + i → ndS x i k = x k := fun k a b c => by rw [ndS_at, if_neg a, if_neg b, if_neg c]
    have hg' : ∀ p, p < 5 → ndS x i (28 + p) = x (28 + p) := fun p hp => hs _ (by omega) (by omega) (by omega)
    obtain ⟨h1, h2⟩ := ih (i + 1) (ndS x i) (by omega) (fun p hp => by rw [hg' p hp]; exact hg p hp)
    have hm : ∀ p, p < 5 → mpZ (ndS x i) (x (28 + p)) = mpZ x (x (28 + p)) := fun p hp => by
      obtain ⟨a, ha, e⟩ := hg p hp
      rw [e]
      exact mpZ_congr (fun q hq => hs _ (by omega) (by omega) (by omega)) ha
    rw [ndL]
    refine ⟨fun p hp => ?_, fun k a b c => (h2 k a b c).trans (hs k (by omega) (by omega) (by omega))⟩
    obtain ⟨g1, g2, g3⟩ := h1 p hp
    rw [hg' p hp] at g1 g2 g3
    rw [hm p hp] at g2 g3
    rw [g1, g2, g3]
    by_cases hx : p = i
    · subst hx
      rw [if_neg (by omega), if_pos (Nat.le_refl _), if_neg (by omega), if_pos (Nat.le_refl _), if_neg (by omega), if_pos (Nat.le_refl _)]
      refine ⟨?_, ?_, ?_⟩
      · rw [ndS_at, if_neg (by omega), if_neg (by omega), if_pos rfl]
      · rw [ndS_at, if_neg (by omega), if_pos rfl]
      · rw [ndS_at, if_pos rfl]
    · rw [hs (18 + p) (by omega) (by omega) (by omega), hs (8 + p) (by omega) (by omega) (by omega), hs (38 + p) (by omega) (by omega) (by omega)]
      by_cases hl : i ≤ p
      · rw [if_pos hl, if_pos (by omega), if_pos hl, if_pos (by omega), if_pos hl, if_pos (by omega)]
        exact ⟨rfl, rfl, rfl⟩
      · rw [if_neg hl, if_neg (by omega), if_neg hl, if_neg (by omega), if_neg hl, if_neg (by omega)]
        exact ⟨rfl, rfl, rfl⟩
-- the class
theorem enA_off (T : Tb) (i : Nat) (hi : i < 5) (k q : Nat) (h : q ≠ i ∨ (k ≠ 6 ∧ k ≠ 9 ∧ k ≠ 2 ∧ k ≠ 7)) : enA T i k q = T k q := by
  have ht : ∀ (U : Tb) (k' : Nat) (x : Int32), (k' = 6 ∨ k' = 9 ∨ k' = 2 ∨ k' = 7) → tup U k' i x k q = U k q := fun U k' x hk => by
    rw [tup_at, if_neg (by omega)]
  unfold enA
  split
  · unfold payT
    rw [isPb_n hi, if_neg lz_o]
    split
    · unfold enB; rw [ht _ 9 _ (by omega), ht _ 6 _ (by omega)]
    · rw [ix_n hi, ht _ 7 _ (by omega), ht _ 2 _ (by omega)]
      unfold enB; rw [ht _ 9 _ (by omega), ht _ 6 _ (by omega)]
  · rfl
theorem enS_at (T : Tb) (i k q : Nat) : enS T i k q = if q = i then (if k = 4 then T 6 i else if k = 2 then capC (T 2 i + pfL (T 1) (T 6 i) 5 0) else if k = 8 then T 8 i + pfL (T 1) (T 6 i) 5 0 else if k = 6 ∨ k = 5 then (-100006) else T k q) else T k q := by
  have h1 : en1 T i 1 = T 1 := tup_row T i _ (by decide)
  have h4 : en1 T i 4 i = T 6 i := by unfold en1; rw [tup_at, if_pos ⟨rfl, rfl⟩]
  have hp : pfB (en1 T i) (en1 T i 4 i) = pfL (T 1) (T 6 i) 5 0 := by unfold pfB; rw [h1, h4]
  unfold enS
  rw [hp]
  generalize pfL (T 1) (T 6 i) 5 0 = pz
  unfold en3 en2 en1 capC
  simp only [tup_at]
  by_cases hq : q = i
  · subst hq
    simp only [and_true, if_true]
    by_cases k5 : k = 5
    · subst k5; simp
    by_cases k6 : k = 6
    · subst k6; simp
    by_cases k8 : k = 8
    · subst k8; simp
    by_cases k2 : k = 2
    · subst k2; simp
    by_cases k4 : k = 4
    · subst k4; simp
    simp [k5, k6, k8, k2, k4]
  · simp [hq]
theorem enS_row1 (T : Tb) (i k : Nat) (h : k = 0 ∨ k = 1 ∨ k = 3 ∨ k = 10) : enS T i k = T k := by
  funext q
  rw [enS_at]
  split
  · rw [if_neg (by omega), if_neg (by omega), if_neg (by omega), if_neg (by omega)]
  · rfl
/-- what enA makes of a column hangs on the column and the settings -/
theorem enA_col {T T' : Tb} {p : Nat} (hp : p < 5) (h : ∀ k, T k p = T' k p) (h0 : T 0 2 = T' 0 2) (k : Nat) : enA T p k p = enA T' p k p := by
  have e0 : ∀ U : Tb, enB U p 0 2 = U 0 2 := fun U => by unfold enB; rw [tup_row _ p _ (show (0 : Nat) ≠ 9 by decide), tup_row _ p _ (show (0 : Nat) ≠ 6 by decide)]
  have e5 : ∀ U : Tb, enB U p 5 p = U 5 p := fun U => by unfold enB; rw [tup_row _ p _ (show (5 : Nat) ≠ 9 by decide), tup_row _ p _ (show (5 : Nat) ≠ 6 by decide)]
  have eB : ∀ k, enB T p k p = enB T' p k p := fun k => by
    unfold enB
    rw [tup_at, tup_at _ 9]
    split
    · rw [tup_row _ p _ (show (9 : Nat) ≠ 6 by decide), tup_row _ p _ (show (9 : Nat) ≠ 6 by decide), h]
    · rw [tup_at, tup_at, h]
  have ht : ∀ (U U' : Tb) (k' : Nat) (x x' : Int32), x = x' → (∀ k, U k p = U' k p) → ∀ k, tup U k' p x k p = tup U' k' p x' k p := fun U U' k' x x' e hu k => by rw [tup_at, tup_at, e, hu]
  unfold enA
  rw [h 6, e0, e0, h0]
  split
  · unfold payT
    rw [isPb_n hp, if_neg lz_o, if_neg lz_o, ix_n hp, e5, e5, h 5]
    split
    · exact eB k
    · refine ht _ _ 7 _ _ ?_ (ht _ _ 2 _ _ (by rw [eB]) eB) k
      rw [tup_row _ p _ (show (7 : Nat) ≠ 2 by decide), tup_row _ p _ (show (7 : Nat) ≠ 2 by decide), eB]
  · exact h k
theorem enL_at : ∀ (f i : Nat) (T : Tb), i + f = 5 →
    (∀ p, p < 5 → ∀ k, 1 ≤ k → k ≤ 9 → enL f i T k p = if i ≤ p then enS (enA T p) p k p else T k p) ∧ ∀ k, (k = 0 ∨ k = 1 ∨ k = 3 ∨ k = 10) → enL f i T k = T k := by
  intro f
  induction f with
  | zero => intro i T hi; exact ⟨fun p hp k _ _ => by rw [if_neg (by omega)]; rfl, fun k _ => rfl⟩
  | succ f ih =>
    intro i T hi
    have hrow : ∀ k, (k = 0 ∨ k = 1 ∨ k = 3 ∨ k = 10) → enS (enA T i) i k = T k := fun k hk => by
      rw [enS_row1 _ _ _ hk]
      funext q
      exact enA_off T i (by omega) k q (Or.inr ⟨by omega, by omega, by omega, by omega⟩)
    have hcol : ∀ q, q ≠ i → ∀ k, enS (enA T i) i k q = T k q := fun q hq k => by rw [enS_at, if_neg hq]; exact enA_off T i (by omega) k q (Or.inl hq)
    obtain ⟨h1, h2⟩ := ih (i + 1) (enS (enA T i) i) (by omega)
    rw [enL]
    refine ⟨fun p hp k hk1 hk9 => ?_, fun k hk => by rw [h2 k hk, hrow k hk]⟩
    rw [h1 p hp k hk1 hk9]
    by_cases hx : p = i
    · subst hx; rw [if_neg (by omega), if_pos (Nat.le_refl _)]
    · by_cases hl : i ≤ p
      · rw [if_pos (by omega), if_pos hl]
        have hA : ∀ k, enA (enS (enA T i) i) p k p = enA T p k p := enA_col hp (hcol p hx) (by rw [hrow 0 (by omega)])
        have hr1 : enA (enS (enA T i) i) p 1 = enA T p 1 := by
          funext q
          rw [enA_off _ p hp 1 q (Or.inr ⟨by decide, by decide, by decide, by decide⟩), enA_off T p hp 1 q (Or.inr ⟨by decide, by decide, by decide, by decide⟩), hrow 1 (by omega)]
        rw [enS_at, enS_at, hr1]
        simp only [hA]
      · rw [if_neg (by omega), if_neg hl, hcol p hx k]
