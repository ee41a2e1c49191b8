/-! A MOVE BY LIMIT; A ROUND; THE BEGINNING -/
theorem TJ.top {T : Tb} (h : TJ T) : TI T 9999 := by
  refine ⟨h, fun i hi => ?_⟩
  by_cases h0 : T 10 0 = 0
  · exact Or.inl ((h.idle h0).2 i hi).1
  · obtain ⟨z, hR, hZ, hu⟩ := h.runs h0
    rw [hR.bi hi]
    rcases hu.2.2.2.1 with ⟨-, q⟩ | ⟨m, hm, -, -, q⟩
    · exact Or.inl (q i hi)
    · rcases q i hi with q | ⟨b, hb, q⟩
      · exact Or.inl q
      · exact Or.inr ⟨b, by omega, q⟩
theorem TI.mono {T : Tb} {B B' : Nat} (h : TI T B) (hB : B ≤ B') : TI T B' := ⟨h.1, fun i hi => (h.2 i hi).imp id (fun ⟨b, hb, q⟩ => ⟨b, by omega, q⟩)⟩
theorem TI.of_idle {T : Tb} (h : TJ T) (h0 : T 10 0 = 0) (B : Nat) : TI T B := ⟨h, fun i hi => Or.inl ((h.idle h0).2 i hi).1⟩
theorem mayB_eq {T : Tb} {j : Nat} (hj : j < 5) (ht : T 10 1 = nI j) (h1 : ¬ T 10 0 = 0) (x : Int32) : mayB T x = if x < leB T then 0 else if T 2 j < x then 0 else 1 := by
  unfold mayB
  rw [if_neg h1, ht, isPb_n hj, if_neg lz_o, ix_n hj]
theorem act_cases {T : Tb} {B : Nat} (h : TI T B) (hB : B ≤ 9999) (h1 : ¬ T 10 0 = 0) : ∃ j n, j < 5 ∧ T 10 1 = nI j ∧ leB T = nI n ∧
    ((leB T ≤ T 3 j ∧ leB T ≤ T 2 j ∧ acT T = takT T (nI n) ∧ acV T = takT T (nI n) 10 1 ∧ ¬ mayB T (nI n) = 0 ∧ n ≤ 99 ∧ n ≤ B + 20 ∧ (20 ≤ B → n ≤ B + 9)) ∨ (¬ (leB T ≤ T 3 j ∧ leB T ≤ T 2 j) ∧ acT T = drT T ∧ acV T = drV T)) := by
  obtain ⟨-, -, j, hj, ht, -⟩ := h.1.turn h1
  obtain ⟨n, hn, en, hn2⟩ := h.least hB h1
  refine ⟨j, n, hj, ht, en, ?_⟩
  obtain ⟨l, hl, el⟩ := h.1.limits hj
  obtain ⟨-, ⟨f, hf, ef⟩, -, -⟩ := h.1.sets
  have hm := mayB_eq hj ht h1 (leB T)
  unfold acT acV
  rw [ht, isPb_n hj, if_neg lz_o, if_neg lz_o, ix_n hj]
  by_cases c1 : T 3 j < leB T
  · rw [if_pos c1, if_pos c1]
    exact Or.inr ⟨fun q => Int32.not_le.mpr c1 q.1, rfl, rfl⟩
  · rw [if_neg c1, if_neg c1]
    by_cases c2 : T 2 j < leB T
    · have e0 : mayB T (leB T) = 0 := by rw [hm, if_neg (Int32.lt_irrefl (a := leB T)), if_pos c2]
      rw [if_pos e0, if_pos e0]
      exact Or.inr ⟨fun q => Int32.not_le.mpr c2 q.2, rfl, rfl⟩
    · have e0 : ¬ mayB T (leB T) = 0 := by rw [hm, if_neg (Int32.lt_irrefl (a := leB T)), if_neg c2]; exact lz_o
      rw [if_neg e0, if_neg e0]
      refine Or.inl ⟨Int32.not_lt.mp c1, Int32.not_lt.mp c2, by rw [en], by rw [en], by rw [← en]; exact e0, ?_, by omega, fun hb20 => ?_⟩
      · rw [el, en] at c1
        have := nlt_nI (by omega) (by omega) c1
        omega
      · rcases hn2 with ⟨-, q⟩ | ⟨-, -, q⟩
        · rw [en, ef, nI_eq (by omega) (by omega)] at q; omega
        · exact q
/-- what a move by limit leaves as it is, or an auction's end adds -/
def RdF (T T' : Tb) (e : Int32) (x : Int32) : Prop := T' 1 = T 1 ∧ T' 10 2 = T 10 2 + e ∧ s5 (T' 8) = s5 (T 8) + x
theorem more_rd {T : Tb} {B : Nat} (h : TI T B) (h1 : ¬ T 10 0 = 0) (h3 : 3 ≤ nT T) : RdF T (drT T) 0 0 := by
  obtain ⟨-, -, j, j', hj, hj', -, -, -, -, hp⟩ := more_T h h1 h3
  have hr : ∀ k, k ≠ 10 → k ≠ 2 → k ≠ 7 → k ≠ 6 → drT T k = T k := fun k a b c d => funext (fun i => by rw [hp, if_neg (by omega), if_neg (by omega), if_neg (by omega), if_neg (by omega)])
  exact ⟨hr 1 (by decide) (by decide) (by decide) (by decide), by rw [hp, if_neg (by omega), if_neg (by omega), if_neg (by omega), if_neg (by omega), Int32.add_zero], by rw [hr 8 (by decide) (by decide) (by decide) (by decide), Int32.add_zero]⟩
theorem last_rd {T : Tb} {B : Nat} (h : TI T B) (h1 : ¬ T 10 0 = 0) (h2 : nT T = 2) : RdF T (drT T) 1 (s5 (T 1)) := by
  obtain ⟨-, -, -, h10, hr1, -, j, w, -, -, -, -, -, -, -, -, -, sh, -, d, pz, c', hq, hs⟩ := last_T h h1 h2
  refine ⟨hr1, h10, ?_⟩
  rw [← hs, ← s5_add]
  exact s5_congr (fun i hi => (hq i hi).2.2.2.2.2.2)
theorem bid_rd {T : Tb} {B : Nat} (h : TI T B) (h1 : ¬ T 10 0 = 0) {b : Nat} (hb : b ≤ 9999) (hm : ¬ mayB T (nI b) = 0) : RdF T (takT T (nI b)) 0 0 := by
  obtain ⟨-, -, j, j', hj, hj', -, -, -, e, -⟩ := bid_T (B' := B + b) h h1 hb (by omega) (by omega) hm
  have hr : ∀ k, k ≠ 10 → k ≠ 5 → takT T (nI b) k = T k := fun k a c => by rw [e, tup_row _ _ _ a, tup_row _ _ _ c]
  exact ⟨hr 1 (by decide) (by decide), by rw [e, tup_at, if_neg (by omega), tup_at, if_neg (by omega), Int32.add_zero], by rw [hr 8 (by decide) (by decide), Int32.add_zero]⟩
theorem act_rd {T : Tb} (h : TJ T) (h1 : ¬ T 10 0 = 0) : TJ (acT T) ∧ ((¬ acT T 10 0 = 0 ∧ RdF T (acT T) 0 0) ∨ (acT T 10 0 = 0 ∧ RdF T (acT T) 1 (s5 (T 1)))) := by
  have ht := h.top
  obtain ⟨j, n, hj, -, -, q | q⟩ := act_cases ht (Nat.le_refl _) h1
  · obtain ⟨-, -, e, -, hm, hn, -, -⟩ := q
    obtain ⟨b1, b2, -⟩ := bid_T (B' := 9999) ht h1 (b := n) (by omega) (Nat.le_refl _) (by omega) hm
    rw [e]
    exact ⟨b1.1, Or.inl ⟨by rw [b2]; exact lz_o, bid_rd ht h1 (by omega) hm⟩⟩
  · rw [q.2.1]
    by_cases h3 : 3 ≤ nT T
    · obtain ⟨m1, m2, -⟩ := more_T ht h1 h3
      exact ⟨m1.1, Or.inl ⟨by rw [m2]; exact lz_o, more_rd ht h1 h3⟩⟩
    · have h2 : nT T = 2 := by have := (h.turn h1).2.1; omega
      obtain ⟨m1, m2, -⟩ := last_T ht h1 h2
      exact ⟨m1, Or.inr ⟨m2, last_rd ht h1 h2⟩⟩
theorem RdF.step {T T1 T2 : Tb} {x : Int32} (h : RdF T T1 0 0) (h2 : RdF T1 T2 1 (s5 (T1 1))) : RdF T T2 1 (s5 (T 1)) := by
  obtain ⟨a1, a2, a3⟩ := h
  obtain ⟨b1, b2, b3⟩ := h2
  rw [a1] at b1 b3
  exact ⟨b1, by rw [b2, a2, Int32.add_zero], by rw [b3, a3, Int32.add_zero]⟩
theorem prL_rd : ∀ (f n : Nat) (T : Tb) (z : Nat → Int32), RelV T z → ZI z → WT T → ¬ T 10 0 = 0 → mea z ≤ f → TJ (prL f n T).1 ∧ (prL f n T).1 10 0 = 0 ∧ RdF T (prL f n T).1 1 (s5 (T 1)) := by
  intro f
  induction f with
  | zero =>
    intro n T z hR hZ hW h1 hm
    exfalso
    obtain ⟨z', hR', -, hu⟩ := TJ.runs ⟨⟨z, hR, hZ⟩, hW⟩ h1
    have h2 : 2 ≤ nT T := by rw [nT_nin hR']; exact hu.2.1
    rw [nT_nin hR] at h2
    unfold mea at hm
    omega
  | succ f ih =>
    intro n T z hR hZ hW h1 hm
    have hJ : TJ T := ⟨⟨z, hR, hZ⟩, hW⟩
    have hu : Runs z := hZ.2.resolve_left (fun q => h1 (by rw [hR.uw]; exact q.1))
    obtain ⟨-, a2, -, a4, a5⟩ := act_ok hZ.1 hu
    have hRa := (a5 T hR).1
    obtain ⟨j1, j2⟩ := act_rd hJ h1
    rw [prL, if_neg h1]
    rcases j2 with ⟨q1, q2⟩ | ⟨q1, q2⟩
    · have h4 : acZ z 4 = 1 := by rw [← hRa.uw]; exact j1.t01.resolve_left q1
      obtain ⟨r1, r2, r3⟩ := ih (n + 1) (acT T) (acZ z) hRa a2 j1.2 q1 (by have := a4 h4; omega)
      exact ⟨r1, r2, RdF.step (x := 0) q2 r3⟩
    · have e : prL f (n + 1) (acT T) = (acT T, n + 1) := by
        cases f with
        | zero => rfl
        | succ f => rw [prL, if_pos q1]
      rw [e]
      exact ⟨j1, q1, q2⟩
theorem prL_n : ∀ (f n : Nat) (T : Tb), n ≤ (prL f n T).2 ∧ (prL f n T).2 ≤ n + f := by
  intro f
  induction f with
  | zero => intro n T; exact ⟨Nat.le_refl _, Nat.le_refl _⟩
  | succ f ih =>
    intro n T
    rw [prL]
    split
    · exact ⟨Nat.le_refl _, Nat.le_add_right _ _⟩
    · have := ih (n + 1) (acT T)
      omega
theorem start_T {T : Tb} {B : Nat} (h : TI T B) (h0 : T 10 0 = 0) : TI (staT T) B ∧ staT T 10 0 = 1 ∧ staT T 10 1 = pAt (T 4) 0 ∧ staT T 10 2 = T 10 2 ∧ (∀ k, k ≠ 10 → staT T k = T k) ∧ plB (staT T) = 31 ∧ hiB (staT T) = (-100006) := by
  obtain ⟨⟨z, hR, hZ⟩, hW⟩ := h.1
  have hi : Idle z := hZ.2.resolve_right (fun q => by have e := hR.uw; rw [h0, q.1] at e; exact absurd e (by decide))
  obtain ⟨s1, s2, s3⟩ := start_ok hR hZ.1 hi
  have hr : ∀ k, k ≠ 10 → staT T k = T k := fun k hk => by unfold staT; rw [tup_row _ _ _ hk, tup_row _ _ _ hk]
  have e0 : staT T 10 0 = 1 := by unfold staT; rw [tup_at, if_neg (by omega), tup_at, if_pos ⟨rfl, rfl⟩]
  have e2 : staT T 10 2 = T 10 2 := by unfold staT; rw [tup_at, if_neg (by omega), tup_at, if_neg (by omega)]
  have hid := h.1.idle h0
  refine ⟨⟨⟨⟨_, s1, s2⟩, ?_⟩, ?_⟩, e0, ?_, e2, hr, ?_, ?_⟩
  · unfold WT
    rw [e2, hr 9 (by decide)]; exact hW
  · intro i hi; rw [hr 5 (by decide)]; exact h.2 i hi
  · unfold staT
    rw [tup_at, if_pos ⟨rfl, rfl⟩, tup_row _ _ _ (show (4 : Nat) ≠ 10 by decide)]
  · unfold plB
    rw [e0, if_neg lz_o, hr 6 (by decide)]
    simp only [plL, Nat.zero_add, Nat.reduceAdd, (hid.2 0 (by decide)).2, (hid.2 1 (by decide)).2, (hid.2 2 (by decide)).2, (hid.2 3 (by decide)).2, (hid.2 4 (by decide)).2, if_true]
    decide +kernel
  · unfold hiB
    rw [hr 5 (by decide)]
    simp only [hbL, Nat.zero_add, Nat.reduceAdd, (hid.2 0 (by decide)).1, (hid.2 1 (by decide)).1, (hid.2 2 (by decide)).1, (hid.2 3 (by decide)).1, (hid.2 4 (by decide)).1]
    decide +kernel
theorem round_T {T : Tb} (h : TJ T) : TJ (prR T).1 ∧ (prR T).1 10 0 = 0 ∧ RdF T (prR T).1 1 (s5 (T 1)) := by
  unfold prR
  by_cases h0 : T 10 0 = 0
  · rw [if_pos h0]
    obtain ⟨s1, s2, -, s4, s5', -, -⟩ := start_T h.top h0
    obtain ⟨⟨z, hR, hZ⟩, hW⟩ := s1.1
    obtain ⟨r1, r2, r3⟩ := prL_rd 10000 0 (staT T) z hR hZ hW (by rw [s2]; exact lz_o) (Nat.le_trans (mea_le _) (by decide))
    refine ⟨r1, r2, ?_⟩
    unfold RdF at r3 ⊢
    rw [s4, s5' 1 (by decide), s5' 8 (by decide)] at r3
    exact r3
  · rw [if_neg h0]
    obtain ⟨⟨z, hR, hZ⟩, hW⟩ := h
    exact prL_rd 10000 0 T z hR hZ hW h0 (Nat.le_trans (mea_le _) (by decide))
theorem moves_n {T : Tb} (h1 : ¬ T 10 0 = 0) : 1 ≤ (prR T).2 ∧ (prR T).2 ≤ 10000 := by
  unfold prR
  rw [if_neg h1, prL, if_neg h1]
  have := prL_n 9999 (0 + 1) (acT T)
  omega
