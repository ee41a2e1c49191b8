/-! WHAT THE LAW ADDS UP OVER THE PLAYERS, AND SETS AS BITS -/
def sm (f : Nat → Int32) : Nat → Int32
  | 0 => 0
  | n + 1 => sm f n + f n
theorem sm_sq (f : Nat → Int32) : sqC f = sm f 5 := by
  unfold sqC
  simp only [sqL, sm, Nat.zero_add, Nat.reduceAdd]
theorem sm_s5 (f : Nat → Int32) : s5 f = sm f 5 := by rw [← sqC_s5, sm_sq]
def plM (q : Nat → Int32) : Nat → Int32
  | 0 => 0
  | n + 1 => plM q n ||| ((1 : Int32) <<< (q n &&& 31))
def orF (a b c d e : Fin 5) : Int32 := (((((0 : Int32) ||| ((1 : Int32) <<< (nI a.val &&& 31))) ||| ((1 : Int32) <<< (nI b.val &&& 31))) ||| ((1 : Int32) <<< (nI c.val &&& 31))) ||| ((1 : Int32) <<< (nI d.val &&& 31))) ||| ((1 : Int32) <<< (nI e.val &&& 31))
theorem or5 : ∀ a b c d e : Fin 5, (decide (a = b) || decide (a = c) || decide (a = d) || decide (a = e) || decide (b = c) || decide (b = d) || decide (b = e) || decide (c = d) || decide (c = e) || decide (d = e) || decide (orF a b c d e = 31)) = true := by decide +kernel
theorem plM_31 {pl : Nat → Int32} {P Q : Nat → Nat} (h : Per pl P Q) : plM (fun i => nI (Q i)) 5 = 31 := by
  have hn : ∀ i i' (hi : i < 5) (hi' : i' < 5), i ≠ i' → (⟨Q i, (h.1 i hi).1⟩ : Fin 5) ≠ ⟨Q i', (h.1 i' hi').1⟩ := fun i i' hi hi' hx e => hx (h.inj hi hi' (congrArg Fin.val e))
  have hq := or5 ⟨Q 0, (h.1 0 (by decide)).1⟩ ⟨Q 1, (h.1 1 (by decide)).1⟩ ⟨Q 2, (h.1 2 (by decide)).1⟩ ⟨Q 3, (h.1 3 (by decide)).1⟩ ⟨Q 4, (h.1 4 (by decide)).1⟩
  simp only [Bool.or_eq_true, decide_eq_true_eq] at hq
  rcases hq with ((((((((((h9 | h9) | h9) | h9) | h9) | h9) | h9) | h9) | h9) | h9) | h9)
  · exact absurd h9 (hn 0 1 (by decide) (by decide) (by decide))
  · exact absurd h9 (hn 0 2 (by decide) (by decide) (by decide))
  · exact absurd h9 (hn 0 3 (by decide) (by decide) (by decide))
  · exact absurd h9 (hn 0 4 (by decide) (by decide) (by decide))
  · exact absurd h9 (hn 1 2 (by decide) (by decide) (by decide))
  · exact absurd h9 (hn 1 3 (by decide) (by decide) (by decide))
  · exact absurd h9 (hn 1 4 (by decide) (by decide) (by decide))
  · exact absurd h9 (hn 2 3 (by decide) (by decide) (by decide))
  · exact absurd h9 (hn 2 4 (by decide) (by decide) (by decide))
  · exact absurd h9 (hn 3 4 (by decide) (by decide) (by decide))
  · exact h9
def lfV (u : Int32) (g : Nat → Int32) (i : Nat) : Int32 := if u = 0 then 0 else if g i = (-100006) then (1 : Int32) <<< (nI i &&& 31) else 0
def lfM (u : Int32) (g : Nat → Int32) : Nat → Int32
  | 0 => 0
  | n + 1 => lfM u g n ||| lfV u g n
def mnV (u : Int32) (g : Nat → Int32) (i : Nat) : Int32 := if u = 0 then 0 else if g i = (-100006) then 1 else 0
def mnM (u : Int32) (g : Nat → Int32) : Nat → Int32
  | 0 => 0
  | n + 1 => mnM u g n + mnV u g n
def hiM (b : Nat → Int32) : Nat → Int32
  | 0 => (-100006)
  | n + 1 => if b n ≤ hiM b n then hiM b n else b n
theorem hiM_hi (T : Tb) : hiB T = hiM (T 5) 5 := by
  show hbL (T 5) 5 0 (-100006) = hiM (T 5) 5
  rfl
theorem lfM_pl (T : Tb) : plB T = lfM (T 10 0) (T 6) 5 := by
  unfold plB
  by_cases h : T 10 0 = 0
  · rw [if_pos h, h]
    simp only [lfM, lfV, if_true]
    decide +kernel
  · rw [if_neg h]
    simp only [plL, lfM, lfV, if_neg h, Nat.zero_add, Nat.reduceAdd]
    by_cases h0 : T 6 0 = (-100006) <;> by_cases h1 : T 6 1 = (-100006) <;> by_cases h2 : T 6 2 = (-100006) <;> by_cases h3 : T 6 3 = (-100006) <;> by_cases h4 : T 6 4 = (-100006) <;>
      (simp only [h0, h1, h2, h3, h4, if_true, if_false] <;> decide +kernel)
theorem mnM_n (T : Tb) (h : ¬ T 10 0 = 0) : mnM (T 10 0) (T 6) 5 = nI (nT T) := by
  unfold nT cnt5
  simp only [mnM, mnV, if_neg h]
  by_cases h0 : T 6 0 = (-100006) <;> by_cases h1 : T 6 1 = (-100006) <;> by_cases h2 : T 6 2 = (-100006) <;> by_cases h3 : T 6 3 = (-100006) <;> by_cases h4 : T 6 4 = (-100006) <;>
    (simp only [h0, h1, h2, h3, h4, if_true, if_false, decide_true, decide_false] <;> decide +kernel)
theorem pl_bit (g : Nat → Int32) {j : Nat} (hj : j < 5) (hg : g j = (-100006)) : ((plL g 5 0 0) >>> (nI j &&& 31)) &&& 1 = 1 := by
  simp only [plL, Nat.zero_add, Nat.reduceAdd]
  rcases lt5 hj with rfl | rfl | rfl | rfl | rfl <;>
  by_cases h0 : g 0 = (-100006) <;> by_cases h1 : g 1 = (-100006) <;> by_cases h2 : g 2 = (-100006) <;> by_cases h3 : g 3 = (-100006) <;> by_cases h4 : g 4 = (-100006) <;>
    first
      | exact absurd hg (by assumption)
      | (simp only [h0, h1, h2, h3, h4, if_true, if_false] <;> decide +kernel)
theorem sz_pl (g : Nat → Int32) : szB (plL g 5 0 0) = nI (cnt5 (fun i => decide (g i = (-100006)))) := by
  unfold cnt5
  simp only [plL, Nat.zero_add, Nat.reduceAdd]
  by_cases h0 : g 0 = (-100006) <;> by_cases h1 : g 1 = (-100006) <;> by_cases h2 : g 2 = (-100006) <;> by_cases h3 : g 3 = (-100006) <;> by_cases h4 : g 4 = (-100006) <;>
    (simp only [h0, h1, h2, h3, h4, if_true, if_false, decide_true, decide_false] <;> decide +kernel)
theorem pl_less (g g' : Nat → Int32) {j : Nat} (hj : j < 5) (hg : g j = (-100006)) (hg' : ¬ g' j = (-100006)) (h : ∀ i, i < 5 → i ≠ j → g' i = g i) : plL g' 5 0 0 = plL g 5 0 0 - ((1 : Int32) <<< (nI j &&& 31)) := by
  simp only [plL, Nat.zero_add, Nat.reduceAdd]
  rcases lt5 hj with rfl | rfl | rfl | rfl | rfl
  · rw [h 1 (by decide) (by decide), h 2 (by decide) (by decide), h 3 (by decide) (by decide), h 4 (by decide) (by decide), if_pos hg, if_neg hg']
    by_cases h1 : g 1 = (-100006) <;> by_cases h2 : g 2 = (-100006) <;> by_cases h3 : g 3 = (-100006) <;> by_cases h4 : g 4 = (-100006) <;>
      (simp only [h1, h2, h3, h4, if_true, if_false] <;> decide +kernel)
  · rw [h 0 (by decide) (by decide), h 2 (by decide) (by decide), h 3 (by decide) (by decide), h 4 (by decide) (by decide), if_pos hg, if_neg hg']
    by_cases h0 : g 0 = (-100006) <;> by_cases h2 : g 2 = (-100006) <;> by_cases h3 : g 3 = (-100006) <;> by_cases h4 : g 4 = (-100006) <;>
      (simp only [h0, h2, h3, h4, if_true, if_false] <;> decide +kernel)
  · rw [h 0 (by decide) (by decide), h 1 (by decide) (by decide), h 3 (by decide) (by decide), h 4 (by decide) (by decide), if_pos hg, if_neg hg']
    by_cases h0 : g 0 = (-100006) <;> by_cases h1 : g 1 = (-100006) <;> by_cases h3 : g 3 = (-100006) <;> by_cases h4 : g 4 = (-100006) <;>
      (simp only [h0, h1, h3, h4, if_true, if_false] <;> decide +kernel)
  · rw [h 0 (by decide) (by decide), h 1 (by decide) (by decide), h 2 (by decide) (by decide), h 4 (by decide) (by decide), if_pos hg, if_neg hg']
    by_cases h0 : g 0 = (-100006) <;> by_cases h1 : g 1 = (-100006) <;> by_cases h2 : g 2 = (-100006) <;> by_cases h4 : g 4 = (-100006) <;>
      (simp only [h0, h1, h2, h4, if_true, if_false] <;> decide +kernel)
  · rw [h 0 (by decide) (by decide), h 1 (by decide) (by decide), h 2 (by decide) (by decide), h 3 (by decide) (by decide), if_pos hg, if_neg hg']
    by_cases h0 : g 0 = (-100006) <;> by_cases h1 : g 1 = (-100006) <;> by_cases h2 : g 2 = (-100006) <;> by_cases h3 : g 3 = (-100006) <;>
      (simp only [h0, h1, h2, h3, if_true, if_false] <;> decide +kernel)
theorem pl_two (g : Nat → Int32) {j w : Nat} (hj : j < 5) (hw : w < 5) (hne : w ≠ j) (hgj : g j = (-100006)) (hgw : g w = (-100006)) (h : ∀ i, i < 5 → i ≠ j → i ≠ w → ¬ g i = (-100006)) : plL g 5 0 0 = ((1 : Int32) <<< (nI j &&& 31)) ||| ((1 : Int32) <<< (nI w &&& 31)) := by
  have e : ∀ i, i < 5 → (g i = (-100006)) = (i = j ∨ i = w) := fun i hi => propext ⟨fun q => by
    by_cases a : i = j
    · exact Or.inl a
    · by_cases b : i = w
      · exact Or.inr b
      · exact absurd q (h i hi a b), fun q => by rcases q with q | q <;> rw [q] <;> assumption⟩
  simp only [plL, Nat.zero_add, Nat.reduceAdd, e 0 (by decide), e 1 (by decide), e 2 (by decide), e 3 (by decide), e 4 (by decide)]
  rcases lt5 hj with rfl | rfl | rfl | rfl | rfl <;> rcases lt5 hw with rfl | rfl | rfl | rfl | rfl <;>
    first
      | exact absurd rfl hne
      | decide +kernel
/-- what is true of each player -/
theorem TJ.plr {T : Tb} (h : TJ T) {i : Nat} (hi : i < 5) : (¬ T 5 i = (-100006) → ¬ T 5 i < 0) ∧ (T 6 i = (-100006) → ¬ T 5 i = (-100006) → ¬ T 2 i < T 5 i) ∧ (¬ T 6 i = (-100006) → ¬ T 6 i ≤ 0 ∧ ¬ (5 : Int32) ≤ T 6 i) ∧ ¬ T 2 i < 0 ∧ ¬ (9999 : Int32) < T 2 i := by
  obtain ⟨c, hc, ec⟩ := h.coins hi
  have c1 : ¬ T 2 i < 0 := by rw [ec]; exact nI_pos (by omega)
  have c2 : ¬ (9999 : Int32) < T 2 i := by rw [ec]; exact nI_nlt (a := 9999) hc (by decide)
  by_cases h0 : T 10 0 = 0
  · obtain ⟨a, b⟩ := (h.idle h0).2 i hi
    exact ⟨fun q => absurd a q, fun _ q => absurd a q, fun q => absurd b q, c1, c2⟩
  · obtain ⟨z, hR, hZ, h4, hn, -, hH, hV, hG⟩ := h.runs h0
    refine ⟨fun q => ?_, fun q1 q2 => ?_, fun q => ?_, c1, c2⟩
    · rw [hR.bi hi] at q ⊢
      rcases hH with ⟨-, r⟩ | ⟨m, hm, -, -, r⟩
      · exact absurd (r i hi) q
      · rcases r i hi with r | ⟨b, hb, r⟩
        · exact absurd r q
        · rw [r]; exact nI_pos (by omega)
    · rw [hR.bi hi] at q2 ⊢
      rw [hR.co hi]
      rcases hV i hi (by rw [← hR.go hi]; exact q1) with r | ⟨b, c, hbc, hc9, r1, r2⟩
      · exact absurd r q2
      · rw [r1, r2]; exact nI_nlt hbc (by omega)
    · rw [hR.go hi] at q ⊢
      rcases hG.1 i hi with r | ⟨a, ha, ha5, r⟩
      · exact absurd r q
      · rw [r]
        exact ⟨nI_ge (a := 0) (b := a) (by omega) (by omega), nI_ge (b := 5) ha5 (by decide)⟩
/-- the answers, read off a state -/
theorem cn_s (T : Tb) (ln pl : Nat) {x : Int32} (h0 : ¬ x < 0) (h4 : (4 : Int32) ≤ x) (h : ¬ (x.toInt < 4 ∨ 15 < x.toInt)) : cnC T ln pl x = cnS T ln pl (ix x) := by
  unfold cnC
  rw [if_neg h0, if_pos h4, if_neg h]
theorem cn4 {T : Tb} (h : is01 (T 10 0)) (ln pl : Nat) : cnC T ln pl 4 = T 10 0 := by
  rw [cn_s T ln pl (by decide) (by decide) (by decide +kernel)]
  show (if T 10 0 = 0 then (0 : Int32) else 1) = T 10 0
  rcases h with e | e <;> rw [e] <;> rfl
theorem cn5 (T : Tb) (ln pl : Nat) : cnC T ln pl 5 = T 10 1 := by rw [cn_s T ln pl (by decide) (by decide) (by decide +kernel)]; rfl
theorem cn6 (T : Tb) (ln pl : Nat) : cnC T ln pl 6 = hiB T := by rw [cn_s T ln pl (by decide) (by decide) (by decide +kernel)]; rfl
theorem cn7 (T : Tb) (ln pl : Nat) : cnC T ln pl 7 = leB T := by rw [cn_s T ln pl (by decide) (by decide) (by decide +kernel)]; rfl
theorem cn8 (T : Tb) (ln pl : Nat) : cnC T ln pl 8 = plB T := by rw [cn_s T ln pl (by decide) (by decide) (by decide +kernel)]; rfl
theorem cn9 (T : Tb) (ln pl : Nat) : cnC T ln pl 9 = T 10 2 := by rw [cn_s T ln pl (by decide) (by decide) (by decide +kernel)]; rfl
theorem cn10 (T : Tb) (ln pl : Nat) : cnC T ln pl 10 = s5 (T 2) := by rw [cn_s T ln pl (by decide) (by decide) (by decide +kernel)]; exact sqC_s5 _
theorem cn11 (T : Tb) (ln pl : Nat) : cnC T ln pl 11 = s5 (T 7) := by rw [cn_s T ln pl (by decide) (by decide) (by decide +kernel)]; exact sqC_s5 _
theorem cn12 (T : Tb) (ln pl : Nat) : cnC T ln pl 12 = s5 (T 8) := by rw [cn_s T ln pl (by decide) (by decide) (by decide +kernel)]; exact sqC_s5 _
theorem cn13 (T : Tb) (ln pl : Nat) : cnC T ln pl 13 = s5 (T 1) := by rw [cn_s T ln pl (by decide) (by decide) (by decide +kernel)]; exact sqC_s5 _
theorem cn15 (T : Tb) (ln pl : Nat) : cnC T ln pl 15 = nI ln := by rw [cn_s T ln pl (by decide) (by decide) (by decide +kernel)]; rfl
theorem cnS0 (T : Tb) (ln pl : Nat) {i : Nat} (hi : i < 4) : cnC T ln pl (nI i) = T 0 i := by
  unfold cnC
  rw [if_neg (nI_pos (by omega)), if_neg (show ¬ (4 : Int32) ≤ nI i from nI_ge (b := 4) hi (by decide)), show ix (nI i) = i from nI_clamp (by omega)]
theorem pl_at (T : Tb) {i : Nat} (hi : i < 5) (w : Nat) (hw : w < 8) : plC T (nI i) (nI w) = T (w + 2) i := by
  unfold plC
  rw [isPb_n hi, if_neg lz_o, if_neg (by rw [nI_toInt (by omega)]; omega), ix_n hi, show ix (nI w) = w from nI_clamp (by omega)]
theorem pz_at (T : Tb) {i : Nat} (hi : i < 5) : (if isPb (nI i) = 0 then (-100001) else T 1 (ix (nI i))) = T 1 i := by
  rw [isPb_n hi, if_neg lz_o, ix_n hi]
theorem at_P {T : Tb} {P Q : Nat → Nat} (h : Per (T 4) P Q) {a : Nat} (ha : a < 5) : (if nI a < 0 then (-100001) else if nI a < 5 then pAt (T 4) (nI a) else (-100001)) = nI (P a) := by
  rw [if_neg (nI_pos (by omega)), if_pos (show nI a < 5 from nI_lt (b := 5) ha (by decide)), pAt_per h ha]
