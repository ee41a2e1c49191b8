/-! THE CLASS BY ITSELF: what holds of a state; a bid; a payment -/
def s5 (f : Nat → Int32) : Int32 := f 0 + f 1 + f 2 + f 3 + f 4
theorem sqC_s5 (g : Nat → Int32) : sqC g = s5 g := by
  unfold sqC s5
  simp only [sqL, Nat.zero_add, Nat.reduceAdd, Int32.zero_add]
theorem s5_congr {f f' : Nat → Int32} (h : ∀ i, i < 5 → f i = f' i) : s5 f = s5 f' := by
  unfold s5
  rw [h 0 (by decide), h 1 (by decide), h 2 (by decide), h 3 (by decide), h 4 (by decide)]
theorem s5_add (f f' : Nat → Int32) : s5 (fun i => f i + f' i) = s5 f + s5 f' := by
  unfold s5
  show (f 0 + f' 0) + (f 1 + f' 1) + (f 2 + f' 2) + (f 3 + f' 3) + (f 4 + f' 4) = _
  ac_rfl
theorem s5_n (f : Nat → Nat) : s5 (fun i => nI (f i)) = nI (f 0 + f 1 + f 2 + f 3 + f 4) := by
  unfold s5
  rw [nI_add, nI_add, nI_add, nI_add]
theorem s5_1 (x : Int32) {j : Nat} (hj : j < 5) : s5 (fun i => if i = j then x else 0) = x := by
  unfold s5
  rcases lt5 hj with rfl | rfl | rfl | rfl | rfl <;> simp
/-- the won auctions are the rounds -/
def WT (T : Tb) : Prop := T 10 2 = s5 (T 9)
/-- no bid is above B -/
def HB (T : Tb) (B : Nat) : Prop := ∀ i, i < 5 → T 5 i = (-100006) ∨ ∃ b, b ≤ B ∧ T 5 i = nI b
def TJ (T : Tb) : Prop := (∃ z, RelV T z ∧ ZI z) ∧ WT T
def TI (T : Tb) (B : Nat) : Prop := TJ T ∧ HB T B
/-- who has not dropped, and how many -/
def nT (T : Tb) : Nat := cnt5 (fun i => decide (T 6 i = (-100006)))
theorem nT_nin {T : Tb} {z : Nat → Int32} (hR : RelV T z) : nT T = nin z := cnt5_congr (fun i hi => by unfold inG; rw [hR.go hi])
theorem TJ.t01 {T : Tb} (h : TJ T) : is01 (T 10 0) := by
  obtain ⟨⟨z, hR, hZ⟩, -⟩ := h
  rw [hR.uw]; exact hZ.is01
theorem TJ.runs {T : Tb} (h : TJ T) (h1 : ¬ T 10 0 = 0) : ∃ z, RelV T z ∧ ZI z ∧ Runs z := by
  obtain ⟨⟨z, hR, hZ⟩, -⟩ := h
  exact ⟨z, hR, hZ, hZ.2.resolve_left (fun q => h1 (by rw [hR.uw]; exact q.1))⟩
theorem TJ.idle {T : Tb} (h : TJ T) (h0 : T 10 0 = 0) : T 10 1 = (-100006) ∧ ∀ i, i < 5 → T 5 i = (-100006) ∧ T 6 i = (-100006) := by
  obtain ⟨⟨z, hR, hZ⟩, -⟩ := h
  have hi : Idle z := hZ.2.resolve_right (fun q => by have e := hR.uw; rw [h0, q.1] at e; exact absurd e (by decide))
  exact ⟨by rw [hR.tu]; exact hi.2.1, fun i hq => ⟨by rw [hR.bi hq]; exact (hi.2.2.2 i hq).1, by rw [hR.go hq]; exact (hi.2.2.2 i hq).2⟩⟩
theorem TJ.per {T : Tb} (h : TJ T) : ∃ P Q, Per (T 4) P Q := by
  obtain ⟨⟨z, hR, hZ⟩, -⟩ := h
  obtain ⟨P, Q, hp⟩ := hZ.1.2.2.2
  exact ⟨P, Q, hp.congr (fun i hi => (hR.pl hi).symm)⟩
theorem TJ.coins {T : Tb} (h : TJ T) {i : Nat} (hi : i < 5) : ∃ c, c ≤ 9999 ∧ T 2 i = nI c := by
  obtain ⟨⟨z, hR, hZ⟩, -⟩ := h
  rw [hR.co hi]; exact hZ.1.2.2.1.1 i hi
theorem TJ.limits {T : Tb} (h : TJ T) {i : Nat} (hi : i < 5) : ∃ c, c ≤ 99 ∧ T 3 i = nI c := by
  obtain ⟨⟨z, hR, hZ⟩, -⟩ := h
  rw [hR.li hi]; exact hZ.1.2.1 i hi
theorem TJ.prizes {T : Tb} (h : TJ T) {i : Nat} (hi : i < 5) : ∃ c, c ≤ 99 ∧ T 1 i = nI c := by
  obtain ⟨⟨z, hR, hZ⟩, -⟩ := h
  rw [hR.pz hi]; exact hZ.1.2.2.1.2 i hi
theorem TJ.sets {T : Tb} (h : TJ T) : (∃ s, 1 ≤ s ∧ s ≤ 9 ∧ T 0 0 = nI s) ∧ (∃ f, f ≤ 20 ∧ T 0 1 = nI f) ∧ (∃ h, h ≤ 100 ∧ T 0 2 = nI h) ∧ ∃ d, d ≤ 100 ∧ T 0 3 = nI d := by
  obtain ⟨⟨z, hR, hZ⟩, -⟩ := h
  rw [hR.se (show 0 < 4 by decide), hR.se (show 1 < 4 by decide), hR.se (show 2 < 4 by decide), hR.se (show 3 < 4 by decide)]
  exact hZ.1.1
/-- under way: the turn, its player's coins, the least bid -/
theorem TJ.turn {T : Tb} (h : TJ T) (h1 : ¬ T 10 0 = 0) : T 10 0 = 1 ∧ 2 ≤ nT T ∧ ∃ j, j < 5 ∧ T 10 1 = nI j ∧ T 6 j = (-100006) := by
  obtain ⟨z, hR, hZ, h4, hn, ⟨j, hj, h5, hg⟩, -⟩ := h.runs h1
  exact ⟨by rw [hR.uw]; exact h4, by rw [nT_nin hR]; exact hn, j, hj, by rw [hR.tu]; exact h5, by rw [hR.go hj]; exact hg⟩
theorem TI.least {T : Tb} {B : Nat} (h : TI T B) (hB9 : B ≤ 9999) (h1 : ¬ T 10 0 = 0) : ∃ n, n ≤ B + 20 ∧ leB T = nI n ∧ (hiB T = (-100006) ∧ leB T = T 0 1 ∨ ¬ hiB T = (-100006) ∧ leB T = hiB T + T 0 0 ∧ n ≤ B + 9) := by
  obtain ⟨z, hR, hZ, hu⟩ := h.1.runs h1
  obtain ⟨⟨s, hs1, hs9, es⟩, ⟨f, hf, ef⟩, -, -⟩ := h.1.sets
  have hH := hu.2.2.2.1
  have hh := hiB_ok hH hR
  unfold leB
  rw [if_neg h1]
  rcases hH with ⟨h6, -⟩ | ⟨m, hm, h6, ⟨i, hi, hmi⟩, -⟩
  · rw [hh, h6, if_pos rfl]
    exact ⟨f, by omega, ef, Or.inl ⟨rfl, rfl⟩⟩
  · have hmB : m ≤ B := by
      rcases h.2 i hi with q | ⟨b, hb, q⟩
      · rw [hR.bi hi, hmi] at q; exact absurd q (nI_none (by omega))
      · rw [hR.bi hi, hmi, nI_eq (by omega)] at q
        · omega
        · omega
    rw [hh, h6, if_neg (nI_none (by omega)), es, nI_add]
    exact ⟨m + s, by omega, rfl, Or.inr ⟨nI_none (by omega), rfl, by omega⟩⟩
