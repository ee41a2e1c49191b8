/-! WHAT THE LAW ASKS OF A BID AND OF A DROP -/
theorem asb (a b c : Int32) : (a + c) - (b + c) + b = a := by
  have h1 : (a + c) - (b + c) = a - b := by
    rw [Int32.sub_eq_iff_eq_add, ← Int32.add_assoc, Int32.sub_add_cancel]
  rw [h1, Int32.sub_add_cancel]
/-- a bid, as the law sees it -/
def BidF (T T1 : Tb) (b j j' : Nat) : Prop := j < 5 ∧ j' < 5 ∧ ¬ nI j' = nI j ∧ T 10 1 = nI j ∧ T1 10 1 = nI j' ∧ ((plB T >>> (nI j' &&& 31)) &&& 1 = 1) ∧ T1 5 j = nI b ∧ hiB T1 = nI b ∧ plB T1 = plB T ∧ T1 2 = T 2
theorem bid_F {T : Tb} {B B' : Nat} (h : TI T B) (h1 : ¬ T 10 0 = 0) {b : Nat} (hb : b ≤ 9999) (hB : B ≤ B') (hbB : b ≤ B') (hm : ¬ mayB T (nI b) = 0) :
    TI (takT T (nI b)) B' ∧ ∃ j j', BidF T (takT T (nI b)) b j j' := by
  obtain ⟨b1, b2, j, j', hj, hj', hjj, ht, hg, e, hh⟩ := bid_T h h1 hb hB hbB hm
  have hr : ∀ k, k ≠ 10 → k ≠ 5 → takT T (nI b) k = T k := fun k a c => by rw [e, tup_row _ _ _ a, tup_row _ _ _ c]
  refine ⟨b1, j, j', hj, hj', fun q => hjj ((nI_eq (by omega) (by omega)).mp q), ht, by rw [e, tup_at, if_pos ⟨rfl, rfl⟩], ?_, by rw [e, tup_at, if_neg (by omega), tup_at, if_pos ⟨rfl, rfl⟩], hh, ?_, hr 2 (by decide) (by decide)⟩
  · unfold plB
    rw [if_neg h1]
    exact pl_bit _ hj' hg
  · unfold plB
    rw [if_neg h1, if_neg (by rw [b2]; exact lz_o), hr 6 (by decide) (by decide)]
theorem more_sum {T T1 : Tb} {j : Nat} (hj : j < 5) {sh : Int32} (h2 : ∀ i, T1 2 i = if i = j then T 2 j - sh else T 2 i) (h7 : ∀ i, T1 7 i = if i = j then T 7 j + sh else T 7 i) : s5 (T1 2) = s5 (T 2) - s5 (T1 7) + s5 (T 7) := by
  have a : s5 (T 2) = s5 (T1 2) + sh := by
    rw [s5_congr (f := T 2) (f' := fun i => T1 2 i + (if i = j then sh else 0)) (fun i hi => by
      rw [h2]
      by_cases q : i = j
      · subst q; rw [if_pos rfl, if_pos rfl, Int32.sub_add_cancel]
      · rw [if_neg q, if_neg q, Int32.add_zero]), s5_add, s5_1 sh hj]
  have b : s5 (T1 7) = s5 (T 7) + sh := by
    rw [s5_congr (f := T1 7) (f' := fun i => T 7 i + (if i = j then sh else 0)) (fun i hi => by
      rw [h7]
      by_cases q : i = j
      · subst q; rw [if_pos rfl, if_pos rfl]
      · rw [if_neg q, if_neg q, Int32.add_zero]), s5_add, s5_1 sh hj]
  rw [a, b, asb]
theorem last_le {T T1 : Tb} {sh : Nat → Int32} (h : EndF T T1 sh) (h1 : T1 1 = T 1) : ¬ s5 (T 2) - s5 (T1 7) + s5 (T 7) + s5 (T1 1) < s5 (T1 2) := by
  obtain ⟨d, pz, c', hq, hs⟩ := h
  have a : s5 (T 2) = nI (d 0 + d 1 + d 2 + d 3 + d 4) + s5 sh := by
    rw [← s5_n d, ← s5_add]
    exact s5_congr (fun i hi => (hq i hi).1)
  have b : s5 (T1 7) = s5 (T 7) + s5 sh := by
    rw [← s5_add]
    exact s5_congr (fun i hi => (hq i hi).2.1)
  have e : s5 (T1 2) = nI (c' 0 + c' 1 + c' 2 + c' 3 + c' 4) := by
    rw [← s5_n c']
    exact s5_congr (fun i hi => (hq i hi).2.2.1)
  rw [a, b, asb, h1, ← hs, s5_n, nI_add, e]
  obtain ⟨-, -, -, l0, m0, n0, -⟩ := hq 0 (by decide)
  obtain ⟨-, -, -, l1, m1, n1, -⟩ := hq 1 (by decide)
  obtain ⟨-, -, -, l2, m2, n2, -⟩ := hq 2 (by decide)
  obtain ⟨-, -, -, l3, m3, n3, -⟩ := hq 3 (by decide)
  obtain ⟨-, -, -, l4, m4, n4, -⟩ := hq 4 (by decide)
  exact nI_nlt (by omega) (by omega)
theorem last_8 {T T1 : Tb} {sh : Nat → Int32} (h : EndF T T1 sh) (h1 : T1 1 = T 1) : s5 (T1 8) = s5 (T 8) + s5 (T1 1) := by
  obtain ⟨d, pz, c', hq, hs⟩ := h
  rw [h1, ← hs, ← s5_add]
  exact s5_congr (fun i hi => (hq i hi).2.2.2.2.2.2)
def MoreF (T T1 : Tb) (j j' : Nat) : Prop := 3 ≤ nT T ∧ j' < 5 ∧ drV T = nI j' ∧ T1 10 1 = nI j' ∧ T1 10 0 = 1 ∧ T1 6 j = nI (nT T - 1) ∧ plB T1 = plB T - ((1 : Int32) <<< (nI j &&& 31)) ∧ s5 (T1 2) = s5 (T 2) - s5 (T1 7) + s5 (T 7)
def LastF (T T1 : Tb) (j w : Nat) : Prop := nT T = 2 ∧ w < 5 ∧ drV T = (-100006) ∧ T1 10 0 = 0 ∧ T1 4 j = 1 ∧ pAt (T1 4) 0 = nI w ∧ plB T = ((1 : Int32) <<< (nI j &&& 31)) ||| ((1 : Int32) <<< (nI w &&& 31)) ∧ s5 (T1 8) = s5 (T 8) + s5 (T1 1) ∧ ¬ s5 (T 2) - s5 (T1 7) + s5 (T 7) + s5 (T1 1) < s5 (T1 2)
theorem drop_F {T : Tb} {B : Nat} (h : TI T B) (h1 : ¬ T 10 0 = 0) : TI (drT T) B ∧ szB (plB T) = nI (nT T) ∧ ∃ j, j < 5 ∧ T 10 1 = nI j ∧ drT T 0 = T 0 ∧ drT T 7 j = T 7 j + shr T j (T 0 3) ∧ ((∃ j', MoreF T (drT T) j j') ∨ ∃ w, LastF T (drT T) j w) := by
  have hpT : plB T = plL (T 6) 5 0 0 := by unfold plB; rw [if_neg h1]
  have hsz : szB (plB T) = nI (nT T) := by rw [hpT]; exact sz_pl _
  by_cases h3 : 3 ≤ nT T
  · obtain ⟨m1, m2, j, j', hj, hj', hjj, ht, hg, hv, hp⟩ := more_T h h1 h3
    have hn5 := nT_le T
    refine ⟨m1, hsz, j, hj, ht, ?_, ?_, Or.inl ⟨j', h3, hj', hv, by rw [hp, if_pos ⟨rfl, rfl⟩], m2, ?_, ?_, ?_⟩⟩
    · exact funext (fun i => by rw [hp, if_neg (by omega), if_neg (by omega), if_neg (by omega), if_neg (by omega)])
    · rw [hp, if_neg (by omega), if_neg (by omega), if_pos ⟨rfl, rfl⟩]
    · rw [hp, if_neg (by omega), if_neg (by omega), if_neg (by omega), if_pos ⟨rfl, rfl⟩]
    · have e1 : plB (drT T) = plL (drT T 6) 5 0 0 := by unfold plB; rw [if_neg (by rw [m2]; exact lz_o)]
      rw [e1, hpT]
      exact pl_less _ _ hj hg (by rw [hp, if_neg (by omega), if_neg (by omega), if_neg (by omega), if_pos ⟨rfl, rfl⟩]; exact nI_none (by omega)) (fun i hi q => by rw [hp, if_neg (by omega), if_neg (by omega), if_neg (by omega), if_neg (by omega)])
    · refine more_sum (sh := shr T j (T 0 3)) hj (fun i => ?_) (fun i => ?_)
      · rw [hp, if_neg (by omega)]
        by_cases q : i = j
        · rw [if_pos ⟨rfl, q⟩, if_pos q]
        · rw [if_neg (by omega), if_neg (by omega), if_neg (by omega), if_neg q]
      · rw [hp, if_neg (by omega), if_neg (by omega)]
        by_cases q : i = j
        · rw [if_pos ⟨rfl, q⟩, if_pos q]
        · rw [if_neg (by omega), if_neg (by omega), if_neg q]
  · have h2 : nT T = 2 := by have := (h.1.turn h1).2.1; omega
    obtain ⟨m1, m2, hv, h10, hr1, hr0, j, w, hj, hw, hwj, ht, hgj, hgw, hrest, p4j, p4w, sh, hsh, hE⟩ := last_T h h1 h2
    obtain ⟨P', Q', hp'⟩ := m1.per
    have hP0 : P' 0 = w := by
      have := (hp'.iff hw (show 0 < 5 by decide)).symm
      rw [this]
      exact p4w
    refine ⟨TI.of_idle m1 m2 B, hsz, j, hj, ht, hr0, ?_, Or.inr ⟨w, h2, hw, hv, m2, p4j, ?_, ?_, last_8 hE hr1, last_le hE hr1⟩⟩
    · obtain ⟨d, pz, c', hq, -⟩ := hE
      rw [(hq j hj).2.1, hsh]
    · have := pAt_per hp' (show 0 < 5 by decide)
      rw [hP0] at this
      exact this
    · rw [hpT]
      exact pl_two _ hj hw hwj hgj hgw hrest
