/-! RUN: one move -/
theorem nI_np {n : Nat} (h : n < 100000) : ¬ nI n = (-100005) := by
  intro e
  have := congrArg Int32.toInt e
  rw [nI_toInt (by omega)] at this
  have e2 : (-100005 : Int32).toInt = -100005 := by decide
  omega
theorem turn_np {z : Nat → Int32} (h : ZI z) : ¬ z 5 = (-100005) := by
  rcases h.2 with q | q
  · rw [q.2.1]; decide
  · obtain ⟨j, hj, e, -⟩ := q.2.2.1
    rw [e]; exact nI_np (by omega)
theorem fi_n_le : ∀ (f n : Nat) (z : Nat → Int32), (fiL f n z).2 ≤ n + f := by
  intro f
  induction f with
  | zero => intro n z; exact Nat.le_refl _
  | succ f ih =>
    intro n z
    rw [fiL]
    split
    · have := ih (n + 1) (acZ z); omega
    · exact Nat.le_add_right _ _
/-- a move, told as v, seen as x (a digit with the number n, or a sign) -/
def Seen (x n v : Int32) : Prop := (∃ a, a ≤ 9999 ∧ v = nI a ∧ n = nI a ∧ ∃ d, d ≤ 9 ∧ x = nI (48 + d)) ∨ ((x = 43 ∧ v = -957) ∨ (x = 45 ∧ v = -955) ∨ (x = 42 ∧ v = -958) ∨ (x = 33 ∧ v = -967))
theorem move_ok {T : Tb} {z : Nat → Int32} (hR : RelV T z) (hZ : ZI z) {x n v : Int32} (h : Seen x n v) :
    (z 4 = 1 → vp_in (z 5) 5) ∧ (caZ z v = 0 → doV T x n = (-100005) ∧ doT T x n = T) ∧ (¬ caZ z v = 0 → ¬ doV T x n = (-100005) ∧ DmOK z v ∧ RelV (doT T x n) (dmZ z v) ∧ ZI (dmZ z v)) := by
  have huw : T 10 0 = z 4 := hR.uw
  refine ⟨fun q => ?_, ?_⟩
  · obtain ⟨-, hu⟩ := hZ.runs (by rw [q]; exact lz_o)
    obtain ⟨j, hj, e, -⟩ := hu.2.2.1
    rw [e]; exact vp_in_nI hj (by decide)
  rcases h with ⟨a, ha, rfl, rfl, d, hd, rfl⟩ | ⟨rfl, rfl⟩ | ⟨rfl, rfl⟩ | ⟨rfl, rfl⟩ | ⟨rfl, rfl⟩
  · have n1 : ∀ k : Nat, k < 48 → ¬ nI (48 + d) = nI k := fun k hk e => by have := (nI_eq (a := 48 + d) (b := k) (by omega) (by omega)).mp e; omega
    have hca : caZ z (nI a) = mbZ z (nI a) := by unfold caZ; rw [if_neg (nI_pos (by omega))]
    have hdm : dmZ z (nI a) = bdZ z (nI a) := by unfold dmZ; rw [if_pos (nI_pos' (by omega))]
    have hdV : doV T (nI (48 + d)) (nI a) = if z 4 = 0 then (-100005) else if mayB T (nI a) = 0 then (-100005) else takT T (nI a) 10 1 := by
      unfold doV
      rw [if_neg (show ¬ nI (48 + d) = 43 from n1 43 (by decide)), if_neg (show ¬ nI (48 + d) = 33 from n1 33 (by decide)), if_neg (show ¬ nI (48 + d) = 45 from n1 45 (by decide)), if_neg (show ¬ nI (48 + d) = 42 from n1 42 (by decide)), huw]
    have hdT : doT T (nI (48 + d)) (nI a) = if z 4 = 0 then T else if mayB T (nI a) = 0 then T else takT T (nI a) := by
      unfold doT
      rw [if_neg (show ¬ nI (48 + d) = 43 from n1 43 (by decide)), if_neg (show ¬ nI (48 + d) = 33 from n1 33 (by decide)), if_neg (show ¬ nI (48 + d) = 45 from n1 45 (by decide)), if_neg (show ¬ nI (48 + d) = 42 from n1 42 (by decide)), huw]
    rw [hca, hdm, hdV, hdT]
    by_cases h4 : z 4 = 0
    · have : mbZ z (nI a) = 0 := by unfold mbZ; rw [if_neg (by rw [h4]; decide)]
      rw [if_pos h4, if_pos h4]
      exact ⟨fun _ => ⟨rfl, rfl⟩, fun q => absurd this q⟩
    · obtain ⟨h1, hu⟩ := hZ.runs h4
      rw [if_neg h4, if_neg h4, mayB_ok hu hR]
      have hmb : mbZ z (nI a) = if cbZ z (nI a) = 0 then 0 else 1 := by unfold mbZ; rw [if_pos h1]
      rw [hmb]
      by_cases hc : cbZ z (nI a) = 0
      · rw [if_pos hc, if_pos hc, if_pos hc]
        exact ⟨fun _ => ⟨rfl, rfl⟩, fun q => absurd rfl q⟩
      · rw [if_neg hc, if_neg hc, if_neg hc]
        obtain ⟨b1, b2, b3, b4, b5, b6, b7⟩ := bid_ok hZ.1 hu ha hc
        have hr := b7 T hR
        have hz2 : ZI (bdZ z (nI a)) := ⟨b2, Or.inr b3⟩
        exact ⟨fun q => absurd q lz_o, fun _ => ⟨by rw [hr.tu]; exact turn_np hz2, Or.inl ⟨nI_pos' (by omega), b1⟩, hr, hz2⟩⟩
  · have hca : caZ z (-957) = if z 4 = 0 then 1 else 0 := by unfold caZ; rw [if_pos (by decide), if_neg (by decide), if_pos (by decide)]
    have hdm : dmZ z (-957) = bgZ z := by unfold dmZ; rw [if_neg (by decide), if_pos rfl]
    have hdV : doV T 43 n = if z 4 = 0 then staT T 10 1 else (-100005) := by unfold doV; rw [if_pos rfl, huw]
    have hdT : doT T 43 n = if z 4 = 0 then staT T else T := by unfold doT; rw [if_pos rfl, huw]
    rw [hca, hdm, hdV, hdT]
    by_cases h4 : z 4 = 0
    · rw [if_pos h4, if_pos h4, if_pos h4]
      obtain ⟨a, b, c⟩ := start_ok hR hZ.1 (hZ.idle h4)
      exact ⟨fun q => absurd q lz_o, fun _ => ⟨by rw [a.tu]; exact turn_np b, Or.inr (Or.inl rfl), a, b⟩⟩
    · rw [if_neg h4, if_neg h4, if_neg h4]
      exact ⟨fun _ => ⟨rfl, rfl⟩, fun q => absurd rfl q⟩
  · have hca : caZ z (-955) = if z 4 = 0 then 0 else 1 := by unfold caZ; rw [if_pos (by decide), if_neg (by decide), if_neg (by decide)]
    have hdm : dmZ z (-955) = doZ z := by unfold dmZ; rw [if_neg (by decide), if_neg (by decide), if_pos rfl]
    have hdV : doV T 45 n = if z 4 = 0 then (-100005) else drV T := by unfold doV; rw [if_neg (by decide), if_neg (by decide), huw, if_pos (rfl : (45 : Int32) = 45)]
    have hdT : doT T 45 n = if z 4 = 0 then T else drT T := by unfold doT; rw [if_neg (by decide), if_neg (by decide), huw, if_pos (rfl : (45 : Int32) = 45)]
    rw [hca, hdm, hdV, hdT]
    by_cases h4 : z 4 = 0
    · rw [if_pos h4, if_pos h4, if_pos h4]
      exact ⟨fun _ => ⟨rfl, rfl⟩, fun q => absurd rfl q⟩
    · rw [if_neg h4, if_neg h4, if_neg h4]
      obtain ⟨-, hu⟩ := hZ.runs h4
      obtain ⟨a, b, c, d, e⟩ := drop_ok hZ.1 hu
      exact ⟨fun q => absurd q lz_o, fun _ => ⟨by rw [drV_ok hZ.1 hu hR]; exact turn_np b, Or.inr (Or.inr (Or.inl ⟨rfl, a⟩)), e T hR, b⟩⟩
  · have hca : caZ z (-958) = if z 4 = 0 then 0 else 1 := by unfold caZ; rw [if_pos (by decide), if_neg (by decide), if_neg (by decide)]
    have hdm : dmZ z (-958) = acZ z := by unfold dmZ; rw [if_neg (by decide), if_neg (by decide), if_neg (by decide), if_pos rfl]
    have hdV : doV T 42 n = if z 4 = 0 then (-100005) else acV T := by unfold doV; rw [if_neg (by decide), if_neg (by decide), huw, if_neg (show ¬ (42 : Int32) = 45 by decide), if_pos (rfl : (42 : Int32) = 42)]
    have hdT : doT T 42 n = if z 4 = 0 then T else acT T := by unfold doT; rw [if_neg (by decide), if_neg (by decide), huw, if_neg (show ¬ (42 : Int32) = 45 by decide), if_pos (rfl : (42 : Int32) = 42)]
    rw [hca, hdm, hdV, hdT]
    by_cases h4 : z 4 = 0
    · rw [if_pos h4, if_pos h4, if_pos h4]
      exact ⟨fun _ => ⟨rfl, rfl⟩, fun q => absurd rfl q⟩
    · rw [if_neg h4, if_neg h4, if_neg h4]
      obtain ⟨-, hu⟩ := hZ.runs h4
      obtain ⟨a, b, c, d, e⟩ := act_ok hZ.1 hu
      exact ⟨fun q => absurd q lz_o, fun _ => ⟨by rw [(e T hR).2]; exact turn_np b, Or.inr (Or.inr (Or.inr (Or.inl ⟨rfl, a⟩))), (e T hR).1, b⟩⟩
  · have hca : caZ z (-967) = 1 := by unfold caZ; rw [if_pos (by decide), if_pos (by decide)]
    have hdm : dmZ z (-967) = (fiR z).1 := by unfold dmZ; rw [if_neg (by decide), if_neg (by decide), if_neg (by decide), if_neg (by decide)]
    have hdV : doV T 33 n = nI (prR T).2 := by unfold doV; rw [if_neg (by decide), if_pos rfl]
    have hdT : doT T 33 n = (prR T).1 := by unfold doT; rw [if_neg (by decide), if_pos rfl]
    rw [hca, hdm, hdV, hdT]
    obtain ⟨a, b, c, d⟩ := round_ok hZ
    refine ⟨fun q => absurd q lz_o, fun _ => ⟨?_, Or.inr (Or.inr (Or.inr (Or.inr ⟨rfl, a⟩))), (d T hR).1, b⟩⟩
    rw [(d T hR).2]
    have := fi_n_le 10000 0 (if z 4 = 0 then bgZ z else z)
    have h2 : (fiR z).2 ≤ 0 + 10000 := this
    exact nI_np (by omega)
