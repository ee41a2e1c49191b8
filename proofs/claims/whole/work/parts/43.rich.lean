/-! THE RICHEST; THE BEST LIMIT -/
/-- r is ahead of everybody among those that W holds -/
def Best (c q : Nat → Nat) (W : Nat → Prop) (r : Nat) : Prop := r < 5 ∧ ∀ i, i < 5 → W i → i ≠ r → c i < c r ∨ (c i = c r ∧ q r < q i)
theorem Best.uniq {c q : Nat → Nat} {W : Nat → Prop} (hW : ∀ i, i < 5 → W i) {r r' : Nat} (h : Best c q W r) (h' : Best c q W r') : r = r' := by
  refine Classical.byContradiction fun hn => ?_
  have h1 := h.2 r' h'.1 (hW _ h'.1) (fun e => hn e.symm)
  have h2 := h'.2 r h.1 (hW _ h.1) hn
  omega
theorem rich_class {U : Tb} {c q : Nat → Nat} (hc : ∀ i, i < 5 → c i ≤ 9999 ∧ U 2 i = nI (c i)) (hq : ∀ i, i < 5 → q i < 5 ∧ U 4 i = nI (q i)) (hinj : ∀ i i', i < 5 → i' < 5 → q i = q i' → i = i') :
    ∀ (f i r : Nat), i + f = 5 → 1 ≤ i → Best c q (fun k => k < i) r → ∃ r', rhL U f i (nI r) = nI r' ∧ Best c q (fun k => k < 5) r' := by
  intro f
  induction f with
  | zero => intro i r hi h1 h; obtain rfl : i = 5 := (by omega); exact ⟨r, rfl, h⟩
  | succ f ih =>
    intro i r hi h1 h
    obtain ⟨ci1, ci2⟩ := hc i (by omega)
    obtain ⟨cr1, cr2⟩ := hc r h.1
    obtain ⟨qi1, qi2⟩ := hq i (by omega)
    obtain ⟨qr1, qr2⟩ := hq r h.1
    have hne : q r ≠ q i ∨ r = i := by
      by_cases e : q r = q i
      · exact Or.inr (hinj r i h.1 (by omega) e)
      · exact Or.inl e
    rw [rhL, ix_n h.1, ci2, cr2, qi2, qr2]
    by_cases g1 : c r < c i
    · rw [if_pos ((sub_gt ci1 cr1).mpr g1)]
      refine ih (i + 1) i (by omega) (by omega) ⟨by omega, fun k hk hk2 hk3 => ?_⟩
      have hk2 : k < i + 1 := hk2
      by_cases e : k = r
      · subst e; exact Or.inl g1
      · rcases h.2 k hk (show k < i by omega) e with q | q <;> omega
    · rw [if_neg (fun e => g1 ((sub_gt ci1 cr1).mp e))]
      by_cases g2 : c i = c r
      · rw [if_pos ((sub_eq0 ci1 cr1).mpr g2)]
        by_cases g3 : q r ≤ q i
        · rw [if_pos ((nI_leI (by omega) (by omega)).mpr g3)]
          refine ih (i + 1) r (by omega) (by omega) ⟨h.1, fun k hk hk2 hk3 => ?_⟩
          have hk2 : k < i + 1 := hk2
          by_cases e : k = i
          · subst e; omega
          · exact h.2 k hk (show k < i by omega) hk3
        · rw [if_neg (fun e => g3 ((nI_leI (by omega) (by omega)).mp e))]
          refine ih (i + 1) i (by omega) (by omega) ⟨by omega, fun k hk hk2 hk3 => ?_⟩
          have hk2 : k < i + 1 := hk2
          by_cases e : k = r
          · subst e; omega
          · rcases h.2 k hk (show k < i by omega) e with q | q <;> omega
      · rw [if_neg (fun e => g2 ((sub_eq0 ci1 cr1).mp e))]
        refine ih (i + 1) r (by omega) (by omega) ⟨h.1, fun k hk hk2 hk3 => ?_⟩
        have hk2 : k < i + 1 := hk2
        by_cases e : k = i
        · subst e; omega
        · exact h.2 k hk (show k < i by omega) hk3
theorem rich_ref {y : Nat → Int32} {c : Nat → Nat} {P Q : Nat → Nat} (hp : Per (fun i => y (18 + i)) P Q) (hc : ∀ i, i < 5 → c i ≤ 9999 ∧ y (8 + i) = nI (c i)) :
    ∀ (f i r : Nat), i + f = 5 → 1 ≤ i → Q r < i → Best c Q (fun k => Q k < i) r → ∃ r', riL y f i (nI r) = nI r' ∧ Best c Q (fun k => Q k < 5) r' := by
  intro f
  induction f with
  | zero => intro i r hi h1 hr h; obtain rfl : i = 5 := (by omega); exact ⟨r, rfl, h⟩
  | succ f ih =>
    intro i r hi h1 hr h
    have hPi := (hp.2 i (by omega)).1
    have hQP := (hp.2 i (by omega)).2
    obtain ⟨ci1, ci2⟩ := hc (P i) hPi
    obtain ⟨cr1, cr2⟩ := hc r h.1
    have hk' : ∀ k, k < 5 → Q k = i → k = P i := fun k hk e => by rw [← e, (hp.1 k hk).2.2]
    rw [riL, mAt_per hp (by omega), ix_n hPi, ix_n h.1, ci2, cr2]
    by_cases g1 : c (P i) ≤ c r
    · rw [if_pos ((nI_leI (by omega) (by omega)).mpr g1)]
      refine ih (i + 1) r (by omega) (by omega) (by omega) ⟨h.1, fun k hk hk2 hk3 => ?_⟩
      have hk2 : Q k < i + 1 := hk2
      by_cases e : Q k = i
      · obtain rfl := hk' k hk e
        omega
      · exact h.2 k hk (show Q k < i by omega) hk3
    · rw [if_neg (fun e => g1 ((nI_leI (by omega) (by omega)).mp e))]
      refine ih (i + 1) (P i) (by omega) (by omega) (by omega) ⟨hPi, fun k hk hk2 hk3 => ?_⟩
      have hk2 : Q k < i + 1 := hk2
      have hki : Q k ≠ i := fun e => hk3 (hk' k hk e)
      by_cases e : k = r
      · subst e; exact Or.inl (by omega)
      · rcases h.2 k hk (show Q k < i by omega) e with q | q <;> omega
theorem rich_eq {U : Tb} {y : Nat → Int32} (hR : RelV U y) (hZ : ZI y) : rhL U 4 1 0 = riV y := by
  obtain ⟨P, Q, hp⟩ := hZ.1.2.2.2
  have hC := hZ.1.2.2.1.1
  have hex : ∀ i, ∃ c, i < 5 → c ≤ 9999 ∧ y (8 + i) = nI c := fun i => by
    by_cases hi : i < 5
    · obtain ⟨c, h⟩ := hC i hi; exact ⟨c, fun _ => h⟩
    · exact ⟨0, fun q => absurd q hi⟩
  have hc : ∀ i, i < 5 → (fun i => Classical.choose (hex i)) i ≤ 9999 ∧ y (8 + i) = nI ((fun i => Classical.choose (hex i)) i) := fun i hi => Classical.choose_spec (hex i) hi
  generalize (fun i => Classical.choose (hex i)) = c at hc
  have hinj : ∀ i i', i < 5 → i' < 5 → Q i = Q i' → i = i' := fun i i' hi hi' e => hp.inj hi hi' e
  obtain ⟨r1, e1, b1⟩ := rich_class (U := U) (c := c) (q := Q) (fun i hi => ⟨(hc i hi).1, (hR.co hi).trans (hc i hi).2⟩) (fun i hi => ⟨(hp.1 i hi).1, (hR.pl hi).trans (hp.1 i hi).2.1⟩) hinj 4 1 0 rfl (by decide) ⟨by decide, fun i hi hw hn => by have hw : i < 1 := hw; omega⟩
  have hP0 := (hp.2 0 (by decide)).1
  obtain ⟨r2, e2, b2⟩ := rich_ref hp hc 4 1 (P 0) rfl (by decide) (by rw [(hp.2 0 (by decide)).2]; decide) ⟨hP0, fun i hi hw hn => by
    have hw : Q i < 1 := hw
    exact absurd (hinj i (P 0) hi hP0 (by rw [(hp.2 0 (by decide)).2]; omega)) hn⟩
  have e0 : mAt y 0 = nI (P 0) := mAt_per (a := 0) hp (by decide)
  unfold riV
  rw [e0, e2, show (0 : Int32) = nI 0 from rfl, e1]
  have b2' : Best c Q (fun k => k < 5) r2 := ⟨b2.1, fun i hi _ hn => b2.2 i hi (hp.1 i hi).1 hn⟩
  rw [b1.uniq (fun i hi => hi) b2']
theorem q_richest {T : Tb} {z : Nat → Int32} (hR : RelV T z) (hZ : ZI z) (r : Int32) : (inB r 1 100 = 0 ∨ (PlOK (ix r) z ∧ ∀ j, j < 5 → vp_in (mAt (pyL (ix r) z) (nI j)) 5)) ∧ (if erN r = 0 then rhL (tyL (ix r) T) 4 1 0 else erN r) = if inB r 1 100 = 0 then (-100002) else riV (pyL (ix r) z) := by
  obtain ⟨a, b, c⟩ := play_ok (ix r) z hZ
  refine ⟨Or.inr ⟨a, fun j hj => ?_⟩, ?_⟩
  · obtain ⟨P, Q, hp⟩ := b.1.2.2.2
    rw [mAt_per hp hj]
    exact vp_in_nI (hp.2 j hj).1 (by decide)
  · rw [erN_er]
    by_cases h : inB r 1 100 = 0
    · rw [if_pos h, if_neg lz_2, if_pos h]
    · rw [if_neg h, if_pos rfl, if_neg h]
      exact rich_eq (c T hR) b
/-- what a limit brings -/
theorem lim_ok {T : Tb} {z : Nat → Int32} (hR : RelV T z) (hZ : ZI z) {j i : Nat} (hj : j < 5) (hi : i < 100) : FiOK (upd z (13 + j) (nI i)) ∧ ∃ c, c ≤ 9999 ∧ (prR (tup T 3 j (nI i))).1 2 j = nI c ∧ (fiR (upd z (13 + j) (nI i))).1 (8 + j) = nI c := by
  have h1 : ZI (upd z (13 + j) (nI i)) := hZ.limit hj (by omega)
  have h2 : RelV (tup T 3 j (nI i)) (upd z (13 + j) (nI i)) := hR.up (k := 3) (i := j) (by unfold okc; omega) rfl
  obtain ⟨a, b, c, d⟩ := round_ok h1
  obtain ⟨k, hk, e⟩ := b.1.2.2.1.1 j hj
  exact ⟨a, k, hk, ((d _ h2).1.co hj).trans e, e⟩
theorem bl_ok {T : Tb} {z : Nat → Int32} (hR : RelV T z) (hZ : ZI z) {j c0 : Nat} (hj : j < 5) (hc0 : c0 ≤ 9999) (h0 : z (8 + j) = nI c0) :
    ∀ (f i b m : Nat) (V : Tb), i + f = 100 → m ≤ 9999 → b ≤ 100 → (bcL T j f i (nI b) (nI m) V).1 = (blL z (nI j) f i (nI b) (nI m - nI c0)).1 ∧ (bcL T j f i (nI b) (nI m) V).2.1 - nI c0 = (blL z (nI j) f i (nI b) (nI m - nI c0)).2 := by
  intro f
  induction f with
  | zero => intro i b m V _ _ _; exact ⟨rfl, rfl⟩
  | succ f ih =>
    intro i b m V hi hm hb
    obtain ⟨-, c, hc, e1, e2⟩ := lim_ok hR hZ hj (i := i) (by omega)
    have hbl : blI z (nI j) i = nI c - nI c0 := by unfold blI; rw [ix_n hj, e2, h0]
    rw [bcL, blL, if_neg (nI_none (show b < 100000 by omega)), hbl, e1]
    by_cases g : c ≤ m
    · rw [if_pos ((nI_leI (by omega) (by omega)).mpr g), if_pos ((sub_le hc hm hc0).mpr g)]
      exact ih (i + 1) b m _ (by omega) hm hb
    · rw [if_neg (fun q => g ((nI_leI (by omega) (by omega)).mp q)), if_neg (fun q => g ((sub_le hc hm hc0).mp q))]
      exact ih (i + 1) i c _ (by omega) hc (by omega)
theorem erT_er (x w : Int32) : erT x w = erW x w 1 := by
  unfold erT erW
  rw [isPb_inB]
  by_cases hx : inB x 0 4 = 0
  · rw [if_pos hx, if_pos hx]
  rw [if_neg hx, if_neg hx]
  by_cases h1 : inB w 0 1 = 0
  · rw [if_pos h1]
    have n0 : ¬ w = 0 := fun e => by rw [e] at h1; exact absurd h1 (by decide)
    have n1 : ¬ w = 1 := fun e => by rw [e] at h1; exact absurd h1 (by decide)
    rw [if_neg n0, if_neg n1]
  · rw [if_neg h1]
    obtain ⟨k, hk, rfl⟩ := inB_r (N := 1) (by decide) h1
    rcases (show k = 0 ∨ k = 1 by omega) with rfl | rfl
    · rw [if_pos (show nI 0 = 0 from rfl)]
    · rw [if_neg (show ¬ nI 1 = 0 by decide +kernel), if_pos (show nI 1 = 1 from rfl)]
theorem q_best {T U : Tb} {z : Nat → Int32} (hR : RelV T z) (hZ : ZI z) (x w : Int32) : (¬ erW x w 1 = 0 ∨ ∀ i, i < 100 → FiOK (upd z (13 + ix x) (nI i))) ∧ (if erT x w = 0 then (if w = 0 then (bcR T U (ix x)).1 else (bcR T U (ix x)).2.1 - T 2 (ix x)) else erT x w) = if erW x w 1 = 0 then (if w = 0 then (blR z x).1 else (blR z x).2) else erW x w 1 := by
  rw [erT_er]
  by_cases he : erW x w 1 = 0
  · have hx : ¬ inB x 0 4 = 0 := by
      intro h1
      unfold erW at he
      rw [if_pos h1] at he
      exact absurd he lz_1
    obtain ⟨j, hj, rfl⟩ := inB_r (N := 4) (by decide) hx
    have hj5 : j < 5 := by omega
    rw [if_pos he, if_pos he, ix_n hj5]
    refine ⟨Or.inr (fun i hi => (lim_ok hR hZ hj5 hi).1), ?_⟩
    obtain ⟨c0, hc0, h0⟩ := hZ.1.2.2.1.1 j hj5
    obtain ⟨-, c, hc, e1, e2⟩ := lim_ok hR hZ hj5 (i := 0) (by decide)
    have hbl : blI z (nI j) 0 = nI c - nI c0 := by unfold blI; rw [ix_n hj5, e2, h0]
    have hcl : bcR T U j = bcL T j 99 1 (nI 0) (nI c) (prR (tup T 3 j (nI 0))).1 := by
      unfold bcR
      rw [show (100 : Nat) = 99 + 1 from rfl, bcL, e1, if_neg (Int32.not_le.mpr (none_lt (by omega)))]
    have hre : blR z (nI j) = blL z (nI j) 99 1 (nI 0) (nI c - nI c0) := by
      unfold blR
      rw [show (100 : Nat) = 99 + 1 from rfl, blL, if_pos rfl, hbl]
    obtain ⟨f1, f2⟩ := bl_ok hR hZ hj5 hc0 h0 99 1 0 c (prR (tup T 3 j (nI 0))).1 rfl hc (by decide)
    rw [hcl, hre, f1, hR.co hj5, h0, f2]
  · exact ⟨Or.inl he, by rw [if_neg he, if_neg he]⟩
