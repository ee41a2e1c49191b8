/-! RUN: all moves -/
/-- the class behind the reading of the sign ahead of s, with the number n -/
def KK2 (ps : Nat → Int32) (t s : Nat) (k n : Int32) (T : Tb) : Tb × Int32 :=
  if s = t ∨ ps s = 44 then (if doV T (ps (s - 1)) n = (-100005) then (doT T (ps (s - 1)) n, k) else rnL ps t (t - s) s (k + 1) 0 (doT T (ps (s - 1)) n)) else rnL ps t (t - s) s k n T
theorem rn_step {ps : Nat → Int32} {t i : Nat} (ht : t ≤ 60) (hi : i < t) (h44 : ¬ ps i = 44) (k n : Int32) (T : Tb) : rnL ps t (t - i) i k n T = KK2 ps t (i + 1) k (nuB n (ps i)) T := by
  rw [show t - i = (t - (i + 1)) + 1 by omega, rnL, saB_n ps (by omega)]
  unfold KK2 emB
  rw [saB_n ps (show i < 60 by omega), if_neg h44, show i + 1 - 1 = i by omega]
  by_cases h1 : i + 1 = t
  · have e : nI (i + 1) = nI t := by rw [h1]
    rw [if_pos e, if_neg lz_o, if_pos (Or.inl h1)]
  · have hne : ¬ nI (i + 1) = nI t := fun e => h1 ((nI_eq (by omega) (by omega)).mp e)
    rw [if_neg hne, saB_n ps (show i + 1 < 60 by omega)]
    by_cases h2 : ps (i + 1) = 44
    · rw [if_pos h2, if_neg lz_o, if_pos (Or.inr h2)]
    · rw [if_neg h2, if_pos rfl, if_neg (fun q => q.elim h1 h2)]
theorem rn_comma {ps : Nat → Int32} {t i : Nat} (ht : t ≤ 60) (hi : i < t) (h44 : ps i = 44) (k : Int32) (T : Tb) : rnL ps t (t - i) i k 0 T = rnL ps t (t - (i + 1)) (i + 1) k 0 T := by
  rw [show t - i = (t - (i + 1)) + 1 by omega, rnL, saB_n ps (by omega), h44]
  have : emB ps t i = 0 := by unfold emB; rw [saB_n ps (show i < 60 by omega), if_pos h44]
  rw [if_pos this]
  rfl
/-- along a number -/
theorem rd_kk {pd : Nat → Int32} {t : Nat} (ht : t ≤ 60) (k : Int32) (T : Tb) : ∀ (f s a : Nat), s + f = 61 → s ≤ t → a ≤ 9999 → (∃ d, d ≤ 9 ∧ pd (s - 1) = nI (48 + d)) →
    ∃ a', a' ≤ 9999 ∧ (rdL pd t f s (nI a)).2 = nI a' ∧ (∃ d, d ≤ 9 ∧ pd ((rdL pd t f s (nI a)).1 - 1) = nI (48 + d)) ∧ KK2 pd t s k (nI a) T = KK2 pd t (rdL pd t f s (nI a)).1 k (nI a') T := by
  intro f
  induction f with
  | zero => intro s a h1 h2 _ _; omega
  | succ f ih =>
    intro s a h1 h2 ha hd
    rw [rdL]
    by_cases hv0 : nI a ≤ 0
    · rw [if_pos hv0]; exact ⟨a, ha, rfl, hd, rfl⟩
    rw [if_neg hv0]
    by_cases hs : seB pd s t 48 57 = 0
    · rw [if_pos hs]; exact ⟨a, ha, rfl, hd, rfl⟩
    rw [if_neg hs]
    have hst : s < t := seB_lt (by omega) hs
    have hdg : ¬ inB (pd s) 48 57 = 0 := by
      unfold seB at hs
      rw [if_neg (nI_ge hst (by omega))] at hs
      exact fun e => hs (by rw [if_pos e])
    obtain ⟨d, hd9, hx⟩ := dig_n hdg
    rw [hx, next_n ha hd9]
    by_cases hov : (9999 : Int32) < nI (10 * a + d)
    · rw [if_pos hov]; exact ⟨a, ha, rfl, hd, rfl⟩
    rw [if_neg hov]
    have hle : 10 * a + d ≤ 9999 := by
      rcases Nat.lt_or_ge 9999 (10 * a + d) with q | q
      · exact absurd ((nI_ltI (a := 9999) (b := 10 * a + d) (by decide) (by omega)).mpr q) hov
      · exact q
    obtain ⟨a', i1, i2, i3, i4⟩ := ih (s + 1) (10 * a + d) (by omega) hst hle ⟨d, hd9, by rw [show s + 1 - 1 = s by omega]; exact hx⟩
    refine ⟨a', i1, i2, i3, ?_⟩
    rw [← i4]
    have h44 : ¬ pd s = 44 := by rw [hx]; exact dig_44 hd9
    have hK : KK2 pd t s k (nI a) T = rnL pd t (t - s) s k (nI a) T := by
      unfold KK2
      rw [if_neg (fun q => q.elim (fun q => by omega) h44)]
    rw [hK, rn_step ht hst h44]
    have hnu : nuB (nI a) (pd s) = nI (10 * a + d) := by
      unfold nuB
      rw [dig_in, if_neg hdg, hx, ← next_n ha hd9]
      rw [Int32.mul_comm]
    rw [hnu]
/-- a whole move -/
theorem move_kk {pd : Nat → Int32} {s t : Nat} (ht : t ≤ 60) (hs : s ≤ t) (hk : ¬ rmK pd s t = 0) (k : Int32) (T : Tb) : ∃ n, Seen (pd ((rmR pd s t).1 - 1)) n (rmR pd s t).2 ∧ rnL pd t (t - s) s k 0 T = KK2 pd t (rmR pd s t).1 k n T := by
  obtain ⟨hst, hV, -, d, hc⟩ := first_ok ht hk (by omega)
  rw [rmR_eq hst ht]
  rcases hc with ⟨hd9, hx, hv⟩ | ⟨hnd, hsign⟩
  · have h44 : ¬ pd s = 44 := by rw [hx]; exact dig_44 hd9
    rw [hv, rn_step ht hst h44]
    have hdg : ¬ inB (pd s) 48 57 = 0 := by
      rw [hx]
      rcases (show d = 0 ∨ d = 1 ∨ d = 2 ∨ d = 3 ∨ d = 4 ∨ d = 5 ∨ d = 6 ∨ d = 7 ∨ d = 8 ∨ d = 9 by omega) with rfl | rfl | rfl | rfl | rfl | rfl | rfl | rfl | rfl | rfl <;> decide +kernel
    have hnu : nuB 0 (pd s) = nI d := by
      unfold nuB
      rw [dig_in, if_neg hdg, hx]
      have := next_n (a := 0) (d := d) (by decide) hd9
      rw [show 10 * 0 + d = d by omega, show nI 0 = 0 from rfl] at this
      rw [← this, Int32.mul_comm]
    rw [hnu]
    obtain ⟨a', i1, i2, i3, i4⟩ := rd_kk (pd := pd) ht k T (61 - (s + 1)) (s + 1) d (by omega) hst (by omega) ⟨d, hd9, by rw [show s + 1 - 1 = s by omega]; exact hx⟩
    exact ⟨nI a', Or.inl ⟨a', i1, i2, rfl, i3⟩, i4⟩
  · have h44 : ¬ pd s = 44 := by rcases hsign with e | e | e | e <;> rw [e] <;> decide
    have hv : v0 (pd s) = pd s - 1000 := by unfold v0; rw [if_pos hnd]
    have hle : v0 (pd s) ≤ 0 := by rw [hv]; rcases hsign with e | e | e | e <;> rw [e] <;> decide
    have hrd : rdL pd t (61 - (s + 1)) (s + 1) (v0 (pd s)) = (s + 1, v0 (pd s)) := by
      rw [show 61 - (s + 1) = (60 - (s + 1)) + 1 by omega, rdL, if_pos hle]
    rw [hrd]
    refine ⟨nuB 0 (pd s), ?_, rn_step ht hst h44 k 0 T⟩
    show Seen (pd (s + 1 - 1)) _ (v0 (pd s))
    rw [show s + 1 - 1 = s by omega, hv]
    rcases hsign with e | e | e | e <;> rw [e]
    · exact Or.inr (Or.inl ⟨rfl, by decide⟩)
    · exact Or.inr (Or.inr (Or.inl ⟨rfl, by decide⟩))
    · exact Or.inr (Or.inr (Or.inr (Or.inl ⟨rfl, by decide⟩)))
    · exact Or.inr (Or.inr (Or.inr (Or.inr ⟨rfl, by decide⟩)))
/-- what was told stays told -/
theorem rp_keeps (pd : Nat → Int32) (t : Nat) : ∀ (f : Nat) (u : Rd), u.2.2.1 ≤ (rpL pd t f u).2.2.1 ∧ ∀ i, i < u.2.2.1 → (rpL pd t f u).2.2.2 i = u.2.2.2 i := by
  intro f
  induction f with
  | zero => intro u; exact ⟨Nat.le_refl _, fun _ _ => rfl⟩
  | succ f ih =>
    intro u
    rw [rpL]
    by_cases h0 : u.1 = 0
    · rw [if_pos h0]; exact ⟨Nat.le_refl _, fun _ _ => rfl⟩
    rw [if_neg h0]
    by_cases h1 : nI t ≤ nI u.2.1
    · rw [if_pos h1]; exact ⟨Nat.le_refl _, fun _ _ => rfl⟩
    rw [if_neg h1]
    by_cases h2 : seB pd u.2.1 t 44 44 = 0
    · rw [if_pos h2]; exact ih (0, u.2.1 + 0, u.2.2.1, u.2.2.2)
    rw [if_neg h2]
    by_cases h3 : rmK pd (u.2.1 + 1) t = 0
    · rw [if_pos h3]; exact ih (0, u.2.1 + 1, u.2.2.1, u.2.2.2)
    rw [if_neg h3]
    obtain ⟨a, b⟩ := ih (1, (rmR pd (u.2.1 + 1) t).1, u.2.2.1 + 1, upd u.2.2.2 u.2.2.1 (rmR pd (u.2.1 + 1) t).2)
    refine ⟨Nat.le_trans (Nat.le_succ _) a, fun i hi => ?_⟩
    rw [b i (Nat.lt_succ_of_lt hi)]
    exact un (by omega)
