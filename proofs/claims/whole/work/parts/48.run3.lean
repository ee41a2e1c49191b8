/-! RUN: class and reference -/
theorem run_all {pd : Nat → Int32} {t : Nat} (ht : t ≤ 60) : ∀ (f s q : Nat) (tl : Nat → Int32) (T : Tb) (z : Nat → Int32), t < s + f → s ≤ t → (s = t ∨ pd s = 44) → q ≤ 100 → RelV T z → ZI z → ¬ (rpL pd t f (1, s, q, tl)).1 = 0 → (rpL pd t f (1, s, q, tl)).2.2.1 ≤ 100 →
    RuOK (rpL pd t f (1, s, q, tl)).2.2.2 ((rpL pd t f (1, s, q, tl)).2.2.1 - q) q z ∧ RelV (rnL pd t (t - s) s (nI q) 0 T).1 (ruL (rpL pd t f (1, s, q, tl)).2.2.2 ((rpL pd t f (1, s, q, tl)).2.2.1 - q) q z).1 ∧ ZI (ruL (rpL pd t f (1, s, q, tl)).2.2.2 ((rpL pd t f (1, s, q, tl)).2.2.1 - q) q z).1 ∧ (rnL pd t (t - s) s (nI q) 0 T).2 = nI (ruL (rpL pd t f (1, s, q, tl)).2.2.2 ((rpL pd t f (1, s, q, tl)).2.2.1 - q) q z).2 := by
  intro f
  induction f with
  | zero => intro s q tl T z h1 h2 _; omega
  | succ f ih =>
    intro s q tl T z hf hs hst hq hR hZ hgood hcnt
    have hz : ∀ f u, u.1 = (0 : Int32) → rpL pd t f u = u := fun f u hu => by
      cases f with
      | zero => rfl
      | succ f => rw [rpL, if_pos hu]
    rcases Nat.lt_or_ge s t with hlt | hge
    · have h44 : pd s = 44 := hst.resolve_left (by omega)
      have hse : ¬ seB pd s t 44 44 = 0 := by
        unfold seB
        rw [if_neg (nI_ge hlt (by omega)), h44]
        decide
      have hstep : rpL pd t (f + 1) (1, s, q, tl) = if rmK pd (s + 1) t = 0 then rpL pd t f (0, s + 1, q, tl) else rpL pd t f (1, (rmR pd (s + 1) t).1, q + 1, upd tl q (rmR pd (s + 1) t).2) := by
        rw [rpL]
        show (if (1 : Int32) = 0 then _ else if nI t ≤ nI s then _ else if seB pd s t 44 44 = 0 then _ else _) = _
        rw [if_neg lz_o, if_neg (nI_ge hlt (by omega)), if_neg hse]
      have hk : ¬ rmK pd (s + 1) t = 0 := by
        intro hk
        rw [hstep, if_pos hk, hz _ _ rfl] at hgood
        exact hgood rfl
      rw [if_neg hk] at hstep
      rw [hstep] at hgood hcnt ⊢
      obtain ⟨hr1, hr2⟩ := rmR_le (pd := pd) (s := s + 1) ht (rmK_lt (by omega) hk)
      obtain ⟨n, hseen, hkk⟩ := move_kk (pd := pd) (s := s + 1) ht hlt hk (nI q) T
      obtain ⟨-, k2⟩ := fq_first (pd := pd) (s := s + 1) ht hlt
      obtain ⟨-, -, -, hstop, -⟩ := k2 hk
      obtain ⟨hkeep1, hkeep2⟩ := rp_keeps pd t f (1, (rmR pd (s + 1) t).1, q + 1, upd tl q (rmR pd (s + 1) t).2)
      have hkeep1 : q + 1 ≤ (rpL pd t f (1, (rmR pd (s + 1) t).1, q + 1, upd tl q (rmR pd (s + 1) t).2)).2.2.1 := hkeep1
      have htold : (rpL pd t f (1, (rmR pd (s + 1) t).1, q + 1, upd tl q (rmR pd (s + 1) t).2)).2.2.2 q = (rmR pd (s + 1) t).2 := (hkeep2 q (Nat.lt_succ_self q)).trans (us rfl)
      have hend : (rmR pd (s + 1) t).1 = t ∨ pd (rmR pd (s + 1) t).1 = 44 := by
        rcases hstop with e | ⟨hl, -⟩
        · exact Or.inl e
        · by_cases e : pd (rmR pd (s + 1) t).1 = 44
          · exact Or.inr e
          · exfalso
            have hse2 : seB pd (rmR pd (s + 1) t).1 t 44 44 = 0 := by
              unfold seB
              rw [if_neg (nI_ge hl (by omega))]
              have : inB (pd (rmR pd (s + 1) t).1) 44 44 = 0 := by
                unfold inB
                by_cases a : pd (rmR pd (s + 1) t).1 < 44
                · rw [if_pos a]
                · rw [if_neg a, if_pos]
                  rcases Int32.lt_or_eq_of_le (Int32.not_lt.mp a) with b | b
                  · exact b
                  · exact absurd b.symm e
              rw [if_pos this]
            cases f with
            | zero => omega
            | succ f =>
              rw [rpL] at hgood
              have hgood : ¬ (if (1 : Int32) = 0 then (1, (rmR pd (s + 1) t).1, q + 1, upd tl q (rmR pd (s + 1) t).2) else if nI t ≤ nI (rmR pd (s + 1) t).1 then (1, (rmR pd (s + 1) t).1, q + 1, upd tl q (rmR pd (s + 1) t).2) else if seB pd (rmR pd (s + 1) t).1 t 44 44 = 0 then rpL pd t f (0, (rmR pd (s + 1) t).1 + 0, q + 1, upd tl q (rmR pd (s + 1) t).2) else _).1 = 0 := hgood
              rw [if_neg lz_o, if_neg (nI_ge hl (by omega)), if_pos hse2, hz _ _ rfl] at hgood
              exact hgood rfl
      rw [rn_comma ht hlt h44, hkk]
      generalize hr : rpL pd t f (1, (rmR pd (s + 1) t).1, q + 1, upd tl q (rmR pd (s + 1) t).2) = r at *
      obtain ⟨c, hc⟩ : ∃ c, r.2.2.1 - q = c + 1 := ⟨r.2.2.1 - q - 1, by omega⟩
      have hc2 : r.2.2.1 - (q + 1) = c := by omega
      obtain ⟨m1, m2, m3⟩ := move_ok hR hZ hseen
      rw [hc, RuOK, ruL, htold]
      unfold KK2
      rw [if_pos hend]
      by_cases hca : caZ z (rmR pd (s + 1) t).2 = 0
      · obtain ⟨a, b⟩ := m2 hca
        rw [if_pos a, if_pos hca, b]
        exact ⟨⟨m1, fun q => absurd hca q⟩, hR, hZ, rfl⟩
      · obtain ⟨a, b, d, e⟩ := m3 hca
        rw [if_neg a, if_neg hca, nI_1]
        have hih := ih (rmR pd (s + 1) t).1 (q + 1) (upd tl q (rmR pd (s + 1) t).2) (doT T (pd ((rmR pd (s + 1) t).1 - 1)) n) (dmZ z (rmR pd (s + 1) t).2) (by omega) hr2 hend (by omega) d e (by rw [hr]; exact hgood) (by rw [hr]; exact hcnt)
        rw [hr, hc2] at hih
        exact ⟨⟨m1, fun _ => ⟨b, hih.1⟩⟩, hih.2⟩
    · obtain rfl : s = t := (by omega)
      have hr : rpL pd s (f + 1) (1, s, q, tl) = (1, s, q, tl) := by
        rw [rpL]
        show (if (1 : Int32) = 0 then _ else if nI s ≤ nI s then _ else _) = _
        rw [if_neg lz_o, if_pos (nI_le (Nat.le_refl _) (by omega))]
      rw [hr]
      simp only [Nat.sub_self]
      exact ⟨trivial, hR, hZ, rfl⟩
theorem run_eq {pd : Nat → Int32} {t : Nat} (ht : t ≤ 60) (tl : Nat → Int32) {T : Tb} {z : Nat → Int32} (hR : RelV T z) (hZ : ZI z) (hg : ¬ (rpR pd t tl).1 = 0) :
    RuOK (rpR pd t tl).2.2.2 (rpR pd t tl).2.2.1 0 z ∧ RelV (rnC pd t T).1 (rnR z pd t tl).1 ∧ ZI (rnR z pd t tl).1 ∧ (rnC pd t T).2 = nI (rnR z pd t tl).2 := by
  have hcnt := rpR_q (pd := pd) (tl := tl) ht
  unfold rnR rnC
  have hk : ¬ rmK pd 0 t = 0 := by
    intro hk
    apply hg
    unfold rpR
    rw [rmS_1 hk, show 62 + t = (61 + t) + 1 by omega, rpL, if_pos rfl]
  have hrp : rpR pd t tl = rpL pd t (62 + t) (1, (rmR pd 0 t).1, 0 + 1, upd tl 0 (rmR pd 0 t).2) := by
    unfold rpR
    rw [rmS_2 hk]
  obtain ⟨hr1, hr2⟩ := rmR_le (pd := pd) (s := 0) ht (rmK_lt (by omega) hk)
  obtain ⟨n, hseen, hkk⟩ := move_kk (pd := pd) (s := 0) ht (Nat.zero_le t) hk (nI 0) T
  obtain ⟨-, k2⟩ := fq_first (pd := pd) (s := 0) ht (Nat.zero_le t)
  obtain ⟨-, -, -, hstop, -⟩ := k2 hk
  have hz : ∀ f u, u.1 = (0 : Int32) → rpL pd t f u = u := fun f u hu => by
    cases f with
    | zero => rfl
    | succ f => rw [rpL, if_pos hu]
  have hend : (rmR pd 0 t).1 = t ∨ pd (rmR pd 0 t).1 = 44 := by
    rcases hstop with e | ⟨hl, -⟩
    · exact Or.inl e
    · by_cases e : pd (rmR pd 0 t).1 = 44
      · exact Or.inr e
      · exfalso
        have hse2 : seB pd (rmR pd 0 t).1 t 44 44 = 0 := by
          unfold seB
          rw [if_neg (nI_ge hl (by omega))]
          have : inB (pd (rmR pd 0 t).1) 44 44 = 0 := by
            unfold inB
            by_cases a : pd (rmR pd 0 t).1 < 44
            · rw [if_pos a]
            · rw [if_neg a, if_pos]
              rcases Int32.lt_or_eq_of_le (Int32.not_lt.mp a) with b | b
              · exact b
              · exact absurd b.symm e
          rw [if_pos this]
        rw [hrp, show 62 + t = (61 + t) + 1 by omega, rpL] at hg
        have hg : ¬ (if (1 : Int32) = 0 then (1, (rmR pd 0 t).1, 0 + 1, upd tl 0 (rmR pd 0 t).2) else if nI t ≤ nI (rmR pd 0 t).1 then (1, (rmR pd 0 t).1, 0 + 1, upd tl 0 (rmR pd 0 t).2) else if seB pd (rmR pd 0 t).1 t 44 44 = 0 then rpL pd t (61 + t) (0, (rmR pd 0 t).1 + 0, 0 + 1, upd tl 0 (rmR pd 0 t).2) else _).1 = 0 := hg
        rw [if_neg lz_o, if_neg (nI_ge hl (by omega)), if_pos hse2, hz _ _ rfl] at hg
        exact hg rfl
  obtain ⟨hkeep1, hkeep2⟩ := rp_keeps pd t (62 + t) (1, (rmR pd 0 t).1, 0 + 1, upd tl 0 (rmR pd 0 t).2)
  rw [← hrp] at hkeep1 hkeep2
  have hkeep1 : 0 + 1 ≤ (rpR pd t tl).2.2.1 := hkeep1
  have htold : (rpR pd t tl).2.2.2 0 = (rmR pd 0 t).2 := (hkeep2 0 (Nat.lt_succ_self 0)).trans (show upd tl 0 (rmR pd 0 t).2 0 = (rmR pd 0 t).2 from us rfl)
  have hih := fun T z hR hZ => run_all (pd := pd) ht (62 + t) (rmR pd 0 t).1 (0 + 1) (upd tl 0 (rmR pd 0 t).2) T z (by omega) hr2 hend (by omega) hR hZ (by rw [← hrp]; exact hg) (by rw [← hrp]; omega)
  rw [← hrp] at hih
  generalize rpR pd t tl = r at *
  rw [show (0 : Int32) = nI 0 from rfl, show rnL pd t t 0 (nI 0) (nI 0) T = rnL pd t (t - 0) 0 (nI 0) 0 T from rfl, hkk]
  obtain ⟨c, hc⟩ : ∃ c, r.2.2.1 = c + 1 := ⟨r.2.2.1 - 1, by omega⟩
  obtain ⟨m1, m2, m3⟩ := move_ok hR hZ hseen
  rw [hc, RuOK, ruL, htold]
  unfold KK2
  rw [if_pos hend]
  by_cases hca : caZ z (rmR pd 0 t).2 = 0
  · obtain ⟨a, b⟩ := m2 hca
    rw [if_pos a, if_pos hca, b]
    exact ⟨⟨m1, fun q => absurd hca q⟩, hR, hZ, rfl⟩
  · obtain ⟨a, b, d, e⟩ := m3 hca
    rw [if_neg a, if_neg hca, nI_1]
    have h9 := hih _ _ d e
    rw [show r.2.2.1 - (0 + 1) = c by omega] at h9
    exact ⟨⟨m1, fun _ => ⟨b, h9.1⟩⟩, h9.2⟩
theorem q_run {T U : Tb} {nx ln : Nat} {ad : Ad} {S : Nat → Tb} {ps : Nat → Int32} {pl : Nat} {z pa st sv pd : Nat → Int32} {n t : Nat} (h : INV (T, U, nx, ln, ad, S, ps, pl) z pa st sv pd n t) (tl : Nat → Int32) : (¬ (rpR pd t tl).1 = 0 → RuOK (rpR pd t tl).2.2.2 (rpR pd t tl).2.2.1 0 z) ∧ (if fqC ps pl = (-100006) then (rnC ps pl T).2 else (-100003)) = (if (rpR pd t tl).1 = 0 then (-100003) else nI (rnR z pd t tl).2) ∧
    ∀ u, INV (if fqC ps pl = (-100006) then ((rnC ps pl T).1, U, nx + 1, min (ln + 1) 6, va_up ad (nx % 6) (some u), va_up S (nx % 6) T, ps, 0) else (T, U, nx, ln, ad, S, ps, pl)) (if (rpR pd t tl).1 = 0 then z else (rnR z pd t tl).1) (if (rpR pd t tl).1 = 0 then pa else rcA z pa n) st sv pd (if (rpR pd t tl).1 = 0 then n else rcN n) (if (rpR pd t tl).1 = 0 then t else 0) := by
  have hh := h
  obtain ⟨hR, hZ, hhi, hs, ho, e1, hc, e2, ht⟩ := h
  have e1 : ps = pd := e1
  have e2 : pl = t := e2
  subst e1
  subst e2
  have hR : RelV T z := hR
  have hf := fault_eq (pd := ps) ht tl
  by_cases hg : (rpR ps pl tl).1 = 0
  · have hne : ¬ fqC ps pl = (-100006) := by
      rw [hf, if_pos hg]
      have := (rpR_in (pd := ps) (tl := tl) ht).1
      exact nI_none (by omega)
    simp only [if_pos hg, if_neg hne]
    exact ⟨fun q => absurd hg q, trivial, fun _ => hh⟩
  · have he : fqC ps pl = (-100006) := by rw [hf, if_neg hg]
    obtain ⟨r1, r2, r3, r4⟩ := run_eq ht tl hR hZ hg
    simp only [if_neg hg, if_pos he]
    refine ⟨fun _ => r1, r4, fun u => ?_⟩
    have hk := hh.keep u r2 r3
    exact ⟨hk.1, hk.2.1, hk.2.2.1, hk.2.2.2.1, hk.2.2.2.2.1, rfl, hc, rfl, Nat.zero_le _⟩
