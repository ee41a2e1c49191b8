/-! THE CALLS, ONE BY ONE: undo, save, restore; the best limit, the richest -/
section CALLS4
variable {T U : Tb} {nx ln : Nat} {ad : Ad} {S : Nat → Tb} {ps : Nat → Int32} {pl : Nat} {z pa st sv pd : Nat → Int32} {n t : Nat}
theorem q_undo (h : INV (T, U, nx, ln, ad, S, ps, pl) z pa st sv pd n t) : (¬ ln = 0 → ∃ (n : Nat) (a : Nat → Nat), nx = n + 1 ∧ ad (n % 6) = some a) ∧ (if ln = 0 then (-100005) else nI (ln - 1)) = (if nI n = 0 then (-100005) else nI (n - 1)) ∧ INV (if ln = 0 then (T, U, nx, ln, ad, S, ps, pl) else (S ((nx - 1) % 6), U, nx - 1, ln - 1, ad, S, ps, pl)) (if nI n = 0 then z else fun i₀ => pa (53 * (n - 1) + i₀)) pa st sv pd (if nI n = 0 then n else n - 1) t := by
  obtain ⟨hR, hZ, ⟨e, h6, hnx, hall⟩, hs, ho, hp⟩ := h
  have e : ln = n := e
  subst e
  have hnx : ln ≤ nx := hnx
  by_cases h0 : ln = 0
  · subst h0
    refine ⟨fun q => absurd rfl q, ?_, ?_⟩
    · rw [if_pos rfl, if_pos (show nI 0 = 0 from rfl)]
    · rw [if_pos rfl, if_pos (show nI 0 = 0 from rfl), if_pos (show nI 0 = 0 from rfl)]
      exact ⟨hR, hZ, ⟨rfl, h6, hnx, hall⟩, hs, ho, hp⟩
  · have hn : ¬ nI ln = 0 := nI_ne0 (by omega) (by omega)
    obtain ⟨⟨a, ha⟩, a2, a3⟩ := hall (ln - 1) (by omega)
    have hix : nx - ln + (ln - 1) = nx - 1 := by omega
    have ha : ad ((nx - ln + (ln - 1)) % 6) = some a := ha
    have a2 : RelV (S ((nx - ln + (ln - 1)) % 6)) (fun i => pa (53 * (ln - 1) + i)) := a2
    rw [hix] at ha a2
    refine ⟨fun _ => ⟨nx - 1, a, by omega, ha⟩, by rw [if_neg h0, if_neg hn], ?_⟩
    rw [if_neg h0, if_neg hn, if_neg hn]
    refine ⟨a2, a3, ⟨rfl, by show ln - 1 ≤ 6; omega, by show ln - 1 ≤ nx - 1; omega, fun k hk => ?_⟩, hs, ho, hp⟩
    obtain ⟨b1, b2, b3⟩ := hall k (by omega)
    have hix2 : nx - 1 - (ln - 1) + k = nx - ln + k := by omega
    show (∃ a, ad ((nx - 1 - (ln - 1) + k) % 6) = some a) ∧ RelV (S ((nx - 1 - (ln - 1) + k) % 6)) (fun i => pa (53 * k + i)) ∧ _
    rw [hix2]
    exact ⟨b1, b2, b3⟩
theorem slC_in (x : Int32) : slC x = if inB x 0 1 = 0 then (-100002) else 0 := by
  unfold slC
  rw [← inB_3]
  have e : (x < 2) ↔ (x ≤ 1) := by
    rw [Int32.lt_iff_toInt_lt, Int32.le_iff_toInt_le]
    have e1 : (1 : Int32).toInt = 1 := by decide
    have e2 : (2 : Int32).toInt = 2 := by decide
    rw [e1, e2]
    omega
  by_cases h0 : x < 0
  · rw [if_pos h0, if_pos h0]
  · rw [if_neg h0, if_neg h0]
    by_cases h2 : x < 2
    · rw [if_pos h2, if_pos (e.mp h2)]
    · rw [if_neg h2, if_neg (fun q => h2 (e.mpr q))]
theorem q_save (h : INV (T, U, nx, ln, ad, S, ps, pl) z pa st sv pd n t) (x : Int32) : (if slC x = 0 then sqC (T 2) else slC x) = (if inB x 0 1 = 0 then (-100002) else smB z 8) ∧ ∀ u, INV (if slC x = 0 then (T, U, nx, ln, va_up ad (6 + ix x) (some u), va_up S (6 + ix x) T, ps, pl) else (T, U, nx, ln, ad, S, ps, pl)) z pa (if inB x 0 1 = 0 then st else va_cpy z st 0 (53 * ix x) 53) (if inB x 0 1 = 0 then sv else upd sv (ix x) 1) pd n t := by
  rw [slC_in]
  by_cases hx : inB x 0 1 = 0
  · simp only [if_pos hx, if_neg lz_2]
    exact ⟨trivial, fun _ => h⟩
  · obtain ⟨j, hj, rfl⟩ := inB_r (N := 1) (by decide) hx
    simp only [if_neg hx, if_true]
    rw [ix_n (by omega)]
    refine ⟨sum_eq (fun i hi => h.1.co hi), fun u => ?_⟩
    have hT := h.t01
    obtain ⟨hR, hZ, ⟨e, h6, hnx, hall⟩, hs, ho, hp⟩ := h
    refine ⟨hR, hZ, ⟨e, h6, hnx, fun k hk => ?_⟩, fun k hk => ?_, ho.up _ _ hT, hp⟩
    · have hne : (nx - n + k) % 6 ≠ 6 + j := by omega
      show (∃ a, va_up ad (6 + j) (some u) ((nx - n + k) % 6) = some a) ∧ RelV (va_up S (6 + j) T ((nx - n + k) % 6)) _ ∧ _
      rw [va_up_ne _ _ hne, va_up_ne _ _ hne]
      exact hall k hk
    · show (upd sv j 1 k = 0 ∧ va_up ad (6 + j) (some u) (6 + k) = none) ∨ (¬ upd sv j 1 k = 0 ∧ (∃ a, va_up ad (6 + j) (some u) (6 + k) = some a) ∧ RelV (va_up S (6 + j) T (6 + k)) _ ∧ _)
      by_cases hk2 : k = j
      · subst hk2
        rw [us rfl, va_up_self, va_up_self]
        have hE : ZE z (fun i => va_cpy z st 0 (53 * k) 53 (53 * k + i)) := fun i hi => by
          show z i = va_cpy z st 0 (53 * k) 53 (53 * k + i)
          rw [pk_cpy_in (by omega) (by omega)]
          exact congrArg z (by omega)
        exact Or.inr ⟨lz_o, ⟨u, rfl⟩, hR.congr hE, hZ.congr hE⟩
      · have hne : 6 + k ≠ 6 + j := by omega
        rw [un hk2, va_up_ne _ _ hne, va_up_ne _ _ hne]
        have hE : ZE (fun i => st (53 * k + i)) (fun i => va_cpy z st 0 (53 * j) 53 (53 * k + i)) := fun i hi => by
          show st (53 * k + i) = va_cpy z st 0 (53 * j) 53 (53 * k + i)
          rw [pk_cpy_out (by omega)]
        rcases hs k hk with q | ⟨q1, q2, q3, q4⟩
        · exact Or.inl q
        · exact Or.inr ⟨q1, q2, q3.congr hE, q4.congr hE⟩
theorem q_restore (h : INV (T, U, nx, ln, ad, S, ps, pl) z pa st sv pd n t) (x : Int32) : (if rsC ad x = 0 then sqC (S (6 + ix x) 2) else rsC ad x) = (if erS z sv x = 0 then smB (fun i₀ => st (53 * ix x + i₀)) 8 else erS z sv x) ∧ ∀ u, INV (if rsC ad x = 0 then kpC T U nx ln ad S ps pl u (S (6 + ix x)) else (T, U, nx, ln, ad, S, ps, pl)) (if erS z sv x = 0 then (fun i₀ => st (53 * ix x + i₀)) else z) (if erS z sv x = 0 then rcA z pa n else pa) st sv pd (if erS z sv x = 0 then rcN n else n) t := by
  have he : rsC ad x = erS z sv x := by
    have h1 := slC_in x
    unfold rsC erS
    unfold slC at h1
    by_cases h0 : x < 0
    · rw [if_pos h0] at h1
      by_cases hx : inB x 0 1 = 0
      · rw [if_pos h0, if_pos hx]
      · rw [if_neg hx] at h1; exact absurd h1 lz_2
    · rw [if_neg h0] at h1 ⊢
      by_cases h2 : x < 2
      · rw [if_pos h2] at h1 ⊢
        by_cases hx : inB x 0 1 = 0
        · rw [if_pos hx] at h1; exact absurd h1.symm lz_2
        · rw [if_neg hx]
          obtain ⟨j, hj, rfl⟩ := inB_r (N := 1) (by decide) hx
          rw [ix_n (by omega)]
          rcases h.2.2.2.1 j (by omega) with ⟨q1, q2⟩ | ⟨q1, ⟨a, q2⟩, -⟩
          · have q2 : ad (6 + j) = none := q2
            rw [q2, if_pos q1]; rfl
          · have q2 : ad (6 + j) = some a := q2
            rw [q2, if_neg q1]; rfl
      · rw [if_neg h2] at h1 ⊢
        by_cases hx : inB x 0 1 = 0
        · rw [if_pos hx]
        · rw [if_neg hx] at h1; exact absurd h1 lz_2
  rw [he]
  by_cases hq : erS z sv x = 0
  · simp only [if_pos hq]
    unfold erS at hq
    by_cases hx : inB x 0 1 = 0
    · rw [if_pos hx] at hq; exact absurd hq lz_2
    rw [if_neg hx] at hq
    by_cases hv : sv (ix x) = 0
    · rw [if_pos hv] at hq; exact absurd hq lz_5
    obtain ⟨j, hj, rfl⟩ := inB_r (N := 1) (by decide) hx
    rw [ix_n (by omega)] at hv ⊢
    rcases h.2.2.2.1 j (by omega) with ⟨q1, -⟩ | ⟨-, -, q3, q4⟩
    · exact absurd q1 hv
    · exact ⟨sum_eq (fun i hi => RelV.co q3 hi), fun u => h.keep u q3 q4⟩
  · simp only [if_neg hq]
    exact ⟨trivial, fun _ => h⟩
end CALLS4
theorem sub_toInt {x c : Nat} (hx : x ≤ 9999) (hc : c ≤ 9999) : (nI x - nI c).toInt = (x : Int) - c := by
  rw [Int32.toInt_sub, nI_toInt (by omega), nI_toInt (by omega), Int.bmod_def]
  have e : ((2 ^ 32 : Nat) : Int) = 4294967296 := by decide
  rw [e]
  split <;> omega
theorem sub_le {a b c : Nat} (ha : a ≤ 9999) (hb : b ≤ 9999) (hc : c ≤ 9999) : (nI a - nI c ≤ nI b - nI c) ↔ a ≤ b := by
  rw [Int32.le_iff_toInt_le, sub_toInt ha hc, sub_toInt hb hc]
  omega
theorem sub_gt {a b : Nat} (ha : a ≤ 9999) (hb : b ≤ 9999) : ((0 : Int32) < nI a - nI b) ↔ b < a := by
  rw [Int32.lt_iff_toInt_lt, sub_toInt ha hb]
  have e0 : (0 : Int32).toInt = 0 := by decide
  rw [e0]
  omega
theorem sub_eq0 {a b : Nat} (ha : a ≤ 9999) (hb : b ≤ 9999) : (nI a - nI b = (0 : Int32)) ↔ a = b := by
  rw [← Int32.toInt_inj, sub_toInt ha hb]
  have e0 : (0 : Int32).toInt = 0 := by decide
  rw [e0]
  omega
