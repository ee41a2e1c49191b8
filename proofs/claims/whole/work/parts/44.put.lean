/-! PUT: the characters of a number -/
def nb (w : Int64) : Nat := w.toUInt64.toNat
theorem and255 (w : Int64) : w &&& 255 = lN (nb w % 256) := by
  apply Int64.toBitVec_inj.mp
  rw [Int64.toBitVec_and]
  apply BitVec.eq_of_toNat_eq
  rw [BitVec.toNat_and]
  have h1 : (255 : Int64).toBitVec.toNat = 2 ^ 8 - 1 := by decide
  have h2 : (lN (nb w % 256)).toBitVec.toNat = nb w % 256 := by
    show (BitVec.ofNat 64 (nb w % 256)).toNat = nb w % 256
    rw [BitVec.toNat_ofNat]
    exact Nat.mod_eq_of_lt (by omega)
  rw [h1, h2, Nat.and_two_pow_sub_one_eq_mod]
  rfl
theorem nb_shr (w : Int64) : nb (w.toUInt64 >>> ((8 : Int32).toInt64.toUInt64 &&& Int64.toUInt64 63)).toInt64 = nb w / 256 := by
  unfold nb
  rw [UInt64.toUInt64_toInt64, UInt64.toNat_shiftRight]
  have : ((8 : Int32).toInt64.toUInt64 &&& Int64.toUInt64 63).toNat % 64 = 8 := by decide +kernel
  rw [this, Nat.shiftRight_eq_div_pow]
theorem chC_nb (w : Int64) : chC w = nI (nb w % 256) := by
  unfold chC
  rw [and255, lN_i]
  have h : nb w % 256 < 256 := Nat.mod_lt _ (by decide)
  generalize nb w % 256 = b at h
  apply Int32.toInt_inj.mp
  have e : ((nI b).toUInt32 % 65536).toInt32 = nI b := by
    have e1 : (nI b).toUInt32 = UInt32.ofNat b := rfl
    rw [e1]
    have e2 : UInt32.ofNat b % 65536 = UInt32.ofNat b := by
      apply UInt32.toNat_inj.mp
      rw [UInt32.toNat_mod, UInt32.toNat_ofNat_of_lt' (by show b < 4294967296; omega)]
      exact Nat.mod_eq_of_lt (by show b < 65536; omega)
    rw [e2]
    rfl
  rw [e]
theorem chB_nb (w : Int64) {f : Nat} (hf : f < 8) : chB w f = nI (nb w / 256 ^ f % 256) := by
  unfold chB
  rw [and255, lN_i]
  congr 2
  unfold nb
  rw [UInt64.toUInt64_toInt64, UInt64.toNat_shiftRight, Nat.shiftRight_eq_div_pow]
  rcases (show f = 0 ∨ f = 1 ∨ f = 2 ∨ f = 3 ∨ f = 4 ∨ f = 5 ∨ f = 6 ∨ f = 7 by omega) with rfl | rfl | rfl | rfl | rfl | rfl | rfl | rfl <;> (congr 1 <;> decide +kernel)
theorem aqL_at (t : Nat) : ∀ (f : Nat) (w : Int64) (ps : Nat → Int32) (k : Nat), aqL t f w ps k = if t ≤ k ∧ k < t + f then nI (nb w / 256 ^ (t + f - 1 - k) % 256) else ps k := by
  intro f
  induction f with
  | zero => intro w ps k; rw [if_neg (by omega)]; rfl
  | succ f ih =>
    intro w ps k
    rw [aqL, ih, nb_shr]
    by_cases h : t ≤ k ∧ k < t + f
    · rw [if_pos h, if_pos (by omega), show t + (f + 1) - 1 - k = (t + f - 1 - k) + 1 by omega, Nat.pow_succ, Nat.mul_comm, ← Nat.div_div_eq_div_mul]
    · rw [if_neg h, upd_at]
      by_cases hk : k = t + f
      · rw [if_pos hk, if_pos (by omega), chC_nb, show t + (f + 1) - 1 - k = 0 by omega, Nat.pow_zero, Nat.div_one]
      · rw [if_neg hk, if_neg (by omega)]
theorem apL_at (w : Int64) : ∀ (f t : Nat) (pd : Nat → Int32) (k : Nat), f ≤ 8 → apL w f t pd k = if t ≤ k ∧ k < t + f then nI (nb w / 256 ^ (t + f - 1 - k) % 256) else pd k := by
  intro f
  induction f with
  | zero => intro t pd k _; rw [if_neg (by omega)]; rfl
  | succ f ih =>
    intro t pd k hf
    rw [apL, ih _ _ _ (by omega), upd_at]
    by_cases h : t + 1 ≤ k ∧ k < t + 1 + f
    · rw [if_pos h, if_pos (by omega), show t + 1 + f - 1 - k = t + (f + 1) - 1 - k by omega]
    · rw [if_neg h]
      by_cases hk : k = t
      · rw [if_pos hk, if_pos (by omega), chB_nb w (by omega), show t + (f + 1) - 1 - k = f by omega]
      · rw [if_neg hk, if_neg (by omega)]
theorem aq_ap (w : Int64) {f : Nat} (hf : f ≤ 8) (t : Nat) (ps : Nat → Int32) : aqL t f w ps = apL w f t ps := by
  funext k
  rw [aqL_at, apL_at w f t ps k hf]
theorem lg_lt (a b : Nat) (ha : a < 2 ^ 31) (hb : b < 2 ^ 31) : (lg_cmp (lN a) (lN b) < 0) ↔ a < b := by
  have h1 := lg_cmp_ge (lN a) (lN b)
  rw [lN_le hb ha] at h1
  constructor
  · intro q
    have : ¬ 0 ≤ lg_cmp (lN a) (lN b) := Int32.not_le.mpr q
    rw [h1] at this
    omega
  · intro q
    exact Int32.not_le.mp (fun e => by rw [h1] at e; omega)
theorem lg_le (a b : Nat) (ha : a < 2 ^ 31) (hb : b < 2 ^ 31) : (lg_cmp (lN a) (lN b) ≤ 0) ↔ a ≤ b := by
  unfold lg_cmp
  by_cases h1 : lN a > lN b
  · rw [if_pos h1]
    have : b < a := (lN_lt hb ha).mp h1
    constructor
    · intro q; exact absurd q (by decide)
    · intro q; omega
  · rw [if_neg h1]
    have h2 : a ≤ b := by
      rcases Nat.lt_or_ge b a with q | q
      · exact absurd ((lN_lt hb ha).mpr q) h1
      · exact q
    constructor
    · intro _; exact h2
    · intro _
      split
      · decide
      · decide
theorem su_pt : ∀ (f n : Nat) (w : Int64), n + f ≤ 8 → suL f n w = if ptL f n w = 9 then 0 else ptL f n w := by
  intro f
  induction f with
  | zero => intro n w h; show n = if n = 9 then 0 else n; rw [if_neg (by omega)]
  | succ f ih =>
    intro n w h
    rw [suL, ptL]
    by_cases h0 : lg_cmp w 0 = 0
    · rw [if_pos h0, if_pos h0, if_neg (by omega)]
    · rw [if_neg h0, if_neg h0, and255, lN_i]
      have hb : nb w % 256 < 256 := Nat.mod_lt _ (by decide)
      generalize nb w % 256 = b at hb
      have e33 : (33 : Int64) = lN 33 := rfl
      have e126 : (126 : Int64) = lN 126 := rfl
      by_cases h1 : b < 33
      · have hi : inB (nI b) 33 126 = 0 := by unfold inB; exact if_pos (nI_lt (a := b) (b := 33) h1 (by decide))
        rw [e33, if_pos ((lg_lt b 33 (by omega) (by decide)).mpr h1), hi, if_pos rfl, if_pos rfl]
      · rw [e33, if_neg (fun q => h1 ((lg_lt b 33 (by omega) (by decide)).mp q))]
        by_cases h2 : b ≤ 126
        · have hi : inB (nI b) 33 126 = 1 := by
            unfold inB
            rw [if_neg (show ¬ nI b < 33 from nI_nlt (a := b) (b := 33) (by omega) (by omega)), if_neg (show ¬ (126 : Int32) < nI b from nI_nlt (a := 126) (b := b) h2 (by decide))]
          rw [e126, if_pos ((lg_le b 126 (by omega) (by decide)).mpr h2), hi, if_neg lz_o]
          exact ih (n + 1) _ (by omega)
        · have hi : inB (nI b) 33 126 = 0 := by
            unfold inB
            rw [if_neg (show ¬ nI b < 33 from nI_nlt (a := b) (b := 33) (by omega) (by omega)), if_pos (show (126 : Int32) < nI b from nI_lt (a := 126) (b := b) (by omega) (by omega))]
          rw [e126, if_neg (fun q => h2 ((lg_le b 126 (by omega) (by decide)).mp q)), hi, if_pos rfl, if_pos rfl]
theorem pu_er (t : Nat) (w : Int64) : puC t w = erP t w := by
  have h : suC w = if ptC w = 9 then 0 else ptC w := su_pt 8 0 w (by decide)
  unfold puC erP
  by_cases h9 : ptC w = 9
  · rw [h, if_pos h9, if_pos h9, if_pos (show nI 0 = 0 from rfl)]
  · rw [h, if_neg h9, if_neg h9]
theorem q_put {T U : Tb} {nx ln : Nat} {ad : Ad} {S : Nat → Tb} {ps : Nat → Int32} {pl : Nat} {z pa st sv pd : Nat → Int32} {n t : Nat} (h : INV (T, U, nx, ln, ad, S, ps, pl) z pa st sv pd n t) (w : Int64) : (if puC pl w = 0 then nI (pl + suC w) else puC pl w) = (if erP t w = 0 then nI (t + ptC w) else erP t w) ∧ INV (if puC pl w = 0 then (T, U, nx, ln, ad, S, aqL pl (suC w) w ps, pl + suC w) else (T, U, nx, ln, ad, S, ps, pl)) z pa st sv (if erP t w = 0 then apL w (ptC w) t pd else pd) n (if erP t w = 0 then t + ptC w else t) := by
  obtain ⟨hR, hZ, hh, hs, ho, e1, hc, e2, ht⟩ := h
  have e1 : ps = pd := e1
  have e2 : pl = t := e2
  subst e1
  subst e2
  rw [pu_er]
  by_cases hq : erP pl w = 0
  · simp only [if_pos hq]
    have hsu : suC w = if ptC w = 9 then 0 else ptC w := su_pt 8 0 w (by decide)
    have h9 : ¬ ptC w = 9 := fun e => by unfold erP at hq; rw [if_pos e] at hq; exact absurd hq lz_2
    rw [if_neg h9] at hsu
    have h60 : pl + ptC w ≤ 60 := by
      unfold erP at hq
      rw [if_neg h9] at hq
      by_cases q0 : nI (ptC w) = 0
      · rw [if_pos q0] at hq; exact absurd hq lz_2
      rw [if_neg q0] at hq
      by_cases q1 : nI (pl + ptC w) ≤ 60
      · have := suC_le w
        exact (nI_leI (a := pl + ptC w) (b := 60) (by omega) (by decide)).mp q1
      · rw [if_neg q1] at hq; exact absurd hq lz_4
    have hle : ptC w ≤ 8 := by rw [← hsu]; exact suC_le w
    rw [hsu]
    refine ⟨rfl, hR, hZ, hh, hs, ho, aq_ap w hle pl ps, ?_, rfl, h60⟩
    rw [← aq_ap w hle pl ps]
    have : ∀ (f : Nat) (w : Int64) (y : Nat → Int32), chs y → chs (aqL pl f w y) := by
      intro f
      induction f with
      | zero => intro w y hy; exact hy
      | succ f ih => intro w y hy; exact ih _ _ (chs_upd hy _ _)
    exact this _ _ _ hc
  · simp only [if_neg hq]
    exact ⟨trivial, hR, hZ, hh, hs, ho, rfl, hc, rfl, ht⟩
