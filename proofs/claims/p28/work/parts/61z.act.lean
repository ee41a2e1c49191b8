/-! THE LAW: act -/
theorem c_L_act (l : Launch) (G : qG) (o : Nat) (t r h : Nat → Nat) (g : Nat) (b : Nat → Nat) {k : CS} {B : Nat} (hF : RF k B) (hB29 : 29 ≤ B) {n : Nat} (hn : n < 2 ^ 31) (sz : Nat) : Met l yL_act wsL_act { frames := 7, cells := 11, slots := 62, locals := 149 } (PWz G sz [.ref o, .int (nI n)] (ows G o t r h g b k)) (QI (S := CS) G sz (ows G o t r h g b k) (ActP k (B + 11)) (fun c₀ => ows G o t r h g b c₀)) 11 62 (va_A (ows G o t r h g b k) sz) := by
  have hm : n % 16 < 16 := Nat.mod_lt _ (by decide)
  by_cases c0 : n % 16 < 2
  · exact c_L_act_begin l G o t r h g b hF hB29 hn ⟨Nat.zero_le _, c0⟩ sz
  by_cases c1 : n % 16 < 6
  · exact c_L_act_bid l G o t r h g b hF hB29 hn ⟨by omega, c1⟩ sz
  by_cases c2 : n % 16 < 8
  · exact c_L_act_drop l G o t r h g b hF hB29 hn ⟨by omega, c2⟩ sz
  by_cases c3 : n % 16 < 11
  · exact c_L_act_act l G o t r h g b hF hB29 hn ⟨by omega, c3⟩ sz
  by_cases c4 : n % 16 = 11
  · exact c_L_act_finish l G o t r h g b hF hB29 hn c4 sz
  by_cases c5 : n % 16 = 12
  · exact c_L_act_coins l G o t r h g b hF hB29 hn c5 sz
  by_cases c6 : n % 16 = 13
  · exact c_L_act_limit l G o t r h g b hF hB29 hn c6 sz
  by_cases c7 : n % 16 = 14
  · exact c_L_act_prize l G o t r h g b hF hB29 hn c7 sz
  exact c_L_act_set l G o t r h g b hF hB29 hn (by omega) sz
