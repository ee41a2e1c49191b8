/-! THE MEANING of the class's calls -/
/-- a TurnBids: table, trial, next, length, the tables that are there and their numbers, signs, length of the pad -/
abbrev CS : Type := Tb × Tb × Nat × Nat × Ad × (Nat → Tb) × (Nat → Int32) × Nat
def ows (G : qG) (o : Nat) (t r h : Nat → Nat) (g : Nat) (b : Nat → Nat) (c : CS) : va_W := ow G o t r h g b c.1 c.2.1 c.2.2.1 c.2.2.2.1 (hd c.2.2.2.2.1 0 6) (hd c.2.2.2.2.1 6 2) c.2.2.2.2.2.2.1 c.2.2.2.2.2.2.2 ++ pool G c.2.2.2.2.1 c.2.2.2.2.2.1
/-- the state is kept, and the table is T1 -/
def kpC (T U : Tb) (nx ln : Nat) (ad : Ad) (S : Nat → Tb) (ps : Nat → Int32) (pl : Nat) (u : Nat → Nat) (T1 : Tb) : CS := (T1, U, nx + 1, min (ln + 1) 6, va_up ad (nx % 6) (some u), va_up S (nx % 6) T, ps, pl)
theorem ad_hd {ad : Ad} {i : Nat} {v : Option (Nat → Nat)} {k : Nat} (h : i ≠ k) : va_up ad k v i = ad i := va_up_ne _ _ h
def lvv (i : Nat) : Int32 := if i = 0 then 1 else 0
def mvv (i : Nat) : Int32 := if i = 0 then 9 else if i = 1 then 20 else 100
def seC (x v : Int32) : Int32 := if x < 0 then (-100002) else if x < 4 then (if v < lvv (ix x) then (-100002) else if v ≤ mvv (ix x) then 0 else (-100002)) else (-100002)
def coC (T : Tb) (x v : Int32) : Int32 := if isPb x = 0 then (-100001) else if v < 0 then (-100002) else if v ≤ 9999 then (if covB T x ≤ v then 0 else (-100005)) else (-100002)
def liC (x v : Int32) : Int32 := if isPb x = 0 then (-100001) else if v < 0 then (-100002) else if v ≤ 99 then 0 else (-100002)
def bdC (T : Tb) (v : Int32) : Int32 := if v < 0 then (-100002) else if v ≤ 9999 then (if mayB T v = 0 then (-100005) else 0) else (-100002)
def doT (T : Tb) (x n : Int32) : Tb := if x = 43 then (if T 10 0 = 0 then staT T else T) else if x = 33 then (prR T).1 else if T 10 0 = 0 then T else if x = 45 then drT T else if x = 42 then acT T else if mayB T n = 0 then T else takT T n
def doV (T : Tb) (x n : Int32) : Int32 := if x = 43 then (if T 10 0 = 0 then staT T 10 1 else (-100005)) else if x = 33 then nI (prR T).2 else if T 10 0 = 0 then (-100005) else if x = 45 then drV T else if x = 42 then acV T else if mayB T n = 0 then (-100005) else takT T n 10 1
def nuB (n x : Int32) : Int32 := if digB x = 0 then n else n * 10 + x - 48
def emB (ps : Nat → Int32) (t i : Nat) : Int32 := if saB ps (nI i) = 44 then 0 else if nI (i + 1) = nI t then 1 else if saB ps (nI (i + 1)) = 44 then 1 else 0
def rnL (ps : Nat → Int32) (t : Nat) : Nat → Nat → Int32 → Int32 → Tb → Tb × Int32
  | 0, _, k, _, T => (T, k)
  | f + 1, i, k, n, T => if emB ps t i = 0 then rnL ps t f (i + 1) k (nuB n (saB ps (nI i))) T else if doV T (saB ps (nI i)) (nuB n (saB ps (nI i))) = (-100005) then (doT T (saB ps (nI i)) (nuB n (saB ps (nI i))), k) else rnL ps t f (i + 1) (k + 1) 0 (doT T (saB ps (nI i)) (nuB n (saB ps (nI i))))
def rnC (ps : Nat → Int32) (t : Nat) (T : Tb) : Tb × Int32 := rnL ps t t 0 0 0 T
def tyL : Nat → Tb → Tb
  | 0, U => U
  | f + 1, U => tyL f (prR U).1
def plC (T : Tb) (x w : Int32) : Int32 := if isPb x = 0 then (-100001) else if w.toInt < 0 ∨ 7 < w.toInt then (-100002) else T (ix w + 2) (ix x)
def cnS (T : Tb) (ln pl : Nat) : Nat → Int32
  | 4 => if T 10 0 = 0 then 0 else 1
  | 5 => T 10 1
  | 6 => hiB T
  | 7 => leB T
  | 8 => plB T
  | 9 => T 10 2
  | 10 => sqC (T 2)
  | 11 => sqC (T 7)
  | 12 => sqC (T 8)
  | 13 => sqC (T 1)
  | 14 => nI pl
  | _ => nI ln
def cnC (T : Tb) (ln pl : Nat) (x : Int32) : Int32 := if x < 0 then (if x.toInt < 4 ∨ 15 < x.toInt then (-100002) else cnS T ln pl (ix x)) else if 4 ≤ x then (if x.toInt < 4 ∨ 15 < x.toInt then (-100002) else cnS T ln pl (ix x)) else T 0 (ix x)
theorem sw_4 {x : Int32} (h : ¬ (x.toInt < 4 ∨ 15 < x.toInt)) : ∃ k : Nat, 4 ≤ k ∧ k ≤ 15 ∧ x = nI k := by
  have h1 : 0 ≤ x.toInt := by omega
  refine ⟨x.toInt.toNat, by omega, by omega, ?_⟩
  apply Int32.toInt_inj.mp
  rw [nI_toInt (by omega)]
  omega
def erI (x w : Int32) : Int32 := if isPb x = 0 then (-100001) else if w < 0 then (-100002) else if w ≤ 3 then 0 else (-100002)
def ifC (T U : Tb) (x w : Int32) : Int32 := if w.toInt < 0 ∨ 2 < w.toInt then U 2 (ix x) - T 2 (ix x) else if ix w = 0 then U 4 (ix x) else if ix w = 1 then U 7 (ix x) - T 7 (ix x) else U 8 (ix x) - T 8 (ix x)
def erT (x w : Int32) : Int32 := if isPb x = 0 then (-100001) else if w = 0 then 0 else if w = 1 then 0 else (-100002)
def bcL (T : Tb) (j : Nat) : Nat → Nat → Int32 → Int32 → Tb → Int32 × Int32 × Tb
  | 0, _, b, k, U => (b, k, U)
  | f + 1, i, b, k, _ => if (prR (tup T 3 j (nI i))).1 2 j ≤ k then bcL T j f (i + 1) b k ((prR (tup T 3 j (nI i))).1) else bcL T j f (i + 1) (nI i) ((prR (tup T 3 j (nI i))).1 2 j) ((prR (tup T 3 j (nI i))).1)
def bcR (T U : Tb) (j : Nat) : Int32 × Int32 × Tb := bcL T j 100 0 0 (-100006) U
def erN (r : Int32) : Int32 := if r < 1 then (-100002) else if r ≤ 100 then 0 else (-100002)
def erM (x r : Int32) : Int32 := if isPb x = 0 then (-100001) else if r < 1 then (-100002) else if r ≤ 100 then 0 else (-100002)
def rhL (U : Tb) : Nat → Nat → Int32 → Int32
  | 0, _, k => k
  | f + 1, i, k => if 0 < U 2 i - U 2 (ix k) then rhL U f (i + 1) (nI i) else if U 2 i - U 2 (ix k) = 0 then (if U 4 (ix k) ≤ U 4 i then rhL U f (i + 1) k else rhL U f (i + 1) (nI i)) else rhL U f (i + 1) k
def puC (pl : Nat) (w : Int64) : Int32 := if nI (suC w) = 0 then (-100002) else if nI (pl + suC w) ≤ 60 then 0 else (-100004)
def slC (x : Int32) : Int32 := if x < 0 then (-100002) else if x < 2 then 0 else (-100002)
theorem x1_100 {r : Int32} (h1 : ¬ r < 1) (h2 : r ≤ 100) : ∃ j : Nat, j ≤ 100 ∧ r = nI j := by
  have h0 : ¬ r < 0 := fun q => h1 (Int32.lt_trans q (by decide))
  exact nI_of2 (M := 100) (by decide) h0 h2
theorem x_lt {x : Int32} {N : Nat} (hN : N < 2 ^ 31) (h1 : ¬ x < 0) (h2 : x < nI N) : ∃ j : Nat, j < N ∧ x = nI j := by
  obtain ⟨j, hj, rfl⟩ := nI_of h1
  exact ⟨j, (nI_ltI hj hN).mp h2, rfl⟩
theorem lz_n10 : ((1 : Nat) = 0) = False := eq_false (by decide)
theorem lz_n20 : ((2 : Nat) = 0) = False := eq_false (by decide)
theorem lz_n21 : ((2 : Nat) = 1) = False := eq_false (by decide)
def rsC (ad : Ad) (x : Int32) : Int32 := if x < 0 then (-100002) else if x < 2 then (if (ad (6 + ix x)).isNone = true then (-100005) else 0) else (-100002)
theorem hd_none (j n : Nat) : hd (fun _ => none) j n = fun _ => none := by
  funext i
  unfold hd
  split <;> rfl
def iniC : CS := (iniT, iniT, 0, 0, fun _ => none, fun _ => iniT, fun _ => 0, 0)
theorem ows_ini (G : qG) (q : Nat) (t r h : Nat → Nat) (g : Nat) (b : Nat → Nat) : ows G q t r h g b iniC = ow G q t r h g b iniT iniT 0 0 (fun _ => none) (fun _ => none) (fun _ => 0) 0 := by
  unfold ows iniC
  dsimp only
  rw [hd_none, hd_none, show pool G (fun _ => none) (fun _ => iniT) = [] from rfl, List.append_nil]
