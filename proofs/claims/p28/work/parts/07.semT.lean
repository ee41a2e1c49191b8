/-! THE MEANING of the class's Table: each method as a function of its rows, loop for loop as the code has it -/
def pAtL (pl : Nat → Int32) (x : Int32) : Nat → Nat → Int32
  | 0, _ => (-100006)
  | f + 1, i => if pl i = x then nI i else pAtL pl x f (i + 1)
def pAt (pl : Nat → Int32) (x : Int32) : Int32 := pAtL pl x 5 0
def plL (g : Nat → Int32) : Nat → Nat → Int32 → Int32
  | 0, _, k => k
  | f + 1, i, k => plL g f (i + 1) (if g i = (-100006) then k ||| ((1 : Int32) <<< (nI i &&& 31)) else k)
def plB (T : Tb) : Int32 := if T 10 0 = 0 then 0 else plL (T 6) 5 0 0
def hbL (b : Nat → Int32) : Nat → Nat → Int32 → Int32
  | 0, _, h => h
  | f + 1, i, h => hbL b f (i + 1) (if b i ≤ h then h else b i)
def hiB (T : Tb) : Int32 := hbL (T 5) 5 0 (-100006)
def leB (T : Tb) : Int32 := if T 10 0 = 0 then (-100006) else if hiB T = (-100006) then T 0 1 else hiB T + T 0 0
def covB (T : Tb) (x : Int32) : Int32 := if isPb x = 0 then 0 else if T 6 (ix x) = (-100006) then (if (0 : Int32) < T 5 (ix x) then T 5 (ix x) else 0) else 0
def mayB (T : Tb) (x : Int32) : Int32 := if T 10 0 = 0 then 0 else if isPb (T 10 1) = 0 then 0 else if x < leB T then 0 else if T 2 (ix (T 10 1)) < x then 0 else 1
theorem mayB_nar (T : Tb) (x : Int32) : narrow .boolean (.int (mayB T x)) = .int (mayB T x) := by
  unfold mayB
  repeat' split
  all_goals rfl
def staT (T : Tb) : Tb := tup (tup T 10 0 1) 10 1 (pAt (tup T 10 0 1 4) 0)
def paL (T : Tb) (pl : Int32) : Nat → Nat → Tb
  | 0, _ => T
  | f + 1, i => if isPb (pAt (T 4) ((pl + nI i) - (pl + nI i) / 5 * 5)) = 0 then paL T pl f (i + 1) else if T 6 (ix (pAt (T 4) ((pl + nI i) - (pl + nI i) / 5 * 5))) = (-100006) then tup T 10 1 (pAt (T 4) ((pl + nI i) - (pl + nI i) / 5 * 5)) else paL T pl f (i + 1)
def pasT (T : Tb) : Tb := if isPb (T 10 1) = 0 then T else paL T (T 4 (ix (T 10 1))) 4 1
def takT (T : Tb) (x : Int32) : Tb := if isPb (T 10 1) = 0 then pasT T else pasT (tup T 5 (ix (T 10 1)) x)
def payT (T : Tb) (x h k : Int32) : Tb := if isPb x = 0 then T else if T 5 (ix x) = (-100006) then T else tup (tup T 2 (ix x) (T 2 (ix x) - (T 5 (ix x) * h + k) / 100)) 7 (ix x) (tup T 2 (ix x) (T 2 (ix x) - (T 5 (ix x) * h + k) / 100) 7 (ix x) + (T 5 (ix x) * h + k) / 100)
def ahL (pr : Nat → Int32) (i : Nat) : Nat → Nat → Int32 → Int32
  | 0, _, n => n
  | f + 1, j, n => ahL pr i f (j + 1) (if pr i < pr j then n + 1 else if pr j = pr i then (if nI i ≤ nI j then n else n + 1) else n)
def pfL (pr : Nat → Int32) (x : Int32) : Nat → Nat → Int32
  | 0, _ => 0
  | f + 1, i => if ahL pr i 5 0 0 = x then pr i else pfL pr x f (i + 1)
def pfB (T : Tb) (x : Int32) : Int32 := pfL (T 1) x 5 0
def enB (T : Tb) (i : Nat) : Tb := tup (tup T 6 i 0) 9 i (tup T 6 i 0 9 i + 1)
def enA (T : Tb) (i : Nat) : Tb := if T 6 i = (-100006) then payT (enB T i) (nI i) (enB T i 0 2) 99 else T
def en1 (T : Tb) (i : Nat) : Tb := tup T 4 i (T 6 i)
def en2 (T : Tb) (i : Nat) (pz : Int32) : Tb := tup T 2 i (if (9999 : Int32) < T 2 i + pz then 9999 else T 2 i + pz)
def en3 (T : Tb) (i : Nat) (pz : Int32) : Tb := tup T 8 i (T 8 i + pz)
def enS (T : Tb) (i : Nat) : Tb := tup (tup (en3 (en2 (en1 T i) i (pfB (en1 T i) (en1 T i 4 i))) i (pfB (en1 T i) (en1 T i 4 i))) 6 i (-100006)) 5 i (-100006)
def enL : Nat → Nat → Tb → Tb
  | 0, _, T => T
  | f + 1, i, T => enL f (i + 1) (enS (enA T i) i)
def enZ (T : Tb) : Tb := tup (tup (tup T 10 0 0) 10 1 (-100006)) 10 2 (tup (tup T 10 0 0) 10 1 (-100006) 10 2 + 1)
def endT (T : Tb) : Tb := enZ (enL 5 0 T)
def bitC (x : Int32) : Int32 :=
  let a := x - (ush x 1 &&& 1431655765)
  let b := (a &&& 858993459) + (ush a 2 &&& 858993459)
  let d := (b + ush b 4) &&& 252645135
  let g := d + ush d 8
  (g + ush g 16) &&& 63
def fmB (x y : Int32) : Int32 := if 0 ≤ x ^^^ y then x - x / y * y else if x - x / y * y = 0 then x - x / y * y else x - x / y * y + y
def lfB (T : Tb) : Int32 := bitC (plB T) - 1
def drA (T : Tb) : Tb := tup T 6 (ix (T 10 1)) (lfB T)
def drB (T : Tb) : Tb := payT (drA T) (drA T 10 1) (drA T 0 3) 0
def drT (T : Tb) : Tb := if isPb (T 10 1) = 0 then T else if bitC (plB T) - 1 = 1 then endT (drB T) else pasT (drB T)
def drV (T : Tb) : Int32 := if isPb (T 10 1) = 0 then (-100006) else drT T 10 1
def acT (T : Tb) : Tb := if isPb (T 10 1) = 0 then drT T else if T 3 (ix (T 10 1)) < leB T then drT T else if mayB T (leB T) = 0 then drT T else takT T (leB T)
def acV (T : Tb) : Int32 := if isPb (T 10 1) = 0 then drV T else if T 3 (ix (T 10 1)) < leB T then drV T else if mayB T (leB T) = 0 then drV T else takT T (leB T) 10 1
def prL : Nat → Nat → Tb → Tb × Nat
  | 0, n, T => (T, n)
  | f + 1, n, T => if T 10 0 = 0 then (T, n) else prL f (n + 1) (acT T)
def prR (T : Tb) : Tb × Nat := prL 10000 0 (if T 10 0 = 0 then staT T else T)
