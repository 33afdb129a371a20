/-! what the methods compute, as functions over the state; both sides speak of these -/
def rowz (M : Nat → Nat → Int32) (i : Nat) : Nat → (Nat → Nat → Int32)
  | 0 => M
  | j + 1 => up2 (rowz M i j) i j 0
def matz (M : Nat → Nat → Int32) : Nat → (Nat → Nat → Int32)
  | 0 => M
  | i + 1 => rowz (matz M i) i 5
def vecz (f : Nat → Int32) (x : Int32) : Nat → (Nat → Int32)
  | 0 => f
  | i + 1 => upd (vecz f x i) i x
/-- rows i and k of a matrix, exchanged column by column -/
def swpM (M : Nat → Nat → Int32) (i k : Nat) : Nat → (Nat → Nat → Int32)
  | 0 => M
  | j + 1 => up2 (up2 (swpM M i k j) i j (swpM M i k j k j)) k j (swpM M i k j i j)
def swpV (f : Nat → Int32) (i k : Nat) : Nat → Int32 := upd (upd f i (f k)) k (f i)
/-- row i with the multiple of row k, column by column; how many columns have changed -/
def acM (M : Nat → Nat → Int32) (i k : Nat) (fac : Int32) : Nat → (Nat → Nat → Int32)
  | 0 => M
  | j + 1 => up2 (acM M i k fac j) i j (acM M i k fac j i j + fac * acM M i k fac j k j)
def acC (M : Nat → Nat → Int32) (i k : Nat) (fac : Int32) : Nat → Int32
  | 0 => 0
  | j + 1 => acC M i k fac j + (if fac * acM M i k fac j k j = 0 then 0 else 1)
def pLow (fac lo hi : Int32) : Int32 := fac * (if fac < 0 then hi else lo)
def pHigh (fac lo hi : Int32) : Int32 := fac * (if fac < 0 then lo else hi)
/-- one column of an expansion: (sum, sign) -/
def exS (M : Nat → Nat → Int32) (mn : Nat → Int64) (N row cols : Nat) : Nat → Int64 × Int64
  | 0 => (0, 1)
  | c + 1 => if cols.testBit (N - c - 1) then ((exS M mn N row cols c).1 + (exS M mn N row cols c).2 * (M row (N - c - 1)).toInt64 * mn (cols ^^^ 2 ^ (N - c - 1)), -(exS M mn N row cols c).2) else exS M mn N row cols c
/-- how many bits of the lowest five -/
def pop5 (c : Nat) : Nat := c % 2 + c / 2 % 2 + c / 4 % 2 + c / 8 % 2 + c / 16 % 2
def rowOf (skip c : Nat) : Nat := if skip ≤ pop5 c - 1 then pop5 c - 1 + 1 else pop5 c - 1
/-- the minors, set of columns by set of columns: those up to k are there -/
def mnG (M : Nat → Nat → Int32) (mn : Nat → Int64) (N skip : Nat) : Nat → (Nat → Int64)
  | 0 => vp_updL mn 0 1
  | k + 1 => vp_updL (mnG M mn N skip k) (k + 1) (if rowOf skip (k + 1) < N then (exS M (mnG M mn N skip k) N (rowOf skip (k + 1)) (k + 1) N).1 else 0)
def mdS (M : Nat → Nat → Int32) (bl bh : Nat → Int32) (i : Nat) : Nat → Int64
  | 0 => 0
  | j + 1 => mdS M bl bh i j + (M i j).toInt64 * ((bl j).toInt64 + (bh j).toInt64)
def absL (x : Int64) : Int64 := if 0 < x then x else -x
def maxL (x y : Int64) : Int64 := if y < x then x else y
def minL (x y : Int64) : Int64 := if y < x then y else x
/-- the minors that a scan with the row skip left out finds, whatever the array held -/
def mnF (M : Nat → Nat → Int32) (N skip : Nat) : Nat → Int64 := mnG M (fun _ => 0) N skip (2 ^ N - 1)
def detM (M : Nat → Nat → Int32) (N : Nat) : Int64 := mnF M N N (2 ^ N - 1)
def sg0 (d : Int64) (i : Nat) : Int64 := if (d < 0 ↔ i % 2 = 0) then -1 else 1
def sgS (s : Int64) : Nat → Int64
  | 0 => s
  | j + 1 => -(sgS s j)
def ivJ (M : Nat → Nat → Int32) (N : Nat) (s : Int64) (i : Nat) (iv : Nat → Nat → Int64) : Nat → (Nat → Nat → Int64)
  | 0 => iv
  | j + 1 => up2 (ivJ M N s i iv j) j i (sgS s j * mnF M N i ((2 ^ N - 1) ^^^ 2 ^ j))
def ivI (M : Nat → Nat → Int32) (N : Nat) (iv : Nat → Nat → Int64) : Nat → (Nat → Nat → Int64)
  | 0 => iv
  | i + 1 => ivJ M N (sg0 (detM M N) i) i (ivI M N iv i) N
/-- the inverse times the determinant's absolute value -/
def ivF (M : Nat → Nat → Int32) (N r c : Nat) : Int64 := sgS (sg0 (detM M N) c) r * mnF M N c ((2 ^ N - 1) ^^^ 2 ^ r)
/-- an end of a hull, times the scale: x where the weight is not negative, y where it is -/
def hul (w : Nat → Int64) (x y : Nat → Int32) : Nat → Int64
  | 0 => 0
  | j + 1 => hul w x y j + w j * (if w j < 0 then y j else x j).toInt64
def gcS (a b : Int64) : Nat → Int64 × Int64
  | 0 => (a, b)
  | k + 1 => if (gcS a b k).2 = 0 then gcS a b k else ((gcS a b k).2, (gcS a b k).1 - (gcS a b k).1 / (gcS a b k).2 * (gcS a b k).2)
def gcdC (a b : Int64) : Int64 := (gcS (absL a) (absL b) 100).1
def redC (a b : Int64) : Int64 := if gcdC a b = 0 then a else a / gcdC a b
def svJ (w : Int64) (sp : Nat → Int32) (s : Int64) : Nat → Int64
  | 0 => s
  | j + 1 => svJ w sp s j + absL w * (sp j).toInt64
def svK (w : Nat → Int64) (S : Nat → Nat → Int32) (N : Nat) : Nat → Int64
  | 0 => 0
  | k + 1 => svJ (w k) (S k) (svK w S N k) N
def svI (iv : Nat → Nat → Int64) (S : Nat → Nat → Int32) (N : Nat) : Nat → Int64
  | 0 => 0
  | i + 1 => maxL (svI iv S N i) (svK (iv i) S N N)
/-- what row i leaves to its own component: from 1024 r_i, x where the coefficient is negative, y where it isn't -/
def cbS (M : Nat → Nat → Int32) (r x y : Nat → Int32) (i : Nat) : Nat → Int64
  | 0 => 1024 * (r i).toInt64
  | j + 1 => if j = i then cbS M r x y i j else cbS M r x y i j - (M i j).toInt64 * (if (M i j).toInt64 < 0 then x j else y j).toInt64
def fdJ (x y : Int64) : Int64 := if (x ^^^ y) < 0 then (if x / y * y = x then x / y else x / y - 1) else x / y
def qd (x y : Int64) : Int64 := if y = 0 then 0 else fdJ x y
def qu (x y : Int64) : Int64 := -(qd (-x) y)
def itL (lo : Int64) (bl : Nat → Int32) (i : Nat) : Int64 := maxL lo (bl i).toInt64
def itH (hi : Int64) (bh : Nat → Int32) (i : Nat) : Int64 := minL hi (bh i).toInt64
/-- an intersection: its answer, and the box behind it -/
def itR (lo hi : Int64) (bl bh : Nat → Int32) (i : Nat) : Int32 := if itH hi bh i < itL lo bl i then -1 else if itL lo bl i = (bl i).toInt64 ∧ itH hi bh i = (bh i).toInt64 then 0 else 1
def itB (lo hi : Int64) (bl bh : Nat → Int32) (i : Nat) : (Nat → Int32) × (Nat → Int32) := if itH hi bh i < itL lo bl i then (bl, bh) else (upd bl i (itL lo bl i).toInt32, upd bh i (itH hi bh i).toInt32)
def cbLo (N : Nat) (M : Nat → Nat → Int32) (rl rh bl bh : Nat → Int32) (i : Nat) : Int64 := if (M i i).toInt64 < 0 then qd (cbS M rh bh bl i N) (M i i).toInt64 else qd (cbS M rl bl bh i N) (M i i).toInt64
def cbHi (N : Nat) (M : Nat → Nat → Int32) (rl rh bl bh : Nat → Int32) (i : Nat) : Int64 := if (M i i).toInt64 < 0 then qu (cbS M rl bl bh i N) (M i i).toInt64 else qu (cbS M rh bh bl i N) (M i i).toInt64
/-- a sweep, row by row: the box, how many have changed, whether none was empty -/
def swS (N : Nat) (M : Nat → Nat → Int32) (rl rh bl bh : Nat → Int32) : Nat → (Nat → Int32) × (Nat → Int32) × Int32 × Bool
  | 0 => (bl, bh, 0, true)
  | i + 1 =>
    match swS N M rl rh bl bh i with
    | (x, y, n, false) => (x, y, n, false)
    | (x, y, n, true) =>
      if M i i = 0 then (x, y, n + 0, true)
      else if itR (cbLo N M rl rh x y i) (cbHi N M rl rh x y i) x y i < 0 then (x, y, n, false)
      else ((itB (cbLo N M rl rh x y i) (cbHi N M rl rh x y i) x y i).1, (itB (cbLo N M rl rh x y i) (cbHi N M rl rh x y i) x y i).2, n + itR (cbLo N M rl rh x y i) (cbHi N M rl rh x y i) x y i, true)
def ix (p : Int32) : Nat := p.toNatClampNeg
abbrev ixP (N : Nat) (p : Int32) : Prop := 0 ≤ p ∧ p < nI N
/-- what a call answers for wrong arguments: the number of the exception in its order, 0 for none -/
def kIx (N : Nat) (p : Int32) : Int32 := if ixP N p then 0 else 1
def kIx2 (N : Nat) (p q : Int32) : Int32 := if ixP N p ∧ ixP N q then 0 else 1
def kSize (p : Int32) : Int32 := if 1 ≤ p ∧ p ≤ 5 then 0 else 1
def kIv (N : Nat) (p q lo hi : Int32) (b : Int32) : Int32 := if ixP N p then (if (-b ≤ lo ∧ hi ≤ b) ∧ lo ≤ hi then 0 else 2) else 1
def kVal (N : Nat) (p q v lo hi : Int32) : Int32 := if ixP N p ∧ ixP N q then (if lo ≤ v ∧ v ≤ hi then 0 else 2) else 1
def kInt (N : Nat) (p lo hi b : Int32) : Int32 := if ixP N p then (if (-b ≤ lo ∧ hi ≤ b) ∧ lo ≤ hi then 0 else 2) else 1
def onlyIf {α : Type} (k : Int32) (x y : α) : α := if k = 0 then x else y
theorem onlyIf_0 {α : Type} {k : Int32} {x y : α} (h : k = 0) : onlyIf k x y = x := if_pos h
theorem onlyIf_1 {α : Type} {k : Int32} {x y : α} (h : k ≠ 0) : onlyIf k x y = y := if_neg h
def dnJ (p q : Int64) : Int64 := if p / q * q = p then p / q else if (p < 0 ↔ q < 0) then p / q else p / q - 1
def upJ (p q : Int64) : Int64 := -(dnJ (-p) q)
def othR (a b x y : Int32) : Int32 := if a = x ∧ b = y then 0 else 1
/-- an intersection as the reference makes it: is something left, and the box -/
def ctL (bl : Nat → Int32) (i : Nat) (lo : Int64) : Int64 := maxL (bl i).toInt64 lo
def ctH (bh : Nat → Int32) (i : Nat) (hi : Int64) : Int64 := minL (bh i).toInt64 hi
def ctR (lo hi : Int64) (bl bh : Nat → Int32) (i : Nat) : Int32 := if ctH bh i hi < ctL bl i lo then 0 else 1
def ctB (lo hi : Int64) (bl bh : Nat → Int32) (i : Nat) : (Nat → Int32) × (Nat → Int32) := if ctH bh i hi < ctL bl i lo then (bl, bh) else (upd bl i (ctL bl i lo).toInt32, upd bh i (ctH bh i hi).toInt32)
def cyV (f g : Nat → Int32) : Nat → (Nat → Int32)
  | 0 => g
  | j + 1 => upd (cyV f g j) j (f j)
def cwL (M : Nat → Nat → Int32) (rl bl bh : Nat → Int32) (i : Nat) : Nat → Int64
  | 0 => 1024 * (rl i).toInt64
  | j + 1 => if j = i then cwL M rl bl bh i j else cwL M rl bl bh i j - maxL ((M i j).toInt64 * (bl j).toInt64) ((M i j).toInt64 * (bh j).toInt64)
def cwH (M : Nat → Nat → Int32) (rh bl bh : Nat → Int32) (i : Nat) : Nat → Int64
  | 0 => 1024 * (rh i).toInt64
  | j + 1 => if j = i then cwH M rh bl bh i j else cwH M rh bl bh i j - minL ((M i j).toInt64 * (bl j).toInt64) ((M i j).toInt64 * (bh j).toInt64)
def crLo (N : Nat) (M : Nat → Nat → Int32) (rl rh bl bh : Nat → Int32) (i : Nat) : Int64 := if 0 < (M i i).toInt64 then dnJ (cwL M rl bl bh i N) (M i i).toInt64 else dnJ (cwH M rh bl bh i N) (M i i).toInt64
def crHi (N : Nat) (M : Nat → Nat → Int32) (rl rh bl bh : Nat → Int32) (i : Nat) : Int64 := if 0 < (M i i).toInt64 then upJ (cwH M rh bl bh i N) (M i i).toInt64 else upJ (cwL M rl bl bh i N) (M i i).toInt64
/-- the answer of judge: the box put back where it is empty, the changes counted -/
def jdC (x y fl fh : Nat → Int32) : Nat → Int32
  | 0 => 0
  | j + 1 => jdC x y fl fh j + (if x j = fl j ∧ y j = fh j then 0 else 1)
def jdF (x y fl fh : Nat → Int32) : Nat → Int32
  | 0 => 0
  | j + 1 => jdF x y fl fh j + (if cyV fl x (j + 1) j = fl j ∧ cyV fh y (j + 1) j = fh j then 0 else 1)
def slS (M : Nat → Nat → Int32) (x : Nat → Int64) (i : Nat) : Nat → Int64
  | 0 => 0
  | j + 1 => slS M x i j + (M i j).toInt64 * x j
def absI (x : Int32) : Int32 := if 0 ≤ x then x else 0 - x
def dgO (M S : Nat → Nat → Int32) (i : Nat) : Nat → Int32
  | 0 => 0
  | j + 1 => if j = i then dgO M S i j else dgO M S i j + (100 * absI (M i j) + S i j)
def dgR (s : Int64) (f : Nat → Int32) : Nat → Int64
  | 0 => s
  | j + 1 => dgR s f j * 31 + (f j).toInt64
def dgI (M S : Nat → Nat → Int32) (rl rh : Nat → Int32) (N : Nat) (s : Int64) : Nat → Int64
  | 0 => s
  | i + 1 => (dgR (dgR (dgI M S rl rh N s i) (M i) N) (S i) N * 31 + (rl i).toInt64) * 31 + (rh i).toInt64
def dgB (bl bh : Nat → Int32) (s : Int64) : Nat → Int64
  | 0 => s
  | i + 1 => (dgB bl bh s i * 31 + (bl i).toInt64) * 31 + (bh i).toInt64
def kOf (skip i : Nat) : Nat := if i ≤ skip then i else i - 1
/-- one column set's expansion in the reference's order -/
def psS (M : Nat → Nat → Int32) (pt : Nat → Int64) (i mask : Nat) : Nat → Int64
  | 0 => 0
  | j + 1 => if mask.testBit j then psS M pt i mask j + (if pop5 (mask / 2 ^ (j + 1)) % 2 = 0 then (M i j).toInt64 * pt (mask ^^^ 2 ^ j) else -((M i j).toInt64 * pt (mask ^^^ 2 ^ j))) else psS M pt i mask j
def pt0 (pt : Nat → Int64) : Nat → (Nat → Int64)
  | 0 => pt
  | k + 1 => vp_updL (pt0 pt k) k (if k = 0 then 1 else 0)
def cofM (M : Nat → Nat → Int32) (N i j : Nat) : Int64 := if (i + j) % 2 = 0 then mnF M N j ((2 ^ N - 1) ^^^ 2 ^ i) else -mnF M N j ((2 ^ N - 1) ^^^ 2 ^ i)
/-- the reference's sweep, row by row: the box, and whether none was empty -/
def rsS (N : Nat) (M : Nat → Nat → Int32) (rl rh bl bh : Nat → Int32) : Nat → (Nat → Int32) × (Nat → Int32) × Bool
  | 0 => (bl, bh, true)
  | i + 1 =>
    match rsS N M rl rh bl bh i with
    | (x, y, false) => (x, y, false)
    | (x, y, true) =>
      if M i i = 0 then (x, y, true)
      else if ctR (crLo N M rl rh x y i) (crHi N M rl rh x y i) x y i = 0 then (x, y, false)
      else ((ctB (crLo N M rl rh x y i) (crHi N M rl rh x y i) x y i).1, (ctB (crLo N M rl rh x y i) (crHi N M rl rh x y i) x y i).2, true)
/-- a whole sweep, on either side: the answer and the box -/
def sw0 (N : Nat) (M : Nat → Nat → Int32) (rl rh : Nat → Int32) (z : (Nat → Int32) × (Nat → Int32)) : Int32 × (Nat → Int32) × (Nat → Int32) :=
  if (swS N M rl rh z.1 z.2 N).2.2.2 = true then ((swS N M rl rh z.1 z.2 N).2.2.1, (swS N M rl rh z.1 z.2 N).1, (swS N M rl rh z.1 z.2 N).2.1) else (-1, z.1, z.2)
def sw1 (N : Nat) (M : Nat → Nat → Int32) (rl rh : Nat → Int32) (z : (Nat → Int32) × (Nat → Int32)) : Int32 × (Nat → Int32) × (Nat → Int32) :=
  if (rsS N M rl rh z.1 z.2 N).2.2 = true then (jdC (rsS N M rl rh z.1 z.2 N).1 (rsS N M rl rh z.1 z.2 N).2.1 z.1 z.2 N, (rsS N M rl rh z.1 z.2 N).1, (rsS N M rl rh z.1 z.2 N).2.1) else (-1, z.1, z.2)
/-- sweeps until one changes nothing or is empty, at most so many more; k have been made -/
def cnS (sw : (Nat → Int32) × (Nat → Int32) → Int32 × (Nat → Int32) × (Nat → Int32)) : Nat → Nat → (Nat → Int32) × (Nat → Int32) → Int32 × (Nat → Int32) × (Nat → Int32)
  | 0, k, z => (nI k, z.1, z.2)
  | r + 1, k, z => if (sw z).1 < 0 then (-(nI (k + 1)), (sw z).2) else if (sw z).1 = 0 then (nI (k + 1), (sw z).2) else cnS sw r (k + 1) (sw z).2
def kCon (p : Int32) : Int32 := if 1 ≤ p ∧ p ≤ 1000 then 0 else 1
def vec5 (p0 p1 p2 p3 p4 : Int32) : Nat → Int32
  | 0 => p0
  | 1 => p1
  | 2 => p2
  | 3 => p3
  | _ => p4
def solR (N : Nat) (M : Nat → Nat → Int32) (rl rh : Nat → Int32) (x : Nat → Int64) : Int32 := if ∀ i, i < N → ((rl i).toInt64 ≤ slS M x i N ∧ slS M x i N ≤ (rh i).toInt64) then 1 else 0
def minI (x y : Int32) : Int32 := if y < x then y else x
def maxI (x y : Int32) : Int32 := if x < y then y else x
def arLo (rl rh : Nat → Int32) (i k : Nat) (f : Int32) : Int32 := rl i + minI (f * rl k) (f * rh k)
def arHi (rl rh : Nat → Int32) (i k : Nat) (f : Int32) : Int32 := rh i + maxI (f * rl k) (f * rh k)
abbrev arF (N : Nat) (M : Nat → Nat → Int32) (rl rh : Nat → Int32) (i k : Nat) (f : Int32) : Prop := (-999 ≤ arLo rl rh i k f ∧ arHi rl rh i k f ≤ 999 ∧ arLo rl rh i k f ≤ 999 ∧ -999 ≤ arHi rl rh i k f) ∧ ∀ j, j < N → absI (M i j + f * M k j) ≤ 99
def kAdd (N : Nat) (M : Nat → Nat → Int32) (rl rh : Nat → Int32) (p q f : Int32) : Int32 := if ixP N p ∧ ixP N q then (if ¬ p = q ∧ -99 ≤ f ∧ f ≤ 99 then (if arF N M rl rh (ix p) (ix q) f then 0 else 3) else 2) else 1
def domR (N : Nat) (M S : Nat → Nat → Int32) : Int32 := if ∀ i, i < N → dgO M S i N < 100 * absI (M i i) - S i i then 1 else 0
def neI (p q : Int32) : Int32 := if p = q then 0 else 1
abbrev jL (x : Nat) : Int64 := Int64.ofNat x
/-- a fraction in lowest terms, as the reference makes it -/
def gcN (t b : Int64) : Int64 := jL (Nat.gcd (absL t).toNatClampNeg (absL b).toNatClampNeg)
def rdN (t b : Int64) : Int64 := (if b < 0 then -t else t) / gcN t b
def rdD (t b : Int64) : Int64 := absL b / gcN t b
def feE (c d : Int64) : Int32 := if (0 < c ↔ 0 < d) then 1 else 0
/-- the end of a hull times the determinant, as the reference sums it; hi is 1 for the high end, else 0 -/
def feS (N : Nat) (M : Nat → Nat → Int32) (rl rh : Nat → Int32) (i : Nat) (hi : Int32) : Nat → Int64
  | 0 => 0
  | k + 1 => feS N M rl rh i hi k + cofM M N i k * (if feE (cofM M N i k) (detM M N) = hi then rh k else rl k).toInt64
def kDet (N : Nat) (M : Nat → Nat → Int32) : Int32 := if detM M N = 0 then 1 else 0
def kHul (N : Nat) (M : Nat → Nat → Int32) (p : Int32) : Int32 := if ixP N p then (if detM M N = 0 then 2 else 0) else 1
def kHul2 (N : Nat) (M : Nat → Nat → Int32) (p q : Int32) : Int32 := if ixP N p ∧ ixP N q then (if detM M N = 0 then 2 else 0) else 1
def fvK (M S : Nat → Nat → Int32) (N i j : Nat) (s : Int64) : Nat → Int64
  | 0 => s
  | k + 1 => fvK M S N i j s k + absL (cofM M N i k) * (S k j).toInt64
def fvJ (M S : Nat → Nat → Int32) (N i : Nat) : Nat → Int64
  | 0 => 0
  | j + 1 => fvK M S N i j (fvJ M S N i j) N
def fvI (M S : Nat → Nat → Int32) (N : Nat) : Nat → Int64
  | 0 => 0
  | i + 1 => maxL (fvI M S N i) (fvJ M S N i N)
def heN (N : Nat) (M : Nat → Nat → Int32) (rl rh : Nat → Int32) (i : Nat) (hi : Int32) : Int64 := rdN (feS N M rl rh i hi N) (detM M N)
def heD (N : Nat) (M : Nat → Nat → Int32) (rl rh : Nat → Int32) (i : Nat) (hi : Int32) : Int64 := rdD (feS N M rl rh i hi N) (detM M N)
def hlJ (N : Nat) (M : Nat → Nat → Int32) (rl rh : Nat → Int32) (i : Nat) : Int64 := dnJ (1024 * heN N M rl rh i 0) (heD N M rl rh i 0)
def hhJ (N : Nat) (M : Nat → Nat → Int32) (rl rh : Nat → Int32) (i : Nat) : Int64 := upJ (1024 * heN N M rl rh i 1) (heD N M rl rh i 1)
/-- the reference's sharpening, component by component -/
def rhS (N : Nat) (M : Nat → Nat → Int32) (rl rh bl bh : Nat → Int32) : Nat → (Nat → Int32) × (Nat → Int32) × Bool
  | 0 => (bl, bh, true)
  | i + 1 =>
    match rhS N M rl rh bl bh i with
    | (x, y, false) => (x, y, false)
    | (x, y, true) =>
      if ctR (hlJ N M rl rh i) (hhJ N M rl rh i) x y i = 0 then (x, y, false)
      else ((ctB (hlJ N M rl rh i) (hhJ N M rl rh i) x y i).1, (ctB (hlJ N M rl rh i) (hhJ N M rl rh i) x y i).2, true)
def sh1 (N : Nat) (M : Nat → Nat → Int32) (rl rh : Nat → Int32) (z : (Nat → Int32) × (Nat → Int32)) : Int32 × (Nat → Int32) × (Nat → Int32) :=
  if (rhS N M rl rh z.1 z.2 N).2.2 = true then (jdC (rhS N M rl rh z.1 z.2 N).1 (rhS N M rl rh z.1 z.2 N).2.1 z.1 z.2 N, (rhS N M rl rh z.1 z.2 N).1, (rhS N M rl rh z.1 z.2 N).2.1) else (-1, z.1, z.2)
abbrev ceP (N : Nat) (M : Nat → Nat → Int32) (rl rh bl bh : Nat → Int32) (n : Nat) : Prop := ∀ i, i < n → ((bl i).toInt64 ≤ hlJ N M rl rh i ∧ hhJ N M rl rh i ≤ (bh i).toInt64)
def cnR (M : Nat → Nat → Int32) (i : Nat) : Nat → Int32
  | 0 => 0
  | j + 1 => cnR M i j + absI (M i j)
def cnC (M : Nat → Nat → Int32) (N i : Nat) : Nat → Int64
  | 0 => 0
  | j + 1 => cnC M N i j + absL (cofM M N i j)
def cnX (M : Nat → Nat → Int32) (N : Nat) : Nat → Int32
  | 0 => 0
  | i + 1 => maxI (cnX M N i) (cnR M i N)
def cnY (M : Nat → Nat → Int32) (N : Nat) : Nat → Int64
  | 0 => 0
  | i + 1 => maxL (cnY M N i) (cnC M N i N)
def cnQ (M : Nat → Nat → Int32) (N : Nat) : UInt64 := FP.ddiv (FP.l2d (cnY M N N)) (FP.l2d (absL (detM M N)))
def cnD (M : Nat → Nat → Int32) (N : Nat) : UInt64 := FP.dmul (FP.i2d (cnX M N N)) (cnQ M N)
/-- what the reference's fractions need of the system -/
def okM (N : Nat) (M S : Nat → Nat → Int32) (rl rh : Nat → Int32) : Prop :=
  (¬ detM M N = 0 → 0 < absL (detM M N) ∧ 0 < absL (100 * absL (detM M N)) ∧ vf_n64 (cnQ M N) ∧ vf_n64 (cnD M N)) ∧
  (∀ i hi, i < N → 0 ≤ absL (feS N M rl rh i hi N)) ∧ (∀ i j, i < N → j < N → 0 ≤ absL (cofM M N i j)) ∧ 0 ≤ absL (fvI M S N N)
