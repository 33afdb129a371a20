/-! what the methods compute, as functions over the state; both sides speak of these -/
def rowz (M : Nat → Nat → Int32) (i : Nat) : Nat → (Nat → Nat → Int32)
  | 0 => M
  | j + 1 => up2 (rowz M i j) i j 0
def matz (M : Nat → Nat → Int32) : Nat → (Nat → Nat → Int32)
  | 0 => M
  | i + 1 => rowz (matz M i) i 5
def vecz (f : Nat → Int32) (x : Int32) : Nat → (Nat → Int32)
  | 0 => f
  | i + 1 => upd (vecz f x i) i x
/-- rows i and k of a matrix, exchanged column by column -/
def swpM (M : Nat → Nat → Int32) (i k : Nat) : Nat → (Nat → Nat → Int32)
  | 0 => M
  | j + 1 => up2 (up2 (swpM M i k j) i j (swpM M i k j k j)) k j (swpM M i k j i j)
def swpV (f : Nat → Int32) (i k : Nat) : Nat → Int32 := upd (upd f i (f k)) k (f i)
/-- row i with the multiple of row k, column by column; how many columns have changed -/
def acM (M : Nat → Nat → Int32) (i k : Nat) (fac : Int32) : Nat → (Nat → Nat → Int32)
  | 0 => M
  | j + 1 => up2 (acM M i k fac j) i j (acM M i k fac j i j + fac * acM M i k fac j k j)
def acC (M : Nat → Nat → Int32) (i k : Nat) (fac : Int32) : Nat → Int32
  | 0 => 0
  | j + 1 => acC M i k fac j + (if fac * acM M i k fac j k j = 0 then 0 else 1)
def pLow (fac lo hi : Int32) : Int32 := fac * (if fac < 0 then hi else lo)
def pHigh (fac lo hi : Int32) : Int32 := fac * (if fac < 0 then lo else hi)
/-- one column of an expansion: (sum, sign) -/
def exS (M : Nat → Nat → Int32) (mn : Nat → Int64) (N row cols : Nat) : Nat → Int64 × Int64
  | 0 => (0, 1)
  | c + 1 => if cols.testBit (N - c - 1) then ((exS M mn N row cols c).1 + (exS M mn N row cols c).2 * (M row (N - c - 1)).toInt64 * mn (cols ^^^ 2 ^ (N - c - 1)), -(exS M mn N row cols c).2) else exS M mn N row cols c
/-- how many bits of the lowest five -/
def pop5 (c : Nat) : Nat := c % 2 + c / 2 % 2 + c / 4 % 2 + c / 8 % 2 + c / 16 % 2
def rowOf (skip c : Nat) : Nat := if skip ≤ pop5 c - 1 then pop5 c - 1 + 1 else pop5 c - 1
/-- the minors, set of columns by set of columns: those up to k are there -/
def mnG (M : Nat → Nat → Int32) (mn : Nat → Int64) (N skip : Nat) : Nat → (Nat → Int64)
  | 0 => vp_updL mn 0 1
  | k + 1 => vp_updL (mnG M mn N skip k) (k + 1) (if rowOf skip (k + 1) < N then (exS M (mnG M mn N skip k) N (rowOf skip (k + 1)) (k + 1) N).1 else 0)
def mdS (M : Nat → Nat → Int32) (bl bh : Nat → Int32) (i : Nat) : Nat → Int64
  | 0 => 0
  | j + 1 => mdS M bl bh i j + (M i j).toInt64 * ((bl j).toInt64 + (bh j).toInt64)
