/-! bits of small numbers -/
theorem bt_shl : ∀ j, j < 6 → (1 : Int32) <<< (nI j &&& 31) = nI (2 ^ j) := by decide +kernel
theorem bt_and : ∀ m, m < 32 → ∀ j, j < 5 → (nI m &&& nI (2 ^ j) = 0 ↔ m.testBit j = false) := by decide +kernel
theorem bt_xor : ∀ m, m < 32 → ∀ j, j < 5 → nI m ^^^ nI (2 ^ j) = nI (m ^^^ 2 ^ j) := by decide +kernel
theorem bt_xlt : ∀ m, m < 32 → ∀ j, j < 5 → m ^^^ 2 ^ j < 32 := by decide +kernel
theorem bt_all : ∀ N, N < 6 → (1 : Int32) <<< (nI N &&& 31) - 1 = nI (2 ^ N - 1) := by decide +kernel
theorem bt_p2 : ∀ N, N < 6 → 2 ^ N ≤ 32 := by decide
theorem bt_p1 (N : Nat) : 1 ≤ 2 ^ N := Nat.one_le_two_pow
def bcE (x : Int32) : Int32 :=
  let a := x - ((x.toUInt32 >>> ((1 : Int32).toUInt32 &&& Int32.toUInt32 31)).toInt32 &&& 1431655765)
  let b := (a &&& 858993459) + ((a.toUInt32 >>> ((2 : Int32).toUInt32 &&& Int32.toUInt32 31)).toInt32 &&& 858993459)
  let c := (b + (b.toUInt32 >>> ((4 : Int32).toUInt32 &&& Int32.toUInt32 31)).toInt32) &&& 252645135
  let d := c + (c.toUInt32 >>> ((8 : Int32).toUInt32 &&& Int32.toUInt32 31)).toInt32
  let e := d + (d.toUInt32 >>> ((16 : Int32).toUInt32 &&& Int32.toUInt32 31)).toInt32
  e &&& 63
theorem bcE_small : ∀ c, c < 32 → bcE (nI c) = nI (pop5 c) := by decide +kernel
theorem pop5_pos : ∀ c, c < 32 → 0 < c → 0 < pop5 c := by decide +kernel
theorem pop5_le : ∀ c, pop5 c ≤ 5 := fun c => by unfold pop5; omega
theorem pop5_lt : ∀ N, N < 6 → ∀ c, c < 2 ^ N → pop5 c ≤ N := by decide +kernel
theorem zi0 {P : Prop} {dP : Decidable P} : (if P then (1 : Int32) else 0) = 0 ↔ ¬ P := by by_cases h : P <;> simp [h]
theorem zi1 {P : Prop} {dP : Decidable P} : ¬ (if P then (1 : Int32) else 0) = 0 ↔ P := by by_cases h : P <;> simp [h]
