/-! fractions in lowest terms: the class's and the reference's -/
theorem absL_nat {x : Int64} {a : Nat} (hx : x.toInt.natAbs ≤ a) (h : a < 9223372036854775808) : absL x = jL x.toInt.natAbs ∧ (absL x).toNatClampNeg = x.toInt.natAbs := by
  have e := B_abs hx h
  have h2 : absL x = jL x.toInt.natAbs := by rw [l_eq, e, l_nat (by omega)]
  refine ⟨h2, ?_⟩
  show (absL x).toInt.toNat = _
  rw [e]; rfl
theorem gcdC_nat {x y : Int64} {a b : Nat} (hx : x.toInt.natAbs ≤ a) (hy : y.toInt.natAbs ≤ b) (ha : a < 9223372036854775808) (hb : b < 9223372036854775808) (hm : a < 2 ^ 49 ∨ b < 2 ^ 49) : gcdC x y = jL (Nat.gcd x.toInt.natAbs y.toInt.natAbs) := by
  show (gcS (absL x) (absL y) 100).1 = _
  rw [(absL_nat hx ha).1, (absL_nat hy hb).1]
  exact gcd_ok (by omega) (by omega) (by omega)
theorem gcN_nat {x y : Int64} {a b : Nat} (hx : x.toInt.natAbs ≤ a) (hy : y.toInt.natAbs ≤ b) (ha : a < 9223372036854775808) (hb : b < 9223372036854775808) : gcN x y = jL (Nat.gcd x.toInt.natAbs y.toInt.natAbs) := by
  unfold gcN
  rw [(absL_nat hx ha).2, (absL_nat hy hb).2]
theorem gcd_ne {x y : Nat} (hy : ¬ y = 0) (h : y < 2 ^ 63) : ¬ jL (Nat.gcd x y) = 0 := fun q => by
  have h1 : Nat.gcd x y ≤ y := Nat.gcd_le_right _ (by omega)
  have h2 := (jL_0 (by omega)).mp q
  have h3 : 0 < Nat.gcd x y := Nat.gcd_pos_of_pos_right _ (by omega)
  omega
/-- numerators -/
theorem red_num {d x : Int64} {a b : Nat} (hx : x.toInt.natAbs ≤ a) (hd : d.toInt.natAbs ≤ b) (ha : a < 9223372036854775808) (hb : b < 9223372036854775808) (hm : a < 2 ^ 49 ∨ b < 2 ^ 49) (h0 : ¬ d = 0) : redC (sgd d x) (absL d) = rdN x d := by
  have hdn : ¬ d.toInt.natAbs = 0 := fun q => h0 (l_z.mpr (by omega))
  have ha2 : (absL d).toInt.natAbs = d.toInt.natAbs := by rw [B_abs hd hb]; rfl
  have g := gcdC_nat (x := sgd d x) (y := absL d) (sgd_bd hx ha) (by rw [ha2]; exact hd) ha hb hm
  rw [sgd_abs hx ha, ha2] at g
  have gn := gcN_nat hx hd ha hb
  have hz := gcd_ne (x := x.toInt.natAbs) hdn (by omega)
  have e : redC (sgd d x) (absL d) = sgd d x / jL (Nat.gcd x.toInt.natAbs d.toInt.natAbs) := by
    unfold redC
    rw [g, if_neg hz]
  rw [e]
  unfold rdN
  rw [gn]
  rfl
/-- denominators -/
theorem red_den {d x : Int64} {a b : Nat} (hx : x.toInt.natAbs ≤ a) (hd : d.toInt.natAbs ≤ b) (ha : a < 9223372036854775808) (hb : b < 9223372036854775808) (hm : a < 2 ^ 49 ∨ b < 2 ^ 49) (h0 : ¬ d = 0) : redC (absL d) (sgd d x) = rdD x d := by
  have hdn : ¬ d.toInt.natAbs = 0 := fun q => h0 (l_z.mpr (by omega))
  have ha2 : (absL d).toInt.natAbs = d.toInt.natAbs := by rw [B_abs hd hb]; rfl
  have g := gcdC_nat (x := absL d) (y := sgd d x) (by rw [ha2]; exact hd) (sgd_bd hx ha) hb ha hm.symm
  rw [sgd_abs hx ha, ha2, Nat.gcd_comm] at g
  have gn := gcN_nat hx hd ha hb
  have hz := gcd_ne (x := x.toInt.natAbs) hdn (by omega)
  have e : redC (absL d) (sgd d x) = absL d / jL (Nat.gcd x.toInt.natAbs d.toInt.natAbs) := by
    unfold redC
    rw [g, if_neg hz]
  rw [e]
  unfold rdD
  rw [gn]
/-! quotients -/
theorem fd_dn {x y : Int64} : fdJ x y = dnJ x y := by
  unfold fdJ dnJ
  have hx : ((x ^^^ y) < 0) ↔ ¬ (x < 0 ↔ y < 0) := by
    have h1 : ∀ z : Int64, (z < 0) ↔ z.toBitVec.msb = true := fun z => by
      rw [Int64.lt_iff_toInt_lt]
      show z.toBitVec.toInt < 0 ↔ _
      rw [BitVec.msb_eq_toInt]
      simp
    rw [h1, h1, h1, Int64.toBitVec_xor, BitVec.msb_xor]
    cases x.toBitVec.msb <;> cases y.toBitVec.msb <;> decide
  by_cases h : x / y * y = x
  · rw [if_pos h, if_pos h]; split <;> rfl
  · rw [if_neg h]
    by_cases q : (x < 0 ↔ y < 0)
    · rw [if_neg (fun z => hx.mp z q), if_neg h, if_pos q]
    · rw [if_pos (hx.mpr q), if_neg h, if_neg q]
theorem qd_dn {x y : Int64} (h : ¬ y = 0) : qd x y = dnJ x y := by
  unfold qd; rw [if_neg h, fd_dn]
theorem qu_up {x y : Int64} (h : ¬ y = 0) : qu x y = upJ x y := by
  unfold qu upJ; rw [qd_dn h]
theorem dn_fl {x y : Int64} {a : Nat} (hx : x.toInt.natAbs ≤ a) (ha : a < 4611686018427387904) (hy : 0 < y) : (dnJ x y).toInt = x.toInt.fdiv y.toInt ∧ (dnJ x y).toInt.natAbs ≤ a + 1 := by
  have z : (0 : Int64).toInt = 0 := rfl
  have hyp := l_lt.mp hy
  rw [z] at hyp
  have hq := l_div (x := x) (y := y) (by omega)
  have hqa : (x / y).toInt.natAbs ≤ a := by
    rw [hq, Int.natAbs_tdiv]
    exact Nat.le_trans (Nat.div_le_self _ _) hx
  have hmod := Int.tmod_def x.toInt y.toInt
  have hm1 : (x / y * y).toInt = x.toInt.tdiv y.toInt * y.toInt := by
    have hbd : (x.toInt.tdiv y.toInt * y.toInt).natAbs ≤ a := by
      rw [Int.natAbs_mul, Int.natAbs_tdiv]
      exact Nat.le_trans (Nat.div_mul_le_self _ _) hx
    rw [l_mul (by rw [hq]; omega) (by rw [hq]; omega), hq]
  have hc : (x / y * y = x) ↔ x.toInt.tmod y.toInt = 0 := by
    rw [l_eq, hm1, Int.mul_comm]
    omega
  have hfl : x.toInt.fdiv y.toInt = if x.toInt.tmod y.toInt = 0 ∨ 0 ≤ x.toInt then x.toInt.tdiv y.toInt else x.toInt.tdiv y.toInt - 1 := by
    rw [Int.fdiv_eq_ediv_of_nonneg _ (by omega)]
    by_cases h1 : 0 ≤ x.toInt
    · rw [if_pos (Or.inr h1), Int.tdiv_eq_ediv_of_nonneg h1]
    · by_cases h2 : x.toInt.tmod y.toInt = 0
      · rw [if_pos (Or.inl h2)]
        have hdv := Int.dvd_of_tmod_eq_zero h2
        exact (Int.tdiv_eq_ediv_of_dvd hdv).symm
      · rw [if_neg (by omega)]
        rw [Int.tdiv_eq_ediv]
        have hnd : ¬ y.toInt ∣ x.toInt := fun q => h2 (Int.tmod_eq_zero_of_dvd q)
        rw [if_neg (by rintro (q | q); exact h1 q; exact hnd q), Int.sign_eq_one_of_pos hyp]
        omega
  unfold dnJ
  by_cases h1 : x / y * y = x
  · rw [if_pos h1, hfl, if_pos (Or.inl (hc.mp h1)), hq]
    exact ⟨rfl, by rw [← hq]; omega⟩
  · rw [if_neg h1]
    by_cases h2 : (x < 0 ↔ y < 0)
    · rw [if_pos h2]
      have hnx : 0 ≤ x.toInt := by
        have := mt h2.mp (by rw [l_lt, z]; omega)
        rw [l_lt, z] at this; omega
      rw [hfl, if_pos (Or.inr hnx), hq]
      exact ⟨rfl, by rw [← hq]; omega⟩
    · rw [if_neg h2]
      have hnx : ¬ 0 ≤ x.toInt := fun q => h2 ⟨fun w => by rw [l_lt, z] at w; omega, fun w => by rw [l_lt, z] at w; omega⟩
      have hs := B_sub (x := x / y) (y := 1) (a := a) (b := 1) hqa (by decide) (by omega)
      rw [hs.1, hfl, if_neg (by rintro (q | q); exact h1 (hc.mpr q); exact hnx q), hq]
      exact ⟨rfl, by rw [← hq]; have : (1 : Int64).toInt = 1 := rfl; omega⟩
