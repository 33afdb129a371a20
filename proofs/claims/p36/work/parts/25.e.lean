/-! bounds: no sum leaves the range of a long -/
theorem nm {x y : Int} {a b : Nat} (hx : x.natAbs ≤ a) (hy : y.natAbs ≤ b) : (x * y).natAbs ≤ a * b := by
  rw [Int.natAbs_mul]; exact Nat.mul_le_mul hx hy
theorem B_mul {x y : Int64} {a b : Nat} (hx : x.toInt.natAbs ≤ a) (hy : y.toInt.natAbs ≤ b) (h : a * b < 9223372036854775808) : (x * y).toInt = x.toInt * y.toInt ∧ (x * y).toInt.natAbs ≤ a * b := by
  have h1 := nm hx hy
  have e := l_mul (x := x) (y := y) (by omega) (by omega)
  exact ⟨e, by rw [e]; exact h1⟩
theorem B_add {x y : Int64} {a b : Nat} (hx : x.toInt.natAbs ≤ a) (hy : y.toInt.natAbs ≤ b) (h : a + b < 9223372036854775808) : (x + y).toInt = x.toInt + y.toInt ∧ (x + y).toInt.natAbs ≤ a + b := by
  have e := l_add (x := x) (y := y) (by omega) (by omega)
  exact ⟨e, by rw [e]; omega⟩
theorem B_sub {x y : Int64} {a b : Nat} (hx : x.toInt.natAbs ≤ a) (hy : y.toInt.natAbs ≤ b) (h : a + b < 9223372036854775808) : (x - y).toInt = x.toInt - y.toInt ∧ (x - y).toInt.natAbs ≤ a + b := by
  have e := l_sub (x := x) (y := y) (by omega) (by omega)
  exact ⟨e, by rw [e]; omega⟩
theorem B_neg {x : Int64} {a : Nat} (hx : x.toInt.natAbs ≤ a) (h : a < 9223372036854775808) : (-x).toInt = -x.toInt ∧ (-x).toInt.natAbs ≤ a := by
  have e := l_neg (x := x) (by omega)
  exact ⟨e, by rw [e]; omega⟩
theorem B_32 (x : Int32) : x.toInt64.toInt = x.toInt := Int32.toInt_toInt64 x
theorem B_abs {x : Int64} {a : Nat} (hx : x.toInt.natAbs ≤ a) (h : a < 9223372036854775808) : (absL x).toInt = (x.toInt.natAbs : Int) := by
  unfold absL
  have z : (0 : Int64).toInt = 0 := rfl
  by_cases c : 0 < x
  · rw [if_pos c]; have := l_lt.mp c; omega
  · rw [if_neg c, (B_neg hx h).1]; have := mt l_lt.mpr c; omega
theorem exS_bd {M : Nat → Nat → Int32} {mn : Nat → Int64} {N row cols : Nat} {B : Nat} (hN : N ≤ 5) (hM : ∀ j, j < 5 → (M row j).toInt.natAbs ≤ 99) (hB : ∀ j, j < N → cols.testBit j = true → (mn (cols ^^^ 2 ^ j)).toInt.natAbs ≤ B) (hb : 495 * B < 9223372036854775808) : ∀ k, k ≤ N → (exS M mn N row cols k).1.toInt.natAbs ≤ k * (99 * B) ∧ (exS M mn N row cols k).2.toInt.natAbs ≤ 1
  | 0, _ => ⟨by show (0 : Int64).toInt.natAbs ≤ _; exact Nat.zero_le _, by show (1 : Int64).toInt.natAbs ≤ 1; decide⟩
  | k + 1, hk => by
    obtain ⟨h1, h2⟩ := exS_bd hN hM hB hb k (by omega)
    rw [exS_succ]
    have hs : (k + 1) * (99 * B) = k * (99 * B) + 99 * B := Nat.succ_mul k (99 * B)
    have hk5 : k * (99 * B) ≤ 4 * (99 * B) := Nat.mul_le_mul_right _ (by omega)
    by_cases hbit : cols.testBit (N - k - 1) = true
    · rw [if_pos hbit]
      have m1 := B_mul (x := (exS M mn N row cols k).2) (y := (M row (N - k - 1)).toInt64) (a := 1) (b := 99) h2 (by rw [B_32]; exact hM _ (by omega)) (by omega)
      have m2 := B_mul (x := (exS M mn N row cols k).2 * (M row (N - k - 1)).toInt64) (y := mn (cols ^^^ 2 ^ (N - k - 1))) (a := 1 * 99) (b := B) m1.2 (hB _ (by omega) hbit) (by omega)
      have m3 := B_add h1 m2.2 (by omega)
      exact ⟨by rw [hs]; exact Nat.le_trans m3.2 (by omega), (B_neg h2 (by omega)).2⟩
    · rw [if_neg hbit]
      exact ⟨by omega, h2⟩
def bN : Nat → Nat
  | 0 => 1
  | n + 1 => 495 * bN n
theorem mn_bd {M : Nat → Nat → Int32} {N skip : Nat} (hN : N ≤ 5) (hM : ∀ i j, i < 5 → j < 5 → (M i j).toInt.natAbs ≤ 99) : ∀ n c, n ≤ 5 → c ≤ 2 ^ N - 1 → pop5 c = n → (mnF M N skip c).toInt.natAbs ≤ bN n
  | 0, c, _, hc, hp => by
    have h2 := bt_p2 N (by omega)
    have h3 := bt_p1 N
    have : c = 0 := Nat.eq_zero_of_not_pos (fun q => absurd (pop5_pos c (by omega) q) (by omega))
    subst this
    rw [mnF_0]; decide
  | n + 1, c, hn, hc, hp => by
    have h2 := bt_p2 N (by omega)
    have h3 := bt_p1 N
    have h0 : 0 < c := by
      rcases Nat.eq_zero_or_pos c with q | q
      · subst q; exact absurd hp (by have : pop5 0 = 0 := rfl; omega)
      · exact q
    rw [mnF_eq M N skip h0 hc]
    have hb5 : ∀ n, n ≤ 4 → 495 * bN n < 9223372036854775808 := by decide
    by_cases hr : rowOf skip c < N
    · rw [if_pos hr]
      have hx := (exS_bd (mn := mnF M N skip) (row := rowOf skip c) (cols := c) (B := bN n) hN (fun j hj => hM _ j (by omega) hj) (fun j hj hbit => mn_bd hN hM n _ (by omega) (by have := xor_lt_of_bit hbit; omega) (by have := bt_px c (by omega) j (by omega) hbit; omega)) (hb5 n (by omega)) N (Nat.le_refl _)).1
      refine Nat.le_trans hx ?_
      show N * (99 * bN n) ≤ 495 * bN n
      calc N * (99 * bN n) ≤ 5 * (99 * bN n) := Nat.mul_le_mul_right _ hN
        _ = 495 * bN n := by omega
    · rw [if_neg hr]; exact Nat.zero_le _
theorem det_bd {M : Nat → Nat → Int32} {N : Nat} (hN : N ≤ 5) (hM : ∀ i j, i < 5 → j < 5 → (M i j).toInt.natAbs ≤ 99) : (detM M N).toInt.natAbs ≤ 29718439059375 := by
  have h := mn_bd (skip := N) hN hM N (2 ^ N - 1) hN (Nat.le_refl _) (bt_fmN N (by omega)).1
  have hb : ∀ n, n ≤ 5 → bN n ≤ 29718439059375 := by decide
  exact Nat.le_trans h (hb N hN)
theorem mc_bd {M : Nat → Nat → Int32} {N r c : Nat} (hN : N ≤ 5) (hM : ∀ i j, i < 5 → j < 5 → (M i j).toInt.natAbs ≤ 99) (hr : r < N) : (mnF M N c ((2 ^ N - 1) ^^^ 2 ^ r)).toInt.natAbs ≤ 60037250625 := by
  obtain ⟨w1, w2, w3⟩ := bt_fm N (by omega) r hr
  have h := mn_bd (skip := c) hN hM (N - 1) _ (by omega) (by omega) w3
  have hb : ∀ n, n ≤ 4 → bN n ≤ 60037250625 := by decide
  exact Nat.le_trans h (hb (N - 1) (by omega))
theorem cof_bd {M : Nat → Nat → Int32} {N i j : Nat} (hN : N ≤ 5) (hM : ∀ i j, i < 5 → j < 5 → (M i j).toInt.natAbs ≤ 99) (hi : i < N) : (cofM M N i j).toInt.natAbs ≤ 60037250625 := by
  unfold cofM
  have h := mc_bd (c := j) hN hM hi
  split
  · exact h
  · exact (B_neg h (by omega)).2
