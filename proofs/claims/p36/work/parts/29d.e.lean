/-! the condition number: no NaN, and both sides alike -/
theorem n64_of {r : UInt64} (h : FP.Core.dIsNaN r = false) : vf_n64 r := by
  have h1 := mt (FP.Core.isNaN_bits r).mpr (by rw [h]; decide)
  show r &&& 0x7fffffffffffffff ≤ 0x7ff0000000000000
  rw [UInt64.le_iff_toNat_le, UInt64.toNat_and]
  show r.toNat &&& (2 ^ 63 - 1) ≤ 9218868437227405312
  rw [Nat.and_two_pow_sub_one_eq_mod]
  omega
theorem div_ok {y d : Int64} (hd : ¬ d = 0) : FP.Core.dIsNaN (FP.Core.ddiv (FP.Core.l2d y) (FP.Core.l2d d)) = false :=
  FP.Core.ddiv_out (FP.Core.l2d_fin y).notNaN (FP.Core.l2d_fin d) (fun hz => FP.Core.l2d_ne_zero hd ((FP.Core.zero_bits2 _).mp hz))
theorem mul_ok {x : Int64} {b : UInt64} (hx : ¬ x = 0) (hb : FP.Core.dIsNaN b = false) : FP.Core.dIsNaN (FP.Core.dmul (FP.Core.l2d x) b) = false := by
  have hz : ¬ FP.Core.DZero (FP.Core.l2d x) := fun hz => FP.Core.l2d_ne_zero hx ((FP.Core.zero_bits2 _).mp hz)
  refine FP.Core.not_true (FP.Core.dmul_nan_iff _ _) ?_
  rintro (h | h | ⟨s, h, -⟩ | ⟨s, h, -⟩)
  · exact (FP.Core.l2d_fin x).ne_nan h
  · exact (FP.Core.notNaN_iff b).mp hb h
  · exact (FP.Core.l2d_fin x).ne_inf s h
  · exact hz h
theorem i2d_l2d {x : Int64} {y : Int32} (h : x.toInt = y.toInt) : FP.l2d x = FP.i2d y := by
  show UInt64.ofNat (FP.Core.fromInt FP.Core.b64 x.toInt) = UInt64.ofNat (FP.Core.fromInt FP.Core.b64 y.toInt)
  rw [h]
theorem row_eq {M : Nat → Nat → Int32} {i : Nat} (hM : okA M) (hi : i < 5) : ∀ n, n ≤ 5 → (cdR M i n).toInt = (cnR M i n).toInt ∧ 0 ≤ (cnR M i n).toInt ∧ (cnR M i n).toInt ≤ n * 99
  | 0, _ => by
    have z : (0 : Int32).toInt = 0 := rfl
    show (0 : Int64).toInt = (0 : Int32).toInt ∧ 0 ≤ (0 : Int32).toInt ∧ (0 : Int32).toInt ≤ _
    exact ⟨rfl, by rw [z]; omega, by rw [z]; omega⟩
  | n + 1, h => by
    obtain ⟨h1, h2, h3⟩ := row_eq hM hi n (by omega)
    have hb := hM i n hi (by omega)
    have e := i_abs (x := M i n) (by omega)
    show (cdR M i n + (absI (M i n)).toInt64).toInt = (cnR M i n + absI (M i n)).toInt ∧ 0 ≤ (cnR M i n + absI (M i n)).toInt ∧ (cnR M i n + absI (M i n)).toInt ≤ _
    rw [l_add (by rw [B_32]; omega) (by rw [B_32]; omega), i_add (by omega) (by omega), B_32]
    omega
theorem maxI_t (x y : Int32) : (maxI x y).toInt = max x.toInt y.toInt := by
  unfold maxI
  by_cases h : x < y
  · rw [if_pos h]; have := i_lt.mp h; omega
  · rw [if_neg h]; have := mt i_lt.mpr h; omega
theorem minI_t (x y : Int32) : (minI x y).toInt = min x.toInt y.toInt := by
  unfold minI
  by_cases h : y < x
  · rw [if_pos h]; have := i_lt.mp h; omega
  · rw [if_neg h]; have := mt i_lt.mpr h; omega
theorem cx_eq {M : Nat → Nat → Int32} {N : Nat} (hN : N ≤ 5) (hM : okA M) : ∀ n, n ≤ N → (cdX M N n).toInt = (cnX M N n).toInt
  | 0, _ => rfl
  | n + 1, h => by
    show (maxL (cdX M N n) (cdR M n N)).toInt = (maxI (cnX M N n) (cnR M n N)).toInt
    rw [maxL_t, maxI_t, cx_eq hN hM n (by omega), (row_eq hM (by omega) N hN).1]
theorem cc_eq {M : Nat → Nat → Int32} {N i : Nat} (hN : N ≤ 5) (hM : okA M) (hi : i < N) : ∀ n, n ≤ N → cdC (ivF M N i) n = cnC M N i n
  | 0, _ => rfl
  | n + 1, h => by
    show cdC (ivF M N i) n + absL (ivF M N i n) = cnC M N i n + absL (cofM M N i n)
    rw [cc_eq hN hM hi n (by omega), abs_iv hN hM hi]
theorem cy_eq {M : Nat → Nat → Int32} {N : Nat} (hN : N ≤ 5) (hM : okA M) : ∀ n, n ≤ N → cdY (ivF M N) N n = cnY M N n
  | 0, _ => rfl
  | n + 1, h => by
    show maxL (cdY (ivF M N) N n) (cdC (ivF M N n) N) = maxL (cnY M N n) (cnC M N n N)
    rw [cy_eq hN hM n (by omega), cc_eq hN hM (by omega) N (Nat.le_refl _)]
theorem eq_con {M : Nat → Nat → Int32} {N : Nat} (hN : N ≤ 5) (hM : okA M) : cdQ M N = cnQ M N ∧ cdD M N = cnD M N := by
  have h1 : cdQ M N = cnQ M N := by unfold cdQ cnQ; rw [cy_eq hN hM N (Nat.le_refl _)]
  refine ⟨h1, ?_⟩
  unfold cdD cnD
  rw [h1, i2d_l2d (cx_eq hN hM N (Nat.le_refl _))]
/-- a row of zeros makes the determinant 0 -/
theorem ex_zero {M : Nat → Nat → Int32} {mn : Nat → Int64} {N row cols : Nat} (h : ∀ j, j < N → M row j = 0) : ∀ k, k ≤ N → (exS M mn N row cols k).1 = 0
  | 0, _ => rfl
  | k + 1, hk => by
    rw [exS_succ]
    have ih := ex_zero (mn := mn) (cols := cols) h k (by omega)
    by_cases hb : cols.testBit (N - k - 1) = true
    · rw [if_pos hb]
      show (exS M mn N row cols k).1 + (exS M mn N row cols k).2 * (M row (N - k - 1)).toInt64 * mn (cols ^^^ 2 ^ (N - k - 1)) = 0
      rw [ih, h _ (by omega), show (0 : Int32).toInt64 = 0 from rfl, Int64.mul_zero, Int64.zero_mul, Int64.add_zero]
    · rw [if_neg hb]; exact ih
theorem det_zero {M : Nat → Nat → Int32} {N : Nat} (h1 : 1 ≤ N) (hN : N ≤ 5) (h : ∀ j, j < N → M (N - 1) j = 0) : detM M N = 0 := by
  unfold detM
  have hp := (bt_fmN N (by omega)).1
  have h2 : 2 ≤ 2 ^ N := by
    have := Nat.pow_le_pow_right (by decide : 0 < 2) h1
    simpa using this
  rw [mnF_eq M N N (by omega) (Nat.le_refl _)]
  have hr : rowOf N (2 ^ N - 1) = N - 1 := by unfold rowOf; rw [hp, if_neg (by omega)]
  rw [hr, if_pos (by omega), ex_zero h N (Nat.le_refl _)]
theorem cx_pos {M : Nat → Nat → Int32} {N : Nat} (h1 : 1 ≤ N) (hN : N ≤ 5) (hM : okA M) (hd : ¬ detM M N = 0) : ¬ cdX M N N = 0 := by
  intro q
  have hx := cx_eq hN hM N (Nat.le_refl _)
  rw [q] at hx
  have z : (0 : Int64).toInt = 0 := rfl
  rw [z] at hx
  obtain ⟨k, rfl⟩ : ∃ k, N = k + 1 := ⟨N - 1, by omega⟩
  have hm : (maxI (cnX M (k + 1) k) (cnR M k (k + 1))).toInt = 0 := hx.symm
  rw [maxI_t] at hm
  have hr0 : (cnR M k (k + 1)).toInt ≤ 0 := by omega
  have hz : ∀ n, n ≤ k + 1 → (cnR M k n).toInt ≤ 0 → ∀ j, j < n → M k j = 0 := by
    intro n
    induction n with
    | zero => intro _ _ j hj; exact absurd hj (Nat.not_lt_zero j)
    | succ n ih =>
      intro hn hc j hj
      obtain ⟨-, r2, r3⟩ := row_eq hM (by omega : k < 5) n (by omega)
      have hb := hM k n (by omega) (by omega)
      have e := i_abs (x := M k n) (by omega)
      have hs : (cnR M k (n + 1)).toInt = (cnR M k n).toInt + (absI (M k n)).toInt := i_add (x := cnR M k n) (y := absI (M k n)) (by omega) (by omega)
      rcases Nat.lt_or_ge j n with w | w
      · exact ih (by omega) (by omega) j w
      · rw [show j = n by omega, i_eq]
        have z2 : (0 : Int32).toInt = 0 := rfl
        omega
  exact hd (det_zero h1 hN (fun j hj => hz (k + 1) (Nat.le_refl _) hr0 j hj))
theorem con_ok {M : Nat → Nat → Int32} {N : Nat} (h1 : 1 ≤ N) (hN : N ≤ 5) (hM : okA M) (hd : ¬ detM M N = 0) : vf_n64 (cnQ M N) ∧ vf_n64 (cnD M N) := by
  have hp := (d100 hN hM hd).2.2
  have hz : ¬ absL (detM M N) = 0 := fun q => by rw [q] at hp; exact absurd hp (by decide)
  have hq : FP.Core.dIsNaN (cnQ M N) = false := div_ok hz
  refine ⟨n64_of hq, ?_⟩
  rw [← (eq_con hN hM).2]
  unfold cdD
  rw [(eq_con hN hM).1]
  exact n64_of (mul_ok (cx_pos h1 hN hM hd) hq)
