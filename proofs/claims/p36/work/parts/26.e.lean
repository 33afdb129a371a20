/-! the class's inverse and hulls against the reference's cofactors -/
def sgd (d x : Int64) : Int64 := if d < 0 then -x else x
theorem sgd_add (d x y : Int64) : sgd d (x + y) = sgd d x + sgd d y := by
  unfold sgd; split
  · rw [Int64.neg_add, Int64.sub_eq_add_neg]
  · rfl
theorem sgd_mul (d x y : Int64) : sgd d (x * y) = sgd d x * y := by
  unfold sgd; split
  · rw [Int64.neg_mul]
  · rfl
theorem sgS_mul (s x : Int64) : ∀ r, sgS s r * x = if r % 2 = 0 then s * x else -(s * x)
  | 0 => by rw [if_pos rfl]; rfl
  | r + 1 => by
    show -(sgS s r) * x = _
    rw [Int64.neg_mul, sgS_mul s x r]
    by_cases h : r % 2 = 0
    · rw [if_pos h, if_neg (by omega)]
    · rw [if_neg h, if_pos (by omega), Int64.neg_neg]
theorem ivF_cof {M : Nat → Nat → Int32} {N r c : Nat} : ivF M N r c = sgd (detM M N) (cofM M N r c) := by
  unfold ivF cofM
  rw [sgS_mul]
  generalize mnF M N c ((2 ^ N - 1) ^^^ 2 ^ r) = x
  have h0 : sg0 (detM M N) c * x = if (detM M N < 0 ↔ c % 2 = 0) then -x else x := by
    unfold sg0
    split
    · rw [Int64.neg_mul, Int64.one_mul]
    · rw [Int64.one_mul]
  have hk : ((r + c) % 2 = 0) ↔ (r % 2 = 0 ↔ c % 2 = 0) := by omega
  rw [h0]
  unfold sgd
  by_cases hd : detM M N < 0
  · by_cases hc : c % 2 = 0
    · rw [if_pos (show (detM M N < 0 ↔ c % 2 = 0) from ⟨fun _ => hc, fun _ => hd⟩), if_pos hd]
      by_cases hr : r % 2 = 0
      · rw [if_pos hr, if_pos (by omega)]
      · rw [if_neg hr, if_neg (by omega)]
    · rw [if_neg (show ¬ (detM M N < 0 ↔ c % 2 = 0) from fun q => hc (q.mp hd)), if_pos hd]
      by_cases hr : r % 2 = 0
      · rw [if_pos hr, if_neg (by omega), Int64.neg_neg]
      · rw [if_neg hr, if_pos (by omega)]
  · by_cases hc : c % 2 = 0
    · rw [if_neg (show ¬ (detM M N < 0 ↔ c % 2 = 0) from fun q => hd (q.mpr hc)), if_neg hd]
      by_cases hr : r % 2 = 0
      · rw [if_pos hr, if_pos (by omega)]
      · rw [if_neg hr, if_neg (by omega)]
    · rw [if_pos (show (detM M N < 0 ↔ c % 2 = 0) from ⟨fun q => absurd q hd, fun q => absurd q hc⟩), if_neg hd]
      by_cases hr : r % 2 = 0
      · rw [if_pos hr, if_neg (by omega)]
      · rw [if_neg hr, if_pos (by omega), Int64.neg_neg]
theorem sgd_bd {d x : Int64} {a : Nat} (hx : x.toInt.natAbs ≤ a) (h : a < 9223372036854775808) : (sgd d x).toInt.natAbs ≤ a := by
  unfold sgd; split
  · exact (B_neg hx h).2
  · exact hx
theorem sgd_abs {d x : Int64} {a : Nat} (hx : x.toInt.natAbs ≤ a) (h : a < 9223372036854775808) : (sgd d x).toInt.natAbs = x.toInt.natAbs := by
  unfold sgd; split
  · rw [(B_neg hx h).1]; omega
  · rfl
/-- the sign of a cofactor's weight -/
theorem w_neg {d c : Int64} {a : Nat} (hc : c.toInt.natAbs ≤ a) (h : a < 9223372036854775808) (hd : ¬ d = 0) (h0 : ¬ c = 0) : sgd d c < 0 ↔ ¬ (0 < c ↔ 0 < d) := by
  have z : (0 : Int64).toInt = 0 := rfl
  have hd2 := mt l_z.mpr hd
  have hc2 := mt l_z.mpr h0
  unfold sgd
  by_cases q : d < 0
  · rw [if_pos q, l_lt, (B_neg hc h).1, z, l_lt, l_lt, z]
    have := l_lt.mp q
    omega
  · rw [if_neg q, l_lt, l_lt, l_lt, z]
    have := mt l_lt.mpr q
    omega
theorem mul0 (x : Int64) : (0 : Int64) * x = 0 := Int64.zero_mul
theorem hul_lo {M : Nat → Nat → Int32} {N i : Nat} {rl rh : Nat → Int32} (hN : N ≤ 5) (hM : ∀ i j, i < 5 → j < 5 → (M i j).toInt.natAbs ≤ 99) (hi : i < N) (hd : ¬ detM M N = 0) : ∀ k, k ≤ N → hul (ivF M N i) rl rh k = sgd (detM M N) (feS N M rl rh i 0 k)
  | 0, _ => by show (0 : Int64) = sgd (detM M N) 0; unfold sgd; split <;> rfl
  | k + 1, hk => by
    rw [feS_succ, sgd_add, sgd_mul, ← hul_lo hN hM hi hd k (by omega), ← ivF_cof]
    show hul (ivF M N i) rl rh k + ivF M N i k * _ = _
    congr 1
    by_cases h0 : cofM M N i k = 0
    · rw [ivF_cof, h0]
      have : sgd (detM M N) 0 = 0 := by unfold sgd; split <;> rfl
      rw [this, mul0, mul0]
    · have hw := w_neg (cof_bd hN hM hi (j := k)) (by omega) hd h0
      rw [← ivF_cof] at hw
      unfold feE
      by_cases q : ivF M N i k < 0
      · rw [if_pos q, if_neg (hw.mp q), if_pos rfl]
      · rw [if_neg q, if_pos (Decidable.of_not_not (mt hw.mpr q)), if_neg (by decide)]
theorem hul_hi {M : Nat → Nat → Int32} {N i : Nat} {rl rh : Nat → Int32} (hN : N ≤ 5) (hM : ∀ i j, i < 5 → j < 5 → (M i j).toInt.natAbs ≤ 99) (hi : i < N) (hd : ¬ detM M N = 0) : ∀ k, k ≤ N → hul (ivF M N i) rh rl k = sgd (detM M N) (feS N M rl rh i 1 k)
  | 0, _ => by show (0 : Int64) = sgd (detM M N) 0; unfold sgd; split <;> rfl
  | k + 1, hk => by
    rw [feS_succ, sgd_add, sgd_mul, ← hul_hi hN hM hi hd k (by omega), ← ivF_cof]
    show hul (ivF M N i) rh rl k + ivF M N i k * _ = _
    congr 1
    by_cases h0 : cofM M N i k = 0
    · rw [ivF_cof, h0]
      have : sgd (detM M N) 0 = 0 := by unfold sgd; split <;> rfl
      rw [this, mul0, mul0]
    · have hw := w_neg (cof_bd hN hM hi (j := k)) (by omega) hd h0
      rw [← ivF_cof] at hw
      unfold feE
      by_cases q : ivF M N i k < 0
      · rw [if_pos q, if_neg (hw.mp q), if_neg (by decide)]
      · rw [if_neg q, if_pos (Decidable.of_not_not (mt hw.mpr q)), if_pos rfl]
theorem feS_bd {M : Nat → Nat → Int32} {N i : Nat} {rl rh : Nat → Int32} {hi : Int32} (hN : N ≤ 5) (hM : ∀ i j, i < 5 → j < 5 → (M i j).toInt.natAbs ≤ 99) (hr : ∀ i, i < 5 → (rl i).toInt.natAbs ≤ 999 ∧ (rh i).toInt.natAbs ≤ 999) (hi5 : i < N) : ∀ k, k ≤ N → (feS N M rl rh i hi k).toInt.natAbs ≤ k * 59977213374375
  | 0, _ => Nat.zero_le _
  | k + 1, hk => by
    have h1 := feS_bd (hi := hi) hN hM hr hi5 k (by omega)
    rw [feS_succ]
    have hv : (if feE (cofM M N i k) (detM M N) = hi then rh k else rl k).toInt64.toInt.natAbs ≤ 999 := by
      rw [B_32]; split
      · exact (hr k (by omega)).2
      · exact (hr k (by omega)).1
    have m1 := B_mul (cof_bd hN hM hi5 (j := k)) hv (by omega)
    have m2 := B_add h1 m1.2 (by omega)
    exact Nat.le_trans m2.2 (by omega)
/-! Euclid's steps -/
theorem gcS_step {x y : Nat} (hx : x < 2 ^ 63) (hy : y < 2 ^ 63) : ∀ k, ∃ x1 y1, gcS (jL x) (jL y) k = (jL x1, jL y1) ∧ x1 < 2 ^ 63 ∧ y1 < 2 ^ 63 ∧ Nat.gcd x1 y1 = Nat.gcd x y
  | 0 => ⟨x, y, rfl, hx, hy, rfl⟩
  | k + 1 => by
    obtain ⟨x1, y1, e, h1, h2, h3⟩ := gcS_step hx hy k
    by_cases h0 : y1 = 0
    · refine ⟨x1, y1, ?_, h1, h2, h3⟩
      show (if (gcS (jL x) (jL y) k).2 = 0 then _ else _) = _
      rw [e, if_pos (by rw [h0]; rfl)]
    · have hlt := Nat.mod_lt x1 (by omega : 0 < y1)
      refine ⟨y1, x1 % y1, ?_, h2, by omega, ?_⟩
      · show (if (gcS (jL x) (jL y) k).2 = 0 then _ else _) = _
        rw [e, if_neg (mt (jL_0 h2).mp h0)]
        show (jL y1, jL x1 - jL x1 / jL y1 * jL y1) = _
        rw [jL_rem h1 h2 h0]
      · rw [← h3, Nat.gcd_comm x1 y1, Nat.gcd_rec y1 x1, Nat.gcd_comm]
theorem gcS_add (a b : Int64) (k : Nat) : ∀ m, gcS a b (k + m) = gcS (gcS a b k).1 (gcS a b k).2 m
  | 0 => rfl
  | m + 1 => by
    show (if (gcS a b (k + m)).2 = 0 then gcS a b (k + m) else ((gcS a b (k + m)).2, (gcS a b (k + m)).1 - (gcS a b (k + m)).1 / (gcS a b (k + m)).2 * (gcS a b (k + m)).2)) = _
    rw [gcS_add a b k m]
    rfl
theorem gcS_1 {x y : Nat} (hx : x < 2 ^ 63) (hy : y < 2 ^ 63) (h0 : ¬ y = 0) : gcS (jL x) (jL y) 1 = (jL y, jL (x % y)) := by
  show (if jL y = 0 then _ else (jL y, jL x - jL x / jL y * jL y)) = _
  rw [if_neg (mt (jL_0 hy).mp h0), jL_rem hx hy h0]
theorem gcS_0 (a : Int64) : ∀ m, gcS a (jL 0) m = (a, jL 0)
  | 0 => rfl
  | m + 1 => by
    show (if (gcS a (jL 0) m).2 = 0 then gcS a (jL 0) m else _) = _
    rw [gcS_0 a m]
    exact if_pos rfl
theorem gc_half : ∀ n x y, n ≤ 63 → x < 2 ^ 63 → y < 2 ^ n → (gcS (jL x) (jL y) (2 * n)).2 = jL 0
  | 0, x, y, _, _, hy => by
    have : y = 0 := by simpa using hy
    subst this; rfl
  | n + 1, x, y, hn, hx, hy => by
    have hp : 2 ^ (n + 1) ≤ 2 ^ 63 := Nat.pow_le_pow_right (by decide) hn
    by_cases h0 : y = 0
    · subst h0; rw [gcS_0]
    · have hr := Nat.mod_lt x (by omega : 0 < y)
      rw [show 2 * (n + 1) = 1 + (1 + 2 * n) by omega, gcS_add, gcS_1 hx (by omega) h0]
      show (gcS (jL y) (jL (x % y)) (1 + 2 * n)).2 = _
      by_cases h1 : x % y = 0
      · rw [h1, gcS_0]
      · rw [gcS_add, gcS_1 (by omega) (by omega) h1]
        show (gcS (jL (x % y)) (jL (y % (x % y))) (2 * n)).2 = _
        refine gc_half n _ _ (by omega) (by omega) ?_
        have hlt := Nat.mod_lt y (by omega : 0 < x % y)
        have hpow : 2 ^ (n + 1) = 2 * 2 ^ n := by rw [Nat.pow_succ, Nat.mul_comm]
        rcases Nat.lt_or_ge (x % y) (2 ^ n) with q | q
        · omega
        · have hq : y % (x % y) ≤ y - x % y := by
            rw [Nat.mod_eq_sub_mod (by omega)]
            exact Nat.mod_le _ _
          omega
theorem gcd_ok {x y : Nat} (hx : x < 2 ^ 63) (hy : y < 2 ^ 63) (hm : x < 2 ^ 49 ∨ y < 2 ^ 49) : (gcS (jL x) (jL y) 100).1 = jL (Nat.gcd x y) := by
  obtain ⟨x1, y1, e, h1, h2, h3⟩ := gcS_step hx hy 100
  have h0 : (gcS (jL x) (jL y) 100).2 = jL 0 := by
    rcases hm with q | q
    · by_cases z : y = 0
      · subst z; rw [gcS_0]
      · have hr := Nat.mod_le x y
        rw [show 100 = 1 + (2 * 49 + 1) by rfl, gcS_add, gcS_1 hx hy z]
        show (gcS (jL y) (jL (x % y)) (2 * 49 + 1)).2 = _
        rw [gcS_add]
        have h9 := gc_half 49 y (x % y) (by decide) hy (by omega)
        rw [h9, gcS_0]
    · rw [show 100 = 2 * 49 + 2 by rfl, gcS_add]
      have h9 := gc_half 49 x y (by decide) hx q
      rw [h9, gcS_0]
  rw [e] at h0 ⊢
  have hz : y1 = 0 := (jL_0 h2).mp h0
  rw [hz, Nat.gcd_zero_right] at h3
  rw [h3]
