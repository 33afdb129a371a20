/-! call by call: the class's answer is the reference's -/
theorem eq_num {M : Nat → Nat → Int32} {N i : Nat} {rl rh : Nat → Int32} (hN : N ≤ 5) (hM : okA M) (hR : okR rl rh) (hi : i < N) (hd : ¬ detM M N = 0) :
    redC (hul (ivF M N i) rl rh N) (absL (detM M N)) = heN N M rl rh i 0 ∧ redC (absL (detM M N)) (hul (ivF M N i) rl rh N) = heD N M rl rh i 0 ∧
    redC (hul (ivF M N i) rh rl N) (absL (detM M N)) = heN N M rl rh i 1 ∧ redC (absL (detM M N)) (hul (ivF M N i) rh rl N) = heD N M rl rh i 1 := by
  have db := det_bd hN hM
  rw [hul_lo hN hM hi hd N (Nat.le_refl _), hul_hi hN hM hi hd N (Nat.le_refl _)]
  exact ⟨red_num (fe_b hN hM hR hi) db (by omega) (by omega) (by omega) hd, red_den (fe_b hN hM hR hi) db (by omega) (by omega) (by omega) hd, red_num (fe_b hN hM hR hi) db (by omega) (by omega) (by omega) hd, red_den (fe_b hN hM hR hi) db (by omega) (by omega) (by omega) hd⟩
theorem eq_inv {M : Nat → Nat → Int32} {N i j : Nat} (hN : N ≤ 5) (hM : okA M) (hi : i < N) (hd : ¬ detM M N = 0) :
    redC (ivF M N i j) (absL (detM M N)) = rdN (cofM M N i j) (detM M N) ∧ redC (absL (detM M N)) (ivF M N i j) = rdD (cofM M N i j) (detM M N) := by
  have db := det_bd hN hM
  have cb := cof_bd (j := j) hN hM hi
  rw [ivF_cof]
  exact ⟨red_num cb db (by omega) (by omega) (by omega) hd, red_den cb db (by omega) (by omega) (by omega) hd⟩
theorem d100 {M : Nat → Nat → Int32} {N : Nat} (hN : N ≤ 5) (hM : okA M) (hd : ¬ detM M N = 0) : (100 * absL (detM M N)).toInt.natAbs ≤ 2971843905937500 ∧ 0 < (100 * absL (detM M N)).toInt ∧ 0 < (absL (detM M N)).toInt := by
  have db := det_bd hN hM
  have e := B_abs db (by omega)
  have h1 : (absL (detM M N)).toInt.natAbs ≤ 29718439059375 := by rw [e]; exact db
  have m := B_mul (x := 100) (a := 100) (by decide) h1 (by omega)
  have k : (100 : Int64).toInt = 100 := rfl
  have hz := mt l_z.mpr hd
  refine ⟨m.2, ?_, ?_⟩
  · rw [m.1, e, k]; omega
  · rw [e]; omega
theorem abs_pos {x : Int64} (h : 0 < x.toInt) : absL x = x := by
  unfold absL; rw [if_pos (l_lt.mpr (show (0 : Int64).toInt < x.toInt from h))]
theorem sgd_pos {d x : Int64} (h : 0 < d.toInt) : sgd d x = x := by
  unfold sgd; rw [if_neg (fun q => by have := l_lt.mp q; have z : (0 : Int64).toInt = 0 := rfl; omega)]
theorem eq_var {M S : Nat → Nat → Int32} {N : Nat} (hN : N ≤ 5) (hM : okA M) (hS : ∀ i j, i < 5 → j < 5 → 0 ≤ (S i j).toInt ∧ (S i j).toInt ≤ 50) (hd : ¬ detM M N = 0) :
    redC (svI (ivF M N) S N N) (100 * absL (detM M N)) = rdN (fvI M S N N) (100 * absL (detM M N)) ∧ redC (100 * absL (detM M N)) (svI (ivF M N) S N N) = rdD (fvI M S N N) (100 * absL (detM M N)) ∧
    ((svI (ivF M N) S N N < 100 * absL (detM M N)) ↔ (rdN (fvI M S N N) (100 * absL (detM M N)) < rdD (fvI M S N N) (100 * absL (detM M N)))) := by
  obtain ⟨h1, h2, -⟩ := d100 hN hM hd
  have fb := fv_bd hN hM hS N (Nat.le_refl _)
  have h0 : ¬ 100 * absL (detM M N) = 0 := fun q => by rw [q] at h2; exact absurd h2 (by decide)
  have r1 := red_num fb h1 (by omega) (by omega) (by omega) h0
  have r2 := red_den fb h1 (by omega) (by omega) (by omega) h0
  obtain ⟨g, F, D, g0, k1, k2, k3, k4, -, -⟩ := rd_int fb h1 (by omega) (by omega) h0
  rw [abs_pos h2, sgd_pos h2] at r1 r2
  rw [sgd_pos h2] at k1
  rw [abs_pos h2] at k2
  rw [sv_fv hN hM N (Nat.le_refl _)]
  refine ⟨r1, r2, ?_⟩
  rw [l_lt, l_lt, k1, k2, k3, k4]
  exact ⟨fun q => Int.lt_of_mul_lt_mul_left q (by omega), fun q => Int.mul_lt_mul_of_pos_left q g0⟩
theorem okM_of {M S : Nat → Nat → Int32} {N : Nat} {rl rh : Nat → Int32} (hN : N ≤ 5) (hM : okA M) (hS : ∀ i j, i < 5 → j < 5 → 0 ≤ (S i j).toInt ∧ (S i j).toInt ≤ 50) (hR : okR rl rh) (hq : ¬ detM M N = 0 → vf_n64 (cnQ M N) ∧ vf_n64 (cnD M N)) : okM N M S rl rh := by
  have z : (0 : Int64).toInt = 0 := rfl
  refine ⟨fun hd => ?_, fun i hi h => ?_, fun i j hi hj => ?_, ?_⟩
  · obtain ⟨h1, h2, h3⟩ := d100 hN hM hd
    exact ⟨l_lt.mpr h3, by rw [abs_pos h2] <;> exact l_lt.mpr h2, hq hd⟩
  · rw [l_le, B_abs (fe_b hN hM hR h) (by omega)]; omega
  · rw [l_le, B_abs (cof_bd hN hM hi) (by omega)]; omega
  · rw [l_le, B_abs (fv_bd hN hM hS N (Nat.le_refl _)) (by omega)]; omega
/-! ints -/
theorem i_add {x y : Int32} (h1 : -2147483648 ≤ x.toInt + y.toInt) (h2 : x.toInt + y.toInt < 2147483648) : (x + y).toInt = x.toInt + y.toInt := by
  rw [Int32.toInt_add]; exact Int.bmod_eq_of_le (by omega) (by omega)
theorem i_sub {x y : Int32} (h1 : -2147483648 ≤ x.toInt - y.toInt) (h2 : x.toInt - y.toInt < 2147483648) : (x - y).toInt = x.toInt - y.toInt := by
  rw [Int32.toInt_sub]; exact Int.bmod_eq_of_le (by omega) (by omega)
theorem i_mul {x y : Int32} (h1 : -2147483648 ≤ x.toInt * y.toInt) (h2 : x.toInt * y.toInt < 2147483648) : (x * y).toInt = x.toInt * y.toInt := by
  rw [Int32.toInt_mul]; exact Int.bmod_eq_of_le (by omega) (by omega)
theorem i_neg {x : Int32} (h : -2147483648 < x.toInt) : (-x).toInt = -x.toInt := by
  rw [Int32.toInt_neg]; have := Int32.toInt_lt x; exact Int.bmod_eq_of_le (by omega) (by omega)
theorem i_lt {x y : Int32} : x < y ↔ x.toInt < y.toInt := Int32.lt_iff_toInt_lt
theorem i_le {x y : Int32} : x ≤ y ↔ x.toInt ≤ y.toInt := Int32.le_iff_toInt_le
theorem i_abs {x : Int32} (h : -2147483648 < x.toInt) : (absI x).toInt = (x.toInt.natAbs : Int) := by
  unfold absI
  have z : (0 : Int32).toInt = 0 := rfl
  have hl := Int32.toInt_lt x
  by_cases c : 0 ≤ x
  · rw [if_pos c]; have := i_le.mp c; omega
  · rw [if_neg c, i_sub (by omega) (by omega)]; have := mt i_le.mpr c; omega
theorem wt {M : Nat → Nat → Int32} (hM : okA M) {i j : Nat} (hi : i < 5) (hj : j < 5) : (100 * absI (M i j)).toInt = 100 * ((M i j).toInt.natAbs : Int) ∧ (M i j).toInt.natAbs ≤ 99 := by
  have h := hM i j hi hj
  have e := i_abs (x := M i j) (by omega)
  have k : (100 : Int32).toInt = 100 := rfl
  exact ⟨by rw [i_mul (by rw [e, k]; omega) (by rw [e, k]; omega), e, k], h⟩
theorem dx_dg {M S : Nat → Nat → Int32} {i : Nat} (hM : okA M) (hS : ∀ i j, i < 5 → j < 5 → 0 ≤ (S i j).toInt ∧ (S i j).toInt ≤ 50) (hi : i < 5) : ∀ n, n ≤ 5 → (dxJ M S i n).toInt = (if i < n then 100 * ((M i i).toInt.natAbs : Int) - (S i i).toInt else 0) - (dgO M S i n).toInt ∧ 0 ≤ (dgO M S i n).toInt ∧ (dgO M S i n).toInt ≤ n * 10000
  | 0, _ => by
    have z : (0 : Int32).toInt = 0 := rfl
    show (0 : Int32).toInt = _ - (0 : Int32).toInt ∧ 0 ≤ (0 : Int32).toInt ∧ (0 : Int32).toInt ≤ _
    rw [z, if_neg (by omega)]; omega
  | n + 1, hn => by
    obtain ⟨h1, h2, h3⟩ := dx_dg hM hS hi n (by omega)
    obtain ⟨w1, w2⟩ := wt hM hi (by omega : n < 5)
    have hs := hS i n hi (by omega)
    have wi := (wt hM hi hi).2
    have si := hS i i hi hi
    show (dxJ M S i n + (if n = i then 100 * absI (M i n) - S i n else -(100 * absI (M i n)) - S i n)).toInt = _ - (if n = i then dgO M S i n else dgO M S i n + (100 * absI (M i n) + S i n)).toInt ∧ 0 ≤ (if n = i then dgO M S i n else dgO M S i n + (100 * absI (M i n) + S i n)).toInt ∧ (if n = i then dgO M S i n else dgO M S i n + (100 * absI (M i n) + S i n)).toInt ≤ _
    by_cases e : n = i
    · subst e
      rw [if_neg (by omega)] at h1
      rw [if_pos rfl, if_pos rfl, if_pos (by omega)]
      have s1 := i_sub (x := 100 * absI (M n n)) (y := S n n) (by omega) (by omega)
      rw [i_add (by omega) (by omega), s1, w1]
      omega
    · rw [if_neg e, if_neg e]
      have a1 := i_add (x := 100 * absI (M i n)) (y := S i n) (by omega) (by omega)
      have a2 := i_add (x := dgO M S i n) (y := 100 * absI (M i n) + S i n) (by omega) (by omega)
      have n1 := i_neg (x := 100 * absI (M i n)) (by omega)
      have s1 := i_sub (x := -(100 * absI (M i n))) (y := S i n) (by omega) (by omega)
      have b1 : -60000 ≤ (dxJ M S i n).toInt ∧ (dxJ M S i n).toInt ≤ 10000 := by rw [h1]; split <;> omega
      rw [i_add (by omega) (by omega), s1, n1, a2, a1, w1, h1]
      by_cases q : i < n
      · rw [if_pos q, if_pos (by omega)]; omega
      · rw [if_neg q, if_neg (by omega)]; omega
theorem eq_dom {M S : Nat → Nat → Int32} {N : Nat} (hN : N ≤ 5) (hM : okA M) (hS : ∀ i j, i < 5 → j < 5 → 0 ≤ (S i j).toInt ∧ (S i j).toInt ≤ 50) : (if ∀ t, t < N → 0 < dxJ M S t N then (1 : Int32) else 0) = domR N M S := by
  have h : ∀ i, i < N → (0 < dxJ M S i N ↔ dgO M S i N < 100 * absI (M i i) - S i i) := fun i hi => by
    obtain ⟨h1, h2, h3⟩ := dx_dg hM hS (by omega : i < 5) N hN
    obtain ⟨w1, w2⟩ := wt hM (by omega : i < 5) (by omega : i < 5)
    have si := hS i i (by omega) (by omega)
    have s1 := i_sub (x := 100 * absI (M i i)) (y := S i i) (by omega) (by omega)
    have z : (0 : Int32).toInt = 0 := rfl
    rw [i_lt, i_lt, h1, s1, w1, z, if_pos hi]
    omega
  unfold domR
  by_cases q : ∀ t, t < N → 0 < dxJ M S t N
  · rw [if_pos q, if_pos (fun i hi => (h i hi).mp (q i hi))]
  · rw [if_neg q, if_neg (fun w => q (fun i hi => (h i hi).mpr (w i hi)))]
