/-! the hull: Cramer's rule for three equations, in the ring of longs -/
abbrev aL (M : Nat → Nat → Int32) (i j : Nat) : Int64 := (M i j).toInt64
theorem mn_1 (M : Nat → Nat → Int32) (s : Nat) (h : rowOf s 1 < 3) : mnF M 3 s 1 = aL M (rowOf s 1) 0 := by
  rw [mnF_eq M 3 s (by decide) (by decide), if_pos h]
  show (0 + 1 * aL M (rowOf s 1) 0 * mnF M 3 s 0 : Int64) = _
  rw [mnF_0, Int64.mul_one, Int64.one_mul, Int64.zero_add]
theorem mn_2 (M : Nat → Nat → Int32) (s : Nat) (h : rowOf s 2 < 3) : mnF M 3 s 2 = aL M (rowOf s 2) 1 := by
  rw [mnF_eq M 3 s (by decide) (by decide), if_pos h]
  show (0 + 1 * aL M (rowOf s 2) 1 * mnF M 3 s 0 : Int64) = _
  rw [mnF_0, Int64.mul_one, Int64.one_mul, Int64.zero_add]
theorem mn_4 (M : Nat → Nat → Int32) (s : Nat) (h : rowOf s 4 < 3) : mnF M 3 s 4 = aL M (rowOf s 4) 2 := by
  rw [mnF_eq M 3 s (by decide) (by decide), if_pos h]
  show (0 + 1 * aL M (rowOf s 4) 2 * mnF M 3 s 0 : Int64) = _
  rw [mnF_0, Int64.mul_one, Int64.one_mul, Int64.zero_add]
theorem mn_3 (M : Nat → Nat → Int32) (s : Nat) (h : rowOf s 3 < 3) : mnF M 3 s 3 = aL M (rowOf s 3) 1 * mnF M 3 s 1 - aL M (rowOf s 3) 0 * mnF M 3 s 2 := by
  rw [mnF_eq M 3 s (by decide) (by decide), if_pos h]
  show (0 + 1 * aL M (rowOf s 3) 1 * mnF M 3 s 1 + -1 * aL M (rowOf s 3) 0 * mnF M 3 s 2 : Int64) = _
  grind
theorem mn_5 (M : Nat → Nat → Int32) (s : Nat) (h : rowOf s 5 < 3) : mnF M 3 s 5 = aL M (rowOf s 5) 2 * mnF M 3 s 1 - aL M (rowOf s 5) 0 * mnF M 3 s 4 := by
  rw [mnF_eq M 3 s (by decide) (by decide), if_pos h]
  show (0 + 1 * aL M (rowOf s 5) 2 * mnF M 3 s 1 + -1 * aL M (rowOf s 5) 0 * mnF M 3 s 4 : Int64) = _
  grind
theorem mn_6 (M : Nat → Nat → Int32) (s : Nat) (h : rowOf s 6 < 3) : mnF M 3 s 6 = aL M (rowOf s 6) 2 * mnF M 3 s 2 - aL M (rowOf s 6) 1 * mnF M 3 s 4 := by
  rw [mnF_eq M 3 s (by decide) (by decide), if_pos h]
  show (0 + 1 * aL M (rowOf s 6) 2 * mnF M 3 s 2 + -1 * aL M (rowOf s 6) 1 * mnF M 3 s 4 : Int64) = _
  grind
theorem mn_7 (M : Nat → Nat → Int32) (s : Nat) (h : rowOf s 7 < 3) : mnF M 3 s 7 = aL M (rowOf s 7) 2 * mnF M 3 s 3 - aL M (rowOf s 7) 1 * mnF M 3 s 5 + aL M (rowOf s 7) 0 * mnF M 3 s 6 := by
  rw [mnF_eq M 3 s (by decide) (by decide), if_pos h]
  show (0 + 1 * aL M (rowOf s 7) 2 * mnF M 3 s 3 + -1 * aL M (rowOf s 7) 1 * mnF M 3 s 5 + - -1 * aL M (rowOf s 7) 0 * mnF M 3 s 6 : Int64) = _
  grind
theorem det_3 (M : Nat → Nat → Int32) : detM M 3 = aL M 0 0 * (aL M 1 1 * aL M 2 2 - aL M 1 2 * aL M 2 1) - aL M 0 1 * (aL M 1 0 * aL M 2 2 - aL M 1 2 * aL M 2 0) + aL M 0 2 * (aL M 1 0 * aL M 2 1 - aL M 1 1 * aL M 2 0) := by
  show mnF M 3 3 7 = _
  rw [mn_7 M 3 (by decide), mn_3 M 3 (by decide), mn_5 M 3 (by decide), mn_6 M 3 (by decide), mn_1 M 3 (by decide), mn_2 M 3 (by decide), mn_4 M 3 (by decide)]
  show aL M 2 2 * (aL M 1 1 * aL M 0 0 - aL M 1 0 * aL M 0 1) - aL M 2 1 * (aL M 1 2 * aL M 0 0 - aL M 1 0 * aL M 0 2) + aL M 2 0 * (aL M 1 2 * aL M 0 1 - aL M 1 1 * aL M 0 2) = _
  grind
theorem co_00 (M : Nat → Nat → Int32) : cofM M 3 0 0 = (aL M 1 1 * aL M 2 2 - aL M 1 2 * aL M 2 1) := by
  unfold cofM
  rw [if_pos (by decide)]
  show mnF M 3 0 6 = _
  rw [mn_6 M 0 (by decide), mn_2 M 0 (by decide), mn_4 M 0 (by decide)]
  show (aL M 2 2 * aL M 1 1 - aL M 2 1 * aL M 1 2) = _
  grind
theorem co_01 (M : Nat → Nat → Int32) : cofM M 3 0 1 = -(aL M 0 1 * aL M 2 2 - aL M 0 2 * aL M 2 1) := by
  unfold cofM
  rw [if_neg (by decide)]
  show -mnF M 3 1 6 = _
  rw [mn_6 M 1 (by decide), mn_2 M 1 (by decide), mn_4 M 1 (by decide)]
  show -(aL M 2 2 * aL M 0 1 - aL M 2 1 * aL M 0 2) = _
  grind
theorem co_02 (M : Nat → Nat → Int32) : cofM M 3 0 2 = (aL M 0 1 * aL M 1 2 - aL M 0 2 * aL M 1 1) := by
  unfold cofM
  rw [if_pos (by decide)]
  show mnF M 3 2 6 = _
  rw [mn_6 M 2 (by decide), mn_2 M 2 (by decide), mn_4 M 2 (by decide)]
  show (aL M 1 2 * aL M 0 1 - aL M 1 1 * aL M 0 2) = _
  grind
theorem co_10 (M : Nat → Nat → Int32) : cofM M 3 1 0 = -(aL M 1 0 * aL M 2 2 - aL M 1 2 * aL M 2 0) := by
  unfold cofM
  rw [if_neg (by decide)]
  show -mnF M 3 0 5 = _
  rw [mn_5 M 0 (by decide), mn_1 M 0 (by decide), mn_4 M 0 (by decide)]
  show -(aL M 2 2 * aL M 1 0 - aL M 2 0 * aL M 1 2) = _
  grind
theorem co_11 (M : Nat → Nat → Int32) : cofM M 3 1 1 = (aL M 0 0 * aL M 2 2 - aL M 0 2 * aL M 2 0) := by
  unfold cofM
  rw [if_pos (by decide)]
  show mnF M 3 1 5 = _
  rw [mn_5 M 1 (by decide), mn_1 M 1 (by decide), mn_4 M 1 (by decide)]
  show (aL M 2 2 * aL M 0 0 - aL M 2 0 * aL M 0 2) = _
  grind
theorem co_12 (M : Nat → Nat → Int32) : cofM M 3 1 2 = -(aL M 0 0 * aL M 1 2 - aL M 0 2 * aL M 1 0) := by
  unfold cofM
  rw [if_neg (by decide)]
  show -mnF M 3 2 5 = _
  rw [mn_5 M 2 (by decide), mn_1 M 2 (by decide), mn_4 M 2 (by decide)]
  show -(aL M 1 2 * aL M 0 0 - aL M 1 0 * aL M 0 2) = _
  grind
theorem co_20 (M : Nat → Nat → Int32) : cofM M 3 2 0 = (aL M 1 0 * aL M 2 1 - aL M 1 1 * aL M 2 0) := by
  unfold cofM
  rw [if_pos (by decide)]
  show mnF M 3 0 3 = _
  rw [mn_3 M 0 (by decide), mn_1 M 0 (by decide), mn_2 M 0 (by decide)]
  show (aL M 2 1 * aL M 1 0 - aL M 2 0 * aL M 1 1) = _
  grind
theorem co_21 (M : Nat → Nat → Int32) : cofM M 3 2 1 = -(aL M 0 0 * aL M 2 1 - aL M 0 1 * aL M 2 0) := by
  unfold cofM
  rw [if_neg (by decide)]
  show -mnF M 3 1 3 = _
  rw [mn_3 M 1 (by decide), mn_1 M 1 (by decide), mn_2 M 1 (by decide)]
  show -(aL M 2 1 * aL M 0 0 - aL M 2 0 * aL M 0 1) = _
  grind
theorem co_22 (M : Nat → Nat → Int32) : cofM M 3 2 2 = (aL M 0 0 * aL M 1 1 - aL M 0 1 * aL M 1 0) := by
  unfold cofM
  rw [if_pos (by decide)]
  show mnF M 3 2 3 = _
  rw [mn_3 M 2 (by decide), mn_1 M 2 (by decide), mn_2 M 2 (by decide)]
  show (aL M 1 1 * aL M 0 0 - aL M 1 0 * aL M 0 1) = _
  grind
/-- a row of the system at a vector -/
def bL (M : Nat → Nat → Int32) (v : Nat → Int32) (i : Nat) : Int64 := aL M i 0 * (v 0).toInt64 + aL M i 1 * (v 1).toInt64 + aL M i 2 * (v 2).toInt64
theorem cram {M : Nat → Nat → Int32} {v : Nat → Int32} {i : Nat} (hi : i < 3) : cofM M 3 i 0 * bL M v 0 + cofM M 3 i 1 * bL M v 1 + cofM M 3 i 2 * bL M v 2 = detM M 3 * (v i).toInt64 := by
  unfold bL
  match i, hi with
  | 0, _ => rw [co_00, co_01, co_02, det_3]; grind
  | 1, _ => rw [co_10, co_11, co_12, det_3]; grind
  | 2, _ => rw [co_20, co_21, co_22, det_3]; grind
  | n + 3, h => exact absurd h (by omega)
theorem sgd_self {d : Int64} (h : ¬ d = 0) : sgd d d = absL d := by
  unfold sgd absL
  have z : (0 : Int64).toInt = 0 := rfl
  have hz := mt l_z.mpr h
  by_cases c : d < 0
  · have c2 := l_lt.mp c
    rw [if_pos c, if_neg (by rw [l_lt]; omega)]
  · have c2 := mt l_lt.mpr c
    rw [if_neg c, if_pos (by rw [l_lt]; omega)]
theorem cramI {M : Nat → Nat → Int32} {v : Nat → Int32} {i : Nat} (hi : i < 3) (hd : ¬ detM M 3 = 0) : ivF M 3 i 0 * bL M v 0 + ivF M 3 i 1 * bL M v 1 + ivF M 3 i 2 * bL M v 2 = absL (detM M 3) * (v i).toInt64 := by
  rw [ivF_cof, ivF_cof, ivF_cof, ← sgd_mul, ← sgd_mul, ← sgd_mul, ← sgd_add, ← sgd_add, cram hi, sgd_mul, sgd_self hd]
/-! the same in the integers -/
theorem bL_t {M : Nat → Nat → Int32} {v : Nat → Int32} {i : Nat} (hM : okA M) (hv : okV v) (hi : i < 5) : (bL M v i).toInt = dotI M v i := by
  have a0 := hM i 0 hi (by omega)
  have a1 := hM i 1 hi (by omega)
  have a2 := hM i 2 hi (by omega)
  have v0 := hv 0 (by omega)
  have v1 := hv 1 (by omega)
  have v2 := hv 2 (by omega)
  have m0 := B_mul (x := aL M i 0) (y := (v 0).toInt64) (a := 99) (b := 10) (by rw [B_32]; exact a0) (by rw [B_32]; omega) (by omega)
  have m1 := B_mul (x := aL M i 1) (y := (v 1).toInt64) (a := 99) (b := 10) (by rw [B_32]; exact a1) (by rw [B_32]; omega) (by omega)
  have m2 := B_mul (x := aL M i 2) (y := (v 2).toInt64) (a := 99) (b := 10) (by rw [B_32]; exact a2) (by rw [B_32]; omega) (by omega)
  have n1 := B_add m0.2 m1.2 (by omega)
  have n2 := B_add n1.2 m2.2 (by omega)
  unfold bL dotI
  rw [n2.1, n1.1, m0.1, m1.1, m2.1, B_32, B_32, B_32, B_32, B_32, B_32]
theorem iv_bd {M : Nat → Nat → Int32} {i j : Nat} (hM : okA M) (hi : i < 3) : (ivF M 3 i j).toInt.natAbs ≤ 60037250625 := by
  rw [ivF_cof]
  exact sgd_bd (cof_bd (by omega) hM hi) (by omega)
theorem cram_t {M : Nat → Nat → Int32} {v rl rh : Nat → Int32} {i : Nat} (hM : okA M) (hR : okR rl rh) (hv : okV v) (hS : inR M v rl rh) (hi : i < 3) (hd : ¬ detM M 3 = 0) : (ivF M 3 i 0).toInt * dotI M v 0 + (ivF M 3 i 1).toInt * dotI M v 1 + (ivF M 3 i 2).toInt * dotI M v 2 = (absL (detM M 3)).toInt * (v i).toInt := by
  have e := cramI (v := v) hi hd
  have b0 := bL_t hM hv (show 0 < 5 by omega)
  have b1 := bL_t hM hv (show 1 < 5 by omega)
  have b2 := bL_t hM hv (show 2 < 5 by omega)
  have s0 := hS 0 (by omega)
  have s1 := hS 1 (by omega)
  have s2 := hS 2 (by omega)
  have r0 := hR 0 (by omega)
  have r1 := hR 1 (by omega)
  have r2 := hR 2 (by omega)
  have m0 := B_mul (x := ivF M 3 i 0) (y := bL M v 0) (b := 999) (iv_bd hM hi) (by rw [b0]; omega) (by omega)
  have m1 := B_mul (x := ivF M 3 i 1) (y := bL M v 1) (b := 999) (iv_bd hM hi) (by rw [b1]; omega) (by omega)
  have m2 := B_mul (x := ivF M 3 i 2) (y := bL M v 2) (b := 999) (iv_bd hM hi) (by rw [b2]; omega) (by omega)
  have n1 := B_add m0.2 m1.2 (by omega)
  have n2 := B_add n1.2 m2.2 (by omega)
  have db := det_bd (N := 3) (by omega) hM
  have da : (absL (detM M 3)).toInt.natAbs ≤ 29718439059375 := by rw [B_abs db (by omega)]; exact db
  have vi := hv i hi
  have k := B_mul (x := absL (detM M 3)) (y := (v i).toInt64) (b := 10) da (by rw [B_32]; omega) (by omega)
  have e2 := congrArg Int64.toInt e
  rw [n2.1, n1.1, m0.1, m1.1, m2.1, k.1, b0, b1, b2, B_32] at e2
  exact e2
theorem h3_t {w : Nat → Int64} {x y : Nat → Int32} (hw : ∀ j, j < 3 → (w j).toInt.natAbs ≤ 60037250625) (hR : ∀ j, j < 3 → (x j).toInt.natAbs ≤ 999 ∧ (y j).toInt.natAbs ≤ 999) : (hul w x y 3).toInt = (w 0).toInt * (if w 0 < 0 then y 0 else x 0).toInt + (w 1).toInt * (if w 1 < 0 then y 1 else x 1).toInt + (w 2).toInt * (if w 2 < 0 then y 2 else x 2).toInt ∧ (hul w x y 3).toInt.natAbs ≤ 179931640123125 := by
  have zb : ∀ j, j < 3 → (if w j < 0 then y j else x j).toInt64.toInt.natAbs ≤ 999 := fun j hj => by
    rw [B_32]
    split
    · exact (hR j hj).2
    · exact (hR j hj).1
  have m0 := B_mul (hw 0 (by omega)) (zb 0 (by omega)) (by omega)
  have m1 := B_mul (hw 1 (by omega)) (zb 1 (by omega)) (by omega)
  have m2 := B_mul (hw 2 (by omega)) (zb 2 (by omega)) (by omega)
  have n1 := B_add m0.2 m1.2 (by omega)
  have n2 := B_add n1.2 m2.2 (by omega)
  have e : hul w x y 3 = w 0 * (if w 0 < 0 then y 0 else x 0).toInt64 + w 1 * (if w 1 < 0 then y 1 else x 1).toInt64 + w 2 * (if w 2 < 0 then y 2 else x 2).toInt64 := by
    show 0 + w 0 * (if w 0 < 0 then y 0 else x 0).toInt64 + w 1 * (if w 1 < 0 then y 1 else x 1).toInt64 + w 2 * (if w 2 < 0 then y 2 else x 2).toInt64 = _
    rw [Int64.zero_add]
  rw [e]
  refine ⟨?_, by omega⟩
  rw [n2.1, n1.1, m0.1, m1.1, m2.1, B_32, B_32, B_32]
theorem t_lo {w : Int64} {l h : Int32} {d : Int} (h1 : l.toInt ≤ d) (h2 : d ≤ h.toInt) : w.toInt * (if w < 0 then h else l).toInt ≤ w.toInt * d := by
  have z : (0 : Int64).toInt = 0 := rfl
  by_cases c : w < 0
  · rw [if_pos c]
    have := l_lt.mp c
    exact Int.mul_le_mul_of_nonpos_left (by omega) h2
  · rw [if_neg c]
    have := mt l_lt.mpr c
    exact Int.mul_le_mul_of_nonneg_left h1 (by omega)
theorem t_hi {w : Int64} {l h : Int32} {d : Int} (h1 : l.toInt ≤ d) (h2 : d ≤ h.toInt) : w.toInt * d ≤ w.toInt * (if w < 0 then l else h).toInt := by
  have z : (0 : Int64).toInt = 0 := rfl
  by_cases c : w < 0
  · rw [if_pos c]
    have := l_lt.mp c
    exact Int.mul_le_mul_of_nonpos_left (by omega) h1
  · rw [if_neg c]
    have := mt l_lt.mpr c
    exact Int.mul_le_mul_of_nonneg_left h2 (by omega)
/-- the vector's component lies in the hull, times the determinant's absolute value -/
theorem hu_in {M : Nat → Nat → Int32} {v rl rh : Nat → Int32} {i : Nat} (hM : okA M) (hR : okR rl rh) (hv : okV v) (hS : inR M v rl rh) (hi : i < 3) (hd : ¬ detM M 3 = 0) :
    (hul (ivF M 3 i) rl rh 3).toInt ≤ (absL (detM M 3)).toInt * (v i).toInt ∧ (absL (detM M 3)).toInt * (v i).toInt ≤ (hul (ivF M 3 i) rh rl 3).toInt ∧ (hul (ivF M 3 i) rl rh 3).toInt.natAbs ≤ 179931640123125 ∧ (hul (ivF M 3 i) rh rl 3).toInt.natAbs ≤ 179931640123125 := by
  have e := cram_t hM hR hv hS hi hd
  have hw : ∀ j, j < 3 → (ivF M 3 i j).toInt.natAbs ≤ 60037250625 := fun j _ => iv_bd hM hi
  have hr : ∀ j, j < 3 → (rl j).toInt.natAbs ≤ 999 ∧ (rh j).toInt.natAbs ≤ 999 := fun j hj => by have := hR j (by omega); omega
  obtain ⟨a1, a2⟩ := h3_t (x := rl) (y := rh) hw hr
  obtain ⟨b1, b2⟩ := h3_t (x := rh) (y := rl) hw (fun j hj => ⟨(hr j hj).2, (hr j hj).1⟩)
  have s0 := hS 0 (by omega)
  have s1 := hS 1 (by omega)
  have s2 := hS 2 (by omega)
  have p0 := t_lo (w := ivF M 3 i 0) s0.1 s0.2
  have p1 := t_lo (w := ivF M 3 i 1) s1.1 s1.2
  have p2 := t_lo (w := ivF M 3 i 2) s2.1 s2.2
  have q0 := t_hi (w := ivF M 3 i 0) s0.1 s0.2
  have q1 := t_hi (w := ivF M 3 i 1) s1.1 s1.2
  have q2 := t_hi (w := ivF M 3 i 2) s2.1 s2.2
  exact ⟨by rw [a1]; omega, by rw [b1]; omega, a2, b2⟩
theorem hl_in {M : Nat → Nat → Int32} {v rl rh : Nat → Int32} {i : Nat} (hM : okA M) (hR : okR rl rh) (hv : okV v) (hS : inR M v rl rh) (hi : i < 3) (hd : ¬ detM M 3 = 0) : (hl0 3 M rl rh i).toInt ≤ 1024 * (v i).toInt ∧ 1024 * (v i).toInt ≤ (hh0 3 M rl rh i).toInt := by
  obtain ⟨h1, h2, h3, h4⟩ := hu_in hM hR hv hS hi hd
  have dp := (d100 (N := 3) (by omega) hM hd).2.2
  have nz : ¬ absL (detM M 3) = 0 := fun q => by rw [q] at dp; exact absurd dp (by decide)
  have k2 : (1024 : Int64).toInt = 1024 := rfl
  have m1 := B_mul (x := 1024) (a := 1024) (by decide) h3 (by omega)
  have m2 := B_mul (x := 1024) (a := 1024) (by decide) h4 (by omega)
  rw [k2] at m1 m2
  have e : (absL (detM M 3)).toInt * (1024 * (v i).toInt) = 1024 * ((absL (detM M 3)).toInt * (v i).toInt) := Int.mul_left_comm _ _ _
  unfold hl0 hh0
  exact ⟨(qd_le m1.2 (by omega) nz (Or.inl ⟨dp, by rw [e, m1.1]; omega⟩)).1, (qu_ge m2.2 (by omega) nz (Or.inl ⟨dp, by rw [e, m2.1]; omega⟩)).1⟩
theorem sh_in {M : Nat → Nat → Int32} {rl rh v bl bh : Nat → Int32} (hM : okA M) (hR : okR rl rh) (hv : okV v) (hS : inR M v rl rh) (hd : ¬ detM M 3 = 0) (hX : okX bl bh) (hB : inB v bl bh) : ∀ t : Nat, t ≤ 3 → ∃ x y n, shS 3 M rl rh bl bh t = (x, y, n, true) ∧ okX x y ∧ inB v x y ∧ 0 ≤ n.toInt ∧ n.toInt ≤ (t : Int)
  | 0, _ => ⟨bl, bh, 0, rfl, hX, hB, by decide, by decide⟩
  | t + 1, ht => by
    obtain ⟨x, y, n, h1, h2, h3, h4, h5⟩ := sh_in hM hR hv hS hd hX hB t (by omega)
    obtain ⟨c1, c2⟩ := hl_in hM hR hv hS (by omega : t < 3) hd
    obtain ⟨n1, n2, n3, n4, n5⟩ := it_in h2 h3 (by omega : t < 3) c1 c2
    have e := i_add (x := n) (y := itR (hl0 3 M rl rh t) (hh0 3 M rl rh t) x y t) (by omega) (by omega)
    exact ⟨_, _, _, shS_pos h1 n1, n4, n5, by rw [e]; omega, by rw [e]; omega⟩
theorem sh0_in {M : Nat → Nat → Int32} {rl rh v : Nat → Int32} {z : (Nat → Int32) × (Nat → Int32)} (hM : okA M) (hR : okR rl rh) (hv : okV v) (hS : inR M v rl rh) (hd : ¬ detM M 3 = 0) (hX : okX z.1 z.2) (hB : inB v z.1 z.2) : ∃ x y n, sh0 3 M rl rh z = (n, x, y) ∧ okX x y ∧ inB v x y ∧ 0 ≤ n.toInt := by
  obtain ⟨x, y, n, h1, h2, h3, h4, h5⟩ := sh_in hM hR hv hS hd hX hB 3 (Nat.le_refl _)
  refine ⟨x, y, n, ?_, h2, h3, h4⟩
  unfold sh0
  rw [h1]
  exact if_pos rfl
/-- the hull's ends in lowest terms -/
theorem rd_lo {M : Nat → Nat → Int32} {v rl rh : Nat → Int32} {i : Nat} (hM : okA M) (hR : okR rl rh) (hv : okV v) (hS : inR M v rl rh) (hi : i < 3) (hd : ¬ detM M 3 = 0) : ¬ (v i).toInt64 * redC (absL (detM M 3)) (hul (ivF M 3 i) rl rh 3) < redC (hul (ivF M 3 i) rl rh 3) (absL (detM M 3)) := by
  obtain ⟨e1, e2, -, -⟩ := eq_num (N := 3) (by omega) hM hR hi hd
  have db := det_bd (N := 3) (by omega) hM
  obtain ⟨g, F, D, g0, h1, h2, h3, h4, h5, h6⟩ := rd_int (fe_b (hi := 0) (N := 3) (by omega) hM hR hi) db (by omega) (by omega) hd
  obtain ⟨k1, -, -, -⟩ := hu_in hM hR hv hS hi hd
  rw [hul_lo (by omega) hM hi hd 3 (Nat.le_refl _), h1, h2, Int.mul_assoc] at k1
  have k2 := Int.le_of_mul_le_mul_left k1 g0
  have hD : D ≤ 29718439059375 := by
    have ea := B_abs db (by omega)
    rw [h2] at ea
    have h7 := Int.mul_le_mul_of_nonneg_right (show 1 ≤ g by omega) (show 0 ≤ D by omega)
    rw [Int.one_mul] at h7
    omega
  have vi := hv i hi
  have hDt : (rdD (feS 3 M rl rh i 0 3) (detM M 3)).toInt.natAbs ≤ 29718439059375 := by rw [h4]; omega
  have m := B_mul (x := (v i).toInt64) (a := 10) (by rw [B_32]; omega) hDt (by omega)
  rw [e1, e2]
  show ¬ (v i).toInt64 * rdD (feS 3 M rl rh i 0 3) (detM M 3) < rdN (feS 3 M rl rh i 0 3) (detM M 3)
  rw [l_lt, m.1, h3, h4, B_32, Int.mul_comm]
  omega
theorem rd_hi {M : Nat → Nat → Int32} {v rl rh : Nat → Int32} {i : Nat} (hM : okA M) (hR : okR rl rh) (hv : okV v) (hS : inR M v rl rh) (hi : i < 3) (hd : ¬ detM M 3 = 0) : ¬ redC (hul (ivF M 3 i) rh rl 3) (absL (detM M 3)) < (v i).toInt64 * redC (absL (detM M 3)) (hul (ivF M 3 i) rh rl 3) := by
  obtain ⟨-, -, e1, e2⟩ := eq_num (N := 3) (by omega) hM hR hi hd
  have db := det_bd (N := 3) (by omega) hM
  obtain ⟨g, F, D, g0, h1, h2, h3, h4, h5, h6⟩ := rd_int (fe_b (hi := 1) (N := 3) (by omega) hM hR hi) db (by omega) (by omega) hd
  obtain ⟨-, k1, -, -⟩ := hu_in hM hR hv hS hi hd
  rw [hul_hi (by omega) hM hi hd 3 (Nat.le_refl _), h1, h2, Int.mul_assoc] at k1
  have k2 := Int.le_of_mul_le_mul_left k1 g0
  have hD : D ≤ 29718439059375 := by
    have ea := B_abs db (by omega)
    rw [h2] at ea
    have h7 := Int.mul_le_mul_of_nonneg_right (show 1 ≤ g by omega) (show 0 ≤ D by omega)
    rw [Int.one_mul] at h7
    omega
  have vi := hv i hi
  have hDt : (rdD (feS 3 M rl rh i 1 3) (detM M 3)).toInt.natAbs ≤ 29718439059375 := by rw [h4]; omega
  have m := B_mul (x := (v i).toInt64) (a := 10) (by rw [B_32]; omega) hDt (by omega)
  rw [e1, e2]
  show ¬ rdN (feS 3 M rl rh i 1 3) (detM M 3) < (v i).toInt64 * rdD (feS 3 M rl rh i 1 3) (detM M 3)
  rw [l_lt, m.1, h3, h4, B_32, Int.mul_comm]
  omega
