set_option maxRecDepth 100000 in
set_option maxHeartbeats 4000000 in
theorem c0_lowNumerator (l : Launch) (D : va_G) (K : Nat → ClassId) (a : Nat → Nat) (N : Nat) (M : Nat → Nat → Int32) (S : Nat → Nat → Int32) (rl : Nat → Int32) (rh : Nat → Int32) (bl : Nat → Int32) (bh : Nat → Int32) (kl : Nat → Int32) (kh : Nat → Int32) (mn : Nat → Int64) (vc : Nat → Int64) (iv : Nat → Nat → Int64) (sc : Int64) (p0 : Int32) (hst : l.stackTraces = false) (hN : N ≤ 5) : xL l D K yX0_lowNumerator wsX0_lowNumerator 6 97 1 6 [.ref (a 0), .int p0] (w0 K a (N, M, S, rl, rh, bl, bh, kl, kh, mn, vc, iv, sc)) (fun r u => kHul N M p0 = 0 ∧ r = redC (hul (ivF M N (ix p0)) rl rh N) (absL (detM M N)) ∧ ∃ mn1 iv1 sc1, u = (N, M, S, rl, rh, bl, bh, kl, kh, mn1, vc, iv1, sc1)) (fun E u => ((kHul N M p0 = 1 ∧ E = "java/lang/IndexOutOfBoundsException") ∨ (kHul N M p0 = 2 ∧ E = "java/lang/ArithmeticException")) ∧ ∃ mn1 iv1 sc1, u = (N, M, S, rl, rh, bl, bh, kl, kh, mn1, vc, iv1, sc1)) (w0 K a) := by
  have hinX0 : ∀ w ∈ wsX00, w ∈ wsX0_lowNumerator := by decide +kernel
  have lk0 : Cond.fieldLink RX0 131 "IntervalSolver" "scale" "J" ∈ wsX0_lowNumerator := by decide +kernel
  have lk1 : Cond.classLink RX0 104 "java/lang/ArithmeticException" ∈ wsX0_lowNumerator := by decide +kernel
  have lk2 : Cond.initialized "java/lang/ArithmeticException" ∈ wsX0_lowNumerator := by decide +kernel
  have lk3 : Cond.classLink RX0 67 "java/lang/IndexOutOfBoundsException" ∈ wsX0_lowNumerator := by decide +kernel
  have lk4 : Cond.initialized "java/lang/IndexOutOfBoundsException" ∈ wsX0_lowNumerator := by decide +kernel
  refine x_met_l (cc := cX0_lowNumerator) (maxL := 2) (lv := [(0, .ref (a 0)), (1, .int p0)]) hst (by decide +kernel) rfl rfl (Nat.le_of_ble_eq_true rfl) rfl ?_
  intro p e s m below meth c args Q A C hend hthr
  refine z_aload_n C dX0_lowNumerator_0 0 rfl ?_
  refine z_iload_n C dX0_lowNumerator_1 1 rfl ?_
  refine z_callVi_all (As := [.int p0]) C (c0_isIndex l D K a N M S rl rh bl bh kl kh mn vc iv sc p0) (cwV 1 C.1.2.2.2.2 gX0_lowNumerator_X0_isIndex rfl rfl rfl (by decide +kernel) ⟨Nat.le_of_ble_eq_true rfl, Nat.le_of_ble_eq_true rfl⟩) (ci := 2) rfl rfl 0 rfl dX0_lowNumerator_2 rfl rfl (Nat.le_of_ble_eq_true rfl) ⟨Nat.le_of_ble_eq_true rfl, Nat.le_of_ble_eq_true rfl⟩ (fun r1 u1 h1 => ?_)
  obtain ⟨rfl, rfl⟩ := h1
  refine z_if_ne (tgt := 18) C dX0_lowNumerator_5 (by decide) (fun c5 => ?_) (fun c5 => ?_)
  · have q5 : ixP N p0 := zi1.mp c5
    obtain ⟨i_p0, l_p0⟩ := ixP_at hN q5
    refine z_aload_n C dX0_lowNumerator_18 0 rfl ?_
    refine z_callVi_all (As := []) C (c0_invert l D K a N M S rl rh bl bh kl kh mn vc iv sc (by omega)) (cwV 0 C.1.2.2.2.2 gX0_lowNumerator_X0_invert rfl rfl rfl (by decide +kernel) ⟨Nat.le_of_ble_eq_true rfl, Nat.le_of_ble_eq_true rfl⟩) (ci := 2) rfl rfl 0 rfl dX0_lowNumerator_19 rfl rfl (Nat.le_of_ble_eq_true rfl) ⟨Nat.le_of_ble_eq_true rfl, Nat.le_of_ble_eq_true rfl⟩ (fun r2 u2 h2 => ?_)
    obtain ⟨mn_2, iv_2, sc_2, rfl, hr_2, hvv⟩ := inv_out h2
    subst hr_2
    refine z_if_ne (tgt := 35) C dX0_lowNumerator_22 (by decide) (fun c22 => ?_) (fun c22 => ?_)
    · have q22 : ¬ detM M N = 0 := zi1.mp c22
      have hd := q22
      obtain ⟨hiv, hsc⟩ := hvv hd
      refine z_aload_n C dX0_lowNumerator_35 0 rfl ?_
      refine z_iload_n C dX0_lowNumerator_36 1 rfl ?_
      refine z_topi (nI (ix p0)) i_p0 ?_
      refine z_callVl_all (As := [.int (nI (ix p0))]) C (c0_scaledHullLow l D K a N M S rl rh bl bh kl kh mn_2 vc iv_2 sc_2 (ix p0) (by omega) (by omega)) (cwV 1 C.1.2.2.2.2 gX0_lowNumerator_X0_scaledHullLow rfl rfl rfl (by decide +kernel) ⟨Nat.le_of_ble_eq_true rfl, Nat.le_of_ble_eq_true rfl⟩) (ci := 2) rfl rfl 0 rfl dX0_lowNumerator_37 rfl rfl (Nat.le_of_ble_eq_true rfl) ⟨Nat.le_of_ble_eq_true rfl, Nat.le_of_ble_eq_true rfl⟩ (fun r3 u3 h3 => ?_)
      obtain ⟨rfl, rfl⟩ := h3
      refine z_aload_n C dX0_lowNumerator_40 0 rfl ?_
      refine z_get (cl := vwCl) (T := TX0) (N := 13) (ci := 2) (ref := "IntervalSolver") C hinX0 rfl 12 (by decide) lk0 rfl dX0_lowNumerator_41 0 rfl rfl ?_
      refine z_callSl_none (As := [.long (hul (iv_2 (ix p0)) rl rh N), .long sc_2]) C (c0_reduced l D K (hul (iv_2 (ix p0)) rl rh N) sc_2) (va_cwS 2 C.1.2.2.2.2 gX0_lowNumerator_X0_reduced rfl rfl rfl (by decide +kernel) ⟨Nat.le_of_ble_eq_true rfl, Nat.le_of_ble_eq_true rfl⟩) dX0_lowNumerator_44 rfl rfl (Nat.le_of_ble_eq_true rfl) ⟨Nat.le_of_ble_eq_true rfl, Nat.le_of_ble_eq_true rfl⟩ (fun r4 u4 h4 => ?_)
      have g4 : r4 = redC (hul (iv_2 (ix p0)) rl rh N) sc_2 := h4
      rw [g4]
      exact hend _ _ _ _ _ (N, M, S, rl, rh, bl, bh, kl, kh, mn_2, vc, iv_2, sc_2) dX0_lowNumerator_47 (by omega) (by omega) ⟨by unfold kHul; rw [if_pos q5, if_neg hd], by rw [hul_congr (fun j hj => hiv (ix p0) j (by omega) hj), hsc], _, _, _, rfl⟩
    · have q22 : ¬ (¬ detM M N = 0) := zi0.mp c22
      have hd0 := Decidable.of_not_not q22
      exact hthr _ _ _ _ 104 125 108 "java/lang/ArithmeticException" "the determinant is 0" (N, M, S, rl, rh, bl, bh, kl, kh, mn_2, vc, iv_2, sc_2) lk1 lk2 (by decide +kernel) (fun w hw => List.mem_cons_of_mem _ (List.mem_append_left _ (List.mem_append_left _ (List.mem_append_right _ hw)))) (by decide +kernel) dX0_lowNumerator_25 dX0_lowNumerator_28 dX0_lowNumerator_29 dX0_lowNumerator_31 dX0_lowNumerator_34 ⟨Nat.le_of_ble_eq_true rfl, Nat.le_of_ble_eq_true rfl, Nat.le_of_ble_eq_true rfl, Nat.le_of_ble_eq_true rfl⟩ (Nat.le_of_ble_eq_true rfl) (Nat.le_of_ble_eq_true rfl) ⟨Or.inr (⟨by unfold kHul; rw [if_pos q5, if_pos hd0], rfl⟩), _, _, _, rfl⟩
  · have q5 : ¬ (ixP N p0) := zi0.mp c5
    exact hthr _ _ _ _ 67 119 71 "java/lang/IndexOutOfBoundsException" "no such component" (N, M, S, rl, rh, bl, bh, kl, kh, mn, vc, iv, sc) lk3 lk4 (by decide +kernel) (fun w hw => List.mem_cons_of_mem _ (List.mem_append_left _ (List.mem_append_left _ (List.mem_append_left _ (List.mem_append_right _ hw))))) (by decide +kernel) dX0_lowNumerator_8 dX0_lowNumerator_11 dX0_lowNumerator_12 dX0_lowNumerator_14 dX0_lowNumerator_17 ⟨Nat.le_of_ble_eq_true rfl, Nat.le_of_ble_eq_true rfl, Nat.le_of_ble_eq_true rfl, Nat.le_of_ble_eq_true rfl⟩ (Nat.le_of_ble_eq_true rfl) (Nat.le_of_ble_eq_true rfl) ⟨Or.inl (⟨if_neg q5, rfl⟩), _, _, _, rfl⟩

set_option maxRecDepth 100000 in
set_option maxHeartbeats 4000000 in
theorem c0_lowDenominator (l : Launch) (D : va_G) (K : Nat → ClassId) (a : Nat → Nat) (N : Nat) (M : Nat → Nat → Int32) (S : Nat → Nat → Int32) (rl : Nat → Int32) (rh : Nat → Int32) (bl : Nat → Int32) (bh : Nat → Int32) (kl : Nat → Int32) (kh : Nat → Int32) (mn : Nat → Int64) (vc : Nat → Int64) (iv : Nat → Nat → Int64) (sc : Int64) (p0 : Int32) (hst : l.stackTraces = false) (hN : N ≤ 5) : xL l D K yX0_lowDenominator wsX0_lowDenominator 6 97 1 6 [.ref (a 0), .int p0] (w0 K a (N, M, S, rl, rh, bl, bh, kl, kh, mn, vc, iv, sc)) (fun r u => kHul N M p0 = 0 ∧ r = redC (absL (detM M N)) (hul (ivF M N (ix p0)) rl rh N) ∧ ∃ mn1 iv1 sc1, u = (N, M, S, rl, rh, bl, bh, kl, kh, mn1, vc, iv1, sc1)) (fun E u => ((kHul N M p0 = 1 ∧ E = "java/lang/IndexOutOfBoundsException") ∨ (kHul N M p0 = 2 ∧ E = "java/lang/ArithmeticException")) ∧ ∃ mn1 iv1 sc1, u = (N, M, S, rl, rh, bl, bh, kl, kh, mn1, vc, iv1, sc1)) (w0 K a) := by
  have hinX0 : ∀ w ∈ wsX00, w ∈ wsX0_lowDenominator := by decide +kernel
  have lk0 : Cond.fieldLink RX0 131 "IntervalSolver" "scale" "J" ∈ wsX0_lowDenominator := by decide +kernel
  have lk1 : Cond.classLink RX0 104 "java/lang/ArithmeticException" ∈ wsX0_lowDenominator := by decide +kernel
  have lk2 : Cond.initialized "java/lang/ArithmeticException" ∈ wsX0_lowDenominator := by decide +kernel
  have lk3 : Cond.classLink RX0 67 "java/lang/IndexOutOfBoundsException" ∈ wsX0_lowDenominator := by decide +kernel
  have lk4 : Cond.initialized "java/lang/IndexOutOfBoundsException" ∈ wsX0_lowDenominator := by decide +kernel
  refine x_met_l (cc := cX0_lowDenominator) (maxL := 2) (lv := [(0, .ref (a 0)), (1, .int p0)]) hst (by decide +kernel) rfl rfl (Nat.le_of_ble_eq_true rfl) rfl ?_
  intro p e s m below meth c args Q A C hend hthr
  refine z_aload_n C dX0_lowDenominator_0 0 rfl ?_
  refine z_iload_n C dX0_lowDenominator_1 1 rfl ?_
  refine z_callVi_all (As := [.int p0]) C (c0_isIndex l D K a N M S rl rh bl bh kl kh mn vc iv sc p0) (cwV 1 C.1.2.2.2.2 gX0_lowDenominator_X0_isIndex rfl rfl rfl (by decide +kernel) ⟨Nat.le_of_ble_eq_true rfl, Nat.le_of_ble_eq_true rfl⟩) (ci := 2) rfl rfl 0 rfl dX0_lowDenominator_2 rfl rfl (Nat.le_of_ble_eq_true rfl) ⟨Nat.le_of_ble_eq_true rfl, Nat.le_of_ble_eq_true rfl⟩ (fun r1 u1 h1 => ?_)
  obtain ⟨rfl, rfl⟩ := h1
  refine z_if_ne (tgt := 18) C dX0_lowDenominator_5 (by decide) (fun c5 => ?_) (fun c5 => ?_)
  · have q5 : ixP N p0 := zi1.mp c5
    obtain ⟨i_p0, l_p0⟩ := ixP_at hN q5
    refine z_aload_n C dX0_lowDenominator_18 0 rfl ?_
    refine z_callVi_all (As := []) C (c0_invert l D K a N M S rl rh bl bh kl kh mn vc iv sc (by omega)) (cwV 0 C.1.2.2.2.2 gX0_lowDenominator_X0_invert rfl rfl rfl (by decide +kernel) ⟨Nat.le_of_ble_eq_true rfl, Nat.le_of_ble_eq_true rfl⟩) (ci := 2) rfl rfl 0 rfl dX0_lowDenominator_19 rfl rfl (Nat.le_of_ble_eq_true rfl) ⟨Nat.le_of_ble_eq_true rfl, Nat.le_of_ble_eq_true rfl⟩ (fun r2 u2 h2 => ?_)
    obtain ⟨mn_2, iv_2, sc_2, rfl, hr_2, hvv⟩ := inv_out h2
    subst hr_2
    refine z_if_ne (tgt := 35) C dX0_lowDenominator_22 (by decide) (fun c22 => ?_) (fun c22 => ?_)
    · have q22 : ¬ detM M N = 0 := zi1.mp c22
      have hd := q22
      obtain ⟨hiv, hsc⟩ := hvv hd
      refine z_aload_n C dX0_lowDenominator_35 0 rfl ?_
      refine z_get (cl := vwCl) (T := TX0) (N := 13) (ci := 2) (ref := "IntervalSolver") C hinX0 rfl 12 (by decide) lk0 rfl dX0_lowDenominator_36 0 rfl rfl ?_
      refine z_aload_n C dX0_lowDenominator_39 0 rfl ?_
      refine z_iload_n C dX0_lowDenominator_40 1 rfl ?_
      refine z_topi (nI (ix p0)) i_p0 ?_
      refine z_callVl_all (As := [.int (nI (ix p0))]) C (c0_scaledHullLow l D K a N M S rl rh bl bh kl kh mn_2 vc iv_2 sc_2 (ix p0) (by omega) (by omega)) (cwV 1 C.1.2.2.2.2 gX0_lowDenominator_X0_scaledHullLow rfl rfl rfl (by decide +kernel) ⟨Nat.le_of_ble_eq_true rfl, Nat.le_of_ble_eq_true rfl⟩) (ci := 2) rfl rfl 0 rfl dX0_lowDenominator_41 rfl rfl (Nat.le_of_ble_eq_true rfl) ⟨Nat.le_of_ble_eq_true rfl, Nat.le_of_ble_eq_true rfl⟩ (fun r3 u3 h3 => ?_)
      obtain ⟨rfl, rfl⟩ := h3
      refine z_callSl_none (As := [.long sc_2, .long (hul (iv_2 (ix p0)) rl rh N)]) C (c0_reduced l D K sc_2 (hul (iv_2 (ix p0)) rl rh N)) (va_cwS 2 C.1.2.2.2.2 gX0_lowDenominator_X0_reduced rfl rfl rfl (by decide +kernel) ⟨Nat.le_of_ble_eq_true rfl, Nat.le_of_ble_eq_true rfl⟩) dX0_lowDenominator_44 rfl rfl (Nat.le_of_ble_eq_true rfl) ⟨Nat.le_of_ble_eq_true rfl, Nat.le_of_ble_eq_true rfl⟩ (fun r4 u4 h4 => ?_)
      have g4 : r4 = redC sc_2 (hul (iv_2 (ix p0)) rl rh N) := h4
      rw [g4]
      exact hend _ _ _ _ _ (N, M, S, rl, rh, bl, bh, kl, kh, mn_2, vc, iv_2, sc_2) dX0_lowDenominator_47 (by omega) (by omega) ⟨by unfold kHul; rw [if_pos q5, if_neg hd], by rw [hul_congr (fun j hj => hiv (ix p0) j (by omega) hj), hsc], _, _, _, rfl⟩
    · have q22 : ¬ (¬ detM M N = 0) := zi0.mp c22
      have hd0 := Decidable.of_not_not q22
      exact hthr _ _ _ _ 104 125 108 "java/lang/ArithmeticException" "the determinant is 0" (N, M, S, rl, rh, bl, bh, kl, kh, mn_2, vc, iv_2, sc_2) lk1 lk2 (by decide +kernel) (fun w hw => List.mem_cons_of_mem _ (List.mem_append_left _ (List.mem_append_left _ (List.mem_append_right _ hw)))) (by decide +kernel) dX0_lowDenominator_25 dX0_lowDenominator_28 dX0_lowDenominator_29 dX0_lowDenominator_31 dX0_lowDenominator_34 ⟨Nat.le_of_ble_eq_true rfl, Nat.le_of_ble_eq_true rfl, Nat.le_of_ble_eq_true rfl, Nat.le_of_ble_eq_true rfl⟩ (Nat.le_of_ble_eq_true rfl) (Nat.le_of_ble_eq_true rfl) ⟨Or.inr (⟨by unfold kHul; rw [if_pos q5, if_pos hd0], rfl⟩), _, _, _, rfl⟩
  · have q5 : ¬ (ixP N p0) := zi0.mp c5
    exact hthr _ _ _ _ 67 119 71 "java/lang/IndexOutOfBoundsException" "no such component" (N, M, S, rl, rh, bl, bh, kl, kh, mn, vc, iv, sc) lk3 lk4 (by decide +kernel) (fun w hw => List.mem_cons_of_mem _ (List.mem_append_left _ (List.mem_append_left _ (List.mem_append_left _ (List.mem_append_right _ hw))))) (by decide +kernel) dX0_lowDenominator_8 dX0_lowDenominator_11 dX0_lowDenominator_12 dX0_lowDenominator_14 dX0_lowDenominator_17 ⟨Nat.le_of_ble_eq_true rfl, Nat.le_of_ble_eq_true rfl, Nat.le_of_ble_eq_true rfl, Nat.le_of_ble_eq_true rfl⟩ (Nat.le_of_ble_eq_true rfl) (Nat.le_of_ble_eq_true rfl) ⟨Or.inl (⟨if_neg q5, rfl⟩), _, _, _, rfl⟩

set_option maxRecDepth 100000 in
set_option maxHeartbeats 4000000 in
theorem c0_highNumerator (l : Launch) (D : va_G) (K : Nat → ClassId) (a : Nat → Nat) (N : Nat) (M : Nat → Nat → Int32) (S : Nat → Nat → Int32) (rl : Nat → Int32) (rh : Nat → Int32) (bl : Nat → Int32) (bh : Nat → Int32) (kl : Nat → Int32) (kh : Nat → Int32) (mn : Nat → Int64) (vc : Nat → Int64) (iv : Nat → Nat → Int64) (sc : Int64) (p0 : Int32) (hst : l.stackTraces = false) (hN : N ≤ 5) : xL l D K yX0_highNumerator wsX0_highNumerator 6 97 1 6 [.ref (a 0), .int p0] (w0 K a (N, M, S, rl, rh, bl, bh, kl, kh, mn, vc, iv, sc)) (fun r u => kHul N M p0 = 0 ∧ r = redC (hul (ivF M N (ix p0)) rh rl N) (absL (detM M N)) ∧ ∃ mn1 iv1 sc1, u = (N, M, S, rl, rh, bl, bh, kl, kh, mn1, vc, iv1, sc1)) (fun E u => ((kHul N M p0 = 1 ∧ E = "java/lang/IndexOutOfBoundsException") ∨ (kHul N M p0 = 2 ∧ E = "java/lang/ArithmeticException")) ∧ ∃ mn1 iv1 sc1, u = (N, M, S, rl, rh, bl, bh, kl, kh, mn1, vc, iv1, sc1)) (w0 K a) := by
  have hinX0 : ∀ w ∈ wsX00, w ∈ wsX0_highNumerator := by decide +kernel
  have lk0 : Cond.fieldLink RX0 131 "IntervalSolver" "scale" "J" ∈ wsX0_highNumerator := by decide +kernel
  have lk1 : Cond.classLink RX0 104 "java/lang/ArithmeticException" ∈ wsX0_highNumerator := by decide +kernel
  have lk2 : Cond.initialized "java/lang/ArithmeticException" ∈ wsX0_highNumerator := by decide +kernel
  have lk3 : Cond.classLink RX0 67 "java/lang/IndexOutOfBoundsException" ∈ wsX0_highNumerator := by decide +kernel
  have lk4 : Cond.initialized "java/lang/IndexOutOfBoundsException" ∈ wsX0_highNumerator := by decide +kernel
  refine x_met_l (cc := cX0_highNumerator) (maxL := 2) (lv := [(0, .ref (a 0)), (1, .int p0)]) hst (by decide +kernel) rfl rfl (Nat.le_of_ble_eq_true rfl) rfl ?_
  intro p e s m below meth c args Q A C hend hthr
  refine z_aload_n C dX0_highNumerator_0 0 rfl ?_
  refine z_iload_n C dX0_highNumerator_1 1 rfl ?_
  refine z_callVi_all (As := [.int p0]) C (c0_isIndex l D K a N M S rl rh bl bh kl kh mn vc iv sc p0) (cwV 1 C.1.2.2.2.2 gX0_highNumerator_X0_isIndex rfl rfl rfl (by decide +kernel) ⟨Nat.le_of_ble_eq_true rfl, Nat.le_of_ble_eq_true rfl⟩) (ci := 2) rfl rfl 0 rfl dX0_highNumerator_2 rfl rfl (Nat.le_of_ble_eq_true rfl) ⟨Nat.le_of_ble_eq_true rfl, Nat.le_of_ble_eq_true rfl⟩ (fun r1 u1 h1 => ?_)
  obtain ⟨rfl, rfl⟩ := h1
  refine z_if_ne (tgt := 18) C dX0_highNumerator_5 (by decide) (fun c5 => ?_) (fun c5 => ?_)
  · have q5 : ixP N p0 := zi1.mp c5
    obtain ⟨i_p0, l_p0⟩ := ixP_at hN q5
    refine z_aload_n C dX0_highNumerator_18 0 rfl ?_
    refine z_callVi_all (As := []) C (c0_invert l D K a N M S rl rh bl bh kl kh mn vc iv sc (by omega)) (cwV 0 C.1.2.2.2.2 gX0_highNumerator_X0_invert rfl rfl rfl (by decide +kernel) ⟨Nat.le_of_ble_eq_true rfl, Nat.le_of_ble_eq_true rfl⟩) (ci := 2) rfl rfl 0 rfl dX0_highNumerator_19 rfl rfl (Nat.le_of_ble_eq_true rfl) ⟨Nat.le_of_ble_eq_true rfl, Nat.le_of_ble_eq_true rfl⟩ (fun r2 u2 h2 => ?_)
    obtain ⟨mn_2, iv_2, sc_2, rfl, hr_2, hvv⟩ := inv_out h2
    subst hr_2
    refine z_if_ne (tgt := 35) C dX0_highNumerator_22 (by decide) (fun c22 => ?_) (fun c22 => ?_)
    · have q22 : ¬ detM M N = 0 := zi1.mp c22
      have hd := q22
      obtain ⟨hiv, hsc⟩ := hvv hd
      refine z_aload_n C dX0_highNumerator_35 0 rfl ?_
      refine z_iload_n C dX0_highNumerator_36 1 rfl ?_
      refine z_topi (nI (ix p0)) i_p0 ?_
      refine z_callVl_all (As := [.int (nI (ix p0))]) C (c0_scaledHullHigh l D K a N M S rl rh bl bh kl kh mn_2 vc iv_2 sc_2 (ix p0) (by omega) (by omega)) (cwV 1 C.1.2.2.2.2 gX0_highNumerator_X0_scaledHullHigh rfl rfl rfl (by decide +kernel) ⟨Nat.le_of_ble_eq_true rfl, Nat.le_of_ble_eq_true rfl⟩) (ci := 2) rfl rfl 0 rfl dX0_highNumerator_37 rfl rfl (Nat.le_of_ble_eq_true rfl) ⟨Nat.le_of_ble_eq_true rfl, Nat.le_of_ble_eq_true rfl⟩ (fun r3 u3 h3 => ?_)
      obtain ⟨rfl, rfl⟩ := h3
      refine z_aload_n C dX0_highNumerator_40 0 rfl ?_
      refine z_get (cl := vwCl) (T := TX0) (N := 13) (ci := 2) (ref := "IntervalSolver") C hinX0 rfl 12 (by decide) lk0 rfl dX0_highNumerator_41 0 rfl rfl ?_
      refine z_callSl_none (As := [.long (hul (iv_2 (ix p0)) rh rl N), .long sc_2]) C (c0_reduced l D K (hul (iv_2 (ix p0)) rh rl N) sc_2) (va_cwS 2 C.1.2.2.2.2 gX0_highNumerator_X0_reduced rfl rfl rfl (by decide +kernel) ⟨Nat.le_of_ble_eq_true rfl, Nat.le_of_ble_eq_true rfl⟩) dX0_highNumerator_44 rfl rfl (Nat.le_of_ble_eq_true rfl) ⟨Nat.le_of_ble_eq_true rfl, Nat.le_of_ble_eq_true rfl⟩ (fun r4 u4 h4 => ?_)
      have g4 : r4 = redC (hul (iv_2 (ix p0)) rh rl N) sc_2 := h4
      rw [g4]
      exact hend _ _ _ _ _ (N, M, S, rl, rh, bl, bh, kl, kh, mn_2, vc, iv_2, sc_2) dX0_highNumerator_47 (by omega) (by omega) ⟨by unfold kHul; rw [if_pos q5, if_neg hd], by rw [hul_congr (fun j hj => hiv (ix p0) j (by omega) hj), hsc], _, _, _, rfl⟩
    · have q22 : ¬ (¬ detM M N = 0) := zi0.mp c22
      have hd0 := Decidable.of_not_not q22
      exact hthr _ _ _ _ 104 125 108 "java/lang/ArithmeticException" "the determinant is 0" (N, M, S, rl, rh, bl, bh, kl, kh, mn_2, vc, iv_2, sc_2) lk1 lk2 (by decide +kernel) (fun w hw => List.mem_cons_of_mem _ (List.mem_append_left _ (List.mem_append_left _ (List.mem_append_right _ hw)))) (by decide +kernel) dX0_highNumerator_25 dX0_highNumerator_28 dX0_highNumerator_29 dX0_highNumerator_31 dX0_highNumerator_34 ⟨Nat.le_of_ble_eq_true rfl, Nat.le_of_ble_eq_true rfl, Nat.le_of_ble_eq_true rfl, Nat.le_of_ble_eq_true rfl⟩ (Nat.le_of_ble_eq_true rfl) (Nat.le_of_ble_eq_true rfl) ⟨Or.inr (⟨by unfold kHul; rw [if_pos q5, if_pos hd0], rfl⟩), _, _, _, rfl⟩
  · have q5 : ¬ (ixP N p0) := zi0.mp c5
    exact hthr _ _ _ _ 67 119 71 "java/lang/IndexOutOfBoundsException" "no such component" (N, M, S, rl, rh, bl, bh, kl, kh, mn, vc, iv, sc) lk3 lk4 (by decide +kernel) (fun w hw => List.mem_cons_of_mem _ (List.mem_append_left _ (List.mem_append_left _ (List.mem_append_left _ (List.mem_append_right _ hw))))) (by decide +kernel) dX0_highNumerator_8 dX0_highNumerator_11 dX0_highNumerator_12 dX0_highNumerator_14 dX0_highNumerator_17 ⟨Nat.le_of_ble_eq_true rfl, Nat.le_of_ble_eq_true rfl, Nat.le_of_ble_eq_true rfl, Nat.le_of_ble_eq_true rfl⟩ (Nat.le_of_ble_eq_true rfl) (Nat.le_of_ble_eq_true rfl) ⟨Or.inl (⟨if_neg q5, rfl⟩), _, _, _, rfl⟩

set_option maxRecDepth 100000 in
set_option maxHeartbeats 4000000 in
theorem c0_highDenominator (l : Launch) (D : va_G) (K : Nat → ClassId) (a : Nat → Nat) (N : Nat) (M : Nat → Nat → Int32) (S : Nat → Nat → Int32) (rl : Nat → Int32) (rh : Nat → Int32) (bl : Nat → Int32) (bh : Nat → Int32) (kl : Nat → Int32) (kh : Nat → Int32) (mn : Nat → Int64) (vc : Nat → Int64) (iv : Nat → Nat → Int64) (sc : Int64) (p0 : Int32) (hst : l.stackTraces = false) (hN : N ≤ 5) : xL l D K yX0_highDenominator wsX0_highDenominator 6 97 1 6 [.ref (a 0), .int p0] (w0 K a (N, M, S, rl, rh, bl, bh, kl, kh, mn, vc, iv, sc)) (fun r u => kHul N M p0 = 0 ∧ r = redC (absL (detM M N)) (hul (ivF M N (ix p0)) rh rl N) ∧ ∃ mn1 iv1 sc1, u = (N, M, S, rl, rh, bl, bh, kl, kh, mn1, vc, iv1, sc1)) (fun E u => ((kHul N M p0 = 1 ∧ E = "java/lang/IndexOutOfBoundsException") ∨ (kHul N M p0 = 2 ∧ E = "java/lang/ArithmeticException")) ∧ ∃ mn1 iv1 sc1, u = (N, M, S, rl, rh, bl, bh, kl, kh, mn1, vc, iv1, sc1)) (w0 K a) := by
  have hinX0 : ∀ w ∈ wsX00, w ∈ wsX0_highDenominator := by decide +kernel
  have lk0 : Cond.fieldLink RX0 131 "IntervalSolver" "scale" "J" ∈ wsX0_highDenominator := by decide +kernel
  have lk1 : Cond.classLink RX0 104 "java/lang/ArithmeticException" ∈ wsX0_highDenominator := by decide +kernel
  have lk2 : Cond.initialized "java/lang/ArithmeticException" ∈ wsX0_highDenominator := by decide +kernel
  have lk3 : Cond.classLink RX0 67 "java/lang/IndexOutOfBoundsException" ∈ wsX0_highDenominator := by decide +kernel
  have lk4 : Cond.initialized "java/lang/IndexOutOfBoundsException" ∈ wsX0_highDenominator := by decide +kernel
  refine x_met_l (cc := cX0_highDenominator) (maxL := 2) (lv := [(0, .ref (a 0)), (1, .int p0)]) hst (by decide +kernel) rfl rfl (Nat.le_of_ble_eq_true rfl) rfl ?_
  intro p e s m below meth c args Q A C hend hthr
  refine z_aload_n C dX0_highDenominator_0 0 rfl ?_
  refine z_iload_n C dX0_highDenominator_1 1 rfl ?_
  refine z_callVi_all (As := [.int p0]) C (c0_isIndex l D K a N M S rl rh bl bh kl kh mn vc iv sc p0) (cwV 1 C.1.2.2.2.2 gX0_highDenominator_X0_isIndex rfl rfl rfl (by decide +kernel) ⟨Nat.le_of_ble_eq_true rfl, Nat.le_of_ble_eq_true rfl⟩) (ci := 2) rfl rfl 0 rfl dX0_highDenominator_2 rfl rfl (Nat.le_of_ble_eq_true rfl) ⟨Nat.le_of_ble_eq_true rfl, Nat.le_of_ble_eq_true rfl⟩ (fun r1 u1 h1 => ?_)
  obtain ⟨rfl, rfl⟩ := h1
  refine z_if_ne (tgt := 18) C dX0_highDenominator_5 (by decide) (fun c5 => ?_) (fun c5 => ?_)
  · have q5 : ixP N p0 := zi1.mp c5
    obtain ⟨i_p0, l_p0⟩ := ixP_at hN q5
    refine z_aload_n C dX0_highDenominator_18 0 rfl ?_
    refine z_callVi_all (As := []) C (c0_invert l D K a N M S rl rh bl bh kl kh mn vc iv sc (by omega)) (cwV 0 C.1.2.2.2.2 gX0_highDenominator_X0_invert rfl rfl rfl (by decide +kernel) ⟨Nat.le_of_ble_eq_true rfl, Nat.le_of_ble_eq_true rfl⟩) (ci := 2) rfl rfl 0 rfl dX0_highDenominator_19 rfl rfl (Nat.le_of_ble_eq_true rfl) ⟨Nat.le_of_ble_eq_true rfl, Nat.le_of_ble_eq_true rfl⟩ (fun r2 u2 h2 => ?_)
    obtain ⟨mn_2, iv_2, sc_2, rfl, hr_2, hvv⟩ := inv_out h2
    subst hr_2
    refine z_if_ne (tgt := 35) C dX0_highDenominator_22 (by decide) (fun c22 => ?_) (fun c22 => ?_)
    · have q22 : ¬ detM M N = 0 := zi1.mp c22
      have hd := q22
      obtain ⟨hiv, hsc⟩ := hvv hd
      refine z_aload_n C dX0_highDenominator_35 0 rfl ?_
      refine z_get (cl := vwCl) (T := TX0) (N := 13) (ci := 2) (ref := "IntervalSolver") C hinX0 rfl 12 (by decide) lk0 rfl dX0_highDenominator_36 0 rfl rfl ?_
      refine z_aload_n C dX0_highDenominator_39 0 rfl ?_
      refine z_iload_n C dX0_highDenominator_40 1 rfl ?_
      refine z_topi (nI (ix p0)) i_p0 ?_
      refine z_callVl_all (As := [.int (nI (ix p0))]) C (c0_scaledHullHigh l D K a N M S rl rh bl bh kl kh mn_2 vc iv_2 sc_2 (ix p0) (by omega) (by omega)) (cwV 1 C.1.2.2.2.2 gX0_highDenominator_X0_scaledHullHigh rfl rfl rfl (by decide +kernel) ⟨Nat.le_of_ble_eq_true rfl, Nat.le_of_ble_eq_true rfl⟩) (ci := 2) rfl rfl 0 rfl dX0_highDenominator_41 rfl rfl (Nat.le_of_ble_eq_true rfl) ⟨Nat.le_of_ble_eq_true rfl, Nat.le_of_ble_eq_true rfl⟩ (fun r3 u3 h3 => ?_)
      obtain ⟨rfl, rfl⟩ := h3
      refine z_callSl_none (As := [.long sc_2, .long (hul (iv_2 (ix p0)) rh rl N)]) C (c0_reduced l D K sc_2 (hul (iv_2 (ix p0)) rh rl N)) (va_cwS 2 C.1.2.2.2.2 gX0_highDenominator_X0_reduced rfl rfl rfl (by decide +kernel) ⟨Nat.le_of_ble_eq_true rfl, Nat.le_of_ble_eq_true rfl⟩) dX0_highDenominator_44 rfl rfl (Nat.le_of_ble_eq_true rfl) ⟨Nat.le_of_ble_eq_true rfl, Nat.le_of_ble_eq_true rfl⟩ (fun r4 u4 h4 => ?_)
      have g4 : r4 = redC sc_2 (hul (iv_2 (ix p0)) rh rl N) := h4
      rw [g4]
      exact hend _ _ _ _ _ (N, M, S, rl, rh, bl, bh, kl, kh, mn_2, vc, iv_2, sc_2) dX0_highDenominator_47 (by omega) (by omega) ⟨by unfold kHul; rw [if_pos q5, if_neg hd], by rw [hul_congr (fun j hj => hiv (ix p0) j (by omega) hj), hsc], _, _, _, rfl⟩
    · have q22 : ¬ (¬ detM M N = 0) := zi0.mp c22
      have hd0 := Decidable.of_not_not q22
      exact hthr _ _ _ _ 104 125 108 "java/lang/ArithmeticException" "the determinant is 0" (N, M, S, rl, rh, bl, bh, kl, kh, mn_2, vc, iv_2, sc_2) lk1 lk2 (by decide +kernel) (fun w hw => List.mem_cons_of_mem _ (List.mem_append_left _ (List.mem_append_left _ (List.mem_append_right _ hw)))) (by decide +kernel) dX0_highDenominator_25 dX0_highDenominator_28 dX0_highDenominator_29 dX0_highDenominator_31 dX0_highDenominator_34 ⟨Nat.le_of_ble_eq_true rfl, Nat.le_of_ble_eq_true rfl, Nat.le_of_ble_eq_true rfl, Nat.le_of_ble_eq_true rfl⟩ (Nat.le_of_ble_eq_true rfl) (Nat.le_of_ble_eq_true rfl) ⟨Or.inr (⟨by unfold kHul; rw [if_pos q5, if_pos hd0], rfl⟩), _, _, _, rfl⟩
  · have q5 : ¬ (ixP N p0) := zi0.mp c5
    exact hthr _ _ _ _ 67 119 71 "java/lang/IndexOutOfBoundsException" "no such component" (N, M, S, rl, rh, bl, bh, kl, kh, mn, vc, iv, sc) lk3 lk4 (by decide +kernel) (fun w hw => List.mem_cons_of_mem _ (List.mem_append_left _ (List.mem_append_left _ (List.mem_append_left _ (List.mem_append_right _ hw))))) (by decide +kernel) dX0_highDenominator_8 dX0_highDenominator_11 dX0_highDenominator_12 dX0_highDenominator_14 dX0_highDenominator_17 ⟨Nat.le_of_ble_eq_true rfl, Nat.le_of_ble_eq_true rfl, Nat.le_of_ble_eq_true rfl, Nat.le_of_ble_eq_true rfl⟩ (Nat.le_of_ble_eq_true rfl) (Nat.le_of_ble_eq_true rfl) ⟨Or.inl (⟨if_neg q5, rfl⟩), _, _, _, rfl⟩

set_option maxRecDepth 100000 in
set_option maxHeartbeats 4000000 in
theorem c0_inverseNumerator (l : Launch) (D : va_G) (K : Nat → ClassId) (a : Nat → Nat) (N : Nat) (M : Nat → Nat → Int32) (S : Nat → Nat → Int32) (rl : Nat → Int32) (rh : Nat → Int32) (bl : Nat → Int32) (bh : Nat → Int32) (kl : Nat → Int32) (kh : Nat → Int32) (mn : Nat → Int64) (vc : Nat → Int64) (iv : Nat → Nat → Int64) (sc : Int64) (p0 : Int32) (p1 : Int32) (hst : l.stackTraces = false) (hN : N ≤ 5) : xL l D K yX0_inverseNumerator wsX0_inverseNumerator 6 97 1 6 [.ref (a 0), .int p0, .int p1] (w0 K a (N, M, S, rl, rh, bl, bh, kl, kh, mn, vc, iv, sc)) (fun r u => kHul2 N M p0 p1 = 0 ∧ r = redC (ivF M N (ix p0) (ix p1)) (absL (detM M N)) ∧ ∃ mn1 iv1 sc1, u = (N, M, S, rl, rh, bl, bh, kl, kh, mn1, vc, iv1, sc1)) (fun E u => ((kHul2 N M p0 p1 = 1 ∧ E = "java/lang/IndexOutOfBoundsException") ∨ (kHul2 N M p0 p1 = 2 ∧ E = "java/lang/ArithmeticException")) ∧ ∃ mn1 iv1 sc1, u = (N, M, S, rl, rh, bl, bh, kl, kh, mn1, vc, iv1, sc1)) (w0 K a) := by
  have hinX0 : ∀ w ∈ wsX00, w ∈ wsX0_inverseNumerator := by decide +kernel
  have lk0 : Cond.classLink RX0 67 "java/lang/IndexOutOfBoundsException" ∈ wsX0_inverseNumerator := by decide +kernel
  have lk1 : Cond.initialized "java/lang/IndexOutOfBoundsException" ∈ wsX0_inverseNumerator := by decide +kernel
  have lk2 : Cond.fieldLink RX0 45 "IntervalSolver" "scaledInverse" "[[J" ∈ wsX0_inverseNumerator := by decide +kernel
  have lk3 : Cond.fieldLink RX0 131 "IntervalSolver" "scale" "J" ∈ wsX0_inverseNumerator := by decide +kernel
  have lk4 : Cond.classLink RX0 104 "java/lang/ArithmeticException" ∈ wsX0_inverseNumerator := by decide +kernel
  have lk5 : Cond.initialized "java/lang/ArithmeticException" ∈ wsX0_inverseNumerator := by decide +kernel
  refine x_met_l (cc := cX0_inverseNumerator) (maxL := 3) (lv := [(0, .ref (a 0)), (1, .int p0), (2, .int p1)]) hst (by decide +kernel) rfl rfl (Nat.le_of_ble_eq_true rfl) rfl ?_
  intro p e s m below meth c args Q A C hend hthr
  refine z_aload_n C dX0_inverseNumerator_0 0 rfl ?_
  refine z_iload_n C dX0_inverseNumerator_1 1 rfl ?_
  refine z_callVi_all (As := [.int p0]) C (c0_isIndex l D K a N M S rl rh bl bh kl kh mn vc iv sc p0) (cwV 1 C.1.2.2.2.2 gX0_inverseNumerator_X0_isIndex rfl rfl rfl (by decide +kernel) ⟨Nat.le_of_ble_eq_true rfl, Nat.le_of_ble_eq_true rfl⟩) (ci := 2) rfl rfl 0 rfl dX0_inverseNumerator_2 rfl rfl (Nat.le_of_ble_eq_true rfl) ⟨Nat.le_of_ble_eq_true rfl, Nat.le_of_ble_eq_true rfl⟩ (fun r1 u1 h1 => ?_)
  obtain ⟨rfl, rfl⟩ := h1
  refine z_if_eq (tgt := 16) C dX0_inverseNumerator_5 (by decide) (fun c5 => ?_) (fun c5 => ?_)
  · have q5 : ¬ (ixP N p0) := zi0.mp c5
    exact hthr _ _ _ _ 67 69 71 "java/lang/IndexOutOfBoundsException" "no such row or column" (N, M, S, rl, rh, bl, bh, kl, kh, mn, vc, iv, sc) lk0 lk1 (by decide +kernel) (fun w hw => List.mem_cons_of_mem _ (List.mem_append_left _ (List.mem_append_left _ (List.mem_append_left _ (List.mem_append_right _ hw))))) (by decide +kernel) dX0_inverseNumerator_16 dX0_inverseNumerator_19 dX0_inverseNumerator_20 dX0_inverseNumerator_22 dX0_inverseNumerator_25 ⟨Nat.le_of_ble_eq_true rfl, Nat.le_of_ble_eq_true rfl, Nat.le_of_ble_eq_true rfl, Nat.le_of_ble_eq_true rfl⟩ (Nat.le_of_ble_eq_true rfl) (Nat.le_of_ble_eq_true rfl) ⟨Or.inl (⟨if_neg (by rintro ⟨h1, h2⟩; first | exact q5 h1 | exact q13 h2), rfl⟩), _, _, _, rfl⟩
  · have q5 : ixP N p0 := zi1.mp c5
    obtain ⟨i_p0, l_p0⟩ := ixP_at hN q5
    refine z_aload_n C dX0_inverseNumerator_8 0 rfl ?_
    refine z_iload_n C dX0_inverseNumerator_9 2 rfl ?_
    refine z_callVi_all (As := [.int p1]) C (c0_isIndex l D K a N M S rl rh bl bh kl kh mn vc iv sc p1) (cwV 1 C.1.2.2.2.2 gX0_inverseNumerator_X0_isIndex rfl rfl rfl (by decide +kernel) ⟨Nat.le_of_ble_eq_true rfl, Nat.le_of_ble_eq_true rfl⟩) (ci := 2) rfl rfl 0 rfl dX0_inverseNumerator_10 rfl rfl (Nat.le_of_ble_eq_true rfl) ⟨Nat.le_of_ble_eq_true rfl, Nat.le_of_ble_eq_true rfl⟩ (fun r2 u2 h2 => ?_)
    obtain ⟨rfl, rfl⟩ := h2
    refine z_if_ne (tgt := 26) C dX0_inverseNumerator_13 (by decide) (fun c13 => ?_) (fun c13 => ?_)
    · have q13 : ixP N p1 := zi1.mp c13
      obtain ⟨i_p1, l_p1⟩ := ixP_at hN q13
      refine z_aload_n C dX0_inverseNumerator_26 0 rfl ?_
      refine z_callVi_all (As := []) C (c0_invert l D K a N M S rl rh bl bh kl kh mn vc iv sc (by omega)) (cwV 0 C.1.2.2.2.2 gX0_inverseNumerator_X0_invert rfl rfl rfl (by decide +kernel) ⟨Nat.le_of_ble_eq_true rfl, Nat.le_of_ble_eq_true rfl⟩) (ci := 2) rfl rfl 0 rfl dX0_inverseNumerator_27 rfl rfl (Nat.le_of_ble_eq_true rfl) ⟨Nat.le_of_ble_eq_true rfl, Nat.le_of_ble_eq_true rfl⟩ (fun r3 u3 h3 => ?_)
      obtain ⟨mn_3, iv_3, sc_3, rfl, hr_3, hvv⟩ := inv_out h3
      subst hr_3
      refine z_if_ne (tgt := 43) C dX0_inverseNumerator_30 (by decide) (fun c30 => ?_) (fun c30 => ?_)
      · have q30 : ¬ detM M N = 0 := zi1.mp c30
        have hd := q30
        obtain ⟨hiv, hsc⟩ := hvv hd
        refine z_aload_n C dX0_inverseNumerator_43 0 rfl ?_
        refine z_get (cl := vwCl) (T := TX0) (N := 13) (ci := 2) (ref := "IntervalSolver") C hinX0 rfl 11 (by decide) lk2 rfl dX0_inverseNumerator_44 0 rfl rfl ?_
        refine z_iload_n C dX0_inverseNumerator_47 1 rfl ?_
        refine z_aald (y := a (22 + (ix p0))) C 3 rfl 11 rfl dX0_inverseNumerator_48 (ix p0) i_p0 (by omega) (by decide) (if_pos (by omega)) ?_
        refine z_iload_n C dX0_inverseNumerator_49 2 rfl ?_
        refine z_lald C 1 rfl (22 + (ix p0)) (w0_atV (by omega)) dX0_inverseNumerator_50 (ix p1) i_p1 (by omega) (by decide) ?_
        refine z_aload_n C dX0_inverseNumerator_51 0 rfl ?_
        refine z_get (cl := vwCl) (T := TX0) (N := 13) (ci := 2) (ref := "IntervalSolver") C hinX0 rfl 12 (by decide) lk3 rfl dX0_inverseNumerator_52 0 rfl rfl ?_
        refine z_callSl_none (As := [.long (iv_3 (ix p0) (ix p1)), .long sc_3]) C (c0_reduced l D K (iv_3 (ix p0) (ix p1)) sc_3) (va_cwS 2 C.1.2.2.2.2 gX0_inverseNumerator_X0_reduced rfl rfl rfl (by decide +kernel) ⟨Nat.le_of_ble_eq_true rfl, Nat.le_of_ble_eq_true rfl⟩) dX0_inverseNumerator_55 rfl rfl (Nat.le_of_ble_eq_true rfl) ⟨Nat.le_of_ble_eq_true rfl, Nat.le_of_ble_eq_true rfl⟩ (fun r4 u4 h4 => ?_)
        have g4 : r4 = redC (iv_3 (ix p0) (ix p1)) sc_3 := h4
        rw [g4]
        exact hend _ _ _ _ _ (N, M, S, rl, rh, bl, bh, kl, kh, mn_3, vc, iv_3, sc_3) dX0_inverseNumerator_58 (by omega) (by omega) ⟨by unfold kHul2; rw [if_pos ⟨q5, q13⟩, if_neg hd], by rw [hiv (ix p0) (ix p1) (by omega) (by omega), hsc], _, _, _, rfl⟩
      · have q30 : ¬ (¬ detM M N = 0) := zi0.mp c30
        have hd0 := Decidable.of_not_not q30
        exact hthr _ _ _ _ 104 125 108 "java/lang/ArithmeticException" "the determinant is 0" (N, M, S, rl, rh, bl, bh, kl, kh, mn_3, vc, iv_3, sc_3) lk4 lk5 (by decide +kernel) (fun w hw => List.mem_cons_of_mem _ (List.mem_append_left _ (List.mem_append_left _ (List.mem_append_right _ hw)))) (by decide +kernel) dX0_inverseNumerator_33 dX0_inverseNumerator_36 dX0_inverseNumerator_37 dX0_inverseNumerator_39 dX0_inverseNumerator_42 ⟨Nat.le_of_ble_eq_true rfl, Nat.le_of_ble_eq_true rfl, Nat.le_of_ble_eq_true rfl, Nat.le_of_ble_eq_true rfl⟩ (Nat.le_of_ble_eq_true rfl) (Nat.le_of_ble_eq_true rfl) ⟨Or.inr (⟨by unfold kHul2; rw [if_pos ⟨q5, q13⟩, if_pos hd0], rfl⟩), _, _, _, rfl⟩
    · have q13 : ¬ (ixP N p1) := zi0.mp c13
      exact hthr _ _ _ _ 67 69 71 "java/lang/IndexOutOfBoundsException" "no such row or column" (N, M, S, rl, rh, bl, bh, kl, kh, mn, vc, iv, sc) lk0 lk1 (by decide +kernel) (fun w hw => List.mem_cons_of_mem _ (List.mem_append_left _ (List.mem_append_left _ (List.mem_append_left _ (List.mem_append_right _ hw))))) (by decide +kernel) dX0_inverseNumerator_16 dX0_inverseNumerator_19 dX0_inverseNumerator_20 dX0_inverseNumerator_22 dX0_inverseNumerator_25 ⟨Nat.le_of_ble_eq_true rfl, Nat.le_of_ble_eq_true rfl, Nat.le_of_ble_eq_true rfl, Nat.le_of_ble_eq_true rfl⟩ (Nat.le_of_ble_eq_true rfl) (Nat.le_of_ble_eq_true rfl) ⟨Or.inl (⟨if_neg (by rintro ⟨h1, h2⟩; first | exact q5 h1 | exact q13 h2), rfl⟩), _, _, _, rfl⟩

set_option maxRecDepth 100000 in
set_option maxHeartbeats 4000000 in
theorem c0_inverseDenominator (l : Launch) (D : va_G) (K : Nat → ClassId) (a : Nat → Nat) (N : Nat) (M : Nat → Nat → Int32) (S : Nat → Nat → Int32) (rl : Nat → Int32) (rh : Nat → Int32) (bl : Nat → Int32) (bh : Nat → Int32) (kl : Nat → Int32) (kh : Nat → Int32) (mn : Nat → Int64) (vc : Nat → Int64) (iv : Nat → Nat → Int64) (sc : Int64) (p0 : Int32) (p1 : Int32) (hst : l.stackTraces = false) (hN : N ≤ 5) : xL l D K yX0_inverseDenominator wsX0_inverseDenominator 6 97 1 6 [.ref (a 0), .int p0, .int p1] (w0 K a (N, M, S, rl, rh, bl, bh, kl, kh, mn, vc, iv, sc)) (fun r u => kHul2 N M p0 p1 = 0 ∧ r = redC (absL (detM M N)) (ivF M N (ix p0) (ix p1)) ∧ ∃ mn1 iv1 sc1, u = (N, M, S, rl, rh, bl, bh, kl, kh, mn1, vc, iv1, sc1)) (fun E u => ((kHul2 N M p0 p1 = 1 ∧ E = "java/lang/IndexOutOfBoundsException") ∨ (kHul2 N M p0 p1 = 2 ∧ E = "java/lang/ArithmeticException")) ∧ ∃ mn1 iv1 sc1, u = (N, M, S, rl, rh, bl, bh, kl, kh, mn1, vc, iv1, sc1)) (w0 K a) := by
  have hinX0 : ∀ w ∈ wsX00, w ∈ wsX0_inverseDenominator := by decide +kernel
  have lk0 : Cond.classLink RX0 67 "java/lang/IndexOutOfBoundsException" ∈ wsX0_inverseDenominator := by decide +kernel
  have lk1 : Cond.initialized "java/lang/IndexOutOfBoundsException" ∈ wsX0_inverseDenominator := by decide +kernel
  have lk2 : Cond.fieldLink RX0 131 "IntervalSolver" "scale" "J" ∈ wsX0_inverseDenominator := by decide +kernel
  have lk3 : Cond.fieldLink RX0 45 "IntervalSolver" "scaledInverse" "[[J" ∈ wsX0_inverseDenominator := by decide +kernel
  have lk4 : Cond.classLink RX0 104 "java/lang/ArithmeticException" ∈ wsX0_inverseDenominator := by decide +kernel
  have lk5 : Cond.initialized "java/lang/ArithmeticException" ∈ wsX0_inverseDenominator := by decide +kernel
  refine x_met_l (cc := cX0_inverseDenominator) (maxL := 3) (lv := [(0, .ref (a 0)), (1, .int p0), (2, .int p1)]) hst (by decide +kernel) rfl rfl (Nat.le_of_ble_eq_true rfl) rfl ?_
  intro p e s m below meth c args Q A C hend hthr
  refine z_aload_n C dX0_inverseDenominator_0 0 rfl ?_
  refine z_iload_n C dX0_inverseDenominator_1 1 rfl ?_
  refine z_callVi_all (As := [.int p0]) C (c0_isIndex l D K a N M S rl rh bl bh kl kh mn vc iv sc p0) (cwV 1 C.1.2.2.2.2 gX0_inverseDenominator_X0_isIndex rfl rfl rfl (by decide +kernel) ⟨Nat.le_of_ble_eq_true rfl, Nat.le_of_ble_eq_true rfl⟩) (ci := 2) rfl rfl 0 rfl dX0_inverseDenominator_2 rfl rfl (Nat.le_of_ble_eq_true rfl) ⟨Nat.le_of_ble_eq_true rfl, Nat.le_of_ble_eq_true rfl⟩ (fun r1 u1 h1 => ?_)
  obtain ⟨rfl, rfl⟩ := h1
  refine z_if_eq (tgt := 16) C dX0_inverseDenominator_5 (by decide) (fun c5 => ?_) (fun c5 => ?_)
  · have q5 : ¬ (ixP N p0) := zi0.mp c5
    exact hthr _ _ _ _ 67 69 71 "java/lang/IndexOutOfBoundsException" "no such row or column" (N, M, S, rl, rh, bl, bh, kl, kh, mn, vc, iv, sc) lk0 lk1 (by decide +kernel) (fun w hw => List.mem_cons_of_mem _ (List.mem_append_left _ (List.mem_append_left _ (List.mem_append_left _ (List.mem_append_right _ hw))))) (by decide +kernel) dX0_inverseDenominator_16 dX0_inverseDenominator_19 dX0_inverseDenominator_20 dX0_inverseDenominator_22 dX0_inverseDenominator_25 ⟨Nat.le_of_ble_eq_true rfl, Nat.le_of_ble_eq_true rfl, Nat.le_of_ble_eq_true rfl, Nat.le_of_ble_eq_true rfl⟩ (Nat.le_of_ble_eq_true rfl) (Nat.le_of_ble_eq_true rfl) ⟨Or.inl (⟨if_neg (by rintro ⟨h1, h2⟩; first | exact q5 h1 | exact q13 h2), rfl⟩), _, _, _, rfl⟩
  · have q5 : ixP N p0 := zi1.mp c5
    obtain ⟨i_p0, l_p0⟩ := ixP_at hN q5
    refine z_aload_n C dX0_inverseDenominator_8 0 rfl ?_
    refine z_iload_n C dX0_inverseDenominator_9 2 rfl ?_
    refine z_callVi_all (As := [.int p1]) C (c0_isIndex l D K a N M S rl rh bl bh kl kh mn vc iv sc p1) (cwV 1 C.1.2.2.2.2 gX0_inverseDenominator_X0_isIndex rfl rfl rfl (by decide +kernel) ⟨Nat.le_of_ble_eq_true rfl, Nat.le_of_ble_eq_true rfl⟩) (ci := 2) rfl rfl 0 rfl dX0_inverseDenominator_10 rfl rfl (Nat.le_of_ble_eq_true rfl) ⟨Nat.le_of_ble_eq_true rfl, Nat.le_of_ble_eq_true rfl⟩ (fun r2 u2 h2 => ?_)
    obtain ⟨rfl, rfl⟩ := h2
    refine z_if_ne (tgt := 26) C dX0_inverseDenominator_13 (by decide) (fun c13 => ?_) (fun c13 => ?_)
    · have q13 : ixP N p1 := zi1.mp c13
      obtain ⟨i_p1, l_p1⟩ := ixP_at hN q13
      refine z_aload_n C dX0_inverseDenominator_26 0 rfl ?_
      refine z_callVi_all (As := []) C (c0_invert l D K a N M S rl rh bl bh kl kh mn vc iv sc (by omega)) (cwV 0 C.1.2.2.2.2 gX0_inverseDenominator_X0_invert rfl rfl rfl (by decide +kernel) ⟨Nat.le_of_ble_eq_true rfl, Nat.le_of_ble_eq_true rfl⟩) (ci := 2) rfl rfl 0 rfl dX0_inverseDenominator_27 rfl rfl (Nat.le_of_ble_eq_true rfl) ⟨Nat.le_of_ble_eq_true rfl, Nat.le_of_ble_eq_true rfl⟩ (fun r3 u3 h3 => ?_)
      obtain ⟨mn_3, iv_3, sc_3, rfl, hr_3, hvv⟩ := inv_out h3
      subst hr_3
      refine z_if_ne (tgt := 43) C dX0_inverseDenominator_30 (by decide) (fun c30 => ?_) (fun c30 => ?_)
      · have q30 : ¬ detM M N = 0 := zi1.mp c30
        have hd := q30
        obtain ⟨hiv, hsc⟩ := hvv hd
        refine z_aload_n C dX0_inverseDenominator_43 0 rfl ?_
        refine z_get (cl := vwCl) (T := TX0) (N := 13) (ci := 2) (ref := "IntervalSolver") C hinX0 rfl 12 (by decide) lk2 rfl dX0_inverseDenominator_44 0 rfl rfl ?_
        refine z_aload_n C dX0_inverseDenominator_47 0 rfl ?_
        refine z_get (cl := vwCl) (T := TX0) (N := 13) (ci := 2) (ref := "IntervalSolver") C hinX0 rfl 11 (by decide) lk3 rfl dX0_inverseDenominator_48 0 rfl rfl ?_
        refine z_iload_n C dX0_inverseDenominator_51 1 rfl ?_
        refine z_aald (y := a (22 + (ix p0))) C 3 rfl 11 rfl dX0_inverseDenominator_52 (ix p0) i_p0 (by omega) (by decide) (if_pos (by omega)) ?_
        refine z_iload_n C dX0_inverseDenominator_53 2 rfl ?_
        refine z_lald C 1 rfl (22 + (ix p0)) (w0_atV (by omega)) dX0_inverseDenominator_54 (ix p1) i_p1 (by omega) (by decide) ?_
        refine z_callSl_none (As := [.long sc_3, .long (iv_3 (ix p0) (ix p1))]) C (c0_reduced l D K sc_3 (iv_3 (ix p0) (ix p1))) (va_cwS 2 C.1.2.2.2.2 gX0_inverseDenominator_X0_reduced rfl rfl rfl (by decide +kernel) ⟨Nat.le_of_ble_eq_true rfl, Nat.le_of_ble_eq_true rfl⟩) dX0_inverseDenominator_55 rfl rfl (Nat.le_of_ble_eq_true rfl) ⟨Nat.le_of_ble_eq_true rfl, Nat.le_of_ble_eq_true rfl⟩ (fun r4 u4 h4 => ?_)
        have g4 : r4 = redC sc_3 (iv_3 (ix p0) (ix p1)) := h4
        rw [g4]
        exact hend _ _ _ _ _ (N, M, S, rl, rh, bl, bh, kl, kh, mn_3, vc, iv_3, sc_3) dX0_inverseDenominator_58 (by omega) (by omega) ⟨by unfold kHul2; rw [if_pos ⟨q5, q13⟩, if_neg hd], by rw [hiv (ix p0) (ix p1) (by omega) (by omega), hsc], _, _, _, rfl⟩
      · have q30 : ¬ (¬ detM M N = 0) := zi0.mp c30
        have hd0 := Decidable.of_not_not q30
        exact hthr _ _ _ _ 104 125 108 "java/lang/ArithmeticException" "the determinant is 0" (N, M, S, rl, rh, bl, bh, kl, kh, mn_3, vc, iv_3, sc_3) lk4 lk5 (by decide +kernel) (fun w hw => List.mem_cons_of_mem _ (List.mem_append_left _ (List.mem_append_left _ (List.mem_append_right _ hw)))) (by decide +kernel) dX0_inverseDenominator_33 dX0_inverseDenominator_36 dX0_inverseDenominator_37 dX0_inverseDenominator_39 dX0_inverseDenominator_42 ⟨Nat.le_of_ble_eq_true rfl, Nat.le_of_ble_eq_true rfl, Nat.le_of_ble_eq_true rfl, Nat.le_of_ble_eq_true rfl⟩ (Nat.le_of_ble_eq_true rfl) (Nat.le_of_ble_eq_true rfl) ⟨Or.inr (⟨by unfold kHul2; rw [if_pos ⟨q5, q13⟩, if_pos hd0], rfl⟩), _, _, _, rfl⟩
    · have q13 : ¬ (ixP N p1) := zi0.mp c13
      exact hthr _ _ _ _ 67 69 71 "java/lang/IndexOutOfBoundsException" "no such row or column" (N, M, S, rl, rh, bl, bh, kl, kh, mn, vc, iv, sc) lk0 lk1 (by decide +kernel) (fun w hw => List.mem_cons_of_mem _ (List.mem_append_left _ (List.mem_append_left _ (List.mem_append_left _ (List.mem_append_right _ hw))))) (by decide +kernel) dX0_inverseDenominator_16 dX0_inverseDenominator_19 dX0_inverseDenominator_20 dX0_inverseDenominator_22 dX0_inverseDenominator_25 ⟨Nat.le_of_ble_eq_true rfl, Nat.le_of_ble_eq_true rfl, Nat.le_of_ble_eq_true rfl, Nat.le_of_ble_eq_true rfl⟩ (Nat.le_of_ble_eq_true rfl) (Nat.le_of_ble_eq_true rfl) ⟨Or.inl (⟨if_neg (by rintro ⟨h1, h2⟩; first | exact q5 h1 | exact q13 h2), rfl⟩), _, _, _, rfl⟩

set_option maxRecDepth 100000 in
set_option maxHeartbeats 4000000 in
theorem c0_variationNumerator (l : Launch) (D : va_G) (K : Nat → ClassId) (a : Nat → Nat) (N : Nat) (M : Nat → Nat → Int32) (S : Nat → Nat → Int32) (rl : Nat → Int32) (rh : Nat → Int32) (bl : Nat → Int32) (bh : Nat → Int32) (kl : Nat → Int32) (kh : Nat → Int32) (mn : Nat → Int64) (vc : Nat → Int64) (iv : Nat → Nat → Int64) (sc : Int64) (hst : l.stackTraces = false) (hN : N ≤ 5) : xL l D K yX0_variationNumerator wsX0_variationNumerator 6 97 1 6 [.ref (a 0)] (w0 K a (N, M, S, rl, rh, bl, bh, kl, kh, mn, vc, iv, sc)) (fun r u => kDet N M = 0 ∧ r = redC (svI (ivF M N) S N N) (100 * (absL (detM M N))) ∧ ∃ mn1 iv1 sc1, u = (N, M, S, rl, rh, bl, bh, kl, kh, mn1, vc, iv1, sc1)) (fun E u => ((kDet N M = 1 ∧ E = "java/lang/ArithmeticException")) ∧ ∃ mn1 iv1 sc1, u = (N, M, S, rl, rh, bl, bh, kl, kh, mn1, vc, iv1, sc1)) (w0 K a) := by
  have hinX0 : ∀ w ∈ wsX00, w ∈ wsX0_variationNumerator := by decide +kernel
  have lk0 : Cond.constantLong RX0 158 (100) ∈ wsX0_variationNumerator := by decide +kernel
  have lk1 : Cond.fieldLink RX0 131 "IntervalSolver" "scale" "J" ∈ wsX0_variationNumerator := by decide +kernel
  have lk2 : Cond.classLink RX0 104 "java/lang/ArithmeticException" ∈ wsX0_variationNumerator := by decide +kernel
  have lk3 : Cond.initialized "java/lang/ArithmeticException" ∈ wsX0_variationNumerator := by decide +kernel
  refine x_met_l (cc := cX0_variationNumerator) (maxL := 1) (lv := [(0, .ref (a 0))]) hst (by decide +kernel) rfl rfl (Nat.le_of_ble_eq_true rfl) rfl ?_
  intro p e s m below meth c args Q A C hend hthr
  refine z_aload_n C dX0_variationNumerator_0 0 rfl ?_
  refine z_callVi_all (As := []) C (c0_invert l D K a N M S rl rh bl bh kl kh mn vc iv sc (by omega)) (cwV 0 C.1.2.2.2.2 gX0_variationNumerator_X0_invert rfl rfl rfl (by decide +kernel) ⟨Nat.le_of_ble_eq_true rfl, Nat.le_of_ble_eq_true rfl⟩) (ci := 2) rfl rfl 0 rfl dX0_variationNumerator_1 rfl rfl (Nat.le_of_ble_eq_true rfl) ⟨Nat.le_of_ble_eq_true rfl, Nat.le_of_ble_eq_true rfl⟩ (fun r1 u1 h1 => ?_)
  obtain ⟨mn_1, iv_1, sc_1, rfl, hr_1, hvv⟩ := inv_out h1
  subst hr_1
  refine z_if_ne (tgt := 17) C dX0_variationNumerator_4 (by decide) (fun c4 => ?_) (fun c4 => ?_)
  · have q4 : ¬ detM M N = 0 := zi1.mp c4
    have hd := q4
    obtain ⟨hiv, hsc⟩ := hvv hd
    refine z_aload_n C dX0_variationNumerator_17 0 rfl ?_
    refine z_callVl_all (As := []) C (c0_scaledVariation l D K a N M S rl rh bl bh kl kh mn_1 vc iv_1 sc_1 (by omega)) (cwV 0 C.1.2.2.2.2 gX0_variationNumerator_X0_scaledVariation rfl rfl rfl (by decide +kernel) ⟨Nat.le_of_ble_eq_true rfl, Nat.le_of_ble_eq_true rfl⟩) (ci := 2) rfl rfl 0 rfl dX0_variationNumerator_18 rfl rfl (Nat.le_of_ble_eq_true rfl) ⟨Nat.le_of_ble_eq_true rfl, Nat.le_of_ble_eq_true rfl⟩ (fun r2 u2 h2 => ?_)
    obtain ⟨rfl, rfl⟩ := h2
    refine z_ldc2 C lk0 dX0_variationNumerator_21 ?_
    refine z_aload_n C dX0_variationNumerator_24 0 rfl ?_
    refine z_get (cl := vwCl) (T := TX0) (N := 13) (ci := 2) (ref := "IntervalSolver") C hinX0 rfl 12 (by decide) lk1 rfl dX0_variationNumerator_25 0 rfl rfl ?_
    refine z_lmul C dX0_variationNumerator_28 ?_
    refine z_callSl_none (As := [.long (svI iv_1 S N N), .long (100 * sc_1)]) C (c0_reduced l D K (svI iv_1 S N N) (100 * sc_1)) (va_cwS 2 C.1.2.2.2.2 gX0_variationNumerator_X0_reduced rfl rfl rfl (by decide +kernel) ⟨Nat.le_of_ble_eq_true rfl, Nat.le_of_ble_eq_true rfl⟩) dX0_variationNumerator_29 rfl rfl (Nat.le_of_ble_eq_true rfl) ⟨Nat.le_of_ble_eq_true rfl, Nat.le_of_ble_eq_true rfl⟩ (fun r3 u3 h3 => ?_)
    have g3 : r3 = redC (svI iv_1 S N N) (100 * sc_1) := h3
    rw [g3]
    exact hend _ _ _ _ _ (N, M, S, rl, rh, bl, bh, kl, kh, mn_1, vc, iv_1, sc_1) dX0_variationNumerator_32 (by omega) (by omega) ⟨if_neg hd, by rw [svI_congr (fun i hi j hj => hiv i j hi hj), hsc], _, _, _, rfl⟩
  · have q4 : ¬ (¬ detM M N = 0) := zi0.mp c4
    have hd0 := Decidable.of_not_not q4
    exact hthr _ _ _ _ 104 125 108 "java/lang/ArithmeticException" "the determinant is 0" (N, M, S, rl, rh, bl, bh, kl, kh, mn_1, vc, iv_1, sc_1) lk2 lk3 (by decide +kernel) (fun w hw => List.mem_cons_of_mem _ (List.mem_append_left _ (List.mem_append_left _ (List.mem_append_right _ hw)))) (by decide +kernel) dX0_variationNumerator_7 dX0_variationNumerator_10 dX0_variationNumerator_11 dX0_variationNumerator_13 dX0_variationNumerator_16 ⟨Nat.le_of_ble_eq_true rfl, Nat.le_of_ble_eq_true rfl, Nat.le_of_ble_eq_true rfl, Nat.le_of_ble_eq_true rfl⟩ (Nat.le_of_ble_eq_true rfl) (Nat.le_of_ble_eq_true rfl) ⟨⟨if_pos hd0, rfl⟩, _, _, _, rfl⟩

set_option maxRecDepth 100000 in
set_option maxHeartbeats 4000000 in
theorem c0_variationDenominator (l : Launch) (D : va_G) (K : Nat → ClassId) (a : Nat → Nat) (N : Nat) (M : Nat → Nat → Int32) (S : Nat → Nat → Int32) (rl : Nat → Int32) (rh : Nat → Int32) (bl : Nat → Int32) (bh : Nat → Int32) (kl : Nat → Int32) (kh : Nat → Int32) (mn : Nat → Int64) (vc : Nat → Int64) (iv : Nat → Nat → Int64) (sc : Int64) (hst : l.stackTraces = false) (hN : N ≤ 5) : xL l D K yX0_variationDenominator wsX0_variationDenominator 6 97 1 6 [.ref (a 0)] (w0 K a (N, M, S, rl, rh, bl, bh, kl, kh, mn, vc, iv, sc)) (fun r u => kDet N M = 0 ∧ r = redC (100 * (absL (detM M N))) (svI (ivF M N) S N N) ∧ ∃ mn1 iv1 sc1, u = (N, M, S, rl, rh, bl, bh, kl, kh, mn1, vc, iv1, sc1)) (fun E u => ((kDet N M = 1 ∧ E = "java/lang/ArithmeticException")) ∧ ∃ mn1 iv1 sc1, u = (N, M, S, rl, rh, bl, bh, kl, kh, mn1, vc, iv1, sc1)) (w0 K a) := by
  have hinX0 : ∀ w ∈ wsX00, w ∈ wsX0_variationDenominator := by decide +kernel
  have lk0 : Cond.constantLong RX0 158 (100) ∈ wsX0_variationDenominator := by decide +kernel
  have lk1 : Cond.fieldLink RX0 131 "IntervalSolver" "scale" "J" ∈ wsX0_variationDenominator := by decide +kernel
  have lk2 : Cond.classLink RX0 104 "java/lang/ArithmeticException" ∈ wsX0_variationDenominator := by decide +kernel
  have lk3 : Cond.initialized "java/lang/ArithmeticException" ∈ wsX0_variationDenominator := by decide +kernel
  refine x_met_l (cc := cX0_variationDenominator) (maxL := 1) (lv := [(0, .ref (a 0))]) hst (by decide +kernel) rfl rfl (Nat.le_of_ble_eq_true rfl) rfl ?_
  intro p e s m below meth c args Q A C hend hthr
  refine z_aload_n C dX0_variationDenominator_0 0 rfl ?_
  refine z_callVi_all (As := []) C (c0_invert l D K a N M S rl rh bl bh kl kh mn vc iv sc (by omega)) (cwV 0 C.1.2.2.2.2 gX0_variationDenominator_X0_invert rfl rfl rfl (by decide +kernel) ⟨Nat.le_of_ble_eq_true rfl, Nat.le_of_ble_eq_true rfl⟩) (ci := 2) rfl rfl 0 rfl dX0_variationDenominator_1 rfl rfl (Nat.le_of_ble_eq_true rfl) ⟨Nat.le_of_ble_eq_true rfl, Nat.le_of_ble_eq_true rfl⟩ (fun r1 u1 h1 => ?_)
  obtain ⟨mn_1, iv_1, sc_1, rfl, hr_1, hvv⟩ := inv_out h1
  subst hr_1
  refine z_if_ne (tgt := 17) C dX0_variationDenominator_4 (by decide) (fun c4 => ?_) (fun c4 => ?_)
  · have q4 : ¬ detM M N = 0 := zi1.mp c4
    have hd := q4
    obtain ⟨hiv, hsc⟩ := hvv hd
    refine z_ldc2 C lk0 dX0_variationDenominator_17 ?_
    refine z_aload_n C dX0_variationDenominator_20 0 rfl ?_
    refine z_get (cl := vwCl) (T := TX0) (N := 13) (ci := 2) (ref := "IntervalSolver") C hinX0 rfl 12 (by decide) lk1 rfl dX0_variationDenominator_21 0 rfl rfl ?_
    refine z_lmul C dX0_variationDenominator_24 ?_
    refine z_aload_n C dX0_variationDenominator_25 0 rfl ?_
    refine z_callVl_all (As := []) C (c0_scaledVariation l D K a N M S rl rh bl bh kl kh mn_1 vc iv_1 sc_1 (by omega)) (cwV 0 C.1.2.2.2.2 gX0_variationDenominator_X0_scaledVariation rfl rfl rfl (by decide +kernel) ⟨Nat.le_of_ble_eq_true rfl, Nat.le_of_ble_eq_true rfl⟩) (ci := 2) rfl rfl 0 rfl dX0_variationDenominator_26 rfl rfl (Nat.le_of_ble_eq_true rfl) ⟨Nat.le_of_ble_eq_true rfl, Nat.le_of_ble_eq_true rfl⟩ (fun r2 u2 h2 => ?_)
    obtain ⟨rfl, rfl⟩ := h2
    refine z_callSl_none (As := [.long (100 * sc_1), .long (svI iv_1 S N N)]) C (c0_reduced l D K (100 * sc_1) (svI iv_1 S N N)) (va_cwS 2 C.1.2.2.2.2 gX0_variationDenominator_X0_reduced rfl rfl rfl (by decide +kernel) ⟨Nat.le_of_ble_eq_true rfl, Nat.le_of_ble_eq_true rfl⟩) dX0_variationDenominator_29 rfl rfl (Nat.le_of_ble_eq_true rfl) ⟨Nat.le_of_ble_eq_true rfl, Nat.le_of_ble_eq_true rfl⟩ (fun r3 u3 h3 => ?_)
    have g3 : r3 = redC (100 * sc_1) (svI iv_1 S N N) := h3
    rw [g3]
    exact hend _ _ _ _ _ (N, M, S, rl, rh, bl, bh, kl, kh, mn_1, vc, iv_1, sc_1) dX0_variationDenominator_32 (by omega) (by omega) ⟨if_neg hd, by rw [svI_congr (fun i hi j hj => hiv i j hi hj), hsc], _, _, _, rfl⟩
  · have q4 : ¬ (¬ detM M N = 0) := zi0.mp c4
    have hd0 := Decidable.of_not_not q4
    exact hthr _ _ _ _ 104 125 108 "java/lang/ArithmeticException" "the determinant is 0" (N, M, S, rl, rh, bl, bh, kl, kh, mn_1, vc, iv_1, sc_1) lk2 lk3 (by decide +kernel) (fun w hw => List.mem_cons_of_mem _ (List.mem_append_left _ (List.mem_append_left _ (List.mem_append_right _ hw)))) (by decide +kernel) dX0_variationDenominator_7 dX0_variationDenominator_10 dX0_variationDenominator_11 dX0_variationDenominator_13 dX0_variationDenominator_16 ⟨Nat.le_of_ble_eq_true rfl, Nat.le_of_ble_eq_true rfl, Nat.le_of_ble_eq_true rfl, Nat.le_of_ble_eq_true rfl⟩ (Nat.le_of_ble_eq_true rfl) (Nat.le_of_ble_eq_true rfl) ⟨⟨if_pos hd0, rfl⟩, _, _, _, rfl⟩
