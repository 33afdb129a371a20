set_option maxRecDepth 100000 in
set_option maxHeartbeats 4000000 in
theorem c0_rightLow (l : Launch) (D : va_G) (K : Nat → ClassId) (a : Nat → Nat) (N : Nat) (M : Nat → Nat → Int32) (S : Nat → Nat → Int32) (rl : Nat → Int32) (rh : Nat → Int32) (bl : Nat → Int32) (bh : Nat → Int32) (kl : Nat → Int32) (kh : Nat → Int32) (mn : Nat → Int64) (vc : Nat → Int64) (iv : Nat → Nat → Int64) (sc : Int64) (p0 : Int32) (hst : l.stackTraces = false) (hN : N ≤ 5) : xI l D K yX0_rightLow wsX0_rightLow 6 82 1 6 [.ref (a 0), .int p0] (w0 K a (N, M, S, rl, rh, bl, bh, kl, kh, mn, vc, iv, sc)) (fun r u => kIx N p0 = 0 ∧ r = rl (ix p0) ∧ u = (N, M, S, rl, rh, bl, bh, kl, kh, mn, vc, iv, sc)) (fun E u => ((kIx N p0 = 1 ∧ E = "java/lang/IndexOutOfBoundsException")) ∧ u = (N, M, S, rl, rh, bl, bh, kl, kh, mn, vc, iv, sc)) (w0 K a) := by
  have hinX0 : ∀ w ∈ wsX00, w ∈ wsX0_rightLow := by decide +kernel
  have lk0 : Cond.fieldLink RX0 17 "IntervalSolver" "rightLows" "[I" ∈ wsX0_rightLow := by decide +kernel
  have lk1 : Cond.classLink RX0 67 "java/lang/IndexOutOfBoundsException" ∈ wsX0_rightLow := by decide +kernel
  have lk2 : Cond.initialized "java/lang/IndexOutOfBoundsException" ∈ wsX0_rightLow := by decide +kernel
  refine x_met_i (cc := cX0_rightLow) (maxL := 2) (lv := [(0, .ref (a 0)), (1, .int p0)]) hst (by decide +kernel) rfl rfl (Nat.le_of_ble_eq_true rfl) rfl ?_
  intro p e s m below meth c args Q A C hend hthr
  refine z_aload_n C dX0_rightLow_0 0 rfl ?_
  refine z_iload_n C dX0_rightLow_1 1 rfl ?_
  refine z_callVi_all (As := [.int p0]) C (c0_isIndex l D K a N M S rl rh bl bh kl kh mn vc iv sc p0) (cwV 1 C.1.2.2.2.2 gX0_rightLow_X0_isIndex rfl rfl rfl (by decide +kernel) ⟨Nat.le_of_ble_eq_true rfl, Nat.le_of_ble_eq_true rfl⟩) (ci := 0) rfl rfl 0 rfl dX0_rightLow_2 rfl rfl (Nat.le_of_ble_eq_true rfl) ⟨Nat.le_of_ble_eq_true rfl, Nat.le_of_ble_eq_true rfl⟩ (fun r1 u1 h1 => ?_)
  obtain ⟨rfl, rfl⟩ := h1
  refine z_if_ne (tgt := 18) C dX0_rightLow_5 (by decide) (fun c5 => ?_) (fun c5 => ?_)
  · have q5 : ixP N p0 := zi1.mp c5
    obtain ⟨i_p0, l_p0⟩ := ixP_at hN q5
    refine z_aload_n C dX0_rightLow_18 0 rfl ?_
    refine z_get (cl := vwCl) (T := TX0) (N := 13) (ci := 0) (ref := "IntervalSolver") C hinX0 rfl 3 (by decide) lk0 rfl dX0_rightLow_19 0 rfl rfl ?_
    refine z_iload_n C dX0_rightLow_22 1 rfl ?_
    refine z_iald C 0 rfl 3 rfl dX0_rightLow_23 (ix p0) i_p0 (by omega) (by decide) ?_
    exact hend _ _ _ _ _ (N, M, S, rl, rh, bl, bh, kl, kh, mn, vc, iv, sc) dX0_rightLow_24 (by omega) (by omega) ⟨if_pos q5, rfl, rfl⟩
  · have q5 : ¬ (ixP N p0) := zi0.mp c5
    exact hthr _ _ _ _ 67 78 71 "java/lang/IndexOutOfBoundsException" "no such row" (N, M, S, rl, rh, bl, bh, kl, kh, mn, vc, iv, sc) lk1 lk2 (by decide +kernel) (fun w hw => List.mem_cons_of_mem _ (List.mem_append_right _ hw)) (by decide +kernel) dX0_rightLow_8 dX0_rightLow_11 dX0_rightLow_12 dX0_rightLow_14 dX0_rightLow_17 ⟨Nat.le_of_ble_eq_true rfl, Nat.le_of_ble_eq_true rfl, Nat.le_of_ble_eq_true rfl, Nat.le_of_ble_eq_true rfl⟩ (Nat.le_of_ble_eq_true rfl) (Nat.le_of_ble_eq_true rfl) ⟨⟨if_neg q5, rfl⟩, rfl⟩

set_option maxRecDepth 100000 in
set_option maxHeartbeats 4000000 in
theorem c0_rightHigh (l : Launch) (D : va_G) (K : Nat → ClassId) (a : Nat → Nat) (N : Nat) (M : Nat → Nat → Int32) (S : Nat → Nat → Int32) (rl : Nat → Int32) (rh : Nat → Int32) (bl : Nat → Int32) (bh : Nat → Int32) (kl : Nat → Int32) (kh : Nat → Int32) (mn : Nat → Int64) (vc : Nat → Int64) (iv : Nat → Nat → Int64) (sc : Int64) (p0 : Int32) (hst : l.stackTraces = false) (hN : N ≤ 5) : xI l D K yX0_rightHigh wsX0_rightHigh 6 82 1 6 [.ref (a 0), .int p0] (w0 K a (N, M, S, rl, rh, bl, bh, kl, kh, mn, vc, iv, sc)) (fun r u => kIx N p0 = 0 ∧ r = rh (ix p0) ∧ u = (N, M, S, rl, rh, bl, bh, kl, kh, mn, vc, iv, sc)) (fun E u => ((kIx N p0 = 1 ∧ E = "java/lang/IndexOutOfBoundsException")) ∧ u = (N, M, S, rl, rh, bl, bh, kl, kh, mn, vc, iv, sc)) (w0 K a) := by
  have hinX0 : ∀ w ∈ wsX00, w ∈ wsX0_rightHigh := by decide +kernel
  have lk0 : Cond.fieldLink RX0 21 "IntervalSolver" "rightHighs" "[I" ∈ wsX0_rightHigh := by decide +kernel
  have lk1 : Cond.classLink RX0 67 "java/lang/IndexOutOfBoundsException" ∈ wsX0_rightHigh := by decide +kernel
  have lk2 : Cond.initialized "java/lang/IndexOutOfBoundsException" ∈ wsX0_rightHigh := by decide +kernel
  refine x_met_i (cc := cX0_rightHigh) (maxL := 2) (lv := [(0, .ref (a 0)), (1, .int p0)]) hst (by decide +kernel) rfl rfl (Nat.le_of_ble_eq_true rfl) rfl ?_
  intro p e s m below meth c args Q A C hend hthr
  refine z_aload_n C dX0_rightHigh_0 0 rfl ?_
  refine z_iload_n C dX0_rightHigh_1 1 rfl ?_
  refine z_callVi_all (As := [.int p0]) C (c0_isIndex l D K a N M S rl rh bl bh kl kh mn vc iv sc p0) (cwV 1 C.1.2.2.2.2 gX0_rightHigh_X0_isIndex rfl rfl rfl (by decide +kernel) ⟨Nat.le_of_ble_eq_true rfl, Nat.le_of_ble_eq_true rfl⟩) (ci := 0) rfl rfl 0 rfl dX0_rightHigh_2 rfl rfl (Nat.le_of_ble_eq_true rfl) ⟨Nat.le_of_ble_eq_true rfl, Nat.le_of_ble_eq_true rfl⟩ (fun r1 u1 h1 => ?_)
  obtain ⟨rfl, rfl⟩ := h1
  refine z_if_ne (tgt := 18) C dX0_rightHigh_5 (by decide) (fun c5 => ?_) (fun c5 => ?_)
  · have q5 : ixP N p0 := zi1.mp c5
    obtain ⟨i_p0, l_p0⟩ := ixP_at hN q5
    refine z_aload_n C dX0_rightHigh_18 0 rfl ?_
    refine z_get (cl := vwCl) (T := TX0) (N := 13) (ci := 0) (ref := "IntervalSolver") C hinX0 rfl 4 (by decide) lk0 rfl dX0_rightHigh_19 0 rfl rfl ?_
    refine z_iload_n C dX0_rightHigh_22 1 rfl ?_
    refine z_iald C 0 rfl 4 rfl dX0_rightHigh_23 (ix p0) i_p0 (by omega) (by decide) ?_
    exact hend _ _ _ _ _ (N, M, S, rl, rh, bl, bh, kl, kh, mn, vc, iv, sc) dX0_rightHigh_24 (by omega) (by omega) ⟨if_pos q5, rfl, rfl⟩
  · have q5 : ¬ (ixP N p0) := zi0.mp c5
    exact hthr _ _ _ _ 67 78 71 "java/lang/IndexOutOfBoundsException" "no such row" (N, M, S, rl, rh, bl, bh, kl, kh, mn, vc, iv, sc) lk1 lk2 (by decide +kernel) (fun w hw => List.mem_cons_of_mem _ (List.mem_append_right _ hw)) (by decide +kernel) dX0_rightHigh_8 dX0_rightHigh_11 dX0_rightHigh_12 dX0_rightHigh_14 dX0_rightHigh_17 ⟨Nat.le_of_ble_eq_true rfl, Nat.le_of_ble_eq_true rfl, Nat.le_of_ble_eq_true rfl, Nat.le_of_ble_eq_true rfl⟩ (Nat.le_of_ble_eq_true rfl) (Nat.le_of_ble_eq_true rfl) ⟨⟨if_neg q5, rfl⟩, rfl⟩

set_option maxRecDepth 100000 in
set_option maxHeartbeats 4000000 in
theorem c0_boxLow (l : Launch) (D : va_G) (K : Nat → ClassId) (a : Nat → Nat) (N : Nat) (M : Nat → Nat → Int32) (S : Nat → Nat → Int32) (rl : Nat → Int32) (rh : Nat → Int32) (bl : Nat → Int32) (bh : Nat → Int32) (kl : Nat → Int32) (kh : Nat → Int32) (mn : Nat → Int64) (vc : Nat → Int64) (iv : Nat → Nat → Int64) (sc : Int64) (p0 : Int32) (hst : l.stackTraces = false) (hN : N ≤ 5) : xI l D K yX0_boxLow wsX0_boxLow 6 82 1 6 [.ref (a 0), .int p0] (w0 K a (N, M, S, rl, rh, bl, bh, kl, kh, mn, vc, iv, sc)) (fun r u => kIx N p0 = 0 ∧ r = bl (ix p0) ∧ u = (N, M, S, rl, rh, bl, bh, kl, kh, mn, vc, iv, sc)) (fun E u => ((kIx N p0 = 1 ∧ E = "java/lang/IndexOutOfBoundsException")) ∧ u = (N, M, S, rl, rh, bl, bh, kl, kh, mn, vc, iv, sc)) (w0 K a) := by
  have hinX0 : ∀ w ∈ wsX00, w ∈ wsX0_boxLow := by decide +kernel
  have lk0 : Cond.fieldLink RX0 24 "IntervalSolver" "boxLows" "[I" ∈ wsX0_boxLow := by decide +kernel
  have lk1 : Cond.classLink RX0 67 "java/lang/IndexOutOfBoundsException" ∈ wsX0_boxLow := by decide +kernel
  have lk2 : Cond.initialized "java/lang/IndexOutOfBoundsException" ∈ wsX0_boxLow := by decide +kernel
  refine x_met_i (cc := cX0_boxLow) (maxL := 2) (lv := [(0, .ref (a 0)), (1, .int p0)]) hst (by decide +kernel) rfl rfl (Nat.le_of_ble_eq_true rfl) rfl ?_
  intro p e s m below meth c args Q A C hend hthr
  refine z_aload_n C dX0_boxLow_0 0 rfl ?_
  refine z_iload_n C dX0_boxLow_1 1 rfl ?_
  refine z_callVi_all (As := [.int p0]) C (c0_isIndex l D K a N M S rl rh bl bh kl kh mn vc iv sc p0) (cwV 1 C.1.2.2.2.2 gX0_boxLow_X0_isIndex rfl rfl rfl (by decide +kernel) ⟨Nat.le_of_ble_eq_true rfl, Nat.le_of_ble_eq_true rfl⟩) (ci := 0) rfl rfl 0 rfl dX0_boxLow_2 rfl rfl (Nat.le_of_ble_eq_true rfl) ⟨Nat.le_of_ble_eq_true rfl, Nat.le_of_ble_eq_true rfl⟩ (fun r1 u1 h1 => ?_)
  obtain ⟨rfl, rfl⟩ := h1
  refine z_if_ne (tgt := 18) C dX0_boxLow_5 (by decide) (fun c5 => ?_) (fun c5 => ?_)
  · have q5 : ixP N p0 := zi1.mp c5
    obtain ⟨i_p0, l_p0⟩ := ixP_at hN q5
    refine z_aload_n C dX0_boxLow_18 0 rfl ?_
    refine z_get (cl := vwCl) (T := TX0) (N := 13) (ci := 0) (ref := "IntervalSolver") C hinX0 rfl 5 (by decide) lk0 rfl dX0_boxLow_19 0 rfl rfl ?_
    refine z_iload_n C dX0_boxLow_22 1 rfl ?_
    refine z_iald C 0 rfl 5 rfl dX0_boxLow_23 (ix p0) i_p0 (by omega) (by decide) ?_
    exact hend _ _ _ _ _ (N, M, S, rl, rh, bl, bh, kl, kh, mn, vc, iv, sc) dX0_boxLow_24 (by omega) (by omega) ⟨if_pos q5, rfl, rfl⟩
  · have q5 : ¬ (ixP N p0) := zi0.mp c5
    exact hthr _ _ _ _ 67 119 71 "java/lang/IndexOutOfBoundsException" "no such component" (N, M, S, rl, rh, bl, bh, kl, kh, mn, vc, iv, sc) lk1 lk2 (by decide +kernel) (fun w hw => List.mem_cons_of_mem _ (List.mem_append_right _ hw)) (by decide +kernel) dX0_boxLow_8 dX0_boxLow_11 dX0_boxLow_12 dX0_boxLow_14 dX0_boxLow_17 ⟨Nat.le_of_ble_eq_true rfl, Nat.le_of_ble_eq_true rfl, Nat.le_of_ble_eq_true rfl, Nat.le_of_ble_eq_true rfl⟩ (Nat.le_of_ble_eq_true rfl) (Nat.le_of_ble_eq_true rfl) ⟨⟨if_neg q5, rfl⟩, rfl⟩

set_option maxRecDepth 100000 in
set_option maxHeartbeats 4000000 in
theorem c0_boxHigh (l : Launch) (D : va_G) (K : Nat → ClassId) (a : Nat → Nat) (N : Nat) (M : Nat → Nat → Int32) (S : Nat → Nat → Int32) (rl : Nat → Int32) (rh : Nat → Int32) (bl : Nat → Int32) (bh : Nat → Int32) (kl : Nat → Int32) (kh : Nat → Int32) (mn : Nat → Int64) (vc : Nat → Int64) (iv : Nat → Nat → Int64) (sc : Int64) (p0 : Int32) (hst : l.stackTraces = false) (hN : N ≤ 5) : xI l D K yX0_boxHigh wsX0_boxHigh 6 82 1 6 [.ref (a 0), .int p0] (w0 K a (N, M, S, rl, rh, bl, bh, kl, kh, mn, vc, iv, sc)) (fun r u => kIx N p0 = 0 ∧ r = bh (ix p0) ∧ u = (N, M, S, rl, rh, bl, bh, kl, kh, mn, vc, iv, sc)) (fun E u => ((kIx N p0 = 1 ∧ E = "java/lang/IndexOutOfBoundsException")) ∧ u = (N, M, S, rl, rh, bl, bh, kl, kh, mn, vc, iv, sc)) (w0 K a) := by
  have hinX0 : ∀ w ∈ wsX00, w ∈ wsX0_boxHigh := by decide +kernel
  have lk0 : Cond.fieldLink RX0 27 "IntervalSolver" "boxHighs" "[I" ∈ wsX0_boxHigh := by decide +kernel
  have lk1 : Cond.classLink RX0 67 "java/lang/IndexOutOfBoundsException" ∈ wsX0_boxHigh := by decide +kernel
  have lk2 : Cond.initialized "java/lang/IndexOutOfBoundsException" ∈ wsX0_boxHigh := by decide +kernel
  refine x_met_i (cc := cX0_boxHigh) (maxL := 2) (lv := [(0, .ref (a 0)), (1, .int p0)]) hst (by decide +kernel) rfl rfl (Nat.le_of_ble_eq_true rfl) rfl ?_
  intro p e s m below meth c args Q A C hend hthr
  refine z_aload_n C dX0_boxHigh_0 0 rfl ?_
  refine z_iload_n C dX0_boxHigh_1 1 rfl ?_
  refine z_callVi_all (As := [.int p0]) C (c0_isIndex l D K a N M S rl rh bl bh kl kh mn vc iv sc p0) (cwV 1 C.1.2.2.2.2 gX0_boxHigh_X0_isIndex rfl rfl rfl (by decide +kernel) ⟨Nat.le_of_ble_eq_true rfl, Nat.le_of_ble_eq_true rfl⟩) (ci := 0) rfl rfl 0 rfl dX0_boxHigh_2 rfl rfl (Nat.le_of_ble_eq_true rfl) ⟨Nat.le_of_ble_eq_true rfl, Nat.le_of_ble_eq_true rfl⟩ (fun r1 u1 h1 => ?_)
  obtain ⟨rfl, rfl⟩ := h1
  refine z_if_ne (tgt := 18) C dX0_boxHigh_5 (by decide) (fun c5 => ?_) (fun c5 => ?_)
  · have q5 : ixP N p0 := zi1.mp c5
    obtain ⟨i_p0, l_p0⟩ := ixP_at hN q5
    refine z_aload_n C dX0_boxHigh_18 0 rfl ?_
    refine z_get (cl := vwCl) (T := TX0) (N := 13) (ci := 0) (ref := "IntervalSolver") C hinX0 rfl 6 (by decide) lk0 rfl dX0_boxHigh_19 0 rfl rfl ?_
    refine z_iload_n C dX0_boxHigh_22 1 rfl ?_
    refine z_iald C 0 rfl 6 rfl dX0_boxHigh_23 (ix p0) i_p0 (by omega) (by decide) ?_
    exact hend _ _ _ _ _ (N, M, S, rl, rh, bl, bh, kl, kh, mn, vc, iv, sc) dX0_boxHigh_24 (by omega) (by omega) ⟨if_pos q5, rfl, rfl⟩
  · have q5 : ¬ (ixP N p0) := zi0.mp c5
    exact hthr _ _ _ _ 67 119 71 "java/lang/IndexOutOfBoundsException" "no such component" (N, M, S, rl, rh, bl, bh, kl, kh, mn, vc, iv, sc) lk1 lk2 (by decide +kernel) (fun w hw => List.mem_cons_of_mem _ (List.mem_append_right _ hw)) (by decide +kernel) dX0_boxHigh_8 dX0_boxHigh_11 dX0_boxHigh_12 dX0_boxHigh_14 dX0_boxHigh_17 ⟨Nat.le_of_ble_eq_true rfl, Nat.le_of_ble_eq_true rfl, Nat.le_of_ble_eq_true rfl, Nat.le_of_ble_eq_true rfl⟩ (Nat.le_of_ble_eq_true rfl) (Nat.le_of_ble_eq_true rfl) ⟨⟨if_neg q5, rfl⟩, rfl⟩

set_option maxRecDepth 100000 in
set_option maxHeartbeats 4000000 in
theorem c0_coefficient (l : Launch) (D : va_G) (K : Nat → ClassId) (a : Nat → Nat) (N : Nat) (M : Nat → Nat → Int32) (S : Nat → Nat → Int32) (rl : Nat → Int32) (rh : Nat → Int32) (bl : Nat → Int32) (bh : Nat → Int32) (kl : Nat → Int32) (kh : Nat → Int32) (mn : Nat → Int64) (vc : Nat → Int64) (iv : Nat → Nat → Int64) (sc : Int64) (p0 : Int32) (p1 : Int32) (hst : l.stackTraces = false) (hN : N ≤ 5) : xI l D K yX0_coefficient wsX0_coefficient 6 82 1 6 [.ref (a 0), .int p0, .int p1] (w0 K a (N, M, S, rl, rh, bl, bh, kl, kh, mn, vc, iv, sc)) (fun r u => kIx2 N p0 p1 = 0 ∧ r = M (ix p0) (ix p1) ∧ u = (N, M, S, rl, rh, bl, bh, kl, kh, mn, vc, iv, sc)) (fun E u => ((kIx2 N p0 p1 = 1 ∧ E = "java/lang/IndexOutOfBoundsException")) ∧ u = (N, M, S, rl, rh, bl, bh, kl, kh, mn, vc, iv, sc)) (w0 K a) := by
  have hinX0 : ∀ w ∈ wsX00, w ∈ wsX0_coefficient := by decide +kernel
  have lk0 : Cond.classLink RX0 67 "java/lang/IndexOutOfBoundsException" ∈ wsX0_coefficient := by decide +kernel
  have lk1 : Cond.initialized "java/lang/IndexOutOfBoundsException" ∈ wsX0_coefficient := by decide +kernel
  have lk2 : Cond.fieldLink RX0 11 "IntervalSolver" "coefficients" "[[I" ∈ wsX0_coefficient := by decide +kernel
  refine x_met_i (cc := cX0_coefficient) (maxL := 3) (lv := [(0, .ref (a 0)), (1, .int p0), (2, .int p1)]) hst (by decide +kernel) rfl rfl (Nat.le_of_ble_eq_true rfl) rfl ?_
  intro p e s m below meth c args Q A C hend hthr
  refine z_aload_n C dX0_coefficient_0 0 rfl ?_
  refine z_iload_n C dX0_coefficient_1 1 rfl ?_
  refine z_callVi_all (As := [.int p0]) C (c0_isIndex l D K a N M S rl rh bl bh kl kh mn vc iv sc p0) (cwV 1 C.1.2.2.2.2 gX0_coefficient_X0_isIndex rfl rfl rfl (by decide +kernel) ⟨Nat.le_of_ble_eq_true rfl, Nat.le_of_ble_eq_true rfl⟩) (ci := 0) rfl rfl 0 rfl dX0_coefficient_2 rfl rfl (Nat.le_of_ble_eq_true rfl) ⟨Nat.le_of_ble_eq_true rfl, Nat.le_of_ble_eq_true rfl⟩ (fun r1 u1 h1 => ?_)
  obtain ⟨rfl, rfl⟩ := h1
  refine z_if_eq (tgt := 16) C dX0_coefficient_5 (by decide) (fun c5 => ?_) (fun c5 => ?_)
  · have q5 : ¬ (ixP N p0) := zi0.mp c5
    exact hthr _ _ _ _ 67 69 71 "java/lang/IndexOutOfBoundsException" "no such row or column" (N, M, S, rl, rh, bl, bh, kl, kh, mn, vc, iv, sc) lk0 lk1 (by decide +kernel) (fun w hw => List.mem_cons_of_mem _ (List.mem_append_right _ hw)) (by decide +kernel) dX0_coefficient_16 dX0_coefficient_19 dX0_coefficient_20 dX0_coefficient_22 dX0_coefficient_25 ⟨Nat.le_of_ble_eq_true rfl, Nat.le_of_ble_eq_true rfl, Nat.le_of_ble_eq_true rfl, Nat.le_of_ble_eq_true rfl⟩ (Nat.le_of_ble_eq_true rfl) (Nat.le_of_ble_eq_true rfl) ⟨⟨if_neg (by rintro ⟨h1, h2⟩; first | exact q5 h1 | exact q13 h2), rfl⟩, rfl⟩
  · have q5 : ixP N p0 := zi1.mp c5
    obtain ⟨i_p0, l_p0⟩ := ixP_at hN q5
    refine z_aload_n C dX0_coefficient_8 0 rfl ?_
    refine z_iload_n C dX0_coefficient_9 2 rfl ?_
    refine z_callVi_all (As := [.int p1]) C (c0_isIndex l D K a N M S rl rh bl bh kl kh mn vc iv sc p1) (cwV 1 C.1.2.2.2.2 gX0_coefficient_X0_isIndex rfl rfl rfl (by decide +kernel) ⟨Nat.le_of_ble_eq_true rfl, Nat.le_of_ble_eq_true rfl⟩) (ci := 0) rfl rfl 0 rfl dX0_coefficient_10 rfl rfl (Nat.le_of_ble_eq_true rfl) ⟨Nat.le_of_ble_eq_true rfl, Nat.le_of_ble_eq_true rfl⟩ (fun r2 u2 h2 => ?_)
    obtain ⟨rfl, rfl⟩ := h2
    refine z_if_ne (tgt := 26) C dX0_coefficient_13 (by decide) (fun c13 => ?_) (fun c13 => ?_)
    · have q13 : ixP N p1 := zi1.mp c13
      obtain ⟨i_p1, l_p1⟩ := ixP_at hN q13
      refine z_aload_n C dX0_coefficient_26 0 rfl ?_
      refine z_get (cl := vwCl) (T := TX0) (N := 13) (ci := 0) (ref := "IntervalSolver") C hinX0 rfl 1 (by decide) lk2 rfl dX0_coefficient_27 0 rfl rfl ?_
      refine z_iload_n C dX0_coefficient_30 1 rfl ?_
      refine z_aald (y := a (12 + (ix p0))) C 2 rfl 1 rfl dX0_coefficient_31 (ix p0) i_p0 (by omega) (by decide) (if_pos (by omega)) ?_
      refine z_iload_n C dX0_coefficient_32 2 rfl ?_
      refine z_iald C 0 rfl (12 + (ix p0)) (w0_atM (by omega)) dX0_coefficient_33 (ix p1) i_p1 (by omega) (by decide) ?_
      exact hend _ _ _ _ _ (N, M, S, rl, rh, bl, bh, kl, kh, mn, vc, iv, sc) dX0_coefficient_34 (by omega) (by omega) ⟨if_pos ⟨q5, q13⟩, rfl, rfl⟩
    · have q13 : ¬ (ixP N p1) := zi0.mp c13
      exact hthr _ _ _ _ 67 69 71 "java/lang/IndexOutOfBoundsException" "no such row or column" (N, M, S, rl, rh, bl, bh, kl, kh, mn, vc, iv, sc) lk0 lk1 (by decide +kernel) (fun w hw => List.mem_cons_of_mem _ (List.mem_append_right _ hw)) (by decide +kernel) dX0_coefficient_16 dX0_coefficient_19 dX0_coefficient_20 dX0_coefficient_22 dX0_coefficient_25 ⟨Nat.le_of_ble_eq_true rfl, Nat.le_of_ble_eq_true rfl, Nat.le_of_ble_eq_true rfl, Nat.le_of_ble_eq_true rfl⟩ (Nat.le_of_ble_eq_true rfl) (Nat.le_of_ble_eq_true rfl) ⟨⟨if_neg (by rintro ⟨h1, h2⟩; first | exact q5 h1 | exact q13 h2), rfl⟩, rfl⟩

set_option maxRecDepth 100000 in
set_option maxHeartbeats 4000000 in
theorem c0_setSize (l : Launch) (D : va_G) (K : Nat → ClassId) (a : Nat → Nat) (N : Nat) (M : Nat → Nat → Int32) (S : Nat → Nat → Int32) (rl : Nat → Int32) (rh : Nat → Int32) (bl : Nat → Int32) (bh : Nat → Int32) (kl : Nat → Int32) (kh : Nat → Int32) (mn : Nat → Int64) (vc : Nat → Int64) (iv : Nat → Nat → Int64) (sc : Int64) (p0 : Int32) (hst : l.stackTraces = false) (hN : N ≤ 5) : xI l D K yX0_setSize wsX0_setSize 6 82 1 6 [.ref (a 0), .int p0] (w0 K a (N, M, S, rl, rh, bl, bh, kl, kh, mn, vc, iv, sc)) (fun r u => kSize p0 = 0 ∧ r = p0 ∧ u = (ix p0, matz M 5, matz S 5, vecz rl 0 5, vecz rh 0 5, vecz bl (-1000000000) 5, vecz bh 1000000000 5, kl, kh, mn, vc, iv, sc)) (fun E u => ((kSize p0 = 1 ∧ E = "java/lang/IllegalArgumentException")) ∧ u = (N, M, S, rl, rh, bl, bh, kl, kh, mn, vc, iv, sc)) (w0 K a) := by
  have hinX0 : ∀ w ∈ wsX00, w ∈ wsX0_setSize := by decide +kernel
  have lk0 : Cond.classLink RX0 52 "java/lang/IllegalArgumentException" ∈ wsX0_setSize := by decide +kernel
  have lk1 : Cond.initialized "java/lang/IllegalArgumentException" ∈ wsX0_setSize := by decide +kernel
  refine x_met_i (cc := cX0_setSize) (maxL := 2) (lv := [(0, .ref (a 0)), (1, .int p0)]) hst (by decide +kernel) rfl rfl (Nat.le_of_ble_eq_true rfl) rfl ?_
  intro p e s m below meth c args Q A C hend hthr
  refine z_iload_n C dX0_setSize_0 1 rfl ?_
  refine z_iconst (v := 1) C dX0_setSize_1 (by decide) ?_
  refine z_icmp_lt (tgt := 10) C dX0_setSize_2 (by decide) (fun c2 => ?_) (fun c2 => ?_)
  · exact hthr _ _ _ _ 52 54 56 "java/lang/IllegalArgumentException" "the number of equations is not 1 to 5" (N, M, S, rl, rh, bl, bh, kl, kh, mn, vc, iv, sc) lk0 lk1 (by decide +kernel) (fun w hw => List.mem_cons_of_mem _ (List.mem_append_right _ hw)) (by decide +kernel) dX0_setSize_10 dX0_setSize_13 dX0_setSize_14 dX0_setSize_16 dX0_setSize_19 ⟨Nat.le_of_ble_eq_true rfl, Nat.le_of_ble_eq_true rfl, Nat.le_of_ble_eq_true rfl, Nat.le_of_ble_eq_true rfl⟩ (Nat.le_of_ble_eq_true rfl) (Nat.le_of_ble_eq_true rfl) ⟨⟨if_neg (by rintro ⟨h1, h2⟩; first | exact absurd h1 (Int32.not_le.mpr c2) | exact c7 h2), rfl⟩, rfl⟩
  · refine z_iload_n C dX0_setSize_5 1 rfl ?_
    refine z_iconst (v := 5) C dX0_setSize_6 (by decide) ?_
    refine z_icmp_le (tgt := 20) C dX0_setSize_7 (by decide) (fun c7 => ?_) (fun c7 => ?_)
    · obtain ⟨e_p0, l_p0⟩ := kSize_at (Int32.not_lt.mp c2) c7
      refine z_aload_n C dX0_setSize_20 0 rfl ?_
      refine z_iload_n C dX0_setSize_21 1 rfl ?_
      refine z_topi (nI (ix p0)) e_p0 ?_
      refine z_callVv_all (As := [.int (nI (ix p0))]) C (c0_startSystem l D K a N M S rl rh bl bh kl kh mn vc iv sc (ix p0)) (cwV 1 C.1.2.2.2.2 gX0_setSize_X0_startSystem rfl rfl rfl (by decide +kernel) ⟨Nat.le_of_ble_eq_true rfl, Nat.le_of_ble_eq_true rfl⟩) (ci := 0) rfl rfl 0 rfl dX0_setSize_22 rfl rfl (Nat.le_of_ble_eq_true rfl) ⟨Nat.le_of_ble_eq_true rfl, Nat.le_of_ble_eq_true rfl⟩ (fun u1 h1 => ?_)
      subst h1
      refine z_iload_n C dX0_setSize_25 1 rfl ?_
      exact hend _ _ _ _ _ ((ix p0), matz M 5, matz S 5, vecz rl 0 5, vecz rh 0 5, vecz bl (-1000000000) 5, vecz bh 1000000000 5, kl, kh, mn, vc, iv, sc) dX0_setSize_26 (by omega) (by omega) ⟨if_pos ⟨Int32.not_lt.mp c2, c7⟩, rfl, rfl⟩
    · exact hthr _ _ _ _ 52 54 56 "java/lang/IllegalArgumentException" "the number of equations is not 1 to 5" (N, M, S, rl, rh, bl, bh, kl, kh, mn, vc, iv, sc) lk0 lk1 (by decide +kernel) (fun w hw => List.mem_cons_of_mem _ (List.mem_append_right _ hw)) (by decide +kernel) dX0_setSize_10 dX0_setSize_13 dX0_setSize_14 dX0_setSize_16 dX0_setSize_19 ⟨Nat.le_of_ble_eq_true rfl, Nat.le_of_ble_eq_true rfl, Nat.le_of_ble_eq_true rfl, Nat.le_of_ble_eq_true rfl⟩ (Nat.le_of_ble_eq_true rfl) (Nat.le_of_ble_eq_true rfl) ⟨⟨if_neg (by rintro ⟨h1, h2⟩; first | exact absurd h1 (Int32.not_le.mpr c2) | exact c7 h2), rfl⟩, rfl⟩

set_option maxRecDepth 100000 in
set_option maxHeartbeats 4000000 in
theorem c0_setCoefficient (l : Launch) (D : va_G) (K : Nat → ClassId) (a : Nat → Nat) (N : Nat) (M : Nat → Nat → Int32) (S : Nat → Nat → Int32) (rl : Nat → Int32) (rh : Nat → Int32) (bl : Nat → Int32) (bh : Nat → Int32) (kl : Nat → Int32) (kh : Nat → Int32) (mn : Nat → Int64) (vc : Nat → Int64) (iv : Nat → Nat → Int64) (sc : Int64) (p0 : Int32) (p1 : Int32) (p2 : Int32) (hst : l.stackTraces = false) (hN : N ≤ 5) : xI l D K yX0_setCoefficient wsX0_setCoefficient 6 82 1 6 [.ref (a 0), .int p0, .int p1, .int p2] (w0 K a (N, M, S, rl, rh, bl, bh, kl, kh, mn, vc, iv, sc)) (fun r u => kVal N p0 p1 p2 (-99) 99 = 0 ∧ r = M (ix p0) (ix p1) ∧ u = (N, up2 M (ix p0) (ix p1) p2, S, rl, rh, bl, bh, kl, kh, mn, vc, iv, sc)) (fun E u => ((kVal N p0 p1 p2 (-99) 99 = 1 ∧ E = "java/lang/IndexOutOfBoundsException") ∨ (kVal N p0 p1 p2 (-99) 99 = 2 ∧ E = "java/lang/IllegalArgumentException")) ∧ u = (N, M, S, rl, rh, bl, bh, kl, kh, mn, vc, iv, sc)) (w0 K a) := by
  have hinX0 : ∀ w ∈ wsX00, w ∈ wsX0_setCoefficient := by decide +kernel
  have lk0 : Cond.classLink RX0 67 "java/lang/IndexOutOfBoundsException" ∈ wsX0_setCoefficient := by decide +kernel
  have lk1 : Cond.initialized "java/lang/IndexOutOfBoundsException" ∈ wsX0_setCoefficient := by decide +kernel
  have lk2 : Cond.fieldLink RX0 11 "IntervalSolver" "coefficients" "[[I" ∈ wsX0_setCoefficient := by decide +kernel
  have lk3 : Cond.classLink RX0 52 "java/lang/IllegalArgumentException" ∈ wsX0_setCoefficient := by decide +kernel
  have lk4 : Cond.initialized "java/lang/IllegalArgumentException" ∈ wsX0_setCoefficient := by decide +kernel
  refine x_met_i (cc := cX0_setCoefficient) (maxL := 5) (lv := [(0, .ref (a 0)), (1, .int p0), (2, .int p1), (3, .int p2)]) hst (by decide +kernel) rfl rfl (Nat.le_of_ble_eq_true rfl) rfl ?_
  intro p e s m below meth c args Q A C hend hthr
  refine z_aload_n C dX0_setCoefficient_0 0 rfl ?_
  refine z_iload_n C dX0_setCoefficient_1 1 rfl ?_
  refine z_callVi_all (As := [.int p0]) C (c0_isIndex l D K a N M S rl rh bl bh kl kh mn vc iv sc p0) (cwV 1 C.1.2.2.2.2 gX0_setCoefficient_X0_isIndex rfl rfl rfl (by decide +kernel) ⟨Nat.le_of_ble_eq_true rfl, Nat.le_of_ble_eq_true rfl⟩) (ci := 0) rfl rfl 0 rfl dX0_setCoefficient_2 rfl rfl (Nat.le_of_ble_eq_true rfl) ⟨Nat.le_of_ble_eq_true rfl, Nat.le_of_ble_eq_true rfl⟩ (fun r1 u1 h1 => ?_)
  obtain ⟨rfl, rfl⟩ := h1
  refine z_if_eq (tgt := 16) C dX0_setCoefficient_5 (by decide) (fun c5 => ?_) (fun c5 => ?_)
  · have q5 : ¬ (ixP N p0) := zi0.mp c5
    exact hthr _ _ _ _ 67 69 71 "java/lang/IndexOutOfBoundsException" "no such row or column" (N, M, S, rl, rh, bl, bh, kl, kh, mn, vc, iv, sc) lk0 lk1 (by decide +kernel) (fun w hw => List.mem_cons_of_mem _ (List.mem_append_left _ (List.mem_append_right _ hw))) (by decide +kernel) dX0_setCoefficient_16 dX0_setCoefficient_19 dX0_setCoefficient_20 dX0_setCoefficient_22 dX0_setCoefficient_25 ⟨Nat.le_of_ble_eq_true rfl, Nat.le_of_ble_eq_true rfl, Nat.le_of_ble_eq_true rfl, Nat.le_of_ble_eq_true rfl⟩ (Nat.le_of_ble_eq_true rfl) (Nat.le_of_ble_eq_true rfl) ⟨Or.inl (⟨if_neg (by rintro ⟨h1, h2⟩; first | exact q5 h1 | exact q13 h2), rfl⟩), rfl⟩
  · have q5 : ixP N p0 := zi1.mp c5
    obtain ⟨i_p0, l_p0⟩ := ixP_at hN q5
    refine z_aload_n C dX0_setCoefficient_8 0 rfl ?_
    refine z_iload_n C dX0_setCoefficient_9 2 rfl ?_
    refine z_callVi_all (As := [.int p1]) C (c0_isIndex l D K a N M S rl rh bl bh kl kh mn vc iv sc p1) (cwV 1 C.1.2.2.2.2 gX0_setCoefficient_X0_isIndex rfl rfl rfl (by decide +kernel) ⟨Nat.le_of_ble_eq_true rfl, Nat.le_of_ble_eq_true rfl⟩) (ci := 0) rfl rfl 0 rfl dX0_setCoefficient_10 rfl rfl (Nat.le_of_ble_eq_true rfl) ⟨Nat.le_of_ble_eq_true rfl, Nat.le_of_ble_eq_true rfl⟩ (fun r2 u2 h2 => ?_)
    obtain ⟨rfl, rfl⟩ := h2
    refine z_if_ne (tgt := 26) C dX0_setCoefficient_13 (by decide) (fun c13 => ?_) (fun c13 => ?_)
    · have q13 : ixP N p1 := zi1.mp c13
      obtain ⟨i_p1, l_p1⟩ := ixP_at hN q13
      refine z_iload_n C dX0_setCoefficient_26 3 rfl ?_
      refine z_bipush (v := 99) C dX0_setCoefficient_27 (by decide) ?_
      refine z_callSi_none (As := [.int p2, .int 99]) C (c0_isWithin l D K p2 99) (va_cwS 2 C.1.2.2.2.2 gX0_setCoefficient_X0_isWithin rfl rfl rfl (by decide +kernel) ⟨Nat.le_of_ble_eq_true rfl, Nat.le_of_ble_eq_true rfl⟩) dX0_setCoefficient_29 rfl rfl (Nat.le_of_ble_eq_true rfl) ⟨Nat.le_of_ble_eq_true rfl, Nat.le_of_ble_eq_true rfl⟩ (fun r3 u3 h3 => ?_)
      subst h3
      refine z_if_ne (tgt := 45) C dX0_setCoefficient_32 (by decide) (fun c32 => ?_) (fun c32 => ?_)
      · have q32 : -99 ≤ p2 ∧ p2 ≤ 99 := zi1.mp c32
        refine z_aload_n C dX0_setCoefficient_45 0 rfl ?_
        refine z_get (cl := vwCl) (T := TX0) (N := 13) (ci := 0) (ref := "IntervalSolver") C hinX0 rfl 1 (by decide) lk2 rfl dX0_setCoefficient_46 0 rfl rfl ?_
        refine z_iload_n C dX0_setCoefficient_49 1 rfl ?_
        refine z_aald (y := a (12 + (ix p0))) C 2 rfl 1 rfl dX0_setCoefficient_50 (ix p0) i_p0 (by omega) (by decide) (if_pos (by omega)) ?_
        refine z_iload_n C dX0_setCoefficient_51 2 rfl ?_
        refine z_iald C 0 rfl (12 + (ix p0)) (w0_atM (by omega)) dX0_setCoefficient_52 (ix p1) i_p1 (by omega) (by decide) ?_
        refine z_istore (lv' := [(0, .ref (a 0)), (1, .int p0), (2, .int p1), (3, .int p2), (4, .int (M (ix p0) (ix p1)))]) C dX0_setCoefficient_53 (by decide) [1, 2, 3, 4, 0] rfl ?_
        refine z_aload_n C dX0_setCoefficient_55 0 rfl ?_
        refine z_get (cl := vwCl) (T := TX0) (N := 13) (ci := 0) (ref := "IntervalSolver") C hinX0 rfl 1 (by decide) lk2 rfl dX0_setCoefficient_56 0 rfl rfl ?_
        refine z_iload_n C dX0_setCoefficient_59 1 rfl ?_
        refine z_aald (y := a (12 + (ix p0))) C 2 rfl 1 rfl dX0_setCoefficient_60 (ix p0) i_p0 (by omega) (by decide) (if_pos (by omega)) ?_
        refine z_iload_n C dX0_setCoefficient_61 2 rfl ?_
        refine z_iload_n C dX0_setCoefficient_62 3 rfl ?_
        refine z_iast (ws' := w0 K a (N, up2 M (ix p0) (ix p1) p2, S, rl, rh, bl, bh, kl, kh, mn, vc, iv, sc)) C 0 rfl (12 + (ix p0)) (w0_atM (by omega)) dX0_setCoefficient_63 (ix p1) i_p1 (by omega) (by decide) (w0_setM (ix p1) p2 (by omega)) ?_
        refine z_iload C dX0_setCoefficient_64 4 rfl ?_
        exact hend _ _ _ _ _ (N, up2 M (ix p0) (ix p1) p2, S, rl, rh, bl, bh, kl, kh, mn, vc, iv, sc) dX0_setCoefficient_66 (by omega) (by omega) ⟨by unfold kVal; rw [if_pos ⟨q5, q13⟩, if_pos q32], rfl, rfl⟩
      · have q32 : ¬ (-99 ≤ p2 ∧ p2 ≤ 99) := zi0.mp c32
        exact hthr _ _ _ _ 52 76 56 "java/lang/IllegalArgumentException" "the coefficient is not -99 to 99" (N, M, S, rl, rh, bl, bh, kl, kh, mn, vc, iv, sc) lk3 lk4 (by decide +kernel) (fun w hw => List.mem_cons_of_mem _ (List.mem_append_right _ hw)) (by decide +kernel) dX0_setCoefficient_35 dX0_setCoefficient_38 dX0_setCoefficient_39 dX0_setCoefficient_41 dX0_setCoefficient_44 ⟨Nat.le_of_ble_eq_true rfl, Nat.le_of_ble_eq_true rfl, Nat.le_of_ble_eq_true rfl, Nat.le_of_ble_eq_true rfl⟩ (Nat.le_of_ble_eq_true rfl) (Nat.le_of_ble_eq_true rfl) ⟨Or.inr (⟨by unfold kVal; rw [if_pos ⟨q5, q13⟩, if_neg q32], rfl⟩), rfl⟩
    · have q13 : ¬ (ixP N p1) := zi0.mp c13
      exact hthr _ _ _ _ 67 69 71 "java/lang/IndexOutOfBoundsException" "no such row or column" (N, M, S, rl, rh, bl, bh, kl, kh, mn, vc, iv, sc) lk0 lk1 (by decide +kernel) (fun w hw => List.mem_cons_of_mem _ (List.mem_append_left _ (List.mem_append_right _ hw))) (by decide +kernel) dX0_setCoefficient_16 dX0_setCoefficient_19 dX0_setCoefficient_20 dX0_setCoefficient_22 dX0_setCoefficient_25 ⟨Nat.le_of_ble_eq_true rfl, Nat.le_of_ble_eq_true rfl, Nat.le_of_ble_eq_true rfl, Nat.le_of_ble_eq_true rfl⟩ (Nat.le_of_ble_eq_true rfl) (Nat.le_of_ble_eq_true rfl) ⟨Or.inl (⟨if_neg (by rintro ⟨h1, h2⟩; first | exact q5 h1 | exact q13 h2), rfl⟩), rfl⟩


set_option maxRecDepth 100000 in
set_option maxHeartbeats 4000000 in
theorem c0_setRight (l : Launch) (D : va_G) (K : Nat → ClassId) (a : Nat → Nat) (N : Nat) (M : Nat → Nat → Int32) (S : Nat → Nat → Int32) (rl : Nat → Int32) (rh : Nat → Int32) (bl : Nat → Int32) (bh : Nat → Int32) (kl : Nat → Int32) (kh : Nat → Int32) (mn : Nat → Int64) (vc : Nat → Int64) (iv : Nat → Nat → Int64) (sc : Int64) (p0 : Int32) (p1 : Int32) (p2 : Int32) (hst : l.stackTraces = false) (hN : N ≤ 5) : xI l D K yX0_setRight wsX0_setRight 6 82 1 6 [.ref (a 0), .int p0, .int p1, .int p2] (w0 K a (N, M, S, rl, rh, bl, bh, kl, kh, mn, vc, iv, sc)) (fun r u => kInt N p0 p1 p2 999 = 0 ∧ r = othR (rl (ix p0)) (rh (ix p0)) p1 p2 ∧ u = (N, M, S, upd rl (ix p0) p1, upd rh (ix p0) p2, bl, bh, kl, kh, mn, vc, iv, sc)) (fun E u => ((kInt N p0 p1 p2 999 = 1 ∧ E = "java/lang/IndexOutOfBoundsException") ∨ (kInt N p0 p1 p2 999 = 2 ∧ E = "java/lang/IllegalArgumentException")) ∧ u = (N, M, S, rl, rh, bl, bh, kl, kh, mn, vc, iv, sc)) (w0 K a) := by
  have hinX0 : ∀ w ∈ wsX00, w ∈ wsX0_setRight := by decide +kernel
  have lk0 : Cond.fieldLink RX0 17 "IntervalSolver" "rightLows" "[I" ∈ wsX0_setRight := by decide +kernel
  have lk1 : Cond.fieldLink RX0 21 "IntervalSolver" "rightHighs" "[I" ∈ wsX0_setRight := by decide +kernel
  have lk2 : Cond.classLink RX0 52 "java/lang/IllegalArgumentException" ∈ wsX0_setRight := by decide +kernel
  have lk3 : Cond.initialized "java/lang/IllegalArgumentException" ∈ wsX0_setRight := by decide +kernel
  have lk4 : Cond.classLink RX0 67 "java/lang/IndexOutOfBoundsException" ∈ wsX0_setRight := by decide +kernel
  have lk5 : Cond.initialized "java/lang/IndexOutOfBoundsException" ∈ wsX0_setRight := by decide +kernel
  refine x_met_z (cc := cX0_setRight) (maxL := 5) (lv := [(0, .ref (a 0)), (1, .int p0), (2, .int p1), (3, .int p2)]) hst (by decide +kernel) rfl rfl (Nat.le_of_ble_eq_true rfl) rfl ?_
  intro p e s m below meth c args Q A C hend hthr
  refine z_aload_n C dX0_setRight_0 0 rfl ?_
  refine z_iload_n C dX0_setRight_1 1 rfl ?_
  refine z_callVi_all (As := [.int p0]) C (c0_isIndex l D K a N M S rl rh bl bh kl kh mn vc iv sc p0) (cwV 1 C.1.2.2.2.2 gX0_setRight_X0_isIndex rfl rfl rfl (by decide +kernel) ⟨Nat.le_of_ble_eq_true rfl, Nat.le_of_ble_eq_true rfl⟩) (ci := 0) rfl rfl 0 rfl dX0_setRight_2 rfl rfl (Nat.le_of_ble_eq_true rfl) ⟨Nat.le_of_ble_eq_true rfl, Nat.le_of_ble_eq_true rfl⟩ (fun r1 u1 h1 => ?_)
  obtain ⟨rfl, rfl⟩ := h1
  refine z_if_ne (tgt := 18) C dX0_setRight_5 (by decide) (fun c5 => ?_) (fun c5 => ?_)
  · have q5 : ixP N p0 := zi1.mp c5
    obtain ⟨i_p0, l_p0⟩ := ixP_at hN q5
    refine z_iload_n C dX0_setRight_18 2 rfl ?_
    refine z_iload_n C dX0_setRight_19 3 rfl ?_
    refine z_sipush (v := 999) C dX0_setRight_20 (by decide) ?_
    refine z_callSi_none (As := [.int p1, .int p2, .int 999]) C (c0_isInterval l D K p1 p2 999) (va_cwS 3 C.1.2.2.2.2 gX0_setRight_X0_isInterval rfl rfl rfl (by decide +kernel) ⟨Nat.le_of_ble_eq_true rfl, Nat.le_of_ble_eq_true rfl⟩) dX0_setRight_23 rfl rfl (Nat.le_of_ble_eq_true rfl) ⟨Nat.le_of_ble_eq_true rfl, Nat.le_of_ble_eq_true rfl⟩ (fun r2 u2 h2 => ?_)
    subst h2
    refine z_if_ne (tgt := 39) C dX0_setRight_26 (by decide) (fun c26 => ?_) (fun c26 => ?_)
    · have q26 : ((-999 ≤ p1 ∧ p1 ≤ 999) ∧ (-999 ≤ p2 ∧ p2 ≤ 999)) ∧ p1 ≤ p2 := zi1.mp c26
      refine z_aload_n C dX0_setRight_39 0 rfl ?_
      refine z_get (cl := vwCl) (T := TX0) (N := 13) (ci := 0) (ref := "IntervalSolver") C hinX0 rfl 3 (by decide) lk0 rfl dX0_setRight_40 0 rfl rfl ?_
      refine z_iload_n C dX0_setRight_43 1 rfl ?_
      refine z_iald C 0 rfl 3 rfl dX0_setRight_44 (ix p0) i_p0 (by omega) (by decide) ?_
      refine z_iload_n C dX0_setRight_45 2 rfl ?_
      refine z_icmp_ne (tgt := 59) C dX0_setRight_46 (by decide) (fun c46 => ?_) (fun c46 => ?_)
      · refine z_iconst (v := 1) C dX0_setRight_59 (by decide) ?_
        refine z_goto (tgt := 64) C dX0_setRight_60 (by decide) ?_
        refine z_istore (lv' := [(0, .ref (a 0)), (1, .int p0), (2, .int p1), (3, .int p2), (4, .int 1)]) C dX0_setRight_64 (by decide) [1, 2, 3, 4, 0] rfl ?_
        refine z_aload_n C dX0_setRight_66 0 rfl ?_
        refine z_get (cl := vwCl) (T := TX0) (N := 13) (ci := 0) (ref := "IntervalSolver") C hinX0 rfl 3 (by decide) lk0 rfl dX0_setRight_67 0 rfl rfl ?_
        refine z_iload_n C dX0_setRight_70 1 rfl ?_
        refine z_iload_n C dX0_setRight_71 2 rfl ?_
        refine z_iast (ws' := w0 K a (N, M, S, upd rl (ix p0) p1, rh, bl, bh, kl, kh, mn, vc, iv, sc)) C 0 rfl 3 rfl dX0_setRight_72 (ix p0) i_p0 (by omega) (by decide) rfl ?_
        refine z_aload_n C dX0_setRight_73 0 rfl ?_
        refine z_get (cl := vwCl) (T := TX0) (N := 13) (ci := 0) (ref := "IntervalSolver") C hinX0 rfl 4 (by decide) lk1 rfl dX0_setRight_74 0 rfl rfl ?_
        refine z_iload_n C dX0_setRight_77 1 rfl ?_
        refine z_iload_n C dX0_setRight_78 3 rfl ?_
        refine z_iast (ws' := w0 K a (N, M, S, upd rl (ix p0) p1, upd rh (ix p0) p2, bl, bh, kl, kh, mn, vc, iv, sc)) C 0 rfl 4 rfl dX0_setRight_79 (ix p0) i_p0 (by omega) (by decide) rfl ?_
        refine z_iload C dX0_setRight_80 4 rfl ?_
        exact hend _ _ _ _ _ (N, M, S, upd rl (ix p0) p1, upd rh (ix p0) p2, bl, bh, kl, kh, mn, vc, iv, sc) dX0_setRight_82 (by omega) (by omega) (Or.inr rfl) ⟨by unfold kInt; rw [if_pos q5, if_pos (iv_iff.mp q26)], (if_neg (by rintro ⟨h1, h2⟩; first | exact c46 h1 | exact c56 h2) : othR (rl (ix p0)) (rh (ix p0)) p1 p2 = 1).symm, rfl⟩
      · refine z_aload_n C dX0_setRight_49 0 rfl ?_
        refine z_get (cl := vwCl) (T := TX0) (N := 13) (ci := 0) (ref := "IntervalSolver") C hinX0 rfl 4 (by decide) lk1 rfl dX0_setRight_50 0 rfl rfl ?_
        refine z_iload_n C dX0_setRight_53 1 rfl ?_
        refine z_iald C 0 rfl 4 rfl dX0_setRight_54 (ix p0) i_p0 (by omega) (by decide) ?_
        refine z_iload_n C dX0_setRight_55 3 rfl ?_
        refine z_icmp_eq (tgt := 63) C dX0_setRight_56 (by decide) (fun c56 => ?_) (fun c56 => ?_)
        · refine z_iconst (v := 0) C dX0_setRight_63 (by decide) ?_
          refine z_istore (lv' := [(0, .ref (a 0)), (1, .int p0), (2, .int p1), (3, .int p2), (4, .int 0)]) C dX0_setRight_64 (by decide) [1, 2, 3, 4, 0] rfl ?_
          refine z_aload_n C dX0_setRight_66 0 rfl ?_
          refine z_get (cl := vwCl) (T := TX0) (N := 13) (ci := 0) (ref := "IntervalSolver") C hinX0 rfl 3 (by decide) lk0 rfl dX0_setRight_67 0 rfl rfl ?_
          refine z_iload_n C dX0_setRight_70 1 rfl ?_
          refine z_iload_n C dX0_setRight_71 2 rfl ?_
          refine z_iast (ws' := w0 K a (N, M, S, upd rl (ix p0) p1, rh, bl, bh, kl, kh, mn, vc, iv, sc)) C 0 rfl 3 rfl dX0_setRight_72 (ix p0) i_p0 (by omega) (by decide) rfl ?_
          refine z_aload_n C dX0_setRight_73 0 rfl ?_
          refine z_get (cl := vwCl) (T := TX0) (N := 13) (ci := 0) (ref := "IntervalSolver") C hinX0 rfl 4 (by decide) lk1 rfl dX0_setRight_74 0 rfl rfl ?_
          refine z_iload_n C dX0_setRight_77 1 rfl ?_
          refine z_iload_n C dX0_setRight_78 3 rfl ?_
          refine z_iast (ws' := w0 K a (N, M, S, upd rl (ix p0) p1, upd rh (ix p0) p2, bl, bh, kl, kh, mn, vc, iv, sc)) C 0 rfl 4 rfl dX0_setRight_79 (ix p0) i_p0 (by omega) (by decide) rfl ?_
          refine z_iload C dX0_setRight_80 4 rfl ?_
          exact hend _ _ _ _ _ (N, M, S, upd rl (ix p0) p1, upd rh (ix p0) p2, bl, bh, kl, kh, mn, vc, iv, sc) dX0_setRight_82 (by omega) (by omega) (Or.inl rfl) ⟨by unfold kInt; rw [if_pos q5, if_pos (iv_iff.mp q26)], (if_pos ⟨c46, c56⟩ : othR (rl (ix p0)) (rh (ix p0)) p1 p2 = 0).symm, rfl⟩
        · refine z_iconst (v := 1) C dX0_setRight_59 (by decide) ?_
          refine z_goto (tgt := 64) C dX0_setRight_60 (by decide) ?_
          refine z_istore (lv' := [(0, .ref (a 0)), (1, .int p0), (2, .int p1), (3, .int p2), (4, .int 1)]) C dX0_setRight_64 (by decide) [1, 2, 3, 4, 0] rfl ?_
          refine z_aload_n C dX0_setRight_66 0 rfl ?_
          refine z_get (cl := vwCl) (T := TX0) (N := 13) (ci := 0) (ref := "IntervalSolver") C hinX0 rfl 3 (by decide) lk0 rfl dX0_setRight_67 0 rfl rfl ?_
          refine z_iload_n C dX0_setRight_70 1 rfl ?_
          refine z_iload_n C dX0_setRight_71 2 rfl ?_
          refine z_iast (ws' := w0 K a (N, M, S, upd rl (ix p0) p1, rh, bl, bh, kl, kh, mn, vc, iv, sc)) C 0 rfl 3 rfl dX0_setRight_72 (ix p0) i_p0 (by omega) (by decide) rfl ?_
          refine z_aload_n C dX0_setRight_73 0 rfl ?_
          refine z_get (cl := vwCl) (T := TX0) (N := 13) (ci := 0) (ref := "IntervalSolver") C hinX0 rfl 4 (by decide) lk1 rfl dX0_setRight_74 0 rfl rfl ?_
          refine z_iload_n C dX0_setRight_77 1 rfl ?_
          refine z_iload_n C dX0_setRight_78 3 rfl ?_
          refine z_iast (ws' := w0 K a (N, M, S, upd rl (ix p0) p1, upd rh (ix p0) p2, bl, bh, kl, kh, mn, vc, iv, sc)) C 0 rfl 4 rfl dX0_setRight_79 (ix p0) i_p0 (by omega) (by decide) rfl ?_
          refine z_iload C dX0_setRight_80 4 rfl ?_
          exact hend _ _ _ _ _ (N, M, S, upd rl (ix p0) p1, upd rh (ix p0) p2, bl, bh, kl, kh, mn, vc, iv, sc) dX0_setRight_82 (by omega) (by omega) (Or.inr rfl) ⟨by unfold kInt; rw [if_pos q5, if_pos (iv_iff.mp q26)], (if_neg (by rintro ⟨h1, h2⟩; first | exact c46 h1 | exact c56 h2) : othR (rl (ix p0)) (rh (ix p0)) p1 p2 = 1).symm, rfl⟩
    · have q26 : ¬ (((-999 ≤ p1 ∧ p1 ≤ 999) ∧ (-999 ≤ p2 ∧ p2 ≤ 999)) ∧ p1 ≤ p2) := zi0.mp c26
      exact hthr _ _ _ _ 52 84 56 "java/lang/IllegalArgumentException" "the right side is no interval in -999 to 999" (N, M, S, rl, rh, bl, bh, kl, kh, mn, vc, iv, sc) lk2 lk3 (by decide +kernel) (fun w hw => List.mem_cons_of_mem _ (List.mem_append_right _ hw)) (by decide +kernel) dX0_setRight_29 dX0_setRight_32 dX0_setRight_33 dX0_setRight_35 dX0_setRight_38 ⟨Nat.le_of_ble_eq_true rfl, Nat.le_of_ble_eq_true rfl, Nat.le_of_ble_eq_true rfl, Nat.le_of_ble_eq_true rfl⟩ (Nat.le_of_ble_eq_true rfl) (Nat.le_of_ble_eq_true rfl) ⟨Or.inr (⟨by unfold kInt; rw [if_pos q5, if_neg (mt iv_iff.mpr q26)], rfl⟩), rfl⟩
  · have q5 : ¬ (ixP N p0) := zi0.mp c5
    exact hthr _ _ _ _ 67 78 71 "java/lang/IndexOutOfBoundsException" "no such row" (N, M, S, rl, rh, bl, bh, kl, kh, mn, vc, iv, sc) lk4 lk5 (by decide +kernel) (fun w hw => List.mem_cons_of_mem _ (List.mem_append_left _ (List.mem_append_right _ hw))) (by decide +kernel) dX0_setRight_8 dX0_setRight_11 dX0_setRight_12 dX0_setRight_14 dX0_setRight_17 ⟨Nat.le_of_ble_eq_true rfl, Nat.le_of_ble_eq_true rfl, Nat.le_of_ble_eq_true rfl, Nat.le_of_ble_eq_true rfl⟩ (Nat.le_of_ble_eq_true rfl) (Nat.le_of_ble_eq_true rfl) ⟨Or.inl (⟨if_neg q5, rfl⟩), rfl⟩

set_option maxRecDepth 100000 in
set_option maxHeartbeats 4000000 in
theorem c0_setBox (l : Launch) (D : va_G) (K : Nat → ClassId) (a : Nat → Nat) (N : Nat) (M : Nat → Nat → Int32) (S : Nat → Nat → Int32) (rl : Nat → Int32) (rh : Nat → Int32) (bl : Nat → Int32) (bh : Nat → Int32) (kl : Nat → Int32) (kh : Nat → Int32) (mn : Nat → Int64) (vc : Nat → Int64) (iv : Nat → Nat → Int64) (sc : Int64) (p0 : Int32) (p1 : Int32) (p2 : Int32) (hst : l.stackTraces = false) (hN : N ≤ 5) : xI l D K yX0_setBox wsX0_setBox 6 82 1 6 [.ref (a 0), .int p0, .int p1, .int p2] (w0 K a (N, M, S, rl, rh, bl, bh, kl, kh, mn, vc, iv, sc)) (fun r u => kInt N p0 p1 p2 1000000000 = 0 ∧ r = othR (bl (ix p0)) (bh (ix p0)) p1 p2 ∧ u = (N, M, S, rl, rh, upd bl (ix p0) p1, upd bh (ix p0) p2, kl, kh, mn, vc, iv, sc)) (fun E u => ((kInt N p0 p1 p2 1000000000 = 1 ∧ E = "java/lang/IndexOutOfBoundsException") ∨ (kInt N p0 p1 p2 1000000000 = 2 ∧ E = "java/lang/IllegalArgumentException")) ∧ u = (N, M, S, rl, rh, bl, bh, kl, kh, mn, vc, iv, sc)) (w0 K a) := by
  have hinX0 : ∀ w ∈ wsX00, w ∈ wsX0_setBox := by decide +kernel
  have lk0 : Cond.constant RX0 160 (1000000000) ∈ wsX0_setBox := by decide +kernel
  have lk1 : Cond.fieldLink RX0 24 "IntervalSolver" "boxLows" "[I" ∈ wsX0_setBox := by decide +kernel
  have lk2 : Cond.fieldLink RX0 27 "IntervalSolver" "boxHighs" "[I" ∈ wsX0_setBox := by decide +kernel
  have lk3 : Cond.classLink RX0 52 "java/lang/IllegalArgumentException" ∈ wsX0_setBox := by decide +kernel
  have lk4 : Cond.initialized "java/lang/IllegalArgumentException" ∈ wsX0_setBox := by decide +kernel
  have lk5 : Cond.classLink RX0 67 "java/lang/IndexOutOfBoundsException" ∈ wsX0_setBox := by decide +kernel
  have lk6 : Cond.initialized "java/lang/IndexOutOfBoundsException" ∈ wsX0_setBox := by decide +kernel
  refine x_met_z (cc := cX0_setBox) (maxL := 5) (lv := [(0, .ref (a 0)), (1, .int p0), (2, .int p1), (3, .int p2)]) hst (by decide +kernel) rfl rfl (Nat.le_of_ble_eq_true rfl) rfl ?_
  intro p e s m below meth c args Q A C hend hthr
  refine z_aload_n C dX0_setBox_0 0 rfl ?_
  refine z_iload_n C dX0_setBox_1 1 rfl ?_
  refine z_callVi_all (As := [.int p0]) C (c0_isIndex l D K a N M S rl rh bl bh kl kh mn vc iv sc p0) (cwV 1 C.1.2.2.2.2 gX0_setBox_X0_isIndex rfl rfl rfl (by decide +kernel) ⟨Nat.le_of_ble_eq_true rfl, Nat.le_of_ble_eq_true rfl⟩) (ci := 0) rfl rfl 0 rfl dX0_setBox_2 rfl rfl (Nat.le_of_ble_eq_true rfl) ⟨Nat.le_of_ble_eq_true rfl, Nat.le_of_ble_eq_true rfl⟩ (fun r1 u1 h1 => ?_)
  obtain ⟨rfl, rfl⟩ := h1
  refine z_if_ne (tgt := 18) C dX0_setBox_5 (by decide) (fun c5 => ?_) (fun c5 => ?_)
  · have q5 : ixP N p0 := zi1.mp c5
    obtain ⟨i_p0, l_p0⟩ := ixP_at hN q5
    refine z_iload_n C dX0_setBox_18 2 rfl ?_
    refine z_iload_n C dX0_setBox_19 3 rfl ?_
    refine z_ldc C lk0 dX0_setBox_20 ?_
    refine z_callSi_none (As := [.int p1, .int p2, .int (1000000000)]) C (c0_isInterval l D K p1 p2 (1000000000)) (va_cwS 3 C.1.2.2.2.2 gX0_setBox_X0_isInterval rfl rfl rfl (by decide +kernel) ⟨Nat.le_of_ble_eq_true rfl, Nat.le_of_ble_eq_true rfl⟩) dX0_setBox_22 rfl rfl (Nat.le_of_ble_eq_true rfl) ⟨Nat.le_of_ble_eq_true rfl, Nat.le_of_ble_eq_true rfl⟩ (fun r2 u2 h2 => ?_)
    subst h2
    refine z_if_ne (tgt := 38) C dX0_setBox_25 (by decide) (fun c25 => ?_) (fun c25 => ?_)
    · have q25 : ((-(1000000000) ≤ p1 ∧ p1 ≤ (1000000000)) ∧ (-(1000000000) ≤ p2 ∧ p2 ≤ (1000000000))) ∧ p1 ≤ p2 := zi1.mp c25
      refine z_aload_n C dX0_setBox_38 0 rfl ?_
      refine z_get (cl := vwCl) (T := TX0) (N := 13) (ci := 0) (ref := "IntervalSolver") C hinX0 rfl 5 (by decide) lk1 rfl dX0_setBox_39 0 rfl rfl ?_
      refine z_iload_n C dX0_setBox_42 1 rfl ?_
      refine z_iald C 0 rfl 5 rfl dX0_setBox_43 (ix p0) i_p0 (by omega) (by decide) ?_
      refine z_iload_n C dX0_setBox_44 2 rfl ?_
      refine z_icmp_ne (tgt := 58) C dX0_setBox_45 (by decide) (fun c45 => ?_) (fun c45 => ?_)
      · refine z_iconst (v := 1) C dX0_setBox_58 (by decide) ?_
        refine z_goto (tgt := 63) C dX0_setBox_59 (by decide) ?_
        refine z_istore (lv' := [(0, .ref (a 0)), (1, .int p0), (2, .int p1), (3, .int p2), (4, .int 1)]) C dX0_setBox_63 (by decide) [1, 2, 3, 4, 0] rfl ?_
        refine z_aload_n C dX0_setBox_65 0 rfl ?_
        refine z_get (cl := vwCl) (T := TX0) (N := 13) (ci := 0) (ref := "IntervalSolver") C hinX0 rfl 5 (by decide) lk1 rfl dX0_setBox_66 0 rfl rfl ?_
        refine z_iload_n C dX0_setBox_69 1 rfl ?_
        refine z_iload_n C dX0_setBox_70 2 rfl ?_
        refine z_iast (ws' := w0 K a (N, M, S, rl, rh, upd bl (ix p0) p1, bh, kl, kh, mn, vc, iv, sc)) C 0 rfl 5 rfl dX0_setBox_71 (ix p0) i_p0 (by omega) (by decide) rfl ?_
        refine z_aload_n C dX0_setBox_72 0 rfl ?_
        refine z_get (cl := vwCl) (T := TX0) (N := 13) (ci := 0) (ref := "IntervalSolver") C hinX0 rfl 6 (by decide) lk2 rfl dX0_setBox_73 0 rfl rfl ?_
        refine z_iload_n C dX0_setBox_76 1 rfl ?_
        refine z_iload_n C dX0_setBox_77 3 rfl ?_
        refine z_iast (ws' := w0 K a (N, M, S, rl, rh, upd bl (ix p0) p1, upd bh (ix p0) p2, kl, kh, mn, vc, iv, sc)) C 0 rfl 6 rfl dX0_setBox_78 (ix p0) i_p0 (by omega) (by decide) rfl ?_
        refine z_iload C dX0_setBox_79 4 rfl ?_
        exact hend _ _ _ _ _ (N, M, S, rl, rh, upd bl (ix p0) p1, upd bh (ix p0) p2, kl, kh, mn, vc, iv, sc) dX0_setBox_81 (by omega) (by omega) (Or.inr rfl) ⟨by unfold kInt; rw [if_pos q5, if_pos (iv_iff.mp q25)], (if_neg (by rintro ⟨h1, h2⟩; first | exact c45 h1 | exact c55 h2) : othR (bl (ix p0)) (bh (ix p0)) p1 p2 = 1).symm, rfl⟩
      · refine z_aload_n C dX0_setBox_48 0 rfl ?_
        refine z_get (cl := vwCl) (T := TX0) (N := 13) (ci := 0) (ref := "IntervalSolver") C hinX0 rfl 6 (by decide) lk2 rfl dX0_setBox_49 0 rfl rfl ?_
        refine z_iload_n C dX0_setBox_52 1 rfl ?_
        refine z_iald C 0 rfl 6 rfl dX0_setBox_53 (ix p0) i_p0 (by omega) (by decide) ?_
        refine z_iload_n C dX0_setBox_54 3 rfl ?_
        refine z_icmp_eq (tgt := 62) C dX0_setBox_55 (by decide) (fun c55 => ?_) (fun c55 => ?_)
        · refine z_iconst (v := 0) C dX0_setBox_62 (by decide) ?_
          refine z_istore (lv' := [(0, .ref (a 0)), (1, .int p0), (2, .int p1), (3, .int p2), (4, .int 0)]) C dX0_setBox_63 (by decide) [1, 2, 3, 4, 0] rfl ?_
          refine z_aload_n C dX0_setBox_65 0 rfl ?_
          refine z_get (cl := vwCl) (T := TX0) (N := 13) (ci := 0) (ref := "IntervalSolver") C hinX0 rfl 5 (by decide) lk1 rfl dX0_setBox_66 0 rfl rfl ?_
          refine z_iload_n C dX0_setBox_69 1 rfl ?_
          refine z_iload_n C dX0_setBox_70 2 rfl ?_
          refine z_iast (ws' := w0 K a (N, M, S, rl, rh, upd bl (ix p0) p1, bh, kl, kh, mn, vc, iv, sc)) C 0 rfl 5 rfl dX0_setBox_71 (ix p0) i_p0 (by omega) (by decide) rfl ?_
          refine z_aload_n C dX0_setBox_72 0 rfl ?_
          refine z_get (cl := vwCl) (T := TX0) (N := 13) (ci := 0) (ref := "IntervalSolver") C hinX0 rfl 6 (by decide) lk2 rfl dX0_setBox_73 0 rfl rfl ?_
          refine z_iload_n C dX0_setBox_76 1 rfl ?_
          refine z_iload_n C dX0_setBox_77 3 rfl ?_
          refine z_iast (ws' := w0 K a (N, M, S, rl, rh, upd bl (ix p0) p1, upd bh (ix p0) p2, kl, kh, mn, vc, iv, sc)) C 0 rfl 6 rfl dX0_setBox_78 (ix p0) i_p0 (by omega) (by decide) rfl ?_
          refine z_iload C dX0_setBox_79 4 rfl ?_
          exact hend _ _ _ _ _ (N, M, S, rl, rh, upd bl (ix p0) p1, upd bh (ix p0) p2, kl, kh, mn, vc, iv, sc) dX0_setBox_81 (by omega) (by omega) (Or.inl rfl) ⟨by unfold kInt; rw [if_pos q5, if_pos (iv_iff.mp q25)], (if_pos ⟨c45, c55⟩ : othR (bl (ix p0)) (bh (ix p0)) p1 p2 = 0).symm, rfl⟩
        · refine z_iconst (v := 1) C dX0_setBox_58 (by decide) ?_
          refine z_goto (tgt := 63) C dX0_setBox_59 (by decide) ?_
          refine z_istore (lv' := [(0, .ref (a 0)), (1, .int p0), (2, .int p1), (3, .int p2), (4, .int 1)]) C dX0_setBox_63 (by decide) [1, 2, 3, 4, 0] rfl ?_
          refine z_aload_n C dX0_setBox_65 0 rfl ?_
          refine z_get (cl := vwCl) (T := TX0) (N := 13) (ci := 0) (ref := "IntervalSolver") C hinX0 rfl 5 (by decide) lk1 rfl dX0_setBox_66 0 rfl rfl ?_
          refine z_iload_n C dX0_setBox_69 1 rfl ?_
          refine z_iload_n C dX0_setBox_70 2 rfl ?_
          refine z_iast (ws' := w0 K a (N, M, S, rl, rh, upd bl (ix p0) p1, bh, kl, kh, mn, vc, iv, sc)) C 0 rfl 5 rfl dX0_setBox_71 (ix p0) i_p0 (by omega) (by decide) rfl ?_
          refine z_aload_n C dX0_setBox_72 0 rfl ?_
          refine z_get (cl := vwCl) (T := TX0) (N := 13) (ci := 0) (ref := "IntervalSolver") C hinX0 rfl 6 (by decide) lk2 rfl dX0_setBox_73 0 rfl rfl ?_
          refine z_iload_n C dX0_setBox_76 1 rfl ?_
          refine z_iload_n C dX0_setBox_77 3 rfl ?_
          refine z_iast (ws' := w0 K a (N, M, S, rl, rh, upd bl (ix p0) p1, upd bh (ix p0) p2, kl, kh, mn, vc, iv, sc)) C 0 rfl 6 rfl dX0_setBox_78 (ix p0) i_p0 (by omega) (by decide) rfl ?_
          refine z_iload C dX0_setBox_79 4 rfl ?_
          exact hend _ _ _ _ _ (N, M, S, rl, rh, upd bl (ix p0) p1, upd bh (ix p0) p2, kl, kh, mn, vc, iv, sc) dX0_setBox_81 (by omega) (by omega) (Or.inr rfl) ⟨by unfold kInt; rw [if_pos q5, if_pos (iv_iff.mp q25)], (if_neg (by rintro ⟨h1, h2⟩; first | exact c45 h1 | exact c55 h2) : othR (bl (ix p0)) (bh (ix p0)) p1 p2 = 1).symm, rfl⟩
    · have q25 : ¬ (((-(1000000000) ≤ p1 ∧ p1 ≤ (1000000000)) ∧ (-(1000000000) ≤ p2 ∧ p2 ≤ (1000000000))) ∧ p1 ≤ p2) := zi0.mp c25
      exact hthr _ _ _ _ 52 161 56 "java/lang/IllegalArgumentException" "no interval in -1000000000 to 1000000000" (N, M, S, rl, rh, bl, bh, kl, kh, mn, vc, iv, sc) lk3 lk4 (by decide +kernel) (fun w hw => List.mem_cons_of_mem _ (List.mem_append_right _ hw)) (by decide +kernel) dX0_setBox_28 dX0_setBox_31 dX0_setBox_32 dX0_setBox_34 dX0_setBox_37 ⟨Nat.le_of_ble_eq_true rfl, Nat.le_of_ble_eq_true rfl, Nat.le_of_ble_eq_true rfl, Nat.le_of_ble_eq_true rfl⟩ (Nat.le_of_ble_eq_true rfl) (Nat.le_of_ble_eq_true rfl) ⟨Or.inr (⟨by unfold kInt; rw [if_pos q5, if_neg (mt iv_iff.mpr q25)], rfl⟩), rfl⟩
  · have q5 : ¬ (ixP N p0) := zi0.mp c5
    exact hthr _ _ _ _ 67 119 71 "java/lang/IndexOutOfBoundsException" "no such component" (N, M, S, rl, rh, bl, bh, kl, kh, mn, vc, iv, sc) lk5 lk6 (by decide +kernel) (fun w hw => List.mem_cons_of_mem _ (List.mem_append_left _ (List.mem_append_right _ hw))) (by decide +kernel) dX0_setBox_8 dX0_setBox_11 dX0_setBox_12 dX0_setBox_14 dX0_setBox_17 ⟨Nat.le_of_ble_eq_true rfl, Nat.le_of_ble_eq_true rfl, Nat.le_of_ble_eq_true rfl, Nat.le_of_ble_eq_true rfl⟩ (Nat.le_of_ble_eq_true rfl) (Nat.le_of_ble_eq_true rfl) ⟨Or.inl (⟨if_neg q5, rfl⟩), rfl⟩

set_option maxRecDepth 100000 in
set_option maxHeartbeats 4000000 in
theorem c0_swapRows (l : Launch) (D : va_G) (K : Nat → ClassId) (a : Nat → Nat) (N : Nat) (M : Nat → Nat → Int32) (S : Nat → Nat → Int32) (rl : Nat → Int32) (rh : Nat → Int32) (bl : Nat → Int32) (bh : Nat → Int32) (kl : Nat → Int32) (kh : Nat → Int32) (mn : Nat → Int64) (vc : Nat → Int64) (iv : Nat → Nat → Int64) (sc : Int64) (p0 : Int32) (p1 : Int32) (hst : l.stackTraces = false) (hN : N ≤ 5) : xI l D K yX0_swapRows wsX0_swapRows 6 82 1 6 [.ref (a 0), .int p0, .int p1] (w0 K a (N, M, S, rl, rh, bl, bh, kl, kh, mn, vc, iv, sc)) (fun r u => kIx2 N p0 p1 = 0 ∧ r = neI p0 p1 ∧ u = (N, swpM M (ix p0) (ix p1) N, swpM S (ix p0) (ix p1) N, swpV rl (ix p0) (ix p1), swpV rh (ix p0) (ix p1), bl, bh, kl, kh, mn, vc, iv, sc)) (fun E u => ((kIx2 N p0 p1 = 1 ∧ E = "java/lang/IndexOutOfBoundsException")) ∧ u = (N, M, S, rl, rh, bl, bh, kl, kh, mn, vc, iv, sc)) (w0 K a) := by
  have hinX0 : ∀ w ∈ wsX00, w ∈ wsX0_swapRows := by decide +kernel
  have lk0 : Cond.classLink RX0 67 "java/lang/IndexOutOfBoundsException" ∈ wsX0_swapRows := by decide +kernel
  have lk1 : Cond.initialized "java/lang/IndexOutOfBoundsException" ∈ wsX0_swapRows := by decide +kernel
  have lk2 : Cond.fieldLink RX0 59 "IntervalSolver" "n" "I" ∈ wsX0_swapRows := by decide +kernel
  have lk3 : Cond.fieldLink RX0 17 "IntervalSolver" "rightLows" "[I" ∈ wsX0_swapRows := by decide +kernel
  have lk4 : Cond.fieldLink RX0 21 "IntervalSolver" "rightHighs" "[I" ∈ wsX0_swapRows := by decide +kernel
  have lk5 : Cond.fieldLink RX0 11 "IntervalSolver" "coefficients" "[[I" ∈ wsX0_swapRows := by decide +kernel
  have lk6 : Cond.fieldLink RX0 14 "IntervalSolver" "spreads" "[[I" ∈ wsX0_swapRows := by decide +kernel
  refine x_met_z (cc := cX0_swapRows) (maxL := 6) (lv := [(0, .ref (a 0)), (1, .int p0), (2, .int p1)]) hst (by decide +kernel) rfl rfl (Nat.le_of_ble_eq_true rfl) rfl ?_
  intro p e s m below meth c args Q A C hend hthr
  refine z_aload_n C dX0_swapRows_0 0 rfl ?_
  refine z_iload_n C dX0_swapRows_1 1 rfl ?_
  refine z_callVi_all (As := [.int p0]) C (c0_isIndex l D K a N M S rl rh bl bh kl kh mn vc iv sc p0) (cwV 1 C.1.2.2.2.2 gX0_swapRows_X0_isIndex rfl rfl rfl (by decide +kernel) ⟨Nat.le_of_ble_eq_true rfl, Nat.le_of_ble_eq_true rfl⟩) (ci := 0) rfl rfl 0 rfl dX0_swapRows_2 rfl rfl (Nat.le_of_ble_eq_true rfl) ⟨Nat.le_of_ble_eq_true rfl, Nat.le_of_ble_eq_true rfl⟩ (fun r1 u1 h1 => ?_)
  obtain ⟨rfl, rfl⟩ := h1
  refine z_if_eq (tgt := 16) C dX0_swapRows_5 (by decide) (fun c5 => ?_) (fun c5 => ?_)
  · have q5 : ¬ (ixP N p0) := zi0.mp c5
    exact hthr _ _ _ _ 67 78 71 "java/lang/IndexOutOfBoundsException" "no such row" (N, M, S, rl, rh, bl, bh, kl, kh, mn, vc, iv, sc) lk0 lk1 (by decide +kernel) (fun w hw => List.mem_cons_of_mem _ (List.mem_append_right _ hw)) (by decide +kernel) dX0_swapRows_16 dX0_swapRows_19 dX0_swapRows_20 dX0_swapRows_22 dX0_swapRows_25 ⟨Nat.le_of_ble_eq_true rfl, Nat.le_of_ble_eq_true rfl, Nat.le_of_ble_eq_true rfl, Nat.le_of_ble_eq_true rfl⟩ (Nat.le_of_ble_eq_true rfl) (Nat.le_of_ble_eq_true rfl) ⟨⟨if_neg (by rintro ⟨h1, h2⟩; first | exact q5 h1 | exact q13 h2), rfl⟩, rfl⟩
  · have q5 : ixP N p0 := zi1.mp c5
    obtain ⟨i_p0, l_p0⟩ := ixP_at hN q5
    refine z_aload_n C dX0_swapRows_8 0 rfl ?_
    refine z_iload_n C dX0_swapRows_9 2 rfl ?_
    refine z_callVi_all (As := [.int p1]) C (c0_isIndex l D K a N M S rl rh bl bh kl kh mn vc iv sc p1) (cwV 1 C.1.2.2.2.2 gX0_swapRows_X0_isIndex rfl rfl rfl (by decide +kernel) ⟨Nat.le_of_ble_eq_true rfl, Nat.le_of_ble_eq_true rfl⟩) (ci := 0) rfl rfl 0 rfl dX0_swapRows_10 rfl rfl (Nat.le_of_ble_eq_true rfl) ⟨Nat.le_of_ble_eq_true rfl, Nat.le_of_ble_eq_true rfl⟩ (fun r2 u2 h2 => ?_)
    obtain ⟨rfl, rfl⟩ := h2
    refine z_if_ne (tgt := 26) C dX0_swapRows_13 (by decide) (fun c13 => ?_) (fun c13 => ?_)
    · have q13 : ixP N p1 := zi1.mp c13
      obtain ⟨i_p1, l_p1⟩ := ixP_at hN q13
      refine z_iconst (v := 0) C dX0_swapRows_26 (by decide) ?_
      refine z_istore_n (lv' := [(0, .ref (a 0)), (1, .int p0), (2, .int p1), (3, .int 0)]) C dX0_swapRows_27 (by decide) [1, 2, 3, 0] rfl ?_
      suffices L28 : ∀ (f28_j j : Nat), 0 ≤ j → j ≤ N → N < j + f28_j → zW p l e { frames := 6, cells := 1, slots := 6, locals := 82 } s m args below meth c Q 6 A s.heap D vwCl 0 0 (w0 K a (N, swpM M (ix p0) (ix p1) j, swpM S (ix p0) (ix p1) j, rl, rh, bl, bh, kl, kh, mn, vc, iv, sc)) 28 ([(0, .ref (a 0)), (1, .int p0), (2, .int p1), (3, .int (nI j))]) [] from L28 (N + 1) 0 (Nat.le_refl _) (by omega) (by omega)
      intro f28_j
      induction f28_j with
      | zero => intro j h0 h1 h2; exact absurd h2 (by omega)
      | succ f28_j ih28_j =>
        intro j g28_0 g28_1 g28_2
        refine z_iload_n C dX0_swapRows_28 3 rfl ?_
        refine z_aload_n C dX0_swapRows_29 0 rfl ?_
        refine z_get (cl := vwCl) (T := TX0) (N := 13) (ci := 0) (ref := "IntervalSolver") C hinX0 rfl 0 (by decide) lk2 rfl dX0_swapRows_30 0 rfl rfl ?_
        refine z_icmp_ge (tgt := 114) C dX0_swapRows_33 (by decide) (fun c33 => ?_) (fun c33 => ?_)
        · have e33 : j = N := by have := (nI_leI (a := N) (b := j) (by omega) (by omega)).mp c33; omega
          rw [e33]
          refine z_aload_n C dX0_swapRows_114 0 rfl ?_
          refine z_get (cl := vwCl) (T := TX0) (N := 13) (ci := 0) (ref := "IntervalSolver") C hinX0 rfl 3 (by decide) lk3 rfl dX0_swapRows_115 0 rfl rfl ?_
          refine z_iload_n C dX0_swapRows_118 1 rfl ?_
          refine z_topi (nI (ix p0)) i_p0 ?_
          refine z_iload_n C dX0_swapRows_119 2 rfl ?_
          refine z_topi (nI (ix p1)) i_p1 ?_
          refine z_callSv (X := (w0 K a (N, swpM M (ix p0) (ix p1) N, swpM S (ix p0) (ix p1) N, rl, rh, bl, bh, kl, kh, mn, vc, iv, sc)).take 3) (wc := [(a 3, .inl (K 0, 5, .inl (rl)))]) (Y := (w0 K a (N, swpM M (ix p0) (ix p1) N, swpM S (ix p0) (ix p1) N, rl, rh, bl, bh, kl, kh, mn, vc, iv, sc)).drop 4) (As := [.ref (a 3), .int (nI (ix p0)), .int (nI (ix p1))]) C (c0_exchange l D K (a 3) 5 (rl) (ix p0) (ix p1) (by omega) (by omega) (by omega)) (va_cwS 3 C.1.2.2.2.2 gX0_swapRows_X0_exchange rfl rfl rfl (by decide +kernel) ⟨Nat.le_of_ble_eq_true rfl, Nat.le_of_ble_eq_true rfl⟩) dX0_swapRows_120 rfl rfl (Nat.le_of_ble_eq_true rfl) ⟨Nat.le_of_ble_eq_true rfl, Nat.le_of_ble_eq_true rfl⟩ rfl (fun u3 h3 => ?_)
          subst h3
          refine z_ws (ws' := w0 K a (N, swpM M (ix p0) (ix p1) N, swpM S (ix p0) (ix p1) N, swpV rl (ix p0) (ix p1), rh, bl, bh, kl, kh, mn, vc, iv, sc)) rfl ?_
          refine z_aload_n C dX0_swapRows_123 0 rfl ?_
          refine z_get (cl := vwCl) (T := TX0) (N := 13) (ci := 0) (ref := "IntervalSolver") C hinX0 rfl 4 (by decide) lk4 rfl dX0_swapRows_124 0 rfl rfl ?_
          refine z_iload_n C dX0_swapRows_127 1 rfl ?_
          refine z_topi (nI (ix p0)) i_p0 ?_
          refine z_iload_n C dX0_swapRows_128 2 rfl ?_
          refine z_topi (nI (ix p1)) i_p1 ?_
          refine z_callSv (X := (w0 K a (N, swpM M (ix p0) (ix p1) N, swpM S (ix p0) (ix p1) N, swpV rl (ix p0) (ix p1), rh, bl, bh, kl, kh, mn, vc, iv, sc)).take 4) (wc := [(a 4, .inl (K 0, 5, .inl (rh)))]) (Y := (w0 K a (N, swpM M (ix p0) (ix p1) N, swpM S (ix p0) (ix p1) N, swpV rl (ix p0) (ix p1), rh, bl, bh, kl, kh, mn, vc, iv, sc)).drop 5) (As := [.ref (a 4), .int (nI (ix p0)), .int (nI (ix p1))]) C (c0_exchange l D K (a 4) 5 (rh) (ix p0) (ix p1) (by omega) (by omega) (by omega)) (va_cwS 3 C.1.2.2.2.2 gX0_swapRows_X0_exchange rfl rfl rfl (by decide +kernel) ⟨Nat.le_of_ble_eq_true rfl, Nat.le_of_ble_eq_true rfl⟩) dX0_swapRows_129 rfl rfl (Nat.le_of_ble_eq_true rfl) ⟨Nat.le_of_ble_eq_true rfl, Nat.le_of_ble_eq_true rfl⟩ rfl (fun u4 h4 => ?_)
          subst h4
          refine z_ws (ws' := w0 K a (N, swpM M (ix p0) (ix p1) N, swpM S (ix p0) (ix p1) N, swpV rl (ix p0) (ix p1), swpV rh (ix p0) (ix p1), bl, bh, kl, kh, mn, vc, iv, sc)) rfl ?_
          refine z_iload_n C dX0_swapRows_132 1 rfl ?_
          refine z_iload_n C dX0_swapRows_133 2 rfl ?_
          refine z_icmp_eq (tgt := 141) C dX0_swapRows_134 (by decide) (fun c134 => ?_) (fun c134 => ?_)
          · refine z_iconst (v := 0) C dX0_swapRows_141 (by decide) ?_
            exact hend _ _ _ _ _ (N, swpM M (ix p0) (ix p1) N, swpM S (ix p0) (ix p1) N, swpV rl (ix p0) (ix p1), swpV rh (ix p0) (ix p1), bl, bh, kl, kh, mn, vc, iv, sc) dX0_swapRows_142 (by omega) (by omega) (Or.inl rfl) ⟨if_pos ⟨q5, q13⟩, (if_pos c134 : neI p0 p1 = 0).symm, rfl⟩
          · refine z_iconst (v := 1) C dX0_swapRows_137 (by decide) ?_
            refine z_goto (tgt := 142) C dX0_swapRows_138 (by decide) ?_
            exact hend _ _ _ _ _ (N, swpM M (ix p0) (ix p1) N, swpM S (ix p0) (ix p1) N, swpV rl (ix p0) (ix p1), swpV rh (ix p0) (ix p1), bl, bh, kl, kh, mn, vc, iv, sc) dX0_swapRows_142 (by omega) (by omega) (Or.inr rfl) ⟨if_pos ⟨q5, q13⟩, (if_neg c134 : neI p0 p1 = 1).symm, rfl⟩
        · have e33 : j < N := by have := mt (nI_leI (a := N) (b := j) (by omega) (by omega)).mpr c33; omega
          refine z_aload_n C dX0_swapRows_36 0 rfl ?_
          refine z_get (cl := vwCl) (T := TX0) (N := 13) (ci := 0) (ref := "IntervalSolver") C hinX0 rfl 1 (by decide) lk5 rfl dX0_swapRows_37 0 rfl rfl ?_
          refine z_iload_n C dX0_swapRows_40 1 rfl ?_
          refine z_aald (y := a (12 + (ix p0))) C 2 rfl 1 rfl dX0_swapRows_41 (ix p0) i_p0 (by omega) (by decide) (if_pos (by omega)) ?_
          refine z_iload_n C dX0_swapRows_42 3 rfl ?_
          refine z_iald C 0 rfl (12 + (ix p0)) (w0_atM (by omega)) dX0_swapRows_43 j rfl (by omega) (by decide) ?_
          refine z_istore (lv' := [(0, .ref (a 0)), (1, .int p0), (2, .int p1), (3, .int (nI j)), (4, .int ((swpM M (ix p0) (ix p1) j) (ix p0) j))]) C dX0_swapRows_44 (by decide) [1, 2, 3, 4, 0] rfl ?_
          refine z_aload_n C dX0_swapRows_46 0 rfl ?_
          refine z_get (cl := vwCl) (T := TX0) (N := 13) (ci := 0) (ref := "IntervalSolver") C hinX0 rfl 1 (by decide) lk5 rfl dX0_swapRows_47 0 rfl rfl ?_
          refine z_iload_n C dX0_swapRows_50 1 rfl ?_
          refine z_aald (y := a (12 + (ix p0))) C 2 rfl 1 rfl dX0_swapRows_51 (ix p0) i_p0 (by omega) (by decide) (if_pos (by omega)) ?_
          refine z_iload_n C dX0_swapRows_52 3 rfl ?_
          refine z_aload_n C dX0_swapRows_53 0 rfl ?_
          refine z_get (cl := vwCl) (T := TX0) (N := 13) (ci := 0) (ref := "IntervalSolver") C hinX0 rfl 1 (by decide) lk5 rfl dX0_swapRows_54 0 rfl rfl ?_
          refine z_iload_n C dX0_swapRows_57 2 rfl ?_
          refine z_aald (y := a (12 + (ix p1))) C 2 rfl 1 rfl dX0_swapRows_58 (ix p1) i_p1 (by omega) (by decide) (if_pos (by omega)) ?_
          refine z_iload_n C dX0_swapRows_59 3 rfl ?_
          refine z_iald C 0 rfl (12 + (ix p1)) (w0_atM (by omega)) dX0_swapRows_60 j rfl (by omega) (by decide) ?_
          refine z_iast (ws' := w0 K a (N, up2 (swpM M (ix p0) (ix p1) j) (ix p0) j ((swpM M (ix p0) (ix p1) j) (ix p1) j), swpM S (ix p0) (ix p1) j, rl, rh, bl, bh, kl, kh, mn, vc, iv, sc)) C 0 rfl (12 + (ix p0)) (w0_atM (by omega)) dX0_swapRows_61 j rfl (by omega) (by decide) (w0_setM j ((swpM M (ix p0) (ix p1) j) (ix p1) j) (by omega)) ?_
          refine z_aload_n C dX0_swapRows_62 0 rfl ?_
          refine z_get (cl := vwCl) (T := TX0) (N := 13) (ci := 0) (ref := "IntervalSolver") C hinX0 rfl 1 (by decide) lk5 rfl dX0_swapRows_63 0 rfl rfl ?_
          refine z_iload_n C dX0_swapRows_66 2 rfl ?_
          refine z_aald (y := a (12 + (ix p1))) C 2 rfl 1 rfl dX0_swapRows_67 (ix p1) i_p1 (by omega) (by decide) (if_pos (by omega)) ?_
          refine z_iload_n C dX0_swapRows_68 3 rfl ?_
          refine z_iload C dX0_swapRows_69 4 rfl ?_
          refine z_iast (ws' := w0 K a (N, up2 (up2 (swpM M (ix p0) (ix p1) j) (ix p0) j ((swpM M (ix p0) (ix p1) j) (ix p1) j)) (ix p1) j ((swpM M (ix p0) (ix p1) j) (ix p0) j), swpM S (ix p0) (ix p1) j, rl, rh, bl, bh, kl, kh, mn, vc, iv, sc)) C 0 rfl (12 + (ix p1)) (w0_atM (by omega)) dX0_swapRows_71 j rfl (by omega) (by decide) (w0_setM j ((swpM M (ix p0) (ix p1) j) (ix p0) j) (by omega)) ?_
          refine z_aload_n C dX0_swapRows_72 0 rfl ?_
          refine z_get (cl := vwCl) (T := TX0) (N := 13) (ci := 0) (ref := "IntervalSolver") C hinX0 rfl 2 (by decide) lk6 rfl dX0_swapRows_73 0 rfl rfl ?_
          refine z_iload_n C dX0_swapRows_76 1 rfl ?_
          refine z_aald (y := a (17 + (ix p0))) C 2 rfl 2 rfl dX0_swapRows_77 (ix p0) i_p0 (by omega) (by decide) (if_pos (by omega)) ?_
          refine z_iload_n C dX0_swapRows_78 3 rfl ?_
          refine z_iald C 0 rfl (17 + (ix p0)) (w0_atS (by omega)) dX0_swapRows_79 j rfl (by omega) (by decide) ?_
          refine z_istore (lv' := [(0, .ref (a 0)), (1, .int p0), (2, .int p1), (3, .int (nI j)), (4, .int ((swpM M (ix p0) (ix p1) j) (ix p0) j)), (5, .int ((swpM S (ix p0) (ix p1) j) (ix p0) j))]) C dX0_swapRows_80 (by decide) [1, 2, 3, 4, 5, 0] rfl ?_
          refine z_aload_n C dX0_swapRows_82 0 rfl ?_
          refine z_get (cl := vwCl) (T := TX0) (N := 13) (ci := 0) (ref := "IntervalSolver") C hinX0 rfl 2 (by decide) lk6 rfl dX0_swapRows_83 0 rfl rfl ?_
          refine z_iload_n C dX0_swapRows_86 1 rfl ?_
          refine z_aald (y := a (17 + (ix p0))) C 2 rfl 2 rfl dX0_swapRows_87 (ix p0) i_p0 (by omega) (by decide) (if_pos (by omega)) ?_
          refine z_iload_n C dX0_swapRows_88 3 rfl ?_
          refine z_aload_n C dX0_swapRows_89 0 rfl ?_
          refine z_get (cl := vwCl) (T := TX0) (N := 13) (ci := 0) (ref := "IntervalSolver") C hinX0 rfl 2 (by decide) lk6 rfl dX0_swapRows_90 0 rfl rfl ?_
          refine z_iload_n C dX0_swapRows_93 2 rfl ?_
          refine z_aald (y := a (17 + (ix p1))) C 2 rfl 2 rfl dX0_swapRows_94 (ix p1) i_p1 (by omega) (by decide) (if_pos (by omega)) ?_
          refine z_iload_n C dX0_swapRows_95 3 rfl ?_
          refine z_iald C 0 rfl (17 + (ix p1)) (w0_atS (by omega)) dX0_swapRows_96 j rfl (by omega) (by decide) ?_
          refine z_iast (ws' := w0 K a (N, up2 (up2 (swpM M (ix p0) (ix p1) j) (ix p0) j ((swpM M (ix p0) (ix p1) j) (ix p1) j)) (ix p1) j ((swpM M (ix p0) (ix p1) j) (ix p0) j), up2 (swpM S (ix p0) (ix p1) j) (ix p0) j ((swpM S (ix p0) (ix p1) j) (ix p1) j), rl, rh, bl, bh, kl, kh, mn, vc, iv, sc)) C 0 rfl (17 + (ix p0)) (w0_atS (by omega)) dX0_swapRows_97 j rfl (by omega) (by decide) (w0_setS j ((swpM S (ix p0) (ix p1) j) (ix p1) j) (by omega)) ?_
          refine z_aload_n C dX0_swapRows_98 0 rfl ?_
          refine z_get (cl := vwCl) (T := TX0) (N := 13) (ci := 0) (ref := "IntervalSolver") C hinX0 rfl 2 (by decide) lk6 rfl dX0_swapRows_99 0 rfl rfl ?_
          refine z_iload_n C dX0_swapRows_102 2 rfl ?_
          refine z_aald (y := a (17 + (ix p1))) C 2 rfl 2 rfl dX0_swapRows_103 (ix p1) i_p1 (by omega) (by decide) (if_pos (by omega)) ?_
          refine z_iload_n C dX0_swapRows_104 3 rfl ?_
          refine z_iload C dX0_swapRows_105 5 rfl ?_
          refine z_iast (ws' := w0 K a (N, up2 (up2 (swpM M (ix p0) (ix p1) j) (ix p0) j ((swpM M (ix p0) (ix p1) j) (ix p1) j)) (ix p1) j ((swpM M (ix p0) (ix p1) j) (ix p0) j), up2 (up2 (swpM S (ix p0) (ix p1) j) (ix p0) j ((swpM S (ix p0) (ix p1) j) (ix p1) j)) (ix p1) j ((swpM S (ix p0) (ix p1) j) (ix p0) j), rl, rh, bl, bh, kl, kh, mn, vc, iv, sc)) C 0 rfl (17 + (ix p1)) (w0_atS (by omega)) dX0_swapRows_107 j rfl (by omega) (by decide) (w0_setS j ((swpM S (ix p0) (ix p1) j) (ix p0) j) (by omega)) ?_
          refine z_iinc (v := nI (j + 1)) (lv' := [(0, .ref (a 0)), (1, .int p0), (2, .int p1), (3, .int (nI (j + 1))), (4, .int ((swpM M (ix p0) (ix p1) j) (ix p0) j)), (5, .int ((swpM S (ix p0) (ix p1) j) (ix p0) j))]) C dX0_swapRows_108 (k := 3) rfl (nI_1 j) (by decide) [1, 2, 3, 0, 4, 5] rfl ?_
          refine z_goto (tgt := 28) C dX0_swapRows_111 (by decide) ?_
          refine z_lv (lv' := [(0, .ref (a 0)), (1, .int p0), (2, .int p1), (3, .int (nI (j + 1)))]) [0, 1, 2, 3] rfl ?_
          exact ih28_j (j + 1) (by omega) (by omega) (by omega)
    · have q13 : ¬ (ixP N p1) := zi0.mp c13
      exact hthr _ _ _ _ 67 78 71 "java/lang/IndexOutOfBoundsException" "no such row" (N, M, S, rl, rh, bl, bh, kl, kh, mn, vc, iv, sc) lk0 lk1 (by decide +kernel) (fun w hw => List.mem_cons_of_mem _ (List.mem_append_right _ hw)) (by decide +kernel) dX0_swapRows_16 dX0_swapRows_19 dX0_swapRows_20 dX0_swapRows_22 dX0_swapRows_25 ⟨Nat.le_of_ble_eq_true rfl, Nat.le_of_ble_eq_true rfl, Nat.le_of_ble_eq_true rfl, Nat.le_of_ble_eq_true rfl⟩ (Nat.le_of_ble_eq_true rfl) (Nat.le_of_ble_eq_true rfl) ⟨⟨if_neg (by rintro ⟨h1, h2⟩; first | exact q5 h1 | exact q13 h2), rfl⟩, rfl⟩


