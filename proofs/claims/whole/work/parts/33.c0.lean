set_option maxRecDepth 100000 in
set_option maxHeartbeats 4000000 in
theorem c0_rightLow (l : Launch) (D : va_G) (K : Nat → ClassId) (a : Nat → Nat) (N : Nat) (M : Nat → Nat → Int32) (S : Nat → Nat → Int32) (rl : Nat → Int32) (rh : Nat → Int32) (bl : Nat → Int32) (bh : Nat → Int32) (kl : Nat → Int32) (kh : Nat → Int32) (mn : Nat → Int64) (vc : Nat → Int64) (iv : Nat → Nat → Int64) (sc : Int64) (p0 : Int32) (hst : l.stackTraces = false) (hN : N ≤ 5) : xI l D K yX0_rightLow wsX0_rightLow 6 82 1 6 [.ref (a 0), .int p0] (w0 K a (N, M, S, rl, rh, bl, bh, kl, kh, mn, vc, iv, sc)) (fun r u => kIx N p0 = 0 ∧ r = rl (ix p0) ∧ u = (N, M, S, rl, rh, bl, bh, kl, kh, mn, vc, iv, sc)) (fun E u => ((kIx N p0 = 1 ∧ E = "java/lang/IndexOutOfBoundsException")) ∧ u = (N, M, S, rl, rh, bl, bh, kl, kh, mn, vc, iv, sc)) (w0 K a) := by
  have hinX0 : ∀ w ∈ wsX00, w ∈ wsX0_rightLow := by decide +kernel
  have lk0 : Cond.fieldLink RX0 17 "IntervalSolver" "rightLows" "[I" ∈ wsX0_rightLow := by decide +kernel
  have lk1 : Cond.classLink RX0 67 "java/lang/IndexOutOfBoundsException" ∈ wsX0_rightLow := by decide +kernel
  have lk2 : Cond.initialized "java/lang/IndexOutOfBoundsException" ∈ wsX0_rightLow := by decide +kernel
  refine x_met_i (cc := cX0_rightLow) (maxL := 2) (lv := [(0, .ref (a 0)), (1, .int p0)]) hst (by decide +kernel) rfl rfl (Nat.le_of_ble_eq_true rfl) rfl ?_
  intro p e s m below meth c args Q A C hend hthr
  refine z_aload_n C dX0_rightLow_0 0 rfl ?_
  refine z_iload_n C dX0_rightLow_1 1 rfl ?_
  refine z_callVi_all (As := [.int p0]) C (c0_isIndex l D K a N M S rl rh bl bh kl kh mn vc iv sc p0) (cwV 1 C.1.2.2.2.2 gX0_rightLow_X0_isIndex rfl rfl rfl (by decide +kernel) ⟨Nat.le_of_ble_eq_true rfl, Nat.le_of_ble_eq_true rfl⟩) (ci := 2) rfl rfl 0 rfl dX0_rightLow_2 rfl rfl (Nat.le_of_ble_eq_true rfl) ⟨Nat.le_of_ble_eq_true rfl, Nat.le_of_ble_eq_true rfl⟩ (fun r1 u1 h1 => ?_)
  obtain ⟨rfl, rfl⟩ := h1
  refine z_if_ne (tgt := 18) C dX0_rightLow_5 (by decide) (fun c5 => ?_) (fun c5 => ?_)
  · have q5 : ixP N p0 := zi1.mp c5
    obtain ⟨i_p0, l_p0⟩ := ixP_at hN q5
    refine z_aload_n C dX0_rightLow_18 0 rfl ?_
    refine z_get (cl := vwCl) (T := TX0) (N := 13) (ci := 2) (ref := "IntervalSolver") C hinX0 rfl 3 (by decide) lk0 rfl dX0_rightLow_19 0 rfl rfl ?_
    refine z_iload_n C dX0_rightLow_22 1 rfl ?_
    refine z_iald C 0 rfl 3 rfl dX0_rightLow_23 (ix p0) i_p0 (by omega) (by decide) ?_
    exact hend _ _ _ _ _ (N, M, S, rl, rh, bl, bh, kl, kh, mn, vc, iv, sc) dX0_rightLow_24 (by omega) (by omega) ⟨if_pos q5, rfl, rfl⟩
  · have q5 : ¬ (ixP N p0) := zi0.mp c5
    exact hthr _ _ _ _ 67 78 71 "java/lang/IndexOutOfBoundsException" "no such row" (N, M, S, rl, rh, bl, bh, kl, kh, mn, vc, iv, sc) lk1 lk2 (by decide +kernel) (fun w hw => List.mem_cons_of_mem _ (List.mem_append_left _ (List.mem_append_right _ hw))) (by decide +kernel) dX0_rightLow_8 dX0_rightLow_11 dX0_rightLow_12 dX0_rightLow_14 dX0_rightLow_17 ⟨Nat.le_of_ble_eq_true rfl, Nat.le_of_ble_eq_true rfl, Nat.le_of_ble_eq_true rfl, Nat.le_of_ble_eq_true rfl⟩ (Nat.le_of_ble_eq_true rfl) (Nat.le_of_ble_eq_true rfl) ⟨⟨if_neg q5, rfl⟩, rfl⟩

set_option maxRecDepth 100000 in
set_option maxHeartbeats 4000000 in
theorem c0_rightHigh (l : Launch) (D : va_G) (K : Nat → ClassId) (a : Nat → Nat) (N : Nat) (M : Nat → Nat → Int32) (S : Nat → Nat → Int32) (rl : Nat → Int32) (rh : Nat → Int32) (bl : Nat → Int32) (bh : Nat → Int32) (kl : Nat → Int32) (kh : Nat → Int32) (mn : Nat → Int64) (vc : Nat → Int64) (iv : Nat → Nat → Int64) (sc : Int64) (p0 : Int32) (hst : l.stackTraces = false) (hN : N ≤ 5) : xI l D K yX0_rightHigh wsX0_rightHigh 6 82 1 6 [.ref (a 0), .int p0] (w0 K a (N, M, S, rl, rh, bl, bh, kl, kh, mn, vc, iv, sc)) (fun r u => kIx N p0 = 0 ∧ r = rh (ix p0) ∧ u = (N, M, S, rl, rh, bl, bh, kl, kh, mn, vc, iv, sc)) (fun E u => ((kIx N p0 = 1 ∧ E = "java/lang/IndexOutOfBoundsException")) ∧ u = (N, M, S, rl, rh, bl, bh, kl, kh, mn, vc, iv, sc)) (w0 K a) := by
  have hinX0 : ∀ w ∈ wsX00, w ∈ wsX0_rightHigh := by decide +kernel
  have lk0 : Cond.fieldLink RX0 21 "IntervalSolver" "rightHighs" "[I" ∈ wsX0_rightHigh := by decide +kernel
  have lk1 : Cond.classLink RX0 67 "java/lang/IndexOutOfBoundsException" ∈ wsX0_rightHigh := by decide +kernel
  have lk2 : Cond.initialized "java/lang/IndexOutOfBoundsException" ∈ wsX0_rightHigh := by decide +kernel
  refine x_met_i (cc := cX0_rightHigh) (maxL := 2) (lv := [(0, .ref (a 0)), (1, .int p0)]) hst (by decide +kernel) rfl rfl (Nat.le_of_ble_eq_true rfl) rfl ?_
  intro p e s m below meth c args Q A C hend hthr
  refine z_aload_n C dX0_rightHigh_0 0 rfl ?_
  refine z_iload_n C dX0_rightHigh_1 1 rfl ?_
  refine z_callVi_all (As := [.int p0]) C (c0_isIndex l D K a N M S rl rh bl bh kl kh mn vc iv sc p0) (cwV 1 C.1.2.2.2.2 gX0_rightHigh_X0_isIndex rfl rfl rfl (by decide +kernel) ⟨Nat.le_of_ble_eq_true rfl, Nat.le_of_ble_eq_true rfl⟩) (ci := 2) rfl rfl 0 rfl dX0_rightHigh_2 rfl rfl (Nat.le_of_ble_eq_true rfl) ⟨Nat.le_of_ble_eq_true rfl, Nat.le_of_ble_eq_true rfl⟩ (fun r1 u1 h1 => ?_)
  obtain ⟨rfl, rfl⟩ := h1
  refine z_if_ne (tgt := 18) C dX0_rightHigh_5 (by decide) (fun c5 => ?_) (fun c5 => ?_)
  · have q5 : ixP N p0 := zi1.mp c5
    obtain ⟨i_p0, l_p0⟩ := ixP_at hN q5
    refine z_aload_n C dX0_rightHigh_18 0 rfl ?_
    refine z_get (cl := vwCl) (T := TX0) (N := 13) (ci := 2) (ref := "IntervalSolver") C hinX0 rfl 4 (by decide) lk0 rfl dX0_rightHigh_19 0 rfl rfl ?_
    refine z_iload_n C dX0_rightHigh_22 1 rfl ?_
    refine z_iald C 0 rfl 4 rfl dX0_rightHigh_23 (ix p0) i_p0 (by omega) (by decide) ?_
    exact hend _ _ _ _ _ (N, M, S, rl, rh, bl, bh, kl, kh, mn, vc, iv, sc) dX0_rightHigh_24 (by omega) (by omega) ⟨if_pos q5, rfl, rfl⟩
  · have q5 : ¬ (ixP N p0) := zi0.mp c5
    exact hthr _ _ _ _ 67 78 71 "java/lang/IndexOutOfBoundsException" "no such row" (N, M, S, rl, rh, bl, bh, kl, kh, mn, vc, iv, sc) lk1 lk2 (by decide +kernel) (fun w hw => List.mem_cons_of_mem _ (List.mem_append_left _ (List.mem_append_right _ hw))) (by decide +kernel) dX0_rightHigh_8 dX0_rightHigh_11 dX0_rightHigh_12 dX0_rightHigh_14 dX0_rightHigh_17 ⟨Nat.le_of_ble_eq_true rfl, Nat.le_of_ble_eq_true rfl, Nat.le_of_ble_eq_true rfl, Nat.le_of_ble_eq_true rfl⟩ (Nat.le_of_ble_eq_true rfl) (Nat.le_of_ble_eq_true rfl) ⟨⟨if_neg q5, rfl⟩, rfl⟩

set_option maxRecDepth 100000 in
set_option maxHeartbeats 4000000 in
theorem c0_boxLow (l : Launch) (D : va_G) (K : Nat → ClassId) (a : Nat → Nat) (N : Nat) (M : Nat → Nat → Int32) (S : Nat → Nat → Int32) (rl : Nat → Int32) (rh : Nat → Int32) (bl : Nat → Int32) (bh : Nat → Int32) (kl : Nat → Int32) (kh : Nat → Int32) (mn : Nat → Int64) (vc : Nat → Int64) (iv : Nat → Nat → Int64) (sc : Int64) (p0 : Int32) (hst : l.stackTraces = false) (hN : N ≤ 5) : xI l D K yX0_boxLow wsX0_boxLow 6 82 1 6 [.ref (a 0), .int p0] (w0 K a (N, M, S, rl, rh, bl, bh, kl, kh, mn, vc, iv, sc)) (fun r u => kIx N p0 = 0 ∧ r = bl (ix p0) ∧ u = (N, M, S, rl, rh, bl, bh, kl, kh, mn, vc, iv, sc)) (fun E u => ((kIx N p0 = 1 ∧ E = "java/lang/IndexOutOfBoundsException")) ∧ u = (N, M, S, rl, rh, bl, bh, kl, kh, mn, vc, iv, sc)) (w0 K a) := by
  have hinX0 : ∀ w ∈ wsX00, w ∈ wsX0_boxLow := by decide +kernel
  have lk0 : Cond.fieldLink RX0 24 "IntervalSolver" "boxLows" "[I" ∈ wsX0_boxLow := by decide +kernel
  have lk1 : Cond.classLink RX0 67 "java/lang/IndexOutOfBoundsException" ∈ wsX0_boxLow := by decide +kernel
  have lk2 : Cond.initialized "java/lang/IndexOutOfBoundsException" ∈ wsX0_boxLow := by decide +kernel
  refine x_met_i (cc := cX0_boxLow) (maxL := 2) (lv := [(0, .ref (a 0)), (1, .int p0)]) hst (by decide +kernel) rfl rfl (Nat.le_of_ble_eq_true rfl) rfl ?_
  intro p e s m below meth c args Q A C hend hthr
  refine z_aload_n C dX0_boxLow_0 0 rfl ?_
  refine z_iload_n C dX0_boxLow_1 1 rfl ?_
  refine z_callVi_all (As := [.int p0]) C (c0_isIndex l D K a N M S rl rh bl bh kl kh mn vc iv sc p0) (cwV 1 C.1.2.2.2.2 gX0_boxLow_X0_isIndex rfl rfl rfl (by decide +kernel) ⟨Nat.le_of_ble_eq_true rfl, Nat.le_of_ble_eq_true rfl⟩) (ci := 2) rfl rfl 0 rfl dX0_boxLow_2 rfl rfl (Nat.le_of_ble_eq_true rfl) ⟨Nat.le_of_ble_eq_true rfl, Nat.le_of_ble_eq_true rfl⟩ (fun r1 u1 h1 => ?_)
  obtain ⟨rfl, rfl⟩ := h1
  refine z_if_ne (tgt := 18) C dX0_boxLow_5 (by decide) (fun c5 => ?_) (fun c5 => ?_)
  · have q5 : ixP N p0 := zi1.mp c5
    obtain ⟨i_p0, l_p0⟩ := ixP_at hN q5
    refine z_aload_n C dX0_boxLow_18 0 rfl ?_
    refine z_get (cl := vwCl) (T := TX0) (N := 13) (ci := 2) (ref := "IntervalSolver") C hinX0 rfl 5 (by decide) lk0 rfl dX0_boxLow_19 0 rfl rfl ?_
    refine z_iload_n C dX0_boxLow_22 1 rfl ?_
    refine z_iald C 0 rfl 5 rfl dX0_boxLow_23 (ix p0) i_p0 (by omega) (by decide) ?_
    exact hend _ _ _ _ _ (N, M, S, rl, rh, bl, bh, kl, kh, mn, vc, iv, sc) dX0_boxLow_24 (by omega) (by omega) ⟨if_pos q5, rfl, rfl⟩
  · have q5 : ¬ (ixP N p0) := zi0.mp c5
    exact hthr _ _ _ _ 67 119 71 "java/lang/IndexOutOfBoundsException" "no such component" (N, M, S, rl, rh, bl, bh, kl, kh, mn, vc, iv, sc) lk1 lk2 (by decide +kernel) (fun w hw => List.mem_cons_of_mem _ (List.mem_append_left _ (List.mem_append_right _ hw))) (by decide +kernel) dX0_boxLow_8 dX0_boxLow_11 dX0_boxLow_12 dX0_boxLow_14 dX0_boxLow_17 ⟨Nat.le_of_ble_eq_true rfl, Nat.le_of_ble_eq_true rfl, Nat.le_of_ble_eq_true rfl, Nat.le_of_ble_eq_true rfl⟩ (Nat.le_of_ble_eq_true rfl) (Nat.le_of_ble_eq_true rfl) ⟨⟨if_neg q5, rfl⟩, rfl⟩

set_option maxRecDepth 100000 in
set_option maxHeartbeats 4000000 in
theorem c0_boxHigh (l : Launch) (D : va_G) (K : Nat → ClassId) (a : Nat → Nat) (N : Nat) (M : Nat → Nat → Int32) (S : Nat → Nat → Int32) (rl : Nat → Int32) (rh : Nat → Int32) (bl : Nat → Int32) (bh : Nat → Int32) (kl : Nat → Int32) (kh : Nat → Int32) (mn : Nat → Int64) (vc : Nat → Int64) (iv : Nat → Nat → Int64) (sc : Int64) (p0 : Int32) (hst : l.stackTraces = false) (hN : N ≤ 5) : xI l D K yX0_boxHigh wsX0_boxHigh 6 82 1 6 [.ref (a 0), .int p0] (w0 K a (N, M, S, rl, rh, bl, bh, kl, kh, mn, vc, iv, sc)) (fun r u => kIx N p0 = 0 ∧ r = bh (ix p0) ∧ u = (N, M, S, rl, rh, bl, bh, kl, kh, mn, vc, iv, sc)) (fun E u => ((kIx N p0 = 1 ∧ E = "java/lang/IndexOutOfBoundsException")) ∧ u = (N, M, S, rl, rh, bl, bh, kl, kh, mn, vc, iv, sc)) (w0 K a) := by
  have hinX0 : ∀ w ∈ wsX00, w ∈ wsX0_boxHigh := by decide +kernel
  have lk0 : Cond.fieldLink RX0 27 "IntervalSolver" "boxHighs" "[I" ∈ wsX0_boxHigh := by decide +kernel
  have lk1 : Cond.classLink RX0 67 "java/lang/IndexOutOfBoundsException" ∈ wsX0_boxHigh := by decide +kernel
  have lk2 : Cond.initialized "java/lang/IndexOutOfBoundsException" ∈ wsX0_boxHigh := by decide +kernel
  refine x_met_i (cc := cX0_boxHigh) (maxL := 2) (lv := [(0, .ref (a 0)), (1, .int p0)]) hst (by decide +kernel) rfl rfl (Nat.le_of_ble_eq_true rfl) rfl ?_
  intro p e s m below meth c args Q A C hend hthr
  refine z_aload_n C dX0_boxHigh_0 0 rfl ?_
  refine z_iload_n C dX0_boxHigh_1 1 rfl ?_
  refine z_callVi_all (As := [.int p0]) C (c0_isIndex l D K a N M S rl rh bl bh kl kh mn vc iv sc p0) (cwV 1 C.1.2.2.2.2 gX0_boxHigh_X0_isIndex rfl rfl rfl (by decide +kernel) ⟨Nat.le_of_ble_eq_true rfl, Nat.le_of_ble_eq_true rfl⟩) (ci := 2) rfl rfl 0 rfl dX0_boxHigh_2 rfl rfl (Nat.le_of_ble_eq_true rfl) ⟨Nat.le_of_ble_eq_true rfl, Nat.le_of_ble_eq_true rfl⟩ (fun r1 u1 h1 => ?_)
  obtain ⟨rfl, rfl⟩ := h1
  refine z_if_ne (tgt := 18) C dX0_boxHigh_5 (by decide) (fun c5 => ?_) (fun c5 => ?_)
  · have q5 : ixP N p0 := zi1.mp c5
    obtain ⟨i_p0, l_p0⟩ := ixP_at hN q5
    refine z_aload_n C dX0_boxHigh_18 0 rfl ?_
    refine z_get (cl := vwCl) (T := TX0) (N := 13) (ci := 2) (ref := "IntervalSolver") C hinX0 rfl 6 (by decide) lk0 rfl dX0_boxHigh_19 0 rfl rfl ?_
    refine z_iload_n C dX0_boxHigh_22 1 rfl ?_
    refine z_iald C 0 rfl 6 rfl dX0_boxHigh_23 (ix p0) i_p0 (by omega) (by decide) ?_
    exact hend _ _ _ _ _ (N, M, S, rl, rh, bl, bh, kl, kh, mn, vc, iv, sc) dX0_boxHigh_24 (by omega) (by omega) ⟨if_pos q5, rfl, rfl⟩
  · have q5 : ¬ (ixP N p0) := zi0.mp c5
    exact hthr _ _ _ _ 67 119 71 "java/lang/IndexOutOfBoundsException" "no such component" (N, M, S, rl, rh, bl, bh, kl, kh, mn, vc, iv, sc) lk1 lk2 (by decide +kernel) (fun w hw => List.mem_cons_of_mem _ (List.mem_append_left _ (List.mem_append_right _ hw))) (by decide +kernel) dX0_boxHigh_8 dX0_boxHigh_11 dX0_boxHigh_12 dX0_boxHigh_14 dX0_boxHigh_17 ⟨Nat.le_of_ble_eq_true rfl, Nat.le_of_ble_eq_true rfl, Nat.le_of_ble_eq_true rfl, Nat.le_of_ble_eq_true rfl⟩ (Nat.le_of_ble_eq_true rfl) (Nat.le_of_ble_eq_true rfl) ⟨⟨if_neg q5, rfl⟩, rfl⟩
