set_option maxRecDepth 100000 in
set_option maxHeartbeats 4000000 in
theorem c1_setSize (l : Launch) (D : va_G) (K : Nat → ClassId) (b : Nat → Nat) (N : Nat) (M : Nat → Nat → Int32) (S : Nat → Nat → Int32) (rl : Nat → Int32) (rh : Nat → Int32) (bl : Nat → Int32) (bh : Nat → Int32) (th : Int32) (fl : Nat → Int32) (fh : Nat → Int32) (pt : Nat → Int64) (nu : Int64) (de : Int64) (p0 : Int32) : mI l D K yX1_setSize wsX1_setSize 2 43 0 0 [.ref (b 0), .int p0] (w1 K b (N, M, S, rl, rh, bl, bh, th, fl, fh, pt, nu, de)) (fun r u => r = onlyIf (kSize p0) p0 0 ∧ u = (onlyIf (kSize p0) (ix p0) N, onlyIf (kSize p0) (matz M 5) M, onlyIf (kSize p0) (matz S 5) S, onlyIf (kSize p0) (vecz rl 0 5) rl, onlyIf (kSize p0) (vecz rh 0 5) rh, onlyIf (kSize p0) (vecz bl (-1000000000) 5) bl, onlyIf (kSize p0) (vecz bh 1000000000 5) bh, kSize p0, fl, fh, pt, nu, de)) (w1 K b) := by
  have hinX1 : ∀ w ∈ wsX10, w ∈ wsX1_setSize := by decide +kernel
  have lk0 : Cond.fieldLink RX1 45 "IntervalSolverModel" "thrown" "I" ∈ wsX1_setSize := by decide +kernel
  have lk1 : Cond.fieldLink RX1 7 "IntervalSolverModel" "n" "I" ∈ wsX1_setSize := by decide +kernel
  refine z_met_i (cc := cX1_setSize) (maxL := 2) (own := RX1) (lv := [(0, .ref (b 0)), (1, .int p0)]) (by decide) rfl rfl (Nat.le_of_ble_eq_true rfl) rfl ?_
  intro p e s m below meth c args Q A C hnm hend
  refine z_aload_n C dX1_setSize_0 0 rfl ?_
  refine z_iconst (v := 0) C dX1_setSize_1 (by decide) ?_
  refine z_put (cl := vwCl) (T := TX1) (N := 13) (ci := 3) (ref := "IntervalSolverModel") (ws' := w1 K b (N, M, S, rl, rh, bl, bh, 0, fl, fh, pt, nu, de)) C hinX1 tyX1 tyX1_ok nmX1 rfl 0 (by decide) lk0 rfl rfl rfl rfl dX1_setSize_2 0 rfl (Nat.le_of_ble_eq_true rfl) rfl ?_
  refine z_iload_n C dX1_setSize_5 1 rfl ?_
  refine z_iconst (v := 1) C dX1_setSize_6 (by decide) ?_
  refine z_icmp_lt (tgt := 15) C dX1_setSize_7 (by decide) (fun c7 => ?_) (fun c7 => ?_)
  · refine z_aload_n C dX1_setSize_15 0 rfl ?_
    refine z_iconst (v := 1) C dX1_setSize_16 (by decide) ?_
    refine z_callVi_all (As := [.int 1]) C (c1_fail l D K b N M S rl rh bl bh 0 fl fh pt nu de 1) (cwV 1 C.1.2.2.2.2 gX1_setSize_X1_fail rfl rfl rfl (by decide +kernel) ⟨Nat.le_of_ble_eq_true rfl, Nat.le_of_ble_eq_true rfl⟩) (ci := 3) rfl rfl 0 rfl dX1_setSize_17 rfl rfl (Nat.le_of_ble_eq_true rfl) ⟨Nat.le_of_ble_eq_true rfl, Nat.le_of_ble_eq_true rfl⟩ (fun r1 u1 h1 => ?_)
    obtain ⟨rfl, rfl⟩ := h1
    exact hend _ _ _ _ _ (N, M, S, rl, rh, bl, bh, 1, fl, fh, pt, nu, de) dX1_setSize_20 (Nat.zero_le _) (Nat.zero_le _) (by have hk : kSize p0 = 1 := if_neg (by rintro ⟨h1, h2⟩; first | exact absurd h1 (Int32.not_le.mpr c7) | exact c12 h2); rw [hk]; exact ⟨rfl, rfl⟩)
  · refine z_iload_n C dX1_setSize_10 1 rfl ?_
    refine z_iconst (v := 5) C dX1_setSize_11 (by decide) ?_
    refine z_icmp_le (tgt := 21) C dX1_setSize_12 (by decide) (fun c12 => ?_) (fun c12 => ?_)
    · obtain ⟨e_p0, l_p0⟩ := kSize_at (Int32.not_lt.mp c7) c12
      refine z_lv (lv' := [(0, .ref (b 0)), (1, .int p0)]) [0, 1] rfl ?_
      refine z_aload_n C dX1_setSize_21 0 rfl ?_
      refine z_iload_n C dX1_setSize_22 1 rfl ?_
      refine z_topi (nI (ix p0)) e_p0 ?_
      refine z_put (cl := vwCl) (T := TX1) (N := 13) (ci := 3) (ref := "IntervalSolverModel") (ws' := w1 K b ((ix p0), M, S, rl, rh, bl, bh, 0, fl, fh, pt, nu, de)) C hinX1 tyX1 tyX1_ok nmX1 rfl 1 (by decide) lk1 rfl rfl rfl rfl dX1_setSize_23 0 rfl (Nat.le_of_ble_eq_true rfl) rfl ?_
      refine z_aload_n C dX1_setSize_26 0 rfl ?_
      refine z_callVv_all (As := []) C (c1_clear l D K b (ix p0) M S rl rh bl bh 0 fl fh pt nu de) (cwV 0 C.1.2.2.2.2 gX1_setSize_X1_clear rfl rfl rfl (by decide +kernel) ⟨Nat.le_of_ble_eq_true rfl, Nat.le_of_ble_eq_true rfl⟩) (ci := 3) rfl rfl 0 rfl dX1_setSize_27 rfl rfl (Nat.le_of_ble_eq_true rfl) ⟨Nat.le_of_ble_eq_true rfl, Nat.le_of_ble_eq_true rfl⟩ (fun u2 h2 => ?_)
      subst h2
      refine z_aload_n C dX1_setSize_30 0 rfl ?_
      refine z_get (cl := vwCl) (T := TX1) (N := 13) (ci := 3) (ref := "IntervalSolverModel") C hinX1 rfl 1 (by decide) lk1 rfl dX1_setSize_31 0 rfl rfl ?_
      exact hend _ _ _ _ _ ((ix p0), matz M 5, matz S 5, vecz rl 0 5, vecz rh 0 5, vecz bl (-1000000000) 5, vecz bh 1000000000 5, 0, fl, fh, pt, nu, de) dX1_setSize_34 (Nat.zero_le _) (Nat.zero_le _) (by have hk : kSize p0 = 0 := if_pos ⟨Int32.not_lt.mp c7, c12⟩; rw [hk, onlyIf_0 rfl, ← e_p0]; exact ⟨rfl, rfl⟩)
    · refine z_aload_n C dX1_setSize_15 0 rfl ?_
      refine z_iconst (v := 1) C dX1_setSize_16 (by decide) ?_
      refine z_callVi_all (As := [.int 1]) C (c1_fail l D K b N M S rl rh bl bh 0 fl fh pt nu de 1) (cwV 1 C.1.2.2.2.2 gX1_setSize_X1_fail rfl rfl rfl (by decide +kernel) ⟨Nat.le_of_ble_eq_true rfl, Nat.le_of_ble_eq_true rfl⟩) (ci := 3) rfl rfl 0 rfl dX1_setSize_17 rfl rfl (Nat.le_of_ble_eq_true rfl) ⟨Nat.le_of_ble_eq_true rfl, Nat.le_of_ble_eq_true rfl⟩ (fun r3 u3 h3 => ?_)
      obtain ⟨rfl, rfl⟩ := h3
      exact hend _ _ _ _ _ (N, M, S, rl, rh, bl, bh, 1, fl, fh, pt, nu, de) dX1_setSize_20 (Nat.zero_le _) (Nat.zero_le _) (by have hk : kSize p0 = 1 := if_neg (by rintro ⟨h1, h2⟩; first | exact absurd h1 (Int32.not_le.mpr c7) | exact c12 h2); rw [hk]; exact ⟨rfl, rfl⟩)

set_option maxRecDepth 100000 in
set_option maxHeartbeats 4000000 in
theorem c1_size (l : Launch) (D : va_G) (K : Nat → ClassId) (b : Nat → Nat) (N : Nat) (M : Nat → Nat → Int32) (S : Nat → Nat → Int32) (rl : Nat → Int32) (rh : Nat → Int32) (bl : Nat → Int32) (bh : Nat → Int32) (th : Int32) (fl : Nat → Int32) (fh : Nat → Int32) (pt : Nat → Int64) (nu : Int64) (de : Int64) : mI l D K yX1_size wsX1_size 0 0 0 0 [.ref (b 0)] (w1 K b (N, M, S, rl, rh, bl, bh, th, fl, fh, pt, nu, de)) (fun r u => r = nI N ∧ u = (N, M, S, rl, rh, bl, bh, 0, fl, fh, pt, nu, de)) (w1 K b) := by
  have hinX1 : ∀ w ∈ wsX10, w ∈ wsX1_size := by decide +kernel
  have lk0 : Cond.fieldLink RX1 45 "IntervalSolverModel" "thrown" "I" ∈ wsX1_size := by decide +kernel
  have lk1 : Cond.fieldLink RX1 7 "IntervalSolverModel" "n" "I" ∈ wsX1_size := by decide +kernel
  refine z_met_i (cc := cX1_size) (maxL := 1) (own := RX1) (lv := [(0, .ref (b 0))]) (by decide) rfl rfl (Nat.le_of_ble_eq_true rfl) rfl ?_
  intro p e s m below meth c args Q A C hnm hend
  refine z_aload_n C dX1_size_0 0 rfl ?_
  refine z_iconst (v := 0) C dX1_size_1 (by decide) ?_
  refine z_put (cl := vwCl) (T := TX1) (N := 13) (ci := 3) (ref := "IntervalSolverModel") (ws' := w1 K b (N, M, S, rl, rh, bl, bh, 0, fl, fh, pt, nu, de)) C hinX1 tyX1 tyX1_ok nmX1 rfl 0 (by decide) lk0 rfl rfl rfl rfl dX1_size_2 0 rfl (Nat.le_of_ble_eq_true rfl) rfl ?_
  refine z_aload_n C dX1_size_5 0 rfl ?_
  refine z_get (cl := vwCl) (T := TX1) (N := 13) (ci := 3) (ref := "IntervalSolverModel") C hinX1 rfl 1 (by decide) lk1 rfl dX1_size_6 0 rfl rfl ?_
  exact hend _ _ _ _ _ (N, M, S, rl, rh, bl, bh, 0, fl, fh, pt, nu, de) dX1_size_9 (Nat.zero_le _) (Nat.zero_le _) ⟨rfl, rfl⟩

set_option maxRecDepth 100000 in
set_option maxHeartbeats 4000000 in
theorem c1_rightLow (l : Launch) (D : va_G) (K : Nat → ClassId) (b : Nat → Nat) (N : Nat) (M : Nat → Nat → Int32) (S : Nat → Nat → Int32) (rl : Nat → Int32) (rh : Nat → Int32) (bl : Nat → Int32) (bh : Nat → Int32) (th : Int32) (fl : Nat → Int32) (fh : Nat → Int32) (pt : Nat → Int64) (nu : Int64) (de : Int64) (p0 : Int32) (hN : N ≤ 5) : mI l D K yX1_rightLow wsX1_rightLow 1 21 0 0 [.ref (b 0), .int p0] (w1 K b (N, M, S, rl, rh, bl, bh, th, fl, fh, pt, nu, de)) (fun r u => r = onlyIf (kIx N p0) (rl (ix p0)) 0 ∧ u = (N, M, S, rl, rh, bl, bh, (kIx N p0), fl, fh, pt, nu, de)) (w1 K b) := by
  have hinX1 : ∀ w ∈ wsX10, w ∈ wsX1_rightLow := by decide +kernel
  have lk0 : Cond.fieldLink RX1 45 "IntervalSolverModel" "thrown" "I" ∈ wsX1_rightLow := by decide +kernel
  have lk1 : Cond.fieldLink RX1 20 "IntervalSolverModel" "lows" "[I" ∈ wsX1_rightLow := by decide +kernel
  refine z_met_i (cc := cX1_rightLow) (maxL := 2) (own := RX1) (lv := [(0, .ref (b 0)), (1, .int p0)]) (by decide) rfl rfl (Nat.le_of_ble_eq_true rfl) rfl ?_
  intro p e s m below meth c args Q A C hnm hend
  refine z_aload_n C dX1_rightLow_0 0 rfl ?_
  refine z_iconst (v := 0) C dX1_rightLow_1 (by decide) ?_
  refine z_put (cl := vwCl) (T := TX1) (N := 13) (ci := 3) (ref := "IntervalSolverModel") (ws' := w1 K b (N, M, S, rl, rh, bl, bh, 0, fl, fh, pt, nu, de)) C hinX1 tyX1 tyX1_ok nmX1 rfl 0 (by decide) lk0 rfl rfl rfl rfl dX1_rightLow_2 0 rfl (Nat.le_of_ble_eq_true rfl) rfl ?_
  refine z_aload_n C dX1_rightLow_5 0 rfl ?_
  refine z_iload_n C dX1_rightLow_6 1 rfl ?_
  refine z_callVi_all (As := [.int p0]) C (c1_isIndex l D K b N M S rl rh bl bh 0 fl fh pt nu de p0) (cwV 1 C.1.2.2.2.2 gX1_rightLow_X1_isIndex rfl rfl rfl (by decide +kernel) ⟨Nat.le_of_ble_eq_true rfl, Nat.le_of_ble_eq_true rfl⟩) (ci := 3) rfl rfl 0 rfl dX1_rightLow_7 rfl rfl (Nat.le_of_ble_eq_true rfl) ⟨Nat.le_of_ble_eq_true rfl, Nat.le_of_ble_eq_true rfl⟩ (fun r1 u1 h1 => ?_)
  obtain ⟨rfl, rfl⟩ := h1
  refine z_if_eq (tgt := 22) C dX1_rightLow_10 (by decide) (fun c10 => ?_) (fun c10 => ?_)
  · have q10 : ¬ (ixP N p0) := zi0.mp c10
    refine z_aload_n C dX1_rightLow_22 0 rfl ?_
    refine z_iconst (v := 1) C dX1_rightLow_23 (by decide) ?_
    refine z_callVi_all (As := [.int 1]) C (c1_fail l D K b N M S rl rh bl bh 0 fl fh pt nu de 1) (cwV 1 C.1.2.2.2.2 gX1_rightLow_X1_fail rfl rfl rfl (by decide +kernel) ⟨Nat.le_of_ble_eq_true rfl, Nat.le_of_ble_eq_true rfl⟩) (ci := 3) rfl rfl 0 rfl dX1_rightLow_24 rfl rfl (Nat.le_of_ble_eq_true rfl) ⟨Nat.le_of_ble_eq_true rfl, Nat.le_of_ble_eq_true rfl⟩ (fun r2 u2 h2 => ?_)
    obtain ⟨rfl, rfl⟩ := h2
    exact hend _ _ _ _ _ (N, M, S, rl, rh, bl, bh, 1, fl, fh, pt, nu, de) dX1_rightLow_27 (Nat.zero_le _) (Nat.zero_le _) (by have hk : (kIx N p0) = 1 := (if_neg q10); rw [hk]; first | exact ⟨rfl, rfl⟩ | simp [onlyIf])
  · have q10 : ixP N p0 := zi1.mp c10
    obtain ⟨i_p0, l_p0⟩ := ixP_at hN q10
    refine z_aload_n C dX1_rightLow_13 0 rfl ?_
    refine z_get (cl := vwCl) (T := TX1) (N := 13) (ci := 3) (ref := "IntervalSolverModel") C hinX1 rfl 4 (by decide) lk1 rfl dX1_rightLow_14 0 rfl rfl ?_
    refine z_iload_n C dX1_rightLow_17 1 rfl ?_
    refine z_iald C 0 rfl 3 rfl dX1_rightLow_18 (ix p0) i_p0 (by omega) (by decide) ?_
    refine z_goto (tgt := 27) C dX1_rightLow_19 (by decide) ?_
    exact hend _ _ _ _ _ (N, M, S, rl, rh, bl, bh, 0, fl, fh, pt, nu, de) dX1_rightLow_27 (Nat.zero_le _) (Nat.zero_le _) (by have hk : (kIx N p0) = 0 := (if_pos q10); rw [hk]; first | exact ⟨rfl, rfl⟩ | simp [onlyIf])

set_option maxRecDepth 100000 in
set_option maxHeartbeats 4000000 in
theorem c1_rightHigh (l : Launch) (D : va_G) (K : Nat → ClassId) (b : Nat → Nat) (N : Nat) (M : Nat → Nat → Int32) (S : Nat → Nat → Int32) (rl : Nat → Int32) (rh : Nat → Int32) (bl : Nat → Int32) (bh : Nat → Int32) (th : Int32) (fl : Nat → Int32) (fh : Nat → Int32) (pt : Nat → Int64) (nu : Int64) (de : Int64) (p0 : Int32) (hN : N ≤ 5) : mI l D K yX1_rightHigh wsX1_rightHigh 1 21 0 0 [.ref (b 0), .int p0] (w1 K b (N, M, S, rl, rh, bl, bh, th, fl, fh, pt, nu, de)) (fun r u => r = onlyIf (kIx N p0) (rh (ix p0)) 0 ∧ u = (N, M, S, rl, rh, bl, bh, (kIx N p0), fl, fh, pt, nu, de)) (w1 K b) := by
  have hinX1 : ∀ w ∈ wsX10, w ∈ wsX1_rightHigh := by decide +kernel
  have lk0 : Cond.fieldLink RX1 45 "IntervalSolverModel" "thrown" "I" ∈ wsX1_rightHigh := by decide +kernel
  have lk1 : Cond.fieldLink RX1 23 "IntervalSolverModel" "highs" "[I" ∈ wsX1_rightHigh := by decide +kernel
  refine z_met_i (cc := cX1_rightHigh) (maxL := 2) (own := RX1) (lv := [(0, .ref (b 0)), (1, .int p0)]) (by decide) rfl rfl (Nat.le_of_ble_eq_true rfl) rfl ?_
  intro p e s m below meth c args Q A C hnm hend
  refine z_aload_n C dX1_rightHigh_0 0 rfl ?_
  refine z_iconst (v := 0) C dX1_rightHigh_1 (by decide) ?_
  refine z_put (cl := vwCl) (T := TX1) (N := 13) (ci := 3) (ref := "IntervalSolverModel") (ws' := w1 K b (N, M, S, rl, rh, bl, bh, 0, fl, fh, pt, nu, de)) C hinX1 tyX1 tyX1_ok nmX1 rfl 0 (by decide) lk0 rfl rfl rfl rfl dX1_rightHigh_2 0 rfl (Nat.le_of_ble_eq_true rfl) rfl ?_
  refine z_aload_n C dX1_rightHigh_5 0 rfl ?_
  refine z_iload_n C dX1_rightHigh_6 1 rfl ?_
  refine z_callVi_all (As := [.int p0]) C (c1_isIndex l D K b N M S rl rh bl bh 0 fl fh pt nu de p0) (cwV 1 C.1.2.2.2.2 gX1_rightHigh_X1_isIndex rfl rfl rfl (by decide +kernel) ⟨Nat.le_of_ble_eq_true rfl, Nat.le_of_ble_eq_true rfl⟩) (ci := 3) rfl rfl 0 rfl dX1_rightHigh_7 rfl rfl (Nat.le_of_ble_eq_true rfl) ⟨Nat.le_of_ble_eq_true rfl, Nat.le_of_ble_eq_true rfl⟩ (fun r1 u1 h1 => ?_)
  obtain ⟨rfl, rfl⟩ := h1
  refine z_if_eq (tgt := 22) C dX1_rightHigh_10 (by decide) (fun c10 => ?_) (fun c10 => ?_)
  · have q10 : ¬ (ixP N p0) := zi0.mp c10
    refine z_aload_n C dX1_rightHigh_22 0 rfl ?_
    refine z_iconst (v := 1) C dX1_rightHigh_23 (by decide) ?_
    refine z_callVi_all (As := [.int 1]) C (c1_fail l D K b N M S rl rh bl bh 0 fl fh pt nu de 1) (cwV 1 C.1.2.2.2.2 gX1_rightHigh_X1_fail rfl rfl rfl (by decide +kernel) ⟨Nat.le_of_ble_eq_true rfl, Nat.le_of_ble_eq_true rfl⟩) (ci := 3) rfl rfl 0 rfl dX1_rightHigh_24 rfl rfl (Nat.le_of_ble_eq_true rfl) ⟨Nat.le_of_ble_eq_true rfl, Nat.le_of_ble_eq_true rfl⟩ (fun r2 u2 h2 => ?_)
    obtain ⟨rfl, rfl⟩ := h2
    exact hend _ _ _ _ _ (N, M, S, rl, rh, bl, bh, 1, fl, fh, pt, nu, de) dX1_rightHigh_27 (Nat.zero_le _) (Nat.zero_le _) (by have hk : (kIx N p0) = 1 := (if_neg q10); rw [hk]; first | exact ⟨rfl, rfl⟩ | simp [onlyIf])
  · have q10 : ixP N p0 := zi1.mp c10
    obtain ⟨i_p0, l_p0⟩ := ixP_at hN q10
    refine z_aload_n C dX1_rightHigh_13 0 rfl ?_
    refine z_get (cl := vwCl) (T := TX1) (N := 13) (ci := 3) (ref := "IntervalSolverModel") C hinX1 rfl 5 (by decide) lk1 rfl dX1_rightHigh_14 0 rfl rfl ?_
    refine z_iload_n C dX1_rightHigh_17 1 rfl ?_
    refine z_iald C 0 rfl 4 rfl dX1_rightHigh_18 (ix p0) i_p0 (by omega) (by decide) ?_
    refine z_goto (tgt := 27) C dX1_rightHigh_19 (by decide) ?_
    exact hend _ _ _ _ _ (N, M, S, rl, rh, bl, bh, 0, fl, fh, pt, nu, de) dX1_rightHigh_27 (Nat.zero_le _) (Nat.zero_le _) (by have hk : (kIx N p0) = 0 := (if_pos q10); rw [hk]; first | exact ⟨rfl, rfl⟩ | simp [onlyIf])

set_option maxRecDepth 100000 in
set_option maxHeartbeats 4000000 in
theorem c1_boxLow (l : Launch) (D : va_G) (K : Nat → ClassId) (b : Nat → Nat) (N : Nat) (M : Nat → Nat → Int32) (S : Nat → Nat → Int32) (rl : Nat → Int32) (rh : Nat → Int32) (bl : Nat → Int32) (bh : Nat → Int32) (th : Int32) (fl : Nat → Int32) (fh : Nat → Int32) (pt : Nat → Int64) (nu : Int64) (de : Int64) (p0 : Int32) (hN : N ≤ 5) : mI l D K yX1_boxLow wsX1_boxLow 1 21 0 0 [.ref (b 0), .int p0] (w1 K b (N, M, S, rl, rh, bl, bh, th, fl, fh, pt, nu, de)) (fun r u => r = onlyIf (kIx N p0) (bl (ix p0)) 0 ∧ u = (N, M, S, rl, rh, bl, bh, (kIx N p0), fl, fh, pt, nu, de)) (w1 K b) := by
  have hinX1 : ∀ w ∈ wsX10, w ∈ wsX1_boxLow := by decide +kernel
  have lk0 : Cond.fieldLink RX1 45 "IntervalSolverModel" "thrown" "I" ∈ wsX1_boxLow := by decide +kernel
  have lk1 : Cond.fieldLink RX1 26 "IntervalSolverModel" "boxLows" "[I" ∈ wsX1_boxLow := by decide +kernel
  refine z_met_i (cc := cX1_boxLow) (maxL := 2) (own := RX1) (lv := [(0, .ref (b 0)), (1, .int p0)]) (by decide) rfl rfl (Nat.le_of_ble_eq_true rfl) rfl ?_
  intro p e s m below meth c args Q A C hnm hend
  refine z_aload_n C dX1_boxLow_0 0 rfl ?_
  refine z_iconst (v := 0) C dX1_boxLow_1 (by decide) ?_
  refine z_put (cl := vwCl) (T := TX1) (N := 13) (ci := 3) (ref := "IntervalSolverModel") (ws' := w1 K b (N, M, S, rl, rh, bl, bh, 0, fl, fh, pt, nu, de)) C hinX1 tyX1 tyX1_ok nmX1 rfl 0 (by decide) lk0 rfl rfl rfl rfl dX1_boxLow_2 0 rfl (Nat.le_of_ble_eq_true rfl) rfl ?_
  refine z_aload_n C dX1_boxLow_5 0 rfl ?_
  refine z_iload_n C dX1_boxLow_6 1 rfl ?_
  refine z_callVi_all (As := [.int p0]) C (c1_isIndex l D K b N M S rl rh bl bh 0 fl fh pt nu de p0) (cwV 1 C.1.2.2.2.2 gX1_boxLow_X1_isIndex rfl rfl rfl (by decide +kernel) ⟨Nat.le_of_ble_eq_true rfl, Nat.le_of_ble_eq_true rfl⟩) (ci := 3) rfl rfl 0 rfl dX1_boxLow_7 rfl rfl (Nat.le_of_ble_eq_true rfl) ⟨Nat.le_of_ble_eq_true rfl, Nat.le_of_ble_eq_true rfl⟩ (fun r1 u1 h1 => ?_)
  obtain ⟨rfl, rfl⟩ := h1
  refine z_if_eq (tgt := 22) C dX1_boxLow_10 (by decide) (fun c10 => ?_) (fun c10 => ?_)
  · have q10 : ¬ (ixP N p0) := zi0.mp c10
    refine z_aload_n C dX1_boxLow_22 0 rfl ?_
    refine z_iconst (v := 1) C dX1_boxLow_23 (by decide) ?_
    refine z_callVi_all (As := [.int 1]) C (c1_fail l D K b N M S rl rh bl bh 0 fl fh pt nu de 1) (cwV 1 C.1.2.2.2.2 gX1_boxLow_X1_fail rfl rfl rfl (by decide +kernel) ⟨Nat.le_of_ble_eq_true rfl, Nat.le_of_ble_eq_true rfl⟩) (ci := 3) rfl rfl 0 rfl dX1_boxLow_24 rfl rfl (Nat.le_of_ble_eq_true rfl) ⟨Nat.le_of_ble_eq_true rfl, Nat.le_of_ble_eq_true rfl⟩ (fun r2 u2 h2 => ?_)
    obtain ⟨rfl, rfl⟩ := h2
    exact hend _ _ _ _ _ (N, M, S, rl, rh, bl, bh, 1, fl, fh, pt, nu, de) dX1_boxLow_27 (Nat.zero_le _) (Nat.zero_le _) (by have hk : (kIx N p0) = 1 := (if_neg q10); rw [hk]; first | exact ⟨rfl, rfl⟩ | simp [onlyIf])
  · have q10 : ixP N p0 := zi1.mp c10
    obtain ⟨i_p0, l_p0⟩ := ixP_at hN q10
    refine z_aload_n C dX1_boxLow_13 0 rfl ?_
    refine z_get (cl := vwCl) (T := TX1) (N := 13) (ci := 3) (ref := "IntervalSolverModel") C hinX1 rfl 6 (by decide) lk1 rfl dX1_boxLow_14 0 rfl rfl ?_
    refine z_iload_n C dX1_boxLow_17 1 rfl ?_
    refine z_iald C 0 rfl 5 rfl dX1_boxLow_18 (ix p0) i_p0 (by omega) (by decide) ?_
    refine z_goto (tgt := 27) C dX1_boxLow_19 (by decide) ?_
    exact hend _ _ _ _ _ (N, M, S, rl, rh, bl, bh, 0, fl, fh, pt, nu, de) dX1_boxLow_27 (Nat.zero_le _) (Nat.zero_le _) (by have hk : (kIx N p0) = 0 := (if_pos q10); rw [hk]; first | exact ⟨rfl, rfl⟩ | simp [onlyIf])

set_option maxRecDepth 100000 in
set_option maxHeartbeats 4000000 in
theorem c1_boxHigh (l : Launch) (D : va_G) (K : Nat → ClassId) (b : Nat → Nat) (N : Nat) (M : Nat → Nat → Int32) (S : Nat → Nat → Int32) (rl : Nat → Int32) (rh : Nat → Int32) (bl : Nat → Int32) (bh : Nat → Int32) (th : Int32) (fl : Nat → Int32) (fh : Nat → Int32) (pt : Nat → Int64) (nu : Int64) (de : Int64) (p0 : Int32) (hN : N ≤ 5) : mI l D K yX1_boxHigh wsX1_boxHigh 1 21 0 0 [.ref (b 0), .int p0] (w1 K b (N, M, S, rl, rh, bl, bh, th, fl, fh, pt, nu, de)) (fun r u => r = onlyIf (kIx N p0) (bh (ix p0)) 0 ∧ u = (N, M, S, rl, rh, bl, bh, (kIx N p0), fl, fh, pt, nu, de)) (w1 K b) := by
  have hinX1 : ∀ w ∈ wsX10, w ∈ wsX1_boxHigh := by decide +kernel
  have lk0 : Cond.fieldLink RX1 45 "IntervalSolverModel" "thrown" "I" ∈ wsX1_boxHigh := by decide +kernel
  have lk1 : Cond.fieldLink RX1 29 "IntervalSolverModel" "boxHighs" "[I" ∈ wsX1_boxHigh := by decide +kernel
  refine z_met_i (cc := cX1_boxHigh) (maxL := 2) (own := RX1) (lv := [(0, .ref (b 0)), (1, .int p0)]) (by decide) rfl rfl (Nat.le_of_ble_eq_true rfl) rfl ?_
  intro p e s m below meth c args Q A C hnm hend
  refine z_aload_n C dX1_boxHigh_0 0 rfl ?_
  refine z_iconst (v := 0) C dX1_boxHigh_1 (by decide) ?_
  refine z_put (cl := vwCl) (T := TX1) (N := 13) (ci := 3) (ref := "IntervalSolverModel") (ws' := w1 K b (N, M, S, rl, rh, bl, bh, 0, fl, fh, pt, nu, de)) C hinX1 tyX1 tyX1_ok nmX1 rfl 0 (by decide) lk0 rfl rfl rfl rfl dX1_boxHigh_2 0 rfl (Nat.le_of_ble_eq_true rfl) rfl ?_
  refine z_aload_n C dX1_boxHigh_5 0 rfl ?_
  refine z_iload_n C dX1_boxHigh_6 1 rfl ?_
  refine z_callVi_all (As := [.int p0]) C (c1_isIndex l D K b N M S rl rh bl bh 0 fl fh pt nu de p0) (cwV 1 C.1.2.2.2.2 gX1_boxHigh_X1_isIndex rfl rfl rfl (by decide +kernel) ⟨Nat.le_of_ble_eq_true rfl, Nat.le_of_ble_eq_true rfl⟩) (ci := 3) rfl rfl 0 rfl dX1_boxHigh_7 rfl rfl (Nat.le_of_ble_eq_true rfl) ⟨Nat.le_of_ble_eq_true rfl, Nat.le_of_ble_eq_true rfl⟩ (fun r1 u1 h1 => ?_)
  obtain ⟨rfl, rfl⟩ := h1
  refine z_if_eq (tgt := 22) C dX1_boxHigh_10 (by decide) (fun c10 => ?_) (fun c10 => ?_)
  · have q10 : ¬ (ixP N p0) := zi0.mp c10
    refine z_aload_n C dX1_boxHigh_22 0 rfl ?_
    refine z_iconst (v := 1) C dX1_boxHigh_23 (by decide) ?_
    refine z_callVi_all (As := [.int 1]) C (c1_fail l D K b N M S rl rh bl bh 0 fl fh pt nu de 1) (cwV 1 C.1.2.2.2.2 gX1_boxHigh_X1_fail rfl rfl rfl (by decide +kernel) ⟨Nat.le_of_ble_eq_true rfl, Nat.le_of_ble_eq_true rfl⟩) (ci := 3) rfl rfl 0 rfl dX1_boxHigh_24 rfl rfl (Nat.le_of_ble_eq_true rfl) ⟨Nat.le_of_ble_eq_true rfl, Nat.le_of_ble_eq_true rfl⟩ (fun r2 u2 h2 => ?_)
    obtain ⟨rfl, rfl⟩ := h2
    exact hend _ _ _ _ _ (N, M, S, rl, rh, bl, bh, 1, fl, fh, pt, nu, de) dX1_boxHigh_27 (Nat.zero_le _) (Nat.zero_le _) (by have hk : (kIx N p0) = 1 := (if_neg q10); rw [hk]; first | exact ⟨rfl, rfl⟩ | simp [onlyIf])
  · have q10 : ixP N p0 := zi1.mp c10
    obtain ⟨i_p0, l_p0⟩ := ixP_at hN q10
    refine z_aload_n C dX1_boxHigh_13 0 rfl ?_
    refine z_get (cl := vwCl) (T := TX1) (N := 13) (ci := 3) (ref := "IntervalSolverModel") C hinX1 rfl 7 (by decide) lk1 rfl dX1_boxHigh_14 0 rfl rfl ?_
    refine z_iload_n C dX1_boxHigh_17 1 rfl ?_
    refine z_iald C 0 rfl 6 rfl dX1_boxHigh_18 (ix p0) i_p0 (by omega) (by decide) ?_
    refine z_goto (tgt := 27) C dX1_boxHigh_19 (by decide) ?_
    exact hend _ _ _ _ _ (N, M, S, rl, rh, bl, bh, 0, fl, fh, pt, nu, de) dX1_boxHigh_27 (Nat.zero_le _) (Nat.zero_le _) (by have hk : (kIx N p0) = 0 := (if_pos q10); rw [hk]; first | exact ⟨rfl, rfl⟩ | simp [onlyIf])

set_option maxRecDepth 100000 in
set_option maxHeartbeats 4000000 in
theorem c1_coefficient (l : Launch) (D : va_G) (K : Nat → ClassId) (b : Nat → Nat) (N : Nat) (M : Nat → Nat → Int32) (S : Nat → Nat → Int32) (rl : Nat → Int32) (rh : Nat → Int32) (bl : Nat → Int32) (bh : Nat → Int32) (th : Int32) (fl : Nat → Int32) (fh : Nat → Int32) (pt : Nat → Int64) (nu : Int64) (de : Int64) (p0 : Int32) (p1 : Int32) (hN : N ≤ 5) : mI l D K yX1_coefficient wsX1_coefficient 1 21 0 0 [.ref (b 0), .int p0, .int p1] (w1 K b (N, M, S, rl, rh, bl, bh, th, fl, fh, pt, nu, de)) (fun r u => r = onlyIf (kIx2 N p0 p1) (M (ix p0) (ix p1)) 0 ∧ u = (N, M, S, rl, rh, bl, bh, (kIx2 N p0 p1), fl, fh, pt, nu, de)) (w1 K b) := by
  have hinX1 : ∀ w ∈ wsX10, w ∈ wsX1_coefficient := by decide +kernel
  have lk0 : Cond.fieldLink RX1 45 "IntervalSolverModel" "thrown" "I" ∈ wsX1_coefficient := by decide +kernel
  have lk1 : Cond.fieldLink RX1 13 "IntervalSolverModel" "a" "[I" ∈ wsX1_coefficient := by decide +kernel
  refine z_met_i (cc := cX1_coefficient) (maxL := 3) (own := RX1) (lv := [(0, .ref (b 0)), (1, .int p0), (2, .int p1)]) (by decide) rfl rfl (Nat.le_of_ble_eq_true rfl) rfl ?_
  intro p e s m below meth c args Q A C hnm hend
  refine z_aload_n C dX1_coefficient_0 0 rfl ?_
  refine z_iconst (v := 0) C dX1_coefficient_1 (by decide) ?_
  refine z_put (cl := vwCl) (T := TX1) (N := 13) (ci := 3) (ref := "IntervalSolverModel") (ws' := w1 K b (N, M, S, rl, rh, bl, bh, 0, fl, fh, pt, nu, de)) C hinX1 tyX1 tyX1_ok nmX1 rfl 0 (by decide) lk0 rfl rfl rfl rfl dX1_coefficient_2 0 rfl (Nat.le_of_ble_eq_true rfl) rfl ?_
  refine z_aload_n C dX1_coefficient_5 0 rfl ?_
  refine z_iload_n C dX1_coefficient_6 1 rfl ?_
  refine z_callVi_all (As := [.int p0]) C (c1_isIndex l D K b N M S rl rh bl bh 0 fl fh pt nu de p0) (cwV 1 C.1.2.2.2.2 gX1_coefficient_X1_isIndex rfl rfl rfl (by decide +kernel) ⟨Nat.le_of_ble_eq_true rfl, Nat.le_of_ble_eq_true rfl⟩) (ci := 3) rfl rfl 0 rfl dX1_coefficient_7 rfl rfl (Nat.le_of_ble_eq_true rfl) ⟨Nat.le_of_ble_eq_true rfl, Nat.le_of_ble_eq_true rfl⟩ (fun r1 u1 h1 => ?_)
  obtain ⟨rfl, rfl⟩ := h1
  refine z_if_eq (tgt := 34) C dX1_coefficient_10 (by decide) (fun c10 => ?_) (fun c10 => ?_)
  · have q10 : ¬ (ixP N p0) := zi0.mp c10
    refine z_aload_n C dX1_coefficient_34 0 rfl ?_
    refine z_iconst (v := 1) C dX1_coefficient_35 (by decide) ?_
    refine z_callVi_all (As := [.int 1]) C (c1_fail l D K b N M S rl rh bl bh 0 fl fh pt nu de 1) (cwV 1 C.1.2.2.2.2 gX1_coefficient_X1_fail rfl rfl rfl (by decide +kernel) ⟨Nat.le_of_ble_eq_true rfl, Nat.le_of_ble_eq_true rfl⟩) (ci := 3) rfl rfl 0 rfl dX1_coefficient_36 rfl rfl (Nat.le_of_ble_eq_true rfl) ⟨Nat.le_of_ble_eq_true rfl, Nat.le_of_ble_eq_true rfl⟩ (fun r2 u2 h2 => ?_)
    obtain ⟨rfl, rfl⟩ := h2
    exact hend _ _ _ _ _ (N, M, S, rl, rh, bl, bh, 1, fl, fh, pt, nu, de) dX1_coefficient_39 (Nat.zero_le _) (Nat.zero_le _) (by have hk : (kIx2 N p0 p1) = 1 := (if_neg (by rintro ⟨h1, h2⟩; first | exact q10 h1 | exact q18 h2)); rw [hk]; first | exact ⟨rfl, rfl⟩ | simp [onlyIf])
  · have q10 : ixP N p0 := zi1.mp c10
    obtain ⟨i_p0, l_p0⟩ := ixP_at hN q10
    refine z_aload_n C dX1_coefficient_13 0 rfl ?_
    refine z_iload_n C dX1_coefficient_14 2 rfl ?_
    refine z_callVi_all (As := [.int p1]) C (c1_isIndex l D K b N M S rl rh bl bh 0 fl fh pt nu de p1) (cwV 1 C.1.2.2.2.2 gX1_coefficient_X1_isIndex rfl rfl rfl (by decide +kernel) ⟨Nat.le_of_ble_eq_true rfl, Nat.le_of_ble_eq_true rfl⟩) (ci := 3) rfl rfl 0 rfl dX1_coefficient_15 rfl rfl (Nat.le_of_ble_eq_true rfl) ⟨Nat.le_of_ble_eq_true rfl, Nat.le_of_ble_eq_true rfl⟩ (fun r3 u3 h3 => ?_)
    obtain ⟨rfl, rfl⟩ := h3
    refine z_if_eq (tgt := 34) C dX1_coefficient_18 (by decide) (fun c18 => ?_) (fun c18 => ?_)
    · have q18 : ¬ (ixP N p1) := zi0.mp c18
      refine z_aload_n C dX1_coefficient_34 0 rfl ?_
      refine z_iconst (v := 1) C dX1_coefficient_35 (by decide) ?_
      refine z_callVi_all (As := [.int 1]) C (c1_fail l D K b N M S rl rh bl bh 0 fl fh pt nu de 1) (cwV 1 C.1.2.2.2.2 gX1_coefficient_X1_fail rfl rfl rfl (by decide +kernel) ⟨Nat.le_of_ble_eq_true rfl, Nat.le_of_ble_eq_true rfl⟩) (ci := 3) rfl rfl 0 rfl dX1_coefficient_36 rfl rfl (Nat.le_of_ble_eq_true rfl) ⟨Nat.le_of_ble_eq_true rfl, Nat.le_of_ble_eq_true rfl⟩ (fun r4 u4 h4 => ?_)
      obtain ⟨rfl, rfl⟩ := h4
      exact hend _ _ _ _ _ (N, M, S, rl, rh, bl, bh, 1, fl, fh, pt, nu, de) dX1_coefficient_39 (Nat.zero_le _) (Nat.zero_le _) (by have hk : (kIx2 N p0 p1) = 1 := (if_neg (by rintro ⟨h1, h2⟩; first | exact q10 h1 | exact q18 h2)); rw [hk]; first | exact ⟨rfl, rfl⟩ | simp [onlyIf])
    · have q18 : ixP N p1 := zi1.mp c18
      obtain ⟨i_p1, l_p1⟩ := ixP_at hN q18
      refine z_aload_n C dX1_coefficient_21 0 rfl ?_
      refine z_get (cl := vwCl) (T := TX1) (N := 13) (ci := 3) (ref := "IntervalSolverModel") C hinX1 rfl 2 (by decide) lk1 rfl dX1_coefficient_22 0 rfl rfl ?_
      refine z_iload_n C dX1_coefficient_25 1 rfl ?_
      refine z_iload_n C dX1_coefficient_26 2 rfl ?_
      refine z_callSi_none (As := [.int p0, .int p1]) C (c1_at l D K p0 p1) (va_cwS 2 C.1.2.2.2.2 gX1_coefficient_X1_at rfl rfl rfl (by decide +kernel) ⟨Nat.le_of_ble_eq_true rfl, Nat.le_of_ble_eq_true rfl⟩) dX1_coefficient_27 rfl rfl (Nat.le_of_ble_eq_true rfl) ⟨Nat.le_of_ble_eq_true rfl, Nat.le_of_ble_eq_true rfl⟩ (fun r5 u5 h5 => ?_)
      subst h5
      refine z_topi (nI (5 * (ix p0) + (ix p1))) (at_eq i_p0 i_p1) ?_
      refine z_iald C 0 rfl 1 rfl dX1_coefficient_30 (5 * (ix p0) + (ix p1)) rfl (by omega) (by decide) ?_
      refine z_topi (M (ix p0) (ix p1)) (fl5_at M (ix p0) (ix p1) (by omega)) ?_
      refine z_goto (tgt := 39) C dX1_coefficient_31 (by decide) ?_
      exact hend _ _ _ _ _ (N, M, S, rl, rh, bl, bh, 0, fl, fh, pt, nu, de) dX1_coefficient_39 (Nat.zero_le _) (Nat.zero_le _) (by have hk : (kIx2 N p0 p1) = 0 := (if_pos ⟨q10, q18⟩); rw [hk]; first | exact ⟨rfl, rfl⟩ | simp [onlyIf])

set_option maxRecDepth 100000 in
set_option maxHeartbeats 4000000 in
theorem c1_setCoefficient (l : Launch) (D : va_G) (K : Nat → ClassId) (b : Nat → Nat) (N : Nat) (M : Nat → Nat → Int32) (S : Nat → Nat → Int32) (rl : Nat → Int32) (rh : Nat → Int32) (bl : Nat → Int32) (bh : Nat → Int32) (th : Int32) (fl : Nat → Int32) (fh : Nat → Int32) (pt : Nat → Int64) (nu : Int64) (de : Int64) (p0 : Int32) (p1 : Int32) (p2 : Int32) (hN : N ≤ 5) : mI l D K yX1_setCoefficient wsX1_setCoefficient 1 21 0 0 [.ref (b 0), .int p0, .int p1, .int p2] (w1 K b (N, M, S, rl, rh, bl, bh, th, fl, fh, pt, nu, de)) (fun r u => r = onlyIf (kVal N p0 p1 p2 (-99) 99) (M (ix p0) (ix p1)) 0 ∧ u = (N, onlyIf (kVal N p0 p1 p2 (-99) 99) (up2 M (ix p0) (ix p1) p2) M, S, rl, rh, bl, bh, (kVal N p0 p1 p2 (-99) 99), fl, fh, pt, nu, de)) (w1 K b) := by
  have hinX1 : ∀ w ∈ wsX10, w ∈ wsX1_setCoefficient := by decide +kernel
  have lk0 : Cond.fieldLink RX1 45 "IntervalSolverModel" "thrown" "I" ∈ wsX1_setCoefficient := by decide +kernel
  have lk1 : Cond.fieldLink RX1 13 "IntervalSolverModel" "a" "[I" ∈ wsX1_setCoefficient := by decide +kernel
  refine z_met_i (cc := cX1_setCoefficient) (maxL := 5) (own := RX1) (lv := [(0, .ref (b 0)), (1, .int p0), (2, .int p1), (3, .int p2)]) (by decide) rfl rfl (Nat.le_of_ble_eq_true rfl) rfl ?_
  intro p e s m below meth c args Q A C hnm hend
  refine z_aload_n C dX1_setCoefficient_0 0 rfl ?_
  refine z_iconst (v := 0) C dX1_setCoefficient_1 (by decide) ?_
  refine z_put (cl := vwCl) (T := TX1) (N := 13) (ci := 3) (ref := "IntervalSolverModel") (ws' := w1 K b (N, M, S, rl, rh, bl, bh, 0, fl, fh, pt, nu, de)) C hinX1 tyX1 tyX1_ok nmX1 rfl 0 (by decide) lk0 rfl rfl rfl rfl dX1_setCoefficient_2 0 rfl (Nat.le_of_ble_eq_true rfl) rfl ?_
  refine z_aload_n C dX1_setCoefficient_5 0 rfl ?_
  refine z_iload_n C dX1_setCoefficient_6 1 rfl ?_
  refine z_callVi_all (As := [.int p0]) C (c1_isIndex l D K b N M S rl rh bl bh 0 fl fh pt nu de p0) (cwV 1 C.1.2.2.2.2 gX1_setCoefficient_X1_isIndex rfl rfl rfl (by decide +kernel) ⟨Nat.le_of_ble_eq_true rfl, Nat.le_of_ble_eq_true rfl⟩) (ci := 3) rfl rfl 0 rfl dX1_setCoefficient_7 rfl rfl (Nat.le_of_ble_eq_true rfl) ⟨Nat.le_of_ble_eq_true rfl, Nat.le_of_ble_eq_true rfl⟩ (fun r1 u1 h1 => ?_)
  obtain ⟨rfl, rfl⟩ := h1
  refine z_if_eq (tgt := 21) C dX1_setCoefficient_10 (by decide) (fun c10 => ?_) (fun c10 => ?_)
  · have q10 : ¬ (ixP N p0) := zi0.mp c10
    refine z_aload_n C dX1_setCoefficient_21 0 rfl ?_
    refine z_iconst (v := 1) C dX1_setCoefficient_22 (by decide) ?_
    refine z_callVi_all (As := [.int 1]) C (c1_fail l D K b N M S rl rh bl bh 0 fl fh pt nu de 1) (cwV 1 C.1.2.2.2.2 gX1_setCoefficient_X1_fail rfl rfl rfl (by decide +kernel) ⟨Nat.le_of_ble_eq_true rfl, Nat.le_of_ble_eq_true rfl⟩) (ci := 3) rfl rfl 0 rfl dX1_setCoefficient_23 rfl rfl (Nat.le_of_ble_eq_true rfl) ⟨Nat.le_of_ble_eq_true rfl, Nat.le_of_ble_eq_true rfl⟩ (fun r2 u2 h2 => ?_)
    obtain ⟨rfl, rfl⟩ := h2
    exact hend _ _ _ _ _ (N, M, S, rl, rh, bl, bh, 1, fl, fh, pt, nu, de) dX1_setCoefficient_26 (Nat.zero_le _) (Nat.zero_le _) (by have hk : (kVal N p0 p1 p2 (-99) 99) = 1 := (if_neg (by rintro ⟨h1, h2⟩; first | exact q10 h1 | exact q18 h2)); rw [hk]; first | exact ⟨rfl, rfl⟩ | simp [onlyIf])
  · have q10 : ixP N p0 := zi1.mp c10
    obtain ⟨i_p0, l_p0⟩ := ixP_at hN q10
    refine z_aload_n C dX1_setCoefficient_13 0 rfl ?_
    refine z_iload_n C dX1_setCoefficient_14 2 rfl ?_
    refine z_callVi_all (As := [.int p1]) C (c1_isIndex l D K b N M S rl rh bl bh 0 fl fh pt nu de p1) (cwV 1 C.1.2.2.2.2 gX1_setCoefficient_X1_isIndex rfl rfl rfl (by decide +kernel) ⟨Nat.le_of_ble_eq_true rfl, Nat.le_of_ble_eq_true rfl⟩) (ci := 3) rfl rfl 0 rfl dX1_setCoefficient_15 rfl rfl (Nat.le_of_ble_eq_true rfl) ⟨Nat.le_of_ble_eq_true rfl, Nat.le_of_ble_eq_true rfl⟩ (fun r3 u3 h3 => ?_)
    obtain ⟨rfl, rfl⟩ := h3
    refine z_if_ne (tgt := 27) C dX1_setCoefficient_18 (by decide) (fun c18 => ?_) (fun c18 => ?_)
    · have q18 : ixP N p1 := zi1.mp c18
      obtain ⟨i_p1, l_p1⟩ := ixP_at hN q18
      refine z_iload_n C dX1_setCoefficient_27 3 rfl ?_
      refine z_bipush (v := -99) C dX1_setCoefficient_28 (by decide) ?_
      refine z_icmp_lt (tgt := 39) C dX1_setCoefficient_30 (by decide) (fun c30 => ?_) (fun c30 => ?_)
      · refine z_aload_n C dX1_setCoefficient_39 0 rfl ?_
        refine z_iconst (v := 2) C dX1_setCoefficient_40 (by decide) ?_
        refine z_callVi_all (As := [.int 2]) C (c1_fail l D K b N M S rl rh bl bh 0 fl fh pt nu de 2) (cwV 1 C.1.2.2.2.2 gX1_setCoefficient_X1_fail rfl rfl rfl (by decide +kernel) ⟨Nat.le_of_ble_eq_true rfl, Nat.le_of_ble_eq_true rfl⟩) (ci := 3) rfl rfl 0 rfl dX1_setCoefficient_41 rfl rfl (Nat.le_of_ble_eq_true rfl) ⟨Nat.le_of_ble_eq_true rfl, Nat.le_of_ble_eq_true rfl⟩ (fun r4 u4 h4 => ?_)
        obtain ⟨rfl, rfl⟩ := h4
        exact hend _ _ _ _ _ (N, M, S, rl, rh, bl, bh, 2, fl, fh, pt, nu, de) dX1_setCoefficient_44 (Nat.zero_le _) (Nat.zero_le _) (by have hk : (kVal N p0 p1 p2 (-99) 99) = 2 := (by unfold kVal; rw [if_pos ⟨q10, q18⟩, if_neg (by rintro ⟨h1, h2⟩; first | exact absurd h1 (Int32.not_le.mpr c30) | exact c36 h2)]); rw [hk]; first | exact ⟨rfl, rfl⟩ | simp [onlyIf])
      · refine z_iload_n C dX1_setCoefficient_33 3 rfl ?_
        refine z_bipush (v := 99) C dX1_setCoefficient_34 (by decide) ?_
        refine z_icmp_le (tgt := 45) C dX1_setCoefficient_36 (by decide) (fun c36 => ?_) (fun c36 => ?_)
        · refine z_aload_n C dX1_setCoefficient_45 0 rfl ?_
          refine z_get (cl := vwCl) (T := TX1) (N := 13) (ci := 3) (ref := "IntervalSolverModel") C hinX1 rfl 2 (by decide) lk1 rfl dX1_setCoefficient_46 0 rfl rfl ?_
          refine z_iload_n C dX1_setCoefficient_49 1 rfl ?_
          refine z_iload_n C dX1_setCoefficient_50 2 rfl ?_
          refine z_callSi_none (As := [.int p0, .int p1]) C (c1_at l D K p0 p1) (va_cwS 2 C.1.2.2.2.2 gX1_setCoefficient_X1_at rfl rfl rfl (by decide +kernel) ⟨Nat.le_of_ble_eq_true rfl, Nat.le_of_ble_eq_true rfl⟩) dX1_setCoefficient_51 rfl rfl (Nat.le_of_ble_eq_true rfl) ⟨Nat.le_of_ble_eq_true rfl, Nat.le_of_ble_eq_true rfl⟩ (fun r5 u5 h5 => ?_)
          subst h5
          refine z_topi (nI (5 * (ix p0) + (ix p1))) (at_eq i_p0 i_p1) ?_
          refine z_iald C 0 rfl 1 rfl dX1_setCoefficient_54 (5 * (ix p0) + (ix p1)) rfl (by omega) (by decide) ?_
          refine z_topi (M (ix p0) (ix p1)) (fl5_at M (ix p0) (ix p1) (by omega)) ?_
          refine z_istore (lv' := [(0, .ref (b 0)), (1, .int p0), (2, .int p1), (3, .int p2), (4, .int (M (ix p0) (ix p1)))]) C dX1_setCoefficient_55 (by decide) [1, 2, 3, 4, 0] rfl ?_
          refine z_aload_n C dX1_setCoefficient_57 0 rfl ?_
          refine z_get (cl := vwCl) (T := TX1) (N := 13) (ci := 3) (ref := "IntervalSolverModel") C hinX1 rfl 2 (by decide) lk1 rfl dX1_setCoefficient_58 0 rfl rfl ?_
          refine z_iload_n C dX1_setCoefficient_61 1 rfl ?_
          refine z_iload_n C dX1_setCoefficient_62 2 rfl ?_
          refine z_callSi_none (As := [.int p0, .int p1]) C (c1_at l D K p0 p1) (va_cwS 2 C.1.2.2.2.2 gX1_setCoefficient_X1_at rfl rfl rfl (by decide +kernel) ⟨Nat.le_of_ble_eq_true rfl, Nat.le_of_ble_eq_true rfl⟩) dX1_setCoefficient_63 rfl rfl (Nat.le_of_ble_eq_true rfl) ⟨Nat.le_of_ble_eq_true rfl, Nat.le_of_ble_eq_true rfl⟩ (fun r6 u6 h6 => ?_)
          subst h6
          refine z_topi (nI (5 * (ix p0) + (ix p1))) (at_eq i_p0 i_p1) ?_
          refine z_iload_n C dX1_setCoefficient_66 3 rfl ?_
          refine z_iast (ws' := w1 K b (N, up2 M (ix p0) (ix p1) p2, S, rl, rh, bl, bh, 0, fl, fh, pt, nu, de)) C 0 rfl 1 rfl dX1_setCoefficient_67 (5 * (ix p0) + (ix p1)) rfl (by omega) (by decide) (by rw [fl5_up M (ix p0) (ix p1) p2 (by omega)]; rfl) ?_
          refine z_iload C dX1_setCoefficient_68 4 rfl ?_
          exact hend _ _ _ _ _ (N, up2 M (ix p0) (ix p1) p2, S, rl, rh, bl, bh, 0, fl, fh, pt, nu, de) dX1_setCoefficient_70 (Nat.zero_le _) (Nat.zero_le _) (by have hk : (kVal N p0 p1 p2 (-99) 99) = 0 := (by unfold kVal; rw [if_pos ⟨q10, q18⟩, if_pos ⟨Int32.not_lt.mp c30, c36⟩]); rw [hk]; first | exact ⟨rfl, rfl⟩ | simp [onlyIf])
        · refine z_aload_n C dX1_setCoefficient_39 0 rfl ?_
          refine z_iconst (v := 2) C dX1_setCoefficient_40 (by decide) ?_
          refine z_callVi_all (As := [.int 2]) C (c1_fail l D K b N M S rl rh bl bh 0 fl fh pt nu de 2) (cwV 1 C.1.2.2.2.2 gX1_setCoefficient_X1_fail rfl rfl rfl (by decide +kernel) ⟨Nat.le_of_ble_eq_true rfl, Nat.le_of_ble_eq_true rfl⟩) (ci := 3) rfl rfl 0 rfl dX1_setCoefficient_41 rfl rfl (Nat.le_of_ble_eq_true rfl) ⟨Nat.le_of_ble_eq_true rfl, Nat.le_of_ble_eq_true rfl⟩ (fun r7 u7 h7 => ?_)
          obtain ⟨rfl, rfl⟩ := h7
          exact hend _ _ _ _ _ (N, M, S, rl, rh, bl, bh, 2, fl, fh, pt, nu, de) dX1_setCoefficient_44 (Nat.zero_le _) (Nat.zero_le _) (by have hk : (kVal N p0 p1 p2 (-99) 99) = 2 := (by unfold kVal; rw [if_pos ⟨q10, q18⟩, if_neg (by rintro ⟨h1, h2⟩; first | exact absurd h1 (Int32.not_le.mpr c30) | exact c36 h2)]); rw [hk]; first | exact ⟨rfl, rfl⟩ | simp [onlyIf])
    · have q18 : ¬ (ixP N p1) := zi0.mp c18
      refine z_aload_n C dX1_setCoefficient_21 0 rfl ?_
      refine z_iconst (v := 1) C dX1_setCoefficient_22 (by decide) ?_
      refine z_callVi_all (As := [.int 1]) C (c1_fail l D K b N M S rl rh bl bh 0 fl fh pt nu de 1) (cwV 1 C.1.2.2.2.2 gX1_setCoefficient_X1_fail rfl rfl rfl (by decide +kernel) ⟨Nat.le_of_ble_eq_true rfl, Nat.le_of_ble_eq_true rfl⟩) (ci := 3) rfl rfl 0 rfl dX1_setCoefficient_23 rfl rfl (Nat.le_of_ble_eq_true rfl) ⟨Nat.le_of_ble_eq_true rfl, Nat.le_of_ble_eq_true rfl⟩ (fun r8 u8 h8 => ?_)
      obtain ⟨rfl, rfl⟩ := h8
      exact hend _ _ _ _ _ (N, M, S, rl, rh, bl, bh, 1, fl, fh, pt, nu, de) dX1_setCoefficient_26 (Nat.zero_le _) (Nat.zero_le _) (by have hk : (kVal N p0 p1 p2 (-99) 99) = 1 := (if_neg (by rintro ⟨h1, h2⟩; first | exact q10 h1 | exact q18 h2)); rw [hk]; first | exact ⟨rfl, rfl⟩ | simp [onlyIf])

set_option maxRecDepth 100000 in
set_option maxHeartbeats 4000000 in
theorem c1_setSpread (l : Launch) (D : va_G) (K : Nat → ClassId) (b : Nat → Nat) (N : Nat) (M : Nat → Nat → Int32) (S : Nat → Nat → Int32) (rl : Nat → Int32) (rh : Nat → Int32) (bl : Nat → Int32) (bh : Nat → Int32) (th : Int32) (fl : Nat → Int32) (fh : Nat → Int32) (pt : Nat → Int64) (nu : Int64) (de : Int64) (p0 : Int32) (p1 : Int32) (p2 : Int32) (hN : N ≤ 5) : mI l D K yX1_setSpread wsX1_setSpread 1 21 0 0 [.ref (b 0), .int p0, .int p1, .int p2] (w1 K b (N, M, S, rl, rh, bl, bh, th, fl, fh, pt, nu, de)) (fun r u => r = onlyIf (kVal N p0 p1 p2 0 50) (S (ix p0) (ix p1)) 0 ∧ u = (N, M, onlyIf (kVal N p0 p1 p2 0 50) (up2 S (ix p0) (ix p1) p2) S, rl, rh, bl, bh, (kVal N p0 p1 p2 0 50), fl, fh, pt, nu, de)) (w1 K b) := by
  have hinX1 : ∀ w ∈ wsX10, w ∈ wsX1_setSpread := by decide +kernel
  have lk0 : Cond.fieldLink RX1 45 "IntervalSolverModel" "thrown" "I" ∈ wsX1_setSpread := by decide +kernel
  have lk1 : Cond.fieldLink RX1 17 "IntervalSolverModel" "spreads" "[I" ∈ wsX1_setSpread := by decide +kernel
  refine z_met_i (cc := cX1_setSpread) (maxL := 5) (own := RX1) (lv := [(0, .ref (b 0)), (1, .int p0), (2, .int p1), (3, .int p2)]) (by decide) rfl rfl (Nat.le_of_ble_eq_true rfl) rfl ?_
  intro p e s m below meth c args Q A C hnm hend
  refine z_aload_n C dX1_setSpread_0 0 rfl ?_
  refine z_iconst (v := 0) C dX1_setSpread_1 (by decide) ?_
  refine z_put (cl := vwCl) (T := TX1) (N := 13) (ci := 3) (ref := "IntervalSolverModel") (ws' := w1 K b (N, M, S, rl, rh, bl, bh, 0, fl, fh, pt, nu, de)) C hinX1 tyX1 tyX1_ok nmX1 rfl 0 (by decide) lk0 rfl rfl rfl rfl dX1_setSpread_2 0 rfl (Nat.le_of_ble_eq_true rfl) rfl ?_
  refine z_aload_n C dX1_setSpread_5 0 rfl ?_
  refine z_iload_n C dX1_setSpread_6 1 rfl ?_
  refine z_callVi_all (As := [.int p0]) C (c1_isIndex l D K b N M S rl rh bl bh 0 fl fh pt nu de p0) (cwV 1 C.1.2.2.2.2 gX1_setSpread_X1_isIndex rfl rfl rfl (by decide +kernel) ⟨Nat.le_of_ble_eq_true rfl, Nat.le_of_ble_eq_true rfl⟩) (ci := 3) rfl rfl 0 rfl dX1_setSpread_7 rfl rfl (Nat.le_of_ble_eq_true rfl) ⟨Nat.le_of_ble_eq_true rfl, Nat.le_of_ble_eq_true rfl⟩ (fun r1 u1 h1 => ?_)
  obtain ⟨rfl, rfl⟩ := h1
  refine z_if_eq (tgt := 21) C dX1_setSpread_10 (by decide) (fun c10 => ?_) (fun c10 => ?_)
  · have q10 : ¬ (ixP N p0) := zi0.mp c10
    refine z_aload_n C dX1_setSpread_21 0 rfl ?_
    refine z_iconst (v := 1) C dX1_setSpread_22 (by decide) ?_
    refine z_callVi_all (As := [.int 1]) C (c1_fail l D K b N M S rl rh bl bh 0 fl fh pt nu de 1) (cwV 1 C.1.2.2.2.2 gX1_setSpread_X1_fail rfl rfl rfl (by decide +kernel) ⟨Nat.le_of_ble_eq_true rfl, Nat.le_of_ble_eq_true rfl⟩) (ci := 3) rfl rfl 0 rfl dX1_setSpread_23 rfl rfl (Nat.le_of_ble_eq_true rfl) ⟨Nat.le_of_ble_eq_true rfl, Nat.le_of_ble_eq_true rfl⟩ (fun r2 u2 h2 => ?_)
    obtain ⟨rfl, rfl⟩ := h2
    exact hend _ _ _ _ _ (N, M, S, rl, rh, bl, bh, 1, fl, fh, pt, nu, de) dX1_setSpread_26 (Nat.zero_le _) (Nat.zero_le _) (by have hk : (kVal N p0 p1 p2 0 50) = 1 := (if_neg (by rintro ⟨h1, h2⟩; first | exact q10 h1 | exact q18 h2)); rw [hk]; first | exact ⟨rfl, rfl⟩ | simp [onlyIf])
  · have q10 : ixP N p0 := zi1.mp c10
    obtain ⟨i_p0, l_p0⟩ := ixP_at hN q10
    refine z_aload_n C dX1_setSpread_13 0 rfl ?_
    refine z_iload_n C dX1_setSpread_14 2 rfl ?_
    refine z_callVi_all (As := [.int p1]) C (c1_isIndex l D K b N M S rl rh bl bh 0 fl fh pt nu de p1) (cwV 1 C.1.2.2.2.2 gX1_setSpread_X1_isIndex rfl rfl rfl (by decide +kernel) ⟨Nat.le_of_ble_eq_true rfl, Nat.le_of_ble_eq_true rfl⟩) (ci := 3) rfl rfl 0 rfl dX1_setSpread_15 rfl rfl (Nat.le_of_ble_eq_true rfl) ⟨Nat.le_of_ble_eq_true rfl, Nat.le_of_ble_eq_true rfl⟩ (fun r3 u3 h3 => ?_)
    obtain ⟨rfl, rfl⟩ := h3
    refine z_if_ne (tgt := 27) C dX1_setSpread_18 (by decide) (fun c18 => ?_) (fun c18 => ?_)
    · have q18 : ixP N p1 := zi1.mp c18
      obtain ⟨i_p1, l_p1⟩ := ixP_at hN q18
      refine z_iload_n C dX1_setSpread_27 3 rfl ?_
      refine z_if_lt (tgt := 37) C dX1_setSpread_28 (by decide) (fun c28 => ?_) (fun c28 => ?_)
      · refine z_aload_n C dX1_setSpread_37 0 rfl ?_
        refine z_iconst (v := 2) C dX1_setSpread_38 (by decide) ?_
        refine z_callVi_all (As := [.int 2]) C (c1_fail l D K b N M S rl rh bl bh 0 fl fh pt nu de 2) (cwV 1 C.1.2.2.2.2 gX1_setSpread_X1_fail rfl rfl rfl (by decide +kernel) ⟨Nat.le_of_ble_eq_true rfl, Nat.le_of_ble_eq_true rfl⟩) (ci := 3) rfl rfl 0 rfl dX1_setSpread_39 rfl rfl (Nat.le_of_ble_eq_true rfl) ⟨Nat.le_of_ble_eq_true rfl, Nat.le_of_ble_eq_true rfl⟩ (fun r4 u4 h4 => ?_)
        obtain ⟨rfl, rfl⟩ := h4
        exact hend _ _ _ _ _ (N, M, S, rl, rh, bl, bh, 2, fl, fh, pt, nu, de) dX1_setSpread_42 (Nat.zero_le _) (Nat.zero_le _) (by have hk : (kVal N p0 p1 p2 0 50) = 2 := (by unfold kVal; rw [if_pos ⟨q10, q18⟩, if_neg (by rintro ⟨h1, h2⟩; first | exact absurd h1 (Int32.not_le.mpr c28) | exact c34 h2)]); rw [hk]; first | exact ⟨rfl, rfl⟩ | simp [onlyIf])
      · refine z_iload_n C dX1_setSpread_31 3 rfl ?_
        refine z_bipush (v := 50) C dX1_setSpread_32 (by decide) ?_
        refine z_icmp_le (tgt := 43) C dX1_setSpread_34 (by decide) (fun c34 => ?_) (fun c34 => ?_)
        · refine z_aload_n C dX1_setSpread_43 0 rfl ?_
          refine z_get (cl := vwCl) (T := TX1) (N := 13) (ci := 3) (ref := "IntervalSolverModel") C hinX1 rfl 3 (by decide) lk1 rfl dX1_setSpread_44 0 rfl rfl ?_
          refine z_iload_n C dX1_setSpread_47 1 rfl ?_
          refine z_iload_n C dX1_setSpread_48 2 rfl ?_
          refine z_callSi_none (As := [.int p0, .int p1]) C (c1_at l D K p0 p1) (va_cwS 2 C.1.2.2.2.2 gX1_setSpread_X1_at rfl rfl rfl (by decide +kernel) ⟨Nat.le_of_ble_eq_true rfl, Nat.le_of_ble_eq_true rfl⟩) dX1_setSpread_49 rfl rfl (Nat.le_of_ble_eq_true rfl) ⟨Nat.le_of_ble_eq_true rfl, Nat.le_of_ble_eq_true rfl⟩ (fun r5 u5 h5 => ?_)
          subst h5
          refine z_topi (nI (5 * (ix p0) + (ix p1))) (at_eq i_p0 i_p1) ?_
          refine z_iald C 0 rfl 2 rfl dX1_setSpread_52 (5 * (ix p0) + (ix p1)) rfl (by omega) (by decide) ?_
          refine z_topi (S (ix p0) (ix p1)) (fl5_at S (ix p0) (ix p1) (by omega)) ?_
          refine z_istore (lv' := [(0, .ref (b 0)), (1, .int p0), (2, .int p1), (3, .int p2), (4, .int (S (ix p0) (ix p1)))]) C dX1_setSpread_53 (by decide) [1, 2, 3, 4, 0] rfl ?_
          refine z_aload_n C dX1_setSpread_55 0 rfl ?_
          refine z_get (cl := vwCl) (T := TX1) (N := 13) (ci := 3) (ref := "IntervalSolverModel") C hinX1 rfl 3 (by decide) lk1 rfl dX1_setSpread_56 0 rfl rfl ?_
          refine z_iload_n C dX1_setSpread_59 1 rfl ?_
          refine z_iload_n C dX1_setSpread_60 2 rfl ?_
          refine z_callSi_none (As := [.int p0, .int p1]) C (c1_at l D K p0 p1) (va_cwS 2 C.1.2.2.2.2 gX1_setSpread_X1_at rfl rfl rfl (by decide +kernel) ⟨Nat.le_of_ble_eq_true rfl, Nat.le_of_ble_eq_true rfl⟩) dX1_setSpread_61 rfl rfl (Nat.le_of_ble_eq_true rfl) ⟨Nat.le_of_ble_eq_true rfl, Nat.le_of_ble_eq_true rfl⟩ (fun r6 u6 h6 => ?_)
          subst h6
          refine z_topi (nI (5 * (ix p0) + (ix p1))) (at_eq i_p0 i_p1) ?_
          refine z_iload_n C dX1_setSpread_64 3 rfl ?_
          refine z_iast (ws' := w1 K b (N, M, up2 S (ix p0) (ix p1) p2, rl, rh, bl, bh, 0, fl, fh, pt, nu, de)) C 0 rfl 2 rfl dX1_setSpread_65 (5 * (ix p0) + (ix p1)) rfl (by omega) (by decide) (by rw [fl5_up S (ix p0) (ix p1) p2 (by omega)]; rfl) ?_
          refine z_iload C dX1_setSpread_66 4 rfl ?_
          exact hend _ _ _ _ _ (N, M, up2 S (ix p0) (ix p1) p2, rl, rh, bl, bh, 0, fl, fh, pt, nu, de) dX1_setSpread_68 (Nat.zero_le _) (Nat.zero_le _) (by have hk : (kVal N p0 p1 p2 0 50) = 0 := (by unfold kVal; rw [if_pos ⟨q10, q18⟩, if_pos ⟨Int32.not_lt.mp c28, c34⟩]); rw [hk]; first | exact ⟨rfl, rfl⟩ | simp [onlyIf])
        · refine z_aload_n C dX1_setSpread_37 0 rfl ?_
          refine z_iconst (v := 2) C dX1_setSpread_38 (by decide) ?_
          refine z_callVi_all (As := [.int 2]) C (c1_fail l D K b N M S rl rh bl bh 0 fl fh pt nu de 2) (cwV 1 C.1.2.2.2.2 gX1_setSpread_X1_fail rfl rfl rfl (by decide +kernel) ⟨Nat.le_of_ble_eq_true rfl, Nat.le_of_ble_eq_true rfl⟩) (ci := 3) rfl rfl 0 rfl dX1_setSpread_39 rfl rfl (Nat.le_of_ble_eq_true rfl) ⟨Nat.le_of_ble_eq_true rfl, Nat.le_of_ble_eq_true rfl⟩ (fun r7 u7 h7 => ?_)
          obtain ⟨rfl, rfl⟩ := h7
          exact hend _ _ _ _ _ (N, M, S, rl, rh, bl, bh, 2, fl, fh, pt, nu, de) dX1_setSpread_42 (Nat.zero_le _) (Nat.zero_le _) (by have hk : (kVal N p0 p1 p2 0 50) = 2 := (by unfold kVal; rw [if_pos ⟨q10, q18⟩, if_neg (by rintro ⟨h1, h2⟩; first | exact absurd h1 (Int32.not_le.mpr c28) | exact c34 h2)]); rw [hk]; first | exact ⟨rfl, rfl⟩ | simp [onlyIf])
    · have q18 : ¬ (ixP N p1) := zi0.mp c18
      refine z_aload_n C dX1_setSpread_21 0 rfl ?_
      refine z_iconst (v := 1) C dX1_setSpread_22 (by decide) ?_
      refine z_callVi_all (As := [.int 1]) C (c1_fail l D K b N M S rl rh bl bh 0 fl fh pt nu de 1) (cwV 1 C.1.2.2.2.2 gX1_setSpread_X1_fail rfl rfl rfl (by decide +kernel) ⟨Nat.le_of_ble_eq_true rfl, Nat.le_of_ble_eq_true rfl⟩) (ci := 3) rfl rfl 0 rfl dX1_setSpread_23 rfl rfl (Nat.le_of_ble_eq_true rfl) ⟨Nat.le_of_ble_eq_true rfl, Nat.le_of_ble_eq_true rfl⟩ (fun r8 u8 h8 => ?_)
      obtain ⟨rfl, rfl⟩ := h8
      exact hend _ _ _ _ _ (N, M, S, rl, rh, bl, bh, 1, fl, fh, pt, nu, de) dX1_setSpread_26 (Nat.zero_le _) (Nat.zero_le _) (by have hk : (kVal N p0 p1 p2 0 50) = 1 := (if_neg (by rintro ⟨h1, h2⟩; first | exact q10 h1 | exact q18 h2)); rw [hk]; first | exact ⟨rfl, rfl⟩ | simp [onlyIf])
