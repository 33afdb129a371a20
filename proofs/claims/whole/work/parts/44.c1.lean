set_option maxRecDepth 100000 in
set_option maxHeartbeats 4000000 in
theorem c1_residualLow (l : Launch) (D : va_G) (K : Nat → ClassId) (b : Nat → Nat) (N : Nat) (M : Nat → Nat → Int32) (S : Nat → Nat → Int32) (rl : Nat → Int32) (rh : Nat → Int32) (bl : Nat → Int32) (bh : Nat → Int32) (th : Int32) (fl : Nat → Int32) (fh : Nat → Int32) (pt : Nat → Int64) (nu : Int64) (de : Int64) (p0 : Int32) (hN : N ≤ 5) : mL l D K yX1_residualLow wsX1_residualLow 2 45 0 0 [.ref (b 0), .int p0] (w1 K b (N, M, S, rl, rh, bl, bh, th, fl, fh, pt, nu, de)) (fun r u => r = onlyIf (kIx N p0) (mdS M bl bh (ix p0) N - 2048 * (rh (ix p0)).toInt64) 0 ∧ u = (N, M, S, rl, rh, bl, bh, kIx N p0, fl, fh, pt, nu, de)) (w1 K b) := by
  have hinX1 : ∀ w ∈ wsX10, w ∈ wsX1_residualLow := by decide +kernel
  have lk0 : Cond.fieldLink RX1 45 "IntervalSolverModel" "thrown" "I" ∈ wsX1_residualLow := by decide +kernel
  have lk1 : Cond.constantLong RX1 157 (2048) ∈ wsX1_residualLow := by decide +kernel
  have lk2 : Cond.fieldLink RX1 23 "IntervalSolverModel" "highs" "[I" ∈ wsX1_residualLow := by decide +kernel
  refine z_met_l (cc := cX1_residualLow) (maxL := 2) (own := RX1) (lv := [(0, .ref (b 0)), (1, .int p0)]) (by decide) rfl rfl (Nat.le_of_ble_eq_true rfl) rfl ?_
  intro p e s m below meth c args Q A C hnm hend
  refine z_aload_n C dX1_residualLow_0 0 rfl ?_
  refine z_iconst (v := 0) C dX1_residualLow_1 (by decide) ?_
  refine z_put (cl := vwCl) (T := TX1) (N := 13) (ci := 3) (ref := "IntervalSolverModel") (ws' := w1 K b (N, M, S, rl, rh, bl, bh, 0, fl, fh, pt, nu, de)) C hinX1 tyX1 tyX1_ok nmX1 rfl 0 (by decide) lk0 rfl rfl rfl rfl dX1_residualLow_2 0 rfl (Nat.le_of_ble_eq_true rfl) rfl ?_
  refine z_aload_n C dX1_residualLow_5 0 rfl ?_
  refine z_iload_n C dX1_residualLow_6 1 rfl ?_
  refine z_callVi_all (As := [.int p0]) C (c1_isIndex l D K b N M S rl rh bl bh 0 fl fh pt nu de p0) (cwV 1 C.1.2.2.2.2 gX1_residualLow_X1_isIndex rfl rfl rfl (by decide +kernel) ⟨Nat.le_of_ble_eq_true rfl, Nat.le_of_ble_eq_true rfl⟩) (ci := 3) rfl rfl 0 rfl dX1_residualLow_7 rfl rfl (Nat.le_of_ble_eq_true rfl) ⟨Nat.le_of_ble_eq_true rfl, Nat.le_of_ble_eq_true rfl⟩ (fun r1 u1 h1 => ?_)
  obtain ⟨rfl, rfl⟩ := h1
  refine z_if_eq (tgt := 33) C dX1_residualLow_10 (by decide) (fun c10 => ?_) (fun c10 => ?_)
  · have q10 : ¬ (ixP N p0) := zi0.mp c10
    refine z_aload_n C dX1_residualLow_33 0 rfl ?_
    refine z_iconst (v := 1) C dX1_residualLow_34 (by decide) ?_
    refine z_callVi_all (As := [.int 1]) C (c1_fail l D K b N M S rl rh bl bh 0 fl fh pt nu de 1) (cwV 1 C.1.2.2.2.2 gX1_residualLow_X1_fail rfl rfl rfl (by decide +kernel) ⟨Nat.le_of_ble_eq_true rfl, Nat.le_of_ble_eq_true rfl⟩) (ci := 3) rfl rfl 0 rfl dX1_residualLow_35 rfl rfl (Nat.le_of_ble_eq_true rfl) ⟨Nat.le_of_ble_eq_true rfl, Nat.le_of_ble_eq_true rfl⟩ (fun r2 u2 h2 => ?_)
    obtain ⟨rfl, rfl⟩ := h2
    refine z_i2l C dX1_residualLow_38 ?_
    exact hend _ _ _ _ _ (N, M, S, rl, rh, bl, bh, 1, fl, fh, pt, nu, de) dX1_residualLow_39 (Nat.zero_le _) (Nat.zero_le _) (by have hk : kIx N p0 = 1 := if_neg q10; rw [hk]; exact ⟨rfl, rfl⟩)
  · have q10 : ixP N p0 := zi1.mp c10
    obtain ⟨i_p0, l_p0⟩ := ixP_at hN q10
    refine z_aload_n C dX1_residualLow_13 0 rfl ?_
    refine z_iload_n C dX1_residualLow_14 1 rfl ?_
    refine z_topi (nI (ix p0)) i_p0 ?_
    refine z_callVl_all (As := [.int (nI (ix p0))]) C (c1_middle l D K b N M S rl rh bl bh 0 fl fh pt nu de (ix p0) (by omega) (by omega)) (cwV 1 C.1.2.2.2.2 gX1_residualLow_X1_middle rfl rfl rfl (by decide +kernel) ⟨Nat.le_of_ble_eq_true rfl, Nat.le_of_ble_eq_true rfl⟩) (ci := 3) rfl rfl 0 rfl dX1_residualLow_15 rfl rfl (Nat.le_of_ble_eq_true rfl) ⟨Nat.le_of_ble_eq_true rfl, Nat.le_of_ble_eq_true rfl⟩ (fun r3 u3 h3 => ?_)
    obtain ⟨rfl, rfl⟩ := h3
    refine z_ldc2 C lk1 dX1_residualLow_18 ?_
    refine z_aload_n C dX1_residualLow_21 0 rfl ?_
    refine z_get (cl := vwCl) (T := TX1) (N := 13) (ci := 3) (ref := "IntervalSolverModel") C hinX1 rfl 5 (by decide) lk2 rfl dX1_residualLow_22 0 rfl rfl ?_
    refine z_iload_n C dX1_residualLow_25 1 rfl ?_
    refine z_iald C 0 rfl 4 rfl dX1_residualLow_26 (ix p0) i_p0 (by omega) (by decide) ?_
    refine z_i2l C dX1_residualLow_27 ?_
    refine z_lmul C dX1_residualLow_28 ?_
    refine z_lsub C dX1_residualLow_29 ?_
    refine z_goto (tgt := 39) C dX1_residualLow_30 (by decide) ?_
    exact hend _ _ _ _ _ (N, M, S, rl, rh, bl, bh, 0, fl, fh, pt, nu, de) dX1_residualLow_39 (Nat.zero_le _) (Nat.zero_le _) (by have hk : kIx N p0 = 0 := if_pos q10; rw [hk]; exact ⟨rfl, rfl⟩)

set_option maxRecDepth 100000 in
set_option maxHeartbeats 4000000 in
theorem c1_residualHigh (l : Launch) (D : va_G) (K : Nat → ClassId) (b : Nat → Nat) (N : Nat) (M : Nat → Nat → Int32) (S : Nat → Nat → Int32) (rl : Nat → Int32) (rh : Nat → Int32) (bl : Nat → Int32) (bh : Nat → Int32) (th : Int32) (fl : Nat → Int32) (fh : Nat → Int32) (pt : Nat → Int64) (nu : Int64) (de : Int64) (p0 : Int32) (hN : N ≤ 5) : mL l D K yX1_residualHigh wsX1_residualHigh 2 45 0 0 [.ref (b 0), .int p0] (w1 K b (N, M, S, rl, rh, bl, bh, th, fl, fh, pt, nu, de)) (fun r u => r = onlyIf (kIx N p0) (mdS M bl bh (ix p0) N - 2048 * (rl (ix p0)).toInt64) 0 ∧ u = (N, M, S, rl, rh, bl, bh, kIx N p0, fl, fh, pt, nu, de)) (w1 K b) := by
  have hinX1 : ∀ w ∈ wsX10, w ∈ wsX1_residualHigh := by decide +kernel
  have lk0 : Cond.fieldLink RX1 45 "IntervalSolverModel" "thrown" "I" ∈ wsX1_residualHigh := by decide +kernel
  have lk1 : Cond.constantLong RX1 157 (2048) ∈ wsX1_residualHigh := by decide +kernel
  have lk2 : Cond.fieldLink RX1 20 "IntervalSolverModel" "lows" "[I" ∈ wsX1_residualHigh := by decide +kernel
  refine z_met_l (cc := cX1_residualHigh) (maxL := 2) (own := RX1) (lv := [(0, .ref (b 0)), (1, .int p0)]) (by decide) rfl rfl (Nat.le_of_ble_eq_true rfl) rfl ?_
  intro p e s m below meth c args Q A C hnm hend
  refine z_aload_n C dX1_residualHigh_0 0 rfl ?_
  refine z_iconst (v := 0) C dX1_residualHigh_1 (by decide) ?_
  refine z_put (cl := vwCl) (T := TX1) (N := 13) (ci := 3) (ref := "IntervalSolverModel") (ws' := w1 K b (N, M, S, rl, rh, bl, bh, 0, fl, fh, pt, nu, de)) C hinX1 tyX1 tyX1_ok nmX1 rfl 0 (by decide) lk0 rfl rfl rfl rfl dX1_residualHigh_2 0 rfl (Nat.le_of_ble_eq_true rfl) rfl ?_
  refine z_aload_n C dX1_residualHigh_5 0 rfl ?_
  refine z_iload_n C dX1_residualHigh_6 1 rfl ?_
  refine z_callVi_all (As := [.int p0]) C (c1_isIndex l D K b N M S rl rh bl bh 0 fl fh pt nu de p0) (cwV 1 C.1.2.2.2.2 gX1_residualHigh_X1_isIndex rfl rfl rfl (by decide +kernel) ⟨Nat.le_of_ble_eq_true rfl, Nat.le_of_ble_eq_true rfl⟩) (ci := 3) rfl rfl 0 rfl dX1_residualHigh_7 rfl rfl (Nat.le_of_ble_eq_true rfl) ⟨Nat.le_of_ble_eq_true rfl, Nat.le_of_ble_eq_true rfl⟩ (fun r1 u1 h1 => ?_)
  obtain ⟨rfl, rfl⟩ := h1
  refine z_if_eq (tgt := 33) C dX1_residualHigh_10 (by decide) (fun c10 => ?_) (fun c10 => ?_)
  · have q10 : ¬ (ixP N p0) := zi0.mp c10
    refine z_aload_n C dX1_residualHigh_33 0 rfl ?_
    refine z_iconst (v := 1) C dX1_residualHigh_34 (by decide) ?_
    refine z_callVi_all (As := [.int 1]) C (c1_fail l D K b N M S rl rh bl bh 0 fl fh pt nu de 1) (cwV 1 C.1.2.2.2.2 gX1_residualHigh_X1_fail rfl rfl rfl (by decide +kernel) ⟨Nat.le_of_ble_eq_true rfl, Nat.le_of_ble_eq_true rfl⟩) (ci := 3) rfl rfl 0 rfl dX1_residualHigh_35 rfl rfl (Nat.le_of_ble_eq_true rfl) ⟨Nat.le_of_ble_eq_true rfl, Nat.le_of_ble_eq_true rfl⟩ (fun r2 u2 h2 => ?_)
    obtain ⟨rfl, rfl⟩ := h2
    refine z_i2l C dX1_residualHigh_38 ?_
    exact hend _ _ _ _ _ (N, M, S, rl, rh, bl, bh, 1, fl, fh, pt, nu, de) dX1_residualHigh_39 (Nat.zero_le _) (Nat.zero_le _) (by have hk : kIx N p0 = 1 := if_neg q10; rw [hk]; exact ⟨rfl, rfl⟩)
  · have q10 : ixP N p0 := zi1.mp c10
    obtain ⟨i_p0, l_p0⟩ := ixP_at hN q10
    refine z_aload_n C dX1_residualHigh_13 0 rfl ?_
    refine z_iload_n C dX1_residualHigh_14 1 rfl ?_
    refine z_topi (nI (ix p0)) i_p0 ?_
    refine z_callVl_all (As := [.int (nI (ix p0))]) C (c1_middle l D K b N M S rl rh bl bh 0 fl fh pt nu de (ix p0) (by omega) (by omega)) (cwV 1 C.1.2.2.2.2 gX1_residualHigh_X1_middle rfl rfl rfl (by decide +kernel) ⟨Nat.le_of_ble_eq_true rfl, Nat.le_of_ble_eq_true rfl⟩) (ci := 3) rfl rfl 0 rfl dX1_residualHigh_15 rfl rfl (Nat.le_of_ble_eq_true rfl) ⟨Nat.le_of_ble_eq_true rfl, Nat.le_of_ble_eq_true rfl⟩ (fun r3 u3 h3 => ?_)
    obtain ⟨rfl, rfl⟩ := h3
    refine z_ldc2 C lk1 dX1_residualHigh_18 ?_
    refine z_aload_n C dX1_residualHigh_21 0 rfl ?_
    refine z_get (cl := vwCl) (T := TX1) (N := 13) (ci := 3) (ref := "IntervalSolverModel") C hinX1 rfl 4 (by decide) lk2 rfl dX1_residualHigh_22 0 rfl rfl ?_
    refine z_iload_n C dX1_residualHigh_25 1 rfl ?_
    refine z_iald C 0 rfl 3 rfl dX1_residualHigh_26 (ix p0) i_p0 (by omega) (by decide) ?_
    refine z_i2l C dX1_residualHigh_27 ?_
    refine z_lmul C dX1_residualHigh_28 ?_
    refine z_lsub C dX1_residualHigh_29 ?_
    refine z_goto (tgt := 39) C dX1_residualHigh_30 (by decide) ?_
    exact hend _ _ _ _ _ (N, M, S, rl, rh, bl, bh, 0, fl, fh, pt, nu, de) dX1_residualHigh_39 (Nat.zero_le _) (Nat.zero_le _) (by have hk : kIx N p0 = 0 := if_pos q10; rw [hk]; exact ⟨rfl, rfl⟩)

set_option maxRecDepth 100000 in
set_option maxHeartbeats 4000000 in
theorem c1_isSolution (l : Launch) (D : va_G) (K : Nat → ClassId) (b : Nat → Nat) (N : Nat) (M : Nat → Nat → Int32) (S : Nat → Nat → Int32) (rl : Nat → Int32) (rh : Nat → Int32) (bl : Nat → Int32) (bh : Nat → Int32) (th : Int32) (fl : Nat → Int32) (fh : Nat → Int32) (pt : Nat → Int64) (nu : Int64) (de : Int64) (p0 : Int32) (p1 : Int32) (p2 : Int32) (p3 : Int32) (p4 : Int32) (hN : N ≤ 5) : mI l D K yX1_isSolution wsX1_isSolution 1 21 1 5 [.ref (b 0), .int p0, .int p1, .int p2, .int p3, .int p4] (w1 K b (N, M, S, rl, rh, bl, bh, th, fl, fh, pt, nu, de)) (fun r u => r = solR N M rl rh (fun j => (vec5 p0 p1 p2 p3 p4 j).toInt64) ∧ u = (N, M, S, rl, rh, bl, bh, 0, fl, fh, pt, nu, de)) (w1 K b) := by
  have hinX1 : ∀ w ∈ wsX10, w ∈ wsX1_isSolution := by decide +kernel
  have lk0 : Cond.fieldLink RX1 45 "IntervalSolverModel" "thrown" "I" ∈ wsX1_isSolution := by decide +kernel
  have lk1 : Cond.arrayClass .int ∈ wsX1_isSolution := by decide +kernel
  have lk2 : Cond.fieldLink RX1 7 "IntervalSolverModel" "n" "I" ∈ wsX1_isSolution := by decide +kernel
  have lk3 : Cond.fieldLink RX1 20 "IntervalSolverModel" "lows" "[I" ∈ wsX1_isSolution := by decide +kernel
  have lk4 : Cond.fieldLink RX1 23 "IntervalSolverModel" "highs" "[I" ∈ wsX1_isSolution := by decide +kernel
  have lk5 : Cond.fieldLink RX1 13 "IntervalSolverModel" "a" "[I" ∈ wsX1_isSolution := by decide +kernel
  refine z_met_z (cc := cX1_isSolution) (maxL := 11) (own := RX1) (lv := [(0, .ref (b 0)), (1, .int p0), (2, .int p1), (3, .int p2), (4, .int p3), (5, .int p4)]) (by decide) rfl rfl (Nat.le_of_ble_eq_true rfl) rfl ?_
  intro p e s m below meth c args Q A C hnm hend
  refine z_aload_n C dX1_isSolution_0 0 rfl ?_
  refine z_iconst (v := 0) C dX1_isSolution_1 (by decide) ?_
  refine z_put (cl := vwCl) (T := TX1) (N := 13) (ci := 3) (ref := "IntervalSolverModel") (ws' := w1 K b (N, M, S, rl, rh, bl, bh, 0, fl, fh, pt, nu, de)) C hinX1 tyX1 tyX1_ok nmX1 rfl 0 (by decide) lk0 rfl rfl rfl rfl dX1_isSolution_2 0 rfl (Nat.le_of_ble_eq_true rfl) rfl ?_
  refine z_iconst (v := 5) C dX1_isSolution_5 (by decide) ?_
  refine z_newi5 C 0 rfl lk1 (Nat.le_of_ble_eq_true rfl) (Nat.le_of_ble_eq_true rfl) dX1_isSolution_6 (fun q => ?_)
  refine z_dup C dX1_isSolution_8 rfl ?_
  refine z_iconst (v := 0) C dX1_isSolution_9 (by decide) ?_
  refine z_iload_n C dX1_isSolution_10 1 rfl ?_
  refine z_iast (ws' := w1 K b (N, M, S, rl, rh, bl, bh, 0, fl, fh, pt, nu, de) ++ [(q, .inl (K 0, 5, .inl (upd (fun _ => 0) 0 p0)))]) C 0 rfl 10 rfl dX1_isSolution_11 0 rfl (by decide) (by omega) rfl ?_
  refine z_dup C dX1_isSolution_12 rfl ?_
  refine z_iconst (v := 1) C dX1_isSolution_13 (by decide) ?_
  refine z_iload_n C dX1_isSolution_14 2 rfl ?_
  refine z_iast (ws' := w1 K b (N, M, S, rl, rh, bl, bh, 0, fl, fh, pt, nu, de) ++ [(q, .inl (K 0, 5, .inl (upd (upd (fun _ => 0) 0 p0) 1 p1)))]) C 0 rfl 10 rfl dX1_isSolution_15 1 rfl (by decide) (by omega) rfl ?_
  refine z_dup C dX1_isSolution_16 rfl ?_
  refine z_iconst (v := 2) C dX1_isSolution_17 (by decide) ?_
  refine z_iload_n C dX1_isSolution_18 3 rfl ?_
  refine z_iast (ws' := w1 K b (N, M, S, rl, rh, bl, bh, 0, fl, fh, pt, nu, de) ++ [(q, .inl (K 0, 5, .inl (upd (upd (upd (fun _ => 0) 0 p0) 1 p1) 2 p2)))]) C 0 rfl 10 rfl dX1_isSolution_19 2 rfl (by decide) (by omega) rfl ?_
  refine z_dup C dX1_isSolution_20 rfl ?_
  refine z_iconst (v := 3) C dX1_isSolution_21 (by decide) ?_
  refine z_iload C dX1_isSolution_22 4 rfl ?_
  refine z_iast (ws' := w1 K b (N, M, S, rl, rh, bl, bh, 0, fl, fh, pt, nu, de) ++ [(q, .inl (K 0, 5, .inl (upd (upd (upd (upd (fun _ => 0) 0 p0) 1 p1) 2 p2) 3 p3)))]) C 0 rfl 10 rfl dX1_isSolution_24 3 rfl (by decide) (by omega) rfl ?_
  refine z_dup C dX1_isSolution_25 rfl ?_
  refine z_iconst (v := 4) C dX1_isSolution_26 (by decide) ?_
  refine z_iload C dX1_isSolution_27 5 rfl ?_
  refine z_iast (ws' := w1 K b (N, M, S, rl, rh, bl, bh, 0, fl, fh, pt, nu, de) ++ [(q, .inl (K 0, 5, .inl (upd (upd (upd (upd (upd (fun _ => 0) 0 p0) 1 p1) 2 p2) 3 p3) 4 p4)))]) C 0 rfl 10 rfl dX1_isSolution_29 4 rfl (by decide) (by omega) rfl ?_
  refine z_astore (lv' := [(0, .ref (b 0)), (1, .int p0), (2, .int p1), (3, .int p2), (4, .int p3), (5, .int p4), (6, .ref q)]) C dX1_isSolution_30 (by decide) [1, 2, 3, 4, 5, 6, 0] rfl ?_
  refine z_iconst (v := 0) C dX1_isSolution_32 (by decide) ?_
  refine z_istore (lv' := [(0, .ref (b 0)), (1, .int p0), (2, .int p1), (3, .int p2), (4, .int p3), (5, .int p4), (6, .ref q), (7, .int 0)]) C dX1_isSolution_33 (by decide) [1, 2, 3, 4, 5, 6, 7, 0] rfl ?_
  suffices L35 : ∀ (f35_i i : Nat), 0 ≤ i → i ≤ N → N < i + f35_i → (∀ t, t < i → ((rl t).toInt64 ≤ slS M (fun j => ((upd (upd (upd (upd (upd (fun _ => 0) 0 p0) 1 p1) 2 p2) 3 p3) 4 p4) j).toInt64) t N ∧ slS M (fun j => ((upd (upd (upd (upd (upd (fun _ => 0) 0 p0) 1 p1) 2 p2) 3 p3) 4 p4) j).toInt64) t N ≤ (rh t).toInt64)) → zW p l e { frames := 1, cells := 1, slots := 5, locals := 21 } s m args below meth c Q 11 A s.heap D vwCl 1 5 (w1 K b (N, M, S, rl, rh, bl, bh, 0, fl, fh, pt, nu, de) ++ [(q, .inl (K 0, 5, .inl (upd (upd (upd (upd (upd (fun _ => 0) 0 p0) 1 p1) 2 p2) 3 p3) 4 p4)))]) 35 ([(0, .ref (b 0)), (1, .int p0), (2, .int p1), (3, .int p2), (4, .int p3), (5, .int p4), (6, .ref q), (7, .int (nI i))]) [] from L35 (N + 1) 0 (Nat.le_refl _) (by omega) (by omega) (fun t h => absurd h (Nat.not_lt_zero t))
  intro f35_i
  induction f35_i with
  | zero => intro i h0 h1 h2; exact absurd h2 (by omega)
  | succ f35_i ih35_i =>
    intro i g35_0 g35_1 g35_2 hq
    refine z_iload C dX1_isSolution_35 7 rfl ?_
    refine z_aload_n C dX1_isSolution_37 0 rfl ?_
    refine z_get (cl := vwCl) (T := TX1) (N := 13) (ci := 3) (ref := "IntervalSolverModel") C hinX1 rfl 1 (by decide) lk2 rfl dX1_isSolution_38 0 rfl rfl ?_
    refine z_icmp_ge (tgt := 126) C dX1_isSolution_41 (by decide) (fun c41 => ?_) (fun c41 => ?_)
    · have e41 : i = N := by have := (nI_leI (a := N) (b := i) (by omega) (by omega)).mp c41; omega
      rw [e41]
      rw [e41] at hq
      refine z_iconst (v := 1) C dX1_isSolution_126 (by decide) ?_
      refine z_wsub (ws' := w1 K b (N, M, S, rl, rh, bl, bh, 0, fl, fh, pt, nu, de)) [0, 1, 2, 3, 4, 5, 6, 7, 8, 9] (by decide) rfl ?_
      exact hend _ _ _ _ _ (N, M, S, rl, rh, bl, bh, 0, fl, fh, pt, nu, de) dX1_isSolution_127 (by omega) (by omega) (Or.inr rfl) ⟨(by rw [← solR_congr (x := fun j => ((upd (upd (upd (upd (upd (fun _ => 0) 0 p0) 1 p1) 2 p2) 3 p3) 4 p4) j).toInt64) (fun j hj => by rw [vec5_upd p0 p1 p2 p3 p4 j (by omega)])]; unfold solR; rw [if_pos hq]), rfl⟩
    · have e41 : i < N := by have := mt (nI_leI (a := N) (b := i) (by omega) (by omega)).mpr c41; omega
      refine z_lconst (v := 0) C dX1_isSolution_44 (by decide) ?_
      refine z_lstore (lv' := [(0, .ref (b 0)), (1, .int p0), (2, .int p1), (3, .int p2), (4, .int p3), (5, .int p4), (6, .ref q), (7, .int (nI i)), (8, .long 0)]) C dX1_isSolution_45 (by decide) [1, 2, 3, 4, 5, 6, 7, 8, 0] rfl ?_
      refine z_iconst (v := 0) C dX1_isSolution_47 (by decide) ?_
      refine z_istore (lv' := [(0, .ref (b 0)), (1, .int p0), (2, .int p1), (3, .int p2), (4, .int p3), (5, .int p4), (6, .ref q), (7, .int (nI i)), (8, .long 0), (10, .int 0)]) C dX1_isSolution_48 (by decide) [1, 2, 3, 4, 5, 6, 7, 8, 9, 0] rfl ?_
      suffices L50 : ∀ (f50_j j : Nat), 0 ≤ j → j ≤ N → N < j + f50_j → zW p l e { frames := 1, cells := 1, slots := 5, locals := 21 } s m args below meth c Q 11 A s.heap D vwCl 1 5 (w1 K b (N, M, S, rl, rh, bl, bh, 0, fl, fh, pt, nu, de) ++ [(q, .inl (K 0, 5, .inl (upd (upd (upd (upd (upd (fun _ => 0) 0 p0) 1 p1) 2 p2) 3 p3) 4 p4)))]) 50 ([(0, .ref (b 0)), (1, .int p0), (2, .int p1), (3, .int p2), (4, .int p3), (5, .int p4), (6, .ref q), (7, .int (nI i)), (8, .long (slS M (fun j => ((upd (upd (upd (upd (upd (fun _ => 0) 0 p0) 1 p1) 2 p2) 3 p3) 4 p4) j).toInt64) i j)), (10, .int (nI j))]) [] from L50 (N + 1) 0 (Nat.le_refl _) (by omega) (by omega)
      intro f50_j
      induction f50_j with
      | zero => intro j h0 h1 h2; exact absurd h2 (by omega)
      | succ f50_j ih50_j =>
        intro j g50_0 g50_1 g50_2
        refine z_iload C dX1_isSolution_50 9 rfl ?_
        refine z_aload_n C dX1_isSolution_52 0 rfl ?_
        refine z_get (cl := vwCl) (T := TX1) (N := 13) (ci := 3) (ref := "IntervalSolverModel") C hinX1 rfl 1 (by decide) lk2 rfl dX1_isSolution_53 0 rfl rfl ?_
        refine z_icmp_ge (tgt := 90) C dX1_isSolution_56 (by decide) (fun c56 => ?_) (fun c56 => ?_)
        · have e56 : j = N := by have := (nI_leI (a := N) (b := j) (by omega) (by omega)).mp c56; omega
          rw [e56]
          refine z_lload C dX1_isSolution_90 8 rfl ?_
          refine z_aload_n C dX1_isSolution_92 0 rfl ?_
          refine z_get (cl := vwCl) (T := TX1) (N := 13) (ci := 3) (ref := "IntervalSolverModel") C hinX1 rfl 4 (by decide) lk3 rfl dX1_isSolution_93 0 rfl rfl ?_
          refine z_iload C dX1_isSolution_96 7 rfl ?_
          refine z_iald C 0 rfl 3 rfl dX1_isSolution_98 i rfl (by omega) (by decide) ?_
          refine z_i2l C dX1_isSolution_99 ?_
          refine z_lcmp_lt (tgt := 118) C dX1_isSolution_100 dX1_isSolution_101 (by decide) (fun c100 => ?_) (fun c100 => ?_)
          · refine z_iconst (v := 0) C dX1_isSolution_118 (by decide) ?_
            refine z_wsub (ws' := w1 K b (N, M, S, rl, rh, bl, bh, 0, fl, fh, pt, nu, de)) [0, 1, 2, 3, 4, 5, 6, 7, 8, 9] (by decide) rfl ?_
            exact hend _ _ _ _ _ (N, M, S, rl, rh, bl, bh, 0, fl, fh, pt, nu, de) dX1_isSolution_119 (by omega) (by omega) (Or.inl rfl) ⟨(by rw [← solR_congr (x := fun j => ((upd (upd (upd (upd (upd (fun _ => 0) 0 p0) 1 p1) 2 p2) 3 p3) 4 p4) j).toInt64) (fun j hj => by rw [vec5_upd p0 p1 p2 p3 p4 j (by omega)])]; unfold solR; rw [if_neg (fun q => by first | exact absurd (q i (by omega)).1 (Int64.not_le.mpr c100) | exact absurd (q i (by omega)).2 (Int64.not_le.mpr c114))]), rfl⟩
          · refine z_lload C dX1_isSolution_104 8 rfl ?_
            refine z_aload_n C dX1_isSolution_106 0 rfl ?_
            refine z_get (cl := vwCl) (T := TX1) (N := 13) (ci := 3) (ref := "IntervalSolverModel") C hinX1 rfl 5 (by decide) lk4 rfl dX1_isSolution_107 0 rfl rfl ?_
            refine z_iload C dX1_isSolution_110 7 rfl ?_
            refine z_iald C 0 rfl 4 rfl dX1_isSolution_112 i rfl (by omega) (by decide) ?_
            refine z_i2l C dX1_isSolution_113 ?_
            refine z_lcmp_le (tgt := 120) C dX1_isSolution_114 dX1_isSolution_115 (by decide) (fun c114 => ?_) (fun c114 => ?_)
            · refine z_iinc (v := nI (i + 1)) (lv' := [(0, .ref (b 0)), (1, .int p0), (2, .int p1), (3, .int p2), (4, .int p3), (5, .int p4), (6, .ref q), (7, .int (nI (i + 1))), (8, .long (slS M (fun N => ((upd (upd (upd (upd (upd (fun _ => 0) 0 p0) 1 p1) 2 p2) 3 p3) 4 p4) N).toInt64) i N)), (10, .int (nI N))]) C dX1_isSolution_120 (k := 7) rfl (nI_1 i) (by decide) [1, 2, 3, 4, 5, 6, 7, 0, 8, 9] rfl ?_
              refine z_goto (tgt := 35) C dX1_isSolution_123 (by decide) ?_
              refine z_lv (lv' := [(0, .ref (b 0)), (1, .int p0), (2, .int p1), (3, .int p2), (4, .int p3), (5, .int p4), (6, .ref q), (7, .int (nI (i + 1)))]) [0, 1, 2, 3, 4, 5, 6, 7] rfl ?_
              exact ih35_i (i + 1) (by omega) (by omega) (by omega) (lt_s hq ⟨Int64.not_lt.mp c100, Int64.not_lt.mp c114⟩)
            · refine z_iconst (v := 0) C dX1_isSolution_118 (by decide) ?_
              refine z_wsub (ws' := w1 K b (N, M, S, rl, rh, bl, bh, 0, fl, fh, pt, nu, de)) [0, 1, 2, 3, 4, 5, 6, 7, 8, 9] (by decide) rfl ?_
              exact hend _ _ _ _ _ (N, M, S, rl, rh, bl, bh, 0, fl, fh, pt, nu, de) dX1_isSolution_119 (by omega) (by omega) (Or.inl rfl) ⟨(by rw [← solR_congr (x := fun j => ((upd (upd (upd (upd (upd (fun _ => 0) 0 p0) 1 p1) 2 p2) 3 p3) 4 p4) j).toInt64) (fun j hj => by rw [vec5_upd p0 p1 p2 p3 p4 j (by omega)])]; unfold solR; rw [if_neg (fun q => by first | exact absurd (q i (by omega)).1 (Int64.not_le.mpr c100) | exact absurd (q i (by omega)).2 (Int64.not_le.mpr c114))]), rfl⟩
        · have e56 : j < N := by have := mt (nI_leI (a := N) (b := j) (by omega) (by omega)).mpr c56; omega
          refine z_lload C dX1_isSolution_59 8 rfl ?_
          refine z_aload_n C dX1_isSolution_61 0 rfl ?_
          refine z_get (cl := vwCl) (T := TX1) (N := 13) (ci := 3) (ref := "IntervalSolverModel") C hinX1 rfl 2 (by decide) lk5 rfl dX1_isSolution_62 0 rfl rfl ?_
          refine z_iload C dX1_isSolution_65 7 rfl ?_
          refine z_iload C dX1_isSolution_67 9 rfl ?_
          refine z_callSi_none (As := [.int (nI i), .int (nI j)]) C (c1_at l D K (nI i) (nI j)) (va_cwS 2 C.1.2.2.2.2 gX1_isSolution_X1_at rfl rfl rfl (by decide +kernel) ⟨Nat.le_of_ble_eq_true rfl, Nat.le_of_ble_eq_true rfl⟩) dX1_isSolution_69 rfl rfl (Nat.le_of_ble_eq_true rfl) ⟨Nat.le_of_ble_eq_true rfl, Nat.le_of_ble_eq_true rfl⟩ (fun r1 u1 h1 => ?_)
          subst h1
          refine z_topi (nI (5 * i + j)) (at_eq rfl rfl) ?_
          refine z_iald C 0 rfl 1 rfl dX1_isSolution_72 (5 * i + j) rfl (by omega) (by decide) ?_
          refine z_topi (M i j) (fl5_at M i j (by omega)) ?_
          refine z_i2l C dX1_isSolution_73 ?_
          refine z_aload C dX1_isSolution_74 6 rfl ?_
          refine z_iload C dX1_isSolution_76 9 rfl ?_
          refine z_iald C 0 rfl 10 rfl dX1_isSolution_78 j rfl (by omega) (by omega) ?_
          refine z_i2l C dX1_isSolution_79 ?_
          refine z_lmul C dX1_isSolution_80 ?_
          refine z_ladd C dX1_isSolution_81 ?_
          refine z_lstore (lv' := [(0, .ref (b 0)), (1, .int p0), (2, .int p1), (3, .int p2), (4, .int p3), (5, .int p4), (6, .ref q), (7, .int (nI i)), (8, .long ((slS M (fun j => ((upd (upd (upd (upd (upd (fun _ => 0) 0 p0) 1 p1) 2 p2) 3 p3) 4 p4) j).toInt64) i j) + (((M i j).toInt64) * (((upd (upd (upd (upd (upd (fun _ => 0) 0 p0) 1 p1) 2 p2) 3 p3) 4 p4) j).toInt64)))), (10, .int (nI j))]) C dX1_isSolution_82 (by decide) [1, 2, 3, 4, 5, 6, 7, 8, 0, 9] rfl ?_
          refine z_iinc (v := nI (j + 1)) (lv' := [(0, .ref (b 0)), (1, .int p0), (2, .int p1), (3, .int p2), (4, .int p3), (5, .int p4), (6, .ref q), (7, .int (nI i)), (8, .long ((slS M (fun j => ((upd (upd (upd (upd (upd (fun _ => 0) 0 p0) 1 p1) 2 p2) 3 p3) 4 p4) j).toInt64) i j) + (((M i j).toInt64) * (((upd (upd (upd (upd (upd (fun _ => 0) 0 p0) 1 p1) 2 p2) 3 p3) 4 p4) j).toInt64)))), (10, .int (nI (j + 1)))]) C dX1_isSolution_84 (k := 9) rfl (nI_1 j) (by decide) [1, 2, 3, 4, 5, 6, 7, 8, 9, 0] rfl ?_
          refine z_goto (tgt := 50) C dX1_isSolution_87 (by decide) ?_
          exact ih50_j (j + 1) (by omega) (by omega) (by omega)

set_option maxRecDepth 100000 in
set_option maxHeartbeats 4000000 in
theorem c1_isDominant (l : Launch) (D : va_G) (K : Nat → ClassId) (b : Nat → Nat) (N : Nat) (M : Nat → Nat → Int32) (S : Nat → Nat → Int32) (rl : Nat → Int32) (rh : Nat → Int32) (bl : Nat → Int32) (bh : Nat → Int32) (th : Int32) (fl : Nat → Int32) (fh : Nat → Int32) (pt : Nat → Int64) (nu : Int64) (de : Int64) (hN : N ≤ 5) : mI l D K yX1_isDominant wsX1_isDominant 1 30 0 0 [.ref (b 0)] (w1 K b (N, M, S, rl, rh, bl, bh, th, fl, fh, pt, nu, de)) (fun r u => r = domR N M S ∧ u = (N, M, S, rl, rh, bl, bh, 0, fl, fh, pt, nu, de)) (w1 K b) := by
  have hinX1 : ∀ w ∈ wsX10, w ∈ wsX1_isDominant := by decide +kernel
  have lk0 : Cond.fieldLink RX1 45 "IntervalSolverModel" "thrown" "I" ∈ wsX1_isDominant := by decide +kernel
  have lk1 : Cond.fieldLink RX1 7 "IntervalSolverModel" "n" "I" ∈ wsX1_isDominant := by decide +kernel
  have lk2 : Cond.fieldLink RX1 13 "IntervalSolverModel" "a" "[I" ∈ wsX1_isDominant := by decide +kernel
  have lk3 : Cond.methodLink RX1 74 Lib.Math.abs.name ∈ wsX1_isDominant := by decide +kernel
  have lk4 : Cond.static Lib.Math.abs.name ∈ wsX1_isDominant := by decide +kernel
  have lk5 : Cond.initialized "java/lang/Math" ∈ wsX1_isDominant := by decide +kernel
  have lk6 : Cond.code Lib.Math.abs.name Lib.Math.abs.code 1 (some .int) ∈ wsX1_isDominant := by decide +kernel
  have lk7 : Cond.fieldLink RX1 17 "IntervalSolverModel" "spreads" "[I" ∈ wsX1_isDominant := by decide +kernel
  refine z_met_z (cc := cX1_isDominant) (maxL := 6) (own := RX1) (lv := [(0, .ref (b 0))]) (by decide) rfl rfl (Nat.le_of_ble_eq_true rfl) rfl ?_
  intro p e s m below meth c args Q A C hnm hend
  refine z_aload_n C dX1_isDominant_0 0 rfl ?_
  refine z_iconst (v := 0) C dX1_isDominant_1 (by decide) ?_
  refine z_put (cl := vwCl) (T := TX1) (N := 13) (ci := 3) (ref := "IntervalSolverModel") (ws' := w1 K b (N, M, S, rl, rh, bl, bh, 0, fl, fh, pt, nu, de)) C hinX1 tyX1 tyX1_ok nmX1 rfl 0 (by decide) lk0 rfl rfl rfl rfl dX1_isDominant_2 0 rfl (Nat.le_of_ble_eq_true rfl) rfl ?_
  refine z_iconst (v := 1) C dX1_isDominant_5 (by decide) ?_
  refine z_istore_n (lv' := [(0, .ref (b 0)), (1, .int 1)]) C dX1_isDominant_6 (by decide) [1, 0] rfl ?_
  refine z_iconst (v := 0) C dX1_isDominant_7 (by decide) ?_
  refine z_istore_n (lv' := [(0, .ref (b 0)), (1, .int 1), (2, .int 0)]) C dX1_isDominant_8 (by decide) [1, 2, 0] rfl ?_
  suffices L9 : ∀ (f9_i i : Nat) (v1 : Int32), 0 ≤ i → i ≤ N → N < i + f9_i → v1 = (if ∀ t, t < i → dgO M S t N < 100 * absI (M t t) - S t t then 1 else 0) → zW p l e { frames := 1, cells := 0, slots := 0, locals := 30 } s m args below meth c Q 6 A s.heap D vwCl 0 0 (w1 K b (N, M, S, rl, rh, bl, bh, 0, fl, fh, pt, nu, de)) 9 ([(0, .ref (b 0)), (1, .int v1), (2, .int (nI i))]) [] from L9 (N + 1) 0 1 (Nat.le_refl _) (by omega) (by omega) rfl
  intro f9_i
  induction f9_i with
  | zero => intro i v1 h0 h1 h2; exact absurd h2 (by omega)
  | succ f9_i ih9_i =>
    intro i v1 g9_0 g9_1 g9_2 hv
    refine z_iload_n C dX1_isDominant_9 2 rfl ?_
    refine z_aload_n C dX1_isDominant_10 0 rfl ?_
    refine z_get (cl := vwCl) (T := TX1) (N := 13) (ci := 3) (ref := "IntervalSolverModel") C hinX1 rfl 1 (by decide) lk1 rfl dX1_isDominant_11 0 rfl rfl ?_
    refine z_icmp_ge (tgt := 128) C dX1_isDominant_14 (by decide) (fun c14 => ?_) (fun c14 => ?_)
    · have e14 : i = N := by have := (nI_leI (a := N) (b := i) (by omega) (by omega)).mp c14; omega
      rw [e14]
      rw [e14] at hv
      refine z_iload_n C dX1_isDominant_128 1 rfl ?_
      exact hend _ _ _ _ _ (N, M, S, rl, rh, bl, bh, 0, fl, fh, pt, nu, de) dX1_isDominant_129 (Nat.zero_le _) (Nat.zero_le _) (by rw [hv]; by_cases z : (∀ t, t < N → dgO M S t N < 100 * absI (M t t) - S t t); exact Or.inr (if_pos z); exact Or.inl (if_neg z)) ⟨hv, rfl⟩
    · have e14 : i < N := by have := mt (nI_leI (a := N) (b := i) (by omega) (by omega)).mpr c14; omega
      refine z_bipush (v := 100) C dX1_isDominant_17 (by decide) ?_
      refine z_aload_n C dX1_isDominant_19 0 rfl ?_
      refine z_get (cl := vwCl) (T := TX1) (N := 13) (ci := 3) (ref := "IntervalSolverModel") C hinX1 rfl 2 (by decide) lk2 rfl dX1_isDominant_20 0 rfl rfl ?_
      refine z_iload_n C dX1_isDominant_23 2 rfl ?_
      refine z_iload_n C dX1_isDominant_24 2 rfl ?_
      refine z_callSi_none (As := [.int (nI i), .int (nI i)]) C (c1_at l D K (nI i) (nI i)) (va_cwS 2 C.1.2.2.2.2 gX1_isDominant_X1_at rfl rfl rfl (by decide +kernel) ⟨Nat.le_of_ble_eq_true rfl, Nat.le_of_ble_eq_true rfl⟩) dX1_isDominant_25 rfl rfl (Nat.le_of_ble_eq_true rfl) ⟨Nat.le_of_ble_eq_true rfl, Nat.le_of_ble_eq_true rfl⟩ (fun r1 u1 h1 => ?_)
      subst h1
      refine z_topi (nI (5 * i + i)) (at_eq rfl rfl) ?_
      refine z_iald C 0 rfl 1 rfl dX1_isDominant_28 (5 * i + i) rfl (by omega) (by decide) ?_
      refine z_topi (M i i) (fl5_at M i i (by omega)) ?_
      refine z_mabs C lk3 lk4 lk5 lk6 (Nat.le_of_ble_eq_true rfl) (Nat.le_of_ble_eq_true rfl) (Nat.le_of_ble_eq_true rfl) (Nat.le_of_ble_eq_true rfl) dX1_isDominant_29 ?_
      refine z_topi (absI (M i i)) rfl ?_
      refine z_imul C dX1_isDominant_32 ?_
      refine z_aload_n C dX1_isDominant_33 0 rfl ?_
      refine z_get (cl := vwCl) (T := TX1) (N := 13) (ci := 3) (ref := "IntervalSolverModel") C hinX1 rfl 3 (by decide) lk7 rfl dX1_isDominant_34 0 rfl rfl ?_
      refine z_iload_n C dX1_isDominant_37 2 rfl ?_
      refine z_iload_n C dX1_isDominant_38 2 rfl ?_
      refine z_callSi_none (As := [.int (nI i), .int (nI i)]) C (c1_at l D K (nI i) (nI i)) (va_cwS 2 C.1.2.2.2.2 gX1_isDominant_X1_at rfl rfl rfl (by decide +kernel) ⟨Nat.le_of_ble_eq_true rfl, Nat.le_of_ble_eq_true rfl⟩) dX1_isDominant_39 rfl rfl (Nat.le_of_ble_eq_true rfl) ⟨Nat.le_of_ble_eq_true rfl, Nat.le_of_ble_eq_true rfl⟩ (fun r2 u2 h2 => ?_)
      subst h2
      refine z_topi (nI (5 * i + i)) (at_eq rfl rfl) ?_
      refine z_iald C 0 rfl 2 rfl dX1_isDominant_42 (5 * i + i) rfl (by omega) (by decide) ?_
      refine z_topi (S i i) (fl5_at S i i (by omega)) ?_
      refine z_isub C dX1_isDominant_43 ?_
      refine z_istore_n (lv' := [(0, .ref (b 0)), (1, .int v1), (2, .int (nI i)), (3, .int ((100 * (absI (M i i))) - (S i i)))]) C dX1_isDominant_44 (by decide) [1, 2, 3, 0] rfl ?_
      refine z_iconst (v := 0) C dX1_isDominant_45 (by decide) ?_
      refine z_istore (lv' := [(0, .ref (b 0)), (1, .int v1), (2, .int (nI i)), (3, .int ((100 * (absI (M i i))) - (S i i))), (4, .int 0)]) C dX1_isDominant_46 (by decide) [1, 2, 3, 4, 0] rfl ?_
      refine z_iconst (v := 0) C dX1_isDominant_48 (by decide) ?_
      refine z_istore (lv' := [(0, .ref (b 0)), (1, .int v1), (2, .int (nI i)), (3, .int ((100 * (absI (M i i))) - (S i i))), (4, .int 0), (5, .int 0)]) C dX1_isDominant_49 (by decide) [1, 2, 3, 4, 5, 0] rfl ?_
      suffices L51 : ∀ (f51_j j : Nat), 0 ≤ j → j ≤ N → N < j + f51_j → zW p l e { frames := 1, cells := 0, slots := 0, locals := 30 } s m args below meth c Q 6 A s.heap D vwCl 0 0 (w1 K b (N, M, S, rl, rh, bl, bh, 0, fl, fh, pt, nu, de)) 51 ([(0, .ref (b 0)), (1, .int v1), (2, .int (nI i)), (3, .int ((100 * (absI (M i i))) - (S i i))), (4, .int (dgO M S i j)), (5, .int (nI j))]) [] from L51 (N + 1) 0 (Nat.le_refl _) (by omega) (by omega)
      intro f51_j
      induction f51_j with
      | zero => intro j h0 h1 h2; exact absurd h2 (by omega)
      | succ f51_j ih51_j =>
        intro j g51_0 g51_1 g51_2
        refine z_iload C dX1_isDominant_51 5 rfl ?_
        refine z_aload_n C dX1_isDominant_53 0 rfl ?_
        refine z_get (cl := vwCl) (T := TX1) (N := 13) (ci := 3) (ref := "IntervalSolverModel") C hinX1 rfl 1 (by decide) lk1 rfl dX1_isDominant_54 0 rfl rfl ?_
        refine z_icmp_ge (tgt := 106) C dX1_isDominant_57 (by decide) (fun c57 => ?_) (fun c57 => ?_)
        · have e57 : j = N := by have := (nI_leI (a := N) (b := j) (by omega) (by omega)).mp c57; omega
          rw [e57]
          refine z_iload_n C dX1_isDominant_106 1 rfl ?_
          refine z_if_eq (tgt := 120) C dX1_isDominant_107 (by decide) (fun c107 => ?_) (fun c107 => ?_)
          · refine z_iconst (v := 0) C dX1_isDominant_120 (by decide) ?_
            refine z_istore_n (lv' := [(0, .ref (b 0)), (1, .int 0), (2, .int (nI i)), (3, .int ((100 * (absI (M i i))) - (S i i))), (4, .int (dgO M S i N)), (5, .int (nI N))]) C dX1_isDominant_121 (by decide) [1, 0, 2, 3, 4, 5] rfl ?_
            refine z_iinc (v := nI (i + 1)) (lv' := [(0, .ref (b 0)), (1, .int 0), (2, .int (nI (i + 1))), (3, .int ((100 * (absI (M i i))) - (S i i))), (4, .int (dgO M S i N)), (5, .int (nI N))]) C dX1_isDominant_122 (k := 2) rfl (nI_1 i) (by decide) [1, 2, 0, 3, 4, 5] rfl ?_
            refine z_goto (tgt := 9) C dX1_isDominant_125 (by decide) ?_
            refine z_lv (lv' := [(0, .ref (b 0)), (1, .int 0), (2, .int (nI (i + 1)))]) [0, 1, 2] rfl ?_
            exact ih9_i (i + 1) 0 (by omega) (by omega) (by omega) (all_f hv (by first | exact Or.inl c107 | exact Or.inr (Int32.not_lt.mpr c113)))
          · refine z_iload_n C dX1_isDominant_110 3 rfl ?_
            refine z_iload C dX1_isDominant_111 4 rfl ?_
            refine z_icmp_le (tgt := 120) C dX1_isDominant_113 (by decide) (fun c113 => ?_) (fun c113 => ?_)
            · refine z_iconst (v := 0) C dX1_isDominant_120 (by decide) ?_
              refine z_istore_n (lv' := [(0, .ref (b 0)), (1, .int 0), (2, .int (nI i)), (3, .int ((100 * (absI (M i i))) - (S i i))), (4, .int (dgO M S i N)), (5, .int (nI N))]) C dX1_isDominant_121 (by decide) [1, 0, 2, 3, 4, 5] rfl ?_
              refine z_iinc (v := nI (i + 1)) (lv' := [(0, .ref (b 0)), (1, .int 0), (2, .int (nI (i + 1))), (3, .int ((100 * (absI (M i i))) - (S i i))), (4, .int (dgO M S i N)), (5, .int (nI N))]) C dX1_isDominant_122 (k := 2) rfl (nI_1 i) (by decide) [1, 2, 0, 3, 4, 5] rfl ?_
              refine z_goto (tgt := 9) C dX1_isDominant_125 (by decide) ?_
              refine z_lv (lv' := [(0, .ref (b 0)), (1, .int 0), (2, .int (nI (i + 1)))]) [0, 1, 2] rfl ?_
              exact ih9_i (i + 1) 0 (by omega) (by omega) (by omega) (all_f hv (by first | exact Or.inl c107 | exact Or.inr (Int32.not_lt.mpr c113)))
            · refine z_iconst (v := 1) C dX1_isDominant_116 (by decide) ?_
              refine z_goto (tgt := 121) C dX1_isDominant_117 (by decide) ?_
              refine z_istore_n (lv' := [(0, .ref (b 0)), (1, .int 1), (2, .int (nI i)), (3, .int ((100 * (absI (M i i))) - (S i i))), (4, .int (dgO M S i N)), (5, .int (nI N))]) C dX1_isDominant_121 (by decide) [1, 0, 2, 3, 4, 5] rfl ?_
              refine z_iinc (v := nI (i + 1)) (lv' := [(0, .ref (b 0)), (1, .int 1), (2, .int (nI (i + 1))), (3, .int ((100 * (absI (M i i))) - (S i i))), (4, .int (dgO M S i N)), (5, .int (nI N))]) C dX1_isDominant_122 (k := 2) rfl (nI_1 i) (by decide) [1, 2, 0, 3, 4, 5] rfl ?_
              refine z_goto (tgt := 9) C dX1_isDominant_125 (by decide) ?_
              refine z_lv (lv' := [(0, .ref (b 0)), (1, .int 1), (2, .int (nI (i + 1)))]) [0, 1, 2] rfl ?_
              exact ih9_i (i + 1) 1 (by omega) (by omega) (by omega) (all_s hv c107 (Int32.not_le.mp c113))
        · have e57 : j < N := by have := mt (nI_leI (a := N) (b := j) (by omega) (by omega)).mpr c57; omega
          refine z_iload C dX1_isDominant_60 5 rfl ?_
          refine z_iload_n C dX1_isDominant_62 2 rfl ?_
          refine z_icmp_eq (tgt := 100) C dX1_isDominant_63 (by decide) (fun c63 => ?_) (fun c63 => ?_)
          · have e63 : j = i := (nI_eq (by omega) (by omega)).mp c63
            rw [show dgO M S i j = dgO M S i (j + 1) from (if_pos e63).symm]
            refine z_iinc (v := nI (j + 1)) (lv' := [(0, .ref (b 0)), (1, .int v1), (2, .int (nI i)), (3, .int ((100 * (absI (M i i))) - (S i i))), (4, .int (dgO M S i (j + 1))), (5, .int (nI (j + 1)))]) C dX1_isDominant_100 (k := 5) rfl (nI_1 j) (by decide) [1, 2, 3, 4, 5, 0] rfl ?_
            refine z_goto (tgt := 51) C dX1_isDominant_103 (by decide) ?_
            exact ih51_j (j + 1) (by omega) (by omega) (by omega)
          · have e63 : ¬ j = i := fun q => c63 (by rw [q])
            refine z_iload C dX1_isDominant_66 4 rfl ?_
            refine z_bipush (v := 100) C dX1_isDominant_68 (by decide) ?_
            refine z_aload_n C dX1_isDominant_70 0 rfl ?_
            refine z_get (cl := vwCl) (T := TX1) (N := 13) (ci := 3) (ref := "IntervalSolverModel") C hinX1 rfl 2 (by decide) lk2 rfl dX1_isDominant_71 0 rfl rfl ?_
            refine z_iload_n C dX1_isDominant_74 2 rfl ?_
            refine z_iload C dX1_isDominant_75 5 rfl ?_
            refine z_callSi_none (As := [.int (nI i), .int (nI j)]) C (c1_at l D K (nI i) (nI j)) (va_cwS 2 C.1.2.2.2.2 gX1_isDominant_X1_at rfl rfl rfl (by decide +kernel) ⟨Nat.le_of_ble_eq_true rfl, Nat.le_of_ble_eq_true rfl⟩) dX1_isDominant_77 rfl rfl (Nat.le_of_ble_eq_true rfl) ⟨Nat.le_of_ble_eq_true rfl, Nat.le_of_ble_eq_true rfl⟩ (fun r3 u3 h3 => ?_)
            subst h3
            refine z_topi (nI (5 * i + j)) (at_eq rfl rfl) ?_
            refine z_iald C 0 rfl 1 rfl dX1_isDominant_80 (5 * i + j) rfl (by omega) (by decide) ?_
            refine z_topi (M i j) (fl5_at M i j (by omega)) ?_
            refine z_mabs C lk3 lk4 lk5 lk6 (Nat.le_of_ble_eq_true rfl) (Nat.le_of_ble_eq_true rfl) (Nat.le_of_ble_eq_true rfl) (Nat.le_of_ble_eq_true rfl) dX1_isDominant_81 ?_
            refine z_topi (absI (M i j)) rfl ?_
            refine z_imul C dX1_isDominant_84 ?_
            refine z_aload_n C dX1_isDominant_85 0 rfl ?_
            refine z_get (cl := vwCl) (T := TX1) (N := 13) (ci := 3) (ref := "IntervalSolverModel") C hinX1 rfl 3 (by decide) lk7 rfl dX1_isDominant_86 0 rfl rfl ?_
            refine z_iload_n C dX1_isDominant_89 2 rfl ?_
            refine z_iload C dX1_isDominant_90 5 rfl ?_
            refine z_callSi_none (As := [.int (nI i), .int (nI j)]) C (c1_at l D K (nI i) (nI j)) (va_cwS 2 C.1.2.2.2.2 gX1_isDominant_X1_at rfl rfl rfl (by decide +kernel) ⟨Nat.le_of_ble_eq_true rfl, Nat.le_of_ble_eq_true rfl⟩) dX1_isDominant_92 rfl rfl (Nat.le_of_ble_eq_true rfl) ⟨Nat.le_of_ble_eq_true rfl, Nat.le_of_ble_eq_true rfl⟩ (fun r4 u4 h4 => ?_)
            subst h4
            refine z_topi (nI (5 * i + j)) (at_eq rfl rfl) ?_
            refine z_iald C 0 rfl 2 rfl dX1_isDominant_95 (5 * i + j) rfl (by omega) (by decide) ?_
            refine z_topi (S i j) (fl5_at S i j (by omega)) ?_
            refine z_iadd C dX1_isDominant_96 ?_
            refine z_iadd C dX1_isDominant_97 ?_
            refine z_topi (dgO M S i (j + 1)) (if_neg e63).symm ?_
            refine z_istore (lv' := [(0, .ref (b 0)), (1, .int v1), (2, .int (nI i)), (3, .int ((100 * (absI (M i i))) - (S i i))), (4, .int (dgO M S i (j + 1))), (5, .int (nI j))]) C dX1_isDominant_98 (by decide) [1, 2, 3, 4, 0, 5] rfl ?_
            refine z_iinc (v := nI (j + 1)) (lv' := [(0, .ref (b 0)), (1, .int v1), (2, .int (nI i)), (3, .int ((100 * (absI (M i i))) - (S i i))), (4, .int (dgO M S i (j + 1))), (5, .int (nI (j + 1)))]) C dX1_isDominant_100 (k := 5) rfl (nI_1 j) (by decide) [1, 2, 3, 4, 5, 0] rfl ?_
            refine z_goto (tgt := 51) C dX1_isDominant_103 (by decide) ?_
            exact ih51_j (j + 1) (by omega) (by omega) (by omega)
