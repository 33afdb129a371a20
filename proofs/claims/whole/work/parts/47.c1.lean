set_option maxRecDepth 100000 in
set_option maxHeartbeats 4000000 in
theorem c1_determinant (l : Launch) (D : va_G) (K : Nat → ClassId) (b : Nat → Nat) (N : Nat) (M : Nat → Nat → Int32) (S : Nat → Nat → Int32) (rl : Nat → Int32) (rh : Nat → Int32) (bl : Nat → Int32) (bh : Nat → Int32) (th : Int32) (fl : Nat → Int32) (fh : Nat → Int32) (pt : Nat → Int64) (nu : Int64) (de : Int64) (hN : N ≤ 5) : mL l D K yX1_determinant wsX1_determinant 2 50 0 0 [.ref (b 0)] (w1 K b (N, M, S, rl, rh, bl, bh, th, fl, fh, pt, nu, de)) (fun r u => r = detM M N ∧ ∃ pt1, u = (N, M, S, rl, rh, bl, bh, 0, fl, fh, pt1, nu, de)) (w1 K b) := by
  have hinX1 : ∀ w ∈ wsX10, w ∈ wsX1_determinant := by decide +kernel
  have lk0 : Cond.fieldLink RX1 45 "IntervalSolverModel" "thrown" "I" ∈ wsX1_determinant := by decide +kernel
  refine z_met_l (cc := cX1_determinant) (maxL := 1) (own := RX1) (lv := [(0, .ref (b 0))]) (by decide) rfl rfl (Nat.le_of_ble_eq_true rfl) rfl ?_
  intro p e s m below meth c args Q A C hnm hend
  refine z_aload_n C dX1_determinant_0 0 rfl ?_
  refine z_iconst (v := 0) C dX1_determinant_1 (by decide) ?_
  refine z_put (cl := vwCl) (T := TX1) (N := 13) (ci := 3) (ref := "IntervalSolverModel") (ws' := w1 K b (N, M, S, rl, rh, bl, bh, 0, fl, fh, pt, nu, de)) C hinX1 tyX1 tyX1_ok nmX1 rfl 0 (by decide) lk0 rfl rfl rfl rfl dX1_determinant_2 0 rfl (Nat.le_of_ble_eq_true rfl) rfl ?_
  refine z_aload_n C dX1_determinant_5 0 rfl ?_
  refine z_iconst (v := -1) C dX1_determinant_6 (by decide) ?_
  refine z_iconst (v := -1) C dX1_determinant_7 (by decide) ?_
  refine z_callVl_all (As := [.int (-1), .int (-1)]) C (c1_determinantWithout l D K b N M S rl rh bl bh 0 fl fh pt nu de (-1) (-1) N 5 (by omega) (Or.inl ⟨rfl, rfl, rfl, rfl⟩)) (cwV 2 C.1.2.2.2.2 gX1_determinant_X1_determinantWithout rfl rfl rfl (by decide +kernel) ⟨Nat.le_of_ble_eq_true rfl, Nat.le_of_ble_eq_true rfl⟩) (ci := 3) rfl rfl 0 rfl dX1_determinant_8 rfl rfl (Nat.le_of_ble_eq_true rfl) ⟨Nat.le_of_ble_eq_true rfl, Nat.le_of_ble_eq_true rfl⟩ (fun r1 u1 h1 => ?_)
  obtain ⟨hr, pt_1, rfl⟩ := h1
  have hr_1 : r1 = detM M N := (hr.trans (congrArg _ (if_pos rfl))); clear hr; subst hr_1
  exact hend _ _ _ _ _ (N, M, S, rl, rh, bl, bh, 0, fl, fh, pt_1, nu, de) dX1_determinant_11 (Nat.zero_le _) (Nat.zero_le _) ⟨rfl, _, rfl⟩

set_option maxRecDepth 100000 in
set_option maxHeartbeats 4000000 in
theorem c1_cofactor (l : Launch) (D : va_G) (K : Nat → ClassId) (b : Nat → Nat) (N : Nat) (M : Nat → Nat → Int32) (S : Nat → Nat → Int32) (rl : Nat → Int32) (rh : Nat → Int32) (bl : Nat → Int32) (bh : Nat → Int32) (th : Int32) (fl : Nat → Int32) (fh : Nat → Int32) (pt : Nat → Int64) (nu : Int64) (de : Int64) (i : Nat) (j : Nat) (hi : i < N) (hj : j < N) (hN : N ≤ 5) : mL l D K yX1_cofactor wsX1_cofactor 2 50 0 0 [.ref (b 0), .int (nI i), .int (nI j)] (w1 K b (N, M, S, rl, rh, bl, bh, th, fl, fh, pt, nu, de)) (fun r u => r = cofM M N i j ∧ ∃ pt1, u = (N, M, S, rl, rh, bl, bh, th, fl, fh, pt1, nu, de)) (w1 K b) := by
  have hinX1 : ∀ w ∈ wsX10, w ∈ wsX1_cofactor := by decide +kernel
  refine z_met_l (cc := cX1_cofactor) (maxL := 3) (own := RX1) (lv := [(0, .ref (b 0)), (1, .int (nI i)), (2, .int (nI j))]) (by decide) rfl rfl (Nat.le_of_ble_eq_true rfl) rfl ?_
  intro p e s m below meth c args Q A C hnm hend
  refine z_iload_n C dX1_cofactor_0 1 rfl ?_
  refine z_iload_n C dX1_cofactor_1 2 rfl ?_
  refine z_iadd C dX1_cofactor_2 ?_
  refine z_iconst (v := 2) C dX1_cofactor_3 (by decide) ?_
  refine z_irem C dX1_cofactor_4 (by decide) ?_
  refine z_if_ne (tgt := 17) C dX1_cofactor_5 (by decide) (fun c5 => ?_) (fun c5 => ?_)
  · have q5 := mt (par_ij i (by omega) j (by omega)).mpr c5
    refine z_aload_n C dX1_cofactor_17 0 rfl ?_
    refine z_iload_n C dX1_cofactor_18 2 rfl ?_
    refine z_iload_n C dX1_cofactor_19 1 rfl ?_
    refine z_callVl_all (As := [.int (nI j), .int (nI i)]) C (c1_determinantWithout l D K b N M S rl rh bl bh th fl fh pt nu de (nI j) (nI i) j i (by omega) (Or.inr ⟨rfl, rfl, by omega, by omega⟩)) (cwV 2 C.1.2.2.2.2 gX1_cofactor_X1_determinantWithout rfl rfl rfl (by decide +kernel) ⟨Nat.le_of_ble_eq_true rfl, Nat.le_of_ble_eq_true rfl⟩) (ci := 3) rfl rfl 0 rfl dX1_cofactor_20 rfl rfl (Nat.le_of_ble_eq_true rfl) ⟨Nat.le_of_ble_eq_true rfl, Nat.le_of_ble_eq_true rfl⟩ (fun r1 u1 h1 => ?_)
    obtain ⟨hr, pt_1, rfl⟩ := h1
    have hr_1 : r1 = mnF M N j ((2 ^ N - 1) ^^^ 2 ^ i) := (hr.trans (congrArg _ (if_neg (by omega)))); clear hr; subst hr_1
    refine z_lneg C dX1_cofactor_23 ?_
    exact hend _ _ _ _ _ (N, M, S, rl, rh, bl, bh, th, fl, fh, pt_1, nu, de) dX1_cofactor_24 (Nat.zero_le _) (Nat.zero_le _) ⟨by unfold cofM; first | rw [if_pos q5] | rw [if_neg q5], _, rfl⟩
  · have q5 := (par_ij i (by omega) j (by omega)).mp (c5)
    refine z_aload_n C dX1_cofactor_8 0 rfl ?_
    refine z_iload_n C dX1_cofactor_9 2 rfl ?_
    refine z_iload_n C dX1_cofactor_10 1 rfl ?_
    refine z_callVl_all (As := [.int (nI j), .int (nI i)]) C (c1_determinantWithout l D K b N M S rl rh bl bh th fl fh pt nu de (nI j) (nI i) j i (by omega) (Or.inr ⟨rfl, rfl, by omega, by omega⟩)) (cwV 2 C.1.2.2.2.2 gX1_cofactor_X1_determinantWithout rfl rfl rfl (by decide +kernel) ⟨Nat.le_of_ble_eq_true rfl, Nat.le_of_ble_eq_true rfl⟩) (ci := 3) rfl rfl 0 rfl dX1_cofactor_11 rfl rfl (Nat.le_of_ble_eq_true rfl) ⟨Nat.le_of_ble_eq_true rfl, Nat.le_of_ble_eq_true rfl⟩ (fun r2 u2 h2 => ?_)
    obtain ⟨hr, pt_2, rfl⟩ := h2
    have hr_2 : r2 = mnF M N j ((2 ^ N - 1) ^^^ 2 ^ i) := (hr.trans (congrArg _ (if_neg (by omega)))); clear hr; subst hr_2
    refine z_goto (tgt := 24) C dX1_cofactor_14 (by decide) ?_
    exact hend _ _ _ _ _ (N, M, S, rl, rh, bl, bh, th, fl, fh, pt_2, nu, de) dX1_cofactor_24 (Nat.zero_le _) (Nat.zero_le _) ⟨by unfold cofM; first | rw [if_pos q5] | rw [if_neg q5], _, rfl⟩

set_option maxRecDepth 100000 in
set_option maxHeartbeats 4000000 in
theorem c1_isSingular (l : Launch) (D : va_G) (K : Nat → ClassId) (b : Nat → Nat) (N : Nat) (M : Nat → Nat → Int32) (S : Nat → Nat → Int32) (rl : Nat → Int32) (rh : Nat → Int32) (bl : Nat → Int32) (bh : Nat → Int32) (th : Int32) (fl : Nat → Int32) (fh : Nat → Int32) (pt : Nat → Int64) (nu : Int64) (de : Int64) (hN : N ≤ 5) : mI l D K yX1_isSingular wsX1_isSingular 2 50 0 0 [.ref (b 0)] (w1 K b (N, M, S, rl, rh, bl, bh, th, fl, fh, pt, nu, de)) (fun r u => r = (if detM M N = 0 then 1 else 0) ∧ ∃ pt1, u = (N, M, S, rl, rh, bl, bh, th, fl, fh, pt1, nu, de)) (w1 K b) := by
  have hinX1 : ∀ w ∈ wsX10, w ∈ wsX1_isSingular := by decide +kernel
  refine z_met_z (cc := cX1_isSingular) (maxL := 1) (own := RX1) (lv := [(0, .ref (b 0))]) (by decide) rfl rfl (Nat.le_of_ble_eq_true rfl) rfl ?_
  intro p e s m below meth c args Q A C hnm hend
  refine z_aload_n C dX1_isSingular_0 0 rfl ?_
  refine z_iconst (v := -1) C dX1_isSingular_1 (by decide) ?_
  refine z_iconst (v := -1) C dX1_isSingular_2 (by decide) ?_
  refine z_callVl_all (As := [.int (-1), .int (-1)]) C (c1_determinantWithout l D K b N M S rl rh bl bh th fl fh pt nu de (-1) (-1) N 5 (by omega) (Or.inl ⟨rfl, rfl, rfl, rfl⟩)) (cwV 2 C.1.2.2.2.2 gX1_isSingular_X1_determinantWithout rfl rfl rfl (by decide +kernel) ⟨Nat.le_of_ble_eq_true rfl, Nat.le_of_ble_eq_true rfl⟩) (ci := 3) rfl rfl 0 rfl dX1_isSingular_3 rfl rfl (Nat.le_of_ble_eq_true rfl) ⟨Nat.le_of_ble_eq_true rfl, Nat.le_of_ble_eq_true rfl⟩ (fun r1 u1 h1 => ?_)
  obtain ⟨hr, pt_1, rfl⟩ := h1
  have hr_1 : r1 = detM M N := (hr.trans (congrArg _ (if_pos rfl))); clear hr; subst hr_1
  refine z_lconst (v := 0) C dX1_isSingular_6 (by decide) ?_
  refine z_lcmp_ne (tgt := 15) C dX1_isSingular_7 dX1_isSingular_8 (by decide) (fun c7 => ?_) (fun c7 => ?_)
  · refine z_iconst (v := 0) C dX1_isSingular_15 (by decide) ?_
    exact hend _ _ _ _ _ (N, M, S, rl, rh, bl, bh, th, fl, fh, pt_1, nu, de) dX1_isSingular_16 (Nat.zero_le _) (Nat.zero_le _) (Or.inl rfl) ⟨by first | rw [if_pos c7] | rw [if_neg c7], _, rfl⟩
  · refine z_iconst (v := 1) C dX1_isSingular_11 (by decide) ?_
    refine z_goto (tgt := 16) C dX1_isSingular_12 (by decide) ?_
    exact hend _ _ _ _ _ (N, M, S, rl, rh, bl, bh, th, fl, fh, pt_1, nu, de) dX1_isSingular_16 (Nat.zero_le _) (Nat.zero_le _) (Or.inr rfl) ⟨by first | rw [if_pos c7] | rw [if_neg c7], _, rfl⟩

set_option maxRecDepth 100000 in
set_option maxHeartbeats 4000000 in
theorem c1_reduce (l : Launch) (D : va_G) (K : Nat → ClassId) (b : Nat → Nat) (N : Nat) (M : Nat → Nat → Int32) (S : Nat → Nat → Int32) (rl : Nat → Int32) (rh : Nat → Int32) (bl : Nat → Int32) (bh : Nat → Int32) (th : Int32) (fl : Nat → Int32) (fh : Nat → Int32) (pt : Nat → Int64) (nu : Int64) (de : Int64) (p0 : Int64) (p1 : Int64) (h1 : 0 ≤ absL p0) (h2 : 0 < absL p1) : mV l D K yX1_reduce wsX1_reduce 1 30 0 0 [.ref (b 0), .long p0, .long p1] (w1 K b (N, M, S, rl, rh, bl, bh, th, fl, fh, pt, nu, de)) (fun u => u = (N, M, S, rl, rh, bl, bh, th, fl, fh, pt, rdN p0 p1, rdD p0 p1)) (w1 K b) := by
  have hinX1 : ∀ w ∈ wsX10, w ∈ wsX1_reduce := by decide +kernel
  have lk0 : Cond.methodLink RX1 84 Lib.MathLoose.abs_long.x ∈ wsX1_reduce := by decide +kernel
  have lk1 : Cond.static Lib.MathLoose.abs_long.x ∈ wsX1_reduce := by decide +kernel
  have lk2 : Cond.initialized "java/lang/Math" ∈ wsX1_reduce := by decide +kernel
  have lk3 : Cond.code Lib.MathLoose.abs_long.x Lib.MathLoose.abs_long.code 2 (some .long) ∈ wsX1_reduce := by decide +kernel
  have lk4 : Cond.fieldLink RX1 87 "IntervalSolverModel" "numerator" "J" ∈ wsX1_reduce := by decide +kernel
  have lk5 : Cond.fieldLink RX1 91 "IntervalSolverModel" "denominator" "J" ∈ wsX1_reduce := by decide +kernel
  refine z_met_v (cc := cX1_reduce) (maxL := 11) (own := RX1) (lv := [(0, .ref (b 0)), (1, .long p0), (3, .long p1)]) (by decide) rfl rfl (Nat.le_of_ble_eq_true rfl) rfl ?_
  intro p e s m below meth c args Q A C hnm hend
  refine z_lload_n C dX1_reduce_0 1 rfl ?_
  refine z_mabsL C lk0 lk1 lk2 lk3 (Nat.le_of_ble_eq_true rfl) (Nat.le_of_ble_eq_true rfl) (Nat.le_of_ble_eq_true rfl) (Nat.le_of_ble_eq_true rfl) dX1_reduce_1 ?_
  refine z_topl (absL p0) rfl ?_
  refine z_lstore (lv' := [(0, .ref (b 0)), (1, .long p0), (3, .long p1), (5, .long (absL p0))]) C dX1_reduce_4 (by decide) [1, 2, 3, 0] rfl ?_
  refine z_lload_n C dX1_reduce_6 2 rfl ?_
  refine z_mabsL C lk0 lk1 lk2 lk3 (Nat.le_of_ble_eq_true rfl) (Nat.le_of_ble_eq_true rfl) (Nat.le_of_ble_eq_true rfl) (Nat.le_of_ble_eq_true rfl) dX1_reduce_7 ?_
  refine z_topl (absL p1) rfl ?_
  refine z_lstore (lv' := [(0, .ref (b 0)), (1, .long p0), (3, .long p1), (5, .long (absL p0)), (7, .long (absL p1))]) C dX1_reduce_10 (by decide) [1, 2, 3, 4, 0] rfl ?_
  obtain ⟨g0, g1, g2, g3, g4, g5⟩ := gcN_ok h1 h2
  suffices L12 : ∀ (f12 : Nat) (x y : Nat), y < f12 → x < 2 ^ 63 → y < 2 ^ 63 → Nat.gcd x y = Nat.gcd (absL p0).toNatClampNeg (absL p1).toNatClampNeg → zW p l e { frames := 1, cells := 0, slots := 0, locals := 30 } s m args below meth c Q 11 A s.heap D vwCl 0 0 (w1 K b (N, M, S, rl, rh, bl, bh, th, fl, fh, pt, nu, de)) 12 ([(0, .ref (b 0)), (1, .long p0), (3, .long p1), (5, .long (jL x)), (7, .long (jL y))]) [] from by
    have h9 := L12 ((absL p1).toNatClampNeg + 1) (absL p0).toNatClampNeg (absL p1).toNatClampNeg (Nat.lt_succ_self _) g3 g2 rfl
    rw [g4, g5] at h9; exact h9
  intro f12
  induction f12 with
  | zero => intro x y h0; exact absurd h0 (Nat.not_lt_zero _)
  | succ f12 ih12 =>
    intro x y k0 k1 k2 k3
    refine z_lload C dX1_reduce_12 4 rfl ?_
    refine z_lconst (v := 0) C dX1_reduce_14 (by decide) ?_
    refine z_lcmp_eq (tgt := 37) C dX1_reduce_15 dX1_reduce_16 (by decide) (fun c15 => ?_) (fun c15 => ?_)
    · have e15 : y = 0 := (jL_0 k2).mp c15
      have hx : x = Nat.gcd (absL p0).toNatClampNeg (absL p1).toNatClampNeg := by rw [e15, Nat.gcd_zero_right] at k3; exact k3
      have hgz : ¬ gcN p0 p1 = 0 := fun q => by have := (jL_0 (by omega)).mp q; omega
      rw [hx]
      refine z_aload_n C dX1_reduce_37 0 rfl ?_
      refine z_lload_n C dX1_reduce_38 2 rfl ?_
      refine z_lconst (v := 0) C dX1_reduce_39 (by decide) ?_
      refine z_lcmp_ge (tgt := 49) C dX1_reduce_40 dX1_reduce_41 (by decide) (fun c40 => ?_) (fun c40 => ?_)
      · refine z_lload_n C dX1_reduce_49 1 rfl ?_
        refine z_lload C dX1_reduce_50 3 rfl ?_
        refine z_ldiv C dX1_reduce_52 hgz ?_
        refine z_topl (rdN p0 p1) (by unfold rdN; rw [if_neg c40]; rfl) ?_
        refine z_put (cl := vwCl) (T := TX1) (N := 13) (ci := 3) (ref := "IntervalSolverModel") (ws' := w1 K b (N, M, S, rl, rh, bl, bh, th, fl, fh, pt, rdN p0 p1, de)) C hinX1 tyX1 tyX1_ok nmX1 rfl 11 (by decide) lk4 rfl rfl rfl rfl dX1_reduce_53 0 rfl (Nat.le_of_ble_eq_true rfl) rfl ?_
        refine z_aload_n C dX1_reduce_56 0 rfl ?_
        refine z_lload_n C dX1_reduce_57 2 rfl ?_
        refine z_mabsL C lk0 lk1 lk2 lk3 (Nat.le_of_ble_eq_true rfl) (Nat.le_of_ble_eq_true rfl) (Nat.le_of_ble_eq_true rfl) (Nat.le_of_ble_eq_true rfl) dX1_reduce_58 ?_
        refine z_topl (absL p1) rfl ?_
        refine z_lload C dX1_reduce_61 3 rfl ?_
        refine z_ldiv C dX1_reduce_63 hgz ?_
        refine z_topl (rdD p0 p1) rfl ?_
        refine z_put (cl := vwCl) (T := TX1) (N := 13) (ci := 3) (ref := "IntervalSolverModel") (ws' := w1 K b (N, M, S, rl, rh, bl, bh, th, fl, fh, pt, rdN p0 p1, rdD p0 p1)) C hinX1 tyX1 tyX1_ok nmX1 rfl 12 (by decide) lk5 rfl rfl rfl rfl dX1_reduce_64 0 rfl (Nat.le_of_ble_eq_true rfl) rfl ?_
        exact hend _ _ _ _ (N, M, S, rl, rh, bl, bh, th, fl, fh, pt, rdN p0 p1, rdD p0 p1) dX1_reduce_67 (Nat.zero_le _) (Nat.zero_le _) rfl
      · refine z_lload_n C dX1_reduce_44 1 rfl ?_
        refine z_lneg C dX1_reduce_45 ?_
        refine z_goto (tgt := 50) C dX1_reduce_46 (by decide) ?_
        refine z_lload C dX1_reduce_50 3 rfl ?_
        refine z_ldiv C dX1_reduce_52 hgz ?_
        refine z_topl (rdN p0 p1) (by unfold rdN; rw [if_pos c40]; rfl) ?_
        refine z_put (cl := vwCl) (T := TX1) (N := 13) (ci := 3) (ref := "IntervalSolverModel") (ws' := w1 K b (N, M, S, rl, rh, bl, bh, th, fl, fh, pt, rdN p0 p1, de)) C hinX1 tyX1 tyX1_ok nmX1 rfl 11 (by decide) lk4 rfl rfl rfl rfl dX1_reduce_53 0 rfl (Nat.le_of_ble_eq_true rfl) rfl ?_
        refine z_aload_n C dX1_reduce_56 0 rfl ?_
        refine z_lload_n C dX1_reduce_57 2 rfl ?_
        refine z_mabsL C lk0 lk1 lk2 lk3 (Nat.le_of_ble_eq_true rfl) (Nat.le_of_ble_eq_true rfl) (Nat.le_of_ble_eq_true rfl) (Nat.le_of_ble_eq_true rfl) dX1_reduce_58 ?_
        refine z_topl (absL p1) rfl ?_
        refine z_lload C dX1_reduce_61 3 rfl ?_
        refine z_ldiv C dX1_reduce_63 hgz ?_
        refine z_topl (rdD p0 p1) rfl ?_
        refine z_put (cl := vwCl) (T := TX1) (N := 13) (ci := 3) (ref := "IntervalSolverModel") (ws' := w1 K b (N, M, S, rl, rh, bl, bh, th, fl, fh, pt, rdN p0 p1, rdD p0 p1)) C hinX1 tyX1 tyX1_ok nmX1 rfl 12 (by decide) lk5 rfl rfl rfl rfl dX1_reduce_64 0 rfl (Nat.le_of_ble_eq_true rfl) rfl ?_
        exact hend _ _ _ _ (N, M, S, rl, rh, bl, bh, th, fl, fh, pt, rdN p0 p1, rdD p0 p1) dX1_reduce_67 (Nat.zero_le _) (Nat.zero_le _) rfl
    · have e15 : ¬ y = 0 := fun q => c15 (by rw [q]; rfl)
      refine z_lload C dX1_reduce_19 3 rfl ?_
      refine z_lload C dX1_reduce_21 4 rfl ?_
      refine z_lrem C dX1_reduce_23 c15 ?_
      refine z_topl (jL (x % y)) (jL_rem k1 k2 e15) ?_
      refine z_lstore (lv' := [(0, .ref (b 0)), (1, .long p0), (3, .long p1), (5, .long (jL x)), (7, .long (jL y)), (9, .long (jL (x % y)))]) C dX1_reduce_24 (by decide) [1, 2, 3, 4, 5, 0] rfl ?_
      refine z_lload C dX1_reduce_26 4 rfl ?_
      refine z_lstore (lv' := [(0, .ref (b 0)), (1, .long p0), (3, .long p1), (5, .long (jL y)), (7, .long (jL y)), (9, .long (jL (x % y)))]) C dX1_reduce_28 (by decide) [1, 2, 3, 0, 4, 5] rfl ?_
      refine z_lload C dX1_reduce_30 5 rfl ?_
      refine z_lstore (lv' := [(0, .ref (b 0)), (1, .long p0), (3, .long p1), (5, .long (jL y)), (7, .long (jL (x % y))), (9, .long (jL (x % y)))]) C dX1_reduce_32 (by decide) [1, 2, 3, 4, 0, 5] rfl ?_
      refine z_goto (tgt := 12) C dX1_reduce_34 (by decide) ?_
      refine z_lv (lv' := [(0, .ref (b 0)), (1, .long p0), (3, .long p1), (5, .long (jL y)), (7, .long (jL (x % y)))]) [0, 1, 2, 3, 4] rfl ?_
      exact ih12 y (x % y) (by have := Nat.mod_lt x (by omega : 0 < y); omega) k2 (by have := Nat.mod_lt x (by omega : 0 < y); omega) (by rw [← k3, Nat.gcd_comm x y, Nat.gcd_rec y x, Nat.gcd_comm])

set_option maxRecDepth 100000 in
set_option maxHeartbeats 4000000 in
theorem c1_findEnd (l : Launch) (D : va_G) (K : Nat → ClassId) (b : Nat → Nat) (N : Nat) (M : Nat → Nat → Int32) (S : Nat → Nat → Int32) (rl : Nat → Int32) (rh : Nat → Int32) (bl : Nat → Int32) (bh : Nat → Int32) (th : Int32) (fl : Nat → Int32) (fh : Nat → Int32) (pt : Nat → Int64) (nu : Int64) (de : Int64) (i : Nat) (p1 : Int32) (hi : i < N) (hN : N ≤ 5) (h1 : 0 ≤ absL (feS N M rl rh i p1 N)) (h2 : 0 < absL (detM M N)) : mV l D K yX1_findEnd wsX1_findEnd 3 72 0 0 [.ref (b 0), .int (nI i), .int p1] (w1 K b (N, M, S, rl, rh, bl, bh, th, fl, fh, pt, nu, de)) (fun u => ∃ pt1, u = (N, M, S, rl, rh, bl, bh, th, fl, fh, pt1, heN N M rl rh i p1, heD N M rl rh i p1)) (w1 K b) := by
  have hinX1 : ∀ w ∈ wsX10, w ∈ wsX1_findEnd := by decide +kernel
  have lk0 : Cond.fieldLink RX1 7 "IntervalSolverModel" "n" "I" ∈ wsX1_findEnd := by decide +kernel
  have lk1 : Cond.fieldLink RX1 20 "IntervalSolverModel" "lows" "[I" ∈ wsX1_findEnd := by decide +kernel
  have lk2 : Cond.fieldLink RX1 23 "IntervalSolverModel" "highs" "[I" ∈ wsX1_findEnd := by decide +kernel
  refine z_met_v (cc := cX1_findEnd) (maxL := 11) (own := RX1) (lv := [(0, .ref (b 0)), (1, .int (nI i)), (2, .int p1)]) (by decide) rfl rfl (Nat.le_of_ble_eq_true rfl) rfl ?_
  intro p e s m below meth c args Q A C hnm hend
  refine z_aload_n C dX1_findEnd_0 0 rfl ?_
  refine z_iconst (v := -1) C dX1_findEnd_1 (by decide) ?_
  refine z_iconst (v := -1) C dX1_findEnd_2 (by decide) ?_
  refine z_callVl_all (As := [.int (-1), .int (-1)]) C (c1_determinantWithout l D K b N M S rl rh bl bh th fl fh pt nu de (-1) (-1) N 5 (by omega) (Or.inl ⟨rfl, rfl, rfl, rfl⟩)) (cwV 2 C.1.2.2.2.2 gX1_findEnd_X1_determinantWithout rfl rfl rfl (by decide +kernel) ⟨Nat.le_of_ble_eq_true rfl, Nat.le_of_ble_eq_true rfl⟩) (ci := 3) rfl rfl 0 rfl dX1_findEnd_3 rfl rfl (Nat.le_of_ble_eq_true rfl) ⟨Nat.le_of_ble_eq_true rfl, Nat.le_of_ble_eq_true rfl⟩ (fun r1 u1 h1 => ?_)
  obtain ⟨hr, pt_1, rfl⟩ := h1
  have hr_1 : r1 = detM M N := (hr.trans (congrArg _ (if_pos rfl))); clear hr; subst hr_1
  refine z_lstore_n (lv' := [(0, .ref (b 0)), (1, .int (nI i)), (2, .int p1), (3, .long (detM M N))]) C dX1_findEnd_6 (by decide) [1, 2, 3, 0] rfl ?_
  refine z_lconst (v := 0) C dX1_findEnd_7 (by decide) ?_
  refine z_lstore (lv' := [(0, .ref (b 0)), (1, .int (nI i)), (2, .int p1), (3, .long (detM M N)), (5, .long 0)]) C dX1_findEnd_8 (by decide) [1, 2, 3, 4, 0] rfl ?_
  refine z_iconst (v := 0) C dX1_findEnd_10 (by decide) ?_
  refine z_istore (lv' := [(0, .ref (b 0)), (1, .int (nI i)), (2, .int p1), (3, .long (detM M N)), (5, .long 0), (7, .int 0)]) C dX1_findEnd_11 (by decide) [1, 2, 3, 4, 5, 0] rfl ?_
  suffices L13 : ∀ (f13_k k : Nat) (pt2 : Nat → Int64), 0 ≤ k → k ≤ N → N < k + f13_k → zW p l e { frames := 3, cells := 0, slots := 0, locals := 72 } s m args below meth c Q 11 A s.heap D vwCl 0 0 (w1 K b (N, M, S, rl, rh, bl, bh, th, fl, fh, pt2, nu, de)) 13 ([(0, .ref (b 0)), (1, .int (nI i)), (2, .int p1), (3, .long (detM M N)), (5, .long (feS N M rl rh i p1 k)), (7, .int (nI k))]) [] from L13 (N + 1) 0 pt_1 (Nat.le_refl _) (by omega) (by omega)
  intro f13_k
  induction f13_k with
  | zero => intro k pt2 h0 h1 h2; exact absurd h2 (by omega)
  | succ f13_k ih13_k =>
    intro k pt2 g13_0 g13_1 g13_2
    refine z_iload C dX1_findEnd_13 5 rfl ?_
    refine z_aload_n C dX1_findEnd_15 0 rfl ?_
    refine z_get (cl := vwCl) (T := TX1) (N := 13) (ci := 3) (ref := "IntervalSolverModel") C hinX1 rfl 1 (by decide) lk0 rfl dX1_findEnd_16 0 rfl rfl ?_
    refine z_icmp_ge (tgt := 110) C dX1_findEnd_19 (by decide) (fun c19 => ?_) (fun c19 => ?_)
    · have e19 : k = N := by have := (nI_leI (a := N) (b := k) (by omega) (by omega)).mp c19; omega
      rw [e19]
      refine z_aload_n C dX1_findEnd_110 0 rfl ?_
      refine z_lload C dX1_findEnd_111 4 rfl ?_
      refine z_lload_n C dX1_findEnd_113 3 rfl ?_
      refine z_callVv_all (As := [.long (feS N M rl rh i p1 N), .long (detM M N)]) C (c1_reduce l D K b N M S rl rh bl bh th fl fh pt2 nu de (feS N M rl rh i p1 N) (detM M N) h1 h2) (cwV 2 C.1.2.2.2.2 gX1_findEnd_X1_reduce rfl rfl rfl (by decide +kernel) ⟨Nat.le_of_ble_eq_true rfl, Nat.le_of_ble_eq_true rfl⟩) (ci := 3) rfl rfl 0 rfl dX1_findEnd_114 rfl rfl (Nat.le_of_ble_eq_true rfl) ⟨Nat.le_of_ble_eq_true rfl, Nat.le_of_ble_eq_true rfl⟩ (fun u2 h2 => ?_)
      subst h2
      exact hend _ _ _ _ (N, M, S, rl, rh, bl, bh, th, fl, fh, pt2, rdN (feS N M rl rh i p1 N) (detM M N), rdD (feS N M rl rh i p1 N) (detM M N)) dX1_findEnd_117 (Nat.zero_le _) (Nat.zero_le _) ⟨_, rfl⟩
    · have e19 : k < N := by have := mt (nI_leI (a := N) (b := k) (by omega) (by omega)).mpr c19; omega
      refine z_aload_n C dX1_findEnd_22 0 rfl ?_
      refine z_iload_n C dX1_findEnd_23 1 rfl ?_
      refine z_iload C dX1_findEnd_24 5 rfl ?_
      refine z_callVl_all (As := [.int (nI i), .int (nI k)]) C (c1_cofactor l D K b N M S rl rh bl bh th fl fh pt2 nu de i k (by omega) (by omega) (by omega)) (cwV 2 C.1.2.2.2.2 gX1_findEnd_X1_cofactor rfl rfl rfl (by decide +kernel) ⟨Nat.le_of_ble_eq_true rfl, Nat.le_of_ble_eq_true rfl⟩) (ci := 3) rfl rfl 0 rfl dX1_findEnd_26 rfl rfl (Nat.le_of_ble_eq_true rfl) ⟨Nat.le_of_ble_eq_true rfl, Nat.le_of_ble_eq_true rfl⟩ (fun r3 u3 h3 => ?_)
      obtain ⟨rfl, pt_3, rfl⟩ := h3
      refine z_lstore (lv' := [(0, .ref (b 0)), (1, .int (nI i)), (2, .int p1), (3, .long (detM M N)), (5, .long (feS N M rl rh i p1 k)), (7, .int (nI k)), (8, .long (cofM M N i k))]) C dX1_findEnd_29 (by decide) [1, 2, 3, 4, 5, 6, 0] rfl ?_
      have J62 : ∀ (e6 : Int32), e6 = feE (cofM M N i k) (detM M N) → zW p l e { frames := 3, cells := 0, slots := 0, locals := 72 } s m args below meth c Q 11 A s.heap D vwCl 0 0 (w1 K b (N, M, S, rl, rh, bl, bh, th, fl, fh, pt_3, nu, de)) 62 ([(0, .ref (b 0)), (1, .int (nI i)), (2, .int p1), (3, .long (detM M N)), (5, .long (feS N M rl rh i p1 k)), (7, .int (nI k)), (8, .long (cofM M N i k))]) [.int e6] := by
        intro e6 h_e6
        refine z_iload_n C dX1_findEnd_62 2 rfl ?_
        refine z_icmp_ne (tgt := 70) C dX1_findEnd_63 (by decide) (fun c63 => ?_) (fun c63 => ?_)
        · have c63b : ¬ e6 = p1 := c63
          refine z_iconst (v := 0) C dX1_findEnd_70 (by decide) ?_
          refine z_istore (lv' := [(0, .ref (b 0)), (1, .int (nI i)), (2, .int p1), (3, .long (detM M N)), (5, .long (feS N M rl rh i p1 k)), (7, .int (nI k)), (8, .long (cofM M N i k)), (10, .int 0)]) C dX1_findEnd_71 (by decide) [1, 2, 3, 4, 5, 6, 7, 0] rfl ?_
          refine z_lload C dX1_findEnd_73 4 rfl ?_
          refine z_lload C dX1_findEnd_75 6 rfl ?_
          refine z_iload C dX1_findEnd_77 7 rfl ?_
          refine z_if_eq (tgt := 92) C dX1_findEnd_79 (by decide) (fun c79 => ?_) (fun c79 => ?_)
          · refine z_aload_n C dX1_findEnd_92 0 rfl ?_
            refine z_get (cl := vwCl) (T := TX1) (N := 13) (ci := 3) (ref := "IntervalSolverModel") C hinX1 rfl 4 (by decide) lk1 rfl dX1_findEnd_93 0 rfl rfl ?_
            refine z_iload C dX1_findEnd_96 5 rfl ?_
            refine z_iald C 0 rfl 3 rfl dX1_findEnd_98 k rfl (by omega) (by decide) ?_
            refine z_i2l C dX1_findEnd_99 ?_
            refine z_lmul C dX1_findEnd_100 ?_
            refine z_ladd C dX1_findEnd_101 ?_
            refine z_topl (feS N M rl rh i p1 (k + 1)) (by rw [feS_succ, ← h_e6, if_neg c63b]) ?_
            refine z_lstore (lv' := [(0, .ref (b 0)), (1, .int (nI i)), (2, .int p1), (3, .long (detM M N)), (5, .long (feS N M rl rh i p1 (k + 1))), (7, .int (nI k)), (8, .long (cofM M N i k)), (10, .int 0)]) C dX1_findEnd_102 (by decide) [1, 2, 3, 4, 0, 5, 6, 7] rfl ?_
            refine z_iinc (v := nI (k + 1)) (lv' := [(0, .ref (b 0)), (1, .int (nI i)), (2, .int p1), (3, .long (detM M N)), (5, .long (feS N M rl rh i p1 (k + 1))), (7, .int (nI (k + 1))), (8, .long (cofM M N i k)), (10, .int 0)]) C dX1_findEnd_104 (k := 5) rfl (nI_1 k) (by decide) [1, 2, 3, 4, 5, 0, 6, 7] rfl ?_
            refine z_goto (tgt := 13) C dX1_findEnd_107 (by decide) ?_
            refine z_lv (lv' := [(0, .ref (b 0)), (1, .int (nI i)), (2, .int p1), (3, .long (detM M N)), (5, .long (feS N M rl rh i p1 (k + 1))), (7, .int (nI (k + 1)))]) [0, 1, 2, 3, 4, 5] rfl ?_
            exact ih13_k (k + 1) pt_3 (by omega) (by omega) (by omega)
          · exact absurd rfl c79
        · have c63b : e6 = p1 := c63
          refine z_iconst (v := 1) C dX1_findEnd_66 (by decide) ?_
          refine z_goto (tgt := 71) C dX1_findEnd_67 (by decide) ?_
          refine z_istore (lv' := [(0, .ref (b 0)), (1, .int (nI i)), (2, .int p1), (3, .long (detM M N)), (5, .long (feS N M rl rh i p1 k)), (7, .int (nI k)), (8, .long (cofM M N i k)), (10, .int 1)]) C dX1_findEnd_71 (by decide) [1, 2, 3, 4, 5, 6, 7, 0] rfl ?_
          refine z_lload C dX1_findEnd_73 4 rfl ?_
          refine z_lload C dX1_findEnd_75 6 rfl ?_
          refine z_iload C dX1_findEnd_77 7 rfl ?_
          refine z_if_eq (tgt := 92) C dX1_findEnd_79 (by decide) (fun c79 => ?_) (fun c79 => ?_)
          · exact absurd c79 (by decide)
          · refine z_aload_n C dX1_findEnd_82 0 rfl ?_
            refine z_get (cl := vwCl) (T := TX1) (N := 13) (ci := 3) (ref := "IntervalSolverModel") C hinX1 rfl 5 (by decide) lk2 rfl dX1_findEnd_83 0 rfl rfl ?_
            refine z_iload C dX1_findEnd_86 5 rfl ?_
            refine z_iald C 0 rfl 4 rfl dX1_findEnd_88 k rfl (by omega) (by decide) ?_
            refine z_goto (tgt := 99) C dX1_findEnd_89 (by decide) ?_
            refine z_i2l C dX1_findEnd_99 ?_
            refine z_lmul C dX1_findEnd_100 ?_
            refine z_ladd C dX1_findEnd_101 ?_
            refine z_topl (feS N M rl rh i p1 (k + 1)) (by rw [feS_succ, ← h_e6, if_pos c63b]) ?_
            refine z_lstore (lv' := [(0, .ref (b 0)), (1, .int (nI i)), (2, .int p1), (3, .long (detM M N)), (5, .long (feS N M rl rh i p1 (k + 1))), (7, .int (nI k)), (8, .long (cofM M N i k)), (10, .int 1)]) C dX1_findEnd_102 (by decide) [1, 2, 3, 4, 0, 5, 6, 7] rfl ?_
            refine z_iinc (v := nI (k + 1)) (lv' := [(0, .ref (b 0)), (1, .int (nI i)), (2, .int p1), (3, .long (detM M N)), (5, .long (feS N M rl rh i p1 (k + 1))), (7, .int (nI (k + 1))), (8, .long (cofM M N i k)), (10, .int 1)]) C dX1_findEnd_104 (k := 5) rfl (nI_1 k) (by decide) [1, 2, 3, 4, 5, 0, 6, 7] rfl ?_
            refine z_goto (tgt := 13) C dX1_findEnd_107 (by decide) ?_
            refine z_lv (lv' := [(0, .ref (b 0)), (1, .int (nI i)), (2, .int p1), (3, .long (detM M N)), (5, .long (feS N M rl rh i p1 (k + 1))), (7, .int (nI (k + 1)))]) [0, 1, 2, 3, 4, 5] rfl ?_
            exact ih13_k (k + 1) pt_3 (by omega) (by omega) (by omega)
      refine z_lload C dX1_findEnd_31 6 rfl ?_
      refine z_lconst (v := 0) C dX1_findEnd_33 (by decide) ?_
      refine z_lcmp_le (tgt := 42) C dX1_findEnd_34 dX1_findEnd_35 (by decide) (fun c34 => ?_) (fun c34 => ?_)
      · have q34 : ¬ 0 < cofM M N i k := c34
        refine z_iconst (v := 0) C dX1_findEnd_42 (by decide) ?_
        refine z_lload_n C dX1_findEnd_43 3 rfl ?_
        refine z_lconst (v := 0) C dX1_findEnd_44 (by decide) ?_
        refine z_lcmp_le (tgt := 53) C dX1_findEnd_45 dX1_findEnd_46 (by decide) (fun c45 => ?_) (fun c45 => ?_)
        · have q45 : ¬ 0 < detM M N := c45
          refine z_iconst (v := 0) C dX1_findEnd_53 (by decide) ?_
          refine z_icmp_ne (tgt := 61) C dX1_findEnd_54 (by decide) (fun c54 => ?_) (fun c54 => ?_)
          · exact absurd rfl c54
          · have hsg : (0 < cofM M N i k ↔ 0 < detM M N) := (by first | (simp only [q34, q45]; done) | (simp only [q34, q45]; decide))
            refine z_iconst (v := 1) C dX1_findEnd_57 (by decide) ?_
            refine z_goto (tgt := 62) C dX1_findEnd_58 (by decide) ?_
            exact J62 _ (if_pos hsg).symm
        · have q45 : 0 < detM M N := c45
          refine z_iconst (v := 1) C dX1_findEnd_49 (by decide) ?_
          refine z_goto (tgt := 54) C dX1_findEnd_50 (by decide) ?_
          refine z_icmp_ne (tgt := 61) C dX1_findEnd_54 (by decide) (fun c54 => ?_) (fun c54 => ?_)
          · have hsg : ¬ (0 < cofM M N i k ↔ 0 < detM M N) := (by first | (simp only [q34, q45]; done) | (simp only [q34, q45]; decide))
            refine z_iconst (v := 0) C dX1_findEnd_61 (by decide) ?_
            exact J62 _ (if_neg hsg).symm
          · exact absurd c54 (by decide)
      · have q34 : 0 < cofM M N i k := c34
        refine z_iconst (v := 1) C dX1_findEnd_38 (by decide) ?_
        refine z_goto (tgt := 43) C dX1_findEnd_39 (by decide) ?_
        refine z_lload_n C dX1_findEnd_43 3 rfl ?_
        refine z_lconst (v := 0) C dX1_findEnd_44 (by decide) ?_
        refine z_lcmp_le (tgt := 53) C dX1_findEnd_45 dX1_findEnd_46 (by decide) (fun c45 => ?_) (fun c45 => ?_)
        · have q45 : ¬ 0 < detM M N := c45
          refine z_iconst (v := 0) C dX1_findEnd_53 (by decide) ?_
          refine z_icmp_ne (tgt := 61) C dX1_findEnd_54 (by decide) (fun c54 => ?_) (fun c54 => ?_)
          · have hsg : ¬ (0 < cofM M N i k ↔ 0 < detM M N) := (by first | (simp only [q34, q45]; done) | (simp only [q34, q45]; decide))
            refine z_iconst (v := 0) C dX1_findEnd_61 (by decide) ?_
            exact J62 _ (if_neg hsg).symm
          · exact absurd c54 (by decide)
        · have q45 : 0 < detM M N := c45
          refine z_iconst (v := 1) C dX1_findEnd_49 (by decide) ?_
          refine z_goto (tgt := 54) C dX1_findEnd_50 (by decide) ?_
          refine z_icmp_ne (tgt := 61) C dX1_findEnd_54 (by decide) (fun c54 => ?_) (fun c54 => ?_)
          · exact absurd rfl c54
          · have hsg : (0 < cofM M N i k ↔ 0 < detM M N) := (by first | (simp only [q34, q45]; done) | (simp only [q34, q45]; decide))
            refine z_iconst (v := 1) C dX1_findEnd_57 (by decide) ?_
            refine z_goto (tgt := 62) C dX1_findEnd_58 (by decide) ?_
            exact J62 _ (if_pos hsg).symm

set_option maxRecDepth 100000 in
set_option maxHeartbeats 4000000 in
theorem c1_asks (l : Launch) (D : va_G) (K : Nat → ClassId) (b : Nat → Nat) (N : Nat) (M : Nat → Nat → Int32) (S : Nat → Nat → Int32) (rl : Nat → Int32) (rh : Nat → Int32) (bl : Nat → Int32) (bh : Nat → Int32) (th : Int32) (fl : Nat → Int32) (fh : Nat → Int32) (pt : Nat → Int64) (nu : Int64) (de : Int64) (p0 : Int32) (p1 : Int32) (hN : N ≤ 5) (hok : okM N M S rl rh) : mI l D K yX1_asks wsX1_asks 4 102 0 0 [.ref (b 0), .int p0, .int p1] (w1 K b (N, M, S, rl, rh, bl, bh, th, fl, fh, pt, nu, de)) (fun r u => r = (if kHul N M p0 = 0 then 1 else 0) ∧ ∃ pt1, u = (N, M, S, rl, rh, bl, bh, (kHul N M p0), fl, fh, pt1, onlyIf (kHul N M p0) (heN N M rl rh (ix p0) p1) nu, onlyIf (kHul N M p0) (heD N M rl rh (ix p0) p1) de)) (w1 K b) := by
  have hinX1 : ∀ w ∈ wsX10, w ∈ wsX1_asks := by decide +kernel
  have lk0 : Cond.fieldLink RX1 45 "IntervalSolverModel" "thrown" "I" ∈ wsX1_asks := by decide +kernel
  refine z_met_z (cc := cX1_asks) (maxL := 3) (own := RX1) (lv := [(0, .ref (b 0)), (1, .int p0), (2, .int p1)]) (by decide) rfl rfl (Nat.le_of_ble_eq_true rfl) rfl ?_
  intro p e s m below meth c args Q A C hnm hend
  refine z_aload_n C dX1_asks_0 0 rfl ?_
  refine z_aload_n C dX1_asks_1 0 rfl ?_
  refine z_iload_n C dX1_asks_2 1 rfl ?_
  refine z_callVi_all (As := [.int p0]) C (c1_isIndex l D K b N M S rl rh bl bh th fl fh pt nu de p0) (cwV 1 C.1.2.2.2.2 gX1_asks_X1_isIndex rfl rfl rfl (by decide +kernel) ⟨Nat.le_of_ble_eq_true rfl, Nat.le_of_ble_eq_true rfl⟩) (ci := 3) rfl rfl 0 rfl dX1_asks_3 rfl rfl (Nat.le_of_ble_eq_true rfl) ⟨Nat.le_of_ble_eq_true rfl, Nat.le_of_ble_eq_true rfl⟩ (fun r1 u1 h1 => ?_)
  obtain ⟨rfl, rfl⟩ := h1
  refine z_if_ne (tgt := 13) C dX1_asks_6 (by decide) (fun c6 => ?_) (fun c6 => ?_)
  · have q6 : ixP N p0 := zi1.mp c6
    obtain ⟨i_p0, l_p0⟩ := ixP_at hN q6
    refine z_aload_n C dX1_asks_13 0 rfl ?_
    refine z_callVi_all (As := []) C (c1_isSingular l D K b N M S rl rh bl bh th fl fh pt nu de (by omega)) (cwV 0 C.1.2.2.2.2 gX1_asks_X1_isSingular rfl rfl rfl (by decide +kernel) ⟨Nat.le_of_ble_eq_true rfl, Nat.le_of_ble_eq_true rfl⟩) (ci := 3) rfl rfl 0 rfl dX1_asks_14 rfl rfl (Nat.le_of_ble_eq_true rfl) ⟨Nat.le_of_ble_eq_true rfl, Nat.le_of_ble_eq_true rfl⟩ (fun r2 u2 h2 => ?_)
    obtain ⟨rfl, pt_2, rfl⟩ := h2
    refine z_if_eq (tgt := 24) C dX1_asks_17 (by decide) (fun c17 => ?_) (fun c17 => ?_)
    · have q17 : ¬ (detM M N = 0) := zi0.mp c17
      have hd := q17
      refine z_iconst (v := 0) C dX1_asks_24 (by decide) ?_
      refine z_put (cl := vwCl) (T := TX1) (N := 13) (ci := 3) (ref := "IntervalSolverModel") (ws' := w1 K b (N, M, S, rl, rh, bl, bh, 0, fl, fh, pt_2, nu, de)) C hinX1 tyX1 tyX1_ok nmX1 rfl 0 (by decide) lk0 rfl rfl rfl rfl dX1_asks_25 0 rfl (Nat.le_of_ble_eq_true rfl) rfl ?_
      refine z_aload_n C dX1_asks_28 0 rfl ?_
      refine z_get (cl := vwCl) (T := TX1) (N := 13) (ci := 3) (ref := "IntervalSolverModel") C hinX1 rfl 0 (by decide) lk0 rfl dX1_asks_29 0 rfl rfl ?_
      refine z_if_eq (tgt := 37) C dX1_asks_32 (by decide) (fun c32 => ?_) (fun c32 => ?_)
      · refine z_aload_n C dX1_asks_37 0 rfl ?_
        refine z_iload_n C dX1_asks_38 1 rfl ?_
        refine z_topi (nI (ix p0)) i_p0 ?_
        refine z_iload_n C dX1_asks_39 2 rfl ?_
        refine z_callVv_all (As := [.int (nI (ix p0)), .int p1]) C (c1_findEnd l D K b N M S rl rh bl bh 0 fl fh pt_2 nu de (ix p0) p1 (by omega) (by omega) (hok.2.1 (ix p0) p1 (by omega)) ((hok.1 hd).1)) (cwV 2 C.1.2.2.2.2 gX1_asks_X1_findEnd rfl rfl rfl (by decide +kernel) ⟨Nat.le_of_ble_eq_true rfl, Nat.le_of_ble_eq_true rfl⟩) (ci := 3) rfl rfl 0 rfl dX1_asks_40 rfl rfl (Nat.le_of_ble_eq_true rfl) ⟨Nat.le_of_ble_eq_true rfl, Nat.le_of_ble_eq_true rfl⟩ (fun u3 h3 => ?_)
        obtain ⟨pt_3, rfl⟩ := h3
        refine z_iconst (v := 1) C dX1_asks_43 (by decide) ?_
        exact hend _ _ _ _ _ (N, M, S, rl, rh, bl, bh, 0, fl, fh, pt_3, heN N M rl rh (ix p0) p1, heD N M rl rh (ix p0) p1) dX1_asks_44 (Nat.zero_le _) (Nat.zero_le _) (Or.inr rfl) (by have hk : kHul N M p0 = 0 := (by unfold kHul; rw [if_pos q6, if_neg hd]); rw [hk]; exact ⟨rfl, _, rfl⟩)
      · exact absurd rfl c32
    · have q17 : detM M N = 0 := zi1.mp c17
      refine z_iconst (v := 2) C dX1_asks_20 (by decide) ?_
      refine z_goto (tgt := 25) C dX1_asks_21 (by decide) ?_
      refine z_put (cl := vwCl) (T := TX1) (N := 13) (ci := 3) (ref := "IntervalSolverModel") (ws' := w1 K b (N, M, S, rl, rh, bl, bh, 2, fl, fh, pt_2, nu, de)) C hinX1 tyX1 tyX1_ok nmX1 rfl 0 (by decide) lk0 rfl rfl rfl rfl dX1_asks_25 0 rfl (Nat.le_of_ble_eq_true rfl) rfl ?_
      refine z_aload_n C dX1_asks_28 0 rfl ?_
      refine z_get (cl := vwCl) (T := TX1) (N := 13) (ci := 3) (ref := "IntervalSolverModel") C hinX1 rfl 0 (by decide) lk0 rfl dX1_asks_29 0 rfl rfl ?_
      refine z_if_eq (tgt := 37) C dX1_asks_32 (by decide) (fun c32 => ?_) (fun c32 => ?_)
      · exact absurd c32 (by decide)
      · refine z_iconst (v := 0) C dX1_asks_35 (by decide) ?_
        exact hend _ _ _ _ _ (N, M, S, rl, rh, bl, bh, 2, fl, fh, pt_2, nu, de) dX1_asks_36 (Nat.zero_le _) (Nat.zero_le _) (Or.inl rfl) (by have hk : kHul N M p0 = 2 := (by unfold kHul; rw [if_pos q6, if_pos q17]); rw [hk]; exact ⟨rfl, _, rfl⟩)
  · have q6 : ¬ (ixP N p0) := zi0.mp c6
    refine z_iconst (v := 1) C dX1_asks_9 (by decide) ?_
    refine z_goto (tgt := 25) C dX1_asks_10 (by decide) ?_
    refine z_put (cl := vwCl) (T := TX1) (N := 13) (ci := 3) (ref := "IntervalSolverModel") (ws' := w1 K b (N, M, S, rl, rh, bl, bh, 1, fl, fh, pt, nu, de)) C hinX1 tyX1 tyX1_ok nmX1 rfl 0 (by decide) lk0 rfl rfl rfl rfl dX1_asks_25 0 rfl (Nat.le_of_ble_eq_true rfl) rfl ?_
    refine z_aload_n C dX1_asks_28 0 rfl ?_
    refine z_get (cl := vwCl) (T := TX1) (N := 13) (ci := 3) (ref := "IntervalSolverModel") C hinX1 rfl 0 (by decide) lk0 rfl dX1_asks_29 0 rfl rfl ?_
    refine z_if_eq (tgt := 37) C dX1_asks_32 (by decide) (fun c32 => ?_) (fun c32 => ?_)
    · exact absurd c32 (by decide)
    · refine z_iconst (v := 0) C dX1_asks_35 (by decide) ?_
      exact hend _ _ _ _ _ (N, M, S, rl, rh, bl, bh, 1, fl, fh, pt, nu, de) dX1_asks_36 (Nat.zero_le _) (Nat.zero_le _) (Or.inl rfl) (by have hk : kHul N M p0 = 1 := (if_neg q6); rw [hk]; exact ⟨rfl, _, rfl⟩)

set_option maxRecDepth 100000 in
set_option maxHeartbeats 4000000 in
theorem c1_lowNumerator (l : Launch) (D : va_G) (K : Nat → ClassId) (b : Nat → Nat) (N : Nat) (M : Nat → Nat → Int32) (S : Nat → Nat → Int32) (rl : Nat → Int32) (rh : Nat → Int32) (bl : Nat → Int32) (bh : Nat → Int32) (th : Int32) (fl : Nat → Int32) (fh : Nat → Int32) (pt : Nat → Int64) (nu : Int64) (de : Int64) (p0 : Int32) (hN : N ≤ 5) (hok : okM N M S rl rh) : mL l D K yX1_lowNumerator wsX1_lowNumerator 5 124 0 0 [.ref (b 0), .int p0] (w1 K b (N, M, S, rl, rh, bl, bh, th, fl, fh, pt, nu, de)) (fun r u => r = onlyIf (kHul N M p0) (heN N M rl rh (ix p0) 0) 0 ∧ ∃ pt1, u = (N, M, S, rl, rh, bl, bh, (kHul N M p0), fl, fh, pt1, onlyIf (kHul N M p0) (heN N M rl rh (ix p0) 0) nu, onlyIf (kHul N M p0) (heD N M rl rh (ix p0) 0) de)) (w1 K b) := by
  have hinX1 : ∀ w ∈ wsX10, w ∈ wsX1_lowNumerator := by decide +kernel
  have lk0 : Cond.fieldLink RX1 87 "IntervalSolverModel" "numerator" "J" ∈ wsX1_lowNumerator := by decide +kernel
  refine z_met_l (cc := cX1_lowNumerator) (maxL := 2) (own := RX1) (lv := [(0, .ref (b 0)), (1, .int p0)]) (by decide) rfl rfl (Nat.le_of_ble_eq_true rfl) rfl ?_
  intro p e s m below meth c args Q A C hnm hend
  refine z_aload_n C dX1_lowNumerator_0 0 rfl ?_
  refine z_iload_n C dX1_lowNumerator_1 1 rfl ?_
  refine z_iconst (v := 0) C dX1_lowNumerator_2 (by decide) ?_
  refine z_callVi_all (As := [.int p0, .int 0]) C (c1_asks l D K b N M S rl rh bl bh th fl fh pt nu de p0 0 (by omega) hok) (cwV 2 C.1.2.2.2.2 gX1_lowNumerator_X1_asks rfl rfl rfl (by decide +kernel) ⟨Nat.le_of_ble_eq_true rfl, Nat.le_of_ble_eq_true rfl⟩) (ci := 3) rfl rfl 0 rfl dX1_lowNumerator_3 rfl rfl (Nat.le_of_ble_eq_true rfl) ⟨Nat.le_of_ble_eq_true rfl, Nat.le_of_ble_eq_true rfl⟩ (fun r1 u1 h1 => ?_)
  obtain ⟨rfl, pt_1, rfl⟩ := h1
  refine z_if_eq (tgt := 16) C dX1_lowNumerator_6 (by decide) (fun c6 => ?_) (fun c6 => ?_)
  · have q6 : ¬ ((kHul N M p0) = 0) := zi0.mp c6
    refine z_lconst (v := 0) C dX1_lowNumerator_16 (by decide) ?_
    exact hend _ _ _ _ _ (N, M, S, rl, rh, bl, bh, (kHul N M p0), fl, fh, pt_1, onlyIf (kHul N M p0) (heN N M rl rh (ix p0) 0) nu, onlyIf (kHul N M p0) (heD N M rl rh (ix p0) 0) de) dX1_lowNumerator_17 (Nat.zero_le _) (Nat.zero_le _) ⟨(onlyIf_1 q6).symm, _, rfl⟩
  · have q6 : (kHul N M p0) = 0 := zi1.mp c6
    refine z_aload_n C dX1_lowNumerator_9 0 rfl ?_
    refine z_get (cl := vwCl) (T := TX1) (N := 13) (ci := 3) (ref := "IntervalSolverModel") C hinX1 rfl 11 (by decide) lk0 rfl dX1_lowNumerator_10 0 rfl rfl ?_
    refine z_goto (tgt := 17) C dX1_lowNumerator_13 (by decide) ?_
    exact hend _ _ _ _ _ (N, M, S, rl, rh, bl, bh, (kHul N M p0), fl, fh, pt_1, onlyIf (kHul N M p0) (heN N M rl rh (ix p0) 0) nu, onlyIf (kHul N M p0) (heD N M rl rh (ix p0) 0) de) dX1_lowNumerator_17 (Nat.zero_le _) (Nat.zero_le _) ⟨by rw [onlyIf_0 q6, onlyIf_0 q6], _, rfl⟩

set_option maxRecDepth 100000 in
set_option maxHeartbeats 4000000 in
theorem c1_lowDenominator (l : Launch) (D : va_G) (K : Nat → ClassId) (b : Nat → Nat) (N : Nat) (M : Nat → Nat → Int32) (S : Nat → Nat → Int32) (rl : Nat → Int32) (rh : Nat → Int32) (bl : Nat → Int32) (bh : Nat → Int32) (th : Int32) (fl : Nat → Int32) (fh : Nat → Int32) (pt : Nat → Int64) (nu : Int64) (de : Int64) (p0 : Int32) (hN : N ≤ 5) (hok : okM N M S rl rh) : mL l D K yX1_lowDenominator wsX1_lowDenominator 5 124 0 0 [.ref (b 0), .int p0] (w1 K b (N, M, S, rl, rh, bl, bh, th, fl, fh, pt, nu, de)) (fun r u => r = onlyIf (kHul N M p0) (heD N M rl rh (ix p0) 0) 0 ∧ ∃ pt1, u = (N, M, S, rl, rh, bl, bh, (kHul N M p0), fl, fh, pt1, onlyIf (kHul N M p0) (heN N M rl rh (ix p0) 0) nu, onlyIf (kHul N M p0) (heD N M rl rh (ix p0) 0) de)) (w1 K b) := by
  have hinX1 : ∀ w ∈ wsX10, w ∈ wsX1_lowDenominator := by decide +kernel
  have lk0 : Cond.fieldLink RX1 91 "IntervalSolverModel" "denominator" "J" ∈ wsX1_lowDenominator := by decide +kernel
  refine z_met_l (cc := cX1_lowDenominator) (maxL := 2) (own := RX1) (lv := [(0, .ref (b 0)), (1, .int p0)]) (by decide) rfl rfl (Nat.le_of_ble_eq_true rfl) rfl ?_
  intro p e s m below meth c args Q A C hnm hend
  refine z_aload_n C dX1_lowDenominator_0 0 rfl ?_
  refine z_iload_n C dX1_lowDenominator_1 1 rfl ?_
  refine z_iconst (v := 0) C dX1_lowDenominator_2 (by decide) ?_
  refine z_callVi_all (As := [.int p0, .int 0]) C (c1_asks l D K b N M S rl rh bl bh th fl fh pt nu de p0 0 (by omega) hok) (cwV 2 C.1.2.2.2.2 gX1_lowDenominator_X1_asks rfl rfl rfl (by decide +kernel) ⟨Nat.le_of_ble_eq_true rfl, Nat.le_of_ble_eq_true rfl⟩) (ci := 3) rfl rfl 0 rfl dX1_lowDenominator_3 rfl rfl (Nat.le_of_ble_eq_true rfl) ⟨Nat.le_of_ble_eq_true rfl, Nat.le_of_ble_eq_true rfl⟩ (fun r1 u1 h1 => ?_)
  obtain ⟨rfl, pt_1, rfl⟩ := h1
  refine z_if_eq (tgt := 16) C dX1_lowDenominator_6 (by decide) (fun c6 => ?_) (fun c6 => ?_)
  · have q6 : ¬ ((kHul N M p0) = 0) := zi0.mp c6
    refine z_lconst (v := 0) C dX1_lowDenominator_16 (by decide) ?_
    exact hend _ _ _ _ _ (N, M, S, rl, rh, bl, bh, (kHul N M p0), fl, fh, pt_1, onlyIf (kHul N M p0) (heN N M rl rh (ix p0) 0) nu, onlyIf (kHul N M p0) (heD N M rl rh (ix p0) 0) de) dX1_lowDenominator_17 (Nat.zero_le _) (Nat.zero_le _) ⟨(onlyIf_1 q6).symm, _, rfl⟩
  · have q6 : (kHul N M p0) = 0 := zi1.mp c6
    refine z_aload_n C dX1_lowDenominator_9 0 rfl ?_
    refine z_get (cl := vwCl) (T := TX1) (N := 13) (ci := 3) (ref := "IntervalSolverModel") C hinX1 rfl 12 (by decide) lk0 rfl dX1_lowDenominator_10 0 rfl rfl ?_
    refine z_goto (tgt := 17) C dX1_lowDenominator_13 (by decide) ?_
    exact hend _ _ _ _ _ (N, M, S, rl, rh, bl, bh, (kHul N M p0), fl, fh, pt_1, onlyIf (kHul N M p0) (heN N M rl rh (ix p0) 0) nu, onlyIf (kHul N M p0) (heD N M rl rh (ix p0) 0) de) dX1_lowDenominator_17 (Nat.zero_le _) (Nat.zero_le _) ⟨by rw [onlyIf_0 q6, onlyIf_0 q6], _, rfl⟩

set_option maxRecDepth 100000 in
set_option maxHeartbeats 4000000 in
theorem c1_highNumerator (l : Launch) (D : va_G) (K : Nat → ClassId) (b : Nat → Nat) (N : Nat) (M : Nat → Nat → Int32) (S : Nat → Nat → Int32) (rl : Nat → Int32) (rh : Nat → Int32) (bl : Nat → Int32) (bh : Nat → Int32) (th : Int32) (fl : Nat → Int32) (fh : Nat → Int32) (pt : Nat → Int64) (nu : Int64) (de : Int64) (p0 : Int32) (hN : N ≤ 5) (hok : okM N M S rl rh) : mL l D K yX1_highNumerator wsX1_highNumerator 5 124 0 0 [.ref (b 0), .int p0] (w1 K b (N, M, S, rl, rh, bl, bh, th, fl, fh, pt, nu, de)) (fun r u => r = onlyIf (kHul N M p0) (heN N M rl rh (ix p0) 1) 0 ∧ ∃ pt1, u = (N, M, S, rl, rh, bl, bh, (kHul N M p0), fl, fh, pt1, onlyIf (kHul N M p0) (heN N M rl rh (ix p0) 1) nu, onlyIf (kHul N M p0) (heD N M rl rh (ix p0) 1) de)) (w1 K b) := by
  have hinX1 : ∀ w ∈ wsX10, w ∈ wsX1_highNumerator := by decide +kernel
  have lk0 : Cond.fieldLink RX1 87 "IntervalSolverModel" "numerator" "J" ∈ wsX1_highNumerator := by decide +kernel
  refine z_met_l (cc := cX1_highNumerator) (maxL := 2) (own := RX1) (lv := [(0, .ref (b 0)), (1, .int p0)]) (by decide) rfl rfl (Nat.le_of_ble_eq_true rfl) rfl ?_
  intro p e s m below meth c args Q A C hnm hend
  refine z_aload_n C dX1_highNumerator_0 0 rfl ?_
  refine z_iload_n C dX1_highNumerator_1 1 rfl ?_
  refine z_iconst (v := 1) C dX1_highNumerator_2 (by decide) ?_
  refine z_callVi_all (As := [.int p0, .int 1]) C (c1_asks l D K b N M S rl rh bl bh th fl fh pt nu de p0 1 (by omega) hok) (cwV 2 C.1.2.2.2.2 gX1_highNumerator_X1_asks rfl rfl rfl (by decide +kernel) ⟨Nat.le_of_ble_eq_true rfl, Nat.le_of_ble_eq_true rfl⟩) (ci := 3) rfl rfl 0 rfl dX1_highNumerator_3 rfl rfl (Nat.le_of_ble_eq_true rfl) ⟨Nat.le_of_ble_eq_true rfl, Nat.le_of_ble_eq_true rfl⟩ (fun r1 u1 h1 => ?_)
  obtain ⟨rfl, pt_1, rfl⟩ := h1
  refine z_if_eq (tgt := 16) C dX1_highNumerator_6 (by decide) (fun c6 => ?_) (fun c6 => ?_)
  · have q6 : ¬ ((kHul N M p0) = 0) := zi0.mp c6
    refine z_lconst (v := 0) C dX1_highNumerator_16 (by decide) ?_
    exact hend _ _ _ _ _ (N, M, S, rl, rh, bl, bh, (kHul N M p0), fl, fh, pt_1, onlyIf (kHul N M p0) (heN N M rl rh (ix p0) 1) nu, onlyIf (kHul N M p0) (heD N M rl rh (ix p0) 1) de) dX1_highNumerator_17 (Nat.zero_le _) (Nat.zero_le _) ⟨(onlyIf_1 q6).symm, _, rfl⟩
  · have q6 : (kHul N M p0) = 0 := zi1.mp c6
    refine z_aload_n C dX1_highNumerator_9 0 rfl ?_
    refine z_get (cl := vwCl) (T := TX1) (N := 13) (ci := 3) (ref := "IntervalSolverModel") C hinX1 rfl 11 (by decide) lk0 rfl dX1_highNumerator_10 0 rfl rfl ?_
    refine z_goto (tgt := 17) C dX1_highNumerator_13 (by decide) ?_
    exact hend _ _ _ _ _ (N, M, S, rl, rh, bl, bh, (kHul N M p0), fl, fh, pt_1, onlyIf (kHul N M p0) (heN N M rl rh (ix p0) 1) nu, onlyIf (kHul N M p0) (heD N M rl rh (ix p0) 1) de) dX1_highNumerator_17 (Nat.zero_le _) (Nat.zero_le _) ⟨by rw [onlyIf_0 q6, onlyIf_0 q6], _, rfl⟩

set_option maxRecDepth 100000 in
set_option maxHeartbeats 4000000 in
theorem c1_highDenominator (l : Launch) (D : va_G) (K : Nat → ClassId) (b : Nat → Nat) (N : Nat) (M : Nat → Nat → Int32) (S : Nat → Nat → Int32) (rl : Nat → Int32) (rh : Nat → Int32) (bl : Nat → Int32) (bh : Nat → Int32) (th : Int32) (fl : Nat → Int32) (fh : Nat → Int32) (pt : Nat → Int64) (nu : Int64) (de : Int64) (p0 : Int32) (hN : N ≤ 5) (hok : okM N M S rl rh) : mL l D K yX1_highDenominator wsX1_highDenominator 5 124 0 0 [.ref (b 0), .int p0] (w1 K b (N, M, S, rl, rh, bl, bh, th, fl, fh, pt, nu, de)) (fun r u => r = onlyIf (kHul N M p0) (heD N M rl rh (ix p0) 1) 0 ∧ ∃ pt1, u = (N, M, S, rl, rh, bl, bh, (kHul N M p0), fl, fh, pt1, onlyIf (kHul N M p0) (heN N M rl rh (ix p0) 1) nu, onlyIf (kHul N M p0) (heD N M rl rh (ix p0) 1) de)) (w1 K b) := by
  have hinX1 : ∀ w ∈ wsX10, w ∈ wsX1_highDenominator := by decide +kernel
  have lk0 : Cond.fieldLink RX1 91 "IntervalSolverModel" "denominator" "J" ∈ wsX1_highDenominator := by decide +kernel
  refine z_met_l (cc := cX1_highDenominator) (maxL := 2) (own := RX1) (lv := [(0, .ref (b 0)), (1, .int p0)]) (by decide) rfl rfl (Nat.le_of_ble_eq_true rfl) rfl ?_
  intro p e s m below meth c args Q A C hnm hend
  refine z_aload_n C dX1_highDenominator_0 0 rfl ?_
  refine z_iload_n C dX1_highDenominator_1 1 rfl ?_
  refine z_iconst (v := 1) C dX1_highDenominator_2 (by decide) ?_
  refine z_callVi_all (As := [.int p0, .int 1]) C (c1_asks l D K b N M S rl rh bl bh th fl fh pt nu de p0 1 (by omega) hok) (cwV 2 C.1.2.2.2.2 gX1_highDenominator_X1_asks rfl rfl rfl (by decide +kernel) ⟨Nat.le_of_ble_eq_true rfl, Nat.le_of_ble_eq_true rfl⟩) (ci := 3) rfl rfl 0 rfl dX1_highDenominator_3 rfl rfl (Nat.le_of_ble_eq_true rfl) ⟨Nat.le_of_ble_eq_true rfl, Nat.le_of_ble_eq_true rfl⟩ (fun r1 u1 h1 => ?_)
  obtain ⟨rfl, pt_1, rfl⟩ := h1
  refine z_if_eq (tgt := 16) C dX1_highDenominator_6 (by decide) (fun c6 => ?_) (fun c6 => ?_)
  · have q6 : ¬ ((kHul N M p0) = 0) := zi0.mp c6
    refine z_lconst (v := 0) C dX1_highDenominator_16 (by decide) ?_
    exact hend _ _ _ _ _ (N, M, S, rl, rh, bl, bh, (kHul N M p0), fl, fh, pt_1, onlyIf (kHul N M p0) (heN N M rl rh (ix p0) 1) nu, onlyIf (kHul N M p0) (heD N M rl rh (ix p0) 1) de) dX1_highDenominator_17 (Nat.zero_le _) (Nat.zero_le _) ⟨(onlyIf_1 q6).symm, _, rfl⟩
  · have q6 : (kHul N M p0) = 0 := zi1.mp c6
    refine z_aload_n C dX1_highDenominator_9 0 rfl ?_
    refine z_get (cl := vwCl) (T := TX1) (N := 13) (ci := 3) (ref := "IntervalSolverModel") C hinX1 rfl 12 (by decide) lk0 rfl dX1_highDenominator_10 0 rfl rfl ?_
    refine z_goto (tgt := 17) C dX1_highDenominator_13 (by decide) ?_
    exact hend _ _ _ _ _ (N, M, S, rl, rh, bl, bh, (kHul N M p0), fl, fh, pt_1, onlyIf (kHul N M p0) (heN N M rl rh (ix p0) 1) nu, onlyIf (kHul N M p0) (heD N M rl rh (ix p0) 1) de) dX1_highDenominator_17 (Nat.zero_le _) (Nat.zero_le _) ⟨by rw [onlyIf_0 q6, onlyIf_0 q6], _, rfl⟩

set_option maxRecDepth 100000 in
set_option maxHeartbeats 4000000 in
theorem c1_asksInverse (l : Launch) (D : va_G) (K : Nat → ClassId) (b : Nat → Nat) (N : Nat) (M : Nat → Nat → Int32) (S : Nat → Nat → Int32) (rl : Nat → Int32) (rh : Nat → Int32) (bl : Nat → Int32) (bh : Nat → Int32) (th : Int32) (fl : Nat → Int32) (fh : Nat → Int32) (pt : Nat → Int64) (nu : Int64) (de : Int64) (p0 : Int32) (p1 : Int32) (hN : N ≤ 5) (hok : okM N M S rl rh) : mI l D K yX1_asksInverse wsX1_asksInverse 3 72 0 0 [.ref (b 0), .int p0, .int p1] (w1 K b (N, M, S, rl, rh, bl, bh, th, fl, fh, pt, nu, de)) (fun r u => r = (if (kHul2 N M p0 p1) = 0 then 1 else 0) ∧ ∃ pt1, u = (N, M, S, rl, rh, bl, bh, (kHul2 N M p0 p1), fl, fh, pt1, onlyIf (kHul2 N M p0 p1) (rdN (cofM M N (ix p0) (ix p1)) (detM M N)) nu, onlyIf (kHul2 N M p0 p1) (rdD (cofM M N (ix p0) (ix p1)) (detM M N)) de)) (w1 K b) := by
  have hinX1 : ∀ w ∈ wsX10, w ∈ wsX1_asksInverse := by decide +kernel
  have lk0 : Cond.fieldLink RX1 45 "IntervalSolverModel" "thrown" "I" ∈ wsX1_asksInverse := by decide +kernel
  refine z_met_z (cc := cX1_asksInverse) (maxL := 3) (own := RX1) (lv := [(0, .ref (b 0)), (1, .int p0), (2, .int p1)]) (by decide) rfl rfl (Nat.le_of_ble_eq_true rfl) rfl ?_
  intro p e s m below meth c args Q A C hnm hend
  refine z_aload_n C dX1_asksInverse_0 0 rfl ?_
  refine z_aload_n C dX1_asksInverse_1 0 rfl ?_
  refine z_iload_n C dX1_asksInverse_2 1 rfl ?_
  refine z_callVi_all (As := [.int p0]) C (c1_isIndex l D K b N M S rl rh bl bh th fl fh pt nu de p0) (cwV 1 C.1.2.2.2.2 gX1_asksInverse_X1_isIndex rfl rfl rfl (by decide +kernel) ⟨Nat.le_of_ble_eq_true rfl, Nat.le_of_ble_eq_true rfl⟩) (ci := 3) rfl rfl 0 rfl dX1_asksInverse_3 rfl rfl (Nat.le_of_ble_eq_true rfl) ⟨Nat.le_of_ble_eq_true rfl, Nat.le_of_ble_eq_true rfl⟩ (fun r1 u1 h1 => ?_)
  obtain ⟨rfl, rfl⟩ := h1
  refine z_if_eq (tgt := 17) C dX1_asksInverse_6 (by decide) (fun c6 => ?_) (fun c6 => ?_)
  · have q6 : ¬ (ixP N p0) := zi0.mp c6
    refine z_iconst (v := 1) C dX1_asksInverse_17 (by decide) ?_
    refine z_goto (tgt := 33) C dX1_asksInverse_18 (by decide) ?_
    refine z_put (cl := vwCl) (T := TX1) (N := 13) (ci := 3) (ref := "IntervalSolverModel") (ws' := w1 K b (N, M, S, rl, rh, bl, bh, 1, fl, fh, pt, nu, de)) C hinX1 tyX1 tyX1_ok nmX1 rfl 0 (by decide) lk0 rfl rfl rfl rfl dX1_asksInverse_33 0 rfl (Nat.le_of_ble_eq_true rfl) rfl ?_
    refine z_aload_n C dX1_asksInverse_36 0 rfl ?_
    refine z_get (cl := vwCl) (T := TX1) (N := 13) (ci := 3) (ref := "IntervalSolverModel") C hinX1 rfl 0 (by decide) lk0 rfl dX1_asksInverse_37 0 rfl rfl ?_
    refine z_if_eq (tgt := 45) C dX1_asksInverse_40 (by decide) (fun c40 => ?_) (fun c40 => ?_)
    · exact absurd c40 (by decide)
    · refine z_iconst (v := 0) C dX1_asksInverse_43 (by decide) ?_
      exact hend _ _ _ _ _ (N, M, S, rl, rh, bl, bh, 1, fl, fh, pt, nu, de) dX1_asksInverse_44 (Nat.zero_le _) (Nat.zero_le _) (Or.inl rfl) (by have hk : (kHul2 N M p0 p1) = 1 := (if_neg (by rintro ⟨z1, z2⟩; first | exact q6 z1 | exact q14 z2)); rw [hk]; exact ⟨rfl, _, rfl⟩)
  · have q6 : ixP N p0 := zi1.mp c6
    obtain ⟨i_p0, l_p0⟩ := ixP_at hN q6
    refine z_aload_n C dX1_asksInverse_9 0 rfl ?_
    refine z_iload_n C dX1_asksInverse_10 2 rfl ?_
    refine z_callVi_all (As := [.int p1]) C (c1_isIndex l D K b N M S rl rh bl bh th fl fh pt nu de p1) (cwV 1 C.1.2.2.2.2 gX1_asksInverse_X1_isIndex rfl rfl rfl (by decide +kernel) ⟨Nat.le_of_ble_eq_true rfl, Nat.le_of_ble_eq_true rfl⟩) (ci := 3) rfl rfl 0 rfl dX1_asksInverse_11 rfl rfl (Nat.le_of_ble_eq_true rfl) ⟨Nat.le_of_ble_eq_true rfl, Nat.le_of_ble_eq_true rfl⟩ (fun r2 u2 h2 => ?_)
    obtain ⟨rfl, rfl⟩ := h2
    refine z_if_ne (tgt := 21) C dX1_asksInverse_14 (by decide) (fun c14 => ?_) (fun c14 => ?_)
    · have q14 : ixP N p1 := zi1.mp c14
      obtain ⟨i_p1, l_p1⟩ := ixP_at hN q14
      refine z_aload_n C dX1_asksInverse_21 0 rfl ?_
      refine z_callVi_all (As := []) C (c1_isSingular l D K b N M S rl rh bl bh th fl fh pt nu de (by omega)) (cwV 0 C.1.2.2.2.2 gX1_asksInverse_X1_isSingular rfl rfl rfl (by decide +kernel) ⟨Nat.le_of_ble_eq_true rfl, Nat.le_of_ble_eq_true rfl⟩) (ci := 3) rfl rfl 0 rfl dX1_asksInverse_22 rfl rfl (Nat.le_of_ble_eq_true rfl) ⟨Nat.le_of_ble_eq_true rfl, Nat.le_of_ble_eq_true rfl⟩ (fun r3 u3 h3 => ?_)
      obtain ⟨rfl, pt_3, rfl⟩ := h3
      refine z_if_eq (tgt := 32) C dX1_asksInverse_25 (by decide) (fun c25 => ?_) (fun c25 => ?_)
      · have q25 : ¬ (detM M N = 0) := zi0.mp c25
        have hd := q25
        refine z_iconst (v := 0) C dX1_asksInverse_32 (by decide) ?_
        refine z_put (cl := vwCl) (T := TX1) (N := 13) (ci := 3) (ref := "IntervalSolverModel") (ws' := w1 K b (N, M, S, rl, rh, bl, bh, 0, fl, fh, pt_3, nu, de)) C hinX1 tyX1 tyX1_ok nmX1 rfl 0 (by decide) lk0 rfl rfl rfl rfl dX1_asksInverse_33 0 rfl (Nat.le_of_ble_eq_true rfl) rfl ?_
        refine z_aload_n C dX1_asksInverse_36 0 rfl ?_
        refine z_get (cl := vwCl) (T := TX1) (N := 13) (ci := 3) (ref := "IntervalSolverModel") C hinX1 rfl 0 (by decide) lk0 rfl dX1_asksInverse_37 0 rfl rfl ?_
        refine z_if_eq (tgt := 45) C dX1_asksInverse_40 (by decide) (fun c40 => ?_) (fun c40 => ?_)
        · refine z_aload_n C dX1_asksInverse_45 0 rfl ?_
          refine z_aload_n C dX1_asksInverse_46 0 rfl ?_
          refine z_iload_n C dX1_asksInverse_47 1 rfl ?_
          refine z_topi (nI (ix p0)) i_p0 ?_
          refine z_iload_n C dX1_asksInverse_48 2 rfl ?_
          refine z_topi (nI (ix p1)) i_p1 ?_
          refine z_callVl_all (As := [.int (nI (ix p0)), .int (nI (ix p1))]) C (c1_cofactor l D K b N M S rl rh bl bh 0 fl fh pt_3 nu de (ix p0) (ix p1) (by omega) (by omega) (by omega)) (cwV 2 C.1.2.2.2.2 gX1_asksInverse_X1_cofactor rfl rfl rfl (by decide +kernel) ⟨Nat.le_of_ble_eq_true rfl, Nat.le_of_ble_eq_true rfl⟩) (ci := 3) rfl rfl 0 rfl dX1_asksInverse_49 rfl rfl (Nat.le_of_ble_eq_true rfl) ⟨Nat.le_of_ble_eq_true rfl, Nat.le_of_ble_eq_true rfl⟩ (fun r4 u4 h4 => ?_)
          obtain ⟨rfl, pt_4, rfl⟩ := h4
          refine z_aload_n C dX1_asksInverse_52 0 rfl ?_
          refine z_iconst (v := -1) C dX1_asksInverse_53 (by decide) ?_
          refine z_iconst (v := -1) C dX1_asksInverse_54 (by decide) ?_
          refine z_callVl_all (As := [.int (-1), .int (-1)]) C (c1_determinantWithout l D K b N M S rl rh bl bh 0 fl fh pt_4 nu de (-1) (-1) N 5 (by omega) (Or.inl ⟨rfl, rfl, rfl, rfl⟩)) (cwV 2 C.1.2.2.2.2 gX1_asksInverse_X1_determinantWithout rfl rfl rfl (by decide +kernel) ⟨Nat.le_of_ble_eq_true rfl, Nat.le_of_ble_eq_true rfl⟩) (ci := 3) rfl rfl 0 rfl dX1_asksInverse_55 rfl rfl (Nat.le_of_ble_eq_true rfl) ⟨Nat.le_of_ble_eq_true rfl, Nat.le_of_ble_eq_true rfl⟩ (fun r5 u5 h5 => ?_)
          obtain ⟨hr, pt_5, rfl⟩ := h5
          have hr_5 : r5 = detM M N := (hr.trans (congrArg _ (if_pos rfl))); clear hr; subst hr_5
          refine z_callVv_all (As := [.long (cofM M N (ix p0) (ix p1)), .long (detM M N)]) C (c1_reduce l D K b N M S rl rh bl bh 0 fl fh pt_5 nu de (cofM M N (ix p0) (ix p1)) (detM M N) (hok.2.2.1 (ix p0) (ix p1) (by omega) (by omega)) ((hok.1 hd).1)) (cwV 2 C.1.2.2.2.2 gX1_asksInverse_X1_reduce rfl rfl rfl (by decide +kernel) ⟨Nat.le_of_ble_eq_true rfl, Nat.le_of_ble_eq_true rfl⟩) (ci := 3) rfl rfl 0 rfl dX1_asksInverse_58 rfl rfl (Nat.le_of_ble_eq_true rfl) ⟨Nat.le_of_ble_eq_true rfl, Nat.le_of_ble_eq_true rfl⟩ (fun u6 h6 => ?_)
          subst h6
          refine z_iconst (v := 1) C dX1_asksInverse_61 (by decide) ?_
          exact hend _ _ _ _ _ (N, M, S, rl, rh, bl, bh, 0, fl, fh, pt_5, rdN (cofM M N (ix p0) (ix p1)) (detM M N), rdD (cofM M N (ix p0) (ix p1)) (detM M N)) dX1_asksInverse_62 (Nat.zero_le _) (Nat.zero_le _) (Or.inr rfl) (by have hk : (kHul2 N M p0 p1) = 0 := (by unfold kHul2; rw [if_pos ⟨q6, q14⟩, if_neg hd]); rw [hk]; exact ⟨rfl, _, rfl⟩)
        · exact absurd rfl c40
      · have q25 : detM M N = 0 := zi1.mp c25
        refine z_iconst (v := 2) C dX1_asksInverse_28 (by decide) ?_
        refine z_goto (tgt := 33) C dX1_asksInverse_29 (by decide) ?_
        refine z_put (cl := vwCl) (T := TX1) (N := 13) (ci := 3) (ref := "IntervalSolverModel") (ws' := w1 K b (N, M, S, rl, rh, bl, bh, 2, fl, fh, pt_3, nu, de)) C hinX1 tyX1 tyX1_ok nmX1 rfl 0 (by decide) lk0 rfl rfl rfl rfl dX1_asksInverse_33 0 rfl (Nat.le_of_ble_eq_true rfl) rfl ?_
        refine z_aload_n C dX1_asksInverse_36 0 rfl ?_
        refine z_get (cl := vwCl) (T := TX1) (N := 13) (ci := 3) (ref := "IntervalSolverModel") C hinX1 rfl 0 (by decide) lk0 rfl dX1_asksInverse_37 0 rfl rfl ?_
        refine z_if_eq (tgt := 45) C dX1_asksInverse_40 (by decide) (fun c40 => ?_) (fun c40 => ?_)
        · exact absurd c40 (by decide)
        · refine z_iconst (v := 0) C dX1_asksInverse_43 (by decide) ?_
          exact hend _ _ _ _ _ (N, M, S, rl, rh, bl, bh, 2, fl, fh, pt_3, nu, de) dX1_asksInverse_44 (Nat.zero_le _) (Nat.zero_le _) (Or.inl rfl) (by have hk : (kHul2 N M p0 p1) = 2 := (by unfold kHul2; rw [if_pos ⟨q6, q14⟩, if_pos q25]); rw [hk]; exact ⟨rfl, _, rfl⟩)
    · have q14 : ¬ (ixP N p1) := zi0.mp c14
      refine z_iconst (v := 1) C dX1_asksInverse_17 (by decide) ?_
      refine z_goto (tgt := 33) C dX1_asksInverse_18 (by decide) ?_
      refine z_put (cl := vwCl) (T := TX1) (N := 13) (ci := 3) (ref := "IntervalSolverModel") (ws' := w1 K b (N, M, S, rl, rh, bl, bh, 1, fl, fh, pt, nu, de)) C hinX1 tyX1 tyX1_ok nmX1 rfl 0 (by decide) lk0 rfl rfl rfl rfl dX1_asksInverse_33 0 rfl (Nat.le_of_ble_eq_true rfl) rfl ?_
      refine z_aload_n C dX1_asksInverse_36 0 rfl ?_
      refine z_get (cl := vwCl) (T := TX1) (N := 13) (ci := 3) (ref := "IntervalSolverModel") C hinX1 rfl 0 (by decide) lk0 rfl dX1_asksInverse_37 0 rfl rfl ?_
      refine z_if_eq (tgt := 45) C dX1_asksInverse_40 (by decide) (fun c40 => ?_) (fun c40 => ?_)
      · exact absurd c40 (by decide)
      · refine z_iconst (v := 0) C dX1_asksInverse_43 (by decide) ?_
        exact hend _ _ _ _ _ (N, M, S, rl, rh, bl, bh, 1, fl, fh, pt, nu, de) dX1_asksInverse_44 (Nat.zero_le _) (Nat.zero_le _) (Or.inl rfl) (by have hk : (kHul2 N M p0 p1) = 1 := (if_neg (by rintro ⟨z1, z2⟩; first | exact q6 z1 | exact q14 z2)); rw [hk]; exact ⟨rfl, _, rfl⟩)

set_option maxRecDepth 100000 in
set_option maxHeartbeats 4000000 in
theorem c1_inverseNumerator (l : Launch) (D : va_G) (K : Nat → ClassId) (b : Nat → Nat) (N : Nat) (M : Nat → Nat → Int32) (S : Nat → Nat → Int32) (rl : Nat → Int32) (rh : Nat → Int32) (bl : Nat → Int32) (bh : Nat → Int32) (th : Int32) (fl : Nat → Int32) (fh : Nat → Int32) (pt : Nat → Int64) (nu : Int64) (de : Int64) (p0 : Int32) (p1 : Int32) (hN : N ≤ 5) (hok : okM N M S rl rh) : mL l D K yX1_inverseNumerator wsX1_inverseNumerator 4 94 0 0 [.ref (b 0), .int p0, .int p1] (w1 K b (N, M, S, rl, rh, bl, bh, th, fl, fh, pt, nu, de)) (fun r u => r = onlyIf (kHul2 N M p0 p1) (rdN (cofM M N (ix p0) (ix p1)) (detM M N)) 0 ∧ ∃ pt1, u = (N, M, S, rl, rh, bl, bh, (kHul2 N M p0 p1), fl, fh, pt1, onlyIf (kHul2 N M p0 p1) (rdN (cofM M N (ix p0) (ix p1)) (detM M N)) nu, onlyIf (kHul2 N M p0 p1) (rdD (cofM M N (ix p0) (ix p1)) (detM M N)) de)) (w1 K b) := by
  have hinX1 : ∀ w ∈ wsX10, w ∈ wsX1_inverseNumerator := by decide +kernel
  have lk0 : Cond.fieldLink RX1 87 "IntervalSolverModel" "numerator" "J" ∈ wsX1_inverseNumerator := by decide +kernel
  refine z_met_l (cc := cX1_inverseNumerator) (maxL := 3) (own := RX1) (lv := [(0, .ref (b 0)), (1, .int p0), (2, .int p1)]) (by decide) rfl rfl (Nat.le_of_ble_eq_true rfl) rfl ?_
  intro p e s m below meth c args Q A C hnm hend
  refine z_aload_n C dX1_inverseNumerator_0 0 rfl ?_
  refine z_iload_n C dX1_inverseNumerator_1 1 rfl ?_
  refine z_iload_n C dX1_inverseNumerator_2 2 rfl ?_
  refine z_callVi_all (As := [.int p0, .int p1]) C (c1_asksInverse l D K b N M S rl rh bl bh th fl fh pt nu de p0 p1 (by omega) hok) (cwV 2 C.1.2.2.2.2 gX1_inverseNumerator_X1_asksInverse rfl rfl rfl (by decide +kernel) ⟨Nat.le_of_ble_eq_true rfl, Nat.le_of_ble_eq_true rfl⟩) (ci := 3) rfl rfl 0 rfl dX1_inverseNumerator_3 rfl rfl (Nat.le_of_ble_eq_true rfl) ⟨Nat.le_of_ble_eq_true rfl, Nat.le_of_ble_eq_true rfl⟩ (fun r1 u1 h1 => ?_)
  obtain ⟨rfl, pt_1, rfl⟩ := h1
  refine z_if_eq (tgt := 16) C dX1_inverseNumerator_6 (by decide) (fun c6 => ?_) (fun c6 => ?_)
  · have q6 : ¬ ((kHul2 N M p0 p1) = 0) := zi0.mp c6
    refine z_lconst (v := 0) C dX1_inverseNumerator_16 (by decide) ?_
    exact hend _ _ _ _ _ (N, M, S, rl, rh, bl, bh, (kHul2 N M p0 p1), fl, fh, pt_1, onlyIf (kHul2 N M p0 p1) (rdN (cofM M N (ix p0) (ix p1)) (detM M N)) nu, onlyIf (kHul2 N M p0 p1) (rdD (cofM M N (ix p0) (ix p1)) (detM M N)) de) dX1_inverseNumerator_17 (Nat.zero_le _) (Nat.zero_le _) ⟨(onlyIf_1 q6).symm, _, rfl⟩
  · have q6 : (kHul2 N M p0 p1) = 0 := zi1.mp c6
    refine z_aload_n C dX1_inverseNumerator_9 0 rfl ?_
    refine z_get (cl := vwCl) (T := TX1) (N := 13) (ci := 3) (ref := "IntervalSolverModel") C hinX1 rfl 11 (by decide) lk0 rfl dX1_inverseNumerator_10 0 rfl rfl ?_
    refine z_goto (tgt := 17) C dX1_inverseNumerator_13 (by decide) ?_
    exact hend _ _ _ _ _ (N, M, S, rl, rh, bl, bh, (kHul2 N M p0 p1), fl, fh, pt_1, onlyIf (kHul2 N M p0 p1) (rdN (cofM M N (ix p0) (ix p1)) (detM M N)) nu, onlyIf (kHul2 N M p0 p1) (rdD (cofM M N (ix p0) (ix p1)) (detM M N)) de) dX1_inverseNumerator_17 (Nat.zero_le _) (Nat.zero_le _) ⟨by rw [onlyIf_0 q6, onlyIf_0 q6], _, rfl⟩

set_option maxRecDepth 100000 in
set_option maxHeartbeats 4000000 in
theorem c1_inverseDenominator (l : Launch) (D : va_G) (K : Nat → ClassId) (b : Nat → Nat) (N : Nat) (M : Nat → Nat → Int32) (S : Nat → Nat → Int32) (rl : Nat → Int32) (rh : Nat → Int32) (bl : Nat → Int32) (bh : Nat → Int32) (th : Int32) (fl : Nat → Int32) (fh : Nat → Int32) (pt : Nat → Int64) (nu : Int64) (de : Int64) (p0 : Int32) (p1 : Int32) (hN : N ≤ 5) (hok : okM N M S rl rh) : mL l D K yX1_inverseDenominator wsX1_inverseDenominator 4 94 0 0 [.ref (b 0), .int p0, .int p1] (w1 K b (N, M, S, rl, rh, bl, bh, th, fl, fh, pt, nu, de)) (fun r u => r = onlyIf (kHul2 N M p0 p1) (rdD (cofM M N (ix p0) (ix p1)) (detM M N)) 0 ∧ ∃ pt1, u = (N, M, S, rl, rh, bl, bh, (kHul2 N M p0 p1), fl, fh, pt1, onlyIf (kHul2 N M p0 p1) (rdN (cofM M N (ix p0) (ix p1)) (detM M N)) nu, onlyIf (kHul2 N M p0 p1) (rdD (cofM M N (ix p0) (ix p1)) (detM M N)) de)) (w1 K b) := by
  have hinX1 : ∀ w ∈ wsX10, w ∈ wsX1_inverseDenominator := by decide +kernel
  have lk0 : Cond.fieldLink RX1 91 "IntervalSolverModel" "denominator" "J" ∈ wsX1_inverseDenominator := by decide +kernel
  refine z_met_l (cc := cX1_inverseDenominator) (maxL := 3) (own := RX1) (lv := [(0, .ref (b 0)), (1, .int p0), (2, .int p1)]) (by decide) rfl rfl (Nat.le_of_ble_eq_true rfl) rfl ?_
  intro p e s m below meth c args Q A C hnm hend
  refine z_aload_n C dX1_inverseDenominator_0 0 rfl ?_
  refine z_iload_n C dX1_inverseDenominator_1 1 rfl ?_
  refine z_iload_n C dX1_inverseDenominator_2 2 rfl ?_
  refine z_callVi_all (As := [.int p0, .int p1]) C (c1_asksInverse l D K b N M S rl rh bl bh th fl fh pt nu de p0 p1 (by omega) hok) (cwV 2 C.1.2.2.2.2 gX1_inverseDenominator_X1_asksInverse rfl rfl rfl (by decide +kernel) ⟨Nat.le_of_ble_eq_true rfl, Nat.le_of_ble_eq_true rfl⟩) (ci := 3) rfl rfl 0 rfl dX1_inverseDenominator_3 rfl rfl (Nat.le_of_ble_eq_true rfl) ⟨Nat.le_of_ble_eq_true rfl, Nat.le_of_ble_eq_true rfl⟩ (fun r1 u1 h1 => ?_)
  obtain ⟨rfl, pt_1, rfl⟩ := h1
  refine z_if_eq (tgt := 16) C dX1_inverseDenominator_6 (by decide) (fun c6 => ?_) (fun c6 => ?_)
  · have q6 : ¬ ((kHul2 N M p0 p1) = 0) := zi0.mp c6
    refine z_lconst (v := 0) C dX1_inverseDenominator_16 (by decide) ?_
    exact hend _ _ _ _ _ (N, M, S, rl, rh, bl, bh, (kHul2 N M p0 p1), fl, fh, pt_1, onlyIf (kHul2 N M p0 p1) (rdN (cofM M N (ix p0) (ix p1)) (detM M N)) nu, onlyIf (kHul2 N M p0 p1) (rdD (cofM M N (ix p0) (ix p1)) (detM M N)) de) dX1_inverseDenominator_17 (Nat.zero_le _) (Nat.zero_le _) ⟨(onlyIf_1 q6).symm, _, rfl⟩
  · have q6 : (kHul2 N M p0 p1) = 0 := zi1.mp c6
    refine z_aload_n C dX1_inverseDenominator_9 0 rfl ?_
    refine z_get (cl := vwCl) (T := TX1) (N := 13) (ci := 3) (ref := "IntervalSolverModel") C hinX1 rfl 12 (by decide) lk0 rfl dX1_inverseDenominator_10 0 rfl rfl ?_
    refine z_goto (tgt := 17) C dX1_inverseDenominator_13 (by decide) ?_
    exact hend _ _ _ _ _ (N, M, S, rl, rh, bl, bh, (kHul2 N M p0 p1), fl, fh, pt_1, onlyIf (kHul2 N M p0 p1) (rdN (cofM M N (ix p0) (ix p1)) (detM M N)) nu, onlyIf (kHul2 N M p0 p1) (rdD (cofM M N (ix p0) (ix p1)) (detM M N)) de) dX1_inverseDenominator_17 (Nat.zero_le _) (Nat.zero_le _) ⟨by rw [onlyIf_0 q6, onlyIf_0 q6], _, rfl⟩
