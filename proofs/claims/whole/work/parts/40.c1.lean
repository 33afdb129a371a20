set_option maxRecDepth 100000 in
set_option maxHeartbeats 4000000 in
theorem c1_thrown (l : Launch) (D : va_G) (K : Nat → ClassId) (b : Nat → Nat) (N : Nat) (M : Nat → Nat → Int32) (S : Nat → Nat → Int32) (rl : Nat → Int32) (rh : Nat → Int32) (bl : Nat → Int32) (bh : Nat → Int32) (th : Int32) (fl : Nat → Int32) (fh : Nat → Int32) (pt : Nat → Int64) (nu : Int64) (de : Int64) : mI l D K yX1_thrown wsX1_thrown 0 0 0 0 [.ref (b 0)] (w1 K b (N, M, S, rl, rh, bl, bh, th, fl, fh, pt, nu, de)) (fun r u => r = th ∧ u = (N, M, S, rl, rh, bl, bh, th, fl, fh, pt, nu, de)) (w1 K b) := by
  have hinX1 : ∀ w ∈ wsX10, w ∈ wsX1_thrown := by decide +kernel
  have lk0 : Cond.fieldLink RX1 45 "IntervalSolverModel" "thrown" "I" ∈ wsX1_thrown := by decide +kernel
  refine z_met_i (cc := cX1_thrown) (maxL := 1) (own := RX1) (lv := [(0, .ref (b 0))]) (by decide) rfl rfl (Nat.le_of_ble_eq_true rfl) rfl ?_
  intro p e s m below meth c args Q A C hnm hend
  refine z_aload_n C dX1_thrown_0 0 rfl ?_
  refine z_get (cl := vwCl) (T := TX1) (N := 13) (ci := 3) (ref := "IntervalSolverModel") C hinX1 rfl 0 (by decide) lk0 rfl dX1_thrown_1 0 rfl rfl ?_
  exact hend _ _ _ _ _ (N, M, S, rl, rh, bl, bh, th, fl, fh, pt, nu, de) dX1_thrown_4 (Nat.zero_le _) (Nat.zero_le _) ⟨rfl, rfl⟩

set_option maxRecDepth 100000 in
set_option maxHeartbeats 4000000 in
theorem c1_fail (l : Launch) (D : va_G) (K : Nat → ClassId) (b : Nat → Nat) (N : Nat) (M : Nat → Nat → Int32) (S : Nat → Nat → Int32) (rl : Nat → Int32) (rh : Nat → Int32) (bl : Nat → Int32) (bh : Nat → Int32) (th : Int32) (fl : Nat → Int32) (fh : Nat → Int32) (pt : Nat → Int64) (nu : Int64) (de : Int64) (p0 : Int32) : mI l D K yX1_fail wsX1_fail 0 0 0 0 [.ref (b 0), .int p0] (w1 K b (N, M, S, rl, rh, bl, bh, th, fl, fh, pt, nu, de)) (fun r u => r = 0 ∧ u = (N, M, S, rl, rh, bl, bh, p0, fl, fh, pt, nu, de)) (w1 K b) := by
  have hinX1 : ∀ w ∈ wsX10, w ∈ wsX1_fail := by decide +kernel
  have lk0 : Cond.fieldLink RX1 45 "IntervalSolverModel" "thrown" "I" ∈ wsX1_fail := by decide +kernel
  refine z_met_i (cc := cX1_fail) (maxL := 2) (own := RX1) (lv := [(0, .ref (b 0)), (1, .int p0)]) (by decide) rfl rfl (Nat.le_of_ble_eq_true rfl) rfl ?_
  intro p e s m below meth c args Q A C hnm hend
  refine z_aload_n C dX1_fail_0 0 rfl ?_
  refine z_iload_n C dX1_fail_1 1 rfl ?_
  refine z_put (cl := vwCl) (T := TX1) (N := 13) (ci := 3) (ref := "IntervalSolverModel") (ws' := w1 K b (N, M, S, rl, rh, bl, bh, p0, fl, fh, pt, nu, de)) C hinX1 tyX1 tyX1_ok nmX1 rfl 0 (by decide) lk0 rfl rfl rfl rfl dX1_fail_2 0 rfl (Nat.le_of_ble_eq_true rfl) rfl ?_
  refine z_iconst (v := 0) C dX1_fail_5 (by decide) ?_
  exact hend _ _ _ _ _ (N, M, S, rl, rh, bl, bh, p0, fl, fh, pt, nu, de) dX1_fail_6 (Nat.zero_le _) (Nat.zero_le _) ⟨rfl, rfl⟩

set_option maxRecDepth 100000 in
set_option maxHeartbeats 4000000 in
theorem c1_isIndex (l : Launch) (D : va_G) (K : Nat → ClassId) (b : Nat → Nat) (N : Nat) (M : Nat → Nat → Int32) (S : Nat → Nat → Int32) (rl : Nat → Int32) (rh : Nat → Int32) (bl : Nat → Int32) (bh : Nat → Int32) (th : Int32) (fl : Nat → Int32) (fh : Nat → Int32) (pt : Nat → Int64) (nu : Int64) (de : Int64) (p0 : Int32) : mI l D K yX1_isIndex wsX1_isIndex 0 0 0 0 [.ref (b 0), .int p0] (w1 K b (N, M, S, rl, rh, bl, bh, th, fl, fh, pt, nu, de)) (fun r u => r = (if ixP N p0 then 1 else 0) ∧ u = (N, M, S, rl, rh, bl, bh, th, fl, fh, pt, nu, de)) (w1 K b) := by
  have hinX1 : ∀ w ∈ wsX10, w ∈ wsX1_isIndex := by decide +kernel
  have lk0 : Cond.fieldLink RX1 7 "IntervalSolverModel" "n" "I" ∈ wsX1_isIndex := by decide +kernel
  refine z_met_z (cc := cX1_isIndex) (maxL := 2) (own := RX1) (lv := [(0, .ref (b 0)), (1, .int p0)]) (by decide) rfl rfl (Nat.le_of_ble_eq_true rfl) rfl ?_
  intro p e s m below meth c args Q A C hnm hend
  refine z_iload_n C dX1_isIndex_0 1 rfl ?_
  refine z_if_lt (tgt := 16) C dX1_isIndex_1 (by decide) (fun c1 => ?_) (fun c1 => ?_)
  · refine z_iconst (v := 0) C dX1_isIndex_16 (by decide) ?_
    exact hend _ _ _ _ _ (N, M, S, rl, rh, bl, bh, th, fl, fh, pt, nu, de) dX1_isIndex_17 (Nat.zero_le _) (Nat.zero_le _) (Or.inl rfl) ⟨by rw [if_neg]; rintro ⟨h1, h2⟩; first | exact absurd h1 (Int32.not_le.mpr c1) | exact absurd h2 (Int32.not_lt.mpr c9), rfl⟩
  · refine z_iload_n C dX1_isIndex_4 1 rfl ?_
    refine z_aload_n C dX1_isIndex_5 0 rfl ?_
    refine z_get (cl := vwCl) (T := TX1) (N := 13) (ci := 3) (ref := "IntervalSolverModel") C hinX1 rfl 1 (by decide) lk0 rfl dX1_isIndex_6 0 rfl rfl ?_
    refine z_icmp_ge (tgt := 16) C dX1_isIndex_9 (by decide) (fun c9 => ?_) (fun c9 => ?_)
    · refine z_iconst (v := 0) C dX1_isIndex_16 (by decide) ?_
      exact hend _ _ _ _ _ (N, M, S, rl, rh, bl, bh, th, fl, fh, pt, nu, de) dX1_isIndex_17 (Nat.zero_le _) (Nat.zero_le _) (Or.inl rfl) ⟨by rw [if_neg]; rintro ⟨h1, h2⟩; first | exact absurd h1 (Int32.not_le.mpr c1) | exact absurd h2 (Int32.not_lt.mpr c9), rfl⟩
    · refine z_iconst (v := 1) C dX1_isIndex_12 (by decide) ?_
      refine z_goto (tgt := 17) C dX1_isIndex_13 (by decide) ?_
      exact hend _ _ _ _ _ (N, M, S, rl, rh, bl, bh, th, fl, fh, pt, nu, de) dX1_isIndex_17 (Nat.zero_le _) (Nat.zero_le _) (Or.inr rfl) ⟨by rw [if_pos]; constructor; exact Int32.not_lt.mp c1; exact Int32.not_le.mp c9, rfl⟩

set_option maxRecDepth 100000 in
set_option maxHeartbeats 4000000 in
theorem c1_at (l : Launch) (D : va_G) (K : Nat → ClassId) (p0 : Int32) (p1 : Int32) : mI l D K yX1_at wsX1_at 0 0 0 0 [.int p0, .int p1] ([]) (fun r (_ : Unit) => r = 5 * p0 + p1) (wN) := by
  refine z_met_i (cc := cX1_at) (maxL := 2) (own := RX1) (lv := [(0, .int p0), (1, .int p1)]) (by decide) rfl rfl (Nat.le_of_ble_eq_true rfl) rfl ?_
  intro p e s m below meth c args Q A C hnm hend
  refine z_iconst (v := 5) C dX1_at_0 (by decide) ?_
  refine z_iload_n C dX1_at_1 0 rfl ?_
  refine z_imul C dX1_at_2 ?_
  refine z_iload_n C dX1_at_3 1 rfl ?_
  refine z_iadd C dX1_at_4 ?_
  exact hend _ _ _ _ _ () dX1_at_5 (Nat.zero_le _) (Nat.zero_le _) rfl

set_option maxRecDepth 100000 in
set_option maxHeartbeats 4000000 in
theorem c1_clear (l : Launch) (D : va_G) (K : Nat → ClassId) (b : Nat → Nat) (N : Nat) (M : Nat → Nat → Int32) (S : Nat → Nat → Int32) (rl : Nat → Int32) (rh : Nat → Int32) (bl : Nat → Int32) (bh : Nat → Int32) (th : Int32) (fl : Nat → Int32) (fh : Nat → Int32) (pt : Nat → Int64) (nu : Int64) (de : Int64) : mV l D K yX1_clear wsX1_clear 1 21 0 0 [.ref (b 0)] (w1 K b (N, M, S, rl, rh, bl, bh, th, fl, fh, pt, nu, de)) (fun u => u = (N, matz M 5, matz S 5, vecz rl 0 5, vecz rh 0 5, vecz bl (-1000000000) 5, vecz bh 1000000000 5, th, fl, fh, pt, nu, de)) (w1 K b) := by
  have hinX1 : ∀ w ∈ wsX10, w ∈ wsX1_clear := by decide +kernel
  have lk0 : Cond.fieldLink RX1 20 "IntervalSolverModel" "lows" "[I" ∈ wsX1_clear := by decide +kernel
  have lk1 : Cond.fieldLink RX1 23 "IntervalSolverModel" "highs" "[I" ∈ wsX1_clear := by decide +kernel
  have lk2 : Cond.fieldLink RX1 26 "IntervalSolverModel" "boxLows" "[I" ∈ wsX1_clear := by decide +kernel
  have lk3 : Cond.constant RX1 52 (-1000000000) ∈ wsX1_clear := by decide +kernel
  have lk4 : Cond.fieldLink RX1 29 "IntervalSolverModel" "boxHighs" "[I" ∈ wsX1_clear := by decide +kernel
  have lk5 : Cond.constant RX1 53 (1000000000) ∈ wsX1_clear := by decide +kernel
  have lk6 : Cond.fieldLink RX1 13 "IntervalSolverModel" "a" "[I" ∈ wsX1_clear := by decide +kernel
  have lk7 : Cond.fieldLink RX1 17 "IntervalSolverModel" "spreads" "[I" ∈ wsX1_clear := by decide +kernel
  refine z_met_v (cc := cX1_clear) (maxL := 3) (own := RX1) (lv := [(0, .ref (b 0))]) (by decide) rfl rfl (Nat.le_of_ble_eq_true rfl) rfl ?_
  intro p e s m below meth c args Q A C hnm hend
  refine z_iconst (v := 0) C dX1_clear_0 (by decide) ?_
  refine z_istore_n (lv' := [(0, .ref (b 0)), (1, .int 0)]) C dX1_clear_1 (by decide) [1, 0] rfl ?_
  suffices L2 : ∀ (f2_i i : Nat), 0 ≤ i → i ≤ 5 → 5 < i + f2_i → zW p l e { frames := 1, cells := 0, slots := 0, locals := 21 } s m args below meth c Q 3 A s.heap D vwCl 0 0 (w1 K b (N, matz M i, matz S i, vecz rl 0 i, vecz rh 0 i, vecz bl (-1000000000) i, vecz bh 1000000000 i, th, fl, fh, pt, nu, de)) 2 ([(0, .ref (b 0)), (1, .int (nI i))]) [] from L2 (5 + 1) 0 (Nat.le_refl _) (by omega) (by omega)
  intro f2_i
  induction f2_i with
  | zero => intro i h0 h1 h2; exact absurd h2 (by omega)
  | succ f2_i ih2_i =>
    intro i g2_0 g2_1 g2_2
    refine z_iload_n C dX1_clear_2 1 rfl ?_
    refine z_iconst (v := 5) C dX1_clear_3 (by decide) ?_
    refine z_icmp_ge (tgt := 78) C dX1_clear_4 (by decide) (fun c4 => ?_) (fun c4 => ?_)
    · have e4 : i = 5 := by have := (nI_leI (a := 5) (b := i) (by omega) (by omega)).mp c4; omega
      rw [e4]
      exact hend _ _ _ _ (N, matz M 5, matz S 5, vecz rl 0 5, vecz rh 0 5, vecz bl (-1000000000) 5, vecz bh 1000000000 5, th, fl, fh, pt, nu, de) dX1_clear_78 (Nat.zero_le _) (Nat.zero_le _) rfl
    · have e4 : i < 5 := by have := mt (nI_leI (a := 5) (b := i) (by omega) (by omega)).mpr c4; omega
      refine z_iconst (v := 0) C dX1_clear_7 (by decide) ?_
      refine z_istore_n (lv' := [(0, .ref (b 0)), (1, .int (nI i)), (2, .int 0)]) C dX1_clear_8 (by decide) [1, 2, 0] rfl ?_
      suffices L9 : ∀ (f9_j j : Nat), 0 ≤ j → j ≤ 5 → 5 < j + f9_j → zW p l e { frames := 1, cells := 0, slots := 0, locals := 21 } s m args below meth c Q 3 A s.heap D vwCl 0 0 (w1 K b (N, rowz (matz M i) i j, rowz (matz S i) i j, vecz rl 0 i, vecz rh 0 i, vecz bl (-1000000000) i, vecz bh 1000000000 i, th, fl, fh, pt, nu, de)) 9 ([(0, .ref (b 0)), (1, .int (nI i)), (2, .int (nI j))]) [] from L9 (5 + 1) 0 (Nat.le_refl _) (by omega) (by omega)
      intro f9_j
      induction f9_j with
      | zero => intro j h0 h1 h2; exact absurd h2 (by omega)
      | succ f9_j ih9_j =>
        intro j g9_0 g9_1 g9_2
        refine z_iload_n C dX1_clear_9 2 rfl ?_
        refine z_iconst (v := 5) C dX1_clear_10 (by decide) ?_
        refine z_icmp_ge (tgt := 42) C dX1_clear_11 (by decide) (fun c11 => ?_) (fun c11 => ?_)
        · have e11 : j = 5 := by have := (nI_leI (a := 5) (b := j) (by omega) (by omega)).mp c11; omega
          rw [e11]
          refine z_aload_n C dX1_clear_42 0 rfl ?_
          refine z_get (cl := vwCl) (T := TX1) (N := 13) (ci := 3) (ref := "IntervalSolverModel") C hinX1 rfl 4 (by decide) lk0 rfl dX1_clear_43 0 rfl rfl ?_
          refine z_iload_n C dX1_clear_46 1 rfl ?_
          refine z_iconst (v := 0) C dX1_clear_47 (by decide) ?_
          refine z_iast (ws' := w1 K b (N, rowz (matz M i) i 5, rowz (matz S i) i 5, upd (vecz rl 0 i) i 0, vecz rh 0 i, vecz bl (-1000000000) i, vecz bh 1000000000 i, th, fl, fh, pt, nu, de)) C 0 rfl 3 rfl dX1_clear_48 i rfl (by omega) (by decide) rfl ?_
          refine z_aload_n C dX1_clear_49 0 rfl ?_
          refine z_get (cl := vwCl) (T := TX1) (N := 13) (ci := 3) (ref := "IntervalSolverModel") C hinX1 rfl 5 (by decide) lk1 rfl dX1_clear_50 0 rfl rfl ?_
          refine z_iload_n C dX1_clear_53 1 rfl ?_
          refine z_iconst (v := 0) C dX1_clear_54 (by decide) ?_
          refine z_iast (ws' := w1 K b (N, rowz (matz M i) i 5, rowz (matz S i) i 5, upd (vecz rl 0 i) i 0, upd (vecz rh 0 i) i 0, vecz bl (-1000000000) i, vecz bh 1000000000 i, th, fl, fh, pt, nu, de)) C 0 rfl 4 rfl dX1_clear_55 i rfl (by omega) (by decide) rfl ?_
          refine z_aload_n C dX1_clear_56 0 rfl ?_
          refine z_get (cl := vwCl) (T := TX1) (N := 13) (ci := 3) (ref := "IntervalSolverModel") C hinX1 rfl 6 (by decide) lk2 rfl dX1_clear_57 0 rfl rfl ?_
          refine z_iload_n C dX1_clear_60 1 rfl ?_
          refine z_ldc C lk3 dX1_clear_61 ?_
          refine z_iast (ws' := w1 K b (N, rowz (matz M i) i 5, rowz (matz S i) i 5, upd (vecz rl 0 i) i 0, upd (vecz rh 0 i) i 0, upd (vecz bl (-1000000000) i) i (-1000000000), vecz bh 1000000000 i, th, fl, fh, pt, nu, de)) C 0 rfl 5 rfl dX1_clear_63 i rfl (by omega) (by decide) rfl ?_
          refine z_aload_n C dX1_clear_64 0 rfl ?_
          refine z_get (cl := vwCl) (T := TX1) (N := 13) (ci := 3) (ref := "IntervalSolverModel") C hinX1 rfl 7 (by decide) lk4 rfl dX1_clear_65 0 rfl rfl ?_
          refine z_iload_n C dX1_clear_68 1 rfl ?_
          refine z_ldc C lk5 dX1_clear_69 ?_
          refine z_iast (ws' := w1 K b (N, rowz (matz M i) i 5, rowz (matz S i) i 5, upd (vecz rl 0 i) i 0, upd (vecz rh 0 i) i 0, upd (vecz bl (-1000000000) i) i (-1000000000), upd (vecz bh 1000000000 i) i (1000000000), th, fl, fh, pt, nu, de)) C 0 rfl 6 rfl dX1_clear_71 i rfl (by omega) (by decide) rfl ?_
          refine z_iinc (v := nI (i + 1)) (lv' := [(0, .ref (b 0)), (1, .int (nI (i + 1))), (2, .int (nI 5))]) C dX1_clear_72 (k := 1) rfl (nI_1 i) (by decide) [1, 0, 2] rfl ?_
          refine z_goto (tgt := 2) C dX1_clear_75 (by decide) ?_
          refine z_lv (lv' := [(0, .ref (b 0)), (1, .int (nI (i + 1)))]) [0, 1] rfl ?_
          exact ih2_i (i + 1) (by omega) (by omega) (by omega)
        · have e11 : j < 5 := by have := mt (nI_leI (a := 5) (b := j) (by omega) (by omega)).mpr c11; omega
          refine z_aload_n C dX1_clear_14 0 rfl ?_
          refine z_get (cl := vwCl) (T := TX1) (N := 13) (ci := 3) (ref := "IntervalSolverModel") C hinX1 rfl 2 (by decide) lk6 rfl dX1_clear_15 0 rfl rfl ?_
          refine z_iload_n C dX1_clear_18 1 rfl ?_
          refine z_iload_n C dX1_clear_19 2 rfl ?_
          refine z_callSi_none (As := [.int (nI i), .int (nI j)]) C (c1_at l D K (nI i) (nI j)) (va_cwS 2 C.1.2.2.2.2 gX1_clear_X1_at rfl rfl rfl (by decide +kernel) ⟨Nat.le_of_ble_eq_true rfl, Nat.le_of_ble_eq_true rfl⟩) dX1_clear_20 rfl rfl (Nat.le_of_ble_eq_true rfl) ⟨Nat.le_of_ble_eq_true rfl, Nat.le_of_ble_eq_true rfl⟩ (fun r1 u1 h1 => ?_)
          subst h1
          refine z_topi (nI (5 * i + j)) (at_eq rfl rfl) ?_
          refine z_iconst (v := 0) C dX1_clear_23 (by decide) ?_
          refine z_iast (ws' := w1 K b (N, up2 (rowz (matz M i) i j) i j 0, rowz (matz S i) i j, vecz rl 0 i, vecz rh 0 i, vecz bl (-1000000000) i, vecz bh 1000000000 i, th, fl, fh, pt, nu, de)) C 0 rfl 1 rfl dX1_clear_24 (5 * i + j) rfl (by omega) (by decide) (by rw [fl5_up (rowz (matz M i) i j) i j 0 (by omega)]; rfl) ?_
          refine z_aload_n C dX1_clear_25 0 rfl ?_
          refine z_get (cl := vwCl) (T := TX1) (N := 13) (ci := 3) (ref := "IntervalSolverModel") C hinX1 rfl 3 (by decide) lk7 rfl dX1_clear_26 0 rfl rfl ?_
          refine z_iload_n C dX1_clear_29 1 rfl ?_
          refine z_iload_n C dX1_clear_30 2 rfl ?_
          refine z_callSi_none (As := [.int (nI i), .int (nI j)]) C (c1_at l D K (nI i) (nI j)) (va_cwS 2 C.1.2.2.2.2 gX1_clear_X1_at rfl rfl rfl (by decide +kernel) ⟨Nat.le_of_ble_eq_true rfl, Nat.le_of_ble_eq_true rfl⟩) dX1_clear_31 rfl rfl (Nat.le_of_ble_eq_true rfl) ⟨Nat.le_of_ble_eq_true rfl, Nat.le_of_ble_eq_true rfl⟩ (fun r2 u2 h2 => ?_)
          subst h2
          refine z_topi (nI (5 * i + j)) (at_eq rfl rfl) ?_
          refine z_iconst (v := 0) C dX1_clear_34 (by decide) ?_
          refine z_iast (ws' := w1 K b (N, up2 (rowz (matz M i) i j) i j 0, up2 (rowz (matz S i) i j) i j 0, vecz rl 0 i, vecz rh 0 i, vecz bl (-1000000000) i, vecz bh 1000000000 i, th, fl, fh, pt, nu, de)) C 0 rfl 2 rfl dX1_clear_35 (5 * i + j) rfl (by omega) (by decide) (by rw [fl5_up (rowz (matz S i) i j) i j 0 (by omega)]; rfl) ?_
          refine z_iinc (v := nI (j + 1)) (lv' := [(0, .ref (b 0)), (1, .int (nI i)), (2, .int (nI (j + 1)))]) C dX1_clear_36 (k := 2) rfl (nI_1 j) (by decide) [1, 2, 0] rfl ?_
          refine z_goto (tgt := 9) C dX1_clear_39 (by decide) ?_
          exact ih9_j (j + 1) (by omega) (by omega) (by omega)
