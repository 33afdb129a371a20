set_option maxRecDepth 100000 in
set_option maxHeartbeats 4000000 in
theorem c1_swapRows (l : Launch) (D : va_G) (K : Nat → ClassId) (b : Nat → Nat) (N : Nat) (M : Nat → Nat → Int32) (S : Nat → Nat → Int32) (rl : Nat → Int32) (rh : Nat → Int32) (bl : Nat → Int32) (bh : Nat → Int32) (th : Int32) (fl : Nat → Int32) (fh : Nat → Int32) (pt : Nat → Int64) (nu : Int64) (de : Int64) (p0 : Int32) (p1 : Int32) (hN : N ≤ 5) : mI l D K yX1_swapRows wsX1_swapRows 1 23 0 0 [.ref (b 0), .int p0, .int p1] (w1 K b (N, M, S, rl, rh, bl, bh, th, fl, fh, pt, nu, de)) (fun r u => r = onlyIf (kIx2 N p0 p1) (neI p0 p1) 0 ∧ u = (N, onlyIf (kIx2 N p0 p1) (swpM M (ix p0) (ix p1) N) M, onlyIf (kIx2 N p0 p1) (swpM S (ix p0) (ix p1) N) S, onlyIf (kIx2 N p0 p1) (swpV rl (ix p0) (ix p1)) rl, onlyIf (kIx2 N p0 p1) (swpV rh (ix p0) (ix p1)) rh, bl, bh, (kIx2 N p0 p1), fl, fh, pt, nu, de)) (w1 K b) := by
  have hinX1 : ∀ w ∈ wsX10, w ∈ wsX1_swapRows := by decide +kernel
  have lk0 : Cond.fieldLink RX1 45 "IntervalSolverModel" "thrown" "I" ∈ wsX1_swapRows := by decide +kernel
  have lk1 : Cond.fieldLink RX1 7 "IntervalSolverModel" "n" "I" ∈ wsX1_swapRows := by decide +kernel
  have lk2 : Cond.fieldLink RX1 20 "IntervalSolverModel" "lows" "[I" ∈ wsX1_swapRows := by decide +kernel
  have lk3 : Cond.fieldLink RX1 23 "IntervalSolverModel" "highs" "[I" ∈ wsX1_swapRows := by decide +kernel
  have lk4 : Cond.fieldLink RX1 13 "IntervalSolverModel" "a" "[I" ∈ wsX1_swapRows := by decide +kernel
  have lk5 : Cond.fieldLink RX1 17 "IntervalSolverModel" "spreads" "[I" ∈ wsX1_swapRows := by decide +kernel
  refine z_met_z (cc := cX1_swapRows) (maxL := 4) (own := RX1) (lv := [(0, .ref (b 0)), (1, .int p0), (2, .int p1)]) (by decide) rfl rfl (Nat.le_of_ble_eq_true rfl) rfl ?_
  intro p e s m below meth c args Q A C hnm hend
  refine z_aload_n C dX1_swapRows_0 0 rfl ?_
  refine z_iconst (v := 0) C dX1_swapRows_1 (by decide) ?_
  refine z_put (cl := vwCl) (T := TX1) (N := 13) (ci := 3) (ref := "IntervalSolverModel") (ws' := w1 K b (N, M, S, rl, rh, bl, bh, 0, fl, fh, pt, nu, de)) C hinX1 tyX1 tyX1_ok nmX1 rfl 0 (by decide) lk0 rfl rfl rfl rfl dX1_swapRows_2 0 rfl (Nat.le_of_ble_eq_true rfl) rfl ?_
  refine z_aload_n C dX1_swapRows_5 0 rfl ?_
  refine z_iload_n C dX1_swapRows_6 1 rfl ?_
  refine z_callVi_all (As := [.int p0]) C (c1_isIndex l D K b N M S rl rh bl bh 0 fl fh pt nu de p0) (cwV 1 C.1.2.2.2.2 gX1_swapRows_X1_isIndex rfl rfl rfl (by decide +kernel) ⟨Nat.le_of_ble_eq_true rfl, Nat.le_of_ble_eq_true rfl⟩) (ci := 3) rfl rfl 0 rfl dX1_swapRows_7 rfl rfl (Nat.le_of_ble_eq_true rfl) ⟨Nat.le_of_ble_eq_true rfl, Nat.le_of_ble_eq_true rfl⟩ (fun r1 u1 h1 => ?_)
  obtain ⟨rfl, rfl⟩ := h1
  refine z_if_eq (tgt := 21) C dX1_swapRows_10 (by decide) (fun c10 => ?_) (fun c10 => ?_)
  · have q10 : ¬ (ixP N p0) := zi0.mp c10
    refine z_aload_n C dX1_swapRows_21 0 rfl ?_
    refine z_iconst (v := 1) C dX1_swapRows_22 (by decide) ?_
    refine z_callVi_all (As := [.int 1]) C (c1_fail l D K b N M S rl rh bl bh 0 fl fh pt nu de 1) (cwV 1 C.1.2.2.2.2 gX1_swapRows_X1_fail rfl rfl rfl (by decide +kernel) ⟨Nat.le_of_ble_eq_true rfl, Nat.le_of_ble_eq_true rfl⟩) (ci := 3) rfl rfl 0 rfl dX1_swapRows_23 rfl rfl (Nat.le_of_ble_eq_true rfl) ⟨Nat.le_of_ble_eq_true rfl, Nat.le_of_ble_eq_true rfl⟩ (fun r2 u2 h2 => ?_)
    obtain ⟨rfl, rfl⟩ := h2
    refine z_if_eq (tgt := 33) C dX1_swapRows_26 (by decide) (fun c26 => ?_) (fun c26 => ?_)
    · refine z_iconst (v := 0) C dX1_swapRows_33 (by decide) ?_
      exact hend _ _ _ _ _ (N, M, S, rl, rh, bl, bh, 1, fl, fh, pt, nu, de) dX1_swapRows_34 (Nat.zero_le _) (Nat.zero_le _) (Or.inl rfl) (by have hk : (kIx2 N p0 p1) = 1 := (if_neg (by rintro ⟨h1, h2⟩; first | exact q10 h1 | exact q18 h2)); rw [hk]; exact ⟨rfl, rfl⟩)
    · exact absurd rfl c26
  · have q10 : ixP N p0 := zi1.mp c10
    obtain ⟨i_p0, l_p0⟩ := ixP_at hN q10
    refine z_aload_n C dX1_swapRows_13 0 rfl ?_
    refine z_iload_n C dX1_swapRows_14 2 rfl ?_
    refine z_callVi_all (As := [.int p1]) C (c1_isIndex l D K b N M S rl rh bl bh 0 fl fh pt nu de p1) (cwV 1 C.1.2.2.2.2 gX1_swapRows_X1_isIndex rfl rfl rfl (by decide +kernel) ⟨Nat.le_of_ble_eq_true rfl, Nat.le_of_ble_eq_true rfl⟩) (ci := 3) rfl rfl 0 rfl dX1_swapRows_15 rfl rfl (Nat.le_of_ble_eq_true rfl) ⟨Nat.le_of_ble_eq_true rfl, Nat.le_of_ble_eq_true rfl⟩ (fun r3 u3 h3 => ?_)
    obtain ⟨rfl, rfl⟩ := h3
    refine z_if_ne (tgt := 35) C dX1_swapRows_18 (by decide) (fun c18 => ?_) (fun c18 => ?_)
    · have q18 : ixP N p1 := zi1.mp c18
      obtain ⟨i_p1, l_p1⟩ := ixP_at hN q18
      refine z_iconst (v := 0) C dX1_swapRows_35 (by decide) ?_
      refine z_istore_n (lv' := [(0, .ref (b 0)), (1, .int p0), (2, .int p1), (3, .int 0)]) C dX1_swapRows_36 (by decide) [1, 2, 3, 0] rfl ?_
      suffices L37 : ∀ (f37_j j : Nat), 0 ≤ j → j ≤ N → N < j + f37_j → zW p l e { frames := 1, cells := 0, slots := 0, locals := 23 } s m args below meth c Q 4 A s.heap D vwCl 0 0 (w1 K b (N, swpM M (ix p0) (ix p1) j, swpM S (ix p0) (ix p1) j, rl, rh, bl, bh, 0, fl, fh, pt, nu, de)) 37 ([(0, .ref (b 0)), (1, .int p0), (2, .int p1), (3, .int (nI j))]) [] from L37 (N + 1) 0 (Nat.le_refl _) (by omega) (by omega)
      intro f37_j
      induction f37_j with
      | zero => intro j h0 h1 h2; exact absurd h2 (by omega)
      | succ f37_j ih37_j =>
        intro j g37_0 g37_1 g37_2
        refine z_iload_n C dX1_swapRows_37 3 rfl ?_
        refine z_aload_n C dX1_swapRows_38 0 rfl ?_
        refine z_get (cl := vwCl) (T := TX1) (N := 13) (ci := 3) (ref := "IntervalSolverModel") C hinX1 rfl 1 (by decide) lk1 rfl dX1_swapRows_39 0 rfl rfl ?_
        refine z_icmp_ge (tgt := 85) C dX1_swapRows_42 (by decide) (fun c42 => ?_) (fun c42 => ?_)
        · have e42 : j = N := by have := (nI_leI (a := N) (b := j) (by omega) (by omega)).mp c42; omega
          rw [e42]
          refine z_aload_n C dX1_swapRows_85 0 rfl ?_
          refine z_get (cl := vwCl) (T := TX1) (N := 13) (ci := 3) (ref := "IntervalSolverModel") C hinX1 rfl 4 (by decide) lk2 rfl dX1_swapRows_86 0 rfl rfl ?_
          refine z_iload_n C dX1_swapRows_89 1 rfl ?_
          refine z_topi (nI (ix p0)) i_p0 ?_
          refine z_iload_n C dX1_swapRows_90 2 rfl ?_
          refine z_topi (nI (ix p1)) i_p1 ?_
          refine z_callSv (X := (w1 K b (N, swpM M (ix p0) (ix p1) N, swpM S (ix p0) (ix p1) N, rl, rh, bl, bh, 0, fl, fh, pt, nu, de)).take 3) (wc := [(b 3, .inl (K 0, 5, .inl (rl)))]) (Y := (w1 K b (N, swpM M (ix p0) (ix p1) N, swpM S (ix p0) (ix p1) N, rl, rh, bl, bh, 0, fl, fh, pt, nu, de)).drop 4) (As := [.ref (b 3), .int (nI (ix p0)), .int (nI (ix p1))]) C (c1_swap l D K (b 3) 5 (rl) (ix p0) (ix p1) (by omega) (by omega) (by omega)) (va_cwS 3 C.1.2.2.2.2 gX1_swapRows_X1_swap rfl rfl rfl (by decide +kernel) ⟨Nat.le_of_ble_eq_true rfl, Nat.le_of_ble_eq_true rfl⟩) dX1_swapRows_91 rfl rfl (Nat.le_of_ble_eq_true rfl) ⟨Nat.le_of_ble_eq_true rfl, Nat.le_of_ble_eq_true rfl⟩ rfl (fun u4 h4 => ?_)
          subst h4
          refine z_ws (ws' := w1 K b (N, swpM M (ix p0) (ix p1) N, swpM S (ix p0) (ix p1) N, swpV rl (ix p0) (ix p1), rh, bl, bh, 0, fl, fh, pt, nu, de)) rfl ?_
          refine z_aload_n C dX1_swapRows_94 0 rfl ?_
          refine z_get (cl := vwCl) (T := TX1) (N := 13) (ci := 3) (ref := "IntervalSolverModel") C hinX1 rfl 5 (by decide) lk3 rfl dX1_swapRows_95 0 rfl rfl ?_
          refine z_iload_n C dX1_swapRows_98 1 rfl ?_
          refine z_topi (nI (ix p0)) i_p0 ?_
          refine z_iload_n C dX1_swapRows_99 2 rfl ?_
          refine z_topi (nI (ix p1)) i_p1 ?_
          refine z_callSv (X := (w1 K b (N, swpM M (ix p0) (ix p1) N, swpM S (ix p0) (ix p1) N, swpV rl (ix p0) (ix p1), rh, bl, bh, 0, fl, fh, pt, nu, de)).take 4) (wc := [(b 4, .inl (K 0, 5, .inl (rh)))]) (Y := (w1 K b (N, swpM M (ix p0) (ix p1) N, swpM S (ix p0) (ix p1) N, swpV rl (ix p0) (ix p1), rh, bl, bh, 0, fl, fh, pt, nu, de)).drop 5) (As := [.ref (b 4), .int (nI (ix p0)), .int (nI (ix p1))]) C (c1_swap l D K (b 4) 5 (rh) (ix p0) (ix p1) (by omega) (by omega) (by omega)) (va_cwS 3 C.1.2.2.2.2 gX1_swapRows_X1_swap rfl rfl rfl (by decide +kernel) ⟨Nat.le_of_ble_eq_true rfl, Nat.le_of_ble_eq_true rfl⟩) dX1_swapRows_100 rfl rfl (Nat.le_of_ble_eq_true rfl) ⟨Nat.le_of_ble_eq_true rfl, Nat.le_of_ble_eq_true rfl⟩ rfl (fun u5 h5 => ?_)
          subst h5
          refine z_ws (ws' := w1 K b (N, swpM M (ix p0) (ix p1) N, swpM S (ix p0) (ix p1) N, swpV rl (ix p0) (ix p1), swpV rh (ix p0) (ix p1), bl, bh, 0, fl, fh, pt, nu, de)) rfl ?_
          refine z_iload_n C dX1_swapRows_103 1 rfl ?_
          refine z_iload_n C dX1_swapRows_104 2 rfl ?_
          refine z_icmp_eq (tgt := 112) C dX1_swapRows_105 (by decide) (fun c105 => ?_) (fun c105 => ?_)
          · refine z_iconst (v := 0) C dX1_swapRows_112 (by decide) ?_
            exact hend _ _ _ _ _ (N, swpM M (ix p0) (ix p1) N, swpM S (ix p0) (ix p1) N, swpV rl (ix p0) (ix p1), swpV rh (ix p0) (ix p1), bl, bh, 0, fl, fh, pt, nu, de) dX1_swapRows_113 (Nat.zero_le _) (Nat.zero_le _) (Or.inl rfl) (by have hk : (kIx2 N p0 p1) = 0 := (if_pos ⟨q10, q18⟩); have ho : neI p0 p1 = 0 := if_pos c105; rw [hk, onlyIf_0 rfl, ho]; exact ⟨rfl, rfl⟩)
          · refine z_iconst (v := 1) C dX1_swapRows_108 (by decide) ?_
            refine z_goto (tgt := 113) C dX1_swapRows_109 (by decide) ?_
            exact hend _ _ _ _ _ (N, swpM M (ix p0) (ix p1) N, swpM S (ix p0) (ix p1) N, swpV rl (ix p0) (ix p1), swpV rh (ix p0) (ix p1), bl, bh, 0, fl, fh, pt, nu, de) dX1_swapRows_113 (Nat.zero_le _) (Nat.zero_le _) (Or.inr rfl) (by have hk : (kIx2 N p0 p1) = 0 := (if_pos ⟨q10, q18⟩); have ho : neI p0 p1 = 1 := if_neg c105; rw [hk, onlyIf_0 rfl, ho]; exact ⟨rfl, rfl⟩)
        · have e42 : j < N := by have := mt (nI_leI (a := N) (b := j) (by omega) (by omega)).mpr c42; omega
          refine z_aload_n C dX1_swapRows_45 0 rfl ?_
          refine z_get (cl := vwCl) (T := TX1) (N := 13) (ci := 3) (ref := "IntervalSolverModel") C hinX1 rfl 2 (by decide) lk4 rfl dX1_swapRows_46 0 rfl rfl ?_
          refine z_iload_n C dX1_swapRows_49 1 rfl ?_
          refine z_iload_n C dX1_swapRows_50 3 rfl ?_
          refine z_callSi_none (As := [.int p0, .int (nI j)]) C (c1_at l D K p0 (nI j)) (va_cwS 2 C.1.2.2.2.2 gX1_swapRows_X1_at rfl rfl rfl (by decide +kernel) ⟨Nat.le_of_ble_eq_true rfl, Nat.le_of_ble_eq_true rfl⟩) dX1_swapRows_51 rfl rfl (Nat.le_of_ble_eq_true rfl) ⟨Nat.le_of_ble_eq_true rfl, Nat.le_of_ble_eq_true rfl⟩ (fun r6 u6 h6 => ?_)
          subst h6
          refine z_topi (nI (5 * (ix p0) + j)) (at_eq i_p0 rfl) ?_
          refine z_iload_n C dX1_swapRows_54 2 rfl ?_
          refine z_iload_n C dX1_swapRows_55 3 rfl ?_
          refine z_callSi_none (As := [.int p1, .int (nI j)]) C (c1_at l D K p1 (nI j)) (va_cwS 2 C.1.2.2.2.2 gX1_swapRows_X1_at rfl rfl rfl (by decide +kernel) ⟨Nat.le_of_ble_eq_true rfl, Nat.le_of_ble_eq_true rfl⟩) dX1_swapRows_56 rfl rfl (Nat.le_of_ble_eq_true rfl) ⟨Nat.le_of_ble_eq_true rfl, Nat.le_of_ble_eq_true rfl⟩ (fun r7 u7 h7 => ?_)
          subst h7
          refine z_topi (nI (5 * (ix p1) + j)) (at_eq i_p1 rfl) ?_
          refine z_callSv (X := (w1 K b (N, swpM M (ix p0) (ix p1) j, swpM S (ix p0) (ix p1) j, rl, rh, bl, bh, 0, fl, fh, pt, nu, de)).take 1) (wc := [(b 1, .inl (K 0, 25, .inl (fl5 (swpM M (ix p0) (ix p1) j))))]) (Y := (w1 K b (N, swpM M (ix p0) (ix p1) j, swpM S (ix p0) (ix p1) j, rl, rh, bl, bh, 0, fl, fh, pt, nu, de)).drop 2) (As := [.ref (b 1), .int (nI (5 * (ix p0) + j)), .int (nI (5 * (ix p1) + j))]) C (c1_swap l D K (b 1) 25 (fl5 (swpM M (ix p0) (ix p1) j)) (5 * (ix p0) + j) (5 * (ix p1) + j) (by omega) (by omega) (by omega)) (va_cwS 3 C.1.2.2.2.2 gX1_swapRows_X1_swap rfl rfl rfl (by decide +kernel) ⟨Nat.le_of_ble_eq_true rfl, Nat.le_of_ble_eq_true rfl⟩) dX1_swapRows_59 rfl rfl (Nat.le_of_ble_eq_true rfl) ⟨Nat.le_of_ble_eq_true rfl, Nat.le_of_ble_eq_true rfl⟩ rfl (fun u8 h8 => ?_)
          subst h8
          refine z_ws (ws' := w1 K b (N, up2 (up2 (swpM M (ix p0) (ix p1) j) (ix p0) j ((swpM M (ix p0) (ix p1) j) (ix p1) j)) (ix p1) j ((swpM M (ix p0) (ix p1) j) (ix p0) j), swpM S (ix p0) (ix p1) j, rl, rh, bl, bh, 0, fl, fh, pt, nu, de)) (by rw [swpV_fl5 (swpM M (ix p0) (ix p1) j) (ix p0) (ix p1) j (by omega)]; rfl) ?_
          refine z_aload_n C dX1_swapRows_62 0 rfl ?_
          refine z_get (cl := vwCl) (T := TX1) (N := 13) (ci := 3) (ref := "IntervalSolverModel") C hinX1 rfl 3 (by decide) lk5 rfl dX1_swapRows_63 0 rfl rfl ?_
          refine z_iload_n C dX1_swapRows_66 1 rfl ?_
          refine z_iload_n C dX1_swapRows_67 3 rfl ?_
          refine z_callSi_none (As := [.int p0, .int (nI j)]) C (c1_at l D K p0 (nI j)) (va_cwS 2 C.1.2.2.2.2 gX1_swapRows_X1_at rfl rfl rfl (by decide +kernel) ⟨Nat.le_of_ble_eq_true rfl, Nat.le_of_ble_eq_true rfl⟩) dX1_swapRows_68 rfl rfl (Nat.le_of_ble_eq_true rfl) ⟨Nat.le_of_ble_eq_true rfl, Nat.le_of_ble_eq_true rfl⟩ (fun r9 u9 h9 => ?_)
          subst h9
          refine z_topi (nI (5 * (ix p0) + j)) (at_eq i_p0 rfl) ?_
          refine z_iload_n C dX1_swapRows_71 2 rfl ?_
          refine z_iload_n C dX1_swapRows_72 3 rfl ?_
          refine z_callSi_none (As := [.int p1, .int (nI j)]) C (c1_at l D K p1 (nI j)) (va_cwS 2 C.1.2.2.2.2 gX1_swapRows_X1_at rfl rfl rfl (by decide +kernel) ⟨Nat.le_of_ble_eq_true rfl, Nat.le_of_ble_eq_true rfl⟩) dX1_swapRows_73 rfl rfl (Nat.le_of_ble_eq_true rfl) ⟨Nat.le_of_ble_eq_true rfl, Nat.le_of_ble_eq_true rfl⟩ (fun r10 u10 h10 => ?_)
          subst h10
          refine z_topi (nI (5 * (ix p1) + j)) (at_eq i_p1 rfl) ?_
          refine z_callSv (X := (w1 K b (N, up2 (up2 (swpM M (ix p0) (ix p1) j) (ix p0) j ((swpM M (ix p0) (ix p1) j) (ix p1) j)) (ix p1) j ((swpM M (ix p0) (ix p1) j) (ix p0) j), swpM S (ix p0) (ix p1) j, rl, rh, bl, bh, 0, fl, fh, pt, nu, de)).take 2) (wc := [(b 2, .inl (K 0, 25, .inl (fl5 (swpM S (ix p0) (ix p1) j))))]) (Y := (w1 K b (N, up2 (up2 (swpM M (ix p0) (ix p1) j) (ix p0) j ((swpM M (ix p0) (ix p1) j) (ix p1) j)) (ix p1) j ((swpM M (ix p0) (ix p1) j) (ix p0) j), swpM S (ix p0) (ix p1) j, rl, rh, bl, bh, 0, fl, fh, pt, nu, de)).drop 3) (As := [.ref (b 2), .int (nI (5 * (ix p0) + j)), .int (nI (5 * (ix p1) + j))]) C (c1_swap l D K (b 2) 25 (fl5 (swpM S (ix p0) (ix p1) j)) (5 * (ix p0) + j) (5 * (ix p1) + j) (by omega) (by omega) (by omega)) (va_cwS 3 C.1.2.2.2.2 gX1_swapRows_X1_swap rfl rfl rfl (by decide +kernel) ⟨Nat.le_of_ble_eq_true rfl, Nat.le_of_ble_eq_true rfl⟩) dX1_swapRows_76 rfl rfl (Nat.le_of_ble_eq_true rfl) ⟨Nat.le_of_ble_eq_true rfl, Nat.le_of_ble_eq_true rfl⟩ rfl (fun u11 h11 => ?_)
          subst h11
          refine z_ws (ws' := w1 K b (N, up2 (up2 (swpM M (ix p0) (ix p1) j) (ix p0) j ((swpM M (ix p0) (ix p1) j) (ix p1) j)) (ix p1) j ((swpM M (ix p0) (ix p1) j) (ix p0) j), up2 (up2 (swpM S (ix p0) (ix p1) j) (ix p0) j ((swpM S (ix p0) (ix p1) j) (ix p1) j)) (ix p1) j ((swpM S (ix p0) (ix p1) j) (ix p0) j), rl, rh, bl, bh, 0, fl, fh, pt, nu, de)) (by rw [swpV_fl5 (swpM S (ix p0) (ix p1) j) (ix p0) (ix p1) j (by omega)]; rfl) ?_
          refine z_iinc (v := nI (j + 1)) (lv' := [(0, .ref (b 0)), (1, .int p0), (2, .int p1), (3, .int (nI (j + 1)))]) C dX1_swapRows_79 (k := 3) rfl (nI_1 j) (by decide) [1, 2, 3, 0] rfl ?_
          refine z_goto (tgt := 37) C dX1_swapRows_82 (by decide) ?_
          exact ih37_j (j + 1) (by omega) (by omega) (by omega)
    · have q18 : ¬ (ixP N p1) := zi0.mp c18
      refine z_aload_n C dX1_swapRows_21 0 rfl ?_
      refine z_iconst (v := 1) C dX1_swapRows_22 (by decide) ?_
      refine z_callVi_all (As := [.int 1]) C (c1_fail l D K b N M S rl rh bl bh 0 fl fh pt nu de 1) (cwV 1 C.1.2.2.2.2 gX1_swapRows_X1_fail rfl rfl rfl (by decide +kernel) ⟨Nat.le_of_ble_eq_true rfl, Nat.le_of_ble_eq_true rfl⟩) (ci := 3) rfl rfl 0 rfl dX1_swapRows_23 rfl rfl (Nat.le_of_ble_eq_true rfl) ⟨Nat.le_of_ble_eq_true rfl, Nat.le_of_ble_eq_true rfl⟩ (fun r12 u12 h12 => ?_)
      obtain ⟨rfl, rfl⟩ := h12
      refine z_if_eq (tgt := 33) C dX1_swapRows_26 (by decide) (fun c26 => ?_) (fun c26 => ?_)
      · refine z_iconst (v := 0) C dX1_swapRows_33 (by decide) ?_
        exact hend _ _ _ _ _ (N, M, S, rl, rh, bl, bh, 1, fl, fh, pt, nu, de) dX1_swapRows_34 (Nat.zero_le _) (Nat.zero_le _) (Or.inl rfl) (by have hk : (kIx2 N p0 p1) = 1 := (if_neg (by rintro ⟨h1, h2⟩; first | exact q10 h1 | exact q18 h2)); rw [hk]; exact ⟨rfl, rfl⟩)
      · exact absurd rfl c26

set_option maxRecDepth 100000 in
set_option maxHeartbeats 4000000 in
theorem c1_addRow (l : Launch) (D : va_G) (K : Nat → ClassId) (b : Nat → Nat) (N : Nat) (M : Nat → Nat → Int32) (S : Nat → Nat → Int32) (rl : Nat → Int32) (rh : Nat → Int32) (bl : Nat → Int32) (bh : Nat → Int32) (th : Int32) (fl : Nat → Int32) (fh : Nat → Int32) (pt : Nat → Int64) (nu : Int64) (de : Int64) (p0 : Int32) (p1 : Int32) (p2 : Int32) (hN : N ≤ 5) : mI l D K yX1_addRow wsX1_addRow 1 30 0 0 [.ref (b 0), .int p0, .int p1, .int p2] (w1 K b (N, M, S, rl, rh, bl, bh, th, fl, fh, pt, nu, de)) (fun r u => r = onlyIf (kAdd N M rl rh p0 p1 p2) (acC M (ix p0) (ix p1) p2 N) 0 ∧ u = (N, onlyIf (kAdd N M rl rh p0 p1 p2) (acM M (ix p0) (ix p1) p2 N) M, S, onlyIf (kAdd N M rl rh p0 p1 p2) (upd rl (ix p0) (arLo rl rh (ix p0) (ix p1) p2)) rl, onlyIf (kAdd N M rl rh p0 p1 p2) (upd rh (ix p0) (arHi rl rh (ix p0) (ix p1) p2)) rh, bl, bh, (kAdd N M rl rh p0 p1 p2), fl, fh, pt, nu, de)) (w1 K b) := by
  have hinX1 : ∀ w ∈ wsX10, w ∈ wsX1_addRow := by decide +kernel
  have lk0 : Cond.fieldLink RX1 45 "IntervalSolverModel" "thrown" "I" ∈ wsX1_addRow := by decide +kernel
  have lk1 : Cond.fieldLink RX1 20 "IntervalSolverModel" "lows" "[I" ∈ wsX1_addRow := by decide +kernel
  have lk2 : Cond.fieldLink RX1 23 "IntervalSolverModel" "highs" "[I" ∈ wsX1_addRow := by decide +kernel
  have lk3 : Cond.methodLink RX1 66 Lib.Math.min.name ∈ wsX1_addRow := by decide +kernel
  have lk4 : Cond.static Lib.Math.min.name ∈ wsX1_addRow := by decide +kernel
  have lk5 : Cond.initialized "java/lang/Math" ∈ wsX1_addRow := by decide +kernel
  have lk6 : Cond.code Lib.Math.min.name Lib.Math.min.code 2 (some .int) ∈ wsX1_addRow := by decide +kernel
  have lk7 : Cond.methodLink RX1 71 Lib.Math.max.name ∈ wsX1_addRow := by decide +kernel
  have lk8 : Cond.static Lib.Math.max.name ∈ wsX1_addRow := by decide +kernel
  have lk9 : Cond.code Lib.Math.max.name Lib.Math.max.code 2 (some .int) ∈ wsX1_addRow := by decide +kernel
  have lk10 : Cond.fieldLink RX1 7 "IntervalSolverModel" "n" "I" ∈ wsX1_addRow := by decide +kernel
  have lk11 : Cond.fieldLink RX1 13 "IntervalSolverModel" "a" "[I" ∈ wsX1_addRow := by decide +kernel
  have lk12 : Cond.methodLink RX1 74 Lib.Math.abs.name ∈ wsX1_addRow := by decide +kernel
  have lk13 : Cond.static Lib.Math.abs.name ∈ wsX1_addRow := by decide +kernel
  have lk14 : Cond.code Lib.Math.abs.name Lib.Math.abs.code 1 (some .int) ∈ wsX1_addRow := by decide +kernel
  refine z_met_i (cc := cX1_addRow) (maxL := 9) (own := RX1) (lv := [(0, .ref (b 0)), (1, .int p0), (2, .int p1), (3, .int p2)]) (by decide) rfl rfl (Nat.le_of_ble_eq_true rfl) rfl ?_
  intro p e s m below meth c args Q A C hnm hend
  refine z_aload_n C dX1_addRow_0 0 rfl ?_
  refine z_iconst (v := 0) C dX1_addRow_1 (by decide) ?_
  refine z_put (cl := vwCl) (T := TX1) (N := 13) (ci := 3) (ref := "IntervalSolverModel") (ws' := w1 K b (N, M, S, rl, rh, bl, bh, 0, fl, fh, pt, nu, de)) C hinX1 tyX1 tyX1_ok nmX1 rfl 0 (by decide) lk0 rfl rfl rfl rfl dX1_addRow_2 0 rfl (Nat.le_of_ble_eq_true rfl) rfl ?_
  refine z_aload_n C dX1_addRow_5 0 rfl ?_
  refine z_iload_n C dX1_addRow_6 1 rfl ?_
  refine z_callVi_all (As := [.int p0]) C (c1_isIndex l D K b N M S rl rh bl bh 0 fl fh pt nu de p0) (cwV 1 C.1.2.2.2.2 gX1_addRow_X1_isIndex rfl rfl rfl (by decide +kernel) ⟨Nat.le_of_ble_eq_true rfl, Nat.le_of_ble_eq_true rfl⟩) (ci := 3) rfl rfl 0 rfl dX1_addRow_7 rfl rfl (Nat.le_of_ble_eq_true rfl) ⟨Nat.le_of_ble_eq_true rfl, Nat.le_of_ble_eq_true rfl⟩ (fun r1 u1 h1 => ?_)
  obtain ⟨rfl, rfl⟩ := h1
  refine z_if_eq (tgt := 21) C dX1_addRow_10 (by decide) (fun c10 => ?_) (fun c10 => ?_)
  · have q10 : ¬ (ixP N p0) := zi0.mp c10
    refine z_aload_n C dX1_addRow_21 0 rfl ?_
    refine z_iconst (v := 1) C dX1_addRow_22 (by decide) ?_
    refine z_callVi_all (As := [.int 1]) C (c1_fail l D K b N M S rl rh bl bh 0 fl fh pt nu de 1) (cwV 1 C.1.2.2.2.2 gX1_addRow_X1_fail rfl rfl rfl (by decide +kernel) ⟨Nat.le_of_ble_eq_true rfl, Nat.le_of_ble_eq_true rfl⟩) (ci := 3) rfl rfl 0 rfl dX1_addRow_23 rfl rfl (Nat.le_of_ble_eq_true rfl) ⟨Nat.le_of_ble_eq_true rfl, Nat.le_of_ble_eq_true rfl⟩ (fun r2 u2 h2 => ?_)
    obtain ⟨rfl, rfl⟩ := h2
    exact hend _ _ _ _ _ (N, M, S, rl, rh, bl, bh, 1, fl, fh, pt, nu, de) dX1_addRow_26 (Nat.zero_le _) (Nat.zero_le _) (by have hk : (kAdd N M rl rh p0 p1 p2) = 1 := (if_neg (by rintro ⟨h1, h2⟩; first | exact q10 h1 | exact q18 h2)); rw [hk]; first | exact ⟨rfl, rfl⟩ | simp [onlyIf])
  · have q10 : ixP N p0 := zi1.mp c10
    obtain ⟨i_p0, l_p0⟩ := ixP_at hN q10
    refine z_aload_n C dX1_addRow_13 0 rfl ?_
    refine z_iload_n C dX1_addRow_14 2 rfl ?_
    refine z_callVi_all (As := [.int p1]) C (c1_isIndex l D K b N M S rl rh bl bh 0 fl fh pt nu de p1) (cwV 1 C.1.2.2.2.2 gX1_addRow_X1_isIndex rfl rfl rfl (by decide +kernel) ⟨Nat.le_of_ble_eq_true rfl, Nat.le_of_ble_eq_true rfl⟩) (ci := 3) rfl rfl 0 rfl dX1_addRow_15 rfl rfl (Nat.le_of_ble_eq_true rfl) ⟨Nat.le_of_ble_eq_true rfl, Nat.le_of_ble_eq_true rfl⟩ (fun r3 u3 h3 => ?_)
    obtain ⟨rfl, rfl⟩ := h3
    refine z_if_ne (tgt := 27) C dX1_addRow_18 (by decide) (fun c18 => ?_) (fun c18 => ?_)
    · have q18 : ixP N p1 := zi1.mp c18
      obtain ⟨i_p1, l_p1⟩ := ixP_at hN q18
      refine z_iload_n C dX1_addRow_27 1 rfl ?_
      refine z_iload_n C dX1_addRow_28 2 rfl ?_
      refine z_icmp_eq (tgt := 44) C dX1_addRow_29 (by decide) (fun c29 => ?_) (fun c29 => ?_)
      · refine z_aload_n C dX1_addRow_44 0 rfl ?_
        refine z_iconst (v := 2) C dX1_addRow_45 (by decide) ?_
        refine z_callVi_all (As := [.int 2]) C (c1_fail l D K b N M S rl rh bl bh 0 fl fh pt nu de 2) (cwV 1 C.1.2.2.2.2 gX1_addRow_X1_fail rfl rfl rfl (by decide +kernel) ⟨Nat.le_of_ble_eq_true rfl, Nat.le_of_ble_eq_true rfl⟩) (ci := 3) rfl rfl 0 rfl dX1_addRow_46 rfl rfl (Nat.le_of_ble_eq_true rfl) ⟨Nat.le_of_ble_eq_true rfl, Nat.le_of_ble_eq_true rfl⟩ (fun r4 u4 h4 => ?_)
        obtain ⟨rfl, rfl⟩ := h4
        exact hend _ _ _ _ _ (N, M, S, rl, rh, bl, bh, 2, fl, fh, pt, nu, de) dX1_addRow_49 (Nat.zero_le _) (Nat.zero_le _) (by have hk : (kAdd N M rl rh p0 p1 p2) = 2 := (by unfold kAdd; rw [if_pos ⟨q10, q18⟩, if_neg (by rintro ⟨h1, h2, h3⟩; first | exact h1 c29 | exact absurd h2 (Int32.not_le.mpr c35) | exact c41 h3)]); rw [hk]; first | exact ⟨rfl, rfl⟩ | simp [onlyIf])
      · refine z_iload_n C dX1_addRow_32 3 rfl ?_
        refine z_bipush (v := -99) C dX1_addRow_33 (by decide) ?_
        refine z_icmp_lt (tgt := 44) C dX1_addRow_35 (by decide) (fun c35 => ?_) (fun c35 => ?_)
        · refine z_aload_n C dX1_addRow_44 0 rfl ?_
          refine z_iconst (v := 2) C dX1_addRow_45 (by decide) ?_
          refine z_callVi_all (As := [.int 2]) C (c1_fail l D K b N M S rl rh bl bh 0 fl fh pt nu de 2) (cwV 1 C.1.2.2.2.2 gX1_addRow_X1_fail rfl rfl rfl (by decide +kernel) ⟨Nat.le_of_ble_eq_true rfl, Nat.le_of_ble_eq_true rfl⟩) (ci := 3) rfl rfl 0 rfl dX1_addRow_46 rfl rfl (Nat.le_of_ble_eq_true rfl) ⟨Nat.le_of_ble_eq_true rfl, Nat.le_of_ble_eq_true rfl⟩ (fun r5 u5 h5 => ?_)
          obtain ⟨rfl, rfl⟩ := h5
          exact hend _ _ _ _ _ (N, M, S, rl, rh, bl, bh, 2, fl, fh, pt, nu, de) dX1_addRow_49 (Nat.zero_le _) (Nat.zero_le _) (by have hk : (kAdd N M rl rh p0 p1 p2) = 2 := (by unfold kAdd; rw [if_pos ⟨q10, q18⟩, if_neg (by rintro ⟨h1, h2, h3⟩; first | exact h1 c29 | exact absurd h2 (Int32.not_le.mpr c35) | exact c41 h3)]); rw [hk]; first | exact ⟨rfl, rfl⟩ | simp [onlyIf])
        · refine z_iload_n C dX1_addRow_38 3 rfl ?_
          refine z_bipush (v := 99) C dX1_addRow_39 (by decide) ?_
          refine z_icmp_le (tgt := 50) C dX1_addRow_41 (by decide) (fun c41 => ?_) (fun c41 => ?_)
          · refine z_aload_n C dX1_addRow_50 0 rfl ?_
            refine z_get (cl := vwCl) (T := TX1) (N := 13) (ci := 3) (ref := "IntervalSolverModel") C hinX1 rfl 4 (by decide) lk1 rfl dX1_addRow_51 0 rfl rfl ?_
            refine z_iload_n C dX1_addRow_54 1 rfl ?_
            refine z_iald C 0 rfl 3 rfl dX1_addRow_55 (ix p0) i_p0 (by omega) (by decide) ?_
            refine z_iload_n C dX1_addRow_56 3 rfl ?_
            refine z_aload_n C dX1_addRow_57 0 rfl ?_
            refine z_get (cl := vwCl) (T := TX1) (N := 13) (ci := 3) (ref := "IntervalSolverModel") C hinX1 rfl 4 (by decide) lk1 rfl dX1_addRow_58 0 rfl rfl ?_
            refine z_iload_n C dX1_addRow_61 2 rfl ?_
            refine z_iald C 0 rfl 3 rfl dX1_addRow_62 (ix p1) i_p1 (by omega) (by decide) ?_
            refine z_imul C dX1_addRow_63 ?_
            refine z_iload_n C dX1_addRow_64 3 rfl ?_
            refine z_aload_n C dX1_addRow_65 0 rfl ?_
            refine z_get (cl := vwCl) (T := TX1) (N := 13) (ci := 3) (ref := "IntervalSolverModel") C hinX1 rfl 5 (by decide) lk2 rfl dX1_addRow_66 0 rfl rfl ?_
            refine z_iload_n C dX1_addRow_69 2 rfl ?_
            refine z_iald C 0 rfl 4 rfl dX1_addRow_70 (ix p1) i_p1 (by omega) (by decide) ?_
            refine z_imul C dX1_addRow_71 ?_
            refine z_mmin C lk3 lk4 lk5 lk6 (Nat.le_of_ble_eq_true rfl) (Nat.le_of_ble_eq_true rfl) (Nat.le_of_ble_eq_true rfl) (Nat.le_of_ble_eq_true rfl) dX1_addRow_72 ?_
            refine z_iadd C dX1_addRow_75 ?_
            refine z_topi (arLo rl rh (ix p0) (ix p1) p2) rfl ?_
            refine z_istore (lv' := [(0, .ref (b 0)), (1, .int p0), (2, .int p1), (3, .int p2), (4, .int (arLo rl rh (ix p0) (ix p1) p2))]) C dX1_addRow_76 (by decide) [1, 2, 3, 4, 0] rfl ?_
            refine z_aload_n C dX1_addRow_78 0 rfl ?_
            refine z_get (cl := vwCl) (T := TX1) (N := 13) (ci := 3) (ref := "IntervalSolverModel") C hinX1 rfl 5 (by decide) lk2 rfl dX1_addRow_79 0 rfl rfl ?_
            refine z_iload_n C dX1_addRow_82 1 rfl ?_
            refine z_iald C 0 rfl 4 rfl dX1_addRow_83 (ix p0) i_p0 (by omega) (by decide) ?_
            refine z_iload_n C dX1_addRow_84 3 rfl ?_
            refine z_aload_n C dX1_addRow_85 0 rfl ?_
            refine z_get (cl := vwCl) (T := TX1) (N := 13) (ci := 3) (ref := "IntervalSolverModel") C hinX1 rfl 4 (by decide) lk1 rfl dX1_addRow_86 0 rfl rfl ?_
            refine z_iload_n C dX1_addRow_89 2 rfl ?_
            refine z_iald C 0 rfl 3 rfl dX1_addRow_90 (ix p1) i_p1 (by omega) (by decide) ?_
            refine z_imul C dX1_addRow_91 ?_
            refine z_iload_n C dX1_addRow_92 3 rfl ?_
            refine z_aload_n C dX1_addRow_93 0 rfl ?_
            refine z_get (cl := vwCl) (T := TX1) (N := 13) (ci := 3) (ref := "IntervalSolverModel") C hinX1 rfl 5 (by decide) lk2 rfl dX1_addRow_94 0 rfl rfl ?_
            refine z_iload_n C dX1_addRow_97 2 rfl ?_
            refine z_iald C 0 rfl 4 rfl dX1_addRow_98 (ix p1) i_p1 (by omega) (by decide) ?_
            refine z_imul C dX1_addRow_99 ?_
            refine z_mmax C lk7 lk8 lk5 lk9 (Nat.le_of_ble_eq_true rfl) (Nat.le_of_ble_eq_true rfl) (Nat.le_of_ble_eq_true rfl) (Nat.le_of_ble_eq_true rfl) dX1_addRow_100 ?_
            refine z_iadd C dX1_addRow_103 ?_
            refine z_topi (arHi rl rh (ix p0) (ix p1) p2) rfl ?_
            refine z_istore (lv' := [(0, .ref (b 0)), (1, .int p0), (2, .int p1), (3, .int p2), (4, .int (arLo rl rh (ix p0) (ix p1) p2)), (5, .int (arHi rl rh (ix p0) (ix p1) p2))]) C dX1_addRow_104 (by decide) [1, 2, 3, 4, 5, 0] rfl ?_
            have J143 : ∀ (v6 : Int32), v6 = (if (-999 ≤ arLo rl rh (ix p0) (ix p1) p2 ∧ arHi rl rh (ix p0) (ix p1) p2 ≤ 999 ∧ arLo rl rh (ix p0) (ix p1) p2 ≤ 999 ∧ -999 ≤ arHi rl rh (ix p0) (ix p1) p2) then 1 else 0) → zW p l e { frames := 1, cells := 0, slots := 0, locals := 30 } s m args below meth c Q 9 A s.heap D vwCl 0 0 (w1 K b (N, M, S, rl, rh, bl, bh, 0, fl, fh, pt, nu, de)) 143 ([(0, .ref (b 0)), (1, .int p0), (2, .int p1), (3, .int p2), (4, .int (arLo rl rh (ix p0) (ix p1) p2)), (5, .int (arHi rl rh (ix p0) (ix p1) p2))]) [.int v6] := by
              intro v6 h_v6
              refine z_istore (lv' := [(0, .ref (b 0)), (1, .int p0), (2, .int p1), (3, .int p2), (4, .int (arLo rl rh (ix p0) (ix p1) p2)), (5, .int (arHi rl rh (ix p0) (ix p1) p2)), (6, .int v6)]) C dX1_addRow_143 (by decide) [1, 2, 3, 4, 5, 6, 0] rfl ?_
              refine z_iconst (v := 0) C dX1_addRow_145 (by decide) ?_
              refine z_istore (lv' := [(0, .ref (b 0)), (1, .int p0), (2, .int p1), (3, .int p2), (4, .int (arLo rl rh (ix p0) (ix p1) p2)), (5, .int (arHi rl rh (ix p0) (ix p1) p2)), (6, .int v6), (7, .int 0)]) C dX1_addRow_146 (by decide) [1, 2, 3, 4, 5, 6, 7, 0] rfl ?_
              suffices L148 : ∀ (f148_j j : Nat) (w6 : Int32), 0 ≤ j → j ≤ N → N < j + f148_j → w6 = (if (-999 ≤ arLo rl rh (ix p0) (ix p1) p2 ∧ arHi rl rh (ix p0) (ix p1) p2 ≤ 999 ∧ arLo rl rh (ix p0) (ix p1) p2 ≤ 999 ∧ -999 ≤ arHi rl rh (ix p0) (ix p1) p2) ∧ ∀ t, t < j → absI (M (ix p0) t + p2 * M (ix p1) t) ≤ 99 then 1 else 0) → zW p l e { frames := 1, cells := 0, slots := 0, locals := 30 } s m args below meth c Q 9 A s.heap D vwCl 0 0 (w1 K b (N, M, S, rl, rh, bl, bh, 0, fl, fh, pt, nu, de)) 148 ([(0, .ref (b 0)), (1, .int p0), (2, .int p1), (3, .int p2), (4, .int (arLo rl rh (ix p0) (ix p1) p2)), (5, .int (arHi rl rh (ix p0) (ix p1) p2)), (6, .int w6), (7, .int (nI j))]) [] from L148 (N + 1) 0 v6 (Nat.le_refl _) (by omega) (by omega) (fit_0 h_v6)
              intro f148_j
              induction f148_j with
              | zero => intro j w6 h0 h1 h2; exact absurd h2 (by omega)
              | succ f148_j ih148_j =>
                intro j w6 g148_0 g148_1 g148_2 hv
                refine z_iload C dX1_addRow_148 7 rfl ?_
                refine z_aload_n C dX1_addRow_150 0 rfl ?_
                refine z_get (cl := vwCl) (T := TX1) (N := 13) (ci := 3) (ref := "IntervalSolverModel") C hinX1 rfl 1 (by decide) lk10 rfl dX1_addRow_151 0 rfl rfl ?_
                refine z_icmp_ge (tgt := 208) C dX1_addRow_154 (by decide) (fun c154 => ?_) (fun c154 => ?_)
                · have e154 : j = N := by have := (nI_leI (a := N) (b := j) (by omega) (by omega)).mp c154; omega
                  rw [e154]
                  rw [e154] at hv
                  refine z_iload C dX1_addRow_208 6 rfl ?_
                  refine z_if_ne (tgt := 219) C dX1_addRow_210 (by decide) (fun c210 => ?_) (fun c210 => ?_)
                  · refine z_iconst (v := 0) C dX1_addRow_219 (by decide) ?_
                    refine z_istore (lv' := [(0, .ref (b 0)), (1, .int p0), (2, .int p1), (3, .int p2), (4, .int (arLo rl rh (ix p0) (ix p1) p2)), (5, .int (arHi rl rh (ix p0) (ix p1) p2)), (6, .int w6), (7, .int 0)]) C dX1_addRow_220 (by decide) [1, 2, 3, 4, 5, 6, 7, 0] rfl ?_
                    refine z_iconst (v := 0) C dX1_addRow_222 (by decide) ?_
                    refine z_istore (lv' := [(0, .ref (b 0)), (1, .int p0), (2, .int p1), (3, .int p2), (4, .int (arLo rl rh (ix p0) (ix p1) p2)), (5, .int (arHi rl rh (ix p0) (ix p1) p2)), (6, .int w6), (7, .int 0), (8, .int 0)]) C dX1_addRow_223 (by decide) [1, 2, 3, 4, 5, 6, 7, 8, 0] rfl ?_
                    suffices L225 : ∀ (f225_j j : Nat), 0 ≤ j → j ≤ N → N < j + f225_j → zW p l e { frames := 1, cells := 0, slots := 0, locals := 30 } s m args below meth c Q 9 A s.heap D vwCl 0 0 (w1 K b (N, acM M (ix p0) (ix p1) p2 j, S, rl, rh, bl, bh, 0, fl, fh, pt, nu, de)) 225 ([(0, .ref (b 0)), (1, .int p0), (2, .int p1), (3, .int p2), (4, .int (arLo rl rh (ix p0) (ix p1) p2)), (5, .int (arHi rl rh (ix p0) (ix p1) p2)), (6, .int w6), (7, .int (acC M (ix p0) (ix p1) p2 j)), (8, .int (nI j))]) [] from L225 (N + 1) 0 (Nat.le_refl _) (by omega) (by omega)
                    intro f225_j
                    induction f225_j with
                    | zero => intro j h0 h1 h2; exact absurd h2 (by omega)
                    | succ f225_j ih225_j =>
                      intro j g225_0 g225_1 g225_2
                      refine z_iload C dX1_addRow_225 8 rfl ?_
                      refine z_aload_n C dX1_addRow_227 0 rfl ?_
                      refine z_get (cl := vwCl) (T := TX1) (N := 13) (ci := 3) (ref := "IntervalSolverModel") C hinX1 rfl 1 (by decide) lk10 rfl dX1_addRow_228 0 rfl rfl ?_
                      refine z_icmp_ge (tgt := 293) C dX1_addRow_231 (by decide) (fun c231 => ?_) (fun c231 => ?_)
                      · have e231 : j = N := by have := (nI_leI (a := N) (b := j) (by omega) (by omega)).mp c231; omega
                        rw [e231]
                        refine z_aload_n C dX1_addRow_293 0 rfl ?_
                        refine z_get (cl := vwCl) (T := TX1) (N := 13) (ci := 3) (ref := "IntervalSolverModel") C hinX1 rfl 4 (by decide) lk1 rfl dX1_addRow_294 0 rfl rfl ?_
                        refine z_iload_n C dX1_addRow_297 1 rfl ?_
                        refine z_iload C dX1_addRow_298 4 rfl ?_
                        refine z_iast (ws' := w1 K b (N, acM M (ix p0) (ix p1) p2 N, S, upd rl (ix p0) (arLo rl rh (ix p0) (ix p1) p2), rh, bl, bh, 0, fl, fh, pt, nu, de)) C 0 rfl 3 rfl dX1_addRow_300 (ix p0) i_p0 (by omega) (by decide) rfl ?_
                        refine z_aload_n C dX1_addRow_301 0 rfl ?_
                        refine z_get (cl := vwCl) (T := TX1) (N := 13) (ci := 3) (ref := "IntervalSolverModel") C hinX1 rfl 5 (by decide) lk2 rfl dX1_addRow_302 0 rfl rfl ?_
                        refine z_iload_n C dX1_addRow_305 1 rfl ?_
                        refine z_iload C dX1_addRow_306 5 rfl ?_
                        refine z_iast (ws' := w1 K b (N, acM M (ix p0) (ix p1) p2 N, S, upd rl (ix p0) (arLo rl rh (ix p0) (ix p1) p2), upd rh (ix p0) (arHi rl rh (ix p0) (ix p1) p2), bl, bh, 0, fl, fh, pt, nu, de)) C 0 rfl 4 rfl dX1_addRow_308 (ix p0) i_p0 (by omega) (by decide) rfl ?_
                        refine z_iload C dX1_addRow_309 7 rfl ?_
                        exact hend _ _ _ _ _ (N, acM M (ix p0) (ix p1) p2 N, S, upd rl (ix p0) (arLo rl rh (ix p0) (ix p1) p2), upd rh (ix p0) (arHi rl rh (ix p0) (ix p1) p2), bl, bh, 0, fl, fh, pt, nu, de) dX1_addRow_311 (Nat.zero_le _) (Nat.zero_le _) (by have hk : (kAdd N M rl rh p0 p1 p2) = 0 := (by unfold kAdd; rw [if_pos ⟨q10, q18⟩, if_pos ⟨c29, Int32.not_lt.mp c35, c41⟩, if_pos (fit_yes hv c210)]); rw [hk]; first | exact ⟨rfl, rfl⟩ | simp [onlyIf])
                      · have e231 : j < N := by have := mt (nI_leI (a := N) (b := j) (by omega) (by omega)).mpr c231; omega
                        refine z_iload C dX1_addRow_234 7 rfl ?_
                        refine z_iload_n C dX1_addRow_236 3 rfl ?_
                        refine z_aload_n C dX1_addRow_237 0 rfl ?_
                        refine z_get (cl := vwCl) (T := TX1) (N := 13) (ci := 3) (ref := "IntervalSolverModel") C hinX1 rfl 2 (by decide) lk11 rfl dX1_addRow_238 0 rfl rfl ?_
                        refine z_iload_n C dX1_addRow_241 2 rfl ?_
                        refine z_iload C dX1_addRow_242 8 rfl ?_
                        refine z_callSi_none (As := [.int p1, .int (nI j)]) C (c1_at l D K p1 (nI j)) (va_cwS 2 C.1.2.2.2.2 gX1_addRow_X1_at rfl rfl rfl (by decide +kernel) ⟨Nat.le_of_ble_eq_true rfl, Nat.le_of_ble_eq_true rfl⟩) dX1_addRow_244 rfl rfl (Nat.le_of_ble_eq_true rfl) ⟨Nat.le_of_ble_eq_true rfl, Nat.le_of_ble_eq_true rfl⟩ (fun r6 u6 h6 => ?_)
                        subst h6
                        refine z_topi (nI (5 * (ix p1) + j)) (at_eq i_p1 rfl) ?_
                        refine z_iald C 0 rfl 1 rfl dX1_addRow_247 (5 * (ix p1) + j) rfl (by omega) (by decide) ?_
                        refine z_topi ((acM M (ix p0) (ix p1) p2 j) (ix p1) j) (fl5_at (acM M (ix p0) (ix p1) p2 j) (ix p1) j (by omega)) ?_
                        refine z_imul C dX1_addRow_248 ?_
                        refine z_if_ne (tgt := 256) C dX1_addRow_249 (by decide) (fun c249 => ?_) (fun c249 => ?_)
                        · refine z_iconst (v := 1) C dX1_addRow_256 (by decide) ?_
                          refine z_iadd C dX1_addRow_257 ?_
                          refine z_topi (acC M (ix p0) (ix p1) p2 (j + 1)) (by show _ = acC M (ix p0) (ix p1) p2 j + _; rw [if_neg c249]) ?_
                          refine z_istore (lv' := [(0, .ref (b 0)), (1, .int p0), (2, .int p1), (3, .int p2), (4, .int (arLo rl rh (ix p0) (ix p1) p2)), (5, .int (arHi rl rh (ix p0) (ix p1) p2)), (6, .int w6), (7, .int (acC M (ix p0) (ix p1) p2 (j + 1))), (8, .int (nI j))]) C dX1_addRow_258 (by decide) [1, 2, 3, 4, 5, 6, 7, 0, 8] rfl ?_
                          refine z_aload_n C dX1_addRow_260 0 rfl ?_
                          refine z_get (cl := vwCl) (T := TX1) (N := 13) (ci := 3) (ref := "IntervalSolverModel") C hinX1 rfl 2 (by decide) lk11 rfl dX1_addRow_261 0 rfl rfl ?_
                          refine z_iload_n C dX1_addRow_264 1 rfl ?_
                          refine z_iload C dX1_addRow_265 8 rfl ?_
                          refine z_callSi_none (As := [.int p0, .int (nI j)]) C (c1_at l D K p0 (nI j)) (va_cwS 2 C.1.2.2.2.2 gX1_addRow_X1_at rfl rfl rfl (by decide +kernel) ⟨Nat.le_of_ble_eq_true rfl, Nat.le_of_ble_eq_true rfl⟩) dX1_addRow_267 rfl rfl (Nat.le_of_ble_eq_true rfl) ⟨Nat.le_of_ble_eq_true rfl, Nat.le_of_ble_eq_true rfl⟩ (fun r7 u7 h7 => ?_)
                          subst h7
                          refine z_topi (nI (5 * (ix p0) + j)) (at_eq i_p0 rfl) ?_
                          refine z_dup2_11 C dX1_addRow_270 rfl rfl ?_
                          refine z_iald C 0 rfl 1 rfl dX1_addRow_271 (5 * (ix p0) + j) rfl (by omega) (by decide) ?_
                          refine z_topi ((acM M (ix p0) (ix p1) p2 j) (ix p0) j) (fl5_at (acM M (ix p0) (ix p1) p2 j) (ix p0) j (by omega)) ?_
                          refine z_iload_n C dX1_addRow_272 3 rfl ?_
                          refine z_aload_n C dX1_addRow_273 0 rfl ?_
                          refine z_get (cl := vwCl) (T := TX1) (N := 13) (ci := 3) (ref := "IntervalSolverModel") C hinX1 rfl 2 (by decide) lk11 rfl dX1_addRow_274 0 rfl rfl ?_
                          refine z_iload_n C dX1_addRow_277 2 rfl ?_
                          refine z_iload C dX1_addRow_278 8 rfl ?_
                          refine z_callSi_none (As := [.int p1, .int (nI j)]) C (c1_at l D K p1 (nI j)) (va_cwS 2 C.1.2.2.2.2 gX1_addRow_X1_at rfl rfl rfl (by decide +kernel) ⟨Nat.le_of_ble_eq_true rfl, Nat.le_of_ble_eq_true rfl⟩) dX1_addRow_280 rfl rfl (Nat.le_of_ble_eq_true rfl) ⟨Nat.le_of_ble_eq_true rfl, Nat.le_of_ble_eq_true rfl⟩ (fun r8 u8 h8 => ?_)
                          subst h8
                          refine z_topi (nI (5 * (ix p1) + j)) (at_eq i_p1 rfl) ?_
                          refine z_iald C 0 rfl 1 rfl dX1_addRow_283 (5 * (ix p1) + j) rfl (by omega) (by decide) ?_
                          refine z_topi ((acM M (ix p0) (ix p1) p2 j) (ix p1) j) (fl5_at (acM M (ix p0) (ix p1) p2 j) (ix p1) j (by omega)) ?_
                          refine z_imul C dX1_addRow_284 ?_
                          refine z_iadd C dX1_addRow_285 ?_
                          refine z_iast (ws' := w1 K b (N, up2 (acM M (ix p0) (ix p1) p2 j) (ix p0) j (((acM M (ix p0) (ix p1) p2 j) (ix p0) j) + (p2 * ((acM M (ix p0) (ix p1) p2 j) (ix p1) j))), S, rl, rh, bl, bh, 0, fl, fh, pt, nu, de)) C 0 rfl 1 rfl dX1_addRow_286 (5 * (ix p0) + j) rfl (by omega) (by decide) (by rw [fl5_up (acM M (ix p0) (ix p1) p2 j) (ix p0) j (((acM M (ix p0) (ix p1) p2 j) (ix p0) j) + (p2 * ((acM M (ix p0) (ix p1) p2 j) (ix p1) j))) (by omega)]; rfl) ?_
                          refine z_iinc (v := nI (j + 1)) (lv' := [(0, .ref (b 0)), (1, .int p0), (2, .int p1), (3, .int p2), (4, .int (arLo rl rh (ix p0) (ix p1) p2)), (5, .int (arHi rl rh (ix p0) (ix p1) p2)), (6, .int w6), (7, .int (acC M (ix p0) (ix p1) p2 (j + 1))), (8, .int (nI (j + 1)))]) C dX1_addRow_287 (k := 8) rfl (nI_1 j) (by decide) [1, 2, 3, 4, 5, 6, 7, 8, 0] rfl ?_
                          refine z_goto (tgt := 225) C dX1_addRow_290 (by decide) ?_
                          exact ih225_j (j + 1) (by omega) (by omega) (by omega)
                        · refine z_iconst (v := 0) C dX1_addRow_252 (by decide) ?_
                          refine z_goto (tgt := 257) C dX1_addRow_253 (by decide) ?_
                          refine z_iadd C dX1_addRow_257 ?_
                          refine z_topi (acC M (ix p0) (ix p1) p2 (j + 1)) (by show _ = acC M (ix p0) (ix p1) p2 j + _; rw [if_pos c249]) ?_
                          refine z_istore (lv' := [(0, .ref (b 0)), (1, .int p0), (2, .int p1), (3, .int p2), (4, .int (arLo rl rh (ix p0) (ix p1) p2)), (5, .int (arHi rl rh (ix p0) (ix p1) p2)), (6, .int w6), (7, .int (acC M (ix p0) (ix p1) p2 (j + 1))), (8, .int (nI j))]) C dX1_addRow_258 (by decide) [1, 2, 3, 4, 5, 6, 7, 0, 8] rfl ?_
                          refine z_aload_n C dX1_addRow_260 0 rfl ?_
                          refine z_get (cl := vwCl) (T := TX1) (N := 13) (ci := 3) (ref := "IntervalSolverModel") C hinX1 rfl 2 (by decide) lk11 rfl dX1_addRow_261 0 rfl rfl ?_
                          refine z_iload_n C dX1_addRow_264 1 rfl ?_
                          refine z_iload C dX1_addRow_265 8 rfl ?_
                          refine z_callSi_none (As := [.int p0, .int (nI j)]) C (c1_at l D K p0 (nI j)) (va_cwS 2 C.1.2.2.2.2 gX1_addRow_X1_at rfl rfl rfl (by decide +kernel) ⟨Nat.le_of_ble_eq_true rfl, Nat.le_of_ble_eq_true rfl⟩) dX1_addRow_267 rfl rfl (Nat.le_of_ble_eq_true rfl) ⟨Nat.le_of_ble_eq_true rfl, Nat.le_of_ble_eq_true rfl⟩ (fun r9 u9 h9 => ?_)
                          subst h9
                          refine z_topi (nI (5 * (ix p0) + j)) (at_eq i_p0 rfl) ?_
                          refine z_dup2_11 C dX1_addRow_270 rfl rfl ?_
                          refine z_iald C 0 rfl 1 rfl dX1_addRow_271 (5 * (ix p0) + j) rfl (by omega) (by decide) ?_
                          refine z_topi ((acM M (ix p0) (ix p1) p2 j) (ix p0) j) (fl5_at (acM M (ix p0) (ix p1) p2 j) (ix p0) j (by omega)) ?_
                          refine z_iload_n C dX1_addRow_272 3 rfl ?_
                          refine z_aload_n C dX1_addRow_273 0 rfl ?_
                          refine z_get (cl := vwCl) (T := TX1) (N := 13) (ci := 3) (ref := "IntervalSolverModel") C hinX1 rfl 2 (by decide) lk11 rfl dX1_addRow_274 0 rfl rfl ?_
                          refine z_iload_n C dX1_addRow_277 2 rfl ?_
                          refine z_iload C dX1_addRow_278 8 rfl ?_
                          refine z_callSi_none (As := [.int p1, .int (nI j)]) C (c1_at l D K p1 (nI j)) (va_cwS 2 C.1.2.2.2.2 gX1_addRow_X1_at rfl rfl rfl (by decide +kernel) ⟨Nat.le_of_ble_eq_true rfl, Nat.le_of_ble_eq_true rfl⟩) dX1_addRow_280 rfl rfl (Nat.le_of_ble_eq_true rfl) ⟨Nat.le_of_ble_eq_true rfl, Nat.le_of_ble_eq_true rfl⟩ (fun r10 u10 h10 => ?_)
                          subst h10
                          refine z_topi (nI (5 * (ix p1) + j)) (at_eq i_p1 rfl) ?_
                          refine z_iald C 0 rfl 1 rfl dX1_addRow_283 (5 * (ix p1) + j) rfl (by omega) (by decide) ?_
                          refine z_topi ((acM M (ix p0) (ix p1) p2 j) (ix p1) j) (fl5_at (acM M (ix p0) (ix p1) p2 j) (ix p1) j (by omega)) ?_
                          refine z_imul C dX1_addRow_284 ?_
                          refine z_iadd C dX1_addRow_285 ?_
                          refine z_iast (ws' := w1 K b (N, up2 (acM M (ix p0) (ix p1) p2 j) (ix p0) j (((acM M (ix p0) (ix p1) p2 j) (ix p0) j) + (p2 * ((acM M (ix p0) (ix p1) p2 j) (ix p1) j))), S, rl, rh, bl, bh, 0, fl, fh, pt, nu, de)) C 0 rfl 1 rfl dX1_addRow_286 (5 * (ix p0) + j) rfl (by omega) (by decide) (by rw [fl5_up (acM M (ix p0) (ix p1) p2 j) (ix p0) j (((acM M (ix p0) (ix p1) p2 j) (ix p0) j) + (p2 * ((acM M (ix p0) (ix p1) p2 j) (ix p1) j))) (by omega)]; rfl) ?_
                          refine z_iinc (v := nI (j + 1)) (lv' := [(0, .ref (b 0)), (1, .int p0), (2, .int p1), (3, .int p2), (4, .int (arLo rl rh (ix p0) (ix p1) p2)), (5, .int (arHi rl rh (ix p0) (ix p1) p2)), (6, .int w6), (7, .int (acC M (ix p0) (ix p1) p2 (j + 1))), (8, .int (nI (j + 1)))]) C dX1_addRow_287 (k := 8) rfl (nI_1 j) (by decide) [1, 2, 3, 4, 5, 6, 7, 8, 0] rfl ?_
                          refine z_goto (tgt := 225) C dX1_addRow_290 (by decide) ?_
                          exact ih225_j (j + 1) (by omega) (by omega) (by omega)
                  · refine z_aload_n C dX1_addRow_213 0 rfl ?_
                    refine z_iconst (v := 3) C dX1_addRow_214 (by decide) ?_
                    refine z_callVi_all (As := [.int 3]) C (c1_fail l D K b N M S rl rh bl bh 0 fl fh pt nu de 3) (cwV 1 C.1.2.2.2.2 gX1_addRow_X1_fail rfl rfl rfl (by decide +kernel) ⟨Nat.le_of_ble_eq_true rfl, Nat.le_of_ble_eq_true rfl⟩) (ci := 3) rfl rfl 0 rfl dX1_addRow_215 rfl rfl (Nat.le_of_ble_eq_true rfl) ⟨Nat.le_of_ble_eq_true rfl, Nat.le_of_ble_eq_true rfl⟩ (fun r11 u11 h11 => ?_)
                    obtain ⟨rfl, rfl⟩ := h11
                    exact hend _ _ _ _ _ (N, M, S, rl, rh, bl, bh, 3, fl, fh, pt, nu, de) dX1_addRow_218 (Nat.zero_le _) (Nat.zero_le _) (by have hk : (kAdd N M rl rh p0 p1 p2) = 3 := (by unfold kAdd; rw [if_pos ⟨q10, q18⟩, if_pos ⟨c29, Int32.not_lt.mp c35, c41⟩, if_neg (fit_no hv c210)]); rw [hk]; first | exact ⟨rfl, rfl⟩ | simp [onlyIf])
                · have e154 : j < N := by have := mt (nI_leI (a := N) (b := j) (by omega) (by omega)).mpr c154; omega
                  refine z_iload C dX1_addRow_157 6 rfl ?_
                  refine z_if_eq (tgt := 199) C dX1_addRow_159 (by decide) (fun c159 => ?_) (fun c159 => ?_)
                  · refine z_iconst (v := 0) C dX1_addRow_199 (by decide) ?_
                    refine z_istore (lv' := [(0, .ref (b 0)), (1, .int p0), (2, .int p1), (3, .int p2), (4, .int (arLo rl rh (ix p0) (ix p1) p2)), (5, .int (arHi rl rh (ix p0) (ix p1) p2)), (6, .int 0), (7, .int (nI j))]) C dX1_addRow_200 (by decide) [1, 2, 3, 4, 5, 6, 0, 7] rfl ?_
                    refine z_iinc (v := nI (j + 1)) (lv' := [(0, .ref (b 0)), (1, .int p0), (2, .int p1), (3, .int p2), (4, .int (arLo rl rh (ix p0) (ix p1) p2)), (5, .int (arHi rl rh (ix p0) (ix p1) p2)), (6, .int 0), (7, .int (nI (j + 1)))]) C dX1_addRow_202 (k := 7) rfl (nI_1 j) (by decide) [1, 2, 3, 4, 5, 6, 7, 0] rfl ?_
                    refine z_goto (tgt := 148) C dX1_addRow_205 (by decide) ?_
                    exact ih148_j (j + 1) 0 (by omega) (by omega) (by omega) (fit_f hv (by first | exact Or.inl c159 | exact Or.inr (Int32.not_le.mpr c192)))
                  · refine z_aload_n C dX1_addRow_162 0 rfl ?_
                    refine z_get (cl := vwCl) (T := TX1) (N := 13) (ci := 3) (ref := "IntervalSolverModel") C hinX1 rfl 2 (by decide) lk11 rfl dX1_addRow_163 0 rfl rfl ?_
                    refine z_iload_n C dX1_addRow_166 1 rfl ?_
                    refine z_iload C dX1_addRow_167 7 rfl ?_
                    refine z_callSi_none (As := [.int p0, .int (nI j)]) C (c1_at l D K p0 (nI j)) (va_cwS 2 C.1.2.2.2.2 gX1_addRow_X1_at rfl rfl rfl (by decide +kernel) ⟨Nat.le_of_ble_eq_true rfl, Nat.le_of_ble_eq_true rfl⟩) dX1_addRow_169 rfl rfl (Nat.le_of_ble_eq_true rfl) ⟨Nat.le_of_ble_eq_true rfl, Nat.le_of_ble_eq_true rfl⟩ (fun r12 u12 h12 => ?_)
                    subst h12
                    refine z_topi (nI (5 * (ix p0) + j)) (at_eq i_p0 rfl) ?_
                    refine z_iald C 0 rfl 1 rfl dX1_addRow_172 (5 * (ix p0) + j) rfl (by omega) (by decide) ?_
                    refine z_topi (M (ix p0) j) (fl5_at M (ix p0) j (by omega)) ?_
                    refine z_iload_n C dX1_addRow_173 3 rfl ?_
                    refine z_aload_n C dX1_addRow_174 0 rfl ?_
                    refine z_get (cl := vwCl) (T := TX1) (N := 13) (ci := 3) (ref := "IntervalSolverModel") C hinX1 rfl 2 (by decide) lk11 rfl dX1_addRow_175 0 rfl rfl ?_
                    refine z_iload_n C dX1_addRow_178 2 rfl ?_
                    refine z_iload C dX1_addRow_179 7 rfl ?_
                    refine z_callSi_none (As := [.int p1, .int (nI j)]) C (c1_at l D K p1 (nI j)) (va_cwS 2 C.1.2.2.2.2 gX1_addRow_X1_at rfl rfl rfl (by decide +kernel) ⟨Nat.le_of_ble_eq_true rfl, Nat.le_of_ble_eq_true rfl⟩) dX1_addRow_181 rfl rfl (Nat.le_of_ble_eq_true rfl) ⟨Nat.le_of_ble_eq_true rfl, Nat.le_of_ble_eq_true rfl⟩ (fun r13 u13 h13 => ?_)
                    subst h13
                    refine z_topi (nI (5 * (ix p1) + j)) (at_eq i_p1 rfl) ?_
                    refine z_iald C 0 rfl 1 rfl dX1_addRow_184 (5 * (ix p1) + j) rfl (by omega) (by decide) ?_
                    refine z_topi (M (ix p1) j) (fl5_at M (ix p1) j (by omega)) ?_
                    refine z_imul C dX1_addRow_185 ?_
                    refine z_iadd C dX1_addRow_186 ?_
                    refine z_mabs C lk12 lk13 lk5 lk14 (Nat.le_of_ble_eq_true rfl) (Nat.le_of_ble_eq_true rfl) (Nat.le_of_ble_eq_true rfl) (Nat.le_of_ble_eq_true rfl) dX1_addRow_187 ?_
                    refine z_topi (absI (M (ix p0) j + p2 * M (ix p1) j)) rfl ?_
                    refine z_bipush (v := 99) C dX1_addRow_190 (by decide) ?_
                    refine z_icmp_gt (tgt := 199) C dX1_addRow_192 (by decide) (fun c192 => ?_) (fun c192 => ?_)
                    · refine z_iconst (v := 0) C dX1_addRow_199 (by decide) ?_
                      refine z_istore (lv' := [(0, .ref (b 0)), (1, .int p0), (2, .int p1), (3, .int p2), (4, .int (arLo rl rh (ix p0) (ix p1) p2)), (5, .int (arHi rl rh (ix p0) (ix p1) p2)), (6, .int 0), (7, .int (nI j))]) C dX1_addRow_200 (by decide) [1, 2, 3, 4, 5, 6, 0, 7] rfl ?_
                      refine z_iinc (v := nI (j + 1)) (lv' := [(0, .ref (b 0)), (1, .int p0), (2, .int p1), (3, .int p2), (4, .int (arLo rl rh (ix p0) (ix p1) p2)), (5, .int (arHi rl rh (ix p0) (ix p1) p2)), (6, .int 0), (7, .int (nI (j + 1)))]) C dX1_addRow_202 (k := 7) rfl (nI_1 j) (by decide) [1, 2, 3, 4, 5, 6, 7, 0] rfl ?_
                      refine z_goto (tgt := 148) C dX1_addRow_205 (by decide) ?_
                      exact ih148_j (j + 1) 0 (by omega) (by omega) (by omega) (fit_f hv (by first | exact Or.inl c159 | exact Or.inr (Int32.not_le.mpr c192)))
                    · refine z_iconst (v := 1) C dX1_addRow_195 (by decide) ?_
                      refine z_goto (tgt := 200) C dX1_addRow_196 (by decide) ?_
                      refine z_istore (lv' := [(0, .ref (b 0)), (1, .int p0), (2, .int p1), (3, .int p2), (4, .int (arLo rl rh (ix p0) (ix p1) p2)), (5, .int (arHi rl rh (ix p0) (ix p1) p2)), (6, .int 1), (7, .int (nI j))]) C dX1_addRow_200 (by decide) [1, 2, 3, 4, 5, 6, 0, 7] rfl ?_
                      refine z_iinc (v := nI (j + 1)) (lv' := [(0, .ref (b 0)), (1, .int p0), (2, .int p1), (3, .int p2), (4, .int (arLo rl rh (ix p0) (ix p1) p2)), (5, .int (arHi rl rh (ix p0) (ix p1) p2)), (6, .int 1), (7, .int (nI (j + 1)))]) C dX1_addRow_202 (k := 7) rfl (nI_1 j) (by decide) [1, 2, 3, 4, 5, 6, 7, 0] rfl ?_
                      refine z_goto (tgt := 148) C dX1_addRow_205 (by decide) ?_
                      exact ih148_j (j + 1) 1 (by omega) (by omega) (by omega) (fit_s hv c159 (Int32.not_lt.mp c192))
            refine z_iload C dX1_addRow_106 4 rfl ?_
            refine z_sipush (v := -999) C dX1_addRow_108 (by decide) ?_
            refine z_icmp_lt (tgt := 142) C dX1_addRow_111 (by decide) (fun c111 => ?_) (fun c111 => ?_)
            · refine z_iconst (v := 0) C dX1_addRow_142 (by decide) ?_
              exact J143 _ (if_neg (by rintro ⟨h1, h2, h3, h4⟩; first | exact absurd h1 (Int32.not_le.mpr c111) | exact absurd h2 (Int32.not_le.mpr c119) | exact absurd h3 (Int32.not_le.mpr c127) | exact absurd h4 (Int32.not_le.mpr c135))).symm
            · refine z_iload C dX1_addRow_114 5 rfl ?_
              refine z_sipush (v := 999) C dX1_addRow_116 (by decide) ?_
              refine z_icmp_gt (tgt := 142) C dX1_addRow_119 (by decide) (fun c119 => ?_) (fun c119 => ?_)
              · refine z_iconst (v := 0) C dX1_addRow_142 (by decide) ?_
                exact J143 _ (if_neg (by rintro ⟨h1, h2, h3, h4⟩; first | exact absurd h1 (Int32.not_le.mpr c111) | exact absurd h2 (Int32.not_le.mpr c119) | exact absurd h3 (Int32.not_le.mpr c127) | exact absurd h4 (Int32.not_le.mpr c135))).symm
              · refine z_iload C dX1_addRow_122 4 rfl ?_
                refine z_sipush (v := 999) C dX1_addRow_124 (by decide) ?_
                refine z_icmp_gt (tgt := 142) C dX1_addRow_127 (by decide) (fun c127 => ?_) (fun c127 => ?_)
                · refine z_iconst (v := 0) C dX1_addRow_142 (by decide) ?_
                  exact J143 _ (if_neg (by rintro ⟨h1, h2, h3, h4⟩; first | exact absurd h1 (Int32.not_le.mpr c111) | exact absurd h2 (Int32.not_le.mpr c119) | exact absurd h3 (Int32.not_le.mpr c127) | exact absurd h4 (Int32.not_le.mpr c135))).symm
                · refine z_iload C dX1_addRow_130 5 rfl ?_
                  refine z_sipush (v := -999) C dX1_addRow_132 (by decide) ?_
                  refine z_icmp_lt (tgt := 142) C dX1_addRow_135 (by decide) (fun c135 => ?_) (fun c135 => ?_)
                  · refine z_iconst (v := 0) C dX1_addRow_142 (by decide) ?_
                    exact J143 _ (if_neg (by rintro ⟨h1, h2, h3, h4⟩; first | exact absurd h1 (Int32.not_le.mpr c111) | exact absurd h2 (Int32.not_le.mpr c119) | exact absurd h3 (Int32.not_le.mpr c127) | exact absurd h4 (Int32.not_le.mpr c135))).symm
                  · refine z_iconst (v := 1) C dX1_addRow_138 (by decide) ?_
                    refine z_goto (tgt := 143) C dX1_addRow_139 (by decide) ?_
                    exact J143 _ (if_pos ⟨Int32.not_lt.mp c111, Int32.not_lt.mp c119, Int32.not_lt.mp c127, Int32.not_lt.mp c135⟩).symm
          · refine z_aload_n C dX1_addRow_44 0 rfl ?_
            refine z_iconst (v := 2) C dX1_addRow_45 (by decide) ?_
            refine z_callVi_all (As := [.int 2]) C (c1_fail l D K b N M S rl rh bl bh 0 fl fh pt nu de 2) (cwV 1 C.1.2.2.2.2 gX1_addRow_X1_fail rfl rfl rfl (by decide +kernel) ⟨Nat.le_of_ble_eq_true rfl, Nat.le_of_ble_eq_true rfl⟩) (ci := 3) rfl rfl 0 rfl dX1_addRow_46 rfl rfl (Nat.le_of_ble_eq_true rfl) ⟨Nat.le_of_ble_eq_true rfl, Nat.le_of_ble_eq_true rfl⟩ (fun r14 u14 h14 => ?_)
            obtain ⟨rfl, rfl⟩ := h14
            exact hend _ _ _ _ _ (N, M, S, rl, rh, bl, bh, 2, fl, fh, pt, nu, de) dX1_addRow_49 (Nat.zero_le _) (Nat.zero_le _) (by have hk : (kAdd N M rl rh p0 p1 p2) = 2 := (by unfold kAdd; rw [if_pos ⟨q10, q18⟩, if_neg (by rintro ⟨h1, h2, h3⟩; first | exact h1 c29 | exact absurd h2 (Int32.not_le.mpr c35) | exact c41 h3)]); rw [hk]; first | exact ⟨rfl, rfl⟩ | simp [onlyIf])
    · have q18 : ¬ (ixP N p1) := zi0.mp c18
      refine z_aload_n C dX1_addRow_21 0 rfl ?_
      refine z_iconst (v := 1) C dX1_addRow_22 (by decide) ?_
      refine z_callVi_all (As := [.int 1]) C (c1_fail l D K b N M S rl rh bl bh 0 fl fh pt nu de 1) (cwV 1 C.1.2.2.2.2 gX1_addRow_X1_fail rfl rfl rfl (by decide +kernel) ⟨Nat.le_of_ble_eq_true rfl, Nat.le_of_ble_eq_true rfl⟩) (ci := 3) rfl rfl 0 rfl dX1_addRow_23 rfl rfl (Nat.le_of_ble_eq_true rfl) ⟨Nat.le_of_ble_eq_true rfl, Nat.le_of_ble_eq_true rfl⟩ (fun r15 u15 h15 => ?_)
      obtain ⟨rfl, rfl⟩ := h15
      exact hend _ _ _ _ _ (N, M, S, rl, rh, bl, bh, 1, fl, fh, pt, nu, de) dX1_addRow_26 (Nat.zero_le _) (Nat.zero_le _) (by have hk : (kAdd N M rl rh p0 p1 p2) = 1 := (if_neg (by rintro ⟨h1, h2⟩; first | exact q10 h1 | exact q18 h2)); rw [hk]; first | exact ⟨rfl, rfl⟩ | simp [onlyIf])
