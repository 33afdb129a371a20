set_option maxRecDepth 100000 in
set_option maxHeartbeats 4000000 in
theorem c1_findVariation (l : Launch) (D : va_G) (K : Nat → ClassId) (b : Nat → Nat) (N : Nat) (M : Nat → Nat → Int32) (S : Nat → Nat → Int32) (rl : Nat → Int32) (rh : Nat → Int32) (bl : Nat → Int32) (bh : Nat → Int32) (th : Int32) (fl : Nat → Int32) (fh : Nat → Int32) (pt : Nat → Int64) (nu : Int64) (de : Int64) (hN : N ≤ 5) (h1 : 0 ≤ absL (fvI M S N N)) (h2 : 0 < absL (100 * absL (detM M N))) : mV l D K yX1_findVariation wsX1_findVariation 3 72 0 0 [.ref (b 0)] (w1 K b (N, M, S, rl, rh, bl, bh, th, fl, fh, pt, nu, de)) (fun u => ∃ pt1, u = (N, M, S, rl, rh, bl, bh, th, fl, fh, pt1, rdN (fvI M S N N) (100 * absL (detM M N)), rdD (fvI M S N N) (100 * absL (detM M N)))) (w1 K b) := by
  have hinX1 : ∀ w ∈ wsX10, w ∈ wsX1_findVariation := by decide +kernel
  have lk0 : Cond.fieldLink RX1 7 "IntervalSolverModel" "n" "I" ∈ wsX1_findVariation := by decide +kernel
  have lk1 : Cond.constantLong RX1 120 (100) ∈ wsX1_findVariation := by decide +kernel
  have lk2 : Cond.methodLink RX1 84 Lib.MathLoose.abs_long.x ∈ wsX1_findVariation := by decide +kernel
  have lk3 : Cond.static Lib.MathLoose.abs_long.x ∈ wsX1_findVariation := by decide +kernel
  have lk4 : Cond.initialized "java/lang/Math" ∈ wsX1_findVariation := by decide +kernel
  have lk5 : Cond.code Lib.MathLoose.abs_long.x Lib.MathLoose.abs_long.code 2 (some .long) ∈ wsX1_findVariation := by decide +kernel
  have lk6 : Cond.methodLink RX1 117 Lib.MathLoose.max_long.x ∈ wsX1_findVariation := by decide +kernel
  have lk7 : Cond.static Lib.MathLoose.max_long.x ∈ wsX1_findVariation := by decide +kernel
  have lk8 : Cond.code Lib.MathLoose.max_long.x Lib.MathLoose.max_long.code 4 (some .long) ∈ wsX1_findVariation := by decide +kernel
  have lk9 : Cond.fieldLink RX1 17 "IntervalSolverModel" "spreads" "[I" ∈ wsX1_findVariation := by decide +kernel
  refine z_met_v (cc := cX1_findVariation) (maxL := 8) (own := RX1) (lv := [(0, .ref (b 0))]) (by decide) rfl rfl (Nat.le_of_ble_eq_true rfl) rfl ?_
  intro p e s m below meth c args Q A C hnm hend
  refine z_lconst (v := 0) C dX1_findVariation_0 (by decide) ?_
  refine z_lstore_n (lv' := [(0, .ref (b 0)), (1, .long 0)]) C dX1_findVariation_1 (by decide) [1, 0] rfl ?_
  refine z_iconst (v := 0) C dX1_findVariation_2 (by decide) ?_
  refine z_istore_n (lv' := [(0, .ref (b 0)), (1, .long 0), (3, .int 0)]) C dX1_findVariation_3 (by decide) [1, 2, 0] rfl ?_
  suffices L4 : ∀ (f4_i i : Nat) (pt2 : Nat → Int64), 0 ≤ i → i ≤ N → N < i + f4_i → zW p l e { frames := 3, cells := 0, slots := 0, locals := 72 } s m args below meth c Q 8 A s.heap D vwCl 0 0 (w1 K b (N, M, S, rl, rh, bl, bh, th, fl, fh, pt2, nu, de)) 4 ([(0, .ref (b 0)), (1, .long (fvI M S N i)), (3, .int (nI i))]) [] from L4 (N + 1) 0 pt (Nat.le_refl _) (by omega) (by omega)
  intro f4_i
  induction f4_i with
  | zero => intro i pt2 h0 h1 h2; exact absurd h2 (by omega)
  | succ f4_i ih4_i =>
    intro i pt2 g4_0 g4_1 g4_2
    refine z_iload_n C dX1_findVariation_4 2 rfl ?_
    refine z_aload_n C dX1_findVariation_5 0 rfl ?_
    refine z_get (cl := vwCl) (T := TX1) (N := 13) (ci := 3) (ref := "IntervalSolverModel") C hinX1 rfl 1 (by decide) lk0 rfl dX1_findVariation_6 0 rfl rfl ?_
    refine z_icmp_ge (tgt := 93) C dX1_findVariation_9 (by decide) (fun c9 => ?_) (fun c9 => ?_)
    · have e9 : i = N := by have := (nI_leI (a := N) (b := i) (by omega) (by omega)).mp c9; omega
      rw [e9]
      refine z_aload_n C dX1_findVariation_93 0 rfl ?_
      refine z_lload_n C dX1_findVariation_94 1 rfl ?_
      refine z_ldc2 C lk1 dX1_findVariation_95 ?_
      refine z_aload_n C dX1_findVariation_98 0 rfl ?_
      refine z_iconst (v := -1) C dX1_findVariation_99 (by decide) ?_
      refine z_iconst (v := -1) C dX1_findVariation_100 (by decide) ?_
      refine z_callVl_all (As := [.int (-1), .int (-1)]) C (c1_determinantWithout l D K b N M S rl rh bl bh th fl fh pt2 nu de (-1) (-1) N 5 (by omega) (Or.inl ⟨rfl, rfl, rfl, rfl⟩)) (cwV 2 C.1.2.2.2.2 gX1_findVariation_X1_determinantWithout rfl rfl rfl (by decide +kernel) ⟨Nat.le_of_ble_eq_true rfl, Nat.le_of_ble_eq_true rfl⟩) (ci := 3) rfl rfl 0 rfl dX1_findVariation_101 rfl rfl (Nat.le_of_ble_eq_true rfl) ⟨Nat.le_of_ble_eq_true rfl, Nat.le_of_ble_eq_true rfl⟩ (fun r1 u1 h1 => ?_)
      obtain ⟨hr, pt_1, rfl⟩ := h1
      have hr_1 : r1 = detM M N := (hr.trans (congrArg _ (if_pos rfl))); clear hr; subst hr_1
      refine z_mabsL C lk2 lk3 lk4 lk5 (Nat.le_of_ble_eq_true rfl) (Nat.le_of_ble_eq_true rfl) (Nat.le_of_ble_eq_true rfl) (Nat.le_of_ble_eq_true rfl) dX1_findVariation_104 ?_
      refine z_topl (absL (detM M N)) rfl ?_
      refine z_lmul C dX1_findVariation_107 ?_
      refine z_callVv_all (As := [.long (fvI M S N N), .long (100 * (absL (detM M N)))]) C (c1_reduce l D K b N M S rl rh bl bh th fl fh pt_1 nu de (fvI M S N N) (100 * (absL (detM M N))) h1 h2) (cwV 2 C.1.2.2.2.2 gX1_findVariation_X1_reduce rfl rfl rfl (by decide +kernel) ⟨Nat.le_of_ble_eq_true rfl, Nat.le_of_ble_eq_true rfl⟩) (ci := 3) rfl rfl 0 rfl dX1_findVariation_108 rfl rfl (Nat.le_of_ble_eq_true rfl) ⟨Nat.le_of_ble_eq_true rfl, Nat.le_of_ble_eq_true rfl⟩ (fun u2 h2 => ?_)
      subst h2
      exact hend _ _ _ _ (N, M, S, rl, rh, bl, bh, th, fl, fh, pt_1, rdN (fvI M S N N) (100 * (absL (detM M N))), rdD (fvI M S N N) (100 * (absL (detM M N)))) dX1_findVariation_111 (Nat.zero_le _) (Nat.zero_le _) ⟨_, rfl⟩
    · have e9 : i < N := by have := mt (nI_leI (a := N) (b := i) (by omega) (by omega)).mpr c9; omega
      refine z_lconst (v := 0) C dX1_findVariation_12 (by decide) ?_
      refine z_lstore (lv' := [(0, .ref (b 0)), (1, .long (fvI M S N i)), (3, .int (nI i)), (4, .long 0)]) C dX1_findVariation_13 (by decide) [1, 2, 3, 0] rfl ?_
      refine z_iconst (v := 0) C dX1_findVariation_15 (by decide) ?_
      refine z_istore (lv' := [(0, .ref (b 0)), (1, .long (fvI M S N i)), (3, .int (nI i)), (4, .long 0), (6, .int 0)]) C dX1_findVariation_16 (by decide) [1, 2, 3, 4, 0] rfl ?_
      suffices L18 : ∀ (f18_j j : Nat) (pt3 : Nat → Int64), 0 ≤ j → j ≤ N → N < j + f18_j → zW p l e { frames := 3, cells := 0, slots := 0, locals := 72 } s m args below meth c Q 8 A s.heap D vwCl 0 0 (w1 K b (N, M, S, rl, rh, bl, bh, th, fl, fh, pt3, nu, de)) 18 ([(0, .ref (b 0)), (1, .long (fvI M S N i)), (3, .int (nI i)), (4, .long (fvJ M S N i j)), (6, .int (nI j))]) [] from L18 (N + 1) 0 pt2 (Nat.le_refl _) (by omega) (by omega)
      intro f18_j
      induction f18_j with
      | zero => intro j pt3 h0 h1 h2; exact absurd h2 (by omega)
      | succ f18_j ih18_j =>
        intro j pt3 g18_0 g18_1 g18_2
        refine z_iload C dX1_findVariation_18 4 rfl ?_
        refine z_aload_n C dX1_findVariation_20 0 rfl ?_
        refine z_get (cl := vwCl) (T := TX1) (N := 13) (ci := 3) (ref := "IntervalSolverModel") C hinX1 rfl 1 (by decide) lk0 rfl dX1_findVariation_21 0 rfl rfl ?_
        refine z_icmp_ge (tgt := 80) C dX1_findVariation_24 (by decide) (fun c24 => ?_) (fun c24 => ?_)
        · have e24 : j = N := by have := (nI_leI (a := N) (b := j) (by omega) (by omega)).mp c24; omega
          rw [e24]
          refine z_lload_n C dX1_findVariation_80 1 rfl ?_
          refine z_lload C dX1_findVariation_81 3 rfl ?_
          refine z_mmaxL C lk6 lk7 lk4 lk8 (Nat.le_of_ble_eq_true rfl) (Nat.le_of_ble_eq_true rfl) (Nat.le_of_ble_eq_true rfl) (Nat.le_of_ble_eq_true rfl) dX1_findVariation_83 ?_
          refine z_topl (fvI M S N (i + 1)) rfl ?_
          refine z_lstore_n (lv' := [(0, .ref (b 0)), (1, .long (fvI M S N (i + 1))), (3, .int (nI i)), (4, .long (fvJ M S N i N)), (6, .int (nI N))]) C dX1_findVariation_86 (by decide) [1, 0, 2, 3, 4] rfl ?_
          refine z_iinc (v := nI (i + 1)) (lv' := [(0, .ref (b 0)), (1, .long (fvI M S N (i + 1))), (3, .int (nI (i + 1))), (4, .long (fvJ M S N i N)), (6, .int (nI N))]) C dX1_findVariation_87 (k := 2) rfl (nI_1 i) (by decide) [1, 2, 0, 3, 4] rfl ?_
          refine z_goto (tgt := 4) C dX1_findVariation_90 (by decide) ?_
          refine z_lv (lv' := [(0, .ref (b 0)), (1, .long (fvI M S N (i + 1))), (3, .int (nI (i + 1)))]) [0, 1, 2] rfl ?_
          exact ih4_i (i + 1) pt3 (by omega) (by omega) (by omega)
        · have e24 : j < N := by have := mt (nI_leI (a := N) (b := j) (by omega) (by omega)).mpr c24; omega
          refine z_iconst (v := 0) C dX1_findVariation_27 (by decide) ?_
          refine z_istore (lv' := [(0, .ref (b 0)), (1, .long (fvI M S N i)), (3, .int (nI i)), (4, .long (fvJ M S N i j)), (6, .int (nI j)), (7, .int 0)]) C dX1_findVariation_28 (by decide) [1, 2, 3, 4, 5, 0] rfl ?_
          suffices L30 : ∀ (f30_k k : Nat) (pt4 : Nat → Int64), 0 ≤ k → k ≤ N → N < k + f30_k → zW p l e { frames := 3, cells := 0, slots := 0, locals := 72 } s m args below meth c Q 8 A s.heap D vwCl 0 0 (w1 K b (N, M, S, rl, rh, bl, bh, th, fl, fh, pt4, nu, de)) 30 ([(0, .ref (b 0)), (1, .long (fvI M S N i)), (3, .int (nI i)), (4, .long (fvK M S N i j (fvJ M S N i j) k)), (6, .int (nI j)), (7, .int (nI k))]) [] from L30 (N + 1) 0 pt3 (Nat.le_refl _) (by omega) (by omega)
          intro f30_k
          induction f30_k with
          | zero => intro k pt4 h0 h1 h2; exact absurd h2 (by omega)
          | succ f30_k ih30_k =>
            intro k pt4 g30_0 g30_1 g30_2
            refine z_iload C dX1_findVariation_30 5 rfl ?_
            refine z_aload_n C dX1_findVariation_32 0 rfl ?_
            refine z_get (cl := vwCl) (T := TX1) (N := 13) (ci := 3) (ref := "IntervalSolverModel") C hinX1 rfl 1 (by decide) lk0 rfl dX1_findVariation_33 0 rfl rfl ?_
            refine z_icmp_ge (tgt := 74) C dX1_findVariation_36 (by decide) (fun c36 => ?_) (fun c36 => ?_)
            · have e36 : k = N := by have := (nI_leI (a := N) (b := k) (by omega) (by omega)).mp c36; omega
              rw [e36]
              refine z_iinc (v := nI (j + 1)) (lv' := [(0, .ref (b 0)), (1, .long (fvI M S N i)), (3, .int (nI i)), (4, .long (fvK M S N i j (fvJ M S N i j) N)), (6, .int (nI (j + 1))), (7, .int (nI N))]) C dX1_findVariation_74 (k := 4) rfl (nI_1 j) (by decide) [1, 2, 3, 4, 0, 5] rfl ?_
              refine z_goto (tgt := 18) C dX1_findVariation_77 (by decide) ?_
              refine z_lv (lv' := [(0, .ref (b 0)), (1, .long (fvI M S N i)), (3, .int (nI i)), (4, .long (fvK M S N i j (fvJ M S N i j) N)), (6, .int (nI (j + 1)))]) [0, 1, 2, 3, 4] rfl ?_
              exact ih18_j (j + 1) pt4 (by omega) (by omega) (by omega)
            · have e36 : k < N := by have := mt (nI_leI (a := N) (b := k) (by omega) (by omega)).mpr c36; omega
              refine z_lload C dX1_findVariation_39 3 rfl ?_
              refine z_aload_n C dX1_findVariation_41 0 rfl ?_
              refine z_iload_n C dX1_findVariation_42 2 rfl ?_
              refine z_iload C dX1_findVariation_43 5 rfl ?_
              refine z_callVl_all (As := [.int (nI i), .int (nI k)]) C (c1_cofactor l D K b N M S rl rh bl bh th fl fh pt4 nu de i k (by omega) (by omega) (by omega)) (cwV 2 C.1.2.2.2.2 gX1_findVariation_X1_cofactor rfl rfl rfl (by decide +kernel) ⟨Nat.le_of_ble_eq_true rfl, Nat.le_of_ble_eq_true rfl⟩) (ci := 3) rfl rfl 0 rfl dX1_findVariation_45 rfl rfl (Nat.le_of_ble_eq_true rfl) ⟨Nat.le_of_ble_eq_true rfl, Nat.le_of_ble_eq_true rfl⟩ (fun r3 u3 h3 => ?_)
              obtain ⟨rfl, pt_3, rfl⟩ := h3
              refine z_mabsL C lk2 lk3 lk4 lk5 (Nat.le_of_ble_eq_true rfl) (Nat.le_of_ble_eq_true rfl) (Nat.le_of_ble_eq_true rfl) (Nat.le_of_ble_eq_true rfl) dX1_findVariation_48 ?_
              refine z_topl (absL (cofM M N i k)) rfl ?_
              refine z_aload_n C dX1_findVariation_51 0 rfl ?_
              refine z_get (cl := vwCl) (T := TX1) (N := 13) (ci := 3) (ref := "IntervalSolverModel") C hinX1 rfl 3 (by decide) lk9 rfl dX1_findVariation_52 0 rfl rfl ?_
              refine z_iload C dX1_findVariation_55 5 rfl ?_
              refine z_iload C dX1_findVariation_57 4 rfl ?_
              refine z_callSi_none (As := [.int (nI k), .int (nI j)]) C (c1_at l D K (nI k) (nI j)) (va_cwS 2 C.1.2.2.2.2 gX1_findVariation_X1_at rfl rfl rfl (by decide +kernel) ⟨Nat.le_of_ble_eq_true rfl, Nat.le_of_ble_eq_true rfl⟩) dX1_findVariation_59 rfl rfl (Nat.le_of_ble_eq_true rfl) ⟨Nat.le_of_ble_eq_true rfl, Nat.le_of_ble_eq_true rfl⟩ (fun r4 u4 h4 => ?_)
              subst h4
              refine z_topi (nI (5 * k + j)) (at_eq rfl rfl) ?_
              refine z_iald C 0 rfl 2 rfl dX1_findVariation_62 (5 * k + j) rfl (by omega) (by decide) ?_
              refine z_topi (S k j) (fl5_at S k j (by omega)) ?_
              refine z_i2l C dX1_findVariation_63 ?_
              refine z_lmul C dX1_findVariation_64 ?_
              refine z_ladd C dX1_findVariation_65 ?_
              refine z_lstore (lv' := [(0, .ref (b 0)), (1, .long (fvI M S N i)), (3, .int (nI i)), (4, .long ((fvK M S N i j (fvJ M S N i j) k) + ((absL (cofM M N i k)) * ((S k j).toInt64)))), (6, .int (nI j)), (7, .int (nI k))]) C dX1_findVariation_66 (by decide) [1, 2, 3, 0, 4, 5] rfl ?_
              refine z_iinc (v := nI (k + 1)) (lv' := [(0, .ref (b 0)), (1, .long (fvI M S N i)), (3, .int (nI i)), (4, .long ((fvK M S N i j (fvJ M S N i j) k) + ((absL (cofM M N i k)) * ((S k j).toInt64)))), (6, .int (nI j)), (7, .int (nI (k + 1)))]) C dX1_findVariation_68 (k := 5) rfl (nI_1 k) (by decide) [1, 2, 3, 4, 5, 0] rfl ?_
              refine z_goto (tgt := 30) C dX1_findVariation_71 (by decide) ?_
              exact ih30_k (k + 1) pt_3 (by omega) (by omega) (by omega)

set_option maxRecDepth 100000 in
set_option maxHeartbeats 4000000 in
theorem c1_variationNumerator (l : Launch) (D : va_G) (K : Nat → ClassId) (b : Nat → Nat) (N : Nat) (M : Nat → Nat → Int32) (S : Nat → Nat → Int32) (rl : Nat → Int32) (rh : Nat → Int32) (bl : Nat → Int32) (bh : Nat → Int32) (th : Int32) (fl : Nat → Int32) (fh : Nat → Int32) (pt : Nat → Int64) (nu : Int64) (de : Int64) (hN : N ≤ 5) (hok : okM N M S rl rh) : mL l D K yX1_variationNumerator wsX1_variationNumerator 4 99 0 0 [.ref (b 0)] (w1 K b (N, M, S, rl, rh, bl, bh, th, fl, fh, pt, nu, de)) (fun r u => r = onlyIf (kDet N M) (rdN (fvI M S N N) (100 * absL (detM M N))) 0 ∧ ∃ pt1 nu1 de1, u = (N, M, S, rl, rh, bl, bh, kDet N M, fl, fh, pt1, nu1, de1)) (w1 K b) := by
  have hinX1 : ∀ w ∈ wsX10, w ∈ wsX1_variationNumerator := by decide +kernel
  have lk0 : Cond.fieldLink RX1 45 "IntervalSolverModel" "thrown" "I" ∈ wsX1_variationNumerator := by decide +kernel
  have lk1 : Cond.fieldLink RX1 87 "IntervalSolverModel" "numerator" "J" ∈ wsX1_variationNumerator := by decide +kernel
  refine z_met_l (cc := cX1_variationNumerator) (maxL := 1) (own := RX1) (lv := [(0, .ref (b 0))]) (by decide) rfl rfl (Nat.le_of_ble_eq_true rfl) rfl ?_
  intro p e s m below meth c args Q A C hnm hend
  refine z_aload_n C dX1_variationNumerator_0 0 rfl ?_
  refine z_iconst (v := 0) C dX1_variationNumerator_1 (by decide) ?_
  refine z_put (cl := vwCl) (T := TX1) (N := 13) (ci := 3) (ref := "IntervalSolverModel") (ws' := w1 K b (N, M, S, rl, rh, bl, bh, 0, fl, fh, pt, nu, de)) C hinX1 tyX1 tyX1_ok nmX1 rfl 0 (by decide) lk0 rfl rfl rfl rfl dX1_variationNumerator_2 0 rfl (Nat.le_of_ble_eq_true rfl) rfl ?_
  refine z_aload_n C dX1_variationNumerator_5 0 rfl ?_
  refine z_callVi_all (As := []) C (c1_isSingular l D K b N M S rl rh bl bh 0 fl fh pt nu de (by omega)) (cwV 0 C.1.2.2.2.2 gX1_variationNumerator_X1_isSingular rfl rfl rfl (by decide +kernel) ⟨Nat.le_of_ble_eq_true rfl, Nat.le_of_ble_eq_true rfl⟩) (ci := 3) rfl rfl 0 rfl dX1_variationNumerator_6 rfl rfl (Nat.le_of_ble_eq_true rfl) ⟨Nat.le_of_ble_eq_true rfl, Nat.le_of_ble_eq_true rfl⟩ (fun r1 u1 h1 => ?_)
  obtain ⟨rfl, pt_1, rfl⟩ := h1
  refine z_if_eq (tgt := 19) C dX1_variationNumerator_9 (by decide) (fun c9 => ?_) (fun c9 => ?_)
  · have q9 : ¬ (detM M N = 0) := zi0.mp c9
    have hd := q9
    refine z_aload_n C dX1_variationNumerator_19 0 rfl ?_
    have hk : kDet N M = 0 := if_neg hd
    refine z_callVv_all (As := []) C (c1_findVariation l D K b N M S rl rh bl bh 0 fl fh pt_1 nu de (by omega) hok.2.2.2 ((hok.1 hd).2.1)) (cwV 0 C.1.2.2.2.2 gX1_variationNumerator_X1_findVariation rfl rfl rfl (by decide +kernel) ⟨Nat.le_of_ble_eq_true rfl, Nat.le_of_ble_eq_true rfl⟩) (ci := 3) rfl rfl 0 rfl dX1_variationNumerator_20 rfl rfl (Nat.le_of_ble_eq_true rfl) ⟨Nat.le_of_ble_eq_true rfl, Nat.le_of_ble_eq_true rfl⟩ (fun u2 h2 => ?_)
    obtain ⟨pt_2, rfl⟩ := h2
    refine z_aload_n C dX1_variationNumerator_23 0 rfl ?_
    refine z_get (cl := vwCl) (T := TX1) (N := 13) (ci := 3) (ref := "IntervalSolverModel") C hinX1 rfl 11 (by decide) lk1 rfl dX1_variationNumerator_24 0 rfl rfl ?_
    exact hend _ _ _ _ _ (N, M, S, rl, rh, bl, bh, 0, fl, fh, pt_2, rdN (fvI M S N N) (100 * absL (detM M N)), rdD (fvI M S N N) (100 * absL (detM M N))) dX1_variationNumerator_27 (Nat.zero_le _) (Nat.zero_le _) (by rw [hk]; exact ⟨rfl, _, _, _, rfl⟩)
  · have q9 : detM M N = 0 := zi1.mp c9
    have hk : kDet N M = 1 := if_pos q9
    refine z_aload_n C dX1_variationNumerator_12 0 rfl ?_
    refine z_iconst (v := 1) C dX1_variationNumerator_13 (by decide) ?_
    refine z_callVi_all (As := [.int 1]) C (c1_fail l D K b N M S rl rh bl bh 0 fl fh pt_1 nu de 1) (cwV 1 C.1.2.2.2.2 gX1_variationNumerator_X1_fail rfl rfl rfl (by decide +kernel) ⟨Nat.le_of_ble_eq_true rfl, Nat.le_of_ble_eq_true rfl⟩) (ci := 3) rfl rfl 0 rfl dX1_variationNumerator_14 rfl rfl (Nat.le_of_ble_eq_true rfl) ⟨Nat.le_of_ble_eq_true rfl, Nat.le_of_ble_eq_true rfl⟩ (fun r3 u3 h3 => ?_)
    obtain ⟨rfl, rfl⟩ := h3
    refine z_i2l C dX1_variationNumerator_17 ?_
    exact hend _ _ _ _ _ (N, M, S, rl, rh, bl, bh, 1, fl, fh, pt_1, nu, de) dX1_variationNumerator_18 (Nat.zero_le _) (Nat.zero_le _) (by rw [hk]; exact ⟨rfl, _, _, _, rfl⟩)

set_option maxRecDepth 100000 in
set_option maxHeartbeats 4000000 in
theorem c1_variationDenominator (l : Launch) (D : va_G) (K : Nat → ClassId) (b : Nat → Nat) (N : Nat) (M : Nat → Nat → Int32) (S : Nat → Nat → Int32) (rl : Nat → Int32) (rh : Nat → Int32) (bl : Nat → Int32) (bh : Nat → Int32) (th : Int32) (fl : Nat → Int32) (fh : Nat → Int32) (pt : Nat → Int64) (nu : Int64) (de : Int64) (hN : N ≤ 5) (hok : okM N M S rl rh) : mL l D K yX1_variationDenominator wsX1_variationDenominator 4 99 0 0 [.ref (b 0)] (w1 K b (N, M, S, rl, rh, bl, bh, th, fl, fh, pt, nu, de)) (fun r u => r = onlyIf (kDet N M) (rdD (fvI M S N N) (100 * absL (detM M N))) 0 ∧ ∃ pt1 nu1 de1, u = (N, M, S, rl, rh, bl, bh, kDet N M, fl, fh, pt1, nu1, de1)) (w1 K b) := by
  have hinX1 : ∀ w ∈ wsX10, w ∈ wsX1_variationDenominator := by decide +kernel
  have lk0 : Cond.fieldLink RX1 45 "IntervalSolverModel" "thrown" "I" ∈ wsX1_variationDenominator := by decide +kernel
  have lk1 : Cond.fieldLink RX1 91 "IntervalSolverModel" "denominator" "J" ∈ wsX1_variationDenominator := by decide +kernel
  refine z_met_l (cc := cX1_variationDenominator) (maxL := 1) (own := RX1) (lv := [(0, .ref (b 0))]) (by decide) rfl rfl (Nat.le_of_ble_eq_true rfl) rfl ?_
  intro p e s m below meth c args Q A C hnm hend
  refine z_aload_n C dX1_variationDenominator_0 0 rfl ?_
  refine z_iconst (v := 0) C dX1_variationDenominator_1 (by decide) ?_
  refine z_put (cl := vwCl) (T := TX1) (N := 13) (ci := 3) (ref := "IntervalSolverModel") (ws' := w1 K b (N, M, S, rl, rh, bl, bh, 0, fl, fh, pt, nu, de)) C hinX1 tyX1 tyX1_ok nmX1 rfl 0 (by decide) lk0 rfl rfl rfl rfl dX1_variationDenominator_2 0 rfl (Nat.le_of_ble_eq_true rfl) rfl ?_
  refine z_aload_n C dX1_variationDenominator_5 0 rfl ?_
  refine z_callVi_all (As := []) C (c1_isSingular l D K b N M S rl rh bl bh 0 fl fh pt nu de (by omega)) (cwV 0 C.1.2.2.2.2 gX1_variationDenominator_X1_isSingular rfl rfl rfl (by decide +kernel) ⟨Nat.le_of_ble_eq_true rfl, Nat.le_of_ble_eq_true rfl⟩) (ci := 3) rfl rfl 0 rfl dX1_variationDenominator_6 rfl rfl (Nat.le_of_ble_eq_true rfl) ⟨Nat.le_of_ble_eq_true rfl, Nat.le_of_ble_eq_true rfl⟩ (fun r1 u1 h1 => ?_)
  obtain ⟨rfl, pt_1, rfl⟩ := h1
  refine z_if_eq (tgt := 19) C dX1_variationDenominator_9 (by decide) (fun c9 => ?_) (fun c9 => ?_)
  · have q9 : ¬ (detM M N = 0) := zi0.mp c9
    have hd := q9
    refine z_aload_n C dX1_variationDenominator_19 0 rfl ?_
    have hk : kDet N M = 0 := if_neg hd
    refine z_callVv_all (As := []) C (c1_findVariation l D K b N M S rl rh bl bh 0 fl fh pt_1 nu de (by omega) hok.2.2.2 ((hok.1 hd).2.1)) (cwV 0 C.1.2.2.2.2 gX1_variationDenominator_X1_findVariation rfl rfl rfl (by decide +kernel) ⟨Nat.le_of_ble_eq_true rfl, Nat.le_of_ble_eq_true rfl⟩) (ci := 3) rfl rfl 0 rfl dX1_variationDenominator_20 rfl rfl (Nat.le_of_ble_eq_true rfl) ⟨Nat.le_of_ble_eq_true rfl, Nat.le_of_ble_eq_true rfl⟩ (fun u2 h2 => ?_)
    obtain ⟨pt_2, rfl⟩ := h2
    refine z_aload_n C dX1_variationDenominator_23 0 rfl ?_
    refine z_get (cl := vwCl) (T := TX1) (N := 13) (ci := 3) (ref := "IntervalSolverModel") C hinX1 rfl 12 (by decide) lk1 rfl dX1_variationDenominator_24 0 rfl rfl ?_
    exact hend _ _ _ _ _ (N, M, S, rl, rh, bl, bh, 0, fl, fh, pt_2, rdN (fvI M S N N) (100 * absL (detM M N)), rdD (fvI M S N N) (100 * absL (detM M N))) dX1_variationDenominator_27 (Nat.zero_le _) (Nat.zero_le _) (by rw [hk]; exact ⟨rfl, _, _, _, rfl⟩)
  · have q9 : detM M N = 0 := zi1.mp c9
    have hk : kDet N M = 1 := if_pos q9
    refine z_aload_n C dX1_variationDenominator_12 0 rfl ?_
    refine z_iconst (v := 1) C dX1_variationDenominator_13 (by decide) ?_
    refine z_callVi_all (As := [.int 1]) C (c1_fail l D K b N M S rl rh bl bh 0 fl fh pt_1 nu de 1) (cwV 1 C.1.2.2.2.2 gX1_variationDenominator_X1_fail rfl rfl rfl (by decide +kernel) ⟨Nat.le_of_ble_eq_true rfl, Nat.le_of_ble_eq_true rfl⟩) (ci := 3) rfl rfl 0 rfl dX1_variationDenominator_14 rfl rfl (Nat.le_of_ble_eq_true rfl) ⟨Nat.le_of_ble_eq_true rfl, Nat.le_of_ble_eq_true rfl⟩ (fun r3 u3 h3 => ?_)
    obtain ⟨rfl, rfl⟩ := h3
    refine z_i2l C dX1_variationDenominator_17 ?_
    exact hend _ _ _ _ _ (N, M, S, rl, rh, bl, bh, 1, fl, fh, pt_1, nu, de) dX1_variationDenominator_18 (Nat.zero_le _) (Nat.zero_le _) (by rw [hk]; exact ⟨rfl, _, _, _, rfl⟩)

set_option maxRecDepth 100000 in
set_option maxHeartbeats 4000000 in
theorem c1_isSafe (l : Launch) (D : va_G) (K : Nat → ClassId) (b : Nat → Nat) (N : Nat) (M : Nat → Nat → Int32) (S : Nat → Nat → Int32) (rl : Nat → Int32) (rh : Nat → Int32) (bl : Nat → Int32) (bh : Nat → Int32) (th : Int32) (fl : Nat → Int32) (fh : Nat → Int32) (pt : Nat → Int64) (nu : Int64) (de : Int64) (hN : N ≤ 5) (hok : okM N M S rl rh) : mI l D K yX1_isSafe wsX1_isSafe 4 99 0 0 [.ref (b 0)] (w1 K b (N, M, S, rl, rh, bl, bh, th, fl, fh, pt, nu, de)) (fun r u => r = (if (¬ detM M N = 0 ∧ rdN (fvI M S N N) (100 * absL (detM M N)) < rdD (fvI M S N N) (100 * absL (detM M N))) then 1 else 0) ∧ ∃ pt1 nu1 de1, u = (N, M, S, rl, rh, bl, bh, 0, fl, fh, pt1, nu1, de1)) (w1 K b) := by
  have hinX1 : ∀ w ∈ wsX10, w ∈ wsX1_isSafe := by decide +kernel
  have lk0 : Cond.fieldLink RX1 45 "IntervalSolverModel" "thrown" "I" ∈ wsX1_isSafe := by decide +kernel
  have lk1 : Cond.fieldLink RX1 87 "IntervalSolverModel" "numerator" "J" ∈ wsX1_isSafe := by decide +kernel
  have lk2 : Cond.fieldLink RX1 91 "IntervalSolverModel" "denominator" "J" ∈ wsX1_isSafe := by decide +kernel
  refine z_met_z (cc := cX1_isSafe) (maxL := 1) (own := RX1) (lv := [(0, .ref (b 0))]) (by decide) rfl rfl (Nat.le_of_ble_eq_true rfl) rfl ?_
  intro p e s m below meth c args Q A C hnm hend
  refine z_aload_n C dX1_isSafe_0 0 rfl ?_
  refine z_iconst (v := 0) C dX1_isSafe_1 (by decide) ?_
  refine z_put (cl := vwCl) (T := TX1) (N := 13) (ci := 3) (ref := "IntervalSolverModel") (ws' := w1 K b (N, M, S, rl, rh, bl, bh, 0, fl, fh, pt, nu, de)) C hinX1 tyX1 tyX1_ok nmX1 rfl 0 (by decide) lk0 rfl rfl rfl rfl dX1_isSafe_2 0 rfl (Nat.le_of_ble_eq_true rfl) rfl ?_
  refine z_aload_n C dX1_isSafe_5 0 rfl ?_
  refine z_callVi_all (As := []) C (c1_isSingular l D K b N M S rl rh bl bh 0 fl fh pt nu de (by omega)) (cwV 0 C.1.2.2.2.2 gX1_isSafe_X1_isSingular rfl rfl rfl (by decide +kernel) ⟨Nat.le_of_ble_eq_true rfl, Nat.le_of_ble_eq_true rfl⟩) (ci := 3) rfl rfl 0 rfl dX1_isSafe_6 rfl rfl (Nat.le_of_ble_eq_true rfl) ⟨Nat.le_of_ble_eq_true rfl, Nat.le_of_ble_eq_true rfl⟩ (fun r1 u1 h1 => ?_)
  obtain ⟨rfl, pt_1, rfl⟩ := h1
  refine z_if_eq (tgt := 14) C dX1_isSafe_9 (by decide) (fun c9 => ?_) (fun c9 => ?_)
  · have q9 : ¬ (detM M N = 0) := zi0.mp c9
    have hd := q9
    refine z_aload_n C dX1_isSafe_14 0 rfl ?_
    refine z_callVv_all (As := []) C (c1_findVariation l D K b N M S rl rh bl bh 0 fl fh pt_1 nu de (by omega) hok.2.2.2 ((hok.1 hd).2.1)) (cwV 0 C.1.2.2.2.2 gX1_isSafe_X1_findVariation rfl rfl rfl (by decide +kernel) ⟨Nat.le_of_ble_eq_true rfl, Nat.le_of_ble_eq_true rfl⟩) (ci := 3) rfl rfl 0 rfl dX1_isSafe_15 rfl rfl (Nat.le_of_ble_eq_true rfl) ⟨Nat.le_of_ble_eq_true rfl, Nat.le_of_ble_eq_true rfl⟩ (fun u2 h2 => ?_)
    obtain ⟨pt_2, rfl⟩ := h2
    refine z_aload_n C dX1_isSafe_18 0 rfl ?_
    refine z_get (cl := vwCl) (T := TX1) (N := 13) (ci := 3) (ref := "IntervalSolverModel") C hinX1 rfl 11 (by decide) lk1 rfl dX1_isSafe_19 0 rfl rfl ?_
    refine z_aload_n C dX1_isSafe_22 0 rfl ?_
    refine z_get (cl := vwCl) (T := TX1) (N := 13) (ci := 3) (ref := "IntervalSolverModel") C hinX1 rfl 12 (by decide) lk2 rfl dX1_isSafe_23 0 rfl rfl ?_
    refine z_lcmp_ge (tgt := 34) C dX1_isSafe_26 dX1_isSafe_27 (by decide) (fun c26 => ?_) (fun c26 => ?_)
    · refine z_iconst (v := 0) C dX1_isSafe_34 (by decide) ?_
      exact hend _ _ _ _ _ (N, M, S, rl, rh, bl, bh, 0, fl, fh, pt_2, rdN (fvI M S N N) (100 * absL (detM M N)), rdD (fvI M S N N) (100 * absL (detM M N))) dX1_isSafe_35 (Nat.zero_le _) (Nat.zero_le _) (Or.inl rfl) ⟨by rw [if_neg (fun z => c26 z.2)], _, _, _, rfl⟩
    · refine z_iconst (v := 1) C dX1_isSafe_30 (by decide) ?_
      refine z_goto (tgt := 35) C dX1_isSafe_31 (by decide) ?_
      exact hend _ _ _ _ _ (N, M, S, rl, rh, bl, bh, 0, fl, fh, pt_2, rdN (fvI M S N N) (100 * absL (detM M N)), rdD (fvI M S N N) (100 * absL (detM M N))) dX1_isSafe_35 (Nat.zero_le _) (Nat.zero_le _) (Or.inr rfl) ⟨by rw [if_pos ⟨hd, c26⟩], _, _, _, rfl⟩
  · have q9 : detM M N = 0 := zi1.mp c9
    refine z_iconst (v := 0) C dX1_isSafe_12 (by decide) ?_
    exact hend _ _ _ _ _ (N, M, S, rl, rh, bl, bh, 0, fl, fh, pt_1, nu, de) dX1_isSafe_13 (Nat.zero_le _) (Nat.zero_le _) (Or.inl rfl) ⟨by rw [if_neg (fun z => z.1 q9)], _, _, _, rfl⟩

set_option maxRecDepth 100000 in
set_option maxHeartbeats 4000000 in
theorem c1_sharpen (l : Launch) (D : va_G) (K : Nat → ClassId) (b : Nat → Nat) (N : Nat) (M : Nat → Nat → Int32) (S : Nat → Nat → Int32) (rl : Nat → Int32) (rh : Nat → Int32) (bl : Nat → Int32) (bh : Nat → Int32) (th : Int32) (fl : Nat → Int32) (fh : Nat → Int32) (pt : Nat → Int64) (nu : Int64) (de : Int64) (hN : N ≤ 5) (hok : okM N M S rl rh) : mI l D K yX1_sharpen wsX1_sharpen 4 102 0 0 [.ref (b 0)] (w1 K b (N, M, S, rl, rh, bl, bh, th, fl, fh, pt, nu, de)) (fun r u => r = onlyIf (kDet N M) (sh1 N M rl rh (bl, bh)).1 0 ∧ ∃ fl1 fh1 pt1 nu1 de1, u = (N, M, S, rl, rh, onlyIf (kDet N M) (sh1 N M rl rh (bl, bh)).2.1 bl, onlyIf (kDet N M) (sh1 N M rl rh (bl, bh)).2.2 bh, kDet N M, fl1, fh1, pt1, nu1, de1)) (w1 K b) := by
  have hinX1 : ∀ w ∈ wsX10, w ∈ wsX1_sharpen := by decide +kernel
  have lk0 : Cond.fieldLink RX1 45 "IntervalSolverModel" "thrown" "I" ∈ wsX1_sharpen := by decide +kernel
  have lk1 : Cond.fieldLink RX1 7 "IntervalSolverModel" "n" "I" ∈ wsX1_sharpen := by decide +kernel
  have lk2 : Cond.constantLong RX1 130 (1024) ∈ wsX1_sharpen := by decide +kernel
  have lk3 : Cond.fieldLink RX1 87 "IntervalSolverModel" "numerator" "J" ∈ wsX1_sharpen := by decide +kernel
  have lk4 : Cond.fieldLink RX1 91 "IntervalSolverModel" "denominator" "J" ∈ wsX1_sharpen := by decide +kernel
  refine z_met_i (cc := cX1_sharpen) (maxL := 4) (own := RX1) (lv := [(0, .ref (b 0))]) (by decide) rfl rfl (Nat.le_of_ble_eq_true rfl) rfl ?_
  intro p e s m below meth c args Q A C hnm hend
  refine z_aload_n C dX1_sharpen_0 0 rfl ?_
  refine z_iconst (v := 0) C dX1_sharpen_1 (by decide) ?_
  refine z_put (cl := vwCl) (T := TX1) (N := 13) (ci := 3) (ref := "IntervalSolverModel") (ws' := w1 K b (N, M, S, rl, rh, bl, bh, 0, fl, fh, pt, nu, de)) C hinX1 tyX1 tyX1_ok nmX1 rfl 0 (by decide) lk0 rfl rfl rfl rfl dX1_sharpen_2 0 rfl (Nat.le_of_ble_eq_true rfl) rfl ?_
  refine z_aload_n C dX1_sharpen_5 0 rfl ?_
  refine z_callVi_all (As := []) C (c1_isSingular l D K b N M S rl rh bl bh 0 fl fh pt nu de (by omega)) (cwV 0 C.1.2.2.2.2 gX1_sharpen_X1_isSingular rfl rfl rfl (by decide +kernel) ⟨Nat.le_of_ble_eq_true rfl, Nat.le_of_ble_eq_true rfl⟩) (ci := 3) rfl rfl 0 rfl dX1_sharpen_6 rfl rfl (Nat.le_of_ble_eq_true rfl) ⟨Nat.le_of_ble_eq_true rfl, Nat.le_of_ble_eq_true rfl⟩ (fun r1 u1 h1 => ?_)
  obtain ⟨rfl, pt_1, rfl⟩ := h1
  refine z_if_eq (tgt := 18) C dX1_sharpen_9 (by decide) (fun c9 => ?_) (fun c9 => ?_)
  · have q9 : ¬ (detM M N = 0) := zi0.mp c9
    have hd := q9
    refine z_aload_n C dX1_sharpen_18 0 rfl ?_
    have hk : kDet N M = 0 := if_neg hd
    refine z_callVv_all (As := []) C (c1_keep l D K b N M S rl rh bl bh 0 fl fh pt_1 nu de (by omega)) (cwV 0 C.1.2.2.2.2 gX1_sharpen_X1_keep rfl rfl rfl (by decide +kernel) ⟨Nat.le_of_ble_eq_true rfl, Nat.le_of_ble_eq_true rfl⟩) (ci := 3) rfl rfl 0 rfl dX1_sharpen_19 rfl rfl (Nat.le_of_ble_eq_true rfl) ⟨Nat.le_of_ble_eq_true rfl, Nat.le_of_ble_eq_true rfl⟩ (fun u2 h2 => ?_)
    subst h2
    refine z_iconst (v := 0) C dX1_sharpen_22 (by decide) ?_
    refine z_istore_n (lv' := [(0, .ref (b 0)), (1, .int 0)]) C dX1_sharpen_23 (by decide) [1, 0] rfl ?_
    suffices L24 : ∀ (f24_t t : Nat) (x : Nat → Int32) (y : Nat → Int32) (pt2 : Nat → Int64) (nu2 : Int64) (de2 : Int64), 0 ≤ t → t ≤ N → N < t + f24_t → rhS N M rl rh bl bh t = (x, y, true) → (∀ j, N ≤ j → x j = bl j ∧ y j = bh j) → zW p l e { frames := 4, cells := 0, slots := 0, locals := 102 } s m args below meth c Q 4 A s.heap D vwCl 0 0 (w1 K b (N, M, S, rl, rh, x, y, 0, cyV bl fl N, cyV bh fh N, pt2, nu2, de2)) 24 ([(0, .ref (b 0)), (1, .int (nI t))]) [] from L24 (N + 1) 0 bl bh pt_1 nu de (Nat.le_refl _) (by omega) (by omega) rfl (fun _ _ => ⟨rfl, rfl⟩)
    intro f24_t
    induction f24_t with
    | zero => intro t x y pt2 nu2 de2 h0 h1 h2; exact absurd h2 (by omega)
    | succ f24_t ih24_t =>
      intro t x y pt2 nu2 de2 g24_0 g24_1 g24_2 hx ho
      refine z_iload_n C dX1_sharpen_24 1 rfl ?_
      refine z_aload_n C dX1_sharpen_25 0 rfl ?_
      refine z_get (cl := vwCl) (T := TX1) (N := 13) (ci := 3) (ref := "IntervalSolverModel") C hinX1 rfl 1 (by decide) lk1 rfl dX1_sharpen_26 0 rfl rfl ?_
      refine z_icmp_ge (tgt := 96) C dX1_sharpen_29 (by decide) (fun c29 => ?_) (fun c29 => ?_)
      · have e29 : t = N := by have := (nI_leI (a := N) (b := t) (by omega) (by omega)).mp c29; omega
        rw [e29]
        rw [e29] at hx
        refine z_aload_n C dX1_sharpen_96 0 rfl ?_
        refine z_iconst (v := 0) C dX1_sharpen_97 (by decide) ?_
        refine z_callVi_all (As := [.int 0]) C (c1_judge0 l D K b N M S rl rh x y 0 (cyV bl fl N) (cyV bh fh N) pt2 nu2 de2 (by omega)) (cwV 1 C.1.2.2.2.2 gX1_sharpen_X1_judge rfl rfl rfl (by decide +kernel) ⟨Nat.le_of_ble_eq_true rfl, Nat.le_of_ble_eq_true rfl⟩) (ci := 3) rfl rfl 0 rfl dX1_sharpen_98 rfl rfl (Nat.le_of_ble_eq_true rfl) ⟨Nat.le_of_ble_eq_true rfl, Nat.le_of_ble_eq_true rfl⟩ (fun r3 u3 h3 => ?_)
        obtain ⟨rfl, rfl⟩ := h3
        exact hend _ _ _ _ _ (N, M, S, rl, rh, x, y, 0, cyV bl fl N, cyV bh fh N, pt2, nu2, de2) dX1_sharpen_101 (Nat.zero_le _) (Nat.zero_le _) (by rw [hk]; unfold sh1; rw [hx]; exact ⟨jdC_congr (fun j hj => ⟨cyV_in _ _ N j hj, cyV_in _ _ N j hj⟩), _, _, _, _, _, rfl⟩)
      · have e29 : t < N := by have := mt (nI_leI (a := N) (b := t) (by omega) (by omega)).mpr c29; omega
        refine z_aload_n C dX1_sharpen_32 0 rfl ?_
        refine z_iload_n C dX1_sharpen_33 1 rfl ?_
        refine z_iconst (v := 0) C dX1_sharpen_34 (by decide) ?_
        refine z_callVv_all (As := [.int (nI t), .int 0]) C (c1_findEnd l D K b N M S rl rh x y 0 (cyV bl fl N) (cyV bh fh N) pt2 nu2 de2 t 0 (by omega) (by omega) (hok.2.1 t 0 (by omega)) ((hok.1 hd).1)) (cwV 2 C.1.2.2.2.2 gX1_sharpen_X1_findEnd rfl rfl rfl (by decide +kernel) ⟨Nat.le_of_ble_eq_true rfl, Nat.le_of_ble_eq_true rfl⟩) (ci := 3) rfl rfl 0 rfl dX1_sharpen_35 rfl rfl (Nat.le_of_ble_eq_true rfl) ⟨Nat.le_of_ble_eq_true rfl, Nat.le_of_ble_eq_true rfl⟩ (fun u4 h4 => ?_)
        obtain ⟨pt_4, rfl⟩ := h4
        refine z_ldc2 C lk2 dX1_sharpen_38 ?_
        refine z_aload_n C dX1_sharpen_41 0 rfl ?_
        refine z_get (cl := vwCl) (T := TX1) (N := 13) (ci := 3) (ref := "IntervalSolverModel") C hinX1 rfl 11 (by decide) lk3 rfl dX1_sharpen_42 0 rfl rfl ?_
        refine z_lmul C dX1_sharpen_45 ?_
        refine z_aload_n C dX1_sharpen_46 0 rfl ?_
        refine z_get (cl := vwCl) (T := TX1) (N := 13) (ci := 3) (ref := "IntervalSolverModel") C hinX1 rfl 12 (by decide) lk4 rfl dX1_sharpen_47 0 rfl rfl ?_
        refine z_callSl_none (As := [.long (1024 * (heN N M rl rh t 0)), .long (heD N M rl rh t 0)]) C (c1_down l D K (1024 * (heN N M rl rh t 0)) (heD N M rl rh t 0) (rdD_ne (hok.2.1 t 0 (by omega)) (hok.1 hd).1)) (va_cwS 2 C.1.2.2.2.2 gX1_sharpen_X1_down rfl rfl rfl (by decide +kernel) ⟨Nat.le_of_ble_eq_true rfl, Nat.le_of_ble_eq_true rfl⟩) dX1_sharpen_50 rfl rfl (Nat.le_of_ble_eq_true rfl) ⟨Nat.le_of_ble_eq_true rfl, Nat.le_of_ble_eq_true rfl⟩ (fun r5 u5 h5 => ?_)
        subst h5
        refine z_topl (hlJ N M rl rh t) rfl ?_
        refine z_lstore_n (lv' := [(0, .ref (b 0)), (1, .int (nI t)), (2, .long (hlJ N M rl rh t))]) C dX1_sharpen_53 (by decide) [1, 2, 0] rfl ?_
        refine z_aload_n C dX1_sharpen_54 0 rfl ?_
        refine z_iload_n C dX1_sharpen_55 1 rfl ?_
        refine z_iconst (v := 1) C dX1_sharpen_56 (by decide) ?_
        refine z_callVv_all (As := [.int (nI t), .int 1]) C (c1_findEnd l D K b N M S rl rh x y 0 (cyV bl fl N) (cyV bh fh N) pt_4 (heN N M rl rh t 0) (heD N M rl rh t 0) t 1 (by omega) (by omega) (hok.2.1 t 1 (by omega)) ((hok.1 hd).1)) (cwV 2 C.1.2.2.2.2 gX1_sharpen_X1_findEnd rfl rfl rfl (by decide +kernel) ⟨Nat.le_of_ble_eq_true rfl, Nat.le_of_ble_eq_true rfl⟩) (ci := 3) rfl rfl 0 rfl dX1_sharpen_57 rfl rfl (Nat.le_of_ble_eq_true rfl) ⟨Nat.le_of_ble_eq_true rfl, Nat.le_of_ble_eq_true rfl⟩ (fun u6 h6 => ?_)
        obtain ⟨pt_6, rfl⟩ := h6
        refine z_aload_n C dX1_sharpen_60 0 rfl ?_
        refine z_iload_n C dX1_sharpen_61 1 rfl ?_
        refine z_lload_n C dX1_sharpen_62 2 rfl ?_
        refine z_ldc2 C lk2 dX1_sharpen_63 ?_
        refine z_aload_n C dX1_sharpen_66 0 rfl ?_
        refine z_get (cl := vwCl) (T := TX1) (N := 13) (ci := 3) (ref := "IntervalSolverModel") C hinX1 rfl 11 (by decide) lk3 rfl dX1_sharpen_67 0 rfl rfl ?_
        refine z_lmul C dX1_sharpen_70 ?_
        refine z_aload_n C dX1_sharpen_71 0 rfl ?_
        refine z_get (cl := vwCl) (T := TX1) (N := 13) (ci := 3) (ref := "IntervalSolverModel") C hinX1 rfl 12 (by decide) lk4 rfl dX1_sharpen_72 0 rfl rfl ?_
        refine z_callSl_none (As := [.long (1024 * (heN N M rl rh t 1)), .long (heD N M rl rh t 1)]) C (c1_up l D K (1024 * (heN N M rl rh t 1)) (heD N M rl rh t 1) (rdD_ne (hok.2.1 t 1 (by omega)) (hok.1 hd).1)) (va_cwS 2 C.1.2.2.2.2 gX1_sharpen_X1_up rfl rfl rfl (by decide +kernel) ⟨Nat.le_of_ble_eq_true rfl, Nat.le_of_ble_eq_true rfl⟩) dX1_sharpen_75 rfl rfl (Nat.le_of_ble_eq_true rfl) ⟨Nat.le_of_ble_eq_true rfl, Nat.le_of_ble_eq_true rfl⟩ (fun r7 u7 h7 => ?_)
        subst h7
        refine z_topl (hhJ N M rl rh t) rfl ?_
        refine z_callVi_all (As := [.int (nI t), .long (hlJ N M rl rh t), .long (hhJ N M rl rh t)]) C (c1_cut l D K b N M S rl rh x y 0 (cyV bl fl N) (cyV bh fh N) pt_6 (heN N M rl rh t 1) (heD N M rl rh t 1) t (hlJ N M rl rh t) (hhJ N M rl rh t) (by omega)) (cwV 3 C.1.2.2.2.2 gX1_sharpen_X1_cut rfl rfl rfl (by decide +kernel) ⟨Nat.le_of_ble_eq_true rfl, Nat.le_of_ble_eq_true rfl⟩) (ci := 3) rfl rfl 0 rfl dX1_sharpen_78 rfl rfl (Nat.le_of_ble_eq_true rfl) ⟨Nat.le_of_ble_eq_true rfl, Nat.le_of_ble_eq_true rfl⟩ (fun r8 u8 h8 => ?_)
        obtain ⟨rfl, rfl⟩ := h8
        refine z_if_ne (tgt := 90) C dX1_sharpen_81 (by decide) (fun c81 => ?_) (fun c81 => ?_)
        · refine z_iinc (v := nI (t + 1)) (lv' := [(0, .ref (b 0)), (1, .int (nI (t + 1))), (2, .long (hlJ N M rl rh t))]) C dX1_sharpen_90 (k := 1) rfl (nI_1 t) (by decide) [1, 0, 2] rfl ?_
          refine z_goto (tgt := 24) C dX1_sharpen_93 (by decide) ?_
          refine z_lv (lv' := [(0, .ref (b 0)), (1, .int (nI (t + 1)))]) [0, 1] rfl ?_
          exact ih24_t (t + 1) ((ctB (hlJ N M rl rh t) (hhJ N M rl rh t) x y t).1) ((ctB (hlJ N M rl rh t) (hhJ N M rl rh t) x y t).2) pt_6 (heN N M rl rh t 1) (heD N M rl rh t 1) (by omega) (by omega) (by omega) (rhS_pos hx c81) (fun j hj => ⟨((ctB_out (i := t) (n := N) (by omega)) j hj).1.trans (ho j hj).1, ((ctB_out (i := t) (n := N) (by omega)) j hj).2.trans (ho j hj).2⟩)
        · refine z_aload_n C dX1_sharpen_84 0 rfl ?_
          refine z_iconst (v := 1) C dX1_sharpen_85 (by decide) ?_
          refine z_callVi_all (As := [.int 1]) C (c1_judge1 l D K b N M S rl rh ((ctB (hlJ N M rl rh t) (hhJ N M rl rh t) x y t).1) ((ctB (hlJ N M rl rh t) (hhJ N M rl rh t) x y t).2) 0 (cyV bl fl N) (cyV bh fh N) pt_6 (heN N M rl rh t 1) (heD N M rl rh t 1) (by omega)) (cwV 1 C.1.2.2.2.2 gX1_sharpen_X1_judge rfl rfl rfl (by decide +kernel) ⟨Nat.le_of_ble_eq_true rfl, Nat.le_of_ble_eq_true rfl⟩) (ci := 3) rfl rfl 0 rfl dX1_sharpen_86 rfl rfl (Nat.le_of_ble_eq_true rfl) ⟨Nat.le_of_ble_eq_true rfl, Nat.le_of_ble_eq_true rfl⟩ (fun r9 u9 h9 => ?_)
          obtain ⟨rfl, rfl⟩ := h9
          exact hend _ _ _ _ _ (N, M, S, rl, rh, cyV (cyV bl fl N) ((ctB (hlJ N M rl rh t) (hhJ N M rl rh t) x y t).1) N, cyV (cyV bh fh N) ((ctB (hlJ N M rl rh t) (hhJ N M rl rh t) x y t).2) N, 0, cyV bl fl N, cyV bh fh N, pt_6, heN N M rl rh t 1, heD N M rl rh t 1) dX1_sharpen_89 (Nat.zero_le _) (Nat.zero_le _) (by have hz := rhS_false (rhS_neg hx c81) (N - (t + 1)); rw [show t + 1 + (N - (t + 1)) = N by omega] at hz; rw [hk]; unfold sh1; rw [hz]; exact ⟨rfl, cyV bl fl N, cyV bh fh N, _, _, _, by rw [cyV_back (fun j hj => ((ctB_out (i := t) (n := N) (by omega)) j hj).1.trans (ho j hj).1), cyV_back (fun j hj => ((ctB_out (i := t) (n := N) (by omega)) j hj).2.trans (ho j hj).2)]; rfl⟩)
  · have q9 : detM M N = 0 := zi1.mp c9
    have hk : kDet N M = 1 := if_pos q9
    refine z_aload_n C dX1_sharpen_12 0 rfl ?_
    refine z_iconst (v := 1) C dX1_sharpen_13 (by decide) ?_
    refine z_callVi_all (As := [.int 1]) C (c1_fail l D K b N M S rl rh bl bh 0 fl fh pt_1 nu de 1) (cwV 1 C.1.2.2.2.2 gX1_sharpen_X1_fail rfl rfl rfl (by decide +kernel) ⟨Nat.le_of_ble_eq_true rfl, Nat.le_of_ble_eq_true rfl⟩) (ci := 3) rfl rfl 0 rfl dX1_sharpen_14 rfl rfl (Nat.le_of_ble_eq_true rfl) ⟨Nat.le_of_ble_eq_true rfl, Nat.le_of_ble_eq_true rfl⟩ (fun r10 u10 h10 => ?_)
    obtain ⟨rfl, rfl⟩ := h10
    exact hend _ _ _ _ _ (N, M, S, rl, rh, bl, bh, 1, fl, fh, pt_1, nu, de) dX1_sharpen_17 (Nat.zero_le _) (Nat.zero_le _) (by rw [hk]; exact ⟨rfl, _, _, _, _, _, rfl⟩)

set_option maxRecDepth 100000 in
set_option maxHeartbeats 4000000 in
theorem c1_isCertified (l : Launch) (D : va_G) (K : Nat → ClassId) (b : Nat → Nat) (N : Nat) (M : Nat → Nat → Int32) (S : Nat → Nat → Int32) (rl : Nat → Int32) (rh : Nat → Int32) (bl : Nat → Int32) (bh : Nat → Int32) (th : Int32) (fl : Nat → Int32) (fh : Nat → Int32) (pt : Nat → Int64) (nu : Int64) (de : Int64) (hN : N ≤ 5) (hok : okM N M S rl rh) : mI l D K yX1_isCertified wsX1_isCertified 4 102 0 0 [.ref (b 0)] (w1 K b (N, M, S, rl, rh, bl, bh, th, fl, fh, pt, nu, de)) (fun r u => r = onlyIf (kDet N M) (if ∀ i, i < N → ((bl i).toInt64 ≤ hlJ N M rl rh i ∧ hhJ N M rl rh i ≤ (bh i).toInt64) then 1 else 0) 0 ∧ ∃ pt1 nu1 de1, u = (N, M, S, rl, rh, bl, bh, kDet N M, fl, fh, pt1, nu1, de1)) (w1 K b) := by
  have hinX1 : ∀ w ∈ wsX10, w ∈ wsX1_isCertified := by decide +kernel
  have lk0 : Cond.fieldLink RX1 45 "IntervalSolverModel" "thrown" "I" ∈ wsX1_isCertified := by decide +kernel
  have lk1 : Cond.fieldLink RX1 7 "IntervalSolverModel" "n" "I" ∈ wsX1_isCertified := by decide +kernel
  have lk2 : Cond.constantLong RX1 130 (1024) ∈ wsX1_isCertified := by decide +kernel
  have lk3 : Cond.fieldLink RX1 87 "IntervalSolverModel" "numerator" "J" ∈ wsX1_isCertified := by decide +kernel
  have lk4 : Cond.fieldLink RX1 91 "IntervalSolverModel" "denominator" "J" ∈ wsX1_isCertified := by decide +kernel
  have lk5 : Cond.fieldLink RX1 29 "IntervalSolverModel" "boxHighs" "[I" ∈ wsX1_isCertified := by decide +kernel
  have lk6 : Cond.fieldLink RX1 26 "IntervalSolverModel" "boxLows" "[I" ∈ wsX1_isCertified := by decide +kernel
  refine z_met_z (cc := cX1_isCertified) (maxL := 3) (own := RX1) (lv := [(0, .ref (b 0))]) (by decide) rfl rfl (Nat.le_of_ble_eq_true rfl) rfl ?_
  intro p e s m below meth c args Q A C hnm hend
  refine z_aload_n C dX1_isCertified_0 0 rfl ?_
  refine z_iconst (v := 0) C dX1_isCertified_1 (by decide) ?_
  refine z_put (cl := vwCl) (T := TX1) (N := 13) (ci := 3) (ref := "IntervalSolverModel") (ws' := w1 K b (N, M, S, rl, rh, bl, bh, 0, fl, fh, pt, nu, de)) C hinX1 tyX1 tyX1_ok nmX1 rfl 0 (by decide) lk0 rfl rfl rfl rfl dX1_isCertified_2 0 rfl (Nat.le_of_ble_eq_true rfl) rfl ?_
  refine z_aload_n C dX1_isCertified_5 0 rfl ?_
  refine z_callVi_all (As := []) C (c1_isSingular l D K b N M S rl rh bl bh 0 fl fh pt nu de (by omega)) (cwV 0 C.1.2.2.2.2 gX1_isCertified_X1_isSingular rfl rfl rfl (by decide +kernel) ⟨Nat.le_of_ble_eq_true rfl, Nat.le_of_ble_eq_true rfl⟩) (ci := 3) rfl rfl 0 rfl dX1_isCertified_6 rfl rfl (Nat.le_of_ble_eq_true rfl) ⟨Nat.le_of_ble_eq_true rfl, Nat.le_of_ble_eq_true rfl⟩ (fun r1 u1 h1 => ?_)
  obtain ⟨rfl, pt_1, rfl⟩ := h1
  refine z_if_eq (tgt := 26) C dX1_isCertified_9 (by decide) (fun c9 => ?_) (fun c9 => ?_)
  · have q9 : ¬ (detM M N = 0) := zi0.mp c9
    have hd := q9
    refine z_iconst (v := 1) C dX1_isCertified_26 (by decide) ?_
    have hk : kDet N M = 0 := if_neg hd
    refine z_istore_n (lv' := [(0, .ref (b 0)), (1, .int 1)]) C dX1_isCertified_27 (by decide) [1, 0] rfl ?_
    refine z_iconst (v := 0) C dX1_isCertified_28 (by decide) ?_
    refine z_istore_n (lv' := [(0, .ref (b 0)), (1, .int 1), (2, .int 0)]) C dX1_isCertified_29 (by decide) [1, 2, 0] rfl ?_
    suffices L30 : ∀ (f30_t t : Nat) (v1 : Int32) (pt2 : Nat → Int64) (nu2 : Int64) (de2 : Int64), 0 ≤ t → t ≤ N → N < t + f30_t → v1 = (if ∀ i, i < t → ((bl i).toInt64 ≤ hlJ N M rl rh i ∧ hhJ N M rl rh i ≤ (bh i).toInt64) then 1 else 0) → zW p l e { frames := 4, cells := 0, slots := 0, locals := 102 } s m args below meth c Q 3 A s.heap D vwCl 0 0 (w1 K b (N, M, S, rl, rh, bl, bh, 0, fl, fh, pt2, nu2, de2)) 30 ([(0, .ref (b 0)), (1, .int v1), (2, .int (nI t))]) [] from L30 (N + 1) 0 1 pt_1 nu de (Nat.le_refl _) (by omega) (by omega) al_0
    intro f30_t
    induction f30_t with
    | zero => intro t v1 pt2 nu2 de2 h0 h1 h2; exact absurd h2 (by omega)
    | succ f30_t ih30_t =>
      intro t v1 pt2 nu2 de2 g30_0 g30_1 g30_2 hv
      refine z_iload_n C dX1_isCertified_30 2 rfl ?_
      refine z_aload_n C dX1_isCertified_31 0 rfl ?_
      refine z_get (cl := vwCl) (T := TX1) (N := 13) (ci := 3) (ref := "IntervalSolverModel") C hinX1 rfl 1 (by decide) lk1 rfl dX1_isCertified_32 0 rfl rfl ?_
      refine z_icmp_ge (tgt := 128) C dX1_isCertified_35 (by decide) (fun c35 => ?_) (fun c35 => ?_)
      · have e35 : t = N := by have := (nI_leI (a := N) (b := t) (by omega) (by omega)).mp c35; omega
        rw [e35]
        rw [e35] at hv
        refine z_iload_n C dX1_isCertified_128 1 rfl ?_
        exact hend _ _ _ _ _ (N, M, S, rl, rh, bl, bh, 0, fl, fh, pt2, nu2, de2) dX1_isCertified_129 (Nat.zero_le _) (Nat.zero_le _) (by rw [hv]; split; exact Or.inr rfl; exact Or.inl rfl) (by rw [hk]; exact ⟨hv, _, _, _, rfl⟩)
      · have e35 : t < N := by have := mt (nI_leI (a := N) (b := t) (by omega) (by omega)).mpr c35; omega
        refine z_aload_n C dX1_isCertified_38 0 rfl ?_
        refine z_iload_n C dX1_isCertified_39 2 rfl ?_
        refine z_iconst (v := 0) C dX1_isCertified_40 (by decide) ?_
        refine z_callVv_all (As := [.int (nI t), .int 0]) C (c1_findEnd l D K b N M S rl rh bl bh 0 fl fh pt2 nu2 de2 t 0 (by omega) (by omega) (hok.2.1 t 0 (by omega)) ((hok.1 hd).1)) (cwV 2 C.1.2.2.2.2 gX1_isCertified_X1_findEnd rfl rfl rfl (by decide +kernel) ⟨Nat.le_of_ble_eq_true rfl, Nat.le_of_ble_eq_true rfl⟩) (ci := 3) rfl rfl 0 rfl dX1_isCertified_41 rfl rfl (Nat.le_of_ble_eq_true rfl) ⟨Nat.le_of_ble_eq_true rfl, Nat.le_of_ble_eq_true rfl⟩ (fun u2 h2 => ?_)
        obtain ⟨pt_2, rfl⟩ := h2
        have J79 : ∀ (v2 : Int32), v2 = (if ¬ v1 = 0 ∧ (bl t).toInt64 ≤ hlJ N M rl rh t then 1 else 0) → zW p l e { frames := 4, cells := 0, slots := 0, locals := 102 } s m args below meth c Q 3 A s.heap D vwCl 0 0 (w1 K b (N, M, S, rl, rh, bl, bh, 0, fl, fh, pt_2, heN N M rl rh t 0, heD N M rl rh t 0)) 79 ([(0, .ref (b 0)), (1, .int v1), (2, .int (nI t))]) [.int v2] := by
          intro v2 h_v2
          refine z_istore_n (lv' := [(0, .ref (b 0)), (1, .int v2), (2, .int (nI t))]) C dX1_isCertified_79 (by decide) [1, 0, 2] rfl ?_
          refine z_aload_n C dX1_isCertified_80 0 rfl ?_
          refine z_iload_n C dX1_isCertified_81 2 rfl ?_
          refine z_iconst (v := 1) C dX1_isCertified_82 (by decide) ?_
          refine z_callVv_all (As := [.int (nI t), .int 1]) C (c1_findEnd l D K b N M S rl rh bl bh 0 fl fh pt_2 (heN N M rl rh t 0) (heD N M rl rh t 0) t 1 (by omega) (by omega) (hok.2.1 t 1 (by omega)) ((hok.1 hd).1)) (cwV 2 C.1.2.2.2.2 gX1_isCertified_X1_findEnd rfl rfl rfl (by decide +kernel) ⟨Nat.le_of_ble_eq_true rfl, Nat.le_of_ble_eq_true rfl⟩) (ci := 3) rfl rfl 0 rfl dX1_isCertified_83 rfl rfl (Nat.le_of_ble_eq_true rfl) ⟨Nat.le_of_ble_eq_true rfl, Nat.le_of_ble_eq_true rfl⟩ (fun u3 h3 => ?_)
          obtain ⟨pt_3, rfl⟩ := h3
          refine z_iload_n C dX1_isCertified_86 1 rfl ?_
          refine z_if_eq (tgt := 120) C dX1_isCertified_87 (by decide) (fun c87 => ?_) (fun c87 => ?_)
          · have a87 : ¬ (¬ v1 = 0 ∧ (bl t).toInt64 ≤ hlJ N M rl rh t) := by rw [h_v2] at c87; exact zi0.mp c87
            have st : ¬ (¬ v1 = 0 ∧ ((bl t).toInt64 ≤ hlJ N M rl rh t ∧ hhJ N M rl rh t ≤ (bh t).toInt64)) := fun z => a87 ⟨z.1, z.2.1⟩
            refine z_iconst (v := 0) C dX1_isCertified_120 (by decide) ?_
            refine z_istore_n (lv' := [(0, .ref (b 0)), (1, .int 0), (2, .int (nI t))]) C dX1_isCertified_121 (by decide) [1, 0, 2] rfl ?_
            refine z_iinc (v := nI (t + 1)) (lv' := [(0, .ref (b 0)), (1, .int 0), (2, .int (nI (t + 1)))]) C dX1_isCertified_122 (k := 2) rfl (nI_1 t) (by decide) [1, 2, 0] rfl ?_
            refine z_goto (tgt := 30) C dX1_isCertified_125 (by decide) ?_
            exact ih30_t (t + 1) 0 pt_3 (heN N M rl rh t 1) (heD N M rl rh t 1) (by omega) (by omega) (by omega) (al_f2 hv st)
          · have a87 : ¬ v1 = 0 ∧ (bl t).toInt64 ≤ hlJ N M rl rh t := by rw [h_v2] at c87; exact zi1.mp c87
            refine z_ldc2 C lk2 dX1_isCertified_90 ?_
            refine z_aload_n C dX1_isCertified_93 0 rfl ?_
            refine z_get (cl := vwCl) (T := TX1) (N := 13) (ci := 3) (ref := "IntervalSolverModel") C hinX1 rfl 11 (by decide) lk3 rfl dX1_isCertified_94 0 rfl rfl ?_
            refine z_lmul C dX1_isCertified_97 ?_
            refine z_aload_n C dX1_isCertified_98 0 rfl ?_
            refine z_get (cl := vwCl) (T := TX1) (N := 13) (ci := 3) (ref := "IntervalSolverModel") C hinX1 rfl 12 (by decide) lk4 rfl dX1_isCertified_99 0 rfl rfl ?_
            refine z_callSl_none (As := [.long (1024 * (heN N M rl rh t 1)), .long (heD N M rl rh t 1)]) C (c1_up l D K (1024 * (heN N M rl rh t 1)) (heD N M rl rh t 1) (rdD_ne (hok.2.1 t 1 (by omega)) (hok.1 hd).1)) (va_cwS 2 C.1.2.2.2.2 gX1_isCertified_X1_up rfl rfl rfl (by decide +kernel) ⟨Nat.le_of_ble_eq_true rfl, Nat.le_of_ble_eq_true rfl⟩) dX1_isCertified_102 rfl rfl (Nat.le_of_ble_eq_true rfl) ⟨Nat.le_of_ble_eq_true rfl, Nat.le_of_ble_eq_true rfl⟩ (fun r4 u4 h4 => ?_)
            subst h4
            refine z_topl (hhJ N M rl rh t) rfl ?_
            refine z_aload_n C dX1_isCertified_105 0 rfl ?_
            refine z_get (cl := vwCl) (T := TX1) (N := 13) (ci := 3) (ref := "IntervalSolverModel") C hinX1 rfl 7 (by decide) lk5 rfl dX1_isCertified_106 0 rfl rfl ?_
            refine z_iload_n C dX1_isCertified_109 2 rfl ?_
            refine z_iald C 0 rfl 6 rfl dX1_isCertified_110 t rfl (by omega) (by decide) ?_
            refine z_i2l C dX1_isCertified_111 ?_
            refine z_lcmp_gt (tgt := 120) C dX1_isCertified_112 dX1_isCertified_113 (by decide) (fun c112 => ?_) (fun c112 => ?_)
            · have st : ¬ (¬ v1 = 0 ∧ ((bl t).toInt64 ≤ hlJ N M rl rh t ∧ hhJ N M rl rh t ≤ (bh t).toInt64)) := fun z => absurd z.2.2 (Int64.not_le.mpr c112)
              refine z_iconst (v := 0) C dX1_isCertified_120 (by decide) ?_
              refine z_istore_n (lv' := [(0, .ref (b 0)), (1, .int 0), (2, .int (nI t))]) C dX1_isCertified_121 (by decide) [1, 0, 2] rfl ?_
              refine z_iinc (v := nI (t + 1)) (lv' := [(0, .ref (b 0)), (1, .int 0), (2, .int (nI (t + 1)))]) C dX1_isCertified_122 (k := 2) rfl (nI_1 t) (by decide) [1, 2, 0] rfl ?_
              refine z_goto (tgt := 30) C dX1_isCertified_125 (by decide) ?_
              exact ih30_t (t + 1) 0 pt_3 (heN N M rl rh t 1) (heD N M rl rh t 1) (by omega) (by omega) (by omega) (al_f2 hv st)
            · refine z_iconst (v := 1) C dX1_isCertified_116 (by decide) ?_
              refine z_goto (tgt := 121) C dX1_isCertified_117 (by decide) ?_
              refine z_istore_n (lv' := [(0, .ref (b 0)), (1, .int 1), (2, .int (nI t))]) C dX1_isCertified_121 (by decide) [1, 0, 2] rfl ?_
              refine z_iinc (v := nI (t + 1)) (lv' := [(0, .ref (b 0)), (1, .int 1), (2, .int (nI (t + 1)))]) C dX1_isCertified_122 (k := 2) rfl (nI_1 t) (by decide) [1, 2, 0] rfl ?_
              refine z_goto (tgt := 30) C dX1_isCertified_125 (by decide) ?_
              exact ih30_t (t + 1) 1 pt_3 (heN N M rl rh t 1) (heD N M rl rh t 1) (by omega) (by omega) (by omega) (al_t hv a87.1 ⟨a87.2, Int64.not_lt.mp c112⟩)
        refine z_iload_n C dX1_isCertified_44 1 rfl ?_
        refine z_if_eq (tgt := 78) C dX1_isCertified_45 (by decide) (fun c45 => ?_) (fun c45 => ?_)
        · have st : ¬ (¬ v1 = 0 ∧ (bl t).toInt64 ≤ hlJ N M rl rh t) := fun z => z.1 c45
          refine z_iconst (v := 0) C dX1_isCertified_78 (by decide) ?_
          exact J79 _ (if_neg st).symm
        · refine z_ldc2 C lk2 dX1_isCertified_48 ?_
          refine z_aload_n C dX1_isCertified_51 0 rfl ?_
          refine z_get (cl := vwCl) (T := TX1) (N := 13) (ci := 3) (ref := "IntervalSolverModel") C hinX1 rfl 11 (by decide) lk3 rfl dX1_isCertified_52 0 rfl rfl ?_
          refine z_lmul C dX1_isCertified_55 ?_
          refine z_aload_n C dX1_isCertified_56 0 rfl ?_
          refine z_get (cl := vwCl) (T := TX1) (N := 13) (ci := 3) (ref := "IntervalSolverModel") C hinX1 rfl 12 (by decide) lk4 rfl dX1_isCertified_57 0 rfl rfl ?_
          refine z_callSl_none (As := [.long (1024 * (heN N M rl rh t 0)), .long (heD N M rl rh t 0)]) C (c1_down l D K (1024 * (heN N M rl rh t 0)) (heD N M rl rh t 0) (rdD_ne (hok.2.1 t 0 (by omega)) (hok.1 hd).1)) (va_cwS 2 C.1.2.2.2.2 gX1_isCertified_X1_down rfl rfl rfl (by decide +kernel) ⟨Nat.le_of_ble_eq_true rfl, Nat.le_of_ble_eq_true rfl⟩) dX1_isCertified_60 rfl rfl (Nat.le_of_ble_eq_true rfl) ⟨Nat.le_of_ble_eq_true rfl, Nat.le_of_ble_eq_true rfl⟩ (fun r5 u5 h5 => ?_)
          subst h5
          refine z_topl (hlJ N M rl rh t) rfl ?_
          refine z_aload_n C dX1_isCertified_63 0 rfl ?_
          refine z_get (cl := vwCl) (T := TX1) (N := 13) (ci := 3) (ref := "IntervalSolverModel") C hinX1 rfl 6 (by decide) lk6 rfl dX1_isCertified_64 0 rfl rfl ?_
          refine z_iload_n C dX1_isCertified_67 2 rfl ?_
          refine z_iald C 0 rfl 5 rfl dX1_isCertified_68 t rfl (by omega) (by decide) ?_
          refine z_i2l C dX1_isCertified_69 ?_
          refine z_lcmp_lt (tgt := 78) C dX1_isCertified_70 dX1_isCertified_71 (by decide) (fun c70 => ?_) (fun c70 => ?_)
          · have st : ¬ (¬ v1 = 0 ∧ (bl t).toInt64 ≤ hlJ N M rl rh t) := fun z => absurd z.2 (Int64.not_le.mpr c70)
            refine z_iconst (v := 0) C dX1_isCertified_78 (by decide) ?_
            exact J79 _ (if_neg st).symm
          · refine z_iconst (v := 1) C dX1_isCertified_74 (by decide) ?_
            refine z_goto (tgt := 79) C dX1_isCertified_75 (by decide) ?_
            exact J79 _ (if_pos ⟨c45, Int64.not_lt.mp c70⟩).symm
  · have q9 : detM M N = 0 := zi1.mp c9
    have hk : kDet N M = 1 := if_pos q9
    refine z_aload_n C dX1_isCertified_12 0 rfl ?_
    refine z_iconst (v := 1) C dX1_isCertified_13 (by decide) ?_
    refine z_callVi_all (As := [.int 1]) C (c1_fail l D K b N M S rl rh bl bh 0 fl fh pt_1 nu de 1) (cwV 1 C.1.2.2.2.2 gX1_isCertified_X1_fail rfl rfl rfl (by decide +kernel) ⟨Nat.le_of_ble_eq_true rfl, Nat.le_of_ble_eq_true rfl⟩) (ci := 3) rfl rfl 0 rfl dX1_isCertified_14 rfl rfl (Nat.le_of_ble_eq_true rfl) ⟨Nat.le_of_ble_eq_true rfl, Nat.le_of_ble_eq_true rfl⟩ (fun r6 u6 h6 => ?_)
    obtain ⟨rfl, rfl⟩ := h6
    refine z_if_eq (tgt := 24) C dX1_isCertified_17 (by decide) (fun c17 => ?_) (fun c17 => ?_)
    · refine z_iconst (v := 0) C dX1_isCertified_24 (by decide) ?_
      exact hend _ _ _ _ _ (N, M, S, rl, rh, bl, bh, 1, fl, fh, pt_1, nu, de) dX1_isCertified_25 (Nat.zero_le _) (Nat.zero_le _) (Or.inl rfl) (by rw [hk]; exact ⟨rfl, _, _, _, rfl⟩)
    · exact absurd rfl c17

set_option maxRecDepth 100000 in
set_option maxHeartbeats 4000000 in
theorem c1_digest (l : Launch) (D : va_G) (K : Nat → ClassId) (b : Nat → Nat) (N : Nat) (M : Nat → Nat → Int32) (S : Nat → Nat → Int32) (rl : Nat → Int32) (rh : Nat → Int32) (bl : Nat → Int32) (bh : Nat → Int32) (th : Int32) (fl : Nat → Int32) (fh : Nat → Int32) (pt : Nat → Int64) (nu : Int64) (de : Int64) (hN : N ≤ 5) : mL l D K yX1_digest wsX1_digest 2 50 0 0 [.ref (b 0)] (w1 K b (N, M, S, rl, rh, bl, bh, th, fl, fh, pt, nu, de)) (fun r u => r = dgB bl bh (dgI M S rl rh N (1891 + (nI N).toInt64) N) N * 31 + detM M N ∧ ∃ pt1, u = (N, M, S, rl, rh, bl, bh, 0, fl, fh, pt1, nu, de)) (w1 K b) := by
  have hinX1 : ∀ w ∈ wsX10, w ∈ wsX1_digest := by decide +kernel
  have lk0 : Cond.fieldLink RX1 45 "IntervalSolverModel" "thrown" "I" ∈ wsX1_digest := by decide +kernel
  have lk1 : Cond.constantLong RX1 159 (1891) ∈ wsX1_digest := by decide +kernel
  have lk2 : Cond.fieldLink RX1 7 "IntervalSolverModel" "n" "I" ∈ wsX1_digest := by decide +kernel
  have lk3 : Cond.constantLong RX1 161 (31) ∈ wsX1_digest := by decide +kernel
  have lk4 : Cond.fieldLink RX1 26 "IntervalSolverModel" "boxLows" "[I" ∈ wsX1_digest := by decide +kernel
  have lk5 : Cond.fieldLink RX1 29 "IntervalSolverModel" "boxHighs" "[I" ∈ wsX1_digest := by decide +kernel
  have lk6 : Cond.fieldLink RX1 20 "IntervalSolverModel" "lows" "[I" ∈ wsX1_digest := by decide +kernel
  have lk7 : Cond.fieldLink RX1 23 "IntervalSolverModel" "highs" "[I" ∈ wsX1_digest := by decide +kernel
  have lk8 : Cond.fieldLink RX1 17 "IntervalSolverModel" "spreads" "[I" ∈ wsX1_digest := by decide +kernel
  have lk9 : Cond.fieldLink RX1 13 "IntervalSolverModel" "a" "[I" ∈ wsX1_digest := by decide +kernel
  refine z_met_l (cc := cX1_digest) (maxL := 5) (own := RX1) (lv := [(0, .ref (b 0))]) (by decide) rfl rfl (Nat.le_of_ble_eq_true rfl) rfl ?_
  intro p e s m below meth c args Q A C hnm hend
  refine z_aload_n C dX1_digest_0 0 rfl ?_
  refine z_iconst (v := 0) C dX1_digest_1 (by decide) ?_
  refine z_put (cl := vwCl) (T := TX1) (N := 13) (ci := 3) (ref := "IntervalSolverModel") (ws' := w1 K b (N, M, S, rl, rh, bl, bh, 0, fl, fh, pt, nu, de)) C hinX1 tyX1 tyX1_ok nmX1 rfl 0 (by decide) lk0 rfl rfl rfl rfl dX1_digest_2 0 rfl (Nat.le_of_ble_eq_true rfl) rfl ?_
  refine z_ldc2 C lk1 dX1_digest_5 ?_
  refine z_aload_n C dX1_digest_8 0 rfl ?_
  refine z_get (cl := vwCl) (T := TX1) (N := 13) (ci := 3) (ref := "IntervalSolverModel") C hinX1 rfl 1 (by decide) lk2 rfl dX1_digest_9 0 rfl rfl ?_
  refine z_i2l C dX1_digest_12 ?_
  refine z_ladd C dX1_digest_13 ?_
  refine z_lstore_n (lv' := [(0, .ref (b 0)), (1, .long (1891 + ((nI N).toInt64)))]) C dX1_digest_14 (by decide) [1, 0] rfl ?_
  refine z_iconst (v := 0) C dX1_digest_15 (by decide) ?_
  refine z_istore_n (lv' := [(0, .ref (b 0)), (1, .long (1891 + ((nI N).toInt64))), (3, .int 0)]) C dX1_digest_16 (by decide) [1, 2, 0] rfl ?_
  suffices L17 : ∀ (f17_i i : Nat), 0 ≤ i → i ≤ N → N < i + f17_i → zW p l e { frames := 2, cells := 0, slots := 0, locals := 50 } s m args below meth c Q 5 A s.heap D vwCl 0 0 (w1 K b (N, M, S, rl, rh, bl, bh, 0, fl, fh, pt, nu, de)) 17 ([(0, .ref (b 0)), (1, .long (dgI M S rl rh N (1891 + (nI N).toInt64) i)), (3, .int (nI i))]) [] from L17 (N + 1) 0 (Nat.le_refl _) (by omega) (by omega)
  intro f17_i
  induction f17_i with
  | zero => intro i h0 h1 h2; exact absurd h2 (by omega)
  | succ f17_i ih17_i =>
    intro i g17_0 g17_1 g17_2
    refine z_iload_n C dX1_digest_17 2 rfl ?_
    refine z_aload_n C dX1_digest_18 0 rfl ?_
    refine z_get (cl := vwCl) (T := TX1) (N := 13) (ci := 3) (ref := "IntervalSolverModel") C hinX1 rfl 1 (by decide) lk2 rfl dX1_digest_19 0 rfl rfl ?_
    refine z_icmp_ge (tgt := 131) C dX1_digest_22 (by decide) (fun c22 => ?_) (fun c22 => ?_)
    · have e22 : i = N := by have := (nI_leI (a := N) (b := i) (by omega) (by omega)).mp c22; omega
      rw [e22]
      refine z_iconst (v := 0) C dX1_digest_131 (by decide) ?_
      refine z_istore_n (lv' := [(0, .ref (b 0)), (1, .long (dgI M S rl rh N (1891 + (nI N).toInt64) N)), (3, .int 0)]) C dX1_digest_132 (by decide) [1, 2, 0] rfl ?_
      suffices L133 : ∀ (f133_i i : Nat), 0 ≤ i → i ≤ N → N < i + f133_i → zW p l e { frames := 2, cells := 0, slots := 0, locals := 50 } s m args below meth c Q 5 A s.heap D vwCl 0 0 (w1 K b (N, M, S, rl, rh, bl, bh, 0, fl, fh, pt, nu, de)) 133 ([(0, .ref (b 0)), (1, .long (dgB bl bh (dgI M S rl rh N (1891 + (nI N).toInt64) N) i)), (3, .int (nI i))]) [] from L133 (N + 1) 0 (Nat.le_refl _) (by omega) (by omega)
      intro f133_i
      induction f133_i with
      | zero => intro i h0 h1 h2; exact absurd h2 (by omega)
      | succ f133_i ih133_i =>
        intro i g133_0 g133_1 g133_2
        refine z_iload_n C dX1_digest_133 2 rfl ?_
        refine z_aload_n C dX1_digest_134 0 rfl ?_
        refine z_get (cl := vwCl) (T := TX1) (N := 13) (ci := 3) (ref := "IntervalSolverModel") C hinX1 rfl 1 (by decide) lk2 rfl dX1_digest_135 0 rfl rfl ?_
        refine z_icmp_ge (tgt := 173) C dX1_digest_138 (by decide) (fun c138 => ?_) (fun c138 => ?_)
        · have e138 : i = N := by have := (nI_leI (a := N) (b := i) (by omega) (by omega)).mp c138; omega
          rw [e138]
          refine z_lload_n C dX1_digest_173 1 rfl ?_
          refine z_ldc2 C lk3 dX1_digest_174 ?_
          refine z_lmul C dX1_digest_177 ?_
          refine z_aload_n C dX1_digest_178 0 rfl ?_
          refine z_iconst (v := -1) C dX1_digest_179 (by decide) ?_
          refine z_iconst (v := -1) C dX1_digest_180 (by decide) ?_
          refine z_callVl_all (As := [.int (-1), .int (-1)]) C (c1_determinantWithout l D K b N M S rl rh bl bh 0 fl fh pt nu de (-1) (-1) N 5 (by omega) (Or.inl ⟨rfl, rfl, rfl, rfl⟩)) (cwV 2 C.1.2.2.2.2 gX1_digest_X1_determinantWithout rfl rfl rfl (by decide +kernel) ⟨Nat.le_of_ble_eq_true rfl, Nat.le_of_ble_eq_true rfl⟩) (ci := 3) rfl rfl 0 rfl dX1_digest_181 rfl rfl (Nat.le_of_ble_eq_true rfl) ⟨Nat.le_of_ble_eq_true rfl, Nat.le_of_ble_eq_true rfl⟩ (fun r1 u1 h1 => ?_)
          obtain ⟨hr, pt_1, rfl⟩ := h1
          have hr_1 : r1 = detM M N := (hr.trans (congrArg _ (if_pos rfl))); clear hr; subst hr_1
          refine z_ladd C dX1_digest_184 ?_
          exact hend _ _ _ _ _ (N, M, S, rl, rh, bl, bh, 0, fl, fh, pt_1, nu, de) dX1_digest_185 (Nat.zero_le _) (Nat.zero_le _) ⟨rfl, _, rfl⟩
        · have e138 : i < N := by have := mt (nI_leI (a := N) (b := i) (by omega) (by omega)).mpr c138; omega
          refine z_lload_n C dX1_digest_141 1 rfl ?_
          refine z_ldc2 C lk3 dX1_digest_142 ?_
          refine z_lmul C dX1_digest_145 ?_
          refine z_aload_n C dX1_digest_146 0 rfl ?_
          refine z_get (cl := vwCl) (T := TX1) (N := 13) (ci := 3) (ref := "IntervalSolverModel") C hinX1 rfl 6 (by decide) lk4 rfl dX1_digest_147 0 rfl rfl ?_
          refine z_iload_n C dX1_digest_150 2 rfl ?_
          refine z_iald C 0 rfl 5 rfl dX1_digest_151 i rfl (by omega) (by decide) ?_
          refine z_i2l C dX1_digest_152 ?_
          refine z_ladd C dX1_digest_153 ?_
          refine z_ldc2 C lk3 dX1_digest_154 ?_
          refine z_lmul C dX1_digest_157 ?_
          refine z_aload_n C dX1_digest_158 0 rfl ?_
          refine z_get (cl := vwCl) (T := TX1) (N := 13) (ci := 3) (ref := "IntervalSolverModel") C hinX1 rfl 7 (by decide) lk5 rfl dX1_digest_159 0 rfl rfl ?_
          refine z_iload_n C dX1_digest_162 2 rfl ?_
          refine z_iald C 0 rfl 6 rfl dX1_digest_163 i rfl (by omega) (by decide) ?_
          refine z_i2l C dX1_digest_164 ?_
          refine z_ladd C dX1_digest_165 ?_
          refine z_lstore_n (lv' := [(0, .ref (b 0)), (1, .long (((((dgB bl bh (dgI M S rl rh N (1891 + (nI N).toInt64) N) i) * 31) + ((bl i).toInt64)) * 31) + ((bh i).toInt64))), (3, .int (nI i))]) C dX1_digest_166 (by decide) [1, 0, 2] rfl ?_
          refine z_iinc (v := nI (i + 1)) (lv' := [(0, .ref (b 0)), (1, .long (((((dgB bl bh (dgI M S rl rh N (1891 + (nI N).toInt64) N) i) * 31) + ((bl i).toInt64)) * 31) + ((bh i).toInt64))), (3, .int (nI (i + 1)))]) C dX1_digest_167 (k := 2) rfl (nI_1 i) (by decide) [1, 2, 0] rfl ?_
          refine z_goto (tgt := 133) C dX1_digest_170 (by decide) ?_
          exact ih133_i (i + 1) (by omega) (by omega) (by omega)
    · have e22 : i < N := by have := mt (nI_leI (a := N) (b := i) (by omega) (by omega)).mpr c22; omega
      refine z_iconst (v := 0) C dX1_digest_25 (by decide) ?_
      refine z_istore (lv' := [(0, .ref (b 0)), (1, .long (dgI M S rl rh N (1891 + (nI N).toInt64) i)), (3, .int (nI i)), (4, .int 0)]) C dX1_digest_26 (by decide) [1, 2, 3, 0] rfl ?_
      suffices L28 : ∀ (f28_j j : Nat), 0 ≤ j → j ≤ N → N < j + f28_j → zW p l e { frames := 2, cells := 0, slots := 0, locals := 50 } s m args below meth c Q 5 A s.heap D vwCl 0 0 (w1 K b (N, M, S, rl, rh, bl, bh, 0, fl, fh, pt, nu, de)) 28 ([(0, .ref (b 0)), (1, .long (dgR (dgI M S rl rh N (1891 + (nI N).toInt64) i) (M i) j)), (3, .int (nI i)), (4, .int (nI j))]) [] from L28 (N + 1) 0 (Nat.le_refl _) (by omega) (by omega)
      intro f28_j
      induction f28_j with
      | zero => intro j h0 h1 h2; exact absurd h2 (by omega)
      | succ f28_j ih28_j =>
        intro j g28_0 g28_1 g28_2
        refine z_iload C dX1_digest_28 3 rfl ?_
        refine z_aload_n C dX1_digest_30 0 rfl ?_
        refine z_get (cl := vwCl) (T := TX1) (N := 13) (ci := 3) (ref := "IntervalSolverModel") C hinX1 rfl 1 (by decide) lk2 rfl dX1_digest_31 0 rfl rfl ?_
        refine z_icmp_ge (tgt := 62) C dX1_digest_34 (by decide) (fun c34 => ?_) (fun c34 => ?_)
        · have e34 : j = N := by have := (nI_leI (a := N) (b := j) (by omega) (by omega)).mp c34; omega
          rw [e34]
          refine z_iconst (v := 0) C dX1_digest_62 (by decide) ?_
          refine z_istore (lv' := [(0, .ref (b 0)), (1, .long (dgR (dgI M S rl rh N (1891 + (nI N).toInt64) i) (M i) N)), (3, .int (nI i)), (4, .int 0)]) C dX1_digest_63 (by decide) [1, 2, 3, 0] rfl ?_
          suffices L65 : ∀ (f65_j j : Nat), 0 ≤ j → j ≤ N → N < j + f65_j → zW p l e { frames := 2, cells := 0, slots := 0, locals := 50 } s m args below meth c Q 5 A s.heap D vwCl 0 0 (w1 K b (N, M, S, rl, rh, bl, bh, 0, fl, fh, pt, nu, de)) 65 ([(0, .ref (b 0)), (1, .long (dgR (dgR (dgI M S rl rh N (1891 + (nI N).toInt64) i) (M i) N) (S i) j)), (3, .int (nI i)), (4, .int (nI j))]) [] from L65 (N + 1) 0 (Nat.le_refl _) (by omega) (by omega)
          intro f65_j
          induction f65_j with
          | zero => intro j h0 h1 h2; exact absurd h2 (by omega)
          | succ f65_j ih65_j =>
            intro j g65_0 g65_1 g65_2
            refine z_iload C dX1_digest_65 3 rfl ?_
            refine z_aload_n C dX1_digest_67 0 rfl ?_
            refine z_get (cl := vwCl) (T := TX1) (N := 13) (ci := 3) (ref := "IntervalSolverModel") C hinX1 rfl 1 (by decide) lk2 rfl dX1_digest_68 0 rfl rfl ?_
            refine z_icmp_ge (tgt := 99) C dX1_digest_71 (by decide) (fun c71 => ?_) (fun c71 => ?_)
            · have e71 : j = N := by have := (nI_leI (a := N) (b := j) (by omega) (by omega)).mp c71; omega
              rw [e71]
              refine z_lload_n C dX1_digest_99 1 rfl ?_
              refine z_ldc2 C lk3 dX1_digest_100 ?_
              refine z_lmul C dX1_digest_103 ?_
              refine z_aload_n C dX1_digest_104 0 rfl ?_
              refine z_get (cl := vwCl) (T := TX1) (N := 13) (ci := 3) (ref := "IntervalSolverModel") C hinX1 rfl 4 (by decide) lk6 rfl dX1_digest_105 0 rfl rfl ?_
              refine z_iload_n C dX1_digest_108 2 rfl ?_
              refine z_iald C 0 rfl 3 rfl dX1_digest_109 i rfl (by omega) (by decide) ?_
              refine z_i2l C dX1_digest_110 ?_
              refine z_ladd C dX1_digest_111 ?_
              refine z_ldc2 C lk3 dX1_digest_112 ?_
              refine z_lmul C dX1_digest_115 ?_
              refine z_aload_n C dX1_digest_116 0 rfl ?_
              refine z_get (cl := vwCl) (T := TX1) (N := 13) (ci := 3) (ref := "IntervalSolverModel") C hinX1 rfl 5 (by decide) lk7 rfl dX1_digest_117 0 rfl rfl ?_
              refine z_iload_n C dX1_digest_120 2 rfl ?_
              refine z_iald C 0 rfl 4 rfl dX1_digest_121 i rfl (by omega) (by decide) ?_
              refine z_i2l C dX1_digest_122 ?_
              refine z_ladd C dX1_digest_123 ?_
              refine z_topl (dgI M S rl rh N (1891 + (nI N).toInt64) (i + 1)) rfl ?_
              refine z_lstore_n (lv' := [(0, .ref (b 0)), (1, .long (dgI M S rl rh N (1891 + (nI N).toInt64) (i + 1))), (3, .int (nI i)), (4, .int (nI N))]) C dX1_digest_124 (by decide) [1, 0, 2, 3] rfl ?_
              refine z_iinc (v := nI (i + 1)) (lv' := [(0, .ref (b 0)), (1, .long (dgI M S rl rh N (1891 + (nI N).toInt64) (i + 1))), (3, .int (nI (i + 1))), (4, .int (nI N))]) C dX1_digest_125 (k := 2) rfl (nI_1 i) (by decide) [1, 2, 0, 3] rfl ?_
              refine z_goto (tgt := 17) C dX1_digest_128 (by decide) ?_
              refine z_lv (lv' := [(0, .ref (b 0)), (1, .long (dgI M S rl rh N (1891 + (nI N).toInt64) (i + 1))), (3, .int (nI (i + 1)))]) [0, 1, 2] rfl ?_
              exact ih17_i (i + 1) (by omega) (by omega) (by omega)
            · have e71 : j < N := by have := mt (nI_leI (a := N) (b := j) (by omega) (by omega)).mpr c71; omega
              refine z_lload_n C dX1_digest_74 1 rfl ?_
              refine z_ldc2 C lk3 dX1_digest_75 ?_
              refine z_lmul C dX1_digest_78 ?_
              refine z_aload_n C dX1_digest_79 0 rfl ?_
              refine z_get (cl := vwCl) (T := TX1) (N := 13) (ci := 3) (ref := "IntervalSolverModel") C hinX1 rfl 3 (by decide) lk8 rfl dX1_digest_80 0 rfl rfl ?_
              refine z_iload_n C dX1_digest_83 2 rfl ?_
              refine z_iload C dX1_digest_84 3 rfl ?_
              refine z_callSi_none (As := [.int (nI i), .int (nI j)]) C (c1_at l D K (nI i) (nI j)) (va_cwS 2 C.1.2.2.2.2 gX1_digest_X1_at rfl rfl rfl (by decide +kernel) ⟨Nat.le_of_ble_eq_true rfl, Nat.le_of_ble_eq_true rfl⟩) dX1_digest_86 rfl rfl (Nat.le_of_ble_eq_true rfl) ⟨Nat.le_of_ble_eq_true rfl, Nat.le_of_ble_eq_true rfl⟩ (fun r2 u2 h2 => ?_)
              subst h2
              refine z_topi (nI (5 * i + j)) (at_eq rfl rfl) ?_
              refine z_iald C 0 rfl 2 rfl dX1_digest_89 (5 * i + j) rfl (by omega) (by decide) ?_
              refine z_topi (S i j) (fl5_at S i j (by omega)) ?_
              refine z_i2l C dX1_digest_90 ?_
              refine z_ladd C dX1_digest_91 ?_
              refine z_lstore_n (lv' := [(0, .ref (b 0)), (1, .long (((dgR (dgR (dgI M S rl rh N (1891 + (nI N).toInt64) i) (M i) N) (S i) j) * 31) + ((S i j).toInt64))), (3, .int (nI i)), (4, .int (nI j))]) C dX1_digest_92 (by decide) [1, 0, 2, 3] rfl ?_
              refine z_iinc (v := nI (j + 1)) (lv' := [(0, .ref (b 0)), (1, .long (((dgR (dgR (dgI M S rl rh N (1891 + (nI N).toInt64) i) (M i) N) (S i) j) * 31) + ((S i j).toInt64))), (3, .int (nI i)), (4, .int (nI (j + 1)))]) C dX1_digest_93 (k := 3) rfl (nI_1 j) (by decide) [1, 2, 3, 0] rfl ?_
              refine z_goto (tgt := 65) C dX1_digest_96 (by decide) ?_
              exact ih65_j (j + 1) (by omega) (by omega) (by omega)
        · have e34 : j < N := by have := mt (nI_leI (a := N) (b := j) (by omega) (by omega)).mpr c34; omega
          refine z_lload_n C dX1_digest_37 1 rfl ?_
          refine z_ldc2 C lk3 dX1_digest_38 ?_
          refine z_lmul C dX1_digest_41 ?_
          refine z_aload_n C dX1_digest_42 0 rfl ?_
          refine z_get (cl := vwCl) (T := TX1) (N := 13) (ci := 3) (ref := "IntervalSolverModel") C hinX1 rfl 2 (by decide) lk9 rfl dX1_digest_43 0 rfl rfl ?_
          refine z_iload_n C dX1_digest_46 2 rfl ?_
          refine z_iload C dX1_digest_47 3 rfl ?_
          refine z_callSi_none (As := [.int (nI i), .int (nI j)]) C (c1_at l D K (nI i) (nI j)) (va_cwS 2 C.1.2.2.2.2 gX1_digest_X1_at rfl rfl rfl (by decide +kernel) ⟨Nat.le_of_ble_eq_true rfl, Nat.le_of_ble_eq_true rfl⟩) dX1_digest_49 rfl rfl (Nat.le_of_ble_eq_true rfl) ⟨Nat.le_of_ble_eq_true rfl, Nat.le_of_ble_eq_true rfl⟩ (fun r3 u3 h3 => ?_)
          subst h3
          refine z_topi (nI (5 * i + j)) (at_eq rfl rfl) ?_
          refine z_iald C 0 rfl 1 rfl dX1_digest_52 (5 * i + j) rfl (by omega) (by decide) ?_
          refine z_topi (M i j) (fl5_at M i j (by omega)) ?_
          refine z_i2l C dX1_digest_53 ?_
          refine z_ladd C dX1_digest_54 ?_
          refine z_lstore_n (lv' := [(0, .ref (b 0)), (1, .long (((dgR (dgI M S rl rh N (1891 + (nI N).toInt64) i) (M i) j) * 31) + ((M i j).toInt64))), (3, .int (nI i)), (4, .int (nI j))]) C dX1_digest_55 (by decide) [1, 0, 2, 3] rfl ?_
          refine z_iinc (v := nI (j + 1)) (lv' := [(0, .ref (b 0)), (1, .long (((dgR (dgI M S rl rh N (1891 + (nI N).toInt64) i) (M i) j) * 31) + ((M i j).toInt64))), (3, .int (nI i)), (4, .int (nI (j + 1)))]) C dX1_digest_56 (k := 3) rfl (nI_1 j) (by decide) [1, 2, 3, 0] rfl ?_
          refine z_goto (tgt := 28) C dX1_digest_59 (by decide) ?_
          exact ih28_j (j + 1) (by omega) (by omega) (by omega)

set_option maxRecDepth 100000 in
set_option maxHeartbeats 4000000 in
theorem c1_condition (l : Launch) (D : va_G) (K : Nat → ClassId) (b : Nat → Nat) (N : Nat) (M : Nat → Nat → Int32) (S : Nat → Nat → Int32) (rl : Nat → Int32) (rh : Nat → Int32) (bl : Nat → Int32) (bh : Nat → Int32) (th : Int32) (fl : Nat → Int32) (fh : Nat → Int32) (pt : Nat → Int64) (nu : Int64) (de : Int64) (hN : N ≤ 5) (hok : okM N M S rl rh) : mD l D K yX1_condition wsX1_condition 3 72 0 0 [.ref (b 0)] (w1 K b (N, M, S, rl, rh, bl, bh, th, fl, fh, pt, nu, de)) (fun r u => r = (if kDet N M = 0 then cnD M N else FP.i2d 0) ∧ ∃ pt1, u = (N, M, S, rl, rh, bl, bh, kDet N M, fl, fh, pt1, nu, de)) (w1 K b) := by
  have hinX1 : ∀ w ∈ wsX10, w ∈ wsX1_condition := by decide +kernel
  have lk0 : Cond.fieldLink RX1 45 "IntervalSolverModel" "thrown" "I" ∈ wsX1_condition := by decide +kernel
  have lk1 : Cond.fieldLink RX1 7 "IntervalSolverModel" "n" "I" ∈ wsX1_condition := by decide +kernel
  have lk2 : Cond.methodLink RX1 84 Lib.MathLoose.abs_long.x ∈ wsX1_condition := by decide +kernel
  have lk3 : Cond.static Lib.MathLoose.abs_long.x ∈ wsX1_condition := by decide +kernel
  have lk4 : Cond.initialized "java/lang/Math" ∈ wsX1_condition := by decide +kernel
  have lk5 : Cond.code Lib.MathLoose.abs_long.x Lib.MathLoose.abs_long.code 2 (some .long) ∈ wsX1_condition := by decide +kernel
  have lk6 : Cond.methodLink RX1 71 Lib.Math.max.name ∈ wsX1_condition := by decide +kernel
  have lk7 : Cond.static Lib.Math.max.name ∈ wsX1_condition := by decide +kernel
  have lk8 : Cond.code Lib.Math.max.name Lib.Math.max.code 2 (some .int) ∈ wsX1_condition := by decide +kernel
  have lk9 : Cond.methodLink RX1 117 Lib.MathLoose.max_long.x ∈ wsX1_condition := by decide +kernel
  have lk10 : Cond.static Lib.MathLoose.max_long.x ∈ wsX1_condition := by decide +kernel
  have lk11 : Cond.code Lib.MathLoose.max_long.x Lib.MathLoose.max_long.code 4 (some .long) ∈ wsX1_condition := by decide +kernel
  have lk12 : Cond.fieldLink RX1 13 "IntervalSolverModel" "a" "[I" ∈ wsX1_condition := by decide +kernel
  have lk13 : Cond.methodLink RX1 74 Lib.Math.abs.name ∈ wsX1_condition := by decide +kernel
  have lk14 : Cond.static Lib.Math.abs.name ∈ wsX1_condition := by decide +kernel
  have lk15 : Cond.code Lib.Math.abs.name Lib.Math.abs.code 1 (some .int) ∈ wsX1_condition := by decide +kernel
  refine z_met_d (cc := cX1_condition) (maxL := 9) (own := RX1) (lv := [(0, .ref (b 0))]) (by decide) rfl rfl (Nat.le_of_ble_eq_true rfl) rfl ?_
  intro p e s m below meth c args Q A C hnm hend
  refine z_aload_n C dX1_condition_0 0 rfl ?_
  refine z_iconst (v := 0) C dX1_condition_1 (by decide) ?_
  refine z_put (cl := vwCl) (T := TX1) (N := 13) (ci := 3) (ref := "IntervalSolverModel") (ws' := w1 K b (N, M, S, rl, rh, bl, bh, 0, fl, fh, pt, nu, de)) C hinX1 tyX1 tyX1_ok nmX1 rfl 0 (by decide) lk0 rfl rfl rfl rfl dX1_condition_2 0 rfl (Nat.le_of_ble_eq_true rfl) rfl ?_
  refine z_aload_n C dX1_condition_5 0 rfl ?_
  refine z_callVi_all (As := []) C (c1_isSingular l D K b N M S rl rh bl bh 0 fl fh pt nu de (by omega)) (cwV 0 C.1.2.2.2.2 gX1_condition_X1_isSingular rfl rfl rfl (by decide +kernel) ⟨Nat.le_of_ble_eq_true rfl, Nat.le_of_ble_eq_true rfl⟩) (ci := 3) rfl rfl 0 rfl dX1_condition_6 rfl rfl (Nat.le_of_ble_eq_true rfl) ⟨Nat.le_of_ble_eq_true rfl, Nat.le_of_ble_eq_true rfl⟩ (fun r1 u1 h1 => ?_)
  obtain ⟨rfl, pt_1, rfl⟩ := h1
  refine z_if_eq (tgt := 19) C dX1_condition_9 (by decide) (fun c9 => ?_) (fun c9 => ?_)
  · have q9 : ¬ (detM M N = 0) := zi0.mp c9
    have hd := q9
    refine z_iconst (v := 0) C dX1_condition_19 (by decide) ?_
    have hk : kDet N M = 0 := if_neg hd
    refine z_istore_n (lv' := [(0, .ref (b 0)), (1, .int 0)]) C dX1_condition_20 (by decide) [1, 0] rfl ?_
    refine z_lconst (v := 0) C dX1_condition_21 (by decide) ?_
    refine z_lstore_n (lv' := [(0, .ref (b 0)), (1, .int 0), (2, .long 0)]) C dX1_condition_22 (by decide) [1, 2, 0] rfl ?_
    refine z_iconst (v := 0) C dX1_condition_23 (by decide) ?_
    refine z_istore (lv' := [(0, .ref (b 0)), (1, .int 0), (2, .long 0), (4, .int 0)]) C dX1_condition_24 (by decide) [1, 2, 3, 0] rfl ?_
    suffices L26 : ∀ (f26_i i : Nat) (pt2 : Nat → Int64), 0 ≤ i → i ≤ N → N < i + f26_i → zW p l e { frames := 3, cells := 0, slots := 0, locals := 72 } s m args below meth c Q 9 A s.heap D vwCl 0 0 (w1 K b (N, M, S, rl, rh, bl, bh, 0, fl, fh, pt2, nu, de)) 26 ([(0, .ref (b 0)), (1, .int (cnX M N i)), (2, .long (cnY M N i)), (4, .int (nI i))]) [] from L26 (N + 1) 0 pt_1 (Nat.le_refl _) (by omega) (by omega)
    intro f26_i
    induction f26_i with
    | zero => intro i pt2 h0 h1 h2; exact absurd h2 (by omega)
    | succ f26_i ih26_i =>
      intro i pt2 g26_0 g26_1 g26_2
      refine z_iload C dX1_condition_26 3 rfl ?_
      refine z_aload_n C dX1_condition_28 0 rfl ?_
      refine z_get (cl := vwCl) (T := TX1) (N := 13) (ci := 3) (ref := "IntervalSolverModel") C hinX1 rfl 1 (by decide) lk1 rfl dX1_condition_29 0 rfl rfl ?_
      refine z_icmp_ge (tgt := 115) C dX1_condition_32 (by decide) (fun c32 => ?_) (fun c32 => ?_)
      · have e32 : i = N := by have := (nI_leI (a := N) (b := i) (by omega) (by omega)).mp c32; omega
        rw [e32]
        refine z_iload_n C dX1_condition_115 1 rfl ?_
        refine z_i2d C dX1_condition_116 ?_
        refine z_lload_n C dX1_condition_117 2 rfl ?_
        refine z_l2d C dX1_condition_118 ?_
        refine z_aload_n C dX1_condition_119 0 rfl ?_
        refine z_iconst (v := -1) C dX1_condition_120 (by decide) ?_
        refine z_iconst (v := -1) C dX1_condition_121 (by decide) ?_
        refine z_callVl_all (As := [.int (-1), .int (-1)]) C (c1_determinantWithout l D K b N M S rl rh bl bh 0 fl fh pt2 nu de (-1) (-1) N 5 (by omega) (Or.inl ⟨rfl, rfl, rfl, rfl⟩)) (cwV 2 C.1.2.2.2.2 gX1_condition_X1_determinantWithout rfl rfl rfl (by decide +kernel) ⟨Nat.le_of_ble_eq_true rfl, Nat.le_of_ble_eq_true rfl⟩) (ci := 3) rfl rfl 0 rfl dX1_condition_122 rfl rfl (Nat.le_of_ble_eq_true rfl) ⟨Nat.le_of_ble_eq_true rfl, Nat.le_of_ble_eq_true rfl⟩ (fun r2 u2 h2 => ?_)
        obtain ⟨hr, pt_2, rfl⟩ := h2
        have hr_2 : r2 = detM M N := (hr.trans (congrArg _ (if_pos rfl))); clear hr; subst hr_2
        refine z_mabsL C lk2 lk3 lk4 lk5 (Nat.le_of_ble_eq_true rfl) (Nat.le_of_ble_eq_true rfl) (Nat.le_of_ble_eq_true rfl) (Nat.le_of_ble_eq_true rfl) dX1_condition_125 ?_
        refine z_topl (absL (detM M N)) rfl ?_
        refine z_l2d C dX1_condition_128 ?_
        refine z_ddiv C dX1_condition_129 (hok.1 hd).2.2.1 ?_
        refine z_dmul C dX1_condition_130 (hok.1 hd).2.2.2 ?_
        exact hend _ _ _ _ _ (N, M, S, rl, rh, bl, bh, 0, fl, fh, pt_2, nu, de) dX1_condition_131 (Nat.zero_le _) (Nat.zero_le _) ⟨by rw [hk, if_pos rfl]; rfl, _, by rw [hk]⟩
      · have e32 : i < N := by have := mt (nI_leI (a := N) (b := i) (by omega) (by omega)).mpr c32; omega
        refine z_iconst (v := 0) C dX1_condition_35 (by decide) ?_
        refine z_istore (lv' := [(0, .ref (b 0)), (1, .int (cnX M N i)), (2, .long (cnY M N i)), (4, .int (nI i)), (5, .int 0)]) C dX1_condition_36 (by decide) [1, 2, 3, 4, 0] rfl ?_
        refine z_lconst (v := 0) C dX1_condition_38 (by decide) ?_
        refine z_lstore (lv' := [(0, .ref (b 0)), (1, .int (cnX M N i)), (2, .long (cnY M N i)), (4, .int (nI i)), (5, .int 0), (6, .long 0)]) C dX1_condition_39 (by decide) [1, 2, 3, 4, 5, 0] rfl ?_
        refine z_iconst (v := 0) C dX1_condition_41 (by decide) ?_
        refine z_istore (lv' := [(0, .ref (b 0)), (1, .int (cnX M N i)), (2, .long (cnY M N i)), (4, .int (nI i)), (5, .int 0), (6, .long 0), (8, .int 0)]) C dX1_condition_42 (by decide) [1, 2, 3, 4, 5, 6, 0] rfl ?_
        suffices L44 : ∀ (f44_j j : Nat) (pt3 : Nat → Int64), 0 ≤ j → j ≤ N → N < j + f44_j → zW p l e { frames := 3, cells := 0, slots := 0, locals := 72 } s m args below meth c Q 9 A s.heap D vwCl 0 0 (w1 K b (N, M, S, rl, rh, bl, bh, 0, fl, fh, pt3, nu, de)) 44 ([(0, .ref (b 0)), (1, .int (cnX M N i)), (2, .long (cnY M N i)), (4, .int (nI i)), (5, .int (cnR M i j)), (6, .long (cnC M N i j)), (8, .int (nI j))]) [] from L44 (N + 1) 0 pt2 (Nat.le_refl _) (by omega) (by omega)
        intro f44_j
        induction f44_j with
        | zero => intro j pt3 h0 h1 h2; exact absurd h2 (by omega)
        | succ f44_j ih44_j =>
          intro j pt3 g44_0 g44_1 g44_2
          refine z_iload C dX1_condition_44 6 rfl ?_
          refine z_aload_n C dX1_condition_46 0 rfl ?_
          refine z_get (cl := vwCl) (T := TX1) (N := 13) (ci := 3) (ref := "IntervalSolverModel") C hinX1 rfl 1 (by decide) lk1 rfl dX1_condition_47 0 rfl rfl ?_
          refine z_icmp_ge (tgt := 95) C dX1_condition_50 (by decide) (fun c50 => ?_) (fun c50 => ?_)
          · have e50 : j = N := by have := (nI_leI (a := N) (b := j) (by omega) (by omega)).mp c50; omega
            rw [e50]
            refine z_iload_n C dX1_condition_95 1 rfl ?_
            refine z_iload C dX1_condition_96 4 rfl ?_
            refine z_mmax C lk6 lk7 lk4 lk8 (Nat.le_of_ble_eq_true rfl) (Nat.le_of_ble_eq_true rfl) (Nat.le_of_ble_eq_true rfl) (Nat.le_of_ble_eq_true rfl) dX1_condition_98 ?_
            refine z_topi (cnX M N (i + 1)) rfl ?_
            refine z_istore_n (lv' := [(0, .ref (b 0)), (1, .int (cnX M N (i + 1))), (2, .long (cnY M N i)), (4, .int (nI i)), (5, .int (cnR M i N)), (6, .long (cnC M N i N)), (8, .int (nI N))]) C dX1_condition_101 (by decide) [1, 0, 2, 3, 4, 5, 6] rfl ?_
            refine z_lload_n C dX1_condition_102 2 rfl ?_
            refine z_lload C dX1_condition_103 5 rfl ?_
            refine z_mmaxL C lk9 lk10 lk4 lk11 (Nat.le_of_ble_eq_true rfl) (Nat.le_of_ble_eq_true rfl) (Nat.le_of_ble_eq_true rfl) (Nat.le_of_ble_eq_true rfl) dX1_condition_105 ?_
            refine z_topl (cnY M N (i + 1)) rfl ?_
            refine z_lstore_n (lv' := [(0, .ref (b 0)), (1, .int (cnX M N (i + 1))), (2, .long (cnY M N (i + 1))), (4, .int (nI i)), (5, .int (cnR M i N)), (6, .long (cnC M N i N)), (8, .int (nI N))]) C dX1_condition_108 (by decide) [1, 2, 0, 3, 4, 5, 6] rfl ?_
            refine z_iinc (v := nI (i + 1)) (lv' := [(0, .ref (b 0)), (1, .int (cnX M N (i + 1))), (2, .long (cnY M N (i + 1))), (4, .int (nI (i + 1))), (5, .int (cnR M i N)), (6, .long (cnC M N i N)), (8, .int (nI N))]) C dX1_condition_109 (k := 3) rfl (nI_1 i) (by decide) [1, 2, 3, 0, 4, 5, 6] rfl ?_
            refine z_goto (tgt := 26) C dX1_condition_112 (by decide) ?_
            refine z_lv (lv' := [(0, .ref (b 0)), (1, .int (cnX M N (i + 1))), (2, .long (cnY M N (i + 1))), (4, .int (nI (i + 1)))]) [0, 1, 2, 3] rfl ?_
            exact ih26_i (i + 1) pt3 (by omega) (by omega) (by omega)
          · have e50 : j < N := by have := mt (nI_leI (a := N) (b := j) (by omega) (by omega)).mpr c50; omega
            refine z_iload C dX1_condition_53 4 rfl ?_
            refine z_aload_n C dX1_condition_55 0 rfl ?_
            refine z_get (cl := vwCl) (T := TX1) (N := 13) (ci := 3) (ref := "IntervalSolverModel") C hinX1 rfl 2 (by decide) lk12 rfl dX1_condition_56 0 rfl rfl ?_
            refine z_iload C dX1_condition_59 3 rfl ?_
            refine z_iload C dX1_condition_61 6 rfl ?_
            refine z_callSi_none (As := [.int (nI i), .int (nI j)]) C (c1_at l D K (nI i) (nI j)) (va_cwS 2 C.1.2.2.2.2 gX1_condition_X1_at rfl rfl rfl (by decide +kernel) ⟨Nat.le_of_ble_eq_true rfl, Nat.le_of_ble_eq_true rfl⟩) dX1_condition_63 rfl rfl (Nat.le_of_ble_eq_true rfl) ⟨Nat.le_of_ble_eq_true rfl, Nat.le_of_ble_eq_true rfl⟩ (fun r3 u3 h3 => ?_)
            subst h3
            refine z_topi (nI (5 * i + j)) (at_eq rfl rfl) ?_
            refine z_iald C 0 rfl 1 rfl dX1_condition_66 (5 * i + j) rfl (by omega) (by decide) ?_
            refine z_topi (M i j) (fl5_at M i j (by omega)) ?_
            refine z_mabs C lk13 lk14 lk4 lk15 (Nat.le_of_ble_eq_true rfl) (Nat.le_of_ble_eq_true rfl) (Nat.le_of_ble_eq_true rfl) (Nat.le_of_ble_eq_true rfl) dX1_condition_67 ?_
            refine z_topi (absI (M i j)) rfl ?_
            refine z_iadd C dX1_condition_70 ?_
            refine z_istore (lv' := [(0, .ref (b 0)), (1, .int (cnX M N i)), (2, .long (cnY M N i)), (4, .int (nI i)), (5, .int ((cnR M i j) + (absI (M i j)))), (6, .long (cnC M N i j)), (8, .int (nI j))]) C dX1_condition_71 (by decide) [1, 2, 3, 4, 0, 5, 6] rfl ?_
            refine z_lload C dX1_condition_73 5 rfl ?_
            refine z_aload_n C dX1_condition_75 0 rfl ?_
            refine z_iload C dX1_condition_76 3 rfl ?_
            refine z_iload C dX1_condition_78 6 rfl ?_
            refine z_callVl_all (As := [.int (nI i), .int (nI j)]) C (c1_cofactor l D K b N M S rl rh bl bh 0 fl fh pt3 nu de i j (by omega) (by omega) (by omega)) (cwV 2 C.1.2.2.2.2 gX1_condition_X1_cofactor rfl rfl rfl (by decide +kernel) ⟨Nat.le_of_ble_eq_true rfl, Nat.le_of_ble_eq_true rfl⟩) (ci := 3) rfl rfl 0 rfl dX1_condition_80 rfl rfl (Nat.le_of_ble_eq_true rfl) ⟨Nat.le_of_ble_eq_true rfl, Nat.le_of_ble_eq_true rfl⟩ (fun r4 u4 h4 => ?_)
            obtain ⟨rfl, pt_4, rfl⟩ := h4
            refine z_mabsL C lk2 lk3 lk4 lk5 (Nat.le_of_ble_eq_true rfl) (Nat.le_of_ble_eq_true rfl) (Nat.le_of_ble_eq_true rfl) (Nat.le_of_ble_eq_true rfl) dX1_condition_83 ?_
            refine z_topl (absL (cofM M N i j)) rfl ?_
            refine z_ladd C dX1_condition_86 ?_
            refine z_lstore (lv' := [(0, .ref (b 0)), (1, .int (cnX M N i)), (2, .long (cnY M N i)), (4, .int (nI i)), (5, .int ((cnR M i j) + (absI (M i j)))), (6, .long ((cnC M N i j) + (absL (cofM M N i j)))), (8, .int (nI j))]) C dX1_condition_87 (by decide) [1, 2, 3, 4, 5, 0, 6] rfl ?_
            refine z_iinc (v := nI (j + 1)) (lv' := [(0, .ref (b 0)), (1, .int (cnX M N i)), (2, .long (cnY M N i)), (4, .int (nI i)), (5, .int ((cnR M i j) + (absI (M i j)))), (6, .long ((cnC M N i j) + (absL (cofM M N i j)))), (8, .int (nI (j + 1)))]) C dX1_condition_89 (k := 6) rfl (nI_1 j) (by decide) [1, 2, 3, 4, 5, 6, 0] rfl ?_
            refine z_goto (tgt := 44) C dX1_condition_92 (by decide) ?_
            exact ih44_j (j + 1) pt_4 (by omega) (by omega) (by omega)
  · have q9 : detM M N = 0 := zi1.mp c9
    have hk : kDet N M = 1 := if_pos q9
    refine z_aload_n C dX1_condition_12 0 rfl ?_
    refine z_iconst (v := 1) C dX1_condition_13 (by decide) ?_
    refine z_callVi_all (As := [.int 1]) C (c1_fail l D K b N M S rl rh bl bh 0 fl fh pt_1 nu de 1) (cwV 1 C.1.2.2.2.2 gX1_condition_X1_fail rfl rfl rfl (by decide +kernel) ⟨Nat.le_of_ble_eq_true rfl, Nat.le_of_ble_eq_true rfl⟩) (ci := 3) rfl rfl 0 rfl dX1_condition_14 rfl rfl (Nat.le_of_ble_eq_true rfl) ⟨Nat.le_of_ble_eq_true rfl, Nat.le_of_ble_eq_true rfl⟩ (fun r5 u5 h5 => ?_)
    obtain ⟨rfl, rfl⟩ := h5
    refine z_i2d C dX1_condition_17 ?_
    exact hend _ _ _ _ _ (N, M, S, rl, rh, bl, bh, 1, fl, fh, pt_1, nu, de) dX1_condition_18 (Nat.zero_le _) (Nat.zero_le _) ⟨by rw [hk, if_neg (by decide)], _, by rw [hk]⟩
