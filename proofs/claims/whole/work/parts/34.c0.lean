set_option maxRecDepth 100000 in
set_option maxHeartbeats 4000000 in
theorem c0_addRow (l : Launch) (D : va_G) (K : Nat → ClassId) (a : Nat → Nat) (N : Nat) (M : Nat → Nat → Int32) (S : Nat → Nat → Int32) (rl : Nat → Int32) (rh : Nat → Int32) (bl : Nat → Int32) (bh : Nat → Int32) (kl : Nat → Int32) (kh : Nat → Int32) (mn : Nat → Int64) (vc : Nat → Int64) (iv : Nat → Nat → Int64) (sc : Int64) (p0 : Int32) (p1 : Int32) (p2 : Int32) (hst : l.stackTraces = false) (hN : N ≤ 5) : xI l D K yX0_addRow wsX0_addRow 6 82 1 6 [.ref (a 0), .int p0, .int p1, .int p2] (w0 K a (N, M, S, rl, rh, bl, bh, kl, kh, mn, vc, iv, sc)) (fun r u => kAdd0 N M rl rh p0 p1 p2 = 0 ∧ r = acC M (ix p0) (ix p1) p2 N ∧ u = (N, acM M (ix p0) (ix p1) p2 N, S, upd rl (ix p0) (rl (ix p0) + pLow p2 (rl (ix p1)) (rh (ix p1))), upd rh (ix p0) (rh (ix p0) + pHigh p2 (rl (ix p1)) (rh (ix p1))), bl, bh, kl, kh, mn, vc, iv, sc)) (fun E u => ((kAdd0 N M rl rh p0 p1 p2 = 1 ∧ E = "java/lang/IndexOutOfBoundsException") ∨ (kAdd0 N M rl rh p0 p1 p2 = 2 ∧ E = "java/lang/IllegalArgumentException") ∨ (kAdd0 N M rl rh p0 p1 p2 = 3 ∧ E = "java/lang/ArithmeticException")) ∧ u = (N, M, S, rl, rh, bl, bh, kl, kh, mn, vc, iv, sc)) (w0 K a) := by
  have hinX0 : ∀ w ∈ wsX00, w ∈ wsX0_addRow := by decide +kernel
  have lk0 : Cond.classLink RX0 67 "java/lang/IndexOutOfBoundsException" ∈ wsX0_addRow := by decide +kernel
  have lk1 : Cond.initialized "java/lang/IndexOutOfBoundsException" ∈ wsX0_addRow := by decide +kernel
  have lk2 : Cond.classLink RX0 52 "java/lang/IllegalArgumentException" ∈ wsX0_addRow := by decide +kernel
  have lk3 : Cond.initialized "java/lang/IllegalArgumentException" ∈ wsX0_addRow := by decide +kernel
  have lk4 : Cond.fieldLink RX0 17 "IntervalSolver" "rightLows" "[I" ∈ wsX0_addRow := by decide +kernel
  have lk5 : Cond.fieldLink RX0 21 "IntervalSolver" "rightHighs" "[I" ∈ wsX0_addRow := by decide +kernel
  have lk6 : Cond.classLink RX0 104 "java/lang/ArithmeticException" ∈ wsX0_addRow := by decide +kernel
  have lk7 : Cond.initialized "java/lang/ArithmeticException" ∈ wsX0_addRow := by decide +kernel
  refine x_met_i (cc := cX0_addRow) (maxL := 6) (lv := [(0, .ref (a 0)), (1, .int p0), (2, .int p1), (3, .int p2)]) hst (by decide +kernel) rfl rfl (Nat.le_of_ble_eq_true rfl) rfl ?_
  intro p e s m below meth c args Q A C hend hthr
  refine z_aload_n C dX0_addRow_0 0 rfl ?_
  refine z_iload_n C dX0_addRow_1 1 rfl ?_
  refine z_callVi_all (As := [.int p0]) C (c0_isIndex l D K a N M S rl rh bl bh kl kh mn vc iv sc p0) (cwV 1 C.1.2.2.2.2 gX0_addRow_X0_isIndex rfl rfl rfl (by decide +kernel) ⟨Nat.le_of_ble_eq_true rfl, Nat.le_of_ble_eq_true rfl⟩) (ci := 2) rfl rfl 0 rfl dX0_addRow_2 rfl rfl (Nat.le_of_ble_eq_true rfl) ⟨Nat.le_of_ble_eq_true rfl, Nat.le_of_ble_eq_true rfl⟩ (fun r1 u1 h1 => ?_)
  obtain ⟨rfl, rfl⟩ := h1
  refine z_if_eq (tgt := 16) C dX0_addRow_5 (by decide) (fun c5 => ?_) (fun c5 => ?_)
  · have q5 : ¬ (ixP N p0) := zi0.mp c5
    exact hthr _ _ _ _ 67 78 71 "java/lang/IndexOutOfBoundsException" "no such row" (N, M, S, rl, rh, bl, bh, kl, kh, mn, vc, iv, sc) lk0 lk1 (by decide +kernel) (fun w hw => List.mem_cons_of_mem _ (List.mem_append_left _ (List.mem_append_left _ (List.mem_append_left _ (List.mem_append_right _ hw))))) (by decide +kernel) dX0_addRow_16 dX0_addRow_19 dX0_addRow_20 dX0_addRow_22 dX0_addRow_25 ⟨Nat.le_of_ble_eq_true rfl, Nat.le_of_ble_eq_true rfl, Nat.le_of_ble_eq_true rfl, Nat.le_of_ble_eq_true rfl⟩ (Nat.le_of_ble_eq_true rfl) (Nat.le_of_ble_eq_true rfl) ⟨Or.inl (⟨if_neg (by rintro ⟨h1, h2⟩; first | exact q5 h1 | exact q13 h2), rfl⟩), rfl⟩
  · have q5 : ixP N p0 := zi1.mp c5
    obtain ⟨i_p0, l_p0⟩ := ixP_at hN q5
    refine z_aload_n C dX0_addRow_8 0 rfl ?_
    refine z_iload_n C dX0_addRow_9 2 rfl ?_
    refine z_callVi_all (As := [.int p1]) C (c0_isIndex l D K a N M S rl rh bl bh kl kh mn vc iv sc p1) (cwV 1 C.1.2.2.2.2 gX0_addRow_X0_isIndex rfl rfl rfl (by decide +kernel) ⟨Nat.le_of_ble_eq_true rfl, Nat.le_of_ble_eq_true rfl⟩) (ci := 2) rfl rfl 0 rfl dX0_addRow_10 rfl rfl (Nat.le_of_ble_eq_true rfl) ⟨Nat.le_of_ble_eq_true rfl, Nat.le_of_ble_eq_true rfl⟩ (fun r2 u2 h2 => ?_)
    obtain ⟨rfl, rfl⟩ := h2
    refine z_if_ne (tgt := 26) C dX0_addRow_13 (by decide) (fun c13 => ?_) (fun c13 => ?_)
    · have q13 : ixP N p1 := zi1.mp c13
      obtain ⟨i_p1, l_p1⟩ := ixP_at hN q13
      refine z_iload_n C dX0_addRow_26 1 rfl ?_
      refine z_iload_n C dX0_addRow_27 2 rfl ?_
      refine z_icmp_eq (tgt := 40) C dX0_addRow_28 (by decide) (fun c28 => ?_) (fun c28 => ?_)
      · exact hthr _ _ _ _ 52 92 56 "java/lang/IllegalArgumentException" "the same row, or a factor that is not -99 to 99" (N, M, S, rl, rh, bl, bh, kl, kh, mn, vc, iv, sc) lk2 lk3 (by decide +kernel) (fun w hw => List.mem_cons_of_mem _ (List.mem_append_left _ (List.mem_append_left _ (List.mem_append_right _ hw)))) (by decide +kernel) dX0_addRow_40 dX0_addRow_43 dX0_addRow_44 dX0_addRow_46 dX0_addRow_49 ⟨Nat.le_of_ble_eq_true rfl, Nat.le_of_ble_eq_true rfl, Nat.le_of_ble_eq_true rfl, Nat.le_of_ble_eq_true rfl⟩ (Nat.le_of_ble_eq_true rfl) (Nat.le_of_ble_eq_true rfl) ⟨Or.inr (Or.inl (⟨by unfold kAdd0; rw [if_pos ⟨q5, q13⟩, if_neg (by rintro ⟨h1, h2⟩; first | exact h1 c28 | exact q37 h2)], rfl⟩)), rfl⟩
      · refine z_iload_n C dX0_addRow_31 3 rfl ?_
        refine z_bipush (v := 99) C dX0_addRow_32 (by decide) ?_
        refine z_callSi_none (As := [.int p2, .int 99]) C (c0_isWithin l D K p2 99) (va_cwS 2 C.1.2.2.2.2 gX0_addRow_X0_isWithin rfl rfl rfl (by decide +kernel) ⟨Nat.le_of_ble_eq_true rfl, Nat.le_of_ble_eq_true rfl⟩) dX0_addRow_34 rfl rfl (Nat.le_of_ble_eq_true rfl) ⟨Nat.le_of_ble_eq_true rfl, Nat.le_of_ble_eq_true rfl⟩ (fun r3 u3 h3 => ?_)
        subst h3
        refine z_if_ne (tgt := 50) C dX0_addRow_37 (by decide) (fun c37 => ?_) (fun c37 => ?_)
        · have q37 : -99 ≤ p2 ∧ p2 ≤ 99 := zi1.mp c37
          refine z_aload_n C dX0_addRow_50 0 rfl ?_
          refine z_get (cl := vwCl) (T := TX0) (N := 13) (ci := 2) (ref := "IntervalSolver") C hinX0 rfl 3 (by decide) lk4 rfl dX0_addRow_51 0 rfl rfl ?_
          refine z_iload_n C dX0_addRow_54 1 rfl ?_
          refine z_iald C 0 rfl 3 rfl dX0_addRow_55 (ix p0) i_p0 (by omega) (by decide) ?_
          refine z_iload_n C dX0_addRow_56 3 rfl ?_
          refine z_aload_n C dX0_addRow_57 0 rfl ?_
          refine z_get (cl := vwCl) (T := TX0) (N := 13) (ci := 2) (ref := "IntervalSolver") C hinX0 rfl 3 (by decide) lk4 rfl dX0_addRow_58 0 rfl rfl ?_
          refine z_iload_n C dX0_addRow_61 2 rfl ?_
          refine z_iald C 0 rfl 3 rfl dX0_addRow_62 (ix p1) i_p1 (by omega) (by decide) ?_
          refine z_aload_n C dX0_addRow_63 0 rfl ?_
          refine z_get (cl := vwCl) (T := TX0) (N := 13) (ci := 2) (ref := "IntervalSolver") C hinX0 rfl 4 (by decide) lk5 rfl dX0_addRow_64 0 rfl rfl ?_
          refine z_iload_n C dX0_addRow_67 2 rfl ?_
          refine z_iald C 0 rfl 4 rfl dX0_addRow_68 (ix p1) i_p1 (by omega) (by decide) ?_
          refine z_callSi_none (As := [.int p2, .int (rl (ix p1)), .int (rh (ix p1))]) C (c0_productLow l D K p2 (rl (ix p1)) (rh (ix p1))) (va_cwS 3 C.1.2.2.2.2 gX0_addRow_X0_productLow rfl rfl rfl (by decide +kernel) ⟨Nat.le_of_ble_eq_true rfl, Nat.le_of_ble_eq_true rfl⟩) dX0_addRow_69 rfl rfl (Nat.le_of_ble_eq_true rfl) ⟨Nat.le_of_ble_eq_true rfl, Nat.le_of_ble_eq_true rfl⟩ (fun r4 u4 h4 => ?_)
          subst h4
          refine z_iadd C dX0_addRow_72 ?_
          refine z_istore (lv' := [(0, .ref (a 0)), (1, .int p0), (2, .int p1), (3, .int p2), (4, .int ((rl (ix p0)) + (pLow p2 (rl (ix p1)) (rh (ix p1)))))]) C dX0_addRow_73 (by decide) [1, 2, 3, 4, 0] rfl ?_
          refine z_aload_n C dX0_addRow_75 0 rfl ?_
          refine z_get (cl := vwCl) (T := TX0) (N := 13) (ci := 2) (ref := "IntervalSolver") C hinX0 rfl 4 (by decide) lk5 rfl dX0_addRow_76 0 rfl rfl ?_
          refine z_iload_n C dX0_addRow_79 1 rfl ?_
          refine z_iald C 0 rfl 4 rfl dX0_addRow_80 (ix p0) i_p0 (by omega) (by decide) ?_
          refine z_iload_n C dX0_addRow_81 3 rfl ?_
          refine z_aload_n C dX0_addRow_82 0 rfl ?_
          refine z_get (cl := vwCl) (T := TX0) (N := 13) (ci := 2) (ref := "IntervalSolver") C hinX0 rfl 3 (by decide) lk4 rfl dX0_addRow_83 0 rfl rfl ?_
          refine z_iload_n C dX0_addRow_86 2 rfl ?_
          refine z_iald C 0 rfl 3 rfl dX0_addRow_87 (ix p1) i_p1 (by omega) (by decide) ?_
          refine z_aload_n C dX0_addRow_88 0 rfl ?_
          refine z_get (cl := vwCl) (T := TX0) (N := 13) (ci := 2) (ref := "IntervalSolver") C hinX0 rfl 4 (by decide) lk5 rfl dX0_addRow_89 0 rfl rfl ?_
          refine z_iload_n C dX0_addRow_92 2 rfl ?_
          refine z_iald C 0 rfl 4 rfl dX0_addRow_93 (ix p1) i_p1 (by omega) (by decide) ?_
          refine z_callSi_none (As := [.int p2, .int (rl (ix p1)), .int (rh (ix p1))]) C (c0_productHigh l D K p2 (rl (ix p1)) (rh (ix p1))) (va_cwS 3 C.1.2.2.2.2 gX0_addRow_X0_productHigh rfl rfl rfl (by decide +kernel) ⟨Nat.le_of_ble_eq_true rfl, Nat.le_of_ble_eq_true rfl⟩) dX0_addRow_94 rfl rfl (Nat.le_of_ble_eq_true rfl) ⟨Nat.le_of_ble_eq_true rfl, Nat.le_of_ble_eq_true rfl⟩ (fun r5 u5 h5 => ?_)
          subst h5
          refine z_iadd C dX0_addRow_97 ?_
          refine z_istore (lv' := [(0, .ref (a 0)), (1, .int p0), (2, .int p1), (3, .int p2), (4, .int ((rl (ix p0)) + (pLow p2 (rl (ix p1)) (rh (ix p1))))), (5, .int ((rh (ix p0)) + (pHigh p2 (rl (ix p1)) (rh (ix p1)))))]) C dX0_addRow_98 (by decide) [1, 2, 3, 4, 5, 0] rfl ?_
          refine z_iload C dX0_addRow_100 4 rfl ?_
          refine z_iload C dX0_addRow_102 5 rfl ?_
          refine z_sipush (v := 999) C dX0_addRow_104 (by decide) ?_
          refine z_callSi_none (As := [.int ((rl (ix p0)) + (pLow p2 (rl (ix p1)) (rh (ix p1)))), .int ((rh (ix p0)) + (pHigh p2 (rl (ix p1)) (rh (ix p1)))), .int 999]) C (c0_isInterval l D K ((rl (ix p0)) + (pLow p2 (rl (ix p1)) (rh (ix p1)))) ((rh (ix p0)) + (pHigh p2 (rl (ix p1)) (rh (ix p1)))) 999) (va_cwS 3 C.1.2.2.2.2 gX0_addRow_X0_isInterval rfl rfl rfl (by decide +kernel) ⟨Nat.le_of_ble_eq_true rfl, Nat.le_of_ble_eq_true rfl⟩) dX0_addRow_107 rfl rfl (Nat.le_of_ble_eq_true rfl) ⟨Nat.le_of_ble_eq_true rfl, Nat.le_of_ble_eq_true rfl⟩ (fun r6 u6 h6 => ?_)
          subst h6
          refine z_if_eq (tgt := 123) C dX0_addRow_110 (by decide) (fun c110 => ?_) (fun c110 => ?_)
          · have q110 : ¬ (((-999 ≤ ((rl (ix p0)) + (pLow p2 (rl (ix p1)) (rh (ix p1)))) ∧ ((rl (ix p0)) + (pLow p2 (rl (ix p1)) (rh (ix p1)))) ≤ 999) ∧ (-999 ≤ ((rh (ix p0)) + (pHigh p2 (rl (ix p1)) (rh (ix p1)))) ∧ ((rh (ix p0)) + (pHigh p2 (rl (ix p1)) (rh (ix p1)))) ≤ 999)) ∧ ((rl (ix p0)) + (pLow p2 (rl (ix p1)) (rh (ix p1)))) ≤ ((rh (ix p0)) + (pHigh p2 (rl (ix p1)) (rh (ix p1))))) := zi0.mp c110
            exact hthr _ _ _ _ 104 106 108 "java/lang/ArithmeticException" "the sum of the rows leaves the range of a system" (N, M, S, rl, rh, bl, bh, kl, kh, mn, vc, iv, sc) lk6 lk7 (by decide +kernel) (fun w hw => List.mem_cons_of_mem _ (List.mem_append_right _ hw)) (by decide +kernel) dX0_addRow_123 dX0_addRow_126 dX0_addRow_127 dX0_addRow_129 dX0_addRow_132 ⟨Nat.le_of_ble_eq_true rfl, Nat.le_of_ble_eq_true rfl, Nat.le_of_ble_eq_true rfl, Nat.le_of_ble_eq_true rfl⟩ (Nat.le_of_ble_eq_true rfl) (Nat.le_of_ble_eq_true rfl) ⟨Or.inr (Or.inr (⟨by unfold kAdd0; rw [if_pos ⟨q5, q13⟩, if_pos ⟨c28, q37⟩, if_neg (by rintro ⟨h1, h2⟩; first | exact q110 h1 | exact q120 h2)], rfl⟩)), rfl⟩
          · have q110 : ((-999 ≤ ((rl (ix p0)) + (pLow p2 (rl (ix p1)) (rh (ix p1)))) ∧ ((rl (ix p0)) + (pLow p2 (rl (ix p1)) (rh (ix p1)))) ≤ 999) ∧ (-999 ≤ ((rh (ix p0)) + (pHigh p2 (rl (ix p1)) (rh (ix p1)))) ∧ ((rh (ix p0)) + (pHigh p2 (rl (ix p1)) (rh (ix p1)))) ≤ 999)) ∧ ((rl (ix p0)) + (pLow p2 (rl (ix p1)) (rh (ix p1)))) ≤ ((rh (ix p0)) + (pHigh p2 (rl (ix p1)) (rh (ix p1)))) := zi1.mp c110
            refine z_aload_n C dX0_addRow_113 0 rfl ?_
            refine z_iload_n C dX0_addRow_114 1 rfl ?_
            refine z_topi (nI (ix p0)) i_p0 ?_
            refine z_iload_n C dX0_addRow_115 2 rfl ?_
            refine z_topi (nI (ix p1)) i_p1 ?_
            refine z_iload_n C dX0_addRow_116 3 rfl ?_
            refine z_callVi_all (As := [.int (nI (ix p0)), .int (nI (ix p1)), .int p2]) C (c0_coefficientsFit l D K a N M S rl rh bl bh kl kh mn vc iv sc (ix p0) (ix p1) p2 (by omega) (by omega) (by omega)) (cwV 3 C.1.2.2.2.2 gX0_addRow_X0_coefficientsFit rfl rfl rfl (by decide +kernel) ⟨Nat.le_of_ble_eq_true rfl, Nat.le_of_ble_eq_true rfl⟩) (ci := 2) rfl rfl 0 rfl dX0_addRow_117 rfl rfl (Nat.le_of_ble_eq_true rfl) ⟨Nat.le_of_ble_eq_true rfl, Nat.le_of_ble_eq_true rfl⟩ (fun r7 u7 h7 => ?_)
            obtain ⟨rfl, rfl⟩ := h7
            refine z_if_ne (tgt := 133) C dX0_addRow_120 (by decide) (fun c120 => ?_) (fun c120 => ?_)
            · have q120 : ∀ t, t < N → (-99 ≤ M (ix p0) t + p2 * M (ix p1) t ∧ M (ix p0) t + p2 * M (ix p1) t ≤ 99) := zi1.mp c120
              refine z_aload_n C dX0_addRow_133 0 rfl ?_
              refine z_get (cl := vwCl) (T := TX0) (N := 13) (ci := 2) (ref := "IntervalSolver") C hinX0 rfl 3 (by decide) lk4 rfl dX0_addRow_134 0 rfl rfl ?_
              refine z_iload_n C dX0_addRow_137 1 rfl ?_
              refine z_iload C dX0_addRow_138 4 rfl ?_
              refine z_iast (ws' := w0 K a (N, M, S, upd rl (ix p0) ((rl (ix p0)) + (pLow p2 (rl (ix p1)) (rh (ix p1)))), rh, bl, bh, kl, kh, mn, vc, iv, sc)) C 0 rfl 3 rfl dX0_addRow_140 (ix p0) i_p0 (by omega) (by decide) rfl ?_
              refine z_aload_n C dX0_addRow_141 0 rfl ?_
              refine z_get (cl := vwCl) (T := TX0) (N := 13) (ci := 2) (ref := "IntervalSolver") C hinX0 rfl 4 (by decide) lk5 rfl dX0_addRow_142 0 rfl rfl ?_
              refine z_iload_n C dX0_addRow_145 1 rfl ?_
              refine z_iload C dX0_addRow_146 5 rfl ?_
              refine z_iast (ws' := w0 K a (N, M, S, upd rl (ix p0) ((rl (ix p0)) + (pLow p2 (rl (ix p1)) (rh (ix p1)))), upd rh (ix p0) ((rh (ix p0)) + (pHigh p2 (rl (ix p1)) (rh (ix p1)))), bl, bh, kl, kh, mn, vc, iv, sc)) C 0 rfl 4 rfl dX0_addRow_148 (ix p0) i_p0 (by omega) (by decide) rfl ?_
              refine z_aload_n C dX0_addRow_149 0 rfl ?_
              refine z_iload_n C dX0_addRow_150 1 rfl ?_
              refine z_topi (nI (ix p0)) i_p0 ?_
              refine z_iload_n C dX0_addRow_151 2 rfl ?_
              refine z_topi (nI (ix p1)) i_p1 ?_
              refine z_iload_n C dX0_addRow_152 3 rfl ?_
              refine z_callVi_all (As := [.int (nI (ix p0)), .int (nI (ix p1)), .int p2]) C (c0_addCoefficients l D K a N M S (upd rl (ix p0) ((rl (ix p0)) + (pLow p2 (rl (ix p1)) (rh (ix p1))))) (upd rh (ix p0) ((rh (ix p0)) + (pHigh p2 (rl (ix p1)) (rh (ix p1))))) bl bh kl kh mn vc iv sc (ix p0) (ix p1) p2 (by omega) (by omega) (by omega)) (cwV 3 C.1.2.2.2.2 gX0_addRow_X0_addCoefficients rfl rfl rfl (by decide +kernel) ⟨Nat.le_of_ble_eq_true rfl, Nat.le_of_ble_eq_true rfl⟩) (ci := 2) rfl rfl 0 rfl dX0_addRow_153 rfl rfl (Nat.le_of_ble_eq_true rfl) ⟨Nat.le_of_ble_eq_true rfl, Nat.le_of_ble_eq_true rfl⟩ (fun r8 u8 h8 => ?_)
              obtain ⟨rfl, rfl⟩ := h8
              exact hend _ _ _ _ _ (N, acM M (ix p0) (ix p1) p2 N, S, upd rl (ix p0) ((rl (ix p0)) + (pLow p2 (rl (ix p1)) (rh (ix p1)))), upd rh (ix p0) ((rh (ix p0)) + (pHigh p2 (rl (ix p1)) (rh (ix p1)))), bl, bh, kl, kh, mn, vc, iv, sc) dX0_addRow_156 (by omega) (by omega) ⟨by unfold kAdd0; rw [if_pos ⟨q5, q13⟩, if_pos ⟨c28, q37⟩, if_pos ⟨q110, q120⟩], rfl, rfl⟩
            · have q120 : ¬ (∀ t, t < N → (-99 ≤ M (ix p0) t + p2 * M (ix p1) t ∧ M (ix p0) t + p2 * M (ix p1) t ≤ 99)) := zi0.mp c120
              exact hthr _ _ _ _ 104 106 108 "java/lang/ArithmeticException" "the sum of the rows leaves the range of a system" (N, M, S, rl, rh, bl, bh, kl, kh, mn, vc, iv, sc) lk6 lk7 (by decide +kernel) (fun w hw => List.mem_cons_of_mem _ (List.mem_append_right _ hw)) (by decide +kernel) dX0_addRow_123 dX0_addRow_126 dX0_addRow_127 dX0_addRow_129 dX0_addRow_132 ⟨Nat.le_of_ble_eq_true rfl, Nat.le_of_ble_eq_true rfl, Nat.le_of_ble_eq_true rfl, Nat.le_of_ble_eq_true rfl⟩ (Nat.le_of_ble_eq_true rfl) (Nat.le_of_ble_eq_true rfl) ⟨Or.inr (Or.inr (⟨by unfold kAdd0; rw [if_pos ⟨q5, q13⟩, if_pos ⟨c28, q37⟩, if_neg (by rintro ⟨h1, h2⟩; first | exact q110 h1 | exact q120 h2)], rfl⟩)), rfl⟩
        · have q37 : ¬ (-99 ≤ p2 ∧ p2 ≤ 99) := zi0.mp c37
          exact hthr _ _ _ _ 52 92 56 "java/lang/IllegalArgumentException" "the same row, or a factor that is not -99 to 99" (N, M, S, rl, rh, bl, bh, kl, kh, mn, vc, iv, sc) lk2 lk3 (by decide +kernel) (fun w hw => List.mem_cons_of_mem _ (List.mem_append_left _ (List.mem_append_left _ (List.mem_append_right _ hw)))) (by decide +kernel) dX0_addRow_40 dX0_addRow_43 dX0_addRow_44 dX0_addRow_46 dX0_addRow_49 ⟨Nat.le_of_ble_eq_true rfl, Nat.le_of_ble_eq_true rfl, Nat.le_of_ble_eq_true rfl, Nat.le_of_ble_eq_true rfl⟩ (Nat.le_of_ble_eq_true rfl) (Nat.le_of_ble_eq_true rfl) ⟨Or.inr (Or.inl (⟨by unfold kAdd0; rw [if_pos ⟨q5, q13⟩, if_neg (by rintro ⟨h1, h2⟩; first | exact h1 c28 | exact q37 h2)], rfl⟩)), rfl⟩
    · have q13 : ¬ (ixP N p1) := zi0.mp c13
      exact hthr _ _ _ _ 67 78 71 "java/lang/IndexOutOfBoundsException" "no such row" (N, M, S, rl, rh, bl, bh, kl, kh, mn, vc, iv, sc) lk0 lk1 (by decide +kernel) (fun w hw => List.mem_cons_of_mem _ (List.mem_append_left _ (List.mem_append_left _ (List.mem_append_left _ (List.mem_append_right _ hw))))) (by decide +kernel) dX0_addRow_16 dX0_addRow_19 dX0_addRow_20 dX0_addRow_22 dX0_addRow_25 ⟨Nat.le_of_ble_eq_true rfl, Nat.le_of_ble_eq_true rfl, Nat.le_of_ble_eq_true rfl, Nat.le_of_ble_eq_true rfl⟩ (Nat.le_of_ble_eq_true rfl) (Nat.le_of_ble_eq_true rfl) ⟨Or.inl (⟨if_neg (by rintro ⟨h1, h2⟩; first | exact q5 h1 | exact q13 h2), rfl⟩), rfl⟩

set_option maxRecDepth 100000 in
set_option maxHeartbeats 4000000 in
theorem c0_lowNumerator (l : Launch) (D : va_G) (K : Nat → ClassId) (a : Nat → Nat) (N : Nat) (M : Nat → Nat → Int32) (S : Nat → Nat → Int32) (rl : Nat → Int32) (rh : Nat → Int32) (bl : Nat → Int32) (bh : Nat → Int32) (kl : Nat → Int32) (kh : Nat → Int32) (mn : Nat → Int64) (vc : Nat → Int64) (iv : Nat → Nat → Int64) (sc : Int64) (p0 : Int32) (hst : l.stackTraces = false) (hN : N ≤ 5) : xL l D K yX0_lowNumerator wsX0_lowNumerator 6 97 1 6 [.ref (a 0), .int p0] (w0 K a (N, M, S, rl, rh, bl, bh, kl, kh, mn, vc, iv, sc)) (fun r u => kHul N M p0 = 0 ∧ r = redC (hul (ivF M N (ix p0)) rl rh N) (absL (detM M N)) ∧ ∃ mn1 iv1 sc1, u = (N, M, S, rl, rh, bl, bh, kl, kh, mn1, vc, iv1, sc1)) (fun E u => ((kHul N M p0 = 1 ∧ E = "java/lang/IndexOutOfBoundsException") ∨ (kHul N M p0 = 2 ∧ E = "java/lang/ArithmeticException")) ∧ ∃ mn1 iv1 sc1, u = (N, M, S, rl, rh, bl, bh, kl, kh, mn1, vc, iv1, sc1)) (w0 K a) := by
  have hinX0 : ∀ w ∈ wsX00, w ∈ wsX0_lowNumerator := by decide +kernel
  have lk0 : Cond.fieldLink RX0 131 "IntervalSolver" "scale" "J" ∈ wsX0_lowNumerator := by decide +kernel
  have lk1 : Cond.classLink RX0 104 "java/lang/ArithmeticException" ∈ wsX0_lowNumerator := by decide +kernel
  have lk2 : Cond.initialized "java/lang/ArithmeticException" ∈ wsX0_lowNumerator := by decide +kernel
  have lk3 : Cond.classLink RX0 67 "java/lang/IndexOutOfBoundsException" ∈ wsX0_lowNumerator := by decide +kernel
  have lk4 : Cond.initialized "java/lang/IndexOutOfBoundsException" ∈ wsX0_lowNumerator := by decide +kernel
  refine x_met_l (cc := cX0_lowNumerator) (maxL := 2) (lv := [(0, .ref (a 0)), (1, .int p0)]) hst (by decide +kernel) rfl rfl (Nat.le_of_ble_eq_true rfl) rfl ?_
  intro p e s m below meth c args Q A C hend hthr
  refine z_aload_n C dX0_lowNumerator_0 0 rfl ?_
  refine z_iload_n C dX0_lowNumerator_1 1 rfl ?_
  refine z_callVi_all (As := [.int p0]) C (c0_isIndex l D K a N M S rl rh bl bh kl kh mn vc iv sc p0) (cwV 1 C.1.2.2.2.2 gX0_lowNumerator_X0_isIndex rfl rfl rfl (by decide +kernel) ⟨Nat.le_of_ble_eq_true rfl, Nat.le_of_ble_eq_true rfl⟩) (ci := 2) rfl rfl 0 rfl dX0_lowNumerator_2 rfl rfl (Nat.le_of_ble_eq_true rfl) ⟨Nat.le_of_ble_eq_true rfl, Nat.le_of_ble_eq_true rfl⟩ (fun r1 u1 h1 => ?_)
  obtain ⟨rfl, rfl⟩ := h1
  refine z_if_ne (tgt := 18) C dX0_lowNumerator_5 (by decide) (fun c5 => ?_) (fun c5 => ?_)
  · have q5 : ixP N p0 := zi1.mp c5
    obtain ⟨i_p0, l_p0⟩ := ixP_at hN q5
    refine z_aload_n C dX0_lowNumerator_18 0 rfl ?_
    refine z_callVi_all (As := []) C (c0_invert l D K a N M S rl rh bl bh kl kh mn vc iv sc (by omega)) (cwV 0 C.1.2.2.2.2 gX0_lowNumerator_X0_invert rfl rfl rfl (by decide +kernel) ⟨Nat.le_of_ble_eq_true rfl, Nat.le_of_ble_eq_true rfl⟩) (ci := 2) rfl rfl 0 rfl dX0_lowNumerator_19 rfl rfl (Nat.le_of_ble_eq_true rfl) ⟨Nat.le_of_ble_eq_true rfl, Nat.le_of_ble_eq_true rfl⟩ (fun r2 u2 h2 => ?_)
    obtain ⟨mn_2, iv_2, sc_2, rfl, hr_2, hvv⟩ := inv_out h2
    subst hr_2
    refine z_if_ne (tgt := 35) C dX0_lowNumerator_22 (by decide) (fun c22 => ?_) (fun c22 => ?_)
    · have q22 : ¬ detM M N = 0 := zi1.mp c22
      have hd := q22
      obtain ⟨hiv, hsc⟩ := hvv hd
      refine z_aload_n C dX0_lowNumerator_35 0 rfl ?_
      refine z_iload_n C dX0_lowNumerator_36 1 rfl ?_
      refine z_topi (nI (ix p0)) i_p0 ?_
      refine z_callVl_all (As := [.int (nI (ix p0))]) C (c0_scaledHullLow l D K a N M S rl rh bl bh kl kh mn_2 vc iv_2 sc_2 (ix p0) (by omega) (by omega)) (cwV 1 C.1.2.2.2.2 gX0_lowNumerator_X0_scaledHullLow rfl rfl rfl (by decide +kernel) ⟨Nat.le_of_ble_eq_true rfl, Nat.le_of_ble_eq_true rfl⟩) (ci := 2) rfl rfl 0 rfl dX0_lowNumerator_37 rfl rfl (Nat.le_of_ble_eq_true rfl) ⟨Nat.le_of_ble_eq_true rfl, Nat.le_of_ble_eq_true rfl⟩ (fun r3 u3 h3 => ?_)
      obtain ⟨rfl, rfl⟩ := h3
      refine z_aload_n C dX0_lowNumerator_40 0 rfl ?_
      refine z_get (cl := vwCl) (T := TX0) (N := 13) (ci := 2) (ref := "IntervalSolver") C hinX0 rfl 12 (by decide) lk0 rfl dX0_lowNumerator_41 0 rfl rfl ?_
      refine z_callSl_none (As := [.long (hul (iv_2 (ix p0)) rl rh N), .long sc_2]) C (c0_reduced l D K (hul (iv_2 (ix p0)) rl rh N) sc_2) (va_cwS 2 C.1.2.2.2.2 gX0_lowNumerator_X0_reduced rfl rfl rfl (by decide +kernel) ⟨Nat.le_of_ble_eq_true rfl, Nat.le_of_ble_eq_true rfl⟩) dX0_lowNumerator_44 rfl rfl (Nat.le_of_ble_eq_true rfl) ⟨Nat.le_of_ble_eq_true rfl, Nat.le_of_ble_eq_true rfl⟩ (fun r4 u4 h4 => ?_)
      have g4 : r4 = redC (hul (iv_2 (ix p0)) rl rh N) sc_2 := h4
      rw [g4]
      exact hend _ _ _ _ _ (N, M, S, rl, rh, bl, bh, kl, kh, mn_2, vc, iv_2, sc_2) dX0_lowNumerator_47 (by omega) (by omega) ⟨by unfold kHul; rw [if_pos q5, if_neg hd], by rw [hul_congr (fun j hj => hiv (ix p0) j (by omega) hj), hsc], _, _, _, rfl⟩
    · have q22 : ¬ (¬ detM M N = 0) := zi0.mp c22
      have hd0 := Decidable.of_not_not q22
      exact hthr _ _ _ _ 104 125 108 "java/lang/ArithmeticException" "the determinant is 0" (N, M, S, rl, rh, bl, bh, kl, kh, mn_2, vc, iv_2, sc_2) lk1 lk2 (by decide +kernel) (fun w hw => List.mem_cons_of_mem _ (List.mem_append_left _ (List.mem_append_left _ (List.mem_append_right _ hw)))) (by decide +kernel) dX0_lowNumerator_25 dX0_lowNumerator_28 dX0_lowNumerator_29 dX0_lowNumerator_31 dX0_lowNumerator_34 ⟨Nat.le_of_ble_eq_true rfl, Nat.le_of_ble_eq_true rfl, Nat.le_of_ble_eq_true rfl, Nat.le_of_ble_eq_true rfl⟩ (Nat.le_of_ble_eq_true rfl) (Nat.le_of_ble_eq_true rfl) ⟨Or.inr (⟨by unfold kHul; rw [if_pos q5, if_pos hd0], rfl⟩), _, _, _, rfl⟩
  · have q5 : ¬ (ixP N p0) := zi0.mp c5
    exact hthr _ _ _ _ 67 119 71 "java/lang/IndexOutOfBoundsException" "no such component" (N, M, S, rl, rh, bl, bh, kl, kh, mn, vc, iv, sc) lk3 lk4 (by decide +kernel) (fun w hw => List.mem_cons_of_mem _ (List.mem_append_left _ (List.mem_append_left _ (List.mem_append_left _ (List.mem_append_right _ hw))))) (by decide +kernel) dX0_lowNumerator_8 dX0_lowNumerator_11 dX0_lowNumerator_12 dX0_lowNumerator_14 dX0_lowNumerator_17 ⟨Nat.le_of_ble_eq_true rfl, Nat.le_of_ble_eq_true rfl, Nat.le_of_ble_eq_true rfl, Nat.le_of_ble_eq_true rfl⟩ (Nat.le_of_ble_eq_true rfl) (Nat.le_of_ble_eq_true rfl) ⟨Or.inl (⟨if_neg q5, rfl⟩), _, _, _, rfl⟩

set_option maxRecDepth 100000 in
set_option maxHeartbeats 4000000 in
theorem c0_lowDenominator (l : Launch) (D : va_G) (K : Nat → ClassId) (a : Nat → Nat) (N : Nat) (M : Nat → Nat → Int32) (S : Nat → Nat → Int32) (rl : Nat → Int32) (rh : Nat → Int32) (bl : Nat → Int32) (bh : Nat → Int32) (kl : Nat → Int32) (kh : Nat → Int32) (mn : Nat → Int64) (vc : Nat → Int64) (iv : Nat → Nat → Int64) (sc : Int64) (p0 : Int32) (hst : l.stackTraces = false) (hN : N ≤ 5) : xL l D K yX0_lowDenominator wsX0_lowDenominator 6 97 1 6 [.ref (a 0), .int p0] (w0 K a (N, M, S, rl, rh, bl, bh, kl, kh, mn, vc, iv, sc)) (fun r u => kHul N M p0 = 0 ∧ r = redC (absL (detM M N)) (hul (ivF M N (ix p0)) rl rh N) ∧ ∃ mn1 iv1 sc1, u = (N, M, S, rl, rh, bl, bh, kl, kh, mn1, vc, iv1, sc1)) (fun E u => ((kHul N M p0 = 1 ∧ E = "java/lang/IndexOutOfBoundsException") ∨ (kHul N M p0 = 2 ∧ E = "java/lang/ArithmeticException")) ∧ ∃ mn1 iv1 sc1, u = (N, M, S, rl, rh, bl, bh, kl, kh, mn1, vc, iv1, sc1)) (w0 K a) := by
  have hinX0 : ∀ w ∈ wsX00, w ∈ wsX0_lowDenominator := by decide +kernel
  have lk0 : Cond.fieldLink RX0 131 "IntervalSolver" "scale" "J" ∈ wsX0_lowDenominator := by decide +kernel
  have lk1 : Cond.classLink RX0 104 "java/lang/ArithmeticException" ∈ wsX0_lowDenominator := by decide +kernel
  have lk2 : Cond.initialized "java/lang/ArithmeticException" ∈ wsX0_lowDenominator := by decide +kernel
  have lk3 : Cond.classLink RX0 67 "java/lang/IndexOutOfBoundsException" ∈ wsX0_lowDenominator := by decide +kernel
  have lk4 : Cond.initialized "java/lang/IndexOutOfBoundsException" ∈ wsX0_lowDenominator := by decide +kernel
  refine x_met_l (cc := cX0_lowDenominator) (maxL := 2) (lv := [(0, .ref (a 0)), (1, .int p0)]) hst (by decide +kernel) rfl rfl (Nat.le_of_ble_eq_true rfl) rfl ?_
  intro p e s m below meth c args Q A C hend hthr
  refine z_aload_n C dX0_lowDenominator_0 0 rfl ?_
  refine z_iload_n C dX0_lowDenominator_1 1 rfl ?_
  refine z_callVi_all (As := [.int p0]) C (c0_isIndex l D K a N M S rl rh bl bh kl kh mn vc iv sc p0) (cwV 1 C.1.2.2.2.2 gX0_lowDenominator_X0_isIndex rfl rfl rfl (by decide +kernel) ⟨Nat.le_of_ble_eq_true rfl, Nat.le_of_ble_eq_true rfl⟩) (ci := 2) rfl rfl 0 rfl dX0_lowDenominator_2 rfl rfl (Nat.le_of_ble_eq_true rfl) ⟨Nat.le_of_ble_eq_true rfl, Nat.le_of_ble_eq_true rfl⟩ (fun r1 u1 h1 => ?_)
  obtain ⟨rfl, rfl⟩ := h1
  refine z_if_ne (tgt := 18) C dX0_lowDenominator_5 (by decide) (fun c5 => ?_) (fun c5 => ?_)
  · have q5 : ixP N p0 := zi1.mp c5
    obtain ⟨i_p0, l_p0⟩ := ixP_at hN q5
    refine z_aload_n C dX0_lowDenominator_18 0 rfl ?_
    refine z_callVi_all (As := []) C (c0_invert l D K a N M S rl rh bl bh kl kh mn vc iv sc (by omega)) (cwV 0 C.1.2.2.2.2 gX0_lowDenominator_X0_invert rfl rfl rfl (by decide +kernel) ⟨Nat.le_of_ble_eq_true rfl, Nat.le_of_ble_eq_true rfl⟩) (ci := 2) rfl rfl 0 rfl dX0_lowDenominator_19 rfl rfl (Nat.le_of_ble_eq_true rfl) ⟨Nat.le_of_ble_eq_true rfl, Nat.le_of_ble_eq_true rfl⟩ (fun r2 u2 h2 => ?_)
    obtain ⟨mn_2, iv_2, sc_2, rfl, hr_2, hvv⟩ := inv_out h2
    subst hr_2
    refine z_if_ne (tgt := 35) C dX0_lowDenominator_22 (by decide) (fun c22 => ?_) (fun c22 => ?_)
    · have q22 : ¬ detM M N = 0 := zi1.mp c22
      have hd := q22
      obtain ⟨hiv, hsc⟩ := hvv hd
      refine z_aload_n C dX0_lowDenominator_35 0 rfl ?_
      refine z_get (cl := vwCl) (T := TX0) (N := 13) (ci := 2) (ref := "IntervalSolver") C hinX0 rfl 12 (by decide) lk0 rfl dX0_lowDenominator_36 0 rfl rfl ?_
      refine z_aload_n C dX0_lowDenominator_39 0 rfl ?_
      refine z_iload_n C dX0_lowDenominator_40 1 rfl ?_
      refine z_topi (nI (ix p0)) i_p0 ?_
      refine z_callVl_all (As := [.int (nI (ix p0))]) C (c0_scaledHullLow l D K a N M S rl rh bl bh kl kh mn_2 vc iv_2 sc_2 (ix p0) (by omega) (by omega)) (cwV 1 C.1.2.2.2.2 gX0_lowDenominator_X0_scaledHullLow rfl rfl rfl (by decide +kernel) ⟨Nat.le_of_ble_eq_true rfl, Nat.le_of_ble_eq_true rfl⟩) (ci := 2) rfl rfl 0 rfl dX0_lowDenominator_41 rfl rfl (Nat.le_of_ble_eq_true rfl) ⟨Nat.le_of_ble_eq_true rfl, Nat.le_of_ble_eq_true rfl⟩ (fun r3 u3 h3 => ?_)
      obtain ⟨rfl, rfl⟩ := h3
      refine z_callSl_none (As := [.long sc_2, .long (hul (iv_2 (ix p0)) rl rh N)]) C (c0_reduced l D K sc_2 (hul (iv_2 (ix p0)) rl rh N)) (va_cwS 2 C.1.2.2.2.2 gX0_lowDenominator_X0_reduced rfl rfl rfl (by decide +kernel) ⟨Nat.le_of_ble_eq_true rfl, Nat.le_of_ble_eq_true rfl⟩) dX0_lowDenominator_44 rfl rfl (Nat.le_of_ble_eq_true rfl) ⟨Nat.le_of_ble_eq_true rfl, Nat.le_of_ble_eq_true rfl⟩ (fun r4 u4 h4 => ?_)
      have g4 : r4 = redC sc_2 (hul (iv_2 (ix p0)) rl rh N) := h4
      rw [g4]
      exact hend _ _ _ _ _ (N, M, S, rl, rh, bl, bh, kl, kh, mn_2, vc, iv_2, sc_2) dX0_lowDenominator_47 (by omega) (by omega) ⟨by unfold kHul; rw [if_pos q5, if_neg hd], by rw [hul_congr (fun j hj => hiv (ix p0) j (by omega) hj), hsc], _, _, _, rfl⟩
    · have q22 : ¬ (¬ detM M N = 0) := zi0.mp c22
      have hd0 := Decidable.of_not_not q22
      exact hthr _ _ _ _ 104 125 108 "java/lang/ArithmeticException" "the determinant is 0" (N, M, S, rl, rh, bl, bh, kl, kh, mn_2, vc, iv_2, sc_2) lk1 lk2 (by decide +kernel) (fun w hw => List.mem_cons_of_mem _ (List.mem_append_left _ (List.mem_append_left _ (List.mem_append_right _ hw)))) (by decide +kernel) dX0_lowDenominator_25 dX0_lowDenominator_28 dX0_lowDenominator_29 dX0_lowDenominator_31 dX0_lowDenominator_34 ⟨Nat.le_of_ble_eq_true rfl, Nat.le_of_ble_eq_true rfl, Nat.le_of_ble_eq_true rfl, Nat.le_of_ble_eq_true rfl⟩ (Nat.le_of_ble_eq_true rfl) (Nat.le_of_ble_eq_true rfl) ⟨Or.inr (⟨by unfold kHul; rw [if_pos q5, if_pos hd0], rfl⟩), _, _, _, rfl⟩
  · have q5 : ¬ (ixP N p0) := zi0.mp c5
    exact hthr _ _ _ _ 67 119 71 "java/lang/IndexOutOfBoundsException" "no such component" (N, M, S, rl, rh, bl, bh, kl, kh, mn, vc, iv, sc) lk3 lk4 (by decide +kernel) (fun w hw => List.mem_cons_of_mem _ (List.mem_append_left _ (List.mem_append_left _ (List.mem_append_left _ (List.mem_append_right _ hw))))) (by decide +kernel) dX0_lowDenominator_8 dX0_lowDenominator_11 dX0_lowDenominator_12 dX0_lowDenominator_14 dX0_lowDenominator_17 ⟨Nat.le_of_ble_eq_true rfl, Nat.le_of_ble_eq_true rfl, Nat.le_of_ble_eq_true rfl, Nat.le_of_ble_eq_true rfl⟩ (Nat.le_of_ble_eq_true rfl) (Nat.le_of_ble_eq_true rfl) ⟨Or.inl (⟨if_neg q5, rfl⟩), _, _, _, rfl⟩

set_option maxRecDepth 100000 in
set_option maxHeartbeats 4000000 in
theorem c0_highNumerator (l : Launch) (D : va_G) (K : Nat → ClassId) (a : Nat → Nat) (N : Nat) (M : Nat → Nat → Int32) (S : Nat → Nat → Int32) (rl : Nat → Int32) (rh : Nat → Int32) (bl : Nat → Int32) (bh : Nat → Int32) (kl : Nat → Int32) (kh : Nat → Int32) (mn : Nat → Int64) (vc : Nat → Int64) (iv : Nat → Nat → Int64) (sc : Int64) (p0 : Int32) (hst : l.stackTraces = false) (hN : N ≤ 5) : xL l D K yX0_highNumerator wsX0_highNumerator 6 97 1 6 [.ref (a 0), .int p0] (w0 K a (N, M, S, rl, rh, bl, bh, kl, kh, mn, vc, iv, sc)) (fun r u => kHul N M p0 = 0 ∧ r = redC (hul (ivF M N (ix p0)) rh rl N) (absL (detM M N)) ∧ ∃ mn1 iv1 sc1, u = (N, M, S, rl, rh, bl, bh, kl, kh, mn1, vc, iv1, sc1)) (fun E u => ((kHul N M p0 = 1 ∧ E = "java/lang/IndexOutOfBoundsException") ∨ (kHul N M p0 = 2 ∧ E = "java/lang/ArithmeticException")) ∧ ∃ mn1 iv1 sc1, u = (N, M, S, rl, rh, bl, bh, kl, kh, mn1, vc, iv1, sc1)) (w0 K a) := by
  have hinX0 : ∀ w ∈ wsX00, w ∈ wsX0_highNumerator := by decide +kernel
  have lk0 : Cond.fieldLink RX0 131 "IntervalSolver" "scale" "J" ∈ wsX0_highNumerator := by decide +kernel
  have lk1 : Cond.classLink RX0 104 "java/lang/ArithmeticException" ∈ wsX0_highNumerator := by decide +kernel
  have lk2 : Cond.initialized "java/lang/ArithmeticException" ∈ wsX0_highNumerator := by decide +kernel
  have lk3 : Cond.classLink RX0 67 "java/lang/IndexOutOfBoundsException" ∈ wsX0_highNumerator := by decide +kernel
  have lk4 : Cond.initialized "java/lang/IndexOutOfBoundsException" ∈ wsX0_highNumerator := by decide +kernel
  refine x_met_l (cc := cX0_highNumerator) (maxL := 2) (lv := [(0, .ref (a 0)), (1, .int p0)]) hst (by decide +kernel) rfl rfl (Nat.le_of_ble_eq_true rfl) rfl ?_
  intro p e s m below meth c args Q A C hend hthr
  refine z_aload_n C dX0_highNumerator_0 0 rfl ?_
  refine z_iload_n C dX0_highNumerator_1 1 rfl ?_
  refine z_callVi_all (As := [.int p0]) C (c0_isIndex l D K a N M S rl rh bl bh kl kh mn vc iv sc p0) (cwV 1 C.1.2.2.2.2 gX0_highNumerator_X0_isIndex rfl rfl rfl (by decide +kernel) ⟨Nat.le_of_ble_eq_true rfl, Nat.le_of_ble_eq_true rfl⟩) (ci := 2) rfl rfl 0 rfl dX0_highNumerator_2 rfl rfl (Nat.le_of_ble_eq_true rfl) ⟨Nat.le_of_ble_eq_true rfl, Nat.le_of_ble_eq_true rfl⟩ (fun r1 u1 h1 => ?_)
  obtain ⟨rfl, rfl⟩ := h1
  refine z_if_ne (tgt := 18) C dX0_highNumerator_5 (by decide) (fun c5 => ?_) (fun c5 => ?_)
  · have q5 : ixP N p0 := zi1.mp c5
    obtain ⟨i_p0, l_p0⟩ := ixP_at hN q5
    refine z_aload_n C dX0_highNumerator_18 0 rfl ?_
    refine z_callVi_all (As := []) C (c0_invert l D K a N M S rl rh bl bh kl kh mn vc iv sc (by omega)) (cwV 0 C.1.2.2.2.2 gX0_highNumerator_X0_invert rfl rfl rfl (by decide +kernel) ⟨Nat.le_of_ble_eq_true rfl, Nat.le_of_ble_eq_true rfl⟩) (ci := 2) rfl rfl 0 rfl dX0_highNumerator_19 rfl rfl (Nat.le_of_ble_eq_true rfl) ⟨Nat.le_of_ble_eq_true rfl, Nat.le_of_ble_eq_true rfl⟩ (fun r2 u2 h2 => ?_)
    obtain ⟨mn_2, iv_2, sc_2, rfl, hr_2, hvv⟩ := inv_out h2
    subst hr_2
    refine z_if_ne (tgt := 35) C dX0_highNumerator_22 (by decide) (fun c22 => ?_) (fun c22 => ?_)
    · have q22 : ¬ detM M N = 0 := zi1.mp c22
      have hd := q22
      obtain ⟨hiv, hsc⟩ := hvv hd
      refine z_aload_n C dX0_highNumerator_35 0 rfl ?_
      refine z_iload_n C dX0_highNumerator_36 1 rfl ?_
      refine z_topi (nI (ix p0)) i_p0 ?_
      refine z_callVl_all (As := [.int (nI (ix p0))]) C (c0_scaledHullHigh l D K a N M S rl rh bl bh kl kh mn_2 vc iv_2 sc_2 (ix p0) (by omega) (by omega)) (cwV 1 C.1.2.2.2.2 gX0_highNumerator_X0_scaledHullHigh rfl rfl rfl (by decide +kernel) ⟨Nat.le_of_ble_eq_true rfl, Nat.le_of_ble_eq_true rfl⟩) (ci := 2) rfl rfl 0 rfl dX0_highNumerator_37 rfl rfl (Nat.le_of_ble_eq_true rfl) ⟨Nat.le_of_ble_eq_true rfl, Nat.le_of_ble_eq_true rfl⟩ (fun r3 u3 h3 => ?_)
      obtain ⟨rfl, rfl⟩ := h3
      refine z_aload_n C dX0_highNumerator_40 0 rfl ?_
      refine z_get (cl := vwCl) (T := TX0) (N := 13) (ci := 2) (ref := "IntervalSolver") C hinX0 rfl 12 (by decide) lk0 rfl dX0_highNumerator_41 0 rfl rfl ?_
      refine z_callSl_none (As := [.long (hul (iv_2 (ix p0)) rh rl N), .long sc_2]) C (c0_reduced l D K (hul (iv_2 (ix p0)) rh rl N) sc_2) (va_cwS 2 C.1.2.2.2.2 gX0_highNumerator_X0_reduced rfl rfl rfl (by decide +kernel) ⟨Nat.le_of_ble_eq_true rfl, Nat.le_of_ble_eq_true rfl⟩) dX0_highNumerator_44 rfl rfl (Nat.le_of_ble_eq_true rfl) ⟨Nat.le_of_ble_eq_true rfl, Nat.le_of_ble_eq_true rfl⟩ (fun r4 u4 h4 => ?_)
      have g4 : r4 = redC (hul (iv_2 (ix p0)) rh rl N) sc_2 := h4
      rw [g4]
      exact hend _ _ _ _ _ (N, M, S, rl, rh, bl, bh, kl, kh, mn_2, vc, iv_2, sc_2) dX0_highNumerator_47 (by omega) (by omega) ⟨by unfold kHul; rw [if_pos q5, if_neg hd], by rw [hul_congr (fun j hj => hiv (ix p0) j (by omega) hj), hsc], _, _, _, rfl⟩
    · have q22 : ¬ (¬ detM M N = 0) := zi0.mp c22
      have hd0 := Decidable.of_not_not q22
      exact hthr _ _ _ _ 104 125 108 "java/lang/ArithmeticException" "the determinant is 0" (N, M, S, rl, rh, bl, bh, kl, kh, mn_2, vc, iv_2, sc_2) lk1 lk2 (by decide +kernel) (fun w hw => List.mem_cons_of_mem _ (List.mem_append_left _ (List.mem_append_left _ (List.mem_append_right _ hw)))) (by decide +kernel) dX0_highNumerator_25 dX0_highNumerator_28 dX0_highNumerator_29 dX0_highNumerator_31 dX0_highNumerator_34 ⟨Nat.le_of_ble_eq_true rfl, Nat.le_of_ble_eq_true rfl, Nat.le_of_ble_eq_true rfl, Nat.le_of_ble_eq_true rfl⟩ (Nat.le_of_ble_eq_true rfl) (Nat.le_of_ble_eq_true rfl) ⟨Or.inr (⟨by unfold kHul; rw [if_pos q5, if_pos hd0], rfl⟩), _, _, _, rfl⟩
  · have q5 : ¬ (ixP N p0) := zi0.mp c5
    exact hthr _ _ _ _ 67 119 71 "java/lang/IndexOutOfBoundsException" "no such component" (N, M, S, rl, rh, bl, bh, kl, kh, mn, vc, iv, sc) lk3 lk4 (by decide +kernel) (fun w hw => List.mem_cons_of_mem _ (List.mem_append_left _ (List.mem_append_left _ (List.mem_append_left _ (List.mem_append_right _ hw))))) (by decide +kernel) dX0_highNumerator_8 dX0_highNumerator_11 dX0_highNumerator_12 dX0_highNumerator_14 dX0_highNumerator_17 ⟨Nat.le_of_ble_eq_true rfl, Nat.le_of_ble_eq_true rfl, Nat.le_of_ble_eq_true rfl, Nat.le_of_ble_eq_true rfl⟩ (Nat.le_of_ble_eq_true rfl) (Nat.le_of_ble_eq_true rfl) ⟨Or.inl (⟨if_neg q5, rfl⟩), _, _, _, rfl⟩

set_option maxRecDepth 100000 in
set_option maxHeartbeats 4000000 in
theorem c0_highDenominator (l : Launch) (D : va_G) (K : Nat → ClassId) (a : Nat → Nat) (N : Nat) (M : Nat → Nat → Int32) (S : Nat → Nat → Int32) (rl : Nat → Int32) (rh : Nat → Int32) (bl : Nat → Int32) (bh : Nat → Int32) (kl : Nat → Int32) (kh : Nat → Int32) (mn : Nat → Int64) (vc : Nat → Int64) (iv : Nat → Nat → Int64) (sc : Int64) (p0 : Int32) (hst : l.stackTraces = false) (hN : N ≤ 5) : xL l D K yX0_highDenominator wsX0_highDenominator 6 97 1 6 [.ref (a 0), .int p0] (w0 K a (N, M, S, rl, rh, bl, bh, kl, kh, mn, vc, iv, sc)) (fun r u => kHul N M p0 = 0 ∧ r = redC (absL (detM M N)) (hul (ivF M N (ix p0)) rh rl N) ∧ ∃ mn1 iv1 sc1, u = (N, M, S, rl, rh, bl, bh, kl, kh, mn1, vc, iv1, sc1)) (fun E u => ((kHul N M p0 = 1 ∧ E = "java/lang/IndexOutOfBoundsException") ∨ (kHul N M p0 = 2 ∧ E = "java/lang/ArithmeticException")) ∧ ∃ mn1 iv1 sc1, u = (N, M, S, rl, rh, bl, bh, kl, kh, mn1, vc, iv1, sc1)) (w0 K a) := by
  have hinX0 : ∀ w ∈ wsX00, w ∈ wsX0_highDenominator := by decide +kernel
  have lk0 : Cond.fieldLink RX0 131 "IntervalSolver" "scale" "J" ∈ wsX0_highDenominator := by decide +kernel
  have lk1 : Cond.classLink RX0 104 "java/lang/ArithmeticException" ∈ wsX0_highDenominator := by decide +kernel
  have lk2 : Cond.initialized "java/lang/ArithmeticException" ∈ wsX0_highDenominator := by decide +kernel
  have lk3 : Cond.classLink RX0 67 "java/lang/IndexOutOfBoundsException" ∈ wsX0_highDenominator := by decide +kernel
  have lk4 : Cond.initialized "java/lang/IndexOutOfBoundsException" ∈ wsX0_highDenominator := by decide +kernel
  refine x_met_l (cc := cX0_highDenominator) (maxL := 2) (lv := [(0, .ref (a 0)), (1, .int p0)]) hst (by decide +kernel) rfl rfl (Nat.le_of_ble_eq_true rfl) rfl ?_
  intro p e s m below meth c args Q A C hend hthr
  refine z_aload_n C dX0_highDenominator_0 0 rfl ?_
  refine z_iload_n C dX0_highDenominator_1 1 rfl ?_
  refine z_callVi_all (As := [.int p0]) C (c0_isIndex l D K a N M S rl rh bl bh kl kh mn vc iv sc p0) (cwV 1 C.1.2.2.2.2 gX0_highDenominator_X0_isIndex rfl rfl rfl (by decide +kernel) ⟨Nat.le_of_ble_eq_true rfl, Nat.le_of_ble_eq_true rfl⟩) (ci := 2) rfl rfl 0 rfl dX0_highDenominator_2 rfl rfl (Nat.le_of_ble_eq_true rfl) ⟨Nat.le_of_ble_eq_true rfl, Nat.le_of_ble_eq_true rfl⟩ (fun r1 u1 h1 => ?_)
  obtain ⟨rfl, rfl⟩ := h1
  refine z_if_ne (tgt := 18) C dX0_highDenominator_5 (by decide) (fun c5 => ?_) (fun c5 => ?_)
  · have q5 : ixP N p0 := zi1.mp c5
    obtain ⟨i_p0, l_p0⟩ := ixP_at hN q5
    refine z_aload_n C dX0_highDenominator_18 0 rfl ?_
    refine z_callVi_all (As := []) C (c0_invert l D K a N M S rl rh bl bh kl kh mn vc iv sc (by omega)) (cwV 0 C.1.2.2.2.2 gX0_highDenominator_X0_invert rfl rfl rfl (by decide +kernel) ⟨Nat.le_of_ble_eq_true rfl, Nat.le_of_ble_eq_true rfl⟩) (ci := 2) rfl rfl 0 rfl dX0_highDenominator_19 rfl rfl (Nat.le_of_ble_eq_true rfl) ⟨Nat.le_of_ble_eq_true rfl, Nat.le_of_ble_eq_true rfl⟩ (fun r2 u2 h2 => ?_)
    obtain ⟨mn_2, iv_2, sc_2, rfl, hr_2, hvv⟩ := inv_out h2
    subst hr_2
    refine z_if_ne (tgt := 35) C dX0_highDenominator_22 (by decide) (fun c22 => ?_) (fun c22 => ?_)
    · have q22 : ¬ detM M N = 0 := zi1.mp c22
      have hd := q22
      obtain ⟨hiv, hsc⟩ := hvv hd
      refine z_aload_n C dX0_highDenominator_35 0 rfl ?_
      refine z_get (cl := vwCl) (T := TX0) (N := 13) (ci := 2) (ref := "IntervalSolver") C hinX0 rfl 12 (by decide) lk0 rfl dX0_highDenominator_36 0 rfl rfl ?_
      refine z_aload_n C dX0_highDenominator_39 0 rfl ?_
      refine z_iload_n C dX0_highDenominator_40 1 rfl ?_
      refine z_topi (nI (ix p0)) i_p0 ?_
      refine z_callVl_all (As := [.int (nI (ix p0))]) C (c0_scaledHullHigh l D K a N M S rl rh bl bh kl kh mn_2 vc iv_2 sc_2 (ix p0) (by omega) (by omega)) (cwV 1 C.1.2.2.2.2 gX0_highDenominator_X0_scaledHullHigh rfl rfl rfl (by decide +kernel) ⟨Nat.le_of_ble_eq_true rfl, Nat.le_of_ble_eq_true rfl⟩) (ci := 2) rfl rfl 0 rfl dX0_highDenominator_41 rfl rfl (Nat.le_of_ble_eq_true rfl) ⟨Nat.le_of_ble_eq_true rfl, Nat.le_of_ble_eq_true rfl⟩ (fun r3 u3 h3 => ?_)
      obtain ⟨rfl, rfl⟩ := h3
      refine z_callSl_none (As := [.long sc_2, .long (hul (iv_2 (ix p0)) rh rl N)]) C (c0_reduced l D K sc_2 (hul (iv_2 (ix p0)) rh rl N)) (va_cwS 2 C.1.2.2.2.2 gX0_highDenominator_X0_reduced rfl rfl rfl (by decide +kernel) ⟨Nat.le_of_ble_eq_true rfl, Nat.le_of_ble_eq_true rfl⟩) dX0_highDenominator_44 rfl rfl (Nat.le_of_ble_eq_true rfl) ⟨Nat.le_of_ble_eq_true rfl, Nat.le_of_ble_eq_true rfl⟩ (fun r4 u4 h4 => ?_)
      have g4 : r4 = redC sc_2 (hul (iv_2 (ix p0)) rh rl N) := h4
      rw [g4]
      exact hend _ _ _ _ _ (N, M, S, rl, rh, bl, bh, kl, kh, mn_2, vc, iv_2, sc_2) dX0_highDenominator_47 (by omega) (by omega) ⟨by unfold kHul; rw [if_pos q5, if_neg hd], by rw [hul_congr (fun j hj => hiv (ix p0) j (by omega) hj), hsc], _, _, _, rfl⟩
    · have q22 : ¬ (¬ detM M N = 0) := zi0.mp c22
      have hd0 := Decidable.of_not_not q22
      exact hthr _ _ _ _ 104 125 108 "java/lang/ArithmeticException" "the determinant is 0" (N, M, S, rl, rh, bl, bh, kl, kh, mn_2, vc, iv_2, sc_2) lk1 lk2 (by decide +kernel) (fun w hw => List.mem_cons_of_mem _ (List.mem_append_left _ (List.mem_append_left _ (List.mem_append_right _ hw)))) (by decide +kernel) dX0_highDenominator_25 dX0_highDenominator_28 dX0_highDenominator_29 dX0_highDenominator_31 dX0_highDenominator_34 ⟨Nat.le_of_ble_eq_true rfl, Nat.le_of_ble_eq_true rfl, Nat.le_of_ble_eq_true rfl, Nat.le_of_ble_eq_true rfl⟩ (Nat.le_of_ble_eq_true rfl) (Nat.le_of_ble_eq_true rfl) ⟨Or.inr (⟨by unfold kHul; rw [if_pos q5, if_pos hd0], rfl⟩), _, _, _, rfl⟩
  · have q5 : ¬ (ixP N p0) := zi0.mp c5
    exact hthr _ _ _ _ 67 119 71 "java/lang/IndexOutOfBoundsException" "no such component" (N, M, S, rl, rh, bl, bh, kl, kh, mn, vc, iv, sc) lk3 lk4 (by decide +kernel) (fun w hw => List.mem_cons_of_mem _ (List.mem_append_left _ (List.mem_append_left _ (List.mem_append_left _ (List.mem_append_right _ hw))))) (by decide +kernel) dX0_highDenominator_8 dX0_highDenominator_11 dX0_highDenominator_12 dX0_highDenominator_14 dX0_highDenominator_17 ⟨Nat.le_of_ble_eq_true rfl, Nat.le_of_ble_eq_true rfl, Nat.le_of_ble_eq_true rfl, Nat.le_of_ble_eq_true rfl⟩ (Nat.le_of_ble_eq_true rfl) (Nat.le_of_ble_eq_true rfl) ⟨Or.inl (⟨if_neg q5, rfl⟩), _, _, _, rfl⟩

set_option maxRecDepth 100000 in
set_option maxHeartbeats 4000000 in
theorem c0_inverseNumerator (l : Launch) (D : va_G) (K : Nat → ClassId) (a : Nat → Nat) (N : Nat) (M : Nat → Nat → Int32) (S : Nat → Nat → Int32) (rl : Nat → Int32) (rh : Nat → Int32) (bl : Nat → Int32) (bh : Nat → Int32) (kl : Nat → Int32) (kh : Nat → Int32) (mn : Nat → Int64) (vc : Nat → Int64) (iv : Nat → Nat → Int64) (sc : Int64) (p0 : Int32) (p1 : Int32) (hst : l.stackTraces = false) (hN : N ≤ 5) : xL l D K yX0_inverseNumerator wsX0_inverseNumerator 6 97 1 6 [.ref (a 0), .int p0, .int p1] (w0 K a (N, M, S, rl, rh, bl, bh, kl, kh, mn, vc, iv, sc)) (fun r u => kHul2 N M p0 p1 = 0 ∧ r = redC (ivF M N (ix p0) (ix p1)) (absL (detM M N)) ∧ ∃ mn1 iv1 sc1, u = (N, M, S, rl, rh, bl, bh, kl, kh, mn1, vc, iv1, sc1)) (fun E u => ((kHul2 N M p0 p1 = 1 ∧ E = "java/lang/IndexOutOfBoundsException") ∨ (kHul2 N M p0 p1 = 2 ∧ E = "java/lang/ArithmeticException")) ∧ ∃ mn1 iv1 sc1, u = (N, M, S, rl, rh, bl, bh, kl, kh, mn1, vc, iv1, sc1)) (w0 K a) := by
  have hinX0 : ∀ w ∈ wsX00, w ∈ wsX0_inverseNumerator := by decide +kernel
  have lk0 : Cond.classLink RX0 67 "java/lang/IndexOutOfBoundsException" ∈ wsX0_inverseNumerator := by decide +kernel
  have lk1 : Cond.initialized "java/lang/IndexOutOfBoundsException" ∈ wsX0_inverseNumerator := by decide +kernel
  have lk2 : Cond.fieldLink RX0 45 "IntervalSolver" "scaledInverse" "[[J" ∈ wsX0_inverseNumerator := by decide +kernel
  have lk3 : Cond.fieldLink RX0 131 "IntervalSolver" "scale" "J" ∈ wsX0_inverseNumerator := by decide +kernel
  have lk4 : Cond.classLink RX0 104 "java/lang/ArithmeticException" ∈ wsX0_inverseNumerator := by decide +kernel
  have lk5 : Cond.initialized "java/lang/ArithmeticException" ∈ wsX0_inverseNumerator := by decide +kernel
  refine x_met_l (cc := cX0_inverseNumerator) (maxL := 3) (lv := [(0, .ref (a 0)), (1, .int p0), (2, .int p1)]) hst (by decide +kernel) rfl rfl (Nat.le_of_ble_eq_true rfl) rfl ?_
  intro p e s m below meth c args Q A C hend hthr
  refine z_aload_n C dX0_inverseNumerator_0 0 rfl ?_
  refine z_iload_n C dX0_inverseNumerator_1 1 rfl ?_
  refine z_callVi_all (As := [.int p0]) C (c0_isIndex l D K a N M S rl rh bl bh kl kh mn vc iv sc p0) (cwV 1 C.1.2.2.2.2 gX0_inverseNumerator_X0_isIndex rfl rfl rfl (by decide +kernel) ⟨Nat.le_of_ble_eq_true rfl, Nat.le_of_ble_eq_true rfl⟩) (ci := 2) rfl rfl 0 rfl dX0_inverseNumerator_2 rfl rfl (Nat.le_of_ble_eq_true rfl) ⟨Nat.le_of_ble_eq_true rfl, Nat.le_of_ble_eq_true rfl⟩ (fun r1 u1 h1 => ?_)
  obtain ⟨rfl, rfl⟩ := h1
  refine z_if_eq (tgt := 16) C dX0_inverseNumerator_5 (by decide) (fun c5 => ?_) (fun c5 => ?_)
  · have q5 : ¬ (ixP N p0) := zi0.mp c5
    exact hthr _ _ _ _ 67 69 71 "java/lang/IndexOutOfBoundsException" "no such row or column" (N, M, S, rl, rh, bl, bh, kl, kh, mn, vc, iv, sc) lk0 lk1 (by decide +kernel) (fun w hw => List.mem_cons_of_mem _ (List.mem_append_left _ (List.mem_append_left _ (List.mem_append_left _ (List.mem_append_right _ hw))))) (by decide +kernel) dX0_inverseNumerator_16 dX0_inverseNumerator_19 dX0_inverseNumerator_20 dX0_inverseNumerator_22 dX0_inverseNumerator_25 ⟨Nat.le_of_ble_eq_true rfl, Nat.le_of_ble_eq_true rfl, Nat.le_of_ble_eq_true rfl, Nat.le_of_ble_eq_true rfl⟩ (Nat.le_of_ble_eq_true rfl) (Nat.le_of_ble_eq_true rfl) ⟨Or.inl (⟨if_neg (by rintro ⟨h1, h2⟩; first | exact q5 h1 | exact q13 h2), rfl⟩), _, _, _, rfl⟩
  · have q5 : ixP N p0 := zi1.mp c5
    obtain ⟨i_p0, l_p0⟩ := ixP_at hN q5
    refine z_aload_n C dX0_inverseNumerator_8 0 rfl ?_
    refine z_iload_n C dX0_inverseNumerator_9 2 rfl ?_
    refine z_callVi_all (As := [.int p1]) C (c0_isIndex l D K a N M S rl rh bl bh kl kh mn vc iv sc p1) (cwV 1 C.1.2.2.2.2 gX0_inverseNumerator_X0_isIndex rfl rfl rfl (by decide +kernel) ⟨Nat.le_of_ble_eq_true rfl, Nat.le_of_ble_eq_true rfl⟩) (ci := 2) rfl rfl 0 rfl dX0_inverseNumerator_10 rfl rfl (Nat.le_of_ble_eq_true rfl) ⟨Nat.le_of_ble_eq_true rfl, Nat.le_of_ble_eq_true rfl⟩ (fun r2 u2 h2 => ?_)
    obtain ⟨rfl, rfl⟩ := h2
    refine z_if_ne (tgt := 26) C dX0_inverseNumerator_13 (by decide) (fun c13 => ?_) (fun c13 => ?_)
    · have q13 : ixP N p1 := zi1.mp c13
      obtain ⟨i_p1, l_p1⟩ := ixP_at hN q13
      refine z_aload_n C dX0_inverseNumerator_26 0 rfl ?_
      refine z_callVi_all (As := []) C (c0_invert l D K a N M S rl rh bl bh kl kh mn vc iv sc (by omega)) (cwV 0 C.1.2.2.2.2 gX0_inverseNumerator_X0_invert rfl rfl rfl (by decide +kernel) ⟨Nat.le_of_ble_eq_true rfl, Nat.le_of_ble_eq_true rfl⟩) (ci := 2) rfl rfl 0 rfl dX0_inverseNumerator_27 rfl rfl (Nat.le_of_ble_eq_true rfl) ⟨Nat.le_of_ble_eq_true rfl, Nat.le_of_ble_eq_true rfl⟩ (fun r3 u3 h3 => ?_)
      obtain ⟨mn_3, iv_3, sc_3, rfl, hr_3, hvv⟩ := inv_out h3
      subst hr_3
      refine z_if_ne (tgt := 43) C dX0_inverseNumerator_30 (by decide) (fun c30 => ?_) (fun c30 => ?_)
      · have q30 : ¬ detM M N = 0 := zi1.mp c30
        have hd := q30
        obtain ⟨hiv, hsc⟩ := hvv hd
        refine z_aload_n C dX0_inverseNumerator_43 0 rfl ?_
        refine z_get (cl := vwCl) (T := TX0) (N := 13) (ci := 2) (ref := "IntervalSolver") C hinX0 rfl 11 (by decide) lk2 rfl dX0_inverseNumerator_44 0 rfl rfl ?_
        refine z_iload_n C dX0_inverseNumerator_47 1 rfl ?_
        refine z_aald (y := a (22 + (ix p0))) C 3 rfl 11 rfl dX0_inverseNumerator_48 (ix p0) i_p0 (by omega) (by decide) (if_pos (by omega)) ?_
        refine z_iload_n C dX0_inverseNumerator_49 2 rfl ?_
        refine z_lald C 1 rfl (22 + (ix p0)) (w0_atV (by omega)) dX0_inverseNumerator_50 (ix p1) i_p1 (by omega) (by decide) ?_
        refine z_aload_n C dX0_inverseNumerator_51 0 rfl ?_
        refine z_get (cl := vwCl) (T := TX0) (N := 13) (ci := 2) (ref := "IntervalSolver") C hinX0 rfl 12 (by decide) lk3 rfl dX0_inverseNumerator_52 0 rfl rfl ?_
        refine z_callSl_none (As := [.long (iv_3 (ix p0) (ix p1)), .long sc_3]) C (c0_reduced l D K (iv_3 (ix p0) (ix p1)) sc_3) (va_cwS 2 C.1.2.2.2.2 gX0_inverseNumerator_X0_reduced rfl rfl rfl (by decide +kernel) ⟨Nat.le_of_ble_eq_true rfl, Nat.le_of_ble_eq_true rfl⟩) dX0_inverseNumerator_55 rfl rfl (Nat.le_of_ble_eq_true rfl) ⟨Nat.le_of_ble_eq_true rfl, Nat.le_of_ble_eq_true rfl⟩ (fun r4 u4 h4 => ?_)
        have g4 : r4 = redC (iv_3 (ix p0) (ix p1)) sc_3 := h4
        rw [g4]
        exact hend _ _ _ _ _ (N, M, S, rl, rh, bl, bh, kl, kh, mn_3, vc, iv_3, sc_3) dX0_inverseNumerator_58 (by omega) (by omega) ⟨by unfold kHul2; rw [if_pos ⟨q5, q13⟩, if_neg hd], by rw [hiv (ix p0) (ix p1) (by omega) (by omega), hsc], _, _, _, rfl⟩
      · have q30 : ¬ (¬ detM M N = 0) := zi0.mp c30
        have hd0 := Decidable.of_not_not q30
        exact hthr _ _ _ _ 104 125 108 "java/lang/ArithmeticException" "the determinant is 0" (N, M, S, rl, rh, bl, bh, kl, kh, mn_3, vc, iv_3, sc_3) lk4 lk5 (by decide +kernel) (fun w hw => List.mem_cons_of_mem _ (List.mem_append_left _ (List.mem_append_left _ (List.mem_append_right _ hw)))) (by decide +kernel) dX0_inverseNumerator_33 dX0_inverseNumerator_36 dX0_inverseNumerator_37 dX0_inverseNumerator_39 dX0_inverseNumerator_42 ⟨Nat.le_of_ble_eq_true rfl, Nat.le_of_ble_eq_true rfl, Nat.le_of_ble_eq_true rfl, Nat.le_of_ble_eq_true rfl⟩ (Nat.le_of_ble_eq_true rfl) (Nat.le_of_ble_eq_true rfl) ⟨Or.inr (⟨by unfold kHul2; rw [if_pos ⟨q5, q13⟩, if_pos hd0], rfl⟩), _, _, _, rfl⟩
    · have q13 : ¬ (ixP N p1) := zi0.mp c13
      exact hthr _ _ _ _ 67 69 71 "java/lang/IndexOutOfBoundsException" "no such row or column" (N, M, S, rl, rh, bl, bh, kl, kh, mn, vc, iv, sc) lk0 lk1 (by decide +kernel) (fun w hw => List.mem_cons_of_mem _ (List.mem_append_left _ (List.mem_append_left _ (List.mem_append_left _ (List.mem_append_right _ hw))))) (by decide +kernel) dX0_inverseNumerator_16 dX0_inverseNumerator_19 dX0_inverseNumerator_20 dX0_inverseNumerator_22 dX0_inverseNumerator_25 ⟨Nat.le_of_ble_eq_true rfl, Nat.le_of_ble_eq_true rfl, Nat.le_of_ble_eq_true rfl, Nat.le_of_ble_eq_true rfl⟩ (Nat.le_of_ble_eq_true rfl) (Nat.le_of_ble_eq_true rfl) ⟨Or.inl (⟨if_neg (by rintro ⟨h1, h2⟩; first | exact q5 h1 | exact q13 h2), rfl⟩), _, _, _, rfl⟩

set_option maxRecDepth 100000 in
set_option maxHeartbeats 4000000 in
theorem c0_inverseDenominator (l : Launch) (D : va_G) (K : Nat → ClassId) (a : Nat → Nat) (N : Nat) (M : Nat → Nat → Int32) (S : Nat → Nat → Int32) (rl : Nat → Int32) (rh : Nat → Int32) (bl : Nat → Int32) (bh : Nat → Int32) (kl : Nat → Int32) (kh : Nat → Int32) (mn : Nat → Int64) (vc : Nat → Int64) (iv : Nat → Nat → Int64) (sc : Int64) (p0 : Int32) (p1 : Int32) (hst : l.stackTraces = false) (hN : N ≤ 5) : xL l D K yX0_inverseDenominator wsX0_inverseDenominator 6 97 1 6 [.ref (a 0), .int p0, .int p1] (w0 K a (N, M, S, rl, rh, bl, bh, kl, kh, mn, vc, iv, sc)) (fun r u => kHul2 N M p0 p1 = 0 ∧ r = redC (absL (detM M N)) (ivF M N (ix p0) (ix p1)) ∧ ∃ mn1 iv1 sc1, u = (N, M, S, rl, rh, bl, bh, kl, kh, mn1, vc, iv1, sc1)) (fun E u => ((kHul2 N M p0 p1 = 1 ∧ E = "java/lang/IndexOutOfBoundsException") ∨ (kHul2 N M p0 p1 = 2 ∧ E = "java/lang/ArithmeticException")) ∧ ∃ mn1 iv1 sc1, u = (N, M, S, rl, rh, bl, bh, kl, kh, mn1, vc, iv1, sc1)) (w0 K a) := by
  have hinX0 : ∀ w ∈ wsX00, w ∈ wsX0_inverseDenominator := by decide +kernel
  have lk0 : Cond.classLink RX0 67 "java/lang/IndexOutOfBoundsException" ∈ wsX0_inverseDenominator := by decide +kernel
  have lk1 : Cond.initialized "java/lang/IndexOutOfBoundsException" ∈ wsX0_inverseDenominator := by decide +kernel
  have lk2 : Cond.fieldLink RX0 131 "IntervalSolver" "scale" "J" ∈ wsX0_inverseDenominator := by decide +kernel
  have lk3 : Cond.fieldLink RX0 45 "IntervalSolver" "scaledInverse" "[[J" ∈ wsX0_inverseDenominator := by decide +kernel
  have lk4 : Cond.classLink RX0 104 "java/lang/ArithmeticException" ∈ wsX0_inverseDenominator := by decide +kernel
  have lk5 : Cond.initialized "java/lang/ArithmeticException" ∈ wsX0_inverseDenominator := by decide +kernel
  refine x_met_l (cc := cX0_inverseDenominator) (maxL := 3) (lv := [(0, .ref (a 0)), (1, .int p0), (2, .int p1)]) hst (by decide +kernel) rfl rfl (Nat.le_of_ble_eq_true rfl) rfl ?_
  intro p e s m below meth c args Q A C hend hthr
  refine z_aload_n C dX0_inverseDenominator_0 0 rfl ?_
  refine z_iload_n C dX0_inverseDenominator_1 1 rfl ?_
  refine z_callVi_all (As := [.int p0]) C (c0_isIndex l D K a N M S rl rh bl bh kl kh mn vc iv sc p0) (cwV 1 C.1.2.2.2.2 gX0_inverseDenominator_X0_isIndex rfl rfl rfl (by decide +kernel) ⟨Nat.le_of_ble_eq_true rfl, Nat.le_of_ble_eq_true rfl⟩) (ci := 2) rfl rfl 0 rfl dX0_inverseDenominator_2 rfl rfl (Nat.le_of_ble_eq_true rfl) ⟨Nat.le_of_ble_eq_true rfl, Nat.le_of_ble_eq_true rfl⟩ (fun r1 u1 h1 => ?_)
  obtain ⟨rfl, rfl⟩ := h1
  refine z_if_eq (tgt := 16) C dX0_inverseDenominator_5 (by decide) (fun c5 => ?_) (fun c5 => ?_)
  · have q5 : ¬ (ixP N p0) := zi0.mp c5
    exact hthr _ _ _ _ 67 69 71 "java/lang/IndexOutOfBoundsException" "no such row or column" (N, M, S, rl, rh, bl, bh, kl, kh, mn, vc, iv, sc) lk0 lk1 (by decide +kernel) (fun w hw => List.mem_cons_of_mem _ (List.mem_append_left _ (List.mem_append_left _ (List.mem_append_left _ (List.mem_append_right _ hw))))) (by decide +kernel) dX0_inverseDenominator_16 dX0_inverseDenominator_19 dX0_inverseDenominator_20 dX0_inverseDenominator_22 dX0_inverseDenominator_25 ⟨Nat.le_of_ble_eq_true rfl, Nat.le_of_ble_eq_true rfl, Nat.le_of_ble_eq_true rfl, Nat.le_of_ble_eq_true rfl⟩ (Nat.le_of_ble_eq_true rfl) (Nat.le_of_ble_eq_true rfl) ⟨Or.inl (⟨if_neg (by rintro ⟨h1, h2⟩; first | exact q5 h1 | exact q13 h2), rfl⟩), _, _, _, rfl⟩
  · have q5 : ixP N p0 := zi1.mp c5
    obtain ⟨i_p0, l_p0⟩ := ixP_at hN q5
    refine z_aload_n C dX0_inverseDenominator_8 0 rfl ?_
    refine z_iload_n C dX0_inverseDenominator_9 2 rfl ?_
    refine z_callVi_all (As := [.int p1]) C (c0_isIndex l D K a N M S rl rh bl bh kl kh mn vc iv sc p1) (cwV 1 C.1.2.2.2.2 gX0_inverseDenominator_X0_isIndex rfl rfl rfl (by decide +kernel) ⟨Nat.le_of_ble_eq_true rfl, Nat.le_of_ble_eq_true rfl⟩) (ci := 2) rfl rfl 0 rfl dX0_inverseDenominator_10 rfl rfl (Nat.le_of_ble_eq_true rfl) ⟨Nat.le_of_ble_eq_true rfl, Nat.le_of_ble_eq_true rfl⟩ (fun r2 u2 h2 => ?_)
    obtain ⟨rfl, rfl⟩ := h2
    refine z_if_ne (tgt := 26) C dX0_inverseDenominator_13 (by decide) (fun c13 => ?_) (fun c13 => ?_)
    · have q13 : ixP N p1 := zi1.mp c13
      obtain ⟨i_p1, l_p1⟩ := ixP_at hN q13
      refine z_aload_n C dX0_inverseDenominator_26 0 rfl ?_
      refine z_callVi_all (As := []) C (c0_invert l D K a N M S rl rh bl bh kl kh mn vc iv sc (by omega)) (cwV 0 C.1.2.2.2.2 gX0_inverseDenominator_X0_invert rfl rfl rfl (by decide +kernel) ⟨Nat.le_of_ble_eq_true rfl, Nat.le_of_ble_eq_true rfl⟩) (ci := 2) rfl rfl 0 rfl dX0_inverseDenominator_27 rfl rfl (Nat.le_of_ble_eq_true rfl) ⟨Nat.le_of_ble_eq_true rfl, Nat.le_of_ble_eq_true rfl⟩ (fun r3 u3 h3 => ?_)
      obtain ⟨mn_3, iv_3, sc_3, rfl, hr_3, hvv⟩ := inv_out h3
      subst hr_3
      refine z_if_ne (tgt := 43) C dX0_inverseDenominator_30 (by decide) (fun c30 => ?_) (fun c30 => ?_)
      · have q30 : ¬ detM M N = 0 := zi1.mp c30
        have hd := q30
        obtain ⟨hiv, hsc⟩ := hvv hd
        refine z_aload_n C dX0_inverseDenominator_43 0 rfl ?_
        refine z_get (cl := vwCl) (T := TX0) (N := 13) (ci := 2) (ref := "IntervalSolver") C hinX0 rfl 12 (by decide) lk2 rfl dX0_inverseDenominator_44 0 rfl rfl ?_
        refine z_aload_n C dX0_inverseDenominator_47 0 rfl ?_
        refine z_get (cl := vwCl) (T := TX0) (N := 13) (ci := 2) (ref := "IntervalSolver") C hinX0 rfl 11 (by decide) lk3 rfl dX0_inverseDenominator_48 0 rfl rfl ?_
        refine z_iload_n C dX0_inverseDenominator_51 1 rfl ?_
        refine z_aald (y := a (22 + (ix p0))) C 3 rfl 11 rfl dX0_inverseDenominator_52 (ix p0) i_p0 (by omega) (by decide) (if_pos (by omega)) ?_
        refine z_iload_n C dX0_inverseDenominator_53 2 rfl ?_
        refine z_lald C 1 rfl (22 + (ix p0)) (w0_atV (by omega)) dX0_inverseDenominator_54 (ix p1) i_p1 (by omega) (by decide) ?_
        refine z_callSl_none (As := [.long sc_3, .long (iv_3 (ix p0) (ix p1))]) C (c0_reduced l D K sc_3 (iv_3 (ix p0) (ix p1))) (va_cwS 2 C.1.2.2.2.2 gX0_inverseDenominator_X0_reduced rfl rfl rfl (by decide +kernel) ⟨Nat.le_of_ble_eq_true rfl, Nat.le_of_ble_eq_true rfl⟩) dX0_inverseDenominator_55 rfl rfl (Nat.le_of_ble_eq_true rfl) ⟨Nat.le_of_ble_eq_true rfl, Nat.le_of_ble_eq_true rfl⟩ (fun r4 u4 h4 => ?_)
        have g4 : r4 = redC sc_3 (iv_3 (ix p0) (ix p1)) := h4
        rw [g4]
        exact hend _ _ _ _ _ (N, M, S, rl, rh, bl, bh, kl, kh, mn_3, vc, iv_3, sc_3) dX0_inverseDenominator_58 (by omega) (by omega) ⟨by unfold kHul2; rw [if_pos ⟨q5, q13⟩, if_neg hd], by rw [hiv (ix p0) (ix p1) (by omega) (by omega), hsc], _, _, _, rfl⟩
      · have q30 : ¬ (¬ detM M N = 0) := zi0.mp c30
        have hd0 := Decidable.of_not_not q30
        exact hthr _ _ _ _ 104 125 108 "java/lang/ArithmeticException" "the determinant is 0" (N, M, S, rl, rh, bl, bh, kl, kh, mn_3, vc, iv_3, sc_3) lk4 lk5 (by decide +kernel) (fun w hw => List.mem_cons_of_mem _ (List.mem_append_left _ (List.mem_append_left _ (List.mem_append_right _ hw)))) (by decide +kernel) dX0_inverseDenominator_33 dX0_inverseDenominator_36 dX0_inverseDenominator_37 dX0_inverseDenominator_39 dX0_inverseDenominator_42 ⟨Nat.le_of_ble_eq_true rfl, Nat.le_of_ble_eq_true rfl, Nat.le_of_ble_eq_true rfl, Nat.le_of_ble_eq_true rfl⟩ (Nat.le_of_ble_eq_true rfl) (Nat.le_of_ble_eq_true rfl) ⟨Or.inr (⟨by unfold kHul2; rw [if_pos ⟨q5, q13⟩, if_pos hd0], rfl⟩), _, _, _, rfl⟩
    · have q13 : ¬ (ixP N p1) := zi0.mp c13
      exact hthr _ _ _ _ 67 69 71 "java/lang/IndexOutOfBoundsException" "no such row or column" (N, M, S, rl, rh, bl, bh, kl, kh, mn, vc, iv, sc) lk0 lk1 (by decide +kernel) (fun w hw => List.mem_cons_of_mem _ (List.mem_append_left _ (List.mem_append_left _ (List.mem_append_left _ (List.mem_append_right _ hw))))) (by decide +kernel) dX0_inverseDenominator_16 dX0_inverseDenominator_19 dX0_inverseDenominator_20 dX0_inverseDenominator_22 dX0_inverseDenominator_25 ⟨Nat.le_of_ble_eq_true rfl, Nat.le_of_ble_eq_true rfl, Nat.le_of_ble_eq_true rfl, Nat.le_of_ble_eq_true rfl⟩ (Nat.le_of_ble_eq_true rfl) (Nat.le_of_ble_eq_true rfl) ⟨Or.inl (⟨if_neg (by rintro ⟨h1, h2⟩; first | exact q5 h1 | exact q13 h2), rfl⟩), _, _, _, rfl⟩

set_option maxRecDepth 100000 in
set_option maxHeartbeats 4000000 in
theorem c0_variationNumerator (l : Launch) (D : va_G) (K : Nat → ClassId) (a : Nat → Nat) (N : Nat) (M : Nat → Nat → Int32) (S : Nat → Nat → Int32) (rl : Nat → Int32) (rh : Nat → Int32) (bl : Nat → Int32) (bh : Nat → Int32) (kl : Nat → Int32) (kh : Nat → Int32) (mn : Nat → Int64) (vc : Nat → Int64) (iv : Nat → Nat → Int64) (sc : Int64) (hst : l.stackTraces = false) (hN : N ≤ 5) : xL l D K yX0_variationNumerator wsX0_variationNumerator 6 97 1 6 [.ref (a 0)] (w0 K a (N, M, S, rl, rh, bl, bh, kl, kh, mn, vc, iv, sc)) (fun r u => kDet N M = 0 ∧ r = redC (svI (ivF M N) S N N) (100 * (absL (detM M N))) ∧ ∃ mn1 iv1 sc1, u = (N, M, S, rl, rh, bl, bh, kl, kh, mn1, vc, iv1, sc1)) (fun E u => ((kDet N M = 1 ∧ E = "java/lang/ArithmeticException")) ∧ ∃ mn1 iv1 sc1, u = (N, M, S, rl, rh, bl, bh, kl, kh, mn1, vc, iv1, sc1)) (w0 K a) := by
  have hinX0 : ∀ w ∈ wsX00, w ∈ wsX0_variationNumerator := by decide +kernel
  have lk0 : Cond.constantLong RX0 158 (100) ∈ wsX0_variationNumerator := by decide +kernel
  have lk1 : Cond.fieldLink RX0 131 "IntervalSolver" "scale" "J" ∈ wsX0_variationNumerator := by decide +kernel
  have lk2 : Cond.classLink RX0 104 "java/lang/ArithmeticException" ∈ wsX0_variationNumerator := by decide +kernel
  have lk3 : Cond.initialized "java/lang/ArithmeticException" ∈ wsX0_variationNumerator := by decide +kernel
  refine x_met_l (cc := cX0_variationNumerator) (maxL := 1) (lv := [(0, .ref (a 0))]) hst (by decide +kernel) rfl rfl (Nat.le_of_ble_eq_true rfl) rfl ?_
  intro p e s m below meth c args Q A C hend hthr
  refine z_aload_n C dX0_variationNumerator_0 0 rfl ?_
  refine z_callVi_all (As := []) C (c0_invert l D K a N M S rl rh bl bh kl kh mn vc iv sc (by omega)) (cwV 0 C.1.2.2.2.2 gX0_variationNumerator_X0_invert rfl rfl rfl (by decide +kernel) ⟨Nat.le_of_ble_eq_true rfl, Nat.le_of_ble_eq_true rfl⟩) (ci := 2) rfl rfl 0 rfl dX0_variationNumerator_1 rfl rfl (Nat.le_of_ble_eq_true rfl) ⟨Nat.le_of_ble_eq_true rfl, Nat.le_of_ble_eq_true rfl⟩ (fun r1 u1 h1 => ?_)
  obtain ⟨mn_1, iv_1, sc_1, rfl, hr_1, hvv⟩ := inv_out h1
  subst hr_1
  refine z_if_ne (tgt := 17) C dX0_variationNumerator_4 (by decide) (fun c4 => ?_) (fun c4 => ?_)
  · have q4 : ¬ detM M N = 0 := zi1.mp c4
    have hd := q4
    obtain ⟨hiv, hsc⟩ := hvv hd
    refine z_aload_n C dX0_variationNumerator_17 0 rfl ?_
    refine z_callVl_all (As := []) C (c0_scaledVariation l D K a N M S rl rh bl bh kl kh mn_1 vc iv_1 sc_1 (by omega)) (cwV 0 C.1.2.2.2.2 gX0_variationNumerator_X0_scaledVariation rfl rfl rfl (by decide +kernel) ⟨Nat.le_of_ble_eq_true rfl, Nat.le_of_ble_eq_true rfl⟩) (ci := 2) rfl rfl 0 rfl dX0_variationNumerator_18 rfl rfl (Nat.le_of_ble_eq_true rfl) ⟨Nat.le_of_ble_eq_true rfl, Nat.le_of_ble_eq_true rfl⟩ (fun r2 u2 h2 => ?_)
    obtain ⟨rfl, rfl⟩ := h2
    refine z_ldc2 C lk0 dX0_variationNumerator_21 ?_
    refine z_aload_n C dX0_variationNumerator_24 0 rfl ?_
    refine z_get (cl := vwCl) (T := TX0) (N := 13) (ci := 2) (ref := "IntervalSolver") C hinX0 rfl 12 (by decide) lk1 rfl dX0_variationNumerator_25 0 rfl rfl ?_
    refine z_lmul C dX0_variationNumerator_28 ?_
    refine z_callSl_none (As := [.long (svI iv_1 S N N), .long (100 * sc_1)]) C (c0_reduced l D K (svI iv_1 S N N) (100 * sc_1)) (va_cwS 2 C.1.2.2.2.2 gX0_variationNumerator_X0_reduced rfl rfl rfl (by decide +kernel) ⟨Nat.le_of_ble_eq_true rfl, Nat.le_of_ble_eq_true rfl⟩) dX0_variationNumerator_29 rfl rfl (Nat.le_of_ble_eq_true rfl) ⟨Nat.le_of_ble_eq_true rfl, Nat.le_of_ble_eq_true rfl⟩ (fun r3 u3 h3 => ?_)
    have g3 : r3 = redC (svI iv_1 S N N) (100 * sc_1) := h3
    rw [g3]
    exact hend _ _ _ _ _ (N, M, S, rl, rh, bl, bh, kl, kh, mn_1, vc, iv_1, sc_1) dX0_variationNumerator_32 (by omega) (by omega) ⟨if_neg hd, by rw [svI_congr (fun i hi j hj => hiv i j hi hj), hsc], _, _, _, rfl⟩
  · have q4 : ¬ (¬ detM M N = 0) := zi0.mp c4
    have hd0 := Decidable.of_not_not q4
    exact hthr _ _ _ _ 104 125 108 "java/lang/ArithmeticException" "the determinant is 0" (N, M, S, rl, rh, bl, bh, kl, kh, mn_1, vc, iv_1, sc_1) lk2 lk3 (by decide +kernel) (fun w hw => List.mem_cons_of_mem _ (List.mem_append_left _ (List.mem_append_left _ (List.mem_append_right _ hw)))) (by decide +kernel) dX0_variationNumerator_7 dX0_variationNumerator_10 dX0_variationNumerator_11 dX0_variationNumerator_13 dX0_variationNumerator_16 ⟨Nat.le_of_ble_eq_true rfl, Nat.le_of_ble_eq_true rfl, Nat.le_of_ble_eq_true rfl, Nat.le_of_ble_eq_true rfl⟩ (Nat.le_of_ble_eq_true rfl) (Nat.le_of_ble_eq_true rfl) ⟨⟨if_pos hd0, rfl⟩, _, _, _, rfl⟩

set_option maxRecDepth 100000 in
set_option maxHeartbeats 4000000 in
theorem c0_variationDenominator (l : Launch) (D : va_G) (K : Nat → ClassId) (a : Nat → Nat) (N : Nat) (M : Nat → Nat → Int32) (S : Nat → Nat → Int32) (rl : Nat → Int32) (rh : Nat → Int32) (bl : Nat → Int32) (bh : Nat → Int32) (kl : Nat → Int32) (kh : Nat → Int32) (mn : Nat → Int64) (vc : Nat → Int64) (iv : Nat → Nat → Int64) (sc : Int64) (hst : l.stackTraces = false) (hN : N ≤ 5) : xL l D K yX0_variationDenominator wsX0_variationDenominator 6 97 1 6 [.ref (a 0)] (w0 K a (N, M, S, rl, rh, bl, bh, kl, kh, mn, vc, iv, sc)) (fun r u => kDet N M = 0 ∧ r = redC (100 * (absL (detM M N))) (svI (ivF M N) S N N) ∧ ∃ mn1 iv1 sc1, u = (N, M, S, rl, rh, bl, bh, kl, kh, mn1, vc, iv1, sc1)) (fun E u => ((kDet N M = 1 ∧ E = "java/lang/ArithmeticException")) ∧ ∃ mn1 iv1 sc1, u = (N, M, S, rl, rh, bl, bh, kl, kh, mn1, vc, iv1, sc1)) (w0 K a) := by
  have hinX0 : ∀ w ∈ wsX00, w ∈ wsX0_variationDenominator := by decide +kernel
  have lk0 : Cond.constantLong RX0 158 (100) ∈ wsX0_variationDenominator := by decide +kernel
  have lk1 : Cond.fieldLink RX0 131 "IntervalSolver" "scale" "J" ∈ wsX0_variationDenominator := by decide +kernel
  have lk2 : Cond.classLink RX0 104 "java/lang/ArithmeticException" ∈ wsX0_variationDenominator := by decide +kernel
  have lk3 : Cond.initialized "java/lang/ArithmeticException" ∈ wsX0_variationDenominator := by decide +kernel
  refine x_met_l (cc := cX0_variationDenominator) (maxL := 1) (lv := [(0, .ref (a 0))]) hst (by decide +kernel) rfl rfl (Nat.le_of_ble_eq_true rfl) rfl ?_
  intro p e s m below meth c args Q A C hend hthr
  refine z_aload_n C dX0_variationDenominator_0 0 rfl ?_
  refine z_callVi_all (As := []) C (c0_invert l D K a N M S rl rh bl bh kl kh mn vc iv sc (by omega)) (cwV 0 C.1.2.2.2.2 gX0_variationDenominator_X0_invert rfl rfl rfl (by decide +kernel) ⟨Nat.le_of_ble_eq_true rfl, Nat.le_of_ble_eq_true rfl⟩) (ci := 2) rfl rfl 0 rfl dX0_variationDenominator_1 rfl rfl (Nat.le_of_ble_eq_true rfl) ⟨Nat.le_of_ble_eq_true rfl, Nat.le_of_ble_eq_true rfl⟩ (fun r1 u1 h1 => ?_)
  obtain ⟨mn_1, iv_1, sc_1, rfl, hr_1, hvv⟩ := inv_out h1
  subst hr_1
  refine z_if_ne (tgt := 17) C dX0_variationDenominator_4 (by decide) (fun c4 => ?_) (fun c4 => ?_)
  · have q4 : ¬ detM M N = 0 := zi1.mp c4
    have hd := q4
    obtain ⟨hiv, hsc⟩ := hvv hd
    refine z_ldc2 C lk0 dX0_variationDenominator_17 ?_
    refine z_aload_n C dX0_variationDenominator_20 0 rfl ?_
    refine z_get (cl := vwCl) (T := TX0) (N := 13) (ci := 2) (ref := "IntervalSolver") C hinX0 rfl 12 (by decide) lk1 rfl dX0_variationDenominator_21 0 rfl rfl ?_
    refine z_lmul C dX0_variationDenominator_24 ?_
    refine z_aload_n C dX0_variationDenominator_25 0 rfl ?_
    refine z_callVl_all (As := []) C (c0_scaledVariation l D K a N M S rl rh bl bh kl kh mn_1 vc iv_1 sc_1 (by omega)) (cwV 0 C.1.2.2.2.2 gX0_variationDenominator_X0_scaledVariation rfl rfl rfl (by decide +kernel) ⟨Nat.le_of_ble_eq_true rfl, Nat.le_of_ble_eq_true rfl⟩) (ci := 2) rfl rfl 0 rfl dX0_variationDenominator_26 rfl rfl (Nat.le_of_ble_eq_true rfl) ⟨Nat.le_of_ble_eq_true rfl, Nat.le_of_ble_eq_true rfl⟩ (fun r2 u2 h2 => ?_)
    obtain ⟨rfl, rfl⟩ := h2
    refine z_callSl_none (As := [.long (100 * sc_1), .long (svI iv_1 S N N)]) C (c0_reduced l D K (100 * sc_1) (svI iv_1 S N N)) (va_cwS 2 C.1.2.2.2.2 gX0_variationDenominator_X0_reduced rfl rfl rfl (by decide +kernel) ⟨Nat.le_of_ble_eq_true rfl, Nat.le_of_ble_eq_true rfl⟩) dX0_variationDenominator_29 rfl rfl (Nat.le_of_ble_eq_true rfl) ⟨Nat.le_of_ble_eq_true rfl, Nat.le_of_ble_eq_true rfl⟩ (fun r3 u3 h3 => ?_)
    have g3 : r3 = redC (100 * sc_1) (svI iv_1 S N N) := h3
    rw [g3]
    exact hend _ _ _ _ _ (N, M, S, rl, rh, bl, bh, kl, kh, mn_1, vc, iv_1, sc_1) dX0_variationDenominator_32 (by omega) (by omega) ⟨if_neg hd, by rw [svI_congr (fun i hi j hj => hiv i j hi hj), hsc], _, _, _, rfl⟩
  · have q4 : ¬ (¬ detM M N = 0) := zi0.mp c4
    have hd0 := Decidable.of_not_not q4
    exact hthr _ _ _ _ 104 125 108 "java/lang/ArithmeticException" "the determinant is 0" (N, M, S, rl, rh, bl, bh, kl, kh, mn_1, vc, iv_1, sc_1) lk2 lk3 (by decide +kernel) (fun w hw => List.mem_cons_of_mem _ (List.mem_append_left _ (List.mem_append_left _ (List.mem_append_right _ hw)))) (by decide +kernel) dX0_variationDenominator_7 dX0_variationDenominator_10 dX0_variationDenominator_11 dX0_variationDenominator_13 dX0_variationDenominator_16 ⟨Nat.le_of_ble_eq_true rfl, Nat.le_of_ble_eq_true rfl, Nat.le_of_ble_eq_true rfl, Nat.le_of_ble_eq_true rfl⟩ (Nat.le_of_ble_eq_true rfl) (Nat.le_of_ble_eq_true rfl) ⟨⟨if_pos hd0, rfl⟩, _, _, _, rfl⟩

set_option maxRecDepth 100000 in
set_option maxHeartbeats 4000000 in
theorem c0_isSafe (l : Launch) (D : va_G) (K : Nat → ClassId) (a : Nat → Nat) (N : Nat) (M : Nat → Nat → Int32) (S : Nat → Nat → Int32) (rl : Nat → Int32) (rh : Nat → Int32) (bl : Nat → Int32) (bh : Nat → Int32) (kl : Nat → Int32) (kh : Nat → Int32) (mn : Nat → Int64) (vc : Nat → Int64) (iv : Nat → Nat → Int64) (sc : Int64) (hN : N ≤ 5) : mI l D K yX0_isSafe wsX0_isSafe 4 97 0 0 [.ref (a 0)] (w0 K a (N, M, S, rl, rh, bl, bh, kl, kh, mn, vc, iv, sc)) (fun r u => r = (if ¬ detM M N = 0 ∧ svI (ivF M N) S N N < 100 * (absL (detM M N)) then 1 else 0) ∧ ∃ mn1 iv1 sc1, u = (N, M, S, rl, rh, bl, bh, kl, kh, mn1, vc, iv1, sc1)) (w0 K a) := by
  have hinX0 : ∀ w ∈ wsX00, w ∈ wsX0_isSafe := by decide +kernel
  have lk0 : Cond.constantLong RX0 158 (100) ∈ wsX0_isSafe := by decide +kernel
  have lk1 : Cond.fieldLink RX0 131 "IntervalSolver" "scale" "J" ∈ wsX0_isSafe := by decide +kernel
  refine z_met_z (cc := cX0_isSafe) (maxL := 1) (own := RX0) (lv := [(0, .ref (a 0))]) (by decide) rfl rfl (Nat.le_of_ble_eq_true rfl) rfl ?_
  intro p e s m below meth c args Q A C hnm hend
  refine z_aload_n C dX0_isSafe_0 0 rfl ?_
  refine z_callVi_all (As := []) C (c0_invert l D K a N M S rl rh bl bh kl kh mn vc iv sc (by omega)) (cwV 0 C.1.2.2.2.2 gX0_isSafe_X0_invert rfl rfl rfl (by decide +kernel) ⟨Nat.le_of_ble_eq_true rfl, Nat.le_of_ble_eq_true rfl⟩) (ci := 2) rfl rfl 0 rfl dX0_isSafe_1 rfl rfl (Nat.le_of_ble_eq_true rfl) ⟨Nat.le_of_ble_eq_true rfl, Nat.le_of_ble_eq_true rfl⟩ (fun r1 u1 h1 => ?_)
  obtain ⟨mn_1, iv_1, sc_1, rfl, hr_1, hvv⟩ := inv_out h1
  subst hr_1
  refine z_if_eq (tgt := 27) C dX0_isSafe_4 (by decide) (fun c4 => ?_) (fun c4 => ?_)
  · have q4 : ¬ (¬ detM M N = 0) := zi0.mp c4
    refine z_iconst (v := 0) C dX0_isSafe_27 (by decide) ?_
    exact hend _ _ _ _ _ (N, M, S, rl, rh, bl, bh, kl, kh, mn_1, vc, iv_1, sc_1) dX0_isSafe_28 (Nat.zero_le _) (Nat.zero_le _) (Or.inl rfl) ⟨(if_neg (fun z => q4 z.1)).symm, _, _, _, rfl⟩
  · have q4 : ¬ detM M N = 0 := zi1.mp c4
    have hd := q4
    obtain ⟨hiv, hsc⟩ := hvv hd
    skip
    refine z_aload_n C dX0_isSafe_7 0 rfl ?_
    refine z_callVl_all (As := []) C (c0_scaledVariation l D K a N M S rl rh bl bh kl kh mn_1 vc iv_1 sc_1 (by omega)) (cwV 0 C.1.2.2.2.2 gX0_isSafe_X0_scaledVariation rfl rfl rfl (by decide +kernel) ⟨Nat.le_of_ble_eq_true rfl, Nat.le_of_ble_eq_true rfl⟩) (ci := 2) rfl rfl 0 rfl dX0_isSafe_8 rfl rfl (Nat.le_of_ble_eq_true rfl) ⟨Nat.le_of_ble_eq_true rfl, Nat.le_of_ble_eq_true rfl⟩ (fun r2 u2 h2 => ?_)
    obtain ⟨rfl, rfl⟩ := h2
    refine z_ldc2 C lk0 dX0_isSafe_11 ?_
    refine z_aload_n C dX0_isSafe_14 0 rfl ?_
    refine z_get (cl := vwCl) (T := TX0) (N := 13) (ci := 2) (ref := "IntervalSolver") C hinX0 rfl 12 (by decide) lk1 rfl dX0_isSafe_15 0 rfl rfl ?_
    refine z_lmul C dX0_isSafe_18 ?_
    refine z_lcmp_ge (tgt := 27) C dX0_isSafe_19 dX0_isSafe_20 (by decide) (fun c19 => ?_) (fun c19 => ?_)
    · refine z_iconst (v := 0) C dX0_isSafe_27 (by decide) ?_
      exact hend _ _ _ _ _ (N, M, S, rl, rh, bl, bh, kl, kh, mn_1, vc, iv_1, sc_1) dX0_isSafe_28 (Nat.zero_le _) (Nat.zero_le _) (Or.inl rfl) ⟨(if_neg (fun z => c19 (by rw [svI_congr (fun i hi j hj => hiv i j hi hj), hsc]; exact z.2))).symm, _, _, _, rfl⟩
    · refine z_iconst (v := 1) C dX0_isSafe_23 (by decide) ?_
      refine z_goto (tgt := 28) C dX0_isSafe_24 (by decide) ?_
      exact hend _ _ _ _ _ (N, M, S, rl, rh, bl, bh, kl, kh, mn_1, vc, iv_1, sc_1) dX0_isSafe_28 (Nat.zero_le _) (Nat.zero_le _) (Or.inr rfl) ⟨by rw [if_pos ⟨hd, by rw [← svI_congr (fun i hi j hj => hiv i j hi hj), ← hsc]; exact c19⟩], _, _, _, rfl⟩

set_option maxRecDepth 100000 in
set_option maxHeartbeats 4000000 in
theorem c0_condition (l : Launch) (D : va_G) (K : Nat → ClassId) (a : Nat → Nat) (N : Nat) (M : Nat → Nat → Int32) (S : Nat → Nat → Int32) (rl : Nat → Int32) (rh : Nat → Int32) (bl : Nat → Int32) (bh : Nat → Int32) (kl : Nat → Int32) (kh : Nat → Int32) (mn : Nat → Int64) (vc : Nat → Int64) (iv : Nat → Nat → Int64) (sc : Int64) (hst : l.stackTraces = false) (hN : N ≤ 5) (hq : ¬ detM M N = 0 → vf_n64 (cdQ M N) ∧ vf_n64 (cdD M N)) : xD l D K yX0_condition wsX0_condition 6 97 1 6 [.ref (a 0)] (w0 K a (N, M, S, rl, rh, bl, bh, kl, kh, mn, vc, iv, sc)) (fun r u => kDet N M = 0 ∧ r = cdD M N ∧ ∃ mn1 iv1 sc1, u = (N, M, S, rl, rh, bl, bh, kl, kh, mn1, vc, iv1, sc1)) (fun E u => ((kDet N M = 1 ∧ E = "java/lang/ArithmeticException")) ∧ ∃ mn1 iv1 sc1, u = (N, M, S, rl, rh, bl, bh, kl, kh, mn1, vc, iv1, sc1)) (w0 K a) := by
  have hinX0 : ∀ w ∈ wsX00, w ∈ wsX0_condition := by decide +kernel
  have lk0 : Cond.fieldLink RX0 59 "IntervalSolver" "n" "I" ∈ wsX0_condition := by decide +kernel
  have lk1 : Cond.fieldLink RX0 131 "IntervalSolver" "scale" "J" ∈ wsX0_condition := by decide +kernel
  have lk2 : Cond.methodLink RX0 151 Lib.MathLoose.max_long.x ∈ wsX0_condition := by decide +kernel
  have lk3 : Cond.static Lib.MathLoose.max_long.x ∈ wsX0_condition := by decide +kernel
  have lk4 : Cond.initialized "java/lang/Math" ∈ wsX0_condition := by decide +kernel
  have lk5 : Cond.code Lib.MathLoose.max_long.x Lib.MathLoose.max_long.code 4 (some .long) ∈ wsX0_condition := by decide +kernel
  have lk6 : Cond.fieldLink RX0 11 "IntervalSolver" "coefficients" "[[I" ∈ wsX0_condition := by decide +kernel
  have lk7 : Cond.methodLink RX0 142 Lib.Math.abs.name ∈ wsX0_condition := by decide +kernel
  have lk8 : Cond.static Lib.Math.abs.name ∈ wsX0_condition := by decide +kernel
  have lk9 : Cond.code Lib.Math.abs.name Lib.Math.abs.code 1 (some .int) ∈ wsX0_condition := by decide +kernel
  have lk10 : Cond.fieldLink RX0 45 "IntervalSolver" "scaledInverse" "[[J" ∈ wsX0_condition := by decide +kernel
  have lk11 : Cond.methodLink RX0 148 Lib.MathLoose.abs_long.x ∈ wsX0_condition := by decide +kernel
  have lk12 : Cond.static Lib.MathLoose.abs_long.x ∈ wsX0_condition := by decide +kernel
  have lk13 : Cond.code Lib.MathLoose.abs_long.x Lib.MathLoose.abs_long.code 2 (some .long) ∈ wsX0_condition := by decide +kernel
  have lk14 : Cond.classLink RX0 104 "java/lang/ArithmeticException" ∈ wsX0_condition := by decide +kernel
  have lk15 : Cond.initialized "java/lang/ArithmeticException" ∈ wsX0_condition := by decide +kernel
  refine x_met_d (cc := cX0_condition) (maxL := 11) (lv := [(0, .ref (a 0))]) hst (by decide +kernel) rfl rfl (Nat.le_of_ble_eq_true rfl) rfl ?_
  intro p e s m below meth c args Q A C hend hthr
  refine z_aload_n C dX0_condition_0 0 rfl ?_
  refine z_callVi_all (As := []) C (c0_invert l D K a N M S rl rh bl bh kl kh mn vc iv sc (by omega)) (cwV 0 C.1.2.2.2.2 gX0_condition_X0_invert rfl rfl rfl (by decide +kernel) ⟨Nat.le_of_ble_eq_true rfl, Nat.le_of_ble_eq_true rfl⟩) (ci := 2) rfl rfl 0 rfl dX0_condition_1 rfl rfl (Nat.le_of_ble_eq_true rfl) ⟨Nat.le_of_ble_eq_true rfl, Nat.le_of_ble_eq_true rfl⟩ (fun r1 u1 h1 => ?_)
  obtain ⟨mn_1, iv_1, sc_1, rfl, hr_1, hvv⟩ := inv_out h1
  subst hr_1
  refine z_if_ne (tgt := 17) C dX0_condition_4 (by decide) (fun c4 => ?_) (fun c4 => ?_)
  · have q4 : ¬ detM M N = 0 := zi1.mp c4
    have hd := q4
    obtain ⟨hiv, hsc⟩ := hvv hd
    refine z_lconst (v := 0) C dX0_condition_17 (by decide) ?_
    refine z_lstore_n (lv' := [(0, .ref (a 0)), (1, .long 0)]) C dX0_condition_18 (by decide) [1, 0] rfl ?_
    refine z_lconst (v := 0) C dX0_condition_19 (by decide) ?_
    refine z_lstore_n (lv' := [(0, .ref (a 0)), (1, .long 0), (3, .long 0)]) C dX0_condition_20 (by decide) [1, 2, 0] rfl ?_
    refine z_iconst (v := 0) C dX0_condition_21 (by decide) ?_
    refine z_istore (lv' := [(0, .ref (a 0)), (1, .long 0), (3, .long 0), (5, .int 0)]) C dX0_condition_22 (by decide) [1, 2, 3, 0] rfl ?_
    suffices L24 : ∀ (f24_i i : Nat), 0 ≤ i → i ≤ N → N < i + f24_i → zW p l e { frames := 6, cells := 1, slots := 6, locals := 97 } s m args below meth c Q 11 A s.heap D vwCl 0 0 (w0 K a (N, M, S, rl, rh, bl, bh, kl, kh, mn_1, vc, iv_1, sc_1)) 24 ([(0, .ref (a 0)), (1, .long (cdX M N i)), (3, .long (cdY iv_1 N i)), (5, .int (nI i))]) [] from L24 (N + 1) 0 (Nat.le_refl _) (by omega) (by omega)
    intro f24_i
    induction f24_i with
    | zero => intro i h0 h1 h2; exact absurd h2 (by omega)
    | succ f24_i ih24_i =>
      intro i g24_0 g24_1 g24_2
      refine z_iload C dX0_condition_24 3 rfl ?_
      refine z_aload_n C dX0_condition_26 0 rfl ?_
      refine z_get (cl := vwCl) (T := TX0) (N := 13) (ci := 2) (ref := "IntervalSolver") C hinX0 rfl 0 (by decide) lk0 rfl dX0_condition_27 0 rfl rfl ?_
      refine z_icmp_ge (tgt := 114) C dX0_condition_30 (by decide) (fun c30 => ?_) (fun c30 => ?_)
      · have e30 : i = N := by have := (nI_leI (a := N) (b := i) (by omega) (by omega)).mp c30; omega
        rw [e30]
        refine z_lload_n C dX0_condition_114 1 rfl ?_
        refine z_l2d C dX0_condition_115 ?_
        refine z_lload_n C dX0_condition_116 2 rfl ?_
        refine z_topl (cdY (ivF M N) N N) (cdY_congr (fun i hi j hj => hiv i j hi hj)) ?_
        refine z_l2d C dX0_condition_117 ?_
        refine z_aload_n C dX0_condition_118 0 rfl ?_
        refine z_get (cl := vwCl) (T := TX0) (N := 13) (ci := 2) (ref := "IntervalSolver") C hinX0 rfl 12 (by decide) lk1 rfl dX0_condition_119 0 rfl rfl ?_
        refine z_topl (absL (detM M N)) hsc ?_
        refine z_l2d C dX0_condition_122 ?_
        refine z_ddiv C dX0_condition_123 (hq hd).1 ?_
        refine z_dmul C dX0_condition_124 (hq hd).2 ?_
        exact hend _ _ _ _ _ (N, M, S, rl, rh, bl, bh, kl, kh, mn_1, vc, iv_1, sc_1) dX0_condition_125 (by omega) (by omega) ⟨if_neg hd, rfl, _, _, _, rfl⟩
      · have e30 : i < N := by have := mt (nI_leI (a := N) (b := i) (by omega) (by omega)).mpr c30; omega
        refine z_lconst (v := 0) C dX0_condition_33 (by decide) ?_
        refine z_lstore (lv' := [(0, .ref (a 0)), (1, .long (cdX M N i)), (3, .long (cdY iv_1 N i)), (5, .int (nI i)), (6, .long 0)]) C dX0_condition_34 (by decide) [1, 2, 3, 4, 0] rfl ?_
        refine z_lconst (v := 0) C dX0_condition_36 (by decide) ?_
        refine z_lstore (lv' := [(0, .ref (a 0)), (1, .long (cdX M N i)), (3, .long (cdY iv_1 N i)), (5, .int (nI i)), (6, .long 0), (8, .long 0)]) C dX0_condition_37 (by decide) [1, 2, 3, 4, 5, 0] rfl ?_
        refine z_iconst (v := 0) C dX0_condition_39 (by decide) ?_
        refine z_istore (lv' := [(0, .ref (a 0)), (1, .long (cdX M N i)), (3, .long (cdY iv_1 N i)), (5, .int (nI i)), (6, .long 0), (8, .long 0), (10, .int 0)]) C dX0_condition_40 (by decide) [1, 2, 3, 4, 5, 6, 0] rfl ?_
        suffices L42 : ∀ (f42_j j : Nat), 0 ≤ j → j ≤ N → N < j + f42_j → zW p l e { frames := 6, cells := 1, slots := 6, locals := 97 } s m args below meth c Q 11 A s.heap D vwCl 0 0 (w0 K a (N, M, S, rl, rh, bl, bh, kl, kh, mn_1, vc, iv_1, sc_1)) 42 ([(0, .ref (a 0)), (1, .long (cdX M N i)), (3, .long (cdY iv_1 N i)), (5, .int (nI i)), (6, .long (cdR M i j)), (8, .long (cdC (iv_1 i) j)), (10, .int (nI j))]) [] from L42 (N + 1) 0 (Nat.le_refl _) (by omega) (by omega)
        intro f42_j
        induction f42_j with
        | zero => intro j h0 h1 h2; exact absurd h2 (by omega)
        | succ f42_j ih42_j =>
          intro j g42_0 g42_1 g42_2
          refine z_iload C dX0_condition_42 6 rfl ?_
          refine z_aload_n C dX0_condition_44 0 rfl ?_
          refine z_get (cl := vwCl) (T := TX0) (N := 13) (ci := 2) (ref := "IntervalSolver") C hinX0 rfl 0 (by decide) lk0 rfl dX0_condition_45 0 rfl rfl ?_
          refine z_icmp_ge (tgt := 94) C dX0_condition_48 (by decide) (fun c48 => ?_) (fun c48 => ?_)
          · have e48 : j = N := by have := (nI_leI (a := N) (b := j) (by omega) (by omega)).mp c48; omega
            rw [e48]
            refine z_lload_n C dX0_condition_94 1 rfl ?_
            refine z_lload C dX0_condition_95 4 rfl ?_
            refine z_mmaxL C lk2 lk3 lk4 lk5 (Nat.le_of_ble_eq_true rfl) (Nat.le_of_ble_eq_true rfl) (Nat.le_of_ble_eq_true rfl) (Nat.le_of_ble_eq_true rfl) dX0_condition_97 ?_
            refine z_topl (cdX M N (i + 1)) rfl ?_
            refine z_lstore_n (lv' := [(0, .ref (a 0)), (1, .long (cdX M N (i + 1))), (3, .long (cdY iv_1 N i)), (5, .int (nI i)), (6, .long (cdR M i N)), (8, .long (cdC (iv_1 i) N)), (10, .int (nI N))]) C dX0_condition_100 (by decide) [1, 0, 2, 3, 4, 5, 6] rfl ?_
            refine z_lload_n C dX0_condition_101 2 rfl ?_
            refine z_lload C dX0_condition_102 5 rfl ?_
            refine z_mmaxL C lk2 lk3 lk4 lk5 (Nat.le_of_ble_eq_true rfl) (Nat.le_of_ble_eq_true rfl) (Nat.le_of_ble_eq_true rfl) (Nat.le_of_ble_eq_true rfl) dX0_condition_104 ?_
            refine z_topl (cdY iv_1 N (i + 1)) rfl ?_
            refine z_lstore_n (lv' := [(0, .ref (a 0)), (1, .long (cdX M N (i + 1))), (3, .long (cdY iv_1 N (i + 1))), (5, .int (nI i)), (6, .long (cdR M i N)), (8, .long (cdC (iv_1 i) N)), (10, .int (nI N))]) C dX0_condition_107 (by decide) [1, 2, 0, 3, 4, 5, 6] rfl ?_
            refine z_iinc (v := nI (i + 1)) (lv' := [(0, .ref (a 0)), (1, .long (cdX M N (i + 1))), (3, .long (cdY iv_1 N (i + 1))), (5, .int (nI (i + 1))), (6, .long (cdR M i N)), (8, .long (cdC (iv_1 i) N)), (10, .int (nI N))]) C dX0_condition_108 (k := 3) rfl (nI_1 i) (by decide) [1, 2, 3, 0, 4, 5, 6] rfl ?_
            refine z_goto (tgt := 24) C dX0_condition_111 (by decide) ?_
            refine z_lv (lv' := [(0, .ref (a 0)), (1, .long (cdX M N (i + 1))), (3, .long (cdY iv_1 N (i + 1))), (5, .int (nI (i + 1)))]) [0, 1, 2, 3] rfl ?_
            exact ih24_i (i + 1) (by omega) (by omega) (by omega)
          · have e48 : j < N := by have := mt (nI_leI (a := N) (b := j) (by omega) (by omega)).mpr c48; omega
            refine z_lload C dX0_condition_51 4 rfl ?_
            refine z_aload_n C dX0_condition_53 0 rfl ?_
            refine z_get (cl := vwCl) (T := TX0) (N := 13) (ci := 2) (ref := "IntervalSolver") C hinX0 rfl 1 (by decide) lk6 rfl dX0_condition_54 0 rfl rfl ?_
            refine z_iload C dX0_condition_57 3 rfl ?_
            refine z_aald (y := a (12 + i)) C 2 rfl 1 rfl dX0_condition_59 i rfl (by omega) (by decide) (if_pos (by omega)) ?_
            refine z_iload C dX0_condition_60 6 rfl ?_
            refine z_iald C 0 rfl (12 + i) (w0_atM (by omega)) dX0_condition_62 j rfl (by omega) (by decide) ?_
            refine z_mabs C lk7 lk8 lk4 lk9 (Nat.le_of_ble_eq_true rfl) (Nat.le_of_ble_eq_true rfl) (Nat.le_of_ble_eq_true rfl) (Nat.le_of_ble_eq_true rfl) dX0_condition_63 ?_
            refine z_topi (absI (M i j)) rfl ?_
            refine z_i2l C dX0_condition_66 ?_
            refine z_ladd C dX0_condition_67 ?_
            refine z_lstore (lv' := [(0, .ref (a 0)), (1, .long (cdX M N i)), (3, .long (cdY iv_1 N i)), (5, .int (nI i)), (6, .long ((cdR M i j) + ((absI (M i j)).toInt64))), (8, .long (cdC (iv_1 i) j)), (10, .int (nI j))]) C dX0_condition_68 (by decide) [1, 2, 3, 4, 0, 5, 6] rfl ?_
            refine z_lload C dX0_condition_70 5 rfl ?_
            refine z_aload_n C dX0_condition_72 0 rfl ?_
            refine z_get (cl := vwCl) (T := TX0) (N := 13) (ci := 2) (ref := "IntervalSolver") C hinX0 rfl 11 (by decide) lk10 rfl dX0_condition_73 0 rfl rfl ?_
            refine z_iload C dX0_condition_76 3 rfl ?_
            refine z_aald (y := a (22 + i)) C 3 rfl 11 rfl dX0_condition_78 i rfl (by omega) (by decide) (if_pos (by omega)) ?_
            refine z_iload C dX0_condition_79 6 rfl ?_
            refine z_lald C 1 rfl (22 + i) (w0_atV (by omega)) dX0_condition_81 j rfl (by omega) (by decide) ?_
            refine z_mabsL C lk11 lk12 lk4 lk13 (Nat.le_of_ble_eq_true rfl) (Nat.le_of_ble_eq_true rfl) (Nat.le_of_ble_eq_true rfl) (Nat.le_of_ble_eq_true rfl) dX0_condition_82 ?_
            refine z_topl (absL (iv_1 i j)) rfl ?_
            refine z_ladd C dX0_condition_85 ?_
            refine z_lstore (lv' := [(0, .ref (a 0)), (1, .long (cdX M N i)), (3, .long (cdY iv_1 N i)), (5, .int (nI i)), (6, .long ((cdR M i j) + ((absI (M i j)).toInt64))), (8, .long ((cdC (iv_1 i) j) + (absL (iv_1 i j)))), (10, .int (nI j))]) C dX0_condition_86 (by decide) [1, 2, 3, 4, 5, 0, 6] rfl ?_
            refine z_iinc (v := nI (j + 1)) (lv' := [(0, .ref (a 0)), (1, .long (cdX M N i)), (3, .long (cdY iv_1 N i)), (5, .int (nI i)), (6, .long ((cdR M i j) + ((absI (M i j)).toInt64))), (8, .long ((cdC (iv_1 i) j) + (absL (iv_1 i j)))), (10, .int (nI (j + 1)))]) C dX0_condition_88 (k := 6) rfl (nI_1 j) (by decide) [1, 2, 3, 4, 5, 6, 0] rfl ?_
            refine z_goto (tgt := 42) C dX0_condition_91 (by decide) ?_
            exact ih42_j (j + 1) (by omega) (by omega) (by omega)
  · have q4 : ¬ (¬ detM M N = 0) := zi0.mp c4
    have hd0 := Decidable.of_not_not q4
    exact hthr _ _ _ _ 104 125 108 "java/lang/ArithmeticException" "the determinant is 0" (N, M, S, rl, rh, bl, bh, kl, kh, mn_1, vc, iv_1, sc_1) lk14 lk15 (by decide +kernel) (fun w hw => List.mem_cons_of_mem _ (List.mem_append_left _ (List.mem_append_right _ hw))) (by decide +kernel) dX0_condition_7 dX0_condition_10 dX0_condition_11 dX0_condition_13 dX0_condition_16 ⟨Nat.le_of_ble_eq_true rfl, Nat.le_of_ble_eq_true rfl, Nat.le_of_ble_eq_true rfl, Nat.le_of_ble_eq_true rfl⟩ (Nat.le_of_ble_eq_true rfl) (Nat.le_of_ble_eq_true rfl) ⟨⟨if_pos hd0, rfl⟩, _, _, _, rfl⟩

set_option maxRecDepth 100000 in
set_option maxHeartbeats 4000000 in
theorem c0_isDominant (l : Launch) (D : va_G) (K : Nat → ClassId) (a : Nat → Nat) (N : Nat) (M : Nat → Nat → Int32) (S : Nat → Nat → Int32) (rl : Nat → Int32) (rh : Nat → Int32) (bl : Nat → Int32) (bh : Nat → Int32) (kl : Nat → Int32) (kh : Nat → Int32) (mn : Nat → Int64) (vc : Nat → Int64) (iv : Nat → Nat → Int64) (sc : Int64) (hN : N ≤ 5) : mI l D K yX0_isDominant wsX0_isDominant 1 30 0 0 [.ref (a 0)] (w0 K a (N, M, S, rl, rh, bl, bh, kl, kh, mn, vc, iv, sc)) (fun r u => r = (if ∀ t, t < N → 0 < dxJ M S t N then 1 else 0) ∧ u = (N, M, S, rl, rh, bl, bh, kl, kh, mn, vc, iv, sc)) (w0 K a) := by
  have hinX0 : ∀ w ∈ wsX00, w ∈ wsX0_isDominant := by decide +kernel
  have lk0 : Cond.fieldLink RX0 59 "IntervalSolver" "n" "I" ∈ wsX0_isDominant := by decide +kernel
  have lk1 : Cond.fieldLink RX0 11 "IntervalSolver" "coefficients" "[[I" ∈ wsX0_isDominant := by decide +kernel
  have lk2 : Cond.methodLink RX0 142 Lib.Math.abs.name ∈ wsX0_isDominant := by decide +kernel
  have lk3 : Cond.static Lib.Math.abs.name ∈ wsX0_isDominant := by decide +kernel
  have lk4 : Cond.initialized "java/lang/Math" ∈ wsX0_isDominant := by decide +kernel
  have lk5 : Cond.code Lib.Math.abs.name Lib.Math.abs.code 1 (some .int) ∈ wsX0_isDominant := by decide +kernel
  have lk6 : Cond.fieldLink RX0 14 "IntervalSolver" "spreads" "[[I" ∈ wsX0_isDominant := by decide +kernel
  refine z_met_z (cc := cX0_isDominant) (maxL := 5) (own := RX0) (lv := [(0, .ref (a 0))]) (by decide) rfl rfl (Nat.le_of_ble_eq_true rfl) rfl ?_
  intro p e s m below meth c args Q A C hnm hend
  refine z_iconst (v := 0) C dX0_isDominant_0 (by decide) ?_
  refine z_istore_n (lv' := [(0, .ref (a 0)), (1, .int 0)]) C dX0_isDominant_1 (by decide) [1, 0] rfl ?_
  suffices L2 : ∀ (f2_i i : Nat), 0 ≤ i → i ≤ N → N < i + f2_i → (∀ t, t < i → 0 < dxJ M S t N) → zW p l e { frames := 1, cells := 0, slots := 0, locals := 30 } s m args below meth c Q 5 A s.heap D vwCl 0 0 (w0 K a (N, M, S, rl, rh, bl, bh, kl, kh, mn, vc, iv, sc)) 2 ([(0, .ref (a 0)), (1, .int (nI i))]) [] from L2 (N + 1) 0 (Nat.le_refl _) (by omega) (by omega) (fun t h => absurd h (Nat.not_lt_zero t))
  intro f2_i
  induction f2_i with
  | zero => intro i h0 h1 h2; exact absurd h2 (by omega)
  | succ f2_i ih2_i =>
    intro i g2_0 g2_1 g2_2 hq
    refine z_iload_n C dX0_isDominant_2 1 rfl ?_
    refine z_aload_n C dX0_isDominant_3 0 rfl ?_
    refine z_get (cl := vwCl) (T := TX0) (N := 13) (ci := 2) (ref := "IntervalSolver") C hinX0 rfl 0 (by decide) lk0 rfl dX0_isDominant_4 0 rfl rfl ?_
    refine z_icmp_ge (tgt := 90) C dX0_isDominant_7 (by decide) (fun c7 => ?_) (fun c7 => ?_)
    · have e7 : i = N := by have := (nI_leI (a := N) (b := i) (by omega) (by omega)).mp c7; omega
      rw [e7]
      rw [e7] at hq
      refine z_iconst (v := 1) C dX0_isDominant_90 (by decide) ?_
      exact hend _ _ _ _ _ (N, M, S, rl, rh, bl, bh, kl, kh, mn, vc, iv, sc) dX0_isDominant_91 (Nat.zero_le _) (Nat.zero_le _) (Or.inr rfl) ⟨(if_pos hq).symm, rfl⟩
    · have e7 : i < N := by have := mt (nI_leI (a := N) (b := i) (by omega) (by omega)).mpr c7; omega
      refine z_iconst (v := 0) C dX0_isDominant_10 (by decide) ?_
      refine z_istore_n (lv' := [(0, .ref (a 0)), (1, .int (nI i)), (2, .int 0)]) C dX0_isDominant_11 (by decide) [1, 2, 0] rfl ?_
      refine z_iconst (v := 0) C dX0_isDominant_12 (by decide) ?_
      refine z_istore_n (lv' := [(0, .ref (a 0)), (1, .int (nI i)), (2, .int 0), (3, .int 0)]) C dX0_isDominant_13 (by decide) [1, 2, 3, 0] rfl ?_
      suffices L14 : ∀ (f14_j j : Nat), 0 ≤ j → j ≤ N → N < j + f14_j → zW p l e { frames := 1, cells := 0, slots := 0, locals := 30 } s m args below meth c Q 5 A s.heap D vwCl 0 0 (w0 K a (N, M, S, rl, rh, bl, bh, kl, kh, mn, vc, iv, sc)) 14 ([(0, .ref (a 0)), (1, .int (nI i)), (2, .int (dxJ M S i j)), (3, .int (nI j))]) [] from L14 (N + 1) 0 (Nat.le_refl _) (by omega) (by omega)
      intro f14_j
      induction f14_j with
      | zero => intro j h0 h1 h2; exact absurd h2 (by omega)
      | succ f14_j ih14_j =>
        intro j g14_0 g14_1 g14_2
        refine z_iload_n C dX0_isDominant_14 3 rfl ?_
        refine z_aload_n C dX0_isDominant_15 0 rfl ?_
        refine z_get (cl := vwCl) (T := TX0) (N := 13) (ci := 2) (ref := "IntervalSolver") C hinX0 rfl 0 (by decide) lk0 rfl dX0_isDominant_16 0 rfl rfl ?_
        refine z_icmp_ge (tgt := 78) C dX0_isDominant_19 (by decide) (fun c19 => ?_) (fun c19 => ?_)
        · have e19 : j = N := by have := (nI_leI (a := N) (b := j) (by omega) (by omega)).mp c19; omega
          rw [e19]
          refine z_iload_n C dX0_isDominant_78 2 rfl ?_
          refine z_if_gt (tgt := 84) C dX0_isDominant_79 (by decide) (fun c79 => ?_) (fun c79 => ?_)
          · refine z_iinc (v := nI (i + 1)) (lv' := [(0, .ref (a 0)), (1, .int (nI (i + 1))), (2, .int (dxJ M S i N)), (3, .int (nI N))]) C dX0_isDominant_84 (k := 1) rfl (nI_1 i) (by decide) [1, 0, 2, 3] rfl ?_
            refine z_goto (tgt := 2) C dX0_isDominant_87 (by decide) ?_
            refine z_lv (lv' := [(0, .ref (a 0)), (1, .int (nI (i + 1)))]) [0, 1] rfl ?_
            exact ih2_i (i + 1) (by omega) (by omega) (by omega) (lt_s hq c79)
          · refine z_iconst (v := 0) C dX0_isDominant_82 (by decide) ?_
            exact hend _ _ _ _ _ (N, M, S, rl, rh, bl, bh, kl, kh, mn, vc, iv, sc) dX0_isDominant_83 (Nat.zero_le _) (Nat.zero_le _) (Or.inl rfl) ⟨(if_neg (fun q => c79 (q i (by omega)))).symm, rfl⟩
        · have e19 : j < N := by have := mt (nI_leI (a := N) (b := j) (by omega) (by omega)).mpr c19; omega
          refine z_bipush (v := 100) C dX0_isDominant_22 (by decide) ?_
          refine z_aload_n C dX0_isDominant_24 0 rfl ?_
          refine z_get (cl := vwCl) (T := TX0) (N := 13) (ci := 2) (ref := "IntervalSolver") C hinX0 rfl 1 (by decide) lk1 rfl dX0_isDominant_25 0 rfl rfl ?_
          refine z_iload_n C dX0_isDominant_28 1 rfl ?_
          refine z_aald (y := a (12 + i)) C 2 rfl 1 rfl dX0_isDominant_29 i rfl (by omega) (by decide) (if_pos (by omega)) ?_
          refine z_iload_n C dX0_isDominant_30 3 rfl ?_
          refine z_iald C 0 rfl (12 + i) (w0_atM (by omega)) dX0_isDominant_31 j rfl (by omega) (by decide) ?_
          refine z_mabs C lk2 lk3 lk4 lk5 (Nat.le_of_ble_eq_true rfl) (Nat.le_of_ble_eq_true rfl) (Nat.le_of_ble_eq_true rfl) (Nat.le_of_ble_eq_true rfl) dX0_isDominant_32 ?_
          refine z_topi (absI (M i j)) rfl ?_
          refine z_imul C dX0_isDominant_35 ?_
          refine z_istore (lv' := [(0, .ref (a 0)), (1, .int (nI i)), (2, .int (dxJ M S i j)), (3, .int (nI j)), (4, .int (100 * (absI (M i j))))]) C dX0_isDominant_36 (by decide) [1, 2, 3, 4, 0] rfl ?_
          refine z_iload_n C dX0_isDominant_38 2 rfl ?_
          refine z_iload_n C dX0_isDominant_39 3 rfl ?_
          refine z_iload_n C dX0_isDominant_40 1 rfl ?_
          refine z_icmp_ne (tgt := 58) C dX0_isDominant_41 (by decide) (fun c41 => ?_) (fun c41 => ?_)
          · have e41 : ¬ j = i := fun q => c41 (by rw [q])
            refine z_iload C dX0_isDominant_58 4 rfl ?_
            refine z_ineg C dX0_isDominant_60 ?_
            refine z_aload_n C dX0_isDominant_61 0 rfl ?_
            refine z_get (cl := vwCl) (T := TX0) (N := 13) (ci := 2) (ref := "IntervalSolver") C hinX0 rfl 2 (by decide) lk6 rfl dX0_isDominant_62 0 rfl rfl ?_
            refine z_iload_n C dX0_isDominant_65 1 rfl ?_
            refine z_aald (y := a (17 + i)) C 2 rfl 2 rfl dX0_isDominant_66 i rfl (by omega) (by decide) (if_pos (by omega)) ?_
            refine z_iload_n C dX0_isDominant_67 3 rfl ?_
            refine z_iald C 0 rfl (17 + i) (w0_atS (by omega)) dX0_isDominant_68 j rfl (by omega) (by decide) ?_
            refine z_isub C dX0_isDominant_69 ?_
            refine z_iadd C dX0_isDominant_70 ?_
            refine z_topi (dxJ M S i (j + 1)) (by show _ = dxJ M S i j + (if j = i then 100 * absI (M i j) - S i j else -(100 * absI (M i j)) - S i j); first | rw [if_neg e41] | rw [if_pos e41]) ?_
            refine z_istore_n (lv' := [(0, .ref (a 0)), (1, .int (nI i)), (2, .int (dxJ M S i (j + 1))), (3, .int (nI j)), (4, .int (100 * (absI (M i j))))]) C dX0_isDominant_71 (by decide) [1, 2, 0, 3, 4] rfl ?_
            refine z_iinc (v := nI (j + 1)) (lv' := [(0, .ref (a 0)), (1, .int (nI i)), (2, .int (dxJ M S i (j + 1))), (3, .int (nI (j + 1))), (4, .int (100 * (absI (M i j))))]) C dX0_isDominant_72 (k := 3) rfl (nI_1 j) (by decide) [1, 2, 3, 0, 4] rfl ?_
            refine z_goto (tgt := 14) C dX0_isDominant_75 (by decide) ?_
            refine z_lv (lv' := [(0, .ref (a 0)), (1, .int (nI i)), (2, .int (dxJ M S i (j + 1))), (3, .int (nI (j + 1)))]) [0, 1, 2, 3] rfl ?_
            exact ih14_j (j + 1) (by omega) (by omega) (by omega)
          · have e41 : j = i := (nI_eq (by omega) (by omega)).mp c41
            refine z_iload C dX0_isDominant_44 4 rfl ?_
            refine z_aload_n C dX0_isDominant_46 0 rfl ?_
            refine z_get (cl := vwCl) (T := TX0) (N := 13) (ci := 2) (ref := "IntervalSolver") C hinX0 rfl 2 (by decide) lk6 rfl dX0_isDominant_47 0 rfl rfl ?_
            refine z_iload_n C dX0_isDominant_50 1 rfl ?_
            refine z_aald (y := a (17 + i)) C 2 rfl 2 rfl dX0_isDominant_51 i rfl (by omega) (by decide) (if_pos (by omega)) ?_
            refine z_iload_n C dX0_isDominant_52 3 rfl ?_
            refine z_iald C 0 rfl (17 + i) (w0_atS (by omega)) dX0_isDominant_53 j rfl (by omega) (by decide) ?_
            refine z_isub C dX0_isDominant_54 ?_
            refine z_goto (tgt := 70) C dX0_isDominant_55 (by decide) ?_
            refine z_iadd C dX0_isDominant_70 ?_
            refine z_topi (dxJ M S i (j + 1)) (by show _ = dxJ M S i j + (if j = i then 100 * absI (M i j) - S i j else -(100 * absI (M i j)) - S i j); first | rw [if_neg e41] | rw [if_pos e41]) ?_
            refine z_istore_n (lv' := [(0, .ref (a 0)), (1, .int (nI i)), (2, .int (dxJ M S i (j + 1))), (3, .int (nI j)), (4, .int (100 * (absI (M i j))))]) C dX0_isDominant_71 (by decide) [1, 2, 0, 3, 4] rfl ?_
            refine z_iinc (v := nI (j + 1)) (lv' := [(0, .ref (a 0)), (1, .int (nI i)), (2, .int (dxJ M S i (j + 1))), (3, .int (nI (j + 1))), (4, .int (100 * (absI (M i j))))]) C dX0_isDominant_72 (k := 3) rfl (nI_1 j) (by decide) [1, 2, 3, 0, 4] rfl ?_
            refine z_goto (tgt := 14) C dX0_isDominant_75 (by decide) ?_
            refine z_lv (lv' := [(0, .ref (a 0)), (1, .int (nI i)), (2, .int (dxJ M S i (j + 1))), (3, .int (nI (j + 1)))]) [0, 1, 2, 3] rfl ?_
            exact ih14_j (j + 1) (by omega) (by omega) (by omega)
