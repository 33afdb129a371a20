set_option maxRecDepth 100000 in
set_option maxHeartbeats 4000000 in
theorem c0_addRow (l : Launch) (D : va_G) (K : Nat → ClassId) (a : Nat → Nat) (N : Nat) (M : Nat → Nat → Int32) (S : Nat → Nat → Int32) (rl : Nat → Int32) (rh : Nat → Int32) (bl : Nat → Int32) (bh : Nat → Int32) (kl : Nat → Int32) (kh : Nat → Int32) (mn : Nat → Int64) (vc : Nat → Int64) (iv : Nat → Nat → Int64) (sc : Int64) (p0 : Int32) (p1 : Int32) (p2 : Int32) (hst : l.stackTraces = false) (hN : N ≤ 5) : xI l D K yX0_addRow wsX0_addRow 6 82 1 6 [.ref (a 0), .int p0, .int p1, .int p2] (w0 K a (N, M, S, rl, rh, bl, bh, kl, kh, mn, vc, iv, sc)) (fun r u => kAdd0 N M rl rh p0 p1 p2 = 0 ∧ r = acC M (ix p0) (ix p1) p2 N ∧ u = (N, acM M (ix p0) (ix p1) p2 N, S, upd rl (ix p0) (rl (ix p0) + pLow p2 (rl (ix p1)) (rh (ix p1))), upd rh (ix p0) (rh (ix p0) + pHigh p2 (rl (ix p1)) (rh (ix p1))), bl, bh, kl, kh, mn, vc, iv, sc)) (fun E u => ((kAdd0 N M rl rh p0 p1 p2 = 1 ∧ E = "java/lang/IndexOutOfBoundsException") ∨ (kAdd0 N M rl rh p0 p1 p2 = 2 ∧ E = "java/lang/IllegalArgumentException") ∨ (kAdd0 N M rl rh p0 p1 p2 = 3 ∧ E = "java/lang/ArithmeticException")) ∧ u = (N, M, S, rl, rh, bl, bh, kl, kh, mn, vc, iv, sc)) (w0 K a) := by
  have hinX0 : ∀ w ∈ wsX00, w ∈ wsX0_addRow := by decide +kernel
  have lk0 : Cond.classLink RX0 67 "java/lang/IndexOutOfBoundsException" ∈ wsX0_addRow := by decide +kernel
  have lk1 : Cond.initialized "java/lang/IndexOutOfBoundsException" ∈ wsX0_addRow := by decide +kernel
  have lk2 : Cond.classLink RX0 52 "java/lang/IllegalArgumentException" ∈ wsX0_addRow := by decide +kernel
  have lk3 : Cond.initialized "java/lang/IllegalArgumentException" ∈ wsX0_addRow := by decide +kernel
  have lk4 : Cond.fieldLink RX0 17 "IntervalSolver" "rightLows" "[I" ∈ wsX0_addRow := by decide +kernel
  have lk5 : Cond.fieldLink RX0 21 "IntervalSolver" "rightHighs" "[I" ∈ wsX0_addRow := by decide +kernel
  have lk6 : Cond.classLink RX0 104 "java/lang/ArithmeticException" ∈ wsX0_addRow := by decide +kernel
  have lk7 : Cond.initialized "java/lang/ArithmeticException" ∈ wsX0_addRow := by decide +kernel
  refine x_met_i (cc := cX0_addRow) (maxL := 6) (lv := [(0, .ref (a 0)), (1, .int p0), (2, .int p1), (3, .int p2)]) hst (by decide +kernel) rfl rfl (Nat.le_of_ble_eq_true rfl) rfl ?_
  intro p e s m below meth c args Q A C hend hthr
  refine z_aload_n C dX0_addRow_0 0 rfl ?_
  refine z_iload_n C dX0_addRow_1 1 rfl ?_
  refine z_callVi_all (As := [.int p0]) C (c0_isIndex l D K a N M S rl rh bl bh kl kh mn vc iv sc p0) (cwV 1 C.1.2.2.2.2 gX0_addRow_X0_isIndex rfl rfl rfl (by decide +kernel) ⟨Nat.le_of_ble_eq_true rfl, Nat.le_of_ble_eq_true rfl⟩) (ci := 0) rfl rfl 0 rfl dX0_addRow_2 rfl rfl (Nat.le_of_ble_eq_true rfl) ⟨Nat.le_of_ble_eq_true rfl, Nat.le_of_ble_eq_true rfl⟩ (fun r1 u1 h1 => ?_)
  obtain ⟨rfl, rfl⟩ := h1
  refine z_if_eq (tgt := 16) C dX0_addRow_5 (by decide) (fun c5 => ?_) (fun c5 => ?_)
  · have q5 : ¬ (ixP N p0) := zi0.mp c5
    exact hthr _ _ _ _ 67 78 71 "java/lang/IndexOutOfBoundsException" "no such row" (N, M, S, rl, rh, bl, bh, kl, kh, mn, vc, iv, sc) lk0 lk1 (by decide +kernel) (fun w hw => List.mem_cons_of_mem _ (List.mem_append_left _ (List.mem_append_left _ (List.mem_append_right _ hw)))) (by decide +kernel) dX0_addRow_16 dX0_addRow_19 dX0_addRow_20 dX0_addRow_22 dX0_addRow_25 ⟨Nat.le_of_ble_eq_true rfl, Nat.le_of_ble_eq_true rfl, Nat.le_of_ble_eq_true rfl, Nat.le_of_ble_eq_true rfl⟩ (Nat.le_of_ble_eq_true rfl) (Nat.le_of_ble_eq_true rfl) ⟨Or.inl (⟨if_neg (by rintro ⟨h1, h2⟩; first | exact q5 h1 | exact q13 h2), rfl⟩), rfl⟩
  · have q5 : ixP N p0 := zi1.mp c5
    obtain ⟨i_p0, l_p0⟩ := ixP_at hN q5
    refine z_aload_n C dX0_addRow_8 0 rfl ?_
    refine z_iload_n C dX0_addRow_9 2 rfl ?_
    refine z_callVi_all (As := [.int p1]) C (c0_isIndex l D K a N M S rl rh bl bh kl kh mn vc iv sc p1) (cwV 1 C.1.2.2.2.2 gX0_addRow_X0_isIndex rfl rfl rfl (by decide +kernel) ⟨Nat.le_of_ble_eq_true rfl, Nat.le_of_ble_eq_true rfl⟩) (ci := 0) rfl rfl 0 rfl dX0_addRow_10 rfl rfl (Nat.le_of_ble_eq_true rfl) ⟨Nat.le_of_ble_eq_true rfl, Nat.le_of_ble_eq_true rfl⟩ (fun r2 u2 h2 => ?_)
    obtain ⟨rfl, rfl⟩ := h2
    refine z_if_ne (tgt := 26) C dX0_addRow_13 (by decide) (fun c13 => ?_) (fun c13 => ?_)
    · have q13 : ixP N p1 := zi1.mp c13
      obtain ⟨i_p1, l_p1⟩ := ixP_at hN q13
      refine z_iload_n C dX0_addRow_26 1 rfl ?_
      refine z_iload_n C dX0_addRow_27 2 rfl ?_
      refine z_icmp_eq (tgt := 40) C dX0_addRow_28 (by decide) (fun c28 => ?_) (fun c28 => ?_)
      · exact hthr _ _ _ _ 52 92 56 "java/lang/IllegalArgumentException" "the same row, or a factor that is not -99 to 99" (N, M, S, rl, rh, bl, bh, kl, kh, mn, vc, iv, sc) lk2 lk3 (by decide +kernel) (fun w hw => List.mem_cons_of_mem _ (List.mem_append_left _ (List.mem_append_right _ hw))) (by decide +kernel) dX0_addRow_40 dX0_addRow_43 dX0_addRow_44 dX0_addRow_46 dX0_addRow_49 ⟨Nat.le_of_ble_eq_true rfl, Nat.le_of_ble_eq_true rfl, Nat.le_of_ble_eq_true rfl, Nat.le_of_ble_eq_true rfl⟩ (Nat.le_of_ble_eq_true rfl) (Nat.le_of_ble_eq_true rfl) ⟨Or.inr (Or.inl (⟨by unfold kAdd0; rw [if_pos ⟨q5, q13⟩, if_neg (by rintro ⟨h1, h2⟩; first | exact h1 c28 | exact q37 h2)], rfl⟩)), rfl⟩
      · refine z_iload_n C dX0_addRow_31 3 rfl ?_
        refine z_bipush (v := 99) C dX0_addRow_32 (by decide) ?_
        refine z_callSi_none (As := [.int p2, .int 99]) C (c0_isWithin l D K p2 99) (va_cwS 2 C.1.2.2.2.2 gX0_addRow_X0_isWithin rfl rfl rfl (by decide +kernel) ⟨Nat.le_of_ble_eq_true rfl, Nat.le_of_ble_eq_true rfl⟩) dX0_addRow_34 rfl rfl (Nat.le_of_ble_eq_true rfl) ⟨Nat.le_of_ble_eq_true rfl, Nat.le_of_ble_eq_true rfl⟩ (fun r3 u3 h3 => ?_)
        subst h3
        refine z_if_ne (tgt := 50) C dX0_addRow_37 (by decide) (fun c37 => ?_) (fun c37 => ?_)
        · have q37 : -99 ≤ p2 ∧ p2 ≤ 99 := zi1.mp c37
          refine z_aload_n C dX0_addRow_50 0 rfl ?_
          refine z_get (cl := vwCl) (T := TX0) (N := 13) (ci := 0) (ref := "IntervalSolver") C hinX0 rfl 3 (by decide) lk4 rfl dX0_addRow_51 0 rfl rfl ?_
          refine z_iload_n C dX0_addRow_54 1 rfl ?_
          refine z_iald C 0 rfl 3 rfl dX0_addRow_55 (ix p0) i_p0 (by omega) (by decide) ?_
          refine z_iload_n C dX0_addRow_56 3 rfl ?_
          refine z_aload_n C dX0_addRow_57 0 rfl ?_
          refine z_get (cl := vwCl) (T := TX0) (N := 13) (ci := 0) (ref := "IntervalSolver") C hinX0 rfl 3 (by decide) lk4 rfl dX0_addRow_58 0 rfl rfl ?_
          refine z_iload_n C dX0_addRow_61 2 rfl ?_
          refine z_iald C 0 rfl 3 rfl dX0_addRow_62 (ix p1) i_p1 (by omega) (by decide) ?_
          refine z_aload_n C dX0_addRow_63 0 rfl ?_
          refine z_get (cl := vwCl) (T := TX0) (N := 13) (ci := 0) (ref := "IntervalSolver") C hinX0 rfl 4 (by decide) lk5 rfl dX0_addRow_64 0 rfl rfl ?_
          refine z_iload_n C dX0_addRow_67 2 rfl ?_
          refine z_iald C 0 rfl 4 rfl dX0_addRow_68 (ix p1) i_p1 (by omega) (by decide) ?_
          refine z_callSi_none (As := [.int p2, .int (rl (ix p1)), .int (rh (ix p1))]) C (c0_productLow l D K p2 (rl (ix p1)) (rh (ix p1))) (va_cwS 3 C.1.2.2.2.2 gX0_addRow_X0_productLow rfl rfl rfl (by decide +kernel) ⟨Nat.le_of_ble_eq_true rfl, Nat.le_of_ble_eq_true rfl⟩) dX0_addRow_69 rfl rfl (Nat.le_of_ble_eq_true rfl) ⟨Nat.le_of_ble_eq_true rfl, Nat.le_of_ble_eq_true rfl⟩ (fun r4 u4 h4 => ?_)
          subst h4
          refine z_iadd C dX0_addRow_72 ?_
          refine z_istore (lv' := [(0, .ref (a 0)), (1, .int p0), (2, .int p1), (3, .int p2), (4, .int ((rl (ix p0)) + (pLow p2 (rl (ix p1)) (rh (ix p1)))))]) C dX0_addRow_73 (by decide) [1, 2, 3, 4, 0] rfl ?_
          refine z_aload_n C dX0_addRow_75 0 rfl ?_
          refine z_get (cl := vwCl) (T := TX0) (N := 13) (ci := 0) (ref := "IntervalSolver") C hinX0 rfl 4 (by decide) lk5 rfl dX0_addRow_76 0 rfl rfl ?_
          refine z_iload_n C dX0_addRow_79 1 rfl ?_
          refine z_iald C 0 rfl 4 rfl dX0_addRow_80 (ix p0) i_p0 (by omega) (by decide) ?_
          refine z_iload_n C dX0_addRow_81 3 rfl ?_
          refine z_aload_n C dX0_addRow_82 0 rfl ?_
          refine z_get (cl := vwCl) (T := TX0) (N := 13) (ci := 0) (ref := "IntervalSolver") C hinX0 rfl 3 (by decide) lk4 rfl dX0_addRow_83 0 rfl rfl ?_
          refine z_iload_n C dX0_addRow_86 2 rfl ?_
          refine z_iald C 0 rfl 3 rfl dX0_addRow_87 (ix p1) i_p1 (by omega) (by decide) ?_
          refine z_aload_n C dX0_addRow_88 0 rfl ?_
          refine z_get (cl := vwCl) (T := TX0) (N := 13) (ci := 0) (ref := "IntervalSolver") C hinX0 rfl 4 (by decide) lk5 rfl dX0_addRow_89 0 rfl rfl ?_
          refine z_iload_n C dX0_addRow_92 2 rfl ?_
          refine z_iald C 0 rfl 4 rfl dX0_addRow_93 (ix p1) i_p1 (by omega) (by decide) ?_
          refine z_callSi_none (As := [.int p2, .int (rl (ix p1)), .int (rh (ix p1))]) C (c0_productHigh l D K p2 (rl (ix p1)) (rh (ix p1))) (va_cwS 3 C.1.2.2.2.2 gX0_addRow_X0_productHigh rfl rfl rfl (by decide +kernel) ⟨Nat.le_of_ble_eq_true rfl, Nat.le_of_ble_eq_true rfl⟩) dX0_addRow_94 rfl rfl (Nat.le_of_ble_eq_true rfl) ⟨Nat.le_of_ble_eq_true rfl, Nat.le_of_ble_eq_true rfl⟩ (fun r5 u5 h5 => ?_)
          subst h5
          refine z_iadd C dX0_addRow_97 ?_
          refine z_istore (lv' := [(0, .ref (a 0)), (1, .int p0), (2, .int p1), (3, .int p2), (4, .int ((rl (ix p0)) + (pLow p2 (rl (ix p1)) (rh (ix p1))))), (5, .int ((rh (ix p0)) + (pHigh p2 (rl (ix p1)) (rh (ix p1)))))]) C dX0_addRow_98 (by decide) [1, 2, 3, 4, 5, 0] rfl ?_
          refine z_iload C dX0_addRow_100 4 rfl ?_
          refine z_iload C dX0_addRow_102 5 rfl ?_
          refine z_sipush (v := 999) C dX0_addRow_104 (by decide) ?_
          refine z_callSi_none (As := [.int ((rl (ix p0)) + (pLow p2 (rl (ix p1)) (rh (ix p1)))), .int ((rh (ix p0)) + (pHigh p2 (rl (ix p1)) (rh (ix p1)))), .int 999]) C (c0_isInterval l D K ((rl (ix p0)) + (pLow p2 (rl (ix p1)) (rh (ix p1)))) ((rh (ix p0)) + (pHigh p2 (rl (ix p1)) (rh (ix p1)))) 999) (va_cwS 3 C.1.2.2.2.2 gX0_addRow_X0_isInterval rfl rfl rfl (by decide +kernel) ⟨Nat.le_of_ble_eq_true rfl, Nat.le_of_ble_eq_true rfl⟩) dX0_addRow_107 rfl rfl (Nat.le_of_ble_eq_true rfl) ⟨Nat.le_of_ble_eq_true rfl, Nat.le_of_ble_eq_true rfl⟩ (fun r6 u6 h6 => ?_)
          subst h6
          refine z_if_eq (tgt := 123) C dX0_addRow_110 (by decide) (fun c110 => ?_) (fun c110 => ?_)
          · have q110 : ¬ (((-999 ≤ ((rl (ix p0)) + (pLow p2 (rl (ix p1)) (rh (ix p1)))) ∧ ((rl (ix p0)) + (pLow p2 (rl (ix p1)) (rh (ix p1)))) ≤ 999) ∧ (-999 ≤ ((rh (ix p0)) + (pHigh p2 (rl (ix p1)) (rh (ix p1)))) ∧ ((rh (ix p0)) + (pHigh p2 (rl (ix p1)) (rh (ix p1)))) ≤ 999)) ∧ ((rl (ix p0)) + (pLow p2 (rl (ix p1)) (rh (ix p1)))) ≤ ((rh (ix p0)) + (pHigh p2 (rl (ix p1)) (rh (ix p1))))) := zi0.mp c110
            exact hthr _ _ _ _ 104 106 108 "java/lang/ArithmeticException" "the sum of the rows leaves the range of a system" (N, M, S, rl, rh, bl, bh, kl, kh, mn, vc, iv, sc) lk6 lk7 (by decide +kernel) (fun w hw => List.mem_cons_of_mem _ (List.mem_append_right _ hw)) (by decide +kernel) dX0_addRow_123 dX0_addRow_126 dX0_addRow_127 dX0_addRow_129 dX0_addRow_132 ⟨Nat.le_of_ble_eq_true rfl, Nat.le_of_ble_eq_true rfl, Nat.le_of_ble_eq_true rfl, Nat.le_of_ble_eq_true rfl⟩ (Nat.le_of_ble_eq_true rfl) (Nat.le_of_ble_eq_true rfl) ⟨Or.inr (Or.inr (⟨by unfold kAdd0; rw [if_pos ⟨q5, q13⟩, if_pos ⟨c28, q37⟩, if_neg (by rintro ⟨h1, h2⟩; first | exact q110 h1 | exact q120 h2)], rfl⟩)), rfl⟩
          · have q110 : ((-999 ≤ ((rl (ix p0)) + (pLow p2 (rl (ix p1)) (rh (ix p1)))) ∧ ((rl (ix p0)) + (pLow p2 (rl (ix p1)) (rh (ix p1)))) ≤ 999) ∧ (-999 ≤ ((rh (ix p0)) + (pHigh p2 (rl (ix p1)) (rh (ix p1)))) ∧ ((rh (ix p0)) + (pHigh p2 (rl (ix p1)) (rh (ix p1)))) ≤ 999)) ∧ ((rl (ix p0)) + (pLow p2 (rl (ix p1)) (rh (ix p1)))) ≤ ((rh (ix p0)) + (pHigh p2 (rl (ix p1)) (rh (ix p1)))) := zi1.mp c110
            refine z_aload_n C dX0_addRow_113 0 rfl ?_
            refine z_iload_n C dX0_addRow_114 1 rfl ?_
            refine z_topi (nI (ix p0)) i_p0 ?_
            refine z_iload_n C dX0_addRow_115 2 rfl ?_
            refine z_topi (nI (ix p1)) i_p1 ?_
            refine z_iload_n C dX0_addRow_116 3 rfl ?_
            refine z_callVi_all (As := [.int (nI (ix p0)), .int (nI (ix p1)), .int p2]) C (c0_coefficientsFit l D K a N M S rl rh bl bh kl kh mn vc iv sc (ix p0) (ix p1) p2 (by omega) (by omega) (by omega)) (cwV 3 C.1.2.2.2.2 gX0_addRow_X0_coefficientsFit rfl rfl rfl (by decide +kernel) ⟨Nat.le_of_ble_eq_true rfl, Nat.le_of_ble_eq_true rfl⟩) (ci := 0) rfl rfl 0 rfl dX0_addRow_117 rfl rfl (Nat.le_of_ble_eq_true rfl) ⟨Nat.le_of_ble_eq_true rfl, Nat.le_of_ble_eq_true rfl⟩ (fun r7 u7 h7 => ?_)
            obtain ⟨rfl, rfl⟩ := h7
            refine z_if_ne (tgt := 133) C dX0_addRow_120 (by decide) (fun c120 => ?_) (fun c120 => ?_)
            · have q120 : ∀ t, t < N → (-99 ≤ M (ix p0) t + p2 * M (ix p1) t ∧ M (ix p0) t + p2 * M (ix p1) t ≤ 99) := zi1.mp c120
              refine z_aload_n C dX0_addRow_133 0 rfl ?_
              refine z_get (cl := vwCl) (T := TX0) (N := 13) (ci := 0) (ref := "IntervalSolver") C hinX0 rfl 3 (by decide) lk4 rfl dX0_addRow_134 0 rfl rfl ?_
              refine z_iload_n C dX0_addRow_137 1 rfl ?_
              refine z_iload C dX0_addRow_138 4 rfl ?_
              refine z_iast (ws' := w0 K a (N, M, S, upd rl (ix p0) ((rl (ix p0)) + (pLow p2 (rl (ix p1)) (rh (ix p1)))), rh, bl, bh, kl, kh, mn, vc, iv, sc)) C 0 rfl 3 rfl dX0_addRow_140 (ix p0) i_p0 (by omega) (by decide) rfl ?_
              refine z_aload_n C dX0_addRow_141 0 rfl ?_
              refine z_get (cl := vwCl) (T := TX0) (N := 13) (ci := 0) (ref := "IntervalSolver") C hinX0 rfl 4 (by decide) lk5 rfl dX0_addRow_142 0 rfl rfl ?_
              refine z_iload_n C dX0_addRow_145 1 rfl ?_
              refine z_iload C dX0_addRow_146 5 rfl ?_
              refine z_iast (ws' := w0 K a (N, M, S, upd rl (ix p0) ((rl (ix p0)) + (pLow p2 (rl (ix p1)) (rh (ix p1)))), upd rh (ix p0) ((rh (ix p0)) + (pHigh p2 (rl (ix p1)) (rh (ix p1)))), bl, bh, kl, kh, mn, vc, iv, sc)) C 0 rfl 4 rfl dX0_addRow_148 (ix p0) i_p0 (by omega) (by decide) rfl ?_
              refine z_aload_n C dX0_addRow_149 0 rfl ?_
              refine z_iload_n C dX0_addRow_150 1 rfl ?_
              refine z_topi (nI (ix p0)) i_p0 ?_
              refine z_iload_n C dX0_addRow_151 2 rfl ?_
              refine z_topi (nI (ix p1)) i_p1 ?_
              refine z_iload_n C dX0_addRow_152 3 rfl ?_
              refine z_callVi_all (As := [.int (nI (ix p0)), .int (nI (ix p1)), .int p2]) C (c0_addCoefficients l D K a N M S (upd rl (ix p0) ((rl (ix p0)) + (pLow p2 (rl (ix p1)) (rh (ix p1))))) (upd rh (ix p0) ((rh (ix p0)) + (pHigh p2 (rl (ix p1)) (rh (ix p1))))) bl bh kl kh mn vc iv sc (ix p0) (ix p1) p2 (by omega) (by omega) (by omega)) (cwV 3 C.1.2.2.2.2 gX0_addRow_X0_addCoefficients rfl rfl rfl (by decide +kernel) ⟨Nat.le_of_ble_eq_true rfl, Nat.le_of_ble_eq_true rfl⟩) (ci := 0) rfl rfl 0 rfl dX0_addRow_153 rfl rfl (Nat.le_of_ble_eq_true rfl) ⟨Nat.le_of_ble_eq_true rfl, Nat.le_of_ble_eq_true rfl⟩ (fun r8 u8 h8 => ?_)
              obtain ⟨rfl, rfl⟩ := h8
              exact hend _ _ _ _ _ (N, acM M (ix p0) (ix p1) p2 N, S, upd rl (ix p0) ((rl (ix p0)) + (pLow p2 (rl (ix p1)) (rh (ix p1)))), upd rh (ix p0) ((rh (ix p0)) + (pHigh p2 (rl (ix p1)) (rh (ix p1)))), bl, bh, kl, kh, mn, vc, iv, sc) dX0_addRow_156 (by omega) (by omega) ⟨by unfold kAdd0; rw [if_pos ⟨q5, q13⟩, if_pos ⟨c28, q37⟩, if_pos ⟨q110, q120⟩], rfl, rfl⟩
            · have q120 : ¬ (∀ t, t < N → (-99 ≤ M (ix p0) t + p2 * M (ix p1) t ∧ M (ix p0) t + p2 * M (ix p1) t ≤ 99)) := zi0.mp c120
              exact hthr _ _ _ _ 104 106 108 "java/lang/ArithmeticException" "the sum of the rows leaves the range of a system" (N, M, S, rl, rh, bl, bh, kl, kh, mn, vc, iv, sc) lk6 lk7 (by decide +kernel) (fun w hw => List.mem_cons_of_mem _ (List.mem_append_right _ hw)) (by decide +kernel) dX0_addRow_123 dX0_addRow_126 dX0_addRow_127 dX0_addRow_129 dX0_addRow_132 ⟨Nat.le_of_ble_eq_true rfl, Nat.le_of_ble_eq_true rfl, Nat.le_of_ble_eq_true rfl, Nat.le_of_ble_eq_true rfl⟩ (Nat.le_of_ble_eq_true rfl) (Nat.le_of_ble_eq_true rfl) ⟨Or.inr (Or.inr (⟨by unfold kAdd0; rw [if_pos ⟨q5, q13⟩, if_pos ⟨c28, q37⟩, if_neg (by rintro ⟨h1, h2⟩; first | exact q110 h1 | exact q120 h2)], rfl⟩)), rfl⟩
        · have q37 : ¬ (-99 ≤ p2 ∧ p2 ≤ 99) := zi0.mp c37
          exact hthr _ _ _ _ 52 92 56 "java/lang/IllegalArgumentException" "the same row, or a factor that is not -99 to 99" (N, M, S, rl, rh, bl, bh, kl, kh, mn, vc, iv, sc) lk2 lk3 (by decide +kernel) (fun w hw => List.mem_cons_of_mem _ (List.mem_append_left _ (List.mem_append_right _ hw))) (by decide +kernel) dX0_addRow_40 dX0_addRow_43 dX0_addRow_44 dX0_addRow_46 dX0_addRow_49 ⟨Nat.le_of_ble_eq_true rfl, Nat.le_of_ble_eq_true rfl, Nat.le_of_ble_eq_true rfl, Nat.le_of_ble_eq_true rfl⟩ (Nat.le_of_ble_eq_true rfl) (Nat.le_of_ble_eq_true rfl) ⟨Or.inr (Or.inl (⟨by unfold kAdd0; rw [if_pos ⟨q5, q13⟩, if_neg (by rintro ⟨h1, h2⟩; first | exact h1 c28 | exact q37 h2)], rfl⟩)), rfl⟩
    · have q13 : ¬ (ixP N p1) := zi0.mp c13
      exact hthr _ _ _ _ 67 78 71 "java/lang/IndexOutOfBoundsException" "no such row" (N, M, S, rl, rh, bl, bh, kl, kh, mn, vc, iv, sc) lk0 lk1 (by decide +kernel) (fun w hw => List.mem_cons_of_mem _ (List.mem_append_left _ (List.mem_append_left _ (List.mem_append_right _ hw)))) (by decide +kernel) dX0_addRow_16 dX0_addRow_19 dX0_addRow_20 dX0_addRow_22 dX0_addRow_25 ⟨Nat.le_of_ble_eq_true rfl, Nat.le_of_ble_eq_true rfl, Nat.le_of_ble_eq_true rfl, Nat.le_of_ble_eq_true rfl⟩ (Nat.le_of_ble_eq_true rfl) (Nat.le_of_ble_eq_true rfl) ⟨Or.inl (⟨if_neg (by rintro ⟨h1, h2⟩; first | exact q5 h1 | exact q13 h2), rfl⟩), rfl⟩

set_option maxRecDepth 100000 in
set_option maxHeartbeats 4000000 in
theorem c0_lowNumerator (l : Launch) (D : va_G) (K : Nat → ClassId) (a : Nat → Nat) (N : Nat) (M : Nat → Nat → Int32) (S : Nat → Nat → Int32) (rl : Nat → Int32) (rh : Nat → Int32) (bl : Nat → Int32) (bh : Nat → Int32) (kl : Nat → Int32) (kh : Nat → Int32) (mn : Nat → Int64) (vc : Nat → Int64) (iv : Nat → Nat → Int64) (sc : Int64) (p0 : Int32) (hst : l.stackTraces = false) (hN : N ≤ 5) : xL l D K yX0_lowNumerator wsX0_lowNumerator 6 97 1 6 [.ref (a 0), .int p0] (w0 K a (N, M, S, rl, rh, bl, bh, kl, kh, mn, vc, iv, sc)) (fun r u => kHul N M p0 = 0 ∧ r = redC (hul (ivF M N (ix p0)) rl rh N) (absL (detM M N)) ∧ ∃ mn1 iv1 sc1, u = (N, M, S, rl, rh, bl, bh, kl, kh, mn1, vc, iv1, sc1)) (fun E u => ((kHul N M p0 = 1 ∧ E = "java/lang/IndexOutOfBoundsException") ∨ (kHul N M p0 = 2 ∧ E = "java/lang/ArithmeticException")) ∧ ∃ mn1 iv1 sc1, u = (N, M, S, rl, rh, bl, bh, kl, kh, mn1, vc, iv1, sc1)) (w0 K a) := by
  have hinX0 : ∀ w ∈ wsX00, w ∈ wsX0_lowNumerator := by decide +kernel
  have lk0 : Cond.fieldLink RX0 131 "IntervalSolver" "scale" "J" ∈ wsX0_lowNumerator := by decide +kernel
  have lk1 : Cond.classLink RX0 104 "java/lang/ArithmeticException" ∈ wsX0_lowNumerator := by decide +kernel
  have lk2 : Cond.initialized "java/lang/ArithmeticException" ∈ wsX0_lowNumerator := by decide +kernel
  have lk3 : Cond.classLink RX0 67 "java/lang/IndexOutOfBoundsException" ∈ wsX0_lowNumerator := by decide +kernel
  have lk4 : Cond.initialized "java/lang/IndexOutOfBoundsException" ∈ wsX0_lowNumerator := by decide +kernel
  refine x_met_l (cc := cX0_lowNumerator) (maxL := 2) (lv := [(0, .ref (a 0)), (1, .int p0)]) hst (by decide +kernel) rfl rfl (Nat.le_of_ble_eq_true rfl) rfl ?_
  intro p e s m below meth c args Q A C hend hthr
  refine z_aload_n C dX0_lowNumerator_0 0 rfl ?_
  refine z_iload_n C dX0_lowNumerator_1 1 rfl ?_
  refine z_callVi_all (As := [.int p0]) C (c0_isIndex l D K a N M S rl rh bl bh kl kh mn vc iv sc p0) (cwV 1 C.1.2.2.2.2 gX0_lowNumerator_X0_isIndex rfl rfl rfl (by decide +kernel) ⟨Nat.le_of_ble_eq_true rfl, Nat.le_of_ble_eq_true rfl⟩) (ci := 0) rfl rfl 0 rfl dX0_lowNumerator_2 rfl rfl (Nat.le_of_ble_eq_true rfl) ⟨Nat.le_of_ble_eq_true rfl, Nat.le_of_ble_eq_true rfl⟩ (fun r1 u1 h1 => ?_)
  obtain ⟨rfl, rfl⟩ := h1
  refine z_if_ne (tgt := 18) C dX0_lowNumerator_5 (by decide) (fun c5 => ?_) (fun c5 => ?_)
  · have q5 : ixP N p0 := zi1.mp c5
    obtain ⟨i_p0, l_p0⟩ := ixP_at hN q5
    refine z_aload_n C dX0_lowNumerator_18 0 rfl ?_
    refine z_callVi_all (As := []) C (c0_invert l D K a N M S rl rh bl bh kl kh mn vc iv sc (by omega)) (cwV 0 C.1.2.2.2.2 gX0_lowNumerator_X0_invert rfl rfl rfl (by decide +kernel) ⟨Nat.le_of_ble_eq_true rfl, Nat.le_of_ble_eq_true rfl⟩) (ci := 0) rfl rfl 0 rfl dX0_lowNumerator_19 rfl rfl (Nat.le_of_ble_eq_true rfl) ⟨Nat.le_of_ble_eq_true rfl, Nat.le_of_ble_eq_true rfl⟩ (fun r2 u2 h2 => ?_)
    obtain ⟨mn_2, iv_2, sc_2, rfl, hr_2, hvv⟩ := inv_out h2
    subst hr_2
    refine z_if_ne (tgt := 35) C dX0_lowNumerator_22 (by decide) (fun c22 => ?_) (fun c22 => ?_)
    · have q22 : ¬ detM M N = 0 := zi1.mp c22
      have hd := q22
      obtain ⟨hiv, hsc⟩ := hvv hd
      refine z_aload_n C dX0_lowNumerator_35 0 rfl ?_
      refine z_iload_n C dX0_lowNumerator_36 1 rfl ?_
      refine z_topi (nI (ix p0)) i_p0 ?_
      refine z_callVl_all (As := [.int (nI (ix p0))]) C (c0_scaledHullLow l D K a N M S rl rh bl bh kl kh mn_2 vc iv_2 sc_2 (ix p0) (by omega) (by omega)) (cwV 1 C.1.2.2.2.2 gX0_lowNumerator_X0_scaledHullLow rfl rfl rfl (by decide +kernel) ⟨Nat.le_of_ble_eq_true rfl, Nat.le_of_ble_eq_true rfl⟩) (ci := 0) rfl rfl 0 rfl dX0_lowNumerator_37 rfl rfl (Nat.le_of_ble_eq_true rfl) ⟨Nat.le_of_ble_eq_true rfl, Nat.le_of_ble_eq_true rfl⟩ (fun r3 u3 h3 => ?_)
      obtain ⟨rfl, rfl⟩ := h3
      refine z_aload_n C dX0_lowNumerator_40 0 rfl ?_
      refine z_get (cl := vwCl) (T := TX0) (N := 13) (ci := 0) (ref := "IntervalSolver") C hinX0 rfl 12 (by decide) lk0 rfl dX0_lowNumerator_41 0 rfl rfl ?_
      refine z_callSl_none (As := [.long (hul (iv_2 (ix p0)) rl rh N), .long sc_2]) C (c0_reduced l D K (hul (iv_2 (ix p0)) rl rh N) sc_2) (va_cwS 2 C.1.2.2.2.2 gX0_lowNumerator_X0_reduced rfl rfl rfl (by decide +kernel) ⟨Nat.le_of_ble_eq_true rfl, Nat.le_of_ble_eq_true rfl⟩) dX0_lowNumerator_44 rfl rfl (Nat.le_of_ble_eq_true rfl) ⟨Nat.le_of_ble_eq_true rfl, Nat.le_of_ble_eq_true rfl⟩ (fun r4 u4 h4 => ?_)
      have g4 : r4 = redC (hul (iv_2 (ix p0)) rl rh N) sc_2 := h4
      rw [g4]
      exact hend _ _ _ _ _ (N, M, S, rl, rh, bl, bh, kl, kh, mn_2, vc, iv_2, sc_2) dX0_lowNumerator_47 (by omega) (by omega) ⟨by unfold kHul; rw [if_pos q5, if_neg hd], by rw [hul_congr (fun j hj => hiv (ix p0) j (by omega) hj), hsc], _, _, _, rfl⟩
    · have q22 : ¬ (¬ detM M N = 0) := zi0.mp c22
      have hd0 := Decidable.of_not_not q22
      exact hthr _ _ _ _ 104 125 108 "java/lang/ArithmeticException" "the determinant is 0" (N, M, S, rl, rh, bl, bh, kl, kh, mn_2, vc, iv_2, sc_2) lk1 lk2 (by decide +kernel) (fun w hw => List.mem_cons_of_mem _ (List.mem_append_right _ hw)) (by decide +kernel) dX0_lowNumerator_25 dX0_lowNumerator_28 dX0_lowNumerator_29 dX0_lowNumerator_31 dX0_lowNumerator_34 ⟨Nat.le_of_ble_eq_true rfl, Nat.le_of_ble_eq_true rfl, Nat.le_of_ble_eq_true rfl, Nat.le_of_ble_eq_true rfl⟩ (Nat.le_of_ble_eq_true rfl) (Nat.le_of_ble_eq_true rfl) ⟨Or.inr (⟨by unfold kHul; rw [if_pos q5, if_pos hd0], rfl⟩), _, _, _, rfl⟩
  · have q5 : ¬ (ixP N p0) := zi0.mp c5
    exact hthr _ _ _ _ 67 119 71 "java/lang/IndexOutOfBoundsException" "no such component" (N, M, S, rl, rh, bl, bh, kl, kh, mn, vc, iv, sc) lk3 lk4 (by decide +kernel) (fun w hw => List.mem_cons_of_mem _ (List.mem_append_left _ (List.mem_append_right _ hw))) (by decide +kernel) dX0_lowNumerator_8 dX0_lowNumerator_11 dX0_lowNumerator_12 dX0_lowNumerator_14 dX0_lowNumerator_17 ⟨Nat.le_of_ble_eq_true rfl, Nat.le_of_ble_eq_true rfl, Nat.le_of_ble_eq_true rfl, Nat.le_of_ble_eq_true rfl⟩ (Nat.le_of_ble_eq_true rfl) (Nat.le_of_ble_eq_true rfl) ⟨Or.inl (⟨if_neg q5, rfl⟩), _, _, _, rfl⟩

set_option maxRecDepth 100000 in
set_option maxHeartbeats 4000000 in
theorem c0_lowDenominator (l : Launch) (D : va_G) (K : Nat → ClassId) (a : Nat → Nat) (N : Nat) (M : Nat → Nat → Int32) (S : Nat → Nat → Int32) (rl : Nat → Int32) (rh : Nat → Int32) (bl : Nat → Int32) (bh : Nat → Int32) (kl : Nat → Int32) (kh : Nat → Int32) (mn : Nat → Int64) (vc : Nat → Int64) (iv : Nat → Nat → Int64) (sc : Int64) (p0 : Int32) (hst : l.stackTraces = false) (hN : N ≤ 5) : xL l D K yX0_lowDenominator wsX0_lowDenominator 6 97 1 6 [.ref (a 0), .int p0] (w0 K a (N, M, S, rl, rh, bl, bh, kl, kh, mn, vc, iv, sc)) (fun r u => kHul N M p0 = 0 ∧ r = redC (absL (detM M N)) (hul (ivF M N (ix p0)) rl rh N) ∧ ∃ mn1 iv1 sc1, u = (N, M, S, rl, rh, bl, bh, kl, kh, mn1, vc, iv1, sc1)) (fun E u => ((kHul N M p0 = 1 ∧ E = "java/lang/IndexOutOfBoundsException") ∨ (kHul N M p0 = 2 ∧ E = "java/lang/ArithmeticException")) ∧ ∃ mn1 iv1 sc1, u = (N, M, S, rl, rh, bl, bh, kl, kh, mn1, vc, iv1, sc1)) (w0 K a) := by
  have hinX0 : ∀ w ∈ wsX00, w ∈ wsX0_lowDenominator := by decide +kernel
  have lk0 : Cond.fieldLink RX0 131 "IntervalSolver" "scale" "J" ∈ wsX0_lowDenominator := by decide +kernel
  have lk1 : Cond.classLink RX0 104 "java/lang/ArithmeticException" ∈ wsX0_lowDenominator := by decide +kernel
  have lk2 : Cond.initialized "java/lang/ArithmeticException" ∈ wsX0_lowDenominator := by decide +kernel
  have lk3 : Cond.classLink RX0 67 "java/lang/IndexOutOfBoundsException" ∈ wsX0_lowDenominator := by decide +kernel
  have lk4 : Cond.initialized "java/lang/IndexOutOfBoundsException" ∈ wsX0_lowDenominator := by decide +kernel
  refine x_met_l (cc := cX0_lowDenominator) (maxL := 2) (lv := [(0, .ref (a 0)), (1, .int p0)]) hst (by decide +kernel) rfl rfl (Nat.le_of_ble_eq_true rfl) rfl ?_
  intro p e s m below meth c args Q A C hend hthr
  refine z_aload_n C dX0_lowDenominator_0 0 rfl ?_
  refine z_iload_n C dX0_lowDenominator_1 1 rfl ?_
  refine z_callVi_all (As := [.int p0]) C (c0_isIndex l D K a N M S rl rh bl bh kl kh mn vc iv sc p0) (cwV 1 C.1.2.2.2.2 gX0_lowDenominator_X0_isIndex rfl rfl rfl (by decide +kernel) ⟨Nat.le_of_ble_eq_true rfl, Nat.le_of_ble_eq_true rfl⟩) (ci := 0) rfl rfl 0 rfl dX0_lowDenominator_2 rfl rfl (Nat.le_of_ble_eq_true rfl) ⟨Nat.le_of_ble_eq_true rfl, Nat.le_of_ble_eq_true rfl⟩ (fun r1 u1 h1 => ?_)
  obtain ⟨rfl, rfl⟩ := h1
  refine z_if_ne (tgt := 18) C dX0_lowDenominator_5 (by decide) (fun c5 => ?_) (fun c5 => ?_)
  · have q5 : ixP N p0 := zi1.mp c5
    obtain ⟨i_p0, l_p0⟩ := ixP_at hN q5
    refine z_aload_n C dX0_lowDenominator_18 0 rfl ?_
    refine z_callVi_all (As := []) C (c0_invert l D K a N M S rl rh bl bh kl kh mn vc iv sc (by omega)) (cwV 0 C.1.2.2.2.2 gX0_lowDenominator_X0_invert rfl rfl rfl (by decide +kernel) ⟨Nat.le_of_ble_eq_true rfl, Nat.le_of_ble_eq_true rfl⟩) (ci := 0) rfl rfl 0 rfl dX0_lowDenominator_19 rfl rfl (Nat.le_of_ble_eq_true rfl) ⟨Nat.le_of_ble_eq_true rfl, Nat.le_of_ble_eq_true rfl⟩ (fun r2 u2 h2 => ?_)
    obtain ⟨mn_2, iv_2, sc_2, rfl, hr_2, hvv⟩ := inv_out h2
    subst hr_2
    refine z_if_ne (tgt := 35) C dX0_lowDenominator_22 (by decide) (fun c22 => ?_) (fun c22 => ?_)
    · have q22 : ¬ detM M N = 0 := zi1.mp c22
      have hd := q22
      obtain ⟨hiv, hsc⟩ := hvv hd
      refine z_aload_n C dX0_lowDenominator_35 0 rfl ?_
      refine z_get (cl := vwCl) (T := TX0) (N := 13) (ci := 0) (ref := "IntervalSolver") C hinX0 rfl 12 (by decide) lk0 rfl dX0_lowDenominator_36 0 rfl rfl ?_
      refine z_aload_n C dX0_lowDenominator_39 0 rfl ?_
      refine z_iload_n C dX0_lowDenominator_40 1 rfl ?_
      refine z_topi (nI (ix p0)) i_p0 ?_
      refine z_callVl_all (As := [.int (nI (ix p0))]) C (c0_scaledHullLow l D K a N M S rl rh bl bh kl kh mn_2 vc iv_2 sc_2 (ix p0) (by omega) (by omega)) (cwV 1 C.1.2.2.2.2 gX0_lowDenominator_X0_scaledHullLow rfl rfl rfl (by decide +kernel) ⟨Nat.le_of_ble_eq_true rfl, Nat.le_of_ble_eq_true rfl⟩) (ci := 0) rfl rfl 0 rfl dX0_lowDenominator_41 rfl rfl (Nat.le_of_ble_eq_true rfl) ⟨Nat.le_of_ble_eq_true rfl, Nat.le_of_ble_eq_true rfl⟩ (fun r3 u3 h3 => ?_)
      obtain ⟨rfl, rfl⟩ := h3
      refine z_callSl_none (As := [.long sc_2, .long (hul (iv_2 (ix p0)) rl rh N)]) C (c0_reduced l D K sc_2 (hul (iv_2 (ix p0)) rl rh N)) (va_cwS 2 C.1.2.2.2.2 gX0_lowDenominator_X0_reduced rfl rfl rfl (by decide +kernel) ⟨Nat.le_of_ble_eq_true rfl, Nat.le_of_ble_eq_true rfl⟩) dX0_lowDenominator_44 rfl rfl (Nat.le_of_ble_eq_true rfl) ⟨Nat.le_of_ble_eq_true rfl, Nat.le_of_ble_eq_true rfl⟩ (fun r4 u4 h4 => ?_)
      have g4 : r4 = redC sc_2 (hul (iv_2 (ix p0)) rl rh N) := h4
      rw [g4]
      exact hend _ _ _ _ _ (N, M, S, rl, rh, bl, bh, kl, kh, mn_2, vc, iv_2, sc_2) dX0_lowDenominator_47 (by omega) (by omega) ⟨by unfold kHul; rw [if_pos q5, if_neg hd], by rw [hul_congr (fun j hj => hiv (ix p0) j (by omega) hj), hsc], _, _, _, rfl⟩
    · have q22 : ¬ (¬ detM M N = 0) := zi0.mp c22
      have hd0 := Decidable.of_not_not q22
      exact hthr _ _ _ _ 104 125 108 "java/lang/ArithmeticException" "the determinant is 0" (N, M, S, rl, rh, bl, bh, kl, kh, mn_2, vc, iv_2, sc_2) lk1 lk2 (by decide +kernel) (fun w hw => List.mem_cons_of_mem _ (List.mem_append_right _ hw)) (by decide +kernel) dX0_lowDenominator_25 dX0_lowDenominator_28 dX0_lowDenominator_29 dX0_lowDenominator_31 dX0_lowDenominator_34 ⟨Nat.le_of_ble_eq_true rfl, Nat.le_of_ble_eq_true rfl, Nat.le_of_ble_eq_true rfl, Nat.le_of_ble_eq_true rfl⟩ (Nat.le_of_ble_eq_true rfl) (Nat.le_of_ble_eq_true rfl) ⟨Or.inr (⟨by unfold kHul; rw [if_pos q5, if_pos hd0], rfl⟩), _, _, _, rfl⟩
  · have q5 : ¬ (ixP N p0) := zi0.mp c5
    exact hthr _ _ _ _ 67 119 71 "java/lang/IndexOutOfBoundsException" "no such component" (N, M, S, rl, rh, bl, bh, kl, kh, mn, vc, iv, sc) lk3 lk4 (by decide +kernel) (fun w hw => List.mem_cons_of_mem _ (List.mem_append_left _ (List.mem_append_right _ hw))) (by decide +kernel) dX0_lowDenominator_8 dX0_lowDenominator_11 dX0_lowDenominator_12 dX0_lowDenominator_14 dX0_lowDenominator_17 ⟨Nat.le_of_ble_eq_true rfl, Nat.le_of_ble_eq_true rfl, Nat.le_of_ble_eq_true rfl, Nat.le_of_ble_eq_true rfl⟩ (Nat.le_of_ble_eq_true rfl) (Nat.le_of_ble_eq_true rfl) ⟨Or.inl (⟨if_neg q5, rfl⟩), _, _, _, rfl⟩

set_option maxRecDepth 100000 in
set_option maxHeartbeats 4000000 in
theorem c0_highNumerator (l : Launch) (D : va_G) (K : Nat → ClassId) (a : Nat → Nat) (N : Nat) (M : Nat → Nat → Int32) (S : Nat → Nat → Int32) (rl : Nat → Int32) (rh : Nat → Int32) (bl : Nat → Int32) (bh : Nat → Int32) (kl : Nat → Int32) (kh : Nat → Int32) (mn : Nat → Int64) (vc : Nat → Int64) (iv : Nat → Nat → Int64) (sc : Int64) (p0 : Int32) (hst : l.stackTraces = false) (hN : N ≤ 5) : xL l D K yX0_highNumerator wsX0_highNumerator 6 97 1 6 [.ref (a 0), .int p0] (w0 K a (N, M, S, rl, rh, bl, bh, kl, kh, mn, vc, iv, sc)) (fun r u => kHul N M p0 = 0 ∧ r = redC (hul (ivF M N (ix p0)) rh rl N) (absL (detM M N)) ∧ ∃ mn1 iv1 sc1, u = (N, M, S, rl, rh, bl, bh, kl, kh, mn1, vc, iv1, sc1)) (fun E u => ((kHul N M p0 = 1 ∧ E = "java/lang/IndexOutOfBoundsException") ∨ (kHul N M p0 = 2 ∧ E = "java/lang/ArithmeticException")) ∧ ∃ mn1 iv1 sc1, u = (N, M, S, rl, rh, bl, bh, kl, kh, mn1, vc, iv1, sc1)) (w0 K a) := by
  have hinX0 : ∀ w ∈ wsX00, w ∈ wsX0_highNumerator := by decide +kernel
  have lk0 : Cond.fieldLink RX0 131 "IntervalSolver" "scale" "J" ∈ wsX0_highNumerator := by decide +kernel
  have lk1 : Cond.classLink RX0 104 "java/lang/ArithmeticException" ∈ wsX0_highNumerator := by decide +kernel
  have lk2 : Cond.initialized "java/lang/ArithmeticException" ∈ wsX0_highNumerator := by decide +kernel
  have lk3 : Cond.classLink RX0 67 "java/lang/IndexOutOfBoundsException" ∈ wsX0_highNumerator := by decide +kernel
  have lk4 : Cond.initialized "java/lang/IndexOutOfBoundsException" ∈ wsX0_highNumerator := by decide +kernel
  refine x_met_l (cc := cX0_highNumerator) (maxL := 2) (lv := [(0, .ref (a 0)), (1, .int p0)]) hst (by decide +kernel) rfl rfl (Nat.le_of_ble_eq_true rfl) rfl ?_
  intro p e s m below meth c args Q A C hend hthr
  refine z_aload_n C dX0_highNumerator_0 0 rfl ?_
  refine z_iload_n C dX0_highNumerator_1 1 rfl ?_
  refine z_callVi_all (As := [.int p0]) C (c0_isIndex l D K a N M S rl rh bl bh kl kh mn vc iv sc p0) (cwV 1 C.1.2.2.2.2 gX0_highNumerator_X0_isIndex rfl rfl rfl (by decide +kernel) ⟨Nat.le_of_ble_eq_true rfl, Nat.le_of_ble_eq_true rfl⟩) (ci := 0) rfl rfl 0 rfl dX0_highNumerator_2 rfl rfl (Nat.le_of_ble_eq_true rfl) ⟨Nat.le_of_ble_eq_true rfl, Nat.le_of_ble_eq_true rfl⟩ (fun r1 u1 h1 => ?_)
  obtain ⟨rfl, rfl⟩ := h1
  refine z_if_ne (tgt := 18) C dX0_highNumerator_5 (by decide) (fun c5 => ?_) (fun c5 => ?_)
  · have q5 : ixP N p0 := zi1.mp c5
    obtain ⟨i_p0, l_p0⟩ := ixP_at hN q5
    refine z_aload_n C dX0_highNumerator_18 0 rfl ?_
    refine z_callVi_all (As := []) C (c0_invert l D K a N M S rl rh bl bh kl kh mn vc iv sc (by omega)) (cwV 0 C.1.2.2.2.2 gX0_highNumerator_X0_invert rfl rfl rfl (by decide +kernel) ⟨Nat.le_of_ble_eq_true rfl, Nat.le_of_ble_eq_true rfl⟩) (ci := 0) rfl rfl 0 rfl dX0_highNumerator_19 rfl rfl (Nat.le_of_ble_eq_true rfl) ⟨Nat.le_of_ble_eq_true rfl, Nat.le_of_ble_eq_true rfl⟩ (fun r2 u2 h2 => ?_)
    obtain ⟨mn_2, iv_2, sc_2, rfl, hr_2, hvv⟩ := inv_out h2
    subst hr_2
    refine z_if_ne (tgt := 35) C dX0_highNumerator_22 (by decide) (fun c22 => ?_) (fun c22 => ?_)
    · have q22 : ¬ detM M N = 0 := zi1.mp c22
      have hd := q22
      obtain ⟨hiv, hsc⟩ := hvv hd
      refine z_aload_n C dX0_highNumerator_35 0 rfl ?_
      refine z_iload_n C dX0_highNumerator_36 1 rfl ?_
      refine z_topi (nI (ix p0)) i_p0 ?_
      refine z_callVl_all (As := [.int (nI (ix p0))]) C (c0_scaledHullHigh l D K a N M S rl rh bl bh kl kh mn_2 vc iv_2 sc_2 (ix p0) (by omega) (by omega)) (cwV 1 C.1.2.2.2.2 gX0_highNumerator_X0_scaledHullHigh rfl rfl rfl (by decide +kernel) ⟨Nat.le_of_ble_eq_true rfl, Nat.le_of_ble_eq_true rfl⟩) (ci := 0) rfl rfl 0 rfl dX0_highNumerator_37 rfl rfl (Nat.le_of_ble_eq_true rfl) ⟨Nat.le_of_ble_eq_true rfl, Nat.le_of_ble_eq_true rfl⟩ (fun r3 u3 h3 => ?_)
      obtain ⟨rfl, rfl⟩ := h3
      refine z_aload_n C dX0_highNumerator_40 0 rfl ?_
      refine z_get (cl := vwCl) (T := TX0) (N := 13) (ci := 0) (ref := "IntervalSolver") C hinX0 rfl 12 (by decide) lk0 rfl dX0_highNumerator_41 0 rfl rfl ?_
      refine z_callSl_none (As := [.long (hul (iv_2 (ix p0)) rh rl N), .long sc_2]) C (c0_reduced l D K (hul (iv_2 (ix p0)) rh rl N) sc_2) (va_cwS 2 C.1.2.2.2.2 gX0_highNumerator_X0_reduced rfl rfl rfl (by decide +kernel) ⟨Nat.le_of_ble_eq_true rfl, Nat.le_of_ble_eq_true rfl⟩) dX0_highNumerator_44 rfl rfl (Nat.le_of_ble_eq_true rfl) ⟨Nat.le_of_ble_eq_true rfl, Nat.le_of_ble_eq_true rfl⟩ (fun r4 u4 h4 => ?_)
      have g4 : r4 = redC (hul (iv_2 (ix p0)) rh rl N) sc_2 := h4
      rw [g4]
      exact hend _ _ _ _ _ (N, M, S, rl, rh, bl, bh, kl, kh, mn_2, vc, iv_2, sc_2) dX0_highNumerator_47 (by omega) (by omega) ⟨by unfold kHul; rw [if_pos q5, if_neg hd], by rw [hul_congr (fun j hj => hiv (ix p0) j (by omega) hj), hsc], _, _, _, rfl⟩
    · have q22 : ¬ (¬ detM M N = 0) := zi0.mp c22
      have hd0 := Decidable.of_not_not q22
      exact hthr _ _ _ _ 104 125 108 "java/lang/ArithmeticException" "the determinant is 0" (N, M, S, rl, rh, bl, bh, kl, kh, mn_2, vc, iv_2, sc_2) lk1 lk2 (by decide +kernel) (fun w hw => List.mem_cons_of_mem _ (List.mem_append_right _ hw)) (by decide +kernel) dX0_highNumerator_25 dX0_highNumerator_28 dX0_highNumerator_29 dX0_highNumerator_31 dX0_highNumerator_34 ⟨Nat.le_of_ble_eq_true rfl, Nat.le_of_ble_eq_true rfl, Nat.le_of_ble_eq_true rfl, Nat.le_of_ble_eq_true rfl⟩ (Nat.le_of_ble_eq_true rfl) (Nat.le_of_ble_eq_true rfl) ⟨Or.inr (⟨by unfold kHul; rw [if_pos q5, if_pos hd0], rfl⟩), _, _, _, rfl⟩
  · have q5 : ¬ (ixP N p0) := zi0.mp c5
    exact hthr _ _ _ _ 67 119 71 "java/lang/IndexOutOfBoundsException" "no such component" (N, M, S, rl, rh, bl, bh, kl, kh, mn, vc, iv, sc) lk3 lk4 (by decide +kernel) (fun w hw => List.mem_cons_of_mem _ (List.mem_append_left _ (List.mem_append_right _ hw))) (by decide +kernel) dX0_highNumerator_8 dX0_highNumerator_11 dX0_highNumerator_12 dX0_highNumerator_14 dX0_highNumerator_17 ⟨Nat.le_of_ble_eq_true rfl, Nat.le_of_ble_eq_true rfl, Nat.le_of_ble_eq_true rfl, Nat.le_of_ble_eq_true rfl⟩ (Nat.le_of_ble_eq_true rfl) (Nat.le_of_ble_eq_true rfl) ⟨Or.inl (⟨if_neg q5, rfl⟩), _, _, _, rfl⟩

set_option maxRecDepth 100000 in
set_option maxHeartbeats 4000000 in
theorem c0_highDenominator (l : Launch) (D : va_G) (K : Nat → ClassId) (a : Nat → Nat) (N : Nat) (M : Nat → Nat → Int32) (S : Nat → Nat → Int32) (rl : Nat → Int32) (rh : Nat → Int32) (bl : Nat → Int32) (bh : Nat → Int32) (kl : Nat → Int32) (kh : Nat → Int32) (mn : Nat → Int64) (vc : Nat → Int64) (iv : Nat → Nat → Int64) (sc : Int64) (p0 : Int32) (hst : l.stackTraces = false) (hN : N ≤ 5) : xL l D K yX0_highDenominator wsX0_highDenominator 6 97 1 6 [.ref (a 0), .int p0] (w0 K a (N, M, S, rl, rh, bl, bh, kl, kh, mn, vc, iv, sc)) (fun r u => kHul N M p0 = 0 ∧ r = redC (absL (detM M N)) (hul (ivF M N (ix p0)) rh rl N) ∧ ∃ mn1 iv1 sc1, u = (N, M, S, rl, rh, bl, bh, kl, kh, mn1, vc, iv1, sc1)) (fun E u => ((kHul N M p0 = 1 ∧ E = "java/lang/IndexOutOfBoundsException") ∨ (kHul N M p0 = 2 ∧ E = "java/lang/ArithmeticException")) ∧ ∃ mn1 iv1 sc1, u = (N, M, S, rl, rh, bl, bh, kl, kh, mn1, vc, iv1, sc1)) (w0 K a) := by
  have hinX0 : ∀ w ∈ wsX00, w ∈ wsX0_highDenominator := by decide +kernel
  have lk0 : Cond.fieldLink RX0 131 "IntervalSolver" "scale" "J" ∈ wsX0_highDenominator := by decide +kernel
  have lk1 : Cond.classLink RX0 104 "java/lang/ArithmeticException" ∈ wsX0_highDenominator := by decide +kernel
  have lk2 : Cond.initialized "java/lang/ArithmeticException" ∈ wsX0_highDenominator := by decide +kernel
  have lk3 : Cond.classLink RX0 67 "java/lang/IndexOutOfBoundsException" ∈ wsX0_highDenominator := by decide +kernel
  have lk4 : Cond.initialized "java/lang/IndexOutOfBoundsException" ∈ wsX0_highDenominator := by decide +kernel
  refine x_met_l (cc := cX0_highDenominator) (maxL := 2) (lv := [(0, .ref (a 0)), (1, .int p0)]) hst (by decide +kernel) rfl rfl (Nat.le_of_ble_eq_true rfl) rfl ?_
  intro p e s m below meth c args Q A C hend hthr
  refine z_aload_n C dX0_highDenominator_0 0 rfl ?_
  refine z_iload_n C dX0_highDenominator_1 1 rfl ?_
  refine z_callVi_all (As := [.int p0]) C (c0_isIndex l D K a N M S rl rh bl bh kl kh mn vc iv sc p0) (cwV 1 C.1.2.2.2.2 gX0_highDenominator_X0_isIndex rfl rfl rfl (by decide +kernel) ⟨Nat.le_of_ble_eq_true rfl, Nat.le_of_ble_eq_true rfl⟩) (ci := 0) rfl rfl 0 rfl dX0_highDenominator_2 rfl rfl (Nat.le_of_ble_eq_true rfl) ⟨Nat.le_of_ble_eq_true rfl, Nat.le_of_ble_eq_true rfl⟩ (fun r1 u1 h1 => ?_)
  obtain ⟨rfl, rfl⟩ := h1
  refine z_if_ne (tgt := 18) C dX0_highDenominator_5 (by decide) (fun c5 => ?_) (fun c5 => ?_)
  · have q5 : ixP N p0 := zi1.mp c5
    obtain ⟨i_p0, l_p0⟩ := ixP_at hN q5
    refine z_aload_n C dX0_highDenominator_18 0 rfl ?_
    refine z_callVi_all (As := []) C (c0_invert l D K a N M S rl rh bl bh kl kh mn vc iv sc (by omega)) (cwV 0 C.1.2.2.2.2 gX0_highDenominator_X0_invert rfl rfl rfl (by decide +kernel) ⟨Nat.le_of_ble_eq_true rfl, Nat.le_of_ble_eq_true rfl⟩) (ci := 0) rfl rfl 0 rfl dX0_highDenominator_19 rfl rfl (Nat.le_of_ble_eq_true rfl) ⟨Nat.le_of_ble_eq_true rfl, Nat.le_of_ble_eq_true rfl⟩ (fun r2 u2 h2 => ?_)
    obtain ⟨mn_2, iv_2, sc_2, rfl, hr_2, hvv⟩ := inv_out h2
    subst hr_2
    refine z_if_ne (tgt := 35) C dX0_highDenominator_22 (by decide) (fun c22 => ?_) (fun c22 => ?_)
    · have q22 : ¬ detM M N = 0 := zi1.mp c22
      have hd := q22
      obtain ⟨hiv, hsc⟩ := hvv hd
      refine z_aload_n C dX0_highDenominator_35 0 rfl ?_
      refine z_get (cl := vwCl) (T := TX0) (N := 13) (ci := 0) (ref := "IntervalSolver") C hinX0 rfl 12 (by decide) lk0 rfl dX0_highDenominator_36 0 rfl rfl ?_
      refine z_aload_n C dX0_highDenominator_39 0 rfl ?_
      refine z_iload_n C dX0_highDenominator_40 1 rfl ?_
      refine z_topi (nI (ix p0)) i_p0 ?_
      refine z_callVl_all (As := [.int (nI (ix p0))]) C (c0_scaledHullHigh l D K a N M S rl rh bl bh kl kh mn_2 vc iv_2 sc_2 (ix p0) (by omega) (by omega)) (cwV 1 C.1.2.2.2.2 gX0_highDenominator_X0_scaledHullHigh rfl rfl rfl (by decide +kernel) ⟨Nat.le_of_ble_eq_true rfl, Nat.le_of_ble_eq_true rfl⟩) (ci := 0) rfl rfl 0 rfl dX0_highDenominator_41 rfl rfl (Nat.le_of_ble_eq_true rfl) ⟨Nat.le_of_ble_eq_true rfl, Nat.le_of_ble_eq_true rfl⟩ (fun r3 u3 h3 => ?_)
      obtain ⟨rfl, rfl⟩ := h3
      refine z_callSl_none (As := [.long sc_2, .long (hul (iv_2 (ix p0)) rh rl N)]) C (c0_reduced l D K sc_2 (hul (iv_2 (ix p0)) rh rl N)) (va_cwS 2 C.1.2.2.2.2 gX0_highDenominator_X0_reduced rfl rfl rfl (by decide +kernel) ⟨Nat.le_of_ble_eq_true rfl, Nat.le_of_ble_eq_true rfl⟩) dX0_highDenominator_44 rfl rfl (Nat.le_of_ble_eq_true rfl) ⟨Nat.le_of_ble_eq_true rfl, Nat.le_of_ble_eq_true rfl⟩ (fun r4 u4 h4 => ?_)
      have g4 : r4 = redC sc_2 (hul (iv_2 (ix p0)) rh rl N) := h4
      rw [g4]
      exact hend _ _ _ _ _ (N, M, S, rl, rh, bl, bh, kl, kh, mn_2, vc, iv_2, sc_2) dX0_highDenominator_47 (by omega) (by omega) ⟨by unfold kHul; rw [if_pos q5, if_neg hd], by rw [hul_congr (fun j hj => hiv (ix p0) j (by omega) hj), hsc], _, _, _, rfl⟩
    · have q22 : ¬ (¬ detM M N = 0) := zi0.mp c22
      have hd0 := Decidable.of_not_not q22
      exact hthr _ _ _ _ 104 125 108 "java/lang/ArithmeticException" "the determinant is 0" (N, M, S, rl, rh, bl, bh, kl, kh, mn_2, vc, iv_2, sc_2) lk1 lk2 (by decide +kernel) (fun w hw => List.mem_cons_of_mem _ (List.mem_append_right _ hw)) (by decide +kernel) dX0_highDenominator_25 dX0_highDenominator_28 dX0_highDenominator_29 dX0_highDenominator_31 dX0_highDenominator_34 ⟨Nat.le_of_ble_eq_true rfl, Nat.le_of_ble_eq_true rfl, Nat.le_of_ble_eq_true rfl, Nat.le_of_ble_eq_true rfl⟩ (Nat.le_of_ble_eq_true rfl) (Nat.le_of_ble_eq_true rfl) ⟨Or.inr (⟨by unfold kHul; rw [if_pos q5, if_pos hd0], rfl⟩), _, _, _, rfl⟩
  · have q5 : ¬ (ixP N p0) := zi0.mp c5
    exact hthr _ _ _ _ 67 119 71 "java/lang/IndexOutOfBoundsException" "no such component" (N, M, S, rl, rh, bl, bh, kl, kh, mn, vc, iv, sc) lk3 lk4 (by decide +kernel) (fun w hw => List.mem_cons_of_mem _ (List.mem_append_left _ (List.mem_append_right _ hw))) (by decide +kernel) dX0_highDenominator_8 dX0_highDenominator_11 dX0_highDenominator_12 dX0_highDenominator_14 dX0_highDenominator_17 ⟨Nat.le_of_ble_eq_true rfl, Nat.le_of_ble_eq_true rfl, Nat.le_of_ble_eq_true rfl, Nat.le_of_ble_eq_true rfl⟩ (Nat.le_of_ble_eq_true rfl) (Nat.le_of_ble_eq_true rfl) ⟨Or.inl (⟨if_neg q5, rfl⟩), _, _, _, rfl⟩







