set_option maxRecDepth 100000 in
set_option maxHeartbeats 4000000 in
theorem c1_setRight (l : Launch) (D : va_G) (K : Nat → ClassId) (b : Nat → Nat) (N : Nat) (M : Nat → Nat → Int32) (S : Nat → Nat → Int32) (rl : Nat → Int32) (rh : Nat → Int32) (bl : Nat → Int32) (bh : Nat → Int32) (th : Int32) (fl : Nat → Int32) (fh : Nat → Int32) (pt : Nat → Int64) (nu : Int64) (de : Int64) (p0 : Int32) (p1 : Int32) (p2 : Int32) (hN : N ≤ 5) : mI l D K yX1_setRight wsX1_setRight 1 21 0 0 [.ref (b 0), .int p0, .int p1, .int p2] (w1 K b (N, M, S, rl, rh, bl, bh, th, fl, fh, pt, nu, de)) (fun r u => r = onlyIf (kInt N p0 p1 p2 999) (othR (rl (ix p0)) (rh (ix p0)) p1 p2) 0 ∧ u = (N, M, S, onlyIf (kInt N p0 p1 p2 999) (upd rl (ix p0) p1) rl, onlyIf (kInt N p0 p1 p2 999) (upd rh (ix p0) p2) rh, bl, bh, (kInt N p0 p1 p2 999), fl, fh, pt, nu, de)) (w1 K b) := by
  have hinX1 : ∀ w ∈ wsX10, w ∈ wsX1_setRight := by decide +kernel
  have lk0 : Cond.fieldLink RX1 45 "IntervalSolverModel" "thrown" "I" ∈ wsX1_setRight := by decide +kernel
  have lk1 : Cond.fieldLink RX1 20 "IntervalSolverModel" "lows" "[I" ∈ wsX1_setRight := by decide +kernel
  have lk2 : Cond.fieldLink RX1 23 "IntervalSolverModel" "highs" "[I" ∈ wsX1_setRight := by decide +kernel
  refine z_met_z (cc := cX1_setRight) (maxL := 5) (own := RX1) (lv := [(0, .ref (b 0)), (1, .int p0), (2, .int p1), (3, .int p2)]) (by decide) rfl rfl (Nat.le_of_ble_eq_true rfl) rfl ?_
  intro p e s m below meth c args Q A C hnm hend
  refine z_aload_n C dX1_setRight_0 0 rfl ?_
  refine z_iconst (v := 0) C dX1_setRight_1 (by decide) ?_
  refine z_put (cl := vwCl) (T := TX1) (N := 13) (ci := 3) (ref := "IntervalSolverModel") (ws' := w1 K b (N, M, S, rl, rh, bl, bh, 0, fl, fh, pt, nu, de)) C hinX1 tyX1 tyX1_ok nmX1 rfl 0 (by decide) lk0 rfl rfl rfl rfl dX1_setRight_2 0 rfl (Nat.le_of_ble_eq_true rfl) rfl ?_
  refine z_aload_n C dX1_setRight_5 0 rfl ?_
  refine z_iload_n C dX1_setRight_6 1 rfl ?_
  refine z_callVi_all (As := [.int p0]) C (c1_isIndex l D K b N M S rl rh bl bh 0 fl fh pt nu de p0) (cwV 1 C.1.2.2.2.2 gX1_setRight_X1_isIndex rfl rfl rfl (by decide +kernel) ⟨Nat.le_of_ble_eq_true rfl, Nat.le_of_ble_eq_true rfl⟩) (ci := 3) rfl rfl 0 rfl dX1_setRight_7 rfl rfl (Nat.le_of_ble_eq_true rfl) ⟨Nat.le_of_ble_eq_true rfl, Nat.le_of_ble_eq_true rfl⟩ (fun r1 u1 h1 => ?_)
  obtain ⟨rfl, rfl⟩ := h1
  refine z_if_ne (tgt := 27) C dX1_setRight_10 (by decide) (fun c10 => ?_) (fun c10 => ?_)
  · have q10 : ixP N p0 := zi1.mp c10
    obtain ⟨i_p0, l_p0⟩ := ixP_at hN q10
    refine z_iload_n C dX1_setRight_27 2 rfl ?_
    refine z_sipush (v := -999) C dX1_setRight_28 (by decide) ?_
    refine z_icmp_lt (tgt := 46) C dX1_setRight_31 (by decide) (fun c31 => ?_) (fun c31 => ?_)
    · refine z_aload_n C dX1_setRight_46 0 rfl ?_
      refine z_iconst (v := 2) C dX1_setRight_47 (by decide) ?_
      refine z_callVi_all (As := [.int 2]) C (c1_fail l D K b N M S rl rh bl bh 0 fl fh pt nu de 2) (cwV 1 C.1.2.2.2.2 gX1_setRight_X1_fail rfl rfl rfl (by decide +kernel) ⟨Nat.le_of_ble_eq_true rfl, Nat.le_of_ble_eq_true rfl⟩) (ci := 3) rfl rfl 0 rfl dX1_setRight_48 rfl rfl (Nat.le_of_ble_eq_true rfl) ⟨Nat.le_of_ble_eq_true rfl, Nat.le_of_ble_eq_true rfl⟩ (fun r2 u2 h2 => ?_)
      obtain ⟨rfl, rfl⟩ := h2
      refine z_if_eq (tgt := 58) C dX1_setRight_51 (by decide) (fun c51 => ?_) (fun c51 => ?_)
      · refine z_iconst (v := 0) C dX1_setRight_58 (by decide) ?_
        exact hend _ _ _ _ _ (N, M, S, rl, rh, bl, bh, 2, fl, fh, pt, nu, de) dX1_setRight_59 (Nat.zero_le _) (Nat.zero_le _) (Or.inl rfl) (by have hk : (kInt N p0 p1 p2 999) = 2 := (by unfold kInt; rw [if_pos q10, if_neg (by rintro ⟨⟨h1, h2⟩, h3⟩; first | exact absurd h1 (Int32.not_le.mpr c31) | exact absurd h2 (Int32.not_le.mpr c38) | exact c43 h3)]); rw [hk]; exact ⟨rfl, rfl⟩)
      · exact absurd rfl c51
    · refine z_iload_n C dX1_setRight_34 3 rfl ?_
      refine z_sipush (v := 999) C dX1_setRight_35 (by decide) ?_
      refine z_icmp_gt (tgt := 46) C dX1_setRight_38 (by decide) (fun c38 => ?_) (fun c38 => ?_)
      · refine z_aload_n C dX1_setRight_46 0 rfl ?_
        refine z_iconst (v := 2) C dX1_setRight_47 (by decide) ?_
        refine z_callVi_all (As := [.int 2]) C (c1_fail l D K b N M S rl rh bl bh 0 fl fh pt nu de 2) (cwV 1 C.1.2.2.2.2 gX1_setRight_X1_fail rfl rfl rfl (by decide +kernel) ⟨Nat.le_of_ble_eq_true rfl, Nat.le_of_ble_eq_true rfl⟩) (ci := 3) rfl rfl 0 rfl dX1_setRight_48 rfl rfl (Nat.le_of_ble_eq_true rfl) ⟨Nat.le_of_ble_eq_true rfl, Nat.le_of_ble_eq_true rfl⟩ (fun r3 u3 h3 => ?_)
        obtain ⟨rfl, rfl⟩ := h3
        refine z_if_eq (tgt := 58) C dX1_setRight_51 (by decide) (fun c51 => ?_) (fun c51 => ?_)
        · refine z_iconst (v := 0) C dX1_setRight_58 (by decide) ?_
          exact hend _ _ _ _ _ (N, M, S, rl, rh, bl, bh, 2, fl, fh, pt, nu, de) dX1_setRight_59 (Nat.zero_le _) (Nat.zero_le _) (Or.inl rfl) (by have hk : (kInt N p0 p1 p2 999) = 2 := (by unfold kInt; rw [if_pos q10, if_neg (by rintro ⟨⟨h1, h2⟩, h3⟩; first | exact absurd h1 (Int32.not_le.mpr c31) | exact absurd h2 (Int32.not_le.mpr c38) | exact c43 h3)]); rw [hk]; exact ⟨rfl, rfl⟩)
        · exact absurd rfl c51
      · refine z_iload_n C dX1_setRight_41 2 rfl ?_
        refine z_iload_n C dX1_setRight_42 3 rfl ?_
        refine z_icmp_le (tgt := 60) C dX1_setRight_43 (by decide) (fun c43 => ?_) (fun c43 => ?_)
        · refine z_aload_n C dX1_setRight_60 0 rfl ?_
          refine z_get (cl := vwCl) (T := TX1) (N := 13) (ci := 3) (ref := "IntervalSolverModel") C hinX1 rfl 4 (by decide) lk1 rfl dX1_setRight_61 0 rfl rfl ?_
          refine z_iload_n C dX1_setRight_64 1 rfl ?_
          refine z_iald C 0 rfl 3 rfl dX1_setRight_65 (ix p0) i_p0 (by omega) (by decide) ?_
          refine z_iload_n C dX1_setRight_66 2 rfl ?_
          refine z_icmp_ne (tgt := 80) C dX1_setRight_67 (by decide) (fun c67 => ?_) (fun c67 => ?_)
          · refine z_iconst (v := 1) C dX1_setRight_80 (by decide) ?_
            refine z_goto (tgt := 85) C dX1_setRight_81 (by decide) ?_
            refine z_istore (lv' := [(0, .ref (b 0)), (1, .int p0), (2, .int p1), (3, .int p2), (4, .int 1)]) C dX1_setRight_85 (by decide) [1, 2, 3, 4, 0] rfl ?_
            refine z_aload_n C dX1_setRight_87 0 rfl ?_
            refine z_get (cl := vwCl) (T := TX1) (N := 13) (ci := 3) (ref := "IntervalSolverModel") C hinX1 rfl 4 (by decide) lk1 rfl dX1_setRight_88 0 rfl rfl ?_
            refine z_iload_n C dX1_setRight_91 1 rfl ?_
            refine z_iload_n C dX1_setRight_92 2 rfl ?_
            refine z_iast (ws' := w1 K b (N, M, S, upd rl (ix p0) p1, rh, bl, bh, 0, fl, fh, pt, nu, de)) C 0 rfl 3 rfl dX1_setRight_93 (ix p0) i_p0 (by omega) (by decide) rfl ?_
            refine z_aload_n C dX1_setRight_94 0 rfl ?_
            refine z_get (cl := vwCl) (T := TX1) (N := 13) (ci := 3) (ref := "IntervalSolverModel") C hinX1 rfl 5 (by decide) lk2 rfl dX1_setRight_95 0 rfl rfl ?_
            refine z_iload_n C dX1_setRight_98 1 rfl ?_
            refine z_iload_n C dX1_setRight_99 3 rfl ?_
            refine z_iast (ws' := w1 K b (N, M, S, upd rl (ix p0) p1, upd rh (ix p0) p2, bl, bh, 0, fl, fh, pt, nu, de)) C 0 rfl 4 rfl dX1_setRight_100 (ix p0) i_p0 (by omega) (by decide) rfl ?_
            refine z_iload C dX1_setRight_101 4 rfl ?_
            exact hend _ _ _ _ _ (N, M, S, upd rl (ix p0) p1, upd rh (ix p0) p2, bl, bh, 0, fl, fh, pt, nu, de) dX1_setRight_103 (Nat.zero_le _) (Nat.zero_le _) (Or.inr rfl) (by have hk : (kInt N p0 p1 p2 999) = 0 := (by unfold kInt; rw [if_pos q10, if_pos ⟨⟨Int32.not_lt.mp c31, Int32.not_lt.mp c38⟩, c43⟩]); have ho : othR (rl (ix p0)) (rh (ix p0)) p1 p2 = 1 := if_neg (by rintro ⟨h1, h2⟩; first | exact c67 h1 | exact c77 h2); rw [hk, onlyIf_0 rfl, ho]; exact ⟨rfl, rfl⟩)
          · refine z_aload_n C dX1_setRight_70 0 rfl ?_
            refine z_get (cl := vwCl) (T := TX1) (N := 13) (ci := 3) (ref := "IntervalSolverModel") C hinX1 rfl 5 (by decide) lk2 rfl dX1_setRight_71 0 rfl rfl ?_
            refine z_iload_n C dX1_setRight_74 1 rfl ?_
            refine z_iald C 0 rfl 4 rfl dX1_setRight_75 (ix p0) i_p0 (by omega) (by decide) ?_
            refine z_iload_n C dX1_setRight_76 3 rfl ?_
            refine z_icmp_eq (tgt := 84) C dX1_setRight_77 (by decide) (fun c77 => ?_) (fun c77 => ?_)
            · refine z_iconst (v := 0) C dX1_setRight_84 (by decide) ?_
              refine z_istore (lv' := [(0, .ref (b 0)), (1, .int p0), (2, .int p1), (3, .int p2), (4, .int 0)]) C dX1_setRight_85 (by decide) [1, 2, 3, 4, 0] rfl ?_
              refine z_aload_n C dX1_setRight_87 0 rfl ?_
              refine z_get (cl := vwCl) (T := TX1) (N := 13) (ci := 3) (ref := "IntervalSolverModel") C hinX1 rfl 4 (by decide) lk1 rfl dX1_setRight_88 0 rfl rfl ?_
              refine z_iload_n C dX1_setRight_91 1 rfl ?_
              refine z_iload_n C dX1_setRight_92 2 rfl ?_
              refine z_iast (ws' := w1 K b (N, M, S, upd rl (ix p0) p1, rh, bl, bh, 0, fl, fh, pt, nu, de)) C 0 rfl 3 rfl dX1_setRight_93 (ix p0) i_p0 (by omega) (by decide) rfl ?_
              refine z_aload_n C dX1_setRight_94 0 rfl ?_
              refine z_get (cl := vwCl) (T := TX1) (N := 13) (ci := 3) (ref := "IntervalSolverModel") C hinX1 rfl 5 (by decide) lk2 rfl dX1_setRight_95 0 rfl rfl ?_
              refine z_iload_n C dX1_setRight_98 1 rfl ?_
              refine z_iload_n C dX1_setRight_99 3 rfl ?_
              refine z_iast (ws' := w1 K b (N, M, S, upd rl (ix p0) p1, upd rh (ix p0) p2, bl, bh, 0, fl, fh, pt, nu, de)) C 0 rfl 4 rfl dX1_setRight_100 (ix p0) i_p0 (by omega) (by decide) rfl ?_
              refine z_iload C dX1_setRight_101 4 rfl ?_
              exact hend _ _ _ _ _ (N, M, S, upd rl (ix p0) p1, upd rh (ix p0) p2, bl, bh, 0, fl, fh, pt, nu, de) dX1_setRight_103 (Nat.zero_le _) (Nat.zero_le _) (Or.inl rfl) (by have hk : (kInt N p0 p1 p2 999) = 0 := (by unfold kInt; rw [if_pos q10, if_pos ⟨⟨Int32.not_lt.mp c31, Int32.not_lt.mp c38⟩, c43⟩]); have ho : othR (rl (ix p0)) (rh (ix p0)) p1 p2 = 0 := if_pos ⟨c67, c77⟩; rw [hk, onlyIf_0 rfl, ho]; exact ⟨rfl, rfl⟩)
            · refine z_iconst (v := 1) C dX1_setRight_80 (by decide) ?_
              refine z_goto (tgt := 85) C dX1_setRight_81 (by decide) ?_
              refine z_istore (lv' := [(0, .ref (b 0)), (1, .int p0), (2, .int p1), (3, .int p2), (4, .int 1)]) C dX1_setRight_85 (by decide) [1, 2, 3, 4, 0] rfl ?_
              refine z_aload_n C dX1_setRight_87 0 rfl ?_
              refine z_get (cl := vwCl) (T := TX1) (N := 13) (ci := 3) (ref := "IntervalSolverModel") C hinX1 rfl 4 (by decide) lk1 rfl dX1_setRight_88 0 rfl rfl ?_
              refine z_iload_n C dX1_setRight_91 1 rfl ?_
              refine z_iload_n C dX1_setRight_92 2 rfl ?_
              refine z_iast (ws' := w1 K b (N, M, S, upd rl (ix p0) p1, rh, bl, bh, 0, fl, fh, pt, nu, de)) C 0 rfl 3 rfl dX1_setRight_93 (ix p0) i_p0 (by omega) (by decide) rfl ?_
              refine z_aload_n C dX1_setRight_94 0 rfl ?_
              refine z_get (cl := vwCl) (T := TX1) (N := 13) (ci := 3) (ref := "IntervalSolverModel") C hinX1 rfl 5 (by decide) lk2 rfl dX1_setRight_95 0 rfl rfl ?_
              refine z_iload_n C dX1_setRight_98 1 rfl ?_
              refine z_iload_n C dX1_setRight_99 3 rfl ?_
              refine z_iast (ws' := w1 K b (N, M, S, upd rl (ix p0) p1, upd rh (ix p0) p2, bl, bh, 0, fl, fh, pt, nu, de)) C 0 rfl 4 rfl dX1_setRight_100 (ix p0) i_p0 (by omega) (by decide) rfl ?_
              refine z_iload C dX1_setRight_101 4 rfl ?_
              exact hend _ _ _ _ _ (N, M, S, upd rl (ix p0) p1, upd rh (ix p0) p2, bl, bh, 0, fl, fh, pt, nu, de) dX1_setRight_103 (Nat.zero_le _) (Nat.zero_le _) (Or.inr rfl) (by have hk : (kInt N p0 p1 p2 999) = 0 := (by unfold kInt; rw [if_pos q10, if_pos ⟨⟨Int32.not_lt.mp c31, Int32.not_lt.mp c38⟩, c43⟩]); have ho : othR (rl (ix p0)) (rh (ix p0)) p1 p2 = 1 := if_neg (by rintro ⟨h1, h2⟩; first | exact c67 h1 | exact c77 h2); rw [hk, onlyIf_0 rfl, ho]; exact ⟨rfl, rfl⟩)
        · refine z_aload_n C dX1_setRight_46 0 rfl ?_
          refine z_iconst (v := 2) C dX1_setRight_47 (by decide) ?_
          refine z_callVi_all (As := [.int 2]) C (c1_fail l D K b N M S rl rh bl bh 0 fl fh pt nu de 2) (cwV 1 C.1.2.2.2.2 gX1_setRight_X1_fail rfl rfl rfl (by decide +kernel) ⟨Nat.le_of_ble_eq_true rfl, Nat.le_of_ble_eq_true rfl⟩) (ci := 3) rfl rfl 0 rfl dX1_setRight_48 rfl rfl (Nat.le_of_ble_eq_true rfl) ⟨Nat.le_of_ble_eq_true rfl, Nat.le_of_ble_eq_true rfl⟩ (fun r4 u4 h4 => ?_)
          obtain ⟨rfl, rfl⟩ := h4
          refine z_if_eq (tgt := 58) C dX1_setRight_51 (by decide) (fun c51 => ?_) (fun c51 => ?_)
          · refine z_iconst (v := 0) C dX1_setRight_58 (by decide) ?_
            exact hend _ _ _ _ _ (N, M, S, rl, rh, bl, bh, 2, fl, fh, pt, nu, de) dX1_setRight_59 (Nat.zero_le _) (Nat.zero_le _) (Or.inl rfl) (by have hk : (kInt N p0 p1 p2 999) = 2 := (by unfold kInt; rw [if_pos q10, if_neg (by rintro ⟨⟨h1, h2⟩, h3⟩; first | exact absurd h1 (Int32.not_le.mpr c31) | exact absurd h2 (Int32.not_le.mpr c38) | exact c43 h3)]); rw [hk]; exact ⟨rfl, rfl⟩)
          · exact absurd rfl c51
  · have q10 : ¬ (ixP N p0) := zi0.mp c10
    refine z_aload_n C dX1_setRight_13 0 rfl ?_
    refine z_iconst (v := 1) C dX1_setRight_14 (by decide) ?_
    refine z_callVi_all (As := [.int 1]) C (c1_fail l D K b N M S rl rh bl bh 0 fl fh pt nu de 1) (cwV 1 C.1.2.2.2.2 gX1_setRight_X1_fail rfl rfl rfl (by decide +kernel) ⟨Nat.le_of_ble_eq_true rfl, Nat.le_of_ble_eq_true rfl⟩) (ci := 3) rfl rfl 0 rfl dX1_setRight_15 rfl rfl (Nat.le_of_ble_eq_true rfl) ⟨Nat.le_of_ble_eq_true rfl, Nat.le_of_ble_eq_true rfl⟩ (fun r5 u5 h5 => ?_)
    obtain ⟨rfl, rfl⟩ := h5
    refine z_if_eq (tgt := 25) C dX1_setRight_18 (by decide) (fun c18 => ?_) (fun c18 => ?_)
    · refine z_iconst (v := 0) C dX1_setRight_25 (by decide) ?_
      exact hend _ _ _ _ _ (N, M, S, rl, rh, bl, bh, 1, fl, fh, pt, nu, de) dX1_setRight_26 (Nat.zero_le _) (Nat.zero_le _) (Or.inl rfl) (by have hk : (kInt N p0 p1 p2 999) = 1 := (if_neg q10); rw [hk]; exact ⟨rfl, rfl⟩)
    · exact absurd rfl c18

set_option maxRecDepth 100000 in
set_option maxHeartbeats 4000000 in
theorem c1_setBox (l : Launch) (D : va_G) (K : Nat → ClassId) (b : Nat → Nat) (N : Nat) (M : Nat → Nat → Int32) (S : Nat → Nat → Int32) (rl : Nat → Int32) (rh : Nat → Int32) (bl : Nat → Int32) (bh : Nat → Int32) (th : Int32) (fl : Nat → Int32) (fh : Nat → Int32) (pt : Nat → Int64) (nu : Int64) (de : Int64) (p0 : Int32) (p1 : Int32) (p2 : Int32) (hN : N ≤ 5) : mI l D K yX1_setBox wsX1_setBox 1 21 0 0 [.ref (b 0), .int p0, .int p1, .int p2] (w1 K b (N, M, S, rl, rh, bl, bh, th, fl, fh, pt, nu, de)) (fun r u => r = onlyIf (kInt N p0 p1 p2 1000000000) (othR (bl (ix p0)) (bh (ix p0)) p1 p2) 0 ∧ u = (N, M, S, rl, rh, onlyIf (kInt N p0 p1 p2 1000000000) (upd bl (ix p0) p1) bl, onlyIf (kInt N p0 p1 p2 1000000000) (upd bh (ix p0) p2) bh, (kInt N p0 p1 p2 1000000000), fl, fh, pt, nu, de)) (w1 K b) := by
  have hinX1 : ∀ w ∈ wsX10, w ∈ wsX1_setBox := by decide +kernel
  have lk0 : Cond.fieldLink RX1 45 "IntervalSolverModel" "thrown" "I" ∈ wsX1_setBox := by decide +kernel
  have lk1 : Cond.constant RX1 52 (-1000000000) ∈ wsX1_setBox := by decide +kernel
  have lk2 : Cond.constant RX1 53 (1000000000) ∈ wsX1_setBox := by decide +kernel
  have lk3 : Cond.fieldLink RX1 26 "IntervalSolverModel" "boxLows" "[I" ∈ wsX1_setBox := by decide +kernel
  have lk4 : Cond.fieldLink RX1 29 "IntervalSolverModel" "boxHighs" "[I" ∈ wsX1_setBox := by decide +kernel
  refine z_met_z (cc := cX1_setBox) (maxL := 5) (own := RX1) (lv := [(0, .ref (b 0)), (1, .int p0), (2, .int p1), (3, .int p2)]) (by decide) rfl rfl (Nat.le_of_ble_eq_true rfl) rfl ?_
  intro p e s m below meth c args Q A C hnm hend
  refine z_aload_n C dX1_setBox_0 0 rfl ?_
  refine z_iconst (v := 0) C dX1_setBox_1 (by decide) ?_
  refine z_put (cl := vwCl) (T := TX1) (N := 13) (ci := 3) (ref := "IntervalSolverModel") (ws' := w1 K b (N, M, S, rl, rh, bl, bh, 0, fl, fh, pt, nu, de)) C hinX1 tyX1 tyX1_ok nmX1 rfl 0 (by decide) lk0 rfl rfl rfl rfl dX1_setBox_2 0 rfl (Nat.le_of_ble_eq_true rfl) rfl ?_
  refine z_aload_n C dX1_setBox_5 0 rfl ?_
  refine z_iload_n C dX1_setBox_6 1 rfl ?_
  refine z_callVi_all (As := [.int p0]) C (c1_isIndex l D K b N M S rl rh bl bh 0 fl fh pt nu de p0) (cwV 1 C.1.2.2.2.2 gX1_setBox_X1_isIndex rfl rfl rfl (by decide +kernel) ⟨Nat.le_of_ble_eq_true rfl, Nat.le_of_ble_eq_true rfl⟩) (ci := 3) rfl rfl 0 rfl dX1_setBox_7 rfl rfl (Nat.le_of_ble_eq_true rfl) ⟨Nat.le_of_ble_eq_true rfl, Nat.le_of_ble_eq_true rfl⟩ (fun r1 u1 h1 => ?_)
  obtain ⟨rfl, rfl⟩ := h1
  refine z_if_ne (tgt := 27) C dX1_setBox_10 (by decide) (fun c10 => ?_) (fun c10 => ?_)
  · have q10 : ixP N p0 := zi1.mp c10
    obtain ⟨i_p0, l_p0⟩ := ixP_at hN q10
    refine z_iload_n C dX1_setBox_27 2 rfl ?_
    refine z_ldc C lk1 dX1_setBox_28 ?_
    refine z_icmp_lt (tgt := 44) C dX1_setBox_30 (by decide) (fun c30 => ?_) (fun c30 => ?_)
    · refine z_aload_n C dX1_setBox_44 0 rfl ?_
      refine z_iconst (v := 2) C dX1_setBox_45 (by decide) ?_
      refine z_callVi_all (As := [.int 2]) C (c1_fail l D K b N M S rl rh bl bh 0 fl fh pt nu de 2) (cwV 1 C.1.2.2.2.2 gX1_setBox_X1_fail rfl rfl rfl (by decide +kernel) ⟨Nat.le_of_ble_eq_true rfl, Nat.le_of_ble_eq_true rfl⟩) (ci := 3) rfl rfl 0 rfl dX1_setBox_46 rfl rfl (Nat.le_of_ble_eq_true rfl) ⟨Nat.le_of_ble_eq_true rfl, Nat.le_of_ble_eq_true rfl⟩ (fun r2 u2 h2 => ?_)
      obtain ⟨rfl, rfl⟩ := h2
      refine z_if_eq (tgt := 56) C dX1_setBox_49 (by decide) (fun c49 => ?_) (fun c49 => ?_)
      · refine z_iconst (v := 0) C dX1_setBox_56 (by decide) ?_
        exact hend _ _ _ _ _ (N, M, S, rl, rh, bl, bh, 2, fl, fh, pt, nu, de) dX1_setBox_57 (Nat.zero_le _) (Nat.zero_le _) (Or.inl rfl) (by have hk : (kInt N p0 p1 p2 1000000000) = 2 := (by unfold kInt; rw [if_pos q10, if_neg (by rintro ⟨⟨h1, h2⟩, h3⟩; first | exact absurd h1 (Int32.not_le.mpr c30) | exact absurd h2 (Int32.not_le.mpr c36) | exact c41 h3)]); rw [hk]; exact ⟨rfl, rfl⟩)
      · exact absurd rfl c49
    · refine z_iload_n C dX1_setBox_33 3 rfl ?_
      refine z_ldc C lk2 dX1_setBox_34 ?_
      refine z_icmp_gt (tgt := 44) C dX1_setBox_36 (by decide) (fun c36 => ?_) (fun c36 => ?_)
      · refine z_aload_n C dX1_setBox_44 0 rfl ?_
        refine z_iconst (v := 2) C dX1_setBox_45 (by decide) ?_
        refine z_callVi_all (As := [.int 2]) C (c1_fail l D K b N M S rl rh bl bh 0 fl fh pt nu de 2) (cwV 1 C.1.2.2.2.2 gX1_setBox_X1_fail rfl rfl rfl (by decide +kernel) ⟨Nat.le_of_ble_eq_true rfl, Nat.le_of_ble_eq_true rfl⟩) (ci := 3) rfl rfl 0 rfl dX1_setBox_46 rfl rfl (Nat.le_of_ble_eq_true rfl) ⟨Nat.le_of_ble_eq_true rfl, Nat.le_of_ble_eq_true rfl⟩ (fun r3 u3 h3 => ?_)
        obtain ⟨rfl, rfl⟩ := h3
        refine z_if_eq (tgt := 56) C dX1_setBox_49 (by decide) (fun c49 => ?_) (fun c49 => ?_)
        · refine z_iconst (v := 0) C dX1_setBox_56 (by decide) ?_
          exact hend _ _ _ _ _ (N, M, S, rl, rh, bl, bh, 2, fl, fh, pt, nu, de) dX1_setBox_57 (Nat.zero_le _) (Nat.zero_le _) (Or.inl rfl) (by have hk : (kInt N p0 p1 p2 1000000000) = 2 := (by unfold kInt; rw [if_pos q10, if_neg (by rintro ⟨⟨h1, h2⟩, h3⟩; first | exact absurd h1 (Int32.not_le.mpr c30) | exact absurd h2 (Int32.not_le.mpr c36) | exact c41 h3)]); rw [hk]; exact ⟨rfl, rfl⟩)
        · exact absurd rfl c49
      · refine z_iload_n C dX1_setBox_39 2 rfl ?_
        refine z_iload_n C dX1_setBox_40 3 rfl ?_
        refine z_icmp_le (tgt := 58) C dX1_setBox_41 (by decide) (fun c41 => ?_) (fun c41 => ?_)
        · refine z_aload_n C dX1_setBox_58 0 rfl ?_
          refine z_get (cl := vwCl) (T := TX1) (N := 13) (ci := 3) (ref := "IntervalSolverModel") C hinX1 rfl 6 (by decide) lk3 rfl dX1_setBox_59 0 rfl rfl ?_
          refine z_iload_n C dX1_setBox_62 1 rfl ?_
          refine z_iald C 0 rfl 5 rfl dX1_setBox_63 (ix p0) i_p0 (by omega) (by decide) ?_
          refine z_iload_n C dX1_setBox_64 2 rfl ?_
          refine z_icmp_ne (tgt := 78) C dX1_setBox_65 (by decide) (fun c65 => ?_) (fun c65 => ?_)
          · refine z_iconst (v := 1) C dX1_setBox_78 (by decide) ?_
            refine z_goto (tgt := 83) C dX1_setBox_79 (by decide) ?_
            refine z_istore (lv' := [(0, .ref (b 0)), (1, .int p0), (2, .int p1), (3, .int p2), (4, .int 1)]) C dX1_setBox_83 (by decide) [1, 2, 3, 4, 0] rfl ?_
            refine z_aload_n C dX1_setBox_85 0 rfl ?_
            refine z_get (cl := vwCl) (T := TX1) (N := 13) (ci := 3) (ref := "IntervalSolverModel") C hinX1 rfl 6 (by decide) lk3 rfl dX1_setBox_86 0 rfl rfl ?_
            refine z_iload_n C dX1_setBox_89 1 rfl ?_
            refine z_iload_n C dX1_setBox_90 2 rfl ?_
            refine z_iast (ws' := w1 K b (N, M, S, rl, rh, upd bl (ix p0) p1, bh, 0, fl, fh, pt, nu, de)) C 0 rfl 5 rfl dX1_setBox_91 (ix p0) i_p0 (by omega) (by decide) rfl ?_
            refine z_aload_n C dX1_setBox_92 0 rfl ?_
            refine z_get (cl := vwCl) (T := TX1) (N := 13) (ci := 3) (ref := "IntervalSolverModel") C hinX1 rfl 7 (by decide) lk4 rfl dX1_setBox_93 0 rfl rfl ?_
            refine z_iload_n C dX1_setBox_96 1 rfl ?_
            refine z_iload_n C dX1_setBox_97 3 rfl ?_
            refine z_iast (ws' := w1 K b (N, M, S, rl, rh, upd bl (ix p0) p1, upd bh (ix p0) p2, 0, fl, fh, pt, nu, de)) C 0 rfl 6 rfl dX1_setBox_98 (ix p0) i_p0 (by omega) (by decide) rfl ?_
            refine z_iload C dX1_setBox_99 4 rfl ?_
            exact hend _ _ _ _ _ (N, M, S, rl, rh, upd bl (ix p0) p1, upd bh (ix p0) p2, 0, fl, fh, pt, nu, de) dX1_setBox_101 (Nat.zero_le _) (Nat.zero_le _) (Or.inr rfl) (by have hk : (kInt N p0 p1 p2 1000000000) = 0 := (by unfold kInt; rw [if_pos q10, if_pos ⟨⟨Int32.not_lt.mp c30, Int32.not_lt.mp c36⟩, c41⟩]); have ho : othR (bl (ix p0)) (bh (ix p0)) p1 p2 = 1 := if_neg (by rintro ⟨h1, h2⟩; first | exact c65 h1 | exact c75 h2); rw [hk, onlyIf_0 rfl, ho]; exact ⟨rfl, rfl⟩)
          · refine z_aload_n C dX1_setBox_68 0 rfl ?_
            refine z_get (cl := vwCl) (T := TX1) (N := 13) (ci := 3) (ref := "IntervalSolverModel") C hinX1 rfl 7 (by decide) lk4 rfl dX1_setBox_69 0 rfl rfl ?_
            refine z_iload_n C dX1_setBox_72 1 rfl ?_
            refine z_iald C 0 rfl 6 rfl dX1_setBox_73 (ix p0) i_p0 (by omega) (by decide) ?_
            refine z_iload_n C dX1_setBox_74 3 rfl ?_
            refine z_icmp_eq (tgt := 82) C dX1_setBox_75 (by decide) (fun c75 => ?_) (fun c75 => ?_)
            · refine z_iconst (v := 0) C dX1_setBox_82 (by decide) ?_
              refine z_istore (lv' := [(0, .ref (b 0)), (1, .int p0), (2, .int p1), (3, .int p2), (4, .int 0)]) C dX1_setBox_83 (by decide) [1, 2, 3, 4, 0] rfl ?_
              refine z_aload_n C dX1_setBox_85 0 rfl ?_
              refine z_get (cl := vwCl) (T := TX1) (N := 13) (ci := 3) (ref := "IntervalSolverModel") C hinX1 rfl 6 (by decide) lk3 rfl dX1_setBox_86 0 rfl rfl ?_
              refine z_iload_n C dX1_setBox_89 1 rfl ?_
              refine z_iload_n C dX1_setBox_90 2 rfl ?_
              refine z_iast (ws' := w1 K b (N, M, S, rl, rh, upd bl (ix p0) p1, bh, 0, fl, fh, pt, nu, de)) C 0 rfl 5 rfl dX1_setBox_91 (ix p0) i_p0 (by omega) (by decide) rfl ?_
              refine z_aload_n C dX1_setBox_92 0 rfl ?_
              refine z_get (cl := vwCl) (T := TX1) (N := 13) (ci := 3) (ref := "IntervalSolverModel") C hinX1 rfl 7 (by decide) lk4 rfl dX1_setBox_93 0 rfl rfl ?_
              refine z_iload_n C dX1_setBox_96 1 rfl ?_
              refine z_iload_n C dX1_setBox_97 3 rfl ?_
              refine z_iast (ws' := w1 K b (N, M, S, rl, rh, upd bl (ix p0) p1, upd bh (ix p0) p2, 0, fl, fh, pt, nu, de)) C 0 rfl 6 rfl dX1_setBox_98 (ix p0) i_p0 (by omega) (by decide) rfl ?_
              refine z_iload C dX1_setBox_99 4 rfl ?_
              exact hend _ _ _ _ _ (N, M, S, rl, rh, upd bl (ix p0) p1, upd bh (ix p0) p2, 0, fl, fh, pt, nu, de) dX1_setBox_101 (Nat.zero_le _) (Nat.zero_le _) (Or.inl rfl) (by have hk : (kInt N p0 p1 p2 1000000000) = 0 := (by unfold kInt; rw [if_pos q10, if_pos ⟨⟨Int32.not_lt.mp c30, Int32.not_lt.mp c36⟩, c41⟩]); have ho : othR (bl (ix p0)) (bh (ix p0)) p1 p2 = 0 := if_pos ⟨c65, c75⟩; rw [hk, onlyIf_0 rfl, ho]; exact ⟨rfl, rfl⟩)
            · refine z_iconst (v := 1) C dX1_setBox_78 (by decide) ?_
              refine z_goto (tgt := 83) C dX1_setBox_79 (by decide) ?_
              refine z_istore (lv' := [(0, .ref (b 0)), (1, .int p0), (2, .int p1), (3, .int p2), (4, .int 1)]) C dX1_setBox_83 (by decide) [1, 2, 3, 4, 0] rfl ?_
              refine z_aload_n C dX1_setBox_85 0 rfl ?_
              refine z_get (cl := vwCl) (T := TX1) (N := 13) (ci := 3) (ref := "IntervalSolverModel") C hinX1 rfl 6 (by decide) lk3 rfl dX1_setBox_86 0 rfl rfl ?_
              refine z_iload_n C dX1_setBox_89 1 rfl ?_
              refine z_iload_n C dX1_setBox_90 2 rfl ?_
              refine z_iast (ws' := w1 K b (N, M, S, rl, rh, upd bl (ix p0) p1, bh, 0, fl, fh, pt, nu, de)) C 0 rfl 5 rfl dX1_setBox_91 (ix p0) i_p0 (by omega) (by decide) rfl ?_
              refine z_aload_n C dX1_setBox_92 0 rfl ?_
              refine z_get (cl := vwCl) (T := TX1) (N := 13) (ci := 3) (ref := "IntervalSolverModel") C hinX1 rfl 7 (by decide) lk4 rfl dX1_setBox_93 0 rfl rfl ?_
              refine z_iload_n C dX1_setBox_96 1 rfl ?_
              refine z_iload_n C dX1_setBox_97 3 rfl ?_
              refine z_iast (ws' := w1 K b (N, M, S, rl, rh, upd bl (ix p0) p1, upd bh (ix p0) p2, 0, fl, fh, pt, nu, de)) C 0 rfl 6 rfl dX1_setBox_98 (ix p0) i_p0 (by omega) (by decide) rfl ?_
              refine z_iload C dX1_setBox_99 4 rfl ?_
              exact hend _ _ _ _ _ (N, M, S, rl, rh, upd bl (ix p0) p1, upd bh (ix p0) p2, 0, fl, fh, pt, nu, de) dX1_setBox_101 (Nat.zero_le _) (Nat.zero_le _) (Or.inr rfl) (by have hk : (kInt N p0 p1 p2 1000000000) = 0 := (by unfold kInt; rw [if_pos q10, if_pos ⟨⟨Int32.not_lt.mp c30, Int32.not_lt.mp c36⟩, c41⟩]); have ho : othR (bl (ix p0)) (bh (ix p0)) p1 p2 = 1 := if_neg (by rintro ⟨h1, h2⟩; first | exact c65 h1 | exact c75 h2); rw [hk, onlyIf_0 rfl, ho]; exact ⟨rfl, rfl⟩)
        · refine z_aload_n C dX1_setBox_44 0 rfl ?_
          refine z_iconst (v := 2) C dX1_setBox_45 (by decide) ?_
          refine z_callVi_all (As := [.int 2]) C (c1_fail l D K b N M S rl rh bl bh 0 fl fh pt nu de 2) (cwV 1 C.1.2.2.2.2 gX1_setBox_X1_fail rfl rfl rfl (by decide +kernel) ⟨Nat.le_of_ble_eq_true rfl, Nat.le_of_ble_eq_true rfl⟩) (ci := 3) rfl rfl 0 rfl dX1_setBox_46 rfl rfl (Nat.le_of_ble_eq_true rfl) ⟨Nat.le_of_ble_eq_true rfl, Nat.le_of_ble_eq_true rfl⟩ (fun r4 u4 h4 => ?_)
          obtain ⟨rfl, rfl⟩ := h4
          refine z_if_eq (tgt := 56) C dX1_setBox_49 (by decide) (fun c49 => ?_) (fun c49 => ?_)
          · refine z_iconst (v := 0) C dX1_setBox_56 (by decide) ?_
            exact hend _ _ _ _ _ (N, M, S, rl, rh, bl, bh, 2, fl, fh, pt, nu, de) dX1_setBox_57 (Nat.zero_le _) (Nat.zero_le _) (Or.inl rfl) (by have hk : (kInt N p0 p1 p2 1000000000) = 2 := (by unfold kInt; rw [if_pos q10, if_neg (by rintro ⟨⟨h1, h2⟩, h3⟩; first | exact absurd h1 (Int32.not_le.mpr c30) | exact absurd h2 (Int32.not_le.mpr c36) | exact c41 h3)]); rw [hk]; exact ⟨rfl, rfl⟩)
          · exact absurd rfl c49
  · have q10 : ¬ (ixP N p0) := zi0.mp c10
    refine z_aload_n C dX1_setBox_13 0 rfl ?_
    refine z_iconst (v := 1) C dX1_setBox_14 (by decide) ?_
    refine z_callVi_all (As := [.int 1]) C (c1_fail l D K b N M S rl rh bl bh 0 fl fh pt nu de 1) (cwV 1 C.1.2.2.2.2 gX1_setBox_X1_fail rfl rfl rfl (by decide +kernel) ⟨Nat.le_of_ble_eq_true rfl, Nat.le_of_ble_eq_true rfl⟩) (ci := 3) rfl rfl 0 rfl dX1_setBox_15 rfl rfl (Nat.le_of_ble_eq_true rfl) ⟨Nat.le_of_ble_eq_true rfl, Nat.le_of_ble_eq_true rfl⟩ (fun r5 u5 h5 => ?_)
    obtain ⟨rfl, rfl⟩ := h5
    refine z_if_eq (tgt := 25) C dX1_setBox_18 (by decide) (fun c18 => ?_) (fun c18 => ?_)
    · refine z_iconst (v := 0) C dX1_setBox_25 (by decide) ?_
      exact hend _ _ _ _ _ (N, M, S, rl, rh, bl, bh, 1, fl, fh, pt, nu, de) dX1_setBox_26 (Nat.zero_le _) (Nat.zero_le _) (Or.inl rfl) (by have hk : (kInt N p0 p1 p2 1000000000) = 1 := (if_neg q10); rw [hk]; exact ⟨rfl, rfl⟩)
    · exact absurd rfl c18

set_option maxRecDepth 100000 in
set_option maxHeartbeats 4000000 in
theorem c1_swap (l : Launch) (D : va_G) (K : Nat → ClassId) (q n : Nat) (f : Nat → Int32) (i : Nat) (k : Nat) (hi : i < n) (hk : k < n) (hn : n ≤ 25) : mV l D K yX1_swap wsX1_swap 0 0 0 0 [.ref q, .int (nI i), .int (nI k)] ([(q, .inl (K 0, n, .inl (f)))]) (fun g => g = swpV f i k) (fun g : Nat → Int32 => [(q, .inl (K 0, n, .inl g))]) := by
  refine z_met_v (cc := cX1_swap) (maxL := 4) (own := RX1) (lv := [(0, .ref q), (1, .int (nI i)), (2, .int (nI k))]) (by decide) rfl rfl (Nat.le_of_ble_eq_true rfl) rfl ?_
  intro p e s m below meth c args Q A C hnm hend
  refine z_aload_n C dX1_swap_0 0 rfl ?_
  refine z_iload_n C dX1_swap_1 1 rfl ?_
  refine z_iald C 0 rfl 0 rfl dX1_swap_2 i rfl (by omega) (by omega) ?_
  refine z_istore_n (lv' := [(0, .ref q), (1, .int (nI i)), (2, .int (nI k)), (3, .int (f i))]) C dX1_swap_3 (by decide) [1, 2, 3, 0] rfl ?_
  refine z_aload_n C dX1_swap_4 0 rfl ?_
  refine z_iload_n C dX1_swap_5 1 rfl ?_
  refine z_aload_n C dX1_swap_6 0 rfl ?_
  refine z_iload_n C dX1_swap_7 2 rfl ?_
  refine z_iald C 0 rfl 0 rfl dX1_swap_8 k rfl (by omega) (by omega) ?_
  refine z_iast (ws' := [(q, .inl (K 0, n, .inl (upd f i (f k))))]) C 0 rfl 0 rfl dX1_swap_9 i rfl (by omega) (by omega) rfl ?_
  refine z_aload_n C dX1_swap_10 0 rfl ?_
  refine z_iload_n C dX1_swap_11 2 rfl ?_
  refine z_iload_n C dX1_swap_12 3 rfl ?_
  refine z_iast (ws' := [(q, .inl (K 0, n, .inl (upd (upd f i (f k)) k (f i))))]) C 0 rfl 0 rfl dX1_swap_13 k rfl (by omega) (by omega) rfl ?_
  exact hend _ _ _ _ (upd (upd f i (f k)) k (f i)) dX1_swap_14 (Nat.zero_le _) (Nat.zero_le _) rfl

set_option maxRecDepth 100000 in
set_option maxHeartbeats 4000000 in
theorem c1_down (l : Launch) (D : va_G) (K : Nat → ClassId) (p0 : Int64) (p1 : Int64) (h0 : ¬ p1 = 0) : mL l D K yX1_down wsX1_down 0 0 0 0 [.long p0, .long p1] ([]) (fun r (_ : Unit) => r = dnJ p0 p1) (wN) := by
  refine z_met_l (cc := cX1_down) (maxL := 6) (own := RX1) (lv := [(0, .long p0), (2, .long p1)]) (by decide) rfl rfl (Nat.le_of_ble_eq_true rfl) rfl ?_
  intro p e s m below meth c args Q A C hnm hend
  refine z_lload_n C dX1_down_0 0 rfl ?_
  refine z_lload_n C dX1_down_1 1 rfl ?_
  refine z_ldiv C dX1_down_2 h0 ?_
  refine z_lstore (lv' := [(0, .long p0), (2, .long p1), (4, .long (p0 / p1))]) C dX1_down_3 (by decide) [1, 2, 0] rfl ?_
  refine z_lload C dX1_down_5 2 rfl ?_
  refine z_lload_n C dX1_down_7 1 rfl ?_
  refine z_lmul C dX1_down_8 ?_
  refine z_lload_n C dX1_down_9 0 rfl ?_
  refine z_lcmp_eq (tgt := 39) C dX1_down_10 dX1_down_11 (by decide) (fun c10 => ?_) (fun c10 => ?_)
  · refine z_lload C dX1_down_39 2 rfl ?_
    refine z_goto (tgt := 48) C dX1_down_41 (by decide) ?_
    exact hend _ _ _ _ _ () dX1_down_48 (Nat.zero_le _) (Nat.zero_le _) (by unfold dnJ; first | rw [if_pos c10] | rw [if_neg c10, if_pos hsg] | rw [if_neg c10, if_neg hsg])
  · refine z_lload_n C dX1_down_14 0 rfl ?_
    refine z_lconst (v := 0) C dX1_down_15 (by decide) ?_
    refine z_lcmp_ge (tgt := 24) C dX1_down_16 dX1_down_17 (by decide) (fun c16 => ?_) (fun c16 => ?_)
    · have q16 : ¬ p0 < 0 := c16
      refine z_iconst (v := 0) C dX1_down_24 (by decide) ?_
      refine z_lload_n C dX1_down_25 1 rfl ?_
      refine z_lconst (v := 0) C dX1_down_26 (by decide) ?_
      refine z_lcmp_ge (tgt := 35) C dX1_down_27 dX1_down_28 (by decide) (fun c27 => ?_) (fun c27 => ?_)
      · have q27 : ¬ p1 < 0 := c27
        refine z_iconst (v := 0) C dX1_down_35 (by decide) ?_
        refine z_icmp_ne (tgt := 44) C dX1_down_36 (by decide) (fun c36 => ?_) (fun c36 => ?_)
        · exact absurd rfl c36
        · have hsg : (p0 < 0 ↔ p1 < 0) := (by first | (simp only [q16, q27]; done) | (simp only [q16, q27]; decide))
          refine z_lload C dX1_down_39 2 rfl ?_
          refine z_goto (tgt := 48) C dX1_down_41 (by decide) ?_
          exact hend _ _ _ _ _ () dX1_down_48 (Nat.zero_le _) (Nat.zero_le _) (by unfold dnJ; first | rw [if_pos c10] | rw [if_neg c10, if_pos hsg] | rw [if_neg c10, if_neg hsg])
      · have q27 : p1 < 0 := c27
        refine z_iconst (v := 1) C dX1_down_31 (by decide) ?_
        refine z_goto (tgt := 36) C dX1_down_32 (by decide) ?_
        refine z_icmp_ne (tgt := 44) C dX1_down_36 (by decide) (fun c36 => ?_) (fun c36 => ?_)
        · have hsg : ¬ (p0 < 0 ↔ p1 < 0) := (by first | (simp only [q16, q27]; done) | (simp only [q16, q27]; decide))
          refine z_lload C dX1_down_44 2 rfl ?_
          refine z_lconst (v := 1) C dX1_down_46 (by decide) ?_
          refine z_lsub C dX1_down_47 ?_
          exact hend _ _ _ _ _ () dX1_down_48 (Nat.zero_le _) (Nat.zero_le _) (by unfold dnJ; first | rw [if_pos c10] | rw [if_neg c10, if_pos hsg] | rw [if_neg c10, if_neg hsg])
        · exact absurd c36 (by decide)
    · have q16 : p0 < 0 := c16
      refine z_iconst (v := 1) C dX1_down_20 (by decide) ?_
      refine z_goto (tgt := 25) C dX1_down_21 (by decide) ?_
      refine z_lload_n C dX1_down_25 1 rfl ?_
      refine z_lconst (v := 0) C dX1_down_26 (by decide) ?_
      refine z_lcmp_ge (tgt := 35) C dX1_down_27 dX1_down_28 (by decide) (fun c27 => ?_) (fun c27 => ?_)
      · have q27 : ¬ p1 < 0 := c27
        refine z_iconst (v := 0) C dX1_down_35 (by decide) ?_
        refine z_icmp_ne (tgt := 44) C dX1_down_36 (by decide) (fun c36 => ?_) (fun c36 => ?_)
        · have hsg : ¬ (p0 < 0 ↔ p1 < 0) := (by first | (simp only [q16, q27]; done) | (simp only [q16, q27]; decide))
          refine z_lload C dX1_down_44 2 rfl ?_
          refine z_lconst (v := 1) C dX1_down_46 (by decide) ?_
          refine z_lsub C dX1_down_47 ?_
          exact hend _ _ _ _ _ () dX1_down_48 (Nat.zero_le _) (Nat.zero_le _) (by unfold dnJ; first | rw [if_pos c10] | rw [if_neg c10, if_pos hsg] | rw [if_neg c10, if_neg hsg])
        · exact absurd c36 (by decide)
      · have q27 : p1 < 0 := c27
        refine z_iconst (v := 1) C dX1_down_31 (by decide) ?_
        refine z_goto (tgt := 36) C dX1_down_32 (by decide) ?_
        refine z_icmp_ne (tgt := 44) C dX1_down_36 (by decide) (fun c36 => ?_) (fun c36 => ?_)
        · exact absurd rfl c36
        · have hsg : (p0 < 0 ↔ p1 < 0) := (by first | (simp only [q16, q27]; done) | (simp only [q16, q27]; decide))
          refine z_lload C dX1_down_39 2 rfl ?_
          refine z_goto (tgt := 48) C dX1_down_41 (by decide) ?_
          exact hend _ _ _ _ _ () dX1_down_48 (Nat.zero_le _) (Nat.zero_le _) (by unfold dnJ; first | rw [if_pos c10] | rw [if_neg c10, if_pos hsg] | rw [if_neg c10, if_neg hsg])

set_option maxRecDepth 100000 in
set_option maxHeartbeats 4000000 in
theorem c1_up (l : Launch) (D : va_G) (K : Nat → ClassId) (p0 : Int64) (p1 : Int64) (h0 : ¬ p1 = 0) : mL l D K yX1_up wsX1_up 1 25 0 0 [.long p0, .long p1] ([]) (fun r (_ : Unit) => r = upJ p0 p1) (wN) := by
  refine z_met_l (cc := cX1_up) (maxL := 4) (own := RX1) (lv := [(0, .long p0), (2, .long p1)]) (by decide) rfl rfl (Nat.le_of_ble_eq_true rfl) rfl ?_
  intro p e s m below meth c args Q A C hnm hend
  refine z_lload_n C dX1_up_0 0 rfl ?_
  refine z_lneg C dX1_up_1 ?_
  refine z_lload_n C dX1_up_2 1 rfl ?_
  refine z_callSl_none (As := [.long (-p0), .long p1]) C (c1_down l D K (-p0) p1 h0) (va_cwS 2 C.1.2.2.2.2 gX1_up_X1_down rfl rfl rfl (by decide +kernel) ⟨Nat.le_of_ble_eq_true rfl, Nat.le_of_ble_eq_true rfl⟩) dX1_up_3 rfl rfl (Nat.le_of_ble_eq_true rfl) ⟨Nat.le_of_ble_eq_true rfl, Nat.le_of_ble_eq_true rfl⟩ (fun r1 u1 h1 => ?_)
  subst h1
  refine z_lneg C dX1_up_6 ?_
  exact hend _ _ _ _ _ () dX1_up_7 (Nat.zero_le _) (Nat.zero_le _) rfl

set_option maxRecDepth 100000 in
set_option maxHeartbeats 4000000 in
theorem c1_keep (l : Launch) (D : va_G) (K : Nat → ClassId) (b : Nat → Nat) (N : Nat) (M : Nat → Nat → Int32) (S : Nat → Nat → Int32) (rl : Nat → Int32) (rh : Nat → Int32) (bl : Nat → Int32) (bh : Nat → Int32) (th : Int32) (fl : Nat → Int32) (fh : Nat → Int32) (pt : Nat → Int64) (nu : Int64) (de : Int64) (hN : N ≤ 5) : mV l D K yX1_keep wsX1_keep 0 0 0 0 [.ref (b 0)] (w1 K b (N, M, S, rl, rh, bl, bh, th, fl, fh, pt, nu, de)) (fun u => u = (N, M, S, rl, rh, bl, bh, th, cyV bl fl N, cyV bh fh N, pt, nu, de)) (w1 K b) := by
  have hinX1 : ∀ w ∈ wsX10, w ∈ wsX1_keep := by decide +kernel
  have lk0 : Cond.fieldLink RX1 7 "IntervalSolverModel" "n" "I" ∈ wsX1_keep := by decide +kernel
  have lk1 : Cond.fieldLink RX1 32 "IntervalSolverModel" "formerLows" "[I" ∈ wsX1_keep := by decide +kernel
  have lk2 : Cond.fieldLink RX1 26 "IntervalSolverModel" "boxLows" "[I" ∈ wsX1_keep := by decide +kernel
  have lk3 : Cond.fieldLink RX1 35 "IntervalSolverModel" "formerHighs" "[I" ∈ wsX1_keep := by decide +kernel
  have lk4 : Cond.fieldLink RX1 29 "IntervalSolverModel" "boxHighs" "[I" ∈ wsX1_keep := by decide +kernel
  refine z_met_v (cc := cX1_keep) (maxL := 2) (own := RX1) (lv := [(0, .ref (b 0))]) (by decide) rfl rfl (Nat.le_of_ble_eq_true rfl) rfl ?_
  intro p e s m below meth c args Q A C hnm hend
  refine z_iconst (v := 0) C dX1_keep_0 (by decide) ?_
  refine z_istore_n (lv' := [(0, .ref (b 0)), (1, .int 0)]) C dX1_keep_1 (by decide) [1, 0] rfl ?_
  suffices L2 : ∀ (f2_j j : Nat), 0 ≤ j → j ≤ N → N < j + f2_j → zW p l e { frames := 0, cells := 0, slots := 0, locals := 0 } s m args below meth c Q 2 A s.heap D vwCl 0 0 (w1 K b (N, M, S, rl, rh, bl, bh, th, cyV bl fl j, cyV bh fh j, pt, nu, de)) 2 ([(0, .ref (b 0)), (1, .int (nI j))]) [] from L2 (N + 1) 0 (Nat.le_refl _) (by omega) (by omega)
  intro f2_j
  induction f2_j with
  | zero => intro j h0 h1 h2; exact absurd h2 (by omega)
  | succ f2_j ih2_j =>
    intro j g2_0 g2_1 g2_2
    refine z_iload_n C dX1_keep_2 1 rfl ?_
    refine z_aload_n C dX1_keep_3 0 rfl ?_
    refine z_get (cl := vwCl) (T := TX1) (N := 13) (ci := 3) (ref := "IntervalSolverModel") C hinX1 rfl 1 (by decide) lk0 rfl dX1_keep_4 0 rfl rfl ?_
    refine z_icmp_ge (tgt := 40) C dX1_keep_7 (by decide) (fun c7 => ?_) (fun c7 => ?_)
    · have e7 : j = N := by have := (nI_leI (a := N) (b := j) (by omega) (by omega)).mp c7; omega
      rw [e7]
      exact hend _ _ _ _ (N, M, S, rl, rh, bl, bh, th, cyV bl fl N, cyV bh fh N, pt, nu, de) dX1_keep_40 (Nat.zero_le _) (Nat.zero_le _) rfl
    · have e7 : j < N := by have := mt (nI_leI (a := N) (b := j) (by omega) (by omega)).mpr c7; omega
      refine z_aload_n C dX1_keep_10 0 rfl ?_
      refine z_get (cl := vwCl) (T := TX1) (N := 13) (ci := 3) (ref := "IntervalSolverModel") C hinX1 rfl 8 (by decide) lk1 rfl dX1_keep_11 0 rfl rfl ?_
      refine z_iload_n C dX1_keep_14 1 rfl ?_
      refine z_aload_n C dX1_keep_15 0 rfl ?_
      refine z_get (cl := vwCl) (T := TX1) (N := 13) (ci := 3) (ref := "IntervalSolverModel") C hinX1 rfl 6 (by decide) lk2 rfl dX1_keep_16 0 rfl rfl ?_
      refine z_iload_n C dX1_keep_19 1 rfl ?_
      refine z_iald C 0 rfl 5 rfl dX1_keep_20 j rfl (by omega) (by decide) ?_
      refine z_iast (ws' := w1 K b (N, M, S, rl, rh, bl, bh, th, upd (cyV bl fl j) j (bl j), cyV bh fh j, pt, nu, de)) C 0 rfl 7 rfl dX1_keep_21 j rfl (by omega) (by decide) rfl ?_
      refine z_aload_n C dX1_keep_22 0 rfl ?_
      refine z_get (cl := vwCl) (T := TX1) (N := 13) (ci := 3) (ref := "IntervalSolverModel") C hinX1 rfl 9 (by decide) lk3 rfl dX1_keep_23 0 rfl rfl ?_
      refine z_iload_n C dX1_keep_26 1 rfl ?_
      refine z_aload_n C dX1_keep_27 0 rfl ?_
      refine z_get (cl := vwCl) (T := TX1) (N := 13) (ci := 3) (ref := "IntervalSolverModel") C hinX1 rfl 7 (by decide) lk4 rfl dX1_keep_28 0 rfl rfl ?_
      refine z_iload_n C dX1_keep_31 1 rfl ?_
      refine z_iald C 0 rfl 6 rfl dX1_keep_32 j rfl (by omega) (by decide) ?_
      refine z_iast (ws' := w1 K b (N, M, S, rl, rh, bl, bh, th, upd (cyV bl fl j) j (bl j), upd (cyV bh fh j) j (bh j), pt, nu, de)) C 0 rfl 8 rfl dX1_keep_33 j rfl (by omega) (by decide) rfl ?_
      refine z_iinc (v := nI (j + 1)) (lv' := [(0, .ref (b 0)), (1, .int (nI (j + 1)))]) C dX1_keep_34 (k := 1) rfl (nI_1 j) (by decide) [1, 0] rfl ?_
      refine z_goto (tgt := 2) C dX1_keep_37 (by decide) ?_
      exact ih2_j (j + 1) (by omega) (by omega) (by omega)

set_option maxRecDepth 100000 in
set_option maxHeartbeats 4000000 in
theorem c1_judge1 (l : Launch) (D : va_G) (K : Nat → ClassId) (b : Nat → Nat) (N : Nat) (M : Nat → Nat → Int32) (S : Nat → Nat → Int32) (rl : Nat → Int32) (rh : Nat → Int32) (bl : Nat → Int32) (bh : Nat → Int32) (th : Int32) (fl : Nat → Int32) (fh : Nat → Int32) (pt : Nat → Int64) (nu : Int64) (de : Int64) (hN : N ≤ 5) : mI l D K yX1_judge wsX1_judge 0 0 0 0 [.ref (b 0), .int 1] (w1 K b (N, M, S, rl, rh, bl, bh, th, fl, fh, pt, nu, de)) (fun r u => r = -1 ∧ u = (N, M, S, rl, rh, cyV fl bl N, cyV fh bh N, th, fl, fh, pt, nu, de)) (w1 K b) := by
  have hinX1 : ∀ w ∈ wsX10, w ∈ wsX1_judge := by decide +kernel
  have lk0 : Cond.fieldLink RX1 7 "IntervalSolverModel" "n" "I" ∈ wsX1_judge := by decide +kernel
  have lk1 : Cond.fieldLink RX1 26 "IntervalSolverModel" "boxLows" "[I" ∈ wsX1_judge := by decide +kernel
  have lk2 : Cond.fieldLink RX1 32 "IntervalSolverModel" "formerLows" "[I" ∈ wsX1_judge := by decide +kernel
  have lk3 : Cond.fieldLink RX1 29 "IntervalSolverModel" "boxHighs" "[I" ∈ wsX1_judge := by decide +kernel
  have lk4 : Cond.fieldLink RX1 35 "IntervalSolverModel" "formerHighs" "[I" ∈ wsX1_judge := by decide +kernel
  refine z_met_i (cc := cX1_judge) (maxL := 4) (own := RX1) (lv := [(0, .ref (b 0)), (1, .int 1)]) (by decide) rfl rfl (Nat.le_of_ble_eq_true rfl) rfl ?_
  intro p e s m below meth c args Q A C hnm hend
  refine z_iconst (v := 0) C dX1_judge_0 (by decide) ?_
  refine z_istore_n (lv' := [(0, .ref (b 0)), (1, .int 1), (2, .int 0)]) C dX1_judge_1 (by decide) [1, 2, 0] rfl ?_
  refine z_iconst (v := 0) C dX1_judge_2 (by decide) ?_
  refine z_istore_n (lv' := [(0, .ref (b 0)), (1, .int 1), (2, .int 0), (3, .int 0)]) C dX1_judge_3 (by decide) [1, 2, 3, 0] rfl ?_
  suffices L4 : ∀ (f4_j j : Nat) (n1 : Int32), 0 ≤ j → j ≤ N → N < j + f4_j → zW p l e { frames := 0, cells := 0, slots := 0, locals := 0 } s m args below meth c Q 4 A s.heap D vwCl 0 0 (w1 K b (N, M, S, rl, rh, cyV fl bl j, cyV fh bh j, th, fl, fh, pt, nu, de)) 4 ([(0, .ref (b 0)), (1, .int 1), (2, .int n1), (3, .int (nI j))]) [] from L4 (N + 1) 0 0 (Nat.le_refl _) (by omega) (by omega)
  intro f4_j
  induction f4_j with
  | zero => intro j n1 h0 h1 h2; exact absurd h2 (by omega)
  | succ f4_j ih4_j =>
    intro j n1 g4_0 g4_1 g4_2
    refine z_iload_n C dX1_judge_4 3 rfl ?_
    refine z_aload_n C dX1_judge_5 0 rfl ?_
    refine z_get (cl := vwCl) (T := TX1) (N := 13) (ci := 3) (ref := "IntervalSolverModel") C hinX1 rfl 1 (by decide) lk0 rfl dX1_judge_6 0 rfl rfl ?_
    refine z_icmp_ge (tgt := 84) C dX1_judge_9 (by decide) (fun c9 => ?_) (fun c9 => ?_)
    · have e9 : j = N := by have := (nI_leI (a := N) (b := j) (by omega) (by omega)).mp c9; omega
      rw [e9]
      refine z_iload_n C dX1_judge_84 1 rfl ?_
      refine z_if_eq (tgt := 92) C dX1_judge_85 (by decide) (fun c85 => ?_) (fun c85 => ?_)
      · exact absurd c85 (by decide)
      · refine z_iconst (v := -1) C dX1_judge_88 (by decide) ?_
        refine z_goto (tgt := 93) C dX1_judge_89 (by decide) ?_
        exact hend _ _ _ _ _ (N, M, S, rl, rh, cyV fl bl N, cyV fh bh N, th, fl, fh, pt, nu, de) dX1_judge_93 (Nat.zero_le _) (Nat.zero_le _) ⟨rfl, rfl⟩
    · have e9 : j < N := by have := mt (nI_leI (a := N) (b := j) (by omega) (by omega)).mpr c9; omega
      refine z_iload_n C dX1_judge_12 1 rfl ?_
      refine z_if_eq (tgt := 40) C dX1_judge_13 (by decide) (fun c13 => ?_) (fun c13 => ?_)
      · exact absurd c13 (by decide)
      · refine z_aload_n C dX1_judge_16 0 rfl ?_
        refine z_get (cl := vwCl) (T := TX1) (N := 13) (ci := 3) (ref := "IntervalSolverModel") C hinX1 rfl 6 (by decide) lk1 rfl dX1_judge_17 0 rfl rfl ?_
        refine z_iload_n C dX1_judge_20 3 rfl ?_
        refine z_aload_n C dX1_judge_21 0 rfl ?_
        refine z_get (cl := vwCl) (T := TX1) (N := 13) (ci := 3) (ref := "IntervalSolverModel") C hinX1 rfl 8 (by decide) lk2 rfl dX1_judge_22 0 rfl rfl ?_
        refine z_iload_n C dX1_judge_25 3 rfl ?_
        refine z_iald C 0 rfl 7 rfl dX1_judge_26 j rfl (by omega) (by decide) ?_
        refine z_iast (ws' := w1 K b (N, M, S, rl, rh, upd (cyV fl bl j) j (fl j), cyV fh bh j, th, fl, fh, pt, nu, de)) C 0 rfl 5 rfl dX1_judge_27 j rfl (by omega) (by decide) rfl ?_
        refine z_aload_n C dX1_judge_28 0 rfl ?_
        refine z_get (cl := vwCl) (T := TX1) (N := 13) (ci := 3) (ref := "IntervalSolverModel") C hinX1 rfl 7 (by decide) lk3 rfl dX1_judge_29 0 rfl rfl ?_
        refine z_iload_n C dX1_judge_32 3 rfl ?_
        refine z_aload_n C dX1_judge_33 0 rfl ?_
        refine z_get (cl := vwCl) (T := TX1) (N := 13) (ci := 3) (ref := "IntervalSolverModel") C hinX1 rfl 9 (by decide) lk4 rfl dX1_judge_34 0 rfl rfl ?_
        refine z_iload_n C dX1_judge_37 3 rfl ?_
        refine z_iald C 0 rfl 8 rfl dX1_judge_38 j rfl (by omega) (by decide) ?_
        refine z_iast (ws' := w1 K b (N, M, S, rl, rh, upd (cyV fl bl j) j (fl j), upd (cyV fh bh j) j (fh j), th, fl, fh, pt, nu, de)) C 0 rfl 6 rfl dX1_judge_39 j rfl (by omega) (by decide) rfl ?_
        refine z_iload_n C dX1_judge_40 2 rfl ?_
        refine z_aload_n C dX1_judge_41 0 rfl ?_
        refine z_get (cl := vwCl) (T := TX1) (N := 13) (ci := 3) (ref := "IntervalSolverModel") C hinX1 rfl 6 (by decide) lk1 rfl dX1_judge_42 0 rfl rfl ?_
        refine z_iload_n C dX1_judge_45 3 rfl ?_
        refine z_iald C 0 rfl 5 rfl dX1_judge_46 j rfl (by omega) (by decide) ?_
        refine z_aload_n C dX1_judge_47 0 rfl ?_
        refine z_get (cl := vwCl) (T := TX1) (N := 13) (ci := 3) (ref := "IntervalSolverModel") C hinX1 rfl 8 (by decide) lk2 rfl dX1_judge_48 0 rfl rfl ?_
        refine z_iload_n C dX1_judge_51 3 rfl ?_
        refine z_iald C 0 rfl 7 rfl dX1_judge_52 j rfl (by omega) (by decide) ?_
        refine z_icmp_ne (tgt := 71) C dX1_judge_53 (by decide) (fun c53 => ?_) (fun c53 => ?_)
        · exact absurd pk_us c53
        · refine z_aload_n C dX1_judge_56 0 rfl ?_
          refine z_get (cl := vwCl) (T := TX1) (N := 13) (ci := 3) (ref := "IntervalSolverModel") C hinX1 rfl 7 (by decide) lk3 rfl dX1_judge_57 0 rfl rfl ?_
          refine z_iload_n C dX1_judge_60 3 rfl ?_
          refine z_iald C 0 rfl 6 rfl dX1_judge_61 j rfl (by omega) (by decide) ?_
          refine z_aload_n C dX1_judge_62 0 rfl ?_
          refine z_get (cl := vwCl) (T := TX1) (N := 13) (ci := 3) (ref := "IntervalSolverModel") C hinX1 rfl 9 (by decide) lk4 rfl dX1_judge_63 0 rfl rfl ?_
          refine z_iload_n C dX1_judge_66 3 rfl ?_
          refine z_iald C 0 rfl 8 rfl dX1_judge_67 j rfl (by omega) (by decide) ?_
          refine z_icmp_eq (tgt := 75) C dX1_judge_68 (by decide) (fun c68 => ?_) (fun c68 => ?_)
          · refine z_iconst (v := 0) C dX1_judge_75 (by decide) ?_
            refine z_iadd C dX1_judge_76 ?_
            refine z_istore_n (lv' := [(0, .ref (b 0)), (1, .int 1), (2, .int (n1 + 0)), (3, .int (nI j))]) C dX1_judge_77 (by decide) [1, 2, 0, 3] rfl ?_
            refine z_iinc (v := nI (j + 1)) (lv' := [(0, .ref (b 0)), (1, .int 1), (2, .int (n1 + 0)), (3, .int (nI (j + 1)))]) C dX1_judge_78 (k := 3) rfl (nI_1 j) (by decide) [1, 2, 3, 0] rfl ?_
            refine z_goto (tgt := 4) C dX1_judge_81 (by decide) ?_
            exact ih4_j (j + 1) (n1 + 0) (by omega) (by omega) (by omega)
          · exact absurd pk_us c68

set_option maxRecDepth 100000 in
set_option maxHeartbeats 4000000 in
theorem c1_judge0 (l : Launch) (D : va_G) (K : Nat → ClassId) (b : Nat → Nat) (N : Nat) (M : Nat → Nat → Int32) (S : Nat → Nat → Int32) (rl : Nat → Int32) (rh : Nat → Int32) (bl : Nat → Int32) (bh : Nat → Int32) (th : Int32) (fl : Nat → Int32) (fh : Nat → Int32) (pt : Nat → Int64) (nu : Int64) (de : Int64) (hN : N ≤ 5) : mI l D K yX1_judge wsX1_judge 0 0 0 0 [.ref (b 0), .int 0] (w1 K b (N, M, S, rl, rh, bl, bh, th, fl, fh, pt, nu, de)) (fun r u => r = jdC bl bh fl fh N ∧ u = (N, M, S, rl, rh, bl, bh, th, fl, fh, pt, nu, de)) (w1 K b) := by
  have hinX1 : ∀ w ∈ wsX10, w ∈ wsX1_judge := by decide +kernel
  have lk0 : Cond.fieldLink RX1 7 "IntervalSolverModel" "n" "I" ∈ wsX1_judge := by decide +kernel
  have lk1 : Cond.fieldLink RX1 26 "IntervalSolverModel" "boxLows" "[I" ∈ wsX1_judge := by decide +kernel
  have lk2 : Cond.fieldLink RX1 32 "IntervalSolverModel" "formerLows" "[I" ∈ wsX1_judge := by decide +kernel
  have lk3 : Cond.fieldLink RX1 29 "IntervalSolverModel" "boxHighs" "[I" ∈ wsX1_judge := by decide +kernel
  have lk4 : Cond.fieldLink RX1 35 "IntervalSolverModel" "formerHighs" "[I" ∈ wsX1_judge := by decide +kernel
  refine z_met_i (cc := cX1_judge) (maxL := 4) (own := RX1) (lv := [(0, .ref (b 0)), (1, .int 0)]) (by decide) rfl rfl (Nat.le_of_ble_eq_true rfl) rfl ?_
  intro p e s m below meth c args Q A C hnm hend
  refine z_iconst (v := 0) C dX1_judge_0 (by decide) ?_
  refine z_istore_n (lv' := [(0, .ref (b 0)), (1, .int 0), (2, .int 0)]) C dX1_judge_1 (by decide) [1, 2, 0] rfl ?_
  refine z_iconst (v := 0) C dX1_judge_2 (by decide) ?_
  refine z_istore_n (lv' := [(0, .ref (b 0)), (1, .int 0), (2, .int 0), (3, .int 0)]) C dX1_judge_3 (by decide) [1, 2, 3, 0] rfl ?_
  suffices L4 : ∀ (f4_j j : Nat), 0 ≤ j → j ≤ N → N < j + f4_j → zW p l e { frames := 0, cells := 0, slots := 0, locals := 0 } s m args below meth c Q 4 A s.heap D vwCl 0 0 (w1 K b (N, M, S, rl, rh, bl, bh, th, fl, fh, pt, nu, de)) 4 ([(0, .ref (b 0)), (1, .int 0), (2, .int (jdC bl bh fl fh j)), (3, .int (nI j))]) [] from L4 (N + 1) 0 (Nat.le_refl _) (by omega) (by omega)
  intro f4_j
  induction f4_j with
  | zero => intro j h0 h1 h2; exact absurd h2 (by omega)
  | succ f4_j ih4_j =>
    intro j g4_0 g4_1 g4_2
    refine z_iload_n C dX1_judge_4 3 rfl ?_
    refine z_aload_n C dX1_judge_5 0 rfl ?_
    refine z_get (cl := vwCl) (T := TX1) (N := 13) (ci := 3) (ref := "IntervalSolverModel") C hinX1 rfl 1 (by decide) lk0 rfl dX1_judge_6 0 rfl rfl ?_
    refine z_icmp_ge (tgt := 84) C dX1_judge_9 (by decide) (fun c9 => ?_) (fun c9 => ?_)
    · have e9 : j = N := by have := (nI_leI (a := N) (b := j) (by omega) (by omega)).mp c9; omega
      rw [e9]
      refine z_iload_n C dX1_judge_84 1 rfl ?_
      refine z_if_eq (tgt := 92) C dX1_judge_85 (by decide) (fun c85 => ?_) (fun c85 => ?_)
      · refine z_iload_n C dX1_judge_92 2 rfl ?_
        exact hend _ _ _ _ _ (N, M, S, rl, rh, bl, bh, th, fl, fh, pt, nu, de) dX1_judge_93 (Nat.zero_le _) (Nat.zero_le _) ⟨rfl, rfl⟩
      · exact absurd rfl c85
    · have e9 : j < N := by have := mt (nI_leI (a := N) (b := j) (by omega) (by omega)).mpr c9; omega
      refine z_iload_n C dX1_judge_12 1 rfl ?_
      refine z_if_eq (tgt := 40) C dX1_judge_13 (by decide) (fun c13 => ?_) (fun c13 => ?_)
      · refine z_iload_n C dX1_judge_40 2 rfl ?_
        refine z_aload_n C dX1_judge_41 0 rfl ?_
        refine z_get (cl := vwCl) (T := TX1) (N := 13) (ci := 3) (ref := "IntervalSolverModel") C hinX1 rfl 6 (by decide) lk1 rfl dX1_judge_42 0 rfl rfl ?_
        refine z_iload_n C dX1_judge_45 3 rfl ?_
        refine z_iald C 0 rfl 5 rfl dX1_judge_46 j rfl (by omega) (by decide) ?_
        refine z_aload_n C dX1_judge_47 0 rfl ?_
        refine z_get (cl := vwCl) (T := TX1) (N := 13) (ci := 3) (ref := "IntervalSolverModel") C hinX1 rfl 8 (by decide) lk2 rfl dX1_judge_48 0 rfl rfl ?_
        refine z_iload_n C dX1_judge_51 3 rfl ?_
        refine z_iald C 0 rfl 7 rfl dX1_judge_52 j rfl (by omega) (by decide) ?_
        refine z_icmp_ne (tgt := 71) C dX1_judge_53 (by decide) (fun c53 => ?_) (fun c53 => ?_)
        · refine z_iconst (v := 1) C dX1_judge_71 (by decide) ?_
          refine z_goto (tgt := 76) C dX1_judge_72 (by decide) ?_
          refine z_iadd C dX1_judge_76 ?_
          refine z_topi (jdC bl bh fl fh (j + 1)) (by show _ = jdC bl bh fl fh j + (if bl j = fl j ∧ bh j = fh j then 0 else 1); rw [if_neg (by rintro ⟨h1, h2⟩; first | exact c53 h1 | exact c68 h2)]) ?_
          refine z_istore_n (lv' := [(0, .ref (b 0)), (1, .int 0), (2, .int (jdC bl bh fl fh (j + 1))), (3, .int (nI j))]) C dX1_judge_77 (by decide) [1, 2, 0, 3] rfl ?_
          refine z_iinc (v := nI (j + 1)) (lv' := [(0, .ref (b 0)), (1, .int 0), (2, .int (jdC bl bh fl fh (j + 1))), (3, .int (nI (j + 1)))]) C dX1_judge_78 (k := 3) rfl (nI_1 j) (by decide) [1, 2, 3, 0] rfl ?_
          refine z_goto (tgt := 4) C dX1_judge_81 (by decide) ?_
          exact ih4_j (j + 1) (by omega) (by omega) (by omega)
        · refine z_aload_n C dX1_judge_56 0 rfl ?_
          refine z_get (cl := vwCl) (T := TX1) (N := 13) (ci := 3) (ref := "IntervalSolverModel") C hinX1 rfl 7 (by decide) lk3 rfl dX1_judge_57 0 rfl rfl ?_
          refine z_iload_n C dX1_judge_60 3 rfl ?_
          refine z_iald C 0 rfl 6 rfl dX1_judge_61 j rfl (by omega) (by decide) ?_
          refine z_aload_n C dX1_judge_62 0 rfl ?_
          refine z_get (cl := vwCl) (T := TX1) (N := 13) (ci := 3) (ref := "IntervalSolverModel") C hinX1 rfl 9 (by decide) lk4 rfl dX1_judge_63 0 rfl rfl ?_
          refine z_iload_n C dX1_judge_66 3 rfl ?_
          refine z_iald C 0 rfl 8 rfl dX1_judge_67 j rfl (by omega) (by decide) ?_
          refine z_icmp_eq (tgt := 75) C dX1_judge_68 (by decide) (fun c68 => ?_) (fun c68 => ?_)
          · refine z_iconst (v := 0) C dX1_judge_75 (by decide) ?_
            refine z_iadd C dX1_judge_76 ?_
            refine z_topi (jdC bl bh fl fh (j + 1)) (by show _ = jdC bl bh fl fh j + (if bl j = fl j ∧ bh j = fh j then 0 else 1); rw [if_pos ⟨c53, c68⟩]) ?_
            refine z_istore_n (lv' := [(0, .ref (b 0)), (1, .int 0), (2, .int (jdC bl bh fl fh (j + 1))), (3, .int (nI j))]) C dX1_judge_77 (by decide) [1, 2, 0, 3] rfl ?_
            refine z_iinc (v := nI (j + 1)) (lv' := [(0, .ref (b 0)), (1, .int 0), (2, .int (jdC bl bh fl fh (j + 1))), (3, .int (nI (j + 1)))]) C dX1_judge_78 (k := 3) rfl (nI_1 j) (by decide) [1, 2, 3, 0] rfl ?_
            refine z_goto (tgt := 4) C dX1_judge_81 (by decide) ?_
            exact ih4_j (j + 1) (by omega) (by omega) (by omega)
          · refine z_iconst (v := 1) C dX1_judge_71 (by decide) ?_
            refine z_goto (tgt := 76) C dX1_judge_72 (by decide) ?_
            refine z_iadd C dX1_judge_76 ?_
            refine z_topi (jdC bl bh fl fh (j + 1)) (by show _ = jdC bl bh fl fh j + (if bl j = fl j ∧ bh j = fh j then 0 else 1); rw [if_neg (by rintro ⟨h1, h2⟩; first | exact c53 h1 | exact c68 h2)]) ?_
            refine z_istore_n (lv' := [(0, .ref (b 0)), (1, .int 0), (2, .int (jdC bl bh fl fh (j + 1))), (3, .int (nI j))]) C dX1_judge_77 (by decide) [1, 2, 0, 3] rfl ?_
            refine z_iinc (v := nI (j + 1)) (lv' := [(0, .ref (b 0)), (1, .int 0), (2, .int (jdC bl bh fl fh (j + 1))), (3, .int (nI (j + 1)))]) C dX1_judge_78 (k := 3) rfl (nI_1 j) (by decide) [1, 2, 3, 0] rfl ?_
            refine z_goto (tgt := 4) C dX1_judge_81 (by decide) ?_
            exact ih4_j (j + 1) (by omega) (by omega) (by omega)
      · exact absurd rfl c13

set_option maxRecDepth 100000 in
set_option maxHeartbeats 4000000 in
theorem c1_cut (l : Launch) (D : va_G) (K : Nat → ClassId) (b : Nat → Nat) (N : Nat) (M : Nat → Nat → Int32) (S : Nat → Nat → Int32) (rl : Nat → Int32) (rh : Nat → Int32) (bl : Nat → Int32) (bh : Nat → Int32) (th : Int32) (fl : Nat → Int32) (fh : Nat → Int32) (pt : Nat → Int64) (nu : Int64) (de : Int64) (i : Nat) (p1 : Int64) (p2 : Int64) (hi : i < 5) : mI l D K yX1_cut wsX1_cut 1 30 0 0 [.ref (b 0), .int (nI i), .long p1, .long p2] (w1 K b (N, M, S, rl, rh, bl, bh, th, fl, fh, pt, nu, de)) (fun r u => r = ctR p1 p2 bl bh i ∧ u = (N, M, S, rl, rh, (ctB p1 p2 bl bh i).1, (ctB p1 p2 bl bh i).2, th, fl, fh, pt, nu, de)) (w1 K b) := by
  have hinX1 : ∀ w ∈ wsX10, w ∈ wsX1_cut := by decide +kernel
  have lk0 : Cond.fieldLink RX1 26 "IntervalSolverModel" "boxLows" "[I" ∈ wsX1_cut := by decide +kernel
  have lk1 : Cond.methodLink RX1 117 Lib.MathLoose.max_long.x ∈ wsX1_cut := by decide +kernel
  have lk2 : Cond.static Lib.MathLoose.max_long.x ∈ wsX1_cut := by decide +kernel
  have lk3 : Cond.initialized "java/lang/Math" ∈ wsX1_cut := by decide +kernel
  have lk4 : Cond.code Lib.MathLoose.max_long.x Lib.MathLoose.max_long.code 4 (some .long) ∈ wsX1_cut := by decide +kernel
  have lk5 : Cond.fieldLink RX1 29 "IntervalSolverModel" "boxHighs" "[I" ∈ wsX1_cut := by decide +kernel
  have lk6 : Cond.methodLink RX1 128 Lib.MathLoose.min_long.x ∈ wsX1_cut := by decide +kernel
  have lk7 : Cond.static Lib.MathLoose.min_long.x ∈ wsX1_cut := by decide +kernel
  have lk8 : Cond.code Lib.MathLoose.min_long.x Lib.MathLoose.min_long.code 4 (some .long) ∈ wsX1_cut := by decide +kernel
  refine z_met_z (cc := cX1_cut) (maxL := 10) (own := RX1) (lv := [(0, .ref (b 0)), (1, .int (nI i)), (2, .long p1), (4, .long p2)]) (by decide) rfl rfl (Nat.le_of_ble_eq_true rfl) rfl ?_
  intro p e s m below meth c args Q A C hnm hend
  refine z_aload_n C dX1_cut_0 0 rfl ?_
  refine z_get (cl := vwCl) (T := TX1) (N := 13) (ci := 3) (ref := "IntervalSolverModel") C hinX1 rfl 6 (by decide) lk0 rfl dX1_cut_1 0 rfl rfl ?_
  refine z_iload_n C dX1_cut_4 1 rfl ?_
  refine z_iald C 0 rfl 5 rfl dX1_cut_5 i rfl (by omega) (by decide) ?_
  refine z_i2l C dX1_cut_6 ?_
  refine z_lload_n C dX1_cut_7 2 rfl ?_
  refine z_mmaxL C lk1 lk2 lk3 lk4 (Nat.le_of_ble_eq_true rfl) (Nat.le_of_ble_eq_true rfl) (Nat.le_of_ble_eq_true rfl) (Nat.le_of_ble_eq_true rfl) dX1_cut_8 ?_
  refine z_topl (ctL bl i p1) rfl ?_
  refine z_lstore (lv' := [(0, .ref (b 0)), (1, .int (nI i)), (2, .long p1), (4, .long p2), (6, .long (ctL bl i p1))]) C dX1_cut_11 (by decide) [1, 2, 3, 4, 0] rfl ?_
  refine z_aload_n C dX1_cut_13 0 rfl ?_
  refine z_get (cl := vwCl) (T := TX1) (N := 13) (ci := 3) (ref := "IntervalSolverModel") C hinX1 rfl 7 (by decide) lk5 rfl dX1_cut_14 0 rfl rfl ?_
  refine z_iload_n C dX1_cut_17 1 rfl ?_
  refine z_iald C 0 rfl 6 rfl dX1_cut_18 i rfl (by omega) (by decide) ?_
  refine z_i2l C dX1_cut_19 ?_
  refine z_lload C dX1_cut_20 3 rfl ?_
  refine z_mminL C lk6 lk7 lk3 lk8 (Nat.le_of_ble_eq_true rfl) (Nat.le_of_ble_eq_true rfl) (Nat.le_of_ble_eq_true rfl) (Nat.le_of_ble_eq_true rfl) dX1_cut_22 ?_
  refine z_topl (ctH bh i p2) rfl ?_
  refine z_lstore (lv' := [(0, .ref (b 0)), (1, .int (nI i)), (2, .long p1), (4, .long p2), (6, .long (ctL bl i p1)), (8, .long (ctH bh i p2))]) C dX1_cut_25 (by decide) [1, 2, 3, 4, 5, 0] rfl ?_
  refine z_lload C dX1_cut_27 4 rfl ?_
  refine z_lload C dX1_cut_29 5 rfl ?_
  refine z_lcmp_le (tgt := 37) C dX1_cut_31 dX1_cut_32 (by decide) (fun c31 => ?_) (fun c31 => ?_)
  · refine z_aload_n C dX1_cut_37 0 rfl ?_
    refine z_get (cl := vwCl) (T := TX1) (N := 13) (ci := 3) (ref := "IntervalSolverModel") C hinX1 rfl 6 (by decide) lk0 rfl dX1_cut_38 0 rfl rfl ?_
    refine z_iload_n C dX1_cut_41 1 rfl ?_
    refine z_lload C dX1_cut_42 4 rfl ?_
    refine z_l2i C dX1_cut_44 ?_
    refine z_iast (ws' := w1 K b (N, M, S, rl, rh, upd bl i ((ctL bl i p1).toInt32), bh, th, fl, fh, pt, nu, de)) C 0 rfl 5 rfl dX1_cut_45 i rfl (by omega) (by decide) rfl ?_
    refine z_aload_n C dX1_cut_46 0 rfl ?_
    refine z_get (cl := vwCl) (T := TX1) (N := 13) (ci := 3) (ref := "IntervalSolverModel") C hinX1 rfl 7 (by decide) lk5 rfl dX1_cut_47 0 rfl rfl ?_
    refine z_iload_n C dX1_cut_50 1 rfl ?_
    refine z_lload C dX1_cut_51 5 rfl ?_
    refine z_l2i C dX1_cut_53 ?_
    refine z_iast (ws' := w1 K b (N, M, S, rl, rh, upd bl i ((ctL bl i p1).toInt32), upd bh i ((ctH bh i p2).toInt32), th, fl, fh, pt, nu, de)) C 0 rfl 6 rfl dX1_cut_54 i rfl (by omega) (by decide) rfl ?_
    refine z_iconst (v := 1) C dX1_cut_55 (by decide) ?_
    exact hend _ _ _ _ _ (N, M, S, rl, rh, upd bl i ((ctL bl i p1).toInt32), upd bh i ((ctH bh i p2).toInt32), th, fl, fh, pt, nu, de) dX1_cut_56 (Nat.zero_le _) (Nat.zero_le _) (Or.inr rfl) ⟨by unfold ctR; rw [if_neg c31], by unfold ctB; rw [if_neg c31]⟩
  · refine z_iconst (v := 0) C dX1_cut_35 (by decide) ?_
    exact hend _ _ _ _ _ (N, M, S, rl, rh, bl, bh, th, fl, fh, pt, nu, de) dX1_cut_36 (Nat.zero_le _) (Nat.zero_le _) (Or.inl rfl) ⟨by unfold ctR; rw [if_pos c31], by unfold ctB; rw [if_pos c31]⟩

set_option maxRecDepth 100000 in
set_option maxHeartbeats 4000000 in
theorem c1_cutByRow (l : Launch) (D : va_G) (K : Nat → ClassId) (b : Nat → Nat) (N : Nat) (M : Nat → Nat → Int32) (S : Nat → Nat → Int32) (rl : Nat → Int32) (rh : Nat → Int32) (bl : Nat → Int32) (bh : Nat → Int32) (th : Int32) (fl : Nat → Int32) (fh : Nat → Int32) (pt : Nat → Int64) (nu : Int64) (de : Int64) (i : Nat) (hi : i < N) (hN : N ≤ 5) (hz : ¬ M i i = 0) : mI l D K yX1_cutByRow wsX1_cutByRow 2 59 0 0 [.ref (b 0), .int (nI i)] (w1 K b (N, M, S, rl, rh, bl, bh, th, fl, fh, pt, nu, de)) (fun r u => r = ctR (crLo N M rl rh bl bh i) (crHi N M rl rh bl bh i) bl bh i ∧ u = (N, M, S, rl, rh, (ctB (crLo N M rl rh bl bh i) (crHi N M rl rh bl bh i) bl bh i).1, (ctB (crLo N M rl rh bl bh i) (crHi N M rl rh bl bh i) bl bh i).2, th, fl, fh, pt, nu, de)) (w1 K b) := by
  have hinX1 : ∀ w ∈ wsX10, w ∈ wsX1_cutByRow := by decide +kernel
  have lk0 : Cond.constantLong RX1 130 (1024) ∈ wsX1_cutByRow := by decide +kernel
  have lk1 : Cond.fieldLink RX1 20 "IntervalSolverModel" "lows" "[I" ∈ wsX1_cutByRow := by decide +kernel
  have lk2 : Cond.fieldLink RX1 23 "IntervalSolverModel" "highs" "[I" ∈ wsX1_cutByRow := by decide +kernel
  have lk3 : Cond.fieldLink RX1 7 "IntervalSolverModel" "n" "I" ∈ wsX1_cutByRow := by decide +kernel
  have lk4 : Cond.fieldLink RX1 13 "IntervalSolverModel" "a" "[I" ∈ wsX1_cutByRow := by decide +kernel
  have lk5 : Cond.fieldLink RX1 26 "IntervalSolverModel" "boxLows" "[I" ∈ wsX1_cutByRow := by decide +kernel
  have lk6 : Cond.fieldLink RX1 29 "IntervalSolverModel" "boxHighs" "[I" ∈ wsX1_cutByRow := by decide +kernel
  have lk7 : Cond.methodLink RX1 117 Lib.MathLoose.max_long.x ∈ wsX1_cutByRow := by decide +kernel
  have lk8 : Cond.static Lib.MathLoose.max_long.x ∈ wsX1_cutByRow := by decide +kernel
  have lk9 : Cond.initialized "java/lang/Math" ∈ wsX1_cutByRow := by decide +kernel
  have lk10 : Cond.code Lib.MathLoose.max_long.x Lib.MathLoose.max_long.code 4 (some .long) ∈ wsX1_cutByRow := by decide +kernel
  have lk11 : Cond.methodLink RX1 128 Lib.MathLoose.min_long.x ∈ wsX1_cutByRow := by decide +kernel
  have lk12 : Cond.static Lib.MathLoose.min_long.x ∈ wsX1_cutByRow := by decide +kernel
  have lk13 : Cond.code Lib.MathLoose.min_long.x Lib.MathLoose.min_long.code 4 (some .long) ∈ wsX1_cutByRow := by decide +kernel
  refine z_met_z (cc := cX1_cutByRow) (maxL := 11) (own := RX1) (lv := [(0, .ref (b 0)), (1, .int (nI i))]) (by decide) rfl rfl (Nat.le_of_ble_eq_true rfl) rfl ?_
  intro p e s m below meth c args Q A C hnm hend
  have hz2 : ¬ (M i i).toInt64 = 0 := fun q => hz (toInt64_eq0 q)
  refine z_ldc2 C lk0 dX1_cutByRow_0 ?_
  refine z_aload_n C dX1_cutByRow_3 0 rfl ?_
  refine z_get (cl := vwCl) (T := TX1) (N := 13) (ci := 3) (ref := "IntervalSolverModel") C hinX1 rfl 4 (by decide) lk1 rfl dX1_cutByRow_4 0 rfl rfl ?_
  refine z_iload_n C dX1_cutByRow_7 1 rfl ?_
  refine z_iald C 0 rfl 3 rfl dX1_cutByRow_8 i rfl (by omega) (by decide) ?_
  refine z_i2l C dX1_cutByRow_9 ?_
  refine z_lmul C dX1_cutByRow_10 ?_
  refine z_lstore_n (lv' := [(0, .ref (b 0)), (1, .int (nI i)), (2, .long (1024 * ((rl i).toInt64)))]) C dX1_cutByRow_11 (by decide) [1, 2, 0] rfl ?_
  refine z_ldc2 C lk0 dX1_cutByRow_12 ?_
  refine z_aload_n C dX1_cutByRow_15 0 rfl ?_
  refine z_get (cl := vwCl) (T := TX1) (N := 13) (ci := 3) (ref := "IntervalSolverModel") C hinX1 rfl 5 (by decide) lk2 rfl dX1_cutByRow_16 0 rfl rfl ?_
  refine z_iload_n C dX1_cutByRow_19 1 rfl ?_
  refine z_iald C 0 rfl 4 rfl dX1_cutByRow_20 i rfl (by omega) (by decide) ?_
  refine z_i2l C dX1_cutByRow_21 ?_
  refine z_lmul C dX1_cutByRow_22 ?_
  refine z_lstore (lv' := [(0, .ref (b 0)), (1, .int (nI i)), (2, .long (1024 * ((rl i).toInt64))), (4, .long (1024 * ((rh i).toInt64)))]) C dX1_cutByRow_23 (by decide) [1, 2, 3, 0] rfl ?_
  refine z_iconst (v := 0) C dX1_cutByRow_25 (by decide) ?_
  refine z_istore (lv' := [(0, .ref (b 0)), (1, .int (nI i)), (2, .long (1024 * ((rl i).toInt64))), (4, .long (1024 * ((rh i).toInt64))), (6, .int 0)]) C dX1_cutByRow_26 (by decide) [1, 2, 3, 4, 0] rfl ?_
  suffices L28 : ∀ (f28_j j : Nat), 0 ≤ j → j ≤ N → N < j + f28_j → zW p l e { frames := 2, cells := 0, slots := 0, locals := 59 } s m args below meth c Q 11 A s.heap D vwCl 0 0 (w1 K b (N, M, S, rl, rh, bl, bh, th, fl, fh, pt, nu, de)) 28 ([(0, .ref (b 0)), (1, .int (nI i)), (2, .long (cwL M rl bl bh i j)), (4, .long (cwH M rh bl bh i j)), (6, .int (nI j))]) [] from L28 (N + 1) 0 (Nat.le_refl _) (by omega) (by omega)
  intro f28_j
  induction f28_j with
  | zero => intro j h0 h1 h2; exact absurd h2 (by omega)
  | succ f28_j ih28_j =>
    intro j g28_0 g28_1 g28_2
    refine z_iload C dX1_cutByRow_28 4 rfl ?_
    refine z_aload_n C dX1_cutByRow_30 0 rfl ?_
    refine z_get (cl := vwCl) (T := TX1) (N := 13) (ci := 3) (ref := "IntervalSolverModel") C hinX1 rfl 1 (by decide) lk3 rfl dX1_cutByRow_31 0 rfl rfl ?_
    refine z_icmp_ge (tgt := 120) C dX1_cutByRow_34 (by decide) (fun c34 => ?_) (fun c34 => ?_)
    · have e34 : j = N := by have := (nI_leI (a := N) (b := j) (by omega) (by omega)).mp c34; omega
      rw [e34]
      refine z_aload_n C dX1_cutByRow_120 0 rfl ?_
      refine z_get (cl := vwCl) (T := TX1) (N := 13) (ci := 3) (ref := "IntervalSolverModel") C hinX1 rfl 2 (by decide) lk4 rfl dX1_cutByRow_121 0 rfl rfl ?_
      refine z_iload_n C dX1_cutByRow_124 1 rfl ?_
      refine z_iload_n C dX1_cutByRow_125 1 rfl ?_
      refine z_callSi_none (As := [.int (nI i), .int (nI i)]) C (c1_at l D K (nI i) (nI i)) (va_cwS 2 C.1.2.2.2.2 gX1_cutByRow_X1_at rfl rfl rfl (by decide +kernel) ⟨Nat.le_of_ble_eq_true rfl, Nat.le_of_ble_eq_true rfl⟩) dX1_cutByRow_126 rfl rfl (Nat.le_of_ble_eq_true rfl) ⟨Nat.le_of_ble_eq_true rfl, Nat.le_of_ble_eq_true rfl⟩ (fun r1 u1 h1 => ?_)
      subst h1
      refine z_topi (nI (5 * i + i)) (at_eq rfl rfl) ?_
      refine z_iald C 0 rfl 1 rfl dX1_cutByRow_129 (5 * i + i) rfl (by omega) (by decide) ?_
      refine z_topi (M i i) (fl5_at M i i (by omega)) ?_
      refine z_i2l C dX1_cutByRow_130 ?_
      refine z_lstore (lv' := [(0, .ref (b 0)), (1, .int (nI i)), (2, .long (cwL M rl bl bh i N)), (4, .long (cwH M rh bl bh i N)), (6, .long ((M i i).toInt64))]) C dX1_cutByRow_131 (by decide) [1, 2, 3, 4, 0] rfl ?_
      refine z_lload C dX1_cutByRow_133 4 rfl ?_
      refine z_lconst (v := 0) C dX1_cutByRow_135 (by decide) ?_
      refine z_lcmp_le (tgt := 161) C dX1_cutByRow_136 dX1_cutByRow_137 (by decide) (fun c136 => ?_) (fun c136 => ?_)
      · refine z_aload_n C dX1_cutByRow_161 0 rfl ?_
        refine z_iload_n C dX1_cutByRow_162 1 rfl ?_
        refine z_lload C dX1_cutByRow_163 3 rfl ?_
        refine z_lload C dX1_cutByRow_165 4 rfl ?_
        refine z_callSl_none (As := [.long (cwH M rh bl bh i N), .long ((M i i).toInt64)]) C (c1_down l D K (cwH M rh bl bh i N) ((M i i).toInt64) hz2) (va_cwS 2 C.1.2.2.2.2 gX1_cutByRow_X1_down rfl rfl rfl (by decide +kernel) ⟨Nat.le_of_ble_eq_true rfl, Nat.le_of_ble_eq_true rfl⟩) dX1_cutByRow_167 rfl rfl (Nat.le_of_ble_eq_true rfl) ⟨Nat.le_of_ble_eq_true rfl, Nat.le_of_ble_eq_true rfl⟩ (fun r2 u2 h2 => ?_)
        subst h2
        refine z_topl (crLo N M rl rh bl bh i) (by unfold crLo; rw [if_neg c136]) ?_
        refine z_lload_n C dX1_cutByRow_170 2 rfl ?_
        refine z_lload C dX1_cutByRow_171 4 rfl ?_
        refine z_callSl_none (As := [.long (cwL M rl bl bh i N), .long ((M i i).toInt64)]) C (c1_up l D K (cwL M rl bl bh i N) ((M i i).toInt64) hz2) (va_cwS 2 C.1.2.2.2.2 gX1_cutByRow_X1_up rfl rfl rfl (by decide +kernel) ⟨Nat.le_of_ble_eq_true rfl, Nat.le_of_ble_eq_true rfl⟩) dX1_cutByRow_173 rfl rfl (Nat.le_of_ble_eq_true rfl) ⟨Nat.le_of_ble_eq_true rfl, Nat.le_of_ble_eq_true rfl⟩ (fun r3 u3 h3 => ?_)
        subst h3
        refine z_topl (crHi N M rl rh bl bh i) (by unfold crHi; rw [if_neg c136]) ?_
        refine z_callVi_all (As := [.int (nI i), .long (crLo N M rl rh bl bh i), .long (crHi N M rl rh bl bh i)]) C (c1_cut l D K b N M S rl rh bl bh th fl fh pt nu de i (crLo N M rl rh bl bh i) (crHi N M rl rh bl bh i) (by omega)) (cwV 3 C.1.2.2.2.2 gX1_cutByRow_X1_cut rfl rfl rfl (by decide +kernel) ⟨Nat.le_of_ble_eq_true rfl, Nat.le_of_ble_eq_true rfl⟩) (ci := 3) rfl rfl 0 rfl dX1_cutByRow_176 rfl rfl (Nat.le_of_ble_eq_true rfl) ⟨Nat.le_of_ble_eq_true rfl, Nat.le_of_ble_eq_true rfl⟩ (fun r4 u4 h4 => ?_)
        obtain ⟨rfl, rfl⟩ := h4
        exact hend _ _ _ _ _ (N, M, S, rl, rh, (ctB (crLo N M rl rh bl bh i) (crHi N M rl rh bl bh i) bl bh i).1, (ctB (crLo N M rl rh bl bh i) (crHi N M rl rh bl bh i) bl bh i).2, th, fl, fh, pt, nu, de) dX1_cutByRow_179 (Nat.zero_le _) (Nat.zero_le _) (ctR_01 _ _ _ _ _) ⟨rfl, rfl⟩
      · have q136 : 0 < (M i i).toInt64 := c136
        refine z_aload_n C dX1_cutByRow_140 0 rfl ?_
        refine z_iload_n C dX1_cutByRow_141 1 rfl ?_
        refine z_lload_n C dX1_cutByRow_142 2 rfl ?_
        refine z_lload C dX1_cutByRow_143 4 rfl ?_
        refine z_callSl_none (As := [.long (cwL M rl bl bh i N), .long ((M i i).toInt64)]) C (c1_down l D K (cwL M rl bl bh i N) ((M i i).toInt64) hz2) (va_cwS 2 C.1.2.2.2.2 gX1_cutByRow_X1_down rfl rfl rfl (by decide +kernel) ⟨Nat.le_of_ble_eq_true rfl, Nat.le_of_ble_eq_true rfl⟩) dX1_cutByRow_145 rfl rfl (Nat.le_of_ble_eq_true rfl) ⟨Nat.le_of_ble_eq_true rfl, Nat.le_of_ble_eq_true rfl⟩ (fun r5 u5 h5 => ?_)
        subst h5
        refine z_topl (crLo N M rl rh bl bh i) (by unfold crLo; rw [if_pos q136]) ?_
        refine z_lload C dX1_cutByRow_148 3 rfl ?_
        refine z_lload C dX1_cutByRow_150 4 rfl ?_
        refine z_callSl_none (As := [.long (cwH M rh bl bh i N), .long ((M i i).toInt64)]) C (c1_up l D K (cwH M rh bl bh i N) ((M i i).toInt64) hz2) (va_cwS 2 C.1.2.2.2.2 gX1_cutByRow_X1_up rfl rfl rfl (by decide +kernel) ⟨Nat.le_of_ble_eq_true rfl, Nat.le_of_ble_eq_true rfl⟩) dX1_cutByRow_152 rfl rfl (Nat.le_of_ble_eq_true rfl) ⟨Nat.le_of_ble_eq_true rfl, Nat.le_of_ble_eq_true rfl⟩ (fun r6 u6 h6 => ?_)
        subst h6
        refine z_topl (crHi N M rl rh bl bh i) (by unfold crHi; rw [if_pos q136]) ?_
        refine z_callVi_all (As := [.int (nI i), .long (crLo N M rl rh bl bh i), .long (crHi N M rl rh bl bh i)]) C (c1_cut l D K b N M S rl rh bl bh th fl fh pt nu de i (crLo N M rl rh bl bh i) (crHi N M rl rh bl bh i) (by omega)) (cwV 3 C.1.2.2.2.2 gX1_cutByRow_X1_cut rfl rfl rfl (by decide +kernel) ⟨Nat.le_of_ble_eq_true rfl, Nat.le_of_ble_eq_true rfl⟩) (ci := 3) rfl rfl 0 rfl dX1_cutByRow_155 rfl rfl (Nat.le_of_ble_eq_true rfl) ⟨Nat.le_of_ble_eq_true rfl, Nat.le_of_ble_eq_true rfl⟩ (fun r7 u7 h7 => ?_)
        obtain ⟨rfl, rfl⟩ := h7
        refine z_goto (tgt := 179) C dX1_cutByRow_158 (by decide) ?_
        exact hend _ _ _ _ _ (N, M, S, rl, rh, (ctB (crLo N M rl rh bl bh i) (crHi N M rl rh bl bh i) bl bh i).1, (ctB (crLo N M rl rh bl bh i) (crHi N M rl rh bl bh i) bl bh i).2, th, fl, fh, pt, nu, de) dX1_cutByRow_179 (Nat.zero_le _) (Nat.zero_le _) (ctR_01 _ _ _ _ _) ⟨rfl, rfl⟩
    · have e34 : j < N := by have := mt (nI_leI (a := N) (b := j) (by omega) (by omega)).mpr c34; omega
      refine z_iload C dX1_cutByRow_37 4 rfl ?_
      refine z_iload_n C dX1_cutByRow_39 1 rfl ?_
      refine z_icmp_ne (tgt := 46) C dX1_cutByRow_40 (by decide) (fun c40 => ?_) (fun c40 => ?_)
      · have e40 : ¬ j = i := fun q => c40 (by rw [q])
        refine z_aload_n C dX1_cutByRow_46 0 rfl ?_
        refine z_get (cl := vwCl) (T := TX1) (N := 13) (ci := 3) (ref := "IntervalSolverModel") C hinX1 rfl 2 (by decide) lk4 rfl dX1_cutByRow_47 0 rfl rfl ?_
        refine z_iload_n C dX1_cutByRow_50 1 rfl ?_
        refine z_iload C dX1_cutByRow_51 4 rfl ?_
        refine z_callSi_none (As := [.int (nI i), .int (nI j)]) C (c1_at l D K (nI i) (nI j)) (va_cwS 2 C.1.2.2.2.2 gX1_cutByRow_X1_at rfl rfl rfl (by decide +kernel) ⟨Nat.le_of_ble_eq_true rfl, Nat.le_of_ble_eq_true rfl⟩) dX1_cutByRow_53 rfl rfl (Nat.le_of_ble_eq_true rfl) ⟨Nat.le_of_ble_eq_true rfl, Nat.le_of_ble_eq_true rfl⟩ (fun r8 u8 h8 => ?_)
        subst h8
        refine z_topi (nI (5 * i + j)) (at_eq rfl rfl) ?_
        refine z_iald C 0 rfl 1 rfl dX1_cutByRow_56 (5 * i + j) rfl (by omega) (by decide) ?_
        refine z_topi (M i j) (fl5_at M i j (by omega)) ?_
        refine z_i2l C dX1_cutByRow_57 ?_
        refine z_aload_n C dX1_cutByRow_58 0 rfl ?_
        refine z_get (cl := vwCl) (T := TX1) (N := 13) (ci := 3) (ref := "IntervalSolverModel") C hinX1 rfl 6 (by decide) lk5 rfl dX1_cutByRow_59 0 rfl rfl ?_
        refine z_iload C dX1_cutByRow_62 4 rfl ?_
        refine z_iald C 0 rfl 5 rfl dX1_cutByRow_64 j rfl (by omega) (by decide) ?_
        refine z_i2l C dX1_cutByRow_65 ?_
        refine z_lmul C dX1_cutByRow_66 ?_
        refine z_lstore (lv' := [(0, .ref (b 0)), (1, .int (nI i)), (2, .long (cwL M rl bl bh i j)), (4, .long (cwH M rh bl bh i j)), (6, .int (nI j)), (7, .long (((M i j).toInt64) * ((bl j).toInt64)))]) C dX1_cutByRow_67 (by decide) [1, 2, 3, 4, 5, 0] rfl ?_
        refine z_aload_n C dX1_cutByRow_69 0 rfl ?_
        refine z_get (cl := vwCl) (T := TX1) (N := 13) (ci := 3) (ref := "IntervalSolverModel") C hinX1 rfl 2 (by decide) lk4 rfl dX1_cutByRow_70 0 rfl rfl ?_
        refine z_iload_n C dX1_cutByRow_73 1 rfl ?_
        refine z_iload C dX1_cutByRow_74 4 rfl ?_
        refine z_callSi_none (As := [.int (nI i), .int (nI j)]) C (c1_at l D K (nI i) (nI j)) (va_cwS 2 C.1.2.2.2.2 gX1_cutByRow_X1_at rfl rfl rfl (by decide +kernel) ⟨Nat.le_of_ble_eq_true rfl, Nat.le_of_ble_eq_true rfl⟩) dX1_cutByRow_76 rfl rfl (Nat.le_of_ble_eq_true rfl) ⟨Nat.le_of_ble_eq_true rfl, Nat.le_of_ble_eq_true rfl⟩ (fun r9 u9 h9 => ?_)
        subst h9
        refine z_topi (nI (5 * i + j)) (at_eq rfl rfl) ?_
        refine z_iald C 0 rfl 1 rfl dX1_cutByRow_79 (5 * i + j) rfl (by omega) (by decide) ?_
        refine z_topi (M i j) (fl5_at M i j (by omega)) ?_
        refine z_i2l C dX1_cutByRow_80 ?_
        refine z_aload_n C dX1_cutByRow_81 0 rfl ?_
        refine z_get (cl := vwCl) (T := TX1) (N := 13) (ci := 3) (ref := "IntervalSolverModel") C hinX1 rfl 7 (by decide) lk6 rfl dX1_cutByRow_82 0 rfl rfl ?_
        refine z_iload C dX1_cutByRow_85 4 rfl ?_
        refine z_iald C 0 rfl 6 rfl dX1_cutByRow_87 j rfl (by omega) (by decide) ?_
        refine z_i2l C dX1_cutByRow_88 ?_
        refine z_lmul C dX1_cutByRow_89 ?_
        refine z_lstore (lv' := [(0, .ref (b 0)), (1, .int (nI i)), (2, .long (cwL M rl bl bh i j)), (4, .long (cwH M rh bl bh i j)), (6, .int (nI j)), (7, .long (((M i j).toInt64) * ((bl j).toInt64))), (9, .long (((M i j).toInt64) * ((bh j).toInt64)))]) C dX1_cutByRow_90 (by decide) [1, 2, 3, 4, 5, 6, 0] rfl ?_
        refine z_lload_n C dX1_cutByRow_92 2 rfl ?_
        refine z_lload C dX1_cutByRow_93 5 rfl ?_
        refine z_lload C dX1_cutByRow_95 6 rfl ?_
        refine z_mmaxL C lk7 lk8 lk9 lk10 (Nat.le_of_ble_eq_true rfl) (Nat.le_of_ble_eq_true rfl) (Nat.le_of_ble_eq_true rfl) (Nat.le_of_ble_eq_true rfl) dX1_cutByRow_97 ?_
        refine z_lsub C dX1_cutByRow_100 ?_
        refine z_topl (cwL M rl bl bh i (j + 1)) (if_neg e40).symm ?_
        refine z_lstore_n (lv' := [(0, .ref (b 0)), (1, .int (nI i)), (2, .long (cwL M rl bl bh i (j + 1))), (4, .long (cwH M rh bl bh i j)), (6, .int (nI j)), (7, .long (((M i j).toInt64) * ((bl j).toInt64))), (9, .long (((M i j).toInt64) * ((bh j).toInt64)))]) C dX1_cutByRow_101 (by decide) [1, 2, 0, 3, 4, 5, 6] rfl ?_
        refine z_lload C dX1_cutByRow_102 3 rfl ?_
        refine z_lload C dX1_cutByRow_104 5 rfl ?_
        refine z_lload C dX1_cutByRow_106 6 rfl ?_
        refine z_mminL C lk11 lk12 lk9 lk13 (Nat.le_of_ble_eq_true rfl) (Nat.le_of_ble_eq_true rfl) (Nat.le_of_ble_eq_true rfl) (Nat.le_of_ble_eq_true rfl) dX1_cutByRow_108 ?_
        refine z_lsub C dX1_cutByRow_111 ?_
        refine z_topl (cwH M rh bl bh i (j + 1)) (if_neg e40).symm ?_
        refine z_lstore (lv' := [(0, .ref (b 0)), (1, .int (nI i)), (2, .long (cwL M rl bl bh i (j + 1))), (4, .long (cwH M rh bl bh i (j + 1))), (6, .int (nI j)), (7, .long (((M i j).toInt64) * ((bl j).toInt64))), (9, .long (((M i j).toInt64) * ((bh j).toInt64)))]) C dX1_cutByRow_112 (by decide) [1, 2, 3, 0, 4, 5, 6] rfl ?_
        refine z_iinc (v := nI (j + 1)) (lv' := [(0, .ref (b 0)), (1, .int (nI i)), (2, .long (cwL M rl bl bh i (j + 1))), (4, .long (cwH M rh bl bh i (j + 1))), (6, .int (nI (j + 1))), (7, .long (((M i j).toInt64) * ((bl j).toInt64))), (9, .long (((M i j).toInt64) * ((bh j).toInt64)))]) C dX1_cutByRow_114 (k := 4) rfl (nI_1 j) (by decide) [1, 2, 3, 4, 0, 5, 6] rfl ?_
        refine z_goto (tgt := 28) C dX1_cutByRow_117 (by decide) ?_
        refine z_lv (lv' := [(0, .ref (b 0)), (1, .int (nI i)), (2, .long (cwL M rl bl bh i (j + 1))), (4, .long (cwH M rh bl bh i (j + 1))), (6, .int (nI (j + 1)))]) [0, 1, 2, 3, 4] rfl ?_
        exact ih28_j (j + 1) (by omega) (by omega) (by omega)
      · have e40 : j = i := (nI_eq (by omega) (by omega)).mp c40
        rw [show cwL M rl bl bh i j = cwL M rl bl bh i (j + 1) from (if_pos e40).symm, show cwH M rh bl bh i j = cwH M rh bl bh i (j + 1) from (if_pos e40).symm]
        refine z_goto (tgt := 114) C dX1_cutByRow_43 (by decide) ?_
        refine z_iinc (v := nI (j + 1)) (lv' := [(0, .ref (b 0)), (1, .int (nI i)), (2, .long (cwL M rl bl bh i (j + 1))), (4, .long (cwH M rh bl bh i (j + 1))), (6, .int (nI (j + 1)))]) C dX1_cutByRow_114 (k := 4) rfl (nI_1 j) (by decide) [1, 2, 3, 4, 0] rfl ?_
        refine z_goto (tgt := 28) C dX1_cutByRow_117 (by decide) ?_
        exact ih28_j (j + 1) (by omega) (by omega) (by omega)
