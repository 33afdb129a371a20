set_option maxRecDepth 100000 in
set_option maxHeartbeats 4000000 in
theorem k_bitCount (l : Launch) (D : va_G) (K : Nat → ClassId) (p0 : Int32) : mI l D K yJ6_bitCount_0f7a4 wsJ6_bitCount_0f7a4 0 0 0 0 [.int p0] ([]) (fun r (_ : Unit) => r = bcE p0) (wN) := by
  have lk0 : Cond.constant RJ6 265 (1431655765) ∈ wsJ6_bitCount_0f7a4 := by decide +kernel
  have lk1 : Cond.constant RJ6 266 (858993459) ∈ wsJ6_bitCount_0f7a4 := by decide +kernel
  have lk2 : Cond.constant RJ6 267 (252645135) ∈ wsJ6_bitCount_0f7a4 := by decide +kernel
  refine z_met_i (cc := cJ6_bitCount_0f7a4) (maxL := 1) (own := RJ6) (lv := [(0, .int p0)]) (by decide +kernel) rfl rfl (Nat.le_of_ble_eq_true rfl) rfl ?_
  intro p e s m below meth c args Q A C hnm hend
  refine z_iload_n C dJ6_bitCount_0f7a4_0 0 rfl ?_
  refine z_iload_n C dJ6_bitCount_0f7a4_1 0 rfl ?_
  refine z_iconst (v := 1) C dJ6_bitCount_0f7a4_2 (by decide) ?_
  refine z_iushr C dJ6_bitCount_0f7a4_3 ?_
  refine z_ldcw C lk0 dJ6_bitCount_0f7a4_4 ?_
  refine z_iand C dJ6_bitCount_0f7a4_7 ?_
  refine z_isub C dJ6_bitCount_0f7a4_8 ?_
  obtain ⟨x1, ex1⟩ : ∃ y : Int32, p0 - (((p0.toUInt32 >>> ((1 : Int32).toUInt32 &&& Int32.toUInt32 31)).toInt32) &&& (1431655765)) = y := ⟨_, rfl⟩
  refine z_topi x1 ex1 ?_
  refine z_istore_n (lv' := [(0, .int x1)]) C dJ6_bitCount_0f7a4_9 (by decide) [0] rfl ?_
  refine z_iload_n C dJ6_bitCount_0f7a4_10 0 rfl ?_
  refine z_ldcw C lk1 dJ6_bitCount_0f7a4_11 ?_
  refine z_iand C dJ6_bitCount_0f7a4_14 ?_
  refine z_iload_n C dJ6_bitCount_0f7a4_15 0 rfl ?_
  refine z_iconst (v := 2) C dJ6_bitCount_0f7a4_16 (by decide) ?_
  refine z_iushr C dJ6_bitCount_0f7a4_17 ?_
  refine z_ldcw C lk1 dJ6_bitCount_0f7a4_18 ?_
  refine z_iand C dJ6_bitCount_0f7a4_21 ?_
  refine z_iadd C dJ6_bitCount_0f7a4_22 ?_
  obtain ⟨x2, ex2⟩ : ∃ y : Int32, (x1 &&& (858993459)) + (((x1.toUInt32 >>> ((2 : Int32).toUInt32 &&& Int32.toUInt32 31)).toInt32) &&& (858993459)) = y := ⟨_, rfl⟩
  refine z_topi x2 ex2 ?_
  refine z_istore_n (lv' := [(0, .int x2)]) C dJ6_bitCount_0f7a4_23 (by decide) [0] rfl ?_
  refine z_iload_n C dJ6_bitCount_0f7a4_24 0 rfl ?_
  refine z_iload_n C dJ6_bitCount_0f7a4_25 0 rfl ?_
  refine z_iconst (v := 4) C dJ6_bitCount_0f7a4_26 (by decide) ?_
  refine z_iushr C dJ6_bitCount_0f7a4_27 ?_
  refine z_iadd C dJ6_bitCount_0f7a4_28 ?_
  refine z_ldcw C lk2 dJ6_bitCount_0f7a4_29 ?_
  refine z_iand C dJ6_bitCount_0f7a4_32 ?_
  obtain ⟨x3, ex3⟩ : ∃ y : Int32, (x2 + ((x2.toUInt32 >>> ((4 : Int32).toUInt32 &&& Int32.toUInt32 31)).toInt32)) &&& (252645135) = y := ⟨_, rfl⟩
  refine z_topi x3 ex3 ?_
  refine z_istore_n (lv' := [(0, .int x3)]) C dJ6_bitCount_0f7a4_33 (by decide) [0] rfl ?_
  refine z_iload_n C dJ6_bitCount_0f7a4_34 0 rfl ?_
  refine z_iload_n C dJ6_bitCount_0f7a4_35 0 rfl ?_
  refine z_bipush (v := 8) C dJ6_bitCount_0f7a4_36 (by decide) ?_
  refine z_iushr C dJ6_bitCount_0f7a4_38 ?_
  refine z_iadd C dJ6_bitCount_0f7a4_39 ?_
  obtain ⟨x4, ex4⟩ : ∃ y : Int32, x3 + ((x3.toUInt32 >>> ((8 : Int32).toUInt32 &&& Int32.toUInt32 31)).toInt32) = y := ⟨_, rfl⟩
  refine z_topi x4 ex4 ?_
  refine z_istore_n (lv' := [(0, .int x4)]) C dJ6_bitCount_0f7a4_40 (by decide) [0] rfl ?_
  refine z_iload_n C dJ6_bitCount_0f7a4_41 0 rfl ?_
  refine z_iload_n C dJ6_bitCount_0f7a4_42 0 rfl ?_
  refine z_bipush (v := 16) C dJ6_bitCount_0f7a4_43 (by decide) ?_
  refine z_iushr C dJ6_bitCount_0f7a4_45 ?_
  refine z_iadd C dJ6_bitCount_0f7a4_46 ?_
  obtain ⟨x5, ex5⟩ : ∃ y : Int32, x4 + ((x4.toUInt32 >>> ((16 : Int32).toUInt32 &&& Int32.toUInt32 31)).toInt32) = y := ⟨_, rfl⟩
  refine z_topi x5 ex5 ?_
  refine z_istore_n (lv' := [(0, .int x5)]) C dJ6_bitCount_0f7a4_47 (by decide) [0] rfl ?_
  refine z_iload_n C dJ6_bitCount_0f7a4_48 0 rfl ?_
  refine z_bipush (v := 63) C dJ6_bitCount_0f7a4_49 (by decide) ?_
  refine z_iand C dJ6_bitCount_0f7a4_51 ?_
  exact hend _ _ _ _ _ () dJ6_bitCount_0f7a4_52 (Nat.zero_le _) (Nat.zero_le _) (by unfold bcE; rw [← ex5, ← ex4, ← ex3, ← ex2, ← ex1])

set_option maxRecDepth 100000 in
set_option maxHeartbeats 4000000 in
theorem k_floorDiv (l : Launch) (D : va_G) (K : Nat → ClassId) (p0 : Int64) (p1 : Int64) (h0 : ¬ p1 = 0) : mL l D K yJ9_floorDiv_f86c9 wsJ9_floorDiv_f86c9 0 0 0 0 [.long p0, .long p1] ([]) (fun r (_ : Unit) => r = fdJ p0 p1) (wN) := by
  refine z_met_l (cc := cJ9_floorDiv_f86c9) (maxL := 6) (own := RJ9) (lv := [(0, .long p0), (2, .long p1)]) (by decide +kernel) rfl rfl (Nat.le_of_ble_eq_true rfl) rfl ?_
  intro p e s m below meth c args Q A C hnm hend
  refine z_lload_n C dJ9_floorDiv_f86c9_0 0 rfl ?_
  refine z_lload_n C dJ9_floorDiv_f86c9_1 1 rfl ?_
  refine z_ldiv C dJ9_floorDiv_f86c9_2 h0 ?_
  refine z_lstore (lv' := [(0, .long p0), (2, .long p1), (4, .long (p0 / p1))]) C dJ9_floorDiv_f86c9_3 (by decide) [1, 2, 0] rfl ?_
  refine z_lload_n C dJ9_floorDiv_f86c9_5 0 rfl ?_
  refine z_lload_n C dJ9_floorDiv_f86c9_6 1 rfl ?_
  refine z_lxor C dJ9_floorDiv_f86c9_7 ?_
  refine z_lconst (v := 0) C dJ9_floorDiv_f86c9_8 (by decide) ?_
  refine z_lcmp_ge (tgt := 27) C dJ9_floorDiv_f86c9_9 dJ9_floorDiv_f86c9_10 (by decide) (fun c9 => ?_) (fun c9 => ?_)
  · refine z_lload C dJ9_floorDiv_f86c9_27 2 rfl ?_
    exact hend _ _ _ _ _ () dJ9_floorDiv_f86c9_29 (Nat.zero_le _) (Nat.zero_le _) (by unfold fdJ; first | rw [if_neg c9] | rw [if_pos c9, if_pos c18] | rw [if_pos c9, if_neg c18])
  · refine z_lload C dJ9_floorDiv_f86c9_13 2 rfl ?_
    refine z_lload_n C dJ9_floorDiv_f86c9_15 1 rfl ?_
    refine z_lmul C dJ9_floorDiv_f86c9_16 ?_
    refine z_lload_n C dJ9_floorDiv_f86c9_17 0 rfl ?_
    refine z_lcmp_eq (tgt := 27) C dJ9_floorDiv_f86c9_18 dJ9_floorDiv_f86c9_19 (by decide) (fun c18 => ?_) (fun c18 => ?_)
    · refine z_lload C dJ9_floorDiv_f86c9_27 2 rfl ?_
      exact hend _ _ _ _ _ () dJ9_floorDiv_f86c9_29 (Nat.zero_le _) (Nat.zero_le _) (by unfold fdJ; first | rw [if_neg c9] | rw [if_pos c9, if_pos c18] | rw [if_pos c9, if_neg c18])
    · refine z_lload C dJ9_floorDiv_f86c9_22 2 rfl ?_
      refine z_lconst (v := 1) C dJ9_floorDiv_f86c9_24 (by decide) ?_
      refine z_lsub C dJ9_floorDiv_f86c9_25 ?_
      exact hend _ _ _ _ _ () dJ9_floorDiv_f86c9_26 (Nat.zero_le _) (Nat.zero_le _) (by unfold fdJ; first | rw [if_neg c9] | rw [if_pos c9, if_pos c18] | rw [if_pos c9, if_neg c18])

set_option maxRecDepth 100000 in
set_option maxHeartbeats 4000000 in
theorem c0_quotientDown (l : Launch) (D : va_G) (K : Nat → ClassId) (p0 : Int64) (p1 : Int64) : mL l D K yX0_quotientDown wsX0_quotientDown 1 25 0 0 [.long p0, .long p1] ([]) (fun r (_ : Unit) => r = qd p0 p1) (wN) := by
  refine z_met_l (cc := cX0_quotientDown) (maxL := 4) (own := RX0) (lv := [(0, .long p0), (2, .long p1)]) (by decide) rfl rfl (Nat.le_of_ble_eq_true rfl) rfl ?_
  intro p e s m below meth c args Q A C hnm hend
  refine z_lload_n C dX0_quotientDown_0 1 rfl ?_
  refine z_lconst (v := 0) C dX0_quotientDown_1 (by decide) ?_
  refine z_lcmp_ne (tgt := 10) C dX0_quotientDown_2 dX0_quotientDown_3 (by decide) (fun c2 => ?_) (fun c2 => ?_)
  · refine z_lload_n C dX0_quotientDown_10 0 rfl ?_
    refine z_lload_n C dX0_quotientDown_11 1 rfl ?_
    refine z_callSl_none (As := [.long p0, .long p1]) C (k_floorDiv l D K p0 p1 c2) (va_cwS 2 C.1.2.2.2.2 gX0_quotientDown_J9_floorDiv_f86c9 rfl rfl rfl (by decide +kernel) ⟨Nat.le_of_ble_eq_true rfl, Nat.le_of_ble_eq_true rfl⟩) dX0_quotientDown_12 rfl rfl (Nat.le_of_ble_eq_true rfl) ⟨Nat.le_of_ble_eq_true rfl, Nat.le_of_ble_eq_true rfl⟩ (fun r1 u1 h1 => ?_)
    subst h1
    exact hend _ _ _ _ _ () dX0_quotientDown_15 (Nat.zero_le _) (Nat.zero_le _) (by unfold qd; first | rw [if_neg c2] | rw [if_pos c2])
  · refine z_lconst (v := 0) C dX0_quotientDown_6 (by decide) ?_
    refine z_goto (tgt := 15) C dX0_quotientDown_7 (by decide) ?_
    exact hend _ _ _ _ _ () dX0_quotientDown_15 (Nat.zero_le _) (Nat.zero_le _) (by unfold qd; first | rw [if_neg c2] | rw [if_pos c2])

set_option maxRecDepth 100000 in
set_option maxHeartbeats 4000000 in
theorem c0_quotientUp (l : Launch) (D : va_G) (K : Nat → ClassId) (p0 : Int64) (p1 : Int64) : mL l D K yX0_quotientUp wsX0_quotientUp 2 48 0 0 [.long p0, .long p1] ([]) (fun r (_ : Unit) => r = qu p0 p1) (wN) := by
  refine z_met_l (cc := cX0_quotientUp) (maxL := 4) (own := RX0) (lv := [(0, .long p0), (2, .long p1)]) (by decide) rfl rfl (Nat.le_of_ble_eq_true rfl) rfl ?_
  intro p e s m below meth c args Q A C hnm hend
  refine z_lload_n C dX0_quotientUp_0 0 rfl ?_
  refine z_lneg C dX0_quotientUp_1 ?_
  refine z_lload_n C dX0_quotientUp_2 1 rfl ?_
  refine z_callSl_none (As := [.long (-p0), .long p1]) C (c0_quotientDown l D K (-p0) p1) (va_cwS 2 C.1.2.2.2.2 gX0_quotientUp_X0_quotientDown rfl rfl rfl (by decide +kernel) ⟨Nat.le_of_ble_eq_true rfl, Nat.le_of_ble_eq_true rfl⟩) dX0_quotientUp_3 rfl rfl (Nat.le_of_ble_eq_true rfl) ⟨Nat.le_of_ble_eq_true rfl, Nat.le_of_ble_eq_true rfl⟩ (fun r1 u1 h1 => ?_)
  subst h1
  refine z_lneg C dX0_quotientUp_6 ?_
  exact hend _ _ _ _ _ () dX0_quotientUp_7 (Nat.zero_le _) (Nat.zero_le _) rfl

set_option maxRecDepth 100000 in
set_option maxHeartbeats 4000000 in
theorem c0_allColumns (l : Launch) (D : va_G) (K : Nat → ClassId) (a : Nat → Nat) (N : Nat) (M : Nat → Nat → Int32) (S : Nat → Nat → Int32) (rl : Nat → Int32) (rh : Nat → Int32) (bl : Nat → Int32) (bh : Nat → Int32) (kl : Nat → Int32) (kh : Nat → Int32) (mn : Nat → Int64) (vc : Nat → Int64) (iv : Nat → Nat → Int64) (sc : Int64) (hN : N ≤ 5) : mI l D K yX0_allColumns wsX0_allColumns 0 0 0 0 [.ref (a 0)] (w0 K a (N, M, S, rl, rh, bl, bh, kl, kh, mn, vc, iv, sc)) (fun r u => r = nI (2 ^ N - 1) ∧ u = (N, M, S, rl, rh, bl, bh, kl, kh, mn, vc, iv, sc)) (w0 K a) := by
  have hinX0 : ∀ w ∈ wsX00, w ∈ wsX0_allColumns := by decide +kernel
  have lk0 : Cond.fieldLink RX0 59 "IntervalSolver" "n" "I" ∈ wsX0_allColumns := by decide +kernel
  refine z_met_i (cc := cX0_allColumns) (maxL := 1) (own := RX0) (lv := [(0, .ref (a 0))]) (by decide) rfl rfl (Nat.le_of_ble_eq_true rfl) rfl ?_
  intro p e s m below meth c args Q A C hnm hend
  refine z_iconst (v := 1) C dX0_allColumns_0 (by decide) ?_
  refine z_aload_n C dX0_allColumns_1 0 rfl ?_
  refine z_get (cl := vwCl) (T := TX0) (N := 13) (ci := 0) (ref := "IntervalSolver") C hinX0 rfl 0 (by decide) lk0 rfl dX0_allColumns_2 0 rfl rfl ?_
  refine z_ishl C dX0_allColumns_5 ?_
  refine z_iconst (v := 1) C dX0_allColumns_6 (by decide) ?_
  refine z_isub C dX0_allColumns_7 ?_
  refine z_topi (nI (2 ^ N - 1)) (bt_all N (by omega)) ?_
  exact hend _ _ _ _ _ (N, M, S, rl, rh, bl, bh, kl, kh, mn, vc, iv, sc) dX0_allColumns_8 (Nat.zero_le _) (Nat.zero_le _) ⟨rfl, rfl⟩

set_option maxRecDepth 100000 in
set_option maxHeartbeats 4000000 in
theorem c0_expanded (l : Launch) (D : va_G) (K : Nat → ClassId) (a : Nat → Nat) (N : Nat) (M : Nat → Nat → Int32) (S : Nat → Nat → Int32) (rl : Nat → Int32) (rh : Nat → Int32) (bl : Nat → Int32) (bh : Nat → Int32) (kl : Nat → Int32) (kh : Nat → Int32) (mn : Nat → Int64) (vc : Nat → Int64) (iv : Nat → Nat → Int64) (sc : Int64) (i : Nat) (cols : Nat) (hi : i < N) (hc : cols < 32) (hN : N ≤ 5) : mL l D K yX0_expanded wsX0_expanded 0 0 0 0 [.ref (a 0), .int (nI i), .int (nI cols)] (w0 K a (N, M, S, rl, rh, bl, bh, kl, kh, mn, vc, iv, sc)) (fun r u => r = (exS M mn N i cols N).1 ∧ u = (N, M, S, rl, rh, bl, bh, kl, kh, mn, vc, iv, sc)) (w0 K a) := by
  have hinX0 : ∀ w ∈ wsX00, w ∈ wsX0_expanded := by decide +kernel
  have lk0 : Cond.fieldLink RX0 59 "IntervalSolver" "n" "I" ∈ wsX0_expanded := by decide +kernel
  have lk1 : Cond.fieldLink RX0 11 "IntervalSolver" "coefficients" "[[I" ∈ wsX0_expanded := by decide +kernel
  have lk2 : Cond.fieldLink RX0 36 "IntervalSolver" "minors" "[J" ∈ wsX0_expanded := by decide +kernel
  refine z_met_l (cc := cX0_expanded) (maxL := 9) (own := RX0) (lv := [(0, .ref (a 0)), (1, .int (nI i)), (2, .int (nI cols))]) (by decide) rfl rfl (Nat.le_of_ble_eq_true rfl) rfl ?_
  intro p e s m below meth c args Q A C hnm hend
  refine z_lconst (v := 0) C dX0_expanded_0 (by decide) ?_
  refine z_lstore_n (lv' := [(0, .ref (a 0)), (1, .int (nI i)), (2, .int (nI cols)), (3, .long 0)]) C dX0_expanded_1 (by decide) [1, 2, 3, 0] rfl ?_
  refine z_lconst (v := 1) C dX0_expanded_2 (by decide) ?_
  refine z_lstore (lv' := [(0, .ref (a 0)), (1, .int (nI i)), (2, .int (nI cols)), (3, .long 0), (5, .long 1)]) C dX0_expanded_3 (by decide) [1, 2, 3, 4, 0] rfl ?_
  refine z_aload_n C dX0_expanded_5 0 rfl ?_
  refine z_get (cl := vwCl) (T := TX0) (N := 13) (ci := 0) (ref := "IntervalSolver") C hinX0 rfl 0 (by decide) lk0 rfl dX0_expanded_6 0 rfl rfl ?_
  refine z_iconst (v := 1) C dX0_expanded_9 (by decide) ?_
  refine z_isub C dX0_expanded_10 ?_
  refine z_istore (lv' := [(0, .ref (a 0)), (1, .int (nI i)), (2, .int (nI cols)), (3, .long 0), (5, .long 1), (7, .int ((nI N) - 1))]) C dX0_expanded_11 (by decide) [1, 2, 3, 4, 5, 0] rfl ?_
  suffices L13 : ∀ (f13_t t : Nat) (x3 : Int64) (x5 : Int64), 0 ≤ t → t ≤ N → N < t + f13_t → x3 = (exS M mn N i cols t).1 → x5 = (exS M mn N i cols t).2 → zW p l e { frames := 0, cells := 0, slots := 0, locals := 0 } s m args below meth c Q 9 A s.heap D vwCl 0 0 (w0 K a (N, M, S, rl, rh, bl, bh, kl, kh, mn, vc, iv, sc)) 13 ([(0, .ref (a 0)), (1, .int (nI i)), (2, .int (nI cols)), (3, .long x3), (5, .long x5), (7, .int (nI (N - t) - 1))]) [] from L13 (N + 1) 0 0 1 (Nat.le_refl _) (by omega) (by omega) rfl rfl
  intro f13_t
  induction f13_t with
  | zero => intro t x3 x5 h0 h1 h2; exact absurd h2 (by omega)
  | succ f13_t ih13_t =>
    intro t x3 x5 g13_0 g13_1 g13_2 hx3 hx5
    refine z_iload C dX0_expanded_13 5 rfl ?_
    refine z_if_lt (tgt := 68) C dX0_expanded_15 (by decide) (fun c15 => ?_) (fun c15 => ?_)
    · have e15 : t = N := by have := (cd_lt (N - t) (by omega)).mp c15; omega
      rw [e15] at hx3
      refine z_lload_n C dX0_expanded_68 3 rfl ?_
      exact hend _ _ _ _ _ (N, M, S, rl, rh, bl, bh, kl, kh, mn, vc, iv, sc) dX0_expanded_69 (Nat.zero_le _) (Nat.zero_le _) ⟨hx3, rfl⟩
    · have e15 : t < N := by have := mt (cd_lt (N - t) (by omega)).mpr c15; omega
      rw [cd_pred (t := N - t) (by omega)]
      refine z_iconst (v := 1) C dX0_expanded_18 (by decide) ?_
      refine z_iload C dX0_expanded_19 5 rfl ?_
      refine z_ishl C dX0_expanded_21 ?_
      refine z_topi (nI (2 ^ (N - t - 1))) (bt_shl _ (by omega)) ?_
      refine z_istore (lv' := [(0, .ref (a 0)), (1, .int (nI i)), (2, .int (nI cols)), (3, .long x3), (5, .long x5), (7, .int (nI (N - t - 1))), (8, .int (nI (2 ^ (N - t - 1))))]) C dX0_expanded_22 (by decide) [1, 2, 3, 4, 5, 6, 0] rfl ?_
      refine z_iload_n C dX0_expanded_24 2 rfl ?_
      refine z_iload C dX0_expanded_25 6 rfl ?_
      refine z_iand C dX0_expanded_27 ?_
      refine z_if_eq (tgt := 62) C dX0_expanded_28 (by decide) (fun c28 => ?_) (fun c28 => ?_)
      · have q28 := (bt_and _ hc _ (by omega)).mp c28
        refine z_iinc (v := nI (N - (t + 1)) - 1) (lv' := [(0, .ref (a 0)), (1, .int (nI i)), (2, .int (nI cols)), (3, .long x3), (5, .long x5), (7, .int (nI (N - (t + 1)) - 1)), (8, .int (nI (2 ^ (N - t - 1))))]) C dX0_expanded_62 (k := 5) rfl (cd_dec _) (by decide) [1, 2, 3, 4, 5, 0, 6] rfl ?_
        refine z_goto (tgt := 13) C dX0_expanded_65 (by decide) ?_
        refine z_lv (lv' := [(0, .ref (a 0)), (1, .int (nI i)), (2, .int (nI cols)), (3, .long x3), (5, .long x5), (7, .int (nI (N - (t + 1)) - 1))]) [0, 1, 2, 3, 4, 5] rfl ?_
        exact ih13_t (t + 1) x3 x5 (by omega) (by omega) (by omega) (by simp [exS, q28, hx3, hx5]) (by simp [exS, q28, hx3, hx5])
      · have q28 : Nat.testBit cols (N - t - 1) = true := by have := mt (bt_and _ hc _ (by omega)).mpr c28; simpa using this
        refine z_lload_n C dX0_expanded_31 3 rfl ?_
        refine z_lload C dX0_expanded_32 4 rfl ?_
        refine z_aload_n C dX0_expanded_34 0 rfl ?_
        refine z_get (cl := vwCl) (T := TX0) (N := 13) (ci := 0) (ref := "IntervalSolver") C hinX0 rfl 1 (by decide) lk1 rfl dX0_expanded_35 0 rfl rfl ?_
        refine z_iload_n C dX0_expanded_38 1 rfl ?_
        refine z_aald (y := a (12 + i)) C 2 rfl 1 rfl dX0_expanded_39 i rfl (by omega) (by decide) (if_pos (by omega)) ?_
        refine z_iload C dX0_expanded_40 5 rfl ?_
        refine z_iald C 0 rfl (12 + i) (w0_atM (by omega)) dX0_expanded_42 (N - t - 1) rfl (by omega) (by decide) ?_
        refine z_i2l C dX0_expanded_43 ?_
        refine z_lmul C dX0_expanded_44 ?_
        refine z_aload_n C dX0_expanded_45 0 rfl ?_
        refine z_get (cl := vwCl) (T := TX0) (N := 13) (ci := 0) (ref := "IntervalSolver") C hinX0 rfl 9 (by decide) lk2 rfl dX0_expanded_46 0 rfl rfl ?_
        refine z_iload_n C dX0_expanded_49 2 rfl ?_
        refine z_iload C dX0_expanded_50 6 rfl ?_
        refine z_ixor C dX0_expanded_52 ?_
        refine z_topi (nI (cols ^^^ 2 ^ (N - t - 1))) (bt_xor _ hc _ (by omega)) ?_
        refine z_lald C 1 rfl 9 rfl dX0_expanded_53 (cols ^^^ 2 ^ (N - t - 1)) rfl (bt_xlt _ hc _ (by omega)) (by decide) ?_
        refine z_lmul C dX0_expanded_54 ?_
        refine z_ladd C dX0_expanded_55 ?_
        refine z_lstore_n (lv' := [(0, .ref (a 0)), (1, .int (nI i)), (2, .int (nI cols)), (3, .long (x3 + ((x5 * ((M i (N - t - 1)).toInt64)) * (mn (cols ^^^ 2 ^ (N - t - 1)))))), (5, .long x5), (7, .int (nI (N - t - 1))), (8, .int (nI (2 ^ (N - t - 1))))]) C dX0_expanded_56 (by decide) [1, 2, 3, 0, 4, 5, 6] rfl ?_
        refine z_lload C dX0_expanded_57 4 rfl ?_
        refine z_lneg C dX0_expanded_59 ?_
        refine z_lstore (lv' := [(0, .ref (a 0)), (1, .int (nI i)), (2, .int (nI cols)), (3, .long (x3 + ((x5 * ((M i (N - t - 1)).toInt64)) * (mn (cols ^^^ 2 ^ (N - t - 1)))))), (5, .long (-x5)), (7, .int (nI (N - t - 1))), (8, .int (nI (2 ^ (N - t - 1))))]) C dX0_expanded_60 (by decide) [1, 2, 3, 4, 0, 5, 6] rfl ?_
        refine z_iinc (v := nI (N - (t + 1)) - 1) (lv' := [(0, .ref (a 0)), (1, .int (nI i)), (2, .int (nI cols)), (3, .long (x3 + ((x5 * ((M i (N - t - 1)).toInt64)) * (mn (cols ^^^ 2 ^ (N - t - 1)))))), (5, .long (-x5)), (7, .int (nI (N - (t + 1)) - 1)), (8, .int (nI (2 ^ (N - t - 1))))]) C dX0_expanded_62 (k := 5) rfl (cd_dec _) (by decide) [1, 2, 3, 4, 5, 0, 6] rfl ?_
        refine z_goto (tgt := 13) C dX0_expanded_65 (by decide) ?_
        refine z_lv (lv' := [(0, .ref (a 0)), (1, .int (nI i)), (2, .int (nI cols)), (3, .long (x3 + ((x5 * ((M i (N - t - 1)).toInt64)) * (mn (cols ^^^ 2 ^ (N - t - 1)))))), (5, .long (-x5)), (7, .int (nI (N - (t + 1)) - 1))]) [0, 1, 2, 3, 4, 5] rfl ?_
        exact ih13_t (t + 1) (x3 + ((x5 * ((M i (N - t - 1)).toInt64)) * (mn (cols ^^^ 2 ^ (N - t - 1))))) (-x5) (by omega) (by omega) (by omega) (by simp [exS, q28, hx3, hx5]) (by simp [exS, q28, hx3, hx5])

set_option maxRecDepth 100000 in
set_option maxHeartbeats 4000000 in
theorem c0_findMinors (l : Launch) (D : va_G) (K : Nat → ClassId) (a : Nat → Nat) (N : Nat) (M : Nat → Nat → Int32) (S : Nat → Nat → Int32) (rl : Nat → Int32) (rh : Nat → Int32) (bl : Nat → Int32) (bh : Nat → Int32) (kl : Nat → Int32) (kh : Nat → Int32) (mn : Nat → Int64) (vc : Nat → Int64) (iv : Nat → Nat → Int64) (sc : Int64) (skip : Nat) (hs : skip ≤ N) (hN : N ≤ 5) : mV l D K yX0_findMinors wsX0_findMinors 1 28 0 0 [.ref (a 0), .int (nI skip)] (w0 K a (N, M, S, rl, rh, bl, bh, kl, kh, mn, vc, iv, sc)) (fun u => u = (N, M, S, rl, rh, bl, bh, kl, kh, mnG M mn N skip (2 ^ N - 1), vc, iv, sc)) (w0 K a) := by
  have hinX0 : ∀ w ∈ wsX00, w ∈ wsX0_findMinors := by decide +kernel
  have lk0 : Cond.fieldLink RX0 36 "IntervalSolver" "minors" "[J" ∈ wsX0_findMinors := by decide +kernel
  have lk1 : Cond.fieldLink RX0 59 "IntervalSolver" "n" "I" ∈ wsX0_findMinors := by decide +kernel
  refine z_met_v (cc := cX0_findMinors) (maxL := 4) (own := RX0) (lv := [(0, .ref (a 0)), (1, .int (nI skip))]) (by decide) rfl rfl (Nat.le_of_ble_eq_true rfl) rfl ?_
  intro p e s m below meth c args Q A C hnm hend
  have h2 := bt_p2 N (by omega)
  have h3 := bt_p1 N
  refine z_aload_n C dX0_findMinors_0 0 rfl ?_
  refine z_get (cl := vwCl) (T := TX0) (N := 13) (ci := 0) (ref := "IntervalSolver") C hinX0 rfl 9 (by decide) lk0 rfl dX0_findMinors_1 0 rfl rfl ?_
  refine z_iconst (v := 0) C dX0_findMinors_4 (by decide) ?_
  refine z_lconst (v := 1) C dX0_findMinors_5 (by decide) ?_
  refine z_last (ws' := w0 K a (N, M, S, rl, rh, bl, bh, kl, kh, vp_updL mn 0 1, vc, iv, sc)) C 1 rfl 9 rfl dX0_findMinors_6 0 rfl (by decide) (by decide) rfl ?_
  refine z_iconst (v := 1) C dX0_findMinors_7 (by decide) ?_
  refine z_istore_n (lv' := [(0, .ref (a 0)), (1, .int (nI skip)), (2, .int 1)]) C dX0_findMinors_8 (by decide) [1, 2, 0] rfl ?_
  suffices L9 : ∀ (f9_k k : Nat), 0 ≤ k → k ≤ 2 ^ N - 1 → 2 ^ N - 1 < k + f9_k → zW p l e { frames := 1, cells := 0, slots := 0, locals := 28 } s m args below meth c Q 4 A s.heap D vwCl 0 0 (w0 K a (N, M, S, rl, rh, bl, bh, kl, kh, mnG M mn N skip k, vc, iv, sc)) 9 ([(0, .ref (a 0)), (1, .int (nI skip)), (2, .int (nI (k + 1)))]) [] from L9 (2 ^ N - 1 + 1) 0 (Nat.le_refl _) (by omega) (by omega)
  intro f9_k
  induction f9_k with
  | zero => intro k h0 h1 h2; exact absurd h2 (by omega)
  | succ f9_k ih9_k =>
    intro k g9_0 g9_1 g9_2
    refine z_iload_n C dX0_findMinors_9 2 rfl ?_
    refine z_aload_n C dX0_findMinors_10 0 rfl ?_
    refine z_callVi_all (As := []) C (c0_allColumns l D K a N M S rl rh bl bh kl kh (mnG M mn N skip k) vc iv sc (by omega)) (cwV 0 C.1.2.2.2.2 gX0_findMinors_X0_allColumns rfl rfl rfl (by decide +kernel) ⟨Nat.le_of_ble_eq_true rfl, Nat.le_of_ble_eq_true rfl⟩) (ci := 0) rfl rfl 0 rfl dX0_findMinors_11 rfl rfl (Nat.le_of_ble_eq_true rfl) ⟨Nat.le_of_ble_eq_true rfl, Nat.le_of_ble_eq_true rfl⟩ (fun r1 u1 h1 => ?_)
    obtain ⟨rfl, rfl⟩ := h1
    refine z_icmp_gt (tgt := 62) C dX0_findMinors_14 (by decide) (fun c14 => ?_) (fun c14 => ?_)
    · have e14 : k = 2 ^ N - 1 := by have := (nI_ltI (a := 2 ^ N - 1) (b := k + 1) (by omega) (by omega)).mp c14; omega
      rw [e14]
      exact hend _ _ _ _ (N, M, S, rl, rh, bl, bh, kl, kh, mnG M mn N skip (2 ^ N - 1), vc, iv, sc) dX0_findMinors_62 (Nat.zero_le _) (Nat.zero_le _) rfl
    · have e14 : k < 2 ^ N - 1 := by have := mt (nI_ltI (a := 2 ^ N - 1) (b := k + 1) (by omega) (by omega)).mpr c14; omega
      have p1 := pop5_pos (k + 1) (by omega) (by omega)
      have p2 := pop5_lt N (by omega) (k + 1) (by omega)
      refine z_iload_n C dX0_findMinors_17 2 rfl ?_
      refine z_callSi_none (As := [.int (nI (k + 1))]) C (k_bitCount l D K (nI (k + 1))) (va_cwS 1 C.1.2.2.2.2 gX0_findMinors_J6_bitCount_0f7a4 rfl rfl rfl (by decide +kernel) ⟨Nat.le_of_ble_eq_true rfl, Nat.le_of_ble_eq_true rfl⟩) dX0_findMinors_18 rfl rfl (Nat.le_of_ble_eq_true rfl) ⟨Nat.le_of_ble_eq_true rfl, Nat.le_of_ble_eq_true rfl⟩ (fun r2 u2 h2 => ?_)
      subst h2
      refine z_topi (nI (pop5 (k + 1))) (bcE_small (k + 1) (by omega)) ?_
      refine z_iconst (v := 1) C dX0_findMinors_21 (by decide) ?_
      refine z_isub C dX0_findMinors_22 ?_
      refine z_topi (nI (pop5 (k + 1) - 1)) (cd_pred (by omega)) ?_
      refine z_istore_n (lv' := [(0, .ref (a 0)), (1, .int (nI skip)), (2, .int (nI (k + 1))), (3, .int (nI (pop5 (k + 1) - 1)))]) C dX0_findMinors_23 (by decide) [1, 2, 3, 0] rfl ?_
      refine z_iload_n C dX0_findMinors_24 3 rfl ?_
      refine z_iload_n C dX0_findMinors_25 1 rfl ?_
      refine z_icmp_lt (tgt := 32) C dX0_findMinors_26 (by decide) (fun c26 => ?_) (fun c26 => ?_)
      · have e26 : pop5 (k + 1) - 1 < skip := (nI_ltI (by omega) (by omega)).mp c26
        have hrow : pop5 (k + 1) - 1 = rowOf skip (k + 1) := by unfold rowOf; rw [if_neg (by omega)]
        rw [hrow]
        refine z_aload_n C dX0_findMinors_32 0 rfl ?_
        refine z_get (cl := vwCl) (T := TX0) (N := 13) (ci := 0) (ref := "IntervalSolver") C hinX0 rfl 9 (by decide) lk0 rfl dX0_findMinors_33 0 rfl rfl ?_
        refine z_iload_n C dX0_findMinors_36 2 rfl ?_
        refine z_iload_n C dX0_findMinors_37 3 rfl ?_
        refine z_aload_n C dX0_findMinors_38 0 rfl ?_
        refine z_get (cl := vwCl) (T := TX0) (N := 13) (ci := 0) (ref := "IntervalSolver") C hinX0 rfl 0 (by decide) lk1 rfl dX0_findMinors_39 0 rfl rfl ?_
        refine z_icmp_ge (tgt := 54) C dX0_findMinors_42 (by decide) (fun c42 => ?_) (fun c42 => ?_)
        · have e42 : ¬ rowOf skip (k + 1) < N := by have := (nI_leI (a := N) (b := rowOf skip (k + 1)) (by omega) (by omega)).mp c42; omega
          refine z_lconst (v := 0) C dX0_findMinors_54 (by decide) ?_
          refine z_topl (if rowOf skip (k + 1) < N then (exS M (mnG M mn N skip k) N (rowOf skip (k + 1)) (k + 1) N).1 else 0) (if_neg e42).symm ?_
          refine z_last (ws' := w0 K a (N, M, S, rl, rh, bl, bh, kl, kh, vp_updL (mnG M mn N skip k) (k + 1) (if rowOf skip (k + 1) < N then (exS M (mnG M mn N skip k) N (rowOf skip (k + 1)) (k + 1) N).1 else 0), vc, iv, sc)) C 1 rfl 9 rfl dX0_findMinors_55 (k + 1) rfl (by omega) (by decide) rfl ?_
          refine z_iinc (v := nI ((k + 1) + 1)) (lv' := [(0, .ref (a 0)), (1, .int (nI skip)), (2, .int (nI ((k + 1) + 1))), (3, .int (nI (rowOf skip (k + 1))))]) C dX0_findMinors_56 (k := 2) rfl (nI_1 (k + 1)) (by decide) [1, 2, 0, 3] rfl ?_
          refine z_goto (tgt := 9) C dX0_findMinors_59 (by decide) ?_
          refine z_lv (lv' := [(0, .ref (a 0)), (1, .int (nI skip)), (2, .int (nI ((k + 1) + 1)))]) [0, 1, 2] rfl ?_
          exact ih9_k (k + 1) (by omega) (by omega) (by omega)
        · have e42 : rowOf skip (k + 1) < N := by have := mt (nI_leI (a := N) (b := rowOf skip (k + 1)) (by omega) (by omega)).mpr c42; omega
          refine z_aload_n C dX0_findMinors_45 0 rfl ?_
          refine z_iload_n C dX0_findMinors_46 3 rfl ?_
          refine z_iload_n C dX0_findMinors_47 2 rfl ?_
          refine z_callVl_all (As := [.int (nI (rowOf skip (k + 1))), .int (nI (k + 1))]) C (c0_expanded l D K a N M S rl rh bl bh kl kh (mnG M mn N skip k) vc iv sc (rowOf skip (k + 1)) (k + 1) (by omega) (by omega) (by omega)) (cwV 2 C.1.2.2.2.2 gX0_findMinors_X0_expanded rfl rfl rfl (by decide +kernel) ⟨Nat.le_of_ble_eq_true rfl, Nat.le_of_ble_eq_true rfl⟩) (ci := 0) rfl rfl 0 rfl dX0_findMinors_48 rfl rfl (Nat.le_of_ble_eq_true rfl) ⟨Nat.le_of_ble_eq_true rfl, Nat.le_of_ble_eq_true rfl⟩ (fun r3 u3 h3 => ?_)
          obtain ⟨rfl, rfl⟩ := h3
          refine z_goto (tgt := 55) C dX0_findMinors_51 (by decide) ?_
          refine z_topl (if rowOf skip (k + 1) < N then (exS M (mnG M mn N skip k) N (rowOf skip (k + 1)) (k + 1) N).1 else 0) (if_pos e42).symm ?_
          refine z_last (ws' := w0 K a (N, M, S, rl, rh, bl, bh, kl, kh, vp_updL (mnG M mn N skip k) (k + 1) (if rowOf skip (k + 1) < N then (exS M (mnG M mn N skip k) N (rowOf skip (k + 1)) (k + 1) N).1 else 0), vc, iv, sc)) C 1 rfl 9 rfl dX0_findMinors_55 (k + 1) rfl (by omega) (by decide) rfl ?_
          refine z_iinc (v := nI ((k + 1) + 1)) (lv' := [(0, .ref (a 0)), (1, .int (nI skip)), (2, .int (nI ((k + 1) + 1))), (3, .int (nI (rowOf skip (k + 1))))]) C dX0_findMinors_56 (k := 2) rfl (nI_1 (k + 1)) (by decide) [1, 2, 0, 3] rfl ?_
          refine z_goto (tgt := 9) C dX0_findMinors_59 (by decide) ?_
          refine z_lv (lv' := [(0, .ref (a 0)), (1, .int (nI skip)), (2, .int (nI ((k + 1) + 1)))]) [0, 1, 2] rfl ?_
          exact ih9_k (k + 1) (by omega) (by omega) (by omega)
      · have e26 : ¬ pop5 (k + 1) - 1 < skip := mt (nI_ltI (by omega) (by omega)).mpr c26
        have hrow : pop5 (k + 1) - 1 + 1 = rowOf skip (k + 1) := by unfold rowOf; rw [if_pos (by omega)]
        refine z_iinc (v := nI ((pop5 (k + 1) - 1) + 1)) (lv' := [(0, .ref (a 0)), (1, .int (nI skip)), (2, .int (nI (k + 1))), (3, .int (nI ((pop5 (k + 1) - 1) + 1)))]) C dX0_findMinors_29 (k := 3) rfl (nI_1 (pop5 (k + 1) - 1)) (by decide) [1, 2, 3, 0] rfl ?_
        rw [hrow]
        refine z_aload_n C dX0_findMinors_32 0 rfl ?_
        refine z_get (cl := vwCl) (T := TX0) (N := 13) (ci := 0) (ref := "IntervalSolver") C hinX0 rfl 9 (by decide) lk0 rfl dX0_findMinors_33 0 rfl rfl ?_
        refine z_iload_n C dX0_findMinors_36 2 rfl ?_
        refine z_iload_n C dX0_findMinors_37 3 rfl ?_
        refine z_aload_n C dX0_findMinors_38 0 rfl ?_
        refine z_get (cl := vwCl) (T := TX0) (N := 13) (ci := 0) (ref := "IntervalSolver") C hinX0 rfl 0 (by decide) lk1 rfl dX0_findMinors_39 0 rfl rfl ?_
        refine z_icmp_ge (tgt := 54) C dX0_findMinors_42 (by decide) (fun c42 => ?_) (fun c42 => ?_)
        · have e42 : ¬ rowOf skip (k + 1) < N := by have := (nI_leI (a := N) (b := rowOf skip (k + 1)) (by omega) (by omega)).mp c42; omega
          refine z_lconst (v := 0) C dX0_findMinors_54 (by decide) ?_
          refine z_topl (if rowOf skip (k + 1) < N then (exS M (mnG M mn N skip k) N (rowOf skip (k + 1)) (k + 1) N).1 else 0) (if_neg e42).symm ?_
          refine z_last (ws' := w0 K a (N, M, S, rl, rh, bl, bh, kl, kh, vp_updL (mnG M mn N skip k) (k + 1) (if rowOf skip (k + 1) < N then (exS M (mnG M mn N skip k) N (rowOf skip (k + 1)) (k + 1) N).1 else 0), vc, iv, sc)) C 1 rfl 9 rfl dX0_findMinors_55 (k + 1) rfl (by omega) (by decide) rfl ?_
          refine z_iinc (v := nI ((k + 1) + 1)) (lv' := [(0, .ref (a 0)), (1, .int (nI skip)), (2, .int (nI ((k + 1) + 1))), (3, .int (nI (rowOf skip (k + 1))))]) C dX0_findMinors_56 (k := 2) rfl (nI_1 (k + 1)) (by decide) [1, 2, 0, 3] rfl ?_
          refine z_goto (tgt := 9) C dX0_findMinors_59 (by decide) ?_
          refine z_lv (lv' := [(0, .ref (a 0)), (1, .int (nI skip)), (2, .int (nI ((k + 1) + 1)))]) [0, 1, 2] rfl ?_
          exact ih9_k (k + 1) (by omega) (by omega) (by omega)
        · have e42 : rowOf skip (k + 1) < N := by have := mt (nI_leI (a := N) (b := rowOf skip (k + 1)) (by omega) (by omega)).mpr c42; omega
          refine z_aload_n C dX0_findMinors_45 0 rfl ?_
          refine z_iload_n C dX0_findMinors_46 3 rfl ?_
          refine z_iload_n C dX0_findMinors_47 2 rfl ?_
          refine z_callVl_all (As := [.int (nI (rowOf skip (k + 1))), .int (nI (k + 1))]) C (c0_expanded l D K a N M S rl rh bl bh kl kh (mnG M mn N skip k) vc iv sc (rowOf skip (k + 1)) (k + 1) (by omega) (by omega) (by omega)) (cwV 2 C.1.2.2.2.2 gX0_findMinors_X0_expanded rfl rfl rfl (by decide +kernel) ⟨Nat.le_of_ble_eq_true rfl, Nat.le_of_ble_eq_true rfl⟩) (ci := 0) rfl rfl 0 rfl dX0_findMinors_48 rfl rfl (Nat.le_of_ble_eq_true rfl) ⟨Nat.le_of_ble_eq_true rfl, Nat.le_of_ble_eq_true rfl⟩ (fun r4 u4 h4 => ?_)
          obtain ⟨rfl, rfl⟩ := h4
          refine z_goto (tgt := 55) C dX0_findMinors_51 (by decide) ?_
          refine z_topl (if rowOf skip (k + 1) < N then (exS M (mnG M mn N skip k) N (rowOf skip (k + 1)) (k + 1) N).1 else 0) (if_pos e42).symm ?_
          refine z_last (ws' := w0 K a (N, M, S, rl, rh, bl, bh, kl, kh, vp_updL (mnG M mn N skip k) (k + 1) (if rowOf skip (k + 1) < N then (exS M (mnG M mn N skip k) N (rowOf skip (k + 1)) (k + 1) N).1 else 0), vc, iv, sc)) C 1 rfl 9 rfl dX0_findMinors_55 (k + 1) rfl (by omega) (by decide) rfl ?_
          refine z_iinc (v := nI ((k + 1) + 1)) (lv' := [(0, .ref (a 0)), (1, .int (nI skip)), (2, .int (nI ((k + 1) + 1))), (3, .int (nI (rowOf skip (k + 1))))]) C dX0_findMinors_56 (k := 2) rfl (nI_1 (k + 1)) (by decide) [1, 2, 0, 3] rfl ?_
          refine z_goto (tgt := 9) C dX0_findMinors_59 (by decide) ?_
          refine z_lv (lv' := [(0, .ref (a 0)), (1, .int (nI skip)), (2, .int (nI ((k + 1) + 1)))]) [0, 1, 2] rfl ?_
          exact ih9_k (k + 1) (by omega) (by omega) (by omega)

set_option maxRecDepth 100000 in
set_option maxHeartbeats 4000000 in
theorem c0_determinant (l : Launch) (D : va_G) (K : Nat → ClassId) (a : Nat → Nat) (N : Nat) (M : Nat → Nat → Int32) (S : Nat → Nat → Int32) (rl : Nat → Int32) (rh : Nat → Int32) (bl : Nat → Int32) (bh : Nat → Int32) (kl : Nat → Int32) (kh : Nat → Int32) (mn : Nat → Int64) (vc : Nat → Int64) (iv : Nat → Nat → Int64) (sc : Int64) (hN : N ≤ 5) : mL l D K yX0_determinant wsX0_determinant 2 51 0 0 [.ref (a 0)] (w0 K a (N, M, S, rl, rh, bl, bh, kl, kh, mn, vc, iv, sc)) (fun r u => r = detM M N ∧ ∃ mn1, u = (N, M, S, rl, rh, bl, bh, kl, kh, mn1, vc, iv, sc)) (w0 K a) := by
  have hinX0 : ∀ w ∈ wsX00, w ∈ wsX0_determinant := by decide +kernel
  have lk0 : Cond.fieldLink RX0 59 "IntervalSolver" "n" "I" ∈ wsX0_determinant := by decide +kernel
  have lk1 : Cond.fieldLink RX0 36 "IntervalSolver" "minors" "[J" ∈ wsX0_determinant := by decide +kernel
  refine z_met_l (cc := cX0_determinant) (maxL := 1) (own := RX0) (lv := [(0, .ref (a 0))]) (by decide) rfl rfl (Nat.le_of_ble_eq_true rfl) rfl ?_
  intro p e s m below meth c args Q A C hnm hend
  have h2 := bt_p2 N (by omega)
  have h3 := bt_p1 N
  refine z_aload_n C dX0_determinant_0 0 rfl ?_
  refine z_aload_n C dX0_determinant_1 0 rfl ?_
  refine z_get (cl := vwCl) (T := TX0) (N := 13) (ci := 0) (ref := "IntervalSolver") C hinX0 rfl 0 (by decide) lk0 rfl dX0_determinant_2 0 rfl rfl ?_
  refine z_callVv_all (As := [.int (nI N)]) C (c0_findMinors l D K a N M S rl rh bl bh kl kh mn vc iv sc N (by omega) (by omega)) (cwV 1 C.1.2.2.2.2 gX0_determinant_X0_findMinors rfl rfl rfl (by decide +kernel) ⟨Nat.le_of_ble_eq_true rfl, Nat.le_of_ble_eq_true rfl⟩) (ci := 0) rfl rfl 0 rfl dX0_determinant_5 rfl rfl (Nat.le_of_ble_eq_true rfl) ⟨Nat.le_of_ble_eq_true rfl, Nat.le_of_ble_eq_true rfl⟩ (fun u1 h1 => ?_)
  subst h1
  refine z_aload_n C dX0_determinant_8 0 rfl ?_
  refine z_get (cl := vwCl) (T := TX0) (N := 13) (ci := 0) (ref := "IntervalSolver") C hinX0 rfl 9 (by decide) lk1 rfl dX0_determinant_9 0 rfl rfl ?_
  refine z_aload_n C dX0_determinant_12 0 rfl ?_
  refine z_callVi_all (As := []) C (c0_allColumns l D K a N M S rl rh bl bh kl kh (mnG M mn N N (2 ^ N - 1)) vc iv sc (by omega)) (cwV 0 C.1.2.2.2.2 gX0_determinant_X0_allColumns rfl rfl rfl (by decide +kernel) ⟨Nat.le_of_ble_eq_true rfl, Nat.le_of_ble_eq_true rfl⟩) (ci := 0) rfl rfl 0 rfl dX0_determinant_13 rfl rfl (Nat.le_of_ble_eq_true rfl) ⟨Nat.le_of_ble_eq_true rfl, Nat.le_of_ble_eq_true rfl⟩ (fun r2 u2 h2 => ?_)
  obtain ⟨rfl, rfl⟩ := h2
  refine z_lald C 1 rfl 9 rfl dX0_determinant_16 (2 ^ N - 1) rfl (by omega) (by decide) ?_
  exact hend _ _ _ _ _ (N, M, S, rl, rh, bl, bh, kl, kh, mnG M mn N N (2 ^ N - 1), vc, iv, sc) dX0_determinant_17 (Nat.zero_le _) (Nat.zero_le _) ⟨mnG_congr M mn _ N N _ _ (Nat.le_refl _), _, rfl⟩

set_option maxRecDepth 100000 in
set_option maxHeartbeats 4000000 in
theorem c0_greatestCommonDivisor (l : Launch) (D : va_G) (K : Nat → ClassId) (p0 : Int64) (p1 : Int64) : mL l D K yX0_greatestCommonDivisor wsX0_greatestCommonDivisor 1 30 0 0 [.long p0, .long p1] ([]) (fun r (_ : Unit) => r = gcdC p0 p1) (wN) := by
  have lk0 : Cond.methodLink RX0 148 Lib.MathLoose.abs_long.x ∈ wsX0_greatestCommonDivisor := by decide +kernel
  have lk1 : Cond.static Lib.MathLoose.abs_long.x ∈ wsX0_greatestCommonDivisor := by decide +kernel
  have lk2 : Cond.initialized "java/lang/Math" ∈ wsX0_greatestCommonDivisor := by decide +kernel
  have lk3 : Cond.code Lib.MathLoose.abs_long.x Lib.MathLoose.abs_long.code 2 (some .long) ∈ wsX0_greatestCommonDivisor := by decide +kernel
  refine z_met_l (cc := cX0_greatestCommonDivisor) (maxL := 11) (own := RX0) (lv := [(0, .long p0), (2, .long p1)]) (by decide) rfl rfl (Nat.le_of_ble_eq_true rfl) rfl ?_
  intro p e s m below meth c args Q A C hnm hend
  refine z_lload_n C dX0_greatestCommonDivisor_0 0 rfl ?_
  refine z_mabsL C lk0 lk1 lk2 lk3 (Nat.le_of_ble_eq_true rfl) (Nat.le_of_ble_eq_true rfl) (Nat.le_of_ble_eq_true rfl) (Nat.le_of_ble_eq_true rfl) dX0_greatestCommonDivisor_1 ?_
  refine z_lstore (lv' := [(0, .long p0), (2, .long p1), (4, .long (if 0 < p0 then p0 else -p0))]) C dX0_greatestCommonDivisor_4 (by decide) [1, 2, 0] rfl ?_
  refine z_lload_n C dX0_greatestCommonDivisor_6 1 rfl ?_
  refine z_mabsL C lk0 lk1 lk2 lk3 (Nat.le_of_ble_eq_true rfl) (Nat.le_of_ble_eq_true rfl) (Nat.le_of_ble_eq_true rfl) (Nat.le_of_ble_eq_true rfl) dX0_greatestCommonDivisor_7 ?_
  refine z_lstore (lv' := [(0, .long p0), (2, .long p1), (4, .long (if 0 < p0 then p0 else -p0)), (6, .long (if 0 < p1 then p1 else -p1))]) C dX0_greatestCommonDivisor_10 (by decide) [1, 2, 3, 0] rfl ?_
  refine z_iconst (v := 0) C dX0_greatestCommonDivisor_12 (by decide) ?_
  refine z_istore (lv' := [(0, .long p0), (2, .long p1), (4, .long (if 0 < p0 then p0 else -p0)), (6, .long (if 0 < p1 then p1 else -p1)), (8, .int 0)]) C dX0_greatestCommonDivisor_13 (by decide) [1, 2, 3, 4, 0] rfl ?_
  suffices L15 : ∀ (f15_k k : Nat) (x4 : Int64) (x6 : Int64), 0 ≤ k → k ≤ 100 → 100 < k + f15_k → (x4, x6) = gcS (absL p0) (absL p1) k → zW p l e { frames := 1, cells := 0, slots := 0, locals := 30 } s m args below meth c Q 11 A s.heap D vwCl 0 0 ([]) 15 ([(0, .long p0), (2, .long p1), (4, .long x4), (6, .long x6), (8, .int (nI k))]) [] from L15 (100 + 1) 0 (if 0 < p0 then p0 else -p0) (if 0 < p1 then p1 else -p1) (Nat.le_refl _) (by omega) (by omega) rfl
  intro f15_k
  induction f15_k with
  | zero => intro k x4 x6 h0 h1 h2; exact absurd h2 (by omega)
  | succ f15_k ih15_k =>
    intro k x4 x6 g15_0 g15_1 g15_2 hx
    refine z_iload C dX0_greatestCommonDivisor_15 4 rfl ?_
    refine z_bipush (v := 100) C dX0_greatestCommonDivisor_17 (by decide) ?_
    refine z_icmp_ge (tgt := 50) C dX0_greatestCommonDivisor_19 (by decide) (fun c19 => ?_) (fun c19 => ?_)
    · have e19 : k = 100 := by have := (nI_leI (a := 100) (b := k) (by omega) (by omega)).mp c19; omega
      rw [e19]
      rw [e19] at hx
      refine z_lload C dX0_greatestCommonDivisor_50 2 rfl ?_
      exact hend _ _ _ _ _ () dX0_greatestCommonDivisor_52 (Nat.zero_le _) (Nat.zero_le _) (congrArg Prod.fst hx)
    · have e19 : k < 100 := by have := mt (nI_leI (a := 100) (b := k) (by omega) (by omega)).mpr c19; omega
      refine z_lload C dX0_greatestCommonDivisor_22 3 rfl ?_
      refine z_lconst (v := 0) C dX0_greatestCommonDivisor_24 (by decide) ?_
      refine z_lcmp_eq (tgt := 50) C dX0_greatestCommonDivisor_25 dX0_greatestCommonDivisor_26 (by decide) (fun c25 => ?_) (fun c25 => ?_)
      · refine z_lload C dX0_greatestCommonDivisor_50 2 rfl ?_
        exact hend _ _ _ _ _ () dX0_greatestCommonDivisor_52 (Nat.zero_le _) (Nat.zero_le _) (by have hz := gcS_stay (a := absL p0) (b := absL p1) (k := k) (by rw [← hx]; exact c25) (100 - k); rw [show k + (100 - k) = 100 by omega] at hz; unfold gcdC; rw [hz, ← hx])
      · refine z_lload C dX0_greatestCommonDivisor_29 2 rfl ?_
        refine z_lload C dX0_greatestCommonDivisor_31 3 rfl ?_
        refine z_lrem C dX0_greatestCommonDivisor_33 c25 ?_
        refine z_lstore (lv' := [(0, .long p0), (2, .long p1), (4, .long x4), (6, .long x6), (8, .int (nI k)), (9, .long (x4 - x4 / x6 * x6))]) C dX0_greatestCommonDivisor_34 (by decide) [1, 2, 3, 4, 5, 0] rfl ?_
        refine z_lload C dX0_greatestCommonDivisor_36 3 rfl ?_
        refine z_lstore (lv' := [(0, .long p0), (2, .long p1), (4, .long x6), (6, .long x6), (8, .int (nI k)), (9, .long (x4 - x4 / x6 * x6))]) C dX0_greatestCommonDivisor_38 (by decide) [1, 2, 0, 3, 4, 5] rfl ?_
        refine z_lload C dX0_greatestCommonDivisor_40 5 rfl ?_
        refine z_lstore (lv' := [(0, .long p0), (2, .long p1), (4, .long x6), (6, .long (x4 - x4 / x6 * x6)), (8, .int (nI k)), (9, .long (x4 - x4 / x6 * x6))]) C dX0_greatestCommonDivisor_42 (by decide) [1, 2, 3, 0, 4, 5] rfl ?_
        refine z_iinc (v := nI (k + 1)) (lv' := [(0, .long p0), (2, .long p1), (4, .long x6), (6, .long (x4 - x4 / x6 * x6)), (8, .int (nI (k + 1))), (9, .long (x4 - x4 / x6 * x6))]) C dX0_greatestCommonDivisor_44 (k := 4) rfl (nI_1 k) (by decide) [1, 2, 3, 4, 0, 5] rfl ?_
        refine z_goto (tgt := 15) C dX0_greatestCommonDivisor_47 (by decide) ?_
        refine z_lv (lv' := [(0, .long p0), (2, .long p1), (4, .long x6), (6, .long (x4 - x4 / x6 * x6)), (8, .int (nI (k + 1)))]) [0, 1, 2, 3, 4] rfl ?_
        exact ih15_k (k + 1) x6 (x4 - x4 / x6 * x6) (by omega) (by omega) (by omega) (by unfold gcS; rw [← hx]; rw [if_neg c25])

set_option maxRecDepth 100000 in
set_option maxHeartbeats 4000000 in
theorem c0_reduced (l : Launch) (D : va_G) (K : Nat → ClassId) (p0 : Int64) (p1 : Int64) : mL l D K yX0_reduced wsX0_reduced 2 60 0 0 [.long p0, .long p1] ([]) (fun r (_ : Unit) => r = redC p0 p1) (wN) := by
  refine z_met_l (cc := cX0_reduced) (maxL := 6) (own := RX0) (lv := [(0, .long p0), (2, .long p1)]) (by decide) rfl rfl (Nat.le_of_ble_eq_true rfl) rfl ?_
  intro p e s m below meth c args Q A C hnm hend
  refine z_lload_n C dX0_reduced_0 0 rfl ?_
  refine z_lload_n C dX0_reduced_1 1 rfl ?_
  refine z_callSl_none (As := [.long p0, .long p1]) C (c0_greatestCommonDivisor l D K p0 p1) (va_cwS 2 C.1.2.2.2.2 gX0_reduced_X0_greatestCommonDivisor rfl rfl rfl (by decide +kernel) ⟨Nat.le_of_ble_eq_true rfl, Nat.le_of_ble_eq_true rfl⟩) dX0_reduced_2 rfl rfl (Nat.le_of_ble_eq_true rfl) ⟨Nat.le_of_ble_eq_true rfl, Nat.le_of_ble_eq_true rfl⟩ (fun r1 u1 h1 => ?_)
  refine z_lstore (lv' := [(0, .long p0), (2, .long p1), (4, .long r1)]) C dX0_reduced_5 (by decide) [1, 2, 0] rfl ?_
  refine z_lload C dX0_reduced_7 2 rfl ?_
  refine z_lconst (v := 0) C dX0_reduced_9 (by decide) ?_
  refine z_lcmp_ne (tgt := 18) C dX0_reduced_10 dX0_reduced_11 (by decide) (fun c10 => ?_) (fun c10 => ?_)
  · refine z_lload_n C dX0_reduced_18 0 rfl ?_
    refine z_lload C dX0_reduced_19 2 rfl ?_
    refine z_ldiv C dX0_reduced_21 c10 ?_
    exact hend _ _ _ _ _ () dX0_reduced_22 (Nat.zero_le _) (Nat.zero_le _) (by unfold redC; rw [← h1, if_neg c10])
  · refine z_lload_n C dX0_reduced_14 0 rfl ?_
    refine z_goto (tgt := 22) C dX0_reduced_15 (by decide) ?_
    exact hend _ _ _ _ _ () dX0_reduced_22 (Nat.zero_le _) (Nat.zero_le _) (by unfold redC; rw [← h1, if_pos c10])

set_option maxRecDepth 100000 in
set_option maxHeartbeats 4000000 in
theorem c0_scaledHullLow (l : Launch) (D : va_G) (K : Nat → ClassId) (a : Nat → Nat) (N : Nat) (M : Nat → Nat → Int32) (S : Nat → Nat → Int32) (rl : Nat → Int32) (rh : Nat → Int32) (bl : Nat → Int32) (bh : Nat → Int32) (kl : Nat → Int32) (kh : Nat → Int32) (mn : Nat → Int64) (vc : Nat → Int64) (iv : Nat → Nat → Int64) (sc : Int64) (i : Nat) (hi : i < N) (hN : N ≤ 5) : mL l D K yX0_scaledHullLow wsX0_scaledHullLow 0 0 0 0 [.ref (a 0), .int (nI i)] (w0 K a (N, M, S, rl, rh, bl, bh, kl, kh, mn, vc, iv, sc)) (fun r u => r = hul (iv i) rl rh N ∧ u = (N, M, S, rl, rh, bl, bh, kl, kh, mn, vc, iv, sc)) (w0 K a) := by
  have hinX0 : ∀ w ∈ wsX00, w ∈ wsX0_scaledHullLow := by decide +kernel
  have lk0 : Cond.fieldLink RX0 59 "IntervalSolver" "n" "I" ∈ wsX0_scaledHullLow := by decide +kernel
  have lk1 : Cond.fieldLink RX0 45 "IntervalSolver" "scaledInverse" "[[J" ∈ wsX0_scaledHullLow := by decide +kernel
  have lk2 : Cond.fieldLink RX0 17 "IntervalSolver" "rightLows" "[I" ∈ wsX0_scaledHullLow := by decide +kernel
  have lk3 : Cond.fieldLink RX0 21 "IntervalSolver" "rightHighs" "[I" ∈ wsX0_scaledHullLow := by decide +kernel
  refine z_met_l (cc := cX0_scaledHullLow) (maxL := 7) (own := RX0) (lv := [(0, .ref (a 0)), (1, .int (nI i))]) (by decide) rfl rfl (Nat.le_of_ble_eq_true rfl) rfl ?_
  intro p e s m below meth c args Q A C hnm hend
  refine z_lconst (v := 0) C dX0_scaledHullLow_0 (by decide) ?_
  refine z_lstore_n (lv' := [(0, .ref (a 0)), (1, .int (nI i)), (2, .long 0)]) C dX0_scaledHullLow_1 (by decide) [1, 2, 0] rfl ?_
  refine z_iconst (v := 0) C dX0_scaledHullLow_2 (by decide) ?_
  refine z_istore (lv' := [(0, .ref (a 0)), (1, .int (nI i)), (2, .long 0), (4, .int 0)]) C dX0_scaledHullLow_3 (by decide) [1, 2, 3, 0] rfl ?_
  suffices L5 : ∀ (f5_j j : Nat), 0 ≤ j → j ≤ N → N < j + f5_j → zW p l e { frames := 0, cells := 0, slots := 0, locals := 0 } s m args below meth c Q 7 A s.heap D vwCl 0 0 (w0 K a (N, M, S, rl, rh, bl, bh, kl, kh, mn, vc, iv, sc)) 5 ([(0, .ref (a 0)), (1, .int (nI i)), (2, .long (hul (iv i) rl rh j)), (4, .int (nI j))]) [] from L5 (N + 1) 0 (Nat.le_refl _) (by omega) (by omega)
  intro f5_j
  induction f5_j with
  | zero => intro j h0 h1 h2; exact absurd h2 (by omega)
  | succ f5_j ih5_j =>
    intro j g5_0 g5_1 g5_2
    refine z_iload C dX0_scaledHullLow_5 3 rfl ?_
    refine z_aload_n C dX0_scaledHullLow_7 0 rfl ?_
    refine z_get (cl := vwCl) (T := TX0) (N := 13) (ci := 0) (ref := "IntervalSolver") C hinX0 rfl 0 (by decide) lk0 rfl dX0_scaledHullLow_8 0 rfl rfl ?_
    refine z_icmp_ge (tgt := 62) C dX0_scaledHullLow_11 (by decide) (fun c11 => ?_) (fun c11 => ?_)
    · have e11 : j = N := by have := (nI_leI (a := N) (b := j) (by omega) (by omega)).mp c11; omega
      rw [e11]
      refine z_lload_n C dX0_scaledHullLow_62 2 rfl ?_
      exact hend _ _ _ _ _ (N, M, S, rl, rh, bl, bh, kl, kh, mn, vc, iv, sc) dX0_scaledHullLow_63 (Nat.zero_le _) (Nat.zero_le _) ⟨rfl, rfl⟩
    · have e11 : j < N := by have := mt (nI_leI (a := N) (b := j) (by omega) (by omega)).mpr c11; omega
      refine z_aload_n C dX0_scaledHullLow_14 0 rfl ?_
      refine z_get (cl := vwCl) (T := TX0) (N := 13) (ci := 0) (ref := "IntervalSolver") C hinX0 rfl 11 (by decide) lk1 rfl dX0_scaledHullLow_15 0 rfl rfl ?_
      refine z_iload_n C dX0_scaledHullLow_18 1 rfl ?_
      refine z_aald (y := a (22 + i)) C 3 rfl 11 rfl dX0_scaledHullLow_19 i rfl (by omega) (by decide) (if_pos (by omega)) ?_
      refine z_iload C dX0_scaledHullLow_20 3 rfl ?_
      refine z_lald C 1 rfl (22 + i) (w0_atV (by omega)) dX0_scaledHullLow_22 j rfl (by omega) (by decide) ?_
      refine z_lstore (lv' := [(0, .ref (a 0)), (1, .int (nI i)), (2, .long (hul (iv i) rl rh j)), (4, .int (nI j)), (5, .long (iv i j))]) C dX0_scaledHullLow_23 (by decide) [1, 2, 3, 4, 0] rfl ?_
      refine z_lload_n C dX0_scaledHullLow_25 2 rfl ?_
      refine z_lload C dX0_scaledHullLow_26 4 rfl ?_
      refine z_lload C dX0_scaledHullLow_28 4 rfl ?_
      refine z_lconst (v := 0) C dX0_scaledHullLow_30 (by decide) ?_
      refine z_lcmp_ge (tgt := 45) C dX0_scaledHullLow_31 dX0_scaledHullLow_32 (by decide) (fun c31 => ?_) (fun c31 => ?_)
      · refine z_aload_n C dX0_scaledHullLow_45 0 rfl ?_
        refine z_get (cl := vwCl) (T := TX0) (N := 13) (ci := 0) (ref := "IntervalSolver") C hinX0 rfl 3 (by decide) lk2 rfl dX0_scaledHullLow_46 0 rfl rfl ?_
        refine z_iload C dX0_scaledHullLow_49 3 rfl ?_
        refine z_iald C 0 rfl 3 rfl dX0_scaledHullLow_51 j rfl (by omega) (by decide) ?_
        refine z_i2l C dX0_scaledHullLow_52 ?_
        refine z_lmul C dX0_scaledHullLow_53 ?_
        refine z_ladd C dX0_scaledHullLow_54 ?_
        refine z_topl (hul (iv i) rl rh (j + 1)) (by show _ = hul (iv i) rl rh j + iv i j * _; first | rw [if_pos c31] | rw [if_neg c31]) ?_
        refine z_lstore_n (lv' := [(0, .ref (a 0)), (1, .int (nI i)), (2, .long (hul (iv i) rl rh (j + 1))), (4, .int (nI j)), (5, .long (iv i j))]) C dX0_scaledHullLow_55 (by decide) [1, 2, 0, 3, 4] rfl ?_
        refine z_iinc (v := nI (j + 1)) (lv' := [(0, .ref (a 0)), (1, .int (nI i)), (2, .long (hul (iv i) rl rh (j + 1))), (4, .int (nI (j + 1))), (5, .long (iv i j))]) C dX0_scaledHullLow_56 (k := 3) rfl (nI_1 j) (by decide) [1, 2, 3, 0, 4] rfl ?_
        refine z_goto (tgt := 5) C dX0_scaledHullLow_59 (by decide) ?_
        refine z_lv (lv' := [(0, .ref (a 0)), (1, .int (nI i)), (2, .long (hul (iv i) rl rh (j + 1))), (4, .int (nI (j + 1)))]) [0, 1, 2, 3] rfl ?_
        exact ih5_j (j + 1) (by omega) (by omega) (by omega)
      · refine z_aload_n C dX0_scaledHullLow_35 0 rfl ?_
        refine z_get (cl := vwCl) (T := TX0) (N := 13) (ci := 0) (ref := "IntervalSolver") C hinX0 rfl 4 (by decide) lk3 rfl dX0_scaledHullLow_36 0 rfl rfl ?_
        refine z_iload C dX0_scaledHullLow_39 3 rfl ?_
        refine z_iald C 0 rfl 4 rfl dX0_scaledHullLow_41 j rfl (by omega) (by decide) ?_
        refine z_goto (tgt := 52) C dX0_scaledHullLow_42 (by decide) ?_
        refine z_i2l C dX0_scaledHullLow_52 ?_
        refine z_lmul C dX0_scaledHullLow_53 ?_
        refine z_ladd C dX0_scaledHullLow_54 ?_
        refine z_topl (hul (iv i) rl rh (j + 1)) (by show _ = hul (iv i) rl rh j + iv i j * _; first | rw [if_pos c31] | rw [if_neg c31]) ?_
        refine z_lstore_n (lv' := [(0, .ref (a 0)), (1, .int (nI i)), (2, .long (hul (iv i) rl rh (j + 1))), (4, .int (nI j)), (5, .long (iv i j))]) C dX0_scaledHullLow_55 (by decide) [1, 2, 0, 3, 4] rfl ?_
        refine z_iinc (v := nI (j + 1)) (lv' := [(0, .ref (a 0)), (1, .int (nI i)), (2, .long (hul (iv i) rl rh (j + 1))), (4, .int (nI (j + 1))), (5, .long (iv i j))]) C dX0_scaledHullLow_56 (k := 3) rfl (nI_1 j) (by decide) [1, 2, 3, 0, 4] rfl ?_
        refine z_goto (tgt := 5) C dX0_scaledHullLow_59 (by decide) ?_
        refine z_lv (lv' := [(0, .ref (a 0)), (1, .int (nI i)), (2, .long (hul (iv i) rl rh (j + 1))), (4, .int (nI (j + 1)))]) [0, 1, 2, 3] rfl ?_
        exact ih5_j (j + 1) (by omega) (by omega) (by omega)

set_option maxRecDepth 100000 in
set_option maxHeartbeats 4000000 in
theorem c0_scaledHullHigh (l : Launch) (D : va_G) (K : Nat → ClassId) (a : Nat → Nat) (N : Nat) (M : Nat → Nat → Int32) (S : Nat → Nat → Int32) (rl : Nat → Int32) (rh : Nat → Int32) (bl : Nat → Int32) (bh : Nat → Int32) (kl : Nat → Int32) (kh : Nat → Int32) (mn : Nat → Int64) (vc : Nat → Int64) (iv : Nat → Nat → Int64) (sc : Int64) (i : Nat) (hi : i < N) (hN : N ≤ 5) : mL l D K yX0_scaledHullHigh wsX0_scaledHullHigh 0 0 0 0 [.ref (a 0), .int (nI i)] (w0 K a (N, M, S, rl, rh, bl, bh, kl, kh, mn, vc, iv, sc)) (fun r u => r = hul (iv i) rh rl N ∧ u = (N, M, S, rl, rh, bl, bh, kl, kh, mn, vc, iv, sc)) (w0 K a) := by
  have hinX0 : ∀ w ∈ wsX00, w ∈ wsX0_scaledHullHigh := by decide +kernel
  have lk0 : Cond.fieldLink RX0 59 "IntervalSolver" "n" "I" ∈ wsX0_scaledHullHigh := by decide +kernel
  have lk1 : Cond.fieldLink RX0 45 "IntervalSolver" "scaledInverse" "[[J" ∈ wsX0_scaledHullHigh := by decide +kernel
  have lk2 : Cond.fieldLink RX0 21 "IntervalSolver" "rightHighs" "[I" ∈ wsX0_scaledHullHigh := by decide +kernel
  have lk3 : Cond.fieldLink RX0 17 "IntervalSolver" "rightLows" "[I" ∈ wsX0_scaledHullHigh := by decide +kernel
  refine z_met_l (cc := cX0_scaledHullHigh) (maxL := 7) (own := RX0) (lv := [(0, .ref (a 0)), (1, .int (nI i))]) (by decide) rfl rfl (Nat.le_of_ble_eq_true rfl) rfl ?_
  intro p e s m below meth c args Q A C hnm hend
  refine z_lconst (v := 0) C dX0_scaledHullHigh_0 (by decide) ?_
  refine z_lstore_n (lv' := [(0, .ref (a 0)), (1, .int (nI i)), (2, .long 0)]) C dX0_scaledHullHigh_1 (by decide) [1, 2, 0] rfl ?_
  refine z_iconst (v := 0) C dX0_scaledHullHigh_2 (by decide) ?_
  refine z_istore (lv' := [(0, .ref (a 0)), (1, .int (nI i)), (2, .long 0), (4, .int 0)]) C dX0_scaledHullHigh_3 (by decide) [1, 2, 3, 0] rfl ?_
  suffices L5 : ∀ (f5_j j : Nat), 0 ≤ j → j ≤ N → N < j + f5_j → zW p l e { frames := 0, cells := 0, slots := 0, locals := 0 } s m args below meth c Q 7 A s.heap D vwCl 0 0 (w0 K a (N, M, S, rl, rh, bl, bh, kl, kh, mn, vc, iv, sc)) 5 ([(0, .ref (a 0)), (1, .int (nI i)), (2, .long (hul (iv i) rh rl j)), (4, .int (nI j))]) [] from L5 (N + 1) 0 (Nat.le_refl _) (by omega) (by omega)
  intro f5_j
  induction f5_j with
  | zero => intro j h0 h1 h2; exact absurd h2 (by omega)
  | succ f5_j ih5_j =>
    intro j g5_0 g5_1 g5_2
    refine z_iload C dX0_scaledHullHigh_5 3 rfl ?_
    refine z_aload_n C dX0_scaledHullHigh_7 0 rfl ?_
    refine z_get (cl := vwCl) (T := TX0) (N := 13) (ci := 0) (ref := "IntervalSolver") C hinX0 rfl 0 (by decide) lk0 rfl dX0_scaledHullHigh_8 0 rfl rfl ?_
    refine z_icmp_ge (tgt := 62) C dX0_scaledHullHigh_11 (by decide) (fun c11 => ?_) (fun c11 => ?_)
    · have e11 : j = N := by have := (nI_leI (a := N) (b := j) (by omega) (by omega)).mp c11; omega
      rw [e11]
      refine z_lload_n C dX0_scaledHullHigh_62 2 rfl ?_
      exact hend _ _ _ _ _ (N, M, S, rl, rh, bl, bh, kl, kh, mn, vc, iv, sc) dX0_scaledHullHigh_63 (Nat.zero_le _) (Nat.zero_le _) ⟨rfl, rfl⟩
    · have e11 : j < N := by have := mt (nI_leI (a := N) (b := j) (by omega) (by omega)).mpr c11; omega
      refine z_aload_n C dX0_scaledHullHigh_14 0 rfl ?_
      refine z_get (cl := vwCl) (T := TX0) (N := 13) (ci := 0) (ref := "IntervalSolver") C hinX0 rfl 11 (by decide) lk1 rfl dX0_scaledHullHigh_15 0 rfl rfl ?_
      refine z_iload_n C dX0_scaledHullHigh_18 1 rfl ?_
      refine z_aald (y := a (22 + i)) C 3 rfl 11 rfl dX0_scaledHullHigh_19 i rfl (by omega) (by decide) (if_pos (by omega)) ?_
      refine z_iload C dX0_scaledHullHigh_20 3 rfl ?_
      refine z_lald C 1 rfl (22 + i) (w0_atV (by omega)) dX0_scaledHullHigh_22 j rfl (by omega) (by decide) ?_
      refine z_lstore (lv' := [(0, .ref (a 0)), (1, .int (nI i)), (2, .long (hul (iv i) rh rl j)), (4, .int (nI j)), (5, .long (iv i j))]) C dX0_scaledHullHigh_23 (by decide) [1, 2, 3, 4, 0] rfl ?_
      refine z_lload_n C dX0_scaledHullHigh_25 2 rfl ?_
      refine z_lload C dX0_scaledHullHigh_26 4 rfl ?_
      refine z_lload C dX0_scaledHullHigh_28 4 rfl ?_
      refine z_lconst (v := 0) C dX0_scaledHullHigh_30 (by decide) ?_
      refine z_lcmp_ge (tgt := 45) C dX0_scaledHullHigh_31 dX0_scaledHullHigh_32 (by decide) (fun c31 => ?_) (fun c31 => ?_)
      · refine z_aload_n C dX0_scaledHullHigh_45 0 rfl ?_
        refine z_get (cl := vwCl) (T := TX0) (N := 13) (ci := 0) (ref := "IntervalSolver") C hinX0 rfl 4 (by decide) lk2 rfl dX0_scaledHullHigh_46 0 rfl rfl ?_
        refine z_iload C dX0_scaledHullHigh_49 3 rfl ?_
        refine z_iald C 0 rfl 4 rfl dX0_scaledHullHigh_51 j rfl (by omega) (by decide) ?_
        refine z_i2l C dX0_scaledHullHigh_52 ?_
        refine z_lmul C dX0_scaledHullHigh_53 ?_
        refine z_ladd C dX0_scaledHullHigh_54 ?_
        refine z_topl (hul (iv i) rh rl (j + 1)) (by show _ = hul (iv i) rh rl j + iv i j * _; first | rw [if_pos c31] | rw [if_neg c31]) ?_
        refine z_lstore_n (lv' := [(0, .ref (a 0)), (1, .int (nI i)), (2, .long (hul (iv i) rh rl (j + 1))), (4, .int (nI j)), (5, .long (iv i j))]) C dX0_scaledHullHigh_55 (by decide) [1, 2, 0, 3, 4] rfl ?_
        refine z_iinc (v := nI (j + 1)) (lv' := [(0, .ref (a 0)), (1, .int (nI i)), (2, .long (hul (iv i) rh rl (j + 1))), (4, .int (nI (j + 1))), (5, .long (iv i j))]) C dX0_scaledHullHigh_56 (k := 3) rfl (nI_1 j) (by decide) [1, 2, 3, 0, 4] rfl ?_
        refine z_goto (tgt := 5) C dX0_scaledHullHigh_59 (by decide) ?_
        refine z_lv (lv' := [(0, .ref (a 0)), (1, .int (nI i)), (2, .long (hul (iv i) rh rl (j + 1))), (4, .int (nI (j + 1)))]) [0, 1, 2, 3] rfl ?_
        exact ih5_j (j + 1) (by omega) (by omega) (by omega)
      · refine z_aload_n C dX0_scaledHullHigh_35 0 rfl ?_
        refine z_get (cl := vwCl) (T := TX0) (N := 13) (ci := 0) (ref := "IntervalSolver") C hinX0 rfl 3 (by decide) lk3 rfl dX0_scaledHullHigh_36 0 rfl rfl ?_
        refine z_iload C dX0_scaledHullHigh_39 3 rfl ?_
        refine z_iald C 0 rfl 3 rfl dX0_scaledHullHigh_41 j rfl (by omega) (by decide) ?_
        refine z_goto (tgt := 52) C dX0_scaledHullHigh_42 (by decide) ?_
        refine z_i2l C dX0_scaledHullHigh_52 ?_
        refine z_lmul C dX0_scaledHullHigh_53 ?_
        refine z_ladd C dX0_scaledHullHigh_54 ?_
        refine z_topl (hul (iv i) rh rl (j + 1)) (by show _ = hul (iv i) rh rl j + iv i j * _; first | rw [if_pos c31] | rw [if_neg c31]) ?_
        refine z_lstore_n (lv' := [(0, .ref (a 0)), (1, .int (nI i)), (2, .long (hul (iv i) rh rl (j + 1))), (4, .int (nI j)), (5, .long (iv i j))]) C dX0_scaledHullHigh_55 (by decide) [1, 2, 0, 3, 4] rfl ?_
        refine z_iinc (v := nI (j + 1)) (lv' := [(0, .ref (a 0)), (1, .int (nI i)), (2, .long (hul (iv i) rh rl (j + 1))), (4, .int (nI (j + 1))), (5, .long (iv i j))]) C dX0_scaledHullHigh_56 (k := 3) rfl (nI_1 j) (by decide) [1, 2, 3, 0, 4] rfl ?_
        refine z_goto (tgt := 5) C dX0_scaledHullHigh_59 (by decide) ?_
        refine z_lv (lv' := [(0, .ref (a 0)), (1, .int (nI i)), (2, .long (hul (iv i) rh rl (j + 1))), (4, .int (nI (j + 1)))]) [0, 1, 2, 3] rfl ?_
        exact ih5_j (j + 1) (by omega) (by omega) (by omega)

set_option maxRecDepth 100000 in
set_option maxHeartbeats 4000000 in
theorem c0_hullLowInUnits (l : Launch) (D : va_G) (K : Nat → ClassId) (a : Nat → Nat) (N : Nat) (M : Nat → Nat → Int32) (S : Nat → Nat → Int32) (rl : Nat → Int32) (rh : Nat → Int32) (bl : Nat → Int32) (bh : Nat → Int32) (kl : Nat → Int32) (kh : Nat → Int32) (mn : Nat → Int64) (vc : Nat → Int64) (iv : Nat → Nat → Int64) (sc : Int64) (i : Nat) (hi : i < N) (hN : N ≤ 5) : mL l D K yX0_hullLowInUnits wsX0_hullLowInUnits 2 48 0 0 [.ref (a 0), .int (nI i)] (w0 K a (N, M, S, rl, rh, bl, bh, kl, kh, mn, vc, iv, sc)) (fun r u => r = qd (1024 * hul (iv i) rl rh N) sc ∧ u = (N, M, S, rl, rh, bl, bh, kl, kh, mn, vc, iv, sc)) (w0 K a) := by
  have hinX0 : ∀ w ∈ wsX00, w ∈ wsX0_hullLowInUnits := by decide +kernel
  have lk0 : Cond.constantLong RX0 221 (1024) ∈ wsX0_hullLowInUnits := by decide +kernel
  have lk1 : Cond.fieldLink RX0 131 "IntervalSolver" "scale" "J" ∈ wsX0_hullLowInUnits := by decide +kernel
  refine z_met_l (cc := cX0_hullLowInUnits) (maxL := 2) (own := RX0) (lv := [(0, .ref (a 0)), (1, .int (nI i))]) (by decide) rfl rfl (Nat.le_of_ble_eq_true rfl) rfl ?_
  intro p e s m below meth c args Q A C hnm hend
  refine z_ldc2 C lk0 dX0_hullLowInUnits_0 ?_
  refine z_aload_n C dX0_hullLowInUnits_3 0 rfl ?_
  refine z_iload_n C dX0_hullLowInUnits_4 1 rfl ?_
  refine z_callVl_all (As := [.int (nI i)]) C (c0_scaledHullLow l D K a N M S rl rh bl bh kl kh mn vc iv sc i (by omega) (by omega)) (cwV 1 C.1.2.2.2.2 gX0_hullLowInUnits_X0_scaledHullLow rfl rfl rfl (by decide +kernel) ⟨Nat.le_of_ble_eq_true rfl, Nat.le_of_ble_eq_true rfl⟩) (ci := 0) rfl rfl 0 rfl dX0_hullLowInUnits_5 rfl rfl (Nat.le_of_ble_eq_true rfl) ⟨Nat.le_of_ble_eq_true rfl, Nat.le_of_ble_eq_true rfl⟩ (fun r1 u1 h1 => ?_)
  obtain ⟨rfl, rfl⟩ := h1
  refine z_lmul C dX0_hullLowInUnits_8 ?_
  refine z_aload_n C dX0_hullLowInUnits_9 0 rfl ?_
  refine z_get (cl := vwCl) (T := TX0) (N := 13) (ci := 0) (ref := "IntervalSolver") C hinX0 rfl 12 (by decide) lk1 rfl dX0_hullLowInUnits_10 0 rfl rfl ?_
  refine z_callSl_none (As := [.long (1024 * (hul (iv i) rl rh N)), .long sc]) C (c0_quotientDown l D K (1024 * (hul (iv i) rl rh N)) sc) (va_cwS 2 C.1.2.2.2.2 gX0_hullLowInUnits_X0_quotientDown rfl rfl rfl (by decide +kernel) ⟨Nat.le_of_ble_eq_true rfl, Nat.le_of_ble_eq_true rfl⟩) dX0_hullLowInUnits_13 rfl rfl (Nat.le_of_ble_eq_true rfl) ⟨Nat.le_of_ble_eq_true rfl, Nat.le_of_ble_eq_true rfl⟩ (fun r2 u2 h2 => ?_)
  subst h2
  exact hend _ _ _ _ _ (N, M, S, rl, rh, bl, bh, kl, kh, mn, vc, iv, sc) dX0_hullLowInUnits_16 (Nat.zero_le _) (Nat.zero_le _) ⟨rfl, rfl⟩

set_option maxRecDepth 100000 in
set_option maxHeartbeats 4000000 in
theorem c0_hullHighInUnits (l : Launch) (D : va_G) (K : Nat → ClassId) (a : Nat → Nat) (N : Nat) (M : Nat → Nat → Int32) (S : Nat → Nat → Int32) (rl : Nat → Int32) (rh : Nat → Int32) (bl : Nat → Int32) (bh : Nat → Int32) (kl : Nat → Int32) (kh : Nat → Int32) (mn : Nat → Int64) (vc : Nat → Int64) (iv : Nat → Nat → Int64) (sc : Int64) (i : Nat) (hi : i < N) (hN : N ≤ 5) : mL l D K yX0_hullHighInUnits wsX0_hullHighInUnits 3 71 0 0 [.ref (a 0), .int (nI i)] (w0 K a (N, M, S, rl, rh, bl, bh, kl, kh, mn, vc, iv, sc)) (fun r u => r = qu (1024 * hul (iv i) rh rl N) sc ∧ u = (N, M, S, rl, rh, bl, bh, kl, kh, mn, vc, iv, sc)) (w0 K a) := by
  have hinX0 : ∀ w ∈ wsX00, w ∈ wsX0_hullHighInUnits := by decide +kernel
  have lk0 : Cond.constantLong RX0 221 (1024) ∈ wsX0_hullHighInUnits := by decide +kernel
  have lk1 : Cond.fieldLink RX0 131 "IntervalSolver" "scale" "J" ∈ wsX0_hullHighInUnits := by decide +kernel
  refine z_met_l (cc := cX0_hullHighInUnits) (maxL := 2) (own := RX0) (lv := [(0, .ref (a 0)), (1, .int (nI i))]) (by decide) rfl rfl (Nat.le_of_ble_eq_true rfl) rfl ?_
  intro p e s m below meth c args Q A C hnm hend
  refine z_ldc2 C lk0 dX0_hullHighInUnits_0 ?_
  refine z_aload_n C dX0_hullHighInUnits_3 0 rfl ?_
  refine z_iload_n C dX0_hullHighInUnits_4 1 rfl ?_
  refine z_callVl_all (As := [.int (nI i)]) C (c0_scaledHullHigh l D K a N M S rl rh bl bh kl kh mn vc iv sc i (by omega) (by omega)) (cwV 1 C.1.2.2.2.2 gX0_hullHighInUnits_X0_scaledHullHigh rfl rfl rfl (by decide +kernel) ⟨Nat.le_of_ble_eq_true rfl, Nat.le_of_ble_eq_true rfl⟩) (ci := 0) rfl rfl 0 rfl dX0_hullHighInUnits_5 rfl rfl (Nat.le_of_ble_eq_true rfl) ⟨Nat.le_of_ble_eq_true rfl, Nat.le_of_ble_eq_true rfl⟩ (fun r1 u1 h1 => ?_)
  obtain ⟨rfl, rfl⟩ := h1
  refine z_lmul C dX0_hullHighInUnits_8 ?_
  refine z_aload_n C dX0_hullHighInUnits_9 0 rfl ?_
  refine z_get (cl := vwCl) (T := TX0) (N := 13) (ci := 0) (ref := "IntervalSolver") C hinX0 rfl 12 (by decide) lk1 rfl dX0_hullHighInUnits_10 0 rfl rfl ?_
  refine z_callSl_none (As := [.long (1024 * (hul (iv i) rh rl N)), .long sc]) C (c0_quotientUp l D K (1024 * (hul (iv i) rh rl N)) sc) (va_cwS 2 C.1.2.2.2.2 gX0_hullHighInUnits_X0_quotientUp rfl rfl rfl (by decide +kernel) ⟨Nat.le_of_ble_eq_true rfl, Nat.le_of_ble_eq_true rfl⟩) dX0_hullHighInUnits_13 rfl rfl (Nat.le_of_ble_eq_true rfl) ⟨Nat.le_of_ble_eq_true rfl, Nat.le_of_ble_eq_true rfl⟩ (fun r2 u2 h2 => ?_)
  subst h2
  exact hend _ _ _ _ _ (N, M, S, rl, rh, bl, bh, kl, kh, mn, vc, iv, sc) dX0_hullHighInUnits_16 (Nat.zero_le _) (Nat.zero_le _) ⟨rfl, rfl⟩

