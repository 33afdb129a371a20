set_option maxRecDepth 100000 in
set_option maxHeartbeats 4000000 in
theorem c0_keepBox (l : Launch) (D : va_G) (K : Nat → ClassId) (a : Nat → Nat) (N : Nat) (M : Nat → Nat → Int32) (S : Nat → Nat → Int32) (rl : Nat → Int32) (rh : Nat → Int32) (bl : Nat → Int32) (bh : Nat → Int32) (kl : Nat → Int32) (kh : Nat → Int32) (mn : Nat → Int64) (vc : Nat → Int64) (iv : Nat → Nat → Int64) (sc : Int64) : mV l D K yX0_keepBox wsX0_keepBox 1 80 0 0 [.ref (a 0)] (w0 K a (N, M, S, rl, rh, bl, bh, kl, kh, mn, vc, iv, sc)) (fun u => u = (N, M, S, rl, rh, bl, bh, va_cpy bl kl 0 0 5, va_cpy bh kh 0 0 5, mn, vc, iv, sc)) (w0 K a) := by
  have hinX0 : ∀ w ∈ wsX00, w ∈ wsX0_keepBox := by decide +kernel
  have lk0 : Cond.fieldLink RX0 24 "IntervalSolver" "boxLows" "[I" ∈ wsX0_keepBox := by decide +kernel
  have lk1 : Cond.fieldLink RX0 30 "IntervalSolver" "keptLows" "[I" ∈ wsX0_keepBox := by decide +kernel
  have lk2 : Cond.methodLink RX0 215 arraycopyName ∈ wsX0_keepBox := by decide +kernel
  have lk3 : Cond.native arraycopyName ∈ wsX0_keepBox := by decide +kernel
  have lk4 : Cond.static arraycopyName ∈ wsX0_keepBox := by decide +kernel
  have lk5 : Cond.initialized "java/lang/System" ∈ wsX0_keepBox := by decide +kernel
  have lk6 : Cond.fieldLink RX0 27 "IntervalSolver" "boxHighs" "[I" ∈ wsX0_keepBox := by decide +kernel
  have lk7 : Cond.fieldLink RX0 33 "IntervalSolver" "keptHighs" "[I" ∈ wsX0_keepBox := by decide +kernel
  refine z_met_v (cc := cX0_keepBox) (maxL := 1) (own := RX0) (lv := [(0, .ref (a 0))]) (by decide) rfl rfl (Nat.le_of_ble_eq_true rfl) rfl ?_
  intro p e s m below meth c args Q A C hnm hend
  refine z_aload_n C dX0_keepBox_0 0 rfl ?_
  refine z_get (cl := vwCl) (T := TX0) (N := 13) (ci := 0) (ref := "IntervalSolver") C hinX0 rfl 5 (by decide) lk0 rfl dX0_keepBox_1 0 rfl rfl ?_
  refine z_iconst (v := 0) C dX0_keepBox_4 (by decide) ?_
  refine z_aload_n C dX0_keepBox_5 0 rfl ?_
  refine z_get (cl := vwCl) (T := TX0) (N := 13) (ci := 0) (ref := "IntervalSolver") C hinX0 rfl 7 (by decide) lk1 rfl dX0_keepBox_6 0 rfl rfl ?_
  refine z_iconst (v := 0) C dX0_keepBox_9 (by decide) ?_
  refine z_iconst (v := 5) C dX0_keepBox_10 (by decide) ?_
  refine z_copyi (ws' := w0 K a (N, M, S, rl, rh, bl, bh, va_cpy bl kl 0 0 5, kh, mn, vc, iv, sc)) C lk2 lk3 lk4 lk5 0 0 rfl rfl 5 7 rfl rfl (Nat.le_of_ble_eq_true rfl) (Nat.le_of_ble_eq_true rfl) dX0_keepBox_11 rfl ?_
  refine z_aload_n C dX0_keepBox_14 0 rfl ?_
  refine z_get (cl := vwCl) (T := TX0) (N := 13) (ci := 0) (ref := "IntervalSolver") C hinX0 rfl 6 (by decide) lk6 rfl dX0_keepBox_15 0 rfl rfl ?_
  refine z_iconst (v := 0) C dX0_keepBox_18 (by decide) ?_
  refine z_aload_n C dX0_keepBox_19 0 rfl ?_
  refine z_get (cl := vwCl) (T := TX0) (N := 13) (ci := 0) (ref := "IntervalSolver") C hinX0 rfl 8 (by decide) lk7 rfl dX0_keepBox_20 0 rfl rfl ?_
  refine z_iconst (v := 0) C dX0_keepBox_23 (by decide) ?_
  refine z_iconst (v := 5) C dX0_keepBox_24 (by decide) ?_
  refine z_copyi (ws' := w0 K a (N, M, S, rl, rh, bl, bh, va_cpy bl kl 0 0 5, va_cpy bh kh 0 0 5, mn, vc, iv, sc)) C lk2 lk3 lk4 lk5 0 0 rfl rfl 6 8 rfl rfl (Nat.le_of_ble_eq_true rfl) (Nat.le_of_ble_eq_true rfl) dX0_keepBox_25 rfl ?_
  exact hend _ _ _ _ (N, M, S, rl, rh, bl, bh, va_cpy bl kl 0 0 5, va_cpy bh kh 0 0 5, mn, vc, iv, sc) dX0_keepBox_28 (Nat.zero_le _) (Nat.zero_le _) rfl

set_option maxRecDepth 100000 in
set_option maxHeartbeats 4000000 in
theorem c0_restoreBox (l : Launch) (D : va_G) (K : Nat → ClassId) (a : Nat → Nat) (N : Nat) (M : Nat → Nat → Int32) (S : Nat → Nat → Int32) (rl : Nat → Int32) (rh : Nat → Int32) (bl : Nat → Int32) (bh : Nat → Int32) (kl : Nat → Int32) (kh : Nat → Int32) (mn : Nat → Int64) (vc : Nat → Int64) (iv : Nat → Nat → Int64) (sc : Int64) : mV l D K yX0_restoreBox wsX0_restoreBox 1 80 0 0 [.ref (a 0)] (w0 K a (N, M, S, rl, rh, bl, bh, kl, kh, mn, vc, iv, sc)) (fun u => u = (N, M, S, rl, rh, va_cpy kl bl 0 0 5, va_cpy kh bh 0 0 5, kl, kh, mn, vc, iv, sc)) (w0 K a) := by
  have hinX0 : ∀ w ∈ wsX00, w ∈ wsX0_restoreBox := by decide +kernel
  have lk0 : Cond.fieldLink RX0 30 "IntervalSolver" "keptLows" "[I" ∈ wsX0_restoreBox := by decide +kernel
  have lk1 : Cond.fieldLink RX0 24 "IntervalSolver" "boxLows" "[I" ∈ wsX0_restoreBox := by decide +kernel
  have lk2 : Cond.methodLink RX0 215 arraycopyName ∈ wsX0_restoreBox := by decide +kernel
  have lk3 : Cond.native arraycopyName ∈ wsX0_restoreBox := by decide +kernel
  have lk4 : Cond.static arraycopyName ∈ wsX0_restoreBox := by decide +kernel
  have lk5 : Cond.initialized "java/lang/System" ∈ wsX0_restoreBox := by decide +kernel
  have lk6 : Cond.fieldLink RX0 33 "IntervalSolver" "keptHighs" "[I" ∈ wsX0_restoreBox := by decide +kernel
  have lk7 : Cond.fieldLink RX0 27 "IntervalSolver" "boxHighs" "[I" ∈ wsX0_restoreBox := by decide +kernel
  refine z_met_v (cc := cX0_restoreBox) (maxL := 1) (own := RX0) (lv := [(0, .ref (a 0))]) (by decide) rfl rfl (Nat.le_of_ble_eq_true rfl) rfl ?_
  intro p e s m below meth c args Q A C hnm hend
  refine z_aload_n C dX0_restoreBox_0 0 rfl ?_
  refine z_get (cl := vwCl) (T := TX0) (N := 13) (ci := 0) (ref := "IntervalSolver") C hinX0 rfl 7 (by decide) lk0 rfl dX0_restoreBox_1 0 rfl rfl ?_
  refine z_iconst (v := 0) C dX0_restoreBox_4 (by decide) ?_
  refine z_aload_n C dX0_restoreBox_5 0 rfl ?_
  refine z_get (cl := vwCl) (T := TX0) (N := 13) (ci := 0) (ref := "IntervalSolver") C hinX0 rfl 5 (by decide) lk1 rfl dX0_restoreBox_6 0 rfl rfl ?_
  refine z_iconst (v := 0) C dX0_restoreBox_9 (by decide) ?_
  refine z_iconst (v := 5) C dX0_restoreBox_10 (by decide) ?_
  refine z_copyi (ws' := w0 K a (N, M, S, rl, rh, va_cpy kl bl 0 0 5, bh, kl, kh, mn, vc, iv, sc)) C lk2 lk3 lk4 lk5 0 0 rfl rfl 7 5 rfl rfl (Nat.le_of_ble_eq_true rfl) (Nat.le_of_ble_eq_true rfl) dX0_restoreBox_11 rfl ?_
  refine z_aload_n C dX0_restoreBox_14 0 rfl ?_
  refine z_get (cl := vwCl) (T := TX0) (N := 13) (ci := 0) (ref := "IntervalSolver") C hinX0 rfl 8 (by decide) lk6 rfl dX0_restoreBox_15 0 rfl rfl ?_
  refine z_iconst (v := 0) C dX0_restoreBox_18 (by decide) ?_
  refine z_aload_n C dX0_restoreBox_19 0 rfl ?_
  refine z_get (cl := vwCl) (T := TX0) (N := 13) (ci := 0) (ref := "IntervalSolver") C hinX0 rfl 6 (by decide) lk7 rfl dX0_restoreBox_20 0 rfl rfl ?_
  refine z_iconst (v := 0) C dX0_restoreBox_23 (by decide) ?_
  refine z_iconst (v := 5) C dX0_restoreBox_24 (by decide) ?_
  refine z_copyi (ws' := w0 K a (N, M, S, rl, rh, va_cpy kl bl 0 0 5, va_cpy kh bh 0 0 5, kl, kh, mn, vc, iv, sc)) C lk2 lk3 lk4 lk5 0 0 rfl rfl 8 6 rfl rfl (Nat.le_of_ble_eq_true rfl) (Nat.le_of_ble_eq_true rfl) dX0_restoreBox_25 rfl ?_
  exact hend _ _ _ _ (N, M, S, rl, rh, va_cpy kl bl 0 0 5, va_cpy kh bh 0 0 5, kl, kh, mn, vc, iv, sc) dX0_restoreBox_28 (Nat.zero_le _) (Nat.zero_le _) rfl

set_option maxRecDepth 100000 in
set_option maxHeartbeats 4000000 in
theorem c0_exchange (l : Launch) (D : va_G) (K : Nat → ClassId) (q n : Nat) (f : Nat → Int32) (i : Nat) (k : Nat) (hi : i < n) (hk : k < n) (hn : n ≤ 25) : mV l D K yX0_exchange wsX0_exchange 0 0 0 0 [.ref q, .int (nI i), .int (nI k)] ([(q, .inl (K 0, n, .inl (f)))]) (fun g => g = swpV f i k) (fun g : Nat → Int32 => [(q, .inl (K 0, n, .inl g))]) := by
  refine z_met_v (cc := cX0_exchange) (maxL := 4) (own := RX0) (lv := [(0, .ref q), (1, .int (nI i)), (2, .int (nI k))]) (by decide) rfl rfl (Nat.le_of_ble_eq_true rfl) rfl ?_
  intro p e s m below meth c args Q A C hnm hend
  refine z_aload_n C dX0_exchange_0 0 rfl ?_
  refine z_iload_n C dX0_exchange_1 1 rfl ?_
  refine z_iald C 0 rfl 0 rfl dX0_exchange_2 i rfl (by omega) (by omega) ?_
  refine z_istore_n (lv' := [(0, .ref q), (1, .int (nI i)), (2, .int (nI k)), (3, .int (f i))]) C dX0_exchange_3 (by decide) [1, 2, 3, 0] rfl ?_
  refine z_aload_n C dX0_exchange_4 0 rfl ?_
  refine z_iload_n C dX0_exchange_5 1 rfl ?_
  refine z_aload_n C dX0_exchange_6 0 rfl ?_
  refine z_iload_n C dX0_exchange_7 2 rfl ?_
  refine z_iald C 0 rfl 0 rfl dX0_exchange_8 k rfl (by omega) (by omega) ?_
  refine z_iast (ws' := [(q, .inl (K 0, n, .inl (upd f i (f k))))]) C 0 rfl 0 rfl dX0_exchange_9 i rfl (by omega) (by omega) rfl ?_
  refine z_aload_n C dX0_exchange_10 0 rfl ?_
  refine z_iload_n C dX0_exchange_11 2 rfl ?_
  refine z_iload_n C dX0_exchange_12 3 rfl ?_
  refine z_iast (ws' := [(q, .inl (K 0, n, .inl (upd (upd f i (f k)) k (f i))))]) C 0 rfl 0 rfl dX0_exchange_13 k rfl (by omega) (by omega) rfl ?_
  exact hend _ _ _ _ (upd (upd f i (f k)) k (f i)) dX0_exchange_14 (Nat.zero_le _) (Nat.zero_le _) rfl

set_option maxRecDepth 100000 in
set_option maxHeartbeats 4000000 in
theorem c0_invert (l : Launch) (D : va_G) (K : Nat → ClassId) (a : Nat → Nat) (N : Nat) (M : Nat → Nat → Int32) (S : Nat → Nat → Int32) (rl : Nat → Int32) (rh : Nat → Int32) (bl : Nat → Int32) (bh : Nat → Int32) (kl : Nat → Int32) (kh : Nat → Int32) (mn : Nat → Int64) (vc : Nat → Int64) (iv : Nat → Nat → Int64) (sc : Int64) (hN : N ≤ 5) : mI l D K yX0_invert wsX0_invert 3 71 0 0 [.ref (a 0)] (w0 K a (N, M, S, rl, rh, bl, bh, kl, kh, mn, vc, iv, sc)) (fun r u => (detM M N = 0 ∧ r = 0 ∧ ∃ mn1, u = (N, M, S, rl, rh, bl, bh, kl, kh, mn1, vc, iv, sc)) ∨ (¬ detM M N = 0 ∧ r = 1 ∧ ∃ mn1 iv1, (∀ i j, i < N → j < N → iv1 i j = ivF M N i j) ∧ u = (N, M, S, rl, rh, bl, bh, kl, kh, mn1, vc, iv1, absL (detM M N)))) (w0 K a) := by
  have hinX0 : ∀ w ∈ wsX00, w ∈ wsX0_invert := by decide +kernel
  have lk0 : Cond.methodLink RX0 148 Lib.MathLoose.abs_long.x ∈ wsX0_invert := by decide +kernel
  have lk1 : Cond.static Lib.MathLoose.abs_long.x ∈ wsX0_invert := by decide +kernel
  have lk2 : Cond.initialized "java/lang/Math" ∈ wsX0_invert := by decide +kernel
  have lk3 : Cond.code Lib.MathLoose.abs_long.x Lib.MathLoose.abs_long.code 2 (some .long) ∈ wsX0_invert := by decide +kernel
  have lk4 : Cond.fieldLink RX0 131 "IntervalSolver" "scale" "J" ∈ wsX0_invert := by decide +kernel
  have lk5 : Cond.fieldLink RX0 59 "IntervalSolver" "n" "I" ∈ wsX0_invert := by decide +kernel
  have lk6 : Cond.constantLong RX0 210 (-1) ∈ wsX0_invert := by decide +kernel
  have lk7 : Cond.fieldLink RX0 45 "IntervalSolver" "scaledInverse" "[[J" ∈ wsX0_invert := by decide +kernel
  have lk8 : Cond.fieldLink RX0 36 "IntervalSolver" "minors" "[J" ∈ wsX0_invert := by decide +kernel
  refine z_met_z (cc := cX0_invert) (maxL := 7) (own := RX0) (lv := [(0, .ref (a 0))]) (by decide) rfl rfl (Nat.le_of_ble_eq_true rfl) rfl ?_
  intro p e s m below meth c args Q A C hnm hend
  refine z_aload_n C dX0_invert_0 0 rfl ?_
  refine z_callVl_all (As := []) C (c0_determinant l D K a N M S rl rh bl bh kl kh mn vc iv sc (by omega)) (cwV 0 C.1.2.2.2.2 gX0_invert_X0_determinant rfl rfl rfl (by decide +kernel) ⟨Nat.le_of_ble_eq_true rfl, Nat.le_of_ble_eq_true rfl⟩) (ci := 0) rfl rfl 0 rfl dX0_invert_1 rfl rfl (Nat.le_of_ble_eq_true rfl) ⟨Nat.le_of_ble_eq_true rfl, Nat.le_of_ble_eq_true rfl⟩ (fun r1 u1 h1 => ?_)
  obtain ⟨rfl, mn_1, rfl⟩ := h1
  refine z_lstore_n (lv' := [(0, .ref (a 0)), (1, .long (detM M N))]) C dX0_invert_4 (by decide) [1, 0] rfl ?_
  refine z_lload_n C dX0_invert_5 1 rfl ?_
  refine z_lconst (v := 0) C dX0_invert_6 (by decide) ?_
  refine z_lcmp_ne (tgt := 13) C dX0_invert_7 dX0_invert_8 (by decide) (fun c7 => ?_) (fun c7 => ?_)
  · have hd : ¬ detM M N = 0 := c7
    have h2 := bt_p2 N (by omega)
    have h3 := bt_p1 N
    refine z_aload_n C dX0_invert_13 0 rfl ?_
    refine z_lload_n C dX0_invert_14 1 rfl ?_
    refine z_mabsL C lk0 lk1 lk2 lk3 (Nat.le_of_ble_eq_true rfl) (Nat.le_of_ble_eq_true rfl) (Nat.le_of_ble_eq_true rfl) (Nat.le_of_ble_eq_true rfl) dX0_invert_15 ?_
    refine z_topl (absL (detM M N)) rfl ?_
    refine z_put (cl := vwCl) (T := TX0) (N := 13) (ci := 0) (ref := "IntervalSolver") (ws' := w0 K a (N, M, S, rl, rh, bl, bh, kl, kh, mn_1, vc, iv, absL (detM M N))) C hinX0 tyX0 tyX0_ok nmX0 rfl 12 (by decide) lk4 rfl rfl rfl rfl dX0_invert_18 0 rfl (Nat.le_of_ble_eq_true rfl) rfl ?_
    refine z_iconst (v := 0) C dX0_invert_21 (by decide) ?_
    refine z_istore_n (lv' := [(0, .ref (a 0)), (1, .long (detM M N)), (3, .int 0)]) C dX0_invert_22 (by decide) [1, 2, 0] rfl ?_
    suffices L23 : ∀ (f23_i i : Nat) (mn2 : Nat → Int64), 0 ≤ i → i ≤ N → N < i + f23_i → zW p l e { frames := 3, cells := 0, slots := 0, locals := 71 } s m args below meth c Q 7 A s.heap D vwCl 0 0 (w0 K a (N, M, S, rl, rh, bl, bh, kl, kh, mn2, vc, ivI M N iv i, absL (detM M N))) 23 ([(0, .ref (a 0)), (1, .long (detM M N)), (3, .int (nI i))]) [] from L23 (N + 1) 0 mn_1 (Nat.le_refl _) (by omega) (by omega)
    intro f23_i
    induction f23_i with
    | zero => intro i mn2 h0 h1 h2; exact absurd h2 (by omega)
    | succ f23_i ih23_i =>
      intro i mn2 g23_0 g23_1 g23_2
      refine z_iload_n C dX0_invert_23 2 rfl ?_
      refine z_aload_n C dX0_invert_24 0 rfl ?_
      refine z_get (cl := vwCl) (T := TX0) (N := 13) (ci := 0) (ref := "IntervalSolver") C hinX0 rfl 0 (by decide) lk5 rfl dX0_invert_25 0 rfl rfl ?_
      refine z_icmp_ge (tgt := 125) C dX0_invert_28 (by decide) (fun c28 => ?_) (fun c28 => ?_)
      · have e28 : i = N := by have := (nI_leI (a := N) (b := i) (by omega) (by omega)).mp c28; omega
        rw [e28]
        refine z_iconst (v := 1) C dX0_invert_125 (by decide) ?_
        exact hend _ _ _ _ _ (N, M, S, rl, rh, bl, bh, kl, kh, mn2, vc, ivI M N iv N, absL (detM M N)) dX0_invert_126 (Nat.zero_le _) (Nat.zero_le _) (Or.inr rfl) (Or.inr ⟨hd, rfl, _, _, fun i j hi hj => ivI_at M N iv N i j hi hj, rfl⟩)
      · have e28 : i < N := by have := mt (nI_leI (a := N) (b := i) (by omega) (by omega)).mpr c28; omega
        refine z_aload_n C dX0_invert_31 0 rfl ?_
        refine z_iload_n C dX0_invert_32 2 rfl ?_
        refine z_callVv_all (As := [.int (nI i)]) C (c0_findMinors l D K a N M S rl rh bl bh kl kh mn2 vc (ivI M N iv i) (absL (detM M N)) i (by omega) (by omega)) (cwV 1 C.1.2.2.2.2 gX0_invert_X0_findMinors rfl rfl rfl (by decide +kernel) ⟨Nat.le_of_ble_eq_true rfl, Nat.le_of_ble_eq_true rfl⟩) (ci := 0) rfl rfl 0 rfl dX0_invert_33 rfl rfl (Nat.le_of_ble_eq_true rfl) ⟨Nat.le_of_ble_eq_true rfl, Nat.le_of_ble_eq_true rfl⟩ (fun u2 h2 => ?_)
        subst h2
        refine z_lload_n C dX0_invert_36 1 rfl ?_
        refine z_lconst (v := 0) C dX0_invert_37 (by decide) ?_
        refine z_lcmp_ge (tgt := 46) C dX0_invert_38 dX0_invert_39 (by decide) (fun c38 => ?_) (fun c38 => ?_)
        · have q36 : ¬ detM M N < 0 := c38
          refine z_iconst (v := 0) C dX0_invert_46 (by decide) ?_
          refine z_iload_n C dX0_invert_47 2 rfl ?_
          refine z_iconst (v := 2) C dX0_invert_48 (by decide) ?_
          refine z_irem C dX0_invert_49 (by decide) ?_
          refine z_if_ne (tgt := 57) C dX0_invert_50 (by decide) (fun c50 => ?_) (fun c50 => ?_)
          · have q50 : ¬ i % 2 = 0 := mt (i2r i (by omega)).mpr c50
            refine z_iconst (v := 0) C dX0_invert_57 (by decide) ?_
            refine z_icmp_ne (tgt := 67) C dX0_invert_58 (by decide) (fun c58 => ?_) (fun c58 => ?_)
            · exact absurd rfl c58
            · have hsg : (detM M N < 0 ↔ i % 2 = 0) := (by first | (simp only [q36, q50]; done) | (simp only [q36, q50]; decide))
              refine z_ldc2 C lk6 dX0_invert_61 ?_
              refine z_goto (tgt := 68) C dX0_invert_64 (by decide) ?_
              refine z_topl (sg0 (detM M N) i) (by unfold sg0; rw [if_pos hsg]) ?_
              refine z_lstore (lv' := [(0, .ref (a 0)), (1, .long (detM M N)), (3, .int (nI i)), (4, .long (sg0 (detM M N) i))]) C dX0_invert_68 (by decide) [1, 2, 3, 0] rfl ?_
              refine z_iconst (v := 0) C dX0_invert_70 (by decide) ?_
              refine z_istore (lv' := [(0, .ref (a 0)), (1, .long (detM M N)), (3, .int (nI i)), (4, .long (sg0 (detM M N) i)), (6, .int 0)]) C dX0_invert_71 (by decide) [1, 2, 3, 4, 0] rfl ?_
              suffices L73 : ∀ (f73_j j : Nat), 0 ≤ j → j ≤ N → N < j + f73_j → zW p l e { frames := 3, cells := 0, slots := 0, locals := 71 } s m args below meth c Q 7 A s.heap D vwCl 0 0 (w0 K a (N, M, S, rl, rh, bl, bh, kl, kh, mnG M mn2 N i (2 ^ N - 1), vc, ivJ M N (sg0 (detM M N) i) i (ivI M N iv i) j, absL (detM M N))) 73 ([(0, .ref (a 0)), (1, .long (detM M N)), (3, .int (nI i)), (4, .long (sgS (sg0 (detM M N) i) j)), (6, .int (nI j))]) [] from L73 (N + 1) 0 (Nat.le_refl _) (by omega) (by omega)
              intro f73_j
              induction f73_j with
              | zero => intro j h0 h1 h2; exact absurd h2 (by omega)
              | succ f73_j ih73_j =>
                intro j g73_0 g73_1 g73_2
                refine z_iload C dX0_invert_73 4 rfl ?_
                refine z_aload_n C dX0_invert_75 0 rfl ?_
                refine z_get (cl := vwCl) (T := TX0) (N := 13) (ci := 0) (ref := "IntervalSolver") C hinX0 rfl 0 (by decide) lk5 rfl dX0_invert_76 0 rfl rfl ?_
                refine z_icmp_ge (tgt := 119) C dX0_invert_79 (by decide) (fun c79 => ?_) (fun c79 => ?_)
                · have e79 : j = N := by have := (nI_leI (a := N) (b := j) (by omega) (by omega)).mp c79; omega
                  rw [e79]
                  refine z_iinc (v := nI (i + 1)) (lv' := [(0, .ref (a 0)), (1, .long (detM M N)), (3, .int (nI (i + 1))), (4, .long (sgS (sg0 (detM M N) i) N)), (6, .int (nI N))]) C dX0_invert_119 (k := 2) rfl (nI_1 i) (by decide) [1, 2, 0, 3, 4] rfl ?_
                  refine z_goto (tgt := 23) C dX0_invert_122 (by decide) ?_
                  refine z_lv (lv' := [(0, .ref (a 0)), (1, .long (detM M N)), (3, .int (nI (i + 1)))]) [0, 1, 2] rfl ?_
                  exact ih23_i (i + 1) (mnG M mn2 N i (2 ^ N - 1)) (by omega) (by omega) (by omega)
                · have e79 : j < N := by have := mt (nI_leI (a := N) (b := j) (by omega) (by omega)).mpr c79; omega
                  refine z_aload_n C dX0_invert_82 0 rfl ?_
                  refine z_get (cl := vwCl) (T := TX0) (N := 13) (ci := 0) (ref := "IntervalSolver") C hinX0 rfl 11 (by decide) lk7 rfl dX0_invert_83 0 rfl rfl ?_
                  refine z_iload C dX0_invert_86 4 rfl ?_
                  refine z_aald (y := a (22 + j)) C 3 rfl 11 rfl dX0_invert_88 j rfl (by omega) (by decide) (if_pos (by omega)) ?_
                  refine z_iload_n C dX0_invert_89 2 rfl ?_
                  refine z_lload C dX0_invert_90 3 rfl ?_
                  refine z_aload_n C dX0_invert_92 0 rfl ?_
                  refine z_get (cl := vwCl) (T := TX0) (N := 13) (ci := 0) (ref := "IntervalSolver") C hinX0 rfl 9 (by decide) lk8 rfl dX0_invert_93 0 rfl rfl ?_
                  refine z_aload_n C dX0_invert_96 0 rfl ?_
                  refine z_callVi_all (As := []) C (c0_allColumns l D K a N M S rl rh bl bh kl kh (mnG M mn2 N i (2 ^ N - 1)) vc (ivJ M N (sg0 (detM M N) i) i (ivI M N iv i) j) (absL (detM M N)) (by omega)) (cwV 0 C.1.2.2.2.2 gX0_invert_X0_allColumns rfl rfl rfl (by decide +kernel) ⟨Nat.le_of_ble_eq_true rfl, Nat.le_of_ble_eq_true rfl⟩) (ci := 0) rfl rfl 0 rfl dX0_invert_97 rfl rfl (Nat.le_of_ble_eq_true rfl) ⟨Nat.le_of_ble_eq_true rfl, Nat.le_of_ble_eq_true rfl⟩ (fun r3 u3 h3 => ?_)
                  obtain ⟨rfl, rfl⟩ := h3
                  refine z_iconst (v := 1) C dX0_invert_100 (by decide) ?_
                  refine z_iload C dX0_invert_101 4 rfl ?_
                  refine z_ishl C dX0_invert_103 ?_
                  refine z_topi (nI (2 ^ j)) (bt_shl _ (by omega)) ?_
                  refine z_ixor C dX0_invert_104 ?_
                  refine z_topi (nI ((2 ^ N - 1) ^^^ 2 ^ j)) (bt_xor _ (by omega) _ (by omega)) ?_
                  refine z_lald C 1 rfl 9 rfl dX0_invert_105 ((2 ^ N - 1) ^^^ 2 ^ j) rfl (bt_xlt _ (by omega) _ (by omega)) (by decide) ?_
                  refine z_topl (mnF M N i ((2 ^ N - 1) ^^^ 2 ^ j)) (mnG_congr M _ _ N i _ _ (Nat.le_of_lt (xor_lt_of_bit (by rw [Nat.testBit_two_pow_sub_one]; simpa using e79)))) ?_
                  refine z_lmul C dX0_invert_106 ?_
                  refine z_last (ws' := w0 K a (N, M, S, rl, rh, bl, bh, kl, kh, mnG M mn2 N i (2 ^ N - 1), vc, up2 (ivJ M N (sg0 (detM M N) i) i (ivI M N iv i) j) j i ((sgS (sg0 (detM M N) i) j) * (mnF M N i ((2 ^ N - 1) ^^^ 2 ^ j))), absL (detM M N))) C 1 rfl (22 + j) (w0_atV (by omega)) dX0_invert_107 i rfl (by omega) (by decide) (w0_setV i ((sgS (sg0 (detM M N) i) j) * (mnF M N i ((2 ^ N - 1) ^^^ 2 ^ j))) (by omega)) ?_
                  refine z_lload C dX0_invert_108 3 rfl ?_
                  refine z_lneg C dX0_invert_110 ?_
                  refine z_lstore (lv' := [(0, .ref (a 0)), (1, .long (detM M N)), (3, .int (nI i)), (4, .long (-(sgS (sg0 (detM M N) i) j))), (6, .int (nI j))]) C dX0_invert_111 (by decide) [1, 2, 3, 0, 4] rfl ?_
                  refine z_iinc (v := nI (j + 1)) (lv' := [(0, .ref (a 0)), (1, .long (detM M N)), (3, .int (nI i)), (4, .long (-(sgS (sg0 (detM M N) i) j))), (6, .int (nI (j + 1)))]) C dX0_invert_113 (k := 4) rfl (nI_1 j) (by decide) [1, 2, 3, 4, 0] rfl ?_
                  refine z_goto (tgt := 73) C dX0_invert_116 (by decide) ?_
                  exact ih73_j (j + 1) (by omega) (by omega) (by omega)
          · have q50 : i % 2 = 0 := (i2r i (by omega)).mp c50
            refine z_iconst (v := 1) C dX0_invert_53 (by decide) ?_
            refine z_goto (tgt := 58) C dX0_invert_54 (by decide) ?_
            refine z_icmp_ne (tgt := 67) C dX0_invert_58 (by decide) (fun c58 => ?_) (fun c58 => ?_)
            · have hsg : ¬ (detM M N < 0 ↔ i % 2 = 0) := (by first | (simp only [q36, q50]; done) | (simp only [q36, q50]; decide))
              refine z_lconst (v := 1) C dX0_invert_67 (by decide) ?_
              refine z_topl (sg0 (detM M N) i) (by unfold sg0; rw [if_neg hsg]) ?_
              refine z_lstore (lv' := [(0, .ref (a 0)), (1, .long (detM M N)), (3, .int (nI i)), (4, .long (sg0 (detM M N) i))]) C dX0_invert_68 (by decide) [1, 2, 3, 0] rfl ?_
              refine z_iconst (v := 0) C dX0_invert_70 (by decide) ?_
              refine z_istore (lv' := [(0, .ref (a 0)), (1, .long (detM M N)), (3, .int (nI i)), (4, .long (sg0 (detM M N) i)), (6, .int 0)]) C dX0_invert_71 (by decide) [1, 2, 3, 4, 0] rfl ?_
              suffices L73 : ∀ (f73_j j : Nat), 0 ≤ j → j ≤ N → N < j + f73_j → zW p l e { frames := 3, cells := 0, slots := 0, locals := 71 } s m args below meth c Q 7 A s.heap D vwCl 0 0 (w0 K a (N, M, S, rl, rh, bl, bh, kl, kh, mnG M mn2 N i (2 ^ N - 1), vc, ivJ M N (sg0 (detM M N) i) i (ivI M N iv i) j, absL (detM M N))) 73 ([(0, .ref (a 0)), (1, .long (detM M N)), (3, .int (nI i)), (4, .long (sgS (sg0 (detM M N) i) j)), (6, .int (nI j))]) [] from L73 (N + 1) 0 (Nat.le_refl _) (by omega) (by omega)
              intro f73_j
              induction f73_j with
              | zero => intro j h0 h1 h2; exact absurd h2 (by omega)
              | succ f73_j ih73_j =>
                intro j g73_0 g73_1 g73_2
                refine z_iload C dX0_invert_73 4 rfl ?_
                refine z_aload_n C dX0_invert_75 0 rfl ?_
                refine z_get (cl := vwCl) (T := TX0) (N := 13) (ci := 0) (ref := "IntervalSolver") C hinX0 rfl 0 (by decide) lk5 rfl dX0_invert_76 0 rfl rfl ?_
                refine z_icmp_ge (tgt := 119) C dX0_invert_79 (by decide) (fun c79 => ?_) (fun c79 => ?_)
                · have e79 : j = N := by have := (nI_leI (a := N) (b := j) (by omega) (by omega)).mp c79; omega
                  rw [e79]
                  refine z_iinc (v := nI (i + 1)) (lv' := [(0, .ref (a 0)), (1, .long (detM M N)), (3, .int (nI (i + 1))), (4, .long (sgS (sg0 (detM M N) i) N)), (6, .int (nI N))]) C dX0_invert_119 (k := 2) rfl (nI_1 i) (by decide) [1, 2, 0, 3, 4] rfl ?_
                  refine z_goto (tgt := 23) C dX0_invert_122 (by decide) ?_
                  refine z_lv (lv' := [(0, .ref (a 0)), (1, .long (detM M N)), (3, .int (nI (i + 1)))]) [0, 1, 2] rfl ?_
                  exact ih23_i (i + 1) (mnG M mn2 N i (2 ^ N - 1)) (by omega) (by omega) (by omega)
                · have e79 : j < N := by have := mt (nI_leI (a := N) (b := j) (by omega) (by omega)).mpr c79; omega
                  refine z_aload_n C dX0_invert_82 0 rfl ?_
                  refine z_get (cl := vwCl) (T := TX0) (N := 13) (ci := 0) (ref := "IntervalSolver") C hinX0 rfl 11 (by decide) lk7 rfl dX0_invert_83 0 rfl rfl ?_
                  refine z_iload C dX0_invert_86 4 rfl ?_
                  refine z_aald (y := a (22 + j)) C 3 rfl 11 rfl dX0_invert_88 j rfl (by omega) (by decide) (if_pos (by omega)) ?_
                  refine z_iload_n C dX0_invert_89 2 rfl ?_
                  refine z_lload C dX0_invert_90 3 rfl ?_
                  refine z_aload_n C dX0_invert_92 0 rfl ?_
                  refine z_get (cl := vwCl) (T := TX0) (N := 13) (ci := 0) (ref := "IntervalSolver") C hinX0 rfl 9 (by decide) lk8 rfl dX0_invert_93 0 rfl rfl ?_
                  refine z_aload_n C dX0_invert_96 0 rfl ?_
                  refine z_callVi_all (As := []) C (c0_allColumns l D K a N M S rl rh bl bh kl kh (mnG M mn2 N i (2 ^ N - 1)) vc (ivJ M N (sg0 (detM M N) i) i (ivI M N iv i) j) (absL (detM M N)) (by omega)) (cwV 0 C.1.2.2.2.2 gX0_invert_X0_allColumns rfl rfl rfl (by decide +kernel) ⟨Nat.le_of_ble_eq_true rfl, Nat.le_of_ble_eq_true rfl⟩) (ci := 0) rfl rfl 0 rfl dX0_invert_97 rfl rfl (Nat.le_of_ble_eq_true rfl) ⟨Nat.le_of_ble_eq_true rfl, Nat.le_of_ble_eq_true rfl⟩ (fun r4 u4 h4 => ?_)
                  obtain ⟨rfl, rfl⟩ := h4
                  refine z_iconst (v := 1) C dX0_invert_100 (by decide) ?_
                  refine z_iload C dX0_invert_101 4 rfl ?_
                  refine z_ishl C dX0_invert_103 ?_
                  refine z_topi (nI (2 ^ j)) (bt_shl _ (by omega)) ?_
                  refine z_ixor C dX0_invert_104 ?_
                  refine z_topi (nI ((2 ^ N - 1) ^^^ 2 ^ j)) (bt_xor _ (by omega) _ (by omega)) ?_
                  refine z_lald C 1 rfl 9 rfl dX0_invert_105 ((2 ^ N - 1) ^^^ 2 ^ j) rfl (bt_xlt _ (by omega) _ (by omega)) (by decide) ?_
                  refine z_topl (mnF M N i ((2 ^ N - 1) ^^^ 2 ^ j)) (mnG_congr M _ _ N i _ _ (Nat.le_of_lt (xor_lt_of_bit (by rw [Nat.testBit_two_pow_sub_one]; simpa using e79)))) ?_
                  refine z_lmul C dX0_invert_106 ?_
                  refine z_last (ws' := w0 K a (N, M, S, rl, rh, bl, bh, kl, kh, mnG M mn2 N i (2 ^ N - 1), vc, up2 (ivJ M N (sg0 (detM M N) i) i (ivI M N iv i) j) j i ((sgS (sg0 (detM M N) i) j) * (mnF M N i ((2 ^ N - 1) ^^^ 2 ^ j))), absL (detM M N))) C 1 rfl (22 + j) (w0_atV (by omega)) dX0_invert_107 i rfl (by omega) (by decide) (w0_setV i ((sgS (sg0 (detM M N) i) j) * (mnF M N i ((2 ^ N - 1) ^^^ 2 ^ j))) (by omega)) ?_
                  refine z_lload C dX0_invert_108 3 rfl ?_
                  refine z_lneg C dX0_invert_110 ?_
                  refine z_lstore (lv' := [(0, .ref (a 0)), (1, .long (detM M N)), (3, .int (nI i)), (4, .long (-(sgS (sg0 (detM M N) i) j))), (6, .int (nI j))]) C dX0_invert_111 (by decide) [1, 2, 3, 0, 4] rfl ?_
                  refine z_iinc (v := nI (j + 1)) (lv' := [(0, .ref (a 0)), (1, .long (detM M N)), (3, .int (nI i)), (4, .long (-(sgS (sg0 (detM M N) i) j))), (6, .int (nI (j + 1)))]) C dX0_invert_113 (k := 4) rfl (nI_1 j) (by decide) [1, 2, 3, 4, 0] rfl ?_
                  refine z_goto (tgt := 73) C dX0_invert_116 (by decide) ?_
                  exact ih73_j (j + 1) (by omega) (by omega) (by omega)
            · exact absurd c58 (by decide)
        · have q36 : detM M N < 0 := c38
          refine z_iconst (v := 1) C dX0_invert_42 (by decide) ?_
          refine z_goto (tgt := 47) C dX0_invert_43 (by decide) ?_
          refine z_iload_n C dX0_invert_47 2 rfl ?_
          refine z_iconst (v := 2) C dX0_invert_48 (by decide) ?_
          refine z_irem C dX0_invert_49 (by decide) ?_
          refine z_if_ne (tgt := 57) C dX0_invert_50 (by decide) (fun c50 => ?_) (fun c50 => ?_)
          · have q50 : ¬ i % 2 = 0 := mt (i2r i (by omega)).mpr c50
            refine z_iconst (v := 0) C dX0_invert_57 (by decide) ?_
            refine z_icmp_ne (tgt := 67) C dX0_invert_58 (by decide) (fun c58 => ?_) (fun c58 => ?_)
            · have hsg : ¬ (detM M N < 0 ↔ i % 2 = 0) := (by first | (simp only [q36, q50]; done) | (simp only [q36, q50]; decide))
              refine z_lconst (v := 1) C dX0_invert_67 (by decide) ?_
              refine z_topl (sg0 (detM M N) i) (by unfold sg0; rw [if_neg hsg]) ?_
              refine z_lstore (lv' := [(0, .ref (a 0)), (1, .long (detM M N)), (3, .int (nI i)), (4, .long (sg0 (detM M N) i))]) C dX0_invert_68 (by decide) [1, 2, 3, 0] rfl ?_
              refine z_iconst (v := 0) C dX0_invert_70 (by decide) ?_
              refine z_istore (lv' := [(0, .ref (a 0)), (1, .long (detM M N)), (3, .int (nI i)), (4, .long (sg0 (detM M N) i)), (6, .int 0)]) C dX0_invert_71 (by decide) [1, 2, 3, 4, 0] rfl ?_
              suffices L73 : ∀ (f73_j j : Nat), 0 ≤ j → j ≤ N → N < j + f73_j → zW p l e { frames := 3, cells := 0, slots := 0, locals := 71 } s m args below meth c Q 7 A s.heap D vwCl 0 0 (w0 K a (N, M, S, rl, rh, bl, bh, kl, kh, mnG M mn2 N i (2 ^ N - 1), vc, ivJ M N (sg0 (detM M N) i) i (ivI M N iv i) j, absL (detM M N))) 73 ([(0, .ref (a 0)), (1, .long (detM M N)), (3, .int (nI i)), (4, .long (sgS (sg0 (detM M N) i) j)), (6, .int (nI j))]) [] from L73 (N + 1) 0 (Nat.le_refl _) (by omega) (by omega)
              intro f73_j
              induction f73_j with
              | zero => intro j h0 h1 h2; exact absurd h2 (by omega)
              | succ f73_j ih73_j =>
                intro j g73_0 g73_1 g73_2
                refine z_iload C dX0_invert_73 4 rfl ?_
                refine z_aload_n C dX0_invert_75 0 rfl ?_
                refine z_get (cl := vwCl) (T := TX0) (N := 13) (ci := 0) (ref := "IntervalSolver") C hinX0 rfl 0 (by decide) lk5 rfl dX0_invert_76 0 rfl rfl ?_
                refine z_icmp_ge (tgt := 119) C dX0_invert_79 (by decide) (fun c79 => ?_) (fun c79 => ?_)
                · have e79 : j = N := by have := (nI_leI (a := N) (b := j) (by omega) (by omega)).mp c79; omega
                  rw [e79]
                  refine z_iinc (v := nI (i + 1)) (lv' := [(0, .ref (a 0)), (1, .long (detM M N)), (3, .int (nI (i + 1))), (4, .long (sgS (sg0 (detM M N) i) N)), (6, .int (nI N))]) C dX0_invert_119 (k := 2) rfl (nI_1 i) (by decide) [1, 2, 0, 3, 4] rfl ?_
                  refine z_goto (tgt := 23) C dX0_invert_122 (by decide) ?_
                  refine z_lv (lv' := [(0, .ref (a 0)), (1, .long (detM M N)), (3, .int (nI (i + 1)))]) [0, 1, 2] rfl ?_
                  exact ih23_i (i + 1) (mnG M mn2 N i (2 ^ N - 1)) (by omega) (by omega) (by omega)
                · have e79 : j < N := by have := mt (nI_leI (a := N) (b := j) (by omega) (by omega)).mpr c79; omega
                  refine z_aload_n C dX0_invert_82 0 rfl ?_
                  refine z_get (cl := vwCl) (T := TX0) (N := 13) (ci := 0) (ref := "IntervalSolver") C hinX0 rfl 11 (by decide) lk7 rfl dX0_invert_83 0 rfl rfl ?_
                  refine z_iload C dX0_invert_86 4 rfl ?_
                  refine z_aald (y := a (22 + j)) C 3 rfl 11 rfl dX0_invert_88 j rfl (by omega) (by decide) (if_pos (by omega)) ?_
                  refine z_iload_n C dX0_invert_89 2 rfl ?_
                  refine z_lload C dX0_invert_90 3 rfl ?_
                  refine z_aload_n C dX0_invert_92 0 rfl ?_
                  refine z_get (cl := vwCl) (T := TX0) (N := 13) (ci := 0) (ref := "IntervalSolver") C hinX0 rfl 9 (by decide) lk8 rfl dX0_invert_93 0 rfl rfl ?_
                  refine z_aload_n C dX0_invert_96 0 rfl ?_
                  refine z_callVi_all (As := []) C (c0_allColumns l D K a N M S rl rh bl bh kl kh (mnG M mn2 N i (2 ^ N - 1)) vc (ivJ M N (sg0 (detM M N) i) i (ivI M N iv i) j) (absL (detM M N)) (by omega)) (cwV 0 C.1.2.2.2.2 gX0_invert_X0_allColumns rfl rfl rfl (by decide +kernel) ⟨Nat.le_of_ble_eq_true rfl, Nat.le_of_ble_eq_true rfl⟩) (ci := 0) rfl rfl 0 rfl dX0_invert_97 rfl rfl (Nat.le_of_ble_eq_true rfl) ⟨Nat.le_of_ble_eq_true rfl, Nat.le_of_ble_eq_true rfl⟩ (fun r5 u5 h5 => ?_)
                  obtain ⟨rfl, rfl⟩ := h5
                  refine z_iconst (v := 1) C dX0_invert_100 (by decide) ?_
                  refine z_iload C dX0_invert_101 4 rfl ?_
                  refine z_ishl C dX0_invert_103 ?_
                  refine z_topi (nI (2 ^ j)) (bt_shl _ (by omega)) ?_
                  refine z_ixor C dX0_invert_104 ?_
                  refine z_topi (nI ((2 ^ N - 1) ^^^ 2 ^ j)) (bt_xor _ (by omega) _ (by omega)) ?_
                  refine z_lald C 1 rfl 9 rfl dX0_invert_105 ((2 ^ N - 1) ^^^ 2 ^ j) rfl (bt_xlt _ (by omega) _ (by omega)) (by decide) ?_
                  refine z_topl (mnF M N i ((2 ^ N - 1) ^^^ 2 ^ j)) (mnG_congr M _ _ N i _ _ (Nat.le_of_lt (xor_lt_of_bit (by rw [Nat.testBit_two_pow_sub_one]; simpa using e79)))) ?_
                  refine z_lmul C dX0_invert_106 ?_
                  refine z_last (ws' := w0 K a (N, M, S, rl, rh, bl, bh, kl, kh, mnG M mn2 N i (2 ^ N - 1), vc, up2 (ivJ M N (sg0 (detM M N) i) i (ivI M N iv i) j) j i ((sgS (sg0 (detM M N) i) j) * (mnF M N i ((2 ^ N - 1) ^^^ 2 ^ j))), absL (detM M N))) C 1 rfl (22 + j) (w0_atV (by omega)) dX0_invert_107 i rfl (by omega) (by decide) (w0_setV i ((sgS (sg0 (detM M N) i) j) * (mnF M N i ((2 ^ N - 1) ^^^ 2 ^ j))) (by omega)) ?_
                  refine z_lload C dX0_invert_108 3 rfl ?_
                  refine z_lneg C dX0_invert_110 ?_
                  refine z_lstore (lv' := [(0, .ref (a 0)), (1, .long (detM M N)), (3, .int (nI i)), (4, .long (-(sgS (sg0 (detM M N) i) j))), (6, .int (nI j))]) C dX0_invert_111 (by decide) [1, 2, 3, 0, 4] rfl ?_
                  refine z_iinc (v := nI (j + 1)) (lv' := [(0, .ref (a 0)), (1, .long (detM M N)), (3, .int (nI i)), (4, .long (-(sgS (sg0 (detM M N) i) j))), (6, .int (nI (j + 1)))]) C dX0_invert_113 (k := 4) rfl (nI_1 j) (by decide) [1, 2, 3, 4, 0] rfl ?_
                  refine z_goto (tgt := 73) C dX0_invert_116 (by decide) ?_
                  exact ih73_j (j + 1) (by omega) (by omega) (by omega)
            · exact absurd c58 (by decide)
          · have q50 : i % 2 = 0 := (i2r i (by omega)).mp c50
            refine z_iconst (v := 1) C dX0_invert_53 (by decide) ?_
            refine z_goto (tgt := 58) C dX0_invert_54 (by decide) ?_
            refine z_icmp_ne (tgt := 67) C dX0_invert_58 (by decide) (fun c58 => ?_) (fun c58 => ?_)
            · exact absurd rfl c58
            · have hsg : (detM M N < 0 ↔ i % 2 = 0) := (by first | (simp only [q36, q50]; done) | (simp only [q36, q50]; decide))
              refine z_ldc2 C lk6 dX0_invert_61 ?_
              refine z_goto (tgt := 68) C dX0_invert_64 (by decide) ?_
              refine z_topl (sg0 (detM M N) i) (by unfold sg0; rw [if_pos hsg]) ?_
              refine z_lstore (lv' := [(0, .ref (a 0)), (1, .long (detM M N)), (3, .int (nI i)), (4, .long (sg0 (detM M N) i))]) C dX0_invert_68 (by decide) [1, 2, 3, 0] rfl ?_
              refine z_iconst (v := 0) C dX0_invert_70 (by decide) ?_
              refine z_istore (lv' := [(0, .ref (a 0)), (1, .long (detM M N)), (3, .int (nI i)), (4, .long (sg0 (detM M N) i)), (6, .int 0)]) C dX0_invert_71 (by decide) [1, 2, 3, 4, 0] rfl ?_
              suffices L73 : ∀ (f73_j j : Nat), 0 ≤ j → j ≤ N → N < j + f73_j → zW p l e { frames := 3, cells := 0, slots := 0, locals := 71 } s m args below meth c Q 7 A s.heap D vwCl 0 0 (w0 K a (N, M, S, rl, rh, bl, bh, kl, kh, mnG M mn2 N i (2 ^ N - 1), vc, ivJ M N (sg0 (detM M N) i) i (ivI M N iv i) j, absL (detM M N))) 73 ([(0, .ref (a 0)), (1, .long (detM M N)), (3, .int (nI i)), (4, .long (sgS (sg0 (detM M N) i) j)), (6, .int (nI j))]) [] from L73 (N + 1) 0 (Nat.le_refl _) (by omega) (by omega)
              intro f73_j
              induction f73_j with
              | zero => intro j h0 h1 h2; exact absurd h2 (by omega)
              | succ f73_j ih73_j =>
                intro j g73_0 g73_1 g73_2
                refine z_iload C dX0_invert_73 4 rfl ?_
                refine z_aload_n C dX0_invert_75 0 rfl ?_
                refine z_get (cl := vwCl) (T := TX0) (N := 13) (ci := 0) (ref := "IntervalSolver") C hinX0 rfl 0 (by decide) lk5 rfl dX0_invert_76 0 rfl rfl ?_
                refine z_icmp_ge (tgt := 119) C dX0_invert_79 (by decide) (fun c79 => ?_) (fun c79 => ?_)
                · have e79 : j = N := by have := (nI_leI (a := N) (b := j) (by omega) (by omega)).mp c79; omega
                  rw [e79]
                  refine z_iinc (v := nI (i + 1)) (lv' := [(0, .ref (a 0)), (1, .long (detM M N)), (3, .int (nI (i + 1))), (4, .long (sgS (sg0 (detM M N) i) N)), (6, .int (nI N))]) C dX0_invert_119 (k := 2) rfl (nI_1 i) (by decide) [1, 2, 0, 3, 4] rfl ?_
                  refine z_goto (tgt := 23) C dX0_invert_122 (by decide) ?_
                  refine z_lv (lv' := [(0, .ref (a 0)), (1, .long (detM M N)), (3, .int (nI (i + 1)))]) [0, 1, 2] rfl ?_
                  exact ih23_i (i + 1) (mnG M mn2 N i (2 ^ N - 1)) (by omega) (by omega) (by omega)
                · have e79 : j < N := by have := mt (nI_leI (a := N) (b := j) (by omega) (by omega)).mpr c79; omega
                  refine z_aload_n C dX0_invert_82 0 rfl ?_
                  refine z_get (cl := vwCl) (T := TX0) (N := 13) (ci := 0) (ref := "IntervalSolver") C hinX0 rfl 11 (by decide) lk7 rfl dX0_invert_83 0 rfl rfl ?_
                  refine z_iload C dX0_invert_86 4 rfl ?_
                  refine z_aald (y := a (22 + j)) C 3 rfl 11 rfl dX0_invert_88 j rfl (by omega) (by decide) (if_pos (by omega)) ?_
                  refine z_iload_n C dX0_invert_89 2 rfl ?_
                  refine z_lload C dX0_invert_90 3 rfl ?_
                  refine z_aload_n C dX0_invert_92 0 rfl ?_
                  refine z_get (cl := vwCl) (T := TX0) (N := 13) (ci := 0) (ref := "IntervalSolver") C hinX0 rfl 9 (by decide) lk8 rfl dX0_invert_93 0 rfl rfl ?_
                  refine z_aload_n C dX0_invert_96 0 rfl ?_
                  refine z_callVi_all (As := []) C (c0_allColumns l D K a N M S rl rh bl bh kl kh (mnG M mn2 N i (2 ^ N - 1)) vc (ivJ M N (sg0 (detM M N) i) i (ivI M N iv i) j) (absL (detM M N)) (by omega)) (cwV 0 C.1.2.2.2.2 gX0_invert_X0_allColumns rfl rfl rfl (by decide +kernel) ⟨Nat.le_of_ble_eq_true rfl, Nat.le_of_ble_eq_true rfl⟩) (ci := 0) rfl rfl 0 rfl dX0_invert_97 rfl rfl (Nat.le_of_ble_eq_true rfl) ⟨Nat.le_of_ble_eq_true rfl, Nat.le_of_ble_eq_true rfl⟩ (fun r6 u6 h6 => ?_)
                  obtain ⟨rfl, rfl⟩ := h6
                  refine z_iconst (v := 1) C dX0_invert_100 (by decide) ?_
                  refine z_iload C dX0_invert_101 4 rfl ?_
                  refine z_ishl C dX0_invert_103 ?_
                  refine z_topi (nI (2 ^ j)) (bt_shl _ (by omega)) ?_
                  refine z_ixor C dX0_invert_104 ?_
                  refine z_topi (nI ((2 ^ N - 1) ^^^ 2 ^ j)) (bt_xor _ (by omega) _ (by omega)) ?_
                  refine z_lald C 1 rfl 9 rfl dX0_invert_105 ((2 ^ N - 1) ^^^ 2 ^ j) rfl (bt_xlt _ (by omega) _ (by omega)) (by decide) ?_
                  refine z_topl (mnF M N i ((2 ^ N - 1) ^^^ 2 ^ j)) (mnG_congr M _ _ N i _ _ (Nat.le_of_lt (xor_lt_of_bit (by rw [Nat.testBit_two_pow_sub_one]; simpa using e79)))) ?_
                  refine z_lmul C dX0_invert_106 ?_
                  refine z_last (ws' := w0 K a (N, M, S, rl, rh, bl, bh, kl, kh, mnG M mn2 N i (2 ^ N - 1), vc, up2 (ivJ M N (sg0 (detM M N) i) i (ivI M N iv i) j) j i ((sgS (sg0 (detM M N) i) j) * (mnF M N i ((2 ^ N - 1) ^^^ 2 ^ j))), absL (detM M N))) C 1 rfl (22 + j) (w0_atV (by omega)) dX0_invert_107 i rfl (by omega) (by decide) (w0_setV i ((sgS (sg0 (detM M N) i) j) * (mnF M N i ((2 ^ N - 1) ^^^ 2 ^ j))) (by omega)) ?_
                  refine z_lload C dX0_invert_108 3 rfl ?_
                  refine z_lneg C dX0_invert_110 ?_
                  refine z_lstore (lv' := [(0, .ref (a 0)), (1, .long (detM M N)), (3, .int (nI i)), (4, .long (-(sgS (sg0 (detM M N) i) j))), (6, .int (nI j))]) C dX0_invert_111 (by decide) [1, 2, 3, 0, 4] rfl ?_
                  refine z_iinc (v := nI (j + 1)) (lv' := [(0, .ref (a 0)), (1, .long (detM M N)), (3, .int (nI i)), (4, .long (-(sgS (sg0 (detM M N) i) j))), (6, .int (nI (j + 1)))]) C dX0_invert_113 (k := 4) rfl (nI_1 j) (by decide) [1, 2, 3, 4, 0] rfl ?_
                  refine z_goto (tgt := 73) C dX0_invert_116 (by decide) ?_
                  exact ih73_j (j + 1) (by omega) (by omega) (by omega)
  · refine z_iconst (v := 0) C dX0_invert_11 (by decide) ?_
    exact hend _ _ _ _ _ (N, M, S, rl, rh, bl, bh, kl, kh, mn_1, vc, iv, sc) dX0_invert_12 (Nat.zero_le _) (Nat.zero_le _) (Or.inl rfl) (Or.inl ⟨c7, rfl, _, rfl⟩)

set_option maxRecDepth 100000 in
set_option maxHeartbeats 4000000 in
theorem c0_intersect (l : Launch) (D : va_G) (K : Nat → ClassId) (a : Nat → Nat) (N : Nat) (M : Nat → Nat → Int32) (S : Nat → Nat → Int32) (rl : Nat → Int32) (rh : Nat → Int32) (bl : Nat → Int32) (bh : Nat → Int32) (kl : Nat → Int32) (kh : Nat → Int32) (mn : Nat → Int64) (vc : Nat → Int64) (iv : Nat → Nat → Int64) (sc : Int64) (i : Nat) (p1 : Int64) (p2 : Int64) (hi : i < 5) : mI l D K yX0_intersect wsX0_intersect 1 30 0 0 [.ref (a 0), .int (nI i), .long p1, .long p2] (w0 K a (N, M, S, rl, rh, bl, bh, kl, kh, mn, vc, iv, sc)) (fun r u => r = itR p1 p2 bl bh i ∧ u = (N, M, S, rl, rh, (itB p1 p2 bl bh i).1, (itB p1 p2 bl bh i).2, kl, kh, mn, vc, iv, sc)) (w0 K a) := by
  have hinX0 : ∀ w ∈ wsX00, w ∈ wsX0_intersect := by decide +kernel
  have lk0 : Cond.fieldLink RX0 24 "IntervalSolver" "boxLows" "[I" ∈ wsX0_intersect := by decide +kernel
  have lk1 : Cond.methodLink RX0 151 Lib.MathLoose.max_long.x ∈ wsX0_intersect := by decide +kernel
  have lk2 : Cond.static Lib.MathLoose.max_long.x ∈ wsX0_intersect := by decide +kernel
  have lk3 : Cond.initialized "java/lang/Math" ∈ wsX0_intersect := by decide +kernel
  have lk4 : Cond.code Lib.MathLoose.max_long.x Lib.MathLoose.max_long.code 4 (some .long) ∈ wsX0_intersect := by decide +kernel
  have lk5 : Cond.fieldLink RX0 27 "IntervalSolver" "boxHighs" "[I" ∈ wsX0_intersect := by decide +kernel
  have lk6 : Cond.methodLink RX0 229 Lib.MathLoose.min_long.x ∈ wsX0_intersect := by decide +kernel
  have lk7 : Cond.static Lib.MathLoose.min_long.x ∈ wsX0_intersect := by decide +kernel
  have lk8 : Cond.code Lib.MathLoose.min_long.x Lib.MathLoose.min_long.code 4 (some .long) ∈ wsX0_intersect := by decide +kernel
  refine z_met_i (cc := cX0_intersect) (maxL := 11) (own := RX0) (lv := [(0, .ref (a 0)), (1, .int (nI i)), (2, .long p1), (4, .long p2)]) (by decide) rfl rfl (Nat.le_of_ble_eq_true rfl) rfl ?_
  intro p e s m below meth c args Q A C hnm hend
  refine z_lload_n C dX0_intersect_0 2 rfl ?_
  refine z_aload_n C dX0_intersect_1 0 rfl ?_
  refine z_get (cl := vwCl) (T := TX0) (N := 13) (ci := 0) (ref := "IntervalSolver") C hinX0 rfl 5 (by decide) lk0 rfl dX0_intersect_2 0 rfl rfl ?_
  refine z_iload_n C dX0_intersect_5 1 rfl ?_
  refine z_iald C 0 rfl 5 rfl dX0_intersect_6 i rfl (by omega) (by decide) ?_
  refine z_i2l C dX0_intersect_7 ?_
  refine z_mmaxL C lk1 lk2 lk3 lk4 (Nat.le_of_ble_eq_true rfl) (Nat.le_of_ble_eq_true rfl) (Nat.le_of_ble_eq_true rfl) (Nat.le_of_ble_eq_true rfl) dX0_intersect_8 ?_
  refine z_topl (itL p1 bl i) rfl ?_
  refine z_lstore (lv' := [(0, .ref (a 0)), (1, .int (nI i)), (2, .long p1), (4, .long p2), (6, .long (itL p1 bl i))]) C dX0_intersect_11 (by decide) [1, 2, 3, 4, 0] rfl ?_
  refine z_lload C dX0_intersect_13 3 rfl ?_
  refine z_aload_n C dX0_intersect_15 0 rfl ?_
  refine z_get (cl := vwCl) (T := TX0) (N := 13) (ci := 0) (ref := "IntervalSolver") C hinX0 rfl 6 (by decide) lk5 rfl dX0_intersect_16 0 rfl rfl ?_
  refine z_iload_n C dX0_intersect_19 1 rfl ?_
  refine z_iald C 0 rfl 6 rfl dX0_intersect_20 i rfl (by omega) (by decide) ?_
  refine z_i2l C dX0_intersect_21 ?_
  refine z_mminL C lk6 lk7 lk3 lk8 (Nat.le_of_ble_eq_true rfl) (Nat.le_of_ble_eq_true rfl) (Nat.le_of_ble_eq_true rfl) (Nat.le_of_ble_eq_true rfl) dX0_intersect_22 ?_
  refine z_topl (itH p2 bh i) rfl ?_
  refine z_lstore (lv' := [(0, .ref (a 0)), (1, .int (nI i)), (2, .long p1), (4, .long p2), (6, .long (itL p1 bl i)), (8, .long (itH p2 bh i))]) C dX0_intersect_25 (by decide) [1, 2, 3, 4, 5, 0] rfl ?_
  refine z_lload C dX0_intersect_27 4 rfl ?_
  refine z_lload C dX0_intersect_29 5 rfl ?_
  refine z_lcmp_le (tgt := 37) C dX0_intersect_31 dX0_intersect_32 (by decide) (fun c31 => ?_) (fun c31 => ?_)
  · refine z_lload C dX0_intersect_37 4 rfl ?_
    refine z_aload_n C dX0_intersect_39 0 rfl ?_
    refine z_get (cl := vwCl) (T := TX0) (N := 13) (ci := 0) (ref := "IntervalSolver") C hinX0 rfl 5 (by decide) lk0 rfl dX0_intersect_40 0 rfl rfl ?_
    refine z_iload_n C dX0_intersect_43 1 rfl ?_
    refine z_iald C 0 rfl 5 rfl dX0_intersect_44 i rfl (by omega) (by decide) ?_
    refine z_i2l C dX0_intersect_45 ?_
    refine z_lcmp_ne (tgt := 63) C dX0_intersect_46 dX0_intersect_47 (by decide) (fun c46 => ?_) (fun c46 => ?_)
    · refine z_iconst (v := 1) C dX0_intersect_63 (by decide) ?_
      refine z_goto (tgt := 68) C dX0_intersect_64 (by decide) ?_
      refine z_istore (lv' := [(0, .ref (a 0)), (1, .int (nI i)), (2, .long p1), (4, .long p2), (6, .long (itL p1 bl i)), (8, .long (itH p2 bh i)), (10, .int 1)]) C dX0_intersect_68 (by decide) [1, 2, 3, 4, 5, 6, 0] rfl ?_
      refine z_aload_n C dX0_intersect_70 0 rfl ?_
      refine z_get (cl := vwCl) (T := TX0) (N := 13) (ci := 0) (ref := "IntervalSolver") C hinX0 rfl 5 (by decide) lk0 rfl dX0_intersect_71 0 rfl rfl ?_
      refine z_iload_n C dX0_intersect_74 1 rfl ?_
      refine z_lload C dX0_intersect_75 4 rfl ?_
      refine z_l2i C dX0_intersect_77 ?_
      refine z_iast (ws' := w0 K a (N, M, S, rl, rh, upd bl i ((itL p1 bl i).toInt32), bh, kl, kh, mn, vc, iv, sc)) C 0 rfl 5 rfl dX0_intersect_78 i rfl (by omega) (by decide) rfl ?_
      refine z_aload_n C dX0_intersect_79 0 rfl ?_
      refine z_get (cl := vwCl) (T := TX0) (N := 13) (ci := 0) (ref := "IntervalSolver") C hinX0 rfl 6 (by decide) lk5 rfl dX0_intersect_80 0 rfl rfl ?_
      refine z_iload_n C dX0_intersect_83 1 rfl ?_
      refine z_lload C dX0_intersect_84 5 rfl ?_
      refine z_l2i C dX0_intersect_86 ?_
      refine z_iast (ws' := w0 K a (N, M, S, rl, rh, upd bl i ((itL p1 bl i).toInt32), upd bh i ((itH p2 bh i).toInt32), kl, kh, mn, vc, iv, sc)) C 0 rfl 6 rfl dX0_intersect_87 i rfl (by omega) (by decide) rfl ?_
      refine z_iload C dX0_intersect_88 6 rfl ?_
      refine z_if_eq (tgt := 97) C dX0_intersect_90 (by decide) (fun c90 => ?_) (fun c90 => ?_)
      · exact absurd c90 (by decide)
      · refine z_iconst (v := 1) C dX0_intersect_93 (by decide) ?_
        refine z_goto (tgt := 98) C dX0_intersect_94 (by decide) ?_
        exact hend _ _ _ _ _ (N, M, S, rl, rh, upd bl i ((itL p1 bl i).toInt32), upd bh i ((itH p2 bh i).toInt32), kl, kh, mn, vc, iv, sc) dX0_intersect_98 (Nat.zero_le _) (Nat.zero_le _) ⟨by unfold itR; rw [if_neg c31, if_neg (by rintro ⟨h1, h2⟩; first | exact c46 h1 | exact c59 h2)], by unfold itB; rw [if_neg c31]⟩
    · refine z_lload C dX0_intersect_50 5 rfl ?_
      refine z_aload_n C dX0_intersect_52 0 rfl ?_
      refine z_get (cl := vwCl) (T := TX0) (N := 13) (ci := 0) (ref := "IntervalSolver") C hinX0 rfl 6 (by decide) lk5 rfl dX0_intersect_53 0 rfl rfl ?_
      refine z_iload_n C dX0_intersect_56 1 rfl ?_
      refine z_iald C 0 rfl 6 rfl dX0_intersect_57 i rfl (by omega) (by decide) ?_
      refine z_i2l C dX0_intersect_58 ?_
      refine z_lcmp_eq (tgt := 67) C dX0_intersect_59 dX0_intersect_60 (by decide) (fun c59 => ?_) (fun c59 => ?_)
      · refine z_iconst (v := 0) C dX0_intersect_67 (by decide) ?_
        refine z_istore (lv' := [(0, .ref (a 0)), (1, .int (nI i)), (2, .long p1), (4, .long p2), (6, .long (itL p1 bl i)), (8, .long (itH p2 bh i)), (10, .int 0)]) C dX0_intersect_68 (by decide) [1, 2, 3, 4, 5, 6, 0] rfl ?_
        refine z_aload_n C dX0_intersect_70 0 rfl ?_
        refine z_get (cl := vwCl) (T := TX0) (N := 13) (ci := 0) (ref := "IntervalSolver") C hinX0 rfl 5 (by decide) lk0 rfl dX0_intersect_71 0 rfl rfl ?_
        refine z_iload_n C dX0_intersect_74 1 rfl ?_
        refine z_lload C dX0_intersect_75 4 rfl ?_
        refine z_l2i C dX0_intersect_77 ?_
        refine z_iast (ws' := w0 K a (N, M, S, rl, rh, upd bl i ((itL p1 bl i).toInt32), bh, kl, kh, mn, vc, iv, sc)) C 0 rfl 5 rfl dX0_intersect_78 i rfl (by omega) (by decide) rfl ?_
        refine z_aload_n C dX0_intersect_79 0 rfl ?_
        refine z_get (cl := vwCl) (T := TX0) (N := 13) (ci := 0) (ref := "IntervalSolver") C hinX0 rfl 6 (by decide) lk5 rfl dX0_intersect_80 0 rfl rfl ?_
        refine z_iload_n C dX0_intersect_83 1 rfl ?_
        refine z_lload C dX0_intersect_84 5 rfl ?_
        refine z_l2i C dX0_intersect_86 ?_
        refine z_iast (ws' := w0 K a (N, M, S, rl, rh, upd bl i ((itL p1 bl i).toInt32), upd bh i ((itH p2 bh i).toInt32), kl, kh, mn, vc, iv, sc)) C 0 rfl 6 rfl dX0_intersect_87 i rfl (by omega) (by decide) rfl ?_
        refine z_iload C dX0_intersect_88 6 rfl ?_
        refine z_if_eq (tgt := 97) C dX0_intersect_90 (by decide) (fun c90 => ?_) (fun c90 => ?_)
        · refine z_iconst (v := 0) C dX0_intersect_97 (by decide) ?_
          exact hend _ _ _ _ _ (N, M, S, rl, rh, upd bl i ((itL p1 bl i).toInt32), upd bh i ((itH p2 bh i).toInt32), kl, kh, mn, vc, iv, sc) dX0_intersect_98 (Nat.zero_le _) (Nat.zero_le _) ⟨by unfold itR; rw [if_neg c31, if_pos ⟨c46, c59⟩], by unfold itB; rw [if_neg c31]⟩
        · exact absurd rfl c90
      · refine z_iconst (v := 1) C dX0_intersect_63 (by decide) ?_
        refine z_goto (tgt := 68) C dX0_intersect_64 (by decide) ?_
        refine z_istore (lv' := [(0, .ref (a 0)), (1, .int (nI i)), (2, .long p1), (4, .long p2), (6, .long (itL p1 bl i)), (8, .long (itH p2 bh i)), (10, .int 1)]) C dX0_intersect_68 (by decide) [1, 2, 3, 4, 5, 6, 0] rfl ?_
        refine z_aload_n C dX0_intersect_70 0 rfl ?_
        refine z_get (cl := vwCl) (T := TX0) (N := 13) (ci := 0) (ref := "IntervalSolver") C hinX0 rfl 5 (by decide) lk0 rfl dX0_intersect_71 0 rfl rfl ?_
        refine z_iload_n C dX0_intersect_74 1 rfl ?_
        refine z_lload C dX0_intersect_75 4 rfl ?_
        refine z_l2i C dX0_intersect_77 ?_
        refine z_iast (ws' := w0 K a (N, M, S, rl, rh, upd bl i ((itL p1 bl i).toInt32), bh, kl, kh, mn, vc, iv, sc)) C 0 rfl 5 rfl dX0_intersect_78 i rfl (by omega) (by decide) rfl ?_
        refine z_aload_n C dX0_intersect_79 0 rfl ?_
        refine z_get (cl := vwCl) (T := TX0) (N := 13) (ci := 0) (ref := "IntervalSolver") C hinX0 rfl 6 (by decide) lk5 rfl dX0_intersect_80 0 rfl rfl ?_
        refine z_iload_n C dX0_intersect_83 1 rfl ?_
        refine z_lload C dX0_intersect_84 5 rfl ?_
        refine z_l2i C dX0_intersect_86 ?_
        refine z_iast (ws' := w0 K a (N, M, S, rl, rh, upd bl i ((itL p1 bl i).toInt32), upd bh i ((itH p2 bh i).toInt32), kl, kh, mn, vc, iv, sc)) C 0 rfl 6 rfl dX0_intersect_87 i rfl (by omega) (by decide) rfl ?_
        refine z_iload C dX0_intersect_88 6 rfl ?_
        refine z_if_eq (tgt := 97) C dX0_intersect_90 (by decide) (fun c90 => ?_) (fun c90 => ?_)
        · exact absurd c90 (by decide)
        · refine z_iconst (v := 1) C dX0_intersect_93 (by decide) ?_
          refine z_goto (tgt := 98) C dX0_intersect_94 (by decide) ?_
          exact hend _ _ _ _ _ (N, M, S, rl, rh, upd bl i ((itL p1 bl i).toInt32), upd bh i ((itH p2 bh i).toInt32), kl, kh, mn, vc, iv, sc) dX0_intersect_98 (Nat.zero_le _) (Nat.zero_le _) ⟨by unfold itR; rw [if_neg c31, if_neg (by rintro ⟨h1, h2⟩; first | exact c46 h1 | exact c59 h2)], by unfold itB; rw [if_neg c31]⟩
  · refine z_iconst (v := -1) C dX0_intersect_35 (by decide) ?_
    exact hend _ _ _ _ _ (N, M, S, rl, rh, bl, bh, kl, kh, mn, vc, iv, sc) dX0_intersect_36 (Nat.zero_le _) (Nat.zero_le _) ⟨by unfold itR; rw [if_pos c31], by unfold itB; rw [if_pos c31]⟩

set_option maxRecDepth 100000 in
set_option maxHeartbeats 4000000 in
theorem c0_contractBy (l : Launch) (D : va_G) (K : Nat → ClassId) (a : Nat → Nat) (N : Nat) (M : Nat → Nat → Int32) (S : Nat → Nat → Int32) (rl : Nat → Int32) (rh : Nat → Int32) (bl : Nat → Int32) (bh : Nat → Int32) (kl : Nat → Int32) (kh : Nat → Int32) (mn : Nat → Int64) (vc : Nat → Int64) (iv : Nat → Nat → Int64) (sc : Int64) (i : Nat) (hi : i < N) (hN : N ≤ 5) : mI l D K yX0_contractBy wsX0_contractBy 3 71 0 0 [.ref (a 0), .int (nI i)] (w0 K a (N, M, S, rl, rh, bl, bh, kl, kh, mn, vc, iv, sc)) (fun r u => r = itR (cbLo N M rl rh bl bh i) (cbHi N M rl rh bl bh i) bl bh i ∧ u = (N, M, S, rl, rh, (itB (cbLo N M rl rh bl bh i) (cbHi N M rl rh bl bh i) bl bh i).1, (itB (cbLo N M rl rh bl bh i) (cbHi N M rl rh bl bh i) bl bh i).2, kl, kh, mn, vc, iv, sc)) (w0 K a) := by
  have hinX0 : ∀ w ∈ wsX00, w ∈ wsX0_contractBy := by decide +kernel
  have lk0 : Cond.constantLong RX0 221 (1024) ∈ wsX0_contractBy := by decide +kernel
  have lk1 : Cond.fieldLink RX0 17 "IntervalSolver" "rightLows" "[I" ∈ wsX0_contractBy := by decide +kernel
  have lk2 : Cond.fieldLink RX0 21 "IntervalSolver" "rightHighs" "[I" ∈ wsX0_contractBy := by decide +kernel
  have lk3 : Cond.fieldLink RX0 59 "IntervalSolver" "n" "I" ∈ wsX0_contractBy := by decide +kernel
  have lk4 : Cond.fieldLink RX0 11 "IntervalSolver" "coefficients" "[[I" ∈ wsX0_contractBy := by decide +kernel
  have lk5 : Cond.fieldLink RX0 27 "IntervalSolver" "boxHighs" "[I" ∈ wsX0_contractBy := by decide +kernel
  have lk6 : Cond.fieldLink RX0 24 "IntervalSolver" "boxLows" "[I" ∈ wsX0_contractBy := by decide +kernel
  refine z_met_i (cc := cX0_contractBy) (maxL := 9) (own := RX0) (lv := [(0, .ref (a 0)), (1, .int (nI i))]) (by decide) rfl rfl (Nat.le_of_ble_eq_true rfl) rfl ?_
  intro p e s m below meth c args Q A C hnm hend
  refine z_ldc2 C lk0 dX0_contractBy_0 ?_
  refine z_aload_n C dX0_contractBy_3 0 rfl ?_
  refine z_get (cl := vwCl) (T := TX0) (N := 13) (ci := 0) (ref := "IntervalSolver") C hinX0 rfl 3 (by decide) lk1 rfl dX0_contractBy_4 0 rfl rfl ?_
  refine z_iload_n C dX0_contractBy_7 1 rfl ?_
  refine z_iald C 0 rfl 3 rfl dX0_contractBy_8 i rfl (by omega) (by decide) ?_
  refine z_i2l C dX0_contractBy_9 ?_
  refine z_lmul C dX0_contractBy_10 ?_
  refine z_lstore_n (lv' := [(0, .ref (a 0)), (1, .int (nI i)), (2, .long (1024 * ((rl i).toInt64)))]) C dX0_contractBy_11 (by decide) [1, 2, 0] rfl ?_
  refine z_ldc2 C lk0 dX0_contractBy_12 ?_
  refine z_aload_n C dX0_contractBy_15 0 rfl ?_
  refine z_get (cl := vwCl) (T := TX0) (N := 13) (ci := 0) (ref := "IntervalSolver") C hinX0 rfl 4 (by decide) lk2 rfl dX0_contractBy_16 0 rfl rfl ?_
  refine z_iload_n C dX0_contractBy_19 1 rfl ?_
  refine z_iald C 0 rfl 4 rfl dX0_contractBy_20 i rfl (by omega) (by decide) ?_
  refine z_i2l C dX0_contractBy_21 ?_
  refine z_lmul C dX0_contractBy_22 ?_
  refine z_lstore (lv' := [(0, .ref (a 0)), (1, .int (nI i)), (2, .long (1024 * ((rl i).toInt64))), (4, .long (1024 * ((rh i).toInt64)))]) C dX0_contractBy_23 (by decide) [1, 2, 3, 0] rfl ?_
  refine z_iconst (v := 0) C dX0_contractBy_25 (by decide) ?_
  refine z_istore (lv' := [(0, .ref (a 0)), (1, .int (nI i)), (2, .long (1024 * ((rl i).toInt64))), (4, .long (1024 * ((rh i).toInt64))), (6, .int 0)]) C dX0_contractBy_26 (by decide) [1, 2, 3, 4, 0] rfl ?_
  suffices L28 : ∀ (f28_j j : Nat), 0 ≤ j → j ≤ N → N < j + f28_j → zW p l e { frames := 3, cells := 0, slots := 0, locals := 71 } s m args below meth c Q 9 A s.heap D vwCl 0 0 (w0 K a (N, M, S, rl, rh, bl, bh, kl, kh, mn, vc, iv, sc)) 28 ([(0, .ref (a 0)), (1, .int (nI i)), (2, .long (cbS M rl bl bh i j)), (4, .long (cbS M rh bh bl i j)), (6, .int (nI j))]) [] from L28 (N + 1) 0 (Nat.le_refl _) (by omega) (by omega)
  intro f28_j
  induction f28_j with
  | zero => intro j h0 h1 h2; exact absurd h2 (by omega)
  | succ f28_j ih28_j =>
    intro j g28_0 g28_1 g28_2
    refine z_iload C dX0_contractBy_28 4 rfl ?_
    refine z_aload_n C dX0_contractBy_30 0 rfl ?_
    refine z_get (cl := vwCl) (T := TX0) (N := 13) (ci := 0) (ref := "IntervalSolver") C hinX0 rfl 0 (by decide) lk3 rfl dX0_contractBy_31 0 rfl rfl ?_
    refine z_icmp_ge (tgt := 125) C dX0_contractBy_34 (by decide) (fun c34 => ?_) (fun c34 => ?_)
    · have e34 : j = N := by have := (nI_leI (a := N) (b := j) (by omega) (by omega)).mp c34; omega
      rw [e34]
      refine z_aload_n C dX0_contractBy_125 0 rfl ?_
      refine z_get (cl := vwCl) (T := TX0) (N := 13) (ci := 0) (ref := "IntervalSolver") C hinX0 rfl 1 (by decide) lk4 rfl dX0_contractBy_126 0 rfl rfl ?_
      refine z_iload_n C dX0_contractBy_129 1 rfl ?_
      refine z_aald (y := a (12 + i)) C 2 rfl 1 rfl dX0_contractBy_130 i rfl (by omega) (by decide) (if_pos (by omega)) ?_
      refine z_iload_n C dX0_contractBy_131 1 rfl ?_
      refine z_iald C 0 rfl (12 + i) (w0_atM (by omega)) dX0_contractBy_132 i rfl (by omega) (by decide) ?_
      refine z_i2l C dX0_contractBy_133 ?_
      refine z_lstore (lv' := [(0, .ref (a 0)), (1, .int (nI i)), (2, .long (cbS M rl bl bh i N)), (4, .long (cbS M rh bh bl i N)), (6, .long ((M i i).toInt64))]) C dX0_contractBy_134 (by decide) [1, 2, 3, 4, 0] rfl ?_
      refine z_lload C dX0_contractBy_136 4 rfl ?_
      refine z_lconst (v := 0) C dX0_contractBy_138 (by decide) ?_
      refine z_lcmp_ge (tgt := 164) C dX0_contractBy_139 dX0_contractBy_140 (by decide) (fun c139 => ?_) (fun c139 => ?_)
      · refine z_aload_n C dX0_contractBy_164 0 rfl ?_
        refine z_iload_n C dX0_contractBy_165 1 rfl ?_
        refine z_lload_n C dX0_contractBy_166 2 rfl ?_
        refine z_lload C dX0_contractBy_167 4 rfl ?_
        refine z_callSl_none (As := [.long (cbS M rl bl bh i N), .long ((M i i).toInt64)]) C (c0_quotientDown l D K (cbS M rl bl bh i N) ((M i i).toInt64)) (va_cwS 2 C.1.2.2.2.2 gX0_contractBy_X0_quotientDown rfl rfl rfl (by decide +kernel) ⟨Nat.le_of_ble_eq_true rfl, Nat.le_of_ble_eq_true rfl⟩) dX0_contractBy_169 rfl rfl (Nat.le_of_ble_eq_true rfl) ⟨Nat.le_of_ble_eq_true rfl, Nat.le_of_ble_eq_true rfl⟩ (fun r1 u1 h1 => ?_)
        subst h1
        refine z_topl (cbLo N M rl rh bl bh i) (by unfold cbLo; rw [if_neg c139]) ?_
        refine z_lload C dX0_contractBy_172 3 rfl ?_
        refine z_lload C dX0_contractBy_174 4 rfl ?_
        refine z_callSl_none (As := [.long (cbS M rh bh bl i N), .long ((M i i).toInt64)]) C (c0_quotientUp l D K (cbS M rh bh bl i N) ((M i i).toInt64)) (va_cwS 2 C.1.2.2.2.2 gX0_contractBy_X0_quotientUp rfl rfl rfl (by decide +kernel) ⟨Nat.le_of_ble_eq_true rfl, Nat.le_of_ble_eq_true rfl⟩) dX0_contractBy_176 rfl rfl (Nat.le_of_ble_eq_true rfl) ⟨Nat.le_of_ble_eq_true rfl, Nat.le_of_ble_eq_true rfl⟩ (fun r2 u2 h2 => ?_)
        subst h2
        refine z_topl (cbHi N M rl rh bl bh i) (by unfold cbHi; rw [if_neg c139]) ?_
        refine z_callVi_all (As := [.int (nI i), .long (cbLo N M rl rh bl bh i), .long (cbHi N M rl rh bl bh i)]) C (c0_intersect l D K a N M S rl rh bl bh kl kh mn vc iv sc i (cbLo N M rl rh bl bh i) (cbHi N M rl rh bl bh i) (by omega)) (cwV 3 C.1.2.2.2.2 gX0_contractBy_X0_intersect rfl rfl rfl (by decide +kernel) ⟨Nat.le_of_ble_eq_true rfl, Nat.le_of_ble_eq_true rfl⟩) (ci := 0) rfl rfl 0 rfl dX0_contractBy_179 rfl rfl (Nat.le_of_ble_eq_true rfl) ⟨Nat.le_of_ble_eq_true rfl, Nat.le_of_ble_eq_true rfl⟩ (fun r3 u3 h3 => ?_)
        obtain ⟨rfl, rfl⟩ := h3
        exact hend _ _ _ _ _ (N, M, S, rl, rh, (itB (cbLo N M rl rh bl bh i) (cbHi N M rl rh bl bh i) bl bh i).1, (itB (cbLo N M rl rh bl bh i) (cbHi N M rl rh bl bh i) bl bh i).2, kl, kh, mn, vc, iv, sc) dX0_contractBy_182 (Nat.zero_le _) (Nat.zero_le _) ⟨rfl, rfl⟩
      · refine z_aload_n C dX0_contractBy_143 0 rfl ?_
        refine z_iload_n C dX0_contractBy_144 1 rfl ?_
        refine z_lload C dX0_contractBy_145 3 rfl ?_
        refine z_lload C dX0_contractBy_147 4 rfl ?_
        refine z_callSl_none (As := [.long (cbS M rh bh bl i N), .long ((M i i).toInt64)]) C (c0_quotientDown l D K (cbS M rh bh bl i N) ((M i i).toInt64)) (va_cwS 2 C.1.2.2.2.2 gX0_contractBy_X0_quotientDown rfl rfl rfl (by decide +kernel) ⟨Nat.le_of_ble_eq_true rfl, Nat.le_of_ble_eq_true rfl⟩) dX0_contractBy_149 rfl rfl (Nat.le_of_ble_eq_true rfl) ⟨Nat.le_of_ble_eq_true rfl, Nat.le_of_ble_eq_true rfl⟩ (fun r4 u4 h4 => ?_)
        subst h4
        refine z_topl (cbLo N M rl rh bl bh i) (by unfold cbLo; rw [if_pos c139]) ?_
        refine z_lload_n C dX0_contractBy_152 2 rfl ?_
        refine z_lload C dX0_contractBy_153 4 rfl ?_
        refine z_callSl_none (As := [.long (cbS M rl bl bh i N), .long ((M i i).toInt64)]) C (c0_quotientUp l D K (cbS M rl bl bh i N) ((M i i).toInt64)) (va_cwS 2 C.1.2.2.2.2 gX0_contractBy_X0_quotientUp rfl rfl rfl (by decide +kernel) ⟨Nat.le_of_ble_eq_true rfl, Nat.le_of_ble_eq_true rfl⟩) dX0_contractBy_155 rfl rfl (Nat.le_of_ble_eq_true rfl) ⟨Nat.le_of_ble_eq_true rfl, Nat.le_of_ble_eq_true rfl⟩ (fun r5 u5 h5 => ?_)
        subst h5
        refine z_topl (cbHi N M rl rh bl bh i) (by unfold cbHi; rw [if_pos c139]) ?_
        refine z_callVi_all (As := [.int (nI i), .long (cbLo N M rl rh bl bh i), .long (cbHi N M rl rh bl bh i)]) C (c0_intersect l D K a N M S rl rh bl bh kl kh mn vc iv sc i (cbLo N M rl rh bl bh i) (cbHi N M rl rh bl bh i) (by omega)) (cwV 3 C.1.2.2.2.2 gX0_contractBy_X0_intersect rfl rfl rfl (by decide +kernel) ⟨Nat.le_of_ble_eq_true rfl, Nat.le_of_ble_eq_true rfl⟩) (ci := 0) rfl rfl 0 rfl dX0_contractBy_158 rfl rfl (Nat.le_of_ble_eq_true rfl) ⟨Nat.le_of_ble_eq_true rfl, Nat.le_of_ble_eq_true rfl⟩ (fun r6 u6 h6 => ?_)
        obtain ⟨rfl, rfl⟩ := h6
        refine z_goto (tgt := 182) C dX0_contractBy_161 (by decide) ?_
        exact hend _ _ _ _ _ (N, M, S, rl, rh, (itB (cbLo N M rl rh bl bh i) (cbHi N M rl rh bl bh i) bl bh i).1, (itB (cbLo N M rl rh bl bh i) (cbHi N M rl rh bl bh i) bl bh i).2, kl, kh, mn, vc, iv, sc) dX0_contractBy_182 (Nat.zero_le _) (Nat.zero_le _) ⟨rfl, rfl⟩
    · have e34 : j < N := by have := mt (nI_leI (a := N) (b := j) (by omega) (by omega)).mpr c34; omega
      refine z_iload C dX0_contractBy_37 4 rfl ?_
      refine z_iload_n C dX0_contractBy_39 1 rfl ?_
      refine z_icmp_eq (tgt := 119) C dX0_contractBy_40 (by decide) (fun c40 => ?_) (fun c40 => ?_)
      · have e40 : j = i := (nI_eq (by omega) (by omega)).mp c40
        rw [show cbS M rl bl bh i j = cbS M rl bl bh i (j + 1) from (if_pos e40).symm, show cbS M rh bh bl i j = cbS M rh bh bl i (j + 1) from (if_pos e40).symm]
        refine z_iinc (v := nI (j + 1)) (lv' := [(0, .ref (a 0)), (1, .int (nI i)), (2, .long (cbS M rl bl bh i (j + 1))), (4, .long (cbS M rh bh bl i (j + 1))), (6, .int (nI (j + 1)))]) C dX0_contractBy_119 (k := 4) rfl (nI_1 j) (by decide) [1, 2, 3, 4, 0] rfl ?_
        refine z_goto (tgt := 28) C dX0_contractBy_122 (by decide) ?_
        exact ih28_j (j + 1) (by omega) (by omega) (by omega)
      · have e40 : ¬ j = i := fun q => c40 (by rw [q])
        refine z_aload_n C dX0_contractBy_43 0 rfl ?_
        refine z_get (cl := vwCl) (T := TX0) (N := 13) (ci := 0) (ref := "IntervalSolver") C hinX0 rfl 1 (by decide) lk4 rfl dX0_contractBy_44 0 rfl rfl ?_
        refine z_iload_n C dX0_contractBy_47 1 rfl ?_
        refine z_aald (y := a (12 + i)) C 2 rfl 1 rfl dX0_contractBy_48 i rfl (by omega) (by decide) (if_pos (by omega)) ?_
        refine z_iload C dX0_contractBy_49 4 rfl ?_
        refine z_iald C 0 rfl (12 + i) (w0_atM (by omega)) dX0_contractBy_51 j rfl (by omega) (by decide) ?_
        refine z_i2l C dX0_contractBy_52 ?_
        refine z_lstore (lv' := [(0, .ref (a 0)), (1, .int (nI i)), (2, .long (cbS M rl bl bh i j)), (4, .long (cbS M rh bh bl i j)), (6, .int (nI j)), (7, .long ((M i j).toInt64))]) C dX0_contractBy_53 (by decide) [1, 2, 3, 4, 5, 0] rfl ?_
        refine z_lload_n C dX0_contractBy_55 2 rfl ?_
        refine z_lload C dX0_contractBy_56 5 rfl ?_
        refine z_lload C dX0_contractBy_58 5 rfl ?_
        refine z_lconst (v := 0) C dX0_contractBy_60 (by decide) ?_
        refine z_lcmp_ge (tgt := 75) C dX0_contractBy_61 dX0_contractBy_62 (by decide) (fun c61 => ?_) (fun c61 => ?_)
        · refine z_aload_n C dX0_contractBy_75 0 rfl ?_
          refine z_get (cl := vwCl) (T := TX0) (N := 13) (ci := 0) (ref := "IntervalSolver") C hinX0 rfl 6 (by decide) lk5 rfl dX0_contractBy_76 0 rfl rfl ?_
          refine z_iload C dX0_contractBy_79 4 rfl ?_
          refine z_iald C 0 rfl 6 rfl dX0_contractBy_81 j rfl (by omega) (by decide) ?_
          refine z_i2l C dX0_contractBy_82 ?_
          refine z_lmul C dX0_contractBy_83 ?_
          refine z_lsub C dX0_contractBy_84 ?_
          refine z_topl (cbS M rl bl bh i (j + 1)) (by show _ = if j = i then cbS M rl bl bh i j else cbS M rl bl bh i j - (M i j).toInt64 * (if (M i j).toInt64 < 0 then bl j else bh j).toInt64; rw [if_neg e40]; first | rw [if_pos c61] | rw [if_neg c61]) ?_
          refine z_lstore_n (lv' := [(0, .ref (a 0)), (1, .int (nI i)), (2, .long (cbS M rl bl bh i (j + 1))), (4, .long (cbS M rh bh bl i j)), (6, .int (nI j)), (7, .long ((M i j).toInt64))]) C dX0_contractBy_85 (by decide) [1, 2, 0, 3, 4, 5] rfl ?_
          refine z_lload C dX0_contractBy_86 3 rfl ?_
          refine z_lload C dX0_contractBy_88 5 rfl ?_
          refine z_lload C dX0_contractBy_90 5 rfl ?_
          refine z_lconst (v := 0) C dX0_contractBy_92 (by decide) ?_
          refine z_lcmp_ge (tgt := 107) C dX0_contractBy_93 dX0_contractBy_94 (by decide) (fun c93 => ?_) (fun c93 => ?_)
          · refine z_aload_n C dX0_contractBy_107 0 rfl ?_
            refine z_get (cl := vwCl) (T := TX0) (N := 13) (ci := 0) (ref := "IntervalSolver") C hinX0 rfl 5 (by decide) lk6 rfl dX0_contractBy_108 0 rfl rfl ?_
            refine z_iload C dX0_contractBy_111 4 rfl ?_
            refine z_iald C 0 rfl 5 rfl dX0_contractBy_113 j rfl (by omega) (by decide) ?_
            refine z_i2l C dX0_contractBy_114 ?_
            refine z_lmul C dX0_contractBy_115 ?_
            refine z_lsub C dX0_contractBy_116 ?_
            refine z_topl (cbS M rh bh bl i (j + 1)) (by show _ = if j = i then cbS M rh bh bl i j else cbS M rh bh bl i j - (M i j).toInt64 * (if (M i j).toInt64 < 0 then bh j else bl j).toInt64; rw [if_neg e40]; first | rw [if_pos c93] | rw [if_neg c93]) ?_
            refine z_lstore (lv' := [(0, .ref (a 0)), (1, .int (nI i)), (2, .long (cbS M rl bl bh i (j + 1))), (4, .long (cbS M rh bh bl i (j + 1))), (6, .int (nI j)), (7, .long ((M i j).toInt64))]) C dX0_contractBy_117 (by decide) [1, 2, 3, 0, 4, 5] rfl ?_
            refine z_iinc (v := nI (j + 1)) (lv' := [(0, .ref (a 0)), (1, .int (nI i)), (2, .long (cbS M rl bl bh i (j + 1))), (4, .long (cbS M rh bh bl i (j + 1))), (6, .int (nI (j + 1))), (7, .long ((M i j).toInt64))]) C dX0_contractBy_119 (k := 4) rfl (nI_1 j) (by decide) [1, 2, 3, 4, 0, 5] rfl ?_
            refine z_goto (tgt := 28) C dX0_contractBy_122 (by decide) ?_
            refine z_lv (lv' := [(0, .ref (a 0)), (1, .int (nI i)), (2, .long (cbS M rl bl bh i (j + 1))), (4, .long (cbS M rh bh bl i (j + 1))), (6, .int (nI (j + 1)))]) [0, 1, 2, 3, 4] rfl ?_
            exact ih28_j (j + 1) (by omega) (by omega) (by omega)
          · refine z_aload_n C dX0_contractBy_97 0 rfl ?_
            refine z_get (cl := vwCl) (T := TX0) (N := 13) (ci := 0) (ref := "IntervalSolver") C hinX0 rfl 6 (by decide) lk5 rfl dX0_contractBy_98 0 rfl rfl ?_
            refine z_iload C dX0_contractBy_101 4 rfl ?_
            refine z_iald C 0 rfl 6 rfl dX0_contractBy_103 j rfl (by omega) (by decide) ?_
            refine z_goto (tgt := 114) C dX0_contractBy_104 (by decide) ?_
            refine z_i2l C dX0_contractBy_114 ?_
            refine z_lmul C dX0_contractBy_115 ?_
            refine z_lsub C dX0_contractBy_116 ?_
            refine z_topl (cbS M rh bh bl i (j + 1)) (by show _ = if j = i then cbS M rh bh bl i j else cbS M rh bh bl i j - (M i j).toInt64 * (if (M i j).toInt64 < 0 then bh j else bl j).toInt64; rw [if_neg e40]; first | rw [if_pos c93] | rw [if_neg c93]) ?_
            refine z_lstore (lv' := [(0, .ref (a 0)), (1, .int (nI i)), (2, .long (cbS M rl bl bh i (j + 1))), (4, .long (cbS M rh bh bl i (j + 1))), (6, .int (nI j)), (7, .long ((M i j).toInt64))]) C dX0_contractBy_117 (by decide) [1, 2, 3, 0, 4, 5] rfl ?_
            refine z_iinc (v := nI (j + 1)) (lv' := [(0, .ref (a 0)), (1, .int (nI i)), (2, .long (cbS M rl bl bh i (j + 1))), (4, .long (cbS M rh bh bl i (j + 1))), (6, .int (nI (j + 1))), (7, .long ((M i j).toInt64))]) C dX0_contractBy_119 (k := 4) rfl (nI_1 j) (by decide) [1, 2, 3, 4, 0, 5] rfl ?_
            refine z_goto (tgt := 28) C dX0_contractBy_122 (by decide) ?_
            refine z_lv (lv' := [(0, .ref (a 0)), (1, .int (nI i)), (2, .long (cbS M rl bl bh i (j + 1))), (4, .long (cbS M rh bh bl i (j + 1))), (6, .int (nI (j + 1)))]) [0, 1, 2, 3, 4] rfl ?_
            exact ih28_j (j + 1) (by omega) (by omega) (by omega)
        · refine z_aload_n C dX0_contractBy_65 0 rfl ?_
          refine z_get (cl := vwCl) (T := TX0) (N := 13) (ci := 0) (ref := "IntervalSolver") C hinX0 rfl 5 (by decide) lk6 rfl dX0_contractBy_66 0 rfl rfl ?_
          refine z_iload C dX0_contractBy_69 4 rfl ?_
          refine z_iald C 0 rfl 5 rfl dX0_contractBy_71 j rfl (by omega) (by decide) ?_
          refine z_goto (tgt := 82) C dX0_contractBy_72 (by decide) ?_
          refine z_i2l C dX0_contractBy_82 ?_
          refine z_lmul C dX0_contractBy_83 ?_
          refine z_lsub C dX0_contractBy_84 ?_
          refine z_topl (cbS M rl bl bh i (j + 1)) (by show _ = if j = i then cbS M rl bl bh i j else cbS M rl bl bh i j - (M i j).toInt64 * (if (M i j).toInt64 < 0 then bl j else bh j).toInt64; rw [if_neg e40]; first | rw [if_pos c61] | rw [if_neg c61]) ?_
          refine z_lstore_n (lv' := [(0, .ref (a 0)), (1, .int (nI i)), (2, .long (cbS M rl bl bh i (j + 1))), (4, .long (cbS M rh bh bl i j)), (6, .int (nI j)), (7, .long ((M i j).toInt64))]) C dX0_contractBy_85 (by decide) [1, 2, 0, 3, 4, 5] rfl ?_
          refine z_lload C dX0_contractBy_86 3 rfl ?_
          refine z_lload C dX0_contractBy_88 5 rfl ?_
          refine z_lload C dX0_contractBy_90 5 rfl ?_
          refine z_lconst (v := 0) C dX0_contractBy_92 (by decide) ?_
          refine z_lcmp_ge (tgt := 107) C dX0_contractBy_93 dX0_contractBy_94 (by decide) (fun c93 => ?_) (fun c93 => ?_)
          · refine z_aload_n C dX0_contractBy_107 0 rfl ?_
            refine z_get (cl := vwCl) (T := TX0) (N := 13) (ci := 0) (ref := "IntervalSolver") C hinX0 rfl 5 (by decide) lk6 rfl dX0_contractBy_108 0 rfl rfl ?_
            refine z_iload C dX0_contractBy_111 4 rfl ?_
            refine z_iald C 0 rfl 5 rfl dX0_contractBy_113 j rfl (by omega) (by decide) ?_
            refine z_i2l C dX0_contractBy_114 ?_
            refine z_lmul C dX0_contractBy_115 ?_
            refine z_lsub C dX0_contractBy_116 ?_
            refine z_topl (cbS M rh bh bl i (j + 1)) (by show _ = if j = i then cbS M rh bh bl i j else cbS M rh bh bl i j - (M i j).toInt64 * (if (M i j).toInt64 < 0 then bh j else bl j).toInt64; rw [if_neg e40]; first | rw [if_pos c93] | rw [if_neg c93]) ?_
            refine z_lstore (lv' := [(0, .ref (a 0)), (1, .int (nI i)), (2, .long (cbS M rl bl bh i (j + 1))), (4, .long (cbS M rh bh bl i (j + 1))), (6, .int (nI j)), (7, .long ((M i j).toInt64))]) C dX0_contractBy_117 (by decide) [1, 2, 3, 0, 4, 5] rfl ?_
            refine z_iinc (v := nI (j + 1)) (lv' := [(0, .ref (a 0)), (1, .int (nI i)), (2, .long (cbS M rl bl bh i (j + 1))), (4, .long (cbS M rh bh bl i (j + 1))), (6, .int (nI (j + 1))), (7, .long ((M i j).toInt64))]) C dX0_contractBy_119 (k := 4) rfl (nI_1 j) (by decide) [1, 2, 3, 4, 0, 5] rfl ?_
            refine z_goto (tgt := 28) C dX0_contractBy_122 (by decide) ?_
            refine z_lv (lv' := [(0, .ref (a 0)), (1, .int (nI i)), (2, .long (cbS M rl bl bh i (j + 1))), (4, .long (cbS M rh bh bl i (j + 1))), (6, .int (nI (j + 1)))]) [0, 1, 2, 3, 4] rfl ?_
            exact ih28_j (j + 1) (by omega) (by omega) (by omega)
          · refine z_aload_n C dX0_contractBy_97 0 rfl ?_
            refine z_get (cl := vwCl) (T := TX0) (N := 13) (ci := 0) (ref := "IntervalSolver") C hinX0 rfl 6 (by decide) lk5 rfl dX0_contractBy_98 0 rfl rfl ?_
            refine z_iload C dX0_contractBy_101 4 rfl ?_
            refine z_iald C 0 rfl 6 rfl dX0_contractBy_103 j rfl (by omega) (by decide) ?_
            refine z_goto (tgt := 114) C dX0_contractBy_104 (by decide) ?_
            refine z_i2l C dX0_contractBy_114 ?_
            refine z_lmul C dX0_contractBy_115 ?_
            refine z_lsub C dX0_contractBy_116 ?_
            refine z_topl (cbS M rh bh bl i (j + 1)) (by show _ = if j = i then cbS M rh bh bl i j else cbS M rh bh bl i j - (M i j).toInt64 * (if (M i j).toInt64 < 0 then bh j else bl j).toInt64; rw [if_neg e40]; first | rw [if_pos c93] | rw [if_neg c93]) ?_
            refine z_lstore (lv' := [(0, .ref (a 0)), (1, .int (nI i)), (2, .long (cbS M rl bl bh i (j + 1))), (4, .long (cbS M rh bh bl i (j + 1))), (6, .int (nI j)), (7, .long ((M i j).toInt64))]) C dX0_contractBy_117 (by decide) [1, 2, 3, 0, 4, 5] rfl ?_
            refine z_iinc (v := nI (j + 1)) (lv' := [(0, .ref (a 0)), (1, .int (nI i)), (2, .long (cbS M rl bl bh i (j + 1))), (4, .long (cbS M rh bh bl i (j + 1))), (6, .int (nI (j + 1))), (7, .long ((M i j).toInt64))]) C dX0_contractBy_119 (k := 4) rfl (nI_1 j) (by decide) [1, 2, 3, 4, 0, 5] rfl ?_
            refine z_goto (tgt := 28) C dX0_contractBy_122 (by decide) ?_
            refine z_lv (lv' := [(0, .ref (a 0)), (1, .int (nI i)), (2, .long (cbS M rl bl bh i (j + 1))), (4, .long (cbS M rh bh bl i (j + 1))), (6, .int (nI (j + 1)))]) [0, 1, 2, 3, 4] rfl ?_
            exact ih28_j (j + 1) (by omega) (by omega) (by omega)

set_option maxRecDepth 100000 in
set_option maxHeartbeats 4000000 in
theorem c0_sweep (l : Launch) (D : va_G) (K : Nat → ClassId) (a : Nat → Nat) (N : Nat) (M : Nat → Nat → Int32) (S : Nat → Nat → Int32) (rl : Nat → Int32) (rh : Nat → Int32) (bl : Nat → Int32) (bh : Nat → Int32) (kl : Nat → Int32) (kh : Nat → Int32) (mn : Nat → Int64) (vc : Nat → Int64) (iv : Nat → Nat → Int64) (sc : Int64) (hN : N ≤ 5) : mI l D K yX0_sweep wsX0_sweep 4 100 0 0 [.ref (a 0)] (w0 K a (N, M, S, rl, rh, bl, bh, kl, kh, mn, vc, iv, sc)) (fun r u => r = (if (swS N M rl rh bl bh N).2.2.2 = true then (swS N M rl rh bl bh N).2.2.1 else -1) ∧ ∃ kl1 kh1, u = (N, M, S, rl, rh, if (swS N M rl rh bl bh N).2.2.2 = true then (swS N M rl rh bl bh N).1 else bl, if (swS N M rl rh bl bh N).2.2.2 = true then (swS N M rl rh bl bh N).2.1 else bh, kl1, kh1, mn, vc, iv, sc)) (w0 K a) := by
  have hinX0 : ∀ w ∈ wsX00, w ∈ wsX0_sweep := by decide +kernel
  have lk0 : Cond.fieldLink RX0 59 "IntervalSolver" "n" "I" ∈ wsX0_sweep := by decide +kernel
  have lk1 : Cond.fieldLink RX0 11 "IntervalSolver" "coefficients" "[[I" ∈ wsX0_sweep := by decide +kernel
  refine z_met_i (cc := cX0_sweep) (maxL := 4) (own := RX0) (lv := [(0, .ref (a 0))]) (by decide) rfl rfl (Nat.le_of_ble_eq_true rfl) rfl ?_
  intro p e s m below meth c args Q A C hnm hend
  refine z_aload_n C dX0_sweep_0 0 rfl ?_
  refine z_callVv_all (As := []) C (c0_keepBox l D K a N M S rl rh bl bh kl kh mn vc iv sc) (cwV 0 C.1.2.2.2.2 gX0_sweep_X0_keepBox rfl rfl rfl (by decide +kernel) ⟨Nat.le_of_ble_eq_true rfl, Nat.le_of_ble_eq_true rfl⟩) (ci := 0) rfl rfl 0 rfl dX0_sweep_1 rfl rfl (Nat.le_of_ble_eq_true rfl) ⟨Nat.le_of_ble_eq_true rfl, Nat.le_of_ble_eq_true rfl⟩ (fun u1 h1 => ?_)
  subst h1
  refine z_iconst (v := 0) C dX0_sweep_4 (by decide) ?_
  refine z_istore_n (lv' := [(0, .ref (a 0)), (1, .int 0)]) C dX0_sweep_5 (by decide) [1, 0] rfl ?_
  refine z_iconst (v := 0) C dX0_sweep_6 (by decide) ?_
  refine z_istore_n (lv' := [(0, .ref (a 0)), (1, .int 0), (2, .int 0)]) C dX0_sweep_7 (by decide) [1, 2, 0] rfl ?_
  suffices L8 : ∀ (f8_t t : Nat) (x : Nat → Int32) (y : Nat → Int32) (n1 : Int32), 0 ≤ t → t ≤ N → N < t + f8_t → swS N M rl rh bl bh t = (x, y, n1, true) → (∀ j, 5 ≤ j → x j = bl j ∧ y j = bh j) → zW p l e { frames := 4, cells := 0, slots := 0, locals := 100 } s m args below meth c Q 4 A s.heap D vwCl 0 0 (w0 K a (N, M, S, rl, rh, x, y, va_cpy bl kl 0 0 5, va_cpy bh kh 0 0 5, mn, vc, iv, sc)) 8 ([(0, .ref (a 0)), (1, .int n1), (2, .int (nI t))]) [] from L8 (N + 1) 0 bl bh 0 (Nat.le_refl _) (by omega) (by omega) rfl (fun _ _ => ⟨rfl, rfl⟩)
  intro f8_t
  induction f8_t with
  | zero => intro t x y n1 h0 h1 h2; exact absurd h2 (by omega)
  | succ f8_t ih8_t =>
    intro t x y n1 g8_0 g8_1 g8_2 hx ho
    refine z_iload_n C dX0_sweep_8 2 rfl ?_
    refine z_aload_n C dX0_sweep_9 0 rfl ?_
    refine z_get (cl := vwCl) (T := TX0) (N := 13) (ci := 0) (ref := "IntervalSolver") C hinX0 rfl 0 (by decide) lk0 rfl dX0_sweep_10 0 rfl rfl ?_
    refine z_icmp_ge (tgt := 57) C dX0_sweep_13 (by decide) (fun c13 => ?_) (fun c13 => ?_)
    · have e13 : t = N := by have := (nI_leI (a := N) (b := t) (by omega) (by omega)).mp c13; omega
      rw [e13]
      rw [e13] at hx
      refine z_iload_n C dX0_sweep_57 1 rfl ?_
      exact hend _ _ _ _ _ (N, M, S, rl, rh, x, y, va_cpy bl kl 0 0 5, va_cpy bh kh 0 0 5, mn, vc, iv, sc) dX0_sweep_58 (Nat.zero_le _) (Nat.zero_le _) (by rw [hx]; exact ⟨rfl, _, _, rfl⟩)
    · have e13 : t < N := by have := mt (nI_leI (a := N) (b := t) (by omega) (by omega)).mpr c13; omega
      refine z_aload_n C dX0_sweep_16 0 rfl ?_
      refine z_get (cl := vwCl) (T := TX0) (N := 13) (ci := 0) (ref := "IntervalSolver") C hinX0 rfl 1 (by decide) lk1 rfl dX0_sweep_17 0 rfl rfl ?_
      refine z_iload_n C dX0_sweep_20 2 rfl ?_
      refine z_aald (y := a (12 + t)) C 2 rfl 1 rfl dX0_sweep_21 t rfl (by omega) (by decide) (if_pos (by omega)) ?_
      refine z_iload_n C dX0_sweep_22 2 rfl ?_
      refine z_iald C 0 rfl (12 + t) (w0_atM (by omega)) dX0_sweep_23 t rfl (by omega) (by decide) ?_
      refine z_if_ne (tgt := 31) C dX0_sweep_24 (by decide) (fun c24 => ?_) (fun c24 => ?_)
      · refine z_aload_n C dX0_sweep_31 0 rfl ?_
        refine z_iload_n C dX0_sweep_32 2 rfl ?_
        refine z_callVi_all (As := [.int (nI t)]) C (c0_contractBy l D K a N M S rl rh x y (va_cpy bl kl 0 0 5) (va_cpy bh kh 0 0 5) mn vc iv sc t (by omega) (by omega)) (cwV 1 C.1.2.2.2.2 gX0_sweep_X0_contractBy rfl rfl rfl (by decide +kernel) ⟨Nat.le_of_ble_eq_true rfl, Nat.le_of_ble_eq_true rfl⟩) (ci := 0) rfl rfl 0 rfl dX0_sweep_33 rfl rfl (Nat.le_of_ble_eq_true rfl) ⟨Nat.le_of_ble_eq_true rfl, Nat.le_of_ble_eq_true rfl⟩ (fun r2 u2 h2 => ?_)
        obtain ⟨rfl, rfl⟩ := h2
        refine z_istore_n (lv' := [(0, .ref (a 0)), (1, .int n1), (2, .int (nI t)), (3, .int (itR (cbLo N M rl rh x y t) (cbHi N M rl rh x y t) x y t))]) C dX0_sweep_36 (by decide) [1, 2, 3, 0] rfl ?_
        refine z_iload_n C dX0_sweep_37 3 rfl ?_
        refine z_if_ge (tgt := 47) C dX0_sweep_38 (by decide) (fun c38 => ?_) (fun c38 => ?_)
        · refine z_iload_n C dX0_sweep_47 1 rfl ?_
          refine z_iload_n C dX0_sweep_48 3 rfl ?_
          refine z_iadd C dX0_sweep_49 ?_
          refine z_istore_n (lv' := [(0, .ref (a 0)), (1, .int (n1 + (itR (cbLo N M rl rh x y t) (cbHi N M rl rh x y t) x y t))), (2, .int (nI t)), (3, .int (itR (cbLo N M rl rh x y t) (cbHi N M rl rh x y t) x y t))]) C dX0_sweep_50 (by decide) [1, 0, 2, 3] rfl ?_
          refine z_iinc (v := nI (t + 1)) (lv' := [(0, .ref (a 0)), (1, .int (n1 + (itR (cbLo N M rl rh x y t) (cbHi N M rl rh x y t) x y t))), (2, .int (nI (t + 1))), (3, .int (itR (cbLo N M rl rh x y t) (cbHi N M rl rh x y t) x y t))]) C dX0_sweep_51 (k := 2) rfl (nI_1 t) (by decide) [1, 2, 0, 3] rfl ?_
          refine z_goto (tgt := 8) C dX0_sweep_54 (by decide) ?_
          refine z_lv (lv' := [(0, .ref (a 0)), (1, .int (n1 + (itR (cbLo N M rl rh x y t) (cbHi N M rl rh x y t) x y t))), (2, .int (nI (t + 1)))]) [0, 1, 2] rfl ?_
          exact ih8_t (t + 1) ((itB (cbLo N M rl rh x y t) (cbHi N M rl rh x y t) x y t).1) ((itB (cbLo N M rl rh x y t) (cbHi N M rl rh x y t) x y t).2) (n1 + (itR (cbLo N M rl rh x y t) (cbHi N M rl rh x y t) x y t)) (by omega) (by omega) (by omega) (swS_pos hx c24 (Int32.not_lt.mpr c38)) (fun j hj => ⟨((itB_out (i := t) (by omega)) j hj).1.trans (ho j hj).1, ((itB_out (i := t) (by omega)) j hj).2.trans (ho j hj).2⟩)
        · refine z_aload_n C dX0_sweep_41 0 rfl ?_
          refine z_callVv_all (As := []) C (c0_restoreBox l D K a N M S rl rh ((itB (cbLo N M rl rh x y t) (cbHi N M rl rh x y t) x y t).1) ((itB (cbLo N M rl rh x y t) (cbHi N M rl rh x y t) x y t).2) (va_cpy bl kl 0 0 5) (va_cpy bh kh 0 0 5) mn vc iv sc) (cwV 0 C.1.2.2.2.2 gX0_sweep_X0_restoreBox rfl rfl rfl (by decide +kernel) ⟨Nat.le_of_ble_eq_true rfl, Nat.le_of_ble_eq_true rfl⟩) (ci := 0) rfl rfl 0 rfl dX0_sweep_42 rfl rfl (Nat.le_of_ble_eq_true rfl) ⟨Nat.le_of_ble_eq_true rfl, Nat.le_of_ble_eq_true rfl⟩ (fun u3 h3 => ?_)
          subst h3
          refine z_iconst (v := -1) C dX0_sweep_45 (by decide) ?_
          exact hend _ _ _ _ _ (N, M, S, rl, rh, va_cpy (va_cpy bl kl 0 0 5) ((itB (cbLo N M rl rh x y t) (cbHi N M rl rh x y t) x y t).1) 0 0 5, va_cpy (va_cpy bh kh 0 0 5) ((itB (cbLo N M rl rh x y t) (cbHi N M rl rh x y t) x y t).2) 0 0 5, va_cpy bl kl 0 0 5, va_cpy bh kh 0 0 5, mn, vc, iv, sc) dX0_sweep_46 (Nat.zero_le _) (Nat.zero_le _) (by have hz := swS_false (swS_neg hx c24 (Int32.not_le.mp c38)) (N - (t + 1)); rw [show t + 1 + (N - (t + 1)) = N by omega] at hz; rw [hz]; exact ⟨rfl, va_cpy bl kl 0 0 5, va_cpy bh kh 0 0 5, by rw [cp_back (fun j hj => ((itB_out (i := t) (by omega)) j hj).1.trans (ho j hj).1), cp_back (fun j hj => ((itB_out (i := t) (by omega)) j hj).2.trans (ho j hj).2)]; rfl⟩)
      · refine z_iconst (v := 0) C dX0_sweep_27 (by decide) ?_
        refine z_goto (tgt := 36) C dX0_sweep_28 (by decide) ?_
        refine z_istore_n (lv' := [(0, .ref (a 0)), (1, .int n1), (2, .int (nI t)), (3, .int 0)]) C dX0_sweep_36 (by decide) [1, 2, 3, 0] rfl ?_
        refine z_iload_n C dX0_sweep_37 3 rfl ?_
        refine z_if_ge (tgt := 47) C dX0_sweep_38 (by decide) (fun c38 => ?_) (fun c38 => ?_)
        · refine z_iload_n C dX0_sweep_47 1 rfl ?_
          refine z_iload_n C dX0_sweep_48 3 rfl ?_
          refine z_iadd C dX0_sweep_49 ?_
          refine z_istore_n (lv' := [(0, .ref (a 0)), (1, .int (n1 + 0)), (2, .int (nI t)), (3, .int 0)]) C dX0_sweep_50 (by decide) [1, 0, 2, 3] rfl ?_
          refine z_iinc (v := nI (t + 1)) (lv' := [(0, .ref (a 0)), (1, .int (n1 + 0)), (2, .int (nI (t + 1))), (3, .int 0)]) C dX0_sweep_51 (k := 2) rfl (nI_1 t) (by decide) [1, 2, 0, 3] rfl ?_
          refine z_goto (tgt := 8) C dX0_sweep_54 (by decide) ?_
          refine z_lv (lv' := [(0, .ref (a 0)), (1, .int (n1 + 0)), (2, .int (nI (t + 1)))]) [0, 1, 2] rfl ?_
          exact ih8_t (t + 1) x y (n1 + 0) (by omega) (by omega) (by omega) (swS_zero hx c24) ho
        · exact absurd (by decide) c38
