set_option maxRecDepth 100000 in
set_option maxHeartbeats 4000000 in
theorem c0_isIndex (l : Launch) (D : va_G) (K : Nat → ClassId) (a : Nat → Nat) (N : Nat) (M : Nat → Nat → Int32) (S : Nat → Nat → Int32) (rl : Nat → Int32) (rh : Nat → Int32) (bl : Nat → Int32) (bh : Nat → Int32) (kl : Nat → Int32) (kh : Nat → Int32) (mn : Nat → Int64) (vc : Nat → Int64) (iv : Nat → Nat → Int64) (sc : Int64) (p0 : Int32) : mI l D K yX0_isIndex wsX0_isIndex 0 0 0 0 [.ref (a 0), .int p0] (w0 K a (N, M, S, rl, rh, bl, bh, kl, kh, mn, vc, iv, sc)) (fun r u => r = (if 0 ≤ p0 ∧ p0 < nI N then 1 else 0) ∧ u = (N, M, S, rl, rh, bl, bh, kl, kh, mn, vc, iv, sc)) (w0 K a) := by
  have hinX0 : ∀ w ∈ wsX00, w ∈ wsX0_isIndex := by decide +kernel
  have lk0 : Cond.fieldLink RX0 59 "IntervalSolver" "n" "I" ∈ wsX0_isIndex := by decide +kernel
  refine z_met_z (cc := cX0_isIndex) (maxL := 2) (own := RX0) (lv := [(0, .ref (a 0)), (1, .int p0)]) (by decide) rfl rfl (Nat.le_of_ble_eq_true rfl) rfl ?_
  intro p e s m below meth c args Q A C hnm hend
  refine z_iload_n C dX0_isIndex_0 1 rfl ?_
  refine z_if_lt (tgt := 16) C dX0_isIndex_1 (by decide) (fun c1 => ?_) (fun c1 => ?_)
  · refine z_iconst (v := 0) C dX0_isIndex_16 (by decide) ?_
    exact hend _ _ _ _ _ (N, M, S, rl, rh, bl, bh, kl, kh, mn, vc, iv, sc) dX0_isIndex_17 (Nat.zero_le _) (Nat.zero_le _) (Or.inl rfl) ⟨by rw [if_neg]; rintro ⟨h1, h2⟩; first | exact absurd h1 (Int32.not_le.mpr c1) | exact absurd h2 (Int32.not_lt.mpr c9), rfl⟩
  · refine z_iload_n C dX0_isIndex_4 1 rfl ?_
    refine z_aload_n C dX0_isIndex_5 0 rfl ?_
    refine z_get (cl := vwCl) (T := TX0) (N := 13) (ci := 0) (ref := "IntervalSolver") C hinX0 rfl 0 (by decide) lk0 rfl dX0_isIndex_6 0 rfl rfl ?_
    refine z_icmp_ge (tgt := 16) C dX0_isIndex_9 (by decide) (fun c9 => ?_) (fun c9 => ?_)
    · refine z_iconst (v := 0) C dX0_isIndex_16 (by decide) ?_
      exact hend _ _ _ _ _ (N, M, S, rl, rh, bl, bh, kl, kh, mn, vc, iv, sc) dX0_isIndex_17 (Nat.zero_le _) (Nat.zero_le _) (Or.inl rfl) ⟨by rw [if_neg]; rintro ⟨h1, h2⟩; first | exact absurd h1 (Int32.not_le.mpr c1) | exact absurd h2 (Int32.not_lt.mpr c9), rfl⟩
    · refine z_iconst (v := 1) C dX0_isIndex_12 (by decide) ?_
      refine z_goto (tgt := 17) C dX0_isIndex_13 (by decide) ?_
      exact hend _ _ _ _ _ (N, M, S, rl, rh, bl, bh, kl, kh, mn, vc, iv, sc) dX0_isIndex_17 (Nat.zero_le _) (Nat.zero_le _) (Or.inr rfl) ⟨by rw [if_pos]; constructor; exact Int32.not_lt.mp c1; exact Int32.not_le.mp c9, rfl⟩

set_option maxRecDepth 100000 in
set_option maxHeartbeats 4000000 in
theorem c0_isWithin (l : Launch) (D : va_G) (K : Nat → ClassId) (p0 : Int32) (p1 : Int32) : mI l D K yX0_isWithin wsX0_isWithin 0 0 0 0 [.int p0, .int p1] ([]) (fun r (_ : Unit) => r = (if -p1 ≤ p0 ∧ p0 ≤ p1 then 1 else 0)) (wN) := by
  refine z_met_z (cc := cX0_isWithin) (maxL := 2) (own := RX0) (lv := [(0, .int p0), (1, .int p1)]) (by decide) rfl rfl (Nat.le_of_ble_eq_true rfl) rfl ?_
  intro p e s m below meth c args Q A C hnm hend
  refine z_iload_n C dX0_isWithin_0 0 rfl ?_
  refine z_iload_n C dX0_isWithin_1 1 rfl ?_
  refine z_ineg C dX0_isWithin_2 ?_
  refine z_icmp_lt (tgt := 15) C dX0_isWithin_3 (by decide) (fun c3 => ?_) (fun c3 => ?_)
  · refine z_iconst (v := 0) C dX0_isWithin_15 (by decide) ?_
    exact hend _ _ _ _ _ () dX0_isWithin_16 (Nat.zero_le _) (Nat.zero_le _) (Or.inl rfl) (by rw [if_neg]; rintro ⟨h1, h2⟩; first | exact absurd h1 (Int32.not_le.mpr c3) | exact absurd h2 (Int32.not_le.mpr c8))
  · refine z_iload_n C dX0_isWithin_6 0 rfl ?_
    refine z_iload_n C dX0_isWithin_7 1 rfl ?_
    refine z_icmp_gt (tgt := 15) C dX0_isWithin_8 (by decide) (fun c8 => ?_) (fun c8 => ?_)
    · refine z_iconst (v := 0) C dX0_isWithin_15 (by decide) ?_
      exact hend _ _ _ _ _ () dX0_isWithin_16 (Nat.zero_le _) (Nat.zero_le _) (Or.inl rfl) (by rw [if_neg]; rintro ⟨h1, h2⟩; first | exact absurd h1 (Int32.not_le.mpr c3) | exact absurd h2 (Int32.not_le.mpr c8))
    · refine z_iconst (v := 1) C dX0_isWithin_11 (by decide) ?_
      refine z_goto (tgt := 16) C dX0_isWithin_12 (by decide) ?_
      exact hend _ _ _ _ _ () dX0_isWithin_16 (Nat.zero_le _) (Nat.zero_le _) (Or.inr rfl) (by rw [if_pos]; constructor; exact Int32.not_lt.mp c3; exact Int32.not_lt.mp c8)

set_option maxRecDepth 100000 in
set_option maxHeartbeats 4000000 in
theorem c0_isInterval (l : Launch) (D : va_G) (K : Nat → ClassId) (p0 : Int32) (p1 : Int32) (p2 : Int32) : mI l D K yX0_isInterval wsX0_isInterval 1 21 0 0 [.int p0, .int p1, .int p2] ([]) (fun r (_ : Unit) => r = (if ((-p2 ≤ p0 ∧ p0 ≤ p2) ∧ (-p2 ≤ p1 ∧ p1 ≤ p2)) ∧ p0 ≤ p1 then 1 else 0)) (wN) := by
  refine z_met_z (cc := cX0_isInterval) (maxL := 3) (own := RX0) (lv := [(0, .int p0), (1, .int p1), (2, .int p2)]) (by decide) rfl rfl (Nat.le_of_ble_eq_true rfl) rfl ?_
  intro p e s m below meth c args Q A C hnm hend
  refine z_iload_n C dX0_isInterval_0 0 rfl ?_
  refine z_iload_n C dX0_isInterval_1 2 rfl ?_
  refine z_callSi_none (As := [.int p0, .int p2]) C (c0_isWithin l D K p0 p2) (va_cwS 2 C.1.2.2.2.2 gX0_isInterval_X0_isWithin rfl rfl rfl (by decide +kernel) ⟨Nat.le_of_ble_eq_true rfl, Nat.le_of_ble_eq_true rfl⟩) dX0_isInterval_2 rfl rfl (Nat.le_of_ble_eq_true rfl) ⟨Nat.le_of_ble_eq_true rfl, Nat.le_of_ble_eq_true rfl⟩ (fun r1 u1 h1 => ?_)
  subst h1
  refine z_if_eq (tgt := 25) C dX0_isInterval_5 (by decide) (fun c5 => ?_) (fun c5 => ?_)
  · have q5 : ¬ (-p2 ≤ p0 ∧ p0 ≤ p2) := zi0.mp c5
    refine z_iconst (v := 0) C dX0_isInterval_25 (by decide) ?_
    exact hend _ _ _ _ _ () dX0_isInterval_26 (Nat.zero_le _) (Nat.zero_le _) (Or.inl rfl) (by rw [if_neg]; rintro ⟨⟨h1, h2⟩, h3⟩; first | exact q5 h1 | exact q13 h2 | exact absurd h3 (Int32.not_le.mpr c18))
  · have q5 : -p2 ≤ p0 ∧ p0 ≤ p2 := zi1.mp c5
    refine z_iload_n C dX0_isInterval_8 1 rfl ?_
    refine z_iload_n C dX0_isInterval_9 2 rfl ?_
    refine z_callSi_none (As := [.int p1, .int p2]) C (c0_isWithin l D K p1 p2) (va_cwS 2 C.1.2.2.2.2 gX0_isInterval_X0_isWithin rfl rfl rfl (by decide +kernel) ⟨Nat.le_of_ble_eq_true rfl, Nat.le_of_ble_eq_true rfl⟩) dX0_isInterval_10 rfl rfl (Nat.le_of_ble_eq_true rfl) ⟨Nat.le_of_ble_eq_true rfl, Nat.le_of_ble_eq_true rfl⟩ (fun r2 u2 h2 => ?_)
    subst h2
    refine z_if_eq (tgt := 25) C dX0_isInterval_13 (by decide) (fun c13 => ?_) (fun c13 => ?_)
    · have q13 : ¬ (-p2 ≤ p1 ∧ p1 ≤ p2) := zi0.mp c13
      refine z_iconst (v := 0) C dX0_isInterval_25 (by decide) ?_
      exact hend _ _ _ _ _ () dX0_isInterval_26 (Nat.zero_le _) (Nat.zero_le _) (Or.inl rfl) (by rw [if_neg]; rintro ⟨⟨h1, h2⟩, h3⟩; first | exact q5 h1 | exact q13 h2 | exact absurd h3 (Int32.not_le.mpr c18))
    · have q13 : -p2 ≤ p1 ∧ p1 ≤ p2 := zi1.mp c13
      refine z_iload_n C dX0_isInterval_16 0 rfl ?_
      refine z_iload_n C dX0_isInterval_17 1 rfl ?_
      refine z_icmp_gt (tgt := 25) C dX0_isInterval_18 (by decide) (fun c18 => ?_) (fun c18 => ?_)
      · refine z_iconst (v := 0) C dX0_isInterval_25 (by decide) ?_
        exact hend _ _ _ _ _ () dX0_isInterval_26 (Nat.zero_le _) (Nat.zero_le _) (Or.inl rfl) (by rw [if_neg]; rintro ⟨⟨h1, h2⟩, h3⟩; first | exact q5 h1 | exact q13 h2 | exact absurd h3 (Int32.not_le.mpr c18))
      · refine z_iconst (v := 1) C dX0_isInterval_21 (by decide) ?_
        refine z_goto (tgt := 26) C dX0_isInterval_22 (by decide) ?_
        exact hend _ _ _ _ _ () dX0_isInterval_26 (Nat.zero_le _) (Nat.zero_le _) (Or.inr rfl) (if_pos ⟨⟨q5, q13⟩, Int32.not_lt.mp c18⟩).symm

set_option maxRecDepth 100000 in
set_option maxHeartbeats 4000000 in
theorem c0_size (l : Launch) (D : va_G) (K : Nat → ClassId) (a : Nat → Nat) (N : Nat) (M : Nat → Nat → Int32) (S : Nat → Nat → Int32) (rl : Nat → Int32) (rh : Nat → Int32) (bl : Nat → Int32) (bh : Nat → Int32) (kl : Nat → Int32) (kh : Nat → Int32) (mn : Nat → Int64) (vc : Nat → Int64) (iv : Nat → Nat → Int64) (sc : Int64) : mI l D K yX0_size wsX0_size 0 0 0 0 [.ref (a 0)] (w0 K a (N, M, S, rl, rh, bl, bh, kl, kh, mn, vc, iv, sc)) (fun r u => r = nI N ∧ u = (N, M, S, rl, rh, bl, bh, kl, kh, mn, vc, iv, sc)) (w0 K a) := by
  have hinX0 : ∀ w ∈ wsX00, w ∈ wsX0_size := by decide +kernel
  have lk0 : Cond.fieldLink RX0 59 "IntervalSolver" "n" "I" ∈ wsX0_size := by decide +kernel
  refine z_met_i (cc := cX0_size) (maxL := 1) (own := RX0) (lv := [(0, .ref (a 0))]) (by decide) rfl rfl (Nat.le_of_ble_eq_true rfl) rfl ?_
  intro p e s m below meth c args Q A C hnm hend
  refine z_aload_n C dX0_size_0 0 rfl ?_
  refine z_get (cl := vwCl) (T := TX0) (N := 13) (ci := 0) (ref := "IntervalSolver") C hinX0 rfl 0 (by decide) lk0 rfl dX0_size_1 0 rfl rfl ?_
  exact hend _ _ _ _ _ (N, M, S, rl, rh, bl, bh, kl, kh, mn, vc, iv, sc) dX0_size_4 (Nat.zero_le _) (Nat.zero_le _) ⟨rfl, rfl⟩

set_option maxRecDepth 100000 in
set_option maxHeartbeats 4000000 in
theorem c0_startSystem (l : Launch) (D : va_G) (K : Nat → ClassId) (a : Nat → Nat) (N : Nat) (M : Nat → Nat → Int32) (S : Nat → Nat → Int32) (rl : Nat → Int32) (rh : Nat → Int32) (bl : Nat → Int32) (bh : Nat → Int32) (kl : Nat → Int32) (kh : Nat → Int32) (mn : Nat → Int64) (vc : Nat → Int64) (iv : Nat → Nat → Int64) (sc : Int64) (n1 : Nat) : mV l D K yX0_startSystem wsX0_startSystem 0 0 0 0 [.ref (a 0), .int (nI n1)] (w0 K a (N, M, S, rl, rh, bl, bh, kl, kh, mn, vc, iv, sc)) (fun u => u = (n1, matz M 5, matz S 5, vecz rl 0 5, vecz rh 0 5, vecz bl (-1000000000) 5, vecz bh 1000000000 5, kl, kh, mn, vc, iv, sc)) (w0 K a) := by
  have hinX0 : ∀ w ∈ wsX00, w ∈ wsX0_startSystem := by decide +kernel
  have lk0 : Cond.fieldLink RX0 59 "IntervalSolver" "n" "I" ∈ wsX0_startSystem := by decide +kernel
  have lk1 : Cond.fieldLink RX0 17 "IntervalSolver" "rightLows" "[I" ∈ wsX0_startSystem := by decide +kernel
  have lk2 : Cond.fieldLink RX0 21 "IntervalSolver" "rightHighs" "[I" ∈ wsX0_startSystem := by decide +kernel
  have lk3 : Cond.fieldLink RX0 24 "IntervalSolver" "boxLows" "[I" ∈ wsX0_startSystem := by decide +kernel
  have lk4 : Cond.constant RX0 200 (-1000000000) ∈ wsX0_startSystem := by decide +kernel
  have lk5 : Cond.fieldLink RX0 27 "IntervalSolver" "boxHighs" "[I" ∈ wsX0_startSystem := by decide +kernel
  have lk6 : Cond.constant RX0 160 (1000000000) ∈ wsX0_startSystem := by decide +kernel
  have lk7 : Cond.fieldLink RX0 11 "IntervalSolver" "coefficients" "[[I" ∈ wsX0_startSystem := by decide +kernel
  have lk8 : Cond.fieldLink RX0 14 "IntervalSolver" "spreads" "[[I" ∈ wsX0_startSystem := by decide +kernel
  refine z_met_v (cc := cX0_startSystem) (maxL := 4) (own := RX0) (lv := [(0, .ref (a 0)), (1, .int (nI n1))]) (by decide) rfl rfl (Nat.le_of_ble_eq_true rfl) rfl ?_
  intro p e s m below meth c args Q A C hnm hend
  refine z_aload_n C dX0_startSystem_0 0 rfl ?_
  refine z_iload_n C dX0_startSystem_1 1 rfl ?_
  refine z_put (cl := vwCl) (T := TX0) (N := 13) (ci := 0) (ref := "IntervalSolver") (ws' := w0 K a (n1, M, S, rl, rh, bl, bh, kl, kh, mn, vc, iv, sc)) C hinX0 tyX0 tyX0_ok nmX0 rfl 0 (by decide) lk0 rfl rfl rfl rfl dX0_startSystem_2 0 rfl (Nat.le_of_ble_eq_true rfl) rfl ?_
  refine z_iconst (v := 0) C dX0_startSystem_5 (by decide) ?_
  refine z_istore_n (lv' := [(0, .ref (a 0)), (1, .int (nI n1)), (2, .int 0)]) C dX0_startSystem_6 (by decide) [1, 2, 0] rfl ?_
  suffices L7 : ∀ (f7_i i : Nat), 0 ≤ i → i ≤ 5 → 5 < i + f7_i → zW p l e { frames := 0, cells := 0, slots := 0, locals := 0 } s m args below meth c Q 4 A s.heap D vwCl 0 0 (w0 K a (n1, matz M i, matz S i, vecz rl 0 i, vecz rh 0 i, vecz bl (-1000000000) i, vecz bh 1000000000 i, kl, kh, mn, vc, iv, sc)) 7 ([(0, .ref (a 0)), (1, .int (nI n1)), (2, .int (nI i))]) [] from L7 (5 + 1) 0 (Nat.le_refl _) (by omega) (by omega)
  intro f7_i
  induction f7_i with
  | zero => intro i h0 h1 h2; exact absurd h2 (by omega)
  | succ f7_i ih7_i =>
    intro i g7_0 g7_1 g7_2
    refine z_iload_n C dX0_startSystem_7 2 rfl ?_
    refine z_iconst (v := 5) C dX0_startSystem_8 (by decide) ?_
    refine z_icmp_ge (tgt := 79) C dX0_startSystem_9 (by decide) (fun c9 => ?_) (fun c9 => ?_)
    · have e9 : i = 5 := by have := (nI_leI (a := 5) (b := i) (by omega) (by omega)).mp c9; omega
      rw [e9]
      exact hend _ _ _ _ (n1, matz M 5, matz S 5, vecz rl 0 5, vecz rh 0 5, vecz bl (-1000000000) 5, vecz bh 1000000000 5, kl, kh, mn, vc, iv, sc) dX0_startSystem_79 (Nat.zero_le _) (Nat.zero_le _) rfl
    · have e9 : i < 5 := by have := mt (nI_leI (a := 5) (b := i) (by omega) (by omega)).mpr c9; omega
      refine z_iconst (v := 0) C dX0_startSystem_12 (by decide) ?_
      refine z_istore_n (lv' := [(0, .ref (a 0)), (1, .int (nI n1)), (2, .int (nI i)), (3, .int 0)]) C dX0_startSystem_13 (by decide) [1, 2, 3, 0] rfl ?_
      suffices L14 : ∀ (f14_j j : Nat), 0 ≤ j → j ≤ 5 → 5 < j + f14_j → zW p l e { frames := 0, cells := 0, slots := 0, locals := 0 } s m args below meth c Q 4 A s.heap D vwCl 0 0 (w0 K a (n1, rowz (matz M i) i j, rowz (matz S i) i j, vecz rl 0 i, vecz rh 0 i, vecz bl (-1000000000) i, vecz bh 1000000000 i, kl, kh, mn, vc, iv, sc)) 14 ([(0, .ref (a 0)), (1, .int (nI n1)), (2, .int (nI i)), (3, .int (nI j))]) [] from L14 (5 + 1) 0 (Nat.le_refl _) (by omega) (by omega)
      intro f14_j
      induction f14_j with
      | zero => intro j h0 h1 h2; exact absurd h2 (by omega)
      | succ f14_j ih14_j =>
        intro j g14_0 g14_1 g14_2
        refine z_iload_n C dX0_startSystem_14 3 rfl ?_
        refine z_iconst (v := 5) C dX0_startSystem_15 (by decide) ?_
        refine z_icmp_ge (tgt := 43) C dX0_startSystem_16 (by decide) (fun c16 => ?_) (fun c16 => ?_)
        · have e16 : j = 5 := by have := (nI_leI (a := 5) (b := j) (by omega) (by omega)).mp c16; omega
          rw [e16]
          refine z_aload_n C dX0_startSystem_43 0 rfl ?_
          refine z_get (cl := vwCl) (T := TX0) (N := 13) (ci := 0) (ref := "IntervalSolver") C hinX0 rfl 3 (by decide) lk1 rfl dX0_startSystem_44 0 rfl rfl ?_
          refine z_iload_n C dX0_startSystem_47 2 rfl ?_
          refine z_iconst (v := 0) C dX0_startSystem_48 (by decide) ?_
          refine z_iast (ws' := w0 K a (n1, rowz (matz M i) i 5, rowz (matz S i) i 5, upd (vecz rl 0 i) i 0, vecz rh 0 i, vecz bl (-1000000000) i, vecz bh 1000000000 i, kl, kh, mn, vc, iv, sc)) C 0 rfl 3 rfl dX0_startSystem_49 i rfl (by omega) (by decide) rfl ?_
          refine z_aload_n C dX0_startSystem_50 0 rfl ?_
          refine z_get (cl := vwCl) (T := TX0) (N := 13) (ci := 0) (ref := "IntervalSolver") C hinX0 rfl 4 (by decide) lk2 rfl dX0_startSystem_51 0 rfl rfl ?_
          refine z_iload_n C dX0_startSystem_54 2 rfl ?_
          refine z_iconst (v := 0) C dX0_startSystem_55 (by decide) ?_
          refine z_iast (ws' := w0 K a (n1, rowz (matz M i) i 5, rowz (matz S i) i 5, upd (vecz rl 0 i) i 0, upd (vecz rh 0 i) i 0, vecz bl (-1000000000) i, vecz bh 1000000000 i, kl, kh, mn, vc, iv, sc)) C 0 rfl 4 rfl dX0_startSystem_56 i rfl (by omega) (by decide) rfl ?_
          refine z_aload_n C dX0_startSystem_57 0 rfl ?_
          refine z_get (cl := vwCl) (T := TX0) (N := 13) (ci := 0) (ref := "IntervalSolver") C hinX0 rfl 5 (by decide) lk3 rfl dX0_startSystem_58 0 rfl rfl ?_
          refine z_iload_n C dX0_startSystem_61 2 rfl ?_
          refine z_ldc C lk4 dX0_startSystem_62 ?_
          refine z_iast (ws' := w0 K a (n1, rowz (matz M i) i 5, rowz (matz S i) i 5, upd (vecz rl 0 i) i 0, upd (vecz rh 0 i) i 0, upd (vecz bl (-1000000000) i) i (-1000000000), vecz bh 1000000000 i, kl, kh, mn, vc, iv, sc)) C 0 rfl 5 rfl dX0_startSystem_64 i rfl (by omega) (by decide) rfl ?_
          refine z_aload_n C dX0_startSystem_65 0 rfl ?_
          refine z_get (cl := vwCl) (T := TX0) (N := 13) (ci := 0) (ref := "IntervalSolver") C hinX0 rfl 6 (by decide) lk5 rfl dX0_startSystem_66 0 rfl rfl ?_
          refine z_iload_n C dX0_startSystem_69 2 rfl ?_
          refine z_ldc C lk6 dX0_startSystem_70 ?_
          refine z_iast (ws' := w0 K a (n1, rowz (matz M i) i 5, rowz (matz S i) i 5, upd (vecz rl 0 i) i 0, upd (vecz rh 0 i) i 0, upd (vecz bl (-1000000000) i) i (-1000000000), upd (vecz bh 1000000000 i) i (1000000000), kl, kh, mn, vc, iv, sc)) C 0 rfl 6 rfl dX0_startSystem_72 i rfl (by omega) (by decide) rfl ?_
          refine z_iinc (v := nI (i + 1)) (lv' := [(0, .ref (a 0)), (1, .int (nI n1)), (2, .int (nI (i + 1))), (3, .int (nI 5))]) C dX0_startSystem_73 (k := 2) rfl (nI_1 i) (by decide) [1, 2, 0, 3] rfl ?_
          refine z_goto (tgt := 7) C dX0_startSystem_76 (by decide) ?_
          refine z_lv (lv' := [(0, .ref (a 0)), (1, .int (nI n1)), (2, .int (nI (i + 1)))]) [0, 1, 2] rfl ?_
          exact ih7_i (i + 1) (by omega) (by omega) (by omega)
        · have e16 : j < 5 := by have := mt (nI_leI (a := 5) (b := j) (by omega) (by omega)).mpr c16; omega
          refine z_aload_n C dX0_startSystem_19 0 rfl ?_
          refine z_get (cl := vwCl) (T := TX0) (N := 13) (ci := 0) (ref := "IntervalSolver") C hinX0 rfl 1 (by decide) lk7 rfl dX0_startSystem_20 0 rfl rfl ?_
          refine z_iload_n C dX0_startSystem_23 2 rfl ?_
          refine z_aald (y := a (12 + i)) C 2 rfl 1 rfl dX0_startSystem_24 i rfl (by omega) (by decide) (if_pos (by omega)) ?_
          refine z_iload_n C dX0_startSystem_25 3 rfl ?_
          refine z_iconst (v := 0) C dX0_startSystem_26 (by decide) ?_
          refine z_iast (ws' := w0 K a (n1, up2 (rowz (matz M i) i j) i j 0, rowz (matz S i) i j, vecz rl 0 i, vecz rh 0 i, vecz bl (-1000000000) i, vecz bh 1000000000 i, kl, kh, mn, vc, iv, sc)) C 0 rfl (12 + i) (w0_atM (by omega)) dX0_startSystem_27 j rfl (by omega) (by decide) (w0_setM j 0 (by omega)) ?_
          refine z_aload_n C dX0_startSystem_28 0 rfl ?_
          refine z_get (cl := vwCl) (T := TX0) (N := 13) (ci := 0) (ref := "IntervalSolver") C hinX0 rfl 2 (by decide) lk8 rfl dX0_startSystem_29 0 rfl rfl ?_
          refine z_iload_n C dX0_startSystem_32 2 rfl ?_
          refine z_aald (y := a (17 + i)) C 2 rfl 2 rfl dX0_startSystem_33 i rfl (by omega) (by decide) (if_pos (by omega)) ?_
          refine z_iload_n C dX0_startSystem_34 3 rfl ?_
          refine z_iconst (v := 0) C dX0_startSystem_35 (by decide) ?_
          refine z_iast (ws' := w0 K a (n1, up2 (rowz (matz M i) i j) i j 0, up2 (rowz (matz S i) i j) i j 0, vecz rl 0 i, vecz rh 0 i, vecz bl (-1000000000) i, vecz bh 1000000000 i, kl, kh, mn, vc, iv, sc)) C 0 rfl (17 + i) (w0_atS (by omega)) dX0_startSystem_36 j rfl (by omega) (by decide) (w0_setS j 0 (by omega)) ?_
          refine z_iinc (v := nI (j + 1)) (lv' := [(0, .ref (a 0)), (1, .int (nI n1)), (2, .int (nI i)), (3, .int (nI (j + 1)))]) C dX0_startSystem_37 (k := 3) rfl (nI_1 j) (by decide) [1, 2, 3, 0] rfl ?_
          refine z_goto (tgt := 14) C dX0_startSystem_40 (by decide) ?_
          exact ih14_j (j + 1) (by omega) (by omega) (by omega)

set_option maxRecDepth 100000 in
set_option maxHeartbeats 4000000 in
theorem c0_coefficientsFit (l : Launch) (D : va_G) (K : Nat → ClassId) (a : Nat → Nat) (N : Nat) (M : Nat → Nat → Int32) (S : Nat → Nat → Int32) (rl : Nat → Int32) (rh : Nat → Int32) (bl : Nat → Int32) (bh : Nat → Int32) (kl : Nat → Int32) (kh : Nat → Int32) (mn : Nat → Int64) (vc : Nat → Int64) (iv : Nat → Nat → Int64) (sc : Int64) (i : Nat) (k : Nat) (p2 : Int32) (hi : i < N) (hk : k < N) (hN : N ≤ 5) : mI l D K yX0_coefficientsFit wsX0_coefficientsFit 1 21 0 0 [.ref (a 0), .int (nI i), .int (nI k), .int p2] (w0 K a (N, M, S, rl, rh, bl, bh, kl, kh, mn, vc, iv, sc)) (fun r u => r = (if ∀ t, t < N → (-99 ≤ M i t + p2 * M k t ∧ M i t + p2 * M k t ≤ 99) then 1 else 0) ∧ u = (N, M, S, rl, rh, bl, bh, kl, kh, mn, vc, iv, sc)) (w0 K a) := by
  have hinX0 : ∀ w ∈ wsX00, w ∈ wsX0_coefficientsFit := by decide +kernel
  have lk0 : Cond.fieldLink RX0 59 "IntervalSolver" "n" "I" ∈ wsX0_coefficientsFit := by decide +kernel
  have lk1 : Cond.fieldLink RX0 11 "IntervalSolver" "coefficients" "[[I" ∈ wsX0_coefficientsFit := by decide +kernel
  refine z_met_z (cc := cX0_coefficientsFit) (maxL := 5) (own := RX0) (lv := [(0, .ref (a 0)), (1, .int (nI i)), (2, .int (nI k)), (3, .int p2)]) (by decide) rfl rfl (Nat.le_of_ble_eq_true rfl) rfl ?_
  intro p e s m below meth c args Q A C hnm hend
  refine z_iconst (v := 0) C dX0_coefficientsFit_0 (by decide) ?_
  refine z_istore (lv' := [(0, .ref (a 0)), (1, .int (nI i)), (2, .int (nI k)), (3, .int p2), (4, .int 0)]) C dX0_coefficientsFit_1 (by decide) [1, 2, 3, 4, 0] rfl ?_
  suffices L3 : ∀ (f3_j j : Nat), 0 ≤ j → j ≤ N → N < j + f3_j → (∀ t, t < j → (-99 ≤ M i t + p2 * M k t ∧ M i t + p2 * M k t ≤ 99)) → zW p l e { frames := 1, cells := 0, slots := 0, locals := 21 } s m args below meth c Q 5 A s.heap D vwCl 0 0 (w0 K a (N, M, S, rl, rh, bl, bh, kl, kh, mn, vc, iv, sc)) 3 ([(0, .ref (a 0)), (1, .int (nI i)), (2, .int (nI k)), (3, .int p2), (4, .int (nI j))]) [] from L3 (N + 1) 0 (Nat.le_refl _) (by omega) (by omega) (fun t h => absurd h (Nat.not_lt_zero t))
  intro f3_j
  induction f3_j with
  | zero => intro j h0 h1 h2; exact absurd h2 (by omega)
  | succ f3_j ih3_j =>
    intro j g3_0 g3_1 g3_2 hq
    refine z_iload C dX0_coefficientsFit_3 4 rfl ?_
    refine z_aload_n C dX0_coefficientsFit_5 0 rfl ?_
    refine z_get (cl := vwCl) (T := TX0) (N := 13) (ci := 0) (ref := "IntervalSolver") C hinX0 rfl 0 (by decide) lk0 rfl dX0_coefficientsFit_6 0 rfl rfl ?_
    refine z_icmp_ge (tgt := 49) C dX0_coefficientsFit_9 (by decide) (fun c9 => ?_) (fun c9 => ?_)
    · have e9 : j = N := by have := (nI_leI (a := N) (b := j) (by omega) (by omega)).mp c9; omega
      rw [e9]
      rw [e9] at hq
      refine z_iconst (v := 1) C dX0_coefficientsFit_49 (by decide) ?_
      exact hend _ _ _ _ _ (N, M, S, rl, rh, bl, bh, kl, kh, mn, vc, iv, sc) dX0_coefficientsFit_50 (Nat.zero_le _) (Nat.zero_le _) (Or.inr rfl) ⟨(if_pos hq).symm, rfl⟩
    · have e9 : j < N := by have := mt (nI_leI (a := N) (b := j) (by omega) (by omega)).mpr c9; omega
      refine z_aload_n C dX0_coefficientsFit_12 0 rfl ?_
      refine z_get (cl := vwCl) (T := TX0) (N := 13) (ci := 0) (ref := "IntervalSolver") C hinX0 rfl 1 (by decide) lk1 rfl dX0_coefficientsFit_13 0 rfl rfl ?_
      refine z_iload_n C dX0_coefficientsFit_16 1 rfl ?_
      refine z_aald (y := a (12 + i)) C 2 rfl 1 rfl dX0_coefficientsFit_17 i rfl (by omega) (by decide) (if_pos (by omega)) ?_
      refine z_iload C dX0_coefficientsFit_18 4 rfl ?_
      refine z_iald C 0 rfl (12 + i) (w0_atM (by omega)) dX0_coefficientsFit_20 j rfl (by omega) (by decide) ?_
      refine z_iload_n C dX0_coefficientsFit_21 3 rfl ?_
      refine z_aload_n C dX0_coefficientsFit_22 0 rfl ?_
      refine z_get (cl := vwCl) (T := TX0) (N := 13) (ci := 0) (ref := "IntervalSolver") C hinX0 rfl 1 (by decide) lk1 rfl dX0_coefficientsFit_23 0 rfl rfl ?_
      refine z_iload_n C dX0_coefficientsFit_26 2 rfl ?_
      refine z_aald (y := a (12 + k)) C 2 rfl 1 rfl dX0_coefficientsFit_27 k rfl (by omega) (by decide) (if_pos (by omega)) ?_
      refine z_iload C dX0_coefficientsFit_28 4 rfl ?_
      refine z_iald C 0 rfl (12 + k) (w0_atM (by omega)) dX0_coefficientsFit_30 j rfl (by omega) (by decide) ?_
      refine z_imul C dX0_coefficientsFit_31 ?_
      refine z_iadd C dX0_coefficientsFit_32 ?_
      refine z_bipush (v := 99) C dX0_coefficientsFit_33 (by decide) ?_
      refine z_callSi_none (As := [.int ((M i j) + (p2 * (M k j))), .int 99]) C (c0_isWithin l D K ((M i j) + (p2 * (M k j))) 99) (va_cwS 2 C.1.2.2.2.2 gX0_coefficientsFit_X0_isWithin rfl rfl rfl (by decide +kernel) ⟨Nat.le_of_ble_eq_true rfl, Nat.le_of_ble_eq_true rfl⟩) dX0_coefficientsFit_35 rfl rfl (Nat.le_of_ble_eq_true rfl) ⟨Nat.le_of_ble_eq_true rfl, Nat.le_of_ble_eq_true rfl⟩ (fun r1 u1 h1 => ?_)
      subst h1
      refine z_if_ne (tgt := 43) C dX0_coefficientsFit_38 (by decide) (fun c38 => ?_) (fun c38 => ?_)
      · have q38 : -99 ≤ ((M i j) + (p2 * (M k j))) ∧ ((M i j) + (p2 * (M k j))) ≤ 99 := zi1.mp c38
        refine z_iinc (v := nI (j + 1)) (lv' := [(0, .ref (a 0)), (1, .int (nI i)), (2, .int (nI k)), (3, .int p2), (4, .int (nI (j + 1)))]) C dX0_coefficientsFit_43 (k := 4) rfl (nI_1 j) (by decide) [1, 2, 3, 4, 0] rfl ?_
        refine z_goto (tgt := 3) C dX0_coefficientsFit_46 (by decide) ?_
        exact ih3_j (j + 1) (by omega) (by omega) (by omega) (lt_s hq q38)
      · have q38 : ¬ (-99 ≤ ((M i j) + (p2 * (M k j))) ∧ ((M i j) + (p2 * (M k j))) ≤ 99) := zi0.mp c38
        refine z_iconst (v := 0) C dX0_coefficientsFit_41 (by decide) ?_
        exact hend _ _ _ _ _ (N, M, S, rl, rh, bl, bh, kl, kh, mn, vc, iv, sc) dX0_coefficientsFit_42 (Nat.zero_le _) (Nat.zero_le _) (Or.inl rfl) ⟨(if_neg (fun q => q38 (q j (by omega)))).symm, rfl⟩

set_option maxRecDepth 100000 in
set_option maxHeartbeats 4000000 in
theorem c0_addCoefficients (l : Launch) (D : va_G) (K : Nat → ClassId) (a : Nat → Nat) (N : Nat) (M : Nat → Nat → Int32) (S : Nat → Nat → Int32) (rl : Nat → Int32) (rh : Nat → Int32) (bl : Nat → Int32) (bh : Nat → Int32) (kl : Nat → Int32) (kh : Nat → Int32) (mn : Nat → Int64) (vc : Nat → Int64) (iv : Nat → Nat → Int64) (sc : Int64) (i : Nat) (k : Nat) (p2 : Int32) (hi : i < N) (hk : k < N) (hN : N ≤ 5) : mI l D K yX0_addCoefficients wsX0_addCoefficients 0 0 0 0 [.ref (a 0), .int (nI i), .int (nI k), .int p2] (w0 K a (N, M, S, rl, rh, bl, bh, kl, kh, mn, vc, iv, sc)) (fun r u => r = acC M i k p2 N ∧ u = (N, acM M i k p2 N, S, rl, rh, bl, bh, kl, kh, mn, vc, iv, sc)) (w0 K a) := by
  have hinX0 : ∀ w ∈ wsX00, w ∈ wsX0_addCoefficients := by decide +kernel
  have lk0 : Cond.fieldLink RX0 59 "IntervalSolver" "n" "I" ∈ wsX0_addCoefficients := by decide +kernel
  have lk1 : Cond.fieldLink RX0 11 "IntervalSolver" "coefficients" "[[I" ∈ wsX0_addCoefficients := by decide +kernel
  refine z_met_i (cc := cX0_addCoefficients) (maxL := 7) (own := RX0) (lv := [(0, .ref (a 0)), (1, .int (nI i)), (2, .int (nI k)), (3, .int p2)]) (by decide) rfl rfl (Nat.le_of_ble_eq_true rfl) rfl ?_
  intro p e s m below meth c args Q A C hnm hend
  refine z_iconst (v := 0) C dX0_addCoefficients_0 (by decide) ?_
  refine z_istore (lv' := [(0, .ref (a 0)), (1, .int (nI i)), (2, .int (nI k)), (3, .int p2), (4, .int 0)]) C dX0_addCoefficients_1 (by decide) [1, 2, 3, 4, 0] rfl ?_
  refine z_iconst (v := 0) C dX0_addCoefficients_3 (by decide) ?_
  refine z_istore (lv' := [(0, .ref (a 0)), (1, .int (nI i)), (2, .int (nI k)), (3, .int p2), (4, .int 0), (5, .int 0)]) C dX0_addCoefficients_4 (by decide) [1, 2, 3, 4, 5, 0] rfl ?_
  suffices L6 : ∀ (f6_j j : Nat), 0 ≤ j → j ≤ N → N < j + f6_j → zW p l e { frames := 0, cells := 0, slots := 0, locals := 0 } s m args below meth c Q 7 A s.heap D vwCl 0 0 (w0 K a (N, acM M i k p2 j, S, rl, rh, bl, bh, kl, kh, mn, vc, iv, sc)) 6 ([(0, .ref (a 0)), (1, .int (nI i)), (2, .int (nI k)), (3, .int p2), (4, .int (acC M i k p2 j)), (5, .int (nI j))]) [] from L6 (N + 1) 0 (Nat.le_refl _) (by omega) (by omega)
  intro f6_j
  induction f6_j with
  | zero => intro j h0 h1 h2; exact absurd h2 (by omega)
  | succ f6_j ih6_j =>
    intro j g6_0 g6_1 g6_2
    refine z_iload C dX0_addCoefficients_6 5 rfl ?_
    refine z_aload_n C dX0_addCoefficients_8 0 rfl ?_
    refine z_get (cl := vwCl) (T := TX0) (N := 13) (ci := 0) (ref := "IntervalSolver") C hinX0 rfl 0 (by decide) lk0 rfl dX0_addCoefficients_9 0 rfl rfl ?_
    refine z_icmp_ge (tgt := 63) C dX0_addCoefficients_12 (by decide) (fun c12 => ?_) (fun c12 => ?_)
    · have e12 : j = N := by have := (nI_leI (a := N) (b := j) (by omega) (by omega)).mp c12; omega
      rw [e12]
      refine z_iload C dX0_addCoefficients_63 4 rfl ?_
      exact hend _ _ _ _ _ (N, acM M i k p2 N, S, rl, rh, bl, bh, kl, kh, mn, vc, iv, sc) dX0_addCoefficients_65 (Nat.zero_le _) (Nat.zero_le _) ⟨rfl, rfl⟩
    · have e12 : j < N := by have := mt (nI_leI (a := N) (b := j) (by omega) (by omega)).mpr c12; omega
      refine z_iload_n C dX0_addCoefficients_15 3 rfl ?_
      refine z_aload_n C dX0_addCoefficients_16 0 rfl ?_
      refine z_get (cl := vwCl) (T := TX0) (N := 13) (ci := 0) (ref := "IntervalSolver") C hinX0 rfl 1 (by decide) lk1 rfl dX0_addCoefficients_17 0 rfl rfl ?_
      refine z_iload_n C dX0_addCoefficients_20 2 rfl ?_
      refine z_aald (y := a (12 + k)) C 2 rfl 1 rfl dX0_addCoefficients_21 k rfl (by omega) (by decide) (if_pos (by omega)) ?_
      refine z_iload C dX0_addCoefficients_22 5 rfl ?_
      refine z_iald C 0 rfl (12 + k) (w0_atM (by omega)) dX0_addCoefficients_24 j rfl (by omega) (by decide) ?_
      refine z_imul C dX0_addCoefficients_25 ?_
      refine z_istore (lv' := [(0, .ref (a 0)), (1, .int (nI i)), (2, .int (nI k)), (3, .int p2), (4, .int (acC M i k p2 j)), (5, .int (nI j)), (6, .int (p2 * ((acM M i k p2 j) k j)))]) C dX0_addCoefficients_26 (by decide) [1, 2, 3, 4, 5, 6, 0] rfl ?_
      refine z_aload_n C dX0_addCoefficients_28 0 rfl ?_
      refine z_get (cl := vwCl) (T := TX0) (N := 13) (ci := 0) (ref := "IntervalSolver") C hinX0 rfl 1 (by decide) lk1 rfl dX0_addCoefficients_29 0 rfl rfl ?_
      refine z_iload_n C dX0_addCoefficients_32 1 rfl ?_
      refine z_aald (y := a (12 + i)) C 2 rfl 1 rfl dX0_addCoefficients_33 i rfl (by omega) (by decide) (if_pos (by omega)) ?_
      refine z_iload C dX0_addCoefficients_34 5 rfl ?_
      refine z_dup2_11 C dX0_addCoefficients_36 rfl rfl ?_
      refine z_iald C 0 rfl (12 + i) (w0_atM (by omega)) dX0_addCoefficients_37 j rfl (by omega) (by decide) ?_
      refine z_iload C dX0_addCoefficients_38 6 rfl ?_
      refine z_iadd C dX0_addCoefficients_40 ?_
      refine z_iast (ws' := w0 K a (N, up2 (acM M i k p2 j) i j (((acM M i k p2 j) i j) + (p2 * ((acM M i k p2 j) k j))), S, rl, rh, bl, bh, kl, kh, mn, vc, iv, sc)) C 0 rfl (12 + i) (w0_atM (by omega)) dX0_addCoefficients_41 j rfl (by omega) (by decide) (w0_setM j (((acM M i k p2 j) i j) + (p2 * ((acM M i k p2 j) k j))) (by omega)) ?_
      refine z_iload C dX0_addCoefficients_42 4 rfl ?_
      refine z_iload C dX0_addCoefficients_44 6 rfl ?_
      refine z_if_ne (tgt := 53) C dX0_addCoefficients_46 (by decide) (fun c46 => ?_) (fun c46 => ?_)
      · refine z_iconst (v := 1) C dX0_addCoefficients_53 (by decide) ?_
        refine z_iadd C dX0_addCoefficients_54 ?_
        refine z_topi (acC M i k p2 (j + 1)) (by show _ = acC M i k p2 j + _; rw [if_neg c46]) ?_
        refine z_istore (lv' := [(0, .ref (a 0)), (1, .int (nI i)), (2, .int (nI k)), (3, .int p2), (4, .int (acC M i k p2 (j + 1))), (5, .int (nI j)), (6, .int (p2 * ((acM M i k p2 j) k j)))]) C dX0_addCoefficients_55 (by decide) [1, 2, 3, 4, 0, 5, 6] rfl ?_
        refine z_iinc (v := nI (j + 1)) (lv' := [(0, .ref (a 0)), (1, .int (nI i)), (2, .int (nI k)), (3, .int p2), (4, .int (acC M i k p2 (j + 1))), (5, .int (nI (j + 1))), (6, .int (p2 * ((acM M i k p2 j) k j)))]) C dX0_addCoefficients_57 (k := 5) rfl (nI_1 j) (by decide) [1, 2, 3, 4, 5, 0, 6] rfl ?_
        refine z_goto (tgt := 6) C dX0_addCoefficients_60 (by decide) ?_
        refine z_lv (lv' := [(0, .ref (a 0)), (1, .int (nI i)), (2, .int (nI k)), (3, .int p2), (4, .int (acC M i k p2 (j + 1))), (5, .int (nI (j + 1)))]) [0, 1, 2, 3, 4, 5] rfl ?_
        exact ih6_j (j + 1) (by omega) (by omega) (by omega)
      · refine z_iconst (v := 0) C dX0_addCoefficients_49 (by decide) ?_
        refine z_goto (tgt := 54) C dX0_addCoefficients_50 (by decide) ?_
        refine z_iadd C dX0_addCoefficients_54 ?_
        refine z_topi (acC M i k p2 (j + 1)) (by show _ = acC M i k p2 j + _; rw [if_pos c46]) ?_
        refine z_istore (lv' := [(0, .ref (a 0)), (1, .int (nI i)), (2, .int (nI k)), (3, .int p2), (4, .int (acC M i k p2 (j + 1))), (5, .int (nI j)), (6, .int (p2 * ((acM M i k p2 j) k j)))]) C dX0_addCoefficients_55 (by decide) [1, 2, 3, 4, 0, 5, 6] rfl ?_
        refine z_iinc (v := nI (j + 1)) (lv' := [(0, .ref (a 0)), (1, .int (nI i)), (2, .int (nI k)), (3, .int p2), (4, .int (acC M i k p2 (j + 1))), (5, .int (nI (j + 1))), (6, .int (p2 * ((acM M i k p2 j) k j)))]) C dX0_addCoefficients_57 (k := 5) rfl (nI_1 j) (by decide) [1, 2, 3, 4, 5, 0, 6] rfl ?_
        refine z_goto (tgt := 6) C dX0_addCoefficients_60 (by decide) ?_
        refine z_lv (lv' := [(0, .ref (a 0)), (1, .int (nI i)), (2, .int (nI k)), (3, .int p2), (4, .int (acC M i k p2 (j + 1))), (5, .int (nI (j + 1)))]) [0, 1, 2, 3, 4, 5] rfl ?_
        exact ih6_j (j + 1) (by omega) (by omega) (by omega)

set_option maxRecDepth 100000 in
set_option maxHeartbeats 4000000 in
theorem c0_productLow (l : Launch) (D : va_G) (K : Nat → ClassId) (p0 : Int32) (p1 : Int32) (p2 : Int32) : mI l D K yX0_productLow wsX0_productLow 0 0 0 0 [.int p0, .int p1, .int p2] ([]) (fun r (_ : Unit) => r = pLow p0 p1 p2) (wN) := by
  refine z_met_i (cc := cX0_productLow) (maxL := 3) (own := RX0) (lv := [(0, .int p0), (1, .int p1), (2, .int p2)]) (by decide) rfl rfl (Nat.le_of_ble_eq_true rfl) rfl ?_
  intro p e s m below meth c args Q A C hnm hend
  refine z_iload_n C dX0_productLow_0 0 rfl ?_
  refine z_iload_n C dX0_productLow_1 0 rfl ?_
  refine z_if_ge (tgt := 9) C dX0_productLow_2 (by decide) (fun c2 => ?_) (fun c2 => ?_)
  · refine z_iload_n C dX0_productLow_9 1 rfl ?_
    refine z_imul C dX0_productLow_10 ?_
    exact hend _ _ _ _ _ () dX0_productLow_11 (Nat.zero_le _) (Nat.zero_le _) (by unfold pLow; first | rw [if_neg (Int32.not_lt.mpr c2)] | rw [if_pos (Int32.not_le.mp c2)])
  · refine z_iload_n C dX0_productLow_5 2 rfl ?_
    refine z_goto (tgt := 10) C dX0_productLow_6 (by decide) ?_
    refine z_imul C dX0_productLow_10 ?_
    exact hend _ _ _ _ _ () dX0_productLow_11 (Nat.zero_le _) (Nat.zero_le _) (by unfold pLow; first | rw [if_neg (Int32.not_lt.mpr c2)] | rw [if_pos (Int32.not_le.mp c2)])

set_option maxRecDepth 100000 in
set_option maxHeartbeats 4000000 in
theorem c0_productHigh (l : Launch) (D : va_G) (K : Nat → ClassId) (p0 : Int32) (p1 : Int32) (p2 : Int32) : mI l D K yX0_productHigh wsX0_productHigh 0 0 0 0 [.int p0, .int p1, .int p2] ([]) (fun r (_ : Unit) => r = pHigh p0 p1 p2) (wN) := by
  refine z_met_i (cc := cX0_productHigh) (maxL := 3) (own := RX0) (lv := [(0, .int p0), (1, .int p1), (2, .int p2)]) (by decide) rfl rfl (Nat.le_of_ble_eq_true rfl) rfl ?_
  intro p e s m below meth c args Q A C hnm hend
  refine z_iload_n C dX0_productHigh_0 0 rfl ?_
  refine z_iload_n C dX0_productHigh_1 0 rfl ?_
  refine z_if_ge (tgt := 9) C dX0_productHigh_2 (by decide) (fun c2 => ?_) (fun c2 => ?_)
  · refine z_iload_n C dX0_productHigh_9 2 rfl ?_
    refine z_imul C dX0_productHigh_10 ?_
    exact hend _ _ _ _ _ () dX0_productHigh_11 (Nat.zero_le _) (Nat.zero_le _) (by unfold pHigh; first | rw [if_neg (Int32.not_lt.mpr c2)] | rw [if_pos (Int32.not_le.mp c2)])
  · refine z_iload_n C dX0_productHigh_5 1 rfl ?_
    refine z_goto (tgt := 10) C dX0_productHigh_6 (by decide) ?_
    refine z_imul C dX0_productHigh_10 ?_
    exact hend _ _ _ _ _ () dX0_productHigh_11 (Nat.zero_le _) (Nat.zero_le _) (by unfold pHigh; first | rw [if_neg (Int32.not_lt.mpr c2)] | rw [if_pos (Int32.not_le.mp c2)])


