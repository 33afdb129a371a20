set_option maxRecDepth 100000 in
set_option maxHeartbeats 4000000 in
theorem c1_init (l : Launch) (D : va_G) (K : Nat → ClassId) (o : Nat) : mV l D K yX1_init wsX1_init 2 43 9 112 [.ref o] ([(o, .inr (3, [.int 0, .int 0, .null, .null, .null, .null, .null, .null, .null, .null, .null, .long 0, .long 0]))]) (fun u : (Nat → Nat) × S1 => u.1 0 = o ∧ u.2 = (1, matz (fun _ _ => 0) 5, matz (fun _ _ => 0) 5, vecz (fun _ => 0) 0 5, vecz (fun _ => 0) 0 5, vecz (fun _ => 0) (-1000000000) 5, vecz (fun _ => 0) 1000000000 5, 0, (fun _ => 0), (fun _ => 0), (fun _ => 0), 0, 0)) (fun u => w1 K u.1 u.2) := by
  have hinX1 : ∀ w ∈ wsX10, w ∈ wsX1_init := by decide +kernel
  have lk0 : Cond.methodLink RX1 1 objectInit ∈ wsX1_init := by decide +kernel
  have lk1 : Cond.instanceMethod objectInit ∈ wsX1_init := by decide +kernel
  have lk2 : Cond.code objectInit ⟨#[0xb1]⟩ 1 none ∈ wsX1_init := by decide +kernel
  have lk3 : Cond.fieldLink RX1 7 "IntervalSolverModel" "n" "I" ∈ wsX1_init := by decide +kernel
  have lk4 : Cond.arrayClass .int ∈ wsX1_init := by decide +kernel
  have lk5 : Cond.fieldLink RX1 13 "IntervalSolverModel" "a" "[I" ∈ wsX1_init := by decide +kernel
  have lk6 : Cond.fieldLink RX1 17 "IntervalSolverModel" "spreads" "[I" ∈ wsX1_init := by decide +kernel
  have lk7 : Cond.fieldLink RX1 20 "IntervalSolverModel" "lows" "[I" ∈ wsX1_init := by decide +kernel
  have lk8 : Cond.fieldLink RX1 23 "IntervalSolverModel" "highs" "[I" ∈ wsX1_init := by decide +kernel
  have lk9 : Cond.fieldLink RX1 26 "IntervalSolverModel" "boxLows" "[I" ∈ wsX1_init := by decide +kernel
  have lk10 : Cond.fieldLink RX1 29 "IntervalSolverModel" "boxHighs" "[I" ∈ wsX1_init := by decide +kernel
  have lk11 : Cond.fieldLink RX1 32 "IntervalSolverModel" "formerLows" "[I" ∈ wsX1_init := by decide +kernel
  have lk12 : Cond.fieldLink RX1 35 "IntervalSolverModel" "formerHighs" "[I" ∈ wsX1_init := by decide +kernel
  have lk13 : Cond.arrayClass .long ∈ wsX1_init := by decide +kernel
  have lk14 : Cond.fieldLink RX1 38 "IntervalSolverModel" "parts" "[J" ∈ wsX1_init := by decide +kernel
  refine z_met_v (cc := cX1_init) (maxL := 1) (own := RX1) (lv := [(0, .ref o)]) (by decide +kernel) rfl rfl (Nat.le_of_ble_eq_true rfl) rfl ?_
  intro p e s m below meth c args Q A C hnm hend
  refine z_aload_n C dX1_init_0 0 rfl ?_
  refine z_obj C lk0 lk1 lk2 (Nat.le_of_ble_eq_true rfl) (Nat.le_of_ble_eq_true rfl) (Nat.le_of_ble_eq_true rfl) dX1_init_1 ?_
  refine z_aload_n C dX1_init_4 0 rfl ?_
  refine z_iconst (v := 1) C dX1_init_5 (by decide) ?_
  refine z_put (cl := vwCl) (T := TX1) (N := 13) (ci := 3) (ref := "IntervalSolverModel") (ws' := [(o, .inr (3, [.int 0, .int 1, .null, .null, .null, .null, .null, .null, .null, .null, .null, .long 0, .long 0]))]) C hinX1 tyX1 tyX1_ok nmX1 rfl 1 (by decide) lk3 rfl rfl rfl rfl dX1_init_6 0 rfl (Nat.le_of_ble_eq_true rfl) rfl ?_
  refine z_aload_n C dX1_init_9 0 rfl ?_
  refine z_bipush (v := 25) C dX1_init_10 (by decide) ?_
  refine z_newi (nn := 25) C 0 rfl lk4 (by decide) rfl (by decide) (Nat.le_of_ble_eq_true rfl) (Nat.le_of_ble_eq_true rfl) dX1_init_12 (fun q1 => ?_)
  refine z_putF (cl := vwCl) (T := TX1) (N := 13) (ci := 3) (ref := "IntervalSolverModel") (ws' := [(o, .inr (3, [.int 0, .int 1, .ref q1, .null, .null, .null, .null, .null, .null, .null, .null, .long 0, .long 0])), (q1, .inl (K 0, 25, .inl (fun _ => 0)))]) C hinX1 tyX1 tyX1_ok nmX1 rfl 2 (by decide) lk5 rfl rfl hnm rfl rfl rfl dX1_init_14 0 rfl (Nat.le_of_ble_eq_true rfl) rfl ?_
  refine z_aload_n C dX1_init_17 0 rfl ?_
  refine z_bipush (v := 25) C dX1_init_18 (by decide) ?_
  refine z_newi (nn := 25) C 0 rfl lk4 (by decide) rfl (by decide) (Nat.le_of_ble_eq_true rfl) (Nat.le_of_ble_eq_true rfl) dX1_init_20 (fun q2 => ?_)
  refine z_putF (cl := vwCl) (T := TX1) (N := 13) (ci := 3) (ref := "IntervalSolverModel") (ws' := [(o, .inr (3, [.int 0, .int 1, .ref q1, .ref q2, .null, .null, .null, .null, .null, .null, .null, .long 0, .long 0])), (q1, .inl (K 0, 25, .inl (fun _ => 0))), (q2, .inl (K 0, 25, .inl (fun _ => 0)))]) C hinX1 tyX1 tyX1_ok nmX1 rfl 3 (by decide) lk6 rfl rfl hnm rfl rfl rfl dX1_init_22 0 rfl (Nat.le_of_ble_eq_true rfl) rfl ?_
  refine z_aload_n C dX1_init_25 0 rfl ?_
  refine z_iconst (v := 5) C dX1_init_26 (by decide) ?_
  refine z_newi (nn := 5) C 0 rfl lk4 (by decide) rfl (by decide) (Nat.le_of_ble_eq_true rfl) (Nat.le_of_ble_eq_true rfl) dX1_init_27 (fun q3 => ?_)
  refine z_putF (cl := vwCl) (T := TX1) (N := 13) (ci := 3) (ref := "IntervalSolverModel") (ws' := [(o, .inr (3, [.int 0, .int 1, .ref q1, .ref q2, .ref q3, .null, .null, .null, .null, .null, .null, .long 0, .long 0])), (q1, .inl (K 0, 25, .inl (fun _ => 0))), (q2, .inl (K 0, 25, .inl (fun _ => 0))), (q3, .inl (K 0, 5, .inl (fun _ => 0)))]) C hinX1 tyX1 tyX1_ok nmX1 rfl 4 (by decide) lk7 rfl rfl hnm rfl rfl rfl dX1_init_29 0 rfl (Nat.le_of_ble_eq_true rfl) rfl ?_
  refine z_aload_n C dX1_init_32 0 rfl ?_
  refine z_iconst (v := 5) C dX1_init_33 (by decide) ?_
  refine z_newi (nn := 5) C 0 rfl lk4 (by decide) rfl (by decide) (Nat.le_of_ble_eq_true rfl) (Nat.le_of_ble_eq_true rfl) dX1_init_34 (fun q4 => ?_)
  refine z_putF (cl := vwCl) (T := TX1) (N := 13) (ci := 3) (ref := "IntervalSolverModel") (ws' := [(o, .inr (3, [.int 0, .int 1, .ref q1, .ref q2, .ref q3, .ref q4, .null, .null, .null, .null, .null, .long 0, .long 0])), (q1, .inl (K 0, 25, .inl (fun _ => 0))), (q2, .inl (K 0, 25, .inl (fun _ => 0))), (q3, .inl (K 0, 5, .inl (fun _ => 0))), (q4, .inl (K 0, 5, .inl (fun _ => 0)))]) C hinX1 tyX1 tyX1_ok nmX1 rfl 5 (by decide) lk8 rfl rfl hnm rfl rfl rfl dX1_init_36 0 rfl (Nat.le_of_ble_eq_true rfl) rfl ?_
  refine z_aload_n C dX1_init_39 0 rfl ?_
  refine z_iconst (v := 5) C dX1_init_40 (by decide) ?_
  refine z_newi (nn := 5) C 0 rfl lk4 (by decide) rfl (by decide) (Nat.le_of_ble_eq_true rfl) (Nat.le_of_ble_eq_true rfl) dX1_init_41 (fun q5 => ?_)
  refine z_putF (cl := vwCl) (T := TX1) (N := 13) (ci := 3) (ref := "IntervalSolverModel") (ws' := [(o, .inr (3, [.int 0, .int 1, .ref q1, .ref q2, .ref q3, .ref q4, .ref q5, .null, .null, .null, .null, .long 0, .long 0])), (q1, .inl (K 0, 25, .inl (fun _ => 0))), (q2, .inl (K 0, 25, .inl (fun _ => 0))), (q3, .inl (K 0, 5, .inl (fun _ => 0))), (q4, .inl (K 0, 5, .inl (fun _ => 0))), (q5, .inl (K 0, 5, .inl (fun _ => 0)))]) C hinX1 tyX1 tyX1_ok nmX1 rfl 6 (by decide) lk9 rfl rfl hnm rfl rfl rfl dX1_init_43 0 rfl (Nat.le_of_ble_eq_true rfl) rfl ?_
  refine z_aload_n C dX1_init_46 0 rfl ?_
  refine z_iconst (v := 5) C dX1_init_47 (by decide) ?_
  refine z_newi (nn := 5) C 0 rfl lk4 (by decide) rfl (by decide) (Nat.le_of_ble_eq_true rfl) (Nat.le_of_ble_eq_true rfl) dX1_init_48 (fun q6 => ?_)
  refine z_putF (cl := vwCl) (T := TX1) (N := 13) (ci := 3) (ref := "IntervalSolverModel") (ws' := [(o, .inr (3, [.int 0, .int 1, .ref q1, .ref q2, .ref q3, .ref q4, .ref q5, .ref q6, .null, .null, .null, .long 0, .long 0])), (q1, .inl (K 0, 25, .inl (fun _ => 0))), (q2, .inl (K 0, 25, .inl (fun _ => 0))), (q3, .inl (K 0, 5, .inl (fun _ => 0))), (q4, .inl (K 0, 5, .inl (fun _ => 0))), (q5, .inl (K 0, 5, .inl (fun _ => 0))), (q6, .inl (K 0, 5, .inl (fun _ => 0)))]) C hinX1 tyX1 tyX1_ok nmX1 rfl 7 (by decide) lk10 rfl rfl hnm rfl rfl rfl dX1_init_50 0 rfl (Nat.le_of_ble_eq_true rfl) rfl ?_
  refine z_aload_n C dX1_init_53 0 rfl ?_
  refine z_iconst (v := 5) C dX1_init_54 (by decide) ?_
  refine z_newi (nn := 5) C 0 rfl lk4 (by decide) rfl (by decide) (Nat.le_of_ble_eq_true rfl) (Nat.le_of_ble_eq_true rfl) dX1_init_55 (fun q7 => ?_)
  refine z_putF (cl := vwCl) (T := TX1) (N := 13) (ci := 3) (ref := "IntervalSolverModel") (ws' := [(o, .inr (3, [.int 0, .int 1, .ref q1, .ref q2, .ref q3, .ref q4, .ref q5, .ref q6, .ref q7, .null, .null, .long 0, .long 0])), (q1, .inl (K 0, 25, .inl (fun _ => 0))), (q2, .inl (K 0, 25, .inl (fun _ => 0))), (q3, .inl (K 0, 5, .inl (fun _ => 0))), (q4, .inl (K 0, 5, .inl (fun _ => 0))), (q5, .inl (K 0, 5, .inl (fun _ => 0))), (q6, .inl (K 0, 5, .inl (fun _ => 0))), (q7, .inl (K 0, 5, .inl (fun _ => 0)))]) C hinX1 tyX1 tyX1_ok nmX1 rfl 8 (by decide) lk11 rfl rfl hnm rfl rfl rfl dX1_init_57 0 rfl (Nat.le_of_ble_eq_true rfl) rfl ?_
  refine z_aload_n C dX1_init_60 0 rfl ?_
  refine z_iconst (v := 5) C dX1_init_61 (by decide) ?_
  refine z_newi (nn := 5) C 0 rfl lk4 (by decide) rfl (by decide) (Nat.le_of_ble_eq_true rfl) (Nat.le_of_ble_eq_true rfl) dX1_init_62 (fun q8 => ?_)
  refine z_putF (cl := vwCl) (T := TX1) (N := 13) (ci := 3) (ref := "IntervalSolverModel") (ws' := [(o, .inr (3, [.int 0, .int 1, .ref q1, .ref q2, .ref q3, .ref q4, .ref q5, .ref q6, .ref q7, .ref q8, .null, .long 0, .long 0])), (q1, .inl (K 0, 25, .inl (fun _ => 0))), (q2, .inl (K 0, 25, .inl (fun _ => 0))), (q3, .inl (K 0, 5, .inl (fun _ => 0))), (q4, .inl (K 0, 5, .inl (fun _ => 0))), (q5, .inl (K 0, 5, .inl (fun _ => 0))), (q6, .inl (K 0, 5, .inl (fun _ => 0))), (q7, .inl (K 0, 5, .inl (fun _ => 0))), (q8, .inl (K 0, 5, .inl (fun _ => 0)))]) C hinX1 tyX1 tyX1_ok nmX1 rfl 9 (by decide) lk12 rfl rfl hnm rfl rfl rfl dX1_init_64 0 rfl (Nat.le_of_ble_eq_true rfl) rfl ?_
  refine z_aload_n C dX1_init_67 0 rfl ?_
  refine z_bipush (v := 32) C dX1_init_68 (by decide) ?_
  refine z_newl (nn := 32) C 1 rfl lk13 (by decide) rfl (by decide) (Nat.le_of_ble_eq_true rfl) (Nat.le_of_ble_eq_true rfl) dX1_init_70 (fun q9 => ?_)
  refine z_putF (cl := vwCl) (T := TX1) (N := 13) (ci := 3) (ref := "IntervalSolverModel") (ws' := [(o, .inr (3, [.int 0, .int 1, .ref q1, .ref q2, .ref q3, .ref q4, .ref q5, .ref q6, .ref q7, .ref q8, .ref q9, .long 0, .long 0])), (q1, .inl (K 0, 25, .inl (fun _ => 0))), (q2, .inl (K 0, 25, .inl (fun _ => 0))), (q3, .inl (K 0, 5, .inl (fun _ => 0))), (q4, .inl (K 0, 5, .inl (fun _ => 0))), (q5, .inl (K 0, 5, .inl (fun _ => 0))), (q6, .inl (K 0, 5, .inl (fun _ => 0))), (q7, .inl (K 0, 5, .inl (fun _ => 0))), (q8, .inl (K 0, 5, .inl (fun _ => 0))), (q9, .inl (K 1, 32, .inr (.inl (fun _ => 0))))]) C hinX1 tyX1 tyX1_ok nmX1 rfl 10 (by decide) lk14 rfl rfl hnm rfl rfl rfl dX1_init_72 0 rfl (Nat.le_of_ble_eq_true rfl) rfl ?_
  obtain ⟨b, hb⟩ : ∃ b : Nat → Nat, b = (fun i => match i with | 0 => o | 1 => q1 | 2 => q2 | 3 => q3 | 4 => q4 | 5 => q5 | 6 => q6 | 7 => q7 | 8 => q8 | 9 => q9 | _ => 0) := ⟨_, rfl⟩
  refine z_ws (ws' := w1 K b (1, (fun _ _ => 0), (fun _ _ => 0), (fun _ => 0), (fun _ => 0), (fun _ => 0), (fun _ => 0), 0, (fun _ => 0), (fun _ => 0), (fun _ => 0), 0, 0)) (by rw [hb]; rfl) ?_
  have h0 : o = b 0 := by subst hb; rfl
  rw [h0]
  refine z_aload_n C dX1_init_75 0 rfl ?_
  refine z_callVv_all (As := []) C (c1_clear l D K b 1 (fun _ _ => 0) (fun _ _ => 0) (fun _ => 0) (fun _ => 0) (fun _ => 0) (fun _ => 0) 0 (fun _ => 0) (fun _ => 0) (fun _ => 0) 0 0) (cwV 0 C.1.2.2.2.2 gX1_init_X1_clear rfl rfl rfl (by decide +kernel) ⟨Nat.le_of_ble_eq_true rfl, Nat.le_of_ble_eq_true rfl⟩) (ci := 3) rfl rfl 0 rfl dX1_init_76 rfl rfl (Nat.le_of_ble_eq_true rfl) ⟨Nat.le_of_ble_eq_true rfl, Nat.le_of_ble_eq_true rfl⟩ (fun u1 h1 => ?_)
  subst h1
  exact hend _ _ _ _ (b, (1, matz (fun _ _ => 0) 5, matz (fun _ _ => 0) 5, vecz (fun _ => 0) 0 5, vecz (fun _ => 0) 0 5, vecz (fun _ => 0) (-1000000000) 5, vecz (fun _ => 0) 1000000000 5, 0, (fun _ => 0), (fun _ => 0), (fun _ => 0), 0, 0)) dX1_init_79 (Nat.le_of_ble_eq_true rfl) (Nat.le_of_ble_eq_true rfl) ⟨h0.symm, rfl⟩
