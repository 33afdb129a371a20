set_option maxRecDepth 100000 in
set_option maxHeartbeats 4000000 in
theorem c1_sweepOnce (l : Launch) (D : va_G) (K : Nat → ClassId) (b : Nat → Nat) (N : Nat) (M : Nat → Nat → Int32) (S : Nat → Nat → Int32) (rl : Nat → Int32) (rh : Nat → Int32) (bl : Nat → Int32) (bh : Nat → Int32) (th : Int32) (fl : Nat → Int32) (fh : Nat → Int32) (pt : Nat → Int64) (nu : Int64) (de : Int64) (hN : N ≤ 5) : mI l D K yX1_sweepOnce wsX1_sweepOnce 3 89 0 0 [.ref (b 0)] (w1 K b (N, M, S, rl, rh, bl, bh, th, fl, fh, pt, nu, de)) (fun r u => r = (sw1 N M rl rh (bl, bh)).1 ∧ ∃ fl1 fh1, u = (N, M, S, rl, rh, (sw1 N M rl rh (bl, bh)).2.1, (sw1 N M rl rh (bl, bh)).2.2, th, fl1, fh1, pt, nu, de)) (w1 K b) := by
  have hinX1 : ∀ w ∈ wsX10, w ∈ wsX1_sweepOnce := by decide +kernel
  have lk0 : Cond.fieldLink RX1 7 "IntervalSolverModel" "n" "I" ∈ wsX1_sweepOnce := by decide +kernel
  have lk1 : Cond.fieldLink RX1 13 "IntervalSolverModel" "a" "[I" ∈ wsX1_sweepOnce := by decide +kernel
  refine z_met_i (cc := cX1_sweepOnce) (maxL := 2) (own := RX1) (lv := [(0, .ref (b 0))]) (by decide) rfl rfl (Nat.le_of_ble_eq_true rfl) rfl ?_
  intro p e s m below meth c args Q A C hnm hend
  refine z_aload_n C dX1_sweepOnce_0 0 rfl ?_
  refine z_callVv_all (As := []) C (c1_keep l D K b N M S rl rh bl bh th fl fh pt nu de (by omega)) (cwV 0 C.1.2.2.2.2 gX1_sweepOnce_X1_keep rfl rfl rfl (by decide +kernel) ⟨Nat.le_of_ble_eq_true rfl, Nat.le_of_ble_eq_true rfl⟩) (ci := 3) rfl rfl 0 rfl dX1_sweepOnce_1 rfl rfl (Nat.le_of_ble_eq_true rfl) ⟨Nat.le_of_ble_eq_true rfl, Nat.le_of_ble_eq_true rfl⟩ (fun u1 h1 => ?_)
  subst h1
  refine z_iconst (v := 0) C dX1_sweepOnce_4 (by decide) ?_
  refine z_istore_n (lv' := [(0, .ref (b 0)), (1, .int 0)]) C dX1_sweepOnce_5 (by decide) [1, 0] rfl ?_
  suffices L6 : ∀ (f6_t t : Nat) (x : Nat → Int32) (y : Nat → Int32), 0 ≤ t → t ≤ N → N < t + f6_t → rsS N M rl rh bl bh t = (x, y, true) → (∀ j, N ≤ j → x j = bl j ∧ y j = bh j) → zW p l e { frames := 3, cells := 0, slots := 0, locals := 89 } s m args below meth c Q 2 A s.heap D vwCl 0 0 (w1 K b (N, M, S, rl, rh, x, y, th, cyV bl fl N, cyV bh fh N, pt, nu, de)) 6 ([(0, .ref (b 0)), (1, .int (nI t))]) [] from L6 (N + 1) 0 bl bh (Nat.le_refl _) (by omega) (by omega) rfl (fun _ _ => ⟨rfl, rfl⟩)
  intro f6_t
  induction f6_t with
  | zero => intro t x y h0 h1 h2; exact absurd h2 (by omega)
  | succ f6_t ih6_t =>
    intro t x y g6_0 g6_1 g6_2 hx ho
    refine z_iload_n C dX1_sweepOnce_6 1 rfl ?_
    refine z_aload_n C dX1_sweepOnce_7 0 rfl ?_
    refine z_get (cl := vwCl) (T := TX1) (N := 13) (ci := 3) (ref := "IntervalSolverModel") C hinX1 rfl 1 (by decide) lk0 rfl dX1_sweepOnce_8 0 rfl rfl ?_
    refine z_icmp_ge (tgt := 47) C dX1_sweepOnce_11 (by decide) (fun c11 => ?_) (fun c11 => ?_)
    · have e11 : t = N := by have := (nI_leI (a := N) (b := t) (by omega) (by omega)).mp c11; omega
      rw [e11]
      rw [e11] at hx
      refine z_aload_n C dX1_sweepOnce_47 0 rfl ?_
      refine z_iconst (v := 0) C dX1_sweepOnce_48 (by decide) ?_
      refine z_callVi_all (As := [.int 0]) C (c1_judge0 l D K b N M S rl rh x y th (cyV bl fl N) (cyV bh fh N) pt nu de (by omega)) (cwV 1 C.1.2.2.2.2 gX1_sweepOnce_X1_judge rfl rfl rfl (by decide +kernel) ⟨Nat.le_of_ble_eq_true rfl, Nat.le_of_ble_eq_true rfl⟩) (ci := 3) rfl rfl 0 rfl dX1_sweepOnce_49 rfl rfl (Nat.le_of_ble_eq_true rfl) ⟨Nat.le_of_ble_eq_true rfl, Nat.le_of_ble_eq_true rfl⟩ (fun r2 u2 h2 => ?_)
      obtain ⟨rfl, rfl⟩ := h2
      exact hend _ _ _ _ _ (N, M, S, rl, rh, x, y, th, cyV bl fl N, cyV bh fh N, pt, nu, de) dX1_sweepOnce_52 (Nat.zero_le _) (Nat.zero_le _) (by unfold sw1; rw [hx]; exact ⟨jdC_congr (fun j hj => ⟨cyV_in _ _ N j hj, cyV_in _ _ N j hj⟩), _, _, rfl⟩)
    · have e11 : t < N := by have := mt (nI_leI (a := N) (b := t) (by omega) (by omega)).mpr c11; omega
      refine z_aload_n C dX1_sweepOnce_14 0 rfl ?_
      refine z_get (cl := vwCl) (T := TX1) (N := 13) (ci := 3) (ref := "IntervalSolverModel") C hinX1 rfl 2 (by decide) lk1 rfl dX1_sweepOnce_15 0 rfl rfl ?_
      refine z_iload_n C dX1_sweepOnce_18 1 rfl ?_
      refine z_iload_n C dX1_sweepOnce_19 1 rfl ?_
      refine z_callSi_none (As := [.int (nI t), .int (nI t)]) C (c1_at l D K (nI t) (nI t)) (va_cwS 2 C.1.2.2.2.2 gX1_sweepOnce_X1_at rfl rfl rfl (by decide +kernel) ⟨Nat.le_of_ble_eq_true rfl, Nat.le_of_ble_eq_true rfl⟩) dX1_sweepOnce_20 rfl rfl (Nat.le_of_ble_eq_true rfl) ⟨Nat.le_of_ble_eq_true rfl, Nat.le_of_ble_eq_true rfl⟩ (fun r3 u3 h3 => ?_)
      subst h3
      refine z_topi (nI (5 * t + t)) (at_eq rfl rfl) ?_
      refine z_iald C 0 rfl 1 rfl dX1_sweepOnce_23 (5 * t + t) rfl (by omega) (by decide) ?_
      refine z_topi (M t t) (fl5_at M t t (by omega)) ?_
      refine z_if_eq (tgt := 41) C dX1_sweepOnce_24 (by decide) (fun c24 => ?_) (fun c24 => ?_)
      · refine z_iinc (v := nI (t + 1)) (lv' := [(0, .ref (b 0)), (1, .int (nI (t + 1)))]) C dX1_sweepOnce_41 (k := 1) rfl (nI_1 t) (by decide) [1, 0] rfl ?_
        refine z_goto (tgt := 6) C dX1_sweepOnce_44 (by decide) ?_
        exact ih6_t (t + 1) x y (by omega) (by omega) (by omega) (rsS_zero hx c24) ho
      · refine z_aload_n C dX1_sweepOnce_27 0 rfl ?_
        refine z_iload_n C dX1_sweepOnce_28 1 rfl ?_
        refine z_callVi_all (As := [.int (nI t)]) C (c1_cutByRow l D K b N M S rl rh x y th (cyV bl fl N) (cyV bh fh N) pt nu de t (by omega) (by omega) c24) (cwV 1 C.1.2.2.2.2 gX1_sweepOnce_X1_cutByRow rfl rfl rfl (by decide +kernel) ⟨Nat.le_of_ble_eq_true rfl, Nat.le_of_ble_eq_true rfl⟩) (ci := 3) rfl rfl 0 rfl dX1_sweepOnce_29 rfl rfl (Nat.le_of_ble_eq_true rfl) ⟨Nat.le_of_ble_eq_true rfl, Nat.le_of_ble_eq_true rfl⟩ (fun r4 u4 h4 => ?_)
        obtain ⟨rfl, rfl⟩ := h4
        refine z_if_ne (tgt := 41) C dX1_sweepOnce_32 (by decide) (fun c32 => ?_) (fun c32 => ?_)
        · refine z_iinc (v := nI (t + 1)) (lv' := [(0, .ref (b 0)), (1, .int (nI (t + 1)))]) C dX1_sweepOnce_41 (k := 1) rfl (nI_1 t) (by decide) [1, 0] rfl ?_
          refine z_goto (tgt := 6) C dX1_sweepOnce_44 (by decide) ?_
          exact ih6_t (t + 1) ((ctB (crLo N M rl rh x y t) (crHi N M rl rh x y t) x y t).1) ((ctB (crLo N M rl rh x y t) (crHi N M rl rh x y t) x y t).2) (by omega) (by omega) (by omega) (rsS_pos hx c24 c32) (fun j hj => ⟨((ctB_out (i := t) (n := N) (by omega)) j hj).1.trans (ho j hj).1, ((ctB_out (i := t) (n := N) (by omega)) j hj).2.trans (ho j hj).2⟩)
        · refine z_aload_n C dX1_sweepOnce_35 0 rfl ?_
          refine z_iconst (v := 1) C dX1_sweepOnce_36 (by decide) ?_
          refine z_callVi_all (As := [.int 1]) C (c1_judge1 l D K b N M S rl rh ((ctB (crLo N M rl rh x y t) (crHi N M rl rh x y t) x y t).1) ((ctB (crLo N M rl rh x y t) (crHi N M rl rh x y t) x y t).2) th (cyV bl fl N) (cyV bh fh N) pt nu de (by omega)) (cwV 1 C.1.2.2.2.2 gX1_sweepOnce_X1_judge rfl rfl rfl (by decide +kernel) ⟨Nat.le_of_ble_eq_true rfl, Nat.le_of_ble_eq_true rfl⟩) (ci := 3) rfl rfl 0 rfl dX1_sweepOnce_37 rfl rfl (Nat.le_of_ble_eq_true rfl) ⟨Nat.le_of_ble_eq_true rfl, Nat.le_of_ble_eq_true rfl⟩ (fun r5 u5 h5 => ?_)
          obtain ⟨rfl, rfl⟩ := h5
          exact hend _ _ _ _ _ (N, M, S, rl, rh, cyV (cyV bl fl N) ((ctB (crLo N M rl rh x y t) (crHi N M rl rh x y t) x y t).1) N, cyV (cyV bh fh N) ((ctB (crLo N M rl rh x y t) (crHi N M rl rh x y t) x y t).2) N, th, cyV bl fl N, cyV bh fh N, pt, nu, de) dX1_sweepOnce_40 (Nat.zero_le _) (Nat.zero_le _) (by have hz := rsS_false (rsS_neg hx c24 c32) (N - (t + 1)); rw [show t + 1 + (N - (t + 1)) = N by omega] at hz; unfold sw1; rw [hz]; exact ⟨rfl, cyV bl fl N, cyV bh fh N, by rw [cyV_back (fun j hj => ((ctB_out (i := t) (n := N) (by omega)) j hj).1.trans (ho j hj).1), cyV_back (fun j hj => ((ctB_out (i := t) (n := N) (by omega)) j hj).2.trans (ho j hj).2)]; rfl⟩)

set_option maxRecDepth 100000 in
set_option maxHeartbeats 4000000 in
theorem c1_sweep (l : Launch) (D : va_G) (K : Nat → ClassId) (b : Nat → Nat) (N : Nat) (M : Nat → Nat → Int32) (S : Nat → Nat → Int32) (rl : Nat → Int32) (rh : Nat → Int32) (bl : Nat → Int32) (bh : Nat → Int32) (th : Int32) (fl : Nat → Int32) (fh : Nat → Int32) (pt : Nat → Int64) (nu : Int64) (de : Int64) (hN : N ≤ 5) : mI l D K yX1_sweep wsX1_sweep 4 110 0 0 [.ref (b 0)] (w1 K b (N, M, S, rl, rh, bl, bh, th, fl, fh, pt, nu, de)) (fun r u => r = (sw1 N M rl rh (bl, bh)).1 ∧ ∃ fl1 fh1, u = (N, M, S, rl, rh, (sw1 N M rl rh (bl, bh)).2.1, (sw1 N M rl rh (bl, bh)).2.2, 0, fl1, fh1, pt, nu, de)) (w1 K b) := by
  have hinX1 : ∀ w ∈ wsX10, w ∈ wsX1_sweep := by decide +kernel
  have lk0 : Cond.fieldLink RX1 45 "IntervalSolverModel" "thrown" "I" ∈ wsX1_sweep := by decide +kernel
  refine z_met_i (cc := cX1_sweep) (maxL := 1) (own := RX1) (lv := [(0, .ref (b 0))]) (by decide) rfl rfl (Nat.le_of_ble_eq_true rfl) rfl ?_
  intro p e s m below meth c args Q A C hnm hend
  refine z_aload_n C dX1_sweep_0 0 rfl ?_
  refine z_iconst (v := 0) C dX1_sweep_1 (by decide) ?_
  refine z_put (cl := vwCl) (T := TX1) (N := 13) (ci := 3) (ref := "IntervalSolverModel") (ws' := w1 K b (N, M, S, rl, rh, bl, bh, 0, fl, fh, pt, nu, de)) C hinX1 tyX1 tyX1_ok nmX1 rfl 0 (by decide) lk0 rfl rfl rfl rfl dX1_sweep_2 0 rfl (Nat.le_of_ble_eq_true rfl) rfl ?_
  refine z_aload_n C dX1_sweep_5 0 rfl ?_
  refine z_callVi_all (As := []) C (c1_sweepOnce l D K b N M S rl rh bl bh 0 fl fh pt nu de (by omega)) (cwV 0 C.1.2.2.2.2 gX1_sweep_X1_sweepOnce rfl rfl rfl (by decide +kernel) ⟨Nat.le_of_ble_eq_true rfl, Nat.le_of_ble_eq_true rfl⟩) (ci := 3) rfl rfl 0 rfl dX1_sweep_6 rfl rfl (Nat.le_of_ble_eq_true rfl) ⟨Nat.le_of_ble_eq_true rfl, Nat.le_of_ble_eq_true rfl⟩ (fun r1 u1 h1 => ?_)
  obtain ⟨rfl, fl_1, fh_1, rfl⟩ := h1
  exact hend _ _ _ _ _ (N, M, S, rl, rh, (sw1 N M rl rh (bl, bh)).2.1, (sw1 N M rl rh (bl, bh)).2.2, 0, fl_1, fh_1, pt, nu, de) dX1_sweep_9 (Nat.zero_le _) (Nat.zero_le _) ⟨rfl, _, _, rfl⟩

set_option maxRecDepth 100000 in
set_option maxHeartbeats 4000000 in
theorem c1_contract (l : Launch) (D : va_G) (K : Nat → ClassId) (b : Nat → Nat) (N : Nat) (M : Nat → Nat → Int32) (S : Nat → Nat → Int32) (rl : Nat → Int32) (rh : Nat → Int32) (bl : Nat → Int32) (bh : Nat → Int32) (th : Int32) (fl : Nat → Int32) (fh : Nat → Int32) (pt : Nat → Int64) (nu : Int64) (de : Int64) (p0 : Int32) (hN : N ≤ 5) : mI l D K yX1_contract wsX1_contract 4 110 0 0 [.ref (b 0), .int p0] (w1 K b (N, M, S, rl, rh, bl, bh, th, fl, fh, pt, nu, de)) (fun r u => r = onlyIf (kCon p0) (cnS (sw1 N M rl rh) (ix p0) 0 (bl, bh)).1 0 ∧ ∃ fl1 fh1, u = (N, M, S, rl, rh, onlyIf (kCon p0) (cnS (sw1 N M rl rh) (ix p0) 0 (bl, bh)).2.1 bl, onlyIf (kCon p0) (cnS (sw1 N M rl rh) (ix p0) 0 (bl, bh)).2.2 bh, kCon p0, fl1, fh1, pt, nu, de)) (w1 K b) := by
  have hinX1 : ∀ w ∈ wsX10, w ∈ wsX1_contract := by decide +kernel
  have lk0 : Cond.fieldLink RX1 45 "IntervalSolverModel" "thrown" "I" ∈ wsX1_contract := by decide +kernel
  refine z_met_i (cc := cX1_contract) (maxL := 4) (own := RX1) (lv := [(0, .ref (b 0)), (1, .int p0)]) (by decide) rfl rfl (Nat.le_of_ble_eq_true rfl) rfl ?_
  intro p e s m below meth c args Q A C hnm hend
  refine z_aload_n C dX1_contract_0 0 rfl ?_
  refine z_iconst (v := 0) C dX1_contract_1 (by decide) ?_
  refine z_put (cl := vwCl) (T := TX1) (N := 13) (ci := 3) (ref := "IntervalSolverModel") (ws' := w1 K b (N, M, S, rl, rh, bl, bh, 0, fl, fh, pt, nu, de)) C hinX1 tyX1 tyX1_ok nmX1 rfl 0 (by decide) lk0 rfl rfl rfl rfl dX1_contract_2 0 rfl (Nat.le_of_ble_eq_true rfl) rfl ?_
  refine z_iload_n C dX1_contract_5 1 rfl ?_
  refine z_iconst (v := 1) C dX1_contract_6 (by decide) ?_
  refine z_icmp_lt (tgt := 17) C dX1_contract_7 (by decide) (fun c7 => ?_) (fun c7 => ?_)
  · refine z_aload_n C dX1_contract_17 0 rfl ?_
    refine z_iconst (v := 1) C dX1_contract_18 (by decide) ?_
    refine z_callVi_all (As := [.int 1]) C (c1_fail l D K b N M S rl rh bl bh 0 fl fh pt nu de 1) (cwV 1 C.1.2.2.2.2 gX1_contract_X1_fail rfl rfl rfl (by decide +kernel) ⟨Nat.le_of_ble_eq_true rfl, Nat.le_of_ble_eq_true rfl⟩) (ci := 3) rfl rfl 0 rfl dX1_contract_19 rfl rfl (Nat.le_of_ble_eq_true rfl) ⟨Nat.le_of_ble_eq_true rfl, Nat.le_of_ble_eq_true rfl⟩ (fun r1 u1 h1 => ?_)
    obtain ⟨rfl, rfl⟩ := h1
    exact hend _ _ _ _ _ (N, M, S, rl, rh, bl, bh, 1, fl, fh, pt, nu, de) dX1_contract_22 (Nat.zero_le _) (Nat.zero_le _) (by have hk : kCon p0 = 1 := if_neg (by rintro ⟨h1, h2⟩; first | exact absurd h1 (Int32.not_le.mpr c7) | exact c14 h2); rw [hk]; exact ⟨rfl, _, _, rfl⟩)
  · refine z_iload_n C dX1_contract_10 1 rfl ?_
    refine z_sipush (v := 1000) C dX1_contract_11 (by decide) ?_
    refine z_icmp_le (tgt := 23) C dX1_contract_14 (by decide) (fun c14 => ?_) (fun c14 => ?_)
    · obtain ⟨e_p0, l_p0⟩ := kCon_at (Int32.not_lt.mp c7) c14
      refine z_iconst (v := 1) C dX1_contract_23 (by decide) ?_
      refine z_istore_n (lv' := [(0, .ref (b 0)), (1, .int p0), (2, .int 1)]) C dX1_contract_24 (by decide) [1, 2, 0] rfl ?_
      suffices L25 : ∀ (f25_k k : Nat) (x : Nat → Int32) (y : Nat → Int32) (gl : Nat → Int32) (gh : Nat → Int32), 0 ≤ k → k ≤ ix p0 → ix p0 < k + f25_k → cnS (sw1 N M rl rh) (ix p0 - k) k (x, y) = (cnS (sw1 N M rl rh) (ix p0) 0 (bl, bh)) → zW p l e { frames := 4, cells := 0, slots := 0, locals := 110 } s m args below meth c Q 4 A s.heap D vwCl 0 0 (w1 K b (N, M, S, rl, rh, x, y, 0, gl, gh, pt, nu, de)) 25 ([(0, .ref (b 0)), (1, .int p0), (2, .int (nI (k + 1)))]) [] from L25 (ix p0 + 1) 0 bl bh fl fh (Nat.le_refl _) (by omega) (by omega) rfl
      intro f25_k
      induction f25_k with
      | zero => intro k x y gl gh h0 h1 h2; exact absurd h2 (by omega)
      | succ f25_k ih25_k =>
        intro k x y gl gh g25_0 g25_1 g25_2 hx
        refine z_iload_n C dX1_contract_25 2 rfl ?_
        refine z_iload_n C dX1_contract_26 1 rfl ?_
        refine z_icmp_gt (tgt := 54) C dX1_contract_27 (by decide) (fun c27 => ?_) (fun c27 => ?_)
        · have e27 : k = ix p0 := by rw [e_p0] at c27; have := (nI_ltI (a := ix p0) (b := k + 1) (by omega) (by omega)).mp c27; omega
          rw [show ix p0 - k = 0 by omega] at hx
          refine z_iload_n C dX1_contract_54 1 rfl ?_
          exact hend _ _ _ _ _ (N, M, S, rl, rh, x, y, 0, gl, gh, pt, nu, de) dX1_contract_55 (Nat.zero_le _) (Nat.zero_le _) (by have hk : kCon p0 = 0 := if_pos ⟨Int32.not_lt.mp c7, c14⟩; rw [hk, onlyIf_0 rfl, onlyIf_0 rfl, onlyIf_0 rfl, ← hx]; exact ⟨by rw [e_p0, ← e27]; rfl, _, _, rfl⟩)
        · have e27 : k < ix p0 := by rw [e_p0] at c27; have := mt (nI_ltI (a := ix p0) (b := k + 1) (by omega) (by omega)).mpr c27; omega
          refine z_aload_n C dX1_contract_30 0 rfl ?_
          refine z_callVi_all (As := []) C (c1_sweepOnce l D K b N M S rl rh x y 0 gl gh pt nu de (by omega)) (cwV 0 C.1.2.2.2.2 gX1_contract_X1_sweepOnce rfl rfl rfl (by decide +kernel) ⟨Nat.le_of_ble_eq_true rfl, Nat.le_of_ble_eq_true rfl⟩) (ci := 3) rfl rfl 0 rfl dX1_contract_31 rfl rfl (Nat.le_of_ble_eq_true rfl) ⟨Nat.le_of_ble_eq_true rfl, Nat.le_of_ble_eq_true rfl⟩ (fun r2 u2 h2 => ?_)
          obtain ⟨rfl, fl_2, fh_2, rfl⟩ := h2
          refine z_istore_n (lv' := [(0, .ref (b 0)), (1, .int p0), (2, .int (nI (k + 1))), (3, .int ((sw1 N M rl rh (x, y)).1))]) C dX1_contract_34 (by decide) [1, 2, 3, 0] rfl ?_
          refine z_iload_n C dX1_contract_35 3 rfl ?_
          refine z_if_ge (tgt := 42) C dX1_contract_36 (by decide) (fun c36 => ?_) (fun c36 => ?_)
          · refine z_iload_n C dX1_contract_42 3 rfl ?_
            refine z_if_ne (tgt := 48) C dX1_contract_43 (by decide) (fun c43 => ?_) (fun c43 => ?_)
            · refine z_iinc (v := nI ((k + 1) + 1)) (lv' := [(0, .ref (b 0)), (1, .int p0), (2, .int (nI ((k + 1) + 1))), (3, .int ((sw1 N M rl rh (x, y)).1))]) C dX1_contract_48 (k := 2) rfl (nI_1 (k + 1)) (by decide) [1, 2, 0, 3] rfl ?_
              refine z_goto (tgt := 25) C dX1_contract_51 (by decide) ?_
              refine z_lv (lv' := [(0, .ref (b 0)), (1, .int p0), (2, .int (nI ((k + 1) + 1)))]) [0, 1, 2] rfl ?_
              exact ih25_k (k + 1) ((sw1 N M rl rh (x, y)).2.1) ((sw1 N M rl rh (x, y)).2.2) fl_2 fh_2 (by omega) (by omega) (by omega) (by rw [← hx, cn_S (by omega : ix p0 - k = (ix p0 - (k + 1)) + 1), if_neg (Int32.not_lt.mpr c36), if_neg c43])
            · refine z_iload_n C dX1_contract_46 2 rfl ?_
              exact hend _ _ _ _ _ (N, M, S, rl, rh, (sw1 N M rl rh (x, y)).2.1, (sw1 N M rl rh (x, y)).2.2, 0, fl_2, fh_2, pt, nu, de) dX1_contract_47 (Nat.zero_le _) (Nat.zero_le _) (by have hk : kCon p0 = 0 := if_pos ⟨Int32.not_lt.mp c7, c14⟩; rw [hk, onlyIf_0 rfl, onlyIf_0 rfl, onlyIf_0 rfl, ← hx]; rw [cn_S (by omega : ix p0 - k = (ix p0 - (k + 1)) + 1), if_neg (Int32.not_lt.mpr c36), if_pos c43]; exact ⟨rfl, _, _, rfl⟩)
          · refine z_iload_n C dX1_contract_39 2 rfl ?_
            refine z_ineg C dX1_contract_40 ?_
            exact hend _ _ _ _ _ (N, M, S, rl, rh, (sw1 N M rl rh (x, y)).2.1, (sw1 N M rl rh (x, y)).2.2, 0, fl_2, fh_2, pt, nu, de) dX1_contract_41 (Nat.zero_le _) (Nat.zero_le _) (by have hk : kCon p0 = 0 := if_pos ⟨Int32.not_lt.mp c7, c14⟩; rw [hk, onlyIf_0 rfl, onlyIf_0 rfl, onlyIf_0 rfl, ← hx]; rw [cn_S (by omega : ix p0 - k = (ix p0 - (k + 1)) + 1), if_pos (Int32.not_le.mp c36)]; exact ⟨rfl, _, _, rfl⟩)
    · refine z_aload_n C dX1_contract_17 0 rfl ?_
      refine z_iconst (v := 1) C dX1_contract_18 (by decide) ?_
      refine z_callVi_all (As := [.int 1]) C (c1_fail l D K b N M S rl rh bl bh 0 fl fh pt nu de 1) (cwV 1 C.1.2.2.2.2 gX1_contract_X1_fail rfl rfl rfl (by decide +kernel) ⟨Nat.le_of_ble_eq_true rfl, Nat.le_of_ble_eq_true rfl⟩) (ci := 3) rfl rfl 0 rfl dX1_contract_19 rfl rfl (Nat.le_of_ble_eq_true rfl) ⟨Nat.le_of_ble_eq_true rfl, Nat.le_of_ble_eq_true rfl⟩ (fun r3 u3 h3 => ?_)
      obtain ⟨rfl, rfl⟩ := h3
      exact hend _ _ _ _ _ (N, M, S, rl, rh, bl, bh, 1, fl, fh, pt, nu, de) dX1_contract_22 (Nat.zero_le _) (Nat.zero_le _) (by have hk : kCon p0 = 1 := if_neg (by rintro ⟨h1, h2⟩; first | exact absurd h1 (Int32.not_le.mpr c7) | exact c14 h2); rw [hk]; exact ⟨rfl, _, _, rfl⟩)

set_option maxRecDepth 100000 in
set_option maxHeartbeats 4000000 in
theorem c1_middle (l : Launch) (D : va_G) (K : Nat → ClassId) (b : Nat → Nat) (N : Nat) (M : Nat → Nat → Int32) (S : Nat → Nat → Int32) (rl : Nat → Int32) (rh : Nat → Int32) (bl : Nat → Int32) (bh : Nat → Int32) (th : Int32) (fl : Nat → Int32) (fh : Nat → Int32) (pt : Nat → Int64) (nu : Int64) (de : Int64) (i : Nat) (hi : i < N) (hN : N ≤ 5) : mL l D K yX1_middle wsX1_middle 1 21 0 0 [.ref (b 0), .int (nI i)] (w1 K b (N, M, S, rl, rh, bl, bh, th, fl, fh, pt, nu, de)) (fun r u => r = mdS M bl bh i N ∧ u = (N, M, S, rl, rh, bl, bh, th, fl, fh, pt, nu, de)) (w1 K b) := by
  have hinX1 : ∀ w ∈ wsX10, w ∈ wsX1_middle := by decide +kernel
  have lk0 : Cond.fieldLink RX1 7 "IntervalSolverModel" "n" "I" ∈ wsX1_middle := by decide +kernel
  have lk1 : Cond.fieldLink RX1 13 "IntervalSolverModel" "a" "[I" ∈ wsX1_middle := by decide +kernel
  have lk2 : Cond.fieldLink RX1 26 "IntervalSolverModel" "boxLows" "[I" ∈ wsX1_middle := by decide +kernel
  have lk3 : Cond.fieldLink RX1 29 "IntervalSolverModel" "boxHighs" "[I" ∈ wsX1_middle := by decide +kernel
  refine z_met_l (cc := cX1_middle) (maxL := 5) (own := RX1) (lv := [(0, .ref (b 0)), (1, .int (nI i))]) (by decide) rfl rfl (Nat.le_of_ble_eq_true rfl) rfl ?_
  intro p e s m below meth c args Q A C hnm hend
  refine z_lconst (v := 0) C dX1_middle_0 (by decide) ?_
  refine z_lstore_n (lv' := [(0, .ref (b 0)), (1, .int (nI i)), (2, .long 0)]) C dX1_middle_1 (by decide) [1, 2, 0] rfl ?_
  refine z_iconst (v := 0) C dX1_middle_2 (by decide) ?_
  refine z_istore (lv' := [(0, .ref (b 0)), (1, .int (nI i)), (2, .long 0), (4, .int 0)]) C dX1_middle_3 (by decide) [1, 2, 3, 0] rfl ?_
  suffices L5 : ∀ (f5_j j : Nat), 0 ≤ j → j ≤ N → N < j + f5_j → zW p l e { frames := 1, cells := 0, slots := 0, locals := 21 } s m args below meth c Q 5 A s.heap D vwCl 0 0 (w1 K b (N, M, S, rl, rh, bl, bh, th, fl, fh, pt, nu, de)) 5 ([(0, .ref (b 0)), (1, .int (nI i)), (2, .long (mdS M bl bh i j)), (4, .int (nI j))]) [] from L5 (N + 1) 0 (Nat.le_refl _) (by omega) (by omega)
  intro f5_j
  induction f5_j with
  | zero => intro j h0 h1 h2; exact absurd h2 (by omega)
  | succ f5_j ih5_j =>
    intro j g5_0 g5_1 g5_2
    refine z_iload C dX1_middle_5 3 rfl ?_
    refine z_aload_n C dX1_middle_7 0 rfl ?_
    refine z_get (cl := vwCl) (T := TX1) (N := 13) (ci := 3) (ref := "IntervalSolverModel") C hinX1 rfl 1 (by decide) lk0 rfl dX1_middle_8 0 rfl rfl ?_
    refine z_icmp_ge (tgt := 53) C dX1_middle_11 (by decide) (fun c11 => ?_) (fun c11 => ?_)
    · have e11 : j = N := by have := (nI_leI (a := N) (b := j) (by omega) (by omega)).mp c11; omega
      rw [e11]
      refine z_lload_n C dX1_middle_53 2 rfl ?_
      exact hend _ _ _ _ _ (N, M, S, rl, rh, bl, bh, th, fl, fh, pt, nu, de) dX1_middle_54 (Nat.zero_le _) (Nat.zero_le _) ⟨rfl, rfl⟩
    · have e11 : j < N := by have := mt (nI_leI (a := N) (b := j) (by omega) (by omega)).mpr c11; omega
      refine z_lload_n C dX1_middle_14 2 rfl ?_
      refine z_aload_n C dX1_middle_15 0 rfl ?_
      refine z_get (cl := vwCl) (T := TX1) (N := 13) (ci := 3) (ref := "IntervalSolverModel") C hinX1 rfl 2 (by decide) lk1 rfl dX1_middle_16 0 rfl rfl ?_
      refine z_iload_n C dX1_middle_19 1 rfl ?_
      refine z_iload C dX1_middle_20 3 rfl ?_
      refine z_callSi_none (As := [.int (nI i), .int (nI j)]) C (c1_at l D K (nI i) (nI j)) (va_cwS 2 C.1.2.2.2.2 gX1_middle_X1_at rfl rfl rfl (by decide +kernel) ⟨Nat.le_of_ble_eq_true rfl, Nat.le_of_ble_eq_true rfl⟩) dX1_middle_22 rfl rfl (Nat.le_of_ble_eq_true rfl) ⟨Nat.le_of_ble_eq_true rfl, Nat.le_of_ble_eq_true rfl⟩ (fun r1 u1 h1 => ?_)
      subst h1
      refine z_topi (nI (5 * i + j)) (at_eq rfl rfl) ?_
      refine z_iald C 0 rfl 1 rfl dX1_middle_25 (5 * i + j) rfl (by omega) (by decide) ?_
      refine z_topi (M i j) (fl5_at M i j (by omega)) ?_
      refine z_i2l C dX1_middle_26 ?_
      refine z_aload_n C dX1_middle_27 0 rfl ?_
      refine z_get (cl := vwCl) (T := TX1) (N := 13) (ci := 3) (ref := "IntervalSolverModel") C hinX1 rfl 6 (by decide) lk2 rfl dX1_middle_28 0 rfl rfl ?_
      refine z_iload C dX1_middle_31 3 rfl ?_
      refine z_iald C 0 rfl 5 rfl dX1_middle_33 j rfl (by omega) (by decide) ?_
      refine z_i2l C dX1_middle_34 ?_
      refine z_aload_n C dX1_middle_35 0 rfl ?_
      refine z_get (cl := vwCl) (T := TX1) (N := 13) (ci := 3) (ref := "IntervalSolverModel") C hinX1 rfl 7 (by decide) lk3 rfl dX1_middle_36 0 rfl rfl ?_
      refine z_iload C dX1_middle_39 3 rfl ?_
      refine z_iald C 0 rfl 6 rfl dX1_middle_41 j rfl (by omega) (by decide) ?_
      refine z_i2l C dX1_middle_42 ?_
      refine z_ladd C dX1_middle_43 ?_
      refine z_lmul C dX1_middle_44 ?_
      refine z_ladd C dX1_middle_45 ?_
      refine z_lstore_n (lv' := [(0, .ref (b 0)), (1, .int (nI i)), (2, .long ((mdS M bl bh i j) + (((M i j).toInt64) * (((bl j).toInt64) + ((bh j).toInt64))))), (4, .int (nI j))]) C dX1_middle_46 (by decide) [1, 2, 0, 3] rfl ?_
      refine z_iinc (v := nI (j + 1)) (lv' := [(0, .ref (b 0)), (1, .int (nI i)), (2, .long ((mdS M bl bh i j) + (((M i j).toInt64) * (((bl j).toInt64) + ((bh j).toInt64))))), (4, .int (nI (j + 1)))]) C dX1_middle_47 (k := 3) rfl (nI_1 j) (by decide) [1, 2, 3, 0] rfl ?_
      refine z_goto (tgt := 5) C dX1_middle_50 (by decide) ?_
      exact ih5_j (j + 1) (by omega) (by omega) (by omega)
