set_option maxRecDepth 100000 in
set_option maxHeartbeats 4000000 in
theorem c0_contract (l : Launch) (D : va_G) (K : Nat → ClassId) (a : Nat → Nat) (N : Nat) (M : Nat → Nat → Int32) (S : Nat → Nat → Int32) (rl : Nat → Int32) (rh : Nat → Int32) (bl : Nat → Int32) (bh : Nat → Int32) (kl : Nat → Int32) (kh : Nat → Int32) (mn : Nat → Int64) (vc : Nat → Int64) (iv : Nat → Nat → Int64) (sc : Int64) (p0 : Int32) (hst : l.stackTraces = false) (hN : N ≤ 5) : xI l D K yX0_contract wsX0_contract 6 123 1 6 [.ref (a 0), .int p0] (w0 K a (N, M, S, rl, rh, bl, bh, kl, kh, mn, vc, iv, sc)) (fun r u => kCon p0 = 0 ∧ r = (cnS (sw0 N M rl rh) (ix p0) 0 (bl, bh)).1 ∧ ∃ kl1 kh1, u = (N, M, S, rl, rh, (cnS (sw0 N M rl rh) (ix p0) 0 (bl, bh)).2.1, (cnS (sw0 N M rl rh) (ix p0) 0 (bl, bh)).2.2, kl1, kh1, mn, vc, iv, sc)) (fun E u => (kCon p0 = 1 ∧ E = "java/lang/IllegalArgumentException") ∧ u = (N, M, S, rl, rh, bl, bh, kl, kh, mn, vc, iv, sc)) (w0 K a) := by
  have hinX0 : ∀ w ∈ wsX00, w ∈ wsX0_contract := by decide +kernel
  have lk0 : Cond.classLink RX0 52 "java/lang/IllegalArgumentException" ∈ wsX0_contract := by decide +kernel
  have lk1 : Cond.initialized "java/lang/IllegalArgumentException" ∈ wsX0_contract := by decide +kernel
  refine x_met_i (cc := cX0_contract) (maxL := 4) (lv := [(0, .ref (a 0)), (1, .int p0)]) hst (by decide +kernel) rfl rfl (Nat.le_of_ble_eq_true rfl) rfl ?_
  intro p e s m below meth c args Q A C hend hthr
  refine z_iload_n C dX0_contract_0 1 rfl ?_
  refine z_iconst (v := 1) C dX0_contract_1 (by decide) ?_
  refine z_icmp_lt (tgt := 12) C dX0_contract_2 (by decide) (fun c2 => ?_) (fun c2 => ?_)
  · exact hthr _ _ _ _ 52 172 56 "java/lang/IllegalArgumentException" "the number of sweeps is not 1 to 1000" (N, M, S, rl, rh, bl, bh, kl, kh, mn, vc, iv, sc) lk0 lk1 (by decide +kernel) (fun w hw => List.mem_cons_of_mem _ (List.mem_append_right _ hw)) (by decide +kernel) dX0_contract_12 dX0_contract_15 dX0_contract_16 dX0_contract_18 dX0_contract_21 ⟨Nat.le_of_ble_eq_true rfl, Nat.le_of_ble_eq_true rfl, Nat.le_of_ble_eq_true rfl, Nat.le_of_ble_eq_true rfl⟩ (Nat.le_of_ble_eq_true rfl) (Nat.le_of_ble_eq_true rfl) ⟨⟨if_neg (by rintro ⟨h1, h2⟩; first | exact absurd h1 (Int32.not_le.mpr c2) | exact c9 h2), rfl⟩, rfl⟩
  · refine z_iload_n C dX0_contract_5 1 rfl ?_
    refine z_sipush (v := 1000) C dX0_contract_6 (by decide) ?_
    refine z_icmp_le (tgt := 22) C dX0_contract_9 (by decide) (fun c9 => ?_) (fun c9 => ?_)
    · obtain ⟨e_p0, l_p0⟩ := kCon_at (Int32.not_lt.mp c2) c9
      refine z_iconst (v := 1) C dX0_contract_22 (by decide) ?_
      refine z_istore_n (lv' := [(0, .ref (a 0)), (1, .int p0), (2, .int 1)]) C dX0_contract_23 (by decide) [1, 2, 0] rfl ?_
      suffices L24 : ∀ (f24_k k : Nat) (x : Nat → Int32) (y : Nat → Int32) (gl : Nat → Int32) (gh : Nat → Int32), 0 ≤ k → k ≤ ix p0 → ix p0 < k + f24_k → cnS (sw0 N M rl rh) (ix p0 - k) k (x, y) = (cnS (sw0 N M rl rh) (ix p0) 0 (bl, bh)) → zW p l e { frames := 6, cells := 1, slots := 6, locals := 123 } s m args below meth c Q 4 A s.heap D vwCl 0 0 (w0 K a (N, M, S, rl, rh, x, y, gl, gh, mn, vc, iv, sc)) 24 ([(0, .ref (a 0)), (1, .int p0), (2, .int (nI (k + 1)))]) [] from L24 (ix p0 + 1) 0 bl bh kl kh (Nat.le_refl _) (by omega) (by omega) rfl
      intro f24_k
      induction f24_k with
      | zero => intro k x y gl gh h0 h1 h2; exact absurd h2 (by omega)
      | succ f24_k ih24_k =>
        intro k x y gl gh g24_0 g24_1 g24_2 hx
        refine z_iload_n C dX0_contract_24 2 rfl ?_
        refine z_iload_n C dX0_contract_25 1 rfl ?_
        refine z_icmp_gt (tgt := 53) C dX0_contract_26 (by decide) (fun c26 => ?_) (fun c26 => ?_)
        · have e26 : k = ix p0 := by rw [e_p0] at c26; have := (nI_ltI (a := ix p0) (b := k + 1) (by omega) (by omega)).mp c26; omega
          rw [show ix p0 - k = 0 by omega] at hx
          refine z_iload_n C dX0_contract_53 1 rfl ?_
          exact hend _ _ _ _ _ (N, M, S, rl, rh, x, y, gl, gh, mn, vc, iv, sc) dX0_contract_54 (by omega) (by omega) ⟨if_pos ⟨Int32.not_lt.mp c2, c9⟩, by rw [← hx, e_p0, ← e26]; rfl, _, _, by rw [← hx]; rfl⟩
        · have e26 : k < ix p0 := by rw [e_p0] at c26; have := mt (nI_ltI (a := ix p0) (b := k + 1) (by omega) (by omega)).mpr c26; omega
          refine z_aload_n C dX0_contract_29 0 rfl ?_
          refine z_callVi_all (As := []) C (c0_sweep l D K a N M S rl rh x y gl gh mn vc iv sc (by omega)) (cwV 0 C.1.2.2.2.2 gX0_contract_X0_sweep rfl rfl rfl (by decide +kernel) ⟨Nat.le_of_ble_eq_true rfl, Nat.le_of_ble_eq_true rfl⟩) (ci := 0) rfl rfl 0 rfl dX0_contract_30 rfl rfl (Nat.le_of_ble_eq_true rfl) ⟨Nat.le_of_ble_eq_true rfl, Nat.le_of_ble_eq_true rfl⟩ (fun r1 u1 h1 => ?_)
          obtain ⟨hr_1, kl_1, kh_1, hu_1⟩ := h1
          rw [sw0_1] at hr_1; rw [sw0_2, sw0_3] at hu_1
          subst hr_1; subst hu_1
          refine z_istore_n (lv' := [(0, .ref (a 0)), (1, .int p0), (2, .int (nI (k + 1))), (3, .int ((sw0 N M rl rh (x, y)).1))]) C dX0_contract_33 (by decide) [1, 2, 3, 0] rfl ?_
          refine z_iload_n C dX0_contract_34 3 rfl ?_
          refine z_if_ge (tgt := 41) C dX0_contract_35 (by decide) (fun c35 => ?_) (fun c35 => ?_)
          · refine z_iload_n C dX0_contract_41 3 rfl ?_
            refine z_if_ne (tgt := 47) C dX0_contract_42 (by decide) (fun c42 => ?_) (fun c42 => ?_)
            · refine z_iinc (v := nI ((k + 1) + 1)) (lv' := [(0, .ref (a 0)), (1, .int p0), (2, .int (nI ((k + 1) + 1))), (3, .int ((sw0 N M rl rh (x, y)).1))]) C dX0_contract_47 (k := 2) rfl (nI_1 (k + 1)) (by decide) [1, 2, 0, 3] rfl ?_
              refine z_goto (tgt := 24) C dX0_contract_50 (by decide) ?_
              refine z_lv (lv' := [(0, .ref (a 0)), (1, .int p0), (2, .int (nI ((k + 1) + 1)))]) [0, 1, 2] rfl ?_
              exact ih24_k (k + 1) ((sw0 N M rl rh (x, y)).2.1) ((sw0 N M rl rh (x, y)).2.2) kl_1 kh_1 (by omega) (by omega) (by omega) (by rw [← hx, cn_S (by omega : ix p0 - k = (ix p0 - (k + 1)) + 1), if_neg (Int32.not_lt.mpr c35), if_neg c42])
            · refine z_iload_n C dX0_contract_45 2 rfl ?_
              exact hend _ _ _ _ _ (N, M, S, rl, rh, (sw0 N M rl rh (x, y)).2.1, (sw0 N M rl rh (x, y)).2.2, kl_1, kh_1, mn, vc, iv, sc) dX0_contract_46 (by omega) (by omega) ⟨if_pos ⟨Int32.not_lt.mp c2, c9⟩, by rw [← hx, cn_S (by omega : ix p0 - k = (ix p0 - (k + 1)) + 1), if_neg (Int32.not_lt.mpr c35), if_pos c42], _, _, by rw [← hx, cn_S (by omega : ix p0 - k = (ix p0 - (k + 1)) + 1), if_neg (Int32.not_lt.mpr c35), if_pos c42]⟩
          · refine z_iload_n C dX0_contract_38 2 rfl ?_
            refine z_ineg C dX0_contract_39 ?_
            exact hend _ _ _ _ _ (N, M, S, rl, rh, (sw0 N M rl rh (x, y)).2.1, (sw0 N M rl rh (x, y)).2.2, kl_1, kh_1, mn, vc, iv, sc) dX0_contract_40 (by omega) (by omega) ⟨if_pos ⟨Int32.not_lt.mp c2, c9⟩, by rw [← hx, cn_S (by omega : ix p0 - k = (ix p0 - (k + 1)) + 1), if_pos (Int32.not_le.mp c35)], _, _, by rw [← hx, cn_S (by omega : ix p0 - k = (ix p0 - (k + 1)) + 1), if_pos (Int32.not_le.mp c35)]⟩
    · exact hthr _ _ _ _ 52 172 56 "java/lang/IllegalArgumentException" "the number of sweeps is not 1 to 1000" (N, M, S, rl, rh, bl, bh, kl, kh, mn, vc, iv, sc) lk0 lk1 (by decide +kernel) (fun w hw => List.mem_cons_of_mem _ (List.mem_append_right _ hw)) (by decide +kernel) dX0_contract_12 dX0_contract_15 dX0_contract_16 dX0_contract_18 dX0_contract_21 ⟨Nat.le_of_ble_eq_true rfl, Nat.le_of_ble_eq_true rfl, Nat.le_of_ble_eq_true rfl, Nat.le_of_ble_eq_true rfl⟩ (Nat.le_of_ble_eq_true rfl) (Nat.le_of_ble_eq_true rfl) ⟨⟨if_neg (by rintro ⟨h1, h2⟩; first | exact absurd h1 (Int32.not_le.mpr c2) | exact c9 h2), rfl⟩, rfl⟩

set_option maxRecDepth 100000 in
set_option maxHeartbeats 4000000 in
theorem c0_sharpen (l : Launch) (D : va_G) (K : Nat → ClassId) (a : Nat → Nat) (N : Nat) (M : Nat → Nat → Int32) (S : Nat → Nat → Int32) (rl : Nat → Int32) (rh : Nat → Int32) (bl : Nat → Int32) (bh : Nat → Int32) (kl : Nat → Int32) (kh : Nat → Int32) (mn : Nat → Int64) (vc : Nat → Int64) (iv : Nat → Nat → Int64) (sc : Int64) (hst : l.stackTraces = false) (hN : N ≤ 5) : xI l D K yX0_sharpen wsX0_sharpen 6 100 1 6 [.ref (a 0)] (w0 K a (N, M, S, rl, rh, bl, bh, kl, kh, mn, vc, iv, sc)) (fun r u => kDet N M = 0 ∧ r = (sh0 N M rl rh (bl, bh)).1 ∧ ∃ mn1 iv1 sc1 kl1 kh1, u = (N, M, S, rl, rh, (sh0 N M rl rh (bl, bh)).2.1, (sh0 N M rl rh (bl, bh)).2.2, kl1, kh1, mn1, vc, iv1, sc1)) (fun E u => (kDet N M = 1 ∧ E = "java/lang/ArithmeticException") ∧ ∃ mn1 iv1 sc1 kl1 kh1, u = (N, M, S, rl, rh, bl, bh, kl1, kh1, mn1, vc, iv1, sc1)) (w0 K a) := by
  have hinX0 : ∀ w ∈ wsX00, w ∈ wsX0_sharpen := by decide +kernel
  have lk0 : Cond.fieldLink RX0 59 "IntervalSolver" "n" "I" ∈ wsX0_sharpen := by decide +kernel
  have lk1 : Cond.classLink RX0 104 "java/lang/ArithmeticException" ∈ wsX0_sharpen := by decide +kernel
  have lk2 : Cond.initialized "java/lang/ArithmeticException" ∈ wsX0_sharpen := by decide +kernel
  refine x_met_i (cc := cX0_sharpen) (maxL := 4) (lv := [(0, .ref (a 0))]) hst (by decide +kernel) rfl rfl (Nat.le_of_ble_eq_true rfl) rfl ?_
  intro p e s m below meth c args Q A C hend hthr
  refine z_aload_n C dX0_sharpen_0 0 rfl ?_
  refine z_callVi_all (As := []) C (c0_invert l D K a N M S rl rh bl bh kl kh mn vc iv sc (by omega)) (cwV 0 C.1.2.2.2.2 gX0_sharpen_X0_invert rfl rfl rfl (by decide +kernel) ⟨Nat.le_of_ble_eq_true rfl, Nat.le_of_ble_eq_true rfl⟩) (ci := 0) rfl rfl 0 rfl dX0_sharpen_1 rfl rfl (Nat.le_of_ble_eq_true rfl) ⟨Nat.le_of_ble_eq_true rfl, Nat.le_of_ble_eq_true rfl⟩ (fun r1 u1 h1 => ?_)
  obtain ⟨mn_1, iv_1, sc_1, rfl, hr_1, hvv⟩ := inv_out h1
  subst hr_1
  refine z_if_ne (tgt := 17) C dX0_sharpen_4 (by decide) (fun c4 => ?_) (fun c4 => ?_)
  · have q4 : ¬ detM M N = 0 := zi1.mp c4
    have hd := q4
    obtain ⟨hiv, hsc⟩ := hvv hd
    refine z_aload_n C dX0_sharpen_17 0 rfl ?_
    have hk0 : kDet N M = 0 := if_neg hd
    refine z_callVv_all (As := []) C (c0_keepBox l D K a N M S rl rh bl bh kl kh mn_1 vc iv_1 sc_1) (cwV 0 C.1.2.2.2.2 gX0_sharpen_X0_keepBox rfl rfl rfl (by decide +kernel) ⟨Nat.le_of_ble_eq_true rfl, Nat.le_of_ble_eq_true rfl⟩) (ci := 0) rfl rfl 0 rfl dX0_sharpen_18 rfl rfl (Nat.le_of_ble_eq_true rfl) ⟨Nat.le_of_ble_eq_true rfl, Nat.le_of_ble_eq_true rfl⟩ (fun u2 h2 => ?_)
    subst h2
    refine z_iconst (v := 0) C dX0_sharpen_21 (by decide) ?_
    refine z_istore_n (lv' := [(0, .ref (a 0)), (1, .int 0)]) C dX0_sharpen_22 (by decide) [1, 0] rfl ?_
    refine z_iconst (v := 0) C dX0_sharpen_23 (by decide) ?_
    refine z_istore_n (lv' := [(0, .ref (a 0)), (1, .int 0), (2, .int 0)]) C dX0_sharpen_24 (by decide) [1, 2, 0] rfl ?_
    suffices L25 : ∀ (f25_t t : Nat) (x : Nat → Int32) (y : Nat → Int32) (n1 : Int32), 0 ≤ t → t ≤ N → N < t + f25_t → shS N M rl rh bl bh t = (x, y, n1, true) → (∀ j, 5 ≤ j → x j = bl j ∧ y j = bh j) → zW p l e { frames := 6, cells := 1, slots := 6, locals := 100 } s m args below meth c Q 4 A s.heap D vwCl 0 0 (w0 K a (N, M, S, rl, rh, x, y, va_cpy bl kl 0 0 5, va_cpy bh kh 0 0 5, mn_1, vc, iv_1, sc_1)) 25 ([(0, .ref (a 0)), (1, .int n1), (2, .int (nI t))]) [] from L25 (N + 1) 0 bl bh 0 (Nat.le_refl _) (by omega) (by omega) rfl (fun _ _ => ⟨rfl, rfl⟩)
    intro f25_t
    induction f25_t with
    | zero => intro t x y n1 h0 h1 h2; exact absurd h2 (by omega)
    | succ f25_t ih25_t =>
      intro t x y n1 g25_0 g25_1 g25_2 hx ho
      refine z_iload_n C dX0_sharpen_25 2 rfl ?_
      refine z_aload_n C dX0_sharpen_26 0 rfl ?_
      refine z_get (cl := vwCl) (T := TX0) (N := 13) (ci := 0) (ref := "IntervalSolver") C hinX0 rfl 0 (by decide) lk0 rfl dX0_sharpen_27 0 rfl rfl ?_
      refine z_icmp_ge (tgt := 69) C dX0_sharpen_30 (by decide) (fun c30 => ?_) (fun c30 => ?_)
      · have e30 : t = N := by have := (nI_leI (a := N) (b := t) (by omega) (by omega)).mp c30; omega
        rw [e30]
        rw [e30] at hx
        refine z_iload_n C dX0_sharpen_69 1 rfl ?_
        exact hend _ _ _ _ _ (N, M, S, rl, rh, x, y, va_cpy bl kl 0 0 5, va_cpy bh kh 0 0 5, mn_1, vc, iv_1, sc_1) dX0_sharpen_70 (by omega) (by omega) (by unfold sh0; rw [hx]; exact ⟨hk0, rfl, _, _, _, _, _, rfl⟩)
      · have e30 : t < N := by have := mt (nI_leI (a := N) (b := t) (by omega) (by omega)).mpr c30; omega
        refine z_aload_n C dX0_sharpen_33 0 rfl ?_
        refine z_iload_n C dX0_sharpen_34 2 rfl ?_
        refine z_aload_n C dX0_sharpen_35 0 rfl ?_
        refine z_iload_n C dX0_sharpen_36 2 rfl ?_
        refine z_callVl_all (As := [.int (nI t)]) C (c0_hullLowInUnits l D K a N M S rl rh x y (va_cpy bl kl 0 0 5) (va_cpy bh kh 0 0 5) mn_1 vc iv_1 sc_1 t (by omega) (by omega)) (cwV 1 C.1.2.2.2.2 gX0_sharpen_X0_hullLowInUnits rfl rfl rfl (by decide +kernel) ⟨Nat.le_of_ble_eq_true rfl, Nat.le_of_ble_eq_true rfl⟩) (ci := 0) rfl rfl 0 rfl dX0_sharpen_37 rfl rfl (Nat.le_of_ble_eq_true rfl) ⟨Nat.le_of_ble_eq_true rfl, Nat.le_of_ble_eq_true rfl⟩ (fun r3 u3 h3 => ?_)
        obtain ⟨rfl, rfl⟩ := h3
        refine z_topl (hl0 N M rl rh t) (by rw [hul_congr (fun j hj => hiv t j (by omega) hj), hsc]; rfl) ?_
        refine z_aload_n C dX0_sharpen_40 0 rfl ?_
        refine z_iload_n C dX0_sharpen_41 2 rfl ?_
        refine z_callVl_all (As := [.int (nI t)]) C (c0_hullHighInUnits l D K a N M S rl rh x y (va_cpy bl kl 0 0 5) (va_cpy bh kh 0 0 5) mn_1 vc iv_1 sc_1 t (by omega) (by omega)) (cwV 1 C.1.2.2.2.2 gX0_sharpen_X0_hullHighInUnits rfl rfl rfl (by decide +kernel) ⟨Nat.le_of_ble_eq_true rfl, Nat.le_of_ble_eq_true rfl⟩) (ci := 0) rfl rfl 0 rfl dX0_sharpen_42 rfl rfl (Nat.le_of_ble_eq_true rfl) ⟨Nat.le_of_ble_eq_true rfl, Nat.le_of_ble_eq_true rfl⟩ (fun r4 u4 h4 => ?_)
        obtain ⟨rfl, rfl⟩ := h4
        refine z_topl (hh0 N M rl rh t) (by rw [hul_congr (fun j hj => hiv t j (by omega) hj), hsc]; rfl) ?_
        refine z_callVi_all (As := [.int (nI t), .long (hl0 N M rl rh t), .long (hh0 N M rl rh t)]) C (c0_intersect l D K a N M S rl rh x y (va_cpy bl kl 0 0 5) (va_cpy bh kh 0 0 5) mn_1 vc iv_1 sc_1 t (hl0 N M rl rh t) (hh0 N M rl rh t) (by omega)) (cwV 3 C.1.2.2.2.2 gX0_sharpen_X0_intersect rfl rfl rfl (by decide +kernel) ⟨Nat.le_of_ble_eq_true rfl, Nat.le_of_ble_eq_true rfl⟩) (ci := 0) rfl rfl 0 rfl dX0_sharpen_45 rfl rfl (Nat.le_of_ble_eq_true rfl) ⟨Nat.le_of_ble_eq_true rfl, Nat.le_of_ble_eq_true rfl⟩ (fun r5 u5 h5 => ?_)
        obtain ⟨rfl, rfl⟩ := h5
        refine z_istore_n (lv' := [(0, .ref (a 0)), (1, .int n1), (2, .int (nI t)), (3, .int (itR (hl0 N M rl rh t) (hh0 N M rl rh t) x y t))]) C dX0_sharpen_48 (by decide) [1, 2, 3, 0] rfl ?_
        refine z_iload_n C dX0_sharpen_49 3 rfl ?_
        refine z_if_ge (tgt := 59) C dX0_sharpen_50 (by decide) (fun c50 => ?_) (fun c50 => ?_)
        · refine z_iload_n C dX0_sharpen_59 1 rfl ?_
          refine z_iload_n C dX0_sharpen_60 3 rfl ?_
          refine z_iadd C dX0_sharpen_61 ?_
          refine z_istore_n (lv' := [(0, .ref (a 0)), (1, .int (n1 + (itR (hl0 N M rl rh t) (hh0 N M rl rh t) x y t))), (2, .int (nI t)), (3, .int (itR (hl0 N M rl rh t) (hh0 N M rl rh t) x y t))]) C dX0_sharpen_62 (by decide) [1, 0, 2, 3] rfl ?_
          refine z_iinc (v := nI (t + 1)) (lv' := [(0, .ref (a 0)), (1, .int (n1 + (itR (hl0 N M rl rh t) (hh0 N M rl rh t) x y t))), (2, .int (nI (t + 1))), (3, .int (itR (hl0 N M rl rh t) (hh0 N M rl rh t) x y t))]) C dX0_sharpen_63 (k := 2) rfl (nI_1 t) (by decide) [1, 2, 0, 3] rfl ?_
          refine z_goto (tgt := 25) C dX0_sharpen_66 (by decide) ?_
          refine z_lv (lv' := [(0, .ref (a 0)), (1, .int (n1 + (itR (hl0 N M rl rh t) (hh0 N M rl rh t) x y t))), (2, .int (nI (t + 1)))]) [0, 1, 2] rfl ?_
          exact ih25_t (t + 1) ((itB (hl0 N M rl rh t) (hh0 N M rl rh t) x y t).1) ((itB (hl0 N M rl rh t) (hh0 N M rl rh t) x y t).2) (n1 + (itR (hl0 N M rl rh t) (hh0 N M rl rh t) x y t)) (by omega) (by omega) (by omega) (shS_pos hx (Int32.not_lt.mpr c50)) (fun j hj => ⟨((itB_out (i := t) (by omega)) j hj).1.trans (ho j hj).1, ((itB_out (i := t) (by omega)) j hj).2.trans (ho j hj).2⟩)
        · refine z_aload_n C dX0_sharpen_53 0 rfl ?_
          refine z_callVv_all (As := []) C (c0_restoreBox l D K a N M S rl rh ((itB (hl0 N M rl rh t) (hh0 N M rl rh t) x y t).1) ((itB (hl0 N M rl rh t) (hh0 N M rl rh t) x y t).2) (va_cpy bl kl 0 0 5) (va_cpy bh kh 0 0 5) mn_1 vc iv_1 sc_1) (cwV 0 C.1.2.2.2.2 gX0_sharpen_X0_restoreBox rfl rfl rfl (by decide +kernel) ⟨Nat.le_of_ble_eq_true rfl, Nat.le_of_ble_eq_true rfl⟩) (ci := 0) rfl rfl 0 rfl dX0_sharpen_54 rfl rfl (Nat.le_of_ble_eq_true rfl) ⟨Nat.le_of_ble_eq_true rfl, Nat.le_of_ble_eq_true rfl⟩ (fun u6 h6 => ?_)
          subst h6
          refine z_iconst (v := -1) C dX0_sharpen_57 (by decide) ?_
          exact hend _ _ _ _ _ (N, M, S, rl, rh, va_cpy (va_cpy bl kl 0 0 5) ((itB (hl0 N M rl rh t) (hh0 N M rl rh t) x y t).1) 0 0 5, va_cpy (va_cpy bh kh 0 0 5) ((itB (hl0 N M rl rh t) (hh0 N M rl rh t) x y t).2) 0 0 5, va_cpy bl kl 0 0 5, va_cpy bh kh 0 0 5, mn_1, vc, iv_1, sc_1) dX0_sharpen_58 (by omega) (by omega) (by have hz := shS_false (shS_neg hx (Int32.not_le.mp c50)) (N - (t + 1)); rw [show t + 1 + (N - (t + 1)) = N by omega] at hz; unfold sh0; rw [hz]; exact ⟨hk0, rfl, _, _, _, va_cpy bl kl 0 0 5, va_cpy bh kh 0 0 5, by rw [cp_back (fun j hj => ((itB_out (i := t) (by omega)) j hj).1.trans (ho j hj).1), cp_back (fun j hj => ((itB_out (i := t) (by omega)) j hj).2.trans (ho j hj).2)]; rfl⟩)
  · have q4 : ¬ (¬ detM M N = 0) := zi0.mp c4
    have hd0 := Decidable.of_not_not q4
    exact hthr _ _ _ _ 104 125 108 "java/lang/ArithmeticException" "the determinant is 0" (N, M, S, rl, rh, bl, bh, kl, kh, mn_1, vc, iv_1, sc_1) lk1 lk2 (by decide +kernel) (fun w hw => List.mem_cons_of_mem _ (List.mem_append_right _ hw)) (by decide +kernel) dX0_sharpen_7 dX0_sharpen_10 dX0_sharpen_11 dX0_sharpen_13 dX0_sharpen_16 ⟨Nat.le_of_ble_eq_true rfl, Nat.le_of_ble_eq_true rfl, Nat.le_of_ble_eq_true rfl, Nat.le_of_ble_eq_true rfl⟩ (Nat.le_of_ble_eq_true rfl) (Nat.le_of_ble_eq_true rfl) ⟨⟨if_pos hd0, rfl⟩, _, _, _, _, _, rfl⟩



set_option maxRecDepth 100000 in
set_option maxHeartbeats 4000000 in
theorem c0_isSolution (l : Launch) (D : va_G) (K : Nat → ClassId) (a : Nat → Nat) (N : Nat) (M : Nat → Nat → Int32) (S : Nat → Nat → Int32) (rl : Nat → Int32) (rh : Nat → Int32) (bl : Nat → Int32) (bh : Nat → Int32) (kl : Nat → Int32) (kh : Nat → Int32) (mn : Nat → Int64) (vc : Nat → Int64) (iv : Nat → Nat → Int64) (sc : Int64) (p0 : Int32) (p1 : Int32) (p2 : Int32) (p3 : Int32) (p4 : Int32) (hN : N ≤ 5) : mI l D K yX0_isSolution wsX0_isSolution 0 0 0 0 [.ref (a 0), .int p0, .int p1, .int p2, .int p3, .int p4] (w0 K a (N, M, S, rl, rh, bl, bh, kl, kh, mn, vc, iv, sc)) (fun r u => r = solR N M rl rh (fun j => (vec5 p0 p1 p2 p3 p4 j).toInt64) ∧ ∃ vc1, u = (N, M, S, rl, rh, bl, bh, kl, kh, mn, vc1, iv, sc)) (w0 K a) := by
  have hinX0 : ∀ w ∈ wsX00, w ∈ wsX0_isSolution := by decide +kernel
  have lk0 : Cond.fieldLink RX0 40 "IntervalSolver" "vector" "[J" ∈ wsX0_isSolution := by decide +kernel
  have lk1 : Cond.fieldLink RX0 59 "IntervalSolver" "n" "I" ∈ wsX0_isSolution := by decide +kernel
  have lk2 : Cond.fieldLink RX0 17 "IntervalSolver" "rightLows" "[I" ∈ wsX0_isSolution := by decide +kernel
  have lk3 : Cond.fieldLink RX0 21 "IntervalSolver" "rightHighs" "[I" ∈ wsX0_isSolution := by decide +kernel
  have lk4 : Cond.fieldLink RX0 11 "IntervalSolver" "coefficients" "[[I" ∈ wsX0_isSolution := by decide +kernel
  refine z_met_z (cc := cX0_isSolution) (maxL := 10) (own := RX0) (lv := [(0, .ref (a 0)), (1, .int p0), (2, .int p1), (3, .int p2), (4, .int p3), (5, .int p4)]) (by decide) rfl rfl (Nat.le_of_ble_eq_true rfl) rfl ?_
  intro p e s m below meth c args Q A C hnm hend
  refine z_aload_n C dX0_isSolution_0 0 rfl ?_
  refine z_get (cl := vwCl) (T := TX0) (N := 13) (ci := 0) (ref := "IntervalSolver") C hinX0 rfl 10 (by decide) lk0 rfl dX0_isSolution_1 0 rfl rfl ?_
  refine z_iconst (v := 0) C dX0_isSolution_4 (by decide) ?_
  refine z_iload_n C dX0_isSolution_5 1 rfl ?_
  refine z_i2l C dX0_isSolution_6 ?_
  refine z_last (ws' := w0 K a (N, M, S, rl, rh, bl, bh, kl, kh, mn, vp_updL vc 0 p0.toInt64, iv, sc)) C 1 rfl 10 rfl dX0_isSolution_7 0 rfl (by decide) (by decide) rfl ?_
  refine z_aload_n C dX0_isSolution_8 0 rfl ?_
  refine z_get (cl := vwCl) (T := TX0) (N := 13) (ci := 0) (ref := "IntervalSolver") C hinX0 rfl 10 (by decide) lk0 rfl dX0_isSolution_9 0 rfl rfl ?_
  refine z_iconst (v := 1) C dX0_isSolution_12 (by decide) ?_
  refine z_iload_n C dX0_isSolution_13 2 rfl ?_
  refine z_i2l C dX0_isSolution_14 ?_
  refine z_last (ws' := w0 K a (N, M, S, rl, rh, bl, bh, kl, kh, mn, vp_updL (vp_updL vc 0 p0.toInt64) 1 p1.toInt64, iv, sc)) C 1 rfl 10 rfl dX0_isSolution_15 1 rfl (by decide) (by decide) rfl ?_
  refine z_aload_n C dX0_isSolution_16 0 rfl ?_
  refine z_get (cl := vwCl) (T := TX0) (N := 13) (ci := 0) (ref := "IntervalSolver") C hinX0 rfl 10 (by decide) lk0 rfl dX0_isSolution_17 0 rfl rfl ?_
  refine z_iconst (v := 2) C dX0_isSolution_20 (by decide) ?_
  refine z_iload_n C dX0_isSolution_21 3 rfl ?_
  refine z_i2l C dX0_isSolution_22 ?_
  refine z_last (ws' := w0 K a (N, M, S, rl, rh, bl, bh, kl, kh, mn, vp_updL (vp_updL (vp_updL vc 0 p0.toInt64) 1 p1.toInt64) 2 p2.toInt64, iv, sc)) C 1 rfl 10 rfl dX0_isSolution_23 2 rfl (by decide) (by decide) rfl ?_
  refine z_aload_n C dX0_isSolution_24 0 rfl ?_
  refine z_get (cl := vwCl) (T := TX0) (N := 13) (ci := 0) (ref := "IntervalSolver") C hinX0 rfl 10 (by decide) lk0 rfl dX0_isSolution_25 0 rfl rfl ?_
  refine z_iconst (v := 3) C dX0_isSolution_28 (by decide) ?_
  refine z_iload C dX0_isSolution_29 4 rfl ?_
  refine z_i2l C dX0_isSolution_31 ?_
  refine z_last (ws' := w0 K a (N, M, S, rl, rh, bl, bh, kl, kh, mn, vp_updL (vp_updL (vp_updL (vp_updL vc 0 p0.toInt64) 1 p1.toInt64) 2 p2.toInt64) 3 p3.toInt64, iv, sc)) C 1 rfl 10 rfl dX0_isSolution_32 3 rfl (by decide) (by decide) rfl ?_
  refine z_aload_n C dX0_isSolution_33 0 rfl ?_
  refine z_get (cl := vwCl) (T := TX0) (N := 13) (ci := 0) (ref := "IntervalSolver") C hinX0 rfl 10 (by decide) lk0 rfl dX0_isSolution_34 0 rfl rfl ?_
  refine z_iconst (v := 4) C dX0_isSolution_37 (by decide) ?_
  refine z_iload C dX0_isSolution_38 5 rfl ?_
  refine z_i2l C dX0_isSolution_40 ?_
  refine z_last (ws' := w0 K a (N, M, S, rl, rh, bl, bh, kl, kh, mn, vp_updL (vp_updL (vp_updL (vp_updL (vp_updL vc 0 p0.toInt64) 1 p1.toInt64) 2 p2.toInt64) 3 p3.toInt64) 4 p4.toInt64, iv, sc)) C 1 rfl 10 rfl dX0_isSolution_41 4 rfl (by decide) (by decide) rfl ?_
  refine z_iconst (v := 0) C dX0_isSolution_42 (by decide) ?_
  refine z_istore (lv' := [(0, .ref (a 0)), (1, .int p0), (2, .int p1), (3, .int p2), (4, .int p3), (5, .int p4), (6, .int 0)]) C dX0_isSolution_43 (by decide) [1, 2, 3, 4, 5, 6, 0] rfl ?_
  suffices L45 : ∀ (f45_i i : Nat), 0 ≤ i → i ≤ N → N < i + f45_i → (∀ t, t < i → ((rl t).toInt64 ≤ slS M (fun j => (vec5 p0 p1 p2 p3 p4 j).toInt64) t N ∧ slS M (fun j => (vec5 p0 p1 p2 p3 p4 j).toInt64) t N ≤ (rh t).toInt64)) → zW p l e { frames := 0, cells := 0, slots := 0, locals := 0 } s m args below meth c Q 10 A s.heap D vwCl 0 0 (w0 K a (N, M, S, rl, rh, bl, bh, kl, kh, mn, vp_updL (vp_updL (vp_updL (vp_updL (vp_updL vc 0 p0.toInt64) 1 p1.toInt64) 2 p2.toInt64) 3 p3.toInt64) 4 p4.toInt64, iv, sc)) 45 ([(0, .ref (a 0)), (1, .int p0), (2, .int p1), (3, .int p2), (4, .int p3), (5, .int p4), (6, .int (nI i))]) [] from L45 (N + 1) 0 (Nat.le_refl _) (by omega) (by omega) (fun t h => absurd h (Nat.not_lt_zero t))
  intro f45_i
  induction f45_i with
  | zero => intro i h0 h1 h2; exact absurd h2 (by omega)
  | succ f45_i ih45_i =>
    intro i g45_0 g45_1 g45_2 hq
    refine z_iload C dX0_isSolution_45 6 rfl ?_
    refine z_aload_n C dX0_isSolution_47 0 rfl ?_
    refine z_get (cl := vwCl) (T := TX0) (N := 13) (ci := 0) (ref := "IntervalSolver") C hinX0 rfl 0 (by decide) lk1 rfl dX0_isSolution_48 0 rfl rfl ?_
    refine z_icmp_ge (tgt := 135) C dX0_isSolution_51 (by decide) (fun c51 => ?_) (fun c51 => ?_)
    · have e51 : i = N := by have := (nI_leI (a := N) (b := i) (by omega) (by omega)).mp c51; omega
      rw [e51]
      rw [e51] at hq
      refine z_iconst (v := 1) C dX0_isSolution_135 (by decide) ?_
      exact hend _ _ _ _ _ (N, M, S, rl, rh, bl, bh, kl, kh, mn, vp_updL (vp_updL (vp_updL (vp_updL (vp_updL vc 0 p0.toInt64) 1 p1.toInt64) 2 p2.toInt64) 3 p3.toInt64) 4 p4.toInt64, iv, sc) dX0_isSolution_136 (Nat.zero_le _) (Nat.zero_le _) (Or.inr rfl) ⟨(if_pos hq).symm, _, rfl⟩
    · have e51 : i < N := by have := mt (nI_leI (a := N) (b := i) (by omega) (by omega)).mpr c51; omega
      refine z_lconst (v := 0) C dX0_isSolution_54 (by decide) ?_
      refine z_lstore (lv' := [(0, .ref (a 0)), (1, .int p0), (2, .int p1), (3, .int p2), (4, .int p3), (5, .int p4), (6, .int (nI i)), (7, .long 0)]) C dX0_isSolution_55 (by decide) [1, 2, 3, 4, 5, 6, 7, 0] rfl ?_
      refine z_iconst (v := 0) C dX0_isSolution_57 (by decide) ?_
      refine z_istore (lv' := [(0, .ref (a 0)), (1, .int p0), (2, .int p1), (3, .int p2), (4, .int p3), (5, .int p4), (6, .int (nI i)), (7, .long 0), (9, .int 0)]) C dX0_isSolution_58 (by decide) [1, 2, 3, 4, 5, 6, 7, 8, 0] rfl ?_
      suffices L60 : ∀ (f60_j j : Nat), 0 ≤ j → j ≤ N → N < j + f60_j → zW p l e { frames := 0, cells := 0, slots := 0, locals := 0 } s m args below meth c Q 10 A s.heap D vwCl 0 0 (w0 K a (N, M, S, rl, rh, bl, bh, kl, kh, mn, vp_updL (vp_updL (vp_updL (vp_updL (vp_updL vc 0 p0.toInt64) 1 p1.toInt64) 2 p2.toInt64) 3 p3.toInt64) 4 p4.toInt64, iv, sc)) 60 ([(0, .ref (a 0)), (1, .int p0), (2, .int p1), (3, .int p2), (4, .int p3), (5, .int p4), (6, .int (nI i)), (7, .long (slS M (fun j => (vec5 p0 p1 p2 p3 p4 j).toInt64) i j)), (9, .int (nI j))]) [] from L60 (N + 1) 0 (Nat.le_refl _) (by omega) (by omega)
      intro f60_j
      induction f60_j with
      | zero => intro j h0 h1 h2; exact absurd h2 (by omega)
      | succ f60_j ih60_j =>
        intro j g60_0 g60_1 g60_2
        refine z_iload C dX0_isSolution_60 8 rfl ?_
        refine z_aload_n C dX0_isSolution_62 0 rfl ?_
        refine z_get (cl := vwCl) (T := TX0) (N := 13) (ci := 0) (ref := "IntervalSolver") C hinX0 rfl 0 (by decide) lk1 rfl dX0_isSolution_63 0 rfl rfl ?_
        refine z_icmp_ge (tgt := 99) C dX0_isSolution_66 (by decide) (fun c66 => ?_) (fun c66 => ?_)
        · have e66 : j = N := by have := (nI_leI (a := N) (b := j) (by omega) (by omega)).mp c66; omega
          rw [e66]
          refine z_lload C dX0_isSolution_99 7 rfl ?_
          refine z_aload_n C dX0_isSolution_101 0 rfl ?_
          refine z_get (cl := vwCl) (T := TX0) (N := 13) (ci := 0) (ref := "IntervalSolver") C hinX0 rfl 3 (by decide) lk2 rfl dX0_isSolution_102 0 rfl rfl ?_
          refine z_iload C dX0_isSolution_105 6 rfl ?_
          refine z_iald C 0 rfl 3 rfl dX0_isSolution_107 i rfl (by omega) (by decide) ?_
          refine z_i2l C dX0_isSolution_108 ?_
          refine z_lcmp_lt (tgt := 127) C dX0_isSolution_109 dX0_isSolution_110 (by decide) (fun c109 => ?_) (fun c109 => ?_)
          · refine z_iconst (v := 0) C dX0_isSolution_127 (by decide) ?_
            exact hend _ _ _ _ _ (N, M, S, rl, rh, bl, bh, kl, kh, mn, vp_updL (vp_updL (vp_updL (vp_updL (vp_updL vc 0 p0.toInt64) 1 p1.toInt64) 2 p2.toInt64) 3 p3.toInt64) 4 p4.toInt64, iv, sc) dX0_isSolution_128 (Nat.zero_le _) (Nat.zero_le _) (Or.inl rfl) ⟨(if_neg (fun z => absurd (z i (by omega)).1 (Int64.not_le.mpr c109))).symm, _, rfl⟩
          · refine z_lload C dX0_isSolution_113 7 rfl ?_
            refine z_aload_n C dX0_isSolution_115 0 rfl ?_
            refine z_get (cl := vwCl) (T := TX0) (N := 13) (ci := 0) (ref := "IntervalSolver") C hinX0 rfl 4 (by decide) lk3 rfl dX0_isSolution_116 0 rfl rfl ?_
            refine z_iload C dX0_isSolution_119 6 rfl ?_
            refine z_iald C 0 rfl 4 rfl dX0_isSolution_121 i rfl (by omega) (by decide) ?_
            refine z_i2l C dX0_isSolution_122 ?_
            refine z_lcmp_le (tgt := 129) C dX0_isSolution_123 dX0_isSolution_124 (by decide) (fun c123 => ?_) (fun c123 => ?_)
            · refine z_iinc (v := nI (i + 1)) (lv' := [(0, .ref (a 0)), (1, .int p0), (2, .int p1), (3, .int p2), (4, .int p3), (5, .int p4), (6, .int (nI (i + 1))), (7, .long (slS M (fun N => (vec5 p0 p1 p2 p3 p4 N).toInt64) i N)), (9, .int (nI N))]) C dX0_isSolution_129 (k := 6) rfl (nI_1 i) (by decide) [1, 2, 3, 4, 5, 6, 0, 7, 8] rfl ?_
              refine z_goto (tgt := 45) C dX0_isSolution_132 (by decide) ?_
              refine z_lv (lv' := [(0, .ref (a 0)), (1, .int p0), (2, .int p1), (3, .int p2), (4, .int p3), (5, .int p4), (6, .int (nI (i + 1)))]) [0, 1, 2, 3, 4, 5, 6] rfl ?_
              exact ih45_i (i + 1) (by omega) (by omega) (by omega) (lt_s hq ⟨Int64.not_lt.mp c109, Int64.not_lt.mp c123⟩)
            · refine z_iconst (v := 0) C dX0_isSolution_127 (by decide) ?_
              exact hend _ _ _ _ _ (N, M, S, rl, rh, bl, bh, kl, kh, mn, vp_updL (vp_updL (vp_updL (vp_updL (vp_updL vc 0 p0.toInt64) 1 p1.toInt64) 2 p2.toInt64) 3 p3.toInt64) 4 p4.toInt64, iv, sc) dX0_isSolution_128 (Nat.zero_le _) (Nat.zero_le _) (Or.inl rfl) ⟨(if_neg (fun z => absurd (z i (by omega)).2 (Int64.not_le.mpr c123))).symm, _, rfl⟩
        · have e66 : j < N := by have := mt (nI_leI (a := N) (b := j) (by omega) (by omega)).mpr c66; omega
          refine z_lload C dX0_isSolution_69 7 rfl ?_
          refine z_aload_n C dX0_isSolution_71 0 rfl ?_
          refine z_get (cl := vwCl) (T := TX0) (N := 13) (ci := 0) (ref := "IntervalSolver") C hinX0 rfl 1 (by decide) lk4 rfl dX0_isSolution_72 0 rfl rfl ?_
          refine z_iload C dX0_isSolution_75 6 rfl ?_
          refine z_aald (y := a (12 + i)) C 2 rfl 1 rfl dX0_isSolution_77 i rfl (by omega) (by decide) (if_pos (by omega)) ?_
          refine z_iload C dX0_isSolution_78 8 rfl ?_
          refine z_iald C 0 rfl (12 + i) (w0_atM (by omega)) dX0_isSolution_80 j rfl (by omega) (by decide) ?_
          refine z_i2l C dX0_isSolution_81 ?_
          refine z_aload_n C dX0_isSolution_82 0 rfl ?_
          refine z_get (cl := vwCl) (T := TX0) (N := 13) (ci := 0) (ref := "IntervalSolver") C hinX0 rfl 10 (by decide) lk0 rfl dX0_isSolution_83 0 rfl rfl ?_
          refine z_iload C dX0_isSolution_86 8 rfl ?_
          refine z_lald C 1 rfl 10 rfl dX0_isSolution_88 j rfl (by omega) (by decide) ?_
          refine z_topl ((vec5 p0 p1 p2 p3 p4 j).toInt64) (vecL_upd _ p0 p1 p2 p3 p4 j (by omega)) ?_
          refine z_lmul C dX0_isSolution_89 ?_
          refine z_ladd C dX0_isSolution_90 ?_
          refine z_lstore (lv' := [(0, .ref (a 0)), (1, .int p0), (2, .int p1), (3, .int p2), (4, .int p3), (5, .int p4), (6, .int (nI i)), (7, .long ((slS M (fun j => (vec5 p0 p1 p2 p3 p4 j).toInt64) i j) + (((M i j).toInt64) * ((vec5 p0 p1 p2 p3 p4 j).toInt64)))), (9, .int (nI j))]) C dX0_isSolution_91 (by decide) [1, 2, 3, 4, 5, 6, 7, 0, 8] rfl ?_
          refine z_iinc (v := nI (j + 1)) (lv' := [(0, .ref (a 0)), (1, .int p0), (2, .int p1), (3, .int p2), (4, .int p3), (5, .int p4), (6, .int (nI i)), (7, .long ((slS M (fun j => (vec5 p0 p1 p2 p3 p4 j).toInt64) i j) + (((M i j).toInt64) * ((vec5 p0 p1 p2 p3 p4 j).toInt64)))), (9, .int (nI (j + 1)))]) C dX0_isSolution_93 (k := 8) rfl (nI_1 j) (by decide) [1, 2, 3, 4, 5, 6, 7, 8, 0] rfl ?_
          refine z_goto (tgt := 60) C dX0_isSolution_96 (by decide) ?_
          exact ih60_j (j + 1) (by omega) (by omega) (by omega)
