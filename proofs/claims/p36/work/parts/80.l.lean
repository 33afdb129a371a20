set_option maxHeartbeats 8000000 in
set_option maxRecDepth 100000 in
theorem law_body {p : Program} {e : Env} {s : State} {m : MethodId} {below : List Frame} {meth : Method} {c : Code} {l : Launch} {D : va_G} {K : Nat → ClassId} {A : Nat → Prop} {a : Nat → Nat} {b L : Nat} {xs : Nat → Int32} {qa qx ql qh : Nat} (hL : L ≤ 260) (hst : l.stackTraces = false) (hx : p.tables.exec = Jvm.exec) (hb : c.code = code) (hr : meth.sig.returnType = ret) (hlocks : meth.locks = false) (C : zC p s m #[Value.ref b] c code 14 wsL_law RL A s.heap D vwCl (zT K)) (hX : xF A s) (hXb : va_X b L xs s s.heap) (hbl : b < s.heap.size) (hbA : ¬ A b) (hAl : ∀ q : Nat, A q → s.heap.size ≤ q) : zW p l e room_1 s m #[Value.ref b] below meth c (lw_Z below #[Value.ref b] s) 14 A s.heap D vwCl 31 188 (wl K a qa qx ql qh ((1, matz (fun _ _ => 0) 5, matz (fun _ _ => 0) 5, vecz (fun _ => 0) 0 5, vecz (fun _ => 0) 0 5, vecz (fun _ => 0) (-1000000000) 5, vecz (fun _ => 0) 1000000000 5, (fun _ => 0), (fun _ => 0), (fun _ => 0), (fun _ => 0), (fun _ _ => 0), 0), (fun _ => 0), (fun _ => 0), (fun _ => 0), (fun _ => 0))) 27 [(0, .ref b), (1, .ref (a 0)), (2, .ref qa), (3, .ref qx), (4, .ref ql), (5, .ref qh)] [] := by
  have lk0 : Cond.methodLink RL 66 Lib.Math.abs.name ∈ wsL_law := by decide +kernel
  have lk1 : Cond.static Lib.Math.abs.name ∈ wsL_law := by decide +kernel
  have lk2 : Cond.initialized "java/lang/Math" ∈ wsL_law := by decide +kernel
  have lk3 : Cond.code Lib.Math.abs.name Lib.Math.abs.code 1 (some .int) ∈ wsL_law := by decide +kernel
  have lk4 : Cond.constant RL 42 (50000) ∈ wsL_law := by decide +kernel
  refine z_aload_n C dL_law_27 1 rfl ?_
  refine z_aload_n C dL_law_28 0 rfl ?_
  refine z_iconst (v := 0) C dL_law_29 (by decide) ?_
  refine z_iconst (v := 3) C dL_law_30 (by decide) ?_
  refine z_aload_n C dL_law_31 2 rfl ?_
  refine z_aload_n C dL_law_32 3 rfl ?_
  refine z_aload C dL_law_33 4 rfl ?_
  refine z_aload C dL_law_35 5 rfl ?_
  refine zb_callS (X := []) (wc := wl K a qa qx ql qh ((1, matz (fun _ _ => 0) 5, matz (fun _ _ => 0) 5, vecz (fun _ => 0) 0 5, vecz (fun _ => 0) 0 5, vecz (fun _ => 0) (-1000000000) 5, vecz (fun _ => 0) 1000000000 5, (fun _ => 0), (fun _ => 0), (fun _ => 0), (fun _ => 0), (fun _ _ => 0), 0), (fun _ => 0), (fun _ => 0), (fun _ => 0), (fun _ => 0))) (As := [.ref (a 0), .ref b, .int 0, .int 3, .ref qa, .ref qx, .ref ql, .ref qh]) C hX hXb hbl hbA (cL_build_met l D K a 1 (matz (fun _ _ => 0) 5) (matz (fun _ _ => 0) 5) (vecz (fun _ => 0) 0 5) (vecz (fun _ => 0) 0 5) (vecz (fun _ => 0) (-1000000000) 5) (vecz (fun _ => 0) 1000000000 5) (fun _ => 0) (fun _ => 0) (fun _ => 0) (fun _ => 0) (fun _ _ => 0) 0 b L xs qa qx ql qh (fun _ => 0) (fun _ => 0) (fun _ => 0) (fun _ => 0) hst (by decide) hL) (va_cwS 8 C.1.2.2.2.2 gL_law_L_build rfl rfl rfl (by decide +kernel) ⟨Nat.le_of_ble_eq_true rfl, Nat.le_of_ble_eq_true rfl⟩) dL_law_37 rfl rfl (Nat.le_of_ble_eq_true rfl) ⟨Nat.le_trans (show 31 + 20 ≤ 4000 by omega) rm_c, Nat.le_trans (show 188 + 120 ≤ 40000 by omega) rm_s⟩ rfl (fun r1 z1 h1 => ?_)
  obtain ⟨rfl, M0, S0, rl0, rh0, bl0, bh0, kl0, kh0, mn0, vc0, iv0, sc0, fa0, fx, fl0, fh0, rfl, hA0, hR0, hX0, hv, hS0, hb0⟩ := h1
  refine z_ws (ws' := wl K a qa qx ql qh ((3, M0, S0, rl0, rh0, bl0, bh0, kl0, kh0, mn0, vc0, iv0, sc0), fa0, fx, fl0, fh0)) rfl ?_
  refine z_if_ne (tgt := 45) C dL_law_40 (by decide) (fun c40 => ?_) (fun c40 => ?_)
  · refine z_iconst (v := 0) C dL_law_45 (by decide) ?_
    refine z_istore (lv' := [(0, .ref b), (1, .ref (a 0)), (2, .ref qa), (3, .ref qx), (4, .ref ql), (5, .ref qh), (6, .int 0)]) C dL_law_46 (by decide) [1, 2, 3, 4, 5, 6, 0] rfl ?_
    refine z_widen (k := 60 + 0) (n := 400 + 6 * 0) (by omega) (by omega) ?_
    suffices L48 : ∀ (f48_i i : Nat) (bl1 : Nat → Int32) (bh1 : Nat → Int32), 0 ≤ i → i ≤ 3 → 3 < i + f48_i → bA bl1 bh1 fx i → zW p l e room_1 s m #[Value.ref b] below meth c (lw_Z below #[Value.ref b] s) 14 A s.heap D vwCl (60 + i) (400 + 6 * i) (wl K a qa qx ql qh ((3, M0, S0, rl0, rh0, bl1, bh1, kl0, kh0, mn0, vc0, iv0, sc0), fa0, fx, fl0, fh0)) 48 ([(0, .ref b), (1, .ref (a 0)), (2, .ref qa), (3, .ref qx), (4, .ref ql), (5, .ref qh), (6, .int (nI i))]) [] from L48 (3 + 1) 0 bl0 bh0 (Nat.le_refl _) (by omega) (by omega) (bA_0 hX0 hb0)
    intro f48_i
    induction f48_i with
    | zero => intro i bl1 bh1 h0 h1 h2; exact absurd h2 (by omega)
    | succ f48_i ih48_i =>
      intro i bl1 bh1 g48_0 g48_1 g48_2 hBX
      refine z_iload C dL_law_48 6 rfl ?_
      refine z_iconst (v := 3) C dL_law_50 (by decide) ?_
      refine z_icmp_ge (tgt := 120) C dL_law_51 (by decide) (fun c51 => ?_) (fun c51 => ?_)
      · have e51 : i = 3 := by have := (nI_leI (a := 3) (b := i) (by omega) (by omega)).mp c51; omega
        subst e51
        refine z_iconst (v := 0) C dL_law_120 (by decide) ?_
        refine z_istore (lv' := [(0, .ref b), (1, .ref (a 0)), (2, .ref qa), (3, .ref qx), (4, .ref ql), (5, .ref qh), (6, .int 0)]) C dL_law_121 (by decide) [1, 2, 3, 4, 5, 6, 0] rfl ?_
        refine z_lv (lv' := [(0, .ref b), (1, .ref (a 0)), (3, .ref qx), (6, .int 0)]) [0, 1, 3, 6] rfl ?_
        refine z_widen (k := 100 + 40 * 0) (n := 600 + 240 * 0) (by omega) (by omega) ?_
        suffices L123 : ∀ (f123_k k : Nat) (M1 : Nat → Nat → Int32) (S1 : Nat → Nat → Int32) (rl1 : Nat → Int32) (rh1 : Nat → Int32) (bl1 : Nat → Int32) (bh1 : Nat → Int32) (kl1 : Nat → Int32) (kh1 : Nat → Int32) (mn1 : Nat → Int64) (vc1 : Nat → Int64) (iv1 : Nat → Nat → Int64) (sc1 : Int64), 0 ≤ k → k ≤ 10 → 10 < k + f123_k → lI M1 rl1 rh1 bl1 bh1 fx → zW p l e room_1 s m #[Value.ref b] below meth c (lw_Z below #[Value.ref b] s) 14 A s.heap D vwCl (100 + 40 * k) (600 + 240 * k) (wl K a qa qx ql qh ((3, M1, S1, rl1, rh1, bl1, bh1, kl1, kh1, mn1, vc1, iv1, sc1), fa0, fx, fl0, fh0)) 123 ([(0, .ref b), (1, .ref (a 0)), (3, .ref qx), (6, .int (nI k))]) [] from L123 (10 + 1) 0 M0 S0 rl0 rh0 bl1 bh1 kl0 kh0 mn0 vc0 iv0 sc0 (Nat.le_refl _) (by omega) (by omega) ⟨hA0, hR0, hS0, hBX.1, hBX.2.1⟩
        intro f123_k
        induction f123_k with
        | zero => intro k M1 S1 rl1 rh1 bl1 bh1 kl1 kh1 mn1 vc1 iv1 sc1 h0 h1 h2; exact absurd h2 (by omega)
        | succ f123_k ih123_k =>
          intro k M1 S1 rl1 rh1 bl1 bh1 kl1 kh1 mn1 vc1 iv1 sc1 g123_0 g123_1 g123_2 hI
          refine z_iload C dL_law_123 3 rfl ?_
          refine z_bipush (v := 10) C dL_law_125 (by decide) ?_
          refine z_icmp_ge (tgt := 589) C dL_law_127 (by decide) (fun c127 => ?_) (fun c127 => ?_)
          · have e127 : k = 10 := by have := (nI_leI (a := 10) (b := k) (by omega) (by omega)).mp c127; omega
            subst e127
            refine z_iconst (v := 1) C dL_law_589 (by decide) ?_
            exact fun H locs ls hP hD hS hl => W.widen (Nat.le_trans (show 100 + 40 * 10 ≤ 4000 by omega) rm_c) (Nat.le_trans (show 600 + 240 * 10 ≤ 40000 by omega) rm_s) (va_forget (fun q hq => hAl _ (hS.2.2 q hq)) (lw_ret hx hb hr hlocks dL_law_590))
          · have e127 : k < 10 := by have := mt (nI_leI (a := 10) (b := k) (by omega) (by omega)).mpr c127; omega
            refine z_aload_n C dL_law_130 0 rfl ?_
            refine z_bipush (v := 19) C dL_law_131 (by decide) ?_
            refine z_iload C dL_law_133 3 rfl ?_
            refine z_iadd C dL_law_135 ?_
            refine z_topi (nI (19 + k)) (at19 k e127) ?_
            refine zb_callS (X := wl K a qa qx ql qh ((3, M1, S1, rl1, rh1, bl1, bh1, kl1, kh1, mn1, vc1, iv1, sc1), fa0, fx, fl0, fh0)) (wc := []) (As := [.ref b, .int (nI (19 + k))]) C hX hXb hbl hbA (cL_cell_met l D K b L xs (19 + k) hL (by omega)) (va_cwS 2 C.1.2.2.2.2 gL_law_L_cell rfl rfl rfl (by decide +kernel) ⟨Nat.le_of_ble_eq_true rfl, Nat.le_of_ble_eq_true rfl⟩) dL_law_136 rfl rfl (Nat.le_of_ble_eq_true rfl) ⟨Nat.le_trans (show 100 + 40 * k + 0 ≤ 4000 by omega) rm_c, Nat.le_trans (show 600 + 240 * k + 0 ≤ 40000 by omega) rm_s⟩ (List.append_nil _).symm (fun r1 u1 h1 => ?_)
            refine z_ws (ws' := wl K a qa qx ql qh ((3, M1, S1, rl1, rh1, bl1, bh1, kl1, kh1, mn1, vc1, iv1, sc1), fa0, fx, fl0, fh0)) (List.append_nil _) ?_
            refine z_istore (lv' := [(0, .ref b), (1, .ref (a 0)), (3, .ref qx), (6, .int (nI k)), (7, .int r1)]) C dL_law_139 (by decide) [1, 2, 3, 4, 0] rfl ?_
            refine z_iload C dL_law_141 4 rfl ?_
            refine z_iconst (v := 3) C dL_law_143 (by decide) ?_
            refine z_ishr C dL_law_144 ?_
            refine z_iconst (v := 3) C dL_law_145 (by decide) ?_
            refine z_callSi_none (As := [.int (r1 >>> (3 &&& 31)), .int 3]) C (cL_below_met l D K (r1 >>> (3 &&& 31)) (3 : Int32) (by decide)) (va_cwS 2 C.1.2.2.2.2 gL_law_L_below rfl rfl rfl (by decide +kernel) ⟨Nat.le_of_ble_eq_true rfl, Nat.le_of_ble_eq_true rfl⟩) dL_law_146 rfl rfl (Nat.le_of_ble_eq_true rfl) ⟨Nat.le_trans (show 100 + 40 * k + 0 ≤ 4000 by omega) rm_c, Nat.le_trans (show 600 + 240 * k + 0 ≤ 40000 by omega) rm_s⟩ (fun r2 u2 h2 => ?_)
            subst h2
            obtain ⟨i, hi3, ei⟩ := blw_n (x := (r1 >>> (3 &&& 31))) (n := 3) (by omega) (by omega)
            refine z_topi (nI i) ei ?_
            refine z_istore (lv' := [(0, .ref b), (1, .ref (a 0)), (3, .ref qx), (6, .int (nI k)), (7, .int r1), (8, .int (nI i))]) C dL_law_149 (by decide) [1, 2, 3, 4, 5, 0] rfl ?_
            refine z_iload C dL_law_151 5 rfl ?_
            refine z_iconst (v := 1) C dL_law_153 (by decide) ?_
            refine z_iadd C dL_law_154 ?_
            refine z_iload C dL_law_155 4 rfl ?_
            refine z_bipush (v := 6) C dL_law_157 (by decide) ?_
            refine z_ishr C dL_law_159 ?_
            refine z_iconst (v := 2) C dL_law_160 (by decide) ?_
            refine z_callSi_none (As := [.int (r1 >>> (6 &&& 31)), .int 2]) C (cL_below_met l D K (r1 >>> (6 &&& 31)) (2 : Int32) (by decide)) (va_cwS 2 C.1.2.2.2.2 gL_law_L_below rfl rfl rfl (by decide +kernel) ⟨Nat.le_of_ble_eq_true rfl, Nat.le_of_ble_eq_true rfl⟩) dL_law_161 rfl rfl (Nat.le_of_ble_eq_true rfl) ⟨Nat.le_trans (show 100 + 40 * k + 0 ≤ 4000 by omega) rm_c, Nat.le_trans (show 600 + 240 * k + 0 ≤ 40000 by omega) rm_s⟩ (fun r3 u3 h3 => ?_)
            subst h3
            obtain ⟨dd, hd2, ed⟩ := blw_n (x := (r1 >>> (6 &&& 31))) (n := 2) (by omega) (by omega)
            refine z_topi (nI dd) ed ?_
            refine z_iadd C dL_law_164 ?_
            refine z_iconst (v := 3) C dL_law_165 (by decide) ?_
            refine z_irem C dL_law_166 (by decide) ?_
            refine z_topi (nI ((i + 1 + dd) % 3)) (at_j i hi3 dd hd2) ?_
            obtain ⟨j, ej⟩ : ∃ j : Nat, j = (i + 1 + dd) % 3 := ⟨_, rfl⟩
            have hj3 : j < 3 := by rw [ej]; exact j_lt i dd
            have hij : ¬ j = i := by rw [ej]; exact j_ne hi3 hd2
            refine z_topi (nI j) (by rw [ej]) ?_
            refine z_istore (lv' := [(0, .ref b), (1, .ref (a 0)), (3, .ref qx), (6, .int (nI k)), (7, .int r1), (8, .int (nI i)), (9, .int (nI j))]) C dL_law_167 (by decide) [1, 2, 3, 4, 5, 6, 0] rfl ?_
            refine z_iload C dL_law_169 4 rfl ?_
            refine z_bipush (v := 7) C dL_law_171 (by decide) ?_
            refine z_iand C dL_law_173 ?_
            refine z_istore (lv' := [(0, .ref b), (1, .ref (a 0)), (3, .ref qx), (6, .int (nI k)), (7, .int r1), (8, .int (nI i)), (9, .int (nI j)), (10, .int (r1 &&& 7))]) C dL_law_174 (by decide) [1, 2, 3, 4, 5, 6, 7, 0] rfl ?_
            have J445 : ∀ (M2 : Nat → Nat → Int32) (S2 : Nat → Nat → Int32) (rl2 : Nat → Int32) (rh2 : Nat → Int32) (bl2 : Nat → Int32) (bh2 : Nat → Int32) (kl2 : Nat → Int32) (kh2 : Nat → Int32) (mn2 : Nat → Int64) (vc2 : Nat → Int64) (iv2 : Nat → Nat → Int64) (sc2 : Int64), lI M2 rl2 rh2 bl2 bh2 fx → zW p l e room_1 s m #[Value.ref b] below meth c (lw_Z below #[Value.ref b] s) 14 A s.heap D vwCl (100 + 40 * k + 16) (600 + 240 * k + 96) (wl K a qa qx ql qh ((3, M2, S2, rl2, rh2, bl2, bh2, kl2, kh2, mn2, vc2, iv2, sc2), fa0, fx, fl0, fh0)) 445 ([(0, .ref b), (1, .ref (a 0)), (3, .ref qx), (6, .int (nI k))]) [] := by
              intro M2 S2 rl2 rh2 bl2 bh2 kl2 kh2 mn2 vc2 iv2 sc2 hJ445
              refine z_aload_n C dL_law_445 1 rfl ?_
              refine z_aload_n C dL_law_446 2 rfl ?_
              refine z_iconst (v := 0) C dL_law_447 (by decide) ?_
              refine z_iald C 0 rfl 28 rfl dL_law_448 0 rfl (by decide) (by decide) ?_
              refine z_aload_n C dL_law_449 2 rfl ?_
              refine z_iconst (v := 1) C dL_law_450 (by decide) ?_
              refine z_iald C 0 rfl 28 rfl dL_law_451 1 rfl (by decide) (by decide) ?_
              refine z_aload_n C dL_law_452 2 rfl ?_
              refine z_iconst (v := 2) C dL_law_453 (by decide) ?_
              refine z_iald C 0 rfl 28 rfl dL_law_454 2 rfl (by decide) (by decide) ?_
              refine z_iconst (v := 0) C dL_law_455 (by decide) ?_
              refine z_iconst (v := 0) C dL_law_456 (by decide) ?_
              refine wl_callmi (As := [.int (fx 0), .int (fx 1), .int (fx 2), .int 0, .int 0]) C (c0_isSolution l D K a 3 M2 S2 rl2 rh2 bl2 bh2 kl2 kh2 mn2 vc2 iv2 sc2 (fx 0) (fx 1) (fx 2) 0 0 (by omega)) (cwV 5 C.1.2.2.2.2 gL_law_X0_isSolution rfl rfl rfl (by decide +kernel) ⟨Nat.le_of_ble_eq_true rfl, Nat.le_of_ble_eq_true rfl⟩) dL_law_457 rfl rfl (Nat.le_of_ble_eq_true rfl) ⟨Nat.le_trans (show 100 + 40 * k + 16 + 0 ≤ 4000 by omega) rm_c, Nat.le_trans (show 600 + 240 * k + 96 + 0 ≤ 40000 by omega) rm_s⟩ (fun r4 u4 h4 => ?_)
              obtain ⟨rfl, vc_4, rfl⟩ := h4
              refine z_topi 1 (sol_1 hJ445.1 hv hJ445.2.2.1) ?_
              refine z_if_ne (tgt := 465) C dL_law_460 (by decide) (fun c460 => ?_) (fun c460 => ?_)
              · refine z_aload_n C dL_law_465 1 rfl ?_
                refine wl_callml (As := []) C (c0_determinant l D K a 3 M2 S2 rl2 rh2 bl2 bh2 kl2 kh2 mn2 vc_4 iv2 sc2 (by omega)) (cwV 0 C.1.2.2.2.2 gL_law_X0_determinant rfl rfl rfl (by decide +kernel) ⟨Nat.le_of_ble_eq_true rfl, Nat.le_of_ble_eq_true rfl⟩) dL_law_466 rfl rfl (Nat.le_of_ble_eq_true rfl) ⟨Nat.le_trans (show 100 + 40 * k + 16 + 0 ≤ 4000 by omega) rm_c, Nat.le_trans (show 600 + 240 * k + 96 + 0 ≤ 40000 by omega) rm_s⟩ (fun r5 u5 h5 => ?_)
                obtain ⟨rfl, mn_5, rfl⟩ := h5
                refine z_lconst (v := 0) C dL_law_469 (by decide) ?_
                have J479 : ∀ (isn : Int32), (¬ isn = 0 → ¬ detM M2 3 = 0) → zW p l e room_1 s m #[Value.ref b] below meth c (lw_Z below #[Value.ref b] s) 14 A s.heap D vwCl (100 + 40 * k + 16) (600 + 240 * k + 96) (wl K a qa qx ql qh ((3, M2, S2, rl2, rh2, bl2, bh2, kl2, kh2, mn_5, vc_4, iv2, sc2), fa0, fx, fl0, fh0)) 479 ([(0, .ref b), (1, .ref (a 0)), (3, .ref qx), (6, .int (nI k))]) [.int isn] := by
                  intro isn hJ479
                  refine z_istore (lv' := [(0, .ref b), (1, .ref (a 0)), (3, .ref qx), (6, .int (nI k)), (11, .int isn)]) C dL_law_479 (by decide) [1, 2, 3, 4, 0] rfl ?_
                  refine z_iconst (v := 0) C dL_law_481 (by decide) ?_
                  refine z_istore (lv' := [(0, .ref b), (1, .ref (a 0)), (3, .ref qx), (6, .int (nI k)), (11, .int isn), (12, .int 0)]) C dL_law_482 (by decide) [1, 2, 3, 4, 5, 0] rfl ?_
                  refine z_widen (k := 100 + 40 * k + 16 + 6 * 0) (n := 600 + 240 * k + 96 + 36 * 0) (by omega) (by omega) ?_
                  suffices L484 : ∀ (f484_q q : Nat) (mn3 : Nat → Int64) (iv3 : Nat → Nat → Int64) (sc3 : Int64), 0 ≤ q → q ≤ 3 → 3 < q + f484_q → zW p l e room_1 s m #[Value.ref b] below meth c (lw_Z below #[Value.ref b] s) 14 A s.heap D vwCl (100 + 40 * k + 16 + 6 * q) (600 + 240 * k + 96 + 36 * q) (wl K a qa qx ql qh ((3, M2, S2, rl2, rh2, bl2, bh2, kl2, kh2, mn3, vc_4, iv3, sc3), fa0, fx, fl0, fh0)) 484 ([(0, .ref b), (1, .ref (a 0)), (3, .ref qx), (6, .int (nI k)), (11, .int isn), (12, .int (nI q))]) [] from L484 (3 + 1) 0 mn_5 iv2 sc2 (Nat.le_refl _) (by omega) (by omega)
                  intro f484_q
                  induction f484_q with
                  | zero => intro q mn3 iv3 sc3 h0 h1 h2; exact absurd h2 (by omega)
                  | succ f484_q ih484_q =>
                    intro q mn3 iv3 sc3 g484_0 g484_1 g484_2
                    refine z_iload C dL_law_484 5 rfl ?_
                    refine z_iconst (v := 3) C dL_law_486 (by decide) ?_
                    refine z_icmp_ge (tgt := 583) C dL_law_487 (by decide) (fun c487 => ?_) (fun c487 => ?_)
                    · have e487 : q = 3 := by have := (nI_leI (a := 3) (b := q) (by omega) (by omega)).mp c487; omega
                      subst e487
                      refine z_iinc (v := nI (k + 1)) (lv' := [(0, .ref b), (1, .ref (a 0)), (3, .ref qx), (6, .int (nI (k + 1))), (11, .int isn), (12, .int (nI 3))]) C dL_law_583 (k := 3) rfl (nI_1 k) (by decide) [1, 2, 3, 0, 4, 5] rfl ?_
                      refine z_goto (tgt := 123) C dL_law_586 (by decide) ?_
                      refine z_lv (lv' := [(0, .ref b), (1, .ref (a 0)), (3, .ref qx), (6, .int (nI (k + 1)))]) [0, 1, 2, 3] rfl ?_
                      refine z_widen (k := 100 + 40 * (k + 1)) (n := 600 + 240 * (k + 1)) (by omega) (by omega) ?_
                      exact ih123_k (k + 1) M2 S2 rl2 rh2 bl2 bh2 kl2 kh2 mn3 vc_4 iv3 sc3 (by omega) (by omega) (by omega) hJ445
                    · have e487 : q < 3 := by have := mt (nI_leI (a := 3) (b := q) (by omega) (by omega)).mpr c487; omega
                      refine z_aload_n C dL_law_490 1 rfl ?_
                      refine z_iload C dL_law_491 5 rfl ?_
                      refine wl_callxi (As := [.int (nI q)]) C hX (c0_boxLow l D K a 3 M2 S2 rl2 rh2 bl2 bh2 kl2 kh2 mn3 vc_4 iv3 sc3 (nI q) hst (by omega)) (fun E u h => absurd ((kIx_n e487).symm.trans h.1.1) (by decide)) (cwV 1 C.1.2.2.2.2 gL_law_X0_boxLow rfl rfl rfl (by decide +kernel) ⟨Nat.le_of_ble_eq_true rfl, Nat.le_of_ble_eq_true rfl⟩) dL_law_493 rfl rfl (Nat.le_of_ble_eq_true rfl) ⟨Nat.le_trans (show 100 + 40 * k + 16 + 6 * q + 1 ≤ 4000 by omega) rm_c, Nat.le_trans (show 600 + 240 * k + 96 + 36 * q + 6 ≤ 40000 by omega) rm_s⟩ (fun r6 u6 h6 => ?_)
                      obtain ⟨-, rfl, rfl⟩ := h6
                      rw [ix_n e487]
                      refine z_sipush (v := 1024) C dL_law_496 (by decide) ?_
                      refine z_aload_n C dL_law_499 2 rfl ?_
                      refine z_iload C dL_law_500 5 rfl ?_
                      refine z_iald C 0 rfl 28 rfl dL_law_502 q rfl (by omega) (by decide) ?_
                      refine z_imul C dL_law_503 ?_
                      refine z_icmp_gt (tgt := 524) C dL_law_504 (by decide) (fun c504 => ?_) (fun c504 => ?_)
                      · exact absurd c504 (bx_lo hv hJ445.2.2.2.2 e487)
                      · refine z_aload_n C dL_law_507 1 rfl ?_
                        refine z_iload C dL_law_508 5 rfl ?_
                        refine wl_callxi (As := [.int (nI q)]) C hX (c0_boxHigh l D K a 3 M2 S2 rl2 rh2 bl2 bh2 kl2 kh2 mn3 vc_4 iv3 sc3 (nI q) hst (by omega)) (fun E u h => absurd ((kIx_n e487).symm.trans h.1.1) (by decide)) (cwV 1 C.1.2.2.2.2 gL_law_X0_boxHigh rfl rfl rfl (by decide +kernel) ⟨Nat.le_of_ble_eq_true rfl, Nat.le_of_ble_eq_true rfl⟩) dL_law_510 rfl rfl (Nat.le_of_ble_eq_true rfl) ⟨Nat.le_trans (show 100 + 40 * k + 16 + 6 * q + 1 + 1 ≤ 4000 by omega) rm_c, Nat.le_trans (show 600 + 240 * k + 96 + 36 * q + 6 + 6 ≤ 40000 by omega) rm_s⟩ (fun r7 u7 h7 => ?_)
                        obtain ⟨-, rfl, rfl⟩ := h7
                        rw [ix_n e487]
                        refine z_sipush (v := 1024) C dL_law_513 (by decide) ?_
                        refine z_aload_n C dL_law_516 2 rfl ?_
                        refine z_iload C dL_law_517 5 rfl ?_
                        refine z_iald C 0 rfl 28 rfl dL_law_519 q rfl (by omega) (by decide) ?_
                        refine z_imul C dL_law_520 ?_
                        refine z_icmp_ge (tgt := 526) C dL_law_521 (by decide) (fun c521 => ?_) (fun c521 => ?_)
                        · refine z_iload C dL_law_526 4 rfl ?_
                          refine z_if_eq (tgt := 577) C dL_law_528 (by decide) (fun c528 => ?_) (fun c528 => ?_)
                          · refine z_iinc (v := nI (q + 1)) (lv' := [(0, .ref b), (1, .ref (a 0)), (3, .ref qx), (6, .int (nI k)), (11, .int isn), (12, .int (nI (q + 1)))]) C dL_law_577 (k := 5) rfl (nI_1 q) (by decide) [1, 2, 3, 4, 5, 0] rfl ?_
                            refine z_goto (tgt := 484) C dL_law_580 (by decide) ?_
                            refine z_widen (k := 100 + 40 * k + 16 + 6 * (q + 1)) (n := 600 + 240 * k + 96 + 36 * (q + 1)) (by omega) (by omega) ?_
                            exact ih484_q (q + 1) mn3 iv3 sc3 (by omega) (by omega) (by omega)
                          · have hd := hJ479 c528
                            refine z_aload_n C dL_law_531 1 rfl ?_
                            refine z_iload C dL_law_532 5 rfl ?_
                            refine wl_callxl (As := [.int (nI q)]) C hX (c0_lowNumerator l D K a 3 M2 S2 rl2 rh2 bl2 bh2 kl2 kh2 mn3 vc_4 iv3 sc3 (nI q) hst (by omega)) (fun E u h => (fun z => Or.elim z (fun q => absurd ((kHul_n e487 hd).symm.trans q.1) (by decide)) (fun q => absurd ((kHul_n e487 hd).symm.trans q.1) (by decide))) h.1) (cwV 1 C.1.2.2.2.2 gL_law_X0_lowNumerator rfl rfl rfl (by decide +kernel) ⟨Nat.le_of_ble_eq_true rfl, Nat.le_of_ble_eq_true rfl⟩) dL_law_534 rfl rfl (Nat.le_of_ble_eq_true rfl) ⟨Nat.le_trans (show 100 + 40 * k + 16 + 6 * q + 1 + 1 + 1 ≤ 4000 by omega) rm_c, Nat.le_trans (show 600 + 240 * k + 96 + 36 * q + 6 + 6 + 6 ≤ 40000 by omega) rm_s⟩ (fun r8 u8 h8 => ?_)
                            obtain ⟨-, hr_8, mn_8, iv_8, sc_8, hu_8⟩ := h8
                            rw [ix_n e487] at hr_8
                            rw [hr_8, hu_8]
                            refine z_aload_n C dL_law_537 2 rfl ?_
                            refine z_iload C dL_law_538 5 rfl ?_
                            refine z_iald C 0 rfl 28 rfl dL_law_540 q rfl (by omega) (by decide) ?_
                            refine z_i2l C dL_law_541 ?_
                            refine z_aload_n C dL_law_542 1 rfl ?_
                            refine z_iload C dL_law_543 5 rfl ?_
                            refine wl_callxl (As := [.int (nI q)]) C hX (c0_lowDenominator l D K a 3 M2 S2 rl2 rh2 bl2 bh2 kl2 kh2 mn_8 vc_4 iv_8 sc_8 (nI q) hst (by omega)) (fun E u h => (fun z => Or.elim z (fun q => absurd ((kHul_n e487 hd).symm.trans q.1) (by decide)) (fun q => absurd ((kHul_n e487 hd).symm.trans q.1) (by decide))) h.1) (cwV 1 C.1.2.2.2.2 gL_law_X0_lowDenominator rfl rfl rfl (by decide +kernel) ⟨Nat.le_of_ble_eq_true rfl, Nat.le_of_ble_eq_true rfl⟩) dL_law_545 rfl rfl (Nat.le_of_ble_eq_true rfl) ⟨Nat.le_trans (show 100 + 40 * k + 16 + 6 * q + 1 + 1 + 1 + 1 ≤ 4000 by omega) rm_c, Nat.le_trans (show 600 + 240 * k + 96 + 36 * q + 6 + 6 + 6 + 6 ≤ 40000 by omega) rm_s⟩ (fun r9 u9 h9 => ?_)
                            obtain ⟨-, hr_9, mn_9, iv_9, sc_9, hu_9⟩ := h9
                            rw [ix_n e487] at hr_9
                            rw [hr_9, hu_9]
                            refine z_lmul C dL_law_548 ?_
                            refine z_lcmp_gt (tgt := 575) C dL_law_549 dL_law_550 (by decide) (fun c549 => ?_) (fun c549 => ?_)
                            · exact absurd c549 (rd_lo hJ445.1 hJ445.2.1 hv hJ445.2.2.1 e487 hd)
                            · refine z_aload_n C dL_law_553 1 rfl ?_
                              refine z_iload C dL_law_554 5 rfl ?_
                              refine wl_callxl (As := [.int (nI q)]) C hX (c0_highNumerator l D K a 3 M2 S2 rl2 rh2 bl2 bh2 kl2 kh2 mn_9 vc_4 iv_9 sc_9 (nI q) hst (by omega)) (fun E u h => (fun z => Or.elim z (fun q => absurd ((kHul_n e487 hd).symm.trans q.1) (by decide)) (fun q => absurd ((kHul_n e487 hd).symm.trans q.1) (by decide))) h.1) (cwV 1 C.1.2.2.2.2 gL_law_X0_highNumerator rfl rfl rfl (by decide +kernel) ⟨Nat.le_of_ble_eq_true rfl, Nat.le_of_ble_eq_true rfl⟩) dL_law_556 rfl rfl (Nat.le_of_ble_eq_true rfl) ⟨Nat.le_trans (show 100 + 40 * k + 16 + 6 * q + 1 + 1 + 1 + 1 + 1 ≤ 4000 by omega) rm_c, Nat.le_trans (show 600 + 240 * k + 96 + 36 * q + 6 + 6 + 6 + 6 + 6 ≤ 40000 by omega) rm_s⟩ (fun r10 u10 h10 => ?_)
                              obtain ⟨-, hr_10, mn_10, iv_10, sc_10, hu_10⟩ := h10
                              rw [ix_n e487] at hr_10
                              rw [hr_10, hu_10]
                              refine z_aload_n C dL_law_559 2 rfl ?_
                              refine z_iload C dL_law_560 5 rfl ?_
                              refine z_iald C 0 rfl 28 rfl dL_law_562 q rfl (by omega) (by decide) ?_
                              refine z_i2l C dL_law_563 ?_
                              refine z_aload_n C dL_law_564 1 rfl ?_
                              refine z_iload C dL_law_565 5 rfl ?_
                              refine wl_callxl (As := [.int (nI q)]) C hX (c0_highDenominator l D K a 3 M2 S2 rl2 rh2 bl2 bh2 kl2 kh2 mn_10 vc_4 iv_10 sc_10 (nI q) hst (by omega)) (fun E u h => (fun z => Or.elim z (fun q => absurd ((kHul_n e487 hd).symm.trans q.1) (by decide)) (fun q => absurd ((kHul_n e487 hd).symm.trans q.1) (by decide))) h.1) (cwV 1 C.1.2.2.2.2 gL_law_X0_highDenominator rfl rfl rfl (by decide +kernel) ⟨Nat.le_of_ble_eq_true rfl, Nat.le_of_ble_eq_true rfl⟩) dL_law_567 rfl rfl (Nat.le_of_ble_eq_true rfl) ⟨Nat.le_trans (show 100 + 40 * k + 16 + 6 * q + 1 + 1 + 1 + 1 + 1 + 1 ≤ 4000 by omega) rm_c, Nat.le_trans (show 600 + 240 * k + 96 + 36 * q + 6 + 6 + 6 + 6 + 6 + 6 ≤ 40000 by omega) rm_s⟩ (fun r11 u11 h11 => ?_)
                              obtain ⟨-, hr_11, mn_11, iv_11, sc_11, hu_11⟩ := h11
                              rw [ix_n e487] at hr_11
                              rw [hr_11, hu_11]
                              refine z_lmul C dL_law_570 ?_
                              refine z_lcmp_ge (tgt := 577) C dL_law_571 dL_law_572 (by decide) (fun c571 => ?_) (fun c571 => ?_)
                              · refine z_iinc (v := nI (q + 1)) (lv' := [(0, .ref b), (1, .ref (a 0)), (3, .ref qx), (6, .int (nI k)), (11, .int isn), (12, .int (nI (q + 1)))]) C dL_law_577 (k := 5) rfl (nI_1 q) (by decide) [1, 2, 3, 4, 5, 0] rfl ?_
                                refine z_goto (tgt := 484) C dL_law_580 (by decide) ?_
                                refine z_widen (k := 100 + 40 * k + 16 + 6 * (q + 1)) (n := 600 + 240 * k + 96 + 36 * (q + 1)) (by omega) (by omega) ?_
                                exact ih484_q (q + 1) mn_11 iv_11 sc_11 (by omega) (by omega) (by omega)
                              · exact absurd c571 (rd_hi hJ445.1 hJ445.2.1 hv hJ445.2.2.1 e487 hd)
                        · exact absurd (bx_hi hv hJ445.2.2.2.2 e487) c521
                refine z_lcmp_eq (tgt := 478) C dL_law_470 dL_law_471 (by decide) (fun c470 => ?_) (fun c470 => ?_)
                · refine z_iconst (v := 0) C dL_law_478 (by decide) ?_
                  refine z_widen (k := 100 + 40 * k + 16) (n := 600 + 240 * k + 96) (by omega) (by omega) ?_
                  exact J479 _ (fun q => absurd rfl q)
                · refine z_iconst (v := 1) C dL_law_474 (by decide) ?_
                  refine z_goto (tgt := 479) C dL_law_475 (by decide) ?_
                  refine z_widen (k := 100 + 40 * k + 16) (n := 600 + 240 * k + 96) (by omega) (by omega) ?_
                  exact J479 _ (fun _ => c470)
              · exact absurd c460 (by decide)
            refine z_iload C dL_law_176 7 rfl ?_
            refine z_iconst (v := 3) C dL_law_178 (by decide) ?_
            refine z_icmp_ge (tgt := 191) C dL_law_179 (by decide) (fun c179 => ?_) (fun c179 => ?_)
            · refine z_iload C dL_law_191 7 rfl ?_
              refine z_iconst (v := 3) C dL_law_193 (by decide) ?_
              refine z_icmp_ne (tgt := 215) C dL_law_194 (by decide) (fun c194 => ?_) (fun c194 => ?_)
              · refine z_iload C dL_law_215 7 rfl ?_
                refine z_iconst (v := 4) C dL_law_217 (by decide) ?_
                refine z_icmp_ne (tgt := 243) C dL_law_218 (by decide) (fun c218 => ?_) (fun c218 => ?_)
                · refine z_iload C dL_law_243 7 rfl ?_
                  refine z_iconst (v := 5) C dL_law_245 (by decide) ?_
                  refine z_icmp_ne (tgt := 262) C dL_law_246 (by decide) (fun c246 => ?_) (fun c246 => ?_)
                  · refine z_iload C dL_law_262 4 rfl ?_
                    refine z_bipush (v := 8) C dL_law_264 (by decide) ?_
                    refine z_ishr C dL_law_266 ?_
                    refine z_iconst (v := 3) C dL_law_267 (by decide) ?_
                    refine z_callSi_none (As := [.int (r1 >>> (8 &&& 31)), .int 3]) C (cL_below_met l D K (r1 >>> (8 &&& 31)) (3 : Int32) (by decide)) (va_cwS 2 C.1.2.2.2.2 gL_law_L_below rfl rfl rfl (by decide +kernel) ⟨Nat.le_of_ble_eq_true rfl, Nat.le_of_ble_eq_true rfl⟩) dL_law_268 rfl rfl (Nat.le_of_ble_eq_true rfl) ⟨Nat.le_trans (show 100 + 40 * k + 0 ≤ 4000 by omega) rm_c, Nat.le_trans (show 600 + 240 * k + 0 ≤ 40000 by omega) rm_s⟩ (fun r12 u12 h12 => ?_)
                    subst h12
                    refine z_iconst (v := 1) C dL_law_271 (by decide) ?_
                    refine z_isub C dL_law_272 ?_
                    obtain ⟨f1, ef⟩ : ∃ y : Int32, y = (blw (r1 >>> ((8 : Int32) &&& 31)) (3 : Int32)) - 1 := ⟨_, rfl⟩
                    have hf1 : -1 ≤ f1.toInt ∧ f1.toInt ≤ 1 := by rw [ef]; exact f_in _
                    refine z_topi f1 ef.symm ?_
                    refine z_istore (lv' := [(0, .ref b), (1, .ref (a 0)), (3, .ref qx), (6, .int (nI k)), (7, .int r1), (8, .int (nI i)), (9, .int (nI j)), (10, .int (r1 &&& 7)), (11, .int f1)]) C dL_law_273 (by decide) [1, 2, 3, 4, 5, 6, 7, 8, 0] rfl ?_
                    have J368 : ∀ (ft : Int32), (¬ ft = 0 → fitR rl1 rh1 i j) → zW p l e room_1 s m #[Value.ref b] below meth c (lw_Z below #[Value.ref b] s) 14 A s.heap D vwCl (100 + 40 * k + 8) (600 + 240 * k + 48) (wl K a qa qx ql qh ((3, M1, S1, rl1, rh1, bl1, bh1, kl1, kh1, mn1, vc1, iv1, sc1), fa0, fx, fl0, fh0)) 368 ([(0, .ref b), (1, .ref (a 0)), (3, .ref qx), (6, .int (nI k)), (8, .int (nI i)), (9, .int (nI j)), (11, .int f1)]) [.int ft] := by
                      intro ft hJ368
                      refine z_istore (lv' := [(0, .ref b), (1, .ref (a 0)), (3, .ref qx), (6, .int (nI k)), (8, .int (nI i)), (9, .int (nI j)), (11, .int f1), (12, .int ft)]) C dL_law_368 (by decide) [1, 2, 3, 4, 5, 6, 7, 0] rfl ?_
                      refine z_iconst (v := 0) C dL_law_370 (by decide) ?_
                      refine z_istore (lv' := [(0, .ref b), (1, .ref (a 0)), (3, .ref qx), (6, .int (nI k)), (8, .int (nI i)), (9, .int (nI j)), (11, .int f1), (12, .int ft), (13, .int 0)]) C dL_law_371 (by decide) [1, 2, 3, 4, 5, 6, 7, 8, 0] rfl ?_
                      refine z_widen (k := 100 + 40 * k + 8 + 2 * 0) (n := 600 + 240 * k + 48 + 12 * 0) (by omega) (by omega) ?_
                      suffices L373 : ∀ (f373_t t : Nat) (fu : Int32), 0 ≤ t → t ≤ 3 → 3 < t + f373_t → (¬ fu = 0 → fitR rl1 rh1 i j ∧ fitC M1 i j t) → zW p l e room_1 s m #[Value.ref b] below meth c (lw_Z below #[Value.ref b] s) 14 A s.heap D vwCl (100 + 40 * k + 8 + 2 * t) (600 + 240 * k + 48 + 12 * t) (wl K a qa qx ql qh ((3, M1, S1, rl1, rh1, bl1, bh1, kl1, kh1, mn1, vc1, iv1, sc1), fa0, fx, fl0, fh0)) 373 ([(0, .ref b), (1, .ref (a 0)), (3, .ref qx), (6, .int (nI k)), (8, .int (nI i)), (9, .int (nI j)), (11, .int f1), (12, .int fu), (13, .int (nI t))]) [] from L373 (3 + 1) 0 ft (Nat.le_refl _) (by omega) (by omega) (fun q => ⟨hJ368 q, fun t ht => absurd ht (Nat.not_lt_zero t)⟩)
                      intro f373_t
                      induction f373_t with
                      | zero => intro t fu h0 h1 h2; exact absurd h2 (by omega)
                      | succ f373_t ih373_t =>
                        intro t fu g373_0 g373_1 g373_2 hft
                        refine z_iload C dL_law_373 8 rfl ?_
                        refine z_iconst (v := 3) C dL_law_375 (by decide) ?_
                        refine z_icmp_ge (tgt := 425) C dL_law_376 (by decide) (fun c376 => ?_) (fun c376 => ?_)
                        · have e376 : t = 3 := by have := (nI_leI (a := 3) (b := t) (by omega) (by omega)).mp c376; omega
                          subst e376
                          refine z_iload C dL_law_425 7 rfl ?_
                          refine z_if_eq (tgt := 445) C dL_law_427 (by decide) (fun c427 => ?_) (fun c427 => ?_)
                          · refine z_lv (lv' := [(0, .ref b), (1, .ref (a 0)), (3, .ref qx), (6, .int (nI k))]) [0, 1, 2, 3] rfl ?_
                            refine z_widen (k := 100 + 40 * k + 16) (n := 600 + 240 * k + 96) (by omega) (by omega) ?_
                            exact J445 _ _ _ _ _ _ _ _ _ _ _ _ hI
                          · have hfit := (hft c427)
                            obtain ⟨hk0, harI⟩ := ar_I hI hi3 hj3 hij hf1.1 hf1.2 ⟨hfit.1, hfit.2⟩
                            refine z_aload_n C dL_law_430 1 rfl ?_
                            refine z_iload C dL_law_431 4 rfl ?_
                            refine z_iload C dL_law_433 5 rfl ?_
                            refine z_iload C dL_law_435 6 rfl ?_
                            refine wl_callxi (As := [.int (nI i), .int (nI j), .int f1]) C hX (c0_addRow l D K a 3 M1 S1 rl1 rh1 bl1 bh1 kl1 kh1 mn1 vc1 iv1 sc1 (nI i) (nI j) f1 hst (by omega)) (fun E u h => (fun z => Or.elim z (fun q => absurd (hk0.symm.trans q.1) (by decide)) (fun z => Or.elim z (fun q => absurd (hk0.symm.trans q.1) (by decide)) (fun q => absurd (hk0.symm.trans q.1) (by decide)))) h.1) (cwV 3 C.1.2.2.2.2 gL_law_X0_addRow rfl rfl rfl (by decide +kernel) ⟨Nat.le_of_ble_eq_true rfl, Nat.le_of_ble_eq_true rfl⟩) dL_law_437 rfl rfl (Nat.le_of_ble_eq_true rfl) ⟨Nat.le_trans (show 100 + 40 * k + 8 + 2 * 3 + 1 ≤ 4000 by omega) rm_c, Nat.le_trans (show 600 + 240 * k + 48 + 12 * 3 + 6 ≤ 40000 by omega) rm_s⟩ (fun r13 u13 h13 => ?_)
                            obtain ⟨-, rfl, rfl⟩ := h13
                            rw [ix_n hi3, ix_n hj3]
                            refine z_if_ge (tgt := 445) C dL_law_440 (by decide) (fun c440 => ?_) (fun c440 => ?_)
                            · refine z_lv (lv' := [(0, .ref b), (1, .ref (a 0)), (3, .ref qx), (6, .int (nI k))]) [0, 1, 2, 3] rfl ?_
                              refine z_widen (k := 100 + 40 * k + 16) (n := 600 + 240 * k + 96) (by omega) (by omega) ?_
                              exact J445 _ _ _ _ _ _ _ _ _ _ _ _ harI
                            · exact absurd (ge_0 (acC_0 3 (Nat.le_refl 3)).1) c440
                        · have e376 : t < 3 := by have := mt (nI_leI (a := 3) (b := t) (by omega) (by omega)).mpr c376; omega
                          refine z_iload C dL_law_379 7 rfl ?_
                          refine z_if_eq (tgt := 416) C dL_law_381 (by decide) (fun c381 => ?_) (fun c381 => ?_)
                          · refine z_iconst (v := 0) C dL_law_416 (by decide) ?_
                            refine z_istore (lv' := [(0, .ref b), (1, .ref (a 0)), (3, .ref qx), (6, .int (nI k)), (8, .int (nI i)), (9, .int (nI j)), (11, .int f1), (12, .int 0), (13, .int (nI t))]) C dL_law_417 (by decide) [1, 2, 3, 4, 5, 6, 7, 0, 8] rfl ?_
                            refine z_iinc (v := nI (t + 1)) (lv' := [(0, .ref b), (1, .ref (a 0)), (3, .ref qx), (6, .int (nI k)), (8, .int (nI i)), (9, .int (nI j)), (11, .int f1), (12, .int 0), (13, .int (nI (t + 1)))]) C dL_law_419 (k := 8) rfl (nI_1 t) (by decide) [1, 2, 3, 4, 5, 6, 7, 8, 0] rfl ?_
                            refine z_goto (tgt := 373) C dL_law_422 (by decide) ?_
                            refine z_widen (k := 100 + 40 * k + 8 + 2 * (t + 1)) (n := 600 + 240 * k + 48 + 12 * (t + 1)) (by omega) (by omega) ?_
                            exact ih373_t (t + 1) 0 (by omega) (by omega) (by omega) (fun q => absurd rfl q)
                          · refine z_aload_n C dL_law_384 1 rfl ?_
                            refine z_iload C dL_law_385 4 rfl ?_
                            refine z_iload C dL_law_387 8 rfl ?_
                            refine wl_callxi (As := [.int (nI i), .int (nI t)]) C hX (c0_coefficient l D K a 3 M1 S1 rl1 rh1 bl1 bh1 kl1 kh1 mn1 vc1 iv1 sc1 (nI i) (nI t) hst (by omega)) (fun E u h => absurd ((kIx2_n hi3 e376).symm.trans h.1.1) (by decide)) (cwV 2 C.1.2.2.2.2 gL_law_X0_coefficient rfl rfl rfl (by decide +kernel) ⟨Nat.le_of_ble_eq_true rfl, Nat.le_of_ble_eq_true rfl⟩) dL_law_389 rfl rfl (Nat.le_of_ble_eq_true rfl) ⟨Nat.le_trans (show 100 + 40 * k + 8 + 2 * t + 1 ≤ 4000 by omega) rm_c, Nat.le_trans (show 600 + 240 * k + 48 + 12 * t + 6 ≤ 40000 by omega) rm_s⟩ (fun r14 u14 h14 => ?_)
                            obtain ⟨-, rfl, rfl⟩ := h14
                            rw [ix_n hi3, ix_n e376]
                            refine z_mabs C lk0 lk1 lk2 lk3 (Nat.le_of_ble_eq_true rfl) (Nat.le_of_ble_eq_true rfl) (Nat.le_trans (show 100 + 40 * k + 8 + 2 * t + 1 ≤ 4000 by omega) rm_c) (Nat.le_trans (show 600 + 240 * k + 48 + 12 * t + 6 ≤ 40000 by omega) rm_s) dL_law_392 ?_
                            refine z_topi (absI (M1 i t)) rfl ?_
                            refine z_aload_n C dL_law_395 1 rfl ?_
                            refine z_iload C dL_law_396 5 rfl ?_
                            refine z_iload C dL_law_398 8 rfl ?_
                            refine wl_callxi (As := [.int (nI j), .int (nI t)]) C hX (c0_coefficient l D K a 3 M1 S1 rl1 rh1 bl1 bh1 kl1 kh1 mn1 vc1 iv1 sc1 (nI j) (nI t) hst (by omega)) (fun E u h => absurd ((kIx2_n hj3 e376).symm.trans h.1.1) (by decide)) (cwV 2 C.1.2.2.2.2 gL_law_X0_coefficient rfl rfl rfl (by decide +kernel) ⟨Nat.le_of_ble_eq_true rfl, Nat.le_of_ble_eq_true rfl⟩) dL_law_400 rfl rfl (Nat.le_of_ble_eq_true rfl) ⟨Nat.le_trans (show 100 + 40 * k + 8 + 2 * t + 1 + 1 ≤ 4000 by omega) rm_c, Nat.le_trans (show 600 + 240 * k + 48 + 12 * t + 6 + 6 ≤ 40000 by omega) rm_s⟩ (fun r15 u15 h15 => ?_)
                            obtain ⟨-, rfl, rfl⟩ := h15
                            rw [ix_n hj3, ix_n e376]
                            refine z_mabs C lk0 lk1 lk2 lk3 (Nat.le_of_ble_eq_true rfl) (Nat.le_of_ble_eq_true rfl) (Nat.le_trans (show 100 + 40 * k + 8 + 2 * t + 1 + 1 ≤ 4000 by omega) rm_c) (Nat.le_trans (show 600 + 240 * k + 48 + 12 * t + 6 + 6 ≤ 40000 by omega) rm_s) dL_law_403 ?_
                            refine z_topi (absI (M1 j t)) rfl ?_
                            refine z_iadd C dL_law_406 ?_
                            refine z_bipush (v := 100) C dL_law_407 (by decide) ?_
                            refine z_icmp_ge (tgt := 416) C dL_law_409 (by decide) (fun c409 => ?_) (fun c409 => ?_)
                            · refine z_iconst (v := 0) C dL_law_416 (by decide) ?_
                              refine z_istore (lv' := [(0, .ref b), (1, .ref (a 0)), (3, .ref qx), (6, .int (nI k)), (8, .int (nI i)), (9, .int (nI j)), (11, .int f1), (12, .int 0), (13, .int (nI t))]) C dL_law_417 (by decide) [1, 2, 3, 4, 5, 6, 7, 0, 8] rfl ?_
                              refine z_iinc (v := nI (t + 1)) (lv' := [(0, .ref b), (1, .ref (a 0)), (3, .ref qx), (6, .int (nI k)), (8, .int (nI i)), (9, .int (nI j)), (11, .int f1), (12, .int 0), (13, .int (nI (t + 1)))]) C dL_law_419 (k := 8) rfl (nI_1 t) (by decide) [1, 2, 3, 4, 5, 6, 7, 8, 0] rfl ?_
                              refine z_goto (tgt := 373) C dL_law_422 (by decide) ?_
                              refine z_widen (k := 100 + 40 * k + 8 + 2 * (t + 1)) (n := 600 + 240 * k + 48 + 12 * (t + 1)) (by omega) (by omega) ?_
                              exact ih373_t (t + 1) 0 (by omega) (by omega) (by omega) (fun q => absurd rfl q)
                            · refine z_iconst (v := 1) C dL_law_412 (by decide) ?_
                              refine z_goto (tgt := 417) C dL_law_413 (by decide) ?_
                              refine z_istore (lv' := [(0, .ref b), (1, .ref (a 0)), (3, .ref qx), (6, .int (nI k)), (8, .int (nI i)), (9, .int (nI j)), (11, .int f1), (12, .int 1), (13, .int (nI t))]) C dL_law_417 (by decide) [1, 2, 3, 4, 5, 6, 7, 0, 8] rfl ?_
                              refine z_iinc (v := nI (t + 1)) (lv' := [(0, .ref b), (1, .ref (a 0)), (3, .ref qx), (6, .int (nI k)), (8, .int (nI i)), (9, .int (nI j)), (11, .int f1), (12, .int 1), (13, .int (nI (t + 1)))]) C dL_law_419 (k := 8) rfl (nI_1 t) (by decide) [1, 2, 3, 4, 5, 6, 7, 8, 0] rfl ?_
                              refine z_goto (tgt := 373) C dL_law_422 (by decide) ?_
                              refine z_widen (k := 100 + 40 * k + 8 + 2 * (t + 1)) (n := 600 + 240 * k + 48 + 12 * (t + 1)) (by omega) (by omega) ?_
                              exact ih373_t (t + 1) 1 (by omega) (by omega) (by omega) (fun _ => ⟨(hft c381).1, fit_C hI.1 hi3 hj3 e376 (hft c381).2 c409⟩)
                    refine z_aload_n C dL_law_275 1 rfl ?_
                    refine z_iload C dL_law_276 5 rfl ?_
                    refine wl_callxi (As := [.int (nI i)]) C hX (c0_rightLow l D K a 3 M1 S1 rl1 rh1 bl1 bh1 kl1 kh1 mn1 vc1 iv1 sc1 (nI i) hst (by omega)) (fun E u h => absurd ((kIx_n hi3).symm.trans h.1.1) (by decide)) (cwV 1 C.1.2.2.2.2 gL_law_X0_rightLow rfl rfl rfl (by decide +kernel) ⟨Nat.le_of_ble_eq_true rfl, Nat.le_of_ble_eq_true rfl⟩) dL_law_278 rfl rfl (Nat.le_of_ble_eq_true rfl) ⟨Nat.le_trans (show 100 + 40 * k + 1 ≤ 4000 by omega) rm_c, Nat.le_trans (show 600 + 240 * k + 6 ≤ 40000 by omega) rm_s⟩ (fun r16 u16 h16 => ?_)
                    obtain ⟨-, rfl, rfl⟩ := h16
                    rw [ix_n hi3]
                    refine z_aload_n C dL_law_281 1 rfl ?_
                    refine z_iload C dL_law_282 6 rfl ?_
                    refine wl_callxi (As := [.int (nI j)]) C hX (c0_rightLow l D K a 3 M1 S1 rl1 rh1 bl1 bh1 kl1 kh1 mn1 vc1 iv1 sc1 (nI j) hst (by omega)) (fun E u h => absurd ((kIx_n hj3).symm.trans h.1.1) (by decide)) (cwV 1 C.1.2.2.2.2 gL_law_X0_rightLow rfl rfl rfl (by decide +kernel) ⟨Nat.le_of_ble_eq_true rfl, Nat.le_of_ble_eq_true rfl⟩) dL_law_284 rfl rfl (Nat.le_of_ble_eq_true rfl) ⟨Nat.le_trans (show 100 + 40 * k + 1 + 1 ≤ 4000 by omega) rm_c, Nat.le_trans (show 600 + 240 * k + 6 + 6 ≤ 40000 by omega) rm_s⟩ (fun r17 u17 h17 => ?_)
                    obtain ⟨-, rfl, rfl⟩ := h17
                    rw [ix_n hj3]
                    refine z_mabs C lk0 lk1 lk2 lk3 (Nat.le_of_ble_eq_true rfl) (Nat.le_of_ble_eq_true rfl) (Nat.le_trans (show 100 + 40 * k + 1 + 1 ≤ 4000 by omega) rm_c) (Nat.le_trans (show 600 + 240 * k + 6 + 6 ≤ 40000 by omega) rm_s) dL_law_287 ?_
                    refine z_topi (absI (rl1 j)) rfl ?_
                    refine z_isub C dL_law_290 ?_
                    refine z_sipush (v := -900) C dL_law_291 (by decide) ?_
                    refine z_icmp_le (tgt := 367) C dL_law_294 (by decide) (fun c294 => ?_) (fun c294 => ?_)
                    · refine z_iconst (v := 0) C dL_law_367 (by decide) ?_
                      refine z_lv (lv' := [(0, .ref b), (1, .ref (a 0)), (3, .ref qx), (6, .int (nI k)), (8, .int (nI i)), (9, .int (nI j)), (11, .int f1)]) [0, 1, 2, 3, 5, 6, 8] rfl ?_
                      refine z_widen (k := 100 + 40 * k + 8) (n := 600 + 240 * k + 48) (by omega) (by omega) ?_
                      exact J368 _ (fun q => absurd rfl q)
                    · refine z_aload_n C dL_law_297 1 rfl ?_
                      refine z_iload C dL_law_298 5 rfl ?_
                      refine wl_callxi (As := [.int (nI i)]) C hX (c0_rightHigh l D K a 3 M1 S1 rl1 rh1 bl1 bh1 kl1 kh1 mn1 vc1 iv1 sc1 (nI i) hst (by omega)) (fun E u h => absurd ((kIx_n hi3).symm.trans h.1.1) (by decide)) (cwV 1 C.1.2.2.2.2 gL_law_X0_rightHigh rfl rfl rfl (by decide +kernel) ⟨Nat.le_of_ble_eq_true rfl, Nat.le_of_ble_eq_true rfl⟩) dL_law_300 rfl rfl (Nat.le_of_ble_eq_true rfl) ⟨Nat.le_trans (show 100 + 40 * k + 1 + 1 + 1 ≤ 4000 by omega) rm_c, Nat.le_trans (show 600 + 240 * k + 6 + 6 + 6 ≤ 40000 by omega) rm_s⟩ (fun r18 u18 h18 => ?_)
                      obtain ⟨-, rfl, rfl⟩ := h18
                      rw [ix_n hi3]
                      refine z_aload_n C dL_law_303 1 rfl ?_
                      refine z_iload C dL_law_304 6 rfl ?_
                      refine wl_callxi (As := [.int (nI j)]) C hX (c0_rightHigh l D K a 3 M1 S1 rl1 rh1 bl1 bh1 kl1 kh1 mn1 vc1 iv1 sc1 (nI j) hst (by omega)) (fun E u h => absurd ((kIx_n hj3).symm.trans h.1.1) (by decide)) (cwV 1 C.1.2.2.2.2 gL_law_X0_rightHigh rfl rfl rfl (by decide +kernel) ⟨Nat.le_of_ble_eq_true rfl, Nat.le_of_ble_eq_true rfl⟩) dL_law_306 rfl rfl (Nat.le_of_ble_eq_true rfl) ⟨Nat.le_trans (show 100 + 40 * k + 1 + 1 + 1 + 1 ≤ 4000 by omega) rm_c, Nat.le_trans (show 600 + 240 * k + 6 + 6 + 6 + 6 ≤ 40000 by omega) rm_s⟩ (fun r19 u19 h19 => ?_)
                      obtain ⟨-, rfl, rfl⟩ := h19
                      rw [ix_n hj3]
                      refine z_mabs C lk0 lk1 lk2 lk3 (Nat.le_of_ble_eq_true rfl) (Nat.le_of_ble_eq_true rfl) (Nat.le_trans (show 100 + 40 * k + 1 + 1 + 1 + 1 ≤ 4000 by omega) rm_c) (Nat.le_trans (show 600 + 240 * k + 6 + 6 + 6 + 6 ≤ 40000 by omega) rm_s) dL_law_309 ?_
                      refine z_topi (absI (rh1 j)) rfl ?_
                      refine z_iadd C dL_law_312 ?_
                      refine z_sipush (v := 900) C dL_law_313 (by decide) ?_
                      refine z_icmp_ge (tgt := 367) C dL_law_316 (by decide) (fun c316 => ?_) (fun c316 => ?_)
                      · refine z_iconst (v := 0) C dL_law_367 (by decide) ?_
                        refine z_lv (lv' := [(0, .ref b), (1, .ref (a 0)), (3, .ref qx), (6, .int (nI k)), (8, .int (nI i)), (9, .int (nI j)), (11, .int f1)]) [0, 1, 2, 3, 5, 6, 8] rfl ?_
                        refine z_widen (k := 100 + 40 * k + 8) (n := 600 + 240 * k + 48) (by omega) (by omega) ?_
                        exact J368 _ (fun q => absurd rfl q)
                      · refine z_aload_n C dL_law_319 1 rfl ?_
                        refine z_iload C dL_law_320 5 rfl ?_
                        refine wl_callxi (As := [.int (nI i)]) C hX (c0_rightLow l D K a 3 M1 S1 rl1 rh1 bl1 bh1 kl1 kh1 mn1 vc1 iv1 sc1 (nI i) hst (by omega)) (fun E u h => absurd ((kIx_n hi3).symm.trans h.1.1) (by decide)) (cwV 1 C.1.2.2.2.2 gL_law_X0_rightLow rfl rfl rfl (by decide +kernel) ⟨Nat.le_of_ble_eq_true rfl, Nat.le_of_ble_eq_true rfl⟩) dL_law_322 rfl rfl (Nat.le_of_ble_eq_true rfl) ⟨Nat.le_trans (show 100 + 40 * k + 1 + 1 + 1 + 1 + 1 ≤ 4000 by omega) rm_c, Nat.le_trans (show 600 + 240 * k + 6 + 6 + 6 + 6 + 6 ≤ 40000 by omega) rm_s⟩ (fun r20 u20 h20 => ?_)
                        obtain ⟨-, rfl, rfl⟩ := h20
                        rw [ix_n hi3]
                        refine z_aload_n C dL_law_325 1 rfl ?_
                        refine z_iload C dL_law_326 6 rfl ?_
                        refine wl_callxi (As := [.int (nI j)]) C hX (c0_rightHigh l D K a 3 M1 S1 rl1 rh1 bl1 bh1 kl1 kh1 mn1 vc1 iv1 sc1 (nI j) hst (by omega)) (fun E u h => absurd ((kIx_n hj3).symm.trans h.1.1) (by decide)) (cwV 1 C.1.2.2.2.2 gL_law_X0_rightHigh rfl rfl rfl (by decide +kernel) ⟨Nat.le_of_ble_eq_true rfl, Nat.le_of_ble_eq_true rfl⟩) dL_law_328 rfl rfl (Nat.le_of_ble_eq_true rfl) ⟨Nat.le_trans (show 100 + 40 * k + 1 + 1 + 1 + 1 + 1 + 1 ≤ 4000 by omega) rm_c, Nat.le_trans (show 600 + 240 * k + 6 + 6 + 6 + 6 + 6 + 6 ≤ 40000 by omega) rm_s⟩ (fun r21 u21 h21 => ?_)
                        obtain ⟨-, rfl, rfl⟩ := h21
                        rw [ix_n hj3]
                        refine z_mabs C lk0 lk1 lk2 lk3 (Nat.le_of_ble_eq_true rfl) (Nat.le_of_ble_eq_true rfl) (Nat.le_trans (show 100 + 40 * k + 1 + 1 + 1 + 1 + 1 + 1 ≤ 4000 by omega) rm_c) (Nat.le_trans (show 600 + 240 * k + 6 + 6 + 6 + 6 + 6 + 6 ≤ 40000 by omega) rm_s) dL_law_331 ?_
                        refine z_topi (absI (rh1 j)) rfl ?_
                        refine z_isub C dL_law_334 ?_
                        refine z_sipush (v := -900) C dL_law_335 (by decide) ?_
                        refine z_icmp_le (tgt := 367) C dL_law_338 (by decide) (fun c338 => ?_) (fun c338 => ?_)
                        · refine z_iconst (v := 0) C dL_law_367 (by decide) ?_
                          refine z_lv (lv' := [(0, .ref b), (1, .ref (a 0)), (3, .ref qx), (6, .int (nI k)), (8, .int (nI i)), (9, .int (nI j)), (11, .int f1)]) [0, 1, 2, 3, 5, 6, 8] rfl ?_
                          refine z_widen (k := 100 + 40 * k + 8) (n := 600 + 240 * k + 48) (by omega) (by omega) ?_
                          exact J368 _ (fun q => absurd rfl q)
                        · refine z_aload_n C dL_law_341 1 rfl ?_
                          refine z_iload C dL_law_342 5 rfl ?_
                          refine wl_callxi (As := [.int (nI i)]) C hX (c0_rightHigh l D K a 3 M1 S1 rl1 rh1 bl1 bh1 kl1 kh1 mn1 vc1 iv1 sc1 (nI i) hst (by omega)) (fun E u h => absurd ((kIx_n hi3).symm.trans h.1.1) (by decide)) (cwV 1 C.1.2.2.2.2 gL_law_X0_rightHigh rfl rfl rfl (by decide +kernel) ⟨Nat.le_of_ble_eq_true rfl, Nat.le_of_ble_eq_true rfl⟩) dL_law_344 rfl rfl (Nat.le_of_ble_eq_true rfl) ⟨Nat.le_trans (show 100 + 40 * k + 1 + 1 + 1 + 1 + 1 + 1 + 1 ≤ 4000 by omega) rm_c, Nat.le_trans (show 600 + 240 * k + 6 + 6 + 6 + 6 + 6 + 6 + 6 ≤ 40000 by omega) rm_s⟩ (fun r22 u22 h22 => ?_)
                          obtain ⟨-, rfl, rfl⟩ := h22
                          rw [ix_n hi3]
                          refine z_aload_n C dL_law_347 1 rfl ?_
                          refine z_iload C dL_law_348 6 rfl ?_
                          refine wl_callxi (As := [.int (nI j)]) C hX (c0_rightLow l D K a 3 M1 S1 rl1 rh1 bl1 bh1 kl1 kh1 mn1 vc1 iv1 sc1 (nI j) hst (by omega)) (fun E u h => absurd ((kIx_n hj3).symm.trans h.1.1) (by decide)) (cwV 1 C.1.2.2.2.2 gL_law_X0_rightLow rfl rfl rfl (by decide +kernel) ⟨Nat.le_of_ble_eq_true rfl, Nat.le_of_ble_eq_true rfl⟩) dL_law_350 rfl rfl (Nat.le_of_ble_eq_true rfl) ⟨Nat.le_trans (show 100 + 40 * k + 1 + 1 + 1 + 1 + 1 + 1 + 1 + 1 ≤ 4000 by omega) rm_c, Nat.le_trans (show 600 + 240 * k + 6 + 6 + 6 + 6 + 6 + 6 + 6 + 6 ≤ 40000 by omega) rm_s⟩ (fun r23 u23 h23 => ?_)
                          obtain ⟨-, rfl, rfl⟩ := h23
                          rw [ix_n hj3]
                          refine z_mabs C lk0 lk1 lk2 lk3 (Nat.le_of_ble_eq_true rfl) (Nat.le_of_ble_eq_true rfl) (Nat.le_trans (show 100 + 40 * k + 1 + 1 + 1 + 1 + 1 + 1 + 1 + 1 ≤ 4000 by omega) rm_c) (Nat.le_trans (show 600 + 240 * k + 6 + 6 + 6 + 6 + 6 + 6 + 6 + 6 ≤ 40000 by omega) rm_s) dL_law_353 ?_
                          refine z_topi (absI (rl1 j)) rfl ?_
                          refine z_iadd C dL_law_356 ?_
                          refine z_sipush (v := 900) C dL_law_357 (by decide) ?_
                          refine z_icmp_ge (tgt := 367) C dL_law_360 (by decide) (fun c360 => ?_) (fun c360 => ?_)
                          · refine z_iconst (v := 0) C dL_law_367 (by decide) ?_
                            refine z_lv (lv' := [(0, .ref b), (1, .ref (a 0)), (3, .ref qx), (6, .int (nI k)), (8, .int (nI i)), (9, .int (nI j)), (11, .int f1)]) [0, 1, 2, 3, 5, 6, 8] rfl ?_
                            refine z_widen (k := 100 + 40 * k + 8) (n := 600 + 240 * k + 48) (by omega) (by omega) ?_
                            exact J368 _ (fun q => absurd rfl q)
                          · refine z_iconst (v := 1) C dL_law_363 (by decide) ?_
                            refine z_goto (tgt := 368) C dL_law_364 (by decide) ?_
                            refine z_lv (lv' := [(0, .ref b), (1, .ref (a 0)), (3, .ref qx), (6, .int (nI k)), (8, .int (nI i)), (9, .int (nI j)), (11, .int f1)]) [0, 1, 2, 3, 5, 6, 8] rfl ?_
                            refine z_widen (k := 100 + 40 * k + 8) (n := 600 + 240 * k + 48) (by omega) (by omega) ?_
                            exact J368 _ (fun _ => fit_R hI.2.1 hi3 hj3 c294 c316 c338 c360)
                  · refine z_aload_n C dL_law_249 1 rfl ?_
                    refine z_iload C dL_law_250 5 rfl ?_
                    refine z_iload C dL_law_252 6 rfl ?_
                    refine wl_callxi (As := [.int (nI i), .int (nI j)]) C hX (c0_swapRows l D K a 3 M1 S1 rl1 rh1 bl1 bh1 kl1 kh1 mn1 vc1 iv1 sc1 (nI i) (nI j) hst (by omega)) (fun E u h => absurd ((kIx2_n hi3 hj3).symm.trans h.1.1) (by decide)) (cwV 2 C.1.2.2.2.2 gL_law_X0_swapRows rfl rfl rfl (by decide +kernel) ⟨Nat.le_of_ble_eq_true rfl, Nat.le_of_ble_eq_true rfl⟩) dL_law_254 rfl rfl (Nat.le_of_ble_eq_true rfl) ⟨Nat.le_trans (show 100 + 40 * k + 1 ≤ 4000 by omega) rm_c, Nat.le_trans (show 600 + 240 * k + 6 ≤ 40000 by omega) rm_s⟩ (fun r24 u24 h24 => ?_)
                    obtain ⟨-, rfl, rfl⟩ := h24
                    rw [ix_n hi3, ix_n hj3]
                    refine z_if_ne (tgt := 445) C dL_law_257 (by decide) (fun c257 => ?_) (fun c257 => ?_)
                    · refine z_lv (lv' := [(0, .ref b), (1, .ref (a 0)), (3, .ref qx), (6, .int (nI k))]) [0, 1, 2, 3] rfl ?_
                      refine z_widen (k := 100 + 40 * k + 16) (n := 600 + 240 * k + 96) (by omega) (by omega) ?_
                      exact J445 _ _ _ _ _ _ _ _ _ _ _ _ (sp_I hI hi3 hj3 hij)
                    · exact absurd c257 (ne_1 hi3 hj3 hij)
                · refine z_aload_n C dL_law_221 1 rfl ?_
                  refine z_iconst (v := 1) C dL_law_222 (by decide) ?_
                  refine z_iload C dL_law_223 4 rfl ?_
                  refine z_bipush (v := 8) C dL_law_225 (by decide) ?_
                  refine z_ishr C dL_law_227 ?_
                  refine z_bipush (v := 20) C dL_law_228 (by decide) ?_
                  refine z_callSi_none (As := [.int (r1 >>> (8 &&& 31)), .int 20]) C (cL_below_met l D K (r1 >>> (8 &&& 31)) (20 : Int32) (by decide)) (va_cwS 2 C.1.2.2.2.2 gL_law_L_below rfl rfl rfl (by decide +kernel) ⟨Nat.le_of_ble_eq_true rfl, Nat.le_of_ble_eq_true rfl⟩) dL_law_230 rfl rfl (Nat.le_of_ble_eq_true rfl) ⟨Nat.le_trans (show 100 + 40 * k + 0 ≤ 4000 by omega) rm_c, Nat.le_trans (show 600 + 240 * k + 0 ≤ 40000 by omega) rm_s⟩ (fun r25 u25 h25 => ?_)
                  subst h25
                  obtain ⟨n8, hn8, en8⟩ := blw_n (x := (r1 >>> (8 &&& 31))) (n := 20) (by omega) (by omega)
                  refine z_topi (nI n8) en8 ?_
                  refine z_iadd C dL_law_233 ?_
                  refine z_topi (nI (1 + n8)) (nI_add 1 n8) ?_
                  refine wl_callxi (As := [.int (nI (1 + n8))]) C hX (c0_contract l D K a 3 M1 S1 rl1 rh1 bl1 bh1 kl1 kh1 mn1 vc1 iv1 sc1 (nI (1 + n8)) hst (by omega)) (fun E u h => absurd ((kCon_n (n := 1 + n8) (by omega) (by omega)).symm.trans h.1.1) (by decide)) (cwV 1 C.1.2.2.2.2 gL_law_X0_contract rfl rfl rfl (by decide +kernel) ⟨Nat.le_of_ble_eq_true rfl, Nat.le_of_ble_eq_true rfl⟩) dL_law_234 rfl rfl (Nat.le_of_ble_eq_true rfl) ⟨Nat.le_trans (show 100 + 40 * k + 1 ≤ 4000 by omega) rm_c, Nat.le_trans (show 600 + 240 * k + 6 ≤ 40000 by omega) rm_s⟩ (fun r26 u26 h26 => ?_)
                  obtain ⟨-, hr_26, kl_26, kh_26, hu_26⟩ := h26
                  have ei_26 : ix (nI (1 + n8)) = 1 + n8 := nI_clamp (by omega)
                  obtain ⟨x_26, y_26, n_26, e_26, hI_26, hn_26⟩ := cn_I hI (show 1 ≤ 1 + n8 by omega) (show 1 + n8 < 1000 by omega)
                  rw [ei_26, e_26] at hr_26 hu_26
                  rw [hr_26]
                  subst hu_26
                  refine z_topi n_26 rfl ?_
                  refine z_ws (ws' := wl K a qa qx ql qh ((3, M1, S1, rl1, rh1, x_26, y_26, kl_26, kh_26, mn1, vc1, iv1, sc1), fa0, fx, fl0, fh0)) rfl ?_
                  refine z_iconst (v := 1) C dL_law_237 (by decide) ?_
                  refine z_icmp_ge (tgt := 445) C dL_law_238 (by decide) (fun c238 => ?_) (fun c238 => ?_)
                  · refine z_lv (lv' := [(0, .ref b), (1, .ref (a 0)), (3, .ref qx), (6, .int (nI k))]) [0, 1, 2, 3] rfl ?_
                    refine z_widen (k := 100 + 40 * k + 16) (n := 600 + 240 * k + 96) (by omega) (by omega) ?_
                    exact J445 _ _ _ _ _ _ _ _ _ _ _ _ hI_26
                  · exact absurd hn_26 c238
              · refine z_aload_n C dL_law_197 1 rfl ?_
                refine wl_callml (As := []) C (c0_determinant l D K a 3 M1 S1 rl1 rh1 bl1 bh1 kl1 kh1 mn1 vc1 iv1 sc1 (by omega)) (cwV 0 C.1.2.2.2.2 gL_law_X0_determinant rfl rfl rfl (by decide +kernel) ⟨Nat.le_of_ble_eq_true rfl, Nat.le_of_ble_eq_true rfl⟩) dL_law_198 rfl rfl (Nat.le_of_ble_eq_true rfl) ⟨Nat.le_trans (show 100 + 40 * k + 0 ≤ 4000 by omega) rm_c, Nat.le_trans (show 600 + 240 * k + 0 ≤ 40000 by omega) rm_s⟩ (fun r27 u27 h27 => ?_)
                obtain ⟨rfl, mn_27, rfl⟩ := h27
                refine z_lconst (v := 0) C dL_law_201 (by decide) ?_
                refine z_lcmp_eq (tgt := 445) C dL_law_202 dL_law_203 (by decide) (fun c202 => ?_) (fun c202 => ?_)
                · refine z_lv (lv' := [(0, .ref b), (1, .ref (a 0)), (3, .ref qx), (6, .int (nI k))]) [0, 1, 2, 3] rfl ?_
                  refine z_widen (k := 100 + 40 * k + 16) (n := 600 + 240 * k + 96) (by omega) (by omega) ?_
                  exact J445 _ _ _ _ _ _ _ _ _ _ _ _ hI
                · have hd : ¬ detM M1 3 = 0 := c202
                  refine z_aload_n C dL_law_206 1 rfl ?_
                  refine wl_callxi (As := []) C hX (c0_sharpen l D K a 3 M1 S1 rl1 rh1 bl1 bh1 kl1 kh1 mn_27 vc1 iv1 sc1 hst (by omega)) (fun E u h => absurd ((show kDet 3 M1 = 0 from if_neg hd).symm.trans h.1.1) (by decide)) (cwV 0 C.1.2.2.2.2 gL_law_X0_sharpen rfl rfl rfl (by decide +kernel) ⟨Nat.le_of_ble_eq_true rfl, Nat.le_of_ble_eq_true rfl⟩) dL_law_207 rfl rfl (Nat.le_of_ble_eq_true rfl) ⟨Nat.le_trans (show 100 + 40 * k + 1 ≤ 4000 by omega) rm_c, Nat.le_trans (show 600 + 240 * k + 6 ≤ 40000 by omega) rm_s⟩ (fun r28 u28 h28 => ?_)
                  obtain ⟨-, hr_28, mn_28, iv_28, sc_28, kl_28, kh_28, hu_28⟩ := h28
                  obtain ⟨x_28, y_28, n_28, e_28, hI_28, hn_28⟩ := sh_I hI hv hd
                  rw [e_28] at hr_28 hu_28
                  rw [hr_28]
                  subst hu_28
                  refine z_topi n_28 rfl ?_
                  refine z_ws (ws' := wl K a qa qx ql qh ((3, M1, S1, rl1, rh1, x_28, y_28, kl_28, kh_28, mn_28, vc1, iv_28, sc_28), fa0, fx, fl0, fh0)) rfl ?_
                  refine z_if_ge (tgt := 445) C dL_law_210 (by decide) (fun c210 => ?_) (fun c210 => ?_)
                  · refine z_lv (lv' := [(0, .ref b), (1, .ref (a 0)), (3, .ref qx), (6, .int (nI k))]) [0, 1, 2, 3] rfl ?_
                    refine z_widen (k := 100 + 40 * k + 16) (n := 600 + 240 * k + 96) (by omega) (by omega) ?_
                    exact J445 _ _ _ _ _ _ _ _ _ _ _ _ hI_28
                  · exact absurd hn_28 c210
            · refine z_aload_n C dL_law_182 1 rfl ?_
              refine wl_callmi (As := []) C (c0_sweep l D K a 3 M1 S1 rl1 rh1 bl1 bh1 kl1 kh1 mn1 vc1 iv1 sc1 (by omega)) (cwV 0 C.1.2.2.2.2 gL_law_X0_sweep rfl rfl rfl (by decide +kernel) ⟨Nat.le_of_ble_eq_true rfl, Nat.le_of_ble_eq_true rfl⟩) dL_law_183 rfl rfl (Nat.le_of_ble_eq_true rfl) ⟨Nat.le_trans (show 100 + 40 * k + 0 ≤ 4000 by omega) rm_c, Nat.le_trans (show 600 + 240 * k + 0 ≤ 40000 by omega) rm_s⟩ (fun r29 u29 h29 => ?_)
              obtain ⟨hr_29, kl_29, kh_29, hu_29⟩ := h29
              rw [sw0_1] at hr_29
              rw [sw0_2, sw0_3] at hu_29
              obtain ⟨x_29, y_29, n_29, e_29, hI_29, hn_29⟩ := sw_I hI
              rw [e_29] at hr_29 hu_29
              rw [hr_29]
              subst hu_29
              refine z_topi n_29 rfl ?_
              refine z_ws (ws' := wl K a qa qx ql qh ((3, M1, S1, rl1, rh1, x_29, y_29, kl_29, kh_29, mn1, vc1, iv1, sc1), fa0, fx, fl0, fh0)) rfl ?_
              refine z_if_ge (tgt := 445) C dL_law_186 (by decide) (fun c186 => ?_) (fun c186 => ?_)
              · refine z_lv (lv' := [(0, .ref b), (1, .ref (a 0)), (3, .ref qx), (6, .int (nI k))]) [0, 1, 2, 3] rfl ?_
                refine z_widen (k := 100 + 40 * k + 16) (n := 600 + 240 * k + 96) (by omega) (by omega) ?_
                exact J445 _ _ _ _ _ _ _ _ _ _ _ _ hI_29
              · exact absurd hn_29 c186
      · have e51 : i < 3 := by have := mt (nI_leI (a := 3) (b := i) (by omega) (by omega)).mpr c51; omega
        refine z_aload_n C dL_law_54 1 rfl ?_
        refine z_iload C dL_law_55 6 rfl ?_
        refine z_sipush (v := 1024) C dL_law_57 (by decide) ?_
        refine z_aload_n C dL_law_60 3 rfl ?_
        refine z_iload C dL_law_61 6 rfl ?_
        refine z_iald C 0 rfl 28 rfl dL_law_63 i rfl (by omega) (by decide) ?_
        refine z_imul C dL_law_64 ?_
        refine z_aload_n C dL_law_65 0 rfl ?_
        refine z_bipush (v := 16) C dL_law_66 (by decide) ?_
        refine z_iload C dL_law_68 6 rfl ?_
        refine z_iadd C dL_law_70 ?_
        refine z_topi (nI (16 + i)) (at16 i e51) ?_
        refine zb_callS (X := wl K a qa qx ql qh ((3, M0, S0, rl0, rh0, bl1, bh1, kl0, kh0, mn0, vc0, iv0, sc0), fa0, fx, fl0, fh0)) (wc := []) (As := [.ref b, .int (nI (16 + i))]) C hX hXb hbl hbA (cL_cell_met l D K b L xs (16 + i) hL (by omega)) (va_cwS 2 C.1.2.2.2.2 gL_law_L_cell rfl rfl rfl (by decide +kernel) ⟨Nat.le_of_ble_eq_true rfl, Nat.le_of_ble_eq_true rfl⟩) dL_law_71 rfl rfl (Nat.le_of_ble_eq_true rfl) ⟨Nat.le_trans (show 60 + i + 0 ≤ 4000 by omega) rm_c, Nat.le_trans (show 400 + 6 * i + 0 ≤ 40000 by omega) rm_s⟩ (List.append_nil _).symm (fun r30 u30 h30 => ?_)
        refine z_ws (ws' := wl K a qa qx ql qh ((3, M0, S0, rl0, rh0, bl1, bh1, kl0, kh0, mn0, vc0, iv0, sc0), fa0, fx, fl0, fh0)) (List.append_nil _) ?_
        refine z_ldc C lk4 dL_law_74 ?_
        refine z_callSi_none (As := [.int r30, .int (50000)]) C (cL_below_met l D K r30 ((50000) : Int32) (by decide)) (va_cwS 2 C.1.2.2.2.2 gL_law_L_below rfl rfl rfl (by decide +kernel) ⟨Nat.le_of_ble_eq_true rfl, Nat.le_of_ble_eq_true rfl⟩) dL_law_76 rfl rfl (Nat.le_of_ble_eq_true rfl) ⟨Nat.le_trans (show 60 + i + 0 ≤ 4000 by omega) rm_c, Nat.le_trans (show 400 + 6 * i + 0 ≤ 40000 by omega) rm_s⟩ (fun r31 u31 h31 => ?_)
        subst h31
        refine z_isub C dL_law_79 ?_
        obtain ⟨lo1, elo⟩ : ∃ y : Int32, y = ((1024 : Int32) * (fx i)) - (blw r30 ((50000) : Int32)) := ⟨_, rfl⟩
        have hlo : -70000 ≤ lo1.toInt ∧ lo1.toInt ≤ 1024 * (fx i).toInt := by rw [elo]; exact (bX (d := 0) (hv i e51)).1
        refine z_topi lo1 elo.symm ?_
        refine z_sipush (v := 1024) C dL_law_80 (by decide) ?_
        refine z_aload_n C dL_law_83 3 rfl ?_
        refine z_iload C dL_law_84 6 rfl ?_
        refine z_iald C 0 rfl 28 rfl dL_law_86 i rfl (by omega) (by decide) ?_
        refine z_imul C dL_law_87 ?_
        refine z_aload_n C dL_law_88 0 rfl ?_
        refine z_bipush (v := 16) C dL_law_89 (by decide) ?_
        refine z_iload C dL_law_91 6 rfl ?_
        refine z_iadd C dL_law_93 ?_
        refine z_topi (nI (16 + i)) (at16 i e51) ?_
        refine zb_callS (X := wl K a qa qx ql qh ((3, M0, S0, rl0, rh0, bl1, bh1, kl0, kh0, mn0, vc0, iv0, sc0), fa0, fx, fl0, fh0)) (wc := []) (As := [.ref b, .int (nI (16 + i))]) C hX hXb hbl hbA (cL_cell_met l D K b L xs (16 + i) hL (by omega)) (va_cwS 2 C.1.2.2.2.2 gL_law_L_cell rfl rfl rfl (by decide +kernel) ⟨Nat.le_of_ble_eq_true rfl, Nat.le_of_ble_eq_true rfl⟩) dL_law_94 rfl rfl (Nat.le_of_ble_eq_true rfl) ⟨Nat.le_trans (show 60 + i + 0 ≤ 4000 by omega) rm_c, Nat.le_trans (show 400 + 6 * i + 0 ≤ 40000 by omega) rm_s⟩ (List.append_nil _).symm (fun r32 u32 h32 => ?_)
        refine z_ws (ws' := wl K a qa qx ql qh ((3, M0, S0, rl0, rh0, bl1, bh1, kl0, kh0, mn0, vc0, iv0, sc0), fa0, fx, fl0, fh0)) (List.append_nil _) ?_
        refine z_bipush (v := 8) C dL_law_97 (by decide) ?_
        refine z_ishr C dL_law_99 ?_
        refine z_ldc C lk4 dL_law_100 ?_
        refine z_callSi_none (As := [.int (r32 >>> (8 &&& 31)), .int (50000)]) C (cL_below_met l D K (r32 >>> (8 &&& 31)) ((50000) : Int32) (by decide)) (va_cwS 2 C.1.2.2.2.2 gL_law_L_below rfl rfl rfl (by decide +kernel) ⟨Nat.le_of_ble_eq_true rfl, Nat.le_of_ble_eq_true rfl⟩) dL_law_102 rfl rfl (Nat.le_of_ble_eq_true rfl) ⟨Nat.le_trans (show 60 + i + 0 ≤ 4000 by omega) rm_c, Nat.le_trans (show 400 + 6 * i + 0 ≤ 40000 by omega) rm_s⟩ (fun r33 u33 h33 => ?_)
        subst h33
        refine z_iadd C dL_law_105 ?_
        obtain ⟨hi1, ehi⟩ : ∃ y : Int32, y = ((1024 : Int32) * (fx i)) + (blw (r32 >>> ((8 : Int32) &&& 31)) ((50000) : Int32)) := ⟨_, rfl⟩
        have hhi : 1024 * (fx i).toInt ≤ hi1.toInt ∧ hi1.toInt ≤ 70000 := by rw [ehi]; exact (bX (c := 0) (hv i e51)).2
        refine z_topi hi1 ehi.symm ?_
        refine wl_callxi (As := [.int (nI i), .int lo1, .int hi1]) C hX (c0_setBox l D K a 3 M0 S0 rl0 rh0 bl1 bh1 kl0 kh0 mn0 vc0 iv0 sc0 (nI i) lo1 hi1 hst (by omega)) (fun E u h => (fun z => Or.elim z (fun q => absurd ((kInt_n (x := lo1) (y := hi1) (b := 1000000000) e51 (Or.inr rfl) (by have k : (1000000000 : Int32).toInt = 1000000000 := rfl; omega) (by omega) (by have k : (1000000000 : Int32).toInt = 1000000000 := rfl; omega)).symm.trans q.1) (by decide)) (fun q => absurd ((kInt_n (x := lo1) (y := hi1) (b := 1000000000) e51 (Or.inr rfl) (by have k : (1000000000 : Int32).toInt = 1000000000 := rfl; omega) (by omega) (by have k : (1000000000 : Int32).toInt = 1000000000 := rfl; omega)).symm.trans q.1) (by decide))) h.1) (cwV 3 C.1.2.2.2.2 gL_law_X0_setBox rfl rfl rfl (by decide +kernel) ⟨Nat.le_of_ble_eq_true rfl, Nat.le_of_ble_eq_true rfl⟩) dL_law_106 rfl rfl (Nat.le_of_ble_eq_true rfl) ⟨Nat.le_trans (show 60 + i + 1 ≤ 4000 by omega) rm_c, Nat.le_trans (show 400 + 6 * i + 6 ≤ 40000 by omega) rm_s⟩ (fun r34 u34 h34 => ?_)
        obtain ⟨-, rfl, rfl⟩ := h34
        rw [ix_n e51]
        refine z_if_ne (tgt := 114) C dL_law_109 (by decide) (fun c109 => ?_) (fun c109 => ?_)
        · refine z_iinc (v := nI (i + 1)) (lv' := [(0, .ref b), (1, .ref (a 0)), (2, .ref qa), (3, .ref qx), (4, .ref ql), (5, .ref qh), (6, .int (nI (i + 1)))]) C dL_law_114 (k := 6) rfl (nI_1 i) (by decide) [1, 2, 3, 4, 5, 6, 0] rfl ?_
          refine z_goto (tgt := 48) C dL_law_117 (by decide) ?_
          refine z_widen (k := 60 + (i + 1)) (n := 400 + 6 * (i + 1)) (by omega) (by omega) ?_
          exact ih48_i (i + 1) (upd bl1 i lo1) (upd bh1 i hi1) (by omega) (by omega) (by omega) (bA_s hBX hv e51 hlo hhi)
        · exact absurd c109 (bA_o hBX e51 hlo.1)
  · exact absurd c40 (by decide)
