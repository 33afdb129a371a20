set_option maxRecDepth 100000 in
set_option maxHeartbeats 8000000 in
theorem cL_build_met (l : Launch) (D : va_G) (K : Nat → ClassId) (a : Nat → Nat) (N : Nat) (M : Nat → Nat → Int32) (S : Nat → Nat → Int32) (rl : Nat → Int32) (rh : Nat → Int32) (bl : Nat → Int32) (bh : Nat → Int32) (kl : Nat → Int32) (kh : Nat → Int32) (mn : Nat → Int64) (vc : Nat → Int64) (iv : Nat → Nat → Int64) (sc : Int64) (b L : Nat) (xs : Nat → Int32) (qa qx ql qh : Nat) (fa fx fl fh : Nat → Int32) (hst : l.stackTraces = false) (hN : N ≤ 5) (hL : L ≤ 260) : bI l D K yL_build wsL_build 7 106 20 120 [.ref (a 0), .ref b, .int 0, .int 3, .ref qa, .ref qx, .ref ql, .ref qh] (wl K a qa qx ql qh ((N, M, S, rl, rh, bl, bh, kl, kh, mn, vc, iv, sc), fa, fx, fl, fh)) b L xs (fun r z => r = 1 ∧ bPost z) (wl K a qa qx ql qh) := by
  refine zb_met_z (cc := cL_build) (maxL := 11) (own := RL) (lv := [(0, .ref (a 0)), (1, .ref b), (2, .int 0), (3, .int 3), (4, .ref qa), (5, .ref qx), (6, .ref ql), (7, .ref qh)]) (by decide) rfl rfl (Nat.le_of_ble_eq_true rfl) rfl ?_
  intro p e s m below meth c args Q A C hX hXb hbl hbA hend
  refine z_aload_n C dL_build_0 0 rfl ?_
  refine z_iload_n C dL_build_1 3 rfl ?_
  refine wl_callxi (As := [.int 3]) C hX (c0_setSize l D K a N M S rl rh bl bh kl kh mn vc iv sc 3 hst hN) (fun E u h => absurd ((show kSize 3 = 0 from by decide).symm.trans h.1.1) (by decide)) (cwV 1 C.1.2.2.2.2 gL_build_X0_setSize rfl rfl rfl (by decide +kernel) ⟨Nat.le_of_ble_eq_true rfl, Nat.le_of_ble_eq_true rfl⟩) dL_build_2 rfl rfl (Nat.le_of_ble_eq_true rfl) ⟨show 0 + 1 ≤ 20 by omega, show 0 + 6 ≤ 120 by omega⟩ (fun r1 u1 h1 => ?_)
  obtain ⟨-, rfl, rfl⟩ := h1
  rw [show ix 3 = 3 from by decide]
  refine z_iload_n C dL_build_5 3 rfl ?_
  refine z_icmp_eq (tgt := 11) C dL_build_6 (by decide) (fun c6 => ?_) (fun c6 => ?_)
  · refine z_iconst (v := 0) C dL_build_11 (by decide) ?_
    refine z_istore (lv' := [(0, .ref (a 0)), (1, .ref b), (2, .int 0), (3, .int 3), (4, .ref qa), (5, .ref qx), (6, .ref ql), (7, .ref qh), (8, .int 0)]) C dL_build_12 (by decide) [1, 2, 3, 4, 5, 6, 7, 8, 0] rfl ?_
    refine z_widen (k := 1) (n := 6) (by omega) (by omega) ?_
    suffices L14 : ∀ (f14_j j : Nat) (fx1 : Nat → Int32), 0 ≤ j → j ≤ 3 → 3 < j + f14_j → (∀ t, t < j → -10 ≤ (fx1 t).toInt ∧ (fx1 t).toInt ≤ 10) → zW p l e { frames := 7, cells := 20, slots := 120, locals := 106 } s m args below meth c Q 11 A s.heap D vwCl (1) (6) (wl K a qa qx ql qh ((3, matz M 5, matz S 5, vecz rl 0 5, vecz rh 0 5, vecz bl (-1000000000) 5, vecz bh 1000000000 5, kl, kh, mn, vc, iv, sc), fa, fx1, fl, fh)) 14 ([(0, .ref (a 0)), (1, .ref b), (2, .int 0), (3, .int 3), (4, .ref qa), (5, .ref qx), (6, .ref ql), (7, .ref qh), (8, .int (nI j))]) [] from L14 (3 + 1) 0 fx (Nat.le_refl _) (by omega) (by omega) (fun t h => absurd h (Nat.not_lt_zero t))
    intro f14_j
    induction f14_j with
    | zero => intro j fx1 h0 h1 h2; exact absurd h2 (by omega)
    | succ f14_j ih14_j =>
      intro j fx1 g14_0 g14_1 g14_2 hx
      refine z_iload C dL_build_14 8 rfl ?_
      refine z_iload_n C dL_build_16 3 rfl ?_
      refine z_icmp_ge (tgt := 50) C dL_build_17 (by decide) (fun c17 => ?_) (fun c17 => ?_)
      · have e17 : j = 3 := by have := (nI_leI (a := 3) (b := j) (by omega) (by omega)).mp c17; omega
        subst e17
        refine z_iconst (v := 0) C dL_build_50 (by decide) ?_
        refine z_istore (lv' := [(0, .ref (a 0)), (1, .ref b), (2, .int 0), (3, .int 3), (4, .ref qa), (5, .ref qx), (6, .ref ql), (7, .ref qh), (8, .int 0)]) C dL_build_51 (by decide) [1, 2, 3, 4, 5, 6, 7, 8, 0] rfl ?_
        refine z_widen (k := 1 + 4 * 0) (n := 6 + 24 * 0) (by omega) (by omega) ?_
        suffices L53 : ∀ (f53_i i : Nat) (M1 : Nat → Nat → Int32) (rl1 : Nat → Int32) (rh1 : Nat → Int32) (fa1 : Nat → Int32) (fl1 : Nat → Int32) (fh1 : Nat → Int32), 0 ≤ i → i ≤ 3 → 3 < i + f53_i → bO M1 rl1 rh1 fx1 i → zW p l e { frames := 7, cells := 20, slots := 120, locals := 106 } s m args below meth c Q 11 A s.heap D vwCl (1 + 4 * i) (6 + 24 * i) (wl K a qa qx ql qh ((3, M1, matz S 5, rl1, rh1, vecz bl (-1000000000) 5, vecz bh 1000000000 5, kl, kh, mn, vc, iv, sc), fa1, fx1, fl1, fh1)) 53 ([(0, .ref (a 0)), (1, .ref b), (2, .int 0), (3, .int 3), (4, .ref qa), (5, .ref qx), (6, .ref ql), (7, .ref qh), (8, .int (nI i))]) [] from L53 (3 + 1) 0 (matz M 5) (vecz rl 0 5) (vecz rh 0 5) fa fl fh (Nat.le_refl _) (by omega) (by omega) (bO_0 M rl rh fx1)
        intro f53_i
        induction f53_i with
        | zero => intro i M1 rl1 rh1 fa1 fl1 fh1 h0 h1 h2; exact absurd h2 (by omega)
        | succ f53_i ih53_i =>
          intro i M1 rl1 rh1 fa1 fl1 fh1 g53_0 g53_1 g53_2 hO
          refine z_iload C dL_build_53 8 rfl ?_
          refine z_iload_n C dL_build_55 3 rfl ?_
          refine z_icmp_ge (tgt := 250) C dL_build_56 (by decide) (fun c56 => ?_) (fun c56 => ?_)
          · have e56 : i = 3 := by have := (nI_leI (a := 3) (b := i) (by omega) (by omega)).mp c56; omega
            subst e56
            refine z_aload_n C dL_build_250 0 rfl ?_
            refine wl_callmi (As := []) C (c0_size l D K a 3 M1 (matz S 5) rl1 rh1 (vecz bl (-1000000000) 5) (vecz bh 1000000000 5) kl kh mn vc iv sc) (cwV 0 C.1.2.2.2.2 gL_build_X0_size rfl rfl rfl (by decide +kernel) ⟨Nat.le_of_ble_eq_true rfl, Nat.le_of_ble_eq_true rfl⟩) dL_build_251 rfl rfl (Nat.le_of_ble_eq_true rfl) ⟨show 1 + 4 * 3 + 0 ≤ 20 by omega, show 6 + 24 * 3 + 0 ≤ 120 by omega⟩ (fun r2 u2 h2 => ?_)
            obtain ⟨rfl, rfl⟩ := h2
            refine z_iload_n C dL_build_254 3 rfl ?_
            refine z_icmp_ne (tgt := 262) C dL_build_255 (by decide) (fun c255 => ?_) (fun c255 => ?_)
            · exact absurd rfl c255
            · refine z_iconst (v := 1) C dL_build_258 (by decide) ?_
              refine z_goto (tgt := 263) C dL_build_259 (by decide) ?_
              exact hend _ _ _ _ _ ((3, M1, matz S 5, rl1, rh1, vecz bl (-1000000000) 5, vecz bh 1000000000 5, kl, kh, mn, vc, iv, sc), fa1, fx1, fl1, fh1) dL_build_263 (by omega) (by omega) (Or.inr rfl) ⟨rfl, _, _, _, _, _, _, _, _, _, _, _, _, _, _, _, _, rfl, bO_end hO hx⟩
          · have e56 : i < 3 := by have := mt (nI_leI (a := 3) (b := i) (by omega) (by omega)).mpr c56; omega
            refine z_iconst (v := 0) C dL_build_59 (by decide) ?_
            refine z_istore (lv' := [(0, .ref (a 0)), (1, .ref b), (2, .int 0), (3, .int 3), (4, .ref qa), (5, .ref qx), (6, .ref ql), (7, .ref qh), (8, .int (nI i)), (9, .int 0)]) C dL_build_60 (by decide) [1, 2, 3, 4, 5, 6, 7, 8, 9, 0] rfl ?_
            refine z_iconst (v := 0) C dL_build_62 (by decide) ?_
            refine z_istore (lv' := [(0, .ref (a 0)), (1, .ref b), (2, .int 0), (3, .int 3), (4, .ref qa), (5, .ref qx), (6, .ref ql), (7, .ref qh), (8, .int (nI i)), (9, .int 0), (10, .int 0)]) C dL_build_63 (by decide) [1, 2, 3, 4, 5, 6, 7, 8, 9, 10, 0] rfl ?_
            refine z_widen (k := 1 + 4 * i + 0) (n := 6 + 24 * i + 6 * 0) (by omega) (by omega) ?_
            suffices L65 : ∀ (f65_j j : Nat) (M2 : Nat → Nat → Int32) (fa2 : Nat → Int32) (sm : Int32), 0 ≤ j → j ≤ 3 → 3 < j + f65_j → bN2 M2 sm rl1 rh1 fx1 i j → zW p l e { frames := 7, cells := 20, slots := 120, locals := 106 } s m args below meth c Q 11 A s.heap D vwCl (1 + 4 * i + j) (6 + 24 * i + 6 * j) (wl K a qa qx ql qh ((3, M2, matz S 5, rl1, rh1, vecz bl (-1000000000) 5, vecz bh 1000000000 5, kl, kh, mn, vc, iv, sc), fa2, fx1, fl1, fh1)) 65 ([(0, .ref (a 0)), (1, .ref b), (2, .int 0), (3, .int 3), (4, .ref qa), (5, .ref qx), (6, .ref ql), (7, .ref qh), (8, .int (nI i)), (9, .int sm), (10, .int (nI j))]) [] from L65 (3 + 1) 0 M1 fa1 0 (Nat.le_refl _) (by omega) (by omega) (bN_0 e56 hO)
            intro f65_j
            induction f65_j with
            | zero => intro j M2 fa2 sm h0 h1 h2; exact absurd h2 (by omega)
            | succ f65_j ih65_j =>
              intro j M2 fa2 sm g65_0 g65_1 g65_2 hN2
              refine z_iload C dL_build_65 10 rfl ?_
              refine z_iload_n C dL_build_67 3 rfl ?_
              refine z_icmp_ge (tgt := 152) C dL_build_68 (by decide) (fun c68 => ?_) (fun c68 => ?_)
              · have e68 : j = 3 := by have := (nI_leI (a := 3) (b := j) (by omega) (by omega)).mp c68; omega
                subst e68
                refine z_aload C dL_build_152 6 rfl ?_
                refine z_iload C dL_build_154 8 rfl ?_
                refine z_iload C dL_build_156 9 rfl ?_
                refine z_aload_n C dL_build_158 1 rfl ?_
                refine z_iload_n C dL_build_159 2 rfl ?_
                refine z_bipush (v := 12) C dL_build_160 (by decide) ?_
                refine z_iadd C dL_build_162 ?_
                refine z_iload C dL_build_163 8 rfl ?_
                refine z_iadd C dL_build_165 ?_
                refine z_topi (nI (12 + i)) (at12 i e56) ?_
                refine zb_callS (X := wl K a qa qx ql qh ((3, M2, matz S 5, rl1, rh1, vecz bl (-1000000000) 5, vecz bh 1000000000 5, kl, kh, mn, vc, iv, sc), fa2, fx1, fl1, fh1)) (wc := []) (As := [.ref b, .int (nI (12 + i))]) C hX hXb hbl hbA (cL_cell_met l D K b L xs (12 + i) hL (by omega)) (va_cwS 2 C.1.2.2.2.2 gL_build_L_cell rfl rfl rfl (by decide +kernel) ⟨Nat.le_of_ble_eq_true rfl, Nat.le_of_ble_eq_true rfl⟩) dL_build_166 rfl rfl (Nat.le_of_ble_eq_true rfl) ⟨show 1 + 4 * i + 3 + 0 ≤ 20 by omega, show 6 + 24 * i + 6 * 3 + 0 ≤ 120 by omega⟩ (List.append_nil _).symm (fun r3 u3 h3 => ?_)
                refine z_ws (ws' := wl K a qa qx ql qh ((3, M2, matz S 5, rl1, rh1, vecz bl (-1000000000) 5, vecz bh 1000000000 5, kl, kh, mn, vc, iv, sc), fa2, fx1, fl1, fh1)) (List.append_nil _) ?_
                refine z_bipush (v := 6) C dL_build_169 (by decide) ?_
                refine z_callSi_none (As := [.int r3, .int 6]) C (cL_below_met l D K r3 (6 : Int32) (by decide)) (va_cwS 2 C.1.2.2.2.2 gL_build_L_below rfl rfl rfl (by decide +kernel) ⟨Nat.le_of_ble_eq_true rfl, Nat.le_of_ble_eq_true rfl⟩) dL_build_171 rfl rfl (Nat.le_of_ble_eq_true rfl) ⟨show 1 + 4 * i + 3 + 0 ≤ 20 by omega, show 6 + 24 * i + 6 * 3 + 0 ≤ 120 by omega⟩ (fun r4 u4 h4 => ?_)
                subst h4
                refine z_isub C dL_build_174 ?_
                obtain ⟨lo1, elo⟩ : ∃ y : Int32, y = sm - (blw r3 (6 : Int32)) := ⟨_, rfl⟩
                have hlo : -999 ≤ lo1.toInt ∧ lo1.toInt ≤ sm.toInt := by rw [elo]; exact (bR (y := 0) (bN_d hN2)).1
                refine z_topi lo1 elo.symm ?_
                refine z_iast (ws' := wl K a qa qx ql qh ((3, M2, matz S 5, rl1, rh1, vecz bl (-1000000000) 5, vecz bh 1000000000 5, kl, kh, mn, vc, iv, sc), fa2, fx1, upd fl1 i lo1, fh1)) C 0 rfl 29 rfl dL_build_175 i rfl (by omega) (by decide) rfl ?_
                refine z_aload C dL_build_176 7 rfl ?_
                refine z_iload C dL_build_178 8 rfl ?_
                refine z_iload C dL_build_180 9 rfl ?_
                refine z_aload_n C dL_build_182 1 rfl ?_
                refine z_iload_n C dL_build_183 2 rfl ?_
                refine z_bipush (v := 12) C dL_build_184 (by decide) ?_
                refine z_iadd C dL_build_186 ?_
                refine z_iload C dL_build_187 8 rfl ?_
                refine z_iadd C dL_build_189 ?_
                refine z_topi (nI (12 + i)) (at12 i e56) ?_
                refine zb_callS (X := wl K a qa qx ql qh ((3, M2, matz S 5, rl1, rh1, vecz bl (-1000000000) 5, vecz bh 1000000000 5, kl, kh, mn, vc, iv, sc), fa2, fx1, upd fl1 i lo1, fh1)) (wc := []) (As := [.ref b, .int (nI (12 + i))]) C hX hXb hbl hbA (cL_cell_met l D K b L xs (12 + i) hL (by omega)) (va_cwS 2 C.1.2.2.2.2 gL_build_L_cell rfl rfl rfl (by decide +kernel) ⟨Nat.le_of_ble_eq_true rfl, Nat.le_of_ble_eq_true rfl⟩) dL_build_190 rfl rfl (Nat.le_of_ble_eq_true rfl) ⟨show 1 + 4 * i + 3 + 0 ≤ 20 by omega, show 6 + 24 * i + 6 * 3 + 0 ≤ 120 by omega⟩ (List.append_nil _).symm (fun r5 u5 h5 => ?_)
                refine z_ws (ws' := wl K a qa qx ql qh ((3, M2, matz S 5, rl1, rh1, vecz bl (-1000000000) 5, vecz bh 1000000000 5, kl, kh, mn, vc, iv, sc), fa2, fx1, upd fl1 i lo1, fh1)) (List.append_nil _) ?_
                refine z_iconst (v := 4) C dL_build_193 (by decide) ?_
                refine z_ishr C dL_build_194 ?_
                refine z_bipush (v := 6) C dL_build_195 (by decide) ?_
                refine z_callSi_none (As := [.int (r5 >>> (4 &&& 31)), .int 6]) C (cL_below_met l D K (r5 >>> (4 &&& 31)) (6 : Int32) (by decide)) (va_cwS 2 C.1.2.2.2.2 gL_build_L_below rfl rfl rfl (by decide +kernel) ⟨Nat.le_of_ble_eq_true rfl, Nat.le_of_ble_eq_true rfl⟩) dL_build_197 rfl rfl (Nat.le_of_ble_eq_true rfl) ⟨show 1 + 4 * i + 3 + 0 ≤ 20 by omega, show 6 + 24 * i + 6 * 3 + 0 ≤ 120 by omega⟩ (fun r6 u6 h6 => ?_)
                subst h6
                refine z_iadd C dL_build_200 ?_
                obtain ⟨hi1, ehi⟩ : ∃ y : Int32, y = sm + (blw (r5 >>> (4 &&& 31)) (6 : Int32)) := ⟨_, rfl⟩
                have hhi : sm.toInt ≤ hi1.toInt ∧ hi1.toInt ≤ 999 := by rw [ehi]; exact (bR (x := 0) (bN_d hN2)).2
                refine z_topi hi1 ehi.symm ?_
                refine z_iast (ws' := wl K a qa qx ql qh ((3, M2, matz S 5, rl1, rh1, vecz bl (-1000000000) 5, vecz bh 1000000000 5, kl, kh, mn, vc, iv, sc), fa2, fx1, upd fl1 i lo1, upd fh1 i hi1)) C 0 rfl 30 rfl dL_build_201 i rfl (by omega) (by decide) rfl ?_
                refine z_aload_n C dL_build_202 0 rfl ?_
                refine z_iload C dL_build_203 8 rfl ?_
                refine z_aload C dL_build_205 6 rfl ?_
                refine z_iload C dL_build_207 8 rfl ?_
                refine z_iald C 0 rfl 29 rfl dL_build_209 i rfl (by omega) (by decide) ?_
                refine z_topi (lo1) pk_us ?_
                refine z_aload C dL_build_210 7 rfl ?_
                refine z_iload C dL_build_212 8 rfl ?_
                refine z_iald C 0 rfl 30 rfl dL_build_214 i rfl (by omega) (by decide) ?_
                refine z_topi (hi1) pk_us ?_
                refine wl_callxi (As := [.int (nI i), .int lo1, .int hi1]) C hX (c0_setRight l D K a 3 M2 (matz S 5) rl1 rh1 (vecz bl (-1000000000) 5) (vecz bh 1000000000 5) kl kh mn vc iv sc (nI i) lo1 hi1 hst (by omega)) (fun E u h => (fun z => Or.elim z (fun q => absurd ((kInt_n (x := lo1) (y := hi1) (b := 999) e56 (Or.inl rfl) (by have k : (999 : Int32).toInt = 999 := rfl; omega) (by omega) (by have k : (999 : Int32).toInt = 999 := rfl; omega)).symm.trans q.1) (by decide)) (fun q => absurd ((kInt_n (x := lo1) (y := hi1) (b := 999) e56 (Or.inl rfl) (by have k : (999 : Int32).toInt = 999 := rfl; omega) (by omega) (by have k : (999 : Int32).toInt = 999 := rfl; omega)).symm.trans q.1) (by decide))) h.1) (cwV 3 C.1.2.2.2.2 gL_build_X0_setRight rfl rfl rfl (by decide +kernel) ⟨Nat.le_of_ble_eq_true rfl, Nat.le_of_ble_eq_true rfl⟩) dL_build_215 rfl rfl (Nat.le_of_ble_eq_true rfl) ⟨show 1 + 4 * i + 3 + 1 ≤ 20 by omega, show 6 + 24 * i + 6 * 3 + 6 ≤ 120 by omega⟩ (fun r7 u7 h7 => ?_)
                obtain ⟨-, rfl, rfl⟩ := h7
                rw [ix_n e56]
                refine z_topi (othR 0 0 lo1 hi1) (by rw [(hO.2.2.2.1 i (Nat.le_refl _) (by omega)).1, (hO.2.2.2.1 i (Nat.le_refl _) (by omega)).2]) ?_
                refine z_aload C dL_build_218 6 rfl ?_
                refine z_iload C dL_build_220 8 rfl ?_
                refine z_iald C 0 rfl 29 rfl dL_build_222 i rfl (by omega) (by decide) ?_
                refine z_topi (lo1) pk_us ?_
                refine z_if_ne (tgt := 234) C dL_build_223 (by decide) (fun c223 => ?_) (fun c223 => ?_)
                · refine z_iconst (v := 1) C dL_build_234 (by decide) ?_
                  refine z_goto (tgt := 239) C dL_build_235 (by decide) ?_
                  refine z_icmp_eq (tgt := 244) C dL_build_239 (by decide) (fun c239 => ?_) (fun c239 => ?_)
                  · refine z_iinc (v := nI (i + 1)) (lv' := [(0, .ref (a 0)), (1, .ref b), (2, .int 0), (3, .int 3), (4, .ref qa), (5, .ref qx), (6, .ref ql), (7, .ref qh), (8, .int (nI (i + 1))), (9, .int sm), (10, .int (nI 3))]) C dL_build_244 (k := 8) rfl (nI_1 i) (by decide) [1, 2, 3, 4, 5, 6, 7, 8, 0, 9, 10] rfl ?_
                    refine z_goto (tgt := 53) C dL_build_247 (by decide) ?_
                    refine z_lv (lv' := [(0, .ref (a 0)), (1, .ref b), (2, .int 0), (3, .int 3), (4, .ref qa), (5, .ref qx), (6, .ref ql), (7, .ref qh), (8, .int (nI (i + 1)))]) [0, 1, 2, 3, 4, 5, 6, 7, 8] rfl ?_
                    refine z_widen (k := 1 + 4 * (i + 1)) (n := 6 + 24 * (i + 1)) (by omega) (by omega) ?_
                    exact ih53_i (i + 1) M2 (upd rl1 i lo1) (upd rh1 i hi1) fa2 (upd fl1 i lo1) (upd fh1 i hi1) (by omega) (by omega) (by omega) (bO_s e56 hO hN2 hlo hhi)
                  · first | exact absurd (oth_1 c223) c239 | exact absurd (oth_2 c231) c239
                · refine z_aload C dL_build_226 7 rfl ?_
                  refine z_iload C dL_build_228 8 rfl ?_
                  refine z_iald C 0 rfl 30 rfl dL_build_230 i rfl (by omega) (by decide) ?_
                  refine z_topi (hi1) pk_us ?_
                  refine z_if_eq (tgt := 238) C dL_build_231 (by decide) (fun c231 => ?_) (fun c231 => ?_)
                  · refine z_iconst (v := 0) C dL_build_238 (by decide) ?_
                    refine z_icmp_eq (tgt := 244) C dL_build_239 (by decide) (fun c239 => ?_) (fun c239 => ?_)
                    · refine z_iinc (v := nI (i + 1)) (lv' := [(0, .ref (a 0)), (1, .ref b), (2, .int 0), (3, .int 3), (4, .ref qa), (5, .ref qx), (6, .ref ql), (7, .ref qh), (8, .int (nI (i + 1))), (9, .int sm), (10, .int (nI 3))]) C dL_build_244 (k := 8) rfl (nI_1 i) (by decide) [1, 2, 3, 4, 5, 6, 7, 8, 0, 9, 10] rfl ?_
                      refine z_goto (tgt := 53) C dL_build_247 (by decide) ?_
                      refine z_lv (lv' := [(0, .ref (a 0)), (1, .ref b), (2, .int 0), (3, .int 3), (4, .ref qa), (5, .ref qx), (6, .ref ql), (7, .ref qh), (8, .int (nI (i + 1)))]) [0, 1, 2, 3, 4, 5, 6, 7, 8] rfl ?_
                      refine z_widen (k := 1 + 4 * (i + 1)) (n := 6 + 24 * (i + 1)) (by omega) (by omega) ?_
                      exact ih53_i (i + 1) M2 (upd rl1 i lo1) (upd rh1 i hi1) fa2 (upd fl1 i lo1) (upd fh1 i hi1) (by omega) (by omega) (by omega) (bO_s e56 hO hN2 hlo hhi)
                    · exact absurd (oth_0 c223 c231) c239
                  · refine z_iconst (v := 1) C dL_build_234 (by decide) ?_
                    refine z_goto (tgt := 239) C dL_build_235 (by decide) ?_
                    refine z_icmp_eq (tgt := 244) C dL_build_239 (by decide) (fun c239 => ?_) (fun c239 => ?_)
                    · refine z_iinc (v := nI (i + 1)) (lv' := [(0, .ref (a 0)), (1, .ref b), (2, .int 0), (3, .int 3), (4, .ref qa), (5, .ref qx), (6, .ref ql), (7, .ref qh), (8, .int (nI (i + 1))), (9, .int sm), (10, .int (nI 3))]) C dL_build_244 (k := 8) rfl (nI_1 i) (by decide) [1, 2, 3, 4, 5, 6, 7, 8, 0, 9, 10] rfl ?_
                      refine z_goto (tgt := 53) C dL_build_247 (by decide) ?_
                      refine z_lv (lv' := [(0, .ref (a 0)), (1, .ref b), (2, .int 0), (3, .int 3), (4, .ref qa), (5, .ref qx), (6, .ref ql), (7, .ref qh), (8, .int (nI (i + 1)))]) [0, 1, 2, 3, 4, 5, 6, 7, 8] rfl ?_
                      refine z_widen (k := 1 + 4 * (i + 1)) (n := 6 + 24 * (i + 1)) (by omega) (by omega) ?_
                      exact ih53_i (i + 1) M2 (upd rl1 i lo1) (upd rh1 i hi1) fa2 (upd fl1 i lo1) (upd fh1 i hi1) (by omega) (by omega) (by omega) (bO_s e56 hO hN2 hlo hhi)
                    · first | exact absurd (oth_1 c223) c239 | exact absurd (oth_2 c231) c239
              · have e68 : j < 3 := by have := mt (nI_leI (a := 3) (b := j) (by omega) (by omega)).mpr c68; omega
                refine z_aload C dL_build_71 4 rfl ?_
                refine z_iload_n C dL_build_73 3 rfl ?_
                refine z_iload C dL_build_74 8 rfl ?_
                refine z_imul C dL_build_76 ?_
                refine z_iload C dL_build_77 10 rfl ?_
                refine z_iadd C dL_build_79 ?_
                refine z_aload_n C dL_build_80 1 rfl ?_
                refine z_iload_n C dL_build_81 2 rfl ?_
                refine z_iload_n C dL_build_82 3 rfl ?_
                refine z_iload C dL_build_83 8 rfl ?_
                refine z_imul C dL_build_85 ?_
                refine z_iadd C dL_build_86 ?_
                refine z_iload C dL_build_87 10 rfl ?_
                refine z_iadd C dL_build_89 ?_
                refine z_topi (nI (3 * i + j)) (at3c i e56 j e68) ?_
                refine zb_callS (X := wl K a qa qx ql qh ((3, M2, matz S 5, rl1, rh1, vecz bl (-1000000000) 5, vecz bh 1000000000 5, kl, kh, mn, vc, iv, sc), fa2, fx1, fl1, fh1)) (wc := []) (As := [.ref b, .int (nI (3 * i + j))]) C hX hXb hbl hbA (cL_cell_met l D K b L xs (3 * i + j) hL (by omega)) (va_cwS 2 C.1.2.2.2.2 gL_build_L_cell rfl rfl rfl (by decide +kernel) ⟨Nat.le_of_ble_eq_true rfl, Nat.le_of_ble_eq_true rfl⟩) dL_build_90 rfl rfl (Nat.le_of_ble_eq_true rfl) ⟨show 1 + 4 * i + j + 0 ≤ 20 by omega, show 6 + 24 * i + 6 * j + 0 ≤ 120 by omega⟩ (List.append_nil _).symm (fun r8 u8 h8 => ?_)
                refine z_ws (ws' := wl K a qa qx ql qh ((3, M2, matz S 5, rl1, rh1, vecz bl (-1000000000) 5, vecz bh 1000000000 5, kl, kh, mn, vc, iv, sc), fa2, fx1, fl1, fh1)) (List.append_nil _) ?_
                refine z_bipush (v := 19) C dL_build_93 (by decide) ?_
                refine z_callSi_none (As := [.int r8, .int 19]) C (cL_below_met l D K r8 (19 : Int32) (by decide)) (va_cwS 2 C.1.2.2.2.2 gL_build_L_below rfl rfl rfl (by decide +kernel) ⟨Nat.le_of_ble_eq_true rfl, Nat.le_of_ble_eq_true rfl⟩) dL_build_95 rfl rfl (Nat.le_of_ble_eq_true rfl) ⟨show 1 + 4 * i + j + 0 ≤ 20 by omega, show 6 + 24 * i + 6 * j + 0 ≤ 120 by omega⟩ (fun r9 u9 h9 => ?_)
                subst h9
                refine z_bipush (v := 9) C dL_build_98 (by decide) ?_
                refine z_isub C dL_build_100 ?_
                refine z_iast (ws' := wl K a qa qx ql qh ((3, M2, matz S 5, rl1, rh1, vecz bl (-1000000000) 5, vecz bh 1000000000 5, kl, kh, mn, vc, iv, sc), upd fa2 (3 * i + j) ((blw r8 (19 : Int32)) - 9), fx1, fl1, fh1)) C 0 rfl 27 rfl dL_build_101 (3 * i + j) (at3 i e56 j e68) (by omega) (by decide) rfl ?_
                refine z_aload_n C dL_build_102 0 rfl ?_
                refine z_iload C dL_build_103 8 rfl ?_
                refine z_iload C dL_build_105 10 rfl ?_
                refine z_aload C dL_build_107 4 rfl ?_
                refine z_iload_n C dL_build_109 3 rfl ?_
                refine z_iload C dL_build_110 8 rfl ?_
                refine z_imul C dL_build_112 ?_
                refine z_iload C dL_build_113 10 rfl ?_
                refine z_iadd C dL_build_115 ?_
                refine z_iald C 0 rfl 27 rfl dL_build_116 (3 * i + j) (at3 i e56 j e68) (by omega) (by decide) ?_
                refine z_topi ((blw r8 (19 : Int32)) - 9) pk_us ?_
                refine wl_callxi (As := [.int (nI i), .int (nI j), .int ((blw r8 (19 : Int32)) - 9)]) C hX (c0_setCoefficient l D K a 3 M2 (matz S 5) rl1 rh1 (vecz bl (-1000000000) 5) (vecz bh 1000000000 5) kl kh mn vc iv sc (nI i) (nI j) ((blw r8 (19 : Int32)) - 9) hst (by omega)) (fun E u h => (fun z => Or.elim z (fun q => absurd ((kVal_n (x := (blw r8 (19 : Int32)) - 9) e56 e68 (Int.le_trans (by decide) (b9 _).1) (Int.le_trans (b9 _).2 (by decide))).symm.trans q.1) (by decide)) (fun q => absurd ((kVal_n (x := (blw r8 (19 : Int32)) - 9) e56 e68 (Int.le_trans (by decide) (b9 _).1) (Int.le_trans (b9 _).2 (by decide))).symm.trans q.1) (by decide))) h.1) (cwV 3 C.1.2.2.2.2 gL_build_X0_setCoefficient rfl rfl rfl (by decide +kernel) ⟨Nat.le_of_ble_eq_true rfl, Nat.le_of_ble_eq_true rfl⟩) dL_build_117 rfl rfl (Nat.le_of_ble_eq_true rfl) ⟨show 1 + 4 * i + j + 1 ≤ 20 by omega, show 6 + 24 * i + 6 * j + 6 ≤ 120 by omega⟩ (fun r10 u10 h10 => ?_)
                obtain ⟨-, rfl, rfl⟩ := h10
                rw [ix_n e56, ix_n e68]
                refine z_if_eq (tgt := 125) C dL_build_120 (by decide) (fun c120 => ?_) (fun c120 => ?_)
                · refine z_iload C dL_build_125 9 rfl ?_
                  refine z_aload C dL_build_127 4 rfl ?_
                  refine z_iload_n C dL_build_129 3 rfl ?_
                  refine z_iload C dL_build_130 8 rfl ?_
                  refine z_imul C dL_build_132 ?_
                  refine z_iload C dL_build_133 10 rfl ?_
                  refine z_iadd C dL_build_135 ?_
                  refine z_iald C 0 rfl 27 rfl dL_build_136 (3 * i + j) (at3 i e56 j e68) (by omega) (by decide) ?_
                  refine z_topi ((blw r8 (19 : Int32)) - 9) pk_us ?_
                  refine z_aload C dL_build_137 5 rfl ?_
                  refine z_iload C dL_build_139 10 rfl ?_
                  refine z_iald C 0 rfl 28 rfl dL_build_141 j rfl (by omega) (by decide) ?_
                  refine z_imul C dL_build_142 ?_
                  refine z_iadd C dL_build_143 ?_
                  refine z_istore (lv' := [(0, .ref (a 0)), (1, .ref b), (2, .int 0), (3, .int 3), (4, .ref qa), (5, .ref qx), (6, .ref ql), (7, .ref qh), (8, .int (nI i)), (9, .int (sm + (((blw r8 (19 : Int32)) - 9) * (fx1 j)))), (10, .int (nI j))]) C dL_build_144 (by decide) [1, 2, 3, 4, 5, 6, 7, 8, 9, 0, 10] rfl ?_
                  refine z_iinc (v := nI (j + 1)) (lv' := [(0, .ref (a 0)), (1, .ref b), (2, .int 0), (3, .int 3), (4, .ref qa), (5, .ref qx), (6, .ref ql), (7, .ref qh), (8, .int (nI i)), (9, .int (sm + (((blw r8 (19 : Int32)) - 9) * (fx1 j)))), (10, .int (nI (j + 1)))]) C dL_build_146 (k := 10) rfl (nI_1 j) (by decide) [1, 2, 3, 4, 5, 6, 7, 8, 9, 10, 0] rfl ?_
                  refine z_goto (tgt := 65) C dL_build_149 (by decide) ?_
                  refine z_widen (k := 1 + 4 * i + (j + 1)) (n := 6 + 24 * i + 6 * (j + 1)) (by omega) (by omega) ?_
                  exact ih65_j (j + 1) (up2 M2 i j ((blw r8 (19 : Int32)) - 9)) (upd fa2 (3 * i + j) ((blw r8 (19 : Int32)) - 9)) (sm + (((blw r8 (19 : Int32)) - 9) * (fx1 j))) (by omega) (by omega) (by omega) (bN_s hx e56 e68 (b9 _).1 (b9 _).2 hN2)
                · exact absurd (hN2.2.2.1 j (Nat.le_refl _) (by omega)) c120
      · have e17 : j < 3 := by have := mt (nI_leI (a := 3) (b := j) (by omega) (by omega)).mpr c17; omega
        refine z_aload C dL_build_20 5 rfl ?_
        refine z_iload C dL_build_22 8 rfl ?_
        refine z_aload_n C dL_build_24 1 rfl ?_
        refine z_iload_n C dL_build_25 2 rfl ?_
        refine z_bipush (v := 9) C dL_build_26 (by decide) ?_
        refine z_iadd C dL_build_28 ?_
        refine z_iload C dL_build_29 8 rfl ?_
        refine z_iadd C dL_build_31 ?_
        refine z_topi (nI (9 + j)) (at9 j e17) ?_
        refine zb_callS (X := wl K a qa qx ql qh ((3, matz M 5, matz S 5, vecz rl 0 5, vecz rh 0 5, vecz bl (-1000000000) 5, vecz bh 1000000000 5, kl, kh, mn, vc, iv, sc), fa, fx1, fl, fh)) (wc := []) (As := [.ref b, .int (nI (9 + j))]) C hX hXb hbl hbA (cL_cell_met l D K b L xs (9 + j) hL (by omega)) (va_cwS 2 C.1.2.2.2.2 gL_build_L_cell rfl rfl rfl (by decide +kernel) ⟨Nat.le_of_ble_eq_true rfl, Nat.le_of_ble_eq_true rfl⟩) dL_build_32 rfl rfl (Nat.le_of_ble_eq_true rfl) ⟨show 1 + 0 ≤ 20 by omega, show 6 + 0 ≤ 120 by omega⟩ (List.append_nil _).symm (fun r11 u11 h11 => ?_)
        refine z_ws (ws' := wl K a qa qx ql qh ((3, matz M 5, matz S 5, vecz rl 0 5, vecz rh 0 5, vecz bl (-1000000000) 5, vecz bh 1000000000 5, kl, kh, mn, vc, iv, sc), fa, fx1, fl, fh)) (List.append_nil _) ?_
        refine z_bipush (v := 21) C dL_build_35 (by decide) ?_
        refine z_callSi_none (As := [.int r11, .int 21]) C (cL_below_met l D K r11 (21 : Int32) (by decide)) (va_cwS 2 C.1.2.2.2.2 gL_build_L_below rfl rfl rfl (by decide +kernel) ⟨Nat.le_of_ble_eq_true rfl, Nat.le_of_ble_eq_true rfl⟩) dL_build_37 rfl rfl (Nat.le_of_ble_eq_true rfl) ⟨show 1 + 0 ≤ 20 by omega, show 6 + 0 ≤ 120 by omega⟩ (fun r12 u12 h12 => ?_)
        subst h12
        refine z_bipush (v := 10) C dL_build_40 (by decide) ?_
        refine z_isub C dL_build_42 ?_
        refine z_iast (ws' := wl K a qa qx ql qh ((3, matz M 5, matz S 5, vecz rl 0 5, vecz rh 0 5, vecz bl (-1000000000) 5, vecz bh 1000000000 5, kl, kh, mn, vc, iv, sc), fa, upd fx1 j ((blw r11 (21 : Int32)) - 10), fl, fh)) C 0 rfl 28 rfl dL_build_43 j rfl (by omega) (by decide) rfl ?_
        refine z_iinc (v := nI (j + 1)) (lv' := [(0, .ref (a 0)), (1, .ref b), (2, .int 0), (3, .int 3), (4, .ref qa), (5, .ref qx), (6, .ref ql), (7, .ref qh), (8, .int (nI (j + 1)))]) C dL_build_44 (k := 8) rfl (nI_1 j) (by decide) [1, 2, 3, 4, 5, 6, 7, 8, 0] rfl ?_
        refine z_goto (tgt := 14) C dL_build_47 (by decide) ?_
        refine z_widen (k := 1) (n := 6) (by omega) (by omega) ?_
        exact ih14_j (j + 1) (upd fx1 j ((blw r11 (21 : Int32)) - 10)) (by omega) (by omega) (by omega) (okV_s hx (b10 _))
  · exact absurd rfl c6
