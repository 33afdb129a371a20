section LCASE
variable {p : Program} {l : Launch} {e : Env} {s : State} {m : MethodId} {args : Array Value} {below : List Frame} {meth : Method} {c : Code} {Q : State → Prop} {A : Nat → Prop} {D : va_G} {K : Nat → ClassId} {a b : Nat → Nat} {o od bS L i : Nat} {xs : Nat → Int32}
set_option maxRecDepth 20000 in
set_option maxHeartbeats 1000000 in
theorem lc_0 (C : zC p s m args c code 9 wsL_law RL A s.heap D vwCl (zT K)) (hX : xF A s) (hNc : yNc s) (hst : l.stackTraces = false) (hS : va_X bS L xs s s.heap) (hbl : bS < s.heap.size) (hbA : ¬ A bS) (hi : i + 6 ≤ L) (hL : L ≤ 3072)
    (hk : ∀ (u : S0) (v : S1) (g : Nat → Int64) (gd : Nat → UInt64) (k : Int32), RelT k u v → zW p l e room_1 s m args below meth c Q 9 A s.heap D vwCl (100 + (i + 6)) (600 + 2 * (i + 6)) (w1 K b v ++ wv K a o od (u, g, gd)) 1948 [(0, .ref bS), (1, .ref (a 0)), (2, .ref (b 0)), (3, .ref o), (4, .ref od), (5, .int (nI i))] []) {u : S0} {v : S1} {g : Nat → Int64} {gd : Nat → UInt64} {k0 : Int32} (hr : RelT k0 u v) : zW p l e room_1 s m args below meth c Q 9 A s.heap D vwCl (100 + i) (600 + 2 * i) (w1 K b v ++ wv K a o od (u, g, gd)) 192 [(0, .ref bS), (1, .ref (a 0)), (2, .ref (b 0)), (3, .ref o), (4, .ref od), (5, .int (nI i))] [] := by
  obtain ⟨N, M, S, rl, rh, bl, bh, kl, kh, mn, vc, iv, sc, fl, fh, pt, nu, de, hok, rfl, rfl⟩ := hr
  have hN := hok.2.1
  refine z_aload_n C dL_law_192 1 rfl ?_
  refine z_aload_n C dL_law_193 0 rfl ?_
  refine z_iload C dL_law_194 5 rfl ?_
  refine z_iconst (v := 1) C dL_law_196 (by decide) ?_
  refine z_iadd C dL_law_197 ?_
  refine z_sld C hS hbl hbA dL_law_198 (i + 1) (nI_add i 1) (by omega) (by omega) ?_
  refine z_aload_n C dL_law_199 3 rfl ?_
  refine y_callS (X := w1 K b (N, M, S, rl, rh, bl, bh, k0, fl, fh, pt, nu, de)) (As := [.ref (a 0), .int (xs (i + 1)), .ref o]) C hX hNc (wL_setSize l D K a N M S rl rh bl bh kl kh mn vc iv sc o od g gd (xs (i + 1)) hst hN) (vx_cwSW 3 C.1.2.2.2.2 gL_law_L_setSize rfl rfl rfl (by decide +kernel) ⟨Nat.le_of_ble_eq_true rfl, Nat.le_of_ble_eq_true rfl⟩) dL_law_200 rfl rfl (Nat.le_of_ble_eq_true rfl) ⟨Nat.le_trans (by omega) rm_c, Nat.le_trans (by omega) rm_s⟩ rfl (fun k1 z1 hz => ?_)
  obtain ⟨u1, g1, gd1⟩ := z1
  refine z_istore (lv' := [(0, .ref bS), (1, .ref (a 0)), (2, .ref (b 0)), (3, .ref o), (4, .ref od), (5, .int (nI i)), (6, .int k1)]) C dL_law_203 (by decide) [1, 2, 3, 4, 5, 6, 0] rfl ?_
  refine z_aload_n C dL_law_205 2 rfl ?_
  refine z_aload_n C dL_law_206 0 rfl ?_
  refine z_iload C dL_law_207 5 rfl ?_
  refine z_iconst (v := 1) C dL_law_209 (by decide) ?_
  refine z_iadd C dL_law_210 ?_
  refine z_sld C hS hbl hbA dL_law_211 (i + 1) (nI_add i 1) (by omega) (by omega) ?_
  refine z_callVi_l (As := [.int (xs (i + 1))]) (wc := w1 K b (N, M, S, rl, rh, bl, bh, k0, fl, fh, pt, nu, de)) (Y := wv K a o od (u1, g1, gd1)) C (c1_setSize l D K b N M S rl rh bl bh k0 fl fh pt nu de (xs (i + 1)) ) (cwV 1 C.1.2.2.2.2 gL_law_X1_setSize rfl rfl rfl (by decide +kernel) ⟨Nat.le_of_ble_eq_true rfl, Nat.le_of_ble_eq_true rfl⟩) (ci := 3) rfl rfl 0 rfl dL_law_212 rfl rfl (Nat.le_of_ble_eq_true rfl) ⟨Nat.le_trans (by omega) rm_c, Nat.le_trans (by omega) rm_s⟩ rfl (fun r1 v1 hv => ?_)
  obtain ⟨hval, hrel⟩ := pr_setSize hok hz hv
  clear hz hv
  obtain ⟨N2, M2, S2, rl2, rh2, bl2, bh2, kl2, kh2, mn2, vc2, iv2, sc2, fl2, fh2, pt2, nu2, de2, hok2, rfl, rfl⟩ := hrel
  refine z_istore (lv' := [(0, .ref bS), (1, .ref (a 0)), (2, .ref (b 0)), (3, .ref o), (4, .ref od), (5, .int (nI i)), (6, .int k1), (7, .int r1)]) C dL_law_215 (by decide) [1, 2, 3, 4, 5, 6, 7, 0] rfl ?_
  refine z_aload_n C dL_law_217 2 rfl ?_
  refine z_callVi_l (As := []) (wc := w1 K b (N2, M2, S2, rl2, rh2, bl2, bh2, k1, fl2, fh2, pt2, nu2, de2)) (Y := wv K a o od ((N2, M2, S2, rl2, rh2, bl2, bh2, kl2, kh2, mn2, vc2, iv2, sc2), g1, gd1)) C (c1_thrown l D K b N2 M2 S2 rl2 rh2 bl2 bh2 k1 fl2 fh2 pt2 nu2 de2) (cwV 0 C.1.2.2.2.2 gL_law_X1_thrown rfl rfl rfl (by decide +kernel) ⟨Nat.le_of_ble_eq_true rfl, Nat.le_of_ble_eq_true rfl⟩) (ci := 3) rfl rfl 0 rfl dL_law_218 rfl rfl (Nat.le_of_ble_eq_true rfl) ⟨Nat.le_trans (by omega) rm_c, Nat.le_trans (by omega) rm_s⟩ rfl (fun r3 v3 h3 => ?_)
  obtain ⟨h3, rfl⟩ := h3
  refine z_topi k1 h3 ?_
  refine z_iload C dL_law_221 6 rfl ?_
  refine z_icmp_eq (tgt := 228) C dL_law_223 (by decide) (fun _ => ?_) (fun q => absurd rfl q)
  refine z_iload C dL_law_228 6 rfl ?_
  refine z_if_ne (tgt := 245) C dL_law_230 (by decide) (fun ck => ?_) (fun ck => ?_)
  · refine z_goto (tgt := 1948) C dL_law_245 (by decide) ?_
    refine z_lv (lv' := [(0, .ref bS), (1, .ref (a 0)), (2, .ref (b 0)), (3, .ref o), (4, .ref od), (5, .int (nI i))]) [0, 1, 2, 3, 4, 5] rfl ?_
    exact z_widen (by omega) (by omega) (hk _ _ _ _ _ (RelT_mk hok2))
  · refine z_aload_n C dL_law_233 3 rfl ?_
    refine z_iconst (v := 0) C dL_law_234 (by decide) ?_
    refine z_lald C 1 rfl 37 rfl dL_law_235 0 rfl (by decide) (by decide) ?_
    refine z_iload C dL_law_236 7 rfl ?_
    refine z_i2l C dL_law_238 ?_
    refine z_lcmp_eq (tgt := 245) C dL_law_239 dL_law_240 (by decide) (fun _ => ?_) (fun q => absurd (hval ck) q)
    refine z_goto (tgt := 1948) C dL_law_245 (by decide) ?_
    refine z_lv (lv' := [(0, .ref bS), (1, .ref (a 0)), (2, .ref (b 0)), (3, .ref o), (4, .ref od), (5, .int (nI i))]) [0, 1, 2, 3, 4, 5] rfl ?_
    exact z_widen (by omega) (by omega) (hk _ _ _ _ _ (RelT_mk hok2))
set_option maxRecDepth 20000 in
set_option maxHeartbeats 1000000 in
theorem lc_1 (C : zC p s m args c code 9 wsL_law RL A s.heap D vwCl (zT K)) (hX : xF A s) (hNc : yNc s) (hst : l.stackTraces = false) (hS : va_X bS L xs s s.heap) (hbl : bS < s.heap.size) (hbA : ¬ A bS) (hi : i + 6 ≤ L) (hL : L ≤ 3072)
    (hk : ∀ (u : S0) (v : S1) (g : Nat → Int64) (gd : Nat → UInt64) (k : Int32), RelT k u v → zW p l e room_1 s m args below meth c Q 9 A s.heap D vwCl (100 + (i + 6)) (600 + 2 * (i + 6)) (w1 K b v ++ wv K a o od (u, g, gd)) 1948 [(0, .ref bS), (1, .ref (a 0)), (2, .ref (b 0)), (3, .ref o), (4, .ref od), (5, .int (nI i))] []) {u : S0} {v : S1} {g : Nat → Int64} {gd : Nat → UInt64} {k0 : Int32} (hr : RelT k0 u v) : zW p l e room_1 s m args below meth c Q 9 A s.heap D vwCl (100 + i) (600 + 2 * i) (w1 K b v ++ wv K a o od (u, g, gd)) 248 [(0, .ref bS), (1, .ref (a 0)), (2, .ref (b 0)), (3, .ref o), (4, .ref od), (5, .int (nI i))] [] := by
  obtain ⟨N, M, S, rl, rh, bl, bh, kl, kh, mn, vc, iv, sc, fl, fh, pt, nu, de, hok, rfl, rfl⟩ := hr
  have hN := hok.2.1
  refine z_aload_n C dL_law_248 1 rfl ?_
  refine z_callVi (X := w1 K b (N, M, S, rl, rh, bl, bh, k0, fl, fh, pt, nu, de)) (wc := w0 K a (N, M, S, rl, rh, bl, bh, kl, kh, mn, vc, iv, sc)) (Y := [(o, .inl (K 1, 1, .inr (.inl g))), (od, .inl (K 4, 1, .inr (.inr (.inr (.inl gd)))))]) (As := []) C (c0_size l D K a N M S rl rh bl bh kl kh mn vc iv sc  ) (cwV 0 C.1.2.2.2.2 gL_law_X0_size rfl rfl rfl (by decide +kernel) ⟨Nat.le_of_ble_eq_true rfl, Nat.le_of_ble_eq_true rfl⟩) (ci := 2) rfl rfl 0 rfl dL_law_249 rfl rfl (Nat.le_of_ble_eq_true rfl) ⟨Nat.le_trans (by omega) rm_c, Nat.le_trans (by omega) rm_s⟩ rfl (fun r0 u1 h0 => ?_)
  refine z_aload_n C dL_law_252 2 rfl ?_
  refine z_callVi_l (As := []) (wc := w1 K b (N, M, S, rl, rh, bl, bh, k0, fl, fh, pt, nu, de)) (Y := w0 K a u1 ++ [(o, .inl (K 1, 1, .inr (.inl g))), (od, .inl (K 4, 1, .inr (.inr (.inr (.inl gd)))))]) C (c1_size l D K b N M S rl rh bl bh k0 fl fh pt nu de  ) (cwV 0 C.1.2.2.2.2 gL_law_X1_size rfl rfl rfl (by decide +kernel) ⟨Nat.le_of_ble_eq_true rfl, Nat.le_of_ble_eq_true rfl⟩) (ci := 3) rfl rfl 0 rfl dL_law_253 rfl rfl (Nat.le_of_ble_eq_true rfl) ⟨Nat.le_trans (by omega) rm_c, Nat.le_trans (by omega) rm_s⟩ rfl (fun r1 v1 hv => ?_)
  obtain ⟨hval, hrel⟩ := ps_size hok h0 hv
  clear h0 hv
  obtain ⟨N2, M2, S2, rl2, rh2, bl2, bh2, kl2, kh2, mn2, vc2, iv2, sc2, fl2, fh2, pt2, nu2, de2, hok2, rfl, rfl⟩ := hrel
  refine z_icmp_eq (tgt := 1948) C dL_law_256 (by decide) (fun _ => ?_) (fun q => absurd hval q)
  exact z_widen (by omega) (by omega) (hk _ _ _ _ _ (RelT_mk hok2))
end LCASE
