section LCASE
variable {p : Program} {l : Launch} {e : Env} {s : State} {m : MethodId} {args : Array Value} {below : List Frame} {meth : Method} {c : Code} {Q : State → Prop} {A : Nat → Prop} {D : va_G} {K : Nat → ClassId} {a b : Nat → Nat} {o od bS L i : Nat} {xs : Nat → Int32}
set_option maxRecDepth 20000 in
set_option maxHeartbeats 1000000 in
theorem lc_0 (C : zC p s m args c code 9 wsL_law RL A s.heap D vwCl (zT K)) (hX : xF A s) (hNc : yNc s) (hst : l.stackTraces = false) (hS : va_X bS L xs s s.heap) (hbl : bS < s.heap.size) (hbA : ¬ A bS) (hi : i + 6 ≤ L) (hL : L ≤ 3072)
    (hk : ∀ (u : S0) (v : S1) (g : Nat → Int64) (gd : Nat → UInt64) (k : Int32), RelT k u v → zW p l e room_1 s m args below meth c Q 9 A s.heap D vwCl (100 + (i + 6)) (600 + 2 * (i + 6)) (w1 K b v ++ wv K a o od (u, g, gd)) 1948 [(0, .ref bS), (1, .ref (a 0)), (2, .ref (b 0)), (3, .ref o), (4, .ref od), (5, .int (nI i))] []) {u : S0} {v : S1} {g : Nat → Int64} {gd : Nat → UInt64} {k0 : Int32} (hr : RelT k0 u v) : zW p l e room_1 s m args below meth c Q 9 A s.heap D vwCl (100 + i) (600 + 2 * i) (w1 K b v ++ wv K a o od (u, g, gd)) 192 [(0, .ref bS), (1, .ref (a 0)), (2, .ref (b 0)), (3, .ref o), (4, .ref od), (5, .int (nI i))] [] := by
  obtain ⟨N, M, S, rl, rh, bl, bh, kl, kh, mn, vc, iv, sc, fl, fh, pt, nu, de, hok, rfl, rfl⟩ := hr
  have hN := hok.2.1
  refine z_aload_n C dL_law_192 1 rfl ?_
  refine z_aload_n C dL_law_193 0 rfl ?_
  refine z_iload C dL_law_194 5 rfl ?_
  refine z_iconst (v := 1) C dL_law_196 (by decide) ?_
  refine z_iadd C dL_law_197 ?_
  refine z_sld C hS hbl hbA dL_law_198 (i + 1) (nI_add i 1) (by omega) (by omega) ?_
  refine z_aload_n C dL_law_199 3 rfl ?_
  refine y_callS (X := w1 K b (N, M, S, rl, rh, bl, bh, k0, fl, fh, pt, nu, de)) (As := [.ref (a 0), .int (xs (i + 1)), .ref o]) C hX hNc (wL_setSize l D K a N M S rl rh bl bh kl kh mn vc iv sc o od g gd (xs (i + 1)) hst hN) (vx_cwSW 3 C.1.2.2.2.2 gL_law_L_setSize rfl rfl rfl (by decide +kernel) ⟨Nat.le_of_ble_eq_true rfl, Nat.le_of_ble_eq_true rfl⟩) dL_law_200 rfl rfl (Nat.le_of_ble_eq_true rfl) ⟨Nat.le_trans (by omega) rm_c, Nat.le_trans (by omega) rm_s⟩ rfl (fun k1 z1 hz => ?_)
  obtain ⟨u1, g1, gd1⟩ := z1
  refine z_istore (lv' := [(0, .ref bS), (1, .ref (a 0)), (2, .ref (b 0)), (3, .ref o), (4, .ref od), (5, .int (nI i)), (6, .int k1)]) C dL_law_203 (by decide) [1, 2, 3, 4, 5, 6, 0] rfl ?_
  refine z_aload_n C dL_law_205 2 rfl ?_
  refine z_aload_n C dL_law_206 0 rfl ?_
  refine z_iload C dL_law_207 5 rfl ?_
  refine z_iconst (v := 1) C dL_law_209 (by decide) ?_
  refine z_iadd C dL_law_210 ?_
  refine z_sld C hS hbl hbA dL_law_211 (i + 1) (nI_add i 1) (by omega) (by omega) ?_
  refine z_callVi_l (As := [.int (xs (i + 1))]) (wc := w1 K b (N, M, S, rl, rh, bl, bh, k0, fl, fh, pt, nu, de)) (Y := wv K a o od (u1, g1, gd1)) C (c1_setSize l D K b N M S rl rh bl bh k0 fl fh pt nu de (xs (i + 1)) ) (cwV 1 C.1.2.2.2.2 gL_law_X1_setSize rfl rfl rfl (by decide +kernel) ⟨Nat.le_of_ble_eq_true rfl, Nat.le_of_ble_eq_true rfl⟩) (ci := 3) rfl rfl 0 rfl dL_law_212 rfl rfl (Nat.le_of_ble_eq_true rfl) ⟨Nat.le_trans (by omega) rm_c, Nat.le_trans (by omega) rm_s⟩ rfl (fun r1 v1 hv => ?_)
  obtain ⟨hval, hrel⟩ := pr_setSize hok (kl := kl) (kh := kh) (mn := mn) (vc := vc) (iv := iv) (sc := sc) (fl := fl) (fh := fh) (pt := pt) (nu := nu) (de := de) hz hv
  clear hz hv
  obtain ⟨N2, M2, S2, rl2, rh2, bl2, bh2, kl2, kh2, mn2, vc2, iv2, sc2, fl2, fh2, pt2, nu2, de2, hok2, rfl, rfl⟩ := hrel
  refine z_istore (lv' := [(0, .ref bS), (1, .ref (a 0)), (2, .ref (b 0)), (3, .ref o), (4, .ref od), (5, .int (nI i)), (6, .int k1), (7, .int r1)]) C dL_law_215 (by decide) [1, 2, 3, 4, 5, 6, 7, 0] rfl ?_
  refine z_aload_n C dL_law_217 2 rfl ?_
  refine z_callVi_l (As := []) (wc := w1 K b (N2, M2, S2, rl2, rh2, bl2, bh2, k1, fl2, fh2, pt2, nu2, de2)) (Y := wv K a o od ((N2, M2, S2, rl2, rh2, bl2, bh2, kl2, kh2, mn2, vc2, iv2, sc2), g1, gd1)) C (c1_thrown l D K b N2 M2 S2 rl2 rh2 bl2 bh2 k1 fl2 fh2 pt2 nu2 de2) (cwV 0 C.1.2.2.2.2 gL_law_X1_thrown rfl rfl rfl (by decide +kernel) ⟨Nat.le_of_ble_eq_true rfl, Nat.le_of_ble_eq_true rfl⟩) (ci := 3) rfl rfl 0 rfl dL_law_218 rfl rfl (Nat.le_of_ble_eq_true rfl) ⟨Nat.le_trans (by omega) rm_c, Nat.le_trans (by omega) rm_s⟩ rfl (fun r3 v3 h3 => ?_)
  obtain ⟨h3, rfl⟩ := h3
  refine z_topi k1 h3 ?_
  refine z_iload C dL_law_221 6 rfl ?_
  refine z_icmp_eq (tgt := 228) C dL_law_223 (by decide) (fun _ => ?_) (fun q => absurd rfl q)
  refine z_iload C dL_law_228 6 rfl ?_
  refine z_if_ne (tgt := 245) C dL_law_230 (by decide) (fun ck => ?_) (fun ck => ?_)
  · refine z_goto (tgt := 1948) C dL_law_245 (by decide) ?_
    refine z_lv (lv' := [(0, .ref bS), (1, .ref (a 0)), (2, .ref (b 0)), (3, .ref o), (4, .ref od), (5, .int (nI i))]) [0, 1, 2, 3, 4, 5] rfl ?_
    exact z_widen (by omega) (by omega) (hk _ _ _ _ _ (RelT_mk hok2))
  · refine z_aload_n C dL_law_233 3 rfl ?_
    refine z_iconst (v := 0) C dL_law_234 (by decide) ?_
    refine z_lald C 1 rfl 37 rfl dL_law_235 0 rfl (by decide) (by decide) ?_
    refine z_iload C dL_law_236 7 rfl ?_
    refine z_i2l C dL_law_238 ?_
    refine z_lcmp_eq (tgt := 245) C dL_law_239 dL_law_240 (by decide) (fun _ => ?_) (fun q => absurd (hval ck) q)
    refine z_goto (tgt := 1948) C dL_law_245 (by decide) ?_
    refine z_lv (lv' := [(0, .ref bS), (1, .ref (a 0)), (2, .ref (b 0)), (3, .ref o), (4, .ref od), (5, .int (nI i))]) [0, 1, 2, 3, 4, 5] rfl ?_
    exact z_widen (by omega) (by omega) (hk _ _ _ _ _ (RelT_mk hok2))
set_option maxRecDepth 20000 in
set_option maxHeartbeats 1000000 in
theorem lc_1 (C : zC p s m args c code 9 wsL_law RL A s.heap D vwCl (zT K)) (hX : xF A s) (hNc : yNc s) (hst : l.stackTraces = false) (hS : va_X bS L xs s s.heap) (hbl : bS < s.heap.size) (hbA : ¬ A bS) (hi : i + 6 ≤ L) (hL : L ≤ 3072)
    (hk : ∀ (u : S0) (v : S1) (g : Nat → Int64) (gd : Nat → UInt64) (k : Int32), RelT k u v → zW p l e room_1 s m args below meth c Q 9 A s.heap D vwCl (100 + (i + 6)) (600 + 2 * (i + 6)) (w1 K b v ++ wv K a o od (u, g, gd)) 1948 [(0, .ref bS), (1, .ref (a 0)), (2, .ref (b 0)), (3, .ref o), (4, .ref od), (5, .int (nI i))] []) {u : S0} {v : S1} {g : Nat → Int64} {gd : Nat → UInt64} {k0 : Int32} (hr : RelT k0 u v) : zW p l e room_1 s m args below meth c Q 9 A s.heap D vwCl (100 + i) (600 + 2 * i) (w1 K b v ++ wv K a o od (u, g, gd)) 248 [(0, .ref bS), (1, .ref (a 0)), (2, .ref (b 0)), (3, .ref o), (4, .ref od), (5, .int (nI i))] [] := by
  obtain ⟨N, M, S, rl, rh, bl, bh, kl, kh, mn, vc, iv, sc, fl, fh, pt, nu, de, hok, rfl, rfl⟩ := hr
  have hN := hok.2.1
  refine z_aload_n C dL_law_248 1 rfl ?_
  refine z_callVi (X := w1 K b (N, M, S, rl, rh, bl, bh, k0, fl, fh, pt, nu, de)) (wc := w0 K a (N, M, S, rl, rh, bl, bh, kl, kh, mn, vc, iv, sc)) (Y := [(o, .inl (K 1, 1, .inr (.inl g))), (od, .inl (K 4, 1, .inr (.inr (.inr (.inl gd)))))]) (As := []) C (c0_size l D K a N M S rl rh bl bh kl kh mn vc iv sc  ) (cwV 0 C.1.2.2.2.2 gL_law_X0_size rfl rfl rfl (by decide +kernel) ⟨Nat.le_of_ble_eq_true rfl, Nat.le_of_ble_eq_true rfl⟩) (ci := 2) rfl rfl 0 rfl dL_law_249 rfl rfl (Nat.le_of_ble_eq_true rfl) ⟨Nat.le_trans (by omega) rm_c, Nat.le_trans (by omega) rm_s⟩ rfl (fun r0 u1 h0 => ?_)
  refine z_aload_n C dL_law_252 2 rfl ?_
  refine z_callVi_l (As := []) (wc := w1 K b (N, M, S, rl, rh, bl, bh, k0, fl, fh, pt, nu, de)) (Y := w0 K a u1 ++ [(o, .inl (K 1, 1, .inr (.inl g))), (od, .inl (K 4, 1, .inr (.inr (.inr (.inl gd)))))]) C (c1_size l D K b N M S rl rh bl bh k0 fl fh pt nu de  ) (cwV 0 C.1.2.2.2.2 gL_law_X1_size rfl rfl rfl (by decide +kernel) ⟨Nat.le_of_ble_eq_true rfl, Nat.le_of_ble_eq_true rfl⟩) (ci := 3) rfl rfl 0 rfl dL_law_253 rfl rfl (Nat.le_of_ble_eq_true rfl) ⟨Nat.le_trans (by omega) rm_c, Nat.le_trans (by omega) rm_s⟩ rfl (fun r1 v1 hv => ?_)
  obtain ⟨hval, hrel⟩ := ps_size hok (kl := kl) (kh := kh) (mn := mn) (vc := vc) (iv := iv) (sc := sc) (fl := fl) (fh := fh) (pt := pt) (nu := nu) (de := de) h0 hv
  clear h0 hv
  obtain ⟨N2, M2, S2, rl2, rh2, bl2, bh2, kl2, kh2, mn2, vc2, iv2, sc2, fl2, fh2, pt2, nu2, de2, hok2, rfl, rfl⟩ := hrel
  refine z_icmp_eq (tgt := 1948) C dL_law_256 (by decide) (fun _ => ?_) (fun q => absurd hval q)
  exact z_widen (by omega) (by omega) (hk _ _ _ _ _ (RelT_mk hok2))
set_option maxRecDepth 20000 in
set_option maxHeartbeats 1000000 in
theorem lc_2 (C : zC p s m args c code 9 wsL_law RL A s.heap D vwCl (zT K)) (hX : xF A s) (hNc : yNc s) (hst : l.stackTraces = false) (hS : va_X bS L xs s s.heap) (hbl : bS < s.heap.size) (hbA : ¬ A bS) (hi : i + 6 ≤ L) (hL : L ≤ 3072)
    (hk : ∀ (u : S0) (v : S1) (g : Nat → Int64) (gd : Nat → UInt64) (k : Int32), RelT k u v → zW p l e room_1 s m args below meth c Q 9 A s.heap D vwCl (100 + (i + 6)) (600 + 2 * (i + 6)) (w1 K b v ++ wv K a o od (u, g, gd)) 1948 [(0, .ref bS), (1, .ref (a 0)), (2, .ref (b 0)), (3, .ref o), (4, .ref od), (5, .int (nI i))] []) {u : S0} {v : S1} {g : Nat → Int64} {gd : Nat → UInt64} {k0 : Int32} (hr : RelT k0 u v) : zW p l e room_1 s m args below meth c Q 9 A s.heap D vwCl (100 + i) (600 + 2 * i) (w1 K b v ++ wv K a o od (u, g, gd)) 261 [(0, .ref bS), (1, .ref (a 0)), (2, .ref (b 0)), (3, .ref o), (4, .ref od), (5, .int (nI i))] [] := by
  obtain ⟨N, M, S, rl, rh, bl, bh, kl, kh, mn, vc, iv, sc, fl, fh, pt, nu, de, hok, rfl, rfl⟩ := hr
  have hN := hok.2.1
  refine z_aload_n C dL_law_261 1 rfl ?_
  refine z_aload_n C dL_law_262 0 rfl ?_
  refine z_iload C dL_law_263 5 rfl ?_
  refine z_iconst (v := 1) C dL_law_265 (by decide) ?_
  refine z_iadd C dL_law_266 ?_
  refine z_sld C hS hbl hbA dL_law_267 (i + 1) (nI_add i 1) (by omega) (by omega) ?_
  refine z_aload_n C dL_law_268 0 rfl ?_
  refine z_iload C dL_law_269 5 rfl ?_
  refine z_iconst (v := 2) C dL_law_271 (by decide) ?_
  refine z_iadd C dL_law_272 ?_
  refine z_sld C hS hbl hbA dL_law_273 (i + 2) (nI_add i 2) (by omega) (by omega) ?_
  refine z_aload_n C dL_law_274 0 rfl ?_
  refine z_iload C dL_law_275 5 rfl ?_
  refine z_iconst (v := 3) C dL_law_277 (by decide) ?_
  refine z_iadd C dL_law_278 ?_
  refine z_sld C hS hbl hbA dL_law_279 (i + 3) (nI_add i 3) (by omega) (by omega) ?_
  refine z_aload_n C dL_law_280 3 rfl ?_
  refine y_callS (X := w1 K b (N, M, S, rl, rh, bl, bh, k0, fl, fh, pt, nu, de)) (As := [.ref (a 0), .int (xs (i + 1)), .int (xs (i + 2)), .int (xs (i + 3)), .ref o]) C hX hNc (wL_setCoefficient l D K a N M S rl rh bl bh kl kh mn vc iv sc o od g gd (xs (i + 1)) (xs (i + 2)) (xs (i + 3)) hst hN) (vx_cwSW 5 C.1.2.2.2.2 gL_law_L_setCoefficient rfl rfl rfl (by decide +kernel) ⟨Nat.le_of_ble_eq_true rfl, Nat.le_of_ble_eq_true rfl⟩) dL_law_281 rfl rfl (Nat.le_of_ble_eq_true rfl) ⟨Nat.le_trans (by omega) rm_c, Nat.le_trans (by omega) rm_s⟩ rfl (fun k1 z1 hz => ?_)
  obtain ⟨u1, g1, gd1⟩ := z1
  refine z_istore (lv' := [(0, .ref bS), (1, .ref (a 0)), (2, .ref (b 0)), (3, .ref o), (4, .ref od), (5, .int (nI i)), (6, .int k1)]) C dL_law_284 (by decide) [1, 2, 3, 4, 5, 6, 0] rfl ?_
  refine z_aload_n C dL_law_286 2 rfl ?_
  refine z_aload_n C dL_law_287 0 rfl ?_
  refine z_iload C dL_law_288 5 rfl ?_
  refine z_iconst (v := 1) C dL_law_290 (by decide) ?_
  refine z_iadd C dL_law_291 ?_
  refine z_sld C hS hbl hbA dL_law_292 (i + 1) (nI_add i 1) (by omega) (by omega) ?_
  refine z_aload_n C dL_law_293 0 rfl ?_
  refine z_iload C dL_law_294 5 rfl ?_
  refine z_iconst (v := 2) C dL_law_296 (by decide) ?_
  refine z_iadd C dL_law_297 ?_
  refine z_sld C hS hbl hbA dL_law_298 (i + 2) (nI_add i 2) (by omega) (by omega) ?_
  refine z_aload_n C dL_law_299 0 rfl ?_
  refine z_iload C dL_law_300 5 rfl ?_
  refine z_iconst (v := 3) C dL_law_302 (by decide) ?_
  refine z_iadd C dL_law_303 ?_
  refine z_sld C hS hbl hbA dL_law_304 (i + 3) (nI_add i 3) (by omega) (by omega) ?_
  refine z_callVi_l (As := [.int (xs (i + 1)), .int (xs (i + 2)), .int (xs (i + 3))]) (wc := w1 K b (N, M, S, rl, rh, bl, bh, k0, fl, fh, pt, nu, de)) (Y := wv K a o od (u1, g1, gd1)) C (c1_setCoefficient l D K b N M S rl rh bl bh k0 fl fh pt nu de (xs (i + 1)) (xs (i + 2)) (xs (i + 3)) hN) (cwV 3 C.1.2.2.2.2 gL_law_X1_setCoefficient rfl rfl rfl (by decide +kernel) ⟨Nat.le_of_ble_eq_true rfl, Nat.le_of_ble_eq_true rfl⟩) (ci := 3) rfl rfl 0 rfl dL_law_305 rfl rfl (Nat.le_of_ble_eq_true rfl) ⟨Nat.le_trans (by omega) rm_c, Nat.le_trans (by omega) rm_s⟩ rfl (fun r1 v1 hv => ?_)
  obtain ⟨hval, hrel⟩ := pr_setCoefficient hok (kl := kl) (kh := kh) (mn := mn) (vc := vc) (iv := iv) (sc := sc) (fl := fl) (fh := fh) (pt := pt) (nu := nu) (de := de) hz hv
  clear hz hv
  obtain ⟨N2, M2, S2, rl2, rh2, bl2, bh2, kl2, kh2, mn2, vc2, iv2, sc2, fl2, fh2, pt2, nu2, de2, hok2, rfl, rfl⟩ := hrel
  refine z_istore (lv' := [(0, .ref bS), (1, .ref (a 0)), (2, .ref (b 0)), (3, .ref o), (4, .ref od), (5, .int (nI i)), (6, .int k1), (7, .int r1)]) C dL_law_308 (by decide) [1, 2, 3, 4, 5, 6, 7, 0] rfl ?_
  refine z_aload_n C dL_law_310 2 rfl ?_
  refine z_callVi_l (As := []) (wc := w1 K b (N2, M2, S2, rl2, rh2, bl2, bh2, k1, fl2, fh2, pt2, nu2, de2)) (Y := wv K a o od ((N2, M2, S2, rl2, rh2, bl2, bh2, kl2, kh2, mn2, vc2, iv2, sc2), g1, gd1)) C (c1_thrown l D K b N2 M2 S2 rl2 rh2 bl2 bh2 k1 fl2 fh2 pt2 nu2 de2) (cwV 0 C.1.2.2.2.2 gL_law_X1_thrown rfl rfl rfl (by decide +kernel) ⟨Nat.le_of_ble_eq_true rfl, Nat.le_of_ble_eq_true rfl⟩) (ci := 3) rfl rfl 0 rfl dL_law_311 rfl rfl (Nat.le_of_ble_eq_true rfl) ⟨Nat.le_trans (by omega) rm_c, Nat.le_trans (by omega) rm_s⟩ rfl (fun r3 v3 h3 => ?_)
  obtain ⟨h3, rfl⟩ := h3
  refine z_topi k1 h3 ?_
  refine z_iload C dL_law_314 6 rfl ?_
  refine z_icmp_eq (tgt := 321) C dL_law_316 (by decide) (fun _ => ?_) (fun q => absurd rfl q)
  refine z_iload C dL_law_321 6 rfl ?_
  refine z_if_ne (tgt := 338) C dL_law_323 (by decide) (fun ck => ?_) (fun ck => ?_)
  · refine z_goto (tgt := 1948) C dL_law_338 (by decide) ?_
    refine z_lv (lv' := [(0, .ref bS), (1, .ref (a 0)), (2, .ref (b 0)), (3, .ref o), (4, .ref od), (5, .int (nI i))]) [0, 1, 2, 3, 4, 5] rfl ?_
    exact z_widen (by omega) (by omega) (hk _ _ _ _ _ (RelT_mk hok2))
  · refine z_aload_n C dL_law_326 3 rfl ?_
    refine z_iconst (v := 0) C dL_law_327 (by decide) ?_
    refine z_lald C 1 rfl 37 rfl dL_law_328 0 rfl (by decide) (by decide) ?_
    refine z_iload C dL_law_329 7 rfl ?_
    refine z_i2l C dL_law_331 ?_
    refine z_lcmp_eq (tgt := 338) C dL_law_332 dL_law_333 (by decide) (fun _ => ?_) (fun q => absurd (hval ck) q)
    refine z_goto (tgt := 1948) C dL_law_338 (by decide) ?_
    refine z_lv (lv' := [(0, .ref bS), (1, .ref (a 0)), (2, .ref (b 0)), (3, .ref o), (4, .ref od), (5, .int (nI i))]) [0, 1, 2, 3, 4, 5] rfl ?_
    exact z_widen (by omega) (by omega) (hk _ _ _ _ _ (RelT_mk hok2))
set_option maxRecDepth 20000 in
set_option maxHeartbeats 1000000 in
theorem lc_3 (C : zC p s m args c code 9 wsL_law RL A s.heap D vwCl (zT K)) (hX : xF A s) (hNc : yNc s) (hst : l.stackTraces = false) (hS : va_X bS L xs s s.heap) (hbl : bS < s.heap.size) (hbA : ¬ A bS) (hi : i + 6 ≤ L) (hL : L ≤ 3072)
    (hk : ∀ (u : S0) (v : S1) (g : Nat → Int64) (gd : Nat → UInt64) (k : Int32), RelT k u v → zW p l e room_1 s m args below meth c Q 9 A s.heap D vwCl (100 + (i + 6)) (600 + 2 * (i + 6)) (w1 K b v ++ wv K a o od (u, g, gd)) 1948 [(0, .ref bS), (1, .ref (a 0)), (2, .ref (b 0)), (3, .ref o), (4, .ref od), (5, .int (nI i))] []) {u : S0} {v : S1} {g : Nat → Int64} {gd : Nat → UInt64} {k0 : Int32} (hr : RelT k0 u v) : zW p l e room_1 s m args below meth c Q 9 A s.heap D vwCl (100 + i) (600 + 2 * i) (w1 K b v ++ wv K a o od (u, g, gd)) 341 [(0, .ref bS), (1, .ref (a 0)), (2, .ref (b 0)), (3, .ref o), (4, .ref od), (5, .int (nI i))] [] := by
  obtain ⟨N, M, S, rl, rh, bl, bh, kl, kh, mn, vc, iv, sc, fl, fh, pt, nu, de, hok, rfl, rfl⟩ := hr
  have hN := hok.2.1
  refine z_aload_n C dL_law_341 1 rfl ?_
  refine z_aload_n C dL_law_342 0 rfl ?_
  refine z_iload C dL_law_343 5 rfl ?_
  refine z_iconst (v := 1) C dL_law_345 (by decide) ?_
  refine z_iadd C dL_law_346 ?_
  refine z_sld C hS hbl hbA dL_law_347 (i + 1) (nI_add i 1) (by omega) (by omega) ?_
  refine z_aload_n C dL_law_348 0 rfl ?_
  refine z_iload C dL_law_349 5 rfl ?_
  refine z_iconst (v := 2) C dL_law_351 (by decide) ?_
  refine z_iadd C dL_law_352 ?_
  refine z_sld C hS hbl hbA dL_law_353 (i + 2) (nI_add i 2) (by omega) (by omega) ?_
  refine z_aload_n C dL_law_354 3 rfl ?_
  refine y_callS (X := w1 K b (N, M, S, rl, rh, bl, bh, k0, fl, fh, pt, nu, de)) (As := [.ref (a 0), .int (xs (i + 1)), .int (xs (i + 2)), .ref o]) C hX hNc (wL_coefficient l D K a N M S rl rh bl bh kl kh mn vc iv sc o od g gd (xs (i + 1)) (xs (i + 2)) hst hN) (vx_cwSW 4 C.1.2.2.2.2 gL_law_L_coefficient rfl rfl rfl (by decide +kernel) ⟨Nat.le_of_ble_eq_true rfl, Nat.le_of_ble_eq_true rfl⟩) dL_law_355 rfl rfl (Nat.le_of_ble_eq_true rfl) ⟨Nat.le_trans (by omega) rm_c, Nat.le_trans (by omega) rm_s⟩ rfl (fun k1 z1 hz => ?_)
  obtain ⟨u1, g1, gd1⟩ := z1
  refine z_istore (lv' := [(0, .ref bS), (1, .ref (a 0)), (2, .ref (b 0)), (3, .ref o), (4, .ref od), (5, .int (nI i)), (6, .int k1)]) C dL_law_358 (by decide) [1, 2, 3, 4, 5, 6, 0] rfl ?_
  refine z_aload_n C dL_law_360 2 rfl ?_
  refine z_aload_n C dL_law_361 0 rfl ?_
  refine z_iload C dL_law_362 5 rfl ?_
  refine z_iconst (v := 1) C dL_law_364 (by decide) ?_
  refine z_iadd C dL_law_365 ?_
  refine z_sld C hS hbl hbA dL_law_366 (i + 1) (nI_add i 1) (by omega) (by omega) ?_
  refine z_aload_n C dL_law_367 0 rfl ?_
  refine z_iload C dL_law_368 5 rfl ?_
  refine z_iconst (v := 2) C dL_law_370 (by decide) ?_
  refine z_iadd C dL_law_371 ?_
  refine z_sld C hS hbl hbA dL_law_372 (i + 2) (nI_add i 2) (by omega) (by omega) ?_
  refine z_callVi_l (As := [.int (xs (i + 1)), .int (xs (i + 2))]) (wc := w1 K b (N, M, S, rl, rh, bl, bh, k0, fl, fh, pt, nu, de)) (Y := wv K a o od (u1, g1, gd1)) C (c1_coefficient l D K b N M S rl rh bl bh k0 fl fh pt nu de (xs (i + 1)) (xs (i + 2)) hN) (cwV 2 C.1.2.2.2.2 gL_law_X1_coefficient rfl rfl rfl (by decide +kernel) ⟨Nat.le_of_ble_eq_true rfl, Nat.le_of_ble_eq_true rfl⟩) (ci := 3) rfl rfl 0 rfl dL_law_373 rfl rfl (Nat.le_of_ble_eq_true rfl) ⟨Nat.le_trans (by omega) rm_c, Nat.le_trans (by omega) rm_s⟩ rfl (fun r1 v1 hv => ?_)
  obtain ⟨hval, hrel⟩ := pr_coefficient hok (kl := kl) (kh := kh) (mn := mn) (vc := vc) (iv := iv) (sc := sc) (fl := fl) (fh := fh) (pt := pt) (nu := nu) (de := de) hz hv
  clear hz hv
  obtain ⟨N2, M2, S2, rl2, rh2, bl2, bh2, kl2, kh2, mn2, vc2, iv2, sc2, fl2, fh2, pt2, nu2, de2, hok2, rfl, rfl⟩ := hrel
  refine z_istore (lv' := [(0, .ref bS), (1, .ref (a 0)), (2, .ref (b 0)), (3, .ref o), (4, .ref od), (5, .int (nI i)), (6, .int k1), (7, .int r1)]) C dL_law_376 (by decide) [1, 2, 3, 4, 5, 6, 7, 0] rfl ?_
  refine z_aload_n C dL_law_378 2 rfl ?_
  refine z_callVi_l (As := []) (wc := w1 K b (N2, M2, S2, rl2, rh2, bl2, bh2, k1, fl2, fh2, pt2, nu2, de2)) (Y := wv K a o od ((N2, M2, S2, rl2, rh2, bl2, bh2, kl2, kh2, mn2, vc2, iv2, sc2), g1, gd1)) C (c1_thrown l D K b N2 M2 S2 rl2 rh2 bl2 bh2 k1 fl2 fh2 pt2 nu2 de2) (cwV 0 C.1.2.2.2.2 gL_law_X1_thrown rfl rfl rfl (by decide +kernel) ⟨Nat.le_of_ble_eq_true rfl, Nat.le_of_ble_eq_true rfl⟩) (ci := 3) rfl rfl 0 rfl dL_law_379 rfl rfl (Nat.le_of_ble_eq_true rfl) ⟨Nat.le_trans (by omega) rm_c, Nat.le_trans (by omega) rm_s⟩ rfl (fun r3 v3 h3 => ?_)
  obtain ⟨h3, rfl⟩ := h3
  refine z_topi k1 h3 ?_
  refine z_iload C dL_law_382 6 rfl ?_
  refine z_icmp_eq (tgt := 389) C dL_law_384 (by decide) (fun _ => ?_) (fun q => absurd rfl q)
  refine z_iload C dL_law_389 6 rfl ?_
  refine z_if_ne (tgt := 406) C dL_law_391 (by decide) (fun ck => ?_) (fun ck => ?_)
  · refine z_goto (tgt := 1948) C dL_law_406 (by decide) ?_
    refine z_lv (lv' := [(0, .ref bS), (1, .ref (a 0)), (2, .ref (b 0)), (3, .ref o), (4, .ref od), (5, .int (nI i))]) [0, 1, 2, 3, 4, 5] rfl ?_
    exact z_widen (by omega) (by omega) (hk _ _ _ _ _ (RelT_mk hok2))
  · refine z_aload_n C dL_law_394 3 rfl ?_
    refine z_iconst (v := 0) C dL_law_395 (by decide) ?_
    refine z_lald C 1 rfl 37 rfl dL_law_396 0 rfl (by decide) (by decide) ?_
    refine z_iload C dL_law_397 7 rfl ?_
    refine z_i2l C dL_law_399 ?_
    refine z_lcmp_eq (tgt := 406) C dL_law_400 dL_law_401 (by decide) (fun _ => ?_) (fun q => absurd (hval ck) q)
    refine z_goto (tgt := 1948) C dL_law_406 (by decide) ?_
    refine z_lv (lv' := [(0, .ref bS), (1, .ref (a 0)), (2, .ref (b 0)), (3, .ref o), (4, .ref od), (5, .int (nI i))]) [0, 1, 2, 3, 4, 5] rfl ?_
    exact z_widen (by omega) (by omega) (hk _ _ _ _ _ (RelT_mk hok2))
set_option maxRecDepth 20000 in
set_option maxHeartbeats 1000000 in
theorem lc_4 (C : zC p s m args c code 9 wsL_law RL A s.heap D vwCl (zT K)) (hX : xF A s) (hNc : yNc s) (hst : l.stackTraces = false) (hS : va_X bS L xs s s.heap) (hbl : bS < s.heap.size) (hbA : ¬ A bS) (hi : i + 6 ≤ L) (hL : L ≤ 3072)
    (hk : ∀ (u : S0) (v : S1) (g : Nat → Int64) (gd : Nat → UInt64) (k : Int32), RelT k u v → zW p l e room_1 s m args below meth c Q 9 A s.heap D vwCl (100 + (i + 6)) (600 + 2 * (i + 6)) (w1 K b v ++ wv K a o od (u, g, gd)) 1948 [(0, .ref bS), (1, .ref (a 0)), (2, .ref (b 0)), (3, .ref o), (4, .ref od), (5, .int (nI i))] []) {u : S0} {v : S1} {g : Nat → Int64} {gd : Nat → UInt64} {k0 : Int32} (hr : RelT k0 u v) : zW p l e room_1 s m args below meth c Q 9 A s.heap D vwCl (100 + i) (600 + 2 * i) (w1 K b v ++ wv K a o od (u, g, gd)) 409 [(0, .ref bS), (1, .ref (a 0)), (2, .ref (b 0)), (3, .ref o), (4, .ref od), (5, .int (nI i))] [] := by
  obtain ⟨N, M, S, rl, rh, bl, bh, kl, kh, mn, vc, iv, sc, fl, fh, pt, nu, de, hok, rfl, rfl⟩ := hr
  have hN := hok.2.1
  refine z_aload_n C dL_law_409 1 rfl ?_
  refine z_aload_n C dL_law_410 0 rfl ?_
  refine z_iload C dL_law_411 5 rfl ?_
  refine z_iconst (v := 1) C dL_law_413 (by decide) ?_
  refine z_iadd C dL_law_414 ?_
  refine z_sld C hS hbl hbA dL_law_415 (i + 1) (nI_add i 1) (by omega) (by omega) ?_
  refine z_aload_n C dL_law_416 0 rfl ?_
  refine z_iload C dL_law_417 5 rfl ?_
  refine z_iconst (v := 2) C dL_law_419 (by decide) ?_
  refine z_iadd C dL_law_420 ?_
  refine z_sld C hS hbl hbA dL_law_421 (i + 2) (nI_add i 2) (by omega) (by omega) ?_
  refine z_aload_n C dL_law_422 0 rfl ?_
  refine z_iload C dL_law_423 5 rfl ?_
  refine z_iconst (v := 3) C dL_law_425 (by decide) ?_
  refine z_iadd C dL_law_426 ?_
  refine z_sld C hS hbl hbA dL_law_427 (i + 3) (nI_add i 3) (by omega) (by omega) ?_
  refine z_aload_n C dL_law_428 3 rfl ?_
  refine y_callS (X := w1 K b (N, M, S, rl, rh, bl, bh, k0, fl, fh, pt, nu, de)) (As := [.ref (a 0), .int (xs (i + 1)), .int (xs (i + 2)), .int (xs (i + 3)), .ref o]) C hX hNc (wL_setRight l D K a N M S rl rh bl bh kl kh mn vc iv sc o od g gd (xs (i + 1)) (xs (i + 2)) (xs (i + 3)) hst hN) (vx_cwSW 5 C.1.2.2.2.2 gL_law_L_setRight rfl rfl rfl (by decide +kernel) ⟨Nat.le_of_ble_eq_true rfl, Nat.le_of_ble_eq_true rfl⟩) dL_law_429 rfl rfl (Nat.le_of_ble_eq_true rfl) ⟨Nat.le_trans (by omega) rm_c, Nat.le_trans (by omega) rm_s⟩ rfl (fun k1 z1 hz => ?_)
  obtain ⟨u1, g1, gd1⟩ := z1
  refine z_istore (lv' := [(0, .ref bS), (1, .ref (a 0)), (2, .ref (b 0)), (3, .ref o), (4, .ref od), (5, .int (nI i)), (6, .int k1)]) C dL_law_432 (by decide) [1, 2, 3, 4, 5, 6, 0] rfl ?_
  refine z_aload_n C dL_law_434 2 rfl ?_
  refine z_aload_n C dL_law_435 0 rfl ?_
  refine z_iload C dL_law_436 5 rfl ?_
  refine z_iconst (v := 1) C dL_law_438 (by decide) ?_
  refine z_iadd C dL_law_439 ?_
  refine z_sld C hS hbl hbA dL_law_440 (i + 1) (nI_add i 1) (by omega) (by omega) ?_
  refine z_aload_n C dL_law_441 0 rfl ?_
  refine z_iload C dL_law_442 5 rfl ?_
  refine z_iconst (v := 2) C dL_law_444 (by decide) ?_
  refine z_iadd C dL_law_445 ?_
  refine z_sld C hS hbl hbA dL_law_446 (i + 2) (nI_add i 2) (by omega) (by omega) ?_
  refine z_aload_n C dL_law_447 0 rfl ?_
  refine z_iload C dL_law_448 5 rfl ?_
  refine z_iconst (v := 3) C dL_law_450 (by decide) ?_
  refine z_iadd C dL_law_451 ?_
  refine z_sld C hS hbl hbA dL_law_452 (i + 3) (nI_add i 3) (by omega) (by omega) ?_
  refine z_callVi_l (As := [.int (xs (i + 1)), .int (xs (i + 2)), .int (xs (i + 3))]) (wc := w1 K b (N, M, S, rl, rh, bl, bh, k0, fl, fh, pt, nu, de)) (Y := wv K a o od (u1, g1, gd1)) C (c1_setRight l D K b N M S rl rh bl bh k0 fl fh pt nu de (xs (i + 1)) (xs (i + 2)) (xs (i + 3)) hN) (cwV 3 C.1.2.2.2.2 gL_law_X1_setRight rfl rfl rfl (by decide +kernel) ⟨Nat.le_of_ble_eq_true rfl, Nat.le_of_ble_eq_true rfl⟩) (ci := 3) rfl rfl 0 rfl dL_law_453 rfl rfl (Nat.le_of_ble_eq_true rfl) ⟨Nat.le_trans (by omega) rm_c, Nat.le_trans (by omega) rm_s⟩ rfl (fun r1 v1 hv => ?_)
  obtain ⟨hval, hrel⟩ := pr_setRight hok (kl := kl) (kh := kh) (mn := mn) (vc := vc) (iv := iv) (sc := sc) (fl := fl) (fh := fh) (pt := pt) (nu := nu) (de := de) hz hv
  clear hz hv
  obtain ⟨N2, M2, S2, rl2, rh2, bl2, bh2, kl2, kh2, mn2, vc2, iv2, sc2, fl2, fh2, pt2, nu2, de2, hok2, rfl, rfl⟩ := hrel
  refine z_istore (lv' := [(0, .ref bS), (1, .ref (a 0)), (2, .ref (b 0)), (3, .ref o), (4, .ref od), (5, .int (nI i)), (6, .int k1), (7, .int r1)]) C dL_law_456 (by decide) [1, 2, 3, 4, 5, 6, 7, 0] rfl ?_
  refine z_aload_n C dL_law_458 2 rfl ?_
  refine z_callVi_l (As := []) (wc := w1 K b (N2, M2, S2, rl2, rh2, bl2, bh2, k1, fl2, fh2, pt2, nu2, de2)) (Y := wv K a o od ((N2, M2, S2, rl2, rh2, bl2, bh2, kl2, kh2, mn2, vc2, iv2, sc2), g1, gd1)) C (c1_thrown l D K b N2 M2 S2 rl2 rh2 bl2 bh2 k1 fl2 fh2 pt2 nu2 de2) (cwV 0 C.1.2.2.2.2 gL_law_X1_thrown rfl rfl rfl (by decide +kernel) ⟨Nat.le_of_ble_eq_true rfl, Nat.le_of_ble_eq_true rfl⟩) (ci := 3) rfl rfl 0 rfl dL_law_459 rfl rfl (Nat.le_of_ble_eq_true rfl) ⟨Nat.le_trans (by omega) rm_c, Nat.le_trans (by omega) rm_s⟩ rfl (fun r3 v3 h3 => ?_)
  obtain ⟨h3, rfl⟩ := h3
  refine z_topi k1 h3 ?_
  refine z_iload C dL_law_462 6 rfl ?_
  refine z_icmp_eq (tgt := 469) C dL_law_464 (by decide) (fun _ => ?_) (fun q => absurd rfl q)
  refine z_iload C dL_law_469 6 rfl ?_
  refine z_if_ne (tgt := 493) C dL_law_471 (by decide) (fun ck => ?_) (fun ck => ?_)
  · refine z_goto (tgt := 1948) C dL_law_493 (by decide) ?_
    refine z_lv (lv' := [(0, .ref bS), (1, .ref (a 0)), (2, .ref (b 0)), (3, .ref o), (4, .ref od), (5, .int (nI i))]) [0, 1, 2, 3, 4, 5] rfl ?_
    exact z_widen (by omega) (by omega) (hk _ _ _ _ _ (RelT_mk hok2))
  · refine z_aload_n C dL_law_474 3 rfl ?_
    refine z_iconst (v := 0) C dL_law_475 (by decide) ?_
    refine z_lald C 1 rfl 37 rfl dL_law_476 0 rfl (by decide) (by decide) ?_
    refine z_iload C dL_law_477 7 rfl ?_
    refine z_if_eq (tgt := 486) C dL_law_479 (by decide) (fun cb => ?_) (fun cb => ?_)
    · refine z_lconst (v := 0) C dL_law_486 (by decide) ?_
      refine z_lcmp_eq (tgt := 493) C dL_law_487 dL_law_488 (by decide) (fun _ => ?_) (fun q => absurd ((hval ck).trans (yb_t cb).symm) q)
      refine z_goto (tgt := 1948) C dL_law_493 (by decide) ?_
      refine z_lv (lv' := [(0, .ref bS), (1, .ref (a 0)), (2, .ref (b 0)), (3, .ref o), (4, .ref od), (5, .int (nI i))]) [0, 1, 2, 3, 4, 5] rfl ?_
      exact z_widen (by omega) (by omega) (hk _ _ _ _ _ (RelT_mk hok2))
    · refine z_lconst (v := 1) C dL_law_482 (by decide) ?_
      refine z_goto (tgt := 487) C dL_law_483 (by decide) ?_
      refine z_lcmp_eq (tgt := 493) C dL_law_487 dL_law_488 (by decide) (fun _ => ?_) (fun q => absurd ((hval ck).trans (yb_f cb).symm) q)
      refine z_goto (tgt := 1948) C dL_law_493 (by decide) ?_
      refine z_lv (lv' := [(0, .ref bS), (1, .ref (a 0)), (2, .ref (b 0)), (3, .ref o), (4, .ref od), (5, .int (nI i))]) [0, 1, 2, 3, 4, 5] rfl ?_
      exact z_widen (by omega) (by omega) (hk _ _ _ _ _ (RelT_mk hok2))
set_option maxRecDepth 20000 in
set_option maxHeartbeats 1000000 in
theorem lc_5 (C : zC p s m args c code 9 wsL_law RL A s.heap D vwCl (zT K)) (hX : xF A s) (hNc : yNc s) (hst : l.stackTraces = false) (hS : va_X bS L xs s s.heap) (hbl : bS < s.heap.size) (hbA : ¬ A bS) (hi : i + 6 ≤ L) (hL : L ≤ 3072)
    (hk : ∀ (u : S0) (v : S1) (g : Nat → Int64) (gd : Nat → UInt64) (k : Int32), RelT k u v → zW p l e room_1 s m args below meth c Q 9 A s.heap D vwCl (100 + (i + 6)) (600 + 2 * (i + 6)) (w1 K b v ++ wv K a o od (u, g, gd)) 1948 [(0, .ref bS), (1, .ref (a 0)), (2, .ref (b 0)), (3, .ref o), (4, .ref od), (5, .int (nI i))] []) {u : S0} {v : S1} {g : Nat → Int64} {gd : Nat → UInt64} {k0 : Int32} (hr : RelT k0 u v) : zW p l e room_1 s m args below meth c Q 9 A s.heap D vwCl (100 + i) (600 + 2 * i) (w1 K b v ++ wv K a o od (u, g, gd)) 496 [(0, .ref bS), (1, .ref (a 0)), (2, .ref (b 0)), (3, .ref o), (4, .ref od), (5, .int (nI i))] [] := by
  obtain ⟨N, M, S, rl, rh, bl, bh, kl, kh, mn, vc, iv, sc, fl, fh, pt, nu, de, hok, rfl, rfl⟩ := hr
  have hN := hok.2.1
  refine z_aload_n C dL_law_496 1 rfl ?_
  refine z_aload_n C dL_law_497 0 rfl ?_
  refine z_iload C dL_law_498 5 rfl ?_
  refine z_iconst (v := 1) C dL_law_500 (by decide) ?_
  refine z_iadd C dL_law_501 ?_
  refine z_sld C hS hbl hbA dL_law_502 (i + 1) (nI_add i 1) (by omega) (by omega) ?_
  refine z_aload_n C dL_law_503 3 rfl ?_
  refine y_callS (X := w1 K b (N, M, S, rl, rh, bl, bh, k0, fl, fh, pt, nu, de)) (As := [.ref (a 0), .int (xs (i + 1)), .ref o]) C hX hNc (wL_rightLow l D K a N M S rl rh bl bh kl kh mn vc iv sc o od g gd (xs (i + 1)) hst hN) (vx_cwSW 3 C.1.2.2.2.2 gL_law_L_rightLow rfl rfl rfl (by decide +kernel) ⟨Nat.le_of_ble_eq_true rfl, Nat.le_of_ble_eq_true rfl⟩) dL_law_504 rfl rfl (Nat.le_of_ble_eq_true rfl) ⟨Nat.le_trans (by omega) rm_c, Nat.le_trans (by omega) rm_s⟩ rfl (fun k1 z1 hz => ?_)
  obtain ⟨u1, g1, gd1⟩ := z1
  refine z_istore (lv' := [(0, .ref bS), (1, .ref (a 0)), (2, .ref (b 0)), (3, .ref o), (4, .ref od), (5, .int (nI i)), (6, .int k1)]) C dL_law_507 (by decide) [1, 2, 3, 4, 5, 6, 0] rfl ?_
  refine z_aload_n C dL_law_509 2 rfl ?_
  refine z_aload_n C dL_law_510 0 rfl ?_
  refine z_iload C dL_law_511 5 rfl ?_
  refine z_iconst (v := 1) C dL_law_513 (by decide) ?_
  refine z_iadd C dL_law_514 ?_
  refine z_sld C hS hbl hbA dL_law_515 (i + 1) (nI_add i 1) (by omega) (by omega) ?_
  refine z_callVi_l (As := [.int (xs (i + 1))]) (wc := w1 K b (N, M, S, rl, rh, bl, bh, k0, fl, fh, pt, nu, de)) (Y := wv K a o od (u1, g1, gd1)) C (c1_rightLow l D K b N M S rl rh bl bh k0 fl fh pt nu de (xs (i + 1)) hN) (cwV 1 C.1.2.2.2.2 gL_law_X1_rightLow rfl rfl rfl (by decide +kernel) ⟨Nat.le_of_ble_eq_true rfl, Nat.le_of_ble_eq_true rfl⟩) (ci := 3) rfl rfl 0 rfl dL_law_516 rfl rfl (Nat.le_of_ble_eq_true rfl) ⟨Nat.le_trans (by omega) rm_c, Nat.le_trans (by omega) rm_s⟩ rfl (fun r1 v1 hv => ?_)
  obtain ⟨hval, hrel⟩ := pr_rightLow hok (kl := kl) (kh := kh) (mn := mn) (vc := vc) (iv := iv) (sc := sc) (fl := fl) (fh := fh) (pt := pt) (nu := nu) (de := de) hz hv
  clear hz hv
  obtain ⟨N2, M2, S2, rl2, rh2, bl2, bh2, kl2, kh2, mn2, vc2, iv2, sc2, fl2, fh2, pt2, nu2, de2, hok2, rfl, rfl⟩ := hrel
  refine z_istore (lv' := [(0, .ref bS), (1, .ref (a 0)), (2, .ref (b 0)), (3, .ref o), (4, .ref od), (5, .int (nI i)), (6, .int k1), (7, .int r1)]) C dL_law_519 (by decide) [1, 2, 3, 4, 5, 6, 7, 0] rfl ?_
  refine z_aload_n C dL_law_521 2 rfl ?_
  refine z_callVi_l (As := []) (wc := w1 K b (N2, M2, S2, rl2, rh2, bl2, bh2, k1, fl2, fh2, pt2, nu2, de2)) (Y := wv K a o od ((N2, M2, S2, rl2, rh2, bl2, bh2, kl2, kh2, mn2, vc2, iv2, sc2), g1, gd1)) C (c1_thrown l D K b N2 M2 S2 rl2 rh2 bl2 bh2 k1 fl2 fh2 pt2 nu2 de2) (cwV 0 C.1.2.2.2.2 gL_law_X1_thrown rfl rfl rfl (by decide +kernel) ⟨Nat.le_of_ble_eq_true rfl, Nat.le_of_ble_eq_true rfl⟩) (ci := 3) rfl rfl 0 rfl dL_law_522 rfl rfl (Nat.le_of_ble_eq_true rfl) ⟨Nat.le_trans (by omega) rm_c, Nat.le_trans (by omega) rm_s⟩ rfl (fun r3 v3 h3 => ?_)
  obtain ⟨h3, rfl⟩ := h3
  refine z_topi k1 h3 ?_
  refine z_iload C dL_law_525 6 rfl ?_
  refine z_icmp_eq (tgt := 532) C dL_law_527 (by decide) (fun _ => ?_) (fun q => absurd rfl q)
  refine z_iload C dL_law_532 6 rfl ?_
  refine z_if_ne (tgt := 549) C dL_law_534 (by decide) (fun ck => ?_) (fun ck => ?_)
  · refine z_goto (tgt := 1948) C dL_law_549 (by decide) ?_
    refine z_lv (lv' := [(0, .ref bS), (1, .ref (a 0)), (2, .ref (b 0)), (3, .ref o), (4, .ref od), (5, .int (nI i))]) [0, 1, 2, 3, 4, 5] rfl ?_
    exact z_widen (by omega) (by omega) (hk _ _ _ _ _ (RelT_mk hok2))
  · refine z_aload_n C dL_law_537 3 rfl ?_
    refine z_iconst (v := 0) C dL_law_538 (by decide) ?_
    refine z_lald C 1 rfl 37 rfl dL_law_539 0 rfl (by decide) (by decide) ?_
    refine z_iload C dL_law_540 7 rfl ?_
    refine z_i2l C dL_law_542 ?_
    refine z_lcmp_eq (tgt := 549) C dL_law_543 dL_law_544 (by decide) (fun _ => ?_) (fun q => absurd (hval ck) q)
    refine z_goto (tgt := 1948) C dL_law_549 (by decide) ?_
    refine z_lv (lv' := [(0, .ref bS), (1, .ref (a 0)), (2, .ref (b 0)), (3, .ref o), (4, .ref od), (5, .int (nI i))]) [0, 1, 2, 3, 4, 5] rfl ?_
    exact z_widen (by omega) (by omega) (hk _ _ _ _ _ (RelT_mk hok2))
set_option maxRecDepth 20000 in
set_option maxHeartbeats 1000000 in
theorem lc_6 (C : zC p s m args c code 9 wsL_law RL A s.heap D vwCl (zT K)) (hX : xF A s) (hNc : yNc s) (hst : l.stackTraces = false) (hS : va_X bS L xs s s.heap) (hbl : bS < s.heap.size) (hbA : ¬ A bS) (hi : i + 6 ≤ L) (hL : L ≤ 3072)
    (hk : ∀ (u : S0) (v : S1) (g : Nat → Int64) (gd : Nat → UInt64) (k : Int32), RelT k u v → zW p l e room_1 s m args below meth c Q 9 A s.heap D vwCl (100 + (i + 6)) (600 + 2 * (i + 6)) (w1 K b v ++ wv K a o od (u, g, gd)) 1948 [(0, .ref bS), (1, .ref (a 0)), (2, .ref (b 0)), (3, .ref o), (4, .ref od), (5, .int (nI i))] []) {u : S0} {v : S1} {g : Nat → Int64} {gd : Nat → UInt64} {k0 : Int32} (hr : RelT k0 u v) : zW p l e room_1 s m args below meth c Q 9 A s.heap D vwCl (100 + i) (600 + 2 * i) (w1 K b v ++ wv K a o od (u, g, gd)) 552 [(0, .ref bS), (1, .ref (a 0)), (2, .ref (b 0)), (3, .ref o), (4, .ref od), (5, .int (nI i))] [] := by
  obtain ⟨N, M, S, rl, rh, bl, bh, kl, kh, mn, vc, iv, sc, fl, fh, pt, nu, de, hok, rfl, rfl⟩ := hr
  have hN := hok.2.1
  refine z_aload_n C dL_law_552 1 rfl ?_
  refine z_aload_n C dL_law_553 0 rfl ?_
  refine z_iload C dL_law_554 5 rfl ?_
  refine z_iconst (v := 1) C dL_law_556 (by decide) ?_
  refine z_iadd C dL_law_557 ?_
  refine z_sld C hS hbl hbA dL_law_558 (i + 1) (nI_add i 1) (by omega) (by omega) ?_
  refine z_aload_n C dL_law_559 3 rfl ?_
  refine y_callS (X := w1 K b (N, M, S, rl, rh, bl, bh, k0, fl, fh, pt, nu, de)) (As := [.ref (a 0), .int (xs (i + 1)), .ref o]) C hX hNc (wL_rightHigh l D K a N M S rl rh bl bh kl kh mn vc iv sc o od g gd (xs (i + 1)) hst hN) (vx_cwSW 3 C.1.2.2.2.2 gL_law_L_rightHigh rfl rfl rfl (by decide +kernel) ⟨Nat.le_of_ble_eq_true rfl, Nat.le_of_ble_eq_true rfl⟩) dL_law_560 rfl rfl (Nat.le_of_ble_eq_true rfl) ⟨Nat.le_trans (by omega) rm_c, Nat.le_trans (by omega) rm_s⟩ rfl (fun k1 z1 hz => ?_)
  obtain ⟨u1, g1, gd1⟩ := z1
  refine z_istore (lv' := [(0, .ref bS), (1, .ref (a 0)), (2, .ref (b 0)), (3, .ref o), (4, .ref od), (5, .int (nI i)), (6, .int k1)]) C dL_law_563 (by decide) [1, 2, 3, 4, 5, 6, 0] rfl ?_
  refine z_aload_n C dL_law_565 2 rfl ?_
  refine z_aload_n C dL_law_566 0 rfl ?_
  refine z_iload C dL_law_567 5 rfl ?_
  refine z_iconst (v := 1) C dL_law_569 (by decide) ?_
  refine z_iadd C dL_law_570 ?_
  refine z_sld C hS hbl hbA dL_law_571 (i + 1) (nI_add i 1) (by omega) (by omega) ?_
  refine z_callVi_l (As := [.int (xs (i + 1))]) (wc := w1 K b (N, M, S, rl, rh, bl, bh, k0, fl, fh, pt, nu, de)) (Y := wv K a o od (u1, g1, gd1)) C (c1_rightHigh l D K b N M S rl rh bl bh k0 fl fh pt nu de (xs (i + 1)) hN) (cwV 1 C.1.2.2.2.2 gL_law_X1_rightHigh rfl rfl rfl (by decide +kernel) ⟨Nat.le_of_ble_eq_true rfl, Nat.le_of_ble_eq_true rfl⟩) (ci := 3) rfl rfl 0 rfl dL_law_572 rfl rfl (Nat.le_of_ble_eq_true rfl) ⟨Nat.le_trans (by omega) rm_c, Nat.le_trans (by omega) rm_s⟩ rfl (fun r1 v1 hv => ?_)
  obtain ⟨hval, hrel⟩ := pr_rightHigh hok (kl := kl) (kh := kh) (mn := mn) (vc := vc) (iv := iv) (sc := sc) (fl := fl) (fh := fh) (pt := pt) (nu := nu) (de := de) hz hv
  clear hz hv
  obtain ⟨N2, M2, S2, rl2, rh2, bl2, bh2, kl2, kh2, mn2, vc2, iv2, sc2, fl2, fh2, pt2, nu2, de2, hok2, rfl, rfl⟩ := hrel
  refine z_istore (lv' := [(0, .ref bS), (1, .ref (a 0)), (2, .ref (b 0)), (3, .ref o), (4, .ref od), (5, .int (nI i)), (6, .int k1), (7, .int r1)]) C dL_law_575 (by decide) [1, 2, 3, 4, 5, 6, 7, 0] rfl ?_
  refine z_aload_n C dL_law_577 2 rfl ?_
  refine z_callVi_l (As := []) (wc := w1 K b (N2, M2, S2, rl2, rh2, bl2, bh2, k1, fl2, fh2, pt2, nu2, de2)) (Y := wv K a o od ((N2, M2, S2, rl2, rh2, bl2, bh2, kl2, kh2, mn2, vc2, iv2, sc2), g1, gd1)) C (c1_thrown l D K b N2 M2 S2 rl2 rh2 bl2 bh2 k1 fl2 fh2 pt2 nu2 de2) (cwV 0 C.1.2.2.2.2 gL_law_X1_thrown rfl rfl rfl (by decide +kernel) ⟨Nat.le_of_ble_eq_true rfl, Nat.le_of_ble_eq_true rfl⟩) (ci := 3) rfl rfl 0 rfl dL_law_578 rfl rfl (Nat.le_of_ble_eq_true rfl) ⟨Nat.le_trans (by omega) rm_c, Nat.le_trans (by omega) rm_s⟩ rfl (fun r3 v3 h3 => ?_)
  obtain ⟨h3, rfl⟩ := h3
  refine z_topi k1 h3 ?_
  refine z_iload C dL_law_581 6 rfl ?_
  refine z_icmp_eq (tgt := 588) C dL_law_583 (by decide) (fun _ => ?_) (fun q => absurd rfl q)
  refine z_iload C dL_law_588 6 rfl ?_
  refine z_if_ne (tgt := 605) C dL_law_590 (by decide) (fun ck => ?_) (fun ck => ?_)
  · refine z_goto (tgt := 1948) C dL_law_605 (by decide) ?_
    refine z_lv (lv' := [(0, .ref bS), (1, .ref (a 0)), (2, .ref (b 0)), (3, .ref o), (4, .ref od), (5, .int (nI i))]) [0, 1, 2, 3, 4, 5] rfl ?_
    exact z_widen (by omega) (by omega) (hk _ _ _ _ _ (RelT_mk hok2))
  · refine z_aload_n C dL_law_593 3 rfl ?_
    refine z_iconst (v := 0) C dL_law_594 (by decide) ?_
    refine z_lald C 1 rfl 37 rfl dL_law_595 0 rfl (by decide) (by decide) ?_
    refine z_iload C dL_law_596 7 rfl ?_
    refine z_i2l C dL_law_598 ?_
    refine z_lcmp_eq (tgt := 605) C dL_law_599 dL_law_600 (by decide) (fun _ => ?_) (fun q => absurd (hval ck) q)
    refine z_goto (tgt := 1948) C dL_law_605 (by decide) ?_
    refine z_lv (lv' := [(0, .ref bS), (1, .ref (a 0)), (2, .ref (b 0)), (3, .ref o), (4, .ref od), (5, .int (nI i))]) [0, 1, 2, 3, 4, 5] rfl ?_
    exact z_widen (by omega) (by omega) (hk _ _ _ _ _ (RelT_mk hok2))
set_option maxRecDepth 20000 in
set_option maxHeartbeats 1000000 in
theorem lc_7 (C : zC p s m args c code 9 wsL_law RL A s.heap D vwCl (zT K)) (hX : xF A s) (hNc : yNc s) (hst : l.stackTraces = false) (hS : va_X bS L xs s s.heap) (hbl : bS < s.heap.size) (hbA : ¬ A bS) (hi : i + 6 ≤ L) (hL : L ≤ 3072)
    (hk : ∀ (u : S0) (v : S1) (g : Nat → Int64) (gd : Nat → UInt64) (k : Int32), RelT k u v → zW p l e room_1 s m args below meth c Q 9 A s.heap D vwCl (100 + (i + 6)) (600 + 2 * (i + 6)) (w1 K b v ++ wv K a o od (u, g, gd)) 1948 [(0, .ref bS), (1, .ref (a 0)), (2, .ref (b 0)), (3, .ref o), (4, .ref od), (5, .int (nI i))] []) {u : S0} {v : S1} {g : Nat → Int64} {gd : Nat → UInt64} {k0 : Int32} (hr : RelT k0 u v) : zW p l e room_1 s m args below meth c Q 9 A s.heap D vwCl (100 + i) (600 + 2 * i) (w1 K b v ++ wv K a o od (u, g, gd)) 608 [(0, .ref bS), (1, .ref (a 0)), (2, .ref (b 0)), (3, .ref o), (4, .ref od), (5, .int (nI i))] [] := by
  obtain ⟨N, M, S, rl, rh, bl, bh, kl, kh, mn, vc, iv, sc, fl, fh, pt, nu, de, hok, rfl, rfl⟩ := hr
  have hN := hok.2.1
  refine z_aload_n C dL_law_608 1 rfl ?_
  refine z_aload_n C dL_law_609 0 rfl ?_
  refine z_iload C dL_law_610 5 rfl ?_
  refine z_iconst (v := 1) C dL_law_612 (by decide) ?_
  refine z_iadd C dL_law_613 ?_
  refine z_sld C hS hbl hbA dL_law_614 (i + 1) (nI_add i 1) (by omega) (by omega) ?_
  refine z_aload_n C dL_law_615 0 rfl ?_
  refine z_iload C dL_law_616 5 rfl ?_
  refine z_iconst (v := 2) C dL_law_618 (by decide) ?_
  refine z_iadd C dL_law_619 ?_
  refine z_sld C hS hbl hbA dL_law_620 (i + 2) (nI_add i 2) (by omega) (by omega) ?_
  refine z_aload_n C dL_law_621 0 rfl ?_
  refine z_iload C dL_law_622 5 rfl ?_
  refine z_iconst (v := 3) C dL_law_624 (by decide) ?_
  refine z_iadd C dL_law_625 ?_
  refine z_sld C hS hbl hbA dL_law_626 (i + 3) (nI_add i 3) (by omega) (by omega) ?_
  refine z_aload_n C dL_law_627 3 rfl ?_
  refine y_callS (X := w1 K b (N, M, S, rl, rh, bl, bh, k0, fl, fh, pt, nu, de)) (As := [.ref (a 0), .int (xs (i + 1)), .int (xs (i + 2)), .int (xs (i + 3)), .ref o]) C hX hNc (wL_setSpread l D K a N M S rl rh bl bh kl kh mn vc iv sc o od g gd (xs (i + 1)) (xs (i + 2)) (xs (i + 3)) hst hN) (vx_cwSW 5 C.1.2.2.2.2 gL_law_L_setSpread rfl rfl rfl (by decide +kernel) ⟨Nat.le_of_ble_eq_true rfl, Nat.le_of_ble_eq_true rfl⟩) dL_law_628 rfl rfl (Nat.le_of_ble_eq_true rfl) ⟨Nat.le_trans (by omega) rm_c, Nat.le_trans (by omega) rm_s⟩ rfl (fun k1 z1 hz => ?_)
  obtain ⟨u1, g1, gd1⟩ := z1
  refine z_istore (lv' := [(0, .ref bS), (1, .ref (a 0)), (2, .ref (b 0)), (3, .ref o), (4, .ref od), (5, .int (nI i)), (6, .int k1)]) C dL_law_631 (by decide) [1, 2, 3, 4, 5, 6, 0] rfl ?_
  refine z_aload_n C dL_law_633 2 rfl ?_
  refine z_aload_n C dL_law_634 0 rfl ?_
  refine z_iload C dL_law_635 5 rfl ?_
  refine z_iconst (v := 1) C dL_law_637 (by decide) ?_
  refine z_iadd C dL_law_638 ?_
  refine z_sld C hS hbl hbA dL_law_639 (i + 1) (nI_add i 1) (by omega) (by omega) ?_
  refine z_aload_n C dL_law_640 0 rfl ?_
  refine z_iload C dL_law_641 5 rfl ?_
  refine z_iconst (v := 2) C dL_law_643 (by decide) ?_
  refine z_iadd C dL_law_644 ?_
  refine z_sld C hS hbl hbA dL_law_645 (i + 2) (nI_add i 2) (by omega) (by omega) ?_
  refine z_aload_n C dL_law_646 0 rfl ?_
  refine z_iload C dL_law_647 5 rfl ?_
  refine z_iconst (v := 3) C dL_law_649 (by decide) ?_
  refine z_iadd C dL_law_650 ?_
  refine z_sld C hS hbl hbA dL_law_651 (i + 3) (nI_add i 3) (by omega) (by omega) ?_
  refine z_callVi_l (As := [.int (xs (i + 1)), .int (xs (i + 2)), .int (xs (i + 3))]) (wc := w1 K b (N, M, S, rl, rh, bl, bh, k0, fl, fh, pt, nu, de)) (Y := wv K a o od (u1, g1, gd1)) C (c1_setSpread l D K b N M S rl rh bl bh k0 fl fh pt nu de (xs (i + 1)) (xs (i + 2)) (xs (i + 3)) hN) (cwV 3 C.1.2.2.2.2 gL_law_X1_setSpread rfl rfl rfl (by decide +kernel) ⟨Nat.le_of_ble_eq_true rfl, Nat.le_of_ble_eq_true rfl⟩) (ci := 3) rfl rfl 0 rfl dL_law_652 rfl rfl (Nat.le_of_ble_eq_true rfl) ⟨Nat.le_trans (by omega) rm_c, Nat.le_trans (by omega) rm_s⟩ rfl (fun r1 v1 hv => ?_)
  obtain ⟨hval, hrel⟩ := pr_setSpread hok (kl := kl) (kh := kh) (mn := mn) (vc := vc) (iv := iv) (sc := sc) (fl := fl) (fh := fh) (pt := pt) (nu := nu) (de := de) hz hv
  clear hz hv
  obtain ⟨N2, M2, S2, rl2, rh2, bl2, bh2, kl2, kh2, mn2, vc2, iv2, sc2, fl2, fh2, pt2, nu2, de2, hok2, rfl, rfl⟩ := hrel
  refine z_istore (lv' := [(0, .ref bS), (1, .ref (a 0)), (2, .ref (b 0)), (3, .ref o), (4, .ref od), (5, .int (nI i)), (6, .int k1), (7, .int r1)]) C dL_law_655 (by decide) [1, 2, 3, 4, 5, 6, 7, 0] rfl ?_
  refine z_aload_n C dL_law_657 2 rfl ?_
  refine z_callVi_l (As := []) (wc := w1 K b (N2, M2, S2, rl2, rh2, bl2, bh2, k1, fl2, fh2, pt2, nu2, de2)) (Y := wv K a o od ((N2, M2, S2, rl2, rh2, bl2, bh2, kl2, kh2, mn2, vc2, iv2, sc2), g1, gd1)) C (c1_thrown l D K b N2 M2 S2 rl2 rh2 bl2 bh2 k1 fl2 fh2 pt2 nu2 de2) (cwV 0 C.1.2.2.2.2 gL_law_X1_thrown rfl rfl rfl (by decide +kernel) ⟨Nat.le_of_ble_eq_true rfl, Nat.le_of_ble_eq_true rfl⟩) (ci := 3) rfl rfl 0 rfl dL_law_658 rfl rfl (Nat.le_of_ble_eq_true rfl) ⟨Nat.le_trans (by omega) rm_c, Nat.le_trans (by omega) rm_s⟩ rfl (fun r3 v3 h3 => ?_)
  obtain ⟨h3, rfl⟩ := h3
  refine z_topi k1 h3 ?_
  refine z_iload C dL_law_661 6 rfl ?_
  refine z_icmp_eq (tgt := 668) C dL_law_663 (by decide) (fun _ => ?_) (fun q => absurd rfl q)
  refine z_iload C dL_law_668 6 rfl ?_
  refine z_if_ne (tgt := 685) C dL_law_670 (by decide) (fun ck => ?_) (fun ck => ?_)
  · refine z_goto (tgt := 1948) C dL_law_685 (by decide) ?_
    refine z_lv (lv' := [(0, .ref bS), (1, .ref (a 0)), (2, .ref (b 0)), (3, .ref o), (4, .ref od), (5, .int (nI i))]) [0, 1, 2, 3, 4, 5] rfl ?_
    exact z_widen (by omega) (by omega) (hk _ _ _ _ _ (RelT_mk hok2))
  · refine z_aload_n C dL_law_673 3 rfl ?_
    refine z_iconst (v := 0) C dL_law_674 (by decide) ?_
    refine z_lald C 1 rfl 37 rfl dL_law_675 0 rfl (by decide) (by decide) ?_
    refine z_iload C dL_law_676 7 rfl ?_
    refine z_i2l C dL_law_678 ?_
    refine z_lcmp_eq (tgt := 685) C dL_law_679 dL_law_680 (by decide) (fun _ => ?_) (fun q => absurd (hval ck) q)
    refine z_goto (tgt := 1948) C dL_law_685 (by decide) ?_
    refine z_lv (lv' := [(0, .ref bS), (1, .ref (a 0)), (2, .ref (b 0)), (3, .ref o), (4, .ref od), (5, .int (nI i))]) [0, 1, 2, 3, 4, 5] rfl ?_
    exact z_widen (by omega) (by omega) (hk _ _ _ _ _ (RelT_mk hok2))
set_option maxRecDepth 20000 in
set_option maxHeartbeats 1000000 in
theorem lc_8 (C : zC p s m args c code 9 wsL_law RL A s.heap D vwCl (zT K)) (hX : xF A s) (hNc : yNc s) (hst : l.stackTraces = false) (hS : va_X bS L xs s s.heap) (hbl : bS < s.heap.size) (hbA : ¬ A bS) (hi : i + 6 ≤ L) (hL : L ≤ 3072)
    (hk : ∀ (u : S0) (v : S1) (g : Nat → Int64) (gd : Nat → UInt64) (k : Int32), RelT k u v → zW p l e room_1 s m args below meth c Q 9 A s.heap D vwCl (100 + (i + 6)) (600 + 2 * (i + 6)) (w1 K b v ++ wv K a o od (u, g, gd)) 1948 [(0, .ref bS), (1, .ref (a 0)), (2, .ref (b 0)), (3, .ref o), (4, .ref od), (5, .int (nI i))] []) {u : S0} {v : S1} {g : Nat → Int64} {gd : Nat → UInt64} {k0 : Int32} (hr : RelT k0 u v) : zW p l e room_1 s m args below meth c Q 9 A s.heap D vwCl (100 + i) (600 + 2 * i) (w1 K b v ++ wv K a o od (u, g, gd)) 688 [(0, .ref bS), (1, .ref (a 0)), (2, .ref (b 0)), (3, .ref o), (4, .ref od), (5, .int (nI i))] [] := by
  obtain ⟨N, M, S, rl, rh, bl, bh, kl, kh, mn, vc, iv, sc, fl, fh, pt, nu, de, hok, rfl, rfl⟩ := hr
  have hN := hok.2.1
  refine z_aload_n C dL_law_688 1 rfl ?_
  refine z_aload_n C dL_law_689 0 rfl ?_
  refine z_iload C dL_law_690 5 rfl ?_
  refine z_iconst (v := 1) C dL_law_692 (by decide) ?_
  refine z_iadd C dL_law_693 ?_
  refine z_sld C hS hbl hbA dL_law_694 (i + 1) (nI_add i 1) (by omega) (by omega) ?_
  refine z_aload_n C dL_law_695 0 rfl ?_
  refine z_iload C dL_law_696 5 rfl ?_
  refine z_iconst (v := 2) C dL_law_698 (by decide) ?_
  refine z_iadd C dL_law_699 ?_
  refine z_sld C hS hbl hbA dL_law_700 (i + 2) (nI_add i 2) (by omega) (by omega) ?_
  refine z_aload_n C dL_law_701 3 rfl ?_
  refine y_callS (X := w1 K b (N, M, S, rl, rh, bl, bh, k0, fl, fh, pt, nu, de)) (As := [.ref (a 0), .int (xs (i + 1)), .int (xs (i + 2)), .ref o]) C hX hNc (wL_swapRows l D K a N M S rl rh bl bh kl kh mn vc iv sc o od g gd (xs (i + 1)) (xs (i + 2)) hst hN) (vx_cwSW 4 C.1.2.2.2.2 gL_law_L_swapRows rfl rfl rfl (by decide +kernel) ⟨Nat.le_of_ble_eq_true rfl, Nat.le_of_ble_eq_true rfl⟩) dL_law_702 rfl rfl (Nat.le_of_ble_eq_true rfl) ⟨Nat.le_trans (by omega) rm_c, Nat.le_trans (by omega) rm_s⟩ rfl (fun k1 z1 hz => ?_)
  obtain ⟨u1, g1, gd1⟩ := z1
  refine z_istore (lv' := [(0, .ref bS), (1, .ref (a 0)), (2, .ref (b 0)), (3, .ref o), (4, .ref od), (5, .int (nI i)), (6, .int k1)]) C dL_law_705 (by decide) [1, 2, 3, 4, 5, 6, 0] rfl ?_
  refine z_aload_n C dL_law_707 2 rfl ?_
  refine z_aload_n C dL_law_708 0 rfl ?_
  refine z_iload C dL_law_709 5 rfl ?_
  refine z_iconst (v := 1) C dL_law_711 (by decide) ?_
  refine z_iadd C dL_law_712 ?_
  refine z_sld C hS hbl hbA dL_law_713 (i + 1) (nI_add i 1) (by omega) (by omega) ?_
  refine z_aload_n C dL_law_714 0 rfl ?_
  refine z_iload C dL_law_715 5 rfl ?_
  refine z_iconst (v := 2) C dL_law_717 (by decide) ?_
  refine z_iadd C dL_law_718 ?_
  refine z_sld C hS hbl hbA dL_law_719 (i + 2) (nI_add i 2) (by omega) (by omega) ?_
  refine z_callVi_l (As := [.int (xs (i + 1)), .int (xs (i + 2))]) (wc := w1 K b (N, M, S, rl, rh, bl, bh, k0, fl, fh, pt, nu, de)) (Y := wv K a o od (u1, g1, gd1)) C (c1_swapRows l D K b N M S rl rh bl bh k0 fl fh pt nu de (xs (i + 1)) (xs (i + 2)) hN) (cwV 2 C.1.2.2.2.2 gL_law_X1_swapRows rfl rfl rfl (by decide +kernel) ⟨Nat.le_of_ble_eq_true rfl, Nat.le_of_ble_eq_true rfl⟩) (ci := 3) rfl rfl 0 rfl dL_law_720 rfl rfl (Nat.le_of_ble_eq_true rfl) ⟨Nat.le_trans (by omega) rm_c, Nat.le_trans (by omega) rm_s⟩ rfl (fun r1 v1 hv => ?_)
  obtain ⟨hval, hrel⟩ := pr_swapRows hok (kl := kl) (kh := kh) (mn := mn) (vc := vc) (iv := iv) (sc := sc) (fl := fl) (fh := fh) (pt := pt) (nu := nu) (de := de) hz hv
  clear hz hv
  obtain ⟨N2, M2, S2, rl2, rh2, bl2, bh2, kl2, kh2, mn2, vc2, iv2, sc2, fl2, fh2, pt2, nu2, de2, hok2, rfl, rfl⟩ := hrel
  refine z_istore (lv' := [(0, .ref bS), (1, .ref (a 0)), (2, .ref (b 0)), (3, .ref o), (4, .ref od), (5, .int (nI i)), (6, .int k1), (7, .int r1)]) C dL_law_723 (by decide) [1, 2, 3, 4, 5, 6, 7, 0] rfl ?_
  refine z_aload_n C dL_law_725 2 rfl ?_
  refine z_callVi_l (As := []) (wc := w1 K b (N2, M2, S2, rl2, rh2, bl2, bh2, k1, fl2, fh2, pt2, nu2, de2)) (Y := wv K a o od ((N2, M2, S2, rl2, rh2, bl2, bh2, kl2, kh2, mn2, vc2, iv2, sc2), g1, gd1)) C (c1_thrown l D K b N2 M2 S2 rl2 rh2 bl2 bh2 k1 fl2 fh2 pt2 nu2 de2) (cwV 0 C.1.2.2.2.2 gL_law_X1_thrown rfl rfl rfl (by decide +kernel) ⟨Nat.le_of_ble_eq_true rfl, Nat.le_of_ble_eq_true rfl⟩) (ci := 3) rfl rfl 0 rfl dL_law_726 rfl rfl (Nat.le_of_ble_eq_true rfl) ⟨Nat.le_trans (by omega) rm_c, Nat.le_trans (by omega) rm_s⟩ rfl (fun r3 v3 h3 => ?_)
  obtain ⟨h3, rfl⟩ := h3
  refine z_topi k1 h3 ?_
  refine z_iload C dL_law_729 6 rfl ?_
  refine z_icmp_eq (tgt := 736) C dL_law_731 (by decide) (fun _ => ?_) (fun q => absurd rfl q)
  refine z_iload C dL_law_736 6 rfl ?_
  refine z_if_ne (tgt := 760) C dL_law_738 (by decide) (fun ck => ?_) (fun ck => ?_)
  · refine z_goto (tgt := 1948) C dL_law_760 (by decide) ?_
    refine z_lv (lv' := [(0, .ref bS), (1, .ref (a 0)), (2, .ref (b 0)), (3, .ref o), (4, .ref od), (5, .int (nI i))]) [0, 1, 2, 3, 4, 5] rfl ?_
    exact z_widen (by omega) (by omega) (hk _ _ _ _ _ (RelT_mk hok2))
  · refine z_aload_n C dL_law_741 3 rfl ?_
    refine z_iconst (v := 0) C dL_law_742 (by decide) ?_
    refine z_lald C 1 rfl 37 rfl dL_law_743 0 rfl (by decide) (by decide) ?_
    refine z_iload C dL_law_744 7 rfl ?_
    refine z_if_eq (tgt := 753) C dL_law_746 (by decide) (fun cb => ?_) (fun cb => ?_)
    · refine z_lconst (v := 0) C dL_law_753 (by decide) ?_
      refine z_lcmp_eq (tgt := 760) C dL_law_754 dL_law_755 (by decide) (fun _ => ?_) (fun q => absurd ((hval ck).trans (yb_t cb).symm) q)
      refine z_goto (tgt := 1948) C dL_law_760 (by decide) ?_
      refine z_lv (lv' := [(0, .ref bS), (1, .ref (a 0)), (2, .ref (b 0)), (3, .ref o), (4, .ref od), (5, .int (nI i))]) [0, 1, 2, 3, 4, 5] rfl ?_
      exact z_widen (by omega) (by omega) (hk _ _ _ _ _ (RelT_mk hok2))
    · refine z_lconst (v := 1) C dL_law_749 (by decide) ?_
      refine z_goto (tgt := 754) C dL_law_750 (by decide) ?_
      refine z_lcmp_eq (tgt := 760) C dL_law_754 dL_law_755 (by decide) (fun _ => ?_) (fun q => absurd ((hval ck).trans (yb_f cb).symm) q)
      refine z_goto (tgt := 1948) C dL_law_760 (by decide) ?_
      refine z_lv (lv' := [(0, .ref bS), (1, .ref (a 0)), (2, .ref (b 0)), (3, .ref o), (4, .ref od), (5, .int (nI i))]) [0, 1, 2, 3, 4, 5] rfl ?_
      exact z_widen (by omega) (by omega) (hk _ _ _ _ _ (RelT_mk hok2))
set_option maxRecDepth 20000 in
set_option maxHeartbeats 1000000 in
theorem lc_9 (C : zC p s m args c code 9 wsL_law RL A s.heap D vwCl (zT K)) (hX : xF A s) (hNc : yNc s) (hst : l.stackTraces = false) (hS : va_X bS L xs s s.heap) (hbl : bS < s.heap.size) (hbA : ¬ A bS) (hi : i + 6 ≤ L) (hL : L ≤ 3072)
    (hk : ∀ (u : S0) (v : S1) (g : Nat → Int64) (gd : Nat → UInt64) (k : Int32), RelT k u v → zW p l e room_1 s m args below meth c Q 9 A s.heap D vwCl (100 + (i + 6)) (600 + 2 * (i + 6)) (w1 K b v ++ wv K a o od (u, g, gd)) 1948 [(0, .ref bS), (1, .ref (a 0)), (2, .ref (b 0)), (3, .ref o), (4, .ref od), (5, .int (nI i))] []) {u : S0} {v : S1} {g : Nat → Int64} {gd : Nat → UInt64} {k0 : Int32} (hr : RelT k0 u v) : zW p l e room_1 s m args below meth c Q 9 A s.heap D vwCl (100 + i) (600 + 2 * i) (w1 K b v ++ wv K a o od (u, g, gd)) 763 [(0, .ref bS), (1, .ref (a 0)), (2, .ref (b 0)), (3, .ref o), (4, .ref od), (5, .int (nI i))] [] := by
  obtain ⟨N, M, S, rl, rh, bl, bh, kl, kh, mn, vc, iv, sc, fl, fh, pt, nu, de, hok, rfl, rfl⟩ := hr
  have hN := hok.2.1
  refine z_aload_n C dL_law_763 1 rfl ?_
  refine z_aload_n C dL_law_764 0 rfl ?_
  refine z_iload C dL_law_765 5 rfl ?_
  refine z_iconst (v := 1) C dL_law_767 (by decide) ?_
  refine z_iadd C dL_law_768 ?_
  refine z_sld C hS hbl hbA dL_law_769 (i + 1) (nI_add i 1) (by omega) (by omega) ?_
  refine z_aload_n C dL_law_770 0 rfl ?_
  refine z_iload C dL_law_771 5 rfl ?_
  refine z_iconst (v := 2) C dL_law_773 (by decide) ?_
  refine z_iadd C dL_law_774 ?_
  refine z_sld C hS hbl hbA dL_law_775 (i + 2) (nI_add i 2) (by omega) (by omega) ?_
  refine z_aload_n C dL_law_776 0 rfl ?_
  refine z_iload C dL_law_777 5 rfl ?_
  refine z_iconst (v := 3) C dL_law_779 (by decide) ?_
  refine z_iadd C dL_law_780 ?_
  refine z_sld C hS hbl hbA dL_law_781 (i + 3) (nI_add i 3) (by omega) (by omega) ?_
  refine z_aload_n C dL_law_782 3 rfl ?_
  refine y_callS (X := w1 K b (N, M, S, rl, rh, bl, bh, k0, fl, fh, pt, nu, de)) (As := [.ref (a 0), .int (xs (i + 1)), .int (xs (i + 2)), .int (xs (i + 3)), .ref o]) C hX hNc (wL_addRow l D K a N M S rl rh bl bh kl kh mn vc iv sc o od g gd (xs (i + 1)) (xs (i + 2)) (xs (i + 3)) hst hN) (vx_cwSW 5 C.1.2.2.2.2 gL_law_L_addRow rfl rfl rfl (by decide +kernel) ⟨Nat.le_of_ble_eq_true rfl, Nat.le_of_ble_eq_true rfl⟩) dL_law_783 rfl rfl (Nat.le_of_ble_eq_true rfl) ⟨Nat.le_trans (by omega) rm_c, Nat.le_trans (by omega) rm_s⟩ rfl (fun k1 z1 hz => ?_)
  obtain ⟨u1, g1, gd1⟩ := z1
  refine z_istore (lv' := [(0, .ref bS), (1, .ref (a 0)), (2, .ref (b 0)), (3, .ref o), (4, .ref od), (5, .int (nI i)), (6, .int k1)]) C dL_law_786 (by decide) [1, 2, 3, 4, 5, 6, 0] rfl ?_
  refine z_aload_n C dL_law_788 2 rfl ?_
  refine z_aload_n C dL_law_789 0 rfl ?_
  refine z_iload C dL_law_790 5 rfl ?_
  refine z_iconst (v := 1) C dL_law_792 (by decide) ?_
  refine z_iadd C dL_law_793 ?_
  refine z_sld C hS hbl hbA dL_law_794 (i + 1) (nI_add i 1) (by omega) (by omega) ?_
  refine z_aload_n C dL_law_795 0 rfl ?_
  refine z_iload C dL_law_796 5 rfl ?_
  refine z_iconst (v := 2) C dL_law_798 (by decide) ?_
  refine z_iadd C dL_law_799 ?_
  refine z_sld C hS hbl hbA dL_law_800 (i + 2) (nI_add i 2) (by omega) (by omega) ?_
  refine z_aload_n C dL_law_801 0 rfl ?_
  refine z_iload C dL_law_802 5 rfl ?_
  refine z_iconst (v := 3) C dL_law_804 (by decide) ?_
  refine z_iadd C dL_law_805 ?_
  refine z_sld C hS hbl hbA dL_law_806 (i + 3) (nI_add i 3) (by omega) (by omega) ?_
  refine z_callVi_l (As := [.int (xs (i + 1)), .int (xs (i + 2)), .int (xs (i + 3))]) (wc := w1 K b (N, M, S, rl, rh, bl, bh, k0, fl, fh, pt, nu, de)) (Y := wv K a o od (u1, g1, gd1)) C (c1_addRow l D K b N M S rl rh bl bh k0 fl fh pt nu de (xs (i + 1)) (xs (i + 2)) (xs (i + 3)) hN) (cwV 3 C.1.2.2.2.2 gL_law_X1_addRow rfl rfl rfl (by decide +kernel) ⟨Nat.le_of_ble_eq_true rfl, Nat.le_of_ble_eq_true rfl⟩) (ci := 3) rfl rfl 0 rfl dL_law_807 rfl rfl (Nat.le_of_ble_eq_true rfl) ⟨Nat.le_trans (by omega) rm_c, Nat.le_trans (by omega) rm_s⟩ rfl (fun r1 v1 hv => ?_)
  obtain ⟨hval, hrel⟩ := pr_addRow hok (kl := kl) (kh := kh) (mn := mn) (vc := vc) (iv := iv) (sc := sc) (fl := fl) (fh := fh) (pt := pt) (nu := nu) (de := de) hz hv
  clear hz hv
  obtain ⟨N2, M2, S2, rl2, rh2, bl2, bh2, kl2, kh2, mn2, vc2, iv2, sc2, fl2, fh2, pt2, nu2, de2, hok2, rfl, rfl⟩ := hrel
  refine z_istore (lv' := [(0, .ref bS), (1, .ref (a 0)), (2, .ref (b 0)), (3, .ref o), (4, .ref od), (5, .int (nI i)), (6, .int k1), (7, .int r1)]) C dL_law_810 (by decide) [1, 2, 3, 4, 5, 6, 7, 0] rfl ?_
  refine z_aload_n C dL_law_812 2 rfl ?_
  refine z_callVi_l (As := []) (wc := w1 K b (N2, M2, S2, rl2, rh2, bl2, bh2, k1, fl2, fh2, pt2, nu2, de2)) (Y := wv K a o od ((N2, M2, S2, rl2, rh2, bl2, bh2, kl2, kh2, mn2, vc2, iv2, sc2), g1, gd1)) C (c1_thrown l D K b N2 M2 S2 rl2 rh2 bl2 bh2 k1 fl2 fh2 pt2 nu2 de2) (cwV 0 C.1.2.2.2.2 gL_law_X1_thrown rfl rfl rfl (by decide +kernel) ⟨Nat.le_of_ble_eq_true rfl, Nat.le_of_ble_eq_true rfl⟩) (ci := 3) rfl rfl 0 rfl dL_law_813 rfl rfl (Nat.le_of_ble_eq_true rfl) ⟨Nat.le_trans (by omega) rm_c, Nat.le_trans (by omega) rm_s⟩ rfl (fun r3 v3 h3 => ?_)
  obtain ⟨h3, rfl⟩ := h3
  refine z_topi k1 h3 ?_
  refine z_iload C dL_law_816 6 rfl ?_
  refine z_icmp_eq (tgt := 823) C dL_law_818 (by decide) (fun _ => ?_) (fun q => absurd rfl q)
  refine z_iload C dL_law_823 6 rfl ?_
  refine z_if_ne (tgt := 840) C dL_law_825 (by decide) (fun ck => ?_) (fun ck => ?_)
  · refine z_goto (tgt := 1948) C dL_law_840 (by decide) ?_
    refine z_lv (lv' := [(0, .ref bS), (1, .ref (a 0)), (2, .ref (b 0)), (3, .ref o), (4, .ref od), (5, .int (nI i))]) [0, 1, 2, 3, 4, 5] rfl ?_
    exact z_widen (by omega) (by omega) (hk _ _ _ _ _ (RelT_mk hok2))
  · refine z_aload_n C dL_law_828 3 rfl ?_
    refine z_iconst (v := 0) C dL_law_829 (by decide) ?_
    refine z_lald C 1 rfl 37 rfl dL_law_830 0 rfl (by decide) (by decide) ?_
    refine z_iload C dL_law_831 7 rfl ?_
    refine z_i2l C dL_law_833 ?_
    refine z_lcmp_eq (tgt := 840) C dL_law_834 dL_law_835 (by decide) (fun _ => ?_) (fun q => absurd (hval ck) q)
    refine z_goto (tgt := 1948) C dL_law_840 (by decide) ?_
    refine z_lv (lv' := [(0, .ref bS), (1, .ref (a 0)), (2, .ref (b 0)), (3, .ref o), (4, .ref od), (5, .int (nI i))]) [0, 1, 2, 3, 4, 5] rfl ?_
    exact z_widen (by omega) (by omega) (hk _ _ _ _ _ (RelT_mk hok2))
set_option maxRecDepth 20000 in
set_option maxHeartbeats 1000000 in
theorem lc_10 (C : zC p s m args c code 9 wsL_law RL A s.heap D vwCl (zT K)) (hX : xF A s) (hNc : yNc s) (hst : l.stackTraces = false) (hS : va_X bS L xs s s.heap) (hbl : bS < s.heap.size) (hbA : ¬ A bS) (hi : i + 6 ≤ L) (hL : L ≤ 3072)
    (hk : ∀ (u : S0) (v : S1) (g : Nat → Int64) (gd : Nat → UInt64) (k : Int32), RelT k u v → zW p l e room_1 s m args below meth c Q 9 A s.heap D vwCl (100 + (i + 6)) (600 + 2 * (i + 6)) (w1 K b v ++ wv K a o od (u, g, gd)) 1948 [(0, .ref bS), (1, .ref (a 0)), (2, .ref (b 0)), (3, .ref o), (4, .ref od), (5, .int (nI i))] []) {u : S0} {v : S1} {g : Nat → Int64} {gd : Nat → UInt64} {k0 : Int32} (hr : RelT k0 u v) : zW p l e room_1 s m args below meth c Q 9 A s.heap D vwCl (100 + i) (600 + 2 * i) (w1 K b v ++ wv K a o od (u, g, gd)) 843 [(0, .ref bS), (1, .ref (a 0)), (2, .ref (b 0)), (3, .ref o), (4, .ref od), (5, .int (nI i))] [] := by
  obtain ⟨N, M, S, rl, rh, bl, bh, kl, kh, mn, vc, iv, sc, fl, fh, pt, nu, de, hok, rfl, rfl⟩ := hr
  have hN := hok.2.1
  refine z_aload_n C dL_law_843 1 rfl ?_
  refine z_callVl (X := w1 K b (N, M, S, rl, rh, bl, bh, k0, fl, fh, pt, nu, de)) (wc := w0 K a (N, M, S, rl, rh, bl, bh, kl, kh, mn, vc, iv, sc)) (Y := [(o, .inl (K 1, 1, .inr (.inl g))), (od, .inl (K 4, 1, .inr (.inr (.inr (.inl gd)))))]) (As := []) C (c0_determinant l D K a N M S rl rh bl bh kl kh mn vc iv sc  hN) (cwV 0 C.1.2.2.2.2 gL_law_X0_determinant rfl rfl rfl (by decide +kernel) ⟨Nat.le_of_ble_eq_true rfl, Nat.le_of_ble_eq_true rfl⟩) (ci := 2) rfl rfl 0 rfl dL_law_844 rfl rfl (Nat.le_of_ble_eq_true rfl) ⟨Nat.le_trans (by omega) rm_c, Nat.le_trans (by omega) rm_s⟩ rfl (fun r0 u1 h0 => ?_)
  refine z_aload_n C dL_law_847 2 rfl ?_
  refine z_callVl_l (As := []) (wc := w1 K b (N, M, S, rl, rh, bl, bh, k0, fl, fh, pt, nu, de)) (Y := w0 K a u1 ++ [(o, .inl (K 1, 1, .inr (.inl g))), (od, .inl (K 4, 1, .inr (.inr (.inr (.inl gd)))))]) C (c1_determinant l D K b N M S rl rh bl bh k0 fl fh pt nu de  hN) (cwV 0 C.1.2.2.2.2 gL_law_X1_determinant rfl rfl rfl (by decide +kernel) ⟨Nat.le_of_ble_eq_true rfl, Nat.le_of_ble_eq_true rfl⟩) (ci := 3) rfl rfl 0 rfl dL_law_848 rfl rfl (Nat.le_of_ble_eq_true rfl) ⟨Nat.le_trans (by omega) rm_c, Nat.le_trans (by omega) rm_s⟩ rfl (fun r1 v1 hv => ?_)
  obtain ⟨hval, hrel⟩ := ps_determinant hok (kl := kl) (kh := kh) (mn := mn) (vc := vc) (iv := iv) (sc := sc) (fl := fl) (fh := fh) (pt := pt) (nu := nu) (de := de) h0 hv
  clear h0 hv
  obtain ⟨N2, M2, S2, rl2, rh2, bl2, bh2, kl2, kh2, mn2, vc2, iv2, sc2, fl2, fh2, pt2, nu2, de2, hok2, rfl, rfl⟩ := hrel
  refine z_lcmp_eq (tgt := 1948) C dL_law_851 dL_law_852 (by decide) (fun _ => ?_) (fun q => absurd hval q)
  exact z_widen (by omega) (by omega) (hk _ _ _ _ _ (RelT_mk hok2))
end LCASE
