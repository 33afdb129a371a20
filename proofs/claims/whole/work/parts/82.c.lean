section LCASE
variable {p : Program} {l : Launch} {e : Env} {s : State} {m : MethodId} {args : Array Value} {below : List Frame} {meth : Method} {c : Code} {Q : State → Prop} {A : Nat → Prop} {D : va_G} {K : Nat → ClassId} {a b : Nat → Nat} {o od bS L i : Nat} {xs : Nat → Int32}
set_option maxRecDepth 20000 in
set_option maxHeartbeats 1000000 in
theorem lc_22 (C : zC p s m args c code 9 wsL_law RL A s.heap D vwCl (zT K)) (hX : xF A s) (hNc : yNc s) (hst : l.stackTraces = false) (hS : va_X bS L xs s s.heap) (hbl : bS < s.heap.size) (hbA : ¬ A bS) (hi : i + 6 ≤ L) (hL : L ≤ 3072)
    (hk : ∀ (u : S0) (v : S1) (g : Nat → Int64) (gd : Nat → UInt64) (k : Int32), RelT k u v → zW p l e room_1 s m args below meth c Q 9 A s.heap D vwCl (100 + (i + 6)) (600 + 2 * (i + 6)) (w1 K b v ++ wv K a o od (u, g, gd)) 1948 [(0, .ref bS), (1, .ref (a 0)), (2, .ref (b 0)), (3, .ref o), (4, .ref od), (5, .int (nI i))] []) {u : S0} {v : S1} {g : Nat → Int64} {gd : Nat → UInt64} {k0 : Int32} (hr : RelT k0 u v) : zW p l e room_1 s m args below meth c Q 9 A s.heap D vwCl (100 + i) (600 + 2 * i) (w1 K b v ++ wv K a o od (u, g, gd)) 1448 [(0, .ref bS), (1, .ref (a 0)), (2, .ref (b 0)), (3, .ref o), (4, .ref od), (5, .int (nI i))] [] := by
  obtain ⟨N, M, S, rl, rh, bl, bh, kl, kh, mn, vc, iv, sc, fl, fh, pt, nu, de, hok, rfl, rfl⟩ := hr
  have hN := hok.2.1
  refine z_aload_n C dL_law_1448 1 rfl ?_
  refine z_callVi (X := w1 K b (N, M, S, rl, rh, bl, bh, k0, fl, fh, pt, nu, de)) (wc := w0 K a (N, M, S, rl, rh, bl, bh, kl, kh, mn, vc, iv, sc)) (Y := [(o, .inl (K 1, 1, .inr (.inl g))), (od, .inl (K 4, 1, .inr (.inr (.inr (.inl gd)))))]) (As := []) C (c0_isDominant l D K a N M S rl rh bl bh kl kh mn vc iv sc  hN) (cwV 0 C.1.2.2.2.2 gL_law_X0_isDominant rfl rfl rfl (by decide +kernel) ⟨Nat.le_of_ble_eq_true rfl, Nat.le_of_ble_eq_true rfl⟩) (ci := 2) rfl rfl 0 rfl dL_law_1449 rfl rfl (Nat.le_of_ble_eq_true rfl) ⟨Nat.le_trans (by omega) rm_c, Nat.le_trans (by omega) rm_s⟩ rfl (fun r0 u1 h0 => ?_)
  refine z_aload_n C dL_law_1452 2 rfl ?_
  refine z_callVi_l (As := []) (wc := w1 K b (N, M, S, rl, rh, bl, bh, k0, fl, fh, pt, nu, de)) (Y := w0 K a u1 ++ [(o, .inl (K 1, 1, .inr (.inl g))), (od, .inl (K 4, 1, .inr (.inr (.inr (.inl gd)))))]) C (c1_isDominant l D K b N M S rl rh bl bh k0 fl fh pt nu de  hN) (cwV 0 C.1.2.2.2.2 gL_law_X1_isDominant rfl rfl rfl (by decide +kernel) ⟨Nat.le_of_ble_eq_true rfl, Nat.le_of_ble_eq_true rfl⟩) (ci := 3) rfl rfl 0 rfl dL_law_1453 rfl rfl (Nat.le_of_ble_eq_true rfl) ⟨Nat.le_trans (by omega) rm_c, Nat.le_trans (by omega) rm_s⟩ rfl (fun r1 v1 hv => ?_)
  obtain ⟨hval, hrel⟩ := ps_isDominant hok (kl := kl) (kh := kh) (mn := mn) (vc := vc) (iv := iv) (sc := sc) (fl := fl) (fh := fh) (pt := pt) (nu := nu) (de := de) h0 hv
  clear h0 hv
  obtain ⟨N2, M2, S2, rl2, rh2, bl2, bh2, kl2, kh2, mn2, vc2, iv2, sc2, fl2, fh2, pt2, nu2, de2, hok2, rfl, rfl⟩ := hrel
  refine z_icmp_eq (tgt := 1948) C dL_law_1456 (by decide) (fun _ => ?_) (fun q => absurd hval q)
  exact z_widen (by omega) (by omega) (hk _ _ _ _ _ (RelT_mk hok2))
set_option maxRecDepth 20000 in
set_option maxHeartbeats 1000000 in
theorem lc_23 (C : zC p s m args c code 9 wsL_law RL A s.heap D vwCl (zT K)) (hX : xF A s) (hNc : yNc s) (hst : l.stackTraces = false) (hS : va_X bS L xs s s.heap) (hbl : bS < s.heap.size) (hbA : ¬ A bS) (hi : i + 6 ≤ L) (hL : L ≤ 3072)
    (hk : ∀ (u : S0) (v : S1) (g : Nat → Int64) (gd : Nat → UInt64) (k : Int32), RelT k u v → zW p l e room_1 s m args below meth c Q 9 A s.heap D vwCl (100 + (i + 6)) (600 + 2 * (i + 6)) (w1 K b v ++ wv K a o od (u, g, gd)) 1948 [(0, .ref bS), (1, .ref (a 0)), (2, .ref (b 0)), (3, .ref o), (4, .ref od), (5, .int (nI i))] []) {u : S0} {v : S1} {g : Nat → Int64} {gd : Nat → UInt64} {k0 : Int32} (hr : RelT k0 u v) : zW p l e room_1 s m args below meth c Q 9 A s.heap D vwCl (100 + i) (600 + 2 * i) (w1 K b v ++ wv K a o od (u, g, gd)) 1461 [(0, .ref bS), (1, .ref (a 0)), (2, .ref (b 0)), (3, .ref o), (4, .ref od), (5, .int (nI i))] [] := by
  obtain ⟨N, M, S, rl, rh, bl, bh, kl, kh, mn, vc, iv, sc, fl, fh, pt, nu, de, hok, rfl, rfl⟩ := hr
  have hN := hok.2.1
  refine z_aload_n C dL_law_1461 1 rfl ?_
  refine z_aload_n C dL_law_1462 0 rfl ?_
  refine z_iload C dL_law_1463 5 rfl ?_
  refine z_iconst (v := 1) C dL_law_1465 (by decide) ?_
  refine z_iadd C dL_law_1466 ?_
  refine z_sld C hS hbl hbA dL_law_1467 (i + 1) (nI_add i 1) (by omega) (by omega) ?_
  refine z_aload_n C dL_law_1468 0 rfl ?_
  refine z_iload C dL_law_1469 5 rfl ?_
  refine z_iconst (v := 2) C dL_law_1471 (by decide) ?_
  refine z_iadd C dL_law_1472 ?_
  refine z_sld C hS hbl hbA dL_law_1473 (i + 2) (nI_add i 2) (by omega) (by omega) ?_
  refine z_aload_n C dL_law_1474 0 rfl ?_
  refine z_iload C dL_law_1475 5 rfl ?_
  refine z_iconst (v := 3) C dL_law_1477 (by decide) ?_
  refine z_iadd C dL_law_1478 ?_
  refine z_sld C hS hbl hbA dL_law_1479 (i + 3) (nI_add i 3) (by omega) (by omega) ?_
  refine z_aload_n C dL_law_1480 3 rfl ?_
  refine y_callS (X := w1 K b (N, M, S, rl, rh, bl, bh, k0, fl, fh, pt, nu, de)) (As := [.ref (a 0), .int (xs (i + 1)), .int (xs (i + 2)), .int (xs (i + 3)), .ref o]) C hX hNc (wL_setBox l D K a N M S rl rh bl bh kl kh mn vc iv sc o od g gd (xs (i + 1)) (xs (i + 2)) (xs (i + 3)) hst hN) (vx_cwSW 5 C.1.2.2.2.2 gL_law_L_setBox rfl rfl rfl (by decide +kernel) ⟨Nat.le_of_ble_eq_true rfl, Nat.le_of_ble_eq_true rfl⟩) dL_law_1481 rfl rfl (Nat.le_of_ble_eq_true rfl) ⟨Nat.le_trans (by omega) rm_c, Nat.le_trans (by omega) rm_s⟩ rfl (fun k1 z1 hz => ?_)
  obtain ⟨u1, g1, gd1⟩ := z1
  refine z_istore (lv' := [(0, .ref bS), (1, .ref (a 0)), (2, .ref (b 0)), (3, .ref o), (4, .ref od), (5, .int (nI i)), (6, .int k1)]) C dL_law_1484 (by decide) [1, 2, 3, 4, 5, 6, 0] rfl ?_
  refine z_aload_n C dL_law_1486 2 rfl ?_
  refine z_aload_n C dL_law_1487 0 rfl ?_
  refine z_iload C dL_law_1488 5 rfl ?_
  refine z_iconst (v := 1) C dL_law_1490 (by decide) ?_
  refine z_iadd C dL_law_1491 ?_
  refine z_sld C hS hbl hbA dL_law_1492 (i + 1) (nI_add i 1) (by omega) (by omega) ?_
  refine z_aload_n C dL_law_1493 0 rfl ?_
  refine z_iload C dL_law_1494 5 rfl ?_
  refine z_iconst (v := 2) C dL_law_1496 (by decide) ?_
  refine z_iadd C dL_law_1497 ?_
  refine z_sld C hS hbl hbA dL_law_1498 (i + 2) (nI_add i 2) (by omega) (by omega) ?_
  refine z_aload_n C dL_law_1499 0 rfl ?_
  refine z_iload C dL_law_1500 5 rfl ?_
  refine z_iconst (v := 3) C dL_law_1502 (by decide) ?_
  refine z_iadd C dL_law_1503 ?_
  refine z_sld C hS hbl hbA dL_law_1504 (i + 3) (nI_add i 3) (by omega) (by omega) ?_
  refine z_callVi_l (As := [.int (xs (i + 1)), .int (xs (i + 2)), .int (xs (i + 3))]) (wc := w1 K b (N, M, S, rl, rh, bl, bh, k0, fl, fh, pt, nu, de)) (Y := wv K a o od (u1, g1, gd1)) C (c1_setBox l D K b N M S rl rh bl bh k0 fl fh pt nu de (xs (i + 1)) (xs (i + 2)) (xs (i + 3)) hN) (cwV 3 C.1.2.2.2.2 gL_law_X1_setBox rfl rfl rfl (by decide +kernel) ⟨Nat.le_of_ble_eq_true rfl, Nat.le_of_ble_eq_true rfl⟩) (ci := 3) rfl rfl 0 rfl dL_law_1505 rfl rfl (Nat.le_of_ble_eq_true rfl) ⟨Nat.le_trans (by omega) rm_c, Nat.le_trans (by omega) rm_s⟩ rfl (fun r1 v1 hv => ?_)
  obtain ⟨hval, hrel⟩ := pr_setBox hok (kl := kl) (kh := kh) (mn := mn) (vc := vc) (iv := iv) (sc := sc) (fl := fl) (fh := fh) (pt := pt) (nu := nu) (de := de) hz hv
  clear hz hv
  obtain ⟨N2, M2, S2, rl2, rh2, bl2, bh2, kl2, kh2, mn2, vc2, iv2, sc2, fl2, fh2, pt2, nu2, de2, hok2, rfl, rfl⟩ := hrel
  refine z_istore (lv' := [(0, .ref bS), (1, .ref (a 0)), (2, .ref (b 0)), (3, .ref o), (4, .ref od), (5, .int (nI i)), (6, .int k1), (7, .int r1)]) C dL_law_1508 (by decide) [1, 2, 3, 4, 5, 6, 7, 0] rfl ?_
  refine z_aload_n C dL_law_1510 2 rfl ?_
  refine z_callVi_l (As := []) (wc := w1 K b (N2, M2, S2, rl2, rh2, bl2, bh2, k1, fl2, fh2, pt2, nu2, de2)) (Y := wv K a o od ((N2, M2, S2, rl2, rh2, bl2, bh2, kl2, kh2, mn2, vc2, iv2, sc2), g1, gd1)) C (c1_thrown l D K b N2 M2 S2 rl2 rh2 bl2 bh2 k1 fl2 fh2 pt2 nu2 de2) (cwV 0 C.1.2.2.2.2 gL_law_X1_thrown rfl rfl rfl (by decide +kernel) ⟨Nat.le_of_ble_eq_true rfl, Nat.le_of_ble_eq_true rfl⟩) (ci := 3) rfl rfl 0 rfl dL_law_1511 rfl rfl (Nat.le_of_ble_eq_true rfl) ⟨Nat.le_trans (by omega) rm_c, Nat.le_trans (by omega) rm_s⟩ rfl (fun r3 v3 h3 => ?_)
  obtain ⟨h3, rfl⟩ := h3
  refine z_topi k1 h3 ?_
  refine z_iload C dL_law_1514 6 rfl ?_
  refine z_icmp_eq (tgt := 1521) C dL_law_1516 (by decide) (fun _ => ?_) (fun q => absurd rfl q)
  refine z_iload C dL_law_1521 6 rfl ?_
  refine z_if_ne (tgt := 1545) C dL_law_1523 (by decide) (fun ck => ?_) (fun ck => ?_)
  · refine z_goto (tgt := 1948) C dL_law_1545 (by decide) ?_
    refine z_lv (lv' := [(0, .ref bS), (1, .ref (a 0)), (2, .ref (b 0)), (3, .ref o), (4, .ref od), (5, .int (nI i))]) [0, 1, 2, 3, 4, 5] rfl ?_
    exact z_widen (by omega) (by omega) (hk _ _ _ _ _ (RelT_mk hok2))
  · refine z_aload_n C dL_law_1526 3 rfl ?_
    refine z_iconst (v := 0) C dL_law_1527 (by decide) ?_
    refine z_lald C 1 rfl 37 rfl dL_law_1528 0 rfl (by decide) (by decide) ?_
    refine z_iload C dL_law_1529 7 rfl ?_
    refine z_if_eq (tgt := 1538) C dL_law_1531 (by decide) (fun cb => ?_) (fun cb => ?_)
    · refine z_lconst (v := 0) C dL_law_1538 (by decide) ?_
      refine z_lcmp_eq (tgt := 1545) C dL_law_1539 dL_law_1540 (by decide) (fun _ => ?_) (fun q => absurd ((hval ck).trans (yb_t cb).symm) q)
      refine z_goto (tgt := 1948) C dL_law_1545 (by decide) ?_
      refine z_lv (lv' := [(0, .ref bS), (1, .ref (a 0)), (2, .ref (b 0)), (3, .ref o), (4, .ref od), (5, .int (nI i))]) [0, 1, 2, 3, 4, 5] rfl ?_
      exact z_widen (by omega) (by omega) (hk _ _ _ _ _ (RelT_mk hok2))
    · refine z_lconst (v := 1) C dL_law_1534 (by decide) ?_
      refine z_goto (tgt := 1539) C dL_law_1535 (by decide) ?_
      refine z_lcmp_eq (tgt := 1545) C dL_law_1539 dL_law_1540 (by decide) (fun _ => ?_) (fun q => absurd ((hval ck).trans (yb_f cb).symm) q)
      refine z_goto (tgt := 1948) C dL_law_1545 (by decide) ?_
      refine z_lv (lv' := [(0, .ref bS), (1, .ref (a 0)), (2, .ref (b 0)), (3, .ref o), (4, .ref od), (5, .int (nI i))]) [0, 1, 2, 3, 4, 5] rfl ?_
      exact z_widen (by omega) (by omega) (hk _ _ _ _ _ (RelT_mk hok2))
set_option maxRecDepth 20000 in
set_option maxHeartbeats 1000000 in
theorem lc_24 (C : zC p s m args c code 9 wsL_law RL A s.heap D vwCl (zT K)) (hX : xF A s) (hNc : yNc s) (hst : l.stackTraces = false) (hS : va_X bS L xs s s.heap) (hbl : bS < s.heap.size) (hbA : ¬ A bS) (hi : i + 6 ≤ L) (hL : L ≤ 3072)
    (hk : ∀ (u : S0) (v : S1) (g : Nat → Int64) (gd : Nat → UInt64) (k : Int32), RelT k u v → zW p l e room_1 s m args below meth c Q 9 A s.heap D vwCl (100 + (i + 6)) (600 + 2 * (i + 6)) (w1 K b v ++ wv K a o od (u, g, gd)) 1948 [(0, .ref bS), (1, .ref (a 0)), (2, .ref (b 0)), (3, .ref o), (4, .ref od), (5, .int (nI i))] []) {u : S0} {v : S1} {g : Nat → Int64} {gd : Nat → UInt64} {k0 : Int32} (hr : RelT k0 u v) : zW p l e room_1 s m args below meth c Q 9 A s.heap D vwCl (100 + i) (600 + 2 * i) (w1 K b v ++ wv K a o od (u, g, gd)) 1548 [(0, .ref bS), (1, .ref (a 0)), (2, .ref (b 0)), (3, .ref o), (4, .ref od), (5, .int (nI i))] [] := by
  obtain ⟨N, M, S, rl, rh, bl, bh, kl, kh, mn, vc, iv, sc, fl, fh, pt, nu, de, hok, rfl, rfl⟩ := hr
  have hN := hok.2.1
  refine z_aload_n C dL_law_1548 1 rfl ?_
  refine z_aload_n C dL_law_1549 0 rfl ?_
  refine z_iload C dL_law_1550 5 rfl ?_
  refine z_iconst (v := 1) C dL_law_1552 (by decide) ?_
  refine z_iadd C dL_law_1553 ?_
  refine z_sld C hS hbl hbA dL_law_1554 (i + 1) (nI_add i 1) (by omega) (by omega) ?_
  refine z_aload_n C dL_law_1555 3 rfl ?_
  refine y_callS (X := w1 K b (N, M, S, rl, rh, bl, bh, k0, fl, fh, pt, nu, de)) (As := [.ref (a 0), .int (xs (i + 1)), .ref o]) C hX hNc (wL_boxLow l D K a N M S rl rh bl bh kl kh mn vc iv sc o od g gd (xs (i + 1)) hst hN) (vx_cwSW 3 C.1.2.2.2.2 gL_law_L_boxLow rfl rfl rfl (by decide +kernel) ⟨Nat.le_of_ble_eq_true rfl, Nat.le_of_ble_eq_true rfl⟩) dL_law_1556 rfl rfl (Nat.le_of_ble_eq_true rfl) ⟨Nat.le_trans (by omega) rm_c, Nat.le_trans (by omega) rm_s⟩ rfl (fun k1 z1 hz => ?_)
  obtain ⟨u1, g1, gd1⟩ := z1
  refine z_istore (lv' := [(0, .ref bS), (1, .ref (a 0)), (2, .ref (b 0)), (3, .ref o), (4, .ref od), (5, .int (nI i)), (6, .int k1)]) C dL_law_1559 (by decide) [1, 2, 3, 4, 5, 6, 0] rfl ?_
  refine z_aload_n C dL_law_1561 2 rfl ?_
  refine z_aload_n C dL_law_1562 0 rfl ?_
  refine z_iload C dL_law_1563 5 rfl ?_
  refine z_iconst (v := 1) C dL_law_1565 (by decide) ?_
  refine z_iadd C dL_law_1566 ?_
  refine z_sld C hS hbl hbA dL_law_1567 (i + 1) (nI_add i 1) (by omega) (by omega) ?_
  refine z_callVi_l (As := [.int (xs (i + 1))]) (wc := w1 K b (N, M, S, rl, rh, bl, bh, k0, fl, fh, pt, nu, de)) (Y := wv K a o od (u1, g1, gd1)) C (c1_boxLow l D K b N M S rl rh bl bh k0 fl fh pt nu de (xs (i + 1)) hN) (cwV 1 C.1.2.2.2.2 gL_law_X1_boxLow rfl rfl rfl (by decide +kernel) ⟨Nat.le_of_ble_eq_true rfl, Nat.le_of_ble_eq_true rfl⟩) (ci := 3) rfl rfl 0 rfl dL_law_1568 rfl rfl (Nat.le_of_ble_eq_true rfl) ⟨Nat.le_trans (by omega) rm_c, Nat.le_trans (by omega) rm_s⟩ rfl (fun r1 v1 hv => ?_)
  obtain ⟨hval, hrel⟩ := pr_boxLow hok (kl := kl) (kh := kh) (mn := mn) (vc := vc) (iv := iv) (sc := sc) (fl := fl) (fh := fh) (pt := pt) (nu := nu) (de := de) hz hv
  clear hz hv
  obtain ⟨N2, M2, S2, rl2, rh2, bl2, bh2, kl2, kh2, mn2, vc2, iv2, sc2, fl2, fh2, pt2, nu2, de2, hok2, rfl, rfl⟩ := hrel
  refine z_istore (lv' := [(0, .ref bS), (1, .ref (a 0)), (2, .ref (b 0)), (3, .ref o), (4, .ref od), (5, .int (nI i)), (6, .int k1), (7, .int r1)]) C dL_law_1571 (by decide) [1, 2, 3, 4, 5, 6, 7, 0] rfl ?_
  refine z_aload_n C dL_law_1573 2 rfl ?_
  refine z_callVi_l (As := []) (wc := w1 K b (N2, M2, S2, rl2, rh2, bl2, bh2, k1, fl2, fh2, pt2, nu2, de2)) (Y := wv K a o od ((N2, M2, S2, rl2, rh2, bl2, bh2, kl2, kh2, mn2, vc2, iv2, sc2), g1, gd1)) C (c1_thrown l D K b N2 M2 S2 rl2 rh2 bl2 bh2 k1 fl2 fh2 pt2 nu2 de2) (cwV 0 C.1.2.2.2.2 gL_law_X1_thrown rfl rfl rfl (by decide +kernel) ⟨Nat.le_of_ble_eq_true rfl, Nat.le_of_ble_eq_true rfl⟩) (ci := 3) rfl rfl 0 rfl dL_law_1574 rfl rfl (Nat.le_of_ble_eq_true rfl) ⟨Nat.le_trans (by omega) rm_c, Nat.le_trans (by omega) rm_s⟩ rfl (fun r3 v3 h3 => ?_)
  obtain ⟨h3, rfl⟩ := h3
  refine z_topi k1 h3 ?_
  refine z_iload C dL_law_1577 6 rfl ?_
  refine z_icmp_eq (tgt := 1584) C dL_law_1579 (by decide) (fun _ => ?_) (fun q => absurd rfl q)
  refine z_iload C dL_law_1584 6 rfl ?_
  refine z_if_ne (tgt := 1601) C dL_law_1586 (by decide) (fun ck => ?_) (fun ck => ?_)
  · refine z_goto (tgt := 1948) C dL_law_1601 (by decide) ?_
    refine z_lv (lv' := [(0, .ref bS), (1, .ref (a 0)), (2, .ref (b 0)), (3, .ref o), (4, .ref od), (5, .int (nI i))]) [0, 1, 2, 3, 4, 5] rfl ?_
    exact z_widen (by omega) (by omega) (hk _ _ _ _ _ (RelT_mk hok2))
  · refine z_aload_n C dL_law_1589 3 rfl ?_
    refine z_iconst (v := 0) C dL_law_1590 (by decide) ?_
    refine z_lald C 1 rfl 37 rfl dL_law_1591 0 rfl (by decide) (by decide) ?_
    refine z_iload C dL_law_1592 7 rfl ?_
    refine z_i2l C dL_law_1594 ?_
    refine z_lcmp_eq (tgt := 1601) C dL_law_1595 dL_law_1596 (by decide) (fun _ => ?_) (fun q => absurd (hval ck) q)
    refine z_goto (tgt := 1948) C dL_law_1601 (by decide) ?_
    refine z_lv (lv' := [(0, .ref bS), (1, .ref (a 0)), (2, .ref (b 0)), (3, .ref o), (4, .ref od), (5, .int (nI i))]) [0, 1, 2, 3, 4, 5] rfl ?_
    exact z_widen (by omega) (by omega) (hk _ _ _ _ _ (RelT_mk hok2))
set_option maxRecDepth 20000 in
set_option maxHeartbeats 1000000 in
theorem lc_25 (C : zC p s m args c code 9 wsL_law RL A s.heap D vwCl (zT K)) (hX : xF A s) (hNc : yNc s) (hst : l.stackTraces = false) (hS : va_X bS L xs s s.heap) (hbl : bS < s.heap.size) (hbA : ¬ A bS) (hi : i + 6 ≤ L) (hL : L ≤ 3072)
    (hk : ∀ (u : S0) (v : S1) (g : Nat → Int64) (gd : Nat → UInt64) (k : Int32), RelT k u v → zW p l e room_1 s m args below meth c Q 9 A s.heap D vwCl (100 + (i + 6)) (600 + 2 * (i + 6)) (w1 K b v ++ wv K a o od (u, g, gd)) 1948 [(0, .ref bS), (1, .ref (a 0)), (2, .ref (b 0)), (3, .ref o), (4, .ref od), (5, .int (nI i))] []) {u : S0} {v : S1} {g : Nat → Int64} {gd : Nat → UInt64} {k0 : Int32} (hr : RelT k0 u v) : zW p l e room_1 s m args below meth c Q 9 A s.heap D vwCl (100 + i) (600 + 2 * i) (w1 K b v ++ wv K a o od (u, g, gd)) 1604 [(0, .ref bS), (1, .ref (a 0)), (2, .ref (b 0)), (3, .ref o), (4, .ref od), (5, .int (nI i))] [] := by
  obtain ⟨N, M, S, rl, rh, bl, bh, kl, kh, mn, vc, iv, sc, fl, fh, pt, nu, de, hok, rfl, rfl⟩ := hr
  have hN := hok.2.1
  refine z_aload_n C dL_law_1604 1 rfl ?_
  refine z_aload_n C dL_law_1605 0 rfl ?_
  refine z_iload C dL_law_1606 5 rfl ?_
  refine z_iconst (v := 1) C dL_law_1608 (by decide) ?_
  refine z_iadd C dL_law_1609 ?_
  refine z_sld C hS hbl hbA dL_law_1610 (i + 1) (nI_add i 1) (by omega) (by omega) ?_
  refine z_aload_n C dL_law_1611 3 rfl ?_
  refine y_callS (X := w1 K b (N, M, S, rl, rh, bl, bh, k0, fl, fh, pt, nu, de)) (As := [.ref (a 0), .int (xs (i + 1)), .ref o]) C hX hNc (wL_boxHigh l D K a N M S rl rh bl bh kl kh mn vc iv sc o od g gd (xs (i + 1)) hst hN) (vx_cwSW 3 C.1.2.2.2.2 gL_law_L_boxHigh rfl rfl rfl (by decide +kernel) ⟨Nat.le_of_ble_eq_true rfl, Nat.le_of_ble_eq_true rfl⟩) dL_law_1612 rfl rfl (Nat.le_of_ble_eq_true rfl) ⟨Nat.le_trans (by omega) rm_c, Nat.le_trans (by omega) rm_s⟩ rfl (fun k1 z1 hz => ?_)
  obtain ⟨u1, g1, gd1⟩ := z1
  refine z_istore (lv' := [(0, .ref bS), (1, .ref (a 0)), (2, .ref (b 0)), (3, .ref o), (4, .ref od), (5, .int (nI i)), (6, .int k1)]) C dL_law_1615 (by decide) [1, 2, 3, 4, 5, 6, 0] rfl ?_
  refine z_aload_n C dL_law_1617 2 rfl ?_
  refine z_aload_n C dL_law_1618 0 rfl ?_
  refine z_iload C dL_law_1619 5 rfl ?_
  refine z_iconst (v := 1) C dL_law_1621 (by decide) ?_
  refine z_iadd C dL_law_1622 ?_
  refine z_sld C hS hbl hbA dL_law_1623 (i + 1) (nI_add i 1) (by omega) (by omega) ?_
  refine z_callVi_l (As := [.int (xs (i + 1))]) (wc := w1 K b (N, M, S, rl, rh, bl, bh, k0, fl, fh, pt, nu, de)) (Y := wv K a o od (u1, g1, gd1)) C (c1_boxHigh l D K b N M S rl rh bl bh k0 fl fh pt nu de (xs (i + 1)) hN) (cwV 1 C.1.2.2.2.2 gL_law_X1_boxHigh rfl rfl rfl (by decide +kernel) ⟨Nat.le_of_ble_eq_true rfl, Nat.le_of_ble_eq_true rfl⟩) (ci := 3) rfl rfl 0 rfl dL_law_1624 rfl rfl (Nat.le_of_ble_eq_true rfl) ⟨Nat.le_trans (by omega) rm_c, Nat.le_trans (by omega) rm_s⟩ rfl (fun r1 v1 hv => ?_)
  obtain ⟨hval, hrel⟩ := pr_boxHigh hok (kl := kl) (kh := kh) (mn := mn) (vc := vc) (iv := iv) (sc := sc) (fl := fl) (fh := fh) (pt := pt) (nu := nu) (de := de) hz hv
  clear hz hv
  obtain ⟨N2, M2, S2, rl2, rh2, bl2, bh2, kl2, kh2, mn2, vc2, iv2, sc2, fl2, fh2, pt2, nu2, de2, hok2, rfl, rfl⟩ := hrel
  refine z_istore (lv' := [(0, .ref bS), (1, .ref (a 0)), (2, .ref (b 0)), (3, .ref o), (4, .ref od), (5, .int (nI i)), (6, .int k1), (7, .int r1)]) C dL_law_1627 (by decide) [1, 2, 3, 4, 5, 6, 7, 0] rfl ?_
  refine z_aload_n C dL_law_1629 2 rfl ?_
  refine z_callVi_l (As := []) (wc := w1 K b (N2, M2, S2, rl2, rh2, bl2, bh2, k1, fl2, fh2, pt2, nu2, de2)) (Y := wv K a o od ((N2, M2, S2, rl2, rh2, bl2, bh2, kl2, kh2, mn2, vc2, iv2, sc2), g1, gd1)) C (c1_thrown l D K b N2 M2 S2 rl2 rh2 bl2 bh2 k1 fl2 fh2 pt2 nu2 de2) (cwV 0 C.1.2.2.2.2 gL_law_X1_thrown rfl rfl rfl (by decide +kernel) ⟨Nat.le_of_ble_eq_true rfl, Nat.le_of_ble_eq_true rfl⟩) (ci := 3) rfl rfl 0 rfl dL_law_1630 rfl rfl (Nat.le_of_ble_eq_true rfl) ⟨Nat.le_trans (by omega) rm_c, Nat.le_trans (by omega) rm_s⟩ rfl (fun r3 v3 h3 => ?_)
  obtain ⟨h3, rfl⟩ := h3
  refine z_topi k1 h3 ?_
  refine z_iload C dL_law_1633 6 rfl ?_
  refine z_icmp_eq (tgt := 1640) C dL_law_1635 (by decide) (fun _ => ?_) (fun q => absurd rfl q)
  refine z_iload C dL_law_1640 6 rfl ?_
  refine z_if_ne (tgt := 1657) C dL_law_1642 (by decide) (fun ck => ?_) (fun ck => ?_)
  · refine z_goto (tgt := 1948) C dL_law_1657 (by decide) ?_
    refine z_lv (lv' := [(0, .ref bS), (1, .ref (a 0)), (2, .ref (b 0)), (3, .ref o), (4, .ref od), (5, .int (nI i))]) [0, 1, 2, 3, 4, 5] rfl ?_
    exact z_widen (by omega) (by omega) (hk _ _ _ _ _ (RelT_mk hok2))
  · refine z_aload_n C dL_law_1645 3 rfl ?_
    refine z_iconst (v := 0) C dL_law_1646 (by decide) ?_
    refine z_lald C 1 rfl 37 rfl dL_law_1647 0 rfl (by decide) (by decide) ?_
    refine z_iload C dL_law_1648 7 rfl ?_
    refine z_i2l C dL_law_1650 ?_
    refine z_lcmp_eq (tgt := 1657) C dL_law_1651 dL_law_1652 (by decide) (fun _ => ?_) (fun q => absurd (hval ck) q)
    refine z_goto (tgt := 1948) C dL_law_1657 (by decide) ?_
    refine z_lv (lv' := [(0, .ref bS), (1, .ref (a 0)), (2, .ref (b 0)), (3, .ref o), (4, .ref od), (5, .int (nI i))]) [0, 1, 2, 3, 4, 5] rfl ?_
    exact z_widen (by omega) (by omega) (hk _ _ _ _ _ (RelT_mk hok2))
set_option maxRecDepth 20000 in
set_option maxHeartbeats 1000000 in
theorem lc_26 (C : zC p s m args c code 9 wsL_law RL A s.heap D vwCl (zT K)) (hX : xF A s) (hNc : yNc s) (hst : l.stackTraces = false) (hS : va_X bS L xs s s.heap) (hbl : bS < s.heap.size) (hbA : ¬ A bS) (hi : i + 6 ≤ L) (hL : L ≤ 3072)
    (hk : ∀ (u : S0) (v : S1) (g : Nat → Int64) (gd : Nat → UInt64) (k : Int32), RelT k u v → zW p l e room_1 s m args below meth c Q 9 A s.heap D vwCl (100 + (i + 6)) (600 + 2 * (i + 6)) (w1 K b v ++ wv K a o od (u, g, gd)) 1948 [(0, .ref bS), (1, .ref (a 0)), (2, .ref (b 0)), (3, .ref o), (4, .ref od), (5, .int (nI i))] []) {u : S0} {v : S1} {g : Nat → Int64} {gd : Nat → UInt64} {k0 : Int32} (hr : RelT k0 u v) : zW p l e room_1 s m args below meth c Q 9 A s.heap D vwCl (100 + i) (600 + 2 * i) (w1 K b v ++ wv K a o od (u, g, gd)) 1660 [(0, .ref bS), (1, .ref (a 0)), (2, .ref (b 0)), (3, .ref o), (4, .ref od), (5, .int (nI i))] [] := by
  obtain ⟨N, M, S, rl, rh, bl, bh, kl, kh, mn, vc, iv, sc, fl, fh, pt, nu, de, hok, rfl, rfl⟩ := hr
  have hN := hok.2.1
  refine z_aload_n C dL_law_1660 1 rfl ?_
  refine z_callVi (X := w1 K b (N, M, S, rl, rh, bl, bh, k0, fl, fh, pt, nu, de)) (wc := w0 K a (N, M, S, rl, rh, bl, bh, kl, kh, mn, vc, iv, sc)) (Y := [(o, .inl (K 1, 1, .inr (.inl g))), (od, .inl (K 4, 1, .inr (.inr (.inr (.inl gd)))))]) (As := []) C (c0_sweep l D K a N M S rl rh bl bh kl kh mn vc iv sc  hN) (cwV 0 C.1.2.2.2.2 gL_law_X0_sweep rfl rfl rfl (by decide +kernel) ⟨Nat.le_of_ble_eq_true rfl, Nat.le_of_ble_eq_true rfl⟩) (ci := 2) rfl rfl 0 rfl dL_law_1661 rfl rfl (Nat.le_of_ble_eq_true rfl) ⟨Nat.le_trans (by omega) rm_c, Nat.le_trans (by omega) rm_s⟩ rfl (fun r0 u1 h0 => ?_)
  refine z_aload_n C dL_law_1664 2 rfl ?_
  refine z_callVi_l (As := []) (wc := w1 K b (N, M, S, rl, rh, bl, bh, k0, fl, fh, pt, nu, de)) (Y := w0 K a u1 ++ [(o, .inl (K 1, 1, .inr (.inl g))), (od, .inl (K 4, 1, .inr (.inr (.inr (.inl gd)))))]) C (c1_sweep l D K b N M S rl rh bl bh k0 fl fh pt nu de  hN) (cwV 0 C.1.2.2.2.2 gL_law_X1_sweep rfl rfl rfl (by decide +kernel) ⟨Nat.le_of_ble_eq_true rfl, Nat.le_of_ble_eq_true rfl⟩) (ci := 3) rfl rfl 0 rfl dL_law_1665 rfl rfl (Nat.le_of_ble_eq_true rfl) ⟨Nat.le_trans (by omega) rm_c, Nat.le_trans (by omega) rm_s⟩ rfl (fun r1 v1 hv => ?_)
  obtain ⟨hval, hrel⟩ := ps_sweep hok (kl := kl) (kh := kh) (mn := mn) (vc := vc) (iv := iv) (sc := sc) (fl := fl) (fh := fh) (pt := pt) (nu := nu) (de := de) h0 hv
  clear h0 hv
  obtain ⟨N2, M2, S2, rl2, rh2, bl2, bh2, kl2, kh2, mn2, vc2, iv2, sc2, fl2, fh2, pt2, nu2, de2, hok2, rfl, rfl⟩ := hrel
  refine z_icmp_eq (tgt := 1948) C dL_law_1668 (by decide) (fun _ => ?_) (fun q => absurd hval q)
  exact z_widen (by omega) (by omega) (hk _ _ _ _ _ (RelT_mk hok2))
set_option maxRecDepth 20000 in
set_option maxHeartbeats 1000000 in
theorem lc_27 (C : zC p s m args c code 9 wsL_law RL A s.heap D vwCl (zT K)) (hX : xF A s) (hNc : yNc s) (hst : l.stackTraces = false) (hS : va_X bS L xs s s.heap) (hbl : bS < s.heap.size) (hbA : ¬ A bS) (hi : i + 6 ≤ L) (hL : L ≤ 3072)
    (hk : ∀ (u : S0) (v : S1) (g : Nat → Int64) (gd : Nat → UInt64) (k : Int32), RelT k u v → zW p l e room_1 s m args below meth c Q 9 A s.heap D vwCl (100 + (i + 6)) (600 + 2 * (i + 6)) (w1 K b v ++ wv K a o od (u, g, gd)) 1948 [(0, .ref bS), (1, .ref (a 0)), (2, .ref (b 0)), (3, .ref o), (4, .ref od), (5, .int (nI i))] []) {u : S0} {v : S1} {g : Nat → Int64} {gd : Nat → UInt64} {k0 : Int32} (hr : RelT k0 u v) : zW p l e room_1 s m args below meth c Q 9 A s.heap D vwCl (100 + i) (600 + 2 * i) (w1 K b v ++ wv K a o od (u, g, gd)) 1673 [(0, .ref bS), (1, .ref (a 0)), (2, .ref (b 0)), (3, .ref o), (4, .ref od), (5, .int (nI i))] [] := by
  obtain ⟨N, M, S, rl, rh, bl, bh, kl, kh, mn, vc, iv, sc, fl, fh, pt, nu, de, hok, rfl, rfl⟩ := hr
  have hN := hok.2.1
  refine z_aload_n C dL_law_1673 1 rfl ?_
  refine z_aload_n C dL_law_1674 0 rfl ?_
  refine z_iload C dL_law_1675 5 rfl ?_
  refine z_iconst (v := 1) C dL_law_1677 (by decide) ?_
  refine z_iadd C dL_law_1678 ?_
  refine z_sld C hS hbl hbA dL_law_1679 (i + 1) (nI_add i 1) (by omega) (by omega) ?_
  refine z_aload_n C dL_law_1680 3 rfl ?_
  refine y_callS (X := w1 K b (N, M, S, rl, rh, bl, bh, k0, fl, fh, pt, nu, de)) (As := [.ref (a 0), .int (xs (i + 1)), .ref o]) C hX hNc (wL_contract l D K a N M S rl rh bl bh kl kh mn vc iv sc o od g gd (xs (i + 1)) hst hN) (vx_cwSW 3 C.1.2.2.2.2 gL_law_L_contract rfl rfl rfl (by decide +kernel) ⟨Nat.le_of_ble_eq_true rfl, Nat.le_of_ble_eq_true rfl⟩) dL_law_1681 rfl rfl (Nat.le_of_ble_eq_true rfl) ⟨Nat.le_trans (by omega) rm_c, Nat.le_trans (by omega) rm_s⟩ rfl (fun k1 z1 hz => ?_)
  obtain ⟨u1, g1, gd1⟩ := z1
  refine z_istore (lv' := [(0, .ref bS), (1, .ref (a 0)), (2, .ref (b 0)), (3, .ref o), (4, .ref od), (5, .int (nI i)), (6, .int k1)]) C dL_law_1684 (by decide) [1, 2, 3, 4, 5, 6, 0] rfl ?_
  refine z_aload_n C dL_law_1686 2 rfl ?_
  refine z_aload_n C dL_law_1687 0 rfl ?_
  refine z_iload C dL_law_1688 5 rfl ?_
  refine z_iconst (v := 1) C dL_law_1690 (by decide) ?_
  refine z_iadd C dL_law_1691 ?_
  refine z_sld C hS hbl hbA dL_law_1692 (i + 1) (nI_add i 1) (by omega) (by omega) ?_
  refine z_callVi_l (As := [.int (xs (i + 1))]) (wc := w1 K b (N, M, S, rl, rh, bl, bh, k0, fl, fh, pt, nu, de)) (Y := wv K a o od (u1, g1, gd1)) C (c1_contract l D K b N M S rl rh bl bh k0 fl fh pt nu de (xs (i + 1)) hN) (cwV 1 C.1.2.2.2.2 gL_law_X1_contract rfl rfl rfl (by decide +kernel) ⟨Nat.le_of_ble_eq_true rfl, Nat.le_of_ble_eq_true rfl⟩) (ci := 3) rfl rfl 0 rfl dL_law_1693 rfl rfl (Nat.le_of_ble_eq_true rfl) ⟨Nat.le_trans (by omega) rm_c, Nat.le_trans (by omega) rm_s⟩ rfl (fun r1 v1 hv => ?_)
  obtain ⟨hval, hrel⟩ := pr_contract hok (kl := kl) (kh := kh) (mn := mn) (vc := vc) (iv := iv) (sc := sc) (fl := fl) (fh := fh) (pt := pt) (nu := nu) (de := de) hz hv
  clear hz hv
  obtain ⟨N2, M2, S2, rl2, rh2, bl2, bh2, kl2, kh2, mn2, vc2, iv2, sc2, fl2, fh2, pt2, nu2, de2, hok2, rfl, rfl⟩ := hrel
  refine z_istore (lv' := [(0, .ref bS), (1, .ref (a 0)), (2, .ref (b 0)), (3, .ref o), (4, .ref od), (5, .int (nI i)), (6, .int k1), (7, .int r1)]) C dL_law_1696 (by decide) [1, 2, 3, 4, 5, 6, 7, 0] rfl ?_
  refine z_aload_n C dL_law_1698 2 rfl ?_
  refine z_callVi_l (As := []) (wc := w1 K b (N2, M2, S2, rl2, rh2, bl2, bh2, k1, fl2, fh2, pt2, nu2, de2)) (Y := wv K a o od ((N2, M2, S2, rl2, rh2, bl2, bh2, kl2, kh2, mn2, vc2, iv2, sc2), g1, gd1)) C (c1_thrown l D K b N2 M2 S2 rl2 rh2 bl2 bh2 k1 fl2 fh2 pt2 nu2 de2) (cwV 0 C.1.2.2.2.2 gL_law_X1_thrown rfl rfl rfl (by decide +kernel) ⟨Nat.le_of_ble_eq_true rfl, Nat.le_of_ble_eq_true rfl⟩) (ci := 3) rfl rfl 0 rfl dL_law_1699 rfl rfl (Nat.le_of_ble_eq_true rfl) ⟨Nat.le_trans (by omega) rm_c, Nat.le_trans (by omega) rm_s⟩ rfl (fun r3 v3 h3 => ?_)
  obtain ⟨h3, rfl⟩ := h3
  refine z_topi k1 h3 ?_
  refine z_iload C dL_law_1702 6 rfl ?_
  refine z_icmp_eq (tgt := 1709) C dL_law_1704 (by decide) (fun _ => ?_) (fun q => absurd rfl q)
  refine z_iload C dL_law_1709 6 rfl ?_
  refine z_if_ne (tgt := 1726) C dL_law_1711 (by decide) (fun ck => ?_) (fun ck => ?_)
  · refine z_goto (tgt := 1948) C dL_law_1726 (by decide) ?_
    refine z_lv (lv' := [(0, .ref bS), (1, .ref (a 0)), (2, .ref (b 0)), (3, .ref o), (4, .ref od), (5, .int (nI i))]) [0, 1, 2, 3, 4, 5] rfl ?_
    exact z_widen (by omega) (by omega) (hk _ _ _ _ _ (RelT_mk hok2))
  · refine z_aload_n C dL_law_1714 3 rfl ?_
    refine z_iconst (v := 0) C dL_law_1715 (by decide) ?_
    refine z_lald C 1 rfl 37 rfl dL_law_1716 0 rfl (by decide) (by decide) ?_
    refine z_iload C dL_law_1717 7 rfl ?_
    refine z_i2l C dL_law_1719 ?_
    refine z_lcmp_eq (tgt := 1726) C dL_law_1720 dL_law_1721 (by decide) (fun _ => ?_) (fun q => absurd (hval ck) q)
    refine z_goto (tgt := 1948) C dL_law_1726 (by decide) ?_
    refine z_lv (lv' := [(0, .ref bS), (1, .ref (a 0)), (2, .ref (b 0)), (3, .ref o), (4, .ref od), (5, .int (nI i))]) [0, 1, 2, 3, 4, 5] rfl ?_
    exact z_widen (by omega) (by omega) (hk _ _ _ _ _ (RelT_mk hok2))
set_option maxRecDepth 20000 in
set_option maxHeartbeats 1000000 in
theorem lc_28 (C : zC p s m args c code 9 wsL_law RL A s.heap D vwCl (zT K)) (hX : xF A s) (hNc : yNc s) (hst : l.stackTraces = false) (hS : va_X bS L xs s s.heap) (hbl : bS < s.heap.size) (hbA : ¬ A bS) (hi : i + 6 ≤ L) (hL : L ≤ 3072)
    (hk : ∀ (u : S0) (v : S1) (g : Nat → Int64) (gd : Nat → UInt64) (k : Int32), RelT k u v → zW p l e room_1 s m args below meth c Q 9 A s.heap D vwCl (100 + (i + 6)) (600 + 2 * (i + 6)) (w1 K b v ++ wv K a o od (u, g, gd)) 1948 [(0, .ref bS), (1, .ref (a 0)), (2, .ref (b 0)), (3, .ref o), (4, .ref od), (5, .int (nI i))] []) {u : S0} {v : S1} {g : Nat → Int64} {gd : Nat → UInt64} {k0 : Int32} (hr : RelT k0 u v) : zW p l e room_1 s m args below meth c Q 9 A s.heap D vwCl (100 + i) (600 + 2 * i) (w1 K b v ++ wv K a o od (u, g, gd)) 1729 [(0, .ref bS), (1, .ref (a 0)), (2, .ref (b 0)), (3, .ref o), (4, .ref od), (5, .int (nI i))] [] := by
  obtain ⟨N, M, S, rl, rh, bl, bh, kl, kh, mn, vc, iv, sc, fl, fh, pt, nu, de, hok, rfl, rfl⟩ := hr
  have hN := hok.2.1
  refine z_aload_n C dL_law_1729 1 rfl ?_
  refine z_aload_n C dL_law_1730 3 rfl ?_
  refine y_callS (X := w1 K b (N, M, S, rl, rh, bl, bh, k0, fl, fh, pt, nu, de)) (As := [.ref (a 0), .ref o]) C hX hNc (wL_sharpen l D K a N M S rl rh bl bh kl kh mn vc iv sc o od g gd  hst hN) (vx_cwSW 2 C.1.2.2.2.2 gL_law_L_sharpen rfl rfl rfl (by decide +kernel) ⟨Nat.le_of_ble_eq_true rfl, Nat.le_of_ble_eq_true rfl⟩) dL_law_1731 rfl rfl (Nat.le_of_ble_eq_true rfl) ⟨Nat.le_trans (by omega) rm_c, Nat.le_trans (by omega) rm_s⟩ rfl (fun k1 z1 hz => ?_)
  obtain ⟨u1, g1, gd1⟩ := z1
  refine z_istore (lv' := [(0, .ref bS), (1, .ref (a 0)), (2, .ref (b 0)), (3, .ref o), (4, .ref od), (5, .int (nI i)), (6, .int k1)]) C dL_law_1734 (by decide) [1, 2, 3, 4, 5, 6, 0] rfl ?_
  refine z_aload_n C dL_law_1736 2 rfl ?_
  refine z_callVi_l (As := []) (wc := w1 K b (N, M, S, rl, rh, bl, bh, k0, fl, fh, pt, nu, de)) (Y := wv K a o od (u1, g1, gd1)) C (c1_sharpen l D K b N M S rl rh bl bh k0 fl fh pt nu de  hN (okAll_m hok)) (cwV 0 C.1.2.2.2.2 gL_law_X1_sharpen rfl rfl rfl (by decide +kernel) ⟨Nat.le_of_ble_eq_true rfl, Nat.le_of_ble_eq_true rfl⟩) (ci := 3) rfl rfl 0 rfl dL_law_1737 rfl rfl (Nat.le_of_ble_eq_true rfl) ⟨Nat.le_trans (by omega) rm_c, Nat.le_trans (by omega) rm_s⟩ rfl (fun r1 v1 hv => ?_)
  obtain ⟨hval, hrel⟩ := pr_sharpen hok (kl := kl) (kh := kh) (mn := mn) (vc := vc) (iv := iv) (sc := sc) (fl := fl) (fh := fh) (pt := pt) (nu := nu) (de := de) hz hv
  clear hz hv
  obtain ⟨N2, M2, S2, rl2, rh2, bl2, bh2, kl2, kh2, mn2, vc2, iv2, sc2, fl2, fh2, pt2, nu2, de2, hok2, rfl, rfl⟩ := hrel
  refine z_istore (lv' := [(0, .ref bS), (1, .ref (a 0)), (2, .ref (b 0)), (3, .ref o), (4, .ref od), (5, .int (nI i)), (6, .int k1), (7, .int r1)]) C dL_law_1740 (by decide) [1, 2, 3, 4, 5, 6, 7, 0] rfl ?_
  refine z_aload_n C dL_law_1742 2 rfl ?_
  refine z_callVi_l (As := []) (wc := w1 K b (N2, M2, S2, rl2, rh2, bl2, bh2, k1, fl2, fh2, pt2, nu2, de2)) (Y := wv K a o od ((N2, M2, S2, rl2, rh2, bl2, bh2, kl2, kh2, mn2, vc2, iv2, sc2), g1, gd1)) C (c1_thrown l D K b N2 M2 S2 rl2 rh2 bl2 bh2 k1 fl2 fh2 pt2 nu2 de2) (cwV 0 C.1.2.2.2.2 gL_law_X1_thrown rfl rfl rfl (by decide +kernel) ⟨Nat.le_of_ble_eq_true rfl, Nat.le_of_ble_eq_true rfl⟩) (ci := 3) rfl rfl 0 rfl dL_law_1743 rfl rfl (Nat.le_of_ble_eq_true rfl) ⟨Nat.le_trans (by omega) rm_c, Nat.le_trans (by omega) rm_s⟩ rfl (fun r3 v3 h3 => ?_)
  obtain ⟨h3, rfl⟩ := h3
  refine z_topi k1 h3 ?_
  refine z_iload C dL_law_1746 6 rfl ?_
  refine z_icmp_eq (tgt := 1753) C dL_law_1748 (by decide) (fun _ => ?_) (fun q => absurd rfl q)
  refine z_iload C dL_law_1753 6 rfl ?_
  refine z_if_ne (tgt := 1770) C dL_law_1755 (by decide) (fun ck => ?_) (fun ck => ?_)
  · refine z_goto (tgt := 1948) C dL_law_1770 (by decide) ?_
    refine z_lv (lv' := [(0, .ref bS), (1, .ref (a 0)), (2, .ref (b 0)), (3, .ref o), (4, .ref od), (5, .int (nI i))]) [0, 1, 2, 3, 4, 5] rfl ?_
    exact z_widen (by omega) (by omega) (hk _ _ _ _ _ (RelT_mk hok2))
  · refine z_aload_n C dL_law_1758 3 rfl ?_
    refine z_iconst (v := 0) C dL_law_1759 (by decide) ?_
    refine z_lald C 1 rfl 37 rfl dL_law_1760 0 rfl (by decide) (by decide) ?_
    refine z_iload C dL_law_1761 7 rfl ?_
    refine z_i2l C dL_law_1763 ?_
    refine z_lcmp_eq (tgt := 1770) C dL_law_1764 dL_law_1765 (by decide) (fun _ => ?_) (fun q => absurd (hval ck) q)
    refine z_goto (tgt := 1948) C dL_law_1770 (by decide) ?_
    refine z_lv (lv' := [(0, .ref bS), (1, .ref (a 0)), (2, .ref (b 0)), (3, .ref o), (4, .ref od), (5, .int (nI i))]) [0, 1, 2, 3, 4, 5] rfl ?_
    exact z_widen (by omega) (by omega) (hk _ _ _ _ _ (RelT_mk hok2))
set_option maxRecDepth 20000 in
set_option maxHeartbeats 1000000 in
theorem lc_29 (C : zC p s m args c code 9 wsL_law RL A s.heap D vwCl (zT K)) (hX : xF A s) (hNc : yNc s) (hst : l.stackTraces = false) (hS : va_X bS L xs s s.heap) (hbl : bS < s.heap.size) (hbA : ¬ A bS) (hi : i + 6 ≤ L) (hL : L ≤ 3072)
    (hk : ∀ (u : S0) (v : S1) (g : Nat → Int64) (gd : Nat → UInt64) (k : Int32), RelT k u v → zW p l e room_1 s m args below meth c Q 9 A s.heap D vwCl (100 + (i + 6)) (600 + 2 * (i + 6)) (w1 K b v ++ wv K a o od (u, g, gd)) 1948 [(0, .ref bS), (1, .ref (a 0)), (2, .ref (b 0)), (3, .ref o), (4, .ref od), (5, .int (nI i))] []) {u : S0} {v : S1} {g : Nat → Int64} {gd : Nat → UInt64} {k0 : Int32} (hr : RelT k0 u v) : zW p l e room_1 s m args below meth c Q 9 A s.heap D vwCl (100 + i) (600 + 2 * i) (w1 K b v ++ wv K a o od (u, g, gd)) 1773 [(0, .ref bS), (1, .ref (a 0)), (2, .ref (b 0)), (3, .ref o), (4, .ref od), (5, .int (nI i))] [] := by
  obtain ⟨N, M, S, rl, rh, bl, bh, kl, kh, mn, vc, iv, sc, fl, fh, pt, nu, de, hok, rfl, rfl⟩ := hr
  have hN := hok.2.1
  refine z_aload_n C dL_law_1773 1 rfl ?_
  refine z_aload_n C dL_law_1774 3 rfl ?_
  refine y_callS (X := w1 K b (N, M, S, rl, rh, bl, bh, k0, fl, fh, pt, nu, de)) (As := [.ref (a 0), .ref o]) C hX hNc (wL_isCertified l D K a N M S rl rh bl bh kl kh mn vc iv sc o od g gd  hst hN) (vx_cwSW 2 C.1.2.2.2.2 gL_law_L_isCertified rfl rfl rfl (by decide +kernel) ⟨Nat.le_of_ble_eq_true rfl, Nat.le_of_ble_eq_true rfl⟩) dL_law_1775 rfl rfl (Nat.le_of_ble_eq_true rfl) ⟨Nat.le_trans (by omega) rm_c, Nat.le_trans (by omega) rm_s⟩ rfl (fun k1 z1 hz => ?_)
  obtain ⟨u1, g1, gd1⟩ := z1
  refine z_istore (lv' := [(0, .ref bS), (1, .ref (a 0)), (2, .ref (b 0)), (3, .ref o), (4, .ref od), (5, .int (nI i)), (6, .int k1)]) C dL_law_1778 (by decide) [1, 2, 3, 4, 5, 6, 0] rfl ?_
  refine z_aload_n C dL_law_1780 2 rfl ?_
  refine z_callVi_l (As := []) (wc := w1 K b (N, M, S, rl, rh, bl, bh, k0, fl, fh, pt, nu, de)) (Y := wv K a o od (u1, g1, gd1)) C (c1_isCertified l D K b N M S rl rh bl bh k0 fl fh pt nu de  hN (okAll_m hok)) (cwV 0 C.1.2.2.2.2 gL_law_X1_isCertified rfl rfl rfl (by decide +kernel) ⟨Nat.le_of_ble_eq_true rfl, Nat.le_of_ble_eq_true rfl⟩) (ci := 3) rfl rfl 0 rfl dL_law_1781 rfl rfl (Nat.le_of_ble_eq_true rfl) ⟨Nat.le_trans (by omega) rm_c, Nat.le_trans (by omega) rm_s⟩ rfl (fun r1 v1 hv => ?_)
  obtain ⟨hval, hrel⟩ := pr_isCertified hok (kl := kl) (kh := kh) (mn := mn) (vc := vc) (iv := iv) (sc := sc) (fl := fl) (fh := fh) (pt := pt) (nu := nu) (de := de) hz hv
  clear hz hv
  obtain ⟨N2, M2, S2, rl2, rh2, bl2, bh2, kl2, kh2, mn2, vc2, iv2, sc2, fl2, fh2, pt2, nu2, de2, hok2, rfl, rfl⟩ := hrel
  refine z_istore (lv' := [(0, .ref bS), (1, .ref (a 0)), (2, .ref (b 0)), (3, .ref o), (4, .ref od), (5, .int (nI i)), (6, .int k1), (7, .int r1)]) C dL_law_1784 (by decide) [1, 2, 3, 4, 5, 6, 7, 0] rfl ?_
  refine z_aload_n C dL_law_1786 2 rfl ?_
  refine z_callVi_l (As := []) (wc := w1 K b (N2, M2, S2, rl2, rh2, bl2, bh2, k1, fl2, fh2, pt2, nu2, de2)) (Y := wv K a o od ((N2, M2, S2, rl2, rh2, bl2, bh2, kl2, kh2, mn2, vc2, iv2, sc2), g1, gd1)) C (c1_thrown l D K b N2 M2 S2 rl2 rh2 bl2 bh2 k1 fl2 fh2 pt2 nu2 de2) (cwV 0 C.1.2.2.2.2 gL_law_X1_thrown rfl rfl rfl (by decide +kernel) ⟨Nat.le_of_ble_eq_true rfl, Nat.le_of_ble_eq_true rfl⟩) (ci := 3) rfl rfl 0 rfl dL_law_1787 rfl rfl (Nat.le_of_ble_eq_true rfl) ⟨Nat.le_trans (by omega) rm_c, Nat.le_trans (by omega) rm_s⟩ rfl (fun r3 v3 h3 => ?_)
  obtain ⟨h3, rfl⟩ := h3
  refine z_topi k1 h3 ?_
  refine z_iload C dL_law_1790 6 rfl ?_
  refine z_icmp_eq (tgt := 1797) C dL_law_1792 (by decide) (fun _ => ?_) (fun q => absurd rfl q)
  refine z_iload C dL_law_1797 6 rfl ?_
  refine z_if_ne (tgt := 1821) C dL_law_1799 (by decide) (fun ck => ?_) (fun ck => ?_)
  · refine z_goto (tgt := 1948) C dL_law_1821 (by decide) ?_
    refine z_lv (lv' := [(0, .ref bS), (1, .ref (a 0)), (2, .ref (b 0)), (3, .ref o), (4, .ref od), (5, .int (nI i))]) [0, 1, 2, 3, 4, 5] rfl ?_
    exact z_widen (by omega) (by omega) (hk _ _ _ _ _ (RelT_mk hok2))
  · refine z_aload_n C dL_law_1802 3 rfl ?_
    refine z_iconst (v := 0) C dL_law_1803 (by decide) ?_
    refine z_lald C 1 rfl 37 rfl dL_law_1804 0 rfl (by decide) (by decide) ?_
    refine z_iload C dL_law_1805 7 rfl ?_
    refine z_if_eq (tgt := 1814) C dL_law_1807 (by decide) (fun cb => ?_) (fun cb => ?_)
    · refine z_lconst (v := 0) C dL_law_1814 (by decide) ?_
      refine z_lcmp_eq (tgt := 1821) C dL_law_1815 dL_law_1816 (by decide) (fun _ => ?_) (fun q => absurd ((hval ck).trans (yb_t cb).symm) q)
      refine z_goto (tgt := 1948) C dL_law_1821 (by decide) ?_
      refine z_lv (lv' := [(0, .ref bS), (1, .ref (a 0)), (2, .ref (b 0)), (3, .ref o), (4, .ref od), (5, .int (nI i))]) [0, 1, 2, 3, 4, 5] rfl ?_
      exact z_widen (by omega) (by omega) (hk _ _ _ _ _ (RelT_mk hok2))
    · refine z_lconst (v := 1) C dL_law_1810 (by decide) ?_
      refine z_goto (tgt := 1815) C dL_law_1811 (by decide) ?_
      refine z_lcmp_eq (tgt := 1821) C dL_law_1815 dL_law_1816 (by decide) (fun _ => ?_) (fun q => absurd ((hval ck).trans (yb_f cb).symm) q)
      refine z_goto (tgt := 1948) C dL_law_1821 (by decide) ?_
      refine z_lv (lv' := [(0, .ref bS), (1, .ref (a 0)), (2, .ref (b 0)), (3, .ref o), (4, .ref od), (5, .int (nI i))]) [0, 1, 2, 3, 4, 5] rfl ?_
      exact z_widen (by omega) (by omega) (hk _ _ _ _ _ (RelT_mk hok2))
set_option maxRecDepth 20000 in
set_option maxHeartbeats 1000000 in
theorem lc_30 (C : zC p s m args c code 9 wsL_law RL A s.heap D vwCl (zT K)) (hX : xF A s) (hNc : yNc s) (hst : l.stackTraces = false) (hS : va_X bS L xs s s.heap) (hbl : bS < s.heap.size) (hbA : ¬ A bS) (hi : i + 6 ≤ L) (hL : L ≤ 3072)
    (hk : ∀ (u : S0) (v : S1) (g : Nat → Int64) (gd : Nat → UInt64) (k : Int32), RelT k u v → zW p l e room_1 s m args below meth c Q 9 A s.heap D vwCl (100 + (i + 6)) (600 + 2 * (i + 6)) (w1 K b v ++ wv K a o od (u, g, gd)) 1948 [(0, .ref bS), (1, .ref (a 0)), (2, .ref (b 0)), (3, .ref o), (4, .ref od), (5, .int (nI i))] []) {u : S0} {v : S1} {g : Nat → Int64} {gd : Nat → UInt64} {k0 : Int32} (hr : RelT k0 u v) : zW p l e room_1 s m args below meth c Q 9 A s.heap D vwCl (100 + i) (600 + 2 * i) (w1 K b v ++ wv K a o od (u, g, gd)) 1824 [(0, .ref bS), (1, .ref (a 0)), (2, .ref (b 0)), (3, .ref o), (4, .ref od), (5, .int (nI i))] [] := by
  obtain ⟨N, M, S, rl, rh, bl, bh, kl, kh, mn, vc, iv, sc, fl, fh, pt, nu, de, hok, rfl, rfl⟩ := hr
  have hN := hok.2.1
  refine z_aload_n C dL_law_1824 1 rfl ?_
  refine z_aload_n C dL_law_1825 0 rfl ?_
  refine z_iload C dL_law_1826 5 rfl ?_
  refine z_iconst (v := 1) C dL_law_1828 (by decide) ?_
  refine z_iadd C dL_law_1829 ?_
  refine z_sld C hS hbl hbA dL_law_1830 (i + 1) (nI_add i 1) (by omega) (by omega) ?_
  refine z_aload_n C dL_law_1831 3 rfl ?_
  refine y_callS (X := w1 K b (N, M, S, rl, rh, bl, bh, k0, fl, fh, pt, nu, de)) (As := [.ref (a 0), .int (xs (i + 1)), .ref o]) C hX hNc (wL_residualLow l D K a N M S rl rh bl bh kl kh mn vc iv sc o od g gd (xs (i + 1)) hst hN) (vx_cwSW 3 C.1.2.2.2.2 gL_law_L_residualLow rfl rfl rfl (by decide +kernel) ⟨Nat.le_of_ble_eq_true rfl, Nat.le_of_ble_eq_true rfl⟩) dL_law_1832 rfl rfl (Nat.le_of_ble_eq_true rfl) ⟨Nat.le_trans (by omega) rm_c, Nat.le_trans (by omega) rm_s⟩ rfl (fun k1 z1 hz => ?_)
  obtain ⟨u1, g1, gd1⟩ := z1
  refine z_istore (lv' := [(0, .ref bS), (1, .ref (a 0)), (2, .ref (b 0)), (3, .ref o), (4, .ref od), (5, .int (nI i)), (6, .int k1)]) C dL_law_1835 (by decide) [1, 2, 3, 4, 5, 6, 0] rfl ?_
  refine z_aload_n C dL_law_1837 2 rfl ?_
  refine z_aload_n C dL_law_1838 0 rfl ?_
  refine z_iload C dL_law_1839 5 rfl ?_
  refine z_iconst (v := 1) C dL_law_1841 (by decide) ?_
  refine z_iadd C dL_law_1842 ?_
  refine z_sld C hS hbl hbA dL_law_1843 (i + 1) (nI_add i 1) (by omega) (by omega) ?_
  refine z_callVl_l (As := [.int (xs (i + 1))]) (wc := w1 K b (N, M, S, rl, rh, bl, bh, k0, fl, fh, pt, nu, de)) (Y := wv K a o od (u1, g1, gd1)) C (c1_residualLow l D K b N M S rl rh bl bh k0 fl fh pt nu de (xs (i + 1)) hN) (cwV 1 C.1.2.2.2.2 gL_law_X1_residualLow rfl rfl rfl (by decide +kernel) ⟨Nat.le_of_ble_eq_true rfl, Nat.le_of_ble_eq_true rfl⟩) (ci := 3) rfl rfl 0 rfl dL_law_1844 rfl rfl (Nat.le_of_ble_eq_true rfl) ⟨Nat.le_trans (by omega) rm_c, Nat.le_trans (by omega) rm_s⟩ rfl (fun r1 v1 hv => ?_)
  obtain ⟨hval, hrel⟩ := pr_residualLow hok (kl := kl) (kh := kh) (mn := mn) (vc := vc) (iv := iv) (sc := sc) (fl := fl) (fh := fh) (pt := pt) (nu := nu) (de := de) hz hv
  clear hz hv
  obtain ⟨N2, M2, S2, rl2, rh2, bl2, bh2, kl2, kh2, mn2, vc2, iv2, sc2, fl2, fh2, pt2, nu2, de2, hok2, rfl, rfl⟩ := hrel
  refine z_lstore (lv' := [(0, .ref bS), (1, .ref (a 0)), (2, .ref (b 0)), (3, .ref o), (4, .ref od), (5, .int (nI i)), (6, .int k1), (7, .long r1)]) C dL_law_1847 (by decide) [1, 2, 3, 4, 5, 6, 7, 0] rfl ?_
  refine z_aload_n C dL_law_1849 2 rfl ?_
  refine z_callVi_l (As := []) (wc := w1 K b (N2, M2, S2, rl2, rh2, bl2, bh2, k1, fl2, fh2, pt2, nu2, de2)) (Y := wv K a o od ((N2, M2, S2, rl2, rh2, bl2, bh2, kl2, kh2, mn2, vc2, iv2, sc2), g1, gd1)) C (c1_thrown l D K b N2 M2 S2 rl2 rh2 bl2 bh2 k1 fl2 fh2 pt2 nu2 de2) (cwV 0 C.1.2.2.2.2 gL_law_X1_thrown rfl rfl rfl (by decide +kernel) ⟨Nat.le_of_ble_eq_true rfl, Nat.le_of_ble_eq_true rfl⟩) (ci := 3) rfl rfl 0 rfl dL_law_1850 rfl rfl (Nat.le_of_ble_eq_true rfl) ⟨Nat.le_trans (by omega) rm_c, Nat.le_trans (by omega) rm_s⟩ rfl (fun r3 v3 h3 => ?_)
  obtain ⟨h3, rfl⟩ := h3
  refine z_topi k1 h3 ?_
  refine z_iload C dL_law_1853 6 rfl ?_
  refine z_icmp_eq (tgt := 1860) C dL_law_1855 (by decide) (fun _ => ?_) (fun q => absurd rfl q)
  refine z_iload C dL_law_1860 6 rfl ?_
  refine z_if_ne (tgt := 1876) C dL_law_1862 (by decide) (fun ck => ?_) (fun ck => ?_)
  · refine z_goto (tgt := 1948) C dL_law_1876 (by decide) ?_
    refine z_lv (lv' := [(0, .ref bS), (1, .ref (a 0)), (2, .ref (b 0)), (3, .ref o), (4, .ref od), (5, .int (nI i))]) [0, 1, 2, 3, 4, 5] rfl ?_
    exact z_widen (by omega) (by omega) (hk _ _ _ _ _ (RelT_mk hok2))
  · refine z_aload_n C dL_law_1865 3 rfl ?_
    refine z_iconst (v := 0) C dL_law_1866 (by decide) ?_
    refine z_lald C 1 rfl 37 rfl dL_law_1867 0 rfl (by decide) (by decide) ?_
    refine z_lload C dL_law_1868 7 rfl ?_
    refine z_lcmp_eq (tgt := 1876) C dL_law_1870 dL_law_1871 (by decide) (fun _ => ?_) (fun q => absurd (hval ck) q)
    refine z_goto (tgt := 1948) C dL_law_1876 (by decide) ?_
    refine z_lv (lv' := [(0, .ref bS), (1, .ref (a 0)), (2, .ref (b 0)), (3, .ref o), (4, .ref od), (5, .int (nI i))]) [0, 1, 2, 3, 4, 5] rfl ?_
    exact z_widen (by omega) (by omega) (hk _ _ _ _ _ (RelT_mk hok2))
set_option maxRecDepth 20000 in
set_option maxHeartbeats 1000000 in
theorem lc_31 (C : zC p s m args c code 9 wsL_law RL A s.heap D vwCl (zT K)) (hX : xF A s) (hNc : yNc s) (hst : l.stackTraces = false) (hS : va_X bS L xs s s.heap) (hbl : bS < s.heap.size) (hbA : ¬ A bS) (hi : i + 6 ≤ L) (hL : L ≤ 3072)
    (hk : ∀ (u : S0) (v : S1) (g : Nat → Int64) (gd : Nat → UInt64) (k : Int32), RelT k u v → zW p l e room_1 s m args below meth c Q 9 A s.heap D vwCl (100 + (i + 6)) (600 + 2 * (i + 6)) (w1 K b v ++ wv K a o od (u, g, gd)) 1948 [(0, .ref bS), (1, .ref (a 0)), (2, .ref (b 0)), (3, .ref o), (4, .ref od), (5, .int (nI i))] []) {u : S0} {v : S1} {g : Nat → Int64} {gd : Nat → UInt64} {k0 : Int32} (hr : RelT k0 u v) : zW p l e room_1 s m args below meth c Q 9 A s.heap D vwCl (100 + i) (600 + 2 * i) (w1 K b v ++ wv K a o od (u, g, gd)) 1879 [(0, .ref bS), (1, .ref (a 0)), (2, .ref (b 0)), (3, .ref o), (4, .ref od), (5, .int (nI i))] [] := by
  obtain ⟨N, M, S, rl, rh, bl, bh, kl, kh, mn, vc, iv, sc, fl, fh, pt, nu, de, hok, rfl, rfl⟩ := hr
  have hN := hok.2.1
  refine z_aload_n C dL_law_1879 1 rfl ?_
  refine z_aload_n C dL_law_1880 0 rfl ?_
  refine z_iload C dL_law_1881 5 rfl ?_
  refine z_iconst (v := 1) C dL_law_1883 (by decide) ?_
  refine z_iadd C dL_law_1884 ?_
  refine z_sld C hS hbl hbA dL_law_1885 (i + 1) (nI_add i 1) (by omega) (by omega) ?_
  refine z_aload_n C dL_law_1886 3 rfl ?_
  refine y_callS (X := w1 K b (N, M, S, rl, rh, bl, bh, k0, fl, fh, pt, nu, de)) (As := [.ref (a 0), .int (xs (i + 1)), .ref o]) C hX hNc (wL_residualHigh l D K a N M S rl rh bl bh kl kh mn vc iv sc o od g gd (xs (i + 1)) hst hN) (vx_cwSW 3 C.1.2.2.2.2 gL_law_L_residualHigh rfl rfl rfl (by decide +kernel) ⟨Nat.le_of_ble_eq_true rfl, Nat.le_of_ble_eq_true rfl⟩) dL_law_1887 rfl rfl (Nat.le_of_ble_eq_true rfl) ⟨Nat.le_trans (by omega) rm_c, Nat.le_trans (by omega) rm_s⟩ rfl (fun k1 z1 hz => ?_)
  obtain ⟨u1, g1, gd1⟩ := z1
  refine z_istore (lv' := [(0, .ref bS), (1, .ref (a 0)), (2, .ref (b 0)), (3, .ref o), (4, .ref od), (5, .int (nI i)), (6, .int k1)]) C dL_law_1890 (by decide) [1, 2, 3, 4, 5, 6, 0] rfl ?_
  refine z_aload_n C dL_law_1892 2 rfl ?_
  refine z_aload_n C dL_law_1893 0 rfl ?_
  refine z_iload C dL_law_1894 5 rfl ?_
  refine z_iconst (v := 1) C dL_law_1896 (by decide) ?_
  refine z_iadd C dL_law_1897 ?_
  refine z_sld C hS hbl hbA dL_law_1898 (i + 1) (nI_add i 1) (by omega) (by omega) ?_
  refine z_callVl_l (As := [.int (xs (i + 1))]) (wc := w1 K b (N, M, S, rl, rh, bl, bh, k0, fl, fh, pt, nu, de)) (Y := wv K a o od (u1, g1, gd1)) C (c1_residualHigh l D K b N M S rl rh bl bh k0 fl fh pt nu de (xs (i + 1)) hN) (cwV 1 C.1.2.2.2.2 gL_law_X1_residualHigh rfl rfl rfl (by decide +kernel) ⟨Nat.le_of_ble_eq_true rfl, Nat.le_of_ble_eq_true rfl⟩) (ci := 3) rfl rfl 0 rfl dL_law_1899 rfl rfl (Nat.le_of_ble_eq_true rfl) ⟨Nat.le_trans (by omega) rm_c, Nat.le_trans (by omega) rm_s⟩ rfl (fun r1 v1 hv => ?_)
  obtain ⟨hval, hrel⟩ := pr_residualHigh hok (kl := kl) (kh := kh) (mn := mn) (vc := vc) (iv := iv) (sc := sc) (fl := fl) (fh := fh) (pt := pt) (nu := nu) (de := de) hz hv
  clear hz hv
  obtain ⟨N2, M2, S2, rl2, rh2, bl2, bh2, kl2, kh2, mn2, vc2, iv2, sc2, fl2, fh2, pt2, nu2, de2, hok2, rfl, rfl⟩ := hrel
  refine z_lstore (lv' := [(0, .ref bS), (1, .ref (a 0)), (2, .ref (b 0)), (3, .ref o), (4, .ref od), (5, .int (nI i)), (6, .int k1), (7, .long r1)]) C dL_law_1902 (by decide) [1, 2, 3, 4, 5, 6, 7, 0] rfl ?_
  refine z_aload_n C dL_law_1904 2 rfl ?_
  refine z_callVi_l (As := []) (wc := w1 K b (N2, M2, S2, rl2, rh2, bl2, bh2, k1, fl2, fh2, pt2, nu2, de2)) (Y := wv K a o od ((N2, M2, S2, rl2, rh2, bl2, bh2, kl2, kh2, mn2, vc2, iv2, sc2), g1, gd1)) C (c1_thrown l D K b N2 M2 S2 rl2 rh2 bl2 bh2 k1 fl2 fh2 pt2 nu2 de2) (cwV 0 C.1.2.2.2.2 gL_law_X1_thrown rfl rfl rfl (by decide +kernel) ⟨Nat.le_of_ble_eq_true rfl, Nat.le_of_ble_eq_true rfl⟩) (ci := 3) rfl rfl 0 rfl dL_law_1905 rfl rfl (Nat.le_of_ble_eq_true rfl) ⟨Nat.le_trans (by omega) rm_c, Nat.le_trans (by omega) rm_s⟩ rfl (fun r3 v3 h3 => ?_)
  obtain ⟨h3, rfl⟩ := h3
  refine z_topi k1 h3 ?_
  refine z_iload C dL_law_1908 6 rfl ?_
  refine z_icmp_eq (tgt := 1915) C dL_law_1910 (by decide) (fun _ => ?_) (fun q => absurd rfl q)
  refine z_iload C dL_law_1915 6 rfl ?_
  refine z_if_ne (tgt := 1931) C dL_law_1917 (by decide) (fun ck => ?_) (fun ck => ?_)
  · refine z_goto (tgt := 1948) C dL_law_1931 (by decide) ?_
    refine z_lv (lv' := [(0, .ref bS), (1, .ref (a 0)), (2, .ref (b 0)), (3, .ref o), (4, .ref od), (5, .int (nI i))]) [0, 1, 2, 3, 4, 5] rfl ?_
    exact z_widen (by omega) (by omega) (hk _ _ _ _ _ (RelT_mk hok2))
  · refine z_aload_n C dL_law_1920 3 rfl ?_
    refine z_iconst (v := 0) C dL_law_1921 (by decide) ?_
    refine z_lald C 1 rfl 37 rfl dL_law_1922 0 rfl (by decide) (by decide) ?_
    refine z_lload C dL_law_1923 7 rfl ?_
    refine z_lcmp_eq (tgt := 1931) C dL_law_1925 dL_law_1926 (by decide) (fun _ => ?_) (fun q => absurd (hval ck) q)
    refine z_goto (tgt := 1948) C dL_law_1931 (by decide) ?_
    refine z_lv (lv' := [(0, .ref bS), (1, .ref (a 0)), (2, .ref (b 0)), (3, .ref o), (4, .ref od), (5, .int (nI i))]) [0, 1, 2, 3, 4, 5] rfl ?_
    exact z_widen (by omega) (by omega) (hk _ _ _ _ _ (RelT_mk hok2))
set_option maxRecDepth 20000 in
set_option maxHeartbeats 1000000 in
theorem lc_32 (C : zC p s m args c code 9 wsL_law RL A s.heap D vwCl (zT K)) (hX : xF A s) (hNc : yNc s) (hst : l.stackTraces = false) (hS : va_X bS L xs s s.heap) (hbl : bS < s.heap.size) (hbA : ¬ A bS) (hi : i + 6 ≤ L) (hL : L ≤ 3072)
    (hk : ∀ (u : S0) (v : S1) (g : Nat → Int64) (gd : Nat → UInt64) (k : Int32), RelT k u v → zW p l e room_1 s m args below meth c Q 9 A s.heap D vwCl (100 + (i + 6)) (600 + 2 * (i + 6)) (w1 K b v ++ wv K a o od (u, g, gd)) 1948 [(0, .ref bS), (1, .ref (a 0)), (2, .ref (b 0)), (3, .ref o), (4, .ref od), (5, .int (nI i))] []) {u : S0} {v : S1} {g : Nat → Int64} {gd : Nat → UInt64} {k0 : Int32} (hr : RelT k0 u v) : zW p l e room_1 s m args below meth c Q 9 A s.heap D vwCl (100 + i) (600 + 2 * i) (w1 K b v ++ wv K a o od (u, g, gd)) 1934 [(0, .ref bS), (1, .ref (a 0)), (2, .ref (b 0)), (3, .ref o), (4, .ref od), (5, .int (nI i))] [] := by
  obtain ⟨N, M, S, rl, rh, bl, bh, kl, kh, mn, vc, iv, sc, fl, fh, pt, nu, de, hok, rfl, rfl⟩ := hr
  have hN := hok.2.1
  refine z_aload_n C dL_law_1934 1 rfl ?_
  refine z_callVl (X := w1 K b (N, M, S, rl, rh, bl, bh, k0, fl, fh, pt, nu, de)) (wc := w0 K a (N, M, S, rl, rh, bl, bh, kl, kh, mn, vc, iv, sc)) (Y := [(o, .inl (K 1, 1, .inr (.inl g))), (od, .inl (K 4, 1, .inr (.inr (.inr (.inl gd)))))]) (As := []) C (c0_digest l D K a N M S rl rh bl bh kl kh mn vc iv sc  hN) (cwV 0 C.1.2.2.2.2 gL_law_X0_digest rfl rfl rfl (by decide +kernel) ⟨Nat.le_of_ble_eq_true rfl, Nat.le_of_ble_eq_true rfl⟩) (ci := 2) rfl rfl 0 rfl dL_law_1935 rfl rfl (Nat.le_of_ble_eq_true rfl) ⟨Nat.le_trans (by omega) rm_c, Nat.le_trans (by omega) rm_s⟩ rfl (fun r0 u1 h0 => ?_)
  refine z_aload_n C dL_law_1938 2 rfl ?_
  refine z_callVl_l (As := []) (wc := w1 K b (N, M, S, rl, rh, bl, bh, k0, fl, fh, pt, nu, de)) (Y := w0 K a u1 ++ [(o, .inl (K 1, 1, .inr (.inl g))), (od, .inl (K 4, 1, .inr (.inr (.inr (.inl gd)))))]) C (c1_digest l D K b N M S rl rh bl bh k0 fl fh pt nu de  hN) (cwV 0 C.1.2.2.2.2 gL_law_X1_digest rfl rfl rfl (by decide +kernel) ⟨Nat.le_of_ble_eq_true rfl, Nat.le_of_ble_eq_true rfl⟩) (ci := 3) rfl rfl 0 rfl dL_law_1939 rfl rfl (Nat.le_of_ble_eq_true rfl) ⟨Nat.le_trans (by omega) rm_c, Nat.le_trans (by omega) rm_s⟩ rfl (fun r1 v1 hv => ?_)
  obtain ⟨hval, hrel⟩ := ps_digest hok (kl := kl) (kh := kh) (mn := mn) (vc := vc) (iv := iv) (sc := sc) (fl := fl) (fh := fh) (pt := pt) (nu := nu) (de := de) h0 hv
  clear h0 hv
  obtain ⟨N2, M2, S2, rl2, rh2, bl2, bh2, kl2, kh2, mn2, vc2, iv2, sc2, fl2, fh2, pt2, nu2, de2, hok2, rfl, rfl⟩ := hrel
  refine z_lcmp_eq (tgt := 1948) C dL_law_1942 dL_law_1943 (by decide) (fun _ => ?_) (fun q => absurd hval q)
  exact z_widen (by omega) (by omega) (hk _ _ _ _ _ (RelT_mk hok2))
end LCASE
