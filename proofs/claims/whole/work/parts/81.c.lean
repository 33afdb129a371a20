section LCASE
variable {p : Program} {l : Launch} {e : Env} {s : State} {m : MethodId} {args : Array Value} {below : List Frame} {meth : Method} {c : Code} {Q : State → Prop} {A : Nat → Prop} {D : va_G} {K : Nat → ClassId} {a b : Nat → Nat} {o od bS L i : Nat} {xs : Nat → Int32}
set_option maxRecDepth 20000 in
set_option maxHeartbeats 1000000 in
theorem lc_11 (C : zC p s m args c code 9 wsL_law RL A s.heap D vwCl (zT K)) (hX : xF A s) (hNc : yNc s) (hst : l.stackTraces = false) (hS : va_X bS L xs s s.heap) (hbl : bS < s.heap.size) (hbA : ¬ A bS) (hi : i + 6 ≤ L) (hL : L ≤ 3072)
    (hk : ∀ (u : S0) (v : S1) (g : Nat → Int64) (gd : Nat → UInt64) (k : Int32), RelT k u v → zW p l e room_1 s m args below meth c Q 9 A s.heap D vwCl (100 + (i + 6)) (600 + 2 * (i + 6)) (w1 K b v ++ wv K a o od (u, g, gd)) 1948 [(0, .ref bS), (1, .ref (a 0)), (2, .ref (b 0)), (3, .ref o), (4, .ref od), (5, .int (nI i))] []) {u : S0} {v : S1} {g : Nat → Int64} {gd : Nat → UInt64} {k0 : Int32} (hr : RelT k0 u v) : zW p l e room_1 s m args below meth c Q 9 A s.heap D vwCl (100 + i) (600 + 2 * i) (w1 K b v ++ wv K a o od (u, g, gd)) 857 [(0, .ref bS), (1, .ref (a 0)), (2, .ref (b 0)), (3, .ref o), (4, .ref od), (5, .int (nI i))] [] := by
  obtain ⟨N, M, S, rl, rh, bl, bh, kl, kh, mn, vc, iv, sc, fl, fh, pt, nu, de, hok, rfl, rfl⟩ := hr
  have hN := hok.2.1
  refine z_aload_n C dL_law_857 1 rfl ?_
  refine z_aload_n C dL_law_858 0 rfl ?_
  refine z_iload C dL_law_859 5 rfl ?_
  refine z_iconst (v := 1) C dL_law_861 (by decide) ?_
  refine z_iadd C dL_law_862 ?_
  refine z_sld C hS hbl hbA dL_law_863 (i + 1) (nI_add i 1) (by omega) (by omega) ?_
  refine z_aload_n C dL_law_864 3 rfl ?_
  refine y_callS (X := w1 K b (N, M, S, rl, rh, bl, bh, k0, fl, fh, pt, nu, de)) (As := [.ref (a 0), .int (xs (i + 1)), .ref o]) C hX hNc (wL_lowNumerator l D K a N M S rl rh bl bh kl kh mn vc iv sc o od g gd (xs (i + 1)) hst hN) (vx_cwSW 3 C.1.2.2.2.2 gL_law_L_lowNumerator rfl rfl rfl (by decide +kernel) ⟨Nat.le_of_ble_eq_true rfl, Nat.le_of_ble_eq_true rfl⟩) dL_law_865 rfl rfl (Nat.le_of_ble_eq_true rfl) ⟨Nat.le_trans (by omega) rm_c, Nat.le_trans (by omega) rm_s⟩ rfl (fun k1 z1 hz => ?_)
  obtain ⟨u1, g1, gd1⟩ := z1
  refine z_istore (lv' := [(0, .ref bS), (1, .ref (a 0)), (2, .ref (b 0)), (3, .ref o), (4, .ref od), (5, .int (nI i)), (6, .int k1)]) C dL_law_868 (by decide) [1, 2, 3, 4, 5, 6, 0] rfl ?_
  refine z_aload_n C dL_law_870 2 rfl ?_
  refine z_aload_n C dL_law_871 0 rfl ?_
  refine z_iload C dL_law_872 5 rfl ?_
  refine z_iconst (v := 1) C dL_law_874 (by decide) ?_
  refine z_iadd C dL_law_875 ?_
  refine z_sld C hS hbl hbA dL_law_876 (i + 1) (nI_add i 1) (by omega) (by omega) ?_
  refine z_callVl_l (As := [.int (xs (i + 1))]) (wc := w1 K b (N, M, S, rl, rh, bl, bh, k0, fl, fh, pt, nu, de)) (Y := wv K a o od (u1, g1, gd1)) C (c1_lowNumerator l D K b N M S rl rh bl bh k0 fl fh pt nu de (xs (i + 1)) hN (okAll_m hok)) (cwV 1 C.1.2.2.2.2 gL_law_X1_lowNumerator rfl rfl rfl (by decide +kernel) ⟨Nat.le_of_ble_eq_true rfl, Nat.le_of_ble_eq_true rfl⟩) (ci := 3) rfl rfl 0 rfl dL_law_877 rfl rfl (Nat.le_of_ble_eq_true rfl) ⟨Nat.le_trans (by omega) rm_c, Nat.le_trans (by omega) rm_s⟩ rfl (fun r1 v1 hv => ?_)
  obtain ⟨hval, hrel⟩ := pr_lowNumerator hok (kl := kl) (kh := kh) (mn := mn) (vc := vc) (iv := iv) (sc := sc) (fl := fl) (fh := fh) (pt := pt) (nu := nu) (de := de) hz hv
  clear hz hv
  obtain ⟨N2, M2, S2, rl2, rh2, bl2, bh2, kl2, kh2, mn2, vc2, iv2, sc2, fl2, fh2, pt2, nu2, de2, hok2, rfl, rfl⟩ := hrel
  refine z_lstore (lv' := [(0, .ref bS), (1, .ref (a 0)), (2, .ref (b 0)), (3, .ref o), (4, .ref od), (5, .int (nI i)), (6, .int k1), (7, .long r1)]) C dL_law_880 (by decide) [1, 2, 3, 4, 5, 6, 7, 0] rfl ?_
  refine z_aload_n C dL_law_882 2 rfl ?_
  refine z_callVi_l (As := []) (wc := w1 K b (N2, M2, S2, rl2, rh2, bl2, bh2, k1, fl2, fh2, pt2, nu2, de2)) (Y := wv K a o od ((N2, M2, S2, rl2, rh2, bl2, bh2, kl2, kh2, mn2, vc2, iv2, sc2), g1, gd1)) C (c1_thrown l D K b N2 M2 S2 rl2 rh2 bl2 bh2 k1 fl2 fh2 pt2 nu2 de2) (cwV 0 C.1.2.2.2.2 gL_law_X1_thrown rfl rfl rfl (by decide +kernel) ⟨Nat.le_of_ble_eq_true rfl, Nat.le_of_ble_eq_true rfl⟩) (ci := 3) rfl rfl 0 rfl dL_law_883 rfl rfl (Nat.le_of_ble_eq_true rfl) ⟨Nat.le_trans (by omega) rm_c, Nat.le_trans (by omega) rm_s⟩ rfl (fun r3 v3 h3 => ?_)
  obtain ⟨h3, rfl⟩ := h3
  refine z_topi k1 h3 ?_
  refine z_iload C dL_law_886 6 rfl ?_
  refine z_icmp_eq (tgt := 893) C dL_law_888 (by decide) (fun _ => ?_) (fun q => absurd rfl q)
  refine z_iload C dL_law_893 6 rfl ?_
  refine z_if_ne (tgt := 909) C dL_law_895 (by decide) (fun ck => ?_) (fun ck => ?_)
  · refine z_goto (tgt := 1948) C dL_law_909 (by decide) ?_
    refine z_lv (lv' := [(0, .ref bS), (1, .ref (a 0)), (2, .ref (b 0)), (3, .ref o), (4, .ref od), (5, .int (nI i))]) [0, 1, 2, 3, 4, 5] rfl ?_
    exact z_widen (by omega) (by omega) (hk _ _ _ _ _ (RelT_mk hok2))
  · refine z_aload_n C dL_law_898 3 rfl ?_
    refine z_iconst (v := 0) C dL_law_899 (by decide) ?_
    refine z_lald C 1 rfl 37 rfl dL_law_900 0 rfl (by decide) (by decide) ?_
    refine z_lload C dL_law_901 7 rfl ?_
    refine z_lcmp_eq (tgt := 909) C dL_law_903 dL_law_904 (by decide) (fun _ => ?_) (fun q => absurd (hval ck) q)
    refine z_goto (tgt := 1948) C dL_law_909 (by decide) ?_
    refine z_lv (lv' := [(0, .ref bS), (1, .ref (a 0)), (2, .ref (b 0)), (3, .ref o), (4, .ref od), (5, .int (nI i))]) [0, 1, 2, 3, 4, 5] rfl ?_
    exact z_widen (by omega) (by omega) (hk _ _ _ _ _ (RelT_mk hok2))
set_option maxRecDepth 20000 in
set_option maxHeartbeats 1000000 in
theorem lc_12 (C : zC p s m args c code 9 wsL_law RL A s.heap D vwCl (zT K)) (hX : xF A s) (hNc : yNc s) (hst : l.stackTraces = false) (hS : va_X bS L xs s s.heap) (hbl : bS < s.heap.size) (hbA : ¬ A bS) (hi : i + 6 ≤ L) (hL : L ≤ 3072)
    (hk : ∀ (u : S0) (v : S1) (g : Nat → Int64) (gd : Nat → UInt64) (k : Int32), RelT k u v → zW p l e room_1 s m args below meth c Q 9 A s.heap D vwCl (100 + (i + 6)) (600 + 2 * (i + 6)) (w1 K b v ++ wv K a o od (u, g, gd)) 1948 [(0, .ref bS), (1, .ref (a 0)), (2, .ref (b 0)), (3, .ref o), (4, .ref od), (5, .int (nI i))] []) {u : S0} {v : S1} {g : Nat → Int64} {gd : Nat → UInt64} {k0 : Int32} (hr : RelT k0 u v) : zW p l e room_1 s m args below meth c Q 9 A s.heap D vwCl (100 + i) (600 + 2 * i) (w1 K b v ++ wv K a o od (u, g, gd)) 912 [(0, .ref bS), (1, .ref (a 0)), (2, .ref (b 0)), (3, .ref o), (4, .ref od), (5, .int (nI i))] [] := by
  obtain ⟨N, M, S, rl, rh, bl, bh, kl, kh, mn, vc, iv, sc, fl, fh, pt, nu, de, hok, rfl, rfl⟩ := hr
  have hN := hok.2.1
  refine z_aload_n C dL_law_912 1 rfl ?_
  refine z_aload_n C dL_law_913 0 rfl ?_
  refine z_iload C dL_law_914 5 rfl ?_
  refine z_iconst (v := 1) C dL_law_916 (by decide) ?_
  refine z_iadd C dL_law_917 ?_
  refine z_sld C hS hbl hbA dL_law_918 (i + 1) (nI_add i 1) (by omega) (by omega) ?_
  refine z_aload_n C dL_law_919 3 rfl ?_
  refine y_callS (X := w1 K b (N, M, S, rl, rh, bl, bh, k0, fl, fh, pt, nu, de)) (As := [.ref (a 0), .int (xs (i + 1)), .ref o]) C hX hNc (wL_lowDenominator l D K a N M S rl rh bl bh kl kh mn vc iv sc o od g gd (xs (i + 1)) hst hN) (vx_cwSW 3 C.1.2.2.2.2 gL_law_L_lowDenominator rfl rfl rfl (by decide +kernel) ⟨Nat.le_of_ble_eq_true rfl, Nat.le_of_ble_eq_true rfl⟩) dL_law_920 rfl rfl (Nat.le_of_ble_eq_true rfl) ⟨Nat.le_trans (by omega) rm_c, Nat.le_trans (by omega) rm_s⟩ rfl (fun k1 z1 hz => ?_)
  obtain ⟨u1, g1, gd1⟩ := z1
  refine z_istore (lv' := [(0, .ref bS), (1, .ref (a 0)), (2, .ref (b 0)), (3, .ref o), (4, .ref od), (5, .int (nI i)), (6, .int k1)]) C dL_law_923 (by decide) [1, 2, 3, 4, 5, 6, 0] rfl ?_
  refine z_aload_n C dL_law_925 2 rfl ?_
  refine z_aload_n C dL_law_926 0 rfl ?_
  refine z_iload C dL_law_927 5 rfl ?_
  refine z_iconst (v := 1) C dL_law_929 (by decide) ?_
  refine z_iadd C dL_law_930 ?_
  refine z_sld C hS hbl hbA dL_law_931 (i + 1) (nI_add i 1) (by omega) (by omega) ?_
  refine z_callVl_l (As := [.int (xs (i + 1))]) (wc := w1 K b (N, M, S, rl, rh, bl, bh, k0, fl, fh, pt, nu, de)) (Y := wv K a o od (u1, g1, gd1)) C (c1_lowDenominator l D K b N M S rl rh bl bh k0 fl fh pt nu de (xs (i + 1)) hN (okAll_m hok)) (cwV 1 C.1.2.2.2.2 gL_law_X1_lowDenominator rfl rfl rfl (by decide +kernel) ⟨Nat.le_of_ble_eq_true rfl, Nat.le_of_ble_eq_true rfl⟩) (ci := 3) rfl rfl 0 rfl dL_law_932 rfl rfl (Nat.le_of_ble_eq_true rfl) ⟨Nat.le_trans (by omega) rm_c, Nat.le_trans (by omega) rm_s⟩ rfl (fun r1 v1 hv => ?_)
  obtain ⟨hval, hrel⟩ := pr_lowDenominator hok (kl := kl) (kh := kh) (mn := mn) (vc := vc) (iv := iv) (sc := sc) (fl := fl) (fh := fh) (pt := pt) (nu := nu) (de := de) hz hv
  clear hz hv
  obtain ⟨N2, M2, S2, rl2, rh2, bl2, bh2, kl2, kh2, mn2, vc2, iv2, sc2, fl2, fh2, pt2, nu2, de2, hok2, rfl, rfl⟩ := hrel
  refine z_lstore (lv' := [(0, .ref bS), (1, .ref (a 0)), (2, .ref (b 0)), (3, .ref o), (4, .ref od), (5, .int (nI i)), (6, .int k1), (7, .long r1)]) C dL_law_935 (by decide) [1, 2, 3, 4, 5, 6, 7, 0] rfl ?_
  refine z_aload_n C dL_law_937 2 rfl ?_
  refine z_callVi_l (As := []) (wc := w1 K b (N2, M2, S2, rl2, rh2, bl2, bh2, k1, fl2, fh2, pt2, nu2, de2)) (Y := wv K a o od ((N2, M2, S2, rl2, rh2, bl2, bh2, kl2, kh2, mn2, vc2, iv2, sc2), g1, gd1)) C (c1_thrown l D K b N2 M2 S2 rl2 rh2 bl2 bh2 k1 fl2 fh2 pt2 nu2 de2) (cwV 0 C.1.2.2.2.2 gL_law_X1_thrown rfl rfl rfl (by decide +kernel) ⟨Nat.le_of_ble_eq_true rfl, Nat.le_of_ble_eq_true rfl⟩) (ci := 3) rfl rfl 0 rfl dL_law_938 rfl rfl (Nat.le_of_ble_eq_true rfl) ⟨Nat.le_trans (by omega) rm_c, Nat.le_trans (by omega) rm_s⟩ rfl (fun r3 v3 h3 => ?_)
  obtain ⟨h3, rfl⟩ := h3
  refine z_topi k1 h3 ?_
  refine z_iload C dL_law_941 6 rfl ?_
  refine z_icmp_eq (tgt := 948) C dL_law_943 (by decide) (fun _ => ?_) (fun q => absurd rfl q)
  refine z_iload C dL_law_948 6 rfl ?_
  refine z_if_ne (tgt := 964) C dL_law_950 (by decide) (fun ck => ?_) (fun ck => ?_)
  · refine z_goto (tgt := 1948) C dL_law_964 (by decide) ?_
    refine z_lv (lv' := [(0, .ref bS), (1, .ref (a 0)), (2, .ref (b 0)), (3, .ref o), (4, .ref od), (5, .int (nI i))]) [0, 1, 2, 3, 4, 5] rfl ?_
    exact z_widen (by omega) (by omega) (hk _ _ _ _ _ (RelT_mk hok2))
  · refine z_aload_n C dL_law_953 3 rfl ?_
    refine z_iconst (v := 0) C dL_law_954 (by decide) ?_
    refine z_lald C 1 rfl 37 rfl dL_law_955 0 rfl (by decide) (by decide) ?_
    refine z_lload C dL_law_956 7 rfl ?_
    refine z_lcmp_eq (tgt := 964) C dL_law_958 dL_law_959 (by decide) (fun _ => ?_) (fun q => absurd (hval ck) q)
    refine z_goto (tgt := 1948) C dL_law_964 (by decide) ?_
    refine z_lv (lv' := [(0, .ref bS), (1, .ref (a 0)), (2, .ref (b 0)), (3, .ref o), (4, .ref od), (5, .int (nI i))]) [0, 1, 2, 3, 4, 5] rfl ?_
    exact z_widen (by omega) (by omega) (hk _ _ _ _ _ (RelT_mk hok2))
set_option maxRecDepth 20000 in
set_option maxHeartbeats 1000000 in
theorem lc_13 (C : zC p s m args c code 9 wsL_law RL A s.heap D vwCl (zT K)) (hX : xF A s) (hNc : yNc s) (hst : l.stackTraces = false) (hS : va_X bS L xs s s.heap) (hbl : bS < s.heap.size) (hbA : ¬ A bS) (hi : i + 6 ≤ L) (hL : L ≤ 3072)
    (hk : ∀ (u : S0) (v : S1) (g : Nat → Int64) (gd : Nat → UInt64) (k : Int32), RelT k u v → zW p l e room_1 s m args below meth c Q 9 A s.heap D vwCl (100 + (i + 6)) (600 + 2 * (i + 6)) (w1 K b v ++ wv K a o od (u, g, gd)) 1948 [(0, .ref bS), (1, .ref (a 0)), (2, .ref (b 0)), (3, .ref o), (4, .ref od), (5, .int (nI i))] []) {u : S0} {v : S1} {g : Nat → Int64} {gd : Nat → UInt64} {k0 : Int32} (hr : RelT k0 u v) : zW p l e room_1 s m args below meth c Q 9 A s.heap D vwCl (100 + i) (600 + 2 * i) (w1 K b v ++ wv K a o od (u, g, gd)) 967 [(0, .ref bS), (1, .ref (a 0)), (2, .ref (b 0)), (3, .ref o), (4, .ref od), (5, .int (nI i))] [] := by
  obtain ⟨N, M, S, rl, rh, bl, bh, kl, kh, mn, vc, iv, sc, fl, fh, pt, nu, de, hok, rfl, rfl⟩ := hr
  have hN := hok.2.1
  refine z_aload_n C dL_law_967 1 rfl ?_
  refine z_aload_n C dL_law_968 0 rfl ?_
  refine z_iload C dL_law_969 5 rfl ?_
  refine z_iconst (v := 1) C dL_law_971 (by decide) ?_
  refine z_iadd C dL_law_972 ?_
  refine z_sld C hS hbl hbA dL_law_973 (i + 1) (nI_add i 1) (by omega) (by omega) ?_
  refine z_aload_n C dL_law_974 3 rfl ?_
  refine y_callS (X := w1 K b (N, M, S, rl, rh, bl, bh, k0, fl, fh, pt, nu, de)) (As := [.ref (a 0), .int (xs (i + 1)), .ref o]) C hX hNc (wL_highNumerator l D K a N M S rl rh bl bh kl kh mn vc iv sc o od g gd (xs (i + 1)) hst hN) (vx_cwSW 3 C.1.2.2.2.2 gL_law_L_highNumerator rfl rfl rfl (by decide +kernel) ⟨Nat.le_of_ble_eq_true rfl, Nat.le_of_ble_eq_true rfl⟩) dL_law_975 rfl rfl (Nat.le_of_ble_eq_true rfl) ⟨Nat.le_trans (by omega) rm_c, Nat.le_trans (by omega) rm_s⟩ rfl (fun k1 z1 hz => ?_)
  obtain ⟨u1, g1, gd1⟩ := z1
  refine z_istore (lv' := [(0, .ref bS), (1, .ref (a 0)), (2, .ref (b 0)), (3, .ref o), (4, .ref od), (5, .int (nI i)), (6, .int k1)]) C dL_law_978 (by decide) [1, 2, 3, 4, 5, 6, 0] rfl ?_
  refine z_aload_n C dL_law_980 2 rfl ?_
  refine z_aload_n C dL_law_981 0 rfl ?_
  refine z_iload C dL_law_982 5 rfl ?_
  refine z_iconst (v := 1) C dL_law_984 (by decide) ?_
  refine z_iadd C dL_law_985 ?_
  refine z_sld C hS hbl hbA dL_law_986 (i + 1) (nI_add i 1) (by omega) (by omega) ?_
  refine z_callVl_l (As := [.int (xs (i + 1))]) (wc := w1 K b (N, M, S, rl, rh, bl, bh, k0, fl, fh, pt, nu, de)) (Y := wv K a o od (u1, g1, gd1)) C (c1_highNumerator l D K b N M S rl rh bl bh k0 fl fh pt nu de (xs (i + 1)) hN (okAll_m hok)) (cwV 1 C.1.2.2.2.2 gL_law_X1_highNumerator rfl rfl rfl (by decide +kernel) ⟨Nat.le_of_ble_eq_true rfl, Nat.le_of_ble_eq_true rfl⟩) (ci := 3) rfl rfl 0 rfl dL_law_987 rfl rfl (Nat.le_of_ble_eq_true rfl) ⟨Nat.le_trans (by omega) rm_c, Nat.le_trans (by omega) rm_s⟩ rfl (fun r1 v1 hv => ?_)
  obtain ⟨hval, hrel⟩ := pr_highNumerator hok (kl := kl) (kh := kh) (mn := mn) (vc := vc) (iv := iv) (sc := sc) (fl := fl) (fh := fh) (pt := pt) (nu := nu) (de := de) hz hv
  clear hz hv
  obtain ⟨N2, M2, S2, rl2, rh2, bl2, bh2, kl2, kh2, mn2, vc2, iv2, sc2, fl2, fh2, pt2, nu2, de2, hok2, rfl, rfl⟩ := hrel
  refine z_lstore (lv' := [(0, .ref bS), (1, .ref (a 0)), (2, .ref (b 0)), (3, .ref o), (4, .ref od), (5, .int (nI i)), (6, .int k1), (7, .long r1)]) C dL_law_990 (by decide) [1, 2, 3, 4, 5, 6, 7, 0] rfl ?_
  refine z_aload_n C dL_law_992 2 rfl ?_
  refine z_callVi_l (As := []) (wc := w1 K b (N2, M2, S2, rl2, rh2, bl2, bh2, k1, fl2, fh2, pt2, nu2, de2)) (Y := wv K a o od ((N2, M2, S2, rl2, rh2, bl2, bh2, kl2, kh2, mn2, vc2, iv2, sc2), g1, gd1)) C (c1_thrown l D K b N2 M2 S2 rl2 rh2 bl2 bh2 k1 fl2 fh2 pt2 nu2 de2) (cwV 0 C.1.2.2.2.2 gL_law_X1_thrown rfl rfl rfl (by decide +kernel) ⟨Nat.le_of_ble_eq_true rfl, Nat.le_of_ble_eq_true rfl⟩) (ci := 3) rfl rfl 0 rfl dL_law_993 rfl rfl (Nat.le_of_ble_eq_true rfl) ⟨Nat.le_trans (by omega) rm_c, Nat.le_trans (by omega) rm_s⟩ rfl (fun r3 v3 h3 => ?_)
  obtain ⟨h3, rfl⟩ := h3
  refine z_topi k1 h3 ?_
  refine z_iload C dL_law_996 6 rfl ?_
  refine z_icmp_eq (tgt := 1003) C dL_law_998 (by decide) (fun _ => ?_) (fun q => absurd rfl q)
  refine z_iload C dL_law_1003 6 rfl ?_
  refine z_if_ne (tgt := 1019) C dL_law_1005 (by decide) (fun ck => ?_) (fun ck => ?_)
  · refine z_goto (tgt := 1948) C dL_law_1019 (by decide) ?_
    refine z_lv (lv' := [(0, .ref bS), (1, .ref (a 0)), (2, .ref (b 0)), (3, .ref o), (4, .ref od), (5, .int (nI i))]) [0, 1, 2, 3, 4, 5] rfl ?_
    exact z_widen (by omega) (by omega) (hk _ _ _ _ _ (RelT_mk hok2))
  · refine z_aload_n C dL_law_1008 3 rfl ?_
    refine z_iconst (v := 0) C dL_law_1009 (by decide) ?_
    refine z_lald C 1 rfl 37 rfl dL_law_1010 0 rfl (by decide) (by decide) ?_
    refine z_lload C dL_law_1011 7 rfl ?_
    refine z_lcmp_eq (tgt := 1019) C dL_law_1013 dL_law_1014 (by decide) (fun _ => ?_) (fun q => absurd (hval ck) q)
    refine z_goto (tgt := 1948) C dL_law_1019 (by decide) ?_
    refine z_lv (lv' := [(0, .ref bS), (1, .ref (a 0)), (2, .ref (b 0)), (3, .ref o), (4, .ref od), (5, .int (nI i))]) [0, 1, 2, 3, 4, 5] rfl ?_
    exact z_widen (by omega) (by omega) (hk _ _ _ _ _ (RelT_mk hok2))
set_option maxRecDepth 20000 in
set_option maxHeartbeats 1000000 in
theorem lc_14 (C : zC p s m args c code 9 wsL_law RL A s.heap D vwCl (zT K)) (hX : xF A s) (hNc : yNc s) (hst : l.stackTraces = false) (hS : va_X bS L xs s s.heap) (hbl : bS < s.heap.size) (hbA : ¬ A bS) (hi : i + 6 ≤ L) (hL : L ≤ 3072)
    (hk : ∀ (u : S0) (v : S1) (g : Nat → Int64) (gd : Nat → UInt64) (k : Int32), RelT k u v → zW p l e room_1 s m args below meth c Q 9 A s.heap D vwCl (100 + (i + 6)) (600 + 2 * (i + 6)) (w1 K b v ++ wv K a o od (u, g, gd)) 1948 [(0, .ref bS), (1, .ref (a 0)), (2, .ref (b 0)), (3, .ref o), (4, .ref od), (5, .int (nI i))] []) {u : S0} {v : S1} {g : Nat → Int64} {gd : Nat → UInt64} {k0 : Int32} (hr : RelT k0 u v) : zW p l e room_1 s m args below meth c Q 9 A s.heap D vwCl (100 + i) (600 + 2 * i) (w1 K b v ++ wv K a o od (u, g, gd)) 1022 [(0, .ref bS), (1, .ref (a 0)), (2, .ref (b 0)), (3, .ref o), (4, .ref od), (5, .int (nI i))] [] := by
  obtain ⟨N, M, S, rl, rh, bl, bh, kl, kh, mn, vc, iv, sc, fl, fh, pt, nu, de, hok, rfl, rfl⟩ := hr
  have hN := hok.2.1
  refine z_aload_n C dL_law_1022 1 rfl ?_
  refine z_aload_n C dL_law_1023 0 rfl ?_
  refine z_iload C dL_law_1024 5 rfl ?_
  refine z_iconst (v := 1) C dL_law_1026 (by decide) ?_
  refine z_iadd C dL_law_1027 ?_
  refine z_sld C hS hbl hbA dL_law_1028 (i + 1) (nI_add i 1) (by omega) (by omega) ?_
  refine z_aload_n C dL_law_1029 3 rfl ?_
  refine y_callS (X := w1 K b (N, M, S, rl, rh, bl, bh, k0, fl, fh, pt, nu, de)) (As := [.ref (a 0), .int (xs (i + 1)), .ref o]) C hX hNc (wL_highDenominator l D K a N M S rl rh bl bh kl kh mn vc iv sc o od g gd (xs (i + 1)) hst hN) (vx_cwSW 3 C.1.2.2.2.2 gL_law_L_highDenominator rfl rfl rfl (by decide +kernel) ⟨Nat.le_of_ble_eq_true rfl, Nat.le_of_ble_eq_true rfl⟩) dL_law_1030 rfl rfl (Nat.le_of_ble_eq_true rfl) ⟨Nat.le_trans (by omega) rm_c, Nat.le_trans (by omega) rm_s⟩ rfl (fun k1 z1 hz => ?_)
  obtain ⟨u1, g1, gd1⟩ := z1
  refine z_istore (lv' := [(0, .ref bS), (1, .ref (a 0)), (2, .ref (b 0)), (3, .ref o), (4, .ref od), (5, .int (nI i)), (6, .int k1)]) C dL_law_1033 (by decide) [1, 2, 3, 4, 5, 6, 0] rfl ?_
  refine z_aload_n C dL_law_1035 2 rfl ?_
  refine z_aload_n C dL_law_1036 0 rfl ?_
  refine z_iload C dL_law_1037 5 rfl ?_
  refine z_iconst (v := 1) C dL_law_1039 (by decide) ?_
  refine z_iadd C dL_law_1040 ?_
  refine z_sld C hS hbl hbA dL_law_1041 (i + 1) (nI_add i 1) (by omega) (by omega) ?_
  refine z_callVl_l (As := [.int (xs (i + 1))]) (wc := w1 K b (N, M, S, rl, rh, bl, bh, k0, fl, fh, pt, nu, de)) (Y := wv K a o od (u1, g1, gd1)) C (c1_highDenominator l D K b N M S rl rh bl bh k0 fl fh pt nu de (xs (i + 1)) hN (okAll_m hok)) (cwV 1 C.1.2.2.2.2 gL_law_X1_highDenominator rfl rfl rfl (by decide +kernel) ⟨Nat.le_of_ble_eq_true rfl, Nat.le_of_ble_eq_true rfl⟩) (ci := 3) rfl rfl 0 rfl dL_law_1042 rfl rfl (Nat.le_of_ble_eq_true rfl) ⟨Nat.le_trans (by omega) rm_c, Nat.le_trans (by omega) rm_s⟩ rfl (fun r1 v1 hv => ?_)
  obtain ⟨hval, hrel⟩ := pr_highDenominator hok (kl := kl) (kh := kh) (mn := mn) (vc := vc) (iv := iv) (sc := sc) (fl := fl) (fh := fh) (pt := pt) (nu := nu) (de := de) hz hv
  clear hz hv
  obtain ⟨N2, M2, S2, rl2, rh2, bl2, bh2, kl2, kh2, mn2, vc2, iv2, sc2, fl2, fh2, pt2, nu2, de2, hok2, rfl, rfl⟩ := hrel
  refine z_lstore (lv' := [(0, .ref bS), (1, .ref (a 0)), (2, .ref (b 0)), (3, .ref o), (4, .ref od), (5, .int (nI i)), (6, .int k1), (7, .long r1)]) C dL_law_1045 (by decide) [1, 2, 3, 4, 5, 6, 7, 0] rfl ?_
  refine z_aload_n C dL_law_1047 2 rfl ?_
  refine z_callVi_l (As := []) (wc := w1 K b (N2, M2, S2, rl2, rh2, bl2, bh2, k1, fl2, fh2, pt2, nu2, de2)) (Y := wv K a o od ((N2, M2, S2, rl2, rh2, bl2, bh2, kl2, kh2, mn2, vc2, iv2, sc2), g1, gd1)) C (c1_thrown l D K b N2 M2 S2 rl2 rh2 bl2 bh2 k1 fl2 fh2 pt2 nu2 de2) (cwV 0 C.1.2.2.2.2 gL_law_X1_thrown rfl rfl rfl (by decide +kernel) ⟨Nat.le_of_ble_eq_true rfl, Nat.le_of_ble_eq_true rfl⟩) (ci := 3) rfl rfl 0 rfl dL_law_1048 rfl rfl (Nat.le_of_ble_eq_true rfl) ⟨Nat.le_trans (by omega) rm_c, Nat.le_trans (by omega) rm_s⟩ rfl (fun r3 v3 h3 => ?_)
  obtain ⟨h3, rfl⟩ := h3
  refine z_topi k1 h3 ?_
  refine z_iload C dL_law_1051 6 rfl ?_
  refine z_icmp_eq (tgt := 1058) C dL_law_1053 (by decide) (fun _ => ?_) (fun q => absurd rfl q)
  refine z_iload C dL_law_1058 6 rfl ?_
  refine z_if_ne (tgt := 1074) C dL_law_1060 (by decide) (fun ck => ?_) (fun ck => ?_)
  · refine z_goto (tgt := 1948) C dL_law_1074 (by decide) ?_
    refine z_lv (lv' := [(0, .ref bS), (1, .ref (a 0)), (2, .ref (b 0)), (3, .ref o), (4, .ref od), (5, .int (nI i))]) [0, 1, 2, 3, 4, 5] rfl ?_
    exact z_widen (by omega) (by omega) (hk _ _ _ _ _ (RelT_mk hok2))
  · refine z_aload_n C dL_law_1063 3 rfl ?_
    refine z_iconst (v := 0) C dL_law_1064 (by decide) ?_
    refine z_lald C 1 rfl 37 rfl dL_law_1065 0 rfl (by decide) (by decide) ?_
    refine z_lload C dL_law_1066 7 rfl ?_
    refine z_lcmp_eq (tgt := 1074) C dL_law_1068 dL_law_1069 (by decide) (fun _ => ?_) (fun q => absurd (hval ck) q)
    refine z_goto (tgt := 1948) C dL_law_1074 (by decide) ?_
    refine z_lv (lv' := [(0, .ref bS), (1, .ref (a 0)), (2, .ref (b 0)), (3, .ref o), (4, .ref od), (5, .int (nI i))]) [0, 1, 2, 3, 4, 5] rfl ?_
    exact z_widen (by omega) (by omega) (hk _ _ _ _ _ (RelT_mk hok2))
set_option maxRecDepth 20000 in
set_option maxHeartbeats 1000000 in
theorem lc_15 (C : zC p s m args c code 9 wsL_law RL A s.heap D vwCl (zT K)) (hX : xF A s) (hNc : yNc s) (hst : l.stackTraces = false) (hS : va_X bS L xs s s.heap) (hbl : bS < s.heap.size) (hbA : ¬ A bS) (hi : i + 6 ≤ L) (hL : L ≤ 3072)
    (hk : ∀ (u : S0) (v : S1) (g : Nat → Int64) (gd : Nat → UInt64) (k : Int32), RelT k u v → zW p l e room_1 s m args below meth c Q 9 A s.heap D vwCl (100 + (i + 6)) (600 + 2 * (i + 6)) (w1 K b v ++ wv K a o od (u, g, gd)) 1948 [(0, .ref bS), (1, .ref (a 0)), (2, .ref (b 0)), (3, .ref o), (4, .ref od), (5, .int (nI i))] []) {u : S0} {v : S1} {g : Nat → Int64} {gd : Nat → UInt64} {k0 : Int32} (hr : RelT k0 u v) : zW p l e room_1 s m args below meth c Q 9 A s.heap D vwCl (100 + i) (600 + 2 * i) (w1 K b v ++ wv K a o od (u, g, gd)) 1077 [(0, .ref bS), (1, .ref (a 0)), (2, .ref (b 0)), (3, .ref o), (4, .ref od), (5, .int (nI i))] [] := by
  obtain ⟨N, M, S, rl, rh, bl, bh, kl, kh, mn, vc, iv, sc, fl, fh, pt, nu, de, hok, rfl, rfl⟩ := hr
  have hN := hok.2.1
  refine z_aload_n C dL_law_1077 1 rfl ?_
  refine z_aload_n C dL_law_1078 0 rfl ?_
  refine z_iload C dL_law_1079 5 rfl ?_
  refine z_iconst (v := 1) C dL_law_1081 (by decide) ?_
  refine z_iadd C dL_law_1082 ?_
  refine z_sld C hS hbl hbA dL_law_1083 (i + 1) (nI_add i 1) (by omega) (by omega) ?_
  refine z_aload_n C dL_law_1084 0 rfl ?_
  refine z_iload C dL_law_1085 5 rfl ?_
  refine z_iconst (v := 2) C dL_law_1087 (by decide) ?_
  refine z_iadd C dL_law_1088 ?_
  refine z_sld C hS hbl hbA dL_law_1089 (i + 2) (nI_add i 2) (by omega) (by omega) ?_
  refine z_aload_n C dL_law_1090 3 rfl ?_
  refine y_callS (X := w1 K b (N, M, S, rl, rh, bl, bh, k0, fl, fh, pt, nu, de)) (As := [.ref (a 0), .int (xs (i + 1)), .int (xs (i + 2)), .ref o]) C hX hNc (wL_inverseNumerator l D K a N M S rl rh bl bh kl kh mn vc iv sc o od g gd (xs (i + 1)) (xs (i + 2)) hst hN) (vx_cwSW 4 C.1.2.2.2.2 gL_law_L_inverseNumerator rfl rfl rfl (by decide +kernel) ⟨Nat.le_of_ble_eq_true rfl, Nat.le_of_ble_eq_true rfl⟩) dL_law_1091 rfl rfl (Nat.le_of_ble_eq_true rfl) ⟨Nat.le_trans (by omega) rm_c, Nat.le_trans (by omega) rm_s⟩ rfl (fun k1 z1 hz => ?_)
  obtain ⟨u1, g1, gd1⟩ := z1
  refine z_istore (lv' := [(0, .ref bS), (1, .ref (a 0)), (2, .ref (b 0)), (3, .ref o), (4, .ref od), (5, .int (nI i)), (6, .int k1)]) C dL_law_1094 (by decide) [1, 2, 3, 4, 5, 6, 0] rfl ?_
  refine z_aload_n C dL_law_1096 2 rfl ?_
  refine z_aload_n C dL_law_1097 0 rfl ?_
  refine z_iload C dL_law_1098 5 rfl ?_
  refine z_iconst (v := 1) C dL_law_1100 (by decide) ?_
  refine z_iadd C dL_law_1101 ?_
  refine z_sld C hS hbl hbA dL_law_1102 (i + 1) (nI_add i 1) (by omega) (by omega) ?_
  refine z_aload_n C dL_law_1103 0 rfl ?_
  refine z_iload C dL_law_1104 5 rfl ?_
  refine z_iconst (v := 2) C dL_law_1106 (by decide) ?_
  refine z_iadd C dL_law_1107 ?_
  refine z_sld C hS hbl hbA dL_law_1108 (i + 2) (nI_add i 2) (by omega) (by omega) ?_
  refine z_callVl_l (As := [.int (xs (i + 1)), .int (xs (i + 2))]) (wc := w1 K b (N, M, S, rl, rh, bl, bh, k0, fl, fh, pt, nu, de)) (Y := wv K a o od (u1, g1, gd1)) C (c1_inverseNumerator l D K b N M S rl rh bl bh k0 fl fh pt nu de (xs (i + 1)) (xs (i + 2)) hN (okAll_m hok)) (cwV 2 C.1.2.2.2.2 gL_law_X1_inverseNumerator rfl rfl rfl (by decide +kernel) ⟨Nat.le_of_ble_eq_true rfl, Nat.le_of_ble_eq_true rfl⟩) (ci := 3) rfl rfl 0 rfl dL_law_1109 rfl rfl (Nat.le_of_ble_eq_true rfl) ⟨Nat.le_trans (by omega) rm_c, Nat.le_trans (by omega) rm_s⟩ rfl (fun r1 v1 hv => ?_)
  obtain ⟨hval, hrel⟩ := pr_inverseNumerator hok (kl := kl) (kh := kh) (mn := mn) (vc := vc) (iv := iv) (sc := sc) (fl := fl) (fh := fh) (pt := pt) (nu := nu) (de := de) hz hv
  clear hz hv
  obtain ⟨N2, M2, S2, rl2, rh2, bl2, bh2, kl2, kh2, mn2, vc2, iv2, sc2, fl2, fh2, pt2, nu2, de2, hok2, rfl, rfl⟩ := hrel
  refine z_lstore (lv' := [(0, .ref bS), (1, .ref (a 0)), (2, .ref (b 0)), (3, .ref o), (4, .ref od), (5, .int (nI i)), (6, .int k1), (7, .long r1)]) C dL_law_1112 (by decide) [1, 2, 3, 4, 5, 6, 7, 0] rfl ?_
  refine z_aload_n C dL_law_1114 2 rfl ?_
  refine z_callVi_l (As := []) (wc := w1 K b (N2, M2, S2, rl2, rh2, bl2, bh2, k1, fl2, fh2, pt2, nu2, de2)) (Y := wv K a o od ((N2, M2, S2, rl2, rh2, bl2, bh2, kl2, kh2, mn2, vc2, iv2, sc2), g1, gd1)) C (c1_thrown l D K b N2 M2 S2 rl2 rh2 bl2 bh2 k1 fl2 fh2 pt2 nu2 de2) (cwV 0 C.1.2.2.2.2 gL_law_X1_thrown rfl rfl rfl (by decide +kernel) ⟨Nat.le_of_ble_eq_true rfl, Nat.le_of_ble_eq_true rfl⟩) (ci := 3) rfl rfl 0 rfl dL_law_1115 rfl rfl (Nat.le_of_ble_eq_true rfl) ⟨Nat.le_trans (by omega) rm_c, Nat.le_trans (by omega) rm_s⟩ rfl (fun r3 v3 h3 => ?_)
  obtain ⟨h3, rfl⟩ := h3
  refine z_topi k1 h3 ?_
  refine z_iload C dL_law_1118 6 rfl ?_
  refine z_icmp_eq (tgt := 1125) C dL_law_1120 (by decide) (fun _ => ?_) (fun q => absurd rfl q)
  refine z_iload C dL_law_1125 6 rfl ?_
  refine z_if_ne (tgt := 1141) C dL_law_1127 (by decide) (fun ck => ?_) (fun ck => ?_)
  · refine z_goto (tgt := 1948) C dL_law_1141 (by decide) ?_
    refine z_lv (lv' := [(0, .ref bS), (1, .ref (a 0)), (2, .ref (b 0)), (3, .ref o), (4, .ref od), (5, .int (nI i))]) [0, 1, 2, 3, 4, 5] rfl ?_
    exact z_widen (by omega) (by omega) (hk _ _ _ _ _ (RelT_mk hok2))
  · refine z_aload_n C dL_law_1130 3 rfl ?_
    refine z_iconst (v := 0) C dL_law_1131 (by decide) ?_
    refine z_lald C 1 rfl 37 rfl dL_law_1132 0 rfl (by decide) (by decide) ?_
    refine z_lload C dL_law_1133 7 rfl ?_
    refine z_lcmp_eq (tgt := 1141) C dL_law_1135 dL_law_1136 (by decide) (fun _ => ?_) (fun q => absurd (hval ck) q)
    refine z_goto (tgt := 1948) C dL_law_1141 (by decide) ?_
    refine z_lv (lv' := [(0, .ref bS), (1, .ref (a 0)), (2, .ref (b 0)), (3, .ref o), (4, .ref od), (5, .int (nI i))]) [0, 1, 2, 3, 4, 5] rfl ?_
    exact z_widen (by omega) (by omega) (hk _ _ _ _ _ (RelT_mk hok2))
set_option maxRecDepth 20000 in
set_option maxHeartbeats 1000000 in
theorem lc_16 (C : zC p s m args c code 9 wsL_law RL A s.heap D vwCl (zT K)) (hX : xF A s) (hNc : yNc s) (hst : l.stackTraces = false) (hS : va_X bS L xs s s.heap) (hbl : bS < s.heap.size) (hbA : ¬ A bS) (hi : i + 6 ≤ L) (hL : L ≤ 3072)
    (hk : ∀ (u : S0) (v : S1) (g : Nat → Int64) (gd : Nat → UInt64) (k : Int32), RelT k u v → zW p l e room_1 s m args below meth c Q 9 A s.heap D vwCl (100 + (i + 6)) (600 + 2 * (i + 6)) (w1 K b v ++ wv K a o od (u, g, gd)) 1948 [(0, .ref bS), (1, .ref (a 0)), (2, .ref (b 0)), (3, .ref o), (4, .ref od), (5, .int (nI i))] []) {u : S0} {v : S1} {g : Nat → Int64} {gd : Nat → UInt64} {k0 : Int32} (hr : RelT k0 u v) : zW p l e room_1 s m args below meth c Q 9 A s.heap D vwCl (100 + i) (600 + 2 * i) (w1 K b v ++ wv K a o od (u, g, gd)) 1144 [(0, .ref bS), (1, .ref (a 0)), (2, .ref (b 0)), (3, .ref o), (4, .ref od), (5, .int (nI i))] [] := by
  obtain ⟨N, M, S, rl, rh, bl, bh, kl, kh, mn, vc, iv, sc, fl, fh, pt, nu, de, hok, rfl, rfl⟩ := hr
  have hN := hok.2.1
  refine z_aload_n C dL_law_1144 1 rfl ?_
  refine z_aload_n C dL_law_1145 0 rfl ?_
  refine z_iload C dL_law_1146 5 rfl ?_
  refine z_iconst (v := 1) C dL_law_1148 (by decide) ?_
  refine z_iadd C dL_law_1149 ?_
  refine z_sld C hS hbl hbA dL_law_1150 (i + 1) (nI_add i 1) (by omega) (by omega) ?_
  refine z_aload_n C dL_law_1151 0 rfl ?_
  refine z_iload C dL_law_1152 5 rfl ?_
  refine z_iconst (v := 2) C dL_law_1154 (by decide) ?_
  refine z_iadd C dL_law_1155 ?_
  refine z_sld C hS hbl hbA dL_law_1156 (i + 2) (nI_add i 2) (by omega) (by omega) ?_
  refine z_aload_n C dL_law_1157 3 rfl ?_
  refine y_callS (X := w1 K b (N, M, S, rl, rh, bl, bh, k0, fl, fh, pt, nu, de)) (As := [.ref (a 0), .int (xs (i + 1)), .int (xs (i + 2)), .ref o]) C hX hNc (wL_inverseDenominator l D K a N M S rl rh bl bh kl kh mn vc iv sc o od g gd (xs (i + 1)) (xs (i + 2)) hst hN) (vx_cwSW 4 C.1.2.2.2.2 gL_law_L_inverseDenominator rfl rfl rfl (by decide +kernel) ⟨Nat.le_of_ble_eq_true rfl, Nat.le_of_ble_eq_true rfl⟩) dL_law_1158 rfl rfl (Nat.le_of_ble_eq_true rfl) ⟨Nat.le_trans (by omega) rm_c, Nat.le_trans (by omega) rm_s⟩ rfl (fun k1 z1 hz => ?_)
  obtain ⟨u1, g1, gd1⟩ := z1
  refine z_istore (lv' := [(0, .ref bS), (1, .ref (a 0)), (2, .ref (b 0)), (3, .ref o), (4, .ref od), (5, .int (nI i)), (6, .int k1)]) C dL_law_1161 (by decide) [1, 2, 3, 4, 5, 6, 0] rfl ?_
  refine z_aload_n C dL_law_1163 2 rfl ?_
  refine z_aload_n C dL_law_1164 0 rfl ?_
  refine z_iload C dL_law_1165 5 rfl ?_
  refine z_iconst (v := 1) C dL_law_1167 (by decide) ?_
  refine z_iadd C dL_law_1168 ?_
  refine z_sld C hS hbl hbA dL_law_1169 (i + 1) (nI_add i 1) (by omega) (by omega) ?_
  refine z_aload_n C dL_law_1170 0 rfl ?_
  refine z_iload C dL_law_1171 5 rfl ?_
  refine z_iconst (v := 2) C dL_law_1173 (by decide) ?_
  refine z_iadd C dL_law_1174 ?_
  refine z_sld C hS hbl hbA dL_law_1175 (i + 2) (nI_add i 2) (by omega) (by omega) ?_
  refine z_callVl_l (As := [.int (xs (i + 1)), .int (xs (i + 2))]) (wc := w1 K b (N, M, S, rl, rh, bl, bh, k0, fl, fh, pt, nu, de)) (Y := wv K a o od (u1, g1, gd1)) C (c1_inverseDenominator l D K b N M S rl rh bl bh k0 fl fh pt nu de (xs (i + 1)) (xs (i + 2)) hN (okAll_m hok)) (cwV 2 C.1.2.2.2.2 gL_law_X1_inverseDenominator rfl rfl rfl (by decide +kernel) ⟨Nat.le_of_ble_eq_true rfl, Nat.le_of_ble_eq_true rfl⟩) (ci := 3) rfl rfl 0 rfl dL_law_1176 rfl rfl (Nat.le_of_ble_eq_true rfl) ⟨Nat.le_trans (by omega) rm_c, Nat.le_trans (by omega) rm_s⟩ rfl (fun r1 v1 hv => ?_)
  obtain ⟨hval, hrel⟩ := pr_inverseDenominator hok (kl := kl) (kh := kh) (mn := mn) (vc := vc) (iv := iv) (sc := sc) (fl := fl) (fh := fh) (pt := pt) (nu := nu) (de := de) hz hv
  clear hz hv
  obtain ⟨N2, M2, S2, rl2, rh2, bl2, bh2, kl2, kh2, mn2, vc2, iv2, sc2, fl2, fh2, pt2, nu2, de2, hok2, rfl, rfl⟩ := hrel
  refine z_lstore (lv' := [(0, .ref bS), (1, .ref (a 0)), (2, .ref (b 0)), (3, .ref o), (4, .ref od), (5, .int (nI i)), (6, .int k1), (7, .long r1)]) C dL_law_1179 (by decide) [1, 2, 3, 4, 5, 6, 7, 0] rfl ?_
  refine z_aload_n C dL_law_1181 2 rfl ?_
  refine z_callVi_l (As := []) (wc := w1 K b (N2, M2, S2, rl2, rh2, bl2, bh2, k1, fl2, fh2, pt2, nu2, de2)) (Y := wv K a o od ((N2, M2, S2, rl2, rh2, bl2, bh2, kl2, kh2, mn2, vc2, iv2, sc2), g1, gd1)) C (c1_thrown l D K b N2 M2 S2 rl2 rh2 bl2 bh2 k1 fl2 fh2 pt2 nu2 de2) (cwV 0 C.1.2.2.2.2 gL_law_X1_thrown rfl rfl rfl (by decide +kernel) ⟨Nat.le_of_ble_eq_true rfl, Nat.le_of_ble_eq_true rfl⟩) (ci := 3) rfl rfl 0 rfl dL_law_1182 rfl rfl (Nat.le_of_ble_eq_true rfl) ⟨Nat.le_trans (by omega) rm_c, Nat.le_trans (by omega) rm_s⟩ rfl (fun r3 v3 h3 => ?_)
  obtain ⟨h3, rfl⟩ := h3
  refine z_topi k1 h3 ?_
  refine z_iload C dL_law_1185 6 rfl ?_
  refine z_icmp_eq (tgt := 1192) C dL_law_1187 (by decide) (fun _ => ?_) (fun q => absurd rfl q)
  refine z_iload C dL_law_1192 6 rfl ?_
  refine z_if_ne (tgt := 1208) C dL_law_1194 (by decide) (fun ck => ?_) (fun ck => ?_)
  · refine z_goto (tgt := 1948) C dL_law_1208 (by decide) ?_
    refine z_lv (lv' := [(0, .ref bS), (1, .ref (a 0)), (2, .ref (b 0)), (3, .ref o), (4, .ref od), (5, .int (nI i))]) [0, 1, 2, 3, 4, 5] rfl ?_
    exact z_widen (by omega) (by omega) (hk _ _ _ _ _ (RelT_mk hok2))
  · refine z_aload_n C dL_law_1197 3 rfl ?_
    refine z_iconst (v := 0) C dL_law_1198 (by decide) ?_
    refine z_lald C 1 rfl 37 rfl dL_law_1199 0 rfl (by decide) (by decide) ?_
    refine z_lload C dL_law_1200 7 rfl ?_
    refine z_lcmp_eq (tgt := 1208) C dL_law_1202 dL_law_1203 (by decide) (fun _ => ?_) (fun q => absurd (hval ck) q)
    refine z_goto (tgt := 1948) C dL_law_1208 (by decide) ?_
    refine z_lv (lv' := [(0, .ref bS), (1, .ref (a 0)), (2, .ref (b 0)), (3, .ref o), (4, .ref od), (5, .int (nI i))]) [0, 1, 2, 3, 4, 5] rfl ?_
    exact z_widen (by omega) (by omega) (hk _ _ _ _ _ (RelT_mk hok2))
set_option maxRecDepth 20000 in
set_option maxHeartbeats 1000000 in
theorem lc_17 (C : zC p s m args c code 9 wsL_law RL A s.heap D vwCl (zT K)) (hX : xF A s) (hNc : yNc s) (hst : l.stackTraces = false) (hS : va_X bS L xs s s.heap) (hbl : bS < s.heap.size) (hbA : ¬ A bS) (hi : i + 6 ≤ L) (hL : L ≤ 3072)
    (hk : ∀ (u : S0) (v : S1) (g : Nat → Int64) (gd : Nat → UInt64) (k : Int32), RelT k u v → zW p l e room_1 s m args below meth c Q 9 A s.heap D vwCl (100 + (i + 6)) (600 + 2 * (i + 6)) (w1 K b v ++ wv K a o od (u, g, gd)) 1948 [(0, .ref bS), (1, .ref (a 0)), (2, .ref (b 0)), (3, .ref o), (4, .ref od), (5, .int (nI i))] []) {u : S0} {v : S1} {g : Nat → Int64} {gd : Nat → UInt64} {k0 : Int32} (hr : RelT k0 u v) : zW p l e room_1 s m args below meth c Q 9 A s.heap D vwCl (100 + i) (600 + 2 * i) (w1 K b v ++ wv K a o od (u, g, gd)) 1211 [(0, .ref bS), (1, .ref (a 0)), (2, .ref (b 0)), (3, .ref o), (4, .ref od), (5, .int (nI i))] [] := by
  obtain ⟨N, M, S, rl, rh, bl, bh, kl, kh, mn, vc, iv, sc, fl, fh, pt, nu, de, hok, rfl, rfl⟩ := hr
  have hN := hok.2.1
  refine z_aload_n C dL_law_1211 1 rfl ?_
  refine z_aload_n C dL_law_1212 0 rfl ?_
  refine z_iload C dL_law_1213 5 rfl ?_
  refine z_iconst (v := 1) C dL_law_1215 (by decide) ?_
  refine z_iadd C dL_law_1216 ?_
  refine z_sld C hS hbl hbA dL_law_1217 (i + 1) (nI_add i 1) (by omega) (by omega) ?_
  refine z_aload_n C dL_law_1218 0 rfl ?_
  refine z_iload C dL_law_1219 5 rfl ?_
  refine z_iconst (v := 2) C dL_law_1221 (by decide) ?_
  refine z_iadd C dL_law_1222 ?_
  refine z_sld C hS hbl hbA dL_law_1223 (i + 2) (nI_add i 2) (by omega) (by omega) ?_
  refine z_aload_n C dL_law_1224 0 rfl ?_
  refine z_iload C dL_law_1225 5 rfl ?_
  refine z_iconst (v := 3) C dL_law_1227 (by decide) ?_
  refine z_iadd C dL_law_1228 ?_
  refine z_sld C hS hbl hbA dL_law_1229 (i + 3) (nI_add i 3) (by omega) (by omega) ?_
  refine z_aload_n C dL_law_1230 0 rfl ?_
  refine z_iload C dL_law_1231 5 rfl ?_
  refine z_iconst (v := 4) C dL_law_1233 (by decide) ?_
  refine z_iadd C dL_law_1234 ?_
  refine z_sld C hS hbl hbA dL_law_1235 (i + 4) (nI_add i 4) (by omega) (by omega) ?_
  refine z_aload_n C dL_law_1236 0 rfl ?_
  refine z_iload C dL_law_1237 5 rfl ?_
  refine z_iconst (v := 5) C dL_law_1239 (by decide) ?_
  refine z_iadd C dL_law_1240 ?_
  refine z_sld C hS hbl hbA dL_law_1241 (i + 5) (nI_add i 5) (by omega) (by omega) ?_
  refine z_callVi (X := w1 K b (N, M, S, rl, rh, bl, bh, k0, fl, fh, pt, nu, de)) (wc := w0 K a (N, M, S, rl, rh, bl, bh, kl, kh, mn, vc, iv, sc)) (Y := [(o, .inl (K 1, 1, .inr (.inl g))), (od, .inl (K 4, 1, .inr (.inr (.inr (.inl gd)))))]) (As := [.int (xs (i + 1)), .int (xs (i + 2)), .int (xs (i + 3)), .int (xs (i + 4)), .int (xs (i + 5))]) C (c0_isSolution l D K a N M S rl rh bl bh kl kh mn vc iv sc (xs (i + 1)) (xs (i + 2)) (xs (i + 3)) (xs (i + 4)) (xs (i + 5)) hN) (cwV 5 C.1.2.2.2.2 gL_law_X0_isSolution rfl rfl rfl (by decide +kernel) ⟨Nat.le_of_ble_eq_true rfl, Nat.le_of_ble_eq_true rfl⟩) (ci := 2) rfl rfl 0 rfl dL_law_1242 rfl rfl (Nat.le_of_ble_eq_true rfl) ⟨Nat.le_trans (by omega) rm_c, Nat.le_trans (by omega) rm_s⟩ rfl (fun r0 u1 h0 => ?_)
  refine z_aload_n C dL_law_1245 2 rfl ?_
  refine z_aload_n C dL_law_1246 0 rfl ?_
  refine z_iload C dL_law_1247 5 rfl ?_
  refine z_iconst (v := 1) C dL_law_1249 (by decide) ?_
  refine z_iadd C dL_law_1250 ?_
  refine z_sld C hS hbl hbA dL_law_1251 (i + 1) (nI_add i 1) (by omega) (by omega) ?_
  refine z_aload_n C dL_law_1252 0 rfl ?_
  refine z_iload C dL_law_1253 5 rfl ?_
  refine z_iconst (v := 2) C dL_law_1255 (by decide) ?_
  refine z_iadd C dL_law_1256 ?_
  refine z_sld C hS hbl hbA dL_law_1257 (i + 2) (nI_add i 2) (by omega) (by omega) ?_
  refine z_aload_n C dL_law_1258 0 rfl ?_
  refine z_iload C dL_law_1259 5 rfl ?_
  refine z_iconst (v := 3) C dL_law_1261 (by decide) ?_
  refine z_iadd C dL_law_1262 ?_
  refine z_sld C hS hbl hbA dL_law_1263 (i + 3) (nI_add i 3) (by omega) (by omega) ?_
  refine z_aload_n C dL_law_1264 0 rfl ?_
  refine z_iload C dL_law_1265 5 rfl ?_
  refine z_iconst (v := 4) C dL_law_1267 (by decide) ?_
  refine z_iadd C dL_law_1268 ?_
  refine z_sld C hS hbl hbA dL_law_1269 (i + 4) (nI_add i 4) (by omega) (by omega) ?_
  refine z_aload_n C dL_law_1270 0 rfl ?_
  refine z_iload C dL_law_1271 5 rfl ?_
  refine z_iconst (v := 5) C dL_law_1273 (by decide) ?_
  refine z_iadd C dL_law_1274 ?_
  refine z_sld C hS hbl hbA dL_law_1275 (i + 5) (nI_add i 5) (by omega) (by omega) ?_
  refine z_callVi_l (As := [.int (xs (i + 1)), .int (xs (i + 2)), .int (xs (i + 3)), .int (xs (i + 4)), .int (xs (i + 5))]) (wc := w1 K b (N, M, S, rl, rh, bl, bh, k0, fl, fh, pt, nu, de)) (Y := w0 K a u1 ++ [(o, .inl (K 1, 1, .inr (.inl g))), (od, .inl (K 4, 1, .inr (.inr (.inr (.inl gd)))))]) C (c1_isSolution l D K b N M S rl rh bl bh k0 fl fh pt nu de (xs (i + 1)) (xs (i + 2)) (xs (i + 3)) (xs (i + 4)) (xs (i + 5)) hN) (cwV 5 C.1.2.2.2.2 gL_law_X1_isSolution rfl rfl rfl (by decide +kernel) ⟨Nat.le_of_ble_eq_true rfl, Nat.le_of_ble_eq_true rfl⟩) (ci := 3) rfl rfl 0 rfl dL_law_1276 rfl rfl (Nat.le_of_ble_eq_true rfl) ⟨Nat.le_trans (by omega) rm_c, Nat.le_trans (by omega) rm_s⟩ rfl (fun r1 v1 hv => ?_)
  obtain ⟨hval, hrel⟩ := ps_isSolution hok (kl := kl) (kh := kh) (mn := mn) (vc := vc) (iv := iv) (sc := sc) (fl := fl) (fh := fh) (pt := pt) (nu := nu) (de := de) h0 hv
  clear h0 hv
  obtain ⟨N2, M2, S2, rl2, rh2, bl2, bh2, kl2, kh2, mn2, vc2, iv2, sc2, fl2, fh2, pt2, nu2, de2, hok2, rfl, rfl⟩ := hrel
  refine z_icmp_eq (tgt := 1948) C dL_law_1279 (by decide) (fun _ => ?_) (fun q => absurd hval q)
  exact z_widen (by omega) (by omega) (hk _ _ _ _ _ (RelT_mk hok2))
set_option maxRecDepth 20000 in
set_option maxHeartbeats 1000000 in
theorem lc_18 (C : zC p s m args c code 9 wsL_law RL A s.heap D vwCl (zT K)) (hX : xF A s) (hNc : yNc s) (hst : l.stackTraces = false) (hS : va_X bS L xs s s.heap) (hbl : bS < s.heap.size) (hbA : ¬ A bS) (hi : i + 6 ≤ L) (hL : L ≤ 3072)
    (hk : ∀ (u : S0) (v : S1) (g : Nat → Int64) (gd : Nat → UInt64) (k : Int32), RelT k u v → zW p l e room_1 s m args below meth c Q 9 A s.heap D vwCl (100 + (i + 6)) (600 + 2 * (i + 6)) (w1 K b v ++ wv K a o od (u, g, gd)) 1948 [(0, .ref bS), (1, .ref (a 0)), (2, .ref (b 0)), (3, .ref o), (4, .ref od), (5, .int (nI i))] []) {u : S0} {v : S1} {g : Nat → Int64} {gd : Nat → UInt64} {k0 : Int32} (hr : RelT k0 u v) : zW p l e room_1 s m args below meth c Q 9 A s.heap D vwCl (100 + i) (600 + 2 * i) (w1 K b v ++ wv K a o od (u, g, gd)) 1284 [(0, .ref bS), (1, .ref (a 0)), (2, .ref (b 0)), (3, .ref o), (4, .ref od), (5, .int (nI i))] [] := by
  obtain ⟨N, M, S, rl, rh, bl, bh, kl, kh, mn, vc, iv, sc, fl, fh, pt, nu, de, hok, rfl, rfl⟩ := hr
  have hN := hok.2.1
  refine z_aload_n C dL_law_1284 1 rfl ?_
  refine z_aload C dL_law_1285 4 rfl ?_
  refine y_callS (X := w1 K b (N, M, S, rl, rh, bl, bh, k0, fl, fh, pt, nu, de)) (As := [.ref (a 0), .ref od]) C hX hNc (wL_condition l D K a N M S rl rh bl bh kl kh mn vc iv sc o od g gd  hst hN (okAll_q hok)) (vx_cwSW 2 C.1.2.2.2.2 gL_law_L_condition rfl rfl rfl (by decide +kernel) ⟨Nat.le_of_ble_eq_true rfl, Nat.le_of_ble_eq_true rfl⟩) dL_law_1287 rfl rfl (Nat.le_of_ble_eq_true rfl) ⟨Nat.le_trans (by omega) rm_c, Nat.le_trans (by omega) rm_s⟩ rfl (fun k1 z1 hz => ?_)
  obtain ⟨u1, g1, gd1⟩ := z1
  refine z_istore (lv' := [(0, .ref bS), (1, .ref (a 0)), (2, .ref (b 0)), (3, .ref o), (4, .ref od), (5, .int (nI i)), (6, .int k1)]) C dL_law_1290 (by decide) [1, 2, 3, 4, 5, 6, 0] rfl ?_
  refine z_aload_n C dL_law_1292 2 rfl ?_
  refine z_callVd_l (As := []) (wc := w1 K b (N, M, S, rl, rh, bl, bh, k0, fl, fh, pt, nu, de)) (Y := wv K a o od (u1, g1, gd1)) C (c1_condition l D K b N M S rl rh bl bh k0 fl fh pt nu de  hN (okAll_m hok)) (cwV 0 C.1.2.2.2.2 gL_law_X1_condition rfl rfl rfl (by decide +kernel) ⟨Nat.le_of_ble_eq_true rfl, Nat.le_of_ble_eq_true rfl⟩) (ci := 3) rfl rfl 0 rfl dL_law_1293 rfl rfl (Nat.le_of_ble_eq_true rfl) ⟨Nat.le_trans (by omega) rm_c, Nat.le_trans (by omega) rm_s⟩ rfl (fun r1 v1 hv => ?_)
  obtain ⟨hval, hrel⟩ := pr_condition hok (kl := kl) (kh := kh) (mn := mn) (vc := vc) (iv := iv) (sc := sc) (fl := fl) (fh := fh) (pt := pt) (nu := nu) (de := de) hz hv
  clear hz hv
  obtain ⟨N2, M2, S2, rl2, rh2, bl2, bh2, kl2, kh2, mn2, vc2, iv2, sc2, fl2, fh2, pt2, nu2, de2, hok2, rfl, rfl⟩ := hrel
  refine z_dstore (lv' := [(0, .ref bS), (1, .ref (a 0)), (2, .ref (b 0)), (3, .ref o), (4, .ref od), (5, .int (nI i)), (6, .int k1), (7, .double r1)]) C dL_law_1296 (by decide) [1, 2, 3, 4, 5, 6, 7, 0] rfl ?_
  refine z_aload_n C dL_law_1298 2 rfl ?_
  refine z_callVi_l (As := []) (wc := w1 K b (N2, M2, S2, rl2, rh2, bl2, bh2, k1, fl2, fh2, pt2, nu2, de2)) (Y := wv K a o od ((N2, M2, S2, rl2, rh2, bl2, bh2, kl2, kh2, mn2, vc2, iv2, sc2), g1, gd1)) C (c1_thrown l D K b N2 M2 S2 rl2 rh2 bl2 bh2 k1 fl2 fh2 pt2 nu2 de2) (cwV 0 C.1.2.2.2.2 gL_law_X1_thrown rfl rfl rfl (by decide +kernel) ⟨Nat.le_of_ble_eq_true rfl, Nat.le_of_ble_eq_true rfl⟩) (ci := 3) rfl rfl 0 rfl dL_law_1299 rfl rfl (Nat.le_of_ble_eq_true rfl) ⟨Nat.le_trans (by omega) rm_c, Nat.le_trans (by omega) rm_s⟩ rfl (fun r3 v3 h3 => ?_)
  obtain ⟨h3, rfl⟩ := h3
  refine z_topi k1 h3 ?_
  refine z_iload C dL_law_1302 6 rfl ?_
  refine z_icmp_eq (tgt := 1309) C dL_law_1304 (by decide) (fun _ => ?_) (fun q => absurd rfl q)
  refine z_iload C dL_law_1309 6 rfl ?_
  refine z_if_ne (tgt := 1346) C dL_law_1311 (by decide) (fun ck => ?_) (fun ck => ?_)
  · refine z_goto (tgt := 1948) C dL_law_1346 (by decide) ?_
    refine z_lv (lv' := [(0, .ref bS), (1, .ref (a 0)), (2, .ref (b 0)), (3, .ref o), (4, .ref od), (5, .int (nI i))]) [0, 1, 2, 3, 4, 5] rfl ?_
    exact z_widen (by omega) (by omega) (hk _ _ _ _ _ (RelT_mk hok2))
  · refine z_aload C dL_law_1314 4 rfl ?_
    refine z_iconst (v := 0) C dL_law_1316 (by decide) ?_
    refine z_dald C 4 rfl 38 rfl dL_law_1317 0 rfl (by decide) (by decide) ?_
    refine z_topd r1 (hval ck) ?_
    refine z_dload C dL_law_1318 7 rfl ?_
    refine z_dcmp C dL_law_1320 ?_
    refine z_if_eq (tgt := 1346) C dL_law_1321 (by decide) (fun c1 => ?_) (fun c1 => ?_)
    · refine z_goto (tgt := 1948) C dL_law_1346 (by decide) ?_
      refine z_lv (lv' := [(0, .ref bS), (1, .ref (a 0)), (2, .ref (b 0)), (3, .ref o), (4, .ref od), (5, .int (nI i))]) [0, 1, 2, 3, 4, 5] rfl ?_
      exact z_widen (by omega) (by omega) (hk _ _ _ _ _ (RelT_mk hok2))
    · refine z_aload C dL_law_1324 4 rfl ?_
      refine z_iconst (v := 0) C dL_law_1326 (by decide) ?_
      refine z_dald C 4 rfl 38 rfl dL_law_1327 0 rfl (by decide) (by decide) ?_
      refine z_topd r1 (hval ck) ?_
      refine z_aload C dL_law_1328 4 rfl ?_
      refine z_iconst (v := 0) C dL_law_1330 (by decide) ?_
      refine z_dald C 4 rfl 38 rfl dL_law_1331 0 rfl (by decide) (by decide) ?_
      refine z_topd r1 (hval ck) ?_
      refine z_dcmp C dL_law_1332 ?_
      refine z_if_eq (tgt := 1344) C dL_law_1333 (by decide) (fun q => absurd q c1) (fun _ => ?_)
      refine z_dload C dL_law_1336 7 rfl ?_
      refine z_dload C dL_law_1338 7 rfl ?_
      refine z_dcmp C dL_law_1340 ?_
      refine z_if_ne (tgt := 1346) C dL_law_1341 (by decide) (fun _ => ?_) (fun q => absurd q c1)
      refine z_goto (tgt := 1948) C dL_law_1346 (by decide) ?_
      refine z_lv (lv' := [(0, .ref bS), (1, .ref (a 0)), (2, .ref (b 0)), (3, .ref o), (4, .ref od), (5, .int (nI i))]) [0, 1, 2, 3, 4, 5] rfl ?_
      exact z_widen (by omega) (by omega) (hk _ _ _ _ _ (RelT_mk hok2))
set_option maxRecDepth 20000 in
set_option maxHeartbeats 1000000 in
theorem lc_19 (C : zC p s m args c code 9 wsL_law RL A s.heap D vwCl (zT K)) (hX : xF A s) (hNc : yNc s) (hst : l.stackTraces = false) (hS : va_X bS L xs s s.heap) (hbl : bS < s.heap.size) (hbA : ¬ A bS) (hi : i + 6 ≤ L) (hL : L ≤ 3072)
    (hk : ∀ (u : S0) (v : S1) (g : Nat → Int64) (gd : Nat → UInt64) (k : Int32), RelT k u v → zW p l e room_1 s m args below meth c Q 9 A s.heap D vwCl (100 + (i + 6)) (600 + 2 * (i + 6)) (w1 K b v ++ wv K a o od (u, g, gd)) 1948 [(0, .ref bS), (1, .ref (a 0)), (2, .ref (b 0)), (3, .ref o), (4, .ref od), (5, .int (nI i))] []) {u : S0} {v : S1} {g : Nat → Int64} {gd : Nat → UInt64} {k0 : Int32} (hr : RelT k0 u v) : zW p l e room_1 s m args below meth c Q 9 A s.heap D vwCl (100 + i) (600 + 2 * i) (w1 K b v ++ wv K a o od (u, g, gd)) 1349 [(0, .ref bS), (1, .ref (a 0)), (2, .ref (b 0)), (3, .ref o), (4, .ref od), (5, .int (nI i))] [] := by
  obtain ⟨N, M, S, rl, rh, bl, bh, kl, kh, mn, vc, iv, sc, fl, fh, pt, nu, de, hok, rfl, rfl⟩ := hr
  have hN := hok.2.1
  refine z_aload_n C dL_law_1349 1 rfl ?_
  refine z_aload_n C dL_law_1350 3 rfl ?_
  refine y_callS (X := w1 K b (N, M, S, rl, rh, bl, bh, k0, fl, fh, pt, nu, de)) (As := [.ref (a 0), .ref o]) C hX hNc (wL_variationNumerator l D K a N M S rl rh bl bh kl kh mn vc iv sc o od g gd  hst hN) (vx_cwSW 2 C.1.2.2.2.2 gL_law_L_variationNumerator rfl rfl rfl (by decide +kernel) ⟨Nat.le_of_ble_eq_true rfl, Nat.le_of_ble_eq_true rfl⟩) dL_law_1351 rfl rfl (Nat.le_of_ble_eq_true rfl) ⟨Nat.le_trans (by omega) rm_c, Nat.le_trans (by omega) rm_s⟩ rfl (fun k1 z1 hz => ?_)
  obtain ⟨u1, g1, gd1⟩ := z1
  refine z_istore (lv' := [(0, .ref bS), (1, .ref (a 0)), (2, .ref (b 0)), (3, .ref o), (4, .ref od), (5, .int (nI i)), (6, .int k1)]) C dL_law_1354 (by decide) [1, 2, 3, 4, 5, 6, 0] rfl ?_
  refine z_aload_n C dL_law_1356 2 rfl ?_
  refine z_callVl_l (As := []) (wc := w1 K b (N, M, S, rl, rh, bl, bh, k0, fl, fh, pt, nu, de)) (Y := wv K a o od (u1, g1, gd1)) C (c1_variationNumerator l D K b N M S rl rh bl bh k0 fl fh pt nu de  hN (okAll_m hok)) (cwV 0 C.1.2.2.2.2 gL_law_X1_variationNumerator rfl rfl rfl (by decide +kernel) ⟨Nat.le_of_ble_eq_true rfl, Nat.le_of_ble_eq_true rfl⟩) (ci := 3) rfl rfl 0 rfl dL_law_1357 rfl rfl (Nat.le_of_ble_eq_true rfl) ⟨Nat.le_trans (by omega) rm_c, Nat.le_trans (by omega) rm_s⟩ rfl (fun r1 v1 hv => ?_)
  obtain ⟨hval, hrel⟩ := pr_variationNumerator hok (kl := kl) (kh := kh) (mn := mn) (vc := vc) (iv := iv) (sc := sc) (fl := fl) (fh := fh) (pt := pt) (nu := nu) (de := de) hz hv
  clear hz hv
  obtain ⟨N2, M2, S2, rl2, rh2, bl2, bh2, kl2, kh2, mn2, vc2, iv2, sc2, fl2, fh2, pt2, nu2, de2, hok2, rfl, rfl⟩ := hrel
  refine z_lstore (lv' := [(0, .ref bS), (1, .ref (a 0)), (2, .ref (b 0)), (3, .ref o), (4, .ref od), (5, .int (nI i)), (6, .int k1), (7, .long r1)]) C dL_law_1360 (by decide) [1, 2, 3, 4, 5, 6, 7, 0] rfl ?_
  refine z_aload_n C dL_law_1362 2 rfl ?_
  refine z_callVi_l (As := []) (wc := w1 K b (N2, M2, S2, rl2, rh2, bl2, bh2, k1, fl2, fh2, pt2, nu2, de2)) (Y := wv K a o od ((N2, M2, S2, rl2, rh2, bl2, bh2, kl2, kh2, mn2, vc2, iv2, sc2), g1, gd1)) C (c1_thrown l D K b N2 M2 S2 rl2 rh2 bl2 bh2 k1 fl2 fh2 pt2 nu2 de2) (cwV 0 C.1.2.2.2.2 gL_law_X1_thrown rfl rfl rfl (by decide +kernel) ⟨Nat.le_of_ble_eq_true rfl, Nat.le_of_ble_eq_true rfl⟩) (ci := 3) rfl rfl 0 rfl dL_law_1363 rfl rfl (Nat.le_of_ble_eq_true rfl) ⟨Nat.le_trans (by omega) rm_c, Nat.le_trans (by omega) rm_s⟩ rfl (fun r3 v3 h3 => ?_)
  obtain ⟨h3, rfl⟩ := h3
  refine z_topi k1 h3 ?_
  refine z_iload C dL_law_1366 6 rfl ?_
  refine z_icmp_eq (tgt := 1373) C dL_law_1368 (by decide) (fun _ => ?_) (fun q => absurd rfl q)
  refine z_iload C dL_law_1373 6 rfl ?_
  refine z_if_ne (tgt := 1389) C dL_law_1375 (by decide) (fun ck => ?_) (fun ck => ?_)
  · refine z_goto (tgt := 1948) C dL_law_1389 (by decide) ?_
    refine z_lv (lv' := [(0, .ref bS), (1, .ref (a 0)), (2, .ref (b 0)), (3, .ref o), (4, .ref od), (5, .int (nI i))]) [0, 1, 2, 3, 4, 5] rfl ?_
    exact z_widen (by omega) (by omega) (hk _ _ _ _ _ (RelT_mk hok2))
  · refine z_aload_n C dL_law_1378 3 rfl ?_
    refine z_iconst (v := 0) C dL_law_1379 (by decide) ?_
    refine z_lald C 1 rfl 37 rfl dL_law_1380 0 rfl (by decide) (by decide) ?_
    refine z_lload C dL_law_1381 7 rfl ?_
    refine z_lcmp_eq (tgt := 1389) C dL_law_1383 dL_law_1384 (by decide) (fun _ => ?_) (fun q => absurd (hval ck) q)
    refine z_goto (tgt := 1948) C dL_law_1389 (by decide) ?_
    refine z_lv (lv' := [(0, .ref bS), (1, .ref (a 0)), (2, .ref (b 0)), (3, .ref o), (4, .ref od), (5, .int (nI i))]) [0, 1, 2, 3, 4, 5] rfl ?_
    exact z_widen (by omega) (by omega) (hk _ _ _ _ _ (RelT_mk hok2))
set_option maxRecDepth 20000 in
set_option maxHeartbeats 1000000 in
theorem lc_20 (C : zC p s m args c code 9 wsL_law RL A s.heap D vwCl (zT K)) (hX : xF A s) (hNc : yNc s) (hst : l.stackTraces = false) (hS : va_X bS L xs s s.heap) (hbl : bS < s.heap.size) (hbA : ¬ A bS) (hi : i + 6 ≤ L) (hL : L ≤ 3072)
    (hk : ∀ (u : S0) (v : S1) (g : Nat → Int64) (gd : Nat → UInt64) (k : Int32), RelT k u v → zW p l e room_1 s m args below meth c Q 9 A s.heap D vwCl (100 + (i + 6)) (600 + 2 * (i + 6)) (w1 K b v ++ wv K a o od (u, g, gd)) 1948 [(0, .ref bS), (1, .ref (a 0)), (2, .ref (b 0)), (3, .ref o), (4, .ref od), (5, .int (nI i))] []) {u : S0} {v : S1} {g : Nat → Int64} {gd : Nat → UInt64} {k0 : Int32} (hr : RelT k0 u v) : zW p l e room_1 s m args below meth c Q 9 A s.heap D vwCl (100 + i) (600 + 2 * i) (w1 K b v ++ wv K a o od (u, g, gd)) 1392 [(0, .ref bS), (1, .ref (a 0)), (2, .ref (b 0)), (3, .ref o), (4, .ref od), (5, .int (nI i))] [] := by
  obtain ⟨N, M, S, rl, rh, bl, bh, kl, kh, mn, vc, iv, sc, fl, fh, pt, nu, de, hok, rfl, rfl⟩ := hr
  have hN := hok.2.1
  refine z_aload_n C dL_law_1392 1 rfl ?_
  refine z_aload_n C dL_law_1393 3 rfl ?_
  refine y_callS (X := w1 K b (N, M, S, rl, rh, bl, bh, k0, fl, fh, pt, nu, de)) (As := [.ref (a 0), .ref o]) C hX hNc (wL_variationDenominator l D K a N M S rl rh bl bh kl kh mn vc iv sc o od g gd  hst hN) (vx_cwSW 2 C.1.2.2.2.2 gL_law_L_variationDenominator rfl rfl rfl (by decide +kernel) ⟨Nat.le_of_ble_eq_true rfl, Nat.le_of_ble_eq_true rfl⟩) dL_law_1394 rfl rfl (Nat.le_of_ble_eq_true rfl) ⟨Nat.le_trans (by omega) rm_c, Nat.le_trans (by omega) rm_s⟩ rfl (fun k1 z1 hz => ?_)
  obtain ⟨u1, g1, gd1⟩ := z1
  refine z_istore (lv' := [(0, .ref bS), (1, .ref (a 0)), (2, .ref (b 0)), (3, .ref o), (4, .ref od), (5, .int (nI i)), (6, .int k1)]) C dL_law_1397 (by decide) [1, 2, 3, 4, 5, 6, 0] rfl ?_
  refine z_aload_n C dL_law_1399 2 rfl ?_
  refine z_callVl_l (As := []) (wc := w1 K b (N, M, S, rl, rh, bl, bh, k0, fl, fh, pt, nu, de)) (Y := wv K a o od (u1, g1, gd1)) C (c1_variationDenominator l D K b N M S rl rh bl bh k0 fl fh pt nu de  hN (okAll_m hok)) (cwV 0 C.1.2.2.2.2 gL_law_X1_variationDenominator rfl rfl rfl (by decide +kernel) ⟨Nat.le_of_ble_eq_true rfl, Nat.le_of_ble_eq_true rfl⟩) (ci := 3) rfl rfl 0 rfl dL_law_1400 rfl rfl (Nat.le_of_ble_eq_true rfl) ⟨Nat.le_trans (by omega) rm_c, Nat.le_trans (by omega) rm_s⟩ rfl (fun r1 v1 hv => ?_)
  obtain ⟨hval, hrel⟩ := pr_variationDenominator hok (kl := kl) (kh := kh) (mn := mn) (vc := vc) (iv := iv) (sc := sc) (fl := fl) (fh := fh) (pt := pt) (nu := nu) (de := de) hz hv
  clear hz hv
  obtain ⟨N2, M2, S2, rl2, rh2, bl2, bh2, kl2, kh2, mn2, vc2, iv2, sc2, fl2, fh2, pt2, nu2, de2, hok2, rfl, rfl⟩ := hrel
  refine z_lstore (lv' := [(0, .ref bS), (1, .ref (a 0)), (2, .ref (b 0)), (3, .ref o), (4, .ref od), (5, .int (nI i)), (6, .int k1), (7, .long r1)]) C dL_law_1403 (by decide) [1, 2, 3, 4, 5, 6, 7, 0] rfl ?_
  refine z_aload_n C dL_law_1405 2 rfl ?_
  refine z_callVi_l (As := []) (wc := w1 K b (N2, M2, S2, rl2, rh2, bl2, bh2, k1, fl2, fh2, pt2, nu2, de2)) (Y := wv K a o od ((N2, M2, S2, rl2, rh2, bl2, bh2, kl2, kh2, mn2, vc2, iv2, sc2), g1, gd1)) C (c1_thrown l D K b N2 M2 S2 rl2 rh2 bl2 bh2 k1 fl2 fh2 pt2 nu2 de2) (cwV 0 C.1.2.2.2.2 gL_law_X1_thrown rfl rfl rfl (by decide +kernel) ⟨Nat.le_of_ble_eq_true rfl, Nat.le_of_ble_eq_true rfl⟩) (ci := 3) rfl rfl 0 rfl dL_law_1406 rfl rfl (Nat.le_of_ble_eq_true rfl) ⟨Nat.le_trans (by omega) rm_c, Nat.le_trans (by omega) rm_s⟩ rfl (fun r3 v3 h3 => ?_)
  obtain ⟨h3, rfl⟩ := h3
  refine z_topi k1 h3 ?_
  refine z_iload C dL_law_1409 6 rfl ?_
  refine z_icmp_eq (tgt := 1416) C dL_law_1411 (by decide) (fun _ => ?_) (fun q => absurd rfl q)
  refine z_iload C dL_law_1416 6 rfl ?_
  refine z_if_ne (tgt := 1432) C dL_law_1418 (by decide) (fun ck => ?_) (fun ck => ?_)
  · refine z_goto (tgt := 1948) C dL_law_1432 (by decide) ?_
    refine z_lv (lv' := [(0, .ref bS), (1, .ref (a 0)), (2, .ref (b 0)), (3, .ref o), (4, .ref od), (5, .int (nI i))]) [0, 1, 2, 3, 4, 5] rfl ?_
    exact z_widen (by omega) (by omega) (hk _ _ _ _ _ (RelT_mk hok2))
  · refine z_aload_n C dL_law_1421 3 rfl ?_
    refine z_iconst (v := 0) C dL_law_1422 (by decide) ?_
    refine z_lald C 1 rfl 37 rfl dL_law_1423 0 rfl (by decide) (by decide) ?_
    refine z_lload C dL_law_1424 7 rfl ?_
    refine z_lcmp_eq (tgt := 1432) C dL_law_1426 dL_law_1427 (by decide) (fun _ => ?_) (fun q => absurd (hval ck) q)
    refine z_goto (tgt := 1948) C dL_law_1432 (by decide) ?_
    refine z_lv (lv' := [(0, .ref bS), (1, .ref (a 0)), (2, .ref (b 0)), (3, .ref o), (4, .ref od), (5, .int (nI i))]) [0, 1, 2, 3, 4, 5] rfl ?_
    exact z_widen (by omega) (by omega) (hk _ _ _ _ _ (RelT_mk hok2))
set_option maxRecDepth 20000 in
set_option maxHeartbeats 1000000 in
theorem lc_21 (C : zC p s m args c code 9 wsL_law RL A s.heap D vwCl (zT K)) (hX : xF A s) (hNc : yNc s) (hst : l.stackTraces = false) (hS : va_X bS L xs s s.heap) (hbl : bS < s.heap.size) (hbA : ¬ A bS) (hi : i + 6 ≤ L) (hL : L ≤ 3072)
    (hk : ∀ (u : S0) (v : S1) (g : Nat → Int64) (gd : Nat → UInt64) (k : Int32), RelT k u v → zW p l e room_1 s m args below meth c Q 9 A s.heap D vwCl (100 + (i + 6)) (600 + 2 * (i + 6)) (w1 K b v ++ wv K a o od (u, g, gd)) 1948 [(0, .ref bS), (1, .ref (a 0)), (2, .ref (b 0)), (3, .ref o), (4, .ref od), (5, .int (nI i))] []) {u : S0} {v : S1} {g : Nat → Int64} {gd : Nat → UInt64} {k0 : Int32} (hr : RelT k0 u v) : zW p l e room_1 s m args below meth c Q 9 A s.heap D vwCl (100 + i) (600 + 2 * i) (w1 K b v ++ wv K a o od (u, g, gd)) 1435 [(0, .ref bS), (1, .ref (a 0)), (2, .ref (b 0)), (3, .ref o), (4, .ref od), (5, .int (nI i))] [] := by
  obtain ⟨N, M, S, rl, rh, bl, bh, kl, kh, mn, vc, iv, sc, fl, fh, pt, nu, de, hok, rfl, rfl⟩ := hr
  have hN := hok.2.1
  refine z_aload_n C dL_law_1435 1 rfl ?_
  refine z_callVi (X := w1 K b (N, M, S, rl, rh, bl, bh, k0, fl, fh, pt, nu, de)) (wc := w0 K a (N, M, S, rl, rh, bl, bh, kl, kh, mn, vc, iv, sc)) (Y := [(o, .inl (K 1, 1, .inr (.inl g))), (od, .inl (K 4, 1, .inr (.inr (.inr (.inl gd)))))]) (As := []) C (c0_isSafe l D K a N M S rl rh bl bh kl kh mn vc iv sc  hN) (cwV 0 C.1.2.2.2.2 gL_law_X0_isSafe rfl rfl rfl (by decide +kernel) ⟨Nat.le_of_ble_eq_true rfl, Nat.le_of_ble_eq_true rfl⟩) (ci := 2) rfl rfl 0 rfl dL_law_1436 rfl rfl (Nat.le_of_ble_eq_true rfl) ⟨Nat.le_trans (by omega) rm_c, Nat.le_trans (by omega) rm_s⟩ rfl (fun r0 u1 h0 => ?_)
  refine z_aload_n C dL_law_1439 2 rfl ?_
  refine z_callVi_l (As := []) (wc := w1 K b (N, M, S, rl, rh, bl, bh, k0, fl, fh, pt, nu, de)) (Y := w0 K a u1 ++ [(o, .inl (K 1, 1, .inr (.inl g))), (od, .inl (K 4, 1, .inr (.inr (.inr (.inl gd)))))]) C (c1_isSafe l D K b N M S rl rh bl bh k0 fl fh pt nu de  hN (okAll_m hok)) (cwV 0 C.1.2.2.2.2 gL_law_X1_isSafe rfl rfl rfl (by decide +kernel) ⟨Nat.le_of_ble_eq_true rfl, Nat.le_of_ble_eq_true rfl⟩) (ci := 3) rfl rfl 0 rfl dL_law_1440 rfl rfl (Nat.le_of_ble_eq_true rfl) ⟨Nat.le_trans (by omega) rm_c, Nat.le_trans (by omega) rm_s⟩ rfl (fun r1 v1 hv => ?_)
  obtain ⟨hval, hrel⟩ := ps_isSafe hok (kl := kl) (kh := kh) (mn := mn) (vc := vc) (iv := iv) (sc := sc) (fl := fl) (fh := fh) (pt := pt) (nu := nu) (de := de) h0 hv
  clear h0 hv
  obtain ⟨N2, M2, S2, rl2, rh2, bl2, bh2, kl2, kh2, mn2, vc2, iv2, sc2, fl2, fh2, pt2, nu2, de2, hok2, rfl, rfl⟩ := hrel
  refine z_icmp_eq (tgt := 1948) C dL_law_1443 (by decide) (fun _ => ?_) (fun q => absurd hval q)
  exact z_widen (by omega) (by omega) (hk _ _ _ _ _ (RelT_mk hok2))
end LCASE
