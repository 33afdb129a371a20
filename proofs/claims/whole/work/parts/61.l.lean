set_option maxRecDepth 20000 in
set_option maxHeartbeats 1000000 in
theorem wL_setSize (l : Launch) (D : va_G) (K : Nat → ClassId) (a : Nat → Nat) (N : Nat) (M : Nat → Nat → Int32) (S : Nat → Nat → Int32) (rl : Nat → Int32) (rh : Nat → Int32) (bl : Nat → Int32) (bh : Nat → Int32) (kl : Nat → Int32) (kh : Nat → Int32) (mn : Nat → Int64) (vc : Nat → Int64) (iv : Nat → Nat → Int64) (sc : Int64) (o od : Nat) (g : Nat → Int64) (gd : Nat → UInt64) (p0 : Int32) (hst : l.stackTraces = false) (hN : N ≤ 5) : yM l D K yL_setSize wsL_setSize 7 103 1 6 [.ref (a 0), .int p0, .ref o] (wv K a o od ((N, M, S, rl, rh, bl, bh, kl, kh, mn, vc, iv, sc), g, gd)) (yPost (kSize p0) (p0.toInt64) (fun u => u = (ix p0, matz M 5, matz S 5, vecz rl 0 5, vecz rh 0 5, vecz bl (-1000000000) 5, vecz bh 1000000000 5, kl, kh, mn, vc, iv, sc)) (fun u => u = (N, M, S, rl, rh, bl, bh, kl, kh, mn, vc, iv, sc))) (wv K a o od) := by
  have lk0 : Cond.classLink RL 13 "java/lang/IllegalArgumentException" ∈ wsL_setSize := by decide +kernel
  refine y_met_i (cc := cL_setSize) (maxL := 4) (hh := [(0, 9, 12, 13)]) (lv := [(0, .ref (a 0)), (1, .int p0), (2, .ref o)]) (by decide +kernel) rfl rfl (Nat.le_of_ble_eq_true rfl) rfl ?_
  intro p e s m below meth c args Q A C hX hNc hex hend
  refine z_aload_n C dL_setSize_0 2 rfl ?_
  refine z_iconst (v := 0) C dL_setSize_1 (by decide) ?_
  refine z_aload_n C dL_setSize_2 0 rfl ?_
  refine z_iload_n C dL_setSize_3 1 rfl ?_
  refine x_callVi (As := [.int p0]) (X := []) (wc := w0 K a (N, M, S, rl, rh, bl, bh, kl, kh, mn, vc, iv, sc)) (Y := [(o, .inl (K 1, 1, .inr (.inl g))), (od, .inl (K 4, 1, .inr (.inr (.inr (.inl gd)))))]) C hX (c0_setSize l D K a N M S rl rh bl bh kl kh mn vc iv sc p0 hst hN) (cwV 1 C.1.2.2.2.2 gL_setSize_X0_setSize rfl rfl rfl (by decide +kernel) ⟨Nat.le_of_ble_eq_true rfl, Nat.le_of_ble_eq_true rfl⟩) (ci := 2) rfl rfl 0 rfl dL_setSize_4 rfl rfl (Nat.le_of_ble_eq_true rfl) ⟨Nat.le_of_ble_eq_true rfl, Nat.le_of_ble_eq_true rfl⟩ rfl (fun E u px => ?_) (fun r u pq => ?_)
  · obtain ⟨hE, hu⟩ := px
    obtain ⟨hk, rfl⟩ := hE
    refine x_catch C [] ⟨0, 9, 12, 13⟩ [] hex (fun z hz => absurd hz List.not_mem_nil) rfl (by decide) lk0 (y_cast hX (by decide +kernel)) (fun q => ?_)
    refine z_astore_n (lv' := [(0, .ref (a 0)), (1, .int p0), (2, .ref o), (3, .ref q)]) C dL_setSize_12 (by decide) [1, 2, 3, 0] rfl ?_
    refine z_iconst (v := 1) C dL_setSize_13 (by decide) ?_
    exact hend _ _ _ _ _ (u, g, gd) dL_setSize_14 (Nat.le_of_ble_eq_true rfl) (Nat.le_of_ble_eq_true rfl) (yPost_err hk (by decide) hu)
  · obtain ⟨hk, hr, hu⟩ := pq
    refine z_i2l C dL_setSize_7 ?_
    refine z_last (ws' := wv K a o od (u, vp_updL g 0 r.toInt64, gd)) C 1 rfl 27 (wv_o u g gd) dL_setSize_8 0 rfl (by decide) (by decide) (wv_so u g _ gd) ?_
    refine z_goto (tgt := 15) C dL_setSize_9 (by decide) ?_
    refine z_iconst (v := 0) C dL_setSize_15 (by decide) ?_
    exact hend _ _ _ _ _ (u, vp_updL g 0 r.toInt64, gd) dL_setSize_16 (Nat.le_of_ble_eq_true rfl) (Nat.le_of_ble_eq_true rfl) (yPost_ok hk ((vp_updL_0 g _).trans (congrArg Int32.toInt64 hr)) hu)
set_option maxRecDepth 20000 in
set_option maxHeartbeats 1000000 in
theorem wL_setCoefficient (l : Launch) (D : va_G) (K : Nat → ClassId) (a : Nat → Nat) (N : Nat) (M : Nat → Nat → Int32) (S : Nat → Nat → Int32) (rl : Nat → Int32) (rh : Nat → Int32) (bl : Nat → Int32) (bh : Nat → Int32) (kl : Nat → Int32) (kh : Nat → Int32) (mn : Nat → Int64) (vc : Nat → Int64) (iv : Nat → Nat → Int64) (sc : Int64) (o od : Nat) (g : Nat → Int64) (gd : Nat → UInt64) (p0 : Int32) (p1 : Int32) (p2 : Int32) (hst : l.stackTraces = false) (hN : N ≤ 5) : yM l D K yL_setCoefficient wsL_setCoefficient 7 106 1 6 [.ref (a 0), .int p0, .int p1, .int p2, .ref o] (wv K a o od ((N, M, S, rl, rh, bl, bh, kl, kh, mn, vc, iv, sc), g, gd)) (yPost (kVal N p0 p1 p2 (-99) 99) ((M (ix p0) (ix p1)).toInt64) (fun u => u = (N, up2 M (ix p0) (ix p1) p2, S, rl, rh, bl, bh, kl, kh, mn, vc, iv, sc)) (fun u => u = (N, M, S, rl, rh, bl, bh, kl, kh, mn, vc, iv, sc))) (wv K a o od) := by
  have lk0 : Cond.classLink RL 19 "java/lang/IndexOutOfBoundsException" ∈ wsL_setCoefficient := by decide +kernel
  have lk1 : Cond.classLink RL 13 "java/lang/IllegalArgumentException" ∈ wsL_setCoefficient := by decide +kernel
  refine y_met_i (cc := cL_setCoefficient) (maxL := 6) (hh := [(0, 12, 15, 19), (0, 12, 19, 13)]) (lv := [(0, .ref (a 0)), (1, .int p0), (2, .int p1), (3, .int p2), (4, .ref o)]) (by decide +kernel) rfl rfl (Nat.le_of_ble_eq_true rfl) rfl ?_
  intro p e s m below meth c args Q A C hX hNc hex hend
  refine z_aload C dL_setCoefficient_0 4 rfl ?_
  refine z_iconst (v := 0) C dL_setCoefficient_2 (by decide) ?_
  refine z_aload_n C dL_setCoefficient_3 0 rfl ?_
  refine z_iload_n C dL_setCoefficient_4 1 rfl ?_
  refine z_iload_n C dL_setCoefficient_5 2 rfl ?_
  refine z_iload_n C dL_setCoefficient_6 3 rfl ?_
  refine x_callVi (As := [.int p0, .int p1, .int p2]) (X := []) (wc := w0 K a (N, M, S, rl, rh, bl, bh, kl, kh, mn, vc, iv, sc)) (Y := [(o, .inl (K 1, 1, .inr (.inl g))), (od, .inl (K 4, 1, .inr (.inr (.inr (.inl gd)))))]) C hX (c0_setCoefficient l D K a N M S rl rh bl bh kl kh mn vc iv sc p0 p1 p2 hst hN) (cwV 3 C.1.2.2.2.2 gL_setCoefficient_X0_setCoefficient rfl rfl rfl (by decide +kernel) ⟨Nat.le_of_ble_eq_true rfl, Nat.le_of_ble_eq_true rfl⟩) (ci := 2) rfl rfl 0 rfl dL_setCoefficient_7 rfl rfl (Nat.le_of_ble_eq_true rfl) ⟨Nat.le_of_ble_eq_true rfl, Nat.le_of_ble_eq_true rfl⟩ rfl (fun E u px => ?_) (fun r u pq => ?_)
  · obtain ⟨hE, hu⟩ := px
    rcases hE with ⟨hk, rfl⟩ | ⟨hk, rfl⟩
    · refine x_catch C [] ⟨0, 12, 15, 19⟩ [⟨0, 12, 19, 13⟩] hex (fun z hz => absurd hz List.not_mem_nil) rfl (by decide) lk0 (y_cast hX (by decide +kernel)) (fun q => ?_)
      refine z_astore (lv' := [(0, .ref (a 0)), (1, .int p0), (2, .int p1), (3, .int p2), (4, .ref o), (5, .ref q)]) C dL_setCoefficient_15 (by decide) [1, 2, 3, 4, 5, 0] rfl ?_
      refine z_iconst (v := 1) C dL_setCoefficient_17 (by decide) ?_
      exact hend _ _ _ _ _ (u, g, gd) dL_setCoefficient_18 (Nat.le_of_ble_eq_true rfl) (Nat.le_of_ble_eq_true rfl) (yPost_err hk (by decide) hu)
    · refine x_catch C [⟨0, 12, 15, 19⟩] ⟨0, 12, 19, 13⟩ [] hex (List.forall_mem_cons.mpr ⟨Or.inr ⟨by decide, _, C.1.2.2.2.2 _ lk0, hNc.1⟩, (fun z hz => absurd hz List.not_mem_nil)⟩) rfl (by decide) lk1 (y_cast hX (by decide +kernel)) (fun q => ?_)
      refine z_astore (lv' := [(0, .ref (a 0)), (1, .int p0), (2, .int p1), (3, .int p2), (4, .ref o), (5, .ref q)]) C dL_setCoefficient_19 (by decide) [1, 2, 3, 4, 5, 0] rfl ?_
      refine z_iconst (v := 2) C dL_setCoefficient_21 (by decide) ?_
      exact hend _ _ _ _ _ (u, g, gd) dL_setCoefficient_22 (Nat.le_of_ble_eq_true rfl) (Nat.le_of_ble_eq_true rfl) (yPost_err hk (by decide) hu)
  · obtain ⟨hk, hr, hu⟩ := pq
    refine z_i2l C dL_setCoefficient_10 ?_
    refine z_last (ws' := wv K a o od (u, vp_updL g 0 r.toInt64, gd)) C 1 rfl 27 (wv_o u g gd) dL_setCoefficient_11 0 rfl (by decide) (by decide) (wv_so u g _ gd) ?_
    refine z_goto (tgt := 23) C dL_setCoefficient_12 (by decide) ?_
    refine z_iconst (v := 0) C dL_setCoefficient_23 (by decide) ?_
    exact hend _ _ _ _ _ (u, vp_updL g 0 r.toInt64, gd) dL_setCoefficient_24 (Nat.le_of_ble_eq_true rfl) (Nat.le_of_ble_eq_true rfl) (yPost_ok hk ((vp_updL_0 g _).trans (congrArg Int32.toInt64 hr)) hu)
set_option maxRecDepth 20000 in
set_option maxHeartbeats 1000000 in
theorem wL_coefficient (l : Launch) (D : va_G) (K : Nat → ClassId) (a : Nat → Nat) (N : Nat) (M : Nat → Nat → Int32) (S : Nat → Nat → Int32) (rl : Nat → Int32) (rh : Nat → Int32) (bl : Nat → Int32) (bh : Nat → Int32) (kl : Nat → Int32) (kh : Nat → Int32) (mn : Nat → Int64) (vc : Nat → Int64) (iv : Nat → Nat → Int64) (sc : Int64) (o od : Nat) (g : Nat → Int64) (gd : Nat → UInt64) (p0 : Int32) (p1 : Int32) (hst : l.stackTraces = false) (hN : N ≤ 5) : yM l D K yL_coefficient wsL_coefficient 7 104 1 6 [.ref (a 0), .int p0, .int p1, .ref o] (wv K a o od ((N, M, S, rl, rh, bl, bh, kl, kh, mn, vc, iv, sc), g, gd)) (yPost (kIx2 N p0 p1) ((M (ix p0) (ix p1)).toInt64) (fun u => u = (N, M, S, rl, rh, bl, bh, kl, kh, mn, vc, iv, sc)) (fun u => u = (N, M, S, rl, rh, bl, bh, kl, kh, mn, vc, iv, sc))) (wv K a o od) := by
  have lk0 : Cond.classLink RL 19 "java/lang/IndexOutOfBoundsException" ∈ wsL_coefficient := by decide +kernel
  refine y_met_i (cc := cL_coefficient) (maxL := 5) (hh := [(0, 10, 13, 19)]) (lv := [(0, .ref (a 0)), (1, .int p0), (2, .int p1), (3, .ref o)]) (by decide +kernel) rfl rfl (Nat.le_of_ble_eq_true rfl) rfl ?_
  intro p e s m below meth c args Q A C hX hNc hex hend
  refine z_aload_n C dL_coefficient_0 3 rfl ?_
  refine z_iconst (v := 0) C dL_coefficient_1 (by decide) ?_
  refine z_aload_n C dL_coefficient_2 0 rfl ?_
  refine z_iload_n C dL_coefficient_3 1 rfl ?_
  refine z_iload_n C dL_coefficient_4 2 rfl ?_
  refine x_callVi (As := [.int p0, .int p1]) (X := []) (wc := w0 K a (N, M, S, rl, rh, bl, bh, kl, kh, mn, vc, iv, sc)) (Y := [(o, .inl (K 1, 1, .inr (.inl g))), (od, .inl (K 4, 1, .inr (.inr (.inr (.inl gd)))))]) C hX (c0_coefficient l D K a N M S rl rh bl bh kl kh mn vc iv sc p0 p1 hst hN) (cwV 2 C.1.2.2.2.2 gL_coefficient_X0_coefficient rfl rfl rfl (by decide +kernel) ⟨Nat.le_of_ble_eq_true rfl, Nat.le_of_ble_eq_true rfl⟩) (ci := 2) rfl rfl 0 rfl dL_coefficient_5 rfl rfl (Nat.le_of_ble_eq_true rfl) ⟨Nat.le_of_ble_eq_true rfl, Nat.le_of_ble_eq_true rfl⟩ rfl (fun E u px => ?_) (fun r u pq => ?_)
  · obtain ⟨hE, hu⟩ := px
    obtain ⟨hk, rfl⟩ := hE
    refine x_catch C [] ⟨0, 10, 13, 19⟩ [] hex (fun z hz => absurd hz List.not_mem_nil) rfl (by decide) lk0 (y_cast hX (by decide +kernel)) (fun q => ?_)
    refine z_astore (lv' := [(0, .ref (a 0)), (1, .int p0), (2, .int p1), (3, .ref o), (4, .ref q)]) C dL_coefficient_13 (by decide) [1, 2, 3, 4, 0] rfl ?_
    refine z_iconst (v := 1) C dL_coefficient_15 (by decide) ?_
    exact hend _ _ _ _ _ (u, g, gd) dL_coefficient_16 (Nat.le_of_ble_eq_true rfl) (Nat.le_of_ble_eq_true rfl) (yPost_err hk (by decide) hu)
  · obtain ⟨hk, hr, hu⟩ := pq
    refine z_i2l C dL_coefficient_8 ?_
    refine z_last (ws' := wv K a o od (u, vp_updL g 0 r.toInt64, gd)) C 1 rfl 27 (wv_o u g gd) dL_coefficient_9 0 rfl (by decide) (by decide) (wv_so u g _ gd) ?_
    refine z_goto (tgt := 17) C dL_coefficient_10 (by decide) ?_
    refine z_iconst (v := 0) C dL_coefficient_17 (by decide) ?_
    exact hend _ _ _ _ _ (u, vp_updL g 0 r.toInt64, gd) dL_coefficient_18 (Nat.le_of_ble_eq_true rfl) (Nat.le_of_ble_eq_true rfl) (yPost_ok hk ((vp_updL_0 g _).trans (congrArg Int32.toInt64 hr)) hu)
set_option maxRecDepth 20000 in
set_option maxHeartbeats 1000000 in
theorem wL_setRight (l : Launch) (D : va_G) (K : Nat → ClassId) (a : Nat → Nat) (N : Nat) (M : Nat → Nat → Int32) (S : Nat → Nat → Int32) (rl : Nat → Int32) (rh : Nat → Int32) (bl : Nat → Int32) (bh : Nat → Int32) (kl : Nat → Int32) (kh : Nat → Int32) (mn : Nat → Int64) (vc : Nat → Int64) (iv : Nat → Nat → Int64) (sc : Int64) (o od : Nat) (g : Nat → Int64) (gd : Nat → UInt64) (p0 : Int32) (p1 : Int32) (p2 : Int32) (hst : l.stackTraces = false) (hN : N ≤ 5) : yM l D K yL_setRight wsL_setRight 7 106 1 6 [.ref (a 0), .int p0, .int p1, .int p2, .ref o] (wv K a o od ((N, M, S, rl, rh, bl, bh, kl, kh, mn, vc, iv, sc), g, gd)) (yPost (kInt N p0 p1 p2 999) (yb (othR (rl (ix p0)) (rh (ix p0)) p1 p2)) (fun u => u = (N, M, S, upd rl (ix p0) p1, upd rh (ix p0) p2, bl, bh, kl, kh, mn, vc, iv, sc)) (fun u => u = (N, M, S, rl, rh, bl, bh, kl, kh, mn, vc, iv, sc))) (wv K a o od) := by
  have lk0 : Cond.classLink RL 19 "java/lang/IndexOutOfBoundsException" ∈ wsL_setRight := by decide +kernel
  have lk1 : Cond.classLink RL 13 "java/lang/IllegalArgumentException" ∈ wsL_setRight := by decide +kernel
  refine y_met_i (cc := cL_setRight) (maxL := 6) (hh := [(0, 19, 22, 19), (0, 19, 26, 13)]) (lv := [(0, .ref (a 0)), (1, .int p0), (2, .int p1), (3, .int p2), (4, .ref o)]) (by decide +kernel) rfl rfl (Nat.le_of_ble_eq_true rfl) rfl ?_
  intro p e s m below meth c args Q A C hX hNc hex hend
  refine z_aload C dL_setRight_0 4 rfl ?_
  refine z_iconst (v := 0) C dL_setRight_2 (by decide) ?_
  refine z_aload_n C dL_setRight_3 0 rfl ?_
  refine z_iload_n C dL_setRight_4 1 rfl ?_
  refine z_iload_n C dL_setRight_5 2 rfl ?_
  refine z_iload_n C dL_setRight_6 3 rfl ?_
  refine x_callVi (As := [.int p0, .int p1, .int p2]) (X := []) (wc := w0 K a (N, M, S, rl, rh, bl, bh, kl, kh, mn, vc, iv, sc)) (Y := [(o, .inl (K 1, 1, .inr (.inl g))), (od, .inl (K 4, 1, .inr (.inr (.inr (.inl gd)))))]) C hX (c0_setRight l D K a N M S rl rh bl bh kl kh mn vc iv sc p0 p1 p2 hst hN) (cwV 3 C.1.2.2.2.2 gL_setRight_X0_setRight rfl rfl rfl (by decide +kernel) ⟨Nat.le_of_ble_eq_true rfl, Nat.le_of_ble_eq_true rfl⟩) (ci := 2) rfl rfl 0 rfl dL_setRight_7 rfl rfl (Nat.le_of_ble_eq_true rfl) ⟨Nat.le_of_ble_eq_true rfl, Nat.le_of_ble_eq_true rfl⟩ rfl (fun E u px => ?_) (fun r u pq => ?_)
  · obtain ⟨hE, hu⟩ := px
    rcases hE with ⟨hk, rfl⟩ | ⟨hk, rfl⟩
    · refine x_catch C [] ⟨0, 19, 22, 19⟩ [⟨0, 19, 26, 13⟩] hex (fun z hz => absurd hz List.not_mem_nil) rfl (by decide) lk0 (y_cast hX (by decide +kernel)) (fun q => ?_)
      refine z_astore (lv' := [(0, .ref (a 0)), (1, .int p0), (2, .int p1), (3, .int p2), (4, .ref o), (5, .ref q)]) C dL_setRight_22 (by decide) [1, 2, 3, 4, 5, 0] rfl ?_
      refine z_iconst (v := 1) C dL_setRight_24 (by decide) ?_
      exact hend _ _ _ _ _ (u, g, gd) dL_setRight_25 (Nat.le_of_ble_eq_true rfl) (Nat.le_of_ble_eq_true rfl) (yPost_err hk (by decide) hu)
    · refine x_catch C [⟨0, 19, 22, 19⟩] ⟨0, 19, 26, 13⟩ [] hex (List.forall_mem_cons.mpr ⟨Or.inr ⟨by decide, _, C.1.2.2.2.2 _ lk0, hNc.1⟩, (fun z hz => absurd hz List.not_mem_nil)⟩) rfl (by decide) lk1 (y_cast hX (by decide +kernel)) (fun q => ?_)
      refine z_astore (lv' := [(0, .ref (a 0)), (1, .int p0), (2, .int p1), (3, .int p2), (4, .ref o), (5, .ref q)]) C dL_setRight_26 (by decide) [1, 2, 3, 4, 5, 0] rfl ?_
      refine z_iconst (v := 2) C dL_setRight_28 (by decide) ?_
      exact hend _ _ _ _ _ (u, g, gd) dL_setRight_29 (Nat.le_of_ble_eq_true rfl) (Nat.le_of_ble_eq_true rfl) (yPost_err hk (by decide) hu)
  · obtain ⟨hk, hr, hu⟩ := pq
    refine z_if_eq (tgt := 17) C dL_setRight_10 (by decide) (fun cb => ?_) (fun cb => ?_)
    · refine z_lconst (v := 0) C dL_setRight_17 (by decide) ?_
      refine z_last (ws' := wv K a o od (u, vp_updL g 0 0, gd)) C 1 rfl 27 (wv_o u g gd) dL_setRight_18 0 rfl (by decide) (by decide) (wv_so u g _ gd) ?_
      refine z_goto (tgt := 30) C dL_setRight_19 (by decide) ?_
      refine z_iconst (v := 0) C dL_setRight_30 (by decide) ?_
      exact hend _ _ _ _ _ (u, vp_updL g 0 0, gd) dL_setRight_31 (Nat.le_of_ble_eq_true rfl) (Nat.le_of_ble_eq_true rfl) (yPost_ok hk ((vp_updL_0 g _).trans (hr ▸ (yb_t cb))) hu)
    · refine z_lconst (v := 1) C dL_setRight_13 (by decide) ?_
      refine z_goto (tgt := 18) C dL_setRight_14 (by decide) ?_
      refine z_last (ws' := wv K a o od (u, vp_updL g 0 1, gd)) C 1 rfl 27 (wv_o u g gd) dL_setRight_18 0 rfl (by decide) (by decide) (wv_so u g _ gd) ?_
      refine z_goto (tgt := 30) C dL_setRight_19 (by decide) ?_
      refine z_iconst (v := 0) C dL_setRight_30 (by decide) ?_
      exact hend _ _ _ _ _ (u, vp_updL g 0 1, gd) dL_setRight_31 (Nat.le_of_ble_eq_true rfl) (Nat.le_of_ble_eq_true rfl) (yPost_ok hk ((vp_updL_0 g _).trans (hr ▸ (yb_f cb))) hu)
set_option maxRecDepth 20000 in
set_option maxHeartbeats 1000000 in
theorem wL_rightLow (l : Launch) (D : va_G) (K : Nat → ClassId) (a : Nat → Nat) (N : Nat) (M : Nat → Nat → Int32) (S : Nat → Nat → Int32) (rl : Nat → Int32) (rh : Nat → Int32) (bl : Nat → Int32) (bh : Nat → Int32) (kl : Nat → Int32) (kh : Nat → Int32) (mn : Nat → Int64) (vc : Nat → Int64) (iv : Nat → Nat → Int64) (sc : Int64) (o od : Nat) (g : Nat → Int64) (gd : Nat → UInt64) (p0 : Int32) (hst : l.stackTraces = false) (hN : N ≤ 5) : yM l D K yL_rightLow wsL_rightLow 7 103 1 6 [.ref (a 0), .int p0, .ref o] (wv K a o od ((N, M, S, rl, rh, bl, bh, kl, kh, mn, vc, iv, sc), g, gd)) (yPost (kIx N p0) ((rl (ix p0)).toInt64) (fun u => u = (N, M, S, rl, rh, bl, bh, kl, kh, mn, vc, iv, sc)) (fun u => u = (N, M, S, rl, rh, bl, bh, kl, kh, mn, vc, iv, sc))) (wv K a o od) := by
  have lk0 : Cond.classLink RL 19 "java/lang/IndexOutOfBoundsException" ∈ wsL_rightLow := by decide +kernel
  refine y_met_i (cc := cL_rightLow) (maxL := 4) (hh := [(0, 9, 12, 19)]) (lv := [(0, .ref (a 0)), (1, .int p0), (2, .ref o)]) (by decide +kernel) rfl rfl (Nat.le_of_ble_eq_true rfl) rfl ?_
  intro p e s m below meth c args Q A C hX hNc hex hend
  refine z_aload_n C dL_rightLow_0 2 rfl ?_
  refine z_iconst (v := 0) C dL_rightLow_1 (by decide) ?_
  refine z_aload_n C dL_rightLow_2 0 rfl ?_
  refine z_iload_n C dL_rightLow_3 1 rfl ?_
  refine x_callVi (As := [.int p0]) (X := []) (wc := w0 K a (N, M, S, rl, rh, bl, bh, kl, kh, mn, vc, iv, sc)) (Y := [(o, .inl (K 1, 1, .inr (.inl g))), (od, .inl (K 4, 1, .inr (.inr (.inr (.inl gd)))))]) C hX (c0_rightLow l D K a N M S rl rh bl bh kl kh mn vc iv sc p0 hst hN) (cwV 1 C.1.2.2.2.2 gL_rightLow_X0_rightLow rfl rfl rfl (by decide +kernel) ⟨Nat.le_of_ble_eq_true rfl, Nat.le_of_ble_eq_true rfl⟩) (ci := 2) rfl rfl 0 rfl dL_rightLow_4 rfl rfl (Nat.le_of_ble_eq_true rfl) ⟨Nat.le_of_ble_eq_true rfl, Nat.le_of_ble_eq_true rfl⟩ rfl (fun E u px => ?_) (fun r u pq => ?_)
  · obtain ⟨hE, hu⟩ := px
    obtain ⟨hk, rfl⟩ := hE
    refine x_catch C [] ⟨0, 9, 12, 19⟩ [] hex (fun z hz => absurd hz List.not_mem_nil) rfl (by decide) lk0 (y_cast hX (by decide +kernel)) (fun q => ?_)
    refine z_astore_n (lv' := [(0, .ref (a 0)), (1, .int p0), (2, .ref o), (3, .ref q)]) C dL_rightLow_12 (by decide) [1, 2, 3, 0] rfl ?_
    refine z_iconst (v := 1) C dL_rightLow_13 (by decide) ?_
    exact hend _ _ _ _ _ (u, g, gd) dL_rightLow_14 (Nat.le_of_ble_eq_true rfl) (Nat.le_of_ble_eq_true rfl) (yPost_err hk (by decide) hu)
  · obtain ⟨hk, hr, hu⟩ := pq
    refine z_i2l C dL_rightLow_7 ?_
    refine z_last (ws' := wv K a o od (u, vp_updL g 0 r.toInt64, gd)) C 1 rfl 27 (wv_o u g gd) dL_rightLow_8 0 rfl (by decide) (by decide) (wv_so u g _ gd) ?_
    refine z_goto (tgt := 15) C dL_rightLow_9 (by decide) ?_
    refine z_iconst (v := 0) C dL_rightLow_15 (by decide) ?_
    exact hend _ _ _ _ _ (u, vp_updL g 0 r.toInt64, gd) dL_rightLow_16 (Nat.le_of_ble_eq_true rfl) (Nat.le_of_ble_eq_true rfl) (yPost_ok hk ((vp_updL_0 g _).trans (congrArg Int32.toInt64 hr)) hu)
set_option maxRecDepth 20000 in
set_option maxHeartbeats 1000000 in
theorem wL_rightHigh (l : Launch) (D : va_G) (K : Nat → ClassId) (a : Nat → Nat) (N : Nat) (M : Nat → Nat → Int32) (S : Nat → Nat → Int32) (rl : Nat → Int32) (rh : Nat → Int32) (bl : Nat → Int32) (bh : Nat → Int32) (kl : Nat → Int32) (kh : Nat → Int32) (mn : Nat → Int64) (vc : Nat → Int64) (iv : Nat → Nat → Int64) (sc : Int64) (o od : Nat) (g : Nat → Int64) (gd : Nat → UInt64) (p0 : Int32) (hst : l.stackTraces = false) (hN : N ≤ 5) : yM l D K yL_rightHigh wsL_rightHigh 7 103 1 6 [.ref (a 0), .int p0, .ref o] (wv K a o od ((N, M, S, rl, rh, bl, bh, kl, kh, mn, vc, iv, sc), g, gd)) (yPost (kIx N p0) ((rh (ix p0)).toInt64) (fun u => u = (N, M, S, rl, rh, bl, bh, kl, kh, mn, vc, iv, sc)) (fun u => u = (N, M, S, rl, rh, bl, bh, kl, kh, mn, vc, iv, sc))) (wv K a o od) := by
  have lk0 : Cond.classLink RL 19 "java/lang/IndexOutOfBoundsException" ∈ wsL_rightHigh := by decide +kernel
  refine y_met_i (cc := cL_rightHigh) (maxL := 4) (hh := [(0, 9, 12, 19)]) (lv := [(0, .ref (a 0)), (1, .int p0), (2, .ref o)]) (by decide +kernel) rfl rfl (Nat.le_of_ble_eq_true rfl) rfl ?_
  intro p e s m below meth c args Q A C hX hNc hex hend
  refine z_aload_n C dL_rightHigh_0 2 rfl ?_
  refine z_iconst (v := 0) C dL_rightHigh_1 (by decide) ?_
  refine z_aload_n C dL_rightHigh_2 0 rfl ?_
  refine z_iload_n C dL_rightHigh_3 1 rfl ?_
  refine x_callVi (As := [.int p0]) (X := []) (wc := w0 K a (N, M, S, rl, rh, bl, bh, kl, kh, mn, vc, iv, sc)) (Y := [(o, .inl (K 1, 1, .inr (.inl g))), (od, .inl (K 4, 1, .inr (.inr (.inr (.inl gd)))))]) C hX (c0_rightHigh l D K a N M S rl rh bl bh kl kh mn vc iv sc p0 hst hN) (cwV 1 C.1.2.2.2.2 gL_rightHigh_X0_rightHigh rfl rfl rfl (by decide +kernel) ⟨Nat.le_of_ble_eq_true rfl, Nat.le_of_ble_eq_true rfl⟩) (ci := 2) rfl rfl 0 rfl dL_rightHigh_4 rfl rfl (Nat.le_of_ble_eq_true rfl) ⟨Nat.le_of_ble_eq_true rfl, Nat.le_of_ble_eq_true rfl⟩ rfl (fun E u px => ?_) (fun r u pq => ?_)
  · obtain ⟨hE, hu⟩ := px
    obtain ⟨hk, rfl⟩ := hE
    refine x_catch C [] ⟨0, 9, 12, 19⟩ [] hex (fun z hz => absurd hz List.not_mem_nil) rfl (by decide) lk0 (y_cast hX (by decide +kernel)) (fun q => ?_)
    refine z_astore_n (lv' := [(0, .ref (a 0)), (1, .int p0), (2, .ref o), (3, .ref q)]) C dL_rightHigh_12 (by decide) [1, 2, 3, 0] rfl ?_
    refine z_iconst (v := 1) C dL_rightHigh_13 (by decide) ?_
    exact hend _ _ _ _ _ (u, g, gd) dL_rightHigh_14 (Nat.le_of_ble_eq_true rfl) (Nat.le_of_ble_eq_true rfl) (yPost_err hk (by decide) hu)
  · obtain ⟨hk, hr, hu⟩ := pq
    refine z_i2l C dL_rightHigh_7 ?_
    refine z_last (ws' := wv K a o od (u, vp_updL g 0 r.toInt64, gd)) C 1 rfl 27 (wv_o u g gd) dL_rightHigh_8 0 rfl (by decide) (by decide) (wv_so u g _ gd) ?_
    refine z_goto (tgt := 15) C dL_rightHigh_9 (by decide) ?_
    refine z_iconst (v := 0) C dL_rightHigh_15 (by decide) ?_
    exact hend _ _ _ _ _ (u, vp_updL g 0 r.toInt64, gd) dL_rightHigh_16 (Nat.le_of_ble_eq_true rfl) (Nat.le_of_ble_eq_true rfl) (yPost_ok hk ((vp_updL_0 g _).trans (congrArg Int32.toInt64 hr)) hu)
set_option maxRecDepth 20000 in
set_option maxHeartbeats 1000000 in
theorem wL_setSpread (l : Launch) (D : va_G) (K : Nat → ClassId) (a : Nat → Nat) (N : Nat) (M : Nat → Nat → Int32) (S : Nat → Nat → Int32) (rl : Nat → Int32) (rh : Nat → Int32) (bl : Nat → Int32) (bh : Nat → Int32) (kl : Nat → Int32) (kh : Nat → Int32) (mn : Nat → Int64) (vc : Nat → Int64) (iv : Nat → Nat → Int64) (sc : Int64) (o od : Nat) (g : Nat → Int64) (gd : Nat → UInt64) (p0 : Int32) (p1 : Int32) (p2 : Int32) (hst : l.stackTraces = false) (hN : N ≤ 5) : yM l D K yL_setSpread wsL_setSpread 7 106 1 6 [.ref (a 0), .int p0, .int p1, .int p2, .ref o] (wv K a o od ((N, M, S, rl, rh, bl, bh, kl, kh, mn, vc, iv, sc), g, gd)) (yPost (kVal N p0 p1 p2 0 50) ((S (ix p0) (ix p1)).toInt64) (fun u => u = (N, M, up2 S (ix p0) (ix p1) p2, rl, rh, bl, bh, kl, kh, mn, vc, iv, sc)) (fun u => u = (N, M, S, rl, rh, bl, bh, kl, kh, mn, vc, iv, sc))) (wv K a o od) := by
  have lk0 : Cond.classLink RL 19 "java/lang/IndexOutOfBoundsException" ∈ wsL_setSpread := by decide +kernel
  have lk1 : Cond.classLink RL 13 "java/lang/IllegalArgumentException" ∈ wsL_setSpread := by decide +kernel
  refine y_met_i (cc := cL_setSpread) (maxL := 6) (hh := [(0, 12, 15, 19), (0, 12, 19, 13)]) (lv := [(0, .ref (a 0)), (1, .int p0), (2, .int p1), (3, .int p2), (4, .ref o)]) (by decide +kernel) rfl rfl (Nat.le_of_ble_eq_true rfl) rfl ?_
  intro p e s m below meth c args Q A C hX hNc hex hend
  refine z_aload C dL_setSpread_0 4 rfl ?_
  refine z_iconst (v := 0) C dL_setSpread_2 (by decide) ?_
  refine z_aload_n C dL_setSpread_3 0 rfl ?_
  refine z_iload_n C dL_setSpread_4 1 rfl ?_
  refine z_iload_n C dL_setSpread_5 2 rfl ?_
  refine z_iload_n C dL_setSpread_6 3 rfl ?_
  refine x_callVi (As := [.int p0, .int p1, .int p2]) (X := []) (wc := w0 K a (N, M, S, rl, rh, bl, bh, kl, kh, mn, vc, iv, sc)) (Y := [(o, .inl (K 1, 1, .inr (.inl g))), (od, .inl (K 4, 1, .inr (.inr (.inr (.inl gd)))))]) C hX (c0_setSpread l D K a N M S rl rh bl bh kl kh mn vc iv sc p0 p1 p2 hst hN) (cwV 3 C.1.2.2.2.2 gL_setSpread_X0_setSpread rfl rfl rfl (by decide +kernel) ⟨Nat.le_of_ble_eq_true rfl, Nat.le_of_ble_eq_true rfl⟩) (ci := 2) rfl rfl 0 rfl dL_setSpread_7 rfl rfl (Nat.le_of_ble_eq_true rfl) ⟨Nat.le_of_ble_eq_true rfl, Nat.le_of_ble_eq_true rfl⟩ rfl (fun E u px => ?_) (fun r u pq => ?_)
  · obtain ⟨hE, hu⟩ := px
    rcases hE with ⟨hk, rfl⟩ | ⟨hk, rfl⟩
    · refine x_catch C [] ⟨0, 12, 15, 19⟩ [⟨0, 12, 19, 13⟩] hex (fun z hz => absurd hz List.not_mem_nil) rfl (by decide) lk0 (y_cast hX (by decide +kernel)) (fun q => ?_)
      refine z_astore (lv' := [(0, .ref (a 0)), (1, .int p0), (2, .int p1), (3, .int p2), (4, .ref o), (5, .ref q)]) C dL_setSpread_15 (by decide) [1, 2, 3, 4, 5, 0] rfl ?_
      refine z_iconst (v := 1) C dL_setSpread_17 (by decide) ?_
      exact hend _ _ _ _ _ (u, g, gd) dL_setSpread_18 (Nat.le_of_ble_eq_true rfl) (Nat.le_of_ble_eq_true rfl) (yPost_err hk (by decide) hu)
    · refine x_catch C [⟨0, 12, 15, 19⟩] ⟨0, 12, 19, 13⟩ [] hex (List.forall_mem_cons.mpr ⟨Or.inr ⟨by decide, _, C.1.2.2.2.2 _ lk0, hNc.1⟩, (fun z hz => absurd hz List.not_mem_nil)⟩) rfl (by decide) lk1 (y_cast hX (by decide +kernel)) (fun q => ?_)
      refine z_astore (lv' := [(0, .ref (a 0)), (1, .int p0), (2, .int p1), (3, .int p2), (4, .ref o), (5, .ref q)]) C dL_setSpread_19 (by decide) [1, 2, 3, 4, 5, 0] rfl ?_
      refine z_iconst (v := 2) C dL_setSpread_21 (by decide) ?_
      exact hend _ _ _ _ _ (u, g, gd) dL_setSpread_22 (Nat.le_of_ble_eq_true rfl) (Nat.le_of_ble_eq_true rfl) (yPost_err hk (by decide) hu)
  · obtain ⟨hk, hr, hu⟩ := pq
    refine z_i2l C dL_setSpread_10 ?_
    refine z_last (ws' := wv K a o od (u, vp_updL g 0 r.toInt64, gd)) C 1 rfl 27 (wv_o u g gd) dL_setSpread_11 0 rfl (by decide) (by decide) (wv_so u g _ gd) ?_
    refine z_goto (tgt := 23) C dL_setSpread_12 (by decide) ?_
    refine z_iconst (v := 0) C dL_setSpread_23 (by decide) ?_
    exact hend _ _ _ _ _ (u, vp_updL g 0 r.toInt64, gd) dL_setSpread_24 (Nat.le_of_ble_eq_true rfl) (Nat.le_of_ble_eq_true rfl) (yPost_ok hk ((vp_updL_0 g _).trans (congrArg Int32.toInt64 hr)) hu)
set_option maxRecDepth 20000 in
set_option maxHeartbeats 1000000 in
theorem wL_swapRows (l : Launch) (D : va_G) (K : Nat → ClassId) (a : Nat → Nat) (N : Nat) (M : Nat → Nat → Int32) (S : Nat → Nat → Int32) (rl : Nat → Int32) (rh : Nat → Int32) (bl : Nat → Int32) (bh : Nat → Int32) (kl : Nat → Int32) (kh : Nat → Int32) (mn : Nat → Int64) (vc : Nat → Int64) (iv : Nat → Nat → Int64) (sc : Int64) (o od : Nat) (g : Nat → Int64) (gd : Nat → UInt64) (p0 : Int32) (p1 : Int32) (hst : l.stackTraces = false) (hN : N ≤ 5) : yM l D K yL_swapRows wsL_swapRows 7 107 1 6 [.ref (a 0), .int p0, .int p1, .ref o] (wv K a o od ((N, M, S, rl, rh, bl, bh, kl, kh, mn, vc, iv, sc), g, gd)) (yPost (kIx2 N p0 p1) (yb (neI p0 p1)) (fun u => u = (N, swpM M (ix p0) (ix p1) N, swpM S (ix p0) (ix p1) N, swpV rl (ix p0) (ix p1), swpV rh (ix p0) (ix p1), bl, bh, kl, kh, mn, vc, iv, sc)) (fun u => u = (N, M, S, rl, rh, bl, bh, kl, kh, mn, vc, iv, sc))) (wv K a o od) := by
  have lk0 : Cond.classLink RL 19 "java/lang/IndexOutOfBoundsException" ∈ wsL_swapRows := by decide +kernel
  refine y_met_i (cc := cL_swapRows) (maxL := 5) (hh := [(0, 17, 20, 19)]) (lv := [(0, .ref (a 0)), (1, .int p0), (2, .int p1), (3, .ref o)]) (by decide +kernel) rfl rfl (Nat.le_of_ble_eq_true rfl) rfl ?_
  intro p e s m below meth c args Q A C hX hNc hex hend
  refine z_aload_n C dL_swapRows_0 3 rfl ?_
  refine z_iconst (v := 0) C dL_swapRows_1 (by decide) ?_
  refine z_aload_n C dL_swapRows_2 0 rfl ?_
  refine z_iload_n C dL_swapRows_3 1 rfl ?_
  refine z_iload_n C dL_swapRows_4 2 rfl ?_
  refine x_callVi (As := [.int p0, .int p1]) (X := []) (wc := w0 K a (N, M, S, rl, rh, bl, bh, kl, kh, mn, vc, iv, sc)) (Y := [(o, .inl (K 1, 1, .inr (.inl g))), (od, .inl (K 4, 1, .inr (.inr (.inr (.inl gd)))))]) C hX (c0_swapRows l D K a N M S rl rh bl bh kl kh mn vc iv sc p0 p1 hst hN) (cwV 2 C.1.2.2.2.2 gL_swapRows_X0_swapRows rfl rfl rfl (by decide +kernel) ⟨Nat.le_of_ble_eq_true rfl, Nat.le_of_ble_eq_true rfl⟩) (ci := 2) rfl rfl 0 rfl dL_swapRows_5 rfl rfl (Nat.le_of_ble_eq_true rfl) ⟨Nat.le_of_ble_eq_true rfl, Nat.le_of_ble_eq_true rfl⟩ rfl (fun E u px => ?_) (fun r u pq => ?_)
  · obtain ⟨hE, hu⟩ := px
    obtain ⟨hk, rfl⟩ := hE
    refine x_catch C [] ⟨0, 17, 20, 19⟩ [] hex (fun z hz => absurd hz List.not_mem_nil) rfl (by decide) lk0 (y_cast hX (by decide +kernel)) (fun q => ?_)
    refine z_astore (lv' := [(0, .ref (a 0)), (1, .int p0), (2, .int p1), (3, .ref o), (4, .ref q)]) C dL_swapRows_20 (by decide) [1, 2, 3, 4, 0] rfl ?_
    refine z_iconst (v := 1) C dL_swapRows_22 (by decide) ?_
    exact hend _ _ _ _ _ (u, g, gd) dL_swapRows_23 (Nat.le_of_ble_eq_true rfl) (Nat.le_of_ble_eq_true rfl) (yPost_err hk (by decide) hu)
  · obtain ⟨hk, hr, hu⟩ := pq
    refine z_if_eq (tgt := 15) C dL_swapRows_8 (by decide) (fun cb => ?_) (fun cb => ?_)
    · refine z_lconst (v := 0) C dL_swapRows_15 (by decide) ?_
      refine z_last (ws' := wv K a o od (u, vp_updL g 0 0, gd)) C 1 rfl 27 (wv_o u g gd) dL_swapRows_16 0 rfl (by decide) (by decide) (wv_so u g _ gd) ?_
      refine z_goto (tgt := 24) C dL_swapRows_17 (by decide) ?_
      refine z_iconst (v := 0) C dL_swapRows_24 (by decide) ?_
      exact hend _ _ _ _ _ (u, vp_updL g 0 0, gd) dL_swapRows_25 (Nat.le_of_ble_eq_true rfl) (Nat.le_of_ble_eq_true rfl) (yPost_ok hk ((vp_updL_0 g _).trans (hr ▸ (yb_t cb))) hu)
    · refine z_lconst (v := 1) C dL_swapRows_11 (by decide) ?_
      refine z_goto (tgt := 16) C dL_swapRows_12 (by decide) ?_
      refine z_last (ws' := wv K a o od (u, vp_updL g 0 1, gd)) C 1 rfl 27 (wv_o u g gd) dL_swapRows_16 0 rfl (by decide) (by decide) (wv_so u g _ gd) ?_
      refine z_goto (tgt := 24) C dL_swapRows_17 (by decide) ?_
      refine z_iconst (v := 0) C dL_swapRows_24 (by decide) ?_
      exact hend _ _ _ _ _ (u, vp_updL g 0 1, gd) dL_swapRows_25 (Nat.le_of_ble_eq_true rfl) (Nat.le_of_ble_eq_true rfl) (yPost_ok hk ((vp_updL_0 g _).trans (hr ▸ (yb_f cb))) hu)
set_option maxRecDepth 20000 in
set_option maxHeartbeats 1000000 in
theorem wL_addRow (l : Launch) (D : va_G) (K : Nat → ClassId) (a : Nat → Nat) (N : Nat) (M : Nat → Nat → Int32) (S : Nat → Nat → Int32) (rl : Nat → Int32) (rh : Nat → Int32) (bl : Nat → Int32) (bh : Nat → Int32) (kl : Nat → Int32) (kh : Nat → Int32) (mn : Nat → Int64) (vc : Nat → Int64) (iv : Nat → Nat → Int64) (sc : Int64) (o od : Nat) (g : Nat → Int64) (gd : Nat → UInt64) (p0 : Int32) (p1 : Int32) (p2 : Int32) (hst : l.stackTraces = false) (hN : N ≤ 5) : yM l D K yL_addRow wsL_addRow 7 107 1 6 [.ref (a 0), .int p0, .int p1, .int p2, .ref o] (wv K a o od ((N, M, S, rl, rh, bl, bh, kl, kh, mn, vc, iv, sc), g, gd)) (yPost (kAdd0 N M rl rh p0 p1 p2) ((acC M (ix p0) (ix p1) p2 N).toInt64) (fun u => u = (N, acM M (ix p0) (ix p1) p2 N, S, upd rl (ix p0) (rl (ix p0) + pLow p2 (rl (ix p1)) (rh (ix p1))), upd rh (ix p0) (rh (ix p0) + pHigh p2 (rl (ix p1)) (rh (ix p1))), bl, bh, kl, kh, mn, vc, iv, sc)) (fun u => u = (N, M, S, rl, rh, bl, bh, kl, kh, mn, vc, iv, sc))) (wv K a o od) := by
  have lk0 : Cond.classLink RL 19 "java/lang/IndexOutOfBoundsException" ∈ wsL_addRow := by decide +kernel
  have lk1 : Cond.classLink RL 13 "java/lang/IllegalArgumentException" ∈ wsL_addRow := by decide +kernel
  have lk2 : Cond.classLink RL 45 "java/lang/ArithmeticException" ∈ wsL_addRow := by decide +kernel
  refine y_met_i (cc := cL_addRow) (maxL := 6) (hh := [(0, 12, 15, 19), (0, 12, 19, 13), (0, 12, 23, 45)]) (lv := [(0, .ref (a 0)), (1, .int p0), (2, .int p1), (3, .int p2), (4, .ref o)]) (by decide +kernel) rfl rfl (Nat.le_of_ble_eq_true rfl) rfl ?_
  intro p e s m below meth c args Q A C hX hNc hex hend
  refine z_aload C dL_addRow_0 4 rfl ?_
  refine z_iconst (v := 0) C dL_addRow_2 (by decide) ?_
  refine z_aload_n C dL_addRow_3 0 rfl ?_
  refine z_iload_n C dL_addRow_4 1 rfl ?_
  refine z_iload_n C dL_addRow_5 2 rfl ?_
  refine z_iload_n C dL_addRow_6 3 rfl ?_
  refine x_callVi (As := [.int p0, .int p1, .int p2]) (X := []) (wc := w0 K a (N, M, S, rl, rh, bl, bh, kl, kh, mn, vc, iv, sc)) (Y := [(o, .inl (K 1, 1, .inr (.inl g))), (od, .inl (K 4, 1, .inr (.inr (.inr (.inl gd)))))]) C hX (c0_addRow l D K a N M S rl rh bl bh kl kh mn vc iv sc p0 p1 p2 hst hN) (cwV 3 C.1.2.2.2.2 gL_addRow_X0_addRow rfl rfl rfl (by decide +kernel) ⟨Nat.le_of_ble_eq_true rfl, Nat.le_of_ble_eq_true rfl⟩) (ci := 2) rfl rfl 0 rfl dL_addRow_7 rfl rfl (Nat.le_of_ble_eq_true rfl) ⟨Nat.le_of_ble_eq_true rfl, Nat.le_of_ble_eq_true rfl⟩ rfl (fun E u px => ?_) (fun r u pq => ?_)
  · obtain ⟨hE, hu⟩ := px
    rcases hE with ⟨hk, rfl⟩ | ⟨hk, rfl⟩ | ⟨hk, rfl⟩
    · refine x_catch C [] ⟨0, 12, 15, 19⟩ [⟨0, 12, 19, 13⟩, ⟨0, 12, 23, 45⟩] hex (fun z hz => absurd hz List.not_mem_nil) rfl (by decide) lk0 (y_cast hX (by decide +kernel)) (fun q => ?_)
      refine z_astore (lv' := [(0, .ref (a 0)), (1, .int p0), (2, .int p1), (3, .int p2), (4, .ref o), (5, .ref q)]) C dL_addRow_15 (by decide) [1, 2, 3, 4, 5, 0] rfl ?_
      refine z_iconst (v := 1) C dL_addRow_17 (by decide) ?_
      exact hend _ _ _ _ _ (u, g, gd) dL_addRow_18 (Nat.le_of_ble_eq_true rfl) (Nat.le_of_ble_eq_true rfl) (yPost_err hk (by decide) hu)
    · refine x_catch C [⟨0, 12, 15, 19⟩] ⟨0, 12, 19, 13⟩ [⟨0, 12, 23, 45⟩] hex (List.forall_mem_cons.mpr ⟨Or.inr ⟨by decide, _, C.1.2.2.2.2 _ lk0, hNc.1⟩, (fun z hz => absurd hz List.not_mem_nil)⟩) rfl (by decide) lk1 (y_cast hX (by decide +kernel)) (fun q => ?_)
      refine z_astore (lv' := [(0, .ref (a 0)), (1, .int p0), (2, .int p1), (3, .int p2), (4, .ref o), (5, .ref q)]) C dL_addRow_19 (by decide) [1, 2, 3, 4, 5, 0] rfl ?_
      refine z_iconst (v := 2) C dL_addRow_21 (by decide) ?_
      exact hend _ _ _ _ _ (u, g, gd) dL_addRow_22 (Nat.le_of_ble_eq_true rfl) (Nat.le_of_ble_eq_true rfl) (yPost_err hk (by decide) hu)
    · refine x_catch C [⟨0, 12, 15, 19⟩, ⟨0, 12, 19, 13⟩] ⟨0, 12, 23, 45⟩ [] hex (List.forall_mem_cons.mpr ⟨Or.inr ⟨by decide, _, C.1.2.2.2.2 _ lk0, hNc.2.1⟩, (List.forall_mem_cons.mpr ⟨Or.inr ⟨by decide, _, C.1.2.2.2.2 _ lk1, hNc.2.2⟩, (fun z hz => absurd hz List.not_mem_nil)⟩)⟩) rfl (by decide) lk2 (y_cast hX (by decide +kernel)) (fun q => ?_)
      refine z_astore (lv' := [(0, .ref (a 0)), (1, .int p0), (2, .int p1), (3, .int p2), (4, .ref o), (5, .ref q)]) C dL_addRow_23 (by decide) [1, 2, 3, 4, 5, 0] rfl ?_
      refine z_iconst (v := 3) C dL_addRow_25 (by decide) ?_
      exact hend _ _ _ _ _ (u, g, gd) dL_addRow_26 (Nat.le_of_ble_eq_true rfl) (Nat.le_of_ble_eq_true rfl) (yPost_err hk (by decide) hu)
  · obtain ⟨hk, hr, hu⟩ := pq
    refine z_i2l C dL_addRow_10 ?_
    refine z_last (ws' := wv K a o od (u, vp_updL g 0 r.toInt64, gd)) C 1 rfl 27 (wv_o u g gd) dL_addRow_11 0 rfl (by decide) (by decide) (wv_so u g _ gd) ?_
    refine z_goto (tgt := 27) C dL_addRow_12 (by decide) ?_
    refine z_iconst (v := 0) C dL_addRow_27 (by decide) ?_
    exact hend _ _ _ _ _ (u, vp_updL g 0 r.toInt64, gd) dL_addRow_28 (Nat.le_of_ble_eq_true rfl) (Nat.le_of_ble_eq_true rfl) (yPost_ok hk ((vp_updL_0 g _).trans (congrArg Int32.toInt64 hr)) hu)
