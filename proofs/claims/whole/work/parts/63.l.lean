set_option maxRecDepth 20000 in
set_option maxHeartbeats 1000000 in
theorem wL_setBox (l : Launch) (D : va_G) (K : Nat → ClassId) (a : Nat → Nat) (N : Nat) (M : Nat → Nat → Int32) (S : Nat → Nat → Int32) (rl : Nat → Int32) (rh : Nat → Int32) (bl : Nat → Int32) (bh : Nat → Int32) (kl : Nat → Int32) (kh : Nat → Int32) (mn : Nat → Int64) (vc : Nat → Int64) (iv : Nat → Nat → Int64) (sc : Int64) (o od : Nat) (g : Nat → Int64) (gd : Nat → UInt64) (p0 : Int32) (p1 : Int32) (p2 : Int32) (hst : l.stackTraces = false) (hN : N ≤ 5) : yM l D K yL_setBox wsL_setBox 7 106 1 6 [.ref (a 0), .int p0, .int p1, .int p2, .ref o] (wv K a o od ((N, M, S, rl, rh, bl, bh, kl, kh, mn, vc, iv, sc), g, gd)) (yPost (kInt N p0 p1 p2 1000000000) (yb (othR (bl (ix p0)) (bh (ix p0)) p1 p2)) (fun u => u = (N, M, S, rl, rh, upd bl (ix p0) p1, upd bh (ix p0) p2, kl, kh, mn, vc, iv, sc)) (fun u => u = (N, M, S, rl, rh, bl, bh, kl, kh, mn, vc, iv, sc))) (wv K a o od) := by
  have lk0 : Cond.classLink RL 19 "java/lang/IndexOutOfBoundsException" ∈ wsL_setBox := by decide +kernel
  have lk1 : Cond.classLink RL 13 "java/lang/IllegalArgumentException" ∈ wsL_setBox := by decide +kernel
  refine y_met_i (cc := cL_setBox) (maxL := 6) (hh := [(0, 19, 22, 19), (0, 19, 26, 13)]) (lv := [(0, .ref (a 0)), (1, .int p0), (2, .int p1), (3, .int p2), (4, .ref o)]) (by decide +kernel) rfl rfl (Nat.le_of_ble_eq_true rfl) rfl ?_
  intro p e s m below meth c args Q A C hX hNc hex hend
  refine z_aload C dL_setBox_0 4 rfl ?_
  refine z_iconst (v := 0) C dL_setBox_2 (by decide) ?_
  refine z_aload_n C dL_setBox_3 0 rfl ?_
  refine z_iload_n C dL_setBox_4 1 rfl ?_
  refine z_iload_n C dL_setBox_5 2 rfl ?_
  refine z_iload_n C dL_setBox_6 3 rfl ?_
  refine x_callVi (As := [.int p0, .int p1, .int p2]) (X := []) (wc := w0 K a (N, M, S, rl, rh, bl, bh, kl, kh, mn, vc, iv, sc)) (Y := [(o, .inl (K 1, 1, .inr (.inl g))), (od, .inl (K 4, 1, .inr (.inr (.inr (.inl gd)))))]) C hX (c0_setBox l D K a N M S rl rh bl bh kl kh mn vc iv sc p0 p1 p2 hst hN) (cwV 3 C.1.2.2.2.2 gL_setBox_X0_setBox rfl rfl rfl (by decide +kernel) ⟨Nat.le_of_ble_eq_true rfl, Nat.le_of_ble_eq_true rfl⟩) (ci := 2) rfl rfl 0 rfl dL_setBox_7 rfl rfl (Nat.le_of_ble_eq_true rfl) ⟨Nat.le_of_ble_eq_true rfl, Nat.le_of_ble_eq_true rfl⟩ rfl (fun E u px => ?_) (fun r u pq => ?_)
  · obtain ⟨hE, hu⟩ := px
    rcases hE with ⟨hk, rfl⟩ | ⟨hk, rfl⟩
    · refine x_catch C [] ⟨0, 19, 22, 19⟩ [⟨0, 19, 26, 13⟩] hex (fun z hz => absurd hz List.not_mem_nil) rfl (by decide) lk0 (y_cast hX (by decide +kernel)) (fun q => ?_)
      refine z_astore (lv' := [(0, .ref (a 0)), (1, .int p0), (2, .int p1), (3, .int p2), (4, .ref o), (5, .ref q)]) C dL_setBox_22 (by decide) [1, 2, 3, 4, 5, 0] rfl ?_
      refine z_iconst (v := 1) C dL_setBox_24 (by decide) ?_
      exact hend _ _ _ _ _ (u, g, gd) dL_setBox_25 (Nat.le_of_ble_eq_true rfl) (Nat.le_of_ble_eq_true rfl) (yPost_err hk (by decide) hu)
    · refine x_catch C [⟨0, 19, 22, 19⟩] ⟨0, 19, 26, 13⟩ [] hex (List.forall_mem_cons.mpr ⟨Or.inr ⟨by decide, _, C.1.2.2.2.2 _ lk0, hNc.1⟩, (fun z hz => absurd hz List.not_mem_nil)⟩) rfl (by decide) lk1 (y_cast hX (by decide +kernel)) (fun q => ?_)
      refine z_astore (lv' := [(0, .ref (a 0)), (1, .int p0), (2, .int p1), (3, .int p2), (4, .ref o), (5, .ref q)]) C dL_setBox_26 (by decide) [1, 2, 3, 4, 5, 0] rfl ?_
      refine z_iconst (v := 2) C dL_setBox_28 (by decide) ?_
      exact hend _ _ _ _ _ (u, g, gd) dL_setBox_29 (Nat.le_of_ble_eq_true rfl) (Nat.le_of_ble_eq_true rfl) (yPost_err hk (by decide) hu)
  · obtain ⟨hk, hr, hu⟩ := pq
    refine z_if_eq (tgt := 17) C dL_setBox_10 (by decide) (fun cb => ?_) (fun cb => ?_)
    · refine z_lconst (v := 0) C dL_setBox_17 (by decide) ?_
      refine z_last (ws' := wv K a o od (u, vp_updL g 0 0, gd)) C 1 rfl 27 (wv_o u g gd) dL_setBox_18 0 rfl (by decide) (by decide) (wv_so u g _ gd) ?_
      refine z_goto (tgt := 30) C dL_setBox_19 (by decide) ?_
      refine z_iconst (v := 0) C dL_setBox_30 (by decide) ?_
      exact hend _ _ _ _ _ (u, vp_updL g 0 0, gd) dL_setBox_31 (Nat.le_of_ble_eq_true rfl) (Nat.le_of_ble_eq_true rfl) (yPost_ok hk ((vp_updL_0 g _).trans (hr ▸ (yb_t cb))) hu)
    · refine z_lconst (v := 1) C dL_setBox_13 (by decide) ?_
      refine z_goto (tgt := 18) C dL_setBox_14 (by decide) ?_
      refine z_last (ws' := wv K a o od (u, vp_updL g 0 1, gd)) C 1 rfl 27 (wv_o u g gd) dL_setBox_18 0 rfl (by decide) (by decide) (wv_so u g _ gd) ?_
      refine z_goto (tgt := 30) C dL_setBox_19 (by decide) ?_
      refine z_iconst (v := 0) C dL_setBox_30 (by decide) ?_
      exact hend _ _ _ _ _ (u, vp_updL g 0 1, gd) dL_setBox_31 (Nat.le_of_ble_eq_true rfl) (Nat.le_of_ble_eq_true rfl) (yPost_ok hk ((vp_updL_0 g _).trans (hr ▸ (yb_f cb))) hu)
set_option maxRecDepth 20000 in
set_option maxHeartbeats 1000000 in
theorem wL_boxLow (l : Launch) (D : va_G) (K : Nat → ClassId) (a : Nat → Nat) (N : Nat) (M : Nat → Nat → Int32) (S : Nat → Nat → Int32) (rl : Nat → Int32) (rh : Nat → Int32) (bl : Nat → Int32) (bh : Nat → Int32) (kl : Nat → Int32) (kh : Nat → Int32) (mn : Nat → Int64) (vc : Nat → Int64) (iv : Nat → Nat → Int64) (sc : Int64) (o od : Nat) (g : Nat → Int64) (gd : Nat → UInt64) (p0 : Int32) (hst : l.stackTraces = false) (hN : N ≤ 5) : yM l D K yL_boxLow wsL_boxLow 7 103 1 6 [.ref (a 0), .int p0, .ref o] (wv K a o od ((N, M, S, rl, rh, bl, bh, kl, kh, mn, vc, iv, sc), g, gd)) (yPost (kIx N p0) ((bl (ix p0)).toInt64) (fun u => u = (N, M, S, rl, rh, bl, bh, kl, kh, mn, vc, iv, sc)) (fun u => u = (N, M, S, rl, rh, bl, bh, kl, kh, mn, vc, iv, sc))) (wv K a o od) := by
  have lk0 : Cond.classLink RL 19 "java/lang/IndexOutOfBoundsException" ∈ wsL_boxLow := by decide +kernel
  refine y_met_i (cc := cL_boxLow) (maxL := 4) (hh := [(0, 9, 12, 19)]) (lv := [(0, .ref (a 0)), (1, .int p0), (2, .ref o)]) (by decide +kernel) rfl rfl (Nat.le_of_ble_eq_true rfl) rfl ?_
  intro p e s m below meth c args Q A C hX hNc hex hend
  refine z_aload_n C dL_boxLow_0 2 rfl ?_
  refine z_iconst (v := 0) C dL_boxLow_1 (by decide) ?_
  refine z_aload_n C dL_boxLow_2 0 rfl ?_
  refine z_iload_n C dL_boxLow_3 1 rfl ?_
  refine x_callVi (As := [.int p0]) (X := []) (wc := w0 K a (N, M, S, rl, rh, bl, bh, kl, kh, mn, vc, iv, sc)) (Y := [(o, .inl (K 1, 1, .inr (.inl g))), (od, .inl (K 4, 1, .inr (.inr (.inr (.inl gd)))))]) C hX (c0_boxLow l D K a N M S rl rh bl bh kl kh mn vc iv sc p0 hst hN) (cwV 1 C.1.2.2.2.2 gL_boxLow_X0_boxLow rfl rfl rfl (by decide +kernel) ⟨Nat.le_of_ble_eq_true rfl, Nat.le_of_ble_eq_true rfl⟩) (ci := 2) rfl rfl 0 rfl dL_boxLow_4 rfl rfl (Nat.le_of_ble_eq_true rfl) ⟨Nat.le_of_ble_eq_true rfl, Nat.le_of_ble_eq_true rfl⟩ rfl (fun E u px => ?_) (fun r u pq => ?_)
  · obtain ⟨hE, hu⟩ := px
    obtain ⟨hk, rfl⟩ := hE
    refine x_catch C [] ⟨0, 9, 12, 19⟩ [] hex (fun z hz => absurd hz List.not_mem_nil) rfl (by decide) lk0 (y_cast hX (by decide +kernel)) (fun q => ?_)
    refine z_astore_n (lv' := [(0, .ref (a 0)), (1, .int p0), (2, .ref o), (3, .ref q)]) C dL_boxLow_12 (by decide) [1, 2, 3, 0] rfl ?_
    refine z_iconst (v := 1) C dL_boxLow_13 (by decide) ?_
    exact hend _ _ _ _ _ (u, g, gd) dL_boxLow_14 (Nat.le_of_ble_eq_true rfl) (Nat.le_of_ble_eq_true rfl) (yPost_err hk (by decide) hu)
  · obtain ⟨hk, hr, hu⟩ := pq
    refine z_i2l C dL_boxLow_7 ?_
    refine z_last (ws' := wv K a o od (u, vp_updL g 0 r.toInt64, gd)) C 1 rfl 27 (wv_o u g gd) dL_boxLow_8 0 rfl (by decide) (by decide) (wv_so u g _ gd) ?_
    refine z_goto (tgt := 15) C dL_boxLow_9 (by decide) ?_
    refine z_iconst (v := 0) C dL_boxLow_15 (by decide) ?_
    exact hend _ _ _ _ _ (u, vp_updL g 0 r.toInt64, gd) dL_boxLow_16 (Nat.le_of_ble_eq_true rfl) (Nat.le_of_ble_eq_true rfl) (yPost_ok hk ((vp_updL_0 g _).trans (congrArg Int32.toInt64 hr)) hu)
set_option maxRecDepth 20000 in
set_option maxHeartbeats 1000000 in
theorem wL_boxHigh (l : Launch) (D : va_G) (K : Nat → ClassId) (a : Nat → Nat) (N : Nat) (M : Nat → Nat → Int32) (S : Nat → Nat → Int32) (rl : Nat → Int32) (rh : Nat → Int32) (bl : Nat → Int32) (bh : Nat → Int32) (kl : Nat → Int32) (kh : Nat → Int32) (mn : Nat → Int64) (vc : Nat → Int64) (iv : Nat → Nat → Int64) (sc : Int64) (o od : Nat) (g : Nat → Int64) (gd : Nat → UInt64) (p0 : Int32) (hst : l.stackTraces = false) (hN : N ≤ 5) : yM l D K yL_boxHigh wsL_boxHigh 7 103 1 6 [.ref (a 0), .int p0, .ref o] (wv K a o od ((N, M, S, rl, rh, bl, bh, kl, kh, mn, vc, iv, sc), g, gd)) (yPost (kIx N p0) ((bh (ix p0)).toInt64) (fun u => u = (N, M, S, rl, rh, bl, bh, kl, kh, mn, vc, iv, sc)) (fun u => u = (N, M, S, rl, rh, bl, bh, kl, kh, mn, vc, iv, sc))) (wv K a o od) := by
  have lk0 : Cond.classLink RL 19 "java/lang/IndexOutOfBoundsException" ∈ wsL_boxHigh := by decide +kernel
  refine y_met_i (cc := cL_boxHigh) (maxL := 4) (hh := [(0, 9, 12, 19)]) (lv := [(0, .ref (a 0)), (1, .int p0), (2, .ref o)]) (by decide +kernel) rfl rfl (Nat.le_of_ble_eq_true rfl) rfl ?_
  intro p e s m below meth c args Q A C hX hNc hex hend
  refine z_aload_n C dL_boxHigh_0 2 rfl ?_
  refine z_iconst (v := 0) C dL_boxHigh_1 (by decide) ?_
  refine z_aload_n C dL_boxHigh_2 0 rfl ?_
  refine z_iload_n C dL_boxHigh_3 1 rfl ?_
  refine x_callVi (As := [.int p0]) (X := []) (wc := w0 K a (N, M, S, rl, rh, bl, bh, kl, kh, mn, vc, iv, sc)) (Y := [(o, .inl (K 1, 1, .inr (.inl g))), (od, .inl (K 4, 1, .inr (.inr (.inr (.inl gd)))))]) C hX (c0_boxHigh l D K a N M S rl rh bl bh kl kh mn vc iv sc p0 hst hN) (cwV 1 C.1.2.2.2.2 gL_boxHigh_X0_boxHigh rfl rfl rfl (by decide +kernel) ⟨Nat.le_of_ble_eq_true rfl, Nat.le_of_ble_eq_true rfl⟩) (ci := 2) rfl rfl 0 rfl dL_boxHigh_4 rfl rfl (Nat.le_of_ble_eq_true rfl) ⟨Nat.le_of_ble_eq_true rfl, Nat.le_of_ble_eq_true rfl⟩ rfl (fun E u px => ?_) (fun r u pq => ?_)
  · obtain ⟨hE, hu⟩ := px
    obtain ⟨hk, rfl⟩ := hE
    refine x_catch C [] ⟨0, 9, 12, 19⟩ [] hex (fun z hz => absurd hz List.not_mem_nil) rfl (by decide) lk0 (y_cast hX (by decide +kernel)) (fun q => ?_)
    refine z_astore_n (lv' := [(0, .ref (a 0)), (1, .int p0), (2, .ref o), (3, .ref q)]) C dL_boxHigh_12 (by decide) [1, 2, 3, 0] rfl ?_
    refine z_iconst (v := 1) C dL_boxHigh_13 (by decide) ?_
    exact hend _ _ _ _ _ (u, g, gd) dL_boxHigh_14 (Nat.le_of_ble_eq_true rfl) (Nat.le_of_ble_eq_true rfl) (yPost_err hk (by decide) hu)
  · obtain ⟨hk, hr, hu⟩ := pq
    refine z_i2l C dL_boxHigh_7 ?_
    refine z_last (ws' := wv K a o od (u, vp_updL g 0 r.toInt64, gd)) C 1 rfl 27 (wv_o u g gd) dL_boxHigh_8 0 rfl (by decide) (by decide) (wv_so u g _ gd) ?_
    refine z_goto (tgt := 15) C dL_boxHigh_9 (by decide) ?_
    refine z_iconst (v := 0) C dL_boxHigh_15 (by decide) ?_
    exact hend _ _ _ _ _ (u, vp_updL g 0 r.toInt64, gd) dL_boxHigh_16 (Nat.le_of_ble_eq_true rfl) (Nat.le_of_ble_eq_true rfl) (yPost_ok hk ((vp_updL_0 g _).trans (congrArg Int32.toInt64 hr)) hu)
set_option maxRecDepth 20000 in
set_option maxHeartbeats 1000000 in
theorem wL_contract (l : Launch) (D : va_G) (K : Nat → ClassId) (a : Nat → Nat) (N : Nat) (M : Nat → Nat → Int32) (S : Nat → Nat → Int32) (rl : Nat → Int32) (rh : Nat → Int32) (bl : Nat → Int32) (bh : Nat → Int32) (kl : Nat → Int32) (kh : Nat → Int32) (mn : Nat → Int64) (vc : Nat → Int64) (iv : Nat → Nat → Int64) (sc : Int64) (o od : Nat) (g : Nat → Int64) (gd : Nat → UInt64) (p0 : Int32) (hst : l.stackTraces = false) (hN : N ≤ 5) : yM l D K yL_contract wsL_contract 7 146 1 6 [.ref (a 0), .int p0, .ref o] (wv K a o od ((N, M, S, rl, rh, bl, bh, kl, kh, mn, vc, iv, sc), g, gd)) (yPost (kCon p0) (((cnS (sw0 N M rl rh) (ix p0) 0 (bl, bh)).1).toInt64) (fun u => ∃ kl1 kh1, u = (N, M, S, rl, rh, (cnS (sw0 N M rl rh) (ix p0) 0 (bl, bh)).2.1, (cnS (sw0 N M rl rh) (ix p0) 0 (bl, bh)).2.2, kl1, kh1, mn, vc, iv, sc)) (fun u => u = (N, M, S, rl, rh, bl, bh, kl, kh, mn, vc, iv, sc))) (wv K a o od) := by
  have lk0 : Cond.classLink RL 13 "java/lang/IllegalArgumentException" ∈ wsL_contract := by decide +kernel
  refine y_met_i (cc := cL_contract) (maxL := 4) (hh := [(0, 9, 12, 13)]) (lv := [(0, .ref (a 0)), (1, .int p0), (2, .ref o)]) (by decide +kernel) rfl rfl (Nat.le_of_ble_eq_true rfl) rfl ?_
  intro p e s m below meth c args Q A C hX hNc hex hend
  refine z_aload_n C dL_contract_0 2 rfl ?_
  refine z_iconst (v := 0) C dL_contract_1 (by decide) ?_
  refine z_aload_n C dL_contract_2 0 rfl ?_
  refine z_iload_n C dL_contract_3 1 rfl ?_
  refine x_callVi (As := [.int p0]) (X := []) (wc := w0 K a (N, M, S, rl, rh, bl, bh, kl, kh, mn, vc, iv, sc)) (Y := [(o, .inl (K 1, 1, .inr (.inl g))), (od, .inl (K 4, 1, .inr (.inr (.inr (.inl gd)))))]) C hX (c0_contract l D K a N M S rl rh bl bh kl kh mn vc iv sc p0 hst hN) (cwV 1 C.1.2.2.2.2 gL_contract_X0_contract rfl rfl rfl (by decide +kernel) ⟨Nat.le_of_ble_eq_true rfl, Nat.le_of_ble_eq_true rfl⟩) (ci := 2) rfl rfl 0 rfl dL_contract_4 rfl rfl (Nat.le_of_ble_eq_true rfl) ⟨Nat.le_of_ble_eq_true rfl, Nat.le_of_ble_eq_true rfl⟩ rfl (fun E u px => ?_) (fun r u pq => ?_)
  · obtain ⟨hE, hu⟩ := px
    obtain ⟨hk, rfl⟩ := hE
    refine x_catch C [] ⟨0, 9, 12, 13⟩ [] hex (fun z hz => absurd hz List.not_mem_nil) rfl (by decide) lk0 (y_cast hX (by decide +kernel)) (fun q => ?_)
    refine z_astore_n (lv' := [(0, .ref (a 0)), (1, .int p0), (2, .ref o), (3, .ref q)]) C dL_contract_12 (by decide) [1, 2, 3, 0] rfl ?_
    refine z_iconst (v := 1) C dL_contract_13 (by decide) ?_
    exact hend _ _ _ _ _ (u, g, gd) dL_contract_14 (Nat.le_of_ble_eq_true rfl) (Nat.le_of_ble_eq_true rfl) (yPost_err hk (by decide) hu)
  · obtain ⟨hk, hr, hu⟩ := pq
    refine z_i2l C dL_contract_7 ?_
    refine z_last (ws' := wv K a o od (u, vp_updL g 0 r.toInt64, gd)) C 1 rfl 27 (wv_o u g gd) dL_contract_8 0 rfl (by decide) (by decide) (wv_so u g _ gd) ?_
    refine z_goto (tgt := 15) C dL_contract_9 (by decide) ?_
    refine z_iconst (v := 0) C dL_contract_15 (by decide) ?_
    exact hend _ _ _ _ _ (u, vp_updL g 0 r.toInt64, gd) dL_contract_16 (Nat.le_of_ble_eq_true rfl) (Nat.le_of_ble_eq_true rfl) (yPost_ok hk ((vp_updL_0 g _).trans (congrArg Int32.toInt64 hr)) hu)
set_option maxRecDepth 20000 in
set_option maxHeartbeats 1000000 in
theorem wL_sharpen (l : Launch) (D : va_G) (K : Nat → ClassId) (a : Nat → Nat) (N : Nat) (M : Nat → Nat → Int32) (S : Nat → Nat → Int32) (rl : Nat → Int32) (rh : Nat → Int32) (bl : Nat → Int32) (bh : Nat → Int32) (kl : Nat → Int32) (kh : Nat → Int32) (mn : Nat → Int64) (vc : Nat → Int64) (iv : Nat → Nat → Int64) (sc : Int64) (o od : Nat) (g : Nat → Int64) (gd : Nat → UInt64) (hst : l.stackTraces = false) (hN : N ≤ 5) : yM l D K yL_sharpen wsL_sharpen 7 123 1 6 [.ref (a 0), .ref o] (wv K a o od ((N, M, S, rl, rh, bl, bh, kl, kh, mn, vc, iv, sc), g, gd)) (yPost (kDet N M) (((sh0 N M rl rh (bl, bh)).1).toInt64) (fun u => ∃ mn1 iv1 sc1 kl1 kh1, u = (N, M, S, rl, rh, (sh0 N M rl rh (bl, bh)).2.1, (sh0 N M rl rh (bl, bh)).2.2, kl1, kh1, mn1, vc, iv1, sc1)) (fun u => ∃ mn1 iv1 sc1 kl1 kh1, u = (N, M, S, rl, rh, bl, bh, kl1, kh1, mn1, vc, iv1, sc1))) (wv K a o od) := by
  have lk0 : Cond.classLink RL 45 "java/lang/ArithmeticException" ∈ wsL_sharpen := by decide +kernel
  refine y_met_i (cc := cL_sharpen) (maxL := 3) (hh := [(0, 8, 11, 45)]) (lv := [(0, .ref (a 0)), (1, .ref o)]) (by decide +kernel) rfl rfl (Nat.le_of_ble_eq_true rfl) rfl ?_
  intro p e s m below meth c args Q A C hX hNc hex hend
  refine z_aload_n C dL_sharpen_0 1 rfl ?_
  refine z_iconst (v := 0) C dL_sharpen_1 (by decide) ?_
  refine z_aload_n C dL_sharpen_2 0 rfl ?_
  refine x_callVi (As := []) (X := []) (wc := w0 K a (N, M, S, rl, rh, bl, bh, kl, kh, mn, vc, iv, sc)) (Y := [(o, .inl (K 1, 1, .inr (.inl g))), (od, .inl (K 4, 1, .inr (.inr (.inr (.inl gd)))))]) C hX (c0_sharpen l D K a N M S rl rh bl bh kl kh mn vc iv sc hst hN) (cwV 0 C.1.2.2.2.2 gL_sharpen_X0_sharpen rfl rfl rfl (by decide +kernel) ⟨Nat.le_of_ble_eq_true rfl, Nat.le_of_ble_eq_true rfl⟩) (ci := 2) rfl rfl 0 rfl dL_sharpen_3 rfl rfl (Nat.le_of_ble_eq_true rfl) ⟨Nat.le_of_ble_eq_true rfl, Nat.le_of_ble_eq_true rfl⟩ rfl (fun E u px => ?_) (fun r u pq => ?_)
  · obtain ⟨hE, hu⟩ := px
    obtain ⟨hk, rfl⟩ := hE
    refine x_catch C [] ⟨0, 8, 11, 45⟩ [] hex (fun z hz => absurd hz List.not_mem_nil) rfl (by decide) lk0 (y_cast hX (by decide +kernel)) (fun q => ?_)
    refine z_astore_n (lv' := [(0, .ref (a 0)), (1, .ref o), (2, .ref q)]) C dL_sharpen_11 (by decide) [1, 2, 0] rfl ?_
    refine z_iconst (v := 1) C dL_sharpen_12 (by decide) ?_
    exact hend _ _ _ _ _ (u, g, gd) dL_sharpen_13 (Nat.le_of_ble_eq_true rfl) (Nat.le_of_ble_eq_true rfl) (yPost_err hk (by decide) hu)
  · obtain ⟨hk, hr, hu⟩ := pq
    refine z_i2l C dL_sharpen_6 ?_
    refine z_last (ws' := wv K a o od (u, vp_updL g 0 r.toInt64, gd)) C 1 rfl 27 (wv_o u g gd) dL_sharpen_7 0 rfl (by decide) (by decide) (wv_so u g _ gd) ?_
    refine z_goto (tgt := 14) C dL_sharpen_8 (by decide) ?_
    refine z_iconst (v := 0) C dL_sharpen_14 (by decide) ?_
    exact hend _ _ _ _ _ (u, vp_updL g 0 r.toInt64, gd) dL_sharpen_15 (Nat.le_of_ble_eq_true rfl) (Nat.le_of_ble_eq_true rfl) (yPost_ok hk ((vp_updL_0 g _).trans (congrArg Int32.toInt64 hr)) hu)
set_option maxRecDepth 20000 in
set_option maxHeartbeats 1000000 in
theorem wL_isCertified (l : Launch) (D : va_G) (K : Nat → ClassId) (a : Nat → Nat) (N : Nat) (M : Nat → Nat → Int32) (S : Nat → Nat → Int32) (rl : Nat → Int32) (rh : Nat → Int32) (bl : Nat → Int32) (bh : Nat → Int32) (kl : Nat → Int32) (kh : Nat → Int32) (mn : Nat → Int64) (vc : Nat → Int64) (iv : Nat → Nat → Int64) (sc : Int64) (o od : Nat) (g : Nat → Int64) (gd : Nat → UInt64) (hst : l.stackTraces = false) (hN : N ≤ 5) : yM l D K yL_isCertified wsL_isCertified 7 118 1 6 [.ref (a 0), .ref o] (wv K a o od ((N, M, S, rl, rh, bl, bh, kl, kh, mn, vc, iv, sc), g, gd)) (yPost (kDet N M) (yb ((if (∀ i, i < N → ((bl i).toInt64 ≤ hl0 N M rl rh i ∧ hh0 N M rl rh i ≤ (bh i).toInt64)) then 1 else 0))) (fun u => ∃ mn1 iv1 sc1, u = (N, M, S, rl, rh, bl, bh, kl, kh, mn1, vc, iv1, sc1)) (fun u => ∃ mn1 iv1 sc1, u = (N, M, S, rl, rh, bl, bh, kl, kh, mn1, vc, iv1, sc1))) (wv K a o od) := by
  have lk0 : Cond.classLink RL 45 "java/lang/ArithmeticException" ∈ wsL_isCertified := by decide +kernel
  refine y_met_i (cc := cL_isCertified) (maxL := 3) (hh := [(0, 15, 18, 45)]) (lv := [(0, .ref (a 0)), (1, .ref o)]) (by decide +kernel) rfl rfl (Nat.le_of_ble_eq_true rfl) rfl ?_
  intro p e s m below meth c args Q A C hX hNc hex hend
  refine z_aload_n C dL_isCertified_0 1 rfl ?_
  refine z_iconst (v := 0) C dL_isCertified_1 (by decide) ?_
  refine z_aload_n C dL_isCertified_2 0 rfl ?_
  refine x_callVi (As := []) (X := []) (wc := w0 K a (N, M, S, rl, rh, bl, bh, kl, kh, mn, vc, iv, sc)) (Y := [(o, .inl (K 1, 1, .inr (.inl g))), (od, .inl (K 4, 1, .inr (.inr (.inr (.inl gd)))))]) C hX (c0_isCertified l D K a N M S rl rh bl bh kl kh mn vc iv sc hst hN) (cwV 0 C.1.2.2.2.2 gL_isCertified_X0_isCertified rfl rfl rfl (by decide +kernel) ⟨Nat.le_of_ble_eq_true rfl, Nat.le_of_ble_eq_true rfl⟩) (ci := 2) rfl rfl 0 rfl dL_isCertified_3 rfl rfl (Nat.le_of_ble_eq_true rfl) ⟨Nat.le_of_ble_eq_true rfl, Nat.le_of_ble_eq_true rfl⟩ rfl (fun E u px => ?_) (fun r u pq => ?_)
  · obtain ⟨hE, hu⟩ := px
    obtain ⟨hk, rfl⟩ := hE
    refine x_catch C [] ⟨0, 15, 18, 45⟩ [] hex (fun z hz => absurd hz List.not_mem_nil) rfl (by decide) lk0 (y_cast hX (by decide +kernel)) (fun q => ?_)
    refine z_astore_n (lv' := [(0, .ref (a 0)), (1, .ref o), (2, .ref q)]) C dL_isCertified_18 (by decide) [1, 2, 0] rfl ?_
    refine z_iconst (v := 1) C dL_isCertified_19 (by decide) ?_
    exact hend _ _ _ _ _ (u, g, gd) dL_isCertified_20 (Nat.le_of_ble_eq_true rfl) (Nat.le_of_ble_eq_true rfl) (yPost_err hk (by decide) hu)
  · obtain ⟨hk, hr, hu⟩ := pq
    refine z_if_eq (tgt := 13) C dL_isCertified_6 (by decide) (fun cb => ?_) (fun cb => ?_)
    · refine z_lconst (v := 0) C dL_isCertified_13 (by decide) ?_
      refine z_last (ws' := wv K a o od (u, vp_updL g 0 0, gd)) C 1 rfl 27 (wv_o u g gd) dL_isCertified_14 0 rfl (by decide) (by decide) (wv_so u g _ gd) ?_
      refine z_goto (tgt := 21) C dL_isCertified_15 (by decide) ?_
      refine z_iconst (v := 0) C dL_isCertified_21 (by decide) ?_
      exact hend _ _ _ _ _ (u, vp_updL g 0 0, gd) dL_isCertified_22 (Nat.le_of_ble_eq_true rfl) (Nat.le_of_ble_eq_true rfl) (yPost_ok hk ((vp_updL_0 g _).trans (hr ▸ (yb_t cb))) hu)
    · refine z_lconst (v := 1) C dL_isCertified_9 (by decide) ?_
      refine z_goto (tgt := 14) C dL_isCertified_10 (by decide) ?_
      refine z_last (ws' := wv K a o od (u, vp_updL g 0 1, gd)) C 1 rfl 27 (wv_o u g gd) dL_isCertified_14 0 rfl (by decide) (by decide) (wv_so u g _ gd) ?_
      refine z_goto (tgt := 21) C dL_isCertified_15 (by decide) ?_
      refine z_iconst (v := 0) C dL_isCertified_21 (by decide) ?_
      exact hend _ _ _ _ _ (u, vp_updL g 0 1, gd) dL_isCertified_22 (Nat.le_of_ble_eq_true rfl) (Nat.le_of_ble_eq_true rfl) (yPost_ok hk ((vp_updL_0 g _).trans (hr ▸ (yb_f cb))) hu)
set_option maxRecDepth 20000 in
set_option maxHeartbeats 1000000 in
theorem wL_residualLow (l : Launch) (D : va_G) (K : Nat → ClassId) (a : Nat → Nat) (N : Nat) (M : Nat → Nat → Int32) (S : Nat → Nat → Int32) (rl : Nat → Int32) (rh : Nat → Int32) (bl : Nat → Int32) (bh : Nat → Int32) (kl : Nat → Int32) (kh : Nat → Int32) (mn : Nat → Int64) (vc : Nat → Int64) (iv : Nat → Nat → Int64) (sc : Int64) (o od : Nat) (g : Nat → Int64) (gd : Nat → UInt64) (p0 : Int32) (hst : l.stackTraces = false) (hN : N ≤ 5) : yM l D K yL_residualLow wsL_residualLow 7 103 1 6 [.ref (a 0), .int p0, .ref o] (wv K a o od ((N, M, S, rl, rh, bl, bh, kl, kh, mn, vc, iv, sc), g, gd)) (yPost (kIx N p0) (mdS M bl bh (ix p0) N - 2048 * (rh (ix p0)).toInt64) (fun u => u = (N, M, S, rl, rh, bl, bh, kl, kh, mn, vc, iv, sc)) (fun u => u = (N, M, S, rl, rh, bl, bh, kl, kh, mn, vc, iv, sc))) (wv K a o od) := by
  have lk0 : Cond.classLink RL 19 "java/lang/IndexOutOfBoundsException" ∈ wsL_residualLow := by decide +kernel
  refine y_met_i (cc := cL_residualLow) (maxL := 4) (hh := [(0, 8, 11, 19)]) (lv := [(0, .ref (a 0)), (1, .int p0), (2, .ref o)]) (by decide +kernel) rfl rfl (Nat.le_of_ble_eq_true rfl) rfl ?_
  intro p e s m below meth c args Q A C hX hNc hex hend
  refine z_aload_n C dL_residualLow_0 2 rfl ?_
  refine z_iconst (v := 0) C dL_residualLow_1 (by decide) ?_
  refine z_aload_n C dL_residualLow_2 0 rfl ?_
  refine z_iload_n C dL_residualLow_3 1 rfl ?_
  refine x_callVl (As := [.int p0]) (X := []) (wc := w0 K a (N, M, S, rl, rh, bl, bh, kl, kh, mn, vc, iv, sc)) (Y := [(o, .inl (K 1, 1, .inr (.inl g))), (od, .inl (K 4, 1, .inr (.inr (.inr (.inl gd)))))]) C hX (c0_residualLow l D K a N M S rl rh bl bh kl kh mn vc iv sc p0 hst hN) (cwV 1 C.1.2.2.2.2 gL_residualLow_X0_residualLow rfl rfl rfl (by decide +kernel) ⟨Nat.le_of_ble_eq_true rfl, Nat.le_of_ble_eq_true rfl⟩) (ci := 2) rfl rfl 0 rfl dL_residualLow_4 rfl rfl (Nat.le_of_ble_eq_true rfl) ⟨Nat.le_of_ble_eq_true rfl, Nat.le_of_ble_eq_true rfl⟩ rfl (fun E u px => ?_) (fun r u pq => ?_)
  · obtain ⟨hE, hu⟩ := px
    obtain ⟨hk, rfl⟩ := hE
    refine x_catch C [] ⟨0, 8, 11, 19⟩ [] hex (fun z hz => absurd hz List.not_mem_nil) rfl (by decide) lk0 (y_cast hX (by decide +kernel)) (fun q => ?_)
    refine z_astore_n (lv' := [(0, .ref (a 0)), (1, .int p0), (2, .ref o), (3, .ref q)]) C dL_residualLow_11 (by decide) [1, 2, 3, 0] rfl ?_
    refine z_iconst (v := 1) C dL_residualLow_12 (by decide) ?_
    exact hend _ _ _ _ _ (u, g, gd) dL_residualLow_13 (Nat.le_of_ble_eq_true rfl) (Nat.le_of_ble_eq_true rfl) (yPost_err hk (by decide) hu)
  · obtain ⟨hk, hr, hu⟩ := pq
    refine z_last (ws' := wv K a o od (u, vp_updL g 0 r, gd)) C 1 rfl 27 (wv_o u g gd) dL_residualLow_7 0 rfl (by decide) (by decide) (wv_so u g _ gd) ?_
    refine z_goto (tgt := 14) C dL_residualLow_8 (by decide) ?_
    refine z_iconst (v := 0) C dL_residualLow_14 (by decide) ?_
    exact hend _ _ _ _ _ (u, vp_updL g 0 r, gd) dL_residualLow_15 (Nat.le_of_ble_eq_true rfl) (Nat.le_of_ble_eq_true rfl) (yPost_ok hk ((vp_updL_0 g _).trans hr) hu)
set_option maxRecDepth 20000 in
set_option maxHeartbeats 1000000 in
theorem wL_residualHigh (l : Launch) (D : va_G) (K : Nat → ClassId) (a : Nat → Nat) (N : Nat) (M : Nat → Nat → Int32) (S : Nat → Nat → Int32) (rl : Nat → Int32) (rh : Nat → Int32) (bl : Nat → Int32) (bh : Nat → Int32) (kl : Nat → Int32) (kh : Nat → Int32) (mn : Nat → Int64) (vc : Nat → Int64) (iv : Nat → Nat → Int64) (sc : Int64) (o od : Nat) (g : Nat → Int64) (gd : Nat → UInt64) (p0 : Int32) (hst : l.stackTraces = false) (hN : N ≤ 5) : yM l D K yL_residualHigh wsL_residualHigh 7 103 1 6 [.ref (a 0), .int p0, .ref o] (wv K a o od ((N, M, S, rl, rh, bl, bh, kl, kh, mn, vc, iv, sc), g, gd)) (yPost (kIx N p0) (mdS M bl bh (ix p0) N - 2048 * (rl (ix p0)).toInt64) (fun u => u = (N, M, S, rl, rh, bl, bh, kl, kh, mn, vc, iv, sc)) (fun u => u = (N, M, S, rl, rh, bl, bh, kl, kh, mn, vc, iv, sc))) (wv K a o od) := by
  have lk0 : Cond.classLink RL 19 "java/lang/IndexOutOfBoundsException" ∈ wsL_residualHigh := by decide +kernel
  refine y_met_i (cc := cL_residualHigh) (maxL := 4) (hh := [(0, 8, 11, 19)]) (lv := [(0, .ref (a 0)), (1, .int p0), (2, .ref o)]) (by decide +kernel) rfl rfl (Nat.le_of_ble_eq_true rfl) rfl ?_
  intro p e s m below meth c args Q A C hX hNc hex hend
  refine z_aload_n C dL_residualHigh_0 2 rfl ?_
  refine z_iconst (v := 0) C dL_residualHigh_1 (by decide) ?_
  refine z_aload_n C dL_residualHigh_2 0 rfl ?_
  refine z_iload_n C dL_residualHigh_3 1 rfl ?_
  refine x_callVl (As := [.int p0]) (X := []) (wc := w0 K a (N, M, S, rl, rh, bl, bh, kl, kh, mn, vc, iv, sc)) (Y := [(o, .inl (K 1, 1, .inr (.inl g))), (od, .inl (K 4, 1, .inr (.inr (.inr (.inl gd)))))]) C hX (c0_residualHigh l D K a N M S rl rh bl bh kl kh mn vc iv sc p0 hst hN) (cwV 1 C.1.2.2.2.2 gL_residualHigh_X0_residualHigh rfl rfl rfl (by decide +kernel) ⟨Nat.le_of_ble_eq_true rfl, Nat.le_of_ble_eq_true rfl⟩) (ci := 2) rfl rfl 0 rfl dL_residualHigh_4 rfl rfl (Nat.le_of_ble_eq_true rfl) ⟨Nat.le_of_ble_eq_true rfl, Nat.le_of_ble_eq_true rfl⟩ rfl (fun E u px => ?_) (fun r u pq => ?_)
  · obtain ⟨hE, hu⟩ := px
    obtain ⟨hk, rfl⟩ := hE
    refine x_catch C [] ⟨0, 8, 11, 19⟩ [] hex (fun z hz => absurd hz List.not_mem_nil) rfl (by decide) lk0 (y_cast hX (by decide +kernel)) (fun q => ?_)
    refine z_astore_n (lv' := [(0, .ref (a 0)), (1, .int p0), (2, .ref o), (3, .ref q)]) C dL_residualHigh_11 (by decide) [1, 2, 3, 0] rfl ?_
    refine z_iconst (v := 1) C dL_residualHigh_12 (by decide) ?_
    exact hend _ _ _ _ _ (u, g, gd) dL_residualHigh_13 (Nat.le_of_ble_eq_true rfl) (Nat.le_of_ble_eq_true rfl) (yPost_err hk (by decide) hu)
  · obtain ⟨hk, hr, hu⟩ := pq
    refine z_last (ws' := wv K a o od (u, vp_updL g 0 r, gd)) C 1 rfl 27 (wv_o u g gd) dL_residualHigh_7 0 rfl (by decide) (by decide) (wv_so u g _ gd) ?_
    refine z_goto (tgt := 14) C dL_residualHigh_8 (by decide) ?_
    refine z_iconst (v := 0) C dL_residualHigh_14 (by decide) ?_
    exact hend _ _ _ _ _ (u, vp_updL g 0 r, gd) dL_residualHigh_15 (Nat.le_of_ble_eq_true rfl) (Nat.le_of_ble_eq_true rfl) (yPost_ok hk ((vp_updL_0 g _).trans hr) hu)
