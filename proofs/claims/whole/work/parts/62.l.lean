set_option maxRecDepth 20000 in
set_option maxHeartbeats 1000000 in
theorem wL_lowNumerator (l : Launch) (D : va_G) (K : Nat → ClassId) (a : Nat → Nat) (N : Nat) (M : Nat → Nat → Int32) (S : Nat → Nat → Int32) (rl : Nat → Int32) (rh : Nat → Int32) (bl : Nat → Int32) (bh : Nat → Int32) (kl : Nat → Int32) (kh : Nat → Int32) (mn : Nat → Int64) (vc : Nat → Int64) (iv : Nat → Nat → Int64) (sc : Int64) (o od : Nat) (g : Nat → Int64) (gd : Nat → UInt64) (p0 : Int32) (hst : l.stackTraces = false) (hN : N ≤ 5) : yM l D K yL_lowNumerator wsL_lowNumerator 7 118 1 6 [.ref (a 0), .int p0, .ref o] (wv K a o od ((N, M, S, rl, rh, bl, bh, kl, kh, mn, vc, iv, sc), g, gd)) (yPost (kHul N M p0) (redC (hul (ivF M N (ix p0)) rl rh N) (absL (detM M N))) (fun u => ∃ mn1 iv1 sc1, u = (N, M, S, rl, rh, bl, bh, kl, kh, mn1, vc, iv1, sc1)) (fun u => ∃ mn1 iv1 sc1, u = (N, M, S, rl, rh, bl, bh, kl, kh, mn1, vc, iv1, sc1))) (wv K a o od) := by
  have lk0 : Cond.classLink RL 19 "java/lang/IndexOutOfBoundsException" ∈ wsL_lowNumerator := by decide +kernel
  have lk1 : Cond.classLink RL 45 "java/lang/ArithmeticException" ∈ wsL_lowNumerator := by decide +kernel
  refine y_met_i (cc := cL_lowNumerator) (maxL := 4) (hh := [(0, 8, 11, 19), (0, 8, 14, 45)]) (lv := [(0, .ref (a 0)), (1, .int p0), (2, .ref o)]) (by decide +kernel) rfl rfl (Nat.le_of_ble_eq_true rfl) rfl ?_
  intro p e s m below meth c args Q A C hX hNc hex hend
  refine z_aload_n C dL_lowNumerator_0 2 rfl ?_
  refine z_iconst (v := 0) C dL_lowNumerator_1 (by decide) ?_
  refine z_aload_n C dL_lowNumerator_2 0 rfl ?_
  refine z_iload_n C dL_lowNumerator_3 1 rfl ?_
  refine x_callVl (As := [.int p0]) (X := []) (wc := w0 K a (N, M, S, rl, rh, bl, bh, kl, kh, mn, vc, iv, sc)) (Y := [(o, .inl (K 1, 1, .inr (.inl g))), (od, .inl (K 4, 1, .inr (.inr (.inr (.inl gd)))))]) C hX (c0_lowNumerator l D K a N M S rl rh bl bh kl kh mn vc iv sc p0 hst hN) (cwV 1 C.1.2.2.2.2 gL_lowNumerator_X0_lowNumerator rfl rfl rfl (by decide +kernel) ⟨Nat.le_of_ble_eq_true rfl, Nat.le_of_ble_eq_true rfl⟩) (ci := 2) rfl rfl 0 rfl dL_lowNumerator_4 rfl rfl (Nat.le_of_ble_eq_true rfl) ⟨Nat.le_of_ble_eq_true rfl, Nat.le_of_ble_eq_true rfl⟩ rfl (fun E u px => ?_) (fun r u pq => ?_)
  · obtain ⟨hE, hu⟩ := px
    rcases hE with ⟨hk, rfl⟩ | ⟨hk, rfl⟩
    · refine x_catch C [] ⟨0, 8, 11, 19⟩ [⟨0, 8, 14, 45⟩] hex (fun z hz => absurd hz List.not_mem_nil) rfl (by decide) lk0 (y_cast hX (by decide +kernel)) (fun q => ?_)
      refine z_astore_n (lv' := [(0, .ref (a 0)), (1, .int p0), (2, .ref o), (3, .ref q)]) C dL_lowNumerator_11 (by decide) [1, 2, 3, 0] rfl ?_
      refine z_iconst (v := 1) C dL_lowNumerator_12 (by decide) ?_
      exact hend _ _ _ _ _ (u, g, gd) dL_lowNumerator_13 (Nat.le_of_ble_eq_true rfl) (Nat.le_of_ble_eq_true rfl) (yPost_err hk (by decide) hu)
    · refine x_catch C [⟨0, 8, 11, 19⟩] ⟨0, 8, 14, 45⟩ [] hex (List.forall_mem_cons.mpr ⟨Or.inr ⟨by decide, _, C.1.2.2.2.2 _ lk0, hNc.2.1⟩, (fun z hz => absurd hz List.not_mem_nil)⟩) rfl (by decide) lk1 (y_cast hX (by decide +kernel)) (fun q => ?_)
      refine z_astore_n (lv' := [(0, .ref (a 0)), (1, .int p0), (2, .ref o), (3, .ref q)]) C dL_lowNumerator_14 (by decide) [1, 2, 3, 0] rfl ?_
      refine z_iconst (v := 2) C dL_lowNumerator_15 (by decide) ?_
      exact hend _ _ _ _ _ (u, g, gd) dL_lowNumerator_16 (Nat.le_of_ble_eq_true rfl) (Nat.le_of_ble_eq_true rfl) (yPost_err hk (by decide) hu)
  · obtain ⟨hk, hr, hu⟩ := pq
    refine z_last (ws' := wv K a o od (u, vp_updL g 0 r, gd)) C 1 rfl 27 (wv_o u g gd) dL_lowNumerator_7 0 rfl (by decide) (by decide) (wv_so u g _ gd) ?_
    refine z_goto (tgt := 17) C dL_lowNumerator_8 (by decide) ?_
    refine z_iconst (v := 0) C dL_lowNumerator_17 (by decide) ?_
    exact hend _ _ _ _ _ (u, vp_updL g 0 r, gd) dL_lowNumerator_18 (Nat.le_of_ble_eq_true rfl) (Nat.le_of_ble_eq_true rfl) (yPost_ok hk ((vp_updL_0 g _).trans hr) hu)
set_option maxRecDepth 20000 in
set_option maxHeartbeats 1000000 in
theorem wL_lowDenominator (l : Launch) (D : va_G) (K : Nat → ClassId) (a : Nat → Nat) (N : Nat) (M : Nat → Nat → Int32) (S : Nat → Nat → Int32) (rl : Nat → Int32) (rh : Nat → Int32) (bl : Nat → Int32) (bh : Nat → Int32) (kl : Nat → Int32) (kh : Nat → Int32) (mn : Nat → Int64) (vc : Nat → Int64) (iv : Nat → Nat → Int64) (sc : Int64) (o od : Nat) (g : Nat → Int64) (gd : Nat → UInt64) (p0 : Int32) (hst : l.stackTraces = false) (hN : N ≤ 5) : yM l D K yL_lowDenominator wsL_lowDenominator 7 118 1 6 [.ref (a 0), .int p0, .ref o] (wv K a o od ((N, M, S, rl, rh, bl, bh, kl, kh, mn, vc, iv, sc), g, gd)) (yPost (kHul N M p0) (redC (absL (detM M N)) (hul (ivF M N (ix p0)) rl rh N)) (fun u => ∃ mn1 iv1 sc1, u = (N, M, S, rl, rh, bl, bh, kl, kh, mn1, vc, iv1, sc1)) (fun u => ∃ mn1 iv1 sc1, u = (N, M, S, rl, rh, bl, bh, kl, kh, mn1, vc, iv1, sc1))) (wv K a o od) := by
  have lk0 : Cond.classLink RL 19 "java/lang/IndexOutOfBoundsException" ∈ wsL_lowDenominator := by decide +kernel
  have lk1 : Cond.classLink RL 45 "java/lang/ArithmeticException" ∈ wsL_lowDenominator := by decide +kernel
  refine y_met_i (cc := cL_lowDenominator) (maxL := 4) (hh := [(0, 8, 11, 19), (0, 8, 14, 45)]) (lv := [(0, .ref (a 0)), (1, .int p0), (2, .ref o)]) (by decide +kernel) rfl rfl (Nat.le_of_ble_eq_true rfl) rfl ?_
  intro p e s m below meth c args Q A C hX hNc hex hend
  refine z_aload_n C dL_lowDenominator_0 2 rfl ?_
  refine z_iconst (v := 0) C dL_lowDenominator_1 (by decide) ?_
  refine z_aload_n C dL_lowDenominator_2 0 rfl ?_
  refine z_iload_n C dL_lowDenominator_3 1 rfl ?_
  refine x_callVl (As := [.int p0]) (X := []) (wc := w0 K a (N, M, S, rl, rh, bl, bh, kl, kh, mn, vc, iv, sc)) (Y := [(o, .inl (K 1, 1, .inr (.inl g))), (od, .inl (K 4, 1, .inr (.inr (.inr (.inl gd)))))]) C hX (c0_lowDenominator l D K a N M S rl rh bl bh kl kh mn vc iv sc p0 hst hN) (cwV 1 C.1.2.2.2.2 gL_lowDenominator_X0_lowDenominator rfl rfl rfl (by decide +kernel) ⟨Nat.le_of_ble_eq_true rfl, Nat.le_of_ble_eq_true rfl⟩) (ci := 2) rfl rfl 0 rfl dL_lowDenominator_4 rfl rfl (Nat.le_of_ble_eq_true rfl) ⟨Nat.le_of_ble_eq_true rfl, Nat.le_of_ble_eq_true rfl⟩ rfl (fun E u px => ?_) (fun r u pq => ?_)
  · obtain ⟨hE, hu⟩ := px
    rcases hE with ⟨hk, rfl⟩ | ⟨hk, rfl⟩
    · refine x_catch C [] ⟨0, 8, 11, 19⟩ [⟨0, 8, 14, 45⟩] hex (fun z hz => absurd hz List.not_mem_nil) rfl (by decide) lk0 (y_cast hX (by decide +kernel)) (fun q => ?_)
      refine z_astore_n (lv' := [(0, .ref (a 0)), (1, .int p0), (2, .ref o), (3, .ref q)]) C dL_lowDenominator_11 (by decide) [1, 2, 3, 0] rfl ?_
      refine z_iconst (v := 1) C dL_lowDenominator_12 (by decide) ?_
      exact hend _ _ _ _ _ (u, g, gd) dL_lowDenominator_13 (Nat.le_of_ble_eq_true rfl) (Nat.le_of_ble_eq_true rfl) (yPost_err hk (by decide) hu)
    · refine x_catch C [⟨0, 8, 11, 19⟩] ⟨0, 8, 14, 45⟩ [] hex (List.forall_mem_cons.mpr ⟨Or.inr ⟨by decide, _, C.1.2.2.2.2 _ lk0, hNc.2.1⟩, (fun z hz => absurd hz List.not_mem_nil)⟩) rfl (by decide) lk1 (y_cast hX (by decide +kernel)) (fun q => ?_)
      refine z_astore_n (lv' := [(0, .ref (a 0)), (1, .int p0), (2, .ref o), (3, .ref q)]) C dL_lowDenominator_14 (by decide) [1, 2, 3, 0] rfl ?_
      refine z_iconst (v := 2) C dL_lowDenominator_15 (by decide) ?_
      exact hend _ _ _ _ _ (u, g, gd) dL_lowDenominator_16 (Nat.le_of_ble_eq_true rfl) (Nat.le_of_ble_eq_true rfl) (yPost_err hk (by decide) hu)
  · obtain ⟨hk, hr, hu⟩ := pq
    refine z_last (ws' := wv K a o od (u, vp_updL g 0 r, gd)) C 1 rfl 27 (wv_o u g gd) dL_lowDenominator_7 0 rfl (by decide) (by decide) (wv_so u g _ gd) ?_
    refine z_goto (tgt := 17) C dL_lowDenominator_8 (by decide) ?_
    refine z_iconst (v := 0) C dL_lowDenominator_17 (by decide) ?_
    exact hend _ _ _ _ _ (u, vp_updL g 0 r, gd) dL_lowDenominator_18 (Nat.le_of_ble_eq_true rfl) (Nat.le_of_ble_eq_true rfl) (yPost_ok hk ((vp_updL_0 g _).trans hr) hu)
set_option maxRecDepth 20000 in
set_option maxHeartbeats 1000000 in
theorem wL_highNumerator (l : Launch) (D : va_G) (K : Nat → ClassId) (a : Nat → Nat) (N : Nat) (M : Nat → Nat → Int32) (S : Nat → Nat → Int32) (rl : Nat → Int32) (rh : Nat → Int32) (bl : Nat → Int32) (bh : Nat → Int32) (kl : Nat → Int32) (kh : Nat → Int32) (mn : Nat → Int64) (vc : Nat → Int64) (iv : Nat → Nat → Int64) (sc : Int64) (o od : Nat) (g : Nat → Int64) (gd : Nat → UInt64) (p0 : Int32) (hst : l.stackTraces = false) (hN : N ≤ 5) : yM l D K yL_highNumerator wsL_highNumerator 7 118 1 6 [.ref (a 0), .int p0, .ref o] (wv K a o od ((N, M, S, rl, rh, bl, bh, kl, kh, mn, vc, iv, sc), g, gd)) (yPost (kHul N M p0) (redC (hul (ivF M N (ix p0)) rh rl N) (absL (detM M N))) (fun u => ∃ mn1 iv1 sc1, u = (N, M, S, rl, rh, bl, bh, kl, kh, mn1, vc, iv1, sc1)) (fun u => ∃ mn1 iv1 sc1, u = (N, M, S, rl, rh, bl, bh, kl, kh, mn1, vc, iv1, sc1))) (wv K a o od) := by
  have lk0 : Cond.classLink RL 19 "java/lang/IndexOutOfBoundsException" ∈ wsL_highNumerator := by decide +kernel
  have lk1 : Cond.classLink RL 45 "java/lang/ArithmeticException" ∈ wsL_highNumerator := by decide +kernel
  refine y_met_i (cc := cL_highNumerator) (maxL := 4) (hh := [(0, 8, 11, 19), (0, 8, 14, 45)]) (lv := [(0, .ref (a 0)), (1, .int p0), (2, .ref o)]) (by decide +kernel) rfl rfl (Nat.le_of_ble_eq_true rfl) rfl ?_
  intro p e s m below meth c args Q A C hX hNc hex hend
  refine z_aload_n C dL_highNumerator_0 2 rfl ?_
  refine z_iconst (v := 0) C dL_highNumerator_1 (by decide) ?_
  refine z_aload_n C dL_highNumerator_2 0 rfl ?_
  refine z_iload_n C dL_highNumerator_3 1 rfl ?_
  refine x_callVl (As := [.int p0]) (X := []) (wc := w0 K a (N, M, S, rl, rh, bl, bh, kl, kh, mn, vc, iv, sc)) (Y := [(o, .inl (K 1, 1, .inr (.inl g))), (od, .inl (K 4, 1, .inr (.inr (.inr (.inl gd)))))]) C hX (c0_highNumerator l D K a N M S rl rh bl bh kl kh mn vc iv sc p0 hst hN) (cwV 1 C.1.2.2.2.2 gL_highNumerator_X0_highNumerator rfl rfl rfl (by decide +kernel) ⟨Nat.le_of_ble_eq_true rfl, Nat.le_of_ble_eq_true rfl⟩) (ci := 2) rfl rfl 0 rfl dL_highNumerator_4 rfl rfl (Nat.le_of_ble_eq_true rfl) ⟨Nat.le_of_ble_eq_true rfl, Nat.le_of_ble_eq_true rfl⟩ rfl (fun E u px => ?_) (fun r u pq => ?_)
  · obtain ⟨hE, hu⟩ := px
    rcases hE with ⟨hk, rfl⟩ | ⟨hk, rfl⟩
    · refine x_catch C [] ⟨0, 8, 11, 19⟩ [⟨0, 8, 14, 45⟩] hex (fun z hz => absurd hz List.not_mem_nil) rfl (by decide) lk0 (y_cast hX (by decide +kernel)) (fun q => ?_)
      refine z_astore_n (lv' := [(0, .ref (a 0)), (1, .int p0), (2, .ref o), (3, .ref q)]) C dL_highNumerator_11 (by decide) [1, 2, 3, 0] rfl ?_
      refine z_iconst (v := 1) C dL_highNumerator_12 (by decide) ?_
      exact hend _ _ _ _ _ (u, g, gd) dL_highNumerator_13 (Nat.le_of_ble_eq_true rfl) (Nat.le_of_ble_eq_true rfl) (yPost_err hk (by decide) hu)
    · refine x_catch C [⟨0, 8, 11, 19⟩] ⟨0, 8, 14, 45⟩ [] hex (List.forall_mem_cons.mpr ⟨Or.inr ⟨by decide, _, C.1.2.2.2.2 _ lk0, hNc.2.1⟩, (fun z hz => absurd hz List.not_mem_nil)⟩) rfl (by decide) lk1 (y_cast hX (by decide +kernel)) (fun q => ?_)
      refine z_astore_n (lv' := [(0, .ref (a 0)), (1, .int p0), (2, .ref o), (3, .ref q)]) C dL_highNumerator_14 (by decide) [1, 2, 3, 0] rfl ?_
      refine z_iconst (v := 2) C dL_highNumerator_15 (by decide) ?_
      exact hend _ _ _ _ _ (u, g, gd) dL_highNumerator_16 (Nat.le_of_ble_eq_true rfl) (Nat.le_of_ble_eq_true rfl) (yPost_err hk (by decide) hu)
  · obtain ⟨hk, hr, hu⟩ := pq
    refine z_last (ws' := wv K a o od (u, vp_updL g 0 r, gd)) C 1 rfl 27 (wv_o u g gd) dL_highNumerator_7 0 rfl (by decide) (by decide) (wv_so u g _ gd) ?_
    refine z_goto (tgt := 17) C dL_highNumerator_8 (by decide) ?_
    refine z_iconst (v := 0) C dL_highNumerator_17 (by decide) ?_
    exact hend _ _ _ _ _ (u, vp_updL g 0 r, gd) dL_highNumerator_18 (Nat.le_of_ble_eq_true rfl) (Nat.le_of_ble_eq_true rfl) (yPost_ok hk ((vp_updL_0 g _).trans hr) hu)
set_option maxRecDepth 20000 in
set_option maxHeartbeats 1000000 in
theorem wL_highDenominator (l : Launch) (D : va_G) (K : Nat → ClassId) (a : Nat → Nat) (N : Nat) (M : Nat → Nat → Int32) (S : Nat → Nat → Int32) (rl : Nat → Int32) (rh : Nat → Int32) (bl : Nat → Int32) (bh : Nat → Int32) (kl : Nat → Int32) (kh : Nat → Int32) (mn : Nat → Int64) (vc : Nat → Int64) (iv : Nat → Nat → Int64) (sc : Int64) (o od : Nat) (g : Nat → Int64) (gd : Nat → UInt64) (p0 : Int32) (hst : l.stackTraces = false) (hN : N ≤ 5) : yM l D K yL_highDenominator wsL_highDenominator 7 118 1 6 [.ref (a 0), .int p0, .ref o] (wv K a o od ((N, M, S, rl, rh, bl, bh, kl, kh, mn, vc, iv, sc), g, gd)) (yPost (kHul N M p0) (redC (absL (detM M N)) (hul (ivF M N (ix p0)) rh rl N)) (fun u => ∃ mn1 iv1 sc1, u = (N, M, S, rl, rh, bl, bh, kl, kh, mn1, vc, iv1, sc1)) (fun u => ∃ mn1 iv1 sc1, u = (N, M, S, rl, rh, bl, bh, kl, kh, mn1, vc, iv1, sc1))) (wv K a o od) := by
  have lk0 : Cond.classLink RL 19 "java/lang/IndexOutOfBoundsException" ∈ wsL_highDenominator := by decide +kernel
  have lk1 : Cond.classLink RL 45 "java/lang/ArithmeticException" ∈ wsL_highDenominator := by decide +kernel
  refine y_met_i (cc := cL_highDenominator) (maxL := 4) (hh := [(0, 8, 11, 19), (0, 8, 14, 45)]) (lv := [(0, .ref (a 0)), (1, .int p0), (2, .ref o)]) (by decide +kernel) rfl rfl (Nat.le_of_ble_eq_true rfl) rfl ?_
  intro p e s m below meth c args Q A C hX hNc hex hend
  refine z_aload_n C dL_highDenominator_0 2 rfl ?_
  refine z_iconst (v := 0) C dL_highDenominator_1 (by decide) ?_
  refine z_aload_n C dL_highDenominator_2 0 rfl ?_
  refine z_iload_n C dL_highDenominator_3 1 rfl ?_
  refine x_callVl (As := [.int p0]) (X := []) (wc := w0 K a (N, M, S, rl, rh, bl, bh, kl, kh, mn, vc, iv, sc)) (Y := [(o, .inl (K 1, 1, .inr (.inl g))), (od, .inl (K 4, 1, .inr (.inr (.inr (.inl gd)))))]) C hX (c0_highDenominator l D K a N M S rl rh bl bh kl kh mn vc iv sc p0 hst hN) (cwV 1 C.1.2.2.2.2 gL_highDenominator_X0_highDenominator rfl rfl rfl (by decide +kernel) ⟨Nat.le_of_ble_eq_true rfl, Nat.le_of_ble_eq_true rfl⟩) (ci := 2) rfl rfl 0 rfl dL_highDenominator_4 rfl rfl (Nat.le_of_ble_eq_true rfl) ⟨Nat.le_of_ble_eq_true rfl, Nat.le_of_ble_eq_true rfl⟩ rfl (fun E u px => ?_) (fun r u pq => ?_)
  · obtain ⟨hE, hu⟩ := px
    rcases hE with ⟨hk, rfl⟩ | ⟨hk, rfl⟩
    · refine x_catch C [] ⟨0, 8, 11, 19⟩ [⟨0, 8, 14, 45⟩] hex (fun z hz => absurd hz List.not_mem_nil) rfl (by decide) lk0 (y_cast hX (by decide +kernel)) (fun q => ?_)
      refine z_astore_n (lv' := [(0, .ref (a 0)), (1, .int p0), (2, .ref o), (3, .ref q)]) C dL_highDenominator_11 (by decide) [1, 2, 3, 0] rfl ?_
      refine z_iconst (v := 1) C dL_highDenominator_12 (by decide) ?_
      exact hend _ _ _ _ _ (u, g, gd) dL_highDenominator_13 (Nat.le_of_ble_eq_true rfl) (Nat.le_of_ble_eq_true rfl) (yPost_err hk (by decide) hu)
    · refine x_catch C [⟨0, 8, 11, 19⟩] ⟨0, 8, 14, 45⟩ [] hex (List.forall_mem_cons.mpr ⟨Or.inr ⟨by decide, _, C.1.2.2.2.2 _ lk0, hNc.2.1⟩, (fun z hz => absurd hz List.not_mem_nil)⟩) rfl (by decide) lk1 (y_cast hX (by decide +kernel)) (fun q => ?_)
      refine z_astore_n (lv' := [(0, .ref (a 0)), (1, .int p0), (2, .ref o), (3, .ref q)]) C dL_highDenominator_14 (by decide) [1, 2, 3, 0] rfl ?_
      refine z_iconst (v := 2) C dL_highDenominator_15 (by decide) ?_
      exact hend _ _ _ _ _ (u, g, gd) dL_highDenominator_16 (Nat.le_of_ble_eq_true rfl) (Nat.le_of_ble_eq_true rfl) (yPost_err hk (by decide) hu)
  · obtain ⟨hk, hr, hu⟩ := pq
    refine z_last (ws' := wv K a o od (u, vp_updL g 0 r, gd)) C 1 rfl 27 (wv_o u g gd) dL_highDenominator_7 0 rfl (by decide) (by decide) (wv_so u g _ gd) ?_
    refine z_goto (tgt := 17) C dL_highDenominator_8 (by decide) ?_
    refine z_iconst (v := 0) C dL_highDenominator_17 (by decide) ?_
    exact hend _ _ _ _ _ (u, vp_updL g 0 r, gd) dL_highDenominator_18 (Nat.le_of_ble_eq_true rfl) (Nat.le_of_ble_eq_true rfl) (yPost_ok hk ((vp_updL_0 g _).trans hr) hu)
set_option maxRecDepth 20000 in
set_option maxHeartbeats 1000000 in
theorem wL_inverseNumerator (l : Launch) (D : va_G) (K : Nat → ClassId) (a : Nat → Nat) (N : Nat) (M : Nat → Nat → Int32) (S : Nat → Nat → Int32) (rl : Nat → Int32) (rh : Nat → Int32) (bl : Nat → Int32) (bh : Nat → Int32) (kl : Nat → Int32) (kh : Nat → Int32) (mn : Nat → Int64) (vc : Nat → Int64) (iv : Nat → Nat → Int64) (sc : Int64) (o od : Nat) (g : Nat → Int64) (gd : Nat → UInt64) (p0 : Int32) (p1 : Int32) (hst : l.stackTraces = false) (hN : N ≤ 5) : yM l D K yL_inverseNumerator wsL_inverseNumerator 7 119 1 6 [.ref (a 0), .int p0, .int p1, .ref o] (wv K a o od ((N, M, S, rl, rh, bl, bh, kl, kh, mn, vc, iv, sc), g, gd)) (yPost (kHul2 N M p0 p1) (redC (ivF M N (ix p0) (ix p1)) (absL (detM M N))) (fun u => ∃ mn1 iv1 sc1, u = (N, M, S, rl, rh, bl, bh, kl, kh, mn1, vc, iv1, sc1)) (fun u => ∃ mn1 iv1 sc1, u = (N, M, S, rl, rh, bl, bh, kl, kh, mn1, vc, iv1, sc1))) (wv K a o od) := by
  have lk0 : Cond.classLink RL 19 "java/lang/IndexOutOfBoundsException" ∈ wsL_inverseNumerator := by decide +kernel
  have lk1 : Cond.classLink RL 45 "java/lang/ArithmeticException" ∈ wsL_inverseNumerator := by decide +kernel
  refine y_met_i (cc := cL_inverseNumerator) (maxL := 5) (hh := [(0, 9, 12, 19), (0, 9, 16, 45)]) (lv := [(0, .ref (a 0)), (1, .int p0), (2, .int p1), (3, .ref o)]) (by decide +kernel) rfl rfl (Nat.le_of_ble_eq_true rfl) rfl ?_
  intro p e s m below meth c args Q A C hX hNc hex hend
  refine z_aload_n C dL_inverseNumerator_0 3 rfl ?_
  refine z_iconst (v := 0) C dL_inverseNumerator_1 (by decide) ?_
  refine z_aload_n C dL_inverseNumerator_2 0 rfl ?_
  refine z_iload_n C dL_inverseNumerator_3 1 rfl ?_
  refine z_iload_n C dL_inverseNumerator_4 2 rfl ?_
  refine x_callVl (As := [.int p0, .int p1]) (X := []) (wc := w0 K a (N, M, S, rl, rh, bl, bh, kl, kh, mn, vc, iv, sc)) (Y := [(o, .inl (K 1, 1, .inr (.inl g))), (od, .inl (K 4, 1, .inr (.inr (.inr (.inl gd)))))]) C hX (c0_inverseNumerator l D K a N M S rl rh bl bh kl kh mn vc iv sc p0 p1 hst hN) (cwV 2 C.1.2.2.2.2 gL_inverseNumerator_X0_inverseNumerator rfl rfl rfl (by decide +kernel) ⟨Nat.le_of_ble_eq_true rfl, Nat.le_of_ble_eq_true rfl⟩) (ci := 2) rfl rfl 0 rfl dL_inverseNumerator_5 rfl rfl (Nat.le_of_ble_eq_true rfl) ⟨Nat.le_of_ble_eq_true rfl, Nat.le_of_ble_eq_true rfl⟩ rfl (fun E u px => ?_) (fun r u pq => ?_)
  · obtain ⟨hE, hu⟩ := px
    rcases hE with ⟨hk, rfl⟩ | ⟨hk, rfl⟩
    · refine x_catch C [] ⟨0, 9, 12, 19⟩ [⟨0, 9, 16, 45⟩] hex (fun z hz => absurd hz List.not_mem_nil) rfl (by decide) lk0 (y_cast hX (by decide +kernel)) (fun q => ?_)
      refine z_astore (lv' := [(0, .ref (a 0)), (1, .int p0), (2, .int p1), (3, .ref o), (4, .ref q)]) C dL_inverseNumerator_12 (by decide) [1, 2, 3, 4, 0] rfl ?_
      refine z_iconst (v := 1) C dL_inverseNumerator_14 (by decide) ?_
      exact hend _ _ _ _ _ (u, g, gd) dL_inverseNumerator_15 (Nat.le_of_ble_eq_true rfl) (Nat.le_of_ble_eq_true rfl) (yPost_err hk (by decide) hu)
    · refine x_catch C [⟨0, 9, 12, 19⟩] ⟨0, 9, 16, 45⟩ [] hex (List.forall_mem_cons.mpr ⟨Or.inr ⟨by decide, _, C.1.2.2.2.2 _ lk0, hNc.2.1⟩, (fun z hz => absurd hz List.not_mem_nil)⟩) rfl (by decide) lk1 (y_cast hX (by decide +kernel)) (fun q => ?_)
      refine z_astore (lv' := [(0, .ref (a 0)), (1, .int p0), (2, .int p1), (3, .ref o), (4, .ref q)]) C dL_inverseNumerator_16 (by decide) [1, 2, 3, 4, 0] rfl ?_
      refine z_iconst (v := 2) C dL_inverseNumerator_18 (by decide) ?_
      exact hend _ _ _ _ _ (u, g, gd) dL_inverseNumerator_19 (Nat.le_of_ble_eq_true rfl) (Nat.le_of_ble_eq_true rfl) (yPost_err hk (by decide) hu)
  · obtain ⟨hk, hr, hu⟩ := pq
    refine z_last (ws' := wv K a o od (u, vp_updL g 0 r, gd)) C 1 rfl 27 (wv_o u g gd) dL_inverseNumerator_8 0 rfl (by decide) (by decide) (wv_so u g _ gd) ?_
    refine z_goto (tgt := 20) C dL_inverseNumerator_9 (by decide) ?_
    refine z_iconst (v := 0) C dL_inverseNumerator_20 (by decide) ?_
    exact hend _ _ _ _ _ (u, vp_updL g 0 r, gd) dL_inverseNumerator_21 (Nat.le_of_ble_eq_true rfl) (Nat.le_of_ble_eq_true rfl) (yPost_ok hk ((vp_updL_0 g _).trans hr) hu)
set_option maxRecDepth 20000 in
set_option maxHeartbeats 1000000 in
theorem wL_inverseDenominator (l : Launch) (D : va_G) (K : Nat → ClassId) (a : Nat → Nat) (N : Nat) (M : Nat → Nat → Int32) (S : Nat → Nat → Int32) (rl : Nat → Int32) (rh : Nat → Int32) (bl : Nat → Int32) (bh : Nat → Int32) (kl : Nat → Int32) (kh : Nat → Int32) (mn : Nat → Int64) (vc : Nat → Int64) (iv : Nat → Nat → Int64) (sc : Int64) (o od : Nat) (g : Nat → Int64) (gd : Nat → UInt64) (p0 : Int32) (p1 : Int32) (hst : l.stackTraces = false) (hN : N ≤ 5) : yM l D K yL_inverseDenominator wsL_inverseDenominator 7 119 1 6 [.ref (a 0), .int p0, .int p1, .ref o] (wv K a o od ((N, M, S, rl, rh, bl, bh, kl, kh, mn, vc, iv, sc), g, gd)) (yPost (kHul2 N M p0 p1) (redC (absL (detM M N)) (ivF M N (ix p0) (ix p1))) (fun u => ∃ mn1 iv1 sc1, u = (N, M, S, rl, rh, bl, bh, kl, kh, mn1, vc, iv1, sc1)) (fun u => ∃ mn1 iv1 sc1, u = (N, M, S, rl, rh, bl, bh, kl, kh, mn1, vc, iv1, sc1))) (wv K a o od) := by
  have lk0 : Cond.classLink RL 19 "java/lang/IndexOutOfBoundsException" ∈ wsL_inverseDenominator := by decide +kernel
  have lk1 : Cond.classLink RL 45 "java/lang/ArithmeticException" ∈ wsL_inverseDenominator := by decide +kernel
  refine y_met_i (cc := cL_inverseDenominator) (maxL := 5) (hh := [(0, 9, 12, 19), (0, 9, 16, 45)]) (lv := [(0, .ref (a 0)), (1, .int p0), (2, .int p1), (3, .ref o)]) (by decide +kernel) rfl rfl (Nat.le_of_ble_eq_true rfl) rfl ?_
  intro p e s m below meth c args Q A C hX hNc hex hend
  refine z_aload_n C dL_inverseDenominator_0 3 rfl ?_
  refine z_iconst (v := 0) C dL_inverseDenominator_1 (by decide) ?_
  refine z_aload_n C dL_inverseDenominator_2 0 rfl ?_
  refine z_iload_n C dL_inverseDenominator_3 1 rfl ?_
  refine z_iload_n C dL_inverseDenominator_4 2 rfl ?_
  refine x_callVl (As := [.int p0, .int p1]) (X := []) (wc := w0 K a (N, M, S, rl, rh, bl, bh, kl, kh, mn, vc, iv, sc)) (Y := [(o, .inl (K 1, 1, .inr (.inl g))), (od, .inl (K 4, 1, .inr (.inr (.inr (.inl gd)))))]) C hX (c0_inverseDenominator l D K a N M S rl rh bl bh kl kh mn vc iv sc p0 p1 hst hN) (cwV 2 C.1.2.2.2.2 gL_inverseDenominator_X0_inverseDenominator rfl rfl rfl (by decide +kernel) ⟨Nat.le_of_ble_eq_true rfl, Nat.le_of_ble_eq_true rfl⟩) (ci := 2) rfl rfl 0 rfl dL_inverseDenominator_5 rfl rfl (Nat.le_of_ble_eq_true rfl) ⟨Nat.le_of_ble_eq_true rfl, Nat.le_of_ble_eq_true rfl⟩ rfl (fun E u px => ?_) (fun r u pq => ?_)
  · obtain ⟨hE, hu⟩ := px
    rcases hE with ⟨hk, rfl⟩ | ⟨hk, rfl⟩
    · refine x_catch C [] ⟨0, 9, 12, 19⟩ [⟨0, 9, 16, 45⟩] hex (fun z hz => absurd hz List.not_mem_nil) rfl (by decide) lk0 (y_cast hX (by decide +kernel)) (fun q => ?_)
      refine z_astore (lv' := [(0, .ref (a 0)), (1, .int p0), (2, .int p1), (3, .ref o), (4, .ref q)]) C dL_inverseDenominator_12 (by decide) [1, 2, 3, 4, 0] rfl ?_
      refine z_iconst (v := 1) C dL_inverseDenominator_14 (by decide) ?_
      exact hend _ _ _ _ _ (u, g, gd) dL_inverseDenominator_15 (Nat.le_of_ble_eq_true rfl) (Nat.le_of_ble_eq_true rfl) (yPost_err hk (by decide) hu)
    · refine x_catch C [⟨0, 9, 12, 19⟩] ⟨0, 9, 16, 45⟩ [] hex (List.forall_mem_cons.mpr ⟨Or.inr ⟨by decide, _, C.1.2.2.2.2 _ lk0, hNc.2.1⟩, (fun z hz => absurd hz List.not_mem_nil)⟩) rfl (by decide) lk1 (y_cast hX (by decide +kernel)) (fun q => ?_)
      refine z_astore (lv' := [(0, .ref (a 0)), (1, .int p0), (2, .int p1), (3, .ref o), (4, .ref q)]) C dL_inverseDenominator_16 (by decide) [1, 2, 3, 4, 0] rfl ?_
      refine z_iconst (v := 2) C dL_inverseDenominator_18 (by decide) ?_
      exact hend _ _ _ _ _ (u, g, gd) dL_inverseDenominator_19 (Nat.le_of_ble_eq_true rfl) (Nat.le_of_ble_eq_true rfl) (yPost_err hk (by decide) hu)
  · obtain ⟨hk, hr, hu⟩ := pq
    refine z_last (ws' := wv K a o od (u, vp_updL g 0 r, gd)) C 1 rfl 27 (wv_o u g gd) dL_inverseDenominator_8 0 rfl (by decide) (by decide) (wv_so u g _ gd) ?_
    refine z_goto (tgt := 20) C dL_inverseDenominator_9 (by decide) ?_
    refine z_iconst (v := 0) C dL_inverseDenominator_20 (by decide) ?_
    exact hend _ _ _ _ _ (u, vp_updL g 0 r, gd) dL_inverseDenominator_21 (Nat.le_of_ble_eq_true rfl) (Nat.le_of_ble_eq_true rfl) (yPost_ok hk ((vp_updL_0 g _).trans hr) hu)
set_option maxRecDepth 20000 in
set_option maxHeartbeats 1000000 in
theorem wL_condition (l : Launch) (D : va_G) (K : Nat → ClassId) (a : Nat → Nat) (N : Nat) (M : Nat → Nat → Int32) (S : Nat → Nat → Int32) (rl : Nat → Int32) (rh : Nat → Int32) (bl : Nat → Int32) (bh : Nat → Int32) (kl : Nat → Int32) (kh : Nat → Int32) (mn : Nat → Int64) (vc : Nat → Int64) (iv : Nat → Nat → Int64) (sc : Int64) (o od : Nat) (g : Nat → Int64) (gd : Nat → UInt64) (hst : l.stackTraces = false) (hN : N ≤ 5) (hq : ¬ detM M N = 0 → vf_n64 (cdQ M N) ∧ vf_n64 (cdD M N)) : yM l D K yL_condition wsL_condition 7 127 1 6 [.ref (a 0), .ref od] (wv K a o od ((N, M, S, rl, rh, bl, bh, kl, kh, mn, vc, iv, sc), g, gd)) (yPostD (kDet N M) (cdD M N) (fun u => ∃ mn1 iv1 sc1, u = (N, M, S, rl, rh, bl, bh, kl, kh, mn1, vc, iv1, sc1)) (fun u => ∃ mn1 iv1 sc1, u = (N, M, S, rl, rh, bl, bh, kl, kh, mn1, vc, iv1, sc1))) (wv K a o od) := by
  have lk0 : Cond.classLink RL 45 "java/lang/ArithmeticException" ∈ wsL_condition := by decide +kernel
  refine y_met_i (cc := cL_condition) (maxL := 3) (hh := [(0, 7, 10, 45)]) (lv := [(0, .ref (a 0)), (1, .ref od)]) (by decide +kernel) rfl rfl (Nat.le_of_ble_eq_true rfl) rfl ?_
  intro p e s m below meth c args Q A C hX hNc hex hend
  refine z_aload_n C dL_condition_0 1 rfl ?_
  refine z_iconst (v := 0) C dL_condition_1 (by decide) ?_
  refine z_aload_n C dL_condition_2 0 rfl ?_
  refine x_callVd (As := []) (X := []) (wc := w0 K a (N, M, S, rl, rh, bl, bh, kl, kh, mn, vc, iv, sc)) (Y := [(o, .inl (K 1, 1, .inr (.inl g))), (od, .inl (K 4, 1, .inr (.inr (.inr (.inl gd)))))]) C hX (c0_condition l D K a N M S rl rh bl bh kl kh mn vc iv sc hst hN hq) (cwV 0 C.1.2.2.2.2 gL_condition_X0_condition rfl rfl rfl (by decide +kernel) ⟨Nat.le_of_ble_eq_true rfl, Nat.le_of_ble_eq_true rfl⟩) (ci := 2) rfl rfl 0 rfl dL_condition_3 rfl rfl (Nat.le_of_ble_eq_true rfl) ⟨Nat.le_of_ble_eq_true rfl, Nat.le_of_ble_eq_true rfl⟩ rfl (fun E u px => ?_) (fun r u pq => ?_)
  · obtain ⟨hE, hu⟩ := px
    obtain ⟨hk, rfl⟩ := hE
    refine x_catch C [] ⟨0, 7, 10, 45⟩ [] hex (fun z hz => absurd hz List.not_mem_nil) rfl (by decide) lk0 (y_cast hX (by decide +kernel)) (fun q => ?_)
    refine z_astore_n (lv' := [(0, .ref (a 0)), (1, .ref od), (2, .ref q)]) C dL_condition_10 (by decide) [1, 2, 0] rfl ?_
    refine z_iconst (v := 1) C dL_condition_11 (by decide) ?_
    exact hend _ _ _ _ _ (u, g, gd) dL_condition_12 (Nat.le_of_ble_eq_true rfl) (Nat.le_of_ble_eq_true rfl) (yPostD_err hk (by decide) hu)
  · obtain ⟨hk, hr, hu⟩ := pq
    refine z_dast (ws' := wv K a o od (u, g, vf_upd gd 0 r)) C 4 rfl 28 (wv_d u g gd) dL_condition_6 0 rfl (by decide) (by decide) (wv_sd u g gd _) ?_
    refine z_goto (tgt := 13) C dL_condition_7 (by decide) ?_
    refine z_iconst (v := 0) C dL_condition_13 (by decide) ?_
    exact hend _ _ _ _ _ (u, g, vf_upd gd 0 r) dL_condition_14 (Nat.le_of_ble_eq_true rfl) (Nat.le_of_ble_eq_true rfl) (yPostD_ok hk ((vf_upd_0 gd _).trans hr) hu)
set_option maxRecDepth 20000 in
set_option maxHeartbeats 1000000 in
theorem wL_variationNumerator (l : Launch) (D : va_G) (K : Nat → ClassId) (a : Nat → Nat) (N : Nat) (M : Nat → Nat → Int32) (S : Nat → Nat → Int32) (rl : Nat → Int32) (rh : Nat → Int32) (bl : Nat → Int32) (bh : Nat → Int32) (kl : Nat → Int32) (kh : Nat → Int32) (mn : Nat → Int64) (vc : Nat → Int64) (iv : Nat → Nat → Int64) (sc : Int64) (o od : Nat) (g : Nat → Int64) (gd : Nat → UInt64) (hst : l.stackTraces = false) (hN : N ≤ 5) : yM l D K yL_variationNumerator wsL_variationNumerator 7 117 1 6 [.ref (a 0), .ref o] (wv K a o od ((N, M, S, rl, rh, bl, bh, kl, kh, mn, vc, iv, sc), g, gd)) (yPost (kDet N M) (redC (svI (ivF M N) S N N) (100 * (absL (detM M N)))) (fun u => ∃ mn1 iv1 sc1, u = (N, M, S, rl, rh, bl, bh, kl, kh, mn1, vc, iv1, sc1)) (fun u => ∃ mn1 iv1 sc1, u = (N, M, S, rl, rh, bl, bh, kl, kh, mn1, vc, iv1, sc1))) (wv K a o od) := by
  have lk0 : Cond.classLink RL 45 "java/lang/ArithmeticException" ∈ wsL_variationNumerator := by decide +kernel
  refine y_met_i (cc := cL_variationNumerator) (maxL := 3) (hh := [(0, 7, 10, 45)]) (lv := [(0, .ref (a 0)), (1, .ref o)]) (by decide +kernel) rfl rfl (Nat.le_of_ble_eq_true rfl) rfl ?_
  intro p e s m below meth c args Q A C hX hNc hex hend
  refine z_aload_n C dL_variationNumerator_0 1 rfl ?_
  refine z_iconst (v := 0) C dL_variationNumerator_1 (by decide) ?_
  refine z_aload_n C dL_variationNumerator_2 0 rfl ?_
  refine x_callVl (As := []) (X := []) (wc := w0 K a (N, M, S, rl, rh, bl, bh, kl, kh, mn, vc, iv, sc)) (Y := [(o, .inl (K 1, 1, .inr (.inl g))), (od, .inl (K 4, 1, .inr (.inr (.inr (.inl gd)))))]) C hX (c0_variationNumerator l D K a N M S rl rh bl bh kl kh mn vc iv sc hst hN) (cwV 0 C.1.2.2.2.2 gL_variationNumerator_X0_variationNumerator rfl rfl rfl (by decide +kernel) ⟨Nat.le_of_ble_eq_true rfl, Nat.le_of_ble_eq_true rfl⟩) (ci := 2) rfl rfl 0 rfl dL_variationNumerator_3 rfl rfl (Nat.le_of_ble_eq_true rfl) ⟨Nat.le_of_ble_eq_true rfl, Nat.le_of_ble_eq_true rfl⟩ rfl (fun E u px => ?_) (fun r u pq => ?_)
  · obtain ⟨hE, hu⟩ := px
    obtain ⟨hk, rfl⟩ := hE
    refine x_catch C [] ⟨0, 7, 10, 45⟩ [] hex (fun z hz => absurd hz List.not_mem_nil) rfl (by decide) lk0 (y_cast hX (by decide +kernel)) (fun q => ?_)
    refine z_astore_n (lv' := [(0, .ref (a 0)), (1, .ref o), (2, .ref q)]) C dL_variationNumerator_10 (by decide) [1, 2, 0] rfl ?_
    refine z_iconst (v := 1) C dL_variationNumerator_11 (by decide) ?_
    exact hend _ _ _ _ _ (u, g, gd) dL_variationNumerator_12 (Nat.le_of_ble_eq_true rfl) (Nat.le_of_ble_eq_true rfl) (yPost_err hk (by decide) hu)
  · obtain ⟨hk, hr, hu⟩ := pq
    refine z_last (ws' := wv K a o od (u, vp_updL g 0 r, gd)) C 1 rfl 27 (wv_o u g gd) dL_variationNumerator_6 0 rfl (by decide) (by decide) (wv_so u g _ gd) ?_
    refine z_goto (tgt := 13) C dL_variationNumerator_7 (by decide) ?_
    refine z_iconst (v := 0) C dL_variationNumerator_13 (by decide) ?_
    exact hend _ _ _ _ _ (u, vp_updL g 0 r, gd) dL_variationNumerator_14 (Nat.le_of_ble_eq_true rfl) (Nat.le_of_ble_eq_true rfl) (yPost_ok hk ((vp_updL_0 g _).trans hr) hu)
set_option maxRecDepth 20000 in
set_option maxHeartbeats 1000000 in
theorem wL_variationDenominator (l : Launch) (D : va_G) (K : Nat → ClassId) (a : Nat → Nat) (N : Nat) (M : Nat → Nat → Int32) (S : Nat → Nat → Int32) (rl : Nat → Int32) (rh : Nat → Int32) (bl : Nat → Int32) (bh : Nat → Int32) (kl : Nat → Int32) (kh : Nat → Int32) (mn : Nat → Int64) (vc : Nat → Int64) (iv : Nat → Nat → Int64) (sc : Int64) (o od : Nat) (g : Nat → Int64) (gd : Nat → UInt64) (hst : l.stackTraces = false) (hN : N ≤ 5) : yM l D K yL_variationDenominator wsL_variationDenominator 7 117 1 6 [.ref (a 0), .ref o] (wv K a o od ((N, M, S, rl, rh, bl, bh, kl, kh, mn, vc, iv, sc), g, gd)) (yPost (kDet N M) (redC (100 * (absL (detM M N))) (svI (ivF M N) S N N)) (fun u => ∃ mn1 iv1 sc1, u = (N, M, S, rl, rh, bl, bh, kl, kh, mn1, vc, iv1, sc1)) (fun u => ∃ mn1 iv1 sc1, u = (N, M, S, rl, rh, bl, bh, kl, kh, mn1, vc, iv1, sc1))) (wv K a o od) := by
  have lk0 : Cond.classLink RL 45 "java/lang/ArithmeticException" ∈ wsL_variationDenominator := by decide +kernel
  refine y_met_i (cc := cL_variationDenominator) (maxL := 3) (hh := [(0, 7, 10, 45)]) (lv := [(0, .ref (a 0)), (1, .ref o)]) (by decide +kernel) rfl rfl (Nat.le_of_ble_eq_true rfl) rfl ?_
  intro p e s m below meth c args Q A C hX hNc hex hend
  refine z_aload_n C dL_variationDenominator_0 1 rfl ?_
  refine z_iconst (v := 0) C dL_variationDenominator_1 (by decide) ?_
  refine z_aload_n C dL_variationDenominator_2 0 rfl ?_
  refine x_callVl (As := []) (X := []) (wc := w0 K a (N, M, S, rl, rh, bl, bh, kl, kh, mn, vc, iv, sc)) (Y := [(o, .inl (K 1, 1, .inr (.inl g))), (od, .inl (K 4, 1, .inr (.inr (.inr (.inl gd)))))]) C hX (c0_variationDenominator l D K a N M S rl rh bl bh kl kh mn vc iv sc hst hN) (cwV 0 C.1.2.2.2.2 gL_variationDenominator_X0_variationDenominator rfl rfl rfl (by decide +kernel) ⟨Nat.le_of_ble_eq_true rfl, Nat.le_of_ble_eq_true rfl⟩) (ci := 2) rfl rfl 0 rfl dL_variationDenominator_3 rfl rfl (Nat.le_of_ble_eq_true rfl) ⟨Nat.le_of_ble_eq_true rfl, Nat.le_of_ble_eq_true rfl⟩ rfl (fun E u px => ?_) (fun r u pq => ?_)
  · obtain ⟨hE, hu⟩ := px
    obtain ⟨hk, rfl⟩ := hE
    refine x_catch C [] ⟨0, 7, 10, 45⟩ [] hex (fun z hz => absurd hz List.not_mem_nil) rfl (by decide) lk0 (y_cast hX (by decide +kernel)) (fun q => ?_)
    refine z_astore_n (lv' := [(0, .ref (a 0)), (1, .ref o), (2, .ref q)]) C dL_variationDenominator_10 (by decide) [1, 2, 0] rfl ?_
    refine z_iconst (v := 1) C dL_variationDenominator_11 (by decide) ?_
    exact hend _ _ _ _ _ (u, g, gd) dL_variationDenominator_12 (Nat.le_of_ble_eq_true rfl) (Nat.le_of_ble_eq_true rfl) (yPost_err hk (by decide) hu)
  · obtain ⟨hk, hr, hu⟩ := pq
    refine z_last (ws' := wv K a o od (u, vp_updL g 0 r, gd)) C 1 rfl 27 (wv_o u g gd) dL_variationDenominator_6 0 rfl (by decide) (by decide) (wv_so u g _ gd) ?_
    refine z_goto (tgt := 13) C dL_variationDenominator_7 (by decide) ?_
    refine z_iconst (v := 0) C dL_variationDenominator_13 (by decide) ?_
    exact hend _ _ _ _ _ (u, vp_updL g 0 r, gd) dL_variationDenominator_14 (Nat.le_of_ble_eq_true rfl) (Nat.le_of_ble_eq_true rfl) (yPost_ok hk ((vp_updL_0 g _).trans hr) hu)
