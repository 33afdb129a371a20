set_option maxRecDepth 100000 in
set_option maxHeartbeats 4000000 in
theorem c1_sizeOf (l : Launch) (D : va_G) (K : Nat → ClassId) (x : Nat) (hx : x < 32) : mI l D K yX1_sizeOf wsX1_sizeOf 0 0 0 0 [.int (nI x)] ([]) (fun r (_ : Unit) => r = nI (pop5 x)) (wN) := by
  refine z_met_i (cc := cX1_sizeOf) (maxL := 3) (own := RX1) (lv := [(0, .int (nI x))]) (by decide) rfl rfl (Nat.le_of_ble_eq_true rfl) rfl ?_
  intro p e s m below meth c args Q A C hnm hend
  have hd : ∀ k, x / 2 ^ k < 32 := fun k => Nat.lt_of_le_of_lt (Nat.div_le_self _ _) hx
  have hp := pop5_le x
  refine z_iconst (v := 0) C dX1_sizeOf_0 (by decide) ?_
  refine z_topi (nI (pop5 x - pop5 (x / 2 ^ 0))) (by rw [show x / 2 ^ 0 = x from Nat.div_one x, Nat.sub_self]; rfl) ?_
  refine z_istore_n (lv' := [(0, .int (nI x)), (1, .int (nI (pop5 x - pop5 (x / 2 ^ 0))))]) C dX1_sizeOf_1 (by decide) [1, 0] rfl ?_
  refine z_iload_n C dX1_sizeOf_2 0 rfl ?_
  refine z_topi (nI (x / 2 ^ 0)) (by rw [show x / 2 ^ 0 = x from Nat.div_one x]) ?_
  refine z_istore_n (lv' := [(0, .int (nI x)), (1, .int (nI (pop5 x - pop5 (x / 2 ^ 0)))), (2, .int (nI (x / 2 ^ 0)))]) C dX1_sizeOf_3 (by decide) [1, 2, 0] rfl ?_
  suffices L4 : ∀ (f4_k k : Nat), 0 ≤ k → k ≤ 6 → 6 < k + f4_k → zW p l e { frames := 0, cells := 0, slots := 0, locals := 0 } s m args below meth c Q 3 A s.heap D vwCl 0 0 ([]) 4 ([(0, .int (nI x)), (1, .int (nI (pop5 x - pop5 (x / 2 ^ k)))), (2, .int (nI (x / 2 ^ k)))]) [] from L4 (6 + 1) 0 (Nat.le_refl _) (by omega) (by omega)
  intro f4_k
  induction f4_k with
  | zero => intro k h0 h1 h2; exact absurd h2 (by omega)
  | succ f4_k ih4_k =>
    intro k g4_0 g4_1 g4_2
    refine z_iload_n C dX1_sizeOf_4 2 rfl ?_
    refine z_if_le (tgt := 21) C dX1_sizeOf_5 (by decide) (fun c5 => ?_) (fun c5 => ?_)
    · have e5 : x / 2 ^ k = 0 := nI_le0 (hd k) c5
      rw [show pop5 x - pop5 (x / 2 ^ k) = pop5 x by rw [e5]; exact Nat.sub_zero _]
      refine z_iload_n C dX1_sizeOf_21 1 rfl ?_
      exact hend _ _ _ _ _ () dX1_sizeOf_22 (Nat.zero_le _) (Nat.zero_le _) rfl
    · have e5 : 0 < x / 2 ^ k := nI_nle0 (hd k) c5
      obtain ⟨z1, z2, z3, z4⟩ := sz_1 x hx k (by omega) e5
      refine z_iload_n C dX1_sizeOf_8 1 rfl ?_
      refine z_iload_n C dX1_sizeOf_9 2 rfl ?_
      refine z_iconst (v := 1) C dX1_sizeOf_10 (by decide) ?_
      refine z_iand C dX1_sizeOf_11 ?_
      refine z_topi (nI (x / 2 ^ k % 2)) (bt_lo _ (hd k)) ?_
      refine z_iadd C dX1_sizeOf_12 ?_
      refine z_topi (nI (pop5 x - pop5 (x / 2 ^ (k + 1)))) (nI_sz z2 z4) ?_
      refine z_istore_n (lv' := [(0, .int (nI x)), (1, .int (nI (pop5 x - pop5 (x / 2 ^ (k + 1))))), (2, .int (nI (x / 2 ^ k)))]) C dX1_sizeOf_13 (by decide) [1, 0, 2] rfl ?_
      refine z_iload_n C dX1_sizeOf_14 2 rfl ?_
      refine z_iconst (v := 1) C dX1_sizeOf_15 (by decide) ?_
      refine z_ishr C dX1_sizeOf_16 ?_
      refine z_topi (nI (x / 2 ^ (k + 1))) (by rw [bt_hlf _ (hd k), z3]) ?_
      refine z_istore_n (lv' := [(0, .int (nI x)), (1, .int (nI (pop5 x - pop5 (x / 2 ^ (k + 1))))), (2, .int (nI (x / 2 ^ (k + 1))))]) C dX1_sizeOf_17 (by decide) [1, 2, 0] rfl ?_
      refine z_goto (tgt := 4) C dX1_sizeOf_18 (by decide) ?_
      exact ih4_k (k + 1) (by omega) (by omega) (by omega)

set_option maxRecDepth 100000 in
set_option maxHeartbeats 4000000 in
theorem c1_determinantWithout (l : Launch) (D : va_G) (K : Nat → ClassId) (b : Nat → Nat) (N : Nat) (M : Nat → Nat → Int32) (S : Nat → Nat → Int32) (rl : Nat → Int32) (rh : Nat → Int32) (bl : Nat → Int32) (bh : Nat → Int32) (th : Int32) (fl : Nat → Int32) (fh : Nat → Int32) (pt : Nat → Int64) (nu : Int64) (de : Int64) (p0 : Int32) (p1 : Int32) (skip cb : Nat) (hN : N ≤ 5) (hrc : (p0 = -1 ∧ p1 = -1 ∧ skip = N ∧ cb = 5) ∨ (p0 = nI skip ∧ p1 = nI cb ∧ skip < N ∧ cb < N)) : mL l D K yX1_determinantWithout wsX1_determinantWithout 1 22 0 0 [.ref (b 0), .int p0, .int p1] (w1 K b (N, M, S, rl, rh, bl, bh, th, fl, fh, pt, nu, de)) (fun r u => r = mnF M N skip (if cb = 5 then 2 ^ N - 1 else (2 ^ N - 1) ^^^ 2 ^ cb) ∧ ∃ pt1, u = (N, M, S, rl, rh, bl, bh, th, fl, fh, pt1, nu, de)) (w1 K b) := by
  have hinX1 : ∀ w ∈ wsX10, w ∈ wsX1_determinantWithout := by decide +kernel
  have lk0 : Cond.fieldLink RX1 7 "IntervalSolverModel" "n" "I" ∈ wsX1_determinantWithout := by decide +kernel
  have lk1 : Cond.fieldLink RX1 38 "IntervalSolverModel" "parts" "[J" ∈ wsX1_determinantWithout := by decide +kernel
  have lk2 : Cond.fieldLink RX1 13 "IntervalSolverModel" "a" "[I" ∈ wsX1_determinantWithout := by decide +kernel
  refine z_met_l (cc := cX1_determinantWithout) (maxL := 9) (own := RX1) (lv := [(0, .ref (b 0)), (1, .int p0), (2, .int p1)]) (by decide) rfl rfl (Nat.le_of_ble_eq_true rfl) rfl ?_
  intro p e s m below meth c args Q A C hnm hend
  have h2 := bt_p2 N (by omega)
  have h3 := bt_p1 N
  have hcb6 : cb < 6 := by omega
  have hr50 := dw_h (p0 := p0) (skip := skip) hN (by rcases hrc with q | q; exact Or.inl ⟨q.1, q.2.2.1⟩; exact Or.inr ⟨q.1, q.2.2.1⟩)
  have hlt : p1 < 0 → cb = 5 ∧ p1 = -1 := fun q => by rcases hrc with ⟨_, q2, _, q4⟩ | ⟨_, q2, _, q4⟩; exact ⟨q4, q2⟩; rw [q2] at q; exact absurd q (nI_pos (by omega))
  have hge : ¬ p1 < 0 → cb < N ∧ p1 = nI cb := fun q => by rcases hrc with ⟨_, q2, _, q4⟩ | ⟨_, q2, _, q4⟩; rw [q2] at q; exact absurd (by decide) q; exact ⟨q4, q2⟩
  have hfin := dw_f (skip := skip) (cb := cb) hN (by rcases hrc with q | q; exact Or.inl q.2.2; exact Or.inr q.2.2)
  refine z_iconst (v := 0) C dX1_determinantWithout_0 (by decide) ?_
  refine z_istore_n (lv' := [(0, .ref (b 0)), (1, .int p0), (2, .int p1), (3, .int 0)]) C dX1_determinantWithout_1 (by decide) [1, 2, 3, 0] rfl ?_
  suffices L2 : ∀ (f2_k k : Nat), 0 ≤ k → k ≤ 2 ^ N → 2 ^ N < k + f2_k → zW p l e { frames := 1, cells := 0, slots := 0, locals := 22 } s m args below meth c Q 9 A s.heap D vwCl 0 0 (w1 K b (N, M, S, rl, rh, bl, bh, th, fl, fh, pt0 pt k, nu, de)) 2 ([(0, .ref (b 0)), (1, .int p0), (2, .int p1), (3, .int (nI k))]) [] from L2 (2 ^ N + 1) 0 (Nat.le_refl _) (by omega) (by omega)
  intro f2_k
  induction f2_k with
  | zero => intro k h0 h1 h2; exact absurd h2 (by omega)
  | succ f2_k ih2_k =>
    intro k g2_0 g2_1 g2_2
    refine z_iload_n C dX1_determinantWithout_2 3 rfl ?_
    refine z_iconst (v := 1) C dX1_determinantWithout_3 (by decide) ?_
    refine z_aload_n C dX1_determinantWithout_4 0 rfl ?_
    refine z_get (cl := vwCl) (T := TX1) (N := 13) (ci := 3) (ref := "IntervalSolverModel") C hinX1 rfl 1 (by decide) lk0 rfl dX1_determinantWithout_5 0 rfl rfl ?_
    refine z_ishl C dX1_determinantWithout_8 ?_
    refine z_topi (nI (2 ^ N)) (bt_shl N (by omega)) ?_
    refine z_icmp_ge (tgt := 33) C dX1_determinantWithout_9 (by decide) (fun c9 => ?_) (fun c9 => ?_)
    · have e9 : k = 2 ^ N := by have := (nI_leI (a := 2 ^ N) (b := k) (by omega) (by omega)).mp c9; omega
      rw [e9]
      refine z_iconst (v := 0) C dX1_determinantWithout_33 (by decide) ?_
      refine z_topi (nI (kOf skip 0)) (by unfold kOf; rw [if_pos (Nat.zero_le _)]; rfl) ?_
      refine z_istore_n (lv' := [(0, .ref (b 0)), (1, .int p0), (2, .int p1), (3, .int (nI (kOf skip 0)))]) C dX1_determinantWithout_34 (by decide) [1, 2, 3, 0] rfl ?_
      refine z_iconst (v := 0) C dX1_determinantWithout_35 (by decide) ?_
      refine z_istore (lv' := [(0, .ref (b 0)), (1, .int p0), (2, .int p1), (3, .int (nI (kOf skip 0))), (4, .int 0)]) C dX1_determinantWithout_36 (by decide) [1, 2, 3, 4, 0] rfl ?_
      suffices L38 : ∀ (f38_i i : Nat) (pt2 : Nat → Int64), 0 ≤ i → i ≤ N → N < i + f38_i → (∀ z, z < 2 ^ N → z.testBit cb = false → pop5 z ≤ kOf skip i → pt2 z = mnF M N skip z) → zW p l e { frames := 1, cells := 0, slots := 0, locals := 22 } s m args below meth c Q 9 A s.heap D vwCl 0 0 (w1 K b (N, M, S, rl, rh, bl, bh, th, fl, fh, pt2, nu, de)) 38 ([(0, .ref (b 0)), (1, .int p0), (2, .int p1), (3, .int (nI (kOf skip i))), (4, .int (nI i))]) [] from L38 (N + 1) 0 (pt0 pt (2 ^ N)) (Nat.le_refl _) (by omega) (by omega) (dw_0 M N skip cb pt h2)
      intro f38_i
      induction f38_i with
      | zero => intro i pt2 h0 h1 h2; exact absurd h2 (by omega)
      | succ f38_i ih38_i =>
        intro i pt2 g38_0 g38_1 g38_2 hm0
        refine z_iload C dX1_determinantWithout_38 4 rfl ?_
        refine z_aload_n C dX1_determinantWithout_40 0 rfl ?_
        refine z_get (cl := vwCl) (T := TX1) (N := 13) (ci := 3) (ref := "IntervalSolverModel") C hinX1 rfl 1 (by decide) lk0 rfl dX1_determinantWithout_41 0 rfl rfl ?_
        refine z_icmp_ge (tgt := 211) C dX1_determinantWithout_44 (by decide) (fun c44 => ?_) (fun c44 => ?_)
        · have e44 : i = N := by have := (nI_leI (a := N) (b := i) (by omega) (by omega)).mp c44; omega
          rw [e44]
          rw [e44] at hm0
          refine z_aload_n C dX1_determinantWithout_211 0 rfl ?_
          refine z_get (cl := vwCl) (T := TX1) (N := 13) (ci := 3) (ref := "IntervalSolverModel") C hinX1 rfl 10 (by decide) lk1 rfl dX1_determinantWithout_212 0 rfl rfl ?_
          refine z_iconst (v := 1) C dX1_determinantWithout_215 (by decide) ?_
          refine z_aload_n C dX1_determinantWithout_216 0 rfl ?_
          refine z_get (cl := vwCl) (T := TX1) (N := 13) (ci := 3) (ref := "IntervalSolverModel") C hinX1 rfl 1 (by decide) lk0 rfl dX1_determinantWithout_217 0 rfl rfl ?_
          refine z_ishl C dX1_determinantWithout_220 ?_
          refine z_iconst (v := 1) C dX1_determinantWithout_221 (by decide) ?_
          refine z_isub C dX1_determinantWithout_222 ?_
          refine z_topi (nI (2 ^ N - 1)) (bt_all N (by omega)) ?_
          refine z_iload_n C dX1_determinantWithout_223 2 rfl ?_
          refine z_if_ge (tgt := 231) C dX1_determinantWithout_224 (by decide) (fun c224 => ?_) (fun c224 => ?_)
          · obtain ⟨hcN, hcT⟩ := hge (Int32.not_lt.mpr c224)
            refine z_iconst (v := 1) C dX1_determinantWithout_231 (by decide) ?_
            refine z_iload_n C dX1_determinantWithout_232 2 rfl ?_
            refine z_ishl C dX1_determinantWithout_233 ?_
            refine z_iconst (v := -1) C dX1_determinantWithout_234 (by decide) ?_
            refine z_ixor C dX1_determinantWithout_235 ?_
            refine z_iand C dX1_determinantWithout_236 ?_
            refine z_topi (nI (if cb = 5 then 2 ^ N - 1 else (2 ^ N - 1) ^^^ 2 ^ cb)) (by rw [if_neg (by omega), hcT]; exact bt_msk N (by omega) cb (by omega)) ?_
            refine z_lald C 1 rfl 9 rfl dX1_determinantWithout_237 (if cb = 5 then 2 ^ N - 1 else (2 ^ N - 1) ^^^ 2 ^ cb) rfl (Nat.lt_of_lt_of_le hfin.1 h2) (by decide) ?_
            exact hend _ _ _ _ _ (N, M, S, rl, rh, bl, bh, th, fl, fh, pt2, nu, de) dX1_determinantWithout_238 (Nat.zero_le _) (Nat.zero_le _) ⟨hm0 _ hfin.1 hfin.2.1 hfin.2.2, _, rfl⟩
          · have hc5 := (hlt (Int32.not_le.mp c224)).1
            refine z_iconst (v := -1) C dX1_determinantWithout_227 (by decide) ?_
            refine z_goto (tgt := 236) C dX1_determinantWithout_228 (by decide) ?_
            refine z_iand C dX1_determinantWithout_236 ?_
            refine z_topi (nI (if cb = 5 then 2 ^ N - 1 else (2 ^ N - 1) ^^^ 2 ^ cb)) (by rw [if_pos hc5]; exact and_m1 _) ?_
            refine z_lald C 1 rfl 9 rfl dX1_determinantWithout_237 (if cb = 5 then 2 ^ N - 1 else (2 ^ N - 1) ^^^ 2 ^ cb) rfl (Nat.lt_of_lt_of_le hfin.1 h2) (by decide) ?_
            exact hend _ _ _ _ _ (N, M, S, rl, rh, bl, bh, th, fl, fh, pt2, nu, de) dX1_determinantWithout_238 (Nat.zero_le _) (Nat.zero_le _) ⟨hm0 _ hfin.1 hfin.2.1 hfin.2.2, _, rfl⟩
        · have e44 : i < N := by have := mt (nI_leI (a := N) (b := i) (by omega) (by omega)).mpr c44; omega
          refine z_iload C dX1_determinantWithout_47 4 rfl ?_
          refine z_iload_n C dX1_determinantWithout_49 1 rfl ?_
          refine z_icmp_ne (tgt := 56) C dX1_determinantWithout_50 (by decide) (fun c50 => ?_) (fun c50 => ?_)
          · have e50 : ¬ i = skip := mt (hr50 i (by omega)).mpr c50
            have k50 := kOf_ns e50
            refine z_iinc (v := nI ((kOf skip i) + 1)) (lv' := [(0, .ref (b 0)), (1, .int p0), (2, .int p1), (3, .int (nI ((kOf skip i) + 1))), (4, .int (nI i))]) C dX1_determinantWithout_56 (k := 3) rfl (nI_1 (kOf skip i)) (by decide) [1, 2, 3, 0, 4] rfl ?_
            refine z_iconst (v := 1) C dX1_determinantWithout_59 (by decide) ?_
            refine z_istore (lv' := [(0, .ref (b 0)), (1, .int p0), (2, .int p1), (3, .int (nI ((kOf skip i) + 1))), (4, .int (nI i)), (5, .int 1)]) C dX1_determinantWithout_60 (by decide) [1, 2, 3, 4, 5, 0] rfl ?_
            suffices L62 : ∀ (f62_m1 m1 : Nat) (pt3 : Nat → Int64), 1 ≤ m1 → m1 ≤ 2 ^ N → 2 ^ N < m1 + f62_m1 → (∀ z, z < 2 ^ N → z.testBit cb = false → pop5 z ≤ kOf skip i → pt3 z = mnF M N skip z) → (∀ z, z < m1 → z.testBit cb = false → pop5 z = kOf skip i + 1 → pt3 z = mnF M N skip z) → zW p l e { frames := 1, cells := 0, slots := 0, locals := 22 } s m args below meth c Q 9 A s.heap D vwCl 0 0 (w1 K b (N, M, S, rl, rh, bl, bh, th, fl, fh, pt3, nu, de)) 62 ([(0, .ref (b 0)), (1, .int p0), (2, .int p1), (3, .int (nI ((kOf skip i) + 1))), (4, .int (nI i)), (5, .int (nI m1))]) [] from L62 (2 ^ N + 1) 1 pt2 (Nat.le_refl _) (by omega) (by omega) hm0 dw_1
            intro f62_m1
            induction f62_m1 with
            | zero => intro m1 pt3 h0 h1 h2; exact absurd h2 (by omega)
            | succ f62_m1 ih62_m1 =>
              intro m1 pt3 g62_0 g62_1 g62_2 hm1 hm2
              refine z_iload C dX1_determinantWithout_62 5 rfl ?_
              refine z_iconst (v := 1) C dX1_determinantWithout_64 (by decide) ?_
              refine z_aload_n C dX1_determinantWithout_65 0 rfl ?_
              refine z_get (cl := vwCl) (T := TX1) (N := 13) (ci := 3) (ref := "IntervalSolverModel") C hinX1 rfl 1 (by decide) lk0 rfl dX1_determinantWithout_66 0 rfl rfl ?_
              refine z_ishl C dX1_determinantWithout_69 ?_
              refine z_topi (nI (2 ^ N)) (bt_shl N (by omega)) ?_
              refine z_icmp_ge (tgt := 205) C dX1_determinantWithout_70 (by decide) (fun c70 => ?_) (fun c70 => ?_)
              · have e70 : m1 = 2 ^ N := by have := (nI_leI (a := 2 ^ N) (b := m1) (by omega) (by omega)).mp c70; omega
                rw [e70]
                rw [e70] at hm2
                rw [k50]
                refine z_iinc (v := nI (i + 1)) (lv' := [(0, .ref (b 0)), (1, .int p0), (2, .int p1), (3, .int (nI (kOf skip (i + 1)))), (4, .int (nI (i + 1))), (5, .int (nI (2 ^ N)))]) C dX1_determinantWithout_205 (k := 4) rfl (nI_1 i) (by decide) [1, 2, 3, 4, 0, 5] rfl ?_
                refine z_goto (tgt := 38) C dX1_determinantWithout_208 (by decide) ?_
                refine z_lv (lv' := [(0, .ref (b 0)), (1, .int p0), (2, .int p1), (3, .int (nI (kOf skip (i + 1)))), (4, .int (nI (i + 1)))]) [0, 1, 2, 3, 4] rfl ?_
                exact ih38_i (i + 1) pt3 (by omega) (by omega) (by omega) (fun z hz hb hp => by rcases Nat.lt_or_ge (pop5 z) (kOf skip i + 1) with q | q; exact hm1 z hz hb (by omega); exact hm2 z hz hb (by omega))
              · have e70 : m1 < 2 ^ N := by have := mt (nI_leI (a := 2 ^ N) (b := m1) (by omega) (by omega)).mpr c70; omega
                refine z_iload C dX1_determinantWithout_73 5 rfl ?_
                refine z_callSi_none (As := [.int (nI m1)]) C (c1_sizeOf l D K m1 (by omega)) (va_cwS 1 C.1.2.2.2.2 gX1_determinantWithout_X1_sizeOf rfl rfl rfl (by decide +kernel) ⟨Nat.le_of_ble_eq_true rfl, Nat.le_of_ble_eq_true rfl⟩) dX1_determinantWithout_75 rfl rfl (Nat.le_of_ble_eq_true rfl) ⟨Nat.le_of_ble_eq_true rfl, Nat.le_of_ble_eq_true rfl⟩ (fun r1 u1 h1 => ?_)
                subst h1
                refine z_iload_n C dX1_determinantWithout_78 3 rfl ?_
                refine z_icmp_ne (tgt := 199) C dX1_determinantWithout_79 (by decide) (fun c79 => ?_) (fun c79 => ?_)
                · have e79 : ¬ pop5 m1 = kOf skip i + 1 := fun q => c79 (by rw [q])
                  refine z_iinc (v := nI (m1 + 1)) (lv' := [(0, .ref (b 0)), (1, .int p0), (2, .int p1), (3, .int (nI ((kOf skip i) + 1))), (4, .int (nI i)), (5, .int (nI (m1 + 1)))]) C dX1_determinantWithout_199 (k := 5) rfl (nI_1 m1) (by decide) [1, 2, 3, 4, 5, 0] rfl ?_
                  refine z_goto (tgt := 62) C dX1_determinantWithout_202 (by decide) ?_
                  exact ih62_m1 (m1 + 1) pt3 (by omega) (by omega) (by omega) hm1 (dw_3 hm2 (fun q2 => e79 q2.2))
                · have e79 : pop5 m1 = kOf skip i + 1 := (nI_eq (by have := pop5_le m1; omega) (by unfold kOf; split <;> omega)).mp c79
                  have J99 : (m1.testBit cb = false) → zW p l e { frames := 1, cells := 0, slots := 0, locals := 22 } s m args below meth c Q 9 A s.heap D vwCl 0 0 (w1 K b (N, M, S, rl, rh, bl, bh, th, fl, fh, pt3, nu, de)) 99 ([(0, .ref (b 0)), (1, .int p0), (2, .int p1), (3, .int (nI ((kOf skip i) + 1))), (4, .int (nI i)), (5, .int (nI m1))]) [] := by
                    intro hJ99
                    refine z_aload_n C dX1_determinantWithout_99 0 rfl ?_
                    refine z_get (cl := vwCl) (T := TX1) (N := 13) (ci := 3) (ref := "IntervalSolverModel") C hinX1 rfl 10 (by decide) lk1 rfl dX1_determinantWithout_100 0 rfl rfl ?_
                    refine z_iload C dX1_determinantWithout_103 5 rfl ?_
                    refine z_lconst (v := 0) C dX1_determinantWithout_105 (by decide) ?_
                    refine z_last (ws' := w1 K b (N, M, S, rl, rh, bl, bh, th, fl, fh, vp_updL pt3 m1 0, nu, de)) C 1 rfl 9 rfl dX1_determinantWithout_106 m1 rfl (by omega) (by decide) rfl ?_
                    refine z_iconst (v := 0) C dX1_determinantWithout_107 (by decide) ?_
                    refine z_istore (lv' := [(0, .ref (b 0)), (1, .int p0), (2, .int p1), (3, .int (nI ((kOf skip i) + 1))), (4, .int (nI i)), (5, .int (nI m1)), (6, .int 0)]) C dX1_determinantWithout_108 (by decide) [1, 2, 3, 4, 5, 6, 0] rfl ?_
                    suffices L110 : ∀ (f110_j j : Nat), 0 ≤ j → j ≤ N → N < j + f110_j → zW p l e { frames := 1, cells := 0, slots := 0, locals := 22 } s m args below meth c Q 9 A s.heap D vwCl 0 0 (w1 K b (N, M, S, rl, rh, bl, bh, th, fl, fh, vp_updL pt3 m1 (psS M pt3 i m1 j), nu, de)) 110 ([(0, .ref (b 0)), (1, .int p0), (2, .int p1), (3, .int (nI ((kOf skip i) + 1))), (4, .int (nI i)), (5, .int (nI m1)), (6, .int (nI j))]) [] from L110 (N + 1) 0 (Nat.le_refl _) (by omega) (by omega)
                    intro f110_j
                    induction f110_j with
                    | zero => intro j h0 h1 h2; exact absurd h2 (by omega)
                    | succ f110_j ih110_j =>
                      intro j g110_0 g110_1 g110_2
                      refine z_iload C dX1_determinantWithout_110 6 rfl ?_
                      refine z_aload_n C dX1_determinantWithout_112 0 rfl ?_
                      refine z_get (cl := vwCl) (T := TX1) (N := 13) (ci := 3) (ref := "IntervalSolverModel") C hinX1 rfl 1 (by decide) lk0 rfl dX1_determinantWithout_113 0 rfl rfl ?_
                      refine z_icmp_ge (tgt := 199) C dX1_determinantWithout_116 (by decide) (fun c116 => ?_) (fun c116 => ?_)
                      · have e116 : j = N := by have := (nI_leI (a := N) (b := j) (by omega) (by omega)).mp c116; omega
                        rw [e116]
                        refine z_iinc (v := nI (m1 + 1)) (lv' := [(0, .ref (b 0)), (1, .int p0), (2, .int p1), (3, .int (nI ((kOf skip i) + 1))), (4, .int (nI i)), (5, .int (nI (m1 + 1))), (6, .int (nI N))]) C dX1_determinantWithout_199 (k := 5) rfl (nI_1 m1) (by decide) [1, 2, 3, 4, 5, 0, 6] rfl ?_
                        refine z_goto (tgt := 62) C dX1_determinantWithout_202 (by decide) ?_
                        refine z_lv (lv' := [(0, .ref (b 0)), (1, .int p0), (2, .int p1), (3, .int (nI ((kOf skip i) + 1))), (4, .int (nI i)), (5, .int (nI (m1 + 1)))]) [0, 1, 2, 3, 4, 5] rfl ?_
                        exact ih62_m1 (m1 + 1) (vp_updL pt3 m1 (psS M pt3 i m1 N)) (by omega) (by omega) (by omega) (fun z hz hb hp => by rw [pk_uLn (fun q => by rw [q] at hp; omega)]; exact hm1 z hz hb hp) (dw_2 hm2 (dw_v hN (by omega) (by omega) (by omega) e50 hcb6 hJ99 e79 hm1))
                      · have e116 : j < N := by have := mt (nI_leI (a := N) (b := j) (by omega) (by omega)).mpr c116; omega
                        refine z_iload C dX1_determinantWithout_119 5 rfl ?_
                        refine z_iload C dX1_determinantWithout_121 6 rfl ?_
                        refine z_ishr C dX1_determinantWithout_123 ?_
                        refine z_topi (nI (m1 / 2 ^ j)) (bt_shr m1 (by omega) j (by omega)) ?_
                        refine z_iconst (v := 1) C dX1_determinantWithout_124 (by decide) ?_
                        refine z_iand C dX1_determinantWithout_125 ?_
                        refine z_topi (nI (m1 / 2 ^ j % 2)) (bt_lo _ (Nat.lt_of_le_of_lt (Nat.div_le_self _ _) (by omega))) ?_
                        refine z_if_ne (tgt := 132) C dX1_determinantWithout_126 (by decide) (fun c126 => ?_) (fun c126 => ?_)
                        · have q126 : Nat.testBit m1 j = true := bt_t (fun q => c126 (by rw [q]; rfl))
                          refine z_aload_n C dX1_determinantWithout_132 0 rfl ?_
                          refine z_get (cl := vwCl) (T := TX1) (N := 13) (ci := 3) (ref := "IntervalSolverModel") C hinX1 rfl 2 (by decide) lk2 rfl dX1_determinantWithout_133 0 rfl rfl ?_
                          refine z_iload C dX1_determinantWithout_136 4 rfl ?_
                          refine z_iload C dX1_determinantWithout_138 6 rfl ?_
                          refine z_callSi_none (As := [.int (nI i), .int (nI j)]) C (c1_at l D K (nI i) (nI j)) (va_cwS 2 C.1.2.2.2.2 gX1_determinantWithout_X1_at rfl rfl rfl (by decide +kernel) ⟨Nat.le_of_ble_eq_true rfl, Nat.le_of_ble_eq_true rfl⟩) dX1_determinantWithout_140 rfl rfl (Nat.le_of_ble_eq_true rfl) ⟨Nat.le_of_ble_eq_true rfl, Nat.le_of_ble_eq_true rfl⟩ (fun r2 u2 h2 => ?_)
                          subst h2
                          refine z_topi (nI (5 * i + j)) (at_eq rfl rfl) ?_
                          refine z_iald C 0 rfl 1 rfl dX1_determinantWithout_143 (5 * i + j) rfl (by omega) (by decide) ?_
                          refine z_topi (M i j) (fl5_at M i j (by omega)) ?_
                          refine z_i2l C dX1_determinantWithout_144 ?_
                          refine z_aload_n C dX1_determinantWithout_145 0 rfl ?_
                          refine z_get (cl := vwCl) (T := TX1) (N := 13) (ci := 3) (ref := "IntervalSolverModel") C hinX1 rfl 10 (by decide) lk1 rfl dX1_determinantWithout_146 0 rfl rfl ?_
                          refine z_iload C dX1_determinantWithout_149 5 rfl ?_
                          refine z_iconst (v := 1) C dX1_determinantWithout_151 (by decide) ?_
                          refine z_iload C dX1_determinantWithout_152 6 rfl ?_
                          refine z_ishl C dX1_determinantWithout_154 ?_
                          refine z_topi (nI (2 ^ j)) (bt_shl j (by omega)) ?_
                          refine z_ixor C dX1_determinantWithout_155 ?_
                          refine z_topi (nI (m1 ^^^ 2 ^ j)) (bt_xor m1 (by omega) j (by omega)) ?_
                          refine z_lald C 1 rfl 9 rfl dX1_determinantWithout_156 (m1 ^^^ 2 ^ j) rfl (bt_xlt m1 (by omega) j (by omega)) (by decide) ?_
                          refine z_topl (pt3 (m1 ^^^ 2 ^ j)) (pk_uLn (Nat.ne_of_lt (xor_lt_of_bit q126))) ?_
                          refine z_lmul C dX1_determinantWithout_157 ?_
                          refine z_lstore (lv' := [(0, .ref (b 0)), (1, .int p0), (2, .int p1), (3, .int (nI ((kOf skip i) + 1))), (4, .int (nI i)), (5, .int (nI m1)), (6, .int (nI j)), (7, .long (((M i j).toInt64) * (pt3 (m1 ^^^ 2 ^ j))))]) C dX1_determinantWithout_158 (by decide) [1, 2, 3, 4, 5, 6, 7, 0] rfl ?_
                          refine z_aload_n C dX1_determinantWithout_160 0 rfl ?_
                          refine z_get (cl := vwCl) (T := TX1) (N := 13) (ci := 3) (ref := "IntervalSolverModel") C hinX1 rfl 10 (by decide) lk1 rfl dX1_determinantWithout_161 0 rfl rfl ?_
                          refine z_iload C dX1_determinantWithout_164 5 rfl ?_
                          refine z_dup2_11 C dX1_determinantWithout_166 rfl rfl ?_
                          refine z_lald C 1 rfl 9 rfl dX1_determinantWithout_167 m1 rfl (by omega) (by decide) ?_
                          refine z_topl (psS M pt3 i m1 j) pk_uLs ?_
                          refine z_iload C dX1_determinantWithout_168 5 rfl ?_
                          refine z_iload C dX1_determinantWithout_170 6 rfl ?_
                          refine z_iconst (v := 1) C dX1_determinantWithout_172 (by decide) ?_
                          refine z_iadd C dX1_determinantWithout_173 ?_
                          refine z_topi (nI (j + 1)) (nI_1 j) ?_
                          refine z_ishr C dX1_determinantWithout_174 ?_
                          refine z_topi (nI (m1 / 2 ^ (j + 1))) (bt_shr m1 (by omega) (j + 1) (by omega)) ?_
                          refine z_callSi_none (As := [.int (nI (m1 / 2 ^ (j + 1)))]) C (c1_sizeOf l D K (m1 / 2 ^ (j + 1)) (Nat.lt_of_le_of_lt (Nat.div_le_self _ _) (by omega))) (va_cwS 1 C.1.2.2.2.2 gX1_determinantWithout_X1_sizeOf rfl rfl rfl (by decide +kernel) ⟨Nat.le_of_ble_eq_true rfl, Nat.le_of_ble_eq_true rfl⟩) dX1_determinantWithout_175 rfl rfl (Nat.le_of_ble_eq_true rfl) ⟨Nat.le_of_ble_eq_true rfl, Nat.le_of_ble_eq_true rfl⟩ (fun r3 u3 h3 => ?_)
                          subst h3
                          refine z_iconst (v := 2) C dX1_determinantWithout_178 (by decide) ?_
                          refine z_irem C dX1_determinantWithout_179 (by decide) ?_
                          refine z_if_ne (tgt := 188) C dX1_determinantWithout_180 (by decide) (fun c180 => ?_) (fun c180 => ?_)
                          · have q180 := mt (par2 _ (by have := pop5_le (m1 / 2 ^ (j + 1)); omega)).mpr c180
                            refine z_lload C dX1_determinantWithout_188 7 rfl ?_
                            refine z_lneg C dX1_determinantWithout_190 ?_
                            refine z_ladd C dX1_determinantWithout_191 ?_
                            refine z_topl (psS M pt3 i m1 (j + 1)) (by rw [psS_succ, if_pos q126, if_neg q180]) ?_
                            refine z_last (ws' := w1 K b (N, M, S, rl, rh, bl, bh, th, fl, fh, vp_updL (vp_updL pt3 m1 (psS M pt3 i m1 j)) m1 (psS M pt3 i m1 (j + 1)), nu, de)) C 1 rfl 9 rfl dX1_determinantWithout_192 m1 rfl (by omega) (by decide) rfl ?_
                            refine z_ws (ws' := w1 K b (N, M, S, rl, rh, bl, bh, th, fl, fh, vp_updL pt3 m1 (psS M pt3 i m1 (j + 1)), nu, de)) (by rw [updL2]) ?_
                            refine z_iinc (v := nI (j + 1)) (lv' := [(0, .ref (b 0)), (1, .int p0), (2, .int p1), (3, .int (nI ((kOf skip i) + 1))), (4, .int (nI i)), (5, .int (nI m1)), (6, .int (nI (j + 1))), (7, .long (((M i j).toInt64) * (pt3 (m1 ^^^ 2 ^ j))))]) C dX1_determinantWithout_193 (k := 6) rfl (nI_1 j) (by decide) [1, 2, 3, 4, 5, 6, 0, 7] rfl ?_
                            refine z_goto (tgt := 110) C dX1_determinantWithout_196 (by decide) ?_
                            refine z_lv (lv' := [(0, .ref (b 0)), (1, .int p0), (2, .int p1), (3, .int (nI ((kOf skip i) + 1))), (4, .int (nI i)), (5, .int (nI m1)), (6, .int (nI (j + 1)))]) [0, 1, 2, 3, 4, 5, 6] rfl ?_
                            exact ih110_j (j + 1) (by omega) (by omega) (by omega)
                          · have q180 := (par2 _ (by have := pop5_le (m1 / 2 ^ (j + 1)); omega)).mp c180
                            refine z_lload C dX1_determinantWithout_183 7 rfl ?_
                            refine z_goto (tgt := 191) C dX1_determinantWithout_185 (by decide) ?_
                            refine z_ladd C dX1_determinantWithout_191 ?_
                            refine z_topl (psS M pt3 i m1 (j + 1)) (by rw [psS_succ, if_pos q126, if_pos q180]) ?_
                            refine z_last (ws' := w1 K b (N, M, S, rl, rh, bl, bh, th, fl, fh, vp_updL (vp_updL pt3 m1 (psS M pt3 i m1 j)) m1 (psS M pt3 i m1 (j + 1)), nu, de)) C 1 rfl 9 rfl dX1_determinantWithout_192 m1 rfl (by omega) (by decide) rfl ?_
                            refine z_ws (ws' := w1 K b (N, M, S, rl, rh, bl, bh, th, fl, fh, vp_updL pt3 m1 (psS M pt3 i m1 (j + 1)), nu, de)) (by rw [updL2]) ?_
                            refine z_iinc (v := nI (j + 1)) (lv' := [(0, .ref (b 0)), (1, .int p0), (2, .int p1), (3, .int (nI ((kOf skip i) + 1))), (4, .int (nI i)), (5, .int (nI m1)), (6, .int (nI (j + 1))), (7, .long (((M i j).toInt64) * (pt3 (m1 ^^^ 2 ^ j))))]) C dX1_determinantWithout_193 (k := 6) rfl (nI_1 j) (by decide) [1, 2, 3, 4, 5, 6, 0, 7] rfl ?_
                            refine z_goto (tgt := 110) C dX1_determinantWithout_196 (by decide) ?_
                            refine z_lv (lv' := [(0, .ref (b 0)), (1, .int p0), (2, .int p1), (3, .int (nI ((kOf skip i) + 1))), (4, .int (nI i)), (5, .int (nI m1)), (6, .int (nI (j + 1)))]) [0, 1, 2, 3, 4, 5, 6] rfl ?_
                            exact ih110_j (j + 1) (by omega) (by omega) (by omega)
                        · have q126 : Nat.testBit m1 j = false := bt_f (fun q => by rw [q] at c126; exact absurd c126 (by decide))
                          rw [show psS M pt3 i m1 j = psS M pt3 i m1 (j + 1) from (by rw [psS_succ, if_neg (by rw [q126]; decide)])]
                          refine z_goto (tgt := 193) C dX1_determinantWithout_129 (by decide) ?_
                          refine z_iinc (v := nI (j + 1)) (lv' := [(0, .ref (b 0)), (1, .int p0), (2, .int p1), (3, .int (nI ((kOf skip i) + 1))), (4, .int (nI i)), (5, .int (nI m1)), (6, .int (nI (j + 1)))]) C dX1_determinantWithout_193 (k := 6) rfl (nI_1 j) (by decide) [1, 2, 3, 4, 5, 6, 0] rfl ?_
                          refine z_goto (tgt := 110) C dX1_determinantWithout_196 (by decide) ?_
                          exact ih110_j (j + 1) (by omega) (by omega) (by omega)
                  refine z_iload_n C dX1_determinantWithout_82 2 rfl ?_
                  refine z_if_lt (tgt := 99) C dX1_determinantWithout_83 (by decide) (fun c83 => ?_) (fun c83 => ?_)
                  · have hok : Nat.testBit m1 cb = false := by rw [(hlt c83).1]; exact bt_5 m1 (by omega)
                    exact J99 hok
                  · obtain ⟨hcN, hcT⟩ := hge c83
                    refine z_iload C dX1_determinantWithout_86 5 rfl ?_
                    refine z_iload_n C dX1_determinantWithout_88 2 rfl ?_
                    refine z_ishr C dX1_determinantWithout_89 ?_
                    refine z_topi (nI (m1 / 2 ^ cb)) (by rw [hcT]; exact bt_shr m1 (by omega) cb (by omega)) ?_
                    refine z_iconst (v := 1) C dX1_determinantWithout_90 (by decide) ?_
                    refine z_iand C dX1_determinantWithout_91 ?_
                    refine z_topi (nI (m1 / 2 ^ cb % 2)) (bt_lo _ (Nat.lt_of_le_of_lt (Nat.div_le_self _ _) (by omega))) ?_
                    refine z_iconst (v := 1) C dX1_determinantWithout_92 (by decide) ?_
                    refine z_icmp_ne (tgt := 99) C dX1_determinantWithout_93 (by decide) (fun c93 => ?_) (fun c93 => ?_)
                    · have hok : Nat.testBit m1 cb = false := bt_f (fun q => by rw [q] at c93; exact c93 rfl)
                      exact J99 hok
                    · have hskip : Nat.testBit m1 cb = true := bt_t (fun q => by rw [q] at c93; exact absurd c93 (by decide))
                      refine z_goto (tgt := 199) C dX1_determinantWithout_96 (by decide) ?_
                      refine z_iinc (v := nI (m1 + 1)) (lv' := [(0, .ref (b 0)), (1, .int p0), (2, .int p1), (3, .int (nI ((kOf skip i) + 1))), (4, .int (nI i)), (5, .int (nI (m1 + 1)))]) C dX1_determinantWithout_199 (k := 5) rfl (nI_1 m1) (by decide) [1, 2, 3, 4, 5, 0] rfl ?_
                      refine z_goto (tgt := 62) C dX1_determinantWithout_202 (by decide) ?_
                      exact ih62_m1 (m1 + 1) pt3 (by omega) (by omega) (by omega) hm1 (dw_3 hm2 (fun q2 => by rw [hskip] at q2; cases q2.1))
          · have e50 : i = skip := (hr50 i (by omega)).mp c50
            have k50 : kOf skip i = kOf skip (i + 1) := by rw [e50]; exact kOf_sk skip
            rw [k50]
            refine z_goto (tgt := 205) C dX1_determinantWithout_53 (by decide) ?_
            refine z_iinc (v := nI (i + 1)) (lv' := [(0, .ref (b 0)), (1, .int p0), (2, .int p1), (3, .int (nI (kOf skip (i + 1)))), (4, .int (nI (i + 1)))]) C dX1_determinantWithout_205 (k := 4) rfl (nI_1 i) (by decide) [1, 2, 3, 4, 0] rfl ?_
            refine z_goto (tgt := 38) C dX1_determinantWithout_208 (by decide) ?_
            exact ih38_i (i + 1) pt2 (by omega) (by omega) (by omega) (by rw [← k50]; exact hm0)
    · have e9 : k < 2 ^ N := by have := mt (nI_leI (a := 2 ^ N) (b := k) (by omega) (by omega)).mpr c9; omega
      refine z_aload_n C dX1_determinantWithout_12 0 rfl ?_
      refine z_get (cl := vwCl) (T := TX1) (N := 13) (ci := 3) (ref := "IntervalSolverModel") C hinX1 rfl 10 (by decide) lk1 rfl dX1_determinantWithout_13 0 rfl rfl ?_
      refine z_iload_n C dX1_determinantWithout_16 3 rfl ?_
      refine z_iload_n C dX1_determinantWithout_17 3 rfl ?_
      refine z_if_ne (tgt := 25) C dX1_determinantWithout_18 (by decide) (fun c18 => ?_) (fun c18 => ?_)
      · refine z_lconst (v := 0) C dX1_determinantWithout_25 (by decide) ?_
        refine z_topl (if k = 0 then 1 else 0) (if_neg (fun q => c18 ((nI_eq (a := k) (b := 0) (by omega) (by omega)).mpr q))).symm ?_
        refine z_last (ws' := w1 K b (N, M, S, rl, rh, bl, bh, th, fl, fh, vp_updL (pt0 pt k) k (if k = 0 then 1 else 0), nu, de)) C 1 rfl 9 rfl dX1_determinantWithout_26 k rfl (by omega) (by decide) rfl ?_
        refine z_iinc (v := nI (k + 1)) (lv' := [(0, .ref (b 0)), (1, .int p0), (2, .int p1), (3, .int (nI (k + 1)))]) C dX1_determinantWithout_27 (k := 3) rfl (nI_1 k) (by decide) [1, 2, 3, 0] rfl ?_
        refine z_goto (tgt := 2) C dX1_determinantWithout_30 (by decide) ?_
        exact ih2_k (k + 1) (by omega) (by omega) (by omega)
      · refine z_lconst (v := 1) C dX1_determinantWithout_21 (by decide) ?_
        refine z_goto (tgt := 26) C dX1_determinantWithout_22 (by decide) ?_
        refine z_topl (if k = 0 then 1 else 0) (if_pos ((nI_eq (a := k) (b := 0) (by omega) (by omega)).mp c18)).symm ?_
        refine z_last (ws' := w1 K b (N, M, S, rl, rh, bl, bh, th, fl, fh, vp_updL (pt0 pt k) k (if k = 0 then 1 else 0), nu, de)) C 1 rfl 9 rfl dX1_determinantWithout_26 k rfl (by omega) (by decide) rfl ?_
        refine z_iinc (v := nI (k + 1)) (lv' := [(0, .ref (b 0)), (1, .int p0), (2, .int p1), (3, .int (nI (k + 1)))]) C dX1_determinantWithout_27 (k := 3) rfl (nI_1 k) (by decide) [1, 2, 3, 0] rfl ?_
        refine z_goto (tgt := 2) C dX1_determinantWithout_30 (by decide) ?_
        exact ih2_k (k + 1) (by omega) (by omega) (by omega)
