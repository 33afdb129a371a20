/-! sweeps: the class's and the reference's -/
abbrev okX (x y : Nat → Int32) : Prop := ∀ i, i < 5 → -1000000000 ≤ (x i).toInt ∧ (x i).toInt ≤ (y i).toInt ∧ (y i).toInt ≤ 1000000000
abbrev okA (M : Nat → Nat → Int32) : Prop := ∀ i j, i < 5 → j < 5 → (M i j).toInt.natAbs ≤ 99
theorem mx_eq {m p q : Int64} (hm : m.toInt.natAbs ≤ 99) (hp : p.toInt.natAbs ≤ 1000000000) (hq : q.toInt.natAbs ≤ 1000000000) (hpq : p.toInt ≤ q.toInt) : maxL (m * p) (m * q) = m * (if m < 0 then p else q) ∧ minL (m * p) (m * q) = m * (if m < 0 then q else p) := by
  have z : (0 : Int64).toInt = 0 := rfl
  have e1 := (B_mul hm hp (by omega)).1
  have e2 := (B_mul hm hq (by omega)).1
  unfold maxL minL
  by_cases h : m < 0
  · rw [if_pos h, if_pos h]
    have hn := l_lt.mp h
    have hle : m.toInt * q.toInt ≤ m.toInt * p.toInt := Int.mul_le_mul_of_nonpos_left (by omega) hpq
    by_cases c : m * q < m * p
    · rw [if_pos c, if_pos c]; exact ⟨rfl, rfl⟩
    · have c2 := mt l_lt.mpr c
      rw [e1, e2] at c2
      have : m * p = m * q := by rw [l_eq, e1, e2]; omega
      rw [this, if_neg (by rw [l_lt]; omega)]; exact ⟨rfl, rfl⟩
  · rw [if_neg h, if_neg h]
    have hn := mt l_lt.mpr h
    have hle : m.toInt * p.toInt ≤ m.toInt * q.toInt := Int.mul_le_mul_of_nonneg_left hpq (by omega)
    have c : ¬ m * q < m * p := fun c => by have := l_lt.mp c; rw [e1, e2] at this; omega
    rw [if_neg c, if_neg c]; exact ⟨rfl, rfl⟩
theorem ite_64 {c : Prop} {d : Decidable c} {x y : Int32} : (if c then x else y).toInt64 = if c then x.toInt64 else y.toInt64 := by split <;> rfl
theorem cw_L {M : Nat → Nat → Int32} {r x y : Nat → Int32} {i : Nat} (hM : okA M) (hX : okX x y) (hi : i < 5) : ∀ k, k ≤ 5 → cwL M r x y i k = cbS M r x y i k
  | 0, _ => rfl
  | k + 1, hk => by
    unfold cwL cbS
    rw [cw_L hM hX hi k (by omega)]
    have hb := hX k (by omega)
    rw [(mx_eq (m := (M i k).toInt64) (p := (x k).toInt64) (q := (y k).toInt64) (by rw [B_32]; exact hM i k hi (by omega)) (by rw [B_32]; omega) (by rw [B_32]; omega) (by rw [B_32, B_32]; exact hb.2.1)).1, ite_64]
theorem cw_H {M : Nat → Nat → Int32} {r x y : Nat → Int32} {i : Nat} (hM : okA M) (hX : okX x y) (hi : i < 5) : ∀ k, k ≤ 5 → cwH M r x y i k = cbS M r y x i k
  | 0, _ => rfl
  | k + 1, hk => by
    unfold cwH cbS
    rw [cw_H hM hX hi k (by omega)]
    have hb := hX k (by omega)
    rw [(mx_eq (m := (M i k).toInt64) (p := (x k).toInt64) (q := (y k).toInt64) (by rw [B_32]; exact hM i k hi (by omega)) (by rw [B_32]; omega) (by rw [B_32]; omega) (by rw [B_32, B_32]; exact hb.2.1)).2, ite_64]
theorem cr_cb {N : Nat} {M : Nat → Nat → Int32} {rl rh x y : Nat → Int32} {i : Nat} (hN : N ≤ 5) (hM : okA M) (hX : okX x y) (hi : i < 5) (h0 : ¬ M i i = 0) : cbLo N M rl rh x y i = crLo N M rl rh x y i ∧ cbHi N M rl rh x y i = crHi N M rl rh x y i := by
  have hz : ¬ (M i i).toInt64 = 0 := fun q => h0 (toInt64_eq0 q)
  unfold cbLo crLo cbHi crHi
  rw [cw_L hM hX hi N hN, cw_H hM hX hi N hN, qd_dn hz, qd_dn hz, qu_up hz, qu_up hz]
  have z : (0 : Int64).toInt = 0 := rfl
  have hz2 := mt l_z.mpr hz
  by_cases h : (M i i).toInt64 < 0
  · have := l_lt.mp h
    rw [if_pos h, if_pos h, if_neg (by rw [l_lt]; omega), if_neg (by rw [l_lt]; omega)]
    exact ⟨rfl, rfl⟩
  · have := mt l_lt.mpr h
    rw [if_neg h, if_neg h, if_pos (by rw [l_lt]; omega), if_pos (by rw [l_lt]; omega)]
    exact ⟨rfl, rfl⟩
theorem maxL_c (x y : Int64) : maxL x y = maxL y x := by
  unfold maxL
  by_cases h : y < x
  · rw [if_pos h, if_neg (by rw [l_lt]; have := l_lt.mp h; omega)]
  · rw [if_neg h]
    by_cases h2 : x < y
    · rw [if_pos h2]
    · rw [if_neg h2, l_eq]; have := mt l_lt.mpr h; have := mt l_lt.mpr h2; omega
theorem minL_c (x y : Int64) : minL x y = minL y x := by
  unfold minL
  by_cases h : y < x
  · rw [if_pos h, if_neg (by rw [l_lt]; have := l_lt.mp h; omega)]
  · rw [if_neg h]
    by_cases h2 : x < y
    · rw [if_pos h2]
    · rw [if_neg h2, l_eq]; have := mt l_lt.mpr h; have := mt l_lt.mpr h2; omega
theorem n32 {x : Int64} (h1 : -2147483648 ≤ x.toInt) (h2 : x.toInt < 2147483648) : x.toInt32.toInt = x.toInt := by
  rw [Int64.toInt_toInt32]; exact Int.bmod_eq_of_le (by omega) (by omega)
theorem i_eq {x y : Int32} : x = y ↔ x.toInt = y.toInt := ⟨fun h => by rw [h], Int32.toInt_inj.mp⟩
theorem maxL_t (x y : Int64) : (maxL x y).toInt = max x.toInt y.toInt := by
  unfold maxL
  by_cases h : y < x
  · rw [if_pos h]; have := l_lt.mp h; omega
  · rw [if_neg h]; have := mt l_lt.mpr h; omega
theorem minL_t (x y : Int64) : (minL x y).toInt = min x.toInt y.toInt := by
  unfold minL
  by_cases h : y < x
  · rw [if_pos h]; have := l_lt.mp h; omega
  · rw [if_neg h]; have := mt l_lt.mpr h; omega
theorem it_ct {lo hi : Int64} {x y : Nat → Int32} {i : Nat} (hX : okX x y) (hi5 : i < 5) : (itR lo hi x y i < 0 ↔ ctR lo hi x y i = 0) ∧ itB lo hi x y i = ctB lo hi x y i ∧ (¬ itR lo hi x y i < 0 → itR lo hi x y i = (if (itB lo hi x y i).1 i = x i ∧ (itB lo hi x y i).2 i = y i then 0 else 1) ∧ okX (itB lo hi x y i).1 (itB lo hi x y i).2) ∧ ∀ j, ¬ j = i → (itB lo hi x y i).1 j = x j ∧ (itB lo hi x y i).2 j = y j := by
  have hb := hX i hi5
  have eL : ctL x i lo = itL lo x i := maxL_c _ _
  have eH : ctH y i hi = itH hi y i := minL_c _ _
  have tL : (itL lo x i).toInt = max lo.toInt (x i).toInt := by unfold itL; rw [maxL_t, B_32]
  have tH : (itH hi y i).toInt = min hi.toInt (y i).toInt := by unfold itH; rw [minL_t, B_32]
  have hlt : (itH hi y i < itL lo x i) ↔ (itH hi y i).toInt < (itL lo x i).toInt := l_lt
  refine ⟨?_, ?_, ?_, ?_⟩
  · unfold itR ctR
    rw [eL, eH]
    by_cases h : itH hi y i < itL lo x i
    · rw [if_pos h, if_pos h]; exact ⟨fun _ => rfl, fun _ => by decide⟩
    · rw [if_neg h, if_neg h]
      refine ⟨fun q => ?_, fun q => absurd q (by decide)⟩
      split at q <;> exact absurd q (by decide)
  · unfold itB ctB
    rw [eL, eH]
  · intro hn
    have h : ¬ itH hi y i < itL lo x i := fun q => hn (by unfold itR; rw [if_pos q]; decide)
    have h2 := mt hlt.mpr h
    have nL := n32 (x := itL lo x i) (by omega) (by omega)
    have nH := n32 (x := itH hi y i) (by omega) (by omega)
    unfold itR itB
    rw [if_neg h, if_neg h]
    refine ⟨?_, ?_⟩
    · show _ = if upd x i (itL lo x i).toInt32 i = x i ∧ upd y i (itH hi y i).toInt32 i = y i then 0 else 1
      rw [pk_us, pk_us]
      have c1 : (itL lo x i = (x i).toInt64) ↔ (itL lo x i).toInt32 = x i := by rw [l_eq, i_eq, nL, B_32]
      have c2 : (itH hi y i = (y i).toInt64) ↔ (itH hi y i).toInt32 = y i := by rw [l_eq, i_eq, nH, B_32]
      by_cases q : itL lo x i = (x i).toInt64 ∧ itH hi y i = (y i).toInt64
      · rw [if_pos q, if_pos ⟨c1.mp q.1, c2.mp q.2⟩]
      · rw [if_neg q, if_neg (fun w => q ⟨c1.mpr w.1, c2.mpr w.2⟩)]
    · intro j hj
      show -1000000000 ≤ (upd x i (itL lo x i).toInt32 j).toInt ∧ (upd x i (itL lo x i).toInt32 j).toInt ≤ (upd y i (itH hi y i).toInt32 j).toInt ∧ (upd y i (itH hi y i).toInt32 j).toInt ≤ 1000000000
      by_cases e : j = i
      · subst e; rw [pk_us, pk_us]; omega
      · rw [pk_un e, pk_un e]; exact hX j hj
  · intro j hj
    unfold itB
    split
    · exact ⟨rfl, rfl⟩
    · exact ⟨pk_un hj, pk_un hj⟩
