/-! the property: a vector that is a solution and lies in the box stays so -/
abbrev okV (v : Nat → Int32) : Prop := ∀ j, j < 3 → -10 ≤ (v j).toInt ∧ (v j).toInt ≤ 10
def dotI (M : Nat → Nat → Int32) (v : Nat → Int32) (i : Nat) : Int := (M i 0).toInt * (v 0).toInt + (M i 1).toInt * (v 1).toInt + (M i 2).toInt * (v 2).toInt
abbrev inR (M : Nat → Nat → Int32) (v rl rh : Nat → Int32) : Prop := ∀ i, i < 3 → (rl i).toInt ≤ dotI M v i ∧ dotI M v i ≤ (rh i).toInt
abbrev inB (v bl bh : Nat → Int32) : Prop := ∀ i, i < 3 → (bl i).toInt ≤ 1024 * (v i).toInt ∧ 1024 * (v i).toInt ≤ (bh i).toInt
def sI (M : Nat → Nat → Int32) (v : Nat → Int32) (i : Nat) : Nat → Int
  | 0 => 0
  | k + 1 => if k = i then sI M v i k else sI M v i k + (M i k).toInt * (v k).toInt
theorem sI_3 (M : Nat → Nat → Int32) (v : Nat → Int32) {i : Nat} (hi : i < 3) : sI M v i 3 = dotI M v i - (M i i).toInt * (v i).toInt := by
  match i, hi with
  | 0, _ => simp [sI, dotI]; omega
  | 1, _ => simp [sI, dotI]; omega
  | 2, _ => simp [sI, dotI]
  | n + 3, h => exact absurd h (by omega)
theorem mul_p {a z w b : Int} (h0 : 0 ≤ a) (h : z ≤ 1024 * w) : a * z ≤ 1024 * (a * w) := by
  have := Int.mul_le_mul_of_nonneg_left h h0
  rw [Int.mul_left_comm] at this
  exact this
theorem mul_p2 {a z w : Int} (h0 : 0 ≤ a) (h : 1024 * w ≤ z) : 1024 * (a * w) ≤ a * z := by
  have := Int.mul_le_mul_of_nonneg_left h h0
  rw [Int.mul_left_comm] at this
  exact this
theorem mul_n {a z w : Int} (h0 : a ≤ 0) (h : 1024 * w ≤ z) : a * z ≤ 1024 * (a * w) := by
  have := Int.mul_le_mul_of_nonpos_left h0 h
  rw [Int.mul_left_comm a 1024 w] at this
  exact this
theorem mul_n2 {a z w : Int} (h0 : a ≤ 0) (h : z ≤ 1024 * w) : 1024 * (a * w) ≤ a * z := by
  have := Int.mul_le_mul_of_nonpos_left h0 h
  rw [Int.mul_left_comm a 1024 w] at this
  exact this
theorem cb_0 {r : Nat → Int32} {i : Nat} (hr : (r i).toInt.natAbs ≤ 999) : (1024 * (r i).toInt64).toInt = 1024 * (r i).toInt ∧ (1024 * (r i).toInt64).toInt.natAbs ≤ 1022976 := by
  have m := B_mul (x := 1024) (y := (r i).toInt64) (a := 1024) (b := 999) (by decide) (by rw [B_32]; exact hr) (by omega)
  have k2 : (1024 : Int64).toInt = 1024 := rfl
  obtain ⟨m1, m2⟩ := m
  rw [B_32, k2] at m1
  exact ⟨m1, by omega⟩
theorem cb_st {s a z : Int64} {k : Nat} (hs : s.toInt.natAbs ≤ 1022976 + k * 99000000000) (hk : k ≤ 5) (ha : a.toInt.natAbs ≤ 99) (hz : z.toInt.natAbs ≤ 1000000000) : (s - a * z).toInt = s.toInt - a.toInt * z.toInt ∧ (s - a * z).toInt.natAbs ≤ 1022976 + (k + 1) * 99000000000 := by
  obtain ⟨m1, m2⟩ := B_mul ha hz (by omega)
  obtain ⟨n1, n2⟩ := B_sub hs m2 (by omega)
  rw [m1] at n1
  exact ⟨n1, by omega⟩
theorem cb_lo {M : Nat → Nat → Int32} {r x y v : Nat → Int32} {i : Nat} (hM : okA M) (hr : (r i).toInt.natAbs ≤ 999) (hX : okX x y) (hB : inB v x y) (hi : i < 5) : ∀ k, k ≤ 3 → (cbS M r x y i k).toInt ≤ 1024 * ((r i).toInt - sI M v i k) ∧ (cbS M r x y i k).toInt.natAbs ≤ 1022976 + k * 99000000000
  | 0, _ => by
    obtain ⟨m1, m2⟩ := cb_0 hr
    show (1024 * (r i).toInt64).toInt ≤ 1024 * ((r i).toInt - 0) ∧ (1024 * (r i).toInt64).toInt.natAbs ≤ _
    omega
  | k + 1, hk => by
    obtain ⟨h1, h2⟩ := cb_lo hM hr hX hB hi k (by omega)
    show (if k = i then cbS M r x y i k else cbS M r x y i k - (M i k).toInt64 * (if (M i k).toInt64 < 0 then x k else y k).toInt64).toInt ≤ 1024 * ((r i).toInt - (if k = i then sI M v i k else sI M v i k + (M i k).toInt * (v k).toInt)) ∧ (if k = i then cbS M r x y i k else cbS M r x y i k - (M i k).toInt64 * (if (M i k).toInt64 < 0 then x k else y k).toInt64).toInt.natAbs ≤ _
    by_cases e : k = i
    · rw [if_pos e, if_pos e]
      exact ⟨h1, Nat.le_trans h2 (Nat.add_le_add_left (Nat.mul_le_mul_right _ (Nat.le_succ k)) _)⟩
    · rw [if_neg e, if_neg e]
      have hm := hM i k hi (by omega)
      have hb := hX k (by omega)
      have hv := hB k (by omega)
      have z0 : (0 : Int64).toInt = 0 := rfl
      by_cases c : (M i k).toInt64 < 0
      · rw [if_pos c]
        have c2 := l_lt.mp c
        rw [B_32, z0] at c2
        obtain ⟨n1, n2⟩ := cb_st (a := (M i k).toInt64) (z := (x k).toInt64) h2 (by omega) (by rw [B_32]; exact hm) (by rw [B_32]; omega)
        rw [B_32, B_32] at n1
        have := mul_n2 (a := (M i k).toInt) (by omega) hv.1
        exact ⟨by rw [n1]; omega, by omega⟩
      · rw [if_neg c]
        have c2 := mt l_lt.mpr c
        rw [B_32, z0] at c2
        obtain ⟨n1, n2⟩ := cb_st (a := (M i k).toInt64) (z := (y k).toInt64) h2 (by omega) (by rw [B_32]; exact hm) (by rw [B_32]; omega)
        rw [B_32, B_32] at n1
        have := mul_p2 (a := (M i k).toInt) (by omega) hv.2
        exact ⟨by rw [n1]; omega, by omega⟩
theorem cb_hi {M : Nat → Nat → Int32} {r x y v : Nat → Int32} {i : Nat} (hM : okA M) (hr : (r i).toInt.natAbs ≤ 999) (hX : okX x y) (hB : inB v x y) (hi : i < 5) : ∀ k, k ≤ 3 → 1024 * ((r i).toInt - sI M v i k) ≤ (cbS M r y x i k).toInt ∧ (cbS M r y x i k).toInt.natAbs ≤ 1022976 + k * 99000000000
  | 0, _ => by
    obtain ⟨m1, m2⟩ := cb_0 hr
    show 1024 * ((r i).toInt - 0) ≤ (1024 * (r i).toInt64).toInt ∧ (1024 * (r i).toInt64).toInt.natAbs ≤ _
    omega
  | k + 1, hk => by
    obtain ⟨h1, h2⟩ := cb_hi hM hr hX hB hi k (by omega)
    show 1024 * ((r i).toInt - (if k = i then sI M v i k else sI M v i k + (M i k).toInt * (v k).toInt)) ≤ (if k = i then cbS M r y x i k else cbS M r y x i k - (M i k).toInt64 * (if (M i k).toInt64 < 0 then y k else x k).toInt64).toInt ∧ (if k = i then cbS M r y x i k else cbS M r y x i k - (M i k).toInt64 * (if (M i k).toInt64 < 0 then y k else x k).toInt64).toInt.natAbs ≤ _
    by_cases e : k = i
    · rw [if_pos e, if_pos e]
      exact ⟨h1, Nat.le_trans h2 (Nat.add_le_add_left (Nat.mul_le_mul_right _ (Nat.le_succ k)) _)⟩
    · rw [if_neg e, if_neg e]
      have hm := hM i k hi (by omega)
      have hb := hX k (by omega)
      have hv := hB k (by omega)
      have z0 : (0 : Int64).toInt = 0 := rfl
      by_cases c : (M i k).toInt64 < 0
      · rw [if_pos c]
        have c2 := l_lt.mp c
        rw [B_32, z0] at c2
        obtain ⟨n1, n2⟩ := cb_st (a := (M i k).toInt64) (z := (y k).toInt64) h2 (by omega) (by rw [B_32]; exact hm) (by rw [B_32]; omega)
        rw [B_32, B_32] at n1
        have := mul_n (a := (M i k).toInt) (by omega) hv.2
        exact ⟨by rw [n1]; omega, by omega⟩
      · rw [if_neg c]
        have c2 := mt l_lt.mpr c
        rw [B_32, z0] at c2
        obtain ⟨n1, n2⟩ := cb_st (a := (M i k).toInt64) (z := (x k).toInt64) h2 (by omega) (by rw [B_32]; exact hm) (by rw [B_32]; omega)
        rw [B_32, B_32] at n1
        have := mul_p (a := (M i k).toInt) (b := 0) (by omega) hv.1
        exact ⟨by rw [n1]; omega, by omega⟩
/-! a quotient rounded down, below what the fraction is below -/
theorem fl_core {p q t m w : Int} (hq : ¬ q = 0) (e : p = q * t + m) (hm : m.natAbs < q.natAbs) (s1 : 0 ≤ p → 0 ≤ m) (s2 : p ≤ 0 → m ≤ 0) (h : (0 < q ∧ p ≤ q * w) ∨ (q < 0 ∧ q * w ≤ p)) : ((m = 0 ∨ (p < 0 ↔ q < 0)) → t ≤ w) ∧ t - 1 ≤ w := by
  rcases h with ⟨h1, h2⟩ | ⟨h1, h2⟩
  · constructor
    · intro hs
      refine Decidable.byContradiction (fun hn => ?_)
      have h9 := Int.mul_le_mul_of_nonneg_left (show w + 1 ≤ t by omega) (show 0 ≤ q by omega)
      rw [Int.mul_add, Int.mul_one] at h9
      rcases hs with hs | hs
      · omega
      · have : 0 ≤ p := by
          refine Decidable.byContradiction (fun hp => ?_)
          have := hs.mp (by omega)
          omega
        have := s1 this
        omega
    · refine Decidable.byContradiction (fun hn => ?_)
      have h9 := Int.mul_le_mul_of_nonneg_left (show w + 2 ≤ t by omega) (show 0 ≤ q by omega)
      rw [Int.mul_add] at h9
      omega
  · constructor
    · intro hs
      refine Decidable.byContradiction (fun hn => ?_)
      have h9 := Int.mul_le_mul_of_nonpos_left (show q ≤ 0 by omega) (show w + 1 ≤ t by omega)
      rw [Int.mul_add, Int.mul_one] at h9
      rcases hs with hs | hs
      · omega
      · have h3 := hs.mpr h1
        have := s2 (by omega)
        omega
    · refine Decidable.byContradiction (fun hn => ?_)
      have h9 := Int.mul_le_mul_of_nonpos_left (show q ≤ 0 by omega) (show w + 2 ≤ t by omega)
      rw [Int.mul_add] at h9
      omega
theorem qd_le {p q : Int64} {w : Int} {a : Nat} (hp : p.toInt.natAbs ≤ a) (ha : a < 4611686018427387904) (hq : ¬ q = 0) (h : (0 < q.toInt ∧ p.toInt ≤ q.toInt * w) ∨ (q.toInt < 0 ∧ q.toInt * w ≤ p.toInt)) : (qd p q).toInt ≤ w ∧ (qd p q).toInt.natAbs ≤ a + 1 := by
  have z : (0 : Int64).toInt = 0 := rfl
  have hz : ¬ q.toInt = 0 := mt l_z.mpr hq
  have hd := l_div (x := p) (y := q) (by omega)
  have hqa : (p / q).toInt.natAbs ≤ a := by
    rw [hd, Int.natAbs_tdiv]
    exact Nat.le_trans (Nat.div_le_self _ _) hp
  have hmod := Int.tmod_def p.toInt q.toInt
  have hm1 : (p / q * q).toInt = p.toInt.tdiv q.toInt * q.toInt := by
    have hbd : (p.toInt.tdiv q.toInt * q.toInt).natAbs ≤ a := by
      rw [Int.natAbs_mul, Int.natAbs_tdiv]
      exact Nat.le_trans (Nat.div_mul_le_self _ _) hp
    rw [l_mul (by rw [hd]; omega) (by rw [hd]; omega), hd]
  have hc : (p / q * q = p) ↔ p.toInt.tmod q.toInt = 0 := by
    rw [l_eq, hm1, Int.mul_comm]
    omega
  have hlt : (p.toInt.tmod q.toInt).natAbs < q.toInt.natAbs := by
    rw [Int.natAbs_tmod]
    exact Nat.mod_lt _ (by omega)
  have s1 : 0 ≤ p.toInt → 0 ≤ p.toInt.tmod q.toInt := fun h => Int.tmod_nonneg _ h
  have s2 : p.toInt ≤ 0 → p.toInt.tmod q.toInt ≤ 0 := fun h => by
    have h3 := Int.tmod_nonneg q.toInt (show 0 ≤ -p.toInt by omega)
    rw [Int.neg_tmod] at h3
    omega
  obtain ⟨f1, f2⟩ := fl_core (t := p.toInt.tdiv q.toInt) hz (by omega) hlt s1 s2 h
  rw [qd_dn hq]
  unfold dnJ
  by_cases h1 : p / q * q = p
  · rw [if_pos h1, hd]
    exact ⟨f1 (Or.inl (hc.mp h1)), by rw [← hd]; omega⟩
  · rw [if_neg h1]
    by_cases h2 : (p < 0 ↔ q < 0)
    · rw [if_pos h2, hd]
      refine ⟨f1 (Or.inr ?_), by rw [← hd]; omega⟩
      rw [l_lt, l_lt, z] at h2
      exact h2
    · rw [if_neg h2]
      obtain ⟨n1, n2⟩ := B_sub (x := p / q) (y := 1) (a := a) (b := 1) hqa (by decide) (by omega)
      have k1 : (1 : Int64).toInt = 1 := rfl
      exact ⟨by rw [n1, hd, k1]; exact f2, n2⟩
theorem qu_ge {p q : Int64} {w : Int} {a : Nat} (hp : p.toInt.natAbs ≤ a) (ha : a < 4611686018427387904) (hq : ¬ q = 0) (h : (0 < q.toInt ∧ q.toInt * w ≤ p.toInt) ∨ (q.toInt < 0 ∧ p.toInt ≤ q.toInt * w)) : w ≤ (qu p q).toInt ∧ (qu p q).toInt.natAbs ≤ a + 1 := by
  obtain ⟨n1, n2⟩ := B_neg hp (by omega)
  obtain ⟨h1, h2⟩ := qd_le (w := -w) n2 ha hq (by rw [n1, Int.mul_neg]; omega)
  obtain ⟨k1, k2⟩ := B_neg h2 (by omega)
  unfold qu
  exact ⟨by rw [k1]; omega, k2⟩
theorem cb_in {M : Nat → Nat → Int32} {rl rh x y v : Nat → Int32} {i : Nat} (hM : okA M) (hR : okR rl rh) (hS : inR M v rl rh) (hX : okX x y) (hB : inB v x y) (hi : i < 3) (h0 : ¬ M i i = 0) : (cbLo 3 M rl rh x y i).toInt ≤ 1024 * (v i).toInt ∧ 1024 * (v i).toInt ≤ (cbHi 3 M rl rh x y i).toInt := by
  have hz : ¬ (M i i).toInt64 = 0 := fun q => h0 (toInt64_eq0 q)
  have z : (0 : Int64).toInt = 0 := rfl
  have hz2 := mt l_z.mpr hz
  have hr := hR i (by omega)
  have hs := hS i hi
  obtain ⟨a1, a2⟩ := cb_lo (v := v) (r := rl) hM (by omega) hX hB (by omega : i < 5) 3 (Nat.le_refl _)
  obtain ⟨b1, b2⟩ := cb_hi (v := v) (r := rh) hM (by omega) hX hB (by omega : i < 5) 3 (Nat.le_refl _)
  have s3 := sI_3 M v hi
  have e : (M i i).toInt64.toInt * (1024 * (v i).toInt) = 1024 * ((M i i).toInt * (v i).toInt) := by rw [B_32, Int.mul_left_comm]
  unfold cbLo cbHi
  by_cases h : (M i i).toInt64 < 0
  · have h2 := l_lt.mp h
    rw [if_pos h, if_pos h]
    exact ⟨(qd_le b2 (by omega) hz (Or.inr ⟨by omega, by rw [e]; omega⟩)).1, (qu_ge a2 (by omega) hz (Or.inr ⟨by omega, by rw [e]; omega⟩)).1⟩
  · have h2 := mt l_lt.mpr h
    rw [if_neg h, if_neg h]
    exact ⟨(qd_le a2 (by omega) hz (Or.inl ⟨by omega, by rw [e]; omega⟩)).1, (qu_ge b2 (by omega) hz (Or.inl ⟨by omega, by rw [e]; omega⟩)).1⟩
theorem it_in {lo hi : Int64} {x y v : Nat → Int32} {i : Nat} (hX : okX x y) (hB : inB v x y) (hi3 : i < 3) (h1 : lo.toInt ≤ 1024 * (v i).toInt) (h2 : 1024 * (v i).toInt ≤ hi.toInt) : ¬ itR lo hi x y i < 0 ∧ 0 ≤ (itR lo hi x y i).toInt ∧ (itR lo hi x y i).toInt ≤ 1 ∧ okX (itB lo hi x y i).1 (itB lo hi x y i).2 ∧ inB v (itB lo hi x y i).1 (itB lo hi x y i).2 := by
  have hb := hX i (by omega)
  have hv := hB i hi3
  have tL : (itL lo x i).toInt = max lo.toInt (x i).toInt := by unfold itL; rw [maxL_t, B_32]
  have tH : (itH hi y i).toInt = min hi.toInt (y i).toInt := by unfold itH; rw [minL_t, B_32]
  have h : ¬ itH hi y i < itL lo x i := by rw [l_lt]; omega
  have hr : itR lo hi x y i = 0 ∨ itR lo hi x y i = 1 := by
    unfold itR
    rw [if_neg h]
    split
    · exact Or.inl rfl
    · exact Or.inr rfl
  have hn : ¬ itR lo hi x y i < 0 := by rcases hr with q | q <;> rw [q] <;> decide
  obtain ⟨-, -, i3, i4⟩ := it_ct (lo := lo) (hi := hi) hX (by omega : i < 5)
  have nL := n32 (x := itL lo x i) (by omega) (by omega)
  have nH := n32 (x := itH hi y i) (by omega) (by omega)
  refine ⟨hn, by rcases hr with q | q <;> rw [q] <;> decide, by rcases hr with q | q <;> rw [q] <;> decide, (i3 hn).2, fun j hj => ?_⟩
  by_cases e : j = i
  · subst e
    unfold itB
    rw [if_neg h]
    show (upd x j (itL lo x j).toInt32 j).toInt ≤ _ ∧ _ ≤ (upd y j (itH hi y j).toInt32 j).toInt
    rw [pk_us, pk_us, nL, nH]
    omega
  · rw [(i4 j e).1, (i4 j e).2]
    exact hB j hj
/-! sweeps -/
theorem sw_in {M : Nat → Nat → Int32} {rl rh v bl bh : Nat → Int32} (hM : okA M) (hR : okR rl rh) (hS : inR M v rl rh) (hX : okX bl bh) (hB : inB v bl bh) : ∀ t : Nat, t ≤ 3 → ∃ x y n, swS 3 M rl rh bl bh t = (x, y, n, true) ∧ okX x y ∧ inB v x y ∧ 0 ≤ n.toInt ∧ n.toInt ≤ (t : Int)
  | 0, _ => ⟨bl, bh, 0, rfl, hX, hB, by decide, by decide⟩
  | t + 1, ht => by
    obtain ⟨x, y, n, h1, h2, h3, h4, h5⟩ := sw_in hM hR hS hX hB t (by omega)
    by_cases hz : M t t = 0
    · exact ⟨x, y, n + 0, swS_zero h1 hz, h2, h3, by rw [Int32.add_zero]; exact h4, by rw [Int32.add_zero]; omega⟩
    · obtain ⟨c1, c2⟩ := cb_in hM hR hS h2 h3 (by omega : t < 3) hz
      obtain ⟨n1, n2, n3, n4, n5⟩ := it_in h2 h3 (by omega : t < 3) c1 c2
      have e := i_add (x := n) (y := itR (cbLo 3 M rl rh x y t) (cbHi 3 M rl rh x y t) x y t) (by omega) (by omega)
      exact ⟨_, _, _, swS_pos h1 hz n1, n4, n5, by rw [e]; omega, by rw [e]; omega⟩
theorem sw0_in {M : Nat → Nat → Int32} {rl rh v : Nat → Int32} {z : (Nat → Int32) × (Nat → Int32)} (hM : okA M) (hR : okR rl rh) (hS : inR M v rl rh) (hX : okX z.1 z.2) (hB : inB v z.1 z.2) : ∃ x y n, sw0 3 M rl rh z = (n, x, y) ∧ okX x y ∧ inB v x y ∧ 0 ≤ n.toInt := by
  obtain ⟨x, y, n, h1, h2, h3, h4, h5⟩ := sw_in hM hR hS hX hB 3 (Nat.le_refl _)
  refine ⟨x, y, n, ?_, h2, h3, h4⟩
  unfold sw0
  rw [h1]
  exact if_pos rfl
theorem cn_in {M : Nat → Nat → Int32} {rl rh v : Nat → Int32} (hM : okA M) (hR : okR rl rh) (hS : inR M v rl rh) : ∀ r k z, okX z.1 z.2 → inB v z.1 z.2 → 1 ≤ r + k → r + k < 2 ^ 31 → 1 ≤ (cnS (sw0 3 M rl rh) r k z).1.toInt ∧ okX (cnS (sw0 3 M rl rh) r k z).2.1 (cnS (sw0 3 M rl rh) r k z).2.2 ∧ inB v (cnS (sw0 3 M rl rh) r k z).2.1 (cnS (sw0 3 M rl rh) r k z).2.2
  | 0, k, z, hX, hB, h1, h2 => ⟨by show 1 ≤ (nI k).toInt; rw [nI_toInt (by omega)]; omega, hX, hB⟩
  | r + 1, k, z, hX, hB, h1, h2 => by
    obtain ⟨x, y, n, e, a1, a2, a3⟩ := sw0_in hM hR hS hX hB
    have hn : ¬ n < 0 := by
      rw [i_lt]
      have z0 : (0 : Int32).toInt = 0 := rfl
      omega
    rw [cn_S (sw := sw0 3 M rl rh) (r := r) (n := r + 1) (k := k) (z := z) rfl, e]
    dsimp only
    rw [if_neg hn]
    by_cases hz : n = 0
    · rw [if_pos hz]
      exact ⟨by show 1 ≤ (nI (k + 1)).toInt; rw [nI_toInt (by omega)]; omega, a1, a2⟩
    · rw [if_neg hz]
      exact cn_in hM hR hS r (k + 1) (x, y) a1 a2 (by omega) (by omega)
