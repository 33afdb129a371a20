/-! numbers: longs as integers -/
theorem l_nat {x : Nat} (h : x < 2 ^ 63) : (jL x).toInt = (x : Int) := by
  show (Int64.ofNat x).toInt = _
  rw [Int64.toInt_ofNat']
  have hs : Int64.size = 18446744073709551616 := rfl
  exact Int.bmod_eq_of_le (by omega) (by omega)
theorem l_add {x y : Int64} (h1 : -9223372036854775808 ≤ x.toInt + y.toInt) (h2 : x.toInt + y.toInt < 9223372036854775808) : (x + y).toInt = x.toInt + y.toInt := by
  rw [Int64.toInt_add]; exact Int.bmod_eq_of_le (by omega) (by omega)
theorem l_sub {x y : Int64} (h1 : -9223372036854775808 ≤ x.toInt - y.toInt) (h2 : x.toInt - y.toInt < 9223372036854775808) : (x - y).toInt = x.toInt - y.toInt := by
  rw [Int64.toInt_sub]; exact Int.bmod_eq_of_le (by omega) (by omega)
theorem l_mul {x y : Int64} (h1 : -9223372036854775808 ≤ x.toInt * y.toInt) (h2 : x.toInt * y.toInt < 9223372036854775808) : (x * y).toInt = x.toInt * y.toInt := by
  rw [Int64.toInt_mul]; exact Int.bmod_eq_of_le (by omega) (by omega)
theorem l_neg {x : Int64} (h : -9223372036854775808 < x.toInt) : (-x).toInt = -x.toInt := by
  rw [Int64.toInt_neg]; have := Int64.toInt_lt x; exact Int.bmod_eq_of_le (by omega) (by omega)
theorem l_div {x y : Int64} (h : -9223372036854775808 < x.toInt) : (x / y).toInt = x.toInt.tdiv y.toInt := by
  rw [Int64.toInt_div]
  have h2 := Int64.toInt_lt x
  have h3 : (x.toInt.tdiv y.toInt).natAbs ≤ x.toInt.natAbs := by rw [Int.natAbs_tdiv]; exact Nat.div_le_self _ _
  exact Int.bmod_eq_of_le (by omega) (by omega)
theorem l_eq {x y : Int64} : x = y ↔ x.toInt = y.toInt := ⟨fun h => by rw [h], Int64.toInt_inj.mp⟩
theorem l_z {x : Int64} : x = 0 ↔ x.toInt = 0 := by rw [l_eq]; rfl
theorem l_lt {x y : Int64} : x < y ↔ x.toInt < y.toInt := Int64.lt_iff_toInt_lt
theorem l_le {x y : Int64} : x ≤ y ↔ x.toInt ≤ y.toInt := Int64.le_iff_toInt_le
theorem l_abs {x : Int64} (h : 0 ≤ absL x) : (absL x).toInt = (x.toInt.natAbs : Int) ∧ -9223372036854775808 < x.toInt := by
  have h1 := Int64.le_toInt x
  have h9 := l_le.mp h
  unfold absL at h9 ⊢
  by_cases c : 0 < x
  · rw [if_pos c]
    have := l_lt.mp c
    have z : (0 : Int64).toInt = 0 := rfl
    omega
  · rw [if_neg c] at h9 ⊢
    have c2 := mt l_lt.mpr c
    have z : (0 : Int64).toInt = 0 := rfl
    by_cases e : x.toInt = -9223372036854775808
    · rw [Int64.toInt_neg, e] at h9
      exact absurd h9 (by decide)
    · rw [l_neg (by omega)]
      omega
theorem jL_0 {y : Nat} (h : y < 2 ^ 63) : (jL y = 0) ↔ y = 0 := by
  rw [l_z, l_nat h]; omega
theorem jL_rem {x y : Nat} (hx : x < 2 ^ 63) (hy : y < 2 ^ 63) (h0 : ¬ y = 0) : jL x - jL x / jL y * jL y = jL (x % y) := by
  have hd : (jL x / jL y).toInt = ((x / y : Nat) : Int) := by
    rw [l_div (by rw [l_nat hx]; omega), l_nat hx, l_nat hy]
    exact Int.ofNat_tdiv x y
  have hm : (jL x / jL y * jL y).toInt = ((x / y * y : Nat) : Int) := by
    have hb : x / y * y ≤ x := Nat.div_mul_le_self x y
    have e : (jL x / jL y).toInt * (jL y).toInt = ((x / y * y : Nat) : Int) := by rw [hd, l_nat hy]; simp
    rw [l_mul (by rw [e]; omega) (by rw [e]; omega), e]
  have hb : x / y * y ≤ x := Nat.div_mul_le_self x y
  have hr : x % y = x - x / y * y := by
    have := Nat.div_add_mod x y
    rw [Nat.mul_comm] at this
    omega
  have hml : x % y ≤ x := Nat.mod_le x y
  rw [l_eq, l_sub (by rw [hm, l_nat hx]; omega) (by rw [hm, l_nat hx]; omega), hm, l_nat hx, l_nat (by omega), hr]
  omega
theorem clamp_l {x : Int64} (h : 0 ≤ x) : jL x.toNatClampNeg = x ∧ x.toNatClampNeg < 2 ^ 63 := by
  have h1 := l_le.mp h
  have z : (0 : Int64).toInt = 0 := rfl
  have h2 := Int64.toInt_lt x
  have e : ((x.toNatClampNeg : Nat) : Int) = x.toInt := by
    show ((x.toInt.toNat : Nat) : Int) = _
    omega
  have hb : x.toNatClampNeg < 2 ^ 63 := by omega
  exact ⟨by rw [l_eq, l_nat hb, e], hb⟩
theorem gcN_ok {t b : Int64} (h1 : 0 ≤ absL t) (h2 : 0 < absL b) : 0 < Nat.gcd (absL t).toNatClampNeg (absL b).toNatClampNeg ∧ Nat.gcd (absL t).toNatClampNeg (absL b).toNatClampNeg ≤ (absL b).toNatClampNeg ∧ (absL b).toNatClampNeg < 2 ^ 63 ∧ (absL t).toNatClampNeg < 2 ^ 63 ∧ jL (absL t).toNatClampNeg = absL t ∧ jL (absL b).toNatClampNeg = absL b := by
  obtain ⟨e1, e2⟩ := clamp_l h1
  have h3 : 0 ≤ absL b := l_le.mpr (Int.le_of_lt (l_lt.mp h2))
  obtain ⟨e3, e4⟩ := clamp_l h3
  have hp : 0 < (absL b).toNatClampNeg := by
    rcases Nat.eq_zero_or_pos (absL b).toNatClampNeg with q | q
    · rw [q] at e3; rw [← e3] at h2; exact absurd h2 (by decide)
    · exact q
  exact ⟨Nat.gcd_pos_of_pos_right _ hp, Nat.gcd_le_right _ hp, e4, e2, e1, e3⟩
theorem rdD_ne {t b : Int64} (h1 : 0 ≤ absL t) (h2 : 0 < absL b) : ¬ rdD t b = 0 := by
  obtain ⟨g0, g1, g2, g3, g4, g5⟩ := gcN_ok h1 h2
  unfold rdD gcN
  generalize hG : Nat.gcd (absL t).toNatClampNeg (absL b).toNatClampNeg = G at g0 g1 ⊢
  rw [← g5]
  generalize hB : (absL b).toNatClampNeg = B at g0 g1 g2 ⊢
  rw [l_z, l_div (by rw [l_nat g2]; omega), l_nat g2, l_nat (by omega)]
  intro q
  have h9 : ((B / G : Nat) : Int) = 0 := by rw [← q]; exact (Int.ofNat_tdiv B G).symm
  have h8 : 0 < B / G := Nat.div_pos g1 g0
  omega
theorem par_ij : ∀ i, i < 5 → ∀ j, j < 5 → (nI i + nI j - (nI i + nI j) / 2 * 2 = 0 ↔ (i + j) % 2 = 0) := by decide +kernel
theorem feS_succ (N : Nat) (M : Nat → Nat → Int32) (rl rh : Nat → Int32) (i : Nat) (hi : Int32) (k : Nat) : feS N M rl rh i hi (k + 1) = feS N M rl rh i hi k + cofM M N i k * (if feE (cofM M N i k) (detM M N) = hi then rh k else rl k).toInt64 := rfl
theorem rhS_false {N : Nat} {M : Nat → Nat → Int32} {rl rh bl bh x y : Nat → Int32} {t : Nat} (h : rhS N M rl rh bl bh t = (x, y, false)) : ∀ k, rhS N M rl rh bl bh (t + k) = (x, y, false)
  | 0 => h
  | k + 1 => by
    have e : rhS N M rl rh bl bh (t + k + 1) = (match rhS N M rl rh bl bh (t + k) with
      | (x, y, false) => (x, y, false)
      | (x, y, true) => if ctR (hlJ N M rl rh (t + k)) (hhJ N M rl rh (t + k)) x y (t + k) = 0 then (x, y, false) else ((ctB (hlJ N M rl rh (t + k)) (hhJ N M rl rh (t + k)) x y (t + k)).1, (ctB (hlJ N M rl rh (t + k)) (hhJ N M rl rh (t + k)) x y (t + k)).2, true)) := rfl
    rw [show t + (k + 1) = t + k + 1 from rfl, e, rhS_false h k]
theorem rhS_neg {N : Nat} {M : Nat → Nat → Int32} {rl rh bl bh x y : Nat → Int32} {t : Nat} (h : rhS N M rl rh bl bh t = (x, y, true)) (hn : ctR (hlJ N M rl rh t) (hhJ N M rl rh t) x y t = 0) : rhS N M rl rh bl bh (t + 1) = (x, y, false) := by
  unfold rhS
  rw [h]
  exact if_pos hn
theorem rhS_pos {N : Nat} {M : Nat → Nat → Int32} {rl rh bl bh x y : Nat → Int32} {t : Nat} (h : rhS N M rl rh bl bh t = (x, y, true)) (hn : ¬ ctR (hlJ N M rl rh t) (hhJ N M rl rh t) x y t = 0) : rhS N M rl rh bl bh (t + 1) = ((ctB (hlJ N M rl rh t) (hhJ N M rl rh t) x y t).1, (ctB (hlJ N M rl rh t) (hhJ N M rl rh t) x y t).2, true) := by
  unfold rhS
  rw [h]
  exact if_neg hn
theorem al_0 {P : Nat → Prop} {d : Decidable (∀ i, i < 0 → P i)} : (1 : Int32) = if ∀ i, i < 0 → P i then 1 else 0 := (if_pos (fun i h => absurd h (Nat.not_lt_zero i))).symm
theorem al_t {P : Nat → Prop} {n : Nat} {v : Int32} {d : Decidable (∀ i, i < n → P i)} {d2 : Decidable (∀ i, i < n + 1 → P i)} (h : v = if ∀ i, i < n → P i then 1 else 0) (hv : ¬ v = 0) (hp : P n) : (1 : Int32) = if ∀ i, i < n + 1 → P i then 1 else 0 := by
  have ha : ∀ i, i < n → P i := by
    by_cases q : ∀ i, i < n → P i
    · exact q
    · rw [if_neg q] at h; exact absurd h hv
  rw [if_pos (fun i hi => by rcases Nat.lt_or_ge i n with q | q; exact ha i q; rw [show i = n by omega]; exact hp)]
theorem al_f {P : Nat → Prop} {n : Nat} {v : Int32} {d : Decidable (∀ i, i < n → P i)} {d2 : Decidable (∀ i, i < n + 1 → P i)} (h : v = if ∀ i, i < n → P i then 1 else 0) (hv : v = 0 ∨ ¬ P n) : (0 : Int32) = if ∀ i, i < n + 1 → P i then 1 else 0 := by
  rw [if_neg (fun q => by
    rcases hv with hv | hv
    · rw [if_pos (fun i hi => q i (by omega))] at h; exact absurd (h.symm.trans hv) (by decide)
    · exact hv (q n (by omega)))]
theorem al_f2 {P : Nat → Prop} {n : Nat} {v : Int32} {d : Decidable (∀ i, i < n → P i)} {d2 : Decidable (∀ i, i < n + 1 → P i)} (h : v = if ∀ i, i < n → P i then 1 else 0) (hv : ¬ (¬ v = 0 ∧ P n)) : (0 : Int32) = if ∀ i, i < n + 1 → P i then 1 else 0 :=
  al_f h (by by_cases z : v = 0; exact Or.inl z; exact Or.inr (fun q => hv ⟨z, q⟩))
theorem iv_iff {b p q : Int32} : (((-b ≤ p ∧ p ≤ b) ∧ (-b ≤ q ∧ q ≤ b)) ∧ p ≤ q) ↔ ((-b ≤ p ∧ q ≤ b) ∧ p ≤ q) :=
  ⟨fun h => ⟨⟨h.1.1.1, h.1.2.2⟩, h.2⟩, fun h => ⟨⟨⟨h.1.1, Int32.le_trans h.2 h.1.2⟩, ⟨Int32.le_trans h.1.1 h.2, h.1.2⟩⟩, h.2⟩⟩
theorem inv_out {P : Prop} [Decidable P] {r : Int32} {u : (Nat × (Nat → Nat → Int32) × (Nat → Nat → Int32) × (Nat → Int32) × (Nat → Int32) × (Nat → Int32) × (Nat → Int32) × (Nat → Int32) × (Nat → Int32) × (Nat → Int64) × (Nat → Int64) × (Nat → Nat → Int64) × Int64)} {N : Nat} {M S : Nat → Nat → Int32} {rl rh bl bh kl kh : Nat → Int32} {vc : Nat → Int64} {iv : Nat → Nat → Int64} {sc d : Int64} {F : Nat → Nat → Int64}
    (h : (P ∧ r = 0 ∧ ∃ mn1, u = (N, M, S, rl, rh, bl, bh, kl, kh, mn1, vc, iv, sc)) ∨ (¬ P ∧ r = 1 ∧ ∃ mn1 iv1, (∀ i j, i < N → j < N → iv1 i j = F i j) ∧ u = (N, M, S, rl, rh, bl, bh, kl, kh, mn1, vc, iv1, d))) :
    ∃ mn1 iv1 sc1, u = (N, M, S, rl, rh, bl, bh, kl, kh, mn1, vc, iv1, sc1) ∧ r = (if ¬ P then 1 else 0) ∧ (¬ P → (∀ i j, i < N → j < N → iv1 i j = F i j) ∧ sc1 = d) := by
  rcases h with ⟨h1, h2, mn1, h3⟩ | ⟨h1, h2, mn1, iv1, h4, h3⟩
  · exact ⟨mn1, iv, sc, h3, by rw [h2, if_neg (fun q => q h1)], fun q => absurd h1 q⟩
  · exact ⟨mn1, iv1, d, h3, by rw [h2, if_pos h1], fun _ => ⟨h4, rfl⟩⟩
/-! the class's own codes and answers -/
def kAdd0 (N : Nat) (M : Nat → Nat → Int32) (rl rh : Nat → Int32) (p q f : Int32) : Int32 :=
  if ixP N p ∧ ixP N q then (if ¬ p = q ∧ (-99 ≤ f ∧ f ≤ 99) then
    (if (((-999 ≤ rl (ix p) + pLow f (rl (ix q)) (rh (ix q)) ∧ rl (ix p) + pLow f (rl (ix q)) (rh (ix q)) ≤ 999) ∧ (-999 ≤ rh (ix p) + pHigh f (rl (ix q)) (rh (ix q)) ∧ rh (ix p) + pHigh f (rl (ix q)) (rh (ix q)) ≤ 999)) ∧ rl (ix p) + pLow f (rl (ix q)) (rh (ix q)) ≤ rh (ix p) + pHigh f (rl (ix q)) (rh (ix q))) ∧ (∀ t, t < N → (-99 ≤ M (ix p) t + f * M (ix q) t ∧ M (ix p) t + f * M (ix q) t ≤ 99)) then 0 else 3) else 2) else 1
def cdR (M : Nat → Nat → Int32) (i : Nat) : Nat → Int64
  | 0 => 0
  | j + 1 => cdR M i j + (absI (M i j)).toInt64
def cdC (w : Nat → Int64) : Nat → Int64
  | 0 => 0
  | j + 1 => cdC w j + absL (w j)
def cdX (M : Nat → Nat → Int32) (N : Nat) : Nat → Int64
  | 0 => 0
  | i + 1 => maxL (cdX M N i) (cdR M i N)
def cdY (iv : Nat → Nat → Int64) (N : Nat) : Nat → Int64
  | 0 => 0
  | i + 1 => maxL (cdY iv N i) (cdC (iv i) N)
theorem cdC_congr {w w' : Nat → Int64} : ∀ {n : Nat}, (∀ j, j < n → w j = w' j) → cdC w n = cdC w' n
  | 0, _ => rfl
  | n + 1, h => by unfold cdC; rw [cdC_congr (fun j hj => h j (by omega)), h n (by omega)]
theorem cdY_congr {iv iv' : Nat → Nat → Int64} {N : Nat} : ∀ {n : Nat}, (∀ i, i < n → ∀ j, j < N → iv i j = iv' i j) → cdY iv N n = cdY iv' N n
  | 0, _ => rfl
  | n + 1, h => by unfold cdY; rw [cdY_congr (fun i hi => h i (by omega)), cdC_congr (h n (by omega))]
def cdQ (M : Nat → Nat → Int32) (N : Nat) : UInt64 := FP.ddiv (FP.l2d (cdY (ivF M N) N N)) (FP.l2d (absL (detM M N)))
def cdD (M : Nat → Nat → Int32) (N : Nat) : UInt64 := FP.dmul (FP.l2d (cdX M N N)) (cdQ M N)
def dxJ (M S : Nat → Nat → Int32) (i : Nat) : Nat → Int32
  | 0 => 0
  | j + 1 => dxJ M S i j + (if j = i then 100 * absI (M i j) - S i j else -(100 * absI (M i j)) - S i j)
def hl0 (N : Nat) (M : Nat → Nat → Int32) (rl rh : Nat → Int32) (i : Nat) : Int64 := qd (1024 * hul (ivF M N i) rl rh N) (absL (detM M N))
def hh0 (N : Nat) (M : Nat → Nat → Int32) (rl rh : Nat → Int32) (i : Nat) : Int64 := qu (1024 * hul (ivF M N i) rh rl N) (absL (detM M N))
def shS (N : Nat) (M : Nat → Nat → Int32) (rl rh bl bh : Nat → Int32) : Nat → (Nat → Int32) × (Nat → Int32) × Int32 × Bool
  | 0 => (bl, bh, 0, true)
  | i + 1 =>
    match shS N M rl rh bl bh i with
    | (x, y, n, false) => (x, y, n, false)
    | (x, y, n, true) =>
      if itR (hl0 N M rl rh i) (hh0 N M rl rh i) x y i < 0 then (x, y, n, false)
      else ((itB (hl0 N M rl rh i) (hh0 N M rl rh i) x y i).1, (itB (hl0 N M rl rh i) (hh0 N M rl rh i) x y i).2, n + itR (hl0 N M rl rh i) (hh0 N M rl rh i) x y i, true)
theorem shS_false {N : Nat} {M : Nat → Nat → Int32} {rl rh bl bh x y : Nat → Int32} {n : Int32} {t : Nat} (h : shS N M rl rh bl bh t = (x, y, n, false)) : ∀ k, shS N M rl rh bl bh (t + k) = (x, y, n, false)
  | 0 => h
  | k + 1 => by
    show shS N M rl rh bl bh (t + k + 1) = _
    unfold shS
    rw [shS_false h k]
theorem shS_neg {N : Nat} {M : Nat → Nat → Int32} {rl rh bl bh x y : Nat → Int32} {n : Int32} {t : Nat} (h : shS N M rl rh bl bh t = (x, y, n, true)) (hn : itR (hl0 N M rl rh t) (hh0 N M rl rh t) x y t < 0) : shS N M rl rh bl bh (t + 1) = (x, y, n, false) := by
  unfold shS
  rw [h]
  exact if_pos hn
theorem shS_pos {N : Nat} {M : Nat → Nat → Int32} {rl rh bl bh x y : Nat → Int32} {n : Int32} {t : Nat} (h : shS N M rl rh bl bh t = (x, y, n, true)) (hn : ¬ itR (hl0 N M rl rh t) (hh0 N M rl rh t) x y t < 0) : shS N M rl rh bl bh (t + 1) = ((itB (hl0 N M rl rh t) (hh0 N M rl rh t) x y t).1, (itB (hl0 N M rl rh t) (hh0 N M rl rh t) x y t).2, n + itR (hl0 N M rl rh t) (hh0 N M rl rh t) x y t, true) := by
  unfold shS
  rw [h]
  exact if_neg hn
def sh0 (N : Nat) (M : Nat → Nat → Int32) (rl rh : Nat → Int32) (z : (Nat → Int32) × (Nat → Int32)) : Int32 × (Nat → Int32) × (Nat → Int32) :=
  if (shS N M rl rh z.1 z.2 N).2.2.2 = true then ((shS N M rl rh z.1 z.2 N).2.2.1, (shS N M rl rh z.1 z.2 N).1, (shS N M rl rh z.1 z.2 N).2.1) else (-1, z.1, z.2)
theorem sw0_1 {N : Nat} {M : Nat → Nat → Int32} {rl rh bl bh : Nat → Int32} : (if (swS N M rl rh bl bh N).2.2.2 = true then (swS N M rl rh bl bh N).2.2.1 else -1) = (sw0 N M rl rh (bl, bh)).1 := by
  unfold sw0; show _ = (if (swS N M rl rh bl bh N).2.2.2 = true then _ else _ : Int32 × (Nat → Int32) × (Nat → Int32)).1; split <;> rfl
theorem sw0_2 {N : Nat} {M : Nat → Nat → Int32} {rl rh bl bh : Nat → Int32} : (if (swS N M rl rh bl bh N).2.2.2 = true then (swS N M rl rh bl bh N).1 else bl) = (sw0 N M rl rh (bl, bh)).2.1 := by
  unfold sw0; show _ = (if (swS N M rl rh bl bh N).2.2.2 = true then _ else _ : Int32 × (Nat → Int32) × (Nat → Int32)).2.1; split <;> rfl
theorem sw0_3 {N : Nat} {M : Nat → Nat → Int32} {rl rh bl bh : Nat → Int32} : (if (swS N M rl rh bl bh N).2.2.2 = true then (swS N M rl rh bl bh N).2.1 else bh) = (sw0 N M rl rh (bl, bh)).2.2 := by
  unfold sw0; show _ = (if (swS N M rl rh bl bh N).2.2.2 = true then _ else _ : Int32 × (Nat → Int32) × (Nat → Int32)).2.2; split <;> rfl
theorem vecL_upd (vc : Nat → Int64) (p0 p1 p2 p3 p4 : Int32) : ∀ j, j < 5 → vp_updL (vp_updL (vp_updL (vp_updL (vp_updL vc 0 p0.toInt64) 1 p1.toInt64) 2 p2.toInt64) 3 p3.toInt64) 4 p4.toInt64 j = (vec5 p0 p1 p2 p3 p4 j).toInt64 := fun j hj => lt5 (P := fun j => vp_updL (vp_updL (vp_updL (vp_updL (vp_updL vc 0 p0.toInt64) 1 p1.toInt64) 2 p2.toInt64) 3 p3.toInt64) 4 p4.toInt64 j = (vec5 p0 p1 p2 p3 p4 j).toInt64) rfl rfl rfl rfl rfl hj
