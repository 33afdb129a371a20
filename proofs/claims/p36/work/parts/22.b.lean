/-! bits of small numbers -/
theorem bt_shl : ∀ j, j < 6 → (1 : Int32) <<< (nI j &&& 31) = nI (2 ^ j) := by decide +kernel
theorem bt_and : ∀ m, m < 32 → ∀ j, j < 5 → (nI m &&& nI (2 ^ j) = 0 ↔ m.testBit j = false) := by decide +kernel
theorem bt_xor : ∀ m, m < 32 → ∀ j, j < 5 → nI m ^^^ nI (2 ^ j) = nI (m ^^^ 2 ^ j) := by decide +kernel
theorem bt_xlt : ∀ m, m < 32 → ∀ j, j < 5 → m ^^^ 2 ^ j < 32 := by decide +kernel
theorem bt_all : ∀ N, N < 6 → (1 : Int32) <<< (nI N &&& 31) - 1 = nI (2 ^ N - 1) := by decide +kernel
theorem bt_p2 : ∀ N, N < 6 → 2 ^ N ≤ 32 := by decide
theorem bt_p1 (N : Nat) : 1 ≤ 2 ^ N := Nat.one_le_two_pow
def bcE (x : Int32) : Int32 :=
  let a := x - ((x.toUInt32 >>> ((1 : Int32).toUInt32 &&& Int32.toUInt32 31)).toInt32 &&& 1431655765)
  let b := (a &&& 858993459) + ((a.toUInt32 >>> ((2 : Int32).toUInt32 &&& Int32.toUInt32 31)).toInt32 &&& 858993459)
  let c := (b + (b.toUInt32 >>> ((4 : Int32).toUInt32 &&& Int32.toUInt32 31)).toInt32) &&& 252645135
  let d := c + (c.toUInt32 >>> ((8 : Int32).toUInt32 &&& Int32.toUInt32 31)).toInt32
  let e := d + (d.toUInt32 >>> ((16 : Int32).toUInt32 &&& Int32.toUInt32 31)).toInt32
  e &&& 63
theorem bcE_small : ∀ c, c < 32 → bcE (nI c) = nI (pop5 c) := by decide +kernel
theorem pop5_pos : ∀ c, c < 32 → 0 < c → 0 < pop5 c := by decide +kernel
theorem pop5_le : ∀ c, pop5 c ≤ 5 := fun c => by unfold pop5; omega
theorem pop5_lt : ∀ N, N < 6 → ∀ c, c < 2 ^ N → pop5 c ≤ N := by decide +kernel
theorem zi0 {P : Prop} {dP : Decidable P} : (if P then (1 : Int32) else 0) = 0 ↔ ¬ P := by by_cases h : P <;> simp [h]
theorem zi1 {P : Prop} {dP : Decidable P} : ¬ (if P then (1 : Int32) else 0) = 0 ↔ P := by by_cases h : P <;> simp [h]
theorem cd_lt : ∀ t, t < 6 → (nI t - 1 < 0 ↔ t = 0) := by decide +kernel
theorem cd_pred {t : Nat} (h : 0 < t) : nI t - 1 = nI (t - 1) := by
  obtain ⟨n, rfl⟩ : ∃ n, t = n + 1 := ⟨t - 1, by omega⟩
  exact nI_pred n
theorem cd_dec (x : Int32) : x + Int32.ofInt (-1) = x - 1 := by rw [Int32.sub_eq_add_neg]; rfl
theorem xor_lt_of_bit {c j : Nat} (h : c.testBit j = true) : c ^^^ 2 ^ j < c := by
  have h1 : c ^^^ 2 ^ j ≤ c := Nat.le_of_testBit (fun i hi => by
    by_cases e : i = j
    · rw [e]; exact h
    · rw [Nat.testBit_xor, Nat.testBit_two_pow_of_ne (fun q => e q.symm), Bool.xor_false] at hi
      exact hi)
  have h2 : c ^^^ 2 ^ j ≠ c := fun e => by
    have h3 := congrArg (fun z => Nat.testBit z j) e
    simp only [Nat.testBit_xor, h, Nat.testBit_two_pow_self] at h3
    exact absurd h3 (by decide)
  omega
theorem exS_congr {M : Nat → Nat → Int32} {mn mn' : Nat → Int64} {N row cols : Nat} (h : ∀ c, c < cols → mn c = mn' c) : ∀ k, exS M mn N row cols k = exS M mn' N row cols k
  | 0 => rfl
  | k + 1 => by
    unfold exS
    rw [exS_congr h k]
    by_cases hb : cols.testBit (N - k - 1) = true
    · rw [if_pos hb, if_pos hb, h _ (xor_lt_of_bit hb)]
    · rw [if_neg hb, if_neg hb]
theorem mnG_congr (M : Nat → Nat → Int32) (mn mn' : Nat → Int64) (N skip : Nat) : ∀ K c, c ≤ K → mnG M mn N skip K c = mnG M mn' N skip K c
  | 0, c, h => by
    have e : c = 0 := by omega
    subst e
    simp [mnG, vp_updL]
  | K + 1, c, h => by
    unfold mnG vp_updL
    by_cases e : c = K + 1
    · rw [if_pos e, if_pos e, exS_congr (fun d hd => mnG_congr M mn mn' N skip K d (by omega))]
    · rw [if_neg e, if_neg e]
      exact mnG_congr M mn mn' N skip K c (by omega)
theorem gcS_stay {a b : Int64} {k : Nat} (h : (gcS a b k).2 = 0) : ∀ n, gcS a b (k + n) = gcS a b k
  | 0 => rfl
  | n + 1 => by
    have e : gcS a b (k + n + 1) = if (gcS a b (k + n)).2 = 0 then gcS a b (k + n) else ((gcS a b (k + n)).2, (gcS a b (k + n)).1 - (gcS a b (k + n)).1 / (gcS a b (k + n)).2 * (gcS a b (k + n)).2) := rfl
    show gcS a b (k + n + 1) = _
    rw [e, gcS_stay h n, if_pos h]
theorem ivJ_at (M : Nat → Nat → Int32) (N : Nat) (s : Int64) (i : Nat) (iv : Nat → Nat → Int64) : ∀ J r c, ivJ M N s i iv J r c = if c = i ∧ r < J then sgS s r * mnF M N i ((2 ^ N - 1) ^^^ 2 ^ r) else iv r c
  | 0, r, c => by simp [ivJ]
  | J + 1, r, c => by
    unfold ivJ up2
    rw [ivJ_at M N s i iv J r c]
    by_cases h : r = J ∧ c = i
    · obtain ⟨rfl, rfl⟩ := h
      simp
    · by_cases hc : c = i
      · have hr : r ≠ J := fun q => h ⟨q, hc⟩
        have e1 : (r < J + 1) = (r < J) := propext ⟨fun q => by omega, fun q => by omega⟩
        simp [hc, hr, e1]
      · simp [hc]
theorem ivI_at (M : Nat → Nat → Int32) (N : Nat) (iv : Nat → Nat → Int64) : ∀ I r c, r < N → c < I → ivI M N iv I r c = ivF M N r c
  | 0, r, c, _, h => absurd h (Nat.not_lt_zero c)
  | I + 1, r, c, hr, hc => by
    show ivJ M N (sg0 (detM M N) I) I (ivI M N iv I) N r c = _
    rw [ivJ_at]
    by_cases e : c = I
    · subst e
      rw [if_pos ⟨rfl, hr⟩]
      rfl
    · rw [if_neg (fun q => e q.1)]
      exact ivI_at M N iv I r c hr (by omega)
theorem hul_congr {w w' : Nat → Int64} {x y : Nat → Int32} : ∀ {n : Nat}, (∀ j, j < n → w j = w' j) → hul w x y n = hul w' x y n
  | 0, _ => rfl
  | n + 1, h => by unfold hul; rw [hul_congr (fun j hj => h j (by omega)), h n (by omega)]
theorem svJ_congr {w w' : Int64} {sp : Nat → Int32} {s s' : Int64} (hw : w = w') (hs : s = s') (n : Nat) : svJ w sp s n = svJ w' sp s' n := by rw [hw, hs]
theorem svK_congr {w w' : Nat → Int64} {S : Nat → Nat → Int32} {N : Nat} : ∀ {n : Nat}, (∀ j, j < n → w j = w' j) → svK w S N n = svK w' S N n
  | 0, _ => rfl
  | n + 1, h => by unfold svK; rw [svK_congr (fun j hj => h j (by omega)), h n (by omega)]
theorem svI_congr {iv iv' : Nat → Nat → Int64} {S : Nat → Nat → Int32} {N : Nat} : ∀ {n : Nat}, (∀ i, i < n → ∀ j, j < N → iv i j = iv' i j) → svI iv S N n = svI iv' S N n
  | 0, _ => rfl
  | n + 1, h => by unfold svI; rw [svI_congr (fun i hi => h i (by omega)), svK_congr (h n (by omega))]
theorem cp_back {f g h : Nat → Int32} (hh : ∀ j, 5 ≤ j → h j = f j) : va_cpy (va_cpy f g 0 0 5) h 0 0 5 = f := by
  funext j
  unfold va_cpy
  by_cases h1 : j < 5
  · simp [h1]
  · have h2 : ¬ (0 ≤ j ∧ j < 0 + 5) := by omega
    rw [if_neg h2]
    exact hh j (by omega)
theorem itB_out {lo hi : Int64} {bl bh : Nat → Int32} {i : Nat} (hi5 : i < 5) : ∀ j, 5 ≤ j → (itB lo hi bl bh i).1 j = bl j ∧ (itB lo hi bl bh i).2 j = bh j := fun j hj => by
  unfold itB
  by_cases h : itH hi bh i < itL lo bl i
  · rw [if_pos h]; exact ⟨rfl, rfl⟩
  · rw [if_neg h]
    exact ⟨if_neg (by omega), if_neg (by omega)⟩
theorem itB_neg {lo hi : Int64} {bl bh : Nat → Int32} {i : Nat} (h : itR lo hi bl bh i < 0) : itB lo hi bl bh i = (bl, bh) := by
  unfold itB
  by_cases h1 : itH hi bh i < itL lo bl i
  · rw [if_pos h1]
  · unfold itR at h
    rw [if_neg h1] at h
    by_cases h2 : itL lo bl i = (bl i).toInt64 ∧ itH hi bh i = (bh i).toInt64
    · rw [if_pos h2] at h; exact absurd h (by decide)
    · rw [if_neg h2] at h; exact absurd h (by decide)
theorem swS_false {N : Nat} {M : Nat → Nat → Int32} {rl rh bl bh x y : Nat → Int32} {n : Int32} {t : Nat} (h : swS N M rl rh bl bh t = (x, y, n, false)) : ∀ k, swS N M rl rh bl bh (t + k) = (x, y, n, false)
  | 0 => h
  | k + 1 => by
    have e : swS N M rl rh bl bh (t + k + 1) = _ := rfl
    show swS N M rl rh bl bh (t + k + 1) = _
    unfold swS
    rw [swS_false h k]
theorem swS_zero {N : Nat} {M : Nat → Nat → Int32} {rl rh bl bh x y : Nat → Int32} {n : Int32} {t : Nat} (h : swS N M rl rh bl bh t = (x, y, n, true)) (hz : M t t = 0) : swS N M rl rh bl bh (t + 1) = (x, y, n + 0, true) := by
  unfold swS
  rw [h]
  exact if_pos hz
theorem swS_neg {N : Nat} {M : Nat → Nat → Int32} {rl rh bl bh x y : Nat → Int32} {n : Int32} {t : Nat} (h : swS N M rl rh bl bh t = (x, y, n, true)) (hz : ¬ M t t = 0) (hn : itR (cbLo N M rl rh x y t) (cbHi N M rl rh x y t) x y t < 0) : swS N M rl rh bl bh (t + 1) = (x, y, n, false) := by
  unfold swS
  rw [h]
  show (if M t t = 0 then _ else if _ then _ else _) = _
  rw [if_neg hz, if_pos hn]
theorem swS_pos {N : Nat} {M : Nat → Nat → Int32} {rl rh bl bh x y : Nat → Int32} {n : Int32} {t : Nat} (h : swS N M rl rh bl bh t = (x, y, n, true)) (hz : ¬ M t t = 0) (hn : ¬ itR (cbLo N M rl rh x y t) (cbHi N M rl rh x y t) x y t < 0) : swS N M rl rh bl bh (t + 1) = ((itB (cbLo N M rl rh x y t) (cbHi N M rl rh x y t) x y t).1, (itB (cbLo N M rl rh x y t) (cbHi N M rl rh x y t) x y t).2, n + itR (cbLo N M rl rh x y t) (cbHi N M rl rh x y t) x y t, true) := by
  unfold swS
  rw [h]
  show (if M t t = 0 then _ else if _ then _ else _) = _
  rw [if_neg hz, if_neg hn]
theorem i2r : ∀ i, i < 5 → (nI i - nI i / 2 * 2 = 0 ↔ i % 2 = 0) := by decide +kernel
theorem ixP_at {N : Nat} {p : Int32} (hN : N ≤ 5) (h : ixP N p) : p = nI (ix p) ∧ ix p < N := by
  obtain ⟨j, hj, e⟩ := nI_of (x := p) (Int32.not_lt.mpr h.1)
  have h2 := h.2
  rw [e] at h2
  have h3 := (nI_ltI hj (by omega)).mp h2
  have h4 : ix p = j := by unfold ix; rw [e]; exact nI_clamp hj
  exact ⟨by rw [h4]; exact e, by omega⟩
theorem at_eq {p q : Int32} {i j : Nat} (h0 : p = nI i) (h1 : q = nI j) : 5 * p + q = nI (5 * i + j) := by
  rw [h0, h1, ← nI_add, ← pk_mul]
  rfl
theorem kSize_at {p : Int32} (h1 : 1 ≤ p) (h2 : p ≤ 5) : p = nI (ix p) ∧ (1 ≤ ix p ∧ ix p ≤ 5) := by
  obtain ⟨j, hj, e⟩ := nI_of (x := p) (Int32.not_lt.mpr (Int32.le_trans (by decide) h1))
  have h4 : ix p = j := by unfold ix; rw [e]; exact nI_clamp hj
  rw [e] at h1 h2
  have h5 := (nI_leI (a := 1) (b := j) (by omega) hj).mp h1
  have h6 := (nI_leI (a := j) (b := 5) hj (by omega)).mp h2
  exact ⟨by rw [h4]; exact e, by omega⟩
theorem toInt64_eq0 {x : Int32} (h : x.toInt64 = 0) : x = 0 := by
  have h2 := congrArg Int64.toInt h
  rw [Int32.toInt_toInt64] at h2
  exact Int32.toInt_inj.mp h2
theorem ctR_01 (lo hi : Int64) (bl bh : Nat → Int32) (i : Nat) : ctR lo hi bl bh i = 0 ∨ ctR lo hi bl bh i = 1 := by
  unfold ctR
  by_cases h : ctH bh i hi < ctL bl i lo
  · rw [if_pos h]; exact Or.inl rfl
  · rw [if_neg h]; exact Or.inr rfl
theorem ctB_out {lo hi : Int64} {bl bh : Nat → Int32} {i n : Nat} (hi5 : i < n) : ∀ j, n ≤ j → (ctB lo hi bl bh i).1 j = bl j ∧ (ctB lo hi bl bh i).2 j = bh j := fun j hj => by
  unfold ctB
  by_cases h : ctH bh i hi < ctL bl i lo
  · rw [if_pos h]; exact ⟨rfl, rfl⟩
  · rw [if_neg h]
    exact ⟨if_neg (by omega), if_neg (by omega)⟩
theorem ctB_neg {lo hi : Int64} {bl bh : Nat → Int32} {i : Nat} (h : ctR lo hi bl bh i = 0) : ctB lo hi bl bh i = (bl, bh) := by
  unfold ctB
  by_cases h1 : ctH bh i hi < ctL bl i lo
  · rw [if_pos h1]
  · unfold ctR at h
    rw [if_neg h1] at h
    exact absurd h (by decide)
theorem cyV_in (f g : Nat → Int32) : ∀ n j, j < n → cyV f g n j = f j
  | 0, j, h => absurd h (Nat.not_lt_zero j)
  | n + 1, j, h => by
    unfold cyV upd
    by_cases e : j = n
    · rw [if_pos e, e]
    · rw [if_neg e]; exact cyV_in f g n j (by omega)
theorem cyV_out (f g : Nat → Int32) : ∀ n j, n ≤ j → cyV f g n j = g j
  | 0, j, h => rfl
  | n + 1, j, h => by
    unfold cyV upd
    rw [if_neg (by omega)]
    exact cyV_out f g n j (by omega)
theorem cyV_back {f g h : Nat → Int32} {n : Nat} (hh : ∀ j, n ≤ j → h j = f j) : cyV (cyV f g n) h n = f := by
  funext j
  by_cases h1 : j < n
  · rw [cyV_in _ _ n j h1, cyV_in _ _ n j h1]
  · rw [cyV_out _ _ n j (by omega)]
    exact hh j (by omega)
theorem jdC_congr {x y f f' g g' : Nat → Int32} : ∀ {n : Nat}, (∀ j, j < n → f j = f' j ∧ g j = g' j) → jdC x y f g n = jdC x y f' g' n
  | 0, _ => rfl
  | n + 1, h => by
    unfold jdC
    rw [jdC_congr (fun j hj => h j (by omega)), (h n (by omega)).1, (h n (by omega)).2]
theorem rsS_false {N : Nat} {M : Nat → Nat → Int32} {rl rh bl bh x y : Nat → Int32} {t : Nat} (h : rsS N M rl rh bl bh t = (x, y, false)) : ∀ k, rsS N M rl rh bl bh (t + k) = (x, y, false)
  | 0 => h
  | k + 1 => by
    show rsS N M rl rh bl bh (t + k + 1) = _
    unfold rsS
    rw [rsS_false h k]
theorem rsS_zero {N : Nat} {M : Nat → Nat → Int32} {rl rh bl bh x y : Nat → Int32} {t : Nat} (h : rsS N M rl rh bl bh t = (x, y, true)) (hz : M t t = 0) : rsS N M rl rh bl bh (t + 1) = (x, y, true) := by
  unfold rsS
  rw [h]
  exact if_pos hz
theorem rsS_neg {N : Nat} {M : Nat → Nat → Int32} {rl rh bl bh x y : Nat → Int32} {t : Nat} (h : rsS N M rl rh bl bh t = (x, y, true)) (hz : ¬ M t t = 0) (hn : ctR (crLo N M rl rh x y t) (crHi N M rl rh x y t) x y t = 0) : rsS N M rl rh bl bh (t + 1) = (x, y, false) := by
  unfold rsS
  rw [h]
  show (if M t t = 0 then _ else if _ then _ else _) = _
  rw [if_neg hz, if_pos hn]
theorem rsS_pos {N : Nat} {M : Nat → Nat → Int32} {rl rh bl bh x y : Nat → Int32} {t : Nat} (h : rsS N M rl rh bl bh t = (x, y, true)) (hz : ¬ M t t = 0) (hn : ¬ ctR (crLo N M rl rh x y t) (crHi N M rl rh x y t) x y t = 0) : rsS N M rl rh bl bh (t + 1) = ((ctB (crLo N M rl rh x y t) (crHi N M rl rh x y t) x y t).1, (ctB (crLo N M rl rh x y t) (crHi N M rl rh x y t) x y t).2, true) := by
  unfold rsS
  rw [h]
  show (if M t t = 0 then _ else if _ then _ else _) = _
  rw [if_neg hz, if_neg hn]
theorem slS_congr {M : Nat → Nat → Int32} {x x' : Nat → Int64} {i : Nat} : ∀ {n : Nat}, (∀ j, j < n → x j = x' j) → slS M x i n = slS M x' i n
  | 0, _ => rfl
  | n + 1, h => by unfold slS; rw [slS_congr (fun j hj => h j (by omega)), h n (by omega)]
theorem solR_congr {N : Nat} {M : Nat → Nat → Int32} {rl rh : Nat → Int32} {x x' : Nat → Int64} (h : ∀ j, j < N → x j = x' j) : solR N M rl rh x = solR N M rl rh x' := by
  unfold solR
  have e : ∀ i, slS M x i N = slS M x' i N := fun i => slS_congr h
  simp only [e]
theorem kCon_at {p : Int32} (h1 : 1 ≤ p) (h2 : p ≤ 1000) : p = nI (ix p) ∧ (1 ≤ ix p ∧ ix p ≤ 1000) := by
  obtain ⟨j, hj, e⟩ := nI_of (x := p) (Int32.not_lt.mpr (Int32.le_trans (by decide) h1))
  have h4 : ix p = j := by unfold ix; rw [e]; exact nI_clamp hj
  rw [e] at h1 h2
  have h5 := (nI_leI (a := 1) (b := j) (by omega) hj).mp h1
  have h6 := (nI_leI (a := j) (b := 1000) hj (by omega)).mp h2
  exact ⟨by rw [h4]; exact e, by omega⟩
theorem cn_S {sw : (Nat → Int32) × (Nat → Int32) → Int32 × (Nat → Int32) × (Nat → Int32)} {r n k : Nat} {z : (Nat → Int32) × (Nat → Int32)} (h : n = r + 1) : cnS sw n k z = if (sw z).1 < 0 then (-(nI (k + 1)), (sw z).2) else if (sw z).1 = 0 then (nI (k + 1), (sw z).2) else cnS sw r (k + 1) (sw z).2 := by
  subst h
  rfl
theorem vec5_upd (p0 p1 p2 p3 p4 : Int32) : ∀ j, j < 5 → (upd (upd (upd (upd (upd (fun _ => 0) 0 p0) 1 p1) 2 p2) 3 p3) 4 p4 : Nat → Int32) j = vec5 p0 p1 p2 p3 p4 j := fun j hj => lt5 (P := fun j => (upd (upd (upd (upd (upd (fun _ => 0) 0 p0) 1 p1) 2 p2) 3 p3) 4 p4 : Nat → Int32) j = vec5 p0 p1 p2 p3 p4 j) rfl rfl rfl rfl rfl hj
theorem vec5_updL (vc : Nat → Int64) (p0 p1 p2 p3 p4 : Int32) : ∀ j, j < 5 → (vp_updL (vp_updL (vp_updL (vp_updL (vp_updL vc 0 p0.toInt64) 1 p1.toInt64) 2 p2.toInt64) 3 p3.toInt64) 4 p4.toInt64 : Nat → Int64) j = (vec5 p0 p1 p2 p3 p4 j).toInt64 := fun j hj => lt5 (P := fun j => (vp_updL (vp_updL (vp_updL (vp_updL (vp_updL vc 0 p0.toInt64) 1 p1.toInt64) 2 p2.toInt64) 3 p3.toInt64) 4 p4.toInt64 : Nat → Int64) j = (vec5 p0 p1 p2 p3 p4 j).toInt64) rfl rfl rfl rfl rfl hj
theorem all_s {P : Nat → Prop} {n : Nat} {v : Int32} {d : ∀ n, Decidable (∀ t, t < n → P t)} (h : v = if ∀ t, t < n → P t then 1 else 0) (hv : ¬ v = 0) (hn : P n) : (1 : Int32) = if ∀ t, t < n + 1 → P t then 1 else 0 := by
  rw [if_pos]
  rw [h] at hv
  have h2 := zi1.mp hv
  exact lt_s h2 hn
theorem all_f {P : Nat → Prop} {n : Nat} {v : Int32} {d : ∀ n, Decidable (∀ t, t < n → P t)} (h : v = if ∀ t, t < n → P t then 1 else 0) (hv : v = 0 ∨ ¬ P n) : (0 : Int32) = if ∀ t, t < n + 1 → P t then 1 else 0 := by
  rw [if_neg]
  intro q
  rcases hv with hv | hv
  · rw [h] at hv
    exact zi0.mp hv (fun t ht => q t (by omega))
  · exact hv (q n (by omega))
theorem swpV_fl5 (M : Nat → Nat → Int32) (i k j : Nat) (hj : j < 5) : swpV (fl5 M) (5 * i + j) (5 * k + j) = fl5 (up2 (up2 M i j (M k j)) k j (M i j)) := by
  unfold swpV
  rw [fl5_at M i j hj, fl5_at M k j hj, fl5_up _ _ _ _ hj, fl5_up _ _ _ _ hj]
theorem fit_0 {R : Prop} {P : Nat → Prop} {v : Int32} {d : Decidable R} {d2 : Decidable (R ∧ ∀ t, t < 0 → P t)} (h : v = if R then 1 else 0) : v = if R ∧ ∀ t, t < 0 → P t then 1 else 0 := by
  rw [h]
  by_cases q : R
  · rw [if_pos q, if_pos ⟨q, fun t ht => absurd ht (Nat.not_lt_zero t)⟩]
  · rw [if_neg q, if_neg (fun z => q z.1)]
theorem fit_s {R : Prop} {P : Nat → Prop} {n : Nat} {v : Int32} {d : ∀ n, Decidable (R ∧ ∀ t, t < n → P t)} (h : v = if R ∧ ∀ t, t < n → P t then 1 else 0) (hv : ¬ v = 0) (hn : P n) : (1 : Int32) = if R ∧ ∀ t, t < n + 1 → P t then 1 else 0 := by
  rw [h] at hv
  have h2 := zi1.mp hv
  rw [if_pos ⟨h2.1, lt_s h2.2 hn⟩]
theorem fit_f {R : Prop} {P : Nat → Prop} {n : Nat} {v : Int32} {d : ∀ n, Decidable (R ∧ ∀ t, t < n → P t)} (h : v = if R ∧ ∀ t, t < n → P t then 1 else 0) (hv : v = 0 ∨ ¬ P n) : (0 : Int32) = if R ∧ ∀ t, t < n + 1 → P t then 1 else 0 := by
  rw [if_neg]
  intro q
  rcases hv with hv | hv
  · rw [h] at hv
    exact zi0.mp hv ⟨q.1, fun t ht => q.2 t (by omega)⟩
  · exact hv (q.2 n (by omega))
theorem fit_no {R : Prop} {v : Int32} {d : Decidable R} (h : v = if R then 1 else 0) (hv : v = 0) : ¬ R := by rw [h] at hv; exact zi0.mp hv
theorem fit_yes {R : Prop} {v : Int32} {d : Decidable R} (h : v = if R then 1 else 0) (hv : ¬ v = 0) : R := by rw [h] at hv; exact zi1.mp hv
theorem mnG_stable (M : Nat → Nat → Int32) (mn : Nat → Int64) (N skip : Nat) : ∀ K c, c ≤ K → mnG M mn N skip K c = mnG M mn N skip c c
  | 0, c, h => by
    have e : c = 0 := by omega
    subst e; rfl
  | K + 1, c, h => by
    by_cases e : c = K + 1
    · subst e; rfl
    · have e2 : mnG M mn N skip (K + 1) c = mnG M mn N skip K c := if_neg e
      rw [e2]
      exact mnG_stable M mn N skip K c (by omega)
theorem mnF_0 (M : Nat → Nat → Int32) (N skip : Nat) : mnF M N skip 0 = 1 := by
  unfold mnF
  rw [mnG_stable M _ N skip _ 0 (Nat.zero_le _)]
  rfl
theorem mnF_eq (M : Nat → Nat → Int32) (N skip : Nat) {c : Nat} (h0 : 0 < c) (hc : c ≤ 2 ^ N - 1) : mnF M N skip c = if rowOf skip c < N then (exS M (mnF M N skip) N (rowOf skip c) c N).1 else 0 := by
  obtain ⟨k, rfl⟩ : ∃ k, c = k + 1 := ⟨c - 1, by omega⟩
  have e : mnF M N skip (k + 1) = mnG M (fun _ => 0) N skip (k + 1) (k + 1) := mnG_stable M _ N skip _ _ hc
  rw [e]
  show (if (k + 1) = (k + 1) then _ else _) = _
  rw [if_pos rfl]
  rw [exS_congr (mn := mnG M (fun _ => 0) N skip k) (mn' := mnF M N skip) (fun d hd => by
    unfold mnF
    rw [mnG_stable M _ N skip k d (by omega), mnG_stable M _ N skip (2 ^ N - 1) d (by omega)])]
theorem exS_congr2 {M : Nat → Nat → Int32} {mn mn' : Nat → Int64} {N row cols : Nat} (h : ∀ j, j < N → cols.testBit j = true → mn (cols ^^^ 2 ^ j) = mn' (cols ^^^ 2 ^ j)) : ∀ k, k ≤ N → exS M mn N row cols k = exS M mn' N row cols k
  | 0, _ => rfl
  | k + 1, hk => by
    unfold exS
    rw [exS_congr2 h k (by omega)]
    by_cases hb : cols.testBit (N - k - 1) = true
    · rw [if_pos hb, if_pos hb, h _ (by omega) hb]
    · rw [if_neg hb, if_neg hb]
theorem pop5_half : ∀ m, m < 32 → pop5 m = m % 2 + pop5 (m / 2) := by decide +kernel
def sgp (k : Nat) : Int64 := if k % 2 = 0 then 1 else -1
theorem sgp_neg (k : Nat) : -(sgp k) = sgp (k + 1) := by
  unfold sgp
  by_cases h : k % 2 = 0
  · rw [if_pos h, if_neg (by omega)]
  · rw [if_neg h, if_pos (by omega)]; rfl
theorem bit_mod (m t : Nat) : (m.testBit t = true) ↔ m / 2 ^ t % 2 = 1 := by
  rw [Nat.testBit_eq_decide_div_mod_eq]; simp
theorem div_half (m t : Nat) : m / 2 ^ (t + 1) = m / 2 ^ t / 2 := by rw [Nat.pow_succ, Nat.div_div_eq_div_mul]
theorem pop_step {m t : Nat} (hm : m < 32) : pop5 (m / 2 ^ t) = m / 2 ^ t % 2 + pop5 (m / 2 ^ (t + 1)) := by
  rw [div_half]
  exact pop5_half _ (Nat.lt_of_le_of_lt (Nat.div_le_self _ _) hm)
theorem exS_sgn {M : Nat → Nat → Int32} {mn : Nat → Int64} {N row cols : Nat} (hc : cols < 2 ^ N) (hm : cols < 32) : ∀ k, k ≤ N → (exS M mn N row cols k).2 = sgp (pop5 (cols / 2 ^ (N - k)))
  | 0, _ => by
    rw [Nat.sub_zero, Nat.div_eq_of_lt hc]
    rfl
  | k + 1, hk => by
    have ih := exS_sgn (M := M) (mn := mn) (row := row) hc hm k (by omega)
    have e : N - k = N - (k + 1) + 1 := by omega
    have e2 := pop_step (t := N - (k + 1)) hm
    rw [← e] at e2
    unfold exS
    by_cases hb : cols.testBit (N - k - 1) = true
    · rw [if_pos hb]
      show -(exS M mn N row cols k).2 = _
      have hb2 := (bit_mod _ _).mp hb
      rw [show N - k - 1 = N - (k + 1) by omega] at hb2
      rw [ih, sgp_neg, e2, hb2, Nat.add_comm]
    · rw [if_neg hb, ih]
      have hb2 := mt (bit_mod _ _).mpr hb
      rw [show N - k - 1 = N - (k + 1) by omega] at hb2
      rw [e2, show cols / 2 ^ (N - (k + 1)) % 2 = 0 by omega, Nat.zero_add]
theorem sgp_mul (k : Nat) (x y : Int64) : sgp k * x * y = if k % 2 = 0 then x * y else -(x * y) := by
  unfold sgp
  by_cases h : k % 2 = 0
  · rw [if_pos h, if_pos h, Int64.one_mul]
  · rw [if_neg h, if_neg h, Int64.neg_mul, Int64.neg_mul, Int64.one_mul]
theorem exS_succ (M : Nat → Nat → Int32) (mn : Nat → Int64) (N row cols c : Nat) : exS M mn N row cols (c + 1) = if cols.testBit (N - c - 1) then ((exS M mn N row cols c).1 + (exS M mn N row cols c).2 * (M row (N - c - 1)).toInt64 * mn (cols ^^^ 2 ^ (N - c - 1)), -(exS M mn N row cols c).2) else exS M mn N row cols c := rfl
theorem psS_succ (M : Nat → Nat → Int32) (pt : Nat → Int64) (i mask j : Nat) : psS M pt i mask (j + 1) = if mask.testBit j then psS M pt i mask j + (if pop5 (mask / 2 ^ (j + 1)) % 2 = 0 then (M i j).toInt64 * pt (mask ^^^ 2 ^ j) else -((M i j).toInt64 * pt (mask ^^^ 2 ^ j))) else psS M pt i mask j := rfl
theorem exS_ps {M : Nat → Nat → Int32} {mn : Nat → Int64} {N row cols : Nat} (hc : cols < 2 ^ N) (hm : cols < 32) : ∀ k, k ≤ N → (exS M mn N row cols k).1 + psS M mn row cols (N - k) = psS M mn row cols N
  | 0, _ => by
    show (0 : Int64) + _ = _
    rw [Int64.zero_add, Nat.sub_zero]
  | k + 1, hk => by
    have ih := exS_ps (M := M) (mn := mn) (row := row) hc hm k (by omega)
    have sg := exS_sgn (M := M) (mn := mn) (row := row) hc hm k (by omega)
    have e : N - k = N - (k + 1) + 1 := by omega
    rw [← ih, e, psS_succ, exS_succ, show N - k - 1 = N - (k + 1) by omega]
    by_cases hb : cols.testBit (N - (k + 1)) = true
    · rw [if_pos hb, if_pos hb]
      show (exS M mn N row cols k).1 + (exS M mn N row cols k).2 * (M row (N - (k + 1))).toInt64 * mn (cols ^^^ 2 ^ (N - (k + 1))) + _ = _
      rw [sg, sgp_mul, ← e, Int64.add_assoc]
      congr 1
      rw [Int64.add_comm]
    · rw [if_neg hb, if_neg hb]
theorem ps_ex {M : Nat → Nat → Int32} {mn : Nat → Int64} {N row cols : Nat} (hc : cols < 2 ^ N) (hm : cols < 32) : psS M mn row cols N = (exS M mn N row cols N).1 := by
  have h := exS_ps (M := M) (mn := mn) (row := row) hc hm N (Nat.le_refl _)
  rw [Nat.sub_self] at h
  rw [← h]
  show _ + (0 : Int64) = _
  rw [Int64.add_zero]
theorem updL2 (f : Nat → Int64) (k : Nat) (x y : Int64) : vp_updL (vp_updL f k x) k y = vp_updL f k y := by
  funext j
  unfold vp_updL
  by_cases h : j = k <;> simp [h]
theorem nI_m1 : ∀ i, i < 6 → ¬ nI i = -1 := by decide +kernel
theorem bt_shr : ∀ m, m < 32 → ∀ j, j < 6 → nI m >>> (nI j &&& 31) = nI (m / 2 ^ j) := by decide +kernel
theorem bt_lo : ∀ m, m < 32 → nI m &&& 1 = nI (m % 2) := by decide +kernel
theorem bt_hlf : ∀ m, m < 32 → nI m >>> ((1 : Int32) &&& 31) = nI (m / 2) := by decide +kernel
theorem par2 : ∀ x, x < 6 → (nI x - nI x / 2 * 2 = 0 ↔ x % 2 = 0) := by decide +kernel
theorem bt_msk : ∀ N, N < 6 → ∀ cb, cb < N → nI (2 ^ N - 1) &&& ((1 : Int32) <<< (nI cb &&& 31) ^^^ (-1)) = nI ((2 ^ N - 1) ^^^ 2 ^ cb) := by decide +kernel
theorem bt_fm : ∀ N, N < 6 → ∀ cb, cb < N → ((2 ^ N - 1) ^^^ 2 ^ cb < 2 ^ N ∧ ((2 ^ N - 1) ^^^ 2 ^ cb).testBit cb = false ∧ pop5 ((2 ^ N - 1) ^^^ 2 ^ cb) = N - 1) := by decide +kernel
theorem bt_fmN : ∀ N, N < 6 → pop5 (2 ^ N - 1) = N ∧ (2 ^ N - 1).testBit 5 = false := by decide +kernel
theorem bt_px : ∀ m, m < 32 → ∀ j, j < 5 → m.testBit j = true → pop5 (m ^^^ 2 ^ j) + 1 = pop5 m := by decide +kernel
theorem bt_ox : ∀ m, m < 32 → ∀ j, j < 5 → m.testBit j = true → ∀ cb, cb < 6 → m.testBit cb = false → (m ^^^ 2 ^ j).testBit cb = false := by decide +kernel
theorem bt_5 : ∀ m, m < 32 → m.testBit 5 = false := by decide +kernel
theorem sz_1 : ∀ x, x < 32 → ∀ k, k < 7 → 0 < x / 2 ^ k → k < 5 ∧ pop5 (x / 2 ^ k) = x / 2 ^ k % 2 + pop5 (x / 2 ^ (k + 1)) ∧ x / 2 ^ k / 2 = x / 2 ^ (k + 1) ∧ pop5 (x / 2 ^ k) ≤ pop5 x := by decide +kernel
theorem pt0_0 (pt : Nat → Int64) : ∀ {n : Nat}, 0 < n → pt0 pt n 0 = 1
  | 0, h => absurd h (by decide)
  | 1, _ => rfl
  | n + 2, _ => by
    show vp_updL (pt0 pt (n + 1)) (n + 1) _ 0 = 1
    rw [pk_uLn (by omega)]
    exact pt0_0 pt (by omega)
theorem and_m1 (x : Int32) : x &&& (-1) = x := by
  apply Int32.toBitVec_inj.mp
  rw [Int32.toBitVec_and]
  exact BitVec.and_allOnes
theorem kOf_0 (skip : Nat) : kOf skip 0 = 0 := if_pos (Nat.zero_le _)
theorem kOf_sk (i : Nat) : kOf i i = kOf i (i + 1) := by unfold kOf; rw [if_pos (Nat.le_refl _), if_neg (by omega)]; omega
theorem kOf_ns {skip i : Nat} (h : ¬ i = skip) : kOf skip i + 1 = kOf skip (i + 1) := by
  unfold kOf
  by_cases q : i ≤ skip
  · rw [if_pos q, if_pos (by omega)]
  · rw [if_neg q, if_neg (by omega)]; omega
theorem dw_0 (M : Nat → Nat → Int32) (N skip cb : Nat) (pt : Nat → Int64) (h2 : 2 ^ N ≤ 32) (z : Nat) (hz : z < 2 ^ N) (_hb : z.testBit cb = false) (hp : pop5 z ≤ kOf skip 0) : pt0 pt (2 ^ N) z = mnF M N skip z := by
  rw [kOf_0] at hp
  have h8 : z = 0 := Nat.eq_zero_of_not_pos (fun q => absurd (pop5_pos z (by omega) q) (by omega))
  rw [h8, mnF_0]
  exact pt0_0 pt (by omega)
theorem dw_1 {P : Nat → Prop} {cb k : Nat} (z : Nat) (hz : z < 1) (_hb : z.testBit cb = false) (hp : pop5 z = k + 1) : P z := by
  have h8 : z = 0 := by omega
  subst h8
  exact absurd hp (by have : pop5 0 = 0 := rfl; omega)
theorem dw_2 {M : Nat → Nat → Int32} {N skip cb k m1 : Nat} {pt3 : Nat → Int64} {v : Int64} (hm2 : ∀ z, z < m1 → z.testBit cb = false → pop5 z = k → pt3 z = mnF M N skip z) (hval : v = mnF M N skip m1) (z : Nat) (hz : z < m1 + 1) (hb : z.testBit cb = false) (hp : pop5 z = k) : vp_updL pt3 m1 v z = mnF M N skip z := by
  rcases Nat.lt_or_ge z m1 with q | q
  · rw [pk_uLn (by omega)]; exact hm2 z q hb hp
  · have q2 : z = m1 := by omega
    subst q2
    rw [pk_uLs]; exact hval
theorem dw_3 {M : Nat → Nat → Int32} {N skip cb k m1 : Nat} {pt3 : Nat → Int64} (hm2 : ∀ z, z < m1 → z.testBit cb = false → pop5 z = k → pt3 z = mnF M N skip z) (hno : ¬ (m1.testBit cb = false ∧ pop5 m1 = k)) (z : Nat) (hz : z < m1 + 1) (hb : z.testBit cb = false) (hp : pop5 z = k) : pt3 z = mnF M N skip z := by
  rcases Nat.lt_or_ge z m1 with q | q
  · exact hm2 z q hb hp
  · have q2 : z = m1 := by omega
    subst q2
    exact absurd ⟨hb, hp⟩ hno
theorem dw_r {skip i m : Nat} (hs : ¬ i = skip) (h : pop5 m = kOf skip i + 1) : rowOf skip m = i := by
  unfold rowOf
  unfold kOf at h
  by_cases q : i ≤ skip
  · rw [if_pos q] at h; rw [if_neg (by omega)]; omega
  · rw [if_neg q] at h; rw [if_pos (by omega)]; omega
theorem dw_v {M : Nat → Nat → Int32} {N skip cb i m1 : Nat} {pt3 : Nat → Int64} (hN : N ≤ 5) (hi : i < N) (h0 : 1 ≤ m1) (hlt : m1 < 2 ^ N) (hs : ¬ i = skip) (hcb : cb < 6) (hok : m1.testBit cb = false) (hp : pop5 m1 = kOf skip i + 1) (hm1 : ∀ z, z < 2 ^ N → z.testBit cb = false → pop5 z ≤ kOf skip i → pt3 z = mnF M N skip z) : psS M pt3 i m1 N = mnF M N skip m1 := by
  have h2 := bt_p2 N (by omega)
  rw [ps_ex hlt (by omega), mnF_eq M N skip (by omega) (by omega), dw_r hs hp, if_pos hi]
  rw [exS_congr2 (mn := pt3) (mn' := mnF M N skip) (fun j hj hb => hm1 _ (Nat.lt_trans (xor_lt_of_bit hb) (by omega)) (bt_ox m1 (by omega) j (by omega) hb cb hcb hok) (by have := bt_px m1 (by omega) j (by omega) hb; omega)) N (Nat.le_refl _)]
theorem bt_f {m t : Nat} (h : ¬ m / 2 ^ t % 2 = 1) : m.testBit t = false := by
  have h8 := mt (bit_mod m t).mp h
  simpa using h8
theorem bt_t {m t : Nat} (h : ¬ m / 2 ^ t % 2 = 0) : m.testBit t = true := (bit_mod m t).mpr (by omega)
theorem dw_h {p0 : Int32} {N skip : Nat} (hN : N ≤ 5) (h : (p0 = -1 ∧ skip = N) ∨ (p0 = nI skip ∧ skip < N)) (i : Nat) (hi : i < N) : nI i = p0 ↔ i = skip := by
  rcases h with ⟨q1, q3⟩ | ⟨q1, q3⟩
  · rw [q1]; exact ⟨fun q => absurd q (nI_m1 i (by omega)), fun q => by omega⟩
  · rw [q1]; exact nI_eq (by omega) (by omega)
theorem dw_f {N skip cb : Nat} (hN : N ≤ 5) (h : (skip = N ∧ cb = 5) ∨ (skip < N ∧ cb < N)) : (if cb = 5 then 2 ^ N - 1 else (2 ^ N - 1) ^^^ 2 ^ cb) < 2 ^ N ∧ (if cb = 5 then 2 ^ N - 1 else (2 ^ N - 1) ^^^ 2 ^ cb).testBit cb = false ∧ pop5 (if cb = 5 then 2 ^ N - 1 else (2 ^ N - 1) ^^^ 2 ^ cb) ≤ kOf skip N := by
  have h3 := bt_p1 N
  rcases h with ⟨q3, q4⟩ | ⟨q3, q4⟩
  · rw [if_pos q4, q4, q3]
    exact ⟨by omega, (bt_fmN N (by omega)).2, by rw [(bt_fmN N (by omega)).1]; unfold kOf; rw [if_pos (Nat.le_refl _)]; exact Nat.le_refl _⟩
  · rw [if_neg (by omega)]
    obtain ⟨w1, w2, w3⟩ := bt_fm N (by omega) cb q4
    exact ⟨w1, w2, by rw [w3]; unfold kOf; rw [if_neg (by omega)]; exact Nat.le_refl _⟩
theorem nI_le0 {y : Nat} (hy : y < 32) (h : nI y ≤ 0) : y = 0 := by have := (nI_leI (a := y) (b := 0) (by omega) (by omega)).mp h; omega
theorem nI_nle0 {y : Nat} (hy : y < 32) (h : ¬ nI y ≤ 0) : 0 < y := by have := mt (nI_leI (a := y) (b := 0) (by omega) (by omega)).mpr h; omega
theorem nI_sz {a b c x : Nat} (h : b = a + c) (h2 : b ≤ x) : nI (x - b) + nI a = nI (x - c) := by rw [nI_add]; congr 1; omega
