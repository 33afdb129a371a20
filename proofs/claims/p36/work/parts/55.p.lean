/-! how the law builds its system -/
def pS (M : Nat → Nat → Int32) (v : Nat → Int32) (i : Nat) : Nat → Int
  | 0 => 0
  | j + 1 => pS M v i j + (M i j).toInt * (v j).toInt
theorem pS_3 (M : Nat → Nat → Int32) (v : Nat → Int32) (i : Nat) : pS M v i 3 = dotI M v i := by
  show 0 + (M i 0).toInt * (v 0).toInt + (M i 1).toInt * (v 1).toInt + (M i 2).toInt * (v 2).toInt = _
  rw [Int.zero_add]
  rfl
theorem pS_congr {M M' : Nat → Nat → Int32} {v : Nat → Int32} {i : Nat} : ∀ n, (∀ j, j < n → M i j = M' i j) → pS M v i n = pS M' v i n
  | 0, _ => rfl
  | n + 1, h => by
    show pS M v i n + _ = pS M' v i n + _
    rw [pS_congr n (fun j hj => h j (by omega)), h n (by omega)]
/-- rows below i are there, the others are 0 -/
def bO (M : Nat → Nat → Int32) (rl rh v : Nat → Int32) (i : Nat) : Prop :=
  okA M ∧ (∀ r c, i ≤ r → r < 5 → c < 5 → M r c = 0) ∧ okR rl rh ∧ (∀ r, i ≤ r → r < 5 → rl r = 0 ∧ rh r = 0) ∧ ∀ r, r < i → (rl r).toInt ≤ dotI M v r ∧ dotI M v r ≤ (rh r).toInt
/-- within row i: the coefficients below j are there; sm is the sum so far -/
def bN2 (M : Nat → Nat → Int32) (sm : Int32) (rl rh v : Nat → Int32) (i j : Nat) : Prop :=
  okA M ∧ (∀ r c, i < r → r < 5 → c < 5 → M r c = 0) ∧ (∀ c, j ≤ c → c < 5 → M i c = 0) ∧ (sm.toInt = pS M v i j ∧ sm.toInt.natAbs ≤ 90 * j) ∧ ∀ r, r < i → (rl r).toInt ≤ dotI M v r ∧ dotI M v r ≤ (rh r).toInt
theorem bO_0 (M : Nat → Nat → Int32) (rl rh v : Nat → Int32) : bO (matz M 5) (vecz rl 0 5) (vecz rh 0 5) v 0 := by
  obtain ⟨h1, -, h3, -⟩ := keep_0 M M rl rh rl rh
  refine ⟨h1, fun r c _ hr hc => by rw [matz_at M 5 r c hc, if_pos hr], h3, fun r _ hr => ?_, fun r hr => absurd hr (Nat.not_lt_zero r)⟩
  rw [vecz_at, vecz_at, if_pos hr, if_pos hr]
  exact ⟨rfl, rfl⟩
theorem bN_0 {M : Nat → Nat → Int32} {rl rh v : Nat → Int32} {i : Nat} (hi : i < 3) (h : bO M rl rh v i) : bN2 M 0 rl rh v i 0 :=
  ⟨h.1, fun r c h1 h2 h3 => h.2.1 r c (by omega) h2 h3, fun c _ hc => h.2.1 i c (Nat.le_refl _) (by omega) hc, ⟨rfl, by decide⟩, h.2.2.2.2⟩
theorem bN_s {M : Nat → Nat → Int32} {sm x : Int32} {rl rh v : Nat → Int32} {i j : Nat} (hv : okV v) (hi : i < 3) (hj : j < 3) (h1 : -9 ≤ x.toInt) (h2 : x.toInt ≤ 9) (h : bN2 M sm rl rh v i j) : bN2 (up2 M i j x) (sm + x * v j) rl rh v i (j + 1) := by
  obtain ⟨a1, a2, a3, ⟨a4, a5⟩, a6⟩ := h
  have n99 : (99 : Int32).toInt = 99 := rfl
  have m99 : (-99 : Int32).toInt = -99 := rfl
  have vj := hv j hj
  have b := nm (x := x.toInt) (y := (v j).toInt) (a := 9) (b := 10) (by omega) (by omega)
  have e := i_mul (x := x) (y := v j) (by omega) (by omega)
  have e2 := i_add (x := sm) (y := x * v j) (by omega) (by omega)
  refine ⟨keep_M a1 (i_le.mpr (by omega)) (i_le.mpr (by omega)), fun r c q1 q2 q3 => ?_, fun c q1 q2 => ?_, ⟨?_, by omega⟩, fun r hr => ?_⟩
  · unfold up2; rw [if_neg (fun q => by omega)]; exact a2 r c q1 q2 q3
  · unfold up2; rw [if_neg (fun q => by omega)]; exact a3 c (by omega) q2
  · show _ = pS (up2 M i j x) v i j + (up2 M i j x i j).toInt * (v j).toInt
    rw [pS_congr (M := up2 M i j x) (M' := M) j (fun t ht => by unfold up2; rw [if_neg (fun q => by omega)]), e2, e, a4]
    unfold up2
    rw [if_pos ⟨rfl, rfl⟩]
  · have ed : dotI (up2 M i j x) v r = dotI M v r := by
      unfold dotI up2
      rw [if_neg (fun q => by omega), if_neg (fun q => by omega), if_neg (fun q => by omega)]
    rw [ed]; exact a6 r hr
theorem b9 (x : Int32) : -9 ≤ (blw x 19 - 9).toInt ∧ (blw x 19 - 9).toInt ≤ 9 := by
  obtain ⟨h1, h2⟩ := blw_t (x := x) (n := 19) (by decide)
  have k : (19 : Int32).toInt = 19 := rfl
  have k2 : (9 : Int32).toInt = 9 := rfl
  rw [i_sub (by omega) (by omega), k2]
  omega
theorem b10 (x : Int32) : -10 ≤ (blw x 21 - 10).toInt ∧ (blw x 21 - 10).toInt ≤ 10 := by
  obtain ⟨h1, h2⟩ := blw_t (x := x) (n := 21) (by decide)
  have k : (21 : Int32).toInt = 21 := rfl
  have k2 : (10 : Int32).toInt = 10 := rfl
  rw [i_sub (by omega) (by omega), k2]
  omega
/-- the right side around the sum -/
theorem bR {sm x y : Int32} (h : sm.toInt.natAbs ≤ 270) : (-999 ≤ (sm - blw x 6).toInt ∧ (sm - blw x 6).toInt ≤ sm.toInt) ∧ (sm.toInt ≤ (sm + blw y 6).toInt ∧ (sm + blw y 6).toInt ≤ 999) := by
  obtain ⟨h1, h2⟩ := blw_t (x := x) (n := 6) (by decide)
  obtain ⟨h3, h4⟩ := blw_t (x := y) (n := 6) (by decide)
  have k : (6 : Int32).toInt = 6 := rfl
  rw [i_sub (by omega) (by omega), i_add (by omega) (by omega)]
  omega
theorem bN_d {M : Nat → Nat → Int32} {sm : Int32} {rl rh v : Nat → Int32} {i : Nat} (h : bN2 M sm rl rh v i 3) : sm.toInt.natAbs ≤ 270 := by
  have := h.2.2.2.1.2
  omega
theorem bO_s {M M0 : Nat → Nat → Int32} {sm lo hi : Int32} {rl rh v : Nat → Int32} {i : Nat} (hi3 : i < 3) (h0 : bO M0 rl rh v i) (h : bN2 M sm rl rh v i 3) (h1 : -999 ≤ lo.toInt ∧ lo.toInt ≤ sm.toInt) (h2 : sm.toInt ≤ hi.toInt ∧ hi.toInt ≤ 999) : bO M (upd rl i lo) (upd rh i hi) v (i + 1) := by
  obtain ⟨a1, a2, a3, ⟨a4, a5⟩, a6⟩ := h
  have n999 : (999 : Int32).toInt = 999 := rfl
  have m999 : (-999 : Int32).toInt = -999 := rfl
  refine ⟨a1, fun r c q1 q2 q3 => a2 r c (by omega) q2 q3, keep_R h0.2.2.1 (i_le.mpr (by omega)) (i_le.mpr (by omega)) (i_le.mpr (by omega)), fun r q1 q2 => ?_, fun r hr => ?_⟩
  · rw [pk_un (by omega), pk_un (by omega)]; exact h0.2.2.2.1 r (by omega) q2
  · by_cases e : r = i
    · subst e
      rw [pk_us, pk_us, ← pS_3, ← a4]
      omega
    · rw [pk_un e, pk_un e]; exact a6 r (by omega)
theorem oth_1 {x y : Int32} (h : ¬ x = 0) : othR 0 0 x y = 1 := if_neg (fun q => h q.1.symm)
theorem oth_2 {x y : Int32} (h : ¬ y = 0) : othR 0 0 x y = 1 := if_neg (fun q => h q.2.symm)
theorem oth_0 {x y : Int32} (h : x = 0) (h2 : y = 0) : othR 0 0 x y = 0 := if_pos ⟨h.symm, h2.symm⟩
theorem at3 : ∀ i, i < 3 → ∀ j, j < 3 → (3 : Int32) * nI i + nI j = nI (3 * i + j) := by decide +kernel
theorem at3c : ∀ i, i < 3 → ∀ j, j < 3 → (0 : Int32) + 3 * nI i + nI j = nI (3 * i + j) := by decide +kernel
theorem at9 : ∀ j, j < 3 → (0 : Int32) + 9 + nI j = nI (9 + j) := by decide +kernel
theorem at12 : ∀ j, j < 3 → (0 : Int32) + 12 + nI j = nI (12 + j) := by decide +kernel
theorem at16 : ∀ j, j < 3 → (16 : Int32) + nI j = nI (16 + j) := by decide +kernel
theorem at19 : ∀ j, j < 10 → (19 : Int32) + nI j = nI (19 + j) := by decide +kernel
theorem at_j : ∀ i, i < 3 → ∀ d, d < 2 → (nI i + 1 + nI d) - (nI i + 1 + nI d) / 3 * 3 = nI ((i + 1 + d) % 3) := by decide +kernel
theorem j_ne {i d : Nat} (hi : i < 3) (hd : d < 2) : ¬ (i + 1 + d) % 3 = i := by omega
theorem j_lt (i d : Nat) : (i + 1 + d) % 3 < 3 := Nat.mod_lt _ (by decide)
/-- what build answers -/
def bPost (z : S0 × S4) : Prop := ∃ (M S : Nat → Nat → Int32) (rl rh bl bh kl kh : Nat → Int32) (mn vc : Nat → Int64) (iv : Nat → Nat → Int64) (sc : Int64) (fa fx fl fh : Nat → Int32), z = ((3, M, S, rl, rh, bl, bh, kl, kh, mn, vc, iv, sc), fa, fx, fl, fh) ∧ okA M ∧ okR rl rh ∧ okX bl bh ∧ okV fx ∧ inR M fx rl rh ∧ ∀ i, i < 3 → bl i = -1000000000 ∧ bh i = 1000000000
theorem bO_end {M : Nat → Nat → Int32} {rl rh v bl bh : Nat → Int32} (h : bO M rl rh v 3) (hv : okV v) : okA M ∧ okR rl rh ∧ okX (vecz bl (-1000000000) 5) (vecz bh 1000000000 5) ∧ okV v ∧ inR M v rl rh ∧ ∀ i, i < 3 → vecz bl (-1000000000) 5 i = -1000000000 ∧ vecz bh 1000000000 5 i = 1000000000 := by
  obtain ⟨-, -, -, h4⟩ := keep_0 M M rl rh bl bh
  refine ⟨h.1, h.2.2.1, h4, hv, fun i hi => h.2.2.2.2 i hi, fun i hi => ?_⟩
  rw [vecz_at, vecz_at, if_pos (by omega), if_pos (by omega)]
  exact ⟨rfl, rfl⟩
theorem okV_s {f : Nat → Int32} {j : Nat} {x : Int32} (h : ∀ t, t < j → -10 ≤ (f t).toInt ∧ (f t).toInt ≤ 10) (hx : -10 ≤ x.toInt ∧ x.toInt ≤ 10) : ∀ t, t < j + 1 → -10 ≤ (upd f j x t).toInt ∧ (upd f j x t).toInt ≤ 10 := fun t ht => by
  by_cases e : t = j
  · rw [e, pk_us]; exact hx
  · rw [pk_un e]; exact h t (by omega)
