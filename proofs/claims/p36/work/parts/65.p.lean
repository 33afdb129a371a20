/-! what holds between the law's steps -/
def lI (M : Nat → Nat → Int32) (rl rh bl bh v : Nat → Int32) : Prop := okA M ∧ okR rl rh ∧ inR M v rl rh ∧ okX bl bh ∧ inB v bl bh
theorem ge_0 {n : Int32} (h : 0 ≤ n.toInt) : 0 ≤ n := i_le.mpr h
theorem sw_I {M : Nat → Nat → Int32} {rl rh bl bh v : Nat → Int32} (h : lI M rl rh bl bh v) : ∃ x y n, sw0 3 M rl rh (bl, bh) = (n, x, y) ∧ lI M rl rh x y v ∧ 0 ≤ n := by
  obtain ⟨x, y, n, e, a1, a2, a3⟩ := sw0_in (z := (bl, bh)) h.1 h.2.1 h.2.2.1 h.2.2.2.1 h.2.2.2.2
  exact ⟨x, y, n, e, ⟨h.1, h.2.1, h.2.2.1, a1, a2⟩, ge_0 a3⟩
theorem sh_I {M : Nat → Nat → Int32} {rl rh bl bh v : Nat → Int32} (h : lI M rl rh bl bh v) (hv : okV v) (hd : ¬ detM M 3 = 0) : ∃ x y n, sh0 3 M rl rh (bl, bh) = (n, x, y) ∧ lI M rl rh x y v ∧ 0 ≤ n := by
  obtain ⟨x, y, n, e, a1, a2, a3⟩ := sh0_in (z := (bl, bh)) h.1 h.2.1 hv h.2.2.1 hd h.2.2.2.1 h.2.2.2.2
  exact ⟨x, y, n, e, ⟨h.1, h.2.1, h.2.2.1, a1, a2⟩, ge_0 a3⟩
theorem cn_I {M : Nat → Nat → Int32} {rl rh bl bh v : Nat → Int32} {n : Nat} (h : lI M rl rh bl bh v) (h1 : 1 ≤ n) (h2 : n < 1000) : ∃ x y r, cnS (sw0 3 M rl rh) n 0 (bl, bh) = (r, x, y) ∧ lI M rl rh x y v ∧ 1 ≤ r := by
  obtain ⟨a1, a2, a3⟩ := cn_in h.1 h.2.1 h.2.2.1 n 0 (bl, bh) h.2.2.2.1 h.2.2.2.2 (by omega) (by omega)
  exact ⟨_, _, _, rfl, ⟨h.1, h.2.1, h.2.2.1, a2, a3⟩, i_le.mpr a1⟩
theorem kCon_n {n : Nat} (h1 : 1 ≤ n) (h2 : n < 1000) : kCon (nI n) = 0 := if_pos ⟨(nI_leI (a := 1) (by omega) (by omega)).mpr h1, (nI_leI (b := 1000) (by omega) (by omega)).mpr (by omega)⟩
theorem sp_I {M : Nat → Nat → Int32} {rl rh bl bh v : Nat → Int32} {i j : Nat} (h : lI M rl rh bl bh v) (hi : i < 3) (hj : j < 3) (hij : ¬ j = i) : lI (swpM M i j 3) (swpV rl i j) (swpV rh i j) bl bh v :=
  ⟨keep_swM h.1 (by omega) (by omega), keep_swR h.2.1 (by omega) (by omega), sw_R h.2.2.1 hi hj (fun q => hij q.symm), h.2.2.2⟩
theorem ne_1 {i j : Nat} (hi : i < 3) (hj : j < 3) (hij : ¬ j = i) : ¬ neI (nI i) (nI j) = 0 := by
  unfold neI
  rw [if_neg (fun q => hij ((nI_eq (by omega) (by omega)).mp q).symm)]
  decide
theorem ar_I {M : Nat → Nat → Int32} {rl rh bl bh v : Nat → Int32} {i j : Nat} {f : Int32} (h : lI M rl rh bl bh v) (hi : i < 3) (hj : j < 3) (hij : ¬ j = i) (h1 : -1 ≤ f.toInt) (h2 : f.toInt ≤ 1) (hf : fitI M rl rh i j) : kAdd0 3 M rl rh (nI i) (nI j) f = 0 ∧ lI (acM M i j f 3) (upd rl i (rl i + pLow f (rl j) (rh j))) (upd rh i (rh i + pHigh f (rl j) (rh j))) bl bh v := by
  obtain ⟨a1, a2, a3, a4⟩ := ar_in h.1 h.2.1 h.2.2.1 hi hj hij h1 h2 hf
  exact ⟨a1, a2, a3, a4, h.2.2.2⟩
theorem f_in (x : Int32) : -1 ≤ (blw x 3 - 1).toInt ∧ (blw x 3 - 1).toInt ≤ 1 := by
  obtain ⟨h1, h2⟩ := blw_t (x := x) (n := 3) (by decide)
  have k : (3 : Int32).toInt = 3 := rfl
  have k2 : (1 : Int32).toInt = 1 := rfl
  rw [i_sub (by omega) (by omega), k2]
  omega
/-- the law's four comparisons of right sides -/
def fitR (rl rh : Nat → Int32) (i j : Nat) : Prop := -900 < (rl i).toInt - ((rl j).toInt.natAbs : Int) ∧ (rh i).toInt + ((rh j).toInt.natAbs : Int) < 900 ∧ -900 < (rl i).toInt - ((rh j).toInt.natAbs : Int) ∧ (rh i).toInt + ((rl j).toInt.natAbs : Int) < 900
theorem fit_R {rl rh : Nat → Int32} {i j : Nat} (hR : okR rl rh) (hi : i < 3) (hj : j < 3) (c1 : ¬ rl i - absI (rl j) ≤ -900) (c2 : ¬ 900 ≤ rh i + absI (rh j)) (c3 : ¬ rl i - absI (rh j) ≤ -900) (c4 : ¬ 900 ≤ rh i + absI (rl j)) : fitR rl rh i j := by
  have ri := hR i (by omega)
  have rj := hR j (by omega)
  have k : (900 : Int32).toInt = 900 := rfl
  have k2 : (-900 : Int32).toInt = -900 := rfl
  have a1 := i_abs (x := rl j) (by omega)
  have a2 := i_abs (x := rh j) (by omega)
  rw [i_le, i_sub (by omega) (by omega), a1, k2] at c1
  rw [i_le, i_add (by omega) (by omega), a2, k] at c2
  rw [i_le, i_sub (by omega) (by omega), a2, k2] at c3
  rw [i_le, i_add (by omega) (by omega), a1, k] at c4
  unfold fitR
  omega
def fitC (M : Nat → Nat → Int32) (i j n : Nat) : Prop := ∀ q, q < n → (M i q).toInt.natAbs + (M j q).toInt.natAbs < 100
theorem fit_C {M : Nat → Nat → Int32} {i j n : Nat} (hM : okA M) (hi : i < 3) (hj : j < 3) (hn : n < 3) (h : fitC M i j n) (c : ¬ 100 ≤ absI (M i n) + absI (M j n)) : fitC M i j (n + 1) := fun q hq => by
  by_cases e : q = n
  · subst e
    have mi := hM i q (by omega) (by omega)
    have mj := hM j q (by omega) (by omega)
    have k : (100 : Int32).toInt = 100 := rfl
    have a1 := i_abs (x := M i q) (by omega)
    have a2 := i_abs (x := M j q) (by omega)
    rw [i_le, i_add (by omega) (by omega), a1, a2, k] at c
    omega
  · exact h q (by omega)
/-! the box around the vector -/
theorem bX {x c d : Int32} (h : -10 ≤ x.toInt ∧ x.toInt ≤ 10) : (-70000 ≤ (1024 * x - blw c 50000).toInt ∧ (1024 * x - blw c 50000).toInt ≤ 1024 * x.toInt) ∧ (1024 * x.toInt ≤ (1024 * x + blw d 50000).toInt ∧ (1024 * x + blw d 50000).toInt ≤ 70000) := by
  obtain ⟨h1, h2⟩ := blw_t (x := c) (n := 50000) (by decide)
  obtain ⟨h3, h4⟩ := blw_t (x := d) (n := 50000) (by decide)
  have k : (50000 : Int32).toInt = 50000 := rfl
  have k2 : (1024 : Int32).toInt = 1024 := rfl
  have e := i_mul (x := 1024) (y := x) (by rw [k2]; omega) (by rw [k2]; omega)
  rw [k2] at e
  rw [i_sub (by omega) (by omega), i_add (by omega) (by omega), e]
  omega
def bA (bl bh v : Nat → Int32) (i : Nat) : Prop := okX bl bh ∧ (∀ t, t < i → (bl t).toInt ≤ 1024 * (v t).toInt ∧ 1024 * (v t).toInt ≤ (bh t).toInt) ∧ ∀ t, i ≤ t → t < 3 → bl t = -1000000000 ∧ bh t = 1000000000
theorem bA_0 {bl bh v : Nat → Int32} (hX : okX bl bh) (h : ∀ i, i < 3 → bl i = -1000000000 ∧ bh i = 1000000000) : bA bl bh v 0 := ⟨hX, fun t ht => absurd ht (Nat.not_lt_zero t), fun t _ ht => h t ht⟩
theorem bA_s {bl bh v : Nat → Int32} {i : Nat} {lo hi : Int32} (h : bA bl bh v i) (hv : okV v) (h3 : i < 3) (h1 : -70000 ≤ lo.toInt ∧ lo.toInt ≤ 1024 * (v i).toInt) (h2 : 1024 * (v i).toInt ≤ hi.toInt ∧ hi.toInt ≤ 70000) : bA (upd bl i lo) (upd bh i hi) v (i + 1) := by
  have k : (1000000000 : Int32).toInt = 1000000000 := rfl
  have k2 : (-1000000000 : Int32).toInt = -1000000000 := rfl
  refine ⟨keep_X h.1 (i_le.mpr (by omega)) (i_le.mpr (by omega)) (i_le.mpr (by omega)), fun t ht => ?_, fun t q1 q2 => ?_⟩
  · by_cases e : t = i
    · subst e; rw [pk_us, pk_us]; omega
    · rw [pk_un e, pk_un e]; exact h.2.1 t (by omega)
  · rw [pk_un (by omega), pk_un (by omega)]; exact h.2.2 t (by omega) q2
theorem bA_o {bl bh v : Nat → Int32} {i : Nat} {lo hi : Int32} (h : bA bl bh v i) (h3 : i < 3) (h1 : -70000 ≤ lo.toInt) : ¬ othR (bl i) (bh i) lo hi = 0 := by
  unfold othR
  rw [if_neg (fun q => by
    have k2 : (-1000000000 : Int32).toInt = -1000000000 := rfl
    have e := (h.2.2 i (Nat.le_refl _) h3).1
    have e2 := congrArg Int32.toInt (e.symm.trans q.1)
    rw [k2] at e2
    omega)]
  decide
theorem vb_t {x : Int32} (h : -10 ≤ x.toInt ∧ x.toInt ≤ 10) : (1024 * x).toInt = 1024 * x.toInt := by
  have k2 : (1024 : Int32).toInt = 1024 := rfl
  have e := i_mul (x := 1024) (y := x) (by rw [k2]; omega) (by rw [k2]; omega)
  rw [k2] at e
  exact e
theorem bx_lo {bl bh v : Nat → Int32} {q : Nat} (hv : okV v) (h : inB v bl bh) (hq : q < 3) : ¬ 1024 * v q < bl q := by
  rw [i_lt, vb_t (hv q hq)]
  have := h q hq
  omega
theorem bx_hi {bl bh v : Nat → Int32} {q : Nat} (hv : okV v) (h : inB v bl bh) (hq : q < 3) : 1024 * v q ≤ bh q := by
  rw [i_le, vb_t (hv q hq)]
  exact (h q hq).2
