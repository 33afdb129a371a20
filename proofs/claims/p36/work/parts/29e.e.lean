/-! rows added -/
theorem mn_eq {f p q : Int32} (hf : f.toInt.natAbs ≤ 99) (hp : p.toInt.natAbs ≤ 999) (hq : q.toInt.natAbs ≤ 999) (hpq : p.toInt ≤ q.toInt) : minI (f * p) (f * q) = pLow f p q ∧ maxI (f * p) (f * q) = pHigh f p q ∧ (pLow f p q).toInt ≤ (pHigh f p q).toInt ∧ (pLow f p q).toInt.natAbs ≤ 98901 ∧ (pHigh f p q).toInt.natAbs ≤ 98901 := by
  have z : (0 : Int32).toInt = 0 := rfl
  have b1 := nm hf hp
  have b2 := nm hf hq
  have e1 := i_mul (x := f) (y := p) (by omega) (by omega)
  have e2 := i_mul (x := f) (y := q) (by omega) (by omega)
  unfold pLow pHigh
  by_cases h : f < 0
  · have hn := i_lt.mp h
    have hle : f.toInt * q.toInt ≤ f.toInt * p.toInt := Int.mul_le_mul_of_nonpos_left (by omega) hpq
    rw [if_pos h, if_pos h]
    refine ⟨by rw [i_eq, minI_t, e1, e2]; omega, by rw [i_eq, maxI_t, e1, e2]; omega, by rw [e1, e2]; exact hle, by rw [e2]; exact b2, by rw [e1]; exact b1⟩
  · have hn := mt i_lt.mpr h
    have hle : f.toInt * p.toInt ≤ f.toInt * q.toInt := Int.mul_le_mul_of_nonneg_left hpq (by omega)
    rw [if_neg h, if_neg h]
    refine ⟨by rw [i_eq, minI_t, e1, e2]; omega, by rw [i_eq, maxI_t, e1, e2]; omega, by rw [e1, e2]; exact hle, by rw [e1]; exact b1, by rw [e2]; exact b2⟩
theorem ar_eq {rl rh : Nat → Int32} {i k : Nat} {f : Int32} (hR : okR rl rh) (hi : i < 5) (hk : k < 5) (h1 : -99 ≤ f) (h2 : f ≤ 99) : rl i + pLow f (rl k) (rh k) = arLo rl rh i k f ∧ rh i + pHigh f (rl k) (rh k) = arHi rl rh i k f ∧ (arLo rl rh i k f).toInt ≤ (arHi rl rh i k f).toInt := by
  have a1 := i_le.mp h1
  have a2 := i_le.mp h2
  have n1 : (-99 : Int32).toInt = -99 := rfl
  have n2 : (99 : Int32).toInt = 99 := rfl
  have ri := hR i hi
  have rk := hR k hk
  obtain ⟨m1, m2, m3, m4, m5⟩ := mn_eq (f := f) (p := rl k) (q := rh k) (by omega) (by omega) (by omega) rk.2.1
  unfold arLo arHi
  rw [m1, m2]
  refine ⟨rfl, rfl, ?_⟩
  rw [i_add (by omega) (by omega), i_add (by omega) (by omega)]
  omega
theorem fit_eq {M : Nat → Nat → Int32} {i k j : Nat} {f : Int32} (hM : okA M) (hi : i < 5) (hk : k < 5) (hj : j < 5) (h1 : -99 ≤ f) (h2 : f ≤ 99) : (-99 ≤ M i j + f * M k j ∧ M i j + f * M k j ≤ 99) ↔ absI (M i j + f * M k j) ≤ 99 := by
  have a1 := i_le.mp h1
  have a2 := i_le.mp h2
  have n1 : (-99 : Int32).toInt = -99 := rfl
  have n2 : (99 : Int32).toInt = 99 := rfl
  have mi := hM i j hi hj
  have mk := hM k j hk hj
  have b := nm (x := f.toInt) (y := (M k j).toInt) (a := 99) (b := 99) (by omega) mk
  have e := i_mul (x := f) (y := M k j) (by omega) (by omega)
  have e2 := i_add (x := M i j) (y := f * M k j) (by omega) (by omega)
  have e3 := i_abs (x := M i j + f * M k j) (by omega)
  rw [i_le, i_le, i_le, e3, n1, n2]
  omega
theorem add_eq {N : Nat} {M : Nat → Nat → Int32} {rl rh : Nat → Int32} {p q f : Int32} (hN : N ≤ 5) (hM : okA M) (hR : okR rl rh) : kAdd0 N M rl rh p q f = kAdd N M rl rh p q f := by
  unfold kAdd0 kAdd
  by_cases h1 : ixP N p ∧ ixP N q
  · rw [if_pos h1, if_pos h1]
    by_cases h2 : ¬ p = q ∧ (-99 ≤ f ∧ f ≤ 99)
    · rw [if_pos h2, if_pos h2]
      obtain ⟨-, l1⟩ := ixP_at hN h1.1
      obtain ⟨-, l2⟩ := ixP_at hN h1.2
      obtain ⟨a1, a2, a3⟩ := ar_eq hR (by omega : ix p < 5) (by omega : ix q < 5) h2.2.1 h2.2.2
      rw [a1, a2]
      have hle : arLo rl rh (ix p) (ix q) f ≤ arHi rl rh (ix p) (ix q) f := i_le.mpr a3
      have hall : (∀ t, t < N → (-99 ≤ M (ix p) t + f * M (ix q) t ∧ M (ix p) t + f * M (ix q) t ≤ 99)) ↔ (∀ j, j < N → absI (M (ix p) j + f * M (ix q) j) ≤ 99) :=
        ⟨fun h j hj => (fit_eq hM (by omega) (by omega) (by omega) h2.2.1 h2.2.2).mp (h j hj), fun h j hj => (fit_eq hM (by omega) (by omega) (by omega) h2.2.1 h2.2.2).mpr (h j hj)⟩
      by_cases h3 : arF N M rl rh (ix p) (ix q) f
      · rw [if_pos h3, if_pos ⟨⟨⟨⟨h3.1.1, h3.1.2.2.1⟩, ⟨h3.1.2.2.2, h3.1.2.1⟩⟩, hle⟩, hall.mpr h3.2⟩]
      · rw [if_neg h3, if_neg (fun w => h3 ⟨⟨w.1.1.1.1, w.1.1.2.2, w.1.1.1.2, w.1.1.2.1⟩, hall.mp w.2⟩)]
    · rw [if_neg h2, if_neg h2]
  · rw [if_neg h1, if_neg h1]
/-! the calls keep the bounds -/
theorem acM_at {M : Nat → Nat → Int32} {i k : Nat} {f : Int32} (hik : ¬ k = i) : ∀ n r c, acM M i k f n r c = if r = i ∧ c < n then M i c + f * M k c else M r c
  | 0, r, c => by rw [if_neg (by omega)]; rfl
  | n + 1, r, c => by
    show up2 (acM M i k f n) i n (acM M i k f n i n + f * acM M i k f n k n) r c = _
    rw [acM_at hik n i n, acM_at hik n k n, if_neg (by omega), if_neg (by omega)]
    unfold up2
    have e := acM_at (M := M) (f := f) hik n r c
    by_cases h : r = i ∧ c = n
    · rw [if_pos h, if_pos ⟨h.1, by omega⟩, h.2]
    · rw [if_neg h, e]
      by_cases w : r = i ∧ c < n
      · rw [if_pos w, if_pos ⟨w.1, by omega⟩]
      · rw [if_neg w, if_neg (fun z => by
          rcases Nat.lt_or_ge c n with q | q
          · exact w ⟨z.1, q⟩
          · exact h ⟨z.1, by omega⟩)]
theorem keep_M {M : Nat → Nat → Int32} {i j : Nat} {v : Int32} (hM : okA M) (h1 : -99 ≤ v) (h2 : v ≤ 99) : okA (up2 M i j v) := by
  intro r c hr hc
  have a1 := i_le.mp h1
  have a2 := i_le.mp h2
  have n1 : (-99 : Int32).toInt = -99 := rfl
  have n2 : (99 : Int32).toInt = 99 := rfl
  unfold up2
  split
  · omega
  · exact hM r c hr hc
abbrev okT (S : Nat → Nat → Int32) : Prop := ∀ i j, i < 5 → j < 5 → 0 ≤ (S i j).toInt ∧ (S i j).toInt ≤ 50
theorem keep_S {S : Nat → Nat → Int32} {i j : Nat} {v : Int32} (hS : okT S) (h1 : 0 ≤ v) (h2 : v ≤ 50) : okT (up2 S i j v) := by
  intro r c hr hc
  have a1 := i_le.mp h1
  have a2 := i_le.mp h2
  have n1 : (0 : Int32).toInt = 0 := rfl
  have n2 : (50 : Int32).toInt = 50 := rfl
  unfold up2
  split
  · omega
  · exact hS r c hr hc
theorem keep_R {rl rh : Nat → Int32} {i : Nat} {lo hi : Int32} (hR : okR rl rh) (h1 : -999 ≤ lo) (h2 : hi ≤ 999) (h3 : lo ≤ hi) : okR (upd rl i lo) (upd rh i hi) := by
  intro r hr
  have a1 := i_le.mp h1
  have a2 := i_le.mp h2
  have a3 := i_le.mp h3
  have n1 : (-999 : Int32).toInt = -999 := rfl
  have n2 : (999 : Int32).toInt = 999 := rfl
  by_cases e : r = i
  · subst e; rw [pk_us, pk_us]; omega
  · rw [pk_un e, pk_un e]; exact hR r hr
theorem keep_X {rl rh : Nat → Int32} {i : Nat} {lo hi : Int32} (hR : okX rl rh) (h1 : -1000000000 ≤ lo) (h2 : hi ≤ 1000000000) (h3 : lo ≤ hi) : okX (upd rl i lo) (upd rh i hi) := by
  intro r hr
  have a1 := i_le.mp h1
  have a2 := i_le.mp h2
  have a3 := i_le.mp h3
  have n1 : (-1000000000 : Int32).toInt = -1000000000 := rfl
  have n2 : (1000000000 : Int32).toInt = 1000000000 := rfl
  by_cases e : r = i
  · subst e; rw [pk_us, pk_us]; omega
  · rw [pk_un e, pk_un e]; exact hR r hr
theorem swpM_at (M : Nat → Nat → Int32) (i k : Nat) : ∀ n r c, ∃ r', (r' = r ∨ r' = i ∨ r' = k) ∧ swpM M i k n r c = M r' c
  | 0, r, c => ⟨r, Or.inl rfl, rfl⟩
  | n + 1, r, c => by
    show ∃ r', _ ∧ up2 (up2 (swpM M i k n) i n (swpM M i k n k n)) k n (swpM M i k n i n) r c = M r' c
    unfold up2
    by_cases h1 : r = k ∧ c = n
    · rw [if_pos h1]
      obtain ⟨r', h, e⟩ := swpM_at M i k n i n
      refine ⟨r', ?_, by rw [e, h1.2]⟩
      omega
    · rw [if_neg h1]
      by_cases h2 : r = i ∧ c = n
      · rw [if_pos h2]
        obtain ⟨r', h, e⟩ := swpM_at M i k n k n
        refine ⟨r', ?_, by rw [e, h2.2]⟩
        omega
      · rw [if_neg h2]
        exact swpM_at M i k n r c
theorem keep_swM {M : Nat → Nat → Int32} {i k : Nat} {n : Nat} (hM : okA M) (hi : i < 5) (hk : k < 5) : okA (swpM M i k n) := by
  intro r c hr hc
  obtain ⟨r', h, e⟩ := swpM_at M i k n r c
  rw [e]
  exact hM r' c (by omega) hc
theorem keep_swS {M : Nat → Nat → Int32} {i k : Nat} {n : Nat} (hM : okT M) (hi : i < 5) (hk : k < 5) : okT (swpM M i k n) := by
  intro r c hr hc
  obtain ⟨r', h, e⟩ := swpM_at M i k n r c
  rw [e]
  exact hM r' c (by omega) hc
theorem keep_swR {rl rh : Nat → Int32} {i k : Nat} (hR : okR rl rh) (hi : i < 5) (hk : k < 5) : okR (swpV rl i k) (swpV rh i k) := by
  intro r hr
  unfold swpV
  by_cases e : r = k
  · subst e; rw [pk_us, pk_us]; exact hR i hi
  · rw [pk_un e, pk_un e]
    by_cases e2 : r = i
    · subst e2; rw [pk_us, pk_us]; exact hR k hk
    · rw [pk_un e2, pk_un e2]; exact hR r hr
theorem keep_add {N : Nat} {M : Nat → Nat → Int32} {rl rh : Nat → Int32} {i k : Nat} {f : Int32} (hN : N ≤ 5) (hM : okA M) (hR : okR rl rh) (hi : i < N) (hk : k < N) (hik : ¬ k = i) (h1 : -99 ≤ f) (h2 : f ≤ 99) (hf : arF N M rl rh i k f) : okA (acM M i k f N) ∧ okR (upd rl i (arLo rl rh i k f)) (upd rh i (arHi rl rh i k f)) := by
  obtain ⟨-, -, a3⟩ := ar_eq hR (by omega : i < 5) (by omega : k < 5) h1 h2
  refine ⟨fun r c hr hc => ?_, keep_R hR hf.1.1 hf.1.2.1 (i_le.mpr a3)⟩
  rw [acM_at hik]
  by_cases w : r = i ∧ c < N
  · rw [if_pos w]
    have q := (fit_eq hM (by omega : i < 5) (by omega : k < 5) hc h1 h2).mpr (hf.2 c w.2)
    have q1 := i_le.mp q.1
    have q2 := i_le.mp q.2
    have n1 : (-99 : Int32).toInt = -99 := rfl
    have n2 : (99 : Int32).toInt = 99 := rfl
    omega
  · rw [if_neg w]; exact hM r c hr hc
theorem rowz_at (M : Nat → Nat → Int32) (i : Nat) : ∀ n r c, rowz M i n r c = if r = i ∧ c < n then 0 else M r c
  | 0, r, c => by rw [if_neg (by omega)]; rfl
  | n + 1, r, c => by
    show up2 (rowz M i n) i n 0 r c = _
    unfold up2
    by_cases h : r = i ∧ c = n
    · rw [if_pos h, if_pos ⟨h.1, by omega⟩]
    · rw [if_neg h, rowz_at M i n r c]
      by_cases w : r = i ∧ c < n
      · rw [if_pos w, if_pos ⟨w.1, by omega⟩]
      · rw [if_neg w, if_neg (fun z => by
          rcases Nat.lt_or_ge c n with q | q
          · exact w ⟨z.1, q⟩
          · exact h ⟨z.1, by omega⟩)]
theorem matz_at (M : Nat → Nat → Int32) : ∀ n r c, c < 5 → matz M n r c = if r < n then 0 else M r c
  | 0, r, c, _ => by rw [if_neg (by omega)]; rfl
  | n + 1, r, c, hc => by
    show rowz (matz M n) n 5 r c = _
    rw [rowz_at, matz_at M n r c hc]
    by_cases h : r = n
    · rw [if_pos ⟨h, hc⟩, if_pos (by omega)]
    · rw [if_neg (fun z => h z.1)]
      by_cases w : r < n
      · rw [if_pos w, if_pos (by omega)]
      · rw [if_neg w, if_neg (by omega)]
theorem vecz_at (f : Nat → Int32) (x : Int32) : ∀ n r, vecz f x n r = if r < n then x else f r
  | 0, r => by rw [if_neg (by omega)]; rfl
  | n + 1, r => by
    show upd (vecz f x n) n x r = _
    by_cases h : r = n
    · subst h; rw [pk_us, if_pos (by omega)]
    · rw [pk_un h, vecz_at f x n r]
      by_cases w : r < n
      · rw [if_pos w, if_pos (by omega)]
      · rw [if_neg w, if_neg (by omega)]
theorem keep_0 (M S : Nat → Nat → Int32) (rl rh bl bh : Nat → Int32) : okA (matz M 5) ∧ okT (matz S 5) ∧ okR (vecz rl 0 5) (vecz rh 0 5) ∧ okX (vecz bl (-1000000000) 5) (vecz bh 1000000000 5) := by
  refine ⟨fun r c hr hc => ?_, fun r c hr hc => ?_, fun r hr => ?_, fun r hr => ?_⟩
  · rw [matz_at M 5 r c hc, if_pos hr]; decide
  · rw [matz_at S 5 r c hc, if_pos hr]; decide
  · rw [vecz_at, vecz_at, if_pos hr, if_pos hr]; decide
  · rw [vecz_at, vecz_at, if_pos hr, if_pos hr]; decide
