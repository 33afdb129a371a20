/-! what the law asks of each call -/
theorem ix_n {i : Nat} (h : i < 3) : ix (nI i) = i := nI_clamp (by omega)
theorem ixP_n {i : Nat} (h : i < 3) : ixP 3 (nI i) := ⟨(nI_leI (a := 0) (by omega) (by omega)).mpr (by omega), (nI_ltI (by omega) (by omega)).mpr (by omega)⟩
theorem kIx_n {i : Nat} (h : i < 3) : kIx 3 (nI i) = 0 := if_pos (ixP_n h)
theorem kIx2_n {i j : Nat} (h : i < 3) (h2 : j < 3) : kIx2 3 (nI i) (nI j) = 0 := if_pos ⟨ixP_n h, ixP_n h2⟩
theorem kHul_n {M : Nat → Nat → Int32} {i : Nat} (h : i < 3) (hd : ¬ detM M 3 = 0) : kHul 3 M (nI i) = 0 := by unfold kHul; rw [if_pos (ixP_n h), if_neg hd]
theorem kVal_n {i j : Nat} {x : Int32} (h : i < 3) (h2 : j < 3) (h3 : -99 ≤ x.toInt) (h4 : x.toInt ≤ 99) : kVal 3 (nI i) (nI j) x (-99) 99 = 0 := by
  unfold kVal
  rw [if_pos ⟨ixP_n h, ixP_n h2⟩, if_pos ⟨i_le.mpr (by have n1 : (-99 : Int32).toInt = -99 := rfl; omega), i_le.mpr (by have n2 : (99 : Int32).toInt = 99 := rfl; omega)⟩]
theorem kInt_n {i : Nat} {x y b : Int32} (h : i < 3) (hb : b = 999 ∨ b = 1000000000) (h3 : -b.toInt ≤ x.toInt) (h4 : x.toInt ≤ y.toInt) (h5 : y.toInt ≤ b.toInt) : kInt 3 (nI i) x y b = 0 := by
  unfold kInt
  have e : (-b).toInt = -b.toInt := by rcases hb with rfl | rfl <;> rfl
  rw [if_pos (ixP_n h), if_pos ⟨⟨i_le.mpr (by omega), i_le.mpr h5⟩, i_le.mpr h4⟩]
/-! is the vector a solution -/
theorem sl_t {M : Nat → Nat → Int32} {v : Nat → Int32} {i : Nat} (hM : okA M) (hv : okV v) (hi : i < 5) : (slS M (fun j => (vec5 (v 0) (v 1) (v 2) 0 0 j).toInt64) i 3).toInt = dotI M v i := by
  rw [← bL_t hM hv hi]
  show (0 + aL M i 0 * (v 0).toInt64 + aL M i 1 * (v 1).toInt64 + aL M i 2 * (v 2).toInt64 : Int64).toInt = _
  rw [Int64.zero_add]
  rfl
theorem sol_1 {M : Nat → Nat → Int32} {v rl rh : Nat → Int32} (hM : okA M) (hv : okV v) (hS : inR M v rl rh) : solR 3 M rl rh (fun j => (vec5 (v 0) (v 1) (v 2) 0 0 j).toInt64) = 1 := by
  unfold solR
  refine if_pos (fun i hi => ?_)
  have h := hS i hi
  rw [l_le, l_le, sl_t hM hv (by omega), B_32, B_32]
  exact h
/-! rows exchanged -/
theorem swpM_ex {M : Nat → Nat → Int32} {i k : Nat} (hik : ¬ i = k) : ∀ n r c, swpM M i k n r c = if c < n then (if r = k then M i c else if r = i then M k c else M r c) else M r c
  | 0, r, c => by rw [if_neg (by omega)]; rfl
  | n + 1, r, c => by
    show up2 (up2 (swpM M i k n) i n (swpM M i k n k n)) k n (swpM M i k n i n) r c = _
    rw [swpM_ex hik n i n, swpM_ex hik n k n, if_neg (by omega), if_neg (by omega)]
    unfold up2
    by_cases h1 : c = n
    · subst h1
      rw [if_pos (by omega : c < c + 1)]
      by_cases h2 : r = k
      · rw [if_pos ⟨h2, rfl⟩, if_pos h2]
      · rw [if_neg (fun q => h2 q.1), if_neg h2]
        by_cases h3 : r = i
        · rw [if_pos ⟨h3, rfl⟩, if_pos h3]
        · rw [if_neg (fun q => h3 q.1), if_neg h3, swpM_ex hik c r c, if_neg (by omega)]
    · rw [if_neg (fun q => h1 q.2), if_neg (fun q => h1 q.2), swpM_ex hik n r c]
      by_cases h4 : c < n
      · rw [if_pos h4, if_pos (show c < n + 1 by omega)]
      · rw [if_neg h4, if_neg (show ¬ c < n + 1 by omega)]
theorem swpV_ex (f : Nat → Int32) (i k r : Nat) : swpV f i k r = if r = k then f i else if r = i then f k else f r := by
  unfold swpV
  by_cases h : r = k
  · subst h; rw [pk_us, if_pos rfl]
  · rw [pk_un h, if_neg h]
    by_cases h2 : r = i
    · subst h2; rw [pk_us, if_pos rfl]
    · rw [pk_un h2, if_neg h2]
theorem sw_R {M : Nat → Nat → Int32} {v rl rh : Nat → Int32} {i k : Nat} (hS : inR M v rl rh) (hi : i < 3) (hk : k < 3) (hik : ¬ i = k) : inR (swpM M i k 3) v (swpV rl i k) (swpV rh i k) := by
  intro r hr
  have e : dotI (swpM M i k 3) v r = dotI M v (if r = k then i else if r = i then k else r) := by
    unfold dotI
    rw [swpM_ex hik, swpM_ex hik, swpM_ex hik, if_pos (show 0 < 3 by omega), if_pos (show 1 < 3 by omega), if_pos (show 2 < 3 by omega)]
    by_cases h : r = k
    · simp only [if_pos h]
    · simp only [if_neg h]
      by_cases h2 : r = i
      · simp only [if_pos h2]
      · simp only [if_neg h2]
  rw [e, swpV_ex, swpV_ex]
  by_cases h : r = k
  · simp only [if_pos h]; exact hS i hi
  · simp only [if_neg h]
    by_cases h2 : r = i
    · simp only [if_pos h2]; exact hS k hk
    · simp only [if_neg h2]; exact hS r hr
/-! a row added -/
theorem f_3 {f : Int32} (h1 : -1 ≤ f.toInt) (h2 : f.toInt ≤ 1) : f = -1 ∨ f = 0 ∨ f = 1 := by
  have n1 : (-1 : Int32).toInt = -1 := rfl
  have n2 : (0 : Int32).toInt = 0 := rfl
  have n3 : (1 : Int32).toInt = 1 := rfl
  rw [i_eq, i_eq, i_eq, n1, n2, n3]
  omega
theorem fm_t {f x : Int32} (h1 : -1 ≤ f.toInt) (h2 : f.toInt ≤ 1) (hx : x.toInt.natAbs ≤ 1000) : (f * x).toInt = f.toInt * x.toInt ∧ (f * x).toInt.natAbs ≤ x.toInt.natAbs ∧ (f.toInt = -1 → (f * x).toInt = -x.toInt) ∧ (f.toInt = 0 → (f * x).toInt = 0) ∧ (f.toInt = 1 → (f * x).toInt = x.toInt) := by
  have b := nm (x := f.toInt) (y := x.toInt) (a := 1) (b := x.toInt.natAbs) (by omega) (Nat.le_refl _)
  have e := i_mul (x := f) (y := x) (by omega) (by omega)
  refine ⟨e, by rw [e]; omega, fun h => by rw [e, h]; omega, fun h => by rw [e, h]; omega, fun h => by rw [e, h]; omega⟩
theorem pl_t {f lo hi : Int32} (h1 : -1 ≤ f.toInt) (h2 : f.toInt ≤ 1) (hl : lo.toInt.natAbs ≤ 999) (hh : hi.toInt.natAbs ≤ 999) : (f.toInt = -1 → (pLow f lo hi).toInt = -hi.toInt ∧ (pHigh f lo hi).toInt = -lo.toInt) ∧ (f.toInt = 0 → (pLow f lo hi).toInt = 0 ∧ (pHigh f lo hi).toInt = 0) ∧ (f.toInt = 1 → (pLow f lo hi).toInt = lo.toInt ∧ (pHigh f lo hi).toInt = hi.toInt) := by
  have z : (0 : Int32).toInt = 0 := rfl
  have fl := fm_t (x := lo) h1 h2 (by omega)
  have fh := fm_t (x := hi) h1 h2 (by omega)
  unfold pLow pHigh
  refine ⟨fun h => ?_, fun h => ?_, fun h => ?_⟩
  · rw [if_pos (by rw [i_lt]; omega), if_pos (by rw [i_lt]; omega)]
    exact ⟨fh.2.2.1 h, fl.2.2.1 h⟩
  · rw [if_neg (by rw [i_lt]; omega), if_neg (by rw [i_lt]; omega)]
    exact ⟨fl.2.2.2.1 h, fh.2.2.2.1 h⟩
  · rw [if_neg (by rw [i_lt]; omega), if_neg (by rw [i_lt]; omega)]
    exact ⟨fl.2.2.2.2 h, fh.2.2.2.2 h⟩
/-- what the law asks before a row is added -/
def fitI (M : Nat → Nat → Int32) (rl rh : Nat → Int32) (i j : Nat) : Prop :=
  (-900 < (rl i).toInt - ((rl j).toInt.natAbs : Int) ∧ (rh i).toInt + ((rh j).toInt.natAbs : Int) < 900 ∧ -900 < (rl i).toInt - ((rh j).toInt.natAbs : Int) ∧ (rh i).toInt + ((rl j).toInt.natAbs : Int) < 900) ∧ ∀ q, q < 3 → (M i q).toInt.natAbs + (M j q).toInt.natAbs < 100
theorem ar_in {M : Nat → Nat → Int32} {v rl rh : Nat → Int32} {i j : Nat} {f : Int32} (hM : okA M) (hR : okR rl rh) (hS : inR M v rl rh) (hi : i < 3) (hj : j < 3) (hij : ¬ j = i) (h1 : -1 ≤ f.toInt) (h2 : f.toInt ≤ 1) (hf : fitI M rl rh i j) :
    kAdd0 3 M rl rh (nI i) (nI j) f = 0 ∧ okA (acM M i j f 3) ∧ okR (upd rl i (rl i + pLow f (rl j) (rh j))) (upd rh i (rh i + pHigh f (rl j) (rh j))) ∧ inR (acM M i j f 3) v (upd rl i (rl i + pLow f (rl j) (rh j))) (upd rh i (rh i + pHigh f (rl j) (rh j))) := by
  obtain ⟨⟨g1, g2, g3, g4⟩, g5⟩ := hf
  have ri := hR i (by omega)
  have rj := hR j (by omega)
  have si := hS i hi
  have sj := hS j hj
  obtain ⟨p1, p2, p3⟩ := pl_t (lo := rl j) (hi := rh j) h1 h2 (by omega) (by omega)
  have n999 : (999 : Int32).toInt = 999 := rfl
  have m999 : (-999 : Int32).toInt = -999 := rfl
  have n99 : (99 : Int32).toInt = 99 := rfl
  have m99 : (-99 : Int32).toInt = -99 := rfl
  have hf3 : f.toInt = -1 ∨ f.toInt = 0 ∨ f.toInt = 1 := by omega
  have pb : (pLow f (rl j) (rh j)).toInt.natAbs ≤ 999 ∧ (pHigh f (rl j) (rh j)).toInt.natAbs ≤ 999 := by
    rcases hf3 with q | q | q
    · have := p1 q; omega
    · have := p2 q; omega
    · have := p3 q; omega
  have eL := i_add (x := rl i) (y := pLow f (rl j) (rh j)) (by omega) (by omega)
  have eH := i_add (x := rh i) (y := pHigh f (rl j) (rh j)) (by omega) (by omega)
  have hb : -999 ≤ (rl i + pLow f (rl j) (rh j)).toInt ∧ (rl i + pLow f (rl j) (rh j)).toInt ≤ (rh i + pHigh f (rl j) (rh j)).toInt ∧ (rh i + pHigh f (rl j) (rh j)).toInt ≤ 999 := by
    rw [eL, eH]
    rcases hf3 with q | q | q
    · have := p1 q; omega
    · have := p2 q; omega
    · have := p3 q; omega
  have hc : ∀ t, t < 3 → (M i t + f * M j t).toInt = (M i t).toInt + f.toInt * (M j t).toInt ∧ -99 ≤ (M i t + f * M j t).toInt ∧ (M i t + f * M j t).toInt ≤ 99 := by
    intro t ht
    have a := hM i t (by omega) (by omega)
    have b := hM j t (by omega) (by omega)
    have g := g5 t ht
    obtain ⟨k1, k2, -, -, -⟩ := fm_t (f := f) (x := M j t) h1 h2 (by omega)
    have e := i_add (x := M i t) (y := f * M j t) (by omega) (by omega)
    rw [e]
    exact ⟨by rw [k1], by omega, by omega⟩
  refine ⟨?_, ?_, ?_, ?_⟩
  · unfold kAdd0
    rw [ix_n hi, ix_n hj, if_pos ⟨ixP_n hi, ixP_n hj⟩, if_pos ⟨fun q => hij ((nI_eq (by omega) (by omega)).mp q).symm, i_le.mpr (by omega), i_le.mpr (by omega)⟩, if_pos]
    refine ⟨⟨⟨⟨i_le.mpr (by omega), i_le.mpr (by omega)⟩, ⟨i_le.mpr (by omega), i_le.mpr (by omega)⟩⟩, i_le.mpr (by omega)⟩, fun t ht => ?_⟩
    have := hc t ht
    exact ⟨i_le.mpr (by omega), i_le.mpr (by omega)⟩
  · intro r c hr hcc
    rw [acM_at hij]
    by_cases w : r = i ∧ c < 3
    · rw [if_pos w]
      have := hc c w.2
      omega
    · rw [if_neg w]
      exact hM r c hr hcc
  · exact keep_R hR (i_le.mpr (by omega)) (i_le.mpr (by omega)) (i_le.mpr (by omega))
  · intro r hr
    by_cases e : r = i
    · subst e
      rw [pk_us, pk_us]
      have ed : dotI (acM M r j f 3) v r = dotI M v r + f.toInt * dotI M v j := by
        unfold dotI
        rw [acM_at hij, acM_at hij, acM_at hij, if_pos ⟨rfl, by omega⟩, if_pos ⟨rfl, by omega⟩, if_pos ⟨rfl, by omega⟩, (hc 0 (by omega)).1, (hc 1 (by omega)).1, (hc 2 (by omega)).1]
        rw [Int.add_mul, Int.add_mul, Int.add_mul, Int.mul_assoc, Int.mul_assoc, Int.mul_assoc, Int.mul_add, Int.mul_add]
        omega
      rw [ed, eL, eH]
      rcases hf3 with q | q | q
      · have := p1 q; rw [q]; omega
      · have := p2 q; rw [q]; omega
      · have := p3 q; rw [q]; omega
    · rw [pk_un e, pk_un e]
      have ed : dotI (acM M i j f 3) v r = dotI M v r := by
        unfold dotI
        rw [acM_at hij, acM_at hij, acM_at hij, if_neg (fun q => e q.1), if_neg (fun q => e q.1), if_neg (fun q => e q.1)]
      rw [ed]
      exact hS r hr
theorem acC_0 {M : Nat → Nat → Int32} {i k : Nat} {f : Int32} : ∀ n : Nat, n ≤ 3 → 0 ≤ (acC M i k f n).toInt ∧ (acC M i k f n).toInt ≤ (n : Int)
  | 0, _ => ⟨by show 0 ≤ (0 : Int32).toInt; decide, by show (0 : Int32).toInt ≤ _; decide⟩
  | n + 1, h => by
    obtain ⟨h1, h2⟩ := acC_0 (M := M) (i := i) (k := k) (f := f) n (by omega)
    have z : (0 : Int32).toInt = 0 := rfl
    have o : (1 : Int32).toInt = 1 := rfl
    show 0 ≤ (acC M i k f n + (if f * acM M i k f n k n = 0 then 0 else 1)).toInt ∧ (acC M i k f n + (if f * acM M i k f n k n = 0 then 0 else 1)).toInt ≤ _
    split
    · rw [i_add (by omega) (by omega)]; omega
    · rw [i_add (by omega) (by omega)]; omega
/-! the law's own numbers -/
def blw (x n : Int32) : Int32 := (x &&& 2147483647) - (x &&& 2147483647) / n * n
theorem and_nn (x : Int32) : 0 ≤ (x &&& 2147483647).toInt := by
  have h : ¬ (x &&& 2147483647) < 0 := by
    intro q
    have h1 : ∀ z : Int32, (z < 0) ↔ z.toBitVec.msb = true := fun z => by
      rw [Int32.lt_iff_toInt_lt]
      show z.toBitVec.toInt < 0 ↔ _
      rw [BitVec.msb_eq_toInt]
      simp
    rw [h1, Int32.toBitVec_and, BitVec.msb_and] at q
    simp at q
    exact absurd q.2 (by decide)
  have := mt i_lt.mpr h
  have z : (0 : Int32).toInt = 0 := rfl
  omega
theorem rem_t {a n : Int32} (ha : 0 ≤ a.toInt) (hn : 0 < n.toInt) : 0 ≤ (a - a / n * n).toInt ∧ (a - a / n * n).toInt < n.toInt := by
  have h1 := Int32.toInt_lt a
  have hd : (a / n).toInt = a.toInt / n.toInt := by
    rw [Int32.toInt_div, Int.tdiv_eq_ediv_of_nonneg ha]
    have := Int.ediv_nonneg ha (by omega : 0 ≤ n.toInt)
    have := Int.ediv_le_self n.toInt ha
    exact Int.bmod_eq_of_le (by omega) (by omega)
  have hm := Int.emod_nonneg a.toInt (show n.toInt ≠ 0 by omega)
  have hl := Int.emod_lt_of_pos a.toInt hn
  have e := Int.mul_ediv_add_emod a.toInt n.toInt
  have hnn := Int.mul_nonneg (show 0 ≤ n.toInt by omega) (Int.ediv_nonneg ha (show 0 ≤ n.toInt by omega))
  have c : a.toInt / n.toInt * n.toInt = n.toInt * (a.toInt / n.toInt) := Int.mul_comm _ _
  have hq : (a / n * n).toInt = n.toInt * (a.toInt / n.toInt) := by
    rw [i_mul (by rw [hd, c]; omega) (by rw [hd, c]; omega), hd, c]
  rw [i_sub (by omega) (by omega), hq]
  omega
theorem blw_t {x n : Int32} (hn : 0 < n.toInt) : 0 ≤ (blw x n).toInt ∧ (blw x n).toInt < n.toInt := rem_t (and_nn x) hn
theorem blw_n {x : Int32} {n : Nat} (h0 : 0 < n) (hn : n < 2 ^ 31) : ∃ k, k < n ∧ blw x (nI n) = nI k := by
  have e := nI_toInt hn
  obtain ⟨h1, h2⟩ := blw_t (x := x) (n := nI n) (by omega)
  refine ⟨(blw x (nI n)).toInt.toNat, by omega, ?_⟩
  rw [i_eq, nI_toInt (by omega)]
  omega
