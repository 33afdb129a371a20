/-! hulls in units, sharpening, variation, dominance, rows added -/
theorem fl_eq {d x : Int64} {a b : Nat} (hx : x.toInt.natAbs ≤ a) (hd : d.toInt.natAbs ≤ b) (ha : 1024 * a < 4611686018427387904) (hb : b < 9223372036854775808) (h0 : ¬ d = 0) : dnJ (1024 * sgd d x) (absL d) = dnJ (1024 * rdN x d) (rdD x d) ∧ upJ (1024 * sgd d x) (absL d) = upJ (1024 * rdN x d) (rdD x d) := by
  obtain ⟨g, F, D, g0, h1, h2, h3, h4, h5, h6⟩ := rd_int hx hd (by omega) hb h0
  have z : (0 : Int64).toInt = 0 := rfl
  have k : ((1024 : Int64).toInt).natAbs ≤ 1024 := by decide
  have k2 : (1024 : Int64).toInt = 1024 := rfl
  have s1 := B_mul k (sgd_bd (d := d) hx (by omega)) (by omega)
  have s2 := B_mul k (show (rdN x d).toInt.natAbs ≤ a by rw [h3]; exact h5) (by omega)
  have p1 : 0 < absL d := by rw [l_lt, h2, z]; exact Int.mul_pos g0 h6
  have p2 : 0 < rdD x d := by rw [l_lt, h4, z]; exact h6
  have n1 := B_neg s1.2 (by omega)
  have n2 := B_neg s2.2 (by omega)
  have f1 := dn_fl s1.2 (by omega) p1
  have f2 := dn_fl s2.2 (by omega) p2
  have f3 := dn_fl n1.2 (by omega) p1
  have f4 := dn_fl n2.2 (by omega) p2
  have e1 : (1024 : Int) * (g * F) = g * (1024 * F) := Int.mul_left_comm _ _ _
  have e2 : -(g * (1024 * F)) = g * (-(1024 * F)) := (Int.mul_neg _ _).symm
  refine ⟨?_, ?_⟩
  · rw [l_eq, f1.1, f2.1, s1.1, s2.1, h1, h2, h3, h4, k2, e1, Int.mul_fdiv_mul_of_pos _ _ g0]
  · show -(dnJ (-(1024 * sgd d x)) (absL d)) = -(dnJ (-(1024 * rdN x d)) (rdD x d))
    congr 1
    rw [l_eq, f3.1, f4.1, n1.1, n2.1, s1.1, s2.1, h1, h2, h3, h4, k2, e1, e2, Int.mul_fdiv_mul_of_pos _ _ g0]
abbrev okR (rl rh : Nat → Int32) : Prop := ∀ i, i < 5 → -999 ≤ (rl i).toInt ∧ (rl i).toInt ≤ (rh i).toInt ∧ (rh i).toInt ≤ 999
theorem fe_b {M : Nat → Nat → Int32} {N i : Nat} {rl rh : Nat → Int32} {hi : Int32} (hN : N ≤ 5) (hM : okA M) (hR : okR rl rh) (hi5 : i < N) : (feS N M rl rh i hi N).toInt.natAbs ≤ 299886066871875 := by
  have h := feS_bd (rl := rl) (rh := rh) (hi := hi) hN hM (fun i hi => by have := hR i hi; omega) hi5 N (Nat.le_refl _)
  have h2 : N * 59977213374375 ≤ 5 * 59977213374375 := Nat.mul_le_mul_right _ hN
  omega
theorem hl_eq {M : Nat → Nat → Int32} {N i : Nat} {rl rh : Nat → Int32} (hN : N ≤ 5) (hM : okA M) (hR : okR rl rh) (hi5 : i < N) (hd : ¬ detM M N = 0) : hl0 N M rl rh i = hlJ N M rl rh i ∧ hh0 N M rl rh i = hhJ N M rl rh i := by
  have db := det_bd hN hM
  have nz : ¬ absL (detM M N) = 0 := fun q => by
    rw [l_z, B_abs db (by omega)] at q
    exact hd (l_z.mpr (by omega))
  unfold hl0 hh0 hlJ hhJ heN heD
  rw [hul_lo hN hM hi5 hd N (Nat.le_refl _), hul_hi hN hM hi5 hd N (Nat.le_refl _), qd_dn nz, qu_up nz]
  exact ⟨(fl_eq (fe_b hN hM hR hi5) db (by omega) (by omega) hd).1, (fl_eq (fe_b hN hM hR hi5) db (by omega) (by omega) hd).2⟩
theorem sh_rel {N : Nat} {M : Nat → Nat → Int32} {rl rh bl bh : Nat → Int32} (hN : N ≤ 5) (hM : okA M) (hR : okR rl rh) (hd : ¬ detM M N = 0) (hX : okX bl bh) : ∀ t, t ≤ N → ∃ x y n b, shS N M rl rh bl bh t = (x, y, n, b) ∧ rhS N M rl rh bl bh t = (x, y, b) ∧ okX x y ∧ (b = true → n = jdC x y bl bh t ∧ ∀ j, t ≤ j → x j = bl j ∧ y j = bh j)
  | 0, _ => ⟨bl, bh, 0, true, rfl, rfl, hX, fun _ => ⟨rfl, fun _ _ => ⟨rfl, rfl⟩⟩⟩
  | t + 1, ht => by
    obtain ⟨x, y, n, b, h1, h2, h3, h4⟩ := sh_rel hN hM hR hd hX t (by omega)
    cases b with
    | false => exact ⟨x, y, n, false, shS_false h1 1, rhS_false h2 1, h3, fun q => by cases q⟩
    | true =>
      obtain ⟨h5, h6⟩ := h4 rfl
      obtain ⟨c1, c2⟩ := hl_eq hN hM hR (by omega : t < N) hd
      obtain ⟨i1, i2, i3, i4⟩ := it_ct (lo := hl0 N M rl rh t) (hi := hh0 N M rl rh t) h3 (by omega : t < 5)
      by_cases hn : itR (hl0 N M rl rh t) (hh0 N M rl rh t) x y t < 0
      · refine ⟨x, y, n, false, shS_neg h1 hn, rhS_neg h2 ?_, h3, fun q => by cases q⟩
        rw [← c1, ← c2]; exact i1.mp hn
      · obtain ⟨i5, i6⟩ := i3 hn
        refine ⟨_, _, _, true, shS_pos h1 hn, ?_, i6, fun _ => ⟨jd_step h5 i4 (h6 t (Nat.le_refl _)) i5, fun j hj => ?_⟩⟩
        · rw [rhS_pos h2 (by rw [← c1, ← c2]; exact mt i1.mpr hn), ← c1, ← c2, ← i2]
        · rw [(i4 j (by omega)).1, (i4 j (by omega)).2]; exact h6 j (by omega)
theorem sh_eq {N : Nat} {M : Nat → Nat → Int32} {rl rh : Nat → Int32} {z : (Nat → Int32) × (Nat → Int32)} (hN : N ≤ 5) (hM : okA M) (hR : okR rl rh) (hd : ¬ detM M N = 0) (hX : okX z.1 z.2) : sh0 N M rl rh z = sh1 N M rl rh z ∧ okX (sh1 N M rl rh z).2.1 (sh1 N M rl rh z).2.2 := by
  obtain ⟨x, y, n, b, h1, h2, h3, h4⟩ := sh_rel hN hM hR hd hX N (Nat.le_refl _)
  unfold sh0 sh1
  rw [h1, h2]
  cases b with
  | false => exact ⟨rfl, hX⟩
  | true => exact ⟨by show (n, x, y) = (jdC x y z.1 z.2 N, x, y); rw [(h4 rfl).1], h3⟩
theorem abs_iv {M : Nat → Nat → Int32} {N i j : Nat} (hN : N ≤ 5) (hM : okA M) (hi : i < N) : absL (ivF M N i j) = absL (cofM M N i j) := by
  have h := cof_bd (j := j) hN hM hi
  rw [ivF_cof, l_eq, B_abs (sgd_bd h (by omega)) (by omega), B_abs h (by omega), sgd_abs h (by omega)]
/-- the spread sums, the other way round -/
theorem svJ_s (w : Int64) (sp : Nat → Int32) (s : Int64) : ∀ n, svJ w sp s n = s + svJ w sp 0 n
  | 0 => by show s = s + 0; rw [Int64.add_zero]
  | n + 1 => by
    show svJ w sp s n + absL w * (sp n).toInt64 = s + (svJ w sp 0 n + absL w * (sp n).toInt64)
    rw [svJ_s w sp s n, Int64.add_assoc]
theorem fvK_s (M S : Nat → Nat → Int32) (N i j : Nat) (s : Int64) : ∀ n, fvK M S N i j s n = s + fvK M S N i j 0 n
  | 0 => by show s = s + 0; rw [Int64.add_zero]
  | n + 1 => by
    show fvK M S N i j s n + _ = s + (fvK M S N i j 0 n + _)
    rw [fvK_s M S N i j s n, Int64.add_assoc]
def sm (g : Nat → Int64) : Nat → Int64
  | 0 => 0
  | n + 1 => sm g n + g n
theorem sm_congr {g h : Nat → Int64} : ∀ {n : Nat}, (∀ j, j < n → g j = h j) → sm g n = sm h n
  | 0, _ => rfl
  | n + 1, e => by
    show sm g n + g n = sm h n + h n
    rw [sm_congr (fun j hj => e j (by omega)), e n (by omega)]
theorem sm_add (g h : Nat → Int64) : ∀ n, sm (fun j => g j + h j) n = sm g n + sm h n
  | 0 => by show (0 : Int64) = 0 + 0; rw [Int64.add_zero]
  | n + 1 => by
    show sm (fun j => g j + h j) n + (g n + h n) = (sm g n + g n) + (sm h n + h n)
    rw [sm_add g h n, Int64.add_assoc, Int64.add_assoc]
    congr 1
    rw [← Int64.add_assoc, ← Int64.add_assoc, Int64.add_comm (sm h n) (g n)]
theorem sm_0 : ∀ n, sm (fun _ => 0) n = 0
  | 0 => rfl
  | n + 1 => by
    show sm (fun _ => 0) n + 0 = 0
    rw [sm_0 n, Int64.add_zero]
theorem sm_swap (f : Nat → Nat → Int64) (m : Nat) : ∀ n, sm (fun k => sm (fun j => f k j) m) n = sm (fun j => sm (fun k => f k j) n) m
  | 0 => (sm_0 m).symm
  | n + 1 => by
    show sm (fun k => sm (fun j => f k j) m) n + sm (fun j => f n j) m = sm (fun j => sm (fun k => f k j) n + f n j) m
    rw [sm_swap f m n, sm_add]
theorem svJ_sm (w : Int64) (sp : Nat → Int32) : ∀ n, svJ w sp 0 n = sm (fun j => absL w * (sp j).toInt64) n
  | 0 => rfl
  | n + 1 => by
    show svJ w sp 0 n + absL w * (sp n).toInt64 = _
    rw [svJ_sm w sp n]; rfl
theorem fvK_sm (M S : Nat → Nat → Int32) (N i j : Nat) : ∀ n, fvK M S N i j 0 n = sm (fun k => absL (cofM M N i k) * (S k j).toInt64) n
  | 0 => rfl
  | n + 1 => by
    show fvK M S N i j 0 n + absL (cofM M N i n) * (S n j).toInt64 = _
    rw [fvK_sm M S N i j n]; rfl
theorem svK_sm (w : Nat → Int64) (S : Nat → Nat → Int32) (N : Nat) : ∀ n, svK w S N n = sm (fun k => sm (fun j => absL (w k) * (S k j).toInt64) N) n
  | 0 => rfl
  | n + 1 => by
    show svJ (w n) (S n) (svK w S N n) N = _
    rw [svJ_s, svK_sm w S N n, svJ_sm]; rfl
theorem fvJ_sm (M S : Nat → Nat → Int32) (N i : Nat) : ∀ n, fvJ M S N i n = sm (fun j => sm (fun k => absL (cofM M N i k) * (S k j).toInt64) N) n
  | 0 => rfl
  | n + 1 => by
    show fvK M S N i n (fvJ M S N i n) N = _
    rw [fvK_s, fvJ_sm M S N i n, fvK_sm]; rfl
theorem sv_fv {M S : Nat → Nat → Int32} {N : Nat} (hN : N ≤ 5) (hM : okA M) : ∀ n, n ≤ N → svI (ivF M N) S N n = fvI M S N n
  | 0, _ => rfl
  | n + 1, h => by
    show maxL (svI (ivF M N) S N n) (svK (ivF M N n) S N N) = maxL (fvI M S N n) (fvJ M S N n N)
    rw [sv_fv hN hM n (by omega), svK_sm, fvJ_sm, sm_swap (fun k j => absL (ivF M N n k) * (S k j).toInt64)]
    congr 1
    exact sm_congr (fun j _ => sm_congr (fun k _ => by show absL (ivF M N n k) * _ = _; rw [abs_iv hN hM (by omega)]))
theorem sm_bd {g : Nat → Int64} {c : Nat} : ∀ {n : Nat}, n ≤ 5 → 5 * c < 9223372036854775808 → (∀ j, j < n → (g j).toInt.natAbs ≤ c) → (sm g n).toInt.natAbs ≤ n * c
  | 0, _, _, _ => Nat.zero_le _
  | n + 1, hn, hc, h => by
    have hs : (n + 1) * c = n * c + c := Nat.succ_mul n c
    have h4 : n * c ≤ 4 * c := Nat.mul_le_mul_right _ (by omega)
    have h1 := sm_bd (g := g) (n := n) (by omega) hc (fun j hj => h j (by omega))
    rw [hs]
    exact (B_add h1 (h n (by omega)) (by omega)).2
theorem maxL_bd {x y : Int64} {c : Nat} (hx : x.toInt.natAbs ≤ c) (hy : y.toInt.natAbs ≤ c) : (maxL x y).toInt.natAbs ≤ c := by
  unfold maxL; split <;> assumption
theorem fv_bd {M S : Nat → Nat → Int32} {N : Nat} (hN : N ≤ 5) (hM : okA M) (hS : ∀ i j, i < 5 → j < 5 → 0 ≤ (S i j).toInt ∧ (S i j).toInt ≤ 50) : ∀ n, n ≤ N → (fvI M S N n).toInt.natAbs ≤ 75046563281250
  | 0, _ => Nat.zero_le _
  | n + 1, h => by
    refine maxL_bd (fv_bd hN hM hS n (by omega)) ?_
    rw [fvJ_sm]
    have hc : ∀ j, j < N → (sm (fun k => absL (cofM M N n k) * (S k j).toInt64) N).toInt.natAbs ≤ 15009312656250 := fun j hj => by
      refine Nat.le_trans (sm_bd (c := 3001862531250) hN (by omega) (fun k hk => ?_)) (by omega)
      have hcb := cof_bd (j := k) hN hM (by omega : n < N)
      have hs := hS k j (by omega) (by omega)
      exact (B_mul (b := 50) (show (absL (cofM M N n k)).toInt.natAbs ≤ 60037250625 by rw [B_abs hcb (by omega)]; exact hcb) (by rw [B_32]; omega) (by omega)).2
    exact Nat.le_trans (sm_bd (c := 15009312656250) hN (by omega) hc) (by omega)
