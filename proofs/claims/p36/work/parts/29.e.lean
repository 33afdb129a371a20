/-! whole sweeps and sharpening -/
theorem jdC_congr2 {x y x' y' f g : Nat → Int32} : ∀ {n : Nat}, (∀ j, j < n → x j = x' j ∧ y j = y' j) → jdC x y f g n = jdC x' y' f g n
  | 0, _ => rfl
  | n + 1, h => by
    show jdC x y f g n + (if x n = f n ∧ y n = g n then 0 else 1) = jdC x' y' f g n + (if x' n = f n ∧ y' n = g n then 0 else 1)
    rw [jdC_congr2 (fun j hj => h j (by omega)), (h n (by omega)).1, (h n (by omega)).2]
theorem jd_step {x y x' y' f g : Nat → Int32} {n r : Int32} {t : Nat} (hn : n = jdC x y f g t) (hx : ∀ j, ¬ j = t → x' j = x j ∧ y' j = y j) (h0 : x t = f t ∧ y t = g t) (hr : r = if x' t = x t ∧ y' t = y t then 0 else 1) : n + r = jdC x' y' f g (t + 1) := by
  show n + r = jdC x' y' f g t + (if x' t = f t ∧ y' t = g t then 0 else 1)
  rw [hn, hr, h0.1, h0.2, jdC_congr2 (fun j hj => ⟨((hx j (by omega)).1).symm, ((hx j (by omega)).2).symm⟩)]
theorem sw_rel {N : Nat} {M : Nat → Nat → Int32} {rl rh bl bh : Nat → Int32} (hN : N ≤ 5) (hM : okA M) (hX : okX bl bh) : ∀ t, t ≤ N → ∃ x y n b, swS N M rl rh bl bh t = (x, y, n, b) ∧ rsS N M rl rh bl bh t = (x, y, b) ∧ okX x y ∧ (b = true → n = jdC x y bl bh t ∧ ∀ j, t ≤ j → x j = bl j ∧ y j = bh j)
  | 0, _ => ⟨bl, bh, 0, true, rfl, rfl, hX, fun _ => ⟨rfl, fun _ _ => ⟨rfl, rfl⟩⟩⟩
  | t + 1, ht => by
    obtain ⟨x, y, n, b, h1, h2, h3, h4⟩ := sw_rel (rl := rl) (rh := rh) hN hM hX t (by omega)
    cases b with
    | false => exact ⟨x, y, n, false, swS_false h1 1, rsS_false h2 1, h3, fun q => by cases q⟩
    | true =>
      obtain ⟨h5, h6⟩ := h4 rfl
      by_cases hz : M t t = 0
      · refine ⟨x, y, n + 0, true, swS_zero h1 hz, rsS_zero h2 hz, h3, fun _ => ⟨jd_step h5 (fun _ _ => ⟨rfl, rfl⟩) (h6 t (Nat.le_refl _)) (by rw [if_pos ⟨rfl, rfl⟩]), fun j hj => h6 j (by omega)⟩⟩
      · obtain ⟨c1, c2⟩ := cr_cb (rl := rl) (rh := rh) hN hM h3 (by omega : t < 5) hz
        obtain ⟨i1, i2, i3, i4⟩ := it_ct (lo := cbLo N M rl rh x y t) (hi := cbHi N M rl rh x y t) h3 (by omega : t < 5)
        by_cases hn : itR (cbLo N M rl rh x y t) (cbHi N M rl rh x y t) x y t < 0
        · refine ⟨x, y, n, false, swS_neg h1 hz hn, rsS_neg h2 hz ?_, h3, fun q => by cases q⟩
          rw [← c1, ← c2]; exact i1.mp hn
        · obtain ⟨i5, i6⟩ := i3 hn
          refine ⟨_, _, _, true, swS_pos h1 hz hn, ?_, i6, fun _ => ⟨jd_step h5 i4 (h6 t (Nat.le_refl _)) i5, fun j hj => ?_⟩⟩
          · rw [rsS_pos h2 hz (by rw [← c1, ← c2]; exact mt i1.mpr hn), ← c1, ← c2, ← i2]
          · rw [(i4 j (by omega)).1, (i4 j (by omega)).2]; exact h6 j (by omega)
theorem sw_eq {N : Nat} {M : Nat → Nat → Int32} {rl rh : Nat → Int32} {z : (Nat → Int32) × (Nat → Int32)} (hN : N ≤ 5) (hM : okA M) (hX : okX z.1 z.2) : sw0 N M rl rh z = sw1 N M rl rh z ∧ okX (sw1 N M rl rh z).2.1 (sw1 N M rl rh z).2.2 := by
  obtain ⟨x, y, n, b, h1, h2, h3, h4⟩ := sw_rel (rl := rl) (rh := rh) hN hM hX N (Nat.le_refl _)
  unfold sw0 sw1
  rw [h1, h2]
  cases b with
  | false => exact ⟨rfl, hX⟩
  | true => exact ⟨by show (n, x, y) = (jdC x y z.1 z.2 N, x, y); rw [(h4 rfl).1], h3⟩
theorem cn_eq {N : Nat} {M : Nat → Nat → Int32} {rl rh : Nat → Int32} (hN : N ≤ 5) (hM : okA M) : ∀ r k z, okX z.1 z.2 → cnS (sw0 N M rl rh) r k z = cnS (sw1 N M rl rh) r k z ∧ okX (cnS (sw1 N M rl rh) r k z).2.1 (cnS (sw1 N M rl rh) r k z).2.2
  | 0, k, z, h => ⟨rfl, h⟩
  | r + 1, k, z, h => by
    obtain ⟨e, h2⟩ := sw_eq (rl := rl) (rh := rh) hN hM h
    obtain ⟨e3, h3⟩ := cn_eq (rl := rl) (rh := rh) hN hM r (k + 1) (sw1 N M rl rh z).2 h2
    show (if (sw0 N M rl rh z).1 < 0 then (-(nI (k + 1)), (sw0 N M rl rh z).2) else if (sw0 N M rl rh z).1 = 0 then (nI (k + 1), (sw0 N M rl rh z).2) else cnS (sw0 N M rl rh) r (k + 1) (sw0 N M rl rh z).2) = (if (sw1 N M rl rh z).1 < 0 then (-(nI (k + 1)), (sw1 N M rl rh z).2) else if (sw1 N M rl rh z).1 = 0 then (nI (k + 1), (sw1 N M rl rh z).2) else cnS (sw1 N M rl rh) r (k + 1) (sw1 N M rl rh z).2) ∧ okX (if (sw1 N M rl rh z).1 < 0 then (-(nI (k + 1)), (sw1 N M rl rh z).2) else if (sw1 N M rl rh z).1 = 0 then (nI (k + 1), (sw1 N M rl rh z).2) else cnS (sw1 N M rl rh) r (k + 1) (sw1 N M rl rh z).2).2.1 (if (sw1 N M rl rh z).1 < 0 then (-(nI (k + 1)), (sw1 N M rl rh z).2) else if (sw1 N M rl rh z).1 = 0 then (nI (k + 1), (sw1 N M rl rh z).2) else cnS (sw1 N M rl rh) r (k + 1) (sw1 N M rl rh z).2).2.2
    rw [e]
    split
    · exact ⟨rfl, h2⟩
    · split
      · exact ⟨rfl, h2⟩
      · exact ⟨e3, h3⟩
theorem rd_int {d x : Int64} {a b : Nat} (hx : x.toInt.natAbs ≤ a) (hd : d.toInt.natAbs ≤ b) (ha : a < 9223372036854775808) (hb : b < 9223372036854775808) (h0 : ¬ d = 0) : ∃ g F D : Int, 0 < g ∧ (sgd d x).toInt = g * F ∧ (absL d).toInt = g * D ∧ (rdN x d).toInt = F ∧ (rdD x d).toInt = D ∧ F.natAbs ≤ a ∧ 0 < D := by
  have hdn : ¬ d.toInt.natAbs = 0 := fun q => h0 (l_z.mpr (by omega))
  have gn := gcN_nat hx hd ha hb
  have hgp : 0 < Nat.gcd x.toInt.natAbs d.toInt.natAbs := Nat.gcd_pos_of_pos_right _ (by omega)
  have hgl : Nat.gcd x.toInt.natAbs d.toInt.natAbs ≤ d.toInt.natAbs := Nat.gcd_le_right _ (by omega)
  have d1 : Nat.gcd x.toInt.natAbs d.toInt.natAbs ∣ x.toInt.natAbs := Nat.gcd_dvd_left _ _
  have d2 : Nat.gcd x.toInt.natAbs d.toInt.natAbs ∣ d.toInt.natAbs := Nat.gcd_dvd_right _ _
  generalize Nat.gcd x.toInt.natAbs d.toInt.natAbs = g at gn hgp hgl d1 d2
  have sa := sgd_abs (d := d) hx ha
  rw [← sa] at d1
  obtain ⟨F, hF⟩ : ((g : Int) ∣ (sgd d x).toInt) := Int.ofNat_dvd_left.mpr d1
  have eD : (absL d).toInt = (d.toInt.natAbs : Int) := B_abs hd hb
  obtain ⟨D, hD⟩ := d2
  have hg0 : ((g : Int)) ≠ 0 := by omega
  have hDp : 0 < D := by
    rcases Nat.eq_zero_or_pos D with q | q
    · rw [q, Nat.mul_zero] at hD; exact absurd hD hdn
    · exact q
  refine ⟨g, F, D, by omega, hF, by rw [eD, hD]; exact Int.natCast_mul g D, ?_, ?_, ?_, by omega⟩
  · show (sgd d x / gcN x d).toInt = F
    rw [gn, l_div (by have := sgd_bd (d := d) hx ha; omega), l_nat (by omega), hF]
    exact Int.mul_tdiv_cancel_left F hg0
  · show (absL d / gcN x d).toInt = D
    rw [gn, l_div (by rw [eD]; omega), l_nat (by omega), eD, hD, Int.natCast_mul]
    exact Int.mul_tdiv_cancel_left (D : Int) hg0
  · have h1 : (sgd d x).toInt.natAbs = g * F.natAbs := by rw [hF, Int.natAbs_mul]; rfl
    have h2 : F.natAbs ≤ g * F.natAbs := Nat.le_mul_of_pos_left _ hgp
    rw [← h1, sa] at h2
    exact Nat.le_trans h2 hx
