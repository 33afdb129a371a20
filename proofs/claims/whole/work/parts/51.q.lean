/-! both sides together -/
def okAll (N : Nat) (M S : Nat → Nat → Int32) (rl rh bl bh : Nat → Int32) : Prop := 1 ≤ N ∧ N ≤ 5 ∧ okA M ∧ okT S ∧ okR rl rh ∧ okX bl bh
/-- class and reference hold the same; the reference's note of what was thrown is k -/
def RelT (k : Int32) (u : S0) (v : S1) : Prop := ∃ (N : Nat) (M S : Nat → Nat → Int32) (rl rh bl bh kl kh : Nat → Int32) (mn vc : Nat → Int64) (iv : Nat → Nat → Int64) (sc : Int64) (fl fh : Nat → Int32) (pt : Nat → Int64) (nu de : Int64), okAll N M S rl rh bl bh ∧ u = (N, M, S, rl, rh, bl, bh, kl, kh, mn, vc, iv, sc) ∧ v = (N, M, S, rl, rh, bl, bh, k, fl, fh, pt, nu, de)
theorem RelT_mk {k : Int32} {N : Nat} {M S : Nat → Nat → Int32} {rl rh bl bh kl kh : Nat → Int32} {mn vc : Nat → Int64} {iv : Nat → Nat → Int64} {sc : Int64} {fl fh : Nat → Int32} {pt : Nat → Int64} {nu de : Int64} (hok : okAll N M S rl rh bl bh) : RelT k (N, M, S, rl, rh, bl, bh, kl, kh, mn, vc, iv, sc) (N, M, S, rl, rh, bl, bh, k, fl, fh, pt, nu, de) := ⟨N, M, S, rl, rh, bl, bh, kl, kh, mn, vc, iv, sc, fl, fh, pt, nu, de, hok, rfl, rfl⟩
theorem okAll_m {N : Nat} {M S : Nat → Nat → Int32} {rl rh bl bh : Nat → Int32} (hok : okAll N M S rl rh bl bh) : okM N M S rl rh := okM_of hok.2.1 hok.2.2.1 hok.2.2.2.1 hok.2.2.2.2.1 (fun hd => con_ok hok.1 hok.2.1 hok.2.2.1 hd)
theorem okAll_q {N : Nat} {M S : Nat → Nat → Int32} {rl rh bl bh : Nat → Int32} (hok : okAll N M S rl rh bl bh) : ¬ detM M N = 0 → vf_n64 (cdQ M N) ∧ vf_n64 (cdD M N) := fun hd => by
  rw [(eq_con hok.2.1 hok.2.2.1).1, (eq_con hok.2.1 hok.2.2.1).2]
  exact con_ok hok.1 hok.2.1 hok.2.2.1 hd
theorem ite_iff {P Q : Prop} [Decidable P] [Decidable Q] {x y : Int32} (h : P ↔ Q) : (if P then x else y) = (if Q then x else y) := by
  by_cases q : P
  · rw [if_pos q, if_pos (h.mp q)]
  · rw [if_neg q, if_neg (mt h.mpr q)]
theorem kSize_0 {p : Int32} (h : kSize p = 0) : 1 ≤ ix p ∧ ix p ≤ 5 := by
  unfold kSize at h
  by_cases c : 1 ≤ p ∧ p ≤ 5
  · obtain ⟨j, hj, rfl⟩ := nI_of (x := p) (fun hn => by
      have h1 := Int32.le_iff_toInt_le.mp c.1
      have h2 := Int32.lt_iff_toInt_lt.mp hn
      have e1 : (1 : Int32).toInt = 1 := rfl
      have e0 : (0 : Int32).toInt = 0 := rfl
      omega)
    have e : ix (nI j) = j := nI_clamp hj
    rw [e]
    exact ⟨(nI_leI (a := 1) (b := j) (by omega) hj).mp c.1, (nI_leI (a := j) (b := 5) hj (by omega)).mp c.2⟩
  · rw [if_neg c] at h; exact absurd h (by decide)
theorem kVal_0 {N : Nat} {p q v lo hi : Int32} (h : kVal N p q v lo hi = 0) : (ixP N p ∧ ixP N q) ∧ lo ≤ v ∧ v ≤ hi := by
  unfold kVal at h
  by_cases c : ixP N p ∧ ixP N q
  · rw [if_pos c] at h
    by_cases c2 : lo ≤ v ∧ v ≤ hi
    · exact ⟨c, c2⟩
    · rw [if_neg c2] at h; exact absurd h (by decide)
  · rw [if_neg c] at h; exact absurd h (by decide)
theorem kInt_0 {N : Nat} {p lo hi b : Int32} (h : kInt N p lo hi b = 0) : ixP N p ∧ (-b ≤ lo ∧ hi ≤ b) ∧ lo ≤ hi := by
  unfold kInt at h
  by_cases c : ixP N p
  · rw [if_pos c] at h
    by_cases c2 : (-b ≤ lo ∧ hi ≤ b) ∧ lo ≤ hi
    · exact ⟨c, c2⟩
    · rw [if_neg c2] at h; exact absurd h (by decide)
  · rw [if_neg c] at h; exact absurd h (by decide)
theorem kIx2_0 {N : Nat} {p q : Int32} (h : kIx2 N p q = 0) : ixP N p ∧ ixP N q := by
  unfold kIx2 at h
  by_cases c : ixP N p ∧ ixP N q
  · exact c
  · rw [if_neg c] at h; exact absurd h (by decide)
theorem kHul_0 {N : Nat} {M : Nat → Nat → Int32} {p : Int32} (h : kHul N M p = 0) : ixP N p ∧ ¬ detM M N = 0 := by
  unfold kHul at h
  by_cases c : ixP N p
  · rw [if_pos c] at h
    by_cases c2 : detM M N = 0
    · rw [if_pos c2] at h; exact absurd h (by decide)
    · exact ⟨c, c2⟩
  · rw [if_neg c] at h; exact absurd h (by decide)
theorem kHul2_0 {N : Nat} {M : Nat → Nat → Int32} {p q : Int32} (h : kHul2 N M p q = 0) : (ixP N p ∧ ixP N q) ∧ ¬ detM M N = 0 := by
  unfold kHul2 at h
  by_cases c : ixP N p ∧ ixP N q
  · rw [if_pos c] at h
    by_cases c2 : detM M N = 0
    · rw [if_pos c2] at h; exact absurd h (by decide)
    · exact ⟨c, c2⟩
  · rw [if_neg c] at h; exact absurd h (by decide)
theorem kDet_0 {N : Nat} {M : Nat → Nat → Int32} (h : kDet N M = 0) : ¬ detM M N = 0 := by
  intro c
  unfold kDet at h
  rw [if_pos c] at h; exact absurd h (by decide)
theorem kAdd_0 {N : Nat} {M : Nat → Nat → Int32} {rl rh : Nat → Int32} {p q f : Int32} (h : kAdd N M rl rh p q f = 0) : (ixP N p ∧ ixP N q) ∧ (¬ p = q ∧ -99 ≤ f ∧ f ≤ 99) ∧ arF N M rl rh (ix p) (ix q) f := by
  unfold kAdd at h
  by_cases c : ixP N p ∧ ixP N q
  · rw [if_pos c] at h
    by_cases c2 : ¬ p = q ∧ -99 ≤ f ∧ f ≤ 99
    · rw [if_pos c2] at h
      by_cases c3 : arF N M rl rh (ix p) (ix q) f
      · exact ⟨c, c2, c3⟩
      · rw [if_neg c3] at h; exact absurd h (by decide)
    · rw [if_neg c2] at h; exact absurd h (by decide)
  · rw [if_neg c] at h; exact absurd h (by decide)
set_option maxHeartbeats 1000000 in
theorem pr_setSize {N : Nat} {M S : Nat → Nat → Int32} {rl rh bl bh : Nat → Int32} (hok : okAll N M S rl rh bl bh) {kl kh : Nat → Int32} {mn vc : Nat → Int64} {iv : Nat → Nat → Int64} {sc : Int64} {fl fh : Nat → Int32} {pt : Nat → Int64} {nu de : Int64} {p0 : Int32} {k : Int32} {u : S0} {g : Nat → Int64} {gd : Nat → UInt64} {r : Int32} {v : S1} (hz : yPost (kSize p0) (p0.toInt64) (fun u => u = (ix p0, matz M 5, matz S 5, vecz rl 0 5, vecz rh 0 5, vecz bl (-1000000000) 5, vecz bh 1000000000 5, kl, kh, mn, vc, iv, sc)) (fun u => u = (N, M, S, rl, rh, bl, bh, kl, kh, mn, vc, iv, sc)) k (u, g, gd)) (hv : (fun r u => r = onlyIf (kSize p0) p0 0 ∧ u = (onlyIf (kSize p0) (ix p0) N, onlyIf (kSize p0) (matz M 5) M, onlyIf (kSize p0) (matz S 5) S, onlyIf (kSize p0) (vecz rl 0 5) rl, onlyIf (kSize p0) (vecz rh 0 5) rh, onlyIf (kSize p0) (vecz bl (-1000000000) 5) bl, onlyIf (kSize p0) (vecz bh 1000000000 5) bh, kSize p0, fl, fh, pt, nu, de)) r v) : (k = 0 → g 0 = r.toInt64) ∧ RelT k u v := by
  obtain ⟨hb, hv⟩ := hv
  rcases hz with ⟨hc, hk, hg, hu⟩ | ⟨hc, hk, hu⟩
  · dsimp only at hu hg
    try simp only [onlyIf, if_pos hc] at hb hv
    refine ⟨fun _ => by rw [hg, hb], ?_⟩
    rw [hk, hu, hv, hc]
    exact RelT_mk ⟨(kSize_0 hc).1, (kSize_0 hc).2, keep_0 M S rl rh bl bh⟩
  · dsimp only at hu
    refine ⟨fun h => absurd (hk.symm.trans h) hc, ?_⟩
    try simp only [onlyIf, if_neg hc] at hv
    rw [hk, hu, hv]
    exact RelT_mk hok
set_option maxHeartbeats 1000000 in
theorem pr_setCoefficient {N : Nat} {M S : Nat → Nat → Int32} {rl rh bl bh : Nat → Int32} (hok : okAll N M S rl rh bl bh) {kl kh : Nat → Int32} {mn vc : Nat → Int64} {iv : Nat → Nat → Int64} {sc : Int64} {fl fh : Nat → Int32} {pt : Nat → Int64} {nu de : Int64} {p0 : Int32} {p1 : Int32} {p2 : Int32} {k : Int32} {u : S0} {g : Nat → Int64} {gd : Nat → UInt64} {r : Int32} {v : S1} (hz : yPost (kVal N p0 p1 p2 (-99) 99) ((M (ix p0) (ix p1)).toInt64) (fun u => u = (N, up2 M (ix p0) (ix p1) p2, S, rl, rh, bl, bh, kl, kh, mn, vc, iv, sc)) (fun u => u = (N, M, S, rl, rh, bl, bh, kl, kh, mn, vc, iv, sc)) k (u, g, gd)) (hv : (fun r u => r = onlyIf (kVal N p0 p1 p2 (-99) 99) (M (ix p0) (ix p1)) 0 ∧ u = (N, onlyIf (kVal N p0 p1 p2 (-99) 99) (up2 M (ix p0) (ix p1) p2) M, S, rl, rh, bl, bh, (kVal N p0 p1 p2 (-99) 99), fl, fh, pt, nu, de)) r v) : (k = 0 → g 0 = r.toInt64) ∧ RelT k u v := by
  obtain ⟨hb, hv⟩ := hv
  rcases hz with ⟨hc, hk, hg, hu⟩ | ⟨hc, hk, hu⟩
  · dsimp only at hu hg
    try simp only [onlyIf, if_pos hc] at hb hv
    refine ⟨fun _ => by rw [hg, hb], ?_⟩
    rw [hk, hu, hv, hc]
    exact RelT_mk ⟨hok.1, hok.2.1, keep_M hok.2.2.1 (kVal_0 hc).2.1 (kVal_0 hc).2.2, hok.2.2.2⟩
  · dsimp only at hu
    refine ⟨fun h => absurd (hk.symm.trans h) hc, ?_⟩
    try simp only [onlyIf, if_neg hc] at hv
    rw [hk, hu, hv]
    exact RelT_mk hok
set_option maxHeartbeats 1000000 in
theorem pr_coefficient {N : Nat} {M S : Nat → Nat → Int32} {rl rh bl bh : Nat → Int32} (hok : okAll N M S rl rh bl bh) {kl kh : Nat → Int32} {mn vc : Nat → Int64} {iv : Nat → Nat → Int64} {sc : Int64} {fl fh : Nat → Int32} {pt : Nat → Int64} {nu de : Int64} {p0 : Int32} {p1 : Int32} {k : Int32} {u : S0} {g : Nat → Int64} {gd : Nat → UInt64} {r : Int32} {v : S1} (hz : yPost (kIx2 N p0 p1) ((M (ix p0) (ix p1)).toInt64) (fun u => u = (N, M, S, rl, rh, bl, bh, kl, kh, mn, vc, iv, sc)) (fun u => u = (N, M, S, rl, rh, bl, bh, kl, kh, mn, vc, iv, sc)) k (u, g, gd)) (hv : (fun r u => r = onlyIf (kIx2 N p0 p1) (M (ix p0) (ix p1)) 0 ∧ u = (N, M, S, rl, rh, bl, bh, (kIx2 N p0 p1), fl, fh, pt, nu, de)) r v) : (k = 0 → g 0 = r.toInt64) ∧ RelT k u v := by
  obtain ⟨hb, hv⟩ := hv
  rcases hz with ⟨hc, hk, hg, hu⟩ | ⟨hc, hk, hu⟩
  · dsimp only at hu hg
    try simp only [onlyIf, if_pos hc] at hb hv
    refine ⟨fun _ => by rw [hg, hb], ?_⟩
    rw [hk, hu, hv, hc]
    exact RelT_mk hok
  · dsimp only at hu
    refine ⟨fun h => absurd (hk.symm.trans h) hc, ?_⟩
    try simp only [onlyIf, if_neg hc] at hv
    rw [hk, hu, hv]
    exact RelT_mk hok
set_option maxHeartbeats 1000000 in
theorem pr_setRight {N : Nat} {M S : Nat → Nat → Int32} {rl rh bl bh : Nat → Int32} (hok : okAll N M S rl rh bl bh) {kl kh : Nat → Int32} {mn vc : Nat → Int64} {iv : Nat → Nat → Int64} {sc : Int64} {fl fh : Nat → Int32} {pt : Nat → Int64} {nu de : Int64} {p0 : Int32} {p1 : Int32} {p2 : Int32} {k : Int32} {u : S0} {g : Nat → Int64} {gd : Nat → UInt64} {r : Int32} {v : S1} (hz : yPost (kInt N p0 p1 p2 999) (yb (othR (rl (ix p0)) (rh (ix p0)) p1 p2)) (fun u => u = (N, M, S, upd rl (ix p0) p1, upd rh (ix p0) p2, bl, bh, kl, kh, mn, vc, iv, sc)) (fun u => u = (N, M, S, rl, rh, bl, bh, kl, kh, mn, vc, iv, sc)) k (u, g, gd)) (hv : (fun r u => r = onlyIf (kInt N p0 p1 p2 999) (othR (rl (ix p0)) (rh (ix p0)) p1 p2) 0 ∧ u = (N, M, S, onlyIf (kInt N p0 p1 p2 999) (upd rl (ix p0) p1) rl, onlyIf (kInt N p0 p1 p2 999) (upd rh (ix p0) p2) rh, bl, bh, (kInt N p0 p1 p2 999), fl, fh, pt, nu, de)) r v) : (k = 0 → g 0 = yb r) ∧ RelT k u v := by
  obtain ⟨hb, hv⟩ := hv
  rcases hz with ⟨hc, hk, hg, hu⟩ | ⟨hc, hk, hu⟩
  · dsimp only at hu hg
    try simp only [onlyIf, if_pos hc] at hb hv
    refine ⟨fun _ => by rw [hg, hb], ?_⟩
    rw [hk, hu, hv, hc]
    exact RelT_mk ⟨hok.1, hok.2.1, hok.2.2.1, hok.2.2.2.1, keep_R hok.2.2.2.2.1 (kInt_0 hc).2.1.1 (kInt_0 hc).2.1.2 (kInt_0 hc).2.2, hok.2.2.2.2.2⟩
  · dsimp only at hu
    refine ⟨fun h => absurd (hk.symm.trans h) hc, ?_⟩
    try simp only [onlyIf, if_neg hc] at hv
    rw [hk, hu, hv]
    exact RelT_mk hok
set_option maxHeartbeats 1000000 in
theorem pr_rightLow {N : Nat} {M S : Nat → Nat → Int32} {rl rh bl bh : Nat → Int32} (hok : okAll N M S rl rh bl bh) {kl kh : Nat → Int32} {mn vc : Nat → Int64} {iv : Nat → Nat → Int64} {sc : Int64} {fl fh : Nat → Int32} {pt : Nat → Int64} {nu de : Int64} {p0 : Int32} {k : Int32} {u : S0} {g : Nat → Int64} {gd : Nat → UInt64} {r : Int32} {v : S1} (hz : yPost (kIx N p0) ((rl (ix p0)).toInt64) (fun u => u = (N, M, S, rl, rh, bl, bh, kl, kh, mn, vc, iv, sc)) (fun u => u = (N, M, S, rl, rh, bl, bh, kl, kh, mn, vc, iv, sc)) k (u, g, gd)) (hv : (fun r u => r = onlyIf (kIx N p0) (rl (ix p0)) 0 ∧ u = (N, M, S, rl, rh, bl, bh, (kIx N p0), fl, fh, pt, nu, de)) r v) : (k = 0 → g 0 = r.toInt64) ∧ RelT k u v := by
  obtain ⟨hb, hv⟩ := hv
  rcases hz with ⟨hc, hk, hg, hu⟩ | ⟨hc, hk, hu⟩
  · dsimp only at hu hg
    try simp only [onlyIf, if_pos hc] at hb hv
    refine ⟨fun _ => by rw [hg, hb], ?_⟩
    rw [hk, hu, hv, hc]
    exact RelT_mk hok
  · dsimp only at hu
    refine ⟨fun h => absurd (hk.symm.trans h) hc, ?_⟩
    try simp only [onlyIf, if_neg hc] at hv
    rw [hk, hu, hv]
    exact RelT_mk hok
set_option maxHeartbeats 1000000 in
theorem pr_rightHigh {N : Nat} {M S : Nat → Nat → Int32} {rl rh bl bh : Nat → Int32} (hok : okAll N M S rl rh bl bh) {kl kh : Nat → Int32} {mn vc : Nat → Int64} {iv : Nat → Nat → Int64} {sc : Int64} {fl fh : Nat → Int32} {pt : Nat → Int64} {nu de : Int64} {p0 : Int32} {k : Int32} {u : S0} {g : Nat → Int64} {gd : Nat → UInt64} {r : Int32} {v : S1} (hz : yPost (kIx N p0) ((rh (ix p0)).toInt64) (fun u => u = (N, M, S, rl, rh, bl, bh, kl, kh, mn, vc, iv, sc)) (fun u => u = (N, M, S, rl, rh, bl, bh, kl, kh, mn, vc, iv, sc)) k (u, g, gd)) (hv : (fun r u => r = onlyIf (kIx N p0) (rh (ix p0)) 0 ∧ u = (N, M, S, rl, rh, bl, bh, (kIx N p0), fl, fh, pt, nu, de)) r v) : (k = 0 → g 0 = r.toInt64) ∧ RelT k u v := by
  obtain ⟨hb, hv⟩ := hv
  rcases hz with ⟨hc, hk, hg, hu⟩ | ⟨hc, hk, hu⟩
  · dsimp only at hu hg
    try simp only [onlyIf, if_pos hc] at hb hv
    refine ⟨fun _ => by rw [hg, hb], ?_⟩
    rw [hk, hu, hv, hc]
    exact RelT_mk hok
  · dsimp only at hu
    refine ⟨fun h => absurd (hk.symm.trans h) hc, ?_⟩
    try simp only [onlyIf, if_neg hc] at hv
    rw [hk, hu, hv]
    exact RelT_mk hok
set_option maxHeartbeats 1000000 in
theorem pr_setSpread {N : Nat} {M S : Nat → Nat → Int32} {rl rh bl bh : Nat → Int32} (hok : okAll N M S rl rh bl bh) {kl kh : Nat → Int32} {mn vc : Nat → Int64} {iv : Nat → Nat → Int64} {sc : Int64} {fl fh : Nat → Int32} {pt : Nat → Int64} {nu de : Int64} {p0 : Int32} {p1 : Int32} {p2 : Int32} {k : Int32} {u : S0} {g : Nat → Int64} {gd : Nat → UInt64} {r : Int32} {v : S1} (hz : yPost (kVal N p0 p1 p2 0 50) ((S (ix p0) (ix p1)).toInt64) (fun u => u = (N, M, up2 S (ix p0) (ix p1) p2, rl, rh, bl, bh, kl, kh, mn, vc, iv, sc)) (fun u => u = (N, M, S, rl, rh, bl, bh, kl, kh, mn, vc, iv, sc)) k (u, g, gd)) (hv : (fun r u => r = onlyIf (kVal N p0 p1 p2 0 50) (S (ix p0) (ix p1)) 0 ∧ u = (N, M, onlyIf (kVal N p0 p1 p2 0 50) (up2 S (ix p0) (ix p1) p2) S, rl, rh, bl, bh, (kVal N p0 p1 p2 0 50), fl, fh, pt, nu, de)) r v) : (k = 0 → g 0 = r.toInt64) ∧ RelT k u v := by
  obtain ⟨hb, hv⟩ := hv
  rcases hz with ⟨hc, hk, hg, hu⟩ | ⟨hc, hk, hu⟩
  · dsimp only at hu hg
    try simp only [onlyIf, if_pos hc] at hb hv
    refine ⟨fun _ => by rw [hg, hb], ?_⟩
    rw [hk, hu, hv, hc]
    exact RelT_mk ⟨hok.1, hok.2.1, hok.2.2.1, keep_S hok.2.2.2.1 (kVal_0 hc).2.1 (kVal_0 hc).2.2, hok.2.2.2.2⟩
  · dsimp only at hu
    refine ⟨fun h => absurd (hk.symm.trans h) hc, ?_⟩
    try simp only [onlyIf, if_neg hc] at hv
    rw [hk, hu, hv]
    exact RelT_mk hok
set_option maxHeartbeats 1000000 in
theorem pr_swapRows {N : Nat} {M S : Nat → Nat → Int32} {rl rh bl bh : Nat → Int32} (hok : okAll N M S rl rh bl bh) {kl kh : Nat → Int32} {mn vc : Nat → Int64} {iv : Nat → Nat → Int64} {sc : Int64} {fl fh : Nat → Int32} {pt : Nat → Int64} {nu de : Int64} {p0 : Int32} {p1 : Int32} {k : Int32} {u : S0} {g : Nat → Int64} {gd : Nat → UInt64} {r : Int32} {v : S1} (hz : yPost (kIx2 N p0 p1) (yb (neI p0 p1)) (fun u => u = (N, swpM M (ix p0) (ix p1) N, swpM S (ix p0) (ix p1) N, swpV rl (ix p0) (ix p1), swpV rh (ix p0) (ix p1), bl, bh, kl, kh, mn, vc, iv, sc)) (fun u => u = (N, M, S, rl, rh, bl, bh, kl, kh, mn, vc, iv, sc)) k (u, g, gd)) (hv : (fun r u => r = onlyIf (kIx2 N p0 p1) (neI p0 p1) 0 ∧ u = (N, onlyIf (kIx2 N p0 p1) (swpM M (ix p0) (ix p1) N) M, onlyIf (kIx2 N p0 p1) (swpM S (ix p0) (ix p1) N) S, onlyIf (kIx2 N p0 p1) (swpV rl (ix p0) (ix p1)) rl, onlyIf (kIx2 N p0 p1) (swpV rh (ix p0) (ix p1)) rh, bl, bh, (kIx2 N p0 p1), fl, fh, pt, nu, de)) r v) : (k = 0 → g 0 = yb r) ∧ RelT k u v := by
  obtain ⟨hb, hv⟩ := hv
  rcases hz with ⟨hc, hk, hg, hu⟩ | ⟨hc, hk, hu⟩
  · dsimp only at hu hg
    have hi : ix p0 < 5 := Nat.lt_of_lt_of_le (ixP_at hok.2.1 (kIx2_0 hc).1).2 hok.2.1
    have hj : ix p1 < 5 := Nat.lt_of_lt_of_le (ixP_at hok.2.1 (kIx2_0 hc).2).2 hok.2.1
    try simp only [onlyIf, if_pos hc] at hb hv
    refine ⟨fun _ => by rw [hg, hb], ?_⟩
    rw [hk, hu, hv, hc]
    exact RelT_mk ⟨hok.1, hok.2.1, keep_swM hok.2.2.1 hi hj, keep_swS hok.2.2.2.1 hi hj, keep_swR hok.2.2.2.2.1 hi hj, hok.2.2.2.2.2⟩
  · dsimp only at hu
    refine ⟨fun h => absurd (hk.symm.trans h) hc, ?_⟩
    try simp only [onlyIf, if_neg hc] at hv
    rw [hk, hu, hv]
    exact RelT_mk hok
set_option maxHeartbeats 1000000 in
theorem pr_addRow {N : Nat} {M S : Nat → Nat → Int32} {rl rh bl bh : Nat → Int32} (hok : okAll N M S rl rh bl bh) {kl kh : Nat → Int32} {mn vc : Nat → Int64} {iv : Nat → Nat → Int64} {sc : Int64} {fl fh : Nat → Int32} {pt : Nat → Int64} {nu de : Int64} {p0 : Int32} {p1 : Int32} {p2 : Int32} {k : Int32} {u : S0} {g : Nat → Int64} {gd : Nat → UInt64} {r : Int32} {v : S1} (hz : yPost (kAdd0 N M rl rh p0 p1 p2) ((acC M (ix p0) (ix p1) p2 N).toInt64) (fun u => u = (N, acM M (ix p0) (ix p1) p2 N, S, upd rl (ix p0) (rl (ix p0) + pLow p2 (rl (ix p1)) (rh (ix p1))), upd rh (ix p0) (rh (ix p0) + pHigh p2 (rl (ix p1)) (rh (ix p1))), bl, bh, kl, kh, mn, vc, iv, sc)) (fun u => u = (N, M, S, rl, rh, bl, bh, kl, kh, mn, vc, iv, sc)) k (u, g, gd)) (hv : (fun r u => r = onlyIf (kAdd N M rl rh p0 p1 p2) (acC M (ix p0) (ix p1) p2 N) 0 ∧ u = (N, onlyIf (kAdd N M rl rh p0 p1 p2) (acM M (ix p0) (ix p1) p2 N) M, S, onlyIf (kAdd N M rl rh p0 p1 p2) (upd rl (ix p0) (arLo rl rh (ix p0) (ix p1) p2)) rl, onlyIf (kAdd N M rl rh p0 p1 p2) (upd rh (ix p0) (arHi rl rh (ix p0) (ix p1) p2)) rh, bl, bh, (kAdd N M rl rh p0 p1 p2), fl, fh, pt, nu, de)) r v) : (k = 0 → g 0 = r.toInt64) ∧ RelT k u v := by
  rw [add_eq hok.2.1 hok.2.2.1 hok.2.2.2.2.1] at hz
  obtain ⟨hb, hv⟩ := hv
  rcases hz with ⟨hc, hk, hg, hu⟩ | ⟨hc, hk, hu⟩
  · dsimp only at hu hg
    have hq := kAdd_0 hc
    have hi := ixP_at hok.2.1 hq.1.1
    have hj := ixP_at hok.2.1 hq.1.2
    have hka := keep_add hok.2.1 hok.2.2.1 hok.2.2.2.2.1 hi.2 hj.2 (fun e => hq.2.1.1 (by rw [hi.1, hj.1, e])) hq.2.1.2.1 hq.2.1.2.2 hq.2.2
    have hae := ar_eq hok.2.2.2.2.1 (Nat.lt_of_lt_of_le hi.2 hok.2.1) (Nat.lt_of_lt_of_le hj.2 hok.2.1) hq.2.1.2.1 hq.2.1.2.2
    rw [hae.1, hae.2.1] at hu
    try simp only [onlyIf, if_pos hc] at hb hv
    refine ⟨fun _ => by rw [hg, hb], ?_⟩
    rw [hk, hu, hv, hc]
    exact RelT_mk ⟨hok.1, hok.2.1, hka.1, hok.2.2.2.1, hka.2, hok.2.2.2.2.2⟩
  · dsimp only at hu
    refine ⟨fun h => absurd (hk.symm.trans h) hc, ?_⟩
    try simp only [onlyIf, if_neg hc] at hv
    rw [hk, hu, hv]
    exact RelT_mk hok
set_option maxHeartbeats 1000000 in
theorem pr_lowNumerator {N : Nat} {M S : Nat → Nat → Int32} {rl rh bl bh : Nat → Int32} (hok : okAll N M S rl rh bl bh) {kl kh : Nat → Int32} {mn vc : Nat → Int64} {iv : Nat → Nat → Int64} {sc : Int64} {fl fh : Nat → Int32} {pt : Nat → Int64} {nu de : Int64} {p0 : Int32} {k : Int32} {u : S0} {g : Nat → Int64} {gd : Nat → UInt64} {r : Int64} {v : S1} (hz : yPost (kHul N M p0) (redC (hul (ivF M N (ix p0)) rl rh N) (absL (detM M N))) (fun u => ∃ mn1 iv1 sc1, u = (N, M, S, rl, rh, bl, bh, kl, kh, mn1, vc, iv1, sc1)) (fun u => ∃ mn1 iv1 sc1, u = (N, M, S, rl, rh, bl, bh, kl, kh, mn1, vc, iv1, sc1)) k (u, g, gd)) (hv : (fun r u => r = onlyIf (kHul N M p0) (heN N M rl rh (ix p0) 0) 0 ∧ ∃ pt1, u = (N, M, S, rl, rh, bl, bh, (kHul N M p0), fl, fh, pt1, onlyIf (kHul N M p0) (heN N M rl rh (ix p0) 0) nu, onlyIf (kHul N M p0) (heD N M rl rh (ix p0) 0) de)) r v) : (k = 0 → g 0 = r) ∧ RelT k u v := by
  obtain ⟨hb, hv⟩ := hv
  rcases hz with ⟨hc, hk, hg, hu⟩ | ⟨hc, hk, hu⟩
  · obtain ⟨mn1, iv1, sc1, hu⟩ := hu
    obtain ⟨pt1, hv⟩ := hv
    dsimp only at hu hg
    try simp only [onlyIf, if_pos hc] at hb hv
    refine ⟨fun _ => by rw [hg, hb]; exact (eq_num hok.2.1 hok.2.2.1 hok.2.2.2.2.1 (ixP_at hok.2.1 (kHul_0 hc).1).2 (kHul_0 hc).2).1, ?_⟩
    rw [hk, hu, hv, hc]
    exact RelT_mk hok
  · obtain ⟨mn1, iv1, sc1, hu⟩ := hu
    obtain ⟨pt1, hv⟩ := hv
    dsimp only at hu
    refine ⟨fun h => absurd (hk.symm.trans h) hc, ?_⟩
    try simp only [onlyIf, if_neg hc] at hv
    rw [hk, hu, hv]
    exact RelT_mk hok
set_option maxHeartbeats 1000000 in
theorem pr_lowDenominator {N : Nat} {M S : Nat → Nat → Int32} {rl rh bl bh : Nat → Int32} (hok : okAll N M S rl rh bl bh) {kl kh : Nat → Int32} {mn vc : Nat → Int64} {iv : Nat → Nat → Int64} {sc : Int64} {fl fh : Nat → Int32} {pt : Nat → Int64} {nu de : Int64} {p0 : Int32} {k : Int32} {u : S0} {g : Nat → Int64} {gd : Nat → UInt64} {r : Int64} {v : S1} (hz : yPost (kHul N M p0) (redC (absL (detM M N)) (hul (ivF M N (ix p0)) rl rh N)) (fun u => ∃ mn1 iv1 sc1, u = (N, M, S, rl, rh, bl, bh, kl, kh, mn1, vc, iv1, sc1)) (fun u => ∃ mn1 iv1 sc1, u = (N, M, S, rl, rh, bl, bh, kl, kh, mn1, vc, iv1, sc1)) k (u, g, gd)) (hv : (fun r u => r = onlyIf (kHul N M p0) (heD N M rl rh (ix p0) 0) 0 ∧ ∃ pt1, u = (N, M, S, rl, rh, bl, bh, (kHul N M p0), fl, fh, pt1, onlyIf (kHul N M p0) (heN N M rl rh (ix p0) 0) nu, onlyIf (kHul N M p0) (heD N M rl rh (ix p0) 0) de)) r v) : (k = 0 → g 0 = r) ∧ RelT k u v := by
  obtain ⟨hb, hv⟩ := hv
  rcases hz with ⟨hc, hk, hg, hu⟩ | ⟨hc, hk, hu⟩
  · obtain ⟨mn1, iv1, sc1, hu⟩ := hu
    obtain ⟨pt1, hv⟩ := hv
    dsimp only at hu hg
    try simp only [onlyIf, if_pos hc] at hb hv
    refine ⟨fun _ => by rw [hg, hb]; exact (eq_num hok.2.1 hok.2.2.1 hok.2.2.2.2.1 (ixP_at hok.2.1 (kHul_0 hc).1).2 (kHul_0 hc).2).2.1, ?_⟩
    rw [hk, hu, hv, hc]
    exact RelT_mk hok
  · obtain ⟨mn1, iv1, sc1, hu⟩ := hu
    obtain ⟨pt1, hv⟩ := hv
    dsimp only at hu
    refine ⟨fun h => absurd (hk.symm.trans h) hc, ?_⟩
    try simp only [onlyIf, if_neg hc] at hv
    rw [hk, hu, hv]
    exact RelT_mk hok
set_option maxHeartbeats 1000000 in
theorem pr_highNumerator {N : Nat} {M S : Nat → Nat → Int32} {rl rh bl bh : Nat → Int32} (hok : okAll N M S rl rh bl bh) {kl kh : Nat → Int32} {mn vc : Nat → Int64} {iv : Nat → Nat → Int64} {sc : Int64} {fl fh : Nat → Int32} {pt : Nat → Int64} {nu de : Int64} {p0 : Int32} {k : Int32} {u : S0} {g : Nat → Int64} {gd : Nat → UInt64} {r : Int64} {v : S1} (hz : yPost (kHul N M p0) (redC (hul (ivF M N (ix p0)) rh rl N) (absL (detM M N))) (fun u => ∃ mn1 iv1 sc1, u = (N, M, S, rl, rh, bl, bh, kl, kh, mn1, vc, iv1, sc1)) (fun u => ∃ mn1 iv1 sc1, u = (N, M, S, rl, rh, bl, bh, kl, kh, mn1, vc, iv1, sc1)) k (u, g, gd)) (hv : (fun r u => r = onlyIf (kHul N M p0) (heN N M rl rh (ix p0) 1) 0 ∧ ∃ pt1, u = (N, M, S, rl, rh, bl, bh, (kHul N M p0), fl, fh, pt1, onlyIf (kHul N M p0) (heN N M rl rh (ix p0) 1) nu, onlyIf (kHul N M p0) (heD N M rl rh (ix p0) 1) de)) r v) : (k = 0 → g 0 = r) ∧ RelT k u v := by
  obtain ⟨hb, hv⟩ := hv
  rcases hz with ⟨hc, hk, hg, hu⟩ | ⟨hc, hk, hu⟩
  · obtain ⟨mn1, iv1, sc1, hu⟩ := hu
    obtain ⟨pt1, hv⟩ := hv
    dsimp only at hu hg
    try simp only [onlyIf, if_pos hc] at hb hv
    refine ⟨fun _ => by rw [hg, hb]; exact (eq_num hok.2.1 hok.2.2.1 hok.2.2.2.2.1 (ixP_at hok.2.1 (kHul_0 hc).1).2 (kHul_0 hc).2).2.2.1, ?_⟩
    rw [hk, hu, hv, hc]
    exact RelT_mk hok
  · obtain ⟨mn1, iv1, sc1, hu⟩ := hu
    obtain ⟨pt1, hv⟩ := hv
    dsimp only at hu
    refine ⟨fun h => absurd (hk.symm.trans h) hc, ?_⟩
    try simp only [onlyIf, if_neg hc] at hv
    rw [hk, hu, hv]
    exact RelT_mk hok
set_option maxHeartbeats 1000000 in
theorem pr_highDenominator {N : Nat} {M S : Nat → Nat → Int32} {rl rh bl bh : Nat → Int32} (hok : okAll N M S rl rh bl bh) {kl kh : Nat → Int32} {mn vc : Nat → Int64} {iv : Nat → Nat → Int64} {sc : Int64} {fl fh : Nat → Int32} {pt : Nat → Int64} {nu de : Int64} {p0 : Int32} {k : Int32} {u : S0} {g : Nat → Int64} {gd : Nat → UInt64} {r : Int64} {v : S1} (hz : yPost (kHul N M p0) (redC (absL (detM M N)) (hul (ivF M N (ix p0)) rh rl N)) (fun u => ∃ mn1 iv1 sc1, u = (N, M, S, rl, rh, bl, bh, kl, kh, mn1, vc, iv1, sc1)) (fun u => ∃ mn1 iv1 sc1, u = (N, M, S, rl, rh, bl, bh, kl, kh, mn1, vc, iv1, sc1)) k (u, g, gd)) (hv : (fun r u => r = onlyIf (kHul N M p0) (heD N M rl rh (ix p0) 1) 0 ∧ ∃ pt1, u = (N, M, S, rl, rh, bl, bh, (kHul N M p0), fl, fh, pt1, onlyIf (kHul N M p0) (heN N M rl rh (ix p0) 1) nu, onlyIf (kHul N M p0) (heD N M rl rh (ix p0) 1) de)) r v) : (k = 0 → g 0 = r) ∧ RelT k u v := by
  obtain ⟨hb, hv⟩ := hv
  rcases hz with ⟨hc, hk, hg, hu⟩ | ⟨hc, hk, hu⟩
  · obtain ⟨mn1, iv1, sc1, hu⟩ := hu
    obtain ⟨pt1, hv⟩ := hv
    dsimp only at hu hg
    try simp only [onlyIf, if_pos hc] at hb hv
    refine ⟨fun _ => by rw [hg, hb]; exact (eq_num hok.2.1 hok.2.2.1 hok.2.2.2.2.1 (ixP_at hok.2.1 (kHul_0 hc).1).2 (kHul_0 hc).2).2.2.2, ?_⟩
    rw [hk, hu, hv, hc]
    exact RelT_mk hok
  · obtain ⟨mn1, iv1, sc1, hu⟩ := hu
    obtain ⟨pt1, hv⟩ := hv
    dsimp only at hu
    refine ⟨fun h => absurd (hk.symm.trans h) hc, ?_⟩
    try simp only [onlyIf, if_neg hc] at hv
    rw [hk, hu, hv]
    exact RelT_mk hok
set_option maxHeartbeats 1000000 in
theorem pr_inverseNumerator {N : Nat} {M S : Nat → Nat → Int32} {rl rh bl bh : Nat → Int32} (hok : okAll N M S rl rh bl bh) {kl kh : Nat → Int32} {mn vc : Nat → Int64} {iv : Nat → Nat → Int64} {sc : Int64} {fl fh : Nat → Int32} {pt : Nat → Int64} {nu de : Int64} {p0 : Int32} {p1 : Int32} {k : Int32} {u : S0} {g : Nat → Int64} {gd : Nat → UInt64} {r : Int64} {v : S1} (hz : yPost (kHul2 N M p0 p1) (redC (ivF M N (ix p0) (ix p1)) (absL (detM M N))) (fun u => ∃ mn1 iv1 sc1, u = (N, M, S, rl, rh, bl, bh, kl, kh, mn1, vc, iv1, sc1)) (fun u => ∃ mn1 iv1 sc1, u = (N, M, S, rl, rh, bl, bh, kl, kh, mn1, vc, iv1, sc1)) k (u, g, gd)) (hv : (fun r u => r = onlyIf (kHul2 N M p0 p1) (rdN (cofM M N (ix p0) (ix p1)) (detM M N)) 0 ∧ ∃ pt1, u = (N, M, S, rl, rh, bl, bh, (kHul2 N M p0 p1), fl, fh, pt1, onlyIf (kHul2 N M p0 p1) (rdN (cofM M N (ix p0) (ix p1)) (detM M N)) nu, onlyIf (kHul2 N M p0 p1) (rdD (cofM M N (ix p0) (ix p1)) (detM M N)) de)) r v) : (k = 0 → g 0 = r) ∧ RelT k u v := by
  obtain ⟨hb, hv⟩ := hv
  rcases hz with ⟨hc, hk, hg, hu⟩ | ⟨hc, hk, hu⟩
  · obtain ⟨mn1, iv1, sc1, hu⟩ := hu
    obtain ⟨pt1, hv⟩ := hv
    dsimp only at hu hg
    try simp only [onlyIf, if_pos hc] at hb hv
    refine ⟨fun _ => by rw [hg, hb]; exact (eq_inv hok.2.1 hok.2.2.1 (ixP_at hok.2.1 (kHul2_0 hc).1.1).2 (kHul2_0 hc).2).1, ?_⟩
    rw [hk, hu, hv, hc]
    exact RelT_mk hok
  · obtain ⟨mn1, iv1, sc1, hu⟩ := hu
    obtain ⟨pt1, hv⟩ := hv
    dsimp only at hu
    refine ⟨fun h => absurd (hk.symm.trans h) hc, ?_⟩
    try simp only [onlyIf, if_neg hc] at hv
    rw [hk, hu, hv]
    exact RelT_mk hok
set_option maxHeartbeats 1000000 in
theorem pr_inverseDenominator {N : Nat} {M S : Nat → Nat → Int32} {rl rh bl bh : Nat → Int32} (hok : okAll N M S rl rh bl bh) {kl kh : Nat → Int32} {mn vc : Nat → Int64} {iv : Nat → Nat → Int64} {sc : Int64} {fl fh : Nat → Int32} {pt : Nat → Int64} {nu de : Int64} {p0 : Int32} {p1 : Int32} {k : Int32} {u : S0} {g : Nat → Int64} {gd : Nat → UInt64} {r : Int64} {v : S1} (hz : yPost (kHul2 N M p0 p1) (redC (absL (detM M N)) (ivF M N (ix p0) (ix p1))) (fun u => ∃ mn1 iv1 sc1, u = (N, M, S, rl, rh, bl, bh, kl, kh, mn1, vc, iv1, sc1)) (fun u => ∃ mn1 iv1 sc1, u = (N, M, S, rl, rh, bl, bh, kl, kh, mn1, vc, iv1, sc1)) k (u, g, gd)) (hv : (fun r u => r = onlyIf (kHul2 N M p0 p1) (rdD (cofM M N (ix p0) (ix p1)) (detM M N)) 0 ∧ ∃ pt1, u = (N, M, S, rl, rh, bl, bh, (kHul2 N M p0 p1), fl, fh, pt1, onlyIf (kHul2 N M p0 p1) (rdN (cofM M N (ix p0) (ix p1)) (detM M N)) nu, onlyIf (kHul2 N M p0 p1) (rdD (cofM M N (ix p0) (ix p1)) (detM M N)) de)) r v) : (k = 0 → g 0 = r) ∧ RelT k u v := by
  obtain ⟨hb, hv⟩ := hv
  rcases hz with ⟨hc, hk, hg, hu⟩ | ⟨hc, hk, hu⟩
  · obtain ⟨mn1, iv1, sc1, hu⟩ := hu
    obtain ⟨pt1, hv⟩ := hv
    dsimp only at hu hg
    try simp only [onlyIf, if_pos hc] at hb hv
    refine ⟨fun _ => by rw [hg, hb]; exact (eq_inv hok.2.1 hok.2.2.1 (ixP_at hok.2.1 (kHul2_0 hc).1.1).2 (kHul2_0 hc).2).2, ?_⟩
    rw [hk, hu, hv, hc]
    exact RelT_mk hok
  · obtain ⟨mn1, iv1, sc1, hu⟩ := hu
    obtain ⟨pt1, hv⟩ := hv
    dsimp only at hu
    refine ⟨fun h => absurd (hk.symm.trans h) hc, ?_⟩
    try simp only [onlyIf, if_neg hc] at hv
    rw [hk, hu, hv]
    exact RelT_mk hok
set_option maxHeartbeats 1000000 in
theorem pr_condition {N : Nat} {M S : Nat → Nat → Int32} {rl rh bl bh : Nat → Int32} (hok : okAll N M S rl rh bl bh) {kl kh : Nat → Int32} {mn vc : Nat → Int64} {iv : Nat → Nat → Int64} {sc : Int64} {fl fh : Nat → Int32} {pt : Nat → Int64} {nu de : Int64} {k : Int32} {u : S0} {g : Nat → Int64} {gd : Nat → UInt64} {r : UInt64} {v : S1} (hz : yPostD (kDet N M) (cdD M N) (fun u => ∃ mn1 iv1 sc1, u = (N, M, S, rl, rh, bl, bh, kl, kh, mn1, vc, iv1, sc1)) (fun u => ∃ mn1 iv1 sc1, u = (N, M, S, rl, rh, bl, bh, kl, kh, mn1, vc, iv1, sc1)) k (u, g, gd)) (hv : (fun r u => r = (if kDet N M = 0 then cnD M N else FP.i2d 0) ∧ ∃ pt1, u = (N, M, S, rl, rh, bl, bh, kDet N M, fl, fh, pt1, nu, de)) r v) : (k = 0 → gd 0 = r) ∧ RelT k u v := by
  obtain ⟨hb, hv⟩ := hv
  rcases hz with ⟨hc, hk, hg, hu⟩ | ⟨hc, hk, hu⟩
  · obtain ⟨mn1, iv1, sc1, hu⟩ := hu
    obtain ⟨pt1, hv⟩ := hv
    dsimp only at hu hg
    rw [if_pos hc] at hb
    try simp only [onlyIf, if_pos hc] at hv
    refine ⟨fun _ => by rw [hg, hb]; exact (eq_con hok.2.1 hok.2.2.1).2, ?_⟩
    rw [hk, hu, hv, hc]
    exact RelT_mk hok
  · obtain ⟨mn1, iv1, sc1, hu⟩ := hu
    obtain ⟨pt1, hv⟩ := hv
    dsimp only at hu
    refine ⟨fun h => absurd (hk.symm.trans h) hc, ?_⟩
    try simp only [onlyIf, if_neg hc] at hv
    rw [hk, hu, hv]
    exact RelT_mk hok
set_option maxHeartbeats 1000000 in
theorem pr_variationNumerator {N : Nat} {M S : Nat → Nat → Int32} {rl rh bl bh : Nat → Int32} (hok : okAll N M S rl rh bl bh) {kl kh : Nat → Int32} {mn vc : Nat → Int64} {iv : Nat → Nat → Int64} {sc : Int64} {fl fh : Nat → Int32} {pt : Nat → Int64} {nu de : Int64} {k : Int32} {u : S0} {g : Nat → Int64} {gd : Nat → UInt64} {r : Int64} {v : S1} (hz : yPost (kDet N M) (redC (svI (ivF M N) S N N) (100 * (absL (detM M N)))) (fun u => ∃ mn1 iv1 sc1, u = (N, M, S, rl, rh, bl, bh, kl, kh, mn1, vc, iv1, sc1)) (fun u => ∃ mn1 iv1 sc1, u = (N, M, S, rl, rh, bl, bh, kl, kh, mn1, vc, iv1, sc1)) k (u, g, gd)) (hv : (fun r u => r = onlyIf (kDet N M) (rdN (fvI M S N N) (100 * absL (detM M N))) 0 ∧ ∃ pt1 nu1 de1, u = (N, M, S, rl, rh, bl, bh, kDet N M, fl, fh, pt1, nu1, de1)) r v) : (k = 0 → g 0 = r) ∧ RelT k u v := by
  obtain ⟨hb, hv⟩ := hv
  rcases hz with ⟨hc, hk, hg, hu⟩ | ⟨hc, hk, hu⟩
  · obtain ⟨mn1, iv1, sc1, hu⟩ := hu
    obtain ⟨pt1, nu1, de1, hv⟩ := hv
    dsimp only at hu hg
    try simp only [onlyIf, if_pos hc] at hb hv
    refine ⟨fun _ => by rw [hg, hb]; exact (eq_var hok.2.1 hok.2.2.1 hok.2.2.2.1 (kDet_0 hc)).1, ?_⟩
    rw [hk, hu, hv, hc]
    exact RelT_mk hok
  · obtain ⟨mn1, iv1, sc1, hu⟩ := hu
    obtain ⟨pt1, nu1, de1, hv⟩ := hv
    dsimp only at hu
    refine ⟨fun h => absurd (hk.symm.trans h) hc, ?_⟩
    try simp only [onlyIf, if_neg hc] at hv
    rw [hk, hu, hv]
    exact RelT_mk hok
set_option maxHeartbeats 1000000 in
theorem pr_variationDenominator {N : Nat} {M S : Nat → Nat → Int32} {rl rh bl bh : Nat → Int32} (hok : okAll N M S rl rh bl bh) {kl kh : Nat → Int32} {mn vc : Nat → Int64} {iv : Nat → Nat → Int64} {sc : Int64} {fl fh : Nat → Int32} {pt : Nat → Int64} {nu de : Int64} {k : Int32} {u : S0} {g : Nat → Int64} {gd : Nat → UInt64} {r : Int64} {v : S1} (hz : yPost (kDet N M) (redC (100 * (absL (detM M N))) (svI (ivF M N) S N N)) (fun u => ∃ mn1 iv1 sc1, u = (N, M, S, rl, rh, bl, bh, kl, kh, mn1, vc, iv1, sc1)) (fun u => ∃ mn1 iv1 sc1, u = (N, M, S, rl, rh, bl, bh, kl, kh, mn1, vc, iv1, sc1)) k (u, g, gd)) (hv : (fun r u => r = onlyIf (kDet N M) (rdD (fvI M S N N) (100 * absL (detM M N))) 0 ∧ ∃ pt1 nu1 de1, u = (N, M, S, rl, rh, bl, bh, kDet N M, fl, fh, pt1, nu1, de1)) r v) : (k = 0 → g 0 = r) ∧ RelT k u v := by
  obtain ⟨hb, hv⟩ := hv
  rcases hz with ⟨hc, hk, hg, hu⟩ | ⟨hc, hk, hu⟩
  · obtain ⟨mn1, iv1, sc1, hu⟩ := hu
    obtain ⟨pt1, nu1, de1, hv⟩ := hv
    dsimp only at hu hg
    try simp only [onlyIf, if_pos hc] at hb hv
    refine ⟨fun _ => by rw [hg, hb]; exact (eq_var hok.2.1 hok.2.2.1 hok.2.2.2.1 (kDet_0 hc)).2.1, ?_⟩
    rw [hk, hu, hv, hc]
    exact RelT_mk hok
  · obtain ⟨mn1, iv1, sc1, hu⟩ := hu
    obtain ⟨pt1, nu1, de1, hv⟩ := hv
    dsimp only at hu
    refine ⟨fun h => absurd (hk.symm.trans h) hc, ?_⟩
    try simp only [onlyIf, if_neg hc] at hv
    rw [hk, hu, hv]
    exact RelT_mk hok
set_option maxHeartbeats 1000000 in
theorem pr_setBox {N : Nat} {M S : Nat → Nat → Int32} {rl rh bl bh : Nat → Int32} (hok : okAll N M S rl rh bl bh) {kl kh : Nat → Int32} {mn vc : Nat → Int64} {iv : Nat → Nat → Int64} {sc : Int64} {fl fh : Nat → Int32} {pt : Nat → Int64} {nu de : Int64} {p0 : Int32} {p1 : Int32} {p2 : Int32} {k : Int32} {u : S0} {g : Nat → Int64} {gd : Nat → UInt64} {r : Int32} {v : S1} (hz : yPost (kInt N p0 p1 p2 1000000000) (yb (othR (bl (ix p0)) (bh (ix p0)) p1 p2)) (fun u => u = (N, M, S, rl, rh, upd bl (ix p0) p1, upd bh (ix p0) p2, kl, kh, mn, vc, iv, sc)) (fun u => u = (N, M, S, rl, rh, bl, bh, kl, kh, mn, vc, iv, sc)) k (u, g, gd)) (hv : (fun r u => r = onlyIf (kInt N p0 p1 p2 1000000000) (othR (bl (ix p0)) (bh (ix p0)) p1 p2) 0 ∧ u = (N, M, S, rl, rh, onlyIf (kInt N p0 p1 p2 1000000000) (upd bl (ix p0) p1) bl, onlyIf (kInt N p0 p1 p2 1000000000) (upd bh (ix p0) p2) bh, (kInt N p0 p1 p2 1000000000), fl, fh, pt, nu, de)) r v) : (k = 0 → g 0 = yb r) ∧ RelT k u v := by
  obtain ⟨hb, hv⟩ := hv
  rcases hz with ⟨hc, hk, hg, hu⟩ | ⟨hc, hk, hu⟩
  · dsimp only at hu hg
    try simp only [onlyIf, if_pos hc] at hb hv
    refine ⟨fun _ => by rw [hg, hb], ?_⟩
    rw [hk, hu, hv, hc]
    exact RelT_mk ⟨hok.1, hok.2.1, hok.2.2.1, hok.2.2.2.1, hok.2.2.2.2.1, keep_X hok.2.2.2.2.2 (kInt_0 hc).2.1.1 (kInt_0 hc).2.1.2 (kInt_0 hc).2.2⟩
  · dsimp only at hu
    refine ⟨fun h => absurd (hk.symm.trans h) hc, ?_⟩
    try simp only [onlyIf, if_neg hc] at hv
    rw [hk, hu, hv]
    exact RelT_mk hok
set_option maxHeartbeats 1000000 in
theorem pr_boxLow {N : Nat} {M S : Nat → Nat → Int32} {rl rh bl bh : Nat → Int32} (hok : okAll N M S rl rh bl bh) {kl kh : Nat → Int32} {mn vc : Nat → Int64} {iv : Nat → Nat → Int64} {sc : Int64} {fl fh : Nat → Int32} {pt : Nat → Int64} {nu de : Int64} {p0 : Int32} {k : Int32} {u : S0} {g : Nat → Int64} {gd : Nat → UInt64} {r : Int32} {v : S1} (hz : yPost (kIx N p0) ((bl (ix p0)).toInt64) (fun u => u = (N, M, S, rl, rh, bl, bh, kl, kh, mn, vc, iv, sc)) (fun u => u = (N, M, S, rl, rh, bl, bh, kl, kh, mn, vc, iv, sc)) k (u, g, gd)) (hv : (fun r u => r = onlyIf (kIx N p0) (bl (ix p0)) 0 ∧ u = (N, M, S, rl, rh, bl, bh, (kIx N p0), fl, fh, pt, nu, de)) r v) : (k = 0 → g 0 = r.toInt64) ∧ RelT k u v := by
  obtain ⟨hb, hv⟩ := hv
  rcases hz with ⟨hc, hk, hg, hu⟩ | ⟨hc, hk, hu⟩
  · dsimp only at hu hg
    try simp only [onlyIf, if_pos hc] at hb hv
    refine ⟨fun _ => by rw [hg, hb], ?_⟩
    rw [hk, hu, hv, hc]
    exact RelT_mk hok
  · dsimp only at hu
    refine ⟨fun h => absurd (hk.symm.trans h) hc, ?_⟩
    try simp only [onlyIf, if_neg hc] at hv
    rw [hk, hu, hv]
    exact RelT_mk hok
set_option maxHeartbeats 1000000 in
theorem pr_boxHigh {N : Nat} {M S : Nat → Nat → Int32} {rl rh bl bh : Nat → Int32} (hok : okAll N M S rl rh bl bh) {kl kh : Nat → Int32} {mn vc : Nat → Int64} {iv : Nat → Nat → Int64} {sc : Int64} {fl fh : Nat → Int32} {pt : Nat → Int64} {nu de : Int64} {p0 : Int32} {k : Int32} {u : S0} {g : Nat → Int64} {gd : Nat → UInt64} {r : Int32} {v : S1} (hz : yPost (kIx N p0) ((bh (ix p0)).toInt64) (fun u => u = (N, M, S, rl, rh, bl, bh, kl, kh, mn, vc, iv, sc)) (fun u => u = (N, M, S, rl, rh, bl, bh, kl, kh, mn, vc, iv, sc)) k (u, g, gd)) (hv : (fun r u => r = onlyIf (kIx N p0) (bh (ix p0)) 0 ∧ u = (N, M, S, rl, rh, bl, bh, (kIx N p0), fl, fh, pt, nu, de)) r v) : (k = 0 → g 0 = r.toInt64) ∧ RelT k u v := by
  obtain ⟨hb, hv⟩ := hv
  rcases hz with ⟨hc, hk, hg, hu⟩ | ⟨hc, hk, hu⟩
  · dsimp only at hu hg
    try simp only [onlyIf, if_pos hc] at hb hv
    refine ⟨fun _ => by rw [hg, hb], ?_⟩
    rw [hk, hu, hv, hc]
    exact RelT_mk hok
  · dsimp only at hu
    refine ⟨fun h => absurd (hk.symm.trans h) hc, ?_⟩
    try simp only [onlyIf, if_neg hc] at hv
    rw [hk, hu, hv]
    exact RelT_mk hok
set_option maxHeartbeats 1000000 in
theorem pr_contract {N : Nat} {M S : Nat → Nat → Int32} {rl rh bl bh : Nat → Int32} (hok : okAll N M S rl rh bl bh) {kl kh : Nat → Int32} {mn vc : Nat → Int64} {iv : Nat → Nat → Int64} {sc : Int64} {fl fh : Nat → Int32} {pt : Nat → Int64} {nu de : Int64} {p0 : Int32} {k : Int32} {u : S0} {g : Nat → Int64} {gd : Nat → UInt64} {r : Int32} {v : S1} (hz : yPost (kCon p0) (((cnS (sw0 N M rl rh) (ix p0) 0 (bl, bh)).1).toInt64) (fun u => ∃ kl1 kh1, u = (N, M, S, rl, rh, (cnS (sw0 N M rl rh) (ix p0) 0 (bl, bh)).2.1, (cnS (sw0 N M rl rh) (ix p0) 0 (bl, bh)).2.2, kl1, kh1, mn, vc, iv, sc)) (fun u => u = (N, M, S, rl, rh, bl, bh, kl, kh, mn, vc, iv, sc)) k (u, g, gd)) (hv : (fun r u => r = onlyIf (kCon p0) (cnS (sw1 N M rl rh) (ix p0) 0 (bl, bh)).1 0 ∧ ∃ fl1 fh1, u = (N, M, S, rl, rh, onlyIf (kCon p0) (cnS (sw1 N M rl rh) (ix p0) 0 (bl, bh)).2.1 bl, onlyIf (kCon p0) (cnS (sw1 N M rl rh) (ix p0) 0 (bl, bh)).2.2 bh, kCon p0, fl1, fh1, pt, nu, de)) r v) : (k = 0 → g 0 = r.toInt64) ∧ RelT k u v := by
  obtain ⟨hb, hv⟩ := hv
  rcases hz with ⟨hc, hk, hg, hu⟩ | ⟨hc, hk, hu⟩
  · obtain ⟨kl1, kh1, hu⟩ := hu
    obtain ⟨fl1, fh1, hv⟩ := hv
    dsimp only at hu hg
    have hcn := cn_eq (rl := rl) (rh := rh) hok.2.1 hok.2.2.1 (ix p0) 0 (bl, bh) hok.2.2.2.2.2
    rw [hcn.1] at hg hu
    try simp only [onlyIf, if_pos hc] at hb hv
    refine ⟨fun _ => by rw [hg, hb], ?_⟩
    rw [hk, hu, hv, hc]
    exact RelT_mk ⟨hok.1, hok.2.1, hok.2.2.1, hok.2.2.2.1, hok.2.2.2.2.1, hcn.2⟩
  · obtain ⟨fl1, fh1, hv⟩ := hv
    dsimp only at hu
    refine ⟨fun h => absurd (hk.symm.trans h) hc, ?_⟩
    try simp only [onlyIf, if_neg hc] at hv
    rw [hk, hu, hv]
    exact RelT_mk hok
set_option maxHeartbeats 1000000 in
theorem pr_sharpen {N : Nat} {M S : Nat → Nat → Int32} {rl rh bl bh : Nat → Int32} (hok : okAll N M S rl rh bl bh) {kl kh : Nat → Int32} {mn vc : Nat → Int64} {iv : Nat → Nat → Int64} {sc : Int64} {fl fh : Nat → Int32} {pt : Nat → Int64} {nu de : Int64} {k : Int32} {u : S0} {g : Nat → Int64} {gd : Nat → UInt64} {r : Int32} {v : S1} (hz : yPost (kDet N M) (((sh0 N M rl rh (bl, bh)).1).toInt64) (fun u => ∃ mn1 iv1 sc1 kl1 kh1, u = (N, M, S, rl, rh, (sh0 N M rl rh (bl, bh)).2.1, (sh0 N M rl rh (bl, bh)).2.2, kl1, kh1, mn1, vc, iv1, sc1)) (fun u => ∃ mn1 iv1 sc1 kl1 kh1, u = (N, M, S, rl, rh, bl, bh, kl1, kh1, mn1, vc, iv1, sc1)) k (u, g, gd)) (hv : (fun r u => r = onlyIf (kDet N M) (sh1 N M rl rh (bl, bh)).1 0 ∧ ∃ fl1 fh1 pt1 nu1 de1, u = (N, M, S, rl, rh, onlyIf (kDet N M) (sh1 N M rl rh (bl, bh)).2.1 bl, onlyIf (kDet N M) (sh1 N M rl rh (bl, bh)).2.2 bh, kDet N M, fl1, fh1, pt1, nu1, de1)) r v) : (k = 0 → g 0 = r.toInt64) ∧ RelT k u v := by
  obtain ⟨hb, hv⟩ := hv
  rcases hz with ⟨hc, hk, hg, hu⟩ | ⟨hc, hk, hu⟩
  · obtain ⟨mn1, iv1, sc1, kl1, kh1, hu⟩ := hu
    obtain ⟨fl1, fh1, pt1, nu1, de1, hv⟩ := hv
    dsimp only at hu hg
    have hsh := sh_eq (z := (bl, bh)) hok.2.1 hok.2.2.1 hok.2.2.2.2.1 (kDet_0 hc) hok.2.2.2.2.2
    rw [hsh.1] at hg hu
    try simp only [onlyIf, if_pos hc] at hb hv
    refine ⟨fun _ => by rw [hg, hb], ?_⟩
    rw [hk, hu, hv, hc]
    exact RelT_mk ⟨hok.1, hok.2.1, hok.2.2.1, hok.2.2.2.1, hok.2.2.2.2.1, hsh.2⟩
  · obtain ⟨mn1, iv1, sc1, kl1, kh1, hu⟩ := hu
    obtain ⟨fl1, fh1, pt1, nu1, de1, hv⟩ := hv
    dsimp only at hu
    refine ⟨fun h => absurd (hk.symm.trans h) hc, ?_⟩
    try simp only [onlyIf, if_neg hc] at hv
    rw [hk, hu, hv]
    exact RelT_mk hok
set_option maxHeartbeats 1000000 in
theorem pr_isCertified {N : Nat} {M S : Nat → Nat → Int32} {rl rh bl bh : Nat → Int32} (hok : okAll N M S rl rh bl bh) {kl kh : Nat → Int32} {mn vc : Nat → Int64} {iv : Nat → Nat → Int64} {sc : Int64} {fl fh : Nat → Int32} {pt : Nat → Int64} {nu de : Int64} {k : Int32} {u : S0} {g : Nat → Int64} {gd : Nat → UInt64} {r : Int32} {v : S1} (hz : yPost (kDet N M) (yb ((if (∀ i, i < N → ((bl i).toInt64 ≤ hl0 N M rl rh i ∧ hh0 N M rl rh i ≤ (bh i).toInt64)) then 1 else 0))) (fun u => ∃ mn1 iv1 sc1, u = (N, M, S, rl, rh, bl, bh, kl, kh, mn1, vc, iv1, sc1)) (fun u => ∃ mn1 iv1 sc1, u = (N, M, S, rl, rh, bl, bh, kl, kh, mn1, vc, iv1, sc1)) k (u, g, gd)) (hv : (fun r u => r = onlyIf (kDet N M) (if ∀ i, i < N → ((bl i).toInt64 ≤ hlJ N M rl rh i ∧ hhJ N M rl rh i ≤ (bh i).toInt64) then 1 else 0) 0 ∧ ∃ pt1 nu1 de1, u = (N, M, S, rl, rh, bl, bh, kDet N M, fl, fh, pt1, nu1, de1)) r v) : (k = 0 → g 0 = yb r) ∧ RelT k u v := by
  obtain ⟨hb, hv⟩ := hv
  rcases hz with ⟨hc, hk, hg, hu⟩ | ⟨hc, hk, hu⟩
  · obtain ⟨mn1, iv1, sc1, hu⟩ := hu
    obtain ⟨pt1, nu1, de1, hv⟩ := hv
    dsimp only at hu hg
    have hce : (∀ i, i < N → ((bl i).toInt64 ≤ hl0 N M rl rh i ∧ hh0 N M rl rh i ≤ (bh i).toInt64)) ↔ (∀ i, i < N → ((bl i).toInt64 ≤ hlJ N M rl rh i ∧ hhJ N M rl rh i ≤ (bh i).toInt64)) := by
      constructor
      · intro q i hi; have e := hl_eq hok.2.1 hok.2.2.1 hok.2.2.2.2.1 hi (kDet_0 hc); rw [← e.1, ← e.2]; exact q i hi
      · intro q i hi; have e := hl_eq hok.2.1 hok.2.2.1 hok.2.2.2.2.1 hi (kDet_0 hc); rw [e.1, e.2]; exact q i hi
    rw [show (if (∀ i, i < N → ((bl i).toInt64 ≤ hl0 N M rl rh i ∧ hh0 N M rl rh i ≤ (bh i).toInt64)) then (1 : Int32) else 0) = (if (∀ i, i < N → ((bl i).toInt64 ≤ hlJ N M rl rh i ∧ hhJ N M rl rh i ≤ (bh i).toInt64)) then (1 : Int32) else 0) from ite_iff hce] at hg
    try simp only [onlyIf, if_pos hc] at hb hv
    refine ⟨fun _ => by rw [hg, hb], ?_⟩
    rw [hk, hu, hv, hc]
    exact RelT_mk hok
  · obtain ⟨mn1, iv1, sc1, hu⟩ := hu
    obtain ⟨pt1, nu1, de1, hv⟩ := hv
    dsimp only at hu
    refine ⟨fun h => absurd (hk.symm.trans h) hc, ?_⟩
    try simp only [onlyIf, if_neg hc] at hv
    rw [hk, hu, hv]
    exact RelT_mk hok
set_option maxHeartbeats 1000000 in
theorem pr_residualLow {N : Nat} {M S : Nat → Nat → Int32} {rl rh bl bh : Nat → Int32} (hok : okAll N M S rl rh bl bh) {kl kh : Nat → Int32} {mn vc : Nat → Int64} {iv : Nat → Nat → Int64} {sc : Int64} {fl fh : Nat → Int32} {pt : Nat → Int64} {nu de : Int64} {p0 : Int32} {k : Int32} {u : S0} {g : Nat → Int64} {gd : Nat → UInt64} {r : Int64} {v : S1} (hz : yPost (kIx N p0) (mdS M bl bh (ix p0) N - 2048 * (rh (ix p0)).toInt64) (fun u => u = (N, M, S, rl, rh, bl, bh, kl, kh, mn, vc, iv, sc)) (fun u => u = (N, M, S, rl, rh, bl, bh, kl, kh, mn, vc, iv, sc)) k (u, g, gd)) (hv : (fun r u => r = onlyIf (kIx N p0) (mdS M bl bh (ix p0) N - 2048 * (rh (ix p0)).toInt64) 0 ∧ u = (N, M, S, rl, rh, bl, bh, kIx N p0, fl, fh, pt, nu, de)) r v) : (k = 0 → g 0 = r) ∧ RelT k u v := by
  obtain ⟨hb, hv⟩ := hv
  rcases hz with ⟨hc, hk, hg, hu⟩ | ⟨hc, hk, hu⟩
  · dsimp only at hu hg
    try simp only [onlyIf, if_pos hc] at hb hv
    refine ⟨fun _ => by rw [hg, hb], ?_⟩
    rw [hk, hu, hv, hc]
    exact RelT_mk hok
  · dsimp only at hu
    refine ⟨fun h => absurd (hk.symm.trans h) hc, ?_⟩
    try simp only [onlyIf, if_neg hc] at hv
    rw [hk, hu, hv]
    exact RelT_mk hok
set_option maxHeartbeats 1000000 in
theorem pr_residualHigh {N : Nat} {M S : Nat → Nat → Int32} {rl rh bl bh : Nat → Int32} (hok : okAll N M S rl rh bl bh) {kl kh : Nat → Int32} {mn vc : Nat → Int64} {iv : Nat → Nat → Int64} {sc : Int64} {fl fh : Nat → Int32} {pt : Nat → Int64} {nu de : Int64} {p0 : Int32} {k : Int32} {u : S0} {g : Nat → Int64} {gd : Nat → UInt64} {r : Int64} {v : S1} (hz : yPost (kIx N p0) (mdS M bl bh (ix p0) N - 2048 * (rl (ix p0)).toInt64) (fun u => u = (N, M, S, rl, rh, bl, bh, kl, kh, mn, vc, iv, sc)) (fun u => u = (N, M, S, rl, rh, bl, bh, kl, kh, mn, vc, iv, sc)) k (u, g, gd)) (hv : (fun r u => r = onlyIf (kIx N p0) (mdS M bl bh (ix p0) N - 2048 * (rl (ix p0)).toInt64) 0 ∧ u = (N, M, S, rl, rh, bl, bh, kIx N p0, fl, fh, pt, nu, de)) r v) : (k = 0 → g 0 = r) ∧ RelT k u v := by
  obtain ⟨hb, hv⟩ := hv
  rcases hz with ⟨hc, hk, hg, hu⟩ | ⟨hc, hk, hu⟩
  · dsimp only at hu hg
    try simp only [onlyIf, if_pos hc] at hb hv
    refine ⟨fun _ => by rw [hg, hb], ?_⟩
    rw [hk, hu, hv, hc]
    exact RelT_mk hok
  · dsimp only at hu
    refine ⟨fun h => absurd (hk.symm.trans h) hc, ?_⟩
    try simp only [onlyIf, if_neg hc] at hv
    rw [hk, hu, hv]
    exact RelT_mk hok
set_option maxHeartbeats 1000000 in
theorem ps_size {N : Nat} {M S : Nat → Nat → Int32} {rl rh bl bh : Nat → Int32} (hok : okAll N M S rl rh bl bh) {kl kh : Nat → Int32} {mn vc : Nat → Int64} {iv : Nat → Nat → Int64} {sc : Int64} {fl fh : Nat → Int32} {pt : Nat → Int64} {nu de : Int64} {r0 r1 : Int32} {u : S0} {v : S1} (h0 : (fun r u => r = nI N ∧ u = (N, M, S, rl, rh, bl, bh, kl, kh, mn, vc, iv, sc)) r0 u) (h1 : (fun r u => r = nI N ∧ u = (N, M, S, rl, rh, bl, bh, 0, fl, fh, pt, nu, de)) r1 v) : r0 = r1 ∧ RelT 0 u v := by
  obtain ⟨h0, hu⟩ := h0
  obtain ⟨h1, hv⟩ := h1
  constructor
  · rw [h0, h1]
  · rw [hu, hv]; exact RelT_mk hok
set_option maxHeartbeats 1000000 in
theorem ps_determinant {N : Nat} {M S : Nat → Nat → Int32} {rl rh bl bh : Nat → Int32} (hok : okAll N M S rl rh bl bh) {kl kh : Nat → Int32} {mn vc : Nat → Int64} {iv : Nat → Nat → Int64} {sc : Int64} {fl fh : Nat → Int32} {pt : Nat → Int64} {nu de : Int64} {r0 r1 : Int64} {u : S0} {v : S1} (h0 : (fun r u => r = detM M N ∧ ∃ mn1, u = (N, M, S, rl, rh, bl, bh, kl, kh, mn1, vc, iv, sc)) r0 u) (h1 : (fun r u => r = detM M N ∧ ∃ pt1, u = (N, M, S, rl, rh, bl, bh, 0, fl, fh, pt1, nu, de)) r1 v) : r0 = r1 ∧ RelT 0 u v := by
  obtain ⟨h0, hu⟩ := h0
  obtain ⟨h1, hv⟩ := h1
  obtain ⟨mn1, hu⟩ := hu
  obtain ⟨pt1, hv⟩ := hv
  constructor
  · rw [h0, h1]
  · rw [hu, hv]; exact RelT_mk hok
set_option maxHeartbeats 1000000 in
theorem ps_isSolution {N : Nat} {M S : Nat → Nat → Int32} {rl rh bl bh : Nat → Int32} (hok : okAll N M S rl rh bl bh) {kl kh : Nat → Int32} {mn vc : Nat → Int64} {iv : Nat → Nat → Int64} {sc : Int64} {fl fh : Nat → Int32} {pt : Nat → Int64} {nu de : Int64} {p0 : Int32} {p1 : Int32} {p2 : Int32} {p3 : Int32} {p4 : Int32} {r0 r1 : Int32} {u : S0} {v : S1} (h0 : (fun r u => r = solR N M rl rh (fun j => (vec5 p0 p1 p2 p3 p4 j).toInt64) ∧ ∃ vc1, u = (N, M, S, rl, rh, bl, bh, kl, kh, mn, vc1, iv, sc)) r0 u) (h1 : (fun r u => r = solR N M rl rh (fun j => (vec5 p0 p1 p2 p3 p4 j).toInt64) ∧ u = (N, M, S, rl, rh, bl, bh, 0, fl, fh, pt, nu, de)) r1 v) : r0 = r1 ∧ RelT 0 u v := by
  obtain ⟨h0, hu⟩ := h0
  obtain ⟨h1, hv⟩ := h1
  obtain ⟨vc1, hu⟩ := hu
  constructor
  · rw [h0, h1]
  · rw [hu, hv]; exact RelT_mk hok
set_option maxHeartbeats 1000000 in
theorem ps_isSafe {N : Nat} {M S : Nat → Nat → Int32} {rl rh bl bh : Nat → Int32} (hok : okAll N M S rl rh bl bh) {kl kh : Nat → Int32} {mn vc : Nat → Int64} {iv : Nat → Nat → Int64} {sc : Int64} {fl fh : Nat → Int32} {pt : Nat → Int64} {nu de : Int64} {r0 r1 : Int32} {u : S0} {v : S1} (h0 : (fun r u => r = (if ¬ detM M N = 0 ∧ svI (ivF M N) S N N < 100 * (absL (detM M N)) then 1 else 0) ∧ ∃ mn1 iv1 sc1, u = (N, M, S, rl, rh, bl, bh, kl, kh, mn1, vc, iv1, sc1)) r0 u) (h1 : (fun r u => r = (if (¬ detM M N = 0 ∧ rdN (fvI M S N N) (100 * absL (detM M N)) < rdD (fvI M S N N) (100 * absL (detM M N))) then 1 else 0) ∧ ∃ pt1 nu1 de1, u = (N, M, S, rl, rh, bl, bh, 0, fl, fh, pt1, nu1, de1)) r1 v) : r0 = r1 ∧ RelT 0 u v := by
  obtain ⟨h0, hu⟩ := h0
  obtain ⟨h1, hv⟩ := h1
  obtain ⟨mn1, iv1, sc1, hu⟩ := hu
  obtain ⟨pt1, nu1, de1, hv⟩ := hv
  constructor
  · rw [h0, h1]
    by_cases hd : detM M N = 0
    · rw [if_neg (fun q => q.1 hd), if_neg (fun q => q.1 hd)]
    · have e := (eq_var hok.2.1 hok.2.2.1 hok.2.2.2.1 hd).2.2
      by_cases q : svI (ivF M N) S N N < 100 * absL (detM M N)
      · rw [if_pos ⟨hd, q⟩, if_pos ⟨hd, e.mp q⟩]
      · rw [if_neg (fun z => q z.2), if_neg (fun z => q (e.mpr z.2))]
  · rw [hu, hv]; exact RelT_mk hok
set_option maxHeartbeats 1000000 in
theorem ps_isDominant {N : Nat} {M S : Nat → Nat → Int32} {rl rh bl bh : Nat → Int32} (hok : okAll N M S rl rh bl bh) {kl kh : Nat → Int32} {mn vc : Nat → Int64} {iv : Nat → Nat → Int64} {sc : Int64} {fl fh : Nat → Int32} {pt : Nat → Int64} {nu de : Int64} {r0 r1 : Int32} {u : S0} {v : S1} (h0 : (fun r u => r = (if ∀ t, t < N → 0 < dxJ M S t N then 1 else 0) ∧ u = (N, M, S, rl, rh, bl, bh, kl, kh, mn, vc, iv, sc)) r0 u) (h1 : (fun r u => r = domR N M S ∧ u = (N, M, S, rl, rh, bl, bh, 0, fl, fh, pt, nu, de)) r1 v) : r0 = r1 ∧ RelT 0 u v := by
  obtain ⟨h0, hu⟩ := h0
  obtain ⟨h1, hv⟩ := h1
  constructor
  · rw [h0, h1]; exact eq_dom hok.2.1 hok.2.2.1 hok.2.2.2.1
  · rw [hu, hv]; exact RelT_mk hok
set_option maxHeartbeats 1000000 in
theorem ps_sweep {N : Nat} {M S : Nat → Nat → Int32} {rl rh bl bh : Nat → Int32} (hok : okAll N M S rl rh bl bh) {kl kh : Nat → Int32} {mn vc : Nat → Int64} {iv : Nat → Nat → Int64} {sc : Int64} {fl fh : Nat → Int32} {pt : Nat → Int64} {nu de : Int64} {r0 r1 : Int32} {u : S0} {v : S1} (h0 : (fun r u => r = (if (swS N M rl rh bl bh N).2.2.2 = true then (swS N M rl rh bl bh N).2.2.1 else -1) ∧ ∃ kl1 kh1, u = (N, M, S, rl, rh, if (swS N M rl rh bl bh N).2.2.2 = true then (swS N M rl rh bl bh N).1 else bl, if (swS N M rl rh bl bh N).2.2.2 = true then (swS N M rl rh bl bh N).2.1 else bh, kl1, kh1, mn, vc, iv, sc)) r0 u) (h1 : (fun r u => r = (sw1 N M rl rh (bl, bh)).1 ∧ ∃ fl1 fh1, u = (N, M, S, rl, rh, (sw1 N M rl rh (bl, bh)).2.1, (sw1 N M rl rh (bl, bh)).2.2, 0, fl1, fh1, pt, nu, de)) r1 v) : r0 = r1 ∧ RelT 0 u v := by
  obtain ⟨h0, hu⟩ := h0
  obtain ⟨h1, hv⟩ := h1
  obtain ⟨kl1, kh1, hu⟩ := hu
  obtain ⟨fl1, fh1, hv⟩ := hv
  have hs := sw_eq (rl := rl) (rh := rh) (z := (bl, bh)) hok.2.1 hok.2.2.1 hok.2.2.2.2.2
  have hs0 : sw0 N M rl rh (bl, bh) = (if (swS N M rl rh bl bh N).2.2.2 = true then (swS N M rl rh bl bh N).2.2.1 else -1, if (swS N M rl rh bl bh N).2.2.2 = true then (swS N M rl rh bl bh N).1 else bl, if (swS N M rl rh bl bh N).2.2.2 = true then (swS N M rl rh bl bh N).2.1 else bh) := by
    unfold sw0
    by_cases q : (swS N M rl rh bl bh N).2.2.2 = true <;> simp only [q, if_true, if_false, Bool.false_eq_true]
  have hs1 := hs.1.symm.trans hs0
  have e1 := congrArg (fun z => z.1) hs1
  have e2 := congrArg (fun z => z.2.1) hs1
  have e3 := congrArg (fun z => z.2.2) hs1
  dsimp only at e1 e2 e3
  rw [← e1] at h0
  rw [← e2, ← e3] at hu
  refine ⟨h0.trans h1.symm, ?_⟩
  rw [hu, hv]
  exact RelT_mk ⟨hok.1, hok.2.1, hok.2.2.1, hok.2.2.2.1, hok.2.2.2.2.1, hs.2⟩
set_option maxHeartbeats 1000000 in
theorem ps_digest {N : Nat} {M S : Nat → Nat → Int32} {rl rh bl bh : Nat → Int32} (hok : okAll N M S rl rh bl bh) {kl kh : Nat → Int32} {mn vc : Nat → Int64} {iv : Nat → Nat → Int64} {sc : Int64} {fl fh : Nat → Int32} {pt : Nat → Int64} {nu de : Int64} {r0 r1 : Int64} {u : S0} {v : S1} (h0 : (fun r u => r = dgB bl bh (dgI M S rl rh N (1891 + (nI N).toInt64) N) N * 31 + detM M N ∧ ∃ mn1, u = (N, M, S, rl, rh, bl, bh, kl, kh, mn1, vc, iv, sc)) r0 u) (h1 : (fun r u => r = dgB bl bh (dgI M S rl rh N (1891 + (nI N).toInt64) N) N * 31 + detM M N ∧ ∃ pt1, u = (N, M, S, rl, rh, bl, bh, 0, fl, fh, pt1, nu, de)) r1 v) : r0 = r1 ∧ RelT 0 u v := by
  obtain ⟨h0, hu⟩ := h0
  obtain ⟨h1, hv⟩ := h1
  obtain ⟨mn1, hu⟩ := hu
  obtain ⟨pt1, hv⟩ := hv
  constructor
  · rw [h0, h1]
  · rw [hu, hv]; exact RelT_mk hok
