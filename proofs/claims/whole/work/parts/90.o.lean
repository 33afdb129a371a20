section LOOP
variable {p : Program} {l : Launch} {e : Env} {s : State} {m : MethodId} {args : Array Value} {below : List Frame} {meth : Method} {c : Code} {Q : State → Prop} {A : Nat → Prop} {D : va_G} {K : Nat → ClassId} {a b : Nat → Nat} {o od bS L : Nat} {xs : Nat → Int32}
set_option maxRecDepth 20000 in
set_option maxHeartbeats 2000000 in
theorem law_loop (C : zC p s m args c code 9 wsL_law RL A s.heap D vwCl (zT K)) (hX : xF A s) (hNc : yNc s) (hst : l.stackTraces = false) (hS : va_X bS L xs s s.heap) (hbl : bS < s.heap.size) (hbA : ¬ A bS) (hL : L ≤ 3072) (hend : ∀ (i : Nat) (ws : va_W) (lv : List (Nat × Value)), i ≤ 3072 → zW p l e room_1 s m args below meth c Q 9 A s.heap D vwCl (100 + i) (600 + 2 * i) (ws) 1954 lv []) : ∀ (n i : Nat), i ≤ L → L < n + i → ∀ (u : S0) (v : S1) (g : Nat → Int64) (gd : Nat → UInt64) (k0 : Int32), RelT k0 u v → zW p l e room_1 s m args below meth c Q 9 A s.heap D vwCl (100 + i) (600 + 2 * i) (w1 K b v ++ wv K a o od (u, g, gd)) 28 [(0, .ref bS), (1, .ref (a 0)), (2, .ref (b 0)), (3, .ref o), (4, .ref od), (5, .int (nI i))] [] := by
  intro n
  induction n with
  | zero => intro i h1 h2; omega
  | succ n ih =>
    intro i hi hn u v g gd k0 hr
    refine z_iload C dL_law_28 5 rfl ?_
    refine z_aload_n C dL_law_30 0 rfl ?_
    refine z_slen C hS hbl hbA dL_law_31 ?_
    refine z_bipush (v := 6) C dL_law_32 (by decide) ?_
    refine z_isub C dL_law_34 ?_
    refine z_icmp_gt (tgt := 1954) C dL_law_35 (by decide) (fun _ => hend i _ _ (by omega)) (fun q => ?_)
    have hi6 : i + 6 ≤ L := by have := mt (lp_gt (i := i) (L := L) (by omega) hL).mpr q; omega
    refine z_aload_n C dL_law_38 0 rfl ?_
    refine z_iload C dL_law_39 5 rfl ?_
    refine z_sld C hS hbl hbA dL_law_41 i rfl (by omega) (by omega) ?_
    refine z_bipush (v := 63) C dL_law_42 (by decide) ?_
    refine z_iand C dL_law_44 ?_
    have hk : ∀ (u : S0) (v : S1) (g : Nat → Int64) (gd : Nat → UInt64) (k : Int32), RelT k u v → zW p l e room_1 s m args below meth c Q 9 A s.heap D vwCl (100 + (i + 6)) (600 + 2 * (i + 6)) (w1 K b v ++ wv K a o od (u, g, gd)) 1948 [(0, .ref bS), (1, .ref (a 0)), (2, .ref (b 0)), (3, .ref o), (4, .ref od), (5, .int (nI i))] [] := by
      intro u v g gd k hr
      refine z_iinc (v := nI (i + 6)) (lv' := [(0, .ref bS), (1, .ref (a 0)), (2, .ref (b 0)), (3, .ref o), (4, .ref od), (5, .int (nI (i + 6)))]) C dL_law_1948 (k := 5) rfl (nI_add i 6) (by decide) [1, 2, 3, 4, 5, 0] rfl ?_
      refine z_goto (tgt := 28) C dL_law_1951 (by decide) ?_
      exact ih (i + 6) hi6 (by omega) u v g gd k hr
    generalize xs i &&& 63 = x
    by_cases hx : x.toInt < 0 ∨ 32 < x.toInt
    · refine z_tswOut (tgt := 1948) C dL_law_45 hx (by decide) ?_
      exact z_widen (by omega) (by omega) (hk _ _ _ _ _ hr)
    obtain ⟨j, hj, ej⟩ : ∃ j : Nat, j < 33 ∧ x.toInt = (j : Int) := ⟨x.toInt.toNat, by omega, by omega⟩
    have h1 : ¬ x.toInt < 0 := fun q => hx (Or.inl q)
    have h2 : ¬ 32 < x.toInt := fun q => hx (Or.inr q)
    have hj2 : j = 0 ∨ j = 1 ∨ j = 2 ∨ j = 3 ∨ j = 4 ∨ j = 5 ∨ j = 6 ∨ j = 7 ∨ j = 8 ∨ j = 9 ∨ j = 10 ∨ j = 11 ∨ j = 12 ∨ j = 13 ∨ j = 14 ∨ j = 15 ∨ j = 16 ∨ j = 17 ∨ j = 18 ∨ j = 19 ∨ j = 20 ∨ j = 21 ∨ j = 22 ∨ j = 23 ∨ j = 24 ∨ j = 25 ∨ j = 26 ∨ j = 27 ∨ j = 28 ∨ j = 29 ∨ j = 30 ∨ j = 31 ∨ j = 32 := by omega
    rcases hj2 with rfl | rfl | rfl | rfl | rfl | rfl | rfl | rfl | rfl | rfl | rfl | rfl | rfl | rfl | rfl | rfl | rfl | rfl | rfl | rfl | rfl | rfl | rfl | rfl | rfl | rfl | rfl | rfl | rfl | rfl | rfl | rfl | rfl
    · exact z_tswIn (off := 147) (tgt := 192) C dL_law_45 h1 h2 (by rw [ej]; decide) (by decide) (lc_0 C hX hNc hst hS hbl hbA hi6 hL hk hr)
    · exact z_tswIn (off := 203) (tgt := 248) C dL_law_45 h1 h2 (by rw [ej]; decide) (by decide) (lc_1 C hX hNc hst hS hbl hbA hi6 hL hk hr)
    · exact z_tswIn (off := 216) (tgt := 261) C dL_law_45 h1 h2 (by rw [ej]; decide) (by decide) (lc_2 C hX hNc hst hS hbl hbA hi6 hL hk hr)
    · exact z_tswIn (off := 296) (tgt := 341) C dL_law_45 h1 h2 (by rw [ej]; decide) (by decide) (lc_3 C hX hNc hst hS hbl hbA hi6 hL hk hr)
    · exact z_tswIn (off := 364) (tgt := 409) C dL_law_45 h1 h2 (by rw [ej]; decide) (by decide) (lc_4 C hX hNc hst hS hbl hbA hi6 hL hk hr)
    · exact z_tswIn (off := 451) (tgt := 496) C dL_law_45 h1 h2 (by rw [ej]; decide) (by decide) (lc_5 C hX hNc hst hS hbl hbA hi6 hL hk hr)
    · exact z_tswIn (off := 507) (tgt := 552) C dL_law_45 h1 h2 (by rw [ej]; decide) (by decide) (lc_6 C hX hNc hst hS hbl hbA hi6 hL hk hr)
    · exact z_tswIn (off := 563) (tgt := 608) C dL_law_45 h1 h2 (by rw [ej]; decide) (by decide) (lc_7 C hX hNc hst hS hbl hbA hi6 hL hk hr)
    · exact z_tswIn (off := 643) (tgt := 688) C dL_law_45 h1 h2 (by rw [ej]; decide) (by decide) (lc_8 C hX hNc hst hS hbl hbA hi6 hL hk hr)
    · exact z_tswIn (off := 718) (tgt := 763) C dL_law_45 h1 h2 (by rw [ej]; decide) (by decide) (lc_9 C hX hNc hst hS hbl hbA hi6 hL hk hr)
    · exact z_tswIn (off := 798) (tgt := 843) C dL_law_45 h1 h2 (by rw [ej]; decide) (by decide) (lc_10 C hX hNc hst hS hbl hbA hi6 hL hk hr)
    · exact z_tswIn (off := 812) (tgt := 857) C dL_law_45 h1 h2 (by rw [ej]; decide) (by decide) (lc_11 C hX hNc hst hS hbl hbA hi6 hL hk hr)
    · exact z_tswIn (off := 867) (tgt := 912) C dL_law_45 h1 h2 (by rw [ej]; decide) (by decide) (lc_12 C hX hNc hst hS hbl hbA hi6 hL hk hr)
    · exact z_tswIn (off := 922) (tgt := 967) C dL_law_45 h1 h2 (by rw [ej]; decide) (by decide) (lc_13 C hX hNc hst hS hbl hbA hi6 hL hk hr)
    · exact z_tswIn (off := 977) (tgt := 1022) C dL_law_45 h1 h2 (by rw [ej]; decide) (by decide) (lc_14 C hX hNc hst hS hbl hbA hi6 hL hk hr)
    · exact z_tswIn (off := 1032) (tgt := 1077) C dL_law_45 h1 h2 (by rw [ej]; decide) (by decide) (lc_15 C hX hNc hst hS hbl hbA hi6 hL hk hr)
    · exact z_tswIn (off := 1099) (tgt := 1144) C dL_law_45 h1 h2 (by rw [ej]; decide) (by decide) (lc_16 C hX hNc hst hS hbl hbA hi6 hL hk hr)
    · exact z_tswIn (off := 1166) (tgt := 1211) C dL_law_45 h1 h2 (by rw [ej]; decide) (by decide) (lc_17 C hX hNc hst hS hbl hbA hi6 hL hk hr)
    · exact z_tswIn (off := 1239) (tgt := 1284) C dL_law_45 h1 h2 (by rw [ej]; decide) (by decide) (lc_18 C hX hNc hst hS hbl hbA hi6 hL hk hr)
    · exact z_tswIn (off := 1304) (tgt := 1349) C dL_law_45 h1 h2 (by rw [ej]; decide) (by decide) (lc_19 C hX hNc hst hS hbl hbA hi6 hL hk hr)
    · exact z_tswIn (off := 1347) (tgt := 1392) C dL_law_45 h1 h2 (by rw [ej]; decide) (by decide) (lc_20 C hX hNc hst hS hbl hbA hi6 hL hk hr)
    · exact z_tswIn (off := 1390) (tgt := 1435) C dL_law_45 h1 h2 (by rw [ej]; decide) (by decide) (lc_21 C hX hNc hst hS hbl hbA hi6 hL hk hr)
    · exact z_tswIn (off := 1403) (tgt := 1448) C dL_law_45 h1 h2 (by rw [ej]; decide) (by decide) (lc_22 C hX hNc hst hS hbl hbA hi6 hL hk hr)
    · exact z_tswIn (off := 1416) (tgt := 1461) C dL_law_45 h1 h2 (by rw [ej]; decide) (by decide) (lc_23 C hX hNc hst hS hbl hbA hi6 hL hk hr)
    · exact z_tswIn (off := 1503) (tgt := 1548) C dL_law_45 h1 h2 (by rw [ej]; decide) (by decide) (lc_24 C hX hNc hst hS hbl hbA hi6 hL hk hr)
    · exact z_tswIn (off := 1559) (tgt := 1604) C dL_law_45 h1 h2 (by rw [ej]; decide) (by decide) (lc_25 C hX hNc hst hS hbl hbA hi6 hL hk hr)
    · exact z_tswIn (off := 1615) (tgt := 1660) C dL_law_45 h1 h2 (by rw [ej]; decide) (by decide) (lc_26 C hX hNc hst hS hbl hbA hi6 hL hk hr)
    · exact z_tswIn (off := 1628) (tgt := 1673) C dL_law_45 h1 h2 (by rw [ej]; decide) (by decide) (lc_27 C hX hNc hst hS hbl hbA hi6 hL hk hr)
    · exact z_tswIn (off := 1684) (tgt := 1729) C dL_law_45 h1 h2 (by rw [ej]; decide) (by decide) (lc_28 C hX hNc hst hS hbl hbA hi6 hL hk hr)
    · exact z_tswIn (off := 1728) (tgt := 1773) C dL_law_45 h1 h2 (by rw [ej]; decide) (by decide) (lc_29 C hX hNc hst hS hbl hbA hi6 hL hk hr)
    · exact z_tswIn (off := 1779) (tgt := 1824) C dL_law_45 h1 h2 (by rw [ej]; decide) (by decide) (lc_30 C hX hNc hst hS hbl hbA hi6 hL hk hr)
    · exact z_tswIn (off := 1834) (tgt := 1879) C dL_law_45 h1 h2 (by rw [ej]; decide) (by decide) (lc_31 C hX hNc hst hS hbl hbA hi6 hL hk hr)
    · exact z_tswIn (off := 1889) (tgt := 1934) C dL_law_45 h1 h2 (by rw [ej]; decide) (by decide) (lc_32 C hX hNc hst hS hbl hbA hi6 hL hk hr)
end LOOP
