set_option maxRecDepth 100000 in
set_option maxHeartbeats 4000000 in
theorem cL_below_met (l : Launch) (D : va_G) (K : Nat → ClassId) (p0 : Int32) (p1 : Int32) (h0 : ¬ p1 = 0) : mI l D K yL_below wsL_below 0 0 0 0 [.int p0, .int p1] ([]) (fun r (_ : Unit) => r = blw p0 p1) (wN) := by
  have lk0 : Cond.constant RL 7 (2147483647) ∈ wsL_below := by decide +kernel
  refine z_met_i (cc := cL_below) (maxL := 2) (own := RL) (lv := [(0, .int p0), (1, .int p1)]) (by decide) rfl rfl (Nat.le_of_ble_eq_true rfl) rfl ?_
  intro p e s m below meth c args Q A C hnm hend
  refine z_iload_n C dL_below_0 0 rfl ?_
  refine z_ldc C lk0 dL_below_1 ?_
  refine z_iand C dL_below_3 ?_
  refine z_iload_n C dL_below_4 1 rfl ?_
  refine z_irem C dL_below_5 h0 ?_
  exact hend _ _ _ _ _ () dL_below_6 (Nat.zero_le _) (Nat.zero_le _) rfl

set_option maxRecDepth 100000 in
set_option maxHeartbeats 4000000 in
theorem cL_cell_met (l : Launch) (D : va_G) (K : Nat → ClassId) (b L : Nat) (xs : Nat → Int32) (k : Nat) (hL : L ≤ 260) (hk : k < 1000) : bI l D K yL_cell wsL_cell 0 0 0 0 [.ref b, .int (nI k)] [] b L xs (fun (_ : Int32) (_ : Unit) => True) wN := by
  have lk0 : Cond.constant RL 8 (790386105) ∈ wsL_cell := by decide +kernel
  refine zb_met_i (cc := cL_cell) (maxL := 2) (own := RL) (lv := [(0, .ref b), (1, .int (nI k))]) (by decide) rfl rfl (Nat.le_of_ble_eq_true rfl) rfl ?_
  intro p e s m below meth c args Q A C hX hXb hbl hbA hend
  refine z_iload_n C dL_cell_0 1 rfl ?_
  refine z_aload_n C dL_cell_1 0 rfl ?_
  refine z_slen C hXb hbl hbA dL_cell_2 ?_
  refine z_icmp_ge (tgt := 12) C dL_cell_3 (by decide) (fun c3 => ?_) (fun c3 => ?_)
  · refine z_ldc C lk0 dL_cell_12 ?_
    refine z_iload_n C dL_cell_14 1 rfl ?_
    refine z_iconst (v := 3) C dL_cell_15 (by decide) ?_
    refine z_iadd C dL_cell_16 ?_
    refine z_imul C dL_cell_17 ?_
    exact hend _ _ _ _ _ () dL_cell_18 (Nat.zero_le _) (Nat.zero_le _) trivial
  · have e3 : k < L := by have := mt (nI_leI (a := L) (b := k) (by omega) (by omega)).mpr c3; omega
    refine z_aload_n C dL_cell_6 0 rfl ?_
    refine z_iload_n C dL_cell_7 1 rfl ?_
    refine z_sld C hXb hbl hbA dL_cell_8 k rfl e3 (by omega) ?_
    refine z_goto (tgt := 18) C dL_cell_9 (by decide) ?_
    exact hend _ _ _ _ _ () dL_cell_18 (Nat.zero_le _) (Nat.zero_le _) trivial
