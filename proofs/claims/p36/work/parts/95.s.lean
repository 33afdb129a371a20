theorem arr_of {s : State} {args : Array Value} {ty : FieldType} (h : (Cond.arrayClass ty).before args s = true) (hno : ∀ cA : ClassId, s.vm.findClass ("[" ++ ty.toString) = some cA → va_RA s cA ty) : ∃ cA : ClassId, ArrOfT s cA ty ∧ va_RA s cA ty := by
  obtain ⟨cA, kA, comp, h1, h2, h3⟩ := Cond.arrayClass_spec h
  exact ⟨cA, fun n z => ⟨fun k h => (by cases h), kA, h2, comp, h3⟩, hno cA h1⟩
theorem arr2_of {s : State} {args : Array Value} {ty : FieldType} (h : (Cond.arrayOver (.array ty)).before args s = true) (hno : ∀ cA : ClassId, s.vm.findClass ("[" ++ (FieldType.array ty).toString) = some cA → va_RA s cA (.array ty)) : ∃ cA : ClassId, ArrOfT s cA (.array ty) ∧ va_RA s cA (.array ty) := by
  obtain ⟨comp, cA, kA, h0, h4, h2, h3, h1⟩ := arrayOverA_spec h
  exact ⟨cA, fun n z => ⟨fun k h => (by cases h), kA, h2, comp, h3⟩, hno cA h1⟩
theorem inxB : ∀ w ∈ xB, w ∈ lw_tbl := by decide +kernel
theorem xB_ot : ∀ w ∈ xB, w.onTables = true := by decide +kernel
theorem inTx : ∀ z ∈ xTx, Cond.stringRef RX0 z.1 z.2 ∈ lw_tbl ∧ Cond.exactly (.string RX0 z.1) "java/lang/String" ∈ flatC (Jvm.Cond.and given_1 narrow_1) := by
  have h : (xTx.all (fun z => decide (Cond.stringRef RX0 z.1 z.2 ∈ lw_tbl) && decide (Cond.exactly (.string RX0 z.1) "java/lang/String" ∈ flatC (Jvm.Cond.and given_1 narrow_1)))) = true := by decide +kernel
  intro z hz
  have h1 := List.all_eq_true.mp h z hz
  simp only [Bool.and_eq_true] at h1
  exact ⟨of_decide_eq_true h1.1, of_decide_eq_true h1.2⟩
set_option maxHeartbeats 4000000 in
set_option maxRecDepth 100000 in
theorem whole_start {p : Program} {e : Env} {s : State} {m : MethodId} {below : List Frame} {meth : Method} {c : Code} (l : Launch) (hflags : l.flags = flags0) {b L : Nat} {xs : Nat → Int32} (hL : L ≤ 260) (C0 : lw_At p s m meth c b L xs) : W p l e room_1 s m #[Value.ref b] below meth c s.heap [] 0 0 (lw_Z below #[Value.ref b] s) (entryFrame m ([Value.ref b] : List Value).toArray 14) := by
  obtain ⟨hx, hb, hr, hml, hown, hts, hXb, hbl, hlocks, hgv⟩ := id C0
  have hst : l.stackTraces = false := by
    show (!l.flags.contains noTraceFlag) = false
    rw [hflags]; decide +kernel
  have hfl := flat_of_before _ hgv
  have hts2 : ∀ w ∈ wsL_law, w.before #[Value.ref b] s = true := fun w h => hts w (wsL_law_in w h)
  obtain ⟨c2, i2, k2⟩ := u_known (C := RX0) (T := TX0) (N := 13) (n := 13) hts inX0 (hts2 (.instantiable RX0 13) (by decide +kernel))
  obtain ⟨a0, r0, e0⟩ := arr_of (ty := .int) (hts (.arrayClass .int) (by decide +kernel)) (fun _ h => h)
  obtain ⟨a1, r1, e1⟩ := arr_of (ty := .long) (hts (.arrayClass .long) (by decide +kernel)) (fun _ h => h)
  obtain ⟨a2, r2, e2⟩ := arr2_of (ty := .int) (hts (.arrayOver (.array .int)) (by decide +kernel)) (fun _ h => h)
  obtain ⟨a3, r3, e3⟩ := arr2_of (ty := .long) (hts (.arrayOver (.array .long)) (by decide +kernel)) (fun _ h => h)
  obtain ⟨D, hDc⟩ : ∃ D : va_G, ∀ (k : Nat) (q : vw_C), vwCl[k]? = some q → u_Kn s q.1 q.2.1 q.2.2 (D.1 k) (D.2 k) := by
    refine ⟨(fun _ => c2, fun _ => i2), ?_⟩
    intro k q hq
    match k, hq with
    | 0, hq => cases hq; exact k2
    | k + 1, hq => simp [vwCl] at hq
  obtain ⟨K, hKt⟩ : ∃ K : Nat → ClassId, ∀ (k : Nat) (q : ClassId × FieldType), (zT K)[k]? = some q → ArrOfT s q.1 q.2 ∧ va_RA s q.1 q.2 := by
    refine ⟨fun k => match k with | 0 => a0 | 1 => a1 | 2 => a2 | _ => a3, ?_⟩
    intro k q hq
    match k, hq with
    | 0, hq => cases hq; exact ⟨r0, e0⟩
    | 1, hq => cases hq; exact ⟨r1, e1⟩
    | 2, hq => cases hq; exact ⟨r2, e2⟩
    | 3, hq => cases hq; exact ⟨r3, e3⟩
    | k + 4, hq => simp [zT] at hq
  obtain ⟨A, hAe⟩ : ∃ A : Nat → Prop, A = (fun q : Nat => s.heap.size ≤ q) := ⟨_, rfl⟩
  have hA : ∀ q : Nat, s.heap.size ≤ q → A q := fun q h => by rw [hAe]; exact h
  have hAn : ∀ q : Nat, q < s.heap.size → ¬ A q := fun q h => by rw [hAe]; exact Nat.not_le.mpr h
  have hAl : ∀ q : Nat, A q → s.heap.size ≤ q := fun q h => by rw [hAe] at h; exact h
  have hbA : ¬ A b := hAn b hbl
  have C : zC p s m #[Value.ref b] c code 14 wsL_law RL A s.heap D vwCl (zT K) := ⟨⟨hx, hb, hml, hown, hts2⟩, ⟨hDc, hKt⟩, hA⟩
  have hXf : xF A s := by
    refine ⟨vx_Zqof (hts (.laysStatic Bundle.tN "UNASSIGNED_STACK" Bundle.steD) (by decide +kernel)) (hts (.initialized Bundle.tN) (by decide +kernel)) (hfl (.isRef (.static Bundle.tN "UNASSIGNED_STACK" Bundle.steD)) (by decide +kernel)) hAn, vx_Zqof (hts (.laysStatic Bundle.tN "SUPPRESSED_SENTINEL" Bundle.listD) (by decide +kernel)) (hts (.initialized Bundle.tN) (by decide +kernel)) (hfl (.isRef (.static Bundle.tN "SUPPRESSED_SENTINEL" Bundle.listD)) (by decide +kernel)) hAn, fun w hw => va_tabs (xB_ot w hw) rfl (hts w (inxB w hw)), fun z hz => ?_⟩
    obtain ⟨h1, h2⟩ := inTx z hz
    obtain ⟨sa, cs, cell, k, h3, -⟩ := Cond.exactly_spec (hfl _ h2)
    exact ⟨sa, vk_R.of (hts _ h1) h3⟩
  have ho1 : va_AOA .int s := va_AOA.of (hts (.arrayOver (.array .int)) (by decide +kernel))
  have ho2 : va_AOA .long s := va_AOA.of (hts (.arrayOver (.array .long)) (by decide +kernel))
  have hz : zW p l e room_1 s m #[Value.ref b] below meth c (lw_Z below #[Value.ref b] s) 14 A s.heap D vwCl 0 0 [] 0 [(0, .ref b)] [] := by
    refine z_new (ci := 0) (fs := [.int 0, .null, .null, .null, .null, .null, .null, .null, .null, .null, .null, .null, .long 0]) (Cn := RX0) (T := TX0) (N := 13) C inlX0 tyX0 tyX0_ok (by decide +kernel) (by decide +kernel) (by decide +kernel) rfl ?_ (Nat.le_of_ble_eq_true rfl) (Nat.le_of_ble_eq_true rfl) dL_law_0 (fun q0 => ?_)
    · intro j hj
      match j, hj with
      | 0, _ => rfl
      | 1, _ => rfl
      | 2, _ => rfl
      | 3, _ => rfl
      | 4, _ => rfl
      | 5, _ => rfl
      | 6, _ => rfl
      | 7, _ => rfl
      | 8, _ => rfl
      | 9, _ => rfl
      | 10, _ => rfl
      | 11, _ => rfl
      | 12, _ => rfl
      | n + 13, h => exact absurd h (by omega)
    refine z_dup C dL_law_3 rfl ?_
    refine z_callIv (X := []) (wc := [(q0, .inr (0, [.int 0, .null, .null, .null, .null, .null, .null, .null, .null, .null, .null, .null, .long 0]))]) (As := []) (st := [.ref q0]) C (c0_init l D K q0) (fun sz => zo_blind) (fun H U hz hU hW => ⟨hz, ho1.moved hW.alike, ho2.moved hW.alike⟩) (cwI 0 C.1.2.2.2.2 gL_law_X0_init rfl rfl rfl (hts2 (.initialized RX0) (by decide +kernel)) (hts2 (.methodLink RL 37 yX0_init) (by decide +kernel)) (hts2 (.instanceMethod yX0_init) (by decide +kernel)) rfl (by decide +kernel) ⟨Nat.le_of_ble_eq_true rfl, Nat.le_of_ble_eq_true rfl⟩) dL_law_4 rfl rfl (Nat.le_of_ble_eq_true rfl) ⟨Nat.le_of_ble_eq_true rfl, Nat.le_of_ble_eq_true rfl⟩ rfl (fun u hu => ?_)
    obtain ⟨a, u0⟩ := u
    obtain ⟨hq0, rfl⟩ := hu
    dsimp only at hq0
    subst hq0
    refine z_astore_n (lv' := [(0, .ref b), (1, .ref (a 0))]) C dL_law_7 (by decide) [1, 0] rfl ?_
    refine z_bipush (v := 9) C dL_law_8 (by decide) ?_
    refine z_newi (nn := 9) C 0 rfl (by decide +kernel) (by decide) rfl (by decide) (Nat.le_of_ble_eq_true rfl) (Nat.le_of_ble_eq_true rfl) dL_law_10 (fun qa => ?_)
    refine z_astore_n (lv' := [(0, .ref b), (1, .ref (a 0)), (2, .ref qa)]) C dL_law_12 (by decide) [1, 2, 0] rfl ?_
    refine z_iconst (v := 3) C dL_law_13 (by decide) ?_
    refine z_newi (nn := 3) C 0 rfl (by decide +kernel) (by decide) rfl (by decide) (Nat.le_of_ble_eq_true rfl) (Nat.le_of_ble_eq_true rfl) dL_law_14 (fun qx => ?_)
    refine z_astore_n (lv' := [(0, .ref b), (1, .ref (a 0)), (2, .ref qa), (3, .ref qx)]) C dL_law_16 (by decide) [1, 2, 3, 0] rfl ?_
    refine z_iconst (v := 3) C dL_law_17 (by decide) ?_
    refine z_newi (nn := 3) C 0 rfl (by decide +kernel) (by decide) rfl (by decide) (Nat.le_of_ble_eq_true rfl) (Nat.le_of_ble_eq_true rfl) dL_law_18 (fun ql => ?_)
    refine z_astore (lv' := [(0, .ref b), (1, .ref (a 0)), (2, .ref qa), (3, .ref qx), (4, .ref ql)]) C dL_law_20 (by decide) [1, 2, 3, 4, 0] rfl ?_
    refine z_iconst (v := 3) C dL_law_22 (by decide) ?_
    refine z_newi (nn := 3) C 0 rfl (by decide +kernel) (by decide) rfl (by decide) (Nat.le_of_ble_eq_true rfl) (Nat.le_of_ble_eq_true rfl) dL_law_23 (fun qh => ?_)
    refine z_astore (lv' := [(0, .ref b), (1, .ref (a 0)), (2, .ref qa), (3, .ref qx), (4, .ref ql), (5, .ref qh)]) C dL_law_25 (by decide) [1, 2, 3, 4, 5, 0] rfl ?_
    refine z_ws (ws' := wl K a qa qx ql qh ((1, matz (fun _ _ => 0) 5, matz (fun _ _ => 0) 5, vecz (fun _ => 0) 0 5, vecz (fun _ => 0) 0 5, vecz (fun _ => 0) (-1000000000) 5, vecz (fun _ => 0) 1000000000 5, (fun _ => 0), (fun _ => 0), (fun _ => 0), (fun _ => 0), (fun _ _ => 0), 0), (fun _ => 0), (fun _ => 0), (fun _ => 0), (fun _ => 0))) rfl ?_
    refine z_widen (k := 31) (n := 188) (Nat.le_of_ble_eq_true rfl) (Nat.le_of_ble_eq_true rfl) ?_
    exact law_body hL hst hx hb hr hlocks C hXf hXb hbl hbA hAl
  have hl := lv_entry ([.ref b]) (n := 14) (Nat.le_of_ble_eq_true rfl)
  rw [lg_entry_eq]
  exact hz s.heap [] _ (fun k q h => by simp at h) ⟨fun i j p q h => by simp at h, fun k q h => by simp at h⟩ va_S.rf hl
