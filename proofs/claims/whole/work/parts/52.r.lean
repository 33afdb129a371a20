/-! rows for the law's own body -/
theorem rm_c : 4000 ≤ room_1.cells := Nat.le_of_ble_eq_true rfl
theorem rm_s : 40000 ≤ room_1.slots := Nat.le_of_ble_eq_true rfl
theorem bm32 {x : Int} (h1 : -2147483648 ≤ x) (h2 : x < 2147483648) : x.bmod (2 ^ 32) = x := by
  rw [Int.bmod_def]
  have e : ((2 ^ 32 : Nat) : Int) = 4294967296 := by decide
  rw [e]
  split <;> omega
theorem lp_gt {i L : Nat} (hi : i ≤ 3072) (hL : L ≤ 3072) : nI L - 6 < nI i ↔ L < i + 6 := by
  have e6 : (6 : Int32).toInt = 6 := rfl
  rw [Int32.lt_iff_toInt_lt, Int32.toInt_sub, nI_toInt (show L < 2 ^ 31 by omega), nI_toInt (show i < 2 ^ 31 by omega), e6, bm32 (by omega) (by omega)]
  omega
section LROWS
variable {p : Program} {l : Launch} {e : Env} {R : Room} {s : State} {m : MethodId} {args : Array Value} {below : List Frame} {meth : Method} {c : Code} {Q : State → Prop} {nL : Nat} {A : Nat → Prop} {H0 : Heap} {D : va_G} {cl : List vw_C} {cells slots : Nat} {ws ws' : va_W} {pc : Nat} {lv lv' : List (Nat × Value)} {st : List Value} {cc : ByteArray} {Ts : List Cond} {own : String} {tys : List (ClassId × FieldType)}
theorem z_sld (C : zC p s m args c cc nL Ts own A H0 D cl tys) {bS L : Nat} {xs : Nat → Int32} (hX : va_X bS L xs s H0) (hbl : bS < H0.size) (hbA : ¬ A bS) {i : Int32} (hdg : decode cc pc = .ok (.iaload, 1)) (j : Nat) (hi : i = nI j) (hj : j < L) (hL : L < 2 ^ 31)
    (kk : zW p l e R s m args below meth c Q nL A H0 D cl cells slots ws (pc + 1) lv (.int (xs j) :: st)) : zW p l e R s m args below meth c Q nL A H0 D cl cells slots ws pc lv (.int i :: .ref bS :: st) := fun H locs ls hP hD hS hl =>
  va_sld C.1.1 C.1.2.1 hX hbl hbA hS (by rw [hi]; exact vp_in_nI hj hL) hdg (by rw [hi, nI_clamp (Nat.lt_trans hj hL)]; exact kk H locs ls hP hD hS hl)
theorem z_slen (C : zC p s m args c cc nL Ts own A H0 D cl tys) {bS L : Nat} {xs : Nat → Int32} (hX : va_X bS L xs s H0) (hbl : bS < H0.size) (hbA : ¬ A bS) (hdg : decode cc pc = .ok (.arraylength, 1))
    (kk : zW p l e R s m args below meth c Q nL A H0 D cl cells slots ws (pc + 1) lv (.int (nI L) :: st)) : zW p l e R s m args below meth c Q nL A H0 D cl cells slots ws pc lv (.ref bS :: st) := fun H locs ls hP hD hS hl =>
  va_slen C.1.1 C.1.2.1 hX hbl hbA hS hdg (kk H locs ls hP hD hS hl)
theorem z_tswIn (C : zC p s m args c cc nL Ts own A H0 D cl tys) {dflt lo hi : Int} {offs : Array Int} {len : Nat} {x : Int32} {off : Int} {tgt : Nat} (hdg : decode cc pc = .ok (.tableswitch dflt lo hi offs, len)) (h1 : ¬ x.toInt < lo) (h2 : ¬ hi < x.toInt) (ho : offs[(x.toInt - lo).toNat]? = some off) (ht : (pc : Int) + off = (tgt : Int))
    (kk : zW p l e R s m args below meth c Q nL A H0 D cl cells slots ws tgt lv st) : zW p l e R s m args below meth c Q nL A H0 D cl cells slots ws pc lv (.int x :: st) := fun H locs ls hP hD hS hl =>
  lv_tableIn C.1.1 C.1.2.1 hdg h1 h2 ho ht (kk H locs ls hP hD hS hl)
theorem z_tswOut (C : zC p s m args c cc nL Ts own A H0 D cl tys) {dflt lo hi : Int} {offs : Array Int} {len : Nat} {x : Int32} {tgt : Nat} (hdg : decode cc pc = .ok (.tableswitch dflt lo hi offs, len)) (h : x.toInt < lo ∨ hi < x.toInt) (ht : (pc : Int) + dflt = (tgt : Int))
    (kk : zW p l e R s m args below meth c Q nL A H0 D cl cells slots ws tgt lv st) : zW p l e R s m args below meth c Q nL A H0 D cl cells slots ws pc lv (.int x :: st) := fun H locs ls hP hD hS hl =>
  lv_tableOut C.1.1 C.1.2.1 hdg h ht (kk H locs ls hP hD hS hl)
theorem z_dcmp (C : zC p s m args c cc nL Ts own A H0 D cl tys) {x y : UInt64} {op : CmpOp} (hdg : decode cc pc = .ok (.dcmp op, 1)) (kk : zW p l e R s m args below meth c Q nL A H0 D cl cells slots ws (pc + 1) lv (.int (Op.cmpValue (FP.dcmp x y) op) :: st)) : zW p l e R s m args below meth c Q nL A H0 D cl cells slots ws pc lv (.double y :: .double x :: st) := fun H locs ls hP hD hS hl =>
  lv_dcmp C.1.1 C.1.2.1 hdg (kk H locs ls hP hD hS hl)
theorem z_topd {x : UInt64} (y : UInt64) (h : x = y) (kk : zW p l e R s m args below meth c Q nL A H0 D cl cells slots ws pc lv (.double y :: st)) : zW p l e R s m args below meth c Q nL A H0 D cl cells slots ws pc lv (.double x :: st) := h ▸ kk
theorem z_newd (C : zC p s m args c cc nL Ts own A H0 D cl tys) {cI : ClassId} {n : Int32} {nn : Nat} (t0 : Nat) (ht : tys[t0]? = some (cI, .double)) (harr : Cond.arrayClass .double ∈ Ts) (hn : ¬ n < 0) (hN : n.toNatClampNeg = nn) (hby : nn * componentBytes .double ≤ 536870912) (hcells : cells + 1 ≤ R.cells) (hslots : slots + nn ≤ R.slots) (hdg : decode cc pc = .ok (.newarray .double, 2)) (kk : ∀ q : Nat, zW p l e R s m args below meth c Q nL A H0 D cl (cells + 1) (slots + nn) (ws ++ [(q, .inl (cI, nn, .inr (.inr (.inr (.inl (fun _ => 0))))))]) (pc + 2) (lv) (.ref q :: st)) : zW p l e R s m args below meth c Q nL A H0 D cl cells slots (ws) (pc) (lv) (.int n :: st) := fun H locs ls hP hD hS hl => va_newa (atype := .double) (ty := .double) (N' := nn) (a0 := (nn, .inr (.inr (.inr (.inl (fun _ => 0)))))) C.1.1 C.1.2.1 (C.1.2.2.2.2 _ harr) rfl C.2.1 hP hD hS C.2.2 (fun _ => rfl) hn hN hby hcells hslots hdg (fun q cA H1 hK1 p1 d1 s1 => by have e1 := (C.2.1.2 t0 _ ht).2; have e2 := (hK1.2 tys.length (cA, .double) (by rw [List.getElem?_append_right (Nat.le_refl _), Nat.sub_self]; rfl)).2; have e3 : some cI = some cA := e1.symm.trans e2; cases e3; exact kk q H1 locs ls p1 d1 s1 hl)
theorem z_new (C : zC p s m args c cc nL Ts own A H0 D cl tys) {index ci N : Nat} {Cn : String} {T : u_T} {fs : List Value} (hin : ∀ w ∈ u_ws Cn T N, w ∈ Ts) (ty : Nat → FieldType) (hty : ∀ k, k < N → parseFieldDescriptor (T k).2.2.1 = some (ty k)) (hcl : Cond.classLink own index Cn ∈ Ts) (hinst : Cond.instantiable Cn N ∈ Ts) (hini : Cond.initialized Cn ∈ Ts) (hc : cl[ci]? = some (Cn, T, N)) (hfs : ∀ j, j < N → defaultValue (ty j) = vp_V fs j) (hcells : cells + 1 ≤ R.cells) (hslots : slots + N ≤ R.slots) (hdg : decode cc pc = .ok (.new index, 3))
    (kk : ∀ q : Nat, zW p l e R s m args below meth c Q nL A H0 D cl (cells + 1) (slots + N) (ws ++ [(q, .inr (ci, fs))]) (pc + 3) lv (.ref q :: st)) : zW p l e R s m args below meth c Q nL A H0 D cl cells slots ws pc lv st := fun H locs ls hP hD hS hl =>
  va_new (ci := ci) (fs := fs) (C := Cn) (T := T) (N := N) C.1.1 C.1.2.1 C.1.2.2.2.2 hin ty hty C.1.2.2.2.1 (C.1.2.2.2.2 _ hcl) (C.1.2.2.2.2 _ hinst) (C.1.2.2.2.2 _ hini) C.2.1 hP hD hS C.2.2 hc hfs hcells hslots hdg (fun q H1 p1 d1 s1 => kk q H1 locs ls p1 d1 s1 hl)
/-- a wrapper's call; its world is the hinder part -/
theorem y_callS {S : Type} {y : MethodName} {bytes : ByteArray} {maxL n mc ms index : Nat} {ret : Option FieldType} {hh : List (Nat × Nat × Nat × Nat)} {wsy : List Cond} {rm : Room} {post : Int32 → S → Prop} {wo : S → va_W} {As stk : List Value} {X wc : va_W} (C : zC p s m args c cc nL Ts own A s.heap D cl tys) (hX : xF A s) (hNc : yNc s)
    (hM : ∀ sz, Met l y wsy rm (va_Pc As (zyPre D cl tys sz wc)) (va_Qi post (fun u => zPost D cl tys (va_A wc sz) (wo u)) (va_A wc sz)) mc ms (va_A wc sz)) (cw : vx_CSW R s args own index y bytes maxL ret hh wsy rm mc ms n) (hdg : decode cc pc = .ok (.invokestatic index, 3)) (hn : As.length = n) (hst : stk = As.reverse ++ st) (hroom : (st.map fun v => v.category).sum ≤ 8) (hf : cells + mc ≤ R.cells ∧ slots + ms ≤ R.slots) (hws : ws = X ++ wc)
    (kk : ∀ (r : Int32) (u : S), post r u → zW p l e R s m args below meth c Q nL A s.heap D cl (cells + mc) (slots + ms) (X ++ wo u) (pc + 3) lv (.int r :: st)) : zW p l e R s m args below meth c Q nL A s.heap D cl cells slots ws pc lv stk := by
  intro H locs ls hP hD hS hl
  subst hws
  subst hst
  have hP : va_P D cl (X ++ (wc ++ [])) H := by rw [List.append_nil]; exact hP
  have hD : va_D A (X ++ (wc ++ [])) := by rw [List.append_nil]; exact hD
  have pC := (zj_P (zj_P hP).2).1
  have dC := (zj_D (zj_D hD).2.1).1
  have hF := z_free hD hS C.2.2
  refine va_calli (vx_runSW (As := As) (rest := st) C.1 (hM H.size) cw ⟨zy_blind, fun U hU hW => ⟨rfl, ⟨⟨by rw [hU], by rw [hU]; exact pC, va_K.moved hW.alike C.2.1, dC.weaken (fun _ _ _ _ => trivial)⟩, hX.at hS hU hW hF⟩, hNc.moved hW.alike⟩⟩ rfl hn hl.1 rfl (lv_room hroom) hdg hf) hS (fun q _ h => hF q h) hF (fun r u t H1 locs ht hvm hw hB hz1 hk1 hS => ?_)
  obtain ⟨hP1, hK1, hD1⟩ := hB
  rw [ht] at hP1
  obtain ⟨hP, hD⟩ := z_join hP hD hk1 hF hP1 hD1
  rw [List.append_nil] at hP hD
  exact kk r u hw H1 locs ls hP hD hS hl
/-- a call whose world is the front part -/
theorem z_callVi_l {S : Type} {y : MethodName} {bytes : ByteArray} {maxL n mc ms index : Nat} {ret : Option FieldType} {wsy : List Cond} {rm : Room} {post : Int32 → S → Prop} {wo : S → va_W} {As stk : List Value} {Cn : String} {b ci : Nat} {fs : List Value} {qc : vw_C} {wc Y : va_W} (C : zC p s m args c cc nL Ts own A H0 D cl tys)
    (hM : ∀ sz, Met l y wsy rm (va_Pc (.ref b :: As) (zPre D cl tys sz wc)) (va_Qi post (fun u => zPost D cl tys (va_A wc sz) (wo u)) (va_A wc sz)) mc ms (va_A wc sz)) (cw : CallW R s args own Cn index y bytes maxL ret wsy rm mc ms n) (hcl : cl[ci]? = some qc) (hCn : qc.1 = Cn) (k0 : Nat) (he : wc[k0]? = some (b, .inr (ci, fs))) (hdg : decode cc pc = .ok (.invokevirtual index, 3)) (hn : As.length = n) (hst : stk = As.reverse ++ .ref b :: st) (hroom : (st.map fun v => v.category).sum ≤ 8) (hf : cells + mc ≤ R.cells ∧ slots + ms ≤ R.slots) (hws : ws = wc ++ Y)
    (kk : ∀ (r : Int32) (u : S), post r u → zW p l e R s m args below meth c Q nL A H0 D cl (cells + mc) (slots + ms) (wo u ++ Y) (pc + 3) lv (.int r :: st)) : zW p l e R s m args below meth c Q nL A H0 D cl cells slots ws pc lv stk :=
  z_callVi (X := []) (wc := wc) (Y := Y) C hM cw hcl hCn k0 he hdg hn hst hroom hf hws kk
/-- a call whose world is the front part -/
theorem z_callVl_l {S : Type} {y : MethodName} {bytes : ByteArray} {maxL n mc ms index : Nat} {ret : Option FieldType} {wsy : List Cond} {rm : Room} {post : Int64 → S → Prop} {wo : S → va_W} {As stk : List Value} {Cn : String} {b ci : Nat} {fs : List Value} {qc : vw_C} {wc Y : va_W} (C : zC p s m args c cc nL Ts own A H0 D cl tys)
    (hM : ∀ sz, Met l y wsy rm (va_Pc (.ref b :: As) (zPre D cl tys sz wc)) (va_Ql post (fun u => zPost D cl tys (va_A wc sz) (wo u)) (va_A wc sz)) mc ms (va_A wc sz)) (cw : CallW R s args own Cn index y bytes maxL ret wsy rm mc ms n) (hcl : cl[ci]? = some qc) (hCn : qc.1 = Cn) (k0 : Nat) (he : wc[k0]? = some (b, .inr (ci, fs))) (hdg : decode cc pc = .ok (.invokevirtual index, 3)) (hn : As.length = n) (hst : stk = As.reverse ++ .ref b :: st) (hroom : (st.map fun v => v.category).sum ≤ 8) (hf : cells + mc ≤ R.cells ∧ slots + ms ≤ R.slots) (hws : ws = wc ++ Y)
    (kk : ∀ (r : Int64) (u : S), post r u → zW p l e R s m args below meth c Q nL A H0 D cl (cells + mc) (slots + ms) (wo u ++ Y) (pc + 3) lv (.long r :: st)) : zW p l e R s m args below meth c Q nL A H0 D cl cells slots ws pc lv stk :=
  z_callVl (X := []) (wc := wc) (Y := Y) C hM cw hcl hCn k0 he hdg hn hst hroom hf hws kk
/-- a call whose world is the front part -/
theorem z_callVd_l {S : Type} {y : MethodName} {bytes : ByteArray} {maxL n mc ms index : Nat} {ret : Option FieldType} {wsy : List Cond} {rm : Room} {post : UInt64 → S → Prop} {wo : S → va_W} {As stk : List Value} {Cn : String} {b ci : Nat} {fs : List Value} {qc : vw_C} {wc Y : va_W} (C : zC p s m args c cc nL Ts own A H0 D cl tys)
    (hM : ∀ sz, Met l y wsy rm (va_Pc (.ref b :: As) (zPre D cl tys sz wc)) (va_Qd post (fun u => zPost D cl tys (va_A wc sz) (wo u)) (va_A wc sz)) mc ms (va_A wc sz)) (cw : CallW R s args own Cn index y bytes maxL ret wsy rm mc ms n) (hcl : cl[ci]? = some qc) (hCn : qc.1 = Cn) (k0 : Nat) (he : wc[k0]? = some (b, .inr (ci, fs))) (hdg : decode cc pc = .ok (.invokevirtual index, 3)) (hn : As.length = n) (hst : stk = As.reverse ++ .ref b :: st) (hroom : (st.map fun v => v.category).sum ≤ 8) (hf : cells + mc ≤ R.cells ∧ slots + ms ≤ R.slots) (hws : ws = wc ++ Y)
    (kk : ∀ (r : UInt64) (u : S), post r u → zW p l e R s m args below meth c Q nL A H0 D cl (cells + mc) (slots + ms) (wo u ++ Y) (pc + 3) lv (.double r :: st)) : zW p l e R s m args below meth c Q nL A H0 D cl cells slots ws pc lv stk :=
  z_callVd (X := []) (wc := wc) (Y := Y) C hM cw hcl hCn k0 he hdg hn hst hroom hf hws kk
/-- a constructor's call -/
theorem z_callIv {S : Type} {y : MethodName} {bytes : ByteArray} {maxL n mc ms index : Nat} {wsy : List Cond} {rm : Room} {Pre : Nat → State → Prop} {post : S → Prop} {wo : S → va_W} {As stk : List Value} {b : Nat} {X wc : va_W} (C : zC p s m args c cc nL Ts own A s.heap D cl tys)
    (hM : ∀ sz, Met l y wsy rm (va_Pc (.ref b :: As) (Pre sz)) (va_Qv post (fun u => zPost D cl tys (va_A wc sz) (wo u)) (va_A wc sz)) mc ms (va_A wc sz)) (hbl : ∀ sz, FrameBlind (va_Pc (.ref b :: As) (Pre sz))) (hpre : ∀ (H : Heap) (U : State), zPre D cl tys H.size wc U → U.heap = H → s.WarmedH U.vm → Pre H.size U)
    (cw : CallB R s args own index y bytes maxL none wsy rm mc ms n ∧ y.name = "<init>" ∧ (Cond.instanceMethod y).before args s = true) (hdg : decode cc pc = .ok (.invokespecial index, 3)) (hn : As.length = n) (hst : stk = As.reverse ++ .ref b :: st) (hroom : (st.map fun v => v.category).sum ≤ 8) (hf : cells + mc ≤ R.cells ∧ slots + ms ≤ R.slots) (hws : ws = X ++ wc)
    (kk : ∀ (u : S), post u → zW p l e R s m args below meth c Q nL A s.heap D cl (cells + mc) (slots + ms) (X ++ wo u) (pc + 3) lv st) : zW p l e R s m args below meth c Q nL A s.heap D cl cells slots ws pc lv stk := by
  intro H locs ls hP hD hS hl
  subst hws
  subst hst
  have hP : va_P D cl (X ++ (wc ++ [])) H := by rw [List.append_nil]; exact hP
  have hD : va_D A (X ++ (wc ++ [])) := by rw [List.append_nil]; exact hD
  have pC := (zj_P (zj_P hP).2).1
  have dC := (zj_D (zj_D hD).2.1).1
  have hF := z_free hD hS C.2.2
  refine va_callv (va_runI (As := As) (rest := st) C.1 (hM H.size) cw ⟨hbl H.size, fun U hU hW => ⟨rfl, hpre H U ⟨by rw [hU], by rw [hU]; exact pC, va_K.moved hW.alike C.2.1, dC.weaken (fun _ _ _ _ => trivial)⟩ hU hW⟩⟩ rfl hn hl.1 rfl (lv_room hroom) hdg hf) hS (fun q _ h => hF q h) hF (fun u t H1 locs ht hvm hw hB hz1 hk1 hS => ?_)
  obtain ⟨hP1, hK1, hD1⟩ := hB
  rw [ht] at hP1
  obtain ⟨hP, hD⟩ := z_join hP hD hk1 hF hP1 hD1
  rw [List.append_nil] at hP hD
  exact kk u hw H1 locs ls hP hD hS hl
end LROWS
