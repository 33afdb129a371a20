/-! rows for the law's own body -/
theorem rm_c : 4000 ≤ room_1.cells := Nat.le_of_ble_eq_true rfl
theorem rm_s : 40000 ≤ room_1.slots := Nat.le_of_ble_eq_true rfl
section LROWS
variable {p : Program} {l : Launch} {e : Env} {R : Room} {s : State} {m : MethodId} {args : Array Value} {below : List Frame} {meth : Method} {c : Code} {Q : State → Prop} {nL : Nat} {A : Nat → Prop} {H0 : Heap} {D : va_G} {cl : List vw_C} {cells slots : Nat} {ws ws' : va_W} {pc : Nat} {lv lv' : List (Nat × Value)} {st : List Value} {cc : ByteArray} {Ts : List Cond} {own : String} {tys : List (ClassId × FieldType)}

theorem z_sld (C : zC p s m args c cc nL Ts own A H0 D cl tys) {bS L : Nat} {xs : Nat → Int32} (hX : va_X bS L xs s H0) (hbl : bS < H0.size) (hbA : ¬ A bS) {i : Int32} (hdg : decode cc pc = .ok (.iaload, 1)) (j : Nat) (hi : i = nI j) (hj : j < L) (hL : L < 2 ^ 31)
    (kk : zW p l e R s m args below meth c Q nL A H0 D cl cells slots ws (pc + 1) lv (.int (xs j) :: st)) : zW p l e R s m args below meth c Q nL A H0 D cl cells slots ws pc lv (.int i :: .ref bS :: st) := fun H locs ls hP hD hS hl =>
  va_sld C.1.1 C.1.2.1 hX hbl hbA hS (by rw [hi]; exact vp_in_nI hj hL) hdg (by rw [hi, nI_clamp (Nat.lt_trans hj hL)]; exact kk H locs ls hP hD hS hl)
theorem z_slen (C : zC p s m args c cc nL Ts own A H0 D cl tys) {bS L : Nat} {xs : Nat → Int32} (hX : va_X bS L xs s H0) (hbl : bS < H0.size) (hbA : ¬ A bS) (hdg : decode cc pc = .ok (.arraylength, 1))
    (kk : zW p l e R s m args below meth c Q nL A H0 D cl cells slots ws (pc + 1) lv (.int (nI L) :: st)) : zW p l e R s m args below meth c Q nL A H0 D cl cells slots ws pc lv (.ref bS :: st) := fun H locs ls hP hD hS hl =>
  va_slen C.1.1 C.1.2.1 hX hbl hbA hS hdg (kk H locs ls hP hD hS hl)
theorem z_new (C : zC p s m args c cc nL Ts own A H0 D cl tys) {index ci N : Nat} {Cn : String} {T : u_T} {fs : List Value} (hin : ∀ w ∈ u_ws Cn T N, w ∈ Ts) (ty : Nat → FieldType) (hty : ∀ k, k < N → parseFieldDescriptor (T k).2.2.1 = some (ty k)) (hcl : Cond.classLink own index Cn ∈ Ts) (hinst : Cond.instantiable Cn N ∈ Ts) (hini : Cond.initialized Cn ∈ Ts) (hc : cl[ci]? = some (Cn, T, N)) (hfs : ∀ j, j < N → defaultValue (ty j) = vp_V fs j) (hcells : cells + 1 ≤ R.cells) (hslots : slots + N ≤ R.slots) (hdg : decode cc pc = .ok (.new index, 3))
    (kk : ∀ q : Nat, zW p l e R s m args below meth c Q nL A H0 D cl (cells + 1) (slots + N) (ws ++ [(q, .inr (ci, fs))]) (pc + 3) lv (.ref q :: st)) : zW p l e R s m args below meth c Q nL A H0 D cl cells slots ws pc lv st := fun H locs ls hP hD hS hl =>
  va_new (ci := ci) (fs := fs) (C := Cn) (T := T) (N := N) C.1.1 C.1.2.1 C.1.2.2.2.2 hin ty hty C.1.2.2.2.1 (C.1.2.2.2.2 _ hcl) (C.1.2.2.2.2 _ hinst) (C.1.2.2.2.2 _ hini) C.2.1 hP hD hS C.2.2 hc hfs hcells hslots hdg (fun q H1 p1 d1 s1 => kk q H1 locs ls p1 d1 s1 hl)
/-- a constructor's call -/
theorem z_callIv {S : Type} {y : MethodName} {bytes : ByteArray} {maxL n mc ms index : Nat} {wsy : List Cond} {rm : Room} {Pre : Nat → State → Prop} {post : S → Prop} {wo : S → va_W} {As stk : List Value} {b : Nat} {X wc : va_W} (C : zC p s m args c cc nL Ts own A s.heap D cl tys)
    (hM : ∀ sz, Met l y wsy rm (va_Pc (.ref b :: As) (Pre sz)) (va_Qv post (fun u => zPost D cl tys (va_A wc sz) (wo u)) (va_A wc sz)) mc ms (va_A wc sz)) (hbl : ∀ sz, FrameBlind (va_Pc (.ref b :: As) (Pre sz))) (hpre : ∀ (H : Heap) (U : State), zPre D cl tys H.size wc U → U.heap = H → s.WarmedH U.vm → Pre H.size U)
    (cw : CallB R s args own index y bytes maxL none wsy rm mc ms n ∧ y.name = "<init>" ∧ (Cond.instanceMethod y).before args s = true) (hdg : decode cc pc = .ok (.invokespecial index, 3)) (hn : As.length = n) (hst : stk = As.reverse ++ .ref b :: st) (hroom : (st.map fun v => v.category).sum ≤ 8) (hf : cells + mc ≤ R.cells ∧ slots + ms ≤ R.slots) (hws : ws = X ++ wc)
    (kk : ∀ (u : S), post u → zW p l e R s m args below meth c Q nL A s.heap D cl (cells + mc) (slots + ms) (X ++ wo u) (pc + 3) lv st) : zW p l e R s m args below meth c Q nL A s.heap D cl cells slots ws pc lv stk := by
  intro H locs ls hP hD hS hl
  subst hws
  subst hst
  have hP : va_P D cl (X ++ (wc ++ [])) H := by rw [List.append_nil]; exact hP
  have hD : va_D A (X ++ (wc ++ [])) := by rw [List.append_nil]; exact hD
  have pC := (zj_P (zj_P hP).2).1
  have dC := (zj_D (zj_D hD).2.1).1
  have hF := z_free hD hS C.2.2
  refine va_callv (va_runI (As := As) (rest := st) C.1 (hM H.size) cw ⟨hbl H.size, fun U hU hW => ⟨rfl, hpre H U ⟨by rw [hU], by rw [hU]; exact pC, va_K.moved hW.alike C.2.1, dC.weaken (fun _ _ _ _ => trivial)⟩ hU hW⟩⟩ rfl hn hl.1 rfl (lv_room hroom) hdg hf) hS (fun q _ h => hF q h) hF (fun u t H1 locs ht hvm hw hB hz1 hk1 hS => ?_)
  obtain ⟨hP1, hK1, hD1⟩ := hB
  rw [ht] at hP1
  obtain ⟨hP, hD⟩ := z_join hP hD hk1 hF hP1 hD1
  rw [List.append_nil] at hP hD
  exact kk u hw H1 locs ls hP hD hS hl
/-- the world of the class with the law's four rows behind it -/
abbrev S4 : Type := (Nat → Int32) × (Nat → Int32) × (Nat → Int32) × (Nat → Int32)
def wY (K : Nat → ClassId) (qa qx ql qh : Nat) (z : S4) : va_W := [(qa, .inl (K 0, 9, .inl z.1)), (qx, .inl (K 0, 3, .inl z.2.1)), (ql, .inl (K 0, 3, .inl z.2.2.1)), (qh, .inl (K 0, 3, .inl z.2.2.2))]
def wl (K : Nat → ClassId) (a : Nat → Nat) (qa qx ql qh : Nat) : S0 × S4 → va_W := fun z => w0 K a z.1 ++ wY K qa qx ql qh z.2
/-- a call that may throw, but doesn't here -/
theorem wl_callxi {y : MethodName} {bytes : ByteArray} {maxL n mc ms index : Nat} {ret : Option FieldType} {wsy : List Cond} {fr lo : Nat} {post : Int32 → S0 → Prop} {px : String → S0 → Prop} {As stk : List Value} {K : Nat → ClassId} {a : Nat → Nat} {qa qx ql qh : Nat} {z : S4} {N : Nat} {M : Nat → Nat → Int32} {S : Nat → Nat → Int32} {rl : Nat → Int32} {rh : Nat → Int32} {bl : Nat → Int32} {bh : Nat → Int32} {kl : Nat → Int32} {kh : Nat → Int32} {mn : Nat → Int64} {vc : Nat → Int64} {iv : Nat → Nat → Int64} {sc : Int64} (C : zC p s m args c cc nL Ts own A s.heap D vwCl (zT K)) (hX : xF A s)
    (hM : xI l D K y wsy fr lo mc ms (.ref (a 0) :: As) (w0 K a (N, M, S, rl, rh, bl, bh, kl, kh, mn, vc, iv, sc)) post px (w0 K a)) (hno : ∀ (E : String) (u : S0), ¬ px E u) (cw : CallW R s args own RX0 index y bytes maxL ret wsy { frames := fr, cells := mc, slots := ms, locals := lo } mc ms n) (hdg : decode cc pc = .ok (.invokevirtual index, 3)) (hn : As.length = n) (hst : stk = As.reverse ++ .ref (a 0) :: st) (hroom : (st.map fun v => v.category).sum ≤ 8) (hf : cells + mc ≤ R.cells ∧ slots + ms ≤ R.slots)
    (kk : ∀ (r : Int32) (u : S0), post r u → zW p l e R s m args below meth c Q nL A s.heap D vwCl (cells + mc) (slots + ms) (wl K a qa qx ql qh (u, z)) (pc + 3) lv (.int r :: st)) : zW p l e R s m args below meth c Q nL A s.heap D vwCl cells slots (wl K a qa qx ql qh ((N, M, S, rl, rh, bl, bh, kl, kh, mn, vc, iv, sc), z)) pc lv stk :=
  x_callVi (X := []) (wc := w0 K a (N, M, S, rl, rh, bl, bh, kl, kh, mn, vc, iv, sc)) (Y := wY K qa qx ql qh z) (ci := 0) C hX hM cw rfl rfl 0 rfl hdg hn hst hroom hf rfl (fun E u h => absurd h (hno E u)) kk
theorem wl_callmi {y : MethodName} {bytes : ByteArray} {maxL n mc ms index : Nat} {ret : Option FieldType} {wsy : List Cond} {fr lo : Nat} {post : Int32 → S0 → Prop} {As stk : List Value} {K : Nat → ClassId} {a : Nat → Nat} {qa qx ql qh : Nat} {z : S4} {N : Nat} {M : Nat → Nat → Int32} {S : Nat → Nat → Int32} {rl : Nat → Int32} {rh : Nat → Int32} {bl : Nat → Int32} {bh : Nat → Int32} {kl : Nat → Int32} {kh : Nat → Int32} {mn : Nat → Int64} {vc : Nat → Int64} {iv : Nat → Nat → Int64} {sc : Int64} (C : zC p s m args c cc nL Ts own A s.heap D vwCl (zT K))
    (hM : mI l D K y wsy fr lo mc ms (.ref (a 0) :: As) (w0 K a (N, M, S, rl, rh, bl, bh, kl, kh, mn, vc, iv, sc)) post (w0 K a)) (cw : CallW R s args own RX0 index y bytes maxL ret wsy { frames := fr, cells := mc, slots := ms, locals := lo } mc ms n) (hdg : decode cc pc = .ok (.invokevirtual index, 3)) (hn : As.length = n) (hst : stk = As.reverse ++ .ref (a 0) :: st) (hroom : (st.map fun v => v.category).sum ≤ 8) (hf : cells + mc ≤ R.cells ∧ slots + ms ≤ R.slots)
    (kk : ∀ (r : Int32) (u : S0), post r u → zW p l e R s m args below meth c Q nL A s.heap D vwCl (cells + mc) (slots + ms) (wl K a qa qx ql qh (u, z)) (pc + 3) lv (.int r :: st)) : zW p l e R s m args below meth c Q nL A s.heap D vwCl cells slots (wl K a qa qx ql qh ((N, M, S, rl, rh, bl, bh, kl, kh, mn, vc, iv, sc), z)) pc lv stk :=
  z_callVi (X := []) (wc := w0 K a (N, M, S, rl, rh, bl, bh, kl, kh, mn, vc, iv, sc)) (Y := wY K qa qx ql qh z) (ci := 0) C hM cw rfl rfl 0 rfl hdg hn hst hroom hf rfl kk
/-- a call that may throw, but doesn't here -/
theorem wl_callxl {y : MethodName} {bytes : ByteArray} {maxL n mc ms index : Nat} {ret : Option FieldType} {wsy : List Cond} {fr lo : Nat} {post : Int64 → S0 → Prop} {px : String → S0 → Prop} {As stk : List Value} {K : Nat → ClassId} {a : Nat → Nat} {qa qx ql qh : Nat} {z : S4} {N : Nat} {M : Nat → Nat → Int32} {S : Nat → Nat → Int32} {rl : Nat → Int32} {rh : Nat → Int32} {bl : Nat → Int32} {bh : Nat → Int32} {kl : Nat → Int32} {kh : Nat → Int32} {mn : Nat → Int64} {vc : Nat → Int64} {iv : Nat → Nat → Int64} {sc : Int64} (C : zC p s m args c cc nL Ts own A s.heap D vwCl (zT K)) (hX : xF A s)
    (hM : xL l D K y wsy fr lo mc ms (.ref (a 0) :: As) (w0 K a (N, M, S, rl, rh, bl, bh, kl, kh, mn, vc, iv, sc)) post px (w0 K a)) (hno : ∀ (E : String) (u : S0), ¬ px E u) (cw : CallW R s args own RX0 index y bytes maxL ret wsy { frames := fr, cells := mc, slots := ms, locals := lo } mc ms n) (hdg : decode cc pc = .ok (.invokevirtual index, 3)) (hn : As.length = n) (hst : stk = As.reverse ++ .ref (a 0) :: st) (hroom : (st.map fun v => v.category).sum ≤ 8) (hf : cells + mc ≤ R.cells ∧ slots + ms ≤ R.slots)
    (kk : ∀ (r : Int64) (u : S0), post r u → zW p l e R s m args below meth c Q nL A s.heap D vwCl (cells + mc) (slots + ms) (wl K a qa qx ql qh (u, z)) (pc + 3) lv (.long r :: st)) : zW p l e R s m args below meth c Q nL A s.heap D vwCl cells slots (wl K a qa qx ql qh ((N, M, S, rl, rh, bl, bh, kl, kh, mn, vc, iv, sc), z)) pc lv stk :=
  x_callVl (X := []) (wc := w0 K a (N, M, S, rl, rh, bl, bh, kl, kh, mn, vc, iv, sc)) (Y := wY K qa qx ql qh z) (ci := 0) C hX hM cw rfl rfl 0 rfl hdg hn hst hroom hf rfl (fun E u h => absurd h (hno E u)) kk
theorem wl_callml {y : MethodName} {bytes : ByteArray} {maxL n mc ms index : Nat} {ret : Option FieldType} {wsy : List Cond} {fr lo : Nat} {post : Int64 → S0 → Prop} {As stk : List Value} {K : Nat → ClassId} {a : Nat → Nat} {qa qx ql qh : Nat} {z : S4} {N : Nat} {M : Nat → Nat → Int32} {S : Nat → Nat → Int32} {rl : Nat → Int32} {rh : Nat → Int32} {bl : Nat → Int32} {bh : Nat → Int32} {kl : Nat → Int32} {kh : Nat → Int32} {mn : Nat → Int64} {vc : Nat → Int64} {iv : Nat → Nat → Int64} {sc : Int64} (C : zC p s m args c cc nL Ts own A s.heap D vwCl (zT K))
    (hM : mL l D K y wsy fr lo mc ms (.ref (a 0) :: As) (w0 K a (N, M, S, rl, rh, bl, bh, kl, kh, mn, vc, iv, sc)) post (w0 K a)) (cw : CallW R s args own RX0 index y bytes maxL ret wsy { frames := fr, cells := mc, slots := ms, locals := lo } mc ms n) (hdg : decode cc pc = .ok (.invokevirtual index, 3)) (hn : As.length = n) (hst : stk = As.reverse ++ .ref (a 0) :: st) (hroom : (st.map fun v => v.category).sum ≤ 8) (hf : cells + mc ≤ R.cells ∧ slots + ms ≤ R.slots)
    (kk : ∀ (r : Int64) (u : S0), post r u → zW p l e R s m args below meth c Q nL A s.heap D vwCl (cells + mc) (slots + ms) (wl K a qa qx ql qh (u, z)) (pc + 3) lv (.long r :: st)) : zW p l e R s m args below meth c Q nL A s.heap D vwCl cells slots (wl K a qa qx ql qh ((N, M, S, rl, rh, bl, bh, kl, kh, mn, vc, iv, sc), z)) pc lv stk :=
  z_callVl (X := []) (wc := w0 K a (N, M, S, rl, rh, bl, bh, kl, kh, mn, vc, iv, sc)) (Y := wY K qa qx ql qh z) (ci := 0) C hM cw rfl rfl 0 rfl hdg hn hst hroom hf rfl kk
/-! the law's own static methods, to which the script is given -/
def zbPre (D : va_G) (cl : List vw_C) (tys : List (ClassId × FieldType)) (sz : Nat) (wc : va_W) (b L : Nat) (xs : Nat → Int32) : State → Prop := fun U => zxPre D cl tys sz wc U ∧ va_X b L xs U U.heap ∧ ¬ va_A wc sz b
theorem zb_blind {sz : Nat} {wc : va_W} {av : List Value} {b L : Nat} {xs : Nat → Int32} : FrameBlind (va_Pc av (zbPre D cl tys sz wc b L xs)) := fun a U g mk q => by
  obtain ⟨q0, ⟨⟨q1, qP, qK, qD⟩, qX⟩, qb, qa⟩ := q
  exact ⟨q0, ⟨⟨q1, qP, va_K.moved (u := U) (U := U.calling g mk a) (Vm.Alike.refl U.vm) qK, qD⟩, qX.calling⟩, va_X.moved (u := U) (U := U.calling g mk a) (Vm.Alike.refl U.vm) qb, qa⟩
theorem zb_callS {S : Type} {y : MethodName} {bytes : ByteArray} {maxL n mc ms index : Nat} {ret : Option FieldType} {wsy : List Cond} {rm : Room} {post : Int32 → S → Prop} {wo : S → va_W} {As stk : List Value} {X wc : va_W} {b L : Nat} {xs : Nat → Int32} (C : zC p s m args c cc nL Ts own A s.heap D cl tys) (hX : xF A s) (hb : va_X b L xs s s.heap) (hbl : b < s.heap.size) (hbA : ¬ A b)
    (hM : ∀ sz, Met l y wsy rm (va_Pc As (zbPre D cl tys sz wc b L xs)) (va_Qi post (fun u => zPost D cl tys (va_A wc sz) (wo u)) (va_A wc sz)) mc ms (va_A wc sz)) (cw : CallB R s args own index y bytes maxL ret wsy rm mc ms n ∧ (Cond.static y).before args s = true) (hdg : decode cc pc = .ok (.invokestatic index, 3)) (hn : As.length = n) (hst : stk = As.reverse ++ st) (hroom : (st.map fun v => v.category).sum ≤ 8) (hf : cells + mc ≤ R.cells ∧ slots + ms ≤ R.slots) (hws : ws = X ++ wc)
    (kk : ∀ (r : Int32) (u : S), post r u → zW p l e R s m args below meth c Q nL A s.heap D cl (cells + mc) (slots + ms) (X ++ wo u) (pc + 3) lv (.int r :: st)) : zW p l e R s m args below meth c Q nL A s.heap D cl cells slots ws pc lv stk := by
  intro H locs ls hP hD hS hl
  subst hws
  subst hst
  have hP : va_P D cl (X ++ (wc ++ [])) H := by rw [List.append_nil]; exact hP
  have hD : va_D A (X ++ (wc ++ [])) := by rw [List.append_nil]; exact hD
  have pC := (zj_P (zj_P hP).2).1
  have dC := (zj_D (zj_D hD).2.1).1
  have hF := z_free hD hS C.2.2
  refine va_calli (va_runS (As := As) (rest := st) C.1 (hM H.size) cw ⟨zb_blind, fun U hU hW => ⟨rfl, ⟨⟨by rw [hU], by rw [hU]; exact pC, va_K.moved hW.alike C.2.1, dC.weaken (fun _ _ _ _ => trivial)⟩, hX.at hS hU hW hF⟩, by rw [hU]; exact va_X.moved hW.alike (hb.kept (hS.2.1 b hbl hbA)), fun q => hbA (hF b q)⟩⟩ rfl hn hl.1 rfl (lv_room hroom) hdg hf) hS (fun q _ h => hF q h) hF (fun r u t H1 locs ht hvm hw hB hz1 hk1 hS => ?_)
  obtain ⟨hP1, hK1, hD1⟩ := hB
  rw [ht] at hP1
  obtain ⟨hP, hD⟩ := z_join hP hD hk1 hF hP1 hD1
  rw [List.append_nil] at hP hD
  exact kk r u hw H1 locs ls hP hD hS hl
end LROWS
theorem zb_met_i {l : Launch} {D : va_G} {cl : List vw_C} {tys : List (ClassId × FieldType)} {y : MethodName} {wsy wsy' : List Cond} {rm : Room} {S : Type} {post : Int32 → S → Prop} {wo : S → va_W} {mc ms : Nat} {cc : ByteArray} {maxL : Nat} {av : List Value} {wc : va_W} {own : String} {lv : List (Nat × Value)} {b L : Nat} {xs : Nat → Int32}
    (hy : plainFor y = true) (hw : wsy = Cond.code y cc maxL (some .int) :: wsy') (ho : y.cls = own) (hlen : (lg_sl av).length ≤ maxL) (hlv : lv_args 0 av = lv)
    (body : ∀ (p : Program) (e : Env) (s : State) (m : MethodId) (below : List Frame) (meth : Method) (c : Code) (args : Array Value) (Q : State → Prop) (A : Nat → Prop), zC p s m args c cc maxL wsy own A s.heap D cl tys → xF A s → va_X b L xs s s.heap → b < s.heap.size → ¬ A b →
      (∀ (cells slots pc : Nat) (lv : List (Nat × Value)) (v : Int32) (u : S), decode cc pc = .ok (.ireturn, 1) → cells ≤ mc → slots ≤ ms → post v u → zW p l e rm s m args below meth c Q maxL A s.heap D cl cells slots (wo u) pc lv [.int v]) →
      zW p l e rm s m args below meth c Q maxL A s.heap D cl 0 0 wc 0 lv []) :
    ∀ sz, Met l y wsy rm (va_Pc av (zbPre D cl tys sz wc b L xs)) (va_Qi post (fun u => zPost D cl tys (va_A wc sz) (wo u)) (va_A wc sz)) mc ms (va_A wc sz) := by
  intro sz
  refine va_MetF (cc := cc) (maxL := maxL) (ret := some .int) hy hw ?_
  intro p e s m args below meth c s₁ B hml hv
  obtain ⟨rfl, ⟨⟨hsz, hP, hK, hD0⟩, hX⟩, hb, ha⟩ := hv
  subst hsz
  subst ho
  rw [lg_entry_eq]
  have C : zC p s m av.toArray c cc maxL wsy y.cls (va_A wc s.heap.size) s.heap D cl tys := ⟨⟨B.exec, B.bytes, hml, findClass_of_methodNamed B.named, atoms_spec (ws := wsy) B.pre⟩, hK, fun q h => Or.inr h⟩
  have hbl : b < s.heap.size := by
    obtain ⟨scr, h1, -⟩ := hb
    exact (Array.getElem?_eq_some_iff.mp h1).1
  exact body p e s m below meth c _ _ _ C hX hb hbl ha (fun cells slots pc lv v u hdg k1 k2 hp => z_iret C B.returns B.notSynchronized hdg k1 k2 u rfl hp) s.heap [] _ hP hD0.self va_S.rf (hlv ▸ lv_entry av hlen)
theorem zb_met_z {l : Launch} {D : va_G} {cl : List vw_C} {tys : List (ClassId × FieldType)} {y : MethodName} {wsy wsy' : List Cond} {rm : Room} {S : Type} {post : Int32 → S → Prop} {wo : S → va_W} {mc ms : Nat} {cc : ByteArray} {maxL : Nat} {av : List Value} {wc : va_W} {own : String} {lv : List (Nat × Value)} {b L : Nat} {xs : Nat → Int32}
    (hy : plainFor y = true) (hw : wsy = Cond.code y cc maxL (some .boolean) :: wsy') (ho : y.cls = own) (hlen : (lg_sl av).length ≤ maxL) (hlv : lv_args 0 av = lv)
    (body : ∀ (p : Program) (e : Env) (s : State) (m : MethodId) (below : List Frame) (meth : Method) (c : Code) (args : Array Value) (Q : State → Prop) (A : Nat → Prop), zC p s m args c cc maxL wsy own A s.heap D cl tys → xF A s → va_X b L xs s s.heap → b < s.heap.size → ¬ A b →
      (∀ (cells slots pc : Nat) (lv : List (Nat × Value)) (v : Int32) (u : S), decode cc pc = .ok (.ireturn, 1) → cells ≤ mc → slots ≤ ms → (v = 0 ∨ v = 1) → post v u → zW p l e rm s m args below meth c Q maxL A s.heap D cl cells slots (wo u) pc lv [.int v]) →
      zW p l e rm s m args below meth c Q maxL A s.heap D cl 0 0 wc 0 lv []) :
    ∀ sz, Met l y wsy rm (va_Pc av (zbPre D cl tys sz wc b L xs)) (va_Qi post (fun u => zPost D cl tys (va_A wc sz) (wo u)) (va_A wc sz)) mc ms (va_A wc sz) := by
  intro sz
  refine va_MetF (cc := cc) (maxL := maxL) (ret := some .boolean) hy hw ?_
  intro p e s m args below meth c s₁ B hml hv
  obtain ⟨rfl, ⟨⟨hsz, hP, hK, hD0⟩, hX⟩, hb, ha⟩ := hv
  subst hsz
  subst ho
  rw [lg_entry_eq]
  have C : zC p s m av.toArray c cc maxL wsy y.cls (va_A wc s.heap.size) s.heap D cl tys := ⟨⟨B.exec, B.bytes, hml, findClass_of_methodNamed B.named, atoms_spec (ws := wsy) B.pre⟩, hK, fun q h => Or.inr h⟩
  have hbl : b < s.heap.size := by
    obtain ⟨scr, h1, -⟩ := hb
    exact (Array.getElem?_eq_some_iff.mp h1).1
  exact body p e s m below meth c _ _ _ C hX hb hbl ha (fun cells slots pc lv v u hdg k1 k2 hv hp => z_zret C B.returns B.notSynchronized hdg k1 k2 hv u rfl hp) s.heap [] _ hP hD0.self va_S.rf (hlv ▸ lv_entry av hlen)
abbrev bI (l : Launch) (D : va_G) (K : Nat → ClassId) (y : MethodName) (wsy : List Cond) (fr lo mc ms : Nat) (av : List Value) (wc : va_W) (b L : Nat) (xs : Nat → Int32) {S : Type} (post : Int32 → S → Prop) (wo : S → va_W) : Prop := ∀ sz, Met l y wsy { frames := fr, cells := mc, slots := ms, locals := lo } (va_Pc av (zbPre D vwCl (zT K) sz wc b L xs)) (va_Qi post (fun u => zPost D vwCl (zT K) (va_A wc sz) (wo u)) (va_A wc sz)) mc ms (va_A wc sz)
