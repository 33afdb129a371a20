/-! contracts that return or throw -/
def xNm : List String := ["java/lang/RuntimeException", "java/lang/Exception"]
def xTx : List (Nat × String) := [(54, "the number of equations is not 1 to 5"), (69, "no such row or column"), (76, "the coefficient is not -99 to 99"), (78, "no such row"), (84, "the right side is no interval in -999 to 999"), (92, "the same row, or a factor that is not -99 to 99"), (106, "the sum of the rows leaves the range of a system"), (119, "no such component"), (125, "the determinant is 0"), (161, "no interval in -1000000000 to 1000000000"), (172, "the number of sweeps is not 1 to 1000")]
def xE : List (Nat × String) := [(71, "java/lang/IndexOutOfBoundsException"), (56, "java/lang/IllegalArgumentException"), (108, "java/lang/ArithmeticException")]
def xB : List Cond := [.castable "java/lang/IndexOutOfBoundsException" "java/lang/IndexOutOfBoundsException", .castable "java/lang/IllegalArgumentException" "java/lang/IllegalArgumentException", .castable "java/lang/ArithmeticException" "java/lang/ArithmeticException", .declares (Bundle.initS "java/lang/RuntimeException"), .declares (Bundle.initS "java/lang/Exception"), .declares (Bundle.initS Bundle.tN)]
theorem xB_all : xE.all (fun z => ((vx_atS RX0 z.1 z.2 xNm).filter (fun w => !goodWord w)).all (fun w => decide (w ∈ xB)) && (vx_atS RX0 z.1 z.2 xNm).all vx_ot && Bundle.fit z.2) = true := by decide +kernel
theorem xB_of {ic : Nat} {E : String} (h : (ic, E) ∈ xE) : (∀ w ∈ (vx_atS RX0 ic E xNm).filter (fun w => !goodWord w), w ∈ xB) ∧ (∀ w ∈ vx_atS RX0 ic E xNm, vx_ot w = true) ∧ Bundle.fit E = true := by
  have h1 := List.all_eq_true.mp xB_all _ h
  simp only [Bool.and_eq_true] at h1
  exact ⟨fun w hw => of_decide_eq_true (List.all_eq_true.mp h1.1.1 w hw), fun w hw => List.all_eq_true.mp h1.1.2 w hw, h1.2⟩
theorem xB_moved {u U : State} (hvm : u.vm.Alike U.vm) (h : ∀ w ∈ xB, w.before #[] u = true) : ∀ w ∈ xB, w.before #[] U = true := by
  have tr : ∀ {c : Cond}, c.onTables = true → c.before #[] (u.setVm U.vm) = true → c.before #[] U = true := by
    intro c hc h
    have e := Cond.onTables_vm (A := #[]) (A' := #[]) (U := u) (U' := U) U.vm c hc
    have hU : U.setVm U.vm = U := rfl
    rw [hU] at e
    rw [← e]
    exact h
  intro w hw
  have h0 := h w hw
  unfold xB at hw
  simp only [List.mem_cons, List.not_mem_nil, or_false] at hw
  rcases hw with rfl | rfl | rfl | rfl | rfl | rfl
  · exact tr rfl (by rw [Cond.castable_setVm hvm]; exact h0)
  · exact tr rfl (by rw [Cond.castable_setVm hvm]; exact h0)
  · exact tr rfl (by rw [Cond.castable_setVm hvm]; exact h0)
  · exact tr rfl (by rw [Cond.declares_setVm hvm]; exact h0)
  · exact tr rfl (by rw [Cond.declares_setVm hvm]; exact h0)
  · exact tr rfl (by rw [Cond.declares_setVm hvm]; exact h0)
def xF (A : Nat → Prop) (U : State) : Prop :=
  vx_Zq Bundle.tN "UNASSIGNED_STACK" Bundle.steD A U U.heap ∧ vx_Zq Bundle.tN "SUPPRESSED_SENTINEL" Bundle.listD A U U.heap ∧ (∀ w ∈ xB, w.before #[] U = true) ∧ ∀ z ∈ xTx, ∃ sa : Nat, vk_R RX0 z.1 z.2 sa U
/-- what a throw needs, seen from a later state -/
theorem xF.at {A A1 : Nat → Prop} {s U : State} {H : Heap} {locs : List Loc} (h : xF A s) (hS : va_S A s.heap H locs) (hU : U.heap = H) (hW : s.WarmedH U.vm) (hA : ∀ q, A1 q → A q) : xF A1 U := by
  obtain ⟨h1, h2, h3, h4⟩ := h
  refine ⟨?_, ?_, xB_moved hW.alike h3, fun z hz => ?_⟩
  · rw [hU]; exact vx_Zq.moved hW.alike ((h1.kept hS.2.1).narrow hA)
  · rw [hU]; exact vx_Zq.moved hW.alike ((h2.kept hS.2.1).narrow hA)
  · obtain ⟨sa, q⟩ := h4 z hz
    exact ⟨sa, vk_R.warm hW q⟩
theorem xF.calling {A : Nat → Prop} {U : State} {g : JFrame} {mk : MethodId} {a : Array Value} (h : xF A U) : xF A (U.calling g mk a) := by
  obtain ⟨h1, h2, h3, h4⟩ := h
  refine ⟨vx_Zq.moved (u := U) (U := U.calling g mk a) (Vm.Alike.refl U.vm) h1, vx_Zq.moved (u := U) (U := U.calling g mk a) (Vm.Alike.refl U.vm) h2, xB_moved (u := U) (U := U.calling g mk a) (Vm.Alike.refl U.vm) h3, fun z hz => ?_⟩
  obtain ⟨sa, q⟩ := h4 z hz
  exact ⟨sa, vk_R.same (u := U) rfl q⟩
def zxPre (D : va_G) (cl : List vw_C) (tys : List (ClassId × FieldType)) (sz : Nat) (wc : va_W) : State → Prop := fun U => zPre D cl tys sz wc U ∧ xF (va_A wc sz) U
theorem zx_blind {D : va_G} {cl : List vw_C} {tys : List (ClassId × FieldType)} {sz : Nat} {wc : va_W} {av : List Value} : FrameBlind (va_Pc av (zxPre D cl tys sz wc)) := fun a U g mk q => by
  obtain ⟨q0, ⟨q1, qP, qK, qD⟩, qX⟩ := q
  exact ⟨q0, ⟨q1, qP, va_K.moved (u := U) (U := U.calling g mk a) (Vm.Alike.refl U.vm) qK, qD⟩, qX.calling⟩
def xXC (D : va_G) (cl : List vw_C) (tys : List (ClassId × FieldType)) (A : Nat → Prop) {S : Type} (px : String → S → Prop) (wo : S → va_W) : String → State → State → Prop :=
  vx_X (fun z : String × S => px z.1 z.2) (fun E z t => z.1 = E ∧ zPost D cl tys A (wo z.2) t) A
/-- the start of a contract that may throw -/
theorem x_met {l : Launch} {D : va_G} {cl : List vw_C} {tys : List (ClassId × FieldType)} {y : MethodName} {wsy wsy' : List Cond} {rm : Room} {Qc : Nat → Array Value → State → Outcome → State → Prop} {XC : Nat → String → State → State → Prop} {mc ms : Nat} {cc : ByteArray} {maxL : Nat} {ret : Option FieldType} {av : List Value} {wc : va_W} {own : String} {lv : List (Nat × Value)}
    (hy : plainName y.cls = true) (hw : wsy = Cond.code y cc maxL ret :: wsy') (ho : y.cls = own) (hlen : (lg_sl av).length ≤ maxL) (hlv : lv_args 0 av = lv)
    (body : ∀ (p : Program) (e : Env) (s : State) (m : MethodId) (below : List Frame) (meth : Method) (c : Code), zC p s m av.toArray c cc maxL wsy own (va_A wc s.heap.size) s.heap D cl tys → xF (va_A wc s.heap.size) s → meth.sig.returnType = ret → meth.locks = false → (∀ x ∈ c.exceptionTable.toList, False) → zW p l e rm s m av.toArray below meth c (vx_MQ below (Qc s.heap.size) (XC s.heap.size) av.toArray s mc ms (va_A wc s.heap.size)) maxL (va_A wc s.heap.size) s.heap D cl 0 0 wc 0 lv []) :
    ∀ sz, vx_Met l y wsy rm (va_Pc av (zxPre D cl tys sz wc)) (Qc sz) (XC sz) mc ms (va_A wc sz) := by
  intro sz
  refine vx_ofW (cc := cc) (maxL := maxL) (ret := ret) hy hw ?_
  intro p e s m args below meth c s₁ B hml hex hv
  obtain ⟨rfl, ⟨hsz, hP, hK, hD0⟩, hX⟩ := hv
  subst hsz
  subst ho
  rw [lg_entry_eq]
  exact body p e s m below meth c ⟨⟨B.exec, B.bytes, hml, findClass_of_methodNamed B.named, atoms_spec (ws := wsy) B.pre⟩, hK, fun q h => Or.inr h⟩ hX B.returns B.notSynchronized hex s.heap [] _ hP hD0.self va_S.rf (hlv ▸ lv_entry av hlen)
section XCALLS
variable {p : Program} {l : Launch} {e : Env} {R : Room} {s : State} {m : MethodId} {args : Array Value} {below : List Frame} {meth : Method} {c : Code} {Q : State → Prop} {nL : Nat} {A : Nat → Prop} {H0 : Heap} {D : va_G} {cl : List vw_C} {cells slots : Nat} {ws ws' : va_W} {pc : Nat} {lv lv' : List (Nat × Value)} {st : List Value} {cc : ByteArray} {Ts : List Cond} {own : String} {tys : List (ClassId × FieldType)}
theorem x_throw {S : Type} {px : String → S → Prop} {wo : S → va_W} {Qc : Array Value → State → Outcome → State → Prop} {mc ms : Nat} (C : zC p s m args c cc nL Ts RX0 A s.heap D cl tys) (hl : l.stackTraces = false) (hX : xF A s) (hex : ∀ x ∈ c.exceptionTable.toList, False) (hlocks : meth.locks = false)
    {ik is ic : Nat} {E text : String} (hk : Cond.classLink RX0 ik E ∈ Ts) (hini : Cond.initialized E ∈ Ts) (hE : (ic, E) ∈ xE) (hwd : ∀ w ∈ (vx_atS RX0 ic E xNm).filter goodWord, w ∈ Ts) (ht : (is, text) ∈ xTx)
    (d0 : decode cc pc = .ok (.new ik, 3)) (d3 : decode cc (pc + 3) = .ok (.dup, 1)) (d4 : decode cc (pc + 4) = .ok (.ldc is, 2)) (d6 : decode cc (pc + 6) = .ok (.invokespecial ic, 3)) (d9 : decode cc (pc + 9) = .ok (.athrow, 1))
    (hR : 5 < R.frames ∧ (st.map fun v => v.category).sum + 82 ≤ R.locals ∧ cells + 1 ≤ R.cells ∧ slots + 6 ≤ R.slots) (h1 : cells + 1 ≤ mc) (h2 : slots + 6 ≤ ms) (u : S) (hu : ws = wo u) (hp : px E u) :
    zW p l e R s m args below meth c (vx_MQ below Qc (xXC D cl tys A px wo) args s mc ms A) nL A s.heap D cl cells slots ws pc lv st := by
  intro H locs ls hP hD hS hlv
  subst hu
  obtain ⟨hU, hN, hB, hT⟩ := hX
  obtain ⟨sa, hstr⟩ := hT _ ht
  obtain ⟨b1, b2, b3⟩ := xB_of hE
  have hti := C.1.2.2.2.2
  refine vx_throwS (names := xNm) (A := A) (cls := E) (text := text) (ik := ik) (is := is) (ic := ic) (sa := sa) C.1.1 C.1.2.1 hl C.1.2.2.2.1 b3 (by decide +kernel) (hti _ hk) (hti _ hini) hstr ?_ ?_ hU hN hS (hlv.1.trans C.1.2.2.1.symm) d0 d3 d4 d6 d9 (fun x hx => (hex x hx).elim) ?_ ?_ hR.2.2.1 hR.2.2.2 hlocks ?_ hS.2.2 h1 h2
  · refine vx_hat (B := xB) (fun w hw => hti w (hwd w hw)) b1 (fun w hw => ?_)
    have h9 : w.onTables = true := by
      have : xB.all (fun w => w.onTables) = true := by decide +kernel
      exact List.all_eq_true.mp this w hw
    exact va_tabs h9 rfl (hB w hw)
  · intro w hw
    rcases List.mem_cons.mp hw with rfl | hw
    · rfl
    · rcases List.mem_cons.mp hw with rfl | hw
      · rfl
      · exact b2 w hw
  · exact hR.1
  · exact hR.2.1
  · intro t hal hsz hk2
    exact ⟨(E, u), hp, ⟨rfl, fun k q hkq => (hP k q hkq).kept (hk2 q.1 (hP k q hkq).lt), va_K.moved hal C.2.1, hD⟩, Nat.le_trans hS.1 hsz, fun q h1 h2 => (hk2 q (Nat.lt_of_lt_of_le h1 hS.1)).trans (hS.2.1 q h1 h2)⟩
/-- an exception E in this method's frame -/
def zX (l : Launch) (p : Program) (e : Env) (R : Room) (s : State) (m : MethodId) (args : Array Value) (below : List Frame) (meth : Method) (c : Code) (Q : State → Prop) (nL : Nat) (A : Nat → Prop) (H0 : Heap) (D : va_G) (cl : List vw_C) (cells slots : Nat) (ws : va_W) (pc : Nat) (lv : List (Nat × Value)) (st : List Value) (E : String) : Prop :=
  ∀ (H : Heap) (locs : List Loc) (ls : Array Slot) (q : Addr) (ce : Cell), va_P D cl ws H → va_D A ws → va_S A H0 H locs → lv_has ls nL lv → H[q]? = some ce → ce.vm = .none → s.vm.findClass E = some ce.cls → vx_W p l e R s m args below meth c H locs cells slots Q (F0 m pc ls st) q
theorem x_catch (C : zC p s m args c cc nL Ts own A H0 D cl tys) {E name : String} (pre : List ExceptionTableEntry) (x : ExceptionTableEntry) (suf : List ExceptionTableEntry) (hsplit : c.exceptionTable.toList = pre ++ x :: suf)
    (hpass : ∀ z ∈ pre, covers z pc = false ∨ (z.catchType ≠ 0 ∧ ∃ nm : String, (Cond.classLink own z.catchType nm).before args s = true ∧ va_Nc E nm s)) (hx : covers x pc = true) (h0 : x.catchType ≠ 0) (hlink : Cond.classLink own x.catchType name ∈ Ts) (hcast : (Cond.castable E name).before args s = true)
    (kk : ∀ q, zW p l e R s m args below meth c Q nL A H0 D cl cells slots ws x.handlerPc lv [.ref q]) : zX l p e R s m args below meth c Q nL A H0 D cl cells slots ws pc lv st E :=
  fun H locs ls q ce hP hD hS hlv hc hv hcl => vx_catch C.1.2.2.2.1 pre x suf hsplit hpass hx h0 (C.1.2.2.2.2 _ hlink) hcast hc hv hcl (kk q H locs ls hP hD hS hlv)
theorem x_callVi {S : Type} {y : MethodName} {bytes : ByteArray} {maxL n mc ms index : Nat} {ret : Option FieldType} {wsy : List Cond} {rm : Room} {post : Int32 → S → Prop} {px : String → S → Prop} {wo : S → va_W} {As stk : List Value} {Cn : String} {b ci : Nat} {fs : List Value} {qc : vw_C} {X wc Y : va_W} (C : zC p s m args c cc nL Ts own A s.heap D cl tys) (hX : xF A s)
    (hM : ∀ sz, vx_Met l y wsy rm (va_Pc (.ref b :: As) (zxPre D cl tys sz wc)) (va_Qi post (fun u => zPost D cl tys (va_A wc sz) (wo u)) (va_A wc sz)) (xXC D cl tys (va_A wc sz) px wo) mc ms (va_A wc sz)) (cw : CallW R s args own Cn index y bytes maxL ret wsy rm mc ms n) (hcl : cl[ci]? = some qc) (hCn : qc.1 = Cn) (k0 : Nat) (he : wc[k0]? = some (b, .inr (ci, fs))) (hdg : decode cc pc = .ok (.invokevirtual index, 3)) (hn : As.length = n) (hst : stk = As.reverse ++ .ref b :: st) (hroom : (st.map fun v => v.category).sum ≤ 8) (hf : cells + mc ≤ R.cells ∧ slots + ms ≤ R.slots) (hws : ws = X ++ (wc ++ Y))
    (kx : ∀ (E : String) (u : S), px E u → zX l p e R s m args below meth c Q nL A s.heap D cl (cells + mc) (slots + ms) (X ++ (wo u ++ Y)) pc lv st E)
    (kk : ∀ (r : Int32) (u : S), post r u → zW p l e R s m args below meth c Q nL A s.heap D cl (cells + mc) (slots + ms) (X ++ (wo u ++ Y)) (pc + 3) lv (.int r :: st)) : zW p l e R s m args below meth c Q nL A s.heap D cl cells slots ws pc lv stk := by
  intro H locs ls hP hD hS hlv
  subst hws
  subst hst
  have pC := (zj_P (zj_P hP).2).1
  have dC := (zj_D (zj_D hD).2.1).1
  have hF := z_free hD hS C.2.2
  refine vx_calli (vx_runV (As := As) (rest := st) C.1 (hM H.size) cw ⟨zx_blind, hCn ▸ va_recv C.2.1 pC hcl he, fun U hU hW => ⟨rfl, ⟨by rw [hU], by rw [hU]; exact pC, va_K.moved hW.alike C.2.1, dC.weaken (fun _ _ _ _ => trivial)⟩, hX.at hS hU hW hF⟩⟩ rfl hn hlv.1 rfl (lv_room hroom) hdg hf) hS (fun q _ h => hF q h) hF (fun q _ h => hF q h) (fun E ce q9 z t H1 locs1 ht hvm hp hB hz1 hk1 hS1 hc9 hv9 hcl9 => ?_) (fun r u t H1 locs ht hvm hw hB hz1 hk1 hS => ?_)
  · obtain ⟨rfl, hP1, hK1, hD1⟩ := hB
    rw [ht] at hP1
    obtain ⟨hP, hD⟩ := z_join hP hD hk1 hF hP1 hD1
    exact kx z.1 z.2 hp H1 locs1 ls q9 ce hP hD hS1 hlv hc9 hv9 hcl9
  · obtain ⟨hP1, hK1, hD1⟩ := hB
    rw [ht] at hP1
    obtain ⟨hP, hD⟩ := z_join hP hD hk1 hF hP1 hD1
    exact kk r u hw H1 locs ls hP hD hS hlv
theorem x_callVl {S : Type} {y : MethodName} {bytes : ByteArray} {maxL n mc ms index : Nat} {ret : Option FieldType} {wsy : List Cond} {rm : Room} {post : Int64 → S → Prop} {px : String → S → Prop} {wo : S → va_W} {As stk : List Value} {Cn : String} {b ci : Nat} {fs : List Value} {qc : vw_C} {X wc Y : va_W} (C : zC p s m args c cc nL Ts own A s.heap D cl tys) (hX : xF A s)
    (hM : ∀ sz, vx_Met l y wsy rm (va_Pc (.ref b :: As) (zxPre D cl tys sz wc)) (va_Ql post (fun u => zPost D cl tys (va_A wc sz) (wo u)) (va_A wc sz)) (xXC D cl tys (va_A wc sz) px wo) mc ms (va_A wc sz)) (cw : CallW R s args own Cn index y bytes maxL ret wsy rm mc ms n) (hcl : cl[ci]? = some qc) (hCn : qc.1 = Cn) (k0 : Nat) (he : wc[k0]? = some (b, .inr (ci, fs))) (hdg : decode cc pc = .ok (.invokevirtual index, 3)) (hn : As.length = n) (hst : stk = As.reverse ++ .ref b :: st) (hroom : (st.map fun v => v.category).sum ≤ 8) (hf : cells + mc ≤ R.cells ∧ slots + ms ≤ R.slots) (hws : ws = X ++ (wc ++ Y))
    (kx : ∀ (E : String) (u : S), px E u → zX l p e R s m args below meth c Q nL A s.heap D cl (cells + mc) (slots + ms) (X ++ (wo u ++ Y)) pc lv st E)
    (kk : ∀ (r : Int64) (u : S), post r u → zW p l e R s m args below meth c Q nL A s.heap D cl (cells + mc) (slots + ms) (X ++ (wo u ++ Y)) (pc + 3) lv (.long r :: st)) : zW p l e R s m args below meth c Q nL A s.heap D cl cells slots ws pc lv stk := by
  intro H locs ls hP hD hS hlv
  subst hws
  subst hst
  have pC := (zj_P (zj_P hP).2).1
  have dC := (zj_D (zj_D hD).2.1).1
  have hF := z_free hD hS C.2.2
  refine vx_calll (vx_runV (As := As) (rest := st) C.1 (hM H.size) cw ⟨zx_blind, hCn ▸ va_recv C.2.1 pC hcl he, fun U hU hW => ⟨rfl, ⟨by rw [hU], by rw [hU]; exact pC, va_K.moved hW.alike C.2.1, dC.weaken (fun _ _ _ _ => trivial)⟩, hX.at hS hU hW hF⟩⟩ rfl hn hlv.1 rfl (lv_room hroom) hdg hf) hS (fun q _ h => hF q h) hF (fun q _ h => hF q h) (fun E ce q9 z t H1 locs1 ht hvm hp hB hz1 hk1 hS1 hc9 hv9 hcl9 => ?_) (fun r u t H1 locs ht hvm hw hB hz1 hk1 hS => ?_)
  · obtain ⟨rfl, hP1, hK1, hD1⟩ := hB
    rw [ht] at hP1
    obtain ⟨hP, hD⟩ := z_join hP hD hk1 hF hP1 hD1
    exact kx z.1 z.2 hp H1 locs1 ls q9 ce hP hD hS1 hlv hc9 hv9 hcl9
  · obtain ⟨hP1, hK1, hD1⟩ := hB
    rw [ht] at hP1
    obtain ⟨hP, hD⟩ := z_join hP hD hk1 hF hP1 hD1
    exact kk r u hw H1 locs ls hP hD hS hlv
theorem x_callVd {S : Type} {y : MethodName} {bytes : ByteArray} {maxL n mc ms index : Nat} {ret : Option FieldType} {wsy : List Cond} {rm : Room} {post : UInt64 → S → Prop} {px : String → S → Prop} {wo : S → va_W} {As stk : List Value} {Cn : String} {b ci : Nat} {fs : List Value} {qc : vw_C} {X wc Y : va_W} (C : zC p s m args c cc nL Ts own A s.heap D cl tys) (hX : xF A s)
    (hM : ∀ sz, vx_Met l y wsy rm (va_Pc (.ref b :: As) (zxPre D cl tys sz wc)) (va_Qd post (fun u => zPost D cl tys (va_A wc sz) (wo u)) (va_A wc sz)) (xXC D cl tys (va_A wc sz) px wo) mc ms (va_A wc sz)) (cw : CallW R s args own Cn index y bytes maxL ret wsy rm mc ms n) (hcl : cl[ci]? = some qc) (hCn : qc.1 = Cn) (k0 : Nat) (he : wc[k0]? = some (b, .inr (ci, fs))) (hdg : decode cc pc = .ok (.invokevirtual index, 3)) (hn : As.length = n) (hst : stk = As.reverse ++ .ref b :: st) (hroom : (st.map fun v => v.category).sum ≤ 8) (hf : cells + mc ≤ R.cells ∧ slots + ms ≤ R.slots) (hws : ws = X ++ (wc ++ Y))
    (kx : ∀ (E : String) (u : S), px E u → zX l p e R s m args below meth c Q nL A s.heap D cl (cells + mc) (slots + ms) (X ++ (wo u ++ Y)) pc lv st E)
    (kk : ∀ (r : UInt64) (u : S), post r u → zW p l e R s m args below meth c Q nL A s.heap D cl (cells + mc) (slots + ms) (X ++ (wo u ++ Y)) (pc + 3) lv (.double r :: st)) : zW p l e R s m args below meth c Q nL A s.heap D cl cells slots ws pc lv stk := by
  intro H locs ls hP hD hS hlv
  subst hws
  subst hst
  have pC := (zj_P (zj_P hP).2).1
  have dC := (zj_D (zj_D hD).2.1).1
  have hF := z_free hD hS C.2.2
  refine vx_calld (vx_runV (As := As) (rest := st) C.1 (hM H.size) cw ⟨zx_blind, hCn ▸ va_recv C.2.1 pC hcl he, fun U hU hW => ⟨rfl, ⟨by rw [hU], by rw [hU]; exact pC, va_K.moved hW.alike C.2.1, dC.weaken (fun _ _ _ _ => trivial)⟩, hX.at hS hU hW hF⟩⟩ rfl hn hlv.1 rfl (lv_room hroom) hdg hf) hS (fun q _ h => hF q h) hF (fun q _ h => hF q h) (fun E ce q9 z t H1 locs1 ht hvm hp hB hz1 hk1 hS1 hc9 hv9 hcl9 => ?_) (fun r u t H1 locs ht hvm hw hB hz1 hk1 hS => ?_)
  · obtain ⟨rfl, hP1, hK1, hD1⟩ := hB
    rw [ht] at hP1
    obtain ⟨hP, hD⟩ := z_join hP hD hk1 hF hP1 hD1
    exact kx z.1 z.2 hp H1 locs1 ls q9 ce hP hD hS1 hlv hc9 hv9 hcl9
  · obtain ⟨hP1, hK1, hD1⟩ := hB
    rw [ht] at hP1
    obtain ⟨hP, hD⟩ := z_join hP hD hk1 hF hP1 hD1
    exact kk r u hw H1 locs ls hP hD hS hlv
end XCALLS
theorem x_met_i {l : Launch} {D : va_G} {cl : List vw_C} {tys : List (ClassId × FieldType)} {y : MethodName} {wsy wsy' : List Cond} {rm : Room} {S : Type} {post : Int32 → S → Prop} {px : String → S → Prop} {wo : S → va_W} {mc ms : Nat} {cc : ByteArray} {maxL : Nat} {av : List Value} {wc : va_W} {lv : List (Nat × Value)}
    (hst : l.stackTraces = false) (hy : plainName y.cls = true) (hw : wsy = Cond.code y cc maxL (some .int) :: wsy') (ho : y.cls = RX0) (hlen : (lg_sl av).length ≤ maxL) (hlv : lv_args 0 av = lv)
    (body : ∀ (p : Program) (e : Env) (s : State) (m : MethodId) (below : List Frame) (meth : Method) (c : Code) (args : Array Value) (Q : State → Prop) (A : Nat → Prop), zC p s m args c cc maxL wsy RX0 A s.heap D cl tys →
      (∀ (cells slots pc : Nat) (lv : List (Nat × Value)) (v : Int32) (u : S), decode cc pc = .ok (.ireturn, 1) → cells ≤ mc → slots ≤ ms → post v u → zW p l e rm s m args below meth c Q maxL A s.heap D cl cells slots (wo u) pc lv [.int v]) →
      (∀ (cells slots pc : Nat) (lv : List (Nat × Value)) (ik is ic : Nat) (E text : String) (u : S), Cond.classLink RX0 ik E ∈ wsy → Cond.initialized E ∈ wsy → (ic, E) ∈ xE → (∀ w ∈ (vx_atS RX0 ic E xNm).filter goodWord, w ∈ wsy) → (is, text) ∈ xTx →
        decode cc pc = .ok (.new ik, 3) → decode cc (pc + 3) = .ok (.dup, 1) → decode cc (pc + 4) = .ok (.ldc is, 2) → decode cc (pc + 6) = .ok (.invokespecial ic, 3) → decode cc (pc + 9) = .ok (.athrow, 1) →
        (5 < rm.frames ∧ 82 ≤ rm.locals ∧ cells + 1 ≤ rm.cells ∧ slots + 6 ≤ rm.slots) → cells + 1 ≤ mc → slots + 6 ≤ ms → px E u → zW p l e rm s m args below meth c Q maxL A s.heap D cl cells slots (wo u) pc lv []) →
      zW p l e rm s m args below meth c Q maxL A s.heap D cl 0 0 wc 0 lv []) :
    ∀ sz, vx_Met l y wsy rm (va_Pc av (zxPre D cl tys sz wc)) (va_Qi post (fun u => zPost D cl tys (va_A wc sz) (wo u)) (va_A wc sz)) (xXC D cl tys (va_A wc sz) px wo) mc ms (va_A wc sz) :=
  x_met (Qc := fun sz => va_Qi post (fun u => zPost D cl tys (va_A wc sz) (wo u)) (va_A wc sz)) (XC := fun sz => xXC D cl tys (va_A wc sz) px wo) hy hw ho hlen hlv (fun p e s m below meth c C hX hr hlocks hex => body p e s m below meth c _ _ _ C
    (fun cells slots pc lv v u hdg h1 h2 hp => fun H locs ls hP hD hS hl => vx_ret (z_iret C hr hlocks hdg h1 h2 u rfl hp H locs ls hP hD hS hl))
    (fun cells slots pc lv ik is ic E text u hk hini hE hwd ht d0 d3 d4 d6 d9 hR h1 h2 hp => x_throw C hst hX hex hlocks hk hini hE hwd ht d0 d3 d4 d6 d9 ⟨hR.1, by show 0 + 82 ≤ _; rw [Nat.zero_add]; exact hR.2.1, hR.2.2.1, hR.2.2.2⟩ h1 h2 u rfl hp))
theorem x_met_z {l : Launch} {D : va_G} {cl : List vw_C} {tys : List (ClassId × FieldType)} {y : MethodName} {wsy wsy' : List Cond} {rm : Room} {S : Type} {post : Int32 → S → Prop} {px : String → S → Prop} {wo : S → va_W} {mc ms : Nat} {cc : ByteArray} {maxL : Nat} {av : List Value} {wc : va_W} {lv : List (Nat × Value)}
    (hst : l.stackTraces = false) (hy : plainName y.cls = true) (hw : wsy = Cond.code y cc maxL (some .boolean) :: wsy') (ho : y.cls = RX0) (hlen : (lg_sl av).length ≤ maxL) (hlv : lv_args 0 av = lv)
    (body : ∀ (p : Program) (e : Env) (s : State) (m : MethodId) (below : List Frame) (meth : Method) (c : Code) (args : Array Value) (Q : State → Prop) (A : Nat → Prop), zC p s m args c cc maxL wsy RX0 A s.heap D cl tys →
      (∀ (cells slots pc : Nat) (lv : List (Nat × Value)) (v : Int32) (u : S), decode cc pc = .ok (.ireturn, 1) → cells ≤ mc → slots ≤ ms → (v = 0 ∨ v = 1) → post v u → zW p l e rm s m args below meth c Q maxL A s.heap D cl cells slots (wo u) pc lv [.int v]) →
      (∀ (cells slots pc : Nat) (lv : List (Nat × Value)) (ik is ic : Nat) (E text : String) (u : S), Cond.classLink RX0 ik E ∈ wsy → Cond.initialized E ∈ wsy → (ic, E) ∈ xE → (∀ w ∈ (vx_atS RX0 ic E xNm).filter goodWord, w ∈ wsy) → (is, text) ∈ xTx →
        decode cc pc = .ok (.new ik, 3) → decode cc (pc + 3) = .ok (.dup, 1) → decode cc (pc + 4) = .ok (.ldc is, 2) → decode cc (pc + 6) = .ok (.invokespecial ic, 3) → decode cc (pc + 9) = .ok (.athrow, 1) →
        (5 < rm.frames ∧ 82 ≤ rm.locals ∧ cells + 1 ≤ rm.cells ∧ slots + 6 ≤ rm.slots) → cells + 1 ≤ mc → slots + 6 ≤ ms → px E u → zW p l e rm s m args below meth c Q maxL A s.heap D cl cells slots (wo u) pc lv []) →
      zW p l e rm s m args below meth c Q maxL A s.heap D cl 0 0 wc 0 lv []) :
    ∀ sz, vx_Met l y wsy rm (va_Pc av (zxPre D cl tys sz wc)) (va_Qi post (fun u => zPost D cl tys (va_A wc sz) (wo u)) (va_A wc sz)) (xXC D cl tys (va_A wc sz) px wo) mc ms (va_A wc sz) :=
  x_met (Qc := fun sz => va_Qi post (fun u => zPost D cl tys (va_A wc sz) (wo u)) (va_A wc sz)) (XC := fun sz => xXC D cl tys (va_A wc sz) px wo) hy hw ho hlen hlv (fun p e s m below meth c C hX hr hlocks hex => body p e s m below meth c _ _ _ C
    (fun cells slots pc lv v u hdg h1 h2 hv hp => fun H locs ls hP hD hS hl => vx_ret (z_zret C hr hlocks hdg h1 h2 hv u rfl hp H locs ls hP hD hS hl))
    (fun cells slots pc lv ik is ic E text u hk hini hE hwd ht d0 d3 d4 d6 d9 hR h1 h2 hp => x_throw C hst hX hex hlocks hk hini hE hwd ht d0 d3 d4 d6 d9 ⟨hR.1, by show 0 + 82 ≤ _; rw [Nat.zero_add]; exact hR.2.1, hR.2.2.1, hR.2.2.2⟩ h1 h2 u rfl hp))
theorem x_met_l {l : Launch} {D : va_G} {cl : List vw_C} {tys : List (ClassId × FieldType)} {y : MethodName} {wsy wsy' : List Cond} {rm : Room} {S : Type} {post : Int64 → S → Prop} {px : String → S → Prop} {wo : S → va_W} {mc ms : Nat} {cc : ByteArray} {maxL : Nat} {av : List Value} {wc : va_W} {lv : List (Nat × Value)}
    (hst : l.stackTraces = false) (hy : plainName y.cls = true) (hw : wsy = Cond.code y cc maxL (some .long) :: wsy') (ho : y.cls = RX0) (hlen : (lg_sl av).length ≤ maxL) (hlv : lv_args 0 av = lv)
    (body : ∀ (p : Program) (e : Env) (s : State) (m : MethodId) (below : List Frame) (meth : Method) (c : Code) (args : Array Value) (Q : State → Prop) (A : Nat → Prop), zC p s m args c cc maxL wsy RX0 A s.heap D cl tys →
      (∀ (cells slots pc : Nat) (lv : List (Nat × Value)) (v : Int64) (u : S), decode cc pc = .ok (.lreturn, 1) → cells ≤ mc → slots ≤ ms → post v u → zW p l e rm s m args below meth c Q maxL A s.heap D cl cells slots (wo u) pc lv [.long v]) →
      (∀ (cells slots pc : Nat) (lv : List (Nat × Value)) (ik is ic : Nat) (E text : String) (u : S), Cond.classLink RX0 ik E ∈ wsy → Cond.initialized E ∈ wsy → (ic, E) ∈ xE → (∀ w ∈ (vx_atS RX0 ic E xNm).filter goodWord, w ∈ wsy) → (is, text) ∈ xTx →
        decode cc pc = .ok (.new ik, 3) → decode cc (pc + 3) = .ok (.dup, 1) → decode cc (pc + 4) = .ok (.ldc is, 2) → decode cc (pc + 6) = .ok (.invokespecial ic, 3) → decode cc (pc + 9) = .ok (.athrow, 1) →
        (5 < rm.frames ∧ 82 ≤ rm.locals ∧ cells + 1 ≤ rm.cells ∧ slots + 6 ≤ rm.slots) → cells + 1 ≤ mc → slots + 6 ≤ ms → px E u → zW p l e rm s m args below meth c Q maxL A s.heap D cl cells slots (wo u) pc lv []) →
      zW p l e rm s m args below meth c Q maxL A s.heap D cl 0 0 wc 0 lv []) :
    ∀ sz, vx_Met l y wsy rm (va_Pc av (zxPre D cl tys sz wc)) (va_Ql post (fun u => zPost D cl tys (va_A wc sz) (wo u)) (va_A wc sz)) (xXC D cl tys (va_A wc sz) px wo) mc ms (va_A wc sz) :=
  x_met (Qc := fun sz => va_Ql post (fun u => zPost D cl tys (va_A wc sz) (wo u)) (va_A wc sz)) (XC := fun sz => xXC D cl tys (va_A wc sz) px wo) hy hw ho hlen hlv (fun p e s m below meth c C hX hr hlocks hex => body p e s m below meth c _ _ _ C
    (fun cells slots pc lv v u hdg h1 h2 hp => fun H locs ls hP hD hS hl => vx_ret (z_lret C hr hlocks hdg h1 h2 u rfl hp H locs ls hP hD hS hl))
    (fun cells slots pc lv ik is ic E text u hk hini hE hwd ht d0 d3 d4 d6 d9 hR h1 h2 hp => x_throw C hst hX hex hlocks hk hini hE hwd ht d0 d3 d4 d6 d9 ⟨hR.1, by show 0 + 82 ≤ _; rw [Nat.zero_add]; exact hR.2.1, hR.2.2.1, hR.2.2.2⟩ h1 h2 u rfl hp))
theorem x_met_d {l : Launch} {D : va_G} {cl : List vw_C} {tys : List (ClassId × FieldType)} {y : MethodName} {wsy wsy' : List Cond} {rm : Room} {S : Type} {post : UInt64 → S → Prop} {px : String → S → Prop} {wo : S → va_W} {mc ms : Nat} {cc : ByteArray} {maxL : Nat} {av : List Value} {wc : va_W} {lv : List (Nat × Value)}
    (hst : l.stackTraces = false) (hy : plainName y.cls = true) (hw : wsy = Cond.code y cc maxL (some .double) :: wsy') (ho : y.cls = RX0) (hlen : (lg_sl av).length ≤ maxL) (hlv : lv_args 0 av = lv)
    (body : ∀ (p : Program) (e : Env) (s : State) (m : MethodId) (below : List Frame) (meth : Method) (c : Code) (args : Array Value) (Q : State → Prop) (A : Nat → Prop), zC p s m args c cc maxL wsy RX0 A s.heap D cl tys →
      (∀ (cells slots pc : Nat) (lv : List (Nat × Value)) (v : UInt64) (u : S), decode cc pc = .ok (.dreturn, 1) → cells ≤ mc → slots ≤ ms → post v u → zW p l e rm s m args below meth c Q maxL A s.heap D cl cells slots (wo u) pc lv [.double v]) →
      (∀ (cells slots pc : Nat) (lv : List (Nat × Value)) (ik is ic : Nat) (E text : String) (u : S), Cond.classLink RX0 ik E ∈ wsy → Cond.initialized E ∈ wsy → (ic, E) ∈ xE → (∀ w ∈ (vx_atS RX0 ic E xNm).filter goodWord, w ∈ wsy) → (is, text) ∈ xTx →
        decode cc pc = .ok (.new ik, 3) → decode cc (pc + 3) = .ok (.dup, 1) → decode cc (pc + 4) = .ok (.ldc is, 2) → decode cc (pc + 6) = .ok (.invokespecial ic, 3) → decode cc (pc + 9) = .ok (.athrow, 1) →
        (5 < rm.frames ∧ 82 ≤ rm.locals ∧ cells + 1 ≤ rm.cells ∧ slots + 6 ≤ rm.slots) → cells + 1 ≤ mc → slots + 6 ≤ ms → px E u → zW p l e rm s m args below meth c Q maxL A s.heap D cl cells slots (wo u) pc lv []) →
      zW p l e rm s m args below meth c Q maxL A s.heap D cl 0 0 wc 0 lv []) :
    ∀ sz, vx_Met l y wsy rm (va_Pc av (zxPre D cl tys sz wc)) (va_Qd post (fun u => zPost D cl tys (va_A wc sz) (wo u)) (va_A wc sz)) (xXC D cl tys (va_A wc sz) px wo) mc ms (va_A wc sz) :=
  x_met (Qc := fun sz => va_Qd post (fun u => zPost D cl tys (va_A wc sz) (wo u)) (va_A wc sz)) (XC := fun sz => xXC D cl tys (va_A wc sz) px wo) hy hw ho hlen hlv (fun p e s m below meth c C hX hr hlocks hex => body p e s m below meth c _ _ _ C
    (fun cells slots pc lv v u hdg h1 h2 hp => fun H locs ls hP hD hS hl => vx_ret (z_dret C hr hlocks hdg h1 h2 u rfl hp H locs ls hP hD hS hl))
    (fun cells slots pc lv ik is ic E text u hk hini hE hwd ht d0 d3 d4 d6 d9 hR h1 h2 hp => x_throw C hst hX hex hlocks hk hini hE hwd ht d0 d3 d4 d6 d9 ⟨hR.1, by show 0 + 82 ≤ _; rw [Nat.zero_add]; exact hR.2.1, hR.2.2.1, hR.2.2.2⟩ h1 h2 u rfl hp))
