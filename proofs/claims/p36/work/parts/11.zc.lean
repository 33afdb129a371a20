theorem zj_P {D : va_G} {cl : List vw_C} {X Y : va_W} {H : Heap} (h : va_P D cl (X ++ Y) H) : va_P D cl X H ∧ va_P D cl Y H :=
  ⟨fun k q hk => h k q (by rw [List.getElem?_append_left (List.getElem?_eq_some_iff.mp hk).1]; exact hk), fun k q hk => h (X.length + k) q (by rw [List.getElem?_append_right (by omega), Nat.add_sub_cancel_left]; exact hk)⟩
theorem zj_D {A : Nat → Prop} {X Y : va_W} (h : va_D A (X ++ Y)) : va_D A X ∧ va_D A Y ∧ ∀ (i j : Nat) (p q : Nat × va_E), X[i]? = some p → Y[j]? = some q → p.1 ≠ q.1 := by
  have hx : ∀ (k : Nat) (q : Nat × va_E), X[k]? = some q → (X ++ Y)[k]? = some q := fun k q hk => by rw [List.getElem?_append_left (List.getElem?_eq_some_iff.mp hk).1]; exact hk
  have hy : ∀ (k : Nat) (q : Nat × va_E), Y[k]? = some q → (X ++ Y)[X.length + k]? = some q := fun k q hk => by rw [List.getElem?_append_right (by omega), Nat.add_sub_cancel_left]; exact hk
  refine ⟨⟨fun i j p q hi hj e => h.1 i j p q (hx i p hi) (hx j q hj) e, fun k q hk => h.2 k q (hx k q hk)⟩, ⟨fun i j p q hi hj e => ?_, fun k q hk => h.2 _ q (hy k q hk)⟩, fun i j p q hi hj e => ?_⟩
  · have := h.1 _ _ p q (hy i p hi) (hy j q hj) e
    omega
  · have h1 := (List.getElem?_eq_some_iff.mp hi).1
    have := h.1 _ _ p q (hx i p hi) (hy j q hj) e
    omega
/-- behind a call that had the middle part of the world -/
theorem z_join {A0 : Nat → Prop} {D : va_G} {cl : List vw_C} {X Y wc w1 : va_W} {H H1 : Heap} (hP : va_P D cl (X ++ (wc ++ Y)) H) (hD : va_D A0 (X ++ (wc ++ Y)))
    (hk : ∀ q : Nat, q < H.size → ¬ va_A wc H.size q → H1[q]? = H[q]?) (hF : ∀ q, va_A wc H.size q → A0 q) (hP1 : va_P D cl w1 H1) (hD1 : va_D (va_A wc H.size) w1) : va_P D cl (X ++ (w1 ++ Y)) H1 ∧ va_D A0 (X ++ (w1 ++ Y)) := by
  obtain ⟨pX, pR⟩ := zj_P hP
  obtain ⟨pC, pY⟩ := zj_P pR
  obtain ⟨dX, dR, xR⟩ := zj_D hD
  obtain ⟨dC, dY, xY⟩ := zj_D dR
  have sX : ∀ (k : Nat) (q : Nat × va_E), X[k]? = some q → q.1 < H.size ∧ ¬ va_A wc H.size q.1 := fun k q hq => by
    have hl := (pX k q hq).lt
    refine ⟨hl, fun h => ?_⟩
    rcases h with ⟨j, e, h⟩ | h
    · exact xR k j q (q.1, e) hq (by rw [List.getElem?_append_left (List.getElem?_eq_some_iff.mp h).1]; exact h) rfl
    · omega
  have sY : ∀ (k : Nat) (q : Nat × va_E), Y[k]? = some q → q.1 < H.size ∧ ¬ va_A wc H.size q.1 := fun k q hq => by
    have hl := (pY k q hq).lt
    refine ⟨hl, fun h => ?_⟩
    rcases h with ⟨j, e, h⟩ | h
    · exact xY j k (q.1, e) q h hq rfl
    · omega
  refine ⟨va_P.app (fun k q hq => (pX k q hq).kept (hk q.1 (sX k q hq).1 (sX k q hq).2)) (va_P.app hP1 (fun k q hq => (pY k q hq).kept (hk q.1 (sY k q hq).1 (sY k q hq).2))), ?_⟩
  refine va_D.app dX (va_D.app (hD1.weaken (fun k q _ h => hF q.1 h)) dY (fun i j p q hp hq e => (sY j q hq).2 (e ▸ hD1.2 i p hp))) (fun i j p q hp hq e => ?_)
  rcases Nat.lt_or_ge j w1.length with h1 | h1
  · rw [List.getElem?_append_left h1] at hq
    exact (sX i p hp).2 (e.symm ▸ hD1.2 j q hq)
  · rw [List.getElem?_append_right h1] at hq
    exact xR i (wc.length + (j - w1.length)) p q hp (by rw [List.getElem?_append_right (by omega), Nat.add_sub_cancel_left]; exact hq) e
theorem z_blind {D : va_G} {cl : List vw_C} {tys : List (ClassId × FieldType)} {sz : Nat} {wc : va_W} {av : List Value} : FrameBlind (va_Pc av (zPre D cl tys sz wc)) := fun a U g mk q => by
  obtain ⟨q0, q1, qP, qK, qD⟩ := q
  exact ⟨q0, q1, qP, va_K.moved (u := U) (U := U.calling g mk a) (Vm.Alike.refl U.vm) qK, qD⟩
theorem z_free {A0 : Nat → Prop} {X Y wc : va_W} {H0 H : Heap} {locs : List Loc} (hD : va_D A0 (X ++ (wc ++ Y))) (hS : va_S A0 H0 H locs) (hA : ∀ q, H0.size ≤ q → A0 q) : ∀ q, va_A wc H.size q → A0 q := by
  intro q h
  rcases h with ⟨k, e, h⟩ | h
  · exact (zj_D (zj_D hD).2.1).1.2 k (q, e) h
  · exact hA q (Nat.le_trans hS.1 h)
/-- a contract's start -/
theorem z_met {l : Launch} {D : va_G} {cl : List vw_C} {tys : List (ClassId × FieldType)} {y : MethodName} {wsy wsy' : List Cond} {rm : Room} {Qc : Nat → Array Value → State → Outcome → State → Prop} {mc ms : Nat} {cc : ByteArray} {maxL : Nat} {ret : Option FieldType} {av : List Value} {wc : va_W} {own : String} {lv : List (Nat × Value)}
    (hy : plainFor y = true) (hw : wsy = Cond.code y cc maxL ret :: wsy') (ho : y.cls = own) (hlen : (lg_sl av).length ≤ maxL) (hlv : lv_args 0 av = lv)
    (body : ∀ (p : Program) (e : Env) (s : State) (m : MethodId) (below : List Frame) (meth : Method) (c : Code), zC p s m av.toArray c cc maxL wsy own (va_A wc s.heap.size) s.heap D cl tys → meth.sig.returnType = ret → meth.locks = false → meth.name = y.name → zW p l e rm s m av.toArray below meth c (MQ below (Qc s.heap.size) av.toArray s mc ms (va_A wc s.heap.size)) maxL (va_A wc s.heap.size) s.heap D cl 0 0 wc 0 lv []) :
    ∀ sz, Met l y wsy rm (va_Pc av (zPre D cl tys sz wc)) (Qc sz) mc ms (va_A wc sz) := by
  intro sz
  refine va_MetF (cc := cc) (maxL := maxL) (ret := ret) hy hw ?_
  intro p e s m args below meth c s₁ B hml hv
  obtain ⟨rfl, hsz, hP, hK, hD0⟩ := hv
  subst hsz
  subst ho
  rw [lg_entry_eq]
  exact body p e s m below meth c ⟨⟨B.exec, B.bytes, hml, findClass_of_methodNamed B.named, atoms_spec (ws := wsy) B.pre⟩, hK, fun q h => Or.inr h⟩ B.returns B.notSynchronized (name_of_methodNamed B.named B.method).1 s.heap [] _ hP hD0.self va_S.rf (hlv ▸ lv_entry av hlen)
section ZCALLS
variable {p : Program} {l : Launch} {e : Env} {R : Room} {s : State} {m : MethodId} {args : Array Value} {below : List Frame} {meth : Method} {c : Code} {Q : State → Prop} {nL : Nat} {A : Nat → Prop} {H0 : Heap} {D : va_G} {cl : List vw_C} {cells slots : Nat} {ws ws' : va_W} {pc : Nat} {lv lv' : List (Nat × Value)} {st : List Value} {cc : ByteArray} {Ts : List Cond} {own : String} {tys : List (ClassId × FieldType)}
theorem z_iret {S : Type} {post : Int32 → S → Prop} {wo : S → va_W} {v : Int32} {mc ms : Nat} (C : zC p s m args c cc nL Ts own A s.heap D cl tys) (hr : meth.sig.returnType = some .int) (hlocks : meth.locks = false) (hdg : decode cc pc = .ok (.ireturn, 1)) (h1 : cells ≤ mc) (h2 : slots ≤ ms) (u : S) (hw : ws = wo u) (hp : post v u) : zW p l e R s m args below meth c (MQ below (va_Qi post (fun u => zPost D cl tys A (wo u)) A) args s mc ms A) nL A s.heap D cl cells slots ws pc lv [.int v] := by
  intro H locs ls hP hD hS hl
  exact W.widen h1 h2 (W.iret (v := v) C.1.1 C.1.2.1 hr (fun t ht hW => ⟨⟨v, u, rfl, hp, by rw [ht, ← hw]; exact hP, va_K.moved hW.alike C.2.1, by rw [← hw]; exact hD⟩, hS.F ht⟩) hS.2.2 hdg hlocks)
theorem z_lret {S : Type} {post : Int64 → S → Prop} {wo : S → va_W} {v : Int64} {mc ms : Nat} (C : zC p s m args c cc nL Ts own A s.heap D cl tys) (hr : meth.sig.returnType = some .long) (hlocks : meth.locks = false) (hdg : decode cc pc = .ok (.lreturn, 1)) (h1 : cells ≤ mc) (h2 : slots ≤ ms) (u : S) (hw : ws = wo u) (hp : post v u) : zW p l e R s m args below meth c (MQ below (va_Ql post (fun u => zPost D cl tys A (wo u)) A) args s mc ms A) nL A s.heap D cl cells slots ws pc lv [.long v] := by
  intro H locs ls hP hD hS hl
  exact W.widen h1 h2 (W.lret (v := v) C.1.1 C.1.2.1 hr (fun t ht hW => ⟨⟨v, u, rfl, hp, by rw [ht, ← hw]; exact hP, va_K.moved hW.alike C.2.1, by rw [← hw]; exact hD⟩, hS.F ht⟩) hS.2.2 hdg hlocks)
theorem z_dret {S : Type} {post : UInt64 → S → Prop} {wo : S → va_W} {v : UInt64} {mc ms : Nat} (C : zC p s m args c cc nL Ts own A s.heap D cl tys) (hr : meth.sig.returnType = some .double) (hlocks : meth.locks = false) (hdg : decode cc pc = .ok (.dreturn, 1)) (h1 : cells ≤ mc) (h2 : slots ≤ ms) (u : S) (hw : ws = wo u) (hp : post v u) : zW p l e R s m args below meth c (MQ below (va_Qd post (fun u => zPost D cl tys A (wo u)) A) args s mc ms A) nL A s.heap D cl cells slots ws pc lv [.double v] := by
  intro H locs ls hP hD hS hl
  exact W.widen h1 h2 (W.dret (v := v) C.1.1 C.1.2.1 hr (fun t ht hW => ⟨⟨v, u, rfl, hp, by rw [ht, ← hw]; exact hP, va_K.moved hW.alike C.2.1, by rw [← hw]; exact hD⟩, hS.F ht⟩) hS.2.2 hdg hlocks)
theorem z_zret {S : Type} {post : Int32 → S → Prop} {wo : S → va_W} {v : Int32} {mc ms : Nat} (C : zC p s m args c cc nL Ts own A s.heap D cl tys) (hr : meth.sig.returnType = some .boolean) (hlocks : meth.locks = false) (hdg : decode cc pc = .ok (.ireturn, 1)) (h1 : cells ≤ mc) (h2 : slots ≤ ms) (hv : v = 0 ∨ v = 1) (u : S) (hw : ws = wo u) (hp : post v u) : zW p l e R s m args below meth c (MQ below (va_Qi post (fun u => zPost D cl tys A (wo u)) A) args s mc ms A) nL A s.heap D cl cells slots ws pc lv [.int v] := by
  intro H locs ls hP hD hS hl
  exact W.widen h1 h2 (W.zret (v := v) C.1.1 C.1.2.1 hr (by rcases hv with rfl | rfl <;> rfl) (fun t ht hW => ⟨⟨v, u, rfl, hp, by rw [ht, ← hw]; exact hP, va_K.moved hW.alike C.2.1, by rw [← hw]; exact hD⟩, hS.F ht⟩) hS.2.2 hdg hlocks)
theorem z_vret {S : Type} {post : S → Prop} {wo : S → va_W} {mc ms : Nat} (C : zC p s m args c cc nL Ts own A s.heap D cl tys) (hr : meth.sig.returnType = none) (hlocks : meth.locks = false) (hdg : decode cc pc = .ok (.return_, 1)) (h1 : cells ≤ mc) (h2 : slots ≤ ms) (u : S) (hw : ws = wo u) (hp : post u) : zW p l e R s m args below meth c (MQ below (va_Qv post (fun u => zPost D cl tys A (wo u)) A) args s mc ms A) nL A s.heap D cl cells slots ws pc lv [] := by
  intro H locs ls hP hD hS hl
  exact W.widen h1 h2 (W.vret C.1.1 C.1.2.1 hr (fun t ht hW => ⟨⟨u, rfl, hp, by rw [ht, ← hw]; exact hP, va_K.moved hW.alike C.2.1, by rw [← hw]; exact hD⟩, hS.F ht⟩) hS.2.2 hdg hlocks)
theorem z_callVi {S : Type} {y : MethodName} {bytes : ByteArray} {maxL n mc ms index : Nat} {ret : Option FieldType} {wsy : List Cond} {rm : Room} {post : Int32 → S → Prop} {wo : S → va_W} {As stk : List Value} {Cn : String} {b ci : Nat} {fs : List Value} {qc : vw_C} {X wc Y : va_W} (C : zC p s m args c cc nL Ts own A H0 D cl tys)
    (hM : ∀ sz, Met l y wsy rm (va_Pc (.ref b :: As) (zPre D cl tys sz wc)) (va_Qi post (fun u => zPost D cl tys (va_A wc sz) (wo u)) (va_A wc sz)) mc ms (va_A wc sz)) (cw : CallW R s args own Cn index y bytes maxL ret wsy rm mc ms n) (hcl : cl[ci]? = some qc) (hCn : qc.1 = Cn) (k0 : Nat) (he : wc[k0]? = some (b, .inr (ci, fs))) (hdg : decode cc pc = .ok (.invokevirtual index, 3)) (hn : As.length = n) (hst : stk = As.reverse ++ .ref b :: st) (hroom : (st.map fun v => v.category).sum ≤ 8) (hf : cells + mc ≤ R.cells ∧ slots + ms ≤ R.slots) (hws : ws = X ++ (wc ++ Y))
    (kk : ∀ (r : Int32) (u : S), post r u → zW p l e R s m args below meth c Q nL A H0 D cl (cells + mc) (slots + ms) (X ++ (wo u ++ Y)) (pc + 3) (lv) (.int r :: st)) : zW p l e R s m args below meth c Q nL A H0 D cl cells slots (ws) (pc) (lv) (stk) := by
  intro H locs ls hP hD hS hl
  subst hws
  subst hst
  have pC := (zj_P (zj_P hP).2).1
  have dC := (zj_D (zj_D hD).2.1).1
  have hF := z_free hD hS C.2.2
  refine va_calli (va_runV (As := As) (rest := st) C.1 (hM H.size) cw ⟨z_blind, hCn ▸ va_recv C.2.1 pC hcl he, fun U hU hW => ⟨rfl, by rw [hU], by rw [hU]; exact pC, va_K.moved hW.alike C.2.1, dC.weaken (fun _ _ _ _ => trivial)⟩⟩ rfl hn hl.1 rfl (lv_room hroom) hdg hf) hS (fun q _ h => hF q h) hF (fun r u t H1 locs ht hvm hw hB hz1 hk1 hS => ?_)
  obtain ⟨hP1, hK1, hD1⟩ := hB
  rw [ht] at hP1
  obtain ⟨hP, hD⟩ := z_join hP hD hk1 hF hP1 hD1
  exact kk r u hw H1 locs ls hP hD hS hl
theorem z_callVi_all {S : Type} {y : MethodName} {bytes : ByteArray} {maxL n mc ms index : Nat} {ret : Option FieldType} {wsy : List Cond} {rm : Room} {post : Int32 → S → Prop} {wo : S → va_W} {As stk : List Value} {Cn : String} {b ci : Nat} {fs : List Value} {qc : vw_C} (C : zC p s m args c cc nL Ts own A H0 D cl tys)
    (hM : ∀ sz, Met l y wsy rm (va_Pc (.ref b :: As) (zPre D cl tys sz ws)) (va_Qi post (fun u => zPost D cl tys (va_A ws sz) (wo u)) (va_A ws sz)) mc ms (va_A ws sz)) (cw : CallW R s args own Cn index y bytes maxL ret wsy rm mc ms n) (hcl : cl[ci]? = some qc) (hCn : qc.1 = Cn) (k0 : Nat) (he : ws[k0]? = some (b, .inr (ci, fs))) (hdg : decode cc pc = .ok (.invokevirtual index, 3)) (hn : As.length = n) (hst : stk = As.reverse ++ .ref b :: st) (hroom : (st.map fun v => v.category).sum ≤ 8) (hf : cells + mc ≤ R.cells ∧ slots + ms ≤ R.slots)
    (kk : ∀ (r : Int32) (u : S), post r u → zW p l e R s m args below meth c Q nL A H0 D cl (cells + mc) (slots + ms) (wo u) (pc + 3) (lv) (.int r :: st)) : zW p l e R s m args below meth c Q nL A H0 D cl cells slots (ws) (pc) (lv) (stk) :=
  z_callVi (X := []) (wc := ws) (Y := []) C hM cw hcl hCn k0 he hdg hn hst hroom hf (by rw [List.append_nil]; rfl) (fun r u h => by rw [List.append_nil]; exact kk r u h)
theorem z_callSi {S : Type} {y : MethodName} {bytes : ByteArray} {maxL n mc ms index : Nat} {ret : Option FieldType} {wsy : List Cond} {rm : Room} {post : Int32 → S → Prop} {wo : S → va_W} {As stk : List Value} {X wc Y : va_W} (C : zC p s m args c cc nL Ts own A H0 D cl tys)
    (hM : ∀ sz, Met l y wsy rm (va_Pc As (zPre D cl tys sz wc)) (va_Qi post (fun u => zPost D cl tys (va_A wc sz) (wo u)) (va_A wc sz)) mc ms (va_A wc sz)) (cw : (CallB R s args own index y bytes maxL ret wsy rm mc ms n ∧ (Cond.static y).before args s = true)) (hdg : decode cc pc = .ok (.invokestatic index, 3)) (hn : As.length = n) (hst : stk = As.reverse ++ st) (hroom : (st.map fun v => v.category).sum ≤ 8) (hf : cells + mc ≤ R.cells ∧ slots + ms ≤ R.slots) (hws : ws = X ++ (wc ++ Y))
    (kk : ∀ (r : Int32) (u : S), post r u → zW p l e R s m args below meth c Q nL A H0 D cl (cells + mc) (slots + ms) (X ++ (wo u ++ Y)) (pc + 3) (lv) (.int r :: st)) : zW p l e R s m args below meth c Q nL A H0 D cl cells slots (ws) (pc) (lv) (stk) := by
  intro H locs ls hP hD hS hl
  subst hws
  subst hst
  have pC := (zj_P (zj_P hP).2).1
  have dC := (zj_D (zj_D hD).2.1).1
  have hF := z_free hD hS C.2.2
  refine va_calli (va_runS (As := As) (rest := st) C.1 (hM H.size) cw ⟨z_blind, fun U hU hW => ⟨rfl, by rw [hU], by rw [hU]; exact pC, va_K.moved hW.alike C.2.1, dC.weaken (fun _ _ _ _ => trivial)⟩⟩ rfl hn hl.1 rfl (lv_room hroom) hdg hf) hS (fun q _ h => hF q h) hF (fun r u t H1 locs ht hvm hw hB hz1 hk1 hS => ?_)
  obtain ⟨hP1, hK1, hD1⟩ := hB
  rw [ht] at hP1
  obtain ⟨hP, hD⟩ := z_join hP hD hk1 hF hP1 hD1
  exact kk r u hw H1 locs ls hP hD hS hl
theorem z_callSi_all {S : Type} {y : MethodName} {bytes : ByteArray} {maxL n mc ms index : Nat} {ret : Option FieldType} {wsy : List Cond} {rm : Room} {post : Int32 → S → Prop} {wo : S → va_W} {As stk : List Value} (C : zC p s m args c cc nL Ts own A H0 D cl tys)
    (hM : ∀ sz, Met l y wsy rm (va_Pc As (zPre D cl tys sz ws)) (va_Qi post (fun u => zPost D cl tys (va_A ws sz) (wo u)) (va_A ws sz)) mc ms (va_A ws sz)) (cw : (CallB R s args own index y bytes maxL ret wsy rm mc ms n ∧ (Cond.static y).before args s = true)) (hdg : decode cc pc = .ok (.invokestatic index, 3)) (hn : As.length = n) (hst : stk = As.reverse ++ st) (hroom : (st.map fun v => v.category).sum ≤ 8) (hf : cells + mc ≤ R.cells ∧ slots + ms ≤ R.slots)
    (kk : ∀ (r : Int32) (u : S), post r u → zW p l e R s m args below meth c Q nL A H0 D cl (cells + mc) (slots + ms) (wo u) (pc + 3) (lv) (.int r :: st)) : zW p l e R s m args below meth c Q nL A H0 D cl cells slots (ws) (pc) (lv) (stk) :=
  z_callSi (X := []) (wc := ws) (Y := []) C hM cw hdg hn hst hroom hf (by rw [List.append_nil]; rfl) (fun r u h => by rw [List.append_nil]; exact kk r u h)
theorem z_callSi_none {y : MethodName} {bytes : ByteArray} {maxL n mc ms index : Nat} {ret : Option FieldType} {wsy : List Cond} {rm : Room} {post : Int32 → Unit → Prop} {As stk : List Value} (C : zC p s m args c cc nL Ts own A H0 D cl tys)
    (hM : ∀ sz, Met l y wsy rm (va_Pc As (zPre D cl tys sz [])) (va_Qi post (fun _ : Unit => zPost D cl tys (va_A [] sz) []) (va_A [] sz)) mc ms (va_A [] sz)) (cw : CallB R s args own index y bytes maxL ret wsy rm mc ms n ∧ (Cond.static y).before args s = true) (hdg : decode cc pc = .ok (.invokestatic index, 3)) (hn : As.length = n) (hst : stk = As.reverse ++ st) (hroom : (st.map fun v => v.category).sum ≤ 8) (hf : cells + mc ≤ R.cells ∧ slots + ms ≤ R.slots)
    (kk : ∀ (r : Int32) (u : Unit), post r u → zW p l e R s m args below meth c Q nL A H0 D cl (cells + mc) (slots + ms) (ws) (pc + 3) (lv) (.int r :: st)) : zW p l e R s m args below meth c Q nL A H0 D cl cells slots (ws) (pc) (lv) (stk) :=
  z_callSi (S := Unit) (X := ws) (wc := []) (Y := []) C hM cw hdg hn hst hroom hf (by rw [List.append_nil, List.append_nil]) (fun r u h => by rw [List.append_nil, List.append_nil]; exact kk r u h)
theorem z_callVl {S : Type} {y : MethodName} {bytes : ByteArray} {maxL n mc ms index : Nat} {ret : Option FieldType} {wsy : List Cond} {rm : Room} {post : Int64 → S → Prop} {wo : S → va_W} {As stk : List Value} {Cn : String} {b ci : Nat} {fs : List Value} {qc : vw_C} {X wc Y : va_W} (C : zC p s m args c cc nL Ts own A H0 D cl tys)
    (hM : ∀ sz, Met l y wsy rm (va_Pc (.ref b :: As) (zPre D cl tys sz wc)) (va_Ql post (fun u => zPost D cl tys (va_A wc sz) (wo u)) (va_A wc sz)) mc ms (va_A wc sz)) (cw : CallW R s args own Cn index y bytes maxL ret wsy rm mc ms n) (hcl : cl[ci]? = some qc) (hCn : qc.1 = Cn) (k0 : Nat) (he : wc[k0]? = some (b, .inr (ci, fs))) (hdg : decode cc pc = .ok (.invokevirtual index, 3)) (hn : As.length = n) (hst : stk = As.reverse ++ .ref b :: st) (hroom : (st.map fun v => v.category).sum ≤ 8) (hf : cells + mc ≤ R.cells ∧ slots + ms ≤ R.slots) (hws : ws = X ++ (wc ++ Y))
    (kk : ∀ (r : Int64) (u : S), post r u → zW p l e R s m args below meth c Q nL A H0 D cl (cells + mc) (slots + ms) (X ++ (wo u ++ Y)) (pc + 3) (lv) (.long r :: st)) : zW p l e R s m args below meth c Q nL A H0 D cl cells slots (ws) (pc) (lv) (stk) := by
  intro H locs ls hP hD hS hl
  subst hws
  subst hst
  have pC := (zj_P (zj_P hP).2).1
  have dC := (zj_D (zj_D hD).2.1).1
  have hF := z_free hD hS C.2.2
  refine va_calll (va_runV (As := As) (rest := st) C.1 (hM H.size) cw ⟨z_blind, hCn ▸ va_recv C.2.1 pC hcl he, fun U hU hW => ⟨rfl, by rw [hU], by rw [hU]; exact pC, va_K.moved hW.alike C.2.1, dC.weaken (fun _ _ _ _ => trivial)⟩⟩ rfl hn hl.1 rfl (lv_room hroom) hdg hf) hS (fun q _ h => hF q h) hF (fun r u t H1 locs ht hvm hw hB hz1 hk1 hS => ?_)
  obtain ⟨hP1, hK1, hD1⟩ := hB
  rw [ht] at hP1
  obtain ⟨hP, hD⟩ := z_join hP hD hk1 hF hP1 hD1
  exact kk r u hw H1 locs ls hP hD hS hl
theorem z_callVl_all {S : Type} {y : MethodName} {bytes : ByteArray} {maxL n mc ms index : Nat} {ret : Option FieldType} {wsy : List Cond} {rm : Room} {post : Int64 → S → Prop} {wo : S → va_W} {As stk : List Value} {Cn : String} {b ci : Nat} {fs : List Value} {qc : vw_C} (C : zC p s m args c cc nL Ts own A H0 D cl tys)
    (hM : ∀ sz, Met l y wsy rm (va_Pc (.ref b :: As) (zPre D cl tys sz ws)) (va_Ql post (fun u => zPost D cl tys (va_A ws sz) (wo u)) (va_A ws sz)) mc ms (va_A ws sz)) (cw : CallW R s args own Cn index y bytes maxL ret wsy rm mc ms n) (hcl : cl[ci]? = some qc) (hCn : qc.1 = Cn) (k0 : Nat) (he : ws[k0]? = some (b, .inr (ci, fs))) (hdg : decode cc pc = .ok (.invokevirtual index, 3)) (hn : As.length = n) (hst : stk = As.reverse ++ .ref b :: st) (hroom : (st.map fun v => v.category).sum ≤ 8) (hf : cells + mc ≤ R.cells ∧ slots + ms ≤ R.slots)
    (kk : ∀ (r : Int64) (u : S), post r u → zW p l e R s m args below meth c Q nL A H0 D cl (cells + mc) (slots + ms) (wo u) (pc + 3) (lv) (.long r :: st)) : zW p l e R s m args below meth c Q nL A H0 D cl cells slots (ws) (pc) (lv) (stk) :=
  z_callVl (X := []) (wc := ws) (Y := []) C hM cw hcl hCn k0 he hdg hn hst hroom hf (by rw [List.append_nil]; rfl) (fun r u h => by rw [List.append_nil]; exact kk r u h)
theorem z_callSl {S : Type} {y : MethodName} {bytes : ByteArray} {maxL n mc ms index : Nat} {ret : Option FieldType} {wsy : List Cond} {rm : Room} {post : Int64 → S → Prop} {wo : S → va_W} {As stk : List Value} {X wc Y : va_W} (C : zC p s m args c cc nL Ts own A H0 D cl tys)
    (hM : ∀ sz, Met l y wsy rm (va_Pc As (zPre D cl tys sz wc)) (va_Ql post (fun u => zPost D cl tys (va_A wc sz) (wo u)) (va_A wc sz)) mc ms (va_A wc sz)) (cw : (CallB R s args own index y bytes maxL ret wsy rm mc ms n ∧ (Cond.static y).before args s = true)) (hdg : decode cc pc = .ok (.invokestatic index, 3)) (hn : As.length = n) (hst : stk = As.reverse ++ st) (hroom : (st.map fun v => v.category).sum ≤ 8) (hf : cells + mc ≤ R.cells ∧ slots + ms ≤ R.slots) (hws : ws = X ++ (wc ++ Y))
    (kk : ∀ (r : Int64) (u : S), post r u → zW p l e R s m args below meth c Q nL A H0 D cl (cells + mc) (slots + ms) (X ++ (wo u ++ Y)) (pc + 3) (lv) (.long r :: st)) : zW p l e R s m args below meth c Q nL A H0 D cl cells slots (ws) (pc) (lv) (stk) := by
  intro H locs ls hP hD hS hl
  subst hws
  subst hst
  have pC := (zj_P (zj_P hP).2).1
  have dC := (zj_D (zj_D hD).2.1).1
  have hF := z_free hD hS C.2.2
  refine va_calll (va_runS (As := As) (rest := st) C.1 (hM H.size) cw ⟨z_blind, fun U hU hW => ⟨rfl, by rw [hU], by rw [hU]; exact pC, va_K.moved hW.alike C.2.1, dC.weaken (fun _ _ _ _ => trivial)⟩⟩ rfl hn hl.1 rfl (lv_room hroom) hdg hf) hS (fun q _ h => hF q h) hF (fun r u t H1 locs ht hvm hw hB hz1 hk1 hS => ?_)
  obtain ⟨hP1, hK1, hD1⟩ := hB
  rw [ht] at hP1
  obtain ⟨hP, hD⟩ := z_join hP hD hk1 hF hP1 hD1
  exact kk r u hw H1 locs ls hP hD hS hl
theorem z_callSl_all {S : Type} {y : MethodName} {bytes : ByteArray} {maxL n mc ms index : Nat} {ret : Option FieldType} {wsy : List Cond} {rm : Room} {post : Int64 → S → Prop} {wo : S → va_W} {As stk : List Value} (C : zC p s m args c cc nL Ts own A H0 D cl tys)
    (hM : ∀ sz, Met l y wsy rm (va_Pc As (zPre D cl tys sz ws)) (va_Ql post (fun u => zPost D cl tys (va_A ws sz) (wo u)) (va_A ws sz)) mc ms (va_A ws sz)) (cw : (CallB R s args own index y bytes maxL ret wsy rm mc ms n ∧ (Cond.static y).before args s = true)) (hdg : decode cc pc = .ok (.invokestatic index, 3)) (hn : As.length = n) (hst : stk = As.reverse ++ st) (hroom : (st.map fun v => v.category).sum ≤ 8) (hf : cells + mc ≤ R.cells ∧ slots + ms ≤ R.slots)
    (kk : ∀ (r : Int64) (u : S), post r u → zW p l e R s m args below meth c Q nL A H0 D cl (cells + mc) (slots + ms) (wo u) (pc + 3) (lv) (.long r :: st)) : zW p l e R s m args below meth c Q nL A H0 D cl cells slots (ws) (pc) (lv) (stk) :=
  z_callSl (X := []) (wc := ws) (Y := []) C hM cw hdg hn hst hroom hf (by rw [List.append_nil]; rfl) (fun r u h => by rw [List.append_nil]; exact kk r u h)
theorem z_callSl_none {y : MethodName} {bytes : ByteArray} {maxL n mc ms index : Nat} {ret : Option FieldType} {wsy : List Cond} {rm : Room} {post : Int64 → Unit → Prop} {As stk : List Value} (C : zC p s m args c cc nL Ts own A H0 D cl tys)
    (hM : ∀ sz, Met l y wsy rm (va_Pc As (zPre D cl tys sz [])) (va_Ql post (fun _ : Unit => zPost D cl tys (va_A [] sz) []) (va_A [] sz)) mc ms (va_A [] sz)) (cw : CallB R s args own index y bytes maxL ret wsy rm mc ms n ∧ (Cond.static y).before args s = true) (hdg : decode cc pc = .ok (.invokestatic index, 3)) (hn : As.length = n) (hst : stk = As.reverse ++ st) (hroom : (st.map fun v => v.category).sum ≤ 8) (hf : cells + mc ≤ R.cells ∧ slots + ms ≤ R.slots)
    (kk : ∀ (r : Int64) (u : Unit), post r u → zW p l e R s m args below meth c Q nL A H0 D cl (cells + mc) (slots + ms) (ws) (pc + 3) (lv) (.long r :: st)) : zW p l e R s m args below meth c Q nL A H0 D cl cells slots (ws) (pc) (lv) (stk) :=
  z_callSl (S := Unit) (X := ws) (wc := []) (Y := []) C hM cw hdg hn hst hroom hf (by rw [List.append_nil, List.append_nil]) (fun r u h => by rw [List.append_nil, List.append_nil]; exact kk r u h)
theorem z_callVd {S : Type} {y : MethodName} {bytes : ByteArray} {maxL n mc ms index : Nat} {ret : Option FieldType} {wsy : List Cond} {rm : Room} {post : UInt64 → S → Prop} {wo : S → va_W} {As stk : List Value} {Cn : String} {b ci : Nat} {fs : List Value} {qc : vw_C} {X wc Y : va_W} (C : zC p s m args c cc nL Ts own A H0 D cl tys)
    (hM : ∀ sz, Met l y wsy rm (va_Pc (.ref b :: As) (zPre D cl tys sz wc)) (va_Qd post (fun u => zPost D cl tys (va_A wc sz) (wo u)) (va_A wc sz)) mc ms (va_A wc sz)) (cw : CallW R s args own Cn index y bytes maxL ret wsy rm mc ms n) (hcl : cl[ci]? = some qc) (hCn : qc.1 = Cn) (k0 : Nat) (he : wc[k0]? = some (b, .inr (ci, fs))) (hdg : decode cc pc = .ok (.invokevirtual index, 3)) (hn : As.length = n) (hst : stk = As.reverse ++ .ref b :: st) (hroom : (st.map fun v => v.category).sum ≤ 8) (hf : cells + mc ≤ R.cells ∧ slots + ms ≤ R.slots) (hws : ws = X ++ (wc ++ Y))
    (kk : ∀ (r : UInt64) (u : S), post r u → zW p l e R s m args below meth c Q nL A H0 D cl (cells + mc) (slots + ms) (X ++ (wo u ++ Y)) (pc + 3) (lv) (.double r :: st)) : zW p l e R s m args below meth c Q nL A H0 D cl cells slots (ws) (pc) (lv) (stk) := by
  intro H locs ls hP hD hS hl
  subst hws
  subst hst
  have pC := (zj_P (zj_P hP).2).1
  have dC := (zj_D (zj_D hD).2.1).1
  have hF := z_free hD hS C.2.2
  refine va_calld (va_runV (As := As) (rest := st) C.1 (hM H.size) cw ⟨z_blind, hCn ▸ va_recv C.2.1 pC hcl he, fun U hU hW => ⟨rfl, by rw [hU], by rw [hU]; exact pC, va_K.moved hW.alike C.2.1, dC.weaken (fun _ _ _ _ => trivial)⟩⟩ rfl hn hl.1 rfl (lv_room hroom) hdg hf) hS (fun q _ h => hF q h) hF (fun r u t H1 locs ht hvm hw hB hz1 hk1 hS => ?_)
  obtain ⟨hP1, hK1, hD1⟩ := hB
  rw [ht] at hP1
  obtain ⟨hP, hD⟩ := z_join hP hD hk1 hF hP1 hD1
  exact kk r u hw H1 locs ls hP hD hS hl
theorem z_callVd_all {S : Type} {y : MethodName} {bytes : ByteArray} {maxL n mc ms index : Nat} {ret : Option FieldType} {wsy : List Cond} {rm : Room} {post : UInt64 → S → Prop} {wo : S → va_W} {As stk : List Value} {Cn : String} {b ci : Nat} {fs : List Value} {qc : vw_C} (C : zC p s m args c cc nL Ts own A H0 D cl tys)
    (hM : ∀ sz, Met l y wsy rm (va_Pc (.ref b :: As) (zPre D cl tys sz ws)) (va_Qd post (fun u => zPost D cl tys (va_A ws sz) (wo u)) (va_A ws sz)) mc ms (va_A ws sz)) (cw : CallW R s args own Cn index y bytes maxL ret wsy rm mc ms n) (hcl : cl[ci]? = some qc) (hCn : qc.1 = Cn) (k0 : Nat) (he : ws[k0]? = some (b, .inr (ci, fs))) (hdg : decode cc pc = .ok (.invokevirtual index, 3)) (hn : As.length = n) (hst : stk = As.reverse ++ .ref b :: st) (hroom : (st.map fun v => v.category).sum ≤ 8) (hf : cells + mc ≤ R.cells ∧ slots + ms ≤ R.slots)
    (kk : ∀ (r : UInt64) (u : S), post r u → zW p l e R s m args below meth c Q nL A H0 D cl (cells + mc) (slots + ms) (wo u) (pc + 3) (lv) (.double r :: st)) : zW p l e R s m args below meth c Q nL A H0 D cl cells slots (ws) (pc) (lv) (stk) :=
  z_callVd (X := []) (wc := ws) (Y := []) C hM cw hcl hCn k0 he hdg hn hst hroom hf (by rw [List.append_nil]; rfl) (fun r u h => by rw [List.append_nil]; exact kk r u h)
theorem z_callSd {S : Type} {y : MethodName} {bytes : ByteArray} {maxL n mc ms index : Nat} {ret : Option FieldType} {wsy : List Cond} {rm : Room} {post : UInt64 → S → Prop} {wo : S → va_W} {As stk : List Value} {X wc Y : va_W} (C : zC p s m args c cc nL Ts own A H0 D cl tys)
    (hM : ∀ sz, Met l y wsy rm (va_Pc As (zPre D cl tys sz wc)) (va_Qd post (fun u => zPost D cl tys (va_A wc sz) (wo u)) (va_A wc sz)) mc ms (va_A wc sz)) (cw : (CallB R s args own index y bytes maxL ret wsy rm mc ms n ∧ (Cond.static y).before args s = true)) (hdg : decode cc pc = .ok (.invokestatic index, 3)) (hn : As.length = n) (hst : stk = As.reverse ++ st) (hroom : (st.map fun v => v.category).sum ≤ 8) (hf : cells + mc ≤ R.cells ∧ slots + ms ≤ R.slots) (hws : ws = X ++ (wc ++ Y))
    (kk : ∀ (r : UInt64) (u : S), post r u → zW p l e R s m args below meth c Q nL A H0 D cl (cells + mc) (slots + ms) (X ++ (wo u ++ Y)) (pc + 3) (lv) (.double r :: st)) : zW p l e R s m args below meth c Q nL A H0 D cl cells slots (ws) (pc) (lv) (stk) := by
  intro H locs ls hP hD hS hl
  subst hws
  subst hst
  have pC := (zj_P (zj_P hP).2).1
  have dC := (zj_D (zj_D hD).2.1).1
  have hF := z_free hD hS C.2.2
  refine va_calld (va_runS (As := As) (rest := st) C.1 (hM H.size) cw ⟨z_blind, fun U hU hW => ⟨rfl, by rw [hU], by rw [hU]; exact pC, va_K.moved hW.alike C.2.1, dC.weaken (fun _ _ _ _ => trivial)⟩⟩ rfl hn hl.1 rfl (lv_room hroom) hdg hf) hS (fun q _ h => hF q h) hF (fun r u t H1 locs ht hvm hw hB hz1 hk1 hS => ?_)
  obtain ⟨hP1, hK1, hD1⟩ := hB
  rw [ht] at hP1
  obtain ⟨hP, hD⟩ := z_join hP hD hk1 hF hP1 hD1
  exact kk r u hw H1 locs ls hP hD hS hl
theorem z_callSd_all {S : Type} {y : MethodName} {bytes : ByteArray} {maxL n mc ms index : Nat} {ret : Option FieldType} {wsy : List Cond} {rm : Room} {post : UInt64 → S → Prop} {wo : S → va_W} {As stk : List Value} (C : zC p s m args c cc nL Ts own A H0 D cl tys)
    (hM : ∀ sz, Met l y wsy rm (va_Pc As (zPre D cl tys sz ws)) (va_Qd post (fun u => zPost D cl tys (va_A ws sz) (wo u)) (va_A ws sz)) mc ms (va_A ws sz)) (cw : (CallB R s args own index y bytes maxL ret wsy rm mc ms n ∧ (Cond.static y).before args s = true)) (hdg : decode cc pc = .ok (.invokestatic index, 3)) (hn : As.length = n) (hst : stk = As.reverse ++ st) (hroom : (st.map fun v => v.category).sum ≤ 8) (hf : cells + mc ≤ R.cells ∧ slots + ms ≤ R.slots)
    (kk : ∀ (r : UInt64) (u : S), post r u → zW p l e R s m args below meth c Q nL A H0 D cl (cells + mc) (slots + ms) (wo u) (pc + 3) (lv) (.double r :: st)) : zW p l e R s m args below meth c Q nL A H0 D cl cells slots (ws) (pc) (lv) (stk) :=
  z_callSd (X := []) (wc := ws) (Y := []) C hM cw hdg hn hst hroom hf (by rw [List.append_nil]; rfl) (fun r u h => by rw [List.append_nil]; exact kk r u h)
theorem z_callSd_none {y : MethodName} {bytes : ByteArray} {maxL n mc ms index : Nat} {ret : Option FieldType} {wsy : List Cond} {rm : Room} {post : UInt64 → Unit → Prop} {As stk : List Value} (C : zC p s m args c cc nL Ts own A H0 D cl tys)
    (hM : ∀ sz, Met l y wsy rm (va_Pc As (zPre D cl tys sz [])) (va_Qd post (fun _ : Unit => zPost D cl tys (va_A [] sz) []) (va_A [] sz)) mc ms (va_A [] sz)) (cw : CallB R s args own index y bytes maxL ret wsy rm mc ms n ∧ (Cond.static y).before args s = true) (hdg : decode cc pc = .ok (.invokestatic index, 3)) (hn : As.length = n) (hst : stk = As.reverse ++ st) (hroom : (st.map fun v => v.category).sum ≤ 8) (hf : cells + mc ≤ R.cells ∧ slots + ms ≤ R.slots)
    (kk : ∀ (r : UInt64) (u : Unit), post r u → zW p l e R s m args below meth c Q nL A H0 D cl (cells + mc) (slots + ms) (ws) (pc + 3) (lv) (.double r :: st)) : zW p l e R s m args below meth c Q nL A H0 D cl cells slots (ws) (pc) (lv) (stk) :=
  z_callSd (S := Unit) (X := ws) (wc := []) (Y := []) C hM cw hdg hn hst hroom hf (by rw [List.append_nil, List.append_nil]) (fun r u h => by rw [List.append_nil, List.append_nil]; exact kk r u h)
theorem z_callVv {S : Type} {y : MethodName} {bytes : ByteArray} {maxL n mc ms index : Nat} {ret : Option FieldType} {wsy : List Cond} {rm : Room} {post : S → Prop} {wo : S → va_W} {As stk : List Value} {Cn : String} {b ci : Nat} {fs : List Value} {qc : vw_C} {X wc Y : va_W} (C : zC p s m args c cc nL Ts own A H0 D cl tys)
    (hM : ∀ sz, Met l y wsy rm (va_Pc (.ref b :: As) (zPre D cl tys sz wc)) (va_Qv post (fun u => zPost D cl tys (va_A wc sz) (wo u)) (va_A wc sz)) mc ms (va_A wc sz)) (cw : CallW R s args own Cn index y bytes maxL ret wsy rm mc ms n) (hcl : cl[ci]? = some qc) (hCn : qc.1 = Cn) (k0 : Nat) (he : wc[k0]? = some (b, .inr (ci, fs))) (hdg : decode cc pc = .ok (.invokevirtual index, 3)) (hn : As.length = n) (hst : stk = As.reverse ++ .ref b :: st) (hroom : (st.map fun v => v.category).sum ≤ 8) (hf : cells + mc ≤ R.cells ∧ slots + ms ≤ R.slots) (hws : ws = X ++ (wc ++ Y))
    (kk : ∀ (u : S), post u → zW p l e R s m args below meth c Q nL A H0 D cl (cells + mc) (slots + ms) (X ++ (wo u ++ Y)) (pc + 3) (lv) (st)) : zW p l e R s m args below meth c Q nL A H0 D cl cells slots (ws) (pc) (lv) (stk) := by
  intro H locs ls hP hD hS hl
  subst hws
  subst hst
  have pC := (zj_P (zj_P hP).2).1
  have dC := (zj_D (zj_D hD).2.1).1
  have hF := z_free hD hS C.2.2
  refine va_callv (va_runV (As := As) (rest := st) C.1 (hM H.size) cw ⟨z_blind, hCn ▸ va_recv C.2.1 pC hcl he, fun U hU hW => ⟨rfl, by rw [hU], by rw [hU]; exact pC, va_K.moved hW.alike C.2.1, dC.weaken (fun _ _ _ _ => trivial)⟩⟩ rfl hn hl.1 rfl (lv_room hroom) hdg hf) hS (fun q _ h => hF q h) hF (fun u t H1 locs ht hvm hw hB hz1 hk1 hS => ?_)
  obtain ⟨hP1, hK1, hD1⟩ := hB
  rw [ht] at hP1
  obtain ⟨hP, hD⟩ := z_join hP hD hk1 hF hP1 hD1
  exact kk u hw H1 locs ls hP hD hS hl
theorem z_callVv_all {S : Type} {y : MethodName} {bytes : ByteArray} {maxL n mc ms index : Nat} {ret : Option FieldType} {wsy : List Cond} {rm : Room} {post : S → Prop} {wo : S → va_W} {As stk : List Value} {Cn : String} {b ci : Nat} {fs : List Value} {qc : vw_C} (C : zC p s m args c cc nL Ts own A H0 D cl tys)
    (hM : ∀ sz, Met l y wsy rm (va_Pc (.ref b :: As) (zPre D cl tys sz ws)) (va_Qv post (fun u => zPost D cl tys (va_A ws sz) (wo u)) (va_A ws sz)) mc ms (va_A ws sz)) (cw : CallW R s args own Cn index y bytes maxL ret wsy rm mc ms n) (hcl : cl[ci]? = some qc) (hCn : qc.1 = Cn) (k0 : Nat) (he : ws[k0]? = some (b, .inr (ci, fs))) (hdg : decode cc pc = .ok (.invokevirtual index, 3)) (hn : As.length = n) (hst : stk = As.reverse ++ .ref b :: st) (hroom : (st.map fun v => v.category).sum ≤ 8) (hf : cells + mc ≤ R.cells ∧ slots + ms ≤ R.slots)
    (kk : ∀ (u : S), post u → zW p l e R s m args below meth c Q nL A H0 D cl (cells + mc) (slots + ms) (wo u) (pc + 3) (lv) (st)) : zW p l e R s m args below meth c Q nL A H0 D cl cells slots (ws) (pc) (lv) (stk) :=
  z_callVv (X := []) (wc := ws) (Y := []) C hM cw hcl hCn k0 he hdg hn hst hroom hf (by rw [List.append_nil]; rfl) (fun u h => by rw [List.append_nil]; exact kk u h)
theorem z_callSv {S : Type} {y : MethodName} {bytes : ByteArray} {maxL n mc ms index : Nat} {ret : Option FieldType} {wsy : List Cond} {rm : Room} {post : S → Prop} {wo : S → va_W} {As stk : List Value} {X wc Y : va_W} (C : zC p s m args c cc nL Ts own A H0 D cl tys)
    (hM : ∀ sz, Met l y wsy rm (va_Pc As (zPre D cl tys sz wc)) (va_Qv post (fun u => zPost D cl tys (va_A wc sz) (wo u)) (va_A wc sz)) mc ms (va_A wc sz)) (cw : (CallB R s args own index y bytes maxL ret wsy rm mc ms n ∧ (Cond.static y).before args s = true)) (hdg : decode cc pc = .ok (.invokestatic index, 3)) (hn : As.length = n) (hst : stk = As.reverse ++ st) (hroom : (st.map fun v => v.category).sum ≤ 8) (hf : cells + mc ≤ R.cells ∧ slots + ms ≤ R.slots) (hws : ws = X ++ (wc ++ Y))
    (kk : ∀ (u : S), post u → zW p l e R s m args below meth c Q nL A H0 D cl (cells + mc) (slots + ms) (X ++ (wo u ++ Y)) (pc + 3) (lv) (st)) : zW p l e R s m args below meth c Q nL A H0 D cl cells slots (ws) (pc) (lv) (stk) := by
  intro H locs ls hP hD hS hl
  subst hws
  subst hst
  have pC := (zj_P (zj_P hP).2).1
  have dC := (zj_D (zj_D hD).2.1).1
  have hF := z_free hD hS C.2.2
  refine va_callv (va_runS (As := As) (rest := st) C.1 (hM H.size) cw ⟨z_blind, fun U hU hW => ⟨rfl, by rw [hU], by rw [hU]; exact pC, va_K.moved hW.alike C.2.1, dC.weaken (fun _ _ _ _ => trivial)⟩⟩ rfl hn hl.1 rfl (lv_room hroom) hdg hf) hS (fun q _ h => hF q h) hF (fun u t H1 locs ht hvm hw hB hz1 hk1 hS => ?_)
  obtain ⟨hP1, hK1, hD1⟩ := hB
  rw [ht] at hP1
  obtain ⟨hP, hD⟩ := z_join hP hD hk1 hF hP1 hD1
  exact kk u hw H1 locs ls hP hD hS hl
theorem z_callSv_all {S : Type} {y : MethodName} {bytes : ByteArray} {maxL n mc ms index : Nat} {ret : Option FieldType} {wsy : List Cond} {rm : Room} {post : S → Prop} {wo : S → va_W} {As stk : List Value} (C : zC p s m args c cc nL Ts own A H0 D cl tys)
    (hM : ∀ sz, Met l y wsy rm (va_Pc As (zPre D cl tys sz ws)) (va_Qv post (fun u => zPost D cl tys (va_A ws sz) (wo u)) (va_A ws sz)) mc ms (va_A ws sz)) (cw : (CallB R s args own index y bytes maxL ret wsy rm mc ms n ∧ (Cond.static y).before args s = true)) (hdg : decode cc pc = .ok (.invokestatic index, 3)) (hn : As.length = n) (hst : stk = As.reverse ++ st) (hroom : (st.map fun v => v.category).sum ≤ 8) (hf : cells + mc ≤ R.cells ∧ slots + ms ≤ R.slots)
    (kk : ∀ (u : S), post u → zW p l e R s m args below meth c Q nL A H0 D cl (cells + mc) (slots + ms) (wo u) (pc + 3) (lv) (st)) : zW p l e R s m args below meth c Q nL A H0 D cl cells slots (ws) (pc) (lv) (stk) :=
  z_callSv (X := []) (wc := ws) (Y := []) C hM cw hdg hn hst hroom hf (by rw [List.append_nil]; rfl) (fun u h => by rw [List.append_nil]; exact kk u h)
theorem z_callSv_none {y : MethodName} {bytes : ByteArray} {maxL n mc ms index : Nat} {ret : Option FieldType} {wsy : List Cond} {rm : Room} {post : Unit → Prop} {As stk : List Value} (C : zC p s m args c cc nL Ts own A H0 D cl tys)
    (hM : ∀ sz, Met l y wsy rm (va_Pc As (zPre D cl tys sz [])) (va_Qv post (fun _ : Unit => zPost D cl tys (va_A [] sz) []) (va_A [] sz)) mc ms (va_A [] sz)) (cw : CallB R s args own index y bytes maxL ret wsy rm mc ms n ∧ (Cond.static y).before args s = true) (hdg : decode cc pc = .ok (.invokestatic index, 3)) (hn : As.length = n) (hst : stk = As.reverse ++ st) (hroom : (st.map fun v => v.category).sum ≤ 8) (hf : cells + mc ≤ R.cells ∧ slots + ms ≤ R.slots)
    (kk : ∀ (u : Unit), post u → zW p l e R s m args below meth c Q nL A H0 D cl (cells + mc) (slots + ms) (ws) (pc + 3) (lv) (st)) : zW p l e R s m args below meth c Q nL A H0 D cl cells slots (ws) (pc) (lv) (stk) :=
  z_callSv (S := Unit) (X := ws) (wc := []) (Y := []) C hM cw hdg hn hst hroom hf (by rw [List.append_nil, List.append_nil]) (fun u h => by rw [List.append_nil, List.append_nil]; exact kk u h)
end ZCALLS
theorem z_met_i {l : Launch} {D : va_G} {cl : List vw_C} {tys : List (ClassId × FieldType)} {y : MethodName} {wsy wsy' : List Cond} {rm : Room} {S : Type} {post : Int32 → S → Prop} {wo : S → va_W} {mc ms : Nat} {cc : ByteArray} {maxL : Nat} {av : List Value} {wc : va_W} {own : String} {lv : List (Nat × Value)}
    (hy : plainFor y = true) (hw : wsy = Cond.code y cc maxL (some .int) :: wsy') (ho : y.cls = own) (hlen : (lg_sl av).length ≤ maxL) (hlv : lv_args 0 av = lv)
    (body : ∀ (p : Program) (e : Env) (s : State) (m : MethodId) (below : List Frame) (meth : Method) (c : Code) (args : Array Value) (Q : State → Prop) (A : Nat → Prop), zC p s m args c cc maxL wsy own A s.heap D cl tys → meth.name = y.name →
      (∀ (cells slots pc : Nat) (lv : List (Nat × Value)) (v : Int32) (u : S), decode cc pc = .ok (.ireturn, 1) → cells ≤ mc → slots ≤ ms → post v u → zW p l e rm s m args below meth c Q maxL A s.heap D cl cells slots (wo u) pc lv [.int v]) →
      zW p l e rm s m args below meth c Q maxL A s.heap D cl 0 0 wc 0 lv []) :
    ∀ sz, Met l y wsy rm (va_Pc av (zPre D cl tys sz wc)) (va_Qi post (fun u => zPost D cl tys (va_A wc sz) (wo u)) (va_A wc sz)) mc ms (va_A wc sz) :=
  z_met (Qc := fun sz => va_Qi post (fun u => zPost D cl tys (va_A wc sz) (wo u)) (va_A wc sz)) hy hw ho hlen hlv (fun p e s m below meth c C hr hlocks hnm => body p e s m below meth c _ _ _ C hnm (fun cells slots pc lv v u hdg h1 h2 hp => z_iret C hr hlocks hdg h1 h2 u rfl hp))
theorem z_met_z {l : Launch} {D : va_G} {cl : List vw_C} {tys : List (ClassId × FieldType)} {y : MethodName} {wsy wsy' : List Cond} {rm : Room} {S : Type} {post : Int32 → S → Prop} {wo : S → va_W} {mc ms : Nat} {cc : ByteArray} {maxL : Nat} {av : List Value} {wc : va_W} {own : String} {lv : List (Nat × Value)}
    (hy : plainFor y = true) (hw : wsy = Cond.code y cc maxL (some .boolean) :: wsy') (ho : y.cls = own) (hlen : (lg_sl av).length ≤ maxL) (hlv : lv_args 0 av = lv)
    (body : ∀ (p : Program) (e : Env) (s : State) (m : MethodId) (below : List Frame) (meth : Method) (c : Code) (args : Array Value) (Q : State → Prop) (A : Nat → Prop), zC p s m args c cc maxL wsy own A s.heap D cl tys → meth.name = y.name →
      (∀ (cells slots pc : Nat) (lv : List (Nat × Value)) (v : Int32) (u : S), decode cc pc = .ok (.ireturn, 1) → cells ≤ mc → slots ≤ ms → (v = 0 ∨ v = 1) → post v u → zW p l e rm s m args below meth c Q maxL A s.heap D cl cells slots (wo u) pc lv [.int v]) →
      zW p l e rm s m args below meth c Q maxL A s.heap D cl 0 0 wc 0 lv []) :
    ∀ sz, Met l y wsy rm (va_Pc av (zPre D cl tys sz wc)) (va_Qi post (fun u => zPost D cl tys (va_A wc sz) (wo u)) (va_A wc sz)) mc ms (va_A wc sz) :=
  z_met (Qc := fun sz => va_Qi post (fun u => zPost D cl tys (va_A wc sz) (wo u)) (va_A wc sz)) hy hw ho hlen hlv (fun p e s m below meth c C hr hlocks hnm => body p e s m below meth c _ _ _ C hnm (fun cells slots pc lv v u hdg h1 h2 hv hp => z_zret C hr hlocks hdg h1 h2 hv u rfl hp))
theorem z_met_l {l : Launch} {D : va_G} {cl : List vw_C} {tys : List (ClassId × FieldType)} {y : MethodName} {wsy wsy' : List Cond} {rm : Room} {S : Type} {post : Int64 → S → Prop} {wo : S → va_W} {mc ms : Nat} {cc : ByteArray} {maxL : Nat} {av : List Value} {wc : va_W} {own : String} {lv : List (Nat × Value)}
    (hy : plainFor y = true) (hw : wsy = Cond.code y cc maxL (some .long) :: wsy') (ho : y.cls = own) (hlen : (lg_sl av).length ≤ maxL) (hlv : lv_args 0 av = lv)
    (body : ∀ (p : Program) (e : Env) (s : State) (m : MethodId) (below : List Frame) (meth : Method) (c : Code) (args : Array Value) (Q : State → Prop) (A : Nat → Prop), zC p s m args c cc maxL wsy own A s.heap D cl tys → meth.name = y.name →
      (∀ (cells slots pc : Nat) (lv : List (Nat × Value)) (v : Int64) (u : S), decode cc pc = .ok (.lreturn, 1) → cells ≤ mc → slots ≤ ms → post v u → zW p l e rm s m args below meth c Q maxL A s.heap D cl cells slots (wo u) pc lv [.long v]) →
      zW p l e rm s m args below meth c Q maxL A s.heap D cl 0 0 wc 0 lv []) :
    ∀ sz, Met l y wsy rm (va_Pc av (zPre D cl tys sz wc)) (va_Ql post (fun u => zPost D cl tys (va_A wc sz) (wo u)) (va_A wc sz)) mc ms (va_A wc sz) :=
  z_met (Qc := fun sz => va_Ql post (fun u => zPost D cl tys (va_A wc sz) (wo u)) (va_A wc sz)) hy hw ho hlen hlv (fun p e s m below meth c C hr hlocks hnm => body p e s m below meth c _ _ _ C hnm (fun cells slots pc lv v u hdg h1 h2 hp => z_lret C hr hlocks hdg h1 h2 u rfl hp))
theorem z_met_d {l : Launch} {D : va_G} {cl : List vw_C} {tys : List (ClassId × FieldType)} {y : MethodName} {wsy wsy' : List Cond} {rm : Room} {S : Type} {post : UInt64 → S → Prop} {wo : S → va_W} {mc ms : Nat} {cc : ByteArray} {maxL : Nat} {av : List Value} {wc : va_W} {own : String} {lv : List (Nat × Value)}
    (hy : plainFor y = true) (hw : wsy = Cond.code y cc maxL (some .double) :: wsy') (ho : y.cls = own) (hlen : (lg_sl av).length ≤ maxL) (hlv : lv_args 0 av = lv)
    (body : ∀ (p : Program) (e : Env) (s : State) (m : MethodId) (below : List Frame) (meth : Method) (c : Code) (args : Array Value) (Q : State → Prop) (A : Nat → Prop), zC p s m args c cc maxL wsy own A s.heap D cl tys → meth.name = y.name →
      (∀ (cells slots pc : Nat) (lv : List (Nat × Value)) (v : UInt64) (u : S), decode cc pc = .ok (.dreturn, 1) → cells ≤ mc → slots ≤ ms → post v u → zW p l e rm s m args below meth c Q maxL A s.heap D cl cells slots (wo u) pc lv [.double v]) →
      zW p l e rm s m args below meth c Q maxL A s.heap D cl 0 0 wc 0 lv []) :
    ∀ sz, Met l y wsy rm (va_Pc av (zPre D cl tys sz wc)) (va_Qd post (fun u => zPost D cl tys (va_A wc sz) (wo u)) (va_A wc sz)) mc ms (va_A wc sz) :=
  z_met (Qc := fun sz => va_Qd post (fun u => zPost D cl tys (va_A wc sz) (wo u)) (va_A wc sz)) hy hw ho hlen hlv (fun p e s m below meth c C hr hlocks hnm => body p e s m below meth c _ _ _ C hnm (fun cells slots pc lv v u hdg h1 h2 hp => z_dret C hr hlocks hdg h1 h2 u rfl hp))
theorem z_met_v {l : Launch} {D : va_G} {cl : List vw_C} {tys : List (ClassId × FieldType)} {y : MethodName} {wsy wsy' : List Cond} {rm : Room} {S : Type} {post : S → Prop} {wo : S → va_W} {mc ms : Nat} {cc : ByteArray} {maxL : Nat} {av : List Value} {wc : va_W} {own : String} {lv : List (Nat × Value)}
    (hy : plainFor y = true) (hw : wsy = Cond.code y cc maxL none :: wsy') (ho : y.cls = own) (hlen : (lg_sl av).length ≤ maxL) (hlv : lv_args 0 av = lv)
    (body : ∀ (p : Program) (e : Env) (s : State) (m : MethodId) (below : List Frame) (meth : Method) (c : Code) (args : Array Value) (Q : State → Prop) (A : Nat → Prop), zC p s m args c cc maxL wsy own A s.heap D cl tys → meth.name = y.name →
      (∀ (cells slots pc : Nat) (lv : List (Nat × Value)) (u : S), decode cc pc = .ok (.return_, 1) → cells ≤ mc → slots ≤ ms → post u → zW p l e rm s m args below meth c Q maxL A s.heap D cl cells slots (wo u) pc lv []) →
      zW p l e rm s m args below meth c Q maxL A s.heap D cl 0 0 wc 0 lv []) :
    ∀ sz, Met l y wsy rm (va_Pc av (zPre D cl tys sz wc)) (va_Qv post (fun u => zPost D cl tys (va_A wc sz) (wo u)) (va_A wc sz)) mc ms (va_A wc sz) :=
  z_met (Qc := fun sz => va_Qv post (fun u => zPost D cl tys (va_A wc sz) (wo u)) (va_A wc sz)) hy hw ho hlen hlv (fun p e s m below meth c C hr hlocks hnm => body p e s m below meth c _ _ _ C hnm (fun cells slots pc lv u hdg h1 h2 hp => z_vret C hr hlocks hdg h1 h2 u rfl hp))
