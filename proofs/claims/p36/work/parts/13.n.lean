section ZNEW
variable {p : Program} {l : Launch} {e : Env} {R : Room} {s : State} {m : MethodId} {args : Array Value} {below : List Frame} {meth : Method} {c : Code} {Q : State → Prop} {nL : Nat} {A : Nat → Prop} {H0 : Heap} {D : va_G} {cl : List vw_C} {cells slots : Nat} {ws ws' : va_W} {pc : Nat} {lv lv' : List (Nat × Value)} {st : List Value} {cc : ByteArray} {Ts : List Cond} {own : String} {tys : List (ClassId × FieldType)}
theorem z_newi (C : zC p s m args c cc nL Ts own A H0 D cl tys) {cI : ClassId} {n : Int32} {nn : Nat} (t0 : Nat) (ht : tys[t0]? = some (cI, .int)) (harr : Cond.arrayClass .int ∈ Ts) (hn : ¬ n < 0) (hN : n.toNatClampNeg = nn) (hby : nn * componentBytes .int ≤ 536870912) (hcells : cells + 1 ≤ R.cells) (hslots : slots + nn ≤ R.slots) (hdg : decode cc pc = .ok (.newarray .int, 2)) (kk : ∀ q : Nat, zW p l e R s m args below meth c Q nL A H0 D cl (cells + 1) (slots + nn) (ws ++ [(q, .inl (cI, nn, .inl (fun _ => 0)))]) (pc + 2) (lv) (.ref q :: st)) : zW p l e R s m args below meth c Q nL A H0 D cl cells slots (ws) (pc) (lv) (.int n :: st) := fun H locs ls hP hD hS hl => va_newa (atype := .int) (ty := .int) (N' := nn) (a0 := (nn, .inl (fun _ => 0))) C.1.1 C.1.2.1 (C.1.2.2.2.2 _ harr) rfl C.2.1 hP hD hS C.2.2 (fun _ => rfl) hn hN hby hcells hslots hdg (fun q cA H1 hK1 p1 d1 s1 => by have e1 := (C.2.1.2 t0 _ ht).2; have e2 := (hK1.2 tys.length (cA, .int) (by rw [List.getElem?_append_right (Nat.le_refl _), Nat.sub_self]; rfl)).2; have e3 : some cI = some cA := e1.symm.trans e2; cases e3; exact kk q H1 locs ls p1 d1 s1 hl)
theorem z_mnai (C : zC p s m args c cc nL Ts own A H0 D cl tys) {cI cJ : ClassId} {index : Nat} (t0 t1 : Nat) (ht : tys[t0]? = some (cI, .int)) (ht1 : tys[t1]? = some (cJ, .array .int)) (hcl : Cond.classLink own index ("[" ++ (FieldType.array .int).toString) ∈ Ts) (hover : va_AOA .int s) (harr : Cond.arrayClass .int ∈ Ts) (hcells : cells + 6 ≤ R.cells) (hslots : slots + 30 ≤ R.slots) (hdg : decode cc pc = .ok (.multianewarray index 2, 4))
    (kk : ∀ (q : Nat) (r : Nat → Nat), zW p l e R s m args below meth c Q nL A H0 D cl (cells + 6) (slots + 30) (ws ++ ([(q, .inl (cJ, 5, .inr (.inr (.inr (.inr (fun i => if i < 5 then some (r i) else none))))))] ++ [(r 0, .inl (cI, 5, .inl (fun _ => 0))), (r 1, .inl (cI, 5, .inl (fun _ => 0))), (r 2, .inl (cI, 5, .inl (fun _ => 0))), (r 3, .inl (cI, 5, .inl (fun _ => 0))), (r 4, .inl (cI, 5, .inl (fun _ => 0)))])) (pc + 4) (lv) (.ref q :: st)) : zW p l e R s m args below meth c Q nL A H0 D cl cells slots (ws) (pc) (lv) (.int 5 :: .int 5 :: st) := fun H locs ls hP hD hS hl => by
  have e1 := (C.2.1.2 t0 _ ht).2
  refine va_mna (X := ws) (L := []) (f := fun _ => .inl (cI, (5, .inl (fun _ => 0)))) (ty := .int) (cy := cI) (N' := 5) (K' := 5) (z := (5, .inl (fun _ => 0))) C.1.1 C.1.2.1 C.1.2.2.2.1 (C.1.2.2.2.2 _ hcl) hover (C.1.2.2.2.2 _ harr) e1 C.2.1 (by rw [show va_pl [] _ = [] from rfl, List.append_nil]; exact hP) (by rw [show va_pl [] _ = [] from rfl, List.append_nil]; exact hD) hS C.2.2 (by decide) (by decide) rfl rfl (by decide) (by decide) (by decide) rfl rfl (by omega) (by omega) (fun _ => rfl) hdg (fun q r cA H1 hr hrL hK1 p1 d1 s1 => ?_)
  have e2 := (C.2.1.2 t1 _ ht1).2
  have e3 := (hK1.2 tys.length (cA, .array .int) (by rw [List.getElem?_append_right (Nat.le_refl _), Nat.sub_self]; rfl)).2
  have e4 : some cJ = some cA := e2.symm.trans e3
  cases e4
  have ew : va_pl ([] ++ (List.range 5).map r) (vr_up (fun _ => .inl (cI, (5, .inl (fun _ => 0)))) ((List.range 5).map r) (.inl (cI, (5, .inl (fun _ => 0))))) = [(r 0, .inl (cI, 5, .inl (fun _ => 0))), (r 1, .inl (cI, 5, .inl (fun _ => 0))), (r 2, .inl (cI, 5, .inl (fun _ => 0))), (r 3, .inl (cI, 5, .inl (fun _ => 0))), (r 4, .inl (cI, 5, .inl (fun _ => 0)))] := by
    simp [va_pl, vr_up, List.range, List.range.loop]
  rw [ew, List.append_assoc] at p1 d1
  exact kk q r H1 locs ls p1 d1 s1 hl
theorem z_newl (C : zC p s m args c cc nL Ts own A H0 D cl tys) {cI : ClassId} {n : Int32} {nn : Nat} (t0 : Nat) (ht : tys[t0]? = some (cI, .long)) (harr : Cond.arrayClass .long ∈ Ts) (hn : ¬ n < 0) (hN : n.toNatClampNeg = nn) (hby : nn * componentBytes .long ≤ 536870912) (hcells : cells + 1 ≤ R.cells) (hslots : slots + nn ≤ R.slots) (hdg : decode cc pc = .ok (.newarray .long, 2)) (kk : ∀ q : Nat, zW p l e R s m args below meth c Q nL A H0 D cl (cells + 1) (slots + nn) (ws ++ [(q, .inl (cI, nn, .inr (.inl (fun _ => 0))))]) (pc + 2) (lv) (.ref q :: st)) : zW p l e R s m args below meth c Q nL A H0 D cl cells slots (ws) (pc) (lv) (.int n :: st) := fun H locs ls hP hD hS hl => va_newa (atype := .long) (ty := .long) (N' := nn) (a0 := (nn, .inr (.inl (fun _ => 0)))) C.1.1 C.1.2.1 (C.1.2.2.2.2 _ harr) rfl C.2.1 hP hD hS C.2.2 (fun _ => rfl) hn hN hby hcells hslots hdg (fun q cA H1 hK1 p1 d1 s1 => by have e1 := (C.2.1.2 t0 _ ht).2; have e2 := (hK1.2 tys.length (cA, .long) (by rw [List.getElem?_append_right (Nat.le_refl _), Nat.sub_self]; rfl)).2; have e3 : some cI = some cA := e1.symm.trans e2; cases e3; exact kk q H1 locs ls p1 d1 s1 hl)
theorem z_mnal (C : zC p s m args c cc nL Ts own A H0 D cl tys) {cI cJ : ClassId} {index : Nat} (t0 t1 : Nat) (ht : tys[t0]? = some (cI, .long)) (ht1 : tys[t1]? = some (cJ, .array .long)) (hcl : Cond.classLink own index ("[" ++ (FieldType.array .long).toString) ∈ Ts) (hover : va_AOA .long s) (harr : Cond.arrayClass .long ∈ Ts) (hcells : cells + 6 ≤ R.cells) (hslots : slots + 30 ≤ R.slots) (hdg : decode cc pc = .ok (.multianewarray index 2, 4))
    (kk : ∀ (q : Nat) (r : Nat → Nat), zW p l e R s m args below meth c Q nL A H0 D cl (cells + 6) (slots + 30) (ws ++ ([(q, .inl (cJ, 5, .inr (.inr (.inr (.inr (fun i => if i < 5 then some (r i) else none))))))] ++ [(r 0, .inl (cI, 5, .inr (.inl (fun _ => 0)))), (r 1, .inl (cI, 5, .inr (.inl (fun _ => 0)))), (r 2, .inl (cI, 5, .inr (.inl (fun _ => 0)))), (r 3, .inl (cI, 5, .inr (.inl (fun _ => 0)))), (r 4, .inl (cI, 5, .inr (.inl (fun _ => 0))))])) (pc + 4) (lv) (.ref q :: st)) : zW p l e R s m args below meth c Q nL A H0 D cl cells slots (ws) (pc) (lv) (.int 5 :: .int 5 :: st) := fun H locs ls hP hD hS hl => by
  have e1 := (C.2.1.2 t0 _ ht).2
  refine va_mna (X := ws) (L := []) (f := fun _ => .inl (cI, (5, .inr (.inl (fun _ => 0))))) (ty := .long) (cy := cI) (N' := 5) (K' := 5) (z := (5, .inr (.inl (fun _ => 0)))) C.1.1 C.1.2.1 C.1.2.2.2.1 (C.1.2.2.2.2 _ hcl) hover (C.1.2.2.2.2 _ harr) e1 C.2.1 (by rw [show va_pl [] _ = [] from rfl, List.append_nil]; exact hP) (by rw [show va_pl [] _ = [] from rfl, List.append_nil]; exact hD) hS C.2.2 (by decide) (by decide) rfl rfl (by decide) (by decide) (by decide) rfl rfl (by omega) (by omega) (fun _ => rfl) hdg (fun q r cA H1 hr hrL hK1 p1 d1 s1 => ?_)
  have e2 := (C.2.1.2 t1 _ ht1).2
  have e3 := (hK1.2 tys.length (cA, .array .long) (by rw [List.getElem?_append_right (Nat.le_refl _), Nat.sub_self]; rfl)).2
  have e4 : some cJ = some cA := e2.symm.trans e3
  cases e4
  have ew : va_pl ([] ++ (List.range 5).map r) (vr_up (fun _ => .inl (cI, (5, .inr (.inl (fun _ => 0))))) ((List.range 5).map r) (.inl (cI, (5, .inr (.inl (fun _ => 0)))))) = [(r 0, .inl (cI, 5, .inr (.inl (fun _ => 0)))), (r 1, .inl (cI, 5, .inr (.inl (fun _ => 0)))), (r 2, .inl (cI, 5, .inr (.inl (fun _ => 0)))), (r 3, .inl (cI, 5, .inr (.inl (fun _ => 0)))), (r 4, .inl (cI, 5, .inr (.inl (fun _ => 0))))] := by
    simp [va_pl, vr_up, List.range, List.range.loop]
  rw [ew, List.append_assoc] at p1 d1
  exact kk q r H1 locs ls p1 d1 s1 hl
theorem z_obj (C : zC p s m args c cc nL Ts own A H0 D cl tys) {index a : Nat} (hlink : Cond.methodLink own index Lib.objectInit ∈ Ts) (hinst : Cond.instanceMethod Lib.objectInit ∈ Ts) (hcode : Cond.code Lib.objectInit ⟨#[0xb1]⟩ 1 none ∈ Ts) (hframes : 1 ≤ R.frames) (hroom : (st.map fun v => v.category).sum ≤ 8) (hlocals : 20 ≤ R.locals) (hdg : decode cc pc = .ok (.invokespecial index, 3)) (kk : zW p l e R s m args below meth c Q nL A H0 D cl cells slots (ws) (pc + 3) (lv) (st)) : zW p l e R s m args below meth c Q nL A H0 D cl cells slots (ws) (pc) (lv) (.ref a :: st) := fun H locs ls hP hD hS hl => by
  refine W.objInit (g := F0 m pc ls (.ref a :: st)) (rest := st) C.1.1 C.1.2.1 C.1.2.2.2.1 (C.1.2.2.2.2 _ hlink) (C.1.2.2.2.2 _ hinst) (C.1.2.2.2.2 _ hcode) rfl (hl.1.trans C.1.2.2.1.symm) rfl hdg hframes ?_ (kk H locs ls hP hD hS hl)
  have h8 : 2 * (F0 m pc ls (.ref a :: st)).monitorRoom + (st.map fun v => v.category).sum ≤ 8 := lv_room hroom
  omega
end ZNEW
theorem va_AOA.moved {ty : FieldType} {u U : State} (hvm : u.vm.Alike U.vm) (h : va_AOA ty u) : va_AOA ty U := by
  have e : (Cond.arrayOver (.array ty)).before #[] (u.setVm U.vm) = (Cond.arrayOver (.array ty)).before #[] U := by
    simp only [Cond.before, Cond.holds, Cond.value]
    rfl
  show (Cond.arrayOver (.array ty)).before #[] U = true
  rw [← e, Cond.arrayOver_setVmC hvm]
  exact h
def zoPre (D : va_G) (cl : List vw_C) (tys : List (ClassId × FieldType)) (sz : Nat) (wc : va_W) : State → Prop := fun U => zPre D cl tys sz wc U ∧ va_AOA .int U ∧ va_AOA .long U
theorem zo_blind {D : va_G} {cl : List vw_C} {tys : List (ClassId × FieldType)} {sz : Nat} {wc : va_W} {av : List Value} : FrameBlind (va_Pc av (zoPre D cl tys sz wc)) := fun a U g mk q => by
  obtain ⟨q0, ⟨q1, qP, qK, qD⟩, h1, h2⟩ := q
  exact ⟨q0, ⟨q1, qP, va_K.moved (u := U) (U := U.calling g mk a) (Vm.Alike.refl U.vm) qK, qD⟩, va_AOA.moved (u := U) (U := U.calling g mk a) (Vm.Alike.refl U.vm) h1, va_AOA.moved (u := U) (U := U.calling g mk a) (Vm.Alike.refl U.vm) h2⟩
theorem zo_met_v {l : Launch} {D : va_G} {cl : List vw_C} {tys : List (ClassId × FieldType)} {y : MethodName} {wsy wsy' : List Cond} {rm : Room} {S : Type} {post : S → Prop} {wo : S → va_W} {mc ms : Nat} {cc : ByteArray} {maxL : Nat} {av : List Value} {wc : va_W} {own : String} {lv : List (Nat × Value)}
    (hy : plainFor y = true) (hw : wsy = Cond.code y cc maxL none :: wsy') (ho : y.cls = own) (hlen : (lg_sl av).length ≤ maxL) (hlv : lv_args 0 av = lv)
    (body : ∀ (p : Program) (e : Env) (s : State) (m : MethodId) (below : List Frame) (meth : Method) (c : Code) (args : Array Value) (Q : State → Prop) (A : Nat → Prop), zC p s m args c cc maxL wsy own A s.heap D cl tys → meth.name = y.name → va_AOA .int s → va_AOA .long s →
      (∀ (cells slots pc : Nat) (lv : List (Nat × Value)) (u : S), decode cc pc = .ok (.return_, 1) → cells ≤ mc → slots ≤ ms → post u → zW p l e rm s m args below meth c Q maxL A s.heap D cl cells slots (wo u) pc lv []) →
      zW p l e rm s m args below meth c Q maxL A s.heap D cl 0 0 wc 0 lv []) :
    ∀ sz, Met l y wsy rm (va_Pc av (zoPre D cl tys sz wc)) (va_Qv post (fun u => zPost D cl tys (va_A wc sz) (wo u)) (va_A wc sz)) mc ms (va_A wc sz) := by
  intro sz
  refine va_MetF (cc := cc) (maxL := maxL) (ret := none) hy hw ?_
  intro p e s m args below meth c s₁ B hml hv
  obtain ⟨rfl, ⟨hsz, hP, hK, hD0⟩, h1, h2⟩ := hv
  subst hsz
  subst ho
  rw [lg_entry_eq]
  have C : zC p s m av.toArray c cc maxL wsy y.cls (va_A wc s.heap.size) s.heap D cl tys := ⟨⟨B.exec, B.bytes, hml, findClass_of_methodNamed B.named, atoms_spec (ws := wsy) B.pre⟩, hK, fun q h => Or.inr h⟩
  exact body p e s m below meth c _ _ _ C (name_of_methodNamed B.named B.method).1 h1 h2 (fun cells slots pc lv u hdg k1 k2 hp => z_vret C B.returns B.notSynchronized hdg k1 k2 u rfl hp) s.heap [] _ hP hD0.self va_S.rf (hlv ▸ lv_entry av hlen)

