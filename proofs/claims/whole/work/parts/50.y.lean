/-! the law's static wrappers: what they ask, how they begin, what they answer -/
def yNc (U : State) : Prop := va_Nc "java/lang/IllegalArgumentException" "java/lang/IndexOutOfBoundsException" U ∧ va_Nc "java/lang/ArithmeticException" "java/lang/IndexOutOfBoundsException" U ∧ va_Nc "java/lang/ArithmeticException" "java/lang/IllegalArgumentException" U
theorem yNc.moved {u U : State} (hvm : u.vm.Alike U.vm) (h : yNc u) : yNc U := ⟨h.1.moved hvm, h.2.1.moved hvm, h.2.2.moved hvm⟩
def zyPre (D : va_G) (cl : List vw_C) (tys : List (ClassId × FieldType)) (sz : Nat) (wc : va_W) : State → Prop := fun U => zxPre D cl tys sz wc U ∧ yNc U
theorem zy_blind {D : va_G} {cl : List vw_C} {tys : List (ClassId × FieldType)} {sz : Nat} {wc : va_W} {av : List Value} : FrameBlind (va_Pc av (zyPre D cl tys sz wc)) := fun a U g mk q => by
  obtain ⟨q0, ⟨⟨q1, qP, qK, qD⟩, qX⟩, qN⟩ := q
  exact ⟨q0, ⟨⟨q1, qP, va_K.moved (u := U) (U := U.calling g mk a) (Vm.Alike.refl U.vm) qK, qD⟩, qX.calling⟩, yNc.moved (u := U) (U := U.calling g mk a) (Vm.Alike.refl U.vm) qN⟩
abbrev yM (l : Launch) (D : va_G) (K : Nat → ClassId) (y : MethodName) (wsy : List Cond) (fr lo mc ms : Nat) (av : List Value) (wc : va_W) {S : Type} (post : Int32 → S → Prop) (wo : S → va_W) : Prop := ∀ sz, Met l y wsy { frames := fr, cells := mc, slots := ms, locals := lo } (va_Pc av (zyPre D vwCl (zT K) sz wc)) (va_Qi post (fun u => zPost D vwCl (zT K) (va_A wc sz) (wo u)) (va_A wc sz)) mc ms (va_A wc sz)
/-- the class's world with the two rows for answers behind it -/
abbrev SV : Type := S0 × (Nat → Int64) × (Nat → UInt64)
def wv (K : Nat → ClassId) (a : Nat → Nat) (o od : Nat) : SV → va_W := fun z => w0 K a z.1 ++ [(o, .inl (K 1, 1, .inr (.inl z.2.1))), (od, .inl (K 4, 1, .inr (.inr (.inr (.inl z.2.2)))))]
theorem w0_len {K : Nat → ClassId} {a : Nat → Nat} (u : S0) : (w0 K a u).length = 27 := rfl
theorem wv_o {K : Nat → ClassId} {a : Nat → Nat} {o od : Nat} (u : S0) (g : Nat → Int64) (gd : Nat → UInt64) : (wv K a o od (u, g, gd))[27]? = some (o, .inl (K 1, 1, .inr (.inl g))) := rfl
theorem wv_d {K : Nat → ClassId} {a : Nat → Nat} {o od : Nat} (u : S0) (g : Nat → Int64) (gd : Nat → UInt64) : (wv K a o od (u, g, gd))[28]? = some (od, .inl (K 4, 1, .inr (.inr (.inr (.inl gd))))) := rfl
theorem wv_so {K : Nat → ClassId} {a : Nat → Nat} {o od : Nat} (u : S0) (g g1 : Nat → Int64) (gd : Nat → UInt64) : (wv K a o od (u, g, gd)).set 27 (o, .inl (K 1, 1, .inr (.inl g1))) = wv K a o od (u, g1, gd) := rfl
theorem wv_sd {K : Nat → ClassId} {a : Nat → Nat} {o od : Nat} (u : S0) (g : Nat → Int64) (gd gd1 : Nat → UInt64) : (wv K a o od (u, g, gd)).set 28 (od, .inl (K 4, 1, .inr (.inr (.inr (.inl gd1))))) = wv K a o od (u, g, gd1) := rfl
/-- a wrapper's answer: the code; where it is 0 the row holds the value -/
def yPost (code : Int32) (val : Int64) (P0 P1 : S0 → Prop) : Int32 → SV → Prop := fun r z => (code = 0 ∧ r = 0 ∧ z.2.1 0 = val ∧ P0 z.1) ∨ (¬ code = 0 ∧ r = code ∧ P1 z.1)
def yPostD (code : Int32) (val : UInt64) (P0 P1 : S0 → Prop) : Int32 → SV → Prop := fun r z => (code = 0 ∧ r = 0 ∧ z.2.2 0 = val ∧ P0 z.1) ∨ (¬ code = 0 ∧ r = code ∧ P1 z.1)
theorem vp_updL_0 (g : Nat → Int64) (x : Int64) : vp_updL g 0 x 0 = x := by simp [vp_updL]
theorem vf_upd_0 (g : Nat → UInt64) (x : UInt64) : vf_upd g 0 x 0 = x := by simp [vf_upd]
theorem yPost_err {code val} {P0 P1 : S0 → Prop} {u : S0} {g : Nat → Int64} {gd : Nat → UInt64} {k : Int32} (hk : code = k) (h0 : ¬ k = 0) (hu : P1 u) : yPost code val P0 P1 k (u, g, gd) := Or.inr ⟨fun h => h0 (hk.symm.trans h), hk.symm, hu⟩
theorem yPost_ok {code val} {P0 P1 : S0 → Prop} {u : S0} {g : Nat → Int64} {gd : Nat → UInt64} (hk : code = 0) (hv : g 0 = val) (hu : P0 u) : yPost code val P0 P1 0 (u, g, gd) := Or.inl ⟨hk, rfl, hv, hu⟩
theorem yPostD_err {code val} {P0 P1 : S0 → Prop} {u : S0} {g : Nat → Int64} {gd : Nat → UInt64} {k : Int32} (hk : code = k) (h0 : ¬ k = 0) (hu : P1 u) : yPostD code val P0 P1 k (u, g, gd) := Or.inr ⟨fun h => h0 (hk.symm.trans h), hk.symm, hu⟩
theorem yPostD_ok {code val} {P0 P1 : S0 → Prop} {u : S0} {g : Nat → Int64} {gd : Nat → UInt64} (hk : code = 0) (hv : gd 0 = val) (hu : P0 u) : yPostD code val P0 P1 0 (u, g, gd) := Or.inl ⟨hk, rfl, hv, hu⟩
/-- a truth value as a long -/
def yb (x : Int32) : Int64 := if x = 0 then 0 else 1
theorem yb_t {x : Int32} (h : x = 0) : (0 : Int64) = yb x := (if_pos h).symm
theorem yb_f {x : Int32} (h : ¬ x = 0) : (1 : Int64) = yb x := (if_neg h).symm
theorem y_met_i {l : Launch} {D : va_G} {cl : List vw_C} {tys : List (ClassId × FieldType)} {y : MethodName} {wsy wsy' : List Cond} {rm : Room} {S : Type} {post : Int32 → S → Prop} {wo : S → va_W} {mc ms : Nat} {cc : ByteArray} {maxL : Nat} {av : List Value} {wc : va_W} {lv : List (Nat × Value)} {hh : List (Nat × Nat × Nat × Nat)}
    (hy : plainName y.cls = true) (hw : wsy = Cond.codeWith y cc maxL (some .int) hh :: wsy') (ho : y.cls = RL) (hlen : (lg_sl av).length ≤ maxL) (hlv : lv_args 0 av = lv)
    (body : ∀ (p : Program) (e : Env) (s : State) (m : MethodId) (below : List Frame) (meth : Method) (c : Code) (args : Array Value) (Q : State → Prop) (A : Nat → Prop), zC p s m args c cc maxL wsy RL A s.heap D cl tys → xF A s → yNc s → c.exceptionTable.toList = tableOf hh →
      (∀ (cells slots pc : Nat) (lv : List (Nat × Value)) (v : Int32) (u : S), decode cc pc = .ok (.ireturn, 1) → cells ≤ mc → slots ≤ ms → post v u → zW p l e rm s m args below meth c Q maxL A s.heap D cl cells slots (wo u) pc lv [.int v]) →
      zW p l e rm s m args below meth c Q maxL A s.heap D cl 0 0 wc 0 lv []) :
    ∀ sz, Met l y wsy rm (va_Pc av (zyPre D cl tys sz wc)) (va_Qi post (fun u => zPost D cl tys (va_A wc sz) (wo u)) (va_A wc sz)) mc ms (va_A wc sz) := by
  intro sz
  refine va_MetW (cc := cc) (maxL := maxL) (ret := some .int) (hh := hh) hy hw ?_
  intro p e s m args below meth c s₁ B hml hv
  obtain ⟨rfl, ⟨⟨hsz, hP, hK, hD0⟩, hX⟩, hN⟩ := hv
  subst hsz
  have hts := atoms_spec (ws := wsy) B.pre
  have hex := vx_table (x := y) B (hts _ (by rw [hw]; exact List.mem_cons_self))
  rw [lg_entry_eq]
  have C : zC p s m av.toArray c cc maxL wsy RL (va_A wc s.heap.size) s.heap D cl tys := ⟨⟨B.exec, B.bytes, hml, ho ▸ findClass_of_methodNamed B.named, hts⟩, hK, fun q h => Or.inr h⟩
  exact body p e s m below meth c _ _ _ C hX hN hex (fun cells slots pc lv v u hdg h1 h2 hp => z_iret C B.returns B.notSynchronized hdg h1 h2 u rfl hp) s.heap [] _ hP hD0.self va_S.rf (hlv ▸ lv_entry av hlen)
/-- what a handler's row names, E is castable to -/
theorem y_cast {A : Nat → Prop} {s : State} {args : Array Value} {E : String} (hX : xF A s) (h : Cond.castable E E ∈ xB) : (Cond.castable E E).before args s = true := by
  have h9 : (Cond.castable E E).onTables = true := by
    have : xB.all (fun w => w.onTables) = true := by decide +kernel
    exact List.all_eq_true.mp this _ h
  exact va_tabs h9 rfl (hX.2.2.1 _ h)
