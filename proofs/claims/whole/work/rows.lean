section
-- ===== PART A: goes FIRST, ahead of the names: the tables' words, and 'selects' of the private methods out of them =====
/-- a private method of a class that the tables say can be made, by its rows of tables_1 -/
def lw_okq (q : MethodName × Nat) : Prop := (q.1.cls ≠ "java/lang/invoke/MethodHandle" ∧ q.1.cls ≠ "java/lang/invoke/VarHandle") ∧ Cond.instantiable q.1.cls q.2 ∈ tables_1 ∧ Cond.privateMethod q.1 ∈ tables_1 ∧ Cond.instanceMethod q.1 ∈ tables_1
theorem lw_p0 : lw_okq (⟨"IntervalSolver", "startSystem", "(I)V"⟩, 13) := ⟨⟨by decide +kernel, by decide +kernel⟩, List.mem_of_getElem? (i := 15) (by decide +kernel), List.mem_of_getElem? (i := 27) (by decide +kernel), List.mem_of_getElem? (i := 28) (by decide +kernel)⟩
theorem lw_p1 : lw_okq (⟨"IntervalSolver", "findMinors", "(I)V"⟩, 13) := ⟨⟨by decide +kernel, by decide +kernel⟩, List.mem_of_getElem? (i := 15) (by decide +kernel), List.mem_of_getElem? (i := 83) (by decide +kernel), List.mem_of_getElem? (i := 84) (by decide +kernel)⟩
theorem lw_p2 : lw_okq (⟨"IntervalSolver", "allColumns", "()I"⟩, 13) := ⟨⟨by decide +kernel, by decide +kernel⟩, List.mem_of_getElem? (i := 15) (by decide +kernel), List.mem_of_getElem? (i := 87) (by decide +kernel), List.mem_of_getElem? (i := 88) (by decide +kernel)⟩
theorem lw_p3 : lw_okq (⟨"IntervalSolver", "expanded", "(II)J"⟩, 13) := ⟨⟨by decide +kernel, by decide +kernel⟩, List.mem_of_getElem? (i := 15) (by decide +kernel), List.mem_of_getElem? (i := 97) (by decide +kernel), List.mem_of_getElem? (i := 98) (by decide +kernel)⟩
theorem lw_p4 : lw_okq (⟨"IntervalSolver", "invert", "()Z"⟩, 13) := ⟨⟨by decide +kernel, by decide +kernel⟩, List.mem_of_getElem? (i := 15) (by decide +kernel), List.mem_of_getElem? (i := 109) (by decide +kernel), List.mem_of_getElem? (i := 110) (by decide +kernel)⟩
theorem lw_p5 : lw_okq (⟨"IntervalSolver", "scaledVariation", "()J"⟩, 13) := ⟨⟨by decide +kernel, by decide +kernel⟩, List.mem_of_getElem? (i := 15) (by decide +kernel), List.mem_of_getElem? (i := 118) (by decide +kernel), List.mem_of_getElem? (i := 119) (by decide +kernel)⟩
theorem lw_p6 : lw_okq (⟨"IntervalSolver", "keepBox", "()V"⟩, 13) := ⟨⟨by decide +kernel, by decide +kernel⟩, List.mem_of_getElem? (i := 15) (by decide +kernel), List.mem_of_getElem? (i := 137) (by decide +kernel), List.mem_of_getElem? (i := 138) (by decide +kernel)⟩
theorem lw_p7 : lw_okq (⟨"IntervalSolver", "contractBy", "(I)I"⟩, 13) := ⟨⟨by decide +kernel, by decide +kernel⟩, List.mem_of_getElem? (i := 15) (by decide +kernel), List.mem_of_getElem? (i := 144) (by decide +kernel), List.mem_of_getElem? (i := 145) (by decide +kernel)⟩
theorem lw_p8 : lw_okq (⟨"IntervalSolver", "intersect", "(IJJ)I"⟩, 13) := ⟨⟨by decide +kernel, by decide +kernel⟩, List.mem_of_getElem? (i := 15) (by decide +kernel), List.mem_of_getElem? (i := 158) (by decide +kernel), List.mem_of_getElem? (i := 159) (by decide +kernel)⟩
theorem lw_p9 : lw_okq (⟨"IntervalSolver", "restoreBox", "()V"⟩, 13) := ⟨⟨by decide +kernel, by decide +kernel⟩, List.mem_of_getElem? (i := 15) (by decide +kernel), List.mem_of_getElem? (i := 165) (by decide +kernel), List.mem_of_getElem? (i := 166) (by decide +kernel)⟩
theorem lw_p10 : lw_okq (⟨"java/lang/Throwable", "fillInStackTrace", "(I)Ljava/lang/Throwable;"⟩, 6) := ⟨⟨by decide +kernel, by decide +kernel⟩, List.mem_of_getElem? (i := 225) (by decide +kernel), List.mem_of_getElem? (i := 223) (by decide +kernel), List.mem_of_getElem? (i := 224) (by decide +kernel)⟩
theorem lw_p11 : lw_okq (⟨"IntervalSolver", "isIndex", "(I)Z"⟩, 13) := ⟨⟨by decide +kernel, by decide +kernel⟩, List.mem_of_getElem? (i := 15) (by decide +kernel), List.mem_of_getElem? (i := 286) (by decide +kernel), List.mem_of_getElem? (i := 287) (by decide +kernel)⟩
theorem lw_p12 : lw_okq (⟨"IntervalSolver", "coefficientsFit", "(III)Z"⟩, 13) := ⟨⟨by decide +kernel, by decide +kernel⟩, List.mem_of_getElem? (i := 15) (by decide +kernel), List.mem_of_getElem? (i := 386) (by decide +kernel), List.mem_of_getElem? (i := 387) (by decide +kernel)⟩
theorem lw_p13 : lw_okq (⟨"IntervalSolver", "addCoefficients", "(III)I"⟩, 13) := ⟨⟨by decide +kernel, by decide +kernel⟩, List.mem_of_getElem? (i := 15) (by decide +kernel), List.mem_of_getElem? (i := 393) (by decide +kernel), List.mem_of_getElem? (i := 394) (by decide +kernel)⟩
theorem lw_p14 : lw_okq (⟨"IntervalSolver", "scaledHullLow", "(I)J"⟩, 13) := ⟨⟨by decide +kernel, by decide +kernel⟩, List.mem_of_getElem? (i := 15) (by decide +kernel), List.mem_of_getElem? (i := 406) (by decide +kernel), List.mem_of_getElem? (i := 407) (by decide +kernel)⟩
theorem lw_p15 : lw_okq (⟨"IntervalSolver", "scaledHullHigh", "(I)J"⟩, 13) := ⟨⟨by decide +kernel, by decide +kernel⟩, List.mem_of_getElem? (i := 15) (by decide +kernel), List.mem_of_getElem? (i := 430) (by decide +kernel), List.mem_of_getElem? (i := 431) (by decide +kernel)⟩
def lw_privs_1 : List (MethodName × Nat) := [(⟨"IntervalSolver", "startSystem", "(I)V"⟩, 13), (⟨"IntervalSolver", "findMinors", "(I)V"⟩, 13), (⟨"IntervalSolver", "allColumns", "()I"⟩, 13), (⟨"IntervalSolver", "expanded", "(II)J"⟩, 13), (⟨"IntervalSolver", "invert", "()Z"⟩, 13), (⟨"IntervalSolver", "scaledVariation", "()J"⟩, 13), (⟨"IntervalSolver", "keepBox", "()V"⟩, 13), (⟨"IntervalSolver", "contractBy", "(I)I"⟩, 13), (⟨"IntervalSolver", "intersect", "(IJJ)I"⟩, 13), (⟨"IntervalSolver", "restoreBox", "()V"⟩, 13), (⟨"java/lang/Throwable", "fillInStackTrace", "(I)Ljava/lang/Throwable;"⟩, 6), (⟨"IntervalSolver", "isIndex", "(I)Z"⟩, 13), (⟨"IntervalSolver", "coefficientsFit", "(III)Z"⟩, 13), (⟨"IntervalSolver", "addCoefficients", "(III)I"⟩, 13), (⟨"IntervalSolver", "scaledHullLow", "(I)J"⟩, 13), (⟨"IntervalSolver", "scaledHullHigh", "(I)J"⟩, 13)]
theorem lw_r1 : ∀ q ∈ lw_privs_1, lw_okq q := List.forall_mem_cons.mpr ⟨lw_p0, List.forall_mem_cons.mpr ⟨lw_p1, List.forall_mem_cons.mpr ⟨lw_p2, List.forall_mem_cons.mpr ⟨lw_p3, List.forall_mem_cons.mpr ⟨lw_p4, List.forall_mem_cons.mpr ⟨lw_p5, List.forall_mem_cons.mpr ⟨lw_p6, List.forall_mem_cons.mpr ⟨lw_p7, List.forall_mem_cons.mpr ⟨lw_p8, List.forall_mem_cons.mpr ⟨lw_p9, List.forall_mem_cons.mpr ⟨lw_p10, List.forall_mem_cons.mpr ⟨lw_p11, List.forall_mem_cons.mpr ⟨lw_p12, List.forall_mem_cons.mpr ⟨lw_p13, List.forall_mem_cons.mpr ⟨lw_p14, List.forall_mem_cons.mpr ⟨lw_p15, fun _ h => absurd h List.not_mem_nil⟩⟩⟩⟩⟩⟩⟩⟩⟩⟩⟩⟩⟩⟩⟩⟩
theorem lw_p16 : lw_okq (⟨"IntervalSolver", "hullLowInUnits", "(I)J"⟩, 13) := ⟨⟨by decide +kernel, by decide +kernel⟩, List.mem_of_getElem? (i := 15) (by decide +kernel), List.mem_of_getElem? (i := 514) (by decide +kernel), List.mem_of_getElem? (i := 515) (by decide +kernel)⟩
theorem lw_p17 : lw_okq (⟨"IntervalSolver", "hullHighInUnits", "(I)J"⟩, 13) := ⟨⟨by decide +kernel, by decide +kernel⟩, List.mem_of_getElem? (i := 15) (by decide +kernel), List.mem_of_getElem? (i := 518) (by decide +kernel), List.mem_of_getElem? (i := 519) (by decide +kernel)⟩
theorem lw_p18 : lw_okq (⟨"IntervalSolver", "doubledMiddle", "(I)J"⟩, 13) := ⟨⟨by decide +kernel, by decide +kernel⟩, List.mem_of_getElem? (i := 15) (by decide +kernel), List.mem_of_getElem? (i := 536) (by decide +kernel), List.mem_of_getElem? (i := 537) (by decide +kernel)⟩
theorem lw_p19 : lw_okq (⟨"IntervalSolverModel", "clear", "()V"⟩, 13) := ⟨⟨by decide +kernel, by decide +kernel⟩, List.mem_of_getElem? (i := 548) (by decide +kernel), List.mem_of_getElem? (i := 554) (by decide +kernel), List.mem_of_getElem? (i := 555) (by decide +kernel)⟩
theorem lw_p20 : lw_okq (⟨"IntervalSolverModel", "fail", "(I)I"⟩, 13) := ⟨⟨by decide +kernel, by decide +kernel⟩, List.mem_of_getElem? (i := 548) (by decide +kernel), List.mem_of_getElem? (i := 611) (by decide +kernel), List.mem_of_getElem? (i := 612) (by decide +kernel)⟩
theorem lw_p21 : lw_okq (⟨"IntervalSolverModel", "isIndex", "(I)Z"⟩, 13) := ⟨⟨by decide +kernel, by decide +kernel⟩, List.mem_of_getElem? (i := 548) (by decide +kernel), List.mem_of_getElem? (i := 623) (by decide +kernel), List.mem_of_getElem? (i := 624) (by decide +kernel)⟩
theorem lw_p22 : lw_okq (⟨"IntervalSolverModel", "determinantWithout", "(II)J"⟩, 13) := ⟨⟨by decide +kernel, by decide +kernel⟩, List.mem_of_getElem? (i := 548) (by decide +kernel), List.mem_of_getElem? (i := 669) (by decide +kernel), List.mem_of_getElem? (i := 670) (by decide +kernel)⟩
theorem lw_p23 : lw_okq (⟨"IntervalSolverModel", "asks", "(IZ)Z"⟩, 13) := ⟨⟨by decide +kernel, by decide +kernel⟩, List.mem_of_getElem? (i := 548) (by decide +kernel), List.mem_of_getElem? (i := 680) (by decide +kernel), List.mem_of_getElem? (i := 681) (by decide +kernel)⟩
theorem lw_p24 : lw_okq (⟨"IntervalSolverModel", "isSingular", "()Z"⟩, 13) := ⟨⟨by decide +kernel, by decide +kernel⟩, List.mem_of_getElem? (i := 548) (by decide +kernel), List.mem_of_getElem? (i := 684) (by decide +kernel), List.mem_of_getElem? (i := 685) (by decide +kernel)⟩
theorem lw_p25 : lw_okq (⟨"IntervalSolverModel", "findEnd", "(IZ)V"⟩, 13) := ⟨⟨by decide +kernel, by decide +kernel⟩, List.mem_of_getElem? (i := 548) (by decide +kernel), List.mem_of_getElem? (i := 688) (by decide +kernel), List.mem_of_getElem? (i := 689) (by decide +kernel)⟩
theorem lw_p26 : lw_okq (⟨"IntervalSolverModel", "cofactor", "(II)J"⟩, 13) := ⟨⟨by decide +kernel, by decide +kernel⟩, List.mem_of_getElem? (i := 548) (by decide +kernel), List.mem_of_getElem? (i := 692) (by decide +kernel), List.mem_of_getElem? (i := 693) (by decide +kernel)⟩
theorem lw_p27 : lw_okq (⟨"IntervalSolverModel", "reduce", "(JJ)V"⟩, 13) := ⟨⟨by decide +kernel, by decide +kernel⟩, List.mem_of_getElem? (i := 548) (by decide +kernel), List.mem_of_getElem? (i := 696) (by decide +kernel), List.mem_of_getElem? (i := 697) (by decide +kernel)⟩
theorem lw_p28 : lw_okq (⟨"IntervalSolverModel", "asksInverse", "(II)Z"⟩, 13) := ⟨⟨by decide +kernel, by decide +kernel⟩, List.mem_of_getElem? (i := 548) (by decide +kernel), List.mem_of_getElem? (i := 717) (by decide +kernel), List.mem_of_getElem? (i := 718) (by decide +kernel)⟩
theorem lw_p29 : lw_okq (⟨"IntervalSolverModel", "findVariation", "()V"⟩, 13) := ⟨⟨by decide +kernel, by decide +kernel⟩, List.mem_of_getElem? (i := 548) (by decide +kernel), List.mem_of_getElem? (i := 738) (by decide +kernel), List.mem_of_getElem? (i := 739) (by decide +kernel)⟩
theorem lw_p30 : lw_okq (⟨"IntervalSolverModel", "sweepOnce", "()I"⟩, 13) := ⟨⟨by decide +kernel, by decide +kernel⟩, List.mem_of_getElem? (i := 548) (by decide +kernel), List.mem_of_getElem? (i := 771) (by decide +kernel), List.mem_of_getElem? (i := 772) (by decide +kernel)⟩
theorem lw_p31 : lw_okq (⟨"IntervalSolverModel", "keep", "()V"⟩, 13) := ⟨⟨by decide +kernel, by decide +kernel⟩, List.mem_of_getElem? (i := 548) (by decide +kernel), List.mem_of_getElem? (i := 775) (by decide +kernel), List.mem_of_getElem? (i := 776) (by decide +kernel)⟩
def lw_privs_2 : List (MethodName × Nat) := [(⟨"IntervalSolver", "hullLowInUnits", "(I)J"⟩, 13), (⟨"IntervalSolver", "hullHighInUnits", "(I)J"⟩, 13), (⟨"IntervalSolver", "doubledMiddle", "(I)J"⟩, 13), (⟨"IntervalSolverModel", "clear", "()V"⟩, 13), (⟨"IntervalSolverModel", "fail", "(I)I"⟩, 13), (⟨"IntervalSolverModel", "isIndex", "(I)Z"⟩, 13), (⟨"IntervalSolverModel", "determinantWithout", "(II)J"⟩, 13), (⟨"IntervalSolverModel", "asks", "(IZ)Z"⟩, 13), (⟨"IntervalSolverModel", "isSingular", "()Z"⟩, 13), (⟨"IntervalSolverModel", "findEnd", "(IZ)V"⟩, 13), (⟨"IntervalSolverModel", "cofactor", "(II)J"⟩, 13), (⟨"IntervalSolverModel", "reduce", "(JJ)V"⟩, 13), (⟨"IntervalSolverModel", "asksInverse", "(II)Z"⟩, 13), (⟨"IntervalSolverModel", "findVariation", "()V"⟩, 13), (⟨"IntervalSolverModel", "sweepOnce", "()I"⟩, 13), (⟨"IntervalSolverModel", "keep", "()V"⟩, 13)]
theorem lw_r2 : ∀ q ∈ lw_privs_2, lw_okq q := List.forall_mem_cons.mpr ⟨lw_p16, List.forall_mem_cons.mpr ⟨lw_p17, List.forall_mem_cons.mpr ⟨lw_p18, List.forall_mem_cons.mpr ⟨lw_p19, List.forall_mem_cons.mpr ⟨lw_p20, List.forall_mem_cons.mpr ⟨lw_p21, List.forall_mem_cons.mpr ⟨lw_p22, List.forall_mem_cons.mpr ⟨lw_p23, List.forall_mem_cons.mpr ⟨lw_p24, List.forall_mem_cons.mpr ⟨lw_p25, List.forall_mem_cons.mpr ⟨lw_p26, List.forall_mem_cons.mpr ⟨lw_p27, List.forall_mem_cons.mpr ⟨lw_p28, List.forall_mem_cons.mpr ⟨lw_p29, List.forall_mem_cons.mpr ⟨lw_p30, List.forall_mem_cons.mpr ⟨lw_p31, fun _ h => absurd h List.not_mem_nil⟩⟩⟩⟩⟩⟩⟩⟩⟩⟩⟩⟩⟩⟩⟩⟩
theorem lw_p32 : lw_okq (⟨"IntervalSolverModel", "cutByRow", "(I)Z"⟩, 13) := ⟨⟨by decide +kernel, by decide +kernel⟩, List.mem_of_getElem? (i := 548) (by decide +kernel), List.mem_of_getElem? (i := 779) (by decide +kernel), List.mem_of_getElem? (i := 780) (by decide +kernel)⟩
theorem lw_p33 : lw_okq (⟨"IntervalSolverModel", "cut", "(IJJ)Z"⟩, 13) := ⟨⟨by decide +kernel, by decide +kernel⟩, List.mem_of_getElem? (i := 548) (by decide +kernel), List.mem_of_getElem? (i := 791) (by decide +kernel), List.mem_of_getElem? (i := 792) (by decide +kernel)⟩
theorem lw_p34 : lw_okq (⟨"IntervalSolverModel", "judge", "(Z)I"⟩, 13) := ⟨⟨by decide +kernel, by decide +kernel⟩, List.mem_of_getElem? (i := 548) (by decide +kernel), List.mem_of_getElem? (i := 795) (by decide +kernel), List.mem_of_getElem? (i := 796) (by decide +kernel)⟩
theorem lw_p35 : lw_okq (⟨"IntervalSolverModel", "middle", "(I)J"⟩, 13) := ⟨⟨by decide +kernel, by decide +kernel⟩, List.mem_of_getElem? (i := 548) (by decide +kernel), List.mem_of_getElem? (i := 815) (by decide +kernel), List.mem_of_getElem? (i := 816) (by decide +kernel)⟩
def lw_privs_3 : List (MethodName × Nat) := [(⟨"IntervalSolverModel", "cutByRow", "(I)Z"⟩, 13), (⟨"IntervalSolverModel", "cut", "(IJJ)Z"⟩, 13), (⟨"IntervalSolverModel", "judge", "(Z)I"⟩, 13), (⟨"IntervalSolverModel", "middle", "(I)J"⟩, 13)]
theorem lw_r3 : ∀ q ∈ lw_privs_3, lw_okq q := List.forall_mem_cons.mpr ⟨lw_p32, List.forall_mem_cons.mpr ⟨lw_p33, List.forall_mem_cons.mpr ⟨lw_p34, List.forall_mem_cons.mpr ⟨lw_p35, fun _ h => absurd h List.not_mem_nil⟩⟩⟩⟩
def lw_privs : List (MethodName × Nat) := lw_privs_1 ++ (lw_privs_2 ++ (lw_privs_3))
def lw_tbl : List Cond := k2_sels lw_privs ++ tables_1
theorem lw_privs_ok : ∀ q ∈ lw_privs, lw_okq q := by
  show ∀ q ∈ lw_privs_1 ++ (lw_privs_2 ++ (lw_privs_3)), lw_okq q
  exact List.forall_mem_append.mpr ⟨lw_r1, List.forall_mem_append.mpr ⟨lw_r2, lw_r3⟩⟩
/-- the streams that the claim lets the run draw from -/
abbrev lw_cs : List Choice := [Jvm.Choice.named "NaN.bits"]
theorem lw_bits : nanBits ∈ lw_cs := by first | decide | exact List.mem_cons_self | simp [lw_cs, nanBits]
end
section
def va_AOA (ty : FieldType) (U : State) : Prop := (Cond.arrayOver (.array ty)).before #[] U = true
theorem va_AOA.of {ty : FieldType} {A : Array Value} {U : State} (h : (Cond.arrayOver (.array ty)).before A U = true) : va_AOA ty U := h
theorem va_AOA.use {ty : FieldType} {A : Array Value} {U : State} (h : va_AOA ty U) : (Cond.arrayOver (.array ty)).before A U = true := h
/-! ===== BEGIN words of one list among another's, by their places ===== -/
theorem goodIn_r {big : List Cond} (ws : List Cond) (ps : List Nat) (hp : ws = ps.filterMap (fun i => big[i]?)) (h : ws.all goodWord = true) : GoodIn big ws := by
  intro w hw
  have h1 := List.all_eq_true.mp h w hw
  rw [hp] at hw
  obtain ⟨i, -, hi⟩ := List.mem_filterMap.mp hw
  have hm : w ∈ big := by first | exact List.mem_of_getElem? hi | exact List.getElem?_mem hi
  exact ⟨hm, good_of_word h1⟩
theorem goodIn_app {big a b : List Cond} (ha : GoodIn big a) (hb : GoodIn big b) : GoodIn big (a ++ b) := fun w h => (List.mem_append.mp h).elim (ha w) (hb w)
theorem goodIn_ca {big a b : List Cond} {c : Cond} (ha : GoodIn big (c :: a)) (hb : GoodIn big b) : GoodIn big (c :: (a ++ b)) := fun w h => (List.mem_cons.mp h).elim (fun e => ha w (List.mem_cons.mpr (Or.inl e))) (fun h => (List.mem_append.mp h).elim (fun h => ha w (List.mem_cons.mpr (Or.inr h))) (hb w))
theorem goodIn_sub {big ws : List Cond} (hm : ∀ w ∈ ws, w ∈ big) (h : ws.all goodWord = true) : GoodIn big ws := fun w hw => ⟨hm w hw, good_of_word (List.all_eq_true.mp h w hw)⟩
/-! ===== END ===== -/

/-! ===== BEGIN new T[n][m]: the outer array a place, the inner ones among the pooled ===== -/
/-- f, but v at every address of l -/
def vr_up {α : Type} (f : Nat → α) (l : List Nat) (v : α) : Nat → α := fun a => if a ∈ l then v else f a
theorem vr_up_in {α : Type} {f : Nat → α} {l : List Nat} {v : α} {a : Nat} (h : a ∈ l) : vr_up f l v a = v := if_pos h
theorem vr_up_ne {α : Type} {f : Nat → α} {l : List Nat} {v : α} {a : Nat} (h : a ∉ l) : vr_up f l v a = f a := if_neg h
theorem vr_rows {L l : List Nat} {f : Nat → va_E} {e : va_E} (h : ∀ a, a ∈ l → a ∉ L) : va_pl L f ++ l.map (fun a => (a, e)) = va_pl (L ++ l) (vr_up f l e) := by
  unfold va_pl
  rw [List.map_append]
  congr 1
  · apply List.map_congr_left
    intro a ha
    rw [vr_up_ne (fun q => h a q ha)]
  · apply List.map_congr_left
    intro a ha
    rw [vr_up_in ha]
theorem vr_lay {X rows : va_W} {x : Nat × va_E} {pl : va_W} {D : va_G} {cl : List vw_C} {H : Heap} (hP : va_P D cl (((X ++ pl) ++ [x]) ++ rows) H) : va_P D cl ((X ++ [x]) ++ (pl ++ rows)) H := by
  rw [List.append_assoc (X ++ pl)] at hP
  have h := va_P.swap hP
  rw [← List.append_assoc X] at h
  have h2 := va_P.swap h
  rw [List.append_assoc (X ++ [x])] at h2
  exact h2
theorem vr_layD {X rows : va_W} {x : Nat × va_E} {pl : va_W} {A : Nat → Prop} (hD : va_D A (((X ++ pl) ++ [x]) ++ rows)) : va_D A ((X ++ [x]) ++ (pl ++ rows)) := by
  rw [List.append_assoc (X ++ pl)] at hD
  have h := va_D.swap hD
  rw [← List.append_assoc X] at h
  have h2 := va_D.swap h
  rw [List.append_assoc (X ++ [x])] at h2
  exact h2
theorem vr_outer (c : ClassId) (N h0 : Nat) : ∀ i : Nat, Jvm.Free.Multi.outerC c N h0 i = arrV c N (fun j => va_rf (if j < i then some (h0 + 1 + j) else none))
  | 0 => by
    show ({ cls := c, slots := Array.replicate N .null, vm := .none } : Cell) = _
    rw [arrV_new]
    refine congrArg (arrV c N) (funext fun j => ?_)
    simp [va_rf]
  | i + 1 => by
    show (Jvm.Free.Multi.outerC c N h0 i).setSlot i (.ref (h0 + 1 + i)) = _
    rw [vr_outer c N h0 i, arrV_store]
    refine congrArg (arrV c N) (funext fun j => ?_)
    by_cases e : j = i
    · subst e
      simp [updV, va_rf]
    · by_cases h : j < i
      · simp [updV, e, h, Nat.lt_succ_of_lt h]
      · simp [updV, e, h, show ¬ j < i + 1 by omega]
section VGM
variable {p : Program} {l : Launch} {e : Env} {R : Room} {s : State} {m : MethodId} {args : Array Value} {below : List Frame} {meth : Method} {c : Code} {H : Heap} {locs : List Loc} {cells slots : Nat} {Q : State → Prop}
variable {cc : ByteArray} {pc : Nat} {ls : Array Slot} {rest : List Value} {D : va_G} {cl : List vw_C} {A : Nat → Prop} {a : Nat} {tys : List (ClassId × FieldType)} {ws : va_W} {H0 : Heap}
theorem va_mna {X : va_W} {L : List Nat} {f : Nat → va_E} {cc : ByteArray} (hexec : p.tables.exec = Jvm.exec) (hb : c.code = cc) {own : String} {index : Nat} {ty : FieldType} {cy : ClassId} (hown : s.vm.findClass own = some m.cls) (hclink : (Cond.classLink own index ("[" ++ (FieldType.array ty).toString)).before args s = true) (hover : va_AOA ty s) (harr : (Cond.arrayClass ty).before args s = true) (hcy : s.vm.findClass (FieldType.array ty).toString = some cy)
    (hK : va_K D cl tys s) (hP : va_P D cl (X ++ va_pl L f) H) (hD : va_D A (X ++ va_pl L f)) (hS : va_S A H0 H locs) (hA : ∀ q, H0.size ≤ q → A q) {n k : Int32} {N' K' : Nat} {z : vp_A} (hn : ¬ n < 0) (hk : ¬ k < 0) (hN : n.toNatClampNeg = N') (hM : k.toNatClampNeg = K')
    (hb1 : N' * 4 ≤ 536870912) (hb2 : K' * componentBytes ty ≤ 536870912) (hb3 : K' ≤ 536870912) (hdf : fits ty (defaultValue ty) = true) (hdd : (defaultValue ty).isDefault = true) (hcells : cells + (1 + N') ≤ R.cells) (hslots : slots + (N' + N' * K') ≤ R.slots) (hz : ∀ c : ClassId, Jvm.Free.Multi.innerC c K' (defaultValue ty) = vp_cell c z) (hdg : decode cc pc = .ok (.multianewarray index 2, 4))
    (kk : ∀ (q : Nat) (r : Nat → Nat) (cA : ClassId) (H1 : Heap), (∀ i j : Nat, i < N' → j < N' → r i = r j → i = j) → (∀ i : Nat, i < N' → r i ∉ L) → va_K D cl (tys ++ [(cA, .array ty)]) s →
      va_P D cl ((X ++ [(q, .inl (cA, N', .inr (.inr (.inr (.inr (fun i => if i < N' then some (r i) else none))))))]) ++ va_pl (L ++ (List.range N').map r) (vr_up f ((List.range N').map r) (.inl (cy, z)))) H1 → va_D A ((X ++ [(q, .inl (cA, N', .inr (.inr (.inr (.inr (fun i => if i < N' then some (r i) else none))))))]) ++ va_pl (L ++ (List.range N').map r) (vr_up f ((List.range N').map r) (.inl (cy, z)))) → va_S A H0 H1 locs →
      W p l e R s m args below meth c H1 locs (cells + 1 + N') (slots + N' + N' * K') Q (F0 m (pc + 4) ls (.ref q :: rest))) : W p l e R s m args below meth c H locs cells slots Q (F0 m pc ls (.int k :: .int n :: rest)) := by
  subst hN
  subst hM
  intro T hT Xs
  obtain ⟨vm₁, cA, comp, -, fA, fC, hO, -, X', step⟩ := Xs.multianewarray2F hexec hown hclink (va_AOA.use hover) harr (g := F0 m pc ls (.int k :: .int n :: rest)) rfl (by rw [hb]; exact hdg) rfl hn hk hb1 hb2 hb3 hdf hdd hcells hslots
  have ec : some cy = some comp := hcy.symm.trans fC
  cases ec
  generalize hF : Jvm.Free.Multi.fill (T.setVm vm₁) cA cy n.toNatClampNeg k.toNatClampNeg (defaultValue ty) n.toNatClampNeg = F at X' step
  have hTh : (T.setVm vm₁).heap = H := hT
  obtain ⟨f1, f2, -, -⟩ := Jvm.Free.Multi.fill_facts (T.setVm vm₁) cA cy n.toNatClampNeg k.toNatClampNeg (defaultValue ty) n.toNatClampNeg
  rw [hF, hTh] at f1 f2
  have hold : ∀ x : Nat, x < H.size → F.heap[x]? = H[x]? := fun x hx => by
    have := Jvm.Free.Multi.fill_old (T.setVm vm₁) cA cy n.toNatClampNeg k.toNatClampNeg (defaultValue ty) (a := x) (by rw [hTh]; exact hx) n.toNatClampNeg
    rw [hF, hTh] at this
    exact this
  have hrow : ∀ j : Nat, j < n.toNatClampNeg → F.heap[H.size + 1 + j]? = some (vp_cell cy z) := fun j hj => by
    have := Jvm.Free.Multi.fill_inner (T.setVm vm₁) cA cy n.toNatClampNeg k.toNatClampNeg (defaultValue ty) n.toNatClampNeg j hj
    rw [hF, hTh, hz] at this
    exact this
  have hout : Jvm.Free.Multi.outerC cA n.toNatClampNeg H.size n.toNatClampNeg = vp_cell cA (n.toNatClampNeg, .inr (.inr (.inr (.inr (fun i => if i < n.toNatClampNeg then some (H.size + 1 + i) else none))))) := by
    rw [vp_cell_q]
    exact vr_outer cA n.toNatClampNeg H.size n.toNatClampNeg
  rw [hout] at f2
  have hlt : ∀ a, a ∈ L → a < H.size := fun a ha => by
    obtain ⟨k9, hk9⟩ := va_pl_get (X := X) (f := f) ha
    exact (hP k9 _ hk9).lt
  have hnl : ∀ i : Nat, i < n.toNatClampNeg → H.size + 1 + i ∉ L := fun i _ h => by
    have := hlt _ h
    omega
  have hnm : ∀ a, a ∈ (List.range n.toNatClampNeg).map (fun i => H.size + 1 + i) → a ∉ L := fun a ha h => by
    obtain ⟨i, -, rfl⟩ := List.mem_map.mp ha
    have := hlt _ h
    omega
  have hP0 : va_P D cl (X ++ va_pl L f) F.heap := hP.kept (fun k9 x hx => hold x.1 ((hP k9 x hx).lt))
  have hP1 : va_P D cl ((X ++ va_pl L f) ++ [(H.size, .inl (cA, n.toNatClampNeg, .inr (.inr (.inr (.inr (fun i => if i < n.toNatClampNeg then some (H.size + 1 + i) else none))))))]) F.heap := hP0.app (fun k9 x hx => by
    have h0 : k9 < 1 := (List.getElem?_eq_some_iff.mp hx).1
    rw [show k9 = 0 by omega] at hx
    cases hx
    exact f2)
  have hP2 : va_P D cl (((X ++ va_pl L f) ++ [(H.size, .inl (cA, n.toNatClampNeg, .inr (.inr (.inr (.inr (fun i => if i < n.toNatClampNeg then some (H.size + 1 + i) else none))))))]) ++ ((List.range n.toNatClampNeg).map (fun i => H.size + 1 + i)).map (fun a => (a, .inl (cy, z)))) F.heap := hP1.app (fun k9 x hx => by
    obtain ⟨a, ha, rfl⟩ := List.mem_map.mp (List.mem_of_getElem? hx)
    obtain ⟨i, hi, rfl⟩ := List.mem_map.mp ha
    exact hrow i (List.mem_range.mp hi))
  have hD2 : va_D A (((X ++ va_pl L f) ++ [(H.size, .inl (cA, n.toNatClampNeg, .inr (.inr (.inr (.inr (fun i => if i < n.toNatClampNeg then some (H.size + 1 + i) else none))))))]) ++ ((List.range n.toNatClampNeg).map (fun i => H.size + 1 + i)).map (fun a => (a, .inl (cy, z)))) := by
    have hD1 := hD.push (e := .inl (cA, n.toNatClampNeg, .inr (.inr (.inr (.inr (fun i => if i < n.toNatClampNeg then some (H.size + 1 + i) else none)))))) hP rfl (hA _ hS.1)
    generalize hW1 : (X ++ va_pl L f) ++ [(H.size, .inl (cA, n.toNatClampNeg, .inr (.inr (.inr (.inr (fun i => if i < n.toNatClampNeg then some (H.size + 1 + i) else none))))))] = W1 at hD1 hP1 ⊢
    have hle : ∀ (k9 : Nat) (x : Nat × va_E), W1[k9]? = some x → x.1 ≤ H.size := fun k9 x hx => by
      rw [← hW1] at hx
      by_cases hl : k9 < (X ++ va_pl L f).length
      · rw [List.getElem?_append_left hl] at hx
        exact Nat.le_of_lt ((hP k9 x hx).lt)
      · rw [List.getElem?_append_right (by omega)] at hx
        have h0 : k9 - (X ++ va_pl L f).length < 1 := (List.getElem?_eq_some_iff.mp hx).1
        rw [show k9 - (X ++ va_pl L f).length = 0 by omega] at hx
        cases hx
        exact Nat.le_refl _
    have hr : ∀ (k9 : Nat) (x : Nat × va_E), (((List.range n.toNatClampNeg).map (fun i => H.size + 1 + i)).map (fun a => ((a, .inl (cy, z)) : Nat × va_E)))[k9]? = some x → x.1 = H.size + 1 + k9 := fun k9 x hx => by
      rw [List.getElem?_map, List.getElem?_map] at hx
      by_cases h9 : k9 < n.toNatClampNeg
      · rw [List.getElem?_range h9] at hx
        cases hx
        rfl
      · have hn0 : (List.range n.toNatClampNeg)[k9]? = none := List.getElem?_eq_none (by rw [List.length_range]; omega)
        rw [hn0] at hx
        cases hx
    refine ⟨fun i j x y hi hj hxy => ?_, fun k9 x hx => ?_⟩
    · by_cases h1 : i < W1.length <;> by_cases h2 : j < W1.length
      · rw [List.getElem?_append_left h1] at hi
        rw [List.getElem?_append_left h2] at hj
        exact hD1.1 i j x y hi hj hxy
      · rw [List.getElem?_append_left h1] at hi
        rw [List.getElem?_append_right (by omega)] at hj
        have := hle _ _ hi
        have := hr _ _ hj
        omega
      · rw [List.getElem?_append_right (by omega)] at hi
        rw [List.getElem?_append_left h2] at hj
        have := hle _ _ hj
        have := hr _ _ hi
        omega
      · rw [List.getElem?_append_right (by omega)] at hi hj
        have := hr _ _ hi
        have := hr _ _ hj
        omega
    · by_cases h1 : k9 < W1.length
      · rw [List.getElem?_append_left h1] at hx
        exact hD1.2 k9 x hx
      · rw [List.getElem?_append_right (by omega)] at hx
        have := hr _ _ hx
        exact hA _ (by have := hS.1; omega)
  have hAr : ArrOfT s cA (.array ty) := fun N9 z9 => by
    obtain ⟨-, k9, hk9, cm9, hkk9⟩ := (hO 0 0 0).1
    exact ⟨(fun q hq => by cases hq), k9, hk9, cm9, hkk9⟩
  have hK2 : va_K D cl (tys ++ [(cA, .array ty)]) s := ⟨hK.1, fun k9 x hx => by
    by_cases hl : k9 < tys.length
    · rw [List.getElem?_append_left hl] at hx
      exact hK.2 k9 x hx
    · rw [List.getElem?_append_right (by omega)] at hx
      have h0 : k9 - tys.length < 1 := (List.getElem?_eq_some_iff.mp hx).1
      rw [show k9 - tys.length = 0 by omega] at hx
      cases hx
      exact ⟨hAr, fA⟩⟩
  obtain ⟨t, a1, b1⟩ := kk H.size (fun i => H.size + 1 + i) cA F.heap (fun i j _ _ h => by have h9 : H.size + 1 + i = H.size + 1 + j := h; omega) hnl hK2 (by rw [← vr_rows hnm]; exact vr_lay hP2) (by rw [← vr_rows hnm]; exact vr_layD hD2) ⟨by rw [f1]; have := hS.1; omega, fun x h1 h2 => (hold x (Nat.lt_of_lt_of_le h1 hS.1)).trans (hS.2.1 x h1 h2), hS.2.2⟩ F rfl X'
  refine ⟨t, step t ?_, b1⟩
  have e : T.heap.size = H.size := by rw [hT]
  rw [e]
  exact a1
end VGM
/-! ===== END ===== -/

/-! ===== BEGIN exceptions that leave a method, and their catching by the caller (launches without stack traces) ===== -/
section VXA
/-! The laws vx_back, vx_callV, vx_callS, vx_callSW, vx_throw0, vx_throwS follow proofs of the library, with one case more: JvmDerived/Free/Laws.lean (Back.of_free), Shelf42/LK1.lean (callV, callS), Shelf/KitTraced.lean (throwNew0V, throwNewS). -/
/-- where a method has thrown q: the class by its name, the cell, what was written, the world -/
def vx_T (XC : String → State → State → Prop) (st : State) (q : Addr) (t : State) (mc ms : Nat) (free : Addr → Prop) : Prop :=
  ∃ (E : String) (ce : Cell) (L : List Loc), XC E st t ∧ t.heap[q]? = some ce ∧ ce.vm = .none ∧ st.vm.findClass E = some ce.cls ∧ st.WarmedH t.vm ∧ st.sameButNew ({ t with vm := st.vm } : State) L mc ms ∧ ∀ z ∈ L, free z.base
def vx_Q (Qc : Array Value → State → Outcome → State → Prop) (XC : String → State → State → Prop) (mc ms : Nat) (free : Addr → Prop) : Array Value → State → Outcome → State → Prop := fun a st o t =>
  (Qc a st o t ∧ ∃ L, FrameEnd st o t L mc ms ∧ ∀ q ∈ L, free q.base) ∨ ∃ q, o = .threw q ∧ vx_T XC st q t mc ms free
/-- a callee that returns or throws -/
def vx_Met (l : Launch) (y : MethodName) (ws : List Cond) (rm : Room) (Pc : Array Value → State → Prop) (Qc : Array Value → State → Outcome → State → Prop) (XC : String → State → State → Prop) (mc ms : Nat) (free : Addr → Prop) : Prop :=
  MetFree l y (headSpec ws rm) Pc (fun _ _ _ _ _ => True) (vx_Q Qc XC mc ms free)
def vx_Post (XC : String → State → State → Prop) (mc ms : Nat) (free : Addr → Prop) : Pt → Array Value → Addr → Pt → Prop := fun A a q B =>
  ∃ (g : JFrame) (mk : MethodId) (t : State) (L : List Loc) (E : String) (ce : Cell), B.U.heap = t.heap ∧ B.U.vm = t.vm ∧ XC E (A.U.calling g mk a) t ∧ t.heap[q]? = some ce ∧ ce.vm = .none ∧ A.U.vm.findClass E = some ce.cls ∧ B.locs = A.locs ++ L ∧ (∀ z ∈ L, free z.base) ∧ B.cells = A.cells + mc ∧ B.slots = A.slots + ms
def vx_Back (l : Launch) (R : Room) (p : Program) (e : Env) (below : List Frame) (s : State) (sargs : Array Value) (y : MethodName) (len W9 : Nat)
    (Pre : Pt → Array Value → Prop) (Post : Pt → Array Value → Option Value → Pt → Prop) (PostX : Pt → Array Value → Addr → Pt → Prop) : Prop :=
  ∀ (m : MethodId) (meth : Method) (c : Code) (A : Pt) (g : JFrame) (ig : Instr) (mk : MethodId) (a : Array Value),
    Stand p l e R s m sargs below meth c A.U A.locs A.cells A.slots → g.method = m → g.locals.size = c.maxLocals → decode c.code g.pc = .ok (ig, len) →
    2 * g.monitorRoom + (g.stack.map fun v => v.category).sum ≤ W9 → A.U.methodNamed? y = some mk → Pre A a →
    (∃ (v : Option Value) (B : Pt), Stand p l e R s m sargs below meth c B.U B.locs B.cells B.slots ∧ Post A a v B ∧
      Steps p.tables e below (doInvoke e (A.U.setTop g) [] mk a).1 (B.U.setTop { g with pc := g.pc + len, stack := v.toList ++ g.stack })) ∨
    (∃ (q : Addr) (B : Pt), Stand p l e R s m sargs below meth c B.U B.locs B.cells B.slots ∧ PostX A a q B ∧
      Steps p.tables e below (doInvoke e (A.U.setTop g) [] mk a).1 ((B.U.setTop g).pushFrame (.throwing q)))
section Payer
variable {l : Launch} {R : Room} {p : Program} {e : Env} {below : List Frame} {s : State} {sargs : Array Value} {y : MethodName} {len W9 : Nat}
theorem vx_back {ws : List Cond} {rm : Room} {Pc : Array Value → State → Prop} {Qc : Array Value → State → Outcome → State → Prop} {XC : String → State → State → Prop} {mc ms : Nat} {free : Addr → Prop} {bytes : ByteArray} {maxL : Nat} {ret : Option FieldType}
    (hM : vx_Met l y ws rm Pc Qc XC mc ms free) (hblind : FrameBlind Pc) (hrc : rm.cells = mc) (hrs : rm.slots = ms)
    (hframes : rm.frames + 1 ≤ R.frames) (hlocals : W9 + (maxL + 11) + rm.locals ≤ R.locals)
    (hws : ∀ w ∈ ws, ∀ a' U, s.WarmedH U.vm → w.before a' U = true) (hcode : Cond.code y bytes maxL ret ∈ ws) (hinit : ∀ a' U, s.WarmedH U.vm → (Cond.initialized y.cls).before a' U = true) :
    vx_Back l R p e below s sargs y len W9 (PreOf R mc ms Pc) (PostOf Qc mc ms free) (vx_Post XC mc ms free) := by
  intro m meth c A g ig mk a X hg hsize hdg hW hn hp
  have h1 : (headSpec ws rm).pre.before a A.U = true := atoms_intro fun w hw => hws w hw _ _ X.warmed
  have h2 : (Cond.code y bytes maxL ret).before a A.U = true := hws _ hcode _ _ X.warmed
  have h3 : (Cond.initialized y.cls).before a A.U = true := hinit _ _ X.warmed
  have h4 : A.cells + (headSpec ws rm).room.cells ≤ R.cells := by rw [show (headSpec ws rm).room.cells = mc from hrc]; exact hp.1
  have h5 : A.slots + (headSpec ws rm).room.slots ≤ R.slots := by rw [show (headSpec ws rm).room.slots = ms from hrs]; exact hp.2.1
  have hPc : Pc a (A.U.calling g mk a) := hblind _ _ _ _ hp.2.2
  obtain ⟨U, Ls, c0, s0⟩ := A
  dsimp only [Pt.U, Pt.locs, Pt.cells, Pt.slots] at h1 h2 h3 h4 h5 X hn hPc ⊢
  obtain ⟨methY, cY, hmY, hcY, -, hlY, -, -, -, -⟩ := Cond.code_spec hn h2
  obtain ⟨kY, hkY, -⟩ := className_of_methodNamed hn
  have hinitY : kY.init = .initialized := Cond.initialized_spec (findClass_of_methodNamed hn) hkY h3
  have h : At U g.method c below := by rw [hg]; exact X.here
  have hlocals9 : W9 + (maxL + 11) + (headSpec ws rm).room.locals ≤ R.locals := hlocals
  have happ : (headSpec ws rm).appliesLoose y e.platform (U.calling g mk a) = true :=
    Spec.appliesLoose_calling (g := g) h hdg hn hkY hinitY
      (X.room_calling (g := g) (R' := (headSpec ws rm).room) hsize hmY hcY hframes (by rw [hlY]; omega) h4 h5) h1
  obtain ⟨mid, hmid⟩ := h.above
  have hfr : (U.setTop g).frames = (.java g :: mid) ++ below := by rw [State.frames_setTop' g h.top, hmid]; rfl
  obtain ⟨o, s₂, hsteps, -, hend, hq⟩ := Steps.callFree hM p X.admits X.cas X.clock (acts := []) hfr happ hPc trivial
  have hq' : vx_Q Qc XC mc ms free a (U.calling g mk a) o s₂ := hq
  rw [State.frames_setTop' g h.top] at hend
  obtain ⟨g₀, hg0⟩ := Option.isSome_iff_exists.mp h.top
  obtain ⟨r, hr⟩ := State.topJava?_eq_some.mp hg0
  have hr' : (({ U with heap := s₂.heap, slotsUsed := s₂.slotsUsed } : State).setVm s₂.vm).frames = .java g₀ :: r := hr
  rcases hq' with ⟨hqc, L, hfe, hL⟩ | ⟨q, rfl, E, ce, L, hx, hce, hcv, hcl, hW₂, hsm, hL⟩
  · obtain ⟨⟨v, rfl⟩, hW₂, e2, q2, q3, q4, q5, q6⟩ := id hfe
    have e3 : s₂ = ({ (U.calling g mk a).setFrames s₂.frames with heap := s₂.heap, slotsUsed := s₂.slotsUsed } : State).setVm s₂.vm := by
      have : s₂ = ({ s₂ with vm := (U.calling g mk a).vm } : State).setVm s₂.vm := rfl
      rw [e2] at this
      exact this
    obtain ⟨c₂, i₂, len₂, hc₂, hd₂, hf₂⟩ := hend
    have hW' : U.WarmedH s₂.vm := hW₂
    have hcc : c₂ = c := by
      have h1 : s₂.code? g.method = U.code? g.method := by
        rw [State.code?_eq, State.code?_eq, hW'.alike.method?]
      exact Option.some.inj (hc₂.symm.trans (h1.trans h.code))
    subst hcc
    have hlen : len₂ = len := by rw [hdg] at hd₂; cases hd₂; rfl
    subst hlen
    have hs₂ : s₂ = (({ U with heap := s₂.heap, slotsUsed := s₂.slotsUsed } : State).setVm s₂.vm).setTop { g with pc := g.pc + len₂, stack := v.toList ++ g.stack } := by
      refine e3.trans ?_
      rw [hf₂, State.calling_eq h.top, State.setFrames_setFrames, State.setTop_of_frames _ hr', hr]
      rfl
    have hsame : U.sameButNew ({ U with heap := s₂.heap, slotsUsed := s₂.slotsUsed } : State) L mc ms := by
      refine ⟨?_, q2, q3, q4, q5, q6⟩
      obtain ⟨t, ht, -⟩ := State.frames_cons hr
      show ({ U with heap := s₂.heap, slotsUsed := s₂.slotsUsed } : State) = { U.setFrames U.frames with heap := s₂.heap, slotsUsed := s₂.slotsUsed }
      rw [State.setFrames_self ht]
    subst hg
    refine Or.inl ⟨v, ⟨(({ U with heap := s₂.heap, slotsUsed := s₂.slotsUsed } : State).setVm s₂.vm), Ls ++ L, c0 + mc, s0 + ms⟩,
      ⟨X.admits, X.cas, X.clock, X.frames, X.room, X.hears, X.method, X.code, (X.here.setHeapUsed s₂.heap s₂.slotsUsed).setVm hW'.alike, X.tail, State.WarmedH.trans X.warmed hW', X.limits, X.bytes, X.same.trans (hsame.setVm s.vm)⟩,
      ⟨g, mk, s₂, L, rfl, rfl, hqc, rfl, hL, rfl, rfl⟩, ?_⟩
    show Steps p.tables e below _ ((({ U with heap := s₂.heap, slotsUsed := s₂.slotsUsed } : State).setVm s₂.vm).setTop { g with pc := g.pc + len₂, stack := v.toList ++ g.stack })
    rw [← hs₂]
    exact hsteps
  · obtain ⟨e2, q2, q3, q4, q5, q6⟩ := id hsm
    have e3 : s₂ = ({ (U.calling g mk a).setFrames s₂.frames with heap := s₂.heap, slotsUsed := s₂.slotsUsed } : State).setVm s₂.vm := by
      have : s₂ = ({ s₂ with vm := (U.calling g mk a).vm } : State).setVm s₂.vm := rfl
      rw [e2] at this
      exact this
    have hf₂ : s₂.frames = .throwing q :: .java g :: U.frames.tail := hend
    have hW' : U.WarmedH s₂.vm := hW₂
    have hs₂ : s₂ = ((({ U with heap := s₂.heap, slotsUsed := s₂.slotsUsed } : State).setVm s₂.vm).setTop g).pushFrame (.throwing q) := by
      refine e3.trans ?_
      rw [hf₂, State.calling_eq h.top, State.setFrames_setFrames, State.pushFrame, State.frames_setTop _ hr', State.setTop_of_frames _ hr', State.setFrames_setFrames, hr]
      rfl
    have hsame : U.sameButNew ({ U with heap := s₂.heap, slotsUsed := s₂.slotsUsed } : State) L mc ms := by
      refine ⟨?_, q2, q3, q4, q5, q6⟩
      obtain ⟨t, ht, -⟩ := State.frames_cons hr
      show ({ U with heap := s₂.heap, slotsUsed := s₂.slotsUsed } : State) = { U.setFrames U.frames with heap := s₂.heap, slotsUsed := s₂.slotsUsed }
      rw [State.setFrames_self ht]
    subst hg
    refine Or.inr ⟨q, ⟨(({ U with heap := s₂.heap, slotsUsed := s₂.slotsUsed } : State).setVm s₂.vm), Ls ++ L, c0 + mc, s0 + ms⟩,
      ⟨X.admits, X.cas, X.clock, X.frames, X.room, X.hears, X.method, X.code, (X.here.setHeapUsed s₂.heap s₂.slotsUsed).setVm hW'.alike, X.tail, State.WarmedH.trans X.warmed hW', X.limits, X.bytes, X.same.trans (hsame.setVm s.vm)⟩,
      ⟨g, mk, s₂, L, E, ce, rfl, rfl, hx, hce, hcv, hcl, rfl, hL, rfl, rfl⟩, ?_⟩
    show Steps p.tables e below _ (((({ U with heap := s₂.heap, slotsUsed := s₂.slotsUsed } : State).setVm s₂.vm).setTop g).pushFrame (.throwing q))
    rw [← hs₂]
    exact hsteps
end Payer
section Calls
variable {p : Program} {l : Launch} {e : Env} {R : Room} {s : State} {m : MethodId} {args : Array Value} {below : List Frame} {meth : Method} {c : Code} {T : State} {locs : List Loc} {cells slots : Nat}
theorem vx_callV (X : Stand p l e R s m args below meth c T locs cells slots) (hexec : p.tables.exec = Jvm.exec) {own C : String} {index : Nat} {y : MethodName} {bytes : ByteArray} {maxL : Nat} {ret : Option FieldType}
    (hown : s.vm.findClass own = some m.cls) (hlink : (Cond.methodLink own index y).before args s = true) (hinst : (Cond.instanceMethod y).before args s = true) (hsel : (Cond.selects C y y).before args s = true)
    (hcode : (Cond.code y bytes maxL ret).before args s = true) (hy : y.cls ≠ "java/lang/invoke/MethodHandle" ∧ y.cls ≠ "java/lang/invoke/VarHandle")
    {W9 : Nat} {Pre : Pt → Array Value → Prop} {Post : Pt → Array Value → Option Value → Pt → Prop} {PostX : Pt → Array Value → Addr → Pt → Prop} (hK : vx_Back l R p e below s args y 3 W9 Pre Post PostX)
    {b : Addr} {cellB : Cell} (hcell : T.heap[b]? = some cellB) (hobj : cellB.vm.isStatics = false) (hcls : s.vm.findClass C = some cellB.cls)
    {g : JFrame} (hg : g.method = m) (hsize : g.locals.size = c.maxLocals) {argsL rest : List Value} (hlen : ∀ sig, parseMethodDescriptor y.desc = some sig → argsL.length = sig.parameters.length)
    (hstack : g.stack = argsL.reverse ++ .ref b :: rest) (hW : 2 * g.monitorRoom + (rest.map fun v => v.category).sum ≤ W9) (hdg : decode c.code g.pc = .ok (.invokevirtual index, 3))
    (hpre : ∀ vm₁, s.WarmedH vm₁ → Pre ⟨T.setVm vm₁, locs, cells, slots⟩ (Value.ref b :: argsL).toArray) :
    (∃ (v : Option Value) (vm₁ : Vm) (B : Pt), s.WarmedH vm₁ ∧ Stand p l e R s m args below meth c B.U B.locs B.cells B.slots ∧ Post ⟨T.setVm vm₁, locs, cells, slots⟩ (Value.ref b :: argsL).toArray v B ∧
      ∀ target, Steps p.tables e below (B.U.setTop { g with pc := g.pc + 3, stack := v.toList ++ rest }) target → Steps p.tables e below (T.setTop g) target) ∨
    (∃ (q : Addr) (vm₁ : Vm) (B : Pt), s.WarmedH vm₁ ∧ Stand p l e R s m args below meth c B.U B.locs B.cells B.slots ∧ PostX ⟨T.setVm vm₁, locs, cells, slots⟩ (Value.ref b :: argsL).toArray q B ∧
      Steps p.tables e below (T.setTop g) ((B.U.setTop { g with stack := rest }).pushFrame (.throwing q))) := by
  obtain ⟨mk, methM, hnamed, hmethM, hstM, habM⟩ := Cond.instanceMethod_spec hinst
  obtain ⟨methM', cM, hmethM', -, -, -, -, -, -, hsigM⟩ := Cond.code_spec hnamed hcode
  cases hmethM.symm.trans hmethM'
  obtain ⟨c2, r2, m2, q1, q2, q3, q4, kP, hkP, hkPi⟩ := Cond.selects_spec hsel
  cases hcls.symm.trans q1
  cases (State.methodFound?_of_named hnamed hy).symm.trans q2
  cases hnamed.symm.trans q3
  have hselP : selectMethod e.platform s.vm cellB.cls mk = .method mk := by rw [Launch.admits_selectMethod X.admits]; exact q4
  obtain ⟨vm₁, X₁, hstep₁⟩ := X.invokevirtual hexec hown hlink hnamed hmethM hstM hkP hkPi hy (a := b) (cell := cellB) hcell
    (fun z h => by rw [h] at hobj; cases hobj) hselP hmethM habM hkP hkPi (g := g) hg (argsL := argsL) (rest := rest) (hlen _ hsigM) hstack hdg
  rcases hK m meth c ⟨T.setVm vm₁, locs, cells, slots⟩ { g with stack := rest } (.invokevirtual index) mk (Value.ref b :: argsL).toArray X₁ hg hsize hdg hW (X₁.named hnamed) (hpre vm₁ X₁.warmed) with ⟨v, B, X', hpost, hsteps⟩ | ⟨q, B, X', hpost, hsteps⟩
  · exact Or.inl ⟨v, vm₁, B, X₁.warmed, X', hpost, fun target h => hstep₁ _ fun acts => by rw [doInvoke_state]; exact hsteps.trans h⟩
  · exact Or.inr ⟨q, vm₁, B, X₁.warmed, X', hpost, hstep₁ _ fun acts => by rw [doInvoke_state]; exact hsteps⟩
theorem vx_callS (X : Stand p l e R s m args below meth c T locs cells slots) (hexec : p.tables.exec = Jvm.exec) {own : String} {index : Nat} {y : MethodName} {bytes : ByteArray} {maxL : Nat} {ret : Option FieldType}
    (hown : s.vm.findClass own = some m.cls) (hlink : (Cond.methodLink own index y).before args s = true) (hstat : (Cond.static y).before args s = true) (hinit : (Cond.initialized y.cls).before args s = true)
    (hcode : (Cond.code y bytes maxL ret).before args s = true) (hy : y.cls ≠ "java/lang/invoke/MethodHandle" ∧ y.cls ≠ "java/lang/invoke/VarHandle")
    {W9 : Nat} {Pre : Pt → Array Value → Prop} {Post : Pt → Array Value → Option Value → Pt → Prop} {PostX : Pt → Array Value → Addr → Pt → Prop} (hK : vx_Back l R p e below s args y 3 W9 Pre Post PostX)
    {g : JFrame} (hg : g.method = m) (hsize : g.locals.size = c.maxLocals) {argsL rest : List Value} (hlen : ∀ sig, parseMethodDescriptor y.desc = some sig → argsL.length = sig.parameters.length)
    (hstack : g.stack = argsL.reverse ++ rest) (hW : 2 * g.monitorRoom + (rest.map fun v => v.category).sum ≤ W9) (hdg : decode c.code g.pc = .ok (.invokestatic index, 3))
    (hpre : ∀ vm₁, s.WarmedH vm₁ → Pre ⟨T.setVm vm₁, locs, cells, slots⟩ argsL.toArray) :
    (∃ (v : Option Value) (vm₁ : Vm) (B : Pt), s.WarmedH vm₁ ∧ Stand p l e R s m args below meth c B.U B.locs B.cells B.slots ∧ Post ⟨T.setVm vm₁, locs, cells, slots⟩ argsL.toArray v B ∧
      ∀ target, Steps p.tables e below (B.U.setTop { g with pc := g.pc + 3, stack := v.toList ++ rest }) target → Steps p.tables e below (T.setTop g) target) ∨
    (∃ (q : Addr) (vm₁ : Vm) (B : Pt), s.WarmedH vm₁ ∧ Stand p l e R s m args below meth c B.U B.locs B.cells B.slots ∧ PostX ⟨T.setVm vm₁, locs, cells, slots⟩ argsL.toArray q B ∧
      Steps p.tables e below (T.setTop g) ((B.U.setTop { g with stack := rest }).pushFrame (.throwing q))) := by
  obtain ⟨mk, hnamed⟩ := Cond.code_named hcode
  obtain ⟨methM, cM, hmethM, -, -, -, -, -, -, hsigM⟩ := Cond.code_spec hnamed hcode
  have hstatic : methM.isStatic = true := Cond.static_spec hnamed hmethM hstat
  obtain ⟨kP, hkP, -⟩ := className_of_methodNamed hnamed
  have hinitP : kP.init = .initialized := Cond.initialized_spec (findClass_of_methodNamed hnamed) hkP hinit
  obtain ⟨vm₁, X₁, hstep₁⟩ := X.invokestatic hexec hown hlink hnamed hmethM hstatic hkP hinitP hy (g := g) hg (argsL := argsL) (rest := rest) (hlen _ hsigM) hstack hdg
  rcases hK m meth c ⟨T.setVm vm₁, locs, cells, slots⟩ { g with stack := rest } (.invokestatic index) mk argsL.toArray X₁ hg hsize hdg hW (X₁.named hnamed) (hpre vm₁ X₁.warmed) with ⟨v, B, X', hpost, hsteps⟩ | ⟨q, B, X', hpost, hsteps⟩
  · exact Or.inl ⟨v, vm₁, B, X₁.warmed, X', hpost, fun target h => hstep₁ _ fun acts => by rw [doInvoke_state]; exact hsteps.trans h⟩
  · exact Or.inr ⟨q, vm₁, B, X₁.warmed, X', hpost, hstep₁ _ fun acts => by rw [doInvoke_state]; exact hsteps⟩
end Calls
theorem vx_cls {s : State} {T : State} {vm₁ : Vm} {E : String} {k : ClassId} (hW : s.WarmedH vm₁) (h : (T.setVm vm₁).vm.findClass E = some k) : s.vm.findClass E = some k := by
  have h1 : vm₁.findClass E = some k := h
  rw [hW.alike.findClass] at h1
  exact h1
/-- the method's frame g, with q thrown over it -/
def vx_W (p : Program) (l : Launch) (e : Env) (R : Room) (s : State) (m : MethodId) (args : Array Value) (below : List Frame) (meth : Method) (c : Code) (H : Heap) (locs : List Loc) (cells slots : Nat) (Q : State → Prop) (g : JFrame) (q : Addr) : Prop :=
  ∀ T : State, T.heap = H → Stand p l e R s m args below meth c T locs cells slots → ∃ t, Steps p.tables e below ((T.setTop g).pushFrame (.throwing q)) t ∧ Q t
def vx_Run (p : Program) (l : Launch) (e : Env) (R : Room) (s : State) (m : MethodId) (args : Array Value) (below : List Frame) (meth : Method) (c : Code) (H : Heap) (locs : List Loc) (cells slots mc ms : Nat) (g : JFrame) (rest : List Value) (Qa : State → Outcome → State → Prop) (XC : String → State → State → Prop) (free : Addr → Prop) : Prop :=
  ∀ T : State, T.heap = H → Stand p l e R s m args below meth c T locs cells slots →
    (∃ (v : Option Value) (st₀ t T' : State) (L : List Loc), st₀.heap = H ∧ Stand p l e R s m args below meth c T' (locs ++ L) (cells + mc) (slots + ms) ∧ (∀ q ∈ L, free q.base) ∧ T'.heap = t.heap ∧ T'.vm = t.vm ∧ Qa st₀ (.returned v) t ∧
      Goes p e below T g T' { g with pc := g.pc + 3, stack := v.toList ++ rest }) ∨
    (∃ (q : Addr) (st₀ t T' : State) (L : List Loc) (E : String) (ce : Cell), st₀.heap = H ∧ Stand p l e R s m args below meth c T' (locs ++ L) (cells + mc) (slots + ms) ∧ (∀ z ∈ L, free z.base) ∧ T'.heap = t.heap ∧ T'.vm = t.vm ∧ XC E st₀ t ∧ t.heap[q]? = some ce ∧ ce.vm = .none ∧ s.vm.findClass E = some ce.cls ∧
      Steps p.tables e below (T.setTop g) ((T'.setTop { g with stack := rest }).pushFrame (.throwing q)))
def vx_X {S : Type} (px : S → Prop) (B : String → S → State → Prop) (A : Nat → Prop) : String → State → State → Prop := fun E st t => ∃ u : S, px u ∧ B E u t ∧ va_F A st t
section Runs
variable {p : Program} {l : Launch} {e : Env} {R : Room} {s : State} {m : MethodId} {args : Array Value} {below : List Frame} {meth : Method} {c : Code} {H : Heap} {locs : List Loc} {cells slots : Nat}
variable {y : MethodName} {bytes cc : ByteArray} {maxL nL mc ms n index : Nat} {ret : Option FieldType} {ws : List Cond} {rm : Room} {Pc : Array Value → State → Prop} {Qc : Array Value → State → Outcome → State → Prop} {XC : String → State → State → Prop} {free : Addr → Prop} {Ts : List Cond} {own C : String} {b : Addr} {As rest : List Value} {g : JFrame}
theorem vx_callBack (cb : CallB R s args own index y bytes maxL ret ws rm mc ms n) (hM : vx_Met l y ws rm Pc Qc XC mc ms free) (hbl : FrameBlind Pc) : vx_Back l R p e below s args y 3 8 (PreOf R mc ms Pc) (PostOf Qc mc ms free) (vx_Post XC mc ms free) := by
  obtain ⟨hrc, hrs, hfr, hlo, hws, hcw, -, hini, -⟩ := cb
  exact vx_back (bytes := bytes) (maxL := maxL) (ret := ret) hM hbl hrc hrs hfr hlo hws hcw (fun a' U hW => word_at hW (Or.inl (by first | rfl | simp [Cond.onTables, Cond.keeps, Cond.steady])) hini)
theorem vx_runV (S : CallFix p m c cc nL s args Ts own) (hM : vx_Met l y ws rm Pc Qc XC mc ms free) (cw : CallW R s args own C index y bytes maxL ret ws rm mc ms n) (hp : PreV s H C b Pc As)
    (hg : g.method = m) (hn : As.length = n) (hsize : g.locals.size = nL) (hstack : g.stack = As.reverse ++ .ref b :: rest) (hW : 2 * g.monitorRoom + (rest.map fun v => v.category).sum ≤ 8) (hdg : decode cc g.pc = .ok (.invokevirtual index, 3)) (hf : cells + mc ≤ R.cells ∧ slots + ms ≤ R.slots) :
    vx_Run p l e R s m args below meth c H locs cells slots mc ms g rest (Qc (Value.ref b :: As).toArray) XC free := by
  have hK : vx_Back l R p e below s args y 3 8 (PreOf R mc ms Pc) (PostOf Qc mc ms free) (vx_Post XC mc ms free) := vx_callBack cw.1 hM hp.1
  obtain ⟨⟨-, -, -, -, -, -, hcode, -, hy, hlen, hl⟩, hin, hse⟩ := cw
  obtain ⟨hx, hb, hml, ho, -⟩ := S
  obtain ⟨-, ⟨cellB, hcB, hoB, hclB⟩, hPc⟩ := hp
  intro T hT X
  rcases vx_callV X hx (C := C) (bytes := bytes) (maxL := maxL) (ret := ret) ho hl hin hse hcode hy hK (by rw [hT]; exact hcB) hoB hclB hg (hsize.trans hml.symm) (argsL := As) (rest := rest) (fun sig h => hn.trans (hlen sig h)) hstack hW (by rw [hb]; exact hdg)
    (fun vm₁ hW₁ => ⟨hf.1, hf.2, hPc (T.setVm vm₁) hT hW₁⟩) with ⟨v, vm₁, ⟨U', l2, c2, s2⟩, hW₁, X', ⟨g', mk, t, L, e1, e2, hq, h1, hL, h2, h3⟩, st⟩ | ⟨q, vm₁, ⟨U', l2, c2, s2⟩, hW₁, X', ⟨g', mk, t, L, E, ce, e1, e2, hq, hce, hcv, hcl, h1, hL, h2, h3⟩, st⟩
  · dsimp only [Pt.U, Pt.locs, Pt.cells, Pt.slots] at X' e1 e2 h1 h2 h3 st
    subst h1; subst h2; subst h3
    exact Or.inl ⟨v, (T.setVm vm₁).calling g' mk (Value.ref b :: As).toArray, t, U', L, hT, X', hL, e1, e2, hq, st⟩
  · dsimp only [Pt.U, Pt.locs, Pt.cells, Pt.slots] at X' e1 e2 h1 h2 h3 st hcl
    subst h1; subst h2; subst h3
    exact Or.inr ⟨q, (T.setVm vm₁).calling g' mk (Value.ref b :: As).toArray, t, U', L, E, ce, hT, X', hL, e1, e2, hq, hce, hcv, vx_cls hW₁ hcl, st⟩
theorem vx_runS (S : CallFix p m c cc nL s args Ts own) (hM : vx_Met l y ws rm Pc Qc XC mc ms free) (cw : CallB R s args own index y bytes maxL ret ws rm mc ms n ∧ (Cond.static y).before args s = true) (hp : PreS s H Pc As)
    (hg : g.method = m) (hn : As.length = n) (hsize : g.locals.size = nL) (hstack : g.stack = As.reverse ++ rest) (hW : 2 * g.monitorRoom + (rest.map fun v => v.category).sum ≤ 8) (hdg : decode cc g.pc = .ok (.invokestatic index, 3)) (hf : cells + mc ≤ R.cells ∧ slots + ms ≤ R.slots) :
    vx_Run p l e R s m args below meth c H locs cells slots mc ms g rest (Qc As.toArray) XC free := by
  have hK : vx_Back l R p e below s args y 3 8 (PreOf R mc ms Pc) (PostOf Qc mc ms free) (vx_Post XC mc ms free) := vx_callBack cw.1 hM hp.1
  obtain ⟨⟨-, -, -, -, -, -, hcode, hini, hy, hlen, hl⟩, hstt⟩ := cw
  obtain ⟨hx, hb, hml, ho, -⟩ := S
  intro T hT X
  rcases vx_callS X hx (bytes := bytes) (maxL := maxL) (ret := ret) ho hl hstt hini hcode hy hK hg (hsize.trans hml.symm) (argsL := As) (rest := rest) (fun sig h => hn.trans (hlen sig h)) hstack hW (by rw [hb]; exact hdg)
    (fun vm₁ hW₁ => ⟨hf.1, hf.2, hp.2 (T.setVm vm₁) hT hW₁⟩) with ⟨v, vm₁, ⟨U', l2, c2, s2⟩, hW₁, X', ⟨g', mk, t, L, e1, e2, hq, h1, hL, h2, h3⟩, st⟩ | ⟨q, vm₁, ⟨U', l2, c2, s2⟩, hW₁, X', ⟨g', mk, t, L, E, ce, e1, e2, hq, hce, hcv, hcl, h1, hL, h2, h3⟩, st⟩
  · dsimp only [Pt.U, Pt.locs, Pt.cells, Pt.slots] at X' e1 e2 h1 h2 h3 st
    subst h1; subst h2; subst h3
    exact Or.inl ⟨v, (T.setVm vm₁).calling g' mk As.toArray, t, U', L, hT, X', hL, e1, e2, hq, st⟩
  · dsimp only [Pt.U, Pt.locs, Pt.cells, Pt.slots] at X' e1 e2 h1 h2 h3 st hcl
    subst h1; subst h2; subst h3
    exact Or.inr ⟨q, (T.setVm vm₁).calling g' mk As.toArray, t, U', L, E, ce, hT, X', hL, e1, e2, hq, hce, hcv, vx_cls hW₁ hcl, st⟩
end Runs
section Rows
variable {p : Program} {l : Launch} {e : Env} {R : Room} {s : State} {m : MethodId} {args : Array Value} {below : List Frame} {meth : Method} {c : Code} {H : Heap} {locs : List Loc} {cells slots : Nat} {Q : State → Prop}
variable {mc ms : Nat} {free : Addr → Prop} {A0 A1 : Nat → Prop} {H0 : Heap} {a : Array Value} {pc : Nat} {ls : Array Slot} {st0 rest : List Value}
theorem vx_keep {st₀ t T' : State} {L : List Loc} (h0 : st₀.heap = H) (e1 : T'.heap = t.heap) (hS : va_S A0 H0 H locs) (hA : ∀ q, q < H.size → A1 q → A0 q) (hf : ∀ q, free q → A0 q) (hL : ∀ q ∈ L, free q.base) (hF : va_F A1 st₀ t) :
    H.size ≤ T'.heap.size ∧ (∀ q : Nat, q < H.size → ¬ A1 q → T'.heap[q]? = H[q]?) ∧ va_S A0 H0 T'.heap (locs ++ L) := by
  obtain ⟨hz, hk⟩ := hF
  rw [h0] at hz hk
  exact ⟨by rw [e1]; exact hz, fun q h1 h2 => by rw [e1]; exact hk q h1 h2,
    ⟨Nat.le_trans hS.1 (by rw [e1]; exact hz), fun q h1 h2 => by rw [e1, hk q (Nat.lt_of_lt_of_le h1 hS.1) (fun z => h2 (hA q (Nat.lt_of_lt_of_le h1 hS.1) z))]; exact hS.2.1 q h1 h2, fun q hq => by
      rcases List.mem_append.mp hq with h | h
      · exact hS.2.2 q h
      · exact hf _ (hL q h)⟩⟩
theorem vx_calli {S SX : Type} {post : Int32 → S → Prop} {px : SX → Prop} {B : S → State → Prop} {BX : String → SX → State → Prop} {AX : Nat → Prop} (hr : vx_Run p l e R s m args below meth c H locs cells slots mc ms (F0 m pc ls st0) rest (va_Qi post B A1 a) (vx_X px BX AX) free) (hS : va_S A0 H0 H locs) (hA : ∀ q, q < H.size → A1 q → A0 q) (hf : ∀ q, free q → A0 q) (hAX : ∀ q, q < H.size → AX q → A0 q)
    (kx : ∀ (E : String) (ce : Cell) (q9 : Addr) (u : SX) (t : State) (H1 : Heap) (locs1 : List Loc), t.heap = H1 → s.vm.Alike t.vm → px u → BX E u t → H.size ≤ H1.size → (∀ q : Nat, q < H.size → ¬ AX q → H1[q]? = H[q]?) → va_S A0 H0 H1 locs1 → H1[q9]? = some ce → ce.vm = .none → s.vm.findClass E = some ce.cls → vx_W p l e R s m args below meth c H1 locs1 (cells + mc) (slots + ms) Q (F0 m pc ls rest) q9)
    (kk : ∀ (r : Int32) (u : S) (t : State) (H1 : Heap) (locs1 : List Loc), t.heap = H1 → s.vm.Alike t.vm → post r u → B u t → H.size ≤ H1.size → (∀ q : Nat, q < H.size → ¬ A1 q → H1[q]? = H[q]?) → va_S A0 H0 H1 locs1 → W p l e R s m args below meth c H1 locs1 (cells + mc) (slots + ms) Q (F0 m (pc + 3) ls (.int r :: rest))) : W p l e R s m args below meth c H locs cells slots Q (F0 m pc ls st0) := by
  intro T hT X
  rcases hr T hT X with ⟨v, st₀, t, T', L, h0, X', hL, e1, e2, ⟨⟨r, u, hv, hp, hb⟩, hF⟩, st⟩ | ⟨q, st₀, t, T', L, E, ce, h0, X', hL, e1, e2, ⟨u, hp, hb, hF⟩, hce, hcv, hcl, st⟩
  · cases hv
    obtain ⟨k1, k2, k3⟩ := vx_keep h0 e1 hS hA hf hL hF
    obtain ⟨t2, a1, b1⟩ := kk r u t T'.heap (locs ++ L) e1.symm (by rw [← e2]; exact X'.warmed.alike) hp hb k1 k2 k3 T' rfl X'
    exact ⟨t2, st t2 a1, b1⟩
  · obtain ⟨k1, k2, k3⟩ := vx_keep h0 e1 hS hAX hf hL hF
    obtain ⟨t2, a1, b1⟩ := kx E ce q u t T'.heap (locs ++ L) e1.symm (by rw [← e2]; exact X'.warmed.alike) hp hb k1 k2 k3 (by rw [e1]; exact hce) hcv hcl T' rfl X'
    exact ⟨t2, st.trans a1, b1⟩
theorem vx_calll {S SX : Type} {post : Int64 → S → Prop} {px : SX → Prop} {B : S → State → Prop} {BX : String → SX → State → Prop} {AX : Nat → Prop} (hr : vx_Run p l e R s m args below meth c H locs cells slots mc ms (F0 m pc ls st0) rest (va_Ql post B A1 a) (vx_X px BX AX) free) (hS : va_S A0 H0 H locs) (hA : ∀ q, q < H.size → A1 q → A0 q) (hf : ∀ q, free q → A0 q) (hAX : ∀ q, q < H.size → AX q → A0 q)
    (kx : ∀ (E : String) (ce : Cell) (q9 : Addr) (u : SX) (t : State) (H1 : Heap) (locs1 : List Loc), t.heap = H1 → s.vm.Alike t.vm → px u → BX E u t → H.size ≤ H1.size → (∀ q : Nat, q < H.size → ¬ AX q → H1[q]? = H[q]?) → va_S A0 H0 H1 locs1 → H1[q9]? = some ce → ce.vm = .none → s.vm.findClass E = some ce.cls → vx_W p l e R s m args below meth c H1 locs1 (cells + mc) (slots + ms) Q (F0 m pc ls rest) q9)
    (kk : ∀ (r : Int64) (u : S) (t : State) (H1 : Heap) (locs1 : List Loc), t.heap = H1 → s.vm.Alike t.vm → post r u → B u t → H.size ≤ H1.size → (∀ q : Nat, q < H.size → ¬ A1 q → H1[q]? = H[q]?) → va_S A0 H0 H1 locs1 → W p l e R s m args below meth c H1 locs1 (cells + mc) (slots + ms) Q (F0 m (pc + 3) ls (.long r :: rest))) : W p l e R s m args below meth c H locs cells slots Q (F0 m pc ls st0) := by
  intro T hT X
  rcases hr T hT X with ⟨v, st₀, t, T', L, h0, X', hL, e1, e2, ⟨⟨r, u, hv, hp, hb⟩, hF⟩, st⟩ | ⟨q, st₀, t, T', L, E, ce, h0, X', hL, e1, e2, ⟨u, hp, hb, hF⟩, hce, hcv, hcl, st⟩
  · cases hv
    obtain ⟨k1, k2, k3⟩ := vx_keep h0 e1 hS hA hf hL hF
    obtain ⟨t2, a1, b1⟩ := kk r u t T'.heap (locs ++ L) e1.symm (by rw [← e2]; exact X'.warmed.alike) hp hb k1 k2 k3 T' rfl X'
    exact ⟨t2, st t2 a1, b1⟩
  · obtain ⟨k1, k2, k3⟩ := vx_keep h0 e1 hS hAX hf hL hF
    obtain ⟨t2, a1, b1⟩ := kx E ce q u t T'.heap (locs ++ L) e1.symm (by rw [← e2]; exact X'.warmed.alike) hp hb k1 k2 k3 (by rw [e1]; exact hce) hcv hcl T' rfl X'
    exact ⟨t2, st.trans a1, b1⟩
theorem vx_callf {S SX : Type} {post : UInt32 → S → Prop} {px : SX → Prop} {B : S → State → Prop} {BX : String → SX → State → Prop} {AX : Nat → Prop} (hr : vx_Run p l e R s m args below meth c H locs cells slots mc ms (F0 m pc ls st0) rest (va_Qf post B A1 a) (vx_X px BX AX) free) (hS : va_S A0 H0 H locs) (hA : ∀ q, q < H.size → A1 q → A0 q) (hf : ∀ q, free q → A0 q) (hAX : ∀ q, q < H.size → AX q → A0 q)
    (kx : ∀ (E : String) (ce : Cell) (q9 : Addr) (u : SX) (t : State) (H1 : Heap) (locs1 : List Loc), t.heap = H1 → s.vm.Alike t.vm → px u → BX E u t → H.size ≤ H1.size → (∀ q : Nat, q < H.size → ¬ AX q → H1[q]? = H[q]?) → va_S A0 H0 H1 locs1 → H1[q9]? = some ce → ce.vm = .none → s.vm.findClass E = some ce.cls → vx_W p l e R s m args below meth c H1 locs1 (cells + mc) (slots + ms) Q (F0 m pc ls rest) q9)
    (kk : ∀ (r : UInt32) (u : S) (t : State) (H1 : Heap) (locs1 : List Loc), t.heap = H1 → s.vm.Alike t.vm → post r u → B u t → H.size ≤ H1.size → (∀ q : Nat, q < H.size → ¬ A1 q → H1[q]? = H[q]?) → va_S A0 H0 H1 locs1 → W p l e R s m args below meth c H1 locs1 (cells + mc) (slots + ms) Q (F0 m (pc + 3) ls (.float r :: rest))) : W p l e R s m args below meth c H locs cells slots Q (F0 m pc ls st0) := by
  intro T hT X
  rcases hr T hT X with ⟨v, st₀, t, T', L, h0, X', hL, e1, e2, ⟨⟨r, u, hv, hp, hb⟩, hF⟩, st⟩ | ⟨q, st₀, t, T', L, E, ce, h0, X', hL, e1, e2, ⟨u, hp, hb, hF⟩, hce, hcv, hcl, st⟩
  · cases hv
    obtain ⟨k1, k2, k3⟩ := vx_keep h0 e1 hS hA hf hL hF
    obtain ⟨t2, a1, b1⟩ := kk r u t T'.heap (locs ++ L) e1.symm (by rw [← e2]; exact X'.warmed.alike) hp hb k1 k2 k3 T' rfl X'
    exact ⟨t2, st t2 a1, b1⟩
  · obtain ⟨k1, k2, k3⟩ := vx_keep h0 e1 hS hAX hf hL hF
    obtain ⟨t2, a1, b1⟩ := kx E ce q u t T'.heap (locs ++ L) e1.symm (by rw [← e2]; exact X'.warmed.alike) hp hb k1 k2 k3 (by rw [e1]; exact hce) hcv hcl T' rfl X'
    exact ⟨t2, st.trans a1, b1⟩
theorem vx_calld {S SX : Type} {post : UInt64 → S → Prop} {px : SX → Prop} {B : S → State → Prop} {BX : String → SX → State → Prop} {AX : Nat → Prop} (hr : vx_Run p l e R s m args below meth c H locs cells slots mc ms (F0 m pc ls st0) rest (va_Qd post B A1 a) (vx_X px BX AX) free) (hS : va_S A0 H0 H locs) (hA : ∀ q, q < H.size → A1 q → A0 q) (hf : ∀ q, free q → A0 q) (hAX : ∀ q, q < H.size → AX q → A0 q)
    (kx : ∀ (E : String) (ce : Cell) (q9 : Addr) (u : SX) (t : State) (H1 : Heap) (locs1 : List Loc), t.heap = H1 → s.vm.Alike t.vm → px u → BX E u t → H.size ≤ H1.size → (∀ q : Nat, q < H.size → ¬ AX q → H1[q]? = H[q]?) → va_S A0 H0 H1 locs1 → H1[q9]? = some ce → ce.vm = .none → s.vm.findClass E = some ce.cls → vx_W p l e R s m args below meth c H1 locs1 (cells + mc) (slots + ms) Q (F0 m pc ls rest) q9)
    (kk : ∀ (r : UInt64) (u : S) (t : State) (H1 : Heap) (locs1 : List Loc), t.heap = H1 → s.vm.Alike t.vm → post r u → B u t → H.size ≤ H1.size → (∀ q : Nat, q < H.size → ¬ A1 q → H1[q]? = H[q]?) → va_S A0 H0 H1 locs1 → W p l e R s m args below meth c H1 locs1 (cells + mc) (slots + ms) Q (F0 m (pc + 3) ls (.double r :: rest))) : W p l e R s m args below meth c H locs cells slots Q (F0 m pc ls st0) := by
  intro T hT X
  rcases hr T hT X with ⟨v, st₀, t, T', L, h0, X', hL, e1, e2, ⟨⟨r, u, hv, hp, hb⟩, hF⟩, st⟩ | ⟨q, st₀, t, T', L, E, ce, h0, X', hL, e1, e2, ⟨u, hp, hb, hF⟩, hce, hcv, hcl, st⟩
  · cases hv
    obtain ⟨k1, k2, k3⟩ := vx_keep h0 e1 hS hA hf hL hF
    obtain ⟨t2, a1, b1⟩ := kk r u t T'.heap (locs ++ L) e1.symm (by rw [← e2]; exact X'.warmed.alike) hp hb k1 k2 k3 T' rfl X'
    exact ⟨t2, st t2 a1, b1⟩
  · obtain ⟨k1, k2, k3⟩ := vx_keep h0 e1 hS hAX hf hL hF
    obtain ⟨t2, a1, b1⟩ := kx E ce q u t T'.heap (locs ++ L) e1.symm (by rw [← e2]; exact X'.warmed.alike) hp hb k1 k2 k3 (by rw [e1]; exact hce) hcv hcl T' rfl X'
    exact ⟨t2, st.trans a1, b1⟩
theorem vx_callv {S SX : Type} {post : S → Prop} {px : SX → Prop} {B : S → State → Prop} {BX : String → SX → State → Prop} {AX : Nat → Prop} (hr : vx_Run p l e R s m args below meth c H locs cells slots mc ms (F0 m pc ls st0) rest (va_Qv post B A1 a) (vx_X px BX AX) free) (hS : va_S A0 H0 H locs) (hA : ∀ q, q < H.size → A1 q → A0 q) (hf : ∀ q, free q → A0 q) (hAX : ∀ q, q < H.size → AX q → A0 q)
    (kx : ∀ (E : String) (ce : Cell) (q9 : Addr) (u : SX) (t : State) (H1 : Heap) (locs1 : List Loc), t.heap = H1 → s.vm.Alike t.vm → px u → BX E u t → H.size ≤ H1.size → (∀ q : Nat, q < H.size → ¬ AX q → H1[q]? = H[q]?) → va_S A0 H0 H1 locs1 → H1[q9]? = some ce → ce.vm = .none → s.vm.findClass E = some ce.cls → vx_W p l e R s m args below meth c H1 locs1 (cells + mc) (slots + ms) Q (F0 m pc ls rest) q9)
    (kk : ∀ (u : S) (t : State) (H1 : Heap) (locs1 : List Loc), t.heap = H1 → s.vm.Alike t.vm → post u → B u t → H.size ≤ H1.size → (∀ q : Nat, q < H.size → ¬ A1 q → H1[q]? = H[q]?) → va_S A0 H0 H1 locs1 → W p l e R s m args below meth c H1 locs1 (cells + mc) (slots + ms) Q (F0 m (pc + 3) ls (rest))) : W p l e R s m args below meth c H locs cells slots Q (F0 m pc ls st0) := by
  intro T hT X
  rcases hr T hT X with ⟨v, st₀, t, T', L, h0, X', hL, e1, e2, ⟨⟨u, hv, hp, hb⟩, hF⟩, st⟩ | ⟨q, st₀, t, T', L, E, ce, h0, X', hL, e1, e2, ⟨u, hp, hb, hF⟩, hce, hcv, hcl, st⟩
  · cases hv
    obtain ⟨k1, k2, k3⟩ := vx_keep h0 e1 hS hA hf hL hF
    obtain ⟨t2, a1, b1⟩ := kk u t T'.heap (locs ++ L) e1.symm (by rw [← e2]; exact X'.warmed.alike) hp hb k1 k2 k3 T' rfl X'
    exact ⟨t2, st t2 a1, b1⟩
  · obtain ⟨k1, k2, k3⟩ := vx_keep h0 e1 hS hAX hf hL hF
    obtain ⟨t2, a1, b1⟩ := kx E ce q u t T'.heap (locs ++ L) e1.symm (by rw [← e2]; exact X'.warmed.alike) hp hb k1 k2 k3 (by rw [e1]; exact hce) hcv hcl T' rfl X'
    exact ⟨t2, st.trans a1, b1⟩
/-- caught by the row x of this method's table; the rows ahead don't take it -/
theorem vx_catch {own name : String} {E : String} {ce : Cell} {q : Addr} (hown : s.vm.findClass own = some m.cls) (pre : List ExceptionTableEntry) (x : ExceptionTableEntry) (suf : List ExceptionTableEntry) (hsplit : c.exceptionTable.toList = pre ++ x :: suf)
    (hpass : ∀ z ∈ pre, covers z pc = false ∨ (z.catchType ≠ 0 ∧ ∃ nm : String, (Cond.classLink own z.catchType nm).before args s = true ∧ va_Nc E nm s)) (hx : covers x pc = true) (h0 : x.catchType ≠ 0)
    (hlink : (Cond.classLink own x.catchType name).before args s = true) (hcast : (Cond.castable E name).before args s = true) (hcell : H[q]? = some ce) (hv : ce.vm = .none) (hcl : s.vm.findClass E = some ce.cls)
    (kk : W p l e R s m args below meth c H locs cells slots Q (F0 m x.handlerPc ls [.ref q])) : vx_W p l e R s m args below meth c H locs cells slots Q (F0 m pc ls rest) q := by
  intro T hT X
  have hpl : e.platform.magicAccessors = ({} : Platform).magicAccessors := by rw [X.admits.platform]
  obtain ⟨c3, c4, hc3, hc4, hasg⟩ := Cond.castable_spec hcast
  cases Option.some.inj (hc3.symm.trans hcl)
  obtain ⟨c5, hc5, hcl5⟩ := Cond.classLink_spec hown hlink e.platform hpl
  cases Option.some.inj (hc4.symm.trans hc5)
  obtain ⟨vm', X', st⟩ := X.thenCaughtThrough q (g := F0 m pc ls rest) rfl (Steps.refl _) (by rw [hT]; exact hcell) (by rw [hv]; rfl) (by obtain ⟨k9, h9, -⟩ := Vm.findClass_spec hcl; exact ⟨k9, h9⟩) pre x suf hsplit
    (fun z hz => by
      rcases hpass z hz with h | ⟨hz0, nm, hl1, hn1⟩
      · exact Or.inl h
      · obtain ⟨c6, hc6, hcl6⟩ := Cond.classLink_spec hown hl1 e.platform hpl
        obtain ⟨a8, b8, h1, h2, h3⟩ := hn1
        cases Option.some.inj (h1.symm.trans hcl)
        cases Option.some.inj (h2.symm.trans hc6)
        exact Or.inr ⟨hz0, _, hcl6, h3⟩) hx (Or.inr ⟨h0, c4, hcl5, hasg⟩)
  obtain ⟨t, a1, b1⟩ := kk (T.setVm vm') hT X'
  exact ⟨t, st.trans a1, b1⟩
end Rows
section Ends
variable {p : Program} {l : Launch} {e : Env} {R : Room} {s : State} {m : MethodId} {args : Array Value} {below : List Frame} {meth : Method} {c : Code} {H : Heap} {locs : List Loc} {cells slots : Nat} {Q : State → Prop}
variable {mc ms : Nat} {free : Addr → Prop} {A0 A1 : Nat → Prop} {H0 : Heap} {a : Array Value} {ls : Array Slot} {st0 rest : List Value}
variable {Qc : Array Value → State → Outcome → State → Prop} {XC : String → State → State → Prop}
/-- what a body that may throw owes at its end -/
def vx_MQ (below : List Frame) (Qc : Array Value → State → Outcome → State → Prop) (XC : String → State → State → Prop) (a : Array Value) (s : State) (mc ms : Nat) (free : Addr → Prop) : State → Prop := fun t =>
  ∃ o, t.status = .running ∧ Ended t below o ∧ vx_Q Qc XC mc ms free a s o t
theorem vx_ret {g : JFrame} {mc ms : Nat} (k : W p l e R s m args below meth c H locs cells slots (MQ below Qc args s mc ms free) g) : W p l e R s m args below meth c H locs cells slots (vx_MQ below Qc XC args s mc ms free) g := by
  intro T hT X
  obtain ⟨t, a1, o, b1, b2, b3, b4⟩ := k T hT X
  exact ⟨t, a1, o, b1, b2, Or.inl ⟨b3, b4⟩⟩
/-- not caught here: it goes on to the caller -/
theorem vx_widen {g : JFrame} {q : Addr} {k n : Nat} (h1 : cells ≤ k) (h2 : slots ≤ n) (kk : vx_W p l e R s m args below meth c H locs k n Q g q) : vx_W p l e R s m args below meth c H locs cells slots Q g q := fun T hT X => kk T hT (stand_widen X h1 h2)
theorem vx_out {pc : Nat} {E : String} {ce : Cell} {q : Addr} {mc ms : Nat} (hout : ∀ x ∈ c.exceptionTable.toList, covers x pc = false) (hlocks : meth.locks = false) (hcell : H[q]? = some ce) (hv : ce.vm = .none) (hcl : s.vm.findClass E = some ce.cls)
    (hx : ∀ t : State, t.heap = H → s.vm.Alike t.vm → XC E s t) (hf : ∀ z ∈ locs, free z.base) (hc : cells ≤ mc) (hs : slots ≤ ms) :
    vx_W p l e R s m args below meth c H locs cells slots (vx_MQ below Qc XC args s mc ms free) (F0 m pc ls rest) q := by
  intro T hT X
  obtain ⟨st1, hrun, hend, hW, hsm⟩ := X.leaveThrown q (g := F0 m pc ls rest) rfl rfl rfl hout hlocks
  have hcell9 : (T.setFrames (.throwing q :: below)).heap[q]? = some ce := by
    show T.heap[q]? = some ce
    rw [hT]; exact hcell
  exact ⟨_, st1, .threw q, hrun, hend, Or.inr ⟨q, rfl, E, ce, locs, hx _ hT hW.alike, hcell9, hv, hcl, hW, hsm.mono hc hs, hf⟩⟩
theorem vx_frame {U : State} {k n : Nat} (h : s.sameButNew ({ U with vm := s.vm } : State) locs k n) : s.heap.size ≤ U.heap.size ∧ ∀ q : Nat, q < s.heap.size → (∀ z ∈ locs, z.base ≠ q) → U.heap[q]? = s.heap[q]? := by
  obtain ⟨-, h2, -, -, -, h6⟩ := h
  refine ⟨h2, fun q hq hz => ?_⟩
  obtain ⟨c9, e1, e2, e3, e4⟩ := h6 q _ (Array.getElem?_eq_getElem hq)
  have hs : c9.slots = (s.heap[q]).slots := Array.ext_getElem? fun i => e4 i fun hm => hz _ hm rfl
  have h9 : c9 = s.heap[q] := by
    rw [hs] at e2
    exact e2
  have e5 : U.heap[q]? = some c9 := e1
  rw [e5, h9, Array.getElem?_eq_getElem hq]
/-- the words of a throw but the four that speak of the heap -/
def vx_no (w : Cond) : Bool := decide (w ≠ .isRef (.static Bundle.tN "UNASSIGNED_STACK" Bundle.steD)) && decide (w ≠ .isRef (.static Bundle.tN "SUPPRESSED_SENTINEL" Bundle.listD)) && decide (w ≠ .laysStatic Bundle.tN "UNASSIGNED_STACK" Bundle.steD) && decide (w ≠ .laysStatic Bundle.tN "SUPPRESSED_SENTINEL" Bundle.listD)
def vx_at0 (own : String) (ic : Nat) (X : String) (names : List String) : List Cond := (Bundle.ownAtoms0 own ic X names).filter vx_no
def vx_atS (own : String) (ic : Nat) (X : String) (names : List String) : List Cond := (Bundle.ownAtoms own ic X names).filter vx_no
/-- a word that the tables alone decide, or a good one -/
def vx_ot (w : Cond) : Bool := w.onTables || goodWord w
theorem vx_ot_at {args a' : Array Value} {s U : State} {w : Cond} (hW : s.WarmedH U.vm) (hvm : s.vm = U.vm) (hg : vx_ot w = true) (h : w.before args s = true) : w.before a' U = true := by
  simp only [vx_ot, Bool.or_eq_true] at hg
  rcases hg with hg | hg
  · exact va_tabs hg hvm h
  · exact word_at hW (good_of_word hg) h
/-- a list's words: the good ones out of the method's own list, the others by premises of their own -/
theorem vx_hat {args : Array Value} {s : State} {L B : List Cond} (h1 : ∀ w ∈ L.filter goodWord, w.before args s = true) (h2 : ∀ w ∈ L.filter (fun w => !goodWord w), w ∈ B) (h3 : ∀ w ∈ B, w.before args s = true) : ∀ w ∈ L, w.before args s = true := by
  intro w hw
  by_cases g : goodWord w = true
  · exact h1 w (List.mem_filter.mpr ⟨hw, g⟩)
  · refine h3 w (h2 w (List.mem_filter.mpr ⟨hw, ?_⟩))
    show (!goodWord w) = true
    cases hgw : goodWord w
    · rfl
    · exact absurd hgw g
theorem vx_c {args : Array Value} {s : State} {w : Cond} {B : List Cond} (h : w.before args s = true) (t : ∀ w ∈ B, w.before args s = true) : ∀ w' ∈ w :: B, w'.before args s = true := fun w' h' => (List.mem_cons.mp h').elim (fun e => by rw [e]; exact h) (t w')
theorem vx_n {args : Array Value} {s : State} : ∀ w ∈ ([] : List Cond), w.before args s = true := fun _ h => nomatch h
theorem vx_own {args : Array Value} {s : State} {L : List Cond} (h1 : ∀ w ∈ L.filter vx_no, w.before args s = true)
    (hU : (Cond.isRef (.static Bundle.tN "UNASSIGNED_STACK" Bundle.steD)).before args s = true) (hN : (Cond.isRef (.static Bundle.tN "SUPPRESSED_SENTINEL" Bundle.listD)).before args s = true)
    (lU : (Cond.laysStatic Bundle.tN "UNASSIGNED_STACK" Bundle.steD).before args s = true) (lN : (Cond.laysStatic Bundle.tN "SUPPRESSED_SENTINEL" Bundle.listD).before args s = true) : ∀ w ∈ L, w.before args s = true := by
  intro w hw
  by_cases e1 : w = .isRef (.static Bundle.tN "UNASSIGNED_STACK" Bundle.steD)
  · rw [e1]; exact hU
  · by_cases e2 : w = .isRef (.static Bundle.tN "SUPPRESSED_SENTINEL" Bundle.listD)
    · rw [e2]; exact hN
    · by_cases e3 : w = .laysStatic Bundle.tN "UNASSIGNED_STACK" Bundle.steD
      · rw [e3]; exact lU
      · by_cases e4 : w = .laysStatic Bundle.tN "SUPPRESSED_SENTINEL" Bundle.listD
        · rw [e4]; exact lN
        · exact h1 w (List.mem_filter.mpr ⟨hw, by unfold vx_no; rw [decide_eq_true e1, decide_eq_true e2, decide_eq_true e3, decide_eq_true e4]; rfl⟩)
/-- where a static field lies, its class's statics cell in H -/
def vx_L (C n d : String) (A : Nat → Prop) (U : State) (H : Heap) : Prop := ∃ (c : ClassId) (k : Class) (i : Nat) (f : Field) (a : Nat) (cell : Cell), U.vm.findClass C = some c ∧ U.fieldFound? C n d = some (c, k, i, f) ∧ f.isStatic = true ∧ k.statics = some a ∧ H[a]? = some cell ∧ cell.vm.isStatics = true ∧ cell.cls = c ∧ f.slot < cell.slots.size ∧ k.staticTypes[f.slot]? = some f.type ∧ ¬ A a
theorem vx_L.moved {C n d : String} {A : Nat → Prop} {u U : State} {H : Heap} (hvm : u.vm.Alike U.vm) (h : vx_L C n d A u H) : vx_L C n d A U H := by
  obtain ⟨c, k, i, f, a, cell, h1, h2, h3, h4, h5, h6, h7, h8, h9, h10⟩ := h
  obtain ⟨k', hi', he⟩ := State.fieldFound?_setVm hvm h2
  exact ⟨c, k', i, f, a, cell, by rw [hvm.findClass]; exact h1, hi', h3, by rw [he]; exact h4, h5, h6, h7, h8, by rw [he]; exact h9, h10⟩
theorem vx_L.kept {C n d : String} {A : Nat → Prop} {U : State} {H H1 : Heap} (h : vx_L C n d A U H) (hq : ∀ a : Nat, a < H.size → ¬ A a → H1[a]? = H[a]?) : vx_L C n d A U H1 := by
  obtain ⟨c, k, i, f, a, cell, h1, h2, h3, h4, h5, h6, h7, h8, h9, h10⟩ := h
  exact ⟨c, k, i, f, a, cell, h1, h2, h3, h4, by rw [hq a (Array.getElem?_eq_some_iff.mp h5).1 h10]; exact h5, h6, h7, h8, h9, h10⟩
theorem vx_L.narrow {C n d : String} {A B : Nat → Prop} {U : State} {H : Heap} (h : vx_L C n d A U H) (hAB : ∀ q, B q → A q) : vx_L C n d B U H := by
  obtain ⟨c, k, i, f, a, cell, h1, h2, h3, h4, h5, h6, h7, h8, h9, h10⟩ := h
  exact ⟨c, k, i, f, a, cell, h1, h2, h3, h4, h5, h6, h7, h8, h9, fun z => h10 (hAB _ z)⟩
theorem vx_L.word {C n d : String} {A : Nat → Prop} {s : State} {args : Array Value} (h : vx_L C n d A s s.heap) : (Cond.laysStatic C n d).before args s = true := by
  obtain ⟨c, k, i, f, a, cell, h1, h2, h3, h4, h5, h6, h7, h8, h9, -⟩ := h
  show (Cond.laysStatic C n d).holds args s none s [] = true
  exact Cond.laysStatic_of h1 h2 h3 h4 h5 h6 h7 h8 h9
/-- .. and what it holds: null or some reference -/
def vx_Zq (C n d : String) (A : Nat → Prop) (U : State) (H : Heap) : Prop := va_Zq C n d A U H ∧ vx_L C n d A U H
theorem vx_Zq.moved {C n d : String} {A : Nat → Prop} {u U : State} {H : Heap} (hvm : u.vm.Alike U.vm) (h : vx_Zq C n d A u H) : vx_Zq C n d A U H := ⟨va_Zq.moved hvm h.1, vx_L.moved hvm h.2⟩
theorem vx_Zq.kept {C n d : String} {A : Nat → Prop} {U : State} {H H1 : Heap} (h : vx_Zq C n d A U H) (hq : ∀ a : Nat, a < H.size → ¬ A a → H1[a]? = H[a]?) : vx_Zq C n d A U H1 := ⟨va_Zq.kept h.1 hq, vx_L.kept h.2 hq⟩
theorem vx_Zq.narrow {C n d : String} {A B : Nat → Prop} {U : State} {H : Heap} (h : vx_Zq C n d A U H) (hAB : ∀ q, B q → A q) : vx_Zq C n d B U H := ⟨va_Zq.narrow h.1 hAB, vx_L.narrow h.2 hAB⟩
theorem vx_Zqof {args : Array Value} {s : State} {C n d : String} {A : Nat → Prop} (hl : (Cond.laysStatic C n d).before args s = true) (hini : (Cond.initialized C).before args s = true) (h : (Cond.isRef (.static C n d)).before args s = true) (hA : ∀ a : Nat, a < s.heap.size → ¬ A a) : vx_Zq C n d A s s.heap := by
  refine ⟨va_Zqof hl hini h hA, ?_⟩
  obtain ⟨c, k, i, f, a, cell, h1, h2, h3, h4, h5, h6, h7, h8, h9⟩ := Cond.laysStatic_spec hl
  exact ⟨c, k, i, f, a, cell, h1, h2, h3, h4, h5, h6, h7, h8, h9, hA a (Array.getElem?_eq_some_iff.mp h5).1⟩
theorem vx_isRef {C n d : String} {v : Value} {A : Nat → Prop} {s : State} {args : Array Value} (h : va_Z C n d v A s s.heap) (hv : v.isRef = true) : (Cond.isRef (.static C n d)).before args s = true := by
  obtain ⟨cf, kf, fi, f, a, cell, h1, h2, h3, h4, h5, h6, h7, -⟩ := h
  have he : (Term.static C n d).eval args s none [] s = some v := by
    simp [Term.eval, State.fieldNamed?, h1, h2, h4, h5, h6, h7]
  simp only [Cond.before, Cond.holds, Cond.value, he]
  cases v <;> simp_all [Value.isRef]
theorem vx_isRefq {C n d : String} {A : Nat → Prop} {s : State} {args : Array Value} (h : va_Zq C n d A s s.heap) : (Cond.isRef (.static C n d)).before args s = true := by
  rcases h with h | ⟨t, h⟩
  · exact vx_isRef h rfl
  · exact vx_isRef h rfl
/-- the same frame, seen from here: as if the method were called anew in this heap -/
theorem vx_rebase {T : State} (X : Stand p l e R s m args below meth c T locs cells slots) {R' : Room} (hf : R'.frames ≤ R.frames) (hl : R'.locals ≤ R.locals) (hc : cells + R'.cells ≤ R.cells) (hs : slots + R'.slots ≤ R.slots) :
    Stand p l e R' ((T.setVm s.vm).setFrames (.invoking m args :: below)) m args below meth c T [] 0 0 := by
  have htop : (T.setVm s.vm).topJava?.isSome := X.here.top
  have hF : ((T.setVm s.vm).setFrames (.invoking m args :: below)).frames = .invoking m args :: below := State.frames_setFrames _ (State.cur_lt_of_top htop)
  obtain ⟨g₀, hg0⟩ := Option.isSome_iff_exists.mp htop
  obtain ⟨r, hr⟩ := State.topJava?_eq_some.mp hg0
  have hl9 : e.platform.stackLimits (T.setVm s.vm).me = e.platform.stackLimits s.me := X.limits
  have hb9 : (T.setVm s.vm).me.stackBytes = s.me.stackBytes := X.bytes
  refine ⟨X.admits, X.cas, X.clock, hF, ?_, X.hears, X.method, X.code, X.here, X.tail, X.warmed, ?_, ?_, ?_⟩
  · have h := X.room
    have hU : ((T.setVm s.vm).setFrames (.invoking m args :: below)).localsInUse = s.localsInUse := by
      rw [State.localsInUse_invoking hF (meth := meth) (c := c) X.method X.code, State.localsInUse_invoking X.frames X.method X.code]
    simp only [State.hasRoom, Bool.and_eq_true, decide_eq_true_eq] at h ⊢
    obtain ⟨⟨⟨⟨h1, h2, h3, h4, h5, h6⟩, h7⟩, h8⟩, h9⟩ := h
    rw [X.frames, List.length_cons] at h2 h3
    have q1 := X.heapSize
    have q2 := X.used
    simp only [hF, hU, List.length_cons, State.stackLimits_setFrames, State.stackBytes_setFrames, hl9, hb9]
    refine ⟨⟨⟨⟨by omega, by omega, by omega, by omega, by omega, h6⟩, ?_⟩, ?_⟩, X.book⟩
    · show T.heap.size + R'.cells ≤ e.platform.maxCells
      omega
    · show T.slotsUsed + R'.slots ≤ e.platform.maxSlots
      omega
  · rw [State.stackLimits_setFrames]; rfl
  · rw [State.stackBytes_setFrames]; rfl
  · refine ⟨?_, Nat.le_refl _, Nat.le_refl _, ?_, ?_, fun a c9 h9 => ⟨c9, h9, rfl, rfl, fun _ _ => rfl⟩⟩
    · obtain ⟨t, ht, -⟩ := State.frames_cons hr
      show T.setVm s.vm = { ((T.setVm s.vm).setFrames (.invoking m args :: below)).setFrames (T.setVm s.vm).frames with heap := T.heap, slotsUsed := T.slotsUsed }
      rw [State.setFrames_setFrames, State.setFrames_self ht]
      rfl
    · show T.slotsUsed = T.slotsUsed + ((T.heap.toList.drop T.heap.size).map (·.slots.size)).sum
      rw [List.drop_eq_nil_of_le (Nat.le_of_eq Array.length_toList)]
      rfl
    · show ((T.heap.toList.drop T.heap.size).map (·.slots.size)).sum ≤ 0
      rw [List.drop_eq_nil_of_le (Nat.le_of_eq Array.length_toList)]
      exact Nat.le_refl _
/-- 'throw new E()': new; dup; invokespecial; athrow -/
theorem vx_throw0 {cc : ByteArray} {pc : Nat} (hexec : p.tables.exec = Jvm.exec) (hb : c.code = cc) (hl : l.stackTraces = false) {own cls : String} {names : List String} {ik ic mc ms : Nat} {A : Nat → Prop}
    (hown : s.vm.findClass own = some m.cls) (hcls : Bundle.fit cls = true) (hnames : ∀ n ∈ names, Bundle.fit n = true)
    (hk : (Cond.classLink own ik cls).before args s = true) (hini : (Cond.initialized cls).before args s = true) (hat : ∀ w ∈ vx_at0 own ic cls names, w.before args s = true)
    (hgood : ∀ w ∈ Cond.classLink own ik cls :: Cond.initialized cls :: vx_at0 own ic cls names, vx_ot w = true)
    (hU : vx_Zq Bundle.tN "UNASSIGNED_STACK" Bundle.steD A s s.heap) (hN : vx_Zq Bundle.tN "SUPPRESSED_SENTINEL" Bundle.listD A s s.heap) (hS : va_S A s.heap H locs) (hsize : ls.size = c.maxLocals)
    (d0 : decode cc pc = .ok (.new ik, 3)) (d3 : decode cc (pc + 3) = .ok (.dup, 1)) (d4 : decode cc (pc + 4) = .ok (.invokespecial ic, 3)) (d7 : decode cc (pc + 7) = .ok (.athrow, 1))
    (hout : ∀ x ∈ c.exceptionTable.toList, covers x (pc + 7) = false)
    (hRframes : names.length + 3 < R.frames) (hRlocals : (rest.map fun v => v.category).sum + (13 * (names.length + 1) + 42) ≤ R.locals) (hRcells : cells + 1 ≤ R.cells) (hRslots : slots + 6 ≤ R.slots) (hlocks : meth.locks = false)
    (hx : ∀ t : State, s.vm.Alike t.vm → H.size ≤ t.heap.size → (∀ q : Nat, q < H.size → t.heap[q]? = H[q]?) → XC cls s t)
    (hf : ∀ z ∈ locs, free z.base) (hc : cells + 1 ≤ mc) (hs : slots + 6 ≤ ms) :
    W p l e R s m args below meth c H locs cells slots (vx_MQ below Qc XC args s mc ms free) (F0 m pc ls rest) := by
  intro T hT X
  have htr : e.platform.stackTraces = false := (show e.platform.stackTraces = l.stackTraces by rw [X.admits.platform]).trans hl
  have Y := vx_rebase X (R' := { frames := R.frames, locals := R.locals, cells := 1, slots := 6 }) (Nat.le_refl _) (Nat.le_refl _) hRcells hRslots
  obtain ⟨s', hA⟩ : ∃ z, z = (T.setVm s.vm).setFrames (.invoking m args :: below) := ⟨_, rfl⟩
  rw [← hA] at Y
  have hvm : s'.vm = s.vm := by rw [hA]; rfl
  have hhp : s'.heap = H := by rw [hA]; exact hT
  have hW0 : s.WarmedH s'.vm := by rw [hvm]; exact State.WarmedH.refl s
  have hat' : ∀ w ∈ vx_at0 own ic cls names, w.before args s' = true := fun w hw => vx_ot_at hW0 hvm.symm (hgood w (List.mem_cons_of_mem _ (List.mem_cons_of_mem _ hw))) (hat w hw)
  have hk' : (Cond.classLink own ik cls).before args s' = true := vx_ot_at hW0 hvm.symm (hgood _ List.mem_cons_self) hk
  have hini' : (Cond.initialized cls).before args s' = true := vx_ot_at hW0 hvm.symm (hgood _ (List.mem_cons_of_mem _ List.mem_cons_self)) hini
  have hU' : vx_Zq Bundle.tN "UNASSIGNED_STACK" Bundle.steD A s' s'.heap := by rw [hhp]; exact vx_Zq.moved hW0.alike (hU.kept hS.2.1)
  have hN' : vx_Zq Bundle.tN "SUPPRESSED_SENTINEL" Bundle.listD A s' s'.heap := by rw [hhp]; exact vx_Zq.moved hW0.alike (hN.kept hS.2.1)
  have h : ∀ w ∈ Bundle.ownAtoms0 own ic cls names, w.before args s' = true := vx_own hat' (vx_isRefq hU'.1) (vx_isRefq hN'.1) hU'.2.word hN'.2.word
  have hown' : s'.vm.findClass own = some m.cls := by rw [hvm]; exact hown
  have hins : (Cond.instantiable cls 6).before args s' = true := h _ (by simp [Bundle.ownAtoms0])
  obtain ⟨vm₁, cX, kX, hfX, hkX, -, -, X₁, st1⟩ := Y.newCold hexec (own := own) (C := cls) (index := ik) (n := 6) hown' hk' hins hini'
    (g := F0 m pc ls rest) rfl (by rw [hb]; exact d0) (Nat.le_refl _) (Nat.le_refl _)
  generalize hT1 : (T.setVm vm₁).pushCell { cls := cX, slots := kX.instanceTypes.map defaultValue, vm := .none } = T1 at X₁ st1
  have hcat : (Value.ref T.heap.size).category = 1 := rfl
  have hcellA : T1.heap[T.heap.size]? = some (freshCell cX kX) := by rw [← hT1]; exact State.heap_pushCell_size _ _
  have d3' : decode c.code (pc + 3) = .ok (.dup, 1) := by rw [hb]; exact d3
  obtain ⟨U, hsteps, hrun, hend, hW, hsame, ce, hce, hO⟩ := X₁.ctorThrow0 hexec htr (own := own) (cls := cls) (names := names) (ic := ic) hown' hcls hnames h (fun x hx => nomatch hx) hfX hkX hcellA (by rw [hhp, hT]; exact Nat.le_refl _)
    (g := { method := m, pc := pc + 4, locals := ls, stack := .ref T.heap.size :: .ref T.heap.size :: rest, locked := none }) rfl hsize rfl rfl (rest := rest) rfl
    (by rw [hb]; exact d4) (by rw [hb]; exact d7) hout hRframes (by simp only [List.map_cons, List.sum_cons, hcat]; omega) hlocks
  obtain ⟨f1, f2⟩ := vx_frame hsame
  rw [hhp] at f1 f2
  have hWs : s.WarmedH U.vm := State.WarmedH.trans hW0 hW
  have hcl : s.vm.findClass cls = some ce.cls := by
    have h9 := hO.cls
    rw [hvm] at h9
    exact h9
  have hall : s.sameButNew ({ U with vm := s.vm } : State) locs mc ms := by
    subst hA
    obtain ⟨e1, e2⟩ := hsame
    rw [State.setFrames_setFrames] at e1
    have h2 : (T.setVm s.vm).sameButNew ({ U with vm := s.vm } : State) [] (0 + 1) (0 + 6) := ⟨e1, e2⟩
    have h3 := X.same.trans h2
    rw [List.append_nil] at h3
    exact h3.mono hc hs
  refine ⟨U, ?_, .threw T.heap.size, hrun, hend, Or.inr ⟨T.heap.size, rfl, cls, ce, locs, hx U hWs.alike f1 (fun q hq => f2 q hq (fun z hz => nomatch hz)), hce, hO.vm, hcl, hWs, hall, hf⟩⟩
  refine st1 _ ?_
  show Steps p.tables e below (T1.setTop { method := m, pc := pc + 3, locals := ls, stack := .ref T.heap.size :: rest, locked := none }) _
  jvm_step X₁.here [X₁.here.top, hexec, d3', Value.category]
  exact hsteps
/-- 'throw new E("text")': new; dup; ldc; invokespecial; athrow -/
theorem vx_throwS {cc : ByteArray} {pc : Nat} (hexec : p.tables.exec = Jvm.exec) (hb : c.code = cc) (hl : l.stackTraces = false) {own cls text : String} {names : List String} {ik is ic mc ms sa : Nat} {A : Nat → Prop}
    (hown : s.vm.findClass own = some m.cls) (hcls : Bundle.fit cls = true) (hnames : ∀ n ∈ names, Bundle.fit n = true)
    (hk : (Cond.classLink own ik cls).before args s = true) (hini : (Cond.initialized cls).before args s = true) (hstr : vk_R own is text sa s) (hat : ∀ w ∈ vx_atS own ic cls names, w.before args s = true)
    (hgood : ∀ w ∈ Cond.classLink own ik cls :: Cond.initialized cls :: vx_atS own ic cls names, vx_ot w = true)
    (hU : vx_Zq Bundle.tN "UNASSIGNED_STACK" Bundle.steD A s s.heap) (hN : vx_Zq Bundle.tN "SUPPRESSED_SENTINEL" Bundle.listD A s s.heap) (hS : va_S A s.heap H locs) (hsize : ls.size = c.maxLocals)
    (d0 : decode cc pc = .ok (.new ik, 3)) (d3 : decode cc (pc + 3) = .ok (.dup, 1)) (d4 : decode cc (pc + 4) = .ok (.ldc is, 2)) (d6 : decode cc (pc + 6) = .ok (.invokespecial ic, 3)) (d9 : decode cc (pc + 9) = .ok (.athrow, 1))
    (hout : ∀ x ∈ c.exceptionTable.toList, covers x (pc + 9) = false)
    (hRframes : names.length + 3 < R.frames) (hRlocals : (rest.map fun v => v.category).sum + (13 * (names.length + 1) + 43) ≤ R.locals) (hRcells : cells + 1 ≤ R.cells) (hRslots : slots + 6 ≤ R.slots) (hlocks : meth.locks = false)
    (hx : ∀ t : State, s.vm.Alike t.vm → H.size ≤ t.heap.size → (∀ q : Nat, q < H.size → t.heap[q]? = H[q]?) → XC cls s t)
    (hf : ∀ z ∈ locs, free z.base) (hc : cells + 1 ≤ mc) (hs : slots + 6 ≤ ms) :
    W p l e R s m args below meth c H locs cells slots (vx_MQ below Qc XC args s mc ms free) (F0 m pc ls rest) := by
  intro T hT X
  have htr : e.platform.stackTraces = false := (show e.platform.stackTraces = l.stackTraces by rw [X.admits.platform]).trans hl
  have Y := vx_rebase X (R' := { frames := R.frames, locals := R.locals, cells := 1, slots := 6 }) (Nat.le_refl _) (Nat.le_refl _) hRcells hRslots
  obtain ⟨s', hA⟩ : ∃ z, z = (T.setVm s.vm).setFrames (.invoking m args :: below) := ⟨_, rfl⟩
  rw [← hA] at Y
  have hvm : s'.vm = s.vm := by rw [hA]; rfl
  have hhp : s'.heap = H := by rw [hA]; exact hT
  have hW0 : s.WarmedH s'.vm := by rw [hvm]; exact State.WarmedH.refl s
  have hat' : ∀ w ∈ vx_atS own ic cls names, w.before args s' = true := fun w hw => vx_ot_at hW0 hvm.symm (hgood w (List.mem_cons_of_mem _ (List.mem_cons_of_mem _ hw))) (hat w hw)
  have hk' : (Cond.classLink own ik cls).before args s' = true := vx_ot_at hW0 hvm.symm (hgood _ List.mem_cons_self) hk
  have hini' : (Cond.initialized cls).before args s' = true := vx_ot_at hW0 hvm.symm (hgood _ (List.mem_cons_of_mem _ List.mem_cons_self)) hini
  have hU' : vx_Zq Bundle.tN "UNASSIGNED_STACK" Bundle.steD A s' s'.heap := by rw [hhp]; exact vx_Zq.moved hW0.alike (hU.kept hS.2.1)
  have hN' : vx_Zq Bundle.tN "SUPPRESSED_SENTINEL" Bundle.listD A s' s'.heap := by rw [hhp]; exact vx_Zq.moved hW0.alike (hN.kept hS.2.1)
  have h : ∀ w ∈ Bundle.ownAtoms own ic cls names, w.before args s' = true := vx_own hat' (vx_isRefq hU'.1) (vx_isRefq hN'.1) hU'.2.word hN'.2.word
  have hown' : s'.vm.findClass own = some m.cls := by rw [hvm]; exact hown
  have hins : (Cond.instantiable cls 6).before args s' = true := h _ (by simp [Bundle.ownAtoms])
  obtain ⟨vm₁, cX, kX, hfX, hkX, -, -, X₁, st1⟩ := Y.newCold hexec (own := own) (C := cls) (index := ik) (n := 6) hown' hk' hins hini'
    (g := F0 m pc ls rest) rfl (by rw [hb]; exact d0) (Nat.le_refl _) (Nat.le_refl _)
  generalize hT1 : (T.setVm vm₁).pushCell { cls := cX, slots := kX.instanceTypes.map defaultValue, vm := .none } = T1 at X₁ st1
  have hcat : (Value.ref T.heap.size).category = 1 := rfl
  have hcellA : T1.heap[T.heap.size]? = some (freshCell cX kX) := by rw [← hT1]; exact State.heap_pushCell_size _ _
  have d3' : decode c.code (pc + 3) = .ok (.dup, 1) := by rw [hb]; exact d3
  have d4' : decode c.code (pc + 4) = .ok (.ldc is, 2) := by rw [hb]; exact d4
  have hstr' : vk_R own is text sa s' := vk_R.warm hW0 hstr
  obtain ⟨U, hsteps, hrun, hend, hW, hsame, ce, hce, hO⟩ := X₁.ctorThrowS hexec htr (own := own) (cls := cls) (names := names) (ic := ic) hown' hcls hnames h (fun x hx => nomatch hx) hfX hkX hcellA (by rw [hhp, hT]; exact Nat.le_refl _) (msg := .ref sa) rfl
    (g := { method := m, pc := pc + 6, locals := ls, stack := .ref sa :: .ref T.heap.size :: .ref T.heap.size :: rest, locked := none }) rfl hsize rfl rfl (rest := rest) rfl
    (by rw [hb]; exact d6) (by rw [hb]; exact d9) hout hRframes (by simp only [List.map_cons, List.sum_cons, hcat]; omega) hlocks
  obtain ⟨f1, f2⟩ := vx_frame hsame
  rw [hhp] at f1 f2
  have hWs : s.WarmedH U.vm := State.WarmedH.trans hW0 hW
  have hcl : s.vm.findClass cls = some ce.cls := by
    have h9 := hO.cls
    rw [hvm] at h9
    exact h9
  have hall : s.sameButNew ({ U with vm := s.vm } : State) locs mc ms := by
    subst hA
    obtain ⟨e1, e2⟩ := hsame
    rw [State.setFrames_setFrames] at e1
    have h2 : (T.setVm s.vm).sameButNew ({ U with vm := s.vm } : State) [] (0 + 1) (0 + 6) := ⟨e1, e2⟩
    have h3 := X.same.trans h2
    rw [List.append_nil] at h3
    exact h3.mono hc hs
  refine ⟨U, ?_, .threw T.heap.size, hrun, hend, Or.inr ⟨T.heap.size, rfl, cls, ce, locs, hx U hWs.alike f1 (fun q hq => f2 q hq (fun z hz => nomatch hz)), hce, hO.vm, hcl, hWs, hall, hf⟩⟩
  refine st1 _ ?_
  show Steps p.tables e below (T1.setTop { method := m, pc := pc + 3, locals := ls, stack := .ref T.heap.size :: rest, locked := none }) _
  jvm_step X₁.here [X₁.here.top, hexec, d3', Value.category]
  exact X₁.ldcString hexec (own := own) (text := text) (index := is) (a := sa) hown' hstr'.1 hstr'.2
    (g := { method := m, pc := pc + 4, locals := ls, stack := .ref T.heap.size :: .ref T.heap.size :: rest, locked := none }) rfl d4' _ hsteps
/-- 'throw new E("text")', the text by a wide index -/
theorem vx_throwSW {cc : ByteArray} {pc : Nat} (hexec : p.tables.exec = Jvm.exec) (hb : c.code = cc) (hl : l.stackTraces = false) {own cls text : String} {names : List String} {ik is ic mc ms sa : Nat} {A : Nat → Prop}
    (hown : s.vm.findClass own = some m.cls) (hcls : Bundle.fit cls = true) (hnames : ∀ n ∈ names, Bundle.fit n = true)
    (hk : (Cond.classLink own ik cls).before args s = true) (hini : (Cond.initialized cls).before args s = true) (hstr : vk_R own is text sa s) (hat : ∀ w ∈ vx_atS own ic cls names, w.before args s = true)
    (hgood : ∀ w ∈ Cond.classLink own ik cls :: Cond.initialized cls :: vx_atS own ic cls names, vx_ot w = true)
    (hU : vx_Zq Bundle.tN "UNASSIGNED_STACK" Bundle.steD A s s.heap) (hN : vx_Zq Bundle.tN "SUPPRESSED_SENTINEL" Bundle.listD A s s.heap) (hS : va_S A s.heap H locs) (hsize : ls.size = c.maxLocals)
    (d0 : decode cc pc = .ok (.new ik, 3)) (d3 : decode cc (pc + 3) = .ok (.dup, 1)) (d4 : decode cc (pc + 4) = .ok (.ldc_w is, 3)) (d7 : decode cc (pc + 7) = .ok (.invokespecial ic, 3)) (d10 : decode cc (pc + 10) = .ok (.athrow, 1))
    (hout : ∀ x ∈ c.exceptionTable.toList, covers x (pc + 10) = false)
    (hRframes : names.length + 3 < R.frames) (hRlocals : (rest.map fun v => v.category).sum + (13 * (names.length + 1) + 43) ≤ R.locals) (hRcells : cells + 1 ≤ R.cells) (hRslots : slots + 6 ≤ R.slots) (hlocks : meth.locks = false)
    (hx : ∀ t : State, s.vm.Alike t.vm → H.size ≤ t.heap.size → (∀ q : Nat, q < H.size → t.heap[q]? = H[q]?) → XC cls s t)
    (hf : ∀ z ∈ locs, free z.base) (hc : cells + 1 ≤ mc) (hs : slots + 6 ≤ ms) :
    W p l e R s m args below meth c H locs cells slots (vx_MQ below Qc XC args s mc ms free) (F0 m pc ls rest) := by
  intro T hT X
  have htr : e.platform.stackTraces = false := (show e.platform.stackTraces = l.stackTraces by rw [X.admits.platform]).trans hl
  have Y := vx_rebase X (R' := { frames := R.frames, locals := R.locals, cells := 1, slots := 6 }) (Nat.le_refl _) (Nat.le_refl _) hRcells hRslots
  obtain ⟨s', hA⟩ : ∃ z, z = (T.setVm s.vm).setFrames (.invoking m args :: below) := ⟨_, rfl⟩
  rw [← hA] at Y
  have hvm : s'.vm = s.vm := by rw [hA]; rfl
  have hhp : s'.heap = H := by rw [hA]; exact hT
  have hW0 : s.WarmedH s'.vm := by rw [hvm]; exact State.WarmedH.refl s
  have hat' : ∀ w ∈ vx_atS own ic cls names, w.before args s' = true := fun w hw => vx_ot_at hW0 hvm.symm (hgood w (List.mem_cons_of_mem _ (List.mem_cons_of_mem _ hw))) (hat w hw)
  have hk' : (Cond.classLink own ik cls).before args s' = true := vx_ot_at hW0 hvm.symm (hgood _ List.mem_cons_self) hk
  have hini' : (Cond.initialized cls).before args s' = true := vx_ot_at hW0 hvm.symm (hgood _ (List.mem_cons_of_mem _ List.mem_cons_self)) hini
  have hU' : vx_Zq Bundle.tN "UNASSIGNED_STACK" Bundle.steD A s' s'.heap := by rw [hhp]; exact vx_Zq.moved hW0.alike (hU.kept hS.2.1)
  have hN' : vx_Zq Bundle.tN "SUPPRESSED_SENTINEL" Bundle.listD A s' s'.heap := by rw [hhp]; exact vx_Zq.moved hW0.alike (hN.kept hS.2.1)
  have h : ∀ w ∈ Bundle.ownAtoms own ic cls names, w.before args s' = true := vx_own hat' (vx_isRefq hU'.1) (vx_isRefq hN'.1) hU'.2.word hN'.2.word
  have hown' : s'.vm.findClass own = some m.cls := by rw [hvm]; exact hown
  have hins : (Cond.instantiable cls 6).before args s' = true := h _ (by simp [Bundle.ownAtoms])
  obtain ⟨vm₁, cX, kX, hfX, hkX, -, -, X₁, st1⟩ := Y.newCold hexec (own := own) (C := cls) (index := ik) (n := 6) hown' hk' hins hini'
    (g := F0 m pc ls rest) rfl (by rw [hb]; exact d0) (Nat.le_refl _) (Nat.le_refl _)
  generalize hT1 : (T.setVm vm₁).pushCell { cls := cX, slots := kX.instanceTypes.map defaultValue, vm := .none } = T1 at X₁ st1
  have hcat : (Value.ref T.heap.size).category = 1 := rfl
  have hcellA : T1.heap[T.heap.size]? = some (freshCell cX kX) := by rw [← hT1]; exact State.heap_pushCell_size _ _
  have d3' : decode c.code (pc + 3) = .ok (.dup, 1) := by rw [hb]; exact d3
  have d4' : decode c.code (pc + 4) = .ok (.ldc_w is, 3) := by rw [hb]; exact d4
  have hstr' : vk_R own is text sa s' := vk_R.warm hW0 hstr
  obtain ⟨U, hsteps, hrun, hend, hW, hsame, ce, hce, hO⟩ := X₁.ctorThrowS hexec htr (own := own) (cls := cls) (names := names) (ic := ic) hown' hcls hnames h (fun x hx => nomatch hx) hfX hkX hcellA (by rw [hhp, hT]; exact Nat.le_refl _) (msg := .ref sa) rfl
    (g := { method := m, pc := pc + 7, locals := ls, stack := .ref sa :: .ref T.heap.size :: .ref T.heap.size :: rest, locked := none }) rfl hsize rfl rfl (rest := rest) rfl
    (by rw [hb]; exact d7) (by rw [hb]; exact d10) hout hRframes (by simp only [List.map_cons, List.sum_cons, hcat]; omega) hlocks
  obtain ⟨f1, f2⟩ := vx_frame hsame
  rw [hhp] at f1 f2
  have hWs : s.WarmedH U.vm := State.WarmedH.trans hW0 hW
  have hcl : s.vm.findClass cls = some ce.cls := by
    have h9 := hO.cls
    rw [hvm] at h9
    exact h9
  have hall : s.sameButNew ({ U with vm := s.vm } : State) locs mc ms := by
    subst hA
    obtain ⟨e1, e2⟩ := hsame
    rw [State.setFrames_setFrames] at e1
    have h2 : (T.setVm s.vm).sameButNew ({ U with vm := s.vm } : State) [] (0 + 1) (0 + 6) := ⟨e1, e2⟩
    have h3 := X.same.trans h2
    rw [List.append_nil] at h3
    exact h3.mono hc hs
  refine ⟨U, ?_, .threw T.heap.size, hrun, hend, Or.inr ⟨T.heap.size, rfl, cls, ce, locs, hx U hWs.alike f1 (fun q hq => f2 q hq (fun z hz => nomatch hz)), hce, hO.vm, hcl, hWs, hall, hf⟩⟩
  refine st1 _ ?_
  show Steps p.tables e below (T1.setTop { method := m, pc := pc + 3, locals := ls, stack := .ref T.heap.size :: rest, locked := none }) _
  jvm_step X₁.here [X₁.here.top, hexec, d3', Value.category]
  exact X₁.ldcStringW hexec (own := own) (text := text) (index := is) (a := sa) hown' hstr'.1 hstr'.2
    (g := { method := m, pc := pc + 4, locals := ls, stack := .ref T.heap.size :: .ref T.heap.size :: rest, locked := none }) rfl d4' _ hsteps
end Ends
section Bodies
variable {l : Launch}
theorem vx_ofW {y : MethodName} {ws ws' : List Cond} {rm : Room} {Pc : Array Value → State → Prop} {Qc : Array Value → State → Outcome → State → Prop} {XC : String → State → State → Prop} {mc ms : Nat} {free : Addr → Prop} {cc : ByteArray} {maxL : Nat} {ret : Option FieldType}
    (hy : plainName y.cls = true) (hw : ws = Cond.code y cc maxL ret :: ws')
    (body : ∀ p e s m args below meth c s₁, BodyLoose p l y (headSpec ws rm) cc maxL ret e s m args below meth c s₁ → c.maxLocals = maxL → (∀ x ∈ c.exceptionTable.toList, False) → Pc args s →
      W p l e (headSpec ws rm).room s m args below meth c s.heap [] 0 0 (vx_MQ below Qc XC args s mc ms free) (entryFrame m args maxL)) : vx_Met l y ws rm Pc Qc XC mc ms free := by
  refine MetFree.of_bodyS (code := cc) (maxLocals := maxL) (ret := ret) hy ?_ ?_
  · intro args s m h hn
    obtain ⟨meth, c, h1, h2, h3, h4, h5, h6, -, -⟩ := Cond.code_spec hn (atoms_spec (ws := ws) h _ (by rw [hw]; exact List.mem_cons_self))
    exact ⟨meth, c, h1, h2, h3, h4, h5, h6⟩
  · intro p e s m args below meth c s₁ B hml hP _
    have hh0 : s₁.heap = s.heap := by rw [B.state]; rfl
    have ht : ∀ x ∈ c.exceptionTable.toList, False := by
      obtain ⟨meth9, c9, h1, h2, -, -, -, -, h7, -⟩ := Cond.code_spec B.named (atoms_spec (ws := ws) B.pre _ (by rw [hw]; exact List.mem_cons_self))
      cases Option.some.inj (h1.symm.trans B.method)
      cases Option.some.inj (h2.symm.trans (Stand.of_body B).code)
      intro x hx
      rw [Array.isEmpty_iff.mp h7] at hx
      cases hx
    obtain ⟨t, a1, o, b1, b2, b3⟩ := body p e s m args below meth c s₁ B hml ht hP s₁ hh0 (Stand.of_body B)
    exact ⟨t, o, a1, b1, b2, b3⟩
/-- the table of a body with handlers -/
theorem vx_table {p : Program} {x y : MethodName} {S : Spec} {cc bytes : ByteArray} {maxL maxL' : Nat} {ret ret' : Option FieldType} {e : Env} {s s₁ : State} {m : MethodId} {args : Array Value} {below : List Frame} {meth : Method} {c : Code} {hh : List (Nat × Nat × Nat × Nat)}
    (B : BodyLoose p l y S cc maxL ret e s m args below meth c s₁) (h : (Cond.codeWith y bytes maxL' ret' hh).before args s = true) : c.exceptionTable.toList = tableOf hh := by
  obtain ⟨m9, meth9, c9, hn9, h1, h2, -, -, h6, -⟩ := Cond.codeWith_spec h
  cases Option.some.inj (hn9.symm.trans B.named)
  cases Option.some.inj (h1.symm.trans B.method)
  cases Option.some.inj (h2.symm.trans (Stand.of_body B).code)
  rw [← h6, table_eq]
end Bodies
end VXA
/-! ===== END ===== -/
/-! ===== BEGIN a static call of a method with an exception table ===== -/
section VXS
variable {p : Program} {l : Launch} {e : Env} {R : Room} {s : State} {m : MethodId} {args : Array Value} {below : List Frame} {meth : Method} {c : Code} {T : State} {H : Heap} {locs : List Loc} {cells slots : Nat}
abbrev vx_CSW (R : Room) (s : State) (args : Array Value) (own : String) (index : Nat) (y : MethodName) (bytes : ByteArray) (maxL : Nat) (ret : Option FieldType) (hh : List (Nat × Nat × Nat × Nat)) (ws : List Cond) (rm : Room) (mc ms n : Nat) : Prop :=
  (rm.cells = mc ∧ rm.slots = ms ∧ rm.frames + 1 ≤ R.frames ∧ 8 + (maxL + 11) + rm.locals ≤ R.locals ∧ (∀ w ∈ ws, ∀ (a' : Array Value) (U : State), s.WarmedH U.vm → w.before a' U = true) ∧ Cond.codeWith y bytes maxL ret hh ∈ ws) ∧
  (Cond.codeWith y bytes maxL ret hh).before args s = true ∧ (Cond.initialized y.cls).before args s = true ∧ (y.cls ≠ "java/lang/invoke/MethodHandle" ∧ y.cls ≠ "java/lang/invoke/VarHandle") ∧
  (∀ sig, parseMethodDescriptor y.desc = some sig → n = sig.parameters.length) ∧ (Cond.methodLink own index y).before args s = true ∧ (Cond.static y).before args s = true
theorem vx_cwSW {own : String} {index maxL mc ms : Nat} {y : MethodName} {bytes : ByteArray} {ret : Option FieldType} {hh : List (Nat × Nat × Nat × Nat)} {Ts ws ws' : List Cond} {rm : Room} (n : Nat) (ht : ∀ w ∈ Ts, w.before args s = true) (hT : GoodIn Ts (va_wsS own index y ws)) (hw : ws = Cond.codeWith y bytes maxL ret hh :: ws') (hrc : rm.cells = mc) (hrs : rm.slots = ms)
    (hd : y.cls ≠ "java/lang/invoke/MethodHandle" ∧ y.cls ≠ "java/lang/invoke/VarHandle" ∧ (parseMethodDescriptor y.desc).map (fun d => d.parameters.length) = some n) (hR : rm.frames + 1 ≤ R.frames ∧ 8 + (maxL + 11) + rm.locals ≤ R.locals) :
    vx_CSW R s args own index y bytes maxL ret hh ws rm mc ms n := by
  have ok : ∀ w ∈ va_wsS own index y ws, w.before args s = true := fun w h => ht w (hT w h).1
  have hG : GoodIn Ts ws := fun w h => hT w (by unfold va_wsS; exact List.mem_append_right _ h)
  have hc : Cond.codeWith y bytes maxL ret hh ∈ ws := by rw [hw]; exact List.mem_cons_self
  refine ⟨⟨hrc, hrs, hR.1, hR.2, pay_in ht hG, hc⟩, ht _ (hG _ hc).1, ok _ (by simp [va_wsS]), ⟨hd.1, hd.2.1⟩, fun sig h => ?_, ok _ (by simp [va_wsS]), ok _ (by simp [va_wsS])⟩
  have h2 := hd.2.2
  rw [h] at h2
  exact (Option.some.inj h2).symm
theorem vx_callSW (X : Stand p l e R s m args below meth c T locs cells slots) (hexec : p.tables.exec = Jvm.exec) {own : String} {index : Nat} {y : MethodName} {bytes : ByteArray} {maxL : Nat} {ret : Option FieldType} {hh : List (Nat × Nat × Nat × Nat)}
    (hown : s.vm.findClass own = some m.cls) (hlink : (Cond.methodLink own index y).before args s = true) (hstat : (Cond.static y).before args s = true) (hinit : (Cond.initialized y.cls).before args s = true)
    (hcode : (Cond.codeWith y bytes maxL ret hh).before args s = true) (hy : y.cls ≠ "java/lang/invoke/MethodHandle" ∧ y.cls ≠ "java/lang/invoke/VarHandle")
    {W9 : Nat} {Pre : Pt → Array Value → Prop} {Post : Pt → Array Value → Option Value → Pt → Prop} (hK : Back l R p e below s args y 3 W9 Pre Post)
    {g : JFrame} (hg : g.method = m) (hsize : g.locals.size = c.maxLocals) {argsL rest : List Value} (hlen : ∀ sig, parseMethodDescriptor y.desc = some sig → argsL.length = sig.parameters.length)
    (hstack : g.stack = argsL.reverse ++ rest) (hW : 2 * g.monitorRoom + (rest.map fun v => v.category).sum ≤ W9) (hdg : decode c.code g.pc = .ok (.invokestatic index, 3))
    (hpre : ∀ vm₁, s.WarmedH vm₁ → Pre ⟨T.setVm vm₁, locs, cells, slots⟩ argsL.toArray) :
    ∃ (v : Option Value) (vm₁ : Vm) (B : Pt), s.WarmedH vm₁ ∧ Stand p l e R s m args below meth c B.U B.locs B.cells B.slots ∧ Post ⟨T.setVm vm₁, locs, cells, slots⟩ argsL.toArray v B ∧
      ∀ target, Steps p.tables e below (B.U.setTop { g with pc := g.pc + 3, stack := v.toList ++ rest }) target → Steps p.tables e below (T.setTop g) target := by
  obtain ⟨mk, methM, cM, hnamed, hmethM, -, -, -, -, -, -, hsigM⟩ := Cond.codeWith_spec hcode
  have hstatic : methM.isStatic = true := Cond.static_spec hnamed hmethM hstat
  obtain ⟨kP, hkP, -⟩ := className_of_methodNamed hnamed
  have hinitP : kP.init = .initialized := Cond.initialized_spec (findClass_of_methodNamed hnamed) hkP hinit
  obtain ⟨vm₁, X₁, hstep₁⟩ := X.invokestatic hexec hown hlink hnamed hmethM hstatic hkP hinitP hy (g := g) hg (argsL := argsL) (rest := rest) (hlen _ hsigM) hstack hdg
  obtain ⟨v, B, X', hpost, hsteps⟩ := hK m meth c ⟨T.setVm vm₁, locs, cells, slots⟩ { g with stack := rest } (.invokestatic index) mk argsL.toArray X₁ hg hsize hdg hW (X₁.named hnamed) (hpre vm₁ X₁.warmed)
  exact ⟨v, vm₁, B, X₁.warmed, X', hpost, fun target h => hstep₁ _ fun acts => by rw [doInvoke_state]; exact hsteps.trans h⟩
theorem vx_runSW {y : MethodName} {bytes cc : ByteArray} {maxL nL mc ms n index : Nat} {ret : Option FieldType} {hh : List (Nat × Nat × Nat × Nat)} {ws : List Cond} {rm : Room} {Pc : Array Value → State → Prop} {Qc : Array Value → State → Outcome → State → Prop} {free : Addr → Prop} {Ts : List Cond} {own : String} {As rest : List Value} {g : JFrame}
    (S : CallFix p m c cc nL s args Ts own) (hM : Met l y ws rm Pc Qc mc ms free) (cw : vx_CSW R s args own index y bytes maxL ret hh ws rm mc ms n) (hp : PreS s H Pc As)
    (hg : g.method = m) (hn : As.length = n) (hsize : g.locals.size = nL) (hstack : g.stack = As.reverse ++ rest) (hW : 2 * g.monitorRoom + (rest.map fun v => v.category).sum ≤ 8) (hdg : decode cc g.pc = .ok (.invokestatic index, 3)) (hf : cells + mc ≤ R.cells ∧ slots + ms ≤ R.slots) :
    va_Run p l e R s m args below meth c H locs cells slots mc ms g rest (Qc As.toArray) (free) := by
  obtain ⟨⟨hrc, hrs, hfr, hlo, hws, hcw⟩, hcode, hini, hy, hlen, hl, hstt⟩ := cw
  have hK : Back l R p e below s args y 3 8 (PreOf R mc ms Pc) (PostOf Qc mc ms free) := va_backW (hh := hh) (bytes := bytes) (maxL := maxL) (ret := ret) hM hp.1 hrc hrs hfr hlo hws hcw (fun a' U hW => word_at hW (Or.inl (by first | rfl | simp [Cond.onTables, Cond.keeps, Cond.steady])) hini)
  obtain ⟨hx, hb, hml, ho, -⟩ := S
  intro T hT X
  obtain ⟨v, vm₁, ⟨U', l2, c2, s2⟩, hW₁, X', ⟨g', mk, t, L, e1, e2, hq, h1, hL, h2, h3⟩, st⟩ := vx_callSW X hx (hh := hh) (bytes := bytes) (maxL := maxL) (ret := ret) ho hl hstt hini hcode hy hK hg (hsize.trans hml.symm) (argsL := As) (rest := rest) (fun sig h => hn.trans (hlen sig h)) hstack hW (by rw [hb]; exact hdg)
    (fun vm₁ hW₁ => ⟨hf.1, hf.2, hp.2 (T.setVm vm₁) hT hW₁⟩)
  dsimp only [Pt.U, Pt.locs, Pt.cells, Pt.slots] at X' e1 e2 h1 h2 h3 st
  subst h1; subst h2; subst h3
  exact ⟨v, (T.setVm vm₁).calling g' mk As.toArray, t, U', L, hT, X', hL, e1, e2, hq, st⟩
/-- not caught here, past rows that name other classes: it goes on to the caller -/
theorem vx_outP {p : Program} {l : Launch} {e : Env} {R : Room} {s : State} {m : MethodId} {args : Array Value} {below : List Frame} {meth : Method} {c : Code} {H : Heap} {locs : List Loc} {cells slots : Nat} {free : Addr → Prop} {ls : Array Slot} {rest : List Value} {Qc : Array Value → State → Outcome → State → Prop} {XC : String → State → State → Prop}
    {pc : Nat} {own E : String} {ce : Cell} {q : Addr} {mc ms : Nat} (hown : s.vm.findClass own = some m.cls) (hlocks : meth.locks = false)
    (hpass : ∀ z ∈ c.exceptionTable.toList, covers z pc = false ∨ (z.catchType ≠ 0 ∧ ∃ nm : String, (Cond.classLink own z.catchType nm).before args s = true ∧ va_Nc E nm s)) (hcell : H[q]? = some ce) (hv : ce.vm = .none) (hcl : s.vm.findClass E = some ce.cls)
    (hx : ∀ t : State, t.heap = H → s.vm.Alike t.vm → XC E s t) (hf : ∀ z ∈ locs, free z.base) (hc : cells ≤ mc) (hs : slots ≤ ms) :
    vx_W p l e R s m args below meth c H locs cells slots (vx_MQ below Qc XC args s mc ms free) (F0 m pc ls rest) q := by
  intro T hT X
  have hpl : e.platform.magicAccessors = ({} : Platform).magicAccessors := by rw [X.admits.platform]
  obtain ⟨vm', hW', X', st⟩ := X.outThrough hlocks q (g := F0 m pc ls rest) rfl rfl rfl (cell := ce) (by rw [hT]; exact hcell) (by rw [hv]; rfl)
    (by obtain ⟨k9, h9, -⟩ := Vm.findClass_spec hcl; exact ⟨k9, h9⟩) (fun z hz => by
      rcases hpass z hz with h | ⟨hz0, nm, hl1, hn1⟩
      · exact Or.inl h
      · obtain ⟨c6, hc6, hcl6⟩ := Cond.classLink_spec hown hl1 e.platform hpl
        obtain ⟨a8, b8, h1, h2, h3⟩ := hn1
        cases Option.some.inj (h1.symm.trans hcl)
        cases Option.some.inj (h2.symm.trans hc6)
        exact Or.inr ⟨hz0, _, hcl6, h3⟩)
  obtain ⟨g₀, hfr⟩ := X'.frames_eq
  have hcell9 : ((T.setVm vm').setFrames (.throwing q :: below)).heap[q]? = some ce := by
    show T.heap[q]? = some ce
    rw [hT]; exact hcell
  have hend : Ended ((T.setVm vm').setFrames (.throwing q :: below)) below (.threw q) := State.frames_setFrames _ (State.cur_lt_of_frames hfr)
  refine ⟨(T.setVm vm').setFrames (.throwing q :: below), ?_, .threw q, X'.here.running, hend, Or.inr ⟨q, rfl, E, ce, locs, hx _ hT (X'.ends _).1.alike, hcell9, hv, hcl, (X'.ends _).1, (X'.ends _).2.mono hc hs, hf⟩⟩
  rw [X.pushThrowing_eq]
  exact st
/-- a thing of a world lies in the heap -/
theorem vx_lt {D : va_G} {cl : List vw_C} {ws : va_W} {H1 : Heap} (h : va_P D cl ws H1) {k : Nat} {q : Nat × va_E} (hk : ws[k]? = some q) : q.1 < H1.size := (h k q hk).lt
end VXS
/-! ===== END ===== -/
/-! ===== BEGIN methods with a table of their own: called by a name, returning or throwing ===== -/
section VXH
/-! vx_backW, vx_callVX, vx_callSX, vx_callVW, vx_runVW, vx_runVX, vx_runSX, vx_ofWH follow the same proofs as their sisters above (Free/Laws.lean, Shelf42/LK1.lean); vx_outP calls Shelf42/NT130.lean (outThrough). -/
section
variable {l : Launch} {R : Room} {p : Program} {e : Env} {below : List Frame} {s : State} {sargs : Array Value} {y : MethodName} {len W9 : Nat}
theorem vx_backW {ws : List Cond} {rm : Room} {Pc : Array Value → State → Prop} {Qc : Array Value → State → Outcome → State → Prop} {XC : String → State → State → Prop} {mc ms : Nat} {free : Addr → Prop} {bytes : ByteArray} {maxL : Nat} {ret : Option FieldType} {hh : List (Nat × Nat × Nat × Nat)}
    (hM : vx_Met l y ws rm Pc Qc XC mc ms free) (hblind : FrameBlind Pc) (hrc : rm.cells = mc) (hrs : rm.slots = ms)
    (hframes : rm.frames + 1 ≤ R.frames) (hlocals : W9 + (maxL + 11) + rm.locals ≤ R.locals)
    (hws : ∀ w ∈ ws, ∀ a' U, s.WarmedH U.vm → w.before a' U = true) (hcode : Cond.codeWith y bytes maxL ret hh ∈ ws) (hinit : ∀ a' U, s.WarmedH U.vm → (Cond.initialized y.cls).before a' U = true) :
    vx_Back l R p e below s sargs y len W9 (PreOf R mc ms Pc) (PostOf Qc mc ms free) (vx_Post XC mc ms free) := by
  intro m meth c A g ig mk a X hg hsize hdg hW hn hp
  have h1 : (headSpec ws rm).pre.before a A.U = true := atoms_intro fun w hw => hws w hw _ _ X.warmed
  have h2 : (Cond.codeWith y bytes maxL ret hh).before a A.U = true := hws _ hcode _ _ X.warmed
  have h3 : (Cond.initialized y.cls).before a A.U = true := hinit _ _ X.warmed
  have h4 : A.cells + (headSpec ws rm).room.cells ≤ R.cells := by rw [show (headSpec ws rm).room.cells = mc from hrc]; exact hp.1
  have h5 : A.slots + (headSpec ws rm).room.slots ≤ R.slots := by rw [show (headSpec ws rm).room.slots = ms from hrs]; exact hp.2.1
  have hPc : Pc a (A.U.calling g mk a) := hblind _ _ _ _ hp.2.2
  obtain ⟨U, Ls, c0, s0⟩ := A
  dsimp only [Pt.U, Pt.locs, Pt.cells, Pt.slots] at h1 h2 h3 h4 h5 X hn hPc ⊢
  obtain ⟨m9, methY, cY, hn9, hmY, hcY, -, hlY, -⟩ := Cond.codeWith_spec h2
  cases Option.some.inj (hn9.symm.trans hn)
  obtain ⟨kY, hkY, -⟩ := className_of_methodNamed hn
  have hinitY : kY.init = .initialized := Cond.initialized_spec (findClass_of_methodNamed hn) hkY h3
  have h : At U g.method c below := by rw [hg]; exact X.here
  have hlocals9 : W9 + (maxL + 11) + (headSpec ws rm).room.locals ≤ R.locals := hlocals
  have happ : (headSpec ws rm).appliesLoose y e.platform (U.calling g mk a) = true :=
    Spec.appliesLoose_calling (g := g) h hdg hn hkY hinitY
      (X.room_calling (g := g) (R' := (headSpec ws rm).room) hsize hmY hcY hframes (by rw [hlY]; omega) h4 h5) h1
  obtain ⟨mid, hmid⟩ := h.above
  have hfr : (U.setTop g).frames = (.java g :: mid) ++ below := by rw [State.frames_setTop' g h.top, hmid]; rfl
  obtain ⟨o, s₂, hsteps, -, hend, hq⟩ := Steps.callFree hM p X.admits X.cas X.clock (acts := []) hfr happ hPc trivial
  have hq' : vx_Q Qc XC mc ms free a (U.calling g mk a) o s₂ := hq
  rw [State.frames_setTop' g h.top] at hend
  obtain ⟨g₀, hg0⟩ := Option.isSome_iff_exists.mp h.top
  obtain ⟨r, hr⟩ := State.topJava?_eq_some.mp hg0
  have hr' : (({ U with heap := s₂.heap, slotsUsed := s₂.slotsUsed } : State).setVm s₂.vm).frames = .java g₀ :: r := hr
  rcases hq' with ⟨hqc, L, hfe, hL⟩ | ⟨q, rfl, E, ce, L, hx, hce, hcv, hcl, hW₂, hsm, hL⟩
  · obtain ⟨⟨v, rfl⟩, hW₂, e2, q2, q3, q4, q5, q6⟩ := id hfe
    have e3 : s₂ = ({ (U.calling g mk a).setFrames s₂.frames with heap := s₂.heap, slotsUsed := s₂.slotsUsed } : State).setVm s₂.vm := by
      have : s₂ = ({ s₂ with vm := (U.calling g mk a).vm } : State).setVm s₂.vm := rfl
      rw [e2] at this
      exact this
    obtain ⟨c₂, i₂, len₂, hc₂, hd₂, hf₂⟩ := hend
    have hW' : U.WarmedH s₂.vm := hW₂
    have hcc : c₂ = c := by
      have h1 : s₂.code? g.method = U.code? g.method := by
        rw [State.code?_eq, State.code?_eq, hW'.alike.method?]
      exact Option.some.inj (hc₂.symm.trans (h1.trans h.code))
    subst hcc
    have hlen : len₂ = len := by rw [hdg] at hd₂; cases hd₂; rfl
    subst hlen
    have hs₂ : s₂ = (({ U with heap := s₂.heap, slotsUsed := s₂.slotsUsed } : State).setVm s₂.vm).setTop { g with pc := g.pc + len₂, stack := v.toList ++ g.stack } := by
      refine e3.trans ?_
      rw [hf₂, State.calling_eq h.top, State.setFrames_setFrames, State.setTop_of_frames _ hr', hr]
      rfl
    have hsame : U.sameButNew ({ U with heap := s₂.heap, slotsUsed := s₂.slotsUsed } : State) L mc ms := by
      refine ⟨?_, q2, q3, q4, q5, q6⟩
      obtain ⟨t, ht, -⟩ := State.frames_cons hr
      show ({ U with heap := s₂.heap, slotsUsed := s₂.slotsUsed } : State) = { U.setFrames U.frames with heap := s₂.heap, slotsUsed := s₂.slotsUsed }
      rw [State.setFrames_self ht]
    subst hg
    refine Or.inl ⟨v, ⟨(({ U with heap := s₂.heap, slotsUsed := s₂.slotsUsed } : State).setVm s₂.vm), Ls ++ L, c0 + mc, s0 + ms⟩,
      ⟨X.admits, X.cas, X.clock, X.frames, X.room, X.hears, X.method, X.code, (X.here.setHeapUsed s₂.heap s₂.slotsUsed).setVm hW'.alike, X.tail, State.WarmedH.trans X.warmed hW', X.limits, X.bytes, X.same.trans (hsame.setVm s.vm)⟩,
      ⟨g, mk, s₂, L, rfl, rfl, hqc, rfl, hL, rfl, rfl⟩, ?_⟩
    show Steps p.tables e below _ ((({ U with heap := s₂.heap, slotsUsed := s₂.slotsUsed } : State).setVm s₂.vm).setTop { g with pc := g.pc + len₂, stack := v.toList ++ g.stack })
    rw [← hs₂]
    exact hsteps
  · obtain ⟨e2, q2, q3, q4, q5, q6⟩ := id hsm
    have e3 : s₂ = ({ (U.calling g mk a).setFrames s₂.frames with heap := s₂.heap, slotsUsed := s₂.slotsUsed } : State).setVm s₂.vm := by
      have : s₂ = ({ s₂ with vm := (U.calling g mk a).vm } : State).setVm s₂.vm := rfl
      rw [e2] at this
      exact this
    have hf₂ : s₂.frames = .throwing q :: .java g :: U.frames.tail := hend
    have hW' : U.WarmedH s₂.vm := hW₂
    have hs₂ : s₂ = ((({ U with heap := s₂.heap, slotsUsed := s₂.slotsUsed } : State).setVm s₂.vm).setTop g).pushFrame (.throwing q) := by
      refine e3.trans ?_
      rw [hf₂, State.calling_eq h.top, State.setFrames_setFrames, State.pushFrame, State.frames_setTop _ hr', State.setTop_of_frames _ hr', State.setFrames_setFrames, hr]
      rfl
    have hsame : U.sameButNew ({ U with heap := s₂.heap, slotsUsed := s₂.slotsUsed } : State) L mc ms := by
      refine ⟨?_, q2, q3, q4, q5, q6⟩
      obtain ⟨t, ht, -⟩ := State.frames_cons hr
      show ({ U with heap := s₂.heap, slotsUsed := s₂.slotsUsed } : State) = { U.setFrames U.frames with heap := s₂.heap, slotsUsed := s₂.slotsUsed }
      rw [State.setFrames_self ht]
    subst hg
    refine Or.inr ⟨q, ⟨(({ U with heap := s₂.heap, slotsUsed := s₂.slotsUsed } : State).setVm s₂.vm), Ls ++ L, c0 + mc, s0 + ms⟩,
      ⟨X.admits, X.cas, X.clock, X.frames, X.room, X.hears, X.method, X.code, (X.here.setHeapUsed s₂.heap s₂.slotsUsed).setVm hW'.alike, X.tail, State.WarmedH.trans X.warmed hW', X.limits, X.bytes, X.same.trans (hsame.setVm s.vm)⟩,
      ⟨g, mk, s₂, L, E, ce, rfl, rfl, hx, hce, hcv, hcl, rfl, hL, rfl, rfl⟩, ?_⟩
    show Steps p.tables e below _ (((({ U with heap := s₂.heap, slotsUsed := s₂.slotsUsed } : State).setVm s₂.vm).setTop g).pushFrame (.throwing q))
    rw [← hs₂]
    exact hsteps
end
variable {p : Program} {l : Launch} {e : Env} {R : Room} {s : State} {m : MethodId} {args : Array Value} {below : List Frame} {meth : Method} {c : Code} {T : State} {H : Heap} {locs : List Loc} {cells slots : Nat}
theorem vx_callVX (X : Stand p l e R s m args below meth c T locs cells slots) (hexec : p.tables.exec = Jvm.exec) {own C : String} {index : Nat} {y : MethodName} {bytes : ByteArray} {maxL : Nat} {ret : Option FieldType} {hh : List (Nat × Nat × Nat × Nat)}
    (hown : s.vm.findClass own = some m.cls) (hlink : (Cond.methodLink own index y).before args s = true) (hinst : (Cond.instanceMethod y).before args s = true) (hsel : (Cond.selects C y y).before args s = true)
    (hcode : (Cond.codeWith y bytes maxL ret hh).before args s = true) (hy : y.cls ≠ "java/lang/invoke/MethodHandle" ∧ y.cls ≠ "java/lang/invoke/VarHandle")
    {W9 : Nat} {Pre : Pt → Array Value → Prop} {Post : Pt → Array Value → Option Value → Pt → Prop} {PostX : Pt → Array Value → Addr → Pt → Prop} (hK : vx_Back l R p e below s args y 3 W9 Pre Post PostX)
    {b : Addr} {cellB : Cell} (hcell : T.heap[b]? = some cellB) (hobj : cellB.vm.isStatics = false) (hcls : s.vm.findClass C = some cellB.cls)
    {g : JFrame} (hg : g.method = m) (hsize : g.locals.size = c.maxLocals) {argsL rest : List Value} (hlen : ∀ sig, parseMethodDescriptor y.desc = some sig → argsL.length = sig.parameters.length)
    (hstack : g.stack = argsL.reverse ++ .ref b :: rest) (hW : 2 * g.monitorRoom + (rest.map fun v => v.category).sum ≤ W9) (hdg : decode c.code g.pc = .ok (.invokevirtual index, 3))
    (hpre : ∀ vm₁, s.WarmedH vm₁ → Pre ⟨T.setVm vm₁, locs, cells, slots⟩ (Value.ref b :: argsL).toArray) :
    (∃ (v : Option Value) (vm₁ : Vm) (B : Pt), s.WarmedH vm₁ ∧ Stand p l e R s m args below meth c B.U B.locs B.cells B.slots ∧ Post ⟨T.setVm vm₁, locs, cells, slots⟩ (Value.ref b :: argsL).toArray v B ∧
      ∀ target, Steps p.tables e below (B.U.setTop { g with pc := g.pc + 3, stack := v.toList ++ rest }) target → Steps p.tables e below (T.setTop g) target) ∨
    (∃ (q : Addr) (vm₁ : Vm) (B : Pt), s.WarmedH vm₁ ∧ Stand p l e R s m args below meth c B.U B.locs B.cells B.slots ∧ PostX ⟨T.setVm vm₁, locs, cells, slots⟩ (Value.ref b :: argsL).toArray q B ∧
      Steps p.tables e below (T.setTop g) ((B.U.setTop { g with stack := rest }).pushFrame (.throwing q))) := by
  obtain ⟨mk, methM, hnamed, hmethM, hstM, habM⟩ := Cond.instanceMethod_spec hinst
  obtain ⟨m8, methM', cM, hn8, hmethM', -, -, -, -, -, -, hsigM⟩ := Cond.codeWith_spec hcode
  cases Option.some.inj (hn8.symm.trans hnamed)
  cases hmethM.symm.trans hmethM'
  obtain ⟨c2, r2, m2, q1, q2, q3, q4, kP, hkP, hkPi⟩ := Cond.selects_spec hsel
  cases hcls.symm.trans q1
  cases (State.methodFound?_of_named hnamed hy).symm.trans q2
  cases hnamed.symm.trans q3
  have hselP : selectMethod e.platform s.vm cellB.cls mk = .method mk := by rw [Launch.admits_selectMethod X.admits]; exact q4
  obtain ⟨vm₁, X₁, hstep₁⟩ := X.invokevirtual hexec hown hlink hnamed hmethM hstM hkP hkPi hy (a := b) (cell := cellB) hcell
    (fun z h => by rw [h] at hobj; cases hobj) hselP hmethM habM hkP hkPi (g := g) hg (argsL := argsL) (rest := rest) (hlen _ hsigM) hstack hdg
  rcases hK m meth c ⟨T.setVm vm₁, locs, cells, slots⟩ { g with stack := rest } (.invokevirtual index) mk (Value.ref b :: argsL).toArray X₁ hg hsize hdg hW (X₁.named hnamed) (hpre vm₁ X₁.warmed) with ⟨v, B, X', hpost, hsteps⟩ | ⟨q, B, X', hpost, hsteps⟩
  · exact Or.inl ⟨v, vm₁, B, X₁.warmed, X', hpost, fun target h => hstep₁ _ fun acts => by rw [doInvoke_state]; exact hsteps.trans h⟩
  · exact Or.inr ⟨q, vm₁, B, X₁.warmed, X', hpost, hstep₁ _ fun acts => by rw [doInvoke_state]; exact hsteps⟩
theorem vx_callSX (X : Stand p l e R s m args below meth c T locs cells slots) (hexec : p.tables.exec = Jvm.exec) {own : String} {index : Nat} {y : MethodName} {bytes : ByteArray} {maxL : Nat} {ret : Option FieldType} {hh : List (Nat × Nat × Nat × Nat)}
    (hown : s.vm.findClass own = some m.cls) (hlink : (Cond.methodLink own index y).before args s = true) (hstat : (Cond.static y).before args s = true) (hinit : (Cond.initialized y.cls).before args s = true)
    (hcode : (Cond.codeWith y bytes maxL ret hh).before args s = true) (hy : y.cls ≠ "java/lang/invoke/MethodHandle" ∧ y.cls ≠ "java/lang/invoke/VarHandle")
    {W9 : Nat} {Pre : Pt → Array Value → Prop} {Post : Pt → Array Value → Option Value → Pt → Prop} {PostX : Pt → Array Value → Addr → Pt → Prop} (hK : vx_Back l R p e below s args y 3 W9 Pre Post PostX)
    {g : JFrame} (hg : g.method = m) (hsize : g.locals.size = c.maxLocals) {argsL rest : List Value} (hlen : ∀ sig, parseMethodDescriptor y.desc = some sig → argsL.length = sig.parameters.length)
    (hstack : g.stack = argsL.reverse ++ rest) (hW : 2 * g.monitorRoom + (rest.map fun v => v.category).sum ≤ W9) (hdg : decode c.code g.pc = .ok (.invokestatic index, 3))
    (hpre : ∀ vm₁, s.WarmedH vm₁ → Pre ⟨T.setVm vm₁, locs, cells, slots⟩ argsL.toArray) :
    (∃ (v : Option Value) (vm₁ : Vm) (B : Pt), s.WarmedH vm₁ ∧ Stand p l e R s m args below meth c B.U B.locs B.cells B.slots ∧ Post ⟨T.setVm vm₁, locs, cells, slots⟩ argsL.toArray v B ∧
      ∀ target, Steps p.tables e below (B.U.setTop { g with pc := g.pc + 3, stack := v.toList ++ rest }) target → Steps p.tables e below (T.setTop g) target) ∨
    (∃ (q : Addr) (vm₁ : Vm) (B : Pt), s.WarmedH vm₁ ∧ Stand p l e R s m args below meth c B.U B.locs B.cells B.slots ∧ PostX ⟨T.setVm vm₁, locs, cells, slots⟩ argsL.toArray q B ∧
      Steps p.tables e below (T.setTop g) ((B.U.setTop { g with stack := rest }).pushFrame (.throwing q))) := by
  obtain ⟨mk, methM, cM, hnamed, hmethM, -, -, -, -, -, -, hsigM⟩ := Cond.codeWith_spec hcode
  have hstatic : methM.isStatic = true := Cond.static_spec hnamed hmethM hstat
  obtain ⟨kP, hkP, -⟩ := className_of_methodNamed hnamed
  have hinitP : kP.init = .initialized := Cond.initialized_spec (findClass_of_methodNamed hnamed) hkP hinit
  obtain ⟨vm₁, X₁, hstep₁⟩ := X.invokestatic hexec hown hlink hnamed hmethM hstatic hkP hinitP hy (g := g) hg (argsL := argsL) (rest := rest) (hlen _ hsigM) hstack hdg
  rcases hK m meth c ⟨T.setVm vm₁, locs, cells, slots⟩ { g with stack := rest } (.invokestatic index) mk argsL.toArray X₁ hg hsize hdg hW (X₁.named hnamed) (hpre vm₁ X₁.warmed) with ⟨v, B, X', hpost, hsteps⟩ | ⟨q, B, X', hpost, hsteps⟩
  · exact Or.inl ⟨v, vm₁, B, X₁.warmed, X', hpost, fun target h => hstep₁ _ fun acts => by rw [doInvoke_state]; exact hsteps.trans h⟩
  · exact Or.inr ⟨q, vm₁, B, X₁.warmed, X', hpost, hstep₁ _ fun acts => by rw [doInvoke_state]; exact hsteps⟩
theorem vx_callVW (X : Stand p l e R s m args below meth c T locs cells slots) (hexec : p.tables.exec = Jvm.exec) {own C : String} {index : Nat} {y : MethodName} {bytes : ByteArray} {maxL : Nat} {ret : Option FieldType} {hh : List (Nat × Nat × Nat × Nat)}
    (hown : s.vm.findClass own = some m.cls) (hlink : (Cond.methodLink own index y).before args s = true) (hinst : (Cond.instanceMethod y).before args s = true) (hsel : (Cond.selects C y y).before args s = true)
    (hcode : (Cond.codeWith y bytes maxL ret hh).before args s = true) (hy : y.cls ≠ "java/lang/invoke/MethodHandle" ∧ y.cls ≠ "java/lang/invoke/VarHandle")
    {W9 : Nat} {Pre : Pt → Array Value → Prop} {Post : Pt → Array Value → Option Value → Pt → Prop} (hK : Back l R p e below s args y 3 W9 Pre Post)
    {b : Addr} {cellB : Cell} (hcell : T.heap[b]? = some cellB) (hobj : cellB.vm.isStatics = false) (hcls : s.vm.findClass C = some cellB.cls)
    {g : JFrame} (hg : g.method = m) (hsize : g.locals.size = c.maxLocals) {argsL rest : List Value} (hlen : ∀ sig, parseMethodDescriptor y.desc = some sig → argsL.length = sig.parameters.length)
    (hstack : g.stack = argsL.reverse ++ .ref b :: rest) (hW : 2 * g.monitorRoom + (rest.map fun v => v.category).sum ≤ W9) (hdg : decode c.code g.pc = .ok (.invokevirtual index, 3))
    (hpre : ∀ vm₁, s.WarmedH vm₁ → Pre ⟨T.setVm vm₁, locs, cells, slots⟩ (Value.ref b :: argsL).toArray) :
    ∃ (v : Option Value) (vm₁ : Vm) (B : Pt), s.WarmedH vm₁ ∧ Stand p l e R s m args below meth c B.U B.locs B.cells B.slots ∧ Post ⟨T.setVm vm₁, locs, cells, slots⟩ (Value.ref b :: argsL).toArray v B ∧
      ∀ target, Steps p.tables e below (B.U.setTop { g with pc := g.pc + 3, stack := v.toList ++ rest }) target → Steps p.tables e below (T.setTop g) target := by
  obtain ⟨mk, methM, hnamed, hmethM, hstM, habM⟩ := Cond.instanceMethod_spec hinst
  obtain ⟨m8, methM', cM, hn8, hmethM', -, -, -, -, -, -, hsigM⟩ := Cond.codeWith_spec hcode
  cases Option.some.inj (hn8.symm.trans hnamed)
  cases hmethM.symm.trans hmethM'
  obtain ⟨c2, r2, m2, q1, q2, q3, q4, kP, hkP, hkPi⟩ := Cond.selects_spec hsel
  cases hcls.symm.trans q1
  cases (State.methodFound?_of_named hnamed hy).symm.trans q2
  cases hnamed.symm.trans q3
  have hselP : selectMethod e.platform s.vm cellB.cls mk = .method mk := by rw [Launch.admits_selectMethod X.admits]; exact q4
  obtain ⟨vm₁, X₁, hstep₁⟩ := X.invokevirtual hexec hown hlink hnamed hmethM hstM hkP hkPi hy (a := b) (cell := cellB) hcell
    (fun z h => by rw [h] at hobj; cases hobj) hselP hmethM habM hkP hkPi (g := g) hg (argsL := argsL) (rest := rest) (hlen _ hsigM) hstack hdg
  obtain ⟨v, B, X', hpost, hsteps⟩ := hK m meth c ⟨T.setVm vm₁, locs, cells, slots⟩ { g with stack := rest } (.invokevirtual index) mk (Value.ref b :: argsL).toArray X₁ hg hsize hdg hW (X₁.named hnamed) (hpre vm₁ X₁.warmed)
  exact ⟨v, vm₁, B, X₁.warmed, X', hpost, fun target h => hstep₁ _ fun acts => by rw [doInvoke_state]; exact hsteps.trans h⟩
abbrev vx_CVW (R : Room) (s : State) (args : Array Value) (own C : String) (index : Nat) (y : MethodName) (bytes : ByteArray) (maxL : Nat) (ret : Option FieldType) (hh : List (Nat × Nat × Nat × Nat)) (ws : List Cond) (rm : Room) (mc ms n : Nat) : Prop :=
  (rm.cells = mc ∧ rm.slots = ms ∧ rm.frames + 1 ≤ R.frames ∧ 8 + (maxL + 11) + rm.locals ≤ R.locals ∧ (∀ w ∈ ws, ∀ (a' : Array Value) (U : State), s.WarmedH U.vm → w.before a' U = true) ∧ Cond.codeWith y bytes maxL ret hh ∈ ws) ∧
  (Cond.codeWith y bytes maxL ret hh).before args s = true ∧ (Cond.initialized y.cls).before args s = true ∧ (y.cls ≠ "java/lang/invoke/MethodHandle" ∧ y.cls ≠ "java/lang/invoke/VarHandle") ∧
  (∀ sig, parseMethodDescriptor y.desc = some sig → n = sig.parameters.length) ∧ (Cond.methodLink own index y).before args s = true ∧ (Cond.instanceMethod y).before args s = true ∧ (Cond.selects C y y).before args s = true
theorem vx_cwVW {own C : String} {index maxL mc ms : Nat} {y : MethodName} {bytes : ByteArray} {ret : Option FieldType} {hh : List (Nat × Nat × Nat × Nat)} {Ts ws ws' : List Cond} {rm : Room} (n : Nat) (ht : ∀ w ∈ Ts, w.before args s = true) (hT : GoodIn Ts (wsV own index C y ws)) (hw : ws = Cond.codeWith y bytes maxL ret hh :: ws') (hrc : rm.cells = mc) (hrs : rm.slots = ms)
    (hd : y.cls = C ∧ y.cls ≠ "java/lang/invoke/MethodHandle" ∧ y.cls ≠ "java/lang/invoke/VarHandle" ∧ (parseMethodDescriptor y.desc).map (fun d => d.parameters.length) = some n) (hR : rm.frames + 1 ≤ R.frames ∧ 8 + (maxL + 11) + rm.locals ≤ R.locals) :
    vx_CVW R s args own C index y bytes maxL ret hh ws rm mc ms n := by
  obtain ⟨hC, hd⟩ := hd
  subst hC
  have ok : ∀ w ∈ wsV own index y.cls y ws, w.before args s = true := fun w h => ht w (hT w h).1
  have hG : GoodIn Ts ws := fun w h => hT w (by unfold wsV; exact List.mem_append_right _ h)
  have hc : Cond.codeWith y bytes maxL ret hh ∈ ws := by rw [hw]; exact List.mem_cons_self
  refine ⟨⟨hrc, hrs, hR.1, hR.2, pay_in ht hG, hc⟩, ht _ (hG _ hc).1, ok _ (by simp [wsV]), ⟨hd.1, hd.2.1⟩, fun sig h => ?_, ok _ (by simp [wsV]), ok _ (by simp [wsV]), ok _ (by simp [wsV])⟩
  have h2 := hd.2.2
  rw [h] at h2
  exact (Option.some.inj h2).symm
theorem vx_runVW {y : MethodName} {bytes cc : ByteArray} {maxL nL mc ms n index : Nat} {ret : Option FieldType} {hh : List (Nat × Nat × Nat × Nat)} {ws : List Cond} {rm : Room} {Pc : Array Value → State → Prop} {Qc : Array Value → State → Outcome → State → Prop} {free : Addr → Prop} {Ts : List Cond} {own C : String} {b : Addr} {As rest : List Value} {g : JFrame}
    (S : CallFix p m c cc nL s args Ts own) (hM : Met l y ws rm Pc Qc mc ms free) (cw : vx_CVW R s args own C index y bytes maxL ret hh ws rm mc ms n) (hp : PreV s H C b Pc As)
    (hg : g.method = m) (hn : As.length = n) (hsize : g.locals.size = nL) (hstack : g.stack = As.reverse ++ .ref b :: rest) (hW : 2 * g.monitorRoom + (rest.map fun v => v.category).sum ≤ 8) (hdg : decode cc g.pc = .ok (.invokevirtual index, 3)) (hf : cells + mc ≤ R.cells ∧ slots + ms ≤ R.slots) :
    va_Run p l e R s m args below meth c H locs cells slots mc ms g rest (Qc (Value.ref b :: As).toArray) free := by
  obtain ⟨⟨hrc, hrs, hfr, hlo, hws, hcw⟩, hcode, hini, hy, hlen, hl, hin, hse⟩ := cw
  have hK : Back l R p e below s args y 3 8 (PreOf R mc ms Pc) (PostOf Qc mc ms free) := va_backW (hh := hh) (bytes := bytes) (maxL := maxL) (ret := ret) hM hp.1 hrc hrs hfr hlo hws hcw (fun a' U hW => word_at hW (Or.inl (by first | rfl | simp [Cond.onTables, Cond.keeps, Cond.steady])) hini)
  obtain ⟨hx, hb, hml, ho, -⟩ := S
  obtain ⟨-, ⟨cellB, hcB, hoB, hclB⟩, hPc⟩ := hp
  intro T hT X
  obtain ⟨v, vm₁, ⟨U', l2, c2, s2⟩, hW₁, X', ⟨g', mk, t, L, e1, e2, hq, h1, hL, h2, h3⟩, st⟩ := vx_callVW X hx (C := C) (hh := hh) (bytes := bytes) (maxL := maxL) (ret := ret) ho hl hin hse hcode hy hK (by rw [hT]; exact hcB) hoB hclB hg (hsize.trans hml.symm) (argsL := As) (rest := rest) (fun sig h => hn.trans (hlen sig h)) hstack hW (by rw [hb]; exact hdg)
    (fun vm₁ hW₁ => ⟨hf.1, hf.2, hPc (T.setVm vm₁) hT hW₁⟩)
  dsimp only [Pt.U, Pt.locs, Pt.cells, Pt.slots] at X' e1 e2 h1 h2 h3 st
  subst h1; subst h2; subst h3
  exact ⟨v, (T.setVm vm₁).calling g' mk (Value.ref b :: As).toArray, t, U', L, hT, X', hL, e1, e2, hq, st⟩
section
variable {y : MethodName} {bytes cc : ByteArray} {maxL nL mc ms n index : Nat} {ret : Option FieldType} {ws : List Cond} {rm : Room} {Pc : Array Value → State → Prop} {Qc : Array Value → State → Outcome → State → Prop} {XC : String → State → State → Prop} {free : Addr → Prop} {Ts : List Cond} {own C : String} {b : Addr} {As rest : List Value} {g : JFrame}
theorem vx_runVX {hh : List (Nat × Nat × Nat × Nat)} (S : CallFix p m c cc nL s args Ts own) (hM : vx_Met l y ws rm Pc Qc XC mc ms free) (cw : vx_CVW R s args own C index y bytes maxL ret hh ws rm mc ms n) (hp : PreV s H C b Pc As)
    (hg : g.method = m) (hn : As.length = n) (hsize : g.locals.size = nL) (hstack : g.stack = As.reverse ++ .ref b :: rest) (hW : 2 * g.monitorRoom + (rest.map fun v => v.category).sum ≤ 8) (hdg : decode cc g.pc = .ok (.invokevirtual index, 3)) (hf : cells + mc ≤ R.cells ∧ slots + ms ≤ R.slots) :
    vx_Run p l e R s m args below meth c H locs cells slots mc ms g rest (Qc (Value.ref b :: As).toArray) XC free := by
  obtain ⟨⟨hrc, hrs, hfr, hlo, hws, hcw⟩, hcode, hini, hy, hlen, hl, hin, hse⟩ := cw
  have hK : vx_Back l R p e below s args y 3 8 (PreOf R mc ms Pc) (PostOf Qc mc ms free) (vx_Post XC mc ms free) := vx_backW (hh := hh) (bytes := bytes) (maxL := maxL) (ret := ret) hM hp.1 hrc hrs hfr hlo hws hcw (fun a' U hW => word_at hW (Or.inl (by first | rfl | simp [Cond.onTables, Cond.keeps, Cond.steady])) hini)
  obtain ⟨hx, hb, hml, ho, -⟩ := S
  obtain ⟨-, ⟨cellB, hcB, hoB, hclB⟩, hPc⟩ := hp
  intro T hT X
  rcases vx_callVX X hx (C := C) (hh := hh) (bytes := bytes) (maxL := maxL) (ret := ret) ho hl hin hse hcode hy hK (by rw [hT]; exact hcB) hoB hclB hg (hsize.trans hml.symm) (argsL := As) (rest := rest) (fun sig h => hn.trans (hlen sig h)) hstack hW (by rw [hb]; exact hdg)
    (fun vm₁ hW₁ => ⟨hf.1, hf.2, hPc (T.setVm vm₁) hT hW₁⟩) with ⟨v, vm₁, ⟨U', l2, c2, s2⟩, hW₁, X', ⟨g', mk, t, L, e1, e2, hq, h1, hL, h2, h3⟩, st⟩ | ⟨q, vm₁, ⟨U', l2, c2, s2⟩, hW₁, X', ⟨g', mk, t, L, E, ce, e1, e2, hq, hce, hcv, hcl, h1, hL, h2, h3⟩, st⟩
  · dsimp only [Pt.U, Pt.locs, Pt.cells, Pt.slots] at X' e1 e2 h1 h2 h3 st
    subst h1; subst h2; subst h3
    exact Or.inl ⟨v, (T.setVm vm₁).calling g' mk (Value.ref b :: As).toArray, t, U', L, hT, X', hL, e1, e2, hq, st⟩
  · dsimp only [Pt.U, Pt.locs, Pt.cells, Pt.slots] at X' e1 e2 h1 h2 h3 st hcl
    subst h1; subst h2; subst h3
    exact Or.inr ⟨q, (T.setVm vm₁).calling g' mk (Value.ref b :: As).toArray, t, U', L, E, ce, hT, X', hL, e1, e2, hq, hce, hcv, vx_cls hW₁ hcl, st⟩
theorem vx_runSX {hh : List (Nat × Nat × Nat × Nat)} (S : CallFix p m c cc nL s args Ts own) (hM : vx_Met l y ws rm Pc Qc XC mc ms free) (cw : vx_CSW R s args own index y bytes maxL ret hh ws rm mc ms n) (hp : PreS s H Pc As)
    (hg : g.method = m) (hn : As.length = n) (hsize : g.locals.size = nL) (hstack : g.stack = As.reverse ++ rest) (hW : 2 * g.monitorRoom + (rest.map fun v => v.category).sum ≤ 8) (hdg : decode cc g.pc = .ok (.invokestatic index, 3)) (hf : cells + mc ≤ R.cells ∧ slots + ms ≤ R.slots) :
    vx_Run p l e R s m args below meth c H locs cells slots mc ms g rest (Qc As.toArray) XC free := by
  obtain ⟨⟨hrc, hrs, hfr, hlo, hws, hcw⟩, hcode, hini, hy, hlen, hl, hstt⟩ := cw
  have hK : vx_Back l R p e below s args y 3 8 (PreOf R mc ms Pc) (PostOf Qc mc ms free) (vx_Post XC mc ms free) := vx_backW (hh := hh) (bytes := bytes) (maxL := maxL) (ret := ret) hM hp.1 hrc hrs hfr hlo hws hcw (fun a' U hW => word_at hW (Or.inl (by first | rfl | simp [Cond.onTables, Cond.keeps, Cond.steady])) hini)
  obtain ⟨hx, hb, hml, ho, -⟩ := S
  intro T hT X
  rcases vx_callSX X hx (hh := hh) (bytes := bytes) (maxL := maxL) (ret := ret) ho hl hstt hini hcode hy hK hg (hsize.trans hml.symm) (argsL := As) (rest := rest) (fun sig h => hn.trans (hlen sig h)) hstack hW (by rw [hb]; exact hdg)
    (fun vm₁ hW₁ => ⟨hf.1, hf.2, hp.2 (T.setVm vm₁) hT hW₁⟩) with ⟨v, vm₁, ⟨U', l2, c2, s2⟩, hW₁, X', ⟨g', mk, t, L, e1, e2, hq, h1, hL, h2, h3⟩, st⟩ | ⟨q, vm₁, ⟨U', l2, c2, s2⟩, hW₁, X', ⟨g', mk, t, L, E, ce, e1, e2, hq, hce, hcv, hcl, h1, hL, h2, h3⟩, st⟩
  · dsimp only [Pt.U, Pt.locs, Pt.cells, Pt.slots] at X' e1 e2 h1 h2 h3 st
    subst h1; subst h2; subst h3
    exact Or.inl ⟨v, (T.setVm vm₁).calling g' mk As.toArray, t, U', L, hT, X', hL, e1, e2, hq, st⟩
  · dsimp only [Pt.U, Pt.locs, Pt.cells, Pt.slots] at X' e1 e2 h1 h2 h3 st hcl
    subst h1; subst h2; subst h3
    exact Or.inr ⟨q, (T.setVm vm₁).calling g' mk As.toArray, t, U', L, E, ce, hT, X', hL, e1, e2, hq, hce, hcv, vx_cls hW₁ hcl, st⟩
end
end VXH
theorem vx_ofWH {l : Launch} {y : MethodName} {ws ws' : List Cond} {rm : Room} {Pc : Array Value → State → Prop} {Qc : Array Value → State → Outcome → State → Prop} {XC : String → State → State → Prop} {mc ms : Nat} {free : Addr → Prop} {cc : ByteArray} {maxL : Nat} {ret : Option FieldType} {hh : List (Nat × Nat × Nat × Nat)}
    (hy : plainName y.cls = true) (hw : ws = Cond.codeWith y cc maxL ret hh :: ws')
    (body : ∀ p e s m args below meth c s₁, BodyLoose p l y (headSpec ws rm) cc maxL ret e s m args below meth c s₁ → c.maxLocals = maxL → Pc args s →
      W p l e (headSpec ws rm).room s m args below meth c s.heap [] 0 0 (vx_MQ below Qc XC args s mc ms free) (entryFrame m args maxL)) : vx_Met l y ws rm Pc Qc XC mc ms free := by
  refine MetFree.of_bodyS (code := cc) (maxLocals := maxL) (ret := ret) hy ?_ ?_
  · intro args s m h hn
    obtain ⟨m9, meth, c, hn9, h1, h2, h3, h4, -, h5, h6, -⟩ := Cond.codeWith_spec (atoms_spec (ws := ws) h _ (by rw [hw]; exact List.mem_cons_self))
    cases hn.symm.trans hn9
    exact ⟨meth, c, h1, h2, h3, h4, h5, h6⟩
  · intro p e s m args below meth c s₁ B hml hP _
    have hh0 : s₁.heap = s.heap := by rw [B.state]; rfl
    obtain ⟨t, a1, o, b1, b2, b3⟩ := body p e s m args below meth c s₁ B hml hP s₁ hh0 (Stand.of_body B)
    exact ⟨t, o, a1, b1, b2, b3⟩
/-! ===== END ===== -/

/-! ===== BEGIN what the machine throws by itself, no traces kept ===== -/
section VXM
set_option maxHeartbeats 1000000 in
/-- the machine throws cls with the message text, no traces kept: from its note over the frame g to 'throwing' over the same frame (follows the proofs of Stand.vmThrowsMessage, Shelf/KitTracedVmS.lean, and Stand.throwsMessageColdBareV, StandMessageColdV.lean, without the step out of the frame) -/
theorem vx_vmAt {p : Program} {l : Launch} {e : Env} {R : Room} {s : State} {m₀ : MethodId} {args : Array Value} {below : List Frame} {meth : Method} {c : Code} {W : State} {locs : List Loc} {cells slots : Nat}
    (X : Stand p l e R s m₀ args below meth c W locs cells slots) (hexec : p.tables.exec = Jvm.exec) (htr : e.platform.stackTraces = false) {cls : String} {names : List String} {text : String}
    (hcls : Bundle.fit cls = true) (hnames : ∀ n ∈ names, Bundle.fit n = true) (hsoe : (cls == "java/lang/StackOverflowError") = false) (hoom : (cls == "java/lang/OutOfMemoryError") = false)
    (h : ∀ a ∈ Bundle.messageArmAtoms cls names, a.before args s = true)
    (hlocs : ∀ x ∈ locs, ∀ cell, s.heap[x.base]? = some cell → cell.vm.isStatics = false)
    (htext : (text == notModelled) = false) (hlimit : ¬ (stringBytes (stringToUtf16 text)).size > e.platform.arrayLengthLimit) (hheap : ¬ (stringBytes (stringToUtf16 text)).size * componentBytes .byte > e.platform.maxHeapBytes)
    {g : JFrame} (hg : g.method = m₀) (hsize : g.locals.size = c.maxLocals)
    (hRframes : names.length + 4 < R.frames) (hRlocals : 2 * g.monitorRoom + (g.stack.map fun v => v.category).sum + 10240 ≤ R.locals) (hshort : 13 * names.length + 55 ≤ 10240)
    (hRcells : cells + 3 ≤ R.cells) (hRslots : slots + ((stringBytes (stringToUtf16 text)).size + 4 + 6) ≤ R.slots) (hlocks : meth.locks = false) :
    ∃ (S : State) (q : Addr) (ce : Cell), (∀ target, Steps p.tables e below ((S.setTop g).pushFrame (.throwing q)) target → Steps p.tables e below ((W.setTop g).pushFrame (.throwNew cls (some text) none)) target) ∧
      Stand p l e R s m₀ args below meth c S locs (cells + 3) (slots + ((stringBytes (stringToUtf16 text)).size + 4 + 6)) ∧ S.heap[q]? = some ce ∧ s.vm.findClass cls = some ce.cls ∧ ce.vm = .none := by
  have howns : e.platform.frameOwnsMonitors = true := by rw [X.admits.platform]
  have hfin : e.platform.finalization = false := by rw [X.admits.platform]
  have hpl : e.platform.magicAccessors = ({} : Platform).magicAccessors := by rw [X.admits.platform]
  have a : ∀ x, x ∈ Bundle.messageArmAtoms cls names → x.holds args s none s [] = true := fun x hx => h x hx
  obtain ⟨T, Z0, L, -, Y⟩ := ThrowableC.of_atoms (args := args) howns hfin hpl (fun x hx => h x (by simp [Bundle.messageArmAtoms, hx]))
  obtain ⟨Z, M, LZ, LM, hnZ⟩ := Init0T.ofS_atoms (args := args) hpl L Y (fun x hx => h x (by simp [Bundle.messageArmAtoms, hx]))
  obtain ⟨P1, Ps, hlen, L1, hL, hP1m, hlink1, hlink⟩ := Bundle.chainS (args := args) hpl hnZ names cls hcls hnames (fun x hx => h x (by simp [Bundle.messageArmAtoms, hx]))
  obtain ⟨Zs, LZs, hn4, hfitv, hfitc⟩ := StringT.of_atoms (args := args) (fun x hx => h x (by simp [Bundle.messageArmAtoms, hx]))
  have hfound : s.vm.findClass cls = some P1.m.cls := findClass_of_methodNamed hP1m
  obtain ⟨c1, kX, hc1, hk, hord, -, -, hn6⟩ := Cond.instantiable_spec (a (.instantiable cls 6) (by simp [Bundle.messageArmAtoms]))
  cases Option.some.inj (hc1.symm.trans hfound)
  have hinit := Cond.initialized_spec hfound hk (a (.initialized cls) (by simp [Bundle.messageArmAtoms]))
  have hctor : kX.findMethod "<init>" "(Ljava/lang/String;)V" = some P1.m.idx := findMethod_of_methodNamed hP1m hk
  have hsel0 : selectMethod e.platform s.vm P1.m.cls T.fill0 = .method T.fill0 := by
    obtain ⟨c2, r2, m2, q1, q2, q3, q4, -⟩ := Cond.selects_spec (a (.selects cls Bundle.tFill0 Bundle.tFill0) (by simp [Bundle.messageArmAtoms]))
    cases Option.some.inj (q1.symm.trans hfound)
    cases Option.some.inj (q2.symm.trans (State.methodFound?_of_named Y.fill0 (by decide)))
    cases Option.some.inj (q3.symm.trans Y.fill0)
    rw [Launch.admits_selectMethod X.admits]; exact q4
  have hselF : selectMethod e.platform s.vm P1.m.cls T.fill = .method T.fill := by
    obtain ⟨c2, r2, m2, q1, q2, q3, q4, -⟩ := Cond.selects_spec (a (.selects cls Bundle.tFill Bundle.tFill) (by simp [Bundle.messageArmAtoms]))
    cases Option.some.inj (q1.symm.trans hfound)
    cases Option.some.inj (q2.symm.trans (State.methodFound?_of_named Y.fill (by decide)))
    cases Option.some.inj (q3.symm.trans Y.fill)
    rw [Launch.admits_selectMethod X.admits]; exact q4
  obtain ⟨cellS0, hcS0, hiss⟩ := Y.statics
  obtain ⟨u0, hu0⟩ := Cond.staticRefV Y.unassigned L.unassignedStatic L.statics hcS0 hiss (a (.isRef (.static Bundle.tN "UNASSIGNED_STACK" Bundle.steD)) (by simp [Bundle.messageArmAtoms]))
  obtain ⟨sen, hsen⟩ := Cond.staticRefV Y.sentinel L.sentinelStatic L.statics hcS0 hiss (a (.isRef (.static Bundle.tN "SUPPRESSED_SENTINEL" Bundle.listD)) (by simp [Bundle.messageArmAtoms]))
  obtain ⟨ci198, i198, fB, hk198, hg198, ha198, hsB, -, hnB, htB, hffB⟩ := Cond.ownField (t := .object "java/lang/Object") Y.found L.cls (by decide +kernel) (a (.fieldLink Bundle.tN 198 Bundle.tN "backtrace" "Ljava/lang/Object;") (by simp [Bundle.messageArmAtoms])) (a (.lays Bundle.tN Bundle.tN "backtrace" "Ljava/lang/Object;") (by simp [Bundle.messageArmAtoms])) e.platform hpl
  obtain ⟨cellS, hcS', heS, -, hkeep⟩ := X.same.2.2.2.2.2 T.aS cellS0 hcS0
  have hcellS : W.heap[T.aS]? = some cellS := hcS'
  have hout' : ∀ i, (⟨T.aS, i⟩ : Loc) ∉ locs := fun i hmem => by
    have := hlocs _ hmem cellS0 hcS0
    rw [hiss] at this; cases this
  have hknownS : cellS.vm ≠ .unknown := by
    rw [heS]; intro hu
    rw [show cellS0.vm = .unknown from hu] at hiss
    cases hiss
  have hvU : cellS.slots[T.fUnassigned.slot]? = some u0.v := by rw [hkeep _ (hout' _)]; exact hu0
  have hvSen : cellS.slots[T.fSentinel.slot]? = some sen.v := by rw [hkeep _ (hout' _)]; exact hsen
  obtain ⟨iM, hffM⟩ := Y.msg
  obtain ⟨tyC, dC, hdC, hdnC⟩ := Cond.laysAt hfound hk Y.cause (a (.lays cls Bundle.tN "cause" "Ljava/lang/Throwable;") (by simp [Bundle.messageArmAtoms]))
  obtain ⟨tyS, dS, hdS, hdnS⟩ := Cond.laysAt hfound hk Y.stack (a (.lays cls Bundle.tN "stackTrace" Bundle.steD) (by simp [Bundle.messageArmAtoms]))
  obtain ⟨tyP, dP, hdP, hdnP⟩ := Cond.laysAt hfound hk Y.supp (a (.lays cls Bundle.tN "suppressedExceptions" Bundle.listD) (by simp [Bundle.messageArmAtoms]))
  obtain ⟨tyM, dM, hdM, hdnM⟩ := Cond.laysAt hfound hk hffM (a (.lays cls Bundle.tN "detailMessage" "Ljava/lang/String;") (by simp [Bundle.messageArmAtoms]))
  obtain ⟨tyB, dB, hdB, hdnB⟩ := Cond.laysAt hfound hk hffB (a (.lays cls Bundle.tN "backtrace" "Ljava/lang/Object;") (by simp [Bundle.messageArmAtoms]))
  have bC := Cond.laysApart hdB hdC hdnB hdnC (by rw [hnB, Y.causeName]; decide)
  have bS := Cond.laysApart hdB hdS hdnB hdnS (by rw [hnB, Y.stackName]; decide)
  have bP := Cond.laysApart hdB hdP hdnB hdnP (by rw [hnB, Y.suppName]; decide)
  have hbk : ((preparedCellV T.toThrowableT (freshCell P1.m.cls kX) (W.heap.size + 2) u0 sen).withEntry W.cur).slots[fB.slot]? = some .null := by
    have := fresh_default (c := P1.m.cls) tyB
    rw [htB] at this
    simpa [preparedCellV, Cell.setSlot, Cell.withEntry, Array.getElem?_setIfInBounds, bC, bS, bP, bC.symm, bS.symm, bP.symm, defaultValue] using this
  have tkC := Takes.of_laid (v := .ref (W.heap.size + 2)) hk hord tyC (by rw [Y.causeType]; rfl)
  have tkS := Takes.of_laid (v := u0.v) hk hord tyS (by rw [Y.stackType]; exact fits_refV_array _ u0)
  have tkP := Takes.of_laid (v := sen.v) hk hord tyP (by rw [Y.suppType]; exact fits_refV_object _ sen)
  have tkM := Takes.of_laid (v := .ref (W.heap.size + 1)) hk hord tyM (by rw [Y.msgType]; rfl)
  have hskip : SkipFacts T e.platform s (fun u => u) u0 ((preparedCellV T.toThrowableT (freshCell P1.m.cls kX) (W.heap.size + 2) u0 sen).withEntry W.cur) := ⟨{ ci198 := ci198, i198 := i198, fBack := fB }, ⟨hk198, hg198, ha198, hsB⟩, hbk, fun _ _ => rfl⟩
  have h0 : At W g.method c below := by rw [hg]; exact X.here
  obtain ⟨hbeyond, hfreeW⟩ := X.vmMayThrow hsize (.throwNew cls (some text) none) (fun f hf => by cases hf) rfl hRlocals
  have hfr' : W.frames.length + Ps.length + 4 < (e.platform.stackLimits W.me).1 := by have := X.framesAbove hRframes; omega
  have hwd' : (stackUse (.java g :: W.frames.tail)).2 + 13 * Ps.length + 55 ≤ (e.platform.stackLimits W.me).2 := by have := X.stackAbove hsize (K := 13 * Ps.length + 55) (by omega); omega
  have hslots : W.slotsUsed + (stringBytes (stringToUtf16 text)).size + Zs.kS.instanceTypes.size + kX.instanceTypes.size ≤ e.platform.maxSlots := by
    have := X.slotsAbove hRslots
    rw [hn4, hn6]
    omega
  obtain ⟨vm', hW', st⟩ := Steps.vmThrowsMessageColdByV p (s₀ := s) (S := W) (g := g) h0 hexec T L Z LZ M LM X.warmed (t := W.cur) rfl Zs LZs P1 L1 Ps hL hlink1 hlink hsoe hoom hfound hk hinit hord hctor
    (Launch.admits_hotImplicitExceptions X.admits) hbeyond hfreeW htext hlimit hheap (X.cellsAbove hRcells) hslots (hfitv _) (hfitc _)
    (Nn := fun u => u) heapOnly_id (fun _ _ => rfl) (fun _ => rfl) (fun u x y => setCell_twice _ _ _ _) (fun _ => Nat.le_refl _) (cN := ((preparedCellV T.toThrowableT (freshCell P1.m.cls kX) (W.heap.size + 2) u0 sen).withEntry W.cur))
    hsel0 hcellS hknownS hvU tkS (fun _ hu => hu) (fun _ hu => hu) rfl rfl rfl (by simp [preparedCellV, Cell.setSlot, Cell.withEntry]) hskip (fun _ _ hA hW _ hroom _ hrest => L.nativeOff p htr hA hW hroom hrest) hselF hvSen tkC tkP tkM Y.objLocals rfl hfr' hwd'
  rw [plainBareV_eq T.toThrowableT (W.heap.size + 2) u0 sen (.ref (W.heap.size + 1)) W.cur rfl rfl] at st
  obtain ⟨-, -, w3, w4, -, -, -⟩ := withThrown_facts e.platform W Zs text P1.m.cls kX
  have X3 := ((X.pushed (bytesOf Zs.cB (stringToUtf16 text))).pushed (stringAt Zs.cS Zs.kS Zs.fv Zs.fc (stringToUtf16 text) W.heap.size)).pushed (freshCell P1.m.cls kX)
  rw [← withString_eq] at X3
  have X4 := X3.noted hW'
  have ha : (W.heap.size + 2) < ((withThrown W Zs text P1.m.cls kX).setVm vm').heap.size := by show _ < (withThrown W Zs text P1.m.cls kX).heap.size; rw [w3]; omega
  have hcell : ((withThrown W Zs text P1.m.cls kX).setVm vm').heap[(W.heap.size + 2)]? = some (freshCell P1.m.cls kX) := w4
  have X5 := ((((X4.stored hcell T.fCause.slot (.ref (W.heap.size + 2))).storedAgain ha T.fStack.slot u0.v).storedAgain ha T.fSupp.slot sen.v).storedAgain ha T.fStack.slot u0.v).storedAgain ha T.fMsg.slot (.ref (W.heap.size + 1))
  obtain ⟨g₁, hfrM⟩ := X5.frames_eq
  have hU : ((((withThrown W Zs text P1.m.cls kX).setVm vm').setCell (W.heap.size + 2) (plainBareV T.toThrowableT (freshCell P1.m.cls kX) (W.heap.size + 2) u0 sen (.ref (W.heap.size + 1)))).setTop g).pushFrame (.throwing (W.heap.size + 2)) = (((withThrown W Zs text P1.m.cls kX).setVm vm').setCell (W.heap.size + 2) (plainBareV T.toThrowableT (freshCell P1.m.cls kX) (W.heap.size + 2) u0 sen (.ref (W.heap.size + 1)))).setFrames (.throwing (W.heap.size + 2) :: .java g :: below) := by
    rw [State.pushFrame, State.frames_setTop _ hfrM, State.setTop_of_frames _ hfrM, State.setFrames_setFrames]
  have b1 : (bytesOf Zs.cB (stringToUtf16 text)).slots.size = (stringBytes (stringToUtf16 text)).size := by
    rw [(Cell.writeAll_facts _ _).2.2]; simp [bytes0]
  have b2 : (stringAt Zs.cS Zs.kS Zs.fv Zs.fc (stringToUtf16 text) W.heap.size).slots.size = 4 := by simp [string0, Cell.setSlot, hn4]
  have b3 : (freshCell P1.m.cls kX).slots.size = 6 := by simp [hn6]
  rw [b1, b2, b3] at X5
  have e9 : slots + (stringBytes (stringToUtf16 text)).size + 4 + 6 = slots + ((stringBytes (stringToUtf16 text)).size + 4 + 6) := by omega
  rw [e9] at X5
  simp only [List.append_assoc, List.cons_append, List.nil_append] at X5
  refine ⟨((withThrown W Zs text P1.m.cls kX).setVm vm').setCell (W.heap.size + 2) (plainBareV T.toThrowableT (freshCell P1.m.cls kX) (W.heap.size + 2) u0 sen (.ref (W.heap.size + 1))), W.heap.size + 2, _, fun target ht => st _ (by rw [X.tail, ← hU]; exact ht),
    X5.forget (fun y hy => ?_), heapAt_setCell_self _ ha, hfound, rfl⟩
  simp only [List.mem_cons, List.not_mem_nil, or_false] at hy
  have hge : s.heap.size ≤ W.heap.size := X.same.2.1
  rcases hy with rfl | rfl | rfl | rfl | rfl <;> exact Nat.le_trans hge (Nat.le_add_right _ 2)
set_option maxHeartbeats 1000000 in
/-- the machine throws NullPointerException, no traces kept: from its note over the frame g to 'throwing' over the same frame (follows the proof of Stand.vmThrowsNpe, Shelf42/KT2.lean; throwsNpeColdBareVAt, Shelf42/NT91.lean, called) -/
theorem vx_npeAt {p : Program} {l : Launch} {e : Env} {R : Room} {s : State} {m₀ : MethodId} {args : Array Value} {below : List Frame} {meth : Method} {c : Code} {W : State} {locs : List Loc} {cells slots : Nat}
    (X : Stand p l e R s m₀ args below meth c W locs cells slots) (hexec : p.tables.exec = Jvm.exec) (htr : e.platform.stackTraces = false) {n : Nat}
    (h : ∀ a ∈ Bundle.npeArmAtoms n, a.before args s = true)
    (hlocs : ∀ x ∈ locs, ∀ cell, s.heap[x.base]? = some cell → cell.vm.isStatics = false)
    {g : JFrame} (hg : g.method = m₀) (hsize : g.locals.size = c.maxLocals)
    (hRframes : 7 < R.frames) (hRlocals : 2 * g.monitorRoom + (g.stack.map fun v => v.category).sum + 10240 ≤ R.locals)
    (hRcells : cells + 1 ≤ R.cells) (hRslots : slots + n ≤ R.slots) (hlocks : meth.locks = false) :
    ∃ (S : State) (q : Addr) (ce : Cell), (∀ target, Steps p.tables e below ((S.setTop g).pushFrame (.throwing q)) target → Steps p.tables e below ((W.setTop g).pushFrame (.throwNew "java/lang/NullPointerException" none none)) target) ∧
      Stand p l e R s m₀ args below meth c S locs (cells + 1) (slots + n) ∧ S.heap[q]? = some ce ∧ s.vm.findClass "java/lang/NullPointerException" = some ce.cls ∧ ce.vm = .none := by
  have howns : e.platform.frameOwnsMonitors = true := by rw [X.admits.platform]
  have hfin : e.platform.finalization = false := by rw [X.admits.platform]
  have hpl : e.platform.magicAccessors = ({} : Platform).magicAccessors := by rw [X.admits.platform]
  have hpl2 : e.platform.arrayCloneIsPublic = true := by rw [X.admits.platform]
  have a' : ∀ x, x ∈ Bundle.npeArmAtoms n → x.holds args s none s [] = true := fun x hx => h x hx
  obtain ⟨T, Z, L, LZ, Y⟩ := ThrowableC.of_atoms (args := args) howns hfin hpl (fun x hx => h x (by simp [Bundle.npeArmAtoms, hx]))
  obtain ⟨N, LN, hcN, hnNF, hordN, hffS⟩ := NpeC.of_atoms (args := args) hpl hpl2 L Y (fun x hx => h x (by simp [Bundle.npeArmAtoms, hx]))
  obtain ⟨P1, L1, hP1m, hP1s⟩ := PassC.of_atoms (args := args) (s := s) hpl (X := Bundle.nN) (Y := Bundle.rN) (by decide) (by decide) LibCode.NullPointerException.Init0.at_0 LibCode.NullPointerException.Init0.at_1 LibCode.NullPointerException.Init0.at_4 (fun x hx => h x (by simp [Bundle.npeArmAtoms, hx]))
  obtain ⟨PR, LR, hPRm, hPRs⟩ := PassC.of_atoms (args := args) (s := s) hpl (X := Bundle.rN) (Y := Bundle.eN) (by decide) (by decide) LibCode.RuntimeException.Init0.at_0 LibCode.RuntimeException.Init0.at_1 LibCode.RuntimeException.Init0.at_4 (fun x hx => h x (by simp [Bundle.npeArmAtoms, hx]))
  obtain ⟨PE, LEx, hPEm, hPEs⟩ := PassC.of_atoms (args := args) (s := s) hpl (X := Bundle.eN) (Y := Bundle.tN) (by decide) (by decide) LibCode.Exception.Init0.at_0 LibCode.Exception.Init0.at_1 LibCode.Exception.Init0.at_4 (fun x hx => h x (by simp [Bundle.npeArmAtoms, hx]))
  have hfound : s.vm.findClass Bundle.nN = some P1.m.cls := findClass_of_methodNamed hP1m
  have ecls : N.cN = P1.m.cls := Option.some.inj (hcN.symm.trans hfound)
  have hk : s.vm.classes[P1.m.cls]? = some N.kN := by rw [← ecls]; exact LN.cls
  have hinit := Cond.initialized_spec hfound hk (a' (.initialized Bundle.nN) (by simp [Bundle.npeArmAtoms]))
  have hctor : N.kN.findMethod "<init>" "()V" = some P1.m.idx := findMethod_of_methodNamed hP1m hk
  obtain ⟨c1, k1, hc1, hk1, -, -, -, hn⟩ := Cond.instantiable_spec (a' (.instantiable Bundle.nN n) (by simp [Bundle.npeArmAtoms]))
  cases Option.some.inj (hc1.symm.trans hfound)
  cases Option.some.inj (hk1.symm.trans hk)
  have hfsz : (freshCell P1.m.cls N.kN).slots.size = n := by simp [hn]
  have hlink1 : P1.sup = PR.m := Option.some.inj (hP1s.symm.trans hPRm)
  have hlinkR : PR.sup = PE.m := Option.some.inj (hPRs.symm.trans hPEm)
  have hlinkE : PE.sup = Z.m T.toThrowableT := Option.some.inj (hPEs.symm.trans Y.init0)
  have hLs : ∀ P, P ∈ [PR, PE] → P.Links0 e.platform s := fun P hP => by
    simp only [List.mem_cons, List.not_mem_nil, or_false] at hP
    rcases hP with rfl | rfl
    · exact LR
    · exact LEx
  have hsel0 : selectMethod e.platform s.vm P1.m.cls T.fill0 = .method T.fill0 := by
    obtain ⟨c2, r2, m2, q1, q2, q3, q4, -⟩ := Cond.selects_spec (a' (.selects Bundle.nN Bundle.tFill0 Bundle.tFill0) (by simp [Bundle.npeArmAtoms]))
    cases Option.some.inj (q1.symm.trans hfound)
    cases Option.some.inj (q2.symm.trans (State.methodFound?_of_named Y.fill0 (by decide)))
    cases Option.some.inj (q3.symm.trans Y.fill0)
    rw [Launch.admits_selectMethod X.admits]; exact q4
  have hselF : selectMethod e.platform s.vm P1.m.cls T.fill = .method N.fill := by
    obtain ⟨c2, r2, m2, q1, q2, q3, q4, -⟩ := Cond.selects_spec (a' (.selects Bundle.nN Bundle.tFill Bundle.nFill) (by simp [Bundle.npeArmAtoms]))
    cases Option.some.inj (q1.symm.trans hfound)
    cases Option.some.inj (q2.symm.trans (State.methodFound?_of_named Y.fill (by decide)))
    cases Option.some.inj (q3.symm.trans hnNF)
    rw [Launch.admits_selectMethod X.admits]; exact q4
  obtain ⟨cellS0, hcS0, hiss⟩ := Y.statics
  obtain ⟨u0, hu0⟩ := Cond.staticRefV Y.unassigned L.unassignedStatic L.statics hcS0 hiss (a' (.isRef (.static Bundle.tN "UNASSIGNED_STACK" Bundle.steD)) (by simp [Bundle.npeArmAtoms]))
  obtain ⟨sen, hsen⟩ := Cond.staticRefV Y.sentinel L.sentinelStatic L.statics hcS0 hiss (a' (.isRef (.static Bundle.tN "SUPPRESSED_SENTINEL" Bundle.listD)) (by simp [Bundle.npeArmAtoms]))
  obtain ⟨ci198, i198, fB, hk198, hg198, ha198, hsB, -, hnB, htB, hffB⟩ := Cond.ownField (t := .object "java/lang/Object") Y.found L.cls (by decide +kernel) (a' (.fieldLink Bundle.tN 198 Bundle.tN "backtrace" Bundle.objD) (by simp [Bundle.npeArmAtoms])) (a' (.lays Bundle.tN Bundle.tN "backtrace" Bundle.objD) (by simp [Bundle.npeArmAtoms])) e.platform hpl
  obtain ⟨cellS, hcS', heS, -, hkeep⟩ := X.same.2.2.2.2.2 T.aS cellS0 hcS0
  have hcellS : W.heap[T.aS]? = some cellS := hcS'
  have hout' : ∀ i, (⟨T.aS, i⟩ : Loc) ∉ locs := fun i hmem => by
    have := hlocs _ hmem cellS0 hcS0
    rw [hiss] at this; cases this
  have hknownS : cellS.vm ≠ .unknown := by
    rw [heS]; intro hu
    rw [show cellS0.vm = .unknown from hu] at hiss
    cases hiss
  have hvU : cellS.slots[T.fUnassigned.slot]? = some u0.v := by rw [hkeep _ (hout' _)]; exact hu0
  have hvSen : cellS.slots[T.fSentinel.slot]? = some sen.v := by rw [hkeep _ (hout' _)]; exact hsen
  obtain ⟨tyC, dC, hdC, hdnC⟩ := Cond.laysAt hfound hk Y.cause (a' (.lays Bundle.nN Bundle.tN "cause" "Ljava/lang/Throwable;") (by simp [Bundle.npeArmAtoms]))
  obtain ⟨tyS, dS, hdS, hdnS⟩ := Cond.laysAt hfound hk Y.stack (a' (.lays Bundle.nN Bundle.tN "stackTrace" Bundle.steD) (by simp [Bundle.npeArmAtoms]))
  obtain ⟨tyP, dP, hdP, hdnP⟩ := Cond.laysAt hfound hk Y.supp (a' (.lays Bundle.nN Bundle.tN "suppressedExceptions" Bundle.listD) (by simp [Bundle.npeArmAtoms]))
  obtain ⟨tyX, dX, hdX, hdnX⟩ := Cond.laysAt hfound hk hffS (a' (.lays Bundle.nN Bundle.nN "extendedMessageState" "I") (by simp [Bundle.npeArmAtoms, Bundle.npeAtoms]))
  obtain ⟨hnX, htX⟩ := State.fieldFound?_type hffS (t := .int) (by decide +kernel)
  have xC := Cond.laysApart hdC hdX hdnC hdnX (by rw [hnX, Y.causeName]; decide)
  have xS := Cond.laysApart hdS hdX hdnS hdnX (by rw [hnX, Y.stackName]; decide)
  have xP := Cond.laysApart hdP hdX hdnP hdnX (by rw [hnX, Y.suppName]; decide)
  have hv0 : (freshCell P1.m.cls N.kN).slots[N.fState.slot]? = some (.int 0) := by
    have := fresh_default (c := P1.m.cls) tyX
    rw [htX] at this; exact this
  obtain ⟨tyB, dB, hdB, hdnB⟩ := Cond.laysAt hfound hk hffB (a' (.lays Bundle.nN Bundle.tN "backtrace" Bundle.objD) (by simp [Bundle.npeArmAtoms]))
  have bC := Cond.laysApart hdB hdC hdnB hdnC (by rw [hnB, Y.causeName]; decide)
  have bS := Cond.laysApart hdB hdS hdnB hdnS (by rw [hnB, Y.stackName]; decide)
  have bP := Cond.laysApart hdB hdP hdnB hdnP (by rw [hnB, Y.suppName]; decide)
  have bX := Cond.laysApart hdB hdX hdnB hdnX (by rw [hnB, hnX]; decide)
  have hbk : ((npeCell N.toNpeT (preparedCellV T.toThrowableT (freshCell P1.m.cls N.kN) W.heap.size u0 sen) W.cur).withEntry W.cur).slots[fB.slot]? = some .null := by
    have := fresh_default (c := P1.m.cls) tyB
    rw [htB] at this
    simpa [npeCell, preparedCellV, Cell.setSlot, Cell.withEntry, Array.getElem?_setIfInBounds, bC, bS, bP, bX, bC.symm, bS.symm, bP.symm, bX.symm, defaultValue] using this
  have tkC := Takes.of_laid (v := .ref W.heap.size) hk hordN tyC (by rw [Y.causeType]; rfl)
  have tkS := Takes.of_laid (v := u0.v) hk hordN tyS (by rw [Y.stackType]; exact fits_refV_array _ u0)
  have tkP := Takes.of_laid (v := sen.v) hk hordN tyP (by rw [Y.suppType]; exact fits_refV_object _ sen)
  have tkX := Takes.of_laid (v := .int 1) hk hordN tyX (by rw [htX]; rfl)
  have hskip : SkipFacts T e.platform s (fun u => u) u0 ((npeCell N.toNpeT (preparedCellV T.toThrowableT (freshCell P1.m.cls N.kN) W.heap.size u0 sen) W.cur).withEntry W.cur) := ⟨{ ci198 := ci198, i198 := i198, fBack := fB }, ⟨hk198, hg198, ha198, hsB⟩, hbk, fun _ _ => rfl⟩
  obtain ⟨vm', X3, st, -⟩ := X.throwsNpeColdBareVAt hexec hg hsize T L Z LZ N LN P1 L1 [PR, PE] hLs hlink1 ⟨hlinkR, hlinkE, trivial⟩ hfound hk hinit hordN hctor hsel0 hselF hcellS hknownS hvU hvSen
    hv0 xC xS xP tkC tkS tkP tkX Y.objLocals hskip (fun _ _ hA hW _ hroom _ hrest => L.nativeOff p htr hA hW hroom hrest) (by simpa using hRframes) hRlocals (by simp) hRcells (by rw [hn]; exact hRslots)
  have hlt : W.heap.size < ((W.pushCell (freshCell P1.m.cls N.kN)).setVm vm').heap.size := by
    show W.heap.size < (W.pushCell (freshCell P1.m.cls N.kN)).heap.size
    rw [State.heap_size_pushCell]; omega
  rw [hfsz] at X3
  obtain ⟨g₁, hfrM⟩ := X3.frames_eq
  have hU : ((((W.pushCell (freshCell P1.m.cls N.kN)).setVm vm').setCell W.heap.size (npeBareV T.toThrowableT N.toNpeT (freshCell P1.m.cls N.kN) W.heap.size u0 sen)).setTop g).pushFrame (.throwing W.heap.size) = (((W.pushCell (freshCell P1.m.cls N.kN)).setVm vm').setCell W.heap.size (npeBareV T.toThrowableT N.toNpeT (freshCell P1.m.cls N.kN) W.heap.size u0 sen)).setFrames (.throwing W.heap.size :: .java g :: below) := by
    rw [State.pushFrame, State.frames_setTop _ hfrM, State.setTop_of_frames _ hfrM, State.setFrames_setFrames]
  refine ⟨_, W.heap.size, _, fun target ht => st.trans (by rw [← hU]; exact ht), X3.forget (fun y hy => ?_), heapAt_setCell_self _ hlt, hfound, rfl⟩
  simp only [List.mem_cons, List.not_mem_nil, or_false] at hy
  have hge : s.heap.size ≤ W.heap.size := X.same.2.1
  rcases hy with rfl | rfl | rfl | rfl | rfl <;> exact hge
/-- the words of a machine's NullPointerException, but the four that speak of the heap -/
def vx_atN (n : Nat) : List Cond := (Bundle.npeArmAtoms n).filter vx_no
/-- the words of a machine's throw with a message, but the four that speak of the heap -/
def vx_atM (X : String) (names : List String) : List Cond := (Bundle.messageArmAtoms X names).filter vx_no
section
variable {p : Program} {l : Launch} {e : Env} {R : Room} {s : State} {m : MethodId} {args : Array Value} {below : List Frame} {meth : Method} {c : Code} {H : Heap} {locs : List Loc} {cells slots : Nat}
/-- a frame seen from a rebased start, seen from the first start again -/
theorem vx_back9 {T S : State} {R' : Room} {k n : Nat} (X : Stand p l e R s m args below meth c T locs cells slots) (Y : Stand p l e R' ((T.setVm s.vm).setFrames (.invoking m args :: below)) m args below meth c T [] 0 0) (Z : Stand p l e R' ((T.setVm s.vm).setFrames (.invoking m args :: below)) m args below meth c S [] k n) :
    Stand p l e R s m args below meth c S locs (cells + k) (slots + n) := by
  have hW0 : s.WarmedH ((T.setVm s.vm).setFrames (.invoking m args :: below)).vm := State.WarmedH.refl s
  refine { admits := X.admits, cas := X.cas, clock := X.clock, frames := X.frames, room := X.room, hears := X.hears, method := X.method, code := X.code, here := Z.here, tail := Z.tail, warmed := State.WarmedH.trans hW0 Z.warmed, limits := Z.limits.trans (Y.limits.symm.trans X.limits), bytes := Z.bytes.trans (Y.bytes.symm.trans X.bytes), same := ?_ }
  obtain ⟨e1, e2⟩ := Z.same
  rw [State.setFrames_setFrames] at e1
  have h2 : (T.setVm s.vm).sameButNew (S.setVm s.vm) [] k n := ⟨e1, e2⟩
  have h3 := X.same.trans h2
  rw [List.append_nil] at h3
  exact h3
/-- from the machine's note that E is thrown here with this text -/
def vx_Note (p : Program) (l : Launch) (e : Env) (R : Room) (s : State) (m : MethodId) (args : Array Value) (below : List Frame) (meth : Method) (c : Code) (H : Heap) (locs : List Loc) (cells slots : Nat) (Q : State → Prop) (g : JFrame) (E text : String) : Prop :=
  ∀ T : State, T.heap = H → Stand p l e R s m args below meth c T locs cells slots → ∃ t, Steps p.tables e below ((T.setTop g).pushFrame (.throwNew E (some text) none)) t ∧ Q t
theorem vx_vm {pc : Nat} {ls : Array Slot} {rest : List Value} {Q : State → Prop} (hexec : p.tables.exec = Jvm.exec) (hl : l.stackTraces = false) {cls text : String} {names : List String} {nb : Nat} {A : Nat → Prop}
    (hcls : Bundle.fit cls = true) (hnames : ∀ n ∈ names, Bundle.fit n = true) (hsoe : (cls == "java/lang/StackOverflowError") = false) (hoom : (cls == "java/lang/OutOfMemoryError") = false)
    (hat : ∀ w ∈ vx_atM cls names, w.before args s = true) (hgood : ∀ w ∈ vx_atM cls names, vx_ot w = true)
    (hU : vx_Zq Bundle.tN "UNASSIGNED_STACK" Bundle.steD A s s.heap) (hN : vx_Zq Bundle.tN "SUPPRESSED_SENTINEL" Bundle.listD A s s.heap) (hS : va_S A s.heap H locs) (hsize : ls.size = c.maxLocals)
    (htext : (text == notModelled) = false) (hnb : (stringBytes (stringToUtf16 text)).size ≤ nb) (hnb1 : nb ≤ 1000)
    (hRframes : names.length + 4 < R.frames) (hRlocals : (rest.map fun v => v.category).sum + 10240 ≤ R.locals) (hshort : 13 * names.length + 55 ≤ 10240) (hRcells : cells + 3 ≤ R.cells) (hRslots : slots + (nb + 10) ≤ R.slots) (hlocks : meth.locks = false)
    (k : ∀ (H1 : Heap) (q9 : Addr) (ce : Cell), H.size ≤ H1.size → (∀ q : Nat, q < H.size → H1[q]? = H[q]?) → va_S A s.heap H1 locs → H1[q9]? = some ce → ce.vm = .none → s.vm.findClass cls = some ce.cls → vx_W p l e R s m args below meth c H1 locs (cells + 3) (slots + (nb + 10)) Q (F0 m pc ls rest) q9) :
    vx_Note p l e R s m args below meth c H locs cells slots Q (F0 m pc ls rest) cls text := by
  intro T hT X
  have htr : e.platform.stackTraces = false := (show e.platform.stackTraces = l.stackTraces by rw [X.admits.platform]).trans hl
  have Y := vx_rebase X (R' := { frames := R.frames, locals := R.locals, cells := 3, slots := nb + 10 }) (Nat.le_refl _) (Nat.le_refl _) hRcells hRslots
  have hhp : ((T.setVm s.vm).setFrames (.invoking m args :: below)).heap = H := hT
  have hW0 : s.WarmedH ((T.setVm s.vm).setFrames (.invoking m args :: below)).vm := State.WarmedH.refl s
  have hat' : ∀ w ∈ vx_atM cls names, w.before args ((T.setVm s.vm).setFrames (.invoking m args :: below)) = true := fun w hw => vx_ot_at hW0 rfl (hgood w hw) (hat w hw)
  have hU' : vx_Zq Bundle.tN "UNASSIGNED_STACK" Bundle.steD A ((T.setVm s.vm).setFrames (.invoking m args :: below)) ((T.setVm s.vm).setFrames (.invoking m args :: below)).heap := by rw [hhp]; exact vx_Zq.moved hW0.alike (hU.kept hS.2.1)
  have hN' : vx_Zq Bundle.tN "SUPPRESSED_SENTINEL" Bundle.listD A ((T.setVm s.vm).setFrames (.invoking m args :: below)) ((T.setVm s.vm).setFrames (.invoking m args :: below)).heap := by rw [hhp]; exact vx_Zq.moved hW0.alike (hN.kept hS.2.1)
  obtain ⟨S, q, ce, st, Z, hce, hcl', hv⟩ := vx_vmAt Y hexec htr (cls := cls) (names := names) (text := text) hcls hnames hsoe hoom (vx_own hat' (vx_isRefq hU'.1) (vx_isRefq hN'.1) hU'.2.word hN'.2.word) (fun x hx => nomatch hx) htext
    (by rw [Launch.admits_arrayLengthLimit X.admits]; omega) (by rw [Launch.admits_maxHeapBytes X.admits]; simp only [componentBytes]; omega)
    (g := F0 m pc ls rest) rfl hsize hRframes (by show 2 * 0 + (rest.map fun v => v.category).sum + 10240 ≤ R.locals; omega) hshort (by show 0 + 3 ≤ 3; omega) (by show 0 + (_ + 4 + 6) ≤ nb + 10; omega) hlocks
  obtain ⟨f1, f2⟩ := vx_frame Z.same
  have f1' : H.size ≤ S.heap.size := by rw [← hT]; exact f1
  have f2' : ∀ q : Nat, q < H.size → S.heap[q]? = H[q]? := fun q hq => by
    rw [← hT]
    exact f2 q (by rw [← hT] at hq; exact hq) (fun z hz => nomatch hz)
  have X5 := vx_back9 X Y Z
  have X6 : Stand p l e R s m args below meth c S locs (cells + 3) (slots + (nb + 10)) := { X5 with same := X5.same.mono (by omega) (by omega) }
  obtain ⟨t, a1, b1⟩ := k S.heap q ce f1' f2' ⟨Nat.le_trans hS.1 f1', fun q h1 h2 => (f2' q (Nat.lt_of_lt_of_le h1 hS.1)).trans (hS.2.1 q h1 h2), hS.2.2⟩ hce hv hcl' S rfl X6
  exact ⟨t, st t a1, b1⟩
/-- from the machine's note that NullPointerException is thrown here -/
def vx_NoteN (p : Program) (l : Launch) (e : Env) (R : Room) (s : State) (m : MethodId) (args : Array Value) (below : List Frame) (meth : Method) (c : Code) (H : Heap) (locs : List Loc) (cells slots : Nat) (Q : State → Prop) (g : JFrame) : Prop :=
  ∀ T : State, T.heap = H → Stand p l e R s m args below meth c T locs cells slots → ∃ t, Steps p.tables e below ((T.setTop g).pushFrame (.throwNew "java/lang/NullPointerException" none none)) t ∧ Q t
theorem vx_npe {pc : Nat} {ls : Array Slot} {rest : List Value} {Q : State → Prop} (hexec : p.tables.exec = Jvm.exec) (hl : l.stackTraces = false) {nb : Nat} {A : Nat → Prop}
    (hat : ∀ w ∈ vx_atN nb, w.before args s = true) (hgood : ∀ w ∈ vx_atN nb, vx_ot w = true)
    (hU : vx_Zq Bundle.tN "UNASSIGNED_STACK" Bundle.steD A s s.heap) (hN : vx_Zq Bundle.tN "SUPPRESSED_SENTINEL" Bundle.listD A s s.heap) (hS : va_S A s.heap H locs) (hsize : ls.size = c.maxLocals)
    (hRframes : 7 < R.frames) (hRlocals : (rest.map fun v => v.category).sum + 10240 ≤ R.locals) (hRcells : cells + 1 ≤ R.cells) (hRslots : slots + nb ≤ R.slots) (hlocks : meth.locks = false)
    (k : ∀ (H1 : Heap) (q9 : Addr) (ce : Cell), H.size ≤ H1.size → (∀ q : Nat, q < H.size → H1[q]? = H[q]?) → va_S A s.heap H1 locs → H1[q9]? = some ce → ce.vm = .none → s.vm.findClass "java/lang/NullPointerException" = some ce.cls → vx_W p l e R s m args below meth c H1 locs (cells + 1) (slots + nb) Q (F0 m pc ls rest) q9) :
    vx_NoteN p l e R s m args below meth c H locs cells slots Q (F0 m pc ls rest) := by
  intro T hT X
  have htr : e.platform.stackTraces = false := (show e.platform.stackTraces = l.stackTraces by rw [X.admits.platform]).trans hl
  have Y := vx_rebase X (R' := { frames := R.frames, locals := R.locals, cells := 1, slots := nb }) (Nat.le_refl _) (Nat.le_refl _) hRcells hRslots
  have hhp : ((T.setVm s.vm).setFrames (.invoking m args :: below)).heap = H := hT
  have hW0 : s.WarmedH ((T.setVm s.vm).setFrames (.invoking m args :: below)).vm := State.WarmedH.refl s
  have hat' : ∀ w ∈ vx_atN nb, w.before args ((T.setVm s.vm).setFrames (.invoking m args :: below)) = true := fun w hw => vx_ot_at hW0 rfl (hgood w hw) (hat w hw)
  have hU' : vx_Zq Bundle.tN "UNASSIGNED_STACK" Bundle.steD A ((T.setVm s.vm).setFrames (.invoking m args :: below)) ((T.setVm s.vm).setFrames (.invoking m args :: below)).heap := by rw [hhp]; exact vx_Zq.moved hW0.alike (hU.kept hS.2.1)
  have hN' : vx_Zq Bundle.tN "SUPPRESSED_SENTINEL" Bundle.listD A ((T.setVm s.vm).setFrames (.invoking m args :: below)) ((T.setVm s.vm).setFrames (.invoking m args :: below)).heap := by rw [hhp]; exact vx_Zq.moved hW0.alike (hN.kept hS.2.1)
  obtain ⟨S, q, ce, st, Z, hce, hcl', hv⟩ := vx_npeAt Y hexec htr (n := nb) (vx_own hat' (vx_isRefq hU'.1) (vx_isRefq hN'.1) hU'.2.word hN'.2.word) (fun x hx => nomatch hx)
    (g := F0 m pc ls rest) rfl hsize hRframes (by show 2 * 0 + (rest.map fun v => v.category).sum + 10240 ≤ R.locals; omega) (by show 0 + 1 ≤ 1; omega) (by show 0 + nb ≤ nb; omega) hlocks
  obtain ⟨f1, f2⟩ := vx_frame Z.same
  have f1' : H.size ≤ S.heap.size := by rw [← hT]; exact f1
  have f2' : ∀ q : Nat, q < H.size → S.heap[q]? = H[q]? := fun q hq => by
    rw [← hT]
    exact f2 q (by rw [← hT] at hq; exact hq) (fun z hz => nomatch hz)
  have X5 := vx_back9 X Y Z
  have X6 : Stand p l e R s m args below meth c S locs (cells + 1) (slots + nb) := { X5 with same := X5.same.mono (by omega) (by omega) }
  obtain ⟨t, a1, b1⟩ := k S.heap q ce f1' f2' ⟨Nat.le_trans hS.1 f1', fun q h1 h2 => (f2' q (Nat.lt_of_lt_of_le h1 hS.1)).trans (hS.2.1 q h1 h2), hS.2.2⟩ hce hv hcl' S rfl X6
  exact ⟨t, st t a1, b1⟩
variable {Q : State → Prop} {cc : ByteArray} {pc : Nat} {ls : Array Slot} {rest : List Value}
theorem vx_idivZ (hexec : p.tables.exec = Jvm.exec) (hb : c.code = cc) {a b : Int32} (h0 : b = 0) (d : decode cc pc = .ok (.idiv, 1)) (k : vx_Note p l e R s m args below meth c H locs cells slots Q (F0 m pc ls rest) "java/lang/ArithmeticException" "/ by zero") :
    W p l e R s m args below meth c H locs cells slots Q (F0 m pc ls (.int b :: .int a :: rest)) := by
  intro T hT X
  obtain ⟨t, st, q⟩ := k T hT X
  exact ⟨t, X.idivZero hexec (g := F0 m pc ls (.int b :: .int a :: rest)) rfl (a := a) (rest := rest) (by rw [h0]) (by rw [hb]; exact d) t st, q⟩
theorem vx_iremZ (hexec : p.tables.exec = Jvm.exec) (hb : c.code = cc) {a b : Int32} (h0 : b = 0) (d : decode cc pc = .ok (.irem, 1)) (k : vx_Note p l e R s m args below meth c H locs cells slots Q (F0 m pc ls rest) "java/lang/ArithmeticException" "/ by zero") :
    W p l e R s m args below meth c H locs cells slots Q (F0 m pc ls (.int b :: .int a :: rest)) := by
  intro T hT X
  obtain ⟨t, st, q⟩ := k T hT X
  exact ⟨t, X.iremZero hexec (g := F0 m pc ls (.int b :: .int a :: rest)) rfl (a := a) (rest := rest) (by rw [h0]) (by rw [hb]; exact d) t st, q⟩
theorem vx_ldivZ (hexec : p.tables.exec = Jvm.exec) (hb : c.code = cc) {a b : Int64} (h0 : b = 0) (d : decode cc pc = .ok (.ldiv, 1)) (k : vx_Note p l e R s m args below meth c H locs cells slots Q (F0 m pc ls rest) "java/lang/ArithmeticException" "/ by zero") :
    W p l e R s m args below meth c H locs cells slots Q (F0 m pc ls (.long b :: .long a :: rest)) := by
  intro T hT X
  obtain ⟨t, st, q⟩ := k T hT X
  exact ⟨t, X.ldivZero hexec (g := F0 m pc ls (.long b :: .long a :: rest)) rfl (a := a) (rest := rest) (by rw [h0]) (by rw [hb]; exact d) t st, q⟩
theorem vx_lremZ (hexec : p.tables.exec = Jvm.exec) (hb : c.code = cc) {a b : Int64} (h0 : b = 0) (d : decode cc pc = .ok (.lrem, 1)) (k : vx_Note p l e R s m args below meth c H locs cells slots Q (F0 m pc ls rest) "java/lang/ArithmeticException" "/ by zero") :
    W p l e R s m args below meth c H locs cells slots Q (F0 m pc ls (.long b :: .long a :: rest)) := by
  intro T hT X
  obtain ⟨t, st, q⟩ := k T hT X
  exact ⟨t, X.lremZero hexec (g := F0 m pc ls (.long b :: .long a :: rest)) rfl (a := a) (rest := rest) (by rw [h0]) (by rw [hb]; exact d) t st, q⟩
theorem vx_ialdZ {D : va_G} {cl : List vw_C} {ws : va_W} {tys : List (ClassId × FieldType)} {a : Nat} (hexec : p.tables.exec = Jvm.exec) (hb : c.code = cc) (hK : va_K D cl tys s) (hP : va_P D cl ws H) (q0 t0 : Nat) {cA : ClassId} {n : Nat} {f : Nat → Int32} (ha : ws[q0]? = some (a, .inl (cA, n, .inl f))) (ht : tys[t0]? = some (cA, .int)) {i : Int32} (hout : ¬ vp_in i n) (hdg : decode cc pc = .ok (.iaload, 1))
    (k : ∀ tx : String, tx = (toString "Index " ++ toString i ++ toString " out of bounds for length " ++ toString n : String) → vx_Note p l e R s m args below meth c H locs cells slots Q (F0 m pc ls rest) "java/lang/ArrayIndexOutOfBoundsException" tx) : W p l e R s m args below meth c H locs cells slots Q (F0 m pc ls (.int i :: .ref a :: rest)) := by
  intro T hT X
  obtain ⟨t, st, q⟩ := k _ rfl T hT X
  refine ⟨t, ?_, q⟩
  have h1 := X.ialoadOut hexec (by rw [hT]; exact hP q0 _ ha) ((hK.2 t0 _ ht).1 n (fun j => .int (f j))) (j := i) (by show (i < 0 ∨ (arrV _ _ _).slots.size ≤ _); rw [arrV_size]; exact Classical.byContradiction hout) (g := F0 m pc ls (.int i :: .ref a :: rest)) rfl (rest := rest) rfl (by rw [hb]; exact hdg) t
  simp only [arrV_size] at h1
  exact h1 st
theorem vx_iastZ {D : va_G} {cl : List vw_C} {ws : va_W} {tys : List (ClassId × FieldType)} {a : Nat} (hexec : p.tables.exec = Jvm.exec) (hb : c.code = cc) (hK : va_K D cl tys s) (hP : va_P D cl ws H) (q0 t0 : Nat) {cA : ClassId} {n : Nat} {f : Nat → Int32} (ha : ws[q0]? = some (a, .inl (cA, n, .inl f))) (ht : tys[t0]? = some (cA, .int)) {i : Int32} {x : Int32} (hout : ¬ vp_in i n) (hdg : decode cc pc = .ok (.iastore, 1))
    (k : ∀ tx : String, tx = (toString "Index " ++ toString i ++ toString " out of bounds for length " ++ toString n : String) → vx_Note p l e R s m args below meth c H locs cells slots Q (F0 m pc ls rest) "java/lang/ArrayIndexOutOfBoundsException" tx) : W p l e R s m args below meth c H locs cells slots Q (F0 m pc ls (.int x :: .int i :: .ref a :: rest)) := by
  intro T hT X
  obtain ⟨t, st, q⟩ := k _ rfl T hT X
  refine ⟨t, ?_, q⟩
  have h1 := X.iastoreOut hexec (by rw [hT]; exact hP q0 _ ha) ((hK.2 t0 _ ht).1 n (fun j => .int (f j))) (j := i) (by show (i < 0 ∨ (arrV _ _ _).slots.size ≤ _); rw [arrV_size]; exact Classical.byContradiction hout) (g := F0 m pc ls (.int x :: .int i :: .ref a :: rest)) rfl (rest := rest) rfl (by rw [hb]; exact hdg) t
  simp only [arrV_size] at h1
  exact h1 st
theorem vx_baldZ {D : va_G} {cl : List vw_C} {ws : va_W} {tys : List (ClassId × FieldType)} {a : Nat} (hexec : p.tables.exec = Jvm.exec) (hb : c.code = cc) (hK : va_K D cl tys s) (hP : va_P D cl ws H) (q0 t0 : Nat) {cA : ClassId} {n : Nat} {f : Nat → Int32} (ha : ws[q0]? = some (a, .inl (cA, n, .inl f))) (ht : tys[t0]? = some (cA, .byte)) {i : Int32} (hout : ¬ vp_in i n) (hdg : decode cc pc = .ok (.baload, 1))
    (k : ∀ tx : String, tx = (toString "Index " ++ toString i ++ toString " out of bounds for length " ++ toString n : String) → vx_Note p l e R s m args below meth c H locs cells slots Q (F0 m pc ls rest) "java/lang/ArrayIndexOutOfBoundsException" tx) : W p l e R s m args below meth c H locs cells slots Q (F0 m pc ls (.int i :: .ref a :: rest)) := by
  intro T hT X
  obtain ⟨t, st, q⟩ := k _ rfl T hT X
  refine ⟨t, ?_, q⟩
  have h1 := X.baloadOut hexec (by rw [hT]; exact hP q0 _ ha) ((hK.2 t0 _ ht).1 n (fun j => .int (f j))) (j := i) (by show (i < 0 ∨ (arrV _ _ _).slots.size ≤ _); rw [arrV_size]; exact Classical.byContradiction hout) (g := F0 m pc ls (.int i :: .ref a :: rest)) rfl (rest := rest) rfl (by rw [hb]; exact hdg) t
  simp only [arrV_size] at h1
  exact h1 st
theorem vx_bastZ {D : va_G} {cl : List vw_C} {ws : va_W} {tys : List (ClassId × FieldType)} {a : Nat} (hexec : p.tables.exec = Jvm.exec) (hb : c.code = cc) (hK : va_K D cl tys s) (hP : va_P D cl ws H) (q0 t0 : Nat) {cA : ClassId} {n : Nat} {f : Nat → Int32} (ha : ws[q0]? = some (a, .inl (cA, n, .inl f))) (ht : tys[t0]? = some (cA, .byte)) {i : Int32} {x : Int32} (hout : ¬ vp_in i n) (hdg : decode cc pc = .ok (.bastore, 1))
    (k : ∀ tx : String, tx = (toString "Index " ++ toString i ++ toString " out of bounds for length " ++ toString n : String) → vx_Note p l e R s m args below meth c H locs cells slots Q (F0 m pc ls rest) "java/lang/ArrayIndexOutOfBoundsException" tx) : W p l e R s m args below meth c H locs cells slots Q (F0 m pc ls (.int x :: .int i :: .ref a :: rest)) := by
  intro T hT X
  obtain ⟨t, st, q⟩ := k _ rfl T hT X
  refine ⟨t, ?_, q⟩
  have h1 := X.bastoreOut hexec (by rw [hT]; exact hP q0 _ ha) ((hK.2 t0 _ ht).1 n (fun j => .int (f j))) (j := i) (by show (i < 0 ∨ (arrV _ _ _).slots.size ≤ _); rw [arrV_size]; exact Classical.byContradiction hout) (g := F0 m pc ls (.int x :: .int i :: .ref a :: rest)) rfl (rest := rest) rfl (by rw [hb]; exact hdg) t
  simp only [arrV_size] at h1
  exact h1 st
theorem vx_zaldZ {D : va_G} {cl : List vw_C} {ws : va_W} {tys : List (ClassId × FieldType)} {a : Nat} (hexec : p.tables.exec = Jvm.exec) (hb : c.code = cc) (hK : va_K D cl tys s) (hP : va_P D cl ws H) (q0 t0 : Nat) {cA : ClassId} {n : Nat} {f : Nat → Int32} (ha : ws[q0]? = some (a, .inl (cA, n, .inl f))) (ht : tys[t0]? = some (cA, .boolean)) {i : Int32} (hout : ¬ vp_in i n) (hdg : decode cc pc = .ok (.baload, 1))
    (k : ∀ tx : String, tx = (toString "Index " ++ toString i ++ toString " out of bounds for length " ++ toString n : String) → vx_Note p l e R s m args below meth c H locs cells slots Q (F0 m pc ls rest) "java/lang/ArrayIndexOutOfBoundsException" tx) : W p l e R s m args below meth c H locs cells slots Q (F0 m pc ls (.int i :: .ref a :: rest)) := by
  intro T hT X
  obtain ⟨t, st, q⟩ := k _ rfl T hT X
  refine ⟨t, ?_, q⟩
  have h1 := X.baloadOut hexec (by rw [hT]; exact hP q0 _ ha) ((hK.2 t0 _ ht).1 n (fun j => .int (f j))) (j := i) (by show (i < 0 ∨ (arrV _ _ _).slots.size ≤ _); rw [arrV_size]; exact Classical.byContradiction hout) (g := F0 m pc ls (.int i :: .ref a :: rest)) rfl (rest := rest) rfl (by rw [hb]; exact hdg) t
  simp only [arrV_size] at h1
  exact h1 st
theorem vx_zastZ {D : va_G} {cl : List vw_C} {ws : va_W} {tys : List (ClassId × FieldType)} {a : Nat} (hexec : p.tables.exec = Jvm.exec) (hb : c.code = cc) (hK : va_K D cl tys s) (hP : va_P D cl ws H) (q0 t0 : Nat) {cA : ClassId} {n : Nat} {f : Nat → Int32} (ha : ws[q0]? = some (a, .inl (cA, n, .inl f))) (ht : tys[t0]? = some (cA, .boolean)) {i : Int32} {x : Int32} (hout : ¬ vp_in i n) (hdg : decode cc pc = .ok (.bastore, 1))
    (k : ∀ tx : String, tx = (toString "Index " ++ toString i ++ toString " out of bounds for length " ++ toString n : String) → vx_Note p l e R s m args below meth c H locs cells slots Q (F0 m pc ls rest) "java/lang/ArrayIndexOutOfBoundsException" tx) : W p l e R s m args below meth c H locs cells slots Q (F0 m pc ls (.int x :: .int i :: .ref a :: rest)) := by
  intro T hT X
  obtain ⟨t, st, q⟩ := k _ rfl T hT X
  refine ⟨t, ?_, q⟩
  have h1 := X.bastoreOut hexec (by rw [hT]; exact hP q0 _ ha) ((hK.2 t0 _ ht).1 n (fun j => .int (f j))) (j := i) (by show (i < 0 ∨ (arrV _ _ _).slots.size ≤ _); rw [arrV_size]; exact Classical.byContradiction hout) (g := F0 m pc ls (.int x :: .int i :: .ref a :: rest)) rfl (rest := rest) rfl (by rw [hb]; exact hdg) t
  simp only [arrV_size] at h1
  exact h1 st
theorem vx_caldZ {D : va_G} {cl : List vw_C} {ws : va_W} {tys : List (ClassId × FieldType)} {a : Nat} (hexec : p.tables.exec = Jvm.exec) (hb : c.code = cc) (hK : va_K D cl tys s) (hP : va_P D cl ws H) (q0 t0 : Nat) {cA : ClassId} {n : Nat} {f : Nat → Int32} (ha : ws[q0]? = some (a, .inl (cA, n, .inl f))) (ht : tys[t0]? = some (cA, .char)) {i : Int32} (hout : ¬ vp_in i n) (hdg : decode cc pc = .ok (.caload, 1))
    (k : ∀ tx : String, tx = (toString "Index " ++ toString i ++ toString " out of bounds for length " ++ toString n : String) → vx_Note p l e R s m args below meth c H locs cells slots Q (F0 m pc ls rest) "java/lang/ArrayIndexOutOfBoundsException" tx) : W p l e R s m args below meth c H locs cells slots Q (F0 m pc ls (.int i :: .ref a :: rest)) := by
  intro T hT X
  obtain ⟨t, st, q⟩ := k _ rfl T hT X
  refine ⟨t, ?_, q⟩
  have h1 := X.caloadOut hexec (by rw [hT]; exact hP q0 _ ha) ((hK.2 t0 _ ht).1 n (fun j => .int (f j))) (j := i) (by show (i < 0 ∨ (arrV _ _ _).slots.size ≤ _); rw [arrV_size]; exact Classical.byContradiction hout) (g := F0 m pc ls (.int i :: .ref a :: rest)) rfl (rest := rest) rfl (by rw [hb]; exact hdg) t
  simp only [arrV_size] at h1
  exact h1 st
theorem vx_castZ {D : va_G} {cl : List vw_C} {ws : va_W} {tys : List (ClassId × FieldType)} {a : Nat} (hexec : p.tables.exec = Jvm.exec) (hb : c.code = cc) (hK : va_K D cl tys s) (hP : va_P D cl ws H) (q0 t0 : Nat) {cA : ClassId} {n : Nat} {f : Nat → Int32} (ha : ws[q0]? = some (a, .inl (cA, n, .inl f))) (ht : tys[t0]? = some (cA, .char)) {i : Int32} {x : Int32} (hout : ¬ vp_in i n) (hdg : decode cc pc = .ok (.castore, 1))
    (k : ∀ tx : String, tx = (toString "Index " ++ toString i ++ toString " out of bounds for length " ++ toString n : String) → vx_Note p l e R s m args below meth c H locs cells slots Q (F0 m pc ls rest) "java/lang/ArrayIndexOutOfBoundsException" tx) : W p l e R s m args below meth c H locs cells slots Q (F0 m pc ls (.int x :: .int i :: .ref a :: rest)) := by
  intro T hT X
  obtain ⟨t, st, q⟩ := k _ rfl T hT X
  refine ⟨t, ?_, q⟩
  have h1 := X.castoreOut hexec (by rw [hT]; exact hP q0 _ ha) ((hK.2 t0 _ ht).1 n (fun j => .int (f j))) (j := i) (by show (i < 0 ∨ (arrV _ _ _).slots.size ≤ _); rw [arrV_size]; exact Classical.byContradiction hout) (g := F0 m pc ls (.int x :: .int i :: .ref a :: rest)) rfl (rest := rest) rfl (by rw [hb]; exact hdg) t
  simp only [arrV_size] at h1
  exact h1 st
theorem vx_saldZ {D : va_G} {cl : List vw_C} {ws : va_W} {tys : List (ClassId × FieldType)} {a : Nat} (hexec : p.tables.exec = Jvm.exec) (hb : c.code = cc) (hK : va_K D cl tys s) (hP : va_P D cl ws H) (q0 t0 : Nat) {cA : ClassId} {n : Nat} {f : Nat → Int32} (ha : ws[q0]? = some (a, .inl (cA, n, .inl f))) (ht : tys[t0]? = some (cA, .short)) {i : Int32} (hout : ¬ vp_in i n) (hdg : decode cc pc = .ok (.saload, 1))
    (k : ∀ tx : String, tx = (toString "Index " ++ toString i ++ toString " out of bounds for length " ++ toString n : String) → vx_Note p l e R s m args below meth c H locs cells slots Q (F0 m pc ls rest) "java/lang/ArrayIndexOutOfBoundsException" tx) : W p l e R s m args below meth c H locs cells slots Q (F0 m pc ls (.int i :: .ref a :: rest)) := by
  intro T hT X
  obtain ⟨t, st, q⟩ := k _ rfl T hT X
  refine ⟨t, ?_, q⟩
  have h1 := X.saloadOut hexec (by rw [hT]; exact hP q0 _ ha) ((hK.2 t0 _ ht).1 n (fun j => .int (f j))) (j := i) (by show (i < 0 ∨ (arrV _ _ _).slots.size ≤ _); rw [arrV_size]; exact Classical.byContradiction hout) (g := F0 m pc ls (.int i :: .ref a :: rest)) rfl (rest := rest) rfl (by rw [hb]; exact hdg) t
  simp only [arrV_size] at h1
  exact h1 st
theorem vx_sastZ {D : va_G} {cl : List vw_C} {ws : va_W} {tys : List (ClassId × FieldType)} {a : Nat} (hexec : p.tables.exec = Jvm.exec) (hb : c.code = cc) (hK : va_K D cl tys s) (hP : va_P D cl ws H) (q0 t0 : Nat) {cA : ClassId} {n : Nat} {f : Nat → Int32} (ha : ws[q0]? = some (a, .inl (cA, n, .inl f))) (ht : tys[t0]? = some (cA, .short)) {i : Int32} {x : Int32} (hout : ¬ vp_in i n) (hdg : decode cc pc = .ok (.sastore, 1))
    (k : ∀ tx : String, tx = (toString "Index " ++ toString i ++ toString " out of bounds for length " ++ toString n : String) → vx_Note p l e R s m args below meth c H locs cells slots Q (F0 m pc ls rest) "java/lang/ArrayIndexOutOfBoundsException" tx) : W p l e R s m args below meth c H locs cells slots Q (F0 m pc ls (.int x :: .int i :: .ref a :: rest)) := by
  intro T hT X
  obtain ⟨t, st, q⟩ := k _ rfl T hT X
  refine ⟨t, ?_, q⟩
  have h1 := X.sastoreOut hexec (by rw [hT]; exact hP q0 _ ha) ((hK.2 t0 _ ht).1 n (fun j => .int (f j))) (j := i) (by show (i < 0 ∨ (arrV _ _ _).slots.size ≤ _); rw [arrV_size]; exact Classical.byContradiction hout) (g := F0 m pc ls (.int x :: .int i :: .ref a :: rest)) rfl (rest := rest) rfl (by rw [hb]; exact hdg) t
  simp only [arrV_size] at h1
  exact h1 st
theorem vx_laldZ {D : va_G} {cl : List vw_C} {ws : va_W} {tys : List (ClassId × FieldType)} {a : Nat} (hexec : p.tables.exec = Jvm.exec) (hb : c.code = cc) (hK : va_K D cl tys s) (hP : va_P D cl ws H) (q0 t0 : Nat) {cA : ClassId} {n : Nat} {f : Nat → Int64} (ha : ws[q0]? = some (a, .inl (cA, n, .inr (.inl f)))) (ht : tys[t0]? = some (cA, .long)) {i : Int32} (hout : ¬ vp_in i n) (hdg : decode cc pc = .ok (.laload, 1))
    (k : ∀ tx : String, tx = (toString "Index " ++ toString i ++ toString " out of bounds for length " ++ toString n : String) → vx_Note p l e R s m args below meth c H locs cells slots Q (F0 m pc ls rest) "java/lang/ArrayIndexOutOfBoundsException" tx) : W p l e R s m args below meth c H locs cells slots Q (F0 m pc ls (.int i :: .ref a :: rest)) := by
  intro T hT X
  obtain ⟨t, st, q⟩ := k _ rfl T hT X
  refine ⟨t, ?_, q⟩
  have h1 := X.laloadOut hexec (by rw [hT]; exact hP q0 _ ha) ((hK.2 t0 _ ht).1 n (fun j => .long (f j))) (j := i) (by show (i < 0 ∨ (arrV _ _ _).slots.size ≤ _); rw [arrV_size]; exact Classical.byContradiction hout) (g := F0 m pc ls (.int i :: .ref a :: rest)) rfl (rest := rest) rfl (by rw [hb]; exact hdg) t
  simp only [arrV_size] at h1
  exact h1 st
theorem vx_lastZ {D : va_G} {cl : List vw_C} {ws : va_W} {tys : List (ClassId × FieldType)} {a : Nat} (hexec : p.tables.exec = Jvm.exec) (hb : c.code = cc) (hK : va_K D cl tys s) (hP : va_P D cl ws H) (q0 t0 : Nat) {cA : ClassId} {n : Nat} {f : Nat → Int64} (ha : ws[q0]? = some (a, .inl (cA, n, .inr (.inl f)))) (ht : tys[t0]? = some (cA, .long)) {i : Int32} {x : Int64} (hout : ¬ vp_in i n) (hdg : decode cc pc = .ok (.lastore, 1))
    (k : ∀ tx : String, tx = (toString "Index " ++ toString i ++ toString " out of bounds for length " ++ toString n : String) → vx_Note p l e R s m args below meth c H locs cells slots Q (F0 m pc ls rest) "java/lang/ArrayIndexOutOfBoundsException" tx) : W p l e R s m args below meth c H locs cells slots Q (F0 m pc ls (.long x :: .int i :: .ref a :: rest)) := by
  intro T hT X
  obtain ⟨t, st, q⟩ := k _ rfl T hT X
  refine ⟨t, ?_, q⟩
  have h1 := X.lastoreOut hexec (by rw [hT]; exact hP q0 _ ha) ((hK.2 t0 _ ht).1 n (fun j => .long (f j))) (j := i) (by show (i < 0 ∨ (arrV _ _ _).slots.size ≤ _); rw [arrV_size]; exact Classical.byContradiction hout) (g := F0 m pc ls (.long x :: .int i :: .ref a :: rest)) rfl (rest := rest) rfl (by rw [hb]; exact hdg) t
  simp only [arrV_size] at h1
  exact h1 st
theorem vx_faldZ {D : va_G} {cl : List vw_C} {ws : va_W} {tys : List (ClassId × FieldType)} {a : Nat} (hexec : p.tables.exec = Jvm.exec) (hb : c.code = cc) (hK : va_K D cl tys s) (hP : va_P D cl ws H) (q0 t0 : Nat) {cA : ClassId} {n : Nat} {f : Nat → UInt32} (ha : ws[q0]? = some (a, .inl (cA, n, .inr (.inr (.inl f))))) (ht : tys[t0]? = some (cA, .float)) {i : Int32} (hout : ¬ vp_in i n) (hdg : decode cc pc = .ok (.faload, 1))
    (k : ∀ tx : String, tx = (toString "Index " ++ toString i ++ toString " out of bounds for length " ++ toString n : String) → vx_Note p l e R s m args below meth c H locs cells slots Q (F0 m pc ls rest) "java/lang/ArrayIndexOutOfBoundsException" tx) : W p l e R s m args below meth c H locs cells slots Q (F0 m pc ls (.int i :: .ref a :: rest)) := by
  intro T hT X
  obtain ⟨t, st, q⟩ := k _ rfl T hT X
  refine ⟨t, ?_, q⟩
  have h1 := X.faloadOut hexec (by rw [hT]; exact hP q0 _ ha) ((hK.2 t0 _ ht).1 n (fun j => .float (f j))) (j := i) (by show (i < 0 ∨ (arrV _ _ _).slots.size ≤ _); rw [arrV_size]; exact Classical.byContradiction hout) (g := F0 m pc ls (.int i :: .ref a :: rest)) rfl (rest := rest) rfl (by rw [hb]; exact hdg) t
  simp only [arrV_size] at h1
  exact h1 st
theorem vx_fastZ {D : va_G} {cl : List vw_C} {ws : va_W} {tys : List (ClassId × FieldType)} {a : Nat} (hexec : p.tables.exec = Jvm.exec) (hb : c.code = cc) (hK : va_K D cl tys s) (hP : va_P D cl ws H) (q0 t0 : Nat) {cA : ClassId} {n : Nat} {f : Nat → UInt32} (ha : ws[q0]? = some (a, .inl (cA, n, .inr (.inr (.inl f))))) (ht : tys[t0]? = some (cA, .float)) {i : Int32} {x : UInt32} (hout : ¬ vp_in i n) (hdg : decode cc pc = .ok (.fastore, 1))
    (k : ∀ tx : String, tx = (toString "Index " ++ toString i ++ toString " out of bounds for length " ++ toString n : String) → vx_Note p l e R s m args below meth c H locs cells slots Q (F0 m pc ls rest) "java/lang/ArrayIndexOutOfBoundsException" tx) : W p l e R s m args below meth c H locs cells slots Q (F0 m pc ls (.float x :: .int i :: .ref a :: rest)) := by
  intro T hT X
  obtain ⟨t, st, q⟩ := k _ rfl T hT X
  refine ⟨t, ?_, q⟩
  have h1 := X.fastoreOut hexec (by rw [hT]; exact hP q0 _ ha) ((hK.2 t0 _ ht).1 n (fun j => .float (f j))) (j := i) (by show (i < 0 ∨ (arrV _ _ _).slots.size ≤ _); rw [arrV_size]; exact Classical.byContradiction hout) (g := F0 m pc ls (.float x :: .int i :: .ref a :: rest)) rfl (rest := rest) rfl (by rw [hb]; exact hdg) t
  simp only [arrV_size] at h1
  exact h1 st
theorem vx_daldZ {D : va_G} {cl : List vw_C} {ws : va_W} {tys : List (ClassId × FieldType)} {a : Nat} (hexec : p.tables.exec = Jvm.exec) (hb : c.code = cc) (hK : va_K D cl tys s) (hP : va_P D cl ws H) (q0 t0 : Nat) {cA : ClassId} {n : Nat} {f : Nat → UInt64} (ha : ws[q0]? = some (a, .inl (cA, n, .inr (.inr (.inr (.inl f)))))) (ht : tys[t0]? = some (cA, .double)) {i : Int32} (hout : ¬ vp_in i n) (hdg : decode cc pc = .ok (.daload, 1))
    (k : ∀ tx : String, tx = (toString "Index " ++ toString i ++ toString " out of bounds for length " ++ toString n : String) → vx_Note p l e R s m args below meth c H locs cells slots Q (F0 m pc ls rest) "java/lang/ArrayIndexOutOfBoundsException" tx) : W p l e R s m args below meth c H locs cells slots Q (F0 m pc ls (.int i :: .ref a :: rest)) := by
  intro T hT X
  obtain ⟨t, st, q⟩ := k _ rfl T hT X
  refine ⟨t, ?_, q⟩
  have h1 := X.daloadOut hexec (by rw [hT]; exact hP q0 _ ha) ((hK.2 t0 _ ht).1 n (fun j => .double (f j))) (j := i) (by show (i < 0 ∨ (arrV _ _ _).slots.size ≤ _); rw [arrV_size]; exact Classical.byContradiction hout) (g := F0 m pc ls (.int i :: .ref a :: rest)) rfl (rest := rest) rfl (by rw [hb]; exact hdg) t
  simp only [arrV_size] at h1
  exact h1 st
theorem vx_dastZ {D : va_G} {cl : List vw_C} {ws : va_W} {tys : List (ClassId × FieldType)} {a : Nat} (hexec : p.tables.exec = Jvm.exec) (hb : c.code = cc) (hK : va_K D cl tys s) (hP : va_P D cl ws H) (q0 t0 : Nat) {cA : ClassId} {n : Nat} {f : Nat → UInt64} (ha : ws[q0]? = some (a, .inl (cA, n, .inr (.inr (.inr (.inl f)))))) (ht : tys[t0]? = some (cA, .double)) {i : Int32} {x : UInt64} (hout : ¬ vp_in i n) (hdg : decode cc pc = .ok (.dastore, 1))
    (k : ∀ tx : String, tx = (toString "Index " ++ toString i ++ toString " out of bounds for length " ++ toString n : String) → vx_Note p l e R s m args below meth c H locs cells slots Q (F0 m pc ls rest) "java/lang/ArrayIndexOutOfBoundsException" tx) : W p l e R s m args below meth c H locs cells slots Q (F0 m pc ls (.double x :: .int i :: .ref a :: rest)) := by
  intro T hT X
  obtain ⟨t, st, q⟩ := k _ rfl T hT X
  refine ⟨t, ?_, q⟩
  have h1 := X.dastoreOut hexec (by rw [hT]; exact hP q0 _ ha) ((hK.2 t0 _ ht).1 n (fun j => .double (f j))) (j := i) (by show (i < 0 ∨ (arrV _ _ _).slots.size ≤ _); rw [arrV_size]; exact Classical.byContradiction hout) (g := F0 m pc ls (.double x :: .int i :: .ref a :: rest)) rfl (rest := rest) rfl (by rw [hb]; exact hdg) t
  simp only [arrV_size] at h1
  exact h1 st
theorem vx_arraylengthN (hexec : p.tables.exec = Jvm.exec) (hb : c.code = cc) (hdg : decode cc pc = .ok (.arraylength, 1)) (k : vx_NoteN p l e R s m args below meth c H locs cells slots Q (F0 m pc ls rest)) : W p l e R s m args below meth c H locs cells slots Q (F0 m pc ls (.null :: rest)) := by
  intro T hT X
  obtain ⟨t, st, q⟩ := k T hT X
  exact ⟨t, X.arraylengthNull hexec (g := F0 m pc ls (.null :: rest)) rfl (rest := rest) rfl (by rw [hb]; exact hdg) t st, q⟩
theorem vx_ialoadN (hexec : p.tables.exec = Jvm.exec) (hb : c.code = cc) {i : Int32} (hdg : decode cc pc = .ok (.iaload, 1)) (k : vx_NoteN p l e R s m args below meth c H locs cells slots Q (F0 m pc ls rest)) : W p l e R s m args below meth c H locs cells slots Q (F0 m pc ls (.int i :: .null :: rest)) := by
  intro T hT X
  obtain ⟨t, st, q⟩ := k T hT X
  exact ⟨t, X.ialoadNull hexec (g := F0 m pc ls (.int i :: .null :: rest)) rfl (rest := rest) rfl (by rw [hb]; exact hdg) t st, q⟩
theorem vx_laloadN (hexec : p.tables.exec = Jvm.exec) (hb : c.code = cc) {i : Int32} (hdg : decode cc pc = .ok (.laload, 1)) (k : vx_NoteN p l e R s m args below meth c H locs cells slots Q (F0 m pc ls rest)) : W p l e R s m args below meth c H locs cells slots Q (F0 m pc ls (.int i :: .null :: rest)) := by
  intro T hT X
  obtain ⟨t, st, q⟩ := k T hT X
  exact ⟨t, X.laloadNull hexec (g := F0 m pc ls (.int i :: .null :: rest)) rfl (rest := rest) rfl (by rw [hb]; exact hdg) t st, q⟩
theorem vx_faloadN (hexec : p.tables.exec = Jvm.exec) (hb : c.code = cc) {i : Int32} (hdg : decode cc pc = .ok (.faload, 1)) (k : vx_NoteN p l e R s m args below meth c H locs cells slots Q (F0 m pc ls rest)) : W p l e R s m args below meth c H locs cells slots Q (F0 m pc ls (.int i :: .null :: rest)) := by
  intro T hT X
  obtain ⟨t, st, q⟩ := k T hT X
  exact ⟨t, X.faloadNull hexec (g := F0 m pc ls (.int i :: .null :: rest)) rfl (rest := rest) rfl (by rw [hb]; exact hdg) t st, q⟩
theorem vx_daloadN (hexec : p.tables.exec = Jvm.exec) (hb : c.code = cc) {i : Int32} (hdg : decode cc pc = .ok (.daload, 1)) (k : vx_NoteN p l e R s m args below meth c H locs cells slots Q (F0 m pc ls rest)) : W p l e R s m args below meth c H locs cells slots Q (F0 m pc ls (.int i :: .null :: rest)) := by
  intro T hT X
  obtain ⟨t, st, q⟩ := k T hT X
  exact ⟨t, X.daloadNull hexec (g := F0 m pc ls (.int i :: .null :: rest)) rfl (rest := rest) rfl (by rw [hb]; exact hdg) t st, q⟩
theorem vx_aaloadN (hexec : p.tables.exec = Jvm.exec) (hb : c.code = cc) {i : Int32} (hdg : decode cc pc = .ok (.aaload, 1)) (k : vx_NoteN p l e R s m args below meth c H locs cells slots Q (F0 m pc ls rest)) : W p l e R s m args below meth c H locs cells slots Q (F0 m pc ls (.int i :: .null :: rest)) := by
  intro T hT X
  obtain ⟨t, st, q⟩ := k T hT X
  exact ⟨t, X.aaloadNull hexec (g := F0 m pc ls (.int i :: .null :: rest)) rfl (rest := rest) rfl (by rw [hb]; exact hdg) t st, q⟩
theorem vx_baloadN (hexec : p.tables.exec = Jvm.exec) (hb : c.code = cc) {i : Int32} (hdg : decode cc pc = .ok (.baload, 1)) (k : vx_NoteN p l e R s m args below meth c H locs cells slots Q (F0 m pc ls rest)) : W p l e R s m args below meth c H locs cells slots Q (F0 m pc ls (.int i :: .null :: rest)) := by
  intro T hT X
  obtain ⟨t, st, q⟩ := k T hT X
  exact ⟨t, X.baloadNull hexec (g := F0 m pc ls (.int i :: .null :: rest)) rfl (rest := rest) rfl (by rw [hb]; exact hdg) t st, q⟩
theorem vx_caloadN (hexec : p.tables.exec = Jvm.exec) (hb : c.code = cc) {i : Int32} (hdg : decode cc pc = .ok (.caload, 1)) (k : vx_NoteN p l e R s m args below meth c H locs cells slots Q (F0 m pc ls rest)) : W p l e R s m args below meth c H locs cells slots Q (F0 m pc ls (.int i :: .null :: rest)) := by
  intro T hT X
  obtain ⟨t, st, q⟩ := k T hT X
  exact ⟨t, X.caloadNull hexec (g := F0 m pc ls (.int i :: .null :: rest)) rfl (rest := rest) rfl (by rw [hb]; exact hdg) t st, q⟩
theorem vx_saloadN (hexec : p.tables.exec = Jvm.exec) (hb : c.code = cc) {i : Int32} (hdg : decode cc pc = .ok (.saload, 1)) (k : vx_NoteN p l e R s m args below meth c H locs cells slots Q (F0 m pc ls rest)) : W p l e R s m args below meth c H locs cells slots Q (F0 m pc ls (.int i :: .null :: rest)) := by
  intro T hT X
  obtain ⟨t, st, q⟩ := k T hT X
  exact ⟨t, X.saloadNull hexec (g := F0 m pc ls (.int i :: .null :: rest)) rfl (rest := rest) rfl (by rw [hb]; exact hdg) t st, q⟩
theorem vx_iastoreN (hexec : p.tables.exec = Jvm.exec) (hb : c.code = cc) {x : Int32} {i : Int32} (hdg : decode cc pc = .ok (.iastore, 1)) (k : vx_NoteN p l e R s m args below meth c H locs cells slots Q (F0 m pc ls rest)) : W p l e R s m args below meth c H locs cells slots Q (F0 m pc ls (.int x :: .int i :: .null :: rest)) := by
  intro T hT X
  obtain ⟨t, st, q⟩ := k T hT X
  exact ⟨t, X.iastoreNull hexec (g := F0 m pc ls (.int x :: .int i :: .null :: rest)) rfl (rest := rest) rfl (by rw [hb]; exact hdg) t st, q⟩
theorem vx_lastoreN (hexec : p.tables.exec = Jvm.exec) (hb : c.code = cc) {x : Int64} {i : Int32} (hdg : decode cc pc = .ok (.lastore, 1)) (k : vx_NoteN p l e R s m args below meth c H locs cells slots Q (F0 m pc ls rest)) : W p l e R s m args below meth c H locs cells slots Q (F0 m pc ls (.long x :: .int i :: .null :: rest)) := by
  intro T hT X
  obtain ⟨t, st, q⟩ := k T hT X
  exact ⟨t, X.lastoreNull hexec (g := F0 m pc ls (.long x :: .int i :: .null :: rest)) rfl (rest := rest) rfl (by rw [hb]; exact hdg) t st, q⟩
theorem vx_fastoreN (hexec : p.tables.exec = Jvm.exec) (hb : c.code = cc) {x : UInt32} {i : Int32} (hdg : decode cc pc = .ok (.fastore, 1)) (k : vx_NoteN p l e R s m args below meth c H locs cells slots Q (F0 m pc ls rest)) : W p l e R s m args below meth c H locs cells slots Q (F0 m pc ls (.float x :: .int i :: .null :: rest)) := by
  intro T hT X
  obtain ⟨t, st, q⟩ := k T hT X
  exact ⟨t, X.fastoreNull hexec (g := F0 m pc ls (.float x :: .int i :: .null :: rest)) rfl (rest := rest) rfl (by rw [hb]; exact hdg) t st, q⟩
theorem vx_dastoreN (hexec : p.tables.exec = Jvm.exec) (hb : c.code = cc) {x : UInt64} {i : Int32} (hdg : decode cc pc = .ok (.dastore, 1)) (k : vx_NoteN p l e R s m args below meth c H locs cells slots Q (F0 m pc ls rest)) : W p l e R s m args below meth c H locs cells slots Q (F0 m pc ls (.double x :: .int i :: .null :: rest)) := by
  intro T hT X
  obtain ⟨t, st, q⟩ := k T hT X
  exact ⟨t, X.dastoreNull hexec (g := F0 m pc ls (.double x :: .int i :: .null :: rest)) rfl (rest := rest) rfl (by rw [hb]; exact hdg) t st, q⟩
theorem vx_bastoreN (hexec : p.tables.exec = Jvm.exec) (hb : c.code = cc) {x : Int32} {i : Int32} (hdg : decode cc pc = .ok (.bastore, 1)) (k : vx_NoteN p l e R s m args below meth c H locs cells slots Q (F0 m pc ls rest)) : W p l e R s m args below meth c H locs cells slots Q (F0 m pc ls (.int x :: .int i :: .null :: rest)) := by
  intro T hT X
  obtain ⟨t, st, q⟩ := k T hT X
  exact ⟨t, X.bastoreNull hexec (g := F0 m pc ls (.int x :: .int i :: .null :: rest)) rfl (rest := rest) rfl (by rw [hb]; exact hdg) t st, q⟩
theorem vx_castoreN (hexec : p.tables.exec = Jvm.exec) (hb : c.code = cc) {x : Int32} {i : Int32} (hdg : decode cc pc = .ok (.castore, 1)) (k : vx_NoteN p l e R s m args below meth c H locs cells slots Q (F0 m pc ls rest)) : W p l e R s m args below meth c H locs cells slots Q (F0 m pc ls (.int x :: .int i :: .null :: rest)) := by
  intro T hT X
  obtain ⟨t, st, q⟩ := k T hT X
  exact ⟨t, X.castoreNull hexec (g := F0 m pc ls (.int x :: .int i :: .null :: rest)) rfl (rest := rest) rfl (by rw [hb]; exact hdg) t st, q⟩
theorem vx_sastoreN (hexec : p.tables.exec = Jvm.exec) (hb : c.code = cc) {x : Int32} {i : Int32} (hdg : decode cc pc = .ok (.sastore, 1)) (k : vx_NoteN p l e R s m args below meth c H locs cells slots Q (F0 m pc ls rest)) : W p l e R s m args below meth c H locs cells slots Q (F0 m pc ls (.int x :: .int i :: .null :: rest)) := by
  intro T hT X
  obtain ⟨t, st, q⟩ := k T hT X
  exact ⟨t, X.sastoreNull hexec (g := F0 m pc ls (.int x :: .int i :: .null :: rest)) rfl (rest := rest) rfl (by rw [hb]; exact hdg) t st, q⟩
theorem vx_invokeN {own C : String} {index maxL : Nat} {y : MethodName} {bytes : ByteArray} {ret : Option FieldType} (hexec : p.tables.exec = Jvm.exec) (hb : c.code = cc) (hown : s.vm.findClass own = some m.cls) (hlink : (Cond.methodLink own index y).before args s = true) (hinst : (Cond.instanceMethod y).before args s = true) (hcode : (Cond.code y bytes maxL ret).before args s = true) (hsel : (Cond.selects C y y).before args s = true)
    (hx : y.cls ≠ "java/lang/invoke/MethodHandle" ∧ y.cls ≠ "java/lang/invoke/VarHandle") {As : List Value} (hlen : (parseMethodDescriptor y.desc).map (fun d => d.parameters.length) = some As.length) (hdg : decode cc pc = .ok (.invokevirtual index, 3))
    (k : vx_NoteN p l e R s m args below meth c H locs cells slots Q (F0 m pc ls rest)) {st0 : List Value} (hst : st0 = As.reverse ++ .null :: rest) : W p l e R s m args below meth c H locs cells slots Q (F0 m pc ls st0) := by
  intro T hT X
  obtain ⟨r0, r, hn, hrm, hstR, hsigR⟩ := va_Decl.of hinst hcode
  obtain ⟨c2, r2, m2, q1, q2, q3, q4, kP, hkP, hkPi⟩ := Cond.selects_spec hsel
  cases hn.symm.trans q3
  have hl9 : As.length = r.sig.parameters.length := by
    rw [hsigR] at hlen
    exact (Option.some.inj hlen).symm
  obtain ⟨vm', X1, st1⟩ := X.invokevirtualNull hexec hown hlink hn hrm hstR hkP hkPi hx (g := F0 m pc ls st0) rfl (argsL := As) (rest := rest) hl9 hst (by rw [hb]; exact hdg)
  obtain ⟨t, st, q⟩ := k (T.setVm vm') hT X1
  exact ⟨t, st1 t st, q⟩
theorem vx_newarrayZ {atype : ArrayType} (hexec : p.tables.exec = Jvm.exec) (hb : c.code = cc) {n : Int32} (h0 : n < 0) (hdg : decode cc pc = .ok (.newarray atype, 2)) (k : ∀ tx : String, tx = toString n → vx_Note p l e R s m args below meth c H locs cells slots Q (F0 m pc ls rest) "java/lang/NegativeArraySizeException" tx) : W p l e R s m args below meth c H locs cells slots Q (F0 m pc ls (.int n :: rest)) := by
  intro T hT X
  obtain ⟨t, st, q⟩ := k _ rfl T hT X
  exact ⟨t, X.newarrayNegative hexec (g := F0 m pc ls (.int n :: rest)) rfl h0 (rest := rest) rfl (by rw [hb]; exact hdg) t st, q⟩
end
end VXM
/-! ===== END ===== -/
end
section
/-! ===== BEGIN printed: names, fields, word lists, decode rows ===== -/
def RX0 : String := "IntervalSolver"
def TX0 : u_T := fun k => match k with
  | 0 => ("IntervalSolver", "n", "I", false)
  | 1 => ("IntervalSolver", "coefficients", "[[I", true)
  | 2 => ("IntervalSolver", "spreads", "[[I", true)
  | 3 => ("IntervalSolver", "rightLows", "[I", true)
  | 4 => ("IntervalSolver", "rightHighs", "[I", true)
  | 5 => ("IntervalSolver", "boxLows", "[I", true)
  | 6 => ("IntervalSolver", "boxHighs", "[I", true)
  | 7 => ("IntervalSolver", "keptLows", "[I", true)
  | 8 => ("IntervalSolver", "keptHighs", "[I", true)
  | 9 => ("IntervalSolver", "minors", "[J", true)
  | 10 => ("IntervalSolver", "vector", "[J", true)
  | 11 => ("IntervalSolver", "scaledInverse", "[[J", true)
  | _ => ("IntervalSolver", "scale", "J", false)
def tyX0 : Nat → FieldType := fun k => match k with
  | 0 => .int
  | 1 => .array (.array .int)
  | 2 => .array (.array .int)
  | 3 => .array .int
  | 4 => .array .int
  | 5 => .array .int
  | 6 => .array .int
  | 7 => .array .int
  | 8 => .array .int
  | 9 => .array .long
  | 10 => .array .long
  | 11 => .array (.array .long)
  | _ => .long
abbrev wsX00 : List Cond := u_ws RX0 TX0 13
theorem nmX0 : ∀ a, a < 13 → ∀ b, b < 13 → a ≠ b → (TX0 a).2.1 ≠ (TX0 b).2.1 := by decide +kernel
theorem tyX0_ok : ∀ k, k < 13 → parseFieldDescriptor (TX0 k).2.2.1 = some (tyX0 k) := by decide +kernel
abbrev cX0_init : ByteArray := prog_1_method_1_code
def yX0_init : MethodName := ⟨RX0, "<init>", "()V"⟩
abbrev cX0_setSize : ByteArray := prog_1_method_2_code
def yX0_setSize : MethodName := ⟨RX0, "setSize", "(I)I"⟩
abbrev cX0_size : ByteArray := prog_1_method_3_code
def yX0_size : MethodName := ⟨RX0, "size", "()I"⟩
abbrev cX0_setCoefficient : ByteArray := prog_1_method_4_code
def yX0_setCoefficient : MethodName := ⟨RX0, "setCoefficient", "(III)I"⟩
abbrev cX0_coefficient : ByteArray := prog_1_method_5_code
def yX0_coefficient : MethodName := ⟨RX0, "coefficient", "(II)I"⟩
abbrev cX0_setRight : ByteArray := prog_1_method_6_code
def yX0_setRight : MethodName := ⟨RX0, "setRight", "(III)Z"⟩
abbrev cX0_rightLow : ByteArray := prog_1_method_7_code
def yX0_rightLow : MethodName := ⟨RX0, "rightLow", "(I)I"⟩
abbrev cX0_rightHigh : ByteArray := prog_1_method_8_code
def yX0_rightHigh : MethodName := ⟨RX0, "rightHigh", "(I)I"⟩
abbrev cX0_setSpread : ByteArray := prog_1_method_9_code
def yX0_setSpread : MethodName := ⟨RX0, "setSpread", "(III)I"⟩
abbrev cX0_swapRows : ByteArray := prog_1_method_10_code
def yX0_swapRows : MethodName := ⟨RX0, "swapRows", "(II)Z"⟩
abbrev cX0_addRow : ByteArray := prog_1_method_11_code
def yX0_addRow : MethodName := ⟨RX0, "addRow", "(III)I"⟩
abbrev cX0_determinant : ByteArray := prog_1_method_12_code
def yX0_determinant : MethodName := ⟨RX0, "determinant", "()J"⟩
abbrev cX0_lowNumerator : ByteArray := prog_1_method_13_code
def yX0_lowNumerator : MethodName := ⟨RX0, "lowNumerator", "(I)J"⟩
abbrev cX0_lowDenominator : ByteArray := prog_1_method_14_code
def yX0_lowDenominator : MethodName := ⟨RX0, "lowDenominator", "(I)J"⟩
abbrev cX0_highNumerator : ByteArray := prog_1_method_15_code
def yX0_highNumerator : MethodName := ⟨RX0, "highNumerator", "(I)J"⟩
abbrev cX0_highDenominator : ByteArray := prog_1_method_16_code
def yX0_highDenominator : MethodName := ⟨RX0, "highDenominator", "(I)J"⟩
abbrev cX0_inverseNumerator : ByteArray := prog_1_method_17_code
def yX0_inverseNumerator : MethodName := ⟨RX0, "inverseNumerator", "(II)J"⟩
abbrev cX0_inverseDenominator : ByteArray := prog_1_method_18_code
def yX0_inverseDenominator : MethodName := ⟨RX0, "inverseDenominator", "(II)J"⟩
abbrev cX0_isSolution : ByteArray := prog_1_method_19_code
def yX0_isSolution : MethodName := ⟨RX0, "isSolution", "(IIIII)Z"⟩
abbrev cX0_condition : ByteArray := prog_1_method_20_code
def yX0_condition : MethodName := ⟨RX0, "condition", "()D"⟩
abbrev cX0_variationNumerator : ByteArray := prog_1_method_21_code
def yX0_variationNumerator : MethodName := ⟨RX0, "variationNumerator", "()J"⟩
abbrev cX0_variationDenominator : ByteArray := prog_1_method_22_code
def yX0_variationDenominator : MethodName := ⟨RX0, "variationDenominator", "()J"⟩
abbrev cX0_isSafe : ByteArray := prog_1_method_23_code
def yX0_isSafe : MethodName := ⟨RX0, "isSafe", "()Z"⟩
abbrev cX0_isDominant : ByteArray := prog_1_method_24_code
def yX0_isDominant : MethodName := ⟨RX0, "isDominant", "()Z"⟩
abbrev cX0_setBox : ByteArray := prog_1_method_25_code
def yX0_setBox : MethodName := ⟨RX0, "setBox", "(III)Z"⟩
abbrev cX0_boxLow : ByteArray := prog_1_method_26_code
def yX0_boxLow : MethodName := ⟨RX0, "boxLow", "(I)I"⟩
abbrev cX0_boxHigh : ByteArray := prog_1_method_27_code
def yX0_boxHigh : MethodName := ⟨RX0, "boxHigh", "(I)I"⟩
abbrev cX0_sweep : ByteArray := prog_1_method_28_code
def yX0_sweep : MethodName := ⟨RX0, "sweep", "()I"⟩
abbrev cX0_contract : ByteArray := prog_1_method_29_code
def yX0_contract : MethodName := ⟨RX0, "contract", "(I)I"⟩
abbrev cX0_sharpen : ByteArray := prog_1_method_30_code
def yX0_sharpen : MethodName := ⟨RX0, "sharpen", "()I"⟩
abbrev cX0_isCertified : ByteArray := prog_1_method_31_code
def yX0_isCertified : MethodName := ⟨RX0, "isCertified", "()Z"⟩
abbrev cX0_residualLow : ByteArray := prog_1_method_32_code
def yX0_residualLow : MethodName := ⟨RX0, "residualLow", "(I)J"⟩
abbrev cX0_residualHigh : ByteArray := prog_1_method_33_code
def yX0_residualHigh : MethodName := ⟨RX0, "residualHigh", "(I)J"⟩
abbrev cX0_digest : ByteArray := prog_1_method_34_code
def yX0_digest : MethodName := ⟨RX0, "digest", "()J"⟩
abbrev cX0_startSystem : ByteArray := prog_1_method_35_code
def yX0_startSystem : MethodName := ⟨RX0, "startSystem", "(I)V"⟩
abbrev cX0_isIndex : ByteArray := prog_1_method_36_code
def yX0_isIndex : MethodName := ⟨RX0, "isIndex", "(I)Z"⟩
abbrev cX0_isWithin : ByteArray := prog_1_method_37_code
def yX0_isWithin : MethodName := ⟨RX0, "isWithin", "(II)Z"⟩
abbrev cX0_isInterval : ByteArray := prog_1_method_38_code
def yX0_isInterval : MethodName := ⟨RX0, "isInterval", "(III)Z"⟩
abbrev cX0_exchange : ByteArray := prog_1_method_39_code
def yX0_exchange : MethodName := ⟨RX0, "exchange", "([III)V"⟩
abbrev cX0_coefficientsFit : ByteArray := prog_1_method_40_code
def yX0_coefficientsFit : MethodName := ⟨RX0, "coefficientsFit", "(III)Z"⟩
abbrev cX0_addCoefficients : ByteArray := prog_1_method_41_code
def yX0_addCoefficients : MethodName := ⟨RX0, "addCoefficients", "(III)I"⟩
abbrev cX0_productLow : ByteArray := prog_1_method_42_code
def yX0_productLow : MethodName := ⟨RX0, "productLow", "(III)I"⟩
abbrev cX0_productHigh : ByteArray := prog_1_method_43_code
def yX0_productHigh : MethodName := ⟨RX0, "productHigh", "(III)I"⟩
abbrev cX0_allColumns : ByteArray := prog_1_method_44_code
def yX0_allColumns : MethodName := ⟨RX0, "allColumns", "()I"⟩
abbrev cX0_findMinors : ByteArray := prog_1_method_45_code
def yX0_findMinors : MethodName := ⟨RX0, "findMinors", "(I)V"⟩
abbrev cX0_expanded : ByteArray := prog_1_method_46_code
def yX0_expanded : MethodName := ⟨RX0, "expanded", "(II)J"⟩
abbrev cX0_invert : ByteArray := prog_1_method_47_code
def yX0_invert : MethodName := ⟨RX0, "invert", "()Z"⟩
abbrev cX0_scaledHullLow : ByteArray := prog_1_method_48_code
def yX0_scaledHullLow : MethodName := ⟨RX0, "scaledHullLow", "(I)J"⟩
abbrev cX0_scaledHullHigh : ByteArray := prog_1_method_49_code
def yX0_scaledHullHigh : MethodName := ⟨RX0, "scaledHullHigh", "(I)J"⟩
abbrev cX0_reduced : ByteArray := prog_1_method_50_code
def yX0_reduced : MethodName := ⟨RX0, "reduced", "(JJ)J"⟩
abbrev cX0_greatestCommonDivisor : ByteArray := prog_1_method_51_code
def yX0_greatestCommonDivisor : MethodName := ⟨RX0, "greatestCommonDivisor", "(JJ)J"⟩
abbrev cX0_scaledVariation : ByteArray := prog_1_method_52_code
def yX0_scaledVariation : MethodName := ⟨RX0, "scaledVariation", "()J"⟩
abbrev cX0_keepBox : ByteArray := prog_1_method_53_code
def yX0_keepBox : MethodName := ⟨RX0, "keepBox", "()V"⟩
abbrev cX0_restoreBox : ByteArray := prog_1_method_54_code
def yX0_restoreBox : MethodName := ⟨RX0, "restoreBox", "()V"⟩
abbrev cX0_contractBy : ByteArray := prog_1_method_55_code
def yX0_contractBy : MethodName := ⟨RX0, "contractBy", "(I)I"⟩
abbrev cX0_intersect : ByteArray := prog_1_method_56_code
def yX0_intersect : MethodName := ⟨RX0, "intersect", "(IJJ)I"⟩
abbrev cX0_hullLowInUnits : ByteArray := prog_1_method_57_code
def yX0_hullLowInUnits : MethodName := ⟨RX0, "hullLowInUnits", "(I)J"⟩
abbrev cX0_hullHighInUnits : ByteArray := prog_1_method_58_code
def yX0_hullHighInUnits : MethodName := ⟨RX0, "hullHighInUnits", "(I)J"⟩
abbrev cX0_quotientDown : ByteArray := prog_1_method_59_code
def yX0_quotientDown : MethodName := ⟨RX0, "quotientDown", "(JJ)J"⟩
abbrev cX0_quotientUp : ByteArray := prog_1_method_60_code
def yX0_quotientUp : MethodName := ⟨RX0, "quotientUp", "(JJ)J"⟩
abbrev cX0_doubledMiddle : ByteArray := prog_1_method_61_code
def yX0_doubledMiddle : MethodName := ⟨RX0, "doubledMiddle", "(I)J"⟩
abbrev cX0_mixed : ByteArray := prog_1_method_62_code
def yX0_mixed : MethodName := ⟨RX0, "mixed", "(JJ)J"⟩
def RX1 : String := "IntervalSolverModel"
def TX1 : u_T := fun k => match k with
  | 0 => ("IntervalSolverModel", "thrown", "I", false)
  | 1 => ("IntervalSolverModel", "n", "I", false)
  | 2 => ("IntervalSolverModel", "a", "[I", true)
  | 3 => ("IntervalSolverModel", "spreads", "[I", true)
  | 4 => ("IntervalSolverModel", "lows", "[I", true)
  | 5 => ("IntervalSolverModel", "highs", "[I", true)
  | 6 => ("IntervalSolverModel", "boxLows", "[I", true)
  | 7 => ("IntervalSolverModel", "boxHighs", "[I", true)
  | 8 => ("IntervalSolverModel", "formerLows", "[I", true)
  | 9 => ("IntervalSolverModel", "formerHighs", "[I", true)
  | 10 => ("IntervalSolverModel", "parts", "[J", true)
  | 11 => ("IntervalSolverModel", "numerator", "J", false)
  | _ => ("IntervalSolverModel", "denominator", "J", false)
def tyX1 : Nat → FieldType := fun k => match k with
  | 0 => .int
  | 1 => .int
  | 2 => .array .int
  | 3 => .array .int
  | 4 => .array .int
  | 5 => .array .int
  | 6 => .array .int
  | 7 => .array .int
  | 8 => .array .int
  | 9 => .array .int
  | 10 => .array .long
  | 11 => .long
  | _ => .long
abbrev wsX10 : List Cond := u_ws RX1 TX1 13
theorem nmX1 : ∀ a, a < 13 → ∀ b, b < 13 → a ≠ b → (TX1 a).2.1 ≠ (TX1 b).2.1 := by decide +kernel
theorem tyX1_ok : ∀ k, k < 13 → parseFieldDescriptor (TX1 k).2.2.1 = some (tyX1 k) := by decide +kernel
abbrev cX1_init : ByteArray := prog_3_method_1_code
def yX1_init : MethodName := ⟨RX1, "<init>", "()V"⟩
abbrev cX1_thrown : ByteArray := prog_3_method_2_code
def yX1_thrown : MethodName := ⟨RX1, "thrown", "()I"⟩
abbrev cX1_fail : ByteArray := prog_3_method_3_code
def yX1_fail : MethodName := ⟨RX1, "fail", "(I)I"⟩
abbrev cX1_isIndex : ByteArray := prog_3_method_4_code
def yX1_isIndex : MethodName := ⟨RX1, "isIndex", "(I)Z"⟩
abbrev cX1_at : ByteArray := prog_3_method_5_code
def yX1_at : MethodName := ⟨RX1, "at", "(II)I"⟩
abbrev cX1_clear : ByteArray := prog_3_method_6_code
def yX1_clear : MethodName := ⟨RX1, "clear", "()V"⟩
abbrev cX1_setSize : ByteArray := prog_3_method_7_code
def yX1_setSize : MethodName := ⟨RX1, "setSize", "(I)I"⟩
abbrev cX1_size : ByteArray := prog_3_method_8_code
def yX1_size : MethodName := ⟨RX1, "size", "()I"⟩
abbrev cX1_setCoefficient : ByteArray := prog_3_method_9_code
def yX1_setCoefficient : MethodName := ⟨RX1, "setCoefficient", "(III)I"⟩
abbrev cX1_coefficient : ByteArray := prog_3_method_10_code
def yX1_coefficient : MethodName := ⟨RX1, "coefficient", "(II)I"⟩
abbrev cX1_setRight : ByteArray := prog_3_method_11_code
def yX1_setRight : MethodName := ⟨RX1, "setRight", "(III)Z"⟩
abbrev cX1_rightLow : ByteArray := prog_3_method_12_code
def yX1_rightLow : MethodName := ⟨RX1, "rightLow", "(I)I"⟩
abbrev cX1_rightHigh : ByteArray := prog_3_method_13_code
def yX1_rightHigh : MethodName := ⟨RX1, "rightHigh", "(I)I"⟩
abbrev cX1_setSpread : ByteArray := prog_3_method_14_code
def yX1_setSpread : MethodName := ⟨RX1, "setSpread", "(III)I"⟩
abbrev cX1_swap : ByteArray := prog_3_method_15_code
def yX1_swap : MethodName := ⟨RX1, "swap", "([III)V"⟩
abbrev cX1_swapRows : ByteArray := prog_3_method_16_code
def yX1_swapRows : MethodName := ⟨RX1, "swapRows", "(II)Z"⟩
abbrev cX1_addRow : ByteArray := prog_3_method_17_code
def yX1_addRow : MethodName := ⟨RX1, "addRow", "(III)I"⟩
abbrev cX1_determinantWithout : ByteArray := prog_3_method_18_code
def yX1_determinantWithout : MethodName := ⟨RX1, "determinantWithout", "(II)J"⟩
abbrev cX1_sizeOf : ByteArray := prog_3_method_19_code
def yX1_sizeOf : MethodName := ⟨RX1, "sizeOf", "(I)I"⟩
abbrev cX1_determinant : ByteArray := prog_3_method_20_code
def yX1_determinant : MethodName := ⟨RX1, "determinant", "()J"⟩
abbrev cX1_cofactor : ByteArray := prog_3_method_21_code
def yX1_cofactor : MethodName := ⟨RX1, "cofactor", "(II)J"⟩
abbrev cX1_reduce : ByteArray := prog_3_method_22_code
def yX1_reduce : MethodName := ⟨RX1, "reduce", "(JJ)V"⟩
abbrev cX1_findEnd : ByteArray := prog_3_method_23_code
def yX1_findEnd : MethodName := ⟨RX1, "findEnd", "(IZ)V"⟩
abbrev cX1_isSingular : ByteArray := prog_3_method_24_code
def yX1_isSingular : MethodName := ⟨RX1, "isSingular", "()Z"⟩
abbrev cX1_asks : ByteArray := prog_3_method_25_code
def yX1_asks : MethodName := ⟨RX1, "asks", "(IZ)Z"⟩
abbrev cX1_lowNumerator : ByteArray := prog_3_method_26_code
def yX1_lowNumerator : MethodName := ⟨RX1, "lowNumerator", "(I)J"⟩
abbrev cX1_lowDenominator : ByteArray := prog_3_method_27_code
def yX1_lowDenominator : MethodName := ⟨RX1, "lowDenominator", "(I)J"⟩
abbrev cX1_highNumerator : ByteArray := prog_3_method_28_code
def yX1_highNumerator : MethodName := ⟨RX1, "highNumerator", "(I)J"⟩
abbrev cX1_highDenominator : ByteArray := prog_3_method_29_code
def yX1_highDenominator : MethodName := ⟨RX1, "highDenominator", "(I)J"⟩
abbrev cX1_asksInverse : ByteArray := prog_3_method_30_code
def yX1_asksInverse : MethodName := ⟨RX1, "asksInverse", "(II)Z"⟩
abbrev cX1_inverseNumerator : ByteArray := prog_3_method_31_code
def yX1_inverseNumerator : MethodName := ⟨RX1, "inverseNumerator", "(II)J"⟩
abbrev cX1_inverseDenominator : ByteArray := prog_3_method_32_code
def yX1_inverseDenominator : MethodName := ⟨RX1, "inverseDenominator", "(II)J"⟩
abbrev cX1_isSolution : ByteArray := prog_3_method_33_code
def yX1_isSolution : MethodName := ⟨RX1, "isSolution", "(IIIII)Z"⟩
abbrev cX1_condition : ByteArray := prog_3_method_34_code
def yX1_condition : MethodName := ⟨RX1, "condition", "()D"⟩
abbrev cX1_findVariation : ByteArray := prog_3_method_35_code
def yX1_findVariation : MethodName := ⟨RX1, "findVariation", "()V"⟩
abbrev cX1_variationNumerator : ByteArray := prog_3_method_36_code
def yX1_variationNumerator : MethodName := ⟨RX1, "variationNumerator", "()J"⟩
abbrev cX1_variationDenominator : ByteArray := prog_3_method_37_code
def yX1_variationDenominator : MethodName := ⟨RX1, "variationDenominator", "()J"⟩
abbrev cX1_isSafe : ByteArray := prog_3_method_38_code
def yX1_isSafe : MethodName := ⟨RX1, "isSafe", "()Z"⟩
abbrev cX1_isDominant : ByteArray := prog_3_method_39_code
def yX1_isDominant : MethodName := ⟨RX1, "isDominant", "()Z"⟩
abbrev cX1_setBox : ByteArray := prog_3_method_40_code
def yX1_setBox : MethodName := ⟨RX1, "setBox", "(III)Z"⟩
abbrev cX1_boxLow : ByteArray := prog_3_method_41_code
def yX1_boxLow : MethodName := ⟨RX1, "boxLow", "(I)I"⟩
abbrev cX1_boxHigh : ByteArray := prog_3_method_42_code
def yX1_boxHigh : MethodName := ⟨RX1, "boxHigh", "(I)I"⟩
abbrev cX1_down : ByteArray := prog_3_method_43_code
def yX1_down : MethodName := ⟨RX1, "down", "(JJ)J"⟩
abbrev cX1_up : ByteArray := prog_3_method_44_code
def yX1_up : MethodName := ⟨RX1, "up", "(JJ)J"⟩
abbrev cX1_keep : ByteArray := prog_3_method_45_code
def yX1_keep : MethodName := ⟨RX1, "keep", "()V"⟩
abbrev cX1_judge : ByteArray := prog_3_method_46_code
def yX1_judge : MethodName := ⟨RX1, "judge", "(Z)I"⟩
abbrev cX1_cut : ByteArray := prog_3_method_47_code
def yX1_cut : MethodName := ⟨RX1, "cut", "(IJJ)Z"⟩
abbrev cX1_cutByRow : ByteArray := prog_3_method_48_code
def yX1_cutByRow : MethodName := ⟨RX1, "cutByRow", "(I)Z"⟩
abbrev cX1_sweepOnce : ByteArray := prog_3_method_49_code
def yX1_sweepOnce : MethodName := ⟨RX1, "sweepOnce", "()I"⟩
abbrev cX1_sweep : ByteArray := prog_3_method_50_code
def yX1_sweep : MethodName := ⟨RX1, "sweep", "()I"⟩
abbrev cX1_contract : ByteArray := prog_3_method_51_code
def yX1_contract : MethodName := ⟨RX1, "contract", "(I)I"⟩
abbrev cX1_sharpen : ByteArray := prog_3_method_52_code
def yX1_sharpen : MethodName := ⟨RX1, "sharpen", "()I"⟩
abbrev cX1_isCertified : ByteArray := prog_3_method_53_code
def yX1_isCertified : MethodName := ⟨RX1, "isCertified", "()Z"⟩
abbrev cX1_middle : ByteArray := prog_3_method_54_code
def yX1_middle : MethodName := ⟨RX1, "middle", "(I)J"⟩
abbrev cX1_residualLow : ByteArray := prog_3_method_55_code
def yX1_residualLow : MethodName := ⟨RX1, "residualLow", "(I)J"⟩
abbrev cX1_residualHigh : ByteArray := prog_3_method_56_code
def yX1_residualHigh : MethodName := ⟨RX1, "residualHigh", "(I)J"⟩
abbrev cX1_digest : ByteArray := prog_3_method_57_code
def yX1_digest : MethodName := ⟨RX1, "digest", "()J"⟩
def RJx00060 : String := "java/lang/ArrayIndexOutOfBoundsException"
def TJx00060 : u_T := fun k => match k with
  | 0 => ("java/lang/Throwable", "backtrace", "Ljava/lang/Object;", false)
  | 1 => ("java/lang/Throwable", "detailMessage", "Ljava/lang/String;", false)
  | 2 => ("java/lang/Throwable", "cause", "Ljava/lang/Throwable;", false)
  | 3 => ("java/lang/Throwable", "stackTrace", "[Ljava/lang/StackTraceElement;", false)
  | 4 => ("java/lang/Throwable", "depth", "I", false)
  | _ => ("java/lang/Throwable", "suppressedExceptions", "Ljava/util/List;", false)
def tyJx00060 : Nat → FieldType := fun k => match k with
  | 0 => .object "java/lang/Object"
  | 1 => .object "java/lang/String"
  | 2 => .object "java/lang/Throwable"
  | 3 => .array (.object "java/lang/StackTraceElement")
  | 4 => .int
  | _ => .object "java/util/List"
abbrev wsJx000600 : List Cond := u_ws RJx00060 TJx00060 6
theorem nmJx00060 : ∀ a, a < 6 → ∀ b, b < 6 → a ≠ b → (TJx00060 a).2.1 ≠ (TJx00060 b).2.1 := by decide +kernel
theorem tyJx00060_ok : ∀ k, k < 6 → parseFieldDescriptor (TJx00060 k).2.2.1 = some (tyJx00060 k) := by decide +kernel
abbrev cJx00060_init_a7421 : ByteArray := prog_5_method_2_code
def yJx00060_init_a7421 : MethodName := ⟨RJx00060, "<init>", "(Ljava/lang/String;)V"⟩
def RJ6 : String := "java/lang/Integer"
def TJ6 : u_T := fun k => match k with
  | _ => ("", "", "", false)
def tyJ6 : Nat → FieldType := fun k => match k with
  | _ => .int
abbrev wsJ60 : List Cond := u_ws RJ6 TJ6 0
theorem nmJ6 : ∀ a, a < 0 → ∀ b, b < 0 → a ≠ b → (TJ6 a).2.1 ≠ (TJ6 b).2.1 := by decide +kernel
theorem tyJ6_ok : ∀ k, k < 0 → parseFieldDescriptor (TJ6 k).2.2.1 = some (tyJ6 k) := by decide +kernel
abbrev cJ6_bitCount_0f7a4 : ByteArray := prog_9_method_49_code
def yJ6_bitCount_0f7a4 : MethodName := ⟨RJ6, "bitCount", "(I)I"⟩
def RJ9 : String := "java/lang/Math"
def TJ9 : u_T := fun k => match k with
  | _ => ("", "", "", false)
def tyJ9 : Nat → FieldType := fun k => match k with
  | _ => .int
abbrev wsJ90 : List Cond := u_ws RJ9 TJ9 0
theorem nmJ9 : ∀ a, a < 0 → ∀ b, b < 0 → a ≠ b → (TJ9 a).2.1 ≠ (TJ9 b).2.1 := by decide +kernel
theorem tyJ9_ok : ∀ k, k < 0 → parseFieldDescriptor (TJ9 k).2.2.1 = some (tyJ9 k) := by decide +kernel
abbrev cJ9_floorDiv_f86c9 : ByteArray := prog_10_method_49_code
def yJ9_floorDiv_f86c9 : MethodName := ⟨RJ9, "floorDiv", "(JJ)J"⟩
abbrev cJ9_abs_0f7a4 : ByteArray := prog_10_method_59_code
def yJ9_abs_0f7a4 : MethodName := ⟨RJ9, "abs", "(I)I"⟩
abbrev cJ9_abs_067f4 : ByteArray := prog_10_method_61_code
def yJ9_abs_067f4 : MethodName := ⟨RJ9, "abs", "(J)J"⟩
abbrev cJ9_max_7cf53 : ByteArray := prog_10_method_65_code
def yJ9_max_7cf53 : MethodName := ⟨RJ9, "max", "(II)I"⟩
abbrev cJ9_max_f86c9 : ByteArray := prog_10_method_66_code
def yJ9_max_f86c9 : MethodName := ⟨RJ9, "max", "(JJ)J"⟩
abbrev cJ9_min_7cf53 : ByteArray := prog_10_method_69_code
def yJ9_min_7cf53 : MethodName := ⟨RJ9, "min", "(II)I"⟩
abbrev cJ9_min_f86c9 : ByteArray := prog_10_method_70_code
def yJ9_min_f86c9 : MethodName := ⟨RJ9, "min", "(JJ)J"⟩
def RJ0 : String := "java/lang/String"
def TJ0 : u_T := fun k => match k with
  | 0 => ("java/lang/String", "value", "[B", true)
  | _ => ("java/lang/String", "coder", "B", true)
def tyJ0 : Nat → FieldType := fun k => match k with
  | 0 => .array .byte
  | _ => .byte
abbrev wsJ00 : List Cond := u_ws RJ0 TJ0 2
theorem nmJ0 : ∀ a, a < 2 → ∀ b, b < 2 → a ≠ b → (TJ0 a).2.1 ≠ (TJ0 b).2.1 := by decide +kernel
theorem tyJ0_ok : ∀ k, k < 2 → parseFieldDescriptor (TJ0 k).2.2.1 = some (tyJ0 k) := by decide +kernel
def RJ10 : String := "java/lang/System"
def TJ10 : u_T := fun k => match k with
  | _ => ("", "", "", false)
def tyJ10 : Nat → FieldType := fun k => match k with
  | _ => .int
abbrev wsJ100 : List Cond := u_ws RJ10 TJ10 0
theorem nmJ10 : ∀ a, a < 0 → ∀ b, b < 0 → a ≠ b → (TJ10 a).2.1 ≠ (TJ10 b).2.1 := by decide +kernel
theorem tyJ10_ok : ∀ k, k < 0 → parseFieldDescriptor (TJ10 k).2.2.1 = some (tyJ10 k) := by decide +kernel
def RL : String := "IntervalSolverLaw"
abbrev cL_setSize : ByteArray := method_3_code
def yL_setSize : MethodName := ⟨RL, "setSize", "(LIntervalSolver;I[J)I"⟩
abbrev cL_setCoefficient : ByteArray := method_4_code
def yL_setCoefficient : MethodName := ⟨RL, "setCoefficient", "(LIntervalSolver;III[J)I"⟩
abbrev cL_coefficient : ByteArray := method_5_code
def yL_coefficient : MethodName := ⟨RL, "coefficient", "(LIntervalSolver;II[J)I"⟩
abbrev cL_setRight : ByteArray := method_6_code
def yL_setRight : MethodName := ⟨RL, "setRight", "(LIntervalSolver;III[J)I"⟩
abbrev cL_rightLow : ByteArray := method_7_code
def yL_rightLow : MethodName := ⟨RL, "rightLow", "(LIntervalSolver;I[J)I"⟩
abbrev cL_rightHigh : ByteArray := method_8_code
def yL_rightHigh : MethodName := ⟨RL, "rightHigh", "(LIntervalSolver;I[J)I"⟩
abbrev cL_setSpread : ByteArray := method_9_code
def yL_setSpread : MethodName := ⟨RL, "setSpread", "(LIntervalSolver;III[J)I"⟩
abbrev cL_swapRows : ByteArray := method_10_code
def yL_swapRows : MethodName := ⟨RL, "swapRows", "(LIntervalSolver;II[J)I"⟩
abbrev cL_addRow : ByteArray := method_11_code
def yL_addRow : MethodName := ⟨RL, "addRow", "(LIntervalSolver;III[J)I"⟩
abbrev cL_lowNumerator : ByteArray := method_12_code
def yL_lowNumerator : MethodName := ⟨RL, "lowNumerator", "(LIntervalSolver;I[J)I"⟩
abbrev cL_lowDenominator : ByteArray := method_13_code
def yL_lowDenominator : MethodName := ⟨RL, "lowDenominator", "(LIntervalSolver;I[J)I"⟩
abbrev cL_highNumerator : ByteArray := method_14_code
def yL_highNumerator : MethodName := ⟨RL, "highNumerator", "(LIntervalSolver;I[J)I"⟩
abbrev cL_highDenominator : ByteArray := method_15_code
def yL_highDenominator : MethodName := ⟨RL, "highDenominator", "(LIntervalSolver;I[J)I"⟩
abbrev cL_inverseNumerator : ByteArray := method_16_code
def yL_inverseNumerator : MethodName := ⟨RL, "inverseNumerator", "(LIntervalSolver;II[J)I"⟩
abbrev cL_inverseDenominator : ByteArray := method_17_code
def yL_inverseDenominator : MethodName := ⟨RL, "inverseDenominator", "(LIntervalSolver;II[J)I"⟩
abbrev cL_condition : ByteArray := method_18_code
def yL_condition : MethodName := ⟨RL, "condition", "(LIntervalSolver;[D)I"⟩
abbrev cL_variationNumerator : ByteArray := method_19_code
def yL_variationNumerator : MethodName := ⟨RL, "variationNumerator", "(LIntervalSolver;[J)I"⟩
abbrev cL_variationDenominator : ByteArray := method_20_code
def yL_variationDenominator : MethodName := ⟨RL, "variationDenominator", "(LIntervalSolver;[J)I"⟩
abbrev cL_setBox : ByteArray := method_21_code
def yL_setBox : MethodName := ⟨RL, "setBox", "(LIntervalSolver;III[J)I"⟩
abbrev cL_boxLow : ByteArray := method_22_code
def yL_boxLow : MethodName := ⟨RL, "boxLow", "(LIntervalSolver;I[J)I"⟩
abbrev cL_boxHigh : ByteArray := method_23_code
def yL_boxHigh : MethodName := ⟨RL, "boxHigh", "(LIntervalSolver;I[J)I"⟩
abbrev cL_contract : ByteArray := method_24_code
def yL_contract : MethodName := ⟨RL, "contract", "(LIntervalSolver;I[J)I"⟩
abbrev cL_sharpen : ByteArray := method_25_code
def yL_sharpen : MethodName := ⟨RL, "sharpen", "(LIntervalSolver;[J)I"⟩
abbrev cL_isCertified : ByteArray := method_26_code
def yL_isCertified : MethodName := ⟨RL, "isCertified", "(LIntervalSolver;[J)I"⟩
abbrev cL_residualLow : ByteArray := method_27_code
def yL_residualLow : MethodName := ⟨RL, "residualLow", "(LIntervalSolver;I[J)I"⟩
abbrev cL_residualHigh : ByteArray := method_28_code
def yL_residualHigh : MethodName := ⟨RL, "residualHigh", "(LIntervalSolver;I[J)I"⟩
abbrev cL_law : ByteArray := code
def yL_law : MethodName := ⟨RL, "law", "([I)Z"⟩
def wsX0_startSystem : List Cond := .code yX0_startSystem cX0_startSystem 4 none :: ([.fieldLink RX0 59 "IntervalSolver" "n" "I", .fieldLink RX0 11 "IntervalSolver" "coefficients" "[[I", .fieldLink RX0 14 "IntervalSolver" "spreads" "[[I", .fieldLink RX0 17 "IntervalSolver" "rightLows" "[I", .fieldLink RX0 21 "IntervalSolver" "rightHighs" "[I", .fieldLink RX0 24 "IntervalSolver" "boxLows" "[I", .constant RX0 200 (-1000000000), .fieldLink RX0 27 "IntervalSolver" "boxHighs" "[I", .constant RX0 160 (1000000000)] ++ wsX00 ++ (vx_atM "java/lang/ArrayIndexOutOfBoundsException" ["java/lang/IndexOutOfBoundsException", "java/lang/RuntimeException", "java/lang/Exception"]).filter goodWord)
def wsX0_init_r1 : List Cond := [Cond.methodLink RX0 3 objectInit, Cond.instanceMethod objectInit, Cond.code objectInit ⟨#[0xb1]⟩ 1 none, Cond.classLink RX0 9 "[[I", Cond.arrayClass .int, Cond.fieldLink RX0 11 "IntervalSolver" "coefficients" "[[I", Cond.fieldLink RX0 14 "IntervalSolver" "spreads" "[[I", Cond.fieldLink RX0 17 "IntervalSolver" "rightLows" "[I", Cond.fieldLink RX0 21 "IntervalSolver" "rightHighs" "[I", Cond.fieldLink RX0 24 "IntervalSolver" "boxLows" "[I", Cond.fieldLink RX0 27 "IntervalSolver" "boxHighs" "[I", Cond.fieldLink RX0 30 "IntervalSolver" "keptLows" "[I", Cond.fieldLink RX0 33 "IntervalSolver" "keptHighs" "[I", Cond.arrayClass .long, Cond.fieldLink RX0 36 "IntervalSolver" "minors" "[J", Cond.fieldLink RX0 40 "IntervalSolver" "vector" "[J", Cond.classLink RX0 43 "[[J", Cond.fieldLink RX0 45 "IntervalSolver" "scaledInverse" "[[J", Cond.methodLink RX0 48 yX0_startSystem, Cond.instanceMethod yX0_startSystem, Cond.selects RX0 yX0_startSystem yX0_startSystem, Cond.initialized RX0, Cond.code yX0_startSystem cX0_startSystem 4 none, Cond.fieldLink RX0 59 "IntervalSolver" "n" "I"]
def wsX0_init_r2 : List Cond := [Cond.constant RX0 200 (-1000000000), Cond.constant RX0 160 (1000000000)]
def wsX0_init : List Cond := .code yX0_init cX0_init 1 none :: ((wsX0_init_r1 ++ wsX0_init_r2) ++ wsX00 ++ (vx_atM "java/lang/ArrayIndexOutOfBoundsException" ["java/lang/IndexOutOfBoundsException", "java/lang/RuntimeException", "java/lang/Exception"]).filter goodWord)
def wsX0_setSize : List Cond := .code yX0_setSize cX0_setSize 2 (some .int) :: ([.classLink RX0 52 "java/lang/IllegalArgumentException", .initialized "java/lang/IllegalArgumentException", .methodLink RX0 48 yX0_startSystem, .instanceMethod yX0_startSystem, .selects RX0 yX0_startSystem yX0_startSystem, .initialized RX0, .code yX0_startSystem cX0_startSystem 4 none, .fieldLink RX0 59 "IntervalSolver" "n" "I", .fieldLink RX0 11 "IntervalSolver" "coefficients" "[[I", .fieldLink RX0 14 "IntervalSolver" "spreads" "[[I", .fieldLink RX0 17 "IntervalSolver" "rightLows" "[I", .fieldLink RX0 21 "IntervalSolver" "rightHighs" "[I", .fieldLink RX0 24 "IntervalSolver" "boxLows" "[I", .constant RX0 200 (-1000000000), .fieldLink RX0 27 "IntervalSolver" "boxHighs" "[I", .constant RX0 160 (1000000000)] ++ wsX00 ++ (vx_atS RX0 56 "java/lang/IllegalArgumentException" ["java/lang/RuntimeException", "java/lang/Exception"]).filter goodWord ++ (vx_atM "java/lang/ArrayIndexOutOfBoundsException" ["java/lang/IndexOutOfBoundsException", "java/lang/RuntimeException", "java/lang/Exception"]).filter goodWord)
def wsX0_size : List Cond := .code yX0_size cX0_size 1 (some .int) :: ([.fieldLink RX0 59 "IntervalSolver" "n" "I"] ++ wsX00)
def wsX0_isIndex : List Cond := .code yX0_isIndex cX0_isIndex 2 (some .boolean) :: ([.fieldLink RX0 59 "IntervalSolver" "n" "I"] ++ wsX00)
def wsX0_isWithin : List Cond := .code yX0_isWithin cX0_isWithin 2 (some .boolean) :: ([])
def wsX0_setCoefficient : List Cond := .code yX0_setCoefficient cX0_setCoefficient 5 (some .int) :: ([.classLink RX0 67 "java/lang/IndexOutOfBoundsException", .initialized "java/lang/IndexOutOfBoundsException", .classLink RX0 52 "java/lang/IllegalArgumentException", .initialized "java/lang/IllegalArgumentException", .fieldLink RX0 11 "IntervalSolver" "coefficients" "[[I", .methodLink RX0 63 yX0_isIndex, .instanceMethod yX0_isIndex, .selects RX0 yX0_isIndex yX0_isIndex, .initialized RX0, .code yX0_isIndex cX0_isIndex 2 (some .boolean), .fieldLink RX0 59 "IntervalSolver" "n" "I", .methodLink RX0 72 yX0_isWithin, .static yX0_isWithin, .code yX0_isWithin cX0_isWithin 2 (some .boolean)] ++ wsX00 ++ (vx_atS RX0 71 "java/lang/IndexOutOfBoundsException" ["java/lang/RuntimeException", "java/lang/Exception"]).filter goodWord ++ (vx_atS RX0 56 "java/lang/IllegalArgumentException" ["java/lang/RuntimeException", "java/lang/Exception"]).filter goodWord ++ (vx_atM "java/lang/ArrayIndexOutOfBoundsException" ["java/lang/IndexOutOfBoundsException", "java/lang/RuntimeException", "java/lang/Exception"]).filter goodWord)
def wsX0_coefficient : List Cond := .code yX0_coefficient cX0_coefficient 3 (some .int) :: ([.classLink RX0 67 "java/lang/IndexOutOfBoundsException", .initialized "java/lang/IndexOutOfBoundsException", .fieldLink RX0 11 "IntervalSolver" "coefficients" "[[I", .methodLink RX0 63 yX0_isIndex, .instanceMethod yX0_isIndex, .selects RX0 yX0_isIndex yX0_isIndex, .initialized RX0, .code yX0_isIndex cX0_isIndex 2 (some .boolean), .fieldLink RX0 59 "IntervalSolver" "n" "I"] ++ wsX00 ++ (vx_atS RX0 71 "java/lang/IndexOutOfBoundsException" ["java/lang/RuntimeException", "java/lang/Exception"]).filter goodWord ++ (vx_atM "java/lang/ArrayIndexOutOfBoundsException" ["java/lang/IndexOutOfBoundsException", "java/lang/RuntimeException", "java/lang/Exception"]).filter goodWord)
def wsX0_isInterval : List Cond := .code yX0_isInterval cX0_isInterval 3 (some .boolean) :: ([.methodLink RX0 72 yX0_isWithin, .static yX0_isWithin, .initialized RX0, .code yX0_isWithin cX0_isWithin 2 (some .boolean)])
def wsX0_setRight : List Cond := .code yX0_setRight cX0_setRight 5 (some .boolean) :: ([.classLink RX0 67 "java/lang/IndexOutOfBoundsException", .initialized "java/lang/IndexOutOfBoundsException", .classLink RX0 52 "java/lang/IllegalArgumentException", .initialized "java/lang/IllegalArgumentException", .fieldLink RX0 17 "IntervalSolver" "rightLows" "[I", .fieldLink RX0 21 "IntervalSolver" "rightHighs" "[I", .methodLink RX0 63 yX0_isIndex, .instanceMethod yX0_isIndex, .selects RX0 yX0_isIndex yX0_isIndex, .initialized RX0, .code yX0_isIndex cX0_isIndex 2 (some .boolean), .fieldLink RX0 59 "IntervalSolver" "n" "I", .methodLink RX0 80 yX0_isInterval, .static yX0_isInterval, .code yX0_isInterval cX0_isInterval 3 (some .boolean), .methodLink RX0 72 yX0_isWithin, .static yX0_isWithin, .code yX0_isWithin cX0_isWithin 2 (some .boolean)] ++ wsX00 ++ (vx_atS RX0 71 "java/lang/IndexOutOfBoundsException" ["java/lang/RuntimeException", "java/lang/Exception"]).filter goodWord ++ (vx_atS RX0 56 "java/lang/IllegalArgumentException" ["java/lang/RuntimeException", "java/lang/Exception"]).filter goodWord ++ (vx_atM "java/lang/ArrayIndexOutOfBoundsException" ["java/lang/IndexOutOfBoundsException", "java/lang/RuntimeException", "java/lang/Exception"]).filter goodWord)
def wsX0_rightLow : List Cond := .code yX0_rightLow cX0_rightLow 2 (some .int) :: ([.classLink RX0 67 "java/lang/IndexOutOfBoundsException", .initialized "java/lang/IndexOutOfBoundsException", .fieldLink RX0 17 "IntervalSolver" "rightLows" "[I", .methodLink RX0 63 yX0_isIndex, .instanceMethod yX0_isIndex, .selects RX0 yX0_isIndex yX0_isIndex, .initialized RX0, .code yX0_isIndex cX0_isIndex 2 (some .boolean), .fieldLink RX0 59 "IntervalSolver" "n" "I"] ++ wsX00 ++ (vx_atS RX0 71 "java/lang/IndexOutOfBoundsException" ["java/lang/RuntimeException", "java/lang/Exception"]).filter goodWord ++ (vx_atM "java/lang/ArrayIndexOutOfBoundsException" ["java/lang/IndexOutOfBoundsException", "java/lang/RuntimeException", "java/lang/Exception"]).filter goodWord)
def wsX0_rightHigh : List Cond := .code yX0_rightHigh cX0_rightHigh 2 (some .int) :: ([.classLink RX0 67 "java/lang/IndexOutOfBoundsException", .initialized "java/lang/IndexOutOfBoundsException", .fieldLink RX0 21 "IntervalSolver" "rightHighs" "[I", .methodLink RX0 63 yX0_isIndex, .instanceMethod yX0_isIndex, .selects RX0 yX0_isIndex yX0_isIndex, .initialized RX0, .code yX0_isIndex cX0_isIndex 2 (some .boolean), .fieldLink RX0 59 "IntervalSolver" "n" "I"] ++ wsX00 ++ (vx_atS RX0 71 "java/lang/IndexOutOfBoundsException" ["java/lang/RuntimeException", "java/lang/Exception"]).filter goodWord ++ (vx_atM "java/lang/ArrayIndexOutOfBoundsException" ["java/lang/IndexOutOfBoundsException", "java/lang/RuntimeException", "java/lang/Exception"]).filter goodWord)
def wsX0_setSpread : List Cond := .code yX0_setSpread cX0_setSpread 5 (some .int) :: ([.classLink RX0 67 "java/lang/IndexOutOfBoundsException", .initialized "java/lang/IndexOutOfBoundsException", .classLink RX0 52 "java/lang/IllegalArgumentException", .initialized "java/lang/IllegalArgumentException", .fieldLink RX0 14 "IntervalSolver" "spreads" "[[I", .methodLink RX0 63 yX0_isIndex, .instanceMethod yX0_isIndex, .selects RX0 yX0_isIndex yX0_isIndex, .initialized RX0, .code yX0_isIndex cX0_isIndex 2 (some .boolean), .fieldLink RX0 59 "IntervalSolver" "n" "I"] ++ wsX00 ++ (vx_atS RX0 71 "java/lang/IndexOutOfBoundsException" ["java/lang/RuntimeException", "java/lang/Exception"]).filter goodWord ++ (vx_atS RX0 56 "java/lang/IllegalArgumentException" ["java/lang/RuntimeException", "java/lang/Exception"]).filter goodWord ++ (vx_atM "java/lang/ArrayIndexOutOfBoundsException" ["java/lang/IndexOutOfBoundsException", "java/lang/RuntimeException", "java/lang/Exception"]).filter goodWord)
def wsX0_exchange : List Cond := .code yX0_exchange cX0_exchange 4 none :: ([] ++ (vx_atM "java/lang/ArrayIndexOutOfBoundsException" ["java/lang/IndexOutOfBoundsException", "java/lang/RuntimeException", "java/lang/Exception"]).filter goodWord)
def wsX0_swapRows : List Cond := .code yX0_swapRows cX0_swapRows 6 (some .boolean) :: ([.classLink RX0 67 "java/lang/IndexOutOfBoundsException", .initialized "java/lang/IndexOutOfBoundsException", .fieldLink RX0 59 "IntervalSolver" "n" "I", .fieldLink RX0 11 "IntervalSolver" "coefficients" "[[I", .fieldLink RX0 14 "IntervalSolver" "spreads" "[[I", .fieldLink RX0 17 "IntervalSolver" "rightLows" "[I", .fieldLink RX0 21 "IntervalSolver" "rightHighs" "[I", .methodLink RX0 63 yX0_isIndex, .instanceMethod yX0_isIndex, .selects RX0 yX0_isIndex yX0_isIndex, .initialized RX0, .code yX0_isIndex cX0_isIndex 2 (some .boolean), .methodLink RX0 88 yX0_exchange, .static yX0_exchange, .code yX0_exchange cX0_exchange 4 none] ++ wsX00 ++ (vx_atS RX0 71 "java/lang/IndexOutOfBoundsException" ["java/lang/RuntimeException", "java/lang/Exception"]).filter goodWord ++ (vx_atM "java/lang/ArrayIndexOutOfBoundsException" ["java/lang/IndexOutOfBoundsException", "java/lang/RuntimeException", "java/lang/Exception"]).filter goodWord)
def wsX0_productLow : List Cond := .code yX0_productLow cX0_productLow 3 (some .int) :: ([])
def wsX0_productHigh : List Cond := .code yX0_productHigh cX0_productHigh 3 (some .int) :: ([])
def wsX0_coefficientsFit : List Cond := .code yX0_coefficientsFit cX0_coefficientsFit 5 (some .boolean) :: ([.fieldLink RX0 59 "IntervalSolver" "n" "I", .fieldLink RX0 11 "IntervalSolver" "coefficients" "[[I", .methodLink RX0 72 yX0_isWithin, .static yX0_isWithin, .initialized RX0, .code yX0_isWithin cX0_isWithin 2 (some .boolean)] ++ wsX00 ++ (vx_atM "java/lang/ArrayIndexOutOfBoundsException" ["java/lang/IndexOutOfBoundsException", "java/lang/RuntimeException", "java/lang/Exception"]).filter goodWord)
def wsX0_addCoefficients : List Cond := .code yX0_addCoefficients cX0_addCoefficients 7 (some .int) :: ([.fieldLink RX0 59 "IntervalSolver" "n" "I", .fieldLink RX0 11 "IntervalSolver" "coefficients" "[[I"] ++ wsX00 ++ (vx_atM "java/lang/ArrayIndexOutOfBoundsException" ["java/lang/IndexOutOfBoundsException", "java/lang/RuntimeException", "java/lang/Exception"]).filter goodWord)
def wsX0_addRow_r1 : List Cond := [Cond.classLink RX0 67 "java/lang/IndexOutOfBoundsException", Cond.initialized "java/lang/IndexOutOfBoundsException", Cond.classLink RX0 52 "java/lang/IllegalArgumentException", Cond.initialized "java/lang/IllegalArgumentException", Cond.classLink RX0 104 "java/lang/ArithmeticException", Cond.initialized "java/lang/ArithmeticException", Cond.fieldLink RX0 17 "IntervalSolver" "rightLows" "[I", Cond.fieldLink RX0 21 "IntervalSolver" "rightHighs" "[I", Cond.methodLink RX0 63 yX0_isIndex, Cond.instanceMethod yX0_isIndex, Cond.selects RX0 yX0_isIndex yX0_isIndex, Cond.initialized RX0, Cond.code yX0_isIndex cX0_isIndex 2 (some .boolean), Cond.fieldLink RX0 59 "IntervalSolver" "n" "I", Cond.methodLink RX0 72 yX0_isWithin, Cond.static yX0_isWithin, Cond.code yX0_isWithin cX0_isWithin 2 (some .boolean), Cond.methodLink RX0 94 yX0_productLow, Cond.static yX0_productLow, Cond.code yX0_productLow cX0_productLow 3 (some .int), Cond.methodLink RX0 98 yX0_productHigh, Cond.static yX0_productHigh, Cond.code yX0_productHigh cX0_productHigh 3 (some .int), Cond.methodLink RX0 80 yX0_isInterval]
def wsX0_addRow_r2 : List Cond := [Cond.static yX0_isInterval, Cond.code yX0_isInterval cX0_isInterval 3 (some .boolean), Cond.methodLink RX0 101 yX0_coefficientsFit, Cond.instanceMethod yX0_coefficientsFit, Cond.selects RX0 yX0_coefficientsFit yX0_coefficientsFit, Cond.code yX0_coefficientsFit cX0_coefficientsFit 5 (some .boolean), Cond.fieldLink RX0 11 "IntervalSolver" "coefficients" "[[I", Cond.methodLink RX0 109 yX0_addCoefficients, Cond.instanceMethod yX0_addCoefficients, Cond.selects RX0 yX0_addCoefficients yX0_addCoefficients, Cond.code yX0_addCoefficients cX0_addCoefficients 7 (some .int)]
def wsX0_addRow : List Cond := .code yX0_addRow cX0_addRow 6 (some .int) :: ((wsX0_addRow_r1 ++ wsX0_addRow_r2) ++ wsX00 ++ (vx_atS RX0 71 "java/lang/IndexOutOfBoundsException" ["java/lang/RuntimeException", "java/lang/Exception"]).filter goodWord ++ (vx_atS RX0 56 "java/lang/IllegalArgumentException" ["java/lang/RuntimeException", "java/lang/Exception"]).filter goodWord ++ (vx_atM "java/lang/ArrayIndexOutOfBoundsException" ["java/lang/IndexOutOfBoundsException", "java/lang/RuntimeException", "java/lang/Exception"]).filter goodWord ++ (vx_atS RX0 108 "java/lang/ArithmeticException" ["java/lang/RuntimeException", "java/lang/Exception"]).filter goodWord)
def wsX0_allColumns : List Cond := .code yX0_allColumns cX0_allColumns 1 (some .int) :: ([.fieldLink RX0 59 "IntervalSolver" "n" "I"] ++ wsX00)
def wsJ6_bitCount_0f7a4 : List Cond := .code yJ6_bitCount_0f7a4 cJ6_bitCount_0f7a4 1 (some .int) :: ([.constant RJ6 265 (1431655765), .constant RJ6 266 (858993459), .constant RJ6 267 (252645135)])
def wsX0_expanded : List Cond := .code yX0_expanded cX0_expanded 9 (some .long) :: ([.fieldLink RX0 59 "IntervalSolver" "n" "I", .fieldLink RX0 11 "IntervalSolver" "coefficients" "[[I", .fieldLink RX0 36 "IntervalSolver" "minors" "[J"] ++ wsX00 ++ (vx_atM "java/lang/ArrayIndexOutOfBoundsException" ["java/lang/IndexOutOfBoundsException", "java/lang/RuntimeException", "java/lang/Exception"]).filter goodWord)
def wsX0_findMinors : List Cond := .code yX0_findMinors cX0_findMinors 4 none :: ([.fieldLink RX0 36 "IntervalSolver" "minors" "[J", .fieldLink RX0 59 "IntervalSolver" "n" "I", .methodLink RX0 115 yX0_allColumns, .instanceMethod yX0_allColumns, .selects RX0 yX0_allColumns yX0_allColumns, .initialized RX0, .code yX0_allColumns cX0_allColumns 1 (some .int), .methodLink RX0 201 yJ6_bitCount_0f7a4, .static yJ6_bitCount_0f7a4, .initialized RJ6, .code yJ6_bitCount_0f7a4 cJ6_bitCount_0f7a4 1 (some .int), .constant RJ6 265 (1431655765), .constant RJ6 266 (858993459), .constant RJ6 267 (252645135), .methodLink RX0 206 yX0_expanded, .instanceMethod yX0_expanded, .selects RX0 yX0_expanded yX0_expanded, .code yX0_expanded cX0_expanded 9 (some .long), .fieldLink RX0 11 "IntervalSolver" "coefficients" "[[I"] ++ wsX00 ++ (vx_atM "java/lang/ArrayIndexOutOfBoundsException" ["java/lang/IndexOutOfBoundsException", "java/lang/RuntimeException", "java/lang/Exception"]).filter goodWord)
def wsX0_determinant : List Cond := .code yX0_determinant cX0_determinant 1 (some .long) :: ([.fieldLink RX0 59 "IntervalSolver" "n" "I", .fieldLink RX0 36 "IntervalSolver" "minors" "[J", .methodLink RX0 112 yX0_findMinors, .instanceMethod yX0_findMinors, .selects RX0 yX0_findMinors yX0_findMinors, .initialized RX0, .code yX0_findMinors cX0_findMinors 4 none, .methodLink RX0 115 yX0_allColumns, .instanceMethod yX0_allColumns, .selects RX0 yX0_allColumns yX0_allColumns, .code yX0_allColumns cX0_allColumns 1 (some .int), .methodLink RX0 201 yJ6_bitCount_0f7a4, .static yJ6_bitCount_0f7a4, .initialized RJ6, .code yJ6_bitCount_0f7a4 cJ6_bitCount_0f7a4 1 (some .int), .constant RJ6 265 (1431655765), .constant RJ6 266 (858993459), .constant RJ6 267 (252645135), .methodLink RX0 206 yX0_expanded, .instanceMethod yX0_expanded, .selects RX0 yX0_expanded yX0_expanded, .code yX0_expanded cX0_expanded 9 (some .long), .fieldLink RX0 11 "IntervalSolver" "coefficients" "[[I"] ++ wsX00 ++ (vx_atM "java/lang/ArrayIndexOutOfBoundsException" ["java/lang/IndexOutOfBoundsException", "java/lang/RuntimeException", "java/lang/Exception"]).filter goodWord)
def wsX0_invert_r1 : List Cond := [Cond.methodLink RX0 148 Lib.MathLoose.abs_long.x, Cond.static Lib.MathLoose.abs_long.x, Cond.initialized "java/lang/Math", Cond.code Lib.MathLoose.abs_long.x Lib.MathLoose.abs_long.code 2 (some .long), Cond.fieldLink RX0 131 "IntervalSolver" "scale" "J", Cond.fieldLink RX0 59 "IntervalSolver" "n" "I", Cond.constantLong RX0 210 (-1), Cond.fieldLink RX0 45 "IntervalSolver" "scaledInverse" "[[J", Cond.fieldLink RX0 36 "IntervalSolver" "minors" "[J", Cond.methodLink RX0 197 yX0_determinant, Cond.instanceMethod yX0_determinant, Cond.selects RX0 yX0_determinant yX0_determinant, Cond.initialized RX0, Cond.code yX0_determinant cX0_determinant 1 (some .long), Cond.methodLink RX0 112 yX0_findMinors, Cond.instanceMethod yX0_findMinors, Cond.selects RX0 yX0_findMinors yX0_findMinors, Cond.code yX0_findMinors cX0_findMinors 4 none, Cond.methodLink RX0 115 yX0_allColumns, Cond.instanceMethod yX0_allColumns, Cond.selects RX0 yX0_allColumns yX0_allColumns, Cond.code yX0_allColumns cX0_allColumns 1 (some .int), Cond.methodLink RX0 201 yJ6_bitCount_0f7a4, Cond.static yJ6_bitCount_0f7a4]
def wsX0_invert_r2 : List Cond := [Cond.initialized RJ6, Cond.code yJ6_bitCount_0f7a4 cJ6_bitCount_0f7a4 1 (some .int), Cond.constant RJ6 265 (1431655765), Cond.constant RJ6 266 (858993459), Cond.constant RJ6 267 (252645135), Cond.methodLink RX0 206 yX0_expanded, Cond.instanceMethod yX0_expanded, Cond.selects RX0 yX0_expanded yX0_expanded, Cond.code yX0_expanded cX0_expanded 9 (some .long), Cond.fieldLink RX0 11 "IntervalSolver" "coefficients" "[[I"]
def wsX0_invert : List Cond := .code yX0_invert cX0_invert 7 (some .boolean) :: ((wsX0_invert_r1 ++ wsX0_invert_r2) ++ wsX00 ++ (vx_atM "java/lang/ArrayIndexOutOfBoundsException" ["java/lang/IndexOutOfBoundsException", "java/lang/RuntimeException", "java/lang/Exception"]).filter goodWord)
def wsX0_scaledHullLow : List Cond := .code yX0_scaledHullLow cX0_scaledHullLow 7 (some .long) :: ([.fieldLink RX0 59 "IntervalSolver" "n" "I", .fieldLink RX0 45 "IntervalSolver" "scaledInverse" "[[J", .fieldLink RX0 21 "IntervalSolver" "rightHighs" "[I", .fieldLink RX0 17 "IntervalSolver" "rightLows" "[I"] ++ wsX00 ++ (vx_atM "java/lang/ArrayIndexOutOfBoundsException" ["java/lang/IndexOutOfBoundsException", "java/lang/RuntimeException", "java/lang/Exception"]).filter goodWord)
def wsX0_greatestCommonDivisor : List Cond := .code yX0_greatestCommonDivisor cX0_greatestCommonDivisor 11 (some .long) :: ([.methodLink RX0 148 Lib.MathLoose.abs_long.x, .static Lib.MathLoose.abs_long.x, .initialized "java/lang/Math", .code Lib.MathLoose.abs_long.x Lib.MathLoose.abs_long.code 2 (some .long)] ++ (vx_atM "java/lang/ArithmeticException" ["java/lang/RuntimeException", "java/lang/Exception"]).filter goodWord)
def wsX0_reduced : List Cond := .code yX0_reduced cX0_reduced 6 (some .long) :: ([.methodLink RX0 212 yX0_greatestCommonDivisor, .static yX0_greatestCommonDivisor, .initialized RX0, .code yX0_greatestCommonDivisor cX0_greatestCommonDivisor 11 (some .long), .methodLink RX0 148 Lib.MathLoose.abs_long.x, .static Lib.MathLoose.abs_long.x, .initialized "java/lang/Math", .code Lib.MathLoose.abs_long.x Lib.MathLoose.abs_long.code 2 (some .long)] ++ (vx_atM "java/lang/ArithmeticException" ["java/lang/RuntimeException", "java/lang/Exception"]).filter goodWord)
def wsX0_lowNumerator_r1 : List Cond := [Cond.classLink RX0 67 "java/lang/IndexOutOfBoundsException", Cond.initialized "java/lang/IndexOutOfBoundsException", Cond.classLink RX0 104 "java/lang/ArithmeticException", Cond.initialized "java/lang/ArithmeticException", Cond.fieldLink RX0 131 "IntervalSolver" "scale" "J", Cond.methodLink RX0 63 yX0_isIndex, Cond.instanceMethod yX0_isIndex, Cond.selects RX0 yX0_isIndex yX0_isIndex, Cond.initialized RX0, Cond.code yX0_isIndex cX0_isIndex 2 (some .boolean), Cond.fieldLink RX0 59 "IntervalSolver" "n" "I", Cond.methodLink RX0 121 yX0_invert, Cond.instanceMethod yX0_invert, Cond.selects RX0 yX0_invert yX0_invert, Cond.code yX0_invert cX0_invert 7 (some .boolean), Cond.methodLink RX0 148 Lib.MathLoose.abs_long.x, Cond.static Lib.MathLoose.abs_long.x, Cond.initialized "java/lang/Math", Cond.code Lib.MathLoose.abs_long.x Lib.MathLoose.abs_long.code 2 (some .long), Cond.constantLong RX0 210 (-1), Cond.fieldLink RX0 45 "IntervalSolver" "scaledInverse" "[[J", Cond.fieldLink RX0 36 "IntervalSolver" "minors" "[J", Cond.methodLink RX0 197 yX0_determinant, Cond.instanceMethod yX0_determinant]
def wsX0_lowNumerator_r2 : List Cond := [Cond.selects RX0 yX0_determinant yX0_determinant, Cond.code yX0_determinant cX0_determinant 1 (some .long), Cond.methodLink RX0 112 yX0_findMinors, Cond.instanceMethod yX0_findMinors, Cond.selects RX0 yX0_findMinors yX0_findMinors, Cond.code yX0_findMinors cX0_findMinors 4 none, Cond.methodLink RX0 115 yX0_allColumns, Cond.instanceMethod yX0_allColumns, Cond.selects RX0 yX0_allColumns yX0_allColumns, Cond.code yX0_allColumns cX0_allColumns 1 (some .int), Cond.methodLink RX0 201 yJ6_bitCount_0f7a4, Cond.static yJ6_bitCount_0f7a4, Cond.initialized RJ6, Cond.code yJ6_bitCount_0f7a4 cJ6_bitCount_0f7a4 1 (some .int), Cond.constant RJ6 265 (1431655765), Cond.constant RJ6 266 (858993459), Cond.constant RJ6 267 (252645135), Cond.methodLink RX0 206 yX0_expanded, Cond.instanceMethod yX0_expanded, Cond.selects RX0 yX0_expanded yX0_expanded, Cond.code yX0_expanded cX0_expanded 9 (some .long), Cond.fieldLink RX0 11 "IntervalSolver" "coefficients" "[[I", Cond.methodLink RX0 127 yX0_scaledHullLow, Cond.instanceMethod yX0_scaledHullLow]
def wsX0_lowNumerator_r3 : List Cond := [Cond.selects RX0 yX0_scaledHullLow yX0_scaledHullLow, Cond.code yX0_scaledHullLow cX0_scaledHullLow 7 (some .long), Cond.fieldLink RX0 21 "IntervalSolver" "rightHighs" "[I", Cond.fieldLink RX0 17 "IntervalSolver" "rightLows" "[I", Cond.methodLink RX0 135 yX0_reduced, Cond.static yX0_reduced, Cond.code yX0_reduced cX0_reduced 6 (some .long), Cond.methodLink RX0 212 yX0_greatestCommonDivisor, Cond.static yX0_greatestCommonDivisor, Cond.code yX0_greatestCommonDivisor cX0_greatestCommonDivisor 11 (some .long)]
def wsX0_lowNumerator : List Cond := .code yX0_lowNumerator cX0_lowNumerator 2 (some .long) :: ((wsX0_lowNumerator_r1 ++ (wsX0_lowNumerator_r2 ++ wsX0_lowNumerator_r3)) ++ wsX00 ++ (vx_atS RX0 71 "java/lang/IndexOutOfBoundsException" ["java/lang/RuntimeException", "java/lang/Exception"]).filter goodWord ++ (vx_atS RX0 108 "java/lang/ArithmeticException" ["java/lang/RuntimeException", "java/lang/Exception"]).filter goodWord ++ (vx_atM "java/lang/ArrayIndexOutOfBoundsException" ["java/lang/IndexOutOfBoundsException", "java/lang/RuntimeException", "java/lang/Exception"]).filter goodWord ++ (vx_atM "java/lang/ArithmeticException" ["java/lang/RuntimeException", "java/lang/Exception"]).filter goodWord)
def wsX0_lowDenominator_r1 : List Cond := [Cond.classLink RX0 67 "java/lang/IndexOutOfBoundsException", Cond.initialized "java/lang/IndexOutOfBoundsException", Cond.classLink RX0 104 "java/lang/ArithmeticException", Cond.initialized "java/lang/ArithmeticException", Cond.fieldLink RX0 131 "IntervalSolver" "scale" "J", Cond.methodLink RX0 63 yX0_isIndex, Cond.instanceMethod yX0_isIndex, Cond.selects RX0 yX0_isIndex yX0_isIndex, Cond.initialized RX0, Cond.code yX0_isIndex cX0_isIndex 2 (some .boolean), Cond.fieldLink RX0 59 "IntervalSolver" "n" "I", Cond.methodLink RX0 121 yX0_invert, Cond.instanceMethod yX0_invert, Cond.selects RX0 yX0_invert yX0_invert, Cond.code yX0_invert cX0_invert 7 (some .boolean), Cond.methodLink RX0 148 Lib.MathLoose.abs_long.x, Cond.static Lib.MathLoose.abs_long.x, Cond.initialized "java/lang/Math", Cond.code Lib.MathLoose.abs_long.x Lib.MathLoose.abs_long.code 2 (some .long), Cond.constantLong RX0 210 (-1), Cond.fieldLink RX0 45 "IntervalSolver" "scaledInverse" "[[J", Cond.fieldLink RX0 36 "IntervalSolver" "minors" "[J", Cond.methodLink RX0 197 yX0_determinant, Cond.instanceMethod yX0_determinant]
def wsX0_lowDenominator_r2 : List Cond := [Cond.selects RX0 yX0_determinant yX0_determinant, Cond.code yX0_determinant cX0_determinant 1 (some .long), Cond.methodLink RX0 112 yX0_findMinors, Cond.instanceMethod yX0_findMinors, Cond.selects RX0 yX0_findMinors yX0_findMinors, Cond.code yX0_findMinors cX0_findMinors 4 none, Cond.methodLink RX0 115 yX0_allColumns, Cond.instanceMethod yX0_allColumns, Cond.selects RX0 yX0_allColumns yX0_allColumns, Cond.code yX0_allColumns cX0_allColumns 1 (some .int), Cond.methodLink RX0 201 yJ6_bitCount_0f7a4, Cond.static yJ6_bitCount_0f7a4, Cond.initialized RJ6, Cond.code yJ6_bitCount_0f7a4 cJ6_bitCount_0f7a4 1 (some .int), Cond.constant RJ6 265 (1431655765), Cond.constant RJ6 266 (858993459), Cond.constant RJ6 267 (252645135), Cond.methodLink RX0 206 yX0_expanded, Cond.instanceMethod yX0_expanded, Cond.selects RX0 yX0_expanded yX0_expanded, Cond.code yX0_expanded cX0_expanded 9 (some .long), Cond.fieldLink RX0 11 "IntervalSolver" "coefficients" "[[I", Cond.methodLink RX0 127 yX0_scaledHullLow, Cond.instanceMethod yX0_scaledHullLow]
def wsX0_lowDenominator_r3 : List Cond := [Cond.selects RX0 yX0_scaledHullLow yX0_scaledHullLow, Cond.code yX0_scaledHullLow cX0_scaledHullLow 7 (some .long), Cond.fieldLink RX0 21 "IntervalSolver" "rightHighs" "[I", Cond.fieldLink RX0 17 "IntervalSolver" "rightLows" "[I", Cond.methodLink RX0 135 yX0_reduced, Cond.static yX0_reduced, Cond.code yX0_reduced cX0_reduced 6 (some .long), Cond.methodLink RX0 212 yX0_greatestCommonDivisor, Cond.static yX0_greatestCommonDivisor, Cond.code yX0_greatestCommonDivisor cX0_greatestCommonDivisor 11 (some .long)]
def wsX0_lowDenominator : List Cond := .code yX0_lowDenominator cX0_lowDenominator 2 (some .long) :: ((wsX0_lowDenominator_r1 ++ (wsX0_lowDenominator_r2 ++ wsX0_lowDenominator_r3)) ++ wsX00 ++ (vx_atS RX0 71 "java/lang/IndexOutOfBoundsException" ["java/lang/RuntimeException", "java/lang/Exception"]).filter goodWord ++ (vx_atS RX0 108 "java/lang/ArithmeticException" ["java/lang/RuntimeException", "java/lang/Exception"]).filter goodWord ++ (vx_atM "java/lang/ArrayIndexOutOfBoundsException" ["java/lang/IndexOutOfBoundsException", "java/lang/RuntimeException", "java/lang/Exception"]).filter goodWord ++ (vx_atM "java/lang/ArithmeticException" ["java/lang/RuntimeException", "java/lang/Exception"]).filter goodWord)
def wsX0_scaledHullHigh : List Cond := .code yX0_scaledHullHigh cX0_scaledHullHigh 7 (some .long) :: ([.fieldLink RX0 59 "IntervalSolver" "n" "I", .fieldLink RX0 45 "IntervalSolver" "scaledInverse" "[[J", .fieldLink RX0 17 "IntervalSolver" "rightLows" "[I", .fieldLink RX0 21 "IntervalSolver" "rightHighs" "[I"] ++ wsX00 ++ (vx_atM "java/lang/ArrayIndexOutOfBoundsException" ["java/lang/IndexOutOfBoundsException", "java/lang/RuntimeException", "java/lang/Exception"]).filter goodWord)
def wsX0_highNumerator_r1 : List Cond := [Cond.classLink RX0 67 "java/lang/IndexOutOfBoundsException", Cond.initialized "java/lang/IndexOutOfBoundsException", Cond.classLink RX0 104 "java/lang/ArithmeticException", Cond.initialized "java/lang/ArithmeticException", Cond.fieldLink RX0 131 "IntervalSolver" "scale" "J", Cond.methodLink RX0 63 yX0_isIndex, Cond.instanceMethod yX0_isIndex, Cond.selects RX0 yX0_isIndex yX0_isIndex, Cond.initialized RX0, Cond.code yX0_isIndex cX0_isIndex 2 (some .boolean), Cond.fieldLink RX0 59 "IntervalSolver" "n" "I", Cond.methodLink RX0 121 yX0_invert, Cond.instanceMethod yX0_invert, Cond.selects RX0 yX0_invert yX0_invert, Cond.code yX0_invert cX0_invert 7 (some .boolean), Cond.methodLink RX0 148 Lib.MathLoose.abs_long.x, Cond.static Lib.MathLoose.abs_long.x, Cond.initialized "java/lang/Math", Cond.code Lib.MathLoose.abs_long.x Lib.MathLoose.abs_long.code 2 (some .long), Cond.constantLong RX0 210 (-1), Cond.fieldLink RX0 45 "IntervalSolver" "scaledInverse" "[[J", Cond.fieldLink RX0 36 "IntervalSolver" "minors" "[J", Cond.methodLink RX0 197 yX0_determinant, Cond.instanceMethod yX0_determinant]
def wsX0_highNumerator_r2 : List Cond := [Cond.selects RX0 yX0_determinant yX0_determinant, Cond.code yX0_determinant cX0_determinant 1 (some .long), Cond.methodLink RX0 112 yX0_findMinors, Cond.instanceMethod yX0_findMinors, Cond.selects RX0 yX0_findMinors yX0_findMinors, Cond.code yX0_findMinors cX0_findMinors 4 none, Cond.methodLink RX0 115 yX0_allColumns, Cond.instanceMethod yX0_allColumns, Cond.selects RX0 yX0_allColumns yX0_allColumns, Cond.code yX0_allColumns cX0_allColumns 1 (some .int), Cond.methodLink RX0 201 yJ6_bitCount_0f7a4, Cond.static yJ6_bitCount_0f7a4, Cond.initialized RJ6, Cond.code yJ6_bitCount_0f7a4 cJ6_bitCount_0f7a4 1 (some .int), Cond.constant RJ6 265 (1431655765), Cond.constant RJ6 266 (858993459), Cond.constant RJ6 267 (252645135), Cond.methodLink RX0 206 yX0_expanded, Cond.instanceMethod yX0_expanded, Cond.selects RX0 yX0_expanded yX0_expanded, Cond.code yX0_expanded cX0_expanded 9 (some .long), Cond.fieldLink RX0 11 "IntervalSolver" "coefficients" "[[I", Cond.methodLink RX0 139 yX0_scaledHullHigh, Cond.instanceMethod yX0_scaledHullHigh]
def wsX0_highNumerator_r3 : List Cond := [Cond.selects RX0 yX0_scaledHullHigh yX0_scaledHullHigh, Cond.code yX0_scaledHullHigh cX0_scaledHullHigh 7 (some .long), Cond.fieldLink RX0 17 "IntervalSolver" "rightLows" "[I", Cond.fieldLink RX0 21 "IntervalSolver" "rightHighs" "[I", Cond.methodLink RX0 135 yX0_reduced, Cond.static yX0_reduced, Cond.code yX0_reduced cX0_reduced 6 (some .long), Cond.methodLink RX0 212 yX0_greatestCommonDivisor, Cond.static yX0_greatestCommonDivisor, Cond.code yX0_greatestCommonDivisor cX0_greatestCommonDivisor 11 (some .long)]
def wsX0_highNumerator : List Cond := .code yX0_highNumerator cX0_highNumerator 2 (some .long) :: ((wsX0_highNumerator_r1 ++ (wsX0_highNumerator_r2 ++ wsX0_highNumerator_r3)) ++ wsX00 ++ (vx_atS RX0 71 "java/lang/IndexOutOfBoundsException" ["java/lang/RuntimeException", "java/lang/Exception"]).filter goodWord ++ (vx_atS RX0 108 "java/lang/ArithmeticException" ["java/lang/RuntimeException", "java/lang/Exception"]).filter goodWord ++ (vx_atM "java/lang/ArrayIndexOutOfBoundsException" ["java/lang/IndexOutOfBoundsException", "java/lang/RuntimeException", "java/lang/Exception"]).filter goodWord ++ (vx_atM "java/lang/ArithmeticException" ["java/lang/RuntimeException", "java/lang/Exception"]).filter goodWord)
def wsX0_highDenominator_r1 : List Cond := [Cond.classLink RX0 67 "java/lang/IndexOutOfBoundsException", Cond.initialized "java/lang/IndexOutOfBoundsException", Cond.classLink RX0 104 "java/lang/ArithmeticException", Cond.initialized "java/lang/ArithmeticException", Cond.fieldLink RX0 131 "IntervalSolver" "scale" "J", Cond.methodLink RX0 63 yX0_isIndex, Cond.instanceMethod yX0_isIndex, Cond.selects RX0 yX0_isIndex yX0_isIndex, Cond.initialized RX0, Cond.code yX0_isIndex cX0_isIndex 2 (some .boolean), Cond.fieldLink RX0 59 "IntervalSolver" "n" "I", Cond.methodLink RX0 121 yX0_invert, Cond.instanceMethod yX0_invert, Cond.selects RX0 yX0_invert yX0_invert, Cond.code yX0_invert cX0_invert 7 (some .boolean), Cond.methodLink RX0 148 Lib.MathLoose.abs_long.x, Cond.static Lib.MathLoose.abs_long.x, Cond.initialized "java/lang/Math", Cond.code Lib.MathLoose.abs_long.x Lib.MathLoose.abs_long.code 2 (some .long), Cond.constantLong RX0 210 (-1), Cond.fieldLink RX0 45 "IntervalSolver" "scaledInverse" "[[J", Cond.fieldLink RX0 36 "IntervalSolver" "minors" "[J", Cond.methodLink RX0 197 yX0_determinant, Cond.instanceMethod yX0_determinant]
def wsX0_highDenominator_r2 : List Cond := [Cond.selects RX0 yX0_determinant yX0_determinant, Cond.code yX0_determinant cX0_determinant 1 (some .long), Cond.methodLink RX0 112 yX0_findMinors, Cond.instanceMethod yX0_findMinors, Cond.selects RX0 yX0_findMinors yX0_findMinors, Cond.code yX0_findMinors cX0_findMinors 4 none, Cond.methodLink RX0 115 yX0_allColumns, Cond.instanceMethod yX0_allColumns, Cond.selects RX0 yX0_allColumns yX0_allColumns, Cond.code yX0_allColumns cX0_allColumns 1 (some .int), Cond.methodLink RX0 201 yJ6_bitCount_0f7a4, Cond.static yJ6_bitCount_0f7a4, Cond.initialized RJ6, Cond.code yJ6_bitCount_0f7a4 cJ6_bitCount_0f7a4 1 (some .int), Cond.constant RJ6 265 (1431655765), Cond.constant RJ6 266 (858993459), Cond.constant RJ6 267 (252645135), Cond.methodLink RX0 206 yX0_expanded, Cond.instanceMethod yX0_expanded, Cond.selects RX0 yX0_expanded yX0_expanded, Cond.code yX0_expanded cX0_expanded 9 (some .long), Cond.fieldLink RX0 11 "IntervalSolver" "coefficients" "[[I", Cond.methodLink RX0 139 yX0_scaledHullHigh, Cond.instanceMethod yX0_scaledHullHigh]
def wsX0_highDenominator_r3 : List Cond := [Cond.selects RX0 yX0_scaledHullHigh yX0_scaledHullHigh, Cond.code yX0_scaledHullHigh cX0_scaledHullHigh 7 (some .long), Cond.fieldLink RX0 17 "IntervalSolver" "rightLows" "[I", Cond.fieldLink RX0 21 "IntervalSolver" "rightHighs" "[I", Cond.methodLink RX0 135 yX0_reduced, Cond.static yX0_reduced, Cond.code yX0_reduced cX0_reduced 6 (some .long), Cond.methodLink RX0 212 yX0_greatestCommonDivisor, Cond.static yX0_greatestCommonDivisor, Cond.code yX0_greatestCommonDivisor cX0_greatestCommonDivisor 11 (some .long)]
def wsX0_highDenominator : List Cond := .code yX0_highDenominator cX0_highDenominator 2 (some .long) :: ((wsX0_highDenominator_r1 ++ (wsX0_highDenominator_r2 ++ wsX0_highDenominator_r3)) ++ wsX00 ++ (vx_atS RX0 71 "java/lang/IndexOutOfBoundsException" ["java/lang/RuntimeException", "java/lang/Exception"]).filter goodWord ++ (vx_atS RX0 108 "java/lang/ArithmeticException" ["java/lang/RuntimeException", "java/lang/Exception"]).filter goodWord ++ (vx_atM "java/lang/ArrayIndexOutOfBoundsException" ["java/lang/IndexOutOfBoundsException", "java/lang/RuntimeException", "java/lang/Exception"]).filter goodWord ++ (vx_atM "java/lang/ArithmeticException" ["java/lang/RuntimeException", "java/lang/Exception"]).filter goodWord)
def wsX0_inverseNumerator_r1 : List Cond := [Cond.classLink RX0 67 "java/lang/IndexOutOfBoundsException", Cond.initialized "java/lang/IndexOutOfBoundsException", Cond.classLink RX0 104 "java/lang/ArithmeticException", Cond.initialized "java/lang/ArithmeticException", Cond.fieldLink RX0 45 "IntervalSolver" "scaledInverse" "[[J", Cond.fieldLink RX0 131 "IntervalSolver" "scale" "J", Cond.methodLink RX0 63 yX0_isIndex, Cond.instanceMethod yX0_isIndex, Cond.selects RX0 yX0_isIndex yX0_isIndex, Cond.initialized RX0, Cond.code yX0_isIndex cX0_isIndex 2 (some .boolean), Cond.fieldLink RX0 59 "IntervalSolver" "n" "I", Cond.methodLink RX0 121 yX0_invert, Cond.instanceMethod yX0_invert, Cond.selects RX0 yX0_invert yX0_invert, Cond.code yX0_invert cX0_invert 7 (some .boolean), Cond.methodLink RX0 148 Lib.MathLoose.abs_long.x, Cond.static Lib.MathLoose.abs_long.x, Cond.initialized "java/lang/Math", Cond.code Lib.MathLoose.abs_long.x Lib.MathLoose.abs_long.code 2 (some .long), Cond.constantLong RX0 210 (-1), Cond.fieldLink RX0 36 "IntervalSolver" "minors" "[J", Cond.methodLink RX0 197 yX0_determinant, Cond.instanceMethod yX0_determinant]
def wsX0_inverseNumerator_r2 : List Cond := [Cond.selects RX0 yX0_determinant yX0_determinant, Cond.code yX0_determinant cX0_determinant 1 (some .long), Cond.methodLink RX0 112 yX0_findMinors, Cond.instanceMethod yX0_findMinors, Cond.selects RX0 yX0_findMinors yX0_findMinors, Cond.code yX0_findMinors cX0_findMinors 4 none, Cond.methodLink RX0 115 yX0_allColumns, Cond.instanceMethod yX0_allColumns, Cond.selects RX0 yX0_allColumns yX0_allColumns, Cond.code yX0_allColumns cX0_allColumns 1 (some .int), Cond.methodLink RX0 201 yJ6_bitCount_0f7a4, Cond.static yJ6_bitCount_0f7a4, Cond.initialized RJ6, Cond.code yJ6_bitCount_0f7a4 cJ6_bitCount_0f7a4 1 (some .int), Cond.constant RJ6 265 (1431655765), Cond.constant RJ6 266 (858993459), Cond.constant RJ6 267 (252645135), Cond.methodLink RX0 206 yX0_expanded, Cond.instanceMethod yX0_expanded, Cond.selects RX0 yX0_expanded yX0_expanded, Cond.code yX0_expanded cX0_expanded 9 (some .long), Cond.fieldLink RX0 11 "IntervalSolver" "coefficients" "[[I", Cond.methodLink RX0 135 yX0_reduced, Cond.static yX0_reduced]
def wsX0_inverseNumerator_r3 : List Cond := [Cond.code yX0_reduced cX0_reduced 6 (some .long), Cond.methodLink RX0 212 yX0_greatestCommonDivisor, Cond.static yX0_greatestCommonDivisor, Cond.code yX0_greatestCommonDivisor cX0_greatestCommonDivisor 11 (some .long)]
def wsX0_inverseNumerator : List Cond := .code yX0_inverseNumerator cX0_inverseNumerator 3 (some .long) :: ((wsX0_inverseNumerator_r1 ++ (wsX0_inverseNumerator_r2 ++ wsX0_inverseNumerator_r3)) ++ wsX00 ++ (vx_atS RX0 71 "java/lang/IndexOutOfBoundsException" ["java/lang/RuntimeException", "java/lang/Exception"]).filter goodWord ++ (vx_atS RX0 108 "java/lang/ArithmeticException" ["java/lang/RuntimeException", "java/lang/Exception"]).filter goodWord ++ (vx_atM "java/lang/ArrayIndexOutOfBoundsException" ["java/lang/IndexOutOfBoundsException", "java/lang/RuntimeException", "java/lang/Exception"]).filter goodWord ++ (vx_atM "java/lang/ArithmeticException" ["java/lang/RuntimeException", "java/lang/Exception"]).filter goodWord)
def wsX0_inverseDenominator_r1 : List Cond := [Cond.classLink RX0 67 "java/lang/IndexOutOfBoundsException", Cond.initialized "java/lang/IndexOutOfBoundsException", Cond.classLink RX0 104 "java/lang/ArithmeticException", Cond.initialized "java/lang/ArithmeticException", Cond.fieldLink RX0 131 "IntervalSolver" "scale" "J", Cond.fieldLink RX0 45 "IntervalSolver" "scaledInverse" "[[J", Cond.methodLink RX0 63 yX0_isIndex, Cond.instanceMethod yX0_isIndex, Cond.selects RX0 yX0_isIndex yX0_isIndex, Cond.initialized RX0, Cond.code yX0_isIndex cX0_isIndex 2 (some .boolean), Cond.fieldLink RX0 59 "IntervalSolver" "n" "I", Cond.methodLink RX0 121 yX0_invert, Cond.instanceMethod yX0_invert, Cond.selects RX0 yX0_invert yX0_invert, Cond.code yX0_invert cX0_invert 7 (some .boolean), Cond.methodLink RX0 148 Lib.MathLoose.abs_long.x, Cond.static Lib.MathLoose.abs_long.x, Cond.initialized "java/lang/Math", Cond.code Lib.MathLoose.abs_long.x Lib.MathLoose.abs_long.code 2 (some .long), Cond.constantLong RX0 210 (-1), Cond.fieldLink RX0 36 "IntervalSolver" "minors" "[J", Cond.methodLink RX0 197 yX0_determinant, Cond.instanceMethod yX0_determinant]
def wsX0_inverseDenominator_r2 : List Cond := [Cond.selects RX0 yX0_determinant yX0_determinant, Cond.code yX0_determinant cX0_determinant 1 (some .long), Cond.methodLink RX0 112 yX0_findMinors, Cond.instanceMethod yX0_findMinors, Cond.selects RX0 yX0_findMinors yX0_findMinors, Cond.code yX0_findMinors cX0_findMinors 4 none, Cond.methodLink RX0 115 yX0_allColumns, Cond.instanceMethod yX0_allColumns, Cond.selects RX0 yX0_allColumns yX0_allColumns, Cond.code yX0_allColumns cX0_allColumns 1 (some .int), Cond.methodLink RX0 201 yJ6_bitCount_0f7a4, Cond.static yJ6_bitCount_0f7a4, Cond.initialized RJ6, Cond.code yJ6_bitCount_0f7a4 cJ6_bitCount_0f7a4 1 (some .int), Cond.constant RJ6 265 (1431655765), Cond.constant RJ6 266 (858993459), Cond.constant RJ6 267 (252645135), Cond.methodLink RX0 206 yX0_expanded, Cond.instanceMethod yX0_expanded, Cond.selects RX0 yX0_expanded yX0_expanded, Cond.code yX0_expanded cX0_expanded 9 (some .long), Cond.fieldLink RX0 11 "IntervalSolver" "coefficients" "[[I", Cond.methodLink RX0 135 yX0_reduced, Cond.static yX0_reduced]
def wsX0_inverseDenominator_r3 : List Cond := [Cond.code yX0_reduced cX0_reduced 6 (some .long), Cond.methodLink RX0 212 yX0_greatestCommonDivisor, Cond.static yX0_greatestCommonDivisor, Cond.code yX0_greatestCommonDivisor cX0_greatestCommonDivisor 11 (some .long)]
def wsX0_inverseDenominator : List Cond := .code yX0_inverseDenominator cX0_inverseDenominator 3 (some .long) :: ((wsX0_inverseDenominator_r1 ++ (wsX0_inverseDenominator_r2 ++ wsX0_inverseDenominator_r3)) ++ wsX00 ++ (vx_atS RX0 71 "java/lang/IndexOutOfBoundsException" ["java/lang/RuntimeException", "java/lang/Exception"]).filter goodWord ++ (vx_atS RX0 108 "java/lang/ArithmeticException" ["java/lang/RuntimeException", "java/lang/Exception"]).filter goodWord ++ (vx_atM "java/lang/ArrayIndexOutOfBoundsException" ["java/lang/IndexOutOfBoundsException", "java/lang/RuntimeException", "java/lang/Exception"]).filter goodWord ++ (vx_atM "java/lang/ArithmeticException" ["java/lang/RuntimeException", "java/lang/Exception"]).filter goodWord)
def wsX0_isSolution : List Cond := .code yX0_isSolution cX0_isSolution 10 (some .boolean) :: ([.fieldLink RX0 40 "IntervalSolver" "vector" "[J", .fieldLink RX0 59 "IntervalSolver" "n" "I", .fieldLink RX0 11 "IntervalSolver" "coefficients" "[[I", .fieldLink RX0 17 "IntervalSolver" "rightLows" "[I", .fieldLink RX0 21 "IntervalSolver" "rightHighs" "[I"] ++ wsX00 ++ (vx_atM "java/lang/ArrayIndexOutOfBoundsException" ["java/lang/IndexOutOfBoundsException", "java/lang/RuntimeException", "java/lang/Exception"]).filter goodWord)
def wsX0_condition_r1 : List Cond := [Cond.classLink RX0 104 "java/lang/ArithmeticException", Cond.initialized "java/lang/ArithmeticException", Cond.fieldLink RX0 59 "IntervalSolver" "n" "I", Cond.fieldLink RX0 11 "IntervalSolver" "coefficients" "[[I", Cond.methodLink RX0 142 Lib.Math.abs.name, Cond.static Lib.Math.abs.name, Cond.initialized "java/lang/Math", Cond.code Lib.Math.abs.name Lib.Math.abs.code 1 (some .int), Cond.fieldLink RX0 45 "IntervalSolver" "scaledInverse" "[[J", Cond.methodLink RX0 148 Lib.MathLoose.abs_long.x, Cond.static Lib.MathLoose.abs_long.x, Cond.code Lib.MathLoose.abs_long.x Lib.MathLoose.abs_long.code 2 (some .long), Cond.methodLink RX0 151 Lib.MathLoose.max_long.x, Cond.static Lib.MathLoose.max_long.x, Cond.code Lib.MathLoose.max_long.x Lib.MathLoose.max_long.code 4 (some .long), Cond.fieldLink RX0 131 "IntervalSolver" "scale" "J", Cond.methodLink RX0 121 yX0_invert, Cond.instanceMethod yX0_invert, Cond.selects RX0 yX0_invert yX0_invert, Cond.initialized RX0, Cond.code yX0_invert cX0_invert 7 (some .boolean), Cond.constantLong RX0 210 (-1), Cond.fieldLink RX0 36 "IntervalSolver" "minors" "[J", Cond.methodLink RX0 197 yX0_determinant]
def wsX0_condition_r2 : List Cond := [Cond.instanceMethod yX0_determinant, Cond.selects RX0 yX0_determinant yX0_determinant, Cond.code yX0_determinant cX0_determinant 1 (some .long), Cond.methodLink RX0 112 yX0_findMinors, Cond.instanceMethod yX0_findMinors, Cond.selects RX0 yX0_findMinors yX0_findMinors, Cond.code yX0_findMinors cX0_findMinors 4 none, Cond.methodLink RX0 115 yX0_allColumns, Cond.instanceMethod yX0_allColumns, Cond.selects RX0 yX0_allColumns yX0_allColumns, Cond.code yX0_allColumns cX0_allColumns 1 (some .int), Cond.methodLink RX0 201 yJ6_bitCount_0f7a4, Cond.static yJ6_bitCount_0f7a4, Cond.initialized RJ6, Cond.code yJ6_bitCount_0f7a4 cJ6_bitCount_0f7a4 1 (some .int), Cond.constant RJ6 265 (1431655765), Cond.constant RJ6 266 (858993459), Cond.constant RJ6 267 (252645135), Cond.methodLink RX0 206 yX0_expanded, Cond.instanceMethod yX0_expanded, Cond.selects RX0 yX0_expanded yX0_expanded, Cond.code yX0_expanded cX0_expanded 9 (some .long)]
def wsX0_condition : List Cond := .code yX0_condition cX0_condition 11 (some .double) :: ((wsX0_condition_r1 ++ wsX0_condition_r2) ++ wsX00 ++ (vx_atS RX0 108 "java/lang/ArithmeticException" ["java/lang/RuntimeException", "java/lang/Exception"]).filter goodWord ++ (vx_atM "java/lang/ArrayIndexOutOfBoundsException" ["java/lang/IndexOutOfBoundsException", "java/lang/RuntimeException", "java/lang/Exception"]).filter goodWord)
def wsX0_scaledVariation : List Cond := .code yX0_scaledVariation cX0_scaledVariation 8 (some .long) :: ([.fieldLink RX0 59 "IntervalSolver" "n" "I", .fieldLink RX0 45 "IntervalSolver" "scaledInverse" "[[J", .methodLink RX0 148 Lib.MathLoose.abs_long.x, .static Lib.MathLoose.abs_long.x, .initialized "java/lang/Math", .code Lib.MathLoose.abs_long.x Lib.MathLoose.abs_long.code 2 (some .long), .fieldLink RX0 14 "IntervalSolver" "spreads" "[[I", .methodLink RX0 151 Lib.MathLoose.max_long.x, .static Lib.MathLoose.max_long.x, .code Lib.MathLoose.max_long.x Lib.MathLoose.max_long.code 4 (some .long)] ++ wsX00 ++ (vx_atM "java/lang/ArrayIndexOutOfBoundsException" ["java/lang/IndexOutOfBoundsException", "java/lang/RuntimeException", "java/lang/Exception"]).filter goodWord)
def wsX0_variationNumerator_r1 : List Cond := [Cond.classLink RX0 104 "java/lang/ArithmeticException", Cond.initialized "java/lang/ArithmeticException", Cond.constantLong RX0 158 (100), Cond.fieldLink RX0 131 "IntervalSolver" "scale" "J", Cond.methodLink RX0 121 yX0_invert, Cond.instanceMethod yX0_invert, Cond.selects RX0 yX0_invert yX0_invert, Cond.initialized RX0, Cond.code yX0_invert cX0_invert 7 (some .boolean), Cond.methodLink RX0 148 Lib.MathLoose.abs_long.x, Cond.static Lib.MathLoose.abs_long.x, Cond.initialized "java/lang/Math", Cond.code Lib.MathLoose.abs_long.x Lib.MathLoose.abs_long.code 2 (some .long), Cond.fieldLink RX0 59 "IntervalSolver" "n" "I", Cond.constantLong RX0 210 (-1), Cond.fieldLink RX0 45 "IntervalSolver" "scaledInverse" "[[J", Cond.fieldLink RX0 36 "IntervalSolver" "minors" "[J", Cond.methodLink RX0 197 yX0_determinant, Cond.instanceMethod yX0_determinant, Cond.selects RX0 yX0_determinant yX0_determinant, Cond.code yX0_determinant cX0_determinant 1 (some .long), Cond.methodLink RX0 112 yX0_findMinors, Cond.instanceMethod yX0_findMinors, Cond.selects RX0 yX0_findMinors yX0_findMinors]
def wsX0_variationNumerator_r2 : List Cond := [Cond.code yX0_findMinors cX0_findMinors 4 none, Cond.methodLink RX0 115 yX0_allColumns, Cond.instanceMethod yX0_allColumns, Cond.selects RX0 yX0_allColumns yX0_allColumns, Cond.code yX0_allColumns cX0_allColumns 1 (some .int), Cond.methodLink RX0 201 yJ6_bitCount_0f7a4, Cond.static yJ6_bitCount_0f7a4, Cond.initialized RJ6, Cond.code yJ6_bitCount_0f7a4 cJ6_bitCount_0f7a4 1 (some .int), Cond.constant RJ6 265 (1431655765), Cond.constant RJ6 266 (858993459), Cond.constant RJ6 267 (252645135), Cond.methodLink RX0 206 yX0_expanded, Cond.instanceMethod yX0_expanded, Cond.selects RX0 yX0_expanded yX0_expanded, Cond.code yX0_expanded cX0_expanded 9 (some .long), Cond.fieldLink RX0 11 "IntervalSolver" "coefficients" "[[I", Cond.methodLink RX0 154 yX0_scaledVariation, Cond.instanceMethod yX0_scaledVariation, Cond.selects RX0 yX0_scaledVariation yX0_scaledVariation, Cond.code yX0_scaledVariation cX0_scaledVariation 8 (some .long), Cond.fieldLink RX0 14 "IntervalSolver" "spreads" "[[I", Cond.methodLink RX0 151 Lib.MathLoose.max_long.x, Cond.static Lib.MathLoose.max_long.x]
def wsX0_variationNumerator_r3 : List Cond := [Cond.code Lib.MathLoose.max_long.x Lib.MathLoose.max_long.code 4 (some .long), Cond.methodLink RX0 135 yX0_reduced, Cond.static yX0_reduced, Cond.code yX0_reduced cX0_reduced 6 (some .long), Cond.methodLink RX0 212 yX0_greatestCommonDivisor, Cond.static yX0_greatestCommonDivisor, Cond.code yX0_greatestCommonDivisor cX0_greatestCommonDivisor 11 (some .long)]
def wsX0_variationNumerator : List Cond := .code yX0_variationNumerator cX0_variationNumerator 1 (some .long) :: ((wsX0_variationNumerator_r1 ++ (wsX0_variationNumerator_r2 ++ wsX0_variationNumerator_r3)) ++ wsX00 ++ (vx_atS RX0 108 "java/lang/ArithmeticException" ["java/lang/RuntimeException", "java/lang/Exception"]).filter goodWord ++ (vx_atM "java/lang/ArrayIndexOutOfBoundsException" ["java/lang/IndexOutOfBoundsException", "java/lang/RuntimeException", "java/lang/Exception"]).filter goodWord ++ (vx_atM "java/lang/ArithmeticException" ["java/lang/RuntimeException", "java/lang/Exception"]).filter goodWord)
def wsX0_variationDenominator_r1 : List Cond := [Cond.classLink RX0 104 "java/lang/ArithmeticException", Cond.initialized "java/lang/ArithmeticException", Cond.constantLong RX0 158 (100), Cond.fieldLink RX0 131 "IntervalSolver" "scale" "J", Cond.methodLink RX0 121 yX0_invert, Cond.instanceMethod yX0_invert, Cond.selects RX0 yX0_invert yX0_invert, Cond.initialized RX0, Cond.code yX0_invert cX0_invert 7 (some .boolean), Cond.methodLink RX0 148 Lib.MathLoose.abs_long.x, Cond.static Lib.MathLoose.abs_long.x, Cond.initialized "java/lang/Math", Cond.code Lib.MathLoose.abs_long.x Lib.MathLoose.abs_long.code 2 (some .long), Cond.fieldLink RX0 59 "IntervalSolver" "n" "I", Cond.constantLong RX0 210 (-1), Cond.fieldLink RX0 45 "IntervalSolver" "scaledInverse" "[[J", Cond.fieldLink RX0 36 "IntervalSolver" "minors" "[J", Cond.methodLink RX0 197 yX0_determinant, Cond.instanceMethod yX0_determinant, Cond.selects RX0 yX0_determinant yX0_determinant, Cond.code yX0_determinant cX0_determinant 1 (some .long), Cond.methodLink RX0 112 yX0_findMinors, Cond.instanceMethod yX0_findMinors, Cond.selects RX0 yX0_findMinors yX0_findMinors]
def wsX0_variationDenominator_r2 : List Cond := [Cond.code yX0_findMinors cX0_findMinors 4 none, Cond.methodLink RX0 115 yX0_allColumns, Cond.instanceMethod yX0_allColumns, Cond.selects RX0 yX0_allColumns yX0_allColumns, Cond.code yX0_allColumns cX0_allColumns 1 (some .int), Cond.methodLink RX0 201 yJ6_bitCount_0f7a4, Cond.static yJ6_bitCount_0f7a4, Cond.initialized RJ6, Cond.code yJ6_bitCount_0f7a4 cJ6_bitCount_0f7a4 1 (some .int), Cond.constant RJ6 265 (1431655765), Cond.constant RJ6 266 (858993459), Cond.constant RJ6 267 (252645135), Cond.methodLink RX0 206 yX0_expanded, Cond.instanceMethod yX0_expanded, Cond.selects RX0 yX0_expanded yX0_expanded, Cond.code yX0_expanded cX0_expanded 9 (some .long), Cond.fieldLink RX0 11 "IntervalSolver" "coefficients" "[[I", Cond.methodLink RX0 154 yX0_scaledVariation, Cond.instanceMethod yX0_scaledVariation, Cond.selects RX0 yX0_scaledVariation yX0_scaledVariation, Cond.code yX0_scaledVariation cX0_scaledVariation 8 (some .long), Cond.fieldLink RX0 14 "IntervalSolver" "spreads" "[[I", Cond.methodLink RX0 151 Lib.MathLoose.max_long.x, Cond.static Lib.MathLoose.max_long.x]
def wsX0_variationDenominator_r3 : List Cond := [Cond.code Lib.MathLoose.max_long.x Lib.MathLoose.max_long.code 4 (some .long), Cond.methodLink RX0 135 yX0_reduced, Cond.static yX0_reduced, Cond.code yX0_reduced cX0_reduced 6 (some .long), Cond.methodLink RX0 212 yX0_greatestCommonDivisor, Cond.static yX0_greatestCommonDivisor, Cond.code yX0_greatestCommonDivisor cX0_greatestCommonDivisor 11 (some .long)]
def wsX0_variationDenominator : List Cond := .code yX0_variationDenominator cX0_variationDenominator 1 (some .long) :: ((wsX0_variationDenominator_r1 ++ (wsX0_variationDenominator_r2 ++ wsX0_variationDenominator_r3)) ++ wsX00 ++ (vx_atS RX0 108 "java/lang/ArithmeticException" ["java/lang/RuntimeException", "java/lang/Exception"]).filter goodWord ++ (vx_atM "java/lang/ArrayIndexOutOfBoundsException" ["java/lang/IndexOutOfBoundsException", "java/lang/RuntimeException", "java/lang/Exception"]).filter goodWord ++ (vx_atM "java/lang/ArithmeticException" ["java/lang/RuntimeException", "java/lang/Exception"]).filter goodWord)
def wsX0_isSafe_r1 : List Cond := [Cond.constantLong RX0 158 (100), Cond.fieldLink RX0 131 "IntervalSolver" "scale" "J", Cond.methodLink RX0 121 yX0_invert, Cond.instanceMethod yX0_invert, Cond.selects RX0 yX0_invert yX0_invert, Cond.initialized RX0, Cond.code yX0_invert cX0_invert 7 (some .boolean), Cond.methodLink RX0 148 Lib.MathLoose.abs_long.x, Cond.static Lib.MathLoose.abs_long.x, Cond.initialized "java/lang/Math", Cond.code Lib.MathLoose.abs_long.x Lib.MathLoose.abs_long.code 2 (some .long), Cond.fieldLink RX0 59 "IntervalSolver" "n" "I", Cond.constantLong RX0 210 (-1), Cond.fieldLink RX0 45 "IntervalSolver" "scaledInverse" "[[J", Cond.fieldLink RX0 36 "IntervalSolver" "minors" "[J", Cond.methodLink RX0 197 yX0_determinant, Cond.instanceMethod yX0_determinant, Cond.selects RX0 yX0_determinant yX0_determinant, Cond.code yX0_determinant cX0_determinant 1 (some .long), Cond.methodLink RX0 112 yX0_findMinors, Cond.instanceMethod yX0_findMinors, Cond.selects RX0 yX0_findMinors yX0_findMinors, Cond.code yX0_findMinors cX0_findMinors 4 none, Cond.methodLink RX0 115 yX0_allColumns]
def wsX0_isSafe_r2 : List Cond := [Cond.instanceMethod yX0_allColumns, Cond.selects RX0 yX0_allColumns yX0_allColumns, Cond.code yX0_allColumns cX0_allColumns 1 (some .int), Cond.methodLink RX0 201 yJ6_bitCount_0f7a4, Cond.static yJ6_bitCount_0f7a4, Cond.initialized RJ6, Cond.code yJ6_bitCount_0f7a4 cJ6_bitCount_0f7a4 1 (some .int), Cond.constant RJ6 265 (1431655765), Cond.constant RJ6 266 (858993459), Cond.constant RJ6 267 (252645135), Cond.methodLink RX0 206 yX0_expanded, Cond.instanceMethod yX0_expanded, Cond.selects RX0 yX0_expanded yX0_expanded, Cond.code yX0_expanded cX0_expanded 9 (some .long), Cond.fieldLink RX0 11 "IntervalSolver" "coefficients" "[[I", Cond.methodLink RX0 154 yX0_scaledVariation, Cond.instanceMethod yX0_scaledVariation, Cond.selects RX0 yX0_scaledVariation yX0_scaledVariation, Cond.code yX0_scaledVariation cX0_scaledVariation 8 (some .long), Cond.fieldLink RX0 14 "IntervalSolver" "spreads" "[[I", Cond.methodLink RX0 151 Lib.MathLoose.max_long.x, Cond.static Lib.MathLoose.max_long.x, Cond.code Lib.MathLoose.max_long.x Lib.MathLoose.max_long.code 4 (some .long)]
def wsX0_isSafe : List Cond := .code yX0_isSafe cX0_isSafe 1 (some .boolean) :: ((wsX0_isSafe_r1 ++ wsX0_isSafe_r2) ++ wsX00 ++ (vx_atM "java/lang/ArrayIndexOutOfBoundsException" ["java/lang/IndexOutOfBoundsException", "java/lang/RuntimeException", "java/lang/Exception"]).filter goodWord)
def wsX0_isDominant : List Cond := .code yX0_isDominant cX0_isDominant 5 (some .boolean) :: ([.fieldLink RX0 59 "IntervalSolver" "n" "I", .fieldLink RX0 11 "IntervalSolver" "coefficients" "[[I", .methodLink RX0 142 Lib.Math.abs.name, .static Lib.Math.abs.name, .initialized "java/lang/Math", .code Lib.Math.abs.name Lib.Math.abs.code 1 (some .int), .fieldLink RX0 14 "IntervalSolver" "spreads" "[[I"] ++ wsX00 ++ (vx_atM "java/lang/ArrayIndexOutOfBoundsException" ["java/lang/IndexOutOfBoundsException", "java/lang/RuntimeException", "java/lang/Exception"]).filter goodWord)
def wsX0_setBox : List Cond := .code yX0_setBox cX0_setBox 5 (some .boolean) :: ([.classLink RX0 67 "java/lang/IndexOutOfBoundsException", .initialized "java/lang/IndexOutOfBoundsException", .classLink RX0 52 "java/lang/IllegalArgumentException", .initialized "java/lang/IllegalArgumentException", .constant RX0 160 (1000000000), .fieldLink RX0 24 "IntervalSolver" "boxLows" "[I", .fieldLink RX0 27 "IntervalSolver" "boxHighs" "[I", .methodLink RX0 63 yX0_isIndex, .instanceMethod yX0_isIndex, .selects RX0 yX0_isIndex yX0_isIndex, .initialized RX0, .code yX0_isIndex cX0_isIndex 2 (some .boolean), .fieldLink RX0 59 "IntervalSolver" "n" "I", .methodLink RX0 80 yX0_isInterval, .static yX0_isInterval, .code yX0_isInterval cX0_isInterval 3 (some .boolean), .methodLink RX0 72 yX0_isWithin, .static yX0_isWithin, .code yX0_isWithin cX0_isWithin 2 (some .boolean)] ++ wsX00 ++ (vx_atS RX0 71 "java/lang/IndexOutOfBoundsException" ["java/lang/RuntimeException", "java/lang/Exception"]).filter goodWord ++ (vx_atS RX0 56 "java/lang/IllegalArgumentException" ["java/lang/RuntimeException", "java/lang/Exception"]).filter goodWord ++ (vx_atM "java/lang/ArrayIndexOutOfBoundsException" ["java/lang/IndexOutOfBoundsException", "java/lang/RuntimeException", "java/lang/Exception"]).filter goodWord)
def wsX0_boxLow : List Cond := .code yX0_boxLow cX0_boxLow 2 (some .int) :: ([.classLink RX0 67 "java/lang/IndexOutOfBoundsException", .initialized "java/lang/IndexOutOfBoundsException", .fieldLink RX0 24 "IntervalSolver" "boxLows" "[I", .methodLink RX0 63 yX0_isIndex, .instanceMethod yX0_isIndex, .selects RX0 yX0_isIndex yX0_isIndex, .initialized RX0, .code yX0_isIndex cX0_isIndex 2 (some .boolean), .fieldLink RX0 59 "IntervalSolver" "n" "I"] ++ wsX00 ++ (vx_atS RX0 71 "java/lang/IndexOutOfBoundsException" ["java/lang/RuntimeException", "java/lang/Exception"]).filter goodWord ++ (vx_atM "java/lang/ArrayIndexOutOfBoundsException" ["java/lang/IndexOutOfBoundsException", "java/lang/RuntimeException", "java/lang/Exception"]).filter goodWord)
def wsX0_boxHigh : List Cond := .code yX0_boxHigh cX0_boxHigh 2 (some .int) :: ([.classLink RX0 67 "java/lang/IndexOutOfBoundsException", .initialized "java/lang/IndexOutOfBoundsException", .fieldLink RX0 27 "IntervalSolver" "boxHighs" "[I", .methodLink RX0 63 yX0_isIndex, .instanceMethod yX0_isIndex, .selects RX0 yX0_isIndex yX0_isIndex, .initialized RX0, .code yX0_isIndex cX0_isIndex 2 (some .boolean), .fieldLink RX0 59 "IntervalSolver" "n" "I"] ++ wsX00 ++ (vx_atS RX0 71 "java/lang/IndexOutOfBoundsException" ["java/lang/RuntimeException", "java/lang/Exception"]).filter goodWord ++ (vx_atM "java/lang/ArrayIndexOutOfBoundsException" ["java/lang/IndexOutOfBoundsException", "java/lang/RuntimeException", "java/lang/Exception"]).filter goodWord)
def wsX0_keepBox : List Cond := .code yX0_keepBox cX0_keepBox 1 none :: ([.fieldLink RX0 24 "IntervalSolver" "boxLows" "[I", .fieldLink RX0 30 "IntervalSolver" "keptLows" "[I", .methodLink RX0 215 arraycopyName, .native arraycopyName, .static arraycopyName, .initialized "java/lang/System", .fieldLink RX0 27 "IntervalSolver" "boxHighs" "[I", .fieldLink RX0 33 "IntervalSolver" "keptHighs" "[I"] ++ wsX00)
def wsJ9_floorDiv_f86c9 : List Cond := .code yJ9_floorDiv_f86c9 cJ9_floorDiv_f86c9 6 (some .long) :: ([])
def wsX0_quotientDown : List Cond := .code yX0_quotientDown cX0_quotientDown 4 (some .long) :: ([.methodLink RX0 232 yJ9_floorDiv_f86c9, .static yJ9_floorDiv_f86c9, .initialized RJ9, .code yJ9_floorDiv_f86c9 cJ9_floorDiv_f86c9 6 (some .long)])
def wsX0_quotientUp : List Cond := .code yX0_quotientUp cX0_quotientUp 4 (some .long) :: ([.methodLink RX0 223 yX0_quotientDown, .static yX0_quotientDown, .initialized RX0, .code yX0_quotientDown cX0_quotientDown 4 (some .long), .methodLink RX0 232 yJ9_floorDiv_f86c9, .static yJ9_floorDiv_f86c9, .initialized RJ9, .code yJ9_floorDiv_f86c9 cJ9_floorDiv_f86c9 6 (some .long)])
def wsX0_intersect : List Cond := .code yX0_intersect cX0_intersect 11 (some .int) :: ([.fieldLink RX0 24 "IntervalSolver" "boxLows" "[I", .methodLink RX0 151 Lib.MathLoose.max_long.x, .static Lib.MathLoose.max_long.x, .initialized "java/lang/Math", .code Lib.MathLoose.max_long.x Lib.MathLoose.max_long.code 4 (some .long), .fieldLink RX0 27 "IntervalSolver" "boxHighs" "[I", .methodLink RX0 229 Lib.MathLoose.min_long.x, .static Lib.MathLoose.min_long.x, .code Lib.MathLoose.min_long.x Lib.MathLoose.min_long.code 4 (some .long)] ++ wsX00 ++ (vx_atM "java/lang/ArrayIndexOutOfBoundsException" ["java/lang/IndexOutOfBoundsException", "java/lang/RuntimeException", "java/lang/Exception"]).filter goodWord)
def wsX0_contractBy_r1 : List Cond := [Cond.constantLong RX0 221 (1024), Cond.fieldLink RX0 17 "IntervalSolver" "rightLows" "[I", Cond.fieldLink RX0 21 "IntervalSolver" "rightHighs" "[I", Cond.fieldLink RX0 59 "IntervalSolver" "n" "I", Cond.fieldLink RX0 11 "IntervalSolver" "coefficients" "[[I", Cond.fieldLink RX0 24 "IntervalSolver" "boxLows" "[I", Cond.fieldLink RX0 27 "IntervalSolver" "boxHighs" "[I", Cond.methodLink RX0 223 yX0_quotientDown, Cond.static yX0_quotientDown, Cond.initialized RX0, Cond.code yX0_quotientDown cX0_quotientDown 4 (some .long), Cond.methodLink RX0 232 yJ9_floorDiv_f86c9, Cond.static yJ9_floorDiv_f86c9, Cond.initialized RJ9, Cond.code yJ9_floorDiv_f86c9 cJ9_floorDiv_f86c9 6 (some .long), Cond.methodLink RX0 226 yX0_quotientUp, Cond.static yX0_quotientUp, Cond.code yX0_quotientUp cX0_quotientUp 4 (some .long), Cond.methodLink RX0 183 yX0_intersect, Cond.instanceMethod yX0_intersect, Cond.selects RX0 yX0_intersect yX0_intersect, Cond.code yX0_intersect cX0_intersect 11 (some .int), Cond.methodLink RX0 151 Lib.MathLoose.max_long.x, Cond.static Lib.MathLoose.max_long.x]
def wsX0_contractBy_r2 : List Cond := [Cond.initialized "java/lang/Math", Cond.code Lib.MathLoose.max_long.x Lib.MathLoose.max_long.code 4 (some .long), Cond.methodLink RX0 229 Lib.MathLoose.min_long.x, Cond.static Lib.MathLoose.min_long.x, Cond.code Lib.MathLoose.min_long.x Lib.MathLoose.min_long.code 4 (some .long)]
def wsX0_contractBy : List Cond := .code yX0_contractBy cX0_contractBy 9 (some .int) :: ((wsX0_contractBy_r1 ++ wsX0_contractBy_r2) ++ wsX00 ++ (vx_atM "java/lang/ArrayIndexOutOfBoundsException" ["java/lang/IndexOutOfBoundsException", "java/lang/RuntimeException", "java/lang/Exception"]).filter goodWord)
def wsX0_restoreBox : List Cond := .code yX0_restoreBox cX0_restoreBox 1 none :: ([.fieldLink RX0 30 "IntervalSolver" "keptLows" "[I", .fieldLink RX0 24 "IntervalSolver" "boxLows" "[I", .methodLink RX0 215 arraycopyName, .native arraycopyName, .static arraycopyName, .initialized "java/lang/System", .fieldLink RX0 33 "IntervalSolver" "keptHighs" "[I", .fieldLink RX0 27 "IntervalSolver" "boxHighs" "[I"] ++ wsX00)
def wsX0_sweep_r1 : List Cond := [Cond.fieldLink RX0 59 "IntervalSolver" "n" "I", Cond.fieldLink RX0 11 "IntervalSolver" "coefficients" "[[I", Cond.methodLink RX0 163 yX0_keepBox, Cond.instanceMethod yX0_keepBox, Cond.selects RX0 yX0_keepBox yX0_keepBox, Cond.initialized RX0, Cond.code yX0_keepBox cX0_keepBox 1 none, Cond.fieldLink RX0 24 "IntervalSolver" "boxLows" "[I", Cond.fieldLink RX0 30 "IntervalSolver" "keptLows" "[I", Cond.methodLink RX0 215 arraycopyName, Cond.native arraycopyName, Cond.static arraycopyName, Cond.initialized "java/lang/System", Cond.fieldLink RX0 27 "IntervalSolver" "boxHighs" "[I", Cond.fieldLink RX0 33 "IntervalSolver" "keptHighs" "[I", Cond.methodLink RX0 166 yX0_contractBy, Cond.instanceMethod yX0_contractBy, Cond.selects RX0 yX0_contractBy yX0_contractBy, Cond.code yX0_contractBy cX0_contractBy 9 (some .int), Cond.constantLong RX0 221 (1024), Cond.fieldLink RX0 17 "IntervalSolver" "rightLows" "[I", Cond.fieldLink RX0 21 "IntervalSolver" "rightHighs" "[I", Cond.methodLink RX0 223 yX0_quotientDown, Cond.static yX0_quotientDown]
def wsX0_sweep_r2 : List Cond := [Cond.code yX0_quotientDown cX0_quotientDown 4 (some .long), Cond.methodLink RX0 232 yJ9_floorDiv_f86c9, Cond.static yJ9_floorDiv_f86c9, Cond.initialized RJ9, Cond.code yJ9_floorDiv_f86c9 cJ9_floorDiv_f86c9 6 (some .long), Cond.methodLink RX0 226 yX0_quotientUp, Cond.static yX0_quotientUp, Cond.code yX0_quotientUp cX0_quotientUp 4 (some .long), Cond.methodLink RX0 183 yX0_intersect, Cond.instanceMethod yX0_intersect, Cond.selects RX0 yX0_intersect yX0_intersect, Cond.code yX0_intersect cX0_intersect 11 (some .int), Cond.methodLink RX0 151 Lib.MathLoose.max_long.x, Cond.static Lib.MathLoose.max_long.x, Cond.initialized "java/lang/Math", Cond.code Lib.MathLoose.max_long.x Lib.MathLoose.max_long.code 4 (some .long), Cond.methodLink RX0 229 Lib.MathLoose.min_long.x, Cond.static Lib.MathLoose.min_long.x, Cond.code Lib.MathLoose.min_long.x Lib.MathLoose.min_long.code 4 (some .long), Cond.methodLink RX0 169 yX0_restoreBox, Cond.instanceMethod yX0_restoreBox, Cond.selects RX0 yX0_restoreBox yX0_restoreBox, Cond.code yX0_restoreBox cX0_restoreBox 1 none]
def wsX0_sweep : List Cond := .code yX0_sweep cX0_sweep 4 (some .int) :: ((wsX0_sweep_r1 ++ wsX0_sweep_r2) ++ wsX00 ++ (vx_atM "java/lang/ArrayIndexOutOfBoundsException" ["java/lang/IndexOutOfBoundsException", "java/lang/RuntimeException", "java/lang/Exception"]).filter goodWord)
def wsX0_contract_r1 : List Cond := [Cond.classLink RX0 52 "java/lang/IllegalArgumentException", Cond.initialized "java/lang/IllegalArgumentException", Cond.methodLink RX0 174 yX0_sweep, Cond.instanceMethod yX0_sweep, Cond.selects RX0 yX0_sweep yX0_sweep, Cond.initialized RX0, Cond.code yX0_sweep cX0_sweep 4 (some .int), Cond.fieldLink RX0 59 "IntervalSolver" "n" "I", Cond.fieldLink RX0 11 "IntervalSolver" "coefficients" "[[I", Cond.methodLink RX0 163 yX0_keepBox, Cond.instanceMethod yX0_keepBox, Cond.selects RX0 yX0_keepBox yX0_keepBox, Cond.code yX0_keepBox cX0_keepBox 1 none, Cond.fieldLink RX0 24 "IntervalSolver" "boxLows" "[I", Cond.fieldLink RX0 30 "IntervalSolver" "keptLows" "[I", Cond.methodLink RX0 215 arraycopyName, Cond.native arraycopyName, Cond.static arraycopyName, Cond.initialized "java/lang/System", Cond.fieldLink RX0 27 "IntervalSolver" "boxHighs" "[I", Cond.fieldLink RX0 33 "IntervalSolver" "keptHighs" "[I", Cond.methodLink RX0 166 yX0_contractBy, Cond.instanceMethod yX0_contractBy, Cond.selects RX0 yX0_contractBy yX0_contractBy]
def wsX0_contract_r2 : List Cond := [Cond.code yX0_contractBy cX0_contractBy 9 (some .int), Cond.constantLong RX0 221 (1024), Cond.fieldLink RX0 17 "IntervalSolver" "rightLows" "[I", Cond.fieldLink RX0 21 "IntervalSolver" "rightHighs" "[I", Cond.methodLink RX0 223 yX0_quotientDown, Cond.static yX0_quotientDown, Cond.code yX0_quotientDown cX0_quotientDown 4 (some .long), Cond.methodLink RX0 232 yJ9_floorDiv_f86c9, Cond.static yJ9_floorDiv_f86c9, Cond.initialized RJ9, Cond.code yJ9_floorDiv_f86c9 cJ9_floorDiv_f86c9 6 (some .long), Cond.methodLink RX0 226 yX0_quotientUp, Cond.static yX0_quotientUp, Cond.code yX0_quotientUp cX0_quotientUp 4 (some .long), Cond.methodLink RX0 183 yX0_intersect, Cond.instanceMethod yX0_intersect, Cond.selects RX0 yX0_intersect yX0_intersect, Cond.code yX0_intersect cX0_intersect 11 (some .int), Cond.methodLink RX0 151 Lib.MathLoose.max_long.x, Cond.static Lib.MathLoose.max_long.x, Cond.initialized "java/lang/Math", Cond.code Lib.MathLoose.max_long.x Lib.MathLoose.max_long.code 4 (some .long), Cond.methodLink RX0 229 Lib.MathLoose.min_long.x, Cond.static Lib.MathLoose.min_long.x]
def wsX0_contract_r3 : List Cond := [Cond.code Lib.MathLoose.min_long.x Lib.MathLoose.min_long.code 4 (some .long), Cond.methodLink RX0 169 yX0_restoreBox, Cond.instanceMethod yX0_restoreBox, Cond.selects RX0 yX0_restoreBox yX0_restoreBox, Cond.code yX0_restoreBox cX0_restoreBox 1 none]
def wsX0_contract : List Cond := .code yX0_contract cX0_contract 4 (some .int) :: ((wsX0_contract_r1 ++ (wsX0_contract_r2 ++ wsX0_contract_r3)) ++ wsX00 ++ (vx_atS RX0 56 "java/lang/IllegalArgumentException" ["java/lang/RuntimeException", "java/lang/Exception"]).filter goodWord ++ (vx_atM "java/lang/ArrayIndexOutOfBoundsException" ["java/lang/IndexOutOfBoundsException", "java/lang/RuntimeException", "java/lang/Exception"]).filter goodWord)
def wsX0_hullLowInUnits : List Cond := .code yX0_hullLowInUnits cX0_hullLowInUnits 2 (some .long) :: ([.constantLong RX0 221 (1024), .fieldLink RX0 131 "IntervalSolver" "scale" "J", .methodLink RX0 127 yX0_scaledHullLow, .instanceMethod yX0_scaledHullLow, .selects RX0 yX0_scaledHullLow yX0_scaledHullLow, .initialized RX0, .code yX0_scaledHullLow cX0_scaledHullLow 7 (some .long), .fieldLink RX0 59 "IntervalSolver" "n" "I", .fieldLink RX0 45 "IntervalSolver" "scaledInverse" "[[J", .fieldLink RX0 21 "IntervalSolver" "rightHighs" "[I", .fieldLink RX0 17 "IntervalSolver" "rightLows" "[I", .methodLink RX0 223 yX0_quotientDown, .static yX0_quotientDown, .code yX0_quotientDown cX0_quotientDown 4 (some .long), .methodLink RX0 232 yJ9_floorDiv_f86c9, .static yJ9_floorDiv_f86c9, .initialized RJ9, .code yJ9_floorDiv_f86c9 cJ9_floorDiv_f86c9 6 (some .long)] ++ wsX00 ++ (vx_atM "java/lang/ArrayIndexOutOfBoundsException" ["java/lang/IndexOutOfBoundsException", "java/lang/RuntimeException", "java/lang/Exception"]).filter goodWord)
def wsX0_hullHighInUnits : List Cond := .code yX0_hullHighInUnits cX0_hullHighInUnits 2 (some .long) :: ([.constantLong RX0 221 (1024), .fieldLink RX0 131 "IntervalSolver" "scale" "J", .methodLink RX0 139 yX0_scaledHullHigh, .instanceMethod yX0_scaledHullHigh, .selects RX0 yX0_scaledHullHigh yX0_scaledHullHigh, .initialized RX0, .code yX0_scaledHullHigh cX0_scaledHullHigh 7 (some .long), .fieldLink RX0 59 "IntervalSolver" "n" "I", .fieldLink RX0 45 "IntervalSolver" "scaledInverse" "[[J", .fieldLink RX0 17 "IntervalSolver" "rightLows" "[I", .fieldLink RX0 21 "IntervalSolver" "rightHighs" "[I", .methodLink RX0 226 yX0_quotientUp, .static yX0_quotientUp, .code yX0_quotientUp cX0_quotientUp 4 (some .long), .methodLink RX0 223 yX0_quotientDown, .static yX0_quotientDown, .code yX0_quotientDown cX0_quotientDown 4 (some .long), .methodLink RX0 232 yJ9_floorDiv_f86c9, .static yJ9_floorDiv_f86c9, .initialized RJ9, .code yJ9_floorDiv_f86c9 cJ9_floorDiv_f86c9 6 (some .long)] ++ wsX00 ++ (vx_atM "java/lang/ArrayIndexOutOfBoundsException" ["java/lang/IndexOutOfBoundsException", "java/lang/RuntimeException", "java/lang/Exception"]).filter goodWord)
def wsX0_sharpen_r1 : List Cond := [Cond.classLink RX0 104 "java/lang/ArithmeticException", Cond.initialized "java/lang/ArithmeticException", Cond.fieldLink RX0 59 "IntervalSolver" "n" "I", Cond.methodLink RX0 121 yX0_invert, Cond.instanceMethod yX0_invert, Cond.selects RX0 yX0_invert yX0_invert, Cond.initialized RX0, Cond.code yX0_invert cX0_invert 7 (some .boolean), Cond.methodLink RX0 148 Lib.MathLoose.abs_long.x, Cond.static Lib.MathLoose.abs_long.x, Cond.initialized "java/lang/Math", Cond.code Lib.MathLoose.abs_long.x Lib.MathLoose.abs_long.code 2 (some .long), Cond.fieldLink RX0 131 "IntervalSolver" "scale" "J", Cond.constantLong RX0 210 (-1), Cond.fieldLink RX0 45 "IntervalSolver" "scaledInverse" "[[J", Cond.fieldLink RX0 36 "IntervalSolver" "minors" "[J", Cond.methodLink RX0 197 yX0_determinant, Cond.instanceMethod yX0_determinant, Cond.selects RX0 yX0_determinant yX0_determinant, Cond.code yX0_determinant cX0_determinant 1 (some .long), Cond.methodLink RX0 112 yX0_findMinors, Cond.instanceMethod yX0_findMinors, Cond.selects RX0 yX0_findMinors yX0_findMinors, Cond.code yX0_findMinors cX0_findMinors 4 none]
def wsX0_sharpen_r2 : List Cond := [Cond.methodLink RX0 115 yX0_allColumns, Cond.instanceMethod yX0_allColumns, Cond.selects RX0 yX0_allColumns yX0_allColumns, Cond.code yX0_allColumns cX0_allColumns 1 (some .int), Cond.methodLink RX0 201 yJ6_bitCount_0f7a4, Cond.static yJ6_bitCount_0f7a4, Cond.initialized RJ6, Cond.code yJ6_bitCount_0f7a4 cJ6_bitCount_0f7a4 1 (some .int), Cond.constant RJ6 265 (1431655765), Cond.constant RJ6 266 (858993459), Cond.constant RJ6 267 (252645135), Cond.methodLink RX0 206 yX0_expanded, Cond.instanceMethod yX0_expanded, Cond.selects RX0 yX0_expanded yX0_expanded, Cond.code yX0_expanded cX0_expanded 9 (some .long), Cond.fieldLink RX0 11 "IntervalSolver" "coefficients" "[[I", Cond.methodLink RX0 163 yX0_keepBox, Cond.instanceMethod yX0_keepBox, Cond.selects RX0 yX0_keepBox yX0_keepBox, Cond.code yX0_keepBox cX0_keepBox 1 none, Cond.fieldLink RX0 24 "IntervalSolver" "boxLows" "[I", Cond.fieldLink RX0 30 "IntervalSolver" "keptLows" "[I", Cond.methodLink RX0 215 arraycopyName, Cond.native arraycopyName]
def wsX0_sharpen_r3 : List Cond := [Cond.static arraycopyName, Cond.initialized "java/lang/System", Cond.fieldLink RX0 27 "IntervalSolver" "boxHighs" "[I", Cond.fieldLink RX0 33 "IntervalSolver" "keptHighs" "[I", Cond.methodLink RX0 177 yX0_hullLowInUnits, Cond.instanceMethod yX0_hullLowInUnits, Cond.selects RX0 yX0_hullLowInUnits yX0_hullLowInUnits, Cond.code yX0_hullLowInUnits cX0_hullLowInUnits 2 (some .long), Cond.constantLong RX0 221 (1024), Cond.methodLink RX0 127 yX0_scaledHullLow, Cond.instanceMethod yX0_scaledHullLow, Cond.selects RX0 yX0_scaledHullLow yX0_scaledHullLow, Cond.code yX0_scaledHullLow cX0_scaledHullLow 7 (some .long), Cond.fieldLink RX0 21 "IntervalSolver" "rightHighs" "[I", Cond.fieldLink RX0 17 "IntervalSolver" "rightLows" "[I", Cond.methodLink RX0 223 yX0_quotientDown, Cond.static yX0_quotientDown, Cond.code yX0_quotientDown cX0_quotientDown 4 (some .long), Cond.methodLink RX0 232 yJ9_floorDiv_f86c9, Cond.static yJ9_floorDiv_f86c9, Cond.initialized RJ9, Cond.code yJ9_floorDiv_f86c9 cJ9_floorDiv_f86c9 6 (some .long), Cond.methodLink RX0 180 yX0_hullHighInUnits, Cond.instanceMethod yX0_hullHighInUnits]
def wsX0_sharpen_r4 : List Cond := [Cond.selects RX0 yX0_hullHighInUnits yX0_hullHighInUnits, Cond.code yX0_hullHighInUnits cX0_hullHighInUnits 2 (some .long), Cond.methodLink RX0 139 yX0_scaledHullHigh, Cond.instanceMethod yX0_scaledHullHigh, Cond.selects RX0 yX0_scaledHullHigh yX0_scaledHullHigh, Cond.code yX0_scaledHullHigh cX0_scaledHullHigh 7 (some .long), Cond.methodLink RX0 226 yX0_quotientUp, Cond.static yX0_quotientUp, Cond.code yX0_quotientUp cX0_quotientUp 4 (some .long), Cond.methodLink RX0 183 yX0_intersect, Cond.instanceMethod yX0_intersect, Cond.selects RX0 yX0_intersect yX0_intersect, Cond.code yX0_intersect cX0_intersect 11 (some .int), Cond.methodLink RX0 151 Lib.MathLoose.max_long.x, Cond.static Lib.MathLoose.max_long.x, Cond.code Lib.MathLoose.max_long.x Lib.MathLoose.max_long.code 4 (some .long), Cond.methodLink RX0 229 Lib.MathLoose.min_long.x, Cond.static Lib.MathLoose.min_long.x, Cond.code Lib.MathLoose.min_long.x Lib.MathLoose.min_long.code 4 (some .long), Cond.methodLink RX0 169 yX0_restoreBox, Cond.instanceMethod yX0_restoreBox, Cond.selects RX0 yX0_restoreBox yX0_restoreBox, Cond.code yX0_restoreBox cX0_restoreBox 1 none]
def wsX0_sharpen : List Cond := .code yX0_sharpen cX0_sharpen 4 (some .int) :: ((wsX0_sharpen_r1 ++ (wsX0_sharpen_r2 ++ (wsX0_sharpen_r3 ++ wsX0_sharpen_r4))) ++ wsX00 ++ (vx_atS RX0 108 "java/lang/ArithmeticException" ["java/lang/RuntimeException", "java/lang/Exception"]).filter goodWord ++ (vx_atM "java/lang/ArrayIndexOutOfBoundsException" ["java/lang/IndexOutOfBoundsException", "java/lang/RuntimeException", "java/lang/Exception"]).filter goodWord)
def wsX0_isCertified_r1 : List Cond := [Cond.classLink RX0 104 "java/lang/ArithmeticException", Cond.initialized "java/lang/ArithmeticException", Cond.fieldLink RX0 59 "IntervalSolver" "n" "I", Cond.fieldLink RX0 24 "IntervalSolver" "boxLows" "[I", Cond.fieldLink RX0 27 "IntervalSolver" "boxHighs" "[I", Cond.methodLink RX0 121 yX0_invert, Cond.instanceMethod yX0_invert, Cond.selects RX0 yX0_invert yX0_invert, Cond.initialized RX0, Cond.code yX0_invert cX0_invert 7 (some .boolean), Cond.methodLink RX0 148 Lib.MathLoose.abs_long.x, Cond.static Lib.MathLoose.abs_long.x, Cond.initialized "java/lang/Math", Cond.code Lib.MathLoose.abs_long.x Lib.MathLoose.abs_long.code 2 (some .long), Cond.fieldLink RX0 131 "IntervalSolver" "scale" "J", Cond.constantLong RX0 210 (-1), Cond.fieldLink RX0 45 "IntervalSolver" "scaledInverse" "[[J", Cond.fieldLink RX0 36 "IntervalSolver" "minors" "[J", Cond.methodLink RX0 197 yX0_determinant, Cond.instanceMethod yX0_determinant, Cond.selects RX0 yX0_determinant yX0_determinant, Cond.code yX0_determinant cX0_determinant 1 (some .long), Cond.methodLink RX0 112 yX0_findMinors, Cond.instanceMethod yX0_findMinors]
def wsX0_isCertified_r2 : List Cond := [Cond.selects RX0 yX0_findMinors yX0_findMinors, Cond.code yX0_findMinors cX0_findMinors 4 none, Cond.methodLink RX0 115 yX0_allColumns, Cond.instanceMethod yX0_allColumns, Cond.selects RX0 yX0_allColumns yX0_allColumns, Cond.code yX0_allColumns cX0_allColumns 1 (some .int), Cond.methodLink RX0 201 yJ6_bitCount_0f7a4, Cond.static yJ6_bitCount_0f7a4, Cond.initialized RJ6, Cond.code yJ6_bitCount_0f7a4 cJ6_bitCount_0f7a4 1 (some .int), Cond.constant RJ6 265 (1431655765), Cond.constant RJ6 266 (858993459), Cond.constant RJ6 267 (252645135), Cond.methodLink RX0 206 yX0_expanded, Cond.instanceMethod yX0_expanded, Cond.selects RX0 yX0_expanded yX0_expanded, Cond.code yX0_expanded cX0_expanded 9 (some .long), Cond.fieldLink RX0 11 "IntervalSolver" "coefficients" "[[I", Cond.methodLink RX0 177 yX0_hullLowInUnits, Cond.instanceMethod yX0_hullLowInUnits, Cond.selects RX0 yX0_hullLowInUnits yX0_hullLowInUnits, Cond.code yX0_hullLowInUnits cX0_hullLowInUnits 2 (some .long), Cond.constantLong RX0 221 (1024), Cond.methodLink RX0 127 yX0_scaledHullLow]
def wsX0_isCertified_r3 : List Cond := [Cond.instanceMethod yX0_scaledHullLow, Cond.selects RX0 yX0_scaledHullLow yX0_scaledHullLow, Cond.code yX0_scaledHullLow cX0_scaledHullLow 7 (some .long), Cond.fieldLink RX0 21 "IntervalSolver" "rightHighs" "[I", Cond.fieldLink RX0 17 "IntervalSolver" "rightLows" "[I", Cond.methodLink RX0 223 yX0_quotientDown, Cond.static yX0_quotientDown, Cond.code yX0_quotientDown cX0_quotientDown 4 (some .long), Cond.methodLink RX0 232 yJ9_floorDiv_f86c9, Cond.static yJ9_floorDiv_f86c9, Cond.initialized RJ9, Cond.code yJ9_floorDiv_f86c9 cJ9_floorDiv_f86c9 6 (some .long), Cond.methodLink RX0 180 yX0_hullHighInUnits, Cond.instanceMethod yX0_hullHighInUnits, Cond.selects RX0 yX0_hullHighInUnits yX0_hullHighInUnits, Cond.code yX0_hullHighInUnits cX0_hullHighInUnits 2 (some .long), Cond.methodLink RX0 139 yX0_scaledHullHigh, Cond.instanceMethod yX0_scaledHullHigh, Cond.selects RX0 yX0_scaledHullHigh yX0_scaledHullHigh, Cond.code yX0_scaledHullHigh cX0_scaledHullHigh 7 (some .long), Cond.methodLink RX0 226 yX0_quotientUp, Cond.static yX0_quotientUp, Cond.code yX0_quotientUp cX0_quotientUp 4 (some .long)]
def wsX0_isCertified : List Cond := .code yX0_isCertified cX0_isCertified 2 (some .boolean) :: ((wsX0_isCertified_r1 ++ (wsX0_isCertified_r2 ++ wsX0_isCertified_r3)) ++ wsX00 ++ (vx_atS RX0 108 "java/lang/ArithmeticException" ["java/lang/RuntimeException", "java/lang/Exception"]).filter goodWord ++ (vx_atM "java/lang/ArrayIndexOutOfBoundsException" ["java/lang/IndexOutOfBoundsException", "java/lang/RuntimeException", "java/lang/Exception"]).filter goodWord)
def wsX0_doubledMiddle : List Cond := .code yX0_doubledMiddle cX0_doubledMiddle 5 (some .long) :: ([.fieldLink RX0 59 "IntervalSolver" "n" "I", .fieldLink RX0 11 "IntervalSolver" "coefficients" "[[I", .fieldLink RX0 24 "IntervalSolver" "boxLows" "[I", .fieldLink RX0 27 "IntervalSolver" "boxHighs" "[I"] ++ wsX00 ++ (vx_atM "java/lang/ArrayIndexOutOfBoundsException" ["java/lang/IndexOutOfBoundsException", "java/lang/RuntimeException", "java/lang/Exception"]).filter goodWord)
def wsX0_residualLow : List Cond := .code yX0_residualLow cX0_residualLow 2 (some .long) :: ([.classLink RX0 67 "java/lang/IndexOutOfBoundsException", .initialized "java/lang/IndexOutOfBoundsException", .constantLong RX0 190 (2048), .fieldLink RX0 21 "IntervalSolver" "rightHighs" "[I", .methodLink RX0 63 yX0_isIndex, .instanceMethod yX0_isIndex, .selects RX0 yX0_isIndex yX0_isIndex, .initialized RX0, .code yX0_isIndex cX0_isIndex 2 (some .boolean), .fieldLink RX0 59 "IntervalSolver" "n" "I", .methodLink RX0 187 yX0_doubledMiddle, .instanceMethod yX0_doubledMiddle, .selects RX0 yX0_doubledMiddle yX0_doubledMiddle, .code yX0_doubledMiddle cX0_doubledMiddle 5 (some .long), .fieldLink RX0 11 "IntervalSolver" "coefficients" "[[I", .fieldLink RX0 24 "IntervalSolver" "boxLows" "[I", .fieldLink RX0 27 "IntervalSolver" "boxHighs" "[I"] ++ wsX00 ++ (vx_atS RX0 71 "java/lang/IndexOutOfBoundsException" ["java/lang/RuntimeException", "java/lang/Exception"]).filter goodWord ++ (vx_atM "java/lang/ArrayIndexOutOfBoundsException" ["java/lang/IndexOutOfBoundsException", "java/lang/RuntimeException", "java/lang/Exception"]).filter goodWord)
def wsX0_residualHigh : List Cond := .code yX0_residualHigh cX0_residualHigh 2 (some .long) :: ([.classLink RX0 67 "java/lang/IndexOutOfBoundsException", .initialized "java/lang/IndexOutOfBoundsException", .constantLong RX0 190 (2048), .fieldLink RX0 17 "IntervalSolver" "rightLows" "[I", .methodLink RX0 63 yX0_isIndex, .instanceMethod yX0_isIndex, .selects RX0 yX0_isIndex yX0_isIndex, .initialized RX0, .code yX0_isIndex cX0_isIndex 2 (some .boolean), .fieldLink RX0 59 "IntervalSolver" "n" "I", .methodLink RX0 187 yX0_doubledMiddle, .instanceMethod yX0_doubledMiddle, .selects RX0 yX0_doubledMiddle yX0_doubledMiddle, .code yX0_doubledMiddle cX0_doubledMiddle 5 (some .long), .fieldLink RX0 11 "IntervalSolver" "coefficients" "[[I", .fieldLink RX0 24 "IntervalSolver" "boxLows" "[I", .fieldLink RX0 27 "IntervalSolver" "boxHighs" "[I"] ++ wsX00 ++ (vx_atS RX0 71 "java/lang/IndexOutOfBoundsException" ["java/lang/RuntimeException", "java/lang/Exception"]).filter goodWord ++ (vx_atM "java/lang/ArrayIndexOutOfBoundsException" ["java/lang/IndexOutOfBoundsException", "java/lang/RuntimeException", "java/lang/Exception"]).filter goodWord)
def wsX0_mixed : List Cond := .code yX0_mixed cX0_mixed 4 (some .long) :: ([.constantLong RX0 235 (31)])
def wsX0_digest_r1 : List Cond := [Cond.constantLong RX0 192 (61), Cond.fieldLink RX0 59 "IntervalSolver" "n" "I", Cond.fieldLink RX0 11 "IntervalSolver" "coefficients" "[[I", Cond.fieldLink RX0 14 "IntervalSolver" "spreads" "[[I", Cond.fieldLink RX0 17 "IntervalSolver" "rightLows" "[I", Cond.fieldLink RX0 21 "IntervalSolver" "rightHighs" "[I", Cond.fieldLink RX0 24 "IntervalSolver" "boxLows" "[I", Cond.fieldLink RX0 27 "IntervalSolver" "boxHighs" "[I", Cond.methodLink RX0 194 yX0_mixed, Cond.static yX0_mixed, Cond.initialized RX0, Cond.code yX0_mixed cX0_mixed 4 (some .long), Cond.constantLong RX0 235 (31), Cond.methodLink RX0 197 yX0_determinant, Cond.instanceMethod yX0_determinant, Cond.selects RX0 yX0_determinant yX0_determinant, Cond.code yX0_determinant cX0_determinant 1 (some .long), Cond.fieldLink RX0 36 "IntervalSolver" "minors" "[J", Cond.methodLink RX0 112 yX0_findMinors, Cond.instanceMethod yX0_findMinors, Cond.selects RX0 yX0_findMinors yX0_findMinors, Cond.code yX0_findMinors cX0_findMinors 4 none, Cond.methodLink RX0 115 yX0_allColumns, Cond.instanceMethod yX0_allColumns]
def wsX0_digest_r2 : List Cond := [Cond.selects RX0 yX0_allColumns yX0_allColumns, Cond.code yX0_allColumns cX0_allColumns 1 (some .int), Cond.methodLink RX0 201 yJ6_bitCount_0f7a4, Cond.static yJ6_bitCount_0f7a4, Cond.initialized RJ6, Cond.code yJ6_bitCount_0f7a4 cJ6_bitCount_0f7a4 1 (some .int), Cond.constant RJ6 265 (1431655765), Cond.constant RJ6 266 (858993459), Cond.constant RJ6 267 (252645135), Cond.methodLink RX0 206 yX0_expanded, Cond.instanceMethod yX0_expanded, Cond.selects RX0 yX0_expanded yX0_expanded, Cond.code yX0_expanded cX0_expanded 9 (some .long)]
def wsX0_digest : List Cond := .code yX0_digest cX0_digest 5 (some .long) :: ((wsX0_digest_r1 ++ wsX0_digest_r2) ++ wsX00 ++ (vx_atM "java/lang/ArrayIndexOutOfBoundsException" ["java/lang/IndexOutOfBoundsException", "java/lang/RuntimeException", "java/lang/Exception"]).filter goodWord)
def wsX1_at : List Cond := .code yX1_at cX1_at 2 (some .int) :: ([])
def wsX1_clear : List Cond := .code yX1_clear cX1_clear 3 none :: ([.fieldLink RX1 13 "IntervalSolverModel" "a" "[I", .fieldLink RX1 17 "IntervalSolverModel" "spreads" "[I", .fieldLink RX1 20 "IntervalSolverModel" "lows" "[I", .fieldLink RX1 23 "IntervalSolverModel" "highs" "[I", .fieldLink RX1 26 "IntervalSolverModel" "boxLows" "[I", .constant RX1 52 (-1000000000), .fieldLink RX1 29 "IntervalSolverModel" "boxHighs" "[I", .constant RX1 53 (1000000000), .methodLink RX1 48 yX1_at, .static yX1_at, .initialized RX1, .code yX1_at cX1_at 2 (some .int)] ++ wsX10 ++ (vx_atM "java/lang/ArrayIndexOutOfBoundsException" ["java/lang/IndexOutOfBoundsException", "java/lang/RuntimeException", "java/lang/Exception"]).filter goodWord)
def wsX1_init_r1 : List Cond := [Cond.methodLink RX1 1 objectInit, Cond.instanceMethod objectInit, Cond.code objectInit ⟨#[0xb1]⟩ 1 none, Cond.fieldLink RX1 7 "IntervalSolverModel" "n" "I", Cond.arrayClass .int, Cond.fieldLink RX1 13 "IntervalSolverModel" "a" "[I", Cond.fieldLink RX1 17 "IntervalSolverModel" "spreads" "[I", Cond.fieldLink RX1 20 "IntervalSolverModel" "lows" "[I", Cond.fieldLink RX1 23 "IntervalSolverModel" "highs" "[I", Cond.fieldLink RX1 26 "IntervalSolverModel" "boxLows" "[I", Cond.fieldLink RX1 29 "IntervalSolverModel" "boxHighs" "[I", Cond.fieldLink RX1 32 "IntervalSolverModel" "formerLows" "[I", Cond.fieldLink RX1 35 "IntervalSolverModel" "formerHighs" "[I", Cond.arrayClass .long, Cond.fieldLink RX1 38 "IntervalSolverModel" "parts" "[J", Cond.methodLink RX1 42 yX1_clear, Cond.instanceMethod yX1_clear, Cond.selects RX1 yX1_clear yX1_clear, Cond.initialized RX1, Cond.code yX1_clear cX1_clear 3 none, Cond.constant RX1 52 (-1000000000), Cond.constant RX1 53 (1000000000), Cond.methodLink RX1 48 yX1_at, Cond.static yX1_at]
def wsX1_init_r2 : List Cond := [Cond.code yX1_at cX1_at 2 (some .int)]
def wsX1_init : List Cond := .code yX1_init cX1_init 1 none :: ((wsX1_init_r1 ++ wsX1_init_r2) ++ wsX10 ++ (vx_atM "java/lang/ArrayIndexOutOfBoundsException" ["java/lang/IndexOutOfBoundsException", "java/lang/RuntimeException", "java/lang/Exception"]).filter goodWord)
def wsX1_thrown : List Cond := .code yX1_thrown cX1_thrown 1 (some .int) :: ([.fieldLink RX1 45 "IntervalSolverModel" "thrown" "I"] ++ wsX10)
def wsX1_fail : List Cond := .code yX1_fail cX1_fail 2 (some .int) :: ([.fieldLink RX1 45 "IntervalSolverModel" "thrown" "I"] ++ wsX10)
def wsX1_isIndex : List Cond := .code yX1_isIndex cX1_isIndex 2 (some .boolean) :: ([.fieldLink RX1 7 "IntervalSolverModel" "n" "I"] ++ wsX10)
def wsX1_setSize : List Cond := .code yX1_setSize cX1_setSize 2 (some .int) :: ([.fieldLink RX1 45 "IntervalSolverModel" "thrown" "I", .fieldLink RX1 7 "IntervalSolverModel" "n" "I", .methodLink RX1 54 yX1_fail, .instanceMethod yX1_fail, .selects RX1 yX1_fail yX1_fail, .initialized RX1, .code yX1_fail cX1_fail 2 (some .int), .methodLink RX1 42 yX1_clear, .instanceMethod yX1_clear, .selects RX1 yX1_clear yX1_clear, .code yX1_clear cX1_clear 3 none, .fieldLink RX1 13 "IntervalSolverModel" "a" "[I", .fieldLink RX1 17 "IntervalSolverModel" "spreads" "[I", .fieldLink RX1 20 "IntervalSolverModel" "lows" "[I", .fieldLink RX1 23 "IntervalSolverModel" "highs" "[I", .fieldLink RX1 26 "IntervalSolverModel" "boxLows" "[I", .constant RX1 52 (-1000000000), .fieldLink RX1 29 "IntervalSolverModel" "boxHighs" "[I", .constant RX1 53 (1000000000), .methodLink RX1 48 yX1_at, .static yX1_at, .code yX1_at cX1_at 2 (some .int)] ++ wsX10 ++ (vx_atM "java/lang/ArrayIndexOutOfBoundsException" ["java/lang/IndexOutOfBoundsException", "java/lang/RuntimeException", "java/lang/Exception"]).filter goodWord)
def wsX1_size : List Cond := .code yX1_size cX1_size 1 (some .int) :: ([.fieldLink RX1 45 "IntervalSolverModel" "thrown" "I", .fieldLink RX1 7 "IntervalSolverModel" "n" "I"] ++ wsX10)
def wsX1_setCoefficient : List Cond := .code yX1_setCoefficient cX1_setCoefficient 5 (some .int) :: ([.fieldLink RX1 45 "IntervalSolverModel" "thrown" "I", .fieldLink RX1 13 "IntervalSolverModel" "a" "[I", .methodLink RX1 58 yX1_isIndex, .instanceMethod yX1_isIndex, .selects RX1 yX1_isIndex yX1_isIndex, .initialized RX1, .code yX1_isIndex cX1_isIndex 2 (some .boolean), .fieldLink RX1 7 "IntervalSolverModel" "n" "I", .methodLink RX1 54 yX1_fail, .instanceMethod yX1_fail, .selects RX1 yX1_fail yX1_fail, .code yX1_fail cX1_fail 2 (some .int), .methodLink RX1 48 yX1_at, .static yX1_at, .code yX1_at cX1_at 2 (some .int)] ++ wsX10 ++ (vx_atM "java/lang/ArrayIndexOutOfBoundsException" ["java/lang/IndexOutOfBoundsException", "java/lang/RuntimeException", "java/lang/Exception"]).filter goodWord)
def wsX1_coefficient : List Cond := .code yX1_coefficient cX1_coefficient 3 (some .int) :: ([.fieldLink RX1 45 "IntervalSolverModel" "thrown" "I", .fieldLink RX1 13 "IntervalSolverModel" "a" "[I", .methodLink RX1 58 yX1_isIndex, .instanceMethod yX1_isIndex, .selects RX1 yX1_isIndex yX1_isIndex, .initialized RX1, .code yX1_isIndex cX1_isIndex 2 (some .boolean), .fieldLink RX1 7 "IntervalSolverModel" "n" "I", .methodLink RX1 48 yX1_at, .static yX1_at, .code yX1_at cX1_at 2 (some .int), .methodLink RX1 54 yX1_fail, .instanceMethod yX1_fail, .selects RX1 yX1_fail yX1_fail, .code yX1_fail cX1_fail 2 (some .int)] ++ wsX10 ++ (vx_atM "java/lang/ArrayIndexOutOfBoundsException" ["java/lang/IndexOutOfBoundsException", "java/lang/RuntimeException", "java/lang/Exception"]).filter goodWord)
def wsX1_setRight : List Cond := .code yX1_setRight cX1_setRight 5 (some .boolean) :: ([.fieldLink RX1 45 "IntervalSolverModel" "thrown" "I", .fieldLink RX1 20 "IntervalSolverModel" "lows" "[I", .fieldLink RX1 23 "IntervalSolverModel" "highs" "[I", .methodLink RX1 58 yX1_isIndex, .instanceMethod yX1_isIndex, .selects RX1 yX1_isIndex yX1_isIndex, .initialized RX1, .code yX1_isIndex cX1_isIndex 2 (some .boolean), .fieldLink RX1 7 "IntervalSolverModel" "n" "I", .methodLink RX1 54 yX1_fail, .instanceMethod yX1_fail, .selects RX1 yX1_fail yX1_fail, .code yX1_fail cX1_fail 2 (some .int)] ++ wsX10 ++ (vx_atM "java/lang/ArrayIndexOutOfBoundsException" ["java/lang/IndexOutOfBoundsException", "java/lang/RuntimeException", "java/lang/Exception"]).filter goodWord)
def wsX1_rightLow : List Cond := .code yX1_rightLow cX1_rightLow 2 (some .int) :: ([.fieldLink RX1 45 "IntervalSolverModel" "thrown" "I", .fieldLink RX1 20 "IntervalSolverModel" "lows" "[I", .methodLink RX1 58 yX1_isIndex, .instanceMethod yX1_isIndex, .selects RX1 yX1_isIndex yX1_isIndex, .initialized RX1, .code yX1_isIndex cX1_isIndex 2 (some .boolean), .fieldLink RX1 7 "IntervalSolverModel" "n" "I", .methodLink RX1 54 yX1_fail, .instanceMethod yX1_fail, .selects RX1 yX1_fail yX1_fail, .code yX1_fail cX1_fail 2 (some .int)] ++ wsX10 ++ (vx_atM "java/lang/ArrayIndexOutOfBoundsException" ["java/lang/IndexOutOfBoundsException", "java/lang/RuntimeException", "java/lang/Exception"]).filter goodWord)
def wsX1_rightHigh : List Cond := .code yX1_rightHigh cX1_rightHigh 2 (some .int) :: ([.fieldLink RX1 45 "IntervalSolverModel" "thrown" "I", .fieldLink RX1 23 "IntervalSolverModel" "highs" "[I", .methodLink RX1 58 yX1_isIndex, .instanceMethod yX1_isIndex, .selects RX1 yX1_isIndex yX1_isIndex, .initialized RX1, .code yX1_isIndex cX1_isIndex 2 (some .boolean), .fieldLink RX1 7 "IntervalSolverModel" "n" "I", .methodLink RX1 54 yX1_fail, .instanceMethod yX1_fail, .selects RX1 yX1_fail yX1_fail, .code yX1_fail cX1_fail 2 (some .int)] ++ wsX10 ++ (vx_atM "java/lang/ArrayIndexOutOfBoundsException" ["java/lang/IndexOutOfBoundsException", "java/lang/RuntimeException", "java/lang/Exception"]).filter goodWord)
def wsX1_setSpread : List Cond := .code yX1_setSpread cX1_setSpread 5 (some .int) :: ([.fieldLink RX1 45 "IntervalSolverModel" "thrown" "I", .fieldLink RX1 17 "IntervalSolverModel" "spreads" "[I", .methodLink RX1 58 yX1_isIndex, .instanceMethod yX1_isIndex, .selects RX1 yX1_isIndex yX1_isIndex, .initialized RX1, .code yX1_isIndex cX1_isIndex 2 (some .boolean), .fieldLink RX1 7 "IntervalSolverModel" "n" "I", .methodLink RX1 54 yX1_fail, .instanceMethod yX1_fail, .selects RX1 yX1_fail yX1_fail, .code yX1_fail cX1_fail 2 (some .int), .methodLink RX1 48 yX1_at, .static yX1_at, .code yX1_at cX1_at 2 (some .int)] ++ wsX10 ++ (vx_atM "java/lang/ArrayIndexOutOfBoundsException" ["java/lang/IndexOutOfBoundsException", "java/lang/RuntimeException", "java/lang/Exception"]).filter goodWord)
def wsX1_swap : List Cond := .code yX1_swap cX1_swap 4 none :: ([] ++ (vx_atM "java/lang/ArrayIndexOutOfBoundsException" ["java/lang/IndexOutOfBoundsException", "java/lang/RuntimeException", "java/lang/Exception"]).filter goodWord)
def wsX1_swapRows : List Cond := .code yX1_swapRows cX1_swapRows 4 (some .boolean) :: ([.fieldLink RX1 45 "IntervalSolverModel" "thrown" "I", .fieldLink RX1 7 "IntervalSolverModel" "n" "I", .fieldLink RX1 13 "IntervalSolverModel" "a" "[I", .fieldLink RX1 17 "IntervalSolverModel" "spreads" "[I", .fieldLink RX1 20 "IntervalSolverModel" "lows" "[I", .fieldLink RX1 23 "IntervalSolverModel" "highs" "[I", .methodLink RX1 58 yX1_isIndex, .instanceMethod yX1_isIndex, .selects RX1 yX1_isIndex yX1_isIndex, .initialized RX1, .code yX1_isIndex cX1_isIndex 2 (some .boolean), .methodLink RX1 54 yX1_fail, .instanceMethod yX1_fail, .selects RX1 yX1_fail yX1_fail, .code yX1_fail cX1_fail 2 (some .int), .methodLink RX1 48 yX1_at, .static yX1_at, .code yX1_at cX1_at 2 (some .int), .methodLink RX1 62 yX1_swap, .static yX1_swap, .code yX1_swap cX1_swap 4 none] ++ wsX10 ++ (vx_atM "java/lang/ArrayIndexOutOfBoundsException" ["java/lang/IndexOutOfBoundsException", "java/lang/RuntimeException", "java/lang/Exception"]).filter goodWord)
def wsX1_addRow_r1 : List Cond := [Cond.fieldLink RX1 45 "IntervalSolverModel" "thrown" "I", Cond.fieldLink RX1 20 "IntervalSolverModel" "lows" "[I", Cond.fieldLink RX1 23 "IntervalSolverModel" "highs" "[I", Cond.methodLink RX1 66 Lib.Math.min.name, Cond.static Lib.Math.min.name, Cond.initialized "java/lang/Math", Cond.code Lib.Math.min.name Lib.Math.min.code 2 (some .int), Cond.methodLink RX1 71 Lib.Math.max.name, Cond.static Lib.Math.max.name, Cond.code Lib.Math.max.name Lib.Math.max.code 2 (some .int), Cond.fieldLink RX1 7 "IntervalSolverModel" "n" "I", Cond.fieldLink RX1 13 "IntervalSolverModel" "a" "[I", Cond.methodLink RX1 74 Lib.Math.abs.name, Cond.static Lib.Math.abs.name, Cond.code Lib.Math.abs.name Lib.Math.abs.code 1 (some .int), Cond.methodLink RX1 58 yX1_isIndex, Cond.instanceMethod yX1_isIndex, Cond.selects RX1 yX1_isIndex yX1_isIndex, Cond.initialized RX1, Cond.code yX1_isIndex cX1_isIndex 2 (some .boolean), Cond.methodLink RX1 54 yX1_fail, Cond.instanceMethod yX1_fail, Cond.selects RX1 yX1_fail yX1_fail, Cond.code yX1_fail cX1_fail 2 (some .int)]
def wsX1_addRow_r2 : List Cond := [Cond.methodLink RX1 48 yX1_at, Cond.static yX1_at, Cond.code yX1_at cX1_at 2 (some .int)]
def wsX1_addRow : List Cond := .code yX1_addRow cX1_addRow 9 (some .int) :: ((wsX1_addRow_r1 ++ wsX1_addRow_r2) ++ wsX10 ++ (vx_atM "java/lang/ArrayIndexOutOfBoundsException" ["java/lang/IndexOutOfBoundsException", "java/lang/RuntimeException", "java/lang/Exception"]).filter goodWord)
def wsX1_sizeOf : List Cond := .code yX1_sizeOf cX1_sizeOf 3 (some .int) :: ([])
def wsX1_determinantWithout : List Cond := .code yX1_determinantWithout cX1_determinantWithout 9 (some .long) :: ([.fieldLink RX1 7 "IntervalSolverModel" "n" "I", .fieldLink RX1 38 "IntervalSolverModel" "parts" "[J", .fieldLink RX1 13 "IntervalSolverModel" "a" "[I", .methodLink RX1 77 yX1_sizeOf, .static yX1_sizeOf, .initialized RX1, .code yX1_sizeOf cX1_sizeOf 3 (some .int), .methodLink RX1 48 yX1_at, .static yX1_at, .code yX1_at cX1_at 2 (some .int)] ++ wsX10 ++ (vx_atM "java/lang/ArrayIndexOutOfBoundsException" ["java/lang/IndexOutOfBoundsException", "java/lang/RuntimeException", "java/lang/Exception"]).filter goodWord)
def wsX1_determinant : List Cond := .code yX1_determinant cX1_determinant 1 (some .long) :: ([.fieldLink RX1 45 "IntervalSolverModel" "thrown" "I", .methodLink RX1 80 yX1_determinantWithout, .instanceMethod yX1_determinantWithout, .selects RX1 yX1_determinantWithout yX1_determinantWithout, .initialized RX1, .code yX1_determinantWithout cX1_determinantWithout 9 (some .long), .fieldLink RX1 7 "IntervalSolverModel" "n" "I", .fieldLink RX1 38 "IntervalSolverModel" "parts" "[J", .fieldLink RX1 13 "IntervalSolverModel" "a" "[I", .methodLink RX1 77 yX1_sizeOf, .static yX1_sizeOf, .code yX1_sizeOf cX1_sizeOf 3 (some .int), .methodLink RX1 48 yX1_at, .static yX1_at, .code yX1_at cX1_at 2 (some .int)] ++ wsX10 ++ (vx_atM "java/lang/ArrayIndexOutOfBoundsException" ["java/lang/IndexOutOfBoundsException", "java/lang/RuntimeException", "java/lang/Exception"]).filter goodWord)
def wsX1_cofactor : List Cond := .code yX1_cofactor cX1_cofactor 3 (some .long) :: ([.methodLink RX1 80 yX1_determinantWithout, .instanceMethod yX1_determinantWithout, .selects RX1 yX1_determinantWithout yX1_determinantWithout, .initialized RX1, .code yX1_determinantWithout cX1_determinantWithout 9 (some .long), .fieldLink RX1 7 "IntervalSolverModel" "n" "I", .fieldLink RX1 38 "IntervalSolverModel" "parts" "[J", .fieldLink RX1 13 "IntervalSolverModel" "a" "[I", .methodLink RX1 77 yX1_sizeOf, .static yX1_sizeOf, .code yX1_sizeOf cX1_sizeOf 3 (some .int), .methodLink RX1 48 yX1_at, .static yX1_at, .code yX1_at cX1_at 2 (some .int)] ++ wsX10 ++ (vx_atM "java/lang/ArrayIndexOutOfBoundsException" ["java/lang/IndexOutOfBoundsException", "java/lang/RuntimeException", "java/lang/Exception"]).filter goodWord)
def wsX1_reduce : List Cond := .code yX1_reduce cX1_reduce 11 none :: ([.methodLink RX1 84 Lib.MathLoose.abs_long.x, .static Lib.MathLoose.abs_long.x, .initialized "java/lang/Math", .code Lib.MathLoose.abs_long.x Lib.MathLoose.abs_long.code 2 (some .long), .fieldLink RX1 87 "IntervalSolverModel" "numerator" "J", .fieldLink RX1 91 "IntervalSolverModel" "denominator" "J"] ++ wsX10 ++ (vx_atM "java/lang/ArithmeticException" ["java/lang/RuntimeException", "java/lang/Exception"]).filter goodWord)
def wsX1_findEnd_r1 : List Cond := [Cond.fieldLink RX1 7 "IntervalSolverModel" "n" "I", Cond.fieldLink RX1 23 "IntervalSolverModel" "highs" "[I", Cond.fieldLink RX1 20 "IntervalSolverModel" "lows" "[I", Cond.methodLink RX1 80 yX1_determinantWithout, Cond.instanceMethod yX1_determinantWithout, Cond.selects RX1 yX1_determinantWithout yX1_determinantWithout, Cond.initialized RX1, Cond.code yX1_determinantWithout cX1_determinantWithout 9 (some .long), Cond.fieldLink RX1 38 "IntervalSolverModel" "parts" "[J", Cond.fieldLink RX1 13 "IntervalSolverModel" "a" "[I", Cond.methodLink RX1 77 yX1_sizeOf, Cond.static yX1_sizeOf, Cond.code yX1_sizeOf cX1_sizeOf 3 (some .int), Cond.methodLink RX1 48 yX1_at, Cond.static yX1_at, Cond.code yX1_at cX1_at 2 (some .int), Cond.methodLink RX1 94 yX1_cofactor, Cond.instanceMethod yX1_cofactor, Cond.selects RX1 yX1_cofactor yX1_cofactor, Cond.code yX1_cofactor cX1_cofactor 3 (some .long), Cond.methodLink RX1 97 yX1_reduce, Cond.instanceMethod yX1_reduce, Cond.selects RX1 yX1_reduce yX1_reduce, Cond.code yX1_reduce cX1_reduce 11 none]
def wsX1_findEnd_r2 : List Cond := [Cond.methodLink RX1 84 Lib.MathLoose.abs_long.x, Cond.static Lib.MathLoose.abs_long.x, Cond.initialized "java/lang/Math", Cond.code Lib.MathLoose.abs_long.x Lib.MathLoose.abs_long.code 2 (some .long), Cond.fieldLink RX1 87 "IntervalSolverModel" "numerator" "J", Cond.fieldLink RX1 91 "IntervalSolverModel" "denominator" "J"]
def wsX1_findEnd : List Cond := .code yX1_findEnd cX1_findEnd 11 none :: ((wsX1_findEnd_r1 ++ wsX1_findEnd_r2) ++ wsX10 ++ (vx_atM "java/lang/ArrayIndexOutOfBoundsException" ["java/lang/IndexOutOfBoundsException", "java/lang/RuntimeException", "java/lang/Exception"]).filter goodWord ++ (vx_atM "java/lang/ArithmeticException" ["java/lang/RuntimeException", "java/lang/Exception"]).filter goodWord)
def wsX1_isSingular : List Cond := .code yX1_isSingular cX1_isSingular 1 (some .boolean) :: ([.methodLink RX1 80 yX1_determinantWithout, .instanceMethod yX1_determinantWithout, .selects RX1 yX1_determinantWithout yX1_determinantWithout, .initialized RX1, .code yX1_determinantWithout cX1_determinantWithout 9 (some .long), .fieldLink RX1 7 "IntervalSolverModel" "n" "I", .fieldLink RX1 38 "IntervalSolverModel" "parts" "[J", .fieldLink RX1 13 "IntervalSolverModel" "a" "[I", .methodLink RX1 77 yX1_sizeOf, .static yX1_sizeOf, .code yX1_sizeOf cX1_sizeOf 3 (some .int), .methodLink RX1 48 yX1_at, .static yX1_at, .code yX1_at cX1_at 2 (some .int)] ++ wsX10 ++ (vx_atM "java/lang/ArrayIndexOutOfBoundsException" ["java/lang/IndexOutOfBoundsException", "java/lang/RuntimeException", "java/lang/Exception"]).filter goodWord)
def wsX1_asks_r1 : List Cond := [Cond.fieldLink RX1 45 "IntervalSolverModel" "thrown" "I", Cond.methodLink RX1 58 yX1_isIndex, Cond.instanceMethod yX1_isIndex, Cond.selects RX1 yX1_isIndex yX1_isIndex, Cond.initialized RX1, Cond.code yX1_isIndex cX1_isIndex 2 (some .boolean), Cond.fieldLink RX1 7 "IntervalSolverModel" "n" "I", Cond.methodLink RX1 101 yX1_isSingular, Cond.instanceMethod yX1_isSingular, Cond.selects RX1 yX1_isSingular yX1_isSingular, Cond.code yX1_isSingular cX1_isSingular 1 (some .boolean), Cond.methodLink RX1 80 yX1_determinantWithout, Cond.instanceMethod yX1_determinantWithout, Cond.selects RX1 yX1_determinantWithout yX1_determinantWithout, Cond.code yX1_determinantWithout cX1_determinantWithout 9 (some .long), Cond.fieldLink RX1 38 "IntervalSolverModel" "parts" "[J", Cond.fieldLink RX1 13 "IntervalSolverModel" "a" "[I", Cond.methodLink RX1 77 yX1_sizeOf, Cond.static yX1_sizeOf, Cond.code yX1_sizeOf cX1_sizeOf 3 (some .int), Cond.methodLink RX1 48 yX1_at, Cond.static yX1_at, Cond.code yX1_at cX1_at 2 (some .int), Cond.methodLink RX1 105 yX1_findEnd]
def wsX1_asks_r2 : List Cond := [Cond.instanceMethod yX1_findEnd, Cond.selects RX1 yX1_findEnd yX1_findEnd, Cond.code yX1_findEnd cX1_findEnd 11 none, Cond.fieldLink RX1 23 "IntervalSolverModel" "highs" "[I", Cond.fieldLink RX1 20 "IntervalSolverModel" "lows" "[I", Cond.methodLink RX1 94 yX1_cofactor, Cond.instanceMethod yX1_cofactor, Cond.selects RX1 yX1_cofactor yX1_cofactor, Cond.code yX1_cofactor cX1_cofactor 3 (some .long), Cond.methodLink RX1 97 yX1_reduce, Cond.instanceMethod yX1_reduce, Cond.selects RX1 yX1_reduce yX1_reduce, Cond.code yX1_reduce cX1_reduce 11 none, Cond.methodLink RX1 84 Lib.MathLoose.abs_long.x, Cond.static Lib.MathLoose.abs_long.x, Cond.initialized "java/lang/Math", Cond.code Lib.MathLoose.abs_long.x Lib.MathLoose.abs_long.code 2 (some .long), Cond.fieldLink RX1 87 "IntervalSolverModel" "numerator" "J", Cond.fieldLink RX1 91 "IntervalSolverModel" "denominator" "J"]
def wsX1_asks : List Cond := .code yX1_asks cX1_asks 3 (some .boolean) :: ((wsX1_asks_r1 ++ wsX1_asks_r2) ++ wsX10 ++ (vx_atM "java/lang/ArrayIndexOutOfBoundsException" ["java/lang/IndexOutOfBoundsException", "java/lang/RuntimeException", "java/lang/Exception"]).filter goodWord ++ (vx_atM "java/lang/ArithmeticException" ["java/lang/RuntimeException", "java/lang/Exception"]).filter goodWord)
def wsX1_lowNumerator_r1 : List Cond := [Cond.fieldLink RX1 87 "IntervalSolverModel" "numerator" "J", Cond.methodLink RX1 109 yX1_asks, Cond.instanceMethod yX1_asks, Cond.selects RX1 yX1_asks yX1_asks, Cond.initialized RX1, Cond.code yX1_asks cX1_asks 3 (some .boolean), Cond.fieldLink RX1 45 "IntervalSolverModel" "thrown" "I", Cond.methodLink RX1 58 yX1_isIndex, Cond.instanceMethod yX1_isIndex, Cond.selects RX1 yX1_isIndex yX1_isIndex, Cond.code yX1_isIndex cX1_isIndex 2 (some .boolean), Cond.fieldLink RX1 7 "IntervalSolverModel" "n" "I", Cond.methodLink RX1 101 yX1_isSingular, Cond.instanceMethod yX1_isSingular, Cond.selects RX1 yX1_isSingular yX1_isSingular, Cond.code yX1_isSingular cX1_isSingular 1 (some .boolean), Cond.methodLink RX1 80 yX1_determinantWithout, Cond.instanceMethod yX1_determinantWithout, Cond.selects RX1 yX1_determinantWithout yX1_determinantWithout, Cond.code yX1_determinantWithout cX1_determinantWithout 9 (some .long), Cond.fieldLink RX1 38 "IntervalSolverModel" "parts" "[J", Cond.fieldLink RX1 13 "IntervalSolverModel" "a" "[I", Cond.methodLink RX1 77 yX1_sizeOf, Cond.static yX1_sizeOf]
def wsX1_lowNumerator_r2 : List Cond := [Cond.code yX1_sizeOf cX1_sizeOf 3 (some .int), Cond.methodLink RX1 48 yX1_at, Cond.static yX1_at, Cond.code yX1_at cX1_at 2 (some .int), Cond.methodLink RX1 105 yX1_findEnd, Cond.instanceMethod yX1_findEnd, Cond.selects RX1 yX1_findEnd yX1_findEnd, Cond.code yX1_findEnd cX1_findEnd 11 none, Cond.fieldLink RX1 23 "IntervalSolverModel" "highs" "[I", Cond.fieldLink RX1 20 "IntervalSolverModel" "lows" "[I", Cond.methodLink RX1 94 yX1_cofactor, Cond.instanceMethod yX1_cofactor, Cond.selects RX1 yX1_cofactor yX1_cofactor, Cond.code yX1_cofactor cX1_cofactor 3 (some .long), Cond.methodLink RX1 97 yX1_reduce, Cond.instanceMethod yX1_reduce, Cond.selects RX1 yX1_reduce yX1_reduce, Cond.code yX1_reduce cX1_reduce 11 none, Cond.methodLink RX1 84 Lib.MathLoose.abs_long.x, Cond.static Lib.MathLoose.abs_long.x, Cond.initialized "java/lang/Math", Cond.code Lib.MathLoose.abs_long.x Lib.MathLoose.abs_long.code 2 (some .long), Cond.fieldLink RX1 91 "IntervalSolverModel" "denominator" "J"]
def wsX1_lowNumerator : List Cond := .code yX1_lowNumerator cX1_lowNumerator 2 (some .long) :: ((wsX1_lowNumerator_r1 ++ wsX1_lowNumerator_r2) ++ wsX10 ++ (vx_atM "java/lang/ArrayIndexOutOfBoundsException" ["java/lang/IndexOutOfBoundsException", "java/lang/RuntimeException", "java/lang/Exception"]).filter goodWord ++ (vx_atM "java/lang/ArithmeticException" ["java/lang/RuntimeException", "java/lang/Exception"]).filter goodWord)
def wsX1_lowDenominator_r1 : List Cond := [Cond.fieldLink RX1 91 "IntervalSolverModel" "denominator" "J", Cond.methodLink RX1 109 yX1_asks, Cond.instanceMethod yX1_asks, Cond.selects RX1 yX1_asks yX1_asks, Cond.initialized RX1, Cond.code yX1_asks cX1_asks 3 (some .boolean), Cond.fieldLink RX1 45 "IntervalSolverModel" "thrown" "I", Cond.methodLink RX1 58 yX1_isIndex, Cond.instanceMethod yX1_isIndex, Cond.selects RX1 yX1_isIndex yX1_isIndex, Cond.code yX1_isIndex cX1_isIndex 2 (some .boolean), Cond.fieldLink RX1 7 "IntervalSolverModel" "n" "I", Cond.methodLink RX1 101 yX1_isSingular, Cond.instanceMethod yX1_isSingular, Cond.selects RX1 yX1_isSingular yX1_isSingular, Cond.code yX1_isSingular cX1_isSingular 1 (some .boolean), Cond.methodLink RX1 80 yX1_determinantWithout, Cond.instanceMethod yX1_determinantWithout, Cond.selects RX1 yX1_determinantWithout yX1_determinantWithout, Cond.code yX1_determinantWithout cX1_determinantWithout 9 (some .long), Cond.fieldLink RX1 38 "IntervalSolverModel" "parts" "[J", Cond.fieldLink RX1 13 "IntervalSolverModel" "a" "[I", Cond.methodLink RX1 77 yX1_sizeOf, Cond.static yX1_sizeOf]
def wsX1_lowDenominator_r2 : List Cond := [Cond.code yX1_sizeOf cX1_sizeOf 3 (some .int), Cond.methodLink RX1 48 yX1_at, Cond.static yX1_at, Cond.code yX1_at cX1_at 2 (some .int), Cond.methodLink RX1 105 yX1_findEnd, Cond.instanceMethod yX1_findEnd, Cond.selects RX1 yX1_findEnd yX1_findEnd, Cond.code yX1_findEnd cX1_findEnd 11 none, Cond.fieldLink RX1 23 "IntervalSolverModel" "highs" "[I", Cond.fieldLink RX1 20 "IntervalSolverModel" "lows" "[I", Cond.methodLink RX1 94 yX1_cofactor, Cond.instanceMethod yX1_cofactor, Cond.selects RX1 yX1_cofactor yX1_cofactor, Cond.code yX1_cofactor cX1_cofactor 3 (some .long), Cond.methodLink RX1 97 yX1_reduce, Cond.instanceMethod yX1_reduce, Cond.selects RX1 yX1_reduce yX1_reduce, Cond.code yX1_reduce cX1_reduce 11 none, Cond.methodLink RX1 84 Lib.MathLoose.abs_long.x, Cond.static Lib.MathLoose.abs_long.x, Cond.initialized "java/lang/Math", Cond.code Lib.MathLoose.abs_long.x Lib.MathLoose.abs_long.code 2 (some .long), Cond.fieldLink RX1 87 "IntervalSolverModel" "numerator" "J"]
def wsX1_lowDenominator : List Cond := .code yX1_lowDenominator cX1_lowDenominator 2 (some .long) :: ((wsX1_lowDenominator_r1 ++ wsX1_lowDenominator_r2) ++ wsX10 ++ (vx_atM "java/lang/ArrayIndexOutOfBoundsException" ["java/lang/IndexOutOfBoundsException", "java/lang/RuntimeException", "java/lang/Exception"]).filter goodWord ++ (vx_atM "java/lang/ArithmeticException" ["java/lang/RuntimeException", "java/lang/Exception"]).filter goodWord)
def wsX1_highNumerator_r1 : List Cond := [Cond.fieldLink RX1 87 "IntervalSolverModel" "numerator" "J", Cond.methodLink RX1 109 yX1_asks, Cond.instanceMethod yX1_asks, Cond.selects RX1 yX1_asks yX1_asks, Cond.initialized RX1, Cond.code yX1_asks cX1_asks 3 (some .boolean), Cond.fieldLink RX1 45 "IntervalSolverModel" "thrown" "I", Cond.methodLink RX1 58 yX1_isIndex, Cond.instanceMethod yX1_isIndex, Cond.selects RX1 yX1_isIndex yX1_isIndex, Cond.code yX1_isIndex cX1_isIndex 2 (some .boolean), Cond.fieldLink RX1 7 "IntervalSolverModel" "n" "I", Cond.methodLink RX1 101 yX1_isSingular, Cond.instanceMethod yX1_isSingular, Cond.selects RX1 yX1_isSingular yX1_isSingular, Cond.code yX1_isSingular cX1_isSingular 1 (some .boolean), Cond.methodLink RX1 80 yX1_determinantWithout, Cond.instanceMethod yX1_determinantWithout, Cond.selects RX1 yX1_determinantWithout yX1_determinantWithout, Cond.code yX1_determinantWithout cX1_determinantWithout 9 (some .long), Cond.fieldLink RX1 38 "IntervalSolverModel" "parts" "[J", Cond.fieldLink RX1 13 "IntervalSolverModel" "a" "[I", Cond.methodLink RX1 77 yX1_sizeOf, Cond.static yX1_sizeOf]
def wsX1_highNumerator_r2 : List Cond := [Cond.code yX1_sizeOf cX1_sizeOf 3 (some .int), Cond.methodLink RX1 48 yX1_at, Cond.static yX1_at, Cond.code yX1_at cX1_at 2 (some .int), Cond.methodLink RX1 105 yX1_findEnd, Cond.instanceMethod yX1_findEnd, Cond.selects RX1 yX1_findEnd yX1_findEnd, Cond.code yX1_findEnd cX1_findEnd 11 none, Cond.fieldLink RX1 23 "IntervalSolverModel" "highs" "[I", Cond.fieldLink RX1 20 "IntervalSolverModel" "lows" "[I", Cond.methodLink RX1 94 yX1_cofactor, Cond.instanceMethod yX1_cofactor, Cond.selects RX1 yX1_cofactor yX1_cofactor, Cond.code yX1_cofactor cX1_cofactor 3 (some .long), Cond.methodLink RX1 97 yX1_reduce, Cond.instanceMethod yX1_reduce, Cond.selects RX1 yX1_reduce yX1_reduce, Cond.code yX1_reduce cX1_reduce 11 none, Cond.methodLink RX1 84 Lib.MathLoose.abs_long.x, Cond.static Lib.MathLoose.abs_long.x, Cond.initialized "java/lang/Math", Cond.code Lib.MathLoose.abs_long.x Lib.MathLoose.abs_long.code 2 (some .long), Cond.fieldLink RX1 91 "IntervalSolverModel" "denominator" "J"]
def wsX1_highNumerator : List Cond := .code yX1_highNumerator cX1_highNumerator 2 (some .long) :: ((wsX1_highNumerator_r1 ++ wsX1_highNumerator_r2) ++ wsX10 ++ (vx_atM "java/lang/ArrayIndexOutOfBoundsException" ["java/lang/IndexOutOfBoundsException", "java/lang/RuntimeException", "java/lang/Exception"]).filter goodWord ++ (vx_atM "java/lang/ArithmeticException" ["java/lang/RuntimeException", "java/lang/Exception"]).filter goodWord)
def wsX1_highDenominator_r1 : List Cond := [Cond.fieldLink RX1 91 "IntervalSolverModel" "denominator" "J", Cond.methodLink RX1 109 yX1_asks, Cond.instanceMethod yX1_asks, Cond.selects RX1 yX1_asks yX1_asks, Cond.initialized RX1, Cond.code yX1_asks cX1_asks 3 (some .boolean), Cond.fieldLink RX1 45 "IntervalSolverModel" "thrown" "I", Cond.methodLink RX1 58 yX1_isIndex, Cond.instanceMethod yX1_isIndex, Cond.selects RX1 yX1_isIndex yX1_isIndex, Cond.code yX1_isIndex cX1_isIndex 2 (some .boolean), Cond.fieldLink RX1 7 "IntervalSolverModel" "n" "I", Cond.methodLink RX1 101 yX1_isSingular, Cond.instanceMethod yX1_isSingular, Cond.selects RX1 yX1_isSingular yX1_isSingular, Cond.code yX1_isSingular cX1_isSingular 1 (some .boolean), Cond.methodLink RX1 80 yX1_determinantWithout, Cond.instanceMethod yX1_determinantWithout, Cond.selects RX1 yX1_determinantWithout yX1_determinantWithout, Cond.code yX1_determinantWithout cX1_determinantWithout 9 (some .long), Cond.fieldLink RX1 38 "IntervalSolverModel" "parts" "[J", Cond.fieldLink RX1 13 "IntervalSolverModel" "a" "[I", Cond.methodLink RX1 77 yX1_sizeOf, Cond.static yX1_sizeOf]
def wsX1_highDenominator_r2 : List Cond := [Cond.code yX1_sizeOf cX1_sizeOf 3 (some .int), Cond.methodLink RX1 48 yX1_at, Cond.static yX1_at, Cond.code yX1_at cX1_at 2 (some .int), Cond.methodLink RX1 105 yX1_findEnd, Cond.instanceMethod yX1_findEnd, Cond.selects RX1 yX1_findEnd yX1_findEnd, Cond.code yX1_findEnd cX1_findEnd 11 none, Cond.fieldLink RX1 23 "IntervalSolverModel" "highs" "[I", Cond.fieldLink RX1 20 "IntervalSolverModel" "lows" "[I", Cond.methodLink RX1 94 yX1_cofactor, Cond.instanceMethod yX1_cofactor, Cond.selects RX1 yX1_cofactor yX1_cofactor, Cond.code yX1_cofactor cX1_cofactor 3 (some .long), Cond.methodLink RX1 97 yX1_reduce, Cond.instanceMethod yX1_reduce, Cond.selects RX1 yX1_reduce yX1_reduce, Cond.code yX1_reduce cX1_reduce 11 none, Cond.methodLink RX1 84 Lib.MathLoose.abs_long.x, Cond.static Lib.MathLoose.abs_long.x, Cond.initialized "java/lang/Math", Cond.code Lib.MathLoose.abs_long.x Lib.MathLoose.abs_long.code 2 (some .long), Cond.fieldLink RX1 87 "IntervalSolverModel" "numerator" "J"]
def wsX1_highDenominator : List Cond := .code yX1_highDenominator cX1_highDenominator 2 (some .long) :: ((wsX1_highDenominator_r1 ++ wsX1_highDenominator_r2) ++ wsX10 ++ (vx_atM "java/lang/ArrayIndexOutOfBoundsException" ["java/lang/IndexOutOfBoundsException", "java/lang/RuntimeException", "java/lang/Exception"]).filter goodWord ++ (vx_atM "java/lang/ArithmeticException" ["java/lang/RuntimeException", "java/lang/Exception"]).filter goodWord)
def wsX1_asksInverse_r1 : List Cond := [Cond.fieldLink RX1 45 "IntervalSolverModel" "thrown" "I", Cond.methodLink RX1 58 yX1_isIndex, Cond.instanceMethod yX1_isIndex, Cond.selects RX1 yX1_isIndex yX1_isIndex, Cond.initialized RX1, Cond.code yX1_isIndex cX1_isIndex 2 (some .boolean), Cond.fieldLink RX1 7 "IntervalSolverModel" "n" "I", Cond.methodLink RX1 101 yX1_isSingular, Cond.instanceMethod yX1_isSingular, Cond.selects RX1 yX1_isSingular yX1_isSingular, Cond.code yX1_isSingular cX1_isSingular 1 (some .boolean), Cond.methodLink RX1 80 yX1_determinantWithout, Cond.instanceMethod yX1_determinantWithout, Cond.selects RX1 yX1_determinantWithout yX1_determinantWithout, Cond.code yX1_determinantWithout cX1_determinantWithout 9 (some .long), Cond.fieldLink RX1 38 "IntervalSolverModel" "parts" "[J", Cond.fieldLink RX1 13 "IntervalSolverModel" "a" "[I", Cond.methodLink RX1 77 yX1_sizeOf, Cond.static yX1_sizeOf, Cond.code yX1_sizeOf cX1_sizeOf 3 (some .int), Cond.methodLink RX1 48 yX1_at, Cond.static yX1_at, Cond.code yX1_at cX1_at 2 (some .int), Cond.methodLink RX1 94 yX1_cofactor]
def wsX1_asksInverse_r2 : List Cond := [Cond.instanceMethod yX1_cofactor, Cond.selects RX1 yX1_cofactor yX1_cofactor, Cond.code yX1_cofactor cX1_cofactor 3 (some .long), Cond.methodLink RX1 97 yX1_reduce, Cond.instanceMethod yX1_reduce, Cond.selects RX1 yX1_reduce yX1_reduce, Cond.code yX1_reduce cX1_reduce 11 none, Cond.methodLink RX1 84 Lib.MathLoose.abs_long.x, Cond.static Lib.MathLoose.abs_long.x, Cond.initialized "java/lang/Math", Cond.code Lib.MathLoose.abs_long.x Lib.MathLoose.abs_long.code 2 (some .long), Cond.fieldLink RX1 87 "IntervalSolverModel" "numerator" "J", Cond.fieldLink RX1 91 "IntervalSolverModel" "denominator" "J"]
def wsX1_asksInverse : List Cond := .code yX1_asksInverse cX1_asksInverse 3 (some .boolean) :: ((wsX1_asksInverse_r1 ++ wsX1_asksInverse_r2) ++ wsX10 ++ (vx_atM "java/lang/ArrayIndexOutOfBoundsException" ["java/lang/IndexOutOfBoundsException", "java/lang/RuntimeException", "java/lang/Exception"]).filter goodWord ++ (vx_atM "java/lang/ArithmeticException" ["java/lang/RuntimeException", "java/lang/Exception"]).filter goodWord)
def wsX1_inverseNumerator_r1 : List Cond := [Cond.fieldLink RX1 87 "IntervalSolverModel" "numerator" "J", Cond.methodLink RX1 113 yX1_asksInverse, Cond.instanceMethod yX1_asksInverse, Cond.selects RX1 yX1_asksInverse yX1_asksInverse, Cond.initialized RX1, Cond.code yX1_asksInverse cX1_asksInverse 3 (some .boolean), Cond.fieldLink RX1 45 "IntervalSolverModel" "thrown" "I", Cond.methodLink RX1 58 yX1_isIndex, Cond.instanceMethod yX1_isIndex, Cond.selects RX1 yX1_isIndex yX1_isIndex, Cond.code yX1_isIndex cX1_isIndex 2 (some .boolean), Cond.fieldLink RX1 7 "IntervalSolverModel" "n" "I", Cond.methodLink RX1 101 yX1_isSingular, Cond.instanceMethod yX1_isSingular, Cond.selects RX1 yX1_isSingular yX1_isSingular, Cond.code yX1_isSingular cX1_isSingular 1 (some .boolean), Cond.methodLink RX1 80 yX1_determinantWithout, Cond.instanceMethod yX1_determinantWithout, Cond.selects RX1 yX1_determinantWithout yX1_determinantWithout, Cond.code yX1_determinantWithout cX1_determinantWithout 9 (some .long), Cond.fieldLink RX1 38 "IntervalSolverModel" "parts" "[J", Cond.fieldLink RX1 13 "IntervalSolverModel" "a" "[I", Cond.methodLink RX1 77 yX1_sizeOf, Cond.static yX1_sizeOf]
def wsX1_inverseNumerator_r2 : List Cond := [Cond.code yX1_sizeOf cX1_sizeOf 3 (some .int), Cond.methodLink RX1 48 yX1_at, Cond.static yX1_at, Cond.code yX1_at cX1_at 2 (some .int), Cond.methodLink RX1 94 yX1_cofactor, Cond.instanceMethod yX1_cofactor, Cond.selects RX1 yX1_cofactor yX1_cofactor, Cond.code yX1_cofactor cX1_cofactor 3 (some .long), Cond.methodLink RX1 97 yX1_reduce, Cond.instanceMethod yX1_reduce, Cond.selects RX1 yX1_reduce yX1_reduce, Cond.code yX1_reduce cX1_reduce 11 none, Cond.methodLink RX1 84 Lib.MathLoose.abs_long.x, Cond.static Lib.MathLoose.abs_long.x, Cond.initialized "java/lang/Math", Cond.code Lib.MathLoose.abs_long.x Lib.MathLoose.abs_long.code 2 (some .long), Cond.fieldLink RX1 91 "IntervalSolverModel" "denominator" "J"]
def wsX1_inverseNumerator : List Cond := .code yX1_inverseNumerator cX1_inverseNumerator 3 (some .long) :: ((wsX1_inverseNumerator_r1 ++ wsX1_inverseNumerator_r2) ++ wsX10 ++ (vx_atM "java/lang/ArrayIndexOutOfBoundsException" ["java/lang/IndexOutOfBoundsException", "java/lang/RuntimeException", "java/lang/Exception"]).filter goodWord ++ (vx_atM "java/lang/ArithmeticException" ["java/lang/RuntimeException", "java/lang/Exception"]).filter goodWord)
def wsX1_inverseDenominator_r1 : List Cond := [Cond.fieldLink RX1 91 "IntervalSolverModel" "denominator" "J", Cond.methodLink RX1 113 yX1_asksInverse, Cond.instanceMethod yX1_asksInverse, Cond.selects RX1 yX1_asksInverse yX1_asksInverse, Cond.initialized RX1, Cond.code yX1_asksInverse cX1_asksInverse 3 (some .boolean), Cond.fieldLink RX1 45 "IntervalSolverModel" "thrown" "I", Cond.methodLink RX1 58 yX1_isIndex, Cond.instanceMethod yX1_isIndex, Cond.selects RX1 yX1_isIndex yX1_isIndex, Cond.code yX1_isIndex cX1_isIndex 2 (some .boolean), Cond.fieldLink RX1 7 "IntervalSolverModel" "n" "I", Cond.methodLink RX1 101 yX1_isSingular, Cond.instanceMethod yX1_isSingular, Cond.selects RX1 yX1_isSingular yX1_isSingular, Cond.code yX1_isSingular cX1_isSingular 1 (some .boolean), Cond.methodLink RX1 80 yX1_determinantWithout, Cond.instanceMethod yX1_determinantWithout, Cond.selects RX1 yX1_determinantWithout yX1_determinantWithout, Cond.code yX1_determinantWithout cX1_determinantWithout 9 (some .long), Cond.fieldLink RX1 38 "IntervalSolverModel" "parts" "[J", Cond.fieldLink RX1 13 "IntervalSolverModel" "a" "[I", Cond.methodLink RX1 77 yX1_sizeOf, Cond.static yX1_sizeOf]
def wsX1_inverseDenominator_r2 : List Cond := [Cond.code yX1_sizeOf cX1_sizeOf 3 (some .int), Cond.methodLink RX1 48 yX1_at, Cond.static yX1_at, Cond.code yX1_at cX1_at 2 (some .int), Cond.methodLink RX1 94 yX1_cofactor, Cond.instanceMethod yX1_cofactor, Cond.selects RX1 yX1_cofactor yX1_cofactor, Cond.code yX1_cofactor cX1_cofactor 3 (some .long), Cond.methodLink RX1 97 yX1_reduce, Cond.instanceMethod yX1_reduce, Cond.selects RX1 yX1_reduce yX1_reduce, Cond.code yX1_reduce cX1_reduce 11 none, Cond.methodLink RX1 84 Lib.MathLoose.abs_long.x, Cond.static Lib.MathLoose.abs_long.x, Cond.initialized "java/lang/Math", Cond.code Lib.MathLoose.abs_long.x Lib.MathLoose.abs_long.code 2 (some .long), Cond.fieldLink RX1 87 "IntervalSolverModel" "numerator" "J"]
def wsX1_inverseDenominator : List Cond := .code yX1_inverseDenominator cX1_inverseDenominator 3 (some .long) :: ((wsX1_inverseDenominator_r1 ++ wsX1_inverseDenominator_r2) ++ wsX10 ++ (vx_atM "java/lang/ArrayIndexOutOfBoundsException" ["java/lang/IndexOutOfBoundsException", "java/lang/RuntimeException", "java/lang/Exception"]).filter goodWord ++ (vx_atM "java/lang/ArithmeticException" ["java/lang/RuntimeException", "java/lang/Exception"]).filter goodWord)
def wsX1_isSolution : List Cond := .code yX1_isSolution cX1_isSolution 11 (some .boolean) :: ([.fieldLink RX1 45 "IntervalSolverModel" "thrown" "I", .arrayClass .int, .fieldLink RX1 7 "IntervalSolverModel" "n" "I", .fieldLink RX1 13 "IntervalSolverModel" "a" "[I", .fieldLink RX1 20 "IntervalSolverModel" "lows" "[I", .fieldLink RX1 23 "IntervalSolverModel" "highs" "[I", .methodLink RX1 48 yX1_at, .static yX1_at, .initialized RX1, .code yX1_at cX1_at 2 (some .int)] ++ wsX10 ++ (vx_atM "java/lang/ArrayIndexOutOfBoundsException" ["java/lang/IndexOutOfBoundsException", "java/lang/RuntimeException", "java/lang/Exception"]).filter goodWord)
def wsX1_condition_r1 : List Cond := [Cond.fieldLink RX1 45 "IntervalSolverModel" "thrown" "I", Cond.fieldLink RX1 7 "IntervalSolverModel" "n" "I", Cond.fieldLink RX1 13 "IntervalSolverModel" "a" "[I", Cond.methodLink RX1 74 Lib.Math.abs.name, Cond.static Lib.Math.abs.name, Cond.initialized "java/lang/Math", Cond.code Lib.Math.abs.name Lib.Math.abs.code 1 (some .int), Cond.methodLink RX1 84 Lib.MathLoose.abs_long.x, Cond.static Lib.MathLoose.abs_long.x, Cond.code Lib.MathLoose.abs_long.x Lib.MathLoose.abs_long.code 2 (some .long), Cond.methodLink RX1 71 Lib.Math.max.name, Cond.static Lib.Math.max.name, Cond.code Lib.Math.max.name Lib.Math.max.code 2 (some .int), Cond.methodLink RX1 117 Lib.MathLoose.max_long.x, Cond.static Lib.MathLoose.max_long.x, Cond.code Lib.MathLoose.max_long.x Lib.MathLoose.max_long.code 4 (some .long), Cond.methodLink RX1 101 yX1_isSingular, Cond.instanceMethod yX1_isSingular, Cond.selects RX1 yX1_isSingular yX1_isSingular, Cond.initialized RX1, Cond.code yX1_isSingular cX1_isSingular 1 (some .boolean), Cond.methodLink RX1 80 yX1_determinantWithout, Cond.instanceMethod yX1_determinantWithout, Cond.selects RX1 yX1_determinantWithout yX1_determinantWithout]
def wsX1_condition_r2 : List Cond := [Cond.code yX1_determinantWithout cX1_determinantWithout 9 (some .long), Cond.fieldLink RX1 38 "IntervalSolverModel" "parts" "[J", Cond.methodLink RX1 77 yX1_sizeOf, Cond.static yX1_sizeOf, Cond.code yX1_sizeOf cX1_sizeOf 3 (some .int), Cond.methodLink RX1 48 yX1_at, Cond.static yX1_at, Cond.code yX1_at cX1_at 2 (some .int), Cond.methodLink RX1 54 yX1_fail, Cond.instanceMethod yX1_fail, Cond.selects RX1 yX1_fail yX1_fail, Cond.code yX1_fail cX1_fail 2 (some .int), Cond.methodLink RX1 94 yX1_cofactor, Cond.instanceMethod yX1_cofactor, Cond.selects RX1 yX1_cofactor yX1_cofactor, Cond.code yX1_cofactor cX1_cofactor 3 (some .long)]
def wsX1_condition : List Cond := .code yX1_condition cX1_condition 9 (some .double) :: ((wsX1_condition_r1 ++ wsX1_condition_r2) ++ wsX10 ++ (vx_atM "java/lang/ArrayIndexOutOfBoundsException" ["java/lang/IndexOutOfBoundsException", "java/lang/RuntimeException", "java/lang/Exception"]).filter goodWord)
def wsX1_findVariation_r1 : List Cond := [Cond.fieldLink RX1 7 "IntervalSolverModel" "n" "I", Cond.methodLink RX1 84 Lib.MathLoose.abs_long.x, Cond.static Lib.MathLoose.abs_long.x, Cond.initialized "java/lang/Math", Cond.code Lib.MathLoose.abs_long.x Lib.MathLoose.abs_long.code 2 (some .long), Cond.fieldLink RX1 17 "IntervalSolverModel" "spreads" "[I", Cond.methodLink RX1 117 Lib.MathLoose.max_long.x, Cond.static Lib.MathLoose.max_long.x, Cond.code Lib.MathLoose.max_long.x Lib.MathLoose.max_long.code 4 (some .long), Cond.constantLong RX1 120 (100), Cond.methodLink RX1 94 yX1_cofactor, Cond.instanceMethod yX1_cofactor, Cond.selects RX1 yX1_cofactor yX1_cofactor, Cond.initialized RX1, Cond.code yX1_cofactor cX1_cofactor 3 (some .long), Cond.methodLink RX1 80 yX1_determinantWithout, Cond.instanceMethod yX1_determinantWithout, Cond.selects RX1 yX1_determinantWithout yX1_determinantWithout, Cond.code yX1_determinantWithout cX1_determinantWithout 9 (some .long), Cond.fieldLink RX1 38 "IntervalSolverModel" "parts" "[J", Cond.fieldLink RX1 13 "IntervalSolverModel" "a" "[I", Cond.methodLink RX1 77 yX1_sizeOf, Cond.static yX1_sizeOf, Cond.code yX1_sizeOf cX1_sizeOf 3 (some .int)]
def wsX1_findVariation_r2 : List Cond := [Cond.methodLink RX1 48 yX1_at, Cond.static yX1_at, Cond.code yX1_at cX1_at 2 (some .int), Cond.methodLink RX1 97 yX1_reduce, Cond.instanceMethod yX1_reduce, Cond.selects RX1 yX1_reduce yX1_reduce, Cond.code yX1_reduce cX1_reduce 11 none, Cond.fieldLink RX1 87 "IntervalSolverModel" "numerator" "J", Cond.fieldLink RX1 91 "IntervalSolverModel" "denominator" "J"]
def wsX1_findVariation : List Cond := .code yX1_findVariation cX1_findVariation 8 none :: ((wsX1_findVariation_r1 ++ wsX1_findVariation_r2) ++ wsX10 ++ (vx_atM "java/lang/ArrayIndexOutOfBoundsException" ["java/lang/IndexOutOfBoundsException", "java/lang/RuntimeException", "java/lang/Exception"]).filter goodWord ++ (vx_atM "java/lang/ArithmeticException" ["java/lang/RuntimeException", "java/lang/Exception"]).filter goodWord)
def wsX1_variationNumerator_r1 : List Cond := [Cond.fieldLink RX1 45 "IntervalSolverModel" "thrown" "I", Cond.fieldLink RX1 87 "IntervalSolverModel" "numerator" "J", Cond.methodLink RX1 101 yX1_isSingular, Cond.instanceMethod yX1_isSingular, Cond.selects RX1 yX1_isSingular yX1_isSingular, Cond.initialized RX1, Cond.code yX1_isSingular cX1_isSingular 1 (some .boolean), Cond.methodLink RX1 80 yX1_determinantWithout, Cond.instanceMethod yX1_determinantWithout, Cond.selects RX1 yX1_determinantWithout yX1_determinantWithout, Cond.code yX1_determinantWithout cX1_determinantWithout 9 (some .long), Cond.fieldLink RX1 7 "IntervalSolverModel" "n" "I", Cond.fieldLink RX1 38 "IntervalSolverModel" "parts" "[J", Cond.fieldLink RX1 13 "IntervalSolverModel" "a" "[I", Cond.methodLink RX1 77 yX1_sizeOf, Cond.static yX1_sizeOf, Cond.code yX1_sizeOf cX1_sizeOf 3 (some .int), Cond.methodLink RX1 48 yX1_at, Cond.static yX1_at, Cond.code yX1_at cX1_at 2 (some .int), Cond.methodLink RX1 54 yX1_fail, Cond.instanceMethod yX1_fail, Cond.selects RX1 yX1_fail yX1_fail, Cond.code yX1_fail cX1_fail 2 (some .int)]
def wsX1_variationNumerator_r2 : List Cond := [Cond.methodLink RX1 122 yX1_findVariation, Cond.instanceMethod yX1_findVariation, Cond.selects RX1 yX1_findVariation yX1_findVariation, Cond.code yX1_findVariation cX1_findVariation 8 none, Cond.methodLink RX1 84 Lib.MathLoose.abs_long.x, Cond.static Lib.MathLoose.abs_long.x, Cond.initialized "java/lang/Math", Cond.code Lib.MathLoose.abs_long.x Lib.MathLoose.abs_long.code 2 (some .long), Cond.fieldLink RX1 17 "IntervalSolverModel" "spreads" "[I", Cond.methodLink RX1 117 Lib.MathLoose.max_long.x, Cond.static Lib.MathLoose.max_long.x, Cond.code Lib.MathLoose.max_long.x Lib.MathLoose.max_long.code 4 (some .long), Cond.constantLong RX1 120 (100), Cond.methodLink RX1 94 yX1_cofactor, Cond.instanceMethod yX1_cofactor, Cond.selects RX1 yX1_cofactor yX1_cofactor, Cond.code yX1_cofactor cX1_cofactor 3 (some .long), Cond.methodLink RX1 97 yX1_reduce, Cond.instanceMethod yX1_reduce, Cond.selects RX1 yX1_reduce yX1_reduce, Cond.code yX1_reduce cX1_reduce 11 none, Cond.fieldLink RX1 91 "IntervalSolverModel" "denominator" "J"]
def wsX1_variationNumerator : List Cond := .code yX1_variationNumerator cX1_variationNumerator 1 (some .long) :: ((wsX1_variationNumerator_r1 ++ wsX1_variationNumerator_r2) ++ wsX10 ++ (vx_atM "java/lang/ArrayIndexOutOfBoundsException" ["java/lang/IndexOutOfBoundsException", "java/lang/RuntimeException", "java/lang/Exception"]).filter goodWord ++ (vx_atM "java/lang/ArithmeticException" ["java/lang/RuntimeException", "java/lang/Exception"]).filter goodWord)
def wsX1_variationDenominator_r1 : List Cond := [Cond.fieldLink RX1 45 "IntervalSolverModel" "thrown" "I", Cond.fieldLink RX1 91 "IntervalSolverModel" "denominator" "J", Cond.methodLink RX1 101 yX1_isSingular, Cond.instanceMethod yX1_isSingular, Cond.selects RX1 yX1_isSingular yX1_isSingular, Cond.initialized RX1, Cond.code yX1_isSingular cX1_isSingular 1 (some .boolean), Cond.methodLink RX1 80 yX1_determinantWithout, Cond.instanceMethod yX1_determinantWithout, Cond.selects RX1 yX1_determinantWithout yX1_determinantWithout, Cond.code yX1_determinantWithout cX1_determinantWithout 9 (some .long), Cond.fieldLink RX1 7 "IntervalSolverModel" "n" "I", Cond.fieldLink RX1 38 "IntervalSolverModel" "parts" "[J", Cond.fieldLink RX1 13 "IntervalSolverModel" "a" "[I", Cond.methodLink RX1 77 yX1_sizeOf, Cond.static yX1_sizeOf, Cond.code yX1_sizeOf cX1_sizeOf 3 (some .int), Cond.methodLink RX1 48 yX1_at, Cond.static yX1_at, Cond.code yX1_at cX1_at 2 (some .int), Cond.methodLink RX1 54 yX1_fail, Cond.instanceMethod yX1_fail, Cond.selects RX1 yX1_fail yX1_fail, Cond.code yX1_fail cX1_fail 2 (some .int)]
def wsX1_variationDenominator_r2 : List Cond := [Cond.methodLink RX1 122 yX1_findVariation, Cond.instanceMethod yX1_findVariation, Cond.selects RX1 yX1_findVariation yX1_findVariation, Cond.code yX1_findVariation cX1_findVariation 8 none, Cond.methodLink RX1 84 Lib.MathLoose.abs_long.x, Cond.static Lib.MathLoose.abs_long.x, Cond.initialized "java/lang/Math", Cond.code Lib.MathLoose.abs_long.x Lib.MathLoose.abs_long.code 2 (some .long), Cond.fieldLink RX1 17 "IntervalSolverModel" "spreads" "[I", Cond.methodLink RX1 117 Lib.MathLoose.max_long.x, Cond.static Lib.MathLoose.max_long.x, Cond.code Lib.MathLoose.max_long.x Lib.MathLoose.max_long.code 4 (some .long), Cond.constantLong RX1 120 (100), Cond.methodLink RX1 94 yX1_cofactor, Cond.instanceMethod yX1_cofactor, Cond.selects RX1 yX1_cofactor yX1_cofactor, Cond.code yX1_cofactor cX1_cofactor 3 (some .long), Cond.methodLink RX1 97 yX1_reduce, Cond.instanceMethod yX1_reduce, Cond.selects RX1 yX1_reduce yX1_reduce, Cond.code yX1_reduce cX1_reduce 11 none, Cond.fieldLink RX1 87 "IntervalSolverModel" "numerator" "J"]
def wsX1_variationDenominator : List Cond := .code yX1_variationDenominator cX1_variationDenominator 1 (some .long) :: ((wsX1_variationDenominator_r1 ++ wsX1_variationDenominator_r2) ++ wsX10 ++ (vx_atM "java/lang/ArrayIndexOutOfBoundsException" ["java/lang/IndexOutOfBoundsException", "java/lang/RuntimeException", "java/lang/Exception"]).filter goodWord ++ (vx_atM "java/lang/ArithmeticException" ["java/lang/RuntimeException", "java/lang/Exception"]).filter goodWord)
def wsX1_isSafe_r1 : List Cond := [Cond.fieldLink RX1 45 "IntervalSolverModel" "thrown" "I", Cond.fieldLink RX1 87 "IntervalSolverModel" "numerator" "J", Cond.fieldLink RX1 91 "IntervalSolverModel" "denominator" "J", Cond.methodLink RX1 101 yX1_isSingular, Cond.instanceMethod yX1_isSingular, Cond.selects RX1 yX1_isSingular yX1_isSingular, Cond.initialized RX1, Cond.code yX1_isSingular cX1_isSingular 1 (some .boolean), Cond.methodLink RX1 80 yX1_determinantWithout, Cond.instanceMethod yX1_determinantWithout, Cond.selects RX1 yX1_determinantWithout yX1_determinantWithout, Cond.code yX1_determinantWithout cX1_determinantWithout 9 (some .long), Cond.fieldLink RX1 7 "IntervalSolverModel" "n" "I", Cond.fieldLink RX1 38 "IntervalSolverModel" "parts" "[J", Cond.fieldLink RX1 13 "IntervalSolverModel" "a" "[I", Cond.methodLink RX1 77 yX1_sizeOf, Cond.static yX1_sizeOf, Cond.code yX1_sizeOf cX1_sizeOf 3 (some .int), Cond.methodLink RX1 48 yX1_at, Cond.static yX1_at, Cond.code yX1_at cX1_at 2 (some .int), Cond.methodLink RX1 122 yX1_findVariation, Cond.instanceMethod yX1_findVariation, Cond.selects RX1 yX1_findVariation yX1_findVariation]
def wsX1_isSafe_r2 : List Cond := [Cond.code yX1_findVariation cX1_findVariation 8 none, Cond.methodLink RX1 84 Lib.MathLoose.abs_long.x, Cond.static Lib.MathLoose.abs_long.x, Cond.initialized "java/lang/Math", Cond.code Lib.MathLoose.abs_long.x Lib.MathLoose.abs_long.code 2 (some .long), Cond.fieldLink RX1 17 "IntervalSolverModel" "spreads" "[I", Cond.methodLink RX1 117 Lib.MathLoose.max_long.x, Cond.static Lib.MathLoose.max_long.x, Cond.code Lib.MathLoose.max_long.x Lib.MathLoose.max_long.code 4 (some .long), Cond.constantLong RX1 120 (100), Cond.methodLink RX1 94 yX1_cofactor, Cond.instanceMethod yX1_cofactor, Cond.selects RX1 yX1_cofactor yX1_cofactor, Cond.code yX1_cofactor cX1_cofactor 3 (some .long), Cond.methodLink RX1 97 yX1_reduce, Cond.instanceMethod yX1_reduce, Cond.selects RX1 yX1_reduce yX1_reduce, Cond.code yX1_reduce cX1_reduce 11 none]
def wsX1_isSafe : List Cond := .code yX1_isSafe cX1_isSafe 1 (some .boolean) :: ((wsX1_isSafe_r1 ++ wsX1_isSafe_r2) ++ wsX10 ++ (vx_atM "java/lang/ArrayIndexOutOfBoundsException" ["java/lang/IndexOutOfBoundsException", "java/lang/RuntimeException", "java/lang/Exception"]).filter goodWord ++ (vx_atM "java/lang/ArithmeticException" ["java/lang/RuntimeException", "java/lang/Exception"]).filter goodWord)
def wsX1_isDominant : List Cond := .code yX1_isDominant cX1_isDominant 6 (some .boolean) :: ([.fieldLink RX1 45 "IntervalSolverModel" "thrown" "I", .fieldLink RX1 7 "IntervalSolverModel" "n" "I", .fieldLink RX1 13 "IntervalSolverModel" "a" "[I", .methodLink RX1 74 Lib.Math.abs.name, .static Lib.Math.abs.name, .initialized "java/lang/Math", .code Lib.Math.abs.name Lib.Math.abs.code 1 (some .int), .fieldLink RX1 17 "IntervalSolverModel" "spreads" "[I", .methodLink RX1 48 yX1_at, .static yX1_at, .initialized RX1, .code yX1_at cX1_at 2 (some .int)] ++ wsX10 ++ (vx_atM "java/lang/ArrayIndexOutOfBoundsException" ["java/lang/IndexOutOfBoundsException", "java/lang/RuntimeException", "java/lang/Exception"]).filter goodWord)
def wsX1_setBox : List Cond := .code yX1_setBox cX1_setBox 5 (some .boolean) :: ([.fieldLink RX1 45 "IntervalSolverModel" "thrown" "I", .constant RX1 52 (-1000000000), .constant RX1 53 (1000000000), .fieldLink RX1 26 "IntervalSolverModel" "boxLows" "[I", .fieldLink RX1 29 "IntervalSolverModel" "boxHighs" "[I", .methodLink RX1 58 yX1_isIndex, .instanceMethod yX1_isIndex, .selects RX1 yX1_isIndex yX1_isIndex, .initialized RX1, .code yX1_isIndex cX1_isIndex 2 (some .boolean), .fieldLink RX1 7 "IntervalSolverModel" "n" "I", .methodLink RX1 54 yX1_fail, .instanceMethod yX1_fail, .selects RX1 yX1_fail yX1_fail, .code yX1_fail cX1_fail 2 (some .int)] ++ wsX10 ++ (vx_atM "java/lang/ArrayIndexOutOfBoundsException" ["java/lang/IndexOutOfBoundsException", "java/lang/RuntimeException", "java/lang/Exception"]).filter goodWord)
def wsX1_boxLow : List Cond := .code yX1_boxLow cX1_boxLow 2 (some .int) :: ([.fieldLink RX1 45 "IntervalSolverModel" "thrown" "I", .fieldLink RX1 26 "IntervalSolverModel" "boxLows" "[I", .methodLink RX1 58 yX1_isIndex, .instanceMethod yX1_isIndex, .selects RX1 yX1_isIndex yX1_isIndex, .initialized RX1, .code yX1_isIndex cX1_isIndex 2 (some .boolean), .fieldLink RX1 7 "IntervalSolverModel" "n" "I", .methodLink RX1 54 yX1_fail, .instanceMethod yX1_fail, .selects RX1 yX1_fail yX1_fail, .code yX1_fail cX1_fail 2 (some .int)] ++ wsX10 ++ (vx_atM "java/lang/ArrayIndexOutOfBoundsException" ["java/lang/IndexOutOfBoundsException", "java/lang/RuntimeException", "java/lang/Exception"]).filter goodWord)
def wsX1_boxHigh : List Cond := .code yX1_boxHigh cX1_boxHigh 2 (some .int) :: ([.fieldLink RX1 45 "IntervalSolverModel" "thrown" "I", .fieldLink RX1 29 "IntervalSolverModel" "boxHighs" "[I", .methodLink RX1 58 yX1_isIndex, .instanceMethod yX1_isIndex, .selects RX1 yX1_isIndex yX1_isIndex, .initialized RX1, .code yX1_isIndex cX1_isIndex 2 (some .boolean), .fieldLink RX1 7 "IntervalSolverModel" "n" "I", .methodLink RX1 54 yX1_fail, .instanceMethod yX1_fail, .selects RX1 yX1_fail yX1_fail, .code yX1_fail cX1_fail 2 (some .int)] ++ wsX10 ++ (vx_atM "java/lang/ArrayIndexOutOfBoundsException" ["java/lang/IndexOutOfBoundsException", "java/lang/RuntimeException", "java/lang/Exception"]).filter goodWord)
def wsX1_down : List Cond := .code yX1_down cX1_down 6 (some .long) :: ([] ++ (vx_atM "java/lang/ArithmeticException" ["java/lang/RuntimeException", "java/lang/Exception"]).filter goodWord)
def wsX1_up : List Cond := .code yX1_up cX1_up 4 (some .long) :: ([.methodLink RX1 125 yX1_down, .static yX1_down, .initialized RX1, .code yX1_down cX1_down 6 (some .long)] ++ (vx_atM "java/lang/ArithmeticException" ["java/lang/RuntimeException", "java/lang/Exception"]).filter goodWord)
def wsX1_keep : List Cond := .code yX1_keep cX1_keep 2 none :: ([.fieldLink RX1 7 "IntervalSolverModel" "n" "I", .fieldLink RX1 32 "IntervalSolverModel" "formerLows" "[I", .fieldLink RX1 26 "IntervalSolverModel" "boxLows" "[I", .fieldLink RX1 35 "IntervalSolverModel" "formerHighs" "[I", .fieldLink RX1 29 "IntervalSolverModel" "boxHighs" "[I"] ++ wsX10 ++ (vx_atM "java/lang/ArrayIndexOutOfBoundsException" ["java/lang/IndexOutOfBoundsException", "java/lang/RuntimeException", "java/lang/Exception"]).filter goodWord)
def wsX1_judge : List Cond := .code yX1_judge cX1_judge 4 (some .int) :: ([.fieldLink RX1 7 "IntervalSolverModel" "n" "I", .fieldLink RX1 26 "IntervalSolverModel" "boxLows" "[I", .fieldLink RX1 32 "IntervalSolverModel" "formerLows" "[I", .fieldLink RX1 29 "IntervalSolverModel" "boxHighs" "[I", .fieldLink RX1 35 "IntervalSolverModel" "formerHighs" "[I"] ++ wsX10 ++ (vx_atM "java/lang/ArrayIndexOutOfBoundsException" ["java/lang/IndexOutOfBoundsException", "java/lang/RuntimeException", "java/lang/Exception"]).filter goodWord)
def wsX1_cut : List Cond := .code yX1_cut cX1_cut 10 (some .boolean) :: ([.fieldLink RX1 26 "IntervalSolverModel" "boxLows" "[I", .methodLink RX1 117 Lib.MathLoose.max_long.x, .static Lib.MathLoose.max_long.x, .initialized "java/lang/Math", .code Lib.MathLoose.max_long.x Lib.MathLoose.max_long.code 4 (some .long), .fieldLink RX1 29 "IntervalSolverModel" "boxHighs" "[I", .methodLink RX1 128 Lib.MathLoose.min_long.x, .static Lib.MathLoose.min_long.x, .code Lib.MathLoose.min_long.x Lib.MathLoose.min_long.code 4 (some .long)] ++ wsX10 ++ (vx_atM "java/lang/ArrayIndexOutOfBoundsException" ["java/lang/IndexOutOfBoundsException", "java/lang/RuntimeException", "java/lang/Exception"]).filter goodWord)
def wsX1_cutByRow_r1 : List Cond := [Cond.constantLong RX1 130 (1024), Cond.fieldLink RX1 20 "IntervalSolverModel" "lows" "[I", Cond.fieldLink RX1 23 "IntervalSolverModel" "highs" "[I", Cond.fieldLink RX1 7 "IntervalSolverModel" "n" "I", Cond.fieldLink RX1 13 "IntervalSolverModel" "a" "[I", Cond.fieldLink RX1 26 "IntervalSolverModel" "boxLows" "[I", Cond.fieldLink RX1 29 "IntervalSolverModel" "boxHighs" "[I", Cond.methodLink RX1 117 Lib.MathLoose.max_long.x, Cond.static Lib.MathLoose.max_long.x, Cond.initialized "java/lang/Math", Cond.code Lib.MathLoose.max_long.x Lib.MathLoose.max_long.code 4 (some .long), Cond.methodLink RX1 128 Lib.MathLoose.min_long.x, Cond.static Lib.MathLoose.min_long.x, Cond.code Lib.MathLoose.min_long.x Lib.MathLoose.min_long.code 4 (some .long), Cond.methodLink RX1 48 yX1_at, Cond.static yX1_at, Cond.initialized RX1, Cond.code yX1_at cX1_at 2 (some .int), Cond.methodLink RX1 125 yX1_down, Cond.static yX1_down, Cond.code yX1_down cX1_down 6 (some .long), Cond.methodLink RX1 132 yX1_up, Cond.static yX1_up, Cond.code yX1_up cX1_up 4 (some .long)]
def wsX1_cutByRow_r2 : List Cond := [Cond.methodLink RX1 135 yX1_cut, Cond.instanceMethod yX1_cut, Cond.selects RX1 yX1_cut yX1_cut, Cond.code yX1_cut cX1_cut 10 (some .boolean)]
def wsX1_cutByRow : List Cond := .code yX1_cutByRow cX1_cutByRow 11 (some .boolean) :: ((wsX1_cutByRow_r1 ++ wsX1_cutByRow_r2) ++ wsX10 ++ (vx_atM "java/lang/ArrayIndexOutOfBoundsException" ["java/lang/IndexOutOfBoundsException", "java/lang/RuntimeException", "java/lang/Exception"]).filter goodWord ++ (vx_atM "java/lang/ArithmeticException" ["java/lang/RuntimeException", "java/lang/Exception"]).filter goodWord)
def wsX1_sweepOnce_r1 : List Cond := [Cond.fieldLink RX1 7 "IntervalSolverModel" "n" "I", Cond.fieldLink RX1 13 "IntervalSolverModel" "a" "[I", Cond.methodLink RX1 139 yX1_keep, Cond.instanceMethod yX1_keep, Cond.selects RX1 yX1_keep yX1_keep, Cond.initialized RX1, Cond.code yX1_keep cX1_keep 2 none, Cond.fieldLink RX1 32 "IntervalSolverModel" "formerLows" "[I", Cond.fieldLink RX1 26 "IntervalSolverModel" "boxLows" "[I", Cond.fieldLink RX1 35 "IntervalSolverModel" "formerHighs" "[I", Cond.fieldLink RX1 29 "IntervalSolverModel" "boxHighs" "[I", Cond.methodLink RX1 48 yX1_at, Cond.static yX1_at, Cond.code yX1_at cX1_at 2 (some .int), Cond.methodLink RX1 142 yX1_cutByRow, Cond.instanceMethod yX1_cutByRow, Cond.selects RX1 yX1_cutByRow yX1_cutByRow, Cond.code yX1_cutByRow cX1_cutByRow 11 (some .boolean), Cond.constantLong RX1 130 (1024), Cond.fieldLink RX1 20 "IntervalSolverModel" "lows" "[I", Cond.fieldLink RX1 23 "IntervalSolverModel" "highs" "[I", Cond.methodLink RX1 117 Lib.MathLoose.max_long.x, Cond.static Lib.MathLoose.max_long.x, Cond.initialized "java/lang/Math"]
def wsX1_sweepOnce_r2 : List Cond := [Cond.code Lib.MathLoose.max_long.x Lib.MathLoose.max_long.code 4 (some .long), Cond.methodLink RX1 128 Lib.MathLoose.min_long.x, Cond.static Lib.MathLoose.min_long.x, Cond.code Lib.MathLoose.min_long.x Lib.MathLoose.min_long.code 4 (some .long), Cond.methodLink RX1 125 yX1_down, Cond.static yX1_down, Cond.code yX1_down cX1_down 6 (some .long), Cond.methodLink RX1 132 yX1_up, Cond.static yX1_up, Cond.code yX1_up cX1_up 4 (some .long), Cond.methodLink RX1 135 yX1_cut, Cond.instanceMethod yX1_cut, Cond.selects RX1 yX1_cut yX1_cut, Cond.code yX1_cut cX1_cut 10 (some .boolean), Cond.methodLink RX1 145 yX1_judge, Cond.instanceMethod yX1_judge, Cond.selects RX1 yX1_judge yX1_judge, Cond.code yX1_judge cX1_judge 4 (some .int)]
def wsX1_sweepOnce : List Cond := .code yX1_sweepOnce cX1_sweepOnce 2 (some .int) :: ((wsX1_sweepOnce_r1 ++ wsX1_sweepOnce_r2) ++ wsX10 ++ (vx_atM "java/lang/ArrayIndexOutOfBoundsException" ["java/lang/IndexOutOfBoundsException", "java/lang/RuntimeException", "java/lang/Exception"]).filter goodWord ++ (vx_atM "java/lang/ArithmeticException" ["java/lang/RuntimeException", "java/lang/Exception"]).filter goodWord)
def wsX1_sweep_r1 : List Cond := [Cond.fieldLink RX1 45 "IntervalSolverModel" "thrown" "I", Cond.methodLink RX1 149 yX1_sweepOnce, Cond.instanceMethod yX1_sweepOnce, Cond.selects RX1 yX1_sweepOnce yX1_sweepOnce, Cond.initialized RX1, Cond.code yX1_sweepOnce cX1_sweepOnce 2 (some .int), Cond.fieldLink RX1 7 "IntervalSolverModel" "n" "I", Cond.fieldLink RX1 13 "IntervalSolverModel" "a" "[I", Cond.methodLink RX1 139 yX1_keep, Cond.instanceMethod yX1_keep, Cond.selects RX1 yX1_keep yX1_keep, Cond.code yX1_keep cX1_keep 2 none, Cond.fieldLink RX1 32 "IntervalSolverModel" "formerLows" "[I", Cond.fieldLink RX1 26 "IntervalSolverModel" "boxLows" "[I", Cond.fieldLink RX1 35 "IntervalSolverModel" "formerHighs" "[I", Cond.fieldLink RX1 29 "IntervalSolverModel" "boxHighs" "[I", Cond.methodLink RX1 48 yX1_at, Cond.static yX1_at, Cond.code yX1_at cX1_at 2 (some .int), Cond.methodLink RX1 142 yX1_cutByRow, Cond.instanceMethod yX1_cutByRow, Cond.selects RX1 yX1_cutByRow yX1_cutByRow, Cond.code yX1_cutByRow cX1_cutByRow 11 (some .boolean), Cond.constantLong RX1 130 (1024)]
def wsX1_sweep_r2 : List Cond := [Cond.fieldLink RX1 20 "IntervalSolverModel" "lows" "[I", Cond.fieldLink RX1 23 "IntervalSolverModel" "highs" "[I", Cond.methodLink RX1 117 Lib.MathLoose.max_long.x, Cond.static Lib.MathLoose.max_long.x, Cond.initialized "java/lang/Math", Cond.code Lib.MathLoose.max_long.x Lib.MathLoose.max_long.code 4 (some .long), Cond.methodLink RX1 128 Lib.MathLoose.min_long.x, Cond.static Lib.MathLoose.min_long.x, Cond.code Lib.MathLoose.min_long.x Lib.MathLoose.min_long.code 4 (some .long), Cond.methodLink RX1 125 yX1_down, Cond.static yX1_down, Cond.code yX1_down cX1_down 6 (some .long), Cond.methodLink RX1 132 yX1_up, Cond.static yX1_up, Cond.code yX1_up cX1_up 4 (some .long), Cond.methodLink RX1 135 yX1_cut, Cond.instanceMethod yX1_cut, Cond.selects RX1 yX1_cut yX1_cut, Cond.code yX1_cut cX1_cut 10 (some .boolean), Cond.methodLink RX1 145 yX1_judge, Cond.instanceMethod yX1_judge, Cond.selects RX1 yX1_judge yX1_judge, Cond.code yX1_judge cX1_judge 4 (some .int)]
def wsX1_sweep : List Cond := .code yX1_sweep cX1_sweep 1 (some .int) :: ((wsX1_sweep_r1 ++ wsX1_sweep_r2) ++ wsX10 ++ (vx_atM "java/lang/ArrayIndexOutOfBoundsException" ["java/lang/IndexOutOfBoundsException", "java/lang/RuntimeException", "java/lang/Exception"]).filter goodWord ++ (vx_atM "java/lang/ArithmeticException" ["java/lang/RuntimeException", "java/lang/Exception"]).filter goodWord)
def wsX1_contract_r1 : List Cond := [Cond.fieldLink RX1 45 "IntervalSolverModel" "thrown" "I", Cond.methodLink RX1 54 yX1_fail, Cond.instanceMethod yX1_fail, Cond.selects RX1 yX1_fail yX1_fail, Cond.initialized RX1, Cond.code yX1_fail cX1_fail 2 (some .int), Cond.methodLink RX1 149 yX1_sweepOnce, Cond.instanceMethod yX1_sweepOnce, Cond.selects RX1 yX1_sweepOnce yX1_sweepOnce, Cond.code yX1_sweepOnce cX1_sweepOnce 2 (some .int), Cond.fieldLink RX1 7 "IntervalSolverModel" "n" "I", Cond.fieldLink RX1 13 "IntervalSolverModel" "a" "[I", Cond.methodLink RX1 139 yX1_keep, Cond.instanceMethod yX1_keep, Cond.selects RX1 yX1_keep yX1_keep, Cond.code yX1_keep cX1_keep 2 none, Cond.fieldLink RX1 32 "IntervalSolverModel" "formerLows" "[I", Cond.fieldLink RX1 26 "IntervalSolverModel" "boxLows" "[I", Cond.fieldLink RX1 35 "IntervalSolverModel" "formerHighs" "[I", Cond.fieldLink RX1 29 "IntervalSolverModel" "boxHighs" "[I", Cond.methodLink RX1 48 yX1_at, Cond.static yX1_at, Cond.code yX1_at cX1_at 2 (some .int), Cond.methodLink RX1 142 yX1_cutByRow]
def wsX1_contract_r2 : List Cond := [Cond.instanceMethod yX1_cutByRow, Cond.selects RX1 yX1_cutByRow yX1_cutByRow, Cond.code yX1_cutByRow cX1_cutByRow 11 (some .boolean), Cond.constantLong RX1 130 (1024), Cond.fieldLink RX1 20 "IntervalSolverModel" "lows" "[I", Cond.fieldLink RX1 23 "IntervalSolverModel" "highs" "[I", Cond.methodLink RX1 117 Lib.MathLoose.max_long.x, Cond.static Lib.MathLoose.max_long.x, Cond.initialized "java/lang/Math", Cond.code Lib.MathLoose.max_long.x Lib.MathLoose.max_long.code 4 (some .long), Cond.methodLink RX1 128 Lib.MathLoose.min_long.x, Cond.static Lib.MathLoose.min_long.x, Cond.code Lib.MathLoose.min_long.x Lib.MathLoose.min_long.code 4 (some .long), Cond.methodLink RX1 125 yX1_down, Cond.static yX1_down, Cond.code yX1_down cX1_down 6 (some .long), Cond.methodLink RX1 132 yX1_up, Cond.static yX1_up, Cond.code yX1_up cX1_up 4 (some .long), Cond.methodLink RX1 135 yX1_cut, Cond.instanceMethod yX1_cut, Cond.selects RX1 yX1_cut yX1_cut, Cond.code yX1_cut cX1_cut 10 (some .boolean), Cond.methodLink RX1 145 yX1_judge]
def wsX1_contract_r3 : List Cond := [Cond.instanceMethod yX1_judge, Cond.selects RX1 yX1_judge yX1_judge, Cond.code yX1_judge cX1_judge 4 (some .int)]
def wsX1_contract : List Cond := .code yX1_contract cX1_contract 4 (some .int) :: ((wsX1_contract_r1 ++ (wsX1_contract_r2 ++ wsX1_contract_r3)) ++ wsX10 ++ (vx_atM "java/lang/ArrayIndexOutOfBoundsException" ["java/lang/IndexOutOfBoundsException", "java/lang/RuntimeException", "java/lang/Exception"]).filter goodWord ++ (vx_atM "java/lang/ArithmeticException" ["java/lang/RuntimeException", "java/lang/Exception"]).filter goodWord)
def wsX1_sharpen_r1 : List Cond := [Cond.fieldLink RX1 45 "IntervalSolverModel" "thrown" "I", Cond.fieldLink RX1 7 "IntervalSolverModel" "n" "I", Cond.constantLong RX1 130 (1024), Cond.fieldLink RX1 87 "IntervalSolverModel" "numerator" "J", Cond.fieldLink RX1 91 "IntervalSolverModel" "denominator" "J", Cond.methodLink RX1 101 yX1_isSingular, Cond.instanceMethod yX1_isSingular, Cond.selects RX1 yX1_isSingular yX1_isSingular, Cond.initialized RX1, Cond.code yX1_isSingular cX1_isSingular 1 (some .boolean), Cond.methodLink RX1 80 yX1_determinantWithout, Cond.instanceMethod yX1_determinantWithout, Cond.selects RX1 yX1_determinantWithout yX1_determinantWithout, Cond.code yX1_determinantWithout cX1_determinantWithout 9 (some .long), Cond.fieldLink RX1 38 "IntervalSolverModel" "parts" "[J", Cond.fieldLink RX1 13 "IntervalSolverModel" "a" "[I", Cond.methodLink RX1 77 yX1_sizeOf, Cond.static yX1_sizeOf, Cond.code yX1_sizeOf cX1_sizeOf 3 (some .int), Cond.methodLink RX1 48 yX1_at, Cond.static yX1_at, Cond.code yX1_at cX1_at 2 (some .int), Cond.methodLink RX1 54 yX1_fail, Cond.instanceMethod yX1_fail]
def wsX1_sharpen_r2 : List Cond := [Cond.selects RX1 yX1_fail yX1_fail, Cond.code yX1_fail cX1_fail 2 (some .int), Cond.methodLink RX1 139 yX1_keep, Cond.instanceMethod yX1_keep, Cond.selects RX1 yX1_keep yX1_keep, Cond.code yX1_keep cX1_keep 2 none, Cond.fieldLink RX1 32 "IntervalSolverModel" "formerLows" "[I", Cond.fieldLink RX1 26 "IntervalSolverModel" "boxLows" "[I", Cond.fieldLink RX1 35 "IntervalSolverModel" "formerHighs" "[I", Cond.fieldLink RX1 29 "IntervalSolverModel" "boxHighs" "[I", Cond.methodLink RX1 105 yX1_findEnd, Cond.instanceMethod yX1_findEnd, Cond.selects RX1 yX1_findEnd yX1_findEnd, Cond.code yX1_findEnd cX1_findEnd 11 none, Cond.fieldLink RX1 23 "IntervalSolverModel" "highs" "[I", Cond.fieldLink RX1 20 "IntervalSolverModel" "lows" "[I", Cond.methodLink RX1 94 yX1_cofactor, Cond.instanceMethod yX1_cofactor, Cond.selects RX1 yX1_cofactor yX1_cofactor, Cond.code yX1_cofactor cX1_cofactor 3 (some .long), Cond.methodLink RX1 97 yX1_reduce, Cond.instanceMethod yX1_reduce, Cond.selects RX1 yX1_reduce yX1_reduce, Cond.code yX1_reduce cX1_reduce 11 none]
def wsX1_sharpen_r3 : List Cond := [Cond.methodLink RX1 84 Lib.MathLoose.abs_long.x, Cond.static Lib.MathLoose.abs_long.x, Cond.initialized "java/lang/Math", Cond.code Lib.MathLoose.abs_long.x Lib.MathLoose.abs_long.code 2 (some .long), Cond.methodLink RX1 125 yX1_down, Cond.static yX1_down, Cond.code yX1_down cX1_down 6 (some .long), Cond.methodLink RX1 132 yX1_up, Cond.static yX1_up, Cond.code yX1_up cX1_up 4 (some .long), Cond.methodLink RX1 135 yX1_cut, Cond.instanceMethod yX1_cut, Cond.selects RX1 yX1_cut yX1_cut, Cond.code yX1_cut cX1_cut 10 (some .boolean), Cond.methodLink RX1 117 Lib.MathLoose.max_long.x, Cond.static Lib.MathLoose.max_long.x, Cond.code Lib.MathLoose.max_long.x Lib.MathLoose.max_long.code 4 (some .long), Cond.methodLink RX1 128 Lib.MathLoose.min_long.x, Cond.static Lib.MathLoose.min_long.x, Cond.code Lib.MathLoose.min_long.x Lib.MathLoose.min_long.code 4 (some .long), Cond.methodLink RX1 145 yX1_judge, Cond.instanceMethod yX1_judge, Cond.selects RX1 yX1_judge yX1_judge, Cond.code yX1_judge cX1_judge 4 (some .int)]
def wsX1_sharpen : List Cond := .code yX1_sharpen cX1_sharpen 4 (some .int) :: ((wsX1_sharpen_r1 ++ (wsX1_sharpen_r2 ++ wsX1_sharpen_r3)) ++ wsX10 ++ (vx_atM "java/lang/ArrayIndexOutOfBoundsException" ["java/lang/IndexOutOfBoundsException", "java/lang/RuntimeException", "java/lang/Exception"]).filter goodWord ++ (vx_atM "java/lang/ArithmeticException" ["java/lang/RuntimeException", "java/lang/Exception"]).filter goodWord)
def wsX1_isCertified_r1 : List Cond := [Cond.fieldLink RX1 45 "IntervalSolverModel" "thrown" "I", Cond.fieldLink RX1 7 "IntervalSolverModel" "n" "I", Cond.constantLong RX1 130 (1024), Cond.fieldLink RX1 87 "IntervalSolverModel" "numerator" "J", Cond.fieldLink RX1 91 "IntervalSolverModel" "denominator" "J", Cond.fieldLink RX1 26 "IntervalSolverModel" "boxLows" "[I", Cond.fieldLink RX1 29 "IntervalSolverModel" "boxHighs" "[I", Cond.methodLink RX1 101 yX1_isSingular, Cond.instanceMethod yX1_isSingular, Cond.selects RX1 yX1_isSingular yX1_isSingular, Cond.initialized RX1, Cond.code yX1_isSingular cX1_isSingular 1 (some .boolean), Cond.methodLink RX1 80 yX1_determinantWithout, Cond.instanceMethod yX1_determinantWithout, Cond.selects RX1 yX1_determinantWithout yX1_determinantWithout, Cond.code yX1_determinantWithout cX1_determinantWithout 9 (some .long), Cond.fieldLink RX1 38 "IntervalSolverModel" "parts" "[J", Cond.fieldLink RX1 13 "IntervalSolverModel" "a" "[I", Cond.methodLink RX1 77 yX1_sizeOf, Cond.static yX1_sizeOf, Cond.code yX1_sizeOf cX1_sizeOf 3 (some .int), Cond.methodLink RX1 48 yX1_at, Cond.static yX1_at, Cond.code yX1_at cX1_at 2 (some .int)]
def wsX1_isCertified_r2 : List Cond := [Cond.methodLink RX1 54 yX1_fail, Cond.instanceMethod yX1_fail, Cond.selects RX1 yX1_fail yX1_fail, Cond.code yX1_fail cX1_fail 2 (some .int), Cond.methodLink RX1 105 yX1_findEnd, Cond.instanceMethod yX1_findEnd, Cond.selects RX1 yX1_findEnd yX1_findEnd, Cond.code yX1_findEnd cX1_findEnd 11 none, Cond.fieldLink RX1 23 "IntervalSolverModel" "highs" "[I", Cond.fieldLink RX1 20 "IntervalSolverModel" "lows" "[I", Cond.methodLink RX1 94 yX1_cofactor, Cond.instanceMethod yX1_cofactor, Cond.selects RX1 yX1_cofactor yX1_cofactor, Cond.code yX1_cofactor cX1_cofactor 3 (some .long), Cond.methodLink RX1 97 yX1_reduce, Cond.instanceMethod yX1_reduce, Cond.selects RX1 yX1_reduce yX1_reduce, Cond.code yX1_reduce cX1_reduce 11 none, Cond.methodLink RX1 84 Lib.MathLoose.abs_long.x, Cond.static Lib.MathLoose.abs_long.x, Cond.initialized "java/lang/Math", Cond.code Lib.MathLoose.abs_long.x Lib.MathLoose.abs_long.code 2 (some .long), Cond.methodLink RX1 125 yX1_down, Cond.static yX1_down]
def wsX1_isCertified_r3 : List Cond := [Cond.code yX1_down cX1_down 6 (some .long), Cond.methodLink RX1 132 yX1_up, Cond.static yX1_up, Cond.code yX1_up cX1_up 4 (some .long)]
def wsX1_isCertified : List Cond := .code yX1_isCertified cX1_isCertified 3 (some .boolean) :: ((wsX1_isCertified_r1 ++ (wsX1_isCertified_r2 ++ wsX1_isCertified_r3)) ++ wsX10 ++ (vx_atM "java/lang/ArrayIndexOutOfBoundsException" ["java/lang/IndexOutOfBoundsException", "java/lang/RuntimeException", "java/lang/Exception"]).filter goodWord ++ (vx_atM "java/lang/ArithmeticException" ["java/lang/RuntimeException", "java/lang/Exception"]).filter goodWord)
def wsX1_middle : List Cond := .code yX1_middle cX1_middle 5 (some .long) :: ([.fieldLink RX1 7 "IntervalSolverModel" "n" "I", .fieldLink RX1 13 "IntervalSolverModel" "a" "[I", .fieldLink RX1 26 "IntervalSolverModel" "boxLows" "[I", .fieldLink RX1 29 "IntervalSolverModel" "boxHighs" "[I", .methodLink RX1 48 yX1_at, .static yX1_at, .initialized RX1, .code yX1_at cX1_at 2 (some .int)] ++ wsX10 ++ (vx_atM "java/lang/ArrayIndexOutOfBoundsException" ["java/lang/IndexOutOfBoundsException", "java/lang/RuntimeException", "java/lang/Exception"]).filter goodWord)
def wsX1_residualLow : List Cond := .code yX1_residualLow cX1_residualLow 2 (some .long) :: ([.fieldLink RX1 45 "IntervalSolverModel" "thrown" "I", .constantLong RX1 157 (2048), .fieldLink RX1 23 "IntervalSolverModel" "highs" "[I", .methodLink RX1 58 yX1_isIndex, .instanceMethod yX1_isIndex, .selects RX1 yX1_isIndex yX1_isIndex, .initialized RX1, .code yX1_isIndex cX1_isIndex 2 (some .boolean), .fieldLink RX1 7 "IntervalSolverModel" "n" "I", .methodLink RX1 153 yX1_middle, .instanceMethod yX1_middle, .selects RX1 yX1_middle yX1_middle, .code yX1_middle cX1_middle 5 (some .long), .fieldLink RX1 13 "IntervalSolverModel" "a" "[I", .fieldLink RX1 26 "IntervalSolverModel" "boxLows" "[I", .fieldLink RX1 29 "IntervalSolverModel" "boxHighs" "[I", .methodLink RX1 48 yX1_at, .static yX1_at, .code yX1_at cX1_at 2 (some .int), .methodLink RX1 54 yX1_fail, .instanceMethod yX1_fail, .selects RX1 yX1_fail yX1_fail, .code yX1_fail cX1_fail 2 (some .int)] ++ wsX10 ++ (vx_atM "java/lang/ArrayIndexOutOfBoundsException" ["java/lang/IndexOutOfBoundsException", "java/lang/RuntimeException", "java/lang/Exception"]).filter goodWord)
def wsX1_residualHigh : List Cond := .code yX1_residualHigh cX1_residualHigh 2 (some .long) :: ([.fieldLink RX1 45 "IntervalSolverModel" "thrown" "I", .constantLong RX1 157 (2048), .fieldLink RX1 20 "IntervalSolverModel" "lows" "[I", .methodLink RX1 58 yX1_isIndex, .instanceMethod yX1_isIndex, .selects RX1 yX1_isIndex yX1_isIndex, .initialized RX1, .code yX1_isIndex cX1_isIndex 2 (some .boolean), .fieldLink RX1 7 "IntervalSolverModel" "n" "I", .methodLink RX1 153 yX1_middle, .instanceMethod yX1_middle, .selects RX1 yX1_middle yX1_middle, .code yX1_middle cX1_middle 5 (some .long), .fieldLink RX1 13 "IntervalSolverModel" "a" "[I", .fieldLink RX1 26 "IntervalSolverModel" "boxLows" "[I", .fieldLink RX1 29 "IntervalSolverModel" "boxHighs" "[I", .methodLink RX1 48 yX1_at, .static yX1_at, .code yX1_at cX1_at 2 (some .int), .methodLink RX1 54 yX1_fail, .instanceMethod yX1_fail, .selects RX1 yX1_fail yX1_fail, .code yX1_fail cX1_fail 2 (some .int)] ++ wsX10 ++ (vx_atM "java/lang/ArrayIndexOutOfBoundsException" ["java/lang/IndexOutOfBoundsException", "java/lang/RuntimeException", "java/lang/Exception"]).filter goodWord)
def wsX1_digest : List Cond := .code yX1_digest cX1_digest 5 (some .long) :: ([.fieldLink RX1 45 "IntervalSolverModel" "thrown" "I", .constantLong RX1 159 (1891), .fieldLink RX1 7 "IntervalSolverModel" "n" "I", .constantLong RX1 161 (31), .fieldLink RX1 13 "IntervalSolverModel" "a" "[I", .fieldLink RX1 17 "IntervalSolverModel" "spreads" "[I", .fieldLink RX1 20 "IntervalSolverModel" "lows" "[I", .fieldLink RX1 23 "IntervalSolverModel" "highs" "[I", .fieldLink RX1 26 "IntervalSolverModel" "boxLows" "[I", .fieldLink RX1 29 "IntervalSolverModel" "boxHighs" "[I", .methodLink RX1 48 yX1_at, .static yX1_at, .initialized RX1, .code yX1_at cX1_at 2 (some .int), .methodLink RX1 80 yX1_determinantWithout, .instanceMethod yX1_determinantWithout, .selects RX1 yX1_determinantWithout yX1_determinantWithout, .code yX1_determinantWithout cX1_determinantWithout 9 (some .long), .fieldLink RX1 38 "IntervalSolverModel" "parts" "[J", .methodLink RX1 77 yX1_sizeOf, .static yX1_sizeOf, .code yX1_sizeOf cX1_sizeOf 3 (some .int)] ++ wsX10 ++ (vx_atM "java/lang/ArrayIndexOutOfBoundsException" ["java/lang/IndexOutOfBoundsException", "java/lang/RuntimeException", "java/lang/Exception"]).filter goodWord)
def wsJx00060_init_a7421 : List Cond := .code yJx00060_init_a7421 cJx00060_init_a7421 2 none :: ([])
def wsJ9_abs_0f7a4 : List Cond := .code yJ9_abs_0f7a4 cJ9_abs_0f7a4 1 (some .int) :: ([])
def wsJ9_abs_067f4 : List Cond := .code yJ9_abs_067f4 cJ9_abs_067f4 2 (some .long) :: ([])
def wsJ9_max_7cf53 : List Cond := .code yJ9_max_7cf53 cJ9_max_7cf53 2 (some .int) :: ([])
def wsJ9_max_f86c9 : List Cond := .code yJ9_max_f86c9 cJ9_max_f86c9 4 (some .long) :: ([])
def wsJ9_min_7cf53 : List Cond := .code yJ9_min_7cf53 cJ9_min_7cf53 2 (some .int) :: ([])
def wsJ9_min_f86c9 : List Cond := .code yJ9_min_f86c9 cJ9_min_f86c9 4 (some .long) :: ([])
end
section
def wsL_setSize : List Cond := .codeWith yL_setSize cL_setSize 4 (some .int) [(0, 9, 12, 13)] :: ([.classLink RL 13 "java/lang/IllegalArgumentException", .methodLink RL 7 yX0_setSize, .instanceMethod yX0_setSize, .selects RX0 yX0_setSize yX0_setSize, .initialized RX0, .code yX0_setSize cX0_setSize 2 (some .int), .classLink RX0 52 "java/lang/IllegalArgumentException", .initialized "java/lang/IllegalArgumentException", .methodLink RX0 48 yX0_startSystem, .instanceMethod yX0_startSystem, .selects RX0 yX0_startSystem yX0_startSystem, .code yX0_startSystem cX0_startSystem 4 none, .fieldLink RX0 59 "IntervalSolver" "n" "I", .fieldLink RX0 11 "IntervalSolver" "coefficients" "[[I", .fieldLink RX0 14 "IntervalSolver" "spreads" "[[I", .fieldLink RX0 17 "IntervalSolver" "rightLows" "[I", .fieldLink RX0 21 "IntervalSolver" "rightHighs" "[I", .fieldLink RX0 24 "IntervalSolver" "boxLows" "[I", .constant RX0 200 (-1000000000), .fieldLink RX0 27 "IntervalSolver" "boxHighs" "[I", .constant RX0 160 (1000000000)] ++ wsX00 ++ (vx_atM "java/lang/ArrayIndexOutOfBoundsException" ["java/lang/IndexOutOfBoundsException", "java/lang/RuntimeException", "java/lang/Exception"]).filter goodWord ++ (vx_atS RX0 56 "java/lang/IllegalArgumentException" ["java/lang/RuntimeException", "java/lang/Exception"]).filter goodWord)
def wsL_setCoefficient : List Cond := .codeWith yL_setCoefficient cL_setCoefficient 6 (some .int) [(0, 12, 15, 19), (0, 12, 19, 13)] :: ([.classLink RL 19 "java/lang/IndexOutOfBoundsException", .classLink RL 13 "java/lang/IllegalArgumentException", .methodLink RL 15 yX0_setCoefficient, .instanceMethod yX0_setCoefficient, .selects RX0 yX0_setCoefficient yX0_setCoefficient, .initialized RX0, .code yX0_setCoefficient cX0_setCoefficient 5 (some .int), .classLink RX0 67 "java/lang/IndexOutOfBoundsException", .initialized "java/lang/IndexOutOfBoundsException", .classLink RX0 52 "java/lang/IllegalArgumentException", .initialized "java/lang/IllegalArgumentException", .fieldLink RX0 11 "IntervalSolver" "coefficients" "[[I", .methodLink RX0 63 yX0_isIndex, .instanceMethod yX0_isIndex, .selects RX0 yX0_isIndex yX0_isIndex, .code yX0_isIndex cX0_isIndex 2 (some .boolean), .fieldLink RX0 59 "IntervalSolver" "n" "I", .methodLink RX0 72 yX0_isWithin, .static yX0_isWithin, .code yX0_isWithin cX0_isWithin 2 (some .boolean)] ++ wsX00 ++ (vx_atM "java/lang/ArrayIndexOutOfBoundsException" ["java/lang/IndexOutOfBoundsException", "java/lang/RuntimeException", "java/lang/Exception"]).filter goodWord ++ (vx_atS RX0 71 "java/lang/IndexOutOfBoundsException" ["java/lang/RuntimeException", "java/lang/Exception"]).filter goodWord ++ (vx_atS RX0 56 "java/lang/IllegalArgumentException" ["java/lang/RuntimeException", "java/lang/Exception"]).filter goodWord)
def wsL_coefficient : List Cond := .codeWith yL_coefficient cL_coefficient 5 (some .int) [(0, 10, 13, 19)] :: ([.classLink RL 19 "java/lang/IndexOutOfBoundsException", .methodLink RL 21 yX0_coefficient, .instanceMethod yX0_coefficient, .selects RX0 yX0_coefficient yX0_coefficient, .initialized RX0, .code yX0_coefficient cX0_coefficient 3 (some .int), .classLink RX0 67 "java/lang/IndexOutOfBoundsException", .initialized "java/lang/IndexOutOfBoundsException", .fieldLink RX0 11 "IntervalSolver" "coefficients" "[[I", .methodLink RX0 63 yX0_isIndex, .instanceMethod yX0_isIndex, .selects RX0 yX0_isIndex yX0_isIndex, .code yX0_isIndex cX0_isIndex 2 (some .boolean), .fieldLink RX0 59 "IntervalSolver" "n" "I"] ++ wsX00 ++ (vx_atM "java/lang/ArrayIndexOutOfBoundsException" ["java/lang/IndexOutOfBoundsException", "java/lang/RuntimeException", "java/lang/Exception"]).filter goodWord ++ (vx_atS RX0 71 "java/lang/IndexOutOfBoundsException" ["java/lang/RuntimeException", "java/lang/Exception"]).filter goodWord)
def wsL_setRight : List Cond := .codeWith yL_setRight cL_setRight 6 (some .int) [(0, 19, 22, 19), (0, 19, 26, 13)] :: ([.classLink RL 19 "java/lang/IndexOutOfBoundsException", .classLink RL 13 "java/lang/IllegalArgumentException", .methodLink RL 25 yX0_setRight, .instanceMethod yX0_setRight, .selects RX0 yX0_setRight yX0_setRight, .initialized RX0, .code yX0_setRight cX0_setRight 5 (some .boolean), .classLink RX0 67 "java/lang/IndexOutOfBoundsException", .initialized "java/lang/IndexOutOfBoundsException", .classLink RX0 52 "java/lang/IllegalArgumentException", .initialized "java/lang/IllegalArgumentException", .fieldLink RX0 17 "IntervalSolver" "rightLows" "[I", .fieldLink RX0 21 "IntervalSolver" "rightHighs" "[I", .methodLink RX0 63 yX0_isIndex, .instanceMethod yX0_isIndex, .selects RX0 yX0_isIndex yX0_isIndex, .code yX0_isIndex cX0_isIndex 2 (some .boolean), .fieldLink RX0 59 "IntervalSolver" "n" "I", .methodLink RX0 80 yX0_isInterval, .static yX0_isInterval, .code yX0_isInterval cX0_isInterval 3 (some .boolean), .methodLink RX0 72 yX0_isWithin, .static yX0_isWithin, .code yX0_isWithin cX0_isWithin 2 (some .boolean)] ++ wsX00 ++ (vx_atM "java/lang/ArrayIndexOutOfBoundsException" ["java/lang/IndexOutOfBoundsException", "java/lang/RuntimeException", "java/lang/Exception"]).filter goodWord ++ (vx_atS RX0 71 "java/lang/IndexOutOfBoundsException" ["java/lang/RuntimeException", "java/lang/Exception"]).filter goodWord ++ (vx_atS RX0 56 "java/lang/IllegalArgumentException" ["java/lang/RuntimeException", "java/lang/Exception"]).filter goodWord)
def wsL_rightLow : List Cond := .codeWith yL_rightLow cL_rightLow 4 (some .int) [(0, 9, 12, 19)] :: ([.classLink RL 19 "java/lang/IndexOutOfBoundsException", .methodLink RL 29 yX0_rightLow, .instanceMethod yX0_rightLow, .selects RX0 yX0_rightLow yX0_rightLow, .initialized RX0, .code yX0_rightLow cX0_rightLow 2 (some .int), .classLink RX0 67 "java/lang/IndexOutOfBoundsException", .initialized "java/lang/IndexOutOfBoundsException", .fieldLink RX0 17 "IntervalSolver" "rightLows" "[I", .methodLink RX0 63 yX0_isIndex, .instanceMethod yX0_isIndex, .selects RX0 yX0_isIndex yX0_isIndex, .code yX0_isIndex cX0_isIndex 2 (some .boolean), .fieldLink RX0 59 "IntervalSolver" "n" "I"] ++ wsX00 ++ (vx_atM "java/lang/ArrayIndexOutOfBoundsException" ["java/lang/IndexOutOfBoundsException", "java/lang/RuntimeException", "java/lang/Exception"]).filter goodWord ++ (vx_atS RX0 71 "java/lang/IndexOutOfBoundsException" ["java/lang/RuntimeException", "java/lang/Exception"]).filter goodWord)
def wsL_rightHigh : List Cond := .codeWith yL_rightHigh cL_rightHigh 4 (some .int) [(0, 9, 12, 19)] :: ([.classLink RL 19 "java/lang/IndexOutOfBoundsException", .methodLink RL 32 yX0_rightHigh, .instanceMethod yX0_rightHigh, .selects RX0 yX0_rightHigh yX0_rightHigh, .initialized RX0, .code yX0_rightHigh cX0_rightHigh 2 (some .int), .classLink RX0 67 "java/lang/IndexOutOfBoundsException", .initialized "java/lang/IndexOutOfBoundsException", .fieldLink RX0 21 "IntervalSolver" "rightHighs" "[I", .methodLink RX0 63 yX0_isIndex, .instanceMethod yX0_isIndex, .selects RX0 yX0_isIndex yX0_isIndex, .code yX0_isIndex cX0_isIndex 2 (some .boolean), .fieldLink RX0 59 "IntervalSolver" "n" "I"] ++ wsX00 ++ (vx_atM "java/lang/ArrayIndexOutOfBoundsException" ["java/lang/IndexOutOfBoundsException", "java/lang/RuntimeException", "java/lang/Exception"]).filter goodWord ++ (vx_atS RX0 71 "java/lang/IndexOutOfBoundsException" ["java/lang/RuntimeException", "java/lang/Exception"]).filter goodWord)
def wsL_setSpread : List Cond := .codeWith yL_setSpread cL_setSpread 6 (some .int) [(0, 12, 15, 19), (0, 12, 19, 13)] :: ([.classLink RL 19 "java/lang/IndexOutOfBoundsException", .classLink RL 13 "java/lang/IllegalArgumentException", .methodLink RL 35 yX0_setSpread, .instanceMethod yX0_setSpread, .selects RX0 yX0_setSpread yX0_setSpread, .initialized RX0, .code yX0_setSpread cX0_setSpread 5 (some .int), .classLink RX0 67 "java/lang/IndexOutOfBoundsException", .initialized "java/lang/IndexOutOfBoundsException", .classLink RX0 52 "java/lang/IllegalArgumentException", .initialized "java/lang/IllegalArgumentException", .fieldLink RX0 14 "IntervalSolver" "spreads" "[[I", .methodLink RX0 63 yX0_isIndex, .instanceMethod yX0_isIndex, .selects RX0 yX0_isIndex yX0_isIndex, .code yX0_isIndex cX0_isIndex 2 (some .boolean), .fieldLink RX0 59 "IntervalSolver" "n" "I"] ++ wsX00 ++ (vx_atM "java/lang/ArrayIndexOutOfBoundsException" ["java/lang/IndexOutOfBoundsException", "java/lang/RuntimeException", "java/lang/Exception"]).filter goodWord ++ (vx_atS RX0 71 "java/lang/IndexOutOfBoundsException" ["java/lang/RuntimeException", "java/lang/Exception"]).filter goodWord ++ (vx_atS RX0 56 "java/lang/IllegalArgumentException" ["java/lang/RuntimeException", "java/lang/Exception"]).filter goodWord)
def wsL_swapRows : List Cond := .codeWith yL_swapRows cL_swapRows 5 (some .int) [(0, 17, 20, 19)] :: ([.classLink RL 19 "java/lang/IndexOutOfBoundsException", .methodLink RL 38 yX0_swapRows, .instanceMethod yX0_swapRows, .selects RX0 yX0_swapRows yX0_swapRows, .initialized RX0, .code yX0_swapRows cX0_swapRows 6 (some .boolean), .classLink RX0 67 "java/lang/IndexOutOfBoundsException", .initialized "java/lang/IndexOutOfBoundsException", .fieldLink RX0 59 "IntervalSolver" "n" "I", .fieldLink RX0 11 "IntervalSolver" "coefficients" "[[I", .fieldLink RX0 14 "IntervalSolver" "spreads" "[[I", .fieldLink RX0 17 "IntervalSolver" "rightLows" "[I", .fieldLink RX0 21 "IntervalSolver" "rightHighs" "[I", .methodLink RX0 63 yX0_isIndex, .instanceMethod yX0_isIndex, .selects RX0 yX0_isIndex yX0_isIndex, .code yX0_isIndex cX0_isIndex 2 (some .boolean), .methodLink RX0 88 yX0_exchange, .static yX0_exchange, .code yX0_exchange cX0_exchange 4 none] ++ wsX00 ++ (vx_atM "java/lang/ArrayIndexOutOfBoundsException" ["java/lang/IndexOutOfBoundsException", "java/lang/RuntimeException", "java/lang/Exception"]).filter goodWord ++ (vx_atS RX0 71 "java/lang/IndexOutOfBoundsException" ["java/lang/RuntimeException", "java/lang/Exception"]).filter goodWord)
def wsL_addRow_r1 : List Cond := [Cond.classLink RL 19 "java/lang/IndexOutOfBoundsException", Cond.classLink RL 13 "java/lang/IllegalArgumentException", Cond.classLink RL 45 "java/lang/ArithmeticException", Cond.methodLink RL 42 yX0_addRow, Cond.instanceMethod yX0_addRow, Cond.selects RX0 yX0_addRow yX0_addRow, Cond.initialized RX0, Cond.code yX0_addRow cX0_addRow 6 (some .int), Cond.classLink RX0 67 "java/lang/IndexOutOfBoundsException", Cond.initialized "java/lang/IndexOutOfBoundsException", Cond.classLink RX0 52 "java/lang/IllegalArgumentException", Cond.initialized "java/lang/IllegalArgumentException", Cond.classLink RX0 104 "java/lang/ArithmeticException", Cond.initialized "java/lang/ArithmeticException", Cond.fieldLink RX0 17 "IntervalSolver" "rightLows" "[I", Cond.fieldLink RX0 21 "IntervalSolver" "rightHighs" "[I", Cond.methodLink RX0 63 yX0_isIndex, Cond.instanceMethod yX0_isIndex, Cond.selects RX0 yX0_isIndex yX0_isIndex, Cond.code yX0_isIndex cX0_isIndex 2 (some .boolean), Cond.fieldLink RX0 59 "IntervalSolver" "n" "I", Cond.methodLink RX0 72 yX0_isWithin, Cond.static yX0_isWithin, Cond.code yX0_isWithin cX0_isWithin 2 (some .boolean)]
def wsL_addRow_r2 : List Cond := [Cond.methodLink RX0 94 yX0_productLow, Cond.static yX0_productLow, Cond.code yX0_productLow cX0_productLow 3 (some .int), Cond.methodLink RX0 98 yX0_productHigh, Cond.static yX0_productHigh, Cond.code yX0_productHigh cX0_productHigh 3 (some .int), Cond.methodLink RX0 80 yX0_isInterval, Cond.static yX0_isInterval, Cond.code yX0_isInterval cX0_isInterval 3 (some .boolean), Cond.methodLink RX0 101 yX0_coefficientsFit, Cond.instanceMethod yX0_coefficientsFit, Cond.selects RX0 yX0_coefficientsFit yX0_coefficientsFit, Cond.code yX0_coefficientsFit cX0_coefficientsFit 5 (some .boolean), Cond.fieldLink RX0 11 "IntervalSolver" "coefficients" "[[I", Cond.methodLink RX0 109 yX0_addCoefficients, Cond.instanceMethod yX0_addCoefficients, Cond.selects RX0 yX0_addCoefficients yX0_addCoefficients, Cond.code yX0_addCoefficients cX0_addCoefficients 7 (some .int)]
def wsL_addRow : List Cond := .codeWith yL_addRow cL_addRow 6 (some .int) [(0, 12, 15, 19), (0, 12, 19, 13), (0, 12, 23, 45)] :: ((wsL_addRow_r1 ++ wsL_addRow_r2) ++ wsX00 ++ (vx_atM "java/lang/ArrayIndexOutOfBoundsException" ["java/lang/IndexOutOfBoundsException", "java/lang/RuntimeException", "java/lang/Exception"]).filter goodWord ++ (vx_atS RX0 71 "java/lang/IndexOutOfBoundsException" ["java/lang/RuntimeException", "java/lang/Exception"]).filter goodWord ++ (vx_atS RX0 56 "java/lang/IllegalArgumentException" ["java/lang/RuntimeException", "java/lang/Exception"]).filter goodWord ++ (vx_atS RX0 108 "java/lang/ArithmeticException" ["java/lang/RuntimeException", "java/lang/Exception"]).filter goodWord)
def wsL_lowNumerator_r1 : List Cond := [Cond.classLink RL 19 "java/lang/IndexOutOfBoundsException", Cond.classLink RL 45 "java/lang/ArithmeticException", Cond.methodLink RL 47 yX0_lowNumerator, Cond.instanceMethod yX0_lowNumerator, Cond.selects RX0 yX0_lowNumerator yX0_lowNumerator, Cond.initialized RX0, Cond.code yX0_lowNumerator cX0_lowNumerator 2 (some .long), Cond.classLink RX0 67 "java/lang/IndexOutOfBoundsException", Cond.initialized "java/lang/IndexOutOfBoundsException", Cond.classLink RX0 104 "java/lang/ArithmeticException", Cond.initialized "java/lang/ArithmeticException", Cond.fieldLink RX0 131 "IntervalSolver" "scale" "J", Cond.methodLink RX0 63 yX0_isIndex, Cond.instanceMethod yX0_isIndex, Cond.selects RX0 yX0_isIndex yX0_isIndex, Cond.code yX0_isIndex cX0_isIndex 2 (some .boolean), Cond.fieldLink RX0 59 "IntervalSolver" "n" "I", Cond.methodLink RX0 121 yX0_invert, Cond.instanceMethod yX0_invert, Cond.selects RX0 yX0_invert yX0_invert, Cond.code yX0_invert cX0_invert 7 (some .boolean), Cond.methodLink RX0 148 Lib.MathLoose.abs_long.x, Cond.static Lib.MathLoose.abs_long.x, Cond.initialized "java/lang/Math"]
def wsL_lowNumerator_r2 : List Cond := [Cond.code Lib.MathLoose.abs_long.x Lib.MathLoose.abs_long.code 2 (some .long), Cond.constantLong RX0 210 (-1), Cond.fieldLink RX0 45 "IntervalSolver" "scaledInverse" "[[J", Cond.fieldLink RX0 36 "IntervalSolver" "minors" "[J", Cond.methodLink RX0 197 yX0_determinant, Cond.instanceMethod yX0_determinant, Cond.selects RX0 yX0_determinant yX0_determinant, Cond.code yX0_determinant cX0_determinant 1 (some .long), Cond.methodLink RX0 112 yX0_findMinors, Cond.instanceMethod yX0_findMinors, Cond.selects RX0 yX0_findMinors yX0_findMinors, Cond.code yX0_findMinors cX0_findMinors 4 none, Cond.methodLink RX0 115 yX0_allColumns, Cond.instanceMethod yX0_allColumns, Cond.selects RX0 yX0_allColumns yX0_allColumns, Cond.code yX0_allColumns cX0_allColumns 1 (some .int), Cond.methodLink RX0 201 yJ6_bitCount_0f7a4, Cond.static yJ6_bitCount_0f7a4, Cond.initialized RJ6, Cond.code yJ6_bitCount_0f7a4 cJ6_bitCount_0f7a4 1 (some .int), Cond.constant RJ6 265 (1431655765), Cond.constant RJ6 266 (858993459), Cond.constant RJ6 267 (252645135), Cond.methodLink RX0 206 yX0_expanded]
def wsL_lowNumerator_r3 : List Cond := [Cond.instanceMethod yX0_expanded, Cond.selects RX0 yX0_expanded yX0_expanded, Cond.code yX0_expanded cX0_expanded 9 (some .long), Cond.fieldLink RX0 11 "IntervalSolver" "coefficients" "[[I", Cond.methodLink RX0 127 yX0_scaledHullLow, Cond.instanceMethod yX0_scaledHullLow, Cond.selects RX0 yX0_scaledHullLow yX0_scaledHullLow, Cond.code yX0_scaledHullLow cX0_scaledHullLow 7 (some .long), Cond.fieldLink RX0 21 "IntervalSolver" "rightHighs" "[I", Cond.fieldLink RX0 17 "IntervalSolver" "rightLows" "[I", Cond.methodLink RX0 135 yX0_reduced, Cond.static yX0_reduced, Cond.code yX0_reduced cX0_reduced 6 (some .long), Cond.methodLink RX0 212 yX0_greatestCommonDivisor, Cond.static yX0_greatestCommonDivisor, Cond.code yX0_greatestCommonDivisor cX0_greatestCommonDivisor 11 (some .long)]
def wsL_lowNumerator : List Cond := .codeWith yL_lowNumerator cL_lowNumerator 4 (some .int) [(0, 8, 11, 19), (0, 8, 14, 45)] :: ((wsL_lowNumerator_r1 ++ (wsL_lowNumerator_r2 ++ wsL_lowNumerator_r3)) ++ wsX00 ++ (vx_atM "java/lang/ArrayIndexOutOfBoundsException" ["java/lang/IndexOutOfBoundsException", "java/lang/RuntimeException", "java/lang/Exception"]).filter goodWord ++ (vx_atS RX0 71 "java/lang/IndexOutOfBoundsException" ["java/lang/RuntimeException", "java/lang/Exception"]).filter goodWord ++ (vx_atS RX0 108 "java/lang/ArithmeticException" ["java/lang/RuntimeException", "java/lang/Exception"]).filter goodWord ++ (vx_atM "java/lang/ArithmeticException" ["java/lang/RuntimeException", "java/lang/Exception"]).filter goodWord)
def wsL_lowDenominator_r1 : List Cond := [Cond.classLink RL 19 "java/lang/IndexOutOfBoundsException", Cond.classLink RL 45 "java/lang/ArithmeticException", Cond.methodLink RL 51 yX0_lowDenominator, Cond.instanceMethod yX0_lowDenominator, Cond.selects RX0 yX0_lowDenominator yX0_lowDenominator, Cond.initialized RX0, Cond.code yX0_lowDenominator cX0_lowDenominator 2 (some .long), Cond.classLink RX0 67 "java/lang/IndexOutOfBoundsException", Cond.initialized "java/lang/IndexOutOfBoundsException", Cond.classLink RX0 104 "java/lang/ArithmeticException", Cond.initialized "java/lang/ArithmeticException", Cond.fieldLink RX0 131 "IntervalSolver" "scale" "J", Cond.methodLink RX0 63 yX0_isIndex, Cond.instanceMethod yX0_isIndex, Cond.selects RX0 yX0_isIndex yX0_isIndex, Cond.code yX0_isIndex cX0_isIndex 2 (some .boolean), Cond.fieldLink RX0 59 "IntervalSolver" "n" "I", Cond.methodLink RX0 121 yX0_invert, Cond.instanceMethod yX0_invert, Cond.selects RX0 yX0_invert yX0_invert, Cond.code yX0_invert cX0_invert 7 (some .boolean), Cond.methodLink RX0 148 Lib.MathLoose.abs_long.x, Cond.static Lib.MathLoose.abs_long.x, Cond.initialized "java/lang/Math"]
def wsL_lowDenominator_r2 : List Cond := [Cond.code Lib.MathLoose.abs_long.x Lib.MathLoose.abs_long.code 2 (some .long), Cond.constantLong RX0 210 (-1), Cond.fieldLink RX0 45 "IntervalSolver" "scaledInverse" "[[J", Cond.fieldLink RX0 36 "IntervalSolver" "minors" "[J", Cond.methodLink RX0 197 yX0_determinant, Cond.instanceMethod yX0_determinant, Cond.selects RX0 yX0_determinant yX0_determinant, Cond.code yX0_determinant cX0_determinant 1 (some .long), Cond.methodLink RX0 112 yX0_findMinors, Cond.instanceMethod yX0_findMinors, Cond.selects RX0 yX0_findMinors yX0_findMinors, Cond.code yX0_findMinors cX0_findMinors 4 none, Cond.methodLink RX0 115 yX0_allColumns, Cond.instanceMethod yX0_allColumns, Cond.selects RX0 yX0_allColumns yX0_allColumns, Cond.code yX0_allColumns cX0_allColumns 1 (some .int), Cond.methodLink RX0 201 yJ6_bitCount_0f7a4, Cond.static yJ6_bitCount_0f7a4, Cond.initialized RJ6, Cond.code yJ6_bitCount_0f7a4 cJ6_bitCount_0f7a4 1 (some .int), Cond.constant RJ6 265 (1431655765), Cond.constant RJ6 266 (858993459), Cond.constant RJ6 267 (252645135), Cond.methodLink RX0 206 yX0_expanded]
def wsL_lowDenominator_r3 : List Cond := [Cond.instanceMethod yX0_expanded, Cond.selects RX0 yX0_expanded yX0_expanded, Cond.code yX0_expanded cX0_expanded 9 (some .long), Cond.fieldLink RX0 11 "IntervalSolver" "coefficients" "[[I", Cond.methodLink RX0 127 yX0_scaledHullLow, Cond.instanceMethod yX0_scaledHullLow, Cond.selects RX0 yX0_scaledHullLow yX0_scaledHullLow, Cond.code yX0_scaledHullLow cX0_scaledHullLow 7 (some .long), Cond.fieldLink RX0 21 "IntervalSolver" "rightHighs" "[I", Cond.fieldLink RX0 17 "IntervalSolver" "rightLows" "[I", Cond.methodLink RX0 135 yX0_reduced, Cond.static yX0_reduced, Cond.code yX0_reduced cX0_reduced 6 (some .long), Cond.methodLink RX0 212 yX0_greatestCommonDivisor, Cond.static yX0_greatestCommonDivisor, Cond.code yX0_greatestCommonDivisor cX0_greatestCommonDivisor 11 (some .long)]
def wsL_lowDenominator : List Cond := .codeWith yL_lowDenominator cL_lowDenominator 4 (some .int) [(0, 8, 11, 19), (0, 8, 14, 45)] :: ((wsL_lowDenominator_r1 ++ (wsL_lowDenominator_r2 ++ wsL_lowDenominator_r3)) ++ wsX00 ++ (vx_atM "java/lang/ArrayIndexOutOfBoundsException" ["java/lang/IndexOutOfBoundsException", "java/lang/RuntimeException", "java/lang/Exception"]).filter goodWord ++ (vx_atS RX0 71 "java/lang/IndexOutOfBoundsException" ["java/lang/RuntimeException", "java/lang/Exception"]).filter goodWord ++ (vx_atS RX0 108 "java/lang/ArithmeticException" ["java/lang/RuntimeException", "java/lang/Exception"]).filter goodWord ++ (vx_atM "java/lang/ArithmeticException" ["java/lang/RuntimeException", "java/lang/Exception"]).filter goodWord)
def wsL_highNumerator_r1 : List Cond := [Cond.classLink RL 19 "java/lang/IndexOutOfBoundsException", Cond.classLink RL 45 "java/lang/ArithmeticException", Cond.methodLink RL 54 yX0_highNumerator, Cond.instanceMethod yX0_highNumerator, Cond.selects RX0 yX0_highNumerator yX0_highNumerator, Cond.initialized RX0, Cond.code yX0_highNumerator cX0_highNumerator 2 (some .long), Cond.classLink RX0 67 "java/lang/IndexOutOfBoundsException", Cond.initialized "java/lang/IndexOutOfBoundsException", Cond.classLink RX0 104 "java/lang/ArithmeticException", Cond.initialized "java/lang/ArithmeticException", Cond.fieldLink RX0 131 "IntervalSolver" "scale" "J", Cond.methodLink RX0 63 yX0_isIndex, Cond.instanceMethod yX0_isIndex, Cond.selects RX0 yX0_isIndex yX0_isIndex, Cond.code yX0_isIndex cX0_isIndex 2 (some .boolean), Cond.fieldLink RX0 59 "IntervalSolver" "n" "I", Cond.methodLink RX0 121 yX0_invert, Cond.instanceMethod yX0_invert, Cond.selects RX0 yX0_invert yX0_invert, Cond.code yX0_invert cX0_invert 7 (some .boolean), Cond.methodLink RX0 148 Lib.MathLoose.abs_long.x, Cond.static Lib.MathLoose.abs_long.x, Cond.initialized "java/lang/Math"]
def wsL_highNumerator_r2 : List Cond := [Cond.code Lib.MathLoose.abs_long.x Lib.MathLoose.abs_long.code 2 (some .long), Cond.constantLong RX0 210 (-1), Cond.fieldLink RX0 45 "IntervalSolver" "scaledInverse" "[[J", Cond.fieldLink RX0 36 "IntervalSolver" "minors" "[J", Cond.methodLink RX0 197 yX0_determinant, Cond.instanceMethod yX0_determinant, Cond.selects RX0 yX0_determinant yX0_determinant, Cond.code yX0_determinant cX0_determinant 1 (some .long), Cond.methodLink RX0 112 yX0_findMinors, Cond.instanceMethod yX0_findMinors, Cond.selects RX0 yX0_findMinors yX0_findMinors, Cond.code yX0_findMinors cX0_findMinors 4 none, Cond.methodLink RX0 115 yX0_allColumns, Cond.instanceMethod yX0_allColumns, Cond.selects RX0 yX0_allColumns yX0_allColumns, Cond.code yX0_allColumns cX0_allColumns 1 (some .int), Cond.methodLink RX0 201 yJ6_bitCount_0f7a4, Cond.static yJ6_bitCount_0f7a4, Cond.initialized RJ6, Cond.code yJ6_bitCount_0f7a4 cJ6_bitCount_0f7a4 1 (some .int), Cond.constant RJ6 265 (1431655765), Cond.constant RJ6 266 (858993459), Cond.constant RJ6 267 (252645135), Cond.methodLink RX0 206 yX0_expanded]
def wsL_highNumerator_r3 : List Cond := [Cond.instanceMethod yX0_expanded, Cond.selects RX0 yX0_expanded yX0_expanded, Cond.code yX0_expanded cX0_expanded 9 (some .long), Cond.fieldLink RX0 11 "IntervalSolver" "coefficients" "[[I", Cond.methodLink RX0 139 yX0_scaledHullHigh, Cond.instanceMethod yX0_scaledHullHigh, Cond.selects RX0 yX0_scaledHullHigh yX0_scaledHullHigh, Cond.code yX0_scaledHullHigh cX0_scaledHullHigh 7 (some .long), Cond.fieldLink RX0 17 "IntervalSolver" "rightLows" "[I", Cond.fieldLink RX0 21 "IntervalSolver" "rightHighs" "[I", Cond.methodLink RX0 135 yX0_reduced, Cond.static yX0_reduced, Cond.code yX0_reduced cX0_reduced 6 (some .long), Cond.methodLink RX0 212 yX0_greatestCommonDivisor, Cond.static yX0_greatestCommonDivisor, Cond.code yX0_greatestCommonDivisor cX0_greatestCommonDivisor 11 (some .long)]
def wsL_highNumerator : List Cond := .codeWith yL_highNumerator cL_highNumerator 4 (some .int) [(0, 8, 11, 19), (0, 8, 14, 45)] :: ((wsL_highNumerator_r1 ++ (wsL_highNumerator_r2 ++ wsL_highNumerator_r3)) ++ wsX00 ++ (vx_atM "java/lang/ArrayIndexOutOfBoundsException" ["java/lang/IndexOutOfBoundsException", "java/lang/RuntimeException", "java/lang/Exception"]).filter goodWord ++ (vx_atS RX0 71 "java/lang/IndexOutOfBoundsException" ["java/lang/RuntimeException", "java/lang/Exception"]).filter goodWord ++ (vx_atS RX0 108 "java/lang/ArithmeticException" ["java/lang/RuntimeException", "java/lang/Exception"]).filter goodWord ++ (vx_atM "java/lang/ArithmeticException" ["java/lang/RuntimeException", "java/lang/Exception"]).filter goodWord)
def wsL_highDenominator_r1 : List Cond := [Cond.classLink RL 19 "java/lang/IndexOutOfBoundsException", Cond.classLink RL 45 "java/lang/ArithmeticException", Cond.methodLink RL 57 yX0_highDenominator, Cond.instanceMethod yX0_highDenominator, Cond.selects RX0 yX0_highDenominator yX0_highDenominator, Cond.initialized RX0, Cond.code yX0_highDenominator cX0_highDenominator 2 (some .long), Cond.classLink RX0 67 "java/lang/IndexOutOfBoundsException", Cond.initialized "java/lang/IndexOutOfBoundsException", Cond.classLink RX0 104 "java/lang/ArithmeticException", Cond.initialized "java/lang/ArithmeticException", Cond.fieldLink RX0 131 "IntervalSolver" "scale" "J", Cond.methodLink RX0 63 yX0_isIndex, Cond.instanceMethod yX0_isIndex, Cond.selects RX0 yX0_isIndex yX0_isIndex, Cond.code yX0_isIndex cX0_isIndex 2 (some .boolean), Cond.fieldLink RX0 59 "IntervalSolver" "n" "I", Cond.methodLink RX0 121 yX0_invert, Cond.instanceMethod yX0_invert, Cond.selects RX0 yX0_invert yX0_invert, Cond.code yX0_invert cX0_invert 7 (some .boolean), Cond.methodLink RX0 148 Lib.MathLoose.abs_long.x, Cond.static Lib.MathLoose.abs_long.x, Cond.initialized "java/lang/Math"]
def wsL_highDenominator_r2 : List Cond := [Cond.code Lib.MathLoose.abs_long.x Lib.MathLoose.abs_long.code 2 (some .long), Cond.constantLong RX0 210 (-1), Cond.fieldLink RX0 45 "IntervalSolver" "scaledInverse" "[[J", Cond.fieldLink RX0 36 "IntervalSolver" "minors" "[J", Cond.methodLink RX0 197 yX0_determinant, Cond.instanceMethod yX0_determinant, Cond.selects RX0 yX0_determinant yX0_determinant, Cond.code yX0_determinant cX0_determinant 1 (some .long), Cond.methodLink RX0 112 yX0_findMinors, Cond.instanceMethod yX0_findMinors, Cond.selects RX0 yX0_findMinors yX0_findMinors, Cond.code yX0_findMinors cX0_findMinors 4 none, Cond.methodLink RX0 115 yX0_allColumns, Cond.instanceMethod yX0_allColumns, Cond.selects RX0 yX0_allColumns yX0_allColumns, Cond.code yX0_allColumns cX0_allColumns 1 (some .int), Cond.methodLink RX0 201 yJ6_bitCount_0f7a4, Cond.static yJ6_bitCount_0f7a4, Cond.initialized RJ6, Cond.code yJ6_bitCount_0f7a4 cJ6_bitCount_0f7a4 1 (some .int), Cond.constant RJ6 265 (1431655765), Cond.constant RJ6 266 (858993459), Cond.constant RJ6 267 (252645135), Cond.methodLink RX0 206 yX0_expanded]
def wsL_highDenominator_r3 : List Cond := [Cond.instanceMethod yX0_expanded, Cond.selects RX0 yX0_expanded yX0_expanded, Cond.code yX0_expanded cX0_expanded 9 (some .long), Cond.fieldLink RX0 11 "IntervalSolver" "coefficients" "[[I", Cond.methodLink RX0 139 yX0_scaledHullHigh, Cond.instanceMethod yX0_scaledHullHigh, Cond.selects RX0 yX0_scaledHullHigh yX0_scaledHullHigh, Cond.code yX0_scaledHullHigh cX0_scaledHullHigh 7 (some .long), Cond.fieldLink RX0 17 "IntervalSolver" "rightLows" "[I", Cond.fieldLink RX0 21 "IntervalSolver" "rightHighs" "[I", Cond.methodLink RX0 135 yX0_reduced, Cond.static yX0_reduced, Cond.code yX0_reduced cX0_reduced 6 (some .long), Cond.methodLink RX0 212 yX0_greatestCommonDivisor, Cond.static yX0_greatestCommonDivisor, Cond.code yX0_greatestCommonDivisor cX0_greatestCommonDivisor 11 (some .long)]
def wsL_highDenominator : List Cond := .codeWith yL_highDenominator cL_highDenominator 4 (some .int) [(0, 8, 11, 19), (0, 8, 14, 45)] :: ((wsL_highDenominator_r1 ++ (wsL_highDenominator_r2 ++ wsL_highDenominator_r3)) ++ wsX00 ++ (vx_atM "java/lang/ArrayIndexOutOfBoundsException" ["java/lang/IndexOutOfBoundsException", "java/lang/RuntimeException", "java/lang/Exception"]).filter goodWord ++ (vx_atS RX0 71 "java/lang/IndexOutOfBoundsException" ["java/lang/RuntimeException", "java/lang/Exception"]).filter goodWord ++ (vx_atS RX0 108 "java/lang/ArithmeticException" ["java/lang/RuntimeException", "java/lang/Exception"]).filter goodWord ++ (vx_atM "java/lang/ArithmeticException" ["java/lang/RuntimeException", "java/lang/Exception"]).filter goodWord)
def wsL_inverseNumerator_r1 : List Cond := [Cond.classLink RL 19 "java/lang/IndexOutOfBoundsException", Cond.classLink RL 45 "java/lang/ArithmeticException", Cond.methodLink RL 60 yX0_inverseNumerator, Cond.instanceMethod yX0_inverseNumerator, Cond.selects RX0 yX0_inverseNumerator yX0_inverseNumerator, Cond.initialized RX0, Cond.code yX0_inverseNumerator cX0_inverseNumerator 3 (some .long), Cond.classLink RX0 67 "java/lang/IndexOutOfBoundsException", Cond.initialized "java/lang/IndexOutOfBoundsException", Cond.classLink RX0 104 "java/lang/ArithmeticException", Cond.initialized "java/lang/ArithmeticException", Cond.fieldLink RX0 45 "IntervalSolver" "scaledInverse" "[[J", Cond.fieldLink RX0 131 "IntervalSolver" "scale" "J", Cond.methodLink RX0 63 yX0_isIndex, Cond.instanceMethod yX0_isIndex, Cond.selects RX0 yX0_isIndex yX0_isIndex, Cond.code yX0_isIndex cX0_isIndex 2 (some .boolean), Cond.fieldLink RX0 59 "IntervalSolver" "n" "I", Cond.methodLink RX0 121 yX0_invert, Cond.instanceMethod yX0_invert, Cond.selects RX0 yX0_invert yX0_invert, Cond.code yX0_invert cX0_invert 7 (some .boolean), Cond.methodLink RX0 148 Lib.MathLoose.abs_long.x, Cond.static Lib.MathLoose.abs_long.x]
def wsL_inverseNumerator_r2 : List Cond := [Cond.initialized "java/lang/Math", Cond.code Lib.MathLoose.abs_long.x Lib.MathLoose.abs_long.code 2 (some .long), Cond.constantLong RX0 210 (-1), Cond.fieldLink RX0 36 "IntervalSolver" "minors" "[J", Cond.methodLink RX0 197 yX0_determinant, Cond.instanceMethod yX0_determinant, Cond.selects RX0 yX0_determinant yX0_determinant, Cond.code yX0_determinant cX0_determinant 1 (some .long), Cond.methodLink RX0 112 yX0_findMinors, Cond.instanceMethod yX0_findMinors, Cond.selects RX0 yX0_findMinors yX0_findMinors, Cond.code yX0_findMinors cX0_findMinors 4 none, Cond.methodLink RX0 115 yX0_allColumns, Cond.instanceMethod yX0_allColumns, Cond.selects RX0 yX0_allColumns yX0_allColumns, Cond.code yX0_allColumns cX0_allColumns 1 (some .int), Cond.methodLink RX0 201 yJ6_bitCount_0f7a4, Cond.static yJ6_bitCount_0f7a4, Cond.initialized RJ6, Cond.code yJ6_bitCount_0f7a4 cJ6_bitCount_0f7a4 1 (some .int), Cond.constant RJ6 265 (1431655765), Cond.constant RJ6 266 (858993459), Cond.constant RJ6 267 (252645135), Cond.methodLink RX0 206 yX0_expanded]
def wsL_inverseNumerator_r3 : List Cond := [Cond.instanceMethod yX0_expanded, Cond.selects RX0 yX0_expanded yX0_expanded, Cond.code yX0_expanded cX0_expanded 9 (some .long), Cond.fieldLink RX0 11 "IntervalSolver" "coefficients" "[[I", Cond.methodLink RX0 135 yX0_reduced, Cond.static yX0_reduced, Cond.code yX0_reduced cX0_reduced 6 (some .long), Cond.methodLink RX0 212 yX0_greatestCommonDivisor, Cond.static yX0_greatestCommonDivisor, Cond.code yX0_greatestCommonDivisor cX0_greatestCommonDivisor 11 (some .long)]
def wsL_inverseNumerator : List Cond := .codeWith yL_inverseNumerator cL_inverseNumerator 5 (some .int) [(0, 9, 12, 19), (0, 9, 16, 45)] :: ((wsL_inverseNumerator_r1 ++ (wsL_inverseNumerator_r2 ++ wsL_inverseNumerator_r3)) ++ wsX00 ++ (vx_atM "java/lang/ArrayIndexOutOfBoundsException" ["java/lang/IndexOutOfBoundsException", "java/lang/RuntimeException", "java/lang/Exception"]).filter goodWord ++ (vx_atS RX0 71 "java/lang/IndexOutOfBoundsException" ["java/lang/RuntimeException", "java/lang/Exception"]).filter goodWord ++ (vx_atS RX0 108 "java/lang/ArithmeticException" ["java/lang/RuntimeException", "java/lang/Exception"]).filter goodWord ++ (vx_atM "java/lang/ArithmeticException" ["java/lang/RuntimeException", "java/lang/Exception"]).filter goodWord)
def wsL_inverseDenominator_r1 : List Cond := [Cond.classLink RL 19 "java/lang/IndexOutOfBoundsException", Cond.classLink RL 45 "java/lang/ArithmeticException", Cond.methodLink RL 64 yX0_inverseDenominator, Cond.instanceMethod yX0_inverseDenominator, Cond.selects RX0 yX0_inverseDenominator yX0_inverseDenominator, Cond.initialized RX0, Cond.code yX0_inverseDenominator cX0_inverseDenominator 3 (some .long), Cond.classLink RX0 67 "java/lang/IndexOutOfBoundsException", Cond.initialized "java/lang/IndexOutOfBoundsException", Cond.classLink RX0 104 "java/lang/ArithmeticException", Cond.initialized "java/lang/ArithmeticException", Cond.fieldLink RX0 131 "IntervalSolver" "scale" "J", Cond.fieldLink RX0 45 "IntervalSolver" "scaledInverse" "[[J", Cond.methodLink RX0 63 yX0_isIndex, Cond.instanceMethod yX0_isIndex, Cond.selects RX0 yX0_isIndex yX0_isIndex, Cond.code yX0_isIndex cX0_isIndex 2 (some .boolean), Cond.fieldLink RX0 59 "IntervalSolver" "n" "I", Cond.methodLink RX0 121 yX0_invert, Cond.instanceMethod yX0_invert, Cond.selects RX0 yX0_invert yX0_invert, Cond.code yX0_invert cX0_invert 7 (some .boolean), Cond.methodLink RX0 148 Lib.MathLoose.abs_long.x, Cond.static Lib.MathLoose.abs_long.x]
def wsL_inverseDenominator_r2 : List Cond := [Cond.initialized "java/lang/Math", Cond.code Lib.MathLoose.abs_long.x Lib.MathLoose.abs_long.code 2 (some .long), Cond.constantLong RX0 210 (-1), Cond.fieldLink RX0 36 "IntervalSolver" "minors" "[J", Cond.methodLink RX0 197 yX0_determinant, Cond.instanceMethod yX0_determinant, Cond.selects RX0 yX0_determinant yX0_determinant, Cond.code yX0_determinant cX0_determinant 1 (some .long), Cond.methodLink RX0 112 yX0_findMinors, Cond.instanceMethod yX0_findMinors, Cond.selects RX0 yX0_findMinors yX0_findMinors, Cond.code yX0_findMinors cX0_findMinors 4 none, Cond.methodLink RX0 115 yX0_allColumns, Cond.instanceMethod yX0_allColumns, Cond.selects RX0 yX0_allColumns yX0_allColumns, Cond.code yX0_allColumns cX0_allColumns 1 (some .int), Cond.methodLink RX0 201 yJ6_bitCount_0f7a4, Cond.static yJ6_bitCount_0f7a4, Cond.initialized RJ6, Cond.code yJ6_bitCount_0f7a4 cJ6_bitCount_0f7a4 1 (some .int), Cond.constant RJ6 265 (1431655765), Cond.constant RJ6 266 (858993459), Cond.constant RJ6 267 (252645135), Cond.methodLink RX0 206 yX0_expanded]
def wsL_inverseDenominator_r3 : List Cond := [Cond.instanceMethod yX0_expanded, Cond.selects RX0 yX0_expanded yX0_expanded, Cond.code yX0_expanded cX0_expanded 9 (some .long), Cond.fieldLink RX0 11 "IntervalSolver" "coefficients" "[[I", Cond.methodLink RX0 135 yX0_reduced, Cond.static yX0_reduced, Cond.code yX0_reduced cX0_reduced 6 (some .long), Cond.methodLink RX0 212 yX0_greatestCommonDivisor, Cond.static yX0_greatestCommonDivisor, Cond.code yX0_greatestCommonDivisor cX0_greatestCommonDivisor 11 (some .long)]
def wsL_inverseDenominator : List Cond := .codeWith yL_inverseDenominator cL_inverseDenominator 5 (some .int) [(0, 9, 12, 19), (0, 9, 16, 45)] :: ((wsL_inverseDenominator_r1 ++ (wsL_inverseDenominator_r2 ++ wsL_inverseDenominator_r3)) ++ wsX00 ++ (vx_atM "java/lang/ArrayIndexOutOfBoundsException" ["java/lang/IndexOutOfBoundsException", "java/lang/RuntimeException", "java/lang/Exception"]).filter goodWord ++ (vx_atS RX0 71 "java/lang/IndexOutOfBoundsException" ["java/lang/RuntimeException", "java/lang/Exception"]).filter goodWord ++ (vx_atS RX0 108 "java/lang/ArithmeticException" ["java/lang/RuntimeException", "java/lang/Exception"]).filter goodWord ++ (vx_atM "java/lang/ArithmeticException" ["java/lang/RuntimeException", "java/lang/Exception"]).filter goodWord)
def wsL_condition_r1 : List Cond := [Cond.classLink RL 45 "java/lang/ArithmeticException", Cond.methodLink RL 67 yX0_condition, Cond.instanceMethod yX0_condition, Cond.selects RX0 yX0_condition yX0_condition, Cond.initialized RX0, Cond.code yX0_condition cX0_condition 11 (some .double), Cond.classLink RX0 104 "java/lang/ArithmeticException", Cond.initialized "java/lang/ArithmeticException", Cond.fieldLink RX0 59 "IntervalSolver" "n" "I", Cond.fieldLink RX0 11 "IntervalSolver" "coefficients" "[[I", Cond.methodLink RX0 142 Lib.Math.abs.name, Cond.static Lib.Math.abs.name, Cond.initialized "java/lang/Math", Cond.code Lib.Math.abs.name Lib.Math.abs.code 1 (some .int), Cond.fieldLink RX0 45 "IntervalSolver" "scaledInverse" "[[J", Cond.methodLink RX0 148 Lib.MathLoose.abs_long.x, Cond.static Lib.MathLoose.abs_long.x, Cond.code Lib.MathLoose.abs_long.x Lib.MathLoose.abs_long.code 2 (some .long), Cond.methodLink RX0 151 Lib.MathLoose.max_long.x, Cond.static Lib.MathLoose.max_long.x, Cond.code Lib.MathLoose.max_long.x Lib.MathLoose.max_long.code 4 (some .long), Cond.fieldLink RX0 131 "IntervalSolver" "scale" "J", Cond.methodLink RX0 121 yX0_invert, Cond.instanceMethod yX0_invert]
def wsL_condition_r2 : List Cond := [Cond.selects RX0 yX0_invert yX0_invert, Cond.code yX0_invert cX0_invert 7 (some .boolean), Cond.constantLong RX0 210 (-1), Cond.fieldLink RX0 36 "IntervalSolver" "minors" "[J", Cond.methodLink RX0 197 yX0_determinant, Cond.instanceMethod yX0_determinant, Cond.selects RX0 yX0_determinant yX0_determinant, Cond.code yX0_determinant cX0_determinant 1 (some .long), Cond.methodLink RX0 112 yX0_findMinors, Cond.instanceMethod yX0_findMinors, Cond.selects RX0 yX0_findMinors yX0_findMinors, Cond.code yX0_findMinors cX0_findMinors 4 none, Cond.methodLink RX0 115 yX0_allColumns, Cond.instanceMethod yX0_allColumns, Cond.selects RX0 yX0_allColumns yX0_allColumns, Cond.code yX0_allColumns cX0_allColumns 1 (some .int), Cond.methodLink RX0 201 yJ6_bitCount_0f7a4, Cond.static yJ6_bitCount_0f7a4, Cond.initialized RJ6, Cond.code yJ6_bitCount_0f7a4 cJ6_bitCount_0f7a4 1 (some .int), Cond.constant RJ6 265 (1431655765), Cond.constant RJ6 266 (858993459), Cond.constant RJ6 267 (252645135), Cond.methodLink RX0 206 yX0_expanded]
def wsL_condition_r3 : List Cond := [Cond.instanceMethod yX0_expanded, Cond.selects RX0 yX0_expanded yX0_expanded, Cond.code yX0_expanded cX0_expanded 9 (some .long)]
def wsL_condition : List Cond := .codeWith yL_condition cL_condition 3 (some .int) [(0, 7, 10, 45)] :: ((wsL_condition_r1 ++ (wsL_condition_r2 ++ wsL_condition_r3)) ++ wsX00 ++ (vx_atM "java/lang/ArrayIndexOutOfBoundsException" ["java/lang/IndexOutOfBoundsException", "java/lang/RuntimeException", "java/lang/Exception"]).filter goodWord ++ (vx_atS RX0 108 "java/lang/ArithmeticException" ["java/lang/RuntimeException", "java/lang/Exception"]).filter goodWord)
def wsL_variationNumerator_r1 : List Cond := [Cond.classLink RL 45 "java/lang/ArithmeticException", Cond.methodLink RL 71 yX0_variationNumerator, Cond.instanceMethod yX0_variationNumerator, Cond.selects RX0 yX0_variationNumerator yX0_variationNumerator, Cond.initialized RX0, Cond.code yX0_variationNumerator cX0_variationNumerator 1 (some .long), Cond.classLink RX0 104 "java/lang/ArithmeticException", Cond.initialized "java/lang/ArithmeticException", Cond.constantLong RX0 158 (100), Cond.fieldLink RX0 131 "IntervalSolver" "scale" "J", Cond.methodLink RX0 121 yX0_invert, Cond.instanceMethod yX0_invert, Cond.selects RX0 yX0_invert yX0_invert, Cond.code yX0_invert cX0_invert 7 (some .boolean), Cond.methodLink RX0 148 Lib.MathLoose.abs_long.x, Cond.static Lib.MathLoose.abs_long.x, Cond.initialized "java/lang/Math", Cond.code Lib.MathLoose.abs_long.x Lib.MathLoose.abs_long.code 2 (some .long), Cond.fieldLink RX0 59 "IntervalSolver" "n" "I", Cond.constantLong RX0 210 (-1), Cond.fieldLink RX0 45 "IntervalSolver" "scaledInverse" "[[J", Cond.fieldLink RX0 36 "IntervalSolver" "minors" "[J", Cond.methodLink RX0 197 yX0_determinant, Cond.instanceMethod yX0_determinant]
def wsL_variationNumerator_r2 : List Cond := [Cond.selects RX0 yX0_determinant yX0_determinant, Cond.code yX0_determinant cX0_determinant 1 (some .long), Cond.methodLink RX0 112 yX0_findMinors, Cond.instanceMethod yX0_findMinors, Cond.selects RX0 yX0_findMinors yX0_findMinors, Cond.code yX0_findMinors cX0_findMinors 4 none, Cond.methodLink RX0 115 yX0_allColumns, Cond.instanceMethod yX0_allColumns, Cond.selects RX0 yX0_allColumns yX0_allColumns, Cond.code yX0_allColumns cX0_allColumns 1 (some .int), Cond.methodLink RX0 201 yJ6_bitCount_0f7a4, Cond.static yJ6_bitCount_0f7a4, Cond.initialized RJ6, Cond.code yJ6_bitCount_0f7a4 cJ6_bitCount_0f7a4 1 (some .int), Cond.constant RJ6 265 (1431655765), Cond.constant RJ6 266 (858993459), Cond.constant RJ6 267 (252645135), Cond.methodLink RX0 206 yX0_expanded, Cond.instanceMethod yX0_expanded, Cond.selects RX0 yX0_expanded yX0_expanded, Cond.code yX0_expanded cX0_expanded 9 (some .long), Cond.fieldLink RX0 11 "IntervalSolver" "coefficients" "[[I", Cond.methodLink RX0 154 yX0_scaledVariation, Cond.instanceMethod yX0_scaledVariation]
def wsL_variationNumerator_r3 : List Cond := [Cond.selects RX0 yX0_scaledVariation yX0_scaledVariation, Cond.code yX0_scaledVariation cX0_scaledVariation 8 (some .long), Cond.fieldLink RX0 14 "IntervalSolver" "spreads" "[[I", Cond.methodLink RX0 151 Lib.MathLoose.max_long.x, Cond.static Lib.MathLoose.max_long.x, Cond.code Lib.MathLoose.max_long.x Lib.MathLoose.max_long.code 4 (some .long), Cond.methodLink RX0 135 yX0_reduced, Cond.static yX0_reduced, Cond.code yX0_reduced cX0_reduced 6 (some .long), Cond.methodLink RX0 212 yX0_greatestCommonDivisor, Cond.static yX0_greatestCommonDivisor, Cond.code yX0_greatestCommonDivisor cX0_greatestCommonDivisor 11 (some .long)]
def wsL_variationNumerator : List Cond := .codeWith yL_variationNumerator cL_variationNumerator 3 (some .int) [(0, 7, 10, 45)] :: ((wsL_variationNumerator_r1 ++ (wsL_variationNumerator_r2 ++ wsL_variationNumerator_r3)) ++ wsX00 ++ (vx_atM "java/lang/ArrayIndexOutOfBoundsException" ["java/lang/IndexOutOfBoundsException", "java/lang/RuntimeException", "java/lang/Exception"]).filter goodWord ++ (vx_atS RX0 108 "java/lang/ArithmeticException" ["java/lang/RuntimeException", "java/lang/Exception"]).filter goodWord ++ (vx_atM "java/lang/ArithmeticException" ["java/lang/RuntimeException", "java/lang/Exception"]).filter goodWord)
def wsL_variationDenominator_r1 : List Cond := [Cond.classLink RL 45 "java/lang/ArithmeticException", Cond.methodLink RL 75 yX0_variationDenominator, Cond.instanceMethod yX0_variationDenominator, Cond.selects RX0 yX0_variationDenominator yX0_variationDenominator, Cond.initialized RX0, Cond.code yX0_variationDenominator cX0_variationDenominator 1 (some .long), Cond.classLink RX0 104 "java/lang/ArithmeticException", Cond.initialized "java/lang/ArithmeticException", Cond.constantLong RX0 158 (100), Cond.fieldLink RX0 131 "IntervalSolver" "scale" "J", Cond.methodLink RX0 121 yX0_invert, Cond.instanceMethod yX0_invert, Cond.selects RX0 yX0_invert yX0_invert, Cond.code yX0_invert cX0_invert 7 (some .boolean), Cond.methodLink RX0 148 Lib.MathLoose.abs_long.x, Cond.static Lib.MathLoose.abs_long.x, Cond.initialized "java/lang/Math", Cond.code Lib.MathLoose.abs_long.x Lib.MathLoose.abs_long.code 2 (some .long), Cond.fieldLink RX0 59 "IntervalSolver" "n" "I", Cond.constantLong RX0 210 (-1), Cond.fieldLink RX0 45 "IntervalSolver" "scaledInverse" "[[J", Cond.fieldLink RX0 36 "IntervalSolver" "minors" "[J", Cond.methodLink RX0 197 yX0_determinant, Cond.instanceMethod yX0_determinant]
def wsL_variationDenominator_r2 : List Cond := [Cond.selects RX0 yX0_determinant yX0_determinant, Cond.code yX0_determinant cX0_determinant 1 (some .long), Cond.methodLink RX0 112 yX0_findMinors, Cond.instanceMethod yX0_findMinors, Cond.selects RX0 yX0_findMinors yX0_findMinors, Cond.code yX0_findMinors cX0_findMinors 4 none, Cond.methodLink RX0 115 yX0_allColumns, Cond.instanceMethod yX0_allColumns, Cond.selects RX0 yX0_allColumns yX0_allColumns, Cond.code yX0_allColumns cX0_allColumns 1 (some .int), Cond.methodLink RX0 201 yJ6_bitCount_0f7a4, Cond.static yJ6_bitCount_0f7a4, Cond.initialized RJ6, Cond.code yJ6_bitCount_0f7a4 cJ6_bitCount_0f7a4 1 (some .int), Cond.constant RJ6 265 (1431655765), Cond.constant RJ6 266 (858993459), Cond.constant RJ6 267 (252645135), Cond.methodLink RX0 206 yX0_expanded, Cond.instanceMethod yX0_expanded, Cond.selects RX0 yX0_expanded yX0_expanded, Cond.code yX0_expanded cX0_expanded 9 (some .long), Cond.fieldLink RX0 11 "IntervalSolver" "coefficients" "[[I", Cond.methodLink RX0 154 yX0_scaledVariation, Cond.instanceMethod yX0_scaledVariation]
def wsL_variationDenominator_r3 : List Cond := [Cond.selects RX0 yX0_scaledVariation yX0_scaledVariation, Cond.code yX0_scaledVariation cX0_scaledVariation 8 (some .long), Cond.fieldLink RX0 14 "IntervalSolver" "spreads" "[[I", Cond.methodLink RX0 151 Lib.MathLoose.max_long.x, Cond.static Lib.MathLoose.max_long.x, Cond.code Lib.MathLoose.max_long.x Lib.MathLoose.max_long.code 4 (some .long), Cond.methodLink RX0 135 yX0_reduced, Cond.static yX0_reduced, Cond.code yX0_reduced cX0_reduced 6 (some .long), Cond.methodLink RX0 212 yX0_greatestCommonDivisor, Cond.static yX0_greatestCommonDivisor, Cond.code yX0_greatestCommonDivisor cX0_greatestCommonDivisor 11 (some .long)]
def wsL_variationDenominator : List Cond := .codeWith yL_variationDenominator cL_variationDenominator 3 (some .int) [(0, 7, 10, 45)] :: ((wsL_variationDenominator_r1 ++ (wsL_variationDenominator_r2 ++ wsL_variationDenominator_r3)) ++ wsX00 ++ (vx_atM "java/lang/ArrayIndexOutOfBoundsException" ["java/lang/IndexOutOfBoundsException", "java/lang/RuntimeException", "java/lang/Exception"]).filter goodWord ++ (vx_atS RX0 108 "java/lang/ArithmeticException" ["java/lang/RuntimeException", "java/lang/Exception"]).filter goodWord ++ (vx_atM "java/lang/ArithmeticException" ["java/lang/RuntimeException", "java/lang/Exception"]).filter goodWord)
def wsL_setBox_r1 : List Cond := [Cond.classLink RL 19 "java/lang/IndexOutOfBoundsException", Cond.classLink RL 13 "java/lang/IllegalArgumentException", Cond.methodLink RL 78 yX0_setBox, Cond.instanceMethod yX0_setBox, Cond.selects RX0 yX0_setBox yX0_setBox, Cond.initialized RX0, Cond.code yX0_setBox cX0_setBox 5 (some .boolean), Cond.classLink RX0 67 "java/lang/IndexOutOfBoundsException", Cond.initialized "java/lang/IndexOutOfBoundsException", Cond.classLink RX0 52 "java/lang/IllegalArgumentException", Cond.initialized "java/lang/IllegalArgumentException", Cond.constant RX0 160 (1000000000), Cond.fieldLink RX0 24 "IntervalSolver" "boxLows" "[I", Cond.fieldLink RX0 27 "IntervalSolver" "boxHighs" "[I", Cond.methodLink RX0 63 yX0_isIndex, Cond.instanceMethod yX0_isIndex, Cond.selects RX0 yX0_isIndex yX0_isIndex, Cond.code yX0_isIndex cX0_isIndex 2 (some .boolean), Cond.fieldLink RX0 59 "IntervalSolver" "n" "I", Cond.methodLink RX0 80 yX0_isInterval, Cond.static yX0_isInterval, Cond.code yX0_isInterval cX0_isInterval 3 (some .boolean), Cond.methodLink RX0 72 yX0_isWithin, Cond.static yX0_isWithin]
def wsL_setBox_r2 : List Cond := [Cond.code yX0_isWithin cX0_isWithin 2 (some .boolean)]
def wsL_setBox : List Cond := .codeWith yL_setBox cL_setBox 6 (some .int) [(0, 19, 22, 19), (0, 19, 26, 13)] :: ((wsL_setBox_r1 ++ wsL_setBox_r2) ++ wsX00 ++ (vx_atM "java/lang/ArrayIndexOutOfBoundsException" ["java/lang/IndexOutOfBoundsException", "java/lang/RuntimeException", "java/lang/Exception"]).filter goodWord ++ (vx_atS RX0 71 "java/lang/IndexOutOfBoundsException" ["java/lang/RuntimeException", "java/lang/Exception"]).filter goodWord ++ (vx_atS RX0 56 "java/lang/IllegalArgumentException" ["java/lang/RuntimeException", "java/lang/Exception"]).filter goodWord)
def wsL_boxLow : List Cond := .codeWith yL_boxLow cL_boxLow 4 (some .int) [(0, 9, 12, 19)] :: ([.classLink RL 19 "java/lang/IndexOutOfBoundsException", .methodLink RL 81 yX0_boxLow, .instanceMethod yX0_boxLow, .selects RX0 yX0_boxLow yX0_boxLow, .initialized RX0, .code yX0_boxLow cX0_boxLow 2 (some .int), .classLink RX0 67 "java/lang/IndexOutOfBoundsException", .initialized "java/lang/IndexOutOfBoundsException", .fieldLink RX0 24 "IntervalSolver" "boxLows" "[I", .methodLink RX0 63 yX0_isIndex, .instanceMethod yX0_isIndex, .selects RX0 yX0_isIndex yX0_isIndex, .code yX0_isIndex cX0_isIndex 2 (some .boolean), .fieldLink RX0 59 "IntervalSolver" "n" "I"] ++ wsX00 ++ (vx_atM "java/lang/ArrayIndexOutOfBoundsException" ["java/lang/IndexOutOfBoundsException", "java/lang/RuntimeException", "java/lang/Exception"]).filter goodWord ++ (vx_atS RX0 71 "java/lang/IndexOutOfBoundsException" ["java/lang/RuntimeException", "java/lang/Exception"]).filter goodWord)
def wsL_boxHigh : List Cond := .codeWith yL_boxHigh cL_boxHigh 4 (some .int) [(0, 9, 12, 19)] :: ([.classLink RL 19 "java/lang/IndexOutOfBoundsException", .methodLink RL 84 yX0_boxHigh, .instanceMethod yX0_boxHigh, .selects RX0 yX0_boxHigh yX0_boxHigh, .initialized RX0, .code yX0_boxHigh cX0_boxHigh 2 (some .int), .classLink RX0 67 "java/lang/IndexOutOfBoundsException", .initialized "java/lang/IndexOutOfBoundsException", .fieldLink RX0 27 "IntervalSolver" "boxHighs" "[I", .methodLink RX0 63 yX0_isIndex, .instanceMethod yX0_isIndex, .selects RX0 yX0_isIndex yX0_isIndex, .code yX0_isIndex cX0_isIndex 2 (some .boolean), .fieldLink RX0 59 "IntervalSolver" "n" "I"] ++ wsX00 ++ (vx_atM "java/lang/ArrayIndexOutOfBoundsException" ["java/lang/IndexOutOfBoundsException", "java/lang/RuntimeException", "java/lang/Exception"]).filter goodWord ++ (vx_atS RX0 71 "java/lang/IndexOutOfBoundsException" ["java/lang/RuntimeException", "java/lang/Exception"]).filter goodWord)
def wsL_contract_r1 : List Cond := [Cond.classLink RL 13 "java/lang/IllegalArgumentException", Cond.methodLink RL 87 yX0_contract, Cond.instanceMethod yX0_contract, Cond.selects RX0 yX0_contract yX0_contract, Cond.initialized RX0, Cond.code yX0_contract cX0_contract 4 (some .int), Cond.classLink RX0 52 "java/lang/IllegalArgumentException", Cond.initialized "java/lang/IllegalArgumentException", Cond.methodLink RX0 174 yX0_sweep, Cond.instanceMethod yX0_sweep, Cond.selects RX0 yX0_sweep yX0_sweep, Cond.code yX0_sweep cX0_sweep 4 (some .int), Cond.fieldLink RX0 59 "IntervalSolver" "n" "I", Cond.fieldLink RX0 11 "IntervalSolver" "coefficients" "[[I", Cond.methodLink RX0 163 yX0_keepBox, Cond.instanceMethod yX0_keepBox, Cond.selects RX0 yX0_keepBox yX0_keepBox, Cond.code yX0_keepBox cX0_keepBox 1 none, Cond.fieldLink RX0 24 "IntervalSolver" "boxLows" "[I", Cond.fieldLink RX0 30 "IntervalSolver" "keptLows" "[I", Cond.methodLink RX0 215 arraycopyName, Cond.native arraycopyName, Cond.static arraycopyName, Cond.initialized "java/lang/System"]
def wsL_contract_r2 : List Cond := [Cond.fieldLink RX0 27 "IntervalSolver" "boxHighs" "[I", Cond.fieldLink RX0 33 "IntervalSolver" "keptHighs" "[I", Cond.methodLink RX0 166 yX0_contractBy, Cond.instanceMethod yX0_contractBy, Cond.selects RX0 yX0_contractBy yX0_contractBy, Cond.code yX0_contractBy cX0_contractBy 9 (some .int), Cond.constantLong RX0 221 (1024), Cond.fieldLink RX0 17 "IntervalSolver" "rightLows" "[I", Cond.fieldLink RX0 21 "IntervalSolver" "rightHighs" "[I", Cond.methodLink RX0 223 yX0_quotientDown, Cond.static yX0_quotientDown, Cond.code yX0_quotientDown cX0_quotientDown 4 (some .long), Cond.methodLink RX0 232 yJ9_floorDiv_f86c9, Cond.static yJ9_floorDiv_f86c9, Cond.initialized RJ9, Cond.code yJ9_floorDiv_f86c9 cJ9_floorDiv_f86c9 6 (some .long), Cond.methodLink RX0 226 yX0_quotientUp, Cond.static yX0_quotientUp, Cond.code yX0_quotientUp cX0_quotientUp 4 (some .long), Cond.methodLink RX0 183 yX0_intersect, Cond.instanceMethod yX0_intersect, Cond.selects RX0 yX0_intersect yX0_intersect, Cond.code yX0_intersect cX0_intersect 11 (some .int), Cond.methodLink RX0 151 Lib.MathLoose.max_long.x]
def wsL_contract_r3 : List Cond := [Cond.static Lib.MathLoose.max_long.x, Cond.initialized "java/lang/Math", Cond.code Lib.MathLoose.max_long.x Lib.MathLoose.max_long.code 4 (some .long), Cond.methodLink RX0 229 Lib.MathLoose.min_long.x, Cond.static Lib.MathLoose.min_long.x, Cond.code Lib.MathLoose.min_long.x Lib.MathLoose.min_long.code 4 (some .long), Cond.methodLink RX0 169 yX0_restoreBox, Cond.instanceMethod yX0_restoreBox, Cond.selects RX0 yX0_restoreBox yX0_restoreBox, Cond.code yX0_restoreBox cX0_restoreBox 1 none]
def wsL_contract : List Cond := .codeWith yL_contract cL_contract 4 (some .int) [(0, 9, 12, 13)] :: ((wsL_contract_r1 ++ (wsL_contract_r2 ++ wsL_contract_r3)) ++ wsX00 ++ (vx_atM "java/lang/ArrayIndexOutOfBoundsException" ["java/lang/IndexOutOfBoundsException", "java/lang/RuntimeException", "java/lang/Exception"]).filter goodWord ++ (vx_atS RX0 56 "java/lang/IllegalArgumentException" ["java/lang/RuntimeException", "java/lang/Exception"]).filter goodWord)
def wsL_sharpen_r1 : List Cond := [Cond.classLink RL 45 "java/lang/ArithmeticException", Cond.methodLink RL 90 yX0_sharpen, Cond.instanceMethod yX0_sharpen, Cond.selects RX0 yX0_sharpen yX0_sharpen, Cond.initialized RX0, Cond.code yX0_sharpen cX0_sharpen 4 (some .int), Cond.classLink RX0 104 "java/lang/ArithmeticException", Cond.initialized "java/lang/ArithmeticException", Cond.fieldLink RX0 59 "IntervalSolver" "n" "I", Cond.methodLink RX0 121 yX0_invert, Cond.instanceMethod yX0_invert, Cond.selects RX0 yX0_invert yX0_invert, Cond.code yX0_invert cX0_invert 7 (some .boolean), Cond.methodLink RX0 148 Lib.MathLoose.abs_long.x, Cond.static Lib.MathLoose.abs_long.x, Cond.initialized "java/lang/Math", Cond.code Lib.MathLoose.abs_long.x Lib.MathLoose.abs_long.code 2 (some .long), Cond.fieldLink RX0 131 "IntervalSolver" "scale" "J", Cond.constantLong RX0 210 (-1), Cond.fieldLink RX0 45 "IntervalSolver" "scaledInverse" "[[J", Cond.fieldLink RX0 36 "IntervalSolver" "minors" "[J", Cond.methodLink RX0 197 yX0_determinant, Cond.instanceMethod yX0_determinant, Cond.selects RX0 yX0_determinant yX0_determinant]
def wsL_sharpen_r2 : List Cond := [Cond.code yX0_determinant cX0_determinant 1 (some .long), Cond.methodLink RX0 112 yX0_findMinors, Cond.instanceMethod yX0_findMinors, Cond.selects RX0 yX0_findMinors yX0_findMinors, Cond.code yX0_findMinors cX0_findMinors 4 none, Cond.methodLink RX0 115 yX0_allColumns, Cond.instanceMethod yX0_allColumns, Cond.selects RX0 yX0_allColumns yX0_allColumns, Cond.code yX0_allColumns cX0_allColumns 1 (some .int), Cond.methodLink RX0 201 yJ6_bitCount_0f7a4, Cond.static yJ6_bitCount_0f7a4, Cond.initialized RJ6, Cond.code yJ6_bitCount_0f7a4 cJ6_bitCount_0f7a4 1 (some .int), Cond.constant RJ6 265 (1431655765), Cond.constant RJ6 266 (858993459), Cond.constant RJ6 267 (252645135), Cond.methodLink RX0 206 yX0_expanded, Cond.instanceMethod yX0_expanded, Cond.selects RX0 yX0_expanded yX0_expanded, Cond.code yX0_expanded cX0_expanded 9 (some .long), Cond.fieldLink RX0 11 "IntervalSolver" "coefficients" "[[I", Cond.methodLink RX0 163 yX0_keepBox, Cond.instanceMethod yX0_keepBox, Cond.selects RX0 yX0_keepBox yX0_keepBox]
def wsL_sharpen_r3 : List Cond := [Cond.code yX0_keepBox cX0_keepBox 1 none, Cond.fieldLink RX0 24 "IntervalSolver" "boxLows" "[I", Cond.fieldLink RX0 30 "IntervalSolver" "keptLows" "[I", Cond.methodLink RX0 215 arraycopyName, Cond.native arraycopyName, Cond.static arraycopyName, Cond.initialized "java/lang/System", Cond.fieldLink RX0 27 "IntervalSolver" "boxHighs" "[I", Cond.fieldLink RX0 33 "IntervalSolver" "keptHighs" "[I", Cond.methodLink RX0 177 yX0_hullLowInUnits, Cond.instanceMethod yX0_hullLowInUnits, Cond.selects RX0 yX0_hullLowInUnits yX0_hullLowInUnits, Cond.code yX0_hullLowInUnits cX0_hullLowInUnits 2 (some .long), Cond.constantLong RX0 221 (1024), Cond.methodLink RX0 127 yX0_scaledHullLow, Cond.instanceMethod yX0_scaledHullLow, Cond.selects RX0 yX0_scaledHullLow yX0_scaledHullLow, Cond.code yX0_scaledHullLow cX0_scaledHullLow 7 (some .long), Cond.fieldLink RX0 21 "IntervalSolver" "rightHighs" "[I", Cond.fieldLink RX0 17 "IntervalSolver" "rightLows" "[I", Cond.methodLink RX0 223 yX0_quotientDown, Cond.static yX0_quotientDown, Cond.code yX0_quotientDown cX0_quotientDown 4 (some .long), Cond.methodLink RX0 232 yJ9_floorDiv_f86c9]
def wsL_sharpen_r4 : List Cond := [Cond.static yJ9_floorDiv_f86c9, Cond.initialized RJ9, Cond.code yJ9_floorDiv_f86c9 cJ9_floorDiv_f86c9 6 (some .long), Cond.methodLink RX0 180 yX0_hullHighInUnits, Cond.instanceMethod yX0_hullHighInUnits, Cond.selects RX0 yX0_hullHighInUnits yX0_hullHighInUnits, Cond.code yX0_hullHighInUnits cX0_hullHighInUnits 2 (some .long), Cond.methodLink RX0 139 yX0_scaledHullHigh, Cond.instanceMethod yX0_scaledHullHigh, Cond.selects RX0 yX0_scaledHullHigh yX0_scaledHullHigh, Cond.code yX0_scaledHullHigh cX0_scaledHullHigh 7 (some .long), Cond.methodLink RX0 226 yX0_quotientUp, Cond.static yX0_quotientUp, Cond.code yX0_quotientUp cX0_quotientUp 4 (some .long), Cond.methodLink RX0 183 yX0_intersect, Cond.instanceMethod yX0_intersect, Cond.selects RX0 yX0_intersect yX0_intersect, Cond.code yX0_intersect cX0_intersect 11 (some .int), Cond.methodLink RX0 151 Lib.MathLoose.max_long.x, Cond.static Lib.MathLoose.max_long.x, Cond.code Lib.MathLoose.max_long.x Lib.MathLoose.max_long.code 4 (some .long), Cond.methodLink RX0 229 Lib.MathLoose.min_long.x, Cond.static Lib.MathLoose.min_long.x, Cond.code Lib.MathLoose.min_long.x Lib.MathLoose.min_long.code 4 (some .long)]
def wsL_sharpen_r5 : List Cond := [Cond.methodLink RX0 169 yX0_restoreBox, Cond.instanceMethod yX0_restoreBox, Cond.selects RX0 yX0_restoreBox yX0_restoreBox, Cond.code yX0_restoreBox cX0_restoreBox 1 none]
def wsL_sharpen : List Cond := .codeWith yL_sharpen cL_sharpen 3 (some .int) [(0, 8, 11, 45)] :: ((wsL_sharpen_r1 ++ (wsL_sharpen_r2 ++ (wsL_sharpen_r3 ++ (wsL_sharpen_r4 ++ wsL_sharpen_r5)))) ++ wsX00 ++ (vx_atM "java/lang/ArrayIndexOutOfBoundsException" ["java/lang/IndexOutOfBoundsException", "java/lang/RuntimeException", "java/lang/Exception"]).filter goodWord ++ (vx_atS RX0 108 "java/lang/ArithmeticException" ["java/lang/RuntimeException", "java/lang/Exception"]).filter goodWord)
def wsL_isCertified_r1 : List Cond := [Cond.classLink RL 45 "java/lang/ArithmeticException", Cond.methodLink RL 94 yX0_isCertified, Cond.instanceMethod yX0_isCertified, Cond.selects RX0 yX0_isCertified yX0_isCertified, Cond.initialized RX0, Cond.code yX0_isCertified cX0_isCertified 2 (some .boolean), Cond.classLink RX0 104 "java/lang/ArithmeticException", Cond.initialized "java/lang/ArithmeticException", Cond.fieldLink RX0 59 "IntervalSolver" "n" "I", Cond.fieldLink RX0 24 "IntervalSolver" "boxLows" "[I", Cond.fieldLink RX0 27 "IntervalSolver" "boxHighs" "[I", Cond.methodLink RX0 121 yX0_invert, Cond.instanceMethod yX0_invert, Cond.selects RX0 yX0_invert yX0_invert, Cond.code yX0_invert cX0_invert 7 (some .boolean), Cond.methodLink RX0 148 Lib.MathLoose.abs_long.x, Cond.static Lib.MathLoose.abs_long.x, Cond.initialized "java/lang/Math", Cond.code Lib.MathLoose.abs_long.x Lib.MathLoose.abs_long.code 2 (some .long), Cond.fieldLink RX0 131 "IntervalSolver" "scale" "J", Cond.constantLong RX0 210 (-1), Cond.fieldLink RX0 45 "IntervalSolver" "scaledInverse" "[[J", Cond.fieldLink RX0 36 "IntervalSolver" "minors" "[J", Cond.methodLink RX0 197 yX0_determinant]
def wsL_isCertified_r2 : List Cond := [Cond.instanceMethod yX0_determinant, Cond.selects RX0 yX0_determinant yX0_determinant, Cond.code yX0_determinant cX0_determinant 1 (some .long), Cond.methodLink RX0 112 yX0_findMinors, Cond.instanceMethod yX0_findMinors, Cond.selects RX0 yX0_findMinors yX0_findMinors, Cond.code yX0_findMinors cX0_findMinors 4 none, Cond.methodLink RX0 115 yX0_allColumns, Cond.instanceMethod yX0_allColumns, Cond.selects RX0 yX0_allColumns yX0_allColumns, Cond.code yX0_allColumns cX0_allColumns 1 (some .int), Cond.methodLink RX0 201 yJ6_bitCount_0f7a4, Cond.static yJ6_bitCount_0f7a4, Cond.initialized RJ6, Cond.code yJ6_bitCount_0f7a4 cJ6_bitCount_0f7a4 1 (some .int), Cond.constant RJ6 265 (1431655765), Cond.constant RJ6 266 (858993459), Cond.constant RJ6 267 (252645135), Cond.methodLink RX0 206 yX0_expanded, Cond.instanceMethod yX0_expanded, Cond.selects RX0 yX0_expanded yX0_expanded, Cond.code yX0_expanded cX0_expanded 9 (some .long), Cond.fieldLink RX0 11 "IntervalSolver" "coefficients" "[[I", Cond.methodLink RX0 177 yX0_hullLowInUnits]
def wsL_isCertified_r3 : List Cond := [Cond.instanceMethod yX0_hullLowInUnits, Cond.selects RX0 yX0_hullLowInUnits yX0_hullLowInUnits, Cond.code yX0_hullLowInUnits cX0_hullLowInUnits 2 (some .long), Cond.constantLong RX0 221 (1024), Cond.methodLink RX0 127 yX0_scaledHullLow, Cond.instanceMethod yX0_scaledHullLow, Cond.selects RX0 yX0_scaledHullLow yX0_scaledHullLow, Cond.code yX0_scaledHullLow cX0_scaledHullLow 7 (some .long), Cond.fieldLink RX0 21 "IntervalSolver" "rightHighs" "[I", Cond.fieldLink RX0 17 "IntervalSolver" "rightLows" "[I", Cond.methodLink RX0 223 yX0_quotientDown, Cond.static yX0_quotientDown, Cond.code yX0_quotientDown cX0_quotientDown 4 (some .long), Cond.methodLink RX0 232 yJ9_floorDiv_f86c9, Cond.static yJ9_floorDiv_f86c9, Cond.initialized RJ9, Cond.code yJ9_floorDiv_f86c9 cJ9_floorDiv_f86c9 6 (some .long), Cond.methodLink RX0 180 yX0_hullHighInUnits, Cond.instanceMethod yX0_hullHighInUnits, Cond.selects RX0 yX0_hullHighInUnits yX0_hullHighInUnits, Cond.code yX0_hullHighInUnits cX0_hullHighInUnits 2 (some .long), Cond.methodLink RX0 139 yX0_scaledHullHigh, Cond.instanceMethod yX0_scaledHullHigh, Cond.selects RX0 yX0_scaledHullHigh yX0_scaledHullHigh]
def wsL_isCertified_r4 : List Cond := [Cond.code yX0_scaledHullHigh cX0_scaledHullHigh 7 (some .long), Cond.methodLink RX0 226 yX0_quotientUp, Cond.static yX0_quotientUp, Cond.code yX0_quotientUp cX0_quotientUp 4 (some .long)]
def wsL_isCertified : List Cond := .codeWith yL_isCertified cL_isCertified 3 (some .int) [(0, 15, 18, 45)] :: ((wsL_isCertified_r1 ++ (wsL_isCertified_r2 ++ (wsL_isCertified_r3 ++ wsL_isCertified_r4))) ++ wsX00 ++ (vx_atM "java/lang/ArrayIndexOutOfBoundsException" ["java/lang/IndexOutOfBoundsException", "java/lang/RuntimeException", "java/lang/Exception"]).filter goodWord ++ (vx_atS RX0 108 "java/lang/ArithmeticException" ["java/lang/RuntimeException", "java/lang/Exception"]).filter goodWord)
def wsL_residualLow : List Cond := .codeWith yL_residualLow cL_residualLow 4 (some .int) [(0, 8, 11, 19)] :: ([.classLink RL 19 "java/lang/IndexOutOfBoundsException", .methodLink RL 98 yX0_residualLow, .instanceMethod yX0_residualLow, .selects RX0 yX0_residualLow yX0_residualLow, .initialized RX0, .code yX0_residualLow cX0_residualLow 2 (some .long), .classLink RX0 67 "java/lang/IndexOutOfBoundsException", .initialized "java/lang/IndexOutOfBoundsException", .constantLong RX0 190 (2048), .fieldLink RX0 21 "IntervalSolver" "rightHighs" "[I", .methodLink RX0 63 yX0_isIndex, .instanceMethod yX0_isIndex, .selects RX0 yX0_isIndex yX0_isIndex, .code yX0_isIndex cX0_isIndex 2 (some .boolean), .fieldLink RX0 59 "IntervalSolver" "n" "I", .methodLink RX0 187 yX0_doubledMiddle, .instanceMethod yX0_doubledMiddle, .selects RX0 yX0_doubledMiddle yX0_doubledMiddle, .code yX0_doubledMiddle cX0_doubledMiddle 5 (some .long), .fieldLink RX0 11 "IntervalSolver" "coefficients" "[[I", .fieldLink RX0 24 "IntervalSolver" "boxLows" "[I", .fieldLink RX0 27 "IntervalSolver" "boxHighs" "[I"] ++ wsX00 ++ (vx_atM "java/lang/ArrayIndexOutOfBoundsException" ["java/lang/IndexOutOfBoundsException", "java/lang/RuntimeException", "java/lang/Exception"]).filter goodWord ++ (vx_atS RX0 71 "java/lang/IndexOutOfBoundsException" ["java/lang/RuntimeException", "java/lang/Exception"]).filter goodWord)
def wsL_residualHigh : List Cond := .codeWith yL_residualHigh cL_residualHigh 4 (some .int) [(0, 8, 11, 19)] :: ([.classLink RL 19 "java/lang/IndexOutOfBoundsException", .methodLink RL 101 yX0_residualHigh, .instanceMethod yX0_residualHigh, .selects RX0 yX0_residualHigh yX0_residualHigh, .initialized RX0, .code yX0_residualHigh cX0_residualHigh 2 (some .long), .classLink RX0 67 "java/lang/IndexOutOfBoundsException", .initialized "java/lang/IndexOutOfBoundsException", .constantLong RX0 190 (2048), .fieldLink RX0 17 "IntervalSolver" "rightLows" "[I", .methodLink RX0 63 yX0_isIndex, .instanceMethod yX0_isIndex, .selects RX0 yX0_isIndex yX0_isIndex, .code yX0_isIndex cX0_isIndex 2 (some .boolean), .fieldLink RX0 59 "IntervalSolver" "n" "I", .methodLink RX0 187 yX0_doubledMiddle, .instanceMethod yX0_doubledMiddle, .selects RX0 yX0_doubledMiddle yX0_doubledMiddle, .code yX0_doubledMiddle cX0_doubledMiddle 5 (some .long), .fieldLink RX0 11 "IntervalSolver" "coefficients" "[[I", .fieldLink RX0 24 "IntervalSolver" "boxLows" "[I", .fieldLink RX0 27 "IntervalSolver" "boxHighs" "[I"] ++ wsX00 ++ (vx_atM "java/lang/ArrayIndexOutOfBoundsException" ["java/lang/IndexOutOfBoundsException", "java/lang/RuntimeException", "java/lang/Exception"]).filter goodWord ++ (vx_atS RX0 71 "java/lang/IndexOutOfBoundsException" ["java/lang/RuntimeException", "java/lang/Exception"]).filter goodWord)
def wsL_law0_r1 : List Cond := [Cond.classLink RL 8 RX0, Cond.instantiable RX0 13, Cond.initialized RX0, Cond.classLink RL 105 RX1, Cond.instantiable RX1 13, Cond.initialized RX1, Cond.arrayClass .long, Cond.arrayClass .double, Cond.methodLink RL 104 yX0_init, Cond.instanceMethod yX0_init, Cond.code yX0_init cX0_init 1 none, Cond.methodLink RX0 3 objectInit, Cond.instanceMethod objectInit, Cond.code objectInit ⟨#[0xb1]⟩ 1 none, Cond.classLink RX0 9 "[[I", Cond.arrayClass .int, Cond.fieldLink RX0 11 "IntervalSolver" "coefficients" "[[I", Cond.fieldLink RX0 14 "IntervalSolver" "spreads" "[[I", Cond.fieldLink RX0 17 "IntervalSolver" "rightLows" "[I", Cond.fieldLink RX0 21 "IntervalSolver" "rightHighs" "[I", Cond.fieldLink RX0 24 "IntervalSolver" "boxLows" "[I", Cond.fieldLink RX0 27 "IntervalSolver" "boxHighs" "[I", Cond.fieldLink RX0 30 "IntervalSolver" "keptLows" "[I", Cond.fieldLink RX0 33 "IntervalSolver" "keptHighs" "[I"]
def wsL_law0_r2 : List Cond := [Cond.fieldLink RX0 36 "IntervalSolver" "minors" "[J", Cond.fieldLink RX0 40 "IntervalSolver" "vector" "[J", Cond.classLink RX0 43 "[[J", Cond.fieldLink RX0 45 "IntervalSolver" "scaledInverse" "[[J", Cond.methodLink RX0 48 yX0_startSystem, Cond.instanceMethod yX0_startSystem, Cond.selects RX0 yX0_startSystem yX0_startSystem, Cond.code yX0_startSystem cX0_startSystem 4 none, Cond.fieldLink RX0 59 "IntervalSolver" "n" "I", Cond.constant RX0 200 (-1000000000), Cond.constant RX0 160 (1000000000), Cond.methodLink RL 107 yX1_init, Cond.instanceMethod yX1_init, Cond.code yX1_init cX1_init 1 none, Cond.methodLink RX1 1 objectInit, Cond.fieldLink RX1 7 "IntervalSolverModel" "n" "I", Cond.fieldLink RX1 13 "IntervalSolverModel" "a" "[I", Cond.fieldLink RX1 17 "IntervalSolverModel" "spreads" "[I", Cond.fieldLink RX1 20 "IntervalSolverModel" "lows" "[I", Cond.fieldLink RX1 23 "IntervalSolverModel" "highs" "[I", Cond.fieldLink RX1 26 "IntervalSolverModel" "boxLows" "[I", Cond.fieldLink RX1 29 "IntervalSolverModel" "boxHighs" "[I", Cond.fieldLink RX1 32 "IntervalSolverModel" "formerLows" "[I", Cond.fieldLink RX1 35 "IntervalSolverModel" "formerHighs" "[I"]
def wsL_law0_r3 : List Cond := [Cond.fieldLink RX1 38 "IntervalSolverModel" "parts" "[J", Cond.methodLink RX1 42 yX1_clear, Cond.instanceMethod yX1_clear, Cond.selects RX1 yX1_clear yX1_clear, Cond.code yX1_clear cX1_clear 3 none, Cond.constant RX1 52 (-1000000000), Cond.constant RX1 53 (1000000000), Cond.methodLink RX1 48 yX1_at, Cond.static yX1_at, Cond.code yX1_at cX1_at 2 (some .int), Cond.methodLink RL 108 yL_setSize, Cond.static yL_setSize, Cond.initialized RL, Cond.codeWith yL_setSize cL_setSize 4 (some .int) [(0, 9, 12, 13)], Cond.classLink RL 13 "java/lang/IllegalArgumentException", Cond.methodLink RL 7 yX0_setSize, Cond.instanceMethod yX0_setSize, Cond.selects RX0 yX0_setSize yX0_setSize, Cond.code yX0_setSize cX0_setSize 2 (some .int), Cond.classLink RX0 52 "java/lang/IllegalArgumentException", Cond.initialized "java/lang/IllegalArgumentException", Cond.methodLink RL 113 yX1_setSize, Cond.instanceMethod yX1_setSize, Cond.selects RX1 yX1_setSize yX1_setSize]
def wsL_law0_r4 : List Cond := [Cond.code yX1_setSize cX1_setSize 2 (some .int), Cond.fieldLink RX1 45 "IntervalSolverModel" "thrown" "I", Cond.methodLink RX1 54 yX1_fail, Cond.instanceMethod yX1_fail, Cond.selects RX1 yX1_fail yX1_fail, Cond.code yX1_fail cX1_fail 2 (some .int), Cond.methodLink RL 114 yX1_thrown, Cond.instanceMethod yX1_thrown, Cond.selects RX1 yX1_thrown yX1_thrown, Cond.code yX1_thrown cX1_thrown 1 (some .int), Cond.methodLink RL 117 yX0_size, Cond.instanceMethod yX0_size, Cond.selects RX0 yX0_size yX0_size, Cond.code yX0_size cX0_size 1 (some .int), Cond.methodLink RL 120 yX1_size, Cond.instanceMethod yX1_size, Cond.selects RX1 yX1_size yX1_size, Cond.code yX1_size cX1_size 1 (some .int), Cond.methodLink RL 121 yL_setCoefficient, Cond.static yL_setCoefficient, Cond.codeWith yL_setCoefficient cL_setCoefficient 6 (some .int) [(0, 12, 15, 19), (0, 12, 19, 13)], Cond.classLink RL 19 "java/lang/IndexOutOfBoundsException", Cond.methodLink RL 15 yX0_setCoefficient, Cond.instanceMethod yX0_setCoefficient]
def wsL_law0_r5 : List Cond := [Cond.selects RX0 yX0_setCoefficient yX0_setCoefficient, Cond.code yX0_setCoefficient cX0_setCoefficient 5 (some .int), Cond.classLink RX0 67 "java/lang/IndexOutOfBoundsException", Cond.initialized "java/lang/IndexOutOfBoundsException", Cond.methodLink RX0 63 yX0_isIndex, Cond.instanceMethod yX0_isIndex, Cond.selects RX0 yX0_isIndex yX0_isIndex, Cond.code yX0_isIndex cX0_isIndex 2 (some .boolean), Cond.methodLink RX0 72 yX0_isWithin, Cond.static yX0_isWithin, Cond.code yX0_isWithin cX0_isWithin 2 (some .boolean), Cond.methodLink RL 124 yX1_setCoefficient, Cond.instanceMethod yX1_setCoefficient, Cond.selects RX1 yX1_setCoefficient yX1_setCoefficient, Cond.code yX1_setCoefficient cX1_setCoefficient 5 (some .int), Cond.methodLink RX1 58 yX1_isIndex, Cond.instanceMethod yX1_isIndex, Cond.selects RX1 yX1_isIndex yX1_isIndex, Cond.code yX1_isIndex cX1_isIndex 2 (some .boolean), Cond.methodLink RL 125 yL_coefficient, Cond.static yL_coefficient, Cond.codeWith yL_coefficient cL_coefficient 5 (some .int) [(0, 10, 13, 19)], Cond.methodLink RL 21 yX0_coefficient, Cond.instanceMethod yX0_coefficient]
def wsL_law0_r6 : List Cond := [Cond.selects RX0 yX0_coefficient yX0_coefficient, Cond.code yX0_coefficient cX0_coefficient 3 (some .int), Cond.methodLink RL 128 yX1_coefficient, Cond.instanceMethod yX1_coefficient, Cond.selects RX1 yX1_coefficient yX1_coefficient, Cond.code yX1_coefficient cX1_coefficient 3 (some .int), Cond.methodLink RL 129 yL_setRight, Cond.static yL_setRight, Cond.codeWith yL_setRight cL_setRight 6 (some .int) [(0, 19, 22, 19), (0, 19, 26, 13)], Cond.methodLink RL 25 yX0_setRight, Cond.instanceMethod yX0_setRight, Cond.selects RX0 yX0_setRight yX0_setRight, Cond.code yX0_setRight cX0_setRight 5 (some .boolean), Cond.methodLink RX0 80 yX0_isInterval, Cond.static yX0_isInterval, Cond.code yX0_isInterval cX0_isInterval 3 (some .boolean), Cond.methodLink RL 131 yX1_setRight, Cond.instanceMethod yX1_setRight, Cond.selects RX1 yX1_setRight yX1_setRight, Cond.code yX1_setRight cX1_setRight 5 (some .boolean), Cond.methodLink RL 132 yL_rightLow, Cond.static yL_rightLow, Cond.codeWith yL_rightLow cL_rightLow 4 (some .int) [(0, 9, 12, 19)], Cond.methodLink RL 29 yX0_rightLow]
def wsL_law0_r7 : List Cond := [Cond.instanceMethod yX0_rightLow, Cond.selects RX0 yX0_rightLow yX0_rightLow, Cond.code yX0_rightLow cX0_rightLow 2 (some .int), Cond.methodLink RL 134 yX1_rightLow, Cond.instanceMethod yX1_rightLow, Cond.selects RX1 yX1_rightLow yX1_rightLow, Cond.code yX1_rightLow cX1_rightLow 2 (some .int), Cond.methodLink RL 135 yL_rightHigh, Cond.static yL_rightHigh, Cond.codeWith yL_rightHigh cL_rightHigh 4 (some .int) [(0, 9, 12, 19)], Cond.methodLink RL 32 yX0_rightHigh, Cond.instanceMethod yX0_rightHigh, Cond.selects RX0 yX0_rightHigh yX0_rightHigh, Cond.code yX0_rightHigh cX0_rightHigh 2 (some .int), Cond.methodLink RL 137 yX1_rightHigh, Cond.instanceMethod yX1_rightHigh, Cond.selects RX1 yX1_rightHigh yX1_rightHigh, Cond.code yX1_rightHigh cX1_rightHigh 2 (some .int), Cond.methodLink RL 138 yL_setSpread, Cond.static yL_setSpread, Cond.codeWith yL_setSpread cL_setSpread 6 (some .int) [(0, 12, 15, 19), (0, 12, 19, 13)], Cond.methodLink RL 35 yX0_setSpread, Cond.instanceMethod yX0_setSpread, Cond.selects RX0 yX0_setSpread yX0_setSpread]
def wsL_law0_r8 : List Cond := [Cond.code yX0_setSpread cX0_setSpread 5 (some .int), Cond.methodLink RL 140 yX1_setSpread, Cond.instanceMethod yX1_setSpread, Cond.selects RX1 yX1_setSpread yX1_setSpread, Cond.code yX1_setSpread cX1_setSpread 5 (some .int), Cond.methodLink RL 141 yL_swapRows, Cond.static yL_swapRows, Cond.codeWith yL_swapRows cL_swapRows 5 (some .int) [(0, 17, 20, 19)], Cond.methodLink RL 38 yX0_swapRows, Cond.instanceMethod yX0_swapRows, Cond.selects RX0 yX0_swapRows yX0_swapRows, Cond.code yX0_swapRows cX0_swapRows 6 (some .boolean), Cond.methodLink RX0 88 yX0_exchange, Cond.static yX0_exchange, Cond.code yX0_exchange cX0_exchange 4 none, Cond.methodLink RL 143 yX1_swapRows, Cond.instanceMethod yX1_swapRows, Cond.selects RX1 yX1_swapRows yX1_swapRows, Cond.code yX1_swapRows cX1_swapRows 4 (some .boolean), Cond.methodLink RX1 62 yX1_swap, Cond.static yX1_swap, Cond.code yX1_swap cX1_swap 4 none, Cond.methodLink RL 144 yL_addRow, Cond.static yL_addRow]
def wsL_law0_r9 : List Cond := [Cond.codeWith yL_addRow cL_addRow 6 (some .int) [(0, 12, 15, 19), (0, 12, 19, 13), (0, 12, 23, 45)], Cond.classLink RL 45 "java/lang/ArithmeticException", Cond.methodLink RL 42 yX0_addRow, Cond.instanceMethod yX0_addRow, Cond.selects RX0 yX0_addRow yX0_addRow, Cond.code yX0_addRow cX0_addRow 6 (some .int), Cond.classLink RX0 104 "java/lang/ArithmeticException", Cond.initialized "java/lang/ArithmeticException", Cond.methodLink RX0 94 yX0_productLow, Cond.static yX0_productLow, Cond.code yX0_productLow cX0_productLow 3 (some .int), Cond.methodLink RX0 98 yX0_productHigh, Cond.static yX0_productHigh, Cond.code yX0_productHigh cX0_productHigh 3 (some .int), Cond.methodLink RX0 101 yX0_coefficientsFit, Cond.instanceMethod yX0_coefficientsFit, Cond.selects RX0 yX0_coefficientsFit yX0_coefficientsFit, Cond.code yX0_coefficientsFit cX0_coefficientsFit 5 (some .boolean), Cond.methodLink RX0 109 yX0_addCoefficients, Cond.instanceMethod yX0_addCoefficients, Cond.selects RX0 yX0_addCoefficients yX0_addCoefficients, Cond.code yX0_addCoefficients cX0_addCoefficients 7 (some .int), Cond.methodLink RL 146 yX1_addRow, Cond.instanceMethod yX1_addRow]
def wsL_law0_r10 : List Cond := [Cond.selects RX1 yX1_addRow yX1_addRow, Cond.code yX1_addRow cX1_addRow 9 (some .int), Cond.methodLink RX1 66 Lib.Math.min.name, Cond.static Lib.Math.min.name, Cond.initialized "java/lang/Math", Cond.code Lib.Math.min.name Lib.Math.min.code 2 (some .int), Cond.methodLink RX1 71 Lib.Math.max.name, Cond.static Lib.Math.max.name, Cond.code Lib.Math.max.name Lib.Math.max.code 2 (some .int), Cond.methodLink RX1 74 Lib.Math.abs.name, Cond.static Lib.Math.abs.name, Cond.code Lib.Math.abs.name Lib.Math.abs.code 1 (some .int), Cond.methodLink RL 147 yX0_determinant, Cond.instanceMethod yX0_determinant, Cond.selects RX0 yX0_determinant yX0_determinant, Cond.code yX0_determinant cX0_determinant 1 (some .long), Cond.methodLink RX0 112 yX0_findMinors, Cond.instanceMethod yX0_findMinors, Cond.selects RX0 yX0_findMinors yX0_findMinors, Cond.code yX0_findMinors cX0_findMinors 4 none, Cond.methodLink RX0 115 yX0_allColumns, Cond.instanceMethod yX0_allColumns, Cond.selects RX0 yX0_allColumns yX0_allColumns, Cond.code yX0_allColumns cX0_allColumns 1 (some .int)]
def wsL_law0_r11 : List Cond := [Cond.methodLink RX0 201 yJ6_bitCount_0f7a4, Cond.static yJ6_bitCount_0f7a4, Cond.initialized RJ6, Cond.code yJ6_bitCount_0f7a4 cJ6_bitCount_0f7a4 1 (some .int), Cond.constant RJ6 265 (1431655765), Cond.constant RJ6 266 (858993459), Cond.constant RJ6 267 (252645135), Cond.methodLink RX0 206 yX0_expanded, Cond.instanceMethod yX0_expanded, Cond.selects RX0 yX0_expanded yX0_expanded, Cond.code yX0_expanded cX0_expanded 9 (some .long), Cond.methodLink RL 150 yX1_determinant, Cond.instanceMethod yX1_determinant, Cond.selects RX1 yX1_determinant yX1_determinant, Cond.code yX1_determinant cX1_determinant 1 (some .long), Cond.methodLink RX1 80 yX1_determinantWithout, Cond.instanceMethod yX1_determinantWithout, Cond.selects RX1 yX1_determinantWithout yX1_determinantWithout, Cond.code yX1_determinantWithout cX1_determinantWithout 9 (some .long), Cond.methodLink RX1 77 yX1_sizeOf, Cond.static yX1_sizeOf, Cond.code yX1_sizeOf cX1_sizeOf 3 (some .int), Cond.methodLink RL 151 yL_lowNumerator, Cond.static yL_lowNumerator]
def wsL_law0_r12 : List Cond := [Cond.codeWith yL_lowNumerator cL_lowNumerator 4 (some .int) [(0, 8, 11, 19), (0, 8, 14, 45)], Cond.methodLink RL 47 yX0_lowNumerator, Cond.instanceMethod yX0_lowNumerator, Cond.selects RX0 yX0_lowNumerator yX0_lowNumerator, Cond.code yX0_lowNumerator cX0_lowNumerator 2 (some .long), Cond.fieldLink RX0 131 "IntervalSolver" "scale" "J", Cond.methodLink RX0 121 yX0_invert, Cond.instanceMethod yX0_invert, Cond.selects RX0 yX0_invert yX0_invert, Cond.code yX0_invert cX0_invert 7 (some .boolean), Cond.methodLink RX0 148 Lib.MathLoose.abs_long.x, Cond.static Lib.MathLoose.abs_long.x, Cond.code Lib.MathLoose.abs_long.x Lib.MathLoose.abs_long.code 2 (some .long), Cond.constantLong RX0 210 (-1), Cond.methodLink RX0 197 yX0_determinant, Cond.methodLink RX0 127 yX0_scaledHullLow, Cond.instanceMethod yX0_scaledHullLow, Cond.selects RX0 yX0_scaledHullLow yX0_scaledHullLow, Cond.code yX0_scaledHullLow cX0_scaledHullLow 7 (some .long), Cond.methodLink RX0 135 yX0_reduced, Cond.static yX0_reduced, Cond.code yX0_reduced cX0_reduced 6 (some .long), Cond.methodLink RX0 212 yX0_greatestCommonDivisor, Cond.static yX0_greatestCommonDivisor]
def wsL_law0_r13 : List Cond := [Cond.code yX0_greatestCommonDivisor cX0_greatestCommonDivisor 11 (some .long), Cond.methodLink RL 153 yX1_lowNumerator, Cond.instanceMethod yX1_lowNumerator, Cond.selects RX1 yX1_lowNumerator yX1_lowNumerator, Cond.code yX1_lowNumerator cX1_lowNumerator 2 (some .long), Cond.fieldLink RX1 87 "IntervalSolverModel" "numerator" "J", Cond.methodLink RX1 109 yX1_asks, Cond.instanceMethod yX1_asks, Cond.selects RX1 yX1_asks yX1_asks, Cond.code yX1_asks cX1_asks 3 (some .boolean), Cond.methodLink RX1 101 yX1_isSingular, Cond.instanceMethod yX1_isSingular, Cond.selects RX1 yX1_isSingular yX1_isSingular, Cond.code yX1_isSingular cX1_isSingular 1 (some .boolean), Cond.methodLink RX1 105 yX1_findEnd, Cond.instanceMethod yX1_findEnd, Cond.selects RX1 yX1_findEnd yX1_findEnd, Cond.code yX1_findEnd cX1_findEnd 11 none, Cond.methodLink RX1 94 yX1_cofactor, Cond.instanceMethod yX1_cofactor, Cond.selects RX1 yX1_cofactor yX1_cofactor, Cond.code yX1_cofactor cX1_cofactor 3 (some .long), Cond.methodLink RX1 97 yX1_reduce, Cond.instanceMethod yX1_reduce]
def wsL_law0_r14 : List Cond := [Cond.selects RX1 yX1_reduce yX1_reduce, Cond.code yX1_reduce cX1_reduce 11 none, Cond.methodLink RX1 84 Lib.MathLoose.abs_long.x, Cond.fieldLink RX1 91 "IntervalSolverModel" "denominator" "J", Cond.methodLink RL 154 yL_lowDenominator, Cond.static yL_lowDenominator, Cond.codeWith yL_lowDenominator cL_lowDenominator 4 (some .int) [(0, 8, 11, 19), (0, 8, 14, 45)], Cond.methodLink RL 51 yX0_lowDenominator, Cond.instanceMethod yX0_lowDenominator, Cond.selects RX0 yX0_lowDenominator yX0_lowDenominator, Cond.code yX0_lowDenominator cX0_lowDenominator 2 (some .long), Cond.methodLink RL 156 yX1_lowDenominator, Cond.instanceMethod yX1_lowDenominator, Cond.selects RX1 yX1_lowDenominator yX1_lowDenominator, Cond.code yX1_lowDenominator cX1_lowDenominator 2 (some .long), Cond.methodLink RL 157 yL_highNumerator, Cond.static yL_highNumerator, Cond.codeWith yL_highNumerator cL_highNumerator 4 (some .int) [(0, 8, 11, 19), (0, 8, 14, 45)], Cond.methodLink RL 54 yX0_highNumerator, Cond.instanceMethod yX0_highNumerator, Cond.selects RX0 yX0_highNumerator yX0_highNumerator, Cond.code yX0_highNumerator cX0_highNumerator 2 (some .long), Cond.methodLink RX0 139 yX0_scaledHullHigh, Cond.instanceMethod yX0_scaledHullHigh]
def wsL_law0_r15 : List Cond := [Cond.selects RX0 yX0_scaledHullHigh yX0_scaledHullHigh, Cond.code yX0_scaledHullHigh cX0_scaledHullHigh 7 (some .long), Cond.methodLink RL 159 yX1_highNumerator, Cond.instanceMethod yX1_highNumerator, Cond.selects RX1 yX1_highNumerator yX1_highNumerator, Cond.code yX1_highNumerator cX1_highNumerator 2 (some .long), Cond.methodLink RL 160 yL_highDenominator, Cond.static yL_highDenominator, Cond.codeWith yL_highDenominator cL_highDenominator 4 (some .int) [(0, 8, 11, 19), (0, 8, 14, 45)], Cond.methodLink RL 57 yX0_highDenominator, Cond.instanceMethod yX0_highDenominator, Cond.selects RX0 yX0_highDenominator yX0_highDenominator, Cond.code yX0_highDenominator cX0_highDenominator 2 (some .long), Cond.methodLink RL 162 yX1_highDenominator, Cond.instanceMethod yX1_highDenominator, Cond.selects RX1 yX1_highDenominator yX1_highDenominator, Cond.code yX1_highDenominator cX1_highDenominator 2 (some .long), Cond.methodLink RL 163 yL_inverseNumerator, Cond.static yL_inverseNumerator, Cond.codeWith yL_inverseNumerator cL_inverseNumerator 5 (some .int) [(0, 9, 12, 19), (0, 9, 16, 45)], Cond.methodLink RL 60 yX0_inverseNumerator, Cond.instanceMethod yX0_inverseNumerator, Cond.selects RX0 yX0_inverseNumerator yX0_inverseNumerator, Cond.code yX0_inverseNumerator cX0_inverseNumerator 3 (some .long)]
def wsL_law0_r16 : List Cond := [Cond.methodLink RL 165 yX1_inverseNumerator, Cond.instanceMethod yX1_inverseNumerator, Cond.selects RX1 yX1_inverseNumerator yX1_inverseNumerator, Cond.code yX1_inverseNumerator cX1_inverseNumerator 3 (some .long), Cond.methodLink RX1 113 yX1_asksInverse, Cond.instanceMethod yX1_asksInverse, Cond.selects RX1 yX1_asksInverse yX1_asksInverse, Cond.code yX1_asksInverse cX1_asksInverse 3 (some .boolean), Cond.methodLink RL 166 yL_inverseDenominator, Cond.static yL_inverseDenominator, Cond.codeWith yL_inverseDenominator cL_inverseDenominator 5 (some .int) [(0, 9, 12, 19), (0, 9, 16, 45)], Cond.methodLink RL 64 yX0_inverseDenominator, Cond.instanceMethod yX0_inverseDenominator, Cond.selects RX0 yX0_inverseDenominator yX0_inverseDenominator, Cond.code yX0_inverseDenominator cX0_inverseDenominator 3 (some .long), Cond.methodLink RL 168 yX1_inverseDenominator, Cond.instanceMethod yX1_inverseDenominator, Cond.selects RX1 yX1_inverseDenominator yX1_inverseDenominator, Cond.code yX1_inverseDenominator cX1_inverseDenominator 3 (some .long), Cond.methodLink RL 169 yX0_isSolution, Cond.instanceMethod yX0_isSolution, Cond.selects RX0 yX0_isSolution yX0_isSolution, Cond.code yX0_isSolution cX0_isSolution 10 (some .boolean), Cond.methodLink RL 173 yX1_isSolution]
def wsL_law0_r17 : List Cond := [Cond.instanceMethod yX1_isSolution, Cond.selects RX1 yX1_isSolution yX1_isSolution, Cond.code yX1_isSolution cX1_isSolution 11 (some .boolean), Cond.methodLink RL 174 yL_condition, Cond.static yL_condition, Cond.codeWith yL_condition cL_condition 3 (some .int) [(0, 7, 10, 45)], Cond.methodLink RL 67 yX0_condition, Cond.instanceMethod yX0_condition, Cond.selects RX0 yX0_condition yX0_condition, Cond.code yX0_condition cX0_condition 11 (some .double), Cond.methodLink RX0 142 Lib.Math.abs.name, Cond.methodLink RX0 151 Lib.MathLoose.max_long.x, Cond.static Lib.MathLoose.max_long.x, Cond.code Lib.MathLoose.max_long.x Lib.MathLoose.max_long.code 4 (some .long), Cond.methodLink RL 177 yX1_condition, Cond.instanceMethod yX1_condition, Cond.selects RX1 yX1_condition yX1_condition, Cond.code yX1_condition cX1_condition 9 (some .double), Cond.methodLink RX1 117 Lib.MathLoose.max_long.x, Cond.methodLink RL 178 yL_variationNumerator, Cond.static yL_variationNumerator, Cond.codeWith yL_variationNumerator cL_variationNumerator 3 (some .int) [(0, 7, 10, 45)], Cond.methodLink RL 71 yX0_variationNumerator, Cond.instanceMethod yX0_variationNumerator]
def wsL_law0_r18 : List Cond := [Cond.selects RX0 yX0_variationNumerator yX0_variationNumerator, Cond.code yX0_variationNumerator cX0_variationNumerator 1 (some .long), Cond.constantLong RX0 158 (100), Cond.methodLink RX0 154 yX0_scaledVariation, Cond.instanceMethod yX0_scaledVariation, Cond.selects RX0 yX0_scaledVariation yX0_scaledVariation, Cond.code yX0_scaledVariation cX0_scaledVariation 8 (some .long), Cond.methodLink RL 181 yX1_variationNumerator, Cond.instanceMethod yX1_variationNumerator, Cond.selects RX1 yX1_variationNumerator yX1_variationNumerator, Cond.code yX1_variationNumerator cX1_variationNumerator 1 (some .long), Cond.methodLink RX1 122 yX1_findVariation, Cond.instanceMethod yX1_findVariation, Cond.selects RX1 yX1_findVariation yX1_findVariation, Cond.code yX1_findVariation cX1_findVariation 8 none, Cond.constantLong RX1 120 (100), Cond.methodLink RL 182 yL_variationDenominator, Cond.static yL_variationDenominator, Cond.codeWith yL_variationDenominator cL_variationDenominator 3 (some .int) [(0, 7, 10, 45)], Cond.methodLink RL 75 yX0_variationDenominator, Cond.instanceMethod yX0_variationDenominator, Cond.selects RX0 yX0_variationDenominator yX0_variationDenominator, Cond.code yX0_variationDenominator cX0_variationDenominator 1 (some .long), Cond.methodLink RL 184 yX1_variationDenominator]
def wsL_law0_r19 : List Cond := [Cond.instanceMethod yX1_variationDenominator, Cond.selects RX1 yX1_variationDenominator yX1_variationDenominator, Cond.code yX1_variationDenominator cX1_variationDenominator 1 (some .long), Cond.methodLink RL 185 yX0_isSafe, Cond.instanceMethod yX0_isSafe, Cond.selects RX0 yX0_isSafe yX0_isSafe, Cond.code yX0_isSafe cX0_isSafe 1 (some .boolean), Cond.methodLink RL 188 yX1_isSafe, Cond.instanceMethod yX1_isSafe, Cond.selects RX1 yX1_isSafe yX1_isSafe, Cond.code yX1_isSafe cX1_isSafe 1 (some .boolean), Cond.methodLink RL 189 yX0_isDominant, Cond.instanceMethod yX0_isDominant, Cond.selects RX0 yX0_isDominant yX0_isDominant, Cond.code yX0_isDominant cX0_isDominant 5 (some .boolean), Cond.methodLink RL 192 yX1_isDominant, Cond.instanceMethod yX1_isDominant, Cond.selects RX1 yX1_isDominant yX1_isDominant, Cond.code yX1_isDominant cX1_isDominant 6 (some .boolean), Cond.methodLink RL 193 yL_setBox, Cond.static yL_setBox, Cond.codeWith yL_setBox cL_setBox 6 (some .int) [(0, 19, 22, 19), (0, 19, 26, 13)], Cond.methodLink RL 78 yX0_setBox, Cond.instanceMethod yX0_setBox]
def wsL_law0_r20 : List Cond := [Cond.selects RX0 yX0_setBox yX0_setBox, Cond.code yX0_setBox cX0_setBox 5 (some .boolean), Cond.methodLink RL 195 yX1_setBox, Cond.instanceMethod yX1_setBox, Cond.selects RX1 yX1_setBox yX1_setBox, Cond.code yX1_setBox cX1_setBox 5 (some .boolean), Cond.methodLink RL 196 yL_boxLow, Cond.static yL_boxLow, Cond.codeWith yL_boxLow cL_boxLow 4 (some .int) [(0, 9, 12, 19)], Cond.methodLink RL 81 yX0_boxLow, Cond.instanceMethod yX0_boxLow, Cond.selects RX0 yX0_boxLow yX0_boxLow, Cond.code yX0_boxLow cX0_boxLow 2 (some .int), Cond.methodLink RL 198 yX1_boxLow, Cond.instanceMethod yX1_boxLow, Cond.selects RX1 yX1_boxLow yX1_boxLow, Cond.code yX1_boxLow cX1_boxLow 2 (some .int), Cond.methodLink RL 199 yL_boxHigh, Cond.static yL_boxHigh, Cond.codeWith yL_boxHigh cL_boxHigh 4 (some .int) [(0, 9, 12, 19)], Cond.methodLink RL 84 yX0_boxHigh, Cond.instanceMethod yX0_boxHigh, Cond.selects RX0 yX0_boxHigh yX0_boxHigh, Cond.code yX0_boxHigh cX0_boxHigh 2 (some .int)]
def wsL_law0_r21 : List Cond := [Cond.methodLink RL 201 yX1_boxHigh, Cond.instanceMethod yX1_boxHigh, Cond.selects RX1 yX1_boxHigh yX1_boxHigh, Cond.code yX1_boxHigh cX1_boxHigh 2 (some .int), Cond.methodLink RL 202 yX0_sweep, Cond.instanceMethod yX0_sweep, Cond.selects RX0 yX0_sweep yX0_sweep, Cond.code yX0_sweep cX0_sweep 4 (some .int), Cond.methodLink RX0 163 yX0_keepBox, Cond.instanceMethod yX0_keepBox, Cond.selects RX0 yX0_keepBox yX0_keepBox, Cond.code yX0_keepBox cX0_keepBox 1 none, Cond.methodLink RX0 215 arraycopyName, Cond.native arraycopyName, Cond.static arraycopyName, Cond.initialized "java/lang/System", Cond.methodLink RX0 166 yX0_contractBy, Cond.instanceMethod yX0_contractBy, Cond.selects RX0 yX0_contractBy yX0_contractBy, Cond.code yX0_contractBy cX0_contractBy 9 (some .int), Cond.constantLong RX0 221 (1024), Cond.methodLink RX0 223 yX0_quotientDown, Cond.static yX0_quotientDown, Cond.code yX0_quotientDown cX0_quotientDown 4 (some .long)]
def wsL_law0_r22 : List Cond := [Cond.methodLink RX0 232 yJ9_floorDiv_f86c9, Cond.static yJ9_floorDiv_f86c9, Cond.initialized RJ9, Cond.code yJ9_floorDiv_f86c9 cJ9_floorDiv_f86c9 6 (some .long), Cond.methodLink RX0 226 yX0_quotientUp, Cond.static yX0_quotientUp, Cond.code yX0_quotientUp cX0_quotientUp 4 (some .long), Cond.methodLink RX0 183 yX0_intersect, Cond.instanceMethod yX0_intersect, Cond.selects RX0 yX0_intersect yX0_intersect, Cond.code yX0_intersect cX0_intersect 11 (some .int), Cond.methodLink RX0 229 Lib.MathLoose.min_long.x, Cond.static Lib.MathLoose.min_long.x, Cond.code Lib.MathLoose.min_long.x Lib.MathLoose.min_long.code 4 (some .long), Cond.methodLink RX0 169 yX0_restoreBox, Cond.instanceMethod yX0_restoreBox, Cond.selects RX0 yX0_restoreBox yX0_restoreBox, Cond.code yX0_restoreBox cX0_restoreBox 1 none, Cond.methodLink RL 205 yX1_sweep, Cond.instanceMethod yX1_sweep, Cond.selects RX1 yX1_sweep yX1_sweep, Cond.code yX1_sweep cX1_sweep 1 (some .int), Cond.methodLink RX1 149 yX1_sweepOnce, Cond.instanceMethod yX1_sweepOnce]
def wsL_law0_r23 : List Cond := [Cond.selects RX1 yX1_sweepOnce yX1_sweepOnce, Cond.code yX1_sweepOnce cX1_sweepOnce 2 (some .int), Cond.methodLink RX1 139 yX1_keep, Cond.instanceMethod yX1_keep, Cond.selects RX1 yX1_keep yX1_keep, Cond.code yX1_keep cX1_keep 2 none, Cond.methodLink RX1 142 yX1_cutByRow, Cond.instanceMethod yX1_cutByRow, Cond.selects RX1 yX1_cutByRow yX1_cutByRow, Cond.code yX1_cutByRow cX1_cutByRow 11 (some .boolean), Cond.constantLong RX1 130 (1024), Cond.methodLink RX1 128 Lib.MathLoose.min_long.x, Cond.methodLink RX1 125 yX1_down, Cond.static yX1_down, Cond.code yX1_down cX1_down 6 (some .long), Cond.methodLink RX1 132 yX1_up, Cond.static yX1_up, Cond.code yX1_up cX1_up 4 (some .long), Cond.methodLink RX1 135 yX1_cut, Cond.instanceMethod yX1_cut, Cond.selects RX1 yX1_cut yX1_cut, Cond.code yX1_cut cX1_cut 10 (some .boolean), Cond.methodLink RX1 145 yX1_judge, Cond.instanceMethod yX1_judge]
def wsL_law0_r24 : List Cond := [Cond.selects RX1 yX1_judge yX1_judge, Cond.code yX1_judge cX1_judge 4 (some .int), Cond.methodLink RL 206 yL_contract, Cond.static yL_contract, Cond.codeWith yL_contract cL_contract 4 (some .int) [(0, 9, 12, 13)], Cond.methodLink RL 87 yX0_contract, Cond.instanceMethod yX0_contract, Cond.selects RX0 yX0_contract yX0_contract, Cond.code yX0_contract cX0_contract 4 (some .int), Cond.methodLink RX0 174 yX0_sweep, Cond.methodLink RL 208 yX1_contract, Cond.instanceMethod yX1_contract, Cond.selects RX1 yX1_contract yX1_contract, Cond.code yX1_contract cX1_contract 4 (some .int), Cond.methodLink RL 209 yL_sharpen, Cond.static yL_sharpen, Cond.codeWith yL_sharpen cL_sharpen 3 (some .int) [(0, 8, 11, 45)], Cond.methodLink RL 90 yX0_sharpen, Cond.instanceMethod yX0_sharpen, Cond.selects RX0 yX0_sharpen yX0_sharpen, Cond.code yX0_sharpen cX0_sharpen 4 (some .int), Cond.methodLink RX0 177 yX0_hullLowInUnits, Cond.instanceMethod yX0_hullLowInUnits, Cond.selects RX0 yX0_hullLowInUnits yX0_hullLowInUnits]
def wsL_law0_r25 : List Cond := [Cond.code yX0_hullLowInUnits cX0_hullLowInUnits 2 (some .long), Cond.methodLink RX0 180 yX0_hullHighInUnits, Cond.instanceMethod yX0_hullHighInUnits, Cond.selects RX0 yX0_hullHighInUnits yX0_hullHighInUnits, Cond.code yX0_hullHighInUnits cX0_hullHighInUnits 2 (some .long), Cond.methodLink RL 211 yX1_sharpen, Cond.instanceMethod yX1_sharpen, Cond.selects RX1 yX1_sharpen yX1_sharpen, Cond.code yX1_sharpen cX1_sharpen 4 (some .int), Cond.methodLink RL 212 yL_isCertified, Cond.static yL_isCertified, Cond.codeWith yL_isCertified cL_isCertified 3 (some .int) [(0, 15, 18, 45)], Cond.methodLink RL 94 yX0_isCertified, Cond.instanceMethod yX0_isCertified, Cond.selects RX0 yX0_isCertified yX0_isCertified, Cond.code yX0_isCertified cX0_isCertified 2 (some .boolean), Cond.methodLink RL 214 yX1_isCertified, Cond.instanceMethod yX1_isCertified, Cond.selects RX1 yX1_isCertified yX1_isCertified, Cond.code yX1_isCertified cX1_isCertified 3 (some .boolean), Cond.methodLink RL 215 yL_residualLow, Cond.static yL_residualLow, Cond.codeWith yL_residualLow cL_residualLow 4 (some .int) [(0, 8, 11, 19)], Cond.methodLink RL 98 yX0_residualLow]
def wsL_law0_r26 : List Cond := [Cond.instanceMethod yX0_residualLow, Cond.selects RX0 yX0_residualLow yX0_residualLow, Cond.code yX0_residualLow cX0_residualLow 2 (some .long), Cond.constantLong RX0 190 (2048), Cond.methodLink RX0 187 yX0_doubledMiddle, Cond.instanceMethod yX0_doubledMiddle, Cond.selects RX0 yX0_doubledMiddle yX0_doubledMiddle, Cond.code yX0_doubledMiddle cX0_doubledMiddle 5 (some .long), Cond.methodLink RL 217 yX1_residualLow, Cond.instanceMethod yX1_residualLow, Cond.selects RX1 yX1_residualLow yX1_residualLow, Cond.code yX1_residualLow cX1_residualLow 2 (some .long), Cond.constantLong RX1 157 (2048), Cond.methodLink RX1 153 yX1_middle, Cond.instanceMethod yX1_middle, Cond.selects RX1 yX1_middle yX1_middle, Cond.code yX1_middle cX1_middle 5 (some .long), Cond.methodLink RL 218 yL_residualHigh, Cond.static yL_residualHigh, Cond.codeWith yL_residualHigh cL_residualHigh 4 (some .int) [(0, 8, 11, 19)], Cond.methodLink RL 101 yX0_residualHigh, Cond.instanceMethod yX0_residualHigh, Cond.selects RX0 yX0_residualHigh yX0_residualHigh, Cond.code yX0_residualHigh cX0_residualHigh 2 (some .long)]
def wsL_law0_r27 : List Cond := [Cond.methodLink RL 220 yX1_residualHigh, Cond.instanceMethod yX1_residualHigh, Cond.selects RX1 yX1_residualHigh yX1_residualHigh, Cond.code yX1_residualHigh cX1_residualHigh 2 (some .long), Cond.methodLink RL 221 yX0_digest, Cond.instanceMethod yX0_digest, Cond.selects RX0 yX0_digest yX0_digest, Cond.code yX0_digest cX0_digest 5 (some .long), Cond.constantLong RX0 192 (61), Cond.methodLink RX0 194 yX0_mixed, Cond.static yX0_mixed, Cond.code yX0_mixed cX0_mixed 4 (some .long), Cond.constantLong RX0 235 (31), Cond.methodLink RL 224 yX1_digest, Cond.instanceMethod yX1_digest, Cond.selects RX1 yX1_digest yX1_digest, Cond.code yX1_digest cX1_digest 5 (some .long), Cond.constantLong RX1 159 (1891), Cond.constantLong RX1 161 (31)]
def wsL_law0 : List Cond := (wsL_law0_r1 ++ (wsL_law0_r2 ++ (wsL_law0_r3 ++ (wsL_law0_r4 ++ (wsL_law0_r5 ++ (wsL_law0_r6 ++ (wsL_law0_r7 ++ (wsL_law0_r8 ++ (wsL_law0_r9 ++ (wsL_law0_r10 ++ (wsL_law0_r11 ++ (wsL_law0_r12 ++ (wsL_law0_r13 ++ (wsL_law0_r14 ++ (wsL_law0_r15 ++ (wsL_law0_r16 ++ (wsL_law0_r17 ++ (wsL_law0_r18 ++ (wsL_law0_r19 ++ (wsL_law0_r20 ++ (wsL_law0_r21 ++ (wsL_law0_r22 ++ (wsL_law0_r23 ++ (wsL_law0_r24 ++ (wsL_law0_r25 ++ (wsL_law0_r26 ++ wsL_law0_r27)))))))))))))))))))))))))) ++ wsX00 ++ wsX10 ++ ([] : List Cond)
def wsL_law : List Cond := wsL_law0 ++ (vx_atM "java/lang/ArrayIndexOutOfBoundsException" ["java/lang/IndexOutOfBoundsException", "java/lang/RuntimeException", "java/lang/Exception"]).filter goodWord ++ (vx_atS RX0 56 "java/lang/IllegalArgumentException" ["java/lang/RuntimeException", "java/lang/Exception"]).filter goodWord ++ (vx_atS RX0 71 "java/lang/IndexOutOfBoundsException" ["java/lang/RuntimeException", "java/lang/Exception"]).filter goodWord ++ (vx_atS RX0 108 "java/lang/ArithmeticException" ["java/lang/RuntimeException", "java/lang/Exception"]).filter goodWord ++ (vx_atM "java/lang/ArithmeticException" ["java/lang/RuntimeException", "java/lang/Exception"]).filter goodWord
set_option maxRecDepth 20000 in
theorem wsL_law0_r1_in : ∀ w ∈ wsL_law0_r1, w ∈ lw_tbl := fun w h => (goodIn_p wsL_law0_r1 [54, 57] (by decide +kernel) (by decide +kernel) w h).1
set_option maxRecDepth 20000 in
theorem wsL_law0_r2_in : ∀ w ∈ wsL_law0_r2, w ∈ lw_tbl := fun w h => (goodIn_p wsL_law0_r2 [65, 587] (by decide +kernel) (by decide +kernel) w h).1
set_option maxRecDepth 20000 in
theorem wsL_law0_r3_in : ∀ w ∈ wsL_law0_r3, w ∈ lw_tbl := fun w h => (goodIn_p wsL_law0_r3 [592, 595, 220] (by decide +kernel) (by decide +kernel) w h).1
set_option maxRecDepth 20000 in
theorem wsL_law0_r4_in : ∀ w ∈ wsL_law0_r4, w ∈ lw_tbl := fun w h => (goodIn_p wsL_law0_r4 [645, 649, 641, 113, 653] (by decide +kernel) (by decide +kernel) w h).1
set_option maxRecDepth 20000 in
theorem wsL_law0_r5_in : ∀ w ∈ wsL_law0_r5, w ∈ lw_tbl := fun w h => (goodIn_p wsL_law0_r5 [320, 324, 340, 657, 661] (by decide +kernel) (by decide +kernel) w h).1
set_option maxRecDepth 20000 in
theorem wsL_law0_r6_in : ∀ w ∈ wsL_law0_r6, w ∈ lw_tbl := fun w h => (goodIn_p wsL_law0_r6 [348, 665, 355, 359, 669] (by decide +kernel) (by decide +kernel) w h).1
set_option maxRecDepth 20000 in
theorem wsL_law0_r7_in : ∀ w ∈ wsL_law0_r7, w ∈ lw_tbl := fun w h => (goodIn_p wsL_law0_r7 [367, 673, 374, 677] (by decide +kernel) (by decide +kernel) w h).1
set_option maxRecDepth 20000 in
theorem wsL_law0_r8_in : ∀ w ∈ wsL_law0_r8, w ∈ lw_tbl := fun w h => (goodIn_p wsL_law0_r8 [381, 681, 389, 392, 685, 688] (by decide +kernel) (by decide +kernel) w h).1
set_option maxRecDepth 20000 in
theorem wsL_law0_r9_in : ∀ w ∈ wsL_law0_r9, w ∈ lw_tbl := fun w h => (goodIn_p wsL_law0_r9 [413, 417, 420, 424, 431] (by decide +kernel) (by decide +kernel) w h).1
set_option maxRecDepth 20000 in
theorem wsL_law0_r10_in : ∀ w ∈ wsL_law0_r10, w ∈ lw_tbl := fun w h => (goodIn_p wsL_law0_r10 [692, 695, 698, 167, 117, 121, 125] (by decide +kernel) (by decide +kernel) w h).1
set_option maxRecDepth 20000 in
theorem wsL_law0_r11_in : ∀ w ∈ wsL_law0_r11, w ∈ lw_tbl := fun w h => (goodIn_p wsL_law0_r11 [128, 135, 703, 707, 710] (by decide +kernel) (by decide +kernel) w h).1
set_option maxRecDepth 20000 in
theorem wsL_law0_r12_in : ∀ w ∈ wsL_law0_r12, w ∈ lw_tbl := fun w h => (goodIn_p wsL_law0_r12 [438, 147, 151, 444, 447] (by decide +kernel) (by decide +kernel) w h).1
set_option maxRecDepth 20000 in
theorem wsL_law0_r13_in : ∀ w ∈ wsL_law0_r13, w ∈ lw_tbl := fun w h => (goodIn_p wsL_law0_r13 [450, 714, 718, 722, 726, 730] (by decide +kernel) (by decide +kernel) w h).1
set_option maxRecDepth 20000 in
theorem wsL_law0_r14_in : ∀ w ∈ wsL_law0_r14, w ∈ lw_tbl := fun w h => (goodIn_p wsL_law0_r14 [734, 457, 739, 464] (by decide +kernel) (by decide +kernel) w h).1
set_option maxRecDepth 20000 in
theorem wsL_law0_r15_in : ∀ w ∈ wsL_law0_r15, w ∈ lw_tbl := fun w h => (goodIn_p wsL_law0_r15 [468, 743, 475, 747, 482] (by decide +kernel) (by decide +kernel) w h).1
set_option maxRecDepth 20000 in
theorem wsL_law0_r16_in : ∀ w ∈ wsL_law0_r16, w ∈ lw_tbl := fun w h => (goodIn_p wsL_law0_r16 [751, 755, 489, 759, 139] (by decide +kernel) (by decide +kernel) w h).1
set_option maxRecDepth 20000 in
theorem wsL_law0_r17_in : ∀ w ∈ wsL_law0_r17, w ∈ lw_tbl := fun w h => (goodIn_p wsL_law0_r17 [763, 496, 159, 767] (by decide +kernel) (by decide +kernel) w h).1
set_option maxRecDepth 20000 in
theorem wsL_law0_r18_in : ∀ w ∈ wsL_law0_r18, w ∈ lw_tbl := fun w h => (goodIn_p wsL_law0_r18 [503, 156, 772, 776, 510] (by decide +kernel) (by decide +kernel) w h).1
set_option maxRecDepth 20000 in
theorem wsL_law0_r19_in : ∀ w ∈ wsL_law0_r19, w ∈ lw_tbl := fun w h => (goodIn_p wsL_law0_r19 [781, 143, 785, 164, 789] (by decide +kernel) (by decide +kernel) w h).1
set_option maxRecDepth 20000 in
theorem wsL_law0_r20_in : ∀ w ∈ wsL_law0_r20, w ∈ lw_tbl := fun w h => (goodIn_p wsL_law0_r20 [517, 793, 525, 797, 532] (by decide +kernel) (by decide +kernel) w h).1
set_option maxRecDepth 20000 in
theorem wsL_law0_r21_in : ∀ w ∈ wsL_law0_r21, w ∈ lw_tbl := fun w h => (goodIn_p wsL_law0_r21 [801, 171, 175, 182, 186] (by decide +kernel) (by decide +kernel) w h).1
set_option maxRecDepth 20000 in
theorem wsL_law0_r22_in : ∀ w ∈ wsL_law0_r22, w ∈ lw_tbl := fun w h => (goodIn_p wsL_law0_r22 [189, 192, 196, 199, 203, 805] (by decide +kernel) (by decide +kernel) w h).1
set_option maxRecDepth 20000 in
theorem wsL_law0_r23_in : ∀ w ∈ wsL_law0_r23, w ∈ lw_tbl := fun w h => (goodIn_p wsL_law0_r23 [809, 813, 817, 822, 825, 829] (by decide +kernel) (by decide +kernel) w h).1
set_option maxRecDepth 20000 in
theorem wsL_law0_r24_in : ∀ w ∈ wsL_law0_r24, w ∈ lw_tbl := fun w h => (goodIn_p wsL_law0_r24 [833, 539, 837, 548] (by decide +kernel) (by decide +kernel) w h).1
set_option maxRecDepth 20000 in
theorem wsL_law0_r25_in : ∀ w ∈ wsL_law0_r25, w ∈ lw_tbl := fun w h => (goodIn_p wsL_law0_r25 [552, 556, 841, 563, 845] (by decide +kernel) (by decide +kernel) w h).1
set_option maxRecDepth 20000 in
theorem wsL_law0_r26_in : ∀ w ∈ wsL_law0_r26, w ∈ lw_tbl := fun w h => (goodIn_p wsL_law0_r26 [570, 574, 849, 853, 582] (by decide +kernel) (by decide +kernel) w h).1
set_option maxRecDepth 20000 in
theorem wsL_law0_r27_in : ∀ w ∈ wsL_law0_r27, w ∈ lw_tbl := fun w h => (goodIn_p wsL_law0_r27 [858, 207, 211, 862] (by decide +kernel) (by decide +kernel) w h).1
theorem wsX00_in : ∀ w ∈ wsX00, w ∈ lw_tbl := by decide +kernel
theorem wsX10_in : ∀ w ∈ wsX10, w ∈ lw_tbl := by decide +kernel
theorem wsL_law_in0 : ∀ w ∈ wsL_law0, w ∈ lw_tbl := by
  unfold wsL_law0
  exact List.forall_mem_append.mpr ⟨List.forall_mem_append.mpr ⟨List.forall_mem_append.mpr ⟨(List.forall_mem_append.mpr ⟨wsL_law0_r1_in, List.forall_mem_append.mpr ⟨wsL_law0_r2_in, List.forall_mem_append.mpr ⟨wsL_law0_r3_in, List.forall_mem_append.mpr ⟨wsL_law0_r4_in, List.forall_mem_append.mpr ⟨wsL_law0_r5_in, List.forall_mem_append.mpr ⟨wsL_law0_r6_in, List.forall_mem_append.mpr ⟨wsL_law0_r7_in, List.forall_mem_append.mpr ⟨wsL_law0_r8_in, List.forall_mem_append.mpr ⟨wsL_law0_r9_in, List.forall_mem_append.mpr ⟨wsL_law0_r10_in, List.forall_mem_append.mpr ⟨wsL_law0_r11_in, List.forall_mem_append.mpr ⟨wsL_law0_r12_in, List.forall_mem_append.mpr ⟨wsL_law0_r13_in, List.forall_mem_append.mpr ⟨wsL_law0_r14_in, List.forall_mem_append.mpr ⟨wsL_law0_r15_in, List.forall_mem_append.mpr ⟨wsL_law0_r16_in, List.forall_mem_append.mpr ⟨wsL_law0_r17_in, List.forall_mem_append.mpr ⟨wsL_law0_r18_in, List.forall_mem_append.mpr ⟨wsL_law0_r19_in, List.forall_mem_append.mpr ⟨wsL_law0_r20_in, List.forall_mem_append.mpr ⟨wsL_law0_r21_in, List.forall_mem_append.mpr ⟨wsL_law0_r22_in, List.forall_mem_append.mpr ⟨wsL_law0_r23_in, List.forall_mem_append.mpr ⟨wsL_law0_r24_in, List.forall_mem_append.mpr ⟨wsL_law0_r25_in, List.forall_mem_append.mpr ⟨wsL_law0_r26_in, wsL_law0_r27_in⟩⟩⟩⟩⟩⟩⟩⟩⟩⟩⟩⟩⟩⟩⟩⟩⟩⟩⟩⟩⟩⟩⟩⟩⟩⟩), wsX00_in⟩, wsX10_in⟩, fun w h => absurd h List.not_mem_nil⟩
theorem wsL_law_x0 : ∀ w ∈ (vx_atM "java/lang/ArrayIndexOutOfBoundsException" ["java/lang/IndexOutOfBoundsException", "java/lang/RuntimeException", "java/lang/Exception"]).filter goodWord, w ∈ lw_tbl := by decide +kernel
theorem wsL_law_x1 : ∀ w ∈ (vx_atS RX0 56 "java/lang/IllegalArgumentException" ["java/lang/RuntimeException", "java/lang/Exception"]).filter goodWord, w ∈ lw_tbl := by decide +kernel
theorem wsL_law_x2 : ∀ w ∈ (vx_atS RX0 71 "java/lang/IndexOutOfBoundsException" ["java/lang/RuntimeException", "java/lang/Exception"]).filter goodWord, w ∈ lw_tbl := by decide +kernel
theorem wsL_law_x3 : ∀ w ∈ (vx_atS RX0 108 "java/lang/ArithmeticException" ["java/lang/RuntimeException", "java/lang/Exception"]).filter goodWord, w ∈ lw_tbl := by decide +kernel
theorem wsL_law_x4 : ∀ w ∈ (vx_atM "java/lang/ArithmeticException" ["java/lang/RuntimeException", "java/lang/Exception"]).filter goodWord, w ∈ lw_tbl := by decide +kernel
theorem wsL_law_in : ∀ w ∈ wsL_law, w ∈ lw_tbl := fun w h => (List.mem_append.mp h).elim (fun h => (List.mem_append.mp h).elim (fun h => (List.mem_append.mp h).elim (fun h => (List.mem_append.mp h).elim (fun h => (List.mem_append.mp h).elim (fun h => wsL_law_in0 w h) (fun h => wsL_law_x0 w h)) (fun h => wsL_law_x1 w h)) (fun h => wsL_law_x2 w h)) (fun h => wsL_law_x3 w h)) (fun h => wsL_law_x4 w h)
theorem inlX0 : ∀ w ∈ wsX00, w ∈ wsL_law := fun _ h => List.mem_append_left _ (List.mem_append_left _ (List.mem_append_left _ (List.mem_append_left _ (List.mem_append_left _ (List.mem_append_left _ (List.mem_append_left _ (List.mem_append_right _ h)))))))
theorem inX0 : ∀ w ∈ wsX00, w ∈ lw_tbl := fun w h => wsL_law_in w (inlX0 w h)
theorem inlX1 : ∀ w ∈ wsX10, w ∈ wsL_law := fun _ h => List.mem_append_left _ (List.mem_append_left _ (List.mem_append_left _ (List.mem_append_left _ (List.mem_append_left _ (List.mem_append_left _ (List.mem_append_right _ h))))))
theorem inX1 : ∀ w ∈ wsX10, w ∈ lw_tbl := fun w h => wsL_law_in w (inlX1 w h)
theorem inJx00060 : ∀ w ∈ wsJx000600, w ∈ lw_tbl := by decide +kernel
theorem inJ6 : ∀ w ∈ wsJ60, w ∈ lw_tbl := by decide +kernel
theorem inJ9 : ∀ w ∈ wsJ90, w ∈ lw_tbl := by decide +kernel
theorem inJ0 : ∀ w ∈ wsJ00, w ∈ lw_tbl := by decide +kernel
theorem inJ10 : ∀ w ∈ wsJ100, w ∈ lw_tbl := by decide +kernel
end
section
/-! rows over a world whose heap is hidden -/
def zW (p : Program) (l : Launch) (e : Env) (R : Room) (s : State) (m : MethodId) (args : Array Value) (below : List Frame) (meth : Method) (c : Code) (Q : State → Prop) (nL : Nat) (A : Nat → Prop) (H0 : Heap) (D : va_G) (cl : List vw_C) (cells slots : Nat) (ws : va_W) (pc : Nat) (lv : List (Nat × Value)) (st : List Value) : Prop :=
  ∀ (H : Heap) (locs : List Loc) (ls : Array Slot), va_P D cl ws H → va_D A ws → va_S A H0 H locs → lv_has ls nL lv → W p l e R s m args below meth c H locs cells slots Q (F0 m pc ls st)
def zC (p : Program) (s : State) (m : MethodId) (args : Array Value) (c : Code) (cc : ByteArray) (nL : Nat) (Ts : List Cond) (own : String) (A : Nat → Prop) (H0 : Heap) (D : va_G) (cl : List vw_C) (tys : List (ClassId × FieldType)) : Prop :=
  CallFix p m c cc nL s args Ts own ∧ va_K D cl tys s ∧ (∀ q : Nat, H0.size ≤ q → A q)
def zPre (D : va_G) (cl : List vw_C) (tys : List (ClassId × FieldType)) (sz : Nat) (wc : va_W) : State → Prop := fun U => U.heap.size = sz ∧ va_P D cl wc U.heap ∧ va_K D cl tys U ∧ va_D (fun _ => True) wc
def zPost (D : va_G) (cl : List vw_C) (tys : List (ClassId × FieldType)) (A : Nat → Prop) (w1 : va_W) : State → Prop := fun t => va_P D cl w1 t.heap ∧ va_K D cl tys t ∧ va_D A w1
section ZROWS
variable {p : Program} {l : Launch} {e : Env} {R : Room} {s : State} {m : MethodId} {args : Array Value} {below : List Frame} {meth : Method} {c : Code} {Q : State → Prop} {nL : Nat} {A : Nat → Prop} {H0 : Heap} {D : va_G} {cl : List vw_C} {cells slots : Nat} {ws ws' : va_W} {pc : Nat} {lv lv' : List (Nat × Value)} {st : List Value} {cc : ByteArray} {Ts : List Cond} {own : String} {tys : List (ClassId × FieldType)}

theorem z_iconst (C : zC p s m args c cc nL Ts own A H0 D cl tys) {n : Int} {v : Int32} (hdg : decode cc pc = .ok (.iconst n, 1)) (hv : Int32.ofInt n = v) (kk : zW p l e R s m args below meth c Q nL A H0 D cl cells slots (ws) (pc + 1) (lv) (.int v :: st)) : zW p l e R s m args below meth c Q nL A H0 D cl cells slots (ws) (pc) (lv) (st) := fun H locs ls hP hD hS hl => lv_iconst C.1.1 C.1.2.1 hdg hv (kk H locs ls hP hD hS hl)
theorem z_bipush (C : zC p s m args c cc nL Ts own A H0 D cl tys) {n : Int} {v : Int32} (hdg : decode cc pc = .ok (.bipush n, 2)) (hv : (Int8.ofInt n).toInt32 = v) (kk : zW p l e R s m args below meth c Q nL A H0 D cl cells slots (ws) (pc + 2) (lv) (.int v :: st)) : zW p l e R s m args below meth c Q nL A H0 D cl cells slots (ws) (pc) (lv) (st) := fun H locs ls hP hD hS hl => lv_bipush C.1.1 C.1.2.1 hdg hv (kk H locs ls hP hD hS hl)
theorem z_sipush (C : zC p s m args c cc nL Ts own A H0 D cl tys) {n : Int} {v : Int32} (hdg : decode cc pc = .ok (.sipush n, 3)) (hv : (Int16.ofInt n).toInt32 = v) (kk : zW p l e R s m args below meth c Q nL A H0 D cl cells slots (ws) (pc + 3) (lv) (.int v :: st)) : zW p l e R s m args below meth c Q nL A H0 D cl cells slots (ws) (pc) (lv) (st) := fun H locs ls hP hD hS hl => lv_sipush C.1.1 C.1.2.1 hdg hv (kk H locs ls hP hD hS hl)
theorem z_lconst (C : zC p s m args c cc nL Ts own A H0 D cl tys) {n : Fin 2} {v : Int64} (hdg : decode cc pc = .ok (.lconst n, 1)) (hv : Int64.ofNat (n : Nat) = v) (kk : zW p l e R s m args below meth c Q nL A H0 D cl cells slots (ws) (pc + 1) (lv) (.long v :: st)) : zW p l e R s m args below meth c Q nL A H0 D cl cells slots (ws) (pc) (lv) (st) := fun H locs ls hP hD hS hl => lv_lconst C.1.1 C.1.2.1 hdg hv (kk H locs ls hP hD hS hl)
theorem z_iload_n (C : zC p s m args c cc nL Ts own A H0 D cl tys) {k : Fin 4} {x : Int32} (hdg : decode cc pc = .ok (.iload_n k, 1)) (j : Nat) (hi : lv[j]? = some ((k : Nat), .int x)) (kk : zW p l e R s m args below meth c Q nL A H0 D cl cells slots (ws) (pc + 1) (lv) (.int x :: st)) : zW p l e R s m args below meth c Q nL A H0 D cl cells slots (ws) (pc) (lv) (st) := fun H locs ls hP hD hS hl => lv_iload_n C.1.1 C.1.2.1 hdg rfl (lv_at hl j hi) (kk H locs ls hP hD hS hl)
theorem z_iload (C : zC p s m args c cc nL Ts own A H0 D cl tys) {i : Nat} {x : Int32} (hdg : decode cc pc = .ok (.iload i, 2)) (j : Nat) (hi : lv[j]? = some (i, .int x)) (kk : zW p l e R s m args below meth c Q nL A H0 D cl cells slots (ws) (pc + 2) (lv) (.int x :: st)) : zW p l e R s m args below meth c Q nL A H0 D cl cells slots (ws) (pc) (lv) (st) := fun H locs ls hP hD hS hl => lv_iload C.1.1 C.1.2.1 hdg (lv_at hl j hi) (kk H locs ls hP hD hS hl)
theorem z_istore_n (C : zC p s m args c cc nL Ts own A H0 D cl tys) {k : Fin 4} {x : Int32} (hdg : decode cc pc = .ok (.istore_n k, 1)) (hn : (k : Nat) < nL) (ks : List Nat) (hl' : lv_pick (((k : Nat), Value.int x) :: lv.filter (fun q => !(q.1 == (k : Nat)) && !(q.1 + 1 == (k : Nat) && q.2.category == 2))) ks = lv') (kk : zW p l e R s m args below meth c Q nL A H0 D cl cells slots (ws) (pc + 1) (lv') (st)) : zW p l e R s m args below meth c Q nL A H0 D cl cells slots (ws) (pc) (lv) (.int x :: st) := fun H locs ls hP hD hS hl => lv_istore_n C.1.1 C.1.2.1 hdg rfl hl hn rfl (fun ls2 h2 => kk H locs ls2 hP hD hS (lv_sub h2 ks hl'))
theorem z_istore (C : zC p s m args c cc nL Ts own A H0 D cl tys) {i : Nat} {x : Int32} (hdg : decode cc pc = .ok (.istore i, 2)) (hn : i < nL) (ks : List Nat) (hl' : lv_pick ((i, Value.int x) :: lv.filter (fun q => !(q.1 == i) && !(q.1 + 1 == i && q.2.category == 2))) ks = lv') (kk : zW p l e R s m args below meth c Q nL A H0 D cl cells slots (ws) (pc + 2) (lv') (st)) : zW p l e R s m args below meth c Q nL A H0 D cl cells slots (ws) (pc) (lv) (.int x :: st) := fun H locs ls hP hD hS hl => lv_istore C.1.1 C.1.2.1 hdg hl hn rfl (fun ls2 h2 => kk H locs ls2 hP hD hS (lv_sub h2 ks hl'))
theorem z_lload_n (C : zC p s m args c cc nL Ts own A H0 D cl tys) {k : Fin 4} {x : Int64} (hdg : decode cc pc = .ok (.lload_n k, 1)) (j : Nat) (hi : lv[j]? = some ((k : Nat), .long x)) (kk : zW p l e R s m args below meth c Q nL A H0 D cl cells slots (ws) (pc + 1) (lv) (.long x :: st)) : zW p l e R s m args below meth c Q nL A H0 D cl cells slots (ws) (pc) (lv) (st) := fun H locs ls hP hD hS hl => lv_lload_n C.1.1 C.1.2.1 hdg rfl (lv_at hl j hi) (kk H locs ls hP hD hS hl)
theorem z_lload (C : zC p s m args c cc nL Ts own A H0 D cl tys) {i : Nat} {x : Int64} (hdg : decode cc pc = .ok (.lload i, 2)) (j : Nat) (hi : lv[j]? = some (i, .long x)) (kk : zW p l e R s m args below meth c Q nL A H0 D cl cells slots (ws) (pc + 2) (lv) (.long x :: st)) : zW p l e R s m args below meth c Q nL A H0 D cl cells slots (ws) (pc) (lv) (st) := fun H locs ls hP hD hS hl => lv_lload C.1.1 C.1.2.1 hdg (lv_at hl j hi) (kk H locs ls hP hD hS hl)
theorem z_lstore_n (C : zC p s m args c cc nL Ts own A H0 D cl tys) {k : Fin 4} {x : Int64} (hdg : decode cc pc = .ok (.lstore_n k, 1)) (hn : (k : Nat) + 1 < nL) (ks : List Nat) (hl' : lv_pick (((k : Nat), Value.long x) :: lv.filter (fun q => !(q.1 == (k : Nat)) && (!(q.1 == (k : Nat) + 1) && !(q.1 + 1 == (k : Nat) && q.2.category == 2)))) ks = lv') (kk : zW p l e R s m args below meth c Q nL A H0 D cl cells slots (ws) (pc + 1) (lv') (st)) : zW p l e R s m args below meth c Q nL A H0 D cl cells slots (ws) (pc) (lv) (.long x :: st) := fun H locs ls hP hD hS hl => lv_lstore_n C.1.1 C.1.2.1 hdg rfl hl hn rfl (fun ls2 h2 => kk H locs ls2 hP hD hS (lv_sub h2 ks hl'))
theorem z_lstore (C : zC p s m args c cc nL Ts own A H0 D cl tys) {i : Nat} {x : Int64} (hdg : decode cc pc = .ok (.lstore i, 2)) (hn : i + 1 < nL) (ks : List Nat) (hl' : lv_pick ((i, Value.long x) :: lv.filter (fun q => !(q.1 == i) && (!(q.1 == i + 1) && !(q.1 + 1 == i && q.2.category == 2)))) ks = lv') (kk : zW p l e R s m args below meth c Q nL A H0 D cl cells slots (ws) (pc + 2) (lv') (st)) : zW p l e R s m args below meth c Q nL A H0 D cl cells slots (ws) (pc) (lv) (.long x :: st) := fun H locs ls hP hD hS hl => lv_lstore C.1.1 C.1.2.1 hdg hl hn rfl (fun ls2 h2 => kk H locs ls2 hP hD hS (lv_sub h2 ks hl'))
theorem z_aload_n (C : zC p s m args c cc nL Ts own A H0 D cl tys) {k : Fin 4} {x : Nat} (hdg : decode cc pc = .ok (.aload_n k, 1)) (j : Nat) (hi : lv[j]? = some ((k : Nat), .ref x)) (kk : zW p l e R s m args below meth c Q nL A H0 D cl cells slots (ws) (pc + 1) (lv) (.ref x :: st)) : zW p l e R s m args below meth c Q nL A H0 D cl cells slots (ws) (pc) (lv) (st) := fun H locs ls hP hD hS hl => lv_aload_n C.1.1 C.1.2.1 hdg rfl (lv_at hl j hi) (kk H locs ls hP hD hS hl)
theorem z_aload (C : zC p s m args c cc nL Ts own A H0 D cl tys) {i : Nat} {x : Nat} (hdg : decode cc pc = .ok (.aload i, 2)) (j : Nat) (hi : lv[j]? = some (i, .ref x)) (kk : zW p l e R s m args below meth c Q nL A H0 D cl cells slots (ws) (pc + 2) (lv) (.ref x :: st)) : zW p l e R s m args below meth c Q nL A H0 D cl cells slots (ws) (pc) (lv) (st) := fun H locs ls hP hD hS hl => lv_aload C.1.1 C.1.2.1 hdg (lv_at hl j hi) (kk H locs ls hP hD hS hl)
theorem z_astore_n (C : zC p s m args c cc nL Ts own A H0 D cl tys) {k : Fin 4} {x : Nat} (hdg : decode cc pc = .ok (.astore_n k, 1)) (hn : (k : Nat) < nL) (ks : List Nat) (hl' : lv_pick (((k : Nat), Value.ref x) :: lv.filter (fun q => !(q.1 == (k : Nat)) && !(q.1 + 1 == (k : Nat) && q.2.category == 2))) ks = lv') (kk : zW p l e R s m args below meth c Q nL A H0 D cl cells slots (ws) (pc + 1) (lv') (st)) : zW p l e R s m args below meth c Q nL A H0 D cl cells slots (ws) (pc) (lv) (.ref x :: st) := fun H locs ls hP hD hS hl => lv_astore_n C.1.1 C.1.2.1 hdg rfl hl hn rfl (fun ls2 h2 => kk H locs ls2 hP hD hS (lv_sub h2 ks hl'))
theorem z_astore (C : zC p s m args c cc nL Ts own A H0 D cl tys) {i : Nat} {x : Nat} (hdg : decode cc pc = .ok (.astore i, 2)) (hn : i < nL) (ks : List Nat) (hl' : lv_pick ((i, Value.ref x) :: lv.filter (fun q => !(q.1 == i) && !(q.1 + 1 == i && q.2.category == 2))) ks = lv') (kk : zW p l e R s m args below meth c Q nL A H0 D cl cells slots (ws) (pc + 2) (lv') (st)) : zW p l e R s m args below meth c Q nL A H0 D cl cells slots (ws) (pc) (lv) (.ref x :: st) := fun H locs ls hP hD hS hl => lv_astore C.1.1 C.1.2.1 hdg hl hn rfl (fun ls2 h2 => kk H locs ls2 hP hD hS (lv_sub h2 ks hl'))
theorem z_dload_n (C : zC p s m args c cc nL Ts own A H0 D cl tys) {k : Fin 4} {x : UInt64} (hdg : decode cc pc = .ok (.dload_n k, 1)) (j : Nat) (hi : lv[j]? = some ((k : Nat), .double x)) (kk : zW p l e R s m args below meth c Q nL A H0 D cl cells slots (ws) (pc + 1) (lv) (.double x :: st)) : zW p l e R s m args below meth c Q nL A H0 D cl cells slots (ws) (pc) (lv) (st) := fun H locs ls hP hD hS hl => lv_dload_n C.1.1 C.1.2.1 hdg rfl (lv_at hl j hi) (kk H locs ls hP hD hS hl)
theorem z_dload (C : zC p s m args c cc nL Ts own A H0 D cl tys) {i : Nat} {x : UInt64} (hdg : decode cc pc = .ok (.dload i, 2)) (j : Nat) (hi : lv[j]? = some (i, .double x)) (kk : zW p l e R s m args below meth c Q nL A H0 D cl cells slots (ws) (pc + 2) (lv) (.double x :: st)) : zW p l e R s m args below meth c Q nL A H0 D cl cells slots (ws) (pc) (lv) (st) := fun H locs ls hP hD hS hl => lv_dload C.1.1 C.1.2.1 hdg (lv_at hl j hi) (kk H locs ls hP hD hS hl)
theorem z_dstore_n (C : zC p s m args c cc nL Ts own A H0 D cl tys) {k : Fin 4} {x : UInt64} (hdg : decode cc pc = .ok (.dstore_n k, 1)) (hn : (k : Nat) + 1 < nL) (ks : List Nat) (hl' : lv_pick (((k : Nat), Value.double x) :: lv.filter (fun q => !(q.1 == (k : Nat)) && (!(q.1 == (k : Nat) + 1) && !(q.1 + 1 == (k : Nat) && q.2.category == 2)))) ks = lv') (kk : zW p l e R s m args below meth c Q nL A H0 D cl cells slots (ws) (pc + 1) (lv') (st)) : zW p l e R s m args below meth c Q nL A H0 D cl cells slots (ws) (pc) (lv) (.double x :: st) := fun H locs ls hP hD hS hl => lv_dstore_n C.1.1 C.1.2.1 hdg rfl hl hn rfl (fun ls2 h2 => kk H locs ls2 hP hD hS (lv_sub h2 ks hl'))
theorem z_dstore (C : zC p s m args c cc nL Ts own A H0 D cl tys) {i : Nat} {x : UInt64} (hdg : decode cc pc = .ok (.dstore i, 2)) (hn : i + 1 < nL) (ks : List Nat) (hl' : lv_pick ((i, Value.double x) :: lv.filter (fun q => !(q.1 == i) && (!(q.1 == i + 1) && !(q.1 + 1 == i && q.2.category == 2)))) ks = lv') (kk : zW p l e R s m args below meth c Q nL A H0 D cl cells slots (ws) (pc + 2) (lv') (st)) : zW p l e R s m args below meth c Q nL A H0 D cl cells slots (ws) (pc) (lv) (.double x :: st) := fun H locs ls hP hD hS hl => lv_dstore C.1.1 C.1.2.1 hdg hl hn rfl (fun ls2 h2 => kk H locs ls2 hP hD hS (lv_sub h2 ks hl'))
theorem z_iinc (C : zC p s m args c cc nL Ts own A H0 D cl tys) {i k : Nat} {n : Int} {x v : Int32} (hdg : decode cc pc = .ok (.iinc i n, 3)) (hk : lv[k]? = some (i, .int x)) (hv : x + Int32.ofInt n = v) (hn : i < nL) (ks : List Nat) (hl' : lv_pick ((i, Value.int v) :: lv.filter (fun q => !(q.1 == i) && !(q.1 + 1 == i && q.2.category == 2))) ks = lv') (kk : zW p l e R s m args below meth c Q nL A H0 D cl cells slots (ws) (pc + 3) (lv') (st)) : zW p l e R s m args below meth c Q nL A H0 D cl cells slots (ws) (pc) (lv) (st) := fun H locs ls hP hD hS hl => lv_iinc C.1.1 C.1.2.1 hdg hl hk hv hn rfl (fun ls2 h2 => kk H locs ls2 hP hD hS (lv_sub h2 ks hl'))
theorem z_iadd (C : zC p s m args c cc nL Ts own A H0 D cl tys) {x y : Int32} (hdg : decode cc pc = .ok (.iadd, 1))  (kk : zW p l e R s m args below meth c Q nL A H0 D cl cells slots (ws) (pc + 1) (lv) (.int (x + y) :: st)) : zW p l e R s m args below meth c Q nL A H0 D cl cells slots (ws) (pc) (lv) (.int y :: .int x :: st) := fun H locs ls hP hD hS hl => lv_iadd C.1.1 C.1.2.1 hdg  (kk H locs ls hP hD hS hl)
theorem z_isub (C : zC p s m args c cc nL Ts own A H0 D cl tys) {x y : Int32} (hdg : decode cc pc = .ok (.isub, 1))  (kk : zW p l e R s m args below meth c Q nL A H0 D cl cells slots (ws) (pc + 1) (lv) (.int (x - y) :: st)) : zW p l e R s m args below meth c Q nL A H0 D cl cells slots (ws) (pc) (lv) (.int y :: .int x :: st) := fun H locs ls hP hD hS hl => lv_isub C.1.1 C.1.2.1 hdg  (kk H locs ls hP hD hS hl)
theorem z_imul (C : zC p s m args c cc nL Ts own A H0 D cl tys) {x y : Int32} (hdg : decode cc pc = .ok (.imul, 1))  (kk : zW p l e R s m args below meth c Q nL A H0 D cl cells slots (ws) (pc + 1) (lv) (.int (x * y) :: st)) : zW p l e R s m args below meth c Q nL A H0 D cl cells slots (ws) (pc) (lv) (.int y :: .int x :: st) := fun H locs ls hP hD hS hl => lv_imul C.1.1 C.1.2.1 hdg  (kk H locs ls hP hD hS hl)
theorem z_iand (C : zC p s m args c cc nL Ts own A H0 D cl tys) {x y : Int32} (hdg : decode cc pc = .ok (.iand, 1))  (kk : zW p l e R s m args below meth c Q nL A H0 D cl cells slots (ws) (pc + 1) (lv) (.int (x &&& y) :: st)) : zW p l e R s m args below meth c Q nL A H0 D cl cells slots (ws) (pc) (lv) (.int y :: .int x :: st) := fun H locs ls hP hD hS hl => lv_iand C.1.1 C.1.2.1 hdg  (kk H locs ls hP hD hS hl)
theorem z_ixor (C : zC p s m args c cc nL Ts own A H0 D cl tys) {x y : Int32} (hdg : decode cc pc = .ok (.ixor, 1))  (kk : zW p l e R s m args below meth c Q nL A H0 D cl cells slots (ws) (pc + 1) (lv) (.int (x ^^^ y) :: st)) : zW p l e R s m args below meth c Q nL A H0 D cl cells slots (ws) (pc) (lv) (.int y :: .int x :: st) := fun H locs ls hP hD hS hl => lv_ixor C.1.1 C.1.2.1 hdg  (kk H locs ls hP hD hS hl)
theorem z_ishl (C : zC p s m args c cc nL Ts own A H0 D cl tys) {x y : Int32} (hdg : decode cc pc = .ok (.ishl, 1))  (kk : zW p l e R s m args below meth c Q nL A H0 D cl cells slots (ws) (pc + 1) (lv) (.int (x <<< (y &&& 31)) :: st)) : zW p l e R s m args below meth c Q nL A H0 D cl cells slots (ws) (pc) (lv) (.int y :: .int x :: st) := fun H locs ls hP hD hS hl => lv_ishl C.1.1 C.1.2.1 hdg  (kk H locs ls hP hD hS hl)
theorem z_ishr (C : zC p s m args c cc nL Ts own A H0 D cl tys) {x y : Int32} (hdg : decode cc pc = .ok (.ishr, 1))  (kk : zW p l e R s m args below meth c Q nL A H0 D cl cells slots (ws) (pc + 1) (lv) (.int (x >>> (y &&& 31)) :: st)) : zW p l e R s m args below meth c Q nL A H0 D cl cells slots (ws) (pc) (lv) (.int y :: .int x :: st) := fun H locs ls hP hD hS hl => lv_ishr C.1.1 C.1.2.1 hdg  (kk H locs ls hP hD hS hl)
theorem z_iushr (C : zC p s m args c cc nL Ts own A H0 D cl tys) {x y : Int32} (hdg : decode cc pc = .ok (.iushr, 1))  (kk : zW p l e R s m args below meth c Q nL A H0 D cl cells slots (ws) (pc + 1) (lv) (.int ((x.toUInt32 >>> (y.toUInt32 &&& Int32.toUInt32 31)).toInt32) :: st)) : zW p l e R s m args below meth c Q nL A H0 D cl cells slots (ws) (pc) (lv) (.int y :: .int x :: st) := fun H locs ls hP hD hS hl => lv_iushr C.1.1 C.1.2.1 hdg rfl (kk H locs ls hP hD hS hl)
theorem z_ladd (C : zC p s m args c cc nL Ts own A H0 D cl tys) {x y : Int64} (hdg : decode cc pc = .ok (.ladd, 1))  (kk : zW p l e R s m args below meth c Q nL A H0 D cl cells slots (ws) (pc + 1) (lv) (.long (x + y) :: st)) : zW p l e R s m args below meth c Q nL A H0 D cl cells slots (ws) (pc) (lv) (.long y :: .long x :: st) := fun H locs ls hP hD hS hl => lv_ladd C.1.1 C.1.2.1 hdg  (kk H locs ls hP hD hS hl)
theorem z_lsub (C : zC p s m args c cc nL Ts own A H0 D cl tys) {x y : Int64} (hdg : decode cc pc = .ok (.lsub, 1))  (kk : zW p l e R s m args below meth c Q nL A H0 D cl cells slots (ws) (pc + 1) (lv) (.long (x - y) :: st)) : zW p l e R s m args below meth c Q nL A H0 D cl cells slots (ws) (pc) (lv) (.long y :: .long x :: st) := fun H locs ls hP hD hS hl => lv_lsub C.1.1 C.1.2.1 hdg  (kk H locs ls hP hD hS hl)
theorem z_lmul (C : zC p s m args c cc nL Ts own A H0 D cl tys) {x y : Int64} (hdg : decode cc pc = .ok (.lmul, 1))  (kk : zW p l e R s m args below meth c Q nL A H0 D cl cells slots (ws) (pc + 1) (lv) (.long (x * y) :: st)) : zW p l e R s m args below meth c Q nL A H0 D cl cells slots (ws) (pc) (lv) (.long y :: .long x :: st) := fun H locs ls hP hD hS hl => lv_lmul C.1.1 C.1.2.1 hdg  (kk H locs ls hP hD hS hl)
theorem z_lxor (C : zC p s m args c cc nL Ts own A H0 D cl tys) {x y : Int64} (hdg : decode cc pc = .ok (.lxor, 1))  (kk : zW p l e R s m args below meth c Q nL A H0 D cl cells slots (ws) (pc + 1) (lv) (.long (x ^^^ y) :: st)) : zW p l e R s m args below meth c Q nL A H0 D cl cells slots (ws) (pc) (lv) (.long y :: .long x :: st) := fun H locs ls hP hD hS hl => lv_lxor C.1.1 C.1.2.1 hdg  (kk H locs ls hP hD hS hl)
theorem z_ineg (C : zC p s m args c cc nL Ts own A H0 D cl tys) {x : Int32} (hdg : decode cc pc = .ok (.ineg, 1))  (kk : zW p l e R s m args below meth c Q nL A H0 D cl cells slots (ws) (pc + 1) (lv) (.int (-x) :: st)) : zW p l e R s m args below meth c Q nL A H0 D cl cells slots (ws) (pc) (lv) (.int x :: st) := fun H locs ls hP hD hS hl => lv_ineg C.1.1 C.1.2.1 hdg  (kk H locs ls hP hD hS hl)
theorem z_lneg (C : zC p s m args c cc nL Ts own A H0 D cl tys) {x : Int64} (hdg : decode cc pc = .ok (.lneg, 1))  (kk : zW p l e R s m args below meth c Q nL A H0 D cl cells slots (ws) (pc + 1) (lv) (.long (-x) :: st)) : zW p l e R s m args below meth c Q nL A H0 D cl cells slots (ws) (pc) (lv) (.long x :: st) := fun H locs ls hP hD hS hl => lv_lneg C.1.1 C.1.2.1 hdg  (kk H locs ls hP hD hS hl)
theorem z_irem (C : zC p s m args c cc nL Ts own A H0 D cl tys) {x y : Int32} (hdg : decode cc pc = .ok (.irem, 1)) (hne : ¬ y = 0) (kk : zW p l e R s m args below meth c Q nL A H0 D cl cells slots (ws) (pc + 1) (lv) (.int (x - x / y * y) :: st)) : zW p l e R s m args below meth c Q nL A H0 D cl cells slots (ws) (pc) (lv) (.int y :: .int x :: st) := fun H locs ls hP hD hS hl => lv_irem C.1.1 C.1.2.1 hdg hne (kk H locs ls hP hD hS hl)
theorem z_ldiv (C : zC p s m args c cc nL Ts own A H0 D cl tys) {x y : Int64} (hdg : decode cc pc = .ok (.ldiv, 1)) (hne : ¬ y = 0) (kk : zW p l e R s m args below meth c Q nL A H0 D cl cells slots (ws) (pc + 1) (lv) (.long (x / y) :: st)) : zW p l e R s m args below meth c Q nL A H0 D cl cells slots (ws) (pc) (lv) (.long y :: .long x :: st) := fun H locs ls hP hD hS hl => lv_ldiv C.1.1 C.1.2.1 hdg hne (kk H locs ls hP hD hS hl)
theorem z_lrem (C : zC p s m args c cc nL Ts own A H0 D cl tys) {x y : Int64} (hdg : decode cc pc = .ok (.lrem, 1)) (hne : ¬ y = 0) (kk : zW p l e R s m args below meth c Q nL A H0 D cl cells slots (ws) (pc + 1) (lv) (.long (x - x / y * y) :: st)) : zW p l e R s m args below meth c Q nL A H0 D cl cells slots (ws) (pc) (lv) (.long y :: .long x :: st) := fun H locs ls hP hD hS hl => lv_lrem C.1.1 C.1.2.1 hdg hne (kk H locs ls hP hD hS hl)
theorem z_i2l (C : zC p s m args c cc nL Ts own A H0 D cl tys) {x : Int32} (hdg : decode cc pc = .ok (.i2l, 1))  (kk : zW p l e R s m args below meth c Q nL A H0 D cl cells slots (ws) (pc + 1) (lv) (.long x.toInt64 :: st)) : zW p l e R s m args below meth c Q nL A H0 D cl cells slots (ws) (pc) (lv) (.int x :: st) := fun H locs ls hP hD hS hl => lv_i2l C.1.1 C.1.2.1 hdg rfl (kk H locs ls hP hD hS hl)
theorem z_l2i (C : zC p s m args c cc nL Ts own A H0 D cl tys) {x : Int64} (hdg : decode cc pc = .ok (.l2i, 1))  (kk : zW p l e R s m args below meth c Q nL A H0 D cl cells slots (ws) (pc + 1) (lv) (.int x.toInt32 :: st)) : zW p l e R s m args below meth c Q nL A H0 D cl cells slots (ws) (pc) (lv) (.long x :: st) := fun H locs ls hP hD hS hl => lv_l2i C.1.1 C.1.2.1 hdg rfl (kk H locs ls hP hD hS hl)
theorem z_i2d (C : zC p s m args c cc nL Ts own A H0 D cl tys) {x : Int32} (hdg : decode cc pc = .ok (.i2d, 1))  (kk : zW p l e R s m args below meth c Q nL A H0 D cl cells slots (ws) (pc + 1) (lv) (.double (FP.i2d x) :: st)) : zW p l e R s m args below meth c Q nL A H0 D cl cells slots (ws) (pc) (lv) (.int x :: st) := fun H locs ls hP hD hS hl => lv_i2d C.1.1 C.1.2.1 hdg  (kk H locs ls hP hD hS hl)
theorem z_l2d (C : zC p s m args c cc nL Ts own A H0 D cl tys) {x : Int64} (hdg : decode cc pc = .ok (.l2d, 1))  (kk : zW p l e R s m args below meth c Q nL A H0 D cl cells slots (ws) (pc + 1) (lv) (.double (FP.l2d x) :: st)) : zW p l e R s m args below meth c Q nL A H0 D cl cells slots (ws) (pc) (lv) (.long x :: st) := fun H locs ls hP hD hS hl => lv_l2d C.1.1 C.1.2.1 hdg  (kk H locs ls hP hD hS hl)
theorem z_dmul (C : zC p s m args c cc nL Ts own A H0 D cl tys) {x y : UInt64} (hdg : decode cc pc = .ok (.dmul, 1)) (hne : vf_n64 (FP.dmul x y)) (kk : zW p l e R s m args below meth c Q nL A H0 D cl cells slots (ws) (pc + 1) (lv) (.double (FP.dmul x y) :: st)) : zW p l e R s m args below meth c Q nL A H0 D cl cells slots (ws) (pc) (lv) (.double y :: .double x :: st) := fun H locs ls hP hD hS hl => lv_dmul C.1.1 C.1.2.1 hdg hne (kk H locs ls hP hD hS hl)
theorem z_ddiv (C : zC p s m args c cc nL Ts own A H0 D cl tys) {x y : UInt64} (hdg : decode cc pc = .ok (.ddiv, 1)) (hne : vf_n64 (FP.ddiv x y)) (kk : zW p l e R s m args below meth c Q nL A H0 D cl cells slots (ws) (pc + 1) (lv) (.double (FP.ddiv x y) :: st)) : zW p l e R s m args below meth c Q nL A H0 D cl cells slots (ws) (pc) (lv) (.double y :: .double x :: st) := fun H locs ls hP hD hS hl => lv_ddiv C.1.1 C.1.2.1 hdg hne (kk H locs ls hP hD hS hl)
theorem z_lcmp (C : zC p s m args c cc nL Ts own A H0 D cl tys) {x y : Int64} (hdg : decode cc pc = .ok (.lcmp, 1))  (kk : zW p l e R s m args below meth c Q nL A H0 D cl cells slots (ws) (pc + 1) (lv) (.int (lg_cmp x y) :: st)) : zW p l e R s m args below meth c Q nL A H0 D cl cells slots (ws) (pc) (lv) (.long y :: .long x :: st) := fun H locs ls hP hD hS hl => W.lcmp C.1.1 C.1.2.1 hdg  (kk H locs ls hP hD hS hl)
theorem z_dup (C : zC p s m args c cc nL Ts own A H0 D cl tys) {va : Value} (hdg : decode cc pc = .ok (.dup, 1)) (hva : va.category = 1) (kk : zW p l e R s m args below meth c Q nL A H0 D cl cells slots (ws) (pc + 1) (lv) (va :: va :: st)) : zW p l e R s m args below meth c Q nL A H0 D cl cells slots (ws) (pc) (lv) (va :: st) := fun H locs ls hP hD hS hl => lv_dup C.1.1 C.1.2.1 hdg hva (kk H locs ls hP hD hS hl)
theorem z_dup2_11 (C : zC p s m args c cc nL Ts own A H0 D cl tys) {va vb : Value} (hdg : decode cc pc = .ok (.dup2, 1)) (hva : va.category = 1) (hvb : vb.category = 1) (kk : zW p l e R s m args below meth c Q nL A H0 D cl cells slots (ws) (pc + 1) (lv) (va :: vb :: va :: vb :: st)) : zW p l e R s m args below meth c Q nL A H0 D cl cells slots (ws) (pc) (lv) (va :: vb :: st) := fun H locs ls hP hD hS hl => lv_dup2_11 C.1.1 C.1.2.1 hdg hva hvb (kk H locs ls hP hD hS hl)
theorem z_dup2_2 (C : zC p s m args c cc nL Ts own A H0 D cl tys) {va : Value} (hdg : decode cc pc = .ok (.dup2, 1)) (hva : va.category = 2) (kk : zW p l e R s m args below meth c Q nL A H0 D cl cells slots (ws) (pc + 1) (lv) (va :: va :: st)) : zW p l e R s m args below meth c Q nL A H0 D cl cells slots (ws) (pc) (lv) (va :: st) := fun H locs ls hP hD hS hl => lv_dup2_2 C.1.1 C.1.2.1 hdg hva (kk H locs ls hP hD hS hl)
theorem z_if_eq (C : zC p s m args c cc nL Ts own A H0 D cl tys) {x : Int32} {off : Int} {tgt : Nat} (hdg : decode cc pc = .ok (.ifCond .eq off, 3)) (ht : (pc : Int) + off = (tgt : Int)) (kt : x = 0 → zW p l e R s m args below meth c Q nL A H0 D cl cells slots (ws) (tgt) (lv) (st)) (kf : ¬ x = 0 → zW p l e R s m args below meth c Q nL A H0 D cl cells slots (ws) (pc + 3) (lv) (st)) : zW p l e R s m args below meth c Q nL A H0 D cl cells slots (ws) (pc) (lv) (.int x :: st) := fun H locs ls hP hD hS hl => lv_if_eq C.1.1 C.1.2.1 hdg ht (fun h => kt h H locs ls hP hD hS hl) (fun h => kf h H locs ls hP hD hS hl)
theorem z_if_ne (C : zC p s m args c cc nL Ts own A H0 D cl tys) {x : Int32} {off : Int} {tgt : Nat} (hdg : decode cc pc = .ok (.ifCond .ne off, 3)) (ht : (pc : Int) + off = (tgt : Int)) (kt : ¬ x = 0 → zW p l e R s m args below meth c Q nL A H0 D cl cells slots (ws) (tgt) (lv) (st)) (kf : x = 0 → zW p l e R s m args below meth c Q nL A H0 D cl cells slots (ws) (pc + 3) (lv) (st)) : zW p l e R s m args below meth c Q nL A H0 D cl cells slots (ws) (pc) (lv) (.int x :: st) := fun H locs ls hP hD hS hl => lv_if_ne C.1.1 C.1.2.1 hdg ht (fun h => kt h H locs ls hP hD hS hl) (fun h => kf h H locs ls hP hD hS hl)
theorem z_if_lt (C : zC p s m args c cc nL Ts own A H0 D cl tys) {x : Int32} {off : Int} {tgt : Nat} (hdg : decode cc pc = .ok (.ifCond .lt off, 3)) (ht : (pc : Int) + off = (tgt : Int)) (kt : x < 0 → zW p l e R s m args below meth c Q nL A H0 D cl cells slots (ws) (tgt) (lv) (st)) (kf : ¬ x < 0 → zW p l e R s m args below meth c Q nL A H0 D cl cells slots (ws) (pc + 3) (lv) (st)) : zW p l e R s m args below meth c Q nL A H0 D cl cells slots (ws) (pc) (lv) (.int x :: st) := fun H locs ls hP hD hS hl => lv_if_lt C.1.1 C.1.2.1 hdg ht (fun h => kt h H locs ls hP hD hS hl) (fun h => kf h H locs ls hP hD hS hl)
theorem z_if_ge (C : zC p s m args c cc nL Ts own A H0 D cl tys) {x : Int32} {off : Int} {tgt : Nat} (hdg : decode cc pc = .ok (.ifCond .ge off, 3)) (ht : (pc : Int) + off = (tgt : Int)) (kt : 0 ≤ x → zW p l e R s m args below meth c Q nL A H0 D cl cells slots (ws) (tgt) (lv) (st)) (kf : ¬ 0 ≤ x → zW p l e R s m args below meth c Q nL A H0 D cl cells slots (ws) (pc + 3) (lv) (st)) : zW p l e R s m args below meth c Q nL A H0 D cl cells slots (ws) (pc) (lv) (.int x :: st) := fun H locs ls hP hD hS hl => lv_if_ge C.1.1 C.1.2.1 hdg ht (fun h => kt h H locs ls hP hD hS hl) (fun h => kf h H locs ls hP hD hS hl)
theorem z_if_gt (C : zC p s m args c cc nL Ts own A H0 D cl tys) {x : Int32} {off : Int} {tgt : Nat} (hdg : decode cc pc = .ok (.ifCond .gt off, 3)) (ht : (pc : Int) + off = (tgt : Int)) (kt : 0 < x → zW p l e R s m args below meth c Q nL A H0 D cl cells slots (ws) (tgt) (lv) (st)) (kf : ¬ 0 < x → zW p l e R s m args below meth c Q nL A H0 D cl cells slots (ws) (pc + 3) (lv) (st)) : zW p l e R s m args below meth c Q nL A H0 D cl cells slots (ws) (pc) (lv) (.int x :: st) := fun H locs ls hP hD hS hl => lv_if_gt C.1.1 C.1.2.1 hdg ht (fun h => kt h H locs ls hP hD hS hl) (fun h => kf h H locs ls hP hD hS hl)
theorem z_if_le (C : zC p s m args c cc nL Ts own A H0 D cl tys) {x : Int32} {off : Int} {tgt : Nat} (hdg : decode cc pc = .ok (.ifCond .le off, 3)) (ht : (pc : Int) + off = (tgt : Int)) (kt : x ≤ 0 → zW p l e R s m args below meth c Q nL A H0 D cl cells slots (ws) (tgt) (lv) (st)) (kf : ¬ x ≤ 0 → zW p l e R s m args below meth c Q nL A H0 D cl cells slots (ws) (pc + 3) (lv) (st)) : zW p l e R s m args below meth c Q nL A H0 D cl cells slots (ws) (pc) (lv) (.int x :: st) := fun H locs ls hP hD hS hl => lv_if_le C.1.1 C.1.2.1 hdg ht (fun h => kt h H locs ls hP hD hS hl) (fun h => kf h H locs ls hP hD hS hl)
theorem z_icmp_eq (C : zC p s m args c cc nL Ts own A H0 D cl tys) {x y : Int32} {off : Int} {tgt : Nat} (hdg : decode cc pc = .ok (.if_icmp .eq off, 3)) (ht : (pc : Int) + off = (tgt : Int)) (kt : x = y → zW p l e R s m args below meth c Q nL A H0 D cl cells slots (ws) (tgt) (lv) (st)) (kf : ¬ x = y → zW p l e R s m args below meth c Q nL A H0 D cl cells slots (ws) (pc + 3) (lv) (st)) : zW p l e R s m args below meth c Q nL A H0 D cl cells slots (ws) (pc) (lv) (.int y :: .int x :: st) := fun H locs ls hP hD hS hl => lv_icmp_eq C.1.1 C.1.2.1 hdg ht (fun h => kt h H locs ls hP hD hS hl) (fun h => kf h H locs ls hP hD hS hl)
theorem z_icmp_ne (C : zC p s m args c cc nL Ts own A H0 D cl tys) {x y : Int32} {off : Int} {tgt : Nat} (hdg : decode cc pc = .ok (.if_icmp .ne off, 3)) (ht : (pc : Int) + off = (tgt : Int)) (kt : ¬ x = y → zW p l e R s m args below meth c Q nL A H0 D cl cells slots (ws) (tgt) (lv) (st)) (kf : x = y → zW p l e R s m args below meth c Q nL A H0 D cl cells slots (ws) (pc + 3) (lv) (st)) : zW p l e R s m args below meth c Q nL A H0 D cl cells slots (ws) (pc) (lv) (.int y :: .int x :: st) := fun H locs ls hP hD hS hl => lv_icmp_ne C.1.1 C.1.2.1 hdg ht (fun h => kt h H locs ls hP hD hS hl) (fun h => kf h H locs ls hP hD hS hl)
theorem z_icmp_lt (C : zC p s m args c cc nL Ts own A H0 D cl tys) {x y : Int32} {off : Int} {tgt : Nat} (hdg : decode cc pc = .ok (.if_icmp .lt off, 3)) (ht : (pc : Int) + off = (tgt : Int)) (kt : x < y → zW p l e R s m args below meth c Q nL A H0 D cl cells slots (ws) (tgt) (lv) (st)) (kf : ¬ x < y → zW p l e R s m args below meth c Q nL A H0 D cl cells slots (ws) (pc + 3) (lv) (st)) : zW p l e R s m args below meth c Q nL A H0 D cl cells slots (ws) (pc) (lv) (.int y :: .int x :: st) := fun H locs ls hP hD hS hl => lv_icmp_lt C.1.1 C.1.2.1 hdg ht (fun h => kt h H locs ls hP hD hS hl) (fun h => kf h H locs ls hP hD hS hl)
theorem z_icmp_ge (C : zC p s m args c cc nL Ts own A H0 D cl tys) {x y : Int32} {off : Int} {tgt : Nat} (hdg : decode cc pc = .ok (.if_icmp .ge off, 3)) (ht : (pc : Int) + off = (tgt : Int)) (kt : y ≤ x → zW p l e R s m args below meth c Q nL A H0 D cl cells slots (ws) (tgt) (lv) (st)) (kf : ¬ y ≤ x → zW p l e R s m args below meth c Q nL A H0 D cl cells slots (ws) (pc + 3) (lv) (st)) : zW p l e R s m args below meth c Q nL A H0 D cl cells slots (ws) (pc) (lv) (.int y :: .int x :: st) := fun H locs ls hP hD hS hl => lv_icmp_ge C.1.1 C.1.2.1 hdg ht (fun h => kt h H locs ls hP hD hS hl) (fun h => kf h H locs ls hP hD hS hl)
theorem z_icmp_gt (C : zC p s m args c cc nL Ts own A H0 D cl tys) {x y : Int32} {off : Int} {tgt : Nat} (hdg : decode cc pc = .ok (.if_icmp .gt off, 3)) (ht : (pc : Int) + off = (tgt : Int)) (kt : y < x → zW p l e R s m args below meth c Q nL A H0 D cl cells slots (ws) (tgt) (lv) (st)) (kf : ¬ y < x → zW p l e R s m args below meth c Q nL A H0 D cl cells slots (ws) (pc + 3) (lv) (st)) : zW p l e R s m args below meth c Q nL A H0 D cl cells slots (ws) (pc) (lv) (.int y :: .int x :: st) := fun H locs ls hP hD hS hl => lv_icmp_gt C.1.1 C.1.2.1 hdg ht (fun h => kt h H locs ls hP hD hS hl) (fun h => kf h H locs ls hP hD hS hl)
theorem z_icmp_le (C : zC p s m args c cc nL Ts own A H0 D cl tys) {x y : Int32} {off : Int} {tgt : Nat} (hdg : decode cc pc = .ok (.if_icmp .le off, 3)) (ht : (pc : Int) + off = (tgt : Int)) (kt : x ≤ y → zW p l e R s m args below meth c Q nL A H0 D cl cells slots (ws) (tgt) (lv) (st)) (kf : ¬ x ≤ y → zW p l e R s m args below meth c Q nL A H0 D cl cells slots (ws) (pc + 3) (lv) (st)) : zW p l e R s m args below meth c Q nL A H0 D cl cells slots (ws) (pc) (lv) (.int y :: .int x :: st) := fun H locs ls hP hD hS hl => lv_icmp_le C.1.1 C.1.2.1 hdg ht (fun h => kt h H locs ls hP hD hS hl) (fun h => kf h H locs ls hP hD hS hl)
theorem lgc_eq (x y : Int64) : (lg_cmp x y = 0) ↔ x = y := by
  unfold lg_cmp
  by_cases h1 : y < x
  · have h2 : x ≠ y := fun h => Int64.lt_irrefl (h ▸ h1)
    simp [h1, h2]
  · by_cases h2 : x = y
    · simp [h1, h2]
    · simp [h1, h2]
theorem lgc_lt (x y : Int64) : (lg_cmp x y < 0) ↔ x < y := by
  unfold lg_cmp
  by_cases h1 : y < x
  · have h2 : ¬ x < y := fun h => Int64.lt_irrefl (Int64.lt_trans h1 h)
    simp [h1, h2]
  · by_cases h2 : x = y
    · subst h2; simp [h1]
    · have h3 : x < y := by
        rcases Int64.lt_or_lt_of_ne h2 with h | h
        · exact h
        · exact absurd h h1
      simp [h1, h2, h3]
theorem lgc_gt (x y : Int64) : (0 < lg_cmp x y) ↔ y < x := by
  unfold lg_cmp
  by_cases h1 : y < x
  · simp [h1]
  · by_cases h2 : x = y
    · simp [h1, h2]
    · simp [h1, h2]
theorem z_lcmp_eq (C : zC p s m args c cc nL Ts own A H0 D cl tys) {x y : Int64} {off : Int} {tgt : Nat} (h1 : decode cc pc = .ok (.lcmp, 1)) (hdg : decode cc (pc + 1) = .ok (.ifCond .eq off, 3)) (ht : ((pc + 1 : Nat) : Int) + off = (tgt : Int)) (kt : x = y → zW p l e R s m args below meth c Q nL A H0 D cl cells slots (ws) (tgt) (lv) (st)) (kf : ¬ x = y → zW p l e R s m args below meth c Q nL A H0 D cl cells slots (ws) (pc + 1 + 3) (lv) (st)) : zW p l e R s m args below meth c Q nL A H0 D cl cells slots (ws) (pc) (lv) (.long y :: .long x :: st) := z_lcmp C h1 (z_if_eq C hdg ht (fun h => kt ((lgc_eq x y).mp h)) (fun h => kf (fun q => h ((lgc_eq x y).mpr q))))
theorem z_lcmp_ne (C : zC p s m args c cc nL Ts own A H0 D cl tys) {x y : Int64} {off : Int} {tgt : Nat} (h1 : decode cc pc = .ok (.lcmp, 1)) (hdg : decode cc (pc + 1) = .ok (.ifCond .ne off, 3)) (ht : ((pc + 1 : Nat) : Int) + off = (tgt : Int)) (kt : ¬ x = y → zW p l e R s m args below meth c Q nL A H0 D cl cells slots (ws) (tgt) (lv) (st)) (kf : x = y → zW p l e R s m args below meth c Q nL A H0 D cl cells slots (ws) (pc + 1 + 3) (lv) (st)) : zW p l e R s m args below meth c Q nL A H0 D cl cells slots (ws) (pc) (lv) (.long y :: .long x :: st) := z_lcmp C h1 (z_if_ne C hdg ht (fun h => kt ((not_congr (lgc_eq x y)).mp h)) (fun h => kf ((lgc_eq x y).mp h)))
theorem z_lcmp_lt (C : zC p s m args c cc nL Ts own A H0 D cl tys) {x y : Int64} {off : Int} {tgt : Nat} (h1 : decode cc pc = .ok (.lcmp, 1)) (hdg : decode cc (pc + 1) = .ok (.ifCond .lt off, 3)) (ht : ((pc + 1 : Nat) : Int) + off = (tgt : Int)) (kt : x < y → zW p l e R s m args below meth c Q nL A H0 D cl cells slots (ws) (tgt) (lv) (st)) (kf : ¬ x < y → zW p l e R s m args below meth c Q nL A H0 D cl cells slots (ws) (pc + 1 + 3) (lv) (st)) : zW p l e R s m args below meth c Q nL A H0 D cl cells slots (ws) (pc) (lv) (.long y :: .long x :: st) := z_lcmp C h1 (z_if_lt C hdg ht (fun h => kt ((lgc_lt x y).mp h)) (fun h => kf (fun q => h ((lgc_lt x y).mpr q))))
theorem z_lcmp_gt (C : zC p s m args c cc nL Ts own A H0 D cl tys) {x y : Int64} {off : Int} {tgt : Nat} (h1 : decode cc pc = .ok (.lcmp, 1)) (hdg : decode cc (pc + 1) = .ok (.ifCond .gt off, 3)) (ht : ((pc + 1 : Nat) : Int) + off = (tgt : Int)) (kt : y < x → zW p l e R s m args below meth c Q nL A H0 D cl cells slots (ws) (tgt) (lv) (st)) (kf : ¬ y < x → zW p l e R s m args below meth c Q nL A H0 D cl cells slots (ws) (pc + 1 + 3) (lv) (st)) : zW p l e R s m args below meth c Q nL A H0 D cl cells slots (ws) (pc) (lv) (.long y :: .long x :: st) := z_lcmp C h1 (z_if_gt C hdg ht (fun h => kt ((lgc_gt x y).mp h)) (fun h => kf (fun q => h ((lgc_gt x y).mpr q))))
theorem z_lcmp_ge (C : zC p s m args c cc nL Ts own A H0 D cl tys) {x y : Int64} {off : Int} {tgt : Nat} (h1 : decode cc pc = .ok (.lcmp, 1)) (hdg : decode cc (pc + 1) = .ok (.ifCond .ge off, 3)) (ht : ((pc + 1 : Nat) : Int) + off = (tgt : Int)) (kt : ¬ x < y → zW p l e R s m args below meth c Q nL A H0 D cl cells slots (ws) (tgt) (lv) (st)) (kf : x < y → zW p l e R s m args below meth c Q nL A H0 D cl cells slots (ws) (pc + 1 + 3) (lv) (st)) : zW p l e R s m args below meth c Q nL A H0 D cl cells slots (ws) (pc) (lv) (.long y :: .long x :: st) := z_lcmp C h1 (z_if_ge C hdg ht (fun h => kt ((Iff.trans (Int32.not_lt).symm (not_congr (lgc_lt x y))).mp h)) (fun h => kf (Decidable.of_not_not (fun q => h ((Iff.trans (Int32.not_lt).symm (not_congr (lgc_lt x y))).mpr q)))))
theorem z_lcmp_le (C : zC p s m args c cc nL Ts own A H0 D cl tys) {x y : Int64} {off : Int} {tgt : Nat} (h1 : decode cc pc = .ok (.lcmp, 1)) (hdg : decode cc (pc + 1) = .ok (.ifCond .le off, 3)) (ht : ((pc + 1 : Nat) : Int) + off = (tgt : Int)) (kt : ¬ y < x → zW p l e R s m args below meth c Q nL A H0 D cl cells slots (ws) (tgt) (lv) (st)) (kf : y < x → zW p l e R s m args below meth c Q nL A H0 D cl cells slots (ws) (pc + 1 + 3) (lv) (st)) : zW p l e R s m args below meth c Q nL A H0 D cl cells slots (ws) (pc) (lv) (.long y :: .long x :: st) := z_lcmp C h1 (z_if_le C hdg ht (fun h => kt ((Iff.trans (Int32.not_lt).symm (not_congr (lgc_gt x y))).mp h)) (fun h => kf (Decidable.of_not_not (fun q => h ((Iff.trans (Int32.not_lt).symm (not_congr (lgc_gt x y))).mpr q)))))
theorem z_goto (C : zC p s m args c cc nL Ts own A H0 D cl tys) {off : Int} {tgt : Nat} (hdg : decode cc pc = .ok (.goto off, 3)) (ht : (pc : Int) + off = (tgt : Int)) (kk : zW p l e R s m args below meth c Q nL A H0 D cl cells slots (ws) (tgt) (lv) (st)) : zW p l e R s m args below meth c Q nL A H0 D cl cells slots (ws) (pc) (lv) (st) := fun H locs ls hP hD hS hl => lv_goto C.1.1 C.1.2.1 hdg ht (kk H locs ls hP hD hS hl)
theorem z_ldc (C : zC p s m args c cc nL Ts own A H0 D cl tys) {index : Nat} {v : Int32} (hc : Cond.constant own index v ∈ Ts) (hdg : decode cc pc = .ok (.ldc index, 2)) (kk : zW p l e R s m args below meth c Q nL A H0 D cl cells slots (ws) (pc + 2) (lv) (.int v :: st)) : zW p l e R s m args below meth c Q nL A H0 D cl cells slots (ws) (pc) (lv) (st) := fun H locs ls hP hD hS hl => lv_ldc C.1.1 C.1.2.1 C.1.2.2.2.1 (C.1.2.2.2.2 _ hc) hdg (kk H locs ls hP hD hS hl)
theorem z_ldcw (C : zC p s m args c cc nL Ts own A H0 D cl tys) {index : Nat} {v : Int32} (hc : Cond.constant own index v ∈ Ts) (hdg : decode cc pc = .ok (.ldc_w index, 3)) (kk : zW p l e R s m args below meth c Q nL A H0 D cl cells slots (ws) (pc + 3) (lv) (.int v :: st)) : zW p l e R s m args below meth c Q nL A H0 D cl cells slots (ws) (pc) (lv) (st) := fun H locs ls hP hD hS hl => lv_ldcw C.1.1 C.1.2.1 C.1.2.2.2.1 (C.1.2.2.2.2 _ hc) hdg (kk H locs ls hP hD hS hl)
theorem z_ldc2 (C : zC p s m args c cc nL Ts own A H0 D cl tys) {index : Nat} {v : Int64} (hc : Cond.constantLong own index v ∈ Ts) (hdg : decode cc pc = .ok (.ldc2_w index, 3)) (kk : zW p l e R s m args below meth c Q nL A H0 D cl cells slots (ws) (pc + 3) (lv) (.long v :: st)) : zW p l e R s m args below meth c Q nL A H0 D cl cells slots (ws) (pc) (lv) (st) := fun H locs ls hP hD hS hl => lv_ldc2 C.1.1 C.1.2.1 C.1.2.2.2.1 (C.1.2.2.2.2 _ hc) hdg (kk H locs ls hP hD hS hl)
theorem z_topi {x : Int32} (y : Int32) (h : x = y) (kk : zW p l e R s m args below meth c Q nL A H0 D cl cells slots (ws) (pc) (lv) (.int y :: st)) : zW p l e R s m args below meth c Q nL A H0 D cl cells slots (ws) (pc) (lv) (.int x :: st) := h ▸ kk
theorem z_topl {x : Int64} (y : Int64) (h : x = y) (kk : zW p l e R s m args below meth c Q nL A H0 D cl cells slots (ws) (pc) (lv) (.long y :: st)) : zW p l e R s m args below meth c Q nL A H0 D cl cells slots (ws) (pc) (lv) (.long x :: st) := h ▸ kk
theorem z_lv (ks : List Nat) (h : lv_pick lv ks = lv') (kk : zW p l e R s m args below meth c Q nL A H0 D cl cells slots (ws) (pc) (lv') (st)) : zW p l e R s m args below meth c Q nL A H0 D cl cells slots (ws) (pc) (lv) (st) := fun H locs ls hP hD hS hl => kk H locs ls hP hD hS (lv_sub hl ks h)
theorem z_ws (h : ws = ws') (kk : zW p l e R s m args below meth c Q nL A H0 D cl cells slots (ws') (pc) (lv) (st)) : zW p l e R s m args below meth c Q nL A H0 D cl cells slots (ws) (pc) (lv) (st) := h ▸ kk
theorem z_wsub (ks : List Nat) (hn : va_nd ks = true) (h : ks.map (fun i => ws[i]?) = ws'.map some) (kk : zW p l e R s m args below meth c Q nL A H0 D cl cells slots (ws') (pc) (lv) (st)) : zW p l e R s m args below meth c Q nL A H0 D cl cells slots (ws) (pc) (lv) (st) := fun H locs ls hP hD hS hl => kk H locs ls (hP.sub ks (by have h2 := congrArg (fun (z : List (Option (Nat × va_E))) => z.filterMap id) h; simpa [List.filterMap_map, Function.comp_def] using h2)) (hD.sub ks hn h) hS hl
theorem z_widen {k n : Nat} (h1 : cells ≤ k) (h2 : slots ≤ n) (kk : zW p l e R s m args below meth c Q nL A H0 D cl k n (ws) (pc) (lv) (st)) : zW p l e R s m args below meth c Q nL A H0 D cl cells slots (ws) (pc) (lv) (st) := fun H locs ls hP hD hS hl => W.widen h1 h2 (kk H locs ls hP hD hS hl)
theorem z_get (C : zC p s m args c cc nL Ts own A H0 D cl tys) {ref Cn : String} {T : u_T} {N ci index a : Nat} (hin : ∀ w ∈ u_ws Cn T N, w ∈ Ts) (hc : cl[ci]? = some (Cn, T, N)) (k : Nat) (hk : k < N) (hlink : Cond.fieldLink own index ref (T k).2.1 (T k).2.2.1 ∈ Ts) (hsame : (T k).1 = ref) (hdg : decode cc pc = .ok (.getfield index, 3)) (q0 : Nat) {fs : List Value} {v : Value} (he : ws[q0]? = some (a, .inr (ci, fs))) (hv : fs[k]? = some v) (kk : zW p l e R s m args below meth c Q nL A H0 D cl cells slots (ws) (pc + 3) (lv) (v :: st)) : zW p l e R s m args below meth c Q nL A H0 D cl cells slots (ws) (pc) (lv) (.ref a :: st) := fun H locs ls hP hD hS hl => va_get (D := D) C.1.1 C.1.2.1 C.1.2.2.2.2 hin C.1.2.2.2.1 C.2.1 hP q0 he hc k hk (C.1.2.2.2.2 _ hlink) (fun _ h9 => hsame ▸ h9) hv hdg (kk H locs ls hP hD hS hl)
theorem z_put (C : zC p s m args c cc nL Ts own A H0 D cl tys) {ref Cn : String} {T : u_T} {N ci index a : Nat} (hin : ∀ w ∈ u_ws Cn T N, w ∈ Ts) (ty0 : Nat → FieldType) (hty : ∀ k, k < N → parseFieldDescriptor (T k).2.2.1 = some (ty0 k)) (hnm : ∀ a, a < N → ∀ b, b < N → a ≠ b → (T a).2.1 ≠ (T b).2.1) (hc : cl[ci]? = some (Cn, T, N)) (k : Nat) (hk : k < N) (hlink : Cond.fieldLink own index ref (T k).2.1 (T k).2.2.1 ∈ Ts) (hsame : (T k).1 = ref) (hfin : (T k).2.2.2 = false) {v : Value} (hn : narrow (ty0 k) v = v) (hfit : fits (ty0 k) v = true) (hdg : decode cc pc = .ok (.putfield index, 3)) (q0 : Nat) {fs : List Value} (he : ws[q0]? = some (a, .inr (ci, fs))) (hlen : k < fs.length) (hw : ws.set q0 (a, .inr (ci, fs.set k v)) = ws') (kk : zW p l e R s m args below meth c Q nL A H0 D cl cells slots (ws') (pc + 3) (lv) (st)) : zW p l e R s m args below meth c Q nL A H0 D cl cells slots (ws) (pc) (lv) (v :: .ref a :: st) := fun H locs ls hP hD hS hl => va_put (D := D) C.1.1 C.1.2.1 C.1.2.2.2.2 hin ty0 hty hnm C.1.2.2.2.1 C.2.1 hP hD hS q0 he hc k hk (C.1.2.2.2.2 _ hlink) (fun _ h9 => hsame ▸ h9) hfin (hty k hk) hn hfit hlen hdg (fun H1 locs1 p1 d1 s1 => kk H1 locs1 ls (hw ▸ p1) (hw ▸ d1) s1 hl)
theorem z_putF (C : zC p s m args c cc nL Ts own A H0 D cl tys) {ref Cn : String} {T : u_T} {N ci index a : Nat} (hin : ∀ w ∈ u_ws Cn T N, w ∈ Ts) (ty0 : Nat → FieldType) (hty : ∀ k, k < N → parseFieldDescriptor (T k).2.2.1 = some (ty0 k)) (hnm : ∀ a, a < N → ∀ b, b < N → a ≠ b → (T a).2.1 ≠ (T b).2.1) (hc : cl[ci]? = some (Cn, T, N)) (k : Nat) (hk : k < N) (hlink : Cond.fieldLink own index ref (T k).2.1 (T k).2.2.1 ∈ Ts) (hsame : (T k).1 = ref) (hfin : (T k).2.2.2 = true) (hin2 : meth.name = "<init>") (hdecl : (T k).1 = own) {v : Value} (hn : narrow (ty0 k) v = v) (hfit : fits (ty0 k) v = true) (hdg : decode cc pc = .ok (.putfield index, 3)) (q0 : Nat) {fs : List Value} (he : ws[q0]? = some (a, .inr (ci, fs))) (hlen : k < fs.length) (hw : ws.set q0 (a, .inr (ci, fs.set k v)) = ws') (kk : zW p l e R s m args below meth c Q nL A H0 D cl cells slots (ws') (pc + 3) (lv) (st)) : zW p l e R s m args below meth c Q nL A H0 D cl cells slots (ws) (pc) (lv) (v :: .ref a :: st) := fun H locs ls hP hD hS hl => va_putF (D := D) C.1.1 C.1.2.1 C.1.2.2.2.2 hin ty0 hty hnm C.1.2.2.2.1 C.2.1 hP hD hS q0 he hc k hk (C.1.2.2.2.2 _ hlink) (fun _ h9 => hsame ▸ h9) hfin hin2 hdecl (hty k hk) hn hfit hlen hdg (fun H1 locs1 p1 d1 s1 => kk H1 locs1 ls (hw ▸ p1) (hw ▸ d1) s1 hl)
theorem z_iald (C : zC p s m args c cc nL Ts own A H0 D cl tys) {a : Nat} {cA : ClassId} {n : Nat} {f : Nat → Int32} {i : Int32} (t0 : Nat) (ht : tys[t0]? = some (cA, .int)) (q0 : Nat) (he : ws[q0]? = some (a, .inl (cA, n, .inl f))) (hdg : decode cc pc = .ok (.iaload, 1)) (j : Nat) (hi : i = nI j) (hj : j < n) (hn : n < 2 ^ 31) (kk : zW p l e R s m args below meth c Q nL A H0 D cl cells slots (ws) (pc + 1) (lv) (.int (f j) :: st)) : zW p l e R s m args below meth c Q nL A H0 D cl cells slots (ws) (pc) (lv) (.int i :: .ref a :: st) := fun H locs ls hP hD hS hl => va_iald C.1.1 C.1.2.1 C.2.1 hP q0 t0 he ht (by rw [hi]; exact vp_in_nI hj hn) hdg (by rw [hi, nI_clamp (Nat.lt_trans hj hn)]; exact kk H locs ls hP hD hS hl)
theorem z_iast (C : zC p s m args c cc nL Ts own A H0 D cl tys) {a : Nat} {cA : ClassId} {n : Nat} {f : Nat → Int32} {i : Int32} {x : Int32} (t0 : Nat) (ht : tys[t0]? = some (cA, .int)) (q0 : Nat) (he : ws[q0]? = some (a, .inl (cA, n, .inl f))) (hdg : decode cc pc = .ok (.iastore, 1)) (j : Nat) (hi : i = nI j) (hj : j < n) (hn : n < 2 ^ 31) (hw : ws.set q0 (a, .inl (cA, n, .inl (upd f j x))) = ws') (kk : zW p l e R s m args below meth c Q nL A H0 D cl cells slots (ws') (pc + 1) (lv) (st)) : zW p l e R s m args below meth c Q nL A H0 D cl cells slots (ws) (pc) (lv) (.int x :: .int i :: .ref a :: st) := fun H locs ls hP hD hS hl => va_iast C.1.1 C.1.2.1 C.2.1 hP hD hS q0 t0 he ht (by rw [hi]; exact vp_in_nI hj hn) hdg (by rw [hi, nI_clamp (Nat.lt_trans hj hn), hw]; exact fun H1 locs1 p1 d1 s1 => kk H1 locs1 ls p1 d1 s1 hl)
theorem z_lald (C : zC p s m args c cc nL Ts own A H0 D cl tys) {a : Nat} {cA : ClassId} {n : Nat} {f : Nat → Int64} {i : Int32} (t0 : Nat) (ht : tys[t0]? = some (cA, .long)) (q0 : Nat) (he : ws[q0]? = some (a, .inl (cA, n, .inr (.inl f)))) (hdg : decode cc pc = .ok (.laload, 1)) (j : Nat) (hi : i = nI j) (hj : j < n) (hn : n < 2 ^ 31) (kk : zW p l e R s m args below meth c Q nL A H0 D cl cells slots (ws) (pc + 1) (lv) (.long (f j) :: st)) : zW p l e R s m args below meth c Q nL A H0 D cl cells slots (ws) (pc) (lv) (.int i :: .ref a :: st) := fun H locs ls hP hD hS hl => va_lald C.1.1 C.1.2.1 C.2.1 hP q0 t0 he ht (by rw [hi]; exact vp_in_nI hj hn) hdg (by rw [hi, nI_clamp (Nat.lt_trans hj hn)]; exact kk H locs ls hP hD hS hl)
theorem z_last (C : zC p s m args c cc nL Ts own A H0 D cl tys) {a : Nat} {cA : ClassId} {n : Nat} {f : Nat → Int64} {i : Int32} {x : Int64} (t0 : Nat) (ht : tys[t0]? = some (cA, .long)) (q0 : Nat) (he : ws[q0]? = some (a, .inl (cA, n, .inr (.inl f)))) (hdg : decode cc pc = .ok (.lastore, 1)) (j : Nat) (hi : i = nI j) (hj : j < n) (hn : n < 2 ^ 31) (hw : ws.set q0 (a, .inl (cA, n, .inr (.inl (vp_updL f j x)))) = ws') (kk : zW p l e R s m args below meth c Q nL A H0 D cl cells slots (ws') (pc + 1) (lv) (st)) : zW p l e R s m args below meth c Q nL A H0 D cl cells slots (ws) (pc) (lv) (.long x :: .int i :: .ref a :: st) := fun H locs ls hP hD hS hl => va_last C.1.1 C.1.2.1 C.2.1 hP hD hS q0 t0 he ht (by rw [hi]; exact vp_in_nI hj hn) hdg (by rw [hi, nI_clamp (Nat.lt_trans hj hn), hw]; exact fun H1 locs1 p1 d1 s1 => kk H1 locs1 ls p1 d1 s1 hl)
theorem z_dald (C : zC p s m args c cc nL Ts own A H0 D cl tys) {a : Nat} {cA : ClassId} {n : Nat} {f : Nat → UInt64} {i : Int32} (t0 : Nat) (ht : tys[t0]? = some (cA, .double)) (q0 : Nat) (he : ws[q0]? = some (a, .inl (cA, n, .inr (.inr (.inr (.inl f)))))) (hdg : decode cc pc = .ok (.daload, 1)) (j : Nat) (hi : i = nI j) (hj : j < n) (hn : n < 2 ^ 31) (kk : zW p l e R s m args below meth c Q nL A H0 D cl cells slots (ws) (pc + 1) (lv) (.double (f j) :: st)) : zW p l e R s m args below meth c Q nL A H0 D cl cells slots (ws) (pc) (lv) (.int i :: .ref a :: st) := fun H locs ls hP hD hS hl => va_dald C.1.1 C.1.2.1 C.2.1 hP q0 t0 he ht (by rw [hi]; exact vp_in_nI hj hn) hdg (by rw [hi, nI_clamp (Nat.lt_trans hj hn)]; exact kk H locs ls hP hD hS hl)
theorem z_dast (C : zC p s m args c cc nL Ts own A H0 D cl tys) {a : Nat} {cA : ClassId} {n : Nat} {f : Nat → UInt64} {i : Int32} {x : UInt64} (t0 : Nat) (ht : tys[t0]? = some (cA, .double)) (q0 : Nat) (he : ws[q0]? = some (a, .inl (cA, n, .inr (.inr (.inr (.inl f)))))) (hdg : decode cc pc = .ok (.dastore, 1)) (j : Nat) (hi : i = nI j) (hj : j < n) (hn : n < 2 ^ 31) (hw : ws.set q0 (a, .inl (cA, n, .inr (.inr (.inr (.inl (vf_upd f j x)))))) = ws') (kk : zW p l e R s m args below meth c Q nL A H0 D cl cells slots (ws') (pc + 1) (lv) (st)) : zW p l e R s m args below meth c Q nL A H0 D cl cells slots (ws) (pc) (lv) (.double x :: .int i :: .ref a :: st) := fun H locs ls hP hD hS hl => va_dast C.1.1 C.1.2.1 C.2.1 hP hD hS q0 t0 he ht (by rw [hi]; exact vp_in_nI hj hn) hdg (by rw [hi, nI_clamp (Nat.lt_trans hj hn), hw]; exact fun H1 locs1 p1 d1 s1 => kk H1 locs1 ls p1 d1 s1 hl)
theorem z_aald (C : zC p s m args c cc nL Ts own A H0 D cl tys) {a y : Nat} {cA : ClassId} {n : Nat} {f : Nat → Option Nat} {ty : FieldType} {i : Int32} (t0 : Nat) (ht : tys[t0]? = some (cA, .array ty)) (q0 : Nat) (he : ws[q0]? = some (a, .inl (cA, n, .inr (.inr (.inr (.inr f)))))) (hdg : decode cc pc = .ok (.aaload, 1)) (j : Nat) (hi : i = nI j) (hj : j < n) (hn : n < 2 ^ 31) (hy : f j = some y) (kk : zW p l e R s m args below meth c Q nL A H0 D cl cells slots (ws) (pc + 1) (lv) (.ref y :: st)) : zW p l e R s m args below meth c Q nL A H0 D cl cells slots (ws) (pc) (lv) (.int i :: .ref a :: st) := fun H locs ls hP hD hS hl => W.aald (v := .ref y) (ty := .array ty) C.1.1 C.1.2.1 (hP q0 _ he) ((C.2.1.2 t0 _ ht).1 n (fun j => va_rf (f j))) rfl (fun q => by cases q) (by show ¬ (i < 0 ∨ (arrV _ _ _).slots.size ≤ _); rw [arrV_size, hi]; exact vp_in_nI hj hn) (by show (arrV _ _ _).slots[_]? = _; rw [hi, nI_clamp (Nat.lt_trans hj hn), arrV_read _ _ hj]; exact congrArg (fun z => some (va_rf z)) hy) rfl rfl hdg (kk H locs ls hP hD hS hl)
theorem z_mmax (C : zC p s m args c cc nL Ts own A H0 D cl tys) {x y : Int32} {index : Nat} (hlink : Cond.methodLink own index Lib.Math.max.name ∈ Ts) (hstat : Cond.static Lib.Math.max.name ∈ Ts) (hini : Cond.initialized "java/lang/Math" ∈ Ts) (hcode : Cond.code Lib.Math.max.name Lib.Math.max.code 2 (some .int) ∈ Ts) (hframes : 1 ≤ R.frames) (hlocals : (st.map fun v => v.category).sum + 13 ≤ R.locals) (hc : cells ≤ R.cells) (hs : slots ≤ R.slots) (hdg : decode cc pc = .ok (.invokestatic index, 3)) (kk : zW p l e R s m args below meth c Q nL A H0 D cl cells slots (ws) (pc + 3) (lv) (.int (if x < y then y else x) :: st)) : zW p l e R s m args below meth c Q nL A H0 D cl cells slots (ws) (pc) (lv) (.int y :: .int x :: st) := fun H locs ls hP hD hS hl => va_mmax C.1.1 C.1.2.1 (C.1.2.2.1.trans hl.1.symm) C.1.2.2.2.1 (C.1.2.2.2.2 _ hlink) (C.1.2.2.2.2 _ hstat) (C.1.2.2.2.2 _ hini) (C.1.2.2.2.2 _ hcode) hframes hlocals hc hs hdg (kk H locs ls hP hD hS hl)
theorem z_mmin (C : zC p s m args c cc nL Ts own A H0 D cl tys) {x y : Int32} {index : Nat} (hlink : Cond.methodLink own index Lib.Math.min.name ∈ Ts) (hstat : Cond.static Lib.Math.min.name ∈ Ts) (hini : Cond.initialized "java/lang/Math" ∈ Ts) (hcode : Cond.code Lib.Math.min.name Lib.Math.min.code 2 (some .int) ∈ Ts) (hframes : 1 ≤ R.frames) (hlocals : (st.map fun v => v.category).sum + 13 ≤ R.locals) (hc : cells ≤ R.cells) (hs : slots ≤ R.slots) (hdg : decode cc pc = .ok (.invokestatic index, 3)) (kk : zW p l e R s m args below meth c Q nL A H0 D cl cells slots (ws) (pc + 3) (lv) (.int (if y < x then y else x) :: st)) : zW p l e R s m args below meth c Q nL A H0 D cl cells slots (ws) (pc) (lv) (.int y :: .int x :: st) := fun H locs ls hP hD hS hl => va_mmin C.1.1 C.1.2.1 (C.1.2.2.1.trans hl.1.symm) C.1.2.2.2.1 (C.1.2.2.2.2 _ hlink) (C.1.2.2.2.2 _ hstat) (C.1.2.2.2.2 _ hini) (C.1.2.2.2.2 _ hcode) hframes hlocals hc hs hdg (kk H locs ls hP hD hS hl)
theorem z_mabs (C : zC p s m args c cc nL Ts own A H0 D cl tys) {x : Int32} {index : Nat} (hlink : Cond.methodLink own index Lib.Math.abs.name ∈ Ts) (hstat : Cond.static Lib.Math.abs.name ∈ Ts) (hini : Cond.initialized "java/lang/Math" ∈ Ts) (hcode : Cond.code Lib.Math.abs.name Lib.Math.abs.code 1 (some .int) ∈ Ts) (hframes : 1 ≤ R.frames) (hlocals : (st.map fun v => v.category).sum + 13 ≤ R.locals) (hc : cells ≤ R.cells) (hs : slots ≤ R.slots) (hdg : decode cc pc = .ok (.invokestatic index, 3)) (kk : zW p l e R s m args below meth c Q nL A H0 D cl cells slots (ws) (pc + 3) (lv) (.int (if 0 ≤ x then x else 0 - x) :: st)) : zW p l e R s m args below meth c Q nL A H0 D cl cells slots (ws) (pc) (lv) (.int x :: st) := fun H locs ls hP hD hS hl => va_mabs C.1.1 C.1.2.1 (C.1.2.2.1.trans hl.1.symm) C.1.2.2.2.1 (C.1.2.2.2.2 _ hlink) (C.1.2.2.2.2 _ hstat) (C.1.2.2.2.2 _ hini) (C.1.2.2.2.2 _ hcode) hframes hlocals hc hs hdg (kk H locs ls hP hD hS hl)
theorem z_mmaxL (C : zC p s m args c cc nL Ts own A H0 D cl tys) {x y : Int64} {index : Nat} (hlink : Cond.methodLink own index Lib.MathLoose.max_long.x ∈ Ts) (hstat : Cond.static Lib.MathLoose.max_long.x ∈ Ts) (hini : Cond.initialized "java/lang/Math" ∈ Ts) (hcode : Cond.code Lib.MathLoose.max_long.x Lib.MathLoose.max_long.code 4 (some .long) ∈ Ts) (hframes : 1 ≤ R.frames) (hlocals : (st.map fun v => v.category).sum + 15 ≤ R.locals) (hc : cells ≤ R.cells) (hs : slots ≤ R.slots) (hdg : decode cc pc = .ok (.invokestatic index, 3)) (kk : zW p l e R s m args below meth c Q nL A H0 D cl cells slots (ws) (pc + 3) (lv) (.long (if y < x then x else y) :: st)) : zW p l e R s m args below meth c Q nL A H0 D cl cells slots (ws) (pc) (lv) (.long y :: .long x :: st) := fun H locs ls hP hD hS hl => va_mmax_long C.1.1 C.1.2.1 (C.1.2.2.1.trans hl.1.symm) C.1.2.2.2.1 (C.1.2.2.2.2 _ hlink) (C.1.2.2.2.2 _ hstat) (C.1.2.2.2.2 _ hini) (C.1.2.2.2.2 _ hcode) hframes hlocals hc hs hdg (kk H locs ls hP hD hS hl)
theorem z_mminL (C : zC p s m args c cc nL Ts own A H0 D cl tys) {x y : Int64} {index : Nat} (hlink : Cond.methodLink own index Lib.MathLoose.min_long.x ∈ Ts) (hstat : Cond.static Lib.MathLoose.min_long.x ∈ Ts) (hini : Cond.initialized "java/lang/Math" ∈ Ts) (hcode : Cond.code Lib.MathLoose.min_long.x Lib.MathLoose.min_long.code 4 (some .long) ∈ Ts) (hframes : 1 ≤ R.frames) (hlocals : (st.map fun v => v.category).sum + 15 ≤ R.locals) (hc : cells ≤ R.cells) (hs : slots ≤ R.slots) (hdg : decode cc pc = .ok (.invokestatic index, 3)) (kk : zW p l e R s m args below meth c Q nL A H0 D cl cells slots (ws) (pc + 3) (lv) (.long (if y < x then y else x) :: st)) : zW p l e R s m args below meth c Q nL A H0 D cl cells slots (ws) (pc) (lv) (.long y :: .long x :: st) := fun H locs ls hP hD hS hl => va_mmin_long C.1.1 C.1.2.1 (C.1.2.2.1.trans hl.1.symm) C.1.2.2.2.1 (C.1.2.2.2.2 _ hlink) (C.1.2.2.2.2 _ hstat) (C.1.2.2.2.2 _ hini) (C.1.2.2.2.2 _ hcode) hframes hlocals hc hs hdg (kk H locs ls hP hD hS hl)
theorem z_mabsL (C : zC p s m args c cc nL Ts own A H0 D cl tys) {x : Int64} {index : Nat} (hlink : Cond.methodLink own index Lib.MathLoose.abs_long.x ∈ Ts) (hstat : Cond.static Lib.MathLoose.abs_long.x ∈ Ts) (hini : Cond.initialized "java/lang/Math" ∈ Ts) (hcode : Cond.code Lib.MathLoose.abs_long.x Lib.MathLoose.abs_long.code 2 (some .long) ∈ Ts) (hframes : 1 ≤ R.frames) (hlocals : (st.map fun v => v.category).sum + 13 ≤ R.locals) (hc : cells ≤ R.cells) (hs : slots ≤ R.slots) (hdg : decode cc pc = .ok (.invokestatic index, 3)) (kk : zW p l e R s m args below meth c Q nL A H0 D cl cells slots (ws) (pc + 3) (lv) (.long (if 0 < x then x else -x) :: st)) : zW p l e R s m args below meth c Q nL A H0 D cl cells slots (ws) (pc) (lv) (.long x :: st) := fun H locs ls hP hD hS hl => va_mabs_long C.1.1 C.1.2.1 (C.1.2.2.1.trans hl.1.symm) C.1.2.2.2.1 (C.1.2.2.2.2 _ hlink) (C.1.2.2.2.2 _ hstat) (C.1.2.2.2.2 _ hini) (C.1.2.2.2.2 _ hcode) hframes hlocals hc hs hdg (kk H locs ls hP hD hS hl)
end ZROWS
end
section
theorem zj_P {D : va_G} {cl : List vw_C} {X Y : va_W} {H : Heap} (h : va_P D cl (X ++ Y) H) : va_P D cl X H ∧ va_P D cl Y H :=
  ⟨fun k q hk => h k q (by rw [List.getElem?_append_left (List.getElem?_eq_some_iff.mp hk).1]; exact hk), fun k q hk => h (X.length + k) q (by rw [List.getElem?_append_right (by omega), Nat.add_sub_cancel_left]; exact hk)⟩
theorem zj_D {A : Nat → Prop} {X Y : va_W} (h : va_D A (X ++ Y)) : va_D A X ∧ va_D A Y ∧ ∀ (i j : Nat) (p q : Nat × va_E), X[i]? = some p → Y[j]? = some q → p.1 ≠ q.1 := by
  have hx : ∀ (k : Nat) (q : Nat × va_E), X[k]? = some q → (X ++ Y)[k]? = some q := fun k q hk => by rw [List.getElem?_append_left (List.getElem?_eq_some_iff.mp hk).1]; exact hk
  have hy : ∀ (k : Nat) (q : Nat × va_E), Y[k]? = some q → (X ++ Y)[X.length + k]? = some q := fun k q hk => by rw [List.getElem?_append_right (by omega), Nat.add_sub_cancel_left]; exact hk
  refine ⟨⟨fun i j p q hi hj e => h.1 i j p q (hx i p hi) (hx j q hj) e, fun k q hk => h.2 k q (hx k q hk)⟩, ⟨fun i j p q hi hj e => ?_, fun k q hk => h.2 _ q (hy k q hk)⟩, fun i j p q hi hj e => ?_⟩
  · have := h.1 _ _ p q (hy i p hi) (hy j q hj) e
    omega
  · have h1 := (List.getElem?_eq_some_iff.mp hi).1
    have := h.1 _ _ p q (hx i p hi) (hy j q hj) e
    omega
/-- behind a call that had the middle part of the world -/
theorem z_join {A0 : Nat → Prop} {D : va_G} {cl : List vw_C} {X Y wc w1 : va_W} {H H1 : Heap} (hP : va_P D cl (X ++ (wc ++ Y)) H) (hD : va_D A0 (X ++ (wc ++ Y)))
    (hk : ∀ q : Nat, q < H.size → ¬ va_A wc H.size q → H1[q]? = H[q]?) (hF : ∀ q, va_A wc H.size q → A0 q) (hP1 : va_P D cl w1 H1) (hD1 : va_D (va_A wc H.size) w1) : va_P D cl (X ++ (w1 ++ Y)) H1 ∧ va_D A0 (X ++ (w1 ++ Y)) := by
  obtain ⟨pX, pR⟩ := zj_P hP
  obtain ⟨pC, pY⟩ := zj_P pR
  obtain ⟨dX, dR, xR⟩ := zj_D hD
  obtain ⟨dC, dY, xY⟩ := zj_D dR
  have sX : ∀ (k : Nat) (q : Nat × va_E), X[k]? = some q → q.1 < H.size ∧ ¬ va_A wc H.size q.1 := fun k q hq => by
    have hl := (pX k q hq).lt
    refine ⟨hl, fun h => ?_⟩
    rcases h with ⟨j, e, h⟩ | h
    · exact xR k j q (q.1, e) hq (by rw [List.getElem?_append_left (List.getElem?_eq_some_iff.mp h).1]; exact h) rfl
    · omega
  have sY : ∀ (k : Nat) (q : Nat × va_E), Y[k]? = some q → q.1 < H.size ∧ ¬ va_A wc H.size q.1 := fun k q hq => by
    have hl := (pY k q hq).lt
    refine ⟨hl, fun h => ?_⟩
    rcases h with ⟨j, e, h⟩ | h
    · exact xY j k (q.1, e) q h hq rfl
    · omega
  refine ⟨va_P.app (fun k q hq => (pX k q hq).kept (hk q.1 (sX k q hq).1 (sX k q hq).2)) (va_P.app hP1 (fun k q hq => (pY k q hq).kept (hk q.1 (sY k q hq).1 (sY k q hq).2))), ?_⟩
  refine va_D.app dX (va_D.app (hD1.weaken (fun k q _ h => hF q.1 h)) dY (fun i j p q hp hq e => (sY j q hq).2 (e ▸ hD1.2 i p hp))) (fun i j p q hp hq e => ?_)
  rcases Nat.lt_or_ge j w1.length with h1 | h1
  · rw [List.getElem?_append_left h1] at hq
    exact (sX i p hp).2 (e.symm ▸ hD1.2 j q hq)
  · rw [List.getElem?_append_right h1] at hq
    exact xR i (wc.length + (j - w1.length)) p q hp (by rw [List.getElem?_append_right (by omega), Nat.add_sub_cancel_left]; exact hq) e
theorem z_blind {D : va_G} {cl : List vw_C} {tys : List (ClassId × FieldType)} {sz : Nat} {wc : va_W} {av : List Value} : FrameBlind (va_Pc av (zPre D cl tys sz wc)) := fun a U g mk q => by
  obtain ⟨q0, q1, qP, qK, qD⟩ := q
  exact ⟨q0, q1, qP, va_K.moved (u := U) (U := U.calling g mk a) (Vm.Alike.refl U.vm) qK, qD⟩
theorem z_free {A0 : Nat → Prop} {X Y wc : va_W} {H0 H : Heap} {locs : List Loc} (hD : va_D A0 (X ++ (wc ++ Y))) (hS : va_S A0 H0 H locs) (hA : ∀ q, H0.size ≤ q → A0 q) : ∀ q, va_A wc H.size q → A0 q := by
  intro q h
  rcases h with ⟨k, e, h⟩ | h
  · exact (zj_D (zj_D hD).2.1).1.2 k (q, e) h
  · exact hA q (Nat.le_trans hS.1 h)
/-- a contract's start -/
theorem z_met {l : Launch} {D : va_G} {cl : List vw_C} {tys : List (ClassId × FieldType)} {y : MethodName} {wsy wsy' : List Cond} {rm : Room} {Qc : Nat → Array Value → State → Outcome → State → Prop} {mc ms : Nat} {cc : ByteArray} {maxL : Nat} {ret : Option FieldType} {av : List Value} {wc : va_W} {own : String} {lv : List (Nat × Value)}
    (hy : plainName y.cls = true) (hw : wsy = Cond.code y cc maxL ret :: wsy') (ho : y.cls = own) (hlen : (lg_sl av).length ≤ maxL) (hlv : lv_args 0 av = lv)
    (body : ∀ (p : Program) (e : Env) (s : State) (m : MethodId) (below : List Frame) (meth : Method) (c : Code), zC p s m av.toArray c cc maxL wsy own (va_A wc s.heap.size) s.heap D cl tys → meth.sig.returnType = ret → meth.locks = false → meth.name = y.name → zW p l e rm s m av.toArray below meth c (MQ below (Qc s.heap.size) av.toArray s mc ms (va_A wc s.heap.size)) maxL (va_A wc s.heap.size) s.heap D cl 0 0 wc 0 lv []) :
    ∀ sz, Met l y wsy rm (va_Pc av (zPre D cl tys sz wc)) (Qc sz) mc ms (va_A wc sz) := by
  intro sz
  refine Met.ofW (cc := cc) (maxL := maxL) (ret := ret) hy hw ?_
  intro p e s m args below meth c s₁ B hml hv
  obtain ⟨rfl, hsz, hP, hK, hD0⟩ := hv
  subst hsz
  subst ho
  rw [lg_entry_eq]
  exact body p e s m below meth c ⟨⟨B.exec, B.bytes, hml, findClass_of_methodNamed B.named, atoms_spec (ws := wsy) B.pre⟩, hK, fun q h => Or.inr h⟩ B.returns B.notSynchronized (name_of_methodNamed B.named B.method).1 s.heap [] _ hP hD0.self va_S.rf (hlv ▸ lv_entry av hlen)
section ZCALLS
variable {p : Program} {l : Launch} {e : Env} {R : Room} {s : State} {m : MethodId} {args : Array Value} {below : List Frame} {meth : Method} {c : Code} {Q : State → Prop} {nL : Nat} {A : Nat → Prop} {H0 : Heap} {D : va_G} {cl : List vw_C} {cells slots : Nat} {ws ws' : va_W} {pc : Nat} {lv lv' : List (Nat × Value)} {st : List Value} {cc : ByteArray} {Ts : List Cond} {own : String} {tys : List (ClassId × FieldType)}
theorem z_iret {S : Type} {post : Int32 → S → Prop} {wo : S → va_W} {v : Int32} {mc ms : Nat} (C : zC p s m args c cc nL Ts own A s.heap D cl tys) (hr : meth.sig.returnType = some .int) (hlocks : meth.locks = false) (hdg : decode cc pc = .ok (.ireturn, 1)) (h1 : cells ≤ mc) (h2 : slots ≤ ms) (u : S) (hw : ws = wo u) (hp : post v u) : zW p l e R s m args below meth c (MQ below (va_Qi post (fun u => zPost D cl tys A (wo u)) A) args s mc ms A) nL A s.heap D cl cells slots ws pc lv [.int v] := by
  intro H locs ls hP hD hS hl
  exact W.widen h1 h2 (W.iret (v := v) C.1.1 C.1.2.1 hr (fun t ht hW => ⟨⟨v, u, rfl, hp, by rw [ht, ← hw]; exact hP, va_K.moved hW.alike C.2.1, by rw [← hw]; exact hD⟩, hS.F ht⟩) hS.2.2 hdg hlocks)
theorem z_lret {S : Type} {post : Int64 → S → Prop} {wo : S → va_W} {v : Int64} {mc ms : Nat} (C : zC p s m args c cc nL Ts own A s.heap D cl tys) (hr : meth.sig.returnType = some .long) (hlocks : meth.locks = false) (hdg : decode cc pc = .ok (.lreturn, 1)) (h1 : cells ≤ mc) (h2 : slots ≤ ms) (u : S) (hw : ws = wo u) (hp : post v u) : zW p l e R s m args below meth c (MQ below (va_Ql post (fun u => zPost D cl tys A (wo u)) A) args s mc ms A) nL A s.heap D cl cells slots ws pc lv [.long v] := by
  intro H locs ls hP hD hS hl
  exact W.widen h1 h2 (W.lret (v := v) C.1.1 C.1.2.1 hr (fun t ht hW => ⟨⟨v, u, rfl, hp, by rw [ht, ← hw]; exact hP, va_K.moved hW.alike C.2.1, by rw [← hw]; exact hD⟩, hS.F ht⟩) hS.2.2 hdg hlocks)
theorem z_dret {S : Type} {post : UInt64 → S → Prop} {wo : S → va_W} {v : UInt64} {mc ms : Nat} (C : zC p s m args c cc nL Ts own A s.heap D cl tys) (hr : meth.sig.returnType = some .double) (hlocks : meth.locks = false) (hdg : decode cc pc = .ok (.dreturn, 1)) (h1 : cells ≤ mc) (h2 : slots ≤ ms) (u : S) (hw : ws = wo u) (hp : post v u) : zW p l e R s m args below meth c (MQ below (va_Qd post (fun u => zPost D cl tys A (wo u)) A) args s mc ms A) nL A s.heap D cl cells slots ws pc lv [.double v] := by
  intro H locs ls hP hD hS hl
  exact W.widen h1 h2 (W.dret (v := v) C.1.1 C.1.2.1 hr (fun t ht hW => ⟨⟨v, u, rfl, hp, by rw [ht, ← hw]; exact hP, va_K.moved hW.alike C.2.1, by rw [← hw]; exact hD⟩, hS.F ht⟩) hS.2.2 hdg hlocks)
theorem z_zret {S : Type} {post : Int32 → S → Prop} {wo : S → va_W} {v : Int32} {mc ms : Nat} (C : zC p s m args c cc nL Ts own A s.heap D cl tys) (hr : meth.sig.returnType = some .boolean) (hlocks : meth.locks = false) (hdg : decode cc pc = .ok (.ireturn, 1)) (h1 : cells ≤ mc) (h2 : slots ≤ ms) (hv : v = 0 ∨ v = 1) (u : S) (hw : ws = wo u) (hp : post v u) : zW p l e R s m args below meth c (MQ below (va_Qi post (fun u => zPost D cl tys A (wo u)) A) args s mc ms A) nL A s.heap D cl cells slots ws pc lv [.int v] := by
  intro H locs ls hP hD hS hl
  exact W.widen h1 h2 (W.zret (v := v) C.1.1 C.1.2.1 hr (by rcases hv with rfl | rfl <;> rfl) (fun t ht hW => ⟨⟨v, u, rfl, hp, by rw [ht, ← hw]; exact hP, va_K.moved hW.alike C.2.1, by rw [← hw]; exact hD⟩, hS.F ht⟩) hS.2.2 hdg hlocks)
theorem z_vret {S : Type} {post : S → Prop} {wo : S → va_W} {mc ms : Nat} (C : zC p s m args c cc nL Ts own A s.heap D cl tys) (hr : meth.sig.returnType = none) (hlocks : meth.locks = false) (hdg : decode cc pc = .ok (.return_, 1)) (h1 : cells ≤ mc) (h2 : slots ≤ ms) (u : S) (hw : ws = wo u) (hp : post u) : zW p l e R s m args below meth c (MQ below (va_Qv post (fun u => zPost D cl tys A (wo u)) A) args s mc ms A) nL A s.heap D cl cells slots ws pc lv [] := by
  intro H locs ls hP hD hS hl
  exact W.widen h1 h2 (W.vret C.1.1 C.1.2.1 hr (fun t ht hW => ⟨⟨u, rfl, hp, by rw [ht, ← hw]; exact hP, va_K.moved hW.alike C.2.1, by rw [← hw]; exact hD⟩, hS.F ht⟩) hS.2.2 hdg hlocks)
theorem z_callVi {S : Type} {y : MethodName} {bytes : ByteArray} {maxL n mc ms index : Nat} {ret : Option FieldType} {wsy : List Cond} {rm : Room} {post : Int32 → S → Prop} {wo : S → va_W} {As stk : List Value} {Cn : String} {b ci : Nat} {fs : List Value} {qc : vw_C} {X wc Y : va_W} (C : zC p s m args c cc nL Ts own A H0 D cl tys)
    (hM : ∀ sz, Met l y wsy rm (va_Pc (.ref b :: As) (zPre D cl tys sz wc)) (va_Qi post (fun u => zPost D cl tys (va_A wc sz) (wo u)) (va_A wc sz)) mc ms (va_A wc sz)) (cw : CallW R s args own Cn index y bytes maxL ret wsy rm mc ms n) (hcl : cl[ci]? = some qc) (hCn : qc.1 = Cn) (k0 : Nat) (he : wc[k0]? = some (b, .inr (ci, fs))) (hdg : decode cc pc = .ok (.invokevirtual index, 3)) (hn : As.length = n) (hst : stk = As.reverse ++ .ref b :: st) (hroom : (st.map fun v => v.category).sum ≤ 8) (hf : cells + mc ≤ R.cells ∧ slots + ms ≤ R.slots) (hws : ws = X ++ (wc ++ Y))
    (kk : ∀ (r : Int32) (u : S), post r u → zW p l e R s m args below meth c Q nL A H0 D cl (cells + mc) (slots + ms) (X ++ (wo u ++ Y)) (pc + 3) (lv) (.int r :: st)) : zW p l e R s m args below meth c Q nL A H0 D cl cells slots (ws) (pc) (lv) (stk) := by
  intro H locs ls hP hD hS hl
  subst hws
  subst hst
  have pC := (zj_P (zj_P hP).2).1
  have dC := (zj_D (zj_D hD).2.1).1
  have hF := z_free hD hS C.2.2
  refine va_calli (va_runV (As := As) (rest := st) C.1 (hM H.size) cw ⟨z_blind, hCn ▸ va_recv C.2.1 pC hcl he, fun U hU hW => ⟨rfl, by rw [hU], by rw [hU]; exact pC, va_K.moved hW.alike C.2.1, dC.weaken (fun _ _ _ _ => trivial)⟩⟩ rfl hn hl.1 rfl (lv_room hroom) hdg hf) hS (fun q _ h => hF q h) hF (fun r u t H1 locs ht hvm hw hB hz1 hk1 hS => ?_)
  obtain ⟨hP1, hK1, hD1⟩ := hB
  rw [ht] at hP1
  obtain ⟨hP, hD⟩ := z_join hP hD hk1 hF hP1 hD1
  exact kk r u hw H1 locs ls hP hD hS hl
theorem z_callVi_all {S : Type} {y : MethodName} {bytes : ByteArray} {maxL n mc ms index : Nat} {ret : Option FieldType} {wsy : List Cond} {rm : Room} {post : Int32 → S → Prop} {wo : S → va_W} {As stk : List Value} {Cn : String} {b ci : Nat} {fs : List Value} {qc : vw_C} (C : zC p s m args c cc nL Ts own A H0 D cl tys)
    (hM : ∀ sz, Met l y wsy rm (va_Pc (.ref b :: As) (zPre D cl tys sz ws)) (va_Qi post (fun u => zPost D cl tys (va_A ws sz) (wo u)) (va_A ws sz)) mc ms (va_A ws sz)) (cw : CallW R s args own Cn index y bytes maxL ret wsy rm mc ms n) (hcl : cl[ci]? = some qc) (hCn : qc.1 = Cn) (k0 : Nat) (he : ws[k0]? = some (b, .inr (ci, fs))) (hdg : decode cc pc = .ok (.invokevirtual index, 3)) (hn : As.length = n) (hst : stk = As.reverse ++ .ref b :: st) (hroom : (st.map fun v => v.category).sum ≤ 8) (hf : cells + mc ≤ R.cells ∧ slots + ms ≤ R.slots)
    (kk : ∀ (r : Int32) (u : S), post r u → zW p l e R s m args below meth c Q nL A H0 D cl (cells + mc) (slots + ms) (wo u) (pc + 3) (lv) (.int r :: st)) : zW p l e R s m args below meth c Q nL A H0 D cl cells slots (ws) (pc) (lv) (stk) :=
  z_callVi (X := []) (wc := ws) (Y := []) C hM cw hcl hCn k0 he hdg hn hst hroom hf (by rw [List.append_nil]; rfl) (fun r u h => by rw [List.append_nil]; exact kk r u h)
theorem z_callSi {S : Type} {y : MethodName} {bytes : ByteArray} {maxL n mc ms index : Nat} {ret : Option FieldType} {wsy : List Cond} {rm : Room} {post : Int32 → S → Prop} {wo : S → va_W} {As stk : List Value} {X wc Y : va_W} (C : zC p s m args c cc nL Ts own A H0 D cl tys)
    (hM : ∀ sz, Met l y wsy rm (va_Pc As (zPre D cl tys sz wc)) (va_Qi post (fun u => zPost D cl tys (va_A wc sz) (wo u)) (va_A wc sz)) mc ms (va_A wc sz)) (cw : (CallB R s args own index y bytes maxL ret wsy rm mc ms n ∧ (Cond.static y).before args s = true)) (hdg : decode cc pc = .ok (.invokestatic index, 3)) (hn : As.length = n) (hst : stk = As.reverse ++ st) (hroom : (st.map fun v => v.category).sum ≤ 8) (hf : cells + mc ≤ R.cells ∧ slots + ms ≤ R.slots) (hws : ws = X ++ (wc ++ Y))
    (kk : ∀ (r : Int32) (u : S), post r u → zW p l e R s m args below meth c Q nL A H0 D cl (cells + mc) (slots + ms) (X ++ (wo u ++ Y)) (pc + 3) (lv) (.int r :: st)) : zW p l e R s m args below meth c Q nL A H0 D cl cells slots (ws) (pc) (lv) (stk) := by
  intro H locs ls hP hD hS hl
  subst hws
  subst hst
  have pC := (zj_P (zj_P hP).2).1
  have dC := (zj_D (zj_D hD).2.1).1
  have hF := z_free hD hS C.2.2
  refine va_calli (va_runS (As := As) (rest := st) C.1 (hM H.size) cw ⟨z_blind, fun U hU hW => ⟨rfl, by rw [hU], by rw [hU]; exact pC, va_K.moved hW.alike C.2.1, dC.weaken (fun _ _ _ _ => trivial)⟩⟩ rfl hn hl.1 rfl (lv_room hroom) hdg hf) hS (fun q _ h => hF q h) hF (fun r u t H1 locs ht hvm hw hB hz1 hk1 hS => ?_)
  obtain ⟨hP1, hK1, hD1⟩ := hB
  rw [ht] at hP1
  obtain ⟨hP, hD⟩ := z_join hP hD hk1 hF hP1 hD1
  exact kk r u hw H1 locs ls hP hD hS hl
theorem z_callSi_all {S : Type} {y : MethodName} {bytes : ByteArray} {maxL n mc ms index : Nat} {ret : Option FieldType} {wsy : List Cond} {rm : Room} {post : Int32 → S → Prop} {wo : S → va_W} {As stk : List Value} (C : zC p s m args c cc nL Ts own A H0 D cl tys)
    (hM : ∀ sz, Met l y wsy rm (va_Pc As (zPre D cl tys sz ws)) (va_Qi post (fun u => zPost D cl tys (va_A ws sz) (wo u)) (va_A ws sz)) mc ms (va_A ws sz)) (cw : (CallB R s args own index y bytes maxL ret wsy rm mc ms n ∧ (Cond.static y).before args s = true)) (hdg : decode cc pc = .ok (.invokestatic index, 3)) (hn : As.length = n) (hst : stk = As.reverse ++ st) (hroom : (st.map fun v => v.category).sum ≤ 8) (hf : cells + mc ≤ R.cells ∧ slots + ms ≤ R.slots)
    (kk : ∀ (r : Int32) (u : S), post r u → zW p l e R s m args below meth c Q nL A H0 D cl (cells + mc) (slots + ms) (wo u) (pc + 3) (lv) (.int r :: st)) : zW p l e R s m args below meth c Q nL A H0 D cl cells slots (ws) (pc) (lv) (stk) :=
  z_callSi (X := []) (wc := ws) (Y := []) C hM cw hdg hn hst hroom hf (by rw [List.append_nil]; rfl) (fun r u h => by rw [List.append_nil]; exact kk r u h)
theorem z_callSi_none {y : MethodName} {bytes : ByteArray} {maxL n mc ms index : Nat} {ret : Option FieldType} {wsy : List Cond} {rm : Room} {post : Int32 → Unit → Prop} {As stk : List Value} (C : zC p s m args c cc nL Ts own A H0 D cl tys)
    (hM : ∀ sz, Met l y wsy rm (va_Pc As (zPre D cl tys sz [])) (va_Qi post (fun _ : Unit => zPost D cl tys (va_A [] sz) []) (va_A [] sz)) mc ms (va_A [] sz)) (cw : CallB R s args own index y bytes maxL ret wsy rm mc ms n ∧ (Cond.static y).before args s = true) (hdg : decode cc pc = .ok (.invokestatic index, 3)) (hn : As.length = n) (hst : stk = As.reverse ++ st) (hroom : (st.map fun v => v.category).sum ≤ 8) (hf : cells + mc ≤ R.cells ∧ slots + ms ≤ R.slots)
    (kk : ∀ (r : Int32) (u : Unit), post r u → zW p l e R s m args below meth c Q nL A H0 D cl (cells + mc) (slots + ms) (ws) (pc + 3) (lv) (.int r :: st)) : zW p l e R s m args below meth c Q nL A H0 D cl cells slots (ws) (pc) (lv) (stk) :=
  z_callSi (S := Unit) (X := ws) (wc := []) (Y := []) C hM cw hdg hn hst hroom hf (by rw [List.append_nil, List.append_nil]) (fun r u h => by rw [List.append_nil, List.append_nil]; exact kk r u h)
theorem z_callVl {S : Type} {y : MethodName} {bytes : ByteArray} {maxL n mc ms index : Nat} {ret : Option FieldType} {wsy : List Cond} {rm : Room} {post : Int64 → S → Prop} {wo : S → va_W} {As stk : List Value} {Cn : String} {b ci : Nat} {fs : List Value} {qc : vw_C} {X wc Y : va_W} (C : zC p s m args c cc nL Ts own A H0 D cl tys)
    (hM : ∀ sz, Met l y wsy rm (va_Pc (.ref b :: As) (zPre D cl tys sz wc)) (va_Ql post (fun u => zPost D cl tys (va_A wc sz) (wo u)) (va_A wc sz)) mc ms (va_A wc sz)) (cw : CallW R s args own Cn index y bytes maxL ret wsy rm mc ms n) (hcl : cl[ci]? = some qc) (hCn : qc.1 = Cn) (k0 : Nat) (he : wc[k0]? = some (b, .inr (ci, fs))) (hdg : decode cc pc = .ok (.invokevirtual index, 3)) (hn : As.length = n) (hst : stk = As.reverse ++ .ref b :: st) (hroom : (st.map fun v => v.category).sum ≤ 8) (hf : cells + mc ≤ R.cells ∧ slots + ms ≤ R.slots) (hws : ws = X ++ (wc ++ Y))
    (kk : ∀ (r : Int64) (u : S), post r u → zW p l e R s m args below meth c Q nL A H0 D cl (cells + mc) (slots + ms) (X ++ (wo u ++ Y)) (pc + 3) (lv) (.long r :: st)) : zW p l e R s m args below meth c Q nL A H0 D cl cells slots (ws) (pc) (lv) (stk) := by
  intro H locs ls hP hD hS hl
  subst hws
  subst hst
  have pC := (zj_P (zj_P hP).2).1
  have dC := (zj_D (zj_D hD).2.1).1
  have hF := z_free hD hS C.2.2
  refine va_calll (va_runV (As := As) (rest := st) C.1 (hM H.size) cw ⟨z_blind, hCn ▸ va_recv C.2.1 pC hcl he, fun U hU hW => ⟨rfl, by rw [hU], by rw [hU]; exact pC, va_K.moved hW.alike C.2.1, dC.weaken (fun _ _ _ _ => trivial)⟩⟩ rfl hn hl.1 rfl (lv_room hroom) hdg hf) hS (fun q _ h => hF q h) hF (fun r u t H1 locs ht hvm hw hB hz1 hk1 hS => ?_)
  obtain ⟨hP1, hK1, hD1⟩ := hB
  rw [ht] at hP1
  obtain ⟨hP, hD⟩ := z_join hP hD hk1 hF hP1 hD1
  exact kk r u hw H1 locs ls hP hD hS hl
theorem z_callVl_all {S : Type} {y : MethodName} {bytes : ByteArray} {maxL n mc ms index : Nat} {ret : Option FieldType} {wsy : List Cond} {rm : Room} {post : Int64 → S → Prop} {wo : S → va_W} {As stk : List Value} {Cn : String} {b ci : Nat} {fs : List Value} {qc : vw_C} (C : zC p s m args c cc nL Ts own A H0 D cl tys)
    (hM : ∀ sz, Met l y wsy rm (va_Pc (.ref b :: As) (zPre D cl tys sz ws)) (va_Ql post (fun u => zPost D cl tys (va_A ws sz) (wo u)) (va_A ws sz)) mc ms (va_A ws sz)) (cw : CallW R s args own Cn index y bytes maxL ret wsy rm mc ms n) (hcl : cl[ci]? = some qc) (hCn : qc.1 = Cn) (k0 : Nat) (he : ws[k0]? = some (b, .inr (ci, fs))) (hdg : decode cc pc = .ok (.invokevirtual index, 3)) (hn : As.length = n) (hst : stk = As.reverse ++ .ref b :: st) (hroom : (st.map fun v => v.category).sum ≤ 8) (hf : cells + mc ≤ R.cells ∧ slots + ms ≤ R.slots)
    (kk : ∀ (r : Int64) (u : S), post r u → zW p l e R s m args below meth c Q nL A H0 D cl (cells + mc) (slots + ms) (wo u) (pc + 3) (lv) (.long r :: st)) : zW p l e R s m args below meth c Q nL A H0 D cl cells slots (ws) (pc) (lv) (stk) :=
  z_callVl (X := []) (wc := ws) (Y := []) C hM cw hcl hCn k0 he hdg hn hst hroom hf (by rw [List.append_nil]; rfl) (fun r u h => by rw [List.append_nil]; exact kk r u h)
theorem z_callSl {S : Type} {y : MethodName} {bytes : ByteArray} {maxL n mc ms index : Nat} {ret : Option FieldType} {wsy : List Cond} {rm : Room} {post : Int64 → S → Prop} {wo : S → va_W} {As stk : List Value} {X wc Y : va_W} (C : zC p s m args c cc nL Ts own A H0 D cl tys)
    (hM : ∀ sz, Met l y wsy rm (va_Pc As (zPre D cl tys sz wc)) (va_Ql post (fun u => zPost D cl tys (va_A wc sz) (wo u)) (va_A wc sz)) mc ms (va_A wc sz)) (cw : (CallB R s args own index y bytes maxL ret wsy rm mc ms n ∧ (Cond.static y).before args s = true)) (hdg : decode cc pc = .ok (.invokestatic index, 3)) (hn : As.length = n) (hst : stk = As.reverse ++ st) (hroom : (st.map fun v => v.category).sum ≤ 8) (hf : cells + mc ≤ R.cells ∧ slots + ms ≤ R.slots) (hws : ws = X ++ (wc ++ Y))
    (kk : ∀ (r : Int64) (u : S), post r u → zW p l e R s m args below meth c Q nL A H0 D cl (cells + mc) (slots + ms) (X ++ (wo u ++ Y)) (pc + 3) (lv) (.long r :: st)) : zW p l e R s m args below meth c Q nL A H0 D cl cells slots (ws) (pc) (lv) (stk) := by
  intro H locs ls hP hD hS hl
  subst hws
  subst hst
  have pC := (zj_P (zj_P hP).2).1
  have dC := (zj_D (zj_D hD).2.1).1
  have hF := z_free hD hS C.2.2
  refine va_calll (va_runS (As := As) (rest := st) C.1 (hM H.size) cw ⟨z_blind, fun U hU hW => ⟨rfl, by rw [hU], by rw [hU]; exact pC, va_K.moved hW.alike C.2.1, dC.weaken (fun _ _ _ _ => trivial)⟩⟩ rfl hn hl.1 rfl (lv_room hroom) hdg hf) hS (fun q _ h => hF q h) hF (fun r u t H1 locs ht hvm hw hB hz1 hk1 hS => ?_)
  obtain ⟨hP1, hK1, hD1⟩ := hB
  rw [ht] at hP1
  obtain ⟨hP, hD⟩ := z_join hP hD hk1 hF hP1 hD1
  exact kk r u hw H1 locs ls hP hD hS hl
theorem z_callSl_all {S : Type} {y : MethodName} {bytes : ByteArray} {maxL n mc ms index : Nat} {ret : Option FieldType} {wsy : List Cond} {rm : Room} {post : Int64 → S → Prop} {wo : S → va_W} {As stk : List Value} (C : zC p s m args c cc nL Ts own A H0 D cl tys)
    (hM : ∀ sz, Met l y wsy rm (va_Pc As (zPre D cl tys sz ws)) (va_Ql post (fun u => zPost D cl tys (va_A ws sz) (wo u)) (va_A ws sz)) mc ms (va_A ws sz)) (cw : (CallB R s args own index y bytes maxL ret wsy rm mc ms n ∧ (Cond.static y).before args s = true)) (hdg : decode cc pc = .ok (.invokestatic index, 3)) (hn : As.length = n) (hst : stk = As.reverse ++ st) (hroom : (st.map fun v => v.category).sum ≤ 8) (hf : cells + mc ≤ R.cells ∧ slots + ms ≤ R.slots)
    (kk : ∀ (r : Int64) (u : S), post r u → zW p l e R s m args below meth c Q nL A H0 D cl (cells + mc) (slots + ms) (wo u) (pc + 3) (lv) (.long r :: st)) : zW p l e R s m args below meth c Q nL A H0 D cl cells slots (ws) (pc) (lv) (stk) :=
  z_callSl (X := []) (wc := ws) (Y := []) C hM cw hdg hn hst hroom hf (by rw [List.append_nil]; rfl) (fun r u h => by rw [List.append_nil]; exact kk r u h)
theorem z_callSl_none {y : MethodName} {bytes : ByteArray} {maxL n mc ms index : Nat} {ret : Option FieldType} {wsy : List Cond} {rm : Room} {post : Int64 → Unit → Prop} {As stk : List Value} (C : zC p s m args c cc nL Ts own A H0 D cl tys)
    (hM : ∀ sz, Met l y wsy rm (va_Pc As (zPre D cl tys sz [])) (va_Ql post (fun _ : Unit => zPost D cl tys (va_A [] sz) []) (va_A [] sz)) mc ms (va_A [] sz)) (cw : CallB R s args own index y bytes maxL ret wsy rm mc ms n ∧ (Cond.static y).before args s = true) (hdg : decode cc pc = .ok (.invokestatic index, 3)) (hn : As.length = n) (hst : stk = As.reverse ++ st) (hroom : (st.map fun v => v.category).sum ≤ 8) (hf : cells + mc ≤ R.cells ∧ slots + ms ≤ R.slots)
    (kk : ∀ (r : Int64) (u : Unit), post r u → zW p l e R s m args below meth c Q nL A H0 D cl (cells + mc) (slots + ms) (ws) (pc + 3) (lv) (.long r :: st)) : zW p l e R s m args below meth c Q nL A H0 D cl cells slots (ws) (pc) (lv) (stk) :=
  z_callSl (S := Unit) (X := ws) (wc := []) (Y := []) C hM cw hdg hn hst hroom hf (by rw [List.append_nil, List.append_nil]) (fun r u h => by rw [List.append_nil, List.append_nil]; exact kk r u h)
theorem z_callVd {S : Type} {y : MethodName} {bytes : ByteArray} {maxL n mc ms index : Nat} {ret : Option FieldType} {wsy : List Cond} {rm : Room} {post : UInt64 → S → Prop} {wo : S → va_W} {As stk : List Value} {Cn : String} {b ci : Nat} {fs : List Value} {qc : vw_C} {X wc Y : va_W} (C : zC p s m args c cc nL Ts own A H0 D cl tys)
    (hM : ∀ sz, Met l y wsy rm (va_Pc (.ref b :: As) (zPre D cl tys sz wc)) (va_Qd post (fun u => zPost D cl tys (va_A wc sz) (wo u)) (va_A wc sz)) mc ms (va_A wc sz)) (cw : CallW R s args own Cn index y bytes maxL ret wsy rm mc ms n) (hcl : cl[ci]? = some qc) (hCn : qc.1 = Cn) (k0 : Nat) (he : wc[k0]? = some (b, .inr (ci, fs))) (hdg : decode cc pc = .ok (.invokevirtual index, 3)) (hn : As.length = n) (hst : stk = As.reverse ++ .ref b :: st) (hroom : (st.map fun v => v.category).sum ≤ 8) (hf : cells + mc ≤ R.cells ∧ slots + ms ≤ R.slots) (hws : ws = X ++ (wc ++ Y))
    (kk : ∀ (r : UInt64) (u : S), post r u → zW p l e R s m args below meth c Q nL A H0 D cl (cells + mc) (slots + ms) (X ++ (wo u ++ Y)) (pc + 3) (lv) (.double r :: st)) : zW p l e R s m args below meth c Q nL A H0 D cl cells slots (ws) (pc) (lv) (stk) := by
  intro H locs ls hP hD hS hl
  subst hws
  subst hst
  have pC := (zj_P (zj_P hP).2).1
  have dC := (zj_D (zj_D hD).2.1).1
  have hF := z_free hD hS C.2.2
  refine va_calld (va_runV (As := As) (rest := st) C.1 (hM H.size) cw ⟨z_blind, hCn ▸ va_recv C.2.1 pC hcl he, fun U hU hW => ⟨rfl, by rw [hU], by rw [hU]; exact pC, va_K.moved hW.alike C.2.1, dC.weaken (fun _ _ _ _ => trivial)⟩⟩ rfl hn hl.1 rfl (lv_room hroom) hdg hf) hS (fun q _ h => hF q h) hF (fun r u t H1 locs ht hvm hw hB hz1 hk1 hS => ?_)
  obtain ⟨hP1, hK1, hD1⟩ := hB
  rw [ht] at hP1
  obtain ⟨hP, hD⟩ := z_join hP hD hk1 hF hP1 hD1
  exact kk r u hw H1 locs ls hP hD hS hl
theorem z_callVd_all {S : Type} {y : MethodName} {bytes : ByteArray} {maxL n mc ms index : Nat} {ret : Option FieldType} {wsy : List Cond} {rm : Room} {post : UInt64 → S → Prop} {wo : S → va_W} {As stk : List Value} {Cn : String} {b ci : Nat} {fs : List Value} {qc : vw_C} (C : zC p s m args c cc nL Ts own A H0 D cl tys)
    (hM : ∀ sz, Met l y wsy rm (va_Pc (.ref b :: As) (zPre D cl tys sz ws)) (va_Qd post (fun u => zPost D cl tys (va_A ws sz) (wo u)) (va_A ws sz)) mc ms (va_A ws sz)) (cw : CallW R s args own Cn index y bytes maxL ret wsy rm mc ms n) (hcl : cl[ci]? = some qc) (hCn : qc.1 = Cn) (k0 : Nat) (he : ws[k0]? = some (b, .inr (ci, fs))) (hdg : decode cc pc = .ok (.invokevirtual index, 3)) (hn : As.length = n) (hst : stk = As.reverse ++ .ref b :: st) (hroom : (st.map fun v => v.category).sum ≤ 8) (hf : cells + mc ≤ R.cells ∧ slots + ms ≤ R.slots)
    (kk : ∀ (r : UInt64) (u : S), post r u → zW p l e R s m args below meth c Q nL A H0 D cl (cells + mc) (slots + ms) (wo u) (pc + 3) (lv) (.double r :: st)) : zW p l e R s m args below meth c Q nL A H0 D cl cells slots (ws) (pc) (lv) (stk) :=
  z_callVd (X := []) (wc := ws) (Y := []) C hM cw hcl hCn k0 he hdg hn hst hroom hf (by rw [List.append_nil]; rfl) (fun r u h => by rw [List.append_nil]; exact kk r u h)
theorem z_callSd {S : Type} {y : MethodName} {bytes : ByteArray} {maxL n mc ms index : Nat} {ret : Option FieldType} {wsy : List Cond} {rm : Room} {post : UInt64 → S → Prop} {wo : S → va_W} {As stk : List Value} {X wc Y : va_W} (C : zC p s m args c cc nL Ts own A H0 D cl tys)
    (hM : ∀ sz, Met l y wsy rm (va_Pc As (zPre D cl tys sz wc)) (va_Qd post (fun u => zPost D cl tys (va_A wc sz) (wo u)) (va_A wc sz)) mc ms (va_A wc sz)) (cw : (CallB R s args own index y bytes maxL ret wsy rm mc ms n ∧ (Cond.static y).before args s = true)) (hdg : decode cc pc = .ok (.invokestatic index, 3)) (hn : As.length = n) (hst : stk = As.reverse ++ st) (hroom : (st.map fun v => v.category).sum ≤ 8) (hf : cells + mc ≤ R.cells ∧ slots + ms ≤ R.slots) (hws : ws = X ++ (wc ++ Y))
    (kk : ∀ (r : UInt64) (u : S), post r u → zW p l e R s m args below meth c Q nL A H0 D cl (cells + mc) (slots + ms) (X ++ (wo u ++ Y)) (pc + 3) (lv) (.double r :: st)) : zW p l e R s m args below meth c Q nL A H0 D cl cells slots (ws) (pc) (lv) (stk) := by
  intro H locs ls hP hD hS hl
  subst hws
  subst hst
  have pC := (zj_P (zj_P hP).2).1
  have dC := (zj_D (zj_D hD).2.1).1
  have hF := z_free hD hS C.2.2
  refine va_calld (va_runS (As := As) (rest := st) C.1 (hM H.size) cw ⟨z_blind, fun U hU hW => ⟨rfl, by rw [hU], by rw [hU]; exact pC, va_K.moved hW.alike C.2.1, dC.weaken (fun _ _ _ _ => trivial)⟩⟩ rfl hn hl.1 rfl (lv_room hroom) hdg hf) hS (fun q _ h => hF q h) hF (fun r u t H1 locs ht hvm hw hB hz1 hk1 hS => ?_)
  obtain ⟨hP1, hK1, hD1⟩ := hB
  rw [ht] at hP1
  obtain ⟨hP, hD⟩ := z_join hP hD hk1 hF hP1 hD1
  exact kk r u hw H1 locs ls hP hD hS hl
theorem z_callSd_all {S : Type} {y : MethodName} {bytes : ByteArray} {maxL n mc ms index : Nat} {ret : Option FieldType} {wsy : List Cond} {rm : Room} {post : UInt64 → S → Prop} {wo : S → va_W} {As stk : List Value} (C : zC p s m args c cc nL Ts own A H0 D cl tys)
    (hM : ∀ sz, Met l y wsy rm (va_Pc As (zPre D cl tys sz ws)) (va_Qd post (fun u => zPost D cl tys (va_A ws sz) (wo u)) (va_A ws sz)) mc ms (va_A ws sz)) (cw : (CallB R s args own index y bytes maxL ret wsy rm mc ms n ∧ (Cond.static y).before args s = true)) (hdg : decode cc pc = .ok (.invokestatic index, 3)) (hn : As.length = n) (hst : stk = As.reverse ++ st) (hroom : (st.map fun v => v.category).sum ≤ 8) (hf : cells + mc ≤ R.cells ∧ slots + ms ≤ R.slots)
    (kk : ∀ (r : UInt64) (u : S), post r u → zW p l e R s m args below meth c Q nL A H0 D cl (cells + mc) (slots + ms) (wo u) (pc + 3) (lv) (.double r :: st)) : zW p l e R s m args below meth c Q nL A H0 D cl cells slots (ws) (pc) (lv) (stk) :=
  z_callSd (X := []) (wc := ws) (Y := []) C hM cw hdg hn hst hroom hf (by rw [List.append_nil]; rfl) (fun r u h => by rw [List.append_nil]; exact kk r u h)
theorem z_callSd_none {y : MethodName} {bytes : ByteArray} {maxL n mc ms index : Nat} {ret : Option FieldType} {wsy : List Cond} {rm : Room} {post : UInt64 → Unit → Prop} {As stk : List Value} (C : zC p s m args c cc nL Ts own A H0 D cl tys)
    (hM : ∀ sz, Met l y wsy rm (va_Pc As (zPre D cl tys sz [])) (va_Qd post (fun _ : Unit => zPost D cl tys (va_A [] sz) []) (va_A [] sz)) mc ms (va_A [] sz)) (cw : CallB R s args own index y bytes maxL ret wsy rm mc ms n ∧ (Cond.static y).before args s = true) (hdg : decode cc pc = .ok (.invokestatic index, 3)) (hn : As.length = n) (hst : stk = As.reverse ++ st) (hroom : (st.map fun v => v.category).sum ≤ 8) (hf : cells + mc ≤ R.cells ∧ slots + ms ≤ R.slots)
    (kk : ∀ (r : UInt64) (u : Unit), post r u → zW p l e R s m args below meth c Q nL A H0 D cl (cells + mc) (slots + ms) (ws) (pc + 3) (lv) (.double r :: st)) : zW p l e R s m args below meth c Q nL A H0 D cl cells slots (ws) (pc) (lv) (stk) :=
  z_callSd (S := Unit) (X := ws) (wc := []) (Y := []) C hM cw hdg hn hst hroom hf (by rw [List.append_nil, List.append_nil]) (fun r u h => by rw [List.append_nil, List.append_nil]; exact kk r u h)
theorem z_callVv {S : Type} {y : MethodName} {bytes : ByteArray} {maxL n mc ms index : Nat} {ret : Option FieldType} {wsy : List Cond} {rm : Room} {post : S → Prop} {wo : S → va_W} {As stk : List Value} {Cn : String} {b ci : Nat} {fs : List Value} {qc : vw_C} {X wc Y : va_W} (C : zC p s m args c cc nL Ts own A H0 D cl tys)
    (hM : ∀ sz, Met l y wsy rm (va_Pc (.ref b :: As) (zPre D cl tys sz wc)) (va_Qv post (fun u => zPost D cl tys (va_A wc sz) (wo u)) (va_A wc sz)) mc ms (va_A wc sz)) (cw : CallW R s args own Cn index y bytes maxL ret wsy rm mc ms n) (hcl : cl[ci]? = some qc) (hCn : qc.1 = Cn) (k0 : Nat) (he : wc[k0]? = some (b, .inr (ci, fs))) (hdg : decode cc pc = .ok (.invokevirtual index, 3)) (hn : As.length = n) (hst : stk = As.reverse ++ .ref b :: st) (hroom : (st.map fun v => v.category).sum ≤ 8) (hf : cells + mc ≤ R.cells ∧ slots + ms ≤ R.slots) (hws : ws = X ++ (wc ++ Y))
    (kk : ∀ (u : S), post u → zW p l e R s m args below meth c Q nL A H0 D cl (cells + mc) (slots + ms) (X ++ (wo u ++ Y)) (pc + 3) (lv) (st)) : zW p l e R s m args below meth c Q nL A H0 D cl cells slots (ws) (pc) (lv) (stk) := by
  intro H locs ls hP hD hS hl
  subst hws
  subst hst
  have pC := (zj_P (zj_P hP).2).1
  have dC := (zj_D (zj_D hD).2.1).1
  have hF := z_free hD hS C.2.2
  refine va_callv (va_runV (As := As) (rest := st) C.1 (hM H.size) cw ⟨z_blind, hCn ▸ va_recv C.2.1 pC hcl he, fun U hU hW => ⟨rfl, by rw [hU], by rw [hU]; exact pC, va_K.moved hW.alike C.2.1, dC.weaken (fun _ _ _ _ => trivial)⟩⟩ rfl hn hl.1 rfl (lv_room hroom) hdg hf) hS (fun q _ h => hF q h) hF (fun u t H1 locs ht hvm hw hB hz1 hk1 hS => ?_)
  obtain ⟨hP1, hK1, hD1⟩ := hB
  rw [ht] at hP1
  obtain ⟨hP, hD⟩ := z_join hP hD hk1 hF hP1 hD1
  exact kk u hw H1 locs ls hP hD hS hl
theorem z_callVv_all {S : Type} {y : MethodName} {bytes : ByteArray} {maxL n mc ms index : Nat} {ret : Option FieldType} {wsy : List Cond} {rm : Room} {post : S → Prop} {wo : S → va_W} {As stk : List Value} {Cn : String} {b ci : Nat} {fs : List Value} {qc : vw_C} (C : zC p s m args c cc nL Ts own A H0 D cl tys)
    (hM : ∀ sz, Met l y wsy rm (va_Pc (.ref b :: As) (zPre D cl tys sz ws)) (va_Qv post (fun u => zPost D cl tys (va_A ws sz) (wo u)) (va_A ws sz)) mc ms (va_A ws sz)) (cw : CallW R s args own Cn index y bytes maxL ret wsy rm mc ms n) (hcl : cl[ci]? = some qc) (hCn : qc.1 = Cn) (k0 : Nat) (he : ws[k0]? = some (b, .inr (ci, fs))) (hdg : decode cc pc = .ok (.invokevirtual index, 3)) (hn : As.length = n) (hst : stk = As.reverse ++ .ref b :: st) (hroom : (st.map fun v => v.category).sum ≤ 8) (hf : cells + mc ≤ R.cells ∧ slots + ms ≤ R.slots)
    (kk : ∀ (u : S), post u → zW p l e R s m args below meth c Q nL A H0 D cl (cells + mc) (slots + ms) (wo u) (pc + 3) (lv) (st)) : zW p l e R s m args below meth c Q nL A H0 D cl cells slots (ws) (pc) (lv) (stk) :=
  z_callVv (X := []) (wc := ws) (Y := []) C hM cw hcl hCn k0 he hdg hn hst hroom hf (by rw [List.append_nil]; rfl) (fun u h => by rw [List.append_nil]; exact kk u h)
theorem z_callSv {S : Type} {y : MethodName} {bytes : ByteArray} {maxL n mc ms index : Nat} {ret : Option FieldType} {wsy : List Cond} {rm : Room} {post : S → Prop} {wo : S → va_W} {As stk : List Value} {X wc Y : va_W} (C : zC p s m args c cc nL Ts own A H0 D cl tys)
    (hM : ∀ sz, Met l y wsy rm (va_Pc As (zPre D cl tys sz wc)) (va_Qv post (fun u => zPost D cl tys (va_A wc sz) (wo u)) (va_A wc sz)) mc ms (va_A wc sz)) (cw : (CallB R s args own index y bytes maxL ret wsy rm mc ms n ∧ (Cond.static y).before args s = true)) (hdg : decode cc pc = .ok (.invokestatic index, 3)) (hn : As.length = n) (hst : stk = As.reverse ++ st) (hroom : (st.map fun v => v.category).sum ≤ 8) (hf : cells + mc ≤ R.cells ∧ slots + ms ≤ R.slots) (hws : ws = X ++ (wc ++ Y))
    (kk : ∀ (u : S), post u → zW p l e R s m args below meth c Q nL A H0 D cl (cells + mc) (slots + ms) (X ++ (wo u ++ Y)) (pc + 3) (lv) (st)) : zW p l e R s m args below meth c Q nL A H0 D cl cells slots (ws) (pc) (lv) (stk) := by
  intro H locs ls hP hD hS hl
  subst hws
  subst hst
  have pC := (zj_P (zj_P hP).2).1
  have dC := (zj_D (zj_D hD).2.1).1
  have hF := z_free hD hS C.2.2
  refine va_callv (va_runS (As := As) (rest := st) C.1 (hM H.size) cw ⟨z_blind, fun U hU hW => ⟨rfl, by rw [hU], by rw [hU]; exact pC, va_K.moved hW.alike C.2.1, dC.weaken (fun _ _ _ _ => trivial)⟩⟩ rfl hn hl.1 rfl (lv_room hroom) hdg hf) hS (fun q _ h => hF q h) hF (fun u t H1 locs ht hvm hw hB hz1 hk1 hS => ?_)
  obtain ⟨hP1, hK1, hD1⟩ := hB
  rw [ht] at hP1
  obtain ⟨hP, hD⟩ := z_join hP hD hk1 hF hP1 hD1
  exact kk u hw H1 locs ls hP hD hS hl
theorem z_callSv_all {S : Type} {y : MethodName} {bytes : ByteArray} {maxL n mc ms index : Nat} {ret : Option FieldType} {wsy : List Cond} {rm : Room} {post : S → Prop} {wo : S → va_W} {As stk : List Value} (C : zC p s m args c cc nL Ts own A H0 D cl tys)
    (hM : ∀ sz, Met l y wsy rm (va_Pc As (zPre D cl tys sz ws)) (va_Qv post (fun u => zPost D cl tys (va_A ws sz) (wo u)) (va_A ws sz)) mc ms (va_A ws sz)) (cw : (CallB R s args own index y bytes maxL ret wsy rm mc ms n ∧ (Cond.static y).before args s = true)) (hdg : decode cc pc = .ok (.invokestatic index, 3)) (hn : As.length = n) (hst : stk = As.reverse ++ st) (hroom : (st.map fun v => v.category).sum ≤ 8) (hf : cells + mc ≤ R.cells ∧ slots + ms ≤ R.slots)
    (kk : ∀ (u : S), post u → zW p l e R s m args below meth c Q nL A H0 D cl (cells + mc) (slots + ms) (wo u) (pc + 3) (lv) (st)) : zW p l e R s m args below meth c Q nL A H0 D cl cells slots (ws) (pc) (lv) (stk) :=
  z_callSv (X := []) (wc := ws) (Y := []) C hM cw hdg hn hst hroom hf (by rw [List.append_nil]; rfl) (fun u h => by rw [List.append_nil]; exact kk u h)
theorem z_callSv_none {y : MethodName} {bytes : ByteArray} {maxL n mc ms index : Nat} {ret : Option FieldType} {wsy : List Cond} {rm : Room} {post : Unit → Prop} {As stk : List Value} (C : zC p s m args c cc nL Ts own A H0 D cl tys)
    (hM : ∀ sz, Met l y wsy rm (va_Pc As (zPre D cl tys sz [])) (va_Qv post (fun _ : Unit => zPost D cl tys (va_A [] sz) []) (va_A [] sz)) mc ms (va_A [] sz)) (cw : CallB R s args own index y bytes maxL ret wsy rm mc ms n ∧ (Cond.static y).before args s = true) (hdg : decode cc pc = .ok (.invokestatic index, 3)) (hn : As.length = n) (hst : stk = As.reverse ++ st) (hroom : (st.map fun v => v.category).sum ≤ 8) (hf : cells + mc ≤ R.cells ∧ slots + ms ≤ R.slots)
    (kk : ∀ (u : Unit), post u → zW p l e R s m args below meth c Q nL A H0 D cl (cells + mc) (slots + ms) (ws) (pc + 3) (lv) (st)) : zW p l e R s m args below meth c Q nL A H0 D cl cells slots (ws) (pc) (lv) (stk) :=
  z_callSv (S := Unit) (X := ws) (wc := []) (Y := []) C hM cw hdg hn hst hroom hf (by rw [List.append_nil, List.append_nil]) (fun u h => by rw [List.append_nil, List.append_nil]; exact kk u h)
end ZCALLS
end
section
/-! the worlds of the class (w0) and of the reference (w1), both over the same N, M (coefficients), S (spreads), rl, rh (right sides), bl, bh (box) -/
abbrev zT (K : Nat → ClassId) : List (ClassId × FieldType) := [(K 0, .int), (K 1, .long), (K 2, .array .int), (K 3, .array .long), (K 4, .double)]
def up2 {α : Type} (M : Nat → Nat → α) (i j : Nat) (x : α) : Nat → Nat → α := fun a b => if a = i ∧ b = j then x else M a b
/-- a matrix of rows of five, laid row behind row -/
def fl5 {α : Type} (M : Nat → Nat → α) : Nat → α := fun t => M (t / 5) (t % 5)
theorem up2_row {α : Type} (M : Nat → Nat → α) (i j : Nat) (x : α) (a : Nat) : up2 M i j x a = if a = i then (fun b => if b = j then x else M i b) else M a := by
  funext b
  by_cases h : a = i
  · subst h; by_cases h2 : b = j <;> simp [up2, h2]
  · simp [up2, h]
theorem fl5_up (M : Nat → Nat → Int32) (i j : Nat) (x : Int32) (hj : j < 5) : upd (fl5 M) (5 * i + j) x = fl5 (up2 M i j x) := by
  funext t
  unfold upd fl5 up2
  by_cases h : t = 5 * i + j
  · have h1 : t / 5 = i := by omega
    have h2 : t % 5 = j := by omega
    rw [if_pos h, if_pos ⟨h1, h2⟩]
  · rw [if_neg h, if_neg (fun q => h (by omega))]
theorem fl5_at (M : Nat → Nat → Int32) (i j : Nat) (hj : j < 5) : fl5 M (5 * i + j) = M i j := by
  unfold fl5
  rw [show (5 * i + j) / 5 = i by omega, show (5 * i + j) % 5 = j by omega]
abbrev S0 : Type := Nat × (Nat → Nat → Int32) × (Nat → Nat → Int32) × (Nat → Int32) × (Nat → Int32) × (Nat → Int32) × (Nat → Int32) × (Nat → Int32) × (Nat → Int32) × (Nat → Int64) × (Nat → Int64) × (Nat → Nat → Int64) × Int64
abbrev S1 : Type := Nat × (Nat → Nat → Int32) × (Nat → Nat → Int32) × (Nat → Int32) × (Nat → Int32) × (Nat → Int32) × (Nat → Int32) × Int32 × (Nat → Int32) × (Nat → Int32) × (Nat → Int64) × Int64 × Int64
def w0 (K : Nat → ClassId) (a : Nat → Nat) : S0 → va_W := fun (N, M, S, rl, rh, bl, bh, kl, kh, mn, vc, iv, sc) => [(a 0, .inr (2, [.int (nI N), .ref (a 1), .ref (a 2), .ref (a 3), .ref (a 4), .ref (a 5), .ref (a 6), .ref (a 7), .ref (a 8), .ref (a 9), .ref (a 10), .ref (a 11), .long sc])), (a 1, .inl (K 2, 5, .inr (.inr (.inr (.inr (fun i => if i < 5 then some (a (12 + i)) else none)))))), (a 2, .inl (K 2, 5, .inr (.inr (.inr (.inr (fun i => if i < 5 then some (a (17 + i)) else none)))))), (a 3, .inl (K 0, 5, .inl (rl))), (a 4, .inl (K 0, 5, .inl (rh))), (a 5, .inl (K 0, 5, .inl (bl))), (a 6, .inl (K 0, 5, .inl (bh))), (a 7, .inl (K 0, 5, .inl (kl))), (a 8, .inl (K 0, 5, .inl (kh))), (a 9, .inl (K 1, 32, .inr (.inl (mn)))), (a 10, .inl (K 1, 5, .inr (.inl (vc)))), (a 11, .inl (K 3, 5, .inr (.inr (.inr (.inr (fun i => if i < 5 then some (a (22 + i)) else none)))))), (a 12, .inl (K 0, 5, .inl (M 0))), (a 13, .inl (K 0, 5, .inl (M 1))), (a 14, .inl (K 0, 5, .inl (M 2))), (a 15, .inl (K 0, 5, .inl (M 3))), (a 16, .inl (K 0, 5, .inl (M 4))), (a 17, .inl (K 0, 5, .inl (S 0))), (a 18, .inl (K 0, 5, .inl (S 1))), (a 19, .inl (K 0, 5, .inl (S 2))), (a 20, .inl (K 0, 5, .inl (S 3))), (a 21, .inl (K 0, 5, .inl (S 4))), (a 22, .inl (K 1, 5, .inr (.inl (iv 0)))), (a 23, .inl (K 1, 5, .inr (.inl (iv 1)))), (a 24, .inl (K 1, 5, .inr (.inl (iv 2)))), (a 25, .inl (K 1, 5, .inr (.inl (iv 3)))), (a 26, .inl (K 1, 5, .inr (.inl (iv 4))))]
def w1 (K : Nat → ClassId) (b : Nat → Nat) : S1 → va_W := fun (N, M, S, rl, rh, bl, bh, th, fl, fh, pt, nu, de) => [(b 0, .inr (3, [.int th, .int (nI N), .ref (b 1), .ref (b 2), .ref (b 3), .ref (b 4), .ref (b 5), .ref (b 6), .ref (b 7), .ref (b 8), .ref (b 9), .long nu, .long de])), (b 1, .inl (K 0, 25, .inl (fl5 M))), (b 2, .inl (K 0, 25, .inl (fl5 S))), (b 3, .inl (K 0, 5, .inl (rl))), (b 4, .inl (K 0, 5, .inl (rh))), (b 5, .inl (K 0, 5, .inl (bl))), (b 6, .inl (K 0, 5, .inl (bh))), (b 7, .inl (K 0, 5, .inl (fl))), (b 8, .inl (K 0, 5, .inl (fh))), (b 9, .inl (K 1, 32, .inr (.inl (pt))))]
section WROWS
variable {K : Nat → ClassId} {a : Nat → Nat} {N : Nat} {M : Nat → Nat → Int32} {S : Nat → Nat → Int32} {rl : Nat → Int32} {rh : Nat → Int32} {bl : Nat → Int32} {bh : Nat → Int32} {kl : Nat → Int32} {kh : Nat → Int32} {mn : Nat → Int64} {vc : Nat → Int64} {iv : Nat → Nat → Int64} {sc : Int64}
theorem lt5 {P : Nat → Prop} (h0 : P 0) (h1 : P 1) (h2 : P 2) (h3 : P 3) (h4 : P 4) {i : Nat} (hi : i < 5) : P i := by
  match i, hi with
  | 0, _ => exact h0
  | 1, _ => exact h1
  | 2, _ => exact h2
  | 3, _ => exact h3
  | 4, _ => exact h4
  | n + 5, h => exact absurd h (by omega)
theorem w0_atM {i : Nat} (hi : i < 5) : (w0 K a (N, M, S, rl, rh, bl, bh, kl, kh, mn, vc, iv, sc))[12 + i]? = some (a (12 + i), .inl (K 0, 5, .inl (M i))) := lt5 (P := fun i => (w0 K a (N, M, S, rl, rh, bl, bh, kl, kh, mn, vc, iv, sc))[12 + i]? = some (a (12 + i), .inl (K 0, 5, .inl (M i)))) rfl rfl rfl rfl rfl hi
theorem w0_setM (j : Nat) (x : Int32) {i : Nat} (hi : i < 5) : (w0 K a (N, M, S, rl, rh, bl, bh, kl, kh, mn, vc, iv, sc)).set (12 + i) (a (12 + i), .inl (K 0, 5, .inl (upd (M i) j x))) = w0 K a (N, up2 M i j x, S, rl, rh, bl, bh, kl, kh, mn, vc, iv, sc) := by
  have hr : ∀ r, up2 M i j x r = if r = i then upd (M i) j x else M r := fun r => up2_row M i j x r
  show _ = ([_, _, _, _, _, _, _, _, _, _, _, _, _, _, _, _, _, _, _, _, _, _, _, _, _, _, _] : va_W)
  unfold w0
  simp only [hr]
  exact lt5 (P := fun i => ∀ z : Nat → Int32, ([(a 0, .inr (2, [.int (nI N), .ref (a 1), .ref (a 2), .ref (a 3), .ref (a 4), .ref (a 5), .ref (a 6), .ref (a 7), .ref (a 8), .ref (a 9), .ref (a 10), .ref (a 11), .long sc])), (a 1, .inl (K 2, 5, .inr (.inr (.inr (.inr (fun i => if i < 5 then some (a (12 + i)) else none)))))), (a 2, .inl (K 2, 5, .inr (.inr (.inr (.inr (fun i => if i < 5 then some (a (17 + i)) else none)))))), (a 3, .inl (K 0, 5, .inl (rl))), (a 4, .inl (K 0, 5, .inl (rh))), (a 5, .inl (K 0, 5, .inl (bl))), (a 6, .inl (K 0, 5, .inl (bh))), (a 7, .inl (K 0, 5, .inl (kl))), (a 8, .inl (K 0, 5, .inl (kh))), (a 9, .inl (K 1, 32, .inr (.inl (mn)))), (a 10, .inl (K 1, 5, .inr (.inl (vc)))), (a 11, .inl (K 3, 5, .inr (.inr (.inr (.inr (fun i => if i < 5 then some (a (22 + i)) else none)))))), (a 12, .inl (K 0, 5, .inl (M 0))), (a 13, .inl (K 0, 5, .inl (M 1))), (a 14, .inl (K 0, 5, .inl (M 2))), (a 15, .inl (K 0, 5, .inl (M 3))), (a 16, .inl (K 0, 5, .inl (M 4))), (a 17, .inl (K 0, 5, .inl (S 0))), (a 18, .inl (K 0, 5, .inl (S 1))), (a 19, .inl (K 0, 5, .inl (S 2))), (a 20, .inl (K 0, 5, .inl (S 3))), (a 21, .inl (K 0, 5, .inl (S 4))), (a 22, .inl (K 1, 5, .inr (.inl (iv 0)))), (a 23, .inl (K 1, 5, .inr (.inl (iv 1)))), (a 24, .inl (K 1, 5, .inr (.inl (iv 2)))), (a 25, .inl (K 1, 5, .inr (.inl (iv 3)))), (a 26, .inl (K 1, 5, .inr (.inl (iv 4))))] : va_W).set (12 + i) (a (12 + i), .inl (K 0, 5, .inl z)) = [(a 0, .inr (2, [.int (nI N), .ref (a 1), .ref (a 2), .ref (a 3), .ref (a 4), .ref (a 5), .ref (a 6), .ref (a 7), .ref (a 8), .ref (a 9), .ref (a 10), .ref (a 11), .long sc])), (a 1, .inl (K 2, 5, .inr (.inr (.inr (.inr (fun i => if i < 5 then some (a (12 + i)) else none)))))), (a 2, .inl (K 2, 5, .inr (.inr (.inr (.inr (fun i => if i < 5 then some (a (17 + i)) else none)))))), (a 3, .inl (K 0, 5, .inl (rl))), (a 4, .inl (K 0, 5, .inl (rh))), (a 5, .inl (K 0, 5, .inl (bl))), (a 6, .inl (K 0, 5, .inl (bh))), (a 7, .inl (K 0, 5, .inl (kl))), (a 8, .inl (K 0, 5, .inl (kh))), (a 9, .inl (K 1, 32, .inr (.inl (mn)))), (a 10, .inl (K 1, 5, .inr (.inl (vc)))), (a 11, .inl (K 3, 5, .inr (.inr (.inr (.inr (fun i => if i < 5 then some (a (22 + i)) else none)))))), (a 12, .inl (K 0, 5, .inl (if 0 = i then z else M 0))), (a 13, .inl (K 0, 5, .inl (if 1 = i then z else M 1))), (a 14, .inl (K 0, 5, .inl (if 2 = i then z else M 2))), (a 15, .inl (K 0, 5, .inl (if 3 = i then z else M 3))), (a 16, .inl (K 0, 5, .inl (if 4 = i then z else M 4))), (a 17, .inl (K 0, 5, .inl (S 0))), (a 18, .inl (K 0, 5, .inl (S 1))), (a 19, .inl (K 0, 5, .inl (S 2))), (a 20, .inl (K 0, 5, .inl (S 3))), (a 21, .inl (K 0, 5, .inl (S 4))), (a 22, .inl (K 1, 5, .inr (.inl (iv 0)))), (a 23, .inl (K 1, 5, .inr (.inl (iv 1)))), (a 24, .inl (K 1, 5, .inr (.inl (iv 2)))), (a 25, .inl (K 1, 5, .inr (.inl (iv 3)))), (a 26, .inl (K 1, 5, .inr (.inl (iv 4))))]) (fun _ => rfl) (fun _ => rfl) (fun _ => rfl) (fun _ => rfl) (fun _ => rfl) hi _
theorem w0_atS {i : Nat} (hi : i < 5) : (w0 K a (N, M, S, rl, rh, bl, bh, kl, kh, mn, vc, iv, sc))[17 + i]? = some (a (17 + i), .inl (K 0, 5, .inl (S i))) := lt5 (P := fun i => (w0 K a (N, M, S, rl, rh, bl, bh, kl, kh, mn, vc, iv, sc))[17 + i]? = some (a (17 + i), .inl (K 0, 5, .inl (S i)))) rfl rfl rfl rfl rfl hi
theorem w0_setS (j : Nat) (x : Int32) {i : Nat} (hi : i < 5) : (w0 K a (N, M, S, rl, rh, bl, bh, kl, kh, mn, vc, iv, sc)).set (17 + i) (a (17 + i), .inl (K 0, 5, .inl (upd (S i) j x))) = w0 K a (N, M, up2 S i j x, rl, rh, bl, bh, kl, kh, mn, vc, iv, sc) := by
  have hr : ∀ r, up2 S i j x r = if r = i then upd (S i) j x else S r := fun r => up2_row S i j x r
  show _ = ([_, _, _, _, _, _, _, _, _, _, _, _, _, _, _, _, _, _, _, _, _, _, _, _, _, _, _] : va_W)
  unfold w0
  simp only [hr]
  exact lt5 (P := fun i => ∀ z : Nat → Int32, ([(a 0, .inr (2, [.int (nI N), .ref (a 1), .ref (a 2), .ref (a 3), .ref (a 4), .ref (a 5), .ref (a 6), .ref (a 7), .ref (a 8), .ref (a 9), .ref (a 10), .ref (a 11), .long sc])), (a 1, .inl (K 2, 5, .inr (.inr (.inr (.inr (fun i => if i < 5 then some (a (12 + i)) else none)))))), (a 2, .inl (K 2, 5, .inr (.inr (.inr (.inr (fun i => if i < 5 then some (a (17 + i)) else none)))))), (a 3, .inl (K 0, 5, .inl (rl))), (a 4, .inl (K 0, 5, .inl (rh))), (a 5, .inl (K 0, 5, .inl (bl))), (a 6, .inl (K 0, 5, .inl (bh))), (a 7, .inl (K 0, 5, .inl (kl))), (a 8, .inl (K 0, 5, .inl (kh))), (a 9, .inl (K 1, 32, .inr (.inl (mn)))), (a 10, .inl (K 1, 5, .inr (.inl (vc)))), (a 11, .inl (K 3, 5, .inr (.inr (.inr (.inr (fun i => if i < 5 then some (a (22 + i)) else none)))))), (a 12, .inl (K 0, 5, .inl (M 0))), (a 13, .inl (K 0, 5, .inl (M 1))), (a 14, .inl (K 0, 5, .inl (M 2))), (a 15, .inl (K 0, 5, .inl (M 3))), (a 16, .inl (K 0, 5, .inl (M 4))), (a 17, .inl (K 0, 5, .inl (S 0))), (a 18, .inl (K 0, 5, .inl (S 1))), (a 19, .inl (K 0, 5, .inl (S 2))), (a 20, .inl (K 0, 5, .inl (S 3))), (a 21, .inl (K 0, 5, .inl (S 4))), (a 22, .inl (K 1, 5, .inr (.inl (iv 0)))), (a 23, .inl (K 1, 5, .inr (.inl (iv 1)))), (a 24, .inl (K 1, 5, .inr (.inl (iv 2)))), (a 25, .inl (K 1, 5, .inr (.inl (iv 3)))), (a 26, .inl (K 1, 5, .inr (.inl (iv 4))))] : va_W).set (17 + i) (a (17 + i), .inl (K 0, 5, .inl z)) = [(a 0, .inr (2, [.int (nI N), .ref (a 1), .ref (a 2), .ref (a 3), .ref (a 4), .ref (a 5), .ref (a 6), .ref (a 7), .ref (a 8), .ref (a 9), .ref (a 10), .ref (a 11), .long sc])), (a 1, .inl (K 2, 5, .inr (.inr (.inr (.inr (fun i => if i < 5 then some (a (12 + i)) else none)))))), (a 2, .inl (K 2, 5, .inr (.inr (.inr (.inr (fun i => if i < 5 then some (a (17 + i)) else none)))))), (a 3, .inl (K 0, 5, .inl (rl))), (a 4, .inl (K 0, 5, .inl (rh))), (a 5, .inl (K 0, 5, .inl (bl))), (a 6, .inl (K 0, 5, .inl (bh))), (a 7, .inl (K 0, 5, .inl (kl))), (a 8, .inl (K 0, 5, .inl (kh))), (a 9, .inl (K 1, 32, .inr (.inl (mn)))), (a 10, .inl (K 1, 5, .inr (.inl (vc)))), (a 11, .inl (K 3, 5, .inr (.inr (.inr (.inr (fun i => if i < 5 then some (a (22 + i)) else none)))))), (a 12, .inl (K 0, 5, .inl (M 0))), (a 13, .inl (K 0, 5, .inl (M 1))), (a 14, .inl (K 0, 5, .inl (M 2))), (a 15, .inl (K 0, 5, .inl (M 3))), (a 16, .inl (K 0, 5, .inl (M 4))), (a 17, .inl (K 0, 5, .inl (if 0 = i then z else S 0))), (a 18, .inl (K 0, 5, .inl (if 1 = i then z else S 1))), (a 19, .inl (K 0, 5, .inl (if 2 = i then z else S 2))), (a 20, .inl (K 0, 5, .inl (if 3 = i then z else S 3))), (a 21, .inl (K 0, 5, .inl (if 4 = i then z else S 4))), (a 22, .inl (K 1, 5, .inr (.inl (iv 0)))), (a 23, .inl (K 1, 5, .inr (.inl (iv 1)))), (a 24, .inl (K 1, 5, .inr (.inl (iv 2)))), (a 25, .inl (K 1, 5, .inr (.inl (iv 3)))), (a 26, .inl (K 1, 5, .inr (.inl (iv 4))))]) (fun _ => rfl) (fun _ => rfl) (fun _ => rfl) (fun _ => rfl) (fun _ => rfl) hi _
theorem w0_atV {i : Nat} (hi : i < 5) : (w0 K a (N, M, S, rl, rh, bl, bh, kl, kh, mn, vc, iv, sc))[22 + i]? = some (a (22 + i), .inl (K 1, 5, .inr (.inl (iv i)))) := lt5 (P := fun i => (w0 K a (N, M, S, rl, rh, bl, bh, kl, kh, mn, vc, iv, sc))[22 + i]? = some (a (22 + i), .inl (K 1, 5, .inr (.inl (iv i))))) rfl rfl rfl rfl rfl hi
theorem w0_setV (j : Nat) (x : Int64) {i : Nat} (hi : i < 5) : (w0 K a (N, M, S, rl, rh, bl, bh, kl, kh, mn, vc, iv, sc)).set (22 + i) (a (22 + i), .inl (K 1, 5, .inr (.inl (vp_updL (iv i) j x)))) = w0 K a (N, M, S, rl, rh, bl, bh, kl, kh, mn, vc, up2 iv i j x, sc) := by
  have hr : ∀ r, up2 iv i j x r = if r = i then vp_updL (iv i) j x else iv r := fun r => up2_row iv i j x r
  show _ = ([_, _, _, _, _, _, _, _, _, _, _, _, _, _, _, _, _, _, _, _, _, _, _, _, _, _, _] : va_W)
  unfold w0
  simp only [hr]
  exact lt5 (P := fun i => ∀ z : Nat → Int64, ([(a 0, .inr (2, [.int (nI N), .ref (a 1), .ref (a 2), .ref (a 3), .ref (a 4), .ref (a 5), .ref (a 6), .ref (a 7), .ref (a 8), .ref (a 9), .ref (a 10), .ref (a 11), .long sc])), (a 1, .inl (K 2, 5, .inr (.inr (.inr (.inr (fun i => if i < 5 then some (a (12 + i)) else none)))))), (a 2, .inl (K 2, 5, .inr (.inr (.inr (.inr (fun i => if i < 5 then some (a (17 + i)) else none)))))), (a 3, .inl (K 0, 5, .inl (rl))), (a 4, .inl (K 0, 5, .inl (rh))), (a 5, .inl (K 0, 5, .inl (bl))), (a 6, .inl (K 0, 5, .inl (bh))), (a 7, .inl (K 0, 5, .inl (kl))), (a 8, .inl (K 0, 5, .inl (kh))), (a 9, .inl (K 1, 32, .inr (.inl (mn)))), (a 10, .inl (K 1, 5, .inr (.inl (vc)))), (a 11, .inl (K 3, 5, .inr (.inr (.inr (.inr (fun i => if i < 5 then some (a (22 + i)) else none)))))), (a 12, .inl (K 0, 5, .inl (M 0))), (a 13, .inl (K 0, 5, .inl (M 1))), (a 14, .inl (K 0, 5, .inl (M 2))), (a 15, .inl (K 0, 5, .inl (M 3))), (a 16, .inl (K 0, 5, .inl (M 4))), (a 17, .inl (K 0, 5, .inl (S 0))), (a 18, .inl (K 0, 5, .inl (S 1))), (a 19, .inl (K 0, 5, .inl (S 2))), (a 20, .inl (K 0, 5, .inl (S 3))), (a 21, .inl (K 0, 5, .inl (S 4))), (a 22, .inl (K 1, 5, .inr (.inl (iv 0)))), (a 23, .inl (K 1, 5, .inr (.inl (iv 1)))), (a 24, .inl (K 1, 5, .inr (.inl (iv 2)))), (a 25, .inl (K 1, 5, .inr (.inl (iv 3)))), (a 26, .inl (K 1, 5, .inr (.inl (iv 4))))] : va_W).set (22 + i) (a (22 + i), .inl (K 1, 5, .inr (.inl z))) = [(a 0, .inr (2, [.int (nI N), .ref (a 1), .ref (a 2), .ref (a 3), .ref (a 4), .ref (a 5), .ref (a 6), .ref (a 7), .ref (a 8), .ref (a 9), .ref (a 10), .ref (a 11), .long sc])), (a 1, .inl (K 2, 5, .inr (.inr (.inr (.inr (fun i => if i < 5 then some (a (12 + i)) else none)))))), (a 2, .inl (K 2, 5, .inr (.inr (.inr (.inr (fun i => if i < 5 then some (a (17 + i)) else none)))))), (a 3, .inl (K 0, 5, .inl (rl))), (a 4, .inl (K 0, 5, .inl (rh))), (a 5, .inl (K 0, 5, .inl (bl))), (a 6, .inl (K 0, 5, .inl (bh))), (a 7, .inl (K 0, 5, .inl (kl))), (a 8, .inl (K 0, 5, .inl (kh))), (a 9, .inl (K 1, 32, .inr (.inl (mn)))), (a 10, .inl (K 1, 5, .inr (.inl (vc)))), (a 11, .inl (K 3, 5, .inr (.inr (.inr (.inr (fun i => if i < 5 then some (a (22 + i)) else none)))))), (a 12, .inl (K 0, 5, .inl (M 0))), (a 13, .inl (K 0, 5, .inl (M 1))), (a 14, .inl (K 0, 5, .inl (M 2))), (a 15, .inl (K 0, 5, .inl (M 3))), (a 16, .inl (K 0, 5, .inl (M 4))), (a 17, .inl (K 0, 5, .inl (S 0))), (a 18, .inl (K 0, 5, .inl (S 1))), (a 19, .inl (K 0, 5, .inl (S 2))), (a 20, .inl (K 0, 5, .inl (S 3))), (a 21, .inl (K 0, 5, .inl (S 4))), (a 22, .inl (K 1, 5, .inr (.inl (if 0 = i then z else iv 0)))), (a 23, .inl (K 1, 5, .inr (.inl (if 1 = i then z else iv 1)))), (a 24, .inl (K 1, 5, .inr (.inl (if 2 = i then z else iv 2)))), (a 25, .inl (K 1, 5, .inr (.inl (if 3 = i then z else iv 3)))), (a 26, .inl (K 1, 5, .inr (.inl (if 4 = i then z else iv 4))))]) (fun _ => rfl) (fun _ => rfl) (fun _ => rfl) (fun _ => rfl) (fun _ => rfl) hi _
end WROWS
end
