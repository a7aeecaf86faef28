section
-- ===== PART A: goes FIRST, ahead of the names: the tables' words, and 'selects' of the private methods out of them =====
/-- a private method of a class that the tables say can be made, by its rows of tables_1 -/
def lw_okq (q : MethodName × Nat) : Prop := (q.1.cls ≠ "java/lang/invoke/MethodHandle" ∧ q.1.cls ≠ "java/lang/invoke/VarHandle") ∧ Cond.instantiable q.1.cls q.2 ∈ tables_1 ∧ Cond.privateMethod q.1 ∈ tables_1 ∧ Cond.instanceMethod q.1 ∈ tables_1
theorem lw_p0 : lw_okq (⟨"KilogramRows", "hasRow", "(I)Z"⟩, 6) := ⟨⟨by decide +kernel, by decide +kernel⟩, List.mem_of_getElem? (i := 14) (by decide +kernel), List.mem_of_getElem? (i := 190) (by decide +kernel), List.mem_of_getElem? (i := 191) (by decide +kernel)⟩
theorem lw_p1 : lw_okq (⟨"KilogramRows$ShareSystem", "copyEntries", "(I)V"⟩, 6) := ⟨⟨by decide +kernel, by decide +kernel⟩, List.mem_of_getElem? (i := 42) (by decide +kernel), List.mem_of_getElem? (i := 212) (by decide +kernel), List.mem_of_getElem? (i := 213) (by decide +kernel)⟩
theorem lw_p2 : lw_okq (⟨"KilogramRows$ShareSystem", "pivotColumn", "(II)I"⟩, 6) := ⟨⟨by decide +kernel, by decide +kernel⟩, List.mem_of_getElem? (i := 42) (by decide +kernel), List.mem_of_getElem? (i := 216) (by decide +kernel), List.mem_of_getElem? (i := 217) (by decide +kernel)⟩
theorem lw_p3 : lw_okq (⟨"KilogramRows$ShareSystem", "eliminate", "(IIIJ)V"⟩, 6) := ⟨⟨by decide +kernel, by decide +kernel⟩, List.mem_of_getElem? (i := 42) (by decide +kernel), List.mem_of_getElem? (i := 220) (by decide +kernel), List.mem_of_getElem? (i := 221) (by decide +kernel)⟩
theorem lw_p4 : lw_okq (⟨"KilogramRows$ShareSystem", "keepAnswers", "(I)V"⟩, 6) := ⟨⟨by decide +kernel, by decide +kernel⟩, List.mem_of_getElem? (i := 42) (by decide +kernel), List.mem_of_getElem? (i := 224) (by decide +kernel), List.mem_of_getElem? (i := 225) (by decide +kernel)⟩
theorem lw_p5 : lw_okq (⟨"java/lang/Throwable", "fillInStackTrace", "(I)Ljava/lang/Throwable;"⟩, 6) := ⟨⟨by decide +kernel, by decide +kernel⟩, List.mem_of_getElem? (i := 308) (by decide +kernel), List.mem_of_getElem? (i := 306) (by decide +kernel), List.mem_of_getElem? (i := 307) (by decide +kernel)⟩
theorem lw_p6 : lw_okq (⟨"KilogramRows", "hasKind", "(I)Z"⟩, 6) := ⟨⟨by decide +kernel, by decide +kernel⟩, List.mem_of_getElem? (i := 14) (by decide +kernel), List.mem_of_getElem? (i := 377) (by decide +kernel), List.mem_of_getElem? (i := 378) (by decide +kernel)⟩
theorem lw_p7 : lw_okq (⟨"KilogramRowsModel", "keep", "(JJ)I"⟩, 17) := ⟨⟨by decide +kernel, by decide +kernel⟩, List.mem_of_getElem? (i := 389) (by decide +kernel), List.mem_of_getElem? (i := 456) (by decide +kernel), List.mem_of_getElem? (i := 457) (by decide +kernel)⟩
theorem lw_p8 : lw_okq (⟨"KilogramRowsModel", "lowest", "(JJ)Z"⟩, 17) := ⟨⟨by decide +kernel, by decide +kernel⟩, List.mem_of_getElem? (i := 389) (by decide +kernel), List.mem_of_getElem? (i := 460) (by decide +kernel), List.mem_of_getElem? (i := 461) (by decide +kernel)⟩
theorem lw_p9 : lw_okq (⟨"KilogramRowsModel", "isValue", "(I)Z"⟩, 17) := ⟨⟨by decide +kernel, by decide +kernel⟩, List.mem_of_getElem? (i := 389) (by decide +kernel), List.mem_of_getElem? (i := 473) (by decide +kernel), List.mem_of_getElem? (i := 474) (by decide +kernel)⟩
theorem lw_p10 : lw_okq (⟨"KilogramRowsModel", "isRow", "(I)Z"⟩, 17) := ⟨⟨by decide +kernel, by decide +kernel⟩, List.mem_of_getElem? (i := 389) (by decide +kernel), List.mem_of_getElem? (i := 516) (by decide +kernel), List.mem_of_getElem? (i := 517) (by decide +kernel)⟩
theorem lw_p11 : lw_okq (⟨"KilogramRowsModel", "isKind", "(I)Z"⟩, 17) := ⟨⟨by decide +kernel, by decide +kernel⟩, List.mem_of_getElem? (i := 389) (by decide +kernel), List.mem_of_getElem? (i := 520) (by decide +kernel), List.mem_of_getElem? (i := 521) (by decide +kernel)⟩
theorem lw_p12 : lw_okq (⟨"KilogramRowsModel", "areFree", "(II)Z"⟩, 17) := ⟨⟨by decide +kernel, by decide +kernel⟩, List.mem_of_getElem? (i := 389) (by decide +kernel), List.mem_of_getElem? (i := 540) (by decide +kernel), List.mem_of_getElem? (i := 541) (by decide +kernel)⟩
theorem lw_p13 : lw_okq (⟨"KilogramRowsModel", "determinant", "(I)J"⟩, 17) := ⟨⟨by decide +kernel, by decide +kernel⟩, List.mem_of_getElem? (i := 389) (by decide +kernel), List.mem_of_getElem? (i := 544) (by decide +kernel), List.mem_of_getElem? (i := 545) (by decide +kernel)⟩
theorem lw_p14 : lw_okq (⟨"KilogramRowsModel", "load", "(II)V"⟩, 17) := ⟨⟨by decide +kernel, by decide +kernel⟩, List.mem_of_getElem? (i := 389) (by decide +kernel), List.mem_of_getElem? (i := 548) (by decide +kernel), List.mem_of_getElem? (i := 549) (by decide +kernel)⟩
def lw_privs_1 : List (MethodName × Nat) := [(⟨"KilogramRows", "hasRow", "(I)Z"⟩, 6), (⟨"KilogramRows$ShareSystem", "copyEntries", "(I)V"⟩, 6), (⟨"KilogramRows$ShareSystem", "pivotColumn", "(II)I"⟩, 6), (⟨"KilogramRows$ShareSystem", "eliminate", "(IIIJ)V"⟩, 6), (⟨"KilogramRows$ShareSystem", "keepAnswers", "(I)V"⟩, 6), (⟨"java/lang/Throwable", "fillInStackTrace", "(I)Ljava/lang/Throwable;"⟩, 6), (⟨"KilogramRows", "hasKind", "(I)Z"⟩, 6), (⟨"KilogramRowsModel", "keep", "(JJ)I"⟩, 17), (⟨"KilogramRowsModel", "lowest", "(JJ)Z"⟩, 17), (⟨"KilogramRowsModel", "isValue", "(I)Z"⟩, 17), (⟨"KilogramRowsModel", "isRow", "(I)Z"⟩, 17), (⟨"KilogramRowsModel", "isKind", "(I)Z"⟩, 17), (⟨"KilogramRowsModel", "areFree", "(II)Z"⟩, 17), (⟨"KilogramRowsModel", "determinant", "(I)J"⟩, 17), (⟨"KilogramRowsModel", "load", "(II)V"⟩, 17)]
theorem lw_r1 : ∀ q ∈ lw_privs_1, lw_okq q := List.forall_mem_cons.mpr ⟨lw_p0, List.forall_mem_cons.mpr ⟨lw_p1, List.forall_mem_cons.mpr ⟨lw_p2, List.forall_mem_cons.mpr ⟨lw_p3, List.forall_mem_cons.mpr ⟨lw_p4, List.forall_mem_cons.mpr ⟨lw_p5, List.forall_mem_cons.mpr ⟨lw_p6, List.forall_mem_cons.mpr ⟨lw_p7, List.forall_mem_cons.mpr ⟨lw_p8, List.forall_mem_cons.mpr ⟨lw_p9, List.forall_mem_cons.mpr ⟨lw_p10, List.forall_mem_cons.mpr ⟨lw_p11, List.forall_mem_cons.mpr ⟨lw_p12, List.forall_mem_cons.mpr ⟨lw_p13, List.forall_mem_cons.mpr ⟨lw_p14, fun _ h => absurd h List.not_mem_nil⟩⟩⟩⟩⟩⟩⟩⟩⟩⟩⟩⟩⟩⟩⟩
def lw_privs : List (MethodName × Nat) := lw_privs_1
def lw_tbl : List Cond := k2_sels lw_privs ++ tables_1
theorem lw_privs_ok : ∀ q ∈ lw_privs, lw_okq q := lw_r1
end
section
/-- words that a callee may be given of its caller's -/
def kt_g : Cond → Bool
  | .arrayClass _ => true
  | w => goodWord w
def kt_T : List Cond := lw_tbl.filter kt_g
theorem kt_ok {w : Cond} (h : w ∈ kt_T) : (w.onTables && w.keeps) = true ∨ ∃ ty, w = .arrayClass ty := by
  have h2 := (List.mem_filter.mp h).2
  cases w <;> first | exact Or.inr ⟨_, rfl⟩ | exact good_of_word h2
theorem kt_sub {w : Cond} (h : w ∈ kt_T) : w ∈ lw_tbl := (List.mem_filter.mp h).1
theorem kt_G {cy : Cond} (h : cy ∈ kt_T) : GoodIn kt_T (cy :: kt_T) := fun w hw => (List.mem_cons.mp hw).elim (fun q => q ▸ ⟨h, kt_ok h⟩) (fun q => ⟨q, kt_ok q⟩)
theorem kt_V {own C : String} {idx : Nat} {y : MethodName} {cy : Cond} (h1 : Cond.methodLink own idx y ∈ kt_T) (h2 : Cond.instanceMethod y ∈ kt_T) (h3 : Cond.selects C y y ∈ kt_T) (h4 : Cond.initialized C ∈ kt_T) (h5 : cy ∈ kt_T) : GoodIn kt_T (wsV own idx C y (cy :: kt_T)) := by
  intro w hw
  have hm : w ∈ kt_T := by
    rcases List.mem_append.mp hw with q | q
    · simp only [List.mem_cons, List.not_mem_nil, or_false] at q
      rcases q with rfl | rfl | rfl | rfl <;> assumption
    · exact (List.mem_cons.mp q).elim (fun q => q ▸ h5) id
  exact ⟨hm, kt_ok hm⟩
theorem kt_S {own : String} {idx : Nat} {y : MethodName} {cy : Cond} (h1 : Cond.methodLink own idx y ∈ kt_T) (h2 : Cond.static y ∈ kt_T) (h4 : Cond.initialized y.cls ∈ kt_T) (h5 : cy ∈ kt_T) : GoodIn kt_T (va_wsS own idx y (cy :: kt_T)) := by
  intro w hw
  have hm : w ∈ kt_T := by
    rcases List.mem_append.mp hw with q | q
    · simp only [List.mem_cons, List.not_mem_nil, or_false] at q
      rcases q with rfl | rfl | rfl <;> assumption
    · exact (List.mem_cons.mp q).elim (fun q => q ▸ h5) id
  exact ⟨hm, kt_ok hm⟩
def R_kr : String := "KilogramRows"
def F_kr : u_T := fun k => match k with
  | 0 => ("KilogramRows", "kinds", "I", true)
  | 1 => ("KilogramRows", "cells", "[I", true)
  | 2 => ("KilogramRows", "rowCount", "I", false)
  | 3 => ("KilogramRows", "values", "LKilogramRows$Values;", true)
  | 4 => ("KilogramRows", "system", "LKilogramRows$ShareSystem;", true)
  | _ => ("KilogramRows", "weights", "LKilogramRows$Weights;", true)
def t_kr : Nat → FieldType := fun k => match k with
  | 0 => .int
  | 1 => .array .int
  | 2 => .int
  | 3 => .object "KilogramRows$Values"
  | 4 => .object "KilogramRows$ShareSystem"
  | _ => .object "KilogramRows$Weights"
theorem n_kr : ∀ a, a < 6 → ∀ b, b < 6 → a ≠ b → (F_kr a).2.1 ≠ (F_kr b).2.1 := by decide +kernel
theorem t_kr_ok : ∀ k, k < 6 → parseFieldDescriptor (F_kr k).2.2.1 = some (t_kr k) := by decide +kernel
theorem i_kr : ∀ w ∈ u_ws R_kr F_kr 6, w ∈ kt_T := by decide +kernel
def R_kv : String := "KilogramRows$Values"
def F_kv : u_T := fun k => match k with
  | 0 => ("KilogramRows$Values", "uppers", "[I", true)
  | 1 => ("KilogramRows$Values", "lowers", "[I", true)
  | _ => ("KilogramRows$Values", "count", "I", false)
def t_kv : Nat → FieldType := fun k => match k with
  | 0 => .array .int
  | 1 => .array .int
  | _ => .int
theorem n_kv : ∀ a, a < 3 → ∀ b, b < 3 → a ≠ b → (F_kv a).2.1 ≠ (F_kv b).2.1 := by decide +kernel
theorem t_kv_ok : ∀ k, k < 3 → parseFieldDescriptor (F_kv k).2.2.1 = some (t_kv k) := by decide +kernel
theorem i_kv : ∀ w ∈ u_ws R_kv F_kv 3, w ∈ kt_T := by decide +kernel
def R_ks : String := "KilogramRows$ShareSystem"
def F_ks : u_T := fun k => match k with
  | 0 => ("KilogramRows$ShareSystem", "entries", "[[I", true)
  | 1 => ("KilogramRows$ShareSystem", "work", "[[J", true)
  | 2 => ("KilogramRows$ShareSystem", "pivots", "[I", true)
  | 3 => ("KilogramRows$ShareSystem", "uppers", "[J", true)
  | 4 => ("KilogramRows$ShareSystem", "lowers", "[J", true)
  | _ => ("KilogramRows$ShareSystem", "answers", "I", false)
def t_ks : Nat → FieldType := fun k => match k with
  | 0 => .array (.array .int)
  | 1 => .array (.array .long)
  | 2 => .array .int
  | 3 => .array .long
  | 4 => .array .long
  | _ => .int
theorem n_ks : ∀ a, a < 6 → ∀ b, b < 6 → a ≠ b → (F_ks a).2.1 ≠ (F_ks b).2.1 := by decide +kernel
theorem t_ks_ok : ∀ k, k < 6 → parseFieldDescriptor (F_ks k).2.2.1 = some (t_ks k) := by decide +kernel
theorem i_ks : ∀ w ∈ u_ws R_ks F_ks 6, w ∈ kt_T := by decide +kernel
def R_kw : String := "KilogramRows$Weights"
def F_kw : u_T := fun k => match k with
  | 0 => ("KilogramRows$Weights", "sizes", "[I", true)
  | 1 => ("KilogramRows$Weights", "count", "I", false)
  | _ => ("KilogramRows$Weights", "all", "J", false)
def t_kw : Nat → FieldType := fun k => match k with
  | 0 => .array .int
  | 1 => .int
  | _ => .long
theorem n_kw : ∀ a, a < 3 → ∀ b, b < 3 → a ≠ b → (F_kw a).2.1 ≠ (F_kw b).2.1 := by decide +kernel
theorem t_kw_ok : ∀ k, k < 3 → parseFieldDescriptor (F_kw k).2.2.1 = some (t_kw k) := by decide +kernel
theorem i_kw : ∀ w ∈ u_ws R_kw F_kw 3, w ∈ kt_T := by decide +kernel
abbrev classes : List vw_C := [(R_kr, F_kr, 6), (R_kv, F_kv, 3), (R_ks, F_ks, 6), (R_kw, F_kw, 3)]
def R_jm : String := "java/lang/Math"
def R_ja : String := "java/util/Arrays"
def kt_nest : List Cond := [.methodLinkNest R_kr 28 ⟨R_kv, "<init>", "()V"⟩ R_kr, .methodLinkNest R_kr 35 ⟨R_ks, "<init>", "()V"⟩ R_kr, .methodLinkNest R_kr 42 ⟨R_kw, "<init>", "()V"⟩ R_kr, .methodLinkNest R_kv 30 ⟨R_kr, "commonDivisor", "(JJ)J"⟩ R_kr, .methodLinkNest R_ks 51 ⟨R_kr, "commonDivisor", "(JJ)J"⟩ R_kr]
theorem n_0 : (.methodLinkNest R_kr 28 ⟨R_kv, "<init>", "()V"⟩ R_kr : Cond) ∈ kt_nest := List.mem_of_getElem? (i := 0) rfl
theorem n_1 : (.methodLinkNest R_kr 35 ⟨R_ks, "<init>", "()V"⟩ R_kr : Cond) ∈ kt_nest := List.mem_of_getElem? (i := 1) rfl
theorem n_2 : (.methodLinkNest R_kr 42 ⟨R_kw, "<init>", "()V"⟩ R_kr : Cond) ∈ kt_nest := List.mem_of_getElem? (i := 2) rfl
theorem n_3 : (.methodLinkNest R_kv 30 ⟨R_kr, "commonDivisor", "(JJ)J"⟩ R_kr : Cond) ∈ kt_nest := List.mem_of_getElem? (i := 3) rfl
theorem n_4 : (.methodLinkNest R_ks 51 ⟨R_kr, "commonDivisor", "(JJ)J"⟩ R_kr : Cond) ∈ kt_nest := List.mem_of_getElem? (i := 4) rfl
def kt_N (U : State) : Prop := ∀ w ∈ kt_nest, va_Nw w U
theorem kt_nestL {w : Cond} (h : w ∈ kt_nest) : ∃ a i x b, w = .methodLinkNest a i x b := by
  simp only [kt_nest, List.mem_cons, List.not_mem_nil, or_false] at h
  rcases h with rfl | rfl | rfl | rfl | rfl <;> exact ⟨_, _, _, _, rfl⟩
theorem kt_N.warm {s U : State} (hW : s.WarmedH U.vm) (h : kt_N s) : kt_N U := fun w hw => by
  have h1 := h w hw
  obtain ⟨a, i, x, b, rfl⟩ := kt_nestL hw
  exact va_Nw.warmM hW h1
theorem kt_N.same {s U : State} (e : s.vm = U.vm) (h : kt_N s) : kt_N U := fun w hw => by
  have h1 := h w hw
  obtain ⟨a, i, x, b, rfl⟩ := kt_nestL hw
  exact va_Nw.same rfl e h1
theorem bl_SN {av : List Value} : FrameBlind (va_Pc av (fun U => kt_N U)) := fun a U g mk q => ⟨q.1, kt_N.same (s := U) (U := U.calling g mk a) rfl q.2⟩
theorem bl_RN {av : List Value} {D : va_G} {cl : List vw_C} {ws : va_W} {tys : List (ClassId × FieldType)} : FrameBlind (va_Pc av (fun U => va_P D cl ws U.heap ∧ va_K D cl tys U ∧ kt_N U)) := fun a U g mk q => ⟨q.1, q.2.1, va_K.moved (u := U) (U := U.calling g mk a) (Vm.Alike.refl U.vm) q.2.2.1, kt_N.same (s := U) (U := U.calling g mk a) rfl q.2.2.2⟩
theorem bl_MN {av : List Value} {D : va_G} {cl : List vw_C} {ws : va_W} {tys : List (ClassId × FieldType)} {sz : Nat} : FrameBlind (va_Pc av (fun U => U.heap.size = sz ∧ va_P D cl ws U.heap ∧ va_K D cl tys U ∧ va_D (fun _ => True) ws ∧ kt_N U)) := fun a U g mk q => ⟨q.1, q.2.1, q.2.2.1, va_K.moved (u := U) (U := U.calling g mk a) (Vm.Alike.refl U.vm) q.2.2.2.1, q.2.2.2.2.1, kt_N.same (s := U) (U := U.calling g mk a) rfl q.2.2.2.2.2⟩
/-! rows of my own over the kit: long compares with the jump behind them; the words; blind starts -/
section KB
variable {p : Program} {l : Launch} {e : Env} {R : Room} {s : State} {m : MethodId} {args : Array Value} {below : List Frame} {meth : Method} {c : Code} {H : Heap} {locs : List Loc} {cells slots : Nat} {Q : State → Prop}
variable {cc : ByteArray} {pc : Nat} {ls : Array Slot} {rest : List Value}
theorem lx_ifeq (hexec : p.tables.exec = Jvm.exec) (hb : c.code = cc) {x y : Int64} {off : Int} {tgt : Nat} (d1 : decode cc pc = .ok (.lcmp, 1)) (d2 : decode cc (pc + 1) = .ok (.ifCond .eq off, 3)) (ht : ((pc + 1 : Nat) : Int) + off = (tgt : Int))
    (kt : x = y → W p l e R s m args below meth c H locs cells slots Q (F0 m tgt ls rest)) (kf : ¬ x = y → W p l e R s m args below meth c H locs cells slots Q (F0 m (pc + 1 + 3) ls rest)) : W p l e R s m args below meth c H locs cells slots Q (F0 m pc ls (.long y :: .long x :: rest)) :=
  W.lcmp hexec hb d1 (lv_if_eq hexec hb d2 ht (fun h => kt ((lg_cmp_eq x y).mp h)) (fun h => kf (fun q => h ((lg_cmp_eq x y).mpr q))))
theorem lx_ifne (hexec : p.tables.exec = Jvm.exec) (hb : c.code = cc) {x y : Int64} {off : Int} {tgt : Nat} (d1 : decode cc pc = .ok (.lcmp, 1)) (d2 : decode cc (pc + 1) = .ok (.ifCond .ne off, 3)) (ht : ((pc + 1 : Nat) : Int) + off = (tgt : Int))
    (kt : ¬ x = y → W p l e R s m args below meth c H locs cells slots Q (F0 m tgt ls rest)) (kf : x = y → W p l e R s m args below meth c H locs cells slots Q (F0 m (pc + 1 + 3) ls rest)) : W p l e R s m args below meth c H locs cells slots Q (F0 m pc ls (.long y :: .long x :: rest)) :=
  W.lcmp hexec hb d1 (lv_if_ne hexec hb d2 ht (fun h => kt (fun q => h ((lg_cmp_eq x y).mpr q))) (fun h => kf ((lg_cmp_eq x y).mp h)))
theorem lx_iflt (hexec : p.tables.exec = Jvm.exec) (hb : c.code = cc) {x y : Int64} {off : Int} {tgt : Nat} (d1 : decode cc pc = .ok (.lcmp, 1)) (d2 : decode cc (pc + 1) = .ok (.ifCond .lt off, 3)) (ht : ((pc + 1 : Nat) : Int) + off = (tgt : Int))
    (kt : x < y → W p l e R s m args below meth c H locs cells slots Q (F0 m tgt ls rest)) (kf : ¬ x < y → W p l e R s m args below meth c H locs cells slots Q (F0 m (pc + 1 + 3) ls rest)) : W p l e R s m args below meth c H locs cells slots Q (F0 m pc ls (.long y :: .long x :: rest)) :=
  W.lcmp hexec hb d1 (lv_if_lt hexec hb d2 ht (fun h => kt ((lg_cmp_lt x y).mp h)) (fun h => kf (fun q => h ((lg_cmp_lt x y).mpr q))))
theorem lx_ifge (hexec : p.tables.exec = Jvm.exec) (hb : c.code = cc) {x y : Int64} {off : Int} {tgt : Nat} (d1 : decode cc pc = .ok (.lcmp, 1)) (d2 : decode cc (pc + 1) = .ok (.ifCond .ge off, 3)) (ht : ((pc + 1 : Nat) : Int) + off = (tgt : Int))
    (kt : y ≤ x → W p l e R s m args below meth c H locs cells slots Q (F0 m tgt ls rest)) (kf : ¬ y ≤ x → W p l e R s m args below meth c H locs cells slots Q (F0 m (pc + 1 + 3) ls rest)) : W p l e R s m args below meth c H locs cells slots Q (F0 m pc ls (.long y :: .long x :: rest)) :=
  W.lcmp hexec hb d1 (lv_if_ge hexec hb d2 ht (fun h => kt ((lg_cmp_ge x y).mp h)) (fun h => kf (fun q => h ((lg_cmp_ge x y).mpr q))))
theorem lx_ifgt (hexec : p.tables.exec = Jvm.exec) (hb : c.code = cc) {x y : Int64} {off : Int} {tgt : Nat} (d1 : decode cc pc = .ok (.lcmp, 1)) (d2 : decode cc (pc + 1) = .ok (.ifCond .gt off, 3)) (ht : ((pc + 1 : Nat) : Int) + off = (tgt : Int))
    (kt : y < x → W p l e R s m args below meth c H locs cells slots Q (F0 m tgt ls rest)) (kf : ¬ y < x → W p l e R s m args below meth c H locs cells slots Q (F0 m (pc + 1 + 3) ls rest)) : W p l e R s m args below meth c H locs cells slots Q (F0 m pc ls (.long y :: .long x :: rest)) :=
  W.lcmp hexec hb d1 (lv_if_gt hexec hb d2 ht (fun h => kt ((lg_cmp_gt x y).mp h)) (fun h => kf (fun q => h ((lg_cmp_gt x y).mpr q))))
theorem lx_ifle (hexec : p.tables.exec = Jvm.exec) (hb : c.code = cc) {x y : Int64} {off : Int} {tgt : Nat} (d1 : decode cc pc = .ok (.lcmp, 1)) (d2 : decode cc (pc + 1) = .ok (.ifCond .le off, 3)) (ht : ((pc + 1 : Nat) : Int) + off = (tgt : Int))
    (kt : x ≤ y → W p l e R s m args below meth c H locs cells slots Q (F0 m tgt ls rest)) (kf : ¬ x ≤ y → W p l e R s m args below meth c H locs cells slots Q (F0 m (pc + 1 + 3) ls rest)) : W p l e R s m args below meth c H locs cells slots Q (F0 m pc ls (.long y :: .long x :: rest)) :=
  W.lcmp hexec hb d1 (lv_if_le hexec hb d2 ht (fun h => kt ((lg_cmp_le x y).mp h)) (fun h => kf (fun q => h ((lg_cmp_le x y).mpr q))))
end KB
/-- starts that don't look at frames -/
theorem bl_S {av : List Value} : FrameBlind (va_Pc av (fun _ => True)) := fun _ _ _ _ q => ⟨q.1, trivial⟩
theorem bl_R {av : List Value} {D : va_G} {cl : List vw_C} {ws : va_W} {tys : List (ClassId × FieldType)} : FrameBlind (va_Pc av (fun U => va_P D cl ws U.heap ∧ va_K D cl tys U)) := fun a U g mk q => ⟨q.1, q.2.1, va_K.moved (u := U) (U := U.calling g mk a) (Vm.Alike.refl U.vm) q.2.2⟩
theorem bl_M {av : List Value} {D : va_G} {cl : List vw_C} {ws : va_W} {tys : List (ClassId × FieldType)} {sz : Nat} : FrameBlind (va_Pc av (fun U => U.heap.size = sz ∧ va_P D cl ws U.heap ∧ va_K D cl tys U ∧ va_D (fun _ => True) ws)) := fun a U g mk q => ⟨q.1, q.2.1, q.2.2.1, va_K.moved (u := U) (U := U.calling g mk a) (Vm.Alike.refl U.vm) q.2.2.2.1, q.2.2.2.2⟩

section KX
variable {p : Program} {l : Launch} {e : Env} {R : Room} {s : State} {m : MethodId} {args : Array Value} {below : List Frame} {meth : Method} {c : Code} {H H0 : Heap} {locs : List Loc} {cells slots : Nat} {Q : State → Prop}
variable {cc : ByteArray} {pc : Nat} {ls : Array Slot} {rest : List Value} {D : va_G} {cl : List vw_C} {tys : List (ClassId × FieldType)} {ws : va_W} {a : Nat} {A : Nat → Prop}
/-- array rows at an index that is a number -/
theorem va_ialdN (hexec : p.tables.exec = Jvm.exec) (hb : c.code = cc) (hK : va_K D cl tys s) (hP : va_P D cl ws H) (q0 t0 : Nat) {cA : ClassId} {n : Nat} {f : Nat → Int32} (ha : ws[q0]? = some (a, .inl (cA, n, .inl f))) (ht : tys[t0]? = some (cA, .int)) {i : Nat} (hin : i < n ∧ n < 2 ^ 31) (hdg : decode cc pc = .ok (.iaload, 1))
    (kk : W p l e R s m args below meth c H locs cells slots Q (F0 m (pc + 1) ls (.int (f i) :: rest))) : W p l e R s m args below meth c H locs cells slots Q (F0 m pc ls (.int (nI i) :: .ref a :: rest)) :=
  va_iald hexec hb hK hP q0 t0 ha ht (vp_in_nI hin.1 hin.2) hdg (by rw [nI_clamp (Nat.lt_trans hin.1 hin.2)]; exact kk)
theorem va_laldN (hexec : p.tables.exec = Jvm.exec) (hb : c.code = cc) (hK : va_K D cl tys s) (hP : va_P D cl ws H) (q0 t0 : Nat) {cA : ClassId} {n : Nat} {f : Nat → Int64} (ha : ws[q0]? = some (a, .inl (cA, n, .inr (.inl f)))) (ht : tys[t0]? = some (cA, .long)) {i : Nat} (hin : i < n ∧ n < 2 ^ 31) (hdg : decode cc pc = .ok (.laload, 1))
    (kk : W p l e R s m args below meth c H locs cells slots Q (F0 m (pc + 1) ls (.long (f i) :: rest))) : W p l e R s m args below meth c H locs cells slots Q (F0 m pc ls (.int (nI i) :: .ref a :: rest)) :=
  va_lald hexec hb hK hP q0 t0 ha ht (vp_in_nI hin.1 hin.2) hdg (by rw [nI_clamp (Nat.lt_trans hin.1 hin.2)]; exact kk)
theorem va_iastN (hexec : p.tables.exec = Jvm.exec) (hb : c.code = cc) (hK : va_K D cl tys s) (hP : va_P D cl ws H) (hD : va_D A ws) (hS : va_S A H0 H locs) (q0 t0 : Nat) {cA : ClassId} {n : Nat} {f : Nat → Int32} (ha : ws[q0]? = some (a, .inl (cA, n, .inl f))) (ht : tys[t0]? = some (cA, .int)) {i : Nat} {x : Int32} (hin : i < n ∧ n < 2 ^ 31) (hdg : decode cc pc = .ok (.iastore, 1))
    (kk : ∀ (H1 : Heap) (locs1 : List Loc), va_P D cl (ws.set q0 (a, .inl (cA, n, .inl (upd f i x)))) H1 → va_D A (ws.set q0 (a, .inl (cA, n, .inl (upd f i x)))) → va_S A H0 H1 locs1 → W p l e R s m args below meth c H1 locs1 cells slots Q (F0 m (pc + 1) ls rest)) : W p l e R s m args below meth c H locs cells slots Q (F0 m pc ls (.int x :: .int (nI i) :: .ref a :: rest)) :=
  va_iast hexec hb hK hP hD hS q0 t0 ha ht (vp_in_nI hin.1 hin.2) hdg (by rw [nI_clamp (Nat.lt_trans hin.1 hin.2)]; exact kk)
theorem va_lastN (hexec : p.tables.exec = Jvm.exec) (hb : c.code = cc) (hK : va_K D cl tys s) (hP : va_P D cl ws H) (hD : va_D A ws) (hS : va_S A H0 H locs) (q0 t0 : Nat) {cA : ClassId} {n : Nat} {f : Nat → Int64} (ha : ws[q0]? = some (a, .inl (cA, n, .inr (.inl f)))) (ht : tys[t0]? = some (cA, .long)) {i : Nat} {x : Int64} (hin : i < n ∧ n < 2 ^ 31) (hdg : decode cc pc = .ok (.lastore, 1))
    (kk : ∀ (H1 : Heap) (locs1 : List Loc), va_P D cl (ws.set q0 (a, .inl (cA, n, .inr (.inl (vp_updL f i x))))) H1 → va_D A (ws.set q0 (a, .inl (cA, n, .inr (.inl (vp_updL f i x))))) → va_S A H0 H1 locs1 → W p l e R s m args below meth c H1 locs1 cells slots Q (F0 m (pc + 1) ls rest)) : W p l e R s m args below meth c H locs cells slots Q (F0 m pc ls (.long x :: .int (nI i) :: .ref a :: rest)) :=
  va_last hexec hb hK hP hD hS q0 t0 ha ht (vp_in_nI hin.1 hin.2) hdg (by rw [nI_clamp (Nat.lt_trans hin.1 hin.2)]; exact kk)
end KX
end
section
abbrev b_kr_gcd : ByteArray := prog_1_method_24_code
def y_kr_gcd : MethodName := ⟨R_kr, "commonDivisor", "(JJ)J"⟩
def w_kr_gcd : List Cond := .code y_kr_gcd b_kr_gcd 11 (some .long) :: kt_T
theorem d_kr_gcd_0 : decode b_kr_gcd 0 = .ok (.lload_n 0, 1) := by decide +kernel
theorem d_kr_gcd_1 : decode b_kr_gcd 1 = .ok (.lstore 4, 2) := by decide +kernel
theorem d_kr_gcd_3 : decode b_kr_gcd 3 = .ok (.lload_n 2, 1) := by decide +kernel
theorem d_kr_gcd_4 : decode b_kr_gcd 4 = .ok (.lstore 6, 2) := by decide +kernel
theorem d_kr_gcd_6 : decode b_kr_gcd 6 = .ok (.iconst 0, 1) := by decide +kernel
theorem d_kr_gcd_7 : decode b_kr_gcd 7 = .ok (.istore 8, 2) := by decide +kernel
theorem d_kr_gcd_9 : decode b_kr_gcd 9 = .ok (.iload 8, 2) := by decide +kernel
theorem d_kr_gcd_11 : decode b_kr_gcd 11 = .ok (.sipush 200, 3) := by decide +kernel
theorem d_kr_gcd_14 : decode b_kr_gcd 14 = .ok (.if_icmp .ge 31, 3) := by decide +kernel
theorem d_kr_gcd_17 : decode b_kr_gcd 17 = .ok (.lload 6, 2) := by decide +kernel
theorem d_kr_gcd_19 : decode b_kr_gcd 19 = .ok (.lconst 0, 1) := by decide +kernel
theorem d_kr_gcd_20 : decode b_kr_gcd 20 = .ok (.lcmp, 1) := by decide +kernel
theorem d_kr_gcd_21 : decode b_kr_gcd 21 = .ok (.ifCond .eq 24, 3) := by decide +kernel
theorem d_kr_gcd_24 : decode b_kr_gcd 24 = .ok (.lload 4, 2) := by decide +kernel
theorem d_kr_gcd_26 : decode b_kr_gcd 26 = .ok (.lload 6, 2) := by decide +kernel
theorem d_kr_gcd_28 : decode b_kr_gcd 28 = .ok (.lrem, 1) := by decide +kernel
theorem d_kr_gcd_29 : decode b_kr_gcd 29 = .ok (.lstore 9, 2) := by decide +kernel
theorem d_kr_gcd_31 : decode b_kr_gcd 31 = .ok (.lload 6, 2) := by decide +kernel
theorem d_kr_gcd_33 : decode b_kr_gcd 33 = .ok (.lstore 4, 2) := by decide +kernel
theorem d_kr_gcd_35 : decode b_kr_gcd 35 = .ok (.lload 9, 2) := by decide +kernel
theorem d_kr_gcd_37 : decode b_kr_gcd 37 = .ok (.lstore 6, 2) := by decide +kernel
theorem d_kr_gcd_39 : decode b_kr_gcd 39 = .ok (.iinc 8 1, 3) := by decide +kernel
theorem d_kr_gcd_42 : decode b_kr_gcd 42 = .ok (.goto (-33), 3) := by decide +kernel
theorem d_kr_gcd_45 : decode b_kr_gcd 45 = .ok (.lload 4, 2) := by decide +kernel
theorem d_kr_gcd_47 : decode b_kr_gcd 47 = .ok (.lconst 0, 1) := by decide +kernel
theorem d_kr_gcd_48 : decode b_kr_gcd 48 = .ok (.lcmp, 1) := by decide +kernel
theorem d_kr_gcd_49 : decode b_kr_gcd 49 = .ok (.ifCond .ge 7, 3) := by decide +kernel
theorem d_kr_gcd_52 : decode b_kr_gcd 52 = .ok (.iconst 1, 1) := by decide +kernel
theorem d_kr_gcd_53 : decode b_kr_gcd 53 = .ok (.goto 4, 3) := by decide +kernel
theorem d_kr_gcd_56 : decode b_kr_gcd 56 = .ok (.iconst 0, 1) := by decide +kernel
theorem d_kr_gcd_57 : decode b_kr_gcd 57 = .ok (.lload_n 2, 1) := by decide +kernel
theorem d_kr_gcd_58 : decode b_kr_gcd 58 = .ok (.lconst 0, 1) := by decide +kernel
theorem d_kr_gcd_59 : decode b_kr_gcd 59 = .ok (.lcmp, 1) := by decide +kernel
theorem d_kr_gcd_60 : decode b_kr_gcd 60 = .ok (.ifCond .ge 7, 3) := by decide +kernel
theorem d_kr_gcd_63 : decode b_kr_gcd 63 = .ok (.iconst 1, 1) := by decide +kernel
theorem d_kr_gcd_64 : decode b_kr_gcd 64 = .ok (.goto 4, 3) := by decide +kernel
theorem d_kr_gcd_67 : decode b_kr_gcd 67 = .ok (.iconst 0, 1) := by decide +kernel
theorem d_kr_gcd_68 : decode b_kr_gcd 68 = .ok (.if_icmp .ne 8, 3) := by decide +kernel
theorem d_kr_gcd_71 : decode b_kr_gcd 71 = .ok (.lload 4, 2) := by decide +kernel
theorem d_kr_gcd_73 : decode b_kr_gcd 73 = .ok (.goto 6, 3) := by decide +kernel
theorem d_kr_gcd_76 : decode b_kr_gcd 76 = .ok (.lload 4, 2) := by decide +kernel
theorem d_kr_gcd_78 : decode b_kr_gcd 78 = .ok (.lneg, 1) := by decide +kernel
theorem d_kr_gcd_79 : decode b_kr_gcd 79 = .ok (.lreturn, 1) := by decide +kernel
/-- the loop of commonDivisor: k steps are left -/
def gcdL : Nat → Int64 → Int64 → Int64
  | 0, x, _ => x
  | k + 1, x, y => if y = 0 then x else gcdL k y (x - x / y * y)
def kr_gcdE (b : Int64) (x : Int64) : Int64 :=
  if 0 ≤ x then if 0 ≤ b then x else -x else if 0 ≤ b then -x else x
set_option maxHeartbeats 4000000 in
theorem tl_kr_gcd {p : Program} {l : Launch} {e : Env} {R : Room} {s : State} {m : MethodId} {args : Array Value} {below : List Frame} {meth : Method} {c : Code} (hx : p.tables.exec = Jvm.exec) (hb : c.code = b_kr_gcd) (hr : meth.sig.returnType = (some .long)) (hlocks : meth.locks = false) {post : Int64 → Prop} {a b x : Int64} (hq : post (kr_gcdE b x)) {ls : Array Slot} (hl : lv_has ls 11 [(0, .long a), (2, .long b), (4, .long x)]) :
    W p l e R s m args below meth c s.heap [] 0 0 (MQ below (vp_Sl post) args s 0 0 (fun _ => False)) (F0 m 45 ls []) := by
  refine lv_lload hx hb d_kr_gcd_45 (lv_at hl 2 rfl) ?_
  refine lv_lconst (v := 0) hx hb d_kr_gcd_47 (by decide) ?_
  refine lx_ifge (tgt := 56) hx hb d_kr_gcd_48 d_kr_gcd_49 (by decide) (fun c_1 => ?_) (fun c_1 => ?_)
  · refine lv_iconst (v := 0) hx hb d_kr_gcd_56 (by decide) ?_
    refine lv_lload_n hx hb d_kr_gcd_57 rfl (lv_at hl 1 rfl) ?_
    refine lv_lconst (v := 0) hx hb d_kr_gcd_58 (by decide) ?_
    refine lx_ifge (tgt := 67) hx hb d_kr_gcd_59 d_kr_gcd_60 (by decide) (fun c_2 => ?_) (fun c_2 => ?_)
    · refine lv_iconst (v := 0) hx hb d_kr_gcd_67 (by decide) ?_
      refine lv_icmp_ne (tgt := 76) hx hb d_kr_gcd_68 (by decide) (fun c_3 => ?_) (fun c_3 => ?_)
      · exact absurd c_3 (by decide)
      · refine lv_lload hx hb d_kr_gcd_71 (lv_at hl 2 rfl) ?_
        refine lv_goto (tgt := 79) hx hb d_kr_gcd_73 (by decide) ?_
        exact W.lret (v := x) hx hb hr (fun t ht hW => ⟨_, rfl, by unfold kr_gcdE at hq; rw [if_pos c_1, if_pos c_2] at hq; exact hq, ht⟩) t_nil d_kr_gcd_79
    · refine lv_iconst (v := 1) hx hb d_kr_gcd_63 (by decide) ?_
      refine lv_goto (tgt := 68) hx hb d_kr_gcd_64 (by decide) ?_
      refine lv_icmp_ne (tgt := 76) hx hb d_kr_gcd_68 (by decide) (fun c_4 => ?_) (fun c_4 => ?_)
      · refine lv_lload hx hb d_kr_gcd_76 (lv_at hl 2 rfl) ?_
        refine lv_lneg hx hb d_kr_gcd_78 ?_
        exact W.lret (v := -x) hx hb hr (fun t ht hW => ⟨_, rfl, by unfold kr_gcdE at hq; rw [if_pos c_1, if_neg c_2] at hq; exact hq, ht⟩) t_nil d_kr_gcd_79
      · exact absurd c_4 (by decide)
  · refine lv_iconst (v := 1) hx hb d_kr_gcd_52 (by decide) ?_
    refine lv_goto (tgt := 57) hx hb d_kr_gcd_53 (by decide) ?_
    refine lv_lload_n hx hb d_kr_gcd_57 rfl (lv_at hl 1 rfl) ?_
    refine lv_lconst (v := 0) hx hb d_kr_gcd_58 (by decide) ?_
    refine lx_ifge (tgt := 67) hx hb d_kr_gcd_59 d_kr_gcd_60 (by decide) (fun c_5 => ?_) (fun c_5 => ?_)
    · refine lv_iconst (v := 0) hx hb d_kr_gcd_67 (by decide) ?_
      refine lv_icmp_ne (tgt := 76) hx hb d_kr_gcd_68 (by decide) (fun c_6 => ?_) (fun c_6 => ?_)
      · refine lv_lload hx hb d_kr_gcd_76 (lv_at hl 2 rfl) ?_
        refine lv_lneg hx hb d_kr_gcd_78 ?_
        exact W.lret (v := -x) hx hb hr (fun t ht hW => ⟨_, rfl, by unfold kr_gcdE at hq; rw [if_neg c_1, if_pos c_5] at hq; exact hq, ht⟩) t_nil d_kr_gcd_79
      · exact absurd c_6 (by decide)
    · refine lv_iconst (v := 1) hx hb d_kr_gcd_63 (by decide) ?_
      refine lv_goto (tgt := 68) hx hb d_kr_gcd_64 (by decide) ?_
      refine lv_icmp_ne (tgt := 76) hx hb d_kr_gcd_68 (by decide) (fun c_7 => ?_) (fun c_7 => ?_)
      · exact absurd c_7 (by decide)
      · refine lv_lload hx hb d_kr_gcd_71 (lv_at hl 2 rfl) ?_
        refine lv_goto (tgt := 79) hx hb d_kr_gcd_73 (by decide) ?_
        exact W.lret (v := x) hx hb hr (fun t ht hW => ⟨_, rfl, by unfold kr_gcdE at hq; rw [if_neg c_1, if_neg c_5] at hq; exact hq, ht⟩) t_nil d_kr_gcd_79
theorem gcd_k0 {k : Nat} (hk : k ≤ 200) (h : (200 : Int32) ≤ nI (200 - k)) : k = 0 := by
  rcases Nat.eq_zero_or_pos k with q | q
  · exact q
  · exact absurd (show nI 200 ≤ nI (200 - k) from h) (nI_ge (by omega) (by omega))
theorem gcd_inc {k : Nat} (hk : k + 1 ≤ 200) : nI (200 - (k + 1)) + 1 = nI (200 - k) := by
  rw [← nI_succ]
  exact congrArg nI (by omega)
theorem gcd_go {k : Nat} (hk : k ≤ 200) (h : ¬ (200 : Int32) ≤ nI (200 - k)) : ∃ j, k = j + 1 := by
  rcases k with _ | j
  · exact absurd (show (200 : Int32) ≤ nI 200 by decide) h
  · exact ⟨j, rfl⟩
set_option maxHeartbeats 4000000 in
theorem lp_kr_gcd {p : Program} {l : Launch} {e : Env} {R : Room} {s : State} {m : MethodId} {args : Array Value} {below : List Frame} {meth : Method} {c : Code} (hx : p.tables.exec = Jvm.exec) (hb : c.code = b_kr_gcd) (hr : meth.sig.returnType = (some .long)) (hlocks : meth.locks = false) {post : Int64 → Prop} {a b : Int64} :
    ∀ (k : Nat) (x y : Int64), k ≤ 200 → post (kr_gcdE b (gcdL k x y)) → ∀ {ls : Array Slot}, lv_has ls 11 [(0, .long a), (2, .long b), (4, .long x), (6, .long y), (8, .int (nI (200 - k)))] → W p l e R s m args below meth c s.heap [] 0 0 (MQ below (vp_Sl post) args s 0 0 (fun _ => False)) (F0 m 9 ls []) := by
  intro k
  induction k with
  | zero =>
    intro x y hk hq ls hl
    refine lv_iload hx hb d_kr_gcd_9 (lv_at hl 4 rfl) ?_
    refine lv_sipush (v := 200) hx hb d_kr_gcd_11 (by decide) ?_
    refine lv_icmp_ge (tgt := 45) hx hb d_kr_gcd_14 (by decide) (fun c_8 => ?_) (fun c_8 => ?_)
    · exact tl_kr_gcd hx hb hr hlocks hq (lv_sub hl [0, 1, 2] rfl)
    · exact absurd (show (200 : Int32) ≤ nI (200 - 0) by decide) c_8
  | succ k ih =>
    intro x y hk hq ls hl
    refine lv_iload hx hb d_kr_gcd_9 (lv_at hl 4 rfl) ?_
    refine lv_sipush (v := 200) hx hb d_kr_gcd_11 (by decide) ?_
    refine lv_icmp_ge (tgt := 45) hx hb d_kr_gcd_14 (by decide) (fun c_9 => ?_) (fun c_9 => ?_)
    · exact absurd (gcd_k0 hk c_9) (Nat.succ_ne_zero k)
    · refine lv_lload hx hb d_kr_gcd_17 (lv_at hl 3 rfl) ?_
      refine lv_lconst (v := 0) hx hb d_kr_gcd_19 (by decide) ?_
      refine lx_ifeq (tgt := 45) hx hb d_kr_gcd_20 d_kr_gcd_21 (by decide) (fun c_10 => ?_) (fun c_10 => ?_)
      · exact tl_kr_gcd hx hb hr hlocks (by rw [gcdL, if_pos c_10] at hq; exact hq) (lv_sub hl [0, 1, 2] rfl)
      · refine lv_lload hx hb d_kr_gcd_24 (lv_at hl 2 rfl) ?_
        refine lv_lload hx hb d_kr_gcd_26 (lv_at hl 3 rfl) ?_
        refine lv_lrem hx hb d_kr_gcd_28 c_10 ?_
        refine lv_lstore (lv' := [(9, .long (x - x / y * y)), (0, .long a), (2, .long b), (4, .long x), (6, .long y), (8, .int (nI (200 - (k + 1))))]) hx hb d_kr_gcd_29 hl (by decide) rfl (fun ls hl => ?_)
        refine lv_lload hx hb d_kr_gcd_31 (lv_at hl 4 rfl) ?_
        refine lv_lstore (lv' := [(4, .long y), (9, .long (x - x / y * y)), (0, .long a), (2, .long b), (6, .long y), (8, .int (nI (200 - (k + 1))))]) hx hb d_kr_gcd_33 hl (by decide) rfl (fun ls hl => ?_)
        refine lv_lload hx hb d_kr_gcd_35 (lv_at hl 1 rfl) ?_
        refine lv_lstore (lv' := [(6, .long (x - x / y * y)), (4, .long y), (9, .long (x - x / y * y)), (0, .long a), (2, .long b), (8, .int (nI (200 - (k + 1))))]) hx hb d_kr_gcd_37 hl (by decide) rfl (fun ls hl => ?_)
        refine lv_iinc (v := (nI (200 - (k + 1))) + 1) (lv' := [(8, .int ((nI (200 - (k + 1))) + 1)), (6, .long (x - x / y * y)), (4, .long y), (9, .long (x - x / y * y)), (0, .long a), (2, .long b)]) hx hb d_kr_gcd_39 hl (k := 5) rfl rfl (by decide) rfl (fun ls hl => ?_)
        refine lv_goto (tgt := 9) hx hb d_kr_gcd_42 (by decide) ?_
        exact ih _ _ (by omega) (by rw [gcdL, if_neg c_10] at hq; exact hq) (by have h9 := lv_sub hl [4, 5, 2, 1, 0] rfl; rw [gcd_inc hk] at h9; exact h9)
def f_kr_gcd (a b : Int64) : Int64 := kr_gcdE b (gcdL 200 a b)
set_option maxHeartbeats 4000000 in
set_option maxRecDepth 100000 in
theorem c_kr_gcd (l : Launch) (a : Int64) (b : Int64) : Met l y_kr_gcd w_kr_gcd ({ frames := 0, cells := 0, slots := 0, locals := 0 }) (va_Pc [.long a, .long b] (fun _ => True)) (vp_Sl (fun z9 => z9 = f_kr_gcd a b)) 0 0 (fun _ => False) := by
  refine Met.ofW (cc := b_kr_gcd) (maxL := 11) (ret := (some .long)) (by decide +kernel) rfl ?_
  intro p e s m args below meth c s₁ B hml hv
  obtain ⟨rfl, -⟩ := hv
  have hx := B.exec
  have hb := B.bytes
  have hr := B.returns
  have hts := atoms_spec (ws := w_kr_gcd) B.pre
  have hT := fun (w : Cond) (h : w ∈ kt_T) => hts w (List.mem_cons_of_mem _ h)
  have hown : s.vm.findClass R_kr = some m.cls := findClass_of_methodNamed B.named
  have hlocks := B.notSynchronized
  have hl := lv_entry ([.long a, .long b]) (n := 11) (Nat.le_of_ble_eq_true rfl)
  rw [lg_entry_eq]
  generalize (lg_sl ([.long a, .long b]) ++ List.replicate (11 - (lg_sl ([.long a, .long b])).length) Slot.unset).toArray = ls at hl ⊢
  have hl : lv_has ls 11 [(0, .long a), (2, .long b)] := hl
  refine lv_lload_n hx hb d_kr_gcd_0 rfl (lv_at hl 0 rfl) ?_
  refine lv_lstore (lv' := [(4, .long a), (0, .long a), (2, .long b)]) hx hb d_kr_gcd_1 hl (by decide) rfl (fun ls hl => ?_)
  refine lv_lload_n hx hb d_kr_gcd_3 rfl (lv_at hl 2 rfl) ?_
  refine lv_lstore (lv' := [(6, .long b), (4, .long a), (0, .long a), (2, .long b)]) hx hb d_kr_gcd_4 hl (by decide) rfl (fun ls hl => ?_)
  refine lv_iconst (v := 0) hx hb d_kr_gcd_6 (by decide) ?_
  refine lv_istore (lv' := [(8, .int 0), (6, .long b), (4, .long a), (0, .long a), (2, .long b)]) hx hb d_kr_gcd_7 hl (by decide) rfl (fun ls hl => ?_)
  exact lp_kr_gcd (post := fun r => r = f_kr_gcd a b) hx hb hr hlocks 200 a b (Nat.le_refl _) rfl (lv_sub hl [3, 4, 2, 1, 0] rfl)
end
section
abbrev b_kv_has : ByteArray := prog_3_method_2_code
def y_kv_has : MethodName := ⟨R_kv, "has", "(I)Z"⟩
def w_kv_has : List Cond := .code y_kv_has b_kv_has 2 (some .boolean) :: kt_T
theorem d_kv_has_0 : decode b_kv_has 0 = .ok (.iload_n 1, 1) := by decide +kernel
theorem d_kv_has_1 : decode b_kv_has 1 = .ok (.ifCond .lt 15, 3) := by decide +kernel
theorem d_kv_has_4 : decode b_kv_has 4 = .ok (.iload_n 1, 1) := by decide +kernel
theorem d_kv_has_5 : decode b_kv_has 5 = .ok (.aload_n 0, 1) := by decide +kernel
theorem d_kv_has_6 : decode b_kv_has 6 = .ok (.getfield 18, 3) := by decide +kernel
theorem d_kv_has_9 : decode b_kv_has 9 = .ok (.if_icmp .ge 7, 3) := by decide +kernel
theorem d_kv_has_12 : decode b_kv_has 12 = .ok (.iconst 1, 1) := by decide +kernel
theorem d_kv_has_13 : decode b_kv_has 13 = .ok (.goto 4, 3) := by decide +kernel
theorem d_kv_has_16 : decode b_kv_has 16 = .ok (.iconst 0, 1) := by decide +kernel
theorem d_kv_has_17 : decode b_kv_has 17 = .ok (.ireturn, 1) := by decide +kernel
abbrev b_kv_hasBoth : ByteArray := prog_3_method_3_code
def y_kv_hasBoth : MethodName := ⟨R_kv, "hasBoth", "(II)Z"⟩
def w_kv_hasBoth : List Cond := .code y_kv_hasBoth b_kv_hasBoth 3 (some .boolean) :: kt_T
theorem d_kv_hasBoth_0 : decode b_kv_hasBoth 0 = .ok (.aload_n 0, 1) := by decide +kernel
theorem d_kv_hasBoth_1 : decode b_kv_hasBoth 1 = .ok (.iload_n 1, 1) := by decide +kernel
theorem d_kv_hasBoth_2 : decode b_kv_hasBoth 2 = .ok (.invokevirtual 22, 3) := by decide +kernel
theorem d_kv_hasBoth_5 : decode b_kv_hasBoth 5 = .ok (.ifCond .eq 15, 3) := by decide +kernel
theorem d_kv_hasBoth_8 : decode b_kv_hasBoth 8 = .ok (.aload_n 0, 1) := by decide +kernel
theorem d_kv_hasBoth_9 : decode b_kv_hasBoth 9 = .ok (.iload_n 2, 1) := by decide +kernel
theorem d_kv_hasBoth_10 : decode b_kv_hasBoth 10 = .ok (.invokevirtual 22, 3) := by decide +kernel
theorem d_kv_hasBoth_13 : decode b_kv_hasBoth 13 = .ok (.ifCond .eq 7, 3) := by decide +kernel
theorem d_kv_hasBoth_16 : decode b_kv_hasBoth 16 = .ok (.iconst 1, 1) := by decide +kernel
theorem d_kv_hasBoth_17 : decode b_kv_hasBoth 17 = .ok (.goto 4, 3) := by decide +kernel
theorem d_kv_hasBoth_20 : decode b_kv_hasBoth 20 = .ok (.iconst 0, 1) := by decide +kernel
theorem d_kv_hasBoth_21 : decode b_kv_hasBoth 21 = .ok (.ireturn, 1) := by decide +kernel
abbrev b_kv_upper : ByteArray := prog_3_method_4_code
def y_kv_upper : MethodName := ⟨R_kv, "upper", "(I)J"⟩
def w_kv_upper : List Cond := .code y_kv_upper b_kv_upper 2 (some .long) :: kt_T
theorem d_kv_upper_0 : decode b_kv_upper 0 = .ok (.aload_n 0, 1) := by decide +kernel
theorem d_kv_upper_1 : decode b_kv_upper 1 = .ok (.getfield 11, 3) := by decide +kernel
theorem d_kv_upper_4 : decode b_kv_upper 4 = .ok (.iload_n 1, 1) := by decide +kernel
theorem d_kv_upper_5 : decode b_kv_upper 5 = .ok (.iaload, 1) := by decide +kernel
theorem d_kv_upper_6 : decode b_kv_upper 6 = .ok (.i2l, 1) := by decide +kernel
theorem d_kv_upper_7 : decode b_kv_upper 7 = .ok (.lreturn, 1) := by decide +kernel
abbrev b_kv_lower : ByteArray := prog_3_method_5_code
def y_kv_lower : MethodName := ⟨R_kv, "lower", "(I)J"⟩
def w_kv_lower : List Cond := .code y_kv_lower b_kv_lower 2 (some .long) :: kt_T
theorem d_kv_lower_0 : decode b_kv_lower 0 = .ok (.aload_n 0, 1) := by decide +kernel
theorem d_kv_lower_1 : decode b_kv_lower 1 = .ok (.getfield 15, 3) := by decide +kernel
theorem d_kv_lower_4 : decode b_kv_lower 4 = .ok (.iload_n 1, 1) := by decide +kernel
theorem d_kv_lower_5 : decode b_kv_lower 5 = .ok (.iaload, 1) := by decide +kernel
theorem d_kv_lower_6 : decode b_kv_lower 6 = .ok (.i2l, 1) := by decide +kernel
theorem d_kv_lower_7 : decode b_kv_lower 7 = .ok (.lreturn, 1) := by decide +kernel
abbrev b_kv_partOf : ByteArray := prog_3_method_6_code
def y_kv_partOf : MethodName := ⟨R_kv, "partOf", "(II)I"⟩
def w_kv_partOf : List Cond := .code y_kv_partOf b_kv_partOf 3 (some .int) :: kt_T
theorem d_kv_partOf_0 : decode b_kv_partOf 0 = .ok (.iload_n 2, 1) := by decide +kernel
theorem d_kv_partOf_1 : decode b_kv_partOf 1 = .ok (.ifCond .ne 12, 3) := by decide +kernel
theorem d_kv_partOf_4 : decode b_kv_partOf 4 = .ok (.aload_n 0, 1) := by decide +kernel
theorem d_kv_partOf_5 : decode b_kv_partOf 5 = .ok (.getfield 11, 3) := by decide +kernel
theorem d_kv_partOf_8 : decode b_kv_partOf 8 = .ok (.iload_n 1, 1) := by decide +kernel
theorem d_kv_partOf_9 : decode b_kv_partOf 9 = .ok (.iaload, 1) := by decide +kernel
theorem d_kv_partOf_10 : decode b_kv_partOf 10 = .ok (.goto 9, 3) := by decide +kernel
theorem d_kv_partOf_13 : decode b_kv_partOf 13 = .ok (.aload_n 0, 1) := by decide +kernel
theorem d_kv_partOf_14 : decode b_kv_partOf 14 = .ok (.getfield 15, 3) := by decide +kernel
theorem d_kv_partOf_17 : decode b_kv_partOf 17 = .ok (.iload_n 1, 1) := by decide +kernel
theorem d_kv_partOf_18 : decode b_kv_partOf 18 = .ok (.iaload, 1) := by decide +kernel
theorem d_kv_partOf_19 : decode b_kv_partOf 19 = .ok (.ireturn, 1) := by decide +kernel
abbrev b_kv_fits : ByteArray := prog_3_method_7_code
def y_kv_fits : MethodName := ⟨R_kv, "fits", "(JJ)Z"⟩
def w_kv_fits : List Cond := .code y_kv_fits b_kv_fits 4 (some .boolean) :: kt_T
theorem d_kv_fits_0 : decode b_kv_fits 0 = .ok (.lload_n 0, 1) := by decide +kernel
theorem d_kv_fits_1 : decode b_kv_fits 1 = .ok (.ldc2_w 26, 3) := by decide +kernel
theorem d_kv_fits_4 : decode b_kv_fits 4 = .ok (.lcmp, 1) := by decide +kernel
theorem d_kv_fits_5 : decode b_kv_fits 5 = .ok (.ifCond .lt 29, 3) := by decide +kernel
theorem d_kv_fits_8 : decode b_kv_fits 8 = .ok (.lload_n 0, 1) := by decide +kernel
theorem d_kv_fits_9 : decode b_kv_fits 9 = .ok (.ldc2_w 28, 3) := by decide +kernel
theorem d_kv_fits_12 : decode b_kv_fits 12 = .ok (.lcmp, 1) := by decide +kernel
theorem d_kv_fits_13 : decode b_kv_fits 13 = .ok (.ifCond .gt 21, 3) := by decide +kernel
theorem d_kv_fits_16 : decode b_kv_fits 16 = .ok (.lload_n 2, 1) := by decide +kernel
theorem d_kv_fits_17 : decode b_kv_fits 17 = .ok (.lconst 1, 1) := by decide +kernel
theorem d_kv_fits_18 : decode b_kv_fits 18 = .ok (.lcmp, 1) := by decide +kernel
theorem d_kv_fits_19 : decode b_kv_fits 19 = .ok (.ifCond .lt 15, 3) := by decide +kernel
theorem d_kv_fits_22 : decode b_kv_fits 22 = .ok (.lload_n 2, 1) := by decide +kernel
theorem d_kv_fits_23 : decode b_kv_fits 23 = .ok (.ldc2_w 28, 3) := by decide +kernel
theorem d_kv_fits_26 : decode b_kv_fits 26 = .ok (.lcmp, 1) := by decide +kernel
theorem d_kv_fits_27 : decode b_kv_fits 27 = .ok (.ifCond .gt 7, 3) := by decide +kernel
theorem d_kv_fits_30 : decode b_kv_fits 30 = .ok (.iconst 1, 1) := by decide +kernel
theorem d_kv_fits_31 : decode b_kv_fits 31 = .ok (.goto 4, 3) := by decide +kernel
theorem d_kv_fits_34 : decode b_kv_fits 34 = .ok (.iconst 0, 1) := by decide +kernel
theorem d_kv_fits_35 : decode b_kv_fits 35 = .ok (.ireturn, 1) := by decide +kernel
abbrev b_kv_keep : ByteArray := prog_3_method_8_code
def y_kv_keep : MethodName := ⟨R_kv, "keep", "(JJ)I"⟩
def w_kv_keep : List Cond := .code y_kv_keep b_kv_keep 11 (some .int) :: kt_T
theorem d_kv_keep_0 : decode b_kv_keep 0 = .ok (.lload_n 1, 1) := by decide +kernel
theorem d_kv_keep_1 : decode b_kv_keep 1 = .ok (.lload_n 3, 1) := by decide +kernel
theorem d_kv_keep_2 : decode b_kv_keep 2 = .ok (.invokestatic 30, 3) := by decide +kernel
theorem d_kv_keep_5 : decode b_kv_keep 5 = .ok (.lstore 5, 2) := by decide +kernel
theorem d_kv_keep_7 : decode b_kv_keep 7 = .ok (.lload 5, 2) := by decide +kernel
theorem d_kv_keep_9 : decode b_kv_keep 9 = .ok (.lconst 0, 1) := by decide +kernel
theorem d_kv_keep_10 : decode b_kv_keep 10 = .ok (.lcmp, 1) := by decide +kernel
theorem d_kv_keep_11 : decode b_kv_keep 11 = .ok (.ifCond .eq 13, 3) := by decide +kernel
theorem d_kv_keep_14 : decode b_kv_keep 14 = .ok (.aload_n 0, 1) := by decide +kernel
theorem d_kv_keep_15 : decode b_kv_keep 15 = .ok (.getfield 18, 3) := by decide +kernel
theorem d_kv_keep_18 : decode b_kv_keep 18 = .ok (.sipush 300, 3) := by decide +kernel
theorem d_kv_keep_21 : decode b_kv_keep 21 = .ok (.if_icmp .lt 5, 3) := by decide +kernel
theorem d_kv_keep_24 : decode b_kv_keep 24 = .ok (.iconst (-1), 1) := by decide +kernel
theorem d_kv_keep_25 : decode b_kv_keep 25 = .ok (.ireturn, 1) := by decide +kernel
theorem d_kv_keep_26 : decode b_kv_keep 26 = .ok (.lload_n 1, 1) := by decide +kernel
theorem d_kv_keep_27 : decode b_kv_keep 27 = .ok (.lload 5, 2) := by decide +kernel
theorem d_kv_keep_29 : decode b_kv_keep 29 = .ok (.ldiv, 1) := by decide +kernel
theorem d_kv_keep_30 : decode b_kv_keep 30 = .ok (.lstore 7, 2) := by decide +kernel
theorem d_kv_keep_32 : decode b_kv_keep 32 = .ok (.lload_n 3, 1) := by decide +kernel
theorem d_kv_keep_33 : decode b_kv_keep 33 = .ok (.lload 5, 2) := by decide +kernel
theorem d_kv_keep_35 : decode b_kv_keep 35 = .ok (.ldiv, 1) := by decide +kernel
theorem d_kv_keep_36 : decode b_kv_keep 36 = .ok (.lstore 9, 2) := by decide +kernel
theorem d_kv_keep_38 : decode b_kv_keep 38 = .ok (.lload 7, 2) := by decide +kernel
theorem d_kv_keep_40 : decode b_kv_keep 40 = .ok (.lload 9, 2) := by decide +kernel
theorem d_kv_keep_42 : decode b_kv_keep 42 = .ok (.invokestatic 34, 3) := by decide +kernel
theorem d_kv_keep_45 : decode b_kv_keep 45 = .ok (.ifCond .ne 5, 3) := by decide +kernel
theorem d_kv_keep_48 : decode b_kv_keep 48 = .ok (.iconst (-1), 1) := by decide +kernel
theorem d_kv_keep_49 : decode b_kv_keep 49 = .ok (.ireturn, 1) := by decide +kernel
theorem d_kv_keep_50 : decode b_kv_keep 50 = .ok (.aload_n 0, 1) := by decide +kernel
theorem d_kv_keep_51 : decode b_kv_keep 51 = .ok (.getfield 11, 3) := by decide +kernel
theorem d_kv_keep_54 : decode b_kv_keep 54 = .ok (.aload_n 0, 1) := by decide +kernel
theorem d_kv_keep_55 : decode b_kv_keep 55 = .ok (.getfield 18, 3) := by decide +kernel
theorem d_kv_keep_58 : decode b_kv_keep 58 = .ok (.lload 7, 2) := by decide +kernel
theorem d_kv_keep_60 : decode b_kv_keep 60 = .ok (.l2i, 1) := by decide +kernel
theorem d_kv_keep_61 : decode b_kv_keep 61 = .ok (.iastore, 1) := by decide +kernel
theorem d_kv_keep_62 : decode b_kv_keep 62 = .ok (.aload_n 0, 1) := by decide +kernel
theorem d_kv_keep_63 : decode b_kv_keep 63 = .ok (.getfield 15, 3) := by decide +kernel
theorem d_kv_keep_66 : decode b_kv_keep 66 = .ok (.aload_n 0, 1) := by decide +kernel
theorem d_kv_keep_67 : decode b_kv_keep 67 = .ok (.getfield 18, 3) := by decide +kernel
theorem d_kv_keep_70 : decode b_kv_keep 70 = .ok (.lload 9, 2) := by decide +kernel
theorem d_kv_keep_72 : decode b_kv_keep 72 = .ok (.l2i, 1) := by decide +kernel
theorem d_kv_keep_73 : decode b_kv_keep 73 = .ok (.iastore, 1) := by decide +kernel
theorem d_kv_keep_74 : decode b_kv_keep 74 = .ok (.aload_n 0, 1) := by decide +kernel
theorem d_kv_keep_75 : decode b_kv_keep 75 = .ok (.dup, 1) := by decide +kernel
theorem d_kv_keep_76 : decode b_kv_keep 76 = .ok (.getfield 18, 3) := by decide +kernel
theorem d_kv_keep_79 : decode b_kv_keep 79 = .ok (.iconst 1, 1) := by decide +kernel
theorem d_kv_keep_80 : decode b_kv_keep 80 = .ok (.iadd, 1) := by decide +kernel
theorem d_kv_keep_81 : decode b_kv_keep 81 = .ok (.putfield 18, 3) := by decide +kernel
theorem d_kv_keep_84 : decode b_kv_keep 84 = .ok (.aload_n 0, 1) := by decide +kernel
theorem d_kv_keep_85 : decode b_kv_keep 85 = .ok (.getfield 18, 3) := by decide +kernel
theorem d_kv_keep_88 : decode b_kv_keep 88 = .ok (.iconst 1, 1) := by decide +kernel
theorem d_kv_keep_89 : decode b_kv_keep 89 = .ok (.isub, 1) := by decide +kernel
theorem d_kv_keep_90 : decode b_kv_keep 90 = .ok (.ireturn, 1) := by decide +kernel
theorem k_0 : (.fieldLink R_kv 18 "KilogramRows$Values" "count" "I" : Cond) ∈ kt_T := List.mem_filter.mpr ⟨List.mem_of_getElem? (i := 47) (by decide +kernel), by decide +kernel⟩
theorem k_1 : (.code y_kv_has b_kv_has 2 (some .boolean) : Cond) ∈ kt_T := List.mem_filter.mpr ⟨List.mem_of_getElem? (i := 132) (by decide +kernel), by decide +kernel⟩
theorem k_2 : (.initialized R_kv : Cond) ∈ kt_T := List.mem_filter.mpr ⟨List.mem_of_getElem? (i := 18) (by decide +kernel), by decide +kernel⟩
theorem k_3 : (.instanceMethod y_kv_has : Cond) ∈ kt_T := List.mem_filter.mpr ⟨List.mem_of_getElem? (i := 130) (by decide +kernel), by decide +kernel⟩
theorem k_4 : (.selects R_kv y_kv_has y_kv_has : Cond) ∈ kt_T := List.mem_filter.mpr ⟨List.mem_of_getElem? (i := 131) (by decide +kernel), by decide +kernel⟩
theorem k_5 : (.methodLink R_kv 22 y_kv_has : Cond) ∈ kt_T := List.mem_filter.mpr ⟨List.mem_of_getElem? (i := 129) (by decide +kernel), by decide +kernel⟩
theorem k_6 : (.fieldLink R_kv 11 "KilogramRows$Values" "uppers" "[I" : Cond) ∈ kt_T := List.mem_filter.mpr ⟨List.mem_of_getElem? (i := 45) (by decide +kernel), by decide +kernel⟩
theorem k_7 : (.fieldLink R_kv 15 "KilogramRows$Values" "lowers" "[I" : Cond) ∈ kt_T := List.mem_filter.mpr ⟨List.mem_of_getElem? (i := 46) (by decide +kernel), by decide +kernel⟩
theorem k_8 : (.constantLong R_kv 26 (-1000000000) : Cond) ∈ kt_T := List.mem_filter.mpr ⟨List.mem_of_getElem? (i := 151) (by decide +kernel), by decide +kernel⟩
theorem k_9 : (.constantLong R_kv 28 1000000000 : Cond) ∈ kt_T := List.mem_filter.mpr ⟨List.mem_of_getElem? (i := 152) (by decide +kernel), by decide +kernel⟩
theorem k_10 : (.code y_kr_gcd b_kr_gcd 11 (some .long) : Cond) ∈ kt_T := List.mem_filter.mpr ⟨List.mem_of_getElem? (i := 147) (by decide +kernel), by decide +kernel⟩
theorem k_11 : (.initialized R_kr : Cond) ∈ kt_T := List.mem_filter.mpr ⟨List.mem_of_getElem? (i := 16) (by decide +kernel), by decide +kernel⟩
theorem k_12 : (.static y_kr_gcd : Cond) ∈ kt_T := List.mem_filter.mpr ⟨List.mem_of_getElem? (i := 146) (by decide +kernel), by decide +kernel⟩
theorem k_13 : (.code y_kv_fits b_kv_fits 4 (some .boolean) : Cond) ∈ kt_T := List.mem_filter.mpr ⟨List.mem_of_getElem? (i := 150) (by decide +kernel), by decide +kernel⟩
theorem k_14 : (.static y_kv_fits : Cond) ∈ kt_T := List.mem_filter.mpr ⟨List.mem_of_getElem? (i := 149) (by decide +kernel), by decide +kernel⟩
theorem k_15 : (.methodLink R_kv 34 y_kv_fits : Cond) ∈ kt_T := List.mem_filter.mpr ⟨List.mem_of_getElem? (i := 148) (by decide +kernel), by decide +kernel⟩
def f_kv_has (cnt : Int32) (v : Int32) : Int32 :=
  if v < 0 then 0 else if cnt ≤ v then 0 else 1
set_option maxHeartbeats 4000000 in
set_option maxRecDepth 100000 in
theorem c_kv_has (l : Launch) (dC : Nat → ClassId) (dI : Nat → Nat → Nat) (a0 : Nat) (a1 : Nat) (a2 : Nat) (cnt : Int32) (cU : ClassId) (fu : Nat → Int32) (cL : ClassId) (fl : Nat → Int32) (v : Int32) : Met l y_kv_has w_kv_has ({ frames := 0, cells := 0, slots := 0, locals := 0 }) (va_Pc [.ref a0, .int v] (fun U => va_P (dC, dI) classes [(a0, .inr (1, [.ref a1, .ref a2, .int cnt])), (a1, .inl (cU, 300, .inl fu)), (a2, .inl (cL, 300, .inl fl))] U.heap ∧ va_K (dC, dI) classes [(cU, .int), (cL, .int)] U)) (vp_Si (fun z9 => z9 = f_kv_has cnt v)) 0 0 (fun _ => False) := by
  refine Met.ofW (cc := b_kv_has) (maxL := 2) (ret := (some .boolean)) (by decide +kernel) rfl ?_
  intro p e s m args below meth c s₁ B hml hv
  obtain ⟨rfl, hP, hK⟩ := hv
  have hx := B.exec
  have hb := B.bytes
  have hr := B.returns
  have hts := atoms_spec (ws := w_kv_has) B.pre
  have hT := fun (w : Cond) (h : w ∈ kt_T) => hts w (List.mem_cons_of_mem _ h)
  have hown : s.vm.findClass R_kv = some m.cls := findClass_of_methodNamed B.named
  have hlocks := B.notSynchronized
  have hl := lv_entry ([.ref a0, .int v]) (n := 2) (Nat.le_of_ble_eq_true rfl)
  rw [lg_entry_eq]
  generalize (lg_sl ([.ref a0, .int v]) ++ List.replicate (2 - (lg_sl ([.ref a0, .int v])).length) Slot.unset).toArray = ls at hl ⊢
  have hl : lv_has ls 2 [(0, .ref a0), (1, .int v)] := hl
  refine lv_iload_n hx hb d_kv_has_0 rfl (lv_at hl 1 rfl) ?_
  refine lv_if_lt (tgt := 16) hx hb d_kv_has_1 (by decide) (fun c_1 => ?_) (fun c_1 => ?_)
  · refine lv_iconst (v := 0) hx hb d_kv_has_16 (by decide) ?_
    exact W.zret (v := 0) hx hb hr rfl (fun t ht hW => ⟨_, rfl, by unfold f_kv_has; rw [if_pos c_1], ht⟩) t_nil d_kv_has_17
  · refine lv_iload_n hx hb d_kv_has_4 rfl (lv_at hl 1 rfl) ?_
    refine lv_aload_n hx hb d_kv_has_5 rfl (lv_at hl 0 rfl) ?_
    refine va_get (D := (dC, dI)) (ci := 1) (v := .int cnt) (C := R_kv) (T := F_kv) (N := 3) hx hb hT i_kv hown hK hP 0 rfl rfl 2 (by decide) (hT _ k_0) (fun _ h9 => h9) rfl d_kv_has_6 ?_
    refine lv_icmp_ge (tgt := 16) hx hb d_kv_has_9 (by decide) (fun c_2 => ?_) (fun c_2 => ?_)
    · refine lv_iconst (v := 0) hx hb d_kv_has_16 (by decide) ?_
      exact W.zret (v := 0) hx hb hr rfl (fun t ht hW => ⟨_, rfl, by unfold f_kv_has; rw [if_neg c_1, if_pos c_2], ht⟩) t_nil d_kv_has_17
    · refine lv_iconst (v := 1) hx hb d_kv_has_12 (by decide) ?_
      refine lv_goto (tgt := 17) hx hb d_kv_has_13 (by decide) ?_
      exact W.zret (v := 1) hx hb hr rfl (fun t ht hW => ⟨_, rfl, by unfold f_kv_has; rw [if_neg c_1, if_neg c_2], ht⟩) t_nil d_kv_has_17
def f_kv_hasBoth (cnt : Int32) (a : Int32) (b : Int32) : Int32 :=
  if (f_kv_has cnt a) = 0 then 0 else if (f_kv_has cnt b) = 0 then 0 else 1
set_option maxHeartbeats 4000000 in
set_option maxRecDepth 100000 in
theorem c_kv_hasBoth (l : Launch) (dC : Nat → ClassId) (dI : Nat → Nat → Nat) (a0 : Nat) (a1 : Nat) (a2 : Nat) (cnt : Int32) (cU : ClassId) (fu : Nat → Int32) (cL : ClassId) (fl : Nat → Int32) (a : Int32) (b : Int32) : Met l y_kv_hasBoth w_kv_hasBoth ({ frames := 1, cells := 0, slots := 0, locals := 21 }) (va_Pc [.ref a0, .int a, .int b] (fun U => va_P (dC, dI) classes [(a0, .inr (1, [.ref a1, .ref a2, .int cnt])), (a1, .inl (cU, 300, .inl fu)), (a2, .inl (cL, 300, .inl fl))] U.heap ∧ va_K (dC, dI) classes [(cU, .int), (cL, .int)] U)) (vp_Si (fun z9 => z9 = f_kv_hasBoth cnt a b)) 0 0 (fun _ => False) := by
  refine Met.ofW (cc := b_kv_hasBoth) (maxL := 3) (ret := (some .boolean)) (by decide +kernel) rfl ?_
  intro p e s m args below meth c s₁ B hml hv
  obtain ⟨rfl, hP, hK⟩ := hv
  have hx := B.exec
  have hb := B.bytes
  have hr := B.returns
  have hts := atoms_spec (ws := w_kv_hasBoth) B.pre
  have hT := fun (w : Cond) (h : w ∈ kt_T) => hts w (List.mem_cons_of_mem _ h)
  have hown : s.vm.findClass R_kv = some m.cls := findClass_of_methodNamed B.named
  have hlocks := B.notSynchronized
  have hl := lv_entry ([.ref a0, .int a, .int b]) (n := 3) (Nat.le_of_ble_eq_true rfl)
  rw [lg_entry_eq]
  generalize (lg_sl ([.ref a0, .int a, .int b]) ++ List.replicate (3 - (lg_sl ([.ref a0, .int a, .int b])).length) Slot.unset).toArray = ls at hl ⊢
  have hl : lv_has ls 3 [(0, .ref a0), (1, .int a), (2, .int b)] := hl
  refine lv_aload_n hx hb d_kv_hasBoth_0 rfl (lv_at hl 0 rfl) ?_
  refine lv_iload_n hx hb d_kv_hasBoth_1 rfl (lv_at hl 1 rfl) ?_
  have hPc := hP.sub (ws' := [(a0, .inr (1, [.ref a1, .ref a2, .int cnt])), (a1, .inl (cU, 300, .inl fu)), (a2, .inl (cL, 300, .inl fl))]) [0, 1, 2] rfl
  have hKc := hK.sub (tys' := [(cU, .int), (cL, .int)]) [0, 1] rfl
  refine vp_callSi (W.runV (As := [.int a]) (rest := []) ⟨hx, hb, hml, hown, hT⟩ (c_kv_has l dC dI a0 a1 a2 cnt cU fu cL fl a) (cwV 1 hT (kt_V k_5 k_3 k_4 k_2 k_1) rfl rfl rfl (by decide +kernel) ⟨Nat.le_of_ble_eq_true rfl, Nat.le_of_ble_eq_true rfl⟩) ⟨bl_R, va_recv hKc hPc (ci := 1) (q0 := 0) rfl rfl, fun U hU hW => ⟨rfl, by rw [hU]; exact hPc, va_K.moved hW.alike hKc⟩⟩ rfl rfl hl.1 rfl (lv_room (Nat.le_of_ble_eq_true rfl)) d_kv_hasBoth_2 ⟨Nat.zero_le _, Nat.zero_le _⟩) (fun r_1 e_r_1 => ?_)
  subst e_r_1
  refine lv_if_eq (tgt := 20) hx hb d_kv_hasBoth_5 (by decide) (fun c_2 => ?_) (fun c_2 => ?_)
  · refine lv_iconst (v := 0) hx hb d_kv_hasBoth_20 (by decide) ?_
    exact W.zret (v := 0) hx hb hr rfl (fun t ht hW => ⟨_, rfl, by unfold f_kv_hasBoth; rw [if_pos c_2], ht⟩) t_nil d_kv_hasBoth_21
  · refine lv_aload_n hx hb d_kv_hasBoth_8 rfl (lv_at hl 0 rfl) ?_
    refine lv_iload_n hx hb d_kv_hasBoth_9 rfl (lv_at hl 2 rfl) ?_
    have hPc := hP.sub (ws' := [(a0, .inr (1, [.ref a1, .ref a2, .int cnt])), (a1, .inl (cU, 300, .inl fu)), (a2, .inl (cL, 300, .inl fl))]) [0, 1, 2] rfl
    have hKc := hK.sub (tys' := [(cU, .int), (cL, .int)]) [0, 1] rfl
    refine vp_callSi (W.runV (As := [.int b]) (rest := []) ⟨hx, hb, hml, hown, hT⟩ (c_kv_has l dC dI a0 a1 a2 cnt cU fu cL fl b) (cwV 1 hT (kt_V k_5 k_3 k_4 k_2 k_1) rfl rfl rfl (by decide +kernel) ⟨Nat.le_of_ble_eq_true rfl, Nat.le_of_ble_eq_true rfl⟩) ⟨bl_R, va_recv hKc hPc (ci := 1) (q0 := 0) rfl rfl, fun U hU hW => ⟨rfl, by rw [hU]; exact hPc, va_K.moved hW.alike hKc⟩⟩ rfl rfl hl.1 rfl (lv_room (Nat.le_of_ble_eq_true rfl)) d_kv_hasBoth_10 ⟨Nat.zero_le _, Nat.zero_le _⟩) (fun r_3 e_r_3 => ?_)
    subst e_r_3
    refine lv_if_eq (tgt := 20) hx hb d_kv_hasBoth_13 (by decide) (fun c_4 => ?_) (fun c_4 => ?_)
    · refine lv_iconst (v := 0) hx hb d_kv_hasBoth_20 (by decide) ?_
      exact W.zret (v := 0) hx hb hr rfl (fun t ht hW => ⟨_, rfl, by unfold f_kv_hasBoth; rw [if_neg c_2, if_pos c_4], ht⟩) t_nil d_kv_hasBoth_21
    · refine lv_iconst (v := 1) hx hb d_kv_hasBoth_16 (by decide) ?_
      refine lv_goto (tgt := 21) hx hb d_kv_hasBoth_17 (by decide) ?_
      exact W.zret (v := 1) hx hb hr rfl (fun t ht hW => ⟨_, rfl, by unfold f_kv_hasBoth; rw [if_neg c_2, if_neg c_4], ht⟩) t_nil d_kv_hasBoth_21
def f_kv_upper (fu : Nat → Int32) (v : Int32) : Int64 :=
  ((fu v.toNatClampNeg).toInt64)
set_option maxHeartbeats 4000000 in
set_option maxRecDepth 100000 in
theorem c_kv_upper (l : Launch) (dC : Nat → ClassId) (dI : Nat → Nat → Nat) (a0 : Nat) (a1 : Nat) (a2 : Nat) (cnt : Int32) (cU : ClassId) (fu : Nat → Int32) (cL : ClassId) (fl : Nat → Int32) (v : Int32) (hv : vp_in v 300) : Met l y_kv_upper w_kv_upper ({ frames := 0, cells := 0, slots := 0, locals := 0 }) (va_Pc [.ref a0, .int v] (fun U => va_P (dC, dI) classes [(a0, .inr (1, [.ref a1, .ref a2, .int cnt])), (a1, .inl (cU, 300, .inl fu)), (a2, .inl (cL, 300, .inl fl))] U.heap ∧ va_K (dC, dI) classes [(cU, .int), (cL, .int)] U)) (vp_Sl (fun z9 => z9 = f_kv_upper fu v)) 0 0 (fun _ => False) := by
  refine Met.ofW (cc := b_kv_upper) (maxL := 2) (ret := (some .long)) (by decide +kernel) rfl ?_
  intro p e s m args below meth c s₁ B hml hv
  obtain ⟨rfl, hP, hK⟩ := hv
  have hx := B.exec
  have hb := B.bytes
  have hr := B.returns
  have hts := atoms_spec (ws := w_kv_upper) B.pre
  have hT := fun (w : Cond) (h : w ∈ kt_T) => hts w (List.mem_cons_of_mem _ h)
  have hown : s.vm.findClass R_kv = some m.cls := findClass_of_methodNamed B.named
  have hlocks := B.notSynchronized
  have hl := lv_entry ([.ref a0, .int v]) (n := 2) (Nat.le_of_ble_eq_true rfl)
  rw [lg_entry_eq]
  generalize (lg_sl ([.ref a0, .int v]) ++ List.replicate (2 - (lg_sl ([.ref a0, .int v])).length) Slot.unset).toArray = ls at hl ⊢
  have hl : lv_has ls 2 [(0, .ref a0), (1, .int v)] := hl
  refine lv_aload_n hx hb d_kv_upper_0 rfl (lv_at hl 0 rfl) ?_
  refine va_get (D := (dC, dI)) (ci := 1) (v := .ref a1) (C := R_kv) (T := F_kv) (N := 3) hx hb hT i_kv hown hK hP 0 rfl rfl 0 (by decide) (hT _ k_6) (fun _ h9 => h9) rfl d_kv_upper_1 ?_
  refine lv_iload_n hx hb d_kv_upper_4 rfl (lv_at hl 1 rfl) ?_
  refine va_iald hx hb hK hP 1 0 rfl rfl hv d_kv_upper_5 ?_
  refine lv_i2l (v := (fu v.toNatClampNeg).toInt64) hx hb d_kv_upper_6 rfl ?_
  exact W.lret (v := (fu v.toNatClampNeg).toInt64) hx hb hr (fun t ht hW => ⟨_, rfl, rfl, ht⟩) t_nil d_kv_upper_7
def f_kv_lower (fl : Nat → Int32) (v : Int32) : Int64 :=
  ((fl v.toNatClampNeg).toInt64)
set_option maxHeartbeats 4000000 in
set_option maxRecDepth 100000 in
theorem c_kv_lower (l : Launch) (dC : Nat → ClassId) (dI : Nat → Nat → Nat) (a0 : Nat) (a1 : Nat) (a2 : Nat) (cnt : Int32) (cU : ClassId) (fu : Nat → Int32) (cL : ClassId) (fl : Nat → Int32) (v : Int32) (hv : vp_in v 300) : Met l y_kv_lower w_kv_lower ({ frames := 0, cells := 0, slots := 0, locals := 0 }) (va_Pc [.ref a0, .int v] (fun U => va_P (dC, dI) classes [(a0, .inr (1, [.ref a1, .ref a2, .int cnt])), (a1, .inl (cU, 300, .inl fu)), (a2, .inl (cL, 300, .inl fl))] U.heap ∧ va_K (dC, dI) classes [(cU, .int), (cL, .int)] U)) (vp_Sl (fun z9 => z9 = f_kv_lower fl v)) 0 0 (fun _ => False) := by
  refine Met.ofW (cc := b_kv_lower) (maxL := 2) (ret := (some .long)) (by decide +kernel) rfl ?_
  intro p e s m args below meth c s₁ B hml hv
  obtain ⟨rfl, hP, hK⟩ := hv
  have hx := B.exec
  have hb := B.bytes
  have hr := B.returns
  have hts := atoms_spec (ws := w_kv_lower) B.pre
  have hT := fun (w : Cond) (h : w ∈ kt_T) => hts w (List.mem_cons_of_mem _ h)
  have hown : s.vm.findClass R_kv = some m.cls := findClass_of_methodNamed B.named
  have hlocks := B.notSynchronized
  have hl := lv_entry ([.ref a0, .int v]) (n := 2) (Nat.le_of_ble_eq_true rfl)
  rw [lg_entry_eq]
  generalize (lg_sl ([.ref a0, .int v]) ++ List.replicate (2 - (lg_sl ([.ref a0, .int v])).length) Slot.unset).toArray = ls at hl ⊢
  have hl : lv_has ls 2 [(0, .ref a0), (1, .int v)] := hl
  refine lv_aload_n hx hb d_kv_lower_0 rfl (lv_at hl 0 rfl) ?_
  refine va_get (D := (dC, dI)) (ci := 1) (v := .ref a2) (C := R_kv) (T := F_kv) (N := 3) hx hb hT i_kv hown hK hP 0 rfl rfl 1 (by decide) (hT _ k_7) (fun _ h9 => h9) rfl d_kv_lower_1 ?_
  refine lv_iload_n hx hb d_kv_lower_4 rfl (lv_at hl 1 rfl) ?_
  refine va_iald hx hb hK hP 2 1 rfl rfl hv d_kv_lower_5 ?_
  refine lv_i2l (v := (fl v.toNatClampNeg).toInt64) hx hb d_kv_lower_6 rfl ?_
  exact W.lret (v := (fl v.toNatClampNeg).toInt64) hx hb hr (fun t ht hW => ⟨_, rfl, rfl, ht⟩) t_nil d_kv_lower_7
def f_kv_partOf (fu : Nat → Int32) (fl : Nat → Int32) (v : Int32) (q : Int32) : Int32 :=
  if q = 0 then (fu v.toNatClampNeg) else (fl v.toNatClampNeg)
set_option maxHeartbeats 4000000 in
set_option maxRecDepth 100000 in
theorem c_kv_partOf (l : Launch) (dC : Nat → ClassId) (dI : Nat → Nat → Nat) (a0 : Nat) (a1 : Nat) (a2 : Nat) (cnt : Int32) (cU : ClassId) (fu : Nat → Int32) (cL : ClassId) (fl : Nat → Int32) (v : Int32) (q : Int32) (hv : vp_in v 300) : Met l y_kv_partOf w_kv_partOf ({ frames := 0, cells := 0, slots := 0, locals := 0 }) (va_Pc [.ref a0, .int v, .int q] (fun U => va_P (dC, dI) classes [(a0, .inr (1, [.ref a1, .ref a2, .int cnt])), (a1, .inl (cU, 300, .inl fu)), (a2, .inl (cL, 300, .inl fl))] U.heap ∧ va_K (dC, dI) classes [(cU, .int), (cL, .int)] U)) (vp_Si (fun z9 => z9 = f_kv_partOf fu fl v q)) 0 0 (fun _ => False) := by
  refine Met.ofW (cc := b_kv_partOf) (maxL := 3) (ret := (some .int)) (by decide +kernel) rfl ?_
  intro p e s m args below meth c s₁ B hml hv
  obtain ⟨rfl, hP, hK⟩ := hv
  have hx := B.exec
  have hb := B.bytes
  have hr := B.returns
  have hts := atoms_spec (ws := w_kv_partOf) B.pre
  have hT := fun (w : Cond) (h : w ∈ kt_T) => hts w (List.mem_cons_of_mem _ h)
  have hown : s.vm.findClass R_kv = some m.cls := findClass_of_methodNamed B.named
  have hlocks := B.notSynchronized
  have hl := lv_entry ([.ref a0, .int v, .int q]) (n := 3) (Nat.le_of_ble_eq_true rfl)
  rw [lg_entry_eq]
  generalize (lg_sl ([.ref a0, .int v, .int q]) ++ List.replicate (3 - (lg_sl ([.ref a0, .int v, .int q])).length) Slot.unset).toArray = ls at hl ⊢
  have hl : lv_has ls 3 [(0, .ref a0), (1, .int v), (2, .int q)] := hl
  refine lv_iload_n hx hb d_kv_partOf_0 rfl (lv_at hl 2 rfl) ?_
  refine lv_if_ne (tgt := 13) hx hb d_kv_partOf_1 (by decide) (fun c_1 => ?_) (fun c_1 => ?_)
  · refine lv_aload_n hx hb d_kv_partOf_13 rfl (lv_at hl 0 rfl) ?_
    refine va_get (D := (dC, dI)) (ci := 1) (v := .ref a2) (C := R_kv) (T := F_kv) (N := 3) hx hb hT i_kv hown hK hP 0 rfl rfl 1 (by decide) (hT _ k_7) (fun _ h9 => h9) rfl d_kv_partOf_14 ?_
    refine lv_iload_n hx hb d_kv_partOf_17 rfl (lv_at hl 1 rfl) ?_
    refine va_iald hx hb hK hP 2 1 rfl rfl hv d_kv_partOf_18 ?_
    exact W.iret (v := fl v.toNatClampNeg) hx hb hr (fun t ht hW => ⟨_, rfl, by unfold f_kv_partOf; rw [if_neg c_1], ht⟩) t_nil d_kv_partOf_19
  · refine lv_aload_n hx hb d_kv_partOf_4 rfl (lv_at hl 0 rfl) ?_
    refine va_get (D := (dC, dI)) (ci := 1) (v := .ref a1) (C := R_kv) (T := F_kv) (N := 3) hx hb hT i_kv hown hK hP 0 rfl rfl 0 (by decide) (hT _ k_6) (fun _ h9 => h9) rfl d_kv_partOf_5 ?_
    refine lv_iload_n hx hb d_kv_partOf_8 rfl (lv_at hl 1 rfl) ?_
    refine va_iald hx hb hK hP 1 0 rfl rfl hv d_kv_partOf_9 ?_
    refine lv_goto (tgt := 19) hx hb d_kv_partOf_10 (by decide) ?_
    exact W.iret (v := fu v.toNatClampNeg) hx hb hr (fun t ht hW => ⟨_, rfl, by unfold f_kv_partOf; rw [if_pos c_1], ht⟩) t_nil d_kv_partOf_19
def f_kv_fits (x : Int64) (y : Int64) : Int32 :=
  if x < (-1000000000) then 0 else if 1000000000 < x then 0 else if y < 1 then 0 else if 1000000000 < y then 0 else 1
set_option maxHeartbeats 4000000 in
set_option maxRecDepth 100000 in
theorem c_kv_fits (l : Launch) (x : Int64) (y : Int64) : Met l y_kv_fits w_kv_fits ({ frames := 0, cells := 0, slots := 0, locals := 0 }) (va_Pc [.long x, .long y] (fun _ => True)) (vp_Si (fun z9 => z9 = f_kv_fits x y)) 0 0 (fun _ => False) := by
  refine Met.ofW (cc := b_kv_fits) (maxL := 4) (ret := (some .boolean)) (by decide +kernel) rfl ?_
  intro p e s m args below meth c s₁ B hml hv
  obtain ⟨rfl, -⟩ := hv
  have hx := B.exec
  have hb := B.bytes
  have hr := B.returns
  have hts := atoms_spec (ws := w_kv_fits) B.pre
  have hT := fun (w : Cond) (h : w ∈ kt_T) => hts w (List.mem_cons_of_mem _ h)
  have hown : s.vm.findClass R_kv = some m.cls := findClass_of_methodNamed B.named
  have hlocks := B.notSynchronized
  have hl := lv_entry ([.long x, .long y]) (n := 4) (Nat.le_of_ble_eq_true rfl)
  rw [lg_entry_eq]
  generalize (lg_sl ([.long x, .long y]) ++ List.replicate (4 - (lg_sl ([.long x, .long y])).length) Slot.unset).toArray = ls at hl ⊢
  have hl : lv_has ls 4 [(0, .long x), (2, .long y)] := hl
  refine lv_lload_n hx hb d_kv_fits_0 rfl (lv_at hl 0 rfl) ?_
  refine lv_ldc2 (v := (-1000000000)) hx hb hown (hT _ k_8) d_kv_fits_1 ?_
  refine lx_iflt (tgt := 34) hx hb d_kv_fits_4 d_kv_fits_5 (by decide) (fun c_1 => ?_) (fun c_1 => ?_)
  · refine lv_iconst (v := 0) hx hb d_kv_fits_34 (by decide) ?_
    exact W.zret (v := 0) hx hb hr rfl (fun t ht hW => ⟨_, rfl, by unfold f_kv_fits; rw [if_pos c_1], ht⟩) t_nil d_kv_fits_35
  · refine lv_lload_n hx hb d_kv_fits_8 rfl (lv_at hl 0 rfl) ?_
    refine lv_ldc2 (v := 1000000000) hx hb hown (hT _ k_9) d_kv_fits_9 ?_
    refine lx_ifgt (tgt := 34) hx hb d_kv_fits_12 d_kv_fits_13 (by decide) (fun c_2 => ?_) (fun c_2 => ?_)
    · refine lv_iconst (v := 0) hx hb d_kv_fits_34 (by decide) ?_
      exact W.zret (v := 0) hx hb hr rfl (fun t ht hW => ⟨_, rfl, by unfold f_kv_fits; rw [if_neg c_1, if_pos c_2], ht⟩) t_nil d_kv_fits_35
    · refine lv_lload_n hx hb d_kv_fits_16 rfl (lv_at hl 1 rfl) ?_
      refine lv_lconst (v := 1) hx hb d_kv_fits_17 (by decide) ?_
      refine lx_iflt (tgt := 34) hx hb d_kv_fits_18 d_kv_fits_19 (by decide) (fun c_3 => ?_) (fun c_3 => ?_)
      · refine lv_iconst (v := 0) hx hb d_kv_fits_34 (by decide) ?_
        exact W.zret (v := 0) hx hb hr rfl (fun t ht hW => ⟨_, rfl, by unfold f_kv_fits; rw [if_neg c_1, if_neg c_2, if_pos c_3], ht⟩) t_nil d_kv_fits_35
      · refine lv_lload_n hx hb d_kv_fits_22 rfl (lv_at hl 1 rfl) ?_
        refine lv_ldc2 (v := 1000000000) hx hb hown (hT _ k_9) d_kv_fits_23 ?_
        refine lx_ifgt (tgt := 34) hx hb d_kv_fits_26 d_kv_fits_27 (by decide) (fun c_4 => ?_) (fun c_4 => ?_)
        · refine lv_iconst (v := 0) hx hb d_kv_fits_34 (by decide) ?_
          exact W.zret (v := 0) hx hb hr rfl (fun t ht hW => ⟨_, rfl, by unfold f_kv_fits; rw [if_neg c_1, if_neg c_2, if_neg c_3, if_pos c_4], ht⟩) t_nil d_kv_fits_35
        · refine lv_iconst (v := 1) hx hb d_kv_fits_30 (by decide) ?_
          refine lv_goto (tgt := 35) hx hb d_kv_fits_31 (by decide) ?_
          exact W.zret (v := 1) hx hb hr rfl (fun t ht hW => ⟨_, rfl, by unfold f_kv_fits; rw [if_neg c_1, if_neg c_2, if_neg c_3, if_neg c_4], ht⟩) t_nil d_kv_fits_35
theorem in_cnt {cnt : Int32} (hc : vp_in cnt 301) (h : cnt < 300) : vp_in cnt 300 := by
  rw [vp_in_iff] at hc ⊢
  rw [Int32.lt_iff_toInt_lt] at h
  have h3 : (300 : Int32).toInt = 300 := by decide
  omega
theorem in_has {cnt v : Int32} (hc : vp_in cnt 301) (h : ¬ f_kv_has cnt v = 0) : vp_in v 300 := by
  rw [vp_in_iff] at hc ⊢
  unfold f_kv_has at h
  split at h
  · exact absurd rfl h
  · rename_i h1
    split at h
    · exact absurd rfl h
    · rename_i h2
      rw [Int32.lt_iff_toInt_lt, Int32.toInt_zero] at h1
      rw [Int32.le_iff_toInt_le] at h2
      omega
theorem in_hb1 {cnt a b : Int32} (hc : vp_in cnt 301) (h : ¬ f_kv_hasBoth cnt a b = 0) : vp_in a 300 := by
  refine in_has hc (fun q => h ?_)
  unfold f_kv_hasBoth
  rw [if_pos q]
theorem in_hb2 {cnt a b : Int32} (hc : vp_in cnt 301) (h : ¬ f_kv_hasBoth cnt a b = 0) : vp_in b 300 := by
  refine in_has hc (fun q => h ?_)
  unfold f_kv_hasBoth
  rw [if_pos q]
  split <;> rfl
def f_kv_keep (cnt : Int32) (fu : Nat → Int32) (fl : Nat → Int32) (a : Int64) (b : Int64) : Int32 × (Nat → Int32) × (Nat → Int32) × Int32 :=
  if (f_kr_gcd a b) = 0 then ((-1), fu, fl, cnt) else if cnt < 300 then if (f_kv_fits (a / (f_kr_gcd a b)) (b / (f_kr_gcd a b))) = 0 then ((-1), fu, fl, cnt) else ((cnt + 1) - 1, upd fu cnt.toNatClampNeg ((a / (f_kr_gcd a b)).toInt32), upd fl cnt.toNatClampNeg ((b / (f_kr_gcd a b)).toInt32), cnt + 1) else ((-1), fu, fl, cnt)
set_option maxHeartbeats 4000000 in
set_option maxRecDepth 100000 in
theorem c_kv_keep (l : Launch) (dC : Nat → ClassId) (dI : Nat → Nat → Nat) (sz : Nat) (a0 : Nat) (a1 : Nat) (a2 : Nat) (cnt : Int32) (cU : ClassId) (fu : Nat → Int32) (cL : ClassId) (fl : Nat → Int32) (a : Int64) (b : Int64) (hc : vp_in cnt 301) : Met l y_kv_keep w_kv_keep ({ frames := 1, cells := 0, slots := 0, locals := 30 }) (va_Pc [.ref a0, .long a, .long b] (fun U => U.heap.size = sz ∧ va_P (dC, dI) classes [(a0, .inr (1, [.ref a1, .ref a2, .int cnt])), (a1, .inl (cU, 300, .inl fu)), (a2, .inl (cL, 300, .inl fl))] U.heap ∧ va_K (dC, dI) classes [(cU, .int), (cL, .int)] U ∧ va_D (fun _ => True) [(a0, .inr (1, [.ref a1, .ref a2, .int cnt])), (a1, .inl (cU, 300, .inl fu)), (a2, .inl (cL, 300, .inl fl))] ∧ kt_N U)) (va_Qi (fun z9 u9 => (z9, u9) = f_kv_keep cnt fu fl a b) (fun (u : (Nat → Int32) × (Nat → Int32) × Int32) t => match u with | (fu', fl', cnt') => va_P (dC, dI) classes [(a0, .inr (1, [.ref a1, .ref a2, .int cnt'])), (a1, .inl (cU, 300, .inl fu')), (a2, .inl (cL, 300, .inl fl'))] t.heap ∧ va_K (dC, dI) classes [(cU, .int), (cL, .int)] t ∧ va_D (va_A [(a0, .inr (1, [.ref a1, .ref a2, .int cnt])), (a1, .inl (cU, 300, .inl fu)), (a2, .inl (cL, 300, .inl fl))] sz) [(a0, .inr (1, [.ref a1, .ref a2, .int cnt'])), (a1, .inl (cU, 300, .inl fu')), (a2, .inl (cL, 300, .inl fl'))]) (va_A [(a0, .inr (1, [.ref a1, .ref a2, .int cnt])), (a1, .inl (cU, 300, .inl fu)), (a2, .inl (cL, 300, .inl fl))] sz)) 0 0 (va_A [(a0, .inr (1, [.ref a1, .ref a2, .int cnt])), (a1, .inl (cU, 300, .inl fu)), (a2, .inl (cL, 300, .inl fl))] sz) := by
  refine Met.ofW (cc := b_kv_keep) (maxL := 11) (ret := (some .int)) (by decide +kernel) rfl ?_
  intro p e s m args below meth c s₁ B hml hv
  obtain ⟨rfl, hsz, hP, hK, hD0, hN⟩ := hv
  have hx := B.exec
  have hb := B.bytes
  have hr := B.returns
  have hts := atoms_spec (ws := w_kv_keep) B.pre
  have hT := fun (w : Cond) (h : w ∈ kt_T) => hts w (List.mem_cons_of_mem _ h)
  have hown : s.vm.findClass R_kv = some m.cls := findClass_of_methodNamed B.named
  have hlocks := B.notSynchronized
  subst hsz
  have hD := hD0.self (sz := s.heap.size)
  generalize hAe : va_A [(a0, .inr (1, [.ref a1, .ref a2, .int cnt])), (a1, .inl (cU, 300, .inl fu)), (a2, .inl (cL, 300, .inl fl))] s.heap.size = A at hD ⊢
  have hA : ∀ q : Nat, s.heap.size ≤ q → A q := fun q h => by rw [← hAe]; exact Or.inr h
  have hS : va_S A s.heap s.heap [] := va_S.rf
  have hl := lv_entry ([.ref a0, .long a, .long b]) (n := 11) (Nat.le_of_ble_eq_true rfl)
  rw [lg_entry_eq]
  generalize (lg_sl ([.ref a0, .long a, .long b]) ++ List.replicate (11 - (lg_sl ([.ref a0, .long a, .long b])).length) Slot.unset).toArray = ls at hl ⊢
  have hl : lv_has ls 11 [(0, .ref a0), (1, .long a), (3, .long b)] := hl
  refine lv_lload_n hx hb d_kv_keep_0 rfl (lv_at hl 1 rfl) ?_
  refine lv_lload_n hx hb d_kv_keep_1 rfl (lv_at hl 2 rfl) ?_
  refine vp_callSl (va_runSN (As := [.long a, .long b]) (rest := []) ⟨hx, hb, hml, hown, hT⟩ (c_kr_gcd l a b) ⟨va_cnB 2 hT (kt_G k_10) rfl rfl rfl (hN _ n_3) (hT _ k_11) (by decide +kernel) ⟨Nat.le_of_ble_eq_true rfl, Nat.le_of_ble_eq_true rfl⟩, hT _ k_12, trivial⟩ ⟨bl_S, fun U hU hW => ⟨rfl, trivial⟩⟩ rfl rfl hl.1 rfl (lv_room (Nat.le_of_ble_eq_true rfl)) d_kv_keep_2 ⟨Nat.zero_le _, Nat.zero_le _⟩).run (fun r_1 e_r_1 => ?_)
  subst e_r_1
  refine lv_lstore (lv' := [(5, .long (f_kr_gcd a b)), (0, .ref a0), (1, .long a), (3, .long b)]) hx hb d_kv_keep_5 hl (by decide) rfl (fun ls hl => ?_)
  refine lv_lload hx hb d_kv_keep_7 (lv_at hl 0 rfl) ?_
  refine lv_lconst (v := 0) hx hb d_kv_keep_9 (by decide) ?_
  refine lx_ifeq (tgt := 24) hx hb d_kv_keep_10 d_kv_keep_11 (by decide) (fun c_2 => ?_) (fun c_2 => ?_)
  · refine lv_iconst (v := (-1)) hx hb d_kv_keep_24 (by decide) ?_
    exact W.iret (v := (-1)) hx hb hr (fun t ht hW => ⟨⟨(-1), (fu, fl, cnt), rfl, by unfold f_kv_keep; rw [if_pos c_2], by rw [ht]; exact hP, va_K.moved hW.alike hK, hD⟩, hS.F ht⟩) hS.2.2 d_kv_keep_25
  · refine lv_aload_n hx hb d_kv_keep_14 rfl (lv_at hl 1 rfl) ?_
    refine va_get (D := (dC, dI)) (ci := 1) (v := .int cnt) (C := R_kv) (T := F_kv) (N := 3) hx hb hT i_kv hown hK hP 0 rfl rfl 2 (by decide) (hT _ k_0) (fun _ h9 => h9) rfl d_kv_keep_15 ?_
    refine lv_sipush (v := 300) hx hb d_kv_keep_18 (by decide) ?_
    refine lv_icmp_lt (tgt := 26) hx hb d_kv_keep_21 (by decide) (fun c_3 => ?_) (fun c_3 => ?_)
    · refine lv_lload_n hx hb d_kv_keep_26 rfl (lv_at hl 2 rfl) ?_
      refine lv_lload hx hb d_kv_keep_27 (lv_at hl 0 rfl) ?_
      refine lv_ldiv hx hb d_kv_keep_29 c_2 ?_
      refine lv_lstore (lv' := [(7, .long (a / (f_kr_gcd a b))), (5, .long (f_kr_gcd a b)), (0, .ref a0), (1, .long a), (3, .long b)]) hx hb d_kv_keep_30 hl (by decide) rfl (fun ls hl => ?_)
      refine lv_lload_n hx hb d_kv_keep_32 rfl (lv_at hl 4 rfl) ?_
      refine lv_lload hx hb d_kv_keep_33 (lv_at hl 1 rfl) ?_
      refine lv_ldiv hx hb d_kv_keep_35 c_2 ?_
      refine lv_lstore (lv' := [(9, .long (b / (f_kr_gcd a b))), (7, .long (a / (f_kr_gcd a b))), (5, .long (f_kr_gcd a b)), (0, .ref a0), (1, .long a), (3, .long b)]) hx hb d_kv_keep_36 hl (by decide) rfl (fun ls hl => ?_)
      refine lv_lload hx hb d_kv_keep_38 (lv_at hl 1 rfl) ?_
      refine lv_lload hx hb d_kv_keep_40 (lv_at hl 0 rfl) ?_
      refine vp_callSi (W.runS (As := [.long (a / (f_kr_gcd a b)), .long (b / (f_kr_gcd a b))]) (rest := []) ⟨hx, hb, hml, hown, hT⟩ (c_kv_fits l (a / (f_kr_gcd a b)) (b / (f_kr_gcd a b))) (va_cwS 2 hT (kt_S k_15 k_14 k_2 k_13) rfl rfl rfl (by decide +kernel) ⟨Nat.le_of_ble_eq_true rfl, Nat.le_of_ble_eq_true rfl⟩) ⟨bl_S, fun U hU hW => ⟨rfl, trivial⟩⟩ rfl rfl hl.1 rfl (lv_room (Nat.le_of_ble_eq_true rfl)) d_kv_keep_42 ⟨Nat.zero_le _, Nat.zero_le _⟩) (fun r_4 e_r_4 => ?_)
      subst e_r_4
      refine lv_if_ne (tgt := 50) hx hb d_kv_keep_45 (by decide) (fun c_5 => ?_) (fun c_5 => ?_)
      · refine lv_aload_n hx hb d_kv_keep_50 rfl (lv_at hl 3 rfl) ?_
        refine va_get (D := (dC, dI)) (ci := 1) (v := .ref a1) (C := R_kv) (T := F_kv) (N := 3) hx hb hT i_kv hown hK hP 0 rfl rfl 0 (by decide) (hT _ k_6) (fun _ h9 => h9) rfl d_kv_keep_51 ?_
        refine lv_aload_n hx hb d_kv_keep_54 rfl (lv_at hl 3 rfl) ?_
        refine va_get (D := (dC, dI)) (ci := 1) (v := .int cnt) (C := R_kv) (T := F_kv) (N := 3) hx hb hT i_kv hown hK hP 0 rfl rfl 2 (by decide) (hT _ k_0) (fun _ h9 => h9) rfl d_kv_keep_55 ?_
        refine lv_lload hx hb d_kv_keep_58 (lv_at hl 1 rfl) ?_
        refine lv_l2i (v := (a / (f_kr_gcd a b)).toInt32) hx hb d_kv_keep_60 rfl ?_
        refine va_iast hx hb hK hP hD hS 1 0 rfl rfl (in_cnt hc c_3) d_kv_keep_61 (fun H locs hP hD hS => ?_)
        have hP : va_P (dC, dI) classes [(a0, .inr (1, [.ref a1, .ref a2, .int cnt])), (a1, .inl (cU, 300, .inl (upd fu cnt.toNatClampNeg ((a / (f_kr_gcd a b)).toInt32)))), (a2, .inl (cL, 300, .inl fl))] H := hP
        have hD : va_D A [(a0, .inr (1, [.ref a1, .ref a2, .int cnt])), (a1, .inl (cU, 300, .inl (upd fu cnt.toNatClampNeg ((a / (f_kr_gcd a b)).toInt32)))), (a2, .inl (cL, 300, .inl fl))] := hD
        refine lv_aload_n hx hb d_kv_keep_62 rfl (lv_at hl 3 rfl) ?_
        refine va_get (D := (dC, dI)) (ci := 1) (v := .ref a2) (C := R_kv) (T := F_kv) (N := 3) hx hb hT i_kv hown hK hP 0 rfl rfl 1 (by decide) (hT _ k_7) (fun _ h9 => h9) rfl d_kv_keep_63 ?_
        refine lv_aload_n hx hb d_kv_keep_66 rfl (lv_at hl 3 rfl) ?_
        refine va_get (D := (dC, dI)) (ci := 1) (v := .int cnt) (C := R_kv) (T := F_kv) (N := 3) hx hb hT i_kv hown hK hP 0 rfl rfl 2 (by decide) (hT _ k_0) (fun _ h9 => h9) rfl d_kv_keep_67 ?_
        refine lv_lload hx hb d_kv_keep_70 (lv_at hl 0 rfl) ?_
        refine lv_l2i (v := (b / (f_kr_gcd a b)).toInt32) hx hb d_kv_keep_72 rfl ?_
        refine va_iast hx hb hK hP hD hS 2 1 rfl rfl (in_cnt hc c_3) d_kv_keep_73 (fun H locs hP hD hS => ?_)
        have hP : va_P (dC, dI) classes [(a0, .inr (1, [.ref a1, .ref a2, .int cnt])), (a1, .inl (cU, 300, .inl (upd fu cnt.toNatClampNeg ((a / (f_kr_gcd a b)).toInt32)))), (a2, .inl (cL, 300, .inl (upd fl cnt.toNatClampNeg ((b / (f_kr_gcd a b)).toInt32))))] H := hP
        have hD : va_D A [(a0, .inr (1, [.ref a1, .ref a2, .int cnt])), (a1, .inl (cU, 300, .inl (upd fu cnt.toNatClampNeg ((a / (f_kr_gcd a b)).toInt32)))), (a2, .inl (cL, 300, .inl (upd fl cnt.toNatClampNeg ((b / (f_kr_gcd a b)).toInt32))))] := hD
        refine lv_aload_n hx hb d_kv_keep_74 rfl (lv_at hl 3 rfl) ?_
        refine lv_dup hx hb d_kv_keep_75 rfl ?_
        refine va_get (D := (dC, dI)) (ci := 1) (v := .int cnt) (C := R_kv) (T := F_kv) (N := 3) hx hb hT i_kv hown hK hP 0 rfl rfl 2 (by decide) (hT _ k_0) (fun _ h9 => h9) rfl d_kv_keep_76 ?_
        refine lv_iconst (v := 1) hx hb d_kv_keep_79 (by decide) ?_
        refine lv_iadd hx hb d_kv_keep_80 ?_
        refine va_put (D := (dC, dI)) (ci := 1) (v := .int (cnt + 1)) (ty := .int) (C := R_kv) (T := F_kv) (N := 3) hx hb hT i_kv t_kv t_kv_ok n_kv hown hK hP hD hS 0 rfl rfl 2 (by decide) (hT _ k_0) (fun _ h9 => h9) rfl (by decide +kernel) rfl rfl (Nat.le_of_ble_eq_true rfl) d_kv_keep_81 (fun H locs hP hD hS => ?_)
        have hP : va_P (dC, dI) classes [(a0, .inr (1, [.ref a1, .ref a2, .int (cnt + 1)])), (a1, .inl (cU, 300, .inl (upd fu cnt.toNatClampNeg ((a / (f_kr_gcd a b)).toInt32)))), (a2, .inl (cL, 300, .inl (upd fl cnt.toNatClampNeg ((b / (f_kr_gcd a b)).toInt32))))] H := hP
        have hD : va_D A [(a0, .inr (1, [.ref a1, .ref a2, .int (cnt + 1)])), (a1, .inl (cU, 300, .inl (upd fu cnt.toNatClampNeg ((a / (f_kr_gcd a b)).toInt32)))), (a2, .inl (cL, 300, .inl (upd fl cnt.toNatClampNeg ((b / (f_kr_gcd a b)).toInt32))))] := hD
        refine lv_aload_n hx hb d_kv_keep_84 rfl (lv_at hl 3 rfl) ?_
        refine va_get (D := (dC, dI)) (ci := 1) (v := .int (cnt + 1)) (C := R_kv) (T := F_kv) (N := 3) hx hb hT i_kv hown hK hP 0 rfl rfl 2 (by decide) (hT _ k_0) (fun _ h9 => h9) rfl d_kv_keep_85 ?_
        refine lv_iconst (v := 1) hx hb d_kv_keep_88 (by decide) ?_
        refine lv_isub hx hb d_kv_keep_89 ?_
        exact W.iret (v := (cnt + 1) - 1) hx hb hr (fun t ht hW => ⟨⟨(cnt + 1) - 1, (upd fu cnt.toNatClampNeg ((a / (f_kr_gcd a b)).toInt32), upd fl cnt.toNatClampNeg ((b / (f_kr_gcd a b)).toInt32), cnt + 1), rfl, by unfold f_kv_keep; rw [if_neg c_2, if_pos c_3, if_neg c_5], by rw [ht]; exact hP, va_K.moved hW.alike hK, hD⟩, hS.F ht⟩) hS.2.2 d_kv_keep_90
      · refine lv_iconst (v := (-1)) hx hb d_kv_keep_48 (by decide) ?_
        exact W.iret (v := (-1)) hx hb hr (fun t ht hW => ⟨⟨(-1), (fu, fl, cnt), rfl, by unfold f_kv_keep; rw [if_neg c_2, if_pos c_3, if_pos c_5], by rw [ht]; exact hP, va_K.moved hW.alike hK, hD⟩, hS.F ht⟩) hS.2.2 d_kv_keep_49
    · refine lv_iconst (v := (-1)) hx hb d_kv_keep_24 (by decide) ?_
      exact W.iret (v := (-1)) hx hb hr (fun t ht hW => ⟨⟨(-1), (fu, fl, cnt), rfl, by unfold f_kv_keep; rw [if_neg c_2, if_neg c_3], by rw [ht]; exact hP, va_K.moved hW.alike hK, hD⟩, hS.F ht⟩) hS.2.2 d_kv_keep_25
end
section
abbrev b_jm_floorDiv : ByteArray := prog_10_method_49_code
def y_jm_floorDiv : MethodName := ⟨R_jm, "floorDiv", "(JJ)J"⟩
def w_jm_floorDiv : List Cond := .code y_jm_floorDiv b_jm_floorDiv 6 (some .long) :: kt_T
theorem d_jm_floorDiv_0 : decode b_jm_floorDiv 0 = .ok (.lload_n 0, 1) := by decide +kernel
theorem d_jm_floorDiv_1 : decode b_jm_floorDiv 1 = .ok (.lload_n 2, 1) := by decide +kernel
theorem d_jm_floorDiv_2 : decode b_jm_floorDiv 2 = .ok (.ldiv, 1) := by decide +kernel
theorem d_jm_floorDiv_3 : decode b_jm_floorDiv 3 = .ok (.lstore 4, 2) := by decide +kernel
theorem d_jm_floorDiv_5 : decode b_jm_floorDiv 5 = .ok (.lload_n 0, 1) := by decide +kernel
theorem d_jm_floorDiv_6 : decode b_jm_floorDiv 6 = .ok (.lload_n 2, 1) := by decide +kernel
theorem d_jm_floorDiv_7 : decode b_jm_floorDiv 7 = .ok (.lxor, 1) := by decide +kernel
theorem d_jm_floorDiv_8 : decode b_jm_floorDiv 8 = .ok (.lconst 0, 1) := by decide +kernel
theorem d_jm_floorDiv_9 : decode b_jm_floorDiv 9 = .ok (.lcmp, 1) := by decide +kernel
theorem d_jm_floorDiv_10 : decode b_jm_floorDiv 10 = .ok (.ifCond .ge 17, 3) := by decide +kernel
theorem d_jm_floorDiv_13 : decode b_jm_floorDiv 13 = .ok (.lload 4, 2) := by decide +kernel
theorem d_jm_floorDiv_15 : decode b_jm_floorDiv 15 = .ok (.lload_n 2, 1) := by decide +kernel
theorem d_jm_floorDiv_16 : decode b_jm_floorDiv 16 = .ok (.lmul, 1) := by decide +kernel
theorem d_jm_floorDiv_17 : decode b_jm_floorDiv 17 = .ok (.lload_n 0, 1) := by decide +kernel
theorem d_jm_floorDiv_18 : decode b_jm_floorDiv 18 = .ok (.lcmp, 1) := by decide +kernel
theorem d_jm_floorDiv_19 : decode b_jm_floorDiv 19 = .ok (.ifCond .eq 8, 3) := by decide +kernel
theorem d_jm_floorDiv_22 : decode b_jm_floorDiv 22 = .ok (.lload 4, 2) := by decide +kernel
theorem d_jm_floorDiv_24 : decode b_jm_floorDiv 24 = .ok (.lconst 1, 1) := by decide +kernel
theorem d_jm_floorDiv_25 : decode b_jm_floorDiv 25 = .ok (.lsub, 1) := by decide +kernel
theorem d_jm_floorDiv_26 : decode b_jm_floorDiv 26 = .ok (.lreturn, 1) := by decide +kernel
theorem d_jm_floorDiv_27 : decode b_jm_floorDiv 27 = .ok (.lload 4, 2) := by decide +kernel
theorem d_jm_floorDiv_29 : decode b_jm_floorDiv 29 = .ok (.lreturn, 1) := by decide +kernel
abbrev b_jm_floorMod : ByteArray := prog_10_method_52_code
def y_jm_floorMod : MethodName := ⟨R_jm, "floorMod", "(JJ)J"⟩
def w_jm_floorMod : List Cond := .code y_jm_floorMod b_jm_floorMod 6 (some .long) :: kt_T
theorem d_jm_floorMod_0 : decode b_jm_floorMod 0 = .ok (.lload_n 0, 1) := by decide +kernel
theorem d_jm_floorMod_1 : decode b_jm_floorMod 1 = .ok (.lload_n 2, 1) := by decide +kernel
theorem d_jm_floorMod_2 : decode b_jm_floorMod 2 = .ok (.lrem, 1) := by decide +kernel
theorem d_jm_floorMod_3 : decode b_jm_floorMod 3 = .ok (.lstore 4, 2) := by decide +kernel
theorem d_jm_floorMod_5 : decode b_jm_floorMod 5 = .ok (.lload_n 0, 1) := by decide +kernel
theorem d_jm_floorMod_6 : decode b_jm_floorMod 6 = .ok (.lload_n 2, 1) := by decide +kernel
theorem d_jm_floorMod_7 : decode b_jm_floorMod 7 = .ok (.lxor, 1) := by decide +kernel
theorem d_jm_floorMod_8 : decode b_jm_floorMod 8 = .ok (.lconst 0, 1) := by decide +kernel
theorem d_jm_floorMod_9 : decode b_jm_floorMod 9 = .ok (.lcmp, 1) := by decide +kernel
theorem d_jm_floorMod_10 : decode b_jm_floorMod 10 = .ok (.ifCond .ge 15, 3) := by decide +kernel
theorem d_jm_floorMod_13 : decode b_jm_floorMod 13 = .ok (.lload 4, 2) := by decide +kernel
theorem d_jm_floorMod_15 : decode b_jm_floorMod 15 = .ok (.lconst 0, 1) := by decide +kernel
theorem d_jm_floorMod_16 : decode b_jm_floorMod 16 = .ok (.lcmp, 1) := by decide +kernel
theorem d_jm_floorMod_17 : decode b_jm_floorMod 17 = .ok (.ifCond .eq 8, 3) := by decide +kernel
theorem d_jm_floorMod_20 : decode b_jm_floorMod 20 = .ok (.lload 4, 2) := by decide +kernel
theorem d_jm_floorMod_22 : decode b_jm_floorMod 22 = .ok (.lload_n 2, 1) := by decide +kernel
theorem d_jm_floorMod_23 : decode b_jm_floorMod 23 = .ok (.ladd, 1) := by decide +kernel
theorem d_jm_floorMod_24 : decode b_jm_floorMod 24 = .ok (.lreturn, 1) := by decide +kernel
theorem d_jm_floorMod_25 : decode b_jm_floorMod 25 = .ok (.lload 4, 2) := by decide +kernel
theorem d_jm_floorMod_27 : decode b_jm_floorMod 27 = .ok (.lreturn, 1) := by decide +kernel
abbrev b_jm_abs : ByteArray := prog_10_method_59_code
def y_jm_abs : MethodName := ⟨R_jm, "abs", "(I)I"⟩
def w_jm_abs : List Cond := .code y_jm_abs b_jm_abs 1 (some .int) :: kt_T
theorem d_jm_abs_0 : decode b_jm_abs 0 = .ok (.iload_n 0, 1) := by decide +kernel
theorem d_jm_abs_1 : decode b_jm_abs 1 = .ok (.ifCond .ge 8, 3) := by decide +kernel
theorem d_jm_abs_4 : decode b_jm_abs 4 = .ok (.iload_n 0, 1) := by decide +kernel
theorem d_jm_abs_5 : decode b_jm_abs 5 = .ok (.ineg, 1) := by decide +kernel
theorem d_jm_abs_6 : decode b_jm_abs 6 = .ok (.goto 4, 3) := by decide +kernel
theorem d_jm_abs_9 : decode b_jm_abs 9 = .ok (.iload_n 0, 1) := by decide +kernel
theorem d_jm_abs_10 : decode b_jm_abs 10 = .ok (.ireturn, 1) := by decide +kernel
def f_jm_floorDiv (x : Int64) (y : Int64) : Int64 :=
  if 0 ≤ (x ^^^ y) then (x / y) else if ((x / y) * y) = x then (x / y) else ((x / y) - 1)
set_option maxHeartbeats 4000000 in
set_option maxRecDepth 100000 in
theorem c_jm_floorDiv (l : Launch) (x : Int64) (y : Int64) (hy : ¬ y = 0) : Met l y_jm_floorDiv w_jm_floorDiv ({ frames := 0, cells := 0, slots := 0, locals := 0 }) (va_Pc [.long x, .long y] (fun _ => True)) (vp_Sl (fun z9 => z9 = f_jm_floorDiv x y)) 0 0 (fun _ => False) := by
  refine va_MetF (cc := b_jm_floorDiv) (maxL := 6) (ret := (some .long)) (by decide +kernel) rfl ?_
  intro p e s m args below meth c s₁ B hml hv
  obtain ⟨rfl, -⟩ := hv
  have hx := B.exec
  have hb := B.bytes
  have hr := B.returns
  have hts := atoms_spec (ws := w_jm_floorDiv) B.pre
  have hT := fun (w : Cond) (h : w ∈ kt_T) => hts w (List.mem_cons_of_mem _ h)
  have hown : s.vm.findClass R_jm = some m.cls := findClass_of_methodNamed B.named
  have hlocks := B.notSynchronized
  have hl := lv_entry ([.long x, .long y]) (n := 6) (Nat.le_of_ble_eq_true rfl)
  rw [lg_entry_eq]
  generalize (lg_sl ([.long x, .long y]) ++ List.replicate (6 - (lg_sl ([.long x, .long y])).length) Slot.unset).toArray = ls at hl ⊢
  have hl : lv_has ls 6 [(0, .long x), (2, .long y)] := hl
  refine lv_lload_n hx hb d_jm_floorDiv_0 rfl (lv_at hl 0 rfl) ?_
  refine lv_lload_n hx hb d_jm_floorDiv_1 rfl (lv_at hl 1 rfl) ?_
  refine lv_ldiv hx hb d_jm_floorDiv_2 hy ?_
  refine lv_lstore (lv' := [(4, .long (x / y)), (0, .long x), (2, .long y)]) hx hb d_jm_floorDiv_3 hl (by decide) rfl (fun ls hl => ?_)
  refine lv_lload_n hx hb d_jm_floorDiv_5 rfl (lv_at hl 1 rfl) ?_
  refine lv_lload_n hx hb d_jm_floorDiv_6 rfl (lv_at hl 2 rfl) ?_
  refine lv_lxor hx hb d_jm_floorDiv_7 ?_
  refine lv_lconst (v := 0) hx hb d_jm_floorDiv_8 (by decide) ?_
  refine lx_ifge (tgt := 27) hx hb d_jm_floorDiv_9 d_jm_floorDiv_10 (by decide) (fun c_1 => ?_) (fun c_1 => ?_)
  · refine lv_lload hx hb d_jm_floorDiv_27 (lv_at hl 0 rfl) ?_
    exact W.lret (v := x / y) hx hb hr (fun t ht hW => ⟨_, rfl, by unfold f_jm_floorDiv; rw [if_pos c_1], ht⟩) t_nil d_jm_floorDiv_29
  · refine lv_lload hx hb d_jm_floorDiv_13 (lv_at hl 0 rfl) ?_
    refine lv_lload_n hx hb d_jm_floorDiv_15 rfl (lv_at hl 2 rfl) ?_
    refine lv_lmul hx hb d_jm_floorDiv_16 ?_
    refine lv_lload_n hx hb d_jm_floorDiv_17 rfl (lv_at hl 1 rfl) ?_
    refine lx_ifeq (tgt := 27) hx hb d_jm_floorDiv_18 d_jm_floorDiv_19 (by decide) (fun c_2 => ?_) (fun c_2 => ?_)
    · refine lv_lload hx hb d_jm_floorDiv_27 (lv_at hl 0 rfl) ?_
      exact W.lret (v := x / y) hx hb hr (fun t ht hW => ⟨_, rfl, by unfold f_jm_floorDiv; rw [if_neg c_1, if_pos c_2], ht⟩) t_nil d_jm_floorDiv_29
    · refine lv_lload hx hb d_jm_floorDiv_22 (lv_at hl 0 rfl) ?_
      refine lv_lconst (v := 1) hx hb d_jm_floorDiv_24 (by decide) ?_
      refine lv_lsub hx hb d_jm_floorDiv_25 ?_
      exact W.lret (v := (x / y) - 1) hx hb hr (fun t ht hW => ⟨_, rfl, by unfold f_jm_floorDiv; rw [if_neg c_1, if_neg c_2], ht⟩) t_nil d_jm_floorDiv_26
def f_jm_floorMod (x : Int64) (y : Int64) : Int64 :=
  if 0 ≤ (x ^^^ y) then (x - x / y * y) else if (x - x / y * y) = 0 then (x - x / y * y) else ((x - x / y * y) + y)
set_option maxHeartbeats 4000000 in
set_option maxRecDepth 100000 in
theorem c_jm_floorMod (l : Launch) (x : Int64) (y : Int64) (hy : ¬ y = 0) : Met l y_jm_floorMod w_jm_floorMod ({ frames := 0, cells := 0, slots := 0, locals := 0 }) (va_Pc [.long x, .long y] (fun _ => True)) (vp_Sl (fun z9 => z9 = f_jm_floorMod x y)) 0 0 (fun _ => False) := by
  refine va_MetF (cc := b_jm_floorMod) (maxL := 6) (ret := (some .long)) (by decide +kernel) rfl ?_
  intro p e s m args below meth c s₁ B hml hv
  obtain ⟨rfl, -⟩ := hv
  have hx := B.exec
  have hb := B.bytes
  have hr := B.returns
  have hts := atoms_spec (ws := w_jm_floorMod) B.pre
  have hT := fun (w : Cond) (h : w ∈ kt_T) => hts w (List.mem_cons_of_mem _ h)
  have hown : s.vm.findClass R_jm = some m.cls := findClass_of_methodNamed B.named
  have hlocks := B.notSynchronized
  have hl := lv_entry ([.long x, .long y]) (n := 6) (Nat.le_of_ble_eq_true rfl)
  rw [lg_entry_eq]
  generalize (lg_sl ([.long x, .long y]) ++ List.replicate (6 - (lg_sl ([.long x, .long y])).length) Slot.unset).toArray = ls at hl ⊢
  have hl : lv_has ls 6 [(0, .long x), (2, .long y)] := hl
  refine lv_lload_n hx hb d_jm_floorMod_0 rfl (lv_at hl 0 rfl) ?_
  refine lv_lload_n hx hb d_jm_floorMod_1 rfl (lv_at hl 1 rfl) ?_
  refine lv_lrem hx hb d_jm_floorMod_2 hy ?_
  refine lv_lstore (lv' := [(4, .long (x - x / y * y)), (0, .long x), (2, .long y)]) hx hb d_jm_floorMod_3 hl (by decide) rfl (fun ls hl => ?_)
  refine lv_lload_n hx hb d_jm_floorMod_5 rfl (lv_at hl 1 rfl) ?_
  refine lv_lload_n hx hb d_jm_floorMod_6 rfl (lv_at hl 2 rfl) ?_
  refine lv_lxor hx hb d_jm_floorMod_7 ?_
  refine lv_lconst (v := 0) hx hb d_jm_floorMod_8 (by decide) ?_
  refine lx_ifge (tgt := 25) hx hb d_jm_floorMod_9 d_jm_floorMod_10 (by decide) (fun c_1 => ?_) (fun c_1 => ?_)
  · refine lv_lload hx hb d_jm_floorMod_25 (lv_at hl 0 rfl) ?_
    exact W.lret (v := x - x / y * y) hx hb hr (fun t ht hW => ⟨_, rfl, by unfold f_jm_floorMod; rw [if_pos c_1], ht⟩) t_nil d_jm_floorMod_27
  · refine lv_lload hx hb d_jm_floorMod_13 (lv_at hl 0 rfl) ?_
    refine lv_lconst (v := 0) hx hb d_jm_floorMod_15 (by decide) ?_
    refine lx_ifeq (tgt := 25) hx hb d_jm_floorMod_16 d_jm_floorMod_17 (by decide) (fun c_2 => ?_) (fun c_2 => ?_)
    · refine lv_lload hx hb d_jm_floorMod_25 (lv_at hl 0 rfl) ?_
      exact W.lret (v := x - x / y * y) hx hb hr (fun t ht hW => ⟨_, rfl, by unfold f_jm_floorMod; rw [if_neg c_1, if_pos c_2], ht⟩) t_nil d_jm_floorMod_27
    · refine lv_lload hx hb d_jm_floorMod_20 (lv_at hl 0 rfl) ?_
      refine lv_lload_n hx hb d_jm_floorMod_22 rfl (lv_at hl 2 rfl) ?_
      refine lv_ladd hx hb d_jm_floorMod_23 ?_
      exact W.lret (v := (x - x / y * y) + y) hx hb hr (fun t ht hW => ⟨_, rfl, by unfold f_jm_floorMod; rw [if_neg c_1, if_neg c_2], ht⟩) t_nil d_jm_floorMod_24
def f_jm_abs (x : Int32) : Int32 :=
  if 0 ≤ x then x else -x
set_option maxHeartbeats 4000000 in
set_option maxRecDepth 100000 in
theorem c_jm_abs (l : Launch) (x : Int32) : Met l y_jm_abs w_jm_abs ({ frames := 0, cells := 0, slots := 0, locals := 0 }) (va_Pc [.int x] (fun _ => True)) (vp_Si (fun z9 => z9 = f_jm_abs x)) 0 0 (fun _ => False) := by
  refine va_MetF (cc := b_jm_abs) (maxL := 1) (ret := (some .int)) (by decide +kernel) rfl ?_
  intro p e s m args below meth c s₁ B hml hv
  obtain ⟨rfl, -⟩ := hv
  have hx := B.exec
  have hb := B.bytes
  have hr := B.returns
  have hts := atoms_spec (ws := w_jm_abs) B.pre
  have hT := fun (w : Cond) (h : w ∈ kt_T) => hts w (List.mem_cons_of_mem _ h)
  have hown : s.vm.findClass R_jm = some m.cls := findClass_of_methodNamed B.named
  have hlocks := B.notSynchronized
  have hl := lv_entry ([.int x]) (n := 1) (Nat.le_of_ble_eq_true rfl)
  rw [lg_entry_eq]
  generalize (lg_sl ([.int x]) ++ List.replicate (1 - (lg_sl ([.int x])).length) Slot.unset).toArray = ls at hl ⊢
  have hl : lv_has ls 1 [(0, .int x)] := hl
  refine lv_iload_n hx hb d_jm_abs_0 rfl (lv_at hl 0 rfl) ?_
  refine lv_if_ge (tgt := 9) hx hb d_jm_abs_1 (by decide) (fun c_1 => ?_) (fun c_1 => ?_)
  · refine lv_iload_n hx hb d_jm_abs_9 rfl (lv_at hl 0 rfl) ?_
    exact W.iret (v := x) hx hb hr (fun t ht hW => ⟨_, rfl, by unfold f_jm_abs; rw [if_pos c_1], ht⟩) t_nil d_jm_abs_10
  · refine lv_iload_n hx hb d_jm_abs_4 rfl (lv_at hl 0 rfl) ?_
    refine lv_ineg hx hb d_jm_abs_5 ?_
    refine lv_goto (tgt := 10) hx hb d_jm_abs_6 (by decide) ?_
    exact W.iret (v := -x) hx hb hr (fun t ht hW => ⟨_, rfl, by unfold f_jm_abs; rw [if_neg c_1], ht⟩) t_nil d_jm_abs_10
theorem ne0_of1 {x : Int64} (h : (1 : Int64) ≤ x) : ¬ x = 0 := by
  intro q
  subst q
  exact absurd h (by decide)
theorem nI_self {i : Int32} (h : ¬ i < 0) : i = nI i.toNatClampNeg ∧ i.toNatClampNeg < 2 ^ 31 := by
  obtain ⟨j, hj, rfl⟩ := nI_of h
  rw [nI_clamp hj]
  exact ⟨rfl, hj⟩
theorem nI_lt_of {i : Int32} {n : Nat} (h : ¬ i < 0) (hn : n < 2 ^ 31) (h2 : i < nI n) : i.toNatClampNeg < n := by
  obtain ⟨j, hj, rfl⟩ := nI_of h
  rw [nI_clamp hj]
  exact (nI_ltI hj hn).mp h2
end
section
abbrev b_kr_hasRow : ByteArray := prog_1_method_20_code
def y_kr_hasRow : MethodName := ⟨R_kr, "hasRow", "(I)Z"⟩
def w_kr_hasRow : List Cond := .code y_kr_hasRow b_kr_hasRow 2 (some .boolean) :: kt_T
theorem d_kr_hasRow_0 : decode b_kr_hasRow 0 = .ok (.iload_n 1, 1) := by decide +kernel
theorem d_kr_hasRow_1 : decode b_kr_hasRow 1 = .ok (.ifCond .lt 15, 3) := by decide +kernel
theorem d_kr_hasRow_4 : decode b_kr_hasRow 4 = .ok (.iload_n 1, 1) := by decide +kernel
theorem d_kr_hasRow_5 : decode b_kr_hasRow 5 = .ok (.aload_n 0, 1) := by decide +kernel
theorem d_kr_hasRow_6 : decode b_kr_hasRow 6 = .ok (.getfield 23, 3) := by decide +kernel
theorem d_kr_hasRow_9 : decode b_kr_hasRow 9 = .ok (.if_icmp .ge 7, 3) := by decide +kernel
theorem d_kr_hasRow_12 : decode b_kr_hasRow 12 = .ok (.iconst 1, 1) := by decide +kernel
theorem d_kr_hasRow_13 : decode b_kr_hasRow 13 = .ok (.goto 4, 3) := by decide +kernel
theorem d_kr_hasRow_16 : decode b_kr_hasRow 16 = .ok (.iconst 0, 1) := by decide +kernel
theorem d_kr_hasRow_17 : decode b_kr_hasRow 17 = .ok (.ireturn, 1) := by decide +kernel
abbrev b_kr_hasKind : ByteArray := prog_1_method_21_code
def y_kr_hasKind : MethodName := ⟨R_kr, "hasKind", "(I)Z"⟩
def w_kr_hasKind : List Cond := .code y_kr_hasKind b_kr_hasKind 2 (some .boolean) :: kt_T
theorem d_kr_hasKind_0 : decode b_kr_hasKind 0 = .ok (.iload_n 1, 1) := by decide +kernel
theorem d_kr_hasKind_1 : decode b_kr_hasKind 1 = .ok (.ifCond .lt 15, 3) := by decide +kernel
theorem d_kr_hasKind_4 : decode b_kr_hasKind 4 = .ok (.iload_n 1, 1) := by decide +kernel
theorem d_kr_hasKind_5 : decode b_kr_hasKind 5 = .ok (.aload_n 0, 1) := by decide +kernel
theorem d_kr_hasKind_6 : decode b_kr_hasKind 6 = .ok (.getfield 9, 3) := by decide +kernel
theorem d_kr_hasKind_9 : decode b_kr_hasKind 9 = .ok (.if_icmp .ge 7, 3) := by decide +kernel
theorem d_kr_hasKind_12 : decode b_kr_hasKind 12 = .ok (.iconst 1, 1) := by decide +kernel
theorem d_kr_hasKind_13 : decode b_kr_hasKind 13 = .ok (.goto 4, 3) := by decide +kernel
theorem d_kr_hasKind_16 : decode b_kr_hasKind 16 = .ok (.iconst 0, 1) := by decide +kernel
theorem d_kr_hasKind_17 : decode b_kr_hasKind 17 = .ok (.ireturn, 1) := by decide +kernel
abbrev b_kr_isPart : ByteArray := prog_1_method_22_code
def y_kr_isPart : MethodName := ⟨R_kr, "isPart", "(I)Z"⟩
def w_kr_isPart : List Cond := .code y_kr_isPart b_kr_isPart 1 (some .boolean) :: kt_T
theorem d_kr_isPart_0 : decode b_kr_isPart 0 = .ok (.iload_n 0, 1) := by decide +kernel
theorem d_kr_isPart_1 : decode b_kr_isPart 1 = .ok (.ifCond .eq 8, 3) := by decide +kernel
theorem d_kr_isPart_4 : decode b_kr_isPart 4 = .ok (.iload_n 0, 1) := by decide +kernel
theorem d_kr_isPart_5 : decode b_kr_isPart 5 = .ok (.iconst 1, 1) := by decide +kernel
theorem d_kr_isPart_6 : decode b_kr_isPart 6 = .ok (.if_icmp .ne 7, 3) := by decide +kernel
theorem d_kr_isPart_9 : decode b_kr_isPart 9 = .ok (.iconst 1, 1) := by decide +kernel
theorem d_kr_isPart_10 : decode b_kr_isPart 10 = .ok (.goto 4, 3) := by decide +kernel
theorem d_kr_isPart_13 : decode b_kr_isPart 13 = .ok (.iconst 0, 1) := by decide +kernel
theorem d_kr_isPart_14 : decode b_kr_isPart 14 = .ok (.ireturn, 1) := by decide +kernel
abbrev b_kr_goesUp : ByteArray := prog_1_method_23_code
def y_kr_goesUp : MethodName := ⟨R_kr, "goesUp", "(IJJJ)Z"⟩
def w_kr_goesUp : List Cond := .code y_kr_goesUp b_kr_goesUp 7 (some .boolean) :: kt_T
theorem d_kr_goesUp_0 : decode b_kr_goesUp 0 = .ok (.iload_n 0, 1) := by decide +kernel
theorem d_kr_goesUp_1 : decode b_kr_goesUp 1 = .ok (.ifCond .ne 5, 3) := by decide +kernel
theorem d_kr_goesUp_4 : decode b_kr_goesUp 4 = .ok (.iconst 0, 1) := by decide +kernel
theorem d_kr_goesUp_5 : decode b_kr_goesUp 5 = .ok (.ireturn, 1) := by decide +kernel
theorem d_kr_goesUp_6 : decode b_kr_goesUp 6 = .ok (.iload_n 0, 1) := by decide +kernel
theorem d_kr_goesUp_7 : decode b_kr_goesUp 7 = .ok (.iconst 1, 1) := by decide +kernel
theorem d_kr_goesUp_8 : decode b_kr_goesUp 8 = .ok (.if_icmp .ne 15, 3) := by decide +kernel
theorem d_kr_goesUp_11 : decode b_kr_goesUp 11 = .ok (.lload_n 3, 1) := by decide +kernel
theorem d_kr_goesUp_12 : decode b_kr_goesUp 12 = .ok (.lconst 0, 1) := by decide +kernel
theorem d_kr_goesUp_13 : decode b_kr_goesUp 13 = .ok (.lcmp, 1) := by decide +kernel
theorem d_kr_goesUp_14 : decode b_kr_goesUp 14 = .ok (.ifCond .le 7, 3) := by decide +kernel
theorem d_kr_goesUp_17 : decode b_kr_goesUp 17 = .ok (.iconst 1, 1) := by decide +kernel
theorem d_kr_goesUp_18 : decode b_kr_goesUp 18 = .ok (.goto 4, 3) := by decide +kernel
theorem d_kr_goesUp_21 : decode b_kr_goesUp 21 = .ok (.iconst 0, 1) := by decide +kernel
theorem d_kr_goesUp_22 : decode b_kr_goesUp 22 = .ok (.ireturn, 1) := by decide +kernel
theorem d_kr_goesUp_23 : decode b_kr_goesUp 23 = .ok (.ldc2_w 144, 3) := by decide +kernel
theorem d_kr_goesUp_26 : decode b_kr_goesUp 26 = .ok (.lload_n 3, 1) := by decide +kernel
theorem d_kr_goesUp_27 : decode b_kr_goesUp 27 = .ok (.lmul, 1) := by decide +kernel
theorem d_kr_goesUp_28 : decode b_kr_goesUp 28 = .ok (.lload 5, 2) := by decide +kernel
theorem d_kr_goesUp_30 : decode b_kr_goesUp 30 = .ok (.lcmp, 1) := by decide +kernel
theorem d_kr_goesUp_31 : decode b_kr_goesUp 31 = .ok (.ifCond .eq 20, 3) := by decide +kernel
theorem d_kr_goesUp_34 : decode b_kr_goesUp 34 = .ok (.ldc2_w 144, 3) := by decide +kernel
theorem d_kr_goesUp_37 : decode b_kr_goesUp 37 = .ok (.lload_n 3, 1) := by decide +kernel
theorem d_kr_goesUp_38 : decode b_kr_goesUp 38 = .ok (.lmul, 1) := by decide +kernel
theorem d_kr_goesUp_39 : decode b_kr_goesUp 39 = .ok (.lload 5, 2) := by decide +kernel
theorem d_kr_goesUp_41 : decode b_kr_goesUp 41 = .ok (.lcmp, 1) := by decide +kernel
theorem d_kr_goesUp_42 : decode b_kr_goesUp 42 = .ok (.ifCond .le 7, 3) := by decide +kernel
theorem d_kr_goesUp_45 : decode b_kr_goesUp 45 = .ok (.iconst 1, 1) := by decide +kernel
theorem d_kr_goesUp_46 : decode b_kr_goesUp 46 = .ok (.goto 4, 3) := by decide +kernel
theorem d_kr_goesUp_49 : decode b_kr_goesUp 49 = .ok (.iconst 0, 1) := by decide +kernel
theorem d_kr_goesUp_50 : decode b_kr_goesUp 50 = .ok (.ireturn, 1) := by decide +kernel
theorem d_kr_goesUp_51 : decode b_kr_goesUp 51 = .ok (.iload_n 0, 1) := by decide +kernel
theorem d_kr_goesUp_52 : decode b_kr_goesUp 52 = .ok (.iconst 2, 1) := by decide +kernel
theorem d_kr_goesUp_53 : decode b_kr_goesUp 53 = .ok (.if_icmp .ne 15, 3) := by decide +kernel
theorem d_kr_goesUp_56 : decode b_kr_goesUp 56 = .ok (.lload_n 1, 1) := by decide +kernel
theorem d_kr_goesUp_57 : decode b_kr_goesUp 57 = .ok (.lconst 0, 1) := by decide +kernel
theorem d_kr_goesUp_58 : decode b_kr_goesUp 58 = .ok (.lcmp, 1) := by decide +kernel
theorem d_kr_goesUp_59 : decode b_kr_goesUp 59 = .ok (.ifCond .lt 7, 3) := by decide +kernel
theorem d_kr_goesUp_62 : decode b_kr_goesUp 62 = .ok (.iconst 1, 1) := by decide +kernel
theorem d_kr_goesUp_63 : decode b_kr_goesUp 63 = .ok (.goto 4, 3) := by decide +kernel
theorem d_kr_goesUp_66 : decode b_kr_goesUp 66 = .ok (.iconst 0, 1) := by decide +kernel
theorem d_kr_goesUp_67 : decode b_kr_goesUp 67 = .ok (.ireturn, 1) := by decide +kernel
theorem d_kr_goesUp_68 : decode b_kr_goesUp 68 = .ok (.lload_n 1, 1) := by decide +kernel
theorem d_kr_goesUp_69 : decode b_kr_goesUp 69 = .ok (.lconst 1, 1) := by decide +kernel
theorem d_kr_goesUp_70 : decode b_kr_goesUp 70 = .ok (.land, 1) := by decide +kernel
theorem d_kr_goesUp_71 : decode b_kr_goesUp 71 = .ok (.lconst 0, 1) := by decide +kernel
theorem d_kr_goesUp_72 : decode b_kr_goesUp 72 = .ok (.lcmp, 1) := by decide +kernel
theorem d_kr_goesUp_73 : decode b_kr_goesUp 73 = .ok (.ifCond .eq 7, 3) := by decide +kernel
theorem d_kr_goesUp_76 : decode b_kr_goesUp 76 = .ok (.iconst 1, 1) := by decide +kernel
theorem d_kr_goesUp_77 : decode b_kr_goesUp 77 = .ok (.goto 4, 3) := by decide +kernel
theorem d_kr_goesUp_80 : decode b_kr_goesUp 80 = .ok (.iconst 0, 1) := by decide +kernel
theorem d_kr_goesUp_81 : decode b_kr_goesUp 81 = .ok (.ireturn, 1) := by decide +kernel
abbrev b_kr_add : ByteArray := prog_1_method_4_code
def y_kr_add : MethodName := ⟨R_kr, "add", "(II)I"⟩
def w_kr_add : List Cond := .code y_kr_add b_kr_add 5 (some .int) :: kt_T
theorem d_kr_add_0 : decode b_kr_add 0 = .ok (.aload_n 0, 1) := by decide +kernel
theorem d_kr_add_1 : decode b_kr_add 1 = .ok (.getfield 29, 3) := by decide +kernel
theorem d_kr_add_4 : decode b_kr_add 4 = .ok (.iload_n 1, 1) := by decide +kernel
theorem d_kr_add_5 : decode b_kr_add 5 = .ok (.iload_n 2, 1) := by decide +kernel
theorem d_kr_add_6 : decode b_kr_add 6 = .ok (.invokevirtual 74, 3) := by decide +kernel
theorem d_kr_add_9 : decode b_kr_add 9 = .ok (.ifCond .ne 5, 3) := by decide +kernel
theorem d_kr_add_12 : decode b_kr_add 12 = .ok (.iconst (-1), 1) := by decide +kernel
theorem d_kr_add_13 : decode b_kr_add 13 = .ok (.ireturn, 1) := by decide +kernel
theorem d_kr_add_14 : decode b_kr_add 14 = .ok (.aload_n 0, 1) := by decide +kernel
theorem d_kr_add_15 : decode b_kr_add 15 = .ok (.getfield 29, 3) := by decide +kernel
theorem d_kr_add_18 : decode b_kr_add 18 = .ok (.iload_n 1, 1) := by decide +kernel
theorem d_kr_add_19 : decode b_kr_add 19 = .ok (.invokevirtual 78, 3) := by decide +kernel
theorem d_kr_add_22 : decode b_kr_add 22 = .ok (.aload_n 0, 1) := by decide +kernel
theorem d_kr_add_23 : decode b_kr_add 23 = .ok (.getfield 29, 3) := by decide +kernel
theorem d_kr_add_26 : decode b_kr_add 26 = .ok (.iload_n 2, 1) := by decide +kernel
theorem d_kr_add_27 : decode b_kr_add 27 = .ok (.invokevirtual 82, 3) := by decide +kernel
theorem d_kr_add_30 : decode b_kr_add 30 = .ok (.lmul, 1) := by decide +kernel
theorem d_kr_add_31 : decode b_kr_add 31 = .ok (.aload_n 0, 1) := by decide +kernel
theorem d_kr_add_32 : decode b_kr_add 32 = .ok (.getfield 29, 3) := by decide +kernel
theorem d_kr_add_35 : decode b_kr_add 35 = .ok (.iload_n 2, 1) := by decide +kernel
theorem d_kr_add_36 : decode b_kr_add 36 = .ok (.invokevirtual 78, 3) := by decide +kernel
theorem d_kr_add_39 : decode b_kr_add 39 = .ok (.aload_n 0, 1) := by decide +kernel
theorem d_kr_add_40 : decode b_kr_add 40 = .ok (.getfield 29, 3) := by decide +kernel
theorem d_kr_add_43 : decode b_kr_add 43 = .ok (.iload_n 1, 1) := by decide +kernel
theorem d_kr_add_44 : decode b_kr_add 44 = .ok (.invokevirtual 82, 3) := by decide +kernel
theorem d_kr_add_47 : decode b_kr_add 47 = .ok (.lmul, 1) := by decide +kernel
theorem d_kr_add_48 : decode b_kr_add 48 = .ok (.ladd, 1) := by decide +kernel
theorem d_kr_add_49 : decode b_kr_add 49 = .ok (.lstore_n 3, 1) := by decide +kernel
theorem d_kr_add_50 : decode b_kr_add 50 = .ok (.aload_n 0, 1) := by decide +kernel
theorem d_kr_add_51 : decode b_kr_add 51 = .ok (.getfield 29, 3) := by decide +kernel
theorem d_kr_add_54 : decode b_kr_add 54 = .ok (.lload_n 3, 1) := by decide +kernel
theorem d_kr_add_55 : decode b_kr_add 55 = .ok (.aload_n 0, 1) := by decide +kernel
theorem d_kr_add_56 : decode b_kr_add 56 = .ok (.getfield 29, 3) := by decide +kernel
theorem d_kr_add_59 : decode b_kr_add 59 = .ok (.iload_n 1, 1) := by decide +kernel
theorem d_kr_add_60 : decode b_kr_add 60 = .ok (.invokevirtual 82, 3) := by decide +kernel
theorem d_kr_add_63 : decode b_kr_add 63 = .ok (.aload_n 0, 1) := by decide +kernel
theorem d_kr_add_64 : decode b_kr_add 64 = .ok (.getfield 29, 3) := by decide +kernel
theorem d_kr_add_67 : decode b_kr_add 67 = .ok (.iload_n 2, 1) := by decide +kernel
theorem d_kr_add_68 : decode b_kr_add 68 = .ok (.invokevirtual 82, 3) := by decide +kernel
theorem d_kr_add_71 : decode b_kr_add 71 = .ok (.lmul, 1) := by decide +kernel
theorem d_kr_add_72 : decode b_kr_add 72 = .ok (.invokevirtual 54, 3) := by decide +kernel
theorem d_kr_add_75 : decode b_kr_add 75 = .ok (.ireturn, 1) := by decide +kernel
abbrev b_kr_less : ByteArray := prog_1_method_5_code
def y_kr_less : MethodName := ⟨R_kr, "less", "(II)I"⟩
def w_kr_less : List Cond := .code y_kr_less b_kr_less 5 (some .int) :: kt_T
theorem d_kr_less_0 : decode b_kr_less 0 = .ok (.aload_n 0, 1) := by decide +kernel
theorem d_kr_less_1 : decode b_kr_less 1 = .ok (.getfield 29, 3) := by decide +kernel
theorem d_kr_less_4 : decode b_kr_less 4 = .ok (.iload_n 1, 1) := by decide +kernel
theorem d_kr_less_5 : decode b_kr_less 5 = .ok (.iload_n 2, 1) := by decide +kernel
theorem d_kr_less_6 : decode b_kr_less 6 = .ok (.invokevirtual 74, 3) := by decide +kernel
theorem d_kr_less_9 : decode b_kr_less 9 = .ok (.ifCond .ne 5, 3) := by decide +kernel
theorem d_kr_less_12 : decode b_kr_less 12 = .ok (.iconst (-1), 1) := by decide +kernel
theorem d_kr_less_13 : decode b_kr_less 13 = .ok (.ireturn, 1) := by decide +kernel
theorem d_kr_less_14 : decode b_kr_less 14 = .ok (.aload_n 0, 1) := by decide +kernel
theorem d_kr_less_15 : decode b_kr_less 15 = .ok (.getfield 29, 3) := by decide +kernel
theorem d_kr_less_18 : decode b_kr_less 18 = .ok (.iload_n 1, 1) := by decide +kernel
theorem d_kr_less_19 : decode b_kr_less 19 = .ok (.invokevirtual 78, 3) := by decide +kernel
theorem d_kr_less_22 : decode b_kr_less 22 = .ok (.aload_n 0, 1) := by decide +kernel
theorem d_kr_less_23 : decode b_kr_less 23 = .ok (.getfield 29, 3) := by decide +kernel
theorem d_kr_less_26 : decode b_kr_less 26 = .ok (.iload_n 2, 1) := by decide +kernel
theorem d_kr_less_27 : decode b_kr_less 27 = .ok (.invokevirtual 82, 3) := by decide +kernel
theorem d_kr_less_30 : decode b_kr_less 30 = .ok (.lmul, 1) := by decide +kernel
theorem d_kr_less_31 : decode b_kr_less 31 = .ok (.aload_n 0, 1) := by decide +kernel
theorem d_kr_less_32 : decode b_kr_less 32 = .ok (.getfield 29, 3) := by decide +kernel
theorem d_kr_less_35 : decode b_kr_less 35 = .ok (.iload_n 2, 1) := by decide +kernel
theorem d_kr_less_36 : decode b_kr_less 36 = .ok (.invokevirtual 78, 3) := by decide +kernel
theorem d_kr_less_39 : decode b_kr_less 39 = .ok (.aload_n 0, 1) := by decide +kernel
theorem d_kr_less_40 : decode b_kr_less 40 = .ok (.getfield 29, 3) := by decide +kernel
theorem d_kr_less_43 : decode b_kr_less 43 = .ok (.iload_n 1, 1) := by decide +kernel
theorem d_kr_less_44 : decode b_kr_less 44 = .ok (.invokevirtual 82, 3) := by decide +kernel
theorem d_kr_less_47 : decode b_kr_less 47 = .ok (.lmul, 1) := by decide +kernel
theorem d_kr_less_48 : decode b_kr_less 48 = .ok (.lsub, 1) := by decide +kernel
theorem d_kr_less_49 : decode b_kr_less 49 = .ok (.lstore_n 3, 1) := by decide +kernel
theorem d_kr_less_50 : decode b_kr_less 50 = .ok (.aload_n 0, 1) := by decide +kernel
theorem d_kr_less_51 : decode b_kr_less 51 = .ok (.getfield 29, 3) := by decide +kernel
theorem d_kr_less_54 : decode b_kr_less 54 = .ok (.lload_n 3, 1) := by decide +kernel
theorem d_kr_less_55 : decode b_kr_less 55 = .ok (.aload_n 0, 1) := by decide +kernel
theorem d_kr_less_56 : decode b_kr_less 56 = .ok (.getfield 29, 3) := by decide +kernel
theorem d_kr_less_59 : decode b_kr_less 59 = .ok (.iload_n 1, 1) := by decide +kernel
theorem d_kr_less_60 : decode b_kr_less 60 = .ok (.invokevirtual 82, 3) := by decide +kernel
theorem d_kr_less_63 : decode b_kr_less 63 = .ok (.aload_n 0, 1) := by decide +kernel
theorem d_kr_less_64 : decode b_kr_less 64 = .ok (.getfield 29, 3) := by decide +kernel
theorem d_kr_less_67 : decode b_kr_less 67 = .ok (.iload_n 2, 1) := by decide +kernel
theorem d_kr_less_68 : decode b_kr_less 68 = .ok (.invokevirtual 82, 3) := by decide +kernel
theorem d_kr_less_71 : decode b_kr_less 71 = .ok (.lmul, 1) := by decide +kernel
theorem d_kr_less_72 : decode b_kr_less 72 = .ok (.invokevirtual 54, 3) := by decide +kernel
theorem d_kr_less_75 : decode b_kr_less 75 = .ok (.ireturn, 1) := by decide +kernel
abbrev b_kr_times : ByteArray := prog_1_method_6_code
def y_kr_times : MethodName := ⟨R_kr, "times", "(II)I"⟩
def w_kr_times : List Cond := .code y_kr_times b_kr_times 3 (some .int) :: kt_T
theorem d_kr_times_0 : decode b_kr_times 0 = .ok (.aload_n 0, 1) := by decide +kernel
theorem d_kr_times_1 : decode b_kr_times 1 = .ok (.getfield 29, 3) := by decide +kernel
theorem d_kr_times_4 : decode b_kr_times 4 = .ok (.iload_n 1, 1) := by decide +kernel
theorem d_kr_times_5 : decode b_kr_times 5 = .ok (.iload_n 2, 1) := by decide +kernel
theorem d_kr_times_6 : decode b_kr_times 6 = .ok (.invokevirtual 74, 3) := by decide +kernel
theorem d_kr_times_9 : decode b_kr_times 9 = .ok (.ifCond .ne 5, 3) := by decide +kernel
theorem d_kr_times_12 : decode b_kr_times 12 = .ok (.iconst (-1), 1) := by decide +kernel
theorem d_kr_times_13 : decode b_kr_times 13 = .ok (.ireturn, 1) := by decide +kernel
theorem d_kr_times_14 : decode b_kr_times 14 = .ok (.aload_n 0, 1) := by decide +kernel
theorem d_kr_times_15 : decode b_kr_times 15 = .ok (.getfield 29, 3) := by decide +kernel
theorem d_kr_times_18 : decode b_kr_times 18 = .ok (.aload_n 0, 1) := by decide +kernel
theorem d_kr_times_19 : decode b_kr_times 19 = .ok (.getfield 29, 3) := by decide +kernel
theorem d_kr_times_22 : decode b_kr_times 22 = .ok (.iload_n 1, 1) := by decide +kernel
theorem d_kr_times_23 : decode b_kr_times 23 = .ok (.invokevirtual 78, 3) := by decide +kernel
theorem d_kr_times_26 : decode b_kr_times 26 = .ok (.aload_n 0, 1) := by decide +kernel
theorem d_kr_times_27 : decode b_kr_times 27 = .ok (.getfield 29, 3) := by decide +kernel
theorem d_kr_times_30 : decode b_kr_times 30 = .ok (.iload_n 2, 1) := by decide +kernel
theorem d_kr_times_31 : decode b_kr_times 31 = .ok (.invokevirtual 78, 3) := by decide +kernel
theorem d_kr_times_34 : decode b_kr_times 34 = .ok (.lmul, 1) := by decide +kernel
theorem d_kr_times_35 : decode b_kr_times 35 = .ok (.aload_n 0, 1) := by decide +kernel
theorem d_kr_times_36 : decode b_kr_times 36 = .ok (.getfield 29, 3) := by decide +kernel
theorem d_kr_times_39 : decode b_kr_times 39 = .ok (.iload_n 1, 1) := by decide +kernel
theorem d_kr_times_40 : decode b_kr_times 40 = .ok (.invokevirtual 82, 3) := by decide +kernel
theorem d_kr_times_43 : decode b_kr_times 43 = .ok (.aload_n 0, 1) := by decide +kernel
theorem d_kr_times_44 : decode b_kr_times 44 = .ok (.getfield 29, 3) := by decide +kernel
theorem d_kr_times_47 : decode b_kr_times 47 = .ok (.iload_n 2, 1) := by decide +kernel
theorem d_kr_times_48 : decode b_kr_times 48 = .ok (.invokevirtual 82, 3) := by decide +kernel
theorem d_kr_times_51 : decode b_kr_times 51 = .ok (.lmul, 1) := by decide +kernel
theorem d_kr_times_52 : decode b_kr_times 52 = .ok (.invokevirtual 54, 3) := by decide +kernel
theorem d_kr_times_55 : decode b_kr_times 55 = .ok (.ireturn, 1) := by decide +kernel
abbrev b_kr_order : ByteArray := prog_1_method_8_code
def y_kr_order : MethodName := ⟨R_kr, "order", "(II)I"⟩
def w_kr_order : List Cond := .code y_kr_order b_kr_order 7 (some .int) :: kt_T
theorem d_kr_order_0 : decode b_kr_order 0 = .ok (.aload_n 0, 1) := by decide +kernel
theorem d_kr_order_1 : decode b_kr_order 1 = .ok (.getfield 29, 3) := by decide +kernel
theorem d_kr_order_4 : decode b_kr_order 4 = .ok (.iload_n 1, 1) := by decide +kernel
theorem d_kr_order_5 : decode b_kr_order 5 = .ok (.iload_n 2, 1) := by decide +kernel
theorem d_kr_order_6 : decode b_kr_order 6 = .ok (.invokevirtual 74, 3) := by decide +kernel
theorem d_kr_order_9 : decode b_kr_order 9 = .ok (.ifCond .ne 6, 3) := by decide +kernel
theorem d_kr_order_12 : decode b_kr_order 12 = .ok (.bipush (-2), 2) := by decide +kernel
theorem d_kr_order_14 : decode b_kr_order 14 = .ok (.ireturn, 1) := by decide +kernel
theorem d_kr_order_15 : decode b_kr_order 15 = .ok (.aload_n 0, 1) := by decide +kernel
theorem d_kr_order_16 : decode b_kr_order 16 = .ok (.getfield 29, 3) := by decide +kernel
theorem d_kr_order_19 : decode b_kr_order 19 = .ok (.iload_n 1, 1) := by decide +kernel
theorem d_kr_order_20 : decode b_kr_order 20 = .ok (.invokevirtual 78, 3) := by decide +kernel
theorem d_kr_order_23 : decode b_kr_order 23 = .ok (.aload_n 0, 1) := by decide +kernel
theorem d_kr_order_24 : decode b_kr_order 24 = .ok (.getfield 29, 3) := by decide +kernel
theorem d_kr_order_27 : decode b_kr_order 27 = .ok (.iload_n 2, 1) := by decide +kernel
theorem d_kr_order_28 : decode b_kr_order 28 = .ok (.invokevirtual 82, 3) := by decide +kernel
theorem d_kr_order_31 : decode b_kr_order 31 = .ok (.lmul, 1) := by decide +kernel
theorem d_kr_order_32 : decode b_kr_order 32 = .ok (.lstore_n 3, 1) := by decide +kernel
theorem d_kr_order_33 : decode b_kr_order 33 = .ok (.aload_n 0, 1) := by decide +kernel
theorem d_kr_order_34 : decode b_kr_order 34 = .ok (.getfield 29, 3) := by decide +kernel
theorem d_kr_order_37 : decode b_kr_order 37 = .ok (.iload_n 2, 1) := by decide +kernel
theorem d_kr_order_38 : decode b_kr_order 38 = .ok (.invokevirtual 78, 3) := by decide +kernel
theorem d_kr_order_41 : decode b_kr_order 41 = .ok (.aload_n 0, 1) := by decide +kernel
theorem d_kr_order_42 : decode b_kr_order 42 = .ok (.getfield 29, 3) := by decide +kernel
theorem d_kr_order_45 : decode b_kr_order 45 = .ok (.iload_n 1, 1) := by decide +kernel
theorem d_kr_order_46 : decode b_kr_order 46 = .ok (.invokevirtual 82, 3) := by decide +kernel
theorem d_kr_order_49 : decode b_kr_order 49 = .ok (.lmul, 1) := by decide +kernel
theorem d_kr_order_50 : decode b_kr_order 50 = .ok (.lstore 5, 2) := by decide +kernel
theorem d_kr_order_52 : decode b_kr_order 52 = .ok (.lload_n 3, 1) := by decide +kernel
theorem d_kr_order_53 : decode b_kr_order 53 = .ok (.lload 5, 2) := by decide +kernel
theorem d_kr_order_55 : decode b_kr_order 55 = .ok (.lcmp, 1) := by decide +kernel
theorem d_kr_order_56 : decode b_kr_order 56 = .ok (.ifCond .ne 5, 3) := by decide +kernel
theorem d_kr_order_59 : decode b_kr_order 59 = .ok (.iconst 0, 1) := by decide +kernel
theorem d_kr_order_60 : decode b_kr_order 60 = .ok (.ireturn, 1) := by decide +kernel
theorem d_kr_order_61 : decode b_kr_order 61 = .ok (.lload_n 3, 1) := by decide +kernel
theorem d_kr_order_62 : decode b_kr_order 62 = .ok (.lload 5, 2) := by decide +kernel
theorem d_kr_order_64 : decode b_kr_order 64 = .ok (.lcmp, 1) := by decide +kernel
theorem d_kr_order_65 : decode b_kr_order 65 = .ok (.ifCond .ge 7, 3) := by decide +kernel
theorem d_kr_order_68 : decode b_kr_order 68 = .ok (.iconst (-1), 1) := by decide +kernel
theorem d_kr_order_69 : decode b_kr_order 69 = .ok (.goto 4, 3) := by decide +kernel
theorem d_kr_order_72 : decode b_kr_order 72 = .ok (.iconst 1, 1) := by decide +kernel
theorem d_kr_order_73 : decode b_kr_order 73 = .ok (.ireturn, 1) := by decide +kernel
abbrev b_kr_row : ByteArray := prog_1_method_11_code
def y_kr_row : MethodName := ⟨R_kr, "row", "()I"⟩
def w_kr_row : List Cond := .code y_kr_row b_kr_row 1 (some .int) :: kt_T
theorem d_kr_row_0 : decode b_kr_row 0 = .ok (.aload_n 0, 1) := by decide +kernel
theorem d_kr_row_1 : decode b_kr_row 1 = .ok (.getfield 23, 3) := by decide +kernel
theorem d_kr_row_4 : decode b_kr_row 4 = .ok (.bipush 20, 2) := by decide +kernel
theorem d_kr_row_6 : decode b_kr_row 6 = .ok (.if_icmp .lt 5, 3) := by decide +kernel
theorem d_kr_row_9 : decode b_kr_row 9 = .ok (.iconst (-1), 1) := by decide +kernel
theorem d_kr_row_10 : decode b_kr_row 10 = .ok (.ireturn, 1) := by decide +kernel
theorem d_kr_row_11 : decode b_kr_row 11 = .ok (.aload_n 0, 1) := by decide +kernel
theorem d_kr_row_12 : decode b_kr_row 12 = .ok (.dup, 1) := by decide +kernel
theorem d_kr_row_13 : decode b_kr_row 13 = .ok (.getfield 23, 3) := by decide +kernel
theorem d_kr_row_16 : decode b_kr_row 16 = .ok (.iconst 1, 1) := by decide +kernel
theorem d_kr_row_17 : decode b_kr_row 17 = .ok (.iadd, 1) := by decide +kernel
theorem d_kr_row_18 : decode b_kr_row 18 = .ok (.putfield 23, 3) := by decide +kernel
theorem d_kr_row_21 : decode b_kr_row 21 = .ok (.aload_n 0, 1) := by decide +kernel
theorem d_kr_row_22 : decode b_kr_row 22 = .ok (.getfield 23, 3) := by decide +kernel
theorem d_kr_row_25 : decode b_kr_row 25 = .ok (.iconst 1, 1) := by decide +kernel
theorem d_kr_row_26 : decode b_kr_row 26 = .ok (.isub, 1) := by decide +kernel
theorem d_kr_row_27 : decode b_kr_row 27 = .ok (.ireturn, 1) := by decide +kernel
theorem k_16 : (.fieldLink R_kr 23 "KilogramRows" "rowCount" "I" : Cond) ∈ kt_T := List.mem_filter.mpr ⟨List.mem_of_getElem? (i := 104) (by decide +kernel), by decide +kernel⟩
theorem k_17 : (.fieldLink R_kr 9 "KilogramRows" "kinds" "I" : Cond) ∈ kt_T := List.mem_filter.mpr ⟨List.mem_of_getElem? (i := 102) (by decide +kernel), by decide +kernel⟩
theorem k_18 : (.constantLong R_kr 144 2 : Cond) ∈ kt_T := List.mem_filter.mpr ⟨List.mem_of_getElem? (i := 181) (by decide +kernel), by decide +kernel⟩
theorem k_19 : (.fieldLink R_kr 29 "KilogramRows" "values" "LKilogramRows$Values;" : Cond) ∈ kt_T := List.mem_filter.mpr ⟨List.mem_of_getElem? (i := 105) (by decide +kernel), by decide +kernel⟩
theorem k_20 : (.code y_kv_hasBoth b_kv_hasBoth 3 (some .boolean) : Cond) ∈ kt_T := List.mem_filter.mpr ⟨List.mem_of_getElem? (i := 128) (by decide +kernel), by decide +kernel⟩
theorem k_21 : (.instanceMethod y_kv_hasBoth : Cond) ∈ kt_T := List.mem_filter.mpr ⟨List.mem_of_getElem? (i := 126) (by decide +kernel), by decide +kernel⟩
theorem k_22 : (.selects R_kv y_kv_hasBoth y_kv_hasBoth : Cond) ∈ kt_T := List.mem_filter.mpr ⟨List.mem_of_getElem? (i := 127) (by decide +kernel), by decide +kernel⟩
theorem k_23 : (.methodLink R_kr 74 y_kv_hasBoth : Cond) ∈ kt_T := List.mem_filter.mpr ⟨List.mem_of_getElem? (i := 125) (by decide +kernel), by decide +kernel⟩
theorem k_24 : (.code y_kv_upper b_kv_upper 2 (some .long) : Cond) ∈ kt_T := List.mem_filter.mpr ⟨List.mem_of_getElem? (i := 136) (by decide +kernel), by decide +kernel⟩
theorem k_25 : (.instanceMethod y_kv_upper : Cond) ∈ kt_T := List.mem_filter.mpr ⟨List.mem_of_getElem? (i := 134) (by decide +kernel), by decide +kernel⟩
theorem k_26 : (.selects R_kv y_kv_upper y_kv_upper : Cond) ∈ kt_T := List.mem_filter.mpr ⟨List.mem_of_getElem? (i := 135) (by decide +kernel), by decide +kernel⟩
theorem k_27 : (.methodLink R_kr 78 y_kv_upper : Cond) ∈ kt_T := List.mem_filter.mpr ⟨List.mem_of_getElem? (i := 133) (by decide +kernel), by decide +kernel⟩
theorem k_28 : (.code y_kv_lower b_kv_lower 2 (some .long) : Cond) ∈ kt_T := List.mem_filter.mpr ⟨List.mem_of_getElem? (i := 140) (by decide +kernel), by decide +kernel⟩
theorem k_29 : (.instanceMethod y_kv_lower : Cond) ∈ kt_T := List.mem_filter.mpr ⟨List.mem_of_getElem? (i := 138) (by decide +kernel), by decide +kernel⟩
theorem k_30 : (.selects R_kv y_kv_lower y_kv_lower : Cond) ∈ kt_T := List.mem_filter.mpr ⟨List.mem_of_getElem? (i := 139) (by decide +kernel), by decide +kernel⟩
theorem k_31 : (.methodLink R_kr 82 y_kv_lower : Cond) ∈ kt_T := List.mem_filter.mpr ⟨List.mem_of_getElem? (i := 137) (by decide +kernel), by decide +kernel⟩
theorem k_32 : (.code y_kv_keep b_kv_keep 11 (some .int) : Cond) ∈ kt_T := List.mem_filter.mpr ⟨List.mem_of_getElem? (i := 144) (by decide +kernel), by decide +kernel⟩
theorem k_33 : (.instanceMethod y_kv_keep : Cond) ∈ kt_T := List.mem_filter.mpr ⟨List.mem_of_getElem? (i := 142) (by decide +kernel), by decide +kernel⟩
theorem k_34 : (.selects R_kv y_kv_keep y_kv_keep : Cond) ∈ kt_T := List.mem_filter.mpr ⟨List.mem_of_getElem? (i := 143) (by decide +kernel), by decide +kernel⟩
theorem k_35 : (.methodLink R_kr 54 y_kv_keep : Cond) ∈ kt_T := List.mem_filter.mpr ⟨List.mem_of_getElem? (i := 141) (by decide +kernel), by decide +kernel⟩
def f_kr_hasRow (rowc : Int32) (row : Int32) : Int32 :=
  if row < 0 then 0 else if rowc ≤ row then 0 else 1
set_option maxHeartbeats 4000000 in
set_option maxRecDepth 100000 in
theorem c_kr_hasRow (l : Launch) (dC : Nat → ClassId) (dI : Nat → Nat → Nat) (ak : Nat) (kinds : Int32) (ac : Nat) (rowc : Int32) (a0 : Nat) (a_s : Nat) (a_w : Nat) (row : Int32) : Met l y_kr_hasRow w_kr_hasRow ({ frames := 0, cells := 0, slots := 0, locals := 0 }) (va_Pc [.ref ak, .int row] (fun U => va_P (dC, dI) classes [(ak, .inr (0, [.int kinds, .ref ac, .int rowc, .ref a0, .ref a_s, .ref a_w]))] U.heap ∧ va_K (dC, dI) classes [] U)) (vp_Si (fun z9 => z9 = f_kr_hasRow rowc row)) 0 0 (fun _ => False) := by
  refine Met.ofW (cc := b_kr_hasRow) (maxL := 2) (ret := (some .boolean)) (by decide +kernel) rfl ?_
  intro p e s m args below meth c s₁ B hml hv
  obtain ⟨rfl, hP, hK⟩ := hv
  have hx := B.exec
  have hb := B.bytes
  have hr := B.returns
  have hts := atoms_spec (ws := w_kr_hasRow) B.pre
  have hT := fun (w : Cond) (h : w ∈ kt_T) => hts w (List.mem_cons_of_mem _ h)
  have hown : s.vm.findClass R_kr = some m.cls := findClass_of_methodNamed B.named
  have hlocks := B.notSynchronized
  have hl := lv_entry ([.ref ak, .int row]) (n := 2) (Nat.le_of_ble_eq_true rfl)
  rw [lg_entry_eq]
  generalize (lg_sl ([.ref ak, .int row]) ++ List.replicate (2 - (lg_sl ([.ref ak, .int row])).length) Slot.unset).toArray = ls at hl ⊢
  have hl : lv_has ls 2 [(0, .ref ak), (1, .int row)] := hl
  refine lv_iload_n hx hb d_kr_hasRow_0 rfl (lv_at hl 1 rfl) ?_
  refine lv_if_lt (tgt := 16) hx hb d_kr_hasRow_1 (by decide) (fun c_1 => ?_) (fun c_1 => ?_)
  · refine lv_iconst (v := 0) hx hb d_kr_hasRow_16 (by decide) ?_
    exact W.zret (v := 0) hx hb hr rfl (fun t ht hW => ⟨_, rfl, by unfold f_kr_hasRow; rw [if_pos c_1], ht⟩) t_nil d_kr_hasRow_17
  · refine lv_iload_n hx hb d_kr_hasRow_4 rfl (lv_at hl 1 rfl) ?_
    refine lv_aload_n hx hb d_kr_hasRow_5 rfl (lv_at hl 0 rfl) ?_
    refine va_get (D := (dC, dI)) (ci := 0) (v := .int rowc) (C := R_kr) (T := F_kr) (N := 6) hx hb hT i_kr hown hK hP 0 rfl rfl 2 (by decide) (hT _ k_16) (fun _ h9 => h9) rfl d_kr_hasRow_6 ?_
    refine lv_icmp_ge (tgt := 16) hx hb d_kr_hasRow_9 (by decide) (fun c_2 => ?_) (fun c_2 => ?_)
    · refine lv_iconst (v := 0) hx hb d_kr_hasRow_16 (by decide) ?_
      exact W.zret (v := 0) hx hb hr rfl (fun t ht hW => ⟨_, rfl, by unfold f_kr_hasRow; rw [if_neg c_1, if_pos c_2], ht⟩) t_nil d_kr_hasRow_17
    · refine lv_iconst (v := 1) hx hb d_kr_hasRow_12 (by decide) ?_
      refine lv_goto (tgt := 17) hx hb d_kr_hasRow_13 (by decide) ?_
      exact W.zret (v := 1) hx hb hr rfl (fun t ht hW => ⟨_, rfl, by unfold f_kr_hasRow; rw [if_neg c_1, if_neg c_2], ht⟩) t_nil d_kr_hasRow_17
def f_kr_hasKind (kinds : Int32) (kind : Int32) : Int32 :=
  if kind < 0 then 0 else if kinds ≤ kind then 0 else 1
set_option maxHeartbeats 4000000 in
set_option maxRecDepth 100000 in
theorem c_kr_hasKind (l : Launch) (dC : Nat → ClassId) (dI : Nat → Nat → Nat) (ak : Nat) (kinds : Int32) (ac : Nat) (rowc : Int32) (a0 : Nat) (a_s : Nat) (a_w : Nat) (kind : Int32) : Met l y_kr_hasKind w_kr_hasKind ({ frames := 0, cells := 0, slots := 0, locals := 0 }) (va_Pc [.ref ak, .int kind] (fun U => va_P (dC, dI) classes [(ak, .inr (0, [.int kinds, .ref ac, .int rowc, .ref a0, .ref a_s, .ref a_w]))] U.heap ∧ va_K (dC, dI) classes [] U)) (vp_Si (fun z9 => z9 = f_kr_hasKind kinds kind)) 0 0 (fun _ => False) := by
  refine Met.ofW (cc := b_kr_hasKind) (maxL := 2) (ret := (some .boolean)) (by decide +kernel) rfl ?_
  intro p e s m args below meth c s₁ B hml hv
  obtain ⟨rfl, hP, hK⟩ := hv
  have hx := B.exec
  have hb := B.bytes
  have hr := B.returns
  have hts := atoms_spec (ws := w_kr_hasKind) B.pre
  have hT := fun (w : Cond) (h : w ∈ kt_T) => hts w (List.mem_cons_of_mem _ h)
  have hown : s.vm.findClass R_kr = some m.cls := findClass_of_methodNamed B.named
  have hlocks := B.notSynchronized
  have hl := lv_entry ([.ref ak, .int kind]) (n := 2) (Nat.le_of_ble_eq_true rfl)
  rw [lg_entry_eq]
  generalize (lg_sl ([.ref ak, .int kind]) ++ List.replicate (2 - (lg_sl ([.ref ak, .int kind])).length) Slot.unset).toArray = ls at hl ⊢
  have hl : lv_has ls 2 [(0, .ref ak), (1, .int kind)] := hl
  refine lv_iload_n hx hb d_kr_hasKind_0 rfl (lv_at hl 1 rfl) ?_
  refine lv_if_lt (tgt := 16) hx hb d_kr_hasKind_1 (by decide) (fun c_1 => ?_) (fun c_1 => ?_)
  · refine lv_iconst (v := 0) hx hb d_kr_hasKind_16 (by decide) ?_
    exact W.zret (v := 0) hx hb hr rfl (fun t ht hW => ⟨_, rfl, by unfold f_kr_hasKind; rw [if_pos c_1], ht⟩) t_nil d_kr_hasKind_17
  · refine lv_iload_n hx hb d_kr_hasKind_4 rfl (lv_at hl 1 rfl) ?_
    refine lv_aload_n hx hb d_kr_hasKind_5 rfl (lv_at hl 0 rfl) ?_
    refine va_get (D := (dC, dI)) (ci := 0) (v := .int kinds) (C := R_kr) (T := F_kr) (N := 6) hx hb hT i_kr hown hK hP 0 rfl rfl 0 (by decide) (hT _ k_17) (fun _ h9 => h9) rfl d_kr_hasKind_6 ?_
    refine lv_icmp_ge (tgt := 16) hx hb d_kr_hasKind_9 (by decide) (fun c_2 => ?_) (fun c_2 => ?_)
    · refine lv_iconst (v := 0) hx hb d_kr_hasKind_16 (by decide) ?_
      exact W.zret (v := 0) hx hb hr rfl (fun t ht hW => ⟨_, rfl, by unfold f_kr_hasKind; rw [if_neg c_1, if_pos c_2], ht⟩) t_nil d_kr_hasKind_17
    · refine lv_iconst (v := 1) hx hb d_kr_hasKind_12 (by decide) ?_
      refine lv_goto (tgt := 17) hx hb d_kr_hasKind_13 (by decide) ?_
      exact W.zret (v := 1) hx hb hr rfl (fun t ht hW => ⟨_, rfl, by unfold f_kr_hasKind; rw [if_neg c_1, if_neg c_2], ht⟩) t_nil d_kr_hasKind_17
def f_kr_isPart (q : Int32) : Int32 :=
  if q = 0 then 1 else if q = 1 then 1 else 0
set_option maxHeartbeats 4000000 in
set_option maxRecDepth 100000 in
theorem c_kr_isPart (l : Launch) (q : Int32) : Met l y_kr_isPart w_kr_isPart ({ frames := 0, cells := 0, slots := 0, locals := 0 }) (va_Pc [.int q] (fun _ => True)) (vp_Si (fun z9 => z9 = f_kr_isPart q)) 0 0 (fun _ => False) := by
  refine Met.ofW (cc := b_kr_isPart) (maxL := 1) (ret := (some .boolean)) (by decide +kernel) rfl ?_
  intro p e s m args below meth c s₁ B hml hv
  obtain ⟨rfl, -⟩ := hv
  have hx := B.exec
  have hb := B.bytes
  have hr := B.returns
  have hts := atoms_spec (ws := w_kr_isPart) B.pre
  have hT := fun (w : Cond) (h : w ∈ kt_T) => hts w (List.mem_cons_of_mem _ h)
  have hown : s.vm.findClass R_kr = some m.cls := findClass_of_methodNamed B.named
  have hlocks := B.notSynchronized
  have hl := lv_entry ([.int q]) (n := 1) (Nat.le_of_ble_eq_true rfl)
  rw [lg_entry_eq]
  generalize (lg_sl ([.int q]) ++ List.replicate (1 - (lg_sl ([.int q])).length) Slot.unset).toArray = ls at hl ⊢
  have hl : lv_has ls 1 [(0, .int q)] := hl
  refine lv_iload_n hx hb d_kr_isPart_0 rfl (lv_at hl 0 rfl) ?_
  refine lv_if_eq (tgt := 9) hx hb d_kr_isPart_1 (by decide) (fun c_1 => ?_) (fun c_1 => ?_)
  · refine lv_iconst (v := 1) hx hb d_kr_isPart_9 (by decide) ?_
    refine lv_goto (tgt := 14) hx hb d_kr_isPart_10 (by decide) ?_
    exact W.zret (v := 1) hx hb hr rfl (fun t ht hW => ⟨_, rfl, by unfold f_kr_isPart; rw [if_pos c_1], ht⟩) t_nil d_kr_isPart_14
  · refine lv_iload_n hx hb d_kr_isPart_4 rfl (lv_at hl 0 rfl) ?_
    refine lv_iconst (v := 1) hx hb d_kr_isPart_5 (by decide) ?_
    refine lv_icmp_ne (tgt := 13) hx hb d_kr_isPart_6 (by decide) (fun c_2 => ?_) (fun c_2 => ?_)
    · refine lv_iconst (v := 0) hx hb d_kr_isPart_13 (by decide) ?_
      exact W.zret (v := 0) hx hb hr rfl (fun t ht hW => ⟨_, rfl, by unfold f_kr_isPart; rw [if_neg c_1, if_neg c_2], ht⟩) t_nil d_kr_isPart_14
    · refine lv_iconst (v := 1) hx hb d_kr_isPart_9 (by decide) ?_
      refine lv_goto (tgt := 14) hx hb d_kr_isPart_10 (by decide) ?_
      exact W.zret (v := 1) hx hb hr rfl (fun t ht hW => ⟨_, rfl, by unfold f_kr_isPart; rw [if_neg c_1, if_pos c_2], ht⟩) t_nil d_kr_isPart_14
def f_kr_goesUp (rule : Int32) (mul : Int64) (rest : Int64) (step : Int64) : Int32 :=
  if rule = 0 then 0 else if rule = 1 then if rest ≤ 0 then 0 else 1 else if (2 * rest) = step then if rule = 2 then if mul < 0 then 0 else 1 else if (mul &&& 1) = 0 then 0 else 1 else if (2 * rest) ≤ step then 0 else 1
set_option maxHeartbeats 4000000 in
set_option maxRecDepth 100000 in
theorem c_kr_goesUp (l : Launch) (rule : Int32) (mul : Int64) (rest : Int64) (step : Int64) : Met l y_kr_goesUp w_kr_goesUp ({ frames := 0, cells := 0, slots := 0, locals := 0 }) (va_Pc [.int rule, .long mul, .long rest, .long step] (fun _ => True)) (vp_Si (fun z9 => z9 = f_kr_goesUp rule mul rest step)) 0 0 (fun _ => False) := by
  refine Met.ofW (cc := b_kr_goesUp) (maxL := 7) (ret := (some .boolean)) (by decide +kernel) rfl ?_
  intro p e s m args below meth c s₁ B hml hv
  obtain ⟨rfl, -⟩ := hv
  have hx := B.exec
  have hb := B.bytes
  have hr := B.returns
  have hts := atoms_spec (ws := w_kr_goesUp) B.pre
  have hT := fun (w : Cond) (h : w ∈ kt_T) => hts w (List.mem_cons_of_mem _ h)
  have hown : s.vm.findClass R_kr = some m.cls := findClass_of_methodNamed B.named
  have hlocks := B.notSynchronized
  have hl := lv_entry ([.int rule, .long mul, .long rest, .long step]) (n := 7) (Nat.le_of_ble_eq_true rfl)
  rw [lg_entry_eq]
  generalize (lg_sl ([.int rule, .long mul, .long rest, .long step]) ++ List.replicate (7 - (lg_sl ([.int rule, .long mul, .long rest, .long step])).length) Slot.unset).toArray = ls at hl ⊢
  have hl : lv_has ls 7 [(0, .int rule), (1, .long mul), (3, .long rest), (5, .long step)] := hl
  refine lv_iload_n hx hb d_kr_goesUp_0 rfl (lv_at hl 0 rfl) ?_
  refine lv_if_ne (tgt := 6) hx hb d_kr_goesUp_1 (by decide) (fun c_1 => ?_) (fun c_1 => ?_)
  · refine lv_iload_n hx hb d_kr_goesUp_6 rfl (lv_at hl 0 rfl) ?_
    refine lv_iconst (v := 1) hx hb d_kr_goesUp_7 (by decide) ?_
    refine lv_icmp_ne (tgt := 23) hx hb d_kr_goesUp_8 (by decide) (fun c_2 => ?_) (fun c_2 => ?_)
    · refine lv_ldc2 (v := 2) hx hb hown (hT _ k_18) d_kr_goesUp_23 ?_
      refine lv_lload_n hx hb d_kr_goesUp_26 rfl (lv_at hl 2 rfl) ?_
      refine lv_lmul hx hb d_kr_goesUp_27 ?_
      refine lv_lload hx hb d_kr_goesUp_28 (lv_at hl 3 rfl) ?_
      refine lx_ifeq (tgt := 51) hx hb d_kr_goesUp_30 d_kr_goesUp_31 (by decide) (fun c_3 => ?_) (fun c_3 => ?_)
      · refine lv_iload_n hx hb d_kr_goesUp_51 rfl (lv_at hl 0 rfl) ?_
        refine lv_iconst (v := 2) hx hb d_kr_goesUp_52 (by decide) ?_
        refine lv_icmp_ne (tgt := 68) hx hb d_kr_goesUp_53 (by decide) (fun c_4 => ?_) (fun c_4 => ?_)
        · refine lv_lload_n hx hb d_kr_goesUp_68 rfl (lv_at hl 1 rfl) ?_
          refine lv_lconst (v := 1) hx hb d_kr_goesUp_69 (by decide) ?_
          refine lv_land hx hb d_kr_goesUp_70 ?_
          refine lv_lconst (v := 0) hx hb d_kr_goesUp_71 (by decide) ?_
          refine lx_ifeq (tgt := 80) hx hb d_kr_goesUp_72 d_kr_goesUp_73 (by decide) (fun c_5 => ?_) (fun c_5 => ?_)
          · refine lv_iconst (v := 0) hx hb d_kr_goesUp_80 (by decide) ?_
            exact W.zret (v := 0) hx hb hr rfl (fun t ht hW => ⟨_, rfl, by unfold f_kr_goesUp; rw [if_neg c_1, if_neg c_2, if_pos c_3, if_neg c_4, if_pos c_5], ht⟩) t_nil d_kr_goesUp_81
          · refine lv_iconst (v := 1) hx hb d_kr_goesUp_76 (by decide) ?_
            refine lv_goto (tgt := 81) hx hb d_kr_goesUp_77 (by decide) ?_
            exact W.zret (v := 1) hx hb hr rfl (fun t ht hW => ⟨_, rfl, by unfold f_kr_goesUp; rw [if_neg c_1, if_neg c_2, if_pos c_3, if_neg c_4, if_neg c_5], ht⟩) t_nil d_kr_goesUp_81
        · refine lv_lload_n hx hb d_kr_goesUp_56 rfl (lv_at hl 1 rfl) ?_
          refine lv_lconst (v := 0) hx hb d_kr_goesUp_57 (by decide) ?_
          refine lx_iflt (tgt := 66) hx hb d_kr_goesUp_58 d_kr_goesUp_59 (by decide) (fun c_6 => ?_) (fun c_6 => ?_)
          · refine lv_iconst (v := 0) hx hb d_kr_goesUp_66 (by decide) ?_
            exact W.zret (v := 0) hx hb hr rfl (fun t ht hW => ⟨_, rfl, by unfold f_kr_goesUp; rw [if_neg c_1, if_neg c_2, if_pos c_3, if_pos c_4, if_pos c_6], ht⟩) t_nil d_kr_goesUp_67
          · refine lv_iconst (v := 1) hx hb d_kr_goesUp_62 (by decide) ?_
            refine lv_goto (tgt := 67) hx hb d_kr_goesUp_63 (by decide) ?_
            exact W.zret (v := 1) hx hb hr rfl (fun t ht hW => ⟨_, rfl, by unfold f_kr_goesUp; rw [if_neg c_1, if_neg c_2, if_pos c_3, if_pos c_4, if_neg c_6], ht⟩) t_nil d_kr_goesUp_67
      · refine lv_ldc2 (v := 2) hx hb hown (hT _ k_18) d_kr_goesUp_34 ?_
        refine lv_lload_n hx hb d_kr_goesUp_37 rfl (lv_at hl 2 rfl) ?_
        refine lv_lmul hx hb d_kr_goesUp_38 ?_
        refine lv_lload hx hb d_kr_goesUp_39 (lv_at hl 3 rfl) ?_
        refine lx_ifle (tgt := 49) hx hb d_kr_goesUp_41 d_kr_goesUp_42 (by decide) (fun c_7 => ?_) (fun c_7 => ?_)
        · refine lv_iconst (v := 0) hx hb d_kr_goesUp_49 (by decide) ?_
          exact W.zret (v := 0) hx hb hr rfl (fun t ht hW => ⟨_, rfl, by unfold f_kr_goesUp; rw [if_neg c_1, if_neg c_2, if_neg c_3, if_pos c_7], ht⟩) t_nil d_kr_goesUp_50
        · refine lv_iconst (v := 1) hx hb d_kr_goesUp_45 (by decide) ?_
          refine lv_goto (tgt := 50) hx hb d_kr_goesUp_46 (by decide) ?_
          exact W.zret (v := 1) hx hb hr rfl (fun t ht hW => ⟨_, rfl, by unfold f_kr_goesUp; rw [if_neg c_1, if_neg c_2, if_neg c_3, if_neg c_7], ht⟩) t_nil d_kr_goesUp_50
    · refine lv_lload_n hx hb d_kr_goesUp_11 rfl (lv_at hl 2 rfl) ?_
      refine lv_lconst (v := 0) hx hb d_kr_goesUp_12 (by decide) ?_
      refine lx_ifle (tgt := 21) hx hb d_kr_goesUp_13 d_kr_goesUp_14 (by decide) (fun c_8 => ?_) (fun c_8 => ?_)
      · refine lv_iconst (v := 0) hx hb d_kr_goesUp_21 (by decide) ?_
        exact W.zret (v := 0) hx hb hr rfl (fun t ht hW => ⟨_, rfl, by unfold f_kr_goesUp; rw [if_neg c_1, if_pos c_2, if_pos c_8], ht⟩) t_nil d_kr_goesUp_22
      · refine lv_iconst (v := 1) hx hb d_kr_goesUp_17 (by decide) ?_
        refine lv_goto (tgt := 22) hx hb d_kr_goesUp_18 (by decide) ?_
        exact W.zret (v := 1) hx hb hr rfl (fun t ht hW => ⟨_, rfl, by unfold f_kr_goesUp; rw [if_neg c_1, if_pos c_2, if_neg c_8], ht⟩) t_nil d_kr_goesUp_22
  · refine lv_iconst (v := 0) hx hb d_kr_goesUp_4 (by decide) ?_
    exact W.zret (v := 0) hx hb hr rfl (fun t ht hW => ⟨_, rfl, by unfold f_kr_goesUp; rw [if_pos c_1], ht⟩) t_nil d_kr_goesUp_5
def f_kr_add (cnt : Int32) (fu : Nat → Int32) (fl : Nat → Int32) (a : Int32) (b : Int32) : Int32 × (Nat → Int32) × (Nat → Int32) × Int32 :=
  if (f_kv_hasBoth cnt a b) = 0 then ((-1), fu, fl, cnt) else (f_kv_keep cnt fu fl (((f_kv_upper fu a) * (f_kv_lower fl b)) + ((f_kv_upper fu b) * (f_kv_lower fl a))) ((f_kv_lower fl a) * (f_kv_lower fl b)))
set_option maxHeartbeats 4000000 in
set_option maxRecDepth 100000 in
theorem c_kr_add (l : Launch) (dC : Nat → ClassId) (dI : Nat → Nat → Nat) (sz : Nat) (ak : Nat) (a0 : Nat) (a1 : Nat) (a2 : Nat) (kinds : Int32) (ac : Nat) (rowc : Int32) (a_s : Nat) (a_w : Nat) (cnt : Int32) (cU : ClassId) (fu : Nat → Int32) (cL : ClassId) (fl : Nat → Int32) (a : Int32) (b : Int32) (hc : vp_in cnt 301) : Met l y_kr_add w_kr_add ({ frames := 2, cells := 0, slots := 0, locals := 60 }) (va_Pc [.ref ak, .int a, .int b] (fun U => U.heap.size = sz ∧ va_P (dC, dI) classes [(ak, .inr (0, [.int kinds, .ref ac, .int rowc, .ref a0, .ref a_s, .ref a_w])), (a0, .inr (1, [.ref a1, .ref a2, .int cnt])), (a1, .inl (cU, 300, .inl fu)), (a2, .inl (cL, 300, .inl fl))] U.heap ∧ va_K (dC, dI) classes [(cU, .int), (cL, .int)] U ∧ va_D (fun _ => True) [(ak, .inr (0, [.int kinds, .ref ac, .int rowc, .ref a0, .ref a_s, .ref a_w])), (a0, .inr (1, [.ref a1, .ref a2, .int cnt])), (a1, .inl (cU, 300, .inl fu)), (a2, .inl (cL, 300, .inl fl))] ∧ kt_N U)) (va_Qi (fun z9 u9 => (z9, u9) = f_kr_add cnt fu fl a b) (fun (u : (Nat → Int32) × (Nat → Int32) × Int32) t => match u with | (fu', fl', cnt') => va_P (dC, dI) classes [(ak, .inr (0, [.int kinds, .ref ac, .int rowc, .ref a0, .ref a_s, .ref a_w])), (a0, .inr (1, [.ref a1, .ref a2, .int cnt'])), (a1, .inl (cU, 300, .inl fu')), (a2, .inl (cL, 300, .inl fl'))] t.heap ∧ va_K (dC, dI) classes [(cU, .int), (cL, .int)] t ∧ va_D (va_A [(ak, .inr (0, [.int kinds, .ref ac, .int rowc, .ref a0, .ref a_s, .ref a_w])), (a0, .inr (1, [.ref a1, .ref a2, .int cnt])), (a1, .inl (cU, 300, .inl fu)), (a2, .inl (cL, 300, .inl fl))] sz) [(ak, .inr (0, [.int kinds, .ref ac, .int rowc, .ref a0, .ref a_s, .ref a_w])), (a0, .inr (1, [.ref a1, .ref a2, .int cnt'])), (a1, .inl (cU, 300, .inl fu')), (a2, .inl (cL, 300, .inl fl'))]) (va_A [(ak, .inr (0, [.int kinds, .ref ac, .int rowc, .ref a0, .ref a_s, .ref a_w])), (a0, .inr (1, [.ref a1, .ref a2, .int cnt])), (a1, .inl (cU, 300, .inl fu)), (a2, .inl (cL, 300, .inl fl))] sz)) 0 0 (va_A [(ak, .inr (0, [.int kinds, .ref ac, .int rowc, .ref a0, .ref a_s, .ref a_w])), (a0, .inr (1, [.ref a1, .ref a2, .int cnt])), (a1, .inl (cU, 300, .inl fu)), (a2, .inl (cL, 300, .inl fl))] sz) := by
  refine Met.ofW (cc := b_kr_add) (maxL := 5) (ret := (some .int)) (by decide +kernel) rfl ?_
  intro p e s m args below meth c s₁ B hml hv
  obtain ⟨rfl, hsz, hP, hK, hD0, hN⟩ := hv
  have hx := B.exec
  have hb := B.bytes
  have hr := B.returns
  have hts := atoms_spec (ws := w_kr_add) B.pre
  have hT := fun (w : Cond) (h : w ∈ kt_T) => hts w (List.mem_cons_of_mem _ h)
  have hown : s.vm.findClass R_kr = some m.cls := findClass_of_methodNamed B.named
  have hlocks := B.notSynchronized
  subst hsz
  have hD := hD0.self (sz := s.heap.size)
  generalize hAe : va_A [(ak, .inr (0, [.int kinds, .ref ac, .int rowc, .ref a0, .ref a_s, .ref a_w])), (a0, .inr (1, [.ref a1, .ref a2, .int cnt])), (a1, .inl (cU, 300, .inl fu)), (a2, .inl (cL, 300, .inl fl))] s.heap.size = A at hD ⊢
  have hA : ∀ q : Nat, s.heap.size ≤ q → A q := fun q h => by rw [← hAe]; exact Or.inr h
  have hS : va_S A s.heap s.heap [] := va_S.rf
  have hl := lv_entry ([.ref ak, .int a, .int b]) (n := 5) (Nat.le_of_ble_eq_true rfl)
  rw [lg_entry_eq]
  generalize (lg_sl ([.ref ak, .int a, .int b]) ++ List.replicate (5 - (lg_sl ([.ref ak, .int a, .int b])).length) Slot.unset).toArray = ls at hl ⊢
  have hl : lv_has ls 5 [(0, .ref ak), (1, .int a), (2, .int b)] := hl
  refine lv_aload_n hx hb d_kr_add_0 rfl (lv_at hl 0 rfl) ?_
  refine va_get (D := (dC, dI)) (ci := 0) (v := .ref a0) (C := R_kr) (T := F_kr) (N := 6) hx hb hT i_kr hown hK hP 0 rfl rfl 3 (by decide) (hT _ k_19) (fun _ h9 => h9) rfl d_kr_add_1 ?_
  refine lv_iload_n hx hb d_kr_add_4 rfl (lv_at hl 1 rfl) ?_
  refine lv_iload_n hx hb d_kr_add_5 rfl (lv_at hl 2 rfl) ?_
  have hPc := hP.sub (ws' := [(a0, .inr (1, [.ref a1, .ref a2, .int cnt])), (a1, .inl (cU, 300, .inl fu)), (a2, .inl (cL, 300, .inl fl))]) [1, 2, 3] rfl
  have hKc := hK.sub (tys' := [(cU, .int), (cL, .int)]) [0, 1] rfl
  refine vp_callSi (W.runV (As := [.int a, .int b]) (rest := []) ⟨hx, hb, hml, hown, hT⟩ (c_kv_hasBoth l dC dI a0 a1 a2 cnt cU fu cL fl a b) (cwV 2 hT (kt_V k_23 k_21 k_22 k_2 k_20) rfl rfl rfl (by decide +kernel) ⟨Nat.le_of_ble_eq_true rfl, Nat.le_of_ble_eq_true rfl⟩) ⟨bl_R, va_recv hKc hPc (ci := 1) (q0 := 0) rfl rfl, fun U hU hW => ⟨rfl, by rw [hU]; exact hPc, va_K.moved hW.alike hKc⟩⟩ rfl rfl hl.1 rfl (lv_room (Nat.le_of_ble_eq_true rfl)) d_kr_add_6 ⟨Nat.zero_le _, Nat.zero_le _⟩) (fun r_1 e_r_1 => ?_)
  subst e_r_1
  refine lv_if_ne (tgt := 14) hx hb d_kr_add_9 (by decide) (fun c_2 => ?_) (fun c_2 => ?_)
  · refine lv_aload_n hx hb d_kr_add_14 rfl (lv_at hl 0 rfl) ?_
    refine va_get (D := (dC, dI)) (ci := 0) (v := .ref a0) (C := R_kr) (T := F_kr) (N := 6) hx hb hT i_kr hown hK hP 0 rfl rfl 3 (by decide) (hT _ k_19) (fun _ h9 => h9) rfl d_kr_add_15 ?_
    refine lv_iload_n hx hb d_kr_add_18 rfl (lv_at hl 1 rfl) ?_
    have hPc := hP.sub (ws' := [(a0, .inr (1, [.ref a1, .ref a2, .int cnt])), (a1, .inl (cU, 300, .inl fu)), (a2, .inl (cL, 300, .inl fl))]) [1, 2, 3] rfl
    have hKc := hK.sub (tys' := [(cU, .int), (cL, .int)]) [0, 1] rfl
    refine vp_callSl (W.runV (As := [.int a]) (rest := []) ⟨hx, hb, hml, hown, hT⟩ (c_kv_upper l dC dI a0 a1 a2 cnt cU fu cL fl a (in_hb1 hc c_2)) (cwV 1 hT (kt_V k_27 k_25 k_26 k_2 k_24) rfl rfl rfl (by decide +kernel) ⟨Nat.le_of_ble_eq_true rfl, Nat.le_of_ble_eq_true rfl⟩) ⟨bl_R, va_recv hKc hPc (ci := 1) (q0 := 0) rfl rfl, fun U hU hW => ⟨rfl, by rw [hU]; exact hPc, va_K.moved hW.alike hKc⟩⟩ rfl rfl hl.1 rfl (lv_room (Nat.le_of_ble_eq_true rfl)) d_kr_add_19 ⟨Nat.zero_le _, Nat.zero_le _⟩) (fun r_3 e_r_3 => ?_)
    subst e_r_3
    refine lv_aload_n hx hb d_kr_add_22 rfl (lv_at hl 0 rfl) ?_
    refine va_get (D := (dC, dI)) (ci := 0) (v := .ref a0) (C := R_kr) (T := F_kr) (N := 6) hx hb hT i_kr hown hK hP 0 rfl rfl 3 (by decide) (hT _ k_19) (fun _ h9 => h9) rfl d_kr_add_23 ?_
    refine lv_iload_n hx hb d_kr_add_26 rfl (lv_at hl 2 rfl) ?_
    have hPc := hP.sub (ws' := [(a0, .inr (1, [.ref a1, .ref a2, .int cnt])), (a1, .inl (cU, 300, .inl fu)), (a2, .inl (cL, 300, .inl fl))]) [1, 2, 3] rfl
    have hKc := hK.sub (tys' := [(cU, .int), (cL, .int)]) [0, 1] rfl
    refine vp_callSl (W.runV (As := [.int b]) (rest := [.long (f_kv_upper fu a)]) ⟨hx, hb, hml, hown, hT⟩ (c_kv_lower l dC dI a0 a1 a2 cnt cU fu cL fl b (in_hb2 hc c_2)) (cwV 1 hT (kt_V k_31 k_29 k_30 k_2 k_28) rfl rfl rfl (by decide +kernel) ⟨Nat.le_of_ble_eq_true rfl, Nat.le_of_ble_eq_true rfl⟩) ⟨bl_R, va_recv hKc hPc (ci := 1) (q0 := 0) rfl rfl, fun U hU hW => ⟨rfl, by rw [hU]; exact hPc, va_K.moved hW.alike hKc⟩⟩ rfl rfl hl.1 rfl (lv_room (Nat.le_of_ble_eq_true rfl)) d_kr_add_27 ⟨Nat.zero_le _, Nat.zero_le _⟩) (fun r_4 e_r_4 => ?_)
    subst e_r_4
    refine lv_lmul hx hb d_kr_add_30 ?_
    refine lv_aload_n hx hb d_kr_add_31 rfl (lv_at hl 0 rfl) ?_
    refine va_get (D := (dC, dI)) (ci := 0) (v := .ref a0) (C := R_kr) (T := F_kr) (N := 6) hx hb hT i_kr hown hK hP 0 rfl rfl 3 (by decide) (hT _ k_19) (fun _ h9 => h9) rfl d_kr_add_32 ?_
    refine lv_iload_n hx hb d_kr_add_35 rfl (lv_at hl 2 rfl) ?_
    have hPc := hP.sub (ws' := [(a0, .inr (1, [.ref a1, .ref a2, .int cnt])), (a1, .inl (cU, 300, .inl fu)), (a2, .inl (cL, 300, .inl fl))]) [1, 2, 3] rfl
    have hKc := hK.sub (tys' := [(cU, .int), (cL, .int)]) [0, 1] rfl
    refine vp_callSl (W.runV (As := [.int b]) (rest := [.long ((f_kv_upper fu a) * (f_kv_lower fl b))]) ⟨hx, hb, hml, hown, hT⟩ (c_kv_upper l dC dI a0 a1 a2 cnt cU fu cL fl b (in_hb2 hc c_2)) (cwV 1 hT (kt_V k_27 k_25 k_26 k_2 k_24) rfl rfl rfl (by decide +kernel) ⟨Nat.le_of_ble_eq_true rfl, Nat.le_of_ble_eq_true rfl⟩) ⟨bl_R, va_recv hKc hPc (ci := 1) (q0 := 0) rfl rfl, fun U hU hW => ⟨rfl, by rw [hU]; exact hPc, va_K.moved hW.alike hKc⟩⟩ rfl rfl hl.1 rfl (lv_room (Nat.le_of_ble_eq_true rfl)) d_kr_add_36 ⟨Nat.zero_le _, Nat.zero_le _⟩) (fun r_5 e_r_5 => ?_)
    subst e_r_5
    refine lv_aload_n hx hb d_kr_add_39 rfl (lv_at hl 0 rfl) ?_
    refine va_get (D := (dC, dI)) (ci := 0) (v := .ref a0) (C := R_kr) (T := F_kr) (N := 6) hx hb hT i_kr hown hK hP 0 rfl rfl 3 (by decide) (hT _ k_19) (fun _ h9 => h9) rfl d_kr_add_40 ?_
    refine lv_iload_n hx hb d_kr_add_43 rfl (lv_at hl 1 rfl) ?_
    have hPc := hP.sub (ws' := [(a0, .inr (1, [.ref a1, .ref a2, .int cnt])), (a1, .inl (cU, 300, .inl fu)), (a2, .inl (cL, 300, .inl fl))]) [1, 2, 3] rfl
    have hKc := hK.sub (tys' := [(cU, .int), (cL, .int)]) [0, 1] rfl
    refine vp_callSl (W.runV (As := [.int a]) (rest := [.long (f_kv_upper fu b), .long ((f_kv_upper fu a) * (f_kv_lower fl b))]) ⟨hx, hb, hml, hown, hT⟩ (c_kv_lower l dC dI a0 a1 a2 cnt cU fu cL fl a (in_hb1 hc c_2)) (cwV 1 hT (kt_V k_31 k_29 k_30 k_2 k_28) rfl rfl rfl (by decide +kernel) ⟨Nat.le_of_ble_eq_true rfl, Nat.le_of_ble_eq_true rfl⟩) ⟨bl_R, va_recv hKc hPc (ci := 1) (q0 := 0) rfl rfl, fun U hU hW => ⟨rfl, by rw [hU]; exact hPc, va_K.moved hW.alike hKc⟩⟩ rfl rfl hl.1 rfl (lv_room (Nat.le_of_ble_eq_true rfl)) d_kr_add_44 ⟨Nat.zero_le _, Nat.zero_le _⟩) (fun r_6 e_r_6 => ?_)
    subst e_r_6
    refine lv_lmul hx hb d_kr_add_47 ?_
    refine lv_ladd hx hb d_kr_add_48 ?_
    refine lv_lstore_n (lv' := [(3, .long (((f_kv_upper fu a) * (f_kv_lower fl b)) + ((f_kv_upper fu b) * (f_kv_lower fl a)))), (0, .ref ak), (1, .int a), (2, .int b)]) hx hb d_kr_add_49 rfl hl (by decide) rfl (fun ls hl => ?_)
    refine lv_aload_n hx hb d_kr_add_50 rfl (lv_at hl 1 rfl) ?_
    refine va_get (D := (dC, dI)) (ci := 0) (v := .ref a0) (C := R_kr) (T := F_kr) (N := 6) hx hb hT i_kr hown hK hP 0 rfl rfl 3 (by decide) (hT _ k_19) (fun _ h9 => h9) rfl d_kr_add_51 ?_
    refine lv_lload_n hx hb d_kr_add_54 rfl (lv_at hl 0 rfl) ?_
    refine lv_aload_n hx hb d_kr_add_55 rfl (lv_at hl 1 rfl) ?_
    refine va_get (D := (dC, dI)) (ci := 0) (v := .ref a0) (C := R_kr) (T := F_kr) (N := 6) hx hb hT i_kr hown hK hP 0 rfl rfl 3 (by decide) (hT _ k_19) (fun _ h9 => h9) rfl d_kr_add_56 ?_
    refine lv_iload_n hx hb d_kr_add_59 rfl (lv_at hl 2 rfl) ?_
    have hPc := hP.sub (ws' := [(a0, .inr (1, [.ref a1, .ref a2, .int cnt])), (a1, .inl (cU, 300, .inl fu)), (a2, .inl (cL, 300, .inl fl))]) [1, 2, 3] rfl
    have hKc := hK.sub (tys' := [(cU, .int), (cL, .int)]) [0, 1] rfl
    refine vp_callSl (W.runV (As := [.int a]) (rest := [.long (((f_kv_upper fu a) * (f_kv_lower fl b)) + ((f_kv_upper fu b) * (f_kv_lower fl a))), .ref a0]) ⟨hx, hb, hml, hown, hT⟩ (c_kv_lower l dC dI a0 a1 a2 cnt cU fu cL fl a (in_hb1 hc c_2)) (cwV 1 hT (kt_V k_31 k_29 k_30 k_2 k_28) rfl rfl rfl (by decide +kernel) ⟨Nat.le_of_ble_eq_true rfl, Nat.le_of_ble_eq_true rfl⟩) ⟨bl_R, va_recv hKc hPc (ci := 1) (q0 := 0) rfl rfl, fun U hU hW => ⟨rfl, by rw [hU]; exact hPc, va_K.moved hW.alike hKc⟩⟩ rfl rfl hl.1 rfl (lv_room (Nat.le_of_ble_eq_true rfl)) d_kr_add_60 ⟨Nat.zero_le _, Nat.zero_le _⟩) (fun r_7 e_r_7 => ?_)
    subst e_r_7
    refine lv_aload_n hx hb d_kr_add_63 rfl (lv_at hl 1 rfl) ?_
    refine va_get (D := (dC, dI)) (ci := 0) (v := .ref a0) (C := R_kr) (T := F_kr) (N := 6) hx hb hT i_kr hown hK hP 0 rfl rfl 3 (by decide) (hT _ k_19) (fun _ h9 => h9) rfl d_kr_add_64 ?_
    refine lv_iload_n hx hb d_kr_add_67 rfl (lv_at hl 3 rfl) ?_
    have hPc := hP.sub (ws' := [(a0, .inr (1, [.ref a1, .ref a2, .int cnt])), (a1, .inl (cU, 300, .inl fu)), (a2, .inl (cL, 300, .inl fl))]) [1, 2, 3] rfl
    have hKc := hK.sub (tys' := [(cU, .int), (cL, .int)]) [0, 1] rfl
    refine vp_callSl (W.runV (As := [.int b]) (rest := [.long (f_kv_lower fl a), .long (((f_kv_upper fu a) * (f_kv_lower fl b)) + ((f_kv_upper fu b) * (f_kv_lower fl a))), .ref a0]) ⟨hx, hb, hml, hown, hT⟩ (c_kv_lower l dC dI a0 a1 a2 cnt cU fu cL fl b (in_hb2 hc c_2)) (cwV 1 hT (kt_V k_31 k_29 k_30 k_2 k_28) rfl rfl rfl (by decide +kernel) ⟨Nat.le_of_ble_eq_true rfl, Nat.le_of_ble_eq_true rfl⟩) ⟨bl_R, va_recv hKc hPc (ci := 1) (q0 := 0) rfl rfl, fun U hU hW => ⟨rfl, by rw [hU]; exact hPc, va_K.moved hW.alike hKc⟩⟩ rfl rfl hl.1 rfl (lv_room (Nat.le_of_ble_eq_true rfl)) d_kr_add_68 ⟨Nat.zero_le _, Nat.zero_le _⟩) (fun r_8 e_r_8 => ?_)
    subst e_r_8
    refine lv_lmul hx hb d_kr_add_71 ?_
    have hPc := hP.sub (ws' := [(a0, .inr (1, [.ref a1, .ref a2, .int cnt])), (a1, .inl (cU, 300, .inl fu)), (a2, .inl (cL, 300, .inl fl))]) [1, 2, 3] rfl
    have hKc := hK.sub (tys' := [(cU, .int), (cL, .int)]) [0, 1] rfl
    have hDc := hD.sub (ws' := [(a0, .inr (1, [.ref a1, .ref a2, .int cnt])), (a1, .inl (cU, 300, .inl fu)), (a2, .inl (cL, 300, .inl fl))]) [1, 2, 3] (by decide) rfl
    have hFc := va_free (wc := [(a0, .inr (1, [.ref a1, .ref a2, .int cnt])), (a1, .inl (cU, 300, .inl fu)), (a2, .inl (cL, 300, .inl fl))]) hD hS hA [1, 2, 3] rfl
    refine va_calli (va_runV (As := [.long (((f_kv_upper fu a) * (f_kv_lower fl b)) + ((f_kv_upper fu b) * (f_kv_lower fl a))), .long ((f_kv_lower fl a) * (f_kv_lower fl b))]) (rest := []) ⟨hx, hb, hml, hown, hT⟩ (c_kv_keep l dC dI s.heap.size a0 a1 a2 cnt cU fu cL fl (((f_kv_upper fu a) * (f_kv_lower fl b)) + ((f_kv_upper fu b) * (f_kv_lower fl a))) ((f_kv_lower fl a) * (f_kv_lower fl b)) hc) (cwV 2 hT (kt_V k_35 k_33 k_34 k_2 k_32) rfl rfl rfl (by decide +kernel) ⟨Nat.le_of_ble_eq_true rfl, Nat.le_of_ble_eq_true rfl⟩) ⟨bl_MN, va_recv hKc hPc (ci := 1) (q0 := 0) rfl rfl, fun U hU hW => ⟨rfl, by rw [hU], by rw [hU]; exact hPc, va_K.moved hW.alike hKc, hDc.weaken (fun _ _ _ _ => trivial), kt_N.warm hW hN⟩⟩ rfl rfl hl.1 rfl (lv_room (Nat.le_of_ble_eq_true rfl)) d_kr_add_72 ⟨Nat.zero_le _, Nat.zero_le _⟩) hS (fun q _ h => hFc q h) hFc (fun r_9 u t H1 locs ht hvm hw hB hz1 hk1 hS => ?_)
    obtain ⟨fu_9, fl_9, cnt_9⟩ := u
    obtain ⟨hP1, hK1, hD1⟩ := hB
    rw [ht] at hP1
    obtain ⟨hP, hD⟩ := va_join (wr := [(ak, .inr (0, [.int kinds, .ref ac, .int rowc, .ref a0, .ref a_s, .ref a_w]))]) (w1 := [(a0, .inr (1, [.ref a1, .ref a2, .int cnt_9])), (a1, .inl (cU, 300, .inl fu_9)), (a2, .inl (cL, 300, .inl fl_9))]) hP hD [1, 2, 3] [0] rfl rfl (by decide) (by decide) hk1 hFc hP1 hD1
    generalize H1 = H at hP hS ⊢
    have hP := hP.sub (ws' := [(ak, .inr (0, [.int kinds, .ref ac, .int rowc, .ref a0, .ref a_s, .ref a_w])), (a0, .inr (1, [.ref a1, .ref a2, .int cnt_9])), (a1, .inl (cU, 300, .inl fu_9)), (a2, .inl (cL, 300, .inl fl_9))]) [0, 1, 2, 3] rfl
    have hD := hD.sub (ws' := [(ak, .inr (0, [.int kinds, .ref ac, .int rowc, .ref a0, .ref a_s, .ref a_w])), (a0, .inr (1, [.ref a1, .ref a2, .int cnt_9])), (a1, .inl (cU, 300, .inl fu_9)), (a2, .inl (cL, 300, .inl fl_9))]) [0, 1, 2, 3] (by decide) rfl
    have e_r_9 : r_9 = (f_kv_keep cnt fu fl (((f_kv_upper fu a) * (f_kv_lower fl b)) + ((f_kv_upper fu b) * (f_kv_lower fl a))) ((f_kv_lower fl a) * (f_kv_lower fl b))).1 := congrArg (fun z => z.1) hw
    have e_fu_9 : fu_9 = (f_kv_keep cnt fu fl (((f_kv_upper fu a) * (f_kv_lower fl b)) + ((f_kv_upper fu b) * (f_kv_lower fl a))) ((f_kv_lower fl a) * (f_kv_lower fl b))).2.1 := congrArg (fun z => z.2.1) hw
    have e_fl_9 : fl_9 = (f_kv_keep cnt fu fl (((f_kv_upper fu a) * (f_kv_lower fl b)) + ((f_kv_upper fu b) * (f_kv_lower fl a))) ((f_kv_lower fl a) * (f_kv_lower fl b))).2.2.1 := congrArg (fun z => z.2.2.1) hw
    have e_cnt_9 : cnt_9 = (f_kv_keep cnt fu fl (((f_kv_upper fu a) * (f_kv_lower fl b)) + ((f_kv_upper fu b) * (f_kv_lower fl a))) ((f_kv_lower fl a) * (f_kv_lower fl b))).2.2.2 := congrArg (fun z => z.2.2.2) hw
    subst e_r_9 e_fu_9 e_fl_9 e_cnt_9
    clear hP1 hK1 hD1 hk1 hz1 hFc hDc hPc hKc
    exact W.iret (v := (f_kv_keep cnt fu fl (((f_kv_upper fu a) * (f_kv_lower fl b)) + ((f_kv_upper fu b) * (f_kv_lower fl a))) ((f_kv_lower fl a) * (f_kv_lower fl b))).1) hx hb hr (fun t ht hW => ⟨⟨(f_kv_keep cnt fu fl (((f_kv_upper fu a) * (f_kv_lower fl b)) + ((f_kv_upper fu b) * (f_kv_lower fl a))) ((f_kv_lower fl a) * (f_kv_lower fl b))).1, ((f_kv_keep cnt fu fl (((f_kv_upper fu a) * (f_kv_lower fl b)) + ((f_kv_upper fu b) * (f_kv_lower fl a))) ((f_kv_lower fl a) * (f_kv_lower fl b))).2.1, (f_kv_keep cnt fu fl (((f_kv_upper fu a) * (f_kv_lower fl b)) + ((f_kv_upper fu b) * (f_kv_lower fl a))) ((f_kv_lower fl a) * (f_kv_lower fl b))).2.2.1, (f_kv_keep cnt fu fl (((f_kv_upper fu a) * (f_kv_lower fl b)) + ((f_kv_upper fu b) * (f_kv_lower fl a))) ((f_kv_lower fl a) * (f_kv_lower fl b))).2.2.2), rfl, by unfold f_kr_add; rw [if_neg c_2], by rw [ht]; exact hP, va_K.moved hW.alike hK, hD⟩, hS.F ht⟩) hS.2.2 d_kr_add_75
  · refine lv_iconst (v := (-1)) hx hb d_kr_add_12 (by decide) ?_
    exact W.iret (v := (-1)) hx hb hr (fun t ht hW => ⟨⟨(-1), (fu, fl, cnt), rfl, by unfold f_kr_add; rw [if_pos c_2], by rw [ht]; exact hP, va_K.moved hW.alike hK, hD⟩, hS.F ht⟩) hS.2.2 d_kr_add_13
def f_kr_less (cnt : Int32) (fu : Nat → Int32) (fl : Nat → Int32) (a : Int32) (b : Int32) : Int32 × (Nat → Int32) × (Nat → Int32) × Int32 :=
  if (f_kv_hasBoth cnt a b) = 0 then ((-1), fu, fl, cnt) else (f_kv_keep cnt fu fl (((f_kv_upper fu a) * (f_kv_lower fl b)) - ((f_kv_upper fu b) * (f_kv_lower fl a))) ((f_kv_lower fl a) * (f_kv_lower fl b)))
set_option maxHeartbeats 4000000 in
set_option maxRecDepth 100000 in
theorem c_kr_less (l : Launch) (dC : Nat → ClassId) (dI : Nat → Nat → Nat) (sz : Nat) (ak : Nat) (a0 : Nat) (a1 : Nat) (a2 : Nat) (kinds : Int32) (ac : Nat) (rowc : Int32) (a_s : Nat) (a_w : Nat) (cnt : Int32) (cU : ClassId) (fu : Nat → Int32) (cL : ClassId) (fl : Nat → Int32) (a : Int32) (b : Int32) (hc : vp_in cnt 301) : Met l y_kr_less w_kr_less ({ frames := 2, cells := 0, slots := 0, locals := 60 }) (va_Pc [.ref ak, .int a, .int b] (fun U => U.heap.size = sz ∧ va_P (dC, dI) classes [(ak, .inr (0, [.int kinds, .ref ac, .int rowc, .ref a0, .ref a_s, .ref a_w])), (a0, .inr (1, [.ref a1, .ref a2, .int cnt])), (a1, .inl (cU, 300, .inl fu)), (a2, .inl (cL, 300, .inl fl))] U.heap ∧ va_K (dC, dI) classes [(cU, .int), (cL, .int)] U ∧ va_D (fun _ => True) [(ak, .inr (0, [.int kinds, .ref ac, .int rowc, .ref a0, .ref a_s, .ref a_w])), (a0, .inr (1, [.ref a1, .ref a2, .int cnt])), (a1, .inl (cU, 300, .inl fu)), (a2, .inl (cL, 300, .inl fl))] ∧ kt_N U)) (va_Qi (fun z9 u9 => (z9, u9) = f_kr_less cnt fu fl a b) (fun (u : (Nat → Int32) × (Nat → Int32) × Int32) t => match u with | (fu', fl', cnt') => va_P (dC, dI) classes [(ak, .inr (0, [.int kinds, .ref ac, .int rowc, .ref a0, .ref a_s, .ref a_w])), (a0, .inr (1, [.ref a1, .ref a2, .int cnt'])), (a1, .inl (cU, 300, .inl fu')), (a2, .inl (cL, 300, .inl fl'))] t.heap ∧ va_K (dC, dI) classes [(cU, .int), (cL, .int)] t ∧ va_D (va_A [(ak, .inr (0, [.int kinds, .ref ac, .int rowc, .ref a0, .ref a_s, .ref a_w])), (a0, .inr (1, [.ref a1, .ref a2, .int cnt])), (a1, .inl (cU, 300, .inl fu)), (a2, .inl (cL, 300, .inl fl))] sz) [(ak, .inr (0, [.int kinds, .ref ac, .int rowc, .ref a0, .ref a_s, .ref a_w])), (a0, .inr (1, [.ref a1, .ref a2, .int cnt'])), (a1, .inl (cU, 300, .inl fu')), (a2, .inl (cL, 300, .inl fl'))]) (va_A [(ak, .inr (0, [.int kinds, .ref ac, .int rowc, .ref a0, .ref a_s, .ref a_w])), (a0, .inr (1, [.ref a1, .ref a2, .int cnt])), (a1, .inl (cU, 300, .inl fu)), (a2, .inl (cL, 300, .inl fl))] sz)) 0 0 (va_A [(ak, .inr (0, [.int kinds, .ref ac, .int rowc, .ref a0, .ref a_s, .ref a_w])), (a0, .inr (1, [.ref a1, .ref a2, .int cnt])), (a1, .inl (cU, 300, .inl fu)), (a2, .inl (cL, 300, .inl fl))] sz) := by
  refine Met.ofW (cc := b_kr_less) (maxL := 5) (ret := (some .int)) (by decide +kernel) rfl ?_
  intro p e s m args below meth c s₁ B hml hv
  obtain ⟨rfl, hsz, hP, hK, hD0, hN⟩ := hv
  have hx := B.exec
  have hb := B.bytes
  have hr := B.returns
  have hts := atoms_spec (ws := w_kr_less) B.pre
  have hT := fun (w : Cond) (h : w ∈ kt_T) => hts w (List.mem_cons_of_mem _ h)
  have hown : s.vm.findClass R_kr = some m.cls := findClass_of_methodNamed B.named
  have hlocks := B.notSynchronized
  subst hsz
  have hD := hD0.self (sz := s.heap.size)
  generalize hAe : va_A [(ak, .inr (0, [.int kinds, .ref ac, .int rowc, .ref a0, .ref a_s, .ref a_w])), (a0, .inr (1, [.ref a1, .ref a2, .int cnt])), (a1, .inl (cU, 300, .inl fu)), (a2, .inl (cL, 300, .inl fl))] s.heap.size = A at hD ⊢
  have hA : ∀ q : Nat, s.heap.size ≤ q → A q := fun q h => by rw [← hAe]; exact Or.inr h
  have hS : va_S A s.heap s.heap [] := va_S.rf
  have hl := lv_entry ([.ref ak, .int a, .int b]) (n := 5) (Nat.le_of_ble_eq_true rfl)
  rw [lg_entry_eq]
  generalize (lg_sl ([.ref ak, .int a, .int b]) ++ List.replicate (5 - (lg_sl ([.ref ak, .int a, .int b])).length) Slot.unset).toArray = ls at hl ⊢
  have hl : lv_has ls 5 [(0, .ref ak), (1, .int a), (2, .int b)] := hl
  refine lv_aload_n hx hb d_kr_less_0 rfl (lv_at hl 0 rfl) ?_
  refine va_get (D := (dC, dI)) (ci := 0) (v := .ref a0) (C := R_kr) (T := F_kr) (N := 6) hx hb hT i_kr hown hK hP 0 rfl rfl 3 (by decide) (hT _ k_19) (fun _ h9 => h9) rfl d_kr_less_1 ?_
  refine lv_iload_n hx hb d_kr_less_4 rfl (lv_at hl 1 rfl) ?_
  refine lv_iload_n hx hb d_kr_less_5 rfl (lv_at hl 2 rfl) ?_
  have hPc := hP.sub (ws' := [(a0, .inr (1, [.ref a1, .ref a2, .int cnt])), (a1, .inl (cU, 300, .inl fu)), (a2, .inl (cL, 300, .inl fl))]) [1, 2, 3] rfl
  have hKc := hK.sub (tys' := [(cU, .int), (cL, .int)]) [0, 1] rfl
  refine vp_callSi (W.runV (As := [.int a, .int b]) (rest := []) ⟨hx, hb, hml, hown, hT⟩ (c_kv_hasBoth l dC dI a0 a1 a2 cnt cU fu cL fl a b) (cwV 2 hT (kt_V k_23 k_21 k_22 k_2 k_20) rfl rfl rfl (by decide +kernel) ⟨Nat.le_of_ble_eq_true rfl, Nat.le_of_ble_eq_true rfl⟩) ⟨bl_R, va_recv hKc hPc (ci := 1) (q0 := 0) rfl rfl, fun U hU hW => ⟨rfl, by rw [hU]; exact hPc, va_K.moved hW.alike hKc⟩⟩ rfl rfl hl.1 rfl (lv_room (Nat.le_of_ble_eq_true rfl)) d_kr_less_6 ⟨Nat.zero_le _, Nat.zero_le _⟩) (fun r_1 e_r_1 => ?_)
  subst e_r_1
  refine lv_if_ne (tgt := 14) hx hb d_kr_less_9 (by decide) (fun c_2 => ?_) (fun c_2 => ?_)
  · refine lv_aload_n hx hb d_kr_less_14 rfl (lv_at hl 0 rfl) ?_
    refine va_get (D := (dC, dI)) (ci := 0) (v := .ref a0) (C := R_kr) (T := F_kr) (N := 6) hx hb hT i_kr hown hK hP 0 rfl rfl 3 (by decide) (hT _ k_19) (fun _ h9 => h9) rfl d_kr_less_15 ?_
    refine lv_iload_n hx hb d_kr_less_18 rfl (lv_at hl 1 rfl) ?_
    have hPc := hP.sub (ws' := [(a0, .inr (1, [.ref a1, .ref a2, .int cnt])), (a1, .inl (cU, 300, .inl fu)), (a2, .inl (cL, 300, .inl fl))]) [1, 2, 3] rfl
    have hKc := hK.sub (tys' := [(cU, .int), (cL, .int)]) [0, 1] rfl
    refine vp_callSl (W.runV (As := [.int a]) (rest := []) ⟨hx, hb, hml, hown, hT⟩ (c_kv_upper l dC dI a0 a1 a2 cnt cU fu cL fl a (in_hb1 hc c_2)) (cwV 1 hT (kt_V k_27 k_25 k_26 k_2 k_24) rfl rfl rfl (by decide +kernel) ⟨Nat.le_of_ble_eq_true rfl, Nat.le_of_ble_eq_true rfl⟩) ⟨bl_R, va_recv hKc hPc (ci := 1) (q0 := 0) rfl rfl, fun U hU hW => ⟨rfl, by rw [hU]; exact hPc, va_K.moved hW.alike hKc⟩⟩ rfl rfl hl.1 rfl (lv_room (Nat.le_of_ble_eq_true rfl)) d_kr_less_19 ⟨Nat.zero_le _, Nat.zero_le _⟩) (fun r_3 e_r_3 => ?_)
    subst e_r_3
    refine lv_aload_n hx hb d_kr_less_22 rfl (lv_at hl 0 rfl) ?_
    refine va_get (D := (dC, dI)) (ci := 0) (v := .ref a0) (C := R_kr) (T := F_kr) (N := 6) hx hb hT i_kr hown hK hP 0 rfl rfl 3 (by decide) (hT _ k_19) (fun _ h9 => h9) rfl d_kr_less_23 ?_
    refine lv_iload_n hx hb d_kr_less_26 rfl (lv_at hl 2 rfl) ?_
    have hPc := hP.sub (ws' := [(a0, .inr (1, [.ref a1, .ref a2, .int cnt])), (a1, .inl (cU, 300, .inl fu)), (a2, .inl (cL, 300, .inl fl))]) [1, 2, 3] rfl
    have hKc := hK.sub (tys' := [(cU, .int), (cL, .int)]) [0, 1] rfl
    refine vp_callSl (W.runV (As := [.int b]) (rest := [.long (f_kv_upper fu a)]) ⟨hx, hb, hml, hown, hT⟩ (c_kv_lower l dC dI a0 a1 a2 cnt cU fu cL fl b (in_hb2 hc c_2)) (cwV 1 hT (kt_V k_31 k_29 k_30 k_2 k_28) rfl rfl rfl (by decide +kernel) ⟨Nat.le_of_ble_eq_true rfl, Nat.le_of_ble_eq_true rfl⟩) ⟨bl_R, va_recv hKc hPc (ci := 1) (q0 := 0) rfl rfl, fun U hU hW => ⟨rfl, by rw [hU]; exact hPc, va_K.moved hW.alike hKc⟩⟩ rfl rfl hl.1 rfl (lv_room (Nat.le_of_ble_eq_true rfl)) d_kr_less_27 ⟨Nat.zero_le _, Nat.zero_le _⟩) (fun r_4 e_r_4 => ?_)
    subst e_r_4
    refine lv_lmul hx hb d_kr_less_30 ?_
    refine lv_aload_n hx hb d_kr_less_31 rfl (lv_at hl 0 rfl) ?_
    refine va_get (D := (dC, dI)) (ci := 0) (v := .ref a0) (C := R_kr) (T := F_kr) (N := 6) hx hb hT i_kr hown hK hP 0 rfl rfl 3 (by decide) (hT _ k_19) (fun _ h9 => h9) rfl d_kr_less_32 ?_
    refine lv_iload_n hx hb d_kr_less_35 rfl (lv_at hl 2 rfl) ?_
    have hPc := hP.sub (ws' := [(a0, .inr (1, [.ref a1, .ref a2, .int cnt])), (a1, .inl (cU, 300, .inl fu)), (a2, .inl (cL, 300, .inl fl))]) [1, 2, 3] rfl
    have hKc := hK.sub (tys' := [(cU, .int), (cL, .int)]) [0, 1] rfl
    refine vp_callSl (W.runV (As := [.int b]) (rest := [.long ((f_kv_upper fu a) * (f_kv_lower fl b))]) ⟨hx, hb, hml, hown, hT⟩ (c_kv_upper l dC dI a0 a1 a2 cnt cU fu cL fl b (in_hb2 hc c_2)) (cwV 1 hT (kt_V k_27 k_25 k_26 k_2 k_24) rfl rfl rfl (by decide +kernel) ⟨Nat.le_of_ble_eq_true rfl, Nat.le_of_ble_eq_true rfl⟩) ⟨bl_R, va_recv hKc hPc (ci := 1) (q0 := 0) rfl rfl, fun U hU hW => ⟨rfl, by rw [hU]; exact hPc, va_K.moved hW.alike hKc⟩⟩ rfl rfl hl.1 rfl (lv_room (Nat.le_of_ble_eq_true rfl)) d_kr_less_36 ⟨Nat.zero_le _, Nat.zero_le _⟩) (fun r_5 e_r_5 => ?_)
    subst e_r_5
    refine lv_aload_n hx hb d_kr_less_39 rfl (lv_at hl 0 rfl) ?_
    refine va_get (D := (dC, dI)) (ci := 0) (v := .ref a0) (C := R_kr) (T := F_kr) (N := 6) hx hb hT i_kr hown hK hP 0 rfl rfl 3 (by decide) (hT _ k_19) (fun _ h9 => h9) rfl d_kr_less_40 ?_
    refine lv_iload_n hx hb d_kr_less_43 rfl (lv_at hl 1 rfl) ?_
    have hPc := hP.sub (ws' := [(a0, .inr (1, [.ref a1, .ref a2, .int cnt])), (a1, .inl (cU, 300, .inl fu)), (a2, .inl (cL, 300, .inl fl))]) [1, 2, 3] rfl
    have hKc := hK.sub (tys' := [(cU, .int), (cL, .int)]) [0, 1] rfl
    refine vp_callSl (W.runV (As := [.int a]) (rest := [.long (f_kv_upper fu b), .long ((f_kv_upper fu a) * (f_kv_lower fl b))]) ⟨hx, hb, hml, hown, hT⟩ (c_kv_lower l dC dI a0 a1 a2 cnt cU fu cL fl a (in_hb1 hc c_2)) (cwV 1 hT (kt_V k_31 k_29 k_30 k_2 k_28) rfl rfl rfl (by decide +kernel) ⟨Nat.le_of_ble_eq_true rfl, Nat.le_of_ble_eq_true rfl⟩) ⟨bl_R, va_recv hKc hPc (ci := 1) (q0 := 0) rfl rfl, fun U hU hW => ⟨rfl, by rw [hU]; exact hPc, va_K.moved hW.alike hKc⟩⟩ rfl rfl hl.1 rfl (lv_room (Nat.le_of_ble_eq_true rfl)) d_kr_less_44 ⟨Nat.zero_le _, Nat.zero_le _⟩) (fun r_6 e_r_6 => ?_)
    subst e_r_6
    refine lv_lmul hx hb d_kr_less_47 ?_
    refine lv_lsub hx hb d_kr_less_48 ?_
    refine lv_lstore_n (lv' := [(3, .long (((f_kv_upper fu a) * (f_kv_lower fl b)) - ((f_kv_upper fu b) * (f_kv_lower fl a)))), (0, .ref ak), (1, .int a), (2, .int b)]) hx hb d_kr_less_49 rfl hl (by decide) rfl (fun ls hl => ?_)
    refine lv_aload_n hx hb d_kr_less_50 rfl (lv_at hl 1 rfl) ?_
    refine va_get (D := (dC, dI)) (ci := 0) (v := .ref a0) (C := R_kr) (T := F_kr) (N := 6) hx hb hT i_kr hown hK hP 0 rfl rfl 3 (by decide) (hT _ k_19) (fun _ h9 => h9) rfl d_kr_less_51 ?_
    refine lv_lload_n hx hb d_kr_less_54 rfl (lv_at hl 0 rfl) ?_
    refine lv_aload_n hx hb d_kr_less_55 rfl (lv_at hl 1 rfl) ?_
    refine va_get (D := (dC, dI)) (ci := 0) (v := .ref a0) (C := R_kr) (T := F_kr) (N := 6) hx hb hT i_kr hown hK hP 0 rfl rfl 3 (by decide) (hT _ k_19) (fun _ h9 => h9) rfl d_kr_less_56 ?_
    refine lv_iload_n hx hb d_kr_less_59 rfl (lv_at hl 2 rfl) ?_
    have hPc := hP.sub (ws' := [(a0, .inr (1, [.ref a1, .ref a2, .int cnt])), (a1, .inl (cU, 300, .inl fu)), (a2, .inl (cL, 300, .inl fl))]) [1, 2, 3] rfl
    have hKc := hK.sub (tys' := [(cU, .int), (cL, .int)]) [0, 1] rfl
    refine vp_callSl (W.runV (As := [.int a]) (rest := [.long (((f_kv_upper fu a) * (f_kv_lower fl b)) - ((f_kv_upper fu b) * (f_kv_lower fl a))), .ref a0]) ⟨hx, hb, hml, hown, hT⟩ (c_kv_lower l dC dI a0 a1 a2 cnt cU fu cL fl a (in_hb1 hc c_2)) (cwV 1 hT (kt_V k_31 k_29 k_30 k_2 k_28) rfl rfl rfl (by decide +kernel) ⟨Nat.le_of_ble_eq_true rfl, Nat.le_of_ble_eq_true rfl⟩) ⟨bl_R, va_recv hKc hPc (ci := 1) (q0 := 0) rfl rfl, fun U hU hW => ⟨rfl, by rw [hU]; exact hPc, va_K.moved hW.alike hKc⟩⟩ rfl rfl hl.1 rfl (lv_room (Nat.le_of_ble_eq_true rfl)) d_kr_less_60 ⟨Nat.zero_le _, Nat.zero_le _⟩) (fun r_7 e_r_7 => ?_)
    subst e_r_7
    refine lv_aload_n hx hb d_kr_less_63 rfl (lv_at hl 1 rfl) ?_
    refine va_get (D := (dC, dI)) (ci := 0) (v := .ref a0) (C := R_kr) (T := F_kr) (N := 6) hx hb hT i_kr hown hK hP 0 rfl rfl 3 (by decide) (hT _ k_19) (fun _ h9 => h9) rfl d_kr_less_64 ?_
    refine lv_iload_n hx hb d_kr_less_67 rfl (lv_at hl 3 rfl) ?_
    have hPc := hP.sub (ws' := [(a0, .inr (1, [.ref a1, .ref a2, .int cnt])), (a1, .inl (cU, 300, .inl fu)), (a2, .inl (cL, 300, .inl fl))]) [1, 2, 3] rfl
    have hKc := hK.sub (tys' := [(cU, .int), (cL, .int)]) [0, 1] rfl
    refine vp_callSl (W.runV (As := [.int b]) (rest := [.long (f_kv_lower fl a), .long (((f_kv_upper fu a) * (f_kv_lower fl b)) - ((f_kv_upper fu b) * (f_kv_lower fl a))), .ref a0]) ⟨hx, hb, hml, hown, hT⟩ (c_kv_lower l dC dI a0 a1 a2 cnt cU fu cL fl b (in_hb2 hc c_2)) (cwV 1 hT (kt_V k_31 k_29 k_30 k_2 k_28) rfl rfl rfl (by decide +kernel) ⟨Nat.le_of_ble_eq_true rfl, Nat.le_of_ble_eq_true rfl⟩) ⟨bl_R, va_recv hKc hPc (ci := 1) (q0 := 0) rfl rfl, fun U hU hW => ⟨rfl, by rw [hU]; exact hPc, va_K.moved hW.alike hKc⟩⟩ rfl rfl hl.1 rfl (lv_room (Nat.le_of_ble_eq_true rfl)) d_kr_less_68 ⟨Nat.zero_le _, Nat.zero_le _⟩) (fun r_8 e_r_8 => ?_)
    subst e_r_8
    refine lv_lmul hx hb d_kr_less_71 ?_
    have hPc := hP.sub (ws' := [(a0, .inr (1, [.ref a1, .ref a2, .int cnt])), (a1, .inl (cU, 300, .inl fu)), (a2, .inl (cL, 300, .inl fl))]) [1, 2, 3] rfl
    have hKc := hK.sub (tys' := [(cU, .int), (cL, .int)]) [0, 1] rfl
    have hDc := hD.sub (ws' := [(a0, .inr (1, [.ref a1, .ref a2, .int cnt])), (a1, .inl (cU, 300, .inl fu)), (a2, .inl (cL, 300, .inl fl))]) [1, 2, 3] (by decide) rfl
    have hFc := va_free (wc := [(a0, .inr (1, [.ref a1, .ref a2, .int cnt])), (a1, .inl (cU, 300, .inl fu)), (a2, .inl (cL, 300, .inl fl))]) hD hS hA [1, 2, 3] rfl
    refine va_calli (va_runV (As := [.long (((f_kv_upper fu a) * (f_kv_lower fl b)) - ((f_kv_upper fu b) * (f_kv_lower fl a))), .long ((f_kv_lower fl a) * (f_kv_lower fl b))]) (rest := []) ⟨hx, hb, hml, hown, hT⟩ (c_kv_keep l dC dI s.heap.size a0 a1 a2 cnt cU fu cL fl (((f_kv_upper fu a) * (f_kv_lower fl b)) - ((f_kv_upper fu b) * (f_kv_lower fl a))) ((f_kv_lower fl a) * (f_kv_lower fl b)) hc) (cwV 2 hT (kt_V k_35 k_33 k_34 k_2 k_32) rfl rfl rfl (by decide +kernel) ⟨Nat.le_of_ble_eq_true rfl, Nat.le_of_ble_eq_true rfl⟩) ⟨bl_MN, va_recv hKc hPc (ci := 1) (q0 := 0) rfl rfl, fun U hU hW => ⟨rfl, by rw [hU], by rw [hU]; exact hPc, va_K.moved hW.alike hKc, hDc.weaken (fun _ _ _ _ => trivial), kt_N.warm hW hN⟩⟩ rfl rfl hl.1 rfl (lv_room (Nat.le_of_ble_eq_true rfl)) d_kr_less_72 ⟨Nat.zero_le _, Nat.zero_le _⟩) hS (fun q _ h => hFc q h) hFc (fun r_9 u t H1 locs ht hvm hw hB hz1 hk1 hS => ?_)
    obtain ⟨fu_9, fl_9, cnt_9⟩ := u
    obtain ⟨hP1, hK1, hD1⟩ := hB
    rw [ht] at hP1
    obtain ⟨hP, hD⟩ := va_join (wr := [(ak, .inr (0, [.int kinds, .ref ac, .int rowc, .ref a0, .ref a_s, .ref a_w]))]) (w1 := [(a0, .inr (1, [.ref a1, .ref a2, .int cnt_9])), (a1, .inl (cU, 300, .inl fu_9)), (a2, .inl (cL, 300, .inl fl_9))]) hP hD [1, 2, 3] [0] rfl rfl (by decide) (by decide) hk1 hFc hP1 hD1
    generalize H1 = H at hP hS ⊢
    have hP := hP.sub (ws' := [(ak, .inr (0, [.int kinds, .ref ac, .int rowc, .ref a0, .ref a_s, .ref a_w])), (a0, .inr (1, [.ref a1, .ref a2, .int cnt_9])), (a1, .inl (cU, 300, .inl fu_9)), (a2, .inl (cL, 300, .inl fl_9))]) [0, 1, 2, 3] rfl
    have hD := hD.sub (ws' := [(ak, .inr (0, [.int kinds, .ref ac, .int rowc, .ref a0, .ref a_s, .ref a_w])), (a0, .inr (1, [.ref a1, .ref a2, .int cnt_9])), (a1, .inl (cU, 300, .inl fu_9)), (a2, .inl (cL, 300, .inl fl_9))]) [0, 1, 2, 3] (by decide) rfl
    have e_r_9 : r_9 = (f_kv_keep cnt fu fl (((f_kv_upper fu a) * (f_kv_lower fl b)) - ((f_kv_upper fu b) * (f_kv_lower fl a))) ((f_kv_lower fl a) * (f_kv_lower fl b))).1 := congrArg (fun z => z.1) hw
    have e_fu_9 : fu_9 = (f_kv_keep cnt fu fl (((f_kv_upper fu a) * (f_kv_lower fl b)) - ((f_kv_upper fu b) * (f_kv_lower fl a))) ((f_kv_lower fl a) * (f_kv_lower fl b))).2.1 := congrArg (fun z => z.2.1) hw
    have e_fl_9 : fl_9 = (f_kv_keep cnt fu fl (((f_kv_upper fu a) * (f_kv_lower fl b)) - ((f_kv_upper fu b) * (f_kv_lower fl a))) ((f_kv_lower fl a) * (f_kv_lower fl b))).2.2.1 := congrArg (fun z => z.2.2.1) hw
    have e_cnt_9 : cnt_9 = (f_kv_keep cnt fu fl (((f_kv_upper fu a) * (f_kv_lower fl b)) - ((f_kv_upper fu b) * (f_kv_lower fl a))) ((f_kv_lower fl a) * (f_kv_lower fl b))).2.2.2 := congrArg (fun z => z.2.2.2) hw
    subst e_r_9 e_fu_9 e_fl_9 e_cnt_9
    clear hP1 hK1 hD1 hk1 hz1 hFc hDc hPc hKc
    exact W.iret (v := (f_kv_keep cnt fu fl (((f_kv_upper fu a) * (f_kv_lower fl b)) - ((f_kv_upper fu b) * (f_kv_lower fl a))) ((f_kv_lower fl a) * (f_kv_lower fl b))).1) hx hb hr (fun t ht hW => ⟨⟨(f_kv_keep cnt fu fl (((f_kv_upper fu a) * (f_kv_lower fl b)) - ((f_kv_upper fu b) * (f_kv_lower fl a))) ((f_kv_lower fl a) * (f_kv_lower fl b))).1, ((f_kv_keep cnt fu fl (((f_kv_upper fu a) * (f_kv_lower fl b)) - ((f_kv_upper fu b) * (f_kv_lower fl a))) ((f_kv_lower fl a) * (f_kv_lower fl b))).2.1, (f_kv_keep cnt fu fl (((f_kv_upper fu a) * (f_kv_lower fl b)) - ((f_kv_upper fu b) * (f_kv_lower fl a))) ((f_kv_lower fl a) * (f_kv_lower fl b))).2.2.1, (f_kv_keep cnt fu fl (((f_kv_upper fu a) * (f_kv_lower fl b)) - ((f_kv_upper fu b) * (f_kv_lower fl a))) ((f_kv_lower fl a) * (f_kv_lower fl b))).2.2.2), rfl, by unfold f_kr_less; rw [if_neg c_2], by rw [ht]; exact hP, va_K.moved hW.alike hK, hD⟩, hS.F ht⟩) hS.2.2 d_kr_less_75
  · refine lv_iconst (v := (-1)) hx hb d_kr_less_12 (by decide) ?_
    exact W.iret (v := (-1)) hx hb hr (fun t ht hW => ⟨⟨(-1), (fu, fl, cnt), rfl, by unfold f_kr_less; rw [if_pos c_2], by rw [ht]; exact hP, va_K.moved hW.alike hK, hD⟩, hS.F ht⟩) hS.2.2 d_kr_less_13
def f_kr_times (cnt : Int32) (fu : Nat → Int32) (fl : Nat → Int32) (a : Int32) (b : Int32) : Int32 × (Nat → Int32) × (Nat → Int32) × Int32 :=
  if (f_kv_hasBoth cnt a b) = 0 then ((-1), fu, fl, cnt) else (f_kv_keep cnt fu fl ((f_kv_upper fu a) * (f_kv_upper fu b)) ((f_kv_lower fl a) * (f_kv_lower fl b)))
set_option maxHeartbeats 4000000 in
set_option maxRecDepth 100000 in
theorem c_kr_times (l : Launch) (dC : Nat → ClassId) (dI : Nat → Nat → Nat) (sz : Nat) (ak : Nat) (a0 : Nat) (a1 : Nat) (a2 : Nat) (kinds : Int32) (ac : Nat) (rowc : Int32) (a_s : Nat) (a_w : Nat) (cnt : Int32) (cU : ClassId) (fu : Nat → Int32) (cL : ClassId) (fl : Nat → Int32) (a : Int32) (b : Int32) (hc : vp_in cnt 301) : Met l y_kr_times w_kr_times ({ frames := 2, cells := 0, slots := 0, locals := 60 }) (va_Pc [.ref ak, .int a, .int b] (fun U => U.heap.size = sz ∧ va_P (dC, dI) classes [(ak, .inr (0, [.int kinds, .ref ac, .int rowc, .ref a0, .ref a_s, .ref a_w])), (a0, .inr (1, [.ref a1, .ref a2, .int cnt])), (a1, .inl (cU, 300, .inl fu)), (a2, .inl (cL, 300, .inl fl))] U.heap ∧ va_K (dC, dI) classes [(cU, .int), (cL, .int)] U ∧ va_D (fun _ => True) [(ak, .inr (0, [.int kinds, .ref ac, .int rowc, .ref a0, .ref a_s, .ref a_w])), (a0, .inr (1, [.ref a1, .ref a2, .int cnt])), (a1, .inl (cU, 300, .inl fu)), (a2, .inl (cL, 300, .inl fl))] ∧ kt_N U)) (va_Qi (fun z9 u9 => (z9, u9) = f_kr_times cnt fu fl a b) (fun (u : (Nat → Int32) × (Nat → Int32) × Int32) t => match u with | (fu', fl', cnt') => va_P (dC, dI) classes [(ak, .inr (0, [.int kinds, .ref ac, .int rowc, .ref a0, .ref a_s, .ref a_w])), (a0, .inr (1, [.ref a1, .ref a2, .int cnt'])), (a1, .inl (cU, 300, .inl fu')), (a2, .inl (cL, 300, .inl fl'))] t.heap ∧ va_K (dC, dI) classes [(cU, .int), (cL, .int)] t ∧ va_D (va_A [(ak, .inr (0, [.int kinds, .ref ac, .int rowc, .ref a0, .ref a_s, .ref a_w])), (a0, .inr (1, [.ref a1, .ref a2, .int cnt])), (a1, .inl (cU, 300, .inl fu)), (a2, .inl (cL, 300, .inl fl))] sz) [(ak, .inr (0, [.int kinds, .ref ac, .int rowc, .ref a0, .ref a_s, .ref a_w])), (a0, .inr (1, [.ref a1, .ref a2, .int cnt'])), (a1, .inl (cU, 300, .inl fu')), (a2, .inl (cL, 300, .inl fl'))]) (va_A [(ak, .inr (0, [.int kinds, .ref ac, .int rowc, .ref a0, .ref a_s, .ref a_w])), (a0, .inr (1, [.ref a1, .ref a2, .int cnt])), (a1, .inl (cU, 300, .inl fu)), (a2, .inl (cL, 300, .inl fl))] sz)) 0 0 (va_A [(ak, .inr (0, [.int kinds, .ref ac, .int rowc, .ref a0, .ref a_s, .ref a_w])), (a0, .inr (1, [.ref a1, .ref a2, .int cnt])), (a1, .inl (cU, 300, .inl fu)), (a2, .inl (cL, 300, .inl fl))] sz) := by
  refine Met.ofW (cc := b_kr_times) (maxL := 3) (ret := (some .int)) (by decide +kernel) rfl ?_
  intro p e s m args below meth c s₁ B hml hv
  obtain ⟨rfl, hsz, hP, hK, hD0, hN⟩ := hv
  have hx := B.exec
  have hb := B.bytes
  have hr := B.returns
  have hts := atoms_spec (ws := w_kr_times) B.pre
  have hT := fun (w : Cond) (h : w ∈ kt_T) => hts w (List.mem_cons_of_mem _ h)
  have hown : s.vm.findClass R_kr = some m.cls := findClass_of_methodNamed B.named
  have hlocks := B.notSynchronized
  subst hsz
  have hD := hD0.self (sz := s.heap.size)
  generalize hAe : va_A [(ak, .inr (0, [.int kinds, .ref ac, .int rowc, .ref a0, .ref a_s, .ref a_w])), (a0, .inr (1, [.ref a1, .ref a2, .int cnt])), (a1, .inl (cU, 300, .inl fu)), (a2, .inl (cL, 300, .inl fl))] s.heap.size = A at hD ⊢
  have hA : ∀ q : Nat, s.heap.size ≤ q → A q := fun q h => by rw [← hAe]; exact Or.inr h
  have hS : va_S A s.heap s.heap [] := va_S.rf
  have hl := lv_entry ([.ref ak, .int a, .int b]) (n := 3) (Nat.le_of_ble_eq_true rfl)
  rw [lg_entry_eq]
  generalize (lg_sl ([.ref ak, .int a, .int b]) ++ List.replicate (3 - (lg_sl ([.ref ak, .int a, .int b])).length) Slot.unset).toArray = ls at hl ⊢
  have hl : lv_has ls 3 [(0, .ref ak), (1, .int a), (2, .int b)] := hl
  refine lv_aload_n hx hb d_kr_times_0 rfl (lv_at hl 0 rfl) ?_
  refine va_get (D := (dC, dI)) (ci := 0) (v := .ref a0) (C := R_kr) (T := F_kr) (N := 6) hx hb hT i_kr hown hK hP 0 rfl rfl 3 (by decide) (hT _ k_19) (fun _ h9 => h9) rfl d_kr_times_1 ?_
  refine lv_iload_n hx hb d_kr_times_4 rfl (lv_at hl 1 rfl) ?_
  refine lv_iload_n hx hb d_kr_times_5 rfl (lv_at hl 2 rfl) ?_
  have hPc := hP.sub (ws' := [(a0, .inr (1, [.ref a1, .ref a2, .int cnt])), (a1, .inl (cU, 300, .inl fu)), (a2, .inl (cL, 300, .inl fl))]) [1, 2, 3] rfl
  have hKc := hK.sub (tys' := [(cU, .int), (cL, .int)]) [0, 1] rfl
  refine vp_callSi (W.runV (As := [.int a, .int b]) (rest := []) ⟨hx, hb, hml, hown, hT⟩ (c_kv_hasBoth l dC dI a0 a1 a2 cnt cU fu cL fl a b) (cwV 2 hT (kt_V k_23 k_21 k_22 k_2 k_20) rfl rfl rfl (by decide +kernel) ⟨Nat.le_of_ble_eq_true rfl, Nat.le_of_ble_eq_true rfl⟩) ⟨bl_R, va_recv hKc hPc (ci := 1) (q0 := 0) rfl rfl, fun U hU hW => ⟨rfl, by rw [hU]; exact hPc, va_K.moved hW.alike hKc⟩⟩ rfl rfl hl.1 rfl (lv_room (Nat.le_of_ble_eq_true rfl)) d_kr_times_6 ⟨Nat.zero_le _, Nat.zero_le _⟩) (fun r_1 e_r_1 => ?_)
  subst e_r_1
  refine lv_if_ne (tgt := 14) hx hb d_kr_times_9 (by decide) (fun c_2 => ?_) (fun c_2 => ?_)
  · refine lv_aload_n hx hb d_kr_times_14 rfl (lv_at hl 0 rfl) ?_
    refine va_get (D := (dC, dI)) (ci := 0) (v := .ref a0) (C := R_kr) (T := F_kr) (N := 6) hx hb hT i_kr hown hK hP 0 rfl rfl 3 (by decide) (hT _ k_19) (fun _ h9 => h9) rfl d_kr_times_15 ?_
    refine lv_aload_n hx hb d_kr_times_18 rfl (lv_at hl 0 rfl) ?_
    refine va_get (D := (dC, dI)) (ci := 0) (v := .ref a0) (C := R_kr) (T := F_kr) (N := 6) hx hb hT i_kr hown hK hP 0 rfl rfl 3 (by decide) (hT _ k_19) (fun _ h9 => h9) rfl d_kr_times_19 ?_
    refine lv_iload_n hx hb d_kr_times_22 rfl (lv_at hl 1 rfl) ?_
    have hPc := hP.sub (ws' := [(a0, .inr (1, [.ref a1, .ref a2, .int cnt])), (a1, .inl (cU, 300, .inl fu)), (a2, .inl (cL, 300, .inl fl))]) [1, 2, 3] rfl
    have hKc := hK.sub (tys' := [(cU, .int), (cL, .int)]) [0, 1] rfl
    refine vp_callSl (W.runV (As := [.int a]) (rest := [.ref a0]) ⟨hx, hb, hml, hown, hT⟩ (c_kv_upper l dC dI a0 a1 a2 cnt cU fu cL fl a (in_hb1 hc c_2)) (cwV 1 hT (kt_V k_27 k_25 k_26 k_2 k_24) rfl rfl rfl (by decide +kernel) ⟨Nat.le_of_ble_eq_true rfl, Nat.le_of_ble_eq_true rfl⟩) ⟨bl_R, va_recv hKc hPc (ci := 1) (q0 := 0) rfl rfl, fun U hU hW => ⟨rfl, by rw [hU]; exact hPc, va_K.moved hW.alike hKc⟩⟩ rfl rfl hl.1 rfl (lv_room (Nat.le_of_ble_eq_true rfl)) d_kr_times_23 ⟨Nat.zero_le _, Nat.zero_le _⟩) (fun r_3 e_r_3 => ?_)
    subst e_r_3
    refine lv_aload_n hx hb d_kr_times_26 rfl (lv_at hl 0 rfl) ?_
    refine va_get (D := (dC, dI)) (ci := 0) (v := .ref a0) (C := R_kr) (T := F_kr) (N := 6) hx hb hT i_kr hown hK hP 0 rfl rfl 3 (by decide) (hT _ k_19) (fun _ h9 => h9) rfl d_kr_times_27 ?_
    refine lv_iload_n hx hb d_kr_times_30 rfl (lv_at hl 2 rfl) ?_
    have hPc := hP.sub (ws' := [(a0, .inr (1, [.ref a1, .ref a2, .int cnt])), (a1, .inl (cU, 300, .inl fu)), (a2, .inl (cL, 300, .inl fl))]) [1, 2, 3] rfl
    have hKc := hK.sub (tys' := [(cU, .int), (cL, .int)]) [0, 1] rfl
    refine vp_callSl (W.runV (As := [.int b]) (rest := [.long (f_kv_upper fu a), .ref a0]) ⟨hx, hb, hml, hown, hT⟩ (c_kv_upper l dC dI a0 a1 a2 cnt cU fu cL fl b (in_hb2 hc c_2)) (cwV 1 hT (kt_V k_27 k_25 k_26 k_2 k_24) rfl rfl rfl (by decide +kernel) ⟨Nat.le_of_ble_eq_true rfl, Nat.le_of_ble_eq_true rfl⟩) ⟨bl_R, va_recv hKc hPc (ci := 1) (q0 := 0) rfl rfl, fun U hU hW => ⟨rfl, by rw [hU]; exact hPc, va_K.moved hW.alike hKc⟩⟩ rfl rfl hl.1 rfl (lv_room (Nat.le_of_ble_eq_true rfl)) d_kr_times_31 ⟨Nat.zero_le _, Nat.zero_le _⟩) (fun r_4 e_r_4 => ?_)
    subst e_r_4
    refine lv_lmul hx hb d_kr_times_34 ?_
    refine lv_aload_n hx hb d_kr_times_35 rfl (lv_at hl 0 rfl) ?_
    refine va_get (D := (dC, dI)) (ci := 0) (v := .ref a0) (C := R_kr) (T := F_kr) (N := 6) hx hb hT i_kr hown hK hP 0 rfl rfl 3 (by decide) (hT _ k_19) (fun _ h9 => h9) rfl d_kr_times_36 ?_
    refine lv_iload_n hx hb d_kr_times_39 rfl (lv_at hl 1 rfl) ?_
    have hPc := hP.sub (ws' := [(a0, .inr (1, [.ref a1, .ref a2, .int cnt])), (a1, .inl (cU, 300, .inl fu)), (a2, .inl (cL, 300, .inl fl))]) [1, 2, 3] rfl
    have hKc := hK.sub (tys' := [(cU, .int), (cL, .int)]) [0, 1] rfl
    refine vp_callSl (W.runV (As := [.int a]) (rest := [.long ((f_kv_upper fu a) * (f_kv_upper fu b)), .ref a0]) ⟨hx, hb, hml, hown, hT⟩ (c_kv_lower l dC dI a0 a1 a2 cnt cU fu cL fl a (in_hb1 hc c_2)) (cwV 1 hT (kt_V k_31 k_29 k_30 k_2 k_28) rfl rfl rfl (by decide +kernel) ⟨Nat.le_of_ble_eq_true rfl, Nat.le_of_ble_eq_true rfl⟩) ⟨bl_R, va_recv hKc hPc (ci := 1) (q0 := 0) rfl rfl, fun U hU hW => ⟨rfl, by rw [hU]; exact hPc, va_K.moved hW.alike hKc⟩⟩ rfl rfl hl.1 rfl (lv_room (Nat.le_of_ble_eq_true rfl)) d_kr_times_40 ⟨Nat.zero_le _, Nat.zero_le _⟩) (fun r_5 e_r_5 => ?_)
    subst e_r_5
    refine lv_aload_n hx hb d_kr_times_43 rfl (lv_at hl 0 rfl) ?_
    refine va_get (D := (dC, dI)) (ci := 0) (v := .ref a0) (C := R_kr) (T := F_kr) (N := 6) hx hb hT i_kr hown hK hP 0 rfl rfl 3 (by decide) (hT _ k_19) (fun _ h9 => h9) rfl d_kr_times_44 ?_
    refine lv_iload_n hx hb d_kr_times_47 rfl (lv_at hl 2 rfl) ?_
    have hPc := hP.sub (ws' := [(a0, .inr (1, [.ref a1, .ref a2, .int cnt])), (a1, .inl (cU, 300, .inl fu)), (a2, .inl (cL, 300, .inl fl))]) [1, 2, 3] rfl
    have hKc := hK.sub (tys' := [(cU, .int), (cL, .int)]) [0, 1] rfl
    refine vp_callSl (W.runV (As := [.int b]) (rest := [.long (f_kv_lower fl a), .long ((f_kv_upper fu a) * (f_kv_upper fu b)), .ref a0]) ⟨hx, hb, hml, hown, hT⟩ (c_kv_lower l dC dI a0 a1 a2 cnt cU fu cL fl b (in_hb2 hc c_2)) (cwV 1 hT (kt_V k_31 k_29 k_30 k_2 k_28) rfl rfl rfl (by decide +kernel) ⟨Nat.le_of_ble_eq_true rfl, Nat.le_of_ble_eq_true rfl⟩) ⟨bl_R, va_recv hKc hPc (ci := 1) (q0 := 0) rfl rfl, fun U hU hW => ⟨rfl, by rw [hU]; exact hPc, va_K.moved hW.alike hKc⟩⟩ rfl rfl hl.1 rfl (lv_room (Nat.le_of_ble_eq_true rfl)) d_kr_times_48 ⟨Nat.zero_le _, Nat.zero_le _⟩) (fun r_6 e_r_6 => ?_)
    subst e_r_6
    refine lv_lmul hx hb d_kr_times_51 ?_
    have hPc := hP.sub (ws' := [(a0, .inr (1, [.ref a1, .ref a2, .int cnt])), (a1, .inl (cU, 300, .inl fu)), (a2, .inl (cL, 300, .inl fl))]) [1, 2, 3] rfl
    have hKc := hK.sub (tys' := [(cU, .int), (cL, .int)]) [0, 1] rfl
    have hDc := hD.sub (ws' := [(a0, .inr (1, [.ref a1, .ref a2, .int cnt])), (a1, .inl (cU, 300, .inl fu)), (a2, .inl (cL, 300, .inl fl))]) [1, 2, 3] (by decide) rfl
    have hFc := va_free (wc := [(a0, .inr (1, [.ref a1, .ref a2, .int cnt])), (a1, .inl (cU, 300, .inl fu)), (a2, .inl (cL, 300, .inl fl))]) hD hS hA [1, 2, 3] rfl
    refine va_calli (va_runV (As := [.long ((f_kv_upper fu a) * (f_kv_upper fu b)), .long ((f_kv_lower fl a) * (f_kv_lower fl b))]) (rest := []) ⟨hx, hb, hml, hown, hT⟩ (c_kv_keep l dC dI s.heap.size a0 a1 a2 cnt cU fu cL fl ((f_kv_upper fu a) * (f_kv_upper fu b)) ((f_kv_lower fl a) * (f_kv_lower fl b)) hc) (cwV 2 hT (kt_V k_35 k_33 k_34 k_2 k_32) rfl rfl rfl (by decide +kernel) ⟨Nat.le_of_ble_eq_true rfl, Nat.le_of_ble_eq_true rfl⟩) ⟨bl_MN, va_recv hKc hPc (ci := 1) (q0 := 0) rfl rfl, fun U hU hW => ⟨rfl, by rw [hU], by rw [hU]; exact hPc, va_K.moved hW.alike hKc, hDc.weaken (fun _ _ _ _ => trivial), kt_N.warm hW hN⟩⟩ rfl rfl hl.1 rfl (lv_room (Nat.le_of_ble_eq_true rfl)) d_kr_times_52 ⟨Nat.zero_le _, Nat.zero_le _⟩) hS (fun q _ h => hFc q h) hFc (fun r_7 u t H1 locs ht hvm hw hB hz1 hk1 hS => ?_)
    obtain ⟨fu_7, fl_7, cnt_7⟩ := u
    obtain ⟨hP1, hK1, hD1⟩ := hB
    rw [ht] at hP1
    obtain ⟨hP, hD⟩ := va_join (wr := [(ak, .inr (0, [.int kinds, .ref ac, .int rowc, .ref a0, .ref a_s, .ref a_w]))]) (w1 := [(a0, .inr (1, [.ref a1, .ref a2, .int cnt_7])), (a1, .inl (cU, 300, .inl fu_7)), (a2, .inl (cL, 300, .inl fl_7))]) hP hD [1, 2, 3] [0] rfl rfl (by decide) (by decide) hk1 hFc hP1 hD1
    generalize H1 = H at hP hS ⊢
    have hP := hP.sub (ws' := [(ak, .inr (0, [.int kinds, .ref ac, .int rowc, .ref a0, .ref a_s, .ref a_w])), (a0, .inr (1, [.ref a1, .ref a2, .int cnt_7])), (a1, .inl (cU, 300, .inl fu_7)), (a2, .inl (cL, 300, .inl fl_7))]) [0, 1, 2, 3] rfl
    have hD := hD.sub (ws' := [(ak, .inr (0, [.int kinds, .ref ac, .int rowc, .ref a0, .ref a_s, .ref a_w])), (a0, .inr (1, [.ref a1, .ref a2, .int cnt_7])), (a1, .inl (cU, 300, .inl fu_7)), (a2, .inl (cL, 300, .inl fl_7))]) [0, 1, 2, 3] (by decide) rfl
    have e_r_7 : r_7 = (f_kv_keep cnt fu fl ((f_kv_upper fu a) * (f_kv_upper fu b)) ((f_kv_lower fl a) * (f_kv_lower fl b))).1 := congrArg (fun z => z.1) hw
    have e_fu_7 : fu_7 = (f_kv_keep cnt fu fl ((f_kv_upper fu a) * (f_kv_upper fu b)) ((f_kv_lower fl a) * (f_kv_lower fl b))).2.1 := congrArg (fun z => z.2.1) hw
    have e_fl_7 : fl_7 = (f_kv_keep cnt fu fl ((f_kv_upper fu a) * (f_kv_upper fu b)) ((f_kv_lower fl a) * (f_kv_lower fl b))).2.2.1 := congrArg (fun z => z.2.2.1) hw
    have e_cnt_7 : cnt_7 = (f_kv_keep cnt fu fl ((f_kv_upper fu a) * (f_kv_upper fu b)) ((f_kv_lower fl a) * (f_kv_lower fl b))).2.2.2 := congrArg (fun z => z.2.2.2) hw
    subst e_r_7 e_fu_7 e_fl_7 e_cnt_7
    clear hP1 hK1 hD1 hk1 hz1 hFc hDc hPc hKc
    exact W.iret (v := (f_kv_keep cnt fu fl ((f_kv_upper fu a) * (f_kv_upper fu b)) ((f_kv_lower fl a) * (f_kv_lower fl b))).1) hx hb hr (fun t ht hW => ⟨⟨(f_kv_keep cnt fu fl ((f_kv_upper fu a) * (f_kv_upper fu b)) ((f_kv_lower fl a) * (f_kv_lower fl b))).1, ((f_kv_keep cnt fu fl ((f_kv_upper fu a) * (f_kv_upper fu b)) ((f_kv_lower fl a) * (f_kv_lower fl b))).2.1, (f_kv_keep cnt fu fl ((f_kv_upper fu a) * (f_kv_upper fu b)) ((f_kv_lower fl a) * (f_kv_lower fl b))).2.2.1, (f_kv_keep cnt fu fl ((f_kv_upper fu a) * (f_kv_upper fu b)) ((f_kv_lower fl a) * (f_kv_lower fl b))).2.2.2), rfl, by unfold f_kr_times; rw [if_neg c_2], by rw [ht]; exact hP, va_K.moved hW.alike hK, hD⟩, hS.F ht⟩) hS.2.2 d_kr_times_55
  · refine lv_iconst (v := (-1)) hx hb d_kr_times_12 (by decide) ?_
    exact W.iret (v := (-1)) hx hb hr (fun t ht hW => ⟨⟨(-1), (fu, fl, cnt), rfl, by unfold f_kr_times; rw [if_pos c_2], by rw [ht]; exact hP, va_K.moved hW.alike hK, hD⟩, hS.F ht⟩) hS.2.2 d_kr_times_13
def f_kr_order (cnt : Int32) (fu : Nat → Int32) (fl : Nat → Int32) (a : Int32) (b : Int32) : Int32 :=
  if (f_kv_hasBoth cnt a b) = 0 then (-2) else if ((f_kv_upper fu a) * (f_kv_lower fl b)) = ((f_kv_upper fu b) * (f_kv_lower fl a)) then 0 else if ((f_kv_upper fu b) * (f_kv_lower fl a)) ≤ ((f_kv_upper fu a) * (f_kv_lower fl b)) then 1 else (-1)
set_option maxHeartbeats 4000000 in
set_option maxRecDepth 100000 in
theorem c_kr_order (l : Launch) (dC : Nat → ClassId) (dI : Nat → Nat → Nat) (ak : Nat) (a0 : Nat) (a1 : Nat) (a2 : Nat) (kinds : Int32) (ac : Nat) (rowc : Int32) (a_s : Nat) (a_w : Nat) (cnt : Int32) (cU : ClassId) (fu : Nat → Int32) (cL : ClassId) (fl : Nat → Int32) (a : Int32) (b : Int32) (hc : vp_in cnt 301) : Met l y_kr_order w_kr_order ({ frames := 2, cells := 0, slots := 0, locals := 43 }) (va_Pc [.ref ak, .int a, .int b] (fun U => va_P (dC, dI) classes [(ak, .inr (0, [.int kinds, .ref ac, .int rowc, .ref a0, .ref a_s, .ref a_w])), (a0, .inr (1, [.ref a1, .ref a2, .int cnt])), (a1, .inl (cU, 300, .inl fu)), (a2, .inl (cL, 300, .inl fl))] U.heap ∧ va_K (dC, dI) classes [(cU, .int), (cL, .int)] U)) (vp_Si (fun z9 => z9 = f_kr_order cnt fu fl a b)) 0 0 (fun _ => False) := by
  refine Met.ofW (cc := b_kr_order) (maxL := 7) (ret := (some .int)) (by decide +kernel) rfl ?_
  intro p e s m args below meth c s₁ B hml hv
  obtain ⟨rfl, hP, hK⟩ := hv
  have hx := B.exec
  have hb := B.bytes
  have hr := B.returns
  have hts := atoms_spec (ws := w_kr_order) B.pre
  have hT := fun (w : Cond) (h : w ∈ kt_T) => hts w (List.mem_cons_of_mem _ h)
  have hown : s.vm.findClass R_kr = some m.cls := findClass_of_methodNamed B.named
  have hlocks := B.notSynchronized
  have hl := lv_entry ([.ref ak, .int a, .int b]) (n := 7) (Nat.le_of_ble_eq_true rfl)
  rw [lg_entry_eq]
  generalize (lg_sl ([.ref ak, .int a, .int b]) ++ List.replicate (7 - (lg_sl ([.ref ak, .int a, .int b])).length) Slot.unset).toArray = ls at hl ⊢
  have hl : lv_has ls 7 [(0, .ref ak), (1, .int a), (2, .int b)] := hl
  refine lv_aload_n hx hb d_kr_order_0 rfl (lv_at hl 0 rfl) ?_
  refine va_get (D := (dC, dI)) (ci := 0) (v := .ref a0) (C := R_kr) (T := F_kr) (N := 6) hx hb hT i_kr hown hK hP 0 rfl rfl 3 (by decide) (hT _ k_19) (fun _ h9 => h9) rfl d_kr_order_1 ?_
  refine lv_iload_n hx hb d_kr_order_4 rfl (lv_at hl 1 rfl) ?_
  refine lv_iload_n hx hb d_kr_order_5 rfl (lv_at hl 2 rfl) ?_
  have hPc := hP.sub (ws' := [(a0, .inr (1, [.ref a1, .ref a2, .int cnt])), (a1, .inl (cU, 300, .inl fu)), (a2, .inl (cL, 300, .inl fl))]) [1, 2, 3] rfl
  have hKc := hK.sub (tys' := [(cU, .int), (cL, .int)]) [0, 1] rfl
  refine vp_callSi (W.runV (As := [.int a, .int b]) (rest := []) ⟨hx, hb, hml, hown, hT⟩ (c_kv_hasBoth l dC dI a0 a1 a2 cnt cU fu cL fl a b) (cwV 2 hT (kt_V k_23 k_21 k_22 k_2 k_20) rfl rfl rfl (by decide +kernel) ⟨Nat.le_of_ble_eq_true rfl, Nat.le_of_ble_eq_true rfl⟩) ⟨bl_R, va_recv hKc hPc (ci := 1) (q0 := 0) rfl rfl, fun U hU hW => ⟨rfl, by rw [hU]; exact hPc, va_K.moved hW.alike hKc⟩⟩ rfl rfl hl.1 rfl (lv_room (Nat.le_of_ble_eq_true rfl)) d_kr_order_6 ⟨Nat.zero_le _, Nat.zero_le _⟩) (fun r_1 e_r_1 => ?_)
  subst e_r_1
  refine lv_if_ne (tgt := 15) hx hb d_kr_order_9 (by decide) (fun c_2 => ?_) (fun c_2 => ?_)
  · refine lv_aload_n hx hb d_kr_order_15 rfl (lv_at hl 0 rfl) ?_
    refine va_get (D := (dC, dI)) (ci := 0) (v := .ref a0) (C := R_kr) (T := F_kr) (N := 6) hx hb hT i_kr hown hK hP 0 rfl rfl 3 (by decide) (hT _ k_19) (fun _ h9 => h9) rfl d_kr_order_16 ?_
    refine lv_iload_n hx hb d_kr_order_19 rfl (lv_at hl 1 rfl) ?_
    have hPc := hP.sub (ws' := [(a0, .inr (1, [.ref a1, .ref a2, .int cnt])), (a1, .inl (cU, 300, .inl fu)), (a2, .inl (cL, 300, .inl fl))]) [1, 2, 3] rfl
    have hKc := hK.sub (tys' := [(cU, .int), (cL, .int)]) [0, 1] rfl
    refine vp_callSl (W.runV (As := [.int a]) (rest := []) ⟨hx, hb, hml, hown, hT⟩ (c_kv_upper l dC dI a0 a1 a2 cnt cU fu cL fl a (in_hb1 hc c_2)) (cwV 1 hT (kt_V k_27 k_25 k_26 k_2 k_24) rfl rfl rfl (by decide +kernel) ⟨Nat.le_of_ble_eq_true rfl, Nat.le_of_ble_eq_true rfl⟩) ⟨bl_R, va_recv hKc hPc (ci := 1) (q0 := 0) rfl rfl, fun U hU hW => ⟨rfl, by rw [hU]; exact hPc, va_K.moved hW.alike hKc⟩⟩ rfl rfl hl.1 rfl (lv_room (Nat.le_of_ble_eq_true rfl)) d_kr_order_20 ⟨Nat.zero_le _, Nat.zero_le _⟩) (fun r_3 e_r_3 => ?_)
    subst e_r_3
    refine lv_aload_n hx hb d_kr_order_23 rfl (lv_at hl 0 rfl) ?_
    refine va_get (D := (dC, dI)) (ci := 0) (v := .ref a0) (C := R_kr) (T := F_kr) (N := 6) hx hb hT i_kr hown hK hP 0 rfl rfl 3 (by decide) (hT _ k_19) (fun _ h9 => h9) rfl d_kr_order_24 ?_
    refine lv_iload_n hx hb d_kr_order_27 rfl (lv_at hl 2 rfl) ?_
    have hPc := hP.sub (ws' := [(a0, .inr (1, [.ref a1, .ref a2, .int cnt])), (a1, .inl (cU, 300, .inl fu)), (a2, .inl (cL, 300, .inl fl))]) [1, 2, 3] rfl
    have hKc := hK.sub (tys' := [(cU, .int), (cL, .int)]) [0, 1] rfl
    refine vp_callSl (W.runV (As := [.int b]) (rest := [.long (f_kv_upper fu a)]) ⟨hx, hb, hml, hown, hT⟩ (c_kv_lower l dC dI a0 a1 a2 cnt cU fu cL fl b (in_hb2 hc c_2)) (cwV 1 hT (kt_V k_31 k_29 k_30 k_2 k_28) rfl rfl rfl (by decide +kernel) ⟨Nat.le_of_ble_eq_true rfl, Nat.le_of_ble_eq_true rfl⟩) ⟨bl_R, va_recv hKc hPc (ci := 1) (q0 := 0) rfl rfl, fun U hU hW => ⟨rfl, by rw [hU]; exact hPc, va_K.moved hW.alike hKc⟩⟩ rfl rfl hl.1 rfl (lv_room (Nat.le_of_ble_eq_true rfl)) d_kr_order_28 ⟨Nat.zero_le _, Nat.zero_le _⟩) (fun r_4 e_r_4 => ?_)
    subst e_r_4
    refine lv_lmul hx hb d_kr_order_31 ?_
    refine lv_lstore_n (lv' := [(3, .long ((f_kv_upper fu a) * (f_kv_lower fl b))), (0, .ref ak), (1, .int a), (2, .int b)]) hx hb d_kr_order_32 rfl hl (by decide) rfl (fun ls hl => ?_)
    refine lv_aload_n hx hb d_kr_order_33 rfl (lv_at hl 1 rfl) ?_
    refine va_get (D := (dC, dI)) (ci := 0) (v := .ref a0) (C := R_kr) (T := F_kr) (N := 6) hx hb hT i_kr hown hK hP 0 rfl rfl 3 (by decide) (hT _ k_19) (fun _ h9 => h9) rfl d_kr_order_34 ?_
    refine lv_iload_n hx hb d_kr_order_37 rfl (lv_at hl 3 rfl) ?_
    have hPc := hP.sub (ws' := [(a0, .inr (1, [.ref a1, .ref a2, .int cnt])), (a1, .inl (cU, 300, .inl fu)), (a2, .inl (cL, 300, .inl fl))]) [1, 2, 3] rfl
    have hKc := hK.sub (tys' := [(cU, .int), (cL, .int)]) [0, 1] rfl
    refine vp_callSl (W.runV (As := [.int b]) (rest := []) ⟨hx, hb, hml, hown, hT⟩ (c_kv_upper l dC dI a0 a1 a2 cnt cU fu cL fl b (in_hb2 hc c_2)) (cwV 1 hT (kt_V k_27 k_25 k_26 k_2 k_24) rfl rfl rfl (by decide +kernel) ⟨Nat.le_of_ble_eq_true rfl, Nat.le_of_ble_eq_true rfl⟩) ⟨bl_R, va_recv hKc hPc (ci := 1) (q0 := 0) rfl rfl, fun U hU hW => ⟨rfl, by rw [hU]; exact hPc, va_K.moved hW.alike hKc⟩⟩ rfl rfl hl.1 rfl (lv_room (Nat.le_of_ble_eq_true rfl)) d_kr_order_38 ⟨Nat.zero_le _, Nat.zero_le _⟩) (fun r_5 e_r_5 => ?_)
    subst e_r_5
    refine lv_aload_n hx hb d_kr_order_41 rfl (lv_at hl 1 rfl) ?_
    refine va_get (D := (dC, dI)) (ci := 0) (v := .ref a0) (C := R_kr) (T := F_kr) (N := 6) hx hb hT i_kr hown hK hP 0 rfl rfl 3 (by decide) (hT _ k_19) (fun _ h9 => h9) rfl d_kr_order_42 ?_
    refine lv_iload_n hx hb d_kr_order_45 rfl (lv_at hl 2 rfl) ?_
    have hPc := hP.sub (ws' := [(a0, .inr (1, [.ref a1, .ref a2, .int cnt])), (a1, .inl (cU, 300, .inl fu)), (a2, .inl (cL, 300, .inl fl))]) [1, 2, 3] rfl
    have hKc := hK.sub (tys' := [(cU, .int), (cL, .int)]) [0, 1] rfl
    refine vp_callSl (W.runV (As := [.int a]) (rest := [.long (f_kv_upper fu b)]) ⟨hx, hb, hml, hown, hT⟩ (c_kv_lower l dC dI a0 a1 a2 cnt cU fu cL fl a (in_hb1 hc c_2)) (cwV 1 hT (kt_V k_31 k_29 k_30 k_2 k_28) rfl rfl rfl (by decide +kernel) ⟨Nat.le_of_ble_eq_true rfl, Nat.le_of_ble_eq_true rfl⟩) ⟨bl_R, va_recv hKc hPc (ci := 1) (q0 := 0) rfl rfl, fun U hU hW => ⟨rfl, by rw [hU]; exact hPc, va_K.moved hW.alike hKc⟩⟩ rfl rfl hl.1 rfl (lv_room (Nat.le_of_ble_eq_true rfl)) d_kr_order_46 ⟨Nat.zero_le _, Nat.zero_le _⟩) (fun r_6 e_r_6 => ?_)
    subst e_r_6
    refine lv_lmul hx hb d_kr_order_49 ?_
    refine lv_lstore (lv' := [(5, .long ((f_kv_upper fu b) * (f_kv_lower fl a))), (3, .long ((f_kv_upper fu a) * (f_kv_lower fl b))), (0, .ref ak), (1, .int a), (2, .int b)]) hx hb d_kr_order_50 hl (by decide) rfl (fun ls hl => ?_)
    refine lv_lload_n hx hb d_kr_order_52 rfl (lv_at hl 1 rfl) ?_
    refine lv_lload hx hb d_kr_order_53 (lv_at hl 0 rfl) ?_
    refine lx_ifne (tgt := 61) hx hb d_kr_order_55 d_kr_order_56 (by decide) (fun c_7 => ?_) (fun c_7 => ?_)
    · refine lv_lload_n hx hb d_kr_order_61 rfl (lv_at hl 1 rfl) ?_
      refine lv_lload hx hb d_kr_order_62 (lv_at hl 0 rfl) ?_
      refine lx_ifge (tgt := 72) hx hb d_kr_order_64 d_kr_order_65 (by decide) (fun c_8 => ?_) (fun c_8 => ?_)
      · refine lv_iconst (v := 1) hx hb d_kr_order_72 (by decide) ?_
        exact W.iret (v := 1) hx hb hr (fun t ht hW => ⟨_, rfl, by unfold f_kr_order; rw [if_neg c_2, if_neg c_7, if_pos c_8], ht⟩) t_nil d_kr_order_73
      · refine lv_iconst (v := (-1)) hx hb d_kr_order_68 (by decide) ?_
        refine lv_goto (tgt := 73) hx hb d_kr_order_69 (by decide) ?_
        exact W.iret (v := (-1)) hx hb hr (fun t ht hW => ⟨_, rfl, by unfold f_kr_order; rw [if_neg c_2, if_neg c_7, if_neg c_8], ht⟩) t_nil d_kr_order_73
    · refine lv_iconst (v := 0) hx hb d_kr_order_59 (by decide) ?_
      exact W.iret (v := 0) hx hb hr (fun t ht hW => ⟨_, rfl, by unfold f_kr_order; rw [if_neg c_2, if_pos c_7], ht⟩) t_nil d_kr_order_60
  · refine lv_bipush (v := (-2)) hx hb d_kr_order_12 (by decide) ?_
    exact W.iret (v := (-2)) hx hb hr (fun t ht hW => ⟨_, rfl, by unfold f_kr_order; rw [if_pos c_2], ht⟩) t_nil d_kr_order_14
def f_kr_row (rowc : Int32) : Int32 × Int32 :=
  if rowc < 20 then ((rowc + 1) - 1, rowc + 1) else ((-1), rowc)
set_option maxHeartbeats 4000000 in
set_option maxRecDepth 100000 in
theorem c_kr_row (l : Launch) (dC : Nat → ClassId) (dI : Nat → Nat → Nat) (sz : Nat) (ak : Nat) (kinds : Int32) (ac : Nat) (rowc : Int32) (a0 : Nat) (a_s : Nat) (a_w : Nat) : Met l y_kr_row w_kr_row ({ frames := 0, cells := 0, slots := 0, locals := 0 }) (va_Pc [.ref ak] (fun U => U.heap.size = sz ∧ va_P (dC, dI) classes [(ak, .inr (0, [.int kinds, .ref ac, .int rowc, .ref a0, .ref a_s, .ref a_w]))] U.heap ∧ va_K (dC, dI) classes [] U ∧ va_D (fun _ => True) [(ak, .inr (0, [.int kinds, .ref ac, .int rowc, .ref a0, .ref a_s, .ref a_w]))])) (va_Qi (fun z9 u9 => (z9, u9) = f_kr_row rowc) (fun (u : Int32) t => match u with | rowc' => va_P (dC, dI) classes [(ak, .inr (0, [.int kinds, .ref ac, .int rowc', .ref a0, .ref a_s, .ref a_w]))] t.heap ∧ va_K (dC, dI) classes [] t ∧ va_D (va_A [(ak, .inr (0, [.int kinds, .ref ac, .int rowc, .ref a0, .ref a_s, .ref a_w]))] sz) [(ak, .inr (0, [.int kinds, .ref ac, .int rowc', .ref a0, .ref a_s, .ref a_w]))]) (va_A [(ak, .inr (0, [.int kinds, .ref ac, .int rowc, .ref a0, .ref a_s, .ref a_w]))] sz)) 0 0 (va_A [(ak, .inr (0, [.int kinds, .ref ac, .int rowc, .ref a0, .ref a_s, .ref a_w]))] sz) := by
  refine Met.ofW (cc := b_kr_row) (maxL := 1) (ret := (some .int)) (by decide +kernel) rfl ?_
  intro p e s m args below meth c s₁ B hml hv
  obtain ⟨rfl, hsz, hP, hK, hD0⟩ := hv
  have hx := B.exec
  have hb := B.bytes
  have hr := B.returns
  have hts := atoms_spec (ws := w_kr_row) B.pre
  have hT := fun (w : Cond) (h : w ∈ kt_T) => hts w (List.mem_cons_of_mem _ h)
  have hown : s.vm.findClass R_kr = some m.cls := findClass_of_methodNamed B.named
  have hlocks := B.notSynchronized
  subst hsz
  have hD := hD0.self (sz := s.heap.size)
  generalize hAe : va_A [(ak, .inr (0, [.int kinds, .ref ac, .int rowc, .ref a0, .ref a_s, .ref a_w]))] s.heap.size = A at hD ⊢
  have hA : ∀ q : Nat, s.heap.size ≤ q → A q := fun q h => by rw [← hAe]; exact Or.inr h
  have hS : va_S A s.heap s.heap [] := va_S.rf
  have hl := lv_entry ([.ref ak]) (n := 1) (Nat.le_of_ble_eq_true rfl)
  rw [lg_entry_eq]
  generalize (lg_sl ([.ref ak]) ++ List.replicate (1 - (lg_sl ([.ref ak])).length) Slot.unset).toArray = ls at hl ⊢
  have hl : lv_has ls 1 [(0, .ref ak)] := hl
  refine lv_aload_n hx hb d_kr_row_0 rfl (lv_at hl 0 rfl) ?_
  refine va_get (D := (dC, dI)) (ci := 0) (v := .int rowc) (C := R_kr) (T := F_kr) (N := 6) hx hb hT i_kr hown hK hP 0 rfl rfl 2 (by decide) (hT _ k_16) (fun _ h9 => h9) rfl d_kr_row_1 ?_
  refine lv_bipush (v := 20) hx hb d_kr_row_4 (by decide) ?_
  refine lv_icmp_lt (tgt := 11) hx hb d_kr_row_6 (by decide) (fun c_1 => ?_) (fun c_1 => ?_)
  · refine lv_aload_n hx hb d_kr_row_11 rfl (lv_at hl 0 rfl) ?_
    refine lv_dup hx hb d_kr_row_12 rfl ?_
    refine va_get (D := (dC, dI)) (ci := 0) (v := .int rowc) (C := R_kr) (T := F_kr) (N := 6) hx hb hT i_kr hown hK hP 0 rfl rfl 2 (by decide) (hT _ k_16) (fun _ h9 => h9) rfl d_kr_row_13 ?_
    refine lv_iconst (v := 1) hx hb d_kr_row_16 (by decide) ?_
    refine lv_iadd hx hb d_kr_row_17 ?_
    refine va_put (D := (dC, dI)) (ci := 0) (v := .int (rowc + 1)) (ty := .int) (C := R_kr) (T := F_kr) (N := 6) hx hb hT i_kr t_kr t_kr_ok n_kr hown hK hP hD hS 0 rfl rfl 2 (by decide) (hT _ k_16) (fun _ h9 => h9) rfl (by decide +kernel) rfl rfl (Nat.le_of_ble_eq_true rfl) d_kr_row_18 (fun H locs hP hD hS => ?_)
    have hP : va_P (dC, dI) classes [(ak, .inr (0, [.int kinds, .ref ac, .int (rowc + 1), .ref a0, .ref a_s, .ref a_w]))] H := hP
    have hD : va_D A [(ak, .inr (0, [.int kinds, .ref ac, .int (rowc + 1), .ref a0, .ref a_s, .ref a_w]))] := hD
    refine lv_aload_n hx hb d_kr_row_21 rfl (lv_at hl 0 rfl) ?_
    refine va_get (D := (dC, dI)) (ci := 0) (v := .int (rowc + 1)) (C := R_kr) (T := F_kr) (N := 6) hx hb hT i_kr hown hK hP 0 rfl rfl 2 (by decide) (hT _ k_16) (fun _ h9 => h9) rfl d_kr_row_22 ?_
    refine lv_iconst (v := 1) hx hb d_kr_row_25 (by decide) ?_
    refine lv_isub hx hb d_kr_row_26 ?_
    exact W.iret (v := (rowc + 1) - 1) hx hb hr (fun t ht hW => ⟨⟨(rowc + 1) - 1, rowc + 1, rfl, by unfold f_kr_row; rw [if_pos c_1], by rw [ht]; exact hP, va_K.moved hW.alike hK, hD⟩, hS.F ht⟩) hS.2.2 d_kr_row_27
  · refine lv_iconst (v := (-1)) hx hb d_kr_row_9 (by decide) ?_
    exact W.iret (v := (-1)) hx hb hr (fun t ht hW => ⟨⟨(-1), rowc, rfl, by unfold f_kr_row; rw [if_neg c_1], by rw [ht]; exact hP, va_K.moved hW.alike hK, hD⟩, hS.F ht⟩) hS.2.2 d_kr_row_10
end
section
abbrev b_kr_round : ByteArray := prog_1_method_9_code
def y_kr_round : MethodName := ⟨R_kr, "round", "(IIJ)J"⟩
def w_kr_round : List Cond := .code y_kr_round b_kr_round 11 (some .long) :: kt_T
theorem d_kr_round_0 : decode b_kr_round 0 = .ok (.aload_n 0, 1) := by decide +kernel
theorem d_kr_round_1 : decode b_kr_round 1 = .ok (.getfield 29, 3) := by decide +kernel
theorem d_kr_round_4 : decode b_kr_round 4 = .ok (.iload_n 1, 1) := by decide +kernel
theorem d_kr_round_5 : decode b_kr_round 5 = .ok (.invokevirtual 58, 3) := by decide +kernel
theorem d_kr_round_8 : decode b_kr_round 8 = .ok (.ifCond .eq 12, 3) := by decide +kernel
theorem d_kr_round_11 : decode b_kr_round 11 = .ok (.iload_n 2, 1) := by decide +kernel
theorem d_kr_round_12 : decode b_kr_round 12 = .ok (.ifCond .lt 8, 3) := by decide +kernel
theorem d_kr_round_15 : decode b_kr_round 15 = .ok (.iload_n 2, 1) := by decide +kernel
theorem d_kr_round_16 : decode b_kr_round 16 = .ok (.iconst 3, 1) := by decide +kernel
theorem d_kr_round_17 : decode b_kr_round 17 = .ok (.if_icmp .le 7, 3) := by decide +kernel
theorem d_kr_round_20 : decode b_kr_round 20 = .ok (.ldc2_w 87, 3) := by decide +kernel
theorem d_kr_round_23 : decode b_kr_round 23 = .ok (.lreturn, 1) := by decide +kernel
theorem d_kr_round_24 : decode b_kr_round 24 = .ok (.lload_n 3, 1) := by decide +kernel
theorem d_kr_round_25 : decode b_kr_round 25 = .ok (.lconst 1, 1) := by decide +kernel
theorem d_kr_round_26 : decode b_kr_round 26 = .ok (.lcmp, 1) := by decide +kernel
theorem d_kr_round_27 : decode b_kr_round 27 = .ok (.ifCond .lt 11, 3) := by decide +kernel
theorem d_kr_round_30 : decode b_kr_round 30 = .ok (.lload_n 3, 1) := by decide +kernel
theorem d_kr_round_31 : decode b_kr_round 31 = .ok (.ldc2_w 89, 3) := by decide +kernel
theorem d_kr_round_34 : decode b_kr_round 34 = .ok (.lcmp, 1) := by decide +kernel
theorem d_kr_round_35 : decode b_kr_round 35 = .ok (.ifCond .le 7, 3) := by decide +kernel
theorem d_kr_round_38 : decode b_kr_round 38 = .ok (.ldc2_w 87, 3) := by decide +kernel
theorem d_kr_round_41 : decode b_kr_round 41 = .ok (.lreturn, 1) := by decide +kernel
theorem d_kr_round_42 : decode b_kr_round 42 = .ok (.aload_n 0, 1) := by decide +kernel
theorem d_kr_round_43 : decode b_kr_round 43 = .ok (.getfield 29, 3) := by decide +kernel
theorem d_kr_round_46 : decode b_kr_round 46 = .ok (.iload_n 1, 1) := by decide +kernel
theorem d_kr_round_47 : decode b_kr_round 47 = .ok (.invokevirtual 82, 3) := by decide +kernel
theorem d_kr_round_50 : decode b_kr_round 50 = .ok (.lload_n 3, 1) := by decide +kernel
theorem d_kr_round_51 : decode b_kr_round 51 = .ok (.lmul, 1) := by decide +kernel
theorem d_kr_round_52 : decode b_kr_round 52 = .ok (.lstore 5, 2) := by decide +kernel
theorem d_kr_round_54 : decode b_kr_round 54 = .ok (.lload 5, 2) := by decide +kernel
theorem d_kr_round_56 : decode b_kr_round 56 = .ok (.lconst 1, 1) := by decide +kernel
theorem d_kr_round_57 : decode b_kr_round 57 = .ok (.lcmp, 1) := by decide +kernel
theorem d_kr_round_58 : decode b_kr_round 58 = .ok (.ifCond .ge 7, 3) := by decide +kernel
theorem d_kr_round_61 : decode b_kr_round 61 = .ok (.ldc2_w 87, 3) := by decide +kernel
theorem d_kr_round_64 : decode b_kr_round 64 = .ok (.lreturn, 1) := by decide +kernel
theorem d_kr_round_65 : decode b_kr_round 65 = .ok (.aload_n 0, 1) := by decide +kernel
theorem d_kr_round_66 : decode b_kr_round 66 = .ok (.getfield 29, 3) := by decide +kernel
theorem d_kr_round_69 : decode b_kr_round 69 = .ok (.iload_n 1, 1) := by decide +kernel
theorem d_kr_round_70 : decode b_kr_round 70 = .ok (.invokevirtual 78, 3) := by decide +kernel
theorem d_kr_round_73 : decode b_kr_round 73 = .ok (.lload 5, 2) := by decide +kernel
theorem d_kr_round_75 : decode b_kr_round 75 = .ok (.invokestatic 91, 3) := by decide +kernel
theorem d_kr_round_78 : decode b_kr_round 78 = .ok (.lstore 7, 2) := by decide +kernel
theorem d_kr_round_80 : decode b_kr_round 80 = .ok (.aload_n 0, 1) := by decide +kernel
theorem d_kr_round_81 : decode b_kr_round 81 = .ok (.getfield 29, 3) := by decide +kernel
theorem d_kr_round_84 : decode b_kr_round 84 = .ok (.iload_n 1, 1) := by decide +kernel
theorem d_kr_round_85 : decode b_kr_round 85 = .ok (.invokevirtual 78, 3) := by decide +kernel
theorem d_kr_round_88 : decode b_kr_round 88 = .ok (.lload 5, 2) := by decide +kernel
theorem d_kr_round_90 : decode b_kr_round 90 = .ok (.invokestatic 97, 3) := by decide +kernel
theorem d_kr_round_93 : decode b_kr_round 93 = .ok (.lstore 9, 2) := by decide +kernel
theorem d_kr_round_95 : decode b_kr_round 95 = .ok (.iload_n 2, 1) := by decide +kernel
theorem d_kr_round_96 : decode b_kr_round 96 = .ok (.lload 7, 2) := by decide +kernel
theorem d_kr_round_98 : decode b_kr_round 98 = .ok (.lload 9, 2) := by decide +kernel
theorem d_kr_round_100 : decode b_kr_round 100 = .ok (.lload 5, 2) := by decide +kernel
theorem d_kr_round_102 : decode b_kr_round 102 = .ok (.invokestatic 100, 3) := by decide +kernel
theorem d_kr_round_105 : decode b_kr_round 105 = .ok (.ifCond .eq 12, 3) := by decide +kernel
theorem d_kr_round_108 : decode b_kr_round 108 = .ok (.lload 7, 2) := by decide +kernel
theorem d_kr_round_110 : decode b_kr_round 110 = .ok (.lconst 1, 1) := by decide +kernel
theorem d_kr_round_111 : decode b_kr_round 111 = .ok (.ladd, 1) := by decide +kernel
theorem d_kr_round_112 : decode b_kr_round 112 = .ok (.lload_n 3, 1) := by decide +kernel
theorem d_kr_round_113 : decode b_kr_round 113 = .ok (.lmul, 1) := by decide +kernel
theorem d_kr_round_114 : decode b_kr_round 114 = .ok (.goto 7, 3) := by decide +kernel
theorem d_kr_round_117 : decode b_kr_round 117 = .ok (.lload 7, 2) := by decide +kernel
theorem d_kr_round_119 : decode b_kr_round 119 = .ok (.lload_n 3, 1) := by decide +kernel
theorem d_kr_round_120 : decode b_kr_round 120 = .ok (.lmul, 1) := by decide +kernel
theorem d_kr_round_121 : decode b_kr_round 121 = .ok (.lreturn, 1) := by decide +kernel
theorem k_36 : (.methodLink R_kr 58 y_kv_has : Cond) ∈ kt_T := List.mem_filter.mpr ⟨List.mem_of_getElem? (i := 169) (by decide +kernel), by decide +kernel⟩
theorem k_37 : (.constantLong R_kr 87 (-9223372036854775808) : Cond) ∈ kt_T := List.mem_filter.mpr ⟨List.mem_of_getElem? (i := 170) (by decide +kernel), by decide +kernel⟩
theorem k_38 : (.constantLong R_kr 89 1000000000 : Cond) ∈ kt_T := List.mem_filter.mpr ⟨List.mem_of_getElem? (i := 171) (by decide +kernel), by decide +kernel⟩
theorem k_39 : (.code y_jm_floorDiv b_jm_floorDiv 6 (some .long) : Cond) ∈ kt_T := List.mem_filter.mpr ⟨List.mem_of_getElem? (i := 174) (by decide +kernel), by decide +kernel⟩
theorem k_40 : (.initialized R_jm : Cond) ∈ kt_T := List.mem_filter.mpr ⟨List.mem_of_getElem? (i := 27) (by decide +kernel), by decide +kernel⟩
theorem k_41 : (.static y_jm_floorDiv : Cond) ∈ kt_T := List.mem_filter.mpr ⟨List.mem_of_getElem? (i := 173) (by decide +kernel), by decide +kernel⟩
theorem k_42 : (.methodLink R_kr 91 y_jm_floorDiv : Cond) ∈ kt_T := List.mem_filter.mpr ⟨List.mem_of_getElem? (i := 172) (by decide +kernel), by decide +kernel⟩
theorem k_43 : (.code y_jm_floorMod b_jm_floorMod 6 (some .long) : Cond) ∈ kt_T := List.mem_filter.mpr ⟨List.mem_of_getElem? (i := 177) (by decide +kernel), by decide +kernel⟩
theorem k_44 : (.static y_jm_floorMod : Cond) ∈ kt_T := List.mem_filter.mpr ⟨List.mem_of_getElem? (i := 176) (by decide +kernel), by decide +kernel⟩
theorem k_45 : (.methodLink R_kr 97 y_jm_floorMod : Cond) ∈ kt_T := List.mem_filter.mpr ⟨List.mem_of_getElem? (i := 175) (by decide +kernel), by decide +kernel⟩
theorem k_46 : (.code y_kr_goesUp b_kr_goesUp 7 (some .boolean) : Cond) ∈ kt_T := List.mem_filter.mpr ⟨List.mem_of_getElem? (i := 180) (by decide +kernel), by decide +kernel⟩
theorem k_47 : (.static y_kr_goesUp : Cond) ∈ kt_T := List.mem_filter.mpr ⟨List.mem_of_getElem? (i := 179) (by decide +kernel), by decide +kernel⟩
theorem k_48 : (.methodLink R_kr 100 y_kr_goesUp : Cond) ∈ kt_T := List.mem_filter.mpr ⟨List.mem_of_getElem? (i := 178) (by decide +kernel), by decide +kernel⟩
def f_kr_round (cnt : Int32) (fu : Nat → Int32) (fl : Nat → Int32) (a : Int32) (rule : Int32) (unit : Int64) : Int64 :=
  if (f_kv_has cnt a) = 0 then (-9223372036854775808) else if rule < 0 then (-9223372036854775808) else if rule ≤ 3 then if unit < 1 then (-9223372036854775808) else if unit ≤ 1000000000 then if 1 ≤ ((f_kv_lower fl a) * unit) then if (f_kr_goesUp rule (f_jm_floorDiv (f_kv_upper fu a) ((f_kv_lower fl a) * unit)) (f_jm_floorMod (f_kv_upper fu a) ((f_kv_lower fl a) * unit)) ((f_kv_lower fl a) * unit)) = 0 then ((f_jm_floorDiv (f_kv_upper fu a) ((f_kv_lower fl a) * unit)) * unit) else (((f_jm_floorDiv (f_kv_upper fu a) ((f_kv_lower fl a) * unit)) + 1) * unit) else (-9223372036854775808) else (-9223372036854775808) else (-9223372036854775808)
set_option maxHeartbeats 4000000 in
set_option maxRecDepth 100000 in
theorem c_kr_round (l : Launch) (dC : Nat → ClassId) (dI : Nat → Nat → Nat) (ak : Nat) (a0 : Nat) (a1 : Nat) (a2 : Nat) (kinds : Int32) (ac : Nat) (rowc : Int32) (a_s : Nat) (a_w : Nat) (cnt : Int32) (cU : ClassId) (fu : Nat → Int32) (cL : ClassId) (fl : Nat → Int32) (a : Int32) (rule : Int32) (unit : Int64) (hc : vp_in cnt 301) : Met l y_kr_round w_kr_round ({ frames := 1, cells := 0, slots := 0, locals := 26 }) (va_Pc [.ref ak, .int a, .int rule, .long unit] (fun U => va_P (dC, dI) classes [(ak, .inr (0, [.int kinds, .ref ac, .int rowc, .ref a0, .ref a_s, .ref a_w])), (a0, .inr (1, [.ref a1, .ref a2, .int cnt])), (a1, .inl (cU, 300, .inl fu)), (a2, .inl (cL, 300, .inl fl))] U.heap ∧ va_K (dC, dI) classes [(cU, .int), (cL, .int)] U)) (vp_Sl (fun z9 => z9 = f_kr_round cnt fu fl a rule unit)) 0 0 (fun _ => False) := by
  refine Met.ofW (cc := b_kr_round) (maxL := 11) (ret := (some .long)) (by decide +kernel) rfl ?_
  intro p e s m args below meth c s₁ B hml hv
  obtain ⟨rfl, hP, hK⟩ := hv
  have hx := B.exec
  have hb := B.bytes
  have hr := B.returns
  have hts := atoms_spec (ws := w_kr_round) B.pre
  have hT := fun (w : Cond) (h : w ∈ kt_T) => hts w (List.mem_cons_of_mem _ h)
  have hown : s.vm.findClass R_kr = some m.cls := findClass_of_methodNamed B.named
  have hlocks := B.notSynchronized
  have hl := lv_entry ([.ref ak, .int a, .int rule, .long unit]) (n := 11) (Nat.le_of_ble_eq_true rfl)
  rw [lg_entry_eq]
  generalize (lg_sl ([.ref ak, .int a, .int rule, .long unit]) ++ List.replicate (11 - (lg_sl ([.ref ak, .int a, .int rule, .long unit])).length) Slot.unset).toArray = ls at hl ⊢
  have hl : lv_has ls 11 [(0, .ref ak), (1, .int a), (2, .int rule), (3, .long unit)] := hl
  refine lv_aload_n hx hb d_kr_round_0 rfl (lv_at hl 0 rfl) ?_
  refine va_get (D := (dC, dI)) (ci := 0) (v := .ref a0) (C := R_kr) (T := F_kr) (N := 6) hx hb hT i_kr hown hK hP 0 rfl rfl 3 (by decide) (hT _ k_19) (fun _ h9 => h9) rfl d_kr_round_1 ?_
  refine lv_iload_n hx hb d_kr_round_4 rfl (lv_at hl 1 rfl) ?_
  have hPc := hP.sub (ws' := [(a0, .inr (1, [.ref a1, .ref a2, .int cnt])), (a1, .inl (cU, 300, .inl fu)), (a2, .inl (cL, 300, .inl fl))]) [1, 2, 3] rfl
  have hKc := hK.sub (tys' := [(cU, .int), (cL, .int)]) [0, 1] rfl
  refine vp_callSi (W.runV (As := [.int a]) (rest := []) ⟨hx, hb, hml, hown, hT⟩ (c_kv_has l dC dI a0 a1 a2 cnt cU fu cL fl a) (cwV 1 hT (kt_V k_36 k_3 k_4 k_2 k_1) rfl rfl rfl (by decide +kernel) ⟨Nat.le_of_ble_eq_true rfl, Nat.le_of_ble_eq_true rfl⟩) ⟨bl_R, va_recv hKc hPc (ci := 1) (q0 := 0) rfl rfl, fun U hU hW => ⟨rfl, by rw [hU]; exact hPc, va_K.moved hW.alike hKc⟩⟩ rfl rfl hl.1 rfl (lv_room (Nat.le_of_ble_eq_true rfl)) d_kr_round_5 ⟨Nat.zero_le _, Nat.zero_le _⟩) (fun r_1 e_r_1 => ?_)
  subst e_r_1
  refine lv_if_eq (tgt := 20) hx hb d_kr_round_8 (by decide) (fun c_2 => ?_) (fun c_2 => ?_)
  · refine lv_ldc2 (v := (-9223372036854775808)) hx hb hown (hT _ k_37) d_kr_round_20 ?_
    exact W.lret (v := (-9223372036854775808)) hx hb hr (fun t ht hW => ⟨_, rfl, by unfold f_kr_round; rw [if_pos c_2], ht⟩) t_nil d_kr_round_23
  · refine lv_iload_n hx hb d_kr_round_11 rfl (lv_at hl 2 rfl) ?_
    refine lv_if_lt (tgt := 20) hx hb d_kr_round_12 (by decide) (fun c_3 => ?_) (fun c_3 => ?_)
    · refine lv_ldc2 (v := (-9223372036854775808)) hx hb hown (hT _ k_37) d_kr_round_20 ?_
      exact W.lret (v := (-9223372036854775808)) hx hb hr (fun t ht hW => ⟨_, rfl, by unfold f_kr_round; rw [if_neg c_2, if_pos c_3], ht⟩) t_nil d_kr_round_23
    · refine lv_iload_n hx hb d_kr_round_15 rfl (lv_at hl 2 rfl) ?_
      refine lv_iconst (v := 3) hx hb d_kr_round_16 (by decide) ?_
      refine lv_icmp_le (tgt := 24) hx hb d_kr_round_17 (by decide) (fun c_4 => ?_) (fun c_4 => ?_)
      · refine lv_lload_n hx hb d_kr_round_24 rfl (lv_at hl 3 rfl) ?_
        refine lv_lconst (v := 1) hx hb d_kr_round_25 (by decide) ?_
        refine lx_iflt (tgt := 38) hx hb d_kr_round_26 d_kr_round_27 (by decide) (fun c_5 => ?_) (fun c_5 => ?_)
        · refine lv_ldc2 (v := (-9223372036854775808)) hx hb hown (hT _ k_37) d_kr_round_38 ?_
          exact W.lret (v := (-9223372036854775808)) hx hb hr (fun t ht hW => ⟨_, rfl, by unfold f_kr_round; rw [if_neg c_2, if_neg c_3, if_pos c_4, if_pos c_5], ht⟩) t_nil d_kr_round_41
        · refine lv_lload_n hx hb d_kr_round_30 rfl (lv_at hl 3 rfl) ?_
          refine lv_ldc2 (v := 1000000000) hx hb hown (hT _ k_38) d_kr_round_31 ?_
          refine lx_ifle (tgt := 42) hx hb d_kr_round_34 d_kr_round_35 (by decide) (fun c_6 => ?_) (fun c_6 => ?_)
          · refine lv_aload_n hx hb d_kr_round_42 rfl (lv_at hl 0 rfl) ?_
            refine va_get (D := (dC, dI)) (ci := 0) (v := .ref a0) (C := R_kr) (T := F_kr) (N := 6) hx hb hT i_kr hown hK hP 0 rfl rfl 3 (by decide) (hT _ k_19) (fun _ h9 => h9) rfl d_kr_round_43 ?_
            refine lv_iload_n hx hb d_kr_round_46 rfl (lv_at hl 1 rfl) ?_
            have hPc := hP.sub (ws' := [(a0, .inr (1, [.ref a1, .ref a2, .int cnt])), (a1, .inl (cU, 300, .inl fu)), (a2, .inl (cL, 300, .inl fl))]) [1, 2, 3] rfl
            have hKc := hK.sub (tys' := [(cU, .int), (cL, .int)]) [0, 1] rfl
            refine vp_callSl (W.runV (As := [.int a]) (rest := []) ⟨hx, hb, hml, hown, hT⟩ (c_kv_lower l dC dI a0 a1 a2 cnt cU fu cL fl a (in_has hc c_2)) (cwV 1 hT (kt_V k_31 k_29 k_30 k_2 k_28) rfl rfl rfl (by decide +kernel) ⟨Nat.le_of_ble_eq_true rfl, Nat.le_of_ble_eq_true rfl⟩) ⟨bl_R, va_recv hKc hPc (ci := 1) (q0 := 0) rfl rfl, fun U hU hW => ⟨rfl, by rw [hU]; exact hPc, va_K.moved hW.alike hKc⟩⟩ rfl rfl hl.1 rfl (lv_room (Nat.le_of_ble_eq_true rfl)) d_kr_round_47 ⟨Nat.zero_le _, Nat.zero_le _⟩) (fun r_7 e_r_7 => ?_)
            subst e_r_7
            refine lv_lload_n hx hb d_kr_round_50 rfl (lv_at hl 3 rfl) ?_
            refine lv_lmul hx hb d_kr_round_51 ?_
            refine lv_lstore (lv' := [(5, .long ((f_kv_lower fl a) * unit)), (0, .ref ak), (1, .int a), (2, .int rule), (3, .long unit)]) hx hb d_kr_round_52 hl (by decide) rfl (fun ls hl => ?_)
            refine lv_lload hx hb d_kr_round_54 (lv_at hl 0 rfl) ?_
            refine lv_lconst (v := 1) hx hb d_kr_round_56 (by decide) ?_
            refine lx_ifge (tgt := 65) hx hb d_kr_round_57 d_kr_round_58 (by decide) (fun c_8 => ?_) (fun c_8 => ?_)
            · refine lv_aload_n hx hb d_kr_round_65 rfl (lv_at hl 1 rfl) ?_
              refine va_get (D := (dC, dI)) (ci := 0) (v := .ref a0) (C := R_kr) (T := F_kr) (N := 6) hx hb hT i_kr hown hK hP 0 rfl rfl 3 (by decide) (hT _ k_19) (fun _ h9 => h9) rfl d_kr_round_66 ?_
              refine lv_iload_n hx hb d_kr_round_69 rfl (lv_at hl 2 rfl) ?_
              have hPc := hP.sub (ws' := [(a0, .inr (1, [.ref a1, .ref a2, .int cnt])), (a1, .inl (cU, 300, .inl fu)), (a2, .inl (cL, 300, .inl fl))]) [1, 2, 3] rfl
              have hKc := hK.sub (tys' := [(cU, .int), (cL, .int)]) [0, 1] rfl
              refine vp_callSl (W.runV (As := [.int a]) (rest := []) ⟨hx, hb, hml, hown, hT⟩ (c_kv_upper l dC dI a0 a1 a2 cnt cU fu cL fl a (in_has hc c_2)) (cwV 1 hT (kt_V k_27 k_25 k_26 k_2 k_24) rfl rfl rfl (by decide +kernel) ⟨Nat.le_of_ble_eq_true rfl, Nat.le_of_ble_eq_true rfl⟩) ⟨bl_R, va_recv hKc hPc (ci := 1) (q0 := 0) rfl rfl, fun U hU hW => ⟨rfl, by rw [hU]; exact hPc, va_K.moved hW.alike hKc⟩⟩ rfl rfl hl.1 rfl (lv_room (Nat.le_of_ble_eq_true rfl)) d_kr_round_70 ⟨Nat.zero_le _, Nat.zero_le _⟩) (fun r_9 e_r_9 => ?_)
              subst e_r_9
              refine lv_lload hx hb d_kr_round_73 (lv_at hl 0 rfl) ?_
              refine vp_callSl (W.runS (As := [.long (f_kv_upper fu a), .long ((f_kv_lower fl a) * unit)]) (rest := []) ⟨hx, hb, hml, hown, hT⟩ (c_jm_floorDiv l (f_kv_upper fu a) ((f_kv_lower fl a) * unit) (ne0_of1 c_8)) (va_cwS 2 hT (kt_S k_42 k_41 k_40 k_39) rfl rfl rfl (by decide +kernel) ⟨Nat.le_of_ble_eq_true rfl, Nat.le_of_ble_eq_true rfl⟩) ⟨bl_S, fun U hU hW => ⟨rfl, trivial⟩⟩ rfl rfl hl.1 rfl (lv_room (Nat.le_of_ble_eq_true rfl)) d_kr_round_75 ⟨Nat.zero_le _, Nat.zero_le _⟩) (fun r_10 e_r_10 => ?_)
              subst e_r_10
              refine lv_lstore (lv' := [(7, .long (f_jm_floorDiv (f_kv_upper fu a) ((f_kv_lower fl a) * unit))), (5, .long ((f_kv_lower fl a) * unit)), (0, .ref ak), (1, .int a), (2, .int rule), (3, .long unit)]) hx hb d_kr_round_78 hl (by decide) rfl (fun ls hl => ?_)
              refine lv_aload_n hx hb d_kr_round_80 rfl (lv_at hl 2 rfl) ?_
              refine va_get (D := (dC, dI)) (ci := 0) (v := .ref a0) (C := R_kr) (T := F_kr) (N := 6) hx hb hT i_kr hown hK hP 0 rfl rfl 3 (by decide) (hT _ k_19) (fun _ h9 => h9) rfl d_kr_round_81 ?_
              refine lv_iload_n hx hb d_kr_round_84 rfl (lv_at hl 3 rfl) ?_
              have hPc := hP.sub (ws' := [(a0, .inr (1, [.ref a1, .ref a2, .int cnt])), (a1, .inl (cU, 300, .inl fu)), (a2, .inl (cL, 300, .inl fl))]) [1, 2, 3] rfl
              have hKc := hK.sub (tys' := [(cU, .int), (cL, .int)]) [0, 1] rfl
              refine vp_callSl (W.runV (As := [.int a]) (rest := []) ⟨hx, hb, hml, hown, hT⟩ (c_kv_upper l dC dI a0 a1 a2 cnt cU fu cL fl a (in_has hc c_2)) (cwV 1 hT (kt_V k_27 k_25 k_26 k_2 k_24) rfl rfl rfl (by decide +kernel) ⟨Nat.le_of_ble_eq_true rfl, Nat.le_of_ble_eq_true rfl⟩) ⟨bl_R, va_recv hKc hPc (ci := 1) (q0 := 0) rfl rfl, fun U hU hW => ⟨rfl, by rw [hU]; exact hPc, va_K.moved hW.alike hKc⟩⟩ rfl rfl hl.1 rfl (lv_room (Nat.le_of_ble_eq_true rfl)) d_kr_round_85 ⟨Nat.zero_le _, Nat.zero_le _⟩) (fun r_11 e_r_11 => ?_)
              subst e_r_11
              refine lv_lload hx hb d_kr_round_88 (lv_at hl 1 rfl) ?_
              refine vp_callSl (W.runS (As := [.long (f_kv_upper fu a), .long ((f_kv_lower fl a) * unit)]) (rest := []) ⟨hx, hb, hml, hown, hT⟩ (c_jm_floorMod l (f_kv_upper fu a) ((f_kv_lower fl a) * unit) (ne0_of1 c_8)) (va_cwS 2 hT (kt_S k_45 k_44 k_40 k_43) rfl rfl rfl (by decide +kernel) ⟨Nat.le_of_ble_eq_true rfl, Nat.le_of_ble_eq_true rfl⟩) ⟨bl_S, fun U hU hW => ⟨rfl, trivial⟩⟩ rfl rfl hl.1 rfl (lv_room (Nat.le_of_ble_eq_true rfl)) d_kr_round_90 ⟨Nat.zero_le _, Nat.zero_le _⟩) (fun r_12 e_r_12 => ?_)
              subst e_r_12
              refine lv_lstore (lv' := [(9, .long (f_jm_floorMod (f_kv_upper fu a) ((f_kv_lower fl a) * unit))), (7, .long (f_jm_floorDiv (f_kv_upper fu a) ((f_kv_lower fl a) * unit))), (5, .long ((f_kv_lower fl a) * unit)), (0, .ref ak), (1, .int a), (2, .int rule), (3, .long unit)]) hx hb d_kr_round_93 hl (by decide) rfl (fun ls hl => ?_)
              refine lv_iload_n hx hb d_kr_round_95 rfl (lv_at hl 5 rfl) ?_
              refine lv_lload hx hb d_kr_round_96 (lv_at hl 1 rfl) ?_
              refine lv_lload hx hb d_kr_round_98 (lv_at hl 0 rfl) ?_
              refine lv_lload hx hb d_kr_round_100 (lv_at hl 2 rfl) ?_
              refine vp_callSi (W.runS (As := [.int rule, .long (f_jm_floorDiv (f_kv_upper fu a) ((f_kv_lower fl a) * unit)), .long (f_jm_floorMod (f_kv_upper fu a) ((f_kv_lower fl a) * unit)), .long ((f_kv_lower fl a) * unit)]) (rest := []) ⟨hx, hb, hml, hown, hT⟩ (c_kr_goesUp l rule (f_jm_floorDiv (f_kv_upper fu a) ((f_kv_lower fl a) * unit)) (f_jm_floorMod (f_kv_upper fu a) ((f_kv_lower fl a) * unit)) ((f_kv_lower fl a) * unit)) (va_cwS 4 hT (kt_S k_48 k_47 k_11 k_46) rfl rfl rfl (by decide +kernel) ⟨Nat.le_of_ble_eq_true rfl, Nat.le_of_ble_eq_true rfl⟩) ⟨bl_S, fun U hU hW => ⟨rfl, trivial⟩⟩ rfl rfl hl.1 rfl (lv_room (Nat.le_of_ble_eq_true rfl)) d_kr_round_102 ⟨Nat.zero_le _, Nat.zero_le _⟩) (fun r_13 e_r_13 => ?_)
              subst e_r_13
              refine lv_if_eq (tgt := 117) hx hb d_kr_round_105 (by decide) (fun c_14 => ?_) (fun c_14 => ?_)
              · refine lv_lload hx hb d_kr_round_117 (lv_at hl 1 rfl) ?_
                refine lv_lload_n hx hb d_kr_round_119 rfl (lv_at hl 6 rfl) ?_
                refine lv_lmul hx hb d_kr_round_120 ?_
                exact W.lret (v := (f_jm_floorDiv (f_kv_upper fu a) ((f_kv_lower fl a) * unit)) * unit) hx hb hr (fun t ht hW => ⟨_, rfl, by unfold f_kr_round; rw [if_neg c_2, if_neg c_3, if_pos c_4, if_neg c_5, if_pos c_6, if_pos c_8, if_pos c_14], ht⟩) t_nil d_kr_round_121
              · refine lv_lload hx hb d_kr_round_108 (lv_at hl 1 rfl) ?_
                refine lv_lconst (v := 1) hx hb d_kr_round_110 (by decide) ?_
                refine lv_ladd hx hb d_kr_round_111 ?_
                refine lv_lload_n hx hb d_kr_round_112 rfl (lv_at hl 6 rfl) ?_
                refine lv_lmul hx hb d_kr_round_113 ?_
                refine lv_goto (tgt := 121) hx hb d_kr_round_114 (by decide) ?_
                exact W.lret (v := ((f_jm_floorDiv (f_kv_upper fu a) ((f_kv_lower fl a) * unit)) + 1) * unit) hx hb hr (fun t ht hW => ⟨_, rfl, by unfold f_kr_round; rw [if_neg c_2, if_neg c_3, if_pos c_4, if_neg c_5, if_pos c_6, if_pos c_8, if_neg c_14], ht⟩) t_nil d_kr_round_121
            · refine lv_ldc2 (v := (-9223372036854775808)) hx hb hown (hT _ k_37) d_kr_round_61 ?_
              exact W.lret (v := (-9223372036854775808)) hx hb hr (fun t ht hW => ⟨_, rfl, by unfold f_kr_round; rw [if_neg c_2, if_neg c_3, if_pos c_4, if_neg c_5, if_pos c_6, if_neg c_8], ht⟩) t_nil d_kr_round_64
          · refine lv_ldc2 (v := (-9223372036854775808)) hx hb hown (hT _ k_37) d_kr_round_38 ?_
            exact W.lret (v := (-9223372036854775808)) hx hb hr (fun t ht hW => ⟨_, rfl, by unfold f_kr_round; rw [if_neg c_2, if_neg c_3, if_pos c_4, if_neg c_5, if_neg c_6], ht⟩) t_nil d_kr_round_41
      · refine lv_ldc2 (v := (-9223372036854775808)) hx hb hown (hT _ k_37) d_kr_round_20 ?_
        exact W.lret (v := (-9223372036854775808)) hx hb hr (fun t ht hW => ⟨_, rfl, by unfold f_kr_round; rw [if_neg c_2, if_neg c_3, if_neg c_4], ht⟩) t_nil d_kr_round_23
end
section
abbrev b_kr_digit : ByteArray := prog_1_method_10_code
def y_kr_digit : MethodName := ⟨R_kr, "digit", "(III)I"⟩
def w_kr_digit : List Cond := .code y_kr_digit b_kr_digit 6 (some .int) :: kt_T
theorem d_kr_digit_0 : decode b_kr_digit 0 = .ok (.aload_n 0, 1) := by decide +kernel
theorem d_kr_digit_1 : decode b_kr_digit 1 = .ok (.getfield 29, 3) := by decide +kernel
theorem d_kr_digit_4 : decode b_kr_digit 4 = .ok (.iload_n 1, 1) := by decide +kernel
theorem d_kr_digit_5 : decode b_kr_digit 5 = .ok (.invokevirtual 58, 3) := by decide +kernel
theorem d_kr_digit_8 : decode b_kr_digit 8 = .ok (.ifCond .eq 20, 3) := by decide +kernel
theorem d_kr_digit_11 : decode b_kr_digit 11 = .ok (.iload_n 2, 1) := by decide +kernel
theorem d_kr_digit_12 : decode b_kr_digit 12 = .ok (.invokestatic 62, 3) := by decide +kernel
theorem d_kr_digit_15 : decode b_kr_digit 15 = .ok (.ifCond .eq 13, 3) := by decide +kernel
theorem d_kr_digit_18 : decode b_kr_digit 18 = .ok (.iload_n 3, 1) := by decide +kernel
theorem d_kr_digit_19 : decode b_kr_digit 19 = .ok (.ifCond .lt 9, 3) := by decide +kernel
theorem d_kr_digit_22 : decode b_kr_digit 22 = .ok (.iload_n 3, 1) := by decide +kernel
theorem d_kr_digit_23 : decode b_kr_digit 23 = .ok (.bipush 10, 2) := by decide +kernel
theorem d_kr_digit_25 : decode b_kr_digit 25 = .ok (.if_icmp .lt 5, 3) := by decide +kernel
theorem d_kr_digit_28 : decode b_kr_digit 28 = .ok (.iconst (-1), 1) := by decide +kernel
theorem d_kr_digit_29 : decode b_kr_digit 29 = .ok (.ireturn, 1) := by decide +kernel
theorem d_kr_digit_30 : decode b_kr_digit 30 = .ok (.aload_n 0, 1) := by decide +kernel
theorem d_kr_digit_31 : decode b_kr_digit 31 = .ok (.getfield 29, 3) := by decide +kernel
theorem d_kr_digit_34 : decode b_kr_digit 34 = .ok (.iload_n 1, 1) := by decide +kernel
theorem d_kr_digit_35 : decode b_kr_digit 35 = .ok (.iload_n 2, 1) := by decide +kernel
theorem d_kr_digit_36 : decode b_kr_digit 36 = .ok (.invokevirtual 70, 3) := by decide +kernel
theorem d_kr_digit_39 : decode b_kr_digit 39 = .ok (.invokestatic 104, 3) := by decide +kernel
theorem d_kr_digit_42 : decode b_kr_digit 42 = .ok (.istore 4, 2) := by decide +kernel
theorem d_kr_digit_44 : decode b_kr_digit 44 = .ok (.iconst 0, 1) := by decide +kernel
theorem d_kr_digit_45 : decode b_kr_digit 45 = .ok (.istore 5, 2) := by decide +kernel
theorem d_kr_digit_47 : decode b_kr_digit 47 = .ok (.iload 5, 2) := by decide +kernel
theorem d_kr_digit_49 : decode b_kr_digit 49 = .ok (.iload_n 3, 1) := by decide +kernel
theorem d_kr_digit_50 : decode b_kr_digit 50 = .ok (.if_icmp .ge 16, 3) := by decide +kernel
theorem d_kr_digit_53 : decode b_kr_digit 53 = .ok (.iload 4, 2) := by decide +kernel
theorem d_kr_digit_55 : decode b_kr_digit 55 = .ok (.bipush 10, 2) := by decide +kernel
theorem d_kr_digit_57 : decode b_kr_digit 57 = .ok (.idiv, 1) := by decide +kernel
theorem d_kr_digit_58 : decode b_kr_digit 58 = .ok (.istore 4, 2) := by decide +kernel
theorem d_kr_digit_60 : decode b_kr_digit 60 = .ok (.iinc 5 1, 3) := by decide +kernel
theorem d_kr_digit_63 : decode b_kr_digit 63 = .ok (.goto (-16), 3) := by decide +kernel
theorem d_kr_digit_66 : decode b_kr_digit 66 = .ok (.iload_n 3, 1) := by decide +kernel
theorem d_kr_digit_67 : decode b_kr_digit 67 = .ok (.ifCond .le 12, 3) := by decide +kernel
theorem d_kr_digit_70 : decode b_kr_digit 70 = .ok (.iload 4, 2) := by decide +kernel
theorem d_kr_digit_72 : decode b_kr_digit 72 = .ok (.ifCond .ne 7, 3) := by decide +kernel
theorem d_kr_digit_75 : decode b_kr_digit 75 = .ok (.iconst (-1), 1) := by decide +kernel
theorem d_kr_digit_76 : decode b_kr_digit 76 = .ok (.goto 8, 3) := by decide +kernel
theorem d_kr_digit_79 : decode b_kr_digit 79 = .ok (.iload 4, 2) := by decide +kernel
theorem d_kr_digit_81 : decode b_kr_digit 81 = .ok (.bipush 10, 2) := by decide +kernel
theorem d_kr_digit_83 : decode b_kr_digit 83 = .ok (.irem, 1) := by decide +kernel
theorem d_kr_digit_84 : decode b_kr_digit 84 = .ok (.ireturn, 1) := by decide +kernel
theorem k_49 : (.code y_kr_isPart b_kr_isPart 1 (some .boolean) : Cond) ∈ kt_T := List.mem_filter.mpr ⟨List.mem_of_getElem? (i := 188) (by decide +kernel), by decide +kernel⟩
theorem k_50 : (.static y_kr_isPart : Cond) ∈ kt_T := List.mem_filter.mpr ⟨List.mem_of_getElem? (i := 187) (by decide +kernel), by decide +kernel⟩
theorem k_51 : (.methodLink R_kr 62 y_kr_isPart : Cond) ∈ kt_T := List.mem_filter.mpr ⟨List.mem_of_getElem? (i := 186) (by decide +kernel), by decide +kernel⟩
theorem k_52 : (.code y_kv_partOf b_kv_partOf 3 (some .int) : Cond) ∈ kt_T := List.mem_filter.mpr ⟨List.mem_of_getElem? (i := 192) (by decide +kernel), by decide +kernel⟩
theorem k_53 : (.instanceMethod y_kv_partOf : Cond) ∈ kt_T := List.mem_filter.mpr ⟨List.mem_of_getElem? (i := 190) (by decide +kernel), by decide +kernel⟩
theorem k_54 : (.selects R_kv y_kv_partOf y_kv_partOf : Cond) ∈ kt_T := List.mem_filter.mpr ⟨List.mem_of_getElem? (i := 191) (by decide +kernel), by decide +kernel⟩
theorem k_55 : (.methodLink R_kr 70 y_kv_partOf : Cond) ∈ kt_T := List.mem_filter.mpr ⟨List.mem_of_getElem? (i := 189) (by decide +kernel), by decide +kernel⟩
theorem k_56 : (.code y_jm_abs b_jm_abs 1 (some .int) : Cond) ∈ kt_T := List.mem_filter.mpr ⟨List.mem_of_getElem? (i := 195) (by decide +kernel), by decide +kernel⟩
theorem k_57 : (.static y_jm_abs : Cond) ∈ kt_T := List.mem_filter.mpr ⟨List.mem_of_getElem? (i := 194) (by decide +kernel), by decide +kernel⟩
theorem k_58 : (.methodLink R_kr 104 y_jm_abs : Cond) ∈ kt_T := List.mem_filter.mpr ⟨List.mem_of_getElem? (i := 193) (by decide +kernel), by decide +kernel⟩
def digL : Nat → Int32 → Int32
  | 0, r => r
  | n + 1, r => digL n (r / 10)
def kr_digitE (i : Int32) (r : Int32) : Int32 :=
  if i ≤ 0 then (r - r / 10 * 10) else if r = 0 then (-1) else (r - r / 10 * 10)
set_option maxHeartbeats 4000000 in
theorem tl_kr_digit {p : Program} {l : Launch} {e : Env} {R : Room} {s : State} {m : MethodId} {args : Array Value} {below : List Frame} {meth : Method} {c : Code} (hx : p.tables.exec = Jvm.exec) (hb : c.code = b_kr_digit) (hr : meth.sig.returnType = (some .int)) (hlocks : meth.locks = false) {post : Int32 → Prop} {i r : Int32} (hq : post (kr_digitE i r)) {ls : Array Slot} (hl : lv_has ls 6 [(3, .int i), (4, .int r)]) :
    W p l e R s m args below meth c s.heap [] 0 0 (MQ below (vp_Si post) args s 0 0 (fun _ => False)) (F0 m 66 ls []) := by
  refine lv_iload_n hx hb d_kr_digit_66 rfl (lv_at hl 0 rfl) ?_
  refine lv_if_le (tgt := 79) hx hb d_kr_digit_67 (by decide) (fun c_1 => ?_) (fun c_1 => ?_)
  · refine lv_iload hx hb d_kr_digit_79 (lv_at hl 1 rfl) ?_
    refine lv_bipush (v := 10) hx hb d_kr_digit_81 (by decide) ?_
    refine lv_irem hx hb d_kr_digit_83 (by decide) ?_
    exact W.iret (v := r - r / 10 * 10) hx hb hr (fun t ht hW => ⟨_, rfl, by unfold kr_digitE at hq; rw [if_pos c_1] at hq; exact hq, ht⟩) t_nil d_kr_digit_84
  · refine lv_iload hx hb d_kr_digit_70 (lv_at hl 1 rfl) ?_
    refine lv_if_ne (tgt := 79) hx hb d_kr_digit_72 (by decide) (fun c_2 => ?_) (fun c_2 => ?_)
    · refine lv_iload hx hb d_kr_digit_79 (lv_at hl 1 rfl) ?_
      refine lv_bipush (v := 10) hx hb d_kr_digit_81 (by decide) ?_
      refine lv_irem hx hb d_kr_digit_83 (by decide) ?_
      exact W.iret (v := r - r / 10 * 10) hx hb hr (fun t ht hW => ⟨_, rfl, by unfold kr_digitE at hq; rw [if_neg c_1, if_neg c_2] at hq; exact hq, ht⟩) t_nil d_kr_digit_84
    · refine lv_iconst (v := (-1)) hx hb d_kr_digit_75 (by decide) ?_
      refine lv_goto (tgt := 84) hx hb d_kr_digit_76 (by decide) ?_
      exact W.iret (v := (-1)) hx hb hr (fun t ht hW => ⟨_, rfl, by unfold kr_digitE at hq; rw [if_neg c_1, if_pos c_2] at hq; exact hq, ht⟩) t_nil d_kr_digit_84
set_option maxHeartbeats 4000000 in
theorem lp_kr_digit {p : Program} {l : Launch} {e : Env} {R : Room} {s : State} {m : MethodId} {args : Array Value} {below : List Frame} {meth : Method} {c : Code} (hx : p.tables.exec = Jvm.exec) (hb : c.code = b_kr_digit) (hr : meth.sig.returnType = (some .int)) (hlocks : meth.locks = false) {post : Int32 → Prop} {i : Int32} {N : Nat} (hN : N < 10) (hi : i = nI N) :
    ∀ (n j : Nat) (r : Int32), j + n = N → post (kr_digitE i (digL n r)) → ∀ {ls : Array Slot}, lv_has ls 6 [(3, .int i), (4, .int r), (5, .int (nI j))] → W p l e R s m args below meth c s.heap [] 0 0 (MQ below (vp_Si post) args s 0 0 (fun _ => False)) (F0 m 47 ls []) := by
  intro n
  induction n with
  | zero =>
    intro j r hj hq ls hl
    refine lv_iload hx hb d_kr_digit_47 (lv_at hl 2 rfl) ?_
    refine lv_iload_n hx hb d_kr_digit_49 rfl (lv_at hl 0 rfl) ?_
    refine lv_icmp_ge (tgt := 66) hx hb d_kr_digit_50 (by decide) (fun c_3 => ?_) (fun c_3 => ?_)
    · exact tl_kr_digit hx hb hr hlocks hq (lv_sub hl [0, 1] rfl)
    · exact absurd (by rw [hi, ← hj]; exact nI_le (Nat.le_refl _) (by omega)) c_3
  | succ n ih =>
    intro j r hj hq ls hl
    refine lv_iload hx hb d_kr_digit_47 (lv_at hl 2 rfl) ?_
    refine lv_iload_n hx hb d_kr_digit_49 rfl (lv_at hl 0 rfl) ?_
    refine lv_icmp_ge (tgt := 66) hx hb d_kr_digit_50 (by decide) (fun c_4 => ?_) (fun c_4 => ?_)
    · exact absurd c_4 (by rw [hi]; exact nI_ge (by omega) (by omega))
    · refine lv_iload hx hb d_kr_digit_53 (lv_at hl 1 rfl) ?_
      refine lv_bipush (v := 10) hx hb d_kr_digit_55 (by decide) ?_
      refine lv_idiv hx hb d_kr_digit_57 (by decide) ?_
      refine lv_istore (lv' := [(4, .int (r / 10)), (3, .int i), (5, .int (nI j))]) hx hb d_kr_digit_58 hl (by decide) rfl (fun ls hl => ?_)
      refine lv_iinc (v := (nI j) + 1) (lv' := [(5, .int ((nI j) + 1)), (4, .int (r / 10)), (3, .int i)]) hx hb d_kr_digit_60 hl (k := 2) rfl rfl (by decide) rfl (fun ls hl => ?_)
      refine lv_goto (tgt := 47) hx hb d_kr_digit_63 (by decide) ?_
      exact ih (j + 1) (r / 10) (by omega) hq (by have h9 := lv_sub hl [2, 1, 0] rfl; rw [nI_1] at h9; exact h9)
def f_kr_digit (cnt : Int32) (fu : Nat → Int32) (fl : Nat → Int32) (a : Int32) (q : Int32) (i : Int32) : Int32 :=
  if (f_kv_has cnt a) = 0 then (-1) else if (f_kr_isPart q) = 0 then (-1) else if i < 0 then (-1) else if i < 10 then (kr_digitE i (digL i.toNatClampNeg (f_jm_abs (f_kv_partOf fu fl a q)))) else (-1)
set_option maxHeartbeats 4000000 in
set_option maxRecDepth 100000 in
theorem c_kr_digit (l : Launch) (dC : Nat → ClassId) (dI : Nat → Nat → Nat) (ak : Nat) (a0 : Nat) (a1 : Nat) (a2 : Nat) (kinds : Int32) (ac : Nat) (rowc : Int32) (a_s : Nat) (a_w : Nat) (cnt : Int32) (cU : ClassId) (fu : Nat → Int32) (cL : ClassId) (fl : Nat → Int32) (a : Int32) (q : Int32) (i : Int32) (hc : vp_in cnt 301) : Met l y_kr_digit w_kr_digit ({ frames := 1, cells := 0, slots := 0, locals := 22 }) (va_Pc [.ref ak, .int a, .int q, .int i] (fun U => va_P (dC, dI) classes [(ak, .inr (0, [.int kinds, .ref ac, .int rowc, .ref a0, .ref a_s, .ref a_w])), (a0, .inr (1, [.ref a1, .ref a2, .int cnt])), (a1, .inl (cU, 300, .inl fu)), (a2, .inl (cL, 300, .inl fl))] U.heap ∧ va_K (dC, dI) classes [(cU, .int), (cL, .int)] U)) (vp_Si (fun z9 => z9 = f_kr_digit cnt fu fl a q i)) 0 0 (fun _ => False) := by
  refine Met.ofW (cc := b_kr_digit) (maxL := 6) (ret := (some .int)) (by decide +kernel) rfl ?_
  intro p e s m args below meth c s₁ B hml hv
  obtain ⟨rfl, hP, hK⟩ := hv
  have hx := B.exec
  have hb := B.bytes
  have hr := B.returns
  have hts := atoms_spec (ws := w_kr_digit) B.pre
  have hT := fun (w : Cond) (h : w ∈ kt_T) => hts w (List.mem_cons_of_mem _ h)
  have hown : s.vm.findClass R_kr = some m.cls := findClass_of_methodNamed B.named
  have hlocks := B.notSynchronized
  have hl := lv_entry ([.ref ak, .int a, .int q, .int i]) (n := 6) (Nat.le_of_ble_eq_true rfl)
  rw [lg_entry_eq]
  generalize (lg_sl ([.ref ak, .int a, .int q, .int i]) ++ List.replicate (6 - (lg_sl ([.ref ak, .int a, .int q, .int i])).length) Slot.unset).toArray = ls at hl ⊢
  have hl : lv_has ls 6 [(0, .ref ak), (1, .int a), (2, .int q), (3, .int i)] := hl
  refine lv_aload_n hx hb d_kr_digit_0 rfl (lv_at hl 0 rfl) ?_
  refine va_get (D := (dC, dI)) (ci := 0) (v := .ref a0) (C := R_kr) (T := F_kr) (N := 6) hx hb hT i_kr hown hK hP 0 rfl rfl 3 (by decide) (hT _ k_19) (fun _ h9 => h9) rfl d_kr_digit_1 ?_
  refine lv_iload_n hx hb d_kr_digit_4 rfl (lv_at hl 1 rfl) ?_
  have hPc := hP.sub (ws' := [(a0, .inr (1, [.ref a1, .ref a2, .int cnt])), (a1, .inl (cU, 300, .inl fu)), (a2, .inl (cL, 300, .inl fl))]) [1, 2, 3] rfl
  have hKc := hK.sub (tys' := [(cU, .int), (cL, .int)]) [0, 1] rfl
  refine vp_callSi (W.runV (As := [.int a]) (rest := []) ⟨hx, hb, hml, hown, hT⟩ (c_kv_has l dC dI a0 a1 a2 cnt cU fu cL fl a) (cwV 1 hT (kt_V k_36 k_3 k_4 k_2 k_1) rfl rfl rfl (by decide +kernel) ⟨Nat.le_of_ble_eq_true rfl, Nat.le_of_ble_eq_true rfl⟩) ⟨bl_R, va_recv hKc hPc (ci := 1) (q0 := 0) rfl rfl, fun U hU hW => ⟨rfl, by rw [hU]; exact hPc, va_K.moved hW.alike hKc⟩⟩ rfl rfl hl.1 rfl (lv_room (Nat.le_of_ble_eq_true rfl)) d_kr_digit_5 ⟨Nat.zero_le _, Nat.zero_le _⟩) (fun r_1 e_r_1 => ?_)
  subst e_r_1
  refine lv_if_eq (tgt := 28) hx hb d_kr_digit_8 (by decide) (fun c_2 => ?_) (fun c_2 => ?_)
  · refine lv_iconst (v := (-1)) hx hb d_kr_digit_28 (by decide) ?_
    exact W.iret (v := (-1)) hx hb hr (fun t ht hW => ⟨_, rfl, by unfold f_kr_digit; rw [if_pos c_2], ht⟩) t_nil d_kr_digit_29
  · refine lv_iload_n hx hb d_kr_digit_11 rfl (lv_at hl 2 rfl) ?_
    refine vp_callSi (W.runS (As := [.int q]) (rest := []) ⟨hx, hb, hml, hown, hT⟩ (c_kr_isPart l q) (va_cwS 1 hT (kt_S k_51 k_50 k_11 k_49) rfl rfl rfl (by decide +kernel) ⟨Nat.le_of_ble_eq_true rfl, Nat.le_of_ble_eq_true rfl⟩) ⟨bl_S, fun U hU hW => ⟨rfl, trivial⟩⟩ rfl rfl hl.1 rfl (lv_room (Nat.le_of_ble_eq_true rfl)) d_kr_digit_12 ⟨Nat.zero_le _, Nat.zero_le _⟩) (fun r_3 e_r_3 => ?_)
    subst e_r_3
    refine lv_if_eq (tgt := 28) hx hb d_kr_digit_15 (by decide) (fun c_4 => ?_) (fun c_4 => ?_)
    · refine lv_iconst (v := (-1)) hx hb d_kr_digit_28 (by decide) ?_
      exact W.iret (v := (-1)) hx hb hr (fun t ht hW => ⟨_, rfl, by unfold f_kr_digit; rw [if_neg c_2, if_pos c_4], ht⟩) t_nil d_kr_digit_29
    · refine lv_iload_n hx hb d_kr_digit_18 rfl (lv_at hl 3 rfl) ?_
      refine lv_if_lt (tgt := 28) hx hb d_kr_digit_19 (by decide) (fun c_5 => ?_) (fun c_5 => ?_)
      · refine lv_iconst (v := (-1)) hx hb d_kr_digit_28 (by decide) ?_
        exact W.iret (v := (-1)) hx hb hr (fun t ht hW => ⟨_, rfl, by unfold f_kr_digit; rw [if_neg c_2, if_neg c_4, if_pos c_5], ht⟩) t_nil d_kr_digit_29
      · refine lv_iload_n hx hb d_kr_digit_22 rfl (lv_at hl 3 rfl) ?_
        refine lv_bipush (v := 10) hx hb d_kr_digit_23 (by decide) ?_
        refine lv_icmp_lt (tgt := 30) hx hb d_kr_digit_25 (by decide) (fun c_6 => ?_) (fun c_6 => ?_)
        · refine lv_aload_n hx hb d_kr_digit_30 rfl (lv_at hl 0 rfl) ?_
          refine va_get (D := (dC, dI)) (ci := 0) (v := .ref a0) (C := R_kr) (T := F_kr) (N := 6) hx hb hT i_kr hown hK hP 0 rfl rfl 3 (by decide) (hT _ k_19) (fun _ h9 => h9) rfl d_kr_digit_31 ?_
          refine lv_iload_n hx hb d_kr_digit_34 rfl (lv_at hl 1 rfl) ?_
          refine lv_iload_n hx hb d_kr_digit_35 rfl (lv_at hl 2 rfl) ?_
          have hPc := hP.sub (ws' := [(a0, .inr (1, [.ref a1, .ref a2, .int cnt])), (a1, .inl (cU, 300, .inl fu)), (a2, .inl (cL, 300, .inl fl))]) [1, 2, 3] rfl
          have hKc := hK.sub (tys' := [(cU, .int), (cL, .int)]) [0, 1] rfl
          refine vp_callSi (W.runV (As := [.int a, .int q]) (rest := []) ⟨hx, hb, hml, hown, hT⟩ (c_kv_partOf l dC dI a0 a1 a2 cnt cU fu cL fl a q (in_has hc c_2)) (cwV 2 hT (kt_V k_55 k_53 k_54 k_2 k_52) rfl rfl rfl (by decide +kernel) ⟨Nat.le_of_ble_eq_true rfl, Nat.le_of_ble_eq_true rfl⟩) ⟨bl_R, va_recv hKc hPc (ci := 1) (q0 := 0) rfl rfl, fun U hU hW => ⟨rfl, by rw [hU]; exact hPc, va_K.moved hW.alike hKc⟩⟩ rfl rfl hl.1 rfl (lv_room (Nat.le_of_ble_eq_true rfl)) d_kr_digit_36 ⟨Nat.zero_le _, Nat.zero_le _⟩) (fun r_7 e_r_7 => ?_)
          subst e_r_7
          refine vp_callSi (W.runS (As := [.int (f_kv_partOf fu fl a q)]) (rest := []) ⟨hx, hb, hml, hown, hT⟩ (c_jm_abs l (f_kv_partOf fu fl a q)) (va_cwS 1 hT (kt_S k_58 k_57 k_40 k_56) rfl rfl rfl (by decide +kernel) ⟨Nat.le_of_ble_eq_true rfl, Nat.le_of_ble_eq_true rfl⟩) ⟨bl_S, fun U hU hW => ⟨rfl, trivial⟩⟩ rfl rfl hl.1 rfl (lv_room (Nat.le_of_ble_eq_true rfl)) d_kr_digit_39 ⟨Nat.zero_le _, Nat.zero_le _⟩) (fun r_8 e_r_8 => ?_)
          subst e_r_8
          refine lv_istore (lv' := [(4, .int (f_jm_abs (f_kv_partOf fu fl a q))), (0, .ref ak), (1, .int a), (2, .int q), (3, .int i)]) hx hb d_kr_digit_42 hl (by decide) rfl (fun ls hl => ?_)
          refine lv_iconst (v := 0) hx hb d_kr_digit_44 (by decide) ?_
          refine lv_istore (lv' := [(5, .int 0), (4, .int (f_jm_abs (f_kv_partOf fu fl a q))), (0, .ref ak), (1, .int a), (2, .int q), (3, .int i)]) hx hb d_kr_digit_45 hl (by decide) rfl (fun ls hl => ?_)
          obtain ⟨hi1, hi2⟩ := nI_self c_5
          exact lp_kr_digit (post := fun r => r = f_kr_digit cnt fu fl a q i) hx hb hr hlocks (nI_lt_of c_5 (by decide) c_6) hi1 i.toNatClampNeg 0 (f_jm_abs (f_kv_partOf fu fl a q)) (Nat.zero_add _) (by unfold f_kr_digit; rw [if_neg c_2, if_neg c_4, if_neg c_5, if_pos c_6]) (lv_sub hl [5, 1, 0] rfl)
        · refine lv_iconst (v := (-1)) hx hb d_kr_digit_28 (by decide) ?_
          exact W.iret (v := (-1)) hx hb hr (fun t ht hW => ⟨_, rfl, by unfold f_kr_digit; rw [if_neg c_2, if_neg c_4, if_neg c_5, if_neg c_6], ht⟩) t_nil d_kr_digit_29
end
section
abbrev b_kw_append : ByteArray := prog_4_method_2_code
def y_kw_append : MethodName := ⟨R_kw, "append", "(I)I"⟩
def w_kw_append : List Cond := .code y_kw_append b_kw_append 2 (some .int) :: kt_T
theorem d_kw_append_0 : decode b_kw_append 0 = .ok (.iload_n 1, 1) := by decide +kernel
theorem d_kw_append_1 : decode b_kw_append 1 = .ok (.ifCond .lt 18, 3) := by decide +kernel
theorem d_kw_append_4 : decode b_kw_append 4 = .ok (.iload_n 1, 1) := by decide +kernel
theorem d_kw_append_5 : decode b_kw_append 5 = .ok (.ldc 23, 2) := by decide +kernel
theorem d_kw_append_7 : decode b_kw_append 7 = .ok (.if_icmp .gt 12, 3) := by decide +kernel
theorem d_kw_append_10 : decode b_kw_append 10 = .ok (.aload_n 0, 1) := by decide +kernel
theorem d_kw_append_11 : decode b_kw_append 11 = .ok (.getfield 15, 3) := by decide +kernel
theorem d_kw_append_14 : decode b_kw_append 14 = .ok (.bipush 12, 2) := by decide +kernel
theorem d_kw_append_16 : decode b_kw_append 16 = .ok (.if_icmp .lt 5, 3) := by decide +kernel
theorem d_kw_append_19 : decode b_kw_append 19 = .ok (.iconst (-1), 1) := by decide +kernel
theorem d_kw_append_20 : decode b_kw_append 20 = .ok (.ireturn, 1) := by decide +kernel
theorem d_kw_append_21 : decode b_kw_append 21 = .ok (.aload_n 0, 1) := by decide +kernel
theorem d_kw_append_22 : decode b_kw_append 22 = .ok (.getfield 11, 3) := by decide +kernel
theorem d_kw_append_25 : decode b_kw_append 25 = .ok (.aload_n 0, 1) := by decide +kernel
theorem d_kw_append_26 : decode b_kw_append 26 = .ok (.getfield 15, 3) := by decide +kernel
theorem d_kw_append_29 : decode b_kw_append 29 = .ok (.iload_n 1, 1) := by decide +kernel
theorem d_kw_append_30 : decode b_kw_append 30 = .ok (.iastore, 1) := by decide +kernel
theorem d_kw_append_31 : decode b_kw_append 31 = .ok (.aload_n 0, 1) := by decide +kernel
theorem d_kw_append_32 : decode b_kw_append 32 = .ok (.dup, 1) := by decide +kernel
theorem d_kw_append_33 : decode b_kw_append 33 = .ok (.getfield 15, 3) := by decide +kernel
theorem d_kw_append_36 : decode b_kw_append 36 = .ok (.iconst 1, 1) := by decide +kernel
theorem d_kw_append_37 : decode b_kw_append 37 = .ok (.iadd, 1) := by decide +kernel
theorem d_kw_append_38 : decode b_kw_append 38 = .ok (.putfield 15, 3) := by decide +kernel
theorem d_kw_append_41 : decode b_kw_append 41 = .ok (.aload_n 0, 1) := by decide +kernel
theorem d_kw_append_42 : decode b_kw_append 42 = .ok (.dup, 1) := by decide +kernel
theorem d_kw_append_43 : decode b_kw_append 43 = .ok (.getfield 19, 3) := by decide +kernel
theorem d_kw_append_46 : decode b_kw_append 46 = .ok (.iload_n 1, 1) := by decide +kernel
theorem d_kw_append_47 : decode b_kw_append 47 = .ok (.i2l, 1) := by decide +kernel
theorem d_kw_append_48 : decode b_kw_append 48 = .ok (.ladd, 1) := by decide +kernel
theorem d_kw_append_49 : decode b_kw_append 49 = .ok (.putfield 19, 3) := by decide +kernel
theorem d_kw_append_52 : decode b_kw_append 52 = .ok (.aload_n 0, 1) := by decide +kernel
theorem d_kw_append_53 : decode b_kw_append 53 = .ok (.getfield 15, 3) := by decide +kernel
theorem d_kw_append_56 : decode b_kw_append 56 = .ok (.ireturn, 1) := by decide +kernel
abbrev b_kw_shareOf : ByteArray := prog_4_method_3_code
def y_kw_shareOf : MethodName := ⟨R_kw, "shareOf", "(JI)J"⟩
def w_kw_shareOf : List Cond := .code y_kw_shareOf b_kw_shareOf 14 (some .long) :: kt_T
theorem d_kw_shareOf_0 : decode b_kw_shareOf 0 = .ok (.iload_n 3, 1) := by decide +kernel
theorem d_kw_shareOf_1 : decode b_kw_shareOf 1 = .ok (.ifCond .lt 34, 3) := by decide +kernel
theorem d_kw_shareOf_4 : decode b_kw_shareOf 4 = .ok (.iload_n 3, 1) := by decide +kernel
theorem d_kw_shareOf_5 : decode b_kw_shareOf 5 = .ok (.aload_n 0, 1) := by decide +kernel
theorem d_kw_shareOf_6 : decode b_kw_shareOf 6 = .ok (.getfield 15, 3) := by decide +kernel
theorem d_kw_shareOf_9 : decode b_kw_shareOf 9 = .ok (.if_icmp .ge 26, 3) := by decide +kernel
theorem d_kw_shareOf_12 : decode b_kw_shareOf 12 = .ok (.lload_n 1, 1) := by decide +kernel
theorem d_kw_shareOf_13 : decode b_kw_shareOf 13 = .ok (.lconst 0, 1) := by decide +kernel
theorem d_kw_shareOf_14 : decode b_kw_shareOf 14 = .ok (.lcmp, 1) := by decide +kernel
theorem d_kw_shareOf_15 : decode b_kw_shareOf 15 = .ok (.ifCond .lt 20, 3) := by decide +kernel
theorem d_kw_shareOf_18 : decode b_kw_shareOf 18 = .ok (.lload_n 1, 1) := by decide +kernel
theorem d_kw_shareOf_19 : decode b_kw_shareOf 19 = .ok (.ldc2_w 24, 3) := by decide +kernel
theorem d_kw_shareOf_22 : decode b_kw_shareOf 22 = .ok (.lcmp, 1) := by decide +kernel
theorem d_kw_shareOf_23 : decode b_kw_shareOf 23 = .ok (.ifCond .gt 12, 3) := by decide +kernel
theorem d_kw_shareOf_26 : decode b_kw_shareOf 26 = .ok (.aload_n 0, 1) := by decide +kernel
theorem d_kw_shareOf_27 : decode b_kw_shareOf 27 = .ok (.getfield 19, 3) := by decide +kernel
theorem d_kw_shareOf_30 : decode b_kw_shareOf 30 = .ok (.lconst 1, 1) := by decide +kernel
theorem d_kw_shareOf_31 : decode b_kw_shareOf 31 = .ok (.lcmp, 1) := by decide +kernel
theorem d_kw_shareOf_32 : decode b_kw_shareOf 32 = .ok (.ifCond .ge 7, 3) := by decide +kernel
theorem d_kw_shareOf_35 : decode b_kw_shareOf 35 = .ok (.ldc2_w 26, 3) := by decide +kernel
theorem d_kw_shareOf_38 : decode b_kw_shareOf 38 = .ok (.lreturn, 1) := by decide +kernel
theorem d_kw_shareOf_39 : decode b_kw_shareOf 39 = .ok (.lload_n 1, 1) := by decide +kernel
theorem d_kw_shareOf_40 : decode b_kw_shareOf 40 = .ok (.aload_n 0, 1) := by decide +kernel
theorem d_kw_shareOf_41 : decode b_kw_shareOf 41 = .ok (.getfield 11, 3) := by decide +kernel
theorem d_kw_shareOf_44 : decode b_kw_shareOf 44 = .ok (.iload_n 3, 1) := by decide +kernel
theorem d_kw_shareOf_45 : decode b_kw_shareOf 45 = .ok (.iaload, 1) := by decide +kernel
theorem d_kw_shareOf_46 : decode b_kw_shareOf 46 = .ok (.i2l, 1) := by decide +kernel
theorem d_kw_shareOf_47 : decode b_kw_shareOf 47 = .ok (.lmul, 1) := by decide +kernel
theorem d_kw_shareOf_48 : decode b_kw_shareOf 48 = .ok (.aload_n 0, 1) := by decide +kernel
theorem d_kw_shareOf_49 : decode b_kw_shareOf 49 = .ok (.getfield 19, 3) := by decide +kernel
theorem d_kw_shareOf_52 : decode b_kw_shareOf 52 = .ok (.ldiv, 1) := by decide +kernel
theorem d_kw_shareOf_53 : decode b_kw_shareOf 53 = .ok (.lstore 4, 2) := by decide +kernel
theorem d_kw_shareOf_55 : decode b_kw_shareOf 55 = .ok (.lload_n 1, 1) := by decide +kernel
theorem d_kw_shareOf_56 : decode b_kw_shareOf 56 = .ok (.aload_n 0, 1) := by decide +kernel
theorem d_kw_shareOf_57 : decode b_kw_shareOf 57 = .ok (.getfield 11, 3) := by decide +kernel
theorem d_kw_shareOf_60 : decode b_kw_shareOf 60 = .ok (.iload_n 3, 1) := by decide +kernel
theorem d_kw_shareOf_61 : decode b_kw_shareOf 61 = .ok (.iaload, 1) := by decide +kernel
theorem d_kw_shareOf_62 : decode b_kw_shareOf 62 = .ok (.i2l, 1) := by decide +kernel
theorem d_kw_shareOf_63 : decode b_kw_shareOf 63 = .ok (.lmul, 1) := by decide +kernel
theorem d_kw_shareOf_64 : decode b_kw_shareOf 64 = .ok (.aload_n 0, 1) := by decide +kernel
theorem d_kw_shareOf_65 : decode b_kw_shareOf 65 = .ok (.getfield 19, 3) := by decide +kernel
theorem d_kw_shareOf_68 : decode b_kw_shareOf 68 = .ok (.lrem, 1) := by decide +kernel
theorem d_kw_shareOf_69 : decode b_kw_shareOf 69 = .ok (.lstore 6, 2) := by decide +kernel
theorem d_kw_shareOf_71 : decode b_kw_shareOf 71 = .ok (.lload_n 1, 1) := by decide +kernel
theorem d_kw_shareOf_72 : decode b_kw_shareOf 72 = .ok (.lstore 8, 2) := by decide +kernel
theorem d_kw_shareOf_74 : decode b_kw_shareOf 74 = .ok (.iconst 0, 1) := by decide +kernel
theorem d_kw_shareOf_75 : decode b_kw_shareOf 75 = .ok (.istore 10, 2) := by decide +kernel
theorem d_kw_shareOf_77 : decode b_kw_shareOf 77 = .ok (.iconst 0, 1) := by decide +kernel
theorem d_kw_shareOf_78 : decode b_kw_shareOf 78 = .ok (.istore 11, 2) := by decide +kernel
theorem d_kw_shareOf_80 : decode b_kw_shareOf 80 = .ok (.iload 11, 2) := by decide +kernel
theorem d_kw_shareOf_82 : decode b_kw_shareOf 82 = .ok (.aload_n 0, 1) := by decide +kernel
theorem d_kw_shareOf_83 : decode b_kw_shareOf 83 = .ok (.getfield 15, 3) := by decide +kernel
theorem d_kw_shareOf_86 : decode b_kw_shareOf 86 = .ok (.if_icmp .ge 71, 3) := by decide +kernel
theorem d_kw_shareOf_89 : decode b_kw_shareOf 89 = .ok (.lload_n 1, 1) := by decide +kernel
theorem d_kw_shareOf_90 : decode b_kw_shareOf 90 = .ok (.aload_n 0, 1) := by decide +kernel
theorem d_kw_shareOf_91 : decode b_kw_shareOf 91 = .ok (.getfield 11, 3) := by decide +kernel
theorem d_kw_shareOf_94 : decode b_kw_shareOf 94 = .ok (.iload 11, 2) := by decide +kernel
theorem d_kw_shareOf_96 : decode b_kw_shareOf 96 = .ok (.iaload, 1) := by decide +kernel
theorem d_kw_shareOf_97 : decode b_kw_shareOf 97 = .ok (.i2l, 1) := by decide +kernel
theorem d_kw_shareOf_98 : decode b_kw_shareOf 98 = .ok (.lmul, 1) := by decide +kernel
theorem d_kw_shareOf_99 : decode b_kw_shareOf 99 = .ok (.aload_n 0, 1) := by decide +kernel
theorem d_kw_shareOf_100 : decode b_kw_shareOf 100 = .ok (.getfield 19, 3) := by decide +kernel
theorem d_kw_shareOf_103 : decode b_kw_shareOf 103 = .ok (.lrem, 1) := by decide +kernel
theorem d_kw_shareOf_104 : decode b_kw_shareOf 104 = .ok (.lstore 12, 2) := by decide +kernel
theorem d_kw_shareOf_106 : decode b_kw_shareOf 106 = .ok (.lload 8, 2) := by decide +kernel
theorem d_kw_shareOf_108 : decode b_kw_shareOf 108 = .ok (.lload_n 1, 1) := by decide +kernel
theorem d_kw_shareOf_109 : decode b_kw_shareOf 109 = .ok (.aload_n 0, 1) := by decide +kernel
theorem d_kw_shareOf_110 : decode b_kw_shareOf 110 = .ok (.getfield 11, 3) := by decide +kernel
theorem d_kw_shareOf_113 : decode b_kw_shareOf 113 = .ok (.iload 11, 2) := by decide +kernel
theorem d_kw_shareOf_115 : decode b_kw_shareOf 115 = .ok (.iaload, 1) := by decide +kernel
theorem d_kw_shareOf_116 : decode b_kw_shareOf 116 = .ok (.i2l, 1) := by decide +kernel
theorem d_kw_shareOf_117 : decode b_kw_shareOf 117 = .ok (.lmul, 1) := by decide +kernel
theorem d_kw_shareOf_118 : decode b_kw_shareOf 118 = .ok (.aload_n 0, 1) := by decide +kernel
theorem d_kw_shareOf_119 : decode b_kw_shareOf 119 = .ok (.getfield 19, 3) := by decide +kernel
theorem d_kw_shareOf_122 : decode b_kw_shareOf 122 = .ok (.ldiv, 1) := by decide +kernel
theorem d_kw_shareOf_123 : decode b_kw_shareOf 123 = .ok (.lsub, 1) := by decide +kernel
theorem d_kw_shareOf_124 : decode b_kw_shareOf 124 = .ok (.lstore 8, 2) := by decide +kernel
theorem d_kw_shareOf_126 : decode b_kw_shareOf 126 = .ok (.lload 12, 2) := by decide +kernel
theorem d_kw_shareOf_128 : decode b_kw_shareOf 128 = .ok (.lload 6, 2) := by decide +kernel
theorem d_kw_shareOf_130 : decode b_kw_shareOf 130 = .ok (.lcmp, 1) := by decide +kernel
theorem d_kw_shareOf_131 : decode b_kw_shareOf 131 = .ok (.ifCond .gt 17, 3) := by decide +kernel
theorem d_kw_shareOf_134 : decode b_kw_shareOf 134 = .ok (.lload 12, 2) := by decide +kernel
theorem d_kw_shareOf_136 : decode b_kw_shareOf 136 = .ok (.lload 6, 2) := by decide +kernel
theorem d_kw_shareOf_138 : decode b_kw_shareOf 138 = .ok (.lcmp, 1) := by decide +kernel
theorem d_kw_shareOf_139 : decode b_kw_shareOf 139 = .ok (.ifCond .ne 12, 3) := by decide +kernel
theorem d_kw_shareOf_142 : decode b_kw_shareOf 142 = .ok (.iload 11, 2) := by decide +kernel
theorem d_kw_shareOf_144 : decode b_kw_shareOf 144 = .ok (.iload_n 3, 1) := by decide +kernel
theorem d_kw_shareOf_145 : decode b_kw_shareOf 145 = .ok (.if_icmp .ge 6, 3) := by decide +kernel
theorem d_kw_shareOf_148 : decode b_kw_shareOf 148 = .ok (.iinc 10 1, 3) := by decide +kernel
theorem d_kw_shareOf_151 : decode b_kw_shareOf 151 = .ok (.iinc 11 1, 3) := by decide +kernel
theorem d_kw_shareOf_154 : decode b_kw_shareOf 154 = .ok (.goto (-74), 3) := by decide +kernel
theorem d_kw_shareOf_157 : decode b_kw_shareOf 157 = .ok (.iload 10, 2) := by decide +kernel
theorem d_kw_shareOf_159 : decode b_kw_shareOf 159 = .ok (.i2l, 1) := by decide +kernel
theorem d_kw_shareOf_160 : decode b_kw_shareOf 160 = .ok (.lload 8, 2) := by decide +kernel
theorem d_kw_shareOf_162 : decode b_kw_shareOf 162 = .ok (.lcmp, 1) := by decide +kernel
theorem d_kw_shareOf_163 : decode b_kw_shareOf 163 = .ok (.ifCond .ge 10, 3) := by decide +kernel
theorem d_kw_shareOf_166 : decode b_kw_shareOf 166 = .ok (.lload 4, 2) := by decide +kernel
theorem d_kw_shareOf_168 : decode b_kw_shareOf 168 = .ok (.lconst 1, 1) := by decide +kernel
theorem d_kw_shareOf_169 : decode b_kw_shareOf 169 = .ok (.ladd, 1) := by decide +kernel
theorem d_kw_shareOf_170 : decode b_kw_shareOf 170 = .ok (.goto 5, 3) := by decide +kernel
theorem d_kw_shareOf_173 : decode b_kw_shareOf 173 = .ok (.lload 4, 2) := by decide +kernel
theorem d_kw_shareOf_175 : decode b_kw_shareOf 175 = .ok (.lreturn, 1) := by decide +kernel
abbrev b_kr_weight : ByteArray := prog_1_method_18_code
def y_kr_weight : MethodName := ⟨R_kr, "weight", "(I)I"⟩
def w_kr_weight : List Cond := .code y_kr_weight b_kr_weight 2 (some .int) :: kt_T
theorem d_kr_weight_0 : decode b_kr_weight 0 = .ok (.aload_n 0, 1) := by decide +kernel
theorem d_kr_weight_1 : decode b_kr_weight 1 = .ok (.getfield 43, 3) := by decide +kernel
theorem d_kr_weight_4 : decode b_kr_weight 4 = .ok (.iload_n 1, 1) := by decide +kernel
theorem d_kr_weight_5 : decode b_kr_weight 5 = .ok (.invokevirtual 137, 3) := by decide +kernel
theorem d_kr_weight_8 : decode b_kr_weight 8 = .ok (.ireturn, 1) := by decide +kernel
abbrev b_kr_share : ByteArray := prog_1_method_19_code
def y_kr_share : MethodName := ⟨R_kr, "share", "(JI)J"⟩
def w_kr_share : List Cond := .code y_kr_share b_kr_share 4 (some .long) :: kt_T
theorem d_kr_share_0 : decode b_kr_share 0 = .ok (.aload_n 0, 1) := by decide +kernel
theorem d_kr_share_1 : decode b_kr_share 1 = .ok (.getfield 43, 3) := by decide +kernel
theorem d_kr_share_4 : decode b_kr_share 4 = .ok (.lload_n 1, 1) := by decide +kernel
theorem d_kr_share_5 : decode b_kr_share 5 = .ok (.iload_n 3, 1) := by decide +kernel
theorem d_kr_share_6 : decode b_kr_share 6 = .ok (.invokevirtual 140, 3) := by decide +kernel
theorem d_kr_share_9 : decode b_kr_share 9 = .ok (.lreturn, 1) := by decide +kernel
theorem k_59 : (.constant R_kw 23 1000000 : Cond) ∈ kt_T := List.mem_filter.mpr ⟨List.mem_of_getElem? (i := 263) (by decide +kernel), by decide +kernel⟩
theorem k_60 : (.fieldLink R_kw 15 "KilogramRows$Weights" "count" "I" : Cond) ∈ kt_T := List.mem_filter.mpr ⟨List.mem_of_getElem? (i := 93) (by decide +kernel), by decide +kernel⟩
theorem k_61 : (.fieldLink R_kw 11 "KilogramRows$Weights" "sizes" "[I" : Cond) ∈ kt_T := List.mem_filter.mpr ⟨List.mem_of_getElem? (i := 92) (by decide +kernel), by decide +kernel⟩
theorem k_62 : (.fieldLink R_kw 19 "KilogramRows$Weights" "all" "J" : Cond) ∈ kt_T := List.mem_filter.mpr ⟨List.mem_of_getElem? (i := 94) (by decide +kernel), by decide +kernel⟩
theorem k_63 : (.constantLong R_kw 26 (-1) : Cond) ∈ kt_T := List.mem_filter.mpr ⟨List.mem_of_getElem? (i := 273) (by decide +kernel), by decide +kernel⟩
theorem k_64 : (.constantLong R_kw 24 1000000000000 : Cond) ∈ kt_T := List.mem_filter.mpr ⟨List.mem_of_getElem? (i := 272) (by decide +kernel), by decide +kernel⟩
theorem k_65 : (.fieldLink R_kr 43 "KilogramRows" "weights" "LKilogramRows$Weights;" : Cond) ∈ kt_T := List.mem_filter.mpr ⟨List.mem_of_getElem? (i := 107) (by decide +kernel), by decide +kernel⟩
theorem k_66 : (.code y_kw_append b_kw_append 2 (some .int) : Cond) ∈ kt_T := List.mem_filter.mpr ⟨List.mem_of_getElem? (i := 262) (by decide +kernel), by decide +kernel⟩
theorem k_67 : (.initialized R_kw : Cond) ∈ kt_T := List.mem_filter.mpr ⟨List.mem_of_getElem? (i := 20) (by decide +kernel), by decide +kernel⟩
theorem k_68 : (.instanceMethod y_kw_append : Cond) ∈ kt_T := List.mem_filter.mpr ⟨List.mem_of_getElem? (i := 260) (by decide +kernel), by decide +kernel⟩
theorem k_69 : (.selects R_kw y_kw_append y_kw_append : Cond) ∈ kt_T := List.mem_filter.mpr ⟨List.mem_of_getElem? (i := 261) (by decide +kernel), by decide +kernel⟩
theorem k_70 : (.methodLink R_kr 137 y_kw_append : Cond) ∈ kt_T := List.mem_filter.mpr ⟨List.mem_of_getElem? (i := 259) (by decide +kernel), by decide +kernel⟩
theorem k_71 : (.code y_kw_shareOf b_kw_shareOf 14 (some .long) : Cond) ∈ kt_T := List.mem_filter.mpr ⟨List.mem_of_getElem? (i := 271) (by decide +kernel), by decide +kernel⟩
theorem k_72 : (.instanceMethod y_kw_shareOf : Cond) ∈ kt_T := List.mem_filter.mpr ⟨List.mem_of_getElem? (i := 269) (by decide +kernel), by decide +kernel⟩
theorem k_73 : (.selects R_kw y_kw_shareOf y_kw_shareOf : Cond) ∈ kt_T := List.mem_filter.mpr ⟨List.mem_of_getElem? (i := 270) (by decide +kernel), by decide +kernel⟩
theorem k_74 : (.methodLink R_kr 140 y_kw_shareOf : Cond) ∈ kt_T := List.mem_filter.mpr ⟨List.mem_of_getElem? (i := 268) (by decide +kernel), by decide +kernel⟩
theorem in_wc {wc : Int32} (hw : vp_in wc 13) (h : wc < 12) : vp_in wc 12 := by
  rw [vp_in_iff] at hw ⊢
  rw [Int32.lt_iff_toInt_lt] at h
  have h3 : (12 : Int32).toInt = 12 := by decide
  omega
theorem in_k {wc k : Int32} (hw : vp_in wc 13) (h0 : ¬ k < 0) (h : ¬ wc ≤ k) : vp_in k 12 := by
  rw [vp_in_iff] at hw ⊢
  rw [Int32.le_iff_toInt_le] at h
  rw [Int32.lt_iff_toInt_lt, Int32.toInt_zero] at h0
  omega
def f_kw_append (wc : Int32) (all : Int64) (fz : Nat → Int32) (w : Int32) : Int32 × (Nat → Int32) × Int32 × Int64 :=
  if w < 0 then ((-1), fz, wc, all) else if 1000000 < w then ((-1), fz, wc, all) else if wc < 12 then (wc + 1, upd fz wc.toNatClampNeg w, wc + 1, all + w.toInt64) else ((-1), fz, wc, all)
set_option maxHeartbeats 4000000 in
set_option maxRecDepth 100000 in
theorem c_kw_append (l : Launch) (dC : Nat → ClassId) (dI : Nat → Nat → Nat) (sz : Nat) (a_w : Nat) (a_z : Nat) (wc : Int32) (all : Int64) (cZ : ClassId) (fz : Nat → Int32) (w : Int32) (hwc : vp_in wc 13) : Met l y_kw_append w_kw_append ({ frames := 0, cells := 0, slots := 0, locals := 0 }) (va_Pc [.ref a_w, .int w] (fun U => U.heap.size = sz ∧ va_P (dC, dI) classes [(a_w, .inr (3, [.ref a_z, .int wc, .long all])), (a_z, .inl (cZ, 12, .inl fz))] U.heap ∧ va_K (dC, dI) classes [(cZ, .int)] U ∧ va_D (fun _ => True) [(a_w, .inr (3, [.ref a_z, .int wc, .long all])), (a_z, .inl (cZ, 12, .inl fz))])) (va_Qi (fun z9 u9 => (z9, u9) = f_kw_append wc all fz w) (fun (u : (Nat → Int32) × Int32 × Int64) t => match u with | (fz', wc', all') => va_P (dC, dI) classes [(a_w, .inr (3, [.ref a_z, .int wc', .long all'])), (a_z, .inl (cZ, 12, .inl fz'))] t.heap ∧ va_K (dC, dI) classes [(cZ, .int)] t ∧ va_D (va_A [(a_w, .inr (3, [.ref a_z, .int wc, .long all])), (a_z, .inl (cZ, 12, .inl fz))] sz) [(a_w, .inr (3, [.ref a_z, .int wc', .long all'])), (a_z, .inl (cZ, 12, .inl fz'))]) (va_A [(a_w, .inr (3, [.ref a_z, .int wc, .long all])), (a_z, .inl (cZ, 12, .inl fz))] sz)) 0 0 (va_A [(a_w, .inr (3, [.ref a_z, .int wc, .long all])), (a_z, .inl (cZ, 12, .inl fz))] sz) := by
  refine Met.ofW (cc := b_kw_append) (maxL := 2) (ret := (some .int)) (by decide +kernel) rfl ?_
  intro p e s m args below meth c s₁ B hml hv
  obtain ⟨rfl, hsz, hP, hK, hD0⟩ := hv
  have hx := B.exec
  have hb := B.bytes
  have hr := B.returns
  have hts := atoms_spec (ws := w_kw_append) B.pre
  have hT := fun (w : Cond) (h : w ∈ kt_T) => hts w (List.mem_cons_of_mem _ h)
  have hown : s.vm.findClass R_kw = some m.cls := findClass_of_methodNamed B.named
  have hlocks := B.notSynchronized
  subst hsz
  have hD := hD0.self (sz := s.heap.size)
  generalize hAe : va_A [(a_w, .inr (3, [.ref a_z, .int wc, .long all])), (a_z, .inl (cZ, 12, .inl fz))] s.heap.size = A at hD ⊢
  have hA : ∀ q : Nat, s.heap.size ≤ q → A q := fun q h => by rw [← hAe]; exact Or.inr h
  have hS : va_S A s.heap s.heap [] := va_S.rf
  have hl := lv_entry ([.ref a_w, .int w]) (n := 2) (Nat.le_of_ble_eq_true rfl)
  rw [lg_entry_eq]
  generalize (lg_sl ([.ref a_w, .int w]) ++ List.replicate (2 - (lg_sl ([.ref a_w, .int w])).length) Slot.unset).toArray = ls at hl ⊢
  have hl : lv_has ls 2 [(0, .ref a_w), (1, .int w)] := hl
  refine lv_iload_n hx hb d_kw_append_0 rfl (lv_at hl 1 rfl) ?_
  refine lv_if_lt (tgt := 19) hx hb d_kw_append_1 (by decide) (fun c_1 => ?_) (fun c_1 => ?_)
  · refine lv_iconst (v := (-1)) hx hb d_kw_append_19 (by decide) ?_
    exact W.iret (v := (-1)) hx hb hr (fun t ht hW => ⟨⟨(-1), (fz, wc, all), rfl, by unfold f_kw_append; rw [if_pos c_1], by rw [ht]; exact hP, va_K.moved hW.alike hK, hD⟩, hS.F ht⟩) hS.2.2 d_kw_append_20
  · refine lv_iload_n hx hb d_kw_append_4 rfl (lv_at hl 1 rfl) ?_
    refine lv_ldc (v := 1000000) hx hb hown (hT _ k_59) d_kw_append_5 ?_
    refine lv_icmp_gt (tgt := 19) hx hb d_kw_append_7 (by decide) (fun c_2 => ?_) (fun c_2 => ?_)
    · refine lv_iconst (v := (-1)) hx hb d_kw_append_19 (by decide) ?_
      exact W.iret (v := (-1)) hx hb hr (fun t ht hW => ⟨⟨(-1), (fz, wc, all), rfl, by unfold f_kw_append; rw [if_neg c_1, if_pos c_2], by rw [ht]; exact hP, va_K.moved hW.alike hK, hD⟩, hS.F ht⟩) hS.2.2 d_kw_append_20
    · refine lv_aload_n hx hb d_kw_append_10 rfl (lv_at hl 0 rfl) ?_
      refine va_get (D := (dC, dI)) (ci := 3) (v := .int wc) (C := R_kw) (T := F_kw) (N := 3) hx hb hT i_kw hown hK hP 0 rfl rfl 1 (by decide) (hT _ k_60) (fun _ h9 => h9) rfl d_kw_append_11 ?_
      refine lv_bipush (v := 12) hx hb d_kw_append_14 (by decide) ?_
      refine lv_icmp_lt (tgt := 21) hx hb d_kw_append_16 (by decide) (fun c_3 => ?_) (fun c_3 => ?_)
      · refine lv_aload_n hx hb d_kw_append_21 rfl (lv_at hl 0 rfl) ?_
        refine va_get (D := (dC, dI)) (ci := 3) (v := .ref a_z) (C := R_kw) (T := F_kw) (N := 3) hx hb hT i_kw hown hK hP 0 rfl rfl 0 (by decide) (hT _ k_61) (fun _ h9 => h9) rfl d_kw_append_22 ?_
        refine lv_aload_n hx hb d_kw_append_25 rfl (lv_at hl 0 rfl) ?_
        refine va_get (D := (dC, dI)) (ci := 3) (v := .int wc) (C := R_kw) (T := F_kw) (N := 3) hx hb hT i_kw hown hK hP 0 rfl rfl 1 (by decide) (hT _ k_60) (fun _ h9 => h9) rfl d_kw_append_26 ?_
        refine lv_iload_n hx hb d_kw_append_29 rfl (lv_at hl 1 rfl) ?_
        refine va_iast hx hb hK hP hD hS 1 0 rfl rfl (in_wc hwc c_3) d_kw_append_30 (fun H locs hP hD hS => ?_)
        have hP : va_P (dC, dI) classes [(a_w, .inr (3, [.ref a_z, .int wc, .long all])), (a_z, .inl (cZ, 12, .inl (upd fz wc.toNatClampNeg w)))] H := hP
        have hD : va_D A [(a_w, .inr (3, [.ref a_z, .int wc, .long all])), (a_z, .inl (cZ, 12, .inl (upd fz wc.toNatClampNeg w)))] := hD
        refine lv_aload_n hx hb d_kw_append_31 rfl (lv_at hl 0 rfl) ?_
        refine lv_dup hx hb d_kw_append_32 rfl ?_
        refine va_get (D := (dC, dI)) (ci := 3) (v := .int wc) (C := R_kw) (T := F_kw) (N := 3) hx hb hT i_kw hown hK hP 0 rfl rfl 1 (by decide) (hT _ k_60) (fun _ h9 => h9) rfl d_kw_append_33 ?_
        refine lv_iconst (v := 1) hx hb d_kw_append_36 (by decide) ?_
        refine lv_iadd hx hb d_kw_append_37 ?_
        refine va_put (D := (dC, dI)) (ci := 3) (v := .int (wc + 1)) (ty := .int) (C := R_kw) (T := F_kw) (N := 3) hx hb hT i_kw t_kw t_kw_ok n_kw hown hK hP hD hS 0 rfl rfl 1 (by decide) (hT _ k_60) (fun _ h9 => h9) rfl (by decide +kernel) rfl rfl (Nat.le_of_ble_eq_true rfl) d_kw_append_38 (fun H locs hP hD hS => ?_)
        have hP : va_P (dC, dI) classes [(a_w, .inr (3, [.ref a_z, .int (wc + 1), .long all])), (a_z, .inl (cZ, 12, .inl (upd fz wc.toNatClampNeg w)))] H := hP
        have hD : va_D A [(a_w, .inr (3, [.ref a_z, .int (wc + 1), .long all])), (a_z, .inl (cZ, 12, .inl (upd fz wc.toNatClampNeg w)))] := hD
        refine lv_aload_n hx hb d_kw_append_41 rfl (lv_at hl 0 rfl) ?_
        refine lv_dup hx hb d_kw_append_42 rfl ?_
        refine va_get (D := (dC, dI)) (ci := 3) (v := .long all) (C := R_kw) (T := F_kw) (N := 3) hx hb hT i_kw hown hK hP 0 rfl rfl 2 (by decide) (hT _ k_62) (fun _ h9 => h9) rfl d_kw_append_43 ?_
        refine lv_iload_n hx hb d_kw_append_46 rfl (lv_at hl 1 rfl) ?_
        refine lv_i2l (v := w.toInt64) hx hb d_kw_append_47 rfl ?_
        refine lv_ladd hx hb d_kw_append_48 ?_
        refine va_put (D := (dC, dI)) (ci := 3) (v := .long (all + w.toInt64)) (ty := .long) (C := R_kw) (T := F_kw) (N := 3) hx hb hT i_kw t_kw t_kw_ok n_kw hown hK hP hD hS 0 rfl rfl 2 (by decide) (hT _ k_62) (fun _ h9 => h9) rfl (by decide +kernel) rfl rfl (Nat.le_of_ble_eq_true rfl) d_kw_append_49 (fun H locs hP hD hS => ?_)
        have hP : va_P (dC, dI) classes [(a_w, .inr (3, [.ref a_z, .int (wc + 1), .long (all + w.toInt64)])), (a_z, .inl (cZ, 12, .inl (upd fz wc.toNatClampNeg w)))] H := hP
        have hD : va_D A [(a_w, .inr (3, [.ref a_z, .int (wc + 1), .long (all + w.toInt64)])), (a_z, .inl (cZ, 12, .inl (upd fz wc.toNatClampNeg w)))] := hD
        refine lv_aload_n hx hb d_kw_append_52 rfl (lv_at hl 0 rfl) ?_
        refine va_get (D := (dC, dI)) (ci := 3) (v := .int (wc + 1)) (C := R_kw) (T := F_kw) (N := 3) hx hb hT i_kw hown hK hP 0 rfl rfl 1 (by decide) (hT _ k_60) (fun _ h9 => h9) rfl d_kw_append_53 ?_
        exact W.iret (v := wc + 1) hx hb hr (fun t ht hW => ⟨⟨wc + 1, (upd fz wc.toNatClampNeg w, wc + 1, all + w.toInt64), rfl, by unfold f_kw_append; rw [if_neg c_1, if_neg c_2, if_pos c_3], by rw [ht]; exact hP, va_K.moved hW.alike hK, hD⟩, hS.F ht⟩) hS.2.2 d_kw_append_56
      · refine lv_iconst (v := (-1)) hx hb d_kw_append_19 (by decide) ?_
        exact W.iret (v := (-1)) hx hb hr (fun t ht hW => ⟨⟨(-1), (fz, wc, all), rfl, by unfold f_kw_append; rw [if_neg c_1, if_neg c_2, if_neg c_3], by rw [ht]; exact hP, va_K.moved hW.alike hK, hD⟩, hS.F ht⟩) hS.2.2 d_kw_append_20
/-- the loop of shareOf: n weights are left, from j on -/
def shL (fz : Nat → Int32) (all whole : Int64) (k : Int32) (rest : Int64) : Nat → Nat → Int64 → Int32 → Int64 × Int32
  | 0, _, lf, ah => (lf, ah)
  | n + 1, j, lf, ah =>
    if rest < (whole * (fz j).toInt64) - (whole * (fz j).toInt64) / all * all then shL fz all whole k rest n (j + 1) (lf - (whole * (fz j).toInt64) / all) (ah + 1)
    else if (whole * (fz j).toInt64) - (whole * (fz j).toInt64) / all * all = rest then (if k ≤ nI j then shL fz all whole k rest n (j + 1) (lf - (whole * (fz j).toInt64) / all) ah else shL fz all whole k rest n (j + 1) (lf - (whole * (fz j).toInt64) / all) (ah + 1))
    else shL fz all whole k rest n (j + 1) (lf - (whole * (fz j).toInt64) / all) ah
def kw_shareE (own : Int64) (lf : Int64) (ah : Int32) : Int64 :=
  if lf ≤ ah.toInt64 then own else (own + 1)
set_option maxHeartbeats 4000000 in
theorem tl_kw_share {p : Program} {l : Launch} {e : Env} {R : Room} {s : State} {m : MethodId} {args : Array Value} {below : List Frame} {meth : Method} {c : Code} (hx : p.tables.exec = Jvm.exec) (hb : c.code = b_kw_shareOf) (hr : meth.sig.returnType = (some .long)) (hlocks : meth.locks = false) {post : Int64 → Prop} {own lf : Int64} {ah : Int32} (hq : post (kw_shareE own lf ah)) {ls : Array Slot} (hl : lv_has ls 14 [(4, .long own), (8, .long lf), (10, .int ah)]) :
    W p l e R s m args below meth c s.heap [] 0 0 (MQ below (vp_Sl post) args s 0 0 (fun _ => False)) (F0 m 157 ls []) := by
  refine lv_iload hx hb d_kw_shareOf_157 (lv_at hl 2 rfl) ?_
  refine lv_i2l (v := ah.toInt64) hx hb d_kw_shareOf_159 rfl ?_
  refine lv_lload hx hb d_kw_shareOf_160 (lv_at hl 1 rfl) ?_
  refine lx_ifge (tgt := 173) hx hb d_kw_shareOf_162 d_kw_shareOf_163 (by decide) (fun c_1 => ?_) (fun c_1 => ?_)
  · refine lv_lload hx hb d_kw_shareOf_173 (lv_at hl 0 rfl) ?_
    exact W.lret (v := own) hx hb hr (fun t ht hW => ⟨_, rfl, by unfold kw_shareE at hq; rw [if_pos c_1] at hq; exact hq, ht⟩) t_nil d_kw_shareOf_175
  · refine lv_lload hx hb d_kw_shareOf_166 (lv_at hl 0 rfl) ?_
    refine lv_lconst (v := 1) hx hb d_kw_shareOf_168 (by decide) ?_
    refine lv_ladd hx hb d_kw_shareOf_169 ?_
    refine lv_goto (tgt := 175) hx hb d_kw_shareOf_170 (by decide) ?_
    exact W.lret (v := own + 1) hx hb hr (fun t ht hW => ⟨_, rfl, by unfold kw_shareE at hq; rw [if_neg c_1] at hq; exact hq, ht⟩) t_nil d_kw_shareOf_175
set_option maxHeartbeats 4000000 in
theorem lp_kw_share {p : Program} {l : Launch} {e : Env} {R : Room} {s : State} {m : MethodId} {args : Array Value} {below : List Frame} {meth : Method} {c : Code} {dC : Nat → ClassId} {dI : Nat → Nat → Nat} (hx : p.tables.exec = Jvm.exec) (hb : c.code = b_kw_shareOf) (hr : meth.sig.returnType = (some .long)) (hlocks : meth.locks = false) {post : Int64 → Prop} {a_w : Nat} {a_z : Nat} {wc : Int32} {all : Int64} {cZ : ClassId} {fz : Nat → Int32} {whole : Int64} {k : Int32} {own rest : Int64} {N : Nat} (hT : ∀ w ∈ kt_T, w.before args s = true) (hown : s.vm.findClass R_kw = some m.cls) (hK : va_K (dC, dI) classes [(cZ, .int)] s) (hP : va_P (dC, dI) classes [(a_w, .inr (3, [.ref a_z, .int wc, .long all])), (a_z, .inl (cZ, 12, .inl fz))] s.heap) (h0 : ¬ all = 0) (hN : N ≤ 12) (hN2 : wc = nI N) :
    ∀ (n j : Nat) (lf : Int64) (ah : Int32), j + n = N → post (kw_shareE own (shL fz all whole k rest n j lf ah).1 (shL fz all whole k rest n j lf ah).2) → ∀ {ls : Array Slot}, lv_has ls 14 [(0, .ref a_w), (1, .long whole), (3, .int k), (4, .long own), (6, .long rest), (8, .long lf), (10, .int ah), (11, .int (nI j))] → W p l e R s m args below meth c s.heap [] 0 0 (MQ below (vp_Sl post) args s 0 0 (fun _ => False)) (F0 m 80 ls []) := by
  intro n
  induction n with
  | zero =>
    intro j lf ah hj hq ls hl
    refine lv_iload hx hb d_kw_shareOf_80 (lv_at hl 7 rfl) ?_
    refine lv_aload_n hx hb d_kw_shareOf_82 rfl (lv_at hl 0 rfl) ?_
    refine va_get (D := (dC, dI)) (ci := 3) (v := .int wc) (C := R_kw) (T := F_kw) (N := 3) hx hb hT i_kw hown hK hP 0 rfl rfl 1 (by decide) (hT _ k_60) (fun _ h9 => h9) rfl d_kw_shareOf_83 ?_
    refine lv_icmp_ge (tgt := 157) hx hb d_kw_shareOf_86 (by decide) (fun c_2 => ?_) (fun c_2 => ?_)
    · exact tl_kw_share hx hb hr hlocks hq (lv_sub hl [3, 5, 6] rfl)
    · exact absurd (by rw [hN2, ← hj]; exact nI_le (Nat.le_refl _) (by omega)) c_2
  | succ n ih =>
    intro j lf ah hj hq ls hl
    refine lv_iload hx hb d_kw_shareOf_80 (lv_at hl 7 rfl) ?_
    refine lv_aload_n hx hb d_kw_shareOf_82 rfl (lv_at hl 0 rfl) ?_
    refine va_get (D := (dC, dI)) (ci := 3) (v := .int wc) (C := R_kw) (T := F_kw) (N := 3) hx hb hT i_kw hown hK hP 0 rfl rfl 1 (by decide) (hT _ k_60) (fun _ h9 => h9) rfl d_kw_shareOf_83 ?_
    refine lv_icmp_ge (tgt := 157) hx hb d_kw_shareOf_86 (by decide) (fun c_3 => ?_) (fun c_3 => ?_)
    · exact absurd c_3 (by rw [hN2]; exact nI_ge (by omega) (by omega))
    · refine lv_lload_n hx hb d_kw_shareOf_89 rfl (lv_at hl 1 rfl) ?_
      refine lv_aload_n hx hb d_kw_shareOf_90 rfl (lv_at hl 0 rfl) ?_
      refine va_get (D := (dC, dI)) (ci := 3) (v := .ref a_z) (C := R_kw) (T := F_kw) (N := 3) hx hb hT i_kw hown hK hP 0 rfl rfl 0 (by decide) (hT _ k_61) (fun _ h9 => h9) rfl d_kw_shareOf_91 ?_
      refine lv_iload hx hb d_kw_shareOf_94 (lv_at hl 7 rfl) ?_
      refine va_ialdN (i := j) hx hb hK hP 1 0 rfl rfl ⟨by omega, by decide⟩ d_kw_shareOf_96 ?_
      refine lv_i2l (v := (fz j).toInt64) hx hb d_kw_shareOf_97 rfl ?_
      refine lv_lmul hx hb d_kw_shareOf_98 ?_
      refine lv_aload_n hx hb d_kw_shareOf_99 rfl (lv_at hl 0 rfl) ?_
      refine va_get (D := (dC, dI)) (ci := 3) (v := .long all) (C := R_kw) (T := F_kw) (N := 3) hx hb hT i_kw hown hK hP 0 rfl rfl 2 (by decide) (hT _ k_62) (fun _ h9 => h9) rfl d_kw_shareOf_100 ?_
      refine lv_lrem hx hb d_kw_shareOf_103 h0 ?_
      refine lv_lstore (lv' := [(12, .long ((whole * ((fz j).toInt64)) - (whole * ((fz j).toInt64)) / all * all)), (0, .ref a_w), (1, .long whole), (3, .int k), (4, .long own), (6, .long rest), (8, .long lf), (10, .int ah), (11, .int (nI j))]) hx hb d_kw_shareOf_104 hl (by decide) rfl (fun ls hl => ?_)
      refine lv_lload hx hb d_kw_shareOf_106 (lv_at hl 6 rfl) ?_
      refine lv_lload_n hx hb d_kw_shareOf_108 rfl (lv_at hl 2 rfl) ?_
      refine lv_aload_n hx hb d_kw_shareOf_109 rfl (lv_at hl 1 rfl) ?_
      refine va_get (D := (dC, dI)) (ci := 3) (v := .ref a_z) (C := R_kw) (T := F_kw) (N := 3) hx hb hT i_kw hown hK hP 0 rfl rfl 0 (by decide) (hT _ k_61) (fun _ h9 => h9) rfl d_kw_shareOf_110 ?_
      refine lv_iload hx hb d_kw_shareOf_113 (lv_at hl 8 rfl) ?_
      refine va_ialdN (i := j) hx hb hK hP 1 0 rfl rfl ⟨by omega, by decide⟩ d_kw_shareOf_115 ?_
      refine lv_i2l (v := (fz j).toInt64) hx hb d_kw_shareOf_116 rfl ?_
      refine lv_lmul hx hb d_kw_shareOf_117 ?_
      refine lv_aload_n hx hb d_kw_shareOf_118 rfl (lv_at hl 1 rfl) ?_
      refine va_get (D := (dC, dI)) (ci := 3) (v := .long all) (C := R_kw) (T := F_kw) (N := 3) hx hb hT i_kw hown hK hP 0 rfl rfl 2 (by decide) (hT _ k_62) (fun _ h9 => h9) rfl d_kw_shareOf_119 ?_
      refine lv_ldiv hx hb d_kw_shareOf_122 h0 ?_
      refine lv_lsub hx hb d_kw_shareOf_123 ?_
      refine lv_lstore (lv' := [(8, .long (lf - ((whole * ((fz j).toInt64)) / all))), (12, .long ((whole * ((fz j).toInt64)) - (whole * ((fz j).toInt64)) / all * all)), (0, .ref a_w), (1, .long whole), (3, .int k), (4, .long own), (6, .long rest), (10, .int ah), (11, .int (nI j))]) hx hb d_kw_shareOf_124 hl (by decide) rfl (fun ls hl => ?_)
      refine lv_lload hx hb d_kw_shareOf_126 (lv_at hl 1 rfl) ?_
      refine lv_lload hx hb d_kw_shareOf_128 (lv_at hl 6 rfl) ?_
      refine lx_ifgt (tgt := 148) hx hb d_kw_shareOf_130 d_kw_shareOf_131 (by decide) (fun c_4 => ?_) (fun c_4 => ?_)
      · refine lv_iinc (v := ah + 1) (lv' := [(10, .int (ah + 1)), (8, .long (lf - ((whole * ((fz j).toInt64)) / all))), (12, .long ((whole * ((fz j).toInt64)) - (whole * ((fz j).toInt64)) / all * all)), (0, .ref a_w), (1, .long whole), (3, .int k), (4, .long own), (6, .long rest), (11, .int (nI j))]) hx hb d_kw_shareOf_148 hl (k := 7) rfl rfl (by decide) rfl (fun ls hl => ?_)
        refine lv_iinc (v := (nI j) + 1) (lv' := [(11, .int ((nI j) + 1)), (10, .int (ah + 1)), (8, .long (lf - ((whole * ((fz j).toInt64)) / all))), (12, .long ((whole * ((fz j).toInt64)) - (whole * ((fz j).toInt64)) / all * all)), (0, .ref a_w), (1, .long whole), (3, .int k), (4, .long own), (6, .long rest)]) hx hb d_kw_shareOf_151 hl (k := 8) rfl rfl (by decide) rfl (fun ls hl => ?_)
        refine lv_goto (tgt := 80) hx hb d_kw_shareOf_154 (by decide) ?_
        exact ih (j + 1) _ _ (by omega) (by rw [shL, if_pos c_4] at hq; exact hq) (by have h9 := lv_sub hl [4, 5, 6, 7, 8, 2, 1, 0] rfl; rw [nI_1] at h9; exact h9)
      · refine lv_lload hx hb d_kw_shareOf_134 (lv_at hl 1 rfl) ?_
        refine lv_lload hx hb d_kw_shareOf_136 (lv_at hl 6 rfl) ?_
        refine lx_ifne (tgt := 151) hx hb d_kw_shareOf_138 d_kw_shareOf_139 (by decide) (fun c_5 => ?_) (fun c_5 => ?_)
        · refine lv_iinc (v := (nI j) + 1) (lv' := [(11, .int ((nI j) + 1)), (8, .long (lf - ((whole * ((fz j).toInt64)) / all))), (12, .long ((whole * ((fz j).toInt64)) - (whole * ((fz j).toInt64)) / all * all)), (0, .ref a_w), (1, .long whole), (3, .int k), (4, .long own), (6, .long rest), (10, .int ah)]) hx hb d_kw_shareOf_151 hl (k := 8) rfl rfl (by decide) rfl (fun ls hl => ?_)
          refine lv_goto (tgt := 80) hx hb d_kw_shareOf_154 (by decide) ?_
          exact ih (j + 1) _ _ (by omega) (by rw [shL, if_neg c_4, if_neg c_5] at hq; exact hq) (by have h9 := lv_sub hl [3, 4, 5, 6, 7, 1, 8, 0] rfl; rw [nI_1] at h9; exact h9)
        · refine lv_iload hx hb d_kw_shareOf_142 (lv_at hl 8 rfl) ?_
          refine lv_iload_n hx hb d_kw_shareOf_144 rfl (lv_at hl 4 rfl) ?_
          refine lv_icmp_ge (tgt := 151) hx hb d_kw_shareOf_145 (by decide) (fun c_6 => ?_) (fun c_6 => ?_)
          · refine lv_iinc (v := (nI j) + 1) (lv' := [(11, .int ((nI j) + 1)), (8, .long (lf - ((whole * ((fz j).toInt64)) / all))), (12, .long ((whole * ((fz j).toInt64)) - (whole * ((fz j).toInt64)) / all * all)), (0, .ref a_w), (1, .long whole), (3, .int k), (4, .long own), (6, .long rest), (10, .int ah)]) hx hb d_kw_shareOf_151 hl (k := 8) rfl rfl (by decide) rfl (fun ls hl => ?_)
            refine lv_goto (tgt := 80) hx hb d_kw_shareOf_154 (by decide) ?_
            exact ih (j + 1) _ _ (by omega) (by rw [shL, if_neg c_4, if_pos c_5, if_pos c_6] at hq; exact hq) (by have h9 := lv_sub hl [3, 4, 5, 6, 7, 1, 8, 0] rfl; rw [nI_1] at h9; exact h9)
          · refine lv_iinc (v := ah + 1) (lv' := [(10, .int (ah + 1)), (8, .long (lf - ((whole * ((fz j).toInt64)) / all))), (12, .long ((whole * ((fz j).toInt64)) - (whole * ((fz j).toInt64)) / all * all)), (0, .ref a_w), (1, .long whole), (3, .int k), (4, .long own), (6, .long rest), (11, .int (nI j))]) hx hb d_kw_shareOf_148 hl (k := 7) rfl rfl (by decide) rfl (fun ls hl => ?_)
            refine lv_iinc (v := (nI j) + 1) (lv' := [(11, .int ((nI j) + 1)), (10, .int (ah + 1)), (8, .long (lf - ((whole * ((fz j).toInt64)) / all))), (12, .long ((whole * ((fz j).toInt64)) - (whole * ((fz j).toInt64)) / all * all)), (0, .ref a_w), (1, .long whole), (3, .int k), (4, .long own), (6, .long rest)]) hx hb d_kw_shareOf_151 hl (k := 8) rfl rfl (by decide) rfl (fun ls hl => ?_)
            refine lv_goto (tgt := 80) hx hb d_kw_shareOf_154 (by decide) ?_
            exact ih (j + 1) _ _ (by omega) (by rw [shL, if_neg c_4, if_pos c_5, if_neg c_6] at hq; exact hq) (by have h9 := lv_sub hl [4, 5, 6, 7, 8, 2, 1, 0] rfl; rw [nI_1] at h9; exact h9)
def f_kw_shareOf (wc : Int32) (all : Int64) (fz : Nat → Int32) (whole : Int64) (k : Int32) : Int64 :=
  if k < 0 then (-1) else if wc ≤ k then (-1) else if whole < 0 then (-1) else if 1000000000000 < whole then (-1) else if 1 ≤ all then (kw_shareE ((whole * ((fz k.toNatClampNeg).toInt64)) / all) (shL fz all whole k ((whole * ((fz k.toNatClampNeg).toInt64)) - (whole * ((fz k.toNatClampNeg).toInt64)) / all * all) wc.toNatClampNeg 0 whole 0).1 (shL fz all whole k ((whole * ((fz k.toNatClampNeg).toInt64)) - (whole * ((fz k.toNatClampNeg).toInt64)) / all * all) wc.toNatClampNeg 0 whole 0).2) else (-1)
set_option maxHeartbeats 4000000 in
set_option maxRecDepth 100000 in
theorem c_kw_shareOf (l : Launch) (dC : Nat → ClassId) (dI : Nat → Nat → Nat) (a_w : Nat) (a_z : Nat) (wc : Int32) (all : Int64) (cZ : ClassId) (fz : Nat → Int32) (whole : Int64) (k : Int32) (hwc : vp_in wc 13) : Met l y_kw_shareOf w_kw_shareOf ({ frames := 0, cells := 0, slots := 0, locals := 0 }) (va_Pc [.ref a_w, .long whole, .int k] (fun U => va_P (dC, dI) classes [(a_w, .inr (3, [.ref a_z, .int wc, .long all])), (a_z, .inl (cZ, 12, .inl fz))] U.heap ∧ va_K (dC, dI) classes [(cZ, .int)] U)) (vp_Sl (fun z9 => z9 = f_kw_shareOf wc all fz whole k)) 0 0 (fun _ => False) := by
  refine Met.ofW (cc := b_kw_shareOf) (maxL := 14) (ret := (some .long)) (by decide +kernel) rfl ?_
  intro p e s m args below meth c s₁ B hml hv
  obtain ⟨rfl, hP, hK⟩ := hv
  have hx := B.exec
  have hb := B.bytes
  have hr := B.returns
  have hts := atoms_spec (ws := w_kw_shareOf) B.pre
  have hT := fun (w : Cond) (h : w ∈ kt_T) => hts w (List.mem_cons_of_mem _ h)
  have hown : s.vm.findClass R_kw = some m.cls := findClass_of_methodNamed B.named
  have hlocks := B.notSynchronized
  have hl := lv_entry ([.ref a_w, .long whole, .int k]) (n := 14) (Nat.le_of_ble_eq_true rfl)
  rw [lg_entry_eq]
  generalize (lg_sl ([.ref a_w, .long whole, .int k]) ++ List.replicate (14 - (lg_sl ([.ref a_w, .long whole, .int k])).length) Slot.unset).toArray = ls at hl ⊢
  have hl : lv_has ls 14 [(0, .ref a_w), (1, .long whole), (3, .int k)] := hl
  refine lv_iload_n hx hb d_kw_shareOf_0 rfl (lv_at hl 2 rfl) ?_
  refine lv_if_lt (tgt := 35) hx hb d_kw_shareOf_1 (by decide) (fun c_1 => ?_) (fun c_1 => ?_)
  · refine lv_ldc2 (v := (-1)) hx hb hown (hT _ k_63) d_kw_shareOf_35 ?_
    exact W.lret (v := (-1)) hx hb hr (fun t ht hW => ⟨_, rfl, by unfold f_kw_shareOf; rw [if_pos c_1], ht⟩) t_nil d_kw_shareOf_38
  · refine lv_iload_n hx hb d_kw_shareOf_4 rfl (lv_at hl 2 rfl) ?_
    refine lv_aload_n hx hb d_kw_shareOf_5 rfl (lv_at hl 0 rfl) ?_
    refine va_get (D := (dC, dI)) (ci := 3) (v := .int wc) (C := R_kw) (T := F_kw) (N := 3) hx hb hT i_kw hown hK hP 0 rfl rfl 1 (by decide) (hT _ k_60) (fun _ h9 => h9) rfl d_kw_shareOf_6 ?_
    refine lv_icmp_ge (tgt := 35) hx hb d_kw_shareOf_9 (by decide) (fun c_2 => ?_) (fun c_2 => ?_)
    · refine lv_ldc2 (v := (-1)) hx hb hown (hT _ k_63) d_kw_shareOf_35 ?_
      exact W.lret (v := (-1)) hx hb hr (fun t ht hW => ⟨_, rfl, by unfold f_kw_shareOf; rw [if_neg c_1, if_pos c_2], ht⟩) t_nil d_kw_shareOf_38
    · refine lv_lload_n hx hb d_kw_shareOf_12 rfl (lv_at hl 1 rfl) ?_
      refine lv_lconst (v := 0) hx hb d_kw_shareOf_13 (by decide) ?_
      refine lx_iflt (tgt := 35) hx hb d_kw_shareOf_14 d_kw_shareOf_15 (by decide) (fun c_3 => ?_) (fun c_3 => ?_)
      · refine lv_ldc2 (v := (-1)) hx hb hown (hT _ k_63) d_kw_shareOf_35 ?_
        exact W.lret (v := (-1)) hx hb hr (fun t ht hW => ⟨_, rfl, by unfold f_kw_shareOf; rw [if_neg c_1, if_neg c_2, if_pos c_3], ht⟩) t_nil d_kw_shareOf_38
      · refine lv_lload_n hx hb d_kw_shareOf_18 rfl (lv_at hl 1 rfl) ?_
        refine lv_ldc2 (v := 1000000000000) hx hb hown (hT _ k_64) d_kw_shareOf_19 ?_
        refine lx_ifgt (tgt := 35) hx hb d_kw_shareOf_22 d_kw_shareOf_23 (by decide) (fun c_4 => ?_) (fun c_4 => ?_)
        · refine lv_ldc2 (v := (-1)) hx hb hown (hT _ k_63) d_kw_shareOf_35 ?_
          exact W.lret (v := (-1)) hx hb hr (fun t ht hW => ⟨_, rfl, by unfold f_kw_shareOf; rw [if_neg c_1, if_neg c_2, if_neg c_3, if_pos c_4], ht⟩) t_nil d_kw_shareOf_38
        · refine lv_aload_n hx hb d_kw_shareOf_26 rfl (lv_at hl 0 rfl) ?_
          refine va_get (D := (dC, dI)) (ci := 3) (v := .long all) (C := R_kw) (T := F_kw) (N := 3) hx hb hT i_kw hown hK hP 0 rfl rfl 2 (by decide) (hT _ k_62) (fun _ h9 => h9) rfl d_kw_shareOf_27 ?_
          refine lv_lconst (v := 1) hx hb d_kw_shareOf_30 (by decide) ?_
          refine lx_ifge (tgt := 39) hx hb d_kw_shareOf_31 d_kw_shareOf_32 (by decide) (fun c_5 => ?_) (fun c_5 => ?_)
          · refine lv_lload_n hx hb d_kw_shareOf_39 rfl (lv_at hl 1 rfl) ?_
            refine lv_aload_n hx hb d_kw_shareOf_40 rfl (lv_at hl 0 rfl) ?_
            refine va_get (D := (dC, dI)) (ci := 3) (v := .ref a_z) (C := R_kw) (T := F_kw) (N := 3) hx hb hT i_kw hown hK hP 0 rfl rfl 0 (by decide) (hT _ k_61) (fun _ h9 => h9) rfl d_kw_shareOf_41 ?_
            refine lv_iload_n hx hb d_kw_shareOf_44 rfl (lv_at hl 2 rfl) ?_
            refine va_iald hx hb hK hP 1 0 rfl rfl (in_k hwc c_1 c_2) d_kw_shareOf_45 ?_
            refine lv_i2l (v := (fz k.toNatClampNeg).toInt64) hx hb d_kw_shareOf_46 rfl ?_
            refine lv_lmul hx hb d_kw_shareOf_47 ?_
            refine lv_aload_n hx hb d_kw_shareOf_48 rfl (lv_at hl 0 rfl) ?_
            refine va_get (D := (dC, dI)) (ci := 3) (v := .long all) (C := R_kw) (T := F_kw) (N := 3) hx hb hT i_kw hown hK hP 0 rfl rfl 2 (by decide) (hT _ k_62) (fun _ h9 => h9) rfl d_kw_shareOf_49 ?_
            refine lv_ldiv hx hb d_kw_shareOf_52 (ne0_of1 c_5) ?_
            refine lv_lstore (lv' := [(4, .long ((whole * ((fz k.toNatClampNeg).toInt64)) / all)), (0, .ref a_w), (1, .long whole), (3, .int k)]) hx hb d_kw_shareOf_53 hl (by decide) rfl (fun ls hl => ?_)
            refine lv_lload_n hx hb d_kw_shareOf_55 rfl (lv_at hl 2 rfl) ?_
            refine lv_aload_n hx hb d_kw_shareOf_56 rfl (lv_at hl 1 rfl) ?_
            refine va_get (D := (dC, dI)) (ci := 3) (v := .ref a_z) (C := R_kw) (T := F_kw) (N := 3) hx hb hT i_kw hown hK hP 0 rfl rfl 0 (by decide) (hT _ k_61) (fun _ h9 => h9) rfl d_kw_shareOf_57 ?_
            refine lv_iload_n hx hb d_kw_shareOf_60 rfl (lv_at hl 3 rfl) ?_
            refine va_iald hx hb hK hP 1 0 rfl rfl (in_k hwc c_1 c_2) d_kw_shareOf_61 ?_
            refine lv_i2l (v := (fz k.toNatClampNeg).toInt64) hx hb d_kw_shareOf_62 rfl ?_
            refine lv_lmul hx hb d_kw_shareOf_63 ?_
            refine lv_aload_n hx hb d_kw_shareOf_64 rfl (lv_at hl 1 rfl) ?_
            refine va_get (D := (dC, dI)) (ci := 3) (v := .long all) (C := R_kw) (T := F_kw) (N := 3) hx hb hT i_kw hown hK hP 0 rfl rfl 2 (by decide) (hT _ k_62) (fun _ h9 => h9) rfl d_kw_shareOf_65 ?_
            refine lv_lrem hx hb d_kw_shareOf_68 (ne0_of1 c_5) ?_
            refine lv_lstore (lv' := [(6, .long ((whole * ((fz k.toNatClampNeg).toInt64)) - (whole * ((fz k.toNatClampNeg).toInt64)) / all * all)), (4, .long ((whole * ((fz k.toNatClampNeg).toInt64)) / all)), (0, .ref a_w), (1, .long whole), (3, .int k)]) hx hb d_kw_shareOf_69 hl (by decide) rfl (fun ls hl => ?_)
            refine lv_lload_n hx hb d_kw_shareOf_71 rfl (lv_at hl 3 rfl) ?_
            refine lv_lstore (lv' := [(8, .long whole), (6, .long ((whole * ((fz k.toNatClampNeg).toInt64)) - (whole * ((fz k.toNatClampNeg).toInt64)) / all * all)), (4, .long ((whole * ((fz k.toNatClampNeg).toInt64)) / all)), (0, .ref a_w), (1, .long whole), (3, .int k)]) hx hb d_kw_shareOf_72 hl (by decide) rfl (fun ls hl => ?_)
            refine lv_iconst (v := 0) hx hb d_kw_shareOf_74 (by decide) ?_
            refine lv_istore (lv' := [(10, .int 0), (8, .long whole), (6, .long ((whole * ((fz k.toNatClampNeg).toInt64)) - (whole * ((fz k.toNatClampNeg).toInt64)) / all * all)), (4, .long ((whole * ((fz k.toNatClampNeg).toInt64)) / all)), (0, .ref a_w), (1, .long whole), (3, .int k)]) hx hb d_kw_shareOf_75 hl (by decide) rfl (fun ls hl => ?_)
            refine lv_iconst (v := 0) hx hb d_kw_shareOf_77 (by decide) ?_
            refine lv_istore (lv' := [(11, .int 0), (10, .int 0), (8, .long whole), (6, .long ((whole * ((fz k.toNatClampNeg).toInt64)) - (whole * ((fz k.toNatClampNeg).toInt64)) / all * all)), (4, .long ((whole * ((fz k.toNatClampNeg).toInt64)) / all)), (0, .ref a_w), (1, .long whole), (3, .int k)]) hx hb d_kw_shareOf_78 hl (by decide) rfl (fun ls hl => ?_)
            obtain ⟨N, hN, hN2⟩ := vp_in_of hwc (by decide)
            exact lp_kw_share (post := fun r => r = f_kw_shareOf wc all fz whole k) hx hb hr hlocks hT hown hK hP (ne0_of1 c_5) (Nat.lt_succ_iff.mp hN) hN2 N 0 whole 0 (Nat.zero_add _) (by unfold f_kw_shareOf; rw [if_neg c_1, if_neg c_2, if_neg c_3, if_neg c_4, if_pos c_5, hN2, nI_clamp (by omega)]) (lv_sub hl [5, 6, 7, 4, 3, 2, 1, 0] rfl)
          · refine lv_ldc2 (v := (-1)) hx hb hown (hT _ k_63) d_kw_shareOf_35 ?_
            exact W.lret (v := (-1)) hx hb hr (fun t ht hW => ⟨_, rfl, by unfold f_kw_shareOf; rw [if_neg c_1, if_neg c_2, if_neg c_3, if_neg c_4, if_neg c_5], ht⟩) t_nil d_kw_shareOf_38
def f_kr_weight (wc : Int32) (all : Int64) (fz : Nat → Int32) (w : Int32) : Int32 × (Nat → Int32) × Int32 × Int64 :=
  (f_kw_append wc all fz w)
set_option maxHeartbeats 4000000 in
set_option maxRecDepth 100000 in
theorem c_kr_weight (l : Launch) (dC : Nat → ClassId) (dI : Nat → Nat → Nat) (sz : Nat) (ak : Nat) (a_w : Nat) (a_z : Nat) (kinds : Int32) (ac : Nat) (rowc : Int32) (a0 : Nat) (a_s : Nat) (wc : Int32) (all : Int64) (cZ : ClassId) (fz : Nat → Int32) (w : Int32) (hwc : vp_in wc 13) : Met l y_kr_weight w_kr_weight ({ frames := 1, cells := 0, slots := 0, locals := 21 }) (va_Pc [.ref ak, .int w] (fun U => U.heap.size = sz ∧ va_P (dC, dI) classes [(ak, .inr (0, [.int kinds, .ref ac, .int rowc, .ref a0, .ref a_s, .ref a_w])), (a_w, .inr (3, [.ref a_z, .int wc, .long all])), (a_z, .inl (cZ, 12, .inl fz))] U.heap ∧ va_K (dC, dI) classes [(cZ, .int)] U ∧ va_D (fun _ => True) [(ak, .inr (0, [.int kinds, .ref ac, .int rowc, .ref a0, .ref a_s, .ref a_w])), (a_w, .inr (3, [.ref a_z, .int wc, .long all])), (a_z, .inl (cZ, 12, .inl fz))])) (va_Qi (fun z9 u9 => (z9, u9) = f_kr_weight wc all fz w) (fun (u : (Nat → Int32) × Int32 × Int64) t => match u with | (fz', wc', all') => va_P (dC, dI) classes [(ak, .inr (0, [.int kinds, .ref ac, .int rowc, .ref a0, .ref a_s, .ref a_w])), (a_w, .inr (3, [.ref a_z, .int wc', .long all'])), (a_z, .inl (cZ, 12, .inl fz'))] t.heap ∧ va_K (dC, dI) classes [(cZ, .int)] t ∧ va_D (va_A [(ak, .inr (0, [.int kinds, .ref ac, .int rowc, .ref a0, .ref a_s, .ref a_w])), (a_w, .inr (3, [.ref a_z, .int wc, .long all])), (a_z, .inl (cZ, 12, .inl fz))] sz) [(ak, .inr (0, [.int kinds, .ref ac, .int rowc, .ref a0, .ref a_s, .ref a_w])), (a_w, .inr (3, [.ref a_z, .int wc', .long all'])), (a_z, .inl (cZ, 12, .inl fz'))]) (va_A [(ak, .inr (0, [.int kinds, .ref ac, .int rowc, .ref a0, .ref a_s, .ref a_w])), (a_w, .inr (3, [.ref a_z, .int wc, .long all])), (a_z, .inl (cZ, 12, .inl fz))] sz)) 0 0 (va_A [(ak, .inr (0, [.int kinds, .ref ac, .int rowc, .ref a0, .ref a_s, .ref a_w])), (a_w, .inr (3, [.ref a_z, .int wc, .long all])), (a_z, .inl (cZ, 12, .inl fz))] sz) := by
  refine Met.ofW (cc := b_kr_weight) (maxL := 2) (ret := (some .int)) (by decide +kernel) rfl ?_
  intro p e s m args below meth c s₁ B hml hv
  obtain ⟨rfl, hsz, hP, hK, hD0⟩ := hv
  have hx := B.exec
  have hb := B.bytes
  have hr := B.returns
  have hts := atoms_spec (ws := w_kr_weight) B.pre
  have hT := fun (w : Cond) (h : w ∈ kt_T) => hts w (List.mem_cons_of_mem _ h)
  have hown : s.vm.findClass R_kr = some m.cls := findClass_of_methodNamed B.named
  have hlocks := B.notSynchronized
  subst hsz
  have hD := hD0.self (sz := s.heap.size)
  generalize hAe : va_A [(ak, .inr (0, [.int kinds, .ref ac, .int rowc, .ref a0, .ref a_s, .ref a_w])), (a_w, .inr (3, [.ref a_z, .int wc, .long all])), (a_z, .inl (cZ, 12, .inl fz))] s.heap.size = A at hD ⊢
  have hA : ∀ q : Nat, s.heap.size ≤ q → A q := fun q h => by rw [← hAe]; exact Or.inr h
  have hS : va_S A s.heap s.heap [] := va_S.rf
  have hl := lv_entry ([.ref ak, .int w]) (n := 2) (Nat.le_of_ble_eq_true rfl)
  rw [lg_entry_eq]
  generalize (lg_sl ([.ref ak, .int w]) ++ List.replicate (2 - (lg_sl ([.ref ak, .int w])).length) Slot.unset).toArray = ls at hl ⊢
  have hl : lv_has ls 2 [(0, .ref ak), (1, .int w)] := hl
  refine lv_aload_n hx hb d_kr_weight_0 rfl (lv_at hl 0 rfl) ?_
  refine va_get (D := (dC, dI)) (ci := 0) (v := .ref a_w) (C := R_kr) (T := F_kr) (N := 6) hx hb hT i_kr hown hK hP 0 rfl rfl 5 (by decide) (hT _ k_65) (fun _ h9 => h9) rfl d_kr_weight_1 ?_
  refine lv_iload_n hx hb d_kr_weight_4 rfl (lv_at hl 1 rfl) ?_
  have hPc := hP.sub (ws' := [(a_w, .inr (3, [.ref a_z, .int wc, .long all])), (a_z, .inl (cZ, 12, .inl fz))]) [1, 2] rfl
  have hKc := hK.sub (tys' := [(cZ, .int)]) [0] rfl
  have hDc := hD.sub (ws' := [(a_w, .inr (3, [.ref a_z, .int wc, .long all])), (a_z, .inl (cZ, 12, .inl fz))]) [1, 2] (by decide) rfl
  have hFc := va_free (wc := [(a_w, .inr (3, [.ref a_z, .int wc, .long all])), (a_z, .inl (cZ, 12, .inl fz))]) hD hS hA [1, 2] rfl
  refine va_calli (va_runV (As := [.int w]) (rest := []) ⟨hx, hb, hml, hown, hT⟩ (c_kw_append l dC dI s.heap.size a_w a_z wc all cZ fz w hwc) (cwV 1 hT (kt_V k_70 k_68 k_69 k_67 k_66) rfl rfl rfl (by decide +kernel) ⟨Nat.le_of_ble_eq_true rfl, Nat.le_of_ble_eq_true rfl⟩) ⟨bl_M, va_recv hKc hPc (ci := 3) (q0 := 0) rfl rfl, fun U hU hW => ⟨rfl, by rw [hU], by rw [hU]; exact hPc, va_K.moved hW.alike hKc, hDc.weaken (fun _ _ _ _ => trivial)⟩⟩ rfl rfl hl.1 rfl (lv_room (Nat.le_of_ble_eq_true rfl)) d_kr_weight_5 ⟨Nat.zero_le _, Nat.zero_le _⟩) hS (fun q _ h => hFc q h) hFc (fun r_1 u t H1 locs ht hvm hw hB hz1 hk1 hS => ?_)
  obtain ⟨fz_1, wc_1, all_1⟩ := u
  obtain ⟨hP1, hK1, hD1⟩ := hB
  rw [ht] at hP1
  obtain ⟨hP, hD⟩ := va_join (wr := [(ak, .inr (0, [.int kinds, .ref ac, .int rowc, .ref a0, .ref a_s, .ref a_w]))]) (w1 := [(a_w, .inr (3, [.ref a_z, .int wc_1, .long all_1])), (a_z, .inl (cZ, 12, .inl fz_1))]) hP hD [1, 2] [0] rfl rfl (by decide) (by decide) hk1 hFc hP1 hD1
  generalize H1 = H at hP hS ⊢
  have hP := hP.sub (ws' := [(ak, .inr (0, [.int kinds, .ref ac, .int rowc, .ref a0, .ref a_s, .ref a_w])), (a_w, .inr (3, [.ref a_z, .int wc_1, .long all_1])), (a_z, .inl (cZ, 12, .inl fz_1))]) [0, 1, 2] rfl
  have hD := hD.sub (ws' := [(ak, .inr (0, [.int kinds, .ref ac, .int rowc, .ref a0, .ref a_s, .ref a_w])), (a_w, .inr (3, [.ref a_z, .int wc_1, .long all_1])), (a_z, .inl (cZ, 12, .inl fz_1))]) [0, 1, 2] (by decide) rfl
  have e_r_1 : r_1 = (f_kw_append wc all fz w).1 := congrArg (fun z => z.1) hw
  have e_fz_1 : fz_1 = (f_kw_append wc all fz w).2.1 := congrArg (fun z => z.2.1) hw
  have e_wc_1 : wc_1 = (f_kw_append wc all fz w).2.2.1 := congrArg (fun z => z.2.2.1) hw
  have e_all_1 : all_1 = (f_kw_append wc all fz w).2.2.2 := congrArg (fun z => z.2.2.2) hw
  subst e_r_1 e_fz_1 e_wc_1 e_all_1
  clear hP1 hK1 hD1 hk1 hz1 hFc hDc hPc hKc
  exact W.iret (v := (f_kw_append wc all fz w).1) hx hb hr (fun t ht hW => ⟨⟨(f_kw_append wc all fz w).1, ((f_kw_append wc all fz w).2.1, (f_kw_append wc all fz w).2.2.1, (f_kw_append wc all fz w).2.2.2), rfl, rfl, by rw [ht]; exact hP, va_K.moved hW.alike hK, hD⟩, hS.F ht⟩) hS.2.2 d_kr_weight_8
def f_kr_share (wc : Int32) (all : Int64) (fz : Nat → Int32) (whole : Int64) (k : Int32) : Int64 :=
  (f_kw_shareOf wc all fz whole k)
set_option maxHeartbeats 4000000 in
set_option maxRecDepth 100000 in
theorem c_kr_share (l : Launch) (dC : Nat → ClassId) (dI : Nat → Nat → Nat) (ak : Nat) (a_w : Nat) (a_z : Nat) (kinds : Int32) (ac : Nat) (rowc : Int32) (a0 : Nat) (a_s : Nat) (wc : Int32) (all : Int64) (cZ : ClassId) (fz : Nat → Int32) (whole : Int64) (k : Int32) (hwc : vp_in wc 13) : Met l y_kr_share w_kr_share ({ frames := 1, cells := 0, slots := 0, locals := 33 }) (va_Pc [.ref ak, .long whole, .int k] (fun U => va_P (dC, dI) classes [(ak, .inr (0, [.int kinds, .ref ac, .int rowc, .ref a0, .ref a_s, .ref a_w])), (a_w, .inr (3, [.ref a_z, .int wc, .long all])), (a_z, .inl (cZ, 12, .inl fz))] U.heap ∧ va_K (dC, dI) classes [(cZ, .int)] U)) (vp_Sl (fun z9 => z9 = f_kr_share wc all fz whole k)) 0 0 (fun _ => False) := by
  refine Met.ofW (cc := b_kr_share) (maxL := 4) (ret := (some .long)) (by decide +kernel) rfl ?_
  intro p e s m args below meth c s₁ B hml hv
  obtain ⟨rfl, hP, hK⟩ := hv
  have hx := B.exec
  have hb := B.bytes
  have hr := B.returns
  have hts := atoms_spec (ws := w_kr_share) B.pre
  have hT := fun (w : Cond) (h : w ∈ kt_T) => hts w (List.mem_cons_of_mem _ h)
  have hown : s.vm.findClass R_kr = some m.cls := findClass_of_methodNamed B.named
  have hlocks := B.notSynchronized
  have hl := lv_entry ([.ref ak, .long whole, .int k]) (n := 4) (Nat.le_of_ble_eq_true rfl)
  rw [lg_entry_eq]
  generalize (lg_sl ([.ref ak, .long whole, .int k]) ++ List.replicate (4 - (lg_sl ([.ref ak, .long whole, .int k])).length) Slot.unset).toArray = ls at hl ⊢
  have hl : lv_has ls 4 [(0, .ref ak), (1, .long whole), (3, .int k)] := hl
  refine lv_aload_n hx hb d_kr_share_0 rfl (lv_at hl 0 rfl) ?_
  refine va_get (D := (dC, dI)) (ci := 0) (v := .ref a_w) (C := R_kr) (T := F_kr) (N := 6) hx hb hT i_kr hown hK hP 0 rfl rfl 5 (by decide) (hT _ k_65) (fun _ h9 => h9) rfl d_kr_share_1 ?_
  refine lv_lload_n hx hb d_kr_share_4 rfl (lv_at hl 1 rfl) ?_
  refine lv_iload_n hx hb d_kr_share_5 rfl (lv_at hl 2 rfl) ?_
  have hPc := hP.sub (ws' := [(a_w, .inr (3, [.ref a_z, .int wc, .long all])), (a_z, .inl (cZ, 12, .inl fz))]) [1, 2] rfl
  have hKc := hK.sub (tys' := [(cZ, .int)]) [0] rfl
  refine vp_callSl (W.runV (As := [.long whole, .int k]) (rest := []) ⟨hx, hb, hml, hown, hT⟩ (c_kw_shareOf l dC dI a_w a_z wc all cZ fz whole k hwc) (cwV 2 hT (kt_V k_74 k_72 k_73 k_67 k_71) rfl rfl rfl (by decide +kernel) ⟨Nat.le_of_ble_eq_true rfl, Nat.le_of_ble_eq_true rfl⟩) ⟨bl_R, va_recv hKc hPc (ci := 3) (q0 := 0) rfl rfl, fun U hU hW => ⟨rfl, by rw [hU]; exact hPc, va_K.moved hW.alike hKc⟩⟩ rfl rfl hl.1 rfl (lv_room (Nat.le_of_ble_eq_true rfl)) d_kr_share_6 ⟨Nat.zero_le _, Nat.zero_le _⟩) (fun r_1 e_r_1 => ?_)
  subst e_r_1
  exact W.lret (v := f_kw_shareOf wc all fz whole k) hx hb hr (fun t ht hW => ⟨_, rfl, rfl, ht⟩) t_nil d_kr_share_9
end
section
abbrev b_ks_setEntry : ByteArray := prog_2_method_2_code
def y_ks_setEntry : MethodName := ⟨R_ks, "setEntry", "(III)Z"⟩
def w_ks_setEntry : List Cond := .code y_ks_setEntry b_ks_setEntry 4 (some .boolean) :: kt_T
theorem d_ks_setEntry_0 : decode b_ks_setEntry 0 = .ok (.iload_n 1, 1) := by decide +kernel
theorem d_ks_setEntry_1 : decode b_ks_setEntry 1 = .ok (.ifCond .lt 17, 3) := by decide +kernel
theorem d_ks_setEntry_4 : decode b_ks_setEntry 4 = .ok (.iload_n 1, 1) := by decide +kernel
theorem d_ks_setEntry_5 : decode b_ks_setEntry 5 = .ok (.iconst 4, 1) := by decide +kernel
theorem d_ks_setEntry_6 : decode b_ks_setEntry 6 = .ok (.if_icmp .ge 12, 3) := by decide +kernel
theorem d_ks_setEntry_9 : decode b_ks_setEntry 9 = .ok (.iload_n 2, 1) := by decide +kernel
theorem d_ks_setEntry_10 : decode b_ks_setEntry 10 = .ok (.ifCond .lt 8, 3) := by decide +kernel
theorem d_ks_setEntry_13 : decode b_ks_setEntry 13 = .ok (.iload_n 2, 1) := by decide +kernel
theorem d_ks_setEntry_14 : decode b_ks_setEntry 14 = .ok (.iconst 5, 1) := by decide +kernel
theorem d_ks_setEntry_15 : decode b_ks_setEntry 15 = .ok (.if_icmp .lt 5, 3) := by decide +kernel
theorem d_ks_setEntry_18 : decode b_ks_setEntry 18 = .ok (.iconst 0, 1) := by decide +kernel
theorem d_ks_setEntry_19 : decode b_ks_setEntry 19 = .ok (.ireturn, 1) := by decide +kernel
theorem d_ks_setEntry_20 : decode b_ks_setEntry 20 = .ok (.iload_n 3, 1) := by decide +kernel
theorem d_ks_setEntry_21 : decode b_ks_setEntry 21 = .ok (.bipush (-100), 2) := by decide +kernel
theorem d_ks_setEntry_23 : decode b_ks_setEntry 23 = .ok (.if_icmp .lt 9, 3) := by decide +kernel
theorem d_ks_setEntry_26 : decode b_ks_setEntry 26 = .ok (.iload_n 3, 1) := by decide +kernel
theorem d_ks_setEntry_27 : decode b_ks_setEntry 27 = .ok (.bipush 100, 2) := by decide +kernel
theorem d_ks_setEntry_29 : decode b_ks_setEntry 29 = .ok (.if_icmp .le 5, 3) := by decide +kernel
theorem d_ks_setEntry_32 : decode b_ks_setEntry 32 = .ok (.iconst 0, 1) := by decide +kernel
theorem d_ks_setEntry_33 : decode b_ks_setEntry 33 = .ok (.ireturn, 1) := by decide +kernel
theorem d_ks_setEntry_34 : decode b_ks_setEntry 34 = .ok (.aload_n 0, 1) := by decide +kernel
theorem d_ks_setEntry_35 : decode b_ks_setEntry 35 = .ok (.getfield 13, 3) := by decide +kernel
theorem d_ks_setEntry_38 : decode b_ks_setEntry 38 = .ok (.iload_n 1, 1) := by decide +kernel
theorem d_ks_setEntry_39 : decode b_ks_setEntry 39 = .ok (.aaload, 1) := by decide +kernel
theorem d_ks_setEntry_40 : decode b_ks_setEntry 40 = .ok (.iload_n 2, 1) := by decide +kernel
theorem d_ks_setEntry_41 : decode b_ks_setEntry 41 = .ok (.iload_n 3, 1) := by decide +kernel
theorem d_ks_setEntry_42 : decode b_ks_setEntry 42 = .ok (.iastore, 1) := by decide +kernel
theorem d_ks_setEntry_43 : decode b_ks_setEntry 43 = .ok (.iconst 1, 1) := by decide +kernel
theorem d_ks_setEntry_44 : decode b_ks_setEntry 44 = .ok (.ireturn, 1) := by decide +kernel
abbrev b_ks_hasAnswer : ByteArray := prog_2_method_8_code
def y_ks_hasAnswer : MethodName := ⟨R_ks, "hasAnswer", "(I)Z"⟩
def w_ks_hasAnswer : List Cond := .code y_ks_hasAnswer b_ks_hasAnswer 2 (some .boolean) :: kt_T
theorem d_ks_hasAnswer_0 : decode b_ks_hasAnswer 0 = .ok (.iload_n 1, 1) := by decide +kernel
theorem d_ks_hasAnswer_1 : decode b_ks_hasAnswer 1 = .ok (.ifCond .lt 15, 3) := by decide +kernel
theorem d_ks_hasAnswer_4 : decode b_ks_hasAnswer 4 = .ok (.iload_n 1, 1) := by decide +kernel
theorem d_ks_hasAnswer_5 : decode b_ks_hasAnswer 5 = .ok (.aload_n 0, 1) := by decide +kernel
theorem d_ks_hasAnswer_6 : decode b_ks_hasAnswer 6 = .ok (.getfield 32, 3) := by decide +kernel
theorem d_ks_hasAnswer_9 : decode b_ks_hasAnswer 9 = .ok (.if_icmp .ge 7, 3) := by decide +kernel
theorem d_ks_hasAnswer_12 : decode b_ks_hasAnswer 12 = .ok (.iconst 1, 1) := by decide +kernel
theorem d_ks_hasAnswer_13 : decode b_ks_hasAnswer 13 = .ok (.goto 4, 3) := by decide +kernel
theorem d_ks_hasAnswer_16 : decode b_ks_hasAnswer 16 = .ok (.iconst 0, 1) := by decide +kernel
theorem d_ks_hasAnswer_17 : decode b_ks_hasAnswer 17 = .ok (.ireturn, 1) := by decide +kernel
abbrev b_ks_answerPart : ByteArray := prog_2_method_9_code
def y_ks_answerPart : MethodName := ⟨R_ks, "answerPart", "(II)J"⟩
def w_ks_answerPart : List Cond := .code y_ks_answerPart b_ks_answerPart 3 (some .long) :: kt_T
theorem d_ks_answerPart_0 : decode b_ks_answerPart 0 = .ok (.iload_n 2, 1) := by decide +kernel
theorem d_ks_answerPart_1 : decode b_ks_answerPart 1 = .ok (.ifCond .ne 12, 3) := by decide +kernel
theorem d_ks_answerPart_4 : decode b_ks_answerPart 4 = .ok (.aload_n 0, 1) := by decide +kernel
theorem d_ks_answerPart_5 : decode b_ks_answerPart 5 = .ok (.getfield 25, 3) := by decide +kernel
theorem d_ks_answerPart_8 : decode b_ks_answerPart 8 = .ok (.iload_n 1, 1) := by decide +kernel
theorem d_ks_answerPart_9 : decode b_ks_answerPart 9 = .ok (.laload, 1) := by decide +kernel
theorem d_ks_answerPart_10 : decode b_ks_answerPart 10 = .ok (.goto 9, 3) := by decide +kernel
theorem d_ks_answerPart_13 : decode b_ks_answerPart 13 = .ok (.aload_n 0, 1) := by decide +kernel
theorem d_ks_answerPart_14 : decode b_ks_answerPart 14 = .ok (.getfield 29, 3) := by decide +kernel
theorem d_ks_answerPart_17 : decode b_ks_answerPart 17 = .ok (.iload_n 1, 1) := by decide +kernel
theorem d_ks_answerPart_18 : decode b_ks_answerPart 18 = .ok (.laload, 1) := by decide +kernel
theorem d_ks_answerPart_19 : decode b_ks_answerPart 19 = .ok (.lreturn, 1) := by decide +kernel
theorem k_75 : (.fieldLink R_ks 13 "KilogramRows$ShareSystem" "entries" "[[I" : Cond) ∈ kt_T := List.mem_filter.mpr ⟨List.mem_of_getElem? (i := 66) (by decide +kernel), by decide +kernel⟩
theorem k_76 : (.fieldLink R_ks 32 "KilogramRows$ShareSystem" "answers" "I" : Cond) ∈ kt_T := List.mem_filter.mpr ⟨List.mem_of_getElem? (i := 71) (by decide +kernel), by decide +kernel⟩
theorem k_77 : (.fieldLink R_ks 29 "KilogramRows$ShareSystem" "lowers" "[J" : Cond) ∈ kt_T := List.mem_filter.mpr ⟨List.mem_of_getElem? (i := 70) (by decide +kernel), by decide +kernel⟩
theorem k_78 : (.fieldLink R_ks 25 "KilogramRows$ShareSystem" "uppers" "[J" : Cond) ∈ kt_T := List.mem_filter.mpr ⟨List.mem_of_getElem? (i := 69) (by decide +kernel), by decide +kernel⟩
def kx_out (er : Nat → Nat) : Nat → Option Nat := fun i => if i < 4 then some (er i) else none
abbrev ks_ws (a_s e0 w0 pv su sl : Nat) (er wr : Nat → Nat) (cE cW cP cSu cSl cI cJ : ClassId) (fp : Nat → Int32) (fsu fsl : Nat → Int64) (E : Nat → Nat → Int32) (Wm : Nat → Nat → Int64) (ans : Int32) : va_W :=
  [(a_s, .inr (2, [.ref e0, .ref w0, .ref pv, .ref su, .ref sl, .int ans])), (e0, .inl (cE, 4, .inr (.inr (.inr (.inr (kx_out er)))))), (w0, .inl (cW, 4, .inr (.inr (.inr (.inr (kx_out wr)))))), (pv, .inl (cP, 4, .inl fp)), (su, .inl (cSu, 4, .inr (.inl fsu))), (sl, .inl (cSl, 4, .inr (.inl fsl))), (er 0, .inl (cI, 5, .inl (E 0))), (er 1, .inl (cI, 5, .inl (E 1))), (er 2, .inl (cI, 5, .inl (E 2))), (er 3, .inl (cI, 5, .inl (E 3))), (wr 0, .inl (cJ, 5, .inr (.inl (Wm 0)))), (wr 1, .inl (cJ, 5, .inr (.inl (Wm 1)))), (wr 2, .inl (cJ, 5, .inr (.inl (Wm 2)))), (wr 3, .inl (cJ, 5, .inr (.inl (Wm 3))))]
section KS
variable {a_s e0 w0 pv su sl : Nat} {er wr : Nat → Nat} {cE cW cP cSu cSl cI cJ : ClassId} {fp : Nat → Int32} {fsu fsl : Nat → Int64} {E : Nat → Nat → Int32} {Wm : Nat → Nat → Int64} {ans : Int32}
theorem ks_e {i : Nat} (hi : i < 4) : (ks_ws a_s e0 w0 pv su sl er wr cE cW cP cSu cSl cI cJ fp fsu fsl E Wm ans)[6 + i]? = some (er i, .inl (cI, 5, .inl (E i))) := by
  match i, hi with
  | 0, _ => rfl
  | 1, _ => rfl
  | 2, _ => rfl
  | 3, _ => rfl
theorem ks_w {i : Nat} (hi : i < 4) : (ks_ws a_s e0 w0 pv su sl er wr cE cW cP cSu cSl cI cJ fp fsu fsl E Wm ans)[10 + i]? = some (wr i, .inl (cJ, 5, .inr (.inl (Wm i)))) := by
  match i, hi with
  | 0, _ => rfl
  | 1, _ => rfl
  | 2, _ => rfl
  | 3, _ => rfl
theorem ks_ee {i : Nat} (hi : i < 4) {g : Nat → Int32} : (ks_ws a_s e0 w0 pv su sl er wr cE cW cP cSu cSl cI cJ fp fsu fsl E Wm ans).set (6 + i) (er i, .inl (cI, 5, .inl g)) = ks_ws a_s e0 w0 pv su sl er wr cE cW cP cSu cSl cI cJ fp fsu fsl (va_up E i g) Wm ans := by
  match i, hi with
  | 0, _ => rfl
  | 1, _ => rfl
  | 2, _ => rfl
  | 3, _ => rfl
theorem ks_ww {i : Nat} (hi : i < 4) {g : Nat → Int64} : (ks_ws a_s e0 w0 pv su sl er wr cE cW cP cSu cSl cI cJ fp fsu fsl E Wm ans).set (10 + i) (wr i, .inl (cJ, 5, .inr (.inl g))) = ks_ws a_s e0 w0 pv su sl er wr cE cW cP cSu cSl cI cJ fp fsu fsl E (va_up Wm i g) ans := by
  match i, hi with
  | 0, _ => rfl
  | 1, _ => rfl
  | 2, _ => rfl
  | 3, _ => rfl
end KS
section KX2
variable {p : Program} {l : Launch} {e : Env} {R : Room} {s : State} {m : MethodId} {args : Array Value} {below : List Frame} {meth : Method} {c : Code} {H : Heap} {locs : List Loc} {cells slots : Nat} {Q : State → Prop}
variable {cc : ByteArray} {pc : Nat} {ls : Array Slot} {rest : List Value} {D : va_G} {cl : List vw_C} {tys : List (ClassId × FieldType)} {ws : va_W} {a : Nat}
theorem kx_aldA (hexec : p.tables.exec = Jvm.exec) (hb : c.code = cc) (hK : va_K D cl tys s) (hP : va_P D cl ws H) (q0 t0 : Nat) {cA : ClassId} {t : FieldType} {n : Nat} {f : Nat → Option Nat} (ha : ws[q0]? = some (a, .inl (cA, n, .inr (.inr (.inr (.inr f)))))) (ht : tys[t0]? = some (cA, .array t)) {i : Int32} (hin : vp_in i n) (hdg : decode cc pc = .ok (.aaload, 1))
    (kk : W p l e R s m args below meth c H locs cells slots Q (F0 m (pc + 1) ls (va_rf (f i.toNatClampNeg) :: rest))) : W p l e R s m args below meth c H locs cells slots Q (F0 m pc ls (.int i :: .ref a :: rest)) := by
  have hlt : i.toNatClampNeg < n := Nat.not_le.mp fun q => hin (Or.inr q)
  refine W.aald (v := va_rf (f i.toNatClampNeg)) (ty := .array t) hexec hb (hP q0 _ ha) ((hK.2 t0 _ ht).1 n (fun j => va_rf (f j))) rfl (fun q => by cases q) ?_ ?_ rfl rfl hdg kk
  · show ¬ (i < 0 ∨ (arrV _ _ _).slots.size ≤ _)
    rw [arrV_size]
    exact hin
  · show (arrV _ _ _).slots[_]? = _
    rw [arrV_read _ _ hlt]
theorem kx_ald (hexec : p.tables.exec = Jvm.exec) (hb : c.code = cc) (hK : va_K D cl tys s) (hP : va_P D cl ws H) (q0 t0 : Nat) {cA : ClassId} {t : FieldType} {er : Nat → Nat} (ha : ws[q0]? = some (a, .inl (cA, 4, .inr (.inr (.inr (.inr (kx_out er))))))) (ht : tys[t0]? = some (cA, .array t)) {i : Int32} (hin : i.toNatClampNeg < 4 ∧ ¬ i < 0) (hdg : decode cc pc = .ok (.aaload, 1))
    (kk : W p l e R s m args below meth c H locs cells slots Q (F0 m (pc + 1) ls (.ref (er i.toNatClampNeg) :: rest))) : W p l e R s m args below meth c H locs cells slots Q (F0 m pc ls (.int i :: .ref a :: rest)) :=
  kx_aldA hexec hb hK hP q0 t0 ha ht (fun q => q.elim hin.2 (fun h => Nat.not_le.mpr hin.1 h)) hdg (by unfold kx_out; rw [if_pos hin.1]; exact kk)
theorem kx_aldN (hexec : p.tables.exec = Jvm.exec) (hb : c.code = cc) (hK : va_K D cl tys s) (hP : va_P D cl ws H) (q0 t0 : Nat) {cA : ClassId} {t : FieldType} {er : Nat → Nat} (ha : ws[q0]? = some (a, .inl (cA, 4, .inr (.inr (.inr (.inr (kx_out er))))))) (ht : tys[t0]? = some (cA, .array t)) {i : Nat} (hi : i < 4) (hdg : decode cc pc = .ok (.aaload, 1))
    (kk : W p l e R s m args below meth c H locs cells slots Q (F0 m (pc + 1) ls (.ref (er i) :: rest))) : W p l e R s m args below meth c H locs cells slots Q (F0 m pc ls (.int (nI i) :: .ref a :: rest)) :=
  kx_aldA hexec hb hK hP q0 t0 ha ht (vp_in_nI hi (by decide)) hdg (by rw [nI_clamp (by omega)]; unfold kx_out; rw [if_pos hi]; exact kk)
end KX2
theorem in_4 {i : Int32} {n : Nat} (hn : n < 2 ^ 31) (h0 : ¬ i < 0) (h : ¬ nI n ≤ i) : i.toNatClampNeg < n ∧ ¬ i < 0 := by
  obtain ⟨j, hj, rfl⟩ := nI_of h0
  rw [nI_clamp hj]
  refine ⟨?_, h0⟩
  rcases Nat.lt_or_ge j n with q | q
  · exact q
  · exact absurd (nI_le q hj) h
theorem vp_in_4 {i : Int32} {n : Nat} (h : i.toNatClampNeg < n ∧ ¬ i < 0) : vp_in i n := fun q => q.elim h.2 (fun h2 => Nat.not_le.mpr h.1 h2)
theorem in_5 {i : Int32} (h0 : ¬ i < 0) (h : i < 5) : i.toNatClampNeg < 5 ∧ ¬ i < 0 := by
  obtain ⟨j, hj, rfl⟩ := nI_of h0
  rw [nI_clamp hj]
  exact ⟨(nI_ltI hj (by decide)).mp h, h0⟩
def f_ks_setEntry (E : Nat → Nat → Int32) (i : Int32) (j : Int32) (v : Int32) : Int32 × (Nat → Nat → Int32) :=
  if i < 0 then (0, E) else if 4 ≤ i then (0, E) else if j < 0 then (0, E) else if j < 5 then if v < (-100) then (0, E) else if v ≤ 100 then (1, (va_up E i.toNatClampNeg (upd (E i.toNatClampNeg) j.toNatClampNeg v))) else (0, E) else (0, E)
set_option maxHeartbeats 4000000 in
set_option maxRecDepth 100000 in
theorem c_ks_setEntry (l : Launch) (dC : Nat → ClassId) (dI : Nat → Nat → Nat) (sz : Nat) (a_s : Nat) (e0 : Nat) (w0 : Nat) (pv : Nat) (su : Nat) (sl : Nat) (er : Nat → Nat) (wr : Nat → Nat) (ans : Int32) (cE : ClassId) (cW : ClassId) (cP : ClassId) (fp : Nat → Int32) (cSu : ClassId) (fsu : Nat → Int64) (cSl : ClassId) (fsl : Nat → Int64) (cI : ClassId) (E : Nat → Nat → Int32) (cJ : ClassId) (Wm : Nat → Nat → Int64) (i : Int32) (j : Int32) (v : Int32) : Met l y_ks_setEntry w_ks_setEntry ({ frames := 0, cells := 0, slots := 0, locals := 0 }) (va_Pc [.ref a_s, .int i, .int j, .int v] (fun U => U.heap.size = sz ∧ va_P (dC, dI) classes (ks_ws a_s e0 w0 pv su sl er wr cE cW cP cSu cSl cI cJ fp fsu fsl E Wm ans) U.heap ∧ va_K (dC, dI) classes [(cE, .array .int), (cW, .array .long), (cP, .int), (cSu, .long), (cSl, .long), (cI, .int), (cJ, .long)] U ∧ va_D (fun _ => True) (ks_ws a_s e0 w0 pv su sl er wr cE cW cP cSu cSl cI cJ fp fsu fsl E Wm ans))) (va_Qi (fun z9 u9 => (z9, u9) = f_ks_setEntry E i j v) (fun (u : (Nat → Nat → Int32)) t => match u with | E' => va_P (dC, dI) classes (ks_ws a_s e0 w0 pv su sl er wr cE cW cP cSu cSl cI cJ fp fsu fsl E' Wm ans) t.heap ∧ va_K (dC, dI) classes [(cE, .array .int), (cW, .array .long), (cP, .int), (cSu, .long), (cSl, .long), (cI, .int), (cJ, .long)] t ∧ va_D (va_A (ks_ws a_s e0 w0 pv su sl er wr cE cW cP cSu cSl cI cJ fp fsu fsl E Wm ans) sz) (ks_ws a_s e0 w0 pv su sl er wr cE cW cP cSu cSl cI cJ fp fsu fsl E' Wm ans)) (va_A (ks_ws a_s e0 w0 pv su sl er wr cE cW cP cSu cSl cI cJ fp fsu fsl E Wm ans) sz)) 0 0 (va_A (ks_ws a_s e0 w0 pv su sl er wr cE cW cP cSu cSl cI cJ fp fsu fsl E Wm ans) sz) := by
  refine Met.ofW (cc := b_ks_setEntry) (maxL := 4) (ret := (some .boolean)) (by decide +kernel) rfl ?_
  intro p e s m args below meth c s₁ B hml hv
  obtain ⟨rfl, hsz, hP, hK, hD0⟩ := hv
  have hx := B.exec
  have hb := B.bytes
  have hr := B.returns
  have hts := atoms_spec (ws := w_ks_setEntry) B.pre
  have hT := fun (w : Cond) (h : w ∈ kt_T) => hts w (List.mem_cons_of_mem _ h)
  have hown : s.vm.findClass R_ks = some m.cls := findClass_of_methodNamed B.named
  have hlocks := B.notSynchronized
  subst hsz
  have hD := hD0.self (sz := s.heap.size)
  generalize hAe : va_A (ks_ws a_s e0 w0 pv su sl er wr cE cW cP cSu cSl cI cJ fp fsu fsl E Wm ans) s.heap.size = A at hD ⊢
  have hA : ∀ q : Nat, s.heap.size ≤ q → A q := fun q h => by rw [← hAe]; exact Or.inr h
  have hS : va_S A s.heap s.heap [] := va_S.rf
  have hl := lv_entry ([.ref a_s, .int i, .int j, .int v]) (n := 4) (Nat.le_of_ble_eq_true rfl)
  rw [lg_entry_eq]
  generalize (lg_sl ([.ref a_s, .int i, .int j, .int v]) ++ List.replicate (4 - (lg_sl ([.ref a_s, .int i, .int j, .int v])).length) Slot.unset).toArray = ls at hl ⊢
  have hl : lv_has ls 4 [(0, .ref a_s), (1, .int i), (2, .int j), (3, .int v)] := hl
  refine lv_iload_n hx hb d_ks_setEntry_0 rfl (lv_at hl 1 rfl) ?_
  refine lv_if_lt (tgt := 18) hx hb d_ks_setEntry_1 (by decide) (fun c_1 => ?_) (fun c_1 => ?_)
  · refine lv_iconst (v := 0) hx hb d_ks_setEntry_18 (by decide) ?_
    exact W.zret (v := 0) hx hb hr rfl (fun t ht hW => ⟨⟨0, E, rfl, by unfold f_ks_setEntry; rw [if_pos c_1], by rw [ht]; exact hP, va_K.moved hW.alike hK, hD⟩, hS.F ht⟩) hS.2.2 d_ks_setEntry_19
  · refine lv_iload_n hx hb d_ks_setEntry_4 rfl (lv_at hl 1 rfl) ?_
    refine lv_iconst (v := 4) hx hb d_ks_setEntry_5 (by decide) ?_
    refine lv_icmp_ge (tgt := 18) hx hb d_ks_setEntry_6 (by decide) (fun c_2 => ?_) (fun c_2 => ?_)
    · refine lv_iconst (v := 0) hx hb d_ks_setEntry_18 (by decide) ?_
      exact W.zret (v := 0) hx hb hr rfl (fun t ht hW => ⟨⟨0, E, rfl, by unfold f_ks_setEntry; rw [if_neg c_1, if_pos c_2], by rw [ht]; exact hP, va_K.moved hW.alike hK, hD⟩, hS.F ht⟩) hS.2.2 d_ks_setEntry_19
    · refine lv_iload_n hx hb d_ks_setEntry_9 rfl (lv_at hl 2 rfl) ?_
      refine lv_if_lt (tgt := 18) hx hb d_ks_setEntry_10 (by decide) (fun c_3 => ?_) (fun c_3 => ?_)
      · refine lv_iconst (v := 0) hx hb d_ks_setEntry_18 (by decide) ?_
        exact W.zret (v := 0) hx hb hr rfl (fun t ht hW => ⟨⟨0, E, rfl, by unfold f_ks_setEntry; rw [if_neg c_1, if_neg c_2, if_pos c_3], by rw [ht]; exact hP, va_K.moved hW.alike hK, hD⟩, hS.F ht⟩) hS.2.2 d_ks_setEntry_19
      · refine lv_iload_n hx hb d_ks_setEntry_13 rfl (lv_at hl 2 rfl) ?_
        refine lv_iconst (v := 5) hx hb d_ks_setEntry_14 (by decide) ?_
        refine lv_icmp_lt (tgt := 20) hx hb d_ks_setEntry_15 (by decide) (fun c_4 => ?_) (fun c_4 => ?_)
        · refine lv_iload_n hx hb d_ks_setEntry_20 rfl (lv_at hl 3 rfl) ?_
          refine lv_bipush (v := (-100)) hx hb d_ks_setEntry_21 (by decide) ?_
          refine lv_icmp_lt (tgt := 32) hx hb d_ks_setEntry_23 (by decide) (fun c_5 => ?_) (fun c_5 => ?_)
          · refine lv_iconst (v := 0) hx hb d_ks_setEntry_32 (by decide) ?_
            exact W.zret (v := 0) hx hb hr rfl (fun t ht hW => ⟨⟨0, E, rfl, by unfold f_ks_setEntry; rw [if_neg c_1, if_neg c_2, if_neg c_3, if_pos c_4, if_pos c_5], by rw [ht]; exact hP, va_K.moved hW.alike hK, hD⟩, hS.F ht⟩) hS.2.2 d_ks_setEntry_33
          · refine lv_iload_n hx hb d_ks_setEntry_26 rfl (lv_at hl 3 rfl) ?_
            refine lv_bipush (v := 100) hx hb d_ks_setEntry_27 (by decide) ?_
            refine lv_icmp_le (tgt := 34) hx hb d_ks_setEntry_29 (by decide) (fun c_6 => ?_) (fun c_6 => ?_)
            · refine lv_aload_n hx hb d_ks_setEntry_34 rfl (lv_at hl 0 rfl) ?_
              refine va_get (D := (dC, dI)) (ci := 2) (v := .ref e0) (C := R_ks) (T := F_ks) (N := 6) hx hb hT i_ks hown hK hP 0 rfl rfl 0 (by decide) (hT _ k_75) (fun _ h9 => h9) rfl d_ks_setEntry_35 ?_
              refine lv_iload_n hx hb d_ks_setEntry_38 rfl (lv_at hl 1 rfl) ?_
              refine kx_ald hx hb hK hP 1 0 rfl rfl (in_4 (n := 4) (by decide) c_1 c_2) d_ks_setEntry_39 ?_
              refine lv_iload_n hx hb d_ks_setEntry_40 rfl (lv_at hl 2 rfl) ?_
              refine lv_iload_n hx hb d_ks_setEntry_41 rfl (lv_at hl 3 rfl) ?_
              refine va_iast hx hb hK hP hD hS (6 + i.toNatClampNeg) 5 (ks_e (in_4 (n := 4) (by decide) c_1 c_2).1) rfl (vp_in_4 (in_5 c_3 c_4)) d_ks_setEntry_42 (fun H locs hP hD hS => ?_)
              rw [ks_ee (in_4 (n := 4) (by decide) c_1 c_2).1] at hP hD
              have hP : va_P (dC, dI) classes (ks_ws a_s e0 w0 pv su sl er wr cE cW cP cSu cSl cI cJ fp fsu fsl (va_up E i.toNatClampNeg (upd (E i.toNatClampNeg) j.toNatClampNeg v)) Wm ans) H := hP
              have hD : va_D A (ks_ws a_s e0 w0 pv su sl er wr cE cW cP cSu cSl cI cJ fp fsu fsl (va_up E i.toNatClampNeg (upd (E i.toNatClampNeg) j.toNatClampNeg v)) Wm ans) := hD
              refine lv_iconst (v := 1) hx hb d_ks_setEntry_43 (by decide) ?_
              exact W.zret (v := 1) hx hb hr rfl (fun t ht hW => ⟨⟨1, (va_up E i.toNatClampNeg (upd (E i.toNatClampNeg) j.toNatClampNeg v)), rfl, by unfold f_ks_setEntry; rw [if_neg c_1, if_neg c_2, if_neg c_3, if_pos c_4, if_neg c_5, if_pos c_6], by rw [ht]; exact hP, va_K.moved hW.alike hK, hD⟩, hS.F ht⟩) hS.2.2 d_ks_setEntry_44
            · refine lv_iconst (v := 0) hx hb d_ks_setEntry_32 (by decide) ?_
              exact W.zret (v := 0) hx hb hr rfl (fun t ht hW => ⟨⟨0, E, rfl, by unfold f_ks_setEntry; rw [if_neg c_1, if_neg c_2, if_neg c_3, if_pos c_4, if_neg c_5, if_neg c_6], by rw [ht]; exact hP, va_K.moved hW.alike hK, hD⟩, hS.F ht⟩) hS.2.2 d_ks_setEntry_33
        · refine lv_iconst (v := 0) hx hb d_ks_setEntry_18 (by decide) ?_
          exact W.zret (v := 0) hx hb hr rfl (fun t ht hW => ⟨⟨0, E, rfl, by unfold f_ks_setEntry; rw [if_neg c_1, if_neg c_2, if_neg c_3, if_neg c_4], by rw [ht]; exact hP, va_K.moved hW.alike hK, hD⟩, hS.F ht⟩) hS.2.2 d_ks_setEntry_19
def f_ks_hasAnswer (ans : Int32) (k : Int32) : Int32 :=
  if k < 0 then 0 else if ans ≤ k then 0 else 1
set_option maxHeartbeats 4000000 in
set_option maxRecDepth 100000 in
theorem c_ks_hasAnswer (l : Launch) (dC : Nat → ClassId) (dI : Nat → Nat → Nat) (a_s : Nat) (e0 : Nat) (w0 : Nat) (pv : Nat) (su : Nat) (sl : Nat) (er : Nat → Nat) (wr : Nat → Nat) (ans : Int32) (cE : ClassId) (cW : ClassId) (cP : ClassId) (fp : Nat → Int32) (cSu : ClassId) (fsu : Nat → Int64) (cSl : ClassId) (fsl : Nat → Int64) (cI : ClassId) (E : Nat → Nat → Int32) (cJ : ClassId) (Wm : Nat → Nat → Int64) (k : Int32) : Met l y_ks_hasAnswer w_ks_hasAnswer ({ frames := 0, cells := 0, slots := 0, locals := 0 }) (va_Pc [.ref a_s, .int k] (fun U => va_P (dC, dI) classes (ks_ws a_s e0 w0 pv su sl er wr cE cW cP cSu cSl cI cJ fp fsu fsl E Wm ans) U.heap ∧ va_K (dC, dI) classes [(cE, .array .int), (cW, .array .long), (cP, .int), (cSu, .long), (cSl, .long), (cI, .int), (cJ, .long)] U)) (vp_Si (fun z9 => z9 = f_ks_hasAnswer ans k)) 0 0 (fun _ => False) := by
  refine Met.ofW (cc := b_ks_hasAnswer) (maxL := 2) (ret := (some .boolean)) (by decide +kernel) rfl ?_
  intro p e s m args below meth c s₁ B hml hv
  obtain ⟨rfl, hP, hK⟩ := hv
  have hx := B.exec
  have hb := B.bytes
  have hr := B.returns
  have hts := atoms_spec (ws := w_ks_hasAnswer) B.pre
  have hT := fun (w : Cond) (h : w ∈ kt_T) => hts w (List.mem_cons_of_mem _ h)
  have hown : s.vm.findClass R_ks = some m.cls := findClass_of_methodNamed B.named
  have hlocks := B.notSynchronized
  have hl := lv_entry ([.ref a_s, .int k]) (n := 2) (Nat.le_of_ble_eq_true rfl)
  rw [lg_entry_eq]
  generalize (lg_sl ([.ref a_s, .int k]) ++ List.replicate (2 - (lg_sl ([.ref a_s, .int k])).length) Slot.unset).toArray = ls at hl ⊢
  have hl : lv_has ls 2 [(0, .ref a_s), (1, .int k)] := hl
  refine lv_iload_n hx hb d_ks_hasAnswer_0 rfl (lv_at hl 1 rfl) ?_
  refine lv_if_lt (tgt := 16) hx hb d_ks_hasAnswer_1 (by decide) (fun c_1 => ?_) (fun c_1 => ?_)
  · refine lv_iconst (v := 0) hx hb d_ks_hasAnswer_16 (by decide) ?_
    exact W.zret (v := 0) hx hb hr rfl (fun t ht hW => ⟨_, rfl, by unfold f_ks_hasAnswer; rw [if_pos c_1], ht⟩) t_nil d_ks_hasAnswer_17
  · refine lv_iload_n hx hb d_ks_hasAnswer_4 rfl (lv_at hl 1 rfl) ?_
    refine lv_aload_n hx hb d_ks_hasAnswer_5 rfl (lv_at hl 0 rfl) ?_
    refine va_get (D := (dC, dI)) (ci := 2) (v := .int ans) (C := R_ks) (T := F_ks) (N := 6) hx hb hT i_ks hown hK hP 0 rfl rfl 5 (by decide) (hT _ k_76) (fun _ h9 => h9) rfl d_ks_hasAnswer_6 ?_
    refine lv_icmp_ge (tgt := 16) hx hb d_ks_hasAnswer_9 (by decide) (fun c_2 => ?_) (fun c_2 => ?_)
    · refine lv_iconst (v := 0) hx hb d_ks_hasAnswer_16 (by decide) ?_
      exact W.zret (v := 0) hx hb hr rfl (fun t ht hW => ⟨_, rfl, by unfold f_ks_hasAnswer; rw [if_neg c_1, if_pos c_2], ht⟩) t_nil d_ks_hasAnswer_17
    · refine lv_iconst (v := 1) hx hb d_ks_hasAnswer_12 (by decide) ?_
      refine lv_goto (tgt := 17) hx hb d_ks_hasAnswer_13 (by decide) ?_
      exact W.zret (v := 1) hx hb hr rfl (fun t ht hW => ⟨_, rfl, by unfold f_ks_hasAnswer; rw [if_neg c_1, if_neg c_2], ht⟩) t_nil d_ks_hasAnswer_17
def f_ks_answerPart (fsu : Nat → Int64) (fsl : Nat → Int64) (k : Int32) (q : Int32) : Int64 :=
  if q = 0 then (fsu k.toNatClampNeg) else (fsl k.toNatClampNeg)
set_option maxHeartbeats 4000000 in
set_option maxRecDepth 100000 in
theorem c_ks_answerPart (l : Launch) (dC : Nat → ClassId) (dI : Nat → Nat → Nat) (a_s : Nat) (e0 : Nat) (w0 : Nat) (pv : Nat) (su : Nat) (sl : Nat) (er : Nat → Nat) (wr : Nat → Nat) (ans : Int32) (cE : ClassId) (cW : ClassId) (cP : ClassId) (fp : Nat → Int32) (cSu : ClassId) (fsu : Nat → Int64) (cSl : ClassId) (fsl : Nat → Int64) (cI : ClassId) (E : Nat → Nat → Int32) (cJ : ClassId) (Wm : Nat → Nat → Int64) (k : Int32) (q : Int32) (hk : vp_in k 4) : Met l y_ks_answerPart w_ks_answerPart ({ frames := 0, cells := 0, slots := 0, locals := 0 }) (va_Pc [.ref a_s, .int k, .int q] (fun U => va_P (dC, dI) classes (ks_ws a_s e0 w0 pv su sl er wr cE cW cP cSu cSl cI cJ fp fsu fsl E Wm ans) U.heap ∧ va_K (dC, dI) classes [(cE, .array .int), (cW, .array .long), (cP, .int), (cSu, .long), (cSl, .long), (cI, .int), (cJ, .long)] U)) (vp_Sl (fun z9 => z9 = f_ks_answerPart fsu fsl k q)) 0 0 (fun _ => False) := by
  refine Met.ofW (cc := b_ks_answerPart) (maxL := 3) (ret := (some .long)) (by decide +kernel) rfl ?_
  intro p e s m args below meth c s₁ B hml hv
  obtain ⟨rfl, hP, hK⟩ := hv
  have hx := B.exec
  have hb := B.bytes
  have hr := B.returns
  have hts := atoms_spec (ws := w_ks_answerPart) B.pre
  have hT := fun (w : Cond) (h : w ∈ kt_T) => hts w (List.mem_cons_of_mem _ h)
  have hown : s.vm.findClass R_ks = some m.cls := findClass_of_methodNamed B.named
  have hlocks := B.notSynchronized
  have hl := lv_entry ([.ref a_s, .int k, .int q]) (n := 3) (Nat.le_of_ble_eq_true rfl)
  rw [lg_entry_eq]
  generalize (lg_sl ([.ref a_s, .int k, .int q]) ++ List.replicate (3 - (lg_sl ([.ref a_s, .int k, .int q])).length) Slot.unset).toArray = ls at hl ⊢
  have hl : lv_has ls 3 [(0, .ref a_s), (1, .int k), (2, .int q)] := hl
  refine lv_iload_n hx hb d_ks_answerPart_0 rfl (lv_at hl 2 rfl) ?_
  refine lv_if_ne (tgt := 13) hx hb d_ks_answerPart_1 (by decide) (fun c_1 => ?_) (fun c_1 => ?_)
  · refine lv_aload_n hx hb d_ks_answerPart_13 rfl (lv_at hl 0 rfl) ?_
    refine va_get (D := (dC, dI)) (ci := 2) (v := .ref sl) (C := R_ks) (T := F_ks) (N := 6) hx hb hT i_ks hown hK hP 0 rfl rfl 4 (by decide) (hT _ k_77) (fun _ h9 => h9) rfl d_ks_answerPart_14 ?_
    refine lv_iload_n hx hb d_ks_answerPart_17 rfl (lv_at hl 1 rfl) ?_
    refine va_lald hx hb hK hP 5 4 rfl rfl hk d_ks_answerPart_18 ?_
    exact W.lret (v := fsl k.toNatClampNeg) hx hb hr (fun t ht hW => ⟨_, rfl, by unfold f_ks_answerPart; rw [if_neg c_1], ht⟩) t_nil d_ks_answerPart_19
  · refine lv_aload_n hx hb d_ks_answerPart_4 rfl (lv_at hl 0 rfl) ?_
    refine va_get (D := (dC, dI)) (ci := 2) (v := .ref su) (C := R_ks) (T := F_ks) (N := 6) hx hb hT i_ks hown hK hP 0 rfl rfl 3 (by decide) (hT _ k_78) (fun _ h9 => h9) rfl d_ks_answerPart_5 ?_
    refine lv_iload_n hx hb d_ks_answerPart_8 rfl (lv_at hl 1 rfl) ?_
    refine va_lald hx hb hK hP 4 3 rfl rfl hk d_ks_answerPart_9 ?_
    refine lv_goto (tgt := 19) hx hb d_ks_answerPart_10 (by decide) ?_
    exact W.lret (v := fsu k.toNatClampNeg) hx hb hr (fun t ht hW => ⟨_, rfl, by unfold f_ks_answerPart; rw [if_pos c_1], ht⟩) t_nil d_ks_answerPart_19
end
section
abbrev b_ks_copy : ByteArray := prog_2_method_4_code
def y_ks_copy : MethodName := ⟨R_ks, "copyEntries", "(I)V"⟩
def w_ks_copy : List Cond := .code y_ks_copy b_ks_copy 4 none :: kt_T
theorem d_ks_copy_0 : decode b_ks_copy 0 = .ok (.iconst 0, 1) := by decide +kernel
theorem d_ks_copy_1 : decode b_ks_copy 1 = .ok (.istore_n 2, 1) := by decide +kernel
theorem d_ks_copy_2 : decode b_ks_copy 2 = .ok (.iload_n 2, 1) := by decide +kernel
theorem d_ks_copy_3 : decode b_ks_copy 3 = .ok (.iload_n 1, 1) := by decide +kernel
theorem d_ks_copy_4 : decode b_ks_copy 4 = .ok (.if_icmp .ge 39, 3) := by decide +kernel
theorem d_ks_copy_7 : decode b_ks_copy 7 = .ok (.iconst 0, 1) := by decide +kernel
theorem d_ks_copy_8 : decode b_ks_copy 8 = .ok (.istore_n 3, 1) := by decide +kernel
theorem d_ks_copy_9 : decode b_ks_copy 9 = .ok (.iload_n 3, 1) := by decide +kernel
theorem d_ks_copy_10 : decode b_ks_copy 10 = .ok (.iconst 5, 1) := by decide +kernel
theorem d_ks_copy_11 : decode b_ks_copy 11 = .ok (.if_icmp .ge 26, 3) := by decide +kernel
theorem d_ks_copy_14 : decode b_ks_copy 14 = .ok (.aload_n 0, 1) := by decide +kernel
theorem d_ks_copy_15 : decode b_ks_copy 15 = .ok (.getfield 18, 3) := by decide +kernel
theorem d_ks_copy_18 : decode b_ks_copy 18 = .ok (.iload_n 2, 1) := by decide +kernel
theorem d_ks_copy_19 : decode b_ks_copy 19 = .ok (.aaload, 1) := by decide +kernel
theorem d_ks_copy_20 : decode b_ks_copy 20 = .ok (.iload_n 3, 1) := by decide +kernel
theorem d_ks_copy_21 : decode b_ks_copy 21 = .ok (.aload_n 0, 1) := by decide +kernel
theorem d_ks_copy_22 : decode b_ks_copy 22 = .ok (.getfield 13, 3) := by decide +kernel
theorem d_ks_copy_25 : decode b_ks_copy 25 = .ok (.iload_n 2, 1) := by decide +kernel
theorem d_ks_copy_26 : decode b_ks_copy 26 = .ok (.aaload, 1) := by decide +kernel
theorem d_ks_copy_27 : decode b_ks_copy 27 = .ok (.iload_n 3, 1) := by decide +kernel
theorem d_ks_copy_28 : decode b_ks_copy 28 = .ok (.iaload, 1) := by decide +kernel
theorem d_ks_copy_29 : decode b_ks_copy 29 = .ok (.i2l, 1) := by decide +kernel
theorem d_ks_copy_30 : decode b_ks_copy 30 = .ok (.lastore, 1) := by decide +kernel
theorem d_ks_copy_31 : decode b_ks_copy 31 = .ok (.iinc 3 1, 3) := by decide +kernel
theorem d_ks_copy_34 : decode b_ks_copy 34 = .ok (.goto (-25), 3) := by decide +kernel
theorem d_ks_copy_37 : decode b_ks_copy 37 = .ok (.iinc 2 1, 3) := by decide +kernel
theorem d_ks_copy_40 : decode b_ks_copy 40 = .ok (.goto (-38), 3) := by decide +kernel
theorem d_ks_copy_43 : decode b_ks_copy 43 = .ok (.return_, 1) := by decide +kernel
theorem k_79 : (.fieldLink R_ks 18 "KilogramRows$ShareSystem" "work" "[[J" : Cond) ∈ kt_T := List.mem_filter.mpr ⟨List.mem_of_getElem? (i := 67) (by decide +kernel), by decide +kernel⟩
/-- one row is copied: k places are left, from j on -/
def cpR (E : Nat → Nat → Int32) (i : Nat) : Nat → Nat → (Nat → Nat → Int64) → Nat → Nat → Int64
  | 0, _, X => X
  | k + 1, j, X => cpR E i k (j + 1) (va_up X i (vp_updL (X i) j (E i j).toInt64))
/-- the rows are copied: d are left, from i on -/
def cpL (E : Nat → Nat → Int32) : Nat → Nat → (Nat → Nat → Int64) → Nat → Nat → Int64
  | 0, _, X => X
  | d + 1, i, X => cpL E d (i + 1) (cpR E i 5 0 X)
set_option maxHeartbeats 4000000 in
theorem lp_ks_copyR {p : Program} {l : Launch} {e : Env} {R : Room} {s : State} {m : MethodId} {args : Array Value} {below : List Frame} {meth : Method} {c : Code} {dC : Nat → ClassId} {dI : Nat → Nat → Nat} {A : Nat → Prop} {Q : State → Prop} {a_s : Nat} {e0 : Nat} {w0 : Nat} {pv : Nat} {su : Nat} {sl : Nat} {er : Nat → Nat} {wr : Nat → Nat} {ans : Int32} {cE : ClassId} {cW : ClassId} {cP : ClassId} {fp : Nat → Int32} {cSu : ClassId} {fsu : Nat → Int64} {cSl : ClassId} {fsl : Nat → Int64} {cI : ClassId} {E : Nat → Nat → Int32} {cJ : ClassId} {n : Nat} (hx : p.tables.exec = Jvm.exec) (hb : c.code = b_ks_copy) (hml : c.maxLocals = 4) (hown : s.vm.findClass R_ks = some m.cls) (hT : ∀ w ∈ kt_T, w.before args s = true) (hA : ∀ q : Nat, s.heap.size ≤ q → A q) (hK : va_K (dC, dI) classes [(cE, .array .int), (cW, .array .long), (cP, .int), (cSu, .long), (cSl, .long), (cI, .int), (cJ, .long)] s) {i : Nat} (hi : i < 4) :
    ∀ (k j : Nat) (X : Nat → Nat → Int64), j + k = 5 → (∀ (H : Heap) (locs : List Loc) (ls : Array Slot), va_P (dC, dI) classes (ks_ws a_s e0 w0 pv su sl er wr cE cW cP cSu cSl cI cJ fp fsu fsl E (cpR E i k j X) ans) H → va_D A (ks_ws a_s e0 w0 pv su sl er wr cE cW cP cSu cSl cI cJ fp fsu fsl E (cpR E i k j X) ans) → va_S A s.heap H locs → lv_has ls 4 [(0, .ref a_s), (1, .int (nI n)), (2, .int (nI i))] → W p l e R s m args below meth c H locs 0 0 Q (F0 m 37 ls [])) → ∀ (H : Heap) (locs : List Loc) (ls : Array Slot), va_P (dC, dI) classes (ks_ws a_s e0 w0 pv su sl er wr cE cW cP cSu cSl cI cJ fp fsu fsl E X ans) H → va_D A (ks_ws a_s e0 w0 pv su sl er wr cE cW cP cSu cSl cI cJ fp fsu fsl E X ans) → va_S A s.heap H locs → lv_has ls 4 [(0, .ref a_s), (1, .int (nI n)), (2, .int (nI i)), (3, .int (nI j))] → W p l e R s m args below meth c H locs 0 0 Q (F0 m 9 ls []) := by
  intro k
  induction k with
  | zero =>
    intro j X hj hk H locs ls hP hD hS hl
    refine lv_iload_n hx hb d_ks_copy_9 rfl (lv_at hl 3 rfl) ?_
    refine lv_iconst (v := 5) hx hb d_ks_copy_10 (by decide) ?_
    refine lv_icmp_ge (tgt := 37) hx hb d_ks_copy_11 (by decide) (fun c_1 => ?_) (fun c_1 => ?_)
    · exact hk H locs ls hP hD hS (lv_sub hl [0, 1, 2] rfl)
    · exact absurd (show (5 : Int32) ≤ nI j by rw [show j = 5 by omega]; decide) c_1
  | succ k ih =>
    intro j X hj hk H locs ls hP hD hS hl
    refine lv_iload_n hx hb d_ks_copy_9 rfl (lv_at hl 3 rfl) ?_
    refine lv_iconst (v := 5) hx hb d_ks_copy_10 (by decide) ?_
    refine lv_icmp_ge (tgt := 37) hx hb d_ks_copy_11 (by decide) (fun c_2 => ?_) (fun c_2 => ?_)
    · exact absurd c_2 (nI_ge (show j < 5 by omega) (by decide))
    · refine lv_aload_n hx hb d_ks_copy_14 rfl (lv_at hl 0 rfl) ?_
      refine va_get (D := (dC, dI)) (ci := 2) (v := .ref w0) (C := R_ks) (T := F_ks) (N := 6) hx hb hT i_ks hown hK hP 0 rfl rfl 1 (by decide) (hT _ k_79) (fun _ h9 => h9) rfl d_ks_copy_15 ?_
      refine lv_iload_n hx hb d_ks_copy_18 rfl (lv_at hl 2 rfl) ?_
      refine kx_aldN hx hb hK hP 2 1 rfl rfl hi d_ks_copy_19 ?_
      refine lv_iload_n hx hb d_ks_copy_20 rfl (lv_at hl 3 rfl) ?_
      refine lv_aload_n hx hb d_ks_copy_21 rfl (lv_at hl 0 rfl) ?_
      refine va_get (D := (dC, dI)) (ci := 2) (v := .ref e0) (C := R_ks) (T := F_ks) (N := 6) hx hb hT i_ks hown hK hP 0 rfl rfl 0 (by decide) (hT _ k_75) (fun _ h9 => h9) rfl d_ks_copy_22 ?_
      refine lv_iload_n hx hb d_ks_copy_25 rfl (lv_at hl 2 rfl) ?_
      refine kx_aldN hx hb hK hP 1 0 rfl rfl hi d_ks_copy_26 ?_
      refine lv_iload_n hx hb d_ks_copy_27 rfl (lv_at hl 3 rfl) ?_
      refine va_ialdN (i := j) hx hb hK hP (6 + i) 5 (ks_e hi) rfl ⟨by omega, by decide⟩ d_ks_copy_28 ?_
      refine lv_i2l (v := (E i j).toInt64) hx hb d_ks_copy_29 rfl ?_
      refine va_lastN hx hb hK hP hD hS (10 + i) 6 (ks_w hi) rfl ⟨by omega, by decide⟩ d_ks_copy_30 (fun H locs hP hD hS => ?_)
      rw [ks_ww hi] at hP hD
      have hP : va_P (dC, dI) classes (ks_ws a_s e0 w0 pv su sl er wr cE cW cP cSu cSl cI cJ fp fsu fsl E (va_up X i (vp_updL (X i) j ((E i j).toInt64))) ans) H := hP
      have hD : va_D A (ks_ws a_s e0 w0 pv su sl er wr cE cW cP cSu cSl cI cJ fp fsu fsl E (va_up X i (vp_updL (X i) j ((E i j).toInt64))) ans) := hD
      refine lv_iinc (v := (nI j) + 1) (lv' := [(3, .int ((nI j) + 1)), (0, .ref a_s), (1, .int (nI n)), (2, .int (nI i))]) hx hb d_ks_copy_31 hl (k := 3) rfl rfl (by decide) rfl (fun ls hl => ?_)
      refine lv_goto (tgt := 9) hx hb d_ks_copy_34 (by decide) ?_
      exact ih (j + 1) _ (by omega) hk H locs ls hP hD hS (by have h9 := lv_sub hl [1, 2, 3, 0] rfl; rw [nI_1] at h9; exact h9)
set_option maxHeartbeats 4000000 in
theorem lp_ks_copyL {p : Program} {l : Launch} {e : Env} {R : Room} {s : State} {m : MethodId} {args : Array Value} {below : List Frame} {meth : Method} {c : Code} {dC : Nat → ClassId} {dI : Nat → Nat → Nat} {A : Nat → Prop} {Q : State → Prop} {a_s : Nat} {e0 : Nat} {w0 : Nat} {pv : Nat} {su : Nat} {sl : Nat} {er : Nat → Nat} {wr : Nat → Nat} {ans : Int32} {cE : ClassId} {cW : ClassId} {cP : ClassId} {fp : Nat → Int32} {cSu : ClassId} {fsu : Nat → Int64} {cSl : ClassId} {fsl : Nat → Int64} {cI : ClassId} {E : Nat → Nat → Int32} {cJ : ClassId} {n : Nat} (hx : p.tables.exec = Jvm.exec) (hb : c.code = b_ks_copy) (hml : c.maxLocals = 4) (hown : s.vm.findClass R_ks = some m.cls) (hT : ∀ w ∈ kt_T, w.before args s = true) (hA : ∀ q : Nat, s.heap.size ≤ q → A q) (hK : va_K (dC, dI) classes [(cE, .array .int), (cW, .array .long), (cP, .int), (cSu, .long), (cSl, .long), (cI, .int), (cJ, .long)] s) (hn : n ≤ 4) :
    ∀ (d i : Nat) (X : Nat → Nat → Int64), i + d = n → (∀ (H : Heap) (locs : List Loc) (ls : Array Slot), va_P (dC, dI) classes (ks_ws a_s e0 w0 pv su sl er wr cE cW cP cSu cSl cI cJ fp fsu fsl E (cpL E d i X) ans) H → va_D A (ks_ws a_s e0 w0 pv su sl er wr cE cW cP cSu cSl cI cJ fp fsu fsl E (cpL E d i X) ans) → va_S A s.heap H locs → lv_has ls 4 [(0, .ref a_s), (1, .int (nI n))] → W p l e R s m args below meth c H locs 0 0 Q (F0 m 43 ls [])) → ∀ (H : Heap) (locs : List Loc) (ls : Array Slot), va_P (dC, dI) classes (ks_ws a_s e0 w0 pv su sl er wr cE cW cP cSu cSl cI cJ fp fsu fsl E X ans) H → va_D A (ks_ws a_s e0 w0 pv su sl er wr cE cW cP cSu cSl cI cJ fp fsu fsl E X ans) → va_S A s.heap H locs → lv_has ls 4 [(0, .ref a_s), (1, .int (nI n)), (2, .int (nI i))] → W p l e R s m args below meth c H locs 0 0 Q (F0 m 2 ls []) := by
  intro d
  induction d with
  | zero =>
    intro i X hi hk H locs ls hP hD hS hl
    refine lv_iload_n hx hb d_ks_copy_2 rfl (lv_at hl 2 rfl) ?_
    refine lv_iload_n hx hb d_ks_copy_3 rfl (lv_at hl 1 rfl) ?_
    refine lv_icmp_ge (tgt := 43) hx hb d_ks_copy_4 (by decide) (fun c_3 => ?_) (fun c_3 => ?_)
    · exact hk H locs ls hP hD hS (lv_sub hl [0, 1] rfl)
    · exact absurd (nI_le (show n ≤ i by omega) (by omega)) c_3
  | succ d ih =>
    intro i X hi hk H locs ls hP hD hS hl
    refine lv_iload_n hx hb d_ks_copy_2 rfl (lv_at hl 2 rfl) ?_
    refine lv_iload_n hx hb d_ks_copy_3 rfl (lv_at hl 1 rfl) ?_
    refine lv_icmp_ge (tgt := 43) hx hb d_ks_copy_4 (by decide) (fun c_4 => ?_) (fun c_4 => ?_)
    · exact absurd c_4 (nI_ge (show i < n by omega) (by omega))
    · refine lv_iconst (v := 0) hx hb d_ks_copy_7 (by decide) ?_
      refine lv_istore_n (lv' := [(3, .int 0), (0, .ref a_s), (1, .int (nI n)), (2, .int (nI i))]) hx hb d_ks_copy_8 rfl hl (by decide) rfl (fun ls hl => ?_)
      refine lp_ks_copyR hx hb hml hown hT hA hK (show i < 4 by omega) 5 0 X rfl (fun H locs ls hP hD hS hl => ?_) H locs ls hP hD hS (lv_sub hl [1, 2, 3, 0] rfl)
      refine lv_iinc (v := (nI i) + 1) (lv' := [(2, .int ((nI i) + 1)), (0, .ref a_s), (1, .int (nI n))]) hx hb d_ks_copy_37 hl (k := 2) rfl rfl (by decide) rfl (fun ls hl => ?_)
      refine lv_goto (tgt := 2) hx hb d_ks_copy_40 (by decide) ?_
      exact ih (i + 1) _ (by omega) hk H locs ls hP hD hS (by have h9 := lv_sub hl [1, 2, 0] rfl; rw [nI_1] at h9; exact h9)
def f_ks_copy (E : Nat → Nat → Int32) (Wm : Nat → Nat → Int64) (n : Nat) : (Nat → Nat → Int64) :=
  (cpL E n 0 Wm)
set_option maxHeartbeats 4000000 in
set_option maxRecDepth 100000 in
theorem c_ks_copy (l : Launch) (dC : Nat → ClassId) (dI : Nat → Nat → Nat) (sz : Nat) (a_s : Nat) (e0 : Nat) (w0 : Nat) (pv : Nat) (su : Nat) (sl : Nat) (er : Nat → Nat) (wr : Nat → Nat) (ans : Int32) (cE : ClassId) (cW : ClassId) (cP : ClassId) (fp : Nat → Int32) (cSu : ClassId) (fsu : Nat → Int64) (cSl : ClassId) (fsl : Nat → Int64) (cI : ClassId) (E : Nat → Nat → Int32) (cJ : ClassId) (Wm : Nat → Nat → Int64) (n : Nat) (hn : n ≤ 4) : Met l y_ks_copy w_ks_copy ({ frames := 0, cells := 0, slots := 0, locals := 0 }) (va_Pc [.ref a_s, .int (nI n)] (fun U => U.heap.size = sz ∧ va_P (dC, dI) classes (ks_ws a_s e0 w0 pv su sl er wr cE cW cP cSu cSl cI cJ fp fsu fsl E Wm ans) U.heap ∧ va_K (dC, dI) classes [(cE, .array .int), (cW, .array .long), (cP, .int), (cSu, .long), (cSl, .long), (cI, .int), (cJ, .long)] U ∧ va_D (fun _ => True) (ks_ws a_s e0 w0 pv su sl er wr cE cW cP cSu cSl cI cJ fp fsu fsl E Wm ans))) (va_Qv (fun u9 => u9 = f_ks_copy E Wm n) (fun (u : (Nat → Nat → Int64)) t => match u with | Wm' => va_P (dC, dI) classes (ks_ws a_s e0 w0 pv su sl er wr cE cW cP cSu cSl cI cJ fp fsu fsl E Wm' ans) t.heap ∧ va_K (dC, dI) classes [(cE, .array .int), (cW, .array .long), (cP, .int), (cSu, .long), (cSl, .long), (cI, .int), (cJ, .long)] t ∧ va_D (va_A (ks_ws a_s e0 w0 pv su sl er wr cE cW cP cSu cSl cI cJ fp fsu fsl E Wm ans) sz) (ks_ws a_s e0 w0 pv su sl er wr cE cW cP cSu cSl cI cJ fp fsu fsl E Wm' ans)) (va_A (ks_ws a_s e0 w0 pv su sl er wr cE cW cP cSu cSl cI cJ fp fsu fsl E Wm ans) sz)) 0 0 (va_A (ks_ws a_s e0 w0 pv su sl er wr cE cW cP cSu cSl cI cJ fp fsu fsl E Wm ans) sz) := by
  refine Met.ofW (cc := b_ks_copy) (maxL := 4) (ret := none) (by decide +kernel) rfl ?_
  intro p e s m args below meth c s₁ B hml hv
  obtain ⟨rfl, hsz, hP, hK, hD0⟩ := hv
  have hx := B.exec
  have hb := B.bytes
  have hr := B.returns
  have hts := atoms_spec (ws := w_ks_copy) B.pre
  have hT := fun (w : Cond) (h : w ∈ kt_T) => hts w (List.mem_cons_of_mem _ h)
  have hown : s.vm.findClass R_ks = some m.cls := findClass_of_methodNamed B.named
  have hlocks := B.notSynchronized
  subst hsz
  have hD := hD0.self (sz := s.heap.size)
  generalize hAe : va_A (ks_ws a_s e0 w0 pv su sl er wr cE cW cP cSu cSl cI cJ fp fsu fsl E Wm ans) s.heap.size = A at hD ⊢
  have hA : ∀ q : Nat, s.heap.size ≤ q → A q := fun q h => by rw [← hAe]; exact Or.inr h
  have hS : va_S A s.heap s.heap [] := va_S.rf
  have hl := lv_entry ([.ref a_s, .int (nI n)]) (n := 4) (Nat.le_of_ble_eq_true rfl)
  rw [lg_entry_eq]
  generalize (lg_sl ([.ref a_s, .int (nI n)]) ++ List.replicate (4 - (lg_sl ([.ref a_s, .int (nI n)])).length) Slot.unset).toArray = ls at hl ⊢
  have hl : lv_has ls 4 [(0, .ref a_s), (1, .int (nI n))] := hl
  refine lv_iconst (v := 0) hx hb d_ks_copy_0 (by decide) ?_
  refine lv_istore_n (lv' := [(2, .int 0), (0, .ref a_s), (1, .int (nI n))]) hx hb d_ks_copy_1 rfl hl (by decide) rfl (fun ls hl => ?_)
  refine lp_ks_copyL hx hb hml hown hT hA hK hn n 0 Wm (Nat.zero_add _) (fun H locs ls hP hD hS hl => ?_) s.heap [] ls hP hD hS (lv_sub hl [1, 2, 0] rfl)
  exact W.vret hx hb hr (fun t ht hW => ⟨⟨(cpL E n 0 Wm), rfl, rfl, by rw [ht]; exact hP, va_K.moved hW.alike hK, hD⟩, hS.F ht⟩) hS.2.2 d_ks_copy_43
end
section
abbrev b_ks_pivot : ByteArray := prog_2_method_5_code
def y_ks_pivot : MethodName := ⟨R_ks, "pivotColumn", "(II)I"⟩
def w_ks_pivot : List Cond := .code y_ks_pivot b_ks_pivot 4 (some .int) :: kt_T
theorem d_ks_pivot_0 : decode b_ks_pivot 0 = .ok (.iconst 0, 1) := by decide +kernel
theorem d_ks_pivot_1 : decode b_ks_pivot 1 = .ok (.istore_n 3, 1) := by decide +kernel
theorem d_ks_pivot_2 : decode b_ks_pivot 2 = .ok (.iload_n 3, 1) := by decide +kernel
theorem d_ks_pivot_3 : decode b_ks_pivot 3 = .ok (.iload_n 2, 1) := by decide +kernel
theorem d_ks_pivot_4 : decode b_ks_pivot 4 = .ok (.if_icmp .ge 24, 3) := by decide +kernel
theorem d_ks_pivot_7 : decode b_ks_pivot 7 = .ok (.aload_n 0, 1) := by decide +kernel
theorem d_ks_pivot_8 : decode b_ks_pivot 8 = .ok (.getfield 18, 3) := by decide +kernel
theorem d_ks_pivot_11 : decode b_ks_pivot 11 = .ok (.iload_n 1, 1) := by decide +kernel
theorem d_ks_pivot_12 : decode b_ks_pivot 12 = .ok (.aaload, 1) := by decide +kernel
theorem d_ks_pivot_13 : decode b_ks_pivot 13 = .ok (.iload_n 3, 1) := by decide +kernel
theorem d_ks_pivot_14 : decode b_ks_pivot 14 = .ok (.laload, 1) := by decide +kernel
theorem d_ks_pivot_15 : decode b_ks_pivot 15 = .ok (.lconst 0, 1) := by decide +kernel
theorem d_ks_pivot_16 : decode b_ks_pivot 16 = .ok (.lcmp, 1) := by decide +kernel
theorem d_ks_pivot_17 : decode b_ks_pivot 17 = .ok (.ifCond .eq 5, 3) := by decide +kernel
theorem d_ks_pivot_20 : decode b_ks_pivot 20 = .ok (.iload_n 3, 1) := by decide +kernel
theorem d_ks_pivot_21 : decode b_ks_pivot 21 = .ok (.ireturn, 1) := by decide +kernel
theorem d_ks_pivot_22 : decode b_ks_pivot 22 = .ok (.iinc 3 1, 3) := by decide +kernel
theorem d_ks_pivot_25 : decode b_ks_pivot 25 = .ok (.goto (-23), 3) := by decide +kernel
theorem d_ks_pivot_28 : decode b_ks_pivot 28 = .ok (.iconst (-1), 1) := by decide +kernel
theorem d_ks_pivot_29 : decode b_ks_pivot 29 = .ok (.ireturn, 1) := by decide +kernel
abbrev b_ks_elim : ByteArray := prog_2_method_6_code
def y_ks_elim : MethodName := ⟨R_ks, "eliminate", "(IIIJ)V"⟩
def w_ks_elim : List Cond := .code y_ks_elim b_ks_elim 11 none :: kt_T
theorem d_ks_elim_0 : decode b_ks_elim 0 = .ok (.lload 4, 2) := by decide +kernel
theorem d_ks_elim_2 : decode b_ks_elim 2 = .ok (.lconst 0, 1) := by decide +kernel
theorem d_ks_elim_3 : decode b_ks_elim 3 = .ok (.lcmp, 1) := by decide +kernel
theorem d_ks_elim_4 : decode b_ks_elim 4 = .ok (.ifCond .ne 4, 3) := by decide +kernel
theorem d_ks_elim_7 : decode b_ks_elim 7 = .ok (.return_, 1) := by decide +kernel
theorem d_ks_elim_8 : decode b_ks_elim 8 = .ok (.aload_n 0, 1) := by decide +kernel
theorem d_ks_elim_9 : decode b_ks_elim 9 = .ok (.getfield 18, 3) := by decide +kernel
theorem d_ks_elim_12 : decode b_ks_elim 12 = .ok (.iload_n 2, 1) := by decide +kernel
theorem d_ks_elim_13 : decode b_ks_elim 13 = .ok (.aaload, 1) := by decide +kernel
theorem d_ks_elim_14 : decode b_ks_elim 14 = .ok (.iload_n 3, 1) := by decide +kernel
theorem d_ks_elim_15 : decode b_ks_elim 15 = .ok (.laload, 1) := by decide +kernel
theorem d_ks_elim_16 : decode b_ks_elim 16 = .ok (.lstore 6, 2) := by decide +kernel
theorem d_ks_elim_18 : decode b_ks_elim 18 = .ok (.aload_n 0, 1) := by decide +kernel
theorem d_ks_elim_19 : decode b_ks_elim 19 = .ok (.getfield 18, 3) := by decide +kernel
theorem d_ks_elim_22 : decode b_ks_elim 22 = .ok (.iload_n 1, 1) := by decide +kernel
theorem d_ks_elim_23 : decode b_ks_elim 23 = .ok (.aaload, 1) := by decide +kernel
theorem d_ks_elim_24 : decode b_ks_elim 24 = .ok (.iload_n 3, 1) := by decide +kernel
theorem d_ks_elim_25 : decode b_ks_elim 25 = .ok (.laload, 1) := by decide +kernel
theorem d_ks_elim_26 : decode b_ks_elim 26 = .ok (.lstore 8, 2) := by decide +kernel
theorem d_ks_elim_28 : decode b_ks_elim 28 = .ok (.iconst 0, 1) := by decide +kernel
theorem d_ks_elim_29 : decode b_ks_elim 29 = .ok (.istore 10, 2) := by decide +kernel
theorem d_ks_elim_31 : decode b_ks_elim 31 = .ok (.iload 10, 2) := by decide +kernel
theorem d_ks_elim_33 : decode b_ks_elim 33 = .ok (.iconst 5, 1) := by decide +kernel
theorem d_ks_elim_34 : decode b_ks_elim 34 = .ok (.if_icmp .ge 46, 3) := by decide +kernel
theorem d_ks_elim_37 : decode b_ks_elim 37 = .ok (.aload_n 0, 1) := by decide +kernel
theorem d_ks_elim_38 : decode b_ks_elim 38 = .ok (.getfield 18, 3) := by decide +kernel
theorem d_ks_elim_41 : decode b_ks_elim 41 = .ok (.iload_n 1, 1) := by decide +kernel
theorem d_ks_elim_42 : decode b_ks_elim 42 = .ok (.aaload, 1) := by decide +kernel
theorem d_ks_elim_43 : decode b_ks_elim 43 = .ok (.iload 10, 2) := by decide +kernel
theorem d_ks_elim_45 : decode b_ks_elim 45 = .ok (.lload 6, 2) := by decide +kernel
theorem d_ks_elim_47 : decode b_ks_elim 47 = .ok (.aload_n 0, 1) := by decide +kernel
theorem d_ks_elim_48 : decode b_ks_elim 48 = .ok (.getfield 18, 3) := by decide +kernel
theorem d_ks_elim_51 : decode b_ks_elim 51 = .ok (.iload_n 1, 1) := by decide +kernel
theorem d_ks_elim_52 : decode b_ks_elim 52 = .ok (.aaload, 1) := by decide +kernel
theorem d_ks_elim_53 : decode b_ks_elim 53 = .ok (.iload 10, 2) := by decide +kernel
theorem d_ks_elim_55 : decode b_ks_elim 55 = .ok (.laload, 1) := by decide +kernel
theorem d_ks_elim_56 : decode b_ks_elim 56 = .ok (.lmul, 1) := by decide +kernel
theorem d_ks_elim_57 : decode b_ks_elim 57 = .ok (.lload 8, 2) := by decide +kernel
theorem d_ks_elim_59 : decode b_ks_elim 59 = .ok (.aload_n 0, 1) := by decide +kernel
theorem d_ks_elim_60 : decode b_ks_elim 60 = .ok (.getfield 18, 3) := by decide +kernel
theorem d_ks_elim_63 : decode b_ks_elim 63 = .ok (.iload_n 2, 1) := by decide +kernel
theorem d_ks_elim_64 : decode b_ks_elim 64 = .ok (.aaload, 1) := by decide +kernel
theorem d_ks_elim_65 : decode b_ks_elim 65 = .ok (.iload 10, 2) := by decide +kernel
theorem d_ks_elim_67 : decode b_ks_elim 67 = .ok (.laload, 1) := by decide +kernel
theorem d_ks_elim_68 : decode b_ks_elim 68 = .ok (.lmul, 1) := by decide +kernel
theorem d_ks_elim_69 : decode b_ks_elim 69 = .ok (.lsub, 1) := by decide +kernel
theorem d_ks_elim_70 : decode b_ks_elim 70 = .ok (.lload 4, 2) := by decide +kernel
theorem d_ks_elim_72 : decode b_ks_elim 72 = .ok (.ldiv, 1) := by decide +kernel
theorem d_ks_elim_73 : decode b_ks_elim 73 = .ok (.lastore, 1) := by decide +kernel
theorem d_ks_elim_74 : decode b_ks_elim 74 = .ok (.iinc 10 1, 3) := by decide +kernel
theorem d_ks_elim_77 : decode b_ks_elim 77 = .ok (.goto (-46), 3) := by decide +kernel
theorem d_ks_elim_80 : decode b_ks_elim 80 = .ok (.return_, 1) := by decide +kernel
/-- the first place from j on, of n, that isn't 0; else -1 -/
def pvL (f : Nat → Int64) : Nat → Nat → Int32
  | 0, _ => -1
  | n + 1, j => if f j = 0 then pvL f n (j + 1) else nI j
set_option maxHeartbeats 4000000 in
theorem lp_ks_pivot {p : Program} {l : Launch} {e : Env} {R : Room} {s : State} {m : MethodId} {args : Array Value} {below : List Frame} {meth : Method} {c : Code} {dC : Nat → ClassId} {dI : Nat → Nat → Nat} (hx : p.tables.exec = Jvm.exec) (hb : c.code = b_ks_pivot) (hr : meth.sig.returnType = (some .int)) (hlocks : meth.locks = false) {post : Int32 → Prop} {a_s : Nat} {e0 : Nat} {w0 : Nat} {pv : Nat} {su : Nat} {sl : Nat} {er : Nat → Nat} {wr : Nat → Nat} {ans : Int32} {cE : ClassId} {cW : ClassId} {cP : ClassId} {fp : Nat → Int32} {cSu : ClassId} {fsu : Nat → Int64} {cSl : ClassId} {fsl : Nat → Int64} {cI : ClassId} {E : Nat → Nat → Int32} {cJ : ClassId} {Wm : Nat → Nat → Int64} {r : Nat} {n : Nat} (hT : ∀ w ∈ kt_T, w.before args s = true) (hown : s.vm.findClass R_ks = some m.cls) (hK : va_K (dC, dI) classes [(cE, .array .int), (cW, .array .long), (cP, .int), (cSu, .long), (cSl, .long), (cI, .int), (cJ, .long)] s) (hP : va_P (dC, dI) classes (ks_ws a_s e0 w0 pv su sl er wr cE cW cP cSu cSl cI cJ fp fsu fsl E Wm ans) s.heap) (hrw : r < 4) (hn : n ≤ 4) :
    ∀ (d j : Nat), j + d = n → post (pvL (Wm r) d j) → ∀ {ls : Array Slot}, lv_has ls 4 [(0, .ref a_s), (1, .int (nI r)), (2, .int (nI n)), (3, .int (nI j))] → W p l e R s m args below meth c s.heap [] 0 0 (MQ below (vp_Si post) args s 0 0 (fun _ => False)) (F0 m 2 ls []) := by
  intro d
  induction d with
  | zero =>
    intro j hj hq ls hl
    refine lv_iload_n hx hb d_ks_pivot_2 rfl (lv_at hl 3 rfl) ?_
    refine lv_iload_n hx hb d_ks_pivot_3 rfl (lv_at hl 2 rfl) ?_
    refine lv_icmp_ge (tgt := 28) hx hb d_ks_pivot_4 (by decide) (fun c_1 => ?_) (fun c_1 => ?_)
    · refine lv_iconst (v := (-1)) hx hb d_ks_pivot_28 (by decide) ?_
      exact W.iret (v := (-1)) hx hb hr (fun t ht hW => ⟨_, rfl, hq, ht⟩) t_nil d_ks_pivot_29
    · exact absurd (nI_le (show n ≤ j by omega) (by omega)) c_1
  | succ d ih =>
    intro j hj hq ls hl
    refine lv_iload_n hx hb d_ks_pivot_2 rfl (lv_at hl 3 rfl) ?_
    refine lv_iload_n hx hb d_ks_pivot_3 rfl (lv_at hl 2 rfl) ?_
    refine lv_icmp_ge (tgt := 28) hx hb d_ks_pivot_4 (by decide) (fun c_2 => ?_) (fun c_2 => ?_)
    · exact absurd c_2 (nI_ge (show j < n by omega) (by omega))
    · refine lv_aload_n hx hb d_ks_pivot_7 rfl (lv_at hl 0 rfl) ?_
      refine va_get (D := (dC, dI)) (ci := 2) (v := .ref w0) (C := R_ks) (T := F_ks) (N := 6) hx hb hT i_ks hown hK hP 0 rfl rfl 1 (by decide) (hT _ k_79) (fun _ h9 => h9) rfl d_ks_pivot_8 ?_
      refine lv_iload_n hx hb d_ks_pivot_11 rfl (lv_at hl 1 rfl) ?_
      refine kx_aldN hx hb hK hP 2 1 rfl rfl hrw d_ks_pivot_12 ?_
      refine lv_iload_n hx hb d_ks_pivot_13 rfl (lv_at hl 3 rfl) ?_
      refine va_laldN (i := j) hx hb hK hP (10 + r) 6 (ks_w hrw) rfl ⟨by omega, by decide⟩ d_ks_pivot_14 ?_
      refine lv_lconst (v := 0) hx hb d_ks_pivot_15 (by decide) ?_
      refine lx_ifeq (tgt := 22) hx hb d_ks_pivot_16 d_ks_pivot_17 (by decide) (fun c_3 => ?_) (fun c_3 => ?_)
      · refine lv_iinc (v := (nI j) + 1) (lv' := [(3, .int ((nI j) + 1)), (0, .ref a_s), (1, .int (nI r)), (2, .int (nI n))]) hx hb d_ks_pivot_22 hl (k := 3) rfl rfl (by decide) rfl (fun ls hl => ?_)
        refine lv_goto (tgt := 2) hx hb d_ks_pivot_25 (by decide) ?_
        exact ih (j + 1) (by omega) (by rw [pvL, if_pos c_3] at hq; exact hq) (by have h9 := lv_sub hl [1, 2, 3, 0] rfl; rw [nI_1] at h9; exact h9)
      · refine lv_iload_n hx hb d_ks_pivot_20 rfl (lv_at hl 3 rfl) ?_
        exact W.iret (v := (nI j)) hx hb hr (fun t ht hW => ⟨_, rfl, by rw [pvL, if_neg c_3] at hq; exact hq, ht⟩) t_nil d_ks_pivot_21
def f_ks_pivot (Wm : Nat → Nat → Int64) (r : Nat) (n : Nat) : Int32 :=
  (pvL (Wm r) n 0)
set_option maxHeartbeats 4000000 in
set_option maxRecDepth 100000 in
theorem c_ks_pivot (l : Launch) (dC : Nat → ClassId) (dI : Nat → Nat → Nat) (a_s : Nat) (e0 : Nat) (w0 : Nat) (pv : Nat) (su : Nat) (sl : Nat) (er : Nat → Nat) (wr : Nat → Nat) (ans : Int32) (cE : ClassId) (cW : ClassId) (cP : ClassId) (fp : Nat → Int32) (cSu : ClassId) (fsu : Nat → Int64) (cSl : ClassId) (fsl : Nat → Int64) (cI : ClassId) (E : Nat → Nat → Int32) (cJ : ClassId) (Wm : Nat → Nat → Int64) (r : Nat) (n : Nat) (hrw : r < 4) (hn : n ≤ 4) : Met l y_ks_pivot w_ks_pivot ({ frames := 0, cells := 0, slots := 0, locals := 0 }) (va_Pc [.ref a_s, .int (nI r), .int (nI n)] (fun U => va_P (dC, dI) classes (ks_ws a_s e0 w0 pv su sl er wr cE cW cP cSu cSl cI cJ fp fsu fsl E Wm ans) U.heap ∧ va_K (dC, dI) classes [(cE, .array .int), (cW, .array .long), (cP, .int), (cSu, .long), (cSl, .long), (cI, .int), (cJ, .long)] U)) (vp_Si (fun z9 => z9 = f_ks_pivot Wm r n)) 0 0 (fun _ => False) := by
  refine Met.ofW (cc := b_ks_pivot) (maxL := 4) (ret := (some .int)) (by decide +kernel) rfl ?_
  intro p e s m args below meth c s₁ B hml hv
  obtain ⟨rfl, hP, hK⟩ := hv
  have hx := B.exec
  have hb := B.bytes
  have hr := B.returns
  have hts := atoms_spec (ws := w_ks_pivot) B.pre
  have hT := fun (w : Cond) (h : w ∈ kt_T) => hts w (List.mem_cons_of_mem _ h)
  have hown : s.vm.findClass R_ks = some m.cls := findClass_of_methodNamed B.named
  have hlocks := B.notSynchronized
  have hl := lv_entry ([.ref a_s, .int (nI r), .int (nI n)]) (n := 4) (Nat.le_of_ble_eq_true rfl)
  rw [lg_entry_eq]
  generalize (lg_sl ([.ref a_s, .int (nI r), .int (nI n)]) ++ List.replicate (4 - (lg_sl ([.ref a_s, .int (nI r), .int (nI n)])).length) Slot.unset).toArray = ls at hl ⊢
  have hl : lv_has ls 4 [(0, .ref a_s), (1, .int (nI r)), (2, .int (nI n))] := hl
  refine lv_iconst (v := 0) hx hb d_ks_pivot_0 (by decide) ?_
  refine lv_istore_n (lv' := [(3, .int 0), (0, .ref a_s), (1, .int (nI r)), (2, .int (nI n))]) hx hb d_ks_pivot_1 rfl hl (by decide) rfl (fun ls hl => ?_)
  exact lp_ks_pivot (post := fun v => v = f_ks_pivot Wm r n) hx hb hr hlocks hT hown hK hP hrw hn n 0 (Nat.zero_add _) rfl (lv_sub hl [1, 2, 3, 0] rfl)
/-- one row is cleared by another: k places are left, from j on -/
def elR (o r : Nat) (pv fc bf : Int64) : Nat → Nat → (Nat → Nat → Int64) → Nat → Nat → Int64
  | 0, _, X => X
  | k + 1, j, X => elR o r pv fc bf k (j + 1) (va_up X o (vp_updL (X o) j ((pv * X o j - fc * X r j) / bf)))
set_option maxHeartbeats 4000000 in
theorem lp_ks_elim {p : Program} {l : Launch} {e : Env} {R : Room} {s : State} {m : MethodId} {args : Array Value} {below : List Frame} {meth : Method} {c : Code} {dC : Nat → ClassId} {dI : Nat → Nat → Nat} {A : Nat → Prop} {Q : State → Prop} {a_s : Nat} {e0 : Nat} {w0 : Nat} {pv : Nat} {su : Nat} {sl : Nat} {er : Nat → Nat} {wr : Nat → Nat} {ans : Int32} {cE : ClassId} {cW : ClassId} {cP : ClassId} {fp : Nat → Int32} {cSu : ClassId} {fsu : Nat → Int64} {cSl : ClassId} {fsl : Nat → Int64} {cI : ClassId} {E : Nat → Nat → Int32} {cJ : ClassId} {o : Nat} {r : Nat} {q : Nat} {bf : Int64} (hx : p.tables.exec = Jvm.exec) (hb : c.code = b_ks_elim) (hml : c.maxLocals = 11) (hown : s.vm.findClass R_ks = some m.cls) (hT : ∀ w ∈ kt_T, w.before args s = true) (hA : ∀ q : Nat, s.heap.size ≤ q → A q) (hK : va_K (dC, dI) classes [(cE, .array .int), (cW, .array .long), (cP, .int), (cSu, .long), (cSl, .long), (cI, .int), (cJ, .long)] s) {pv1 fc : Int64} (ho : o < 4) (hrw : r < 4) (h0 : ¬ bf = 0) :
    ∀ (k j : Nat) (X : Nat → Nat → Int64), j + k = 5 → (∀ (H : Heap) (locs : List Loc) (ls : Array Slot), va_P (dC, dI) classes (ks_ws a_s e0 w0 pv su sl er wr cE cW cP cSu cSl cI cJ fp fsu fsl E (elR o r pv1 fc bf k j X) ans) H → va_D A (ks_ws a_s e0 w0 pv su sl er wr cE cW cP cSu cSl cI cJ fp fsu fsl E (elR o r pv1 fc bf k j X) ans) → va_S A s.heap H locs → lv_has ls 11 [(0, .ref a_s)] → W p l e R s m args below meth c H locs 0 0 Q (F0 m 80 ls [])) → ∀ (H : Heap) (locs : List Loc) (ls : Array Slot), va_P (dC, dI) classes (ks_ws a_s e0 w0 pv su sl er wr cE cW cP cSu cSl cI cJ fp fsu fsl E X ans) H → va_D A (ks_ws a_s e0 w0 pv su sl er wr cE cW cP cSu cSl cI cJ fp fsu fsl E X ans) → va_S A s.heap H locs → lv_has ls 11 [(0, .ref a_s), (1, .int (nI o)), (2, .int (nI r)), (3, .int (nI q)), (4, .long bf), (6, .long pv1), (8, .long fc), (10, .int (nI j))] → W p l e R s m args below meth c H locs 0 0 Q (F0 m 31 ls []) := by
  intro k
  induction k with
  | zero =>
    intro j X hj hk H locs ls hP hD hS hl
    refine lv_iload hx hb d_ks_elim_31 (lv_at hl 7 rfl) ?_
    refine lv_iconst (v := 5) hx hb d_ks_elim_33 (by decide) ?_
    refine lv_icmp_ge (tgt := 80) hx hb d_ks_elim_34 (by decide) (fun c_1 => ?_) (fun c_1 => ?_)
    · exact hk H locs ls hP hD hS (lv_sub hl [0] rfl)
    · exact absurd (show (5 : Int32) ≤ nI j by rw [show j = 5 by omega]; decide) c_1
  | succ k ih =>
    intro j X hj hk H locs ls hP hD hS hl
    refine lv_iload hx hb d_ks_elim_31 (lv_at hl 7 rfl) ?_
    refine lv_iconst (v := 5) hx hb d_ks_elim_33 (by decide) ?_
    refine lv_icmp_ge (tgt := 80) hx hb d_ks_elim_34 (by decide) (fun c_2 => ?_) (fun c_2 => ?_)
    · exact absurd c_2 (nI_ge (show j < 5 by omega) (by decide))
    · refine lv_aload_n hx hb d_ks_elim_37 rfl (lv_at hl 0 rfl) ?_
      refine va_get (D := (dC, dI)) (ci := 2) (v := .ref w0) (C := R_ks) (T := F_ks) (N := 6) hx hb hT i_ks hown hK hP 0 rfl rfl 1 (by decide) (hT _ k_79) (fun _ h9 => h9) rfl d_ks_elim_38 ?_
      refine lv_iload_n hx hb d_ks_elim_41 rfl (lv_at hl 1 rfl) ?_
      refine kx_aldN hx hb hK hP 2 1 rfl rfl ho d_ks_elim_42 ?_
      refine lv_iload hx hb d_ks_elim_43 (lv_at hl 7 rfl) ?_
      refine lv_lload hx hb d_ks_elim_45 (lv_at hl 5 rfl) ?_
      refine lv_aload_n hx hb d_ks_elim_47 rfl (lv_at hl 0 rfl) ?_
      refine va_get (D := (dC, dI)) (ci := 2) (v := .ref w0) (C := R_ks) (T := F_ks) (N := 6) hx hb hT i_ks hown hK hP 0 rfl rfl 1 (by decide) (hT _ k_79) (fun _ h9 => h9) rfl d_ks_elim_48 ?_
      refine lv_iload_n hx hb d_ks_elim_51 rfl (lv_at hl 1 rfl) ?_
      refine kx_aldN hx hb hK hP 2 1 rfl rfl ho d_ks_elim_52 ?_
      refine lv_iload hx hb d_ks_elim_53 (lv_at hl 7 rfl) ?_
      refine va_laldN (i := j) hx hb hK hP (10 + o) 6 (ks_w ho) rfl ⟨by omega, by decide⟩ d_ks_elim_55 ?_
      refine lv_lmul hx hb d_ks_elim_56 ?_
      refine lv_lload hx hb d_ks_elim_57 (lv_at hl 6 rfl) ?_
      refine lv_aload_n hx hb d_ks_elim_59 rfl (lv_at hl 0 rfl) ?_
      refine va_get (D := (dC, dI)) (ci := 2) (v := .ref w0) (C := R_ks) (T := F_ks) (N := 6) hx hb hT i_ks hown hK hP 0 rfl rfl 1 (by decide) (hT _ k_79) (fun _ h9 => h9) rfl d_ks_elim_60 ?_
      refine lv_iload_n hx hb d_ks_elim_63 rfl (lv_at hl 2 rfl) ?_
      refine kx_aldN hx hb hK hP 2 1 rfl rfl hrw d_ks_elim_64 ?_
      refine lv_iload hx hb d_ks_elim_65 (lv_at hl 7 rfl) ?_
      refine va_laldN (i := j) hx hb hK hP (10 + r) 6 (ks_w hrw) rfl ⟨by omega, by decide⟩ d_ks_elim_67 ?_
      refine lv_lmul hx hb d_ks_elim_68 ?_
      refine lv_lsub hx hb d_ks_elim_69 ?_
      refine lv_lload hx hb d_ks_elim_70 (lv_at hl 4 rfl) ?_
      refine lv_ldiv hx hb d_ks_elim_72 h0 ?_
      refine va_lastN hx hb hK hP hD hS (10 + o) 6 (ks_w ho) rfl ⟨by omega, by decide⟩ d_ks_elim_73 (fun H locs hP hD hS => ?_)
      rw [ks_ww ho] at hP hD
      have hP : va_P (dC, dI) classes (ks_ws a_s e0 w0 pv su sl er wr cE cW cP cSu cSl cI cJ fp fsu fsl E (va_up X o (vp_updL (X o) j (((pv1 * (X o j)) - (fc * (X r j))) / bf))) ans) H := hP
      have hD : va_D A (ks_ws a_s e0 w0 pv su sl er wr cE cW cP cSu cSl cI cJ fp fsu fsl E (va_up X o (vp_updL (X o) j (((pv1 * (X o j)) - (fc * (X r j))) / bf))) ans) := hD
      refine lv_iinc (v := (nI j) + 1) (lv' := [(10, .int ((nI j) + 1)), (0, .ref a_s), (1, .int (nI o)), (2, .int (nI r)), (3, .int (nI q)), (4, .long bf), (6, .long pv1), (8, .long fc)]) hx hb d_ks_elim_74 hl (k := 7) rfl rfl (by decide) rfl (fun ls hl => ?_)
      refine lv_goto (tgt := 31) hx hb d_ks_elim_77 (by decide) ?_
      exact ih (j + 1) _ (by omega) hk H locs ls hP hD hS (by have h9 := lv_sub hl [1, 2, 3, 4, 5, 6, 7, 0] rfl; rw [nI_1] at h9; exact h9)
def f_ks_elim (Wm : Nat → Nat → Int64) (o : Nat) (r : Nat) (q : Nat) (bf : Int64) : (Nat → Nat → Int64) :=
  if bf = 0 then Wm else (elR o r (Wm r q) (Wm o q) bf 5 0 Wm)
set_option maxHeartbeats 4000000 in
set_option maxRecDepth 100000 in
theorem c_ks_elim (l : Launch) (dC : Nat → ClassId) (dI : Nat → Nat → Nat) (sz : Nat) (a_s : Nat) (e0 : Nat) (w0 : Nat) (pv : Nat) (su : Nat) (sl : Nat) (er : Nat → Nat) (wr : Nat → Nat) (ans : Int32) (cE : ClassId) (cW : ClassId) (cP : ClassId) (fp : Nat → Int32) (cSu : ClassId) (fsu : Nat → Int64) (cSl : ClassId) (fsl : Nat → Int64) (cI : ClassId) (E : Nat → Nat → Int32) (cJ : ClassId) (Wm : Nat → Nat → Int64) (o : Nat) (r : Nat) (q : Nat) (bf : Int64) (ho : o < 4) (hrw : r < 4) (hq4 : q < 5) : Met l y_ks_elim w_ks_elim ({ frames := 0, cells := 0, slots := 0, locals := 0 }) (va_Pc [.ref a_s, .int (nI o), .int (nI r), .int (nI q), .long bf] (fun U => U.heap.size = sz ∧ va_P (dC, dI) classes (ks_ws a_s e0 w0 pv su sl er wr cE cW cP cSu cSl cI cJ fp fsu fsl E Wm ans) U.heap ∧ va_K (dC, dI) classes [(cE, .array .int), (cW, .array .long), (cP, .int), (cSu, .long), (cSl, .long), (cI, .int), (cJ, .long)] U ∧ va_D (fun _ => True) (ks_ws a_s e0 w0 pv su sl er wr cE cW cP cSu cSl cI cJ fp fsu fsl E Wm ans))) (va_Qv (fun u9 => u9 = f_ks_elim Wm o r q bf) (fun (u : (Nat → Nat → Int64)) t => match u with | Wm' => va_P (dC, dI) classes (ks_ws a_s e0 w0 pv su sl er wr cE cW cP cSu cSl cI cJ fp fsu fsl E Wm' ans) t.heap ∧ va_K (dC, dI) classes [(cE, .array .int), (cW, .array .long), (cP, .int), (cSu, .long), (cSl, .long), (cI, .int), (cJ, .long)] t ∧ va_D (va_A (ks_ws a_s e0 w0 pv su sl er wr cE cW cP cSu cSl cI cJ fp fsu fsl E Wm ans) sz) (ks_ws a_s e0 w0 pv su sl er wr cE cW cP cSu cSl cI cJ fp fsu fsl E Wm' ans)) (va_A (ks_ws a_s e0 w0 pv su sl er wr cE cW cP cSu cSl cI cJ fp fsu fsl E Wm ans) sz)) 0 0 (va_A (ks_ws a_s e0 w0 pv su sl er wr cE cW cP cSu cSl cI cJ fp fsu fsl E Wm ans) sz) := by
  refine Met.ofW (cc := b_ks_elim) (maxL := 11) (ret := none) (by decide +kernel) rfl ?_
  intro p e s m args below meth c s₁ B hml hv
  obtain ⟨rfl, hsz, hP, hK, hD0⟩ := hv
  have hx := B.exec
  have hb := B.bytes
  have hr := B.returns
  have hts := atoms_spec (ws := w_ks_elim) B.pre
  have hT := fun (w : Cond) (h : w ∈ kt_T) => hts w (List.mem_cons_of_mem _ h)
  have hown : s.vm.findClass R_ks = some m.cls := findClass_of_methodNamed B.named
  have hlocks := B.notSynchronized
  subst hsz
  have hD := hD0.self (sz := s.heap.size)
  generalize hAe : va_A (ks_ws a_s e0 w0 pv su sl er wr cE cW cP cSu cSl cI cJ fp fsu fsl E Wm ans) s.heap.size = A at hD ⊢
  have hA : ∀ q : Nat, s.heap.size ≤ q → A q := fun q h => by rw [← hAe]; exact Or.inr h
  have hS : va_S A s.heap s.heap [] := va_S.rf
  have hl := lv_entry ([.ref a_s, .int (nI o), .int (nI r), .int (nI q), .long bf]) (n := 11) (Nat.le_of_ble_eq_true rfl)
  rw [lg_entry_eq]
  generalize (lg_sl ([.ref a_s, .int (nI o), .int (nI r), .int (nI q), .long bf]) ++ List.replicate (11 - (lg_sl ([.ref a_s, .int (nI o), .int (nI r), .int (nI q), .long bf])).length) Slot.unset).toArray = ls at hl ⊢
  have hl : lv_has ls 11 [(0, .ref a_s), (1, .int (nI o)), (2, .int (nI r)), (3, .int (nI q)), (4, .long bf)] := hl
  refine lv_lload hx hb d_ks_elim_0 (lv_at hl 4 rfl) ?_
  refine lv_lconst (v := 0) hx hb d_ks_elim_2 (by decide) ?_
  refine lx_ifne (tgt := 8) hx hb d_ks_elim_3 d_ks_elim_4 (by decide) (fun c_1 => ?_) (fun c_1 => ?_)
  · refine lv_aload_n hx hb d_ks_elim_8 rfl (lv_at hl 0 rfl) ?_
    refine va_get (D := (dC, dI)) (ci := 2) (v := .ref w0) (C := R_ks) (T := F_ks) (N := 6) hx hb hT i_ks hown hK hP 0 rfl rfl 1 (by decide) (hT _ k_79) (fun _ h9 => h9) rfl d_ks_elim_9 ?_
    refine lv_iload_n hx hb d_ks_elim_12 rfl (lv_at hl 2 rfl) ?_
    refine kx_aldN hx hb hK hP 2 1 rfl rfl hrw d_ks_elim_13 ?_
    refine lv_iload_n hx hb d_ks_elim_14 rfl (lv_at hl 3 rfl) ?_
    refine va_laldN (i := q) hx hb hK hP (10 + r) 6 (ks_w hrw) rfl ⟨hq4, by decide⟩ d_ks_elim_15 ?_
    refine lv_lstore (lv' := [(6, .long (Wm r q)), (0, .ref a_s), (1, .int (nI o)), (2, .int (nI r)), (3, .int (nI q)), (4, .long bf)]) hx hb d_ks_elim_16 hl (by decide) rfl (fun ls hl => ?_)
    refine lv_aload_n hx hb d_ks_elim_18 rfl (lv_at hl 1 rfl) ?_
    refine va_get (D := (dC, dI)) (ci := 2) (v := .ref w0) (C := R_ks) (T := F_ks) (N := 6) hx hb hT i_ks hown hK hP 0 rfl rfl 1 (by decide) (hT _ k_79) (fun _ h9 => h9) rfl d_ks_elim_19 ?_
    refine lv_iload_n hx hb d_ks_elim_22 rfl (lv_at hl 2 rfl) ?_
    refine kx_aldN hx hb hK hP 2 1 rfl rfl ho d_ks_elim_23 ?_
    refine lv_iload_n hx hb d_ks_elim_24 rfl (lv_at hl 4 rfl) ?_
    refine va_laldN (i := q) hx hb hK hP (10 + o) 6 (ks_w ho) rfl ⟨hq4, by decide⟩ d_ks_elim_25 ?_
    refine lv_lstore (lv' := [(8, .long (Wm o q)), (6, .long (Wm r q)), (0, .ref a_s), (1, .int (nI o)), (2, .int (nI r)), (3, .int (nI q)), (4, .long bf)]) hx hb d_ks_elim_26 hl (by decide) rfl (fun ls hl => ?_)
    refine lv_iconst (v := 0) hx hb d_ks_elim_28 (by decide) ?_
    refine lv_istore (lv' := [(10, .int 0), (8, .long (Wm o q)), (6, .long (Wm r q)), (0, .ref a_s), (1, .int (nI o)), (2, .int (nI r)), (3, .int (nI q)), (4, .long bf)]) hx hb d_ks_elim_29 hl (by decide) rfl (fun ls hl => ?_)
    refine lp_ks_elim hx hb hml hown hT hA hK ho hrw c_1 5 0 Wm rfl (fun H locs ls hP hD hS hl => ?_) s.heap [] ls hP hD hS (lv_sub hl [3, 4, 5, 6, 7, 2, 1, 0] rfl)
    exact W.vret hx hb hr (fun t ht hW => ⟨⟨(elR o r (Wm r q) (Wm o q) bf 5 0 Wm), rfl, by unfold f_ks_elim; rw [if_neg c_1], by rw [ht]; exact hP, va_K.moved hW.alike hK, hD⟩, hS.F ht⟩) hS.2.2 d_ks_elim_80
  · exact W.vret hx hb hr (fun t ht hW => ⟨⟨Wm, rfl, by unfold f_ks_elim; rw [if_pos c_1], by rw [ht]; exact hP, va_K.moved hW.alike hK, hD⟩, hS.F ht⟩) hS.2.2 d_ks_elim_7
end
section
abbrev b_ks_keep : ByteArray := prog_2_method_7_code
def y_ks_keep : MethodName := ⟨R_ks, "keepAnswers", "(I)V"⟩
def w_ks_keep : List Cond := .code y_ks_keep b_ks_keep 10 none :: kt_T
theorem d_ks_keep_0 : decode b_ks_keep 0 = .ok (.iconst 0, 1) := by decide +kernel
theorem d_ks_keep_1 : decode b_ks_keep 1 = .ok (.istore_n 2, 1) := by decide +kernel
theorem d_ks_keep_2 : decode b_ks_keep 2 = .ok (.iload_n 2, 1) := by decide +kernel
theorem d_ks_keep_3 : decode b_ks_keep 3 = .ok (.iload_n 1, 1) := by decide +kernel
theorem d_ks_keep_4 : decode b_ks_keep 4 = .ok (.if_icmp .ge 74, 3) := by decide +kernel
theorem d_ks_keep_7 : decode b_ks_keep 7 = .ok (.aload_n 0, 1) := by decide +kernel
theorem d_ks_keep_8 : decode b_ks_keep 8 = .ok (.getfield 21, 3) := by decide +kernel
theorem d_ks_keep_11 : decode b_ks_keep 11 = .ok (.iload_n 2, 1) := by decide +kernel
theorem d_ks_keep_12 : decode b_ks_keep 12 = .ok (.iaload, 1) := by decide +kernel
theorem d_ks_keep_13 : decode b_ks_keep 13 = .ok (.istore_n 3, 1) := by decide +kernel
theorem d_ks_keep_14 : decode b_ks_keep 14 = .ok (.aload_n 0, 1) := by decide +kernel
theorem d_ks_keep_15 : decode b_ks_keep 15 = .ok (.getfield 18, 3) := by decide +kernel
theorem d_ks_keep_18 : decode b_ks_keep 18 = .ok (.iload_n 2, 1) := by decide +kernel
theorem d_ks_keep_19 : decode b_ks_keep 19 = .ok (.aaload, 1) := by decide +kernel
theorem d_ks_keep_20 : decode b_ks_keep 20 = .ok (.iconst 4, 1) := by decide +kernel
theorem d_ks_keep_21 : decode b_ks_keep 21 = .ok (.laload, 1) := by decide +kernel
theorem d_ks_keep_22 : decode b_ks_keep 22 = .ok (.lstore 4, 2) := by decide +kernel
theorem d_ks_keep_24 : decode b_ks_keep 24 = .ok (.aload_n 0, 1) := by decide +kernel
theorem d_ks_keep_25 : decode b_ks_keep 25 = .ok (.getfield 18, 3) := by decide +kernel
theorem d_ks_keep_28 : decode b_ks_keep 28 = .ok (.iload_n 2, 1) := by decide +kernel
theorem d_ks_keep_29 : decode b_ks_keep 29 = .ok (.aaload, 1) := by decide +kernel
theorem d_ks_keep_30 : decode b_ks_keep 30 = .ok (.iload_n 3, 1) := by decide +kernel
theorem d_ks_keep_31 : decode b_ks_keep 31 = .ok (.laload, 1) := by decide +kernel
theorem d_ks_keep_32 : decode b_ks_keep 32 = .ok (.lstore 6, 2) := by decide +kernel
theorem d_ks_keep_34 : decode b_ks_keep 34 = .ok (.lload 4, 2) := by decide +kernel
theorem d_ks_keep_36 : decode b_ks_keep 36 = .ok (.lload 6, 2) := by decide +kernel
theorem d_ks_keep_38 : decode b_ks_keep 38 = .ok (.invokestatic 51, 3) := by decide +kernel
theorem d_ks_keep_41 : decode b_ks_keep 41 = .ok (.lstore 8, 2) := by decide +kernel
theorem d_ks_keep_43 : decode b_ks_keep 43 = .ok (.lload 8, 2) := by decide +kernel
theorem d_ks_keep_45 : decode b_ks_keep 45 = .ok (.lconst 0, 1) := by decide +kernel
theorem d_ks_keep_46 : decode b_ks_keep 46 = .ok (.lcmp, 1) := by decide +kernel
theorem d_ks_keep_47 : decode b_ks_keep 47 = .ok (.ifCond .eq 25, 3) := by decide +kernel
theorem d_ks_keep_50 : decode b_ks_keep 50 = .ok (.aload_n 0, 1) := by decide +kernel
theorem d_ks_keep_51 : decode b_ks_keep 51 = .ok (.getfield 25, 3) := by decide +kernel
theorem d_ks_keep_54 : decode b_ks_keep 54 = .ok (.iload_n 3, 1) := by decide +kernel
theorem d_ks_keep_55 : decode b_ks_keep 55 = .ok (.lload 4, 2) := by decide +kernel
theorem d_ks_keep_57 : decode b_ks_keep 57 = .ok (.lload 8, 2) := by decide +kernel
theorem d_ks_keep_59 : decode b_ks_keep 59 = .ok (.ldiv, 1) := by decide +kernel
theorem d_ks_keep_60 : decode b_ks_keep 60 = .ok (.lastore, 1) := by decide +kernel
theorem d_ks_keep_61 : decode b_ks_keep 61 = .ok (.aload_n 0, 1) := by decide +kernel
theorem d_ks_keep_62 : decode b_ks_keep 62 = .ok (.getfield 29, 3) := by decide +kernel
theorem d_ks_keep_65 : decode b_ks_keep 65 = .ok (.iload_n 3, 1) := by decide +kernel
theorem d_ks_keep_66 : decode b_ks_keep 66 = .ok (.lload 6, 2) := by decide +kernel
theorem d_ks_keep_68 : decode b_ks_keep 68 = .ok (.lload 8, 2) := by decide +kernel
theorem d_ks_keep_70 : decode b_ks_keep 70 = .ok (.ldiv, 1) := by decide +kernel
theorem d_ks_keep_71 : decode b_ks_keep 71 = .ok (.lastore, 1) := by decide +kernel
theorem d_ks_keep_72 : decode b_ks_keep 72 = .ok (.iinc 2 1, 3) := by decide +kernel
theorem d_ks_keep_75 : decode b_ks_keep 75 = .ok (.goto (-73), 3) := by decide +kernel
theorem d_ks_keep_78 : decode b_ks_keep 78 = .ok (.aload_n 0, 1) := by decide +kernel
theorem d_ks_keep_79 : decode b_ks_keep 79 = .ok (.iload_n 1, 1) := by decide +kernel
theorem d_ks_keep_80 : decode b_ks_keep 80 = .ok (.putfield 32, 3) := by decide +kernel
theorem d_ks_keep_83 : decode b_ks_keep 83 = .ok (.return_, 1) := by decide +kernel
abbrev b_ks_solve : ByteArray := prog_2_method_3_code
def y_ks_solve : MethodName := ⟨R_ks, "solveFirst", "(I)I"⟩
def w_ks_solve : List Cond := .code y_ks_solve b_ks_solve 7 (some .int) :: kt_T
theorem d_ks_solve_0 : decode b_ks_solve 0 = .ok (.iload_n 1, 1) := by decide +kernel
theorem d_ks_solve_1 : decode b_ks_solve 1 = .ok (.iconst 1, 1) := by decide +kernel
theorem d_ks_solve_2 : decode b_ks_solve 2 = .ok (.if_icmp .lt 8, 3) := by decide +kernel
theorem d_ks_solve_5 : decode b_ks_solve 5 = .ok (.iload_n 1, 1) := by decide +kernel
theorem d_ks_solve_6 : decode b_ks_solve 6 = .ok (.iconst 4, 1) := by decide +kernel
theorem d_ks_solve_7 : decode b_ks_solve 7 = .ok (.if_icmp .le 5, 3) := by decide +kernel
theorem d_ks_solve_10 : decode b_ks_solve 10 = .ok (.iconst (-1), 1) := by decide +kernel
theorem d_ks_solve_11 : decode b_ks_solve 11 = .ok (.ireturn, 1) := by decide +kernel
theorem d_ks_solve_12 : decode b_ks_solve 12 = .ok (.aload_n 0, 1) := by decide +kernel
theorem d_ks_solve_13 : decode b_ks_solve 13 = .ok (.iload_n 1, 1) := by decide +kernel
theorem d_ks_solve_14 : decode b_ks_solve 14 = .ok (.invokevirtual 36, 3) := by decide +kernel
theorem d_ks_solve_17 : decode b_ks_solve 17 = .ok (.lconst 1, 1) := by decide +kernel
theorem d_ks_solve_18 : decode b_ks_solve 18 = .ok (.lstore_n 2, 1) := by decide +kernel
theorem d_ks_solve_19 : decode b_ks_solve 19 = .ok (.iconst 0, 1) := by decide +kernel
theorem d_ks_solve_20 : decode b_ks_solve 20 = .ok (.istore 4, 2) := by decide +kernel
theorem d_ks_solve_22 : decode b_ks_solve 22 = .ok (.iload 4, 2) := by decide +kernel
theorem d_ks_solve_24 : decode b_ks_solve 24 = .ok (.iload_n 1, 1) := by decide +kernel
theorem d_ks_solve_25 : decode b_ks_solve 25 = .ok (.if_icmp .ge 82, 3) := by decide +kernel
theorem d_ks_solve_28 : decode b_ks_solve 28 = .ok (.aload_n 0, 1) := by decide +kernel
theorem d_ks_solve_29 : decode b_ks_solve 29 = .ok (.iload 4, 2) := by decide +kernel
theorem d_ks_solve_31 : decode b_ks_solve 31 = .ok (.iload_n 1, 1) := by decide +kernel
theorem d_ks_solve_32 : decode b_ks_solve 32 = .ok (.invokevirtual 40, 3) := by decide +kernel
theorem d_ks_solve_35 : decode b_ks_solve 35 = .ok (.istore 5, 2) := by decide +kernel
theorem d_ks_solve_37 : decode b_ks_solve 37 = .ok (.iload 5, 2) := by decide +kernel
theorem d_ks_solve_39 : decode b_ks_solve 39 = .ok (.iconst (-1), 1) := by decide +kernel
theorem d_ks_solve_40 : decode b_ks_solve 40 = .ok (.if_icmp .ne 8, 3) := by decide +kernel
theorem d_ks_solve_43 : decode b_ks_solve 43 = .ok (.iload 4, 2) := by decide +kernel
theorem d_ks_solve_45 : decode b_ks_solve 45 = .ok (.iconst 1, 1) := by decide +kernel
theorem d_ks_solve_46 : decode b_ks_solve 46 = .ok (.iadd, 1) := by decide +kernel
theorem d_ks_solve_47 : decode b_ks_solve 47 = .ok (.ireturn, 1) := by decide +kernel
theorem d_ks_solve_48 : decode b_ks_solve 48 = .ok (.iconst 0, 1) := by decide +kernel
theorem d_ks_solve_49 : decode b_ks_solve 49 = .ok (.istore 6, 2) := by decide +kernel
theorem d_ks_solve_51 : decode b_ks_solve 51 = .ok (.iload 6, 2) := by decide +kernel
theorem d_ks_solve_53 : decode b_ks_solve 53 = .ok (.iload_n 1, 1) := by decide +kernel
theorem d_ks_solve_54 : decode b_ks_solve 54 = .ok (.if_icmp .ge 27, 3) := by decide +kernel
theorem d_ks_solve_57 : decode b_ks_solve 57 = .ok (.iload 6, 2) := by decide +kernel
theorem d_ks_solve_59 : decode b_ks_solve 59 = .ok (.iload 4, 2) := by decide +kernel
theorem d_ks_solve_61 : decode b_ks_solve 61 = .ok (.if_icmp .eq 14, 3) := by decide +kernel
theorem d_ks_solve_64 : decode b_ks_solve 64 = .ok (.aload_n 0, 1) := by decide +kernel
theorem d_ks_solve_65 : decode b_ks_solve 65 = .ok (.iload 6, 2) := by decide +kernel
theorem d_ks_solve_67 : decode b_ks_solve 67 = .ok (.iload 4, 2) := by decide +kernel
theorem d_ks_solve_69 : decode b_ks_solve 69 = .ok (.iload 5, 2) := by decide +kernel
theorem d_ks_solve_71 : decode b_ks_solve 71 = .ok (.lload_n 2, 1) := by decide +kernel
theorem d_ks_solve_72 : decode b_ks_solve 72 = .ok (.invokevirtual 44, 3) := by decide +kernel
theorem d_ks_solve_75 : decode b_ks_solve 75 = .ok (.iinc 6 1, 3) := by decide +kernel
theorem d_ks_solve_78 : decode b_ks_solve 78 = .ok (.goto (-27), 3) := by decide +kernel
theorem d_ks_solve_81 : decode b_ks_solve 81 = .ok (.aload_n 0, 1) := by decide +kernel
theorem d_ks_solve_82 : decode b_ks_solve 82 = .ok (.getfield 21, 3) := by decide +kernel
theorem d_ks_solve_85 : decode b_ks_solve 85 = .ok (.iload 4, 2) := by decide +kernel
theorem d_ks_solve_87 : decode b_ks_solve 87 = .ok (.iload 5, 2) := by decide +kernel
theorem d_ks_solve_89 : decode b_ks_solve 89 = .ok (.iastore, 1) := by decide +kernel
theorem d_ks_solve_90 : decode b_ks_solve 90 = .ok (.aload_n 0, 1) := by decide +kernel
theorem d_ks_solve_91 : decode b_ks_solve 91 = .ok (.getfield 18, 3) := by decide +kernel
theorem d_ks_solve_94 : decode b_ks_solve 94 = .ok (.iload 4, 2) := by decide +kernel
theorem d_ks_solve_96 : decode b_ks_solve 96 = .ok (.aaload, 1) := by decide +kernel
theorem d_ks_solve_97 : decode b_ks_solve 97 = .ok (.iload 5, 2) := by decide +kernel
theorem d_ks_solve_99 : decode b_ks_solve 99 = .ok (.laload, 1) := by decide +kernel
theorem d_ks_solve_100 : decode b_ks_solve 100 = .ok (.lstore_n 2, 1) := by decide +kernel
theorem d_ks_solve_101 : decode b_ks_solve 101 = .ok (.iinc 4 1, 3) := by decide +kernel
theorem d_ks_solve_104 : decode b_ks_solve 104 = .ok (.goto (-82), 3) := by decide +kernel
theorem d_ks_solve_107 : decode b_ks_solve 107 = .ok (.aload_n 0, 1) := by decide +kernel
theorem d_ks_solve_108 : decode b_ks_solve 108 = .ok (.iload_n 1, 1) := by decide +kernel
theorem d_ks_solve_109 : decode b_ks_solve 109 = .ok (.invokevirtual 48, 3) := by decide +kernel
theorem d_ks_solve_112 : decode b_ks_solve 112 = .ok (.iconst 0, 1) := by decide +kernel
theorem d_ks_solve_113 : decode b_ks_solve 113 = .ok (.ireturn, 1) := by decide +kernel
abbrev b_kr_entry : ByteArray := prog_1_method_15_code
def y_kr_entry : MethodName := ⟨R_kr, "entry", "(III)Z"⟩
def w_kr_entry : List Cond := .code y_kr_entry b_kr_entry 4 (some .boolean) :: kt_T
theorem d_kr_entry_0 : decode b_kr_entry 0 = .ok (.aload_n 0, 1) := by decide +kernel
theorem d_kr_entry_1 : decode b_kr_entry 1 = .ok (.getfield 36, 3) := by decide +kernel
theorem d_kr_entry_4 : decode b_kr_entry 4 = .ok (.iload_n 1, 1) := by decide +kernel
theorem d_kr_entry_5 : decode b_kr_entry 5 = .ok (.iload_n 2, 1) := by decide +kernel
theorem d_kr_entry_6 : decode b_kr_entry 6 = .ok (.iload_n 3, 1) := by decide +kernel
theorem d_kr_entry_7 : decode b_kr_entry 7 = .ok (.invokevirtual 123, 3) := by decide +kernel
theorem d_kr_entry_10 : decode b_kr_entry 10 = .ok (.ireturn, 1) := by decide +kernel
abbrev b_kr_solve : ByteArray := prog_1_method_16_code
def y_kr_solve : MethodName := ⟨R_kr, "solve", "(I)I"⟩
def w_kr_solve : List Cond := .code y_kr_solve b_kr_solve 2 (some .int) :: kt_T
theorem d_kr_solve_0 : decode b_kr_solve 0 = .ok (.aload_n 0, 1) := by decide +kernel
theorem d_kr_solve_1 : decode b_kr_solve 1 = .ok (.getfield 36, 3) := by decide +kernel
theorem d_kr_solve_4 : decode b_kr_solve 4 = .ok (.iload_n 1, 1) := by decide +kernel
theorem d_kr_solve_5 : decode b_kr_solve 5 = .ok (.invokevirtual 127, 3) := by decide +kernel
theorem d_kr_solve_8 : decode b_kr_solve 8 = .ok (.ireturn, 1) := by decide +kernel
abbrev b_kr_answer : ByteArray := prog_1_method_17_code
def y_kr_answer : MethodName := ⟨R_kr, "answer", "(II)J"⟩
def w_kr_answer : List Cond := .code y_kr_answer b_kr_answer 3 (some .long) :: kt_T
theorem d_kr_answer_0 : decode b_kr_answer 0 = .ok (.aload_n 0, 1) := by decide +kernel
theorem d_kr_answer_1 : decode b_kr_answer 1 = .ok (.getfield 36, 3) := by decide +kernel
theorem d_kr_answer_4 : decode b_kr_answer 4 = .ok (.iload_n 1, 1) := by decide +kernel
theorem d_kr_answer_5 : decode b_kr_answer 5 = .ok (.invokevirtual 130, 3) := by decide +kernel
theorem d_kr_answer_8 : decode b_kr_answer 8 = .ok (.ifCond .eq 10, 3) := by decide +kernel
theorem d_kr_answer_11 : decode b_kr_answer 11 = .ok (.iload_n 2, 1) := by decide +kernel
theorem d_kr_answer_12 : decode b_kr_answer 12 = .ok (.invokestatic 62, 3) := by decide +kernel
theorem d_kr_answer_15 : decode b_kr_answer 15 = .ok (.ifCond .ne 7, 3) := by decide +kernel
theorem d_kr_answer_18 : decode b_kr_answer 18 = .ok (.ldc2_w 87, 3) := by decide +kernel
theorem d_kr_answer_21 : decode b_kr_answer 21 = .ok (.lreturn, 1) := by decide +kernel
theorem d_kr_answer_22 : decode b_kr_answer 22 = .ok (.aload_n 0, 1) := by decide +kernel
theorem d_kr_answer_23 : decode b_kr_answer 23 = .ok (.getfield 36, 3) := by decide +kernel
theorem d_kr_answer_26 : decode b_kr_answer 26 = .ok (.iload_n 1, 1) := by decide +kernel
theorem d_kr_answer_27 : decode b_kr_answer 27 = .ok (.iload_n 2, 1) := by decide +kernel
theorem d_kr_answer_28 : decode b_kr_answer 28 = .ok (.invokevirtual 133, 3) := by decide +kernel
theorem d_kr_answer_31 : decode b_kr_answer 31 = .ok (.lreturn, 1) := by decide +kernel
theorem k_80 : (.fieldLink R_ks 21 "KilogramRows$ShareSystem" "pivots" "[I" : Cond) ∈ kt_T := List.mem_filter.mpr ⟨List.mem_of_getElem? (i := 68) (by decide +kernel), by decide +kernel⟩
theorem k_81 : (.code y_ks_elim b_ks_elim 11 none : Cond) ∈ kt_T := List.mem_filter.mpr ⟨List.mem_of_getElem? (i := 237) (by decide +kernel), by decide +kernel⟩
theorem k_82 : (.initialized R_ks : Cond) ∈ kt_T := List.mem_filter.mpr ⟨List.mem_of_getElem? (i := 19) (by decide +kernel), by decide +kernel⟩
theorem k_83 : (.instanceMethod y_ks_elim : Cond) ∈ kt_T := List.mem_filter.mpr ⟨List.mem_of_getElem? (i := 236) (by decide +kernel), by decide +kernel⟩
theorem k_84 : (.selects R_ks y_ks_elim y_ks_elim : Cond) ∈ kt_T := List.mem_filter.mpr ⟨List.mem_of_getElem? (i := 3) (by decide +kernel), by decide +kernel⟩
theorem k_85 : (.methodLink R_ks 44 y_ks_elim : Cond) ∈ kt_T := List.mem_filter.mpr ⟨List.mem_of_getElem? (i := 234) (by decide +kernel), by decide +kernel⟩
theorem k_86 : (.code y_ks_pivot b_ks_pivot 4 (some .int) : Cond) ∈ kt_T := List.mem_filter.mpr ⟨List.mem_of_getElem? (i := 233) (by decide +kernel), by decide +kernel⟩
theorem k_87 : (.instanceMethod y_ks_pivot : Cond) ∈ kt_T := List.mem_filter.mpr ⟨List.mem_of_getElem? (i := 232) (by decide +kernel), by decide +kernel⟩
theorem k_88 : (.selects R_ks y_ks_pivot y_ks_pivot : Cond) ∈ kt_T := List.mem_filter.mpr ⟨List.mem_of_getElem? (i := 2) (by decide +kernel), by decide +kernel⟩
theorem k_89 : (.methodLink R_ks 40 y_ks_pivot : Cond) ∈ kt_T := List.mem_filter.mpr ⟨List.mem_of_getElem? (i := 230) (by decide +kernel), by decide +kernel⟩
theorem k_90 : (.code y_ks_copy b_ks_copy 4 none : Cond) ∈ kt_T := List.mem_filter.mpr ⟨List.mem_of_getElem? (i := 229) (by decide +kernel), by decide +kernel⟩
theorem k_91 : (.instanceMethod y_ks_copy : Cond) ∈ kt_T := List.mem_filter.mpr ⟨List.mem_of_getElem? (i := 228) (by decide +kernel), by decide +kernel⟩
theorem k_92 : (.selects R_ks y_ks_copy y_ks_copy : Cond) ∈ kt_T := List.mem_filter.mpr ⟨List.mem_of_getElem? (i := 1) (by decide +kernel), by decide +kernel⟩
theorem k_93 : (.methodLink R_ks 36 y_ks_copy : Cond) ∈ kt_T := List.mem_filter.mpr ⟨List.mem_of_getElem? (i := 226) (by decide +kernel), by decide +kernel⟩
theorem k_94 : (.code y_ks_keep b_ks_keep 10 none : Cond) ∈ kt_T := List.mem_filter.mpr ⟨List.mem_of_getElem? (i := 241) (by decide +kernel), by decide +kernel⟩
theorem k_95 : (.instanceMethod y_ks_keep : Cond) ∈ kt_T := List.mem_filter.mpr ⟨List.mem_of_getElem? (i := 240) (by decide +kernel), by decide +kernel⟩
theorem k_96 : (.selects R_ks y_ks_keep y_ks_keep : Cond) ∈ kt_T := List.mem_filter.mpr ⟨List.mem_of_getElem? (i := 4) (by decide +kernel), by decide +kernel⟩
theorem k_97 : (.methodLink R_ks 48 y_ks_keep : Cond) ∈ kt_T := List.mem_filter.mpr ⟨List.mem_of_getElem? (i := 238) (by decide +kernel), by decide +kernel⟩
theorem k_98 : (.fieldLink R_kr 36 "KilogramRows" "system" "LKilogramRows$ShareSystem;" : Cond) ∈ kt_T := List.mem_filter.mpr ⟨List.mem_of_getElem? (i := 106) (by decide +kernel), by decide +kernel⟩
theorem k_99 : (.code y_ks_setEntry b_ks_setEntry 4 (some .boolean) : Cond) ∈ kt_T := List.mem_filter.mpr ⟨List.mem_of_getElem? (i := 217) (by decide +kernel), by decide +kernel⟩
theorem k_100 : (.instanceMethod y_ks_setEntry : Cond) ∈ kt_T := List.mem_filter.mpr ⟨List.mem_of_getElem? (i := 215) (by decide +kernel), by decide +kernel⟩
theorem k_101 : (.selects R_ks y_ks_setEntry y_ks_setEntry : Cond) ∈ kt_T := List.mem_filter.mpr ⟨List.mem_of_getElem? (i := 216) (by decide +kernel), by decide +kernel⟩
theorem k_102 : (.methodLink R_kr 123 y_ks_setEntry : Cond) ∈ kt_T := List.mem_filter.mpr ⟨List.mem_of_getElem? (i := 214) (by decide +kernel), by decide +kernel⟩
theorem k_103 : (.code y_ks_solve b_ks_solve 7 (some .int) : Cond) ∈ kt_T := List.mem_filter.mpr ⟨List.mem_of_getElem? (i := 225) (by decide +kernel), by decide +kernel⟩
theorem k_104 : (.instanceMethod y_ks_solve : Cond) ∈ kt_T := List.mem_filter.mpr ⟨List.mem_of_getElem? (i := 223) (by decide +kernel), by decide +kernel⟩
theorem k_105 : (.selects R_ks y_ks_solve y_ks_solve : Cond) ∈ kt_T := List.mem_filter.mpr ⟨List.mem_of_getElem? (i := 224) (by decide +kernel), by decide +kernel⟩
theorem k_106 : (.methodLink R_kr 127 y_ks_solve : Cond) ∈ kt_T := List.mem_filter.mpr ⟨List.mem_of_getElem? (i := 222) (by decide +kernel), by decide +kernel⟩
theorem k_107 : (.code y_ks_hasAnswer b_ks_hasAnswer 2 (some .boolean) : Cond) ∈ kt_T := List.mem_filter.mpr ⟨List.mem_of_getElem? (i := 250) (by decide +kernel), by decide +kernel⟩
theorem k_108 : (.instanceMethod y_ks_hasAnswer : Cond) ∈ kt_T := List.mem_filter.mpr ⟨List.mem_of_getElem? (i := 248) (by decide +kernel), by decide +kernel⟩
theorem k_109 : (.selects R_ks y_ks_hasAnswer y_ks_hasAnswer : Cond) ∈ kt_T := List.mem_filter.mpr ⟨List.mem_of_getElem? (i := 249) (by decide +kernel), by decide +kernel⟩
theorem k_110 : (.methodLink R_kr 130 y_ks_hasAnswer : Cond) ∈ kt_T := List.mem_filter.mpr ⟨List.mem_of_getElem? (i := 247) (by decide +kernel), by decide +kernel⟩
theorem k_111 : (.code y_ks_answerPart b_ks_answerPart 3 (some .long) : Cond) ∈ kt_T := List.mem_filter.mpr ⟨List.mem_of_getElem? (i := 254) (by decide +kernel), by decide +kernel⟩
theorem k_112 : (.instanceMethod y_ks_answerPart : Cond) ∈ kt_T := List.mem_filter.mpr ⟨List.mem_of_getElem? (i := 252) (by decide +kernel), by decide +kernel⟩
theorem k_113 : (.selects R_ks y_ks_answerPart y_ks_answerPart : Cond) ∈ kt_T := List.mem_filter.mpr ⟨List.mem_of_getElem? (i := 253) (by decide +kernel), by decide +kernel⟩
theorem k_114 : (.methodLink R_kr 133 y_ks_answerPart : Cond) ∈ kt_T := List.mem_filter.mpr ⟨List.mem_of_getElem? (i := 251) (by decide +kernel), by decide +kernel⟩
/-- the answers are kept: d rows are left, from r on -/
def kaL (fp : Nat → Int32) (Wm : Nat → Nat → Int64) : Nat → Nat → (Nat → Int64) → (Nat → Int64) → (Nat → Int64) × (Nat → Int64)
  | 0, _, u, v => (u, v)
  | d + 1, r, u, v => if f_kr_gcd (Wm r 4) (Wm r (fp r).toNatClampNeg) = 0 then kaL fp Wm d (r + 1) u v else kaL fp Wm d (r + 1) (vp_updL u (fp r).toNatClampNeg ((Wm r 4) / (f_kr_gcd (Wm r 4) (Wm r (fp r).toNatClampNeg)))) (vp_updL v (fp r).toNatClampNeg ((Wm r (fp r).toNatClampNeg) / (f_kr_gcd (Wm r 4) (Wm r (fp r).toNatClampNeg))))
theorem in_45 {i : Int32} (h : vp_in i 4) : vp_in i 5 := by
  rw [vp_in_iff] at h ⊢
  omega
set_option maxHeartbeats 4000000 in
theorem lp_ks_keep {p : Program} {l : Launch} {e : Env} {R : Room} {s : State} {m : MethodId} {args : Array Value} {below : List Frame} {meth : Method} {c : Code} {dC : Nat → ClassId} {dI : Nat → Nat → Nat} {A : Nat → Prop} {Q : State → Prop} {a_s : Nat} {e0 : Nat} {w0 : Nat} {pv : Nat} {su : Nat} {sl : Nat} {er : Nat → Nat} {wr : Nat → Nat} {ans : Int32} {cE : ClassId} {cW : ClassId} {cP : ClassId} {fp : Nat → Int32} {cSu : ClassId} {cSl : ClassId} {cI : ClassId} {E : Nat → Nat → Int32} {cJ : ClassId} {Wm : Nat → Nat → Int64} {n : Nat} (hx : p.tables.exec = Jvm.exec) (hb : c.code = b_ks_keep) (hml : c.maxLocals = 10) (hown : s.vm.findClass R_ks = some m.cls) (hT : ∀ w ∈ kt_T, w.before args s = true) (hA : ∀ q : Nat, s.heap.size ≤ q → A q) (hK : va_K (dC, dI) classes [(cE, .array .int), (cW, .array .long), (cP, .int), (cSu, .long), (cSl, .long), (cI, .int), (cJ, .long)] s) (hN : kt_N s) (hRf : 1 ≤ R.frames) (hRl : 30 ≤ R.locals) (hn : n ≤ 4) (hpv : ∀ i, i < n → vp_in (fp i) 4) :
    ∀ (d r : Nat) (U Z : Nat → Int64), r + d = n → (∀ (H : Heap) (locs : List Loc) (ls : Array Slot), va_P (dC, dI) classes (ks_ws a_s e0 w0 pv su sl er wr cE cW cP cSu cSl cI cJ fp ((kaL fp Wm d r U Z).1) ((kaL fp Wm d r U Z).2) E Wm ans) H → va_D A (ks_ws a_s e0 w0 pv su sl er wr cE cW cP cSu cSl cI cJ fp ((kaL fp Wm d r U Z).1) ((kaL fp Wm d r U Z).2) E Wm ans) → va_S A s.heap H locs → lv_has ls 10 [(0, .ref a_s), (1, .int (nI n))] → W p l e R s m args below meth c H locs 0 0 Q (F0 m 78 ls [])) → ∀ (H : Heap) (locs : List Loc) (ls : Array Slot), va_P (dC, dI) classes (ks_ws a_s e0 w0 pv su sl er wr cE cW cP cSu cSl cI cJ fp U Z E Wm ans) H → va_D A (ks_ws a_s e0 w0 pv su sl er wr cE cW cP cSu cSl cI cJ fp U Z E Wm ans) → va_S A s.heap H locs → lv_has ls 10 [(0, .ref a_s), (1, .int (nI n)), (2, .int (nI r))] → W p l e R s m args below meth c H locs 0 0 Q (F0 m 2 ls []) := by
  intro d
  induction d with
  | zero =>
    intro r U Z hj hk H locs ls hP hD hS hl
    refine lv_iload_n hx hb d_ks_keep_2 rfl (lv_at hl 2 rfl) ?_
    refine lv_iload_n hx hb d_ks_keep_3 rfl (lv_at hl 1 rfl) ?_
    refine lv_icmp_ge (tgt := 78) hx hb d_ks_keep_4 (by decide) (fun c_1 => ?_) (fun c_1 => ?_)
    · exact hk H locs ls hP hD hS (lv_sub hl [0, 1] rfl)
    · exact absurd (nI_le (show n ≤ r by omega) (by omega)) c_1
  | succ d ih =>
    intro r U Z hj hk H locs ls hP hD hS hl
    have hpr := hpv r (by omega)
    refine lv_iload_n hx hb d_ks_keep_2 rfl (lv_at hl 2 rfl) ?_
    refine lv_iload_n hx hb d_ks_keep_3 rfl (lv_at hl 1 rfl) ?_
    refine lv_icmp_ge (tgt := 78) hx hb d_ks_keep_4 (by decide) (fun c_2 => ?_) (fun c_2 => ?_)
    · exact absurd c_2 (nI_ge (show r < n by omega) (by omega))
    · refine lv_aload_n hx hb d_ks_keep_7 rfl (lv_at hl 0 rfl) ?_
      refine va_get (D := (dC, dI)) (ci := 2) (v := .ref pv) (C := R_ks) (T := F_ks) (N := 6) hx hb hT i_ks hown hK hP 0 rfl rfl 2 (by decide) (hT _ k_80) (fun _ h9 => h9) rfl d_ks_keep_8 ?_
      refine lv_iload_n hx hb d_ks_keep_11 rfl (lv_at hl 2 rfl) ?_
      refine va_ialdN (i := r) hx hb hK hP 3 2 rfl rfl ⟨by omega, by decide⟩ d_ks_keep_12 ?_
      refine lv_istore_n (lv' := [(3, .int (fp r)), (0, .ref a_s), (1, .int (nI n)), (2, .int (nI r))]) hx hb d_ks_keep_13 rfl hl (by decide) rfl (fun ls hl => ?_)
      refine lv_aload_n hx hb d_ks_keep_14 rfl (lv_at hl 1 rfl) ?_
      refine va_get (D := (dC, dI)) (ci := 2) (v := .ref w0) (C := R_ks) (T := F_ks) (N := 6) hx hb hT i_ks hown hK hP 0 rfl rfl 1 (by decide) (hT _ k_79) (fun _ h9 => h9) rfl d_ks_keep_15 ?_
      refine lv_iload_n hx hb d_ks_keep_18 rfl (lv_at hl 3 rfl) ?_
      refine kx_aldN hx hb hK hP 2 1 rfl rfl (show r < 4 by omega) d_ks_keep_19 ?_
      refine lv_iconst (v := 4) hx hb d_ks_keep_20 (by decide) ?_
      refine va_laldN (i := 4) hx hb hK hP (10 + r) 6 (ks_w (show r < 4 by omega)) rfl ⟨by decide, by decide⟩ d_ks_keep_21 ?_
      refine lv_lstore (lv' := [(4, .long (Wm r 4)), (3, .int (fp r)), (0, .ref a_s), (1, .int (nI n)), (2, .int (nI r))]) hx hb d_ks_keep_22 hl (by decide) rfl (fun ls hl => ?_)
      refine lv_aload_n hx hb d_ks_keep_24 rfl (lv_at hl 2 rfl) ?_
      refine va_get (D := (dC, dI)) (ci := 2) (v := .ref w0) (C := R_ks) (T := F_ks) (N := 6) hx hb hT i_ks hown hK hP 0 rfl rfl 1 (by decide) (hT _ k_79) (fun _ h9 => h9) rfl d_ks_keep_25 ?_
      refine lv_iload_n hx hb d_ks_keep_28 rfl (lv_at hl 4 rfl) ?_
      refine kx_aldN hx hb hK hP 2 1 rfl rfl (show r < 4 by omega) d_ks_keep_29 ?_
      refine lv_iload_n hx hb d_ks_keep_30 rfl (lv_at hl 1 rfl) ?_
      refine va_lald hx hb hK hP (10 + r) 6 (ks_w (show r < 4 by omega)) rfl (in_45 hpr) d_ks_keep_31 ?_
      refine lv_lstore (lv' := [(6, .long (Wm r ((fp r).toNatClampNeg))), (4, .long (Wm r 4)), (3, .int (fp r)), (0, .ref a_s), (1, .int (nI n)), (2, .int (nI r))]) hx hb d_ks_keep_32 hl (by decide) rfl (fun ls hl => ?_)
      refine lv_lload hx hb d_ks_keep_34 (lv_at hl 1 rfl) ?_
      refine lv_lload hx hb d_ks_keep_36 (lv_at hl 0 rfl) ?_
      refine vp_callSl (va_runSN (As := [.long (Wm r 4), .long (Wm r ((fp r).toNatClampNeg))]) (rest := []) ⟨hx, hb, hml, hown, hT⟩ (c_kr_gcd l (Wm r 4) (Wm r ((fp r).toNatClampNeg))) ⟨va_cnB 2 hT (kt_G k_10) rfl rfl rfl (hN _ n_4) (hT _ k_11) (by decide +kernel) ⟨Nat.le_trans (Nat.le_of_ble_eq_true rfl) hRf, Nat.le_trans (Nat.le_of_ble_eq_true rfl) hRl⟩, hT _ k_12, trivial⟩ ⟨bl_S, fun U hU hW => ⟨rfl, trivial⟩⟩ rfl rfl hl.1 rfl (lv_room (Nat.le_of_ble_eq_true rfl)) d_ks_keep_38 ⟨Nat.zero_le _, Nat.zero_le _⟩).run (fun r_3 e_r_3 => ?_)
      subst e_r_3
      refine lv_lstore (lv' := [(8, .long (f_kr_gcd (Wm r 4) (Wm r ((fp r).toNatClampNeg)))), (6, .long (Wm r ((fp r).toNatClampNeg))), (4, .long (Wm r 4)), (3, .int (fp r)), (0, .ref a_s), (1, .int (nI n)), (2, .int (nI r))]) hx hb d_ks_keep_41 hl (by decide) rfl (fun ls hl => ?_)
      refine lv_lload hx hb d_ks_keep_43 (lv_at hl 0 rfl) ?_
      refine lv_lconst (v := 0) hx hb d_ks_keep_45 (by decide) ?_
      refine lx_ifeq (tgt := 72) hx hb d_ks_keep_46 d_ks_keep_47 (by decide) (fun c_4 => ?_) (fun c_4 => ?_)
      · refine lv_iinc (v := (nI r) + 1) (lv' := [(2, .int ((nI r) + 1)), (8, .long (f_kr_gcd (Wm r 4) (Wm r ((fp r).toNatClampNeg)))), (6, .long (Wm r ((fp r).toNatClampNeg))), (4, .long (Wm r 4)), (3, .int (fp r)), (0, .ref a_s), (1, .int (nI n))]) hx hb d_ks_keep_72 hl (k := 6) rfl rfl (by decide) rfl (fun ls hl => ?_)
        refine lv_goto (tgt := 2) hx hb d_ks_keep_75 (by decide) ?_
        exact ih (r + 1) _ _ (by omega) (by rw [kaL, if_pos c_4] at hk; exact hk) H locs ls hP hD hS (by have h9 := lv_sub hl [5, 6, 0] rfl; rw [nI_1] at h9; exact h9)
      · refine lv_aload_n hx hb d_ks_keep_50 rfl (lv_at hl 4 rfl) ?_
        refine va_get (D := (dC, dI)) (ci := 2) (v := .ref su) (C := R_ks) (T := F_ks) (N := 6) hx hb hT i_ks hown hK hP 0 rfl rfl 3 (by decide) (hT _ k_78) (fun _ h9 => h9) rfl d_ks_keep_51 ?_
        refine lv_iload_n hx hb d_ks_keep_54 rfl (lv_at hl 3 rfl) ?_
        refine lv_lload hx hb d_ks_keep_55 (lv_at hl 2 rfl) ?_
        refine lv_lload hx hb d_ks_keep_57 (lv_at hl 0 rfl) ?_
        refine lv_ldiv hx hb d_ks_keep_59 c_4 ?_
        refine va_last hx hb hK hP hD hS 4 3 rfl rfl hpr d_ks_keep_60 (fun H locs hP hD hS => ?_)
        have hP : va_P (dC, dI) classes (ks_ws a_s e0 w0 pv su sl er wr cE cW cP cSu cSl cI cJ fp (vp_updL U ((fp r).toNatClampNeg) ((Wm r 4) / (f_kr_gcd (Wm r 4) (Wm r ((fp r).toNatClampNeg))))) Z E Wm ans) H := hP
        have hD : va_D A (ks_ws a_s e0 w0 pv su sl er wr cE cW cP cSu cSl cI cJ fp (vp_updL U ((fp r).toNatClampNeg) ((Wm r 4) / (f_kr_gcd (Wm r 4) (Wm r ((fp r).toNatClampNeg))))) Z E Wm ans) := hD
        refine lv_aload_n hx hb d_ks_keep_61 rfl (lv_at hl 4 rfl) ?_
        refine va_get (D := (dC, dI)) (ci := 2) (v := .ref sl) (C := R_ks) (T := F_ks) (N := 6) hx hb hT i_ks hown hK hP 0 rfl rfl 4 (by decide) (hT _ k_77) (fun _ h9 => h9) rfl d_ks_keep_62 ?_
        refine lv_iload_n hx hb d_ks_keep_65 rfl (lv_at hl 3 rfl) ?_
        refine lv_lload hx hb d_ks_keep_66 (lv_at hl 1 rfl) ?_
        refine lv_lload hx hb d_ks_keep_68 (lv_at hl 0 rfl) ?_
        refine lv_ldiv hx hb d_ks_keep_70 c_4 ?_
        refine va_last hx hb hK hP hD hS 5 4 rfl rfl hpr d_ks_keep_71 (fun H locs hP hD hS => ?_)
        have hP : va_P (dC, dI) classes (ks_ws a_s e0 w0 pv su sl er wr cE cW cP cSu cSl cI cJ fp (vp_updL U ((fp r).toNatClampNeg) ((Wm r 4) / (f_kr_gcd (Wm r 4) (Wm r ((fp r).toNatClampNeg))))) (vp_updL Z ((fp r).toNatClampNeg) ((Wm r ((fp r).toNatClampNeg)) / (f_kr_gcd (Wm r 4) (Wm r ((fp r).toNatClampNeg))))) E Wm ans) H := hP
        have hD : va_D A (ks_ws a_s e0 w0 pv su sl er wr cE cW cP cSu cSl cI cJ fp (vp_updL U ((fp r).toNatClampNeg) ((Wm r 4) / (f_kr_gcd (Wm r 4) (Wm r ((fp r).toNatClampNeg))))) (vp_updL Z ((fp r).toNatClampNeg) ((Wm r ((fp r).toNatClampNeg)) / (f_kr_gcd (Wm r 4) (Wm r ((fp r).toNatClampNeg))))) E Wm ans) := hD
        refine lv_iinc (v := (nI r) + 1) (lv' := [(2, .int ((nI r) + 1)), (8, .long (f_kr_gcd (Wm r 4) (Wm r ((fp r).toNatClampNeg)))), (6, .long (Wm r ((fp r).toNatClampNeg))), (4, .long (Wm r 4)), (3, .int (fp r)), (0, .ref a_s), (1, .int (nI n))]) hx hb d_ks_keep_72 hl (k := 6) rfl rfl (by decide) rfl (fun ls hl => ?_)
        refine lv_goto (tgt := 2) hx hb d_ks_keep_75 (by decide) ?_
        exact ih (r + 1) _ _ (by omega) (by rw [kaL, if_neg c_4] at hk; exact hk) H locs ls hP hD hS (by have h9 := lv_sub hl [5, 6, 0] rfl; rw [nI_1] at h9; exact h9)
def f_ks_keep (fp : Nat → Int32) (fsu : Nat → Int64) (fsl : Nat → Int64) (Wm : Nat → Nat → Int64) (n : Nat) : (Nat → Int64) × (Nat → Int64) × Int32 :=
  ((kaL fp Wm n 0 fsu fsl).1, (kaL fp Wm n 0 fsu fsl).2, (nI n))
set_option maxHeartbeats 4000000 in
set_option maxRecDepth 100000 in
theorem c_ks_keep (l : Launch) (dC : Nat → ClassId) (dI : Nat → Nat → Nat) (sz : Nat) (a_s : Nat) (e0 : Nat) (w0 : Nat) (pv : Nat) (su : Nat) (sl : Nat) (er : Nat → Nat) (wr : Nat → Nat) (ans : Int32) (cE : ClassId) (cW : ClassId) (cP : ClassId) (fp : Nat → Int32) (cSu : ClassId) (fsu : Nat → Int64) (cSl : ClassId) (fsl : Nat → Int64) (cI : ClassId) (E : Nat → Nat → Int32) (cJ : ClassId) (Wm : Nat → Nat → Int64) (n : Nat) (hn : n ≤ 4) (hpv : ∀ i, i < n → vp_in (fp i) 4) : Met l y_ks_keep w_ks_keep ({ frames := 1, cells := 0, slots := 0, locals := 30 }) (va_Pc [.ref a_s, .int (nI n)] (fun U => U.heap.size = sz ∧ va_P (dC, dI) classes (ks_ws a_s e0 w0 pv su sl er wr cE cW cP cSu cSl cI cJ fp fsu fsl E Wm ans) U.heap ∧ va_K (dC, dI) classes [(cE, .array .int), (cW, .array .long), (cP, .int), (cSu, .long), (cSl, .long), (cI, .int), (cJ, .long)] U ∧ va_D (fun _ => True) (ks_ws a_s e0 w0 pv su sl er wr cE cW cP cSu cSl cI cJ fp fsu fsl E Wm ans) ∧ kt_N U)) (va_Qv (fun u9 => u9 = f_ks_keep fp fsu fsl Wm n) (fun (u : (Nat → Int64) × (Nat → Int64) × Int32) t => match u with | (fsu', fsl', ans') => va_P (dC, dI) classes (ks_ws a_s e0 w0 pv su sl er wr cE cW cP cSu cSl cI cJ fp fsu' fsl' E Wm ans') t.heap ∧ va_K (dC, dI) classes [(cE, .array .int), (cW, .array .long), (cP, .int), (cSu, .long), (cSl, .long), (cI, .int), (cJ, .long)] t ∧ va_D (va_A (ks_ws a_s e0 w0 pv su sl er wr cE cW cP cSu cSl cI cJ fp fsu fsl E Wm ans) sz) (ks_ws a_s e0 w0 pv su sl er wr cE cW cP cSu cSl cI cJ fp fsu' fsl' E Wm ans')) (va_A (ks_ws a_s e0 w0 pv su sl er wr cE cW cP cSu cSl cI cJ fp fsu fsl E Wm ans) sz)) 0 0 (va_A (ks_ws a_s e0 w0 pv su sl er wr cE cW cP cSu cSl cI cJ fp fsu fsl E Wm ans) sz) := by
  refine Met.ofW (cc := b_ks_keep) (maxL := 10) (ret := none) (by decide +kernel) rfl ?_
  intro p e s m args below meth c s₁ B hml hv
  obtain ⟨rfl, hsz, hP, hK, hD0, hN⟩ := hv
  have hx := B.exec
  have hb := B.bytes
  have hr := B.returns
  have hts := atoms_spec (ws := w_ks_keep) B.pre
  have hT := fun (w : Cond) (h : w ∈ kt_T) => hts w (List.mem_cons_of_mem _ h)
  have hown : s.vm.findClass R_ks = some m.cls := findClass_of_methodNamed B.named
  have hlocks := B.notSynchronized
  subst hsz
  have hD := hD0.self (sz := s.heap.size)
  generalize hAe : va_A (ks_ws a_s e0 w0 pv su sl er wr cE cW cP cSu cSl cI cJ fp fsu fsl E Wm ans) s.heap.size = A at hD ⊢
  have hA : ∀ q : Nat, s.heap.size ≤ q → A q := fun q h => by rw [← hAe]; exact Or.inr h
  have hS : va_S A s.heap s.heap [] := va_S.rf
  have hl := lv_entry ([.ref a_s, .int (nI n)]) (n := 10) (Nat.le_of_ble_eq_true rfl)
  rw [lg_entry_eq]
  generalize (lg_sl ([.ref a_s, .int (nI n)]) ++ List.replicate (10 - (lg_sl ([.ref a_s, .int (nI n)])).length) Slot.unset).toArray = ls at hl ⊢
  have hl : lv_has ls 10 [(0, .ref a_s), (1, .int (nI n))] := hl
  refine lv_iconst (v := 0) hx hb d_ks_keep_0 (by decide) ?_
  refine lv_istore_n (lv' := [(2, .int 0), (0, .ref a_s), (1, .int (nI n))]) hx hb d_ks_keep_1 rfl hl (by decide) rfl (fun ls hl => ?_)
  refine lp_ks_keep hx hb hml hown hT hA hK hN (Nat.le_of_ble_eq_true rfl) (Nat.le_of_ble_eq_true rfl) hn hpv n 0 fsu fsl (Nat.zero_add _) (fun H locs ls hP hD hS hl => ?_) s.heap [] ls hP hD hS (lv_sub hl [1, 2, 0] rfl)
  refine lv_aload_n hx hb d_ks_keep_78 rfl (lv_at hl 0 rfl) ?_
  refine lv_iload_n hx hb d_ks_keep_79 rfl (lv_at hl 1 rfl) ?_
  refine va_put (D := (dC, dI)) (ci := 2) (v := .int (nI n)) (ty := .int) (C := R_ks) (T := F_ks) (N := 6) hx hb hT i_ks t_ks t_ks_ok n_ks hown hK hP hD hS 0 rfl rfl 5 (by decide) (hT _ k_76) (fun _ h9 => h9) rfl (by decide +kernel) rfl rfl (Nat.le_of_ble_eq_true rfl) d_ks_keep_80 (fun H locs hP hD hS => ?_)
  have hP : va_P (dC, dI) classes (ks_ws a_s e0 w0 pv su sl er wr cE cW cP cSu cSl cI cJ fp ((kaL fp Wm n 0 fsu fsl).1) ((kaL fp Wm n 0 fsu fsl).2) E Wm (nI n)) H := hP
  have hD : va_D A (ks_ws a_s e0 w0 pv su sl er wr cE cW cP cSu cSl cI cJ fp ((kaL fp Wm n 0 fsu fsl).1) ((kaL fp Wm n 0 fsu fsl).2) E Wm (nI n)) := hD
  exact W.vret hx hb hr (fun t ht hW => ⟨⟨((kaL fp Wm n 0 fsu fsl).1, (kaL fp Wm n 0 fsu fsl).2, (nI n)), rfl, rfl, by rw [ht]; exact hP, va_K.moved hW.alike hK, hD⟩, hS.F ht⟩) hS.2.2 d_ks_keep_83
/-- the other rows are cleared: k are left, from o on -/
def soI (r q : Nat) (bf : Int64) : Nat → Nat → (Nat → Nat → Int64) → Nat → Nat → Int64
  | 0, _, X => X
  | k + 1, o, X => if o = r then soI r q bf k (o + 1) X else soI r q bf k (o + 1) (f_ks_elim X o r q bf)
/-- the elimination: d rows are left, from r on; behind it the answer (0: solved), the numbers, the pivots -/
def soL (n : Nat) : Nat → Nat → Int64 → (Nat → Nat → Int64) → (Nat → Int32) → Int32 × (Nat → Nat → Int64) × (Nat → Int32)
  | 0, _, _, X, P => (0, X, P)
  | d + 1, r, bf, X, P => if f_ks_pivot X r n = -1 then (nI r + 1, X, P)
    else soL n d (r + 1) (soI r (f_ks_pivot X r n).toNatClampNeg bf n 0 X r (f_ks_pivot X r n).toNatClampNeg) (soI r (f_ks_pivot X r n).toNatClampNeg bf n 0 X) (upd P r (f_ks_pivot X r n))
theorem pvL_or (f : Nat → Int64) : ∀ (n j : Nat), pvL f n j = -1 ∨ ∃ q, q < j + n ∧ j ≤ q ∧ pvL f n j = nI q
  | 0, _ => Or.inl rfl
  | n + 1, j => by
    unfold pvL
    split
    · rcases pvL_or f n (j + 1) with h | ⟨q, h1, h2, h3⟩
      · exact Or.inl h
      · exact Or.inr ⟨q, by omega, by omega, h3⟩
    · exact Or.inr ⟨j, by omega, Nat.le_refl _, rfl⟩
theorem pv_some {X : Nat → Nat → Int64} {r n : Nat} (h : ¬ f_ks_pivot X r n = -1) : ∃ q, q < n ∧ f_ks_pivot X r n = nI q := by
  rcases pvL_or (X r) n 0 with h1 | ⟨q, h1, -, h3⟩
  · exact absurd h1 h
  · exact ⟨q, by omega, h3⟩
theorem nI_s4 {r : Nat} (h : r < 4) : ¬ nI r + 1 = 0 := by
  rw [nI_1]
  exact nI_ne0 (by omega) (by omega)
set_option maxHeartbeats 4000000 in
theorem lp_ks_soI {p : Program} {l : Launch} {e : Env} {R : Room} {s : State} {m : MethodId} {args : Array Value} {below : List Frame} {meth : Method} {c : Code} {dC : Nat → ClassId} {dI : Nat → Nat → Nat} {A : Nat → Prop} {Q : State → Prop} {a_s : Nat} {e0 : Nat} {w0 : Nat} {pv : Nat} {su : Nat} {sl : Nat} {er : Nat → Nat} {wr : Nat → Nat} {ans : Int32} {cE : ClassId} {cW : ClassId} {cP : ClassId} {fp : Nat → Int32} {cSu : ClassId} {fsu : Nat → Int64} {cSl : ClassId} {fsl : Nat → Int64} {cI : ClassId} {E : Nat → Nat → Int32} {cJ : ClassId} (hx : p.tables.exec = Jvm.exec) (hb : c.code = b_ks_solve) (hml : c.maxLocals = 7) (hown : s.vm.findClass R_ks = some m.cls) (hT : ∀ w ∈ kt_T, w.before args s = true) (hA : ∀ q : Nat, s.heap.size ≤ q → A q) (hK : va_K (dC, dI) classes [(cE, .array .int), (cW, .array .long), (cP, .int), (cSu, .long), (cSl, .long), (cI, .int), (cJ, .long)] s) {n r q : Nat} {bf : Int64} (hN : kt_N s) (hRf : 1 ≤ R.frames) (hRl : 30 ≤ R.locals) (hn : n ≤ 4) (hr4 : r < 4) (hq4 : q < n) :
    ∀ (k o : Nat) (X : Nat → Nat → Int64), o + k = n → (∀ (H : Heap) (locs : List Loc) (ls : Array Slot), va_P (dC, dI) classes (ks_ws a_s e0 w0 pv su sl er wr cE cW cP cSu cSl cI cJ fp fsu fsl E (soI r q bf k o X) ans) H → va_D A (ks_ws a_s e0 w0 pv su sl er wr cE cW cP cSu cSl cI cJ fp fsu fsl E (soI r q bf k o X) ans) → va_S A s.heap H locs → lv_has ls 7 [(0, .ref a_s), (1, .int (nI n)), (2, .long bf), (4, .int (nI r)), (5, .int (nI q))] → W p l e R s m args below meth c H locs 0 0 Q (F0 m 81 ls [])) → ∀ (H : Heap) (locs : List Loc) (ls : Array Slot), va_P (dC, dI) classes (ks_ws a_s e0 w0 pv su sl er wr cE cW cP cSu cSl cI cJ fp fsu fsl E X ans) H → va_D A (ks_ws a_s e0 w0 pv su sl er wr cE cW cP cSu cSl cI cJ fp fsu fsl E X ans) → va_S A s.heap H locs → lv_has ls 7 [(0, .ref a_s), (1, .int (nI n)), (2, .long bf), (4, .int (nI r)), (5, .int (nI q)), (6, .int (nI o))] → W p l e R s m args below meth c H locs 0 0 Q (F0 m 51 ls []) := by
  intro k
  induction k with
  | zero =>
    intro o X hj hk H locs ls hP hD hS hl
    refine lv_iload hx hb d_ks_solve_51 (lv_at hl 5 rfl) ?_
    refine lv_iload_n hx hb d_ks_solve_53 rfl (lv_at hl 1 rfl) ?_
    refine lv_icmp_ge (tgt := 81) hx hb d_ks_solve_54 (by decide) (fun c_1 => ?_) (fun c_1 => ?_)
    · exact hk H locs ls hP hD hS (lv_sub hl [0, 1, 2, 3, 4] rfl)
    · exact absurd (nI_le (show n ≤ o by omega) (by omega)) c_1
  | succ k ih =>
    intro o X hj hk H locs ls hP hD hS hl
    refine lv_iload hx hb d_ks_solve_51 (lv_at hl 5 rfl) ?_
    refine lv_iload_n hx hb d_ks_solve_53 rfl (lv_at hl 1 rfl) ?_
    refine lv_icmp_ge (tgt := 81) hx hb d_ks_solve_54 (by decide) (fun c_2 => ?_) (fun c_2 => ?_)
    · exact absurd c_2 (nI_ge (show o < n by omega) (by omega))
    · refine lv_iload hx hb d_ks_solve_57 (lv_at hl 5 rfl) ?_
      refine lv_iload hx hb d_ks_solve_59 (lv_at hl 3 rfl) ?_
      refine lv_icmp_eq (tgt := 75) hx hb d_ks_solve_61 (by decide) (fun c_3 => ?_) (fun c_3 => ?_)
      · refine lv_iinc (v := (nI o) + 1) (lv' := [(6, .int ((nI o) + 1)), (0, .ref a_s), (1, .int (nI n)), (2, .long bf), (4, .int (nI r)), (5, .int (nI q))]) hx hb d_ks_solve_75 hl (k := 5) rfl rfl (by decide) rfl (fun ls hl => ?_)
        refine lv_goto (tgt := 51) hx hb d_ks_solve_78 (by decide) ?_
        exact ih (o + 1) _ (by omega) (by rw [soI, if_pos (show o = r from (nI_eq (by omega) (by omega)).mp c_3)] at hk; exact hk) H locs ls hP hD hS (by have h9 := lv_sub hl [1, 2, 3, 4, 5, 0] rfl; rw [nI_1] at h9; exact h9)
      · refine lv_aload_n hx hb d_ks_solve_64 rfl (lv_at hl 0 rfl) ?_
        refine lv_iload hx hb d_ks_solve_65 (lv_at hl 5 rfl) ?_
        refine lv_iload hx hb d_ks_solve_67 (lv_at hl 3 rfl) ?_
        refine lv_iload hx hb d_ks_solve_69 (lv_at hl 4 rfl) ?_
        refine lv_lload_n hx hb d_ks_solve_71 rfl (lv_at hl 2 rfl) ?_
        have hPc := hP.sub (ws' := (ks_ws a_s e0 w0 pv su sl er wr cE cW cP cSu cSl cI cJ fp fsu fsl E X ans)) [0, 1, 2, 3, 4, 5, 6, 7, 8, 9, 10, 11, 12, 13] rfl
        have hKc := hK.sub (tys' := [(cE, .array .int), (cW, .array .long), (cP, .int), (cSu, .long), (cSl, .long), (cI, .int), (cJ, .long)]) [0, 1, 2, 3, 4, 5, 6] rfl
        have hDc := hD.sub (ws' := (ks_ws a_s e0 w0 pv su sl er wr cE cW cP cSu cSl cI cJ fp fsu fsl E X ans)) [0, 1, 2, 3, 4, 5, 6, 7, 8, 9, 10, 11, 12, 13] (by decide) rfl
        have hFc := va_free (wc := (ks_ws a_s e0 w0 pv su sl er wr cE cW cP cSu cSl cI cJ fp fsu fsl E X ans)) hD hS hA [0, 1, 2, 3, 4, 5, 6, 7, 8, 9, 10, 11, 12, 13] rfl
        refine va_callv (va_runV (As := [.int (nI o), .int (nI r), .int (nI q), .long bf]) (rest := []) ⟨hx, hb, hml, hown, hT⟩ (c_ks_elim l dC dI H.size a_s e0 w0 pv su sl er wr ans cE cW cP fp cSu fsu cSl fsl cI E cJ X o r q bf (show o < 4 by omega) hr4 (show q < 5 by omega)) (cwV 4 hT (kt_V k_85 k_83 k_84 k_82 k_81) rfl rfl rfl (by decide +kernel) ⟨Nat.le_trans (Nat.le_of_ble_eq_true rfl) hRf, Nat.le_trans (Nat.le_of_ble_eq_true rfl) hRl⟩) ⟨bl_M, va_recv hKc hPc (ci := 2) (q0 := 0) rfl rfl, fun U hU hW => ⟨rfl, by rw [hU], by rw [hU]; exact hPc, va_K.moved hW.alike hKc, hDc.weaken (fun _ _ _ _ => trivial)⟩⟩ rfl rfl hl.1 rfl (lv_room (Nat.le_of_ble_eq_true rfl)) d_ks_solve_72 ⟨Nat.zero_le _, Nat.zero_le _⟩) hS (fun q _ h => hFc q h) hFc (fun u t H1 locs ht hvm hw hB hz1 hk1 hS => ?_)
        obtain ⟨Wm_4, rfl⟩ : ∃ z, z = u := ⟨_, rfl⟩
        obtain ⟨hP1, hK1, hD1⟩ := hB
        rw [ht] at hP1
        obtain ⟨hP, hD⟩ := va_join (wr := []) (w1 := (ks_ws a_s e0 w0 pv su sl er wr cE cW cP cSu cSl cI cJ fp fsu fsl E Wm_4 ans)) hP hD [0, 1, 2, 3, 4, 5, 6, 7, 8, 9, 10, 11, 12, 13] [] rfl rfl (by decide) (by decide) hk1 hFc hP1 hD1
        generalize H1 = H at hP hS ⊢
        have hP := hP.sub (ws' := (ks_ws a_s e0 w0 pv su sl er wr cE cW cP cSu cSl cI cJ fp fsu fsl E Wm_4 ans)) [0, 1, 2, 3, 4, 5, 6, 7, 8, 9, 10, 11, 12, 13] rfl
        have hD := hD.sub (ws' := (ks_ws a_s e0 w0 pv su sl er wr cE cW cP cSu cSl cI cJ fp fsu fsl E Wm_4 ans)) [0, 1, 2, 3, 4, 5, 6, 7, 8, 9, 10, 11, 12, 13] (by decide) rfl
        subst hw
        clear hP1 hK1 hD1 hk1 hz1 hFc hDc hPc hKc
        refine lv_iinc (v := (nI o) + 1) (lv' := [(6, .int ((nI o) + 1)), (0, .ref a_s), (1, .int (nI n)), (2, .long bf), (4, .int (nI r)), (5, .int (nI q))]) hx hb d_ks_solve_75 hl (k := 5) rfl rfl (by decide) rfl (fun ls hl => ?_)
        refine lv_goto (tgt := 51) hx hb d_ks_solve_78 (by decide) ?_
        exact ih (o + 1) _ (by omega) (by rw [soI, if_neg (fun h9 : o = r => c_3 (congrArg nI h9))] at hk; exact hk) H locs ls hP hD hS (by have h9 := lv_sub hl [1, 2, 3, 4, 5, 0] rfl; rw [nI_1] at h9; exact h9)
set_option maxHeartbeats 4000000 in
theorem lp_ks_soL {p : Program} {l : Launch} {e : Env} {R : Room} {s : State} {m : MethodId} {args : Array Value} {below : List Frame} {meth : Method} {c : Code} {dC : Nat → ClassId} {dI : Nat → Nat → Nat} {A : Nat → Prop} {Q : State → Prop} {a_s : Nat} {e0 : Nat} {w0 : Nat} {pv : Nat} {su : Nat} {sl : Nat} {er : Nat → Nat} {wr : Nat → Nat} {ans : Int32} {cE : ClassId} {cW : ClassId} {cP : ClassId} {cSu : ClassId} {fsu : Nat → Int64} {cSl : ClassId} {fsl : Nat → Int64} {cI : ClassId} {E : Nat → Nat → Int32} {cJ : ClassId} (hx : p.tables.exec = Jvm.exec) (hb : c.code = b_ks_solve) (hml : c.maxLocals = 7) (hown : s.vm.findClass R_ks = some m.cls) (hT : ∀ w ∈ kt_T, w.before args s = true) (hA : ∀ q : Nat, s.heap.size ≤ q → A q) (hK : va_K (dC, dI) classes [(cE, .array .int), (cW, .array .long), (cP, .int), (cSu, .long), (cSl, .long), (cI, .int), (cJ, .long)] s) {n : Nat} (hN : kt_N s) (hRf : 1 ≤ R.frames) (hRl : 30 ≤ R.locals) (hn : n ≤ 4) :
    ∀ (d r : Nat) (bf : Int64) (X : Nat → Nat → Int64) (P : Nat → Int32), r + d = n → (∀ i, i < r → vp_in (P i) 4) → (∀ (Y : Nat → Nat → Int64) (P2 : Nat → Int32), soL n d r bf X P = (0, Y, P2) → (∀ i, i < n → vp_in (P2 i) 4) → ∀ (H : Heap) (locs : List Loc) (ls : Array Slot), va_P (dC, dI) classes (ks_ws a_s e0 w0 pv su sl er wr cE cW cP cSu cSl cI cJ P2 fsu fsl E Y ans) H → va_D A (ks_ws a_s e0 w0 pv su sl er wr cE cW cP cSu cSl cI cJ P2 fsu fsl E Y ans) → va_S A s.heap H locs → lv_has ls 7 [(0, .ref a_s), (1, .int (nI n))] → W p l e R s m args below meth c H locs 0 0 Q (F0 m 107 ls [])) → (∀ (v : Int32) (Y : Nat → Nat → Int64) (P2 : Nat → Int32), ¬ v = 0 → soL n d r bf X P = (v, Y, P2) → ∀ (H : Heap) (locs : List Loc) (ls : Array Slot), va_P (dC, dI) classes (ks_ws a_s e0 w0 pv su sl er wr cE cW cP cSu cSl cI cJ P2 fsu fsl E Y ans) H → va_D A (ks_ws a_s e0 w0 pv su sl er wr cE cW cP cSu cSl cI cJ P2 fsu fsl E Y ans) → va_S A s.heap H locs → ls.size = 7 → W p l e R s m args below meth c H locs 0 0 Q (F0 m 47 ls [.int v])) → ∀ (H : Heap) (locs : List Loc) (ls : Array Slot), va_P (dC, dI) classes (ks_ws a_s e0 w0 pv su sl er wr cE cW cP cSu cSl cI cJ P fsu fsl E X ans) H → va_D A (ks_ws a_s e0 w0 pv su sl er wr cE cW cP cSu cSl cI cJ P fsu fsl E X ans) → va_S A s.heap H locs → lv_has ls 7 [(0, .ref a_s), (1, .int (nI n)), (2, .long bf), (4, .int (nI r))] → W p l e R s m args below meth c H locs 0 0 Q (F0 m 22 ls []) := by
  intro d
  induction d with
  | zero =>
    intro r bf X P hj hpr hk hk1 H locs ls hP hD hS hl
    refine lv_iload hx hb d_ks_solve_22 (lv_at hl 3 rfl) ?_
    refine lv_iload_n hx hb d_ks_solve_24 rfl (lv_at hl 1 rfl) ?_
    refine lv_icmp_ge (tgt := 107) hx hb d_ks_solve_25 (by decide) (fun c_5 => ?_) (fun c_5 => ?_)
    · exact hk X P rfl (fun i hi => hpr i (by omega)) H locs ls hP hD hS (lv_sub hl [0, 1] rfl)
    · exact absurd (nI_le (show n ≤ r by omega) (by omega)) c_5
  | succ d ih =>
    intro r bf X P hj hpr hk hk1 H locs ls hP hD hS hl
    refine lv_iload hx hb d_ks_solve_22 (lv_at hl 3 rfl) ?_
    refine lv_iload_n hx hb d_ks_solve_24 rfl (lv_at hl 1 rfl) ?_
    refine lv_icmp_ge (tgt := 107) hx hb d_ks_solve_25 (by decide) (fun c_6 => ?_) (fun c_6 => ?_)
    · exact absurd c_6 (nI_ge (show r < n by omega) (by omega))
    · refine lv_aload_n hx hb d_ks_solve_28 rfl (lv_at hl 0 rfl) ?_
      refine lv_iload hx hb d_ks_solve_29 (lv_at hl 3 rfl) ?_
      refine lv_iload_n hx hb d_ks_solve_31 rfl (lv_at hl 1 rfl) ?_
      have hPc := hP.sub (ws' := (ks_ws a_s e0 w0 pv su sl er wr cE cW cP cSu cSl cI cJ P fsu fsl E X ans)) [0, 1, 2, 3, 4, 5, 6, 7, 8, 9, 10, 11, 12, 13] rfl
      have hKc := hK.sub (tys' := [(cE, .array .int), (cW, .array .long), (cP, .int), (cSu, .long), (cSl, .long), (cI, .int), (cJ, .long)]) [0, 1, 2, 3, 4, 5, 6] rfl
      refine vp_callSi (W.runV (As := [.int (nI r), .int (nI n)]) (rest := []) ⟨hx, hb, hml, hown, hT⟩ (c_ks_pivot l dC dI a_s e0 w0 pv su sl er wr ans cE cW cP P cSu fsu cSl fsl cI E cJ X r n (show r < 4 by omega) hn) (cwV 2 hT (kt_V k_89 k_87 k_88 k_82 k_86) rfl rfl rfl (by decide +kernel) ⟨Nat.le_trans (Nat.le_of_ble_eq_true rfl) hRf, Nat.le_trans (Nat.le_of_ble_eq_true rfl) hRl⟩) ⟨bl_R, va_recv hKc hPc (ci := 2) (q0 := 0) rfl rfl, fun U hU hW => ⟨rfl, by rw [hU]; exact hPc, va_K.moved hW.alike hKc⟩⟩ rfl rfl hl.1 rfl (lv_room (Nat.le_of_ble_eq_true rfl)) d_ks_solve_32 ⟨Nat.zero_le _, Nat.zero_le _⟩) (fun r_7 e_r_7 => ?_)
      subst e_r_7
      refine lv_istore (lv' := [(5, .int (f_ks_pivot X r n)), (0, .ref a_s), (1, .int (nI n)), (2, .long bf), (4, .int (nI r))]) hx hb d_ks_solve_35 hl (by decide) rfl (fun ls hl => ?_)
      refine lv_iload hx hb d_ks_solve_37 (lv_at hl 0 rfl) ?_
      refine lv_iconst (v := (-1)) hx hb d_ks_solve_39 (by decide) ?_
      refine lv_icmp_ne (tgt := 48) hx hb d_ks_solve_40 (by decide) (fun c_8 => ?_) (fun c_8 => ?_)
      · refine lv_iconst (v := 0) hx hb d_ks_solve_48 (by decide) ?_
        refine lv_istore (lv' := [(6, .int 0), (5, .int (f_ks_pivot X r n)), (0, .ref a_s), (1, .int (nI n)), (2, .long bf), (4, .int (nI r))]) hx hb d_ks_solve_49 hl (by decide) rfl (fun ls hl => ?_)
        obtain ⟨q, hq4, eq9⟩ := pv_some c_8
        have hc9 := c_8
        have hl := lv_sub hl [2, 3, 4, 5, 1, 0] rfl
        rw [eq9] at hl
        refine lp_ks_soI hx hb hml hown hT hA hK hN (Nat.le_trans (Nat.le_of_ble_eq_true rfl) hRf) (Nat.le_trans (Nat.le_of_ble_eq_true rfl) hRl) hn (show r < 4 by omega) hq4 n 0 X (Nat.zero_add _) (fun H locs ls hP hD hS hl => ?_) H locs ls hP hD hS hl
        refine lv_aload_n hx hb d_ks_solve_81 rfl (lv_at hl 0 rfl) ?_
        refine va_get (D := (dC, dI)) (ci := 2) (v := .ref pv) (C := R_ks) (T := F_ks) (N := 6) hx hb hT i_ks hown hK hP 0 rfl rfl 2 (by decide) (hT _ k_80) (fun _ h9 => h9) rfl d_ks_solve_82 ?_
        refine lv_iload hx hb d_ks_solve_85 (lv_at hl 3 rfl) ?_
        refine lv_iload hx hb d_ks_solve_87 (lv_at hl 4 rfl) ?_
        refine va_iastN hx hb hK hP hD hS 3 2 rfl rfl ⟨by omega, by decide⟩ d_ks_solve_89 (fun H locs hP hD hS => ?_)
        have hP : va_P (dC, dI) classes (ks_ws a_s e0 w0 pv su sl er wr cE cW cP cSu cSl cI cJ (upd P r (nI q)) fsu fsl E (soI r q bf n 0 X) ans) H := hP
        have hD : va_D A (ks_ws a_s e0 w0 pv su sl er wr cE cW cP cSu cSl cI cJ (upd P r (nI q)) fsu fsl E (soI r q bf n 0 X) ans) := hD
        refine lv_aload_n hx hb d_ks_solve_90 rfl (lv_at hl 0 rfl) ?_
        refine va_get (D := (dC, dI)) (ci := 2) (v := .ref w0) (C := R_ks) (T := F_ks) (N := 6) hx hb hT i_ks hown hK hP 0 rfl rfl 1 (by decide) (hT _ k_79) (fun _ h9 => h9) rfl d_ks_solve_91 ?_
        refine lv_iload hx hb d_ks_solve_94 (lv_at hl 3 rfl) ?_
        refine kx_aldN hx hb hK hP 2 1 rfl rfl (show r < 4 by omega) d_ks_solve_96 ?_
        refine lv_iload hx hb d_ks_solve_97 (lv_at hl 4 rfl) ?_
        refine va_laldN (i := q) hx hb hK hP (10 + r) 6 (ks_w (show r < 4 by omega)) rfl ⟨by omega, by decide⟩ d_ks_solve_99 ?_
        refine lv_lstore_n (lv' := [(2, .long ((soI r q bf n 0 X) r q)), (0, .ref a_s), (1, .int (nI n)), (4, .int (nI r)), (5, .int (nI q))]) hx hb d_ks_solve_100 rfl hl (by decide) rfl (fun ls hl => ?_)
        refine lv_iinc (v := (nI r) + 1) (lv' := [(4, .int ((nI r) + 1)), (2, .long ((soI r q bf n 0 X) r q)), (0, .ref a_s), (1, .int (nI n)), (5, .int (nI q))]) hx hb d_ks_solve_101 hl (k := 3) rfl rfl (by decide) rfl (fun ls hl => ?_)
        refine lv_goto (tgt := 22) hx hb d_ks_solve_104 (by decide) ?_
        refine ih (r + 1) _ _ _ (by omega) (fun i hi => ?_) (fun Y P2 e9 => hk Y P2 (by rw [soL, if_neg hc9, eq9, nI_clamp (by omega)]; exact e9)) (fun v Y P2 hv e9 => hk1 v Y P2 hv (by rw [soL, if_neg hc9, eq9, nI_clamp (by omega)]; exact e9)) H locs ls hP hD hS (by have h9 := lv_sub hl [2, 3, 1, 0] rfl; rw [nI_1] at h9; exact h9)
        by_cases hir : i = r
        · subst hir
          rw [pk_us]
          exact vp_in_nI (by omega) (by decide)
        · rw [pk_un hir]
          exact hpr i (by omega)
      · refine lv_iload hx hb d_ks_solve_43 (lv_at hl 4 rfl) ?_
        refine lv_iconst (v := 1) hx hb d_ks_solve_45 (by decide) ?_
        refine lv_iadd hx hb d_ks_solve_46 ?_
        exact hk1 _ X P (nI_s4 (by omega)) (by rw [soL, if_pos c_8]) H locs ls hP hD hS hl.1
theorem size_n {size : Int32} (h1 : ¬ size < 1) (h2 : size ≤ 4) : ∃ n, n ≤ 4 ∧ size = nI n := by
  refine nI_of2 (M := 4) (n := 4) (by decide) (fun h => h1 ?_) h2
  rw [Int32.lt_iff_toInt_lt] at h ⊢
  rw [Int32.toInt_zero] at h
  have h3 : (1 : Int32).toInt = 1 := by decide
  omega
def f_ks_solveE (n : Nat) (E : Nat → Nat → Int32) (Wm : Nat → Nat → Int64) (fp : Nat → Int32) (fsu fsl : Nat → Int64) (ans : Int32) : Int32 × (Nat → Nat → Int64) × (Nat → Int32) × (Nat → Int64) × (Nat → Int64) × Int32 :=
  if (soL n n 0 1 (f_ks_copy E Wm n) fp).1 = 0 then (0, (soL n n 0 1 (f_ks_copy E Wm n) fp).2.1, (soL n n 0 1 (f_ks_copy E Wm n) fp).2.2, f_ks_keep (soL n n 0 1 (f_ks_copy E Wm n) fp).2.2 fsu fsl (soL n n 0 1 (f_ks_copy E Wm n) fp).2.1 n)
  else ((soL n n 0 1 (f_ks_copy E Wm n) fp).1, (soL n n 0 1 (f_ks_copy E Wm n) fp).2.1, (soL n n 0 1 (f_ks_copy E Wm n) fp).2.2, fsu, fsl, ans)
def f_ks_solve (ans : Int32) (fp : Nat → Int32) (fsu : Nat → Int64) (fsl : Nat → Int64) (E : Nat → Nat → Int32) (Wm : Nat → Nat → Int64) (size : Int32) : Int32 × (Nat → Nat → Int64) × (Nat → Int32) × (Nat → Int64) × (Nat → Int64) × Int32 :=
  if size < 1 then ((-1), Wm, fp, fsu, fsl, ans) else if size ≤ 4 then (f_ks_solveE size.toNatClampNeg E Wm fp fsu fsl ans) else ((-1), Wm, fp, fsu, fsl, ans)
set_option maxHeartbeats 4000000 in
set_option maxRecDepth 100000 in
theorem c_ks_solve (l : Launch) (dC : Nat → ClassId) (dI : Nat → Nat → Nat) (sz : Nat) (a_s : Nat) (e0 : Nat) (w0 : Nat) (pv : Nat) (su : Nat) (sl : Nat) (er : Nat → Nat) (wr : Nat → Nat) (ans : Int32) (cE : ClassId) (cW : ClassId) (cP : ClassId) (fp : Nat → Int32) (cSu : ClassId) (fsu : Nat → Int64) (cSl : ClassId) (fsl : Nat → Int64) (cI : ClassId) (E : Nat → Nat → Int32) (cJ : ClassId) (Wm : Nat → Nat → Int64) (size : Int32) : Met l y_ks_solve w_ks_solve ({ frames := 2, cells := 0, slots := 0, locals := 59 }) (va_Pc [.ref a_s, .int size] (fun U => U.heap.size = sz ∧ va_P (dC, dI) classes (ks_ws a_s e0 w0 pv su sl er wr cE cW cP cSu cSl cI cJ fp fsu fsl E Wm ans) U.heap ∧ va_K (dC, dI) classes [(cE, .array .int), (cW, .array .long), (cP, .int), (cSu, .long), (cSl, .long), (cI, .int), (cJ, .long)] U ∧ va_D (fun _ => True) (ks_ws a_s e0 w0 pv su sl er wr cE cW cP cSu cSl cI cJ fp fsu fsl E Wm ans) ∧ kt_N U)) (va_Qi (fun z9 u9 => (z9, u9) = f_ks_solve ans fp fsu fsl E Wm size) (fun (u : (Nat → Nat → Int64) × (Nat → Int32) × (Nat → Int64) × (Nat → Int64) × Int32) t => match u with | (Wm', fp', fsu', fsl', ans') => va_P (dC, dI) classes (ks_ws a_s e0 w0 pv su sl er wr cE cW cP cSu cSl cI cJ fp' fsu' fsl' E Wm' ans') t.heap ∧ va_K (dC, dI) classes [(cE, .array .int), (cW, .array .long), (cP, .int), (cSu, .long), (cSl, .long), (cI, .int), (cJ, .long)] t ∧ va_D (va_A (ks_ws a_s e0 w0 pv su sl er wr cE cW cP cSu cSl cI cJ fp fsu fsl E Wm ans) sz) (ks_ws a_s e0 w0 pv su sl er wr cE cW cP cSu cSl cI cJ fp' fsu' fsl' E Wm' ans')) (va_A (ks_ws a_s e0 w0 pv su sl er wr cE cW cP cSu cSl cI cJ fp fsu fsl E Wm ans) sz)) 0 0 (va_A (ks_ws a_s e0 w0 pv su sl er wr cE cW cP cSu cSl cI cJ fp fsu fsl E Wm ans) sz) := by
  refine Met.ofW (cc := b_ks_solve) (maxL := 7) (ret := (some .int)) (by decide +kernel) rfl ?_
  intro p e s m args below meth c s₁ B hml hv
  obtain ⟨rfl, hsz, hP, hK, hD0, hN⟩ := hv
  have hx := B.exec
  have hb := B.bytes
  have hr := B.returns
  have hts := atoms_spec (ws := w_ks_solve) B.pre
  have hT := fun (w : Cond) (h : w ∈ kt_T) => hts w (List.mem_cons_of_mem _ h)
  have hown : s.vm.findClass R_ks = some m.cls := findClass_of_methodNamed B.named
  have hlocks := B.notSynchronized
  subst hsz
  have hD := hD0.self (sz := s.heap.size)
  generalize hAe : va_A (ks_ws a_s e0 w0 pv su sl er wr cE cW cP cSu cSl cI cJ fp fsu fsl E Wm ans) s.heap.size = A at hD ⊢
  have hA : ∀ q : Nat, s.heap.size ≤ q → A q := fun q h => by rw [← hAe]; exact Or.inr h
  have hS : va_S A s.heap s.heap [] := va_S.rf
  have hl := lv_entry ([.ref a_s, .int size]) (n := 7) (Nat.le_of_ble_eq_true rfl)
  rw [lg_entry_eq]
  generalize (lg_sl ([.ref a_s, .int size]) ++ List.replicate (7 - (lg_sl ([.ref a_s, .int size])).length) Slot.unset).toArray = ls at hl ⊢
  have hl : lv_has ls 7 [(0, .ref a_s), (1, .int size)] := hl
  refine lv_iload_n hx hb d_ks_solve_0 rfl (lv_at hl 1 rfl) ?_
  refine lv_iconst (v := 1) hx hb d_ks_solve_1 (by decide) ?_
  refine lv_icmp_lt (tgt := 10) hx hb d_ks_solve_2 (by decide) (fun c_1 => ?_) (fun c_1 => ?_)
  · refine lv_iconst (v := (-1)) hx hb d_ks_solve_10 (by decide) ?_
    exact W.iret (v := (-1)) hx hb hr (fun t ht hW => ⟨⟨(-1), (Wm, fp, fsu, fsl, ans), rfl, by unfold f_ks_solve; rw [if_pos c_1], by rw [ht]; exact hP, va_K.moved hW.alike hK, hD⟩, hS.F ht⟩) hS.2.2 d_ks_solve_11
  · refine lv_iload_n hx hb d_ks_solve_5 rfl (lv_at hl 1 rfl) ?_
    refine lv_iconst (v := 4) hx hb d_ks_solve_6 (by decide) ?_
    refine lv_icmp_le (tgt := 12) hx hb d_ks_solve_7 (by decide) (fun c_2 => ?_) (fun c_2 => ?_)
    · obtain ⟨n, hn, rfl⟩ := size_n c_1 c_2
      refine lv_aload_n hx hb d_ks_solve_12 rfl (lv_at hl 0 rfl) ?_
      refine lv_iload_n hx hb d_ks_solve_13 rfl (lv_at hl 1 rfl) ?_
      have hPc := hP.sub (ws' := (ks_ws a_s e0 w0 pv su sl er wr cE cW cP cSu cSl cI cJ fp fsu fsl E Wm ans)) [0, 1, 2, 3, 4, 5, 6, 7, 8, 9, 10, 11, 12, 13] rfl
      have hKc := hK.sub (tys' := [(cE, .array .int), (cW, .array .long), (cP, .int), (cSu, .long), (cSl, .long), (cI, .int), (cJ, .long)]) [0, 1, 2, 3, 4, 5, 6] rfl
      have hDc := hD.sub (ws' := (ks_ws a_s e0 w0 pv su sl er wr cE cW cP cSu cSl cI cJ fp fsu fsl E Wm ans)) [0, 1, 2, 3, 4, 5, 6, 7, 8, 9, 10, 11, 12, 13] (by decide) rfl
      have hFc := va_free (wc := (ks_ws a_s e0 w0 pv su sl er wr cE cW cP cSu cSl cI cJ fp fsu fsl E Wm ans)) hD hS hA [0, 1, 2, 3, 4, 5, 6, 7, 8, 9, 10, 11, 12, 13] rfl
      refine va_callv (va_runV (As := [.int (nI n)]) (rest := []) ⟨hx, hb, hml, hown, hT⟩ (c_ks_copy l dC dI s.heap.size a_s e0 w0 pv su sl er wr ans cE cW cP fp cSu fsu cSl fsl cI E cJ Wm n hn) (cwV 1 hT (kt_V k_93 k_91 k_92 k_82 k_90) rfl rfl rfl (by decide +kernel) ⟨Nat.le_of_ble_eq_true rfl, Nat.le_of_ble_eq_true rfl⟩) ⟨bl_M, va_recv hKc hPc (ci := 2) (q0 := 0) rfl rfl, fun U hU hW => ⟨rfl, by rw [hU], by rw [hU]; exact hPc, va_K.moved hW.alike hKc, hDc.weaken (fun _ _ _ _ => trivial)⟩⟩ rfl rfl hl.1 rfl (lv_room (Nat.le_of_ble_eq_true rfl)) d_ks_solve_14 ⟨Nat.zero_le _, Nat.zero_le _⟩) hS (fun q _ h => hFc q h) hFc (fun u t H1 locs ht hvm hw hB hz1 hk1 hS => ?_)
      obtain ⟨Wm_3, rfl⟩ : ∃ z, z = u := ⟨_, rfl⟩
      obtain ⟨hP1, hK1, hD1⟩ := hB
      rw [ht] at hP1
      obtain ⟨hP, hD⟩ := va_join (wr := []) (w1 := (ks_ws a_s e0 w0 pv su sl er wr cE cW cP cSu cSl cI cJ fp fsu fsl E Wm_3 ans)) hP hD [0, 1, 2, 3, 4, 5, 6, 7, 8, 9, 10, 11, 12, 13] [] rfl rfl (by decide) (by decide) hk1 hFc hP1 hD1
      generalize H1 = H at hP hS ⊢
      have hP := hP.sub (ws' := (ks_ws a_s e0 w0 pv su sl er wr cE cW cP cSu cSl cI cJ fp fsu fsl E Wm_3 ans)) [0, 1, 2, 3, 4, 5, 6, 7, 8, 9, 10, 11, 12, 13] rfl
      have hD := hD.sub (ws' := (ks_ws a_s e0 w0 pv su sl er wr cE cW cP cSu cSl cI cJ fp fsu fsl E Wm_3 ans)) [0, 1, 2, 3, 4, 5, 6, 7, 8, 9, 10, 11, 12, 13] (by decide) rfl
      subst hw
      clear hP1 hK1 hD1 hk1 hz1 hFc hDc hPc hKc
      refine lv_lconst (v := 1) hx hb d_ks_solve_17 (by decide) ?_
      refine lv_lstore_n (lv' := [(2, .long 1), (0, .ref a_s), (1, .int (nI n))]) hx hb d_ks_solve_18 rfl hl (by decide) rfl (fun ls hl => ?_)
      refine lv_iconst (v := 0) hx hb d_ks_solve_19 (by decide) ?_
      refine lv_istore (lv' := [(4, .int 0), (2, .long 1), (0, .ref a_s), (1, .int (nI n))]) hx hb d_ks_solve_20 hl (by decide) rfl (fun ls hl => ?_)
      refine lp_ks_soL hx hb hml hown hT hA hK hN (Nat.le_of_ble_eq_true rfl) (Nat.le_of_ble_eq_true rfl) hn n 0 1 (f_ks_copy E Wm n) fp (Nat.zero_add _) (fun i hi => absurd hi (Nat.not_lt_zero i)) (fun Y P2 e9 hpv H locs ls hP hD hS hl => ?_) (fun v Y P2 hv e9 H locs ls hP hD hS hl => ?_) H locs ls hP hD hS (lv_sub hl [2, 3, 1, 0] rfl)
      · refine lv_aload_n hx hb d_ks_solve_107 rfl (lv_at hl 0 rfl) ?_
        refine lv_iload_n hx hb d_ks_solve_108 rfl (lv_at hl 1 rfl) ?_
        have hPc := hP.sub (ws' := (ks_ws a_s e0 w0 pv su sl er wr cE cW cP cSu cSl cI cJ P2 fsu fsl E Y ans)) [0, 1, 2, 3, 4, 5, 6, 7, 8, 9, 10, 11, 12, 13] rfl
        have hKc := hK.sub (tys' := [(cE, .array .int), (cW, .array .long), (cP, .int), (cSu, .long), (cSl, .long), (cI, .int), (cJ, .long)]) [0, 1, 2, 3, 4, 5, 6] rfl
        have hDc := hD.sub (ws' := (ks_ws a_s e0 w0 pv su sl er wr cE cW cP cSu cSl cI cJ P2 fsu fsl E Y ans)) [0, 1, 2, 3, 4, 5, 6, 7, 8, 9, 10, 11, 12, 13] (by decide) rfl
        have hFc := va_free (wc := (ks_ws a_s e0 w0 pv su sl er wr cE cW cP cSu cSl cI cJ P2 fsu fsl E Y ans)) hD hS hA [0, 1, 2, 3, 4, 5, 6, 7, 8, 9, 10, 11, 12, 13] rfl
        refine va_callv (va_runV (As := [.int (nI n)]) (rest := []) ⟨hx, hb, hml, hown, hT⟩ (c_ks_keep l dC dI H.size a_s e0 w0 pv su sl er wr ans cE cW cP P2 cSu fsu cSl fsl cI E cJ Y n hn hpv) (cwV 1 hT (kt_V k_97 k_95 k_96 k_82 k_94) rfl rfl rfl (by decide +kernel) ⟨Nat.le_of_ble_eq_true rfl, Nat.le_of_ble_eq_true rfl⟩) ⟨bl_MN, va_recv hKc hPc (ci := 2) (q0 := 0) rfl rfl, fun U hU hW => ⟨rfl, by rw [hU], by rw [hU]; exact hPc, va_K.moved hW.alike hKc, hDc.weaken (fun _ _ _ _ => trivial), kt_N.warm hW hN⟩⟩ rfl rfl hl.1 rfl (lv_room (Nat.le_of_ble_eq_true rfl)) d_ks_solve_109 ⟨Nat.zero_le _, Nat.zero_le _⟩) hS (fun q _ h => hFc q h) hFc (fun u t H1 locs ht hvm hw hB hz1 hk1 hS => ?_)
        obtain ⟨fsu_4, fsl_4, ans_4⟩ := u
        obtain ⟨hP1, hK1, hD1⟩ := hB
        rw [ht] at hP1
        obtain ⟨hP, hD⟩ := va_join (wr := []) (w1 := (ks_ws a_s e0 w0 pv su sl er wr cE cW cP cSu cSl cI cJ P2 fsu_4 fsl_4 E Y ans_4)) hP hD [0, 1, 2, 3, 4, 5, 6, 7, 8, 9, 10, 11, 12, 13] [] rfl rfl (by decide) (by decide) hk1 hFc hP1 hD1
        generalize H1 = H at hP hS ⊢
        have hP := hP.sub (ws' := (ks_ws a_s e0 w0 pv su sl er wr cE cW cP cSu cSl cI cJ P2 fsu_4 fsl_4 E Y ans_4)) [0, 1, 2, 3, 4, 5, 6, 7, 8, 9, 10, 11, 12, 13] rfl
        have hD := hD.sub (ws' := (ks_ws a_s e0 w0 pv su sl er wr cE cW cP cSu cSl cI cJ P2 fsu_4 fsl_4 E Y ans_4)) [0, 1, 2, 3, 4, 5, 6, 7, 8, 9, 10, 11, 12, 13] (by decide) rfl
        have e_fsu_4 : fsu_4 = (f_ks_keep P2 fsu fsl Y n).1 := congrArg (fun z => z.1) hw
        have e_fsl_4 : fsl_4 = (f_ks_keep P2 fsu fsl Y n).2.1 := congrArg (fun z => z.2.1) hw
        have e_ans_4 : ans_4 = (f_ks_keep P2 fsu fsl Y n).2.2 := congrArg (fun z => z.2.2) hw
        subst e_fsu_4 e_fsl_4 e_ans_4
        clear hP1 hK1 hD1 hk1 hz1 hFc hDc hPc hKc
        refine lv_iconst (v := 0) hx hb d_ks_solve_112 (by decide) ?_
        exact W.iret (v := 0) hx hb hr (fun t ht hW => ⟨⟨0, (Y, P2, (f_ks_keep P2 fsu fsl Y n).1, (f_ks_keep P2 fsu fsl Y n).2.1, (f_ks_keep P2 fsu fsl Y n).2.2), rfl, by unfold f_ks_solve; rw [if_neg c_1, if_pos c_2, nI_clamp (by omega)]; unfold f_ks_solveE; rw [e9]; rfl, by rw [ht]; exact hP, va_K.moved hW.alike hK, hD⟩, hS.F ht⟩) hS.2.2 d_ks_solve_113
      · exact W.iret (v := v) hx hb hr (fun t ht hW => ⟨⟨v, (Y, P2, fsu, fsl, ans), rfl, by unfold f_ks_solve; rw [if_neg c_1, if_pos c_2, nI_clamp (by omega)]; unfold f_ks_solveE; rw [e9]; exact (if_neg hv).symm, by rw [ht]; exact hP, va_K.moved hW.alike hK, hD⟩, hS.F ht⟩) hS.2.2 d_ks_solve_47
    · refine lv_iconst (v := (-1)) hx hb d_ks_solve_10 (by decide) ?_
      exact W.iret (v := (-1)) hx hb hr (fun t ht hW => ⟨⟨(-1), (Wm, fp, fsu, fsl, ans), rfl, by unfold f_ks_solve; rw [if_neg c_1, if_neg c_2], by rw [ht]; exact hP, va_K.moved hW.alike hK, hD⟩, hS.F ht⟩) hS.2.2 d_ks_solve_11
theorem zn_ks_setEntry (E : Nat → Nat → Int32) (i j v : Int32) : narrow .boolean (.int (f_ks_setEntry E i j v).1) = .int (f_ks_setEntry E i j v).1 := by
  unfold f_ks_setEntry
  repeat' split
  all_goals first | exact (rfl : narrow .boolean (.int 0) = .int 0) | exact (rfl : narrow .boolean (.int 1) = .int 1)
def f_kr_entry (E : Nat → Nat → Int32) (i : Int32) (j : Int32) (v : Int32) : Int32 × (Nat → Nat → Int32) :=
  (f_ks_setEntry E i j v)
set_option maxHeartbeats 4000000 in
set_option maxRecDepth 100000 in
theorem c_kr_entry (l : Launch) (dC : Nat → ClassId) (dI : Nat → Nat → Nat) (sz : Nat) (ak : Nat) (a_s : Nat) (e0 : Nat) (w0 : Nat) (pv : Nat) (su : Nat) (sl : Nat) (er : Nat → Nat) (wr : Nat → Nat) (kinds : Int32) (ac : Nat) (rowc : Int32) (a0 : Nat) (a_w : Nat) (ans : Int32) (cE : ClassId) (cW : ClassId) (cP : ClassId) (fp : Nat → Int32) (cSu : ClassId) (fsu : Nat → Int64) (cSl : ClassId) (fsl : Nat → Int64) (cI : ClassId) (E : Nat → Nat → Int32) (cJ : ClassId) (Wm : Nat → Nat → Int64) (i : Int32) (j : Int32) (v : Int32) : Met l y_kr_entry w_kr_entry ({ frames := 1, cells := 0, slots := 0, locals := 23 }) (va_Pc [.ref ak, .int i, .int j, .int v] (fun U => U.heap.size = sz ∧ va_P (dC, dI) classes ((ak, .inr (0, [.int kinds, .ref ac, .int rowc, .ref a0, .ref a_s, .ref a_w])) :: ks_ws a_s e0 w0 pv su sl er wr cE cW cP cSu cSl cI cJ fp fsu fsl E Wm ans) U.heap ∧ va_K (dC, dI) classes [(cE, .array .int), (cW, .array .long), (cP, .int), (cSu, .long), (cSl, .long), (cI, .int), (cJ, .long)] U ∧ va_D (fun _ => True) ((ak, .inr (0, [.int kinds, .ref ac, .int rowc, .ref a0, .ref a_s, .ref a_w])) :: ks_ws a_s e0 w0 pv su sl er wr cE cW cP cSu cSl cI cJ fp fsu fsl E Wm ans))) (va_Qi (fun z9 u9 => (z9, u9) = f_kr_entry E i j v) (fun (u : (Nat → Nat → Int32)) t => match u with | E' => va_P (dC, dI) classes ((ak, .inr (0, [.int kinds, .ref ac, .int rowc, .ref a0, .ref a_s, .ref a_w])) :: ks_ws a_s e0 w0 pv su sl er wr cE cW cP cSu cSl cI cJ fp fsu fsl E' Wm ans) t.heap ∧ va_K (dC, dI) classes [(cE, .array .int), (cW, .array .long), (cP, .int), (cSu, .long), (cSl, .long), (cI, .int), (cJ, .long)] t ∧ va_D (va_A ((ak, .inr (0, [.int kinds, .ref ac, .int rowc, .ref a0, .ref a_s, .ref a_w])) :: ks_ws a_s e0 w0 pv su sl er wr cE cW cP cSu cSl cI cJ fp fsu fsl E Wm ans) sz) ((ak, .inr (0, [.int kinds, .ref ac, .int rowc, .ref a0, .ref a_s, .ref a_w])) :: ks_ws a_s e0 w0 pv su sl er wr cE cW cP cSu cSl cI cJ fp fsu fsl E' Wm ans)) (va_A ((ak, .inr (0, [.int kinds, .ref ac, .int rowc, .ref a0, .ref a_s, .ref a_w])) :: ks_ws a_s e0 w0 pv su sl er wr cE cW cP cSu cSl cI cJ fp fsu fsl E Wm ans) sz)) 0 0 (va_A ((ak, .inr (0, [.int kinds, .ref ac, .int rowc, .ref a0, .ref a_s, .ref a_w])) :: ks_ws a_s e0 w0 pv su sl er wr cE cW cP cSu cSl cI cJ fp fsu fsl E Wm ans) sz) := by
  refine Met.ofW (cc := b_kr_entry) (maxL := 4) (ret := (some .boolean)) (by decide +kernel) rfl ?_
  intro p e s m args below meth c s₁ B hml hv
  obtain ⟨rfl, hsz, hP, hK, hD0⟩ := hv
  have hx := B.exec
  have hb := B.bytes
  have hr := B.returns
  have hts := atoms_spec (ws := w_kr_entry) B.pre
  have hT := fun (w : Cond) (h : w ∈ kt_T) => hts w (List.mem_cons_of_mem _ h)
  have hown : s.vm.findClass R_kr = some m.cls := findClass_of_methodNamed B.named
  have hlocks := B.notSynchronized
  subst hsz
  have hD := hD0.self (sz := s.heap.size)
  generalize hAe : va_A ((ak, .inr (0, [.int kinds, .ref ac, .int rowc, .ref a0, .ref a_s, .ref a_w])) :: ks_ws a_s e0 w0 pv su sl er wr cE cW cP cSu cSl cI cJ fp fsu fsl E Wm ans) s.heap.size = A at hD ⊢
  have hA : ∀ q : Nat, s.heap.size ≤ q → A q := fun q h => by rw [← hAe]; exact Or.inr h
  have hS : va_S A s.heap s.heap [] := va_S.rf
  have hl := lv_entry ([.ref ak, .int i, .int j, .int v]) (n := 4) (Nat.le_of_ble_eq_true rfl)
  rw [lg_entry_eq]
  generalize (lg_sl ([.ref ak, .int i, .int j, .int v]) ++ List.replicate (4 - (lg_sl ([.ref ak, .int i, .int j, .int v])).length) Slot.unset).toArray = ls at hl ⊢
  have hl : lv_has ls 4 [(0, .ref ak), (1, .int i), (2, .int j), (3, .int v)] := hl
  refine lv_aload_n hx hb d_kr_entry_0 rfl (lv_at hl 0 rfl) ?_
  refine va_get (D := (dC, dI)) (ci := 0) (v := .ref a_s) (C := R_kr) (T := F_kr) (N := 6) hx hb hT i_kr hown hK hP 0 rfl rfl 4 (by decide) (hT _ k_98) (fun _ h9 => h9) rfl d_kr_entry_1 ?_
  refine lv_iload_n hx hb d_kr_entry_4 rfl (lv_at hl 1 rfl) ?_
  refine lv_iload_n hx hb d_kr_entry_5 rfl (lv_at hl 2 rfl) ?_
  refine lv_iload_n hx hb d_kr_entry_6 rfl (lv_at hl 3 rfl) ?_
  have hPc := hP.sub (ws' := (ks_ws a_s e0 w0 pv su sl er wr cE cW cP cSu cSl cI cJ fp fsu fsl E Wm ans)) [1, 2, 3, 4, 5, 6, 7, 8, 9, 10, 11, 12, 13, 14] rfl
  have hKc := hK.sub (tys' := [(cE, .array .int), (cW, .array .long), (cP, .int), (cSu, .long), (cSl, .long), (cI, .int), (cJ, .long)]) [0, 1, 2, 3, 4, 5, 6] rfl
  have hDc := hD.sub (ws' := (ks_ws a_s e0 w0 pv su sl er wr cE cW cP cSu cSl cI cJ fp fsu fsl E Wm ans)) [1, 2, 3, 4, 5, 6, 7, 8, 9, 10, 11, 12, 13, 14] (by decide) rfl
  have hFc := va_free (wc := (ks_ws a_s e0 w0 pv su sl er wr cE cW cP cSu cSl cI cJ fp fsu fsl E Wm ans)) hD hS hA [1, 2, 3, 4, 5, 6, 7, 8, 9, 10, 11, 12, 13, 14] rfl
  refine va_calli (va_runV (As := [.int i, .int j, .int v]) (rest := []) ⟨hx, hb, hml, hown, hT⟩ (c_ks_setEntry l dC dI s.heap.size a_s e0 w0 pv su sl er wr ans cE cW cP fp cSu fsu cSl fsl cI E cJ Wm i j v) (cwV 3 hT (kt_V k_102 k_100 k_101 k_82 k_99) rfl rfl rfl (by decide +kernel) ⟨Nat.le_of_ble_eq_true rfl, Nat.le_of_ble_eq_true rfl⟩) ⟨bl_M, va_recv hKc hPc (ci := 2) (q0 := 0) rfl rfl, fun U hU hW => ⟨rfl, by rw [hU], by rw [hU]; exact hPc, va_K.moved hW.alike hKc, hDc.weaken (fun _ _ _ _ => trivial)⟩⟩ rfl rfl hl.1 rfl (lv_room (Nat.le_of_ble_eq_true rfl)) d_kr_entry_7 ⟨Nat.zero_le _, Nat.zero_le _⟩) hS (fun q _ h => hFc q h) hFc (fun r_1 u t H1 locs ht hvm hw hB hz1 hk1 hS => ?_)
  obtain ⟨E_1, rfl⟩ : ∃ z, z = u := ⟨_, rfl⟩
  obtain ⟨hP1, hK1, hD1⟩ := hB
  rw [ht] at hP1
  obtain ⟨hP, hD⟩ := va_join (wr := [(ak, .inr (0, [.int kinds, .ref ac, .int rowc, .ref a0, .ref a_s, .ref a_w]))]) (w1 := (ks_ws a_s e0 w0 pv su sl er wr cE cW cP cSu cSl cI cJ fp fsu fsl E_1 Wm ans)) hP hD [1, 2, 3, 4, 5, 6, 7, 8, 9, 10, 11, 12, 13, 14] [0] rfl rfl (by decide) (by decide) hk1 hFc hP1 hD1
  generalize H1 = H at hP hS ⊢
  have hP := hP.sub (ws' := ((ak, .inr (0, [.int kinds, .ref ac, .int rowc, .ref a0, .ref a_s, .ref a_w])) :: ks_ws a_s e0 w0 pv su sl er wr cE cW cP cSu cSl cI cJ fp fsu fsl E_1 Wm ans)) [0, 1, 2, 3, 4, 5, 6, 7, 8, 9, 10, 11, 12, 13, 14] rfl
  have hD := hD.sub (ws' := ((ak, .inr (0, [.int kinds, .ref ac, .int rowc, .ref a0, .ref a_s, .ref a_w])) :: ks_ws a_s e0 w0 pv su sl er wr cE cW cP cSu cSl cI cJ fp fsu fsl E_1 Wm ans)) [0, 1, 2, 3, 4, 5, 6, 7, 8, 9, 10, 11, 12, 13, 14] (by decide) rfl
  have e_r_1 : r_1 = (f_ks_setEntry E i j v).1 := congrArg (fun z => z.1) hw
  have e_E_1 : E_1 = (f_ks_setEntry E i j v).2 := congrArg (fun z => z.2) hw
  subst e_r_1 e_E_1
  clear hP1 hK1 hD1 hk1 hz1 hFc hDc hPc hKc
  exact W.zret (v := (f_ks_setEntry E i j v).1) hx hb hr (zn_ks_setEntry _ _ _ _) (fun t ht hW => ⟨⟨(f_ks_setEntry E i j v).1, (f_ks_setEntry E i j v).2, rfl, rfl, by rw [ht]; exact hP, va_K.moved hW.alike hK, hD⟩, hS.F ht⟩) hS.2.2 d_kr_entry_10
def f_kr_solve (ans : Int32) (fp : Nat → Int32) (fsu : Nat → Int64) (fsl : Nat → Int64) (E : Nat → Nat → Int32) (Wm : Nat → Nat → Int64) (size : Int32) : Int32 × (Nat → Nat → Int64) × (Nat → Int32) × (Nat → Int64) × (Nat → Int64) × Int32 :=
  (f_ks_solve ans fp fsu fsl E Wm size)
set_option maxHeartbeats 4000000 in
set_option maxRecDepth 100000 in
theorem c_kr_solve (l : Launch) (dC : Nat → ClassId) (dI : Nat → Nat → Nat) (sz : Nat) (ak : Nat) (a_s : Nat) (e0 : Nat) (w0 : Nat) (pv : Nat) (su : Nat) (sl : Nat) (er : Nat → Nat) (wr : Nat → Nat) (kinds : Int32) (ac : Nat) (rowc : Int32) (a0 : Nat) (a_w : Nat) (ans : Int32) (cE : ClassId) (cW : ClassId) (cP : ClassId) (fp : Nat → Int32) (cSu : ClassId) (fsu : Nat → Int64) (cSl : ClassId) (fsl : Nat → Int64) (cI : ClassId) (E : Nat → Nat → Int32) (cJ : ClassId) (Wm : Nat → Nat → Int64) (size : Int32) : Met l y_kr_solve w_kr_solve ({ frames := 3, cells := 0, slots := 0, locals := 85 }) (va_Pc [.ref ak, .int size] (fun U => U.heap.size = sz ∧ va_P (dC, dI) classes ((ak, .inr (0, [.int kinds, .ref ac, .int rowc, .ref a0, .ref a_s, .ref a_w])) :: ks_ws a_s e0 w0 pv su sl er wr cE cW cP cSu cSl cI cJ fp fsu fsl E Wm ans) U.heap ∧ va_K (dC, dI) classes [(cE, .array .int), (cW, .array .long), (cP, .int), (cSu, .long), (cSl, .long), (cI, .int), (cJ, .long)] U ∧ va_D (fun _ => True) ((ak, .inr (0, [.int kinds, .ref ac, .int rowc, .ref a0, .ref a_s, .ref a_w])) :: ks_ws a_s e0 w0 pv su sl er wr cE cW cP cSu cSl cI cJ fp fsu fsl E Wm ans) ∧ kt_N U)) (va_Qi (fun z9 u9 => (z9, u9) = f_kr_solve ans fp fsu fsl E Wm size) (fun (u : (Nat → Nat → Int64) × (Nat → Int32) × (Nat → Int64) × (Nat → Int64) × Int32) t => match u with | (Wm', fp', fsu', fsl', ans') => va_P (dC, dI) classes ((ak, .inr (0, [.int kinds, .ref ac, .int rowc, .ref a0, .ref a_s, .ref a_w])) :: ks_ws a_s e0 w0 pv su sl er wr cE cW cP cSu cSl cI cJ fp' fsu' fsl' E Wm' ans') t.heap ∧ va_K (dC, dI) classes [(cE, .array .int), (cW, .array .long), (cP, .int), (cSu, .long), (cSl, .long), (cI, .int), (cJ, .long)] t ∧ va_D (va_A ((ak, .inr (0, [.int kinds, .ref ac, .int rowc, .ref a0, .ref a_s, .ref a_w])) :: ks_ws a_s e0 w0 pv su sl er wr cE cW cP cSu cSl cI cJ fp fsu fsl E Wm ans) sz) ((ak, .inr (0, [.int kinds, .ref ac, .int rowc, .ref a0, .ref a_s, .ref a_w])) :: ks_ws a_s e0 w0 pv su sl er wr cE cW cP cSu cSl cI cJ fp' fsu' fsl' E Wm' ans')) (va_A ((ak, .inr (0, [.int kinds, .ref ac, .int rowc, .ref a0, .ref a_s, .ref a_w])) :: ks_ws a_s e0 w0 pv su sl er wr cE cW cP cSu cSl cI cJ fp fsu fsl E Wm ans) sz)) 0 0 (va_A ((ak, .inr (0, [.int kinds, .ref ac, .int rowc, .ref a0, .ref a_s, .ref a_w])) :: ks_ws a_s e0 w0 pv su sl er wr cE cW cP cSu cSl cI cJ fp fsu fsl E Wm ans) sz) := by
  refine Met.ofW (cc := b_kr_solve) (maxL := 2) (ret := (some .int)) (by decide +kernel) rfl ?_
  intro p e s m args below meth c s₁ B hml hv
  obtain ⟨rfl, hsz, hP, hK, hD0, hN⟩ := hv
  have hx := B.exec
  have hb := B.bytes
  have hr := B.returns
  have hts := atoms_spec (ws := w_kr_solve) B.pre
  have hT := fun (w : Cond) (h : w ∈ kt_T) => hts w (List.mem_cons_of_mem _ h)
  have hown : s.vm.findClass R_kr = some m.cls := findClass_of_methodNamed B.named
  have hlocks := B.notSynchronized
  subst hsz
  have hD := hD0.self (sz := s.heap.size)
  generalize hAe : va_A ((ak, .inr (0, [.int kinds, .ref ac, .int rowc, .ref a0, .ref a_s, .ref a_w])) :: ks_ws a_s e0 w0 pv su sl er wr cE cW cP cSu cSl cI cJ fp fsu fsl E Wm ans) s.heap.size = A at hD ⊢
  have hA : ∀ q : Nat, s.heap.size ≤ q → A q := fun q h => by rw [← hAe]; exact Or.inr h
  have hS : va_S A s.heap s.heap [] := va_S.rf
  have hl := lv_entry ([.ref ak, .int size]) (n := 2) (Nat.le_of_ble_eq_true rfl)
  rw [lg_entry_eq]
  generalize (lg_sl ([.ref ak, .int size]) ++ List.replicate (2 - (lg_sl ([.ref ak, .int size])).length) Slot.unset).toArray = ls at hl ⊢
  have hl : lv_has ls 2 [(0, .ref ak), (1, .int size)] := hl
  refine lv_aload_n hx hb d_kr_solve_0 rfl (lv_at hl 0 rfl) ?_
  refine va_get (D := (dC, dI)) (ci := 0) (v := .ref a_s) (C := R_kr) (T := F_kr) (N := 6) hx hb hT i_kr hown hK hP 0 rfl rfl 4 (by decide) (hT _ k_98) (fun _ h9 => h9) rfl d_kr_solve_1 ?_
  refine lv_iload_n hx hb d_kr_solve_4 rfl (lv_at hl 1 rfl) ?_
  have hPc := hP.sub (ws' := (ks_ws a_s e0 w0 pv su sl er wr cE cW cP cSu cSl cI cJ fp fsu fsl E Wm ans)) [1, 2, 3, 4, 5, 6, 7, 8, 9, 10, 11, 12, 13, 14] rfl
  have hKc := hK.sub (tys' := [(cE, .array .int), (cW, .array .long), (cP, .int), (cSu, .long), (cSl, .long), (cI, .int), (cJ, .long)]) [0, 1, 2, 3, 4, 5, 6] rfl
  have hDc := hD.sub (ws' := (ks_ws a_s e0 w0 pv su sl er wr cE cW cP cSu cSl cI cJ fp fsu fsl E Wm ans)) [1, 2, 3, 4, 5, 6, 7, 8, 9, 10, 11, 12, 13, 14] (by decide) rfl
  have hFc := va_free (wc := (ks_ws a_s e0 w0 pv su sl er wr cE cW cP cSu cSl cI cJ fp fsu fsl E Wm ans)) hD hS hA [1, 2, 3, 4, 5, 6, 7, 8, 9, 10, 11, 12, 13, 14] rfl
  refine va_calli (va_runV (As := [.int size]) (rest := []) ⟨hx, hb, hml, hown, hT⟩ (c_ks_solve l dC dI s.heap.size a_s e0 w0 pv su sl er wr ans cE cW cP fp cSu fsu cSl fsl cI E cJ Wm size) (cwV 1 hT (kt_V k_106 k_104 k_105 k_82 k_103) rfl rfl rfl (by decide +kernel) ⟨Nat.le_of_ble_eq_true rfl, Nat.le_of_ble_eq_true rfl⟩) ⟨bl_MN, va_recv hKc hPc (ci := 2) (q0 := 0) rfl rfl, fun U hU hW => ⟨rfl, by rw [hU], by rw [hU]; exact hPc, va_K.moved hW.alike hKc, hDc.weaken (fun _ _ _ _ => trivial), kt_N.warm hW hN⟩⟩ rfl rfl hl.1 rfl (lv_room (Nat.le_of_ble_eq_true rfl)) d_kr_solve_5 ⟨Nat.zero_le _, Nat.zero_le _⟩) hS (fun q _ h => hFc q h) hFc (fun r_1 u t H1 locs ht hvm hw hB hz1 hk1 hS => ?_)
  obtain ⟨Wm_1, fp_1, fsu_1, fsl_1, ans_1⟩ := u
  obtain ⟨hP1, hK1, hD1⟩ := hB
  rw [ht] at hP1
  obtain ⟨hP, hD⟩ := va_join (wr := [(ak, .inr (0, [.int kinds, .ref ac, .int rowc, .ref a0, .ref a_s, .ref a_w]))]) (w1 := (ks_ws a_s e0 w0 pv su sl er wr cE cW cP cSu cSl cI cJ fp_1 fsu_1 fsl_1 E Wm_1 ans_1)) hP hD [1, 2, 3, 4, 5, 6, 7, 8, 9, 10, 11, 12, 13, 14] [0] rfl rfl (by decide) (by decide) hk1 hFc hP1 hD1
  generalize H1 = H at hP hS ⊢
  have hP := hP.sub (ws' := ((ak, .inr (0, [.int kinds, .ref ac, .int rowc, .ref a0, .ref a_s, .ref a_w])) :: ks_ws a_s e0 w0 pv su sl er wr cE cW cP cSu cSl cI cJ fp_1 fsu_1 fsl_1 E Wm_1 ans_1)) [0, 1, 2, 3, 4, 5, 6, 7, 8, 9, 10, 11, 12, 13, 14] rfl
  have hD := hD.sub (ws' := ((ak, .inr (0, [.int kinds, .ref ac, .int rowc, .ref a0, .ref a_s, .ref a_w])) :: ks_ws a_s e0 w0 pv su sl er wr cE cW cP cSu cSl cI cJ fp_1 fsu_1 fsl_1 E Wm_1 ans_1)) [0, 1, 2, 3, 4, 5, 6, 7, 8, 9, 10, 11, 12, 13, 14] (by decide) rfl
  have e_r_1 : r_1 = (f_ks_solve ans fp fsu fsl E Wm size).1 := congrArg (fun z => z.1) hw
  have e_Wm_1 : Wm_1 = (f_ks_solve ans fp fsu fsl E Wm size).2.1 := congrArg (fun z => z.2.1) hw
  have e_fp_1 : fp_1 = (f_ks_solve ans fp fsu fsl E Wm size).2.2.1 := congrArg (fun z => z.2.2.1) hw
  have e_fsu_1 : fsu_1 = (f_ks_solve ans fp fsu fsl E Wm size).2.2.2.1 := congrArg (fun z => z.2.2.2.1) hw
  have e_fsl_1 : fsl_1 = (f_ks_solve ans fp fsu fsl E Wm size).2.2.2.2.1 := congrArg (fun z => z.2.2.2.2.1) hw
  have e_ans_1 : ans_1 = (f_ks_solve ans fp fsu fsl E Wm size).2.2.2.2.2 := congrArg (fun z => z.2.2.2.2.2) hw
  subst e_r_1 e_Wm_1 e_fp_1 e_fsu_1 e_fsl_1 e_ans_1
  clear hP1 hK1 hD1 hk1 hz1 hFc hDc hPc hKc
  exact W.iret (v := (f_ks_solve ans fp fsu fsl E Wm size).1) hx hb hr (fun t ht hW => ⟨⟨(f_ks_solve ans fp fsu fsl E Wm size).1, ((f_ks_solve ans fp fsu fsl E Wm size).2.1, (f_ks_solve ans fp fsu fsl E Wm size).2.2.1, (f_ks_solve ans fp fsu fsl E Wm size).2.2.2.1, (f_ks_solve ans fp fsu fsl E Wm size).2.2.2.2.1, (f_ks_solve ans fp fsu fsl E Wm size).2.2.2.2.2), rfl, rfl, by rw [ht]; exact hP, va_K.moved hW.alike hK, hD⟩, hS.F ht⟩) hS.2.2 d_kr_solve_8
theorem in_ans {ans k : Int32} (ha : vp_in ans 5) (h : ¬ f_ks_hasAnswer ans k = 0) : vp_in k 4 := by
  rw [vp_in_iff] at ha ⊢
  unfold f_ks_hasAnswer at h
  split at h
  · exact absurd rfl h
  · rename_i h1
    split at h
    · exact absurd rfl h
    · rename_i h2
      rw [Int32.lt_iff_toInt_lt, Int32.toInt_zero] at h1
      rw [Int32.le_iff_toInt_le] at h2
      omega
def f_kr_answer (ans : Int32) (fsu : Nat → Int64) (fsl : Nat → Int64) (k : Int32) (q : Int32) : Int64 :=
  if (f_ks_hasAnswer ans k) = 0 then (-9223372036854775808) else if (f_kr_isPart q) = 0 then (-9223372036854775808) else (f_ks_answerPart fsu fsl k q)
set_option maxHeartbeats 4000000 in
set_option maxRecDepth 100000 in
theorem c_kr_answer (l : Launch) (dC : Nat → ClassId) (dI : Nat → Nat → Nat) (ak : Nat) (a_s : Nat) (e0 : Nat) (w0 : Nat) (pv : Nat) (su : Nat) (sl : Nat) (er : Nat → Nat) (wr : Nat → Nat) (kinds : Int32) (ac : Nat) (rowc : Int32) (a0 : Nat) (a_w : Nat) (ans : Int32) (cE : ClassId) (cW : ClassId) (cP : ClassId) (fp : Nat → Int32) (cSu : ClassId) (fsu : Nat → Int64) (cSl : ClassId) (fsl : Nat → Int64) (cI : ClassId) (E : Nat → Nat → Int32) (cJ : ClassId) (Wm : Nat → Nat → Int64) (k : Int32) (q : Int32) (ha : vp_in ans 5) : Met l y_kr_answer w_kr_answer ({ frames := 1, cells := 0, slots := 0, locals := 22 }) (va_Pc [.ref ak, .int k, .int q] (fun U => va_P (dC, dI) classes ((ak, .inr (0, [.int kinds, .ref ac, .int rowc, .ref a0, .ref a_s, .ref a_w])) :: ks_ws a_s e0 w0 pv su sl er wr cE cW cP cSu cSl cI cJ fp fsu fsl E Wm ans) U.heap ∧ va_K (dC, dI) classes [(cE, .array .int), (cW, .array .long), (cP, .int), (cSu, .long), (cSl, .long), (cI, .int), (cJ, .long)] U)) (vp_Sl (fun z9 => z9 = f_kr_answer ans fsu fsl k q)) 0 0 (fun _ => False) := by
  refine Met.ofW (cc := b_kr_answer) (maxL := 3) (ret := (some .long)) (by decide +kernel) rfl ?_
  intro p e s m args below meth c s₁ B hml hv
  obtain ⟨rfl, hP, hK⟩ := hv
  have hx := B.exec
  have hb := B.bytes
  have hr := B.returns
  have hts := atoms_spec (ws := w_kr_answer) B.pre
  have hT := fun (w : Cond) (h : w ∈ kt_T) => hts w (List.mem_cons_of_mem _ h)
  have hown : s.vm.findClass R_kr = some m.cls := findClass_of_methodNamed B.named
  have hlocks := B.notSynchronized
  have hl := lv_entry ([.ref ak, .int k, .int q]) (n := 3) (Nat.le_of_ble_eq_true rfl)
  rw [lg_entry_eq]
  generalize (lg_sl ([.ref ak, .int k, .int q]) ++ List.replicate (3 - (lg_sl ([.ref ak, .int k, .int q])).length) Slot.unset).toArray = ls at hl ⊢
  have hl : lv_has ls 3 [(0, .ref ak), (1, .int k), (2, .int q)] := hl
  refine lv_aload_n hx hb d_kr_answer_0 rfl (lv_at hl 0 rfl) ?_
  refine va_get (D := (dC, dI)) (ci := 0) (v := .ref a_s) (C := R_kr) (T := F_kr) (N := 6) hx hb hT i_kr hown hK hP 0 rfl rfl 4 (by decide) (hT _ k_98) (fun _ h9 => h9) rfl d_kr_answer_1 ?_
  refine lv_iload_n hx hb d_kr_answer_4 rfl (lv_at hl 1 rfl) ?_
  have hPc := hP.sub (ws' := (ks_ws a_s e0 w0 pv su sl er wr cE cW cP cSu cSl cI cJ fp fsu fsl E Wm ans)) [1, 2, 3, 4, 5, 6, 7, 8, 9, 10, 11, 12, 13, 14] rfl
  have hKc := hK.sub (tys' := [(cE, .array .int), (cW, .array .long), (cP, .int), (cSu, .long), (cSl, .long), (cI, .int), (cJ, .long)]) [0, 1, 2, 3, 4, 5, 6] rfl
  refine vp_callSi (W.runV (As := [.int k]) (rest := []) ⟨hx, hb, hml, hown, hT⟩ (c_ks_hasAnswer l dC dI a_s e0 w0 pv su sl er wr ans cE cW cP fp cSu fsu cSl fsl cI E cJ Wm k) (cwV 1 hT (kt_V k_110 k_108 k_109 k_82 k_107) rfl rfl rfl (by decide +kernel) ⟨Nat.le_of_ble_eq_true rfl, Nat.le_of_ble_eq_true rfl⟩) ⟨bl_R, va_recv hKc hPc (ci := 2) (q0 := 0) rfl rfl, fun U hU hW => ⟨rfl, by rw [hU]; exact hPc, va_K.moved hW.alike hKc⟩⟩ rfl rfl hl.1 rfl (lv_room (Nat.le_of_ble_eq_true rfl)) d_kr_answer_5 ⟨Nat.zero_le _, Nat.zero_le _⟩) (fun r_1 e_r_1 => ?_)
  subst e_r_1
  refine lv_if_eq (tgt := 18) hx hb d_kr_answer_8 (by decide) (fun c_2 => ?_) (fun c_2 => ?_)
  · refine lv_ldc2 (v := (-9223372036854775808)) hx hb hown (hT _ k_37) d_kr_answer_18 ?_
    exact W.lret (v := (-9223372036854775808)) hx hb hr (fun t ht hW => ⟨_, rfl, by unfold f_kr_answer; rw [if_pos c_2], ht⟩) t_nil d_kr_answer_21
  · refine lv_iload_n hx hb d_kr_answer_11 rfl (lv_at hl 2 rfl) ?_
    refine vp_callSi (W.runS (As := [.int q]) (rest := []) ⟨hx, hb, hml, hown, hT⟩ (c_kr_isPart l q) (va_cwS 1 hT (kt_S k_51 k_50 k_11 k_49) rfl rfl rfl (by decide +kernel) ⟨Nat.le_of_ble_eq_true rfl, Nat.le_of_ble_eq_true rfl⟩) ⟨bl_S, fun U hU hW => ⟨rfl, trivial⟩⟩ rfl rfl hl.1 rfl (lv_room (Nat.le_of_ble_eq_true rfl)) d_kr_answer_12 ⟨Nat.zero_le _, Nat.zero_le _⟩) (fun r_3 e_r_3 => ?_)
    subst e_r_3
    refine lv_if_ne (tgt := 22) hx hb d_kr_answer_15 (by decide) (fun c_4 => ?_) (fun c_4 => ?_)
    · refine lv_aload_n hx hb d_kr_answer_22 rfl (lv_at hl 0 rfl) ?_
      refine va_get (D := (dC, dI)) (ci := 0) (v := .ref a_s) (C := R_kr) (T := F_kr) (N := 6) hx hb hT i_kr hown hK hP 0 rfl rfl 4 (by decide) (hT _ k_98) (fun _ h9 => h9) rfl d_kr_answer_23 ?_
      refine lv_iload_n hx hb d_kr_answer_26 rfl (lv_at hl 1 rfl) ?_
      refine lv_iload_n hx hb d_kr_answer_27 rfl (lv_at hl 2 rfl) ?_
      have hPc := hP.sub (ws' := (ks_ws a_s e0 w0 pv su sl er wr cE cW cP cSu cSl cI cJ fp fsu fsl E Wm ans)) [1, 2, 3, 4, 5, 6, 7, 8, 9, 10, 11, 12, 13, 14] rfl
      have hKc := hK.sub (tys' := [(cE, .array .int), (cW, .array .long), (cP, .int), (cSu, .long), (cSl, .long), (cI, .int), (cJ, .long)]) [0, 1, 2, 3, 4, 5, 6] rfl
      refine vp_callSl (W.runV (As := [.int k, .int q]) (rest := []) ⟨hx, hb, hml, hown, hT⟩ (c_ks_answerPart l dC dI a_s e0 w0 pv su sl er wr ans cE cW cP fp cSu fsu cSl fsl cI E cJ Wm k q (in_ans ha c_2)) (cwV 2 hT (kt_V k_114 k_112 k_113 k_82 k_111) rfl rfl rfl (by decide +kernel) ⟨Nat.le_of_ble_eq_true rfl, Nat.le_of_ble_eq_true rfl⟩) ⟨bl_R, va_recv hKc hPc (ci := 2) (q0 := 0) rfl rfl, fun U hU hW => ⟨rfl, by rw [hU]; exact hPc, va_K.moved hW.alike hKc⟩⟩ rfl rfl hl.1 rfl (lv_room (Nat.le_of_ble_eq_true rfl)) d_kr_answer_28 ⟨Nat.zero_le _, Nat.zero_le _⟩) (fun r_5 e_r_5 => ?_)
      subst e_r_5
      exact W.lret (v := f_ks_answerPart fsu fsl k q) hx hb hr (fun t ht hW => ⟨_, rfl, by unfold f_kr_answer; rw [if_neg c_2, if_neg c_4], ht⟩) t_nil d_kr_answer_31
    · refine lv_ldc2 (v := (-9223372036854775808)) hx hb hown (hT _ k_37) d_kr_answer_18 ?_
      exact W.lret (v := (-9223372036854775808)) hx hb hr (fun t ht hW => ⟨_, rfl, by unfold f_kr_answer; rw [if_neg c_2, if_pos c_4], ht⟩) t_nil d_kr_answer_21
end
section
abbrev b_kr_sum : ByteArray := prog_1_method_14_code
def y_kr_sum : MethodName := ⟨R_kr, "sum", "(I)I"⟩
def w_kr_sum : List Cond := .code y_kr_sum b_kr_sum 15 (some .int) :: kt_T
theorem d_kr_sum_0 : decode b_kr_sum 0 = .ok (.aload_n 0, 1) := by decide +kernel
theorem d_kr_sum_1 : decode b_kr_sum 1 = .ok (.iload_n 1, 1) := by decide +kernel
theorem d_kr_sum_2 : decode b_kr_sum 2 = .ok (.invokevirtual 108, 3) := by decide +kernel
theorem d_kr_sum_5 : decode b_kr_sum 5 = .ok (.ifCond .ne 5, 3) := by decide +kernel
theorem d_kr_sum_8 : decode b_kr_sum 8 = .ok (.iconst (-1), 1) := by decide +kernel
theorem d_kr_sum_9 : decode b_kr_sum 9 = .ok (.ireturn, 1) := by decide +kernel
theorem d_kr_sum_10 : decode b_kr_sum 10 = .ok (.iconst 0, 1) := by decide +kernel
theorem d_kr_sum_11 : decode b_kr_sum 11 = .ok (.istore_n 2, 1) := by decide +kernel
theorem d_kr_sum_12 : decode b_kr_sum 12 = .ok (.lconst 0, 1) := by decide +kernel
theorem d_kr_sum_13 : decode b_kr_sum 13 = .ok (.lstore_n 3, 1) := by decide +kernel
theorem d_kr_sum_14 : decode b_kr_sum 14 = .ok (.lconst 1, 1) := by decide +kernel
theorem d_kr_sum_15 : decode b_kr_sum 15 = .ok (.lstore 5, 2) := by decide +kernel
theorem d_kr_sum_17 : decode b_kr_sum 17 = .ok (.iconst 0, 1) := by decide +kernel
theorem d_kr_sum_18 : decode b_kr_sum 18 = .ok (.istore 7, 2) := by decide +kernel
theorem d_kr_sum_20 : decode b_kr_sum 20 = .ok (.iload 7, 2) := by decide +kernel
theorem d_kr_sum_22 : decode b_kr_sum 22 = .ok (.aload_n 0, 1) := by decide +kernel
theorem d_kr_sum_23 : decode b_kr_sum 23 = .ok (.getfield 9, 3) := by decide +kernel
theorem d_kr_sum_26 : decode b_kr_sum 26 = .ok (.if_icmp .ge 124, 3) := by decide +kernel
theorem d_kr_sum_29 : decode b_kr_sum 29 = .ok (.aload_n 0, 1) := by decide +kernel
theorem d_kr_sum_30 : decode b_kr_sum 30 = .ok (.getfield 13, 3) := by decide +kernel
theorem d_kr_sum_33 : decode b_kr_sum 33 = .ok (.iload_n 1, 1) := by decide +kernel
theorem d_kr_sum_34 : decode b_kr_sum 34 = .ok (.aload_n 0, 1) := by decide +kernel
theorem d_kr_sum_35 : decode b_kr_sum 35 = .ok (.getfield 9, 3) := by decide +kernel
theorem d_kr_sum_38 : decode b_kr_sum 38 = .ok (.imul, 1) := by decide +kernel
theorem d_kr_sum_39 : decode b_kr_sum 39 = .ok (.iload 7, 2) := by decide +kernel
theorem d_kr_sum_41 : decode b_kr_sum 41 = .ok (.iadd, 1) := by decide +kernel
theorem d_kr_sum_42 : decode b_kr_sum 42 = .ok (.iaload, 1) := by decide +kernel
theorem d_kr_sum_43 : decode b_kr_sum 43 = .ok (.istore 8, 2) := by decide +kernel
theorem d_kr_sum_45 : decode b_kr_sum 45 = .ok (.aload_n 0, 1) := by decide +kernel
theorem d_kr_sum_46 : decode b_kr_sum 46 = .ok (.getfield 29, 3) := by decide +kernel
theorem d_kr_sum_49 : decode b_kr_sum 49 = .ok (.iload 8, 2) := by decide +kernel
theorem d_kr_sum_51 : decode b_kr_sum 51 = .ok (.invokevirtual 58, 3) := by decide +kernel
theorem d_kr_sum_54 : decode b_kr_sum 54 = .ok (.ifCond .ne 6, 3) := by decide +kernel
theorem d_kr_sum_57 : decode b_kr_sum 57 = .ok (.goto 87, 3) := by decide +kernel
theorem d_kr_sum_60 : decode b_kr_sum 60 = .ok (.lload_n 3, 1) := by decide +kernel
theorem d_kr_sum_61 : decode b_kr_sum 61 = .ok (.aload_n 0, 1) := by decide +kernel
theorem d_kr_sum_62 : decode b_kr_sum 62 = .ok (.getfield 29, 3) := by decide +kernel
theorem d_kr_sum_65 : decode b_kr_sum 65 = .ok (.iload 8, 2) := by decide +kernel
theorem d_kr_sum_67 : decode b_kr_sum 67 = .ok (.invokevirtual 82, 3) := by decide +kernel
theorem d_kr_sum_70 : decode b_kr_sum 70 = .ok (.lmul, 1) := by decide +kernel
theorem d_kr_sum_71 : decode b_kr_sum 71 = .ok (.aload_n 0, 1) := by decide +kernel
theorem d_kr_sum_72 : decode b_kr_sum 72 = .ok (.getfield 29, 3) := by decide +kernel
theorem d_kr_sum_75 : decode b_kr_sum 75 = .ok (.iload 8, 2) := by decide +kernel
theorem d_kr_sum_77 : decode b_kr_sum 77 = .ok (.invokevirtual 78, 3) := by decide +kernel
theorem d_kr_sum_80 : decode b_kr_sum 80 = .ok (.lload 5, 2) := by decide +kernel
theorem d_kr_sum_82 : decode b_kr_sum 82 = .ok (.lmul, 1) := by decide +kernel
theorem d_kr_sum_83 : decode b_kr_sum 83 = .ok (.ladd, 1) := by decide +kernel
theorem d_kr_sum_84 : decode b_kr_sum 84 = .ok (.lstore 9, 2) := by decide +kernel
theorem d_kr_sum_86 : decode b_kr_sum 86 = .ok (.lload 5, 2) := by decide +kernel
theorem d_kr_sum_88 : decode b_kr_sum 88 = .ok (.aload_n 0, 1) := by decide +kernel
theorem d_kr_sum_89 : decode b_kr_sum 89 = .ok (.getfield 29, 3) := by decide +kernel
theorem d_kr_sum_92 : decode b_kr_sum 92 = .ok (.iload 8, 2) := by decide +kernel
theorem d_kr_sum_94 : decode b_kr_sum 94 = .ok (.invokevirtual 82, 3) := by decide +kernel
theorem d_kr_sum_97 : decode b_kr_sum 97 = .ok (.lmul, 1) := by decide +kernel
theorem d_kr_sum_98 : decode b_kr_sum 98 = .ok (.lstore 11, 2) := by decide +kernel
theorem d_kr_sum_100 : decode b_kr_sum 100 = .ok (.lload 9, 2) := by decide +kernel
theorem d_kr_sum_102 : decode b_kr_sum 102 = .ok (.lload 11, 2) := by decide +kernel
theorem d_kr_sum_104 : decode b_kr_sum 104 = .ok (.invokestatic 116, 3) := by decide +kernel
theorem d_kr_sum_107 : decode b_kr_sum 107 = .ok (.lstore 13, 2) := by decide +kernel
theorem d_kr_sum_109 : decode b_kr_sum 109 = .ok (.lload 13, 2) := by decide +kernel
theorem d_kr_sum_111 : decode b_kr_sum 111 = .ok (.lconst 0, 1) := by decide +kernel
theorem d_kr_sum_112 : decode b_kr_sum 112 = .ok (.lcmp, 1) := by decide +kernel
theorem d_kr_sum_113 : decode b_kr_sum 113 = .ok (.ifCond .ne 5, 3) := by decide +kernel
theorem d_kr_sum_116 : decode b_kr_sum 116 = .ok (.iconst (-1), 1) := by decide +kernel
theorem d_kr_sum_117 : decode b_kr_sum 117 = .ok (.ireturn, 1) := by decide +kernel
theorem d_kr_sum_118 : decode b_kr_sum 118 = .ok (.lload 9, 2) := by decide +kernel
theorem d_kr_sum_120 : decode b_kr_sum 120 = .ok (.lload 13, 2) := by decide +kernel
theorem d_kr_sum_122 : decode b_kr_sum 122 = .ok (.ldiv, 1) := by decide +kernel
theorem d_kr_sum_123 : decode b_kr_sum 123 = .ok (.lstore_n 3, 1) := by decide +kernel
theorem d_kr_sum_124 : decode b_kr_sum 124 = .ok (.lload 11, 2) := by decide +kernel
theorem d_kr_sum_126 : decode b_kr_sum 126 = .ok (.lload 13, 2) := by decide +kernel
theorem d_kr_sum_128 : decode b_kr_sum 128 = .ok (.ldiv, 1) := by decide +kernel
theorem d_kr_sum_129 : decode b_kr_sum 129 = .ok (.lstore 5, 2) := by decide +kernel
theorem d_kr_sum_131 : decode b_kr_sum 131 = .ok (.lload_n 3, 1) := by decide +kernel
theorem d_kr_sum_132 : decode b_kr_sum 132 = .ok (.lload 5, 2) := by decide +kernel
theorem d_kr_sum_134 : decode b_kr_sum 134 = .ok (.invokestatic 119, 3) := by decide +kernel
theorem d_kr_sum_137 : decode b_kr_sum 137 = .ok (.ifCond .ne 5, 3) := by decide +kernel
theorem d_kr_sum_140 : decode b_kr_sum 140 = .ok (.iconst (-1), 1) := by decide +kernel
theorem d_kr_sum_141 : decode b_kr_sum 141 = .ok (.ireturn, 1) := by decide +kernel
theorem d_kr_sum_142 : decode b_kr_sum 142 = .ok (.iconst 1, 1) := by decide +kernel
theorem d_kr_sum_143 : decode b_kr_sum 143 = .ok (.istore_n 2, 1) := by decide +kernel
theorem d_kr_sum_144 : decode b_kr_sum 144 = .ok (.iinc 7 1, 3) := by decide +kernel
theorem d_kr_sum_147 : decode b_kr_sum 147 = .ok (.goto (-127), 3) := by decide +kernel
theorem d_kr_sum_150 : decode b_kr_sum 150 = .ok (.iload_n 2, 1) := by decide +kernel
theorem d_kr_sum_151 : decode b_kr_sum 151 = .ok (.ifCond .eq 16, 3) := by decide +kernel
theorem d_kr_sum_154 : decode b_kr_sum 154 = .ok (.aload_n 0, 1) := by decide +kernel
theorem d_kr_sum_155 : decode b_kr_sum 155 = .ok (.getfield 29, 3) := by decide +kernel
theorem d_kr_sum_158 : decode b_kr_sum 158 = .ok (.lload_n 3, 1) := by decide +kernel
theorem d_kr_sum_159 : decode b_kr_sum 159 = .ok (.lload 5, 2) := by decide +kernel
theorem d_kr_sum_161 : decode b_kr_sum 161 = .ok (.invokevirtual 54, 3) := by decide +kernel
theorem d_kr_sum_164 : decode b_kr_sum 164 = .ok (.goto 4, 3) := by decide +kernel
theorem d_kr_sum_167 : decode b_kr_sum 167 = .ok (.iconst (-1), 1) := by decide +kernel
theorem d_kr_sum_168 : decode b_kr_sum 168 = .ok (.ireturn, 1) := by decide +kernel
theorem k_115 : (.fieldLink R_kr 13 "KilogramRows" "cells" "[I" : Cond) ∈ kt_T := List.mem_filter.mpr ⟨List.mem_of_getElem? (i := 103) (by decide +kernel), by decide +kernel⟩
theorem k_116 : (.methodLink R_kr 116 y_kr_gcd : Cond) ∈ kt_T := List.mem_filter.mpr ⟨List.mem_of_getElem? (i := 208) (by decide +kernel), by decide +kernel⟩
theorem k_117 : (.methodLink R_kr 119 y_kv_fits : Cond) ∈ kt_T := List.mem_filter.mpr ⟨List.mem_of_getElem? (i := 209) (by decide +kernel), by decide +kernel⟩
theorem k_118 : (.code y_kr_hasRow b_kr_hasRow 2 (some .boolean) : Cond) ∈ kt_T := List.mem_filter.mpr ⟨List.mem_of_getElem? (i := 207) (by decide +kernel), by decide +kernel⟩
theorem k_119 : (.instanceMethod y_kr_hasRow : Cond) ∈ kt_T := List.mem_filter.mpr ⟨List.mem_of_getElem? (i := 206) (by decide +kernel), by decide +kernel⟩
theorem k_120 : (.selects R_kr y_kr_hasRow y_kr_hasRow : Cond) ∈ kt_T := List.mem_filter.mpr ⟨List.mem_of_getElem? (i := 0) (by decide +kernel), by decide +kernel⟩
theorem k_121 : (.methodLink R_kr 108 y_kr_hasRow : Cond) ∈ kt_T := List.mem_filter.mpr ⟨List.mem_of_getElem? (i := 204) (by decide +kernel), by decide +kernel⟩
theorem in_row {row rowc : Int32} (hr0 : vp_in rowc 21) (h : ¬ f_kr_hasRow rowc row = 0) : ∃ r, r < 20 ∧ row = nI r := by
  refine vp_in_of ?_ (by decide)
  rw [vp_in_iff] at hr0 ⊢
  unfold f_kr_hasRow at h
  split at h
  · exact absurd rfl h
  · rename_i h1
    split at h
    · exact absurd rfl h
    · rename_i h2
      rw [Int32.lt_iff_toInt_lt, Int32.toInt_zero] at h1
      rw [Int32.le_iff_toInt_le] at h2
      omega
theorem in_kind {kind kinds : Int32} {nk : Nat} (hn : kinds = nI nk ∧ nk ≤ 16) (h : ¬ f_kr_hasKind kinds kind = 0) : ∃ k, k < nk ∧ kind = nI k := by
  unfold f_kr_hasKind at h
  split at h
  · exact absurd rfl h
  · rename_i h1
    split at h
    · exact absurd rfl h
    · rename_i h2
      obtain ⟨j, hj, rfl⟩ := nI_of h1
      rw [hn.1] at h2
      rcases Nat.lt_or_ge j nk with q | q
      · exact ⟨j, q, rfl⟩
      · exact absurd (nI_le q hj) h2
theorem in_cell {nk : Nat} {row kind kinds rowc : Int32} (hn : kinds = nI nk ∧ nk ≤ 16) (hr0 : vp_in rowc 21) (h : ¬ f_kr_hasRow rowc row = 0) (hk : ¬ f_kr_hasKind kinds kind = 0) : vp_in ((row * kinds) + kind) (20 * nk) := by
  obtain ⟨r, hr, e⟩ := in_row hr0 h
  obtain ⟨k, hk2, e2⟩ := in_kind hn hk
  rw [e, e2, hn.1, pk_mul, nI_add]
  have h1 : r * nk ≤ 19 * nk := Nat.mul_le_mul_right _ (by omega)
  exact vp_in_nI (by omega) (by omega)
/-- the sum of a row's values: n kinds are left, from j on; none: some sum on the way isn't so -/
def smL (cnt : Int32) (fu fl fc : Nat → Int32) (row kinds : Int32) : Nat → Nat → Int32 → Int64 → Int64 → Option (Int32 × Int64 × Int64)
  | 0, _, y, u, v => some (y, u, v)
  | n + 1, j, y, u, v =>
    if f_kv_has cnt (fc ((row * kinds) + (nI j)).toNatClampNeg) = 0 then smL cnt fu fl fc row kinds n (j + 1) y u v
    else if f_kr_gcd ((u * (f_kv_lower fl (fc ((row * kinds) + (nI j)).toNatClampNeg))) + ((f_kv_upper fu (fc ((row * kinds) + (nI j)).toNatClampNeg)) * v)) (v * (f_kv_lower fl (fc ((row * kinds) + (nI j)).toNatClampNeg))) = 0 then none
    else if f_kv_fits (((u * (f_kv_lower fl (fc ((row * kinds) + (nI j)).toNatClampNeg))) + ((f_kv_upper fu (fc ((row * kinds) + (nI j)).toNatClampNeg)) * v)) / (f_kr_gcd ((u * (f_kv_lower fl (fc ((row * kinds) + (nI j)).toNatClampNeg))) + ((f_kv_upper fu (fc ((row * kinds) + (nI j)).toNatClampNeg)) * v)) (v * (f_kv_lower fl (fc ((row * kinds) + (nI j)).toNatClampNeg))))) ((v * (f_kv_lower fl (fc ((row * kinds) + (nI j)).toNatClampNeg))) / (f_kr_gcd ((u * (f_kv_lower fl (fc ((row * kinds) + (nI j)).toNatClampNeg))) + ((f_kv_upper fu (fc ((row * kinds) + (nI j)).toNatClampNeg)) * v)) (v * (f_kv_lower fl (fc ((row * kinds) + (nI j)).toNatClampNeg))))) = 0 then none
    else smL cnt fu fl fc row kinds n (j + 1) 1 (((u * (f_kv_lower fl (fc ((row * kinds) + (nI j)).toNatClampNeg))) + ((f_kv_upper fu (fc ((row * kinds) + (nI j)).toNatClampNeg)) * v)) / (f_kr_gcd ((u * (f_kv_lower fl (fc ((row * kinds) + (nI j)).toNatClampNeg))) + ((f_kv_upper fu (fc ((row * kinds) + (nI j)).toNatClampNeg)) * v)) (v * (f_kv_lower fl (fc ((row * kinds) + (nI j)).toNatClampNeg))))) ((v * (f_kv_lower fl (fc ((row * kinds) + (nI j)).toNatClampNeg))) / (f_kr_gcd ((u * (f_kv_lower fl (fc ((row * kinds) + (nI j)).toNatClampNeg))) + ((f_kv_upper fu (fc ((row * kinds) + (nI j)).toNatClampNeg)) * v)) (v * (f_kv_lower fl (fc ((row * kinds) + (nI j)).toNatClampNeg)))))
theorem in_cellj {nk j : Nat} {row kinds rowc : Int32} (hn : kinds = nI nk ∧ nk ≤ 16) (hr0 : vp_in rowc 21) (h : ¬ f_kr_hasRow rowc row = 0) (hj : j < nk) : vp_in ((row * kinds) + (nI j)) (20 * nk) := by
  obtain ⟨r, hr, e⟩ := in_row hr0 h
  rw [e, hn.1, pk_mul, nI_add]
  have h1 : r * nk ≤ 19 * nk := Nat.mul_le_mul_right _ (by omega)
  exact vp_in_nI (by omega) (by omega)
set_option maxHeartbeats 4000000 in
theorem lp_kr_sum {p : Program} {l : Launch} {e : Env} {R : Room} {s : State} {m : MethodId} {args : Array Value} {below : List Frame} {meth : Method} {c : Code} {dC : Nat → ClassId} {dI : Nat → Nat → Nat} {A : Nat → Prop} {Q : State → Prop} {ak : Nat} {ac : Nat} {a0 : Nat} {a1 : Nat} {a2 : Nat} {kinds : Int32} {rowc : Int32} {a_s : Nat} {a_w : Nat} {cC : ClassId} {nk : Nat} {fc : Nat → Int32} {cnt : Int32} {cU : ClassId} {fu : Nat → Int32} {cL : ClassId} {fl : Nat → Int32} {row : Int32} (hx : p.tables.exec = Jvm.exec) (hb : c.code = b_kr_sum) (hml : c.maxLocals = 15) (hown : s.vm.findClass R_kr = some m.cls) (hT : ∀ w ∈ kt_T, w.before args s = true) (hA : ∀ q : Nat, s.heap.size ≤ q → A q) (hK : va_K (dC, dI) classes [(cC, .int), (cU, .int), (cL, .int)] s) (hN : kt_N s) (hRf : 1 ≤ R.frames) (hRl : 30 ≤ R.locals) (hP : va_P (dC, dI) classes [(ak, .inr (0, [.int kinds, .ref ac, .int rowc, .ref a0, .ref a_s, .ref a_w])), (ac, .inl (cC, (20 * nk), .inl fc)), (a0, .inr (1, [.ref a1, .ref a2, .int cnt])), (a1, .inl (cU, 300, .inl fu)), (a2, .inl (cL, 300, .inl fl))] s.heap) (hc : vp_in cnt 301) (hn : kinds = nI nk ∧ nk ≤ 16) (hr0 : vp_in rowc 21) (hrow : ¬ f_kr_hasRow rowc row = 0) :
    ∀ (n j : Nat) (y : Int32) (u v : Int64), j + n = nk → (∀ (y2 : Int32) (u2 v2 : Int64), (smL cnt fu fl fc row kinds n j y u v) = some (y2, u2, v2) → ∀ (ls : Array Slot), lv_has ls 15 [(0, .ref ak), (2, .int y2), (3, .long u2), (5, .long v2)] → W p l e R s m args below meth c s.heap [] 0 0 Q (F0 m 150 ls [])) → ((smL cnt fu fl fc row kinds n j y u v) = none → ∀ (pc9 : Nat), decode b_kr_sum pc9 = .ok (.ireturn, 1) → ∀ (ls : Array Slot), ls.size = 15 → W p l e R s m args below meth c s.heap [] 0 0 Q (F0 m pc9 ls [.int (-1)])) → ∀ (ls : Array Slot), lv_has ls 15 [(0, .ref ak), (1, .int row), (2, .int y), (3, .long u), (5, .long v), (7, .int (nI j))] → W p l e R s m args below meth c s.heap [] 0 0 Q (F0 m 20 ls []) := by
  intro n
  induction n with
  | zero =>
    intro j y u v hj hk hk1 ls hl
    refine lv_iload hx hb d_kr_sum_20 (lv_at hl 5 rfl) ?_
    refine lv_aload_n hx hb d_kr_sum_22 rfl (lv_at hl 0 rfl) ?_
    refine va_get (D := (dC, dI)) (ci := 0) (v := .int kinds) (C := R_kr) (T := F_kr) (N := 6) hx hb hT i_kr hown hK hP 0 rfl rfl 0 (by decide) (hT _ k_17) (fun _ h9 => h9) rfl d_kr_sum_23 ?_
    refine lv_icmp_ge (tgt := 150) hx hb d_kr_sum_26 (by decide) (fun c_1 => ?_) (fun c_1 => ?_)
    · exact hk y u v rfl ls (lv_sub hl [0, 2, 3, 4] rfl)
    · exact absurd (by rw [hn.1]; exact nI_le (show nk ≤ j by omega) (by omega)) c_1
  | succ n ih =>
    intro j y u v hj hk hk1 ls hl
    refine lv_iload hx hb d_kr_sum_20 (lv_at hl 5 rfl) ?_
    refine lv_aload_n hx hb d_kr_sum_22 rfl (lv_at hl 0 rfl) ?_
    refine va_get (D := (dC, dI)) (ci := 0) (v := .int kinds) (C := R_kr) (T := F_kr) (N := 6) hx hb hT i_kr hown hK hP 0 rfl rfl 0 (by decide) (hT _ k_17) (fun _ h9 => h9) rfl d_kr_sum_23 ?_
    refine lv_icmp_ge (tgt := 150) hx hb d_kr_sum_26 (by decide) (fun c_2 => ?_) (fun c_2 => ?_)
    · exact absurd c_2 (by rw [hn.1]; exact nI_ge (show j < nk by omega) (by omega))
    · refine lv_aload_n hx hb d_kr_sum_29 rfl (lv_at hl 0 rfl) ?_
      refine va_get (D := (dC, dI)) (ci := 0) (v := .ref ac) (C := R_kr) (T := F_kr) (N := 6) hx hb hT i_kr hown hK hP 0 rfl rfl 1 (by decide) (hT _ k_115) (fun _ h9 => h9) rfl d_kr_sum_30 ?_
      refine lv_iload_n hx hb d_kr_sum_33 rfl (lv_at hl 1 rfl) ?_
      refine lv_aload_n hx hb d_kr_sum_34 rfl (lv_at hl 0 rfl) ?_
      refine va_get (D := (dC, dI)) (ci := 0) (v := .int kinds) (C := R_kr) (T := F_kr) (N := 6) hx hb hT i_kr hown hK hP 0 rfl rfl 0 (by decide) (hT _ k_17) (fun _ h9 => h9) rfl d_kr_sum_35 ?_
      refine lv_imul hx hb d_kr_sum_38 ?_
      refine lv_iload hx hb d_kr_sum_39 (lv_at hl 5 rfl) ?_
      refine lv_iadd hx hb d_kr_sum_41 ?_
      refine va_iald hx hb hK hP 1 0 rfl rfl (in_cellj hn hr0 hrow (by omega)) d_kr_sum_42 ?_
      refine lv_istore (lv' := [(8, .int (fc (((row * kinds) + (nI j)).toNatClampNeg))), (0, .ref ak), (1, .int row), (2, .int y), (3, .long u), (5, .long v), (7, .int (nI j))]) hx hb d_kr_sum_43 hl (by decide) rfl (fun ls hl => ?_)
      refine lv_aload_n hx hb d_kr_sum_45 rfl (lv_at hl 1 rfl) ?_
      refine va_get (D := (dC, dI)) (ci := 0) (v := .ref a0) (C := R_kr) (T := F_kr) (N := 6) hx hb hT i_kr hown hK hP 0 rfl rfl 3 (by decide) (hT _ k_19) (fun _ h9 => h9) rfl d_kr_sum_46 ?_
      refine lv_iload hx hb d_kr_sum_49 (lv_at hl 0 rfl) ?_
      have hPc := hP.sub (ws' := [(a0, .inr (1, [.ref a1, .ref a2, .int cnt])), (a1, .inl (cU, 300, .inl fu)), (a2, .inl (cL, 300, .inl fl))]) [2, 3, 4] rfl
      have hKc := hK.sub (tys' := [(cU, .int), (cL, .int)]) [1, 2] rfl
      refine vp_callSi (W.runV (As := [.int (fc (((row * kinds) + (nI j)).toNatClampNeg))]) (rest := []) ⟨hx, hb, hml, hown, hT⟩ (c_kv_has l dC dI a0 a1 a2 cnt cU fu cL fl (fc (((row * kinds) + (nI j)).toNatClampNeg))) (cwV 1 hT (kt_V k_36 k_3 k_4 k_2 k_1) rfl rfl rfl (by decide +kernel) ⟨Nat.le_trans (Nat.le_of_ble_eq_true rfl) hRf, Nat.le_trans (Nat.le_of_ble_eq_true rfl) hRl⟩) ⟨bl_R, va_recv hKc hPc (ci := 1) (q0 := 0) rfl rfl, fun U hU hW => ⟨rfl, by rw [hU]; exact hPc, va_K.moved hW.alike hKc⟩⟩ rfl rfl hl.1 rfl (lv_room (Nat.le_of_ble_eq_true rfl)) d_kr_sum_51 ⟨Nat.zero_le _, Nat.zero_le _⟩) (fun r_3 e_r_3 => ?_)
      subst e_r_3
      refine lv_if_ne (tgt := 60) hx hb d_kr_sum_54 (by decide) (fun c_4 => ?_) (fun c_4 => ?_)
      · refine lv_lload_n hx hb d_kr_sum_60 rfl (lv_at hl 4 rfl) ?_
        refine lv_aload_n hx hb d_kr_sum_61 rfl (lv_at hl 1 rfl) ?_
        refine va_get (D := (dC, dI)) (ci := 0) (v := .ref a0) (C := R_kr) (T := F_kr) (N := 6) hx hb hT i_kr hown hK hP 0 rfl rfl 3 (by decide) (hT _ k_19) (fun _ h9 => h9) rfl d_kr_sum_62 ?_
        refine lv_iload hx hb d_kr_sum_65 (lv_at hl 0 rfl) ?_
        have hPc := hP.sub (ws' := [(a0, .inr (1, [.ref a1, .ref a2, .int cnt])), (a1, .inl (cU, 300, .inl fu)), (a2, .inl (cL, 300, .inl fl))]) [2, 3, 4] rfl
        have hKc := hK.sub (tys' := [(cU, .int), (cL, .int)]) [1, 2] rfl
        refine vp_callSl (W.runV (As := [.int (fc (((row * kinds) + (nI j)).toNatClampNeg))]) (rest := [.long u]) ⟨hx, hb, hml, hown, hT⟩ (c_kv_lower l dC dI a0 a1 a2 cnt cU fu cL fl (fc (((row * kinds) + (nI j)).toNatClampNeg)) (in_has hc c_4)) (cwV 1 hT (kt_V k_31 k_29 k_30 k_2 k_28) rfl rfl rfl (by decide +kernel) ⟨Nat.le_trans (Nat.le_of_ble_eq_true rfl) hRf, Nat.le_trans (Nat.le_of_ble_eq_true rfl) hRl⟩) ⟨bl_R, va_recv hKc hPc (ci := 1) (q0 := 0) rfl rfl, fun U hU hW => ⟨rfl, by rw [hU]; exact hPc, va_K.moved hW.alike hKc⟩⟩ rfl rfl hl.1 rfl (lv_room (Nat.le_of_ble_eq_true rfl)) d_kr_sum_67 ⟨Nat.zero_le _, Nat.zero_le _⟩) (fun r_5 e_r_5 => ?_)
        subst e_r_5
        refine lv_lmul hx hb d_kr_sum_70 ?_
        refine lv_aload_n hx hb d_kr_sum_71 rfl (lv_at hl 1 rfl) ?_
        refine va_get (D := (dC, dI)) (ci := 0) (v := .ref a0) (C := R_kr) (T := F_kr) (N := 6) hx hb hT i_kr hown hK hP 0 rfl rfl 3 (by decide) (hT _ k_19) (fun _ h9 => h9) rfl d_kr_sum_72 ?_
        refine lv_iload hx hb d_kr_sum_75 (lv_at hl 0 rfl) ?_
        have hPc := hP.sub (ws' := [(a0, .inr (1, [.ref a1, .ref a2, .int cnt])), (a1, .inl (cU, 300, .inl fu)), (a2, .inl (cL, 300, .inl fl))]) [2, 3, 4] rfl
        have hKc := hK.sub (tys' := [(cU, .int), (cL, .int)]) [1, 2] rfl
        refine vp_callSl (W.runV (As := [.int (fc (((row * kinds) + (nI j)).toNatClampNeg))]) (rest := [.long (u * (f_kv_lower fl (fc (((row * kinds) + (nI j)).toNatClampNeg))))]) ⟨hx, hb, hml, hown, hT⟩ (c_kv_upper l dC dI a0 a1 a2 cnt cU fu cL fl (fc (((row * kinds) + (nI j)).toNatClampNeg)) (in_has hc c_4)) (cwV 1 hT (kt_V k_27 k_25 k_26 k_2 k_24) rfl rfl rfl (by decide +kernel) ⟨Nat.le_trans (Nat.le_of_ble_eq_true rfl) hRf, Nat.le_trans (Nat.le_of_ble_eq_true rfl) hRl⟩) ⟨bl_R, va_recv hKc hPc (ci := 1) (q0 := 0) rfl rfl, fun U hU hW => ⟨rfl, by rw [hU]; exact hPc, va_K.moved hW.alike hKc⟩⟩ rfl rfl hl.1 rfl (lv_room (Nat.le_of_ble_eq_true rfl)) d_kr_sum_77 ⟨Nat.zero_le _, Nat.zero_le _⟩) (fun r_6 e_r_6 => ?_)
        subst e_r_6
        refine lv_lload hx hb d_kr_sum_80 (lv_at hl 5 rfl) ?_
        refine lv_lmul hx hb d_kr_sum_82 ?_
        refine lv_ladd hx hb d_kr_sum_83 ?_
        refine lv_lstore (lv' := [(9, .long ((u * (f_kv_lower fl (fc (((row * kinds) + (nI j)).toNatClampNeg)))) + ((f_kv_upper fu (fc (((row * kinds) + (nI j)).toNatClampNeg))) * v))), (8, .int (fc (((row * kinds) + (nI j)).toNatClampNeg))), (0, .ref ak), (1, .int row), (2, .int y), (3, .long u), (5, .long v), (7, .int (nI j))]) hx hb d_kr_sum_84 hl (by decide) rfl (fun ls hl => ?_)
        refine lv_lload hx hb d_kr_sum_86 (lv_at hl 6 rfl) ?_
        refine lv_aload_n hx hb d_kr_sum_88 rfl (lv_at hl 2 rfl) ?_
        refine va_get (D := (dC, dI)) (ci := 0) (v := .ref a0) (C := R_kr) (T := F_kr) (N := 6) hx hb hT i_kr hown hK hP 0 rfl rfl 3 (by decide) (hT _ k_19) (fun _ h9 => h9) rfl d_kr_sum_89 ?_
        refine lv_iload hx hb d_kr_sum_92 (lv_at hl 1 rfl) ?_
        have hPc := hP.sub (ws' := [(a0, .inr (1, [.ref a1, .ref a2, .int cnt])), (a1, .inl (cU, 300, .inl fu)), (a2, .inl (cL, 300, .inl fl))]) [2, 3, 4] rfl
        have hKc := hK.sub (tys' := [(cU, .int), (cL, .int)]) [1, 2] rfl
        refine vp_callSl (W.runV (As := [.int (fc (((row * kinds) + (nI j)).toNatClampNeg))]) (rest := [.long v]) ⟨hx, hb, hml, hown, hT⟩ (c_kv_lower l dC dI a0 a1 a2 cnt cU fu cL fl (fc (((row * kinds) + (nI j)).toNatClampNeg)) (in_has hc c_4)) (cwV 1 hT (kt_V k_31 k_29 k_30 k_2 k_28) rfl rfl rfl (by decide +kernel) ⟨Nat.le_trans (Nat.le_of_ble_eq_true rfl) hRf, Nat.le_trans (Nat.le_of_ble_eq_true rfl) hRl⟩) ⟨bl_R, va_recv hKc hPc (ci := 1) (q0 := 0) rfl rfl, fun U hU hW => ⟨rfl, by rw [hU]; exact hPc, va_K.moved hW.alike hKc⟩⟩ rfl rfl hl.1 rfl (lv_room (Nat.le_of_ble_eq_true rfl)) d_kr_sum_94 ⟨Nat.zero_le _, Nat.zero_le _⟩) (fun r_7 e_r_7 => ?_)
        subst e_r_7
        refine lv_lmul hx hb d_kr_sum_97 ?_
        refine lv_lstore (lv' := [(11, .long (v * (f_kv_lower fl (fc (((row * kinds) + (nI j)).toNatClampNeg))))), (9, .long ((u * (f_kv_lower fl (fc (((row * kinds) + (nI j)).toNatClampNeg)))) + ((f_kv_upper fu (fc (((row * kinds) + (nI j)).toNatClampNeg))) * v))), (8, .int (fc (((row * kinds) + (nI j)).toNatClampNeg))), (0, .ref ak), (1, .int row), (2, .int y), (3, .long u), (5, .long v), (7, .int (nI j))]) hx hb d_kr_sum_98 hl (by decide) rfl (fun ls hl => ?_)
        refine lv_lload hx hb d_kr_sum_100 (lv_at hl 1 rfl) ?_
        refine lv_lload hx hb d_kr_sum_102 (lv_at hl 0 rfl) ?_
        refine vp_callSl (W.runS (As := [.long ((u * (f_kv_lower fl (fc (((row * kinds) + (nI j)).toNatClampNeg)))) + ((f_kv_upper fu (fc (((row * kinds) + (nI j)).toNatClampNeg))) * v)), .long (v * (f_kv_lower fl (fc (((row * kinds) + (nI j)).toNatClampNeg))))]) (rest := []) ⟨hx, hb, hml, hown, hT⟩ (c_kr_gcd l ((u * (f_kv_lower fl (fc (((row * kinds) + (nI j)).toNatClampNeg)))) + ((f_kv_upper fu (fc (((row * kinds) + (nI j)).toNatClampNeg))) * v)) (v * (f_kv_lower fl (fc (((row * kinds) + (nI j)).toNatClampNeg))))) (va_cwS 2 hT (kt_S k_116 k_12 k_11 k_10) rfl rfl rfl (by decide +kernel) ⟨Nat.le_trans (Nat.le_of_ble_eq_true rfl) hRf, Nat.le_trans (Nat.le_of_ble_eq_true rfl) hRl⟩) ⟨bl_S, fun U hU hW => ⟨rfl, trivial⟩⟩ rfl rfl hl.1 rfl (lv_room (Nat.le_of_ble_eq_true rfl)) d_kr_sum_104 ⟨Nat.zero_le _, Nat.zero_le _⟩) (fun r_8 e_r_8 => ?_)
        subst e_r_8
        refine lv_lstore (lv' := [(13, .long (f_kr_gcd ((u * (f_kv_lower fl (fc (((row * kinds) + (nI j)).toNatClampNeg)))) + ((f_kv_upper fu (fc (((row * kinds) + (nI j)).toNatClampNeg))) * v)) (v * (f_kv_lower fl (fc (((row * kinds) + (nI j)).toNatClampNeg)))))), (11, .long (v * (f_kv_lower fl (fc (((row * kinds) + (nI j)).toNatClampNeg))))), (9, .long ((u * (f_kv_lower fl (fc (((row * kinds) + (nI j)).toNatClampNeg)))) + ((f_kv_upper fu (fc (((row * kinds) + (nI j)).toNatClampNeg))) * v))), (8, .int (fc (((row * kinds) + (nI j)).toNatClampNeg))), (0, .ref ak), (1, .int row), (2, .int y), (3, .long u), (5, .long v), (7, .int (nI j))]) hx hb d_kr_sum_107 hl (by decide) rfl (fun ls hl => ?_)
        refine lv_lload hx hb d_kr_sum_109 (lv_at hl 0 rfl) ?_
        refine lv_lconst (v := 0) hx hb d_kr_sum_111 (by decide) ?_
        refine lx_ifne (tgt := 118) hx hb d_kr_sum_112 d_kr_sum_113 (by decide) (fun c_9 => ?_) (fun c_9 => ?_)
        · refine lv_lload hx hb d_kr_sum_118 (lv_at hl 2 rfl) ?_
          refine lv_lload hx hb d_kr_sum_120 (lv_at hl 0 rfl) ?_
          refine lv_ldiv hx hb d_kr_sum_122 c_9 ?_
          refine lv_lstore_n (lv' := [(3, .long (((u * (f_kv_lower fl (fc (((row * kinds) + (nI j)).toNatClampNeg)))) + ((f_kv_upper fu (fc (((row * kinds) + (nI j)).toNatClampNeg))) * v)) / (f_kr_gcd ((u * (f_kv_lower fl (fc (((row * kinds) + (nI j)).toNatClampNeg)))) + ((f_kv_upper fu (fc (((row * kinds) + (nI j)).toNatClampNeg))) * v)) (v * (f_kv_lower fl (fc (((row * kinds) + (nI j)).toNatClampNeg))))))), (13, .long (f_kr_gcd ((u * (f_kv_lower fl (fc (((row * kinds) + (nI j)).toNatClampNeg)))) + ((f_kv_upper fu (fc (((row * kinds) + (nI j)).toNatClampNeg))) * v)) (v * (f_kv_lower fl (fc (((row * kinds) + (nI j)).toNatClampNeg)))))), (11, .long (v * (f_kv_lower fl (fc (((row * kinds) + (nI j)).toNatClampNeg))))), (9, .long ((u * (f_kv_lower fl (fc (((row * kinds) + (nI j)).toNatClampNeg)))) + ((f_kv_upper fu (fc (((row * kinds) + (nI j)).toNatClampNeg))) * v))), (8, .int (fc (((row * kinds) + (nI j)).toNatClampNeg))), (0, .ref ak), (1, .int row), (2, .int y), (5, .long v), (7, .int (nI j))]) hx hb d_kr_sum_123 rfl hl (by decide) rfl (fun ls hl => ?_)
          refine lv_lload hx hb d_kr_sum_124 (lv_at hl 2 rfl) ?_
          refine lv_lload hx hb d_kr_sum_126 (lv_at hl 1 rfl) ?_
          refine lv_ldiv hx hb d_kr_sum_128 c_9 ?_
          refine lv_lstore (lv' := [(5, .long ((v * (f_kv_lower fl (fc (((row * kinds) + (nI j)).toNatClampNeg)))) / (f_kr_gcd ((u * (f_kv_lower fl (fc (((row * kinds) + (nI j)).toNatClampNeg)))) + ((f_kv_upper fu (fc (((row * kinds) + (nI j)).toNatClampNeg))) * v)) (v * (f_kv_lower fl (fc (((row * kinds) + (nI j)).toNatClampNeg))))))), (3, .long (((u * (f_kv_lower fl (fc (((row * kinds) + (nI j)).toNatClampNeg)))) + ((f_kv_upper fu (fc (((row * kinds) + (nI j)).toNatClampNeg))) * v)) / (f_kr_gcd ((u * (f_kv_lower fl (fc (((row * kinds) + (nI j)).toNatClampNeg)))) + ((f_kv_upper fu (fc (((row * kinds) + (nI j)).toNatClampNeg))) * v)) (v * (f_kv_lower fl (fc (((row * kinds) + (nI j)).toNatClampNeg))))))), (13, .long (f_kr_gcd ((u * (f_kv_lower fl (fc (((row * kinds) + (nI j)).toNatClampNeg)))) + ((f_kv_upper fu (fc (((row * kinds) + (nI j)).toNatClampNeg))) * v)) (v * (f_kv_lower fl (fc (((row * kinds) + (nI j)).toNatClampNeg)))))), (11, .long (v * (f_kv_lower fl (fc (((row * kinds) + (nI j)).toNatClampNeg))))), (9, .long ((u * (f_kv_lower fl (fc (((row * kinds) + (nI j)).toNatClampNeg)))) + ((f_kv_upper fu (fc (((row * kinds) + (nI j)).toNatClampNeg))) * v))), (8, .int (fc (((row * kinds) + (nI j)).toNatClampNeg))), (0, .ref ak), (1, .int row), (2, .int y), (7, .int (nI j))]) hx hb d_kr_sum_129 hl (by decide) rfl (fun ls hl => ?_)
          refine lv_lload_n hx hb d_kr_sum_131 rfl (lv_at hl 1 rfl) ?_
          refine lv_lload hx hb d_kr_sum_132 (lv_at hl 0 rfl) ?_
          refine vp_callSi (W.runS (As := [.long (((u * (f_kv_lower fl (fc (((row * kinds) + (nI j)).toNatClampNeg)))) + ((f_kv_upper fu (fc (((row * kinds) + (nI j)).toNatClampNeg))) * v)) / (f_kr_gcd ((u * (f_kv_lower fl (fc (((row * kinds) + (nI j)).toNatClampNeg)))) + ((f_kv_upper fu (fc (((row * kinds) + (nI j)).toNatClampNeg))) * v)) (v * (f_kv_lower fl (fc (((row * kinds) + (nI j)).toNatClampNeg)))))), .long ((v * (f_kv_lower fl (fc (((row * kinds) + (nI j)).toNatClampNeg)))) / (f_kr_gcd ((u * (f_kv_lower fl (fc (((row * kinds) + (nI j)).toNatClampNeg)))) + ((f_kv_upper fu (fc (((row * kinds) + (nI j)).toNatClampNeg))) * v)) (v * (f_kv_lower fl (fc (((row * kinds) + (nI j)).toNatClampNeg))))))]) (rest := []) ⟨hx, hb, hml, hown, hT⟩ (c_kv_fits l (((u * (f_kv_lower fl (fc (((row * kinds) + (nI j)).toNatClampNeg)))) + ((f_kv_upper fu (fc (((row * kinds) + (nI j)).toNatClampNeg))) * v)) / (f_kr_gcd ((u * (f_kv_lower fl (fc (((row * kinds) + (nI j)).toNatClampNeg)))) + ((f_kv_upper fu (fc (((row * kinds) + (nI j)).toNatClampNeg))) * v)) (v * (f_kv_lower fl (fc (((row * kinds) + (nI j)).toNatClampNeg)))))) ((v * (f_kv_lower fl (fc (((row * kinds) + (nI j)).toNatClampNeg)))) / (f_kr_gcd ((u * (f_kv_lower fl (fc (((row * kinds) + (nI j)).toNatClampNeg)))) + ((f_kv_upper fu (fc (((row * kinds) + (nI j)).toNatClampNeg))) * v)) (v * (f_kv_lower fl (fc (((row * kinds) + (nI j)).toNatClampNeg))))))) (va_cwS 2 hT (kt_S k_117 k_14 k_2 k_13) rfl rfl rfl (by decide +kernel) ⟨Nat.le_trans (Nat.le_of_ble_eq_true rfl) hRf, Nat.le_trans (Nat.le_of_ble_eq_true rfl) hRl⟩) ⟨bl_S, fun U hU hW => ⟨rfl, trivial⟩⟩ rfl rfl hl.1 rfl (lv_room (Nat.le_of_ble_eq_true rfl)) d_kr_sum_134 ⟨Nat.zero_le _, Nat.zero_le _⟩) (fun r_10 e_r_10 => ?_)
          subst e_r_10
          refine lv_if_ne (tgt := 142) hx hb d_kr_sum_137 (by decide) (fun c_11 => ?_) (fun c_11 => ?_)
          · refine lv_iconst (v := 1) hx hb d_kr_sum_142 (by decide) ?_
            refine lv_istore_n (lv' := [(2, .int 1), (5, .long ((v * (f_kv_lower fl (fc (((row * kinds) + (nI j)).toNatClampNeg)))) / (f_kr_gcd ((u * (f_kv_lower fl (fc (((row * kinds) + (nI j)).toNatClampNeg)))) + ((f_kv_upper fu (fc (((row * kinds) + (nI j)).toNatClampNeg))) * v)) (v * (f_kv_lower fl (fc (((row * kinds) + (nI j)).toNatClampNeg))))))), (3, .long (((u * (f_kv_lower fl (fc (((row * kinds) + (nI j)).toNatClampNeg)))) + ((f_kv_upper fu (fc (((row * kinds) + (nI j)).toNatClampNeg))) * v)) / (f_kr_gcd ((u * (f_kv_lower fl (fc (((row * kinds) + (nI j)).toNatClampNeg)))) + ((f_kv_upper fu (fc (((row * kinds) + (nI j)).toNatClampNeg))) * v)) (v * (f_kv_lower fl (fc (((row * kinds) + (nI j)).toNatClampNeg))))))), (13, .long (f_kr_gcd ((u * (f_kv_lower fl (fc (((row * kinds) + (nI j)).toNatClampNeg)))) + ((f_kv_upper fu (fc (((row * kinds) + (nI j)).toNatClampNeg))) * v)) (v * (f_kv_lower fl (fc (((row * kinds) + (nI j)).toNatClampNeg)))))), (11, .long (v * (f_kv_lower fl (fc (((row * kinds) + (nI j)).toNatClampNeg))))), (9, .long ((u * (f_kv_lower fl (fc (((row * kinds) + (nI j)).toNatClampNeg)))) + ((f_kv_upper fu (fc (((row * kinds) + (nI j)).toNatClampNeg))) * v))), (8, .int (fc (((row * kinds) + (nI j)).toNatClampNeg))), (0, .ref ak), (1, .int row), (7, .int (nI j))]) hx hb d_kr_sum_143 rfl hl (by decide) rfl (fun ls hl => ?_)
            refine lv_iinc (v := (nI j) + 1) (lv' := [(7, .int ((nI j) + 1)), (2, .int 1), (5, .long ((v * (f_kv_lower fl (fc (((row * kinds) + (nI j)).toNatClampNeg)))) / (f_kr_gcd ((u * (f_kv_lower fl (fc (((row * kinds) + (nI j)).toNatClampNeg)))) + ((f_kv_upper fu (fc (((row * kinds) + (nI j)).toNatClampNeg))) * v)) (v * (f_kv_lower fl (fc (((row * kinds) + (nI j)).toNatClampNeg))))))), (3, .long (((u * (f_kv_lower fl (fc (((row * kinds) + (nI j)).toNatClampNeg)))) + ((f_kv_upper fu (fc (((row * kinds) + (nI j)).toNatClampNeg))) * v)) / (f_kr_gcd ((u * (f_kv_lower fl (fc (((row * kinds) + (nI j)).toNatClampNeg)))) + ((f_kv_upper fu (fc (((row * kinds) + (nI j)).toNatClampNeg))) * v)) (v * (f_kv_lower fl (fc (((row * kinds) + (nI j)).toNatClampNeg))))))), (13, .long (f_kr_gcd ((u * (f_kv_lower fl (fc (((row * kinds) + (nI j)).toNatClampNeg)))) + ((f_kv_upper fu (fc (((row * kinds) + (nI j)).toNatClampNeg))) * v)) (v * (f_kv_lower fl (fc (((row * kinds) + (nI j)).toNatClampNeg)))))), (11, .long (v * (f_kv_lower fl (fc (((row * kinds) + (nI j)).toNatClampNeg))))), (9, .long ((u * (f_kv_lower fl (fc (((row * kinds) + (nI j)).toNatClampNeg)))) + ((f_kv_upper fu (fc (((row * kinds) + (nI j)).toNatClampNeg))) * v))), (8, .int (fc (((row * kinds) + (nI j)).toNatClampNeg))), (0, .ref ak), (1, .int row)]) hx hb d_kr_sum_144 hl (k := 9) rfl rfl (by decide) rfl (fun ls hl => ?_)
            refine lv_goto (tgt := 20) hx hb d_kr_sum_147 (by decide) ?_
            exact ih (j + 1) _ _ _ (by omega) (by rw [smL, if_neg c_4, if_neg c_9, if_neg c_11] at hk; exact hk) (by rw [smL, if_neg c_4, if_neg c_9, if_neg c_11] at hk1; exact hk1) ls (by have h9 := lv_sub hl [8, 9, 1, 3, 2, 0] rfl; rw [nI_1] at h9; exact h9)
          · refine lv_iconst (v := (-1)) hx hb d_kr_sum_140 (by decide) ?_
            exact hk1 (by rw [smL, if_neg c_4, if_neg c_9, if_pos c_11]) 141 d_kr_sum_141 ls hl.1
        · refine lv_iconst (v := (-1)) hx hb d_kr_sum_116 (by decide) ?_
          exact hk1 (by rw [smL, if_neg c_4, if_pos c_9]) 117 d_kr_sum_117 ls hl.1
      · refine lv_goto (tgt := 144) hx hb d_kr_sum_57 (by decide) ?_
        refine lv_iinc (v := (nI j) + 1) (lv' := [(7, .int ((nI j) + 1)), (8, .int (fc (((row * kinds) + (nI j)).toNatClampNeg))), (0, .ref ak), (1, .int row), (2, .int y), (3, .long u), (5, .long v)]) hx hb d_kr_sum_144 hl (k := 6) rfl rfl (by decide) rfl (fun ls hl => ?_)
        refine lv_goto (tgt := 20) hx hb d_kr_sum_147 (by decide) ?_
        exact ih (j + 1) _ _ _ (by omega) (by rw [smL, if_pos c_4] at hk; exact hk) (by rw [smL, if_pos c_4] at hk1; exact hk1) ls (by have h9 := lv_sub hl [2, 3, 4, 5, 6, 0] rfl; rw [nI_1] at h9; exact h9)
def kr_sumE (cnt : Int32) (fu fl : Nat → Int32) (o : Option (Int32 × Int64 × Int64)) : Int32 × (Nat → Int32) × (Nat → Int32) × Int32 :=
  match o with
  | none => (-1, fu, fl, cnt)
  | some (y2, u2, v2) => if y2 = 0 then ((-1), fu, fl, cnt) else (f_kv_keep cnt fu fl u2 v2)
def f_kr_sum (kinds : Int32) (rowc : Int32) (nk : Nat) (fc : Nat → Int32) (cnt : Int32) (fu : Nat → Int32) (fl : Nat → Int32) (row : Int32) : Int32 × (Nat → Int32) × (Nat → Int32) × Int32 :=
  if (f_kr_hasRow rowc row) = 0 then ((-1), fu, fl, cnt) else (kr_sumE cnt fu fl (smL cnt fu fl fc row kinds nk 0 0 0 1))
set_option maxHeartbeats 4000000 in
set_option maxRecDepth 100000 in
theorem c_kr_sum (l : Launch) (dC : Nat → ClassId) (dI : Nat → Nat → Nat) (sz : Nat) (ak : Nat) (ac : Nat) (a0 : Nat) (a1 : Nat) (a2 : Nat) (kinds : Int32) (rowc : Int32) (a_s : Nat) (a_w : Nat) (cC : ClassId) (nk : Nat) (fc : Nat → Int32) (cnt : Int32) (cU : ClassId) (fu : Nat → Int32) (cL : ClassId) (fl : Nat → Int32) (row : Int32) (hc : vp_in cnt 301) (hn : kinds = nI nk ∧ nk ≤ 16) (hr0 : vp_in rowc 21) : Met l y_kr_sum w_kr_sum ({ frames := 2, cells := 0, slots := 0, locals := 60 }) (va_Pc [.ref ak, .int row] (fun U => U.heap.size = sz ∧ va_P (dC, dI) classes [(ak, .inr (0, [.int kinds, .ref ac, .int rowc, .ref a0, .ref a_s, .ref a_w])), (ac, .inl (cC, (20 * nk), .inl fc)), (a0, .inr (1, [.ref a1, .ref a2, .int cnt])), (a1, .inl (cU, 300, .inl fu)), (a2, .inl (cL, 300, .inl fl))] U.heap ∧ va_K (dC, dI) classes [(cC, .int), (cU, .int), (cL, .int)] U ∧ va_D (fun _ => True) [(ak, .inr (0, [.int kinds, .ref ac, .int rowc, .ref a0, .ref a_s, .ref a_w])), (ac, .inl (cC, (20 * nk), .inl fc)), (a0, .inr (1, [.ref a1, .ref a2, .int cnt])), (a1, .inl (cU, 300, .inl fu)), (a2, .inl (cL, 300, .inl fl))] ∧ kt_N U)) (va_Qi (fun z9 u9 => (z9, u9) = f_kr_sum kinds rowc nk fc cnt fu fl row) (fun (u : (Nat → Int32) × (Nat → Int32) × Int32) t => match u with | (fu', fl', cnt') => va_P (dC, dI) classes [(ak, .inr (0, [.int kinds, .ref ac, .int rowc, .ref a0, .ref a_s, .ref a_w])), (ac, .inl (cC, (20 * nk), .inl fc)), (a0, .inr (1, [.ref a1, .ref a2, .int cnt'])), (a1, .inl (cU, 300, .inl fu')), (a2, .inl (cL, 300, .inl fl'))] t.heap ∧ va_K (dC, dI) classes [(cC, .int), (cU, .int), (cL, .int)] t ∧ va_D (va_A [(ak, .inr (0, [.int kinds, .ref ac, .int rowc, .ref a0, .ref a_s, .ref a_w])), (ac, .inl (cC, (20 * nk), .inl fc)), (a0, .inr (1, [.ref a1, .ref a2, .int cnt])), (a1, .inl (cU, 300, .inl fu)), (a2, .inl (cL, 300, .inl fl))] sz) [(ak, .inr (0, [.int kinds, .ref ac, .int rowc, .ref a0, .ref a_s, .ref a_w])), (ac, .inl (cC, (20 * nk), .inl fc)), (a0, .inr (1, [.ref a1, .ref a2, .int cnt'])), (a1, .inl (cU, 300, .inl fu')), (a2, .inl (cL, 300, .inl fl'))]) (va_A [(ak, .inr (0, [.int kinds, .ref ac, .int rowc, .ref a0, .ref a_s, .ref a_w])), (ac, .inl (cC, (20 * nk), .inl fc)), (a0, .inr (1, [.ref a1, .ref a2, .int cnt])), (a1, .inl (cU, 300, .inl fu)), (a2, .inl (cL, 300, .inl fl))] sz)) 0 0 (va_A [(ak, .inr (0, [.int kinds, .ref ac, .int rowc, .ref a0, .ref a_s, .ref a_w])), (ac, .inl (cC, (20 * nk), .inl fc)), (a0, .inr (1, [.ref a1, .ref a2, .int cnt])), (a1, .inl (cU, 300, .inl fu)), (a2, .inl (cL, 300, .inl fl))] sz) := by
  refine Met.ofW (cc := b_kr_sum) (maxL := 15) (ret := (some .int)) (by decide +kernel) rfl ?_
  intro p e s m args below meth c s₁ B hml hv
  obtain ⟨rfl, hsz, hP, hK, hD0, hN⟩ := hv
  have hx := B.exec
  have hb := B.bytes
  have hr := B.returns
  have hts := atoms_spec (ws := w_kr_sum) B.pre
  have hT := fun (w : Cond) (h : w ∈ kt_T) => hts w (List.mem_cons_of_mem _ h)
  have hown : s.vm.findClass R_kr = some m.cls := findClass_of_methodNamed B.named
  have hlocks := B.notSynchronized
  subst hsz
  have hD := hD0.self (sz := s.heap.size)
  generalize hAe : va_A [(ak, .inr (0, [.int kinds, .ref ac, .int rowc, .ref a0, .ref a_s, .ref a_w])), (ac, .inl (cC, (20 * nk), .inl fc)), (a0, .inr (1, [.ref a1, .ref a2, .int cnt])), (a1, .inl (cU, 300, .inl fu)), (a2, .inl (cL, 300, .inl fl))] s.heap.size = A at hD ⊢
  have hA : ∀ q : Nat, s.heap.size ≤ q → A q := fun q h => by rw [← hAe]; exact Or.inr h
  have hS : va_S A s.heap s.heap [] := va_S.rf
  have hl := lv_entry ([.ref ak, .int row]) (n := 15) (Nat.le_of_ble_eq_true rfl)
  rw [lg_entry_eq]
  generalize (lg_sl ([.ref ak, .int row]) ++ List.replicate (15 - (lg_sl ([.ref ak, .int row])).length) Slot.unset).toArray = ls at hl ⊢
  have hl : lv_has ls 15 [(0, .ref ak), (1, .int row)] := hl
  refine lv_aload_n hx hb d_kr_sum_0 rfl (lv_at hl 0 rfl) ?_
  refine lv_iload_n hx hb d_kr_sum_1 rfl (lv_at hl 1 rfl) ?_
  have hPc := hP.sub (ws' := [(ak, .inr (0, [.int kinds, .ref ac, .int rowc, .ref a0, .ref a_s, .ref a_w]))]) [0] rfl
  have hKc := hK.sub (tys' := []) [] rfl
  refine vp_callSi (W.runV (As := [.int row]) (rest := []) ⟨hx, hb, hml, hown, hT⟩ (c_kr_hasRow l dC dI ak kinds ac rowc a0 a_s a_w row) (cwV 1 hT (kt_V k_121 k_119 k_120 k_11 k_118) rfl rfl rfl (by decide +kernel) ⟨Nat.le_of_ble_eq_true rfl, Nat.le_of_ble_eq_true rfl⟩) ⟨bl_R, va_recv hKc hPc (ci := 0) (q0 := 0) rfl rfl, fun U hU hW => ⟨rfl, by rw [hU]; exact hPc, va_K.moved hW.alike hKc⟩⟩ rfl rfl hl.1 rfl (lv_room (Nat.le_of_ble_eq_true rfl)) d_kr_sum_2 ⟨Nat.zero_le _, Nat.zero_le _⟩) (fun r_1 e_r_1 => ?_)
  subst e_r_1
  refine lv_if_ne (tgt := 10) hx hb d_kr_sum_5 (by decide) (fun c_2 => ?_) (fun c_2 => ?_)
  · refine lv_iconst (v := 0) hx hb d_kr_sum_10 (by decide) ?_
    refine lv_istore_n (lv' := [(2, .int 0), (0, .ref ak), (1, .int row)]) hx hb d_kr_sum_11 rfl hl (by decide) rfl (fun ls hl => ?_)
    refine lv_lconst (v := 0) hx hb d_kr_sum_12 (by decide) ?_
    refine lv_lstore_n (lv' := [(3, .long 0), (2, .int 0), (0, .ref ak), (1, .int row)]) hx hb d_kr_sum_13 rfl hl (by decide) rfl (fun ls hl => ?_)
    refine lv_lconst (v := 1) hx hb d_kr_sum_14 (by decide) ?_
    refine lv_lstore (lv' := [(5, .long 1), (3, .long 0), (2, .int 0), (0, .ref ak), (1, .int row)]) hx hb d_kr_sum_15 hl (by decide) rfl (fun ls hl => ?_)
    refine lv_iconst (v := 0) hx hb d_kr_sum_17 (by decide) ?_
    refine lv_istore (lv' := [(7, .int 0), (5, .long 1), (3, .long 0), (2, .int 0), (0, .ref ak), (1, .int row)]) hx hb d_kr_sum_18 hl (by decide) rfl (fun ls hl => ?_)
    refine lp_kr_sum hx hb hml hown hT hA hK hN (Nat.le_of_ble_eq_true rfl) (Nat.le_of_ble_eq_true rfl) hP hc hn hr0 c_2 nk 0 0 0 1 (Nat.zero_add _) (fun y2 u2 v2 e9 ls hl => ?_) (fun e9 pc9 d9 ls hl => ?_) ls (lv_sub hl [4, 5, 3, 2, 1, 0] rfl)
    · refine lv_iload_n hx hb d_kr_sum_150 rfl (lv_at hl 1 rfl) ?_
      refine lv_if_eq (tgt := 167) hx hb d_kr_sum_151 (by decide) (fun c_3 => ?_) (fun c_3 => ?_)
      · refine lv_iconst (v := (-1)) hx hb d_kr_sum_167 (by decide) ?_
        exact W.iret (v := (-1)) hx hb hr (fun t ht hW => ⟨⟨(-1), (fu, fl, cnt), rfl, by unfold f_kr_sum; rw [if_neg c_2]; unfold kr_sumE; rw [e9]; dsimp only; rw [if_pos c_3], by rw [ht]; exact hP, va_K.moved hW.alike hK, hD⟩, hS.F ht⟩) hS.2.2 d_kr_sum_168
      · refine lv_aload_n hx hb d_kr_sum_154 rfl (lv_at hl 0 rfl) ?_
        refine va_get (D := (dC, dI)) (ci := 0) (v := .ref a0) (C := R_kr) (T := F_kr) (N := 6) hx hb hT i_kr hown hK hP 0 rfl rfl 3 (by decide) (hT _ k_19) (fun _ h9 => h9) rfl d_kr_sum_155 ?_
        refine lv_lload_n hx hb d_kr_sum_158 rfl (lv_at hl 2 rfl) ?_
        refine lv_lload hx hb d_kr_sum_159 (lv_at hl 3 rfl) ?_
        have hPc := hP.sub (ws' := [(a0, .inr (1, [.ref a1, .ref a2, .int cnt])), (a1, .inl (cU, 300, .inl fu)), (a2, .inl (cL, 300, .inl fl))]) [2, 3, 4] rfl
        have hKc := hK.sub (tys' := [(cU, .int), (cL, .int)]) [1, 2] rfl
        have hDc := hD.sub (ws' := [(a0, .inr (1, [.ref a1, .ref a2, .int cnt])), (a1, .inl (cU, 300, .inl fu)), (a2, .inl (cL, 300, .inl fl))]) [2, 3, 4] (by decide) rfl
        have hFc := va_free (wc := [(a0, .inr (1, [.ref a1, .ref a2, .int cnt])), (a1, .inl (cU, 300, .inl fu)), (a2, .inl (cL, 300, .inl fl))]) hD hS hA [2, 3, 4] rfl
        refine va_calli (va_runV (As := [.long u2, .long v2]) (rest := []) ⟨hx, hb, hml, hown, hT⟩ (c_kv_keep l dC dI s.heap.size a0 a1 a2 cnt cU fu cL fl u2 v2 hc) (cwV 2 hT (kt_V k_35 k_33 k_34 k_2 k_32) rfl rfl rfl (by decide +kernel) ⟨Nat.le_of_ble_eq_true rfl, Nat.le_of_ble_eq_true rfl⟩) ⟨bl_MN, va_recv hKc hPc (ci := 1) (q0 := 0) rfl rfl, fun U hU hW => ⟨rfl, by rw [hU], by rw [hU]; exact hPc, va_K.moved hW.alike hKc, hDc.weaken (fun _ _ _ _ => trivial), kt_N.warm hW hN⟩⟩ rfl rfl hl.1 rfl (lv_room (Nat.le_of_ble_eq_true rfl)) d_kr_sum_161 ⟨Nat.zero_le _, Nat.zero_le _⟩) hS (fun q _ h => hFc q h) hFc (fun r_4 u t H1 locs ht hvm hw hB hz1 hk1 hS => ?_)
        obtain ⟨fu_4, fl_4, cnt_4⟩ := u
        obtain ⟨hP1, hK1, hD1⟩ := hB
        rw [ht] at hP1
        obtain ⟨hP, hD⟩ := va_join (wr := [(ak, .inr (0, [.int kinds, .ref ac, .int rowc, .ref a0, .ref a_s, .ref a_w])), (ac, .inl (cC, (20 * nk), .inl fc))]) (w1 := [(a0, .inr (1, [.ref a1, .ref a2, .int cnt_4])), (a1, .inl (cU, 300, .inl fu_4)), (a2, .inl (cL, 300, .inl fl_4))]) hP hD [2, 3, 4] [0, 1] rfl rfl (by decide) (by decide) hk1 hFc hP1 hD1
        generalize H1 = H at hP hS ⊢
        have hP := hP.sub (ws' := [(ak, .inr (0, [.int kinds, .ref ac, .int rowc, .ref a0, .ref a_s, .ref a_w])), (ac, .inl (cC, (20 * nk), .inl fc)), (a0, .inr (1, [.ref a1, .ref a2, .int cnt_4])), (a1, .inl (cU, 300, .inl fu_4)), (a2, .inl (cL, 300, .inl fl_4))]) [0, 1, 2, 3, 4] rfl
        have hD := hD.sub (ws' := [(ak, .inr (0, [.int kinds, .ref ac, .int rowc, .ref a0, .ref a_s, .ref a_w])), (ac, .inl (cC, (20 * nk), .inl fc)), (a0, .inr (1, [.ref a1, .ref a2, .int cnt_4])), (a1, .inl (cU, 300, .inl fu_4)), (a2, .inl (cL, 300, .inl fl_4))]) [0, 1, 2, 3, 4] (by decide) rfl
        have e_r_4 : r_4 = (f_kv_keep cnt fu fl u2 v2).1 := congrArg (fun z => z.1) hw
        have e_fu_4 : fu_4 = (f_kv_keep cnt fu fl u2 v2).2.1 := congrArg (fun z => z.2.1) hw
        have e_fl_4 : fl_4 = (f_kv_keep cnt fu fl u2 v2).2.2.1 := congrArg (fun z => z.2.2.1) hw
        have e_cnt_4 : cnt_4 = (f_kv_keep cnt fu fl u2 v2).2.2.2 := congrArg (fun z => z.2.2.2) hw
        subst e_r_4 e_fu_4 e_fl_4 e_cnt_4
        clear hP1 hK1 hD1 hk1 hz1 hFc hDc hPc hKc
        refine lv_goto (tgt := 168) hx hb d_kr_sum_164 (by decide) ?_
        exact W.iret (v := (f_kv_keep cnt fu fl u2 v2).1) hx hb hr (fun t ht hW => ⟨⟨(f_kv_keep cnt fu fl u2 v2).1, ((f_kv_keep cnt fu fl u2 v2).2.1, (f_kv_keep cnt fu fl u2 v2).2.2.1, (f_kv_keep cnt fu fl u2 v2).2.2.2), rfl, by unfold f_kr_sum; rw [if_neg c_2]; unfold kr_sumE; rw [e9]; dsimp only; rw [if_neg c_3], by rw [ht]; exact hP, va_K.moved hW.alike hK, hD⟩, hS.F ht⟩) hS.2.2 d_kr_sum_168
    · exact W.iret (v := (-1)) hx hb hr (fun t ht hW => ⟨⟨(-1), (fu, fl, cnt), rfl, by unfold f_kr_sum; rw [if_neg c_2]; unfold kr_sumE; rw [e9], by rw [ht]; exact hP, va_K.moved hW.alike hK, hD⟩, hS.F ht⟩) hS.2.2 d9
  · refine lv_iconst (v := (-1)) hx hb d_kr_sum_8 (by decide) ?_
    exact W.iret (v := (-1)) hx hb hr (fun t ht hW => ⟨⟨(-1), (fu, fl, cnt), rfl, by unfold f_kr_sum; rw [if_pos c_2], by rw [ht]; exact hP, va_K.moved hW.alike hK, hD⟩, hS.F ht⟩) hS.2.2 d_kr_sum_9
end
section
abbrev b_ja_fill : ByteArray := prog_14_method_103_code
def y_ja_fill : MethodName := ⟨R_ja, "fill", "([II)V"⟩
def w_ja_fill : List Cond := .code y_ja_fill b_ja_fill 4 none :: kt_T
theorem d_ja_fill_0 : decode b_ja_fill 0 = .ok (.iconst 0, 1) := by decide +kernel
theorem d_ja_fill_1 : decode b_ja_fill 1 = .ok (.istore_n 2, 1) := by decide +kernel
theorem d_ja_fill_2 : decode b_ja_fill 2 = .ok (.aload_n 0, 1) := by decide +kernel
theorem d_ja_fill_3 : decode b_ja_fill 3 = .ok (.arraylength, 1) := by decide +kernel
theorem d_ja_fill_4 : decode b_ja_fill 4 = .ok (.istore_n 3, 1) := by decide +kernel
theorem d_ja_fill_5 : decode b_ja_fill 5 = .ok (.iload_n 2, 1) := by decide +kernel
theorem d_ja_fill_6 : decode b_ja_fill 6 = .ok (.iload_n 3, 1) := by decide +kernel
theorem d_ja_fill_7 : decode b_ja_fill 7 = .ok (.if_icmp .ge 13, 3) := by decide +kernel
theorem d_ja_fill_10 : decode b_ja_fill 10 = .ok (.aload_n 0, 1) := by decide +kernel
theorem d_ja_fill_11 : decode b_ja_fill 11 = .ok (.iload_n 2, 1) := by decide +kernel
theorem d_ja_fill_12 : decode b_ja_fill 12 = .ok (.iload_n 1, 1) := by decide +kernel
theorem d_ja_fill_13 : decode b_ja_fill 13 = .ok (.iastore, 1) := by decide +kernel
theorem d_ja_fill_14 : decode b_ja_fill 14 = .ok (.iinc 2 1, 3) := by decide +kernel
theorem d_ja_fill_17 : decode b_ja_fill 17 = .ok (.goto (-12), 3) := by decide +kernel
theorem d_ja_fill_20 : decode b_ja_fill 20 = .ok (.return_, 1) := by decide +kernel
def flL (v : Int32) : Nat → Nat → (Nat → Int32) → Nat → Int32
  | 0, _, f => f
  | d + 1, j, f => flL v d (j + 1) (upd f j v)
set_option maxHeartbeats 4000000 in
theorem lp_ja_fill {p : Program} {l : Launch} {e : Env} {R : Room} {s : State} {m : MethodId} {args : Array Value} {below : List Frame} {meth : Method} {c : Code} {dC : Nat → ClassId} {dI : Nat → Nat → Nat} {A : Nat → Prop} {Q : State → Prop} {x0 : Nat} {cX : ClassId} {nx : Nat} {v : Int32} (hx : p.tables.exec = Jvm.exec) (hb : c.code = b_ja_fill) (hml : c.maxLocals = 4) (hown : s.vm.findClass R_ja = some m.cls) (hT : ∀ w ∈ kt_T, w.before args s = true) (hA : ∀ q : Nat, s.heap.size ≤ q → A q) (hK : va_K (dC, dI) classes [(cX, .int)] s) (hn : nx < 2 ^ 31) :
    ∀ (d j : Nat) (F : Nat → Int32), j + d = nx → (∀ (H : Heap) (locs : List Loc) (ls : Array Slot), va_P (dC, dI) classes [(x0, .inl (cX, nx, .inl (flL v d j F)))] H → va_D A [(x0, .inl (cX, nx, .inl (flL v d j F)))] → va_S A s.heap H locs → ls.size = 4 → W p l e R s m args below meth c H locs 0 0 Q (F0 m 20 ls [])) → ∀ (H : Heap) (locs : List Loc) (ls : Array Slot), va_P (dC, dI) classes [(x0, .inl (cX, nx, .inl F))] H → va_D A [(x0, .inl (cX, nx, .inl F))] → va_S A s.heap H locs → lv_has ls 4 [(0, .ref x0), (1, .int v), (2, .int (nI j)), (3, .int (nI nx))] → W p l e R s m args below meth c H locs 0 0 Q (F0 m 5 ls []) := by
  intro d
  induction d with
  | zero =>
    intro j F hj hk H locs ls hP hD hS hl
    refine lv_iload_n hx hb d_ja_fill_5 rfl (lv_at hl 2 rfl) ?_
    refine lv_iload_n hx hb d_ja_fill_6 rfl (lv_at hl 3 rfl) ?_
    refine lv_icmp_ge (tgt := 20) hx hb d_ja_fill_7 (by decide) (fun c_1 => ?_) (fun c_1 => ?_)
    · exact hk H locs ls hP hD hS hl.1
    · exact absurd (nI_le (show nx ≤ j by omega) (by omega)) c_1
  | succ d ih =>
    intro j F hj hk H locs ls hP hD hS hl
    refine lv_iload_n hx hb d_ja_fill_5 rfl (lv_at hl 2 rfl) ?_
    refine lv_iload_n hx hb d_ja_fill_6 rfl (lv_at hl 3 rfl) ?_
    refine lv_icmp_ge (tgt := 20) hx hb d_ja_fill_7 (by decide) (fun c_2 => ?_) (fun c_2 => ?_)
    · exact absurd c_2 (nI_ge (show j < nx by omega) (by omega))
    · refine lv_aload_n hx hb d_ja_fill_10 rfl (lv_at hl 0 rfl) ?_
      refine lv_iload_n hx hb d_ja_fill_11 rfl (lv_at hl 2 rfl) ?_
      refine lv_iload_n hx hb d_ja_fill_12 rfl (lv_at hl 1 rfl) ?_
      refine va_iastN hx hb hK hP hD hS 0 0 rfl rfl ⟨by omega, hn⟩ d_ja_fill_13 (fun H locs hP hD hS => ?_)
      have hP : va_P (dC, dI) classes [(x0, .inl (cX, nx, .inl (upd F j v)))] H := hP
      have hD : va_D A [(x0, .inl (cX, nx, .inl (upd F j v)))] := hD
      refine lv_iinc (v := (nI j) + 1) (lv' := [(2, .int ((nI j) + 1)), (0, .ref x0), (1, .int v), (3, .int (nI nx))]) hx hb d_ja_fill_14 hl (k := 2) rfl rfl (by decide) rfl (fun ls hl => ?_)
      refine lv_goto (tgt := 5) hx hb d_ja_fill_17 (by decide) ?_
      exact ih (j + 1) _ (by omega) hk H locs ls hP hD hS (by have h9 := lv_sub hl [1, 2, 0, 3] rfl; rw [nI_1] at h9; exact h9)
def f_ja_fill (nx : Nat) (f : Nat → Int32) (v : Int32) : (Nat → Int32) :=
  (flL v nx 0 f)
set_option maxHeartbeats 4000000 in
set_option maxRecDepth 100000 in
theorem c_ja_fill (l : Launch) (dC : Nat → ClassId) (dI : Nat → Nat → Nat) (sz : Nat) (x0 : Nat) (cX : ClassId) (nx : Nat) (f : Nat → Int32) (v : Int32) (hn : nx < 2 ^ 31) : Met l y_ja_fill w_ja_fill ({ frames := 0, cells := 0, slots := 0, locals := 0 }) (va_Pc [.ref x0, .int v] (fun U => U.heap.size = sz ∧ va_P (dC, dI) classes [(x0, .inl (cX, nx, .inl f))] U.heap ∧ va_K (dC, dI) classes [(cX, .int)] U ∧ va_D (fun _ => True) [(x0, .inl (cX, nx, .inl f))])) (va_Qv (fun u9 => u9 = f_ja_fill nx f v) (fun (u : (Nat → Int32)) t => match u with | f' => va_P (dC, dI) classes [(x0, .inl (cX, nx, .inl f'))] t.heap ∧ va_K (dC, dI) classes [(cX, .int)] t ∧ va_D (va_A [(x0, .inl (cX, nx, .inl f))] sz) [(x0, .inl (cX, nx, .inl f'))]) (va_A [(x0, .inl (cX, nx, .inl f))] sz)) 0 0 (va_A [(x0, .inl (cX, nx, .inl f))] sz) := by
  refine va_MetF (cc := b_ja_fill) (maxL := 4) (ret := none) (by decide +kernel) rfl ?_
  intro p e s m args below meth c s₁ B hml hv
  obtain ⟨rfl, hsz, hP, hK, hD0⟩ := hv
  have hx := B.exec
  have hb := B.bytes
  have hr := B.returns
  have hts := atoms_spec (ws := w_ja_fill) B.pre
  have hT := fun (w : Cond) (h : w ∈ kt_T) => hts w (List.mem_cons_of_mem _ h)
  have hown : s.vm.findClass R_ja = some m.cls := findClass_of_methodNamed B.named
  have hlocks := B.notSynchronized
  subst hsz
  have hD := hD0.self (sz := s.heap.size)
  generalize hAe : va_A [(x0, .inl (cX, nx, .inl f))] s.heap.size = A at hD ⊢
  have hA : ∀ q : Nat, s.heap.size ≤ q → A q := fun q h => by rw [← hAe]; exact Or.inr h
  have hS : va_S A s.heap s.heap [] := va_S.rf
  have hl := lv_entry ([.ref x0, .int v]) (n := 4) (Nat.le_of_ble_eq_true rfl)
  rw [lg_entry_eq]
  generalize (lg_sl ([.ref x0, .int v]) ++ List.replicate (4 - (lg_sl ([.ref x0, .int v])).length) Slot.unset).toArray = ls at hl ⊢
  have hl : lv_has ls 4 [(0, .ref x0), (1, .int v)] := hl
  refine lv_iconst (v := 0) hx hb d_ja_fill_0 (by decide) ?_
  refine lv_istore_n (lv' := [(2, .int 0), (0, .ref x0), (1, .int v)]) hx hb d_ja_fill_1 rfl hl (by decide) rfl (fun ls hl => ?_)
  refine lv_aload_n hx hb d_ja_fill_2 rfl (lv_at hl 1 rfl) ?_
  refine va_alen (v := nI nx) hx hb hK hP 0 0 rfl rfl rfl d_ja_fill_3 ?_
  refine lv_istore_n (lv' := [(3, .int (nI nx)), (2, .int 0), (0, .ref x0), (1, .int v)]) hx hb d_ja_fill_4 rfl hl (by decide) rfl (fun ls hl => ?_)
  refine lp_ja_fill hx hb hml hown hT hA hK hn nx 0 f (Nat.zero_add _) (fun H locs ls hP hD hS hl => ?_) s.heap [] ls hP hD hS (lv_sub hl [2, 3, 1, 0] rfl)
  exact W.vret hx hb hr (fun t ht hW => ⟨⟨(flL v nx 0 f), rfl, rfl, by rw [ht]; exact hP, va_K.moved hW.alike hK, hD⟩, hS.F ht⟩) hS.2.2 d_ja_fill_20
end
section
abbrev b_kv_init : ByteArray := prog_3_method_1_code
def y_kv_init : MethodName := ⟨R_kv, "<init>", "()V"⟩
def w_kv_init : List Cond := .code y_kv_init b_kv_init 1 none :: kt_T
theorem d_kv_init_0 : decode b_kv_init 0 = .ok (.aload_n 0, 1) := by decide +kernel
theorem d_kv_init_1 : decode b_kv_init 1 = .ok (.invokespecial 3, 3) := by decide +kernel
theorem d_kv_init_4 : decode b_kv_init 4 = .ok (.aload_n 0, 1) := by decide +kernel
theorem d_kv_init_5 : decode b_kv_init 5 = .ok (.sipush 300, 3) := by decide +kernel
theorem d_kv_init_8 : decode b_kv_init 8 = .ok (.newarray .int, 2) := by decide +kernel
theorem d_kv_init_10 : decode b_kv_init 10 = .ok (.putfield 11, 3) := by decide +kernel
theorem d_kv_init_13 : decode b_kv_init 13 = .ok (.aload_n 0, 1) := by decide +kernel
theorem d_kv_init_14 : decode b_kv_init 14 = .ok (.sipush 300, 3) := by decide +kernel
theorem d_kv_init_17 : decode b_kv_init 17 = .ok (.newarray .int, 2) := by decide +kernel
theorem d_kv_init_19 : decode b_kv_init 19 = .ok (.putfield 15, 3) := by decide +kernel
theorem d_kv_init_22 : decode b_kv_init 22 = .ok (.aload_n 0, 1) := by decide +kernel
theorem d_kv_init_23 : decode b_kv_init 23 = .ok (.iconst 0, 1) := by decide +kernel
theorem d_kv_init_24 : decode b_kv_init 24 = .ok (.putfield 18, 3) := by decide +kernel
theorem d_kv_init_27 : decode b_kv_init 27 = .ok (.return_, 1) := by decide +kernel
abbrev b_kw_init : ByteArray := prog_4_method_1_code
def y_kw_init : MethodName := ⟨R_kw, "<init>", "()V"⟩
def w_kw_init : List Cond := .code y_kw_init b_kw_init 1 none :: kt_T
theorem d_kw_init_0 : decode b_kw_init 0 = .ok (.aload_n 0, 1) := by decide +kernel
theorem d_kw_init_1 : decode b_kw_init 1 = .ok (.invokespecial 3, 3) := by decide +kernel
theorem d_kw_init_4 : decode b_kw_init 4 = .ok (.aload_n 0, 1) := by decide +kernel
theorem d_kw_init_5 : decode b_kw_init 5 = .ok (.bipush 12, 2) := by decide +kernel
theorem d_kw_init_7 : decode b_kw_init 7 = .ok (.newarray .int, 2) := by decide +kernel
theorem d_kw_init_9 : decode b_kw_init 9 = .ok (.putfield 11, 3) := by decide +kernel
theorem d_kw_init_12 : decode b_kw_init 12 = .ok (.aload_n 0, 1) := by decide +kernel
theorem d_kw_init_13 : decode b_kw_init 13 = .ok (.iconst 0, 1) := by decide +kernel
theorem d_kw_init_14 : decode b_kw_init 14 = .ok (.putfield 15, 3) := by decide +kernel
theorem d_kw_init_17 : decode b_kw_init 17 = .ok (.aload_n 0, 1) := by decide +kernel
theorem d_kw_init_18 : decode b_kw_init 18 = .ok (.lconst 0, 1) := by decide +kernel
theorem d_kw_init_19 : decode b_kw_init 19 = .ok (.putfield 19, 3) := by decide +kernel
theorem d_kw_init_22 : decode b_kw_init 22 = .ok (.return_, 1) := by decide +kernel
theorem k_122 : (.methodLink R_kv 3 objectInit : Cond) ∈ kt_T := List.mem_filter.mpr ⟨List.mem_of_getElem? (i := 44) (by decide +kernel), by decide +kernel⟩
theorem k_123 : (.instanceMethod objectInit : Cond) ∈ kt_T := List.mem_filter.mpr ⟨List.mem_of_getElem? (i := 34) (by decide +kernel), by decide +kernel⟩
theorem k_124 : (.code objectInit ⟨#[0xb1]⟩ 1 none : Cond) ∈ kt_T := List.mem_filter.mpr ⟨List.mem_of_getElem? (i := 35) (by decide +kernel), by decide +kernel⟩
theorem k_125 : (.arrayClass .int : Cond) ∈ kt_T := List.mem_filter.mpr ⟨List.mem_of_getElem? (i := 55) (by decide +kernel), by decide +kernel⟩
theorem k_126 : (.methodLink R_kw 3 objectInit : Cond) ∈ kt_T := List.mem_filter.mpr ⟨List.mem_of_getElem? (i := 91) (by decide +kernel), by decide +kernel⟩
set_option maxHeartbeats 4000000 in
set_option maxRecDepth 100000 in
theorem c_kv_init (l : Launch) (dC : Nat → ClassId) (dI : Nat → Nat → Nat) (sz : Nat) (h0 : Nat) : Met l y_kv_init w_kv_init ({ frames := 1, cells := 2, slots := 600, locals := 12 }) (va_Pc [.ref h0] (fun U => U.heap.size = sz ∧ va_P (dC, dI) classes [(h0, .inr (1, [.null, .null, .int 0]))] U.heap ∧ va_K (dC, dI) classes [] U ∧ va_D (fun _ => True) [(h0, .inr (1, [.null, .null, .int 0]))])) (va_Qv (fun _ => True) (fun (_ : Unit) t => ∃ (q_1 q_2 : Nat) (cA_1 cA_2 : ClassId), va_P (dC, dI) classes [(h0, .inr (1, [.ref q_1, .ref q_2, .int 0])), (q_1, .inl (cA_1, 300, .inl (fun _ => 0))), (q_2, .inl (cA_2, 300, .inl (fun _ => 0)))] t.heap ∧ va_K (dC, dI) classes [(cA_1, .int), (cA_2, .int)] t ∧ va_D (va_A [(h0, .inr (1, [.null, .null, .int 0]))] sz) [(h0, .inr (1, [.ref q_1, .ref q_2, .int 0])), (q_1, .inl (cA_1, 300, .inl (fun _ => 0))), (q_2, .inl (cA_2, 300, .inl (fun _ => 0)))]) (va_A [(h0, .inr (1, [.null, .null, .int 0]))] sz)) 2 600 (va_A [(h0, .inr (1, [.null, .null, .int 0]))] sz) := by
  refine Met.ofW (cc := b_kv_init) (maxL := 1) (ret := none) (by decide) rfl ?_
  intro p e s m args below meth c s₁ B hml hv
  obtain ⟨rfl, hsz, hP, hK, hD0⟩ := hv
  have hx := B.exec
  have hb := B.bytes
  have hr := B.returns
  have hts := atoms_spec (ws := w_kv_init) B.pre
  have hT := fun (w : Cond) (h : w ∈ kt_T) => hts w (List.mem_cons_of_mem _ h)
  have hown : s.vm.findClass R_kv = some m.cls := findClass_of_methodNamed B.named
  have hlocks := B.notSynchronized
  have hin : meth.name = "<init>" := (name_of_methodNamed B.named B.method).1
  subst hsz
  have hD := hD0.self (sz := s.heap.size)
  generalize hAe : va_A [(h0, .inr (1, [.null, .null, .int 0]))] s.heap.size = A at hD ⊢
  have hA : ∀ q : Nat, s.heap.size ≤ q → A q := fun q h => by rw [← hAe]; exact Or.inr h
  have hS : va_S A s.heap s.heap [] := va_S.rf
  have hl := lv_entry ([.ref h0]) (n := 1) (Nat.le_of_ble_eq_true rfl)
  rw [lg_entry_eq]
  generalize (lg_sl ([.ref h0]) ++ List.replicate (1 - (lg_sl ([.ref h0])).length) Slot.unset).toArray = ls at hl ⊢
  have hl : lv_has ls 1 [(0, .ref h0)] := hl
  refine lv_aload_n hx hb d_kv_init_0 rfl (lv_at hl 0 rfl) ?_
  refine W.objInit hx hb hown (hT _ k_122) (hT _ k_123) (hT _ k_124) rfl (by rw [hml]; exact hl.1) rfl d_kv_init_1 (Nat.le_of_ble_eq_true rfl) (Nat.le_of_ble_eq_true rfl) ?_
  refine W.eq (g2 := F0 m 4 ls []) rfl ?_
  refine lv_aload_n hx hb d_kv_init_4 rfl (lv_at hl 0 rfl) ?_
  refine lv_sipush (v := 300) hx hb d_kv_init_5 (by decide) ?_
  refine va_newa (atype := .int) (ty := .int) (a0 := (300, .inl (fun _ => 0))) hx hb (hT _ k_125) rfl hK hP hD hS hA (fun _ => rfl) (by decide) (by decide) (by decide) (Nat.le_of_ble_eq_true rfl) (Nat.le_of_ble_eq_true rfl) d_kv_init_8 (fun q_1 cA_1 H hK hP hD hS => ?_)
  have hK : va_K (dC, dI) classes [(cA_1, .int)] s := hK
  have hP : va_P (dC, dI) classes [(h0, .inr (1, [.null, .null, .int 0])), (q_1, .inl (cA_1, 300, .inl (fun _ => 0)))] H := hP
  have hD : va_D A [(h0, .inr (1, [.null, .null, .int 0])), (q_1, .inl (cA_1, 300, .inl (fun _ => 0)))] := hD
  refine va_putF (D := (dC, dI)) (ci := 1) (v := .ref q_1) (ty := .array .int) (C := R_kv) (T := F_kv) (N := 3) hx hb hT i_kv t_kv t_kv_ok n_kv hown hK hP hD hS 0 rfl rfl 0 (by decide) (hT _ k_6) (fun _ h9 => h9) rfl hin rfl (by decide +kernel) rfl rfl (Nat.le_of_ble_eq_true rfl) d_kv_init_10 (fun H locs hP hD hS => ?_)
  have hP : va_P (dC, dI) classes [(h0, .inr (1, [.ref q_1, .null, .int 0])), (q_1, .inl (cA_1, 300, .inl (fun _ => 0)))] H := hP
  have hD : va_D A [(h0, .inr (1, [.ref q_1, .null, .int 0])), (q_1, .inl (cA_1, 300, .inl (fun _ => 0)))] := hD
  refine lv_aload_n hx hb d_kv_init_13 rfl (lv_at hl 0 rfl) ?_
  refine lv_sipush (v := 300) hx hb d_kv_init_14 (by decide) ?_
  refine va_newa (atype := .int) (ty := .int) (a0 := (300, .inl (fun _ => 0))) hx hb (hT _ k_125) rfl hK hP hD hS hA (fun _ => rfl) (by decide) (by decide) (by decide) (Nat.le_of_ble_eq_true rfl) (Nat.le_of_ble_eq_true rfl) d_kv_init_17 (fun q_2 cA_2 H hK hP hD hS => ?_)
  have hK : va_K (dC, dI) classes [(cA_1, .int), (cA_2, .int)] s := hK
  have hP : va_P (dC, dI) classes [(h0, .inr (1, [.ref q_1, .null, .int 0])), (q_1, .inl (cA_1, 300, .inl (fun _ => 0))), (q_2, .inl (cA_2, 300, .inl (fun _ => 0)))] H := hP
  have hD : va_D A [(h0, .inr (1, [.ref q_1, .null, .int 0])), (q_1, .inl (cA_1, 300, .inl (fun _ => 0))), (q_2, .inl (cA_2, 300, .inl (fun _ => 0)))] := hD
  refine va_putF (D := (dC, dI)) (ci := 1) (v := .ref q_2) (ty := .array .int) (C := R_kv) (T := F_kv) (N := 3) hx hb hT i_kv t_kv t_kv_ok n_kv hown hK hP hD hS 0 rfl rfl 1 (by decide) (hT _ k_7) (fun _ h9 => h9) rfl hin rfl (by decide +kernel) rfl rfl (Nat.le_of_ble_eq_true rfl) d_kv_init_19 (fun H locs hP hD hS => ?_)
  have hP : va_P (dC, dI) classes [(h0, .inr (1, [.ref q_1, .ref q_2, .int 0])), (q_1, .inl (cA_1, 300, .inl (fun _ => 0))), (q_2, .inl (cA_2, 300, .inl (fun _ => 0)))] H := hP
  have hD : va_D A [(h0, .inr (1, [.ref q_1, .ref q_2, .int 0])), (q_1, .inl (cA_1, 300, .inl (fun _ => 0))), (q_2, .inl (cA_2, 300, .inl (fun _ => 0)))] := hD
  refine lv_aload_n hx hb d_kv_init_22 rfl (lv_at hl 0 rfl) ?_
  refine lv_iconst (v := 0) hx hb d_kv_init_23 (by decide) ?_
  refine va_put (D := (dC, dI)) (ci := 1) (v := .int 0) (ty := .int) (C := R_kv) (T := F_kv) (N := 3) hx hb hT i_kv t_kv t_kv_ok n_kv hown hK hP hD hS 0 rfl rfl 2 (by decide) (hT _ k_0) (fun _ h9 => h9) rfl (by decide +kernel) rfl rfl (Nat.le_of_ble_eq_true rfl) d_kv_init_24 (fun H locs hP hD hS => ?_)
  have hP : va_P (dC, dI) classes [(h0, .inr (1, [.ref q_1, .ref q_2, .int 0])), (q_1, .inl (cA_1, 300, .inl (fun _ => 0))), (q_2, .inl (cA_2, 300, .inl (fun _ => 0)))] H := hP
  have hD : va_D A [(h0, .inr (1, [.ref q_1, .ref q_2, .int 0])), (q_1, .inl (cA_1, 300, .inl (fun _ => 0))), (q_2, .inl (cA_2, 300, .inl (fun _ => 0)))] := hD
  refine W.widen (k := 2) (n := 600) (Nat.le_of_ble_eq_true rfl) (Nat.le_of_ble_eq_true rfl) ?_
  exact W.vret hx hb hr (fun t ht hW => ⟨⟨(), rfl, trivial, q_1, q_2, cA_1, cA_2, by rw [ht]; exact hP, va_K.moved hW.alike hK, hD⟩, hS.F ht⟩) hS.2.2 d_kv_init_27
set_option maxHeartbeats 4000000 in
set_option maxRecDepth 100000 in
theorem c_kw_init (l : Launch) (dC : Nat → ClassId) (dI : Nat → Nat → Nat) (sz : Nat) (h0 : Nat) : Met l y_kw_init w_kw_init ({ frames := 1, cells := 1, slots := 12, locals := 12 }) (va_Pc [.ref h0] (fun U => U.heap.size = sz ∧ va_P (dC, dI) classes [(h0, .inr (3, [.null, .int 0, .long 0]))] U.heap ∧ va_K (dC, dI) classes [] U ∧ va_D (fun _ => True) [(h0, .inr (3, [.null, .int 0, .long 0]))])) (va_Qv (fun _ => True) (fun (_ : Unit) t => ∃ (q_1 : Nat) (cA_1 : ClassId), va_P (dC, dI) classes [(h0, .inr (3, [.ref q_1, .int 0, .long 0])), (q_1, .inl (cA_1, 12, .inl (fun _ => 0)))] t.heap ∧ va_K (dC, dI) classes [(cA_1, .int)] t ∧ va_D (va_A [(h0, .inr (3, [.null, .int 0, .long 0]))] sz) [(h0, .inr (3, [.ref q_1, .int 0, .long 0])), (q_1, .inl (cA_1, 12, .inl (fun _ => 0)))]) (va_A [(h0, .inr (3, [.null, .int 0, .long 0]))] sz)) 1 12 (va_A [(h0, .inr (3, [.null, .int 0, .long 0]))] sz) := by
  refine Met.ofW (cc := b_kw_init) (maxL := 1) (ret := none) (by decide) rfl ?_
  intro p e s m args below meth c s₁ B hml hv
  obtain ⟨rfl, hsz, hP, hK, hD0⟩ := hv
  have hx := B.exec
  have hb := B.bytes
  have hr := B.returns
  have hts := atoms_spec (ws := w_kw_init) B.pre
  have hT := fun (w : Cond) (h : w ∈ kt_T) => hts w (List.mem_cons_of_mem _ h)
  have hown : s.vm.findClass R_kw = some m.cls := findClass_of_methodNamed B.named
  have hlocks := B.notSynchronized
  have hin : meth.name = "<init>" := (name_of_methodNamed B.named B.method).1
  subst hsz
  have hD := hD0.self (sz := s.heap.size)
  generalize hAe : va_A [(h0, .inr (3, [.null, .int 0, .long 0]))] s.heap.size = A at hD ⊢
  have hA : ∀ q : Nat, s.heap.size ≤ q → A q := fun q h => by rw [← hAe]; exact Or.inr h
  have hS : va_S A s.heap s.heap [] := va_S.rf
  have hl := lv_entry ([.ref h0]) (n := 1) (Nat.le_of_ble_eq_true rfl)
  rw [lg_entry_eq]
  generalize (lg_sl ([.ref h0]) ++ List.replicate (1 - (lg_sl ([.ref h0])).length) Slot.unset).toArray = ls at hl ⊢
  have hl : lv_has ls 1 [(0, .ref h0)] := hl
  refine lv_aload_n hx hb d_kw_init_0 rfl (lv_at hl 0 rfl) ?_
  refine W.objInit hx hb hown (hT _ k_126) (hT _ k_123) (hT _ k_124) rfl (by rw [hml]; exact hl.1) rfl d_kw_init_1 (Nat.le_of_ble_eq_true rfl) (Nat.le_of_ble_eq_true rfl) ?_
  refine W.eq (g2 := F0 m 4 ls []) rfl ?_
  refine lv_aload_n hx hb d_kw_init_4 rfl (lv_at hl 0 rfl) ?_
  refine lv_bipush (v := 12) hx hb d_kw_init_5 (by decide) ?_
  refine va_newa (atype := .int) (ty := .int) (a0 := (12, .inl (fun _ => 0))) hx hb (hT _ k_125) rfl hK hP hD hS hA (fun _ => rfl) (by decide) (by decide) (by decide) (Nat.le_of_ble_eq_true rfl) (Nat.le_of_ble_eq_true rfl) d_kw_init_7 (fun q_1 cA_1 H hK hP hD hS => ?_)
  have hK : va_K (dC, dI) classes [(cA_1, .int)] s := hK
  have hP : va_P (dC, dI) classes [(h0, .inr (3, [.null, .int 0, .long 0])), (q_1, .inl (cA_1, 12, .inl (fun _ => 0)))] H := hP
  have hD : va_D A [(h0, .inr (3, [.null, .int 0, .long 0])), (q_1, .inl (cA_1, 12, .inl (fun _ => 0)))] := hD
  refine va_putF (D := (dC, dI)) (ci := 3) (v := .ref q_1) (ty := .array .int) (C := R_kw) (T := F_kw) (N := 3) hx hb hT i_kw t_kw t_kw_ok n_kw hown hK hP hD hS 0 rfl rfl 0 (by decide) (hT _ k_61) (fun _ h9 => h9) rfl hin rfl (by decide +kernel) rfl rfl (Nat.le_of_ble_eq_true rfl) d_kw_init_9 (fun H locs hP hD hS => ?_)
  have hP : va_P (dC, dI) classes [(h0, .inr (3, [.ref q_1, .int 0, .long 0])), (q_1, .inl (cA_1, 12, .inl (fun _ => 0)))] H := hP
  have hD : va_D A [(h0, .inr (3, [.ref q_1, .int 0, .long 0])), (q_1, .inl (cA_1, 12, .inl (fun _ => 0)))] := hD
  refine lv_aload_n hx hb d_kw_init_12 rfl (lv_at hl 0 rfl) ?_
  refine lv_iconst (v := 0) hx hb d_kw_init_13 (by decide) ?_
  refine va_put (D := (dC, dI)) (ci := 3) (v := .int 0) (ty := .int) (C := R_kw) (T := F_kw) (N := 3) hx hb hT i_kw t_kw t_kw_ok n_kw hown hK hP hD hS 0 rfl rfl 1 (by decide) (hT _ k_60) (fun _ h9 => h9) rfl (by decide +kernel) rfl rfl (Nat.le_of_ble_eq_true rfl) d_kw_init_14 (fun H locs hP hD hS => ?_)
  have hP : va_P (dC, dI) classes [(h0, .inr (3, [.ref q_1, .int 0, .long 0])), (q_1, .inl (cA_1, 12, .inl (fun _ => 0)))] H := hP
  have hD : va_D A [(h0, .inr (3, [.ref q_1, .int 0, .long 0])), (q_1, .inl (cA_1, 12, .inl (fun _ => 0)))] := hD
  refine lv_aload_n hx hb d_kw_init_17 rfl (lv_at hl 0 rfl) ?_
  refine lv_lconst (v := 0) hx hb d_kw_init_18 (by decide) ?_
  refine va_put (D := (dC, dI)) (ci := 3) (v := .long 0) (ty := .long) (C := R_kw) (T := F_kw) (N := 3) hx hb hT i_kw t_kw t_kw_ok n_kw hown hK hP hD hS 0 rfl rfl 2 (by decide) (hT _ k_62) (fun _ h9 => h9) rfl (by decide +kernel) rfl rfl (Nat.le_of_ble_eq_true rfl) d_kw_init_19 (fun H locs hP hD hS => ?_)
  have hP : va_P (dC, dI) classes [(h0, .inr (3, [.ref q_1, .int 0, .long 0])), (q_1, .inl (cA_1, 12, .inl (fun _ => 0)))] H := hP
  have hD : va_D A [(h0, .inr (3, [.ref q_1, .int 0, .long 0])), (q_1, .inl (cA_1, 12, .inl (fun _ => 0)))] := hD
  refine W.widen (k := 1) (n := 12) (Nat.le_of_ble_eq_true rfl) (Nat.le_of_ble_eq_true rfl) ?_
  exact W.vret hx hb hr (fun t ht hW => ⟨⟨(), rfl, trivial, q_1, cA_1, by rw [ht]; exact hP, va_K.moved hW.alike hK, hD⟩, hS.F ht⟩) hS.2.2 d_kw_init_22
end
