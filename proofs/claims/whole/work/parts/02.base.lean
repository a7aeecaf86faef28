/-- words that a callee may be given of its caller's -/
def kt_g : Cond → Bool
  | .arrayClass _ => true
  | w => goodWord w
def kt_T : List Cond := lw_tbl.filter kt_g
theorem kt_ok {w : Cond} (h : w ∈ kt_T) : (w.onTables && w.keeps) = true ∨ ∃ ty, w = .arrayClass ty := by
  have h2 := (List.mem_filter.mp h).2
  cases w <;> first | exact Or.inr ⟨_, rfl⟩ | exact good_of_word h2
theorem kt_sub {w : Cond} (h : w ∈ kt_T) : w ∈ lw_tbl := (List.mem_filter.mp h).1
theorem kt_G {cy : Cond} (h : cy ∈ kt_T) : GoodIn kt_T (cy :: kt_T) := fun w hw => (List.mem_cons.mp hw).elim (fun q => q ▸ ⟨h, kt_ok h⟩) (fun q => ⟨q, kt_ok q⟩)
theorem kt_V {own C : String} {idx : Nat} {y : MethodName} {cy : Cond} (h1 : Cond.methodLink own idx y ∈ kt_T) (h2 : Cond.instanceMethod y ∈ kt_T) (h3 : Cond.selects C y y ∈ kt_T) (h4 : Cond.initialized C ∈ kt_T) (h5 : cy ∈ kt_T) : GoodIn kt_T (wsV own idx C y (cy :: kt_T)) := by
  intro w hw
  have hm : w ∈ kt_T := by
    rcases List.mem_append.mp hw with q | q
    · simp only [List.mem_cons, List.not_mem_nil, or_false] at q
      rcases q with rfl | rfl | rfl | rfl <;> assumption
    · exact (List.mem_cons.mp q).elim (fun q => q ▸ h5) id
  exact ⟨hm, kt_ok hm⟩
theorem kt_S {own : String} {idx : Nat} {y : MethodName} {cy : Cond} (h1 : Cond.methodLink own idx y ∈ kt_T) (h2 : Cond.static y ∈ kt_T) (h4 : Cond.initialized y.cls ∈ kt_T) (h5 : cy ∈ kt_T) : GoodIn kt_T (va_wsS own idx y (cy :: kt_T)) := by
  intro w hw
  have hm : w ∈ kt_T := by
    rcases List.mem_append.mp hw with q | q
    · simp only [List.mem_cons, List.not_mem_nil, or_false] at q
      rcases q with rfl | rfl | rfl <;> assumption
    · exact (List.mem_cons.mp q).elim (fun q => q ▸ h5) id
  exact ⟨hm, kt_ok hm⟩
def R_kr : String := "KilogramRows"
def F_kr : u_T := fun k => match k with
  | 0 => ("KilogramRows", "kinds", "I", true)
  | 1 => ("KilogramRows", "cells", "[I", true)
  | 2 => ("KilogramRows", "rowCount", "I", false)
  | 3 => ("KilogramRows", "values", "LKilogramRows$Values;", true)
  | 4 => ("KilogramRows", "system", "LKilogramRows$ShareSystem;", true)
  | _ => ("KilogramRows", "weights", "LKilogramRows$Weights;", true)
def t_kr : Nat → FieldType := fun k => match k with
  | 0 => .int
  | 1 => .array .int
  | 2 => .int
  | 3 => .object "KilogramRows$Values"
  | 4 => .object "KilogramRows$ShareSystem"
  | _ => .object "KilogramRows$Weights"
theorem n_kr : ∀ a, a < 6 → ∀ b, b < 6 → a ≠ b → (F_kr a).2.1 ≠ (F_kr b).2.1 := by decide +kernel
theorem t_kr_ok : ∀ k, k < 6 → parseFieldDescriptor (F_kr k).2.2.1 = some (t_kr k) := by decide +kernel
theorem i_kr : ∀ w ∈ u_ws R_kr F_kr 6, w ∈ kt_T := by decide +kernel
def R_kv : String := "KilogramRows$Values"
def F_kv : u_T := fun k => match k with
  | 0 => ("KilogramRows$Values", "uppers", "[I", true)
  | 1 => ("KilogramRows$Values", "lowers", "[I", true)
  | _ => ("KilogramRows$Values", "count", "I", false)
def t_kv : Nat → FieldType := fun k => match k with
  | 0 => .array .int
  | 1 => .array .int
  | _ => .int
theorem n_kv : ∀ a, a < 3 → ∀ b, b < 3 → a ≠ b → (F_kv a).2.1 ≠ (F_kv b).2.1 := by decide +kernel
theorem t_kv_ok : ∀ k, k < 3 → parseFieldDescriptor (F_kv k).2.2.1 = some (t_kv k) := by decide +kernel
theorem i_kv : ∀ w ∈ u_ws R_kv F_kv 3, w ∈ kt_T := by decide +kernel
def R_ks : String := "KilogramRows$ShareSystem"
def F_ks : u_T := fun k => match k with
  | 0 => ("KilogramRows$ShareSystem", "entries", "[[I", true)
  | 1 => ("KilogramRows$ShareSystem", "work", "[[J", true)
  | 2 => ("KilogramRows$ShareSystem", "pivots", "[I", true)
  | 3 => ("KilogramRows$ShareSystem", "uppers", "[J", true)
  | 4 => ("KilogramRows$ShareSystem", "lowers", "[J", true)
  | _ => ("KilogramRows$ShareSystem", "answers", "I", false)
def t_ks : Nat → FieldType := fun k => match k with
  | 0 => .array (.array .int)
  | 1 => .array (.array .long)
  | 2 => .array .int
  | 3 => .array .long
  | 4 => .array .long
  | _ => .int
theorem n_ks : ∀ a, a < 6 → ∀ b, b < 6 → a ≠ b → (F_ks a).2.1 ≠ (F_ks b).2.1 := by decide +kernel
theorem t_ks_ok : ∀ k, k < 6 → parseFieldDescriptor (F_ks k).2.2.1 = some (t_ks k) := by decide +kernel
theorem i_ks : ∀ w ∈ u_ws R_ks F_ks 6, w ∈ kt_T := by decide +kernel
def R_kw : String := "KilogramRows$Weights"
def F_kw : u_T := fun k => match k with
  | 0 => ("KilogramRows$Weights", "sizes", "[I", true)
  | 1 => ("KilogramRows$Weights", "count", "I", false)
  | _ => ("KilogramRows$Weights", "all", "J", false)
def t_kw : Nat → FieldType := fun k => match k with
  | 0 => .array .int
  | 1 => .int
  | _ => .long
theorem n_kw : ∀ a, a < 3 → ∀ b, b < 3 → a ≠ b → (F_kw a).2.1 ≠ (F_kw b).2.1 := by decide +kernel
theorem t_kw_ok : ∀ k, k < 3 → parseFieldDescriptor (F_kw k).2.2.1 = some (t_kw k) := by decide +kernel
theorem i_kw : ∀ w ∈ u_ws R_kw F_kw 3, w ∈ kt_T := by decide +kernel
def R_mo : String := "KilogramRowsModel"
def F_mo : u_T := fun k => match k with
  | 0 => ("KilogramRowsModel", "thrown", "I", false)
  | 1 => ("KilogramRowsModel", "kinds", "I", true)
  | 2 => ("KilogramRowsModel", "values", "I", false)
  | 3 => ("KilogramRowsModel", "ups", "[J", true)
  | 4 => ("KilogramRowsModel", "downs", "[J", true)
  | 5 => ("KilogramRowsModel", "up", "J", false)
  | 6 => ("KilogramRowsModel", "down", "J", false)
  | 7 => ("KilogramRowsModel", "rows", "I", false)
  | 8 => ("KilogramRowsModel", "cells", "[I", true)
  | 9 => ("KilogramRowsModel", "entries", "[I", true)
  | 10 => ("KilogramRowsModel", "solved", "I", false)
  | 11 => ("KilogramRowsModel", "answerUps", "[J", true)
  | 12 => ("KilogramRowsModel", "answerDowns", "[J", true)
  | 13 => ("KilogramRowsModel", "weights", "I", false)
  | 14 => ("KilogramRowsModel", "weigh", "[J", true)
  | 15 => ("KilogramRowsModel", "given", "[Z", true)
  | _ => ("KilogramRowsModel", "square", "[J", true)
def t_mo : Nat → FieldType := fun k => match k with
  | 0 => .int
  | 1 => .int
  | 2 => .int
  | 3 => .array .long
  | 4 => .array .long
  | 5 => .long
  | 6 => .long
  | 7 => .int
  | 8 => .array .int
  | 9 => .array .int
  | 10 => .int
  | 11 => .array .long
  | 12 => .array .long
  | 13 => .int
  | 14 => .array .long
  | 15 => .array .boolean
  | _ => .array .long
theorem n_mo : ∀ a, a < 17 → ∀ b, b < 17 → a ≠ b → (F_mo a).2.1 ≠ (F_mo b).2.1 := by decide +kernel
theorem t_mo_ok : ∀ k, k < 17 → parseFieldDescriptor (F_mo k).2.2.1 = some (t_mo k) := by decide +kernel
theorem i_mo : ∀ w ∈ u_ws R_mo F_mo 17, w ∈ kt_T := by decide +kernel
abbrev classes : List vw_C := [(R_kr, F_kr, 6), (R_kv, F_kv, 3), (R_ks, F_ks, 6), (R_kw, F_kw, 3), (R_mo, F_mo, 17)]
def R_jm : String := "java/lang/Math"
def R_ja : String := "java/util/Arrays"
def kt_nest : List Cond := [.methodLinkNest R_kr 28 ⟨R_kv, "<init>", "()V"⟩ R_kr, .methodLinkNest R_kr 35 ⟨R_ks, "<init>", "()V"⟩ R_kr, .methodLinkNest R_kr 42 ⟨R_kw, "<init>", "()V"⟩ R_kr, .methodLinkNest R_kv 30 ⟨R_kr, "commonDivisor", "(JJ)J"⟩ R_kr, .methodLinkNest R_ks 51 ⟨R_kr, "commonDivisor", "(JJ)J"⟩ R_kr]
theorem n_0 : (.methodLinkNest R_kr 28 ⟨R_kv, "<init>", "()V"⟩ R_kr : Cond) ∈ kt_nest := List.mem_of_getElem? (i := 0) rfl
theorem n_1 : (.methodLinkNest R_kr 35 ⟨R_ks, "<init>", "()V"⟩ R_kr : Cond) ∈ kt_nest := List.mem_of_getElem? (i := 1) rfl
theorem n_2 : (.methodLinkNest R_kr 42 ⟨R_kw, "<init>", "()V"⟩ R_kr : Cond) ∈ kt_nest := List.mem_of_getElem? (i := 2) rfl
theorem n_3 : (.methodLinkNest R_kv 30 ⟨R_kr, "commonDivisor", "(JJ)J"⟩ R_kr : Cond) ∈ kt_nest := List.mem_of_getElem? (i := 3) rfl
theorem n_4 : (.methodLinkNest R_ks 51 ⟨R_kr, "commonDivisor", "(JJ)J"⟩ R_kr : Cond) ∈ kt_nest := List.mem_of_getElem? (i := 4) rfl
def kt_N (U : State) : Prop := ∀ w ∈ kt_nest, va_Nw w U
theorem kt_nestL {w : Cond} (h : w ∈ kt_nest) : ∃ a i x b, w = .methodLinkNest a i x b := by
  simp only [kt_nest, List.mem_cons, List.not_mem_nil, or_false] at h
  rcases h with rfl | rfl | rfl | rfl | rfl <;> exact ⟨_, _, _, _, rfl⟩
theorem kt_N.warm {s U : State} (hW : s.WarmedH U.vm) (h : kt_N s) : kt_N U := fun w hw => by
  have h1 := h w hw
  obtain ⟨a, i, x, b, rfl⟩ := kt_nestL hw
  exact va_Nw.warmM hW h1
theorem kt_N.same {s U : State} (e : s.vm = U.vm) (h : kt_N s) : kt_N U := fun w hw => by
  have h1 := h w hw
  obtain ⟨a, i, x, b, rfl⟩ := kt_nestL hw
  exact va_Nw.same rfl e h1
theorem bl_SN {av : List Value} : FrameBlind (va_Pc av (fun U => kt_N U)) := fun a U g mk q => ⟨q.1, kt_N.same (s := U) (U := U.calling g mk a) rfl q.2⟩
theorem bl_RN {av : List Value} {D : va_G} {cl : List vw_C} {ws : va_W} {tys : List (ClassId × FieldType)} : FrameBlind (va_Pc av (fun U => va_P D cl ws U.heap ∧ va_K D cl tys U ∧ kt_N U)) := fun a U g mk q => ⟨q.1, q.2.1, va_K.moved (u := U) (U := U.calling g mk a) (Vm.Alike.refl U.vm) q.2.2.1, kt_N.same (s := U) (U := U.calling g mk a) rfl q.2.2.2⟩
theorem bl_MN {av : List Value} {D : va_G} {cl : List vw_C} {ws : va_W} {tys : List (ClassId × FieldType)} {sz : Nat} : FrameBlind (va_Pc av (fun U => U.heap.size = sz ∧ va_P D cl ws U.heap ∧ va_K D cl tys U ∧ va_D (fun _ => True) ws ∧ kt_N U)) := fun a U g mk q => ⟨q.1, q.2.1, q.2.2.1, va_K.moved (u := U) (U := U.calling g mk a) (Vm.Alike.refl U.vm) q.2.2.2.1, q.2.2.2.2.1, kt_N.same (s := U) (U := U.calling g mk a) rfl q.2.2.2.2.2⟩
/-! rows of my own over the kit: long compares with the jump behind them; the words; blind starts -/
section KB
variable {p : Program} {l : Launch} {e : Env} {R : Room} {s : State} {m : MethodId} {args : Array Value} {below : List Frame} {meth : Method} {c : Code} {H : Heap} {locs : List Loc} {cells slots : Nat} {Q : State → Prop}
variable {cc : ByteArray} {pc : Nat} {ls : Array Slot} {rest : List Value}
theorem lx_ifeq (hexec : p.tables.exec = Jvm.exec) (hb : c.code = cc) {x y : Int64} {off : Int} {tgt : Nat} (d1 : decode cc pc = .ok (.lcmp, 1)) (d2 : decode cc (pc + 1) = .ok (.ifCond .eq off, 3)) (ht : ((pc + 1 : Nat) : Int) + off = (tgt : Int))
    (kt : x = y → W p l e R s m args below meth c H locs cells slots Q (F0 m tgt ls rest)) (kf : ¬ x = y → W p l e R s m args below meth c H locs cells slots Q (F0 m (pc + 1 + 3) ls rest)) : W p l e R s m args below meth c H locs cells slots Q (F0 m pc ls (.long y :: .long x :: rest)) :=
  W.lcmp hexec hb d1 (lv_if_eq hexec hb d2 ht (fun h => kt ((lg_cmp_eq x y).mp h)) (fun h => kf (fun q => h ((lg_cmp_eq x y).mpr q))))
theorem lx_ifne (hexec : p.tables.exec = Jvm.exec) (hb : c.code = cc) {x y : Int64} {off : Int} {tgt : Nat} (d1 : decode cc pc = .ok (.lcmp, 1)) (d2 : decode cc (pc + 1) = .ok (.ifCond .ne off, 3)) (ht : ((pc + 1 : Nat) : Int) + off = (tgt : Int))
    (kt : ¬ x = y → W p l e R s m args below meth c H locs cells slots Q (F0 m tgt ls rest)) (kf : x = y → W p l e R s m args below meth c H locs cells slots Q (F0 m (pc + 1 + 3) ls rest)) : W p l e R s m args below meth c H locs cells slots Q (F0 m pc ls (.long y :: .long x :: rest)) :=
  W.lcmp hexec hb d1 (lv_if_ne hexec hb d2 ht (fun h => kt (fun q => h ((lg_cmp_eq x y).mpr q))) (fun h => kf ((lg_cmp_eq x y).mp h)))
theorem lx_iflt (hexec : p.tables.exec = Jvm.exec) (hb : c.code = cc) {x y : Int64} {off : Int} {tgt : Nat} (d1 : decode cc pc = .ok (.lcmp, 1)) (d2 : decode cc (pc + 1) = .ok (.ifCond .lt off, 3)) (ht : ((pc + 1 : Nat) : Int) + off = (tgt : Int))
    (kt : x < y → W p l e R s m args below meth c H locs cells slots Q (F0 m tgt ls rest)) (kf : ¬ x < y → W p l e R s m args below meth c H locs cells slots Q (F0 m (pc + 1 + 3) ls rest)) : W p l e R s m args below meth c H locs cells slots Q (F0 m pc ls (.long y :: .long x :: rest)) :=
  W.lcmp hexec hb d1 (lv_if_lt hexec hb d2 ht (fun h => kt ((lg_cmp_lt x y).mp h)) (fun h => kf (fun q => h ((lg_cmp_lt x y).mpr q))))
theorem lx_ifge (hexec : p.tables.exec = Jvm.exec) (hb : c.code = cc) {x y : Int64} {off : Int} {tgt : Nat} (d1 : decode cc pc = .ok (.lcmp, 1)) (d2 : decode cc (pc + 1) = .ok (.ifCond .ge off, 3)) (ht : ((pc + 1 : Nat) : Int) + off = (tgt : Int))
    (kt : y ≤ x → W p l e R s m args below meth c H locs cells slots Q (F0 m tgt ls rest)) (kf : ¬ y ≤ x → W p l e R s m args below meth c H locs cells slots Q (F0 m (pc + 1 + 3) ls rest)) : W p l e R s m args below meth c H locs cells slots Q (F0 m pc ls (.long y :: .long x :: rest)) :=
  W.lcmp hexec hb d1 (lv_if_ge hexec hb d2 ht (fun h => kt ((lg_cmp_ge x y).mp h)) (fun h => kf (fun q => h ((lg_cmp_ge x y).mpr q))))
theorem lx_ifgt (hexec : p.tables.exec = Jvm.exec) (hb : c.code = cc) {x y : Int64} {off : Int} {tgt : Nat} (d1 : decode cc pc = .ok (.lcmp, 1)) (d2 : decode cc (pc + 1) = .ok (.ifCond .gt off, 3)) (ht : ((pc + 1 : Nat) : Int) + off = (tgt : Int))
    (kt : y < x → W p l e R s m args below meth c H locs cells slots Q (F0 m tgt ls rest)) (kf : ¬ y < x → W p l e R s m args below meth c H locs cells slots Q (F0 m (pc + 1 + 3) ls rest)) : W p l e R s m args below meth c H locs cells slots Q (F0 m pc ls (.long y :: .long x :: rest)) :=
  W.lcmp hexec hb d1 (lv_if_gt hexec hb d2 ht (fun h => kt ((lg_cmp_gt x y).mp h)) (fun h => kf (fun q => h ((lg_cmp_gt x y).mpr q))))
theorem lx_ifle (hexec : p.tables.exec = Jvm.exec) (hb : c.code = cc) {x y : Int64} {off : Int} {tgt : Nat} (d1 : decode cc pc = .ok (.lcmp, 1)) (d2 : decode cc (pc + 1) = .ok (.ifCond .le off, 3)) (ht : ((pc + 1 : Nat) : Int) + off = (tgt : Int))
    (kt : x ≤ y → W p l e R s m args below meth c H locs cells slots Q (F0 m tgt ls rest)) (kf : ¬ x ≤ y → W p l e R s m args below meth c H locs cells slots Q (F0 m (pc + 1 + 3) ls rest)) : W p l e R s m args below meth c H locs cells slots Q (F0 m pc ls (.long y :: .long x :: rest)) :=
  W.lcmp hexec hb d1 (lv_if_le hexec hb d2 ht (fun h => kt ((lg_cmp_le x y).mp h)) (fun h => kf (fun q => h ((lg_cmp_le x y).mpr q))))
end KB
/-- starts that don't look at frames -/
theorem bl_S {av : List Value} : FrameBlind (va_Pc av (fun _ => True)) := fun _ _ _ _ q => ⟨q.1, trivial⟩
theorem bl_R {av : List Value} {D : va_G} {cl : List vw_C} {ws : va_W} {tys : List (ClassId × FieldType)} : FrameBlind (va_Pc av (fun U => va_P D cl ws U.heap ∧ va_K D cl tys U)) := fun a U g mk q => ⟨q.1, q.2.1, va_K.moved (u := U) (U := U.calling g mk a) (Vm.Alike.refl U.vm) q.2.2⟩
theorem bl_M {av : List Value} {D : va_G} {cl : List vw_C} {ws : va_W} {tys : List (ClassId × FieldType)} {sz : Nat} : FrameBlind (va_Pc av (fun U => U.heap.size = sz ∧ va_P D cl ws U.heap ∧ va_K D cl tys U ∧ va_D (fun _ => True) ws)) := fun a U g mk q => ⟨q.1, q.2.1, q.2.2.1, va_K.moved (u := U) (U := U.calling g mk a) (Vm.Alike.refl U.vm) q.2.2.2.1, q.2.2.2.2⟩

section KX
variable {p : Program} {l : Launch} {e : Env} {R : Room} {s : State} {m : MethodId} {args : Array Value} {below : List Frame} {meth : Method} {c : Code} {H H0 : Heap} {locs : List Loc} {cells slots : Nat} {Q : State → Prop}
variable {cc : ByteArray} {pc : Nat} {ls : Array Slot} {rest : List Value} {D : va_G} {cl : List vw_C} {tys : List (ClassId × FieldType)} {ws : va_W} {a : Nat} {A : Nat → Prop}
/-- array rows at an index that is a number -/
theorem va_ialdN (hexec : p.tables.exec = Jvm.exec) (hb : c.code = cc) (hK : va_K D cl tys s) (hP : va_P D cl ws H) (q0 t0 : Nat) {cA : ClassId} {n : Nat} {f : Nat → Int32} (ha : ws[q0]? = some (a, .inl (cA, n, .inl f))) (ht : tys[t0]? = some (cA, .int)) {i : Nat} (hin : i < n ∧ n < 2 ^ 31) (hdg : decode cc pc = .ok (.iaload, 1))
    (kk : W p l e R s m args below meth c H locs cells slots Q (F0 m (pc + 1) ls (.int (f i) :: rest))) : W p l e R s m args below meth c H locs cells slots Q (F0 m pc ls (.int (nI i) :: .ref a :: rest)) :=
  va_iald hexec hb hK hP q0 t0 ha ht (vp_in_nI hin.1 hin.2) hdg (by rw [nI_clamp (Nat.lt_trans hin.1 hin.2)]; exact kk)
theorem va_laldN (hexec : p.tables.exec = Jvm.exec) (hb : c.code = cc) (hK : va_K D cl tys s) (hP : va_P D cl ws H) (q0 t0 : Nat) {cA : ClassId} {n : Nat} {f : Nat → Int64} (ha : ws[q0]? = some (a, .inl (cA, n, .inr (.inl f)))) (ht : tys[t0]? = some (cA, .long)) {i : Nat} (hin : i < n ∧ n < 2 ^ 31) (hdg : decode cc pc = .ok (.laload, 1))
    (kk : W p l e R s m args below meth c H locs cells slots Q (F0 m (pc + 1) ls (.long (f i) :: rest))) : W p l e R s m args below meth c H locs cells slots Q (F0 m pc ls (.int (nI i) :: .ref a :: rest)) :=
  va_lald hexec hb hK hP q0 t0 ha ht (vp_in_nI hin.1 hin.2) hdg (by rw [nI_clamp (Nat.lt_trans hin.1 hin.2)]; exact kk)
theorem va_iastN (hexec : p.tables.exec = Jvm.exec) (hb : c.code = cc) (hK : va_K D cl tys s) (hP : va_P D cl ws H) (hD : va_D A ws) (hS : va_S A H0 H locs) (q0 t0 : Nat) {cA : ClassId} {n : Nat} {f : Nat → Int32} (ha : ws[q0]? = some (a, .inl (cA, n, .inl f))) (ht : tys[t0]? = some (cA, .int)) {i : Nat} {x : Int32} (hin : i < n ∧ n < 2 ^ 31) (hdg : decode cc pc = .ok (.iastore, 1))
    (kk : ∀ (H1 : Heap) (locs1 : List Loc), va_P D cl (ws.set q0 (a, .inl (cA, n, .inl (upd f i x)))) H1 → va_D A (ws.set q0 (a, .inl (cA, n, .inl (upd f i x)))) → va_S A H0 H1 locs1 → W p l e R s m args below meth c H1 locs1 cells slots Q (F0 m (pc + 1) ls rest)) : W p l e R s m args below meth c H locs cells slots Q (F0 m pc ls (.int x :: .int (nI i) :: .ref a :: rest)) :=
  va_iast hexec hb hK hP hD hS q0 t0 ha ht (vp_in_nI hin.1 hin.2) hdg (by rw [nI_clamp (Nat.lt_trans hin.1 hin.2)]; exact kk)
theorem va_lastN (hexec : p.tables.exec = Jvm.exec) (hb : c.code = cc) (hK : va_K D cl tys s) (hP : va_P D cl ws H) (hD : va_D A ws) (hS : va_S A H0 H locs) (q0 t0 : Nat) {cA : ClassId} {n : Nat} {f : Nat → Int64} (ha : ws[q0]? = some (a, .inl (cA, n, .inr (.inl f)))) (ht : tys[t0]? = some (cA, .long)) {i : Nat} {x : Int64} (hin : i < n ∧ n < 2 ^ 31) (hdg : decode cc pc = .ok (.lastore, 1))
    (kk : ∀ (H1 : Heap) (locs1 : List Loc), va_P D cl (ws.set q0 (a, .inl (cA, n, .inr (.inl (vp_updL f i x))))) H1 → va_D A (ws.set q0 (a, .inl (cA, n, .inr (.inl (vp_updL f i x))))) → va_S A H0 H1 locs1 → W p l e R s m args below meth c H1 locs1 cells slots Q (F0 m (pc + 1) ls rest)) : W p l e R s m args below meth c H locs cells slots Q (F0 m pc ls (.long x :: .int (nI i) :: .ref a :: rest)) :=
  va_last hexec hb hK hP hD hS q0 t0 ha ht (vp_in_nI hin.1 hin.2) hdg (by rw [nI_clamp (Nat.lt_trans hin.1 hin.2)]; exact kk)
end KX

