abbrev b_jm_floorDiv : ByteArray := prog_10_method_49_code
def y_jm_floorDiv : MethodName := ⟨R_jm, "floorDiv", "(JJ)J"⟩
def w_jm_floorDiv : List Cond := .code y_jm_floorDiv b_jm_floorDiv 6 (some .long) :: kt_T
theorem d_jm_floorDiv_0 : decode b_jm_floorDiv 0 = .ok (.lload_n 0, 1) := by decide +kernel
theorem d_jm_floorDiv_1 : decode b_jm_floorDiv 1 = .ok (.lload_n 2, 1) := by decide +kernel
theorem d_jm_floorDiv_2 : decode b_jm_floorDiv 2 = .ok (.ldiv, 1) := by decide +kernel
theorem d_jm_floorDiv_3 : decode b_jm_floorDiv 3 = .ok (.lstore 4, 2) := by decide +kernel
theorem d_jm_floorDiv_5 : decode b_jm_floorDiv 5 = .ok (.lload_n 0, 1) := by decide +kernel
theorem d_jm_floorDiv_6 : decode b_jm_floorDiv 6 = .ok (.lload_n 2, 1) := by decide +kernel
theorem d_jm_floorDiv_7 : decode b_jm_floorDiv 7 = .ok (.lxor, 1) := by decide +kernel
theorem d_jm_floorDiv_8 : decode b_jm_floorDiv 8 = .ok (.lconst 0, 1) := by decide +kernel
theorem d_jm_floorDiv_9 : decode b_jm_floorDiv 9 = .ok (.lcmp, 1) := by decide +kernel
theorem d_jm_floorDiv_10 : decode b_jm_floorDiv 10 = .ok (.ifCond .ge 17, 3) := by decide +kernel
theorem d_jm_floorDiv_13 : decode b_jm_floorDiv 13 = .ok (.lload 4, 2) := by decide +kernel
theorem d_jm_floorDiv_15 : decode b_jm_floorDiv 15 = .ok (.lload_n 2, 1) := by decide +kernel
theorem d_jm_floorDiv_16 : decode b_jm_floorDiv 16 = .ok (.lmul, 1) := by decide +kernel
theorem d_jm_floorDiv_17 : decode b_jm_floorDiv 17 = .ok (.lload_n 0, 1) := by decide +kernel
theorem d_jm_floorDiv_18 : decode b_jm_floorDiv 18 = .ok (.lcmp, 1) := by decide +kernel
theorem d_jm_floorDiv_19 : decode b_jm_floorDiv 19 = .ok (.ifCond .eq 8, 3) := by decide +kernel
theorem d_jm_floorDiv_22 : decode b_jm_floorDiv 22 = .ok (.lload 4, 2) := by decide +kernel
theorem d_jm_floorDiv_24 : decode b_jm_floorDiv 24 = .ok (.lconst 1, 1) := by decide +kernel
theorem d_jm_floorDiv_25 : decode b_jm_floorDiv 25 = .ok (.lsub, 1) := by decide +kernel
theorem d_jm_floorDiv_26 : decode b_jm_floorDiv 26 = .ok (.lreturn, 1) := by decide +kernel
theorem d_jm_floorDiv_27 : decode b_jm_floorDiv 27 = .ok (.lload 4, 2) := by decide +kernel
theorem d_jm_floorDiv_29 : decode b_jm_floorDiv 29 = .ok (.lreturn, 1) := by decide +kernel
abbrev b_jm_floorMod : ByteArray := prog_10_method_52_code
def y_jm_floorMod : MethodName := ⟨R_jm, "floorMod", "(JJ)J"⟩
def w_jm_floorMod : List Cond := .code y_jm_floorMod b_jm_floorMod 6 (some .long) :: kt_T
theorem d_jm_floorMod_0 : decode b_jm_floorMod 0 = .ok (.lload_n 0, 1) := by decide +kernel
theorem d_jm_floorMod_1 : decode b_jm_floorMod 1 = .ok (.lload_n 2, 1) := by decide +kernel
theorem d_jm_floorMod_2 : decode b_jm_floorMod 2 = .ok (.lrem, 1) := by decide +kernel
theorem d_jm_floorMod_3 : decode b_jm_floorMod 3 = .ok (.lstore 4, 2) := by decide +kernel
theorem d_jm_floorMod_5 : decode b_jm_floorMod 5 = .ok (.lload_n 0, 1) := by decide +kernel
theorem d_jm_floorMod_6 : decode b_jm_floorMod 6 = .ok (.lload_n 2, 1) := by decide +kernel
theorem d_jm_floorMod_7 : decode b_jm_floorMod 7 = .ok (.lxor, 1) := by decide +kernel
theorem d_jm_floorMod_8 : decode b_jm_floorMod 8 = .ok (.lconst 0, 1) := by decide +kernel
theorem d_jm_floorMod_9 : decode b_jm_floorMod 9 = .ok (.lcmp, 1) := by decide +kernel
theorem d_jm_floorMod_10 : decode b_jm_floorMod 10 = .ok (.ifCond .ge 15, 3) := by decide +kernel
theorem d_jm_floorMod_13 : decode b_jm_floorMod 13 = .ok (.lload 4, 2) := by decide +kernel
theorem d_jm_floorMod_15 : decode b_jm_floorMod 15 = .ok (.lconst 0, 1) := by decide +kernel
theorem d_jm_floorMod_16 : decode b_jm_floorMod 16 = .ok (.lcmp, 1) := by decide +kernel
theorem d_jm_floorMod_17 : decode b_jm_floorMod 17 = .ok (.ifCond .eq 8, 3) := by decide +kernel
theorem d_jm_floorMod_20 : decode b_jm_floorMod 20 = .ok (.lload 4, 2) := by decide +kernel
theorem d_jm_floorMod_22 : decode b_jm_floorMod 22 = .ok (.lload_n 2, 1) := by decide +kernel
theorem d_jm_floorMod_23 : decode b_jm_floorMod 23 = .ok (.ladd, 1) := by decide +kernel
theorem d_jm_floorMod_24 : decode b_jm_floorMod 24 = .ok (.lreturn, 1) := by decide +kernel
theorem d_jm_floorMod_25 : decode b_jm_floorMod 25 = .ok (.lload 4, 2) := by decide +kernel
theorem d_jm_floorMod_27 : decode b_jm_floorMod 27 = .ok (.lreturn, 1) := by decide +kernel
abbrev b_jm_abs : ByteArray := prog_10_method_59_code
def y_jm_abs : MethodName := ⟨R_jm, "abs", "(I)I"⟩
def w_jm_abs : List Cond := .code y_jm_abs b_jm_abs 1 (some .int) :: kt_T
theorem d_jm_abs_0 : decode b_jm_abs 0 = .ok (.iload_n 0, 1) := by decide +kernel
theorem d_jm_abs_1 : decode b_jm_abs 1 = .ok (.ifCond .ge 8, 3) := by decide +kernel
theorem d_jm_abs_4 : decode b_jm_abs 4 = .ok (.iload_n 0, 1) := by decide +kernel
theorem d_jm_abs_5 : decode b_jm_abs 5 = .ok (.ineg, 1) := by decide +kernel
theorem d_jm_abs_6 : decode b_jm_abs 6 = .ok (.goto 4, 3) := by decide +kernel
theorem d_jm_abs_9 : decode b_jm_abs 9 = .ok (.iload_n 0, 1) := by decide +kernel
theorem d_jm_abs_10 : decode b_jm_abs 10 = .ok (.ireturn, 1) := by decide +kernel
def f_jm_floorDiv (x : Int64) (y : Int64) : Int64 :=
  if 0 ≤ (x ^^^ y) then (x / y) else if ((x / y) * y) = x then (x / y) else ((x / y) - 1)
set_option maxHeartbeats 4000000 in
set_option maxRecDepth 100000 in
theorem c_jm_floorDiv (l : Launch) (x : Int64) (y : Int64) (hy : ¬ y = 0) : Met l y_jm_floorDiv w_jm_floorDiv ({ frames := 0, cells := 0, slots := 0, locals := 0 }) (va_Pc [.long x, .long y] (fun _ => True)) (vp_Sl (fun z9 => z9 = f_jm_floorDiv x y)) 0 0 (fun _ => False) := by
  refine va_MetF (cc := b_jm_floorDiv) (maxL := 6) (ret := (some .long)) (by decide +kernel) rfl ?_
  intro p e s m args below meth c s₁ B hml hv
  obtain ⟨rfl, -⟩ := hv
  have hx := B.exec
  have hb := B.bytes
  have hr := B.returns
  have hts := atoms_spec (ws := w_jm_floorDiv) B.pre
  have hT := fun (w : Cond) (h : w ∈ kt_T) => hts w (List.mem_cons_of_mem _ h)
  have hown : s.vm.findClass R_jm = some m.cls := findClass_of_methodNamed B.named
  have hlocks := B.notSynchronized
  have hl := lv_entry ([.long x, .long y]) (n := 6) (Nat.le_of_ble_eq_true rfl)
  rw [lg_entry_eq]
  generalize (lg_sl ([.long x, .long y]) ++ List.replicate (6 - (lg_sl ([.long x, .long y])).length) Slot.unset).toArray = ls at hl ⊢
  have hl : lv_has ls 6 [(0, .long x), (2, .long y)] := hl
  refine lv_lload_n hx hb d_jm_floorDiv_0 rfl (lv_at hl 0 rfl) ?_
  refine lv_lload_n hx hb d_jm_floorDiv_1 rfl (lv_at hl 1 rfl) ?_
  refine lv_ldiv hx hb d_jm_floorDiv_2 hy ?_
  refine lv_lstore (lv' := [(4, .long (x / y)), (0, .long x), (2, .long y)]) hx hb d_jm_floorDiv_3 hl (by decide) rfl (fun ls hl => ?_)
  refine lv_lload_n hx hb d_jm_floorDiv_5 rfl (lv_at hl 1 rfl) ?_
  refine lv_lload_n hx hb d_jm_floorDiv_6 rfl (lv_at hl 2 rfl) ?_
  refine lv_lxor hx hb d_jm_floorDiv_7 ?_
  refine lv_lconst (v := 0) hx hb d_jm_floorDiv_8 (by decide) ?_
  refine lx_ifge (tgt := 27) hx hb d_jm_floorDiv_9 d_jm_floorDiv_10 (by decide) (fun c_1 => ?_) (fun c_1 => ?_)
  · refine lv_lload hx hb d_jm_floorDiv_27 (lv_at hl 0 rfl) ?_
    exact W.lret (v := x / y) hx hb hr (fun t ht hW => ⟨_, rfl, by unfold f_jm_floorDiv; rw [if_pos c_1], ht⟩) t_nil d_jm_floorDiv_29
  · refine lv_lload hx hb d_jm_floorDiv_13 (lv_at hl 0 rfl) ?_
    refine lv_lload_n hx hb d_jm_floorDiv_15 rfl (lv_at hl 2 rfl) ?_
    refine lv_lmul hx hb d_jm_floorDiv_16 ?_
    refine lv_lload_n hx hb d_jm_floorDiv_17 rfl (lv_at hl 1 rfl) ?_
    refine lx_ifeq (tgt := 27) hx hb d_jm_floorDiv_18 d_jm_floorDiv_19 (by decide) (fun c_2 => ?_) (fun c_2 => ?_)
    · refine lv_lload hx hb d_jm_floorDiv_27 (lv_at hl 0 rfl) ?_
      exact W.lret (v := x / y) hx hb hr (fun t ht hW => ⟨_, rfl, by unfold f_jm_floorDiv; rw [if_neg c_1, if_pos c_2], ht⟩) t_nil d_jm_floorDiv_29
    · refine lv_lload hx hb d_jm_floorDiv_22 (lv_at hl 0 rfl) ?_
      refine lv_lconst (v := 1) hx hb d_jm_floorDiv_24 (by decide) ?_
      refine lv_lsub hx hb d_jm_floorDiv_25 ?_
      exact W.lret (v := (x / y) - 1) hx hb hr (fun t ht hW => ⟨_, rfl, by unfold f_jm_floorDiv; rw [if_neg c_1, if_neg c_2], ht⟩) t_nil d_jm_floorDiv_26
def f_jm_floorMod (x : Int64) (y : Int64) : Int64 :=
  if 0 ≤ (x ^^^ y) then (x - x / y * y) else if (x - x / y * y) = 0 then (x - x / y * y) else ((x - x / y * y) + y)
set_option maxHeartbeats 4000000 in
set_option maxRecDepth 100000 in
theorem c_jm_floorMod (l : Launch) (x : Int64) (y : Int64) (hy : ¬ y = 0) : Met l y_jm_floorMod w_jm_floorMod ({ frames := 0, cells := 0, slots := 0, locals := 0 }) (va_Pc [.long x, .long y] (fun _ => True)) (vp_Sl (fun z9 => z9 = f_jm_floorMod x y)) 0 0 (fun _ => False) := by
  refine va_MetF (cc := b_jm_floorMod) (maxL := 6) (ret := (some .long)) (by decide +kernel) rfl ?_
  intro p e s m args below meth c s₁ B hml hv
  obtain ⟨rfl, -⟩ := hv
  have hx := B.exec
  have hb := B.bytes
  have hr := B.returns
  have hts := atoms_spec (ws := w_jm_floorMod) B.pre
  have hT := fun (w : Cond) (h : w ∈ kt_T) => hts w (List.mem_cons_of_mem _ h)
  have hown : s.vm.findClass R_jm = some m.cls := findClass_of_methodNamed B.named
  have hlocks := B.notSynchronized
  have hl := lv_entry ([.long x, .long y]) (n := 6) (Nat.le_of_ble_eq_true rfl)
  rw [lg_entry_eq]
  generalize (lg_sl ([.long x, .long y]) ++ List.replicate (6 - (lg_sl ([.long x, .long y])).length) Slot.unset).toArray = ls at hl ⊢
  have hl : lv_has ls 6 [(0, .long x), (2, .long y)] := hl
  refine lv_lload_n hx hb d_jm_floorMod_0 rfl (lv_at hl 0 rfl) ?_
  refine lv_lload_n hx hb d_jm_floorMod_1 rfl (lv_at hl 1 rfl) ?_
  refine lv_lrem hx hb d_jm_floorMod_2 hy ?_
  refine lv_lstore (lv' := [(4, .long (x - x / y * y)), (0, .long x), (2, .long y)]) hx hb d_jm_floorMod_3 hl (by decide) rfl (fun ls hl => ?_)
  refine lv_lload_n hx hb d_jm_floorMod_5 rfl (lv_at hl 1 rfl) ?_
  refine lv_lload_n hx hb d_jm_floorMod_6 rfl (lv_at hl 2 rfl) ?_
  refine lv_lxor hx hb d_jm_floorMod_7 ?_
  refine lv_lconst (v := 0) hx hb d_jm_floorMod_8 (by decide) ?_
  refine lx_ifge (tgt := 25) hx hb d_jm_floorMod_9 d_jm_floorMod_10 (by decide) (fun c_1 => ?_) (fun c_1 => ?_)
  · refine lv_lload hx hb d_jm_floorMod_25 (lv_at hl 0 rfl) ?_
    exact W.lret (v := x - x / y * y) hx hb hr (fun t ht hW => ⟨_, rfl, by unfold f_jm_floorMod; rw [if_pos c_1], ht⟩) t_nil d_jm_floorMod_27
  · refine lv_lload hx hb d_jm_floorMod_13 (lv_at hl 0 rfl) ?_
    refine lv_lconst (v := 0) hx hb d_jm_floorMod_15 (by decide) ?_
    refine lx_ifeq (tgt := 25) hx hb d_jm_floorMod_16 d_jm_floorMod_17 (by decide) (fun c_2 => ?_) (fun c_2 => ?_)
    · refine lv_lload hx hb d_jm_floorMod_25 (lv_at hl 0 rfl) ?_
      exact W.lret (v := x - x / y * y) hx hb hr (fun t ht hW => ⟨_, rfl, by unfold f_jm_floorMod; rw [if_neg c_1, if_pos c_2], ht⟩) t_nil d_jm_floorMod_27
    · refine lv_lload hx hb d_jm_floorMod_20 (lv_at hl 0 rfl) ?_
      refine lv_lload_n hx hb d_jm_floorMod_22 rfl (lv_at hl 2 rfl) ?_
      refine lv_ladd hx hb d_jm_floorMod_23 ?_
      exact W.lret (v := (x - x / y * y) + y) hx hb hr (fun t ht hW => ⟨_, rfl, by unfold f_jm_floorMod; rw [if_neg c_1, if_neg c_2], ht⟩) t_nil d_jm_floorMod_24
def f_jm_abs (x : Int32) : Int32 :=
  if 0 ≤ x then x else -x
set_option maxHeartbeats 4000000 in
set_option maxRecDepth 100000 in
theorem c_jm_abs (l : Launch) (x : Int32) : Met l y_jm_abs w_jm_abs ({ frames := 0, cells := 0, slots := 0, locals := 0 }) (va_Pc [.int x] (fun _ => True)) (vp_Si (fun z9 => z9 = f_jm_abs x)) 0 0 (fun _ => False) := by
  refine va_MetF (cc := b_jm_abs) (maxL := 1) (ret := (some .int)) (by decide +kernel) rfl ?_
  intro p e s m args below meth c s₁ B hml hv
  obtain ⟨rfl, -⟩ := hv
  have hx := B.exec
  have hb := B.bytes
  have hr := B.returns
  have hts := atoms_spec (ws := w_jm_abs) B.pre
  have hT := fun (w : Cond) (h : w ∈ kt_T) => hts w (List.mem_cons_of_mem _ h)
  have hown : s.vm.findClass R_jm = some m.cls := findClass_of_methodNamed B.named
  have hlocks := B.notSynchronized
  have hl := lv_entry ([.int x]) (n := 1) (Nat.le_of_ble_eq_true rfl)
  rw [lg_entry_eq]
  generalize (lg_sl ([.int x]) ++ List.replicate (1 - (lg_sl ([.int x])).length) Slot.unset).toArray = ls at hl ⊢
  have hl : lv_has ls 1 [(0, .int x)] := hl
  refine lv_iload_n hx hb d_jm_abs_0 rfl (lv_at hl 0 rfl) ?_
  refine lv_if_ge (tgt := 9) hx hb d_jm_abs_1 (by decide) (fun c_1 => ?_) (fun c_1 => ?_)
  · refine lv_iload_n hx hb d_jm_abs_9 rfl (lv_at hl 0 rfl) ?_
    exact W.iret (v := x) hx hb hr (fun t ht hW => ⟨_, rfl, by unfold f_jm_abs; rw [if_pos c_1], ht⟩) t_nil d_jm_abs_10
  · refine lv_iload_n hx hb d_jm_abs_4 rfl (lv_at hl 0 rfl) ?_
    refine lv_ineg hx hb d_jm_abs_5 ?_
    refine lv_goto (tgt := 10) hx hb d_jm_abs_6 (by decide) ?_
    exact W.iret (v := -x) hx hb hr (fun t ht hW => ⟨_, rfl, by unfold f_jm_abs; rw [if_neg c_1], ht⟩) t_nil d_jm_abs_10
theorem ne0_of1 {x : Int64} (h : (1 : Int64) ≤ x) : ¬ x = 0 := by
  intro q
  subst q
  exact absurd h (by decide)
theorem nI_self {i : Int32} (h : ¬ i < 0) : i = nI i.toNatClampNeg ∧ i.toNatClampNeg < 2 ^ 31 := by
  obtain ⟨j, hj, rfl⟩ := nI_of h
  rw [nI_clamp hj]
  exact ⟨rfl, hj⟩
theorem nI_lt_of {i : Int32} {n : Nat} (h : ¬ i < 0) (hn : n < 2 ^ 31) (h2 : i < nI n) : i.toNatClampNeg < n := by
  obtain ⟨j, hj, rfl⟩ := nI_of h
  rw [nI_clamp hj]
  exact (nI_ltI hj hn).mp h2
