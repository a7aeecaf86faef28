abbrev b_kv_init : ByteArray := prog_3_method_1_code
def y_kv_init : MethodName := ⟨R_kv, "<init>", "()V"⟩
def w_kv_init : List Cond := .code y_kv_init b_kv_init 1 none :: kt_T
theorem d_kv_init_0 : decode b_kv_init 0 = .ok (.aload_n 0, 1) := by decide +kernel
theorem d_kv_init_1 : decode b_kv_init 1 = .ok (.invokespecial 3, 3) := by decide +kernel
theorem d_kv_init_4 : decode b_kv_init 4 = .ok (.aload_n 0, 1) := by decide +kernel
theorem d_kv_init_5 : decode b_kv_init 5 = .ok (.sipush 300, 3) := by decide +kernel
theorem d_kv_init_8 : decode b_kv_init 8 = .ok (.newarray .int, 2) := by decide +kernel
theorem d_kv_init_10 : decode b_kv_init 10 = .ok (.putfield 11, 3) := by decide +kernel
theorem d_kv_init_13 : decode b_kv_init 13 = .ok (.aload_n 0, 1) := by decide +kernel
theorem d_kv_init_14 : decode b_kv_init 14 = .ok (.sipush 300, 3) := by decide +kernel
theorem d_kv_init_17 : decode b_kv_init 17 = .ok (.newarray .int, 2) := by decide +kernel
theorem d_kv_init_19 : decode b_kv_init 19 = .ok (.putfield 15, 3) := by decide +kernel
theorem d_kv_init_22 : decode b_kv_init 22 = .ok (.aload_n 0, 1) := by decide +kernel
theorem d_kv_init_23 : decode b_kv_init 23 = .ok (.iconst 0, 1) := by decide +kernel
theorem d_kv_init_24 : decode b_kv_init 24 = .ok (.putfield 18, 3) := by decide +kernel
theorem d_kv_init_27 : decode b_kv_init 27 = .ok (.return_, 1) := by decide +kernel
abbrev b_kw_init : ByteArray := prog_4_method_1_code
def y_kw_init : MethodName := ⟨R_kw, "<init>", "()V"⟩
def w_kw_init : List Cond := .code y_kw_init b_kw_init 1 none :: kt_T
theorem d_kw_init_0 : decode b_kw_init 0 = .ok (.aload_n 0, 1) := by decide +kernel
theorem d_kw_init_1 : decode b_kw_init 1 = .ok (.invokespecial 3, 3) := by decide +kernel
theorem d_kw_init_4 : decode b_kw_init 4 = .ok (.aload_n 0, 1) := by decide +kernel
theorem d_kw_init_5 : decode b_kw_init 5 = .ok (.bipush 12, 2) := by decide +kernel
theorem d_kw_init_7 : decode b_kw_init 7 = .ok (.newarray .int, 2) := by decide +kernel
theorem d_kw_init_9 : decode b_kw_init 9 = .ok (.putfield 11, 3) := by decide +kernel
theorem d_kw_init_12 : decode b_kw_init 12 = .ok (.aload_n 0, 1) := by decide +kernel
theorem d_kw_init_13 : decode b_kw_init 13 = .ok (.iconst 0, 1) := by decide +kernel
theorem d_kw_init_14 : decode b_kw_init 14 = .ok (.putfield 15, 3) := by decide +kernel
theorem d_kw_init_17 : decode b_kw_init 17 = .ok (.aload_n 0, 1) := by decide +kernel
theorem d_kw_init_18 : decode b_kw_init 18 = .ok (.lconst 0, 1) := by decide +kernel
theorem d_kw_init_19 : decode b_kw_init 19 = .ok (.putfield 19, 3) := by decide +kernel
theorem d_kw_init_22 : decode b_kw_init 22 = .ok (.return_, 1) := by decide +kernel
theorem k_122 : (.methodLink R_kv 3 objectInit : Cond) ∈ kt_T := List.mem_filter.mpr ⟨List.mem_of_getElem? (i := 44) (by decide +kernel), by decide +kernel⟩
theorem k_123 : (.instanceMethod objectInit : Cond) ∈ kt_T := List.mem_filter.mpr ⟨List.mem_of_getElem? (i := 34) (by decide +kernel), by decide +kernel⟩
theorem k_124 : (.code objectInit ⟨#[0xb1]⟩ 1 none : Cond) ∈ kt_T := List.mem_filter.mpr ⟨List.mem_of_getElem? (i := 35) (by decide +kernel), by decide +kernel⟩
theorem k_125 : (.arrayClass .int : Cond) ∈ kt_T := List.mem_filter.mpr ⟨List.mem_of_getElem? (i := 55) (by decide +kernel), by decide +kernel⟩
theorem k_126 : (.methodLink R_kw 3 objectInit : Cond) ∈ kt_T := List.mem_filter.mpr ⟨List.mem_of_getElem? (i := 91) (by decide +kernel), by decide +kernel⟩
set_option maxHeartbeats 4000000 in
set_option maxRecDepth 100000 in
theorem c_kv_init (l : Launch) (dC : Nat → ClassId) (dI : Nat → Nat → Nat) (sz : Nat) (h0 : Nat) : Met l y_kv_init w_kv_init ({ frames := 1, cells := 2, slots := 600, locals := 12 }) (va_Pc [.ref h0] (fun U => U.heap.size = sz ∧ va_P (dC, dI) classes [(h0, .inr (1, [.null, .null, .int 0]))] U.heap ∧ va_K (dC, dI) classes [] U ∧ va_D (fun _ => True) [(h0, .inr (1, [.null, .null, .int 0]))])) (va_Qv (fun _ => True) (fun (_ : Unit) t => ∃ (q_1 q_2 : Nat) (cA_1 cA_2 : ClassId), va_P (dC, dI) classes [(h0, .inr (1, [.ref q_1, .ref q_2, .int 0])), (q_1, .inl (cA_1, 300, .inl (fun _ => 0))), (q_2, .inl (cA_2, 300, .inl (fun _ => 0)))] t.heap ∧ va_K (dC, dI) classes [(cA_1, .int), (cA_2, .int)] t ∧ va_D (va_A [(h0, .inr (1, [.null, .null, .int 0]))] sz) [(h0, .inr (1, [.ref q_1, .ref q_2, .int 0])), (q_1, .inl (cA_1, 300, .inl (fun _ => 0))), (q_2, .inl (cA_2, 300, .inl (fun _ => 0)))]) (va_A [(h0, .inr (1, [.null, .null, .int 0]))] sz)) 2 600 (va_A [(h0, .inr (1, [.null, .null, .int 0]))] sz) := by
  refine Met.ofW (cc := b_kv_init) (maxL := 1) (ret := none) (by decide) rfl ?_
  intro p e s m args below meth c s₁ B hml hv
  obtain ⟨rfl, hsz, hP, hK, hD0⟩ := hv
  have hx := B.exec
  have hb := B.bytes
  have hr := B.returns
  have hts := atoms_spec (ws := w_kv_init) B.pre
  have hT := fun (w : Cond) (h : w ∈ kt_T) => hts w (List.mem_cons_of_mem _ h)
  have hown : s.vm.findClass R_kv = some m.cls := findClass_of_methodNamed B.named
  have hlocks := B.notSynchronized
  have hin : meth.name = "<init>" := (name_of_methodNamed B.named B.method).1
  subst hsz
  have hD := hD0.self (sz := s.heap.size)
  generalize hAe : va_A [(h0, .inr (1, [.null, .null, .int 0]))] s.heap.size = A at hD ⊢
  have hA : ∀ q : Nat, s.heap.size ≤ q → A q := fun q h => by rw [← hAe]; exact Or.inr h
  have hS : va_S A s.heap s.heap [] := va_S.rf
  have hl := lv_entry ([.ref h0]) (n := 1) (Nat.le_of_ble_eq_true rfl)
  rw [lg_entry_eq]
  generalize (lg_sl ([.ref h0]) ++ List.replicate (1 - (lg_sl ([.ref h0])).length) Slot.unset).toArray = ls at hl ⊢
  have hl : lv_has ls 1 [(0, .ref h0)] := hl
  refine lv_aload_n hx hb d_kv_init_0 rfl (lv_at hl 0 rfl) ?_
  refine W.objInit hx hb hown (hT _ k_122) (hT _ k_123) (hT _ k_124) rfl (by rw [hml]; exact hl.1) rfl d_kv_init_1 (Nat.le_of_ble_eq_true rfl) (Nat.le_of_ble_eq_true rfl) ?_
  refine W.eq (g2 := F0 m 4 ls []) rfl ?_
  refine lv_aload_n hx hb d_kv_init_4 rfl (lv_at hl 0 rfl) ?_
  refine lv_sipush (v := 300) hx hb d_kv_init_5 (by decide) ?_
  refine va_newa (atype := .int) (ty := .int) (a0 := (300, .inl (fun _ => 0))) hx hb (hT _ k_125) rfl hK hP hD hS hA (fun _ => rfl) (by decide) (by decide) (by decide) (Nat.le_of_ble_eq_true rfl) (Nat.le_of_ble_eq_true rfl) d_kv_init_8 (fun q_1 cA_1 H hK hP hD hS => ?_)
  have hK : va_K (dC, dI) classes [(cA_1, .int)] s := hK
  have hP : va_P (dC, dI) classes [(h0, .inr (1, [.null, .null, .int 0])), (q_1, .inl (cA_1, 300, .inl (fun _ => 0)))] H := hP
  have hD : va_D A [(h0, .inr (1, [.null, .null, .int 0])), (q_1, .inl (cA_1, 300, .inl (fun _ => 0)))] := hD
  refine va_putF (D := (dC, dI)) (ci := 1) (v := .ref q_1) (ty := .array .int) (C := R_kv) (T := F_kv) (N := 3) hx hb hT i_kv t_kv t_kv_ok n_kv hown hK hP hD hS 0 rfl rfl 0 (by decide) (hT _ k_6) (fun _ h9 => h9) rfl hin rfl (by decide +kernel) rfl rfl (Nat.le_of_ble_eq_true rfl) d_kv_init_10 (fun H locs hP hD hS => ?_)
  have hP : va_P (dC, dI) classes [(h0, .inr (1, [.ref q_1, .null, .int 0])), (q_1, .inl (cA_1, 300, .inl (fun _ => 0)))] H := hP
  have hD : va_D A [(h0, .inr (1, [.ref q_1, .null, .int 0])), (q_1, .inl (cA_1, 300, .inl (fun _ => 0)))] := hD
  refine lv_aload_n hx hb d_kv_init_13 rfl (lv_at hl 0 rfl) ?_
  refine lv_sipush (v := 300) hx hb d_kv_init_14 (by decide) ?_
  refine va_newa (atype := .int) (ty := .int) (a0 := (300, .inl (fun _ => 0))) hx hb (hT _ k_125) rfl hK hP hD hS hA (fun _ => rfl) (by decide) (by decide) (by decide) (Nat.le_of_ble_eq_true rfl) (Nat.le_of_ble_eq_true rfl) d_kv_init_17 (fun q_2 cA_2 H hK hP hD hS => ?_)
  have hK : va_K (dC, dI) classes [(cA_1, .int), (cA_2, .int)] s := hK
  have hP : va_P (dC, dI) classes [(h0, .inr (1, [.ref q_1, .null, .int 0])), (q_1, .inl (cA_1, 300, .inl (fun _ => 0))), (q_2, .inl (cA_2, 300, .inl (fun _ => 0)))] H := hP
  have hD : va_D A [(h0, .inr (1, [.ref q_1, .null, .int 0])), (q_1, .inl (cA_1, 300, .inl (fun _ => 0))), (q_2, .inl (cA_2, 300, .inl (fun _ => 0)))] := hD
  refine va_putF (D := (dC, dI)) (ci := 1) (v := .ref q_2) (ty := .array .int) (C := R_kv) (T := F_kv) (N := 3) hx hb hT i_kv t_kv t_kv_ok n_kv hown hK hP hD hS 0 rfl rfl 1 (by decide) (hT _ k_7) (fun _ h9 => h9) rfl hin rfl (by decide +kernel) rfl rfl (Nat.le_of_ble_eq_true rfl) d_kv_init_19 (fun H locs hP hD hS => ?_)
  have hP : va_P (dC, dI) classes [(h0, .inr (1, [.ref q_1, .ref q_2, .int 0])), (q_1, .inl (cA_1, 300, .inl (fun _ => 0))), (q_2, .inl (cA_2, 300, .inl (fun _ => 0)))] H := hP
  have hD : va_D A [(h0, .inr (1, [.ref q_1, .ref q_2, .int 0])), (q_1, .inl (cA_1, 300, .inl (fun _ => 0))), (q_2, .inl (cA_2, 300, .inl (fun _ => 0)))] := hD
  refine lv_aload_n hx hb d_kv_init_22 rfl (lv_at hl 0 rfl) ?_
  refine lv_iconst (v := 0) hx hb d_kv_init_23 (by decide) ?_
  refine va_put (D := (dC, dI)) (ci := 1) (v := .int 0) (ty := .int) (C := R_kv) (T := F_kv) (N := 3) hx hb hT i_kv t_kv t_kv_ok n_kv hown hK hP hD hS 0 rfl rfl 2 (by decide) (hT _ k_0) (fun _ h9 => h9) rfl (by decide +kernel) rfl rfl (Nat.le_of_ble_eq_true rfl) d_kv_init_24 (fun H locs hP hD hS => ?_)
  have hP : va_P (dC, dI) classes [(h0, .inr (1, [.ref q_1, .ref q_2, .int 0])), (q_1, .inl (cA_1, 300, .inl (fun _ => 0))), (q_2, .inl (cA_2, 300, .inl (fun _ => 0)))] H := hP
  have hD : va_D A [(h0, .inr (1, [.ref q_1, .ref q_2, .int 0])), (q_1, .inl (cA_1, 300, .inl (fun _ => 0))), (q_2, .inl (cA_2, 300, .inl (fun _ => 0)))] := hD
  refine W.widen (k := 2) (n := 600) (Nat.le_of_ble_eq_true rfl) (Nat.le_of_ble_eq_true rfl) ?_
  exact W.vret hx hb hr (fun t ht hW => ⟨⟨(), rfl, trivial, q_1, q_2, cA_1, cA_2, by rw [ht]; exact hP, va_K.moved hW.alike hK, hD⟩, hS.F ht⟩) hS.2.2 d_kv_init_27
set_option maxHeartbeats 4000000 in
set_option maxRecDepth 100000 in
theorem c_kw_init (l : Launch) (dC : Nat → ClassId) (dI : Nat → Nat → Nat) (sz : Nat) (h0 : Nat) : Met l y_kw_init w_kw_init ({ frames := 1, cells := 1, slots := 12, locals := 12 }) (va_Pc [.ref h0] (fun U => U.heap.size = sz ∧ va_P (dC, dI) classes [(h0, .inr (3, [.null, .int 0, .long 0]))] U.heap ∧ va_K (dC, dI) classes [] U ∧ va_D (fun _ => True) [(h0, .inr (3, [.null, .int 0, .long 0]))])) (va_Qv (fun _ => True) (fun (_ : Unit) t => ∃ (q_1 : Nat) (cA_1 : ClassId), va_P (dC, dI) classes [(h0, .inr (3, [.ref q_1, .int 0, .long 0])), (q_1, .inl (cA_1, 12, .inl (fun _ => 0)))] t.heap ∧ va_K (dC, dI) classes [(cA_1, .int)] t ∧ va_D (va_A [(h0, .inr (3, [.null, .int 0, .long 0]))] sz) [(h0, .inr (3, [.ref q_1, .int 0, .long 0])), (q_1, .inl (cA_1, 12, .inl (fun _ => 0)))]) (va_A [(h0, .inr (3, [.null, .int 0, .long 0]))] sz)) 1 12 (va_A [(h0, .inr (3, [.null, .int 0, .long 0]))] sz) := by
  refine Met.ofW (cc := b_kw_init) (maxL := 1) (ret := none) (by decide) rfl ?_
  intro p e s m args below meth c s₁ B hml hv
  obtain ⟨rfl, hsz, hP, hK, hD0⟩ := hv
  have hx := B.exec
  have hb := B.bytes
  have hr := B.returns
  have hts := atoms_spec (ws := w_kw_init) B.pre
  have hT := fun (w : Cond) (h : w ∈ kt_T) => hts w (List.mem_cons_of_mem _ h)
  have hown : s.vm.findClass R_kw = some m.cls := findClass_of_methodNamed B.named
  have hlocks := B.notSynchronized
  have hin : meth.name = "<init>" := (name_of_methodNamed B.named B.method).1
  subst hsz
  have hD := hD0.self (sz := s.heap.size)
  generalize hAe : va_A [(h0, .inr (3, [.null, .int 0, .long 0]))] s.heap.size = A at hD ⊢
  have hA : ∀ q : Nat, s.heap.size ≤ q → A q := fun q h => by rw [← hAe]; exact Or.inr h
  have hS : va_S A s.heap s.heap [] := va_S.rf
  have hl := lv_entry ([.ref h0]) (n := 1) (Nat.le_of_ble_eq_true rfl)
  rw [lg_entry_eq]
  generalize (lg_sl ([.ref h0]) ++ List.replicate (1 - (lg_sl ([.ref h0])).length) Slot.unset).toArray = ls at hl ⊢
  have hl : lv_has ls 1 [(0, .ref h0)] := hl
  refine lv_aload_n hx hb d_kw_init_0 rfl (lv_at hl 0 rfl) ?_
  refine W.objInit hx hb hown (hT _ k_126) (hT _ k_123) (hT _ k_124) rfl (by rw [hml]; exact hl.1) rfl d_kw_init_1 (Nat.le_of_ble_eq_true rfl) (Nat.le_of_ble_eq_true rfl) ?_
  refine W.eq (g2 := F0 m 4 ls []) rfl ?_
  refine lv_aload_n hx hb d_kw_init_4 rfl (lv_at hl 0 rfl) ?_
  refine lv_bipush (v := 12) hx hb d_kw_init_5 (by decide) ?_
  refine va_newa (atype := .int) (ty := .int) (a0 := (12, .inl (fun _ => 0))) hx hb (hT _ k_125) rfl hK hP hD hS hA (fun _ => rfl) (by decide) (by decide) (by decide) (Nat.le_of_ble_eq_true rfl) (Nat.le_of_ble_eq_true rfl) d_kw_init_7 (fun q_1 cA_1 H hK hP hD hS => ?_)
  have hK : va_K (dC, dI) classes [(cA_1, .int)] s := hK
  have hP : va_P (dC, dI) classes [(h0, .inr (3, [.null, .int 0, .long 0])), (q_1, .inl (cA_1, 12, .inl (fun _ => 0)))] H := hP
  have hD : va_D A [(h0, .inr (3, [.null, .int 0, .long 0])), (q_1, .inl (cA_1, 12, .inl (fun _ => 0)))] := hD
  refine va_putF (D := (dC, dI)) (ci := 3) (v := .ref q_1) (ty := .array .int) (C := R_kw) (T := F_kw) (N := 3) hx hb hT i_kw t_kw t_kw_ok n_kw hown hK hP hD hS 0 rfl rfl 0 (by decide) (hT _ k_61) (fun _ h9 => h9) rfl hin rfl (by decide +kernel) rfl rfl (Nat.le_of_ble_eq_true rfl) d_kw_init_9 (fun H locs hP hD hS => ?_)
  have hP : va_P (dC, dI) classes [(h0, .inr (3, [.ref q_1, .int 0, .long 0])), (q_1, .inl (cA_1, 12, .inl (fun _ => 0)))] H := hP
  have hD : va_D A [(h0, .inr (3, [.ref q_1, .int 0, .long 0])), (q_1, .inl (cA_1, 12, .inl (fun _ => 0)))] := hD
  refine lv_aload_n hx hb d_kw_init_12 rfl (lv_at hl 0 rfl) ?_
  refine lv_iconst (v := 0) hx hb d_kw_init_13 (by decide) ?_
  refine va_put (D := (dC, dI)) (ci := 3) (v := .int 0) (ty := .int) (C := R_kw) (T := F_kw) (N := 3) hx hb hT i_kw t_kw t_kw_ok n_kw hown hK hP hD hS 0 rfl rfl 1 (by decide) (hT _ k_60) (fun _ h9 => h9) rfl (by decide +kernel) rfl rfl (Nat.le_of_ble_eq_true rfl) d_kw_init_14 (fun H locs hP hD hS => ?_)
  have hP : va_P (dC, dI) classes [(h0, .inr (3, [.ref q_1, .int 0, .long 0])), (q_1, .inl (cA_1, 12, .inl (fun _ => 0)))] H := hP
  have hD : va_D A [(h0, .inr (3, [.ref q_1, .int 0, .long 0])), (q_1, .inl (cA_1, 12, .inl (fun _ => 0)))] := hD
  refine lv_aload_n hx hb d_kw_init_17 rfl (lv_at hl 0 rfl) ?_
  refine lv_lconst (v := 0) hx hb d_kw_init_18 (by decide) ?_
  refine va_put (D := (dC, dI)) (ci := 3) (v := .long 0) (ty := .long) (C := R_kw) (T := F_kw) (N := 3) hx hb hT i_kw t_kw t_kw_ok n_kw hown hK hP hD hS 0 rfl rfl 2 (by decide) (hT _ k_62) (fun _ h9 => h9) rfl (by decide +kernel) rfl rfl (Nat.le_of_ble_eq_true rfl) d_kw_init_19 (fun H locs hP hD hS => ?_)
  have hP : va_P (dC, dI) classes [(h0, .inr (3, [.ref q_1, .int 0, .long 0])), (q_1, .inl (cA_1, 12, .inl (fun _ => 0)))] H := hP
  have hD : va_D A [(h0, .inr (3, [.ref q_1, .int 0, .long 0])), (q_1, .inl (cA_1, 12, .inl (fun _ => 0)))] := hD
  refine W.widen (k := 1) (n := 12) (Nat.le_of_ble_eq_true rfl) (Nat.le_of_ble_eq_true rfl) ?_
  exact W.vret hx hb hr (fun t ht hW => ⟨⟨(), rfl, trivial, q_1, cA_1, by rw [ht]; exact hP, va_K.moved hW.alike hK, hD⟩, hS.F ht⟩) hS.2.2 d_kw_init_22
