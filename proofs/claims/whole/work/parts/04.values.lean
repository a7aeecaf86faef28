abbrev b_kv_has : ByteArray := prog_3_method_2_code
def y_kv_has : MethodName := ⟨R_kv, "has", "(I)Z"⟩
def w_kv_has : List Cond := .code y_kv_has b_kv_has 2 (some .boolean) :: kt_T
theorem d_kv_has_0 : decode b_kv_has 0 = .ok (.iload_n 1, 1) := by decide +kernel
theorem d_kv_has_1 : decode b_kv_has 1 = .ok (.ifCond .lt 15, 3) := by decide +kernel
theorem d_kv_has_4 : decode b_kv_has 4 = .ok (.iload_n 1, 1) := by decide +kernel
theorem d_kv_has_5 : decode b_kv_has 5 = .ok (.aload_n 0, 1) := by decide +kernel
theorem d_kv_has_6 : decode b_kv_has 6 = .ok (.getfield 18, 3) := by decide +kernel
theorem d_kv_has_9 : decode b_kv_has 9 = .ok (.if_icmp .ge 7, 3) := by decide +kernel
theorem d_kv_has_12 : decode b_kv_has 12 = .ok (.iconst 1, 1) := by decide +kernel
theorem d_kv_has_13 : decode b_kv_has 13 = .ok (.goto 4, 3) := by decide +kernel
theorem d_kv_has_16 : decode b_kv_has 16 = .ok (.iconst 0, 1) := by decide +kernel
theorem d_kv_has_17 : decode b_kv_has 17 = .ok (.ireturn, 1) := by decide +kernel
abbrev b_kv_hasBoth : ByteArray := prog_3_method_3_code
def y_kv_hasBoth : MethodName := ⟨R_kv, "hasBoth", "(II)Z"⟩
def w_kv_hasBoth : List Cond := .code y_kv_hasBoth b_kv_hasBoth 3 (some .boolean) :: kt_T
theorem d_kv_hasBoth_0 : decode b_kv_hasBoth 0 = .ok (.aload_n 0, 1) := by decide +kernel
theorem d_kv_hasBoth_1 : decode b_kv_hasBoth 1 = .ok (.iload_n 1, 1) := by decide +kernel
theorem d_kv_hasBoth_2 : decode b_kv_hasBoth 2 = .ok (.invokevirtual 22, 3) := by decide +kernel
theorem d_kv_hasBoth_5 : decode b_kv_hasBoth 5 = .ok (.ifCond .eq 15, 3) := by decide +kernel
theorem d_kv_hasBoth_8 : decode b_kv_hasBoth 8 = .ok (.aload_n 0, 1) := by decide +kernel
theorem d_kv_hasBoth_9 : decode b_kv_hasBoth 9 = .ok (.iload_n 2, 1) := by decide +kernel
theorem d_kv_hasBoth_10 : decode b_kv_hasBoth 10 = .ok (.invokevirtual 22, 3) := by decide +kernel
theorem d_kv_hasBoth_13 : decode b_kv_hasBoth 13 = .ok (.ifCond .eq 7, 3) := by decide +kernel
theorem d_kv_hasBoth_16 : decode b_kv_hasBoth 16 = .ok (.iconst 1, 1) := by decide +kernel
theorem d_kv_hasBoth_17 : decode b_kv_hasBoth 17 = .ok (.goto 4, 3) := by decide +kernel
theorem d_kv_hasBoth_20 : decode b_kv_hasBoth 20 = .ok (.iconst 0, 1) := by decide +kernel
theorem d_kv_hasBoth_21 : decode b_kv_hasBoth 21 = .ok (.ireturn, 1) := by decide +kernel
abbrev b_kv_upper : ByteArray := prog_3_method_4_code
def y_kv_upper : MethodName := ⟨R_kv, "upper", "(I)J"⟩
def w_kv_upper : List Cond := .code y_kv_upper b_kv_upper 2 (some .long) :: kt_T
theorem d_kv_upper_0 : decode b_kv_upper 0 = .ok (.aload_n 0, 1) := by decide +kernel
theorem d_kv_upper_1 : decode b_kv_upper 1 = .ok (.getfield 11, 3) := by decide +kernel
theorem d_kv_upper_4 : decode b_kv_upper 4 = .ok (.iload_n 1, 1) := by decide +kernel
theorem d_kv_upper_5 : decode b_kv_upper 5 = .ok (.iaload, 1) := by decide +kernel
theorem d_kv_upper_6 : decode b_kv_upper 6 = .ok (.i2l, 1) := by decide +kernel
theorem d_kv_upper_7 : decode b_kv_upper 7 = .ok (.lreturn, 1) := by decide +kernel
abbrev b_kv_lower : ByteArray := prog_3_method_5_code
def y_kv_lower : MethodName := ⟨R_kv, "lower", "(I)J"⟩
def w_kv_lower : List Cond := .code y_kv_lower b_kv_lower 2 (some .long) :: kt_T
theorem d_kv_lower_0 : decode b_kv_lower 0 = .ok (.aload_n 0, 1) := by decide +kernel
theorem d_kv_lower_1 : decode b_kv_lower 1 = .ok (.getfield 15, 3) := by decide +kernel
theorem d_kv_lower_4 : decode b_kv_lower 4 = .ok (.iload_n 1, 1) := by decide +kernel
theorem d_kv_lower_5 : decode b_kv_lower 5 = .ok (.iaload, 1) := by decide +kernel
theorem d_kv_lower_6 : decode b_kv_lower 6 = .ok (.i2l, 1) := by decide +kernel
theorem d_kv_lower_7 : decode b_kv_lower 7 = .ok (.lreturn, 1) := by decide +kernel
abbrev b_kv_partOf : ByteArray := prog_3_method_6_code
def y_kv_partOf : MethodName := ⟨R_kv, "partOf", "(II)I"⟩
def w_kv_partOf : List Cond := .code y_kv_partOf b_kv_partOf 3 (some .int) :: kt_T
theorem d_kv_partOf_0 : decode b_kv_partOf 0 = .ok (.iload_n 2, 1) := by decide +kernel
theorem d_kv_partOf_1 : decode b_kv_partOf 1 = .ok (.ifCond .ne 12, 3) := by decide +kernel
theorem d_kv_partOf_4 : decode b_kv_partOf 4 = .ok (.aload_n 0, 1) := by decide +kernel
theorem d_kv_partOf_5 : decode b_kv_partOf 5 = .ok (.getfield 11, 3) := by decide +kernel
theorem d_kv_partOf_8 : decode b_kv_partOf 8 = .ok (.iload_n 1, 1) := by decide +kernel
theorem d_kv_partOf_9 : decode b_kv_partOf 9 = .ok (.iaload, 1) := by decide +kernel
theorem d_kv_partOf_10 : decode b_kv_partOf 10 = .ok (.goto 9, 3) := by decide +kernel
theorem d_kv_partOf_13 : decode b_kv_partOf 13 = .ok (.aload_n 0, 1) := by decide +kernel
theorem d_kv_partOf_14 : decode b_kv_partOf 14 = .ok (.getfield 15, 3) := by decide +kernel
theorem d_kv_partOf_17 : decode b_kv_partOf 17 = .ok (.iload_n 1, 1) := by decide +kernel
theorem d_kv_partOf_18 : decode b_kv_partOf 18 = .ok (.iaload, 1) := by decide +kernel
theorem d_kv_partOf_19 : decode b_kv_partOf 19 = .ok (.ireturn, 1) := by decide +kernel
abbrev b_kv_fits : ByteArray := prog_3_method_7_code
def y_kv_fits : MethodName := ⟨R_kv, "fits", "(JJ)Z"⟩
def w_kv_fits : List Cond := .code y_kv_fits b_kv_fits 4 (some .boolean) :: kt_T
theorem d_kv_fits_0 : decode b_kv_fits 0 = .ok (.lload_n 0, 1) := by decide +kernel
theorem d_kv_fits_1 : decode b_kv_fits 1 = .ok (.ldc2_w 26, 3) := by decide +kernel
theorem d_kv_fits_4 : decode b_kv_fits 4 = .ok (.lcmp, 1) := by decide +kernel
theorem d_kv_fits_5 : decode b_kv_fits 5 = .ok (.ifCond .lt 29, 3) := by decide +kernel
theorem d_kv_fits_8 : decode b_kv_fits 8 = .ok (.lload_n 0, 1) := by decide +kernel
theorem d_kv_fits_9 : decode b_kv_fits 9 = .ok (.ldc2_w 28, 3) := by decide +kernel
theorem d_kv_fits_12 : decode b_kv_fits 12 = .ok (.lcmp, 1) := by decide +kernel
theorem d_kv_fits_13 : decode b_kv_fits 13 = .ok (.ifCond .gt 21, 3) := by decide +kernel
theorem d_kv_fits_16 : decode b_kv_fits 16 = .ok (.lload_n 2, 1) := by decide +kernel
theorem d_kv_fits_17 : decode b_kv_fits 17 = .ok (.lconst 1, 1) := by decide +kernel
theorem d_kv_fits_18 : decode b_kv_fits 18 = .ok (.lcmp, 1) := by decide +kernel
theorem d_kv_fits_19 : decode b_kv_fits 19 = .ok (.ifCond .lt 15, 3) := by decide +kernel
theorem d_kv_fits_22 : decode b_kv_fits 22 = .ok (.lload_n 2, 1) := by decide +kernel
theorem d_kv_fits_23 : decode b_kv_fits 23 = .ok (.ldc2_w 28, 3) := by decide +kernel
theorem d_kv_fits_26 : decode b_kv_fits 26 = .ok (.lcmp, 1) := by decide +kernel
theorem d_kv_fits_27 : decode b_kv_fits 27 = .ok (.ifCond .gt 7, 3) := by decide +kernel
theorem d_kv_fits_30 : decode b_kv_fits 30 = .ok (.iconst 1, 1) := by decide +kernel
theorem d_kv_fits_31 : decode b_kv_fits 31 = .ok (.goto 4, 3) := by decide +kernel
theorem d_kv_fits_34 : decode b_kv_fits 34 = .ok (.iconst 0, 1) := by decide +kernel
theorem d_kv_fits_35 : decode b_kv_fits 35 = .ok (.ireturn, 1) := by decide +kernel
abbrev b_kv_keep : ByteArray := prog_3_method_8_code
def y_kv_keep : MethodName := ⟨R_kv, "keep", "(JJ)I"⟩
def w_kv_keep : List Cond := .code y_kv_keep b_kv_keep 11 (some .int) :: kt_T
theorem d_kv_keep_0 : decode b_kv_keep 0 = .ok (.lload_n 1, 1) := by decide +kernel
theorem d_kv_keep_1 : decode b_kv_keep 1 = .ok (.lload_n 3, 1) := by decide +kernel
theorem d_kv_keep_2 : decode b_kv_keep 2 = .ok (.invokestatic 30, 3) := by decide +kernel
theorem d_kv_keep_5 : decode b_kv_keep 5 = .ok (.lstore 5, 2) := by decide +kernel
theorem d_kv_keep_7 : decode b_kv_keep 7 = .ok (.lload 5, 2) := by decide +kernel
theorem d_kv_keep_9 : decode b_kv_keep 9 = .ok (.lconst 0, 1) := by decide +kernel
theorem d_kv_keep_10 : decode b_kv_keep 10 = .ok (.lcmp, 1) := by decide +kernel
theorem d_kv_keep_11 : decode b_kv_keep 11 = .ok (.ifCond .eq 13, 3) := by decide +kernel
theorem d_kv_keep_14 : decode b_kv_keep 14 = .ok (.aload_n 0, 1) := by decide +kernel
theorem d_kv_keep_15 : decode b_kv_keep 15 = .ok (.getfield 18, 3) := by decide +kernel
theorem d_kv_keep_18 : decode b_kv_keep 18 = .ok (.sipush 300, 3) := by decide +kernel
theorem d_kv_keep_21 : decode b_kv_keep 21 = .ok (.if_icmp .lt 5, 3) := by decide +kernel
theorem d_kv_keep_24 : decode b_kv_keep 24 = .ok (.iconst (-1), 1) := by decide +kernel
theorem d_kv_keep_25 : decode b_kv_keep 25 = .ok (.ireturn, 1) := by decide +kernel
theorem d_kv_keep_26 : decode b_kv_keep 26 = .ok (.lload_n 1, 1) := by decide +kernel
theorem d_kv_keep_27 : decode b_kv_keep 27 = .ok (.lload 5, 2) := by decide +kernel
theorem d_kv_keep_29 : decode b_kv_keep 29 = .ok (.ldiv, 1) := by decide +kernel
theorem d_kv_keep_30 : decode b_kv_keep 30 = .ok (.lstore 7, 2) := by decide +kernel
theorem d_kv_keep_32 : decode b_kv_keep 32 = .ok (.lload_n 3, 1) := by decide +kernel
theorem d_kv_keep_33 : decode b_kv_keep 33 = .ok (.lload 5, 2) := by decide +kernel
theorem d_kv_keep_35 : decode b_kv_keep 35 = .ok (.ldiv, 1) := by decide +kernel
theorem d_kv_keep_36 : decode b_kv_keep 36 = .ok (.lstore 9, 2) := by decide +kernel
theorem d_kv_keep_38 : decode b_kv_keep 38 = .ok (.lload 7, 2) := by decide +kernel
theorem d_kv_keep_40 : decode b_kv_keep 40 = .ok (.lload 9, 2) := by decide +kernel
theorem d_kv_keep_42 : decode b_kv_keep 42 = .ok (.invokestatic 34, 3) := by decide +kernel
theorem d_kv_keep_45 : decode b_kv_keep 45 = .ok (.ifCond .ne 5, 3) := by decide +kernel
theorem d_kv_keep_48 : decode b_kv_keep 48 = .ok (.iconst (-1), 1) := by decide +kernel
theorem d_kv_keep_49 : decode b_kv_keep 49 = .ok (.ireturn, 1) := by decide +kernel
theorem d_kv_keep_50 : decode b_kv_keep 50 = .ok (.aload_n 0, 1) := by decide +kernel
theorem d_kv_keep_51 : decode b_kv_keep 51 = .ok (.getfield 11, 3) := by decide +kernel
theorem d_kv_keep_54 : decode b_kv_keep 54 = .ok (.aload_n 0, 1) := by decide +kernel
theorem d_kv_keep_55 : decode b_kv_keep 55 = .ok (.getfield 18, 3) := by decide +kernel
theorem d_kv_keep_58 : decode b_kv_keep 58 = .ok (.lload 7, 2) := by decide +kernel
theorem d_kv_keep_60 : decode b_kv_keep 60 = .ok (.l2i, 1) := by decide +kernel
theorem d_kv_keep_61 : decode b_kv_keep 61 = .ok (.iastore, 1) := by decide +kernel
theorem d_kv_keep_62 : decode b_kv_keep 62 = .ok (.aload_n 0, 1) := by decide +kernel
theorem d_kv_keep_63 : decode b_kv_keep 63 = .ok (.getfield 15, 3) := by decide +kernel
theorem d_kv_keep_66 : decode b_kv_keep 66 = .ok (.aload_n 0, 1) := by decide +kernel
theorem d_kv_keep_67 : decode b_kv_keep 67 = .ok (.getfield 18, 3) := by decide +kernel
theorem d_kv_keep_70 : decode b_kv_keep 70 = .ok (.lload 9, 2) := by decide +kernel
theorem d_kv_keep_72 : decode b_kv_keep 72 = .ok (.l2i, 1) := by decide +kernel
theorem d_kv_keep_73 : decode b_kv_keep 73 = .ok (.iastore, 1) := by decide +kernel
theorem d_kv_keep_74 : decode b_kv_keep 74 = .ok (.aload_n 0, 1) := by decide +kernel
theorem d_kv_keep_75 : decode b_kv_keep 75 = .ok (.dup, 1) := by decide +kernel
theorem d_kv_keep_76 : decode b_kv_keep 76 = .ok (.getfield 18, 3) := by decide +kernel
theorem d_kv_keep_79 : decode b_kv_keep 79 = .ok (.iconst 1, 1) := by decide +kernel
theorem d_kv_keep_80 : decode b_kv_keep 80 = .ok (.iadd, 1) := by decide +kernel
theorem d_kv_keep_81 : decode b_kv_keep 81 = .ok (.putfield 18, 3) := by decide +kernel
theorem d_kv_keep_84 : decode b_kv_keep 84 = .ok (.aload_n 0, 1) := by decide +kernel
theorem d_kv_keep_85 : decode b_kv_keep 85 = .ok (.getfield 18, 3) := by decide +kernel
theorem d_kv_keep_88 : decode b_kv_keep 88 = .ok (.iconst 1, 1) := by decide +kernel
theorem d_kv_keep_89 : decode b_kv_keep 89 = .ok (.isub, 1) := by decide +kernel
theorem d_kv_keep_90 : decode b_kv_keep 90 = .ok (.ireturn, 1) := by decide +kernel
theorem k_0 : (.fieldLink R_kv 18 "KilogramRows$Values" "count" "I" : Cond) ∈ kt_T := List.mem_filter.mpr ⟨List.mem_of_getElem? (i := 47) (by decide +kernel), by decide +kernel⟩
theorem k_1 : (.code y_kv_has b_kv_has 2 (some .boolean) : Cond) ∈ kt_T := List.mem_filter.mpr ⟨List.mem_of_getElem? (i := 132) (by decide +kernel), by decide +kernel⟩
theorem k_2 : (.initialized R_kv : Cond) ∈ kt_T := List.mem_filter.mpr ⟨List.mem_of_getElem? (i := 18) (by decide +kernel), by decide +kernel⟩
theorem k_3 : (.instanceMethod y_kv_has : Cond) ∈ kt_T := List.mem_filter.mpr ⟨List.mem_of_getElem? (i := 130) (by decide +kernel), by decide +kernel⟩
theorem k_4 : (.selects R_kv y_kv_has y_kv_has : Cond) ∈ kt_T := List.mem_filter.mpr ⟨List.mem_of_getElem? (i := 131) (by decide +kernel), by decide +kernel⟩
theorem k_5 : (.methodLink R_kv 22 y_kv_has : Cond) ∈ kt_T := List.mem_filter.mpr ⟨List.mem_of_getElem? (i := 129) (by decide +kernel), by decide +kernel⟩
theorem k_6 : (.fieldLink R_kv 11 "KilogramRows$Values" "uppers" "[I" : Cond) ∈ kt_T := List.mem_filter.mpr ⟨List.mem_of_getElem? (i := 45) (by decide +kernel), by decide +kernel⟩
theorem k_7 : (.fieldLink R_kv 15 "KilogramRows$Values" "lowers" "[I" : Cond) ∈ kt_T := List.mem_filter.mpr ⟨List.mem_of_getElem? (i := 46) (by decide +kernel), by decide +kernel⟩
theorem k_8 : (.constantLong R_kv 26 (-1000000000) : Cond) ∈ kt_T := List.mem_filter.mpr ⟨List.mem_of_getElem? (i := 151) (by decide +kernel), by decide +kernel⟩
theorem k_9 : (.constantLong R_kv 28 1000000000 : Cond) ∈ kt_T := List.mem_filter.mpr ⟨List.mem_of_getElem? (i := 152) (by decide +kernel), by decide +kernel⟩
theorem k_10 : (.code y_kr_gcd b_kr_gcd 11 (some .long) : Cond) ∈ kt_T := List.mem_filter.mpr ⟨List.mem_of_getElem? (i := 147) (by decide +kernel), by decide +kernel⟩
theorem k_11 : (.initialized R_kr : Cond) ∈ kt_T := List.mem_filter.mpr ⟨List.mem_of_getElem? (i := 16) (by decide +kernel), by decide +kernel⟩
theorem k_12 : (.static y_kr_gcd : Cond) ∈ kt_T := List.mem_filter.mpr ⟨List.mem_of_getElem? (i := 146) (by decide +kernel), by decide +kernel⟩
theorem k_13 : (.code y_kv_fits b_kv_fits 4 (some .boolean) : Cond) ∈ kt_T := List.mem_filter.mpr ⟨List.mem_of_getElem? (i := 150) (by decide +kernel), by decide +kernel⟩
theorem k_14 : (.static y_kv_fits : Cond) ∈ kt_T := List.mem_filter.mpr ⟨List.mem_of_getElem? (i := 149) (by decide +kernel), by decide +kernel⟩
theorem k_15 : (.methodLink R_kv 34 y_kv_fits : Cond) ∈ kt_T := List.mem_filter.mpr ⟨List.mem_of_getElem? (i := 148) (by decide +kernel), by decide +kernel⟩
def f_kv_has (cnt : Int32) (v : Int32) : Int32 :=
  if v < 0 then 0 else if cnt ≤ v then 0 else 1
set_option maxHeartbeats 4000000 in
set_option maxRecDepth 100000 in
theorem c_kv_has (l : Launch) (dC : Nat → ClassId) (dI : Nat → Nat → Nat) (a0 : Nat) (a1 : Nat) (a2 : Nat) (cnt : Int32) (cU : ClassId) (fu : Nat → Int32) (cL : ClassId) (fl : Nat → Int32) (v : Int32) : Met l y_kv_has w_kv_has ({ frames := 0, cells := 0, slots := 0, locals := 0 }) (va_Pc [.ref a0, .int v] (fun U => va_P (dC, dI) classes [(a0, .inr (1, [.ref a1, .ref a2, .int cnt])), (a1, .inl (cU, 300, .inl fu)), (a2, .inl (cL, 300, .inl fl))] U.heap ∧ va_K (dC, dI) classes [(cU, .int), (cL, .int)] U)) (vp_Si (fun z9 => z9 = f_kv_has cnt v)) 0 0 (fun _ => False) := by
  refine Met.ofW (cc := b_kv_has) (maxL := 2) (ret := (some .boolean)) (by decide +kernel) rfl ?_
  intro p e s m args below meth c s₁ B hml hv
  obtain ⟨rfl, hP, hK⟩ := hv
  have hx := B.exec
  have hb := B.bytes
  have hr := B.returns
  have hts := atoms_spec (ws := w_kv_has) B.pre
  have hT := fun (w : Cond) (h : w ∈ kt_T) => hts w (List.mem_cons_of_mem _ h)
  have hown : s.vm.findClass R_kv = some m.cls := findClass_of_methodNamed B.named
  have hlocks := B.notSynchronized
  have hl := lv_entry ([.ref a0, .int v]) (n := 2) (Nat.le_of_ble_eq_true rfl)
  rw [lg_entry_eq]
  generalize (lg_sl ([.ref a0, .int v]) ++ List.replicate (2 - (lg_sl ([.ref a0, .int v])).length) Slot.unset).toArray = ls at hl ⊢
  have hl : lv_has ls 2 [(0, .ref a0), (1, .int v)] := hl
  refine lv_iload_n hx hb d_kv_has_0 rfl (lv_at hl 1 rfl) ?_
  refine lv_if_lt (tgt := 16) hx hb d_kv_has_1 (by decide) (fun c_1 => ?_) (fun c_1 => ?_)
  · refine lv_iconst (v := 0) hx hb d_kv_has_16 (by decide) ?_
    exact W.zret (v := 0) hx hb hr rfl (fun t ht hW => ⟨_, rfl, by unfold f_kv_has; rw [if_pos c_1], ht⟩) t_nil d_kv_has_17
  · refine lv_iload_n hx hb d_kv_has_4 rfl (lv_at hl 1 rfl) ?_
    refine lv_aload_n hx hb d_kv_has_5 rfl (lv_at hl 0 rfl) ?_
    refine va_get (D := (dC, dI)) (ci := 1) (v := .int cnt) (C := R_kv) (T := F_kv) (N := 3) hx hb hT i_kv hown hK hP 0 rfl rfl 2 (by decide) (hT _ k_0) (fun _ h9 => h9) rfl d_kv_has_6 ?_
    refine lv_icmp_ge (tgt := 16) hx hb d_kv_has_9 (by decide) (fun c_2 => ?_) (fun c_2 => ?_)
    · refine lv_iconst (v := 0) hx hb d_kv_has_16 (by decide) ?_
      exact W.zret (v := 0) hx hb hr rfl (fun t ht hW => ⟨_, rfl, by unfold f_kv_has; rw [if_neg c_1, if_pos c_2], ht⟩) t_nil d_kv_has_17
    · refine lv_iconst (v := 1) hx hb d_kv_has_12 (by decide) ?_
      refine lv_goto (tgt := 17) hx hb d_kv_has_13 (by decide) ?_
      exact W.zret (v := 1) hx hb hr rfl (fun t ht hW => ⟨_, rfl, by unfold f_kv_has; rw [if_neg c_1, if_neg c_2], ht⟩) t_nil d_kv_has_17
def f_kv_hasBoth (cnt : Int32) (a : Int32) (b : Int32) : Int32 :=
  if (f_kv_has cnt a) = 0 then 0 else if (f_kv_has cnt b) = 0 then 0 else 1
set_option maxHeartbeats 4000000 in
set_option maxRecDepth 100000 in
theorem c_kv_hasBoth (l : Launch) (dC : Nat → ClassId) (dI : Nat → Nat → Nat) (a0 : Nat) (a1 : Nat) (a2 : Nat) (cnt : Int32) (cU : ClassId) (fu : Nat → Int32) (cL : ClassId) (fl : Nat → Int32) (a : Int32) (b : Int32) : Met l y_kv_hasBoth w_kv_hasBoth ({ frames := 1, cells := 0, slots := 0, locals := 21 }) (va_Pc [.ref a0, .int a, .int b] (fun U => va_P (dC, dI) classes [(a0, .inr (1, [.ref a1, .ref a2, .int cnt])), (a1, .inl (cU, 300, .inl fu)), (a2, .inl (cL, 300, .inl fl))] U.heap ∧ va_K (dC, dI) classes [(cU, .int), (cL, .int)] U)) (vp_Si (fun z9 => z9 = f_kv_hasBoth cnt a b)) 0 0 (fun _ => False) := by
  refine Met.ofW (cc := b_kv_hasBoth) (maxL := 3) (ret := (some .boolean)) (by decide +kernel) rfl ?_
  intro p e s m args below meth c s₁ B hml hv
  obtain ⟨rfl, hP, hK⟩ := hv
  have hx := B.exec
  have hb := B.bytes
  have hr := B.returns
  have hts := atoms_spec (ws := w_kv_hasBoth) B.pre
  have hT := fun (w : Cond) (h : w ∈ kt_T) => hts w (List.mem_cons_of_mem _ h)
  have hown : s.vm.findClass R_kv = some m.cls := findClass_of_methodNamed B.named
  have hlocks := B.notSynchronized
  have hl := lv_entry ([.ref a0, .int a, .int b]) (n := 3) (Nat.le_of_ble_eq_true rfl)
  rw [lg_entry_eq]
  generalize (lg_sl ([.ref a0, .int a, .int b]) ++ List.replicate (3 - (lg_sl ([.ref a0, .int a, .int b])).length) Slot.unset).toArray = ls at hl ⊢
  have hl : lv_has ls 3 [(0, .ref a0), (1, .int a), (2, .int b)] := hl
  refine lv_aload_n hx hb d_kv_hasBoth_0 rfl (lv_at hl 0 rfl) ?_
  refine lv_iload_n hx hb d_kv_hasBoth_1 rfl (lv_at hl 1 rfl) ?_
  have hPc := hP.sub (ws' := [(a0, .inr (1, [.ref a1, .ref a2, .int cnt])), (a1, .inl (cU, 300, .inl fu)), (a2, .inl (cL, 300, .inl fl))]) [0, 1, 2] rfl
  have hKc := hK.sub (tys' := [(cU, .int), (cL, .int)]) [0, 1] rfl
  refine vp_callSi (W.runV (As := [.int a]) (rest := []) ⟨hx, hb, hml, hown, hT⟩ (c_kv_has l dC dI a0 a1 a2 cnt cU fu cL fl a) (cwV 1 hT (kt_V k_5 k_3 k_4 k_2 k_1) rfl rfl rfl (by decide +kernel) ⟨Nat.le_of_ble_eq_true rfl, Nat.le_of_ble_eq_true rfl⟩) ⟨bl_R, va_recv hKc hPc (ci := 1) (q0 := 0) rfl rfl, fun U hU hW => ⟨rfl, by rw [hU]; exact hPc, va_K.moved hW.alike hKc⟩⟩ rfl rfl hl.1 rfl (lv_room (Nat.le_of_ble_eq_true rfl)) d_kv_hasBoth_2 ⟨Nat.zero_le _, Nat.zero_le _⟩) (fun r_1 e_r_1 => ?_)
  subst e_r_1
  refine lv_if_eq (tgt := 20) hx hb d_kv_hasBoth_5 (by decide) (fun c_2 => ?_) (fun c_2 => ?_)
  · refine lv_iconst (v := 0) hx hb d_kv_hasBoth_20 (by decide) ?_
    exact W.zret (v := 0) hx hb hr rfl (fun t ht hW => ⟨_, rfl, by unfold f_kv_hasBoth; rw [if_pos c_2], ht⟩) t_nil d_kv_hasBoth_21
  · refine lv_aload_n hx hb d_kv_hasBoth_8 rfl (lv_at hl 0 rfl) ?_
    refine lv_iload_n hx hb d_kv_hasBoth_9 rfl (lv_at hl 2 rfl) ?_
    have hPc := hP.sub (ws' := [(a0, .inr (1, [.ref a1, .ref a2, .int cnt])), (a1, .inl (cU, 300, .inl fu)), (a2, .inl (cL, 300, .inl fl))]) [0, 1, 2] rfl
    have hKc := hK.sub (tys' := [(cU, .int), (cL, .int)]) [0, 1] rfl
    refine vp_callSi (W.runV (As := [.int b]) (rest := []) ⟨hx, hb, hml, hown, hT⟩ (c_kv_has l dC dI a0 a1 a2 cnt cU fu cL fl b) (cwV 1 hT (kt_V k_5 k_3 k_4 k_2 k_1) rfl rfl rfl (by decide +kernel) ⟨Nat.le_of_ble_eq_true rfl, Nat.le_of_ble_eq_true rfl⟩) ⟨bl_R, va_recv hKc hPc (ci := 1) (q0 := 0) rfl rfl, fun U hU hW => ⟨rfl, by rw [hU]; exact hPc, va_K.moved hW.alike hKc⟩⟩ rfl rfl hl.1 rfl (lv_room (Nat.le_of_ble_eq_true rfl)) d_kv_hasBoth_10 ⟨Nat.zero_le _, Nat.zero_le _⟩) (fun r_3 e_r_3 => ?_)
    subst e_r_3
    refine lv_if_eq (tgt := 20) hx hb d_kv_hasBoth_13 (by decide) (fun c_4 => ?_) (fun c_4 => ?_)
    · refine lv_iconst (v := 0) hx hb d_kv_hasBoth_20 (by decide) ?_
      exact W.zret (v := 0) hx hb hr rfl (fun t ht hW => ⟨_, rfl, by unfold f_kv_hasBoth; rw [if_neg c_2, if_pos c_4], ht⟩) t_nil d_kv_hasBoth_21
    · refine lv_iconst (v := 1) hx hb d_kv_hasBoth_16 (by decide) ?_
      refine lv_goto (tgt := 21) hx hb d_kv_hasBoth_17 (by decide) ?_
      exact W.zret (v := 1) hx hb hr rfl (fun t ht hW => ⟨_, rfl, by unfold f_kv_hasBoth; rw [if_neg c_2, if_neg c_4], ht⟩) t_nil d_kv_hasBoth_21
def f_kv_upper (fu : Nat → Int32) (v : Int32) : Int64 :=
  ((fu v.toNatClampNeg).toInt64)
set_option maxHeartbeats 4000000 in
set_option maxRecDepth 100000 in
theorem c_kv_upper (l : Launch) (dC : Nat → ClassId) (dI : Nat → Nat → Nat) (a0 : Nat) (a1 : Nat) (a2 : Nat) (cnt : Int32) (cU : ClassId) (fu : Nat → Int32) (cL : ClassId) (fl : Nat → Int32) (v : Int32) (hv : vp_in v 300) : Met l y_kv_upper w_kv_upper ({ frames := 0, cells := 0, slots := 0, locals := 0 }) (va_Pc [.ref a0, .int v] (fun U => va_P (dC, dI) classes [(a0, .inr (1, [.ref a1, .ref a2, .int cnt])), (a1, .inl (cU, 300, .inl fu)), (a2, .inl (cL, 300, .inl fl))] U.heap ∧ va_K (dC, dI) classes [(cU, .int), (cL, .int)] U)) (vp_Sl (fun z9 => z9 = f_kv_upper fu v)) 0 0 (fun _ => False) := by
  refine Met.ofW (cc := b_kv_upper) (maxL := 2) (ret := (some .long)) (by decide +kernel) rfl ?_
  intro p e s m args below meth c s₁ B hml hv
  obtain ⟨rfl, hP, hK⟩ := hv
  have hx := B.exec
  have hb := B.bytes
  have hr := B.returns
  have hts := atoms_spec (ws := w_kv_upper) B.pre
  have hT := fun (w : Cond) (h : w ∈ kt_T) => hts w (List.mem_cons_of_mem _ h)
  have hown : s.vm.findClass R_kv = some m.cls := findClass_of_methodNamed B.named
  have hlocks := B.notSynchronized
  have hl := lv_entry ([.ref a0, .int v]) (n := 2) (Nat.le_of_ble_eq_true rfl)
  rw [lg_entry_eq]
  generalize (lg_sl ([.ref a0, .int v]) ++ List.replicate (2 - (lg_sl ([.ref a0, .int v])).length) Slot.unset).toArray = ls at hl ⊢
  have hl : lv_has ls 2 [(0, .ref a0), (1, .int v)] := hl
  refine lv_aload_n hx hb d_kv_upper_0 rfl (lv_at hl 0 rfl) ?_
  refine va_get (D := (dC, dI)) (ci := 1) (v := .ref a1) (C := R_kv) (T := F_kv) (N := 3) hx hb hT i_kv hown hK hP 0 rfl rfl 0 (by decide) (hT _ k_6) (fun _ h9 => h9) rfl d_kv_upper_1 ?_
  refine lv_iload_n hx hb d_kv_upper_4 rfl (lv_at hl 1 rfl) ?_
  refine va_iald hx hb hK hP 1 0 rfl rfl hv d_kv_upper_5 ?_
  refine lv_i2l (v := (fu v.toNatClampNeg).toInt64) hx hb d_kv_upper_6 rfl ?_
  exact W.lret (v := (fu v.toNatClampNeg).toInt64) hx hb hr (fun t ht hW => ⟨_, rfl, rfl, ht⟩) t_nil d_kv_upper_7
def f_kv_lower (fl : Nat → Int32) (v : Int32) : Int64 :=
  ((fl v.toNatClampNeg).toInt64)
set_option maxHeartbeats 4000000 in
set_option maxRecDepth 100000 in
theorem c_kv_lower (l : Launch) (dC : Nat → ClassId) (dI : Nat → Nat → Nat) (a0 : Nat) (a1 : Nat) (a2 : Nat) (cnt : Int32) (cU : ClassId) (fu : Nat → Int32) (cL : ClassId) (fl : Nat → Int32) (v : Int32) (hv : vp_in v 300) : Met l y_kv_lower w_kv_lower ({ frames := 0, cells := 0, slots := 0, locals := 0 }) (va_Pc [.ref a0, .int v] (fun U => va_P (dC, dI) classes [(a0, .inr (1, [.ref a1, .ref a2, .int cnt])), (a1, .inl (cU, 300, .inl fu)), (a2, .inl (cL, 300, .inl fl))] U.heap ∧ va_K (dC, dI) classes [(cU, .int), (cL, .int)] U)) (vp_Sl (fun z9 => z9 = f_kv_lower fl v)) 0 0 (fun _ => False) := by
  refine Met.ofW (cc := b_kv_lower) (maxL := 2) (ret := (some .long)) (by decide +kernel) rfl ?_
  intro p e s m args below meth c s₁ B hml hv
  obtain ⟨rfl, hP, hK⟩ := hv
  have hx := B.exec
  have hb := B.bytes
  have hr := B.returns
  have hts := atoms_spec (ws := w_kv_lower) B.pre
  have hT := fun (w : Cond) (h : w ∈ kt_T) => hts w (List.mem_cons_of_mem _ h)
  have hown : s.vm.findClass R_kv = some m.cls := findClass_of_methodNamed B.named
  have hlocks := B.notSynchronized
  have hl := lv_entry ([.ref a0, .int v]) (n := 2) (Nat.le_of_ble_eq_true rfl)
  rw [lg_entry_eq]
  generalize (lg_sl ([.ref a0, .int v]) ++ List.replicate (2 - (lg_sl ([.ref a0, .int v])).length) Slot.unset).toArray = ls at hl ⊢
  have hl : lv_has ls 2 [(0, .ref a0), (1, .int v)] := hl
  refine lv_aload_n hx hb d_kv_lower_0 rfl (lv_at hl 0 rfl) ?_
  refine va_get (D := (dC, dI)) (ci := 1) (v := .ref a2) (C := R_kv) (T := F_kv) (N := 3) hx hb hT i_kv hown hK hP 0 rfl rfl 1 (by decide) (hT _ k_7) (fun _ h9 => h9) rfl d_kv_lower_1 ?_
  refine lv_iload_n hx hb d_kv_lower_4 rfl (lv_at hl 1 rfl) ?_
  refine va_iald hx hb hK hP 2 1 rfl rfl hv d_kv_lower_5 ?_
  refine lv_i2l (v := (fl v.toNatClampNeg).toInt64) hx hb d_kv_lower_6 rfl ?_
  exact W.lret (v := (fl v.toNatClampNeg).toInt64) hx hb hr (fun t ht hW => ⟨_, rfl, rfl, ht⟩) t_nil d_kv_lower_7
def f_kv_partOf (fu : Nat → Int32) (fl : Nat → Int32) (v : Int32) (q : Int32) : Int32 :=
  if q = 0 then (fu v.toNatClampNeg) else (fl v.toNatClampNeg)
set_option maxHeartbeats 4000000 in
set_option maxRecDepth 100000 in
theorem c_kv_partOf (l : Launch) (dC : Nat → ClassId) (dI : Nat → Nat → Nat) (a0 : Nat) (a1 : Nat) (a2 : Nat) (cnt : Int32) (cU : ClassId) (fu : Nat → Int32) (cL : ClassId) (fl : Nat → Int32) (v : Int32) (q : Int32) (hv : vp_in v 300) : Met l y_kv_partOf w_kv_partOf ({ frames := 0, cells := 0, slots := 0, locals := 0 }) (va_Pc [.ref a0, .int v, .int q] (fun U => va_P (dC, dI) classes [(a0, .inr (1, [.ref a1, .ref a2, .int cnt])), (a1, .inl (cU, 300, .inl fu)), (a2, .inl (cL, 300, .inl fl))] U.heap ∧ va_K (dC, dI) classes [(cU, .int), (cL, .int)] U)) (vp_Si (fun z9 => z9 = f_kv_partOf fu fl v q)) 0 0 (fun _ => False) := by
  refine Met.ofW (cc := b_kv_partOf) (maxL := 3) (ret := (some .int)) (by decide +kernel) rfl ?_
  intro p e s m args below meth c s₁ B hml hv
  obtain ⟨rfl, hP, hK⟩ := hv
  have hx := B.exec
  have hb := B.bytes
  have hr := B.returns
  have hts := atoms_spec (ws := w_kv_partOf) B.pre
  have hT := fun (w : Cond) (h : w ∈ kt_T) => hts w (List.mem_cons_of_mem _ h)
  have hown : s.vm.findClass R_kv = some m.cls := findClass_of_methodNamed B.named
  have hlocks := B.notSynchronized
  have hl := lv_entry ([.ref a0, .int v, .int q]) (n := 3) (Nat.le_of_ble_eq_true rfl)
  rw [lg_entry_eq]
  generalize (lg_sl ([.ref a0, .int v, .int q]) ++ List.replicate (3 - (lg_sl ([.ref a0, .int v, .int q])).length) Slot.unset).toArray = ls at hl ⊢
  have hl : lv_has ls 3 [(0, .ref a0), (1, .int v), (2, .int q)] := hl
  refine lv_iload_n hx hb d_kv_partOf_0 rfl (lv_at hl 2 rfl) ?_
  refine lv_if_ne (tgt := 13) hx hb d_kv_partOf_1 (by decide) (fun c_1 => ?_) (fun c_1 => ?_)
  · refine lv_aload_n hx hb d_kv_partOf_13 rfl (lv_at hl 0 rfl) ?_
    refine va_get (D := (dC, dI)) (ci := 1) (v := .ref a2) (C := R_kv) (T := F_kv) (N := 3) hx hb hT i_kv hown hK hP 0 rfl rfl 1 (by decide) (hT _ k_7) (fun _ h9 => h9) rfl d_kv_partOf_14 ?_
    refine lv_iload_n hx hb d_kv_partOf_17 rfl (lv_at hl 1 rfl) ?_
    refine va_iald hx hb hK hP 2 1 rfl rfl hv d_kv_partOf_18 ?_
    exact W.iret (v := fl v.toNatClampNeg) hx hb hr (fun t ht hW => ⟨_, rfl, by unfold f_kv_partOf; rw [if_neg c_1], ht⟩) t_nil d_kv_partOf_19
  · refine lv_aload_n hx hb d_kv_partOf_4 rfl (lv_at hl 0 rfl) ?_
    refine va_get (D := (dC, dI)) (ci := 1) (v := .ref a1) (C := R_kv) (T := F_kv) (N := 3) hx hb hT i_kv hown hK hP 0 rfl rfl 0 (by decide) (hT _ k_6) (fun _ h9 => h9) rfl d_kv_partOf_5 ?_
    refine lv_iload_n hx hb d_kv_partOf_8 rfl (lv_at hl 1 rfl) ?_
    refine va_iald hx hb hK hP 1 0 rfl rfl hv d_kv_partOf_9 ?_
    refine lv_goto (tgt := 19) hx hb d_kv_partOf_10 (by decide) ?_
    exact W.iret (v := fu v.toNatClampNeg) hx hb hr (fun t ht hW => ⟨_, rfl, by unfold f_kv_partOf; rw [if_pos c_1], ht⟩) t_nil d_kv_partOf_19
def f_kv_fits (x : Int64) (y : Int64) : Int32 :=
  if x < (-1000000000) then 0 else if 1000000000 < x then 0 else if y < 1 then 0 else if 1000000000 < y then 0 else 1
set_option maxHeartbeats 4000000 in
set_option maxRecDepth 100000 in
theorem c_kv_fits (l : Launch) (x : Int64) (y : Int64) : Met l y_kv_fits w_kv_fits ({ frames := 0, cells := 0, slots := 0, locals := 0 }) (va_Pc [.long x, .long y] (fun _ => True)) (vp_Si (fun z9 => z9 = f_kv_fits x y)) 0 0 (fun _ => False) := by
  refine Met.ofW (cc := b_kv_fits) (maxL := 4) (ret := (some .boolean)) (by decide +kernel) rfl ?_
  intro p e s m args below meth c s₁ B hml hv
  obtain ⟨rfl, -⟩ := hv
  have hx := B.exec
  have hb := B.bytes
  have hr := B.returns
  have hts := atoms_spec (ws := w_kv_fits) B.pre
  have hT := fun (w : Cond) (h : w ∈ kt_T) => hts w (List.mem_cons_of_mem _ h)
  have hown : s.vm.findClass R_kv = some m.cls := findClass_of_methodNamed B.named
  have hlocks := B.notSynchronized
  have hl := lv_entry ([.long x, .long y]) (n := 4) (Nat.le_of_ble_eq_true rfl)
  rw [lg_entry_eq]
  generalize (lg_sl ([.long x, .long y]) ++ List.replicate (4 - (lg_sl ([.long x, .long y])).length) Slot.unset).toArray = ls at hl ⊢
  have hl : lv_has ls 4 [(0, .long x), (2, .long y)] := hl
  refine lv_lload_n hx hb d_kv_fits_0 rfl (lv_at hl 0 rfl) ?_
  refine lv_ldc2 (v := (-1000000000)) hx hb hown (hT _ k_8) d_kv_fits_1 ?_
  refine lx_iflt (tgt := 34) hx hb d_kv_fits_4 d_kv_fits_5 (by decide) (fun c_1 => ?_) (fun c_1 => ?_)
  · refine lv_iconst (v := 0) hx hb d_kv_fits_34 (by decide) ?_
    exact W.zret (v := 0) hx hb hr rfl (fun t ht hW => ⟨_, rfl, by unfold f_kv_fits; rw [if_pos c_1], ht⟩) t_nil d_kv_fits_35
  · refine lv_lload_n hx hb d_kv_fits_8 rfl (lv_at hl 0 rfl) ?_
    refine lv_ldc2 (v := 1000000000) hx hb hown (hT _ k_9) d_kv_fits_9 ?_
    refine lx_ifgt (tgt := 34) hx hb d_kv_fits_12 d_kv_fits_13 (by decide) (fun c_2 => ?_) (fun c_2 => ?_)
    · refine lv_iconst (v := 0) hx hb d_kv_fits_34 (by decide) ?_
      exact W.zret (v := 0) hx hb hr rfl (fun t ht hW => ⟨_, rfl, by unfold f_kv_fits; rw [if_neg c_1, if_pos c_2], ht⟩) t_nil d_kv_fits_35
    · refine lv_lload_n hx hb d_kv_fits_16 rfl (lv_at hl 1 rfl) ?_
      refine lv_lconst (v := 1) hx hb d_kv_fits_17 (by decide) ?_
      refine lx_iflt (tgt := 34) hx hb d_kv_fits_18 d_kv_fits_19 (by decide) (fun c_3 => ?_) (fun c_3 => ?_)
      · refine lv_iconst (v := 0) hx hb d_kv_fits_34 (by decide) ?_
        exact W.zret (v := 0) hx hb hr rfl (fun t ht hW => ⟨_, rfl, by unfold f_kv_fits; rw [if_neg c_1, if_neg c_2, if_pos c_3], ht⟩) t_nil d_kv_fits_35
      · refine lv_lload_n hx hb d_kv_fits_22 rfl (lv_at hl 1 rfl) ?_
        refine lv_ldc2 (v := 1000000000) hx hb hown (hT _ k_9) d_kv_fits_23 ?_
        refine lx_ifgt (tgt := 34) hx hb d_kv_fits_26 d_kv_fits_27 (by decide) (fun c_4 => ?_) (fun c_4 => ?_)
        · refine lv_iconst (v := 0) hx hb d_kv_fits_34 (by decide) ?_
          exact W.zret (v := 0) hx hb hr rfl (fun t ht hW => ⟨_, rfl, by unfold f_kv_fits; rw [if_neg c_1, if_neg c_2, if_neg c_3, if_pos c_4], ht⟩) t_nil d_kv_fits_35
        · refine lv_iconst (v := 1) hx hb d_kv_fits_30 (by decide) ?_
          refine lv_goto (tgt := 35) hx hb d_kv_fits_31 (by decide) ?_
          exact W.zret (v := 1) hx hb hr rfl (fun t ht hW => ⟨_, rfl, by unfold f_kv_fits; rw [if_neg c_1, if_neg c_2, if_neg c_3, if_neg c_4], ht⟩) t_nil d_kv_fits_35
theorem in_cnt {cnt : Int32} (hc : vp_in cnt 301) (h : cnt < 300) : vp_in cnt 300 := by
  rw [vp_in_iff] at hc ⊢
  rw [Int32.lt_iff_toInt_lt] at h
  have h3 : (300 : Int32).toInt = 300 := by decide
  omega
theorem in_has {cnt v : Int32} (hc : vp_in cnt 301) (h : ¬ f_kv_has cnt v = 0) : vp_in v 300 := by
  rw [vp_in_iff] at hc ⊢
  unfold f_kv_has at h
  split at h
  · exact absurd rfl h
  · rename_i h1
    split at h
    · exact absurd rfl h
    · rename_i h2
      rw [Int32.lt_iff_toInt_lt, Int32.toInt_zero] at h1
      rw [Int32.le_iff_toInt_le] at h2
      omega
theorem in_hb1 {cnt a b : Int32} (hc : vp_in cnt 301) (h : ¬ f_kv_hasBoth cnt a b = 0) : vp_in a 300 := by
  refine in_has hc (fun q => h ?_)
  unfold f_kv_hasBoth
  rw [if_pos q]
theorem in_hb2 {cnt a b : Int32} (hc : vp_in cnt 301) (h : ¬ f_kv_hasBoth cnt a b = 0) : vp_in b 300 := by
  refine in_has hc (fun q => h ?_)
  unfold f_kv_hasBoth
  rw [if_pos q]
  split <;> rfl
def f_kv_keep (cnt : Int32) (fu : Nat → Int32) (fl : Nat → Int32) (a : Int64) (b : Int64) : Int32 × (Nat → Int32) × (Nat → Int32) × Int32 :=
  if (f_kr_gcd a b) = 0 then ((-1), fu, fl, cnt) else if cnt < 300 then if (f_kv_fits (a / (f_kr_gcd a b)) (b / (f_kr_gcd a b))) = 0 then ((-1), fu, fl, cnt) else ((cnt + 1) - 1, upd fu cnt.toNatClampNeg ((a / (f_kr_gcd a b)).toInt32), upd fl cnt.toNatClampNeg ((b / (f_kr_gcd a b)).toInt32), cnt + 1) else ((-1), fu, fl, cnt)
set_option maxHeartbeats 4000000 in
set_option maxRecDepth 100000 in
theorem c_kv_keep (l : Launch) (dC : Nat → ClassId) (dI : Nat → Nat → Nat) (sz : Nat) (a0 : Nat) (a1 : Nat) (a2 : Nat) (cnt : Int32) (cU : ClassId) (fu : Nat → Int32) (cL : ClassId) (fl : Nat → Int32) (a : Int64) (b : Int64) (hc : vp_in cnt 301) : Met l y_kv_keep w_kv_keep ({ frames := 1, cells := 0, slots := 0, locals := 30 }) (va_Pc [.ref a0, .long a, .long b] (fun U => U.heap.size = sz ∧ va_P (dC, dI) classes [(a0, .inr (1, [.ref a1, .ref a2, .int cnt])), (a1, .inl (cU, 300, .inl fu)), (a2, .inl (cL, 300, .inl fl))] U.heap ∧ va_K (dC, dI) classes [(cU, .int), (cL, .int)] U ∧ va_D (fun _ => True) [(a0, .inr (1, [.ref a1, .ref a2, .int cnt])), (a1, .inl (cU, 300, .inl fu)), (a2, .inl (cL, 300, .inl fl))] ∧ kt_N U)) (va_Qi (fun z9 u9 => (z9, u9) = f_kv_keep cnt fu fl a b) (fun (u : (Nat → Int32) × (Nat → Int32) × Int32) t => match u with | (fu', fl', cnt') => va_P (dC, dI) classes [(a0, .inr (1, [.ref a1, .ref a2, .int cnt'])), (a1, .inl (cU, 300, .inl fu')), (a2, .inl (cL, 300, .inl fl'))] t.heap ∧ va_K (dC, dI) classes [(cU, .int), (cL, .int)] t ∧ va_D (va_A [(a0, .inr (1, [.ref a1, .ref a2, .int cnt])), (a1, .inl (cU, 300, .inl fu)), (a2, .inl (cL, 300, .inl fl))] sz) [(a0, .inr (1, [.ref a1, .ref a2, .int cnt'])), (a1, .inl (cU, 300, .inl fu')), (a2, .inl (cL, 300, .inl fl'))]) (va_A [(a0, .inr (1, [.ref a1, .ref a2, .int cnt])), (a1, .inl (cU, 300, .inl fu)), (a2, .inl (cL, 300, .inl fl))] sz)) 0 0 (va_A [(a0, .inr (1, [.ref a1, .ref a2, .int cnt])), (a1, .inl (cU, 300, .inl fu)), (a2, .inl (cL, 300, .inl fl))] sz) := by
  refine Met.ofW (cc := b_kv_keep) (maxL := 11) (ret := (some .int)) (by decide +kernel) rfl ?_
  intro p e s m args below meth c s₁ B hml hv
  obtain ⟨rfl, hsz, hP, hK, hD0, hN⟩ := hv
  have hx := B.exec
  have hb := B.bytes
  have hr := B.returns
  have hts := atoms_spec (ws := w_kv_keep) B.pre
  have hT := fun (w : Cond) (h : w ∈ kt_T) => hts w (List.mem_cons_of_mem _ h)
  have hown : s.vm.findClass R_kv = some m.cls := findClass_of_methodNamed B.named
  have hlocks := B.notSynchronized
  subst hsz
  have hD := hD0.self (sz := s.heap.size)
  generalize hAe : va_A [(a0, .inr (1, [.ref a1, .ref a2, .int cnt])), (a1, .inl (cU, 300, .inl fu)), (a2, .inl (cL, 300, .inl fl))] s.heap.size = A at hD ⊢
  have hA : ∀ q : Nat, s.heap.size ≤ q → A q := fun q h => by rw [← hAe]; exact Or.inr h
  have hS : va_S A s.heap s.heap [] := va_S.rf
  have hl := lv_entry ([.ref a0, .long a, .long b]) (n := 11) (Nat.le_of_ble_eq_true rfl)
  rw [lg_entry_eq]
  generalize (lg_sl ([.ref a0, .long a, .long b]) ++ List.replicate (11 - (lg_sl ([.ref a0, .long a, .long b])).length) Slot.unset).toArray = ls at hl ⊢
  have hl : lv_has ls 11 [(0, .ref a0), (1, .long a), (3, .long b)] := hl
  refine lv_lload_n hx hb d_kv_keep_0 rfl (lv_at hl 1 rfl) ?_
  refine lv_lload_n hx hb d_kv_keep_1 rfl (lv_at hl 2 rfl) ?_
  refine vp_callSl (va_runSN (As := [.long a, .long b]) (rest := []) ⟨hx, hb, hml, hown, hT⟩ (c_kr_gcd l a b) ⟨va_cnB 2 hT (kt_G k_10) rfl rfl rfl (hN _ n_3) (hT _ k_11) (by decide +kernel) ⟨Nat.le_of_ble_eq_true rfl, Nat.le_of_ble_eq_true rfl⟩, hT _ k_12, trivial⟩ ⟨bl_S, fun U hU hW => ⟨rfl, trivial⟩⟩ rfl rfl hl.1 rfl (lv_room (Nat.le_of_ble_eq_true rfl)) d_kv_keep_2 ⟨Nat.zero_le _, Nat.zero_le _⟩).run (fun r_1 e_r_1 => ?_)
  subst e_r_1
  refine lv_lstore (lv' := [(5, .long (f_kr_gcd a b)), (0, .ref a0), (1, .long a), (3, .long b)]) hx hb d_kv_keep_5 hl (by decide) rfl (fun ls hl => ?_)
  refine lv_lload hx hb d_kv_keep_7 (lv_at hl 0 rfl) ?_
  refine lv_lconst (v := 0) hx hb d_kv_keep_9 (by decide) ?_
  refine lx_ifeq (tgt := 24) hx hb d_kv_keep_10 d_kv_keep_11 (by decide) (fun c_2 => ?_) (fun c_2 => ?_)
  · refine lv_iconst (v := (-1)) hx hb d_kv_keep_24 (by decide) ?_
    exact W.iret (v := (-1)) hx hb hr (fun t ht hW => ⟨⟨(-1), (fu, fl, cnt), rfl, by unfold f_kv_keep; rw [if_pos c_2], by rw [ht]; exact hP, va_K.moved hW.alike hK, hD⟩, hS.F ht⟩) hS.2.2 d_kv_keep_25
  · refine lv_aload_n hx hb d_kv_keep_14 rfl (lv_at hl 1 rfl) ?_
    refine va_get (D := (dC, dI)) (ci := 1) (v := .int cnt) (C := R_kv) (T := F_kv) (N := 3) hx hb hT i_kv hown hK hP 0 rfl rfl 2 (by decide) (hT _ k_0) (fun _ h9 => h9) rfl d_kv_keep_15 ?_
    refine lv_sipush (v := 300) hx hb d_kv_keep_18 (by decide) ?_
    refine lv_icmp_lt (tgt := 26) hx hb d_kv_keep_21 (by decide) (fun c_3 => ?_) (fun c_3 => ?_)
    · refine lv_lload_n hx hb d_kv_keep_26 rfl (lv_at hl 2 rfl) ?_
      refine lv_lload hx hb d_kv_keep_27 (lv_at hl 0 rfl) ?_
      refine lv_ldiv hx hb d_kv_keep_29 c_2 ?_
      refine lv_lstore (lv' := [(7, .long (a / (f_kr_gcd a b))), (5, .long (f_kr_gcd a b)), (0, .ref a0), (1, .long a), (3, .long b)]) hx hb d_kv_keep_30 hl (by decide) rfl (fun ls hl => ?_)
      refine lv_lload_n hx hb d_kv_keep_32 rfl (lv_at hl 4 rfl) ?_
      refine lv_lload hx hb d_kv_keep_33 (lv_at hl 1 rfl) ?_
      refine lv_ldiv hx hb d_kv_keep_35 c_2 ?_
      refine lv_lstore (lv' := [(9, .long (b / (f_kr_gcd a b))), (7, .long (a / (f_kr_gcd a b))), (5, .long (f_kr_gcd a b)), (0, .ref a0), (1, .long a), (3, .long b)]) hx hb d_kv_keep_36 hl (by decide) rfl (fun ls hl => ?_)
      refine lv_lload hx hb d_kv_keep_38 (lv_at hl 1 rfl) ?_
      refine lv_lload hx hb d_kv_keep_40 (lv_at hl 0 rfl) ?_
      refine vp_callSi (W.runS (As := [.long (a / (f_kr_gcd a b)), .long (b / (f_kr_gcd a b))]) (rest := []) ⟨hx, hb, hml, hown, hT⟩ (c_kv_fits l (a / (f_kr_gcd a b)) (b / (f_kr_gcd a b))) (va_cwS 2 hT (kt_S k_15 k_14 k_2 k_13) rfl rfl rfl (by decide +kernel) ⟨Nat.le_of_ble_eq_true rfl, Nat.le_of_ble_eq_true rfl⟩) ⟨bl_S, fun U hU hW => ⟨rfl, trivial⟩⟩ rfl rfl hl.1 rfl (lv_room (Nat.le_of_ble_eq_true rfl)) d_kv_keep_42 ⟨Nat.zero_le _, Nat.zero_le _⟩) (fun r_4 e_r_4 => ?_)
      subst e_r_4
      refine lv_if_ne (tgt := 50) hx hb d_kv_keep_45 (by decide) (fun c_5 => ?_) (fun c_5 => ?_)
      · refine lv_aload_n hx hb d_kv_keep_50 rfl (lv_at hl 3 rfl) ?_
        refine va_get (D := (dC, dI)) (ci := 1) (v := .ref a1) (C := R_kv) (T := F_kv) (N := 3) hx hb hT i_kv hown hK hP 0 rfl rfl 0 (by decide) (hT _ k_6) (fun _ h9 => h9) rfl d_kv_keep_51 ?_
        refine lv_aload_n hx hb d_kv_keep_54 rfl (lv_at hl 3 rfl) ?_
        refine va_get (D := (dC, dI)) (ci := 1) (v := .int cnt) (C := R_kv) (T := F_kv) (N := 3) hx hb hT i_kv hown hK hP 0 rfl rfl 2 (by decide) (hT _ k_0) (fun _ h9 => h9) rfl d_kv_keep_55 ?_
        refine lv_lload hx hb d_kv_keep_58 (lv_at hl 1 rfl) ?_
        refine lv_l2i (v := (a / (f_kr_gcd a b)).toInt32) hx hb d_kv_keep_60 rfl ?_
        refine va_iast hx hb hK hP hD hS 1 0 rfl rfl (in_cnt hc c_3) d_kv_keep_61 (fun H locs hP hD hS => ?_)
        have hP : va_P (dC, dI) classes [(a0, .inr (1, [.ref a1, .ref a2, .int cnt])), (a1, .inl (cU, 300, .inl (upd fu cnt.toNatClampNeg ((a / (f_kr_gcd a b)).toInt32)))), (a2, .inl (cL, 300, .inl fl))] H := hP
        have hD : va_D A [(a0, .inr (1, [.ref a1, .ref a2, .int cnt])), (a1, .inl (cU, 300, .inl (upd fu cnt.toNatClampNeg ((a / (f_kr_gcd a b)).toInt32)))), (a2, .inl (cL, 300, .inl fl))] := hD
        refine lv_aload_n hx hb d_kv_keep_62 rfl (lv_at hl 3 rfl) ?_
        refine va_get (D := (dC, dI)) (ci := 1) (v := .ref a2) (C := R_kv) (T := F_kv) (N := 3) hx hb hT i_kv hown hK hP 0 rfl rfl 1 (by decide) (hT _ k_7) (fun _ h9 => h9) rfl d_kv_keep_63 ?_
        refine lv_aload_n hx hb d_kv_keep_66 rfl (lv_at hl 3 rfl) ?_
        refine va_get (D := (dC, dI)) (ci := 1) (v := .int cnt) (C := R_kv) (T := F_kv) (N := 3) hx hb hT i_kv hown hK hP 0 rfl rfl 2 (by decide) (hT _ k_0) (fun _ h9 => h9) rfl d_kv_keep_67 ?_
        refine lv_lload hx hb d_kv_keep_70 (lv_at hl 0 rfl) ?_
        refine lv_l2i (v := (b / (f_kr_gcd a b)).toInt32) hx hb d_kv_keep_72 rfl ?_
        refine va_iast hx hb hK hP hD hS 2 1 rfl rfl (in_cnt hc c_3) d_kv_keep_73 (fun H locs hP hD hS => ?_)
        have hP : va_P (dC, dI) classes [(a0, .inr (1, [.ref a1, .ref a2, .int cnt])), (a1, .inl (cU, 300, .inl (upd fu cnt.toNatClampNeg ((a / (f_kr_gcd a b)).toInt32)))), (a2, .inl (cL, 300, .inl (upd fl cnt.toNatClampNeg ((b / (f_kr_gcd a b)).toInt32))))] H := hP
        have hD : va_D A [(a0, .inr (1, [.ref a1, .ref a2, .int cnt])), (a1, .inl (cU, 300, .inl (upd fu cnt.toNatClampNeg ((a / (f_kr_gcd a b)).toInt32)))), (a2, .inl (cL, 300, .inl (upd fl cnt.toNatClampNeg ((b / (f_kr_gcd a b)).toInt32))))] := hD
        refine lv_aload_n hx hb d_kv_keep_74 rfl (lv_at hl 3 rfl) ?_
        refine lv_dup hx hb d_kv_keep_75 rfl ?_
        refine va_get (D := (dC, dI)) (ci := 1) (v := .int cnt) (C := R_kv) (T := F_kv) (N := 3) hx hb hT i_kv hown hK hP 0 rfl rfl 2 (by decide) (hT _ k_0) (fun _ h9 => h9) rfl d_kv_keep_76 ?_
        refine lv_iconst (v := 1) hx hb d_kv_keep_79 (by decide) ?_
        refine lv_iadd hx hb d_kv_keep_80 ?_
        refine va_put (D := (dC, dI)) (ci := 1) (v := .int (cnt + 1)) (ty := .int) (C := R_kv) (T := F_kv) (N := 3) hx hb hT i_kv t_kv t_kv_ok n_kv hown hK hP hD hS 0 rfl rfl 2 (by decide) (hT _ k_0) (fun _ h9 => h9) rfl (by decide +kernel) rfl rfl (Nat.le_of_ble_eq_true rfl) d_kv_keep_81 (fun H locs hP hD hS => ?_)
        have hP : va_P (dC, dI) classes [(a0, .inr (1, [.ref a1, .ref a2, .int (cnt + 1)])), (a1, .inl (cU, 300, .inl (upd fu cnt.toNatClampNeg ((a / (f_kr_gcd a b)).toInt32)))), (a2, .inl (cL, 300, .inl (upd fl cnt.toNatClampNeg ((b / (f_kr_gcd a b)).toInt32))))] H := hP
        have hD : va_D A [(a0, .inr (1, [.ref a1, .ref a2, .int (cnt + 1)])), (a1, .inl (cU, 300, .inl (upd fu cnt.toNatClampNeg ((a / (f_kr_gcd a b)).toInt32)))), (a2, .inl (cL, 300, .inl (upd fl cnt.toNatClampNeg ((b / (f_kr_gcd a b)).toInt32))))] := hD
        refine lv_aload_n hx hb d_kv_keep_84 rfl (lv_at hl 3 rfl) ?_
        refine va_get (D := (dC, dI)) (ci := 1) (v := .int (cnt + 1)) (C := R_kv) (T := F_kv) (N := 3) hx hb hT i_kv hown hK hP 0 rfl rfl 2 (by decide) (hT _ k_0) (fun _ h9 => h9) rfl d_kv_keep_85 ?_
        refine lv_iconst (v := 1) hx hb d_kv_keep_88 (by decide) ?_
        refine lv_isub hx hb d_kv_keep_89 ?_
        exact W.iret (v := (cnt + 1) - 1) hx hb hr (fun t ht hW => ⟨⟨(cnt + 1) - 1, (upd fu cnt.toNatClampNeg ((a / (f_kr_gcd a b)).toInt32), upd fl cnt.toNatClampNeg ((b / (f_kr_gcd a b)).toInt32), cnt + 1), rfl, by unfold f_kv_keep; rw [if_neg c_2, if_pos c_3, if_neg c_5], by rw [ht]; exact hP, va_K.moved hW.alike hK, hD⟩, hS.F ht⟩) hS.2.2 d_kv_keep_90
      · refine lv_iconst (v := (-1)) hx hb d_kv_keep_48 (by decide) ?_
        exact W.iret (v := (-1)) hx hb hr (fun t ht hW => ⟨⟨(-1), (fu, fl, cnt), rfl, by unfold f_kv_keep; rw [if_neg c_2, if_pos c_3, if_pos c_5], by rw [ht]; exact hP, va_K.moved hW.alike hK, hD⟩, hS.F ht⟩) hS.2.2 d_kv_keep_49
    · refine lv_iconst (v := (-1)) hx hb d_kv_keep_24 (by decide) ?_
      exact W.iret (v := (-1)) hx hb hr (fun t ht hW => ⟨⟨(-1), (fu, fl, cnt), rfl, by unfold f_kv_keep; rw [if_neg c_2, if_neg c_3], by rw [ht]; exact hP, va_K.moved hW.alike hK, hD⟩, hS.F ht⟩) hS.2.2 d_kv_keep_25
