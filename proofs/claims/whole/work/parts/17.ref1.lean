abbrev b_mo_thrown : ByteArray := prog_6_method_2_code
def y_mo_thrown : MethodName := ⟨R_mo, "thrown", "()I"⟩
def w_mo_thrown : List Cond := .code y_mo_thrown b_mo_thrown 1 (some .int) :: kt_T
theorem d_mo_thrown_0 : decode b_mo_thrown 0 = .ok (.aload_n 0, 1) := by decide +kernel
theorem d_mo_thrown_1 : decode b_mo_thrown 1 = .ok (.getfield 43, 3) := by decide +kernel
theorem d_mo_thrown_4 : decode b_mo_thrown 4 = .ok (.ireturn, 1) := by decide +kernel
abbrev b_mo_isValue : ByteArray := prog_6_method_3_code
def y_mo_isValue : MethodName := ⟨R_mo, "isValue", "(I)Z"⟩
def w_mo_isValue : List Cond := .code y_mo_isValue b_mo_isValue 2 (some .boolean) :: kt_T
theorem d_mo_isValue_0 : decode b_mo_isValue 0 = .ok (.iload_n 1, 1) := by decide +kernel
theorem d_mo_isValue_1 : decode b_mo_isValue 1 = .ok (.ifCond .lt 15, 3) := by decide +kernel
theorem d_mo_isValue_4 : decode b_mo_isValue 4 = .ok (.iload_n 1, 1) := by decide +kernel
theorem d_mo_isValue_5 : decode b_mo_isValue 5 = .ok (.aload_n 0, 1) := by decide +kernel
theorem d_mo_isValue_6 : decode b_mo_isValue 6 = .ok (.getfield 46, 3) := by decide +kernel
theorem d_mo_isValue_9 : decode b_mo_isValue 9 = .ok (.if_icmp .ge 7, 3) := by decide +kernel
theorem d_mo_isValue_12 : decode b_mo_isValue 12 = .ok (.iconst 1, 1) := by decide +kernel
theorem d_mo_isValue_13 : decode b_mo_isValue 13 = .ok (.goto 4, 3) := by decide +kernel
theorem d_mo_isValue_16 : decode b_mo_isValue 16 = .ok (.iconst 0, 1) := by decide +kernel
theorem d_mo_isValue_17 : decode b_mo_isValue 17 = .ok (.ireturn, 1) := by decide +kernel
abbrev b_mo_isRow : ByteArray := prog_6_method_17_code
def y_mo_isRow : MethodName := ⟨R_mo, "isRow", "(I)Z"⟩
def w_mo_isRow : List Cond := .code y_mo_isRow b_mo_isRow 2 (some .boolean) :: kt_T
theorem d_mo_isRow_0 : decode b_mo_isRow 0 = .ok (.iload_n 1, 1) := by decide +kernel
theorem d_mo_isRow_1 : decode b_mo_isRow 1 = .ok (.ifCond .lt 15, 3) := by decide +kernel
theorem d_mo_isRow_4 : decode b_mo_isRow 4 = .ok (.iload_n 1, 1) := by decide +kernel
theorem d_mo_isRow_5 : decode b_mo_isRow 5 = .ok (.aload_n 0, 1) := by decide +kernel
theorem d_mo_isRow_6 : decode b_mo_isRow 6 = .ok (.getfield 82, 3) := by decide +kernel
theorem d_mo_isRow_9 : decode b_mo_isRow 9 = .ok (.if_icmp .ge 7, 3) := by decide +kernel
theorem d_mo_isRow_12 : decode b_mo_isRow 12 = .ok (.iconst 1, 1) := by decide +kernel
theorem d_mo_isRow_13 : decode b_mo_isRow 13 = .ok (.goto 4, 3) := by decide +kernel
theorem d_mo_isRow_16 : decode b_mo_isRow 16 = .ok (.iconst 0, 1) := by decide +kernel
theorem d_mo_isRow_17 : decode b_mo_isRow 17 = .ok (.ireturn, 1) := by decide +kernel
abbrev b_mo_isKind : ByteArray := prog_6_method_18_code
def y_mo_isKind : MethodName := ⟨R_mo, "isKind", "(I)Z"⟩
def w_mo_isKind : List Cond := .code y_mo_isKind b_mo_isKind 2 (some .boolean) :: kt_T
theorem d_mo_isKind_0 : decode b_mo_isKind 0 = .ok (.iload_n 1, 1) := by decide +kernel
theorem d_mo_isKind_1 : decode b_mo_isKind 1 = .ok (.ifCond .lt 15, 3) := by decide +kernel
theorem d_mo_isKind_4 : decode b_mo_isKind 4 = .ok (.iload_n 1, 1) := by decide +kernel
theorem d_mo_isKind_5 : decode b_mo_isKind 5 = .ok (.aload_n 0, 1) := by decide +kernel
theorem d_mo_isKind_6 : decode b_mo_isKind 6 = .ok (.getfield 39, 3) := by decide +kernel
theorem d_mo_isKind_9 : decode b_mo_isKind 9 = .ok (.if_icmp .ge 7, 3) := by decide +kernel
theorem d_mo_isKind_12 : decode b_mo_isKind 12 = .ok (.iconst 1, 1) := by decide +kernel
theorem d_mo_isKind_13 : decode b_mo_isKind 13 = .ok (.goto 4, 3) := by decide +kernel
theorem d_mo_isKind_16 : decode b_mo_isKind 16 = .ok (.iconst 0, 1) := by decide +kernel
theorem d_mo_isKind_17 : decode b_mo_isKind 17 = .ok (.ireturn, 1) := by decide +kernel
abbrev b_mo_isIn : ByteArray := prog_6_method_4_code
def y_mo_isIn : MethodName := ⟨R_mo, "isIn", "(J)Z"⟩
def w_mo_isIn : List Cond := .code y_mo_isIn b_mo_isIn 2 (some .boolean) :: kt_T
theorem d_mo_isIn_0 : decode b_mo_isIn 0 = .ok (.lload_n 0, 1) := by decide +kernel
theorem d_mo_isIn_1 : decode b_mo_isIn 1 = .ok (.ldc2_w 49, 3) := by decide +kernel
theorem d_mo_isIn_4 : decode b_mo_isIn 4 = .ok (.lcmp, 1) := by decide +kernel
theorem d_mo_isIn_5 : decode b_mo_isIn 5 = .ok (.ifCond .lt 15, 3) := by decide +kernel
theorem d_mo_isIn_8 : decode b_mo_isIn 8 = .ok (.lload_n 0, 1) := by decide +kernel
theorem d_mo_isIn_9 : decode b_mo_isIn 9 = .ok (.ldc2_w 51, 3) := by decide +kernel
theorem d_mo_isIn_12 : decode b_mo_isIn 12 = .ok (.lcmp, 1) := by decide +kernel
theorem d_mo_isIn_13 : decode b_mo_isIn 13 = .ok (.ifCond .gt 7, 3) := by decide +kernel
theorem d_mo_isIn_16 : decode b_mo_isIn 16 = .ok (.iconst 1, 1) := by decide +kernel
theorem d_mo_isIn_17 : decode b_mo_isIn 17 = .ok (.goto 4, 3) := by decide +kernel
theorem d_mo_isIn_20 : decode b_mo_isIn 20 = .ok (.iconst 0, 1) := by decide +kernel
theorem d_mo_isIn_21 : decode b_mo_isIn 21 = .ok (.ireturn, 1) := by decide +kernel
abbrev b_mo_lowest : ByteArray := prog_6_method_5_code
def y_mo_lowest : MethodName := ⟨R_mo, "lowest", "(JJ)Z"⟩
def w_mo_lowest : List Cond := .code y_mo_lowest b_mo_lowest 11 (some .boolean) :: kt_T
theorem d_mo_lowest_0 : decode b_mo_lowest 0 = .ok (.lload_n 1, 1) := by decide +kernel
theorem d_mo_lowest_1 : decode b_mo_lowest 1 = .ok (.lstore 5, 2) := by decide +kernel
theorem d_mo_lowest_3 : decode b_mo_lowest 3 = .ok (.lload_n 3, 1) := by decide +kernel
theorem d_mo_lowest_4 : decode b_mo_lowest 4 = .ok (.lstore 7, 2) := by decide +kernel
theorem d_mo_lowest_6 : decode b_mo_lowest 6 = .ok (.lload 7, 2) := by decide +kernel
theorem d_mo_lowest_8 : decode b_mo_lowest 8 = .ok (.lconst 0, 1) := by decide +kernel
theorem d_mo_lowest_9 : decode b_mo_lowest 9 = .ok (.lcmp, 1) := by decide +kernel
theorem d_mo_lowest_10 : decode b_mo_lowest 10 = .ok (.ifCond .eq 21, 3) := by decide +kernel
theorem d_mo_lowest_13 : decode b_mo_lowest 13 = .ok (.lload 5, 2) := by decide +kernel
theorem d_mo_lowest_15 : decode b_mo_lowest 15 = .ok (.lload 7, 2) := by decide +kernel
theorem d_mo_lowest_17 : decode b_mo_lowest 17 = .ok (.lrem, 1) := by decide +kernel
theorem d_mo_lowest_18 : decode b_mo_lowest 18 = .ok (.lstore 9, 2) := by decide +kernel
theorem d_mo_lowest_20 : decode b_mo_lowest 20 = .ok (.lload 7, 2) := by decide +kernel
theorem d_mo_lowest_22 : decode b_mo_lowest 22 = .ok (.lstore 5, 2) := by decide +kernel
theorem d_mo_lowest_24 : decode b_mo_lowest 24 = .ok (.lload 9, 2) := by decide +kernel
theorem d_mo_lowest_26 : decode b_mo_lowest 26 = .ok (.lstore 7, 2) := by decide +kernel
theorem d_mo_lowest_28 : decode b_mo_lowest 28 = .ok (.goto (-22), 3) := by decide +kernel
theorem d_mo_lowest_31 : decode b_mo_lowest 31 = .ok (.aload_n 0, 1) := by decide +kernel
theorem d_mo_lowest_32 : decode b_mo_lowest 32 = .ok (.lload_n 1, 1) := by decide +kernel
theorem d_mo_lowest_33 : decode b_mo_lowest 33 = .ok (.lload 5, 2) := by decide +kernel
theorem d_mo_lowest_35 : decode b_mo_lowest 35 = .ok (.ldiv, 1) := by decide +kernel
theorem d_mo_lowest_36 : decode b_mo_lowest 36 = .ok (.putfield 53, 3) := by decide +kernel
theorem d_mo_lowest_39 : decode b_mo_lowest 39 = .ok (.aload_n 0, 1) := by decide +kernel
theorem d_mo_lowest_40 : decode b_mo_lowest 40 = .ok (.lload_n 3, 1) := by decide +kernel
theorem d_mo_lowest_41 : decode b_mo_lowest 41 = .ok (.lload 5, 2) := by decide +kernel
theorem d_mo_lowest_43 : decode b_mo_lowest 43 = .ok (.ldiv, 1) := by decide +kernel
theorem d_mo_lowest_44 : decode b_mo_lowest 44 = .ok (.putfield 57, 3) := by decide +kernel
theorem d_mo_lowest_47 : decode b_mo_lowest 47 = .ok (.aload_n 0, 1) := by decide +kernel
theorem d_mo_lowest_48 : decode b_mo_lowest 48 = .ok (.getfield 53, 3) := by decide +kernel
theorem d_mo_lowest_51 : decode b_mo_lowest 51 = .ok (.invokestatic 60, 3) := by decide +kernel
theorem d_mo_lowest_54 : decode b_mo_lowest 54 = .ok (.ifCond .eq 13, 3) := by decide +kernel
theorem d_mo_lowest_57 : decode b_mo_lowest 57 = .ok (.aload_n 0, 1) := by decide +kernel
theorem d_mo_lowest_58 : decode b_mo_lowest 58 = .ok (.getfield 57, 3) := by decide +kernel
theorem d_mo_lowest_61 : decode b_mo_lowest 61 = .ok (.invokestatic 60, 3) := by decide +kernel
theorem d_mo_lowest_64 : decode b_mo_lowest 64 = .ok (.ifCond .ne 5, 3) := by decide +kernel
theorem d_mo_lowest_67 : decode b_mo_lowest 67 = .ok (.iconst 0, 1) := by decide +kernel
theorem d_mo_lowest_68 : decode b_mo_lowest 68 = .ok (.ireturn, 1) := by decide +kernel
theorem d_mo_lowest_69 : decode b_mo_lowest 69 = .ok (.aload_n 0, 1) := by decide +kernel
theorem d_mo_lowest_70 : decode b_mo_lowest 70 = .ok (.aload_n 0, 1) := by decide +kernel
theorem d_mo_lowest_71 : decode b_mo_lowest 71 = .ok (.getfield 57, 3) := by decide +kernel
theorem d_mo_lowest_74 : decode b_mo_lowest 74 = .ok (.lconst 0, 1) := by decide +kernel
theorem d_mo_lowest_75 : decode b_mo_lowest 75 = .ok (.lcmp, 1) := by decide +kernel
theorem d_mo_lowest_76 : decode b_mo_lowest 76 = .ok (.ifCond .ge 11, 3) := by decide +kernel
theorem d_mo_lowest_79 : decode b_mo_lowest 79 = .ok (.aload_n 0, 1) := by decide +kernel
theorem d_mo_lowest_80 : decode b_mo_lowest 80 = .ok (.getfield 53, 3) := by decide +kernel
theorem d_mo_lowest_83 : decode b_mo_lowest 83 = .ok (.lneg, 1) := by decide +kernel
theorem d_mo_lowest_84 : decode b_mo_lowest 84 = .ok (.goto 7, 3) := by decide +kernel
theorem d_mo_lowest_87 : decode b_mo_lowest 87 = .ok (.aload_n 0, 1) := by decide +kernel
theorem d_mo_lowest_88 : decode b_mo_lowest 88 = .ok (.getfield 53, 3) := by decide +kernel
theorem d_mo_lowest_91 : decode b_mo_lowest 91 = .ok (.putfield 53, 3) := by decide +kernel
theorem d_mo_lowest_94 : decode b_mo_lowest 94 = .ok (.aload_n 0, 1) := by decide +kernel
theorem d_mo_lowest_95 : decode b_mo_lowest 95 = .ok (.aload_n 0, 1) := by decide +kernel
theorem d_mo_lowest_96 : decode b_mo_lowest 96 = .ok (.getfield 57, 3) := by decide +kernel
theorem d_mo_lowest_99 : decode b_mo_lowest 99 = .ok (.lconst 0, 1) := by decide +kernel
theorem d_mo_lowest_100 : decode b_mo_lowest 100 = .ok (.lcmp, 1) := by decide +kernel
theorem d_mo_lowest_101 : decode b_mo_lowest 101 = .ok (.ifCond .ge 11, 3) := by decide +kernel
theorem d_mo_lowest_104 : decode b_mo_lowest 104 = .ok (.aload_n 0, 1) := by decide +kernel
theorem d_mo_lowest_105 : decode b_mo_lowest 105 = .ok (.getfield 57, 3) := by decide +kernel
theorem d_mo_lowest_108 : decode b_mo_lowest 108 = .ok (.lneg, 1) := by decide +kernel
theorem d_mo_lowest_109 : decode b_mo_lowest 109 = .ok (.goto 7, 3) := by decide +kernel
theorem d_mo_lowest_112 : decode b_mo_lowest 112 = .ok (.aload_n 0, 1) := by decide +kernel
theorem d_mo_lowest_113 : decode b_mo_lowest 113 = .ok (.getfield 57, 3) := by decide +kernel
theorem d_mo_lowest_116 : decode b_mo_lowest 116 = .ok (.putfield 57, 3) := by decide +kernel
theorem d_mo_lowest_119 : decode b_mo_lowest 119 = .ok (.iconst 1, 1) := by decide +kernel
theorem d_mo_lowest_120 : decode b_mo_lowest 120 = .ok (.ireturn, 1) := by decide +kernel
abbrev b_mo_keep : ByteArray := prog_6_method_6_code
def y_mo_keep : MethodName := ⟨R_mo, "keep", "(JJ)I"⟩
def w_mo_keep : List Cond := .code y_mo_keep b_mo_keep 5 (some .int) :: kt_T
theorem d_mo_keep_0 : decode b_mo_keep 0 = .ok (.aload_n 0, 1) := by decide +kernel
theorem d_mo_keep_1 : decode b_mo_keep 1 = .ok (.lload_n 1, 1) := by decide +kernel
theorem d_mo_keep_2 : decode b_mo_keep 2 = .ok (.lload_n 3, 1) := by decide +kernel
theorem d_mo_keep_3 : decode b_mo_keep 3 = .ok (.invokevirtual 64, 3) := by decide +kernel
theorem d_mo_keep_6 : decode b_mo_keep 6 = .ok (.ifCond .eq 13, 3) := by decide +kernel
theorem d_mo_keep_9 : decode b_mo_keep 9 = .ok (.aload_n 0, 1) := by decide +kernel
theorem d_mo_keep_10 : decode b_mo_keep 10 = .ok (.getfield 46, 3) := by decide +kernel
theorem d_mo_keep_13 : decode b_mo_keep 13 = .ok (.sipush 300, 3) := by decide +kernel
theorem d_mo_keep_16 : decode b_mo_keep 16 = .ok (.if_icmp .ne 5, 3) := by decide +kernel
theorem d_mo_keep_19 : decode b_mo_keep 19 = .ok (.iconst (-1), 1) := by decide +kernel
theorem d_mo_keep_20 : decode b_mo_keep 20 = .ok (.ireturn, 1) := by decide +kernel
theorem d_mo_keep_21 : decode b_mo_keep 21 = .ok (.aload_n 0, 1) := by decide +kernel
theorem d_mo_keep_22 : decode b_mo_keep 22 = .ok (.getfield 7, 3) := by decide +kernel
theorem d_mo_keep_25 : decode b_mo_keep 25 = .ok (.aload_n 0, 1) := by decide +kernel
theorem d_mo_keep_26 : decode b_mo_keep 26 = .ok (.getfield 46, 3) := by decide +kernel
theorem d_mo_keep_29 : decode b_mo_keep 29 = .ok (.aload_n 0, 1) := by decide +kernel
theorem d_mo_keep_30 : decode b_mo_keep 30 = .ok (.getfield 53, 3) := by decide +kernel
theorem d_mo_keep_33 : decode b_mo_keep 33 = .ok (.lastore, 1) := by decide +kernel
theorem d_mo_keep_34 : decode b_mo_keep 34 = .ok (.aload_n 0, 1) := by decide +kernel
theorem d_mo_keep_35 : decode b_mo_keep 35 = .ok (.getfield 13, 3) := by decide +kernel
theorem d_mo_keep_38 : decode b_mo_keep 38 = .ok (.aload_n 0, 1) := by decide +kernel
theorem d_mo_keep_39 : decode b_mo_keep 39 = .ok (.getfield 46, 3) := by decide +kernel
theorem d_mo_keep_42 : decode b_mo_keep 42 = .ok (.aload_n 0, 1) := by decide +kernel
theorem d_mo_keep_43 : decode b_mo_keep 43 = .ok (.getfield 57, 3) := by decide +kernel
theorem d_mo_keep_46 : decode b_mo_keep 46 = .ok (.lastore, 1) := by decide +kernel
theorem d_mo_keep_47 : decode b_mo_keep 47 = .ok (.aload_n 0, 1) := by decide +kernel
theorem d_mo_keep_48 : decode b_mo_keep 48 = .ok (.dup, 1) := by decide +kernel
theorem d_mo_keep_49 : decode b_mo_keep 49 = .ok (.getfield 46, 3) := by decide +kernel
theorem d_mo_keep_52 : decode b_mo_keep 52 = .ok (.iconst 1, 1) := by decide +kernel
theorem d_mo_keep_53 : decode b_mo_keep 53 = .ok (.iadd, 1) := by decide +kernel
theorem d_mo_keep_54 : decode b_mo_keep 54 = .ok (.putfield 46, 3) := by decide +kernel
theorem d_mo_keep_57 : decode b_mo_keep 57 = .ok (.aload_n 0, 1) := by decide +kernel
theorem d_mo_keep_58 : decode b_mo_keep 58 = .ok (.getfield 46, 3) := by decide +kernel
theorem d_mo_keep_61 : decode b_mo_keep 61 = .ok (.iconst 1, 1) := by decide +kernel
theorem d_mo_keep_62 : decode b_mo_keep 62 = .ok (.isub, 1) := by decide +kernel
theorem d_mo_keep_63 : decode b_mo_keep 63 = .ok (.ireturn, 1) := by decide +kernel
theorem k_127 : (.fieldLink R_mo 43 "KilogramRowsModel" "thrown" "I" : Cond) ∈ kt_T := List.mem_filter.mpr ⟨List.mem_of_getElem? (i := 409) (by decide +kernel), by decide +kernel⟩
theorem k_128 : (.fieldLink R_mo 46 "KilogramRowsModel" "values" "I" : Cond) ∈ kt_T := List.mem_filter.mpr ⟨List.mem_of_getElem? (i := 411) (by decide +kernel), by decide +kernel⟩
theorem k_129 : (.fieldLink R_mo 82 "KilogramRowsModel" "rows" "I" : Cond) ∈ kt_T := List.mem_filter.mpr ⟨List.mem_of_getElem? (i := 416) (by decide +kernel), by decide +kernel⟩
theorem k_130 : (.fieldLink R_mo 39 "KilogramRowsModel" "kinds" "I" : Cond) ∈ kt_T := List.mem_filter.mpr ⟨List.mem_of_getElem? (i := 410) (by decide +kernel), by decide +kernel⟩
theorem k_131 : (.constantLong R_mo 49 (-1000000000) : Cond) ∈ kt_T := List.mem_filter.mpr ⟨List.mem_of_getElem? (i := 481) (by decide +kernel), by decide +kernel⟩
theorem k_132 : (.constantLong R_mo 51 1000000000 : Cond) ∈ kt_T := List.mem_filter.mpr ⟨List.mem_of_getElem? (i := 482) (by decide +kernel), by decide +kernel⟩
theorem k_133 : (.fieldLink R_mo 53 "KilogramRowsModel" "up" "J" : Cond) ∈ kt_T := List.mem_filter.mpr ⟨List.mem_of_getElem? (i := 414) (by decide +kernel), by decide +kernel⟩
theorem k_134 : (.fieldLink R_mo 57 "KilogramRowsModel" "down" "J" : Cond) ∈ kt_T := List.mem_filter.mpr ⟨List.mem_of_getElem? (i := 415) (by decide +kernel), by decide +kernel⟩
theorem k_135 : (.code y_mo_isIn b_mo_isIn 2 (some .boolean) : Cond) ∈ kt_T := List.mem_filter.mpr ⟨List.mem_of_getElem? (i := 480) (by decide +kernel), by decide +kernel⟩
theorem k_136 : (.initialized R_mo : Cond) ∈ kt_T := List.mem_filter.mpr ⟨List.mem_of_getElem? (i := 21) (by decide +kernel), by decide +kernel⟩
theorem k_137 : (.static y_mo_isIn : Cond) ∈ kt_T := List.mem_filter.mpr ⟨List.mem_of_getElem? (i := 479) (by decide +kernel), by decide +kernel⟩
theorem k_138 : (.methodLink R_mo 60 y_mo_isIn : Cond) ∈ kt_T := List.mem_filter.mpr ⟨List.mem_of_getElem? (i := 478) (by decide +kernel), by decide +kernel⟩
theorem k_139 : (.code y_mo_lowest b_mo_lowest 11 (some .boolean) : Cond) ∈ kt_T := List.mem_filter.mpr ⟨List.mem_of_getElem? (i := 477) (by decide +kernel), by decide +kernel⟩
theorem k_140 : (.instanceMethod y_mo_lowest : Cond) ∈ kt_T := List.mem_filter.mpr ⟨List.mem_of_getElem? (i := 476) (by decide +kernel), by decide +kernel⟩
theorem k_141 : (.selects R_mo y_mo_lowest y_mo_lowest : Cond) ∈ kt_T := List.mem_filter.mpr ⟨List.mem_of_getElem? (i := 8) (by decide +kernel), by decide +kernel⟩
theorem k_142 : (.methodLink R_mo 64 y_mo_lowest : Cond) ∈ kt_T := List.mem_filter.mpr ⟨List.mem_of_getElem? (i := 474) (by decide +kernel), by decide +kernel⟩
theorem k_143 : (.fieldLink R_mo 7 "KilogramRowsModel" "ups" "[J" : Cond) ∈ kt_T := List.mem_filter.mpr ⟨List.mem_of_getElem? (i := 412) (by decide +kernel), by decide +kernel⟩
theorem k_144 : (.fieldLink R_mo 13 "KilogramRowsModel" "downs" "[J" : Cond) ∈ kt_T := List.mem_filter.mpr ⟨List.mem_of_getElem? (i := 413) (by decide +kernel), by decide +kernel⟩
def f_mo_thrown (th : Int32) : Int32 :=
  th
set_option maxHeartbeats 4000000 in
set_option maxRecDepth 100000 in
theorem c_mo_thrown (l : Launch) (dC : Nat → ClassId) (dI : Nat → Nat → Nat) (m0 : Nat) (th : Int32) (mk : Int32) (mv : Int32) (mu : Nat) (md : Nat) (up : Int64) (dn : Int64) (mr : Int32) (mc : Nat) (me : Nat) (so : Int32) (mau : Nat) (mad : Nat) (mw : Int32) (mwg : Nat) (mgv : Nat) (msq : Nat) : Met l y_mo_thrown w_mo_thrown ({ frames := 0, cells := 0, slots := 0, locals := 0 }) (va_Pc [.ref m0] (fun U => va_P (dC, dI) classes [(m0, .inr (4, [.int th, .int mk, .int mv, .ref mu, .ref md, .long up, .long dn, .int mr, .ref mc, .ref me, .int so, .ref mau, .ref mad, .int mw, .ref mwg, .ref mgv, .ref msq]))] U.heap ∧ va_K (dC, dI) classes [] U)) (vp_Si (fun z9 => z9 = f_mo_thrown th)) 0 0 (fun _ => False) := by
  refine Met.ofW (cc := b_mo_thrown) (maxL := 1) (ret := (some .int)) (by decide +kernel) rfl ?_
  intro p e s m args below meth c s₁ B hml hv
  obtain ⟨rfl, hP, hK⟩ := hv
  have hx := B.exec
  have hb := B.bytes
  have hr := B.returns
  have hts := atoms_spec (ws := w_mo_thrown) B.pre
  have hT := fun (w : Cond) (h : w ∈ kt_T) => hts w (List.mem_cons_of_mem _ h)
  have hown : s.vm.findClass R_mo = some m.cls := findClass_of_methodNamed B.named
  have hlocks := B.notSynchronized
  have hl := lv_entry ([.ref m0]) (n := 1) (Nat.le_of_ble_eq_true rfl)
  rw [lg_entry_eq]
  generalize (lg_sl ([.ref m0]) ++ List.replicate (1 - (lg_sl ([.ref m0])).length) Slot.unset).toArray = ls at hl ⊢
  have hl : lv_has ls 1 [(0, .ref m0)] := hl
  refine lv_aload_n hx hb d_mo_thrown_0 rfl (lv_at hl 0 rfl) ?_
  refine va_get (D := (dC, dI)) (ci := 4) (v := .int th) (C := R_mo) (T := F_mo) (N := 17) hx hb hT i_mo hown hK hP 0 rfl rfl 0 (by decide) (hT _ k_127) (fun _ h9 => h9) rfl d_mo_thrown_1 ?_
  exact W.iret (v := th) hx hb hr (fun t ht hW => ⟨_, rfl, rfl, ht⟩) t_nil d_mo_thrown_4
def f_mo_isValue (mv : Int32) (v : Int32) : Int32 :=
  if v < 0 then 0 else if mv ≤ v then 0 else 1
set_option maxHeartbeats 4000000 in
set_option maxRecDepth 100000 in
theorem c_mo_isValue (l : Launch) (dC : Nat → ClassId) (dI : Nat → Nat → Nat) (m0 : Nat) (th : Int32) (mk : Int32) (mv : Int32) (mu : Nat) (md : Nat) (up : Int64) (dn : Int64) (mr : Int32) (mc : Nat) (me : Nat) (so : Int32) (mau : Nat) (mad : Nat) (mw : Int32) (mwg : Nat) (mgv : Nat) (msq : Nat) (v : Int32) : Met l y_mo_isValue w_mo_isValue ({ frames := 0, cells := 0, slots := 0, locals := 0 }) (va_Pc [.ref m0, .int v] (fun U => va_P (dC, dI) classes [(m0, .inr (4, [.int th, .int mk, .int mv, .ref mu, .ref md, .long up, .long dn, .int mr, .ref mc, .ref me, .int so, .ref mau, .ref mad, .int mw, .ref mwg, .ref mgv, .ref msq]))] U.heap ∧ va_K (dC, dI) classes [] U)) (vp_Si (fun z9 => z9 = f_mo_isValue mv v)) 0 0 (fun _ => False) := by
  refine Met.ofW (cc := b_mo_isValue) (maxL := 2) (ret := (some .boolean)) (by decide +kernel) rfl ?_
  intro p e s m args below meth c s₁ B hml hv
  obtain ⟨rfl, hP, hK⟩ := hv
  have hx := B.exec
  have hb := B.bytes
  have hr := B.returns
  have hts := atoms_spec (ws := w_mo_isValue) B.pre
  have hT := fun (w : Cond) (h : w ∈ kt_T) => hts w (List.mem_cons_of_mem _ h)
  have hown : s.vm.findClass R_mo = some m.cls := findClass_of_methodNamed B.named
  have hlocks := B.notSynchronized
  have hl := lv_entry ([.ref m0, .int v]) (n := 2) (Nat.le_of_ble_eq_true rfl)
  rw [lg_entry_eq]
  generalize (lg_sl ([.ref m0, .int v]) ++ List.replicate (2 - (lg_sl ([.ref m0, .int v])).length) Slot.unset).toArray = ls at hl ⊢
  have hl : lv_has ls 2 [(0, .ref m0), (1, .int v)] := hl
  refine lv_iload_n hx hb d_mo_isValue_0 rfl (lv_at hl 1 rfl) ?_
  refine lv_if_lt (tgt := 16) hx hb d_mo_isValue_1 (by decide) (fun c_1 => ?_) (fun c_1 => ?_)
  · refine lv_iconst (v := 0) hx hb d_mo_isValue_16 (by decide) ?_
    exact W.zret (v := 0) hx hb hr rfl (fun t ht hW => ⟨_, rfl, by unfold f_mo_isValue; rw [if_pos c_1], ht⟩) t_nil d_mo_isValue_17
  · refine lv_iload_n hx hb d_mo_isValue_4 rfl (lv_at hl 1 rfl) ?_
    refine lv_aload_n hx hb d_mo_isValue_5 rfl (lv_at hl 0 rfl) ?_
    refine va_get (D := (dC, dI)) (ci := 4) (v := .int mv) (C := R_mo) (T := F_mo) (N := 17) hx hb hT i_mo hown hK hP 0 rfl rfl 2 (by decide) (hT _ k_128) (fun _ h9 => h9) rfl d_mo_isValue_6 ?_
    refine lv_icmp_ge (tgt := 16) hx hb d_mo_isValue_9 (by decide) (fun c_2 => ?_) (fun c_2 => ?_)
    · refine lv_iconst (v := 0) hx hb d_mo_isValue_16 (by decide) ?_
      exact W.zret (v := 0) hx hb hr rfl (fun t ht hW => ⟨_, rfl, by unfold f_mo_isValue; rw [if_neg c_1, if_pos c_2], ht⟩) t_nil d_mo_isValue_17
    · refine lv_iconst (v := 1) hx hb d_mo_isValue_12 (by decide) ?_
      refine lv_goto (tgt := 17) hx hb d_mo_isValue_13 (by decide) ?_
      exact W.zret (v := 1) hx hb hr rfl (fun t ht hW => ⟨_, rfl, by unfold f_mo_isValue; rw [if_neg c_1, if_neg c_2], ht⟩) t_nil d_mo_isValue_17
def f_mo_isRow (mr : Int32) (row : Int32) : Int32 :=
  if row < 0 then 0 else if mr ≤ row then 0 else 1
set_option maxHeartbeats 4000000 in
set_option maxRecDepth 100000 in
theorem c_mo_isRow (l : Launch) (dC : Nat → ClassId) (dI : Nat → Nat → Nat) (m0 : Nat) (th : Int32) (mk : Int32) (mv : Int32) (mu : Nat) (md : Nat) (up : Int64) (dn : Int64) (mr : Int32) (mc : Nat) (me : Nat) (so : Int32) (mau : Nat) (mad : Nat) (mw : Int32) (mwg : Nat) (mgv : Nat) (msq : Nat) (row : Int32) : Met l y_mo_isRow w_mo_isRow ({ frames := 0, cells := 0, slots := 0, locals := 0 }) (va_Pc [.ref m0, .int row] (fun U => va_P (dC, dI) classes [(m0, .inr (4, [.int th, .int mk, .int mv, .ref mu, .ref md, .long up, .long dn, .int mr, .ref mc, .ref me, .int so, .ref mau, .ref mad, .int mw, .ref mwg, .ref mgv, .ref msq]))] U.heap ∧ va_K (dC, dI) classes [] U)) (vp_Si (fun z9 => z9 = f_mo_isRow mr row)) 0 0 (fun _ => False) := by
  refine Met.ofW (cc := b_mo_isRow) (maxL := 2) (ret := (some .boolean)) (by decide +kernel) rfl ?_
  intro p e s m args below meth c s₁ B hml hv
  obtain ⟨rfl, hP, hK⟩ := hv
  have hx := B.exec
  have hb := B.bytes
  have hr := B.returns
  have hts := atoms_spec (ws := w_mo_isRow) B.pre
  have hT := fun (w : Cond) (h : w ∈ kt_T) => hts w (List.mem_cons_of_mem _ h)
  have hown : s.vm.findClass R_mo = some m.cls := findClass_of_methodNamed B.named
  have hlocks := B.notSynchronized
  have hl := lv_entry ([.ref m0, .int row]) (n := 2) (Nat.le_of_ble_eq_true rfl)
  rw [lg_entry_eq]
  generalize (lg_sl ([.ref m0, .int row]) ++ List.replicate (2 - (lg_sl ([.ref m0, .int row])).length) Slot.unset).toArray = ls at hl ⊢
  have hl : lv_has ls 2 [(0, .ref m0), (1, .int row)] := hl
  refine lv_iload_n hx hb d_mo_isRow_0 rfl (lv_at hl 1 rfl) ?_
  refine lv_if_lt (tgt := 16) hx hb d_mo_isRow_1 (by decide) (fun c_1 => ?_) (fun c_1 => ?_)
  · refine lv_iconst (v := 0) hx hb d_mo_isRow_16 (by decide) ?_
    exact W.zret (v := 0) hx hb hr rfl (fun t ht hW => ⟨_, rfl, by unfold f_mo_isRow; rw [if_pos c_1], ht⟩) t_nil d_mo_isRow_17
  · refine lv_iload_n hx hb d_mo_isRow_4 rfl (lv_at hl 1 rfl) ?_
    refine lv_aload_n hx hb d_mo_isRow_5 rfl (lv_at hl 0 rfl) ?_
    refine va_get (D := (dC, dI)) (ci := 4) (v := .int mr) (C := R_mo) (T := F_mo) (N := 17) hx hb hT i_mo hown hK hP 0 rfl rfl 7 (by decide) (hT _ k_129) (fun _ h9 => h9) rfl d_mo_isRow_6 ?_
    refine lv_icmp_ge (tgt := 16) hx hb d_mo_isRow_9 (by decide) (fun c_2 => ?_) (fun c_2 => ?_)
    · refine lv_iconst (v := 0) hx hb d_mo_isRow_16 (by decide) ?_
      exact W.zret (v := 0) hx hb hr rfl (fun t ht hW => ⟨_, rfl, by unfold f_mo_isRow; rw [if_neg c_1, if_pos c_2], ht⟩) t_nil d_mo_isRow_17
    · refine lv_iconst (v := 1) hx hb d_mo_isRow_12 (by decide) ?_
      refine lv_goto (tgt := 17) hx hb d_mo_isRow_13 (by decide) ?_
      exact W.zret (v := 1) hx hb hr rfl (fun t ht hW => ⟨_, rfl, by unfold f_mo_isRow; rw [if_neg c_1, if_neg c_2], ht⟩) t_nil d_mo_isRow_17
def f_mo_isKind (mk : Int32) (kind : Int32) : Int32 :=
  if kind < 0 then 0 else if mk ≤ kind then 0 else 1
set_option maxHeartbeats 4000000 in
set_option maxRecDepth 100000 in
theorem c_mo_isKind (l : Launch) (dC : Nat → ClassId) (dI : Nat → Nat → Nat) (m0 : Nat) (th : Int32) (mk : Int32) (mv : Int32) (mu : Nat) (md : Nat) (up : Int64) (dn : Int64) (mr : Int32) (mc : Nat) (me : Nat) (so : Int32) (mau : Nat) (mad : Nat) (mw : Int32) (mwg : Nat) (mgv : Nat) (msq : Nat) (kind : Int32) : Met l y_mo_isKind w_mo_isKind ({ frames := 0, cells := 0, slots := 0, locals := 0 }) (va_Pc [.ref m0, .int kind] (fun U => va_P (dC, dI) classes [(m0, .inr (4, [.int th, .int mk, .int mv, .ref mu, .ref md, .long up, .long dn, .int mr, .ref mc, .ref me, .int so, .ref mau, .ref mad, .int mw, .ref mwg, .ref mgv, .ref msq]))] U.heap ∧ va_K (dC, dI) classes [] U)) (vp_Si (fun z9 => z9 = f_mo_isKind mk kind)) 0 0 (fun _ => False) := by
  refine Met.ofW (cc := b_mo_isKind) (maxL := 2) (ret := (some .boolean)) (by decide +kernel) rfl ?_
  intro p e s m args below meth c s₁ B hml hv
  obtain ⟨rfl, hP, hK⟩ := hv
  have hx := B.exec
  have hb := B.bytes
  have hr := B.returns
  have hts := atoms_spec (ws := w_mo_isKind) B.pre
  have hT := fun (w : Cond) (h : w ∈ kt_T) => hts w (List.mem_cons_of_mem _ h)
  have hown : s.vm.findClass R_mo = some m.cls := findClass_of_methodNamed B.named
  have hlocks := B.notSynchronized
  have hl := lv_entry ([.ref m0, .int kind]) (n := 2) (Nat.le_of_ble_eq_true rfl)
  rw [lg_entry_eq]
  generalize (lg_sl ([.ref m0, .int kind]) ++ List.replicate (2 - (lg_sl ([.ref m0, .int kind])).length) Slot.unset).toArray = ls at hl ⊢
  have hl : lv_has ls 2 [(0, .ref m0), (1, .int kind)] := hl
  refine lv_iload_n hx hb d_mo_isKind_0 rfl (lv_at hl 1 rfl) ?_
  refine lv_if_lt (tgt := 16) hx hb d_mo_isKind_1 (by decide) (fun c_1 => ?_) (fun c_1 => ?_)
  · refine lv_iconst (v := 0) hx hb d_mo_isKind_16 (by decide) ?_
    exact W.zret (v := 0) hx hb hr rfl (fun t ht hW => ⟨_, rfl, by unfold f_mo_isKind; rw [if_pos c_1], ht⟩) t_nil d_mo_isKind_17
  · refine lv_iload_n hx hb d_mo_isKind_4 rfl (lv_at hl 1 rfl) ?_
    refine lv_aload_n hx hb d_mo_isKind_5 rfl (lv_at hl 0 rfl) ?_
    refine va_get (D := (dC, dI)) (ci := 4) (v := .int mk) (C := R_mo) (T := F_mo) (N := 17) hx hb hT i_mo hown hK hP 0 rfl rfl 1 (by decide) (hT _ k_130) (fun _ h9 => h9) rfl d_mo_isKind_6 ?_
    refine lv_icmp_ge (tgt := 16) hx hb d_mo_isKind_9 (by decide) (fun c_2 => ?_) (fun c_2 => ?_)
    · refine lv_iconst (v := 0) hx hb d_mo_isKind_16 (by decide) ?_
      exact W.zret (v := 0) hx hb hr rfl (fun t ht hW => ⟨_, rfl, by unfold f_mo_isKind; rw [if_neg c_1, if_pos c_2], ht⟩) t_nil d_mo_isKind_17
    · refine lv_iconst (v := 1) hx hb d_mo_isKind_12 (by decide) ?_
      refine lv_goto (tgt := 17) hx hb d_mo_isKind_13 (by decide) ?_
      exact W.zret (v := 1) hx hb hr rfl (fun t ht hW => ⟨_, rfl, by unfold f_mo_isKind; rw [if_neg c_1, if_neg c_2], ht⟩) t_nil d_mo_isKind_17
def f_mo_isIn (v : Int64) : Int32 :=
  if v < (-1000000000) then 0 else if 1000000000 < v then 0 else 1
set_option maxHeartbeats 4000000 in
set_option maxRecDepth 100000 in
theorem c_mo_isIn (l : Launch) (v : Int64) : Met l y_mo_isIn w_mo_isIn ({ frames := 0, cells := 0, slots := 0, locals := 0 }) (va_Pc [.long v] (fun _ => True)) (vp_Si (fun z9 => z9 = f_mo_isIn v)) 0 0 (fun _ => False) := by
  refine Met.ofW (cc := b_mo_isIn) (maxL := 2) (ret := (some .boolean)) (by decide +kernel) rfl ?_
  intro p e s m args below meth c s₁ B hml hv
  obtain ⟨rfl, -⟩ := hv
  have hx := B.exec
  have hb := B.bytes
  have hr := B.returns
  have hts := atoms_spec (ws := w_mo_isIn) B.pre
  have hT := fun (w : Cond) (h : w ∈ kt_T) => hts w (List.mem_cons_of_mem _ h)
  have hown : s.vm.findClass R_mo = some m.cls := findClass_of_methodNamed B.named
  have hlocks := B.notSynchronized
  have hl := lv_entry ([.long v]) (n := 2) (Nat.le_of_ble_eq_true rfl)
  rw [lg_entry_eq]
  generalize (lg_sl ([.long v]) ++ List.replicate (2 - (lg_sl ([.long v])).length) Slot.unset).toArray = ls at hl ⊢
  have hl : lv_has ls 2 [(0, .long v)] := hl
  refine lv_lload_n hx hb d_mo_isIn_0 rfl (lv_at hl 0 rfl) ?_
  refine lv_ldc2 (v := (-1000000000)) hx hb hown (hT _ k_131) d_mo_isIn_1 ?_
  refine lx_iflt (tgt := 20) hx hb d_mo_isIn_4 d_mo_isIn_5 (by decide) (fun c_1 => ?_) (fun c_1 => ?_)
  · refine lv_iconst (v := 0) hx hb d_mo_isIn_20 (by decide) ?_
    exact W.zret (v := 0) hx hb hr rfl (fun t ht hW => ⟨_, rfl, by unfold f_mo_isIn; rw [if_pos c_1], ht⟩) t_nil d_mo_isIn_21
  · refine lv_lload_n hx hb d_mo_isIn_8 rfl (lv_at hl 0 rfl) ?_
    refine lv_ldc2 (v := 1000000000) hx hb hown (hT _ k_132) d_mo_isIn_9 ?_
    refine lx_ifgt (tgt := 20) hx hb d_mo_isIn_12 d_mo_isIn_13 (by decide) (fun c_2 => ?_) (fun c_2 => ?_)
    · refine lv_iconst (v := 0) hx hb d_mo_isIn_20 (by decide) ?_
      exact W.zret (v := 0) hx hb hr rfl (fun t ht hW => ⟨_, rfl, by unfold f_mo_isIn; rw [if_neg c_1, if_pos c_2], ht⟩) t_nil d_mo_isIn_21
    · refine lv_iconst (v := 1) hx hb d_mo_isIn_16 (by decide) ?_
      refine lv_goto (tgt := 21) hx hb d_mo_isIn_17 (by decide) ?_
      exact W.zret (v := 1) hx hb hr rfl (fun t ht hW => ⟨_, rfl, by unfold f_mo_isIn; rw [if_neg c_1, if_neg c_2], ht⟩) t_nil d_mo_isIn_21
/-- Euclid's steps end: k of them are enough -/
def euc : Nat → Int64 → Int64 → Prop
  | 0, _, y => y = 0
  | k + 1, x, y => y = 0 ∨ euc k y (x - x / y * y)
theorem gcdL_x {k : Nat} : ∀ {x y : Int64}, ¬ x = 0 → ¬ gcdL k x y = 0 := by
  induction k with
  | zero => intro x y h; exact h
  | succ k ih =>
    intro x y h
    rw [gcdL]
    split
    · exact h
    · rename_i h2
      exact ih h2
theorem gcdL_y {k : Nat} {x y : Int64} (h : ¬ y = 0) : ¬ gcdL (k + 1) x y = 0 := by
  rw [gcdL, if_neg h]
  exact gcdL_x h
theorem in_mv {mv : Int32} (hv : vp_in mv 301) (h : ¬ mv = 300) : vp_in mv 300 := by
  rw [vp_in_iff] at hv ⊢
  have h2 : mv.toInt ≠ 300 := fun q => h (Int32.toInt_inj.mp (q.trans (by decide : (300 : Int) = (300 : Int32).toInt)))
  omega
set_option maxHeartbeats 4000000 in
theorem lp_mo_low {p : Program} {l : Launch} {e : Env} {R : Room} {s : State} {m : MethodId} {args : Array Value} {below : List Frame} {meth : Method} {c : Code} {Q : State → Prop} {m0 : Nat} {a b : Int64} (hx : p.tables.exec = Jvm.exec) (hb : c.code = b_mo_lowest) :
    ∀ (k : Nat) (x y : Int64), euc k x y → (∀ (ls : Array Slot), lv_has ls 11 [(0, .ref m0), (1, .long a), (3, .long b), (5, .long (gcdL k x y))] → W p l e R s m args below meth c s.heap [] 0 0 Q (F0 m 31 ls [])) → ∀ (ls : Array Slot), lv_has ls 11 [(0, .ref m0), (1, .long a), (3, .long b), (5, .long x), (7, .long y)] → W p l e R s m args below meth c s.heap [] 0 0 Q (F0 m 6 ls []) := by
  intro k
  induction k with
  | zero =>
    intro x y he hk ls hl
    refine lv_lload hx hb d_mo_lowest_6 (lv_at hl 4 rfl) ?_
    refine lv_lconst (v := 0) hx hb d_mo_lowest_8 (by decide) ?_
    refine lx_ifeq (tgt := 31) hx hb d_mo_lowest_9 d_mo_lowest_10 (by decide) (fun c_1 => ?_) (fun c_1 => ?_)
    · exact hk ls (lv_sub hl [0, 1, 2, 3] rfl)
    · exact absurd he c_1
  | succ k ih =>
    intro x y he hk ls hl
    refine lv_lload hx hb d_mo_lowest_6 (lv_at hl 4 rfl) ?_
    refine lv_lconst (v := 0) hx hb d_mo_lowest_8 (by decide) ?_
    refine lx_ifeq (tgt := 31) hx hb d_mo_lowest_9 d_mo_lowest_10 (by decide) (fun c_2 => ?_) (fun c_2 => ?_)
    · exact hk ls (by rw [gcdL, if_pos c_2]; exact lv_sub hl [0, 1, 2, 3] rfl)
    · refine lv_lload hx hb d_mo_lowest_13 (lv_at hl 3 rfl) ?_
      refine lv_lload hx hb d_mo_lowest_15 (lv_at hl 4 rfl) ?_
      refine lv_lrem hx hb d_mo_lowest_17 c_2 ?_
      refine lv_lstore (lv' := [(9, .long (x - x / y * y)), (0, .ref m0), (1, .long a), (3, .long b), (5, .long x), (7, .long y)]) hx hb d_mo_lowest_18 hl (by decide) rfl (fun ls hl => ?_)
      refine lv_lload hx hb d_mo_lowest_20 (lv_at hl 5 rfl) ?_
      refine lv_lstore (lv' := [(5, .long y), (9, .long (x - x / y * y)), (0, .ref m0), (1, .long a), (3, .long b), (7, .long y)]) hx hb d_mo_lowest_22 hl (by decide) rfl (fun ls hl => ?_)
      refine lv_lload hx hb d_mo_lowest_24 (lv_at hl 1 rfl) ?_
      refine lv_lstore (lv' := [(7, .long (x - x / y * y)), (5, .long y), (9, .long (x - x / y * y)), (0, .ref m0), (1, .long a), (3, .long b)]) hx hb d_mo_lowest_26 hl (by decide) rfl (fun ls hl => ?_)
      refine lv_goto (tgt := 6) hx hb d_mo_lowest_28 (by decide) ?_
      exact ih _ _ (he.resolve_left c_2) (by rw [gcdL, if_neg c_2] at hk; exact hk) ls (lv_sub hl [3, 4, 5, 1, 0] rfl)
def f_mo_lowest (a : Int64) (b : Int64) : Int32 × Int64 × Int64 :=
  if (f_mo_isIn (a / (gcdL 200 a b))) = 0 then (0, a / (gcdL 200 a b), b / (gcdL 200 a b)) else if (f_mo_isIn (b / (gcdL 200 a b))) = 0 then (0, a / (gcdL 200 a b), b / (gcdL 200 a b)) else if 0 ≤ (b / (gcdL 200 a b)) then if 0 ≤ (b / (gcdL 200 a b)) then (1, a / (gcdL 200 a b), b / (gcdL 200 a b)) else (1, a / (gcdL 200 a b), -(b / (gcdL 200 a b))) else if 0 ≤ (b / (gcdL 200 a b)) then (1, -(a / (gcdL 200 a b)), b / (gcdL 200 a b)) else (1, -(a / (gcdL 200 a b)), -(b / (gcdL 200 a b)))
set_option maxHeartbeats 4000000 in
set_option maxRecDepth 100000 in
theorem c_mo_lowest (l : Launch) (dC : Nat → ClassId) (dI : Nat → Nat → Nat) (sz : Nat) (m0 : Nat) (th : Int32) (mk : Int32) (mv : Int32) (mu : Nat) (md : Nat) (up : Int64) (dn : Int64) (mr : Int32) (mc : Nat) (me : Nat) (so : Int32) (mau : Nat) (mad : Nat) (mw : Int32) (mwg : Nat) (mgv : Nat) (msq : Nat) (a : Int64) (b : Int64) (he : euc 200 a b) (hb0 : ¬ b = 0) : Met l y_mo_lowest w_mo_lowest ({ frames := 1, cells := 0, slots := 0, locals := 21 }) (va_Pc [.ref m0, .long a, .long b] (fun U => U.heap.size = sz ∧ va_P (dC, dI) classes [(m0, .inr (4, [.int th, .int mk, .int mv, .ref mu, .ref md, .long up, .long dn, .int mr, .ref mc, .ref me, .int so, .ref mau, .ref mad, .int mw, .ref mwg, .ref mgv, .ref msq]))] U.heap ∧ va_K (dC, dI) classes [] U ∧ va_D (fun _ => True) [(m0, .inr (4, [.int th, .int mk, .int mv, .ref mu, .ref md, .long up, .long dn, .int mr, .ref mc, .ref me, .int so, .ref mau, .ref mad, .int mw, .ref mwg, .ref mgv, .ref msq]))])) (va_Qi (fun z9 u9 => (z9, u9) = f_mo_lowest a b) (fun (u : Int64 × Int64) t => match u with | (up', dn') => va_P (dC, dI) classes [(m0, .inr (4, [.int th, .int mk, .int mv, .ref mu, .ref md, .long up', .long dn', .int mr, .ref mc, .ref me, .int so, .ref mau, .ref mad, .int mw, .ref mwg, .ref mgv, .ref msq]))] t.heap ∧ va_K (dC, dI) classes [] t ∧ va_D (va_A [(m0, .inr (4, [.int th, .int mk, .int mv, .ref mu, .ref md, .long up, .long dn, .int mr, .ref mc, .ref me, .int so, .ref mau, .ref mad, .int mw, .ref mwg, .ref mgv, .ref msq]))] sz) [(m0, .inr (4, [.int th, .int mk, .int mv, .ref mu, .ref md, .long up', .long dn', .int mr, .ref mc, .ref me, .int so, .ref mau, .ref mad, .int mw, .ref mwg, .ref mgv, .ref msq]))]) (va_A [(m0, .inr (4, [.int th, .int mk, .int mv, .ref mu, .ref md, .long up, .long dn, .int mr, .ref mc, .ref me, .int so, .ref mau, .ref mad, .int mw, .ref mwg, .ref mgv, .ref msq]))] sz)) 0 0 (va_A [(m0, .inr (4, [.int th, .int mk, .int mv, .ref mu, .ref md, .long up, .long dn, .int mr, .ref mc, .ref me, .int so, .ref mau, .ref mad, .int mw, .ref mwg, .ref mgv, .ref msq]))] sz) := by
  refine Met.ofW (cc := b_mo_lowest) (maxL := 11) (ret := (some .boolean)) (by decide +kernel) rfl ?_
  intro p e s m args below meth c s₁ B hml hv
  obtain ⟨rfl, hsz, hP, hK, hD0⟩ := hv
  have hx := B.exec
  have hb := B.bytes
  have hr := B.returns
  have hts := atoms_spec (ws := w_mo_lowest) B.pre
  have hT := fun (w : Cond) (h : w ∈ kt_T) => hts w (List.mem_cons_of_mem _ h)
  have hown : s.vm.findClass R_mo = some m.cls := findClass_of_methodNamed B.named
  have hlocks := B.notSynchronized
  subst hsz
  have hD := hD0.self (sz := s.heap.size)
  generalize hAe : va_A [(m0, .inr (4, [.int th, .int mk, .int mv, .ref mu, .ref md, .long up, .long dn, .int mr, .ref mc, .ref me, .int so, .ref mau, .ref mad, .int mw, .ref mwg, .ref mgv, .ref msq]))] s.heap.size = A at hD ⊢
  have hA : ∀ q : Nat, s.heap.size ≤ q → A q := fun q h => by rw [← hAe]; exact Or.inr h
  have hS : va_S A s.heap s.heap [] := va_S.rf
  have hl := lv_entry ([.ref m0, .long a, .long b]) (n := 11) (Nat.le_of_ble_eq_true rfl)
  rw [lg_entry_eq]
  generalize (lg_sl ([.ref m0, .long a, .long b]) ++ List.replicate (11 - (lg_sl ([.ref m0, .long a, .long b])).length) Slot.unset).toArray = ls at hl ⊢
  have hl : lv_has ls 11 [(0, .ref m0), (1, .long a), (3, .long b)] := hl
  refine lv_lload_n hx hb d_mo_lowest_0 rfl (lv_at hl 1 rfl) ?_
  refine lv_lstore (lv' := [(5, .long a), (0, .ref m0), (1, .long a), (3, .long b)]) hx hb d_mo_lowest_1 hl (by decide) rfl (fun ls hl => ?_)
  refine lv_lload_n hx hb d_mo_lowest_3 rfl (lv_at hl 3 rfl) ?_
  refine lv_lstore (lv' := [(7, .long b), (5, .long a), (0, .ref m0), (1, .long a), (3, .long b)]) hx hb d_mo_lowest_4 hl (by decide) rfl (fun ls hl => ?_)
  refine lp_mo_low hx hb 200 a b he (fun ls hl => ?_) ls (lv_sub hl [2, 3, 4, 1, 0] rfl)
  refine lv_aload_n hx hb d_mo_lowest_31 rfl (lv_at hl 0 rfl) ?_
  refine lv_lload_n hx hb d_mo_lowest_32 rfl (lv_at hl 1 rfl) ?_
  refine lv_lload hx hb d_mo_lowest_33 (lv_at hl 3 rfl) ?_
  refine lv_ldiv hx hb d_mo_lowest_35 (gcdL_y hb0) ?_
  refine va_put (D := (dC, dI)) (ci := 4) (v := .long (a / (gcdL 200 a b))) (ty := .long) (C := R_mo) (T := F_mo) (N := 17) hx hb hT i_mo t_mo t_mo_ok n_mo hown hK hP hD hS 0 rfl rfl 5 (by decide) (hT _ k_133) (fun _ h9 => h9) rfl (by decide +kernel) rfl rfl (Nat.le_of_ble_eq_true rfl) d_mo_lowest_36 (fun H locs hP hD hS => ?_)
  have hP : va_P (dC, dI) classes [(m0, .inr (4, [.int th, .int mk, .int mv, .ref mu, .ref md, .long (a / (gcdL 200 a b)), .long dn, .int mr, .ref mc, .ref me, .int so, .ref mau, .ref mad, .int mw, .ref mwg, .ref mgv, .ref msq]))] H := hP
  have hD : va_D A [(m0, .inr (4, [.int th, .int mk, .int mv, .ref mu, .ref md, .long (a / (gcdL 200 a b)), .long dn, .int mr, .ref mc, .ref me, .int so, .ref mau, .ref mad, .int mw, .ref mwg, .ref mgv, .ref msq]))] := hD
  refine lv_aload_n hx hb d_mo_lowest_39 rfl (lv_at hl 0 rfl) ?_
  refine lv_lload_n hx hb d_mo_lowest_40 rfl (lv_at hl 2 rfl) ?_
  refine lv_lload hx hb d_mo_lowest_41 (lv_at hl 3 rfl) ?_
  refine lv_ldiv hx hb d_mo_lowest_43 (gcdL_y hb0) ?_
  refine va_put (D := (dC, dI)) (ci := 4) (v := .long (b / (gcdL 200 a b))) (ty := .long) (C := R_mo) (T := F_mo) (N := 17) hx hb hT i_mo t_mo t_mo_ok n_mo hown hK hP hD hS 0 rfl rfl 6 (by decide) (hT _ k_134) (fun _ h9 => h9) rfl (by decide +kernel) rfl rfl (Nat.le_of_ble_eq_true rfl) d_mo_lowest_44 (fun H locs hP hD hS => ?_)
  have hP : va_P (dC, dI) classes [(m0, .inr (4, [.int th, .int mk, .int mv, .ref mu, .ref md, .long (a / (gcdL 200 a b)), .long (b / (gcdL 200 a b)), .int mr, .ref mc, .ref me, .int so, .ref mau, .ref mad, .int mw, .ref mwg, .ref mgv, .ref msq]))] H := hP
  have hD : va_D A [(m0, .inr (4, [.int th, .int mk, .int mv, .ref mu, .ref md, .long (a / (gcdL 200 a b)), .long (b / (gcdL 200 a b)), .int mr, .ref mc, .ref me, .int so, .ref mau, .ref mad, .int mw, .ref mwg, .ref mgv, .ref msq]))] := hD
  refine lv_aload_n hx hb d_mo_lowest_47 rfl (lv_at hl 0 rfl) ?_
  refine va_get (D := (dC, dI)) (ci := 4) (v := .long (a / (gcdL 200 a b))) (C := R_mo) (T := F_mo) (N := 17) hx hb hT i_mo hown hK hP 0 rfl rfl 5 (by decide) (hT _ k_133) (fun _ h9 => h9) rfl d_mo_lowest_48 ?_
  refine vp_callSi (W.runS (As := [.long (a / (gcdL 200 a b))]) (rest := []) ⟨hx, hb, hml, hown, hT⟩ (c_mo_isIn l (a / (gcdL 200 a b))) (va_cwS 1 hT (kt_S k_138 k_137 k_136 k_135) rfl rfl rfl (by decide +kernel) ⟨Nat.le_of_ble_eq_true rfl, Nat.le_of_ble_eq_true rfl⟩) ⟨bl_S, fun U hU hW => ⟨rfl, trivial⟩⟩ rfl rfl hl.1 rfl (lv_room (Nat.le_of_ble_eq_true rfl)) d_mo_lowest_51 ⟨Nat.zero_le _, Nat.zero_le _⟩) (fun r_1 e_r_1 => ?_)
  subst e_r_1
  refine lv_if_eq (tgt := 67) hx hb d_mo_lowest_54 (by decide) (fun c_2 => ?_) (fun c_2 => ?_)
  · refine lv_iconst (v := 0) hx hb d_mo_lowest_67 (by decide) ?_
    exact W.zret (v := 0) hx hb hr rfl (fun t ht hW => ⟨⟨0, (a / (gcdL 200 a b), b / (gcdL 200 a b)), rfl, by unfold f_mo_lowest; rw [if_pos c_2], by rw [ht]; exact hP, va_K.moved hW.alike hK, hD⟩, hS.F ht⟩) hS.2.2 d_mo_lowest_68
  · refine lv_aload_n hx hb d_mo_lowest_57 rfl (lv_at hl 0 rfl) ?_
    refine va_get (D := (dC, dI)) (ci := 4) (v := .long (b / (gcdL 200 a b))) (C := R_mo) (T := F_mo) (N := 17) hx hb hT i_mo hown hK hP 0 rfl rfl 6 (by decide) (hT _ k_134) (fun _ h9 => h9) rfl d_mo_lowest_58 ?_
    refine vp_callSi (W.runS (As := [.long (b / (gcdL 200 a b))]) (rest := []) ⟨hx, hb, hml, hown, hT⟩ (c_mo_isIn l (b / (gcdL 200 a b))) (va_cwS 1 hT (kt_S k_138 k_137 k_136 k_135) rfl rfl rfl (by decide +kernel) ⟨Nat.le_of_ble_eq_true rfl, Nat.le_of_ble_eq_true rfl⟩) ⟨bl_S, fun U hU hW => ⟨rfl, trivial⟩⟩ rfl rfl hl.1 rfl (lv_room (Nat.le_of_ble_eq_true rfl)) d_mo_lowest_61 ⟨Nat.zero_le _, Nat.zero_le _⟩) (fun r_3 e_r_3 => ?_)
    subst e_r_3
    refine lv_if_ne (tgt := 69) hx hb d_mo_lowest_64 (by decide) (fun c_4 => ?_) (fun c_4 => ?_)
    · refine lv_aload_n hx hb d_mo_lowest_69 rfl (lv_at hl 0 rfl) ?_
      refine lv_aload_n hx hb d_mo_lowest_70 rfl (lv_at hl 0 rfl) ?_
      refine va_get (D := (dC, dI)) (ci := 4) (v := .long (b / (gcdL 200 a b))) (C := R_mo) (T := F_mo) (N := 17) hx hb hT i_mo hown hK hP 0 rfl rfl 6 (by decide) (hT _ k_134) (fun _ h9 => h9) rfl d_mo_lowest_71 ?_
      refine lv_lconst (v := 0) hx hb d_mo_lowest_74 (by decide) ?_
      refine lx_ifge (tgt := 87) hx hb d_mo_lowest_75 d_mo_lowest_76 (by decide) (fun c_5 => ?_) (fun c_5 => ?_)
      · refine lv_aload_n hx hb d_mo_lowest_87 rfl (lv_at hl 0 rfl) ?_
        refine va_get (D := (dC, dI)) (ci := 4) (v := .long (a / (gcdL 200 a b))) (C := R_mo) (T := F_mo) (N := 17) hx hb hT i_mo hown hK hP 0 rfl rfl 5 (by decide) (hT _ k_133) (fun _ h9 => h9) rfl d_mo_lowest_88 ?_
        refine va_put (D := (dC, dI)) (ci := 4) (v := .long (a / (gcdL 200 a b))) (ty := .long) (C := R_mo) (T := F_mo) (N := 17) hx hb hT i_mo t_mo t_mo_ok n_mo hown hK hP hD hS 0 rfl rfl 5 (by decide) (hT _ k_133) (fun _ h9 => h9) rfl (by decide +kernel) rfl rfl (Nat.le_of_ble_eq_true rfl) d_mo_lowest_91 (fun H locs hP hD hS => ?_)
        have hP : va_P (dC, dI) classes [(m0, .inr (4, [.int th, .int mk, .int mv, .ref mu, .ref md, .long (a / (gcdL 200 a b)), .long (b / (gcdL 200 a b)), .int mr, .ref mc, .ref me, .int so, .ref mau, .ref mad, .int mw, .ref mwg, .ref mgv, .ref msq]))] H := hP
        have hD : va_D A [(m0, .inr (4, [.int th, .int mk, .int mv, .ref mu, .ref md, .long (a / (gcdL 200 a b)), .long (b / (gcdL 200 a b)), .int mr, .ref mc, .ref me, .int so, .ref mau, .ref mad, .int mw, .ref mwg, .ref mgv, .ref msq]))] := hD
        refine lv_aload_n hx hb d_mo_lowest_94 rfl (lv_at hl 0 rfl) ?_
        refine lv_aload_n hx hb d_mo_lowest_95 rfl (lv_at hl 0 rfl) ?_
        refine va_get (D := (dC, dI)) (ci := 4) (v := .long (b / (gcdL 200 a b))) (C := R_mo) (T := F_mo) (N := 17) hx hb hT i_mo hown hK hP 0 rfl rfl 6 (by decide) (hT _ k_134) (fun _ h9 => h9) rfl d_mo_lowest_96 ?_
        refine lv_lconst (v := 0) hx hb d_mo_lowest_99 (by decide) ?_
        refine lx_ifge (tgt := 112) hx hb d_mo_lowest_100 d_mo_lowest_101 (by decide) (fun c_6 => ?_) (fun c_6 => ?_)
        · refine lv_aload_n hx hb d_mo_lowest_112 rfl (lv_at hl 0 rfl) ?_
          refine va_get (D := (dC, dI)) (ci := 4) (v := .long (b / (gcdL 200 a b))) (C := R_mo) (T := F_mo) (N := 17) hx hb hT i_mo hown hK hP 0 rfl rfl 6 (by decide) (hT _ k_134) (fun _ h9 => h9) rfl d_mo_lowest_113 ?_
          refine va_put (D := (dC, dI)) (ci := 4) (v := .long (b / (gcdL 200 a b))) (ty := .long) (C := R_mo) (T := F_mo) (N := 17) hx hb hT i_mo t_mo t_mo_ok n_mo hown hK hP hD hS 0 rfl rfl 6 (by decide) (hT _ k_134) (fun _ h9 => h9) rfl (by decide +kernel) rfl rfl (Nat.le_of_ble_eq_true rfl) d_mo_lowest_116 (fun H locs hP hD hS => ?_)
          have hP : va_P (dC, dI) classes [(m0, .inr (4, [.int th, .int mk, .int mv, .ref mu, .ref md, .long (a / (gcdL 200 a b)), .long (b / (gcdL 200 a b)), .int mr, .ref mc, .ref me, .int so, .ref mau, .ref mad, .int mw, .ref mwg, .ref mgv, .ref msq]))] H := hP
          have hD : va_D A [(m0, .inr (4, [.int th, .int mk, .int mv, .ref mu, .ref md, .long (a / (gcdL 200 a b)), .long (b / (gcdL 200 a b)), .int mr, .ref mc, .ref me, .int so, .ref mau, .ref mad, .int mw, .ref mwg, .ref mgv, .ref msq]))] := hD
          refine lv_iconst (v := 1) hx hb d_mo_lowest_119 (by decide) ?_
          exact W.zret (v := 1) hx hb hr rfl (fun t ht hW => ⟨⟨1, (a / (gcdL 200 a b), b / (gcdL 200 a b)), rfl, by unfold f_mo_lowest; rw [if_neg c_2, if_neg c_4, if_pos c_5, if_pos c_6], by rw [ht]; exact hP, va_K.moved hW.alike hK, hD⟩, hS.F ht⟩) hS.2.2 d_mo_lowest_120
        · refine lv_aload_n hx hb d_mo_lowest_104 rfl (lv_at hl 0 rfl) ?_
          refine va_get (D := (dC, dI)) (ci := 4) (v := .long (b / (gcdL 200 a b))) (C := R_mo) (T := F_mo) (N := 17) hx hb hT i_mo hown hK hP 0 rfl rfl 6 (by decide) (hT _ k_134) (fun _ h9 => h9) rfl d_mo_lowest_105 ?_
          refine lv_lneg hx hb d_mo_lowest_108 ?_
          refine lv_goto (tgt := 116) hx hb d_mo_lowest_109 (by decide) ?_
          refine va_put (D := (dC, dI)) (ci := 4) (v := .long (-(b / (gcdL 200 a b)))) (ty := .long) (C := R_mo) (T := F_mo) (N := 17) hx hb hT i_mo t_mo t_mo_ok n_mo hown hK hP hD hS 0 rfl rfl 6 (by decide) (hT _ k_134) (fun _ h9 => h9) rfl (by decide +kernel) rfl rfl (Nat.le_of_ble_eq_true rfl) d_mo_lowest_116 (fun H locs hP hD hS => ?_)
          have hP : va_P (dC, dI) classes [(m0, .inr (4, [.int th, .int mk, .int mv, .ref mu, .ref md, .long (a / (gcdL 200 a b)), .long (-(b / (gcdL 200 a b))), .int mr, .ref mc, .ref me, .int so, .ref mau, .ref mad, .int mw, .ref mwg, .ref mgv, .ref msq]))] H := hP
          have hD : va_D A [(m0, .inr (4, [.int th, .int mk, .int mv, .ref mu, .ref md, .long (a / (gcdL 200 a b)), .long (-(b / (gcdL 200 a b))), .int mr, .ref mc, .ref me, .int so, .ref mau, .ref mad, .int mw, .ref mwg, .ref mgv, .ref msq]))] := hD
          refine lv_iconst (v := 1) hx hb d_mo_lowest_119 (by decide) ?_
          exact W.zret (v := 1) hx hb hr rfl (fun t ht hW => ⟨⟨1, (a / (gcdL 200 a b), -(b / (gcdL 200 a b))), rfl, by unfold f_mo_lowest; rw [if_neg c_2, if_neg c_4, if_pos c_5, if_neg c_6], by rw [ht]; exact hP, va_K.moved hW.alike hK, hD⟩, hS.F ht⟩) hS.2.2 d_mo_lowest_120
      · refine lv_aload_n hx hb d_mo_lowest_79 rfl (lv_at hl 0 rfl) ?_
        refine va_get (D := (dC, dI)) (ci := 4) (v := .long (a / (gcdL 200 a b))) (C := R_mo) (T := F_mo) (N := 17) hx hb hT i_mo hown hK hP 0 rfl rfl 5 (by decide) (hT _ k_133) (fun _ h9 => h9) rfl d_mo_lowest_80 ?_
        refine lv_lneg hx hb d_mo_lowest_83 ?_
        refine lv_goto (tgt := 91) hx hb d_mo_lowest_84 (by decide) ?_
        refine va_put (D := (dC, dI)) (ci := 4) (v := .long (-(a / (gcdL 200 a b)))) (ty := .long) (C := R_mo) (T := F_mo) (N := 17) hx hb hT i_mo t_mo t_mo_ok n_mo hown hK hP hD hS 0 rfl rfl 5 (by decide) (hT _ k_133) (fun _ h9 => h9) rfl (by decide +kernel) rfl rfl (Nat.le_of_ble_eq_true rfl) d_mo_lowest_91 (fun H locs hP hD hS => ?_)
        have hP : va_P (dC, dI) classes [(m0, .inr (4, [.int th, .int mk, .int mv, .ref mu, .ref md, .long (-(a / (gcdL 200 a b))), .long (b / (gcdL 200 a b)), .int mr, .ref mc, .ref me, .int so, .ref mau, .ref mad, .int mw, .ref mwg, .ref mgv, .ref msq]))] H := hP
        have hD : va_D A [(m0, .inr (4, [.int th, .int mk, .int mv, .ref mu, .ref md, .long (-(a / (gcdL 200 a b))), .long (b / (gcdL 200 a b)), .int mr, .ref mc, .ref me, .int so, .ref mau, .ref mad, .int mw, .ref mwg, .ref mgv, .ref msq]))] := hD
        refine lv_aload_n hx hb d_mo_lowest_94 rfl (lv_at hl 0 rfl) ?_
        refine lv_aload_n hx hb d_mo_lowest_95 rfl (lv_at hl 0 rfl) ?_
        refine va_get (D := (dC, dI)) (ci := 4) (v := .long (b / (gcdL 200 a b))) (C := R_mo) (T := F_mo) (N := 17) hx hb hT i_mo hown hK hP 0 rfl rfl 6 (by decide) (hT _ k_134) (fun _ h9 => h9) rfl d_mo_lowest_96 ?_
        refine lv_lconst (v := 0) hx hb d_mo_lowest_99 (by decide) ?_
        refine lx_ifge (tgt := 112) hx hb d_mo_lowest_100 d_mo_lowest_101 (by decide) (fun c_7 => ?_) (fun c_7 => ?_)
        · refine lv_aload_n hx hb d_mo_lowest_112 rfl (lv_at hl 0 rfl) ?_
          refine va_get (D := (dC, dI)) (ci := 4) (v := .long (b / (gcdL 200 a b))) (C := R_mo) (T := F_mo) (N := 17) hx hb hT i_mo hown hK hP 0 rfl rfl 6 (by decide) (hT _ k_134) (fun _ h9 => h9) rfl d_mo_lowest_113 ?_
          refine va_put (D := (dC, dI)) (ci := 4) (v := .long (b / (gcdL 200 a b))) (ty := .long) (C := R_mo) (T := F_mo) (N := 17) hx hb hT i_mo t_mo t_mo_ok n_mo hown hK hP hD hS 0 rfl rfl 6 (by decide) (hT _ k_134) (fun _ h9 => h9) rfl (by decide +kernel) rfl rfl (Nat.le_of_ble_eq_true rfl) d_mo_lowest_116 (fun H locs hP hD hS => ?_)
          have hP : va_P (dC, dI) classes [(m0, .inr (4, [.int th, .int mk, .int mv, .ref mu, .ref md, .long (-(a / (gcdL 200 a b))), .long (b / (gcdL 200 a b)), .int mr, .ref mc, .ref me, .int so, .ref mau, .ref mad, .int mw, .ref mwg, .ref mgv, .ref msq]))] H := hP
          have hD : va_D A [(m0, .inr (4, [.int th, .int mk, .int mv, .ref mu, .ref md, .long (-(a / (gcdL 200 a b))), .long (b / (gcdL 200 a b)), .int mr, .ref mc, .ref me, .int so, .ref mau, .ref mad, .int mw, .ref mwg, .ref mgv, .ref msq]))] := hD
          refine lv_iconst (v := 1) hx hb d_mo_lowest_119 (by decide) ?_
          exact W.zret (v := 1) hx hb hr rfl (fun t ht hW => ⟨⟨1, (-(a / (gcdL 200 a b)), b / (gcdL 200 a b)), rfl, by unfold f_mo_lowest; rw [if_neg c_2, if_neg c_4, if_neg c_5, if_pos c_7], by rw [ht]; exact hP, va_K.moved hW.alike hK, hD⟩, hS.F ht⟩) hS.2.2 d_mo_lowest_120
        · refine lv_aload_n hx hb d_mo_lowest_104 rfl (lv_at hl 0 rfl) ?_
          refine va_get (D := (dC, dI)) (ci := 4) (v := .long (b / (gcdL 200 a b))) (C := R_mo) (T := F_mo) (N := 17) hx hb hT i_mo hown hK hP 0 rfl rfl 6 (by decide) (hT _ k_134) (fun _ h9 => h9) rfl d_mo_lowest_105 ?_
          refine lv_lneg hx hb d_mo_lowest_108 ?_
          refine lv_goto (tgt := 116) hx hb d_mo_lowest_109 (by decide) ?_
          refine va_put (D := (dC, dI)) (ci := 4) (v := .long (-(b / (gcdL 200 a b)))) (ty := .long) (C := R_mo) (T := F_mo) (N := 17) hx hb hT i_mo t_mo t_mo_ok n_mo hown hK hP hD hS 0 rfl rfl 6 (by decide) (hT _ k_134) (fun _ h9 => h9) rfl (by decide +kernel) rfl rfl (Nat.le_of_ble_eq_true rfl) d_mo_lowest_116 (fun H locs hP hD hS => ?_)
          have hP : va_P (dC, dI) classes [(m0, .inr (4, [.int th, .int mk, .int mv, .ref mu, .ref md, .long (-(a / (gcdL 200 a b))), .long (-(b / (gcdL 200 a b))), .int mr, .ref mc, .ref me, .int so, .ref mau, .ref mad, .int mw, .ref mwg, .ref mgv, .ref msq]))] H := hP
          have hD : va_D A [(m0, .inr (4, [.int th, .int mk, .int mv, .ref mu, .ref md, .long (-(a / (gcdL 200 a b))), .long (-(b / (gcdL 200 a b))), .int mr, .ref mc, .ref me, .int so, .ref mau, .ref mad, .int mw, .ref mwg, .ref mgv, .ref msq]))] := hD
          refine lv_iconst (v := 1) hx hb d_mo_lowest_119 (by decide) ?_
          exact W.zret (v := 1) hx hb hr rfl (fun t ht hW => ⟨⟨1, (-(a / (gcdL 200 a b)), -(b / (gcdL 200 a b))), rfl, by unfold f_mo_lowest; rw [if_neg c_2, if_neg c_4, if_neg c_5, if_neg c_7], by rw [ht]; exact hP, va_K.moved hW.alike hK, hD⟩, hS.F ht⟩) hS.2.2 d_mo_lowest_120
    · refine lv_iconst (v := 0) hx hb d_mo_lowest_67 (by decide) ?_
      exact W.zret (v := 0) hx hb hr rfl (fun t ht hW => ⟨⟨0, (a / (gcdL 200 a b), b / (gcdL 200 a b)), rfl, by unfold f_mo_lowest; rw [if_neg c_2, if_pos c_4], by rw [ht]; exact hP, va_K.moved hW.alike hK, hD⟩, hS.F ht⟩) hS.2.2 d_mo_lowest_68
def f_mo_keep (mv : Int32) (gu : Nat → Int64) (gd : Nat → Int64) (a : Int64) (b : Int64) : Int32 × (Nat → Int64) × (Nat → Int64) × Int32 × Int64 × Int64 :=
  if ((f_mo_lowest a b).1) = 0 then ((-1), gu, gd, mv, (f_mo_lowest a b).2.1, (f_mo_lowest a b).2.2) else if mv = 300 then ((-1), gu, gd, mv, (f_mo_lowest a b).2.1, (f_mo_lowest a b).2.2) else ((mv + 1) - 1, vp_updL gu mv.toNatClampNeg ((f_mo_lowest a b).2.1), vp_updL gd mv.toNatClampNeg ((f_mo_lowest a b).2.2), mv + 1, (f_mo_lowest a b).2.1, (f_mo_lowest a b).2.2)
set_option maxHeartbeats 4000000 in
set_option maxRecDepth 100000 in
theorem c_mo_keep (l : Launch) (dC : Nat → ClassId) (dI : Nat → Nat → Nat) (sz : Nat) (m0 : Nat) (mu : Nat) (md : Nat) (th : Int32) (mk : Int32) (mv : Int32) (up : Int64) (dn : Int64) (mr : Int32) (mc : Nat) (me : Nat) (so : Int32) (mau : Nat) (mad : Nat) (mw : Int32) (mwg : Nat) (mgv : Nat) (msq : Nat) (cmu : ClassId) (gu : Nat → Int64) (cmd : ClassId) (gd : Nat → Int64) (a : Int64) (b : Int64) (he : euc 200 a b) (hb0 : ¬ b = 0) (hv : vp_in mv 301) : Met l y_mo_keep w_mo_keep ({ frames := 2, cells := 0, slots := 0, locals := 51 }) (va_Pc [.ref m0, .long a, .long b] (fun U => U.heap.size = sz ∧ va_P (dC, dI) classes [(m0, .inr (4, [.int th, .int mk, .int mv, .ref mu, .ref md, .long up, .long dn, .int mr, .ref mc, .ref me, .int so, .ref mau, .ref mad, .int mw, .ref mwg, .ref mgv, .ref msq])), (mu, .inl (cmu, 300, .inr (.inl gu))), (md, .inl (cmd, 300, .inr (.inl gd)))] U.heap ∧ va_K (dC, dI) classes [(cmu, .long), (cmd, .long)] U ∧ va_D (fun _ => True) [(m0, .inr (4, [.int th, .int mk, .int mv, .ref mu, .ref md, .long up, .long dn, .int mr, .ref mc, .ref me, .int so, .ref mau, .ref mad, .int mw, .ref mwg, .ref mgv, .ref msq])), (mu, .inl (cmu, 300, .inr (.inl gu))), (md, .inl (cmd, 300, .inr (.inl gd)))])) (va_Qi (fun z9 u9 => (z9, u9) = f_mo_keep mv gu gd a b) (fun (u : (Nat → Int64) × (Nat → Int64) × Int32 × Int64 × Int64) t => match u with | (gu', gd', mv', up', dn') => va_P (dC, dI) classes [(m0, .inr (4, [.int th, .int mk, .int mv', .ref mu, .ref md, .long up', .long dn', .int mr, .ref mc, .ref me, .int so, .ref mau, .ref mad, .int mw, .ref mwg, .ref mgv, .ref msq])), (mu, .inl (cmu, 300, .inr (.inl gu'))), (md, .inl (cmd, 300, .inr (.inl gd')))] t.heap ∧ va_K (dC, dI) classes [(cmu, .long), (cmd, .long)] t ∧ va_D (va_A [(m0, .inr (4, [.int th, .int mk, .int mv, .ref mu, .ref md, .long up, .long dn, .int mr, .ref mc, .ref me, .int so, .ref mau, .ref mad, .int mw, .ref mwg, .ref mgv, .ref msq])), (mu, .inl (cmu, 300, .inr (.inl gu))), (md, .inl (cmd, 300, .inr (.inl gd)))] sz) [(m0, .inr (4, [.int th, .int mk, .int mv', .ref mu, .ref md, .long up', .long dn', .int mr, .ref mc, .ref me, .int so, .ref mau, .ref mad, .int mw, .ref mwg, .ref mgv, .ref msq])), (mu, .inl (cmu, 300, .inr (.inl gu'))), (md, .inl (cmd, 300, .inr (.inl gd')))]) (va_A [(m0, .inr (4, [.int th, .int mk, .int mv, .ref mu, .ref md, .long up, .long dn, .int mr, .ref mc, .ref me, .int so, .ref mau, .ref mad, .int mw, .ref mwg, .ref mgv, .ref msq])), (mu, .inl (cmu, 300, .inr (.inl gu))), (md, .inl (cmd, 300, .inr (.inl gd)))] sz)) 0 0 (va_A [(m0, .inr (4, [.int th, .int mk, .int mv, .ref mu, .ref md, .long up, .long dn, .int mr, .ref mc, .ref me, .int so, .ref mau, .ref mad, .int mw, .ref mwg, .ref mgv, .ref msq])), (mu, .inl (cmu, 300, .inr (.inl gu))), (md, .inl (cmd, 300, .inr (.inl gd)))] sz) := by
  refine Met.ofW (cc := b_mo_keep) (maxL := 5) (ret := (some .int)) (by decide +kernel) rfl ?_
  intro p e s m args below meth c s₁ B hml hv
  obtain ⟨rfl, hsz, hP, hK, hD0⟩ := hv
  have hx := B.exec
  have hb := B.bytes
  have hr := B.returns
  have hts := atoms_spec (ws := w_mo_keep) B.pre
  have hT := fun (w : Cond) (h : w ∈ kt_T) => hts w (List.mem_cons_of_mem _ h)
  have hown : s.vm.findClass R_mo = some m.cls := findClass_of_methodNamed B.named
  have hlocks := B.notSynchronized
  subst hsz
  have hD := hD0.self (sz := s.heap.size)
  generalize hAe : va_A [(m0, .inr (4, [.int th, .int mk, .int mv, .ref mu, .ref md, .long up, .long dn, .int mr, .ref mc, .ref me, .int so, .ref mau, .ref mad, .int mw, .ref mwg, .ref mgv, .ref msq])), (mu, .inl (cmu, 300, .inr (.inl gu))), (md, .inl (cmd, 300, .inr (.inl gd)))] s.heap.size = A at hD ⊢
  have hA : ∀ q : Nat, s.heap.size ≤ q → A q := fun q h => by rw [← hAe]; exact Or.inr h
  have hS : va_S A s.heap s.heap [] := va_S.rf
  have hl := lv_entry ([.ref m0, .long a, .long b]) (n := 5) (Nat.le_of_ble_eq_true rfl)
  rw [lg_entry_eq]
  generalize (lg_sl ([.ref m0, .long a, .long b]) ++ List.replicate (5 - (lg_sl ([.ref m0, .long a, .long b])).length) Slot.unset).toArray = ls at hl ⊢
  have hl : lv_has ls 5 [(0, .ref m0), (1, .long a), (3, .long b)] := hl
  refine lv_aload_n hx hb d_mo_keep_0 rfl (lv_at hl 0 rfl) ?_
  refine lv_lload_n hx hb d_mo_keep_1 rfl (lv_at hl 1 rfl) ?_
  refine lv_lload_n hx hb d_mo_keep_2 rfl (lv_at hl 2 rfl) ?_
  have hPc := hP.sub (ws' := [(m0, .inr (4, [.int th, .int mk, .int mv, .ref mu, .ref md, .long up, .long dn, .int mr, .ref mc, .ref me, .int so, .ref mau, .ref mad, .int mw, .ref mwg, .ref mgv, .ref msq]))]) [0] rfl
  have hKc := hK.sub (tys' := []) [] rfl
  have hDc := hD.sub (ws' := [(m0, .inr (4, [.int th, .int mk, .int mv, .ref mu, .ref md, .long up, .long dn, .int mr, .ref mc, .ref me, .int so, .ref mau, .ref mad, .int mw, .ref mwg, .ref mgv, .ref msq]))]) [0] (by decide) rfl
  have hFc := va_free (wc := [(m0, .inr (4, [.int th, .int mk, .int mv, .ref mu, .ref md, .long up, .long dn, .int mr, .ref mc, .ref me, .int so, .ref mau, .ref mad, .int mw, .ref mwg, .ref mgv, .ref msq]))]) hD hS hA [0] rfl
  refine va_calli (va_runV (As := [.long a, .long b]) (rest := []) ⟨hx, hb, hml, hown, hT⟩ (c_mo_lowest l dC dI s.heap.size m0 th mk mv mu md up dn mr mc me so mau mad mw mwg mgv msq a b he hb0) (cwV 2 hT (kt_V k_142 k_140 k_141 k_136 k_139) rfl rfl rfl (by decide +kernel) ⟨Nat.le_of_ble_eq_true rfl, Nat.le_of_ble_eq_true rfl⟩) ⟨bl_M, va_recv hKc hPc (ci := 4) (q0 := 0) rfl rfl, fun U hU hW => ⟨rfl, by rw [hU], by rw [hU]; exact hPc, va_K.moved hW.alike hKc, hDc.weaken (fun _ _ _ _ => trivial)⟩⟩ rfl rfl hl.1 rfl (lv_room (Nat.le_of_ble_eq_true rfl)) d_mo_keep_3 ⟨Nat.zero_le _, Nat.zero_le _⟩) hS (fun q _ h => hFc q h) hFc (fun r_1 u t H1 locs ht hvm hw hB hz1 hk1 hS => ?_)
  obtain ⟨up_1, dn_1⟩ := u
  obtain ⟨hP1, hK1, hD1⟩ := hB
  rw [ht] at hP1
  obtain ⟨hP, hD⟩ := va_join (wr := [(mu, .inl (cmu, 300, .inr (.inl gu))), (md, .inl (cmd, 300, .inr (.inl gd)))]) (w1 := [(m0, .inr (4, [.int th, .int mk, .int mv, .ref mu, .ref md, .long up_1, .long dn_1, .int mr, .ref mc, .ref me, .int so, .ref mau, .ref mad, .int mw, .ref mwg, .ref mgv, .ref msq]))]) hP hD [0] [1, 2] rfl rfl (by decide) (by decide) hk1 hFc hP1 hD1
  generalize H1 = H at hP hS ⊢
  have hP := hP.sub (ws' := [(m0, .inr (4, [.int th, .int mk, .int mv, .ref mu, .ref md, .long up_1, .long dn_1, .int mr, .ref mc, .ref me, .int so, .ref mau, .ref mad, .int mw, .ref mwg, .ref mgv, .ref msq])), (mu, .inl (cmu, 300, .inr (.inl gu))), (md, .inl (cmd, 300, .inr (.inl gd)))]) [2, 0, 1] rfl
  have hD := hD.sub (ws' := [(m0, .inr (4, [.int th, .int mk, .int mv, .ref mu, .ref md, .long up_1, .long dn_1, .int mr, .ref mc, .ref me, .int so, .ref mau, .ref mad, .int mw, .ref mwg, .ref mgv, .ref msq])), (mu, .inl (cmu, 300, .inr (.inl gu))), (md, .inl (cmd, 300, .inr (.inl gd)))]) [2, 0, 1] (by decide) rfl
  have e_r_1 : r_1 = (f_mo_lowest a b).1 := congrArg (fun z => z.1) hw
  have e_up_1 : up_1 = (f_mo_lowest a b).2.1 := congrArg (fun z => z.2.1) hw
  have e_dn_1 : dn_1 = (f_mo_lowest a b).2.2 := congrArg (fun z => z.2.2) hw
  subst e_r_1 e_up_1 e_dn_1
  clear hP1 hK1 hD1 hk1 hz1 hFc hDc hPc hKc
  refine lv_if_eq (tgt := 19) hx hb d_mo_keep_6 (by decide) (fun c_2 => ?_) (fun c_2 => ?_)
  · refine lv_iconst (v := (-1)) hx hb d_mo_keep_19 (by decide) ?_
    exact W.iret (v := (-1)) hx hb hr (fun t ht hW => ⟨⟨(-1), (gu, gd, mv, (f_mo_lowest a b).2.1, (f_mo_lowest a b).2.2), rfl, by unfold f_mo_keep; rw [if_pos c_2], by rw [ht]; exact hP, va_K.moved hW.alike hK, hD⟩, hS.F ht⟩) hS.2.2 d_mo_keep_20
  · refine lv_aload_n hx hb d_mo_keep_9 rfl (lv_at hl 0 rfl) ?_
    refine va_get (D := (dC, dI)) (ci := 4) (v := .int mv) (C := R_mo) (T := F_mo) (N := 17) hx hb hT i_mo hown hK hP 0 rfl rfl 2 (by decide) (hT _ k_128) (fun _ h9 => h9) rfl d_mo_keep_10 ?_
    refine lv_sipush (v := 300) hx hb d_mo_keep_13 (by decide) ?_
    refine lv_icmp_ne (tgt := 21) hx hb d_mo_keep_16 (by decide) (fun c_3 => ?_) (fun c_3 => ?_)
    · refine lv_aload_n hx hb d_mo_keep_21 rfl (lv_at hl 0 rfl) ?_
      refine va_get (D := (dC, dI)) (ci := 4) (v := .ref mu) (C := R_mo) (T := F_mo) (N := 17) hx hb hT i_mo hown hK hP 0 rfl rfl 3 (by decide) (hT _ k_143) (fun _ h9 => h9) rfl d_mo_keep_22 ?_
      refine lv_aload_n hx hb d_mo_keep_25 rfl (lv_at hl 0 rfl) ?_
      refine va_get (D := (dC, dI)) (ci := 4) (v := .int mv) (C := R_mo) (T := F_mo) (N := 17) hx hb hT i_mo hown hK hP 0 rfl rfl 2 (by decide) (hT _ k_128) (fun _ h9 => h9) rfl d_mo_keep_26 ?_
      refine lv_aload_n hx hb d_mo_keep_29 rfl (lv_at hl 0 rfl) ?_
      refine va_get (D := (dC, dI)) (ci := 4) (v := .long ((f_mo_lowest a b).2.1)) (C := R_mo) (T := F_mo) (N := 17) hx hb hT i_mo hown hK hP 0 rfl rfl 5 (by decide) (hT _ k_133) (fun _ h9 => h9) rfl d_mo_keep_30 ?_
      refine va_last hx hb hK hP hD hS 1 0 rfl rfl (in_mv hv c_3) d_mo_keep_33 (fun H locs hP hD hS => ?_)
      have hP : va_P (dC, dI) classes [(m0, .inr (4, [.int th, .int mk, .int mv, .ref mu, .ref md, .long ((f_mo_lowest a b).2.1), .long ((f_mo_lowest a b).2.2), .int mr, .ref mc, .ref me, .int so, .ref mau, .ref mad, .int mw, .ref mwg, .ref mgv, .ref msq])), (mu, .inl (cmu, 300, .inr (.inl (vp_updL gu mv.toNatClampNeg ((f_mo_lowest a b).2.1))))), (md, .inl (cmd, 300, .inr (.inl gd)))] H := hP
      have hD : va_D A [(m0, .inr (4, [.int th, .int mk, .int mv, .ref mu, .ref md, .long ((f_mo_lowest a b).2.1), .long ((f_mo_lowest a b).2.2), .int mr, .ref mc, .ref me, .int so, .ref mau, .ref mad, .int mw, .ref mwg, .ref mgv, .ref msq])), (mu, .inl (cmu, 300, .inr (.inl (vp_updL gu mv.toNatClampNeg ((f_mo_lowest a b).2.1))))), (md, .inl (cmd, 300, .inr (.inl gd)))] := hD
      refine lv_aload_n hx hb d_mo_keep_34 rfl (lv_at hl 0 rfl) ?_
      refine va_get (D := (dC, dI)) (ci := 4) (v := .ref md) (C := R_mo) (T := F_mo) (N := 17) hx hb hT i_mo hown hK hP 0 rfl rfl 4 (by decide) (hT _ k_144) (fun _ h9 => h9) rfl d_mo_keep_35 ?_
      refine lv_aload_n hx hb d_mo_keep_38 rfl (lv_at hl 0 rfl) ?_
      refine va_get (D := (dC, dI)) (ci := 4) (v := .int mv) (C := R_mo) (T := F_mo) (N := 17) hx hb hT i_mo hown hK hP 0 rfl rfl 2 (by decide) (hT _ k_128) (fun _ h9 => h9) rfl d_mo_keep_39 ?_
      refine lv_aload_n hx hb d_mo_keep_42 rfl (lv_at hl 0 rfl) ?_
      refine va_get (D := (dC, dI)) (ci := 4) (v := .long ((f_mo_lowest a b).2.2)) (C := R_mo) (T := F_mo) (N := 17) hx hb hT i_mo hown hK hP 0 rfl rfl 6 (by decide) (hT _ k_134) (fun _ h9 => h9) rfl d_mo_keep_43 ?_
      refine va_last hx hb hK hP hD hS 2 1 rfl rfl (in_mv hv c_3) d_mo_keep_46 (fun H locs hP hD hS => ?_)
      have hP : va_P (dC, dI) classes [(m0, .inr (4, [.int th, .int mk, .int mv, .ref mu, .ref md, .long ((f_mo_lowest a b).2.1), .long ((f_mo_lowest a b).2.2), .int mr, .ref mc, .ref me, .int so, .ref mau, .ref mad, .int mw, .ref mwg, .ref mgv, .ref msq])), (mu, .inl (cmu, 300, .inr (.inl (vp_updL gu mv.toNatClampNeg ((f_mo_lowest a b).2.1))))), (md, .inl (cmd, 300, .inr (.inl (vp_updL gd mv.toNatClampNeg ((f_mo_lowest a b).2.2)))))] H := hP
      have hD : va_D A [(m0, .inr (4, [.int th, .int mk, .int mv, .ref mu, .ref md, .long ((f_mo_lowest a b).2.1), .long ((f_mo_lowest a b).2.2), .int mr, .ref mc, .ref me, .int so, .ref mau, .ref mad, .int mw, .ref mwg, .ref mgv, .ref msq])), (mu, .inl (cmu, 300, .inr (.inl (vp_updL gu mv.toNatClampNeg ((f_mo_lowest a b).2.1))))), (md, .inl (cmd, 300, .inr (.inl (vp_updL gd mv.toNatClampNeg ((f_mo_lowest a b).2.2)))))] := hD
      refine lv_aload_n hx hb d_mo_keep_47 rfl (lv_at hl 0 rfl) ?_
      refine lv_dup hx hb d_mo_keep_48 rfl ?_
      refine va_get (D := (dC, dI)) (ci := 4) (v := .int mv) (C := R_mo) (T := F_mo) (N := 17) hx hb hT i_mo hown hK hP 0 rfl rfl 2 (by decide) (hT _ k_128) (fun _ h9 => h9) rfl d_mo_keep_49 ?_
      refine lv_iconst (v := 1) hx hb d_mo_keep_52 (by decide) ?_
      refine lv_iadd hx hb d_mo_keep_53 ?_
      refine va_put (D := (dC, dI)) (ci := 4) (v := .int (mv + 1)) (ty := .int) (C := R_mo) (T := F_mo) (N := 17) hx hb hT i_mo t_mo t_mo_ok n_mo hown hK hP hD hS 0 rfl rfl 2 (by decide) (hT _ k_128) (fun _ h9 => h9) rfl (by decide +kernel) rfl rfl (Nat.le_of_ble_eq_true rfl) d_mo_keep_54 (fun H locs hP hD hS => ?_)
      have hP : va_P (dC, dI) classes [(m0, .inr (4, [.int th, .int mk, .int (mv + 1), .ref mu, .ref md, .long ((f_mo_lowest a b).2.1), .long ((f_mo_lowest a b).2.2), .int mr, .ref mc, .ref me, .int so, .ref mau, .ref mad, .int mw, .ref mwg, .ref mgv, .ref msq])), (mu, .inl (cmu, 300, .inr (.inl (vp_updL gu mv.toNatClampNeg ((f_mo_lowest a b).2.1))))), (md, .inl (cmd, 300, .inr (.inl (vp_updL gd mv.toNatClampNeg ((f_mo_lowest a b).2.2)))))] H := hP
      have hD : va_D A [(m0, .inr (4, [.int th, .int mk, .int (mv + 1), .ref mu, .ref md, .long ((f_mo_lowest a b).2.1), .long ((f_mo_lowest a b).2.2), .int mr, .ref mc, .ref me, .int so, .ref mau, .ref mad, .int mw, .ref mwg, .ref mgv, .ref msq])), (mu, .inl (cmu, 300, .inr (.inl (vp_updL gu mv.toNatClampNeg ((f_mo_lowest a b).2.1))))), (md, .inl (cmd, 300, .inr (.inl (vp_updL gd mv.toNatClampNeg ((f_mo_lowest a b).2.2)))))] := hD
      refine lv_aload_n hx hb d_mo_keep_57 rfl (lv_at hl 0 rfl) ?_
      refine va_get (D := (dC, dI)) (ci := 4) (v := .int (mv + 1)) (C := R_mo) (T := F_mo) (N := 17) hx hb hT i_mo hown hK hP 0 rfl rfl 2 (by decide) (hT _ k_128) (fun _ h9 => h9) rfl d_mo_keep_58 ?_
      refine lv_iconst (v := 1) hx hb d_mo_keep_61 (by decide) ?_
      refine lv_isub hx hb d_mo_keep_62 ?_
      exact W.iret (v := (mv + 1) - 1) hx hb hr (fun t ht hW => ⟨⟨(mv + 1) - 1, (vp_updL gu mv.toNatClampNeg ((f_mo_lowest a b).2.1), vp_updL gd mv.toNatClampNeg ((f_mo_lowest a b).2.2), mv + 1, (f_mo_lowest a b).2.1, (f_mo_lowest a b).2.2), rfl, by unfold f_mo_keep; rw [if_neg c_2, if_neg c_3], by rw [ht]; exact hP, va_K.moved hW.alike hK, hD⟩, hS.F ht⟩) hS.2.2 d_mo_keep_63
    · refine lv_iconst (v := (-1)) hx hb d_mo_keep_19 (by decide) ?_
      exact W.iret (v := (-1)) hx hb hr (fun t ht hW => ⟨⟨(-1), (gu, gd, mv, (f_mo_lowest a b).2.1, (f_mo_lowest a b).2.2), rfl, by unfold f_mo_keep; rw [if_neg c_2, if_pos c_3], by rw [ht]; exact hP, va_K.moved hW.alike hK, hD⟩, hS.F ht⟩) hS.2.2 d_mo_keep_20
