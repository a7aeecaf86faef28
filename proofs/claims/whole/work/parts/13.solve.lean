abbrev b_ks_keep : ByteArray := prog_2_method_7_code
def y_ks_keep : MethodName := ⟨R_ks, "keepAnswers", "(I)V"⟩
def w_ks_keep : List Cond := .code y_ks_keep b_ks_keep 10 none :: kt_T
theorem d_ks_keep_0 : decode b_ks_keep 0 = .ok (.iconst 0, 1) := by decide +kernel
theorem d_ks_keep_1 : decode b_ks_keep 1 = .ok (.istore_n 2, 1) := by decide +kernel
theorem d_ks_keep_2 : decode b_ks_keep 2 = .ok (.iload_n 2, 1) := by decide +kernel
theorem d_ks_keep_3 : decode b_ks_keep 3 = .ok (.iload_n 1, 1) := by decide +kernel
theorem d_ks_keep_4 : decode b_ks_keep 4 = .ok (.if_icmp .ge 74, 3) := by decide +kernel
theorem d_ks_keep_7 : decode b_ks_keep 7 = .ok (.aload_n 0, 1) := by decide +kernel
theorem d_ks_keep_8 : decode b_ks_keep 8 = .ok (.getfield 21, 3) := by decide +kernel
theorem d_ks_keep_11 : decode b_ks_keep 11 = .ok (.iload_n 2, 1) := by decide +kernel
theorem d_ks_keep_12 : decode b_ks_keep 12 = .ok (.iaload, 1) := by decide +kernel
theorem d_ks_keep_13 : decode b_ks_keep 13 = .ok (.istore_n 3, 1) := by decide +kernel
theorem d_ks_keep_14 : decode b_ks_keep 14 = .ok (.aload_n 0, 1) := by decide +kernel
theorem d_ks_keep_15 : decode b_ks_keep 15 = .ok (.getfield 18, 3) := by decide +kernel
theorem d_ks_keep_18 : decode b_ks_keep 18 = .ok (.iload_n 2, 1) := by decide +kernel
theorem d_ks_keep_19 : decode b_ks_keep 19 = .ok (.aaload, 1) := by decide +kernel
theorem d_ks_keep_20 : decode b_ks_keep 20 = .ok (.iconst 4, 1) := by decide +kernel
theorem d_ks_keep_21 : decode b_ks_keep 21 = .ok (.laload, 1) := by decide +kernel
theorem d_ks_keep_22 : decode b_ks_keep 22 = .ok (.lstore 4, 2) := by decide +kernel
theorem d_ks_keep_24 : decode b_ks_keep 24 = .ok (.aload_n 0, 1) := by decide +kernel
theorem d_ks_keep_25 : decode b_ks_keep 25 = .ok (.getfield 18, 3) := by decide +kernel
theorem d_ks_keep_28 : decode b_ks_keep 28 = .ok (.iload_n 2, 1) := by decide +kernel
theorem d_ks_keep_29 : decode b_ks_keep 29 = .ok (.aaload, 1) := by decide +kernel
theorem d_ks_keep_30 : decode b_ks_keep 30 = .ok (.iload_n 3, 1) := by decide +kernel
theorem d_ks_keep_31 : decode b_ks_keep 31 = .ok (.laload, 1) := by decide +kernel
theorem d_ks_keep_32 : decode b_ks_keep 32 = .ok (.lstore 6, 2) := by decide +kernel
theorem d_ks_keep_34 : decode b_ks_keep 34 = .ok (.lload 4, 2) := by decide +kernel
theorem d_ks_keep_36 : decode b_ks_keep 36 = .ok (.lload 6, 2) := by decide +kernel
theorem d_ks_keep_38 : decode b_ks_keep 38 = .ok (.invokestatic 51, 3) := by decide +kernel
theorem d_ks_keep_41 : decode b_ks_keep 41 = .ok (.lstore 8, 2) := by decide +kernel
theorem d_ks_keep_43 : decode b_ks_keep 43 = .ok (.lload 8, 2) := by decide +kernel
theorem d_ks_keep_45 : decode b_ks_keep 45 = .ok (.lconst 0, 1) := by decide +kernel
theorem d_ks_keep_46 : decode b_ks_keep 46 = .ok (.lcmp, 1) := by decide +kernel
theorem d_ks_keep_47 : decode b_ks_keep 47 = .ok (.ifCond .eq 25, 3) := by decide +kernel
theorem d_ks_keep_50 : decode b_ks_keep 50 = .ok (.aload_n 0, 1) := by decide +kernel
theorem d_ks_keep_51 : decode b_ks_keep 51 = .ok (.getfield 25, 3) := by decide +kernel
theorem d_ks_keep_54 : decode b_ks_keep 54 = .ok (.iload_n 3, 1) := by decide +kernel
theorem d_ks_keep_55 : decode b_ks_keep 55 = .ok (.lload 4, 2) := by decide +kernel
theorem d_ks_keep_57 : decode b_ks_keep 57 = .ok (.lload 8, 2) := by decide +kernel
theorem d_ks_keep_59 : decode b_ks_keep 59 = .ok (.ldiv, 1) := by decide +kernel
theorem d_ks_keep_60 : decode b_ks_keep 60 = .ok (.lastore, 1) := by decide +kernel
theorem d_ks_keep_61 : decode b_ks_keep 61 = .ok (.aload_n 0, 1) := by decide +kernel
theorem d_ks_keep_62 : decode b_ks_keep 62 = .ok (.getfield 29, 3) := by decide +kernel
theorem d_ks_keep_65 : decode b_ks_keep 65 = .ok (.iload_n 3, 1) := by decide +kernel
theorem d_ks_keep_66 : decode b_ks_keep 66 = .ok (.lload 6, 2) := by decide +kernel
theorem d_ks_keep_68 : decode b_ks_keep 68 = .ok (.lload 8, 2) := by decide +kernel
theorem d_ks_keep_70 : decode b_ks_keep 70 = .ok (.ldiv, 1) := by decide +kernel
theorem d_ks_keep_71 : decode b_ks_keep 71 = .ok (.lastore, 1) := by decide +kernel
theorem d_ks_keep_72 : decode b_ks_keep 72 = .ok (.iinc 2 1, 3) := by decide +kernel
theorem d_ks_keep_75 : decode b_ks_keep 75 = .ok (.goto (-73), 3) := by decide +kernel
theorem d_ks_keep_78 : decode b_ks_keep 78 = .ok (.aload_n 0, 1) := by decide +kernel
theorem d_ks_keep_79 : decode b_ks_keep 79 = .ok (.iload_n 1, 1) := by decide +kernel
theorem d_ks_keep_80 : decode b_ks_keep 80 = .ok (.putfield 32, 3) := by decide +kernel
theorem d_ks_keep_83 : decode b_ks_keep 83 = .ok (.return_, 1) := by decide +kernel
abbrev b_ks_solve : ByteArray := prog_2_method_3_code
def y_ks_solve : MethodName := ⟨R_ks, "solveFirst", "(I)I"⟩
def w_ks_solve : List Cond := .code y_ks_solve b_ks_solve 7 (some .int) :: kt_T
theorem d_ks_solve_0 : decode b_ks_solve 0 = .ok (.iload_n 1, 1) := by decide +kernel
theorem d_ks_solve_1 : decode b_ks_solve 1 = .ok (.iconst 1, 1) := by decide +kernel
theorem d_ks_solve_2 : decode b_ks_solve 2 = .ok (.if_icmp .lt 8, 3) := by decide +kernel
theorem d_ks_solve_5 : decode b_ks_solve 5 = .ok (.iload_n 1, 1) := by decide +kernel
theorem d_ks_solve_6 : decode b_ks_solve 6 = .ok (.iconst 4, 1) := by decide +kernel
theorem d_ks_solve_7 : decode b_ks_solve 7 = .ok (.if_icmp .le 5, 3) := by decide +kernel
theorem d_ks_solve_10 : decode b_ks_solve 10 = .ok (.iconst (-1), 1) := by decide +kernel
theorem d_ks_solve_11 : decode b_ks_solve 11 = .ok (.ireturn, 1) := by decide +kernel
theorem d_ks_solve_12 : decode b_ks_solve 12 = .ok (.aload_n 0, 1) := by decide +kernel
theorem d_ks_solve_13 : decode b_ks_solve 13 = .ok (.iload_n 1, 1) := by decide +kernel
theorem d_ks_solve_14 : decode b_ks_solve 14 = .ok (.invokevirtual 36, 3) := by decide +kernel
theorem d_ks_solve_17 : decode b_ks_solve 17 = .ok (.lconst 1, 1) := by decide +kernel
theorem d_ks_solve_18 : decode b_ks_solve 18 = .ok (.lstore_n 2, 1) := by decide +kernel
theorem d_ks_solve_19 : decode b_ks_solve 19 = .ok (.iconst 0, 1) := by decide +kernel
theorem d_ks_solve_20 : decode b_ks_solve 20 = .ok (.istore 4, 2) := by decide +kernel
theorem d_ks_solve_22 : decode b_ks_solve 22 = .ok (.iload 4, 2) := by decide +kernel
theorem d_ks_solve_24 : decode b_ks_solve 24 = .ok (.iload_n 1, 1) := by decide +kernel
theorem d_ks_solve_25 : decode b_ks_solve 25 = .ok (.if_icmp .ge 82, 3) := by decide +kernel
theorem d_ks_solve_28 : decode b_ks_solve 28 = .ok (.aload_n 0, 1) := by decide +kernel
theorem d_ks_solve_29 : decode b_ks_solve 29 = .ok (.iload 4, 2) := by decide +kernel
theorem d_ks_solve_31 : decode b_ks_solve 31 = .ok (.iload_n 1, 1) := by decide +kernel
theorem d_ks_solve_32 : decode b_ks_solve 32 = .ok (.invokevirtual 40, 3) := by decide +kernel
theorem d_ks_solve_35 : decode b_ks_solve 35 = .ok (.istore 5, 2) := by decide +kernel
theorem d_ks_solve_37 : decode b_ks_solve 37 = .ok (.iload 5, 2) := by decide +kernel
theorem d_ks_solve_39 : decode b_ks_solve 39 = .ok (.iconst (-1), 1) := by decide +kernel
theorem d_ks_solve_40 : decode b_ks_solve 40 = .ok (.if_icmp .ne 8, 3) := by decide +kernel
theorem d_ks_solve_43 : decode b_ks_solve 43 = .ok (.iload 4, 2) := by decide +kernel
theorem d_ks_solve_45 : decode b_ks_solve 45 = .ok (.iconst 1, 1) := by decide +kernel
theorem d_ks_solve_46 : decode b_ks_solve 46 = .ok (.iadd, 1) := by decide +kernel
theorem d_ks_solve_47 : decode b_ks_solve 47 = .ok (.ireturn, 1) := by decide +kernel
theorem d_ks_solve_48 : decode b_ks_solve 48 = .ok (.iconst 0, 1) := by decide +kernel
theorem d_ks_solve_49 : decode b_ks_solve 49 = .ok (.istore 6, 2) := by decide +kernel
theorem d_ks_solve_51 : decode b_ks_solve 51 = .ok (.iload 6, 2) := by decide +kernel
theorem d_ks_solve_53 : decode b_ks_solve 53 = .ok (.iload_n 1, 1) := by decide +kernel
theorem d_ks_solve_54 : decode b_ks_solve 54 = .ok (.if_icmp .ge 27, 3) := by decide +kernel
theorem d_ks_solve_57 : decode b_ks_solve 57 = .ok (.iload 6, 2) := by decide +kernel
theorem d_ks_solve_59 : decode b_ks_solve 59 = .ok (.iload 4, 2) := by decide +kernel
theorem d_ks_solve_61 : decode b_ks_solve 61 = .ok (.if_icmp .eq 14, 3) := by decide +kernel
theorem d_ks_solve_64 : decode b_ks_solve 64 = .ok (.aload_n 0, 1) := by decide +kernel
theorem d_ks_solve_65 : decode b_ks_solve 65 = .ok (.iload 6, 2) := by decide +kernel
theorem d_ks_solve_67 : decode b_ks_solve 67 = .ok (.iload 4, 2) := by decide +kernel
theorem d_ks_solve_69 : decode b_ks_solve 69 = .ok (.iload 5, 2) := by decide +kernel
theorem d_ks_solve_71 : decode b_ks_solve 71 = .ok (.lload_n 2, 1) := by decide +kernel
theorem d_ks_solve_72 : decode b_ks_solve 72 = .ok (.invokevirtual 44, 3) := by decide +kernel
theorem d_ks_solve_75 : decode b_ks_solve 75 = .ok (.iinc 6 1, 3) := by decide +kernel
theorem d_ks_solve_78 : decode b_ks_solve 78 = .ok (.goto (-27), 3) := by decide +kernel
theorem d_ks_solve_81 : decode b_ks_solve 81 = .ok (.aload_n 0, 1) := by decide +kernel
theorem d_ks_solve_82 : decode b_ks_solve 82 = .ok (.getfield 21, 3) := by decide +kernel
theorem d_ks_solve_85 : decode b_ks_solve 85 = .ok (.iload 4, 2) := by decide +kernel
theorem d_ks_solve_87 : decode b_ks_solve 87 = .ok (.iload 5, 2) := by decide +kernel
theorem d_ks_solve_89 : decode b_ks_solve 89 = .ok (.iastore, 1) := by decide +kernel
theorem d_ks_solve_90 : decode b_ks_solve 90 = .ok (.aload_n 0, 1) := by decide +kernel
theorem d_ks_solve_91 : decode b_ks_solve 91 = .ok (.getfield 18, 3) := by decide +kernel
theorem d_ks_solve_94 : decode b_ks_solve 94 = .ok (.iload 4, 2) := by decide +kernel
theorem d_ks_solve_96 : decode b_ks_solve 96 = .ok (.aaload, 1) := by decide +kernel
theorem d_ks_solve_97 : decode b_ks_solve 97 = .ok (.iload 5, 2) := by decide +kernel
theorem d_ks_solve_99 : decode b_ks_solve 99 = .ok (.laload, 1) := by decide +kernel
theorem d_ks_solve_100 : decode b_ks_solve 100 = .ok (.lstore_n 2, 1) := by decide +kernel
theorem d_ks_solve_101 : decode b_ks_solve 101 = .ok (.iinc 4 1, 3) := by decide +kernel
theorem d_ks_solve_104 : decode b_ks_solve 104 = .ok (.goto (-82), 3) := by decide +kernel
theorem d_ks_solve_107 : decode b_ks_solve 107 = .ok (.aload_n 0, 1) := by decide +kernel
theorem d_ks_solve_108 : decode b_ks_solve 108 = .ok (.iload_n 1, 1) := by decide +kernel
theorem d_ks_solve_109 : decode b_ks_solve 109 = .ok (.invokevirtual 48, 3) := by decide +kernel
theorem d_ks_solve_112 : decode b_ks_solve 112 = .ok (.iconst 0, 1) := by decide +kernel
theorem d_ks_solve_113 : decode b_ks_solve 113 = .ok (.ireturn, 1) := by decide +kernel
abbrev b_kr_entry : ByteArray := prog_1_method_15_code
def y_kr_entry : MethodName := ⟨R_kr, "entry", "(III)Z"⟩
def w_kr_entry : List Cond := .code y_kr_entry b_kr_entry 4 (some .boolean) :: kt_T
theorem d_kr_entry_0 : decode b_kr_entry 0 = .ok (.aload_n 0, 1) := by decide +kernel
theorem d_kr_entry_1 : decode b_kr_entry 1 = .ok (.getfield 36, 3) := by decide +kernel
theorem d_kr_entry_4 : decode b_kr_entry 4 = .ok (.iload_n 1, 1) := by decide +kernel
theorem d_kr_entry_5 : decode b_kr_entry 5 = .ok (.iload_n 2, 1) := by decide +kernel
theorem d_kr_entry_6 : decode b_kr_entry 6 = .ok (.iload_n 3, 1) := by decide +kernel
theorem d_kr_entry_7 : decode b_kr_entry 7 = .ok (.invokevirtual 123, 3) := by decide +kernel
theorem d_kr_entry_10 : decode b_kr_entry 10 = .ok (.ireturn, 1) := by decide +kernel
abbrev b_kr_solve : ByteArray := prog_1_method_16_code
def y_kr_solve : MethodName := ⟨R_kr, "solve", "(I)I"⟩
def w_kr_solve : List Cond := .code y_kr_solve b_kr_solve 2 (some .int) :: kt_T
theorem d_kr_solve_0 : decode b_kr_solve 0 = .ok (.aload_n 0, 1) := by decide +kernel
theorem d_kr_solve_1 : decode b_kr_solve 1 = .ok (.getfield 36, 3) := by decide +kernel
theorem d_kr_solve_4 : decode b_kr_solve 4 = .ok (.iload_n 1, 1) := by decide +kernel
theorem d_kr_solve_5 : decode b_kr_solve 5 = .ok (.invokevirtual 127, 3) := by decide +kernel
theorem d_kr_solve_8 : decode b_kr_solve 8 = .ok (.ireturn, 1) := by decide +kernel
abbrev b_kr_answer : ByteArray := prog_1_method_17_code
def y_kr_answer : MethodName := ⟨R_kr, "answer", "(II)J"⟩
def w_kr_answer : List Cond := .code y_kr_answer b_kr_answer 3 (some .long) :: kt_T
theorem d_kr_answer_0 : decode b_kr_answer 0 = .ok (.aload_n 0, 1) := by decide +kernel
theorem d_kr_answer_1 : decode b_kr_answer 1 = .ok (.getfield 36, 3) := by decide +kernel
theorem d_kr_answer_4 : decode b_kr_answer 4 = .ok (.iload_n 1, 1) := by decide +kernel
theorem d_kr_answer_5 : decode b_kr_answer 5 = .ok (.invokevirtual 130, 3) := by decide +kernel
theorem d_kr_answer_8 : decode b_kr_answer 8 = .ok (.ifCond .eq 10, 3) := by decide +kernel
theorem d_kr_answer_11 : decode b_kr_answer 11 = .ok (.iload_n 2, 1) := by decide +kernel
theorem d_kr_answer_12 : decode b_kr_answer 12 = .ok (.invokestatic 62, 3) := by decide +kernel
theorem d_kr_answer_15 : decode b_kr_answer 15 = .ok (.ifCond .ne 7, 3) := by decide +kernel
theorem d_kr_answer_18 : decode b_kr_answer 18 = .ok (.ldc2_w 87, 3) := by decide +kernel
theorem d_kr_answer_21 : decode b_kr_answer 21 = .ok (.lreturn, 1) := by decide +kernel
theorem d_kr_answer_22 : decode b_kr_answer 22 = .ok (.aload_n 0, 1) := by decide +kernel
theorem d_kr_answer_23 : decode b_kr_answer 23 = .ok (.getfield 36, 3) := by decide +kernel
theorem d_kr_answer_26 : decode b_kr_answer 26 = .ok (.iload_n 1, 1) := by decide +kernel
theorem d_kr_answer_27 : decode b_kr_answer 27 = .ok (.iload_n 2, 1) := by decide +kernel
theorem d_kr_answer_28 : decode b_kr_answer 28 = .ok (.invokevirtual 133, 3) := by decide +kernel
theorem d_kr_answer_31 : decode b_kr_answer 31 = .ok (.lreturn, 1) := by decide +kernel
theorem k_80 : (.fieldLink R_ks 21 "KilogramRows$ShareSystem" "pivots" "[I" : Cond) ∈ kt_T := List.mem_filter.mpr ⟨List.mem_of_getElem? (i := 68) (by decide +kernel), by decide +kernel⟩
theorem k_81 : (.code y_ks_elim b_ks_elim 11 none : Cond) ∈ kt_T := List.mem_filter.mpr ⟨List.mem_of_getElem? (i := 237) (by decide +kernel), by decide +kernel⟩
theorem k_82 : (.initialized R_ks : Cond) ∈ kt_T := List.mem_filter.mpr ⟨List.mem_of_getElem? (i := 19) (by decide +kernel), by decide +kernel⟩
theorem k_83 : (.instanceMethod y_ks_elim : Cond) ∈ kt_T := List.mem_filter.mpr ⟨List.mem_of_getElem? (i := 236) (by decide +kernel), by decide +kernel⟩
theorem k_84 : (.selects R_ks y_ks_elim y_ks_elim : Cond) ∈ kt_T := List.mem_filter.mpr ⟨List.mem_of_getElem? (i := 3) (by decide +kernel), by decide +kernel⟩
theorem k_85 : (.methodLink R_ks 44 y_ks_elim : Cond) ∈ kt_T := List.mem_filter.mpr ⟨List.mem_of_getElem? (i := 234) (by decide +kernel), by decide +kernel⟩
theorem k_86 : (.code y_ks_pivot b_ks_pivot 4 (some .int) : Cond) ∈ kt_T := List.mem_filter.mpr ⟨List.mem_of_getElem? (i := 233) (by decide +kernel), by decide +kernel⟩
theorem k_87 : (.instanceMethod y_ks_pivot : Cond) ∈ kt_T := List.mem_filter.mpr ⟨List.mem_of_getElem? (i := 232) (by decide +kernel), by decide +kernel⟩
theorem k_88 : (.selects R_ks y_ks_pivot y_ks_pivot : Cond) ∈ kt_T := List.mem_filter.mpr ⟨List.mem_of_getElem? (i := 2) (by decide +kernel), by decide +kernel⟩
theorem k_89 : (.methodLink R_ks 40 y_ks_pivot : Cond) ∈ kt_T := List.mem_filter.mpr ⟨List.mem_of_getElem? (i := 230) (by decide +kernel), by decide +kernel⟩
theorem k_90 : (.code y_ks_copy b_ks_copy 4 none : Cond) ∈ kt_T := List.mem_filter.mpr ⟨List.mem_of_getElem? (i := 229) (by decide +kernel), by decide +kernel⟩
theorem k_91 : (.instanceMethod y_ks_copy : Cond) ∈ kt_T := List.mem_filter.mpr ⟨List.mem_of_getElem? (i := 228) (by decide +kernel), by decide +kernel⟩
theorem k_92 : (.selects R_ks y_ks_copy y_ks_copy : Cond) ∈ kt_T := List.mem_filter.mpr ⟨List.mem_of_getElem? (i := 1) (by decide +kernel), by decide +kernel⟩
theorem k_93 : (.methodLink R_ks 36 y_ks_copy : Cond) ∈ kt_T := List.mem_filter.mpr ⟨List.mem_of_getElem? (i := 226) (by decide +kernel), by decide +kernel⟩
theorem k_94 : (.code y_ks_keep b_ks_keep 10 none : Cond) ∈ kt_T := List.mem_filter.mpr ⟨List.mem_of_getElem? (i := 241) (by decide +kernel), by decide +kernel⟩
theorem k_95 : (.instanceMethod y_ks_keep : Cond) ∈ kt_T := List.mem_filter.mpr ⟨List.mem_of_getElem? (i := 240) (by decide +kernel), by decide +kernel⟩
theorem k_96 : (.selects R_ks y_ks_keep y_ks_keep : Cond) ∈ kt_T := List.mem_filter.mpr ⟨List.mem_of_getElem? (i := 4) (by decide +kernel), by decide +kernel⟩
theorem k_97 : (.methodLink R_ks 48 y_ks_keep : Cond) ∈ kt_T := List.mem_filter.mpr ⟨List.mem_of_getElem? (i := 238) (by decide +kernel), by decide +kernel⟩
theorem k_98 : (.fieldLink R_kr 36 "KilogramRows" "system" "LKilogramRows$ShareSystem;" : Cond) ∈ kt_T := List.mem_filter.mpr ⟨List.mem_of_getElem? (i := 106) (by decide +kernel), by decide +kernel⟩
theorem k_99 : (.code y_ks_setEntry b_ks_setEntry 4 (some .boolean) : Cond) ∈ kt_T := List.mem_filter.mpr ⟨List.mem_of_getElem? (i := 217) (by decide +kernel), by decide +kernel⟩
theorem k_100 : (.instanceMethod y_ks_setEntry : Cond) ∈ kt_T := List.mem_filter.mpr ⟨List.mem_of_getElem? (i := 215) (by decide +kernel), by decide +kernel⟩
theorem k_101 : (.selects R_ks y_ks_setEntry y_ks_setEntry : Cond) ∈ kt_T := List.mem_filter.mpr ⟨List.mem_of_getElem? (i := 216) (by decide +kernel), by decide +kernel⟩
theorem k_102 : (.methodLink R_kr 123 y_ks_setEntry : Cond) ∈ kt_T := List.mem_filter.mpr ⟨List.mem_of_getElem? (i := 214) (by decide +kernel), by decide +kernel⟩
theorem k_103 : (.code y_ks_solve b_ks_solve 7 (some .int) : Cond) ∈ kt_T := List.mem_filter.mpr ⟨List.mem_of_getElem? (i := 225) (by decide +kernel), by decide +kernel⟩
theorem k_104 : (.instanceMethod y_ks_solve : Cond) ∈ kt_T := List.mem_filter.mpr ⟨List.mem_of_getElem? (i := 223) (by decide +kernel), by decide +kernel⟩
theorem k_105 : (.selects R_ks y_ks_solve y_ks_solve : Cond) ∈ kt_T := List.mem_filter.mpr ⟨List.mem_of_getElem? (i := 224) (by decide +kernel), by decide +kernel⟩
theorem k_106 : (.methodLink R_kr 127 y_ks_solve : Cond) ∈ kt_T := List.mem_filter.mpr ⟨List.mem_of_getElem? (i := 222) (by decide +kernel), by decide +kernel⟩
theorem k_107 : (.code y_ks_hasAnswer b_ks_hasAnswer 2 (some .boolean) : Cond) ∈ kt_T := List.mem_filter.mpr ⟨List.mem_of_getElem? (i := 250) (by decide +kernel), by decide +kernel⟩
theorem k_108 : (.instanceMethod y_ks_hasAnswer : Cond) ∈ kt_T := List.mem_filter.mpr ⟨List.mem_of_getElem? (i := 248) (by decide +kernel), by decide +kernel⟩
theorem k_109 : (.selects R_ks y_ks_hasAnswer y_ks_hasAnswer : Cond) ∈ kt_T := List.mem_filter.mpr ⟨List.mem_of_getElem? (i := 249) (by decide +kernel), by decide +kernel⟩
theorem k_110 : (.methodLink R_kr 130 y_ks_hasAnswer : Cond) ∈ kt_T := List.mem_filter.mpr ⟨List.mem_of_getElem? (i := 247) (by decide +kernel), by decide +kernel⟩
theorem k_111 : (.code y_ks_answerPart b_ks_answerPart 3 (some .long) : Cond) ∈ kt_T := List.mem_filter.mpr ⟨List.mem_of_getElem? (i := 254) (by decide +kernel), by decide +kernel⟩
theorem k_112 : (.instanceMethod y_ks_answerPart : Cond) ∈ kt_T := List.mem_filter.mpr ⟨List.mem_of_getElem? (i := 252) (by decide +kernel), by decide +kernel⟩
theorem k_113 : (.selects R_ks y_ks_answerPart y_ks_answerPart : Cond) ∈ kt_T := List.mem_filter.mpr ⟨List.mem_of_getElem? (i := 253) (by decide +kernel), by decide +kernel⟩
theorem k_114 : (.methodLink R_kr 133 y_ks_answerPart : Cond) ∈ kt_T := List.mem_filter.mpr ⟨List.mem_of_getElem? (i := 251) (by decide +kernel), by decide +kernel⟩
/-- the answers are kept: d rows are left, from r on -/
def kaL (fp : Nat → Int32) (Wm : Nat → Nat → Int64) : Nat → Nat → (Nat → Int64) → (Nat → Int64) → (Nat → Int64) × (Nat → Int64)
  | 0, _, u, v => (u, v)
  | d + 1, r, u, v => if f_kr_gcd (Wm r 4) (Wm r (fp r).toNatClampNeg) = 0 then kaL fp Wm d (r + 1) u v else kaL fp Wm d (r + 1) (vp_updL u (fp r).toNatClampNeg ((Wm r 4) / (f_kr_gcd (Wm r 4) (Wm r (fp r).toNatClampNeg)))) (vp_updL v (fp r).toNatClampNeg ((Wm r (fp r).toNatClampNeg) / (f_kr_gcd (Wm r 4) (Wm r (fp r).toNatClampNeg))))
theorem in_45 {i : Int32} (h : vp_in i 4) : vp_in i 5 := by
  rw [vp_in_iff] at h ⊢
  omega
set_option maxHeartbeats 4000000 in
theorem lp_ks_keep {p : Program} {l : Launch} {e : Env} {R : Room} {s : State} {m : MethodId} {args : Array Value} {below : List Frame} {meth : Method} {c : Code} {dC : Nat → ClassId} {dI : Nat → Nat → Nat} {A : Nat → Prop} {Q : State → Prop} {a_s : Nat} {e0 : Nat} {w0 : Nat} {pv : Nat} {su : Nat} {sl : Nat} {er : Nat → Nat} {wr : Nat → Nat} {ans : Int32} {cE : ClassId} {cW : ClassId} {cP : ClassId} {fp : Nat → Int32} {cSu : ClassId} {cSl : ClassId} {cI : ClassId} {E : Nat → Nat → Int32} {cJ : ClassId} {Wm : Nat → Nat → Int64} {n : Nat} (hx : p.tables.exec = Jvm.exec) (hb : c.code = b_ks_keep) (hml : c.maxLocals = 10) (hown : s.vm.findClass R_ks = some m.cls) (hT : ∀ w ∈ kt_T, w.before args s = true) (hA : ∀ q : Nat, s.heap.size ≤ q → A q) (hK : va_K (dC, dI) classes [(cE, .array .int), (cW, .array .long), (cP, .int), (cSu, .long), (cSl, .long), (cI, .int), (cJ, .long)] s) (hN : kt_N s) (hRf : 1 ≤ R.frames) (hRl : 30 ≤ R.locals) (hn : n ≤ 4) (hpv : ∀ i, i < n → vp_in (fp i) 4) :
    ∀ (d r : Nat) (U Z : Nat → Int64), r + d = n → (∀ (H : Heap) (locs : List Loc) (ls : Array Slot), va_P (dC, dI) classes (ks_ws a_s e0 w0 pv su sl er wr cE cW cP cSu cSl cI cJ fp ((kaL fp Wm d r U Z).1) ((kaL fp Wm d r U Z).2) E Wm ans) H → va_D A (ks_ws a_s e0 w0 pv su sl er wr cE cW cP cSu cSl cI cJ fp ((kaL fp Wm d r U Z).1) ((kaL fp Wm d r U Z).2) E Wm ans) → va_S A s.heap H locs → lv_has ls 10 [(0, .ref a_s), (1, .int (nI n))] → W p l e R s m args below meth c H locs 0 0 Q (F0 m 78 ls [])) → ∀ (H : Heap) (locs : List Loc) (ls : Array Slot), va_P (dC, dI) classes (ks_ws a_s e0 w0 pv su sl er wr cE cW cP cSu cSl cI cJ fp U Z E Wm ans) H → va_D A (ks_ws a_s e0 w0 pv su sl er wr cE cW cP cSu cSl cI cJ fp U Z E Wm ans) → va_S A s.heap H locs → lv_has ls 10 [(0, .ref a_s), (1, .int (nI n)), (2, .int (nI r))] → W p l e R s m args below meth c H locs 0 0 Q (F0 m 2 ls []) := by
  intro d
  induction d with
  | zero =>
    intro r U Z hj hk H locs ls hP hD hS hl
    refine lv_iload_n hx hb d_ks_keep_2 rfl (lv_at hl 2 rfl) ?_
    refine lv_iload_n hx hb d_ks_keep_3 rfl (lv_at hl 1 rfl) ?_
    refine lv_icmp_ge (tgt := 78) hx hb d_ks_keep_4 (by decide) (fun c_1 => ?_) (fun c_1 => ?_)
    · exact hk H locs ls hP hD hS (lv_sub hl [0, 1] rfl)
    · exact absurd (nI_le (show n ≤ r by omega) (by omega)) c_1
  | succ d ih =>
    intro r U Z hj hk H locs ls hP hD hS hl
    have hpr := hpv r (by omega)
    refine lv_iload_n hx hb d_ks_keep_2 rfl (lv_at hl 2 rfl) ?_
    refine lv_iload_n hx hb d_ks_keep_3 rfl (lv_at hl 1 rfl) ?_
    refine lv_icmp_ge (tgt := 78) hx hb d_ks_keep_4 (by decide) (fun c_2 => ?_) (fun c_2 => ?_)
    · exact absurd c_2 (nI_ge (show r < n by omega) (by omega))
    · refine lv_aload_n hx hb d_ks_keep_7 rfl (lv_at hl 0 rfl) ?_
      refine va_get (D := (dC, dI)) (ci := 2) (v := .ref pv) (C := R_ks) (T := F_ks) (N := 6) hx hb hT i_ks hown hK hP 0 rfl rfl 2 (by decide) (hT _ k_80) (fun _ h9 => h9) rfl d_ks_keep_8 ?_
      refine lv_iload_n hx hb d_ks_keep_11 rfl (lv_at hl 2 rfl) ?_
      refine va_ialdN (i := r) hx hb hK hP 3 2 rfl rfl ⟨by omega, by decide⟩ d_ks_keep_12 ?_
      refine lv_istore_n (lv' := [(3, .int (fp r)), (0, .ref a_s), (1, .int (nI n)), (2, .int (nI r))]) hx hb d_ks_keep_13 rfl hl (by decide) rfl (fun ls hl => ?_)
      refine lv_aload_n hx hb d_ks_keep_14 rfl (lv_at hl 1 rfl) ?_
      refine va_get (D := (dC, dI)) (ci := 2) (v := .ref w0) (C := R_ks) (T := F_ks) (N := 6) hx hb hT i_ks hown hK hP 0 rfl rfl 1 (by decide) (hT _ k_79) (fun _ h9 => h9) rfl d_ks_keep_15 ?_
      refine lv_iload_n hx hb d_ks_keep_18 rfl (lv_at hl 3 rfl) ?_
      refine kx_aldN hx hb hK hP 2 1 rfl rfl (show r < 4 by omega) d_ks_keep_19 ?_
      refine lv_iconst (v := 4) hx hb d_ks_keep_20 (by decide) ?_
      refine va_laldN (i := 4) hx hb hK hP (10 + r) 6 (ks_w (show r < 4 by omega)) rfl ⟨by decide, by decide⟩ d_ks_keep_21 ?_
      refine lv_lstore (lv' := [(4, .long (Wm r 4)), (3, .int (fp r)), (0, .ref a_s), (1, .int (nI n)), (2, .int (nI r))]) hx hb d_ks_keep_22 hl (by decide) rfl (fun ls hl => ?_)
      refine lv_aload_n hx hb d_ks_keep_24 rfl (lv_at hl 2 rfl) ?_
      refine va_get (D := (dC, dI)) (ci := 2) (v := .ref w0) (C := R_ks) (T := F_ks) (N := 6) hx hb hT i_ks hown hK hP 0 rfl rfl 1 (by decide) (hT _ k_79) (fun _ h9 => h9) rfl d_ks_keep_25 ?_
      refine lv_iload_n hx hb d_ks_keep_28 rfl (lv_at hl 4 rfl) ?_
      refine kx_aldN hx hb hK hP 2 1 rfl rfl (show r < 4 by omega) d_ks_keep_29 ?_
      refine lv_iload_n hx hb d_ks_keep_30 rfl (lv_at hl 1 rfl) ?_
      refine va_lald hx hb hK hP (10 + r) 6 (ks_w (show r < 4 by omega)) rfl (in_45 hpr) d_ks_keep_31 ?_
      refine lv_lstore (lv' := [(6, .long (Wm r ((fp r).toNatClampNeg))), (4, .long (Wm r 4)), (3, .int (fp r)), (0, .ref a_s), (1, .int (nI n)), (2, .int (nI r))]) hx hb d_ks_keep_32 hl (by decide) rfl (fun ls hl => ?_)
      refine lv_lload hx hb d_ks_keep_34 (lv_at hl 1 rfl) ?_
      refine lv_lload hx hb d_ks_keep_36 (lv_at hl 0 rfl) ?_
      refine vp_callSl (va_runSN (As := [.long (Wm r 4), .long (Wm r ((fp r).toNatClampNeg))]) (rest := []) ⟨hx, hb, hml, hown, hT⟩ (c_kr_gcd l (Wm r 4) (Wm r ((fp r).toNatClampNeg))) ⟨va_cnB 2 hT (kt_G k_10) rfl rfl rfl (hN _ n_4) (hT _ k_11) (by decide +kernel) ⟨Nat.le_trans (Nat.le_of_ble_eq_true rfl) hRf, Nat.le_trans (Nat.le_of_ble_eq_true rfl) hRl⟩, hT _ k_12, trivial⟩ ⟨bl_S, fun U hU hW => ⟨rfl, trivial⟩⟩ rfl rfl hl.1 rfl (lv_room (Nat.le_of_ble_eq_true rfl)) d_ks_keep_38 ⟨Nat.zero_le _, Nat.zero_le _⟩).run (fun r_3 e_r_3 => ?_)
      subst e_r_3
      refine lv_lstore (lv' := [(8, .long (f_kr_gcd (Wm r 4) (Wm r ((fp r).toNatClampNeg)))), (6, .long (Wm r ((fp r).toNatClampNeg))), (4, .long (Wm r 4)), (3, .int (fp r)), (0, .ref a_s), (1, .int (nI n)), (2, .int (nI r))]) hx hb d_ks_keep_41 hl (by decide) rfl (fun ls hl => ?_)
      refine lv_lload hx hb d_ks_keep_43 (lv_at hl 0 rfl) ?_
      refine lv_lconst (v := 0) hx hb d_ks_keep_45 (by decide) ?_
      refine lx_ifeq (tgt := 72) hx hb d_ks_keep_46 d_ks_keep_47 (by decide) (fun c_4 => ?_) (fun c_4 => ?_)
      · refine lv_iinc (v := (nI r) + 1) (lv' := [(2, .int ((nI r) + 1)), (8, .long (f_kr_gcd (Wm r 4) (Wm r ((fp r).toNatClampNeg)))), (6, .long (Wm r ((fp r).toNatClampNeg))), (4, .long (Wm r 4)), (3, .int (fp r)), (0, .ref a_s), (1, .int (nI n))]) hx hb d_ks_keep_72 hl (k := 6) rfl rfl (by decide) rfl (fun ls hl => ?_)
        refine lv_goto (tgt := 2) hx hb d_ks_keep_75 (by decide) ?_
        exact ih (r + 1) _ _ (by omega) (by rw [kaL, if_pos c_4] at hk; exact hk) H locs ls hP hD hS (by have h9 := lv_sub hl [5, 6, 0] rfl; rw [nI_1] at h9; exact h9)
      · refine lv_aload_n hx hb d_ks_keep_50 rfl (lv_at hl 4 rfl) ?_
        refine va_get (D := (dC, dI)) (ci := 2) (v := .ref su) (C := R_ks) (T := F_ks) (N := 6) hx hb hT i_ks hown hK hP 0 rfl rfl 3 (by decide) (hT _ k_78) (fun _ h9 => h9) rfl d_ks_keep_51 ?_
        refine lv_iload_n hx hb d_ks_keep_54 rfl (lv_at hl 3 rfl) ?_
        refine lv_lload hx hb d_ks_keep_55 (lv_at hl 2 rfl) ?_
        refine lv_lload hx hb d_ks_keep_57 (lv_at hl 0 rfl) ?_
        refine lv_ldiv hx hb d_ks_keep_59 c_4 ?_
        refine va_last hx hb hK hP hD hS 4 3 rfl rfl hpr d_ks_keep_60 (fun H locs hP hD hS => ?_)
        have hP : va_P (dC, dI) classes (ks_ws a_s e0 w0 pv su sl er wr cE cW cP cSu cSl cI cJ fp (vp_updL U ((fp r).toNatClampNeg) ((Wm r 4) / (f_kr_gcd (Wm r 4) (Wm r ((fp r).toNatClampNeg))))) Z E Wm ans) H := hP
        have hD : va_D A (ks_ws a_s e0 w0 pv su sl er wr cE cW cP cSu cSl cI cJ fp (vp_updL U ((fp r).toNatClampNeg) ((Wm r 4) / (f_kr_gcd (Wm r 4) (Wm r ((fp r).toNatClampNeg))))) Z E Wm ans) := hD
        refine lv_aload_n hx hb d_ks_keep_61 rfl (lv_at hl 4 rfl) ?_
        refine va_get (D := (dC, dI)) (ci := 2) (v := .ref sl) (C := R_ks) (T := F_ks) (N := 6) hx hb hT i_ks hown hK hP 0 rfl rfl 4 (by decide) (hT _ k_77) (fun _ h9 => h9) rfl d_ks_keep_62 ?_
        refine lv_iload_n hx hb d_ks_keep_65 rfl (lv_at hl 3 rfl) ?_
        refine lv_lload hx hb d_ks_keep_66 (lv_at hl 1 rfl) ?_
        refine lv_lload hx hb d_ks_keep_68 (lv_at hl 0 rfl) ?_
        refine lv_ldiv hx hb d_ks_keep_70 c_4 ?_
        refine va_last hx hb hK hP hD hS 5 4 rfl rfl hpr d_ks_keep_71 (fun H locs hP hD hS => ?_)
        have hP : va_P (dC, dI) classes (ks_ws a_s e0 w0 pv su sl er wr cE cW cP cSu cSl cI cJ fp (vp_updL U ((fp r).toNatClampNeg) ((Wm r 4) / (f_kr_gcd (Wm r 4) (Wm r ((fp r).toNatClampNeg))))) (vp_updL Z ((fp r).toNatClampNeg) ((Wm r ((fp r).toNatClampNeg)) / (f_kr_gcd (Wm r 4) (Wm r ((fp r).toNatClampNeg))))) E Wm ans) H := hP
        have hD : va_D A (ks_ws a_s e0 w0 pv su sl er wr cE cW cP cSu cSl cI cJ fp (vp_updL U ((fp r).toNatClampNeg) ((Wm r 4) / (f_kr_gcd (Wm r 4) (Wm r ((fp r).toNatClampNeg))))) (vp_updL Z ((fp r).toNatClampNeg) ((Wm r ((fp r).toNatClampNeg)) / (f_kr_gcd (Wm r 4) (Wm r ((fp r).toNatClampNeg))))) E Wm ans) := hD
        refine lv_iinc (v := (nI r) + 1) (lv' := [(2, .int ((nI r) + 1)), (8, .long (f_kr_gcd (Wm r 4) (Wm r ((fp r).toNatClampNeg)))), (6, .long (Wm r ((fp r).toNatClampNeg))), (4, .long (Wm r 4)), (3, .int (fp r)), (0, .ref a_s), (1, .int (nI n))]) hx hb d_ks_keep_72 hl (k := 6) rfl rfl (by decide) rfl (fun ls hl => ?_)
        refine lv_goto (tgt := 2) hx hb d_ks_keep_75 (by decide) ?_
        exact ih (r + 1) _ _ (by omega) (by rw [kaL, if_neg c_4] at hk; exact hk) H locs ls hP hD hS (by have h9 := lv_sub hl [5, 6, 0] rfl; rw [nI_1] at h9; exact h9)
def f_ks_keep (fp : Nat → Int32) (fsu : Nat → Int64) (fsl : Nat → Int64) (Wm : Nat → Nat → Int64) (n : Nat) : (Nat → Int64) × (Nat → Int64) × Int32 :=
  ((kaL fp Wm n 0 fsu fsl).1, (kaL fp Wm n 0 fsu fsl).2, (nI n))
set_option maxHeartbeats 4000000 in
set_option maxRecDepth 100000 in
theorem c_ks_keep (l : Launch) (dC : Nat → ClassId) (dI : Nat → Nat → Nat) (sz : Nat) (a_s : Nat) (e0 : Nat) (w0 : Nat) (pv : Nat) (su : Nat) (sl : Nat) (er : Nat → Nat) (wr : Nat → Nat) (ans : Int32) (cE : ClassId) (cW : ClassId) (cP : ClassId) (fp : Nat → Int32) (cSu : ClassId) (fsu : Nat → Int64) (cSl : ClassId) (fsl : Nat → Int64) (cI : ClassId) (E : Nat → Nat → Int32) (cJ : ClassId) (Wm : Nat → Nat → Int64) (n : Nat) (hn : n ≤ 4) (hpv : ∀ i, i < n → vp_in (fp i) 4) : Met l y_ks_keep w_ks_keep ({ frames := 1, cells := 0, slots := 0, locals := 30 }) (va_Pc [.ref a_s, .int (nI n)] (fun U => U.heap.size = sz ∧ va_P (dC, dI) classes (ks_ws a_s e0 w0 pv su sl er wr cE cW cP cSu cSl cI cJ fp fsu fsl E Wm ans) U.heap ∧ va_K (dC, dI) classes [(cE, .array .int), (cW, .array .long), (cP, .int), (cSu, .long), (cSl, .long), (cI, .int), (cJ, .long)] U ∧ va_D (fun _ => True) (ks_ws a_s e0 w0 pv su sl er wr cE cW cP cSu cSl cI cJ fp fsu fsl E Wm ans) ∧ kt_N U)) (va_Qv (fun u9 => u9 = f_ks_keep fp fsu fsl Wm n) (fun (u : (Nat → Int64) × (Nat → Int64) × Int32) t => match u with | (fsu', fsl', ans') => va_P (dC, dI) classes (ks_ws a_s e0 w0 pv su sl er wr cE cW cP cSu cSl cI cJ fp fsu' fsl' E Wm ans') t.heap ∧ va_K (dC, dI) classes [(cE, .array .int), (cW, .array .long), (cP, .int), (cSu, .long), (cSl, .long), (cI, .int), (cJ, .long)] t ∧ va_D (va_A (ks_ws a_s e0 w0 pv su sl er wr cE cW cP cSu cSl cI cJ fp fsu fsl E Wm ans) sz) (ks_ws a_s e0 w0 pv su sl er wr cE cW cP cSu cSl cI cJ fp fsu' fsl' E Wm ans')) (va_A (ks_ws a_s e0 w0 pv su sl er wr cE cW cP cSu cSl cI cJ fp fsu fsl E Wm ans) sz)) 0 0 (va_A (ks_ws a_s e0 w0 pv su sl er wr cE cW cP cSu cSl cI cJ fp fsu fsl E Wm ans) sz) := by
  refine Met.ofW (cc := b_ks_keep) (maxL := 10) (ret := none) (by decide +kernel) rfl ?_
  intro p e s m args below meth c s₁ B hml hv
  obtain ⟨rfl, hsz, hP, hK, hD0, hN⟩ := hv
  have hx := B.exec
  have hb := B.bytes
  have hr := B.returns
  have hts := atoms_spec (ws := w_ks_keep) B.pre
  have hT := fun (w : Cond) (h : w ∈ kt_T) => hts w (List.mem_cons_of_mem _ h)
  have hown : s.vm.findClass R_ks = some m.cls := findClass_of_methodNamed B.named
  have hlocks := B.notSynchronized
  subst hsz
  have hD := hD0.self (sz := s.heap.size)
  generalize hAe : va_A (ks_ws a_s e0 w0 pv su sl er wr cE cW cP cSu cSl cI cJ fp fsu fsl E Wm ans) s.heap.size = A at hD ⊢
  have hA : ∀ q : Nat, s.heap.size ≤ q → A q := fun q h => by rw [← hAe]; exact Or.inr h
  have hS : va_S A s.heap s.heap [] := va_S.rf
  have hl := lv_entry ([.ref a_s, .int (nI n)]) (n := 10) (Nat.le_of_ble_eq_true rfl)
  rw [lg_entry_eq]
  generalize (lg_sl ([.ref a_s, .int (nI n)]) ++ List.replicate (10 - (lg_sl ([.ref a_s, .int (nI n)])).length) Slot.unset).toArray = ls at hl ⊢
  have hl : lv_has ls 10 [(0, .ref a_s), (1, .int (nI n))] := hl
  refine lv_iconst (v := 0) hx hb d_ks_keep_0 (by decide) ?_
  refine lv_istore_n (lv' := [(2, .int 0), (0, .ref a_s), (1, .int (nI n))]) hx hb d_ks_keep_1 rfl hl (by decide) rfl (fun ls hl => ?_)
  refine lp_ks_keep hx hb hml hown hT hA hK hN (Nat.le_of_ble_eq_true rfl) (Nat.le_of_ble_eq_true rfl) hn hpv n 0 fsu fsl (Nat.zero_add _) (fun H locs ls hP hD hS hl => ?_) s.heap [] ls hP hD hS (lv_sub hl [1, 2, 0] rfl)
  refine lv_aload_n hx hb d_ks_keep_78 rfl (lv_at hl 0 rfl) ?_
  refine lv_iload_n hx hb d_ks_keep_79 rfl (lv_at hl 1 rfl) ?_
  refine va_put (D := (dC, dI)) (ci := 2) (v := .int (nI n)) (ty := .int) (C := R_ks) (T := F_ks) (N := 6) hx hb hT i_ks t_ks t_ks_ok n_ks hown hK hP hD hS 0 rfl rfl 5 (by decide) (hT _ k_76) (fun _ h9 => h9) rfl (by decide +kernel) rfl rfl (Nat.le_of_ble_eq_true rfl) d_ks_keep_80 (fun H locs hP hD hS => ?_)
  have hP : va_P (dC, dI) classes (ks_ws a_s e0 w0 pv su sl er wr cE cW cP cSu cSl cI cJ fp ((kaL fp Wm n 0 fsu fsl).1) ((kaL fp Wm n 0 fsu fsl).2) E Wm (nI n)) H := hP
  have hD : va_D A (ks_ws a_s e0 w0 pv su sl er wr cE cW cP cSu cSl cI cJ fp ((kaL fp Wm n 0 fsu fsl).1) ((kaL fp Wm n 0 fsu fsl).2) E Wm (nI n)) := hD
  exact W.vret hx hb hr (fun t ht hW => ⟨⟨((kaL fp Wm n 0 fsu fsl).1, (kaL fp Wm n 0 fsu fsl).2, (nI n)), rfl, rfl, by rw [ht]; exact hP, va_K.moved hW.alike hK, hD⟩, hS.F ht⟩) hS.2.2 d_ks_keep_83
/-- the other rows are cleared: k are left, from o on -/
def soI (r q : Nat) (bf : Int64) : Nat → Nat → (Nat → Nat → Int64) → Nat → Nat → Int64
  | 0, _, X => X
  | k + 1, o, X => if o = r then soI r q bf k (o + 1) X else soI r q bf k (o + 1) (f_ks_elim X o r q bf)
/-- the elimination: d rows are left, from r on; behind it the answer (0: solved), the numbers, the pivots -/
def soL (n : Nat) : Nat → Nat → Int64 → (Nat → Nat → Int64) → (Nat → Int32) → Int32 × (Nat → Nat → Int64) × (Nat → Int32)
  | 0, _, _, X, P => (0, X, P)
  | d + 1, r, bf, X, P => if f_ks_pivot X r n = -1 then (nI r + 1, X, P)
    else soL n d (r + 1) (soI r (f_ks_pivot X r n).toNatClampNeg bf n 0 X r (f_ks_pivot X r n).toNatClampNeg) (soI r (f_ks_pivot X r n).toNatClampNeg bf n 0 X) (upd P r (f_ks_pivot X r n))
theorem pvL_or (f : Nat → Int64) : ∀ (n j : Nat), pvL f n j = -1 ∨ ∃ q, q < j + n ∧ j ≤ q ∧ pvL f n j = nI q
  | 0, _ => Or.inl rfl
  | n + 1, j => by
    unfold pvL
    split
    · rcases pvL_or f n (j + 1) with h | ⟨q, h1, h2, h3⟩
      · exact Or.inl h
      · exact Or.inr ⟨q, by omega, by omega, h3⟩
    · exact Or.inr ⟨j, by omega, Nat.le_refl _, rfl⟩
theorem pv_some {X : Nat → Nat → Int64} {r n : Nat} (h : ¬ f_ks_pivot X r n = -1) : ∃ q, q < n ∧ f_ks_pivot X r n = nI q := by
  rcases pvL_or (X r) n 0 with h1 | ⟨q, h1, -, h3⟩
  · exact absurd h1 h
  · exact ⟨q, by omega, h3⟩
theorem nI_s4 {r : Nat} (h : r < 4) : ¬ nI r + 1 = 0 := by
  rw [nI_1]
  exact nI_ne0 (by omega) (by omega)
set_option maxHeartbeats 4000000 in
theorem lp_ks_soI {p : Program} {l : Launch} {e : Env} {R : Room} {s : State} {m : MethodId} {args : Array Value} {below : List Frame} {meth : Method} {c : Code} {dC : Nat → ClassId} {dI : Nat → Nat → Nat} {A : Nat → Prop} {Q : State → Prop} {a_s : Nat} {e0 : Nat} {w0 : Nat} {pv : Nat} {su : Nat} {sl : Nat} {er : Nat → Nat} {wr : Nat → Nat} {ans : Int32} {cE : ClassId} {cW : ClassId} {cP : ClassId} {fp : Nat → Int32} {cSu : ClassId} {fsu : Nat → Int64} {cSl : ClassId} {fsl : Nat → Int64} {cI : ClassId} {E : Nat → Nat → Int32} {cJ : ClassId} (hx : p.tables.exec = Jvm.exec) (hb : c.code = b_ks_solve) (hml : c.maxLocals = 7) (hown : s.vm.findClass R_ks = some m.cls) (hT : ∀ w ∈ kt_T, w.before args s = true) (hA : ∀ q : Nat, s.heap.size ≤ q → A q) (hK : va_K (dC, dI) classes [(cE, .array .int), (cW, .array .long), (cP, .int), (cSu, .long), (cSl, .long), (cI, .int), (cJ, .long)] s) {n r q : Nat} {bf : Int64} (hN : kt_N s) (hRf : 1 ≤ R.frames) (hRl : 30 ≤ R.locals) (hn : n ≤ 4) (hr4 : r < 4) (hq4 : q < n) :
    ∀ (k o : Nat) (X : Nat → Nat → Int64), o + k = n → (∀ (H : Heap) (locs : List Loc) (ls : Array Slot), va_P (dC, dI) classes (ks_ws a_s e0 w0 pv su sl er wr cE cW cP cSu cSl cI cJ fp fsu fsl E (soI r q bf k o X) ans) H → va_D A (ks_ws a_s e0 w0 pv su sl er wr cE cW cP cSu cSl cI cJ fp fsu fsl E (soI r q bf k o X) ans) → va_S A s.heap H locs → lv_has ls 7 [(0, .ref a_s), (1, .int (nI n)), (2, .long bf), (4, .int (nI r)), (5, .int (nI q))] → W p l e R s m args below meth c H locs 0 0 Q (F0 m 81 ls [])) → ∀ (H : Heap) (locs : List Loc) (ls : Array Slot), va_P (dC, dI) classes (ks_ws a_s e0 w0 pv su sl er wr cE cW cP cSu cSl cI cJ fp fsu fsl E X ans) H → va_D A (ks_ws a_s e0 w0 pv su sl er wr cE cW cP cSu cSl cI cJ fp fsu fsl E X ans) → va_S A s.heap H locs → lv_has ls 7 [(0, .ref a_s), (1, .int (nI n)), (2, .long bf), (4, .int (nI r)), (5, .int (nI q)), (6, .int (nI o))] → W p l e R s m args below meth c H locs 0 0 Q (F0 m 51 ls []) := by
  intro k
  induction k with
  | zero =>
    intro o X hj hk H locs ls hP hD hS hl
    refine lv_iload hx hb d_ks_solve_51 (lv_at hl 5 rfl) ?_
    refine lv_iload_n hx hb d_ks_solve_53 rfl (lv_at hl 1 rfl) ?_
    refine lv_icmp_ge (tgt := 81) hx hb d_ks_solve_54 (by decide) (fun c_1 => ?_) (fun c_1 => ?_)
    · exact hk H locs ls hP hD hS (lv_sub hl [0, 1, 2, 3, 4] rfl)
    · exact absurd (nI_le (show n ≤ o by omega) (by omega)) c_1
  | succ k ih =>
    intro o X hj hk H locs ls hP hD hS hl
    refine lv_iload hx hb d_ks_solve_51 (lv_at hl 5 rfl) ?_
    refine lv_iload_n hx hb d_ks_solve_53 rfl (lv_at hl 1 rfl) ?_
    refine lv_icmp_ge (tgt := 81) hx hb d_ks_solve_54 (by decide) (fun c_2 => ?_) (fun c_2 => ?_)
    · exact absurd c_2 (nI_ge (show o < n by omega) (by omega))
    · refine lv_iload hx hb d_ks_solve_57 (lv_at hl 5 rfl) ?_
      refine lv_iload hx hb d_ks_solve_59 (lv_at hl 3 rfl) ?_
      refine lv_icmp_eq (tgt := 75) hx hb d_ks_solve_61 (by decide) (fun c_3 => ?_) (fun c_3 => ?_)
      · refine lv_iinc (v := (nI o) + 1) (lv' := [(6, .int ((nI o) + 1)), (0, .ref a_s), (1, .int (nI n)), (2, .long bf), (4, .int (nI r)), (5, .int (nI q))]) hx hb d_ks_solve_75 hl (k := 5) rfl rfl (by decide) rfl (fun ls hl => ?_)
        refine lv_goto (tgt := 51) hx hb d_ks_solve_78 (by decide) ?_
        exact ih (o + 1) _ (by omega) (by rw [soI, if_pos (show o = r from (nI_eq (by omega) (by omega)).mp c_3)] at hk; exact hk) H locs ls hP hD hS (by have h9 := lv_sub hl [1, 2, 3, 4, 5, 0] rfl; rw [nI_1] at h9; exact h9)
      · refine lv_aload_n hx hb d_ks_solve_64 rfl (lv_at hl 0 rfl) ?_
        refine lv_iload hx hb d_ks_solve_65 (lv_at hl 5 rfl) ?_
        refine lv_iload hx hb d_ks_solve_67 (lv_at hl 3 rfl) ?_
        refine lv_iload hx hb d_ks_solve_69 (lv_at hl 4 rfl) ?_
        refine lv_lload_n hx hb d_ks_solve_71 rfl (lv_at hl 2 rfl) ?_
        have hPc := hP.sub (ws' := (ks_ws a_s e0 w0 pv su sl er wr cE cW cP cSu cSl cI cJ fp fsu fsl E X ans)) [0, 1, 2, 3, 4, 5, 6, 7, 8, 9, 10, 11, 12, 13] rfl
        have hKc := hK.sub (tys' := [(cE, .array .int), (cW, .array .long), (cP, .int), (cSu, .long), (cSl, .long), (cI, .int), (cJ, .long)]) [0, 1, 2, 3, 4, 5, 6] rfl
        have hDc := hD.sub (ws' := (ks_ws a_s e0 w0 pv su sl er wr cE cW cP cSu cSl cI cJ fp fsu fsl E X ans)) [0, 1, 2, 3, 4, 5, 6, 7, 8, 9, 10, 11, 12, 13] (by decide) rfl
        have hFc := va_free (wc := (ks_ws a_s e0 w0 pv su sl er wr cE cW cP cSu cSl cI cJ fp fsu fsl E X ans)) hD hS hA [0, 1, 2, 3, 4, 5, 6, 7, 8, 9, 10, 11, 12, 13] rfl
        refine va_callv (va_runV (As := [.int (nI o), .int (nI r), .int (nI q), .long bf]) (rest := []) ⟨hx, hb, hml, hown, hT⟩ (c_ks_elim l dC dI H.size a_s e0 w0 pv su sl er wr ans cE cW cP fp cSu fsu cSl fsl cI E cJ X o r q bf (show o < 4 by omega) hr4 (show q < 5 by omega)) (cwV 4 hT (kt_V k_85 k_83 k_84 k_82 k_81) rfl rfl rfl (by decide +kernel) ⟨Nat.le_trans (Nat.le_of_ble_eq_true rfl) hRf, Nat.le_trans (Nat.le_of_ble_eq_true rfl) hRl⟩) ⟨bl_M, va_recv hKc hPc (ci := 2) (q0 := 0) rfl rfl, fun U hU hW => ⟨rfl, by rw [hU], by rw [hU]; exact hPc, va_K.moved hW.alike hKc, hDc.weaken (fun _ _ _ _ => trivial)⟩⟩ rfl rfl hl.1 rfl (lv_room (Nat.le_of_ble_eq_true rfl)) d_ks_solve_72 ⟨Nat.zero_le _, Nat.zero_le _⟩) hS (fun q _ h => hFc q h) hFc (fun u t H1 locs ht hvm hw hB hz1 hk1 hS => ?_)
        obtain ⟨Wm_4, rfl⟩ : ∃ z, z = u := ⟨_, rfl⟩
        obtain ⟨hP1, hK1, hD1⟩ := hB
        rw [ht] at hP1
        obtain ⟨hP, hD⟩ := va_join (wr := []) (w1 := (ks_ws a_s e0 w0 pv su sl er wr cE cW cP cSu cSl cI cJ fp fsu fsl E Wm_4 ans)) hP hD [0, 1, 2, 3, 4, 5, 6, 7, 8, 9, 10, 11, 12, 13] [] rfl rfl (by decide) (by decide) hk1 hFc hP1 hD1
        generalize H1 = H at hP hS ⊢
        have hP := hP.sub (ws' := (ks_ws a_s e0 w0 pv su sl er wr cE cW cP cSu cSl cI cJ fp fsu fsl E Wm_4 ans)) [0, 1, 2, 3, 4, 5, 6, 7, 8, 9, 10, 11, 12, 13] rfl
        have hD := hD.sub (ws' := (ks_ws a_s e0 w0 pv su sl er wr cE cW cP cSu cSl cI cJ fp fsu fsl E Wm_4 ans)) [0, 1, 2, 3, 4, 5, 6, 7, 8, 9, 10, 11, 12, 13] (by decide) rfl
        subst hw
        clear hP1 hK1 hD1 hk1 hz1 hFc hDc hPc hKc
        refine lv_iinc (v := (nI o) + 1) (lv' := [(6, .int ((nI o) + 1)), (0, .ref a_s), (1, .int (nI n)), (2, .long bf), (4, .int (nI r)), (5, .int (nI q))]) hx hb d_ks_solve_75 hl (k := 5) rfl rfl (by decide) rfl (fun ls hl => ?_)
        refine lv_goto (tgt := 51) hx hb d_ks_solve_78 (by decide) ?_
        exact ih (o + 1) _ (by omega) (by rw [soI, if_neg (fun h9 : o = r => c_3 (congrArg nI h9))] at hk; exact hk) H locs ls hP hD hS (by have h9 := lv_sub hl [1, 2, 3, 4, 5, 0] rfl; rw [nI_1] at h9; exact h9)
set_option maxHeartbeats 4000000 in
theorem lp_ks_soL {p : Program} {l : Launch} {e : Env} {R : Room} {s : State} {m : MethodId} {args : Array Value} {below : List Frame} {meth : Method} {c : Code} {dC : Nat → ClassId} {dI : Nat → Nat → Nat} {A : Nat → Prop} {Q : State → Prop} {a_s : Nat} {e0 : Nat} {w0 : Nat} {pv : Nat} {su : Nat} {sl : Nat} {er : Nat → Nat} {wr : Nat → Nat} {ans : Int32} {cE : ClassId} {cW : ClassId} {cP : ClassId} {cSu : ClassId} {fsu : Nat → Int64} {cSl : ClassId} {fsl : Nat → Int64} {cI : ClassId} {E : Nat → Nat → Int32} {cJ : ClassId} (hx : p.tables.exec = Jvm.exec) (hb : c.code = b_ks_solve) (hml : c.maxLocals = 7) (hown : s.vm.findClass R_ks = some m.cls) (hT : ∀ w ∈ kt_T, w.before args s = true) (hA : ∀ q : Nat, s.heap.size ≤ q → A q) (hK : va_K (dC, dI) classes [(cE, .array .int), (cW, .array .long), (cP, .int), (cSu, .long), (cSl, .long), (cI, .int), (cJ, .long)] s) {n : Nat} (hN : kt_N s) (hRf : 1 ≤ R.frames) (hRl : 30 ≤ R.locals) (hn : n ≤ 4) :
    ∀ (d r : Nat) (bf : Int64) (X : Nat → Nat → Int64) (P : Nat → Int32), r + d = n → (∀ i, i < r → vp_in (P i) 4) → (∀ (Y : Nat → Nat → Int64) (P2 : Nat → Int32), soL n d r bf X P = (0, Y, P2) → (∀ i, i < n → vp_in (P2 i) 4) → ∀ (H : Heap) (locs : List Loc) (ls : Array Slot), va_P (dC, dI) classes (ks_ws a_s e0 w0 pv su sl er wr cE cW cP cSu cSl cI cJ P2 fsu fsl E Y ans) H → va_D A (ks_ws a_s e0 w0 pv su sl er wr cE cW cP cSu cSl cI cJ P2 fsu fsl E Y ans) → va_S A s.heap H locs → lv_has ls 7 [(0, .ref a_s), (1, .int (nI n))] → W p l e R s m args below meth c H locs 0 0 Q (F0 m 107 ls [])) → (∀ (v : Int32) (Y : Nat → Nat → Int64) (P2 : Nat → Int32), ¬ v = 0 → soL n d r bf X P = (v, Y, P2) → ∀ (H : Heap) (locs : List Loc) (ls : Array Slot), va_P (dC, dI) classes (ks_ws a_s e0 w0 pv su sl er wr cE cW cP cSu cSl cI cJ P2 fsu fsl E Y ans) H → va_D A (ks_ws a_s e0 w0 pv su sl er wr cE cW cP cSu cSl cI cJ P2 fsu fsl E Y ans) → va_S A s.heap H locs → ls.size = 7 → W p l e R s m args below meth c H locs 0 0 Q (F0 m 47 ls [.int v])) → ∀ (H : Heap) (locs : List Loc) (ls : Array Slot), va_P (dC, dI) classes (ks_ws a_s e0 w0 pv su sl er wr cE cW cP cSu cSl cI cJ P fsu fsl E X ans) H → va_D A (ks_ws a_s e0 w0 pv su sl er wr cE cW cP cSu cSl cI cJ P fsu fsl E X ans) → va_S A s.heap H locs → lv_has ls 7 [(0, .ref a_s), (1, .int (nI n)), (2, .long bf), (4, .int (nI r))] → W p l e R s m args below meth c H locs 0 0 Q (F0 m 22 ls []) := by
  intro d
  induction d with
  | zero =>
    intro r bf X P hj hpr hk hk1 H locs ls hP hD hS hl
    refine lv_iload hx hb d_ks_solve_22 (lv_at hl 3 rfl) ?_
    refine lv_iload_n hx hb d_ks_solve_24 rfl (lv_at hl 1 rfl) ?_
    refine lv_icmp_ge (tgt := 107) hx hb d_ks_solve_25 (by decide) (fun c_5 => ?_) (fun c_5 => ?_)
    · exact hk X P rfl (fun i hi => hpr i (by omega)) H locs ls hP hD hS (lv_sub hl [0, 1] rfl)
    · exact absurd (nI_le (show n ≤ r by omega) (by omega)) c_5
  | succ d ih =>
    intro r bf X P hj hpr hk hk1 H locs ls hP hD hS hl
    refine lv_iload hx hb d_ks_solve_22 (lv_at hl 3 rfl) ?_
    refine lv_iload_n hx hb d_ks_solve_24 rfl (lv_at hl 1 rfl) ?_
    refine lv_icmp_ge (tgt := 107) hx hb d_ks_solve_25 (by decide) (fun c_6 => ?_) (fun c_6 => ?_)
    · exact absurd c_6 (nI_ge (show r < n by omega) (by omega))
    · refine lv_aload_n hx hb d_ks_solve_28 rfl (lv_at hl 0 rfl) ?_
      refine lv_iload hx hb d_ks_solve_29 (lv_at hl 3 rfl) ?_
      refine lv_iload_n hx hb d_ks_solve_31 rfl (lv_at hl 1 rfl) ?_
      have hPc := hP.sub (ws' := (ks_ws a_s e0 w0 pv su sl er wr cE cW cP cSu cSl cI cJ P fsu fsl E X ans)) [0, 1, 2, 3, 4, 5, 6, 7, 8, 9, 10, 11, 12, 13] rfl
      have hKc := hK.sub (tys' := [(cE, .array .int), (cW, .array .long), (cP, .int), (cSu, .long), (cSl, .long), (cI, .int), (cJ, .long)]) [0, 1, 2, 3, 4, 5, 6] rfl
      refine vp_callSi (W.runV (As := [.int (nI r), .int (nI n)]) (rest := []) ⟨hx, hb, hml, hown, hT⟩ (c_ks_pivot l dC dI a_s e0 w0 pv su sl er wr ans cE cW cP P cSu fsu cSl fsl cI E cJ X r n (show r < 4 by omega) hn) (cwV 2 hT (kt_V k_89 k_87 k_88 k_82 k_86) rfl rfl rfl (by decide +kernel) ⟨Nat.le_trans (Nat.le_of_ble_eq_true rfl) hRf, Nat.le_trans (Nat.le_of_ble_eq_true rfl) hRl⟩) ⟨bl_R, va_recv hKc hPc (ci := 2) (q0 := 0) rfl rfl, fun U hU hW => ⟨rfl, by rw [hU]; exact hPc, va_K.moved hW.alike hKc⟩⟩ rfl rfl hl.1 rfl (lv_room (Nat.le_of_ble_eq_true rfl)) d_ks_solve_32 ⟨Nat.zero_le _, Nat.zero_le _⟩) (fun r_7 e_r_7 => ?_)
      subst e_r_7
      refine lv_istore (lv' := [(5, .int (f_ks_pivot X r n)), (0, .ref a_s), (1, .int (nI n)), (2, .long bf), (4, .int (nI r))]) hx hb d_ks_solve_35 hl (by decide) rfl (fun ls hl => ?_)
      refine lv_iload hx hb d_ks_solve_37 (lv_at hl 0 rfl) ?_
      refine lv_iconst (v := (-1)) hx hb d_ks_solve_39 (by decide) ?_
      refine lv_icmp_ne (tgt := 48) hx hb d_ks_solve_40 (by decide) (fun c_8 => ?_) (fun c_8 => ?_)
      · refine lv_iconst (v := 0) hx hb d_ks_solve_48 (by decide) ?_
        refine lv_istore (lv' := [(6, .int 0), (5, .int (f_ks_pivot X r n)), (0, .ref a_s), (1, .int (nI n)), (2, .long bf), (4, .int (nI r))]) hx hb d_ks_solve_49 hl (by decide) rfl (fun ls hl => ?_)
        obtain ⟨q, hq4, eq9⟩ := pv_some c_8
        have hc9 := c_8
        have hl := lv_sub hl [2, 3, 4, 5, 1, 0] rfl
        rw [eq9] at hl
        refine lp_ks_soI hx hb hml hown hT hA hK hN (Nat.le_trans (Nat.le_of_ble_eq_true rfl) hRf) (Nat.le_trans (Nat.le_of_ble_eq_true rfl) hRl) hn (show r < 4 by omega) hq4 n 0 X (Nat.zero_add _) (fun H locs ls hP hD hS hl => ?_) H locs ls hP hD hS hl
        refine lv_aload_n hx hb d_ks_solve_81 rfl (lv_at hl 0 rfl) ?_
        refine va_get (D := (dC, dI)) (ci := 2) (v := .ref pv) (C := R_ks) (T := F_ks) (N := 6) hx hb hT i_ks hown hK hP 0 rfl rfl 2 (by decide) (hT _ k_80) (fun _ h9 => h9) rfl d_ks_solve_82 ?_
        refine lv_iload hx hb d_ks_solve_85 (lv_at hl 3 rfl) ?_
        refine lv_iload hx hb d_ks_solve_87 (lv_at hl 4 rfl) ?_
        refine va_iastN (i := r) hx hb hK hP hD hS 3 2 rfl rfl ⟨by omega, by decide⟩ d_ks_solve_89 (fun H locs hP hD hS => ?_)
        have hP : va_P (dC, dI) classes (ks_ws a_s e0 w0 pv su sl er wr cE cW cP cSu cSl cI cJ (upd P r (nI q)) fsu fsl E (soI r q bf n 0 X) ans) H := hP
        have hD : va_D A (ks_ws a_s e0 w0 pv su sl er wr cE cW cP cSu cSl cI cJ (upd P r (nI q)) fsu fsl E (soI r q bf n 0 X) ans) := hD
        refine lv_aload_n hx hb d_ks_solve_90 rfl (lv_at hl 0 rfl) ?_
        refine va_get (D := (dC, dI)) (ci := 2) (v := .ref w0) (C := R_ks) (T := F_ks) (N := 6) hx hb hT i_ks hown hK hP 0 rfl rfl 1 (by decide) (hT _ k_79) (fun _ h9 => h9) rfl d_ks_solve_91 ?_
        refine lv_iload hx hb d_ks_solve_94 (lv_at hl 3 rfl) ?_
        refine kx_aldN hx hb hK hP 2 1 rfl rfl (show r < 4 by omega) d_ks_solve_96 ?_
        refine lv_iload hx hb d_ks_solve_97 (lv_at hl 4 rfl) ?_
        refine va_laldN (i := q) hx hb hK hP (10 + r) 6 (ks_w (show r < 4 by omega)) rfl ⟨by omega, by decide⟩ d_ks_solve_99 ?_
        refine lv_lstore_n (lv' := [(2, .long ((soI r q bf n 0 X) r q)), (0, .ref a_s), (1, .int (nI n)), (4, .int (nI r)), (5, .int (nI q))]) hx hb d_ks_solve_100 rfl hl (by decide) rfl (fun ls hl => ?_)
        refine lv_iinc (v := (nI r) + 1) (lv' := [(4, .int ((nI r) + 1)), (2, .long ((soI r q bf n 0 X) r q)), (0, .ref a_s), (1, .int (nI n)), (5, .int (nI q))]) hx hb d_ks_solve_101 hl (k := 3) rfl rfl (by decide) rfl (fun ls hl => ?_)
        refine lv_goto (tgt := 22) hx hb d_ks_solve_104 (by decide) ?_
        refine ih (r + 1) _ _ _ (by omega) (fun i hi => ?_) (fun Y P2 e9 => hk Y P2 (by rw [soL, if_neg hc9, eq9, nI_clamp (by omega)]; exact e9)) (fun v Y P2 hv e9 => hk1 v Y P2 hv (by rw [soL, if_neg hc9, eq9, nI_clamp (by omega)]; exact e9)) H locs ls hP hD hS (by have h9 := lv_sub hl [2, 3, 1, 0] rfl; rw [nI_1] at h9; exact h9)
        by_cases hir : i = r
        · subst hir
          rw [pk_us]
          exact vp_in_nI (by omega) (by decide)
        · rw [pk_un hir]
          exact hpr i (by omega)
      · refine lv_iload hx hb d_ks_solve_43 (lv_at hl 4 rfl) ?_
        refine lv_iconst (v := 1) hx hb d_ks_solve_45 (by decide) ?_
        refine lv_iadd hx hb d_ks_solve_46 ?_
        exact hk1 _ X P (nI_s4 (by omega)) (by rw [soL, if_pos c_8]) H locs ls hP hD hS hl.1
theorem size_n {size : Int32} (h1 : ¬ size < 1) (h2 : size ≤ 4) : ∃ n, n ≤ 4 ∧ size = nI n := by
  refine nI_of2 (M := 4) (n := 4) (by decide) (fun h => h1 ?_) h2
  rw [Int32.lt_iff_toInt_lt] at h ⊢
  rw [Int32.toInt_zero] at h
  have h3 : (1 : Int32).toInt = 1 := by decide
  omega
def f_ks_solveE (n : Nat) (E : Nat → Nat → Int32) (Wm : Nat → Nat → Int64) (fp : Nat → Int32) (fsu fsl : Nat → Int64) (ans : Int32) : Int32 × (Nat → Nat → Int64) × (Nat → Int32) × (Nat → Int64) × (Nat → Int64) × Int32 :=
  if (soL n n 0 1 (f_ks_copy E Wm n) fp).1 = 0 then (0, (soL n n 0 1 (f_ks_copy E Wm n) fp).2.1, (soL n n 0 1 (f_ks_copy E Wm n) fp).2.2, f_ks_keep (soL n n 0 1 (f_ks_copy E Wm n) fp).2.2 fsu fsl (soL n n 0 1 (f_ks_copy E Wm n) fp).2.1 n)
  else ((soL n n 0 1 (f_ks_copy E Wm n) fp).1, (soL n n 0 1 (f_ks_copy E Wm n) fp).2.1, (soL n n 0 1 (f_ks_copy E Wm n) fp).2.2, fsu, fsl, ans)
def f_ks_solve (ans : Int32) (fp : Nat → Int32) (fsu : Nat → Int64) (fsl : Nat → Int64) (E : Nat → Nat → Int32) (Wm : Nat → Nat → Int64) (size : Int32) : Int32 × (Nat → Nat → Int64) × (Nat → Int32) × (Nat → Int64) × (Nat → Int64) × Int32 :=
  if size < 1 then ((-1), Wm, fp, fsu, fsl, ans) else if size ≤ 4 then (f_ks_solveE size.toNatClampNeg E Wm fp fsu fsl ans) else ((-1), Wm, fp, fsu, fsl, ans)
set_option maxHeartbeats 4000000 in
set_option maxRecDepth 100000 in
theorem c_ks_solve (l : Launch) (dC : Nat → ClassId) (dI : Nat → Nat → Nat) (sz : Nat) (a_s : Nat) (e0 : Nat) (w0 : Nat) (pv : Nat) (su : Nat) (sl : Nat) (er : Nat → Nat) (wr : Nat → Nat) (ans : Int32) (cE : ClassId) (cW : ClassId) (cP : ClassId) (fp : Nat → Int32) (cSu : ClassId) (fsu : Nat → Int64) (cSl : ClassId) (fsl : Nat → Int64) (cI : ClassId) (E : Nat → Nat → Int32) (cJ : ClassId) (Wm : Nat → Nat → Int64) (size : Int32) : Met l y_ks_solve w_ks_solve ({ frames := 2, cells := 0, slots := 0, locals := 59 }) (va_Pc [.ref a_s, .int size] (fun U => U.heap.size = sz ∧ va_P (dC, dI) classes (ks_ws a_s e0 w0 pv su sl er wr cE cW cP cSu cSl cI cJ fp fsu fsl E Wm ans) U.heap ∧ va_K (dC, dI) classes [(cE, .array .int), (cW, .array .long), (cP, .int), (cSu, .long), (cSl, .long), (cI, .int), (cJ, .long)] U ∧ va_D (fun _ => True) (ks_ws a_s e0 w0 pv su sl er wr cE cW cP cSu cSl cI cJ fp fsu fsl E Wm ans) ∧ kt_N U)) (va_Qi (fun z9 u9 => (z9, u9) = f_ks_solve ans fp fsu fsl E Wm size) (fun (u : (Nat → Nat → Int64) × (Nat → Int32) × (Nat → Int64) × (Nat → Int64) × Int32) t => match u with | (Wm', fp', fsu', fsl', ans') => va_P (dC, dI) classes (ks_ws a_s e0 w0 pv su sl er wr cE cW cP cSu cSl cI cJ fp' fsu' fsl' E Wm' ans') t.heap ∧ va_K (dC, dI) classes [(cE, .array .int), (cW, .array .long), (cP, .int), (cSu, .long), (cSl, .long), (cI, .int), (cJ, .long)] t ∧ va_D (va_A (ks_ws a_s e0 w0 pv su sl er wr cE cW cP cSu cSl cI cJ fp fsu fsl E Wm ans) sz) (ks_ws a_s e0 w0 pv su sl er wr cE cW cP cSu cSl cI cJ fp' fsu' fsl' E Wm' ans')) (va_A (ks_ws a_s e0 w0 pv su sl er wr cE cW cP cSu cSl cI cJ fp fsu fsl E Wm ans) sz)) 0 0 (va_A (ks_ws a_s e0 w0 pv su sl er wr cE cW cP cSu cSl cI cJ fp fsu fsl E Wm ans) sz) := by
  refine Met.ofW (cc := b_ks_solve) (maxL := 7) (ret := (some .int)) (by decide +kernel) rfl ?_
  intro p e s m args below meth c s₁ B hml hv
  obtain ⟨rfl, hsz, hP, hK, hD0, hN⟩ := hv
  have hx := B.exec
  have hb := B.bytes
  have hr := B.returns
  have hts := atoms_spec (ws := w_ks_solve) B.pre
  have hT := fun (w : Cond) (h : w ∈ kt_T) => hts w (List.mem_cons_of_mem _ h)
  have hown : s.vm.findClass R_ks = some m.cls := findClass_of_methodNamed B.named
  have hlocks := B.notSynchronized
  subst hsz
  have hD := hD0.self (sz := s.heap.size)
  generalize hAe : va_A (ks_ws a_s e0 w0 pv su sl er wr cE cW cP cSu cSl cI cJ fp fsu fsl E Wm ans) s.heap.size = A at hD ⊢
  have hA : ∀ q : Nat, s.heap.size ≤ q → A q := fun q h => by rw [← hAe]; exact Or.inr h
  have hS : va_S A s.heap s.heap [] := va_S.rf
  have hl := lv_entry ([.ref a_s, .int size]) (n := 7) (Nat.le_of_ble_eq_true rfl)
  rw [lg_entry_eq]
  generalize (lg_sl ([.ref a_s, .int size]) ++ List.replicate (7 - (lg_sl ([.ref a_s, .int size])).length) Slot.unset).toArray = ls at hl ⊢
  have hl : lv_has ls 7 [(0, .ref a_s), (1, .int size)] := hl
  refine lv_iload_n hx hb d_ks_solve_0 rfl (lv_at hl 1 rfl) ?_
  refine lv_iconst (v := 1) hx hb d_ks_solve_1 (by decide) ?_
  refine lv_icmp_lt (tgt := 10) hx hb d_ks_solve_2 (by decide) (fun c_1 => ?_) (fun c_1 => ?_)
  · refine lv_iconst (v := (-1)) hx hb d_ks_solve_10 (by decide) ?_
    exact W.iret (v := (-1)) hx hb hr (fun t ht hW => ⟨⟨(-1), (Wm, fp, fsu, fsl, ans), rfl, by unfold f_ks_solve; rw [if_pos c_1], by rw [ht]; exact hP, va_K.moved hW.alike hK, hD⟩, hS.F ht⟩) hS.2.2 d_ks_solve_11
  · refine lv_iload_n hx hb d_ks_solve_5 rfl (lv_at hl 1 rfl) ?_
    refine lv_iconst (v := 4) hx hb d_ks_solve_6 (by decide) ?_
    refine lv_icmp_le (tgt := 12) hx hb d_ks_solve_7 (by decide) (fun c_2 => ?_) (fun c_2 => ?_)
    · obtain ⟨n, hn, rfl⟩ := size_n c_1 c_2
      refine lv_aload_n hx hb d_ks_solve_12 rfl (lv_at hl 0 rfl) ?_
      refine lv_iload_n hx hb d_ks_solve_13 rfl (lv_at hl 1 rfl) ?_
      have hPc := hP.sub (ws' := (ks_ws a_s e0 w0 pv su sl er wr cE cW cP cSu cSl cI cJ fp fsu fsl E Wm ans)) [0, 1, 2, 3, 4, 5, 6, 7, 8, 9, 10, 11, 12, 13] rfl
      have hKc := hK.sub (tys' := [(cE, .array .int), (cW, .array .long), (cP, .int), (cSu, .long), (cSl, .long), (cI, .int), (cJ, .long)]) [0, 1, 2, 3, 4, 5, 6] rfl
      have hDc := hD.sub (ws' := (ks_ws a_s e0 w0 pv su sl er wr cE cW cP cSu cSl cI cJ fp fsu fsl E Wm ans)) [0, 1, 2, 3, 4, 5, 6, 7, 8, 9, 10, 11, 12, 13] (by decide) rfl
      have hFc := va_free (wc := (ks_ws a_s e0 w0 pv su sl er wr cE cW cP cSu cSl cI cJ fp fsu fsl E Wm ans)) hD hS hA [0, 1, 2, 3, 4, 5, 6, 7, 8, 9, 10, 11, 12, 13] rfl
      refine va_callv (va_runV (As := [.int (nI n)]) (rest := []) ⟨hx, hb, hml, hown, hT⟩ (c_ks_copy l dC dI s.heap.size a_s e0 w0 pv su sl er wr ans cE cW cP fp cSu fsu cSl fsl cI E cJ Wm n hn) (cwV 1 hT (kt_V k_93 k_91 k_92 k_82 k_90) rfl rfl rfl (by decide +kernel) ⟨Nat.le_of_ble_eq_true rfl, Nat.le_of_ble_eq_true rfl⟩) ⟨bl_M, va_recv hKc hPc (ci := 2) (q0 := 0) rfl rfl, fun U hU hW => ⟨rfl, by rw [hU], by rw [hU]; exact hPc, va_K.moved hW.alike hKc, hDc.weaken (fun _ _ _ _ => trivial)⟩⟩ rfl rfl hl.1 rfl (lv_room (Nat.le_of_ble_eq_true rfl)) d_ks_solve_14 ⟨Nat.zero_le _, Nat.zero_le _⟩) hS (fun q _ h => hFc q h) hFc (fun u t H1 locs ht hvm hw hB hz1 hk1 hS => ?_)
      obtain ⟨Wm_3, rfl⟩ : ∃ z, z = u := ⟨_, rfl⟩
      obtain ⟨hP1, hK1, hD1⟩ := hB
      rw [ht] at hP1
      obtain ⟨hP, hD⟩ := va_join (wr := []) (w1 := (ks_ws a_s e0 w0 pv su sl er wr cE cW cP cSu cSl cI cJ fp fsu fsl E Wm_3 ans)) hP hD [0, 1, 2, 3, 4, 5, 6, 7, 8, 9, 10, 11, 12, 13] [] rfl rfl (by decide) (by decide) hk1 hFc hP1 hD1
      generalize H1 = H at hP hS ⊢
      have hP := hP.sub (ws' := (ks_ws a_s e0 w0 pv su sl er wr cE cW cP cSu cSl cI cJ fp fsu fsl E Wm_3 ans)) [0, 1, 2, 3, 4, 5, 6, 7, 8, 9, 10, 11, 12, 13] rfl
      have hD := hD.sub (ws' := (ks_ws a_s e0 w0 pv su sl er wr cE cW cP cSu cSl cI cJ fp fsu fsl E Wm_3 ans)) [0, 1, 2, 3, 4, 5, 6, 7, 8, 9, 10, 11, 12, 13] (by decide) rfl
      subst hw
      clear hP1 hK1 hD1 hk1 hz1 hFc hDc hPc hKc
      refine lv_lconst (v := 1) hx hb d_ks_solve_17 (by decide) ?_
      refine lv_lstore_n (lv' := [(2, .long 1), (0, .ref a_s), (1, .int (nI n))]) hx hb d_ks_solve_18 rfl hl (by decide) rfl (fun ls hl => ?_)
      refine lv_iconst (v := 0) hx hb d_ks_solve_19 (by decide) ?_
      refine lv_istore (lv' := [(4, .int 0), (2, .long 1), (0, .ref a_s), (1, .int (nI n))]) hx hb d_ks_solve_20 hl (by decide) rfl (fun ls hl => ?_)
      refine lp_ks_soL hx hb hml hown hT hA hK hN (Nat.le_of_ble_eq_true rfl) (Nat.le_of_ble_eq_true rfl) hn n 0 1 (f_ks_copy E Wm n) fp (Nat.zero_add _) (fun i hi => absurd hi (Nat.not_lt_zero i)) (fun Y P2 e9 hpv H locs ls hP hD hS hl => ?_) (fun v Y P2 hv e9 H locs ls hP hD hS hl => ?_) H locs ls hP hD hS (lv_sub hl [2, 3, 1, 0] rfl)
      · refine lv_aload_n hx hb d_ks_solve_107 rfl (lv_at hl 0 rfl) ?_
        refine lv_iload_n hx hb d_ks_solve_108 rfl (lv_at hl 1 rfl) ?_
        have hPc := hP.sub (ws' := (ks_ws a_s e0 w0 pv su sl er wr cE cW cP cSu cSl cI cJ P2 fsu fsl E Y ans)) [0, 1, 2, 3, 4, 5, 6, 7, 8, 9, 10, 11, 12, 13] rfl
        have hKc := hK.sub (tys' := [(cE, .array .int), (cW, .array .long), (cP, .int), (cSu, .long), (cSl, .long), (cI, .int), (cJ, .long)]) [0, 1, 2, 3, 4, 5, 6] rfl
        have hDc := hD.sub (ws' := (ks_ws a_s e0 w0 pv su sl er wr cE cW cP cSu cSl cI cJ P2 fsu fsl E Y ans)) [0, 1, 2, 3, 4, 5, 6, 7, 8, 9, 10, 11, 12, 13] (by decide) rfl
        have hFc := va_free (wc := (ks_ws a_s e0 w0 pv su sl er wr cE cW cP cSu cSl cI cJ P2 fsu fsl E Y ans)) hD hS hA [0, 1, 2, 3, 4, 5, 6, 7, 8, 9, 10, 11, 12, 13] rfl
        refine va_callv (va_runV (As := [.int (nI n)]) (rest := []) ⟨hx, hb, hml, hown, hT⟩ (c_ks_keep l dC dI H.size a_s e0 w0 pv su sl er wr ans cE cW cP P2 cSu fsu cSl fsl cI E cJ Y n hn hpv) (cwV 1 hT (kt_V k_97 k_95 k_96 k_82 k_94) rfl rfl rfl (by decide +kernel) ⟨Nat.le_of_ble_eq_true rfl, Nat.le_of_ble_eq_true rfl⟩) ⟨bl_MN, va_recv hKc hPc (ci := 2) (q0 := 0) rfl rfl, fun U hU hW => ⟨rfl, by rw [hU], by rw [hU]; exact hPc, va_K.moved hW.alike hKc, hDc.weaken (fun _ _ _ _ => trivial), kt_N.warm hW hN⟩⟩ rfl rfl hl.1 rfl (lv_room (Nat.le_of_ble_eq_true rfl)) d_ks_solve_109 ⟨Nat.zero_le _, Nat.zero_le _⟩) hS (fun q _ h => hFc q h) hFc (fun u t H1 locs ht hvm hw hB hz1 hk1 hS => ?_)
        obtain ⟨fsu_4, fsl_4, ans_4⟩ := u
        obtain ⟨hP1, hK1, hD1⟩ := hB
        rw [ht] at hP1
        obtain ⟨hP, hD⟩ := va_join (wr := []) (w1 := (ks_ws a_s e0 w0 pv su sl er wr cE cW cP cSu cSl cI cJ P2 fsu_4 fsl_4 E Y ans_4)) hP hD [0, 1, 2, 3, 4, 5, 6, 7, 8, 9, 10, 11, 12, 13] [] rfl rfl (by decide) (by decide) hk1 hFc hP1 hD1
        generalize H1 = H at hP hS ⊢
        have hP := hP.sub (ws' := (ks_ws a_s e0 w0 pv su sl er wr cE cW cP cSu cSl cI cJ P2 fsu_4 fsl_4 E Y ans_4)) [0, 1, 2, 3, 4, 5, 6, 7, 8, 9, 10, 11, 12, 13] rfl
        have hD := hD.sub (ws' := (ks_ws a_s e0 w0 pv su sl er wr cE cW cP cSu cSl cI cJ P2 fsu_4 fsl_4 E Y ans_4)) [0, 1, 2, 3, 4, 5, 6, 7, 8, 9, 10, 11, 12, 13] (by decide) rfl
        have e_fsu_4 : fsu_4 = (f_ks_keep P2 fsu fsl Y n).1 := congrArg (fun z => z.1) hw
        have e_fsl_4 : fsl_4 = (f_ks_keep P2 fsu fsl Y n).2.1 := congrArg (fun z => z.2.1) hw
        have e_ans_4 : ans_4 = (f_ks_keep P2 fsu fsl Y n).2.2 := congrArg (fun z => z.2.2) hw
        subst e_fsu_4 e_fsl_4 e_ans_4
        clear hP1 hK1 hD1 hk1 hz1 hFc hDc hPc hKc
        refine lv_iconst (v := 0) hx hb d_ks_solve_112 (by decide) ?_
        exact W.iret (v := 0) hx hb hr (fun t ht hW => ⟨⟨0, (Y, P2, (f_ks_keep P2 fsu fsl Y n).1, (f_ks_keep P2 fsu fsl Y n).2.1, (f_ks_keep P2 fsu fsl Y n).2.2), rfl, by unfold f_ks_solve; rw [if_neg c_1, if_pos c_2, nI_clamp (by omega)]; unfold f_ks_solveE; rw [e9]; rfl, by rw [ht]; exact hP, va_K.moved hW.alike hK, hD⟩, hS.F ht⟩) hS.2.2 d_ks_solve_113
      · exact W.iret (v := v) hx hb hr (fun t ht hW => ⟨⟨v, (Y, P2, fsu, fsl, ans), rfl, by unfold f_ks_solve; rw [if_neg c_1, if_pos c_2, nI_clamp (by omega)]; unfold f_ks_solveE; rw [e9]; exact (if_neg hv).symm, by rw [ht]; exact hP, va_K.moved hW.alike hK, hD⟩, hS.F ht⟩) hS.2.2 d_ks_solve_47
    · refine lv_iconst (v := (-1)) hx hb d_ks_solve_10 (by decide) ?_
      exact W.iret (v := (-1)) hx hb hr (fun t ht hW => ⟨⟨(-1), (Wm, fp, fsu, fsl, ans), rfl, by unfold f_ks_solve; rw [if_neg c_1, if_neg c_2], by rw [ht]; exact hP, va_K.moved hW.alike hK, hD⟩, hS.F ht⟩) hS.2.2 d_ks_solve_11
theorem zn_ks_setEntry (E : Nat → Nat → Int32) (i j v : Int32) : narrow .boolean (.int (f_ks_setEntry E i j v).1) = .int (f_ks_setEntry E i j v).1 := by
  unfold f_ks_setEntry
  repeat' split
  all_goals first | exact (rfl : narrow .boolean (.int 0) = .int 0) | exact (rfl : narrow .boolean (.int 1) = .int 1)
def f_kr_entry (E : Nat → Nat → Int32) (i : Int32) (j : Int32) (v : Int32) : Int32 × (Nat → Nat → Int32) :=
  (f_ks_setEntry E i j v)
set_option maxHeartbeats 4000000 in
set_option maxRecDepth 100000 in
theorem c_kr_entry (l : Launch) (dC : Nat → ClassId) (dI : Nat → Nat → Nat) (sz : Nat) (ak : Nat) (a_s : Nat) (e0 : Nat) (w0 : Nat) (pv : Nat) (su : Nat) (sl : Nat) (er : Nat → Nat) (wr : Nat → Nat) (kinds : Int32) (ac : Nat) (rowc : Int32) (a0 : Nat) (a_w : Nat) (ans : Int32) (cE : ClassId) (cW : ClassId) (cP : ClassId) (fp : Nat → Int32) (cSu : ClassId) (fsu : Nat → Int64) (cSl : ClassId) (fsl : Nat → Int64) (cI : ClassId) (E : Nat → Nat → Int32) (cJ : ClassId) (Wm : Nat → Nat → Int64) (i : Int32) (j : Int32) (v : Int32) : Met l y_kr_entry w_kr_entry ({ frames := 1, cells := 0, slots := 0, locals := 23 }) (va_Pc [.ref ak, .int i, .int j, .int v] (fun U => U.heap.size = sz ∧ va_P (dC, dI) classes ((ak, .inr (0, [.int kinds, .ref ac, .int rowc, .ref a0, .ref a_s, .ref a_w])) :: ks_ws a_s e0 w0 pv su sl er wr cE cW cP cSu cSl cI cJ fp fsu fsl E Wm ans) U.heap ∧ va_K (dC, dI) classes [(cE, .array .int), (cW, .array .long), (cP, .int), (cSu, .long), (cSl, .long), (cI, .int), (cJ, .long)] U ∧ va_D (fun _ => True) ((ak, .inr (0, [.int kinds, .ref ac, .int rowc, .ref a0, .ref a_s, .ref a_w])) :: ks_ws a_s e0 w0 pv su sl er wr cE cW cP cSu cSl cI cJ fp fsu fsl E Wm ans))) (va_Qi (fun z9 u9 => (z9, u9) = f_kr_entry E i j v) (fun (u : (Nat → Nat → Int32)) t => match u with | E' => va_P (dC, dI) classes ((ak, .inr (0, [.int kinds, .ref ac, .int rowc, .ref a0, .ref a_s, .ref a_w])) :: ks_ws a_s e0 w0 pv su sl er wr cE cW cP cSu cSl cI cJ fp fsu fsl E' Wm ans) t.heap ∧ va_K (dC, dI) classes [(cE, .array .int), (cW, .array .long), (cP, .int), (cSu, .long), (cSl, .long), (cI, .int), (cJ, .long)] t ∧ va_D (va_A ((ak, .inr (0, [.int kinds, .ref ac, .int rowc, .ref a0, .ref a_s, .ref a_w])) :: ks_ws a_s e0 w0 pv su sl er wr cE cW cP cSu cSl cI cJ fp fsu fsl E Wm ans) sz) ((ak, .inr (0, [.int kinds, .ref ac, .int rowc, .ref a0, .ref a_s, .ref a_w])) :: ks_ws a_s e0 w0 pv su sl er wr cE cW cP cSu cSl cI cJ fp fsu fsl E' Wm ans)) (va_A ((ak, .inr (0, [.int kinds, .ref ac, .int rowc, .ref a0, .ref a_s, .ref a_w])) :: ks_ws a_s e0 w0 pv su sl er wr cE cW cP cSu cSl cI cJ fp fsu fsl E Wm ans) sz)) 0 0 (va_A ((ak, .inr (0, [.int kinds, .ref ac, .int rowc, .ref a0, .ref a_s, .ref a_w])) :: ks_ws a_s e0 w0 pv su sl er wr cE cW cP cSu cSl cI cJ fp fsu fsl E Wm ans) sz) := by
  refine Met.ofW (cc := b_kr_entry) (maxL := 4) (ret := (some .boolean)) (by decide +kernel) rfl ?_
  intro p e s m args below meth c s₁ B hml hv
  obtain ⟨rfl, hsz, hP, hK, hD0⟩ := hv
  have hx := B.exec
  have hb := B.bytes
  have hr := B.returns
  have hts := atoms_spec (ws := w_kr_entry) B.pre
  have hT := fun (w : Cond) (h : w ∈ kt_T) => hts w (List.mem_cons_of_mem _ h)
  have hown : s.vm.findClass R_kr = some m.cls := findClass_of_methodNamed B.named
  have hlocks := B.notSynchronized
  subst hsz
  have hD := hD0.self (sz := s.heap.size)
  generalize hAe : va_A ((ak, .inr (0, [.int kinds, .ref ac, .int rowc, .ref a0, .ref a_s, .ref a_w])) :: ks_ws a_s e0 w0 pv su sl er wr cE cW cP cSu cSl cI cJ fp fsu fsl E Wm ans) s.heap.size = A at hD ⊢
  have hA : ∀ q : Nat, s.heap.size ≤ q → A q := fun q h => by rw [← hAe]; exact Or.inr h
  have hS : va_S A s.heap s.heap [] := va_S.rf
  have hl := lv_entry ([.ref ak, .int i, .int j, .int v]) (n := 4) (Nat.le_of_ble_eq_true rfl)
  rw [lg_entry_eq]
  generalize (lg_sl ([.ref ak, .int i, .int j, .int v]) ++ List.replicate (4 - (lg_sl ([.ref ak, .int i, .int j, .int v])).length) Slot.unset).toArray = ls at hl ⊢
  have hl : lv_has ls 4 [(0, .ref ak), (1, .int i), (2, .int j), (3, .int v)] := hl
  refine lv_aload_n hx hb d_kr_entry_0 rfl (lv_at hl 0 rfl) ?_
  refine va_get (D := (dC, dI)) (ci := 0) (v := .ref a_s) (C := R_kr) (T := F_kr) (N := 6) hx hb hT i_kr hown hK hP 0 rfl rfl 4 (by decide) (hT _ k_98) (fun _ h9 => h9) rfl d_kr_entry_1 ?_
  refine lv_iload_n hx hb d_kr_entry_4 rfl (lv_at hl 1 rfl) ?_
  refine lv_iload_n hx hb d_kr_entry_5 rfl (lv_at hl 2 rfl) ?_
  refine lv_iload_n hx hb d_kr_entry_6 rfl (lv_at hl 3 rfl) ?_
  have hPc := hP.sub (ws' := (ks_ws a_s e0 w0 pv su sl er wr cE cW cP cSu cSl cI cJ fp fsu fsl E Wm ans)) [1, 2, 3, 4, 5, 6, 7, 8, 9, 10, 11, 12, 13, 14] rfl
  have hKc := hK.sub (tys' := [(cE, .array .int), (cW, .array .long), (cP, .int), (cSu, .long), (cSl, .long), (cI, .int), (cJ, .long)]) [0, 1, 2, 3, 4, 5, 6] rfl
  have hDc := hD.sub (ws' := (ks_ws a_s e0 w0 pv su sl er wr cE cW cP cSu cSl cI cJ fp fsu fsl E Wm ans)) [1, 2, 3, 4, 5, 6, 7, 8, 9, 10, 11, 12, 13, 14] (by decide) rfl
  have hFc := va_free (wc := (ks_ws a_s e0 w0 pv su sl er wr cE cW cP cSu cSl cI cJ fp fsu fsl E Wm ans)) hD hS hA [1, 2, 3, 4, 5, 6, 7, 8, 9, 10, 11, 12, 13, 14] rfl
  refine va_calli (va_runV (As := [.int i, .int j, .int v]) (rest := []) ⟨hx, hb, hml, hown, hT⟩ (c_ks_setEntry l dC dI s.heap.size a_s e0 w0 pv su sl er wr ans cE cW cP fp cSu fsu cSl fsl cI E cJ Wm i j v) (cwV 3 hT (kt_V k_102 k_100 k_101 k_82 k_99) rfl rfl rfl (by decide +kernel) ⟨Nat.le_of_ble_eq_true rfl, Nat.le_of_ble_eq_true rfl⟩) ⟨bl_M, va_recv hKc hPc (ci := 2) (q0 := 0) rfl rfl, fun U hU hW => ⟨rfl, by rw [hU], by rw [hU]; exact hPc, va_K.moved hW.alike hKc, hDc.weaken (fun _ _ _ _ => trivial)⟩⟩ rfl rfl hl.1 rfl (lv_room (Nat.le_of_ble_eq_true rfl)) d_kr_entry_7 ⟨Nat.zero_le _, Nat.zero_le _⟩) hS (fun q _ h => hFc q h) hFc (fun r_1 u t H1 locs ht hvm hw hB hz1 hk1 hS => ?_)
  obtain ⟨E_1, rfl⟩ : ∃ z, z = u := ⟨_, rfl⟩
  obtain ⟨hP1, hK1, hD1⟩ := hB
  rw [ht] at hP1
  obtain ⟨hP, hD⟩ := va_join (wr := [(ak, .inr (0, [.int kinds, .ref ac, .int rowc, .ref a0, .ref a_s, .ref a_w]))]) (w1 := (ks_ws a_s e0 w0 pv su sl er wr cE cW cP cSu cSl cI cJ fp fsu fsl E_1 Wm ans)) hP hD [1, 2, 3, 4, 5, 6, 7, 8, 9, 10, 11, 12, 13, 14] [0] rfl rfl (by decide) (by decide) hk1 hFc hP1 hD1
  generalize H1 = H at hP hS ⊢
  have hP := hP.sub (ws' := ((ak, .inr (0, [.int kinds, .ref ac, .int rowc, .ref a0, .ref a_s, .ref a_w])) :: ks_ws a_s e0 w0 pv su sl er wr cE cW cP cSu cSl cI cJ fp fsu fsl E_1 Wm ans)) [0, 1, 2, 3, 4, 5, 6, 7, 8, 9, 10, 11, 12, 13, 14] rfl
  have hD := hD.sub (ws' := ((ak, .inr (0, [.int kinds, .ref ac, .int rowc, .ref a0, .ref a_s, .ref a_w])) :: ks_ws a_s e0 w0 pv su sl er wr cE cW cP cSu cSl cI cJ fp fsu fsl E_1 Wm ans)) [0, 1, 2, 3, 4, 5, 6, 7, 8, 9, 10, 11, 12, 13, 14] (by decide) rfl
  have e_r_1 : r_1 = (f_ks_setEntry E i j v).1 := congrArg (fun z => z.1) hw
  have e_E_1 : E_1 = (f_ks_setEntry E i j v).2 := congrArg (fun z => z.2) hw
  subst e_r_1 e_E_1
  clear hP1 hK1 hD1 hk1 hz1 hFc hDc hPc hKc
  exact W.zret (v := (f_ks_setEntry E i j v).1) hx hb hr (zn_ks_setEntry _ _ _ _) (fun t ht hW => ⟨⟨(f_ks_setEntry E i j v).1, (f_ks_setEntry E i j v).2, rfl, rfl, by rw [ht]; exact hP, va_K.moved hW.alike hK, hD⟩, hS.F ht⟩) hS.2.2 d_kr_entry_10
def f_kr_solve (ans : Int32) (fp : Nat → Int32) (fsu : Nat → Int64) (fsl : Nat → Int64) (E : Nat → Nat → Int32) (Wm : Nat → Nat → Int64) (size : Int32) : Int32 × (Nat → Nat → Int64) × (Nat → Int32) × (Nat → Int64) × (Nat → Int64) × Int32 :=
  (f_ks_solve ans fp fsu fsl E Wm size)
set_option maxHeartbeats 4000000 in
set_option maxRecDepth 100000 in
theorem c_kr_solve (l : Launch) (dC : Nat → ClassId) (dI : Nat → Nat → Nat) (sz : Nat) (ak : Nat) (a_s : Nat) (e0 : Nat) (w0 : Nat) (pv : Nat) (su : Nat) (sl : Nat) (er : Nat → Nat) (wr : Nat → Nat) (kinds : Int32) (ac : Nat) (rowc : Int32) (a0 : Nat) (a_w : Nat) (ans : Int32) (cE : ClassId) (cW : ClassId) (cP : ClassId) (fp : Nat → Int32) (cSu : ClassId) (fsu : Nat → Int64) (cSl : ClassId) (fsl : Nat → Int64) (cI : ClassId) (E : Nat → Nat → Int32) (cJ : ClassId) (Wm : Nat → Nat → Int64) (size : Int32) : Met l y_kr_solve w_kr_solve ({ frames := 3, cells := 0, slots := 0, locals := 85 }) (va_Pc [.ref ak, .int size] (fun U => U.heap.size = sz ∧ va_P (dC, dI) classes ((ak, .inr (0, [.int kinds, .ref ac, .int rowc, .ref a0, .ref a_s, .ref a_w])) :: ks_ws a_s e0 w0 pv su sl er wr cE cW cP cSu cSl cI cJ fp fsu fsl E Wm ans) U.heap ∧ va_K (dC, dI) classes [(cE, .array .int), (cW, .array .long), (cP, .int), (cSu, .long), (cSl, .long), (cI, .int), (cJ, .long)] U ∧ va_D (fun _ => True) ((ak, .inr (0, [.int kinds, .ref ac, .int rowc, .ref a0, .ref a_s, .ref a_w])) :: ks_ws a_s e0 w0 pv su sl er wr cE cW cP cSu cSl cI cJ fp fsu fsl E Wm ans) ∧ kt_N U)) (va_Qi (fun z9 u9 => (z9, u9) = f_kr_solve ans fp fsu fsl E Wm size) (fun (u : (Nat → Nat → Int64) × (Nat → Int32) × (Nat → Int64) × (Nat → Int64) × Int32) t => match u with | (Wm', fp', fsu', fsl', ans') => va_P (dC, dI) classes ((ak, .inr (0, [.int kinds, .ref ac, .int rowc, .ref a0, .ref a_s, .ref a_w])) :: ks_ws a_s e0 w0 pv su sl er wr cE cW cP cSu cSl cI cJ fp' fsu' fsl' E Wm' ans') t.heap ∧ va_K (dC, dI) classes [(cE, .array .int), (cW, .array .long), (cP, .int), (cSu, .long), (cSl, .long), (cI, .int), (cJ, .long)] t ∧ va_D (va_A ((ak, .inr (0, [.int kinds, .ref ac, .int rowc, .ref a0, .ref a_s, .ref a_w])) :: ks_ws a_s e0 w0 pv su sl er wr cE cW cP cSu cSl cI cJ fp fsu fsl E Wm ans) sz) ((ak, .inr (0, [.int kinds, .ref ac, .int rowc, .ref a0, .ref a_s, .ref a_w])) :: ks_ws a_s e0 w0 pv su sl er wr cE cW cP cSu cSl cI cJ fp' fsu' fsl' E Wm' ans')) (va_A ((ak, .inr (0, [.int kinds, .ref ac, .int rowc, .ref a0, .ref a_s, .ref a_w])) :: ks_ws a_s e0 w0 pv su sl er wr cE cW cP cSu cSl cI cJ fp fsu fsl E Wm ans) sz)) 0 0 (va_A ((ak, .inr (0, [.int kinds, .ref ac, .int rowc, .ref a0, .ref a_s, .ref a_w])) :: ks_ws a_s e0 w0 pv su sl er wr cE cW cP cSu cSl cI cJ fp fsu fsl E Wm ans) sz) := by
  refine Met.ofW (cc := b_kr_solve) (maxL := 2) (ret := (some .int)) (by decide +kernel) rfl ?_
  intro p e s m args below meth c s₁ B hml hv
  obtain ⟨rfl, hsz, hP, hK, hD0, hN⟩ := hv
  have hx := B.exec
  have hb := B.bytes
  have hr := B.returns
  have hts := atoms_spec (ws := w_kr_solve) B.pre
  have hT := fun (w : Cond) (h : w ∈ kt_T) => hts w (List.mem_cons_of_mem _ h)
  have hown : s.vm.findClass R_kr = some m.cls := findClass_of_methodNamed B.named
  have hlocks := B.notSynchronized
  subst hsz
  have hD := hD0.self (sz := s.heap.size)
  generalize hAe : va_A ((ak, .inr (0, [.int kinds, .ref ac, .int rowc, .ref a0, .ref a_s, .ref a_w])) :: ks_ws a_s e0 w0 pv su sl er wr cE cW cP cSu cSl cI cJ fp fsu fsl E Wm ans) s.heap.size = A at hD ⊢
  have hA : ∀ q : Nat, s.heap.size ≤ q → A q := fun q h => by rw [← hAe]; exact Or.inr h
  have hS : va_S A s.heap s.heap [] := va_S.rf
  have hl := lv_entry ([.ref ak, .int size]) (n := 2) (Nat.le_of_ble_eq_true rfl)
  rw [lg_entry_eq]
  generalize (lg_sl ([.ref ak, .int size]) ++ List.replicate (2 - (lg_sl ([.ref ak, .int size])).length) Slot.unset).toArray = ls at hl ⊢
  have hl : lv_has ls 2 [(0, .ref ak), (1, .int size)] := hl
  refine lv_aload_n hx hb d_kr_solve_0 rfl (lv_at hl 0 rfl) ?_
  refine va_get (D := (dC, dI)) (ci := 0) (v := .ref a_s) (C := R_kr) (T := F_kr) (N := 6) hx hb hT i_kr hown hK hP 0 rfl rfl 4 (by decide) (hT _ k_98) (fun _ h9 => h9) rfl d_kr_solve_1 ?_
  refine lv_iload_n hx hb d_kr_solve_4 rfl (lv_at hl 1 rfl) ?_
  have hPc := hP.sub (ws' := (ks_ws a_s e0 w0 pv su sl er wr cE cW cP cSu cSl cI cJ fp fsu fsl E Wm ans)) [1, 2, 3, 4, 5, 6, 7, 8, 9, 10, 11, 12, 13, 14] rfl
  have hKc := hK.sub (tys' := [(cE, .array .int), (cW, .array .long), (cP, .int), (cSu, .long), (cSl, .long), (cI, .int), (cJ, .long)]) [0, 1, 2, 3, 4, 5, 6] rfl
  have hDc := hD.sub (ws' := (ks_ws a_s e0 w0 pv su sl er wr cE cW cP cSu cSl cI cJ fp fsu fsl E Wm ans)) [1, 2, 3, 4, 5, 6, 7, 8, 9, 10, 11, 12, 13, 14] (by decide) rfl
  have hFc := va_free (wc := (ks_ws a_s e0 w0 pv su sl er wr cE cW cP cSu cSl cI cJ fp fsu fsl E Wm ans)) hD hS hA [1, 2, 3, 4, 5, 6, 7, 8, 9, 10, 11, 12, 13, 14] rfl
  refine va_calli (va_runV (As := [.int size]) (rest := []) ⟨hx, hb, hml, hown, hT⟩ (c_ks_solve l dC dI s.heap.size a_s e0 w0 pv su sl er wr ans cE cW cP fp cSu fsu cSl fsl cI E cJ Wm size) (cwV 1 hT (kt_V k_106 k_104 k_105 k_82 k_103) rfl rfl rfl (by decide +kernel) ⟨Nat.le_of_ble_eq_true rfl, Nat.le_of_ble_eq_true rfl⟩) ⟨bl_MN, va_recv hKc hPc (ci := 2) (q0 := 0) rfl rfl, fun U hU hW => ⟨rfl, by rw [hU], by rw [hU]; exact hPc, va_K.moved hW.alike hKc, hDc.weaken (fun _ _ _ _ => trivial), kt_N.warm hW hN⟩⟩ rfl rfl hl.1 rfl (lv_room (Nat.le_of_ble_eq_true rfl)) d_kr_solve_5 ⟨Nat.zero_le _, Nat.zero_le _⟩) hS (fun q _ h => hFc q h) hFc (fun r_1 u t H1 locs ht hvm hw hB hz1 hk1 hS => ?_)
  obtain ⟨Wm_1, fp_1, fsu_1, fsl_1, ans_1⟩ := u
  obtain ⟨hP1, hK1, hD1⟩ := hB
  rw [ht] at hP1
  obtain ⟨hP, hD⟩ := va_join (wr := [(ak, .inr (0, [.int kinds, .ref ac, .int rowc, .ref a0, .ref a_s, .ref a_w]))]) (w1 := (ks_ws a_s e0 w0 pv su sl er wr cE cW cP cSu cSl cI cJ fp_1 fsu_1 fsl_1 E Wm_1 ans_1)) hP hD [1, 2, 3, 4, 5, 6, 7, 8, 9, 10, 11, 12, 13, 14] [0] rfl rfl (by decide) (by decide) hk1 hFc hP1 hD1
  generalize H1 = H at hP hS ⊢
  have hP := hP.sub (ws' := ((ak, .inr (0, [.int kinds, .ref ac, .int rowc, .ref a0, .ref a_s, .ref a_w])) :: ks_ws a_s e0 w0 pv su sl er wr cE cW cP cSu cSl cI cJ fp_1 fsu_1 fsl_1 E Wm_1 ans_1)) [0, 1, 2, 3, 4, 5, 6, 7, 8, 9, 10, 11, 12, 13, 14] rfl
  have hD := hD.sub (ws' := ((ak, .inr (0, [.int kinds, .ref ac, .int rowc, .ref a0, .ref a_s, .ref a_w])) :: ks_ws a_s e0 w0 pv su sl er wr cE cW cP cSu cSl cI cJ fp_1 fsu_1 fsl_1 E Wm_1 ans_1)) [0, 1, 2, 3, 4, 5, 6, 7, 8, 9, 10, 11, 12, 13, 14] (by decide) rfl
  have e_r_1 : r_1 = (f_ks_solve ans fp fsu fsl E Wm size).1 := congrArg (fun z => z.1) hw
  have e_Wm_1 : Wm_1 = (f_ks_solve ans fp fsu fsl E Wm size).2.1 := congrArg (fun z => z.2.1) hw
  have e_fp_1 : fp_1 = (f_ks_solve ans fp fsu fsl E Wm size).2.2.1 := congrArg (fun z => z.2.2.1) hw
  have e_fsu_1 : fsu_1 = (f_ks_solve ans fp fsu fsl E Wm size).2.2.2.1 := congrArg (fun z => z.2.2.2.1) hw
  have e_fsl_1 : fsl_1 = (f_ks_solve ans fp fsu fsl E Wm size).2.2.2.2.1 := congrArg (fun z => z.2.2.2.2.1) hw
  have e_ans_1 : ans_1 = (f_ks_solve ans fp fsu fsl E Wm size).2.2.2.2.2 := congrArg (fun z => z.2.2.2.2.2) hw
  subst e_r_1 e_Wm_1 e_fp_1 e_fsu_1 e_fsl_1 e_ans_1
  clear hP1 hK1 hD1 hk1 hz1 hFc hDc hPc hKc
  exact W.iret (v := (f_ks_solve ans fp fsu fsl E Wm size).1) hx hb hr (fun t ht hW => ⟨⟨(f_ks_solve ans fp fsu fsl E Wm size).1, ((f_ks_solve ans fp fsu fsl E Wm size).2.1, (f_ks_solve ans fp fsu fsl E Wm size).2.2.1, (f_ks_solve ans fp fsu fsl E Wm size).2.2.2.1, (f_ks_solve ans fp fsu fsl E Wm size).2.2.2.2.1, (f_ks_solve ans fp fsu fsl E Wm size).2.2.2.2.2), rfl, rfl, by rw [ht]; exact hP, va_K.moved hW.alike hK, hD⟩, hS.F ht⟩) hS.2.2 d_kr_solve_8
theorem in_ans {ans k : Int32} (ha : vp_in ans 5) (h : ¬ f_ks_hasAnswer ans k = 0) : vp_in k 4 := by
  rw [vp_in_iff] at ha ⊢
  unfold f_ks_hasAnswer at h
  split at h
  · exact absurd rfl h
  · rename_i h1
    split at h
    · exact absurd rfl h
    · rename_i h2
      rw [Int32.lt_iff_toInt_lt, Int32.toInt_zero] at h1
      rw [Int32.le_iff_toInt_le] at h2
      omega
def f_kr_answer (ans : Int32) (fsu : Nat → Int64) (fsl : Nat → Int64) (k : Int32) (q : Int32) : Int64 :=
  if (f_ks_hasAnswer ans k) = 0 then (-9223372036854775808) else if (f_kr_isPart q) = 0 then (-9223372036854775808) else (f_ks_answerPart fsu fsl k q)
set_option maxHeartbeats 4000000 in
set_option maxRecDepth 100000 in
theorem c_kr_answer (l : Launch) (dC : Nat → ClassId) (dI : Nat → Nat → Nat) (ak : Nat) (a_s : Nat) (e0 : Nat) (w0 : Nat) (pv : Nat) (su : Nat) (sl : Nat) (er : Nat → Nat) (wr : Nat → Nat) (kinds : Int32) (ac : Nat) (rowc : Int32) (a0 : Nat) (a_w : Nat) (ans : Int32) (cE : ClassId) (cW : ClassId) (cP : ClassId) (fp : Nat → Int32) (cSu : ClassId) (fsu : Nat → Int64) (cSl : ClassId) (fsl : Nat → Int64) (cI : ClassId) (E : Nat → Nat → Int32) (cJ : ClassId) (Wm : Nat → Nat → Int64) (k : Int32) (q : Int32) (ha : vp_in ans 5) : Met l y_kr_answer w_kr_answer ({ frames := 1, cells := 0, slots := 0, locals := 22 }) (va_Pc [.ref ak, .int k, .int q] (fun U => va_P (dC, dI) classes ((ak, .inr (0, [.int kinds, .ref ac, .int rowc, .ref a0, .ref a_s, .ref a_w])) :: ks_ws a_s e0 w0 pv su sl er wr cE cW cP cSu cSl cI cJ fp fsu fsl E Wm ans) U.heap ∧ va_K (dC, dI) classes [(cE, .array .int), (cW, .array .long), (cP, .int), (cSu, .long), (cSl, .long), (cI, .int), (cJ, .long)] U)) (vp_Sl (fun z9 => z9 = f_kr_answer ans fsu fsl k q)) 0 0 (fun _ => False) := by
  refine Met.ofW (cc := b_kr_answer) (maxL := 3) (ret := (some .long)) (by decide +kernel) rfl ?_
  intro p e s m args below meth c s₁ B hml hv
  obtain ⟨rfl, hP, hK⟩ := hv
  have hx := B.exec
  have hb := B.bytes
  have hr := B.returns
  have hts := atoms_spec (ws := w_kr_answer) B.pre
  have hT := fun (w : Cond) (h : w ∈ kt_T) => hts w (List.mem_cons_of_mem _ h)
  have hown : s.vm.findClass R_kr = some m.cls := findClass_of_methodNamed B.named
  have hlocks := B.notSynchronized
  have hl := lv_entry ([.ref ak, .int k, .int q]) (n := 3) (Nat.le_of_ble_eq_true rfl)
  rw [lg_entry_eq]
  generalize (lg_sl ([.ref ak, .int k, .int q]) ++ List.replicate (3 - (lg_sl ([.ref ak, .int k, .int q])).length) Slot.unset).toArray = ls at hl ⊢
  have hl : lv_has ls 3 [(0, .ref ak), (1, .int k), (2, .int q)] := hl
  refine lv_aload_n hx hb d_kr_answer_0 rfl (lv_at hl 0 rfl) ?_
  refine va_get (D := (dC, dI)) (ci := 0) (v := .ref a_s) (C := R_kr) (T := F_kr) (N := 6) hx hb hT i_kr hown hK hP 0 rfl rfl 4 (by decide) (hT _ k_98) (fun _ h9 => h9) rfl d_kr_answer_1 ?_
  refine lv_iload_n hx hb d_kr_answer_4 rfl (lv_at hl 1 rfl) ?_
  have hPc := hP.sub (ws' := (ks_ws a_s e0 w0 pv su sl er wr cE cW cP cSu cSl cI cJ fp fsu fsl E Wm ans)) [1, 2, 3, 4, 5, 6, 7, 8, 9, 10, 11, 12, 13, 14] rfl
  have hKc := hK.sub (tys' := [(cE, .array .int), (cW, .array .long), (cP, .int), (cSu, .long), (cSl, .long), (cI, .int), (cJ, .long)]) [0, 1, 2, 3, 4, 5, 6] rfl
  refine vp_callSi (W.runV (As := [.int k]) (rest := []) ⟨hx, hb, hml, hown, hT⟩ (c_ks_hasAnswer l dC dI a_s e0 w0 pv su sl er wr ans cE cW cP fp cSu fsu cSl fsl cI E cJ Wm k) (cwV 1 hT (kt_V k_110 k_108 k_109 k_82 k_107) rfl rfl rfl (by decide +kernel) ⟨Nat.le_of_ble_eq_true rfl, Nat.le_of_ble_eq_true rfl⟩) ⟨bl_R, va_recv hKc hPc (ci := 2) (q0 := 0) rfl rfl, fun U hU hW => ⟨rfl, by rw [hU]; exact hPc, va_K.moved hW.alike hKc⟩⟩ rfl rfl hl.1 rfl (lv_room (Nat.le_of_ble_eq_true rfl)) d_kr_answer_5 ⟨Nat.zero_le _, Nat.zero_le _⟩) (fun r_1 e_r_1 => ?_)
  subst e_r_1
  refine lv_if_eq (tgt := 18) hx hb d_kr_answer_8 (by decide) (fun c_2 => ?_) (fun c_2 => ?_)
  · refine lv_ldc2 (v := (-9223372036854775808)) hx hb hown (hT _ k_37) d_kr_answer_18 ?_
    exact W.lret (v := (-9223372036854775808)) hx hb hr (fun t ht hW => ⟨_, rfl, by unfold f_kr_answer; rw [if_pos c_2], ht⟩) t_nil d_kr_answer_21
  · refine lv_iload_n hx hb d_kr_answer_11 rfl (lv_at hl 2 rfl) ?_
    refine vp_callSi (W.runS (As := [.int q]) (rest := []) ⟨hx, hb, hml, hown, hT⟩ (c_kr_isPart l q) (va_cwS 1 hT (kt_S k_51 k_50 k_11 k_49) rfl rfl rfl (by decide +kernel) ⟨Nat.le_of_ble_eq_true rfl, Nat.le_of_ble_eq_true rfl⟩) ⟨bl_S, fun U hU hW => ⟨rfl, trivial⟩⟩ rfl rfl hl.1 rfl (lv_room (Nat.le_of_ble_eq_true rfl)) d_kr_answer_12 ⟨Nat.zero_le _, Nat.zero_le _⟩) (fun r_3 e_r_3 => ?_)
    subst e_r_3
    refine lv_if_ne (tgt := 22) hx hb d_kr_answer_15 (by decide) (fun c_4 => ?_) (fun c_4 => ?_)
    · refine lv_aload_n hx hb d_kr_answer_22 rfl (lv_at hl 0 rfl) ?_
      refine va_get (D := (dC, dI)) (ci := 0) (v := .ref a_s) (C := R_kr) (T := F_kr) (N := 6) hx hb hT i_kr hown hK hP 0 rfl rfl 4 (by decide) (hT _ k_98) (fun _ h9 => h9) rfl d_kr_answer_23 ?_
      refine lv_iload_n hx hb d_kr_answer_26 rfl (lv_at hl 1 rfl) ?_
      refine lv_iload_n hx hb d_kr_answer_27 rfl (lv_at hl 2 rfl) ?_
      have hPc := hP.sub (ws' := (ks_ws a_s e0 w0 pv su sl er wr cE cW cP cSu cSl cI cJ fp fsu fsl E Wm ans)) [1, 2, 3, 4, 5, 6, 7, 8, 9, 10, 11, 12, 13, 14] rfl
      have hKc := hK.sub (tys' := [(cE, .array .int), (cW, .array .long), (cP, .int), (cSu, .long), (cSl, .long), (cI, .int), (cJ, .long)]) [0, 1, 2, 3, 4, 5, 6] rfl
      refine vp_callSl (W.runV (As := [.int k, .int q]) (rest := []) ⟨hx, hb, hml, hown, hT⟩ (c_ks_answerPart l dC dI a_s e0 w0 pv su sl er wr ans cE cW cP fp cSu fsu cSl fsl cI E cJ Wm k q (in_ans ha c_2)) (cwV 2 hT (kt_V k_114 k_112 k_113 k_82 k_111) rfl rfl rfl (by decide +kernel) ⟨Nat.le_of_ble_eq_true rfl, Nat.le_of_ble_eq_true rfl⟩) ⟨bl_R, va_recv hKc hPc (ci := 2) (q0 := 0) rfl rfl, fun U hU hW => ⟨rfl, by rw [hU]; exact hPc, va_K.moved hW.alike hKc⟩⟩ rfl rfl hl.1 rfl (lv_room (Nat.le_of_ble_eq_true rfl)) d_kr_answer_28 ⟨Nat.zero_le _, Nat.zero_le _⟩) (fun r_5 e_r_5 => ?_)
      subst e_r_5
      exact W.lret (v := f_ks_answerPart fsu fsl k q) hx hb hr (fun t ht hW => ⟨_, rfl, by unfold f_kr_answer; rw [if_neg c_2, if_neg c_4], ht⟩) t_nil d_kr_answer_31
    · refine lv_ldc2 (v := (-9223372036854775808)) hx hb hown (hT _ k_37) d_kr_answer_18 ?_
      exact W.lret (v := (-9223372036854775808)) hx hb hr (fun t ht hW => ⟨_, rfl, by unfold f_kr_answer; rw [if_neg c_2, if_pos c_4], ht⟩) t_nil d_kr_answer_21
