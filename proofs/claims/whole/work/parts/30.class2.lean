abbrev b_kr_value : ByteArray := prog_1_method_2_code
def y_kr_value : MethodName := ⟨R_kr, "value", "(JJ)I"⟩
def w_kr_value : List Cond := .code y_kr_value b_kr_value 5 (some .int) :: kt_T
theorem d_kr_value_0 : decode b_kr_value 0 = .ok (.lload_n 3, 1) := by decide +kernel
theorem d_kr_value_1 : decode b_kr_value 1 = .ok (.lconst 0, 1) := by decide +kernel
theorem d_kr_value_2 : decode b_kr_value 2 = .ok (.lcmp, 1) := by decide +kernel
theorem d_kr_value_3 : decode b_kr_value 3 = .ok (.ifCond .ne 13, 3) := by decide +kernel
theorem d_kr_value_6 : decode b_kr_value 6 = .ok (.new 47, 3) := by decide +kernel
theorem d_kr_value_9 : decode b_kr_value 9 = .ok (.dup, 1) := by decide +kernel
theorem d_kr_value_10 : decode b_kr_value 10 = .ok (.ldc 49, 2) := by decide +kernel
theorem d_kr_value_12 : decode b_kr_value 12 = .ok (.invokespecial 51, 3) := by decide +kernel
theorem d_kr_value_15 : decode b_kr_value 15 = .ok (.athrow, 1) := by decide +kernel
theorem d_kr_value_16 : decode b_kr_value 16 = .ok (.aload_n 0, 1) := by decide +kernel
theorem d_kr_value_17 : decode b_kr_value 17 = .ok (.getfield 29, 3) := by decide +kernel
theorem d_kr_value_20 : decode b_kr_value 20 = .ok (.lload_n 1, 1) := by decide +kernel
theorem d_kr_value_21 : decode b_kr_value 21 = .ok (.lload_n 3, 1) := by decide +kernel
theorem d_kr_value_22 : decode b_kr_value 22 = .ok (.invokevirtual 54, 3) := by decide +kernel
theorem d_kr_value_25 : decode b_kr_value 25 = .ok (.ireturn, 1) := by decide +kernel
abbrev b_kr_valueT : ByteArray := prog_1_method_2_code
def y_kr_valueT : MethodName := ⟨R_kr, "value", "(JJ)I"⟩
def w_kr_valueT : List Cond := .code y_kr_valueT b_kr_valueT 5 (some .int) :: kt_T
theorem d_kr_valueT_0 : decode b_kr_valueT 0 = .ok (.lload_n 3, 1) := by decide +kernel
theorem d_kr_valueT_1 : decode b_kr_valueT 1 = .ok (.lconst 0, 1) := by decide +kernel
theorem d_kr_valueT_2 : decode b_kr_valueT 2 = .ok (.lcmp, 1) := by decide +kernel
theorem d_kr_valueT_3 : decode b_kr_valueT 3 = .ok (.ifCond .ne 13, 3) := by decide +kernel
theorem d_kr_valueT_6 : decode b_kr_valueT 6 = .ok (.new 47, 3) := by decide +kernel
theorem d_kr_valueT_9 : decode b_kr_valueT 9 = .ok (.dup, 1) := by decide +kernel
theorem d_kr_valueT_10 : decode b_kr_valueT 10 = .ok (.ldc 49, 2) := by decide +kernel
theorem d_kr_valueT_12 : decode b_kr_valueT 12 = .ok (.invokespecial 51, 3) := by decide +kernel
theorem d_kr_valueT_15 : decode b_kr_valueT 15 = .ok (.athrow, 1) := by decide +kernel
theorem d_kr_valueT_16 : decode b_kr_valueT 16 = .ok (.aload_n 0, 1) := by decide +kernel
theorem d_kr_valueT_17 : decode b_kr_valueT 17 = .ok (.getfield 29, 3) := by decide +kernel
theorem d_kr_valueT_20 : decode b_kr_valueT 20 = .ok (.lload_n 1, 1) := by decide +kernel
theorem d_kr_valueT_21 : decode b_kr_valueT 21 = .ok (.lload_n 3, 1) := by decide +kernel
theorem d_kr_valueT_22 : decode b_kr_valueT 22 = .ok (.invokevirtual 54, 3) := by decide +kernel
theorem d_kr_valueT_25 : decode b_kr_valueT 25 = .ok (.ireturn, 1) := by decide +kernel
abbrev b_kr_part : ByteArray := prog_1_method_3_code
def y_kr_part : MethodName := ⟨R_kr, "part", "(II)I"⟩
def w_kr_part : List Cond := .code y_kr_part b_kr_part 3 (some .int) :: kt_T
theorem d_kr_part_0 : decode b_kr_part 0 = .ok (.aload_n 0, 1) := by decide +kernel
theorem d_kr_part_1 : decode b_kr_part 1 = .ok (.getfield 29, 3) := by decide +kernel
theorem d_kr_part_4 : decode b_kr_part 4 = .ok (.iload_n 1, 1) := by decide +kernel
theorem d_kr_part_5 : decode b_kr_part 5 = .ok (.invokevirtual 58, 3) := by decide +kernel
theorem d_kr_part_8 : decode b_kr_part 8 = .ok (.ifCond .eq 10, 3) := by decide +kernel
theorem d_kr_part_11 : decode b_kr_part 11 = .ok (.iload_n 2, 1) := by decide +kernel
theorem d_kr_part_12 : decode b_kr_part 12 = .ok (.invokestatic 62, 3) := by decide +kernel
theorem d_kr_part_15 : decode b_kr_part 15 = .ok (.ifCond .ne 13, 3) := by decide +kernel
theorem d_kr_part_18 : decode b_kr_part 18 = .ok (.new 65, 3) := by decide +kernel
theorem d_kr_part_21 : decode b_kr_part 21 = .ok (.dup, 1) := by decide +kernel
theorem d_kr_part_22 : decode b_kr_part 22 = .ok (.ldc 67, 2) := by decide +kernel
theorem d_kr_part_24 : decode b_kr_part 24 = .ok (.invokespecial 69, 3) := by decide +kernel
theorem d_kr_part_27 : decode b_kr_part 27 = .ok (.athrow, 1) := by decide +kernel
theorem d_kr_part_28 : decode b_kr_part 28 = .ok (.aload_n 0, 1) := by decide +kernel
theorem d_kr_part_29 : decode b_kr_part 29 = .ok (.getfield 29, 3) := by decide +kernel
theorem d_kr_part_32 : decode b_kr_part 32 = .ok (.iload_n 1, 1) := by decide +kernel
theorem d_kr_part_33 : decode b_kr_part 33 = .ok (.iload_n 2, 1) := by decide +kernel
theorem d_kr_part_34 : decode b_kr_part 34 = .ok (.invokevirtual 70, 3) := by decide +kernel
theorem d_kr_part_37 : decode b_kr_part 37 = .ok (.ireturn, 1) := by decide +kernel
abbrev b_kr_partT : ByteArray := prog_1_method_3_code
def y_kr_partT : MethodName := ⟨R_kr, "part", "(II)I"⟩
def w_kr_partT : List Cond := .code y_kr_partT b_kr_partT 3 (some .int) :: kt_T
theorem d_kr_partT_0 : decode b_kr_partT 0 = .ok (.aload_n 0, 1) := by decide +kernel
theorem d_kr_partT_1 : decode b_kr_partT 1 = .ok (.getfield 29, 3) := by decide +kernel
theorem d_kr_partT_4 : decode b_kr_partT 4 = .ok (.iload_n 1, 1) := by decide +kernel
theorem d_kr_partT_5 : decode b_kr_partT 5 = .ok (.invokevirtual 58, 3) := by decide +kernel
theorem d_kr_partT_8 : decode b_kr_partT 8 = .ok (.ifCond .eq 10, 3) := by decide +kernel
theorem d_kr_partT_11 : decode b_kr_partT 11 = .ok (.iload_n 2, 1) := by decide +kernel
theorem d_kr_partT_12 : decode b_kr_partT 12 = .ok (.invokestatic 62, 3) := by decide +kernel
theorem d_kr_partT_15 : decode b_kr_partT 15 = .ok (.ifCond .ne 13, 3) := by decide +kernel
theorem d_kr_partT_18 : decode b_kr_partT 18 = .ok (.new 65, 3) := by decide +kernel
theorem d_kr_partT_21 : decode b_kr_partT 21 = .ok (.dup, 1) := by decide +kernel
theorem d_kr_partT_22 : decode b_kr_partT 22 = .ok (.ldc 67, 2) := by decide +kernel
theorem d_kr_partT_24 : decode b_kr_partT 24 = .ok (.invokespecial 69, 3) := by decide +kernel
theorem d_kr_partT_27 : decode b_kr_partT 27 = .ok (.athrow, 1) := by decide +kernel
theorem d_kr_partT_28 : decode b_kr_partT 28 = .ok (.aload_n 0, 1) := by decide +kernel
theorem d_kr_partT_29 : decode b_kr_partT 29 = .ok (.getfield 29, 3) := by decide +kernel
theorem d_kr_partT_32 : decode b_kr_partT 32 = .ok (.iload_n 1, 1) := by decide +kernel
theorem d_kr_partT_33 : decode b_kr_partT 33 = .ok (.iload_n 2, 1) := by decide +kernel
theorem d_kr_partT_34 : decode b_kr_partT 34 = .ok (.invokevirtual 70, 3) := by decide +kernel
theorem d_kr_partT_37 : decode b_kr_partT 37 = .ok (.ireturn, 1) := by decide +kernel
abbrev b_kr_over : ByteArray := prog_1_method_7_code
def y_kr_over : MethodName := ⟨R_kr, "over", "(II)I"⟩
def w_kr_over : List Cond := .code y_kr_over b_kr_over 3 (some .int) :: kt_T
theorem d_kr_over_0 : decode b_kr_over 0 = .ok (.aload_n 0, 1) := by decide +kernel
theorem d_kr_over_1 : decode b_kr_over 1 = .ok (.getfield 29, 3) := by decide +kernel
theorem d_kr_over_4 : decode b_kr_over 4 = .ok (.iload_n 2, 1) := by decide +kernel
theorem d_kr_over_5 : decode b_kr_over 5 = .ok (.invokevirtual 58, 3) := by decide +kernel
theorem d_kr_over_8 : decode b_kr_over 8 = .ok (.ifCond .eq 26, 3) := by decide +kernel
theorem d_kr_over_11 : decode b_kr_over 11 = .ok (.aload_n 0, 1) := by decide +kernel
theorem d_kr_over_12 : decode b_kr_over 12 = .ok (.getfield 29, 3) := by decide +kernel
theorem d_kr_over_15 : decode b_kr_over 15 = .ok (.iload_n 2, 1) := by decide +kernel
theorem d_kr_over_16 : decode b_kr_over 16 = .ok (.invokevirtual 78, 3) := by decide +kernel
theorem d_kr_over_19 : decode b_kr_over 19 = .ok (.lconst 0, 1) := by decide +kernel
theorem d_kr_over_20 : decode b_kr_over 20 = .ok (.lcmp, 1) := by decide +kernel
theorem d_kr_over_21 : decode b_kr_over 21 = .ok (.ifCond .ne 13, 3) := by decide +kernel
theorem d_kr_over_24 : decode b_kr_over 24 = .ok (.new 47, 3) := by decide +kernel
theorem d_kr_over_27 : decode b_kr_over 27 = .ok (.dup, 1) := by decide +kernel
theorem d_kr_over_28 : decode b_kr_over 28 = .ok (.ldc 85, 2) := by decide +kernel
theorem d_kr_over_30 : decode b_kr_over 30 = .ok (.invokespecial 51, 3) := by decide +kernel
theorem d_kr_over_33 : decode b_kr_over 33 = .ok (.athrow, 1) := by decide +kernel
theorem d_kr_over_34 : decode b_kr_over 34 = .ok (.aload_n 0, 1) := by decide +kernel
theorem d_kr_over_35 : decode b_kr_over 35 = .ok (.getfield 29, 3) := by decide +kernel
theorem d_kr_over_38 : decode b_kr_over 38 = .ok (.iload_n 1, 1) := by decide +kernel
theorem d_kr_over_39 : decode b_kr_over 39 = .ok (.iload_n 2, 1) := by decide +kernel
theorem d_kr_over_40 : decode b_kr_over 40 = .ok (.invokevirtual 74, 3) := by decide +kernel
theorem d_kr_over_43 : decode b_kr_over 43 = .ok (.ifCond .ne 5, 3) := by decide +kernel
theorem d_kr_over_46 : decode b_kr_over 46 = .ok (.iconst (-1), 1) := by decide +kernel
theorem d_kr_over_47 : decode b_kr_over 47 = .ok (.ireturn, 1) := by decide +kernel
theorem d_kr_over_48 : decode b_kr_over 48 = .ok (.aload_n 0, 1) := by decide +kernel
theorem d_kr_over_49 : decode b_kr_over 49 = .ok (.getfield 29, 3) := by decide +kernel
theorem d_kr_over_52 : decode b_kr_over 52 = .ok (.aload_n 0, 1) := by decide +kernel
theorem d_kr_over_53 : decode b_kr_over 53 = .ok (.getfield 29, 3) := by decide +kernel
theorem d_kr_over_56 : decode b_kr_over 56 = .ok (.iload_n 1, 1) := by decide +kernel
theorem d_kr_over_57 : decode b_kr_over 57 = .ok (.invokevirtual 78, 3) := by decide +kernel
theorem d_kr_over_60 : decode b_kr_over 60 = .ok (.aload_n 0, 1) := by decide +kernel
theorem d_kr_over_61 : decode b_kr_over 61 = .ok (.getfield 29, 3) := by decide +kernel
theorem d_kr_over_64 : decode b_kr_over 64 = .ok (.iload_n 2, 1) := by decide +kernel
theorem d_kr_over_65 : decode b_kr_over 65 = .ok (.invokevirtual 82, 3) := by decide +kernel
theorem d_kr_over_68 : decode b_kr_over 68 = .ok (.lmul, 1) := by decide +kernel
theorem d_kr_over_69 : decode b_kr_over 69 = .ok (.aload_n 0, 1) := by decide +kernel
theorem d_kr_over_70 : decode b_kr_over 70 = .ok (.getfield 29, 3) := by decide +kernel
theorem d_kr_over_73 : decode b_kr_over 73 = .ok (.iload_n 1, 1) := by decide +kernel
theorem d_kr_over_74 : decode b_kr_over 74 = .ok (.invokevirtual 82, 3) := by decide +kernel
theorem d_kr_over_77 : decode b_kr_over 77 = .ok (.aload_n 0, 1) := by decide +kernel
theorem d_kr_over_78 : decode b_kr_over 78 = .ok (.getfield 29, 3) := by decide +kernel
theorem d_kr_over_81 : decode b_kr_over 81 = .ok (.iload_n 2, 1) := by decide +kernel
theorem d_kr_over_82 : decode b_kr_over 82 = .ok (.invokevirtual 78, 3) := by decide +kernel
theorem d_kr_over_85 : decode b_kr_over 85 = .ok (.lmul, 1) := by decide +kernel
theorem d_kr_over_86 : decode b_kr_over 86 = .ok (.invokevirtual 54, 3) := by decide +kernel
theorem d_kr_over_89 : decode b_kr_over 89 = .ok (.ireturn, 1) := by decide +kernel
abbrev b_kr_overT : ByteArray := prog_1_method_7_code
def y_kr_overT : MethodName := ⟨R_kr, "over", "(II)I"⟩
def w_kr_overT : List Cond := .code y_kr_overT b_kr_overT 3 (some .int) :: kt_T
theorem d_kr_overT_0 : decode b_kr_overT 0 = .ok (.aload_n 0, 1) := by decide +kernel
theorem d_kr_overT_1 : decode b_kr_overT 1 = .ok (.getfield 29, 3) := by decide +kernel
theorem d_kr_overT_4 : decode b_kr_overT 4 = .ok (.iload_n 2, 1) := by decide +kernel
theorem d_kr_overT_5 : decode b_kr_overT 5 = .ok (.invokevirtual 58, 3) := by decide +kernel
theorem d_kr_overT_8 : decode b_kr_overT 8 = .ok (.ifCond .eq 26, 3) := by decide +kernel
theorem d_kr_overT_11 : decode b_kr_overT 11 = .ok (.aload_n 0, 1) := by decide +kernel
theorem d_kr_overT_12 : decode b_kr_overT 12 = .ok (.getfield 29, 3) := by decide +kernel
theorem d_kr_overT_15 : decode b_kr_overT 15 = .ok (.iload_n 2, 1) := by decide +kernel
theorem d_kr_overT_16 : decode b_kr_overT 16 = .ok (.invokevirtual 78, 3) := by decide +kernel
theorem d_kr_overT_19 : decode b_kr_overT 19 = .ok (.lconst 0, 1) := by decide +kernel
theorem d_kr_overT_20 : decode b_kr_overT 20 = .ok (.lcmp, 1) := by decide +kernel
theorem d_kr_overT_21 : decode b_kr_overT 21 = .ok (.ifCond .ne 13, 3) := by decide +kernel
theorem d_kr_overT_24 : decode b_kr_overT 24 = .ok (.new 47, 3) := by decide +kernel
theorem d_kr_overT_27 : decode b_kr_overT 27 = .ok (.dup, 1) := by decide +kernel
theorem d_kr_overT_28 : decode b_kr_overT 28 = .ok (.ldc 85, 2) := by decide +kernel
theorem d_kr_overT_30 : decode b_kr_overT 30 = .ok (.invokespecial 51, 3) := by decide +kernel
theorem d_kr_overT_33 : decode b_kr_overT 33 = .ok (.athrow, 1) := by decide +kernel
theorem d_kr_overT_34 : decode b_kr_overT 34 = .ok (.aload_n 0, 1) := by decide +kernel
theorem d_kr_overT_35 : decode b_kr_overT 35 = .ok (.getfield 29, 3) := by decide +kernel
theorem d_kr_overT_38 : decode b_kr_overT 38 = .ok (.iload_n 1, 1) := by decide +kernel
theorem d_kr_overT_39 : decode b_kr_overT 39 = .ok (.iload_n 2, 1) := by decide +kernel
theorem d_kr_overT_40 : decode b_kr_overT 40 = .ok (.invokevirtual 74, 3) := by decide +kernel
theorem d_kr_overT_43 : decode b_kr_overT 43 = .ok (.ifCond .ne 5, 3) := by decide +kernel
theorem d_kr_overT_46 : decode b_kr_overT 46 = .ok (.iconst (-1), 1) := by decide +kernel
theorem d_kr_overT_47 : decode b_kr_overT 47 = .ok (.ireturn, 1) := by decide +kernel
theorem d_kr_overT_48 : decode b_kr_overT 48 = .ok (.aload_n 0, 1) := by decide +kernel
theorem d_kr_overT_49 : decode b_kr_overT 49 = .ok (.getfield 29, 3) := by decide +kernel
theorem d_kr_overT_52 : decode b_kr_overT 52 = .ok (.aload_n 0, 1) := by decide +kernel
theorem d_kr_overT_53 : decode b_kr_overT 53 = .ok (.getfield 29, 3) := by decide +kernel
theorem d_kr_overT_56 : decode b_kr_overT 56 = .ok (.iload_n 1, 1) := by decide +kernel
theorem d_kr_overT_57 : decode b_kr_overT 57 = .ok (.invokevirtual 78, 3) := by decide +kernel
theorem d_kr_overT_60 : decode b_kr_overT 60 = .ok (.aload_n 0, 1) := by decide +kernel
theorem d_kr_overT_61 : decode b_kr_overT 61 = .ok (.getfield 29, 3) := by decide +kernel
theorem d_kr_overT_64 : decode b_kr_overT 64 = .ok (.iload_n 2, 1) := by decide +kernel
theorem d_kr_overT_65 : decode b_kr_overT 65 = .ok (.invokevirtual 82, 3) := by decide +kernel
theorem d_kr_overT_68 : decode b_kr_overT 68 = .ok (.lmul, 1) := by decide +kernel
theorem d_kr_overT_69 : decode b_kr_overT 69 = .ok (.aload_n 0, 1) := by decide +kernel
theorem d_kr_overT_70 : decode b_kr_overT 70 = .ok (.getfield 29, 3) := by decide +kernel
theorem d_kr_overT_73 : decode b_kr_overT 73 = .ok (.iload_n 1, 1) := by decide +kernel
theorem d_kr_overT_74 : decode b_kr_overT 74 = .ok (.invokevirtual 82, 3) := by decide +kernel
theorem d_kr_overT_77 : decode b_kr_overT 77 = .ok (.aload_n 0, 1) := by decide +kernel
theorem d_kr_overT_78 : decode b_kr_overT 78 = .ok (.getfield 29, 3) := by decide +kernel
theorem d_kr_overT_81 : decode b_kr_overT 81 = .ok (.iload_n 2, 1) := by decide +kernel
theorem d_kr_overT_82 : decode b_kr_overT 82 = .ok (.invokevirtual 78, 3) := by decide +kernel
theorem d_kr_overT_85 : decode b_kr_overT 85 = .ok (.lmul, 1) := by decide +kernel
theorem d_kr_overT_86 : decode b_kr_overT 86 = .ok (.invokevirtual 54, 3) := by decide +kernel
theorem d_kr_overT_89 : decode b_kr_overT 89 = .ok (.ireturn, 1) := by decide +kernel
abbrev b_kr_put : ByteArray := prog_1_method_12_code
def y_kr_put : MethodName := ⟨R_kr, "put", "(III)Z"⟩
def w_kr_put : List Cond := .code y_kr_put b_kr_put 4 (some .boolean) :: kt_T
theorem d_kr_put_0 : decode b_kr_put 0 = .ok (.aload_n 0, 1) := by decide +kernel
theorem d_kr_put_1 : decode b_kr_put 1 = .ok (.iload_n 1, 1) := by decide +kernel
theorem d_kr_put_2 : decode b_kr_put 2 = .ok (.invokevirtual 108, 3) := by decide +kernel
theorem d_kr_put_5 : decode b_kr_put 5 = .ok (.ifCond .ne 5, 3) := by decide +kernel
theorem d_kr_put_8 : decode b_kr_put 8 = .ok (.iconst 0, 1) := by decide +kernel
theorem d_kr_put_9 : decode b_kr_put 9 = .ok (.ireturn, 1) := by decide +kernel
theorem d_kr_put_10 : decode b_kr_put 10 = .ok (.aload_n 0, 1) := by decide +kernel
theorem d_kr_put_11 : decode b_kr_put 11 = .ok (.iload_n 2, 1) := by decide +kernel
theorem d_kr_put_12 : decode b_kr_put 12 = .ok (.invokevirtual 111, 3) := by decide +kernel
theorem d_kr_put_15 : decode b_kr_put 15 = .ok (.ifCond .ne 13, 3) := by decide +kernel
theorem d_kr_put_18 : decode b_kr_put 18 = .ok (.new 65, 3) := by decide +kernel
theorem d_kr_put_21 : decode b_kr_put 21 = .ok (.dup, 1) := by decide +kernel
theorem d_kr_put_22 : decode b_kr_put 22 = .ok (.ldc 114, 2) := by decide +kernel
theorem d_kr_put_24 : decode b_kr_put 24 = .ok (.invokespecial 69, 3) := by decide +kernel
theorem d_kr_put_27 : decode b_kr_put 27 = .ok (.athrow, 1) := by decide +kernel
theorem d_kr_put_28 : decode b_kr_put 28 = .ok (.iload_n 3, 1) := by decide +kernel
theorem d_kr_put_29 : decode b_kr_put 29 = .ok (.iconst (-1), 1) := by decide +kernel
theorem d_kr_put_30 : decode b_kr_put 30 = .ok (.if_icmp .eq 16, 3) := by decide +kernel
theorem d_kr_put_33 : decode b_kr_put 33 = .ok (.aload_n 0, 1) := by decide +kernel
theorem d_kr_put_34 : decode b_kr_put 34 = .ok (.getfield 29, 3) := by decide +kernel
theorem d_kr_put_37 : decode b_kr_put 37 = .ok (.iload_n 3, 1) := by decide +kernel
theorem d_kr_put_38 : decode b_kr_put 38 = .ok (.invokevirtual 58, 3) := by decide +kernel
theorem d_kr_put_41 : decode b_kr_put 41 = .ok (.ifCond .ne 5, 3) := by decide +kernel
theorem d_kr_put_44 : decode b_kr_put 44 = .ok (.iconst 0, 1) := by decide +kernel
theorem d_kr_put_45 : decode b_kr_put 45 = .ok (.ireturn, 1) := by decide +kernel
theorem d_kr_put_46 : decode b_kr_put 46 = .ok (.aload_n 0, 1) := by decide +kernel
theorem d_kr_put_47 : decode b_kr_put 47 = .ok (.getfield 13, 3) := by decide +kernel
theorem d_kr_put_50 : decode b_kr_put 50 = .ok (.iload_n 1, 1) := by decide +kernel
theorem d_kr_put_51 : decode b_kr_put 51 = .ok (.aload_n 0, 1) := by decide +kernel
theorem d_kr_put_52 : decode b_kr_put 52 = .ok (.getfield 9, 3) := by decide +kernel
theorem d_kr_put_55 : decode b_kr_put 55 = .ok (.imul, 1) := by decide +kernel
theorem d_kr_put_56 : decode b_kr_put 56 = .ok (.iload_n 2, 1) := by decide +kernel
theorem d_kr_put_57 : decode b_kr_put 57 = .ok (.iadd, 1) := by decide +kernel
theorem d_kr_put_58 : decode b_kr_put 58 = .ok (.iload_n 3, 1) := by decide +kernel
theorem d_kr_put_59 : decode b_kr_put 59 = .ok (.iastore, 1) := by decide +kernel
theorem d_kr_put_60 : decode b_kr_put 60 = .ok (.iconst 1, 1) := by decide +kernel
theorem d_kr_put_61 : decode b_kr_put 61 = .ok (.ireturn, 1) := by decide +kernel
abbrev b_kr_putT : ByteArray := prog_1_method_12_code
def y_kr_putT : MethodName := ⟨R_kr, "put", "(III)Z"⟩
def w_kr_putT : List Cond := .code y_kr_putT b_kr_putT 4 (some .boolean) :: kt_T
theorem d_kr_putT_0 : decode b_kr_putT 0 = .ok (.aload_n 0, 1) := by decide +kernel
theorem d_kr_putT_1 : decode b_kr_putT 1 = .ok (.iload_n 1, 1) := by decide +kernel
theorem d_kr_putT_2 : decode b_kr_putT 2 = .ok (.invokevirtual 108, 3) := by decide +kernel
theorem d_kr_putT_5 : decode b_kr_putT 5 = .ok (.ifCond .ne 5, 3) := by decide +kernel
theorem d_kr_putT_8 : decode b_kr_putT 8 = .ok (.iconst 0, 1) := by decide +kernel
theorem d_kr_putT_9 : decode b_kr_putT 9 = .ok (.ireturn, 1) := by decide +kernel
theorem d_kr_putT_10 : decode b_kr_putT 10 = .ok (.aload_n 0, 1) := by decide +kernel
theorem d_kr_putT_11 : decode b_kr_putT 11 = .ok (.iload_n 2, 1) := by decide +kernel
theorem d_kr_putT_12 : decode b_kr_putT 12 = .ok (.invokevirtual 111, 3) := by decide +kernel
theorem d_kr_putT_15 : decode b_kr_putT 15 = .ok (.ifCond .ne 13, 3) := by decide +kernel
theorem d_kr_putT_18 : decode b_kr_putT 18 = .ok (.new 65, 3) := by decide +kernel
theorem d_kr_putT_21 : decode b_kr_putT 21 = .ok (.dup, 1) := by decide +kernel
theorem d_kr_putT_22 : decode b_kr_putT 22 = .ok (.ldc 114, 2) := by decide +kernel
theorem d_kr_putT_24 : decode b_kr_putT 24 = .ok (.invokespecial 69, 3) := by decide +kernel
theorem d_kr_putT_27 : decode b_kr_putT 27 = .ok (.athrow, 1) := by decide +kernel
theorem d_kr_putT_28 : decode b_kr_putT 28 = .ok (.iload_n 3, 1) := by decide +kernel
theorem d_kr_putT_29 : decode b_kr_putT 29 = .ok (.iconst (-1), 1) := by decide +kernel
theorem d_kr_putT_30 : decode b_kr_putT 30 = .ok (.if_icmp .eq 16, 3) := by decide +kernel
theorem d_kr_putT_33 : decode b_kr_putT 33 = .ok (.aload_n 0, 1) := by decide +kernel
theorem d_kr_putT_34 : decode b_kr_putT 34 = .ok (.getfield 29, 3) := by decide +kernel
theorem d_kr_putT_37 : decode b_kr_putT 37 = .ok (.iload_n 3, 1) := by decide +kernel
theorem d_kr_putT_38 : decode b_kr_putT 38 = .ok (.invokevirtual 58, 3) := by decide +kernel
theorem d_kr_putT_41 : decode b_kr_putT 41 = .ok (.ifCond .ne 5, 3) := by decide +kernel
theorem d_kr_putT_44 : decode b_kr_putT 44 = .ok (.iconst 0, 1) := by decide +kernel
theorem d_kr_putT_45 : decode b_kr_putT 45 = .ok (.ireturn, 1) := by decide +kernel
theorem d_kr_putT_46 : decode b_kr_putT 46 = .ok (.aload_n 0, 1) := by decide +kernel
theorem d_kr_putT_47 : decode b_kr_putT 47 = .ok (.getfield 13, 3) := by decide +kernel
theorem d_kr_putT_50 : decode b_kr_putT 50 = .ok (.iload_n 1, 1) := by decide +kernel
theorem d_kr_putT_51 : decode b_kr_putT 51 = .ok (.aload_n 0, 1) := by decide +kernel
theorem d_kr_putT_52 : decode b_kr_putT 52 = .ok (.getfield 9, 3) := by decide +kernel
theorem d_kr_putT_55 : decode b_kr_putT 55 = .ok (.imul, 1) := by decide +kernel
theorem d_kr_putT_56 : decode b_kr_putT 56 = .ok (.iload_n 2, 1) := by decide +kernel
theorem d_kr_putT_57 : decode b_kr_putT 57 = .ok (.iadd, 1) := by decide +kernel
theorem d_kr_putT_58 : decode b_kr_putT 58 = .ok (.iload_n 3, 1) := by decide +kernel
theorem d_kr_putT_59 : decode b_kr_putT 59 = .ok (.iastore, 1) := by decide +kernel
theorem d_kr_putT_60 : decode b_kr_putT 60 = .ok (.iconst 1, 1) := by decide +kernel
theorem d_kr_putT_61 : decode b_kr_putT 61 = .ok (.ireturn, 1) := by decide +kernel
abbrev b_kr_at : ByteArray := prog_1_method_13_code
def y_kr_at : MethodName := ⟨R_kr, "at", "(II)I"⟩
def w_kr_at : List Cond := .code y_kr_at b_kr_at 3 (some .int) :: kt_T
theorem d_kr_at_0 : decode b_kr_at 0 = .ok (.aload_n 0, 1) := by decide +kernel
theorem d_kr_at_1 : decode b_kr_at 1 = .ok (.iload_n 1, 1) := by decide +kernel
theorem d_kr_at_2 : decode b_kr_at 2 = .ok (.invokevirtual 108, 3) := by decide +kernel
theorem d_kr_at_5 : decode b_kr_at 5 = .ok (.ifCond .ne 5, 3) := by decide +kernel
theorem d_kr_at_8 : decode b_kr_at 8 = .ok (.iconst (-1), 1) := by decide +kernel
theorem d_kr_at_9 : decode b_kr_at 9 = .ok (.ireturn, 1) := by decide +kernel
theorem d_kr_at_10 : decode b_kr_at 10 = .ok (.aload_n 0, 1) := by decide +kernel
theorem d_kr_at_11 : decode b_kr_at 11 = .ok (.iload_n 2, 1) := by decide +kernel
theorem d_kr_at_12 : decode b_kr_at 12 = .ok (.invokevirtual 111, 3) := by decide +kernel
theorem d_kr_at_15 : decode b_kr_at 15 = .ok (.ifCond .ne 13, 3) := by decide +kernel
theorem d_kr_at_18 : decode b_kr_at 18 = .ok (.new 65, 3) := by decide +kernel
theorem d_kr_at_21 : decode b_kr_at 21 = .ok (.dup, 1) := by decide +kernel
theorem d_kr_at_22 : decode b_kr_at 22 = .ok (.ldc 114, 2) := by decide +kernel
theorem d_kr_at_24 : decode b_kr_at 24 = .ok (.invokespecial 69, 3) := by decide +kernel
theorem d_kr_at_27 : decode b_kr_at 27 = .ok (.athrow, 1) := by decide +kernel
theorem d_kr_at_28 : decode b_kr_at 28 = .ok (.aload_n 0, 1) := by decide +kernel
theorem d_kr_at_29 : decode b_kr_at 29 = .ok (.getfield 13, 3) := by decide +kernel
theorem d_kr_at_32 : decode b_kr_at 32 = .ok (.iload_n 1, 1) := by decide +kernel
theorem d_kr_at_33 : decode b_kr_at 33 = .ok (.aload_n 0, 1) := by decide +kernel
theorem d_kr_at_34 : decode b_kr_at 34 = .ok (.getfield 9, 3) := by decide +kernel
theorem d_kr_at_37 : decode b_kr_at 37 = .ok (.imul, 1) := by decide +kernel
theorem d_kr_at_38 : decode b_kr_at 38 = .ok (.iload_n 2, 1) := by decide +kernel
theorem d_kr_at_39 : decode b_kr_at 39 = .ok (.iadd, 1) := by decide +kernel
theorem d_kr_at_40 : decode b_kr_at 40 = .ok (.iaload, 1) := by decide +kernel
theorem d_kr_at_41 : decode b_kr_at 41 = .ok (.ireturn, 1) := by decide +kernel
abbrev b_kr_atT : ByteArray := prog_1_method_13_code
def y_kr_atT : MethodName := ⟨R_kr, "at", "(II)I"⟩
def w_kr_atT : List Cond := .code y_kr_atT b_kr_atT 3 (some .int) :: kt_T
theorem d_kr_atT_0 : decode b_kr_atT 0 = .ok (.aload_n 0, 1) := by decide +kernel
theorem d_kr_atT_1 : decode b_kr_atT 1 = .ok (.iload_n 1, 1) := by decide +kernel
theorem d_kr_atT_2 : decode b_kr_atT 2 = .ok (.invokevirtual 108, 3) := by decide +kernel
theorem d_kr_atT_5 : decode b_kr_atT 5 = .ok (.ifCond .ne 5, 3) := by decide +kernel
theorem d_kr_atT_8 : decode b_kr_atT 8 = .ok (.iconst (-1), 1) := by decide +kernel
theorem d_kr_atT_9 : decode b_kr_atT 9 = .ok (.ireturn, 1) := by decide +kernel
theorem d_kr_atT_10 : decode b_kr_atT 10 = .ok (.aload_n 0, 1) := by decide +kernel
theorem d_kr_atT_11 : decode b_kr_atT 11 = .ok (.iload_n 2, 1) := by decide +kernel
theorem d_kr_atT_12 : decode b_kr_atT 12 = .ok (.invokevirtual 111, 3) := by decide +kernel
theorem d_kr_atT_15 : decode b_kr_atT 15 = .ok (.ifCond .ne 13, 3) := by decide +kernel
theorem d_kr_atT_18 : decode b_kr_atT 18 = .ok (.new 65, 3) := by decide +kernel
theorem d_kr_atT_21 : decode b_kr_atT 21 = .ok (.dup, 1) := by decide +kernel
theorem d_kr_atT_22 : decode b_kr_atT 22 = .ok (.ldc 114, 2) := by decide +kernel
theorem d_kr_atT_24 : decode b_kr_atT 24 = .ok (.invokespecial 69, 3) := by decide +kernel
theorem d_kr_atT_27 : decode b_kr_atT 27 = .ok (.athrow, 1) := by decide +kernel
theorem d_kr_atT_28 : decode b_kr_atT 28 = .ok (.aload_n 0, 1) := by decide +kernel
theorem d_kr_atT_29 : decode b_kr_atT 29 = .ok (.getfield 13, 3) := by decide +kernel
theorem d_kr_atT_32 : decode b_kr_atT 32 = .ok (.iload_n 1, 1) := by decide +kernel
theorem d_kr_atT_33 : decode b_kr_atT 33 = .ok (.aload_n 0, 1) := by decide +kernel
theorem d_kr_atT_34 : decode b_kr_atT 34 = .ok (.getfield 9, 3) := by decide +kernel
theorem d_kr_atT_37 : decode b_kr_atT 37 = .ok (.imul, 1) := by decide +kernel
theorem d_kr_atT_38 : decode b_kr_atT 38 = .ok (.iload_n 2, 1) := by decide +kernel
theorem d_kr_atT_39 : decode b_kr_atT 39 = .ok (.iadd, 1) := by decide +kernel
theorem d_kr_atT_40 : decode b_kr_atT 40 = .ok (.iaload, 1) := by decide +kernel
theorem d_kr_atT_41 : decode b_kr_atT 41 = .ok (.ireturn, 1) := by decide +kernel
theorem k_211 : (.classLink R_kr 47 "java/lang/ArithmeticException" : Cond) ∈ kt_T := List.mem_filter.mpr ⟨List.mem_of_getElem? (i := 285) (by decide +kernel), by decide +kernel⟩
theorem k_212 : (.initialized "java/lang/ArithmeticException" : Cond) ∈ kt_T := List.mem_filter.mpr ⟨List.mem_of_getElem? (i := 25) (by decide +kernel), by decide +kernel⟩
theorem k_213 : (.instantiable "java/lang/ArithmeticException" 6 : Cond) ∈ kt_T := List.mem_filter.mpr ⟨List.mem_of_getElem? (i := 286) (by decide +kernel), by decide +kernel⟩
theorem k_214 : (.classLink R_kr 65 "java/lang/IndexOutOfBoundsException" : Cond) ∈ kt_T := List.mem_filter.mpr ⟨List.mem_of_getElem? (i := 360) (by decide +kernel), by decide +kernel⟩
theorem k_215 : (.initialized "java/lang/IndexOutOfBoundsException" : Cond) ∈ kt_T := List.mem_filter.mpr ⟨List.mem_of_getElem? (i := 26) (by decide +kernel), by decide +kernel⟩
theorem k_216 : (.instantiable "java/lang/IndexOutOfBoundsException" 6 : Cond) ∈ kt_T := List.mem_filter.mpr ⟨List.mem_of_getElem? (i := 361) (by decide +kernel), by decide +kernel⟩
theorem k_217 : (.code y_kr_hasKind b_kr_hasKind 2 (some .boolean) : Cond) ∈ kt_T := List.mem_filter.mpr ⟨List.mem_of_getElem? (i := 394) (by decide +kernel), by decide +kernel⟩
theorem k_218 : (.instanceMethod y_kr_hasKind : Cond) ∈ kt_T := List.mem_filter.mpr ⟨List.mem_of_getElem? (i := 393) (by decide +kernel), by decide +kernel⟩
theorem k_219 : (.selects R_kr y_kr_hasKind y_kr_hasKind : Cond) ∈ kt_T := List.mem_filter.mpr ⟨List.mem_of_getElem? (i := 6) (by decide +kernel), by decide +kernel⟩
theorem k_220 : (.methodLink R_kr 111 y_kr_hasKind : Cond) ∈ kt_T := List.mem_filter.mpr ⟨List.mem_of_getElem? (i := 391) (by decide +kernel), by decide +kernel⟩
theorem bl_T {av : List Value} {D : va_G} {cl : List vw_C} {ws : va_W} {tys : List (ClassId × FieldType)} {AZ : Nat → Prop} {own tx : String} {k sa : Nat} : FrameBlind (va_Pc av (fun U => va_P D cl ws U.heap ∧ va_K D cl tys U ∧ kt_N2 U ∧ kt_Z AZ U U.heap ∧ vk_R own k tx sa U)) := fun a U g mk q => ⟨q.1, q.2.1, va_K.moved (u := U) (U := U.calling g mk a) (Vm.Alike.refl U.vm) q.2.2.1, kt_N2.same (s := U) (U := U.calling g mk a) rfl q.2.2.2.1, kt_Z.moved (u := U) (U := U.calling g mk a) (Vm.Alike.refl U.vm) q.2.2.2.2.1, vk_R.same (u := U) (U := U.calling g mk a) rfl q.2.2.2.2.2⟩
def f_kr_value (cnt : Int32) (fu : Nat → Int32) (fl : Nat → Int32) (a : Int64) (b : Int64) : Int32 × (Nat → Int32) × (Nat → Int32) × Int32 :=
  if b = 0 then (0, fu, fl, cnt) else (f_kv_keep cnt fu fl a b)
set_option maxHeartbeats 4000000 in
set_option maxRecDepth 100000 in
theorem c_kr_value (l : Launch) (dC : Nat → ClassId) (dI : Nat → Nat → Nat) (sz : Nat) (ak : Nat) (a0 : Nat) (a1 : Nat) (a2 : Nat) (kinds : Int32) (ac : Nat) (rowc : Int32) (a_s : Nat) (a_w : Nat) (cnt : Int32) (cU : ClassId) (fu : Nat → Int32) (cL : ClassId) (fl : Nat → Int32) (a : Int64) (b : Int64) (hc : vp_in cnt 301) (hnt : ¬ b = 0) : Met l y_kr_value w_kr_value ({ frames := 2, cells := 0, slots := 0, locals := 60 }) (va_Pc [.ref ak, .long a, .long b] (fun U => U.heap.size = sz ∧ va_P (dC, dI) classes [(ak, .inr (0, [.int kinds, .ref ac, .int rowc, .ref a0, .ref a_s, .ref a_w])), (a0, .inr (1, [.ref a1, .ref a2, .int cnt])), (a1, .inl (cU, 300, .inl fu)), (a2, .inl (cL, 300, .inl fl))] U.heap ∧ va_K (dC, dI) classes [(cU, .int), (cL, .int)] U ∧ va_D (fun _ => True) [(ak, .inr (0, [.int kinds, .ref ac, .int rowc, .ref a0, .ref a_s, .ref a_w])), (a0, .inr (1, [.ref a1, .ref a2, .int cnt])), (a1, .inl (cU, 300, .inl fu)), (a2, .inl (cL, 300, .inl fl))] ∧ kt_N U)) (va_Qi (fun z9 u9 => (z9, u9) = f_kr_value cnt fu fl a b) (fun (u : (Nat → Int32) × (Nat → Int32) × Int32) t => match u with | (fu', fl', cnt') => va_P (dC, dI) classes [(ak, .inr (0, [.int kinds, .ref ac, .int rowc, .ref a0, .ref a_s, .ref a_w])), (a0, .inr (1, [.ref a1, .ref a2, .int cnt'])), (a1, .inl (cU, 300, .inl fu')), (a2, .inl (cL, 300, .inl fl'))] t.heap ∧ va_K (dC, dI) classes [(cU, .int), (cL, .int)] t ∧ va_D (va_A [(ak, .inr (0, [.int kinds, .ref ac, .int rowc, .ref a0, .ref a_s, .ref a_w])), (a0, .inr (1, [.ref a1, .ref a2, .int cnt])), (a1, .inl (cU, 300, .inl fu)), (a2, .inl (cL, 300, .inl fl))] sz) [(ak, .inr (0, [.int kinds, .ref ac, .int rowc, .ref a0, .ref a_s, .ref a_w])), (a0, .inr (1, [.ref a1, .ref a2, .int cnt'])), (a1, .inl (cU, 300, .inl fu')), (a2, .inl (cL, 300, .inl fl'))]) (va_A [(ak, .inr (0, [.int kinds, .ref ac, .int rowc, .ref a0, .ref a_s, .ref a_w])), (a0, .inr (1, [.ref a1, .ref a2, .int cnt])), (a1, .inl (cU, 300, .inl fu)), (a2, .inl (cL, 300, .inl fl))] sz)) 0 0 (va_A [(ak, .inr (0, [.int kinds, .ref ac, .int rowc, .ref a0, .ref a_s, .ref a_w])), (a0, .inr (1, [.ref a1, .ref a2, .int cnt])), (a1, .inl (cU, 300, .inl fu)), (a2, .inl (cL, 300, .inl fl))] sz) := by
  refine Met.ofW (cc := b_kr_value) (maxL := 5) (ret := (some .int)) (by decide +kernel) rfl ?_
  intro p e s m args below meth c s₁ B hml hv
  obtain ⟨rfl, hsz, hP, hK, hD0, hN⟩ := hv
  have hx := B.exec
  have hb := B.bytes
  have hr := B.returns
  have hts := atoms_spec (ws := w_kr_value) B.pre
  have hT := fun (w : Cond) (h : w ∈ kt_T) => hts w (List.mem_cons_of_mem _ h)
  have hown : s.vm.findClass R_kr = some m.cls := findClass_of_methodNamed B.named
  have hlocks := B.notSynchronized
  subst hsz
  have hD := hD0.self (sz := s.heap.size)
  generalize hAe : va_A [(ak, .inr (0, [.int kinds, .ref ac, .int rowc, .ref a0, .ref a_s, .ref a_w])), (a0, .inr (1, [.ref a1, .ref a2, .int cnt])), (a1, .inl (cU, 300, .inl fu)), (a2, .inl (cL, 300, .inl fl))] s.heap.size = A at hD ⊢
  have hA : ∀ q : Nat, s.heap.size ≤ q → A q := fun q h => by rw [← hAe]; exact Or.inr h
  have hS : va_S A s.heap s.heap [] := va_S.rf
  have hl := lv_entry ([.ref ak, .long a, .long b]) (n := 5) (Nat.le_of_ble_eq_true rfl)
  rw [lg_entry_eq]
  generalize (lg_sl ([.ref ak, .long a, .long b]) ++ List.replicate (5 - (lg_sl ([.ref ak, .long a, .long b])).length) Slot.unset).toArray = ls at hl ⊢
  have hl : lv_has ls 5 [(0, .ref ak), (1, .long a), (3, .long b)] := hl
  refine lv_lload_n hx hb d_kr_value_0 rfl (lv_at hl 2 rfl) ?_
  refine lv_lconst (v := 0) hx hb d_kr_value_1 (by decide) ?_
  refine lx_ifne (tgt := 16) hx hb d_kr_value_2 d_kr_value_3 (by decide) (fun c_1 => ?_) (fun c_1 => ?_)
  · refine lv_aload_n hx hb d_kr_value_16 rfl (lv_at hl 0 rfl) ?_
    refine va_get (D := (dC, dI)) (ci := 0) (v := .ref a0) (C := R_kr) (T := F_kr) (N := 6) hx hb hT i_kr hown hK hP 0 rfl rfl 3 (by decide) (hT _ k_19) (fun _ h9 => h9) rfl d_kr_value_17 ?_
    refine lv_lload_n hx hb d_kr_value_20 rfl (lv_at hl 1 rfl) ?_
    refine lv_lload_n hx hb d_kr_value_21 rfl (lv_at hl 2 rfl) ?_
    have hPc := hP.sub (ws' := [(a0, .inr (1, [.ref a1, .ref a2, .int cnt])), (a1, .inl (cU, 300, .inl fu)), (a2, .inl (cL, 300, .inl fl))]) [1, 2, 3] rfl
    have hKc := hK.sub (tys' := [(cU, .int), (cL, .int)]) [0, 1] rfl
    have hDc := hD.sub (ws' := [(a0, .inr (1, [.ref a1, .ref a2, .int cnt])), (a1, .inl (cU, 300, .inl fu)), (a2, .inl (cL, 300, .inl fl))]) [1, 2, 3] (by decide) rfl
    have hFc := va_free (wc := [(a0, .inr (1, [.ref a1, .ref a2, .int cnt])), (a1, .inl (cU, 300, .inl fu)), (a2, .inl (cL, 300, .inl fl))]) hD hS hA [1, 2, 3] rfl
    refine va_calli (va_runV (As := [.long a, .long b]) (rest := []) ⟨hx, hb, hml, hown, hT⟩ (c_kv_keep l dC dI s.heap.size a0 a1 a2 cnt cU fu cL fl a b hc) (cwV 2 hT (kt_V k_35 k_33 k_34 k_2 k_32) rfl rfl rfl (by decide +kernel) ⟨Nat.le_of_ble_eq_true rfl, Nat.le_of_ble_eq_true rfl⟩) ⟨bl_MN, va_recv hKc hPc (ci := 1) (q0 := 0) rfl rfl, fun U hU hW => ⟨rfl, by rw [hU], by rw [hU]; exact hPc, va_K.moved hW.alike hKc, hDc.weaken (fun _ _ _ _ => trivial), kt_N.warm hW hN⟩⟩ rfl rfl hl.1 rfl (lv_room (Nat.le_of_ble_eq_true rfl)) d_kr_value_22 ⟨Nat.zero_le _, Nat.zero_le _⟩) hS (fun q _ h => hFc q h) hFc (fun r_2 u t H1 locs ht hvm hw hB hz1 hk1 hS => ?_)
    obtain ⟨fu_2, fl_2, cnt_2⟩ := u
    obtain ⟨hP1, hK1, hD1⟩ := hB
    rw [ht] at hP1
    obtain ⟨hP, hD⟩ := va_join (wr := [(ak, .inr (0, [.int kinds, .ref ac, .int rowc, .ref a0, .ref a_s, .ref a_w]))]) (w1 := [(a0, .inr (1, [.ref a1, .ref a2, .int cnt_2])), (a1, .inl (cU, 300, .inl fu_2)), (a2, .inl (cL, 300, .inl fl_2))]) hP hD [1, 2, 3] [0] rfl rfl (by decide) (by decide) hk1 hFc hP1 hD1
    generalize H1 = H at hP hS ⊢
    have hP := hP.sub (ws' := [(ak, .inr (0, [.int kinds, .ref ac, .int rowc, .ref a0, .ref a_s, .ref a_w])), (a0, .inr (1, [.ref a1, .ref a2, .int cnt_2])), (a1, .inl (cU, 300, .inl fu_2)), (a2, .inl (cL, 300, .inl fl_2))]) [0, 1, 2, 3] rfl
    have hD := hD.sub (ws' := [(ak, .inr (0, [.int kinds, .ref ac, .int rowc, .ref a0, .ref a_s, .ref a_w])), (a0, .inr (1, [.ref a1, .ref a2, .int cnt_2])), (a1, .inl (cU, 300, .inl fu_2)), (a2, .inl (cL, 300, .inl fl_2))]) [0, 1, 2, 3] (by decide) rfl
    have e_r_2 : r_2 = (f_kv_keep cnt fu fl a b).1 := congrArg (fun z => z.1) hw
    have e_fu_2 : fu_2 = (f_kv_keep cnt fu fl a b).2.1 := congrArg (fun z => z.2.1) hw
    have e_fl_2 : fl_2 = (f_kv_keep cnt fu fl a b).2.2.1 := congrArg (fun z => z.2.2.1) hw
    have e_cnt_2 : cnt_2 = (f_kv_keep cnt fu fl a b).2.2.2 := congrArg (fun z => z.2.2.2) hw
    subst e_r_2 e_fu_2 e_fl_2 e_cnt_2
    clear hP1 hK1 hD1 hk1 hz1 hFc hDc hPc hKc
    exact W.iret (v := (f_kv_keep cnt fu fl a b).1) hx hb hr (fun t ht hW => ⟨⟨(f_kv_keep cnt fu fl a b).1, ((f_kv_keep cnt fu fl a b).2.1, (f_kv_keep cnt fu fl a b).2.2.1, (f_kv_keep cnt fu fl a b).2.2.2), rfl, by unfold f_kr_value; rw [if_neg c_1], by rw [ht]; exact hP, va_K.moved hW.alike hK, hD⟩, hS.F ht⟩) hS.2.2 d_kr_value_25
  · exact absurd c_1 hnt
theorem ow_kr_valueT : ∀ w ∈ Bundle.ownAtoms R_kr 51 "java/lang/ArithmeticException" ["java/lang/RuntimeException", "java/lang/Exception"], w ∈ kt_T ∨ w ∈ kt_nest2 ∨ w ∈ kz_4 := by decide +kernel
set_option maxHeartbeats 4000000 in
set_option maxRecDepth 100000 in
theorem c_kr_valueT (l : Launch) (hl9 : l.stackTraces = false) (dC : Nat → ClassId) (dI : Nat → Nat → Nat) (AZ : Nat → Prop) (sa : Nat) (ak : Nat) (a0 : Nat) (a1 : Nat) (a2 : Nat) (kinds : Int32) (ac : Nat) (rowc : Int32) (a_s : Nat) (a_w : Nat) (cnt : Int32) (cU : ClassId) (fu : Nat → Int32) (cL : ClassId) (fl : Nat → Int32) (a : Int64) (b : Int64) (ht : b = 0) : kz_Met l y_kr_valueT w_kr_valueT ({ frames := 6, cells := 1, slots := 6, locals := 82 }) (va_Pc [.ref ak, .long a, .long b] (fun U => va_P (dC, dI) classes [(ak, .inr (0, [.int kinds, .ref ac, .int rowc, .ref a0, .ref a_s, .ref a_w])), (a0, .inr (1, [.ref a1, .ref a2, .int cnt])), (a1, .inl (cU, 300, .inl fu)), (a2, .inl (cL, 300, .inl fl))] U.heap ∧ va_K (dC, dI) classes [(cU, .int), (cL, .int)] U ∧ kt_N2 U ∧ kt_Z AZ U U.heap ∧ vk_R R_kr 49 "the lower number is 0" sa U)) "java/lang/ArithmeticException" := by
  refine kz_ofW (cc := b_kr_valueT) (maxL := 5) (ret := (some .int)) (by decide +kernel) rfl ?_
  intro p e s m args below meth c s₁ B hml hno hv
  obtain ⟨rfl, hP, hK, hN2, hZ, hstr⟩ := hv
  have hx := B.exec
  have hb := B.bytes
  have hr := B.returns
  have hts := atoms_spec (ws := w_kr_valueT) B.pre
  have hT := fun (w : Cond) (h : w ∈ kt_T) => hts w (List.mem_cons_of_mem _ h)
  have hown : s.vm.findClass R_kr = some m.cls := findClass_of_methodNamed B.named
  have hlocks := B.notSynchronized
  have hl := lv_entry ([.ref ak, .long a, .long b]) (n := 5) (Nat.le_of_ble_eq_true rfl)
  rw [lg_entry_eq]
  generalize (lg_sl ([.ref ak, .long a, .long b]) ++ List.replicate (5 - (lg_sl ([.ref ak, .long a, .long b])).length) Slot.unset).toArray = ls at hl ⊢
  have hl : lv_has ls 5 [(0, .ref ak), (1, .long a), (3, .long b)] := hl
  refine lv_lload_n hx hb d_kr_valueT_0 rfl (lv_at hl 2 rfl) ?_
  refine lv_lconst (v := 0) hx hb d_kr_valueT_1 (by decide) ?_
  refine lx_ifne (tgt := 16) hx hb d_kr_valueT_2 d_kr_valueT_3 (by decide) (fun c_1 => ?_) (fun c_1 => ?_)
  · exact absurd ht c_1
  · exact kz_throw (own := R_kr) (cls := "java/lang/ArithmeticException") (names := ["java/lang/RuntimeException", "java/lang/Exception"]) hx hb hl9 hown (by decide +kernel) (by decide +kernel) (hT _ k_211) (hT _ k_212) (hT _ k_213) hstr (kz_own ow_kr_valueT hT hN2 hZ) (hl.1.trans hml.symm) d_kr_valueT_6 d_kr_valueT_9 d_kr_valueT_10 d_kr_valueT_12 d_kr_valueT_15 hno (Nat.le_of_ble_eq_true rfl) (Nat.le_of_ble_eq_true rfl) (Nat.le_of_ble_eq_true rfl) (Nat.le_of_ble_eq_true rfl) hlocks
def f_kr_part (cnt : Int32) (fu : Nat → Int32) (fl : Nat → Int32) (v : Int32) (q : Int32) : Int32 :=
  if (f_kv_has cnt v) = 0 then 0 else if (f_kr_isPart q) = 0 then 0 else (f_kv_partOf fu fl v q)
set_option maxHeartbeats 4000000 in
set_option maxRecDepth 100000 in
theorem c_kr_part (l : Launch) (dC : Nat → ClassId) (dI : Nat → Nat → Nat) (ak : Nat) (a0 : Nat) (a1 : Nat) (a2 : Nat) (kinds : Int32) (ac : Nat) (rowc : Int32) (a_s : Nat) (a_w : Nat) (cnt : Int32) (cU : ClassId) (fu : Nat → Int32) (cL : ClassId) (fl : Nat → Int32) (v : Int32) (q : Int32) (hc : vp_in cnt 301) (hnt : ¬ f_kv_has cnt v = 0 ∧ ¬ f_kr_isPart q = 0) : Met l y_kr_part w_kr_part ({ frames := 1, cells := 0, slots := 0, locals := 22 }) (va_Pc [.ref ak, .int v, .int q] (fun U => va_P (dC, dI) classes [(ak, .inr (0, [.int kinds, .ref ac, .int rowc, .ref a0, .ref a_s, .ref a_w])), (a0, .inr (1, [.ref a1, .ref a2, .int cnt])), (a1, .inl (cU, 300, .inl fu)), (a2, .inl (cL, 300, .inl fl))] U.heap ∧ va_K (dC, dI) classes [(cU, .int), (cL, .int)] U)) (vp_Si (fun z9 => z9 = f_kr_part cnt fu fl v q)) 0 0 (fun _ => False) := by
  refine Met.ofW (cc := b_kr_part) (maxL := 3) (ret := (some .int)) (by decide +kernel) rfl ?_
  intro p e s m args below meth c s₁ B hml hv
  obtain ⟨rfl, hP, hK⟩ := hv
  have hx := B.exec
  have hb := B.bytes
  have hr := B.returns
  have hts := atoms_spec (ws := w_kr_part) B.pre
  have hT := fun (w : Cond) (h : w ∈ kt_T) => hts w (List.mem_cons_of_mem _ h)
  have hown : s.vm.findClass R_kr = some m.cls := findClass_of_methodNamed B.named
  have hlocks := B.notSynchronized
  have hl := lv_entry ([.ref ak, .int v, .int q]) (n := 3) (Nat.le_of_ble_eq_true rfl)
  rw [lg_entry_eq]
  generalize (lg_sl ([.ref ak, .int v, .int q]) ++ List.replicate (3 - (lg_sl ([.ref ak, .int v, .int q])).length) Slot.unset).toArray = ls at hl ⊢
  have hl : lv_has ls 3 [(0, .ref ak), (1, .int v), (2, .int q)] := hl
  refine lv_aload_n hx hb d_kr_part_0 rfl (lv_at hl 0 rfl) ?_
  refine va_get (D := (dC, dI)) (ci := 0) (v := .ref a0) (C := R_kr) (T := F_kr) (N := 6) hx hb hT i_kr hown hK hP 0 rfl rfl 3 (by decide) (hT _ k_19) (fun _ h9 => h9) rfl d_kr_part_1 ?_
  refine lv_iload_n hx hb d_kr_part_4 rfl (lv_at hl 1 rfl) ?_
  have hPc := hP.sub (ws' := [(a0, .inr (1, [.ref a1, .ref a2, .int cnt])), (a1, .inl (cU, 300, .inl fu)), (a2, .inl (cL, 300, .inl fl))]) [1, 2, 3] rfl
  have hKc := hK.sub (tys' := [(cU, .int), (cL, .int)]) [0, 1] rfl
  refine vp_callSi (W.runV (As := [.int v]) (rest := []) ⟨hx, hb, hml, hown, hT⟩ (c_kv_has l dC dI a0 a1 a2 cnt cU fu cL fl v) (cwV 1 hT (kt_V k_36 k_3 k_4 k_2 k_1) rfl rfl rfl (by decide +kernel) ⟨Nat.le_of_ble_eq_true rfl, Nat.le_of_ble_eq_true rfl⟩) ⟨bl_R, va_recv hKc hPc (ci := 1) (q0 := 0) rfl rfl, fun U hU hW => ⟨rfl, by rw [hU]; exact hPc, va_K.moved hW.alike hKc⟩⟩ rfl rfl hl.1 rfl (lv_room (Nat.le_of_ble_eq_true rfl)) d_kr_part_5 ⟨Nat.zero_le _, Nat.zero_le _⟩) (fun r_1 e_r_1 => ?_)
  subst e_r_1
  refine lv_if_eq (tgt := 18) hx hb d_kr_part_8 (by decide) (fun c_2 => ?_) (fun c_2 => ?_)
  · exact absurd c_2 hnt.1
  · refine lv_iload_n hx hb d_kr_part_11 rfl (lv_at hl 2 rfl) ?_
    refine vp_callSi (W.runS (As := [.int q]) (rest := []) ⟨hx, hb, hml, hown, hT⟩ (c_kr_isPart l q) (va_cwS 1 hT (kt_S k_51 k_50 k_11 k_49) rfl rfl rfl (by decide +kernel) ⟨Nat.le_of_ble_eq_true rfl, Nat.le_of_ble_eq_true rfl⟩) ⟨bl_S, fun U hU hW => ⟨rfl, trivial⟩⟩ rfl rfl hl.1 rfl (lv_room (Nat.le_of_ble_eq_true rfl)) d_kr_part_12 ⟨Nat.zero_le _, Nat.zero_le _⟩) (fun r_3 e_r_3 => ?_)
    subst e_r_3
    refine lv_if_ne (tgt := 28) hx hb d_kr_part_15 (by decide) (fun c_4 => ?_) (fun c_4 => ?_)
    · refine lv_aload_n hx hb d_kr_part_28 rfl (lv_at hl 0 rfl) ?_
      refine va_get (D := (dC, dI)) (ci := 0) (v := .ref a0) (C := R_kr) (T := F_kr) (N := 6) hx hb hT i_kr hown hK hP 0 rfl rfl 3 (by decide) (hT _ k_19) (fun _ h9 => h9) rfl d_kr_part_29 ?_
      refine lv_iload_n hx hb d_kr_part_32 rfl (lv_at hl 1 rfl) ?_
      refine lv_iload_n hx hb d_kr_part_33 rfl (lv_at hl 2 rfl) ?_
      have hPc := hP.sub (ws' := [(a0, .inr (1, [.ref a1, .ref a2, .int cnt])), (a1, .inl (cU, 300, .inl fu)), (a2, .inl (cL, 300, .inl fl))]) [1, 2, 3] rfl
      have hKc := hK.sub (tys' := [(cU, .int), (cL, .int)]) [0, 1] rfl
      refine vp_callSi (W.runV (As := [.int v, .int q]) (rest := []) ⟨hx, hb, hml, hown, hT⟩ (c_kv_partOf l dC dI a0 a1 a2 cnt cU fu cL fl v q (in_has hc c_2)) (cwV 2 hT (kt_V k_55 k_53 k_54 k_2 k_52) rfl rfl rfl (by decide +kernel) ⟨Nat.le_of_ble_eq_true rfl, Nat.le_of_ble_eq_true rfl⟩) ⟨bl_R, va_recv hKc hPc (ci := 1) (q0 := 0) rfl rfl, fun U hU hW => ⟨rfl, by rw [hU]; exact hPc, va_K.moved hW.alike hKc⟩⟩ rfl rfl hl.1 rfl (lv_room (Nat.le_of_ble_eq_true rfl)) d_kr_part_34 ⟨Nat.zero_le _, Nat.zero_le _⟩) (fun r_5 e_r_5 => ?_)
      subst e_r_5
      exact W.iret (v := f_kv_partOf fu fl v q) hx hb hr (fun t ht hW => ⟨_, rfl, by unfold f_kr_part; rw [if_neg c_2, if_neg c_4], ht⟩) t_nil d_kr_part_37
    · exact absurd c_4 hnt.2
theorem ow_kr_partT : ∀ w ∈ Bundle.ownAtoms R_kr 69 "java/lang/IndexOutOfBoundsException" ["java/lang/RuntimeException", "java/lang/Exception"], w ∈ kt_T ∨ w ∈ kt_nest2 ∨ w ∈ kz_4 := by decide +kernel
set_option maxHeartbeats 4000000 in
set_option maxRecDepth 100000 in
theorem c_kr_partT (l : Launch) (hl9 : l.stackTraces = false) (dC : Nat → ClassId) (dI : Nat → Nat → Nat) (AZ : Nat → Prop) (sa : Nat) (ak : Nat) (a0 : Nat) (a1 : Nat) (a2 : Nat) (kinds : Int32) (ac : Nat) (rowc : Int32) (a_s : Nat) (a_w : Nat) (cnt : Int32) (cU : ClassId) (fu : Nat → Int32) (cL : ClassId) (fl : Nat → Int32) (v : Int32) (q : Int32) (hc : vp_in cnt 301) (ht : f_kv_has cnt v = 0 ∨ f_kr_isPart q = 0) : kz_Met l y_kr_partT w_kr_partT ({ frames := 6, cells := 1, slots := 6, locals := 82 }) (va_Pc [.ref ak, .int v, .int q] (fun U => va_P (dC, dI) classes [(ak, .inr (0, [.int kinds, .ref ac, .int rowc, .ref a0, .ref a_s, .ref a_w])), (a0, .inr (1, [.ref a1, .ref a2, .int cnt])), (a1, .inl (cU, 300, .inl fu)), (a2, .inl (cL, 300, .inl fl))] U.heap ∧ va_K (dC, dI) classes [(cU, .int), (cL, .int)] U ∧ kt_N2 U ∧ kt_Z AZ U U.heap ∧ vk_R R_kr 67 "no such value or part" sa U)) "java/lang/IndexOutOfBoundsException" := by
  refine kz_ofW (cc := b_kr_partT) (maxL := 3) (ret := (some .int)) (by decide +kernel) rfl ?_
  intro p e s m args below meth c s₁ B hml hno hv
  obtain ⟨rfl, hP, hK, hN2, hZ, hstr⟩ := hv
  have hx := B.exec
  have hb := B.bytes
  have hr := B.returns
  have hts := atoms_spec (ws := w_kr_partT) B.pre
  have hT := fun (w : Cond) (h : w ∈ kt_T) => hts w (List.mem_cons_of_mem _ h)
  have hown : s.vm.findClass R_kr = some m.cls := findClass_of_methodNamed B.named
  have hlocks := B.notSynchronized
  have hl := lv_entry ([.ref ak, .int v, .int q]) (n := 3) (Nat.le_of_ble_eq_true rfl)
  rw [lg_entry_eq]
  generalize (lg_sl ([.ref ak, .int v, .int q]) ++ List.replicate (3 - (lg_sl ([.ref ak, .int v, .int q])).length) Slot.unset).toArray = ls at hl ⊢
  have hl : lv_has ls 3 [(0, .ref ak), (1, .int v), (2, .int q)] := hl
  refine lv_aload_n hx hb d_kr_partT_0 rfl (lv_at hl 0 rfl) ?_
  refine va_get (D := (dC, dI)) (ci := 0) (v := .ref a0) (C := R_kr) (T := F_kr) (N := 6) hx hb hT i_kr hown hK hP 0 rfl rfl 3 (by decide) (hT _ k_19) (fun _ h9 => h9) rfl d_kr_partT_1 ?_
  refine lv_iload_n hx hb d_kr_partT_4 rfl (lv_at hl 1 rfl) ?_
  have hPc := hP.sub (ws' := [(a0, .inr (1, [.ref a1, .ref a2, .int cnt])), (a1, .inl (cU, 300, .inl fu)), (a2, .inl (cL, 300, .inl fl))]) [1, 2, 3] rfl
  have hKc := hK.sub (tys' := [(cU, .int), (cL, .int)]) [0, 1] rfl
  refine vp_callSi (W.runV (As := [.int v]) (rest := []) ⟨hx, hb, hml, hown, hT⟩ (c_kv_has l dC dI a0 a1 a2 cnt cU fu cL fl v) (cwV 1 hT (kt_V k_36 k_3 k_4 k_2 k_1) rfl rfl rfl (by decide +kernel) ⟨Nat.le_of_ble_eq_true rfl, Nat.le_of_ble_eq_true rfl⟩) ⟨bl_R, va_recv hKc hPc (ci := 1) (q0 := 0) rfl rfl, fun U hU hW => ⟨rfl, by rw [hU]; exact hPc, va_K.moved hW.alike hKc⟩⟩ rfl rfl hl.1 rfl (lv_room (Nat.le_of_ble_eq_true rfl)) d_kr_partT_5 ⟨Nat.zero_le _, Nat.zero_le _⟩) (fun r_1 e_r_1 => ?_)
  subst e_r_1
  refine lv_if_eq (tgt := 18) hx hb d_kr_partT_8 (by decide) (fun c_2 => ?_) (fun c_2 => ?_)
  · exact kz_throw (own := R_kr) (cls := "java/lang/IndexOutOfBoundsException") (names := ["java/lang/RuntimeException", "java/lang/Exception"]) hx hb hl9 hown (by decide +kernel) (by decide +kernel) (hT _ k_214) (hT _ k_215) (hT _ k_216) hstr (kz_own ow_kr_partT hT hN2 hZ) (hl.1.trans hml.symm) d_kr_partT_18 d_kr_partT_21 d_kr_partT_22 d_kr_partT_24 d_kr_partT_27 hno (Nat.le_of_ble_eq_true rfl) (Nat.le_of_ble_eq_true rfl) (Nat.le_of_ble_eq_true rfl) (Nat.le_of_ble_eq_true rfl) hlocks
  · refine lv_iload_n hx hb d_kr_partT_11 rfl (lv_at hl 2 rfl) ?_
    refine vp_callSi (W.runS (As := [.int q]) (rest := []) ⟨hx, hb, hml, hown, hT⟩ (c_kr_isPart l q) (va_cwS 1 hT (kt_S k_51 k_50 k_11 k_49) rfl rfl rfl (by decide +kernel) ⟨Nat.le_of_ble_eq_true rfl, Nat.le_of_ble_eq_true rfl⟩) ⟨bl_S, fun U hU hW => ⟨rfl, trivial⟩⟩ rfl rfl hl.1 rfl (lv_room (Nat.le_of_ble_eq_true rfl)) d_kr_partT_12 ⟨Nat.zero_le _, Nat.zero_le _⟩) (fun r_3 e_r_3 => ?_)
    subst e_r_3
    refine lv_if_ne (tgt := 28) hx hb d_kr_partT_15 (by decide) (fun c_4 => ?_) (fun c_4 => ?_)
    · refine lv_aload_n hx hb d_kr_partT_28 rfl (lv_at hl 0 rfl) ?_
      refine va_get (D := (dC, dI)) (ci := 0) (v := .ref a0) (C := R_kr) (T := F_kr) (N := 6) hx hb hT i_kr hown hK hP 0 rfl rfl 3 (by decide) (hT _ k_19) (fun _ h9 => h9) rfl d_kr_partT_29 ?_
      refine lv_iload_n hx hb d_kr_partT_32 rfl (lv_at hl 1 rfl) ?_
      refine lv_iload_n hx hb d_kr_partT_33 rfl (lv_at hl 2 rfl) ?_
      have hPc := hP.sub (ws' := [(a0, .inr (1, [.ref a1, .ref a2, .int cnt])), (a1, .inl (cU, 300, .inl fu)), (a2, .inl (cL, 300, .inl fl))]) [1, 2, 3] rfl
      have hKc := hK.sub (tys' := [(cU, .int), (cL, .int)]) [0, 1] rfl
      refine vp_callSi (W.runV (As := [.int v, .int q]) (rest := []) ⟨hx, hb, hml, hown, hT⟩ (c_kv_partOf l dC dI a0 a1 a2 cnt cU fu cL fl v q (in_has hc c_2)) (cwV 2 hT (kt_V k_55 k_53 k_54 k_2 k_52) rfl rfl rfl (by decide +kernel) ⟨Nat.le_of_ble_eq_true rfl, Nat.le_of_ble_eq_true rfl⟩) ⟨bl_R, va_recv hKc hPc (ci := 1) (q0 := 0) rfl rfl, fun U hU hW => ⟨rfl, by rw [hU]; exact hPc, va_K.moved hW.alike hKc⟩⟩ rfl rfl hl.1 rfl (lv_room (Nat.le_of_ble_eq_true rfl)) d_kr_partT_34 ⟨Nat.zero_le _, Nat.zero_le _⟩) (fun r_5 e_r_5 => ?_)
      subst e_r_5
      exact absurd ht (fun h9 => h9.elim c_2 c_4)
    · exact kz_throw (own := R_kr) (cls := "java/lang/IndexOutOfBoundsException") (names := ["java/lang/RuntimeException", "java/lang/Exception"]) hx hb hl9 hown (by decide +kernel) (by decide +kernel) (hT _ k_214) (hT _ k_215) (hT _ k_216) hstr (kz_own ow_kr_partT hT hN2 hZ) (hl.1.trans hml.symm) d_kr_partT_18 d_kr_partT_21 d_kr_partT_22 d_kr_partT_24 d_kr_partT_27 hno (Nat.le_of_ble_eq_true rfl) (Nat.le_of_ble_eq_true rfl) (Nat.le_of_ble_eq_true rfl) (Nat.le_of_ble_eq_true rfl) hlocks
def f_kr_over (cnt : Int32) (fu : Nat → Int32) (fl : Nat → Int32) (a : Int32) (b : Int32) : Int32 × (Nat → Int32) × (Nat → Int32) × Int32 :=
  if (f_kv_has cnt b) = 0 then if (f_kv_hasBoth cnt a b) = 0 then ((-1), fu, fl, cnt) else (f_kv_keep cnt fu fl ((f_kv_upper fu a) * (f_kv_lower fl b)) ((f_kv_lower fl a) * (f_kv_upper fu b))) else if (f_kv_upper fu b) = 0 then (0, fu, fl, cnt) else if (f_kv_hasBoth cnt a b) = 0 then ((-1), fu, fl, cnt) else (f_kv_keep cnt fu fl ((f_kv_upper fu a) * (f_kv_lower fl b)) ((f_kv_lower fl a) * (f_kv_upper fu b)))
set_option maxHeartbeats 4000000 in
set_option maxRecDepth 100000 in
theorem c_kr_over (l : Launch) (dC : Nat → ClassId) (dI : Nat → Nat → Nat) (sz : Nat) (ak : Nat) (a0 : Nat) (a1 : Nat) (a2 : Nat) (kinds : Int32) (ac : Nat) (rowc : Int32) (a_s : Nat) (a_w : Nat) (cnt : Int32) (cU : ClassId) (fu : Nat → Int32) (cL : ClassId) (fl : Nat → Int32) (a : Int32) (b : Int32) (hc : vp_in cnt 301) (hnt : f_kv_has cnt b = 0 ∨ ¬ f_kv_upper fu b = 0) : Met l y_kr_over w_kr_over ({ frames := 2, cells := 0, slots := 0, locals := 60 }) (va_Pc [.ref ak, .int a, .int b] (fun U => U.heap.size = sz ∧ va_P (dC, dI) classes [(ak, .inr (0, [.int kinds, .ref ac, .int rowc, .ref a0, .ref a_s, .ref a_w])), (a0, .inr (1, [.ref a1, .ref a2, .int cnt])), (a1, .inl (cU, 300, .inl fu)), (a2, .inl (cL, 300, .inl fl))] U.heap ∧ va_K (dC, dI) classes [(cU, .int), (cL, .int)] U ∧ va_D (fun _ => True) [(ak, .inr (0, [.int kinds, .ref ac, .int rowc, .ref a0, .ref a_s, .ref a_w])), (a0, .inr (1, [.ref a1, .ref a2, .int cnt])), (a1, .inl (cU, 300, .inl fu)), (a2, .inl (cL, 300, .inl fl))] ∧ kt_N U)) (va_Qi (fun z9 u9 => (z9, u9) = f_kr_over cnt fu fl a b) (fun (u : (Nat → Int32) × (Nat → Int32) × Int32) t => match u with | (fu', fl', cnt') => va_P (dC, dI) classes [(ak, .inr (0, [.int kinds, .ref ac, .int rowc, .ref a0, .ref a_s, .ref a_w])), (a0, .inr (1, [.ref a1, .ref a2, .int cnt'])), (a1, .inl (cU, 300, .inl fu')), (a2, .inl (cL, 300, .inl fl'))] t.heap ∧ va_K (dC, dI) classes [(cU, .int), (cL, .int)] t ∧ va_D (va_A [(ak, .inr (0, [.int kinds, .ref ac, .int rowc, .ref a0, .ref a_s, .ref a_w])), (a0, .inr (1, [.ref a1, .ref a2, .int cnt])), (a1, .inl (cU, 300, .inl fu)), (a2, .inl (cL, 300, .inl fl))] sz) [(ak, .inr (0, [.int kinds, .ref ac, .int rowc, .ref a0, .ref a_s, .ref a_w])), (a0, .inr (1, [.ref a1, .ref a2, .int cnt'])), (a1, .inl (cU, 300, .inl fu')), (a2, .inl (cL, 300, .inl fl'))]) (va_A [(ak, .inr (0, [.int kinds, .ref ac, .int rowc, .ref a0, .ref a_s, .ref a_w])), (a0, .inr (1, [.ref a1, .ref a2, .int cnt])), (a1, .inl (cU, 300, .inl fu)), (a2, .inl (cL, 300, .inl fl))] sz)) 0 0 (va_A [(ak, .inr (0, [.int kinds, .ref ac, .int rowc, .ref a0, .ref a_s, .ref a_w])), (a0, .inr (1, [.ref a1, .ref a2, .int cnt])), (a1, .inl (cU, 300, .inl fu)), (a2, .inl (cL, 300, .inl fl))] sz) := by
  refine Met.ofW (cc := b_kr_over) (maxL := 3) (ret := (some .int)) (by decide +kernel) rfl ?_
  intro p e s m args below meth c s₁ B hml hv
  obtain ⟨rfl, hsz, hP, hK, hD0, hN⟩ := hv
  have hx := B.exec
  have hb := B.bytes
  have hr := B.returns
  have hts := atoms_spec (ws := w_kr_over) B.pre
  have hT := fun (w : Cond) (h : w ∈ kt_T) => hts w (List.mem_cons_of_mem _ h)
  have hown : s.vm.findClass R_kr = some m.cls := findClass_of_methodNamed B.named
  have hlocks := B.notSynchronized
  subst hsz
  have hD := hD0.self (sz := s.heap.size)
  generalize hAe : va_A [(ak, .inr (0, [.int kinds, .ref ac, .int rowc, .ref a0, .ref a_s, .ref a_w])), (a0, .inr (1, [.ref a1, .ref a2, .int cnt])), (a1, .inl (cU, 300, .inl fu)), (a2, .inl (cL, 300, .inl fl))] s.heap.size = A at hD ⊢
  have hA : ∀ q : Nat, s.heap.size ≤ q → A q := fun q h => by rw [← hAe]; exact Or.inr h
  have hS : va_S A s.heap s.heap [] := va_S.rf
  have hl := lv_entry ([.ref ak, .int a, .int b]) (n := 3) (Nat.le_of_ble_eq_true rfl)
  rw [lg_entry_eq]
  generalize (lg_sl ([.ref ak, .int a, .int b]) ++ List.replicate (3 - (lg_sl ([.ref ak, .int a, .int b])).length) Slot.unset).toArray = ls at hl ⊢
  have hl : lv_has ls 3 [(0, .ref ak), (1, .int a), (2, .int b)] := hl
  refine lv_aload_n hx hb d_kr_over_0 rfl (lv_at hl 0 rfl) ?_
  refine va_get (D := (dC, dI)) (ci := 0) (v := .ref a0) (C := R_kr) (T := F_kr) (N := 6) hx hb hT i_kr hown hK hP 0 rfl rfl 3 (by decide) (hT _ k_19) (fun _ h9 => h9) rfl d_kr_over_1 ?_
  refine lv_iload_n hx hb d_kr_over_4 rfl (lv_at hl 2 rfl) ?_
  have hPc := hP.sub (ws' := [(a0, .inr (1, [.ref a1, .ref a2, .int cnt])), (a1, .inl (cU, 300, .inl fu)), (a2, .inl (cL, 300, .inl fl))]) [1, 2, 3] rfl
  have hKc := hK.sub (tys' := [(cU, .int), (cL, .int)]) [0, 1] rfl
  refine vp_callSi (W.runV (As := [.int b]) (rest := []) ⟨hx, hb, hml, hown, hT⟩ (c_kv_has l dC dI a0 a1 a2 cnt cU fu cL fl b) (cwV 1 hT (kt_V k_36 k_3 k_4 k_2 k_1) rfl rfl rfl (by decide +kernel) ⟨Nat.le_of_ble_eq_true rfl, Nat.le_of_ble_eq_true rfl⟩) ⟨bl_R, va_recv hKc hPc (ci := 1) (q0 := 0) rfl rfl, fun U hU hW => ⟨rfl, by rw [hU]; exact hPc, va_K.moved hW.alike hKc⟩⟩ rfl rfl hl.1 rfl (lv_room (Nat.le_of_ble_eq_true rfl)) d_kr_over_5 ⟨Nat.zero_le _, Nat.zero_le _⟩) (fun r_1 e_r_1 => ?_)
  subst e_r_1
  refine lv_if_eq (tgt := 34) hx hb d_kr_over_8 (by decide) (fun c_2 => ?_) (fun c_2 => ?_)
  · refine lv_aload_n hx hb d_kr_over_34 rfl (lv_at hl 0 rfl) ?_
    refine va_get (D := (dC, dI)) (ci := 0) (v := .ref a0) (C := R_kr) (T := F_kr) (N := 6) hx hb hT i_kr hown hK hP 0 rfl rfl 3 (by decide) (hT _ k_19) (fun _ h9 => h9) rfl d_kr_over_35 ?_
    refine lv_iload_n hx hb d_kr_over_38 rfl (lv_at hl 1 rfl) ?_
    refine lv_iload_n hx hb d_kr_over_39 rfl (lv_at hl 2 rfl) ?_
    have hPc := hP.sub (ws' := [(a0, .inr (1, [.ref a1, .ref a2, .int cnt])), (a1, .inl (cU, 300, .inl fu)), (a2, .inl (cL, 300, .inl fl))]) [1, 2, 3] rfl
    have hKc := hK.sub (tys' := [(cU, .int), (cL, .int)]) [0, 1] rfl
    refine vp_callSi (W.runV (As := [.int a, .int b]) (rest := []) ⟨hx, hb, hml, hown, hT⟩ (c_kv_hasBoth l dC dI a0 a1 a2 cnt cU fu cL fl a b) (cwV 2 hT (kt_V k_23 k_21 k_22 k_2 k_20) rfl rfl rfl (by decide +kernel) ⟨Nat.le_of_ble_eq_true rfl, Nat.le_of_ble_eq_true rfl⟩) ⟨bl_R, va_recv hKc hPc (ci := 1) (q0 := 0) rfl rfl, fun U hU hW => ⟨rfl, by rw [hU]; exact hPc, va_K.moved hW.alike hKc⟩⟩ rfl rfl hl.1 rfl (lv_room (Nat.le_of_ble_eq_true rfl)) d_kr_over_40 ⟨Nat.zero_le _, Nat.zero_le _⟩) (fun r_3 e_r_3 => ?_)
    subst e_r_3
    refine lv_if_ne (tgt := 48) hx hb d_kr_over_43 (by decide) (fun c_4 => ?_) (fun c_4 => ?_)
    · refine lv_aload_n hx hb d_kr_over_48 rfl (lv_at hl 0 rfl) ?_
      refine va_get (D := (dC, dI)) (ci := 0) (v := .ref a0) (C := R_kr) (T := F_kr) (N := 6) hx hb hT i_kr hown hK hP 0 rfl rfl 3 (by decide) (hT _ k_19) (fun _ h9 => h9) rfl d_kr_over_49 ?_
      refine lv_aload_n hx hb d_kr_over_52 rfl (lv_at hl 0 rfl) ?_
      refine va_get (D := (dC, dI)) (ci := 0) (v := .ref a0) (C := R_kr) (T := F_kr) (N := 6) hx hb hT i_kr hown hK hP 0 rfl rfl 3 (by decide) (hT _ k_19) (fun _ h9 => h9) rfl d_kr_over_53 ?_
      refine lv_iload_n hx hb d_kr_over_56 rfl (lv_at hl 1 rfl) ?_
      have hPc := hP.sub (ws' := [(a0, .inr (1, [.ref a1, .ref a2, .int cnt])), (a1, .inl (cU, 300, .inl fu)), (a2, .inl (cL, 300, .inl fl))]) [1, 2, 3] rfl
      have hKc := hK.sub (tys' := [(cU, .int), (cL, .int)]) [0, 1] rfl
      refine vp_callSl (W.runV (As := [.int a]) (rest := [.ref a0]) ⟨hx, hb, hml, hown, hT⟩ (c_kv_upper l dC dI a0 a1 a2 cnt cU fu cL fl a (in_hb1 hc c_4)) (cwV 1 hT (kt_V k_27 k_25 k_26 k_2 k_24) rfl rfl rfl (by decide +kernel) ⟨Nat.le_of_ble_eq_true rfl, Nat.le_of_ble_eq_true rfl⟩) ⟨bl_R, va_recv hKc hPc (ci := 1) (q0 := 0) rfl rfl, fun U hU hW => ⟨rfl, by rw [hU]; exact hPc, va_K.moved hW.alike hKc⟩⟩ rfl rfl hl.1 rfl (lv_room (Nat.le_of_ble_eq_true rfl)) d_kr_over_57 ⟨Nat.zero_le _, Nat.zero_le _⟩) (fun r_5 e_r_5 => ?_)
      subst e_r_5
      refine lv_aload_n hx hb d_kr_over_60 rfl (lv_at hl 0 rfl) ?_
      refine va_get (D := (dC, dI)) (ci := 0) (v := .ref a0) (C := R_kr) (T := F_kr) (N := 6) hx hb hT i_kr hown hK hP 0 rfl rfl 3 (by decide) (hT _ k_19) (fun _ h9 => h9) rfl d_kr_over_61 ?_
      refine lv_iload_n hx hb d_kr_over_64 rfl (lv_at hl 2 rfl) ?_
      have hPc := hP.sub (ws' := [(a0, .inr (1, [.ref a1, .ref a2, .int cnt])), (a1, .inl (cU, 300, .inl fu)), (a2, .inl (cL, 300, .inl fl))]) [1, 2, 3] rfl
      have hKc := hK.sub (tys' := [(cU, .int), (cL, .int)]) [0, 1] rfl
      refine vp_callSl (W.runV (As := [.int b]) (rest := [.long (f_kv_upper fu a), .ref a0]) ⟨hx, hb, hml, hown, hT⟩ (c_kv_lower l dC dI a0 a1 a2 cnt cU fu cL fl b (in_hb2 hc c_4)) (cwV 1 hT (kt_V k_31 k_29 k_30 k_2 k_28) rfl rfl rfl (by decide +kernel) ⟨Nat.le_of_ble_eq_true rfl, Nat.le_of_ble_eq_true rfl⟩) ⟨bl_R, va_recv hKc hPc (ci := 1) (q0 := 0) rfl rfl, fun U hU hW => ⟨rfl, by rw [hU]; exact hPc, va_K.moved hW.alike hKc⟩⟩ rfl rfl hl.1 rfl (lv_room (Nat.le_of_ble_eq_true rfl)) d_kr_over_65 ⟨Nat.zero_le _, Nat.zero_le _⟩) (fun r_6 e_r_6 => ?_)
      subst e_r_6
      refine lv_lmul hx hb d_kr_over_68 ?_
      refine lv_aload_n hx hb d_kr_over_69 rfl (lv_at hl 0 rfl) ?_
      refine va_get (D := (dC, dI)) (ci := 0) (v := .ref a0) (C := R_kr) (T := F_kr) (N := 6) hx hb hT i_kr hown hK hP 0 rfl rfl 3 (by decide) (hT _ k_19) (fun _ h9 => h9) rfl d_kr_over_70 ?_
      refine lv_iload_n hx hb d_kr_over_73 rfl (lv_at hl 1 rfl) ?_
      have hPc := hP.sub (ws' := [(a0, .inr (1, [.ref a1, .ref a2, .int cnt])), (a1, .inl (cU, 300, .inl fu)), (a2, .inl (cL, 300, .inl fl))]) [1, 2, 3] rfl
      have hKc := hK.sub (tys' := [(cU, .int), (cL, .int)]) [0, 1] rfl
      refine vp_callSl (W.runV (As := [.int a]) (rest := [.long ((f_kv_upper fu a) * (f_kv_lower fl b)), .ref a0]) ⟨hx, hb, hml, hown, hT⟩ (c_kv_lower l dC dI a0 a1 a2 cnt cU fu cL fl a (in_hb1 hc c_4)) (cwV 1 hT (kt_V k_31 k_29 k_30 k_2 k_28) rfl rfl rfl (by decide +kernel) ⟨Nat.le_of_ble_eq_true rfl, Nat.le_of_ble_eq_true rfl⟩) ⟨bl_R, va_recv hKc hPc (ci := 1) (q0 := 0) rfl rfl, fun U hU hW => ⟨rfl, by rw [hU]; exact hPc, va_K.moved hW.alike hKc⟩⟩ rfl rfl hl.1 rfl (lv_room (Nat.le_of_ble_eq_true rfl)) d_kr_over_74 ⟨Nat.zero_le _, Nat.zero_le _⟩) (fun r_7 e_r_7 => ?_)
      subst e_r_7
      refine lv_aload_n hx hb d_kr_over_77 rfl (lv_at hl 0 rfl) ?_
      refine va_get (D := (dC, dI)) (ci := 0) (v := .ref a0) (C := R_kr) (T := F_kr) (N := 6) hx hb hT i_kr hown hK hP 0 rfl rfl 3 (by decide) (hT _ k_19) (fun _ h9 => h9) rfl d_kr_over_78 ?_
      refine lv_iload_n hx hb d_kr_over_81 rfl (lv_at hl 2 rfl) ?_
      have hPc := hP.sub (ws' := [(a0, .inr (1, [.ref a1, .ref a2, .int cnt])), (a1, .inl (cU, 300, .inl fu)), (a2, .inl (cL, 300, .inl fl))]) [1, 2, 3] rfl
      have hKc := hK.sub (tys' := [(cU, .int), (cL, .int)]) [0, 1] rfl
      refine vp_callSl (W.runV (As := [.int b]) (rest := [.long (f_kv_lower fl a), .long ((f_kv_upper fu a) * (f_kv_lower fl b)), .ref a0]) ⟨hx, hb, hml, hown, hT⟩ (c_kv_upper l dC dI a0 a1 a2 cnt cU fu cL fl b (in_hb2 hc c_4)) (cwV 1 hT (kt_V k_27 k_25 k_26 k_2 k_24) rfl rfl rfl (by decide +kernel) ⟨Nat.le_of_ble_eq_true rfl, Nat.le_of_ble_eq_true rfl⟩) ⟨bl_R, va_recv hKc hPc (ci := 1) (q0 := 0) rfl rfl, fun U hU hW => ⟨rfl, by rw [hU]; exact hPc, va_K.moved hW.alike hKc⟩⟩ rfl rfl hl.1 rfl (lv_room (Nat.le_of_ble_eq_true rfl)) d_kr_over_82 ⟨Nat.zero_le _, Nat.zero_le _⟩) (fun r_8 e_r_8 => ?_)
      subst e_r_8
      refine lv_lmul hx hb d_kr_over_85 ?_
      have hPc := hP.sub (ws' := [(a0, .inr (1, [.ref a1, .ref a2, .int cnt])), (a1, .inl (cU, 300, .inl fu)), (a2, .inl (cL, 300, .inl fl))]) [1, 2, 3] rfl
      have hKc := hK.sub (tys' := [(cU, .int), (cL, .int)]) [0, 1] rfl
      have hDc := hD.sub (ws' := [(a0, .inr (1, [.ref a1, .ref a2, .int cnt])), (a1, .inl (cU, 300, .inl fu)), (a2, .inl (cL, 300, .inl fl))]) [1, 2, 3] (by decide) rfl
      have hFc := va_free (wc := [(a0, .inr (1, [.ref a1, .ref a2, .int cnt])), (a1, .inl (cU, 300, .inl fu)), (a2, .inl (cL, 300, .inl fl))]) hD hS hA [1, 2, 3] rfl
      refine va_calli (va_runV (As := [.long ((f_kv_upper fu a) * (f_kv_lower fl b)), .long ((f_kv_lower fl a) * (f_kv_upper fu b))]) (rest := []) ⟨hx, hb, hml, hown, hT⟩ (c_kv_keep l dC dI s.heap.size a0 a1 a2 cnt cU fu cL fl ((f_kv_upper fu a) * (f_kv_lower fl b)) ((f_kv_lower fl a) * (f_kv_upper fu b)) hc) (cwV 2 hT (kt_V k_35 k_33 k_34 k_2 k_32) rfl rfl rfl (by decide +kernel) ⟨Nat.le_of_ble_eq_true rfl, Nat.le_of_ble_eq_true rfl⟩) ⟨bl_MN, va_recv hKc hPc (ci := 1) (q0 := 0) rfl rfl, fun U hU hW => ⟨rfl, by rw [hU], by rw [hU]; exact hPc, va_K.moved hW.alike hKc, hDc.weaken (fun _ _ _ _ => trivial), kt_N.warm hW hN⟩⟩ rfl rfl hl.1 rfl (lv_room (Nat.le_of_ble_eq_true rfl)) d_kr_over_86 ⟨Nat.zero_le _, Nat.zero_le _⟩) hS (fun q _ h => hFc q h) hFc (fun r_9 u t H1 locs ht hvm hw hB hz1 hk1 hS => ?_)
      obtain ⟨fu_9, fl_9, cnt_9⟩ := u
      obtain ⟨hP1, hK1, hD1⟩ := hB
      rw [ht] at hP1
      obtain ⟨hP, hD⟩ := va_join (wr := [(ak, .inr (0, [.int kinds, .ref ac, .int rowc, .ref a0, .ref a_s, .ref a_w]))]) (w1 := [(a0, .inr (1, [.ref a1, .ref a2, .int cnt_9])), (a1, .inl (cU, 300, .inl fu_9)), (a2, .inl (cL, 300, .inl fl_9))]) hP hD [1, 2, 3] [0] rfl rfl (by decide) (by decide) hk1 hFc hP1 hD1
      generalize H1 = H at hP hS ⊢
      have hP := hP.sub (ws' := [(ak, .inr (0, [.int kinds, .ref ac, .int rowc, .ref a0, .ref a_s, .ref a_w])), (a0, .inr (1, [.ref a1, .ref a2, .int cnt_9])), (a1, .inl (cU, 300, .inl fu_9)), (a2, .inl (cL, 300, .inl fl_9))]) [0, 1, 2, 3] rfl
      have hD := hD.sub (ws' := [(ak, .inr (0, [.int kinds, .ref ac, .int rowc, .ref a0, .ref a_s, .ref a_w])), (a0, .inr (1, [.ref a1, .ref a2, .int cnt_9])), (a1, .inl (cU, 300, .inl fu_9)), (a2, .inl (cL, 300, .inl fl_9))]) [0, 1, 2, 3] (by decide) rfl
      have e_r_9 : r_9 = (f_kv_keep cnt fu fl ((f_kv_upper fu a) * (f_kv_lower fl b)) ((f_kv_lower fl a) * (f_kv_upper fu b))).1 := congrArg (fun z => z.1) hw
      have e_fu_9 : fu_9 = (f_kv_keep cnt fu fl ((f_kv_upper fu a) * (f_kv_lower fl b)) ((f_kv_lower fl a) * (f_kv_upper fu b))).2.1 := congrArg (fun z => z.2.1) hw
      have e_fl_9 : fl_9 = (f_kv_keep cnt fu fl ((f_kv_upper fu a) * (f_kv_lower fl b)) ((f_kv_lower fl a) * (f_kv_upper fu b))).2.2.1 := congrArg (fun z => z.2.2.1) hw
      have e_cnt_9 : cnt_9 = (f_kv_keep cnt fu fl ((f_kv_upper fu a) * (f_kv_lower fl b)) ((f_kv_lower fl a) * (f_kv_upper fu b))).2.2.2 := congrArg (fun z => z.2.2.2) hw
      subst e_r_9 e_fu_9 e_fl_9 e_cnt_9
      clear hP1 hK1 hD1 hk1 hz1 hFc hDc hPc hKc
      exact W.iret (v := (f_kv_keep cnt fu fl ((f_kv_upper fu a) * (f_kv_lower fl b)) ((f_kv_lower fl a) * (f_kv_upper fu b))).1) hx hb hr (fun t ht hW => ⟨⟨(f_kv_keep cnt fu fl ((f_kv_upper fu a) * (f_kv_lower fl b)) ((f_kv_lower fl a) * (f_kv_upper fu b))).1, ((f_kv_keep cnt fu fl ((f_kv_upper fu a) * (f_kv_lower fl b)) ((f_kv_lower fl a) * (f_kv_upper fu b))).2.1, (f_kv_keep cnt fu fl ((f_kv_upper fu a) * (f_kv_lower fl b)) ((f_kv_lower fl a) * (f_kv_upper fu b))).2.2.1, (f_kv_keep cnt fu fl ((f_kv_upper fu a) * (f_kv_lower fl b)) ((f_kv_lower fl a) * (f_kv_upper fu b))).2.2.2), rfl, by unfold f_kr_over; rw [if_pos c_2, if_neg c_4], by rw [ht]; exact hP, va_K.moved hW.alike hK, hD⟩, hS.F ht⟩) hS.2.2 d_kr_over_89
    · refine lv_iconst (v := (-1)) hx hb d_kr_over_46 (by decide) ?_
      exact W.iret (v := (-1)) hx hb hr (fun t ht hW => ⟨⟨(-1), (fu, fl, cnt), rfl, by unfold f_kr_over; rw [if_pos c_2, if_pos c_4], by rw [ht]; exact hP, va_K.moved hW.alike hK, hD⟩, hS.F ht⟩) hS.2.2 d_kr_over_47
  · refine lv_aload_n hx hb d_kr_over_11 rfl (lv_at hl 0 rfl) ?_
    refine va_get (D := (dC, dI)) (ci := 0) (v := .ref a0) (C := R_kr) (T := F_kr) (N := 6) hx hb hT i_kr hown hK hP 0 rfl rfl 3 (by decide) (hT _ k_19) (fun _ h9 => h9) rfl d_kr_over_12 ?_
    refine lv_iload_n hx hb d_kr_over_15 rfl (lv_at hl 2 rfl) ?_
    have hPc := hP.sub (ws' := [(a0, .inr (1, [.ref a1, .ref a2, .int cnt])), (a1, .inl (cU, 300, .inl fu)), (a2, .inl (cL, 300, .inl fl))]) [1, 2, 3] rfl
    have hKc := hK.sub (tys' := [(cU, .int), (cL, .int)]) [0, 1] rfl
    refine vp_callSl (W.runV (As := [.int b]) (rest := []) ⟨hx, hb, hml, hown, hT⟩ (c_kv_upper l dC dI a0 a1 a2 cnt cU fu cL fl b (in_has hc c_2)) (cwV 1 hT (kt_V k_27 k_25 k_26 k_2 k_24) rfl rfl rfl (by decide +kernel) ⟨Nat.le_of_ble_eq_true rfl, Nat.le_of_ble_eq_true rfl⟩) ⟨bl_R, va_recv hKc hPc (ci := 1) (q0 := 0) rfl rfl, fun U hU hW => ⟨rfl, by rw [hU]; exact hPc, va_K.moved hW.alike hKc⟩⟩ rfl rfl hl.1 rfl (lv_room (Nat.le_of_ble_eq_true rfl)) d_kr_over_16 ⟨Nat.zero_le _, Nat.zero_le _⟩) (fun r_10 e_r_10 => ?_)
    subst e_r_10
    refine lv_lconst (v := 0) hx hb d_kr_over_19 (by decide) ?_
    refine lx_ifne (tgt := 34) hx hb d_kr_over_20 d_kr_over_21 (by decide) (fun c_11 => ?_) (fun c_11 => ?_)
    · refine lv_aload_n hx hb d_kr_over_34 rfl (lv_at hl 0 rfl) ?_
      refine va_get (D := (dC, dI)) (ci := 0) (v := .ref a0) (C := R_kr) (T := F_kr) (N := 6) hx hb hT i_kr hown hK hP 0 rfl rfl 3 (by decide) (hT _ k_19) (fun _ h9 => h9) rfl d_kr_over_35 ?_
      refine lv_iload_n hx hb d_kr_over_38 rfl (lv_at hl 1 rfl) ?_
      refine lv_iload_n hx hb d_kr_over_39 rfl (lv_at hl 2 rfl) ?_
      have hPc := hP.sub (ws' := [(a0, .inr (1, [.ref a1, .ref a2, .int cnt])), (a1, .inl (cU, 300, .inl fu)), (a2, .inl (cL, 300, .inl fl))]) [1, 2, 3] rfl
      have hKc := hK.sub (tys' := [(cU, .int), (cL, .int)]) [0, 1] rfl
      refine vp_callSi (W.runV (As := [.int a, .int b]) (rest := []) ⟨hx, hb, hml, hown, hT⟩ (c_kv_hasBoth l dC dI a0 a1 a2 cnt cU fu cL fl a b) (cwV 2 hT (kt_V k_23 k_21 k_22 k_2 k_20) rfl rfl rfl (by decide +kernel) ⟨Nat.le_of_ble_eq_true rfl, Nat.le_of_ble_eq_true rfl⟩) ⟨bl_R, va_recv hKc hPc (ci := 1) (q0 := 0) rfl rfl, fun U hU hW => ⟨rfl, by rw [hU]; exact hPc, va_K.moved hW.alike hKc⟩⟩ rfl rfl hl.1 rfl (lv_room (Nat.le_of_ble_eq_true rfl)) d_kr_over_40 ⟨Nat.zero_le _, Nat.zero_le _⟩) (fun r_12 e_r_12 => ?_)
      subst e_r_12
      refine lv_if_ne (tgt := 48) hx hb d_kr_over_43 (by decide) (fun c_13 => ?_) (fun c_13 => ?_)
      · refine lv_aload_n hx hb d_kr_over_48 rfl (lv_at hl 0 rfl) ?_
        refine va_get (D := (dC, dI)) (ci := 0) (v := .ref a0) (C := R_kr) (T := F_kr) (N := 6) hx hb hT i_kr hown hK hP 0 rfl rfl 3 (by decide) (hT _ k_19) (fun _ h9 => h9) rfl d_kr_over_49 ?_
        refine lv_aload_n hx hb d_kr_over_52 rfl (lv_at hl 0 rfl) ?_
        refine va_get (D := (dC, dI)) (ci := 0) (v := .ref a0) (C := R_kr) (T := F_kr) (N := 6) hx hb hT i_kr hown hK hP 0 rfl rfl 3 (by decide) (hT _ k_19) (fun _ h9 => h9) rfl d_kr_over_53 ?_
        refine lv_iload_n hx hb d_kr_over_56 rfl (lv_at hl 1 rfl) ?_
        have hPc := hP.sub (ws' := [(a0, .inr (1, [.ref a1, .ref a2, .int cnt])), (a1, .inl (cU, 300, .inl fu)), (a2, .inl (cL, 300, .inl fl))]) [1, 2, 3] rfl
        have hKc := hK.sub (tys' := [(cU, .int), (cL, .int)]) [0, 1] rfl
        refine vp_callSl (W.runV (As := [.int a]) (rest := [.ref a0]) ⟨hx, hb, hml, hown, hT⟩ (c_kv_upper l dC dI a0 a1 a2 cnt cU fu cL fl a (in_hb1 hc c_13)) (cwV 1 hT (kt_V k_27 k_25 k_26 k_2 k_24) rfl rfl rfl (by decide +kernel) ⟨Nat.le_of_ble_eq_true rfl, Nat.le_of_ble_eq_true rfl⟩) ⟨bl_R, va_recv hKc hPc (ci := 1) (q0 := 0) rfl rfl, fun U hU hW => ⟨rfl, by rw [hU]; exact hPc, va_K.moved hW.alike hKc⟩⟩ rfl rfl hl.1 rfl (lv_room (Nat.le_of_ble_eq_true rfl)) d_kr_over_57 ⟨Nat.zero_le _, Nat.zero_le _⟩) (fun r_14 e_r_14 => ?_)
        subst e_r_14
        refine lv_aload_n hx hb d_kr_over_60 rfl (lv_at hl 0 rfl) ?_
        refine va_get (D := (dC, dI)) (ci := 0) (v := .ref a0) (C := R_kr) (T := F_kr) (N := 6) hx hb hT i_kr hown hK hP 0 rfl rfl 3 (by decide) (hT _ k_19) (fun _ h9 => h9) rfl d_kr_over_61 ?_
        refine lv_iload_n hx hb d_kr_over_64 rfl (lv_at hl 2 rfl) ?_
        have hPc := hP.sub (ws' := [(a0, .inr (1, [.ref a1, .ref a2, .int cnt])), (a1, .inl (cU, 300, .inl fu)), (a2, .inl (cL, 300, .inl fl))]) [1, 2, 3] rfl
        have hKc := hK.sub (tys' := [(cU, .int), (cL, .int)]) [0, 1] rfl
        refine vp_callSl (W.runV (As := [.int b]) (rest := [.long (f_kv_upper fu a), .ref a0]) ⟨hx, hb, hml, hown, hT⟩ (c_kv_lower l dC dI a0 a1 a2 cnt cU fu cL fl b (in_hb2 hc c_13)) (cwV 1 hT (kt_V k_31 k_29 k_30 k_2 k_28) rfl rfl rfl (by decide +kernel) ⟨Nat.le_of_ble_eq_true rfl, Nat.le_of_ble_eq_true rfl⟩) ⟨bl_R, va_recv hKc hPc (ci := 1) (q0 := 0) rfl rfl, fun U hU hW => ⟨rfl, by rw [hU]; exact hPc, va_K.moved hW.alike hKc⟩⟩ rfl rfl hl.1 rfl (lv_room (Nat.le_of_ble_eq_true rfl)) d_kr_over_65 ⟨Nat.zero_le _, Nat.zero_le _⟩) (fun r_15 e_r_15 => ?_)
        subst e_r_15
        refine lv_lmul hx hb d_kr_over_68 ?_
        refine lv_aload_n hx hb d_kr_over_69 rfl (lv_at hl 0 rfl) ?_
        refine va_get (D := (dC, dI)) (ci := 0) (v := .ref a0) (C := R_kr) (T := F_kr) (N := 6) hx hb hT i_kr hown hK hP 0 rfl rfl 3 (by decide) (hT _ k_19) (fun _ h9 => h9) rfl d_kr_over_70 ?_
        refine lv_iload_n hx hb d_kr_over_73 rfl (lv_at hl 1 rfl) ?_
        have hPc := hP.sub (ws' := [(a0, .inr (1, [.ref a1, .ref a2, .int cnt])), (a1, .inl (cU, 300, .inl fu)), (a2, .inl (cL, 300, .inl fl))]) [1, 2, 3] rfl
        have hKc := hK.sub (tys' := [(cU, .int), (cL, .int)]) [0, 1] rfl
        refine vp_callSl (W.runV (As := [.int a]) (rest := [.long ((f_kv_upper fu a) * (f_kv_lower fl b)), .ref a0]) ⟨hx, hb, hml, hown, hT⟩ (c_kv_lower l dC dI a0 a1 a2 cnt cU fu cL fl a (in_hb1 hc c_13)) (cwV 1 hT (kt_V k_31 k_29 k_30 k_2 k_28) rfl rfl rfl (by decide +kernel) ⟨Nat.le_of_ble_eq_true rfl, Nat.le_of_ble_eq_true rfl⟩) ⟨bl_R, va_recv hKc hPc (ci := 1) (q0 := 0) rfl rfl, fun U hU hW => ⟨rfl, by rw [hU]; exact hPc, va_K.moved hW.alike hKc⟩⟩ rfl rfl hl.1 rfl (lv_room (Nat.le_of_ble_eq_true rfl)) d_kr_over_74 ⟨Nat.zero_le _, Nat.zero_le _⟩) (fun r_16 e_r_16 => ?_)
        subst e_r_16
        refine lv_aload_n hx hb d_kr_over_77 rfl (lv_at hl 0 rfl) ?_
        refine va_get (D := (dC, dI)) (ci := 0) (v := .ref a0) (C := R_kr) (T := F_kr) (N := 6) hx hb hT i_kr hown hK hP 0 rfl rfl 3 (by decide) (hT _ k_19) (fun _ h9 => h9) rfl d_kr_over_78 ?_
        refine lv_iload_n hx hb d_kr_over_81 rfl (lv_at hl 2 rfl) ?_
        have hPc := hP.sub (ws' := [(a0, .inr (1, [.ref a1, .ref a2, .int cnt])), (a1, .inl (cU, 300, .inl fu)), (a2, .inl (cL, 300, .inl fl))]) [1, 2, 3] rfl
        have hKc := hK.sub (tys' := [(cU, .int), (cL, .int)]) [0, 1] rfl
        refine vp_callSl (W.runV (As := [.int b]) (rest := [.long (f_kv_lower fl a), .long ((f_kv_upper fu a) * (f_kv_lower fl b)), .ref a0]) ⟨hx, hb, hml, hown, hT⟩ (c_kv_upper l dC dI a0 a1 a2 cnt cU fu cL fl b (in_hb2 hc c_13)) (cwV 1 hT (kt_V k_27 k_25 k_26 k_2 k_24) rfl rfl rfl (by decide +kernel) ⟨Nat.le_of_ble_eq_true rfl, Nat.le_of_ble_eq_true rfl⟩) ⟨bl_R, va_recv hKc hPc (ci := 1) (q0 := 0) rfl rfl, fun U hU hW => ⟨rfl, by rw [hU]; exact hPc, va_K.moved hW.alike hKc⟩⟩ rfl rfl hl.1 rfl (lv_room (Nat.le_of_ble_eq_true rfl)) d_kr_over_82 ⟨Nat.zero_le _, Nat.zero_le _⟩) (fun r_17 e_r_17 => ?_)
        subst e_r_17
        refine lv_lmul hx hb d_kr_over_85 ?_
        have hPc := hP.sub (ws' := [(a0, .inr (1, [.ref a1, .ref a2, .int cnt])), (a1, .inl (cU, 300, .inl fu)), (a2, .inl (cL, 300, .inl fl))]) [1, 2, 3] rfl
        have hKc := hK.sub (tys' := [(cU, .int), (cL, .int)]) [0, 1] rfl
        have hDc := hD.sub (ws' := [(a0, .inr (1, [.ref a1, .ref a2, .int cnt])), (a1, .inl (cU, 300, .inl fu)), (a2, .inl (cL, 300, .inl fl))]) [1, 2, 3] (by decide) rfl
        have hFc := va_free (wc := [(a0, .inr (1, [.ref a1, .ref a2, .int cnt])), (a1, .inl (cU, 300, .inl fu)), (a2, .inl (cL, 300, .inl fl))]) hD hS hA [1, 2, 3] rfl
        refine va_calli (va_runV (As := [.long ((f_kv_upper fu a) * (f_kv_lower fl b)), .long ((f_kv_lower fl a) * (f_kv_upper fu b))]) (rest := []) ⟨hx, hb, hml, hown, hT⟩ (c_kv_keep l dC dI s.heap.size a0 a1 a2 cnt cU fu cL fl ((f_kv_upper fu a) * (f_kv_lower fl b)) ((f_kv_lower fl a) * (f_kv_upper fu b)) hc) (cwV 2 hT (kt_V k_35 k_33 k_34 k_2 k_32) rfl rfl rfl (by decide +kernel) ⟨Nat.le_of_ble_eq_true rfl, Nat.le_of_ble_eq_true rfl⟩) ⟨bl_MN, va_recv hKc hPc (ci := 1) (q0 := 0) rfl rfl, fun U hU hW => ⟨rfl, by rw [hU], by rw [hU]; exact hPc, va_K.moved hW.alike hKc, hDc.weaken (fun _ _ _ _ => trivial), kt_N.warm hW hN⟩⟩ rfl rfl hl.1 rfl (lv_room (Nat.le_of_ble_eq_true rfl)) d_kr_over_86 ⟨Nat.zero_le _, Nat.zero_le _⟩) hS (fun q _ h => hFc q h) hFc (fun r_18 u t H1 locs ht hvm hw hB hz1 hk1 hS => ?_)
        obtain ⟨fu_18, fl_18, cnt_18⟩ := u
        obtain ⟨hP1, hK1, hD1⟩ := hB
        rw [ht] at hP1
        obtain ⟨hP, hD⟩ := va_join (wr := [(ak, .inr (0, [.int kinds, .ref ac, .int rowc, .ref a0, .ref a_s, .ref a_w]))]) (w1 := [(a0, .inr (1, [.ref a1, .ref a2, .int cnt_18])), (a1, .inl (cU, 300, .inl fu_18)), (a2, .inl (cL, 300, .inl fl_18))]) hP hD [1, 2, 3] [0] rfl rfl (by decide) (by decide) hk1 hFc hP1 hD1
        generalize H1 = H at hP hS ⊢
        have hP := hP.sub (ws' := [(ak, .inr (0, [.int kinds, .ref ac, .int rowc, .ref a0, .ref a_s, .ref a_w])), (a0, .inr (1, [.ref a1, .ref a2, .int cnt_18])), (a1, .inl (cU, 300, .inl fu_18)), (a2, .inl (cL, 300, .inl fl_18))]) [0, 1, 2, 3] rfl
        have hD := hD.sub (ws' := [(ak, .inr (0, [.int kinds, .ref ac, .int rowc, .ref a0, .ref a_s, .ref a_w])), (a0, .inr (1, [.ref a1, .ref a2, .int cnt_18])), (a1, .inl (cU, 300, .inl fu_18)), (a2, .inl (cL, 300, .inl fl_18))]) [0, 1, 2, 3] (by decide) rfl
        have e_r_18 : r_18 = (f_kv_keep cnt fu fl ((f_kv_upper fu a) * (f_kv_lower fl b)) ((f_kv_lower fl a) * (f_kv_upper fu b))).1 := congrArg (fun z => z.1) hw
        have e_fu_18 : fu_18 = (f_kv_keep cnt fu fl ((f_kv_upper fu a) * (f_kv_lower fl b)) ((f_kv_lower fl a) * (f_kv_upper fu b))).2.1 := congrArg (fun z => z.2.1) hw
        have e_fl_18 : fl_18 = (f_kv_keep cnt fu fl ((f_kv_upper fu a) * (f_kv_lower fl b)) ((f_kv_lower fl a) * (f_kv_upper fu b))).2.2.1 := congrArg (fun z => z.2.2.1) hw
        have e_cnt_18 : cnt_18 = (f_kv_keep cnt fu fl ((f_kv_upper fu a) * (f_kv_lower fl b)) ((f_kv_lower fl a) * (f_kv_upper fu b))).2.2.2 := congrArg (fun z => z.2.2.2) hw
        subst e_r_18 e_fu_18 e_fl_18 e_cnt_18
        clear hP1 hK1 hD1 hk1 hz1 hFc hDc hPc hKc
        exact W.iret (v := (f_kv_keep cnt fu fl ((f_kv_upper fu a) * (f_kv_lower fl b)) ((f_kv_lower fl a) * (f_kv_upper fu b))).1) hx hb hr (fun t ht hW => ⟨⟨(f_kv_keep cnt fu fl ((f_kv_upper fu a) * (f_kv_lower fl b)) ((f_kv_lower fl a) * (f_kv_upper fu b))).1, ((f_kv_keep cnt fu fl ((f_kv_upper fu a) * (f_kv_lower fl b)) ((f_kv_lower fl a) * (f_kv_upper fu b))).2.1, (f_kv_keep cnt fu fl ((f_kv_upper fu a) * (f_kv_lower fl b)) ((f_kv_lower fl a) * (f_kv_upper fu b))).2.2.1, (f_kv_keep cnt fu fl ((f_kv_upper fu a) * (f_kv_lower fl b)) ((f_kv_lower fl a) * (f_kv_upper fu b))).2.2.2), rfl, by unfold f_kr_over; rw [if_neg c_2, if_neg c_11, if_neg c_13], by rw [ht]; exact hP, va_K.moved hW.alike hK, hD⟩, hS.F ht⟩) hS.2.2 d_kr_over_89
      · refine lv_iconst (v := (-1)) hx hb d_kr_over_46 (by decide) ?_
        exact W.iret (v := (-1)) hx hb hr (fun t ht hW => ⟨⟨(-1), (fu, fl, cnt), rfl, by unfold f_kr_over; rw [if_neg c_2, if_neg c_11, if_pos c_13], by rw [ht]; exact hP, va_K.moved hW.alike hK, hD⟩, hS.F ht⟩) hS.2.2 d_kr_over_47
    · exact absurd hnt (fun h9 => h9.elim c_2 (fun h8 => h8 c_11))
theorem ow_kr_overT : ∀ w ∈ Bundle.ownAtoms R_kr 51 "java/lang/ArithmeticException" ["java/lang/RuntimeException", "java/lang/Exception"], w ∈ kt_T ∨ w ∈ kt_nest2 ∨ w ∈ kz_4 := by decide +kernel
set_option maxHeartbeats 4000000 in
set_option maxRecDepth 100000 in
theorem c_kr_overT (l : Launch) (hl9 : l.stackTraces = false) (dC : Nat → ClassId) (dI : Nat → Nat → Nat) (AZ : Nat → Prop) (sa : Nat) (ak : Nat) (a0 : Nat) (a1 : Nat) (a2 : Nat) (kinds : Int32) (ac : Nat) (rowc : Int32) (a_s : Nat) (a_w : Nat) (cnt : Int32) (cU : ClassId) (fu : Nat → Int32) (cL : ClassId) (fl : Nat → Int32) (a : Int32) (b : Int32) (hc : vp_in cnt 301) (ht : ¬ f_kv_has cnt b = 0 ∧ f_kv_upper fu b = 0) : kz_Met l y_kr_overT w_kr_overT ({ frames := 6, cells := 1, slots := 6, locals := 82 }) (va_Pc [.ref ak, .int a, .int b] (fun U => va_P (dC, dI) classes [(ak, .inr (0, [.int kinds, .ref ac, .int rowc, .ref a0, .ref a_s, .ref a_w])), (a0, .inr (1, [.ref a1, .ref a2, .int cnt])), (a1, .inl (cU, 300, .inl fu)), (a2, .inl (cL, 300, .inl fl))] U.heap ∧ va_K (dC, dI) classes [(cU, .int), (cL, .int)] U ∧ kt_N2 U ∧ kt_Z AZ U U.heap ∧ vk_R R_kr 85 "the divisor is 0" sa U)) "java/lang/ArithmeticException" := by
  refine kz_ofW (cc := b_kr_overT) (maxL := 3) (ret := (some .int)) (by decide +kernel) rfl ?_
  intro p e s m args below meth c s₁ B hml hno hv
  obtain ⟨rfl, hP, hK, hN2, hZ, hstr⟩ := hv
  have hx := B.exec
  have hb := B.bytes
  have hr := B.returns
  have hts := atoms_spec (ws := w_kr_overT) B.pre
  have hT := fun (w : Cond) (h : w ∈ kt_T) => hts w (List.mem_cons_of_mem _ h)
  have hown : s.vm.findClass R_kr = some m.cls := findClass_of_methodNamed B.named
  have hlocks := B.notSynchronized
  have hl := lv_entry ([.ref ak, .int a, .int b]) (n := 3) (Nat.le_of_ble_eq_true rfl)
  rw [lg_entry_eq]
  generalize (lg_sl ([.ref ak, .int a, .int b]) ++ List.replicate (3 - (lg_sl ([.ref ak, .int a, .int b])).length) Slot.unset).toArray = ls at hl ⊢
  have hl : lv_has ls 3 [(0, .ref ak), (1, .int a), (2, .int b)] := hl
  refine lv_aload_n hx hb d_kr_overT_0 rfl (lv_at hl 0 rfl) ?_
  refine va_get (D := (dC, dI)) (ci := 0) (v := .ref a0) (C := R_kr) (T := F_kr) (N := 6) hx hb hT i_kr hown hK hP 0 rfl rfl 3 (by decide) (hT _ k_19) (fun _ h9 => h9) rfl d_kr_overT_1 ?_
  refine lv_iload_n hx hb d_kr_overT_4 rfl (lv_at hl 2 rfl) ?_
  have hPc := hP.sub (ws' := [(a0, .inr (1, [.ref a1, .ref a2, .int cnt])), (a1, .inl (cU, 300, .inl fu)), (a2, .inl (cL, 300, .inl fl))]) [1, 2, 3] rfl
  have hKc := hK.sub (tys' := [(cU, .int), (cL, .int)]) [0, 1] rfl
  refine vp_callSi (W.runV (As := [.int b]) (rest := []) ⟨hx, hb, hml, hown, hT⟩ (c_kv_has l dC dI a0 a1 a2 cnt cU fu cL fl b) (cwV 1 hT (kt_V k_36 k_3 k_4 k_2 k_1) rfl rfl rfl (by decide +kernel) ⟨Nat.le_of_ble_eq_true rfl, Nat.le_of_ble_eq_true rfl⟩) ⟨bl_R, va_recv hKc hPc (ci := 1) (q0 := 0) rfl rfl, fun U hU hW => ⟨rfl, by rw [hU]; exact hPc, va_K.moved hW.alike hKc⟩⟩ rfl rfl hl.1 rfl (lv_room (Nat.le_of_ble_eq_true rfl)) d_kr_overT_5 ⟨Nat.zero_le _, Nat.zero_le _⟩) (fun r_1 e_r_1 => ?_)
  subst e_r_1
  refine lv_if_eq (tgt := 34) hx hb d_kr_overT_8 (by decide) (fun c_2 => ?_) (fun c_2 => ?_)
  · exact absurd c_2 ht.1
  · refine lv_aload_n hx hb d_kr_overT_11 rfl (lv_at hl 0 rfl) ?_
    refine va_get (D := (dC, dI)) (ci := 0) (v := .ref a0) (C := R_kr) (T := F_kr) (N := 6) hx hb hT i_kr hown hK hP 0 rfl rfl 3 (by decide) (hT _ k_19) (fun _ h9 => h9) rfl d_kr_overT_12 ?_
    refine lv_iload_n hx hb d_kr_overT_15 rfl (lv_at hl 2 rfl) ?_
    have hPc := hP.sub (ws' := [(a0, .inr (1, [.ref a1, .ref a2, .int cnt])), (a1, .inl (cU, 300, .inl fu)), (a2, .inl (cL, 300, .inl fl))]) [1, 2, 3] rfl
    have hKc := hK.sub (tys' := [(cU, .int), (cL, .int)]) [0, 1] rfl
    refine vp_callSl (W.runV (As := [.int b]) (rest := []) ⟨hx, hb, hml, hown, hT⟩ (c_kv_upper l dC dI a0 a1 a2 cnt cU fu cL fl b (in_has hc c_2)) (cwV 1 hT (kt_V k_27 k_25 k_26 k_2 k_24) rfl rfl rfl (by decide +kernel) ⟨Nat.le_of_ble_eq_true rfl, Nat.le_of_ble_eq_true rfl⟩) ⟨bl_R, va_recv hKc hPc (ci := 1) (q0 := 0) rfl rfl, fun U hU hW => ⟨rfl, by rw [hU]; exact hPc, va_K.moved hW.alike hKc⟩⟩ rfl rfl hl.1 rfl (lv_room (Nat.le_of_ble_eq_true rfl)) d_kr_overT_16 ⟨Nat.zero_le _, Nat.zero_le _⟩) (fun r_3 e_r_3 => ?_)
    subst e_r_3
    refine lv_lconst (v := 0) hx hb d_kr_overT_19 (by decide) ?_
    refine lx_ifne (tgt := 34) hx hb d_kr_overT_20 d_kr_overT_21 (by decide) (fun c_4 => ?_) (fun c_4 => ?_)
    · exact absurd ht.2 c_4
    · exact kz_throw (own := R_kr) (cls := "java/lang/ArithmeticException") (names := ["java/lang/RuntimeException", "java/lang/Exception"]) hx hb hl9 hown (by decide +kernel) (by decide +kernel) (hT _ k_211) (hT _ k_212) (hT _ k_213) hstr (kz_own ow_kr_overT hT hN2 hZ) (hl.1.trans hml.symm) d_kr_overT_24 d_kr_overT_27 d_kr_overT_28 d_kr_overT_30 d_kr_overT_33 hno (Nat.le_of_ble_eq_true rfl) (Nat.le_of_ble_eq_true rfl) (Nat.le_of_ble_eq_true rfl) (Nat.le_of_ble_eq_true rfl) hlocks
def f_kr_put (kinds : Int32) (rowc : Int32) (fc : Nat → Int32) (cnt : Int32) (row : Int32) (kind : Int32) (v : Int32) : Int32 × (Nat → Int32) :=
  if (f_kr_hasRow rowc row) = 0 then (0, fc) else if (f_kr_hasKind kinds kind) = 0 then (0, fc) else if v = (-1) then (1, upd fc (((row * kinds) + kind).toNatClampNeg) v) else if (f_kv_has cnt v) = 0 then (0, fc) else (1, upd fc (((row * kinds) + kind).toNatClampNeg) v)
set_option maxHeartbeats 4000000 in
set_option maxRecDepth 100000 in
theorem c_kr_put (l : Launch) (dC : Nat → ClassId) (dI : Nat → Nat → Nat) (sz : Nat) (ak : Nat) (ac : Nat) (a0 : Nat) (a1 : Nat) (a2 : Nat) (kinds : Int32) (rowc : Int32) (a_s : Nat) (a_w : Nat) (cC : ClassId) (nk : Nat) (fc : Nat → Int32) (cnt : Int32) (cU : ClassId) (fu : Nat → Int32) (cL : ClassId) (fl : Nat → Int32) (row : Int32) (kind : Int32) (v : Int32) (hn : kinds = nI nk ∧ nk ≤ 16) (hr0 : vp_in rowc 21) (hnt : f_kr_hasRow rowc row = 0 ∨ ¬ f_kr_hasKind kinds kind = 0) : Met l y_kr_put w_kr_put ({ frames := 1, cells := 0, slots := 0, locals := 21 }) (va_Pc [.ref ak, .int row, .int kind, .int v] (fun U => U.heap.size = sz ∧ va_P (dC, dI) classes [(ak, .inr (0, [.int kinds, .ref ac, .int rowc, .ref a0, .ref a_s, .ref a_w])), (ac, .inl (cC, (20 * nk), .inl fc)), (a0, .inr (1, [.ref a1, .ref a2, .int cnt])), (a1, .inl (cU, 300, .inl fu)), (a2, .inl (cL, 300, .inl fl))] U.heap ∧ va_K (dC, dI) classes [(cC, .int), (cU, .int), (cL, .int)] U ∧ va_D (fun _ => True) [(ak, .inr (0, [.int kinds, .ref ac, .int rowc, .ref a0, .ref a_s, .ref a_w])), (ac, .inl (cC, (20 * nk), .inl fc)), (a0, .inr (1, [.ref a1, .ref a2, .int cnt])), (a1, .inl (cU, 300, .inl fu)), (a2, .inl (cL, 300, .inl fl))])) (va_Qi (fun z9 u9 => (z9, u9) = f_kr_put kinds rowc fc cnt row kind v) (fun (u : (Nat → Int32)) t => match u with | fc' => va_P (dC, dI) classes [(ak, .inr (0, [.int kinds, .ref ac, .int rowc, .ref a0, .ref a_s, .ref a_w])), (ac, .inl (cC, (20 * nk), .inl fc')), (a0, .inr (1, [.ref a1, .ref a2, .int cnt])), (a1, .inl (cU, 300, .inl fu)), (a2, .inl (cL, 300, .inl fl))] t.heap ∧ va_K (dC, dI) classes [(cC, .int), (cU, .int), (cL, .int)] t ∧ va_D (va_A [(ak, .inr (0, [.int kinds, .ref ac, .int rowc, .ref a0, .ref a_s, .ref a_w])), (ac, .inl (cC, (20 * nk), .inl fc)), (a0, .inr (1, [.ref a1, .ref a2, .int cnt])), (a1, .inl (cU, 300, .inl fu)), (a2, .inl (cL, 300, .inl fl))] sz) [(ak, .inr (0, [.int kinds, .ref ac, .int rowc, .ref a0, .ref a_s, .ref a_w])), (ac, .inl (cC, (20 * nk), .inl fc')), (a0, .inr (1, [.ref a1, .ref a2, .int cnt])), (a1, .inl (cU, 300, .inl fu)), (a2, .inl (cL, 300, .inl fl))]) (va_A [(ak, .inr (0, [.int kinds, .ref ac, .int rowc, .ref a0, .ref a_s, .ref a_w])), (ac, .inl (cC, (20 * nk), .inl fc)), (a0, .inr (1, [.ref a1, .ref a2, .int cnt])), (a1, .inl (cU, 300, .inl fu)), (a2, .inl (cL, 300, .inl fl))] sz)) 0 0 (va_A [(ak, .inr (0, [.int kinds, .ref ac, .int rowc, .ref a0, .ref a_s, .ref a_w])), (ac, .inl (cC, (20 * nk), .inl fc)), (a0, .inr (1, [.ref a1, .ref a2, .int cnt])), (a1, .inl (cU, 300, .inl fu)), (a2, .inl (cL, 300, .inl fl))] sz) := by
  refine Met.ofW (cc := b_kr_put) (maxL := 4) (ret := (some .boolean)) (by decide +kernel) rfl ?_
  intro p e s m args below meth c s₁ B hml hv
  obtain ⟨rfl, hsz, hP, hK, hD0⟩ := hv
  have hx := B.exec
  have hb := B.bytes
  have hr := B.returns
  have hts := atoms_spec (ws := w_kr_put) B.pre
  have hT := fun (w : Cond) (h : w ∈ kt_T) => hts w (List.mem_cons_of_mem _ h)
  have hown : s.vm.findClass R_kr = some m.cls := findClass_of_methodNamed B.named
  have hlocks := B.notSynchronized
  subst hsz
  have hD := hD0.self (sz := s.heap.size)
  generalize hAe : va_A [(ak, .inr (0, [.int kinds, .ref ac, .int rowc, .ref a0, .ref a_s, .ref a_w])), (ac, .inl (cC, (20 * nk), .inl fc)), (a0, .inr (1, [.ref a1, .ref a2, .int cnt])), (a1, .inl (cU, 300, .inl fu)), (a2, .inl (cL, 300, .inl fl))] s.heap.size = A at hD ⊢
  have hA : ∀ q : Nat, s.heap.size ≤ q → A q := fun q h => by rw [← hAe]; exact Or.inr h
  have hS : va_S A s.heap s.heap [] := va_S.rf
  have hl := lv_entry ([.ref ak, .int row, .int kind, .int v]) (n := 4) (Nat.le_of_ble_eq_true rfl)
  rw [lg_entry_eq]
  generalize (lg_sl ([.ref ak, .int row, .int kind, .int v]) ++ List.replicate (4 - (lg_sl ([.ref ak, .int row, .int kind, .int v])).length) Slot.unset).toArray = ls at hl ⊢
  have hl : lv_has ls 4 [(0, .ref ak), (1, .int row), (2, .int kind), (3, .int v)] := hl
  refine lv_aload_n hx hb d_kr_put_0 rfl (lv_at hl 0 rfl) ?_
  refine lv_iload_n hx hb d_kr_put_1 rfl (lv_at hl 1 rfl) ?_
  have hPc := hP.sub (ws' := [(ak, .inr (0, [.int kinds, .ref ac, .int rowc, .ref a0, .ref a_s, .ref a_w]))]) [0] rfl
  have hKc := hK.sub (tys' := []) [] rfl
  refine vp_callSi (W.runV (As := [.int row]) (rest := []) ⟨hx, hb, hml, hown, hT⟩ (c_kr_hasRow l dC dI ak kinds ac rowc a0 a_s a_w row) (cwV 1 hT (kt_V k_121 k_119 k_120 k_11 k_118) rfl rfl rfl (by decide +kernel) ⟨Nat.le_of_ble_eq_true rfl, Nat.le_of_ble_eq_true rfl⟩) ⟨bl_R, va_recv hKc hPc (ci := 0) (q0 := 0) rfl rfl, fun U hU hW => ⟨rfl, by rw [hU]; exact hPc, va_K.moved hW.alike hKc⟩⟩ rfl rfl hl.1 rfl (lv_room (Nat.le_of_ble_eq_true rfl)) d_kr_put_2 ⟨Nat.zero_le _, Nat.zero_le _⟩) (fun r_1 e_r_1 => ?_)
  subst e_r_1
  refine lv_if_ne (tgt := 10) hx hb d_kr_put_5 (by decide) (fun c_2 => ?_) (fun c_2 => ?_)
  · refine lv_aload_n hx hb d_kr_put_10 rfl (lv_at hl 0 rfl) ?_
    refine lv_iload_n hx hb d_kr_put_11 rfl (lv_at hl 2 rfl) ?_
    have hPc := hP.sub (ws' := [(ak, .inr (0, [.int kinds, .ref ac, .int rowc, .ref a0, .ref a_s, .ref a_w]))]) [0] rfl
    have hKc := hK.sub (tys' := []) [] rfl
    refine vp_callSi (W.runV (As := [.int kind]) (rest := []) ⟨hx, hb, hml, hown, hT⟩ (c_kr_hasKind l dC dI ak kinds ac rowc a0 a_s a_w kind) (cwV 1 hT (kt_V k_220 k_218 k_219 k_11 k_217) rfl rfl rfl (by decide +kernel) ⟨Nat.le_of_ble_eq_true rfl, Nat.le_of_ble_eq_true rfl⟩) ⟨bl_R, va_recv hKc hPc (ci := 0) (q0 := 0) rfl rfl, fun U hU hW => ⟨rfl, by rw [hU]; exact hPc, va_K.moved hW.alike hKc⟩⟩ rfl rfl hl.1 rfl (lv_room (Nat.le_of_ble_eq_true rfl)) d_kr_put_12 ⟨Nat.zero_le _, Nat.zero_le _⟩) (fun r_3 e_r_3 => ?_)
    subst e_r_3
    refine lv_if_ne (tgt := 28) hx hb d_kr_put_15 (by decide) (fun c_4 => ?_) (fun c_4 => ?_)
    · refine lv_iload_n hx hb d_kr_put_28 rfl (lv_at hl 3 rfl) ?_
      refine lv_iconst (v := (-1)) hx hb d_kr_put_29 (by decide) ?_
      refine lv_icmp_eq (tgt := 46) hx hb d_kr_put_30 (by decide) (fun c_5 => ?_) (fun c_5 => ?_)
      · refine lv_aload_n hx hb d_kr_put_46 rfl (lv_at hl 0 rfl) ?_
        refine va_get (D := (dC, dI)) (ci := 0) (v := .ref ac) (C := R_kr) (T := F_kr) (N := 6) hx hb hT i_kr hown hK hP 0 rfl rfl 1 (by decide) (hT _ k_115) (fun _ h9 => h9) rfl d_kr_put_47 ?_
        refine lv_iload_n hx hb d_kr_put_50 rfl (lv_at hl 1 rfl) ?_
        refine lv_aload_n hx hb d_kr_put_51 rfl (lv_at hl 0 rfl) ?_
        refine va_get (D := (dC, dI)) (ci := 0) (v := .int kinds) (C := R_kr) (T := F_kr) (N := 6) hx hb hT i_kr hown hK hP 0 rfl rfl 0 (by decide) (hT _ k_17) (fun _ h9 => h9) rfl d_kr_put_52 ?_
        refine lv_imul hx hb d_kr_put_55 ?_
        refine lv_iload_n hx hb d_kr_put_56 rfl (lv_at hl 2 rfl) ?_
        refine lv_iadd hx hb d_kr_put_57 ?_
        refine lv_iload_n hx hb d_kr_put_58 rfl (lv_at hl 3 rfl) ?_
        refine va_iast hx hb hK hP hD hS 1 0 rfl rfl (in_cell hn hr0 c_2 c_4) d_kr_put_59 (fun H locs hP hD hS => ?_)
        have hP : va_P (dC, dI) classes [(ak, .inr (0, [.int kinds, .ref ac, .int rowc, .ref a0, .ref a_s, .ref a_w])), (ac, .inl (cC, (20 * nk), .inl (upd fc (((row * kinds) + kind).toNatClampNeg) v))), (a0, .inr (1, [.ref a1, .ref a2, .int cnt])), (a1, .inl (cU, 300, .inl fu)), (a2, .inl (cL, 300, .inl fl))] H := hP
        have hD : va_D A [(ak, .inr (0, [.int kinds, .ref ac, .int rowc, .ref a0, .ref a_s, .ref a_w])), (ac, .inl (cC, (20 * nk), .inl (upd fc (((row * kinds) + kind).toNatClampNeg) v))), (a0, .inr (1, [.ref a1, .ref a2, .int cnt])), (a1, .inl (cU, 300, .inl fu)), (a2, .inl (cL, 300, .inl fl))] := hD
        refine lv_iconst (v := 1) hx hb d_kr_put_60 (by decide) ?_
        exact W.zret (v := 1) hx hb hr rfl (fun t ht hW => ⟨⟨1, upd fc (((row * kinds) + kind).toNatClampNeg) v, rfl, by unfold f_kr_put; rw [if_neg c_2, if_neg c_4, if_pos c_5], by rw [ht]; exact hP, va_K.moved hW.alike hK, hD⟩, hS.F ht⟩) hS.2.2 d_kr_put_61
      · refine lv_aload_n hx hb d_kr_put_33 rfl (lv_at hl 0 rfl) ?_
        refine va_get (D := (dC, dI)) (ci := 0) (v := .ref a0) (C := R_kr) (T := F_kr) (N := 6) hx hb hT i_kr hown hK hP 0 rfl rfl 3 (by decide) (hT _ k_19) (fun _ h9 => h9) rfl d_kr_put_34 ?_
        refine lv_iload_n hx hb d_kr_put_37 rfl (lv_at hl 3 rfl) ?_
        have hPc := hP.sub (ws' := [(a0, .inr (1, [.ref a1, .ref a2, .int cnt])), (a1, .inl (cU, 300, .inl fu)), (a2, .inl (cL, 300, .inl fl))]) [2, 3, 4] rfl
        have hKc := hK.sub (tys' := [(cU, .int), (cL, .int)]) [1, 2] rfl
        refine vp_callSi (W.runV (As := [.int v]) (rest := []) ⟨hx, hb, hml, hown, hT⟩ (c_kv_has l dC dI a0 a1 a2 cnt cU fu cL fl v) (cwV 1 hT (kt_V k_36 k_3 k_4 k_2 k_1) rfl rfl rfl (by decide +kernel) ⟨Nat.le_of_ble_eq_true rfl, Nat.le_of_ble_eq_true rfl⟩) ⟨bl_R, va_recv hKc hPc (ci := 1) (q0 := 0) rfl rfl, fun U hU hW => ⟨rfl, by rw [hU]; exact hPc, va_K.moved hW.alike hKc⟩⟩ rfl rfl hl.1 rfl (lv_room (Nat.le_of_ble_eq_true rfl)) d_kr_put_38 ⟨Nat.zero_le _, Nat.zero_le _⟩) (fun r_6 e_r_6 => ?_)
        subst e_r_6
        refine lv_if_ne (tgt := 46) hx hb d_kr_put_41 (by decide) (fun c_7 => ?_) (fun c_7 => ?_)
        · refine lv_aload_n hx hb d_kr_put_46 rfl (lv_at hl 0 rfl) ?_
          refine va_get (D := (dC, dI)) (ci := 0) (v := .ref ac) (C := R_kr) (T := F_kr) (N := 6) hx hb hT i_kr hown hK hP 0 rfl rfl 1 (by decide) (hT _ k_115) (fun _ h9 => h9) rfl d_kr_put_47 ?_
          refine lv_iload_n hx hb d_kr_put_50 rfl (lv_at hl 1 rfl) ?_
          refine lv_aload_n hx hb d_kr_put_51 rfl (lv_at hl 0 rfl) ?_
          refine va_get (D := (dC, dI)) (ci := 0) (v := .int kinds) (C := R_kr) (T := F_kr) (N := 6) hx hb hT i_kr hown hK hP 0 rfl rfl 0 (by decide) (hT _ k_17) (fun _ h9 => h9) rfl d_kr_put_52 ?_
          refine lv_imul hx hb d_kr_put_55 ?_
          refine lv_iload_n hx hb d_kr_put_56 rfl (lv_at hl 2 rfl) ?_
          refine lv_iadd hx hb d_kr_put_57 ?_
          refine lv_iload_n hx hb d_kr_put_58 rfl (lv_at hl 3 rfl) ?_
          refine va_iast hx hb hK hP hD hS 1 0 rfl rfl (in_cell hn hr0 c_2 c_4) d_kr_put_59 (fun H locs hP hD hS => ?_)
          have hP : va_P (dC, dI) classes [(ak, .inr (0, [.int kinds, .ref ac, .int rowc, .ref a0, .ref a_s, .ref a_w])), (ac, .inl (cC, (20 * nk), .inl (upd fc (((row * kinds) + kind).toNatClampNeg) v))), (a0, .inr (1, [.ref a1, .ref a2, .int cnt])), (a1, .inl (cU, 300, .inl fu)), (a2, .inl (cL, 300, .inl fl))] H := hP
          have hD : va_D A [(ak, .inr (0, [.int kinds, .ref ac, .int rowc, .ref a0, .ref a_s, .ref a_w])), (ac, .inl (cC, (20 * nk), .inl (upd fc (((row * kinds) + kind).toNatClampNeg) v))), (a0, .inr (1, [.ref a1, .ref a2, .int cnt])), (a1, .inl (cU, 300, .inl fu)), (a2, .inl (cL, 300, .inl fl))] := hD
          refine lv_iconst (v := 1) hx hb d_kr_put_60 (by decide) ?_
          exact W.zret (v := 1) hx hb hr rfl (fun t ht hW => ⟨⟨1, upd fc (((row * kinds) + kind).toNatClampNeg) v, rfl, by unfold f_kr_put; rw [if_neg c_2, if_neg c_4, if_neg c_5, if_neg c_7], by rw [ht]; exact hP, va_K.moved hW.alike hK, hD⟩, hS.F ht⟩) hS.2.2 d_kr_put_61
        · refine lv_iconst (v := 0) hx hb d_kr_put_44 (by decide) ?_
          exact W.zret (v := 0) hx hb hr rfl (fun t ht hW => ⟨⟨0, fc, rfl, by unfold f_kr_put; rw [if_neg c_2, if_neg c_4, if_neg c_5, if_pos c_7], by rw [ht]; exact hP, va_K.moved hW.alike hK, hD⟩, hS.F ht⟩) hS.2.2 d_kr_put_45
    · exact absurd hnt (fun h9 => h9.elim c_2 (fun h8 => h8 c_4))
  · refine lv_iconst (v := 0) hx hb d_kr_put_8 (by decide) ?_
    exact W.zret (v := 0) hx hb hr rfl (fun t ht hW => ⟨⟨0, fc, rfl, by unfold f_kr_put; rw [if_pos c_2], by rw [ht]; exact hP, va_K.moved hW.alike hK, hD⟩, hS.F ht⟩) hS.2.2 d_kr_put_9
theorem ow_kr_putT : ∀ w ∈ Bundle.ownAtoms R_kr 69 "java/lang/IndexOutOfBoundsException" ["java/lang/RuntimeException", "java/lang/Exception"], w ∈ kt_T ∨ w ∈ kt_nest2 ∨ w ∈ kz_4 := by decide +kernel
set_option maxHeartbeats 4000000 in
set_option maxRecDepth 100000 in
theorem c_kr_putT (l : Launch) (hl9 : l.stackTraces = false) (dC : Nat → ClassId) (dI : Nat → Nat → Nat) (AZ : Nat → Prop) (sa : Nat) (ak : Nat) (kinds : Int32) (ac : Nat) (rowc : Int32) (a0 : Nat) (a_s : Nat) (a_w : Nat) (row : Int32) (kind : Int32) (v : Int32) (ht : ¬ f_kr_hasRow rowc row = 0 ∧ f_kr_hasKind kinds kind = 0) : kz_Met l y_kr_putT w_kr_putT ({ frames := 6, cells := 1, slots := 6, locals := 82 }) (va_Pc [.ref ak, .int row, .int kind, .int v] (fun U => va_P (dC, dI) classes [(ak, .inr (0, [.int kinds, .ref ac, .int rowc, .ref a0, .ref a_s, .ref a_w]))] U.heap ∧ va_K (dC, dI) classes [] U ∧ kt_N2 U ∧ kt_Z AZ U U.heap ∧ vk_R R_kr 114 "no such kind" sa U)) "java/lang/IndexOutOfBoundsException" := by
  refine kz_ofW (cc := b_kr_putT) (maxL := 4) (ret := (some .boolean)) (by decide +kernel) rfl ?_
  intro p e s m args below meth c s₁ B hml hno hv
  obtain ⟨rfl, hP, hK, hN2, hZ, hstr⟩ := hv
  have hx := B.exec
  have hb := B.bytes
  have hr := B.returns
  have hts := atoms_spec (ws := w_kr_putT) B.pre
  have hT := fun (w : Cond) (h : w ∈ kt_T) => hts w (List.mem_cons_of_mem _ h)
  have hown : s.vm.findClass R_kr = some m.cls := findClass_of_methodNamed B.named
  have hlocks := B.notSynchronized
  have hl := lv_entry ([.ref ak, .int row, .int kind, .int v]) (n := 4) (Nat.le_of_ble_eq_true rfl)
  rw [lg_entry_eq]
  generalize (lg_sl ([.ref ak, .int row, .int kind, .int v]) ++ List.replicate (4 - (lg_sl ([.ref ak, .int row, .int kind, .int v])).length) Slot.unset).toArray = ls at hl ⊢
  have hl : lv_has ls 4 [(0, .ref ak), (1, .int row), (2, .int kind), (3, .int v)] := hl
  refine lv_aload_n hx hb d_kr_putT_0 rfl (lv_at hl 0 rfl) ?_
  refine lv_iload_n hx hb d_kr_putT_1 rfl (lv_at hl 1 rfl) ?_
  have hPc := hP.sub (ws' := [(ak, .inr (0, [.int kinds, .ref ac, .int rowc, .ref a0, .ref a_s, .ref a_w]))]) [0] rfl
  have hKc := hK.sub (tys' := []) [] rfl
  refine vp_callSi (W.runV (As := [.int row]) (rest := []) ⟨hx, hb, hml, hown, hT⟩ (c_kr_hasRow l dC dI ak kinds ac rowc a0 a_s a_w row) (cwV 1 hT (kt_V k_121 k_119 k_120 k_11 k_118) rfl rfl rfl (by decide +kernel) ⟨Nat.le_of_ble_eq_true rfl, Nat.le_of_ble_eq_true rfl⟩) ⟨bl_R, va_recv hKc hPc (ci := 0) (q0 := 0) rfl rfl, fun U hU hW => ⟨rfl, by rw [hU]; exact hPc, va_K.moved hW.alike hKc⟩⟩ rfl rfl hl.1 rfl (lv_room (Nat.le_of_ble_eq_true rfl)) d_kr_putT_2 ⟨Nat.zero_le _, Nat.zero_le _⟩) (fun r_1 e_r_1 => ?_)
  subst e_r_1
  refine lv_if_ne (tgt := 10) hx hb d_kr_putT_5 (by decide) (fun c_2 => ?_) (fun c_2 => ?_)
  · refine lv_aload_n hx hb d_kr_putT_10 rfl (lv_at hl 0 rfl) ?_
    refine lv_iload_n hx hb d_kr_putT_11 rfl (lv_at hl 2 rfl) ?_
    have hPc := hP.sub (ws' := [(ak, .inr (0, [.int kinds, .ref ac, .int rowc, .ref a0, .ref a_s, .ref a_w]))]) [0] rfl
    have hKc := hK.sub (tys' := []) [] rfl
    refine vp_callSi (W.runV (As := [.int kind]) (rest := []) ⟨hx, hb, hml, hown, hT⟩ (c_kr_hasKind l dC dI ak kinds ac rowc a0 a_s a_w kind) (cwV 1 hT (kt_V k_220 k_218 k_219 k_11 k_217) rfl rfl rfl (by decide +kernel) ⟨Nat.le_of_ble_eq_true rfl, Nat.le_of_ble_eq_true rfl⟩) ⟨bl_R, va_recv hKc hPc (ci := 0) (q0 := 0) rfl rfl, fun U hU hW => ⟨rfl, by rw [hU]; exact hPc, va_K.moved hW.alike hKc⟩⟩ rfl rfl hl.1 rfl (lv_room (Nat.le_of_ble_eq_true rfl)) d_kr_putT_12 ⟨Nat.zero_le _, Nat.zero_le _⟩) (fun r_3 e_r_3 => ?_)
    subst e_r_3
    refine lv_if_ne (tgt := 28) hx hb d_kr_putT_15 (by decide) (fun c_4 => ?_) (fun c_4 => ?_)
    · exact absurd ht.2 c_4
    · exact kz_throw (own := R_kr) (cls := "java/lang/IndexOutOfBoundsException") (names := ["java/lang/RuntimeException", "java/lang/Exception"]) hx hb hl9 hown (by decide +kernel) (by decide +kernel) (hT _ k_214) (hT _ k_215) (hT _ k_216) hstr (kz_own ow_kr_putT hT hN2 hZ) (hl.1.trans hml.symm) d_kr_putT_18 d_kr_putT_21 d_kr_putT_22 d_kr_putT_24 d_kr_putT_27 hno (Nat.le_of_ble_eq_true rfl) (Nat.le_of_ble_eq_true rfl) (Nat.le_of_ble_eq_true rfl) (Nat.le_of_ble_eq_true rfl) hlocks
  · refine lv_iconst (v := 0) hx hb d_kr_putT_8 (by decide) ?_
    exact absurd c_2 ht.1
def f_kr_at (kinds : Int32) (rowc : Int32) (fc : Nat → Int32) (row : Int32) (kind : Int32) : Int32 :=
  if (f_kr_hasRow rowc row) = 0 then (-1) else if (f_kr_hasKind kinds kind) = 0 then 0 else (fc (((row * kinds) + kind).toNatClampNeg))
set_option maxHeartbeats 4000000 in
set_option maxRecDepth 100000 in
theorem c_kr_at (l : Launch) (dC : Nat → ClassId) (dI : Nat → Nat → Nat) (ak : Nat) (ac : Nat) (kinds : Int32) (rowc : Int32) (a0 : Nat) (a_s : Nat) (a_w : Nat) (cC : ClassId) (nk : Nat) (fc : Nat → Int32) (row : Int32) (kind : Int32) (hn : kinds = nI nk ∧ nk ≤ 16) (hr0 : vp_in rowc 21) (hnt : f_kr_hasRow rowc row = 0 ∨ ¬ f_kr_hasKind kinds kind = 0) : Met l y_kr_at w_kr_at ({ frames := 1, cells := 0, slots := 0, locals := 21 }) (va_Pc [.ref ak, .int row, .int kind] (fun U => va_P (dC, dI) classes [(ak, .inr (0, [.int kinds, .ref ac, .int rowc, .ref a0, .ref a_s, .ref a_w])), (ac, .inl (cC, (20 * nk), .inl fc))] U.heap ∧ va_K (dC, dI) classes [(cC, .int)] U)) (vp_Si (fun z9 => z9 = f_kr_at kinds rowc fc row kind)) 0 0 (fun _ => False) := by
  refine Met.ofW (cc := b_kr_at) (maxL := 3) (ret := (some .int)) (by decide +kernel) rfl ?_
  intro p e s m args below meth c s₁ B hml hv
  obtain ⟨rfl, hP, hK⟩ := hv
  have hx := B.exec
  have hb := B.bytes
  have hr := B.returns
  have hts := atoms_spec (ws := w_kr_at) B.pre
  have hT := fun (w : Cond) (h : w ∈ kt_T) => hts w (List.mem_cons_of_mem _ h)
  have hown : s.vm.findClass R_kr = some m.cls := findClass_of_methodNamed B.named
  have hlocks := B.notSynchronized
  have hl := lv_entry ([.ref ak, .int row, .int kind]) (n := 3) (Nat.le_of_ble_eq_true rfl)
  rw [lg_entry_eq]
  generalize (lg_sl ([.ref ak, .int row, .int kind]) ++ List.replicate (3 - (lg_sl ([.ref ak, .int row, .int kind])).length) Slot.unset).toArray = ls at hl ⊢
  have hl : lv_has ls 3 [(0, .ref ak), (1, .int row), (2, .int kind)] := hl
  refine lv_aload_n hx hb d_kr_at_0 rfl (lv_at hl 0 rfl) ?_
  refine lv_iload_n hx hb d_kr_at_1 rfl (lv_at hl 1 rfl) ?_
  have hPc := hP.sub (ws' := [(ak, .inr (0, [.int kinds, .ref ac, .int rowc, .ref a0, .ref a_s, .ref a_w]))]) [0] rfl
  have hKc := hK.sub (tys' := []) [] rfl
  refine vp_callSi (W.runV (As := [.int row]) (rest := []) ⟨hx, hb, hml, hown, hT⟩ (c_kr_hasRow l dC dI ak kinds ac rowc a0 a_s a_w row) (cwV 1 hT (kt_V k_121 k_119 k_120 k_11 k_118) rfl rfl rfl (by decide +kernel) ⟨Nat.le_of_ble_eq_true rfl, Nat.le_of_ble_eq_true rfl⟩) ⟨bl_R, va_recv hKc hPc (ci := 0) (q0 := 0) rfl rfl, fun U hU hW => ⟨rfl, by rw [hU]; exact hPc, va_K.moved hW.alike hKc⟩⟩ rfl rfl hl.1 rfl (lv_room (Nat.le_of_ble_eq_true rfl)) d_kr_at_2 ⟨Nat.zero_le _, Nat.zero_le _⟩) (fun r_1 e_r_1 => ?_)
  subst e_r_1
  refine lv_if_ne (tgt := 10) hx hb d_kr_at_5 (by decide) (fun c_2 => ?_) (fun c_2 => ?_)
  · refine lv_aload_n hx hb d_kr_at_10 rfl (lv_at hl 0 rfl) ?_
    refine lv_iload_n hx hb d_kr_at_11 rfl (lv_at hl 2 rfl) ?_
    have hPc := hP.sub (ws' := [(ak, .inr (0, [.int kinds, .ref ac, .int rowc, .ref a0, .ref a_s, .ref a_w]))]) [0] rfl
    have hKc := hK.sub (tys' := []) [] rfl
    refine vp_callSi (W.runV (As := [.int kind]) (rest := []) ⟨hx, hb, hml, hown, hT⟩ (c_kr_hasKind l dC dI ak kinds ac rowc a0 a_s a_w kind) (cwV 1 hT (kt_V k_220 k_218 k_219 k_11 k_217) rfl rfl rfl (by decide +kernel) ⟨Nat.le_of_ble_eq_true rfl, Nat.le_of_ble_eq_true rfl⟩) ⟨bl_R, va_recv hKc hPc (ci := 0) (q0 := 0) rfl rfl, fun U hU hW => ⟨rfl, by rw [hU]; exact hPc, va_K.moved hW.alike hKc⟩⟩ rfl rfl hl.1 rfl (lv_room (Nat.le_of_ble_eq_true rfl)) d_kr_at_12 ⟨Nat.zero_le _, Nat.zero_le _⟩) (fun r_3 e_r_3 => ?_)
    subst e_r_3
    refine lv_if_ne (tgt := 28) hx hb d_kr_at_15 (by decide) (fun c_4 => ?_) (fun c_4 => ?_)
    · refine lv_aload_n hx hb d_kr_at_28 rfl (lv_at hl 0 rfl) ?_
      refine va_get (D := (dC, dI)) (ci := 0) (v := .ref ac) (C := R_kr) (T := F_kr) (N := 6) hx hb hT i_kr hown hK hP 0 rfl rfl 1 (by decide) (hT _ k_115) (fun _ h9 => h9) rfl d_kr_at_29 ?_
      refine lv_iload_n hx hb d_kr_at_32 rfl (lv_at hl 1 rfl) ?_
      refine lv_aload_n hx hb d_kr_at_33 rfl (lv_at hl 0 rfl) ?_
      refine va_get (D := (dC, dI)) (ci := 0) (v := .int kinds) (C := R_kr) (T := F_kr) (N := 6) hx hb hT i_kr hown hK hP 0 rfl rfl 0 (by decide) (hT _ k_17) (fun _ h9 => h9) rfl d_kr_at_34 ?_
      refine lv_imul hx hb d_kr_at_37 ?_
      refine lv_iload_n hx hb d_kr_at_38 rfl (lv_at hl 2 rfl) ?_
      refine lv_iadd hx hb d_kr_at_39 ?_
      refine va_iald hx hb hK hP 1 0 rfl rfl (in_cell hn hr0 c_2 c_4) d_kr_at_40 ?_
      exact W.iret (v := fc (((row * kinds) + kind).toNatClampNeg)) hx hb hr (fun t ht hW => ⟨_, rfl, by unfold f_kr_at; rw [if_neg c_2, if_neg c_4], ht⟩) t_nil d_kr_at_41
    · exact absurd hnt (fun h9 => h9.elim c_2 (fun h8 => h8 c_4))
  · refine lv_iconst (v := (-1)) hx hb d_kr_at_8 (by decide) ?_
    exact W.iret (v := (-1)) hx hb hr (fun t ht hW => ⟨_, rfl, by unfold f_kr_at; rw [if_pos c_2], ht⟩) t_nil d_kr_at_9
theorem ow_kr_atT : ∀ w ∈ Bundle.ownAtoms R_kr 69 "java/lang/IndexOutOfBoundsException" ["java/lang/RuntimeException", "java/lang/Exception"], w ∈ kt_T ∨ w ∈ kt_nest2 ∨ w ∈ kz_4 := by decide +kernel
set_option maxHeartbeats 4000000 in
set_option maxRecDepth 100000 in
theorem c_kr_atT (l : Launch) (hl9 : l.stackTraces = false) (dC : Nat → ClassId) (dI : Nat → Nat → Nat) (AZ : Nat → Prop) (sa : Nat) (ak : Nat) (kinds : Int32) (ac : Nat) (rowc : Int32) (a0 : Nat) (a_s : Nat) (a_w : Nat) (row : Int32) (kind : Int32) (ht : ¬ f_kr_hasRow rowc row = 0 ∧ f_kr_hasKind kinds kind = 0) : kz_Met l y_kr_atT w_kr_atT ({ frames := 6, cells := 1, slots := 6, locals := 82 }) (va_Pc [.ref ak, .int row, .int kind] (fun U => va_P (dC, dI) classes [(ak, .inr (0, [.int kinds, .ref ac, .int rowc, .ref a0, .ref a_s, .ref a_w]))] U.heap ∧ va_K (dC, dI) classes [] U ∧ kt_N2 U ∧ kt_Z AZ U U.heap ∧ vk_R R_kr 114 "no such kind" sa U)) "java/lang/IndexOutOfBoundsException" := by
  refine kz_ofW (cc := b_kr_atT) (maxL := 3) (ret := (some .int)) (by decide +kernel) rfl ?_
  intro p e s m args below meth c s₁ B hml hno hv
  obtain ⟨rfl, hP, hK, hN2, hZ, hstr⟩ := hv
  have hx := B.exec
  have hb := B.bytes
  have hr := B.returns
  have hts := atoms_spec (ws := w_kr_atT) B.pre
  have hT := fun (w : Cond) (h : w ∈ kt_T) => hts w (List.mem_cons_of_mem _ h)
  have hown : s.vm.findClass R_kr = some m.cls := findClass_of_methodNamed B.named
  have hlocks := B.notSynchronized
  have hl := lv_entry ([.ref ak, .int row, .int kind]) (n := 3) (Nat.le_of_ble_eq_true rfl)
  rw [lg_entry_eq]
  generalize (lg_sl ([.ref ak, .int row, .int kind]) ++ List.replicate (3 - (lg_sl ([.ref ak, .int row, .int kind])).length) Slot.unset).toArray = ls at hl ⊢
  have hl : lv_has ls 3 [(0, .ref ak), (1, .int row), (2, .int kind)] := hl
  refine lv_aload_n hx hb d_kr_atT_0 rfl (lv_at hl 0 rfl) ?_
  refine lv_iload_n hx hb d_kr_atT_1 rfl (lv_at hl 1 rfl) ?_
  have hPc := hP.sub (ws' := [(ak, .inr (0, [.int kinds, .ref ac, .int rowc, .ref a0, .ref a_s, .ref a_w]))]) [0] rfl
  have hKc := hK.sub (tys' := []) [] rfl
  refine vp_callSi (W.runV (As := [.int row]) (rest := []) ⟨hx, hb, hml, hown, hT⟩ (c_kr_hasRow l dC dI ak kinds ac rowc a0 a_s a_w row) (cwV 1 hT (kt_V k_121 k_119 k_120 k_11 k_118) rfl rfl rfl (by decide +kernel) ⟨Nat.le_of_ble_eq_true rfl, Nat.le_of_ble_eq_true rfl⟩) ⟨bl_R, va_recv hKc hPc (ci := 0) (q0 := 0) rfl rfl, fun U hU hW => ⟨rfl, by rw [hU]; exact hPc, va_K.moved hW.alike hKc⟩⟩ rfl rfl hl.1 rfl (lv_room (Nat.le_of_ble_eq_true rfl)) d_kr_atT_2 ⟨Nat.zero_le _, Nat.zero_le _⟩) (fun r_1 e_r_1 => ?_)
  subst e_r_1
  refine lv_if_ne (tgt := 10) hx hb d_kr_atT_5 (by decide) (fun c_2 => ?_) (fun c_2 => ?_)
  · refine lv_aload_n hx hb d_kr_atT_10 rfl (lv_at hl 0 rfl) ?_
    refine lv_iload_n hx hb d_kr_atT_11 rfl (lv_at hl 2 rfl) ?_
    have hPc := hP.sub (ws' := [(ak, .inr (0, [.int kinds, .ref ac, .int rowc, .ref a0, .ref a_s, .ref a_w]))]) [0] rfl
    have hKc := hK.sub (tys' := []) [] rfl
    refine vp_callSi (W.runV (As := [.int kind]) (rest := []) ⟨hx, hb, hml, hown, hT⟩ (c_kr_hasKind l dC dI ak kinds ac rowc a0 a_s a_w kind) (cwV 1 hT (kt_V k_220 k_218 k_219 k_11 k_217) rfl rfl rfl (by decide +kernel) ⟨Nat.le_of_ble_eq_true rfl, Nat.le_of_ble_eq_true rfl⟩) ⟨bl_R, va_recv hKc hPc (ci := 0) (q0 := 0) rfl rfl, fun U hU hW => ⟨rfl, by rw [hU]; exact hPc, va_K.moved hW.alike hKc⟩⟩ rfl rfl hl.1 rfl (lv_room (Nat.le_of_ble_eq_true rfl)) d_kr_atT_12 ⟨Nat.zero_le _, Nat.zero_le _⟩) (fun r_3 e_r_3 => ?_)
    subst e_r_3
    refine lv_if_ne (tgt := 28) hx hb d_kr_atT_15 (by decide) (fun c_4 => ?_) (fun c_4 => ?_)
    · exact absurd ht.2 c_4
    · exact kz_throw (own := R_kr) (cls := "java/lang/IndexOutOfBoundsException") (names := ["java/lang/RuntimeException", "java/lang/Exception"]) hx hb hl9 hown (by decide +kernel) (by decide +kernel) (hT _ k_214) (hT _ k_215) (hT _ k_216) hstr (kz_own ow_kr_atT hT hN2 hZ) (hl.1.trans hml.symm) d_kr_atT_18 d_kr_atT_21 d_kr_atT_22 d_kr_atT_24 d_kr_atT_27 hno (Nat.le_of_ble_eq_true rfl) (Nat.le_of_ble_eq_true rfl) (Nat.le_of_ble_eq_true rfl) (Nat.le_of_ble_eq_true rfl) hlocks
  · refine lv_iconst (v := (-1)) hx hb d_kr_atT_8 (by decide) ?_
    exact absurd c_2 ht.1
