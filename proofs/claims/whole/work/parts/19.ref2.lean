abbrev b_mo_value : ByteArray := prog_6_method_7_code
def y_mo_value : MethodName := ⟨R_mo, "value", "(JJ)I"⟩
def w_mo_value : List Cond := .code y_mo_value b_mo_value 5 (some .int) :: kt_T
theorem d_mo_value_0 : decode b_mo_value 0 = .ok (.aload_n 0, 1) := by decide +kernel
theorem d_mo_value_1 : decode b_mo_value 1 = .ok (.lload_n 3, 1) := by decide +kernel
theorem d_mo_value_2 : decode b_mo_value 2 = .ok (.lconst 0, 1) := by decide +kernel
theorem d_mo_value_3 : decode b_mo_value 3 = .ok (.lcmp, 1) := by decide +kernel
theorem d_mo_value_4 : decode b_mo_value 4 = .ok (.ifCond .ne 7, 3) := by decide +kernel
theorem d_mo_value_7 : decode b_mo_value 7 = .ok (.iconst 1, 1) := by decide +kernel
theorem d_mo_value_8 : decode b_mo_value 8 = .ok (.goto 4, 3) := by decide +kernel
theorem d_mo_value_11 : decode b_mo_value 11 = .ok (.iconst 0, 1) := by decide +kernel
theorem d_mo_value_12 : decode b_mo_value 12 = .ok (.putfield 43, 3) := by decide +kernel
theorem d_mo_value_15 : decode b_mo_value 15 = .ok (.aload_n 0, 1) := by decide +kernel
theorem d_mo_value_16 : decode b_mo_value 16 = .ok (.getfield 43, 3) := by decide +kernel
theorem d_mo_value_19 : decode b_mo_value 19 = .ok (.iconst 1, 1) := by decide +kernel
theorem d_mo_value_20 : decode b_mo_value 20 = .ok (.if_icmp .ne 7, 3) := by decide +kernel
theorem d_mo_value_23 : decode b_mo_value 23 = .ok (.iconst 0, 1) := by decide +kernel
theorem d_mo_value_24 : decode b_mo_value 24 = .ok (.goto 9, 3) := by decide +kernel
theorem d_mo_value_27 : decode b_mo_value 27 = .ok (.aload_n 0, 1) := by decide +kernel
theorem d_mo_value_28 : decode b_mo_value 28 = .ok (.lload_n 1, 1) := by decide +kernel
theorem d_mo_value_29 : decode b_mo_value 29 = .ok (.lload_n 3, 1) := by decide +kernel
theorem d_mo_value_30 : decode b_mo_value 30 = .ok (.invokevirtual 68, 3) := by decide +kernel
theorem d_mo_value_33 : decode b_mo_value 33 = .ok (.ireturn, 1) := by decide +kernel
abbrev b_mo_part : ByteArray := prog_6_method_8_code
def y_mo_part : MethodName := ⟨R_mo, "part", "(II)I"⟩
def w_mo_part : List Cond := .code y_mo_part b_mo_part 3 (some .int) :: kt_T
theorem d_mo_part_0 : decode b_mo_part 0 = .ok (.aload_n 0, 1) := by decide +kernel
theorem d_mo_part_1 : decode b_mo_part 1 = .ok (.aload_n 0, 1) := by decide +kernel
theorem d_mo_part_2 : decode b_mo_part 2 = .ok (.iload_n 1, 1) := by decide +kernel
theorem d_mo_part_3 : decode b_mo_part 3 = .ok (.invokevirtual 72, 3) := by decide +kernel
theorem d_mo_part_6 : decode b_mo_part 6 = .ok (.ifCond .eq 12, 3) := by decide +kernel
theorem d_mo_part_9 : decode b_mo_part 9 = .ok (.iload_n 2, 1) := by decide +kernel
theorem d_mo_part_10 : decode b_mo_part 10 = .ok (.ifCond .lt 8, 3) := by decide +kernel
theorem d_mo_part_13 : decode b_mo_part 13 = .ok (.iload_n 2, 1) := by decide +kernel
theorem d_mo_part_14 : decode b_mo_part 14 = .ok (.iconst 1, 1) := by decide +kernel
theorem d_mo_part_15 : decode b_mo_part 15 = .ok (.if_icmp .le 7, 3) := by decide +kernel
theorem d_mo_part_18 : decode b_mo_part 18 = .ok (.iconst 1, 1) := by decide +kernel
theorem d_mo_part_19 : decode b_mo_part 19 = .ok (.goto 4, 3) := by decide +kernel
theorem d_mo_part_22 : decode b_mo_part 22 = .ok (.iconst 0, 1) := by decide +kernel
theorem d_mo_part_23 : decode b_mo_part 23 = .ok (.putfield 43, 3) := by decide +kernel
theorem d_mo_part_26 : decode b_mo_part 26 = .ok (.aload_n 0, 1) := by decide +kernel
theorem d_mo_part_27 : decode b_mo_part 27 = .ok (.getfield 43, 3) := by decide +kernel
theorem d_mo_part_30 : decode b_mo_part 30 = .ok (.iconst 1, 1) := by decide +kernel
theorem d_mo_part_31 : decode b_mo_part 31 = .ok (.if_icmp .ne 7, 3) := by decide +kernel
theorem d_mo_part_34 : decode b_mo_part 34 = .ok (.iconst 0, 1) := by decide +kernel
theorem d_mo_part_35 : decode b_mo_part 35 = .ok (.goto 23, 3) := by decide +kernel
theorem d_mo_part_38 : decode b_mo_part 38 = .ok (.iload_n 2, 1) := by decide +kernel
theorem d_mo_part_39 : decode b_mo_part 39 = .ok (.ifCond .ne 12, 3) := by decide +kernel
theorem d_mo_part_42 : decode b_mo_part 42 = .ok (.aload_n 0, 1) := by decide +kernel
theorem d_mo_part_43 : decode b_mo_part 43 = .ok (.getfield 7, 3) := by decide +kernel
theorem d_mo_part_46 : decode b_mo_part 46 = .ok (.iload_n 1, 1) := by decide +kernel
theorem d_mo_part_47 : decode b_mo_part 47 = .ok (.laload, 1) := by decide +kernel
theorem d_mo_part_48 : decode b_mo_part 48 = .ok (.goto 9, 3) := by decide +kernel
theorem d_mo_part_51 : decode b_mo_part 51 = .ok (.aload_n 0, 1) := by decide +kernel
theorem d_mo_part_52 : decode b_mo_part 52 = .ok (.getfield 13, 3) := by decide +kernel
theorem d_mo_part_55 : decode b_mo_part 55 = .ok (.iload_n 1, 1) := by decide +kernel
theorem d_mo_part_56 : decode b_mo_part 56 = .ok (.laload, 1) := by decide +kernel
theorem d_mo_part_57 : decode b_mo_part 57 = .ok (.l2i, 1) := by decide +kernel
theorem d_mo_part_58 : decode b_mo_part 58 = .ok (.ireturn, 1) := by decide +kernel
abbrev b_mo_add : ByteArray := prog_6_method_9_code
def y_mo_add : MethodName := ⟨R_mo, "add", "(II)I"⟩
def w_mo_add : List Cond := .code y_mo_add b_mo_add 3 (some .int) :: kt_T
theorem d_mo_add_0 : decode b_mo_add 0 = .ok (.aload_n 0, 1) := by decide +kernel
theorem d_mo_add_1 : decode b_mo_add 1 = .ok (.iconst 0, 1) := by decide +kernel
theorem d_mo_add_2 : decode b_mo_add 2 = .ok (.putfield 43, 3) := by decide +kernel
theorem d_mo_add_5 : decode b_mo_add 5 = .ok (.aload_n 0, 1) := by decide +kernel
theorem d_mo_add_6 : decode b_mo_add 6 = .ok (.iload_n 1, 1) := by decide +kernel
theorem d_mo_add_7 : decode b_mo_add 7 = .ok (.invokevirtual 72, 3) := by decide +kernel
theorem d_mo_add_10 : decode b_mo_add 10 = .ok (.ifCond .eq 11, 3) := by decide +kernel
theorem d_mo_add_13 : decode b_mo_add 13 = .ok (.aload_n 0, 1) := by decide +kernel
theorem d_mo_add_14 : decode b_mo_add 14 = .ok (.iload_n 2, 1) := by decide +kernel
theorem d_mo_add_15 : decode b_mo_add 15 = .ok (.invokevirtual 72, 3) := by decide +kernel
theorem d_mo_add_18 : decode b_mo_add 18 = .ok (.ifCond .ne 7, 3) := by decide +kernel
theorem d_mo_add_21 : decode b_mo_add 21 = .ok (.iconst (-1), 1) := by decide +kernel
theorem d_mo_add_22 : decode b_mo_add 22 = .ok (.goto 47, 3) := by decide +kernel
theorem d_mo_add_25 : decode b_mo_add 25 = .ok (.aload_n 0, 1) := by decide +kernel
theorem d_mo_add_26 : decode b_mo_add 26 = .ok (.aload_n 0, 1) := by decide +kernel
theorem d_mo_add_27 : decode b_mo_add 27 = .ok (.getfield 7, 3) := by decide +kernel
theorem d_mo_add_30 : decode b_mo_add 30 = .ok (.iload_n 1, 1) := by decide +kernel
theorem d_mo_add_31 : decode b_mo_add 31 = .ok (.laload, 1) := by decide +kernel
theorem d_mo_add_32 : decode b_mo_add 32 = .ok (.aload_n 0, 1) := by decide +kernel
theorem d_mo_add_33 : decode b_mo_add 33 = .ok (.getfield 13, 3) := by decide +kernel
theorem d_mo_add_36 : decode b_mo_add 36 = .ok (.iload_n 2, 1) := by decide +kernel
theorem d_mo_add_37 : decode b_mo_add 37 = .ok (.laload, 1) := by decide +kernel
theorem d_mo_add_38 : decode b_mo_add 38 = .ok (.lmul, 1) := by decide +kernel
theorem d_mo_add_39 : decode b_mo_add 39 = .ok (.aload_n 0, 1) := by decide +kernel
theorem d_mo_add_40 : decode b_mo_add 40 = .ok (.getfield 7, 3) := by decide +kernel
theorem d_mo_add_43 : decode b_mo_add 43 = .ok (.iload_n 2, 1) := by decide +kernel
theorem d_mo_add_44 : decode b_mo_add 44 = .ok (.laload, 1) := by decide +kernel
theorem d_mo_add_45 : decode b_mo_add 45 = .ok (.aload_n 0, 1) := by decide +kernel
theorem d_mo_add_46 : decode b_mo_add 46 = .ok (.getfield 13, 3) := by decide +kernel
theorem d_mo_add_49 : decode b_mo_add 49 = .ok (.iload_n 1, 1) := by decide +kernel
theorem d_mo_add_50 : decode b_mo_add 50 = .ok (.laload, 1) := by decide +kernel
theorem d_mo_add_51 : decode b_mo_add 51 = .ok (.lmul, 1) := by decide +kernel
theorem d_mo_add_52 : decode b_mo_add 52 = .ok (.ladd, 1) := by decide +kernel
theorem d_mo_add_53 : decode b_mo_add 53 = .ok (.aload_n 0, 1) := by decide +kernel
theorem d_mo_add_54 : decode b_mo_add 54 = .ok (.getfield 13, 3) := by decide +kernel
theorem d_mo_add_57 : decode b_mo_add 57 = .ok (.iload_n 1, 1) := by decide +kernel
theorem d_mo_add_58 : decode b_mo_add 58 = .ok (.laload, 1) := by decide +kernel
theorem d_mo_add_59 : decode b_mo_add 59 = .ok (.aload_n 0, 1) := by decide +kernel
theorem d_mo_add_60 : decode b_mo_add 60 = .ok (.getfield 13, 3) := by decide +kernel
theorem d_mo_add_63 : decode b_mo_add 63 = .ok (.iload_n 2, 1) := by decide +kernel
theorem d_mo_add_64 : decode b_mo_add 64 = .ok (.laload, 1) := by decide +kernel
theorem d_mo_add_65 : decode b_mo_add 65 = .ok (.lmul, 1) := by decide +kernel
theorem d_mo_add_66 : decode b_mo_add 66 = .ok (.invokevirtual 68, 3) := by decide +kernel
theorem d_mo_add_69 : decode b_mo_add 69 = .ok (.ireturn, 1) := by decide +kernel
abbrev b_mo_less : ByteArray := prog_6_method_10_code
def y_mo_less : MethodName := ⟨R_mo, "less", "(II)I"⟩
def w_mo_less : List Cond := .code y_mo_less b_mo_less 3 (some .int) :: kt_T
theorem d_mo_less_0 : decode b_mo_less 0 = .ok (.aload_n 0, 1) := by decide +kernel
theorem d_mo_less_1 : decode b_mo_less 1 = .ok (.iconst 0, 1) := by decide +kernel
theorem d_mo_less_2 : decode b_mo_less 2 = .ok (.putfield 43, 3) := by decide +kernel
theorem d_mo_less_5 : decode b_mo_less 5 = .ok (.aload_n 0, 1) := by decide +kernel
theorem d_mo_less_6 : decode b_mo_less 6 = .ok (.iload_n 1, 1) := by decide +kernel
theorem d_mo_less_7 : decode b_mo_less 7 = .ok (.invokevirtual 72, 3) := by decide +kernel
theorem d_mo_less_10 : decode b_mo_less 10 = .ok (.ifCond .eq 11, 3) := by decide +kernel
theorem d_mo_less_13 : decode b_mo_less 13 = .ok (.aload_n 0, 1) := by decide +kernel
theorem d_mo_less_14 : decode b_mo_less 14 = .ok (.iload_n 2, 1) := by decide +kernel
theorem d_mo_less_15 : decode b_mo_less 15 = .ok (.invokevirtual 72, 3) := by decide +kernel
theorem d_mo_less_18 : decode b_mo_less 18 = .ok (.ifCond .ne 7, 3) := by decide +kernel
theorem d_mo_less_21 : decode b_mo_less 21 = .ok (.iconst (-1), 1) := by decide +kernel
theorem d_mo_less_22 : decode b_mo_less 22 = .ok (.goto 47, 3) := by decide +kernel
theorem d_mo_less_25 : decode b_mo_less 25 = .ok (.aload_n 0, 1) := by decide +kernel
theorem d_mo_less_26 : decode b_mo_less 26 = .ok (.aload_n 0, 1) := by decide +kernel
theorem d_mo_less_27 : decode b_mo_less 27 = .ok (.getfield 7, 3) := by decide +kernel
theorem d_mo_less_30 : decode b_mo_less 30 = .ok (.iload_n 1, 1) := by decide +kernel
theorem d_mo_less_31 : decode b_mo_less 31 = .ok (.laload, 1) := by decide +kernel
theorem d_mo_less_32 : decode b_mo_less 32 = .ok (.aload_n 0, 1) := by decide +kernel
theorem d_mo_less_33 : decode b_mo_less 33 = .ok (.getfield 13, 3) := by decide +kernel
theorem d_mo_less_36 : decode b_mo_less 36 = .ok (.iload_n 2, 1) := by decide +kernel
theorem d_mo_less_37 : decode b_mo_less 37 = .ok (.laload, 1) := by decide +kernel
theorem d_mo_less_38 : decode b_mo_less 38 = .ok (.lmul, 1) := by decide +kernel
theorem d_mo_less_39 : decode b_mo_less 39 = .ok (.aload_n 0, 1) := by decide +kernel
theorem d_mo_less_40 : decode b_mo_less 40 = .ok (.getfield 7, 3) := by decide +kernel
theorem d_mo_less_43 : decode b_mo_less 43 = .ok (.iload_n 2, 1) := by decide +kernel
theorem d_mo_less_44 : decode b_mo_less 44 = .ok (.laload, 1) := by decide +kernel
theorem d_mo_less_45 : decode b_mo_less 45 = .ok (.aload_n 0, 1) := by decide +kernel
theorem d_mo_less_46 : decode b_mo_less 46 = .ok (.getfield 13, 3) := by decide +kernel
theorem d_mo_less_49 : decode b_mo_less 49 = .ok (.iload_n 1, 1) := by decide +kernel
theorem d_mo_less_50 : decode b_mo_less 50 = .ok (.laload, 1) := by decide +kernel
theorem d_mo_less_51 : decode b_mo_less 51 = .ok (.lmul, 1) := by decide +kernel
theorem d_mo_less_52 : decode b_mo_less 52 = .ok (.lsub, 1) := by decide +kernel
theorem d_mo_less_53 : decode b_mo_less 53 = .ok (.aload_n 0, 1) := by decide +kernel
theorem d_mo_less_54 : decode b_mo_less 54 = .ok (.getfield 13, 3) := by decide +kernel
theorem d_mo_less_57 : decode b_mo_less 57 = .ok (.iload_n 1, 1) := by decide +kernel
theorem d_mo_less_58 : decode b_mo_less 58 = .ok (.laload, 1) := by decide +kernel
theorem d_mo_less_59 : decode b_mo_less 59 = .ok (.aload_n 0, 1) := by decide +kernel
theorem d_mo_less_60 : decode b_mo_less 60 = .ok (.getfield 13, 3) := by decide +kernel
theorem d_mo_less_63 : decode b_mo_less 63 = .ok (.iload_n 2, 1) := by decide +kernel
theorem d_mo_less_64 : decode b_mo_less 64 = .ok (.laload, 1) := by decide +kernel
theorem d_mo_less_65 : decode b_mo_less 65 = .ok (.lmul, 1) := by decide +kernel
theorem d_mo_less_66 : decode b_mo_less 66 = .ok (.invokevirtual 68, 3) := by decide +kernel
theorem d_mo_less_69 : decode b_mo_less 69 = .ok (.ireturn, 1) := by decide +kernel
abbrev b_mo_times : ByteArray := prog_6_method_11_code
def y_mo_times : MethodName := ⟨R_mo, "times", "(II)I"⟩
def w_mo_times : List Cond := .code y_mo_times b_mo_times 3 (some .int) :: kt_T
theorem d_mo_times_0 : decode b_mo_times 0 = .ok (.aload_n 0, 1) := by decide +kernel
theorem d_mo_times_1 : decode b_mo_times 1 = .ok (.iconst 0, 1) := by decide +kernel
theorem d_mo_times_2 : decode b_mo_times 2 = .ok (.putfield 43, 3) := by decide +kernel
theorem d_mo_times_5 : decode b_mo_times 5 = .ok (.aload_n 0, 1) := by decide +kernel
theorem d_mo_times_6 : decode b_mo_times 6 = .ok (.iload_n 1, 1) := by decide +kernel
theorem d_mo_times_7 : decode b_mo_times 7 = .ok (.invokevirtual 72, 3) := by decide +kernel
theorem d_mo_times_10 : decode b_mo_times 10 = .ok (.ifCond .eq 11, 3) := by decide +kernel
theorem d_mo_times_13 : decode b_mo_times 13 = .ok (.aload_n 0, 1) := by decide +kernel
theorem d_mo_times_14 : decode b_mo_times 14 = .ok (.iload_n 2, 1) := by decide +kernel
theorem d_mo_times_15 : decode b_mo_times 15 = .ok (.invokevirtual 72, 3) := by decide +kernel
theorem d_mo_times_18 : decode b_mo_times 18 = .ok (.ifCond .ne 7, 3) := by decide +kernel
theorem d_mo_times_21 : decode b_mo_times 21 = .ok (.iconst (-1), 1) := by decide +kernel
theorem d_mo_times_22 : decode b_mo_times 22 = .ok (.goto 33, 3) := by decide +kernel
theorem d_mo_times_25 : decode b_mo_times 25 = .ok (.aload_n 0, 1) := by decide +kernel
theorem d_mo_times_26 : decode b_mo_times 26 = .ok (.aload_n 0, 1) := by decide +kernel
theorem d_mo_times_27 : decode b_mo_times 27 = .ok (.getfield 7, 3) := by decide +kernel
theorem d_mo_times_30 : decode b_mo_times 30 = .ok (.iload_n 1, 1) := by decide +kernel
theorem d_mo_times_31 : decode b_mo_times 31 = .ok (.laload, 1) := by decide +kernel
theorem d_mo_times_32 : decode b_mo_times 32 = .ok (.aload_n 0, 1) := by decide +kernel
theorem d_mo_times_33 : decode b_mo_times 33 = .ok (.getfield 7, 3) := by decide +kernel
theorem d_mo_times_36 : decode b_mo_times 36 = .ok (.iload_n 2, 1) := by decide +kernel
theorem d_mo_times_37 : decode b_mo_times 37 = .ok (.laload, 1) := by decide +kernel
theorem d_mo_times_38 : decode b_mo_times 38 = .ok (.lmul, 1) := by decide +kernel
theorem d_mo_times_39 : decode b_mo_times 39 = .ok (.aload_n 0, 1) := by decide +kernel
theorem d_mo_times_40 : decode b_mo_times 40 = .ok (.getfield 13, 3) := by decide +kernel
theorem d_mo_times_43 : decode b_mo_times 43 = .ok (.iload_n 1, 1) := by decide +kernel
theorem d_mo_times_44 : decode b_mo_times 44 = .ok (.laload, 1) := by decide +kernel
theorem d_mo_times_45 : decode b_mo_times 45 = .ok (.aload_n 0, 1) := by decide +kernel
theorem d_mo_times_46 : decode b_mo_times 46 = .ok (.getfield 13, 3) := by decide +kernel
theorem d_mo_times_49 : decode b_mo_times 49 = .ok (.iload_n 2, 1) := by decide +kernel
theorem d_mo_times_50 : decode b_mo_times 50 = .ok (.laload, 1) := by decide +kernel
theorem d_mo_times_51 : decode b_mo_times 51 = .ok (.lmul, 1) := by decide +kernel
theorem d_mo_times_52 : decode b_mo_times 52 = .ok (.invokevirtual 68, 3) := by decide +kernel
theorem d_mo_times_55 : decode b_mo_times 55 = .ok (.ireturn, 1) := by decide +kernel
abbrev b_mo_over : ByteArray := prog_6_method_12_code
def y_mo_over : MethodName := ⟨R_mo, "over", "(II)I"⟩
def w_mo_over : List Cond := .code y_mo_over b_mo_over 3 (some .int) :: kt_T
theorem d_mo_over_0 : decode b_mo_over 0 = .ok (.aload_n 0, 1) := by decide +kernel
theorem d_mo_over_1 : decode b_mo_over 1 = .ok (.aload_n 0, 1) := by decide +kernel
theorem d_mo_over_2 : decode b_mo_over 2 = .ok (.iload_n 2, 1) := by decide +kernel
theorem d_mo_over_3 : decode b_mo_over 3 = .ok (.invokevirtual 72, 3) := by decide +kernel
theorem d_mo_over_6 : decode b_mo_over 6 = .ok (.ifCond .eq 18, 3) := by decide +kernel
theorem d_mo_over_9 : decode b_mo_over 9 = .ok (.aload_n 0, 1) := by decide +kernel
theorem d_mo_over_10 : decode b_mo_over 10 = .ok (.getfield 7, 3) := by decide +kernel
theorem d_mo_over_13 : decode b_mo_over 13 = .ok (.iload_n 2, 1) := by decide +kernel
theorem d_mo_over_14 : decode b_mo_over 14 = .ok (.laload, 1) := by decide +kernel
theorem d_mo_over_15 : decode b_mo_over 15 = .ok (.lconst 0, 1) := by decide +kernel
theorem d_mo_over_16 : decode b_mo_over 16 = .ok (.lcmp, 1) := by decide +kernel
theorem d_mo_over_17 : decode b_mo_over 17 = .ok (.ifCond .ne 7, 3) := by decide +kernel
theorem d_mo_over_20 : decode b_mo_over 20 = .ok (.iconst 1, 1) := by decide +kernel
theorem d_mo_over_21 : decode b_mo_over 21 = .ok (.goto 4, 3) := by decide +kernel
theorem d_mo_over_24 : decode b_mo_over 24 = .ok (.iconst 0, 1) := by decide +kernel
theorem d_mo_over_25 : decode b_mo_over 25 = .ok (.putfield 43, 3) := by decide +kernel
theorem d_mo_over_28 : decode b_mo_over 28 = .ok (.aload_n 0, 1) := by decide +kernel
theorem d_mo_over_29 : decode b_mo_over 29 = .ok (.getfield 43, 3) := by decide +kernel
theorem d_mo_over_32 : decode b_mo_over 32 = .ok (.iconst 1, 1) := by decide +kernel
theorem d_mo_over_33 : decode b_mo_over 33 = .ok (.if_icmp .ne 5, 3) := by decide +kernel
theorem d_mo_over_36 : decode b_mo_over 36 = .ok (.iconst 0, 1) := by decide +kernel
theorem d_mo_over_37 : decode b_mo_over 37 = .ok (.ireturn, 1) := by decide +kernel
theorem d_mo_over_38 : decode b_mo_over 38 = .ok (.aload_n 0, 1) := by decide +kernel
theorem d_mo_over_39 : decode b_mo_over 39 = .ok (.iload_n 1, 1) := by decide +kernel
theorem d_mo_over_40 : decode b_mo_over 40 = .ok (.invokevirtual 72, 3) := by decide +kernel
theorem d_mo_over_43 : decode b_mo_over 43 = .ok (.ifCond .eq 11, 3) := by decide +kernel
theorem d_mo_over_46 : decode b_mo_over 46 = .ok (.aload_n 0, 1) := by decide +kernel
theorem d_mo_over_47 : decode b_mo_over 47 = .ok (.iload_n 2, 1) := by decide +kernel
theorem d_mo_over_48 : decode b_mo_over 48 = .ok (.invokevirtual 72, 3) := by decide +kernel
theorem d_mo_over_51 : decode b_mo_over 51 = .ok (.ifCond .ne 7, 3) := by decide +kernel
theorem d_mo_over_54 : decode b_mo_over 54 = .ok (.iconst (-1), 1) := by decide +kernel
theorem d_mo_over_55 : decode b_mo_over 55 = .ok (.goto 33, 3) := by decide +kernel
theorem d_mo_over_58 : decode b_mo_over 58 = .ok (.aload_n 0, 1) := by decide +kernel
theorem d_mo_over_59 : decode b_mo_over 59 = .ok (.aload_n 0, 1) := by decide +kernel
theorem d_mo_over_60 : decode b_mo_over 60 = .ok (.getfield 7, 3) := by decide +kernel
theorem d_mo_over_63 : decode b_mo_over 63 = .ok (.iload_n 1, 1) := by decide +kernel
theorem d_mo_over_64 : decode b_mo_over 64 = .ok (.laload, 1) := by decide +kernel
theorem d_mo_over_65 : decode b_mo_over 65 = .ok (.aload_n 0, 1) := by decide +kernel
theorem d_mo_over_66 : decode b_mo_over 66 = .ok (.getfield 13, 3) := by decide +kernel
theorem d_mo_over_69 : decode b_mo_over 69 = .ok (.iload_n 2, 1) := by decide +kernel
theorem d_mo_over_70 : decode b_mo_over 70 = .ok (.laload, 1) := by decide +kernel
theorem d_mo_over_71 : decode b_mo_over 71 = .ok (.lmul, 1) := by decide +kernel
theorem d_mo_over_72 : decode b_mo_over 72 = .ok (.aload_n 0, 1) := by decide +kernel
theorem d_mo_over_73 : decode b_mo_over 73 = .ok (.getfield 13, 3) := by decide +kernel
theorem d_mo_over_76 : decode b_mo_over 76 = .ok (.iload_n 1, 1) := by decide +kernel
theorem d_mo_over_77 : decode b_mo_over 77 = .ok (.laload, 1) := by decide +kernel
theorem d_mo_over_78 : decode b_mo_over 78 = .ok (.aload_n 0, 1) := by decide +kernel
theorem d_mo_over_79 : decode b_mo_over 79 = .ok (.getfield 7, 3) := by decide +kernel
theorem d_mo_over_82 : decode b_mo_over 82 = .ok (.iload_n 2, 1) := by decide +kernel
theorem d_mo_over_83 : decode b_mo_over 83 = .ok (.laload, 1) := by decide +kernel
theorem d_mo_over_84 : decode b_mo_over 84 = .ok (.lmul, 1) := by decide +kernel
theorem d_mo_over_85 : decode b_mo_over 85 = .ok (.invokevirtual 68, 3) := by decide +kernel
theorem d_mo_over_88 : decode b_mo_over 88 = .ok (.ireturn, 1) := by decide +kernel
abbrev b_mo_order : ByteArray := prog_6_method_13_code
def y_mo_order : MethodName := ⟨R_mo, "order", "(II)I"⟩
def w_mo_order : List Cond := .code y_mo_order b_mo_order 7 (some .int) :: kt_T
theorem d_mo_order_0 : decode b_mo_order 0 = .ok (.aload_n 0, 1) := by decide +kernel
theorem d_mo_order_1 : decode b_mo_order 1 = .ok (.iconst 0, 1) := by decide +kernel
theorem d_mo_order_2 : decode b_mo_order 2 = .ok (.putfield 43, 3) := by decide +kernel
theorem d_mo_order_5 : decode b_mo_order 5 = .ok (.aload_n 0, 1) := by decide +kernel
theorem d_mo_order_6 : decode b_mo_order 6 = .ok (.iload_n 1, 1) := by decide +kernel
theorem d_mo_order_7 : decode b_mo_order 7 = .ok (.invokevirtual 72, 3) := by decide +kernel
theorem d_mo_order_10 : decode b_mo_order 10 = .ok (.ifCond .eq 11, 3) := by decide +kernel
theorem d_mo_order_13 : decode b_mo_order 13 = .ok (.aload_n 0, 1) := by decide +kernel
theorem d_mo_order_14 : decode b_mo_order 14 = .ok (.iload_n 2, 1) := by decide +kernel
theorem d_mo_order_15 : decode b_mo_order 15 = .ok (.invokevirtual 72, 3) := by decide +kernel
theorem d_mo_order_18 : decode b_mo_order 18 = .ok (.ifCond .ne 6, 3) := by decide +kernel
theorem d_mo_order_21 : decode b_mo_order 21 = .ok (.bipush (-2), 2) := by decide +kernel
theorem d_mo_order_23 : decode b_mo_order 23 = .ok (.ireturn, 1) := by decide +kernel
theorem d_mo_order_24 : decode b_mo_order 24 = .ok (.aload_n 0, 1) := by decide +kernel
theorem d_mo_order_25 : decode b_mo_order 25 = .ok (.getfield 7, 3) := by decide +kernel
theorem d_mo_order_28 : decode b_mo_order 28 = .ok (.iload_n 1, 1) := by decide +kernel
theorem d_mo_order_29 : decode b_mo_order 29 = .ok (.laload, 1) := by decide +kernel
theorem d_mo_order_30 : decode b_mo_order 30 = .ok (.aload_n 0, 1) := by decide +kernel
theorem d_mo_order_31 : decode b_mo_order 31 = .ok (.getfield 13, 3) := by decide +kernel
theorem d_mo_order_34 : decode b_mo_order 34 = .ok (.iload_n 2, 1) := by decide +kernel
theorem d_mo_order_35 : decode b_mo_order 35 = .ok (.laload, 1) := by decide +kernel
theorem d_mo_order_36 : decode b_mo_order 36 = .ok (.lmul, 1) := by decide +kernel
theorem d_mo_order_37 : decode b_mo_order 37 = .ok (.lstore_n 3, 1) := by decide +kernel
theorem d_mo_order_38 : decode b_mo_order 38 = .ok (.aload_n 0, 1) := by decide +kernel
theorem d_mo_order_39 : decode b_mo_order 39 = .ok (.getfield 7, 3) := by decide +kernel
theorem d_mo_order_42 : decode b_mo_order 42 = .ok (.iload_n 2, 1) := by decide +kernel
theorem d_mo_order_43 : decode b_mo_order 43 = .ok (.laload, 1) := by decide +kernel
theorem d_mo_order_44 : decode b_mo_order 44 = .ok (.aload_n 0, 1) := by decide +kernel
theorem d_mo_order_45 : decode b_mo_order 45 = .ok (.getfield 13, 3) := by decide +kernel
theorem d_mo_order_48 : decode b_mo_order 48 = .ok (.iload_n 1, 1) := by decide +kernel
theorem d_mo_order_49 : decode b_mo_order 49 = .ok (.laload, 1) := by decide +kernel
theorem d_mo_order_50 : decode b_mo_order 50 = .ok (.lmul, 1) := by decide +kernel
theorem d_mo_order_51 : decode b_mo_order 51 = .ok (.lstore 5, 2) := by decide +kernel
theorem d_mo_order_53 : decode b_mo_order 53 = .ok (.lload_n 3, 1) := by decide +kernel
theorem d_mo_order_54 : decode b_mo_order 54 = .ok (.lload 5, 2) := by decide +kernel
theorem d_mo_order_56 : decode b_mo_order 56 = .ok (.lcmp, 1) := by decide +kernel
theorem d_mo_order_57 : decode b_mo_order 57 = .ok (.ifCond .ge 7, 3) := by decide +kernel
theorem d_mo_order_60 : decode b_mo_order 60 = .ok (.iconst (-1), 1) := by decide +kernel
theorem d_mo_order_61 : decode b_mo_order 61 = .ok (.goto 15, 3) := by decide +kernel
theorem d_mo_order_64 : decode b_mo_order 64 = .ok (.lload_n 3, 1) := by decide +kernel
theorem d_mo_order_65 : decode b_mo_order 65 = .ok (.lload 5, 2) := by decide +kernel
theorem d_mo_order_67 : decode b_mo_order 67 = .ok (.lcmp, 1) := by decide +kernel
theorem d_mo_order_68 : decode b_mo_order 68 = .ok (.ifCond .le 7, 3) := by decide +kernel
theorem d_mo_order_71 : decode b_mo_order 71 = .ok (.iconst 1, 1) := by decide +kernel
theorem d_mo_order_72 : decode b_mo_order 72 = .ok (.goto 4, 3) := by decide +kernel
theorem d_mo_order_75 : decode b_mo_order 75 = .ok (.iconst 0, 1) := by decide +kernel
theorem d_mo_order_76 : decode b_mo_order 76 = .ok (.ireturn, 1) := by decide +kernel
abbrev b_mo_row : ByteArray := prog_6_method_16_code
def y_mo_row : MethodName := ⟨R_mo, "row", "()I"⟩
def w_mo_row : List Cond := .code y_mo_row b_mo_row 1 (some .int) :: kt_T
theorem d_mo_row_0 : decode b_mo_row 0 = .ok (.aload_n 0, 1) := by decide +kernel
theorem d_mo_row_1 : decode b_mo_row 1 = .ok (.iconst 0, 1) := by decide +kernel
theorem d_mo_row_2 : decode b_mo_row 2 = .ok (.putfield 43, 3) := by decide +kernel
theorem d_mo_row_5 : decode b_mo_row 5 = .ok (.aload_n 0, 1) := by decide +kernel
theorem d_mo_row_6 : decode b_mo_row 6 = .ok (.getfield 82, 3) := by decide +kernel
theorem d_mo_row_9 : decode b_mo_row 9 = .ok (.bipush 20, 2) := by decide +kernel
theorem d_mo_row_11 : decode b_mo_row 11 = .ok (.if_icmp .ne 5, 3) := by decide +kernel
theorem d_mo_row_14 : decode b_mo_row 14 = .ok (.iconst (-1), 1) := by decide +kernel
theorem d_mo_row_15 : decode b_mo_row 15 = .ok (.ireturn, 1) := by decide +kernel
theorem d_mo_row_16 : decode b_mo_row 16 = .ok (.aload_n 0, 1) := by decide +kernel
theorem d_mo_row_17 : decode b_mo_row 17 = .ok (.dup, 1) := by decide +kernel
theorem d_mo_row_18 : decode b_mo_row 18 = .ok (.getfield 82, 3) := by decide +kernel
theorem d_mo_row_21 : decode b_mo_row 21 = .ok (.iconst 1, 1) := by decide +kernel
theorem d_mo_row_22 : decode b_mo_row 22 = .ok (.iadd, 1) := by decide +kernel
theorem d_mo_row_23 : decode b_mo_row 23 = .ok (.putfield 82, 3) := by decide +kernel
theorem d_mo_row_26 : decode b_mo_row 26 = .ok (.aload_n 0, 1) := by decide +kernel
theorem d_mo_row_27 : decode b_mo_row 27 = .ok (.getfield 82, 3) := by decide +kernel
theorem d_mo_row_30 : decode b_mo_row 30 = .ok (.iconst 1, 1) := by decide +kernel
theorem d_mo_row_31 : decode b_mo_row 31 = .ok (.isub, 1) := by decide +kernel
theorem d_mo_row_32 : decode b_mo_row 32 = .ok (.ireturn, 1) := by decide +kernel
abbrev b_mo_put : ByteArray := prog_6_method_19_code
def y_mo_put : MethodName := ⟨R_mo, "put", "(III)Z"⟩
def w_mo_put : List Cond := .code y_mo_put b_mo_put 4 (some .boolean) :: kt_T
theorem d_mo_put_0 : decode b_mo_put 0 = .ok (.aload_n 0, 1) := by decide +kernel
theorem d_mo_put_1 : decode b_mo_put 1 = .ok (.aload_n 0, 1) := by decide +kernel
theorem d_mo_put_2 : decode b_mo_put 2 = .ok (.iload_n 1, 1) := by decide +kernel
theorem d_mo_put_3 : decode b_mo_put 3 = .ok (.invokevirtual 85, 3) := by decide +kernel
theorem d_mo_put_6 : decode b_mo_put 6 = .ok (.ifCond .eq 15, 3) := by decide +kernel
theorem d_mo_put_9 : decode b_mo_put 9 = .ok (.aload_n 0, 1) := by decide +kernel
theorem d_mo_put_10 : decode b_mo_put 10 = .ok (.iload_n 2, 1) := by decide +kernel
theorem d_mo_put_11 : decode b_mo_put 11 = .ok (.invokevirtual 88, 3) := by decide +kernel
theorem d_mo_put_14 : decode b_mo_put 14 = .ok (.ifCond .ne 7, 3) := by decide +kernel
theorem d_mo_put_17 : decode b_mo_put 17 = .ok (.iconst 1, 1) := by decide +kernel
theorem d_mo_put_18 : decode b_mo_put 18 = .ok (.goto 4, 3) := by decide +kernel
theorem d_mo_put_21 : decode b_mo_put 21 = .ok (.iconst 0, 1) := by decide +kernel
theorem d_mo_put_22 : decode b_mo_put 22 = .ok (.putfield 43, 3) := by decide +kernel
theorem d_mo_put_25 : decode b_mo_put 25 = .ok (.aload_n 0, 1) := by decide +kernel
theorem d_mo_put_26 : decode b_mo_put 26 = .ok (.getfield 43, 3) := by decide +kernel
theorem d_mo_put_29 : decode b_mo_put 29 = .ok (.iconst 1, 1) := by decide +kernel
theorem d_mo_put_30 : decode b_mo_put 30 = .ok (.if_icmp .eq 24, 3) := by decide +kernel
theorem d_mo_put_33 : decode b_mo_put 33 = .ok (.aload_n 0, 1) := by decide +kernel
theorem d_mo_put_34 : decode b_mo_put 34 = .ok (.iload_n 1, 1) := by decide +kernel
theorem d_mo_put_35 : decode b_mo_put 35 = .ok (.invokevirtual 85, 3) := by decide +kernel
theorem d_mo_put_38 : decode b_mo_put 38 = .ok (.ifCond .eq 16, 3) := by decide +kernel
theorem d_mo_put_41 : decode b_mo_put 41 = .ok (.iload_n 3, 1) := by decide +kernel
theorem d_mo_put_42 : decode b_mo_put 42 = .ok (.iconst (-1), 1) := by decide +kernel
theorem d_mo_put_43 : decode b_mo_put 43 = .ok (.if_icmp .eq 13, 3) := by decide +kernel
theorem d_mo_put_46 : decode b_mo_put 46 = .ok (.aload_n 0, 1) := by decide +kernel
theorem d_mo_put_47 : decode b_mo_put 47 = .ok (.iload_n 3, 1) := by decide +kernel
theorem d_mo_put_48 : decode b_mo_put 48 = .ok (.invokevirtual 72, 3) := by decide +kernel
theorem d_mo_put_51 : decode b_mo_put 51 = .ok (.ifCond .ne 5, 3) := by decide +kernel
theorem d_mo_put_54 : decode b_mo_put 54 = .ok (.iconst 0, 1) := by decide +kernel
theorem d_mo_put_55 : decode b_mo_put 55 = .ok (.ireturn, 1) := by decide +kernel
theorem d_mo_put_56 : decode b_mo_put 56 = .ok (.aload_n 0, 1) := by decide +kernel
theorem d_mo_put_57 : decode b_mo_put 57 = .ok (.getfield 16, 3) := by decide +kernel
theorem d_mo_put_60 : decode b_mo_put 60 = .ok (.bipush 16, 2) := by decide +kernel
theorem d_mo_put_62 : decode b_mo_put 62 = .ok (.iload_n 1, 1) := by decide +kernel
theorem d_mo_put_63 : decode b_mo_put 63 = .ok (.imul, 1) := by decide +kernel
theorem d_mo_put_64 : decode b_mo_put 64 = .ok (.iload_n 2, 1) := by decide +kernel
theorem d_mo_put_65 : decode b_mo_put 65 = .ok (.iadd, 1) := by decide +kernel
theorem d_mo_put_66 : decode b_mo_put 66 = .ok (.iload_n 3, 1) := by decide +kernel
theorem d_mo_put_67 : decode b_mo_put 67 = .ok (.iastore, 1) := by decide +kernel
theorem d_mo_put_68 : decode b_mo_put 68 = .ok (.iconst 1, 1) := by decide +kernel
theorem d_mo_put_69 : decode b_mo_put 69 = .ok (.ireturn, 1) := by decide +kernel
abbrev b_mo_at : ByteArray := prog_6_method_20_code
def y_mo_at : MethodName := ⟨R_mo, "at", "(II)I"⟩
def w_mo_at : List Cond := .code y_mo_at b_mo_at 3 (some .int) :: kt_T
theorem d_mo_at_0 : decode b_mo_at 0 = .ok (.aload_n 0, 1) := by decide +kernel
theorem d_mo_at_1 : decode b_mo_at 1 = .ok (.aload_n 0, 1) := by decide +kernel
theorem d_mo_at_2 : decode b_mo_at 2 = .ok (.iload_n 1, 1) := by decide +kernel
theorem d_mo_at_3 : decode b_mo_at 3 = .ok (.invokevirtual 85, 3) := by decide +kernel
theorem d_mo_at_6 : decode b_mo_at 6 = .ok (.ifCond .eq 15, 3) := by decide +kernel
theorem d_mo_at_9 : decode b_mo_at 9 = .ok (.aload_n 0, 1) := by decide +kernel
theorem d_mo_at_10 : decode b_mo_at 10 = .ok (.iload_n 2, 1) := by decide +kernel
theorem d_mo_at_11 : decode b_mo_at 11 = .ok (.invokevirtual 88, 3) := by decide +kernel
theorem d_mo_at_14 : decode b_mo_at 14 = .ok (.ifCond .ne 7, 3) := by decide +kernel
theorem d_mo_at_17 : decode b_mo_at 17 = .ok (.iconst 1, 1) := by decide +kernel
theorem d_mo_at_18 : decode b_mo_at 18 = .ok (.goto 4, 3) := by decide +kernel
theorem d_mo_at_21 : decode b_mo_at 21 = .ok (.iconst 0, 1) := by decide +kernel
theorem d_mo_at_22 : decode b_mo_at 22 = .ok (.putfield 43, 3) := by decide +kernel
theorem d_mo_at_25 : decode b_mo_at 25 = .ok (.aload_n 0, 1) := by decide +kernel
theorem d_mo_at_26 : decode b_mo_at 26 = .ok (.getfield 43, 3) := by decide +kernel
theorem d_mo_at_29 : decode b_mo_at 29 = .ok (.iconst 1, 1) := by decide +kernel
theorem d_mo_at_30 : decode b_mo_at 30 = .ok (.if_icmp .ne 7, 3) := by decide +kernel
theorem d_mo_at_33 : decode b_mo_at 33 = .ok (.iconst 0, 1) := by decide +kernel
theorem d_mo_at_34 : decode b_mo_at 34 = .ok (.goto 26, 3) := by decide +kernel
theorem d_mo_at_37 : decode b_mo_at 37 = .ok (.aload_n 0, 1) := by decide +kernel
theorem d_mo_at_38 : decode b_mo_at 38 = .ok (.iload_n 1, 1) := by decide +kernel
theorem d_mo_at_39 : decode b_mo_at 39 = .ok (.invokevirtual 85, 3) := by decide +kernel
theorem d_mo_at_42 : decode b_mo_at 42 = .ok (.ifCond .eq 17, 3) := by decide +kernel
theorem d_mo_at_45 : decode b_mo_at 45 = .ok (.aload_n 0, 1) := by decide +kernel
theorem d_mo_at_46 : decode b_mo_at 46 = .ok (.getfield 16, 3) := by decide +kernel
theorem d_mo_at_49 : decode b_mo_at 49 = .ok (.bipush 16, 2) := by decide +kernel
theorem d_mo_at_51 : decode b_mo_at 51 = .ok (.iload_n 1, 1) := by decide +kernel
theorem d_mo_at_52 : decode b_mo_at 52 = .ok (.imul, 1) := by decide +kernel
theorem d_mo_at_53 : decode b_mo_at 53 = .ok (.iload_n 2, 1) := by decide +kernel
theorem d_mo_at_54 : decode b_mo_at 54 = .ok (.iadd, 1) := by decide +kernel
theorem d_mo_at_55 : decode b_mo_at 55 = .ok (.iaload, 1) := by decide +kernel
theorem d_mo_at_56 : decode b_mo_at 56 = .ok (.goto 4, 3) := by decide +kernel
theorem d_mo_at_59 : decode b_mo_at 59 = .ok (.iconst (-1), 1) := by decide +kernel
theorem d_mo_at_60 : decode b_mo_at 60 = .ok (.ireturn, 1) := by decide +kernel
abbrev b_mo_entry : ByteArray := prog_6_method_22_code
def y_mo_entry : MethodName := ⟨R_mo, "entry", "(III)Z"⟩
def w_mo_entry : List Cond := .code y_mo_entry b_mo_entry 4 (some .boolean) :: kt_T
theorem d_mo_entry_0 : decode b_mo_entry 0 = .ok (.aload_n 0, 1) := by decide +kernel
theorem d_mo_entry_1 : decode b_mo_entry 1 = .ok (.iconst 0, 1) := by decide +kernel
theorem d_mo_entry_2 : decode b_mo_entry 2 = .ok (.putfield 43, 3) := by decide +kernel
theorem d_mo_entry_5 : decode b_mo_entry 5 = .ok (.iload_n 1, 1) := by decide +kernel
theorem d_mo_entry_6 : decode b_mo_entry 6 = .ok (.ifCond .lt 29, 3) := by decide +kernel
theorem d_mo_entry_9 : decode b_mo_entry 9 = .ok (.iload_n 1, 1) := by decide +kernel
theorem d_mo_entry_10 : decode b_mo_entry 10 = .ok (.iconst 3, 1) := by decide +kernel
theorem d_mo_entry_11 : decode b_mo_entry 11 = .ok (.if_icmp .gt 24, 3) := by decide +kernel
theorem d_mo_entry_14 : decode b_mo_entry 14 = .ok (.iload_n 2, 1) := by decide +kernel
theorem d_mo_entry_15 : decode b_mo_entry 15 = .ok (.ifCond .lt 20, 3) := by decide +kernel
theorem d_mo_entry_18 : decode b_mo_entry 18 = .ok (.iload_n 2, 1) := by decide +kernel
theorem d_mo_entry_19 : decode b_mo_entry 19 = .ok (.iconst 4, 1) := by decide +kernel
theorem d_mo_entry_20 : decode b_mo_entry 20 = .ok (.if_icmp .gt 15, 3) := by decide +kernel
theorem d_mo_entry_23 : decode b_mo_entry 23 = .ok (.iload_n 3, 1) := by decide +kernel
theorem d_mo_entry_24 : decode b_mo_entry 24 = .ok (.bipush (-100), 2) := by decide +kernel
theorem d_mo_entry_26 : decode b_mo_entry 26 = .ok (.if_icmp .lt 9, 3) := by decide +kernel
theorem d_mo_entry_29 : decode b_mo_entry 29 = .ok (.iload_n 3, 1) := by decide +kernel
theorem d_mo_entry_30 : decode b_mo_entry 30 = .ok (.bipush 100, 2) := by decide +kernel
theorem d_mo_entry_32 : decode b_mo_entry 32 = .ok (.if_icmp .le 5, 3) := by decide +kernel
theorem d_mo_entry_35 : decode b_mo_entry 35 = .ok (.iconst 0, 1) := by decide +kernel
theorem d_mo_entry_36 : decode b_mo_entry 36 = .ok (.ireturn, 1) := by decide +kernel
theorem d_mo_entry_37 : decode b_mo_entry 37 = .ok (.aload_n 0, 1) := by decide +kernel
theorem d_mo_entry_38 : decode b_mo_entry 38 = .ok (.getfield 20, 3) := by decide +kernel
theorem d_mo_entry_41 : decode b_mo_entry 41 = .ok (.iconst 5, 1) := by decide +kernel
theorem d_mo_entry_42 : decode b_mo_entry 42 = .ok (.iload_n 1, 1) := by decide +kernel
theorem d_mo_entry_43 : decode b_mo_entry 43 = .ok (.imul, 1) := by decide +kernel
theorem d_mo_entry_44 : decode b_mo_entry 44 = .ok (.iload_n 2, 1) := by decide +kernel
theorem d_mo_entry_45 : decode b_mo_entry 45 = .ok (.iadd, 1) := by decide +kernel
theorem d_mo_entry_46 : decode b_mo_entry 46 = .ok (.iload_n 3, 1) := by decide +kernel
theorem d_mo_entry_47 : decode b_mo_entry 47 = .ok (.iastore, 1) := by decide +kernel
theorem d_mo_entry_48 : decode b_mo_entry 48 = .ok (.iconst 1, 1) := by decide +kernel
theorem d_mo_entry_49 : decode b_mo_entry 49 = .ok (.ireturn, 1) := by decide +kernel
abbrev b_mo_answer : ByteArray := prog_6_method_27_code
def y_mo_answer : MethodName := ⟨R_mo, "answer", "(II)J"⟩
def w_mo_answer : List Cond := .code y_mo_answer b_mo_answer 3 (some .long) :: kt_T
theorem d_mo_answer_0 : decode b_mo_answer 0 = .ok (.aload_n 0, 1) := by decide +kernel
theorem d_mo_answer_1 : decode b_mo_answer 1 = .ok (.iconst 0, 1) := by decide +kernel
theorem d_mo_answer_2 : decode b_mo_answer 2 = .ok (.putfield 43, 3) := by decide +kernel
theorem d_mo_answer_5 : decode b_mo_answer 5 = .ok (.iload_n 1, 1) := by decide +kernel
theorem d_mo_answer_6 : decode b_mo_answer 6 = .ok (.ifCond .lt 20, 3) := by decide +kernel
theorem d_mo_answer_9 : decode b_mo_answer 9 = .ok (.iload_n 1, 1) := by decide +kernel
theorem d_mo_answer_10 : decode b_mo_answer 10 = .ok (.aload_n 0, 1) := by decide +kernel
theorem d_mo_answer_11 : decode b_mo_answer 11 = .ok (.getfield 103, 3) := by decide +kernel
theorem d_mo_answer_14 : decode b_mo_answer 14 = .ok (.if_icmp .ge 12, 3) := by decide +kernel
theorem d_mo_answer_17 : decode b_mo_answer 17 = .ok (.iload_n 2, 1) := by decide +kernel
theorem d_mo_answer_18 : decode b_mo_answer 18 = .ok (.ifCond .lt 8, 3) := by decide +kernel
theorem d_mo_answer_21 : decode b_mo_answer 21 = .ok (.iload_n 2, 1) := by decide +kernel
theorem d_mo_answer_22 : decode b_mo_answer 22 = .ok (.iconst 1, 1) := by decide +kernel
theorem d_mo_answer_23 : decode b_mo_answer 23 = .ok (.if_icmp .le 9, 3) := by decide +kernel
theorem d_mo_answer_26 : decode b_mo_answer 26 = .ok (.ldc2_w 76, 3) := by decide +kernel
theorem d_mo_answer_29 : decode b_mo_answer 29 = .ok (.goto 22, 3) := by decide +kernel
theorem d_mo_answer_32 : decode b_mo_answer 32 = .ok (.iload_n 2, 1) := by decide +kernel
theorem d_mo_answer_33 : decode b_mo_answer 33 = .ok (.ifCond .ne 12, 3) := by decide +kernel
theorem d_mo_answer_36 : decode b_mo_answer 36 = .ok (.aload_n 0, 1) := by decide +kernel
theorem d_mo_answer_37 : decode b_mo_answer 37 = .ok (.getfield 23, 3) := by decide +kernel
theorem d_mo_answer_40 : decode b_mo_answer 40 = .ok (.iload_n 1, 1) := by decide +kernel
theorem d_mo_answer_41 : decode b_mo_answer 41 = .ok (.laload, 1) := by decide +kernel
theorem d_mo_answer_42 : decode b_mo_answer 42 = .ok (.goto 9, 3) := by decide +kernel
theorem d_mo_answer_45 : decode b_mo_answer 45 = .ok (.aload_n 0, 1) := by decide +kernel
theorem d_mo_answer_46 : decode b_mo_answer 46 = .ok (.getfield 26, 3) := by decide +kernel
theorem d_mo_answer_49 : decode b_mo_answer 49 = .ok (.iload_n 1, 1) := by decide +kernel
theorem d_mo_answer_50 : decode b_mo_answer 50 = .ok (.laload, 1) := by decide +kernel
theorem d_mo_answer_51 : decode b_mo_answer 51 = .ok (.lreturn, 1) := by decide +kernel
abbrev b_mo_weight : ByteArray := prog_6_method_28_code
def y_mo_weight : MethodName := ⟨R_mo, "weight", "(I)I"⟩
def w_mo_weight : List Cond := .code y_mo_weight b_mo_weight 2 (some .int) :: kt_T
theorem d_mo_weight_0 : decode b_mo_weight 0 = .ok (.aload_n 0, 1) := by decide +kernel
theorem d_mo_weight_1 : decode b_mo_weight 1 = .ok (.iconst 0, 1) := by decide +kernel
theorem d_mo_weight_2 : decode b_mo_weight 2 = .ok (.putfield 43, 3) := by decide +kernel
theorem d_mo_weight_5 : decode b_mo_weight 5 = .ok (.iload_n 1, 1) := by decide +kernel
theorem d_mo_weight_6 : decode b_mo_weight 6 = .ok (.ifCond .lt 18, 3) := by decide +kernel
theorem d_mo_weight_9 : decode b_mo_weight 9 = .ok (.iload_n 1, 1) := by decide +kernel
theorem d_mo_weight_10 : decode b_mo_weight 10 = .ok (.ldc 106, 2) := by decide +kernel
theorem d_mo_weight_12 : decode b_mo_weight 12 = .ok (.if_icmp .gt 12, 3) := by decide +kernel
theorem d_mo_weight_15 : decode b_mo_weight 15 = .ok (.aload_n 0, 1) := by decide +kernel
theorem d_mo_weight_16 : decode b_mo_weight 16 = .ok (.getfield 107, 3) := by decide +kernel
theorem d_mo_weight_19 : decode b_mo_weight 19 = .ok (.bipush 12, 2) := by decide +kernel
theorem d_mo_weight_21 : decode b_mo_weight 21 = .ok (.if_icmp .ne 5, 3) := by decide +kernel
theorem d_mo_weight_24 : decode b_mo_weight 24 = .ok (.iconst (-1), 1) := by decide +kernel
theorem d_mo_weight_25 : decode b_mo_weight 25 = .ok (.ireturn, 1) := by decide +kernel
theorem d_mo_weight_26 : decode b_mo_weight 26 = .ok (.aload_n 0, 1) := by decide +kernel
theorem d_mo_weight_27 : decode b_mo_weight 27 = .ok (.getfield 29, 3) := by decide +kernel
theorem d_mo_weight_30 : decode b_mo_weight 30 = .ok (.aload_n 0, 1) := by decide +kernel
theorem d_mo_weight_31 : decode b_mo_weight 31 = .ok (.getfield 107, 3) := by decide +kernel
theorem d_mo_weight_34 : decode b_mo_weight 34 = .ok (.iload_n 1, 1) := by decide +kernel
theorem d_mo_weight_35 : decode b_mo_weight 35 = .ok (.i2l, 1) := by decide +kernel
theorem d_mo_weight_36 : decode b_mo_weight 36 = .ok (.lastore, 1) := by decide +kernel
theorem d_mo_weight_37 : decode b_mo_weight 37 = .ok (.aload_n 0, 1) := by decide +kernel
theorem d_mo_weight_38 : decode b_mo_weight 38 = .ok (.dup, 1) := by decide +kernel
theorem d_mo_weight_39 : decode b_mo_weight 39 = .ok (.getfield 107, 3) := by decide +kernel
theorem d_mo_weight_42 : decode b_mo_weight 42 = .ok (.iconst 1, 1) := by decide +kernel
theorem d_mo_weight_43 : decode b_mo_weight 43 = .ok (.iadd, 1) := by decide +kernel
theorem d_mo_weight_44 : decode b_mo_weight 44 = .ok (.putfield 107, 3) := by decide +kernel
theorem d_mo_weight_47 : decode b_mo_weight 47 = .ok (.aload_n 0, 1) := by decide +kernel
theorem d_mo_weight_48 : decode b_mo_weight 48 = .ok (.getfield 107, 3) := by decide +kernel
theorem d_mo_weight_51 : decode b_mo_weight 51 = .ok (.ireturn, 1) := by decide +kernel
theorem k_145 : (.code y_mo_keep b_mo_keep 5 (some .int) : Cond) ∈ kt_T := List.mem_filter.mpr ⟨List.mem_of_getElem? (i := 473) (by decide +kernel), by decide +kernel⟩
theorem k_146 : (.instanceMethod y_mo_keep : Cond) ∈ kt_T := List.mem_filter.mpr ⟨List.mem_of_getElem? (i := 472) (by decide +kernel), by decide +kernel⟩
theorem k_147 : (.selects R_mo y_mo_keep y_mo_keep : Cond) ∈ kt_T := List.mem_filter.mpr ⟨List.mem_of_getElem? (i := 7) (by decide +kernel), by decide +kernel⟩
theorem k_148 : (.methodLink R_mo 68 y_mo_keep : Cond) ∈ kt_T := List.mem_filter.mpr ⟨List.mem_of_getElem? (i := 470) (by decide +kernel), by decide +kernel⟩
theorem k_149 : (.code y_mo_isValue b_mo_isValue 2 (some .boolean) : Cond) ∈ kt_T := List.mem_filter.mpr ⟨List.mem_of_getElem? (i := 490) (by decide +kernel), by decide +kernel⟩
theorem k_150 : (.instanceMethod y_mo_isValue : Cond) ∈ kt_T := List.mem_filter.mpr ⟨List.mem_of_getElem? (i := 489) (by decide +kernel), by decide +kernel⟩
theorem k_151 : (.selects R_mo y_mo_isValue y_mo_isValue : Cond) ∈ kt_T := List.mem_filter.mpr ⟨List.mem_of_getElem? (i := 9) (by decide +kernel), by decide +kernel⟩
theorem k_152 : (.methodLink R_mo 72 y_mo_isValue : Cond) ∈ kt_T := List.mem_filter.mpr ⟨List.mem_of_getElem? (i := 487) (by decide +kernel), by decide +kernel⟩
theorem k_153 : (.code y_mo_isRow b_mo_isRow 2 (some .boolean) : Cond) ∈ kt_T := List.mem_filter.mpr ⟨List.mem_of_getElem? (i := 533) (by decide +kernel), by decide +kernel⟩
theorem k_154 : (.instanceMethod y_mo_isRow : Cond) ∈ kt_T := List.mem_filter.mpr ⟨List.mem_of_getElem? (i := 532) (by decide +kernel), by decide +kernel⟩
theorem k_155 : (.selects R_mo y_mo_isRow y_mo_isRow : Cond) ∈ kt_T := List.mem_filter.mpr ⟨List.mem_of_getElem? (i := 10) (by decide +kernel), by decide +kernel⟩
theorem k_156 : (.methodLink R_mo 85 y_mo_isRow : Cond) ∈ kt_T := List.mem_filter.mpr ⟨List.mem_of_getElem? (i := 530) (by decide +kernel), by decide +kernel⟩
theorem k_157 : (.fieldLink R_mo 16 "KilogramRowsModel" "cells" "[I" : Cond) ∈ kt_T := List.mem_filter.mpr ⟨List.mem_of_getElem? (i := 417) (by decide +kernel), by decide +kernel⟩
theorem k_158 : (.code y_mo_isKind b_mo_isKind 2 (some .boolean) : Cond) ∈ kt_T := List.mem_filter.mpr ⟨List.mem_of_getElem? (i := 537) (by decide +kernel), by decide +kernel⟩
theorem k_159 : (.instanceMethod y_mo_isKind : Cond) ∈ kt_T := List.mem_filter.mpr ⟨List.mem_of_getElem? (i := 536) (by decide +kernel), by decide +kernel⟩
theorem k_160 : (.selects R_mo y_mo_isKind y_mo_isKind : Cond) ∈ kt_T := List.mem_filter.mpr ⟨List.mem_of_getElem? (i := 11) (by decide +kernel), by decide +kernel⟩
theorem k_161 : (.methodLink R_mo 88 y_mo_isKind : Cond) ∈ kt_T := List.mem_filter.mpr ⟨List.mem_of_getElem? (i := 534) (by decide +kernel), by decide +kernel⟩
theorem k_162 : (.fieldLink R_mo 20 "KilogramRowsModel" "entries" "[I" : Cond) ∈ kt_T := List.mem_filter.mpr ⟨List.mem_of_getElem? (i := 418) (by decide +kernel), by decide +kernel⟩
theorem k_163 : (.constantLong R_mo 76 (-9223372036854775808) : Cond) ∈ kt_T := List.mem_filter.mpr ⟨List.mem_of_getElem? (i := 515) (by decide +kernel), by decide +kernel⟩
theorem k_164 : (.fieldLink R_mo 103 "KilogramRowsModel" "solved" "I" : Cond) ∈ kt_T := List.mem_filter.mpr ⟨List.mem_of_getElem? (i := 419) (by decide +kernel), by decide +kernel⟩
theorem k_165 : (.fieldLink R_mo 26 "KilogramRowsModel" "answerDowns" "[J" : Cond) ∈ kt_T := List.mem_filter.mpr ⟨List.mem_of_getElem? (i := 421) (by decide +kernel), by decide +kernel⟩
theorem k_166 : (.fieldLink R_mo 23 "KilogramRowsModel" "answerUps" "[J" : Cond) ∈ kt_T := List.mem_filter.mpr ⟨List.mem_of_getElem? (i := 420) (by decide +kernel), by decide +kernel⟩
theorem k_167 : (.constant R_mo 106 1000000 : Cond) ∈ kt_T := List.mem_filter.mpr ⟨List.mem_of_getElem? (i := 574) (by decide +kernel), by decide +kernel⟩
theorem k_168 : (.fieldLink R_mo 107 "KilogramRowsModel" "weights" "I" : Cond) ∈ kt_T := List.mem_filter.mpr ⟨List.mem_of_getElem? (i := 422) (by decide +kernel), by decide +kernel⟩
theorem k_169 : (.fieldLink R_mo 29 "KilogramRowsModel" "weigh" "[J" : Cond) ∈ kt_T := List.mem_filter.mpr ⟨List.mem_of_getElem? (i := 423) (by decide +kernel), by decide +kernel⟩
theorem in_iv {mv v : Int32} (hv : vp_in mv 301) (h : ¬ f_mo_isValue mv v = 0) : vp_in v 300 := by
  rw [vp_in_iff] at hv ⊢
  unfold f_mo_isValue at h
  split at h
  · exact absurd rfl h
  · rename_i h1
    split at h
    · exact absurd rfl h
    · rename_i h2
      rw [Int32.lt_iff_toInt_lt, Int32.toInt_zero] at h1
      rw [Int32.le_iff_toInt_le] at h2
      omega
def f_mo_value (mv : Int32) (up : Int64) (dn : Int64) (gu : Nat → Int64) (gd : Nat → Int64) (a : Int64) (b : Int64) : Int32 × Int32 × (Nat → Int64) × (Nat → Int64) × Int32 × Int64 × Int64 :=
  if b = 0 then (0, 1, gu, gd, mv, up, dn) else ((f_mo_keep mv gu gd a b).1, 0, (f_mo_keep mv gu gd a b).2.1, (f_mo_keep mv gu gd a b).2.2.1, (f_mo_keep mv gu gd a b).2.2.2.1, (f_mo_keep mv gu gd a b).2.2.2.2.1, (f_mo_keep mv gu gd a b).2.2.2.2.2)
set_option maxHeartbeats 4000000 in
set_option maxRecDepth 100000 in
theorem c_mo_value (l : Launch) (dC : Nat → ClassId) (dI : Nat → Nat → Nat) (sz : Nat) (m0 : Nat) (mu : Nat) (md : Nat) (th : Int32) (mk : Int32) (mv : Int32) (up : Int64) (dn : Int64) (mr : Int32) (mc : Nat) (me : Nat) (so : Int32) (mau : Nat) (mad : Nat) (mw : Int32) (mwg : Nat) (mgv : Nat) (msq : Nat) (cmu : ClassId) (gu : Nat → Int64) (cmd : ClassId) (gd : Nat → Int64) (a : Int64) (b : Int64) (hv : vp_in mv 301) : Met l y_mo_value w_mo_value ({ frames := 3, cells := 0, slots := 0, locals := 75 }) (va_Pc [.ref m0, .long a, .long b] (fun U => U.heap.size = sz ∧ va_P (dC, dI) classes [(m0, .inr (4, [.int th, .int mk, .int mv, .ref mu, .ref md, .long up, .long dn, .int mr, .ref mc, .ref me, .int so, .ref mau, .ref mad, .int mw, .ref mwg, .ref mgv, .ref msq])), (mu, .inl (cmu, 300, .inr (.inl gu))), (md, .inl (cmd, 300, .inr (.inl gd)))] U.heap ∧ va_K (dC, dI) classes [(cmu, .long), (cmd, .long)] U ∧ va_D (fun _ => True) [(m0, .inr (4, [.int th, .int mk, .int mv, .ref mu, .ref md, .long up, .long dn, .int mr, .ref mc, .ref me, .int so, .ref mau, .ref mad, .int mw, .ref mwg, .ref mgv, .ref msq])), (mu, .inl (cmu, 300, .inr (.inl gu))), (md, .inl (cmd, 300, .inr (.inl gd)))])) (va_Qi (fun z9 u9 => (z9, u9) = f_mo_value mv up dn gu gd a b) (fun (u : Int32 × (Nat → Int64) × (Nat → Int64) × Int32 × Int64 × Int64) t => match u with | (th', gu', gd', mv', up', dn') => va_P (dC, dI) classes [(m0, .inr (4, [.int th', .int mk, .int mv', .ref mu, .ref md, .long up', .long dn', .int mr, .ref mc, .ref me, .int so, .ref mau, .ref mad, .int mw, .ref mwg, .ref mgv, .ref msq])), (mu, .inl (cmu, 300, .inr (.inl gu'))), (md, .inl (cmd, 300, .inr (.inl gd')))] t.heap ∧ va_K (dC, dI) classes [(cmu, .long), (cmd, .long)] t ∧ va_D (va_A [(m0, .inr (4, [.int th, .int mk, .int mv, .ref mu, .ref md, .long up, .long dn, .int mr, .ref mc, .ref me, .int so, .ref mau, .ref mad, .int mw, .ref mwg, .ref mgv, .ref msq])), (mu, .inl (cmu, 300, .inr (.inl gu))), (md, .inl (cmd, 300, .inr (.inl gd)))] sz) [(m0, .inr (4, [.int th', .int mk, .int mv', .ref mu, .ref md, .long up', .long dn', .int mr, .ref mc, .ref me, .int so, .ref mau, .ref mad, .int mw, .ref mwg, .ref mgv, .ref msq])), (mu, .inl (cmu, 300, .inr (.inl gu'))), (md, .inl (cmd, 300, .inr (.inl gd')))]) (va_A [(m0, .inr (4, [.int th, .int mk, .int mv, .ref mu, .ref md, .long up, .long dn, .int mr, .ref mc, .ref me, .int so, .ref mau, .ref mad, .int mw, .ref mwg, .ref mgv, .ref msq])), (mu, .inl (cmu, 300, .inr (.inl gu))), (md, .inl (cmd, 300, .inr (.inl gd)))] sz)) 0 0 (va_A [(m0, .inr (4, [.int th, .int mk, .int mv, .ref mu, .ref md, .long up, .long dn, .int mr, .ref mc, .ref me, .int so, .ref mau, .ref mad, .int mw, .ref mwg, .ref mgv, .ref msq])), (mu, .inl (cmu, 300, .inr (.inl gu))), (md, .inl (cmd, 300, .inr (.inl gd)))] sz) := by
  refine Met.ofW (cc := b_mo_value) (maxL := 5) (ret := (some .int)) (by decide +kernel) rfl ?_
  intro p e s m args below meth c s₁ B hml hv
  obtain ⟨rfl, hsz, hP, hK, hD0⟩ := hv
  have hx := B.exec
  have hb := B.bytes
  have hr := B.returns
  have hts := atoms_spec (ws := w_mo_value) B.pre
  have hT := fun (w : Cond) (h : w ∈ kt_T) => hts w (List.mem_cons_of_mem _ h)
  have hown : s.vm.findClass R_mo = some m.cls := findClass_of_methodNamed B.named
  have hlocks := B.notSynchronized
  subst hsz
  have hD := hD0.self (sz := s.heap.size)
  generalize hAe : va_A [(m0, .inr (4, [.int th, .int mk, .int mv, .ref mu, .ref md, .long up, .long dn, .int mr, .ref mc, .ref me, .int so, .ref mau, .ref mad, .int mw, .ref mwg, .ref mgv, .ref msq])), (mu, .inl (cmu, 300, .inr (.inl gu))), (md, .inl (cmd, 300, .inr (.inl gd)))] s.heap.size = A at hD ⊢
  have hA : ∀ q : Nat, s.heap.size ≤ q → A q := fun q h => by rw [← hAe]; exact Or.inr h
  have hS : va_S A s.heap s.heap [] := va_S.rf
  have hl := lv_entry ([.ref m0, .long a, .long b]) (n := 5) (Nat.le_of_ble_eq_true rfl)
  rw [lg_entry_eq]
  generalize (lg_sl ([.ref m0, .long a, .long b]) ++ List.replicate (5 - (lg_sl ([.ref m0, .long a, .long b])).length) Slot.unset).toArray = ls at hl ⊢
  have hl : lv_has ls 5 [(0, .ref m0), (1, .long a), (3, .long b)] := hl
  refine lv_aload_n hx hb d_mo_value_0 rfl (lv_at hl 0 rfl) ?_
  refine lv_lload_n hx hb d_mo_value_1 rfl (lv_at hl 2 rfl) ?_
  refine lv_lconst (v := 0) hx hb d_mo_value_2 (by decide) ?_
  refine lx_ifne (tgt := 11) hx hb d_mo_value_3 d_mo_value_4 (by decide) (fun c_1 => ?_) (fun c_1 => ?_)
  · refine lv_iconst (v := 0) hx hb d_mo_value_11 (by decide) ?_
    refine va_put (D := (dC, dI)) (ci := 4) (v := .int 0) (ty := .int) (C := R_mo) (T := F_mo) (N := 17) hx hb hT i_mo t_mo t_mo_ok n_mo hown hK hP hD hS 0 rfl rfl 0 (by decide) (hT _ k_127) (fun _ h9 => h9) rfl (by decide +kernel) rfl rfl (Nat.le_of_ble_eq_true rfl) d_mo_value_12 (fun H locs hP hD hS => ?_)
    have hP : va_P (dC, dI) classes [(m0, .inr (4, [.int 0, .int mk, .int mv, .ref mu, .ref md, .long up, .long dn, .int mr, .ref mc, .ref me, .int so, .ref mau, .ref mad, .int mw, .ref mwg, .ref mgv, .ref msq])), (mu, .inl (cmu, 300, .inr (.inl gu))), (md, .inl (cmd, 300, .inr (.inl gd)))] H := hP
    have hD : va_D A [(m0, .inr (4, [.int 0, .int mk, .int mv, .ref mu, .ref md, .long up, .long dn, .int mr, .ref mc, .ref me, .int so, .ref mau, .ref mad, .int mw, .ref mwg, .ref mgv, .ref msq])), (mu, .inl (cmu, 300, .inr (.inl gu))), (md, .inl (cmd, 300, .inr (.inl gd)))] := hD
    refine lv_aload_n hx hb d_mo_value_15 rfl (lv_at hl 0 rfl) ?_
    refine va_get (D := (dC, dI)) (ci := 4) (v := .int 0) (C := R_mo) (T := F_mo) (N := 17) hx hb hT i_mo hown hK hP 0 rfl rfl 0 (by decide) (hT _ k_127) (fun _ h9 => h9) rfl d_mo_value_16 ?_
    refine lv_iconst (v := 1) hx hb d_mo_value_19 (by decide) ?_
    refine lv_icmp_ne (tgt := 27) hx hb d_mo_value_20 (by decide) (fun c_2 => ?_) (fun c_2 => ?_)
    · refine lv_aload_n hx hb d_mo_value_27 rfl (lv_at hl 0 rfl) ?_
      refine lv_lload_n hx hb d_mo_value_28 rfl (lv_at hl 1 rfl) ?_
      refine lv_lload_n hx hb d_mo_value_29 rfl (lv_at hl 2 rfl) ?_
      have hPc := hP.sub (ws' := [(m0, .inr (4, [.int 0, .int mk, .int mv, .ref mu, .ref md, .long up, .long dn, .int mr, .ref mc, .ref me, .int so, .ref mau, .ref mad, .int mw, .ref mwg, .ref mgv, .ref msq])), (mu, .inl (cmu, 300, .inr (.inl gu))), (md, .inl (cmd, 300, .inr (.inl gd)))]) [0, 1, 2] rfl
      have hKc := hK.sub (tys' := [(cmu, .long), (cmd, .long)]) [0, 1] rfl
      have hDc := hD.sub (ws' := [(m0, .inr (4, [.int 0, .int mk, .int mv, .ref mu, .ref md, .long up, .long dn, .int mr, .ref mc, .ref me, .int so, .ref mau, .ref mad, .int mw, .ref mwg, .ref mgv, .ref msq])), (mu, .inl (cmu, 300, .inr (.inl gu))), (md, .inl (cmd, 300, .inr (.inl gd)))]) [0, 1, 2] (by decide) rfl
      have hFc := va_free (wc := [(m0, .inr (4, [.int 0, .int mk, .int mv, .ref mu, .ref md, .long up, .long dn, .int mr, .ref mc, .ref me, .int so, .ref mau, .ref mad, .int mw, .ref mwg, .ref mgv, .ref msq])), (mu, .inl (cmu, 300, .inr (.inl gu))), (md, .inl (cmd, 300, .inr (.inl gd)))]) hD hS hA [0, 1, 2] rfl
      refine va_calli (va_runV (As := [.long a, .long b]) (rest := []) ⟨hx, hb, hml, hown, hT⟩ (c_mo_keep l dC dI H.size m0 mu md 0 mk mv up dn mr mc me so mau mad mw mwg mgv msq cmu gu cmd gd a b (euc_all _ _) c_1 hv) (cwV 2 hT (kt_V k_148 k_146 k_147 k_136 k_145) rfl rfl rfl (by decide +kernel) ⟨Nat.le_of_ble_eq_true rfl, Nat.le_of_ble_eq_true rfl⟩) ⟨bl_M, va_recv hKc hPc (ci := 4) (q0 := 0) rfl rfl, fun U hU hW => ⟨rfl, by rw [hU], by rw [hU]; exact hPc, va_K.moved hW.alike hKc, hDc.weaken (fun _ _ _ _ => trivial)⟩⟩ rfl rfl hl.1 rfl (lv_room (Nat.le_of_ble_eq_true rfl)) d_mo_value_30 ⟨Nat.zero_le _, Nat.zero_le _⟩) hS (fun q _ h => hFc q h) hFc (fun r_3 u t H1 locs ht hvm hw hB hz1 hk1 hS => ?_)
      obtain ⟨gu_3, gd_3, mv_3, up_3, dn_3⟩ := u
      obtain ⟨hP1, hK1, hD1⟩ := hB
      rw [ht] at hP1
      obtain ⟨hP, hD⟩ := va_join (wr := []) (w1 := [(m0, .inr (4, [.int 0, .int mk, .int mv_3, .ref mu, .ref md, .long up_3, .long dn_3, .int mr, .ref mc, .ref me, .int so, .ref mau, .ref mad, .int mw, .ref mwg, .ref mgv, .ref msq])), (mu, .inl (cmu, 300, .inr (.inl gu_3))), (md, .inl (cmd, 300, .inr (.inl gd_3)))]) hP hD [0, 1, 2] [] rfl rfl (by decide) (by decide) hk1 hFc hP1 hD1
      generalize H1 = H at hP hS ⊢
      have hP := hP.sub (ws' := [(m0, .inr (4, [.int 0, .int mk, .int mv_3, .ref mu, .ref md, .long up_3, .long dn_3, .int mr, .ref mc, .ref me, .int so, .ref mau, .ref mad, .int mw, .ref mwg, .ref mgv, .ref msq])), (mu, .inl (cmu, 300, .inr (.inl gu_3))), (md, .inl (cmd, 300, .inr (.inl gd_3)))]) [0, 1, 2] rfl
      have hD := hD.sub (ws' := [(m0, .inr (4, [.int 0, .int mk, .int mv_3, .ref mu, .ref md, .long up_3, .long dn_3, .int mr, .ref mc, .ref me, .int so, .ref mau, .ref mad, .int mw, .ref mwg, .ref mgv, .ref msq])), (mu, .inl (cmu, 300, .inr (.inl gu_3))), (md, .inl (cmd, 300, .inr (.inl gd_3)))]) [0, 1, 2] (by decide) rfl
      have e_r_3 : r_3 = (f_mo_keep mv gu gd a b).1 := congrArg (fun z => z.1) hw
      have e_gu_3 : gu_3 = (f_mo_keep mv gu gd a b).2.1 := congrArg (fun z => z.2.1) hw
      have e_gd_3 : gd_3 = (f_mo_keep mv gu gd a b).2.2.1 := congrArg (fun z => z.2.2.1) hw
      have e_mv_3 : mv_3 = (f_mo_keep mv gu gd a b).2.2.2.1 := congrArg (fun z => z.2.2.2.1) hw
      have e_up_3 : up_3 = (f_mo_keep mv gu gd a b).2.2.2.2.1 := congrArg (fun z => z.2.2.2.2.1) hw
      have e_dn_3 : dn_3 = (f_mo_keep mv gu gd a b).2.2.2.2.2 := congrArg (fun z => z.2.2.2.2.2) hw
      subst e_r_3 e_gu_3 e_gd_3 e_mv_3 e_up_3 e_dn_3
      clear hP1 hK1 hD1 hk1 hz1 hFc hDc hPc hKc
      exact W.iret (v := (f_mo_keep mv gu gd a b).1) hx hb hr (fun t ht hW => ⟨⟨(f_mo_keep mv gu gd a b).1, (0, (f_mo_keep mv gu gd a b).2.1, (f_mo_keep mv gu gd a b).2.2.1, (f_mo_keep mv gu gd a b).2.2.2.1, (f_mo_keep mv gu gd a b).2.2.2.2.1, (f_mo_keep mv gu gd a b).2.2.2.2.2), rfl, by unfold f_mo_value; rw [if_neg c_1], by rw [ht]; exact hP, va_K.moved hW.alike hK, hD⟩, hS.F ht⟩) hS.2.2 d_mo_value_33
    · exact absurd c_2 (by decide)
  · refine lv_iconst (v := 1) hx hb d_mo_value_7 (by decide) ?_
    refine lv_goto (tgt := 12) hx hb d_mo_value_8 (by decide) ?_
    refine va_put (D := (dC, dI)) (ci := 4) (v := .int 1) (ty := .int) (C := R_mo) (T := F_mo) (N := 17) hx hb hT i_mo t_mo t_mo_ok n_mo hown hK hP hD hS 0 rfl rfl 0 (by decide) (hT _ k_127) (fun _ h9 => h9) rfl (by decide +kernel) rfl rfl (Nat.le_of_ble_eq_true rfl) d_mo_value_12 (fun H locs hP hD hS => ?_)
    have hP : va_P (dC, dI) classes [(m0, .inr (4, [.int 1, .int mk, .int mv, .ref mu, .ref md, .long up, .long dn, .int mr, .ref mc, .ref me, .int so, .ref mau, .ref mad, .int mw, .ref mwg, .ref mgv, .ref msq])), (mu, .inl (cmu, 300, .inr (.inl gu))), (md, .inl (cmd, 300, .inr (.inl gd)))] H := hP
    have hD : va_D A [(m0, .inr (4, [.int 1, .int mk, .int mv, .ref mu, .ref md, .long up, .long dn, .int mr, .ref mc, .ref me, .int so, .ref mau, .ref mad, .int mw, .ref mwg, .ref mgv, .ref msq])), (mu, .inl (cmu, 300, .inr (.inl gu))), (md, .inl (cmd, 300, .inr (.inl gd)))] := hD
    refine lv_aload_n hx hb d_mo_value_15 rfl (lv_at hl 0 rfl) ?_
    refine va_get (D := (dC, dI)) (ci := 4) (v := .int 1) (C := R_mo) (T := F_mo) (N := 17) hx hb hT i_mo hown hK hP 0 rfl rfl 0 (by decide) (hT _ k_127) (fun _ h9 => h9) rfl d_mo_value_16 ?_
    refine lv_iconst (v := 1) hx hb d_mo_value_19 (by decide) ?_
    refine lv_icmp_ne (tgt := 27) hx hb d_mo_value_20 (by decide) (fun c_4 => ?_) (fun c_4 => ?_)
    · exact absurd c_4 (by decide)
    · refine lv_iconst (v := 0) hx hb d_mo_value_23 (by decide) ?_
      refine lv_goto (tgt := 33) hx hb d_mo_value_24 (by decide) ?_
      exact W.iret (v := 0) hx hb hr (fun t ht hW => ⟨⟨0, (1, gu, gd, mv, up, dn), rfl, by unfold f_mo_value; rw [if_pos c_1], by rw [ht]; exact hP, va_K.moved hW.alike hK, hD⟩, hS.F ht⟩) hS.2.2 d_mo_value_33
def f_mo_part (mv : Int32) (gu : Nat → Int64) (gd : Nat → Int64) (v : Int32) (q : Int32) : Int32 × Int32 :=
  if (f_mo_isValue mv v) = 0 then (0, 1) else if q < 0 then (0, 1) else if q ≤ 1 then if q = 0 then ((gu v.toNatClampNeg).toInt32, 0) else ((gd v.toNatClampNeg).toInt32, 0) else (0, 1)
set_option maxHeartbeats 4000000 in
set_option maxRecDepth 100000 in
theorem c_mo_part (l : Launch) (dC : Nat → ClassId) (dI : Nat → Nat → Nat) (sz : Nat) (m0 : Nat) (mu : Nat) (md : Nat) (th : Int32) (mk : Int32) (mv : Int32) (up : Int64) (dn : Int64) (mr : Int32) (mc : Nat) (me : Nat) (so : Int32) (mau : Nat) (mad : Nat) (mw : Int32) (mwg : Nat) (mgv : Nat) (msq : Nat) (cmu : ClassId) (gu : Nat → Int64) (cmd : ClassId) (gd : Nat → Int64) (v : Int32) (q : Int32) (hv : vp_in mv 301) : Met l y_mo_part w_mo_part ({ frames := 1, cells := 0, slots := 0, locals := 21 }) (va_Pc [.ref m0, .int v, .int q] (fun U => U.heap.size = sz ∧ va_P (dC, dI) classes [(m0, .inr (4, [.int th, .int mk, .int mv, .ref mu, .ref md, .long up, .long dn, .int mr, .ref mc, .ref me, .int so, .ref mau, .ref mad, .int mw, .ref mwg, .ref mgv, .ref msq])), (mu, .inl (cmu, 300, .inr (.inl gu))), (md, .inl (cmd, 300, .inr (.inl gd)))] U.heap ∧ va_K (dC, dI) classes [(cmu, .long), (cmd, .long)] U ∧ va_D (fun _ => True) [(m0, .inr (4, [.int th, .int mk, .int mv, .ref mu, .ref md, .long up, .long dn, .int mr, .ref mc, .ref me, .int so, .ref mau, .ref mad, .int mw, .ref mwg, .ref mgv, .ref msq])), (mu, .inl (cmu, 300, .inr (.inl gu))), (md, .inl (cmd, 300, .inr (.inl gd)))])) (va_Qi (fun z9 u9 => (z9, u9) = f_mo_part mv gu gd v q) (fun (u : Int32) t => match u with | th' => va_P (dC, dI) classes [(m0, .inr (4, [.int th', .int mk, .int mv, .ref mu, .ref md, .long up, .long dn, .int mr, .ref mc, .ref me, .int so, .ref mau, .ref mad, .int mw, .ref mwg, .ref mgv, .ref msq])), (mu, .inl (cmu, 300, .inr (.inl gu))), (md, .inl (cmd, 300, .inr (.inl gd)))] t.heap ∧ va_K (dC, dI) classes [(cmu, .long), (cmd, .long)] t ∧ va_D (va_A [(m0, .inr (4, [.int th, .int mk, .int mv, .ref mu, .ref md, .long up, .long dn, .int mr, .ref mc, .ref me, .int so, .ref mau, .ref mad, .int mw, .ref mwg, .ref mgv, .ref msq])), (mu, .inl (cmu, 300, .inr (.inl gu))), (md, .inl (cmd, 300, .inr (.inl gd)))] sz) [(m0, .inr (4, [.int th', .int mk, .int mv, .ref mu, .ref md, .long up, .long dn, .int mr, .ref mc, .ref me, .int so, .ref mau, .ref mad, .int mw, .ref mwg, .ref mgv, .ref msq])), (mu, .inl (cmu, 300, .inr (.inl gu))), (md, .inl (cmd, 300, .inr (.inl gd)))]) (va_A [(m0, .inr (4, [.int th, .int mk, .int mv, .ref mu, .ref md, .long up, .long dn, .int mr, .ref mc, .ref me, .int so, .ref mau, .ref mad, .int mw, .ref mwg, .ref mgv, .ref msq])), (mu, .inl (cmu, 300, .inr (.inl gu))), (md, .inl (cmd, 300, .inr (.inl gd)))] sz)) 0 0 (va_A [(m0, .inr (4, [.int th, .int mk, .int mv, .ref mu, .ref md, .long up, .long dn, .int mr, .ref mc, .ref me, .int so, .ref mau, .ref mad, .int mw, .ref mwg, .ref mgv, .ref msq])), (mu, .inl (cmu, 300, .inr (.inl gu))), (md, .inl (cmd, 300, .inr (.inl gd)))] sz) := by
  refine Met.ofW (cc := b_mo_part) (maxL := 3) (ret := (some .int)) (by decide +kernel) rfl ?_
  intro p e s m args below meth c s₁ B hml hv
  obtain ⟨rfl, hsz, hP, hK, hD0⟩ := hv
  have hx := B.exec
  have hb := B.bytes
  have hr := B.returns
  have hts := atoms_spec (ws := w_mo_part) B.pre
  have hT := fun (w : Cond) (h : w ∈ kt_T) => hts w (List.mem_cons_of_mem _ h)
  have hown : s.vm.findClass R_mo = some m.cls := findClass_of_methodNamed B.named
  have hlocks := B.notSynchronized
  subst hsz
  have hD := hD0.self (sz := s.heap.size)
  generalize hAe : va_A [(m0, .inr (4, [.int th, .int mk, .int mv, .ref mu, .ref md, .long up, .long dn, .int mr, .ref mc, .ref me, .int so, .ref mau, .ref mad, .int mw, .ref mwg, .ref mgv, .ref msq])), (mu, .inl (cmu, 300, .inr (.inl gu))), (md, .inl (cmd, 300, .inr (.inl gd)))] s.heap.size = A at hD ⊢
  have hA : ∀ q : Nat, s.heap.size ≤ q → A q := fun q h => by rw [← hAe]; exact Or.inr h
  have hS : va_S A s.heap s.heap [] := va_S.rf
  have hl := lv_entry ([.ref m0, .int v, .int q]) (n := 3) (Nat.le_of_ble_eq_true rfl)
  rw [lg_entry_eq]
  generalize (lg_sl ([.ref m0, .int v, .int q]) ++ List.replicate (3 - (lg_sl ([.ref m0, .int v, .int q])).length) Slot.unset).toArray = ls at hl ⊢
  have hl : lv_has ls 3 [(0, .ref m0), (1, .int v), (2, .int q)] := hl
  refine lv_aload_n hx hb d_mo_part_0 rfl (lv_at hl 0 rfl) ?_
  refine lv_aload_n hx hb d_mo_part_1 rfl (lv_at hl 0 rfl) ?_
  refine lv_iload_n hx hb d_mo_part_2 rfl (lv_at hl 1 rfl) ?_
  have hPc := hP.sub (ws' := [(m0, .inr (4, [.int th, .int mk, .int mv, .ref mu, .ref md, .long up, .long dn, .int mr, .ref mc, .ref me, .int so, .ref mau, .ref mad, .int mw, .ref mwg, .ref mgv, .ref msq]))]) [0] rfl
  have hKc := hK.sub (tys' := []) [] rfl
  refine vp_callSi (W.runV (As := [.int v]) (rest := [.ref m0]) ⟨hx, hb, hml, hown, hT⟩ (c_mo_isValue l dC dI m0 th mk mv mu md up dn mr mc me so mau mad mw mwg mgv msq v) (cwV 1 hT (kt_V k_152 k_150 k_151 k_136 k_149) rfl rfl rfl (by decide +kernel) ⟨Nat.le_of_ble_eq_true rfl, Nat.le_of_ble_eq_true rfl⟩) ⟨bl_R, va_recv hKc hPc (ci := 4) (q0 := 0) rfl rfl, fun U hU hW => ⟨rfl, by rw [hU]; exact hPc, va_K.moved hW.alike hKc⟩⟩ rfl rfl hl.1 rfl (lv_room (Nat.le_of_ble_eq_true rfl)) d_mo_part_3 ⟨Nat.zero_le _, Nat.zero_le _⟩) (fun r_1 e_r_1 => ?_)
  subst e_r_1
  refine lv_if_eq (tgt := 18) hx hb d_mo_part_6 (by decide) (fun c_2 => ?_) (fun c_2 => ?_)
  · refine lv_iconst (v := 1) hx hb d_mo_part_18 (by decide) ?_
    refine lv_goto (tgt := 23) hx hb d_mo_part_19 (by decide) ?_
    refine va_put (D := (dC, dI)) (ci := 4) (v := .int 1) (ty := .int) (C := R_mo) (T := F_mo) (N := 17) hx hb hT i_mo t_mo t_mo_ok n_mo hown hK hP hD hS 0 rfl rfl 0 (by decide) (hT _ k_127) (fun _ h9 => h9) rfl (by decide +kernel) rfl rfl (Nat.le_of_ble_eq_true rfl) d_mo_part_23 (fun H locs hP hD hS => ?_)
    have hP : va_P (dC, dI) classes [(m0, .inr (4, [.int 1, .int mk, .int mv, .ref mu, .ref md, .long up, .long dn, .int mr, .ref mc, .ref me, .int so, .ref mau, .ref mad, .int mw, .ref mwg, .ref mgv, .ref msq])), (mu, .inl (cmu, 300, .inr (.inl gu))), (md, .inl (cmd, 300, .inr (.inl gd)))] H := hP
    have hD : va_D A [(m0, .inr (4, [.int 1, .int mk, .int mv, .ref mu, .ref md, .long up, .long dn, .int mr, .ref mc, .ref me, .int so, .ref mau, .ref mad, .int mw, .ref mwg, .ref mgv, .ref msq])), (mu, .inl (cmu, 300, .inr (.inl gu))), (md, .inl (cmd, 300, .inr (.inl gd)))] := hD
    refine lv_aload_n hx hb d_mo_part_26 rfl (lv_at hl 0 rfl) ?_
    refine va_get (D := (dC, dI)) (ci := 4) (v := .int 1) (C := R_mo) (T := F_mo) (N := 17) hx hb hT i_mo hown hK hP 0 rfl rfl 0 (by decide) (hT _ k_127) (fun _ h9 => h9) rfl d_mo_part_27 ?_
    refine lv_iconst (v := 1) hx hb d_mo_part_30 (by decide) ?_
    refine lv_icmp_ne (tgt := 38) hx hb d_mo_part_31 (by decide) (fun c_3 => ?_) (fun c_3 => ?_)
    · exact absurd c_3 (by decide)
    · refine lv_iconst (v := 0) hx hb d_mo_part_34 (by decide) ?_
      refine lv_goto (tgt := 58) hx hb d_mo_part_35 (by decide) ?_
      exact W.iret (v := 0) hx hb hr (fun t ht hW => ⟨⟨0, 1, rfl, by unfold f_mo_part; rw [if_pos c_2], by rw [ht]; exact hP, va_K.moved hW.alike hK, hD⟩, hS.F ht⟩) hS.2.2 d_mo_part_58
  · refine lv_iload_n hx hb d_mo_part_9 rfl (lv_at hl 2 rfl) ?_
    refine lv_if_lt (tgt := 18) hx hb d_mo_part_10 (by decide) (fun c_4 => ?_) (fun c_4 => ?_)
    · refine lv_iconst (v := 1) hx hb d_mo_part_18 (by decide) ?_
      refine lv_goto (tgt := 23) hx hb d_mo_part_19 (by decide) ?_
      refine va_put (D := (dC, dI)) (ci := 4) (v := .int 1) (ty := .int) (C := R_mo) (T := F_mo) (N := 17) hx hb hT i_mo t_mo t_mo_ok n_mo hown hK hP hD hS 0 rfl rfl 0 (by decide) (hT _ k_127) (fun _ h9 => h9) rfl (by decide +kernel) rfl rfl (Nat.le_of_ble_eq_true rfl) d_mo_part_23 (fun H locs hP hD hS => ?_)
      have hP : va_P (dC, dI) classes [(m0, .inr (4, [.int 1, .int mk, .int mv, .ref mu, .ref md, .long up, .long dn, .int mr, .ref mc, .ref me, .int so, .ref mau, .ref mad, .int mw, .ref mwg, .ref mgv, .ref msq])), (mu, .inl (cmu, 300, .inr (.inl gu))), (md, .inl (cmd, 300, .inr (.inl gd)))] H := hP
      have hD : va_D A [(m0, .inr (4, [.int 1, .int mk, .int mv, .ref mu, .ref md, .long up, .long dn, .int mr, .ref mc, .ref me, .int so, .ref mau, .ref mad, .int mw, .ref mwg, .ref mgv, .ref msq])), (mu, .inl (cmu, 300, .inr (.inl gu))), (md, .inl (cmd, 300, .inr (.inl gd)))] := hD
      refine lv_aload_n hx hb d_mo_part_26 rfl (lv_at hl 0 rfl) ?_
      refine va_get (D := (dC, dI)) (ci := 4) (v := .int 1) (C := R_mo) (T := F_mo) (N := 17) hx hb hT i_mo hown hK hP 0 rfl rfl 0 (by decide) (hT _ k_127) (fun _ h9 => h9) rfl d_mo_part_27 ?_
      refine lv_iconst (v := 1) hx hb d_mo_part_30 (by decide) ?_
      refine lv_icmp_ne (tgt := 38) hx hb d_mo_part_31 (by decide) (fun c_5 => ?_) (fun c_5 => ?_)
      · exact absurd c_5 (by decide)
      · refine lv_iconst (v := 0) hx hb d_mo_part_34 (by decide) ?_
        refine lv_goto (tgt := 58) hx hb d_mo_part_35 (by decide) ?_
        exact W.iret (v := 0) hx hb hr (fun t ht hW => ⟨⟨0, 1, rfl, by unfold f_mo_part; rw [if_neg c_2, if_pos c_4], by rw [ht]; exact hP, va_K.moved hW.alike hK, hD⟩, hS.F ht⟩) hS.2.2 d_mo_part_58
    · refine lv_iload_n hx hb d_mo_part_13 rfl (lv_at hl 2 rfl) ?_
      refine lv_iconst (v := 1) hx hb d_mo_part_14 (by decide) ?_
      refine lv_icmp_le (tgt := 22) hx hb d_mo_part_15 (by decide) (fun c_6 => ?_) (fun c_6 => ?_)
      · refine lv_iconst (v := 0) hx hb d_mo_part_22 (by decide) ?_
        refine va_put (D := (dC, dI)) (ci := 4) (v := .int 0) (ty := .int) (C := R_mo) (T := F_mo) (N := 17) hx hb hT i_mo t_mo t_mo_ok n_mo hown hK hP hD hS 0 rfl rfl 0 (by decide) (hT _ k_127) (fun _ h9 => h9) rfl (by decide +kernel) rfl rfl (Nat.le_of_ble_eq_true rfl) d_mo_part_23 (fun H locs hP hD hS => ?_)
        have hP : va_P (dC, dI) classes [(m0, .inr (4, [.int 0, .int mk, .int mv, .ref mu, .ref md, .long up, .long dn, .int mr, .ref mc, .ref me, .int so, .ref mau, .ref mad, .int mw, .ref mwg, .ref mgv, .ref msq])), (mu, .inl (cmu, 300, .inr (.inl gu))), (md, .inl (cmd, 300, .inr (.inl gd)))] H := hP
        have hD : va_D A [(m0, .inr (4, [.int 0, .int mk, .int mv, .ref mu, .ref md, .long up, .long dn, .int mr, .ref mc, .ref me, .int so, .ref mau, .ref mad, .int mw, .ref mwg, .ref mgv, .ref msq])), (mu, .inl (cmu, 300, .inr (.inl gu))), (md, .inl (cmd, 300, .inr (.inl gd)))] := hD
        refine lv_aload_n hx hb d_mo_part_26 rfl (lv_at hl 0 rfl) ?_
        refine va_get (D := (dC, dI)) (ci := 4) (v := .int 0) (C := R_mo) (T := F_mo) (N := 17) hx hb hT i_mo hown hK hP 0 rfl rfl 0 (by decide) (hT _ k_127) (fun _ h9 => h9) rfl d_mo_part_27 ?_
        refine lv_iconst (v := 1) hx hb d_mo_part_30 (by decide) ?_
        refine lv_icmp_ne (tgt := 38) hx hb d_mo_part_31 (by decide) (fun c_7 => ?_) (fun c_7 => ?_)
        · refine lv_iload_n hx hb d_mo_part_38 rfl (lv_at hl 2 rfl) ?_
          refine lv_if_ne (tgt := 51) hx hb d_mo_part_39 (by decide) (fun c_8 => ?_) (fun c_8 => ?_)
          · refine lv_aload_n hx hb d_mo_part_51 rfl (lv_at hl 0 rfl) ?_
            refine va_get (D := (dC, dI)) (ci := 4) (v := .ref md) (C := R_mo) (T := F_mo) (N := 17) hx hb hT i_mo hown hK hP 0 rfl rfl 4 (by decide) (hT _ k_144) (fun _ h9 => h9) rfl d_mo_part_52 ?_
            refine lv_iload_n hx hb d_mo_part_55 rfl (lv_at hl 1 rfl) ?_
            refine va_lald hx hb hK hP 2 1 rfl rfl (in_iv hv c_2) d_mo_part_56 ?_
            refine lv_l2i (v := (gd v.toNatClampNeg).toInt32) hx hb d_mo_part_57 rfl ?_
            exact W.iret (v := (gd v.toNatClampNeg).toInt32) hx hb hr (fun t ht hW => ⟨⟨(gd v.toNatClampNeg).toInt32, 0, rfl, by unfold f_mo_part; rw [if_neg c_2, if_neg c_4, if_pos c_6, if_neg c_8], by rw [ht]; exact hP, va_K.moved hW.alike hK, hD⟩, hS.F ht⟩) hS.2.2 d_mo_part_58
          · refine lv_aload_n hx hb d_mo_part_42 rfl (lv_at hl 0 rfl) ?_
            refine va_get (D := (dC, dI)) (ci := 4) (v := .ref mu) (C := R_mo) (T := F_mo) (N := 17) hx hb hT i_mo hown hK hP 0 rfl rfl 3 (by decide) (hT _ k_143) (fun _ h9 => h9) rfl d_mo_part_43 ?_
            refine lv_iload_n hx hb d_mo_part_46 rfl (lv_at hl 1 rfl) ?_
            refine va_lald hx hb hK hP 1 0 rfl rfl (in_iv hv c_2) d_mo_part_47 ?_
            refine lv_goto (tgt := 57) hx hb d_mo_part_48 (by decide) ?_
            refine lv_l2i (v := (gu v.toNatClampNeg).toInt32) hx hb d_mo_part_57 rfl ?_
            exact W.iret (v := (gu v.toNatClampNeg).toInt32) hx hb hr (fun t ht hW => ⟨⟨(gu v.toNatClampNeg).toInt32, 0, rfl, by unfold f_mo_part; rw [if_neg c_2, if_neg c_4, if_pos c_6, if_pos c_8], by rw [ht]; exact hP, va_K.moved hW.alike hK, hD⟩, hS.F ht⟩) hS.2.2 d_mo_part_58
        · exact absurd c_7 (by decide)
      · refine lv_iconst (v := 1) hx hb d_mo_part_18 (by decide) ?_
        refine lv_goto (tgt := 23) hx hb d_mo_part_19 (by decide) ?_
        refine va_put (D := (dC, dI)) (ci := 4) (v := .int 1) (ty := .int) (C := R_mo) (T := F_mo) (N := 17) hx hb hT i_mo t_mo t_mo_ok n_mo hown hK hP hD hS 0 rfl rfl 0 (by decide) (hT _ k_127) (fun _ h9 => h9) rfl (by decide +kernel) rfl rfl (Nat.le_of_ble_eq_true rfl) d_mo_part_23 (fun H locs hP hD hS => ?_)
        have hP : va_P (dC, dI) classes [(m0, .inr (4, [.int 1, .int mk, .int mv, .ref mu, .ref md, .long up, .long dn, .int mr, .ref mc, .ref me, .int so, .ref mau, .ref mad, .int mw, .ref mwg, .ref mgv, .ref msq])), (mu, .inl (cmu, 300, .inr (.inl gu))), (md, .inl (cmd, 300, .inr (.inl gd)))] H := hP
        have hD : va_D A [(m0, .inr (4, [.int 1, .int mk, .int mv, .ref mu, .ref md, .long up, .long dn, .int mr, .ref mc, .ref me, .int so, .ref mau, .ref mad, .int mw, .ref mwg, .ref mgv, .ref msq])), (mu, .inl (cmu, 300, .inr (.inl gu))), (md, .inl (cmd, 300, .inr (.inl gd)))] := hD
        refine lv_aload_n hx hb d_mo_part_26 rfl (lv_at hl 0 rfl) ?_
        refine va_get (D := (dC, dI)) (ci := 4) (v := .int 1) (C := R_mo) (T := F_mo) (N := 17) hx hb hT i_mo hown hK hP 0 rfl rfl 0 (by decide) (hT _ k_127) (fun _ h9 => h9) rfl d_mo_part_27 ?_
        refine lv_iconst (v := 1) hx hb d_mo_part_30 (by decide) ?_
        refine lv_icmp_ne (tgt := 38) hx hb d_mo_part_31 (by decide) (fun c_9 => ?_) (fun c_9 => ?_)
        · exact absurd c_9 (by decide)
        · refine lv_iconst (v := 0) hx hb d_mo_part_34 (by decide) ?_
          refine lv_goto (tgt := 58) hx hb d_mo_part_35 (by decide) ?_
          exact W.iret (v := 0) hx hb hr (fun t ht hW => ⟨⟨0, 1, rfl, by unfold f_mo_part; rw [if_neg c_2, if_neg c_4, if_neg c_6], by rw [ht]; exact hP, va_K.moved hW.alike hK, hD⟩, hS.F ht⟩) hS.2.2 d_mo_part_58
def f_mo_add (mv : Int32) (up : Int64) (dn : Int64) (gu : Nat → Int64) (gd : Nat → Int64) (a : Int32) (b : Int32) : Int32 × Int32 × (Nat → Int64) × (Nat → Int64) × Int32 × Int64 × Int64 :=
  if (f_mo_isValue mv a) = 0 then ((-1), 0, gu, gd, mv, up, dn) else if (f_mo_isValue mv b) = 0 then ((-1), 0, gu, gd, mv, up, dn) else ((f_mo_keep mv gu gd (((gu a.toNatClampNeg) * (gd b.toNatClampNeg)) + ((gu b.toNatClampNeg) * (gd a.toNatClampNeg))) ((gd a.toNatClampNeg) * (gd b.toNatClampNeg))).1, 0, (f_mo_keep mv gu gd (((gu a.toNatClampNeg) * (gd b.toNatClampNeg)) + ((gu b.toNatClampNeg) * (gd a.toNatClampNeg))) ((gd a.toNatClampNeg) * (gd b.toNatClampNeg))).2.1, (f_mo_keep mv gu gd (((gu a.toNatClampNeg) * (gd b.toNatClampNeg)) + ((gu b.toNatClampNeg) * (gd a.toNatClampNeg))) ((gd a.toNatClampNeg) * (gd b.toNatClampNeg))).2.2.1, (f_mo_keep mv gu gd (((gu a.toNatClampNeg) * (gd b.toNatClampNeg)) + ((gu b.toNatClampNeg) * (gd a.toNatClampNeg))) ((gd a.toNatClampNeg) * (gd b.toNatClampNeg))).2.2.2.1, (f_mo_keep mv gu gd (((gu a.toNatClampNeg) * (gd b.toNatClampNeg)) + ((gu b.toNatClampNeg) * (gd a.toNatClampNeg))) ((gd a.toNatClampNeg) * (gd b.toNatClampNeg))).2.2.2.2.1, (f_mo_keep mv gu gd (((gu a.toNatClampNeg) * (gd b.toNatClampNeg)) + ((gu b.toNatClampNeg) * (gd a.toNatClampNeg))) ((gd a.toNatClampNeg) * (gd b.toNatClampNeg))).2.2.2.2.2)
set_option maxHeartbeats 4000000 in
set_option maxRecDepth 100000 in
theorem c_mo_add (l : Launch) (dC : Nat → ClassId) (dI : Nat → Nat → Nat) (sz : Nat) (m0 : Nat) (mu : Nat) (md : Nat) (th : Int32) (mk : Int32) (mv : Int32) (up : Int64) (dn : Int64) (mr : Int32) (mc : Nat) (me : Nat) (so : Int32) (mau : Nat) (mad : Nat) (mw : Int32) (mwg : Nat) (mgv : Nat) (msq : Nat) (cmu : ClassId) (gu : Nat → Int64) (cmd : ClassId) (gd : Nat → Int64) (a : Int32) (b : Int32) (hv : vp_in mv 301) (hz : ¬ f_mo_isValue mv a = 0 → ¬ f_mo_isValue mv b = 0 → ¬ (gd a.toNatClampNeg * gd b.toNatClampNeg) = 0) : Met l y_mo_add w_mo_add ({ frames := 3, cells := 0, slots := 0, locals := 75 }) (va_Pc [.ref m0, .int a, .int b] (fun U => U.heap.size = sz ∧ va_P (dC, dI) classes [(m0, .inr (4, [.int th, .int mk, .int mv, .ref mu, .ref md, .long up, .long dn, .int mr, .ref mc, .ref me, .int so, .ref mau, .ref mad, .int mw, .ref mwg, .ref mgv, .ref msq])), (mu, .inl (cmu, 300, .inr (.inl gu))), (md, .inl (cmd, 300, .inr (.inl gd)))] U.heap ∧ va_K (dC, dI) classes [(cmu, .long), (cmd, .long)] U ∧ va_D (fun _ => True) [(m0, .inr (4, [.int th, .int mk, .int mv, .ref mu, .ref md, .long up, .long dn, .int mr, .ref mc, .ref me, .int so, .ref mau, .ref mad, .int mw, .ref mwg, .ref mgv, .ref msq])), (mu, .inl (cmu, 300, .inr (.inl gu))), (md, .inl (cmd, 300, .inr (.inl gd)))])) (va_Qi (fun z9 u9 => (z9, u9) = f_mo_add mv up dn gu gd a b) (fun (u : Int32 × (Nat → Int64) × (Nat → Int64) × Int32 × Int64 × Int64) t => match u with | (th', gu', gd', mv', up', dn') => va_P (dC, dI) classes [(m0, .inr (4, [.int th', .int mk, .int mv', .ref mu, .ref md, .long up', .long dn', .int mr, .ref mc, .ref me, .int so, .ref mau, .ref mad, .int mw, .ref mwg, .ref mgv, .ref msq])), (mu, .inl (cmu, 300, .inr (.inl gu'))), (md, .inl (cmd, 300, .inr (.inl gd')))] t.heap ∧ va_K (dC, dI) classes [(cmu, .long), (cmd, .long)] t ∧ va_D (va_A [(m0, .inr (4, [.int th, .int mk, .int mv, .ref mu, .ref md, .long up, .long dn, .int mr, .ref mc, .ref me, .int so, .ref mau, .ref mad, .int mw, .ref mwg, .ref mgv, .ref msq])), (mu, .inl (cmu, 300, .inr (.inl gu))), (md, .inl (cmd, 300, .inr (.inl gd)))] sz) [(m0, .inr (4, [.int th', .int mk, .int mv', .ref mu, .ref md, .long up', .long dn', .int mr, .ref mc, .ref me, .int so, .ref mau, .ref mad, .int mw, .ref mwg, .ref mgv, .ref msq])), (mu, .inl (cmu, 300, .inr (.inl gu'))), (md, .inl (cmd, 300, .inr (.inl gd')))]) (va_A [(m0, .inr (4, [.int th, .int mk, .int mv, .ref mu, .ref md, .long up, .long dn, .int mr, .ref mc, .ref me, .int so, .ref mau, .ref mad, .int mw, .ref mwg, .ref mgv, .ref msq])), (mu, .inl (cmu, 300, .inr (.inl gu))), (md, .inl (cmd, 300, .inr (.inl gd)))] sz)) 0 0 (va_A [(m0, .inr (4, [.int th, .int mk, .int mv, .ref mu, .ref md, .long up, .long dn, .int mr, .ref mc, .ref me, .int so, .ref mau, .ref mad, .int mw, .ref mwg, .ref mgv, .ref msq])), (mu, .inl (cmu, 300, .inr (.inl gu))), (md, .inl (cmd, 300, .inr (.inl gd)))] sz) := by
  refine Met.ofW (cc := b_mo_add) (maxL := 3) (ret := (some .int)) (by decide +kernel) rfl ?_
  intro p e s m args below meth c s₁ B hml hv
  obtain ⟨rfl, hsz, hP, hK, hD0⟩ := hv
  have hx := B.exec
  have hb := B.bytes
  have hr := B.returns
  have hts := atoms_spec (ws := w_mo_add) B.pre
  have hT := fun (w : Cond) (h : w ∈ kt_T) => hts w (List.mem_cons_of_mem _ h)
  have hown : s.vm.findClass R_mo = some m.cls := findClass_of_methodNamed B.named
  have hlocks := B.notSynchronized
  subst hsz
  have hD := hD0.self (sz := s.heap.size)
  generalize hAe : va_A [(m0, .inr (4, [.int th, .int mk, .int mv, .ref mu, .ref md, .long up, .long dn, .int mr, .ref mc, .ref me, .int so, .ref mau, .ref mad, .int mw, .ref mwg, .ref mgv, .ref msq])), (mu, .inl (cmu, 300, .inr (.inl gu))), (md, .inl (cmd, 300, .inr (.inl gd)))] s.heap.size = A at hD ⊢
  have hA : ∀ q : Nat, s.heap.size ≤ q → A q := fun q h => by rw [← hAe]; exact Or.inr h
  have hS : va_S A s.heap s.heap [] := va_S.rf
  have hl := lv_entry ([.ref m0, .int a, .int b]) (n := 3) (Nat.le_of_ble_eq_true rfl)
  rw [lg_entry_eq]
  generalize (lg_sl ([.ref m0, .int a, .int b]) ++ List.replicate (3 - (lg_sl ([.ref m0, .int a, .int b])).length) Slot.unset).toArray = ls at hl ⊢
  have hl : lv_has ls 3 [(0, .ref m0), (1, .int a), (2, .int b)] := hl
  refine lv_aload_n hx hb d_mo_add_0 rfl (lv_at hl 0 rfl) ?_
  refine lv_iconst (v := 0) hx hb d_mo_add_1 (by decide) ?_
  refine va_put (D := (dC, dI)) (ci := 4) (v := .int 0) (ty := .int) (C := R_mo) (T := F_mo) (N := 17) hx hb hT i_mo t_mo t_mo_ok n_mo hown hK hP hD hS 0 rfl rfl 0 (by decide) (hT _ k_127) (fun _ h9 => h9) rfl (by decide +kernel) rfl rfl (Nat.le_of_ble_eq_true rfl) d_mo_add_2 (fun H locs hP hD hS => ?_)
  have hP : va_P (dC, dI) classes [(m0, .inr (4, [.int 0, .int mk, .int mv, .ref mu, .ref md, .long up, .long dn, .int mr, .ref mc, .ref me, .int so, .ref mau, .ref mad, .int mw, .ref mwg, .ref mgv, .ref msq])), (mu, .inl (cmu, 300, .inr (.inl gu))), (md, .inl (cmd, 300, .inr (.inl gd)))] H := hP
  have hD : va_D A [(m0, .inr (4, [.int 0, .int mk, .int mv, .ref mu, .ref md, .long up, .long dn, .int mr, .ref mc, .ref me, .int so, .ref mau, .ref mad, .int mw, .ref mwg, .ref mgv, .ref msq])), (mu, .inl (cmu, 300, .inr (.inl gu))), (md, .inl (cmd, 300, .inr (.inl gd)))] := hD
  refine lv_aload_n hx hb d_mo_add_5 rfl (lv_at hl 0 rfl) ?_
  refine lv_iload_n hx hb d_mo_add_6 rfl (lv_at hl 1 rfl) ?_
  have hPc := hP.sub (ws' := [(m0, .inr (4, [.int 0, .int mk, .int mv, .ref mu, .ref md, .long up, .long dn, .int mr, .ref mc, .ref me, .int so, .ref mau, .ref mad, .int mw, .ref mwg, .ref mgv, .ref msq]))]) [0] rfl
  have hKc := hK.sub (tys' := []) [] rfl
  refine vp_callSi (W.runV (As := [.int a]) (rest := []) ⟨hx, hb, hml, hown, hT⟩ (c_mo_isValue l dC dI m0 0 mk mv mu md up dn mr mc me so mau mad mw mwg mgv msq a) (cwV 1 hT (kt_V k_152 k_150 k_151 k_136 k_149) rfl rfl rfl (by decide +kernel) ⟨Nat.le_of_ble_eq_true rfl, Nat.le_of_ble_eq_true rfl⟩) ⟨bl_R, va_recv hKc hPc (ci := 4) (q0 := 0) rfl rfl, fun U hU hW => ⟨rfl, by rw [hU]; exact hPc, va_K.moved hW.alike hKc⟩⟩ rfl rfl hl.1 rfl (lv_room (Nat.le_of_ble_eq_true rfl)) d_mo_add_7 ⟨Nat.zero_le _, Nat.zero_le _⟩) (fun r_1 e_r_1 => ?_)
  subst e_r_1
  refine lv_if_eq (tgt := 21) hx hb d_mo_add_10 (by decide) (fun c_2 => ?_) (fun c_2 => ?_)
  · refine lv_iconst (v := (-1)) hx hb d_mo_add_21 (by decide) ?_
    refine lv_goto (tgt := 69) hx hb d_mo_add_22 (by decide) ?_
    exact W.iret (v := (-1)) hx hb hr (fun t ht hW => ⟨⟨(-1), (0, gu, gd, mv, up, dn), rfl, by unfold f_mo_add; rw [if_pos c_2], by rw [ht]; exact hP, va_K.moved hW.alike hK, hD⟩, hS.F ht⟩) hS.2.2 d_mo_add_69
  · refine lv_aload_n hx hb d_mo_add_13 rfl (lv_at hl 0 rfl) ?_
    refine lv_iload_n hx hb d_mo_add_14 rfl (lv_at hl 2 rfl) ?_
    have hPc := hP.sub (ws' := [(m0, .inr (4, [.int 0, .int mk, .int mv, .ref mu, .ref md, .long up, .long dn, .int mr, .ref mc, .ref me, .int so, .ref mau, .ref mad, .int mw, .ref mwg, .ref mgv, .ref msq]))]) [0] rfl
    have hKc := hK.sub (tys' := []) [] rfl
    refine vp_callSi (W.runV (As := [.int b]) (rest := []) ⟨hx, hb, hml, hown, hT⟩ (c_mo_isValue l dC dI m0 0 mk mv mu md up dn mr mc me so mau mad mw mwg mgv msq b) (cwV 1 hT (kt_V k_152 k_150 k_151 k_136 k_149) rfl rfl rfl (by decide +kernel) ⟨Nat.le_of_ble_eq_true rfl, Nat.le_of_ble_eq_true rfl⟩) ⟨bl_R, va_recv hKc hPc (ci := 4) (q0 := 0) rfl rfl, fun U hU hW => ⟨rfl, by rw [hU]; exact hPc, va_K.moved hW.alike hKc⟩⟩ rfl rfl hl.1 rfl (lv_room (Nat.le_of_ble_eq_true rfl)) d_mo_add_15 ⟨Nat.zero_le _, Nat.zero_le _⟩) (fun r_3 e_r_3 => ?_)
    subst e_r_3
    refine lv_if_ne (tgt := 25) hx hb d_mo_add_18 (by decide) (fun c_4 => ?_) (fun c_4 => ?_)
    · refine lv_aload_n hx hb d_mo_add_25 rfl (lv_at hl 0 rfl) ?_
      refine lv_aload_n hx hb d_mo_add_26 rfl (lv_at hl 0 rfl) ?_
      refine va_get (D := (dC, dI)) (ci := 4) (v := .ref mu) (C := R_mo) (T := F_mo) (N := 17) hx hb hT i_mo hown hK hP 0 rfl rfl 3 (by decide) (hT _ k_143) (fun _ h9 => h9) rfl d_mo_add_27 ?_
      refine lv_iload_n hx hb d_mo_add_30 rfl (lv_at hl 1 rfl) ?_
      refine va_lald hx hb hK hP 1 0 rfl rfl (in_iv hv c_2) d_mo_add_31 ?_
      refine lv_aload_n hx hb d_mo_add_32 rfl (lv_at hl 0 rfl) ?_
      refine va_get (D := (dC, dI)) (ci := 4) (v := .ref md) (C := R_mo) (T := F_mo) (N := 17) hx hb hT i_mo hown hK hP 0 rfl rfl 4 (by decide) (hT _ k_144) (fun _ h9 => h9) rfl d_mo_add_33 ?_
      refine lv_iload_n hx hb d_mo_add_36 rfl (lv_at hl 2 rfl) ?_
      refine va_lald hx hb hK hP 2 1 rfl rfl (in_iv hv c_4) d_mo_add_37 ?_
      refine lv_lmul hx hb d_mo_add_38 ?_
      refine lv_aload_n hx hb d_mo_add_39 rfl (lv_at hl 0 rfl) ?_
      refine va_get (D := (dC, dI)) (ci := 4) (v := .ref mu) (C := R_mo) (T := F_mo) (N := 17) hx hb hT i_mo hown hK hP 0 rfl rfl 3 (by decide) (hT _ k_143) (fun _ h9 => h9) rfl d_mo_add_40 ?_
      refine lv_iload_n hx hb d_mo_add_43 rfl (lv_at hl 2 rfl) ?_
      refine va_lald hx hb hK hP 1 0 rfl rfl (in_iv hv c_4) d_mo_add_44 ?_
      refine lv_aload_n hx hb d_mo_add_45 rfl (lv_at hl 0 rfl) ?_
      refine va_get (D := (dC, dI)) (ci := 4) (v := .ref md) (C := R_mo) (T := F_mo) (N := 17) hx hb hT i_mo hown hK hP 0 rfl rfl 4 (by decide) (hT _ k_144) (fun _ h9 => h9) rfl d_mo_add_46 ?_
      refine lv_iload_n hx hb d_mo_add_49 rfl (lv_at hl 1 rfl) ?_
      refine va_lald hx hb hK hP 2 1 rfl rfl (in_iv hv c_2) d_mo_add_50 ?_
      refine lv_lmul hx hb d_mo_add_51 ?_
      refine lv_ladd hx hb d_mo_add_52 ?_
      refine lv_aload_n hx hb d_mo_add_53 rfl (lv_at hl 0 rfl) ?_
      refine va_get (D := (dC, dI)) (ci := 4) (v := .ref md) (C := R_mo) (T := F_mo) (N := 17) hx hb hT i_mo hown hK hP 0 rfl rfl 4 (by decide) (hT _ k_144) (fun _ h9 => h9) rfl d_mo_add_54 ?_
      refine lv_iload_n hx hb d_mo_add_57 rfl (lv_at hl 1 rfl) ?_
      refine va_lald hx hb hK hP 2 1 rfl rfl (in_iv hv c_2) d_mo_add_58 ?_
      refine lv_aload_n hx hb d_mo_add_59 rfl (lv_at hl 0 rfl) ?_
      refine va_get (D := (dC, dI)) (ci := 4) (v := .ref md) (C := R_mo) (T := F_mo) (N := 17) hx hb hT i_mo hown hK hP 0 rfl rfl 4 (by decide) (hT _ k_144) (fun _ h9 => h9) rfl d_mo_add_60 ?_
      refine lv_iload_n hx hb d_mo_add_63 rfl (lv_at hl 2 rfl) ?_
      refine va_lald hx hb hK hP 2 1 rfl rfl (in_iv hv c_4) d_mo_add_64 ?_
      refine lv_lmul hx hb d_mo_add_65 ?_
      have hPc := hP.sub (ws' := [(m0, .inr (4, [.int 0, .int mk, .int mv, .ref mu, .ref md, .long up, .long dn, .int mr, .ref mc, .ref me, .int so, .ref mau, .ref mad, .int mw, .ref mwg, .ref mgv, .ref msq])), (mu, .inl (cmu, 300, .inr (.inl gu))), (md, .inl (cmd, 300, .inr (.inl gd)))]) [0, 1, 2] rfl
      have hKc := hK.sub (tys' := [(cmu, .long), (cmd, .long)]) [0, 1] rfl
      have hDc := hD.sub (ws' := [(m0, .inr (4, [.int 0, .int mk, .int mv, .ref mu, .ref md, .long up, .long dn, .int mr, .ref mc, .ref me, .int so, .ref mau, .ref mad, .int mw, .ref mwg, .ref mgv, .ref msq])), (mu, .inl (cmu, 300, .inr (.inl gu))), (md, .inl (cmd, 300, .inr (.inl gd)))]) [0, 1, 2] (by decide) rfl
      have hFc := va_free (wc := [(m0, .inr (4, [.int 0, .int mk, .int mv, .ref mu, .ref md, .long up, .long dn, .int mr, .ref mc, .ref me, .int so, .ref mau, .ref mad, .int mw, .ref mwg, .ref mgv, .ref msq])), (mu, .inl (cmu, 300, .inr (.inl gu))), (md, .inl (cmd, 300, .inr (.inl gd)))]) hD hS hA [0, 1, 2] rfl
      refine va_calli (va_runV (As := [.long (((gu a.toNatClampNeg) * (gd b.toNatClampNeg)) + ((gu b.toNatClampNeg) * (gd a.toNatClampNeg))), .long ((gd a.toNatClampNeg) * (gd b.toNatClampNeg))]) (rest := []) ⟨hx, hb, hml, hown, hT⟩ (c_mo_keep l dC dI H.size m0 mu md 0 mk mv up dn mr mc me so mau mad mw mwg mgv msq cmu gu cmd gd (((gu a.toNatClampNeg) * (gd b.toNatClampNeg)) + ((gu b.toNatClampNeg) * (gd a.toNatClampNeg))) ((gd a.toNatClampNeg) * (gd b.toNatClampNeg)) (euc_all _ _) (hz c_2 c_4) hv) (cwV 2 hT (kt_V k_148 k_146 k_147 k_136 k_145) rfl rfl rfl (by decide +kernel) ⟨Nat.le_of_ble_eq_true rfl, Nat.le_of_ble_eq_true rfl⟩) ⟨bl_M, va_recv hKc hPc (ci := 4) (q0 := 0) rfl rfl, fun U hU hW => ⟨rfl, by rw [hU], by rw [hU]; exact hPc, va_K.moved hW.alike hKc, hDc.weaken (fun _ _ _ _ => trivial)⟩⟩ rfl rfl hl.1 rfl (lv_room (Nat.le_of_ble_eq_true rfl)) d_mo_add_66 ⟨Nat.zero_le _, Nat.zero_le _⟩) hS (fun q _ h => hFc q h) hFc (fun r_5 u t H1 locs ht hvm hw hB hz1 hk1 hS => ?_)
      obtain ⟨gu_5, gd_5, mv_5, up_5, dn_5⟩ := u
      obtain ⟨hP1, hK1, hD1⟩ := hB
      rw [ht] at hP1
      obtain ⟨hP, hD⟩ := va_join (wr := []) (w1 := [(m0, .inr (4, [.int 0, .int mk, .int mv_5, .ref mu, .ref md, .long up_5, .long dn_5, .int mr, .ref mc, .ref me, .int so, .ref mau, .ref mad, .int mw, .ref mwg, .ref mgv, .ref msq])), (mu, .inl (cmu, 300, .inr (.inl gu_5))), (md, .inl (cmd, 300, .inr (.inl gd_5)))]) hP hD [0, 1, 2] [] rfl rfl (by decide) (by decide) hk1 hFc hP1 hD1
      generalize H1 = H at hP hS ⊢
      have hP := hP.sub (ws' := [(m0, .inr (4, [.int 0, .int mk, .int mv_5, .ref mu, .ref md, .long up_5, .long dn_5, .int mr, .ref mc, .ref me, .int so, .ref mau, .ref mad, .int mw, .ref mwg, .ref mgv, .ref msq])), (mu, .inl (cmu, 300, .inr (.inl gu_5))), (md, .inl (cmd, 300, .inr (.inl gd_5)))]) [0, 1, 2] rfl
      have hD := hD.sub (ws' := [(m0, .inr (4, [.int 0, .int mk, .int mv_5, .ref mu, .ref md, .long up_5, .long dn_5, .int mr, .ref mc, .ref me, .int so, .ref mau, .ref mad, .int mw, .ref mwg, .ref mgv, .ref msq])), (mu, .inl (cmu, 300, .inr (.inl gu_5))), (md, .inl (cmd, 300, .inr (.inl gd_5)))]) [0, 1, 2] (by decide) rfl
      have e_r_5 : r_5 = (f_mo_keep mv gu gd (((gu a.toNatClampNeg) * (gd b.toNatClampNeg)) + ((gu b.toNatClampNeg) * (gd a.toNatClampNeg))) ((gd a.toNatClampNeg) * (gd b.toNatClampNeg))).1 := congrArg (fun z => z.1) hw
      have e_gu_5 : gu_5 = (f_mo_keep mv gu gd (((gu a.toNatClampNeg) * (gd b.toNatClampNeg)) + ((gu b.toNatClampNeg) * (gd a.toNatClampNeg))) ((gd a.toNatClampNeg) * (gd b.toNatClampNeg))).2.1 := congrArg (fun z => z.2.1) hw
      have e_gd_5 : gd_5 = (f_mo_keep mv gu gd (((gu a.toNatClampNeg) * (gd b.toNatClampNeg)) + ((gu b.toNatClampNeg) * (gd a.toNatClampNeg))) ((gd a.toNatClampNeg) * (gd b.toNatClampNeg))).2.2.1 := congrArg (fun z => z.2.2.1) hw
      have e_mv_5 : mv_5 = (f_mo_keep mv gu gd (((gu a.toNatClampNeg) * (gd b.toNatClampNeg)) + ((gu b.toNatClampNeg) * (gd a.toNatClampNeg))) ((gd a.toNatClampNeg) * (gd b.toNatClampNeg))).2.2.2.1 := congrArg (fun z => z.2.2.2.1) hw
      have e_up_5 : up_5 = (f_mo_keep mv gu gd (((gu a.toNatClampNeg) * (gd b.toNatClampNeg)) + ((gu b.toNatClampNeg) * (gd a.toNatClampNeg))) ((gd a.toNatClampNeg) * (gd b.toNatClampNeg))).2.2.2.2.1 := congrArg (fun z => z.2.2.2.2.1) hw
      have e_dn_5 : dn_5 = (f_mo_keep mv gu gd (((gu a.toNatClampNeg) * (gd b.toNatClampNeg)) + ((gu b.toNatClampNeg) * (gd a.toNatClampNeg))) ((gd a.toNatClampNeg) * (gd b.toNatClampNeg))).2.2.2.2.2 := congrArg (fun z => z.2.2.2.2.2) hw
      subst e_r_5 e_gu_5 e_gd_5 e_mv_5 e_up_5 e_dn_5
      clear hP1 hK1 hD1 hk1 hz1 hFc hDc hPc hKc
      exact W.iret (v := (f_mo_keep mv gu gd (((gu a.toNatClampNeg) * (gd b.toNatClampNeg)) + ((gu b.toNatClampNeg) * (gd a.toNatClampNeg))) ((gd a.toNatClampNeg) * (gd b.toNatClampNeg))).1) hx hb hr (fun t ht hW => ⟨⟨(f_mo_keep mv gu gd (((gu a.toNatClampNeg) * (gd b.toNatClampNeg)) + ((gu b.toNatClampNeg) * (gd a.toNatClampNeg))) ((gd a.toNatClampNeg) * (gd b.toNatClampNeg))).1, (0, (f_mo_keep mv gu gd (((gu a.toNatClampNeg) * (gd b.toNatClampNeg)) + ((gu b.toNatClampNeg) * (gd a.toNatClampNeg))) ((gd a.toNatClampNeg) * (gd b.toNatClampNeg))).2.1, (f_mo_keep mv gu gd (((gu a.toNatClampNeg) * (gd b.toNatClampNeg)) + ((gu b.toNatClampNeg) * (gd a.toNatClampNeg))) ((gd a.toNatClampNeg) * (gd b.toNatClampNeg))).2.2.1, (f_mo_keep mv gu gd (((gu a.toNatClampNeg) * (gd b.toNatClampNeg)) + ((gu b.toNatClampNeg) * (gd a.toNatClampNeg))) ((gd a.toNatClampNeg) * (gd b.toNatClampNeg))).2.2.2.1, (f_mo_keep mv gu gd (((gu a.toNatClampNeg) * (gd b.toNatClampNeg)) + ((gu b.toNatClampNeg) * (gd a.toNatClampNeg))) ((gd a.toNatClampNeg) * (gd b.toNatClampNeg))).2.2.2.2.1, (f_mo_keep mv gu gd (((gu a.toNatClampNeg) * (gd b.toNatClampNeg)) + ((gu b.toNatClampNeg) * (gd a.toNatClampNeg))) ((gd a.toNatClampNeg) * (gd b.toNatClampNeg))).2.2.2.2.2), rfl, by unfold f_mo_add; rw [if_neg c_2, if_neg c_4], by rw [ht]; exact hP, va_K.moved hW.alike hK, hD⟩, hS.F ht⟩) hS.2.2 d_mo_add_69
    · refine lv_iconst (v := (-1)) hx hb d_mo_add_21 (by decide) ?_
      refine lv_goto (tgt := 69) hx hb d_mo_add_22 (by decide) ?_
      exact W.iret (v := (-1)) hx hb hr (fun t ht hW => ⟨⟨(-1), (0, gu, gd, mv, up, dn), rfl, by unfold f_mo_add; rw [if_neg c_2, if_pos c_4], by rw [ht]; exact hP, va_K.moved hW.alike hK, hD⟩, hS.F ht⟩) hS.2.2 d_mo_add_69
def f_mo_less (mv : Int32) (up : Int64) (dn : Int64) (gu : Nat → Int64) (gd : Nat → Int64) (a : Int32) (b : Int32) : Int32 × Int32 × (Nat → Int64) × (Nat → Int64) × Int32 × Int64 × Int64 :=
  if (f_mo_isValue mv a) = 0 then ((-1), 0, gu, gd, mv, up, dn) else if (f_mo_isValue mv b) = 0 then ((-1), 0, gu, gd, mv, up, dn) else ((f_mo_keep mv gu gd (((gu a.toNatClampNeg) * (gd b.toNatClampNeg)) - ((gu b.toNatClampNeg) * (gd a.toNatClampNeg))) ((gd a.toNatClampNeg) * (gd b.toNatClampNeg))).1, 0, (f_mo_keep mv gu gd (((gu a.toNatClampNeg) * (gd b.toNatClampNeg)) - ((gu b.toNatClampNeg) * (gd a.toNatClampNeg))) ((gd a.toNatClampNeg) * (gd b.toNatClampNeg))).2.1, (f_mo_keep mv gu gd (((gu a.toNatClampNeg) * (gd b.toNatClampNeg)) - ((gu b.toNatClampNeg) * (gd a.toNatClampNeg))) ((gd a.toNatClampNeg) * (gd b.toNatClampNeg))).2.2.1, (f_mo_keep mv gu gd (((gu a.toNatClampNeg) * (gd b.toNatClampNeg)) - ((gu b.toNatClampNeg) * (gd a.toNatClampNeg))) ((gd a.toNatClampNeg) * (gd b.toNatClampNeg))).2.2.2.1, (f_mo_keep mv gu gd (((gu a.toNatClampNeg) * (gd b.toNatClampNeg)) - ((gu b.toNatClampNeg) * (gd a.toNatClampNeg))) ((gd a.toNatClampNeg) * (gd b.toNatClampNeg))).2.2.2.2.1, (f_mo_keep mv gu gd (((gu a.toNatClampNeg) * (gd b.toNatClampNeg)) - ((gu b.toNatClampNeg) * (gd a.toNatClampNeg))) ((gd a.toNatClampNeg) * (gd b.toNatClampNeg))).2.2.2.2.2)
set_option maxHeartbeats 4000000 in
set_option maxRecDepth 100000 in
theorem c_mo_less (l : Launch) (dC : Nat → ClassId) (dI : Nat → Nat → Nat) (sz : Nat) (m0 : Nat) (mu : Nat) (md : Nat) (th : Int32) (mk : Int32) (mv : Int32) (up : Int64) (dn : Int64) (mr : Int32) (mc : Nat) (me : Nat) (so : Int32) (mau : Nat) (mad : Nat) (mw : Int32) (mwg : Nat) (mgv : Nat) (msq : Nat) (cmu : ClassId) (gu : Nat → Int64) (cmd : ClassId) (gd : Nat → Int64) (a : Int32) (b : Int32) (hv : vp_in mv 301) (hz : ¬ f_mo_isValue mv a = 0 → ¬ f_mo_isValue mv b = 0 → ¬ (gd a.toNatClampNeg * gd b.toNatClampNeg) = 0) : Met l y_mo_less w_mo_less ({ frames := 3, cells := 0, slots := 0, locals := 75 }) (va_Pc [.ref m0, .int a, .int b] (fun U => U.heap.size = sz ∧ va_P (dC, dI) classes [(m0, .inr (4, [.int th, .int mk, .int mv, .ref mu, .ref md, .long up, .long dn, .int mr, .ref mc, .ref me, .int so, .ref mau, .ref mad, .int mw, .ref mwg, .ref mgv, .ref msq])), (mu, .inl (cmu, 300, .inr (.inl gu))), (md, .inl (cmd, 300, .inr (.inl gd)))] U.heap ∧ va_K (dC, dI) classes [(cmu, .long), (cmd, .long)] U ∧ va_D (fun _ => True) [(m0, .inr (4, [.int th, .int mk, .int mv, .ref mu, .ref md, .long up, .long dn, .int mr, .ref mc, .ref me, .int so, .ref mau, .ref mad, .int mw, .ref mwg, .ref mgv, .ref msq])), (mu, .inl (cmu, 300, .inr (.inl gu))), (md, .inl (cmd, 300, .inr (.inl gd)))])) (va_Qi (fun z9 u9 => (z9, u9) = f_mo_less mv up dn gu gd a b) (fun (u : Int32 × (Nat → Int64) × (Nat → Int64) × Int32 × Int64 × Int64) t => match u with | (th', gu', gd', mv', up', dn') => va_P (dC, dI) classes [(m0, .inr (4, [.int th', .int mk, .int mv', .ref mu, .ref md, .long up', .long dn', .int mr, .ref mc, .ref me, .int so, .ref mau, .ref mad, .int mw, .ref mwg, .ref mgv, .ref msq])), (mu, .inl (cmu, 300, .inr (.inl gu'))), (md, .inl (cmd, 300, .inr (.inl gd')))] t.heap ∧ va_K (dC, dI) classes [(cmu, .long), (cmd, .long)] t ∧ va_D (va_A [(m0, .inr (4, [.int th, .int mk, .int mv, .ref mu, .ref md, .long up, .long dn, .int mr, .ref mc, .ref me, .int so, .ref mau, .ref mad, .int mw, .ref mwg, .ref mgv, .ref msq])), (mu, .inl (cmu, 300, .inr (.inl gu))), (md, .inl (cmd, 300, .inr (.inl gd)))] sz) [(m0, .inr (4, [.int th', .int mk, .int mv', .ref mu, .ref md, .long up', .long dn', .int mr, .ref mc, .ref me, .int so, .ref mau, .ref mad, .int mw, .ref mwg, .ref mgv, .ref msq])), (mu, .inl (cmu, 300, .inr (.inl gu'))), (md, .inl (cmd, 300, .inr (.inl gd')))]) (va_A [(m0, .inr (4, [.int th, .int mk, .int mv, .ref mu, .ref md, .long up, .long dn, .int mr, .ref mc, .ref me, .int so, .ref mau, .ref mad, .int mw, .ref mwg, .ref mgv, .ref msq])), (mu, .inl (cmu, 300, .inr (.inl gu))), (md, .inl (cmd, 300, .inr (.inl gd)))] sz)) 0 0 (va_A [(m0, .inr (4, [.int th, .int mk, .int mv, .ref mu, .ref md, .long up, .long dn, .int mr, .ref mc, .ref me, .int so, .ref mau, .ref mad, .int mw, .ref mwg, .ref mgv, .ref msq])), (mu, .inl (cmu, 300, .inr (.inl gu))), (md, .inl (cmd, 300, .inr (.inl gd)))] sz) := by
  refine Met.ofW (cc := b_mo_less) (maxL := 3) (ret := (some .int)) (by decide +kernel) rfl ?_
  intro p e s m args below meth c s₁ B hml hv
  obtain ⟨rfl, hsz, hP, hK, hD0⟩ := hv
  have hx := B.exec
  have hb := B.bytes
  have hr := B.returns
  have hts := atoms_spec (ws := w_mo_less) B.pre
  have hT := fun (w : Cond) (h : w ∈ kt_T) => hts w (List.mem_cons_of_mem _ h)
  have hown : s.vm.findClass R_mo = some m.cls := findClass_of_methodNamed B.named
  have hlocks := B.notSynchronized
  subst hsz
  have hD := hD0.self (sz := s.heap.size)
  generalize hAe : va_A [(m0, .inr (4, [.int th, .int mk, .int mv, .ref mu, .ref md, .long up, .long dn, .int mr, .ref mc, .ref me, .int so, .ref mau, .ref mad, .int mw, .ref mwg, .ref mgv, .ref msq])), (mu, .inl (cmu, 300, .inr (.inl gu))), (md, .inl (cmd, 300, .inr (.inl gd)))] s.heap.size = A at hD ⊢
  have hA : ∀ q : Nat, s.heap.size ≤ q → A q := fun q h => by rw [← hAe]; exact Or.inr h
  have hS : va_S A s.heap s.heap [] := va_S.rf
  have hl := lv_entry ([.ref m0, .int a, .int b]) (n := 3) (Nat.le_of_ble_eq_true rfl)
  rw [lg_entry_eq]
  generalize (lg_sl ([.ref m0, .int a, .int b]) ++ List.replicate (3 - (lg_sl ([.ref m0, .int a, .int b])).length) Slot.unset).toArray = ls at hl ⊢
  have hl : lv_has ls 3 [(0, .ref m0), (1, .int a), (2, .int b)] := hl
  refine lv_aload_n hx hb d_mo_less_0 rfl (lv_at hl 0 rfl) ?_
  refine lv_iconst (v := 0) hx hb d_mo_less_1 (by decide) ?_
  refine va_put (D := (dC, dI)) (ci := 4) (v := .int 0) (ty := .int) (C := R_mo) (T := F_mo) (N := 17) hx hb hT i_mo t_mo t_mo_ok n_mo hown hK hP hD hS 0 rfl rfl 0 (by decide) (hT _ k_127) (fun _ h9 => h9) rfl (by decide +kernel) rfl rfl (Nat.le_of_ble_eq_true rfl) d_mo_less_2 (fun H locs hP hD hS => ?_)
  have hP : va_P (dC, dI) classes [(m0, .inr (4, [.int 0, .int mk, .int mv, .ref mu, .ref md, .long up, .long dn, .int mr, .ref mc, .ref me, .int so, .ref mau, .ref mad, .int mw, .ref mwg, .ref mgv, .ref msq])), (mu, .inl (cmu, 300, .inr (.inl gu))), (md, .inl (cmd, 300, .inr (.inl gd)))] H := hP
  have hD : va_D A [(m0, .inr (4, [.int 0, .int mk, .int mv, .ref mu, .ref md, .long up, .long dn, .int mr, .ref mc, .ref me, .int so, .ref mau, .ref mad, .int mw, .ref mwg, .ref mgv, .ref msq])), (mu, .inl (cmu, 300, .inr (.inl gu))), (md, .inl (cmd, 300, .inr (.inl gd)))] := hD
  refine lv_aload_n hx hb d_mo_less_5 rfl (lv_at hl 0 rfl) ?_
  refine lv_iload_n hx hb d_mo_less_6 rfl (lv_at hl 1 rfl) ?_
  have hPc := hP.sub (ws' := [(m0, .inr (4, [.int 0, .int mk, .int mv, .ref mu, .ref md, .long up, .long dn, .int mr, .ref mc, .ref me, .int so, .ref mau, .ref mad, .int mw, .ref mwg, .ref mgv, .ref msq]))]) [0] rfl
  have hKc := hK.sub (tys' := []) [] rfl
  refine vp_callSi (W.runV (As := [.int a]) (rest := []) ⟨hx, hb, hml, hown, hT⟩ (c_mo_isValue l dC dI m0 0 mk mv mu md up dn mr mc me so mau mad mw mwg mgv msq a) (cwV 1 hT (kt_V k_152 k_150 k_151 k_136 k_149) rfl rfl rfl (by decide +kernel) ⟨Nat.le_of_ble_eq_true rfl, Nat.le_of_ble_eq_true rfl⟩) ⟨bl_R, va_recv hKc hPc (ci := 4) (q0 := 0) rfl rfl, fun U hU hW => ⟨rfl, by rw [hU]; exact hPc, va_K.moved hW.alike hKc⟩⟩ rfl rfl hl.1 rfl (lv_room (Nat.le_of_ble_eq_true rfl)) d_mo_less_7 ⟨Nat.zero_le _, Nat.zero_le _⟩) (fun r_1 e_r_1 => ?_)
  subst e_r_1
  refine lv_if_eq (tgt := 21) hx hb d_mo_less_10 (by decide) (fun c_2 => ?_) (fun c_2 => ?_)
  · refine lv_iconst (v := (-1)) hx hb d_mo_less_21 (by decide) ?_
    refine lv_goto (tgt := 69) hx hb d_mo_less_22 (by decide) ?_
    exact W.iret (v := (-1)) hx hb hr (fun t ht hW => ⟨⟨(-1), (0, gu, gd, mv, up, dn), rfl, by unfold f_mo_less; rw [if_pos c_2], by rw [ht]; exact hP, va_K.moved hW.alike hK, hD⟩, hS.F ht⟩) hS.2.2 d_mo_less_69
  · refine lv_aload_n hx hb d_mo_less_13 rfl (lv_at hl 0 rfl) ?_
    refine lv_iload_n hx hb d_mo_less_14 rfl (lv_at hl 2 rfl) ?_
    have hPc := hP.sub (ws' := [(m0, .inr (4, [.int 0, .int mk, .int mv, .ref mu, .ref md, .long up, .long dn, .int mr, .ref mc, .ref me, .int so, .ref mau, .ref mad, .int mw, .ref mwg, .ref mgv, .ref msq]))]) [0] rfl
    have hKc := hK.sub (tys' := []) [] rfl
    refine vp_callSi (W.runV (As := [.int b]) (rest := []) ⟨hx, hb, hml, hown, hT⟩ (c_mo_isValue l dC dI m0 0 mk mv mu md up dn mr mc me so mau mad mw mwg mgv msq b) (cwV 1 hT (kt_V k_152 k_150 k_151 k_136 k_149) rfl rfl rfl (by decide +kernel) ⟨Nat.le_of_ble_eq_true rfl, Nat.le_of_ble_eq_true rfl⟩) ⟨bl_R, va_recv hKc hPc (ci := 4) (q0 := 0) rfl rfl, fun U hU hW => ⟨rfl, by rw [hU]; exact hPc, va_K.moved hW.alike hKc⟩⟩ rfl rfl hl.1 rfl (lv_room (Nat.le_of_ble_eq_true rfl)) d_mo_less_15 ⟨Nat.zero_le _, Nat.zero_le _⟩) (fun r_3 e_r_3 => ?_)
    subst e_r_3
    refine lv_if_ne (tgt := 25) hx hb d_mo_less_18 (by decide) (fun c_4 => ?_) (fun c_4 => ?_)
    · refine lv_aload_n hx hb d_mo_less_25 rfl (lv_at hl 0 rfl) ?_
      refine lv_aload_n hx hb d_mo_less_26 rfl (lv_at hl 0 rfl) ?_
      refine va_get (D := (dC, dI)) (ci := 4) (v := .ref mu) (C := R_mo) (T := F_mo) (N := 17) hx hb hT i_mo hown hK hP 0 rfl rfl 3 (by decide) (hT _ k_143) (fun _ h9 => h9) rfl d_mo_less_27 ?_
      refine lv_iload_n hx hb d_mo_less_30 rfl (lv_at hl 1 rfl) ?_
      refine va_lald hx hb hK hP 1 0 rfl rfl (in_iv hv c_2) d_mo_less_31 ?_
      refine lv_aload_n hx hb d_mo_less_32 rfl (lv_at hl 0 rfl) ?_
      refine va_get (D := (dC, dI)) (ci := 4) (v := .ref md) (C := R_mo) (T := F_mo) (N := 17) hx hb hT i_mo hown hK hP 0 rfl rfl 4 (by decide) (hT _ k_144) (fun _ h9 => h9) rfl d_mo_less_33 ?_
      refine lv_iload_n hx hb d_mo_less_36 rfl (lv_at hl 2 rfl) ?_
      refine va_lald hx hb hK hP 2 1 rfl rfl (in_iv hv c_4) d_mo_less_37 ?_
      refine lv_lmul hx hb d_mo_less_38 ?_
      refine lv_aload_n hx hb d_mo_less_39 rfl (lv_at hl 0 rfl) ?_
      refine va_get (D := (dC, dI)) (ci := 4) (v := .ref mu) (C := R_mo) (T := F_mo) (N := 17) hx hb hT i_mo hown hK hP 0 rfl rfl 3 (by decide) (hT _ k_143) (fun _ h9 => h9) rfl d_mo_less_40 ?_
      refine lv_iload_n hx hb d_mo_less_43 rfl (lv_at hl 2 rfl) ?_
      refine va_lald hx hb hK hP 1 0 rfl rfl (in_iv hv c_4) d_mo_less_44 ?_
      refine lv_aload_n hx hb d_mo_less_45 rfl (lv_at hl 0 rfl) ?_
      refine va_get (D := (dC, dI)) (ci := 4) (v := .ref md) (C := R_mo) (T := F_mo) (N := 17) hx hb hT i_mo hown hK hP 0 rfl rfl 4 (by decide) (hT _ k_144) (fun _ h9 => h9) rfl d_mo_less_46 ?_
      refine lv_iload_n hx hb d_mo_less_49 rfl (lv_at hl 1 rfl) ?_
      refine va_lald hx hb hK hP 2 1 rfl rfl (in_iv hv c_2) d_mo_less_50 ?_
      refine lv_lmul hx hb d_mo_less_51 ?_
      refine lv_lsub hx hb d_mo_less_52 ?_
      refine lv_aload_n hx hb d_mo_less_53 rfl (lv_at hl 0 rfl) ?_
      refine va_get (D := (dC, dI)) (ci := 4) (v := .ref md) (C := R_mo) (T := F_mo) (N := 17) hx hb hT i_mo hown hK hP 0 rfl rfl 4 (by decide) (hT _ k_144) (fun _ h9 => h9) rfl d_mo_less_54 ?_
      refine lv_iload_n hx hb d_mo_less_57 rfl (lv_at hl 1 rfl) ?_
      refine va_lald hx hb hK hP 2 1 rfl rfl (in_iv hv c_2) d_mo_less_58 ?_
      refine lv_aload_n hx hb d_mo_less_59 rfl (lv_at hl 0 rfl) ?_
      refine va_get (D := (dC, dI)) (ci := 4) (v := .ref md) (C := R_mo) (T := F_mo) (N := 17) hx hb hT i_mo hown hK hP 0 rfl rfl 4 (by decide) (hT _ k_144) (fun _ h9 => h9) rfl d_mo_less_60 ?_
      refine lv_iload_n hx hb d_mo_less_63 rfl (lv_at hl 2 rfl) ?_
      refine va_lald hx hb hK hP 2 1 rfl rfl (in_iv hv c_4) d_mo_less_64 ?_
      refine lv_lmul hx hb d_mo_less_65 ?_
      have hPc := hP.sub (ws' := [(m0, .inr (4, [.int 0, .int mk, .int mv, .ref mu, .ref md, .long up, .long dn, .int mr, .ref mc, .ref me, .int so, .ref mau, .ref mad, .int mw, .ref mwg, .ref mgv, .ref msq])), (mu, .inl (cmu, 300, .inr (.inl gu))), (md, .inl (cmd, 300, .inr (.inl gd)))]) [0, 1, 2] rfl
      have hKc := hK.sub (tys' := [(cmu, .long), (cmd, .long)]) [0, 1] rfl
      have hDc := hD.sub (ws' := [(m0, .inr (4, [.int 0, .int mk, .int mv, .ref mu, .ref md, .long up, .long dn, .int mr, .ref mc, .ref me, .int so, .ref mau, .ref mad, .int mw, .ref mwg, .ref mgv, .ref msq])), (mu, .inl (cmu, 300, .inr (.inl gu))), (md, .inl (cmd, 300, .inr (.inl gd)))]) [0, 1, 2] (by decide) rfl
      have hFc := va_free (wc := [(m0, .inr (4, [.int 0, .int mk, .int mv, .ref mu, .ref md, .long up, .long dn, .int mr, .ref mc, .ref me, .int so, .ref mau, .ref mad, .int mw, .ref mwg, .ref mgv, .ref msq])), (mu, .inl (cmu, 300, .inr (.inl gu))), (md, .inl (cmd, 300, .inr (.inl gd)))]) hD hS hA [0, 1, 2] rfl
      refine va_calli (va_runV (As := [.long (((gu a.toNatClampNeg) * (gd b.toNatClampNeg)) - ((gu b.toNatClampNeg) * (gd a.toNatClampNeg))), .long ((gd a.toNatClampNeg) * (gd b.toNatClampNeg))]) (rest := []) ⟨hx, hb, hml, hown, hT⟩ (c_mo_keep l dC dI H.size m0 mu md 0 mk mv up dn mr mc me so mau mad mw mwg mgv msq cmu gu cmd gd (((gu a.toNatClampNeg) * (gd b.toNatClampNeg)) - ((gu b.toNatClampNeg) * (gd a.toNatClampNeg))) ((gd a.toNatClampNeg) * (gd b.toNatClampNeg)) (euc_all _ _) (hz c_2 c_4) hv) (cwV 2 hT (kt_V k_148 k_146 k_147 k_136 k_145) rfl rfl rfl (by decide +kernel) ⟨Nat.le_of_ble_eq_true rfl, Nat.le_of_ble_eq_true rfl⟩) ⟨bl_M, va_recv hKc hPc (ci := 4) (q0 := 0) rfl rfl, fun U hU hW => ⟨rfl, by rw [hU], by rw [hU]; exact hPc, va_K.moved hW.alike hKc, hDc.weaken (fun _ _ _ _ => trivial)⟩⟩ rfl rfl hl.1 rfl (lv_room (Nat.le_of_ble_eq_true rfl)) d_mo_less_66 ⟨Nat.zero_le _, Nat.zero_le _⟩) hS (fun q _ h => hFc q h) hFc (fun r_5 u t H1 locs ht hvm hw hB hz1 hk1 hS => ?_)
      obtain ⟨gu_5, gd_5, mv_5, up_5, dn_5⟩ := u
      obtain ⟨hP1, hK1, hD1⟩ := hB
      rw [ht] at hP1
      obtain ⟨hP, hD⟩ := va_join (wr := []) (w1 := [(m0, .inr (4, [.int 0, .int mk, .int mv_5, .ref mu, .ref md, .long up_5, .long dn_5, .int mr, .ref mc, .ref me, .int so, .ref mau, .ref mad, .int mw, .ref mwg, .ref mgv, .ref msq])), (mu, .inl (cmu, 300, .inr (.inl gu_5))), (md, .inl (cmd, 300, .inr (.inl gd_5)))]) hP hD [0, 1, 2] [] rfl rfl (by decide) (by decide) hk1 hFc hP1 hD1
      generalize H1 = H at hP hS ⊢
      have hP := hP.sub (ws' := [(m0, .inr (4, [.int 0, .int mk, .int mv_5, .ref mu, .ref md, .long up_5, .long dn_5, .int mr, .ref mc, .ref me, .int so, .ref mau, .ref mad, .int mw, .ref mwg, .ref mgv, .ref msq])), (mu, .inl (cmu, 300, .inr (.inl gu_5))), (md, .inl (cmd, 300, .inr (.inl gd_5)))]) [0, 1, 2] rfl
      have hD := hD.sub (ws' := [(m0, .inr (4, [.int 0, .int mk, .int mv_5, .ref mu, .ref md, .long up_5, .long dn_5, .int mr, .ref mc, .ref me, .int so, .ref mau, .ref mad, .int mw, .ref mwg, .ref mgv, .ref msq])), (mu, .inl (cmu, 300, .inr (.inl gu_5))), (md, .inl (cmd, 300, .inr (.inl gd_5)))]) [0, 1, 2] (by decide) rfl
      have e_r_5 : r_5 = (f_mo_keep mv gu gd (((gu a.toNatClampNeg) * (gd b.toNatClampNeg)) - ((gu b.toNatClampNeg) * (gd a.toNatClampNeg))) ((gd a.toNatClampNeg) * (gd b.toNatClampNeg))).1 := congrArg (fun z => z.1) hw
      have e_gu_5 : gu_5 = (f_mo_keep mv gu gd (((gu a.toNatClampNeg) * (gd b.toNatClampNeg)) - ((gu b.toNatClampNeg) * (gd a.toNatClampNeg))) ((gd a.toNatClampNeg) * (gd b.toNatClampNeg))).2.1 := congrArg (fun z => z.2.1) hw
      have e_gd_5 : gd_5 = (f_mo_keep mv gu gd (((gu a.toNatClampNeg) * (gd b.toNatClampNeg)) - ((gu b.toNatClampNeg) * (gd a.toNatClampNeg))) ((gd a.toNatClampNeg) * (gd b.toNatClampNeg))).2.2.1 := congrArg (fun z => z.2.2.1) hw
      have e_mv_5 : mv_5 = (f_mo_keep mv gu gd (((gu a.toNatClampNeg) * (gd b.toNatClampNeg)) - ((gu b.toNatClampNeg) * (gd a.toNatClampNeg))) ((gd a.toNatClampNeg) * (gd b.toNatClampNeg))).2.2.2.1 := congrArg (fun z => z.2.2.2.1) hw
      have e_up_5 : up_5 = (f_mo_keep mv gu gd (((gu a.toNatClampNeg) * (gd b.toNatClampNeg)) - ((gu b.toNatClampNeg) * (gd a.toNatClampNeg))) ((gd a.toNatClampNeg) * (gd b.toNatClampNeg))).2.2.2.2.1 := congrArg (fun z => z.2.2.2.2.1) hw
      have e_dn_5 : dn_5 = (f_mo_keep mv gu gd (((gu a.toNatClampNeg) * (gd b.toNatClampNeg)) - ((gu b.toNatClampNeg) * (gd a.toNatClampNeg))) ((gd a.toNatClampNeg) * (gd b.toNatClampNeg))).2.2.2.2.2 := congrArg (fun z => z.2.2.2.2.2) hw
      subst e_r_5 e_gu_5 e_gd_5 e_mv_5 e_up_5 e_dn_5
      clear hP1 hK1 hD1 hk1 hz1 hFc hDc hPc hKc
      exact W.iret (v := (f_mo_keep mv gu gd (((gu a.toNatClampNeg) * (gd b.toNatClampNeg)) - ((gu b.toNatClampNeg) * (gd a.toNatClampNeg))) ((gd a.toNatClampNeg) * (gd b.toNatClampNeg))).1) hx hb hr (fun t ht hW => ⟨⟨(f_mo_keep mv gu gd (((gu a.toNatClampNeg) * (gd b.toNatClampNeg)) - ((gu b.toNatClampNeg) * (gd a.toNatClampNeg))) ((gd a.toNatClampNeg) * (gd b.toNatClampNeg))).1, (0, (f_mo_keep mv gu gd (((gu a.toNatClampNeg) * (gd b.toNatClampNeg)) - ((gu b.toNatClampNeg) * (gd a.toNatClampNeg))) ((gd a.toNatClampNeg) * (gd b.toNatClampNeg))).2.1, (f_mo_keep mv gu gd (((gu a.toNatClampNeg) * (gd b.toNatClampNeg)) - ((gu b.toNatClampNeg) * (gd a.toNatClampNeg))) ((gd a.toNatClampNeg) * (gd b.toNatClampNeg))).2.2.1, (f_mo_keep mv gu gd (((gu a.toNatClampNeg) * (gd b.toNatClampNeg)) - ((gu b.toNatClampNeg) * (gd a.toNatClampNeg))) ((gd a.toNatClampNeg) * (gd b.toNatClampNeg))).2.2.2.1, (f_mo_keep mv gu gd (((gu a.toNatClampNeg) * (gd b.toNatClampNeg)) - ((gu b.toNatClampNeg) * (gd a.toNatClampNeg))) ((gd a.toNatClampNeg) * (gd b.toNatClampNeg))).2.2.2.2.1, (f_mo_keep mv gu gd (((gu a.toNatClampNeg) * (gd b.toNatClampNeg)) - ((gu b.toNatClampNeg) * (gd a.toNatClampNeg))) ((gd a.toNatClampNeg) * (gd b.toNatClampNeg))).2.2.2.2.2), rfl, by unfold f_mo_less; rw [if_neg c_2, if_neg c_4], by rw [ht]; exact hP, va_K.moved hW.alike hK, hD⟩, hS.F ht⟩) hS.2.2 d_mo_less_69
    · refine lv_iconst (v := (-1)) hx hb d_mo_less_21 (by decide) ?_
      refine lv_goto (tgt := 69) hx hb d_mo_less_22 (by decide) ?_
      exact W.iret (v := (-1)) hx hb hr (fun t ht hW => ⟨⟨(-1), (0, gu, gd, mv, up, dn), rfl, by unfold f_mo_less; rw [if_neg c_2, if_pos c_4], by rw [ht]; exact hP, va_K.moved hW.alike hK, hD⟩, hS.F ht⟩) hS.2.2 d_mo_less_69
def f_mo_times (mv : Int32) (up : Int64) (dn : Int64) (gu : Nat → Int64) (gd : Nat → Int64) (a : Int32) (b : Int32) : Int32 × Int32 × (Nat → Int64) × (Nat → Int64) × Int32 × Int64 × Int64 :=
  if (f_mo_isValue mv a) = 0 then ((-1), 0, gu, gd, mv, up, dn) else if (f_mo_isValue mv b) = 0 then ((-1), 0, gu, gd, mv, up, dn) else ((f_mo_keep mv gu gd ((gu a.toNatClampNeg) * (gu b.toNatClampNeg)) ((gd a.toNatClampNeg) * (gd b.toNatClampNeg))).1, 0, (f_mo_keep mv gu gd ((gu a.toNatClampNeg) * (gu b.toNatClampNeg)) ((gd a.toNatClampNeg) * (gd b.toNatClampNeg))).2.1, (f_mo_keep mv gu gd ((gu a.toNatClampNeg) * (gu b.toNatClampNeg)) ((gd a.toNatClampNeg) * (gd b.toNatClampNeg))).2.2.1, (f_mo_keep mv gu gd ((gu a.toNatClampNeg) * (gu b.toNatClampNeg)) ((gd a.toNatClampNeg) * (gd b.toNatClampNeg))).2.2.2.1, (f_mo_keep mv gu gd ((gu a.toNatClampNeg) * (gu b.toNatClampNeg)) ((gd a.toNatClampNeg) * (gd b.toNatClampNeg))).2.2.2.2.1, (f_mo_keep mv gu gd ((gu a.toNatClampNeg) * (gu b.toNatClampNeg)) ((gd a.toNatClampNeg) * (gd b.toNatClampNeg))).2.2.2.2.2)
set_option maxHeartbeats 4000000 in
set_option maxRecDepth 100000 in
theorem c_mo_times (l : Launch) (dC : Nat → ClassId) (dI : Nat → Nat → Nat) (sz : Nat) (m0 : Nat) (mu : Nat) (md : Nat) (th : Int32) (mk : Int32) (mv : Int32) (up : Int64) (dn : Int64) (mr : Int32) (mc : Nat) (me : Nat) (so : Int32) (mau : Nat) (mad : Nat) (mw : Int32) (mwg : Nat) (mgv : Nat) (msq : Nat) (cmu : ClassId) (gu : Nat → Int64) (cmd : ClassId) (gd : Nat → Int64) (a : Int32) (b : Int32) (hv : vp_in mv 301) (hz : ¬ f_mo_isValue mv a = 0 → ¬ f_mo_isValue mv b = 0 → ¬ (gd a.toNatClampNeg * gd b.toNatClampNeg) = 0) : Met l y_mo_times w_mo_times ({ frames := 3, cells := 0, slots := 0, locals := 75 }) (va_Pc [.ref m0, .int a, .int b] (fun U => U.heap.size = sz ∧ va_P (dC, dI) classes [(m0, .inr (4, [.int th, .int mk, .int mv, .ref mu, .ref md, .long up, .long dn, .int mr, .ref mc, .ref me, .int so, .ref mau, .ref mad, .int mw, .ref mwg, .ref mgv, .ref msq])), (mu, .inl (cmu, 300, .inr (.inl gu))), (md, .inl (cmd, 300, .inr (.inl gd)))] U.heap ∧ va_K (dC, dI) classes [(cmu, .long), (cmd, .long)] U ∧ va_D (fun _ => True) [(m0, .inr (4, [.int th, .int mk, .int mv, .ref mu, .ref md, .long up, .long dn, .int mr, .ref mc, .ref me, .int so, .ref mau, .ref mad, .int mw, .ref mwg, .ref mgv, .ref msq])), (mu, .inl (cmu, 300, .inr (.inl gu))), (md, .inl (cmd, 300, .inr (.inl gd)))])) (va_Qi (fun z9 u9 => (z9, u9) = f_mo_times mv up dn gu gd a b) (fun (u : Int32 × (Nat → Int64) × (Nat → Int64) × Int32 × Int64 × Int64) t => match u with | (th', gu', gd', mv', up', dn') => va_P (dC, dI) classes [(m0, .inr (4, [.int th', .int mk, .int mv', .ref mu, .ref md, .long up', .long dn', .int mr, .ref mc, .ref me, .int so, .ref mau, .ref mad, .int mw, .ref mwg, .ref mgv, .ref msq])), (mu, .inl (cmu, 300, .inr (.inl gu'))), (md, .inl (cmd, 300, .inr (.inl gd')))] t.heap ∧ va_K (dC, dI) classes [(cmu, .long), (cmd, .long)] t ∧ va_D (va_A [(m0, .inr (4, [.int th, .int mk, .int mv, .ref mu, .ref md, .long up, .long dn, .int mr, .ref mc, .ref me, .int so, .ref mau, .ref mad, .int mw, .ref mwg, .ref mgv, .ref msq])), (mu, .inl (cmu, 300, .inr (.inl gu))), (md, .inl (cmd, 300, .inr (.inl gd)))] sz) [(m0, .inr (4, [.int th', .int mk, .int mv', .ref mu, .ref md, .long up', .long dn', .int mr, .ref mc, .ref me, .int so, .ref mau, .ref mad, .int mw, .ref mwg, .ref mgv, .ref msq])), (mu, .inl (cmu, 300, .inr (.inl gu'))), (md, .inl (cmd, 300, .inr (.inl gd')))]) (va_A [(m0, .inr (4, [.int th, .int mk, .int mv, .ref mu, .ref md, .long up, .long dn, .int mr, .ref mc, .ref me, .int so, .ref mau, .ref mad, .int mw, .ref mwg, .ref mgv, .ref msq])), (mu, .inl (cmu, 300, .inr (.inl gu))), (md, .inl (cmd, 300, .inr (.inl gd)))] sz)) 0 0 (va_A [(m0, .inr (4, [.int th, .int mk, .int mv, .ref mu, .ref md, .long up, .long dn, .int mr, .ref mc, .ref me, .int so, .ref mau, .ref mad, .int mw, .ref mwg, .ref mgv, .ref msq])), (mu, .inl (cmu, 300, .inr (.inl gu))), (md, .inl (cmd, 300, .inr (.inl gd)))] sz) := by
  refine Met.ofW (cc := b_mo_times) (maxL := 3) (ret := (some .int)) (by decide +kernel) rfl ?_
  intro p e s m args below meth c s₁ B hml hv
  obtain ⟨rfl, hsz, hP, hK, hD0⟩ := hv
  have hx := B.exec
  have hb := B.bytes
  have hr := B.returns
  have hts := atoms_spec (ws := w_mo_times) B.pre
  have hT := fun (w : Cond) (h : w ∈ kt_T) => hts w (List.mem_cons_of_mem _ h)
  have hown : s.vm.findClass R_mo = some m.cls := findClass_of_methodNamed B.named
  have hlocks := B.notSynchronized
  subst hsz
  have hD := hD0.self (sz := s.heap.size)
  generalize hAe : va_A [(m0, .inr (4, [.int th, .int mk, .int mv, .ref mu, .ref md, .long up, .long dn, .int mr, .ref mc, .ref me, .int so, .ref mau, .ref mad, .int mw, .ref mwg, .ref mgv, .ref msq])), (mu, .inl (cmu, 300, .inr (.inl gu))), (md, .inl (cmd, 300, .inr (.inl gd)))] s.heap.size = A at hD ⊢
  have hA : ∀ q : Nat, s.heap.size ≤ q → A q := fun q h => by rw [← hAe]; exact Or.inr h
  have hS : va_S A s.heap s.heap [] := va_S.rf
  have hl := lv_entry ([.ref m0, .int a, .int b]) (n := 3) (Nat.le_of_ble_eq_true rfl)
  rw [lg_entry_eq]
  generalize (lg_sl ([.ref m0, .int a, .int b]) ++ List.replicate (3 - (lg_sl ([.ref m0, .int a, .int b])).length) Slot.unset).toArray = ls at hl ⊢
  have hl : lv_has ls 3 [(0, .ref m0), (1, .int a), (2, .int b)] := hl
  refine lv_aload_n hx hb d_mo_times_0 rfl (lv_at hl 0 rfl) ?_
  refine lv_iconst (v := 0) hx hb d_mo_times_1 (by decide) ?_
  refine va_put (D := (dC, dI)) (ci := 4) (v := .int 0) (ty := .int) (C := R_mo) (T := F_mo) (N := 17) hx hb hT i_mo t_mo t_mo_ok n_mo hown hK hP hD hS 0 rfl rfl 0 (by decide) (hT _ k_127) (fun _ h9 => h9) rfl (by decide +kernel) rfl rfl (Nat.le_of_ble_eq_true rfl) d_mo_times_2 (fun H locs hP hD hS => ?_)
  have hP : va_P (dC, dI) classes [(m0, .inr (4, [.int 0, .int mk, .int mv, .ref mu, .ref md, .long up, .long dn, .int mr, .ref mc, .ref me, .int so, .ref mau, .ref mad, .int mw, .ref mwg, .ref mgv, .ref msq])), (mu, .inl (cmu, 300, .inr (.inl gu))), (md, .inl (cmd, 300, .inr (.inl gd)))] H := hP
  have hD : va_D A [(m0, .inr (4, [.int 0, .int mk, .int mv, .ref mu, .ref md, .long up, .long dn, .int mr, .ref mc, .ref me, .int so, .ref mau, .ref mad, .int mw, .ref mwg, .ref mgv, .ref msq])), (mu, .inl (cmu, 300, .inr (.inl gu))), (md, .inl (cmd, 300, .inr (.inl gd)))] := hD
  refine lv_aload_n hx hb d_mo_times_5 rfl (lv_at hl 0 rfl) ?_
  refine lv_iload_n hx hb d_mo_times_6 rfl (lv_at hl 1 rfl) ?_
  have hPc := hP.sub (ws' := [(m0, .inr (4, [.int 0, .int mk, .int mv, .ref mu, .ref md, .long up, .long dn, .int mr, .ref mc, .ref me, .int so, .ref mau, .ref mad, .int mw, .ref mwg, .ref mgv, .ref msq]))]) [0] rfl
  have hKc := hK.sub (tys' := []) [] rfl
  refine vp_callSi (W.runV (As := [.int a]) (rest := []) ⟨hx, hb, hml, hown, hT⟩ (c_mo_isValue l dC dI m0 0 mk mv mu md up dn mr mc me so mau mad mw mwg mgv msq a) (cwV 1 hT (kt_V k_152 k_150 k_151 k_136 k_149) rfl rfl rfl (by decide +kernel) ⟨Nat.le_of_ble_eq_true rfl, Nat.le_of_ble_eq_true rfl⟩) ⟨bl_R, va_recv hKc hPc (ci := 4) (q0 := 0) rfl rfl, fun U hU hW => ⟨rfl, by rw [hU]; exact hPc, va_K.moved hW.alike hKc⟩⟩ rfl rfl hl.1 rfl (lv_room (Nat.le_of_ble_eq_true rfl)) d_mo_times_7 ⟨Nat.zero_le _, Nat.zero_le _⟩) (fun r_1 e_r_1 => ?_)
  subst e_r_1
  refine lv_if_eq (tgt := 21) hx hb d_mo_times_10 (by decide) (fun c_2 => ?_) (fun c_2 => ?_)
  · refine lv_iconst (v := (-1)) hx hb d_mo_times_21 (by decide) ?_
    refine lv_goto (tgt := 55) hx hb d_mo_times_22 (by decide) ?_
    exact W.iret (v := (-1)) hx hb hr (fun t ht hW => ⟨⟨(-1), (0, gu, gd, mv, up, dn), rfl, by unfold f_mo_times; rw [if_pos c_2], by rw [ht]; exact hP, va_K.moved hW.alike hK, hD⟩, hS.F ht⟩) hS.2.2 d_mo_times_55
  · refine lv_aload_n hx hb d_mo_times_13 rfl (lv_at hl 0 rfl) ?_
    refine lv_iload_n hx hb d_mo_times_14 rfl (lv_at hl 2 rfl) ?_
    have hPc := hP.sub (ws' := [(m0, .inr (4, [.int 0, .int mk, .int mv, .ref mu, .ref md, .long up, .long dn, .int mr, .ref mc, .ref me, .int so, .ref mau, .ref mad, .int mw, .ref mwg, .ref mgv, .ref msq]))]) [0] rfl
    have hKc := hK.sub (tys' := []) [] rfl
    refine vp_callSi (W.runV (As := [.int b]) (rest := []) ⟨hx, hb, hml, hown, hT⟩ (c_mo_isValue l dC dI m0 0 mk mv mu md up dn mr mc me so mau mad mw mwg mgv msq b) (cwV 1 hT (kt_V k_152 k_150 k_151 k_136 k_149) rfl rfl rfl (by decide +kernel) ⟨Nat.le_of_ble_eq_true rfl, Nat.le_of_ble_eq_true rfl⟩) ⟨bl_R, va_recv hKc hPc (ci := 4) (q0 := 0) rfl rfl, fun U hU hW => ⟨rfl, by rw [hU]; exact hPc, va_K.moved hW.alike hKc⟩⟩ rfl rfl hl.1 rfl (lv_room (Nat.le_of_ble_eq_true rfl)) d_mo_times_15 ⟨Nat.zero_le _, Nat.zero_le _⟩) (fun r_3 e_r_3 => ?_)
    subst e_r_3
    refine lv_if_ne (tgt := 25) hx hb d_mo_times_18 (by decide) (fun c_4 => ?_) (fun c_4 => ?_)
    · refine lv_aload_n hx hb d_mo_times_25 rfl (lv_at hl 0 rfl) ?_
      refine lv_aload_n hx hb d_mo_times_26 rfl (lv_at hl 0 rfl) ?_
      refine va_get (D := (dC, dI)) (ci := 4) (v := .ref mu) (C := R_mo) (T := F_mo) (N := 17) hx hb hT i_mo hown hK hP 0 rfl rfl 3 (by decide) (hT _ k_143) (fun _ h9 => h9) rfl d_mo_times_27 ?_
      refine lv_iload_n hx hb d_mo_times_30 rfl (lv_at hl 1 rfl) ?_
      refine va_lald hx hb hK hP 1 0 rfl rfl (in_iv hv c_2) d_mo_times_31 ?_
      refine lv_aload_n hx hb d_mo_times_32 rfl (lv_at hl 0 rfl) ?_
      refine va_get (D := (dC, dI)) (ci := 4) (v := .ref mu) (C := R_mo) (T := F_mo) (N := 17) hx hb hT i_mo hown hK hP 0 rfl rfl 3 (by decide) (hT _ k_143) (fun _ h9 => h9) rfl d_mo_times_33 ?_
      refine lv_iload_n hx hb d_mo_times_36 rfl (lv_at hl 2 rfl) ?_
      refine va_lald hx hb hK hP 1 0 rfl rfl (in_iv hv c_4) d_mo_times_37 ?_
      refine lv_lmul hx hb d_mo_times_38 ?_
      refine lv_aload_n hx hb d_mo_times_39 rfl (lv_at hl 0 rfl) ?_
      refine va_get (D := (dC, dI)) (ci := 4) (v := .ref md) (C := R_mo) (T := F_mo) (N := 17) hx hb hT i_mo hown hK hP 0 rfl rfl 4 (by decide) (hT _ k_144) (fun _ h9 => h9) rfl d_mo_times_40 ?_
      refine lv_iload_n hx hb d_mo_times_43 rfl (lv_at hl 1 rfl) ?_
      refine va_lald hx hb hK hP 2 1 rfl rfl (in_iv hv c_2) d_mo_times_44 ?_
      refine lv_aload_n hx hb d_mo_times_45 rfl (lv_at hl 0 rfl) ?_
      refine va_get (D := (dC, dI)) (ci := 4) (v := .ref md) (C := R_mo) (T := F_mo) (N := 17) hx hb hT i_mo hown hK hP 0 rfl rfl 4 (by decide) (hT _ k_144) (fun _ h9 => h9) rfl d_mo_times_46 ?_
      refine lv_iload_n hx hb d_mo_times_49 rfl (lv_at hl 2 rfl) ?_
      refine va_lald hx hb hK hP 2 1 rfl rfl (in_iv hv c_4) d_mo_times_50 ?_
      refine lv_lmul hx hb d_mo_times_51 ?_
      have hPc := hP.sub (ws' := [(m0, .inr (4, [.int 0, .int mk, .int mv, .ref mu, .ref md, .long up, .long dn, .int mr, .ref mc, .ref me, .int so, .ref mau, .ref mad, .int mw, .ref mwg, .ref mgv, .ref msq])), (mu, .inl (cmu, 300, .inr (.inl gu))), (md, .inl (cmd, 300, .inr (.inl gd)))]) [0, 1, 2] rfl
      have hKc := hK.sub (tys' := [(cmu, .long), (cmd, .long)]) [0, 1] rfl
      have hDc := hD.sub (ws' := [(m0, .inr (4, [.int 0, .int mk, .int mv, .ref mu, .ref md, .long up, .long dn, .int mr, .ref mc, .ref me, .int so, .ref mau, .ref mad, .int mw, .ref mwg, .ref mgv, .ref msq])), (mu, .inl (cmu, 300, .inr (.inl gu))), (md, .inl (cmd, 300, .inr (.inl gd)))]) [0, 1, 2] (by decide) rfl
      have hFc := va_free (wc := [(m0, .inr (4, [.int 0, .int mk, .int mv, .ref mu, .ref md, .long up, .long dn, .int mr, .ref mc, .ref me, .int so, .ref mau, .ref mad, .int mw, .ref mwg, .ref mgv, .ref msq])), (mu, .inl (cmu, 300, .inr (.inl gu))), (md, .inl (cmd, 300, .inr (.inl gd)))]) hD hS hA [0, 1, 2] rfl
      refine va_calli (va_runV (As := [.long ((gu a.toNatClampNeg) * (gu b.toNatClampNeg)), .long ((gd a.toNatClampNeg) * (gd b.toNatClampNeg))]) (rest := []) ⟨hx, hb, hml, hown, hT⟩ (c_mo_keep l dC dI H.size m0 mu md 0 mk mv up dn mr mc me so mau mad mw mwg mgv msq cmu gu cmd gd ((gu a.toNatClampNeg) * (gu b.toNatClampNeg)) ((gd a.toNatClampNeg) * (gd b.toNatClampNeg)) (euc_all _ _) (hz c_2 c_4) hv) (cwV 2 hT (kt_V k_148 k_146 k_147 k_136 k_145) rfl rfl rfl (by decide +kernel) ⟨Nat.le_of_ble_eq_true rfl, Nat.le_of_ble_eq_true rfl⟩) ⟨bl_M, va_recv hKc hPc (ci := 4) (q0 := 0) rfl rfl, fun U hU hW => ⟨rfl, by rw [hU], by rw [hU]; exact hPc, va_K.moved hW.alike hKc, hDc.weaken (fun _ _ _ _ => trivial)⟩⟩ rfl rfl hl.1 rfl (lv_room (Nat.le_of_ble_eq_true rfl)) d_mo_times_52 ⟨Nat.zero_le _, Nat.zero_le _⟩) hS (fun q _ h => hFc q h) hFc (fun r_5 u t H1 locs ht hvm hw hB hz1 hk1 hS => ?_)
      obtain ⟨gu_5, gd_5, mv_5, up_5, dn_5⟩ := u
      obtain ⟨hP1, hK1, hD1⟩ := hB
      rw [ht] at hP1
      obtain ⟨hP, hD⟩ := va_join (wr := []) (w1 := [(m0, .inr (4, [.int 0, .int mk, .int mv_5, .ref mu, .ref md, .long up_5, .long dn_5, .int mr, .ref mc, .ref me, .int so, .ref mau, .ref mad, .int mw, .ref mwg, .ref mgv, .ref msq])), (mu, .inl (cmu, 300, .inr (.inl gu_5))), (md, .inl (cmd, 300, .inr (.inl gd_5)))]) hP hD [0, 1, 2] [] rfl rfl (by decide) (by decide) hk1 hFc hP1 hD1
      generalize H1 = H at hP hS ⊢
      have hP := hP.sub (ws' := [(m0, .inr (4, [.int 0, .int mk, .int mv_5, .ref mu, .ref md, .long up_5, .long dn_5, .int mr, .ref mc, .ref me, .int so, .ref mau, .ref mad, .int mw, .ref mwg, .ref mgv, .ref msq])), (mu, .inl (cmu, 300, .inr (.inl gu_5))), (md, .inl (cmd, 300, .inr (.inl gd_5)))]) [0, 1, 2] rfl
      have hD := hD.sub (ws' := [(m0, .inr (4, [.int 0, .int mk, .int mv_5, .ref mu, .ref md, .long up_5, .long dn_5, .int mr, .ref mc, .ref me, .int so, .ref mau, .ref mad, .int mw, .ref mwg, .ref mgv, .ref msq])), (mu, .inl (cmu, 300, .inr (.inl gu_5))), (md, .inl (cmd, 300, .inr (.inl gd_5)))]) [0, 1, 2] (by decide) rfl
      have e_r_5 : r_5 = (f_mo_keep mv gu gd ((gu a.toNatClampNeg) * (gu b.toNatClampNeg)) ((gd a.toNatClampNeg) * (gd b.toNatClampNeg))).1 := congrArg (fun z => z.1) hw
      have e_gu_5 : gu_5 = (f_mo_keep mv gu gd ((gu a.toNatClampNeg) * (gu b.toNatClampNeg)) ((gd a.toNatClampNeg) * (gd b.toNatClampNeg))).2.1 := congrArg (fun z => z.2.1) hw
      have e_gd_5 : gd_5 = (f_mo_keep mv gu gd ((gu a.toNatClampNeg) * (gu b.toNatClampNeg)) ((gd a.toNatClampNeg) * (gd b.toNatClampNeg))).2.2.1 := congrArg (fun z => z.2.2.1) hw
      have e_mv_5 : mv_5 = (f_mo_keep mv gu gd ((gu a.toNatClampNeg) * (gu b.toNatClampNeg)) ((gd a.toNatClampNeg) * (gd b.toNatClampNeg))).2.2.2.1 := congrArg (fun z => z.2.2.2.1) hw
      have e_up_5 : up_5 = (f_mo_keep mv gu gd ((gu a.toNatClampNeg) * (gu b.toNatClampNeg)) ((gd a.toNatClampNeg) * (gd b.toNatClampNeg))).2.2.2.2.1 := congrArg (fun z => z.2.2.2.2.1) hw
      have e_dn_5 : dn_5 = (f_mo_keep mv gu gd ((gu a.toNatClampNeg) * (gu b.toNatClampNeg)) ((gd a.toNatClampNeg) * (gd b.toNatClampNeg))).2.2.2.2.2 := congrArg (fun z => z.2.2.2.2.2) hw
      subst e_r_5 e_gu_5 e_gd_5 e_mv_5 e_up_5 e_dn_5
      clear hP1 hK1 hD1 hk1 hz1 hFc hDc hPc hKc
      exact W.iret (v := (f_mo_keep mv gu gd ((gu a.toNatClampNeg) * (gu b.toNatClampNeg)) ((gd a.toNatClampNeg) * (gd b.toNatClampNeg))).1) hx hb hr (fun t ht hW => ⟨⟨(f_mo_keep mv gu gd ((gu a.toNatClampNeg) * (gu b.toNatClampNeg)) ((gd a.toNatClampNeg) * (gd b.toNatClampNeg))).1, (0, (f_mo_keep mv gu gd ((gu a.toNatClampNeg) * (gu b.toNatClampNeg)) ((gd a.toNatClampNeg) * (gd b.toNatClampNeg))).2.1, (f_mo_keep mv gu gd ((gu a.toNatClampNeg) * (gu b.toNatClampNeg)) ((gd a.toNatClampNeg) * (gd b.toNatClampNeg))).2.2.1, (f_mo_keep mv gu gd ((gu a.toNatClampNeg) * (gu b.toNatClampNeg)) ((gd a.toNatClampNeg) * (gd b.toNatClampNeg))).2.2.2.1, (f_mo_keep mv gu gd ((gu a.toNatClampNeg) * (gu b.toNatClampNeg)) ((gd a.toNatClampNeg) * (gd b.toNatClampNeg))).2.2.2.2.1, (f_mo_keep mv gu gd ((gu a.toNatClampNeg) * (gu b.toNatClampNeg)) ((gd a.toNatClampNeg) * (gd b.toNatClampNeg))).2.2.2.2.2), rfl, by unfold f_mo_times; rw [if_neg c_2, if_neg c_4], by rw [ht]; exact hP, va_K.moved hW.alike hK, hD⟩, hS.F ht⟩) hS.2.2 d_mo_times_55
    · refine lv_iconst (v := (-1)) hx hb d_mo_times_21 (by decide) ?_
      refine lv_goto (tgt := 55) hx hb d_mo_times_22 (by decide) ?_
      exact W.iret (v := (-1)) hx hb hr (fun t ht hW => ⟨⟨(-1), (0, gu, gd, mv, up, dn), rfl, by unfold f_mo_times; rw [if_neg c_2, if_pos c_4], by rw [ht]; exact hP, va_K.moved hW.alike hK, hD⟩, hS.F ht⟩) hS.2.2 d_mo_times_55
def f_mo_over (mv : Int32) (up : Int64) (dn : Int64) (gu : Nat → Int64) (gd : Nat → Int64) (a : Int32) (b : Int32) : Int32 × Int32 × (Nat → Int64) × (Nat → Int64) × Int32 × Int64 × Int64 :=
  if (f_mo_isValue mv b) = 0 then if (f_mo_isValue mv a) = 0 then ((-1), 0, gu, gd, mv, up, dn) else if (f_mo_isValue mv b) = 0 then ((-1), 0, gu, gd, mv, up, dn) else ((f_mo_keep mv gu gd ((gu a.toNatClampNeg) * (gd b.toNatClampNeg)) ((gd a.toNatClampNeg) * (gu b.toNatClampNeg))).1, 0, (f_mo_keep mv gu gd ((gu a.toNatClampNeg) * (gd b.toNatClampNeg)) ((gd a.toNatClampNeg) * (gu b.toNatClampNeg))).2.1, (f_mo_keep mv gu gd ((gu a.toNatClampNeg) * (gd b.toNatClampNeg)) ((gd a.toNatClampNeg) * (gu b.toNatClampNeg))).2.2.1, (f_mo_keep mv gu gd ((gu a.toNatClampNeg) * (gd b.toNatClampNeg)) ((gd a.toNatClampNeg) * (gu b.toNatClampNeg))).2.2.2.1, (f_mo_keep mv gu gd ((gu a.toNatClampNeg) * (gd b.toNatClampNeg)) ((gd a.toNatClampNeg) * (gu b.toNatClampNeg))).2.2.2.2.1, (f_mo_keep mv gu gd ((gu a.toNatClampNeg) * (gd b.toNatClampNeg)) ((gd a.toNatClampNeg) * (gu b.toNatClampNeg))).2.2.2.2.2) else if (gu b.toNatClampNeg) = 0 then (0, 1, gu, gd, mv, up, dn) else if (f_mo_isValue mv a) = 0 then ((-1), 0, gu, gd, mv, up, dn) else if (f_mo_isValue mv b) = 0 then ((-1), 0, gu, gd, mv, up, dn) else ((f_mo_keep mv gu gd ((gu a.toNatClampNeg) * (gd b.toNatClampNeg)) ((gd a.toNatClampNeg) * (gu b.toNatClampNeg))).1, 0, (f_mo_keep mv gu gd ((gu a.toNatClampNeg) * (gd b.toNatClampNeg)) ((gd a.toNatClampNeg) * (gu b.toNatClampNeg))).2.1, (f_mo_keep mv gu gd ((gu a.toNatClampNeg) * (gd b.toNatClampNeg)) ((gd a.toNatClampNeg) * (gu b.toNatClampNeg))).2.2.1, (f_mo_keep mv gu gd ((gu a.toNatClampNeg) * (gd b.toNatClampNeg)) ((gd a.toNatClampNeg) * (gu b.toNatClampNeg))).2.2.2.1, (f_mo_keep mv gu gd ((gu a.toNatClampNeg) * (gd b.toNatClampNeg)) ((gd a.toNatClampNeg) * (gu b.toNatClampNeg))).2.2.2.2.1, (f_mo_keep mv gu gd ((gu a.toNatClampNeg) * (gd b.toNatClampNeg)) ((gd a.toNatClampNeg) * (gu b.toNatClampNeg))).2.2.2.2.2)
set_option maxHeartbeats 4000000 in
set_option maxRecDepth 100000 in
theorem c_mo_over (l : Launch) (dC : Nat → ClassId) (dI : Nat → Nat → Nat) (sz : Nat) (m0 : Nat) (mu : Nat) (md : Nat) (th : Int32) (mk : Int32) (mv : Int32) (up : Int64) (dn : Int64) (mr : Int32) (mc : Nat) (me : Nat) (so : Int32) (mau : Nat) (mad : Nat) (mw : Int32) (mwg : Nat) (mgv : Nat) (msq : Nat) (cmu : ClassId) (gu : Nat → Int64) (cmd : ClassId) (gd : Nat → Int64) (a : Int32) (b : Int32) (hv : vp_in mv 301) (hz : ¬ f_mo_isValue mv a = 0 → ¬ f_mo_isValue mv b = 0 → ¬ gu b.toNatClampNeg = 0 → ¬ (gd a.toNatClampNeg * gu b.toNatClampNeg) = 0) : Met l y_mo_over w_mo_over ({ frames := 3, cells := 0, slots := 0, locals := 75 }) (va_Pc [.ref m0, .int a, .int b] (fun U => U.heap.size = sz ∧ va_P (dC, dI) classes [(m0, .inr (4, [.int th, .int mk, .int mv, .ref mu, .ref md, .long up, .long dn, .int mr, .ref mc, .ref me, .int so, .ref mau, .ref mad, .int mw, .ref mwg, .ref mgv, .ref msq])), (mu, .inl (cmu, 300, .inr (.inl gu))), (md, .inl (cmd, 300, .inr (.inl gd)))] U.heap ∧ va_K (dC, dI) classes [(cmu, .long), (cmd, .long)] U ∧ va_D (fun _ => True) [(m0, .inr (4, [.int th, .int mk, .int mv, .ref mu, .ref md, .long up, .long dn, .int mr, .ref mc, .ref me, .int so, .ref mau, .ref mad, .int mw, .ref mwg, .ref mgv, .ref msq])), (mu, .inl (cmu, 300, .inr (.inl gu))), (md, .inl (cmd, 300, .inr (.inl gd)))])) (va_Qi (fun z9 u9 => (z9, u9) = f_mo_over mv up dn gu gd a b) (fun (u : Int32 × (Nat → Int64) × (Nat → Int64) × Int32 × Int64 × Int64) t => match u with | (th', gu', gd', mv', up', dn') => va_P (dC, dI) classes [(m0, .inr (4, [.int th', .int mk, .int mv', .ref mu, .ref md, .long up', .long dn', .int mr, .ref mc, .ref me, .int so, .ref mau, .ref mad, .int mw, .ref mwg, .ref mgv, .ref msq])), (mu, .inl (cmu, 300, .inr (.inl gu'))), (md, .inl (cmd, 300, .inr (.inl gd')))] t.heap ∧ va_K (dC, dI) classes [(cmu, .long), (cmd, .long)] t ∧ va_D (va_A [(m0, .inr (4, [.int th, .int mk, .int mv, .ref mu, .ref md, .long up, .long dn, .int mr, .ref mc, .ref me, .int so, .ref mau, .ref mad, .int mw, .ref mwg, .ref mgv, .ref msq])), (mu, .inl (cmu, 300, .inr (.inl gu))), (md, .inl (cmd, 300, .inr (.inl gd)))] sz) [(m0, .inr (4, [.int th', .int mk, .int mv', .ref mu, .ref md, .long up', .long dn', .int mr, .ref mc, .ref me, .int so, .ref mau, .ref mad, .int mw, .ref mwg, .ref mgv, .ref msq])), (mu, .inl (cmu, 300, .inr (.inl gu'))), (md, .inl (cmd, 300, .inr (.inl gd')))]) (va_A [(m0, .inr (4, [.int th, .int mk, .int mv, .ref mu, .ref md, .long up, .long dn, .int mr, .ref mc, .ref me, .int so, .ref mau, .ref mad, .int mw, .ref mwg, .ref mgv, .ref msq])), (mu, .inl (cmu, 300, .inr (.inl gu))), (md, .inl (cmd, 300, .inr (.inl gd)))] sz)) 0 0 (va_A [(m0, .inr (4, [.int th, .int mk, .int mv, .ref mu, .ref md, .long up, .long dn, .int mr, .ref mc, .ref me, .int so, .ref mau, .ref mad, .int mw, .ref mwg, .ref mgv, .ref msq])), (mu, .inl (cmu, 300, .inr (.inl gu))), (md, .inl (cmd, 300, .inr (.inl gd)))] sz) := by
  refine Met.ofW (cc := b_mo_over) (maxL := 3) (ret := (some .int)) (by decide +kernel) rfl ?_
  intro p e s m args below meth c s₁ B hml hv
  obtain ⟨rfl, hsz, hP, hK, hD0⟩ := hv
  have hx := B.exec
  have hb := B.bytes
  have hr := B.returns
  have hts := atoms_spec (ws := w_mo_over) B.pre
  have hT := fun (w : Cond) (h : w ∈ kt_T) => hts w (List.mem_cons_of_mem _ h)
  have hown : s.vm.findClass R_mo = some m.cls := findClass_of_methodNamed B.named
  have hlocks := B.notSynchronized
  subst hsz
  have hD := hD0.self (sz := s.heap.size)
  generalize hAe : va_A [(m0, .inr (4, [.int th, .int mk, .int mv, .ref mu, .ref md, .long up, .long dn, .int mr, .ref mc, .ref me, .int so, .ref mau, .ref mad, .int mw, .ref mwg, .ref mgv, .ref msq])), (mu, .inl (cmu, 300, .inr (.inl gu))), (md, .inl (cmd, 300, .inr (.inl gd)))] s.heap.size = A at hD ⊢
  have hA : ∀ q : Nat, s.heap.size ≤ q → A q := fun q h => by rw [← hAe]; exact Or.inr h
  have hS : va_S A s.heap s.heap [] := va_S.rf
  have hl := lv_entry ([.ref m0, .int a, .int b]) (n := 3) (Nat.le_of_ble_eq_true rfl)
  rw [lg_entry_eq]
  generalize (lg_sl ([.ref m0, .int a, .int b]) ++ List.replicate (3 - (lg_sl ([.ref m0, .int a, .int b])).length) Slot.unset).toArray = ls at hl ⊢
  have hl : lv_has ls 3 [(0, .ref m0), (1, .int a), (2, .int b)] := hl
  refine lv_aload_n hx hb d_mo_over_0 rfl (lv_at hl 0 rfl) ?_
  refine lv_aload_n hx hb d_mo_over_1 rfl (lv_at hl 0 rfl) ?_
  refine lv_iload_n hx hb d_mo_over_2 rfl (lv_at hl 2 rfl) ?_
  have hPc := hP.sub (ws' := [(m0, .inr (4, [.int th, .int mk, .int mv, .ref mu, .ref md, .long up, .long dn, .int mr, .ref mc, .ref me, .int so, .ref mau, .ref mad, .int mw, .ref mwg, .ref mgv, .ref msq]))]) [0] rfl
  have hKc := hK.sub (tys' := []) [] rfl
  refine vp_callSi (W.runV (As := [.int b]) (rest := [.ref m0]) ⟨hx, hb, hml, hown, hT⟩ (c_mo_isValue l dC dI m0 th mk mv mu md up dn mr mc me so mau mad mw mwg mgv msq b) (cwV 1 hT (kt_V k_152 k_150 k_151 k_136 k_149) rfl rfl rfl (by decide +kernel) ⟨Nat.le_of_ble_eq_true rfl, Nat.le_of_ble_eq_true rfl⟩) ⟨bl_R, va_recv hKc hPc (ci := 4) (q0 := 0) rfl rfl, fun U hU hW => ⟨rfl, by rw [hU]; exact hPc, va_K.moved hW.alike hKc⟩⟩ rfl rfl hl.1 rfl (lv_room (Nat.le_of_ble_eq_true rfl)) d_mo_over_3 ⟨Nat.zero_le _, Nat.zero_le _⟩) (fun r_1 e_r_1 => ?_)
  subst e_r_1
  refine lv_if_eq (tgt := 24) hx hb d_mo_over_6 (by decide) (fun c_2 => ?_) (fun c_2 => ?_)
  · refine lv_iconst (v := 0) hx hb d_mo_over_24 (by decide) ?_
    refine va_put (D := (dC, dI)) (ci := 4) (v := .int 0) (ty := .int) (C := R_mo) (T := F_mo) (N := 17) hx hb hT i_mo t_mo t_mo_ok n_mo hown hK hP hD hS 0 rfl rfl 0 (by decide) (hT _ k_127) (fun _ h9 => h9) rfl (by decide +kernel) rfl rfl (Nat.le_of_ble_eq_true rfl) d_mo_over_25 (fun H locs hP hD hS => ?_)
    have hP : va_P (dC, dI) classes [(m0, .inr (4, [.int 0, .int mk, .int mv, .ref mu, .ref md, .long up, .long dn, .int mr, .ref mc, .ref me, .int so, .ref mau, .ref mad, .int mw, .ref mwg, .ref mgv, .ref msq])), (mu, .inl (cmu, 300, .inr (.inl gu))), (md, .inl (cmd, 300, .inr (.inl gd)))] H := hP
    have hD : va_D A [(m0, .inr (4, [.int 0, .int mk, .int mv, .ref mu, .ref md, .long up, .long dn, .int mr, .ref mc, .ref me, .int so, .ref mau, .ref mad, .int mw, .ref mwg, .ref mgv, .ref msq])), (mu, .inl (cmu, 300, .inr (.inl gu))), (md, .inl (cmd, 300, .inr (.inl gd)))] := hD
    refine lv_aload_n hx hb d_mo_over_28 rfl (lv_at hl 0 rfl) ?_
    refine va_get (D := (dC, dI)) (ci := 4) (v := .int 0) (C := R_mo) (T := F_mo) (N := 17) hx hb hT i_mo hown hK hP 0 rfl rfl 0 (by decide) (hT _ k_127) (fun _ h9 => h9) rfl d_mo_over_29 ?_
    refine lv_iconst (v := 1) hx hb d_mo_over_32 (by decide) ?_
    refine lv_icmp_ne (tgt := 38) hx hb d_mo_over_33 (by decide) (fun c_3 => ?_) (fun c_3 => ?_)
    · refine lv_aload_n hx hb d_mo_over_38 rfl (lv_at hl 0 rfl) ?_
      refine lv_iload_n hx hb d_mo_over_39 rfl (lv_at hl 1 rfl) ?_
      have hPc := hP.sub (ws' := [(m0, .inr (4, [.int 0, .int mk, .int mv, .ref mu, .ref md, .long up, .long dn, .int mr, .ref mc, .ref me, .int so, .ref mau, .ref mad, .int mw, .ref mwg, .ref mgv, .ref msq]))]) [0] rfl
      have hKc := hK.sub (tys' := []) [] rfl
      refine vp_callSi (W.runV (As := [.int a]) (rest := []) ⟨hx, hb, hml, hown, hT⟩ (c_mo_isValue l dC dI m0 0 mk mv mu md up dn mr mc me so mau mad mw mwg mgv msq a) (cwV 1 hT (kt_V k_152 k_150 k_151 k_136 k_149) rfl rfl rfl (by decide +kernel) ⟨Nat.le_of_ble_eq_true rfl, Nat.le_of_ble_eq_true rfl⟩) ⟨bl_R, va_recv hKc hPc (ci := 4) (q0 := 0) rfl rfl, fun U hU hW => ⟨rfl, by rw [hU]; exact hPc, va_K.moved hW.alike hKc⟩⟩ rfl rfl hl.1 rfl (lv_room (Nat.le_of_ble_eq_true rfl)) d_mo_over_40 ⟨Nat.zero_le _, Nat.zero_le _⟩) (fun r_4 e_r_4 => ?_)
      subst e_r_4
      refine lv_if_eq (tgt := 54) hx hb d_mo_over_43 (by decide) (fun c_5 => ?_) (fun c_5 => ?_)
      · refine lv_iconst (v := (-1)) hx hb d_mo_over_54 (by decide) ?_
        refine lv_goto (tgt := 88) hx hb d_mo_over_55 (by decide) ?_
        exact W.iret (v := (-1)) hx hb hr (fun t ht hW => ⟨⟨(-1), (0, gu, gd, mv, up, dn), rfl, by unfold f_mo_over; rw [if_pos c_2, if_pos c_5], by rw [ht]; exact hP, va_K.moved hW.alike hK, hD⟩, hS.F ht⟩) hS.2.2 d_mo_over_88
      · refine lv_aload_n hx hb d_mo_over_46 rfl (lv_at hl 0 rfl) ?_
        refine lv_iload_n hx hb d_mo_over_47 rfl (lv_at hl 2 rfl) ?_
        have hPc := hP.sub (ws' := [(m0, .inr (4, [.int 0, .int mk, .int mv, .ref mu, .ref md, .long up, .long dn, .int mr, .ref mc, .ref me, .int so, .ref mau, .ref mad, .int mw, .ref mwg, .ref mgv, .ref msq]))]) [0] rfl
        have hKc := hK.sub (tys' := []) [] rfl
        refine vp_callSi (W.runV (As := [.int b]) (rest := []) ⟨hx, hb, hml, hown, hT⟩ (c_mo_isValue l dC dI m0 0 mk mv mu md up dn mr mc me so mau mad mw mwg mgv msq b) (cwV 1 hT (kt_V k_152 k_150 k_151 k_136 k_149) rfl rfl rfl (by decide +kernel) ⟨Nat.le_of_ble_eq_true rfl, Nat.le_of_ble_eq_true rfl⟩) ⟨bl_R, va_recv hKc hPc (ci := 4) (q0 := 0) rfl rfl, fun U hU hW => ⟨rfl, by rw [hU]; exact hPc, va_K.moved hW.alike hKc⟩⟩ rfl rfl hl.1 rfl (lv_room (Nat.le_of_ble_eq_true rfl)) d_mo_over_48 ⟨Nat.zero_le _, Nat.zero_le _⟩) (fun r_6 e_r_6 => ?_)
        subst e_r_6
        refine lv_if_ne (tgt := 58) hx hb d_mo_over_51 (by decide) (fun c_7 => ?_) (fun c_7 => ?_)
        · refine lv_aload_n hx hb d_mo_over_58 rfl (lv_at hl 0 rfl) ?_
          refine lv_aload_n hx hb d_mo_over_59 rfl (lv_at hl 0 rfl) ?_
          refine va_get (D := (dC, dI)) (ci := 4) (v := .ref mu) (C := R_mo) (T := F_mo) (N := 17) hx hb hT i_mo hown hK hP 0 rfl rfl 3 (by decide) (hT _ k_143) (fun _ h9 => h9) rfl d_mo_over_60 ?_
          refine lv_iload_n hx hb d_mo_over_63 rfl (lv_at hl 1 rfl) ?_
          refine va_lald hx hb hK hP 1 0 rfl rfl (in_iv hv c_5) d_mo_over_64 ?_
          refine lv_aload_n hx hb d_mo_over_65 rfl (lv_at hl 0 rfl) ?_
          refine va_get (D := (dC, dI)) (ci := 4) (v := .ref md) (C := R_mo) (T := F_mo) (N := 17) hx hb hT i_mo hown hK hP 0 rfl rfl 4 (by decide) (hT _ k_144) (fun _ h9 => h9) rfl d_mo_over_66 ?_
          refine lv_iload_n hx hb d_mo_over_69 rfl (lv_at hl 2 rfl) ?_
          refine va_lald hx hb hK hP 2 1 rfl rfl (in_iv hv c_7) d_mo_over_70 ?_
          refine lv_lmul hx hb d_mo_over_71 ?_
          refine lv_aload_n hx hb d_mo_over_72 rfl (lv_at hl 0 rfl) ?_
          refine va_get (D := (dC, dI)) (ci := 4) (v := .ref md) (C := R_mo) (T := F_mo) (N := 17) hx hb hT i_mo hown hK hP 0 rfl rfl 4 (by decide) (hT _ k_144) (fun _ h9 => h9) rfl d_mo_over_73 ?_
          refine lv_iload_n hx hb d_mo_over_76 rfl (lv_at hl 1 rfl) ?_
          refine va_lald hx hb hK hP 2 1 rfl rfl (in_iv hv c_5) d_mo_over_77 ?_
          refine lv_aload_n hx hb d_mo_over_78 rfl (lv_at hl 0 rfl) ?_
          refine va_get (D := (dC, dI)) (ci := 4) (v := .ref mu) (C := R_mo) (T := F_mo) (N := 17) hx hb hT i_mo hown hK hP 0 rfl rfl 3 (by decide) (hT _ k_143) (fun _ h9 => h9) rfl d_mo_over_79 ?_
          refine lv_iload_n hx hb d_mo_over_82 rfl (lv_at hl 2 rfl) ?_
          refine va_lald hx hb hK hP 1 0 rfl rfl (in_iv hv c_7) d_mo_over_83 ?_
          refine lv_lmul hx hb d_mo_over_84 ?_
          have hPc := hP.sub (ws' := [(m0, .inr (4, [.int 0, .int mk, .int mv, .ref mu, .ref md, .long up, .long dn, .int mr, .ref mc, .ref me, .int so, .ref mau, .ref mad, .int mw, .ref mwg, .ref mgv, .ref msq])), (mu, .inl (cmu, 300, .inr (.inl gu))), (md, .inl (cmd, 300, .inr (.inl gd)))]) [0, 1, 2] rfl
          have hKc := hK.sub (tys' := [(cmu, .long), (cmd, .long)]) [0, 1] rfl
          have hDc := hD.sub (ws' := [(m0, .inr (4, [.int 0, .int mk, .int mv, .ref mu, .ref md, .long up, .long dn, .int mr, .ref mc, .ref me, .int so, .ref mau, .ref mad, .int mw, .ref mwg, .ref mgv, .ref msq])), (mu, .inl (cmu, 300, .inr (.inl gu))), (md, .inl (cmd, 300, .inr (.inl gd)))]) [0, 1, 2] (by decide) rfl
          have hFc := va_free (wc := [(m0, .inr (4, [.int 0, .int mk, .int mv, .ref mu, .ref md, .long up, .long dn, .int mr, .ref mc, .ref me, .int so, .ref mau, .ref mad, .int mw, .ref mwg, .ref mgv, .ref msq])), (mu, .inl (cmu, 300, .inr (.inl gu))), (md, .inl (cmd, 300, .inr (.inl gd)))]) hD hS hA [0, 1, 2] rfl
          refine va_calli (va_runV (As := [.long ((gu a.toNatClampNeg) * (gd b.toNatClampNeg)), .long ((gd a.toNatClampNeg) * (gu b.toNatClampNeg))]) (rest := []) ⟨hx, hb, hml, hown, hT⟩ (c_mo_keep l dC dI H.size m0 mu md 0 mk mv up dn mr mc me so mau mad mw mwg mgv msq cmu gu cmd gd ((gu a.toNatClampNeg) * (gd b.toNatClampNeg)) ((gd a.toNatClampNeg) * (gu b.toNatClampNeg)) (euc_all _ _) (absurd c_2 c_7) hv) (cwV 2 hT (kt_V k_148 k_146 k_147 k_136 k_145) rfl rfl rfl (by decide +kernel) ⟨Nat.le_of_ble_eq_true rfl, Nat.le_of_ble_eq_true rfl⟩) ⟨bl_M, va_recv hKc hPc (ci := 4) (q0 := 0) rfl rfl, fun U hU hW => ⟨rfl, by rw [hU], by rw [hU]; exact hPc, va_K.moved hW.alike hKc, hDc.weaken (fun _ _ _ _ => trivial)⟩⟩ rfl rfl hl.1 rfl (lv_room (Nat.le_of_ble_eq_true rfl)) d_mo_over_85 ⟨Nat.zero_le _, Nat.zero_le _⟩) hS (fun q _ h => hFc q h) hFc (fun r_8 u t H1 locs ht hvm hw hB hz1 hk1 hS => ?_)
          obtain ⟨gu_8, gd_8, mv_8, up_8, dn_8⟩ := u
          obtain ⟨hP1, hK1, hD1⟩ := hB
          rw [ht] at hP1
          obtain ⟨hP, hD⟩ := va_join (wr := []) (w1 := [(m0, .inr (4, [.int 0, .int mk, .int mv_8, .ref mu, .ref md, .long up_8, .long dn_8, .int mr, .ref mc, .ref me, .int so, .ref mau, .ref mad, .int mw, .ref mwg, .ref mgv, .ref msq])), (mu, .inl (cmu, 300, .inr (.inl gu_8))), (md, .inl (cmd, 300, .inr (.inl gd_8)))]) hP hD [0, 1, 2] [] rfl rfl (by decide) (by decide) hk1 hFc hP1 hD1
          generalize H1 = H at hP hS ⊢
          have hP := hP.sub (ws' := [(m0, .inr (4, [.int 0, .int mk, .int mv_8, .ref mu, .ref md, .long up_8, .long dn_8, .int mr, .ref mc, .ref me, .int so, .ref mau, .ref mad, .int mw, .ref mwg, .ref mgv, .ref msq])), (mu, .inl (cmu, 300, .inr (.inl gu_8))), (md, .inl (cmd, 300, .inr (.inl gd_8)))]) [0, 1, 2] rfl
          have hD := hD.sub (ws' := [(m0, .inr (4, [.int 0, .int mk, .int mv_8, .ref mu, .ref md, .long up_8, .long dn_8, .int mr, .ref mc, .ref me, .int so, .ref mau, .ref mad, .int mw, .ref mwg, .ref mgv, .ref msq])), (mu, .inl (cmu, 300, .inr (.inl gu_8))), (md, .inl (cmd, 300, .inr (.inl gd_8)))]) [0, 1, 2] (by decide) rfl
          have e_r_8 : r_8 = (f_mo_keep mv gu gd ((gu a.toNatClampNeg) * (gd b.toNatClampNeg)) ((gd a.toNatClampNeg) * (gu b.toNatClampNeg))).1 := congrArg (fun z => z.1) hw
          have e_gu_8 : gu_8 = (f_mo_keep mv gu gd ((gu a.toNatClampNeg) * (gd b.toNatClampNeg)) ((gd a.toNatClampNeg) * (gu b.toNatClampNeg))).2.1 := congrArg (fun z => z.2.1) hw
          have e_gd_8 : gd_8 = (f_mo_keep mv gu gd ((gu a.toNatClampNeg) * (gd b.toNatClampNeg)) ((gd a.toNatClampNeg) * (gu b.toNatClampNeg))).2.2.1 := congrArg (fun z => z.2.2.1) hw
          have e_mv_8 : mv_8 = (f_mo_keep mv gu gd ((gu a.toNatClampNeg) * (gd b.toNatClampNeg)) ((gd a.toNatClampNeg) * (gu b.toNatClampNeg))).2.2.2.1 := congrArg (fun z => z.2.2.2.1) hw
          have e_up_8 : up_8 = (f_mo_keep mv gu gd ((gu a.toNatClampNeg) * (gd b.toNatClampNeg)) ((gd a.toNatClampNeg) * (gu b.toNatClampNeg))).2.2.2.2.1 := congrArg (fun z => z.2.2.2.2.1) hw
          have e_dn_8 : dn_8 = (f_mo_keep mv gu gd ((gu a.toNatClampNeg) * (gd b.toNatClampNeg)) ((gd a.toNatClampNeg) * (gu b.toNatClampNeg))).2.2.2.2.2 := congrArg (fun z => z.2.2.2.2.2) hw
          subst e_r_8 e_gu_8 e_gd_8 e_mv_8 e_up_8 e_dn_8
          clear hP1 hK1 hD1 hk1 hz1 hFc hDc hPc hKc
          exact W.iret (v := (f_mo_keep mv gu gd ((gu a.toNatClampNeg) * (gd b.toNatClampNeg)) ((gd a.toNatClampNeg) * (gu b.toNatClampNeg))).1) hx hb hr (fun t ht hW => ⟨⟨(f_mo_keep mv gu gd ((gu a.toNatClampNeg) * (gd b.toNatClampNeg)) ((gd a.toNatClampNeg) * (gu b.toNatClampNeg))).1, (0, (f_mo_keep mv gu gd ((gu a.toNatClampNeg) * (gd b.toNatClampNeg)) ((gd a.toNatClampNeg) * (gu b.toNatClampNeg))).2.1, (f_mo_keep mv gu gd ((gu a.toNatClampNeg) * (gd b.toNatClampNeg)) ((gd a.toNatClampNeg) * (gu b.toNatClampNeg))).2.2.1, (f_mo_keep mv gu gd ((gu a.toNatClampNeg) * (gd b.toNatClampNeg)) ((gd a.toNatClampNeg) * (gu b.toNatClampNeg))).2.2.2.1, (f_mo_keep mv gu gd ((gu a.toNatClampNeg) * (gd b.toNatClampNeg)) ((gd a.toNatClampNeg) * (gu b.toNatClampNeg))).2.2.2.2.1, (f_mo_keep mv gu gd ((gu a.toNatClampNeg) * (gd b.toNatClampNeg)) ((gd a.toNatClampNeg) * (gu b.toNatClampNeg))).2.2.2.2.2), rfl, by unfold f_mo_over; rw [if_pos c_2, if_neg c_5, if_neg c_7], by rw [ht]; exact hP, va_K.moved hW.alike hK, hD⟩, hS.F ht⟩) hS.2.2 d_mo_over_88
        · refine lv_iconst (v := (-1)) hx hb d_mo_over_54 (by decide) ?_
          refine lv_goto (tgt := 88) hx hb d_mo_over_55 (by decide) ?_
          exact W.iret (v := (-1)) hx hb hr (fun t ht hW => ⟨⟨(-1), (0, gu, gd, mv, up, dn), rfl, by unfold f_mo_over; rw [if_pos c_2, if_neg c_5, if_pos c_7], by rw [ht]; exact hP, va_K.moved hW.alike hK, hD⟩, hS.F ht⟩) hS.2.2 d_mo_over_88
    · exact absurd c_3 (by decide)
  · refine lv_aload_n hx hb d_mo_over_9 rfl (lv_at hl 0 rfl) ?_
    refine va_get (D := (dC, dI)) (ci := 4) (v := .ref mu) (C := R_mo) (T := F_mo) (N := 17) hx hb hT i_mo hown hK hP 0 rfl rfl 3 (by decide) (hT _ k_143) (fun _ h9 => h9) rfl d_mo_over_10 ?_
    refine lv_iload_n hx hb d_mo_over_13 rfl (lv_at hl 2 rfl) ?_
    refine va_lald hx hb hK hP 1 0 rfl rfl (in_iv hv c_2) d_mo_over_14 ?_
    refine lv_lconst (v := 0) hx hb d_mo_over_15 (by decide) ?_
    refine lx_ifne (tgt := 24) hx hb d_mo_over_16 d_mo_over_17 (by decide) (fun c_9 => ?_) (fun c_9 => ?_)
    · refine lv_iconst (v := 0) hx hb d_mo_over_24 (by decide) ?_
      refine va_put (D := (dC, dI)) (ci := 4) (v := .int 0) (ty := .int) (C := R_mo) (T := F_mo) (N := 17) hx hb hT i_mo t_mo t_mo_ok n_mo hown hK hP hD hS 0 rfl rfl 0 (by decide) (hT _ k_127) (fun _ h9 => h9) rfl (by decide +kernel) rfl rfl (Nat.le_of_ble_eq_true rfl) d_mo_over_25 (fun H locs hP hD hS => ?_)
      have hP : va_P (dC, dI) classes [(m0, .inr (4, [.int 0, .int mk, .int mv, .ref mu, .ref md, .long up, .long dn, .int mr, .ref mc, .ref me, .int so, .ref mau, .ref mad, .int mw, .ref mwg, .ref mgv, .ref msq])), (mu, .inl (cmu, 300, .inr (.inl gu))), (md, .inl (cmd, 300, .inr (.inl gd)))] H := hP
      have hD : va_D A [(m0, .inr (4, [.int 0, .int mk, .int mv, .ref mu, .ref md, .long up, .long dn, .int mr, .ref mc, .ref me, .int so, .ref mau, .ref mad, .int mw, .ref mwg, .ref mgv, .ref msq])), (mu, .inl (cmu, 300, .inr (.inl gu))), (md, .inl (cmd, 300, .inr (.inl gd)))] := hD
      refine lv_aload_n hx hb d_mo_over_28 rfl (lv_at hl 0 rfl) ?_
      refine va_get (D := (dC, dI)) (ci := 4) (v := .int 0) (C := R_mo) (T := F_mo) (N := 17) hx hb hT i_mo hown hK hP 0 rfl rfl 0 (by decide) (hT _ k_127) (fun _ h9 => h9) rfl d_mo_over_29 ?_
      refine lv_iconst (v := 1) hx hb d_mo_over_32 (by decide) ?_
      refine lv_icmp_ne (tgt := 38) hx hb d_mo_over_33 (by decide) (fun c_10 => ?_) (fun c_10 => ?_)
      · refine lv_aload_n hx hb d_mo_over_38 rfl (lv_at hl 0 rfl) ?_
        refine lv_iload_n hx hb d_mo_over_39 rfl (lv_at hl 1 rfl) ?_
        have hPc := hP.sub (ws' := [(m0, .inr (4, [.int 0, .int mk, .int mv, .ref mu, .ref md, .long up, .long dn, .int mr, .ref mc, .ref me, .int so, .ref mau, .ref mad, .int mw, .ref mwg, .ref mgv, .ref msq]))]) [0] rfl
        have hKc := hK.sub (tys' := []) [] rfl
        refine vp_callSi (W.runV (As := [.int a]) (rest := []) ⟨hx, hb, hml, hown, hT⟩ (c_mo_isValue l dC dI m0 0 mk mv mu md up dn mr mc me so mau mad mw mwg mgv msq a) (cwV 1 hT (kt_V k_152 k_150 k_151 k_136 k_149) rfl rfl rfl (by decide +kernel) ⟨Nat.le_of_ble_eq_true rfl, Nat.le_of_ble_eq_true rfl⟩) ⟨bl_R, va_recv hKc hPc (ci := 4) (q0 := 0) rfl rfl, fun U hU hW => ⟨rfl, by rw [hU]; exact hPc, va_K.moved hW.alike hKc⟩⟩ rfl rfl hl.1 rfl (lv_room (Nat.le_of_ble_eq_true rfl)) d_mo_over_40 ⟨Nat.zero_le _, Nat.zero_le _⟩) (fun r_11 e_r_11 => ?_)
        subst e_r_11
        refine lv_if_eq (tgt := 54) hx hb d_mo_over_43 (by decide) (fun c_12 => ?_) (fun c_12 => ?_)
        · refine lv_iconst (v := (-1)) hx hb d_mo_over_54 (by decide) ?_
          refine lv_goto (tgt := 88) hx hb d_mo_over_55 (by decide) ?_
          exact W.iret (v := (-1)) hx hb hr (fun t ht hW => ⟨⟨(-1), (0, gu, gd, mv, up, dn), rfl, by unfold f_mo_over; rw [if_neg c_2, if_neg c_9, if_pos c_12], by rw [ht]; exact hP, va_K.moved hW.alike hK, hD⟩, hS.F ht⟩) hS.2.2 d_mo_over_88
        · refine lv_aload_n hx hb d_mo_over_46 rfl (lv_at hl 0 rfl) ?_
          refine lv_iload_n hx hb d_mo_over_47 rfl (lv_at hl 2 rfl) ?_
          have hPc := hP.sub (ws' := [(m0, .inr (4, [.int 0, .int mk, .int mv, .ref mu, .ref md, .long up, .long dn, .int mr, .ref mc, .ref me, .int so, .ref mau, .ref mad, .int mw, .ref mwg, .ref mgv, .ref msq]))]) [0] rfl
          have hKc := hK.sub (tys' := []) [] rfl
          refine vp_callSi (W.runV (As := [.int b]) (rest := []) ⟨hx, hb, hml, hown, hT⟩ (c_mo_isValue l dC dI m0 0 mk mv mu md up dn mr mc me so mau mad mw mwg mgv msq b) (cwV 1 hT (kt_V k_152 k_150 k_151 k_136 k_149) rfl rfl rfl (by decide +kernel) ⟨Nat.le_of_ble_eq_true rfl, Nat.le_of_ble_eq_true rfl⟩) ⟨bl_R, va_recv hKc hPc (ci := 4) (q0 := 0) rfl rfl, fun U hU hW => ⟨rfl, by rw [hU]; exact hPc, va_K.moved hW.alike hKc⟩⟩ rfl rfl hl.1 rfl (lv_room (Nat.le_of_ble_eq_true rfl)) d_mo_over_48 ⟨Nat.zero_le _, Nat.zero_le _⟩) (fun r_13 e_r_13 => ?_)
          subst e_r_13
          refine lv_if_ne (tgt := 58) hx hb d_mo_over_51 (by decide) (fun c_14 => ?_) (fun c_14 => ?_)
          · refine lv_aload_n hx hb d_mo_over_58 rfl (lv_at hl 0 rfl) ?_
            refine lv_aload_n hx hb d_mo_over_59 rfl (lv_at hl 0 rfl) ?_
            refine va_get (D := (dC, dI)) (ci := 4) (v := .ref mu) (C := R_mo) (T := F_mo) (N := 17) hx hb hT i_mo hown hK hP 0 rfl rfl 3 (by decide) (hT _ k_143) (fun _ h9 => h9) rfl d_mo_over_60 ?_
            refine lv_iload_n hx hb d_mo_over_63 rfl (lv_at hl 1 rfl) ?_
            refine va_lald hx hb hK hP 1 0 rfl rfl (in_iv hv c_12) d_mo_over_64 ?_
            refine lv_aload_n hx hb d_mo_over_65 rfl (lv_at hl 0 rfl) ?_
            refine va_get (D := (dC, dI)) (ci := 4) (v := .ref md) (C := R_mo) (T := F_mo) (N := 17) hx hb hT i_mo hown hK hP 0 rfl rfl 4 (by decide) (hT _ k_144) (fun _ h9 => h9) rfl d_mo_over_66 ?_
            refine lv_iload_n hx hb d_mo_over_69 rfl (lv_at hl 2 rfl) ?_
            refine va_lald hx hb hK hP 2 1 rfl rfl (in_iv hv c_14) d_mo_over_70 ?_
            refine lv_lmul hx hb d_mo_over_71 ?_
            refine lv_aload_n hx hb d_mo_over_72 rfl (lv_at hl 0 rfl) ?_
            refine va_get (D := (dC, dI)) (ci := 4) (v := .ref md) (C := R_mo) (T := F_mo) (N := 17) hx hb hT i_mo hown hK hP 0 rfl rfl 4 (by decide) (hT _ k_144) (fun _ h9 => h9) rfl d_mo_over_73 ?_
            refine lv_iload_n hx hb d_mo_over_76 rfl (lv_at hl 1 rfl) ?_
            refine va_lald hx hb hK hP 2 1 rfl rfl (in_iv hv c_12) d_mo_over_77 ?_
            refine lv_aload_n hx hb d_mo_over_78 rfl (lv_at hl 0 rfl) ?_
            refine va_get (D := (dC, dI)) (ci := 4) (v := .ref mu) (C := R_mo) (T := F_mo) (N := 17) hx hb hT i_mo hown hK hP 0 rfl rfl 3 (by decide) (hT _ k_143) (fun _ h9 => h9) rfl d_mo_over_79 ?_
            refine lv_iload_n hx hb d_mo_over_82 rfl (lv_at hl 2 rfl) ?_
            refine va_lald hx hb hK hP 1 0 rfl rfl (in_iv hv c_14) d_mo_over_83 ?_
            refine lv_lmul hx hb d_mo_over_84 ?_
            have hPc := hP.sub (ws' := [(m0, .inr (4, [.int 0, .int mk, .int mv, .ref mu, .ref md, .long up, .long dn, .int mr, .ref mc, .ref me, .int so, .ref mau, .ref mad, .int mw, .ref mwg, .ref mgv, .ref msq])), (mu, .inl (cmu, 300, .inr (.inl gu))), (md, .inl (cmd, 300, .inr (.inl gd)))]) [0, 1, 2] rfl
            have hKc := hK.sub (tys' := [(cmu, .long), (cmd, .long)]) [0, 1] rfl
            have hDc := hD.sub (ws' := [(m0, .inr (4, [.int 0, .int mk, .int mv, .ref mu, .ref md, .long up, .long dn, .int mr, .ref mc, .ref me, .int so, .ref mau, .ref mad, .int mw, .ref mwg, .ref mgv, .ref msq])), (mu, .inl (cmu, 300, .inr (.inl gu))), (md, .inl (cmd, 300, .inr (.inl gd)))]) [0, 1, 2] (by decide) rfl
            have hFc := va_free (wc := [(m0, .inr (4, [.int 0, .int mk, .int mv, .ref mu, .ref md, .long up, .long dn, .int mr, .ref mc, .ref me, .int so, .ref mau, .ref mad, .int mw, .ref mwg, .ref mgv, .ref msq])), (mu, .inl (cmu, 300, .inr (.inl gu))), (md, .inl (cmd, 300, .inr (.inl gd)))]) hD hS hA [0, 1, 2] rfl
            refine va_calli (va_runV (As := [.long ((gu a.toNatClampNeg) * (gd b.toNatClampNeg)), .long ((gd a.toNatClampNeg) * (gu b.toNatClampNeg))]) (rest := []) ⟨hx, hb, hml, hown, hT⟩ (c_mo_keep l dC dI H.size m0 mu md 0 mk mv up dn mr mc me so mau mad mw mwg mgv msq cmu gu cmd gd ((gu a.toNatClampNeg) * (gd b.toNatClampNeg)) ((gd a.toNatClampNeg) * (gu b.toNatClampNeg)) (euc_all _ _) (hz c_12 c_14 c_9) hv) (cwV 2 hT (kt_V k_148 k_146 k_147 k_136 k_145) rfl rfl rfl (by decide +kernel) ⟨Nat.le_of_ble_eq_true rfl, Nat.le_of_ble_eq_true rfl⟩) ⟨bl_M, va_recv hKc hPc (ci := 4) (q0 := 0) rfl rfl, fun U hU hW => ⟨rfl, by rw [hU], by rw [hU]; exact hPc, va_K.moved hW.alike hKc, hDc.weaken (fun _ _ _ _ => trivial)⟩⟩ rfl rfl hl.1 rfl (lv_room (Nat.le_of_ble_eq_true rfl)) d_mo_over_85 ⟨Nat.zero_le _, Nat.zero_le _⟩) hS (fun q _ h => hFc q h) hFc (fun r_15 u t H1 locs ht hvm hw hB hz1 hk1 hS => ?_)
            obtain ⟨gu_15, gd_15, mv_15, up_15, dn_15⟩ := u
            obtain ⟨hP1, hK1, hD1⟩ := hB
            rw [ht] at hP1
            obtain ⟨hP, hD⟩ := va_join (wr := []) (w1 := [(m0, .inr (4, [.int 0, .int mk, .int mv_15, .ref mu, .ref md, .long up_15, .long dn_15, .int mr, .ref mc, .ref me, .int so, .ref mau, .ref mad, .int mw, .ref mwg, .ref mgv, .ref msq])), (mu, .inl (cmu, 300, .inr (.inl gu_15))), (md, .inl (cmd, 300, .inr (.inl gd_15)))]) hP hD [0, 1, 2] [] rfl rfl (by decide) (by decide) hk1 hFc hP1 hD1
            generalize H1 = H at hP hS ⊢
            have hP := hP.sub (ws' := [(m0, .inr (4, [.int 0, .int mk, .int mv_15, .ref mu, .ref md, .long up_15, .long dn_15, .int mr, .ref mc, .ref me, .int so, .ref mau, .ref mad, .int mw, .ref mwg, .ref mgv, .ref msq])), (mu, .inl (cmu, 300, .inr (.inl gu_15))), (md, .inl (cmd, 300, .inr (.inl gd_15)))]) [0, 1, 2] rfl
            have hD := hD.sub (ws' := [(m0, .inr (4, [.int 0, .int mk, .int mv_15, .ref mu, .ref md, .long up_15, .long dn_15, .int mr, .ref mc, .ref me, .int so, .ref mau, .ref mad, .int mw, .ref mwg, .ref mgv, .ref msq])), (mu, .inl (cmu, 300, .inr (.inl gu_15))), (md, .inl (cmd, 300, .inr (.inl gd_15)))]) [0, 1, 2] (by decide) rfl
            have e_r_15 : r_15 = (f_mo_keep mv gu gd ((gu a.toNatClampNeg) * (gd b.toNatClampNeg)) ((gd a.toNatClampNeg) * (gu b.toNatClampNeg))).1 := congrArg (fun z => z.1) hw
            have e_gu_15 : gu_15 = (f_mo_keep mv gu gd ((gu a.toNatClampNeg) * (gd b.toNatClampNeg)) ((gd a.toNatClampNeg) * (gu b.toNatClampNeg))).2.1 := congrArg (fun z => z.2.1) hw
            have e_gd_15 : gd_15 = (f_mo_keep mv gu gd ((gu a.toNatClampNeg) * (gd b.toNatClampNeg)) ((gd a.toNatClampNeg) * (gu b.toNatClampNeg))).2.2.1 := congrArg (fun z => z.2.2.1) hw
            have e_mv_15 : mv_15 = (f_mo_keep mv gu gd ((gu a.toNatClampNeg) * (gd b.toNatClampNeg)) ((gd a.toNatClampNeg) * (gu b.toNatClampNeg))).2.2.2.1 := congrArg (fun z => z.2.2.2.1) hw
            have e_up_15 : up_15 = (f_mo_keep mv gu gd ((gu a.toNatClampNeg) * (gd b.toNatClampNeg)) ((gd a.toNatClampNeg) * (gu b.toNatClampNeg))).2.2.2.2.1 := congrArg (fun z => z.2.2.2.2.1) hw
            have e_dn_15 : dn_15 = (f_mo_keep mv gu gd ((gu a.toNatClampNeg) * (gd b.toNatClampNeg)) ((gd a.toNatClampNeg) * (gu b.toNatClampNeg))).2.2.2.2.2 := congrArg (fun z => z.2.2.2.2.2) hw
            subst e_r_15 e_gu_15 e_gd_15 e_mv_15 e_up_15 e_dn_15
            clear hP1 hK1 hD1 hk1 hz1 hFc hDc hPc hKc
            exact W.iret (v := (f_mo_keep mv gu gd ((gu a.toNatClampNeg) * (gd b.toNatClampNeg)) ((gd a.toNatClampNeg) * (gu b.toNatClampNeg))).1) hx hb hr (fun t ht hW => ⟨⟨(f_mo_keep mv gu gd ((gu a.toNatClampNeg) * (gd b.toNatClampNeg)) ((gd a.toNatClampNeg) * (gu b.toNatClampNeg))).1, (0, (f_mo_keep mv gu gd ((gu a.toNatClampNeg) * (gd b.toNatClampNeg)) ((gd a.toNatClampNeg) * (gu b.toNatClampNeg))).2.1, (f_mo_keep mv gu gd ((gu a.toNatClampNeg) * (gd b.toNatClampNeg)) ((gd a.toNatClampNeg) * (gu b.toNatClampNeg))).2.2.1, (f_mo_keep mv gu gd ((gu a.toNatClampNeg) * (gd b.toNatClampNeg)) ((gd a.toNatClampNeg) * (gu b.toNatClampNeg))).2.2.2.1, (f_mo_keep mv gu gd ((gu a.toNatClampNeg) * (gd b.toNatClampNeg)) ((gd a.toNatClampNeg) * (gu b.toNatClampNeg))).2.2.2.2.1, (f_mo_keep mv gu gd ((gu a.toNatClampNeg) * (gd b.toNatClampNeg)) ((gd a.toNatClampNeg) * (gu b.toNatClampNeg))).2.2.2.2.2), rfl, by unfold f_mo_over; rw [if_neg c_2, if_neg c_9, if_neg c_12, if_neg c_14], by rw [ht]; exact hP, va_K.moved hW.alike hK, hD⟩, hS.F ht⟩) hS.2.2 d_mo_over_88
          · refine lv_iconst (v := (-1)) hx hb d_mo_over_54 (by decide) ?_
            refine lv_goto (tgt := 88) hx hb d_mo_over_55 (by decide) ?_
            exact W.iret (v := (-1)) hx hb hr (fun t ht hW => ⟨⟨(-1), (0, gu, gd, mv, up, dn), rfl, by unfold f_mo_over; rw [if_neg c_2, if_neg c_9, if_neg c_12, if_pos c_14], by rw [ht]; exact hP, va_K.moved hW.alike hK, hD⟩, hS.F ht⟩) hS.2.2 d_mo_over_88
      · exact absurd c_10 (by decide)
    · refine lv_iconst (v := 1) hx hb d_mo_over_20 (by decide) ?_
      refine lv_goto (tgt := 25) hx hb d_mo_over_21 (by decide) ?_
      refine va_put (D := (dC, dI)) (ci := 4) (v := .int 1) (ty := .int) (C := R_mo) (T := F_mo) (N := 17) hx hb hT i_mo t_mo t_mo_ok n_mo hown hK hP hD hS 0 rfl rfl 0 (by decide) (hT _ k_127) (fun _ h9 => h9) rfl (by decide +kernel) rfl rfl (Nat.le_of_ble_eq_true rfl) d_mo_over_25 (fun H locs hP hD hS => ?_)
      have hP : va_P (dC, dI) classes [(m0, .inr (4, [.int 1, .int mk, .int mv, .ref mu, .ref md, .long up, .long dn, .int mr, .ref mc, .ref me, .int so, .ref mau, .ref mad, .int mw, .ref mwg, .ref mgv, .ref msq])), (mu, .inl (cmu, 300, .inr (.inl gu))), (md, .inl (cmd, 300, .inr (.inl gd)))] H := hP
      have hD : va_D A [(m0, .inr (4, [.int 1, .int mk, .int mv, .ref mu, .ref md, .long up, .long dn, .int mr, .ref mc, .ref me, .int so, .ref mau, .ref mad, .int mw, .ref mwg, .ref mgv, .ref msq])), (mu, .inl (cmu, 300, .inr (.inl gu))), (md, .inl (cmd, 300, .inr (.inl gd)))] := hD
      refine lv_aload_n hx hb d_mo_over_28 rfl (lv_at hl 0 rfl) ?_
      refine va_get (D := (dC, dI)) (ci := 4) (v := .int 1) (C := R_mo) (T := F_mo) (N := 17) hx hb hT i_mo hown hK hP 0 rfl rfl 0 (by decide) (hT _ k_127) (fun _ h9 => h9) rfl d_mo_over_29 ?_
      refine lv_iconst (v := 1) hx hb d_mo_over_32 (by decide) ?_
      refine lv_icmp_ne (tgt := 38) hx hb d_mo_over_33 (by decide) (fun c_16 => ?_) (fun c_16 => ?_)
      · exact absurd c_16 (by decide)
      · refine lv_iconst (v := 0) hx hb d_mo_over_36 (by decide) ?_
        exact W.iret (v := 0) hx hb hr (fun t ht hW => ⟨⟨0, (1, gu, gd, mv, up, dn), rfl, by unfold f_mo_over; rw [if_neg c_2, if_pos c_9], by rw [ht]; exact hP, va_K.moved hW.alike hK, hD⟩, hS.F ht⟩) hS.2.2 d_mo_over_37
def f_mo_order (mv : Int32) (gu : Nat → Int64) (gd : Nat → Int64) (a : Int32) (b : Int32) : Int32 × Int32 :=
  if (f_mo_isValue mv a) = 0 then ((-2), 0) else if (f_mo_isValue mv b) = 0 then ((-2), 0) else if ((gu b.toNatClampNeg) * (gd a.toNatClampNeg)) ≤ ((gu a.toNatClampNeg) * (gd b.toNatClampNeg)) then if ((gu a.toNatClampNeg) * (gd b.toNatClampNeg)) ≤ ((gu b.toNatClampNeg) * (gd a.toNatClampNeg)) then (0, 0) else (1, 0) else ((-1), 0)
set_option maxHeartbeats 4000000 in
set_option maxRecDepth 100000 in
theorem c_mo_order (l : Launch) (dC : Nat → ClassId) (dI : Nat → Nat → Nat) (sz : Nat) (m0 : Nat) (mu : Nat) (md : Nat) (th : Int32) (mk : Int32) (mv : Int32) (up : Int64) (dn : Int64) (mr : Int32) (mc : Nat) (me : Nat) (so : Int32) (mau : Nat) (mad : Nat) (mw : Int32) (mwg : Nat) (mgv : Nat) (msq : Nat) (cmu : ClassId) (gu : Nat → Int64) (cmd : ClassId) (gd : Nat → Int64) (a : Int32) (b : Int32) (hv : vp_in mv 301) : Met l y_mo_order w_mo_order ({ frames := 1, cells := 0, slots := 0, locals := 21 }) (va_Pc [.ref m0, .int a, .int b] (fun U => U.heap.size = sz ∧ va_P (dC, dI) classes [(m0, .inr (4, [.int th, .int mk, .int mv, .ref mu, .ref md, .long up, .long dn, .int mr, .ref mc, .ref me, .int so, .ref mau, .ref mad, .int mw, .ref mwg, .ref mgv, .ref msq])), (mu, .inl (cmu, 300, .inr (.inl gu))), (md, .inl (cmd, 300, .inr (.inl gd)))] U.heap ∧ va_K (dC, dI) classes [(cmu, .long), (cmd, .long)] U ∧ va_D (fun _ => True) [(m0, .inr (4, [.int th, .int mk, .int mv, .ref mu, .ref md, .long up, .long dn, .int mr, .ref mc, .ref me, .int so, .ref mau, .ref mad, .int mw, .ref mwg, .ref mgv, .ref msq])), (mu, .inl (cmu, 300, .inr (.inl gu))), (md, .inl (cmd, 300, .inr (.inl gd)))])) (va_Qi (fun z9 u9 => (z9, u9) = f_mo_order mv gu gd a b) (fun (u : Int32) t => match u with | th' => va_P (dC, dI) classes [(m0, .inr (4, [.int th', .int mk, .int mv, .ref mu, .ref md, .long up, .long dn, .int mr, .ref mc, .ref me, .int so, .ref mau, .ref mad, .int mw, .ref mwg, .ref mgv, .ref msq])), (mu, .inl (cmu, 300, .inr (.inl gu))), (md, .inl (cmd, 300, .inr (.inl gd)))] t.heap ∧ va_K (dC, dI) classes [(cmu, .long), (cmd, .long)] t ∧ va_D (va_A [(m0, .inr (4, [.int th, .int mk, .int mv, .ref mu, .ref md, .long up, .long dn, .int mr, .ref mc, .ref me, .int so, .ref mau, .ref mad, .int mw, .ref mwg, .ref mgv, .ref msq])), (mu, .inl (cmu, 300, .inr (.inl gu))), (md, .inl (cmd, 300, .inr (.inl gd)))] sz) [(m0, .inr (4, [.int th', .int mk, .int mv, .ref mu, .ref md, .long up, .long dn, .int mr, .ref mc, .ref me, .int so, .ref mau, .ref mad, .int mw, .ref mwg, .ref mgv, .ref msq])), (mu, .inl (cmu, 300, .inr (.inl gu))), (md, .inl (cmd, 300, .inr (.inl gd)))]) (va_A [(m0, .inr (4, [.int th, .int mk, .int mv, .ref mu, .ref md, .long up, .long dn, .int mr, .ref mc, .ref me, .int so, .ref mau, .ref mad, .int mw, .ref mwg, .ref mgv, .ref msq])), (mu, .inl (cmu, 300, .inr (.inl gu))), (md, .inl (cmd, 300, .inr (.inl gd)))] sz)) 0 0 (va_A [(m0, .inr (4, [.int th, .int mk, .int mv, .ref mu, .ref md, .long up, .long dn, .int mr, .ref mc, .ref me, .int so, .ref mau, .ref mad, .int mw, .ref mwg, .ref mgv, .ref msq])), (mu, .inl (cmu, 300, .inr (.inl gu))), (md, .inl (cmd, 300, .inr (.inl gd)))] sz) := by
  refine Met.ofW (cc := b_mo_order) (maxL := 7) (ret := (some .int)) (by decide +kernel) rfl ?_
  intro p e s m args below meth c s₁ B hml hv
  obtain ⟨rfl, hsz, hP, hK, hD0⟩ := hv
  have hx := B.exec
  have hb := B.bytes
  have hr := B.returns
  have hts := atoms_spec (ws := w_mo_order) B.pre
  have hT := fun (w : Cond) (h : w ∈ kt_T) => hts w (List.mem_cons_of_mem _ h)
  have hown : s.vm.findClass R_mo = some m.cls := findClass_of_methodNamed B.named
  have hlocks := B.notSynchronized
  subst hsz
  have hD := hD0.self (sz := s.heap.size)
  generalize hAe : va_A [(m0, .inr (4, [.int th, .int mk, .int mv, .ref mu, .ref md, .long up, .long dn, .int mr, .ref mc, .ref me, .int so, .ref mau, .ref mad, .int mw, .ref mwg, .ref mgv, .ref msq])), (mu, .inl (cmu, 300, .inr (.inl gu))), (md, .inl (cmd, 300, .inr (.inl gd)))] s.heap.size = A at hD ⊢
  have hA : ∀ q : Nat, s.heap.size ≤ q → A q := fun q h => by rw [← hAe]; exact Or.inr h
  have hS : va_S A s.heap s.heap [] := va_S.rf
  have hl := lv_entry ([.ref m0, .int a, .int b]) (n := 7) (Nat.le_of_ble_eq_true rfl)
  rw [lg_entry_eq]
  generalize (lg_sl ([.ref m0, .int a, .int b]) ++ List.replicate (7 - (lg_sl ([.ref m0, .int a, .int b])).length) Slot.unset).toArray = ls at hl ⊢
  have hl : lv_has ls 7 [(0, .ref m0), (1, .int a), (2, .int b)] := hl
  refine lv_aload_n hx hb d_mo_order_0 rfl (lv_at hl 0 rfl) ?_
  refine lv_iconst (v := 0) hx hb d_mo_order_1 (by decide) ?_
  refine va_put (D := (dC, dI)) (ci := 4) (v := .int 0) (ty := .int) (C := R_mo) (T := F_mo) (N := 17) hx hb hT i_mo t_mo t_mo_ok n_mo hown hK hP hD hS 0 rfl rfl 0 (by decide) (hT _ k_127) (fun _ h9 => h9) rfl (by decide +kernel) rfl rfl (Nat.le_of_ble_eq_true rfl) d_mo_order_2 (fun H locs hP hD hS => ?_)
  have hP : va_P (dC, dI) classes [(m0, .inr (4, [.int 0, .int mk, .int mv, .ref mu, .ref md, .long up, .long dn, .int mr, .ref mc, .ref me, .int so, .ref mau, .ref mad, .int mw, .ref mwg, .ref mgv, .ref msq])), (mu, .inl (cmu, 300, .inr (.inl gu))), (md, .inl (cmd, 300, .inr (.inl gd)))] H := hP
  have hD : va_D A [(m0, .inr (4, [.int 0, .int mk, .int mv, .ref mu, .ref md, .long up, .long dn, .int mr, .ref mc, .ref me, .int so, .ref mau, .ref mad, .int mw, .ref mwg, .ref mgv, .ref msq])), (mu, .inl (cmu, 300, .inr (.inl gu))), (md, .inl (cmd, 300, .inr (.inl gd)))] := hD
  refine lv_aload_n hx hb d_mo_order_5 rfl (lv_at hl 0 rfl) ?_
  refine lv_iload_n hx hb d_mo_order_6 rfl (lv_at hl 1 rfl) ?_
  have hPc := hP.sub (ws' := [(m0, .inr (4, [.int 0, .int mk, .int mv, .ref mu, .ref md, .long up, .long dn, .int mr, .ref mc, .ref me, .int so, .ref mau, .ref mad, .int mw, .ref mwg, .ref mgv, .ref msq]))]) [0] rfl
  have hKc := hK.sub (tys' := []) [] rfl
  refine vp_callSi (W.runV (As := [.int a]) (rest := []) ⟨hx, hb, hml, hown, hT⟩ (c_mo_isValue l dC dI m0 0 mk mv mu md up dn mr mc me so mau mad mw mwg mgv msq a) (cwV 1 hT (kt_V k_152 k_150 k_151 k_136 k_149) rfl rfl rfl (by decide +kernel) ⟨Nat.le_of_ble_eq_true rfl, Nat.le_of_ble_eq_true rfl⟩) ⟨bl_R, va_recv hKc hPc (ci := 4) (q0 := 0) rfl rfl, fun U hU hW => ⟨rfl, by rw [hU]; exact hPc, va_K.moved hW.alike hKc⟩⟩ rfl rfl hl.1 rfl (lv_room (Nat.le_of_ble_eq_true rfl)) d_mo_order_7 ⟨Nat.zero_le _, Nat.zero_le _⟩) (fun r_1 e_r_1 => ?_)
  subst e_r_1
  refine lv_if_eq (tgt := 21) hx hb d_mo_order_10 (by decide) (fun c_2 => ?_) (fun c_2 => ?_)
  · refine lv_bipush (v := (-2)) hx hb d_mo_order_21 (by decide) ?_
    exact W.iret (v := (-2)) hx hb hr (fun t ht hW => ⟨⟨(-2), 0, rfl, by unfold f_mo_order; rw [if_pos c_2], by rw [ht]; exact hP, va_K.moved hW.alike hK, hD⟩, hS.F ht⟩) hS.2.2 d_mo_order_23
  · refine lv_aload_n hx hb d_mo_order_13 rfl (lv_at hl 0 rfl) ?_
    refine lv_iload_n hx hb d_mo_order_14 rfl (lv_at hl 2 rfl) ?_
    have hPc := hP.sub (ws' := [(m0, .inr (4, [.int 0, .int mk, .int mv, .ref mu, .ref md, .long up, .long dn, .int mr, .ref mc, .ref me, .int so, .ref mau, .ref mad, .int mw, .ref mwg, .ref mgv, .ref msq]))]) [0] rfl
    have hKc := hK.sub (tys' := []) [] rfl
    refine vp_callSi (W.runV (As := [.int b]) (rest := []) ⟨hx, hb, hml, hown, hT⟩ (c_mo_isValue l dC dI m0 0 mk mv mu md up dn mr mc me so mau mad mw mwg mgv msq b) (cwV 1 hT (kt_V k_152 k_150 k_151 k_136 k_149) rfl rfl rfl (by decide +kernel) ⟨Nat.le_of_ble_eq_true rfl, Nat.le_of_ble_eq_true rfl⟩) ⟨bl_R, va_recv hKc hPc (ci := 4) (q0 := 0) rfl rfl, fun U hU hW => ⟨rfl, by rw [hU]; exact hPc, va_K.moved hW.alike hKc⟩⟩ rfl rfl hl.1 rfl (lv_room (Nat.le_of_ble_eq_true rfl)) d_mo_order_15 ⟨Nat.zero_le _, Nat.zero_le _⟩) (fun r_3 e_r_3 => ?_)
    subst e_r_3
    refine lv_if_ne (tgt := 24) hx hb d_mo_order_18 (by decide) (fun c_4 => ?_) (fun c_4 => ?_)
    · refine lv_aload_n hx hb d_mo_order_24 rfl (lv_at hl 0 rfl) ?_
      refine va_get (D := (dC, dI)) (ci := 4) (v := .ref mu) (C := R_mo) (T := F_mo) (N := 17) hx hb hT i_mo hown hK hP 0 rfl rfl 3 (by decide) (hT _ k_143) (fun _ h9 => h9) rfl d_mo_order_25 ?_
      refine lv_iload_n hx hb d_mo_order_28 rfl (lv_at hl 1 rfl) ?_
      refine va_lald hx hb hK hP 1 0 rfl rfl (in_iv hv c_2) d_mo_order_29 ?_
      refine lv_aload_n hx hb d_mo_order_30 rfl (lv_at hl 0 rfl) ?_
      refine va_get (D := (dC, dI)) (ci := 4) (v := .ref md) (C := R_mo) (T := F_mo) (N := 17) hx hb hT i_mo hown hK hP 0 rfl rfl 4 (by decide) (hT _ k_144) (fun _ h9 => h9) rfl d_mo_order_31 ?_
      refine lv_iload_n hx hb d_mo_order_34 rfl (lv_at hl 2 rfl) ?_
      refine va_lald hx hb hK hP 2 1 rfl rfl (in_iv hv c_4) d_mo_order_35 ?_
      refine lv_lmul hx hb d_mo_order_36 ?_
      refine lv_lstore_n (lv' := [(3, .long ((gu a.toNatClampNeg) * (gd b.toNatClampNeg))), (0, .ref m0), (1, .int a), (2, .int b)]) hx hb d_mo_order_37 rfl hl (by decide) rfl (fun ls hl => ?_)
      refine lv_aload_n hx hb d_mo_order_38 rfl (lv_at hl 1 rfl) ?_
      refine va_get (D := (dC, dI)) (ci := 4) (v := .ref mu) (C := R_mo) (T := F_mo) (N := 17) hx hb hT i_mo hown hK hP 0 rfl rfl 3 (by decide) (hT _ k_143) (fun _ h9 => h9) rfl d_mo_order_39 ?_
      refine lv_iload_n hx hb d_mo_order_42 rfl (lv_at hl 3 rfl) ?_
      refine va_lald hx hb hK hP 1 0 rfl rfl (in_iv hv c_4) d_mo_order_43 ?_
      refine lv_aload_n hx hb d_mo_order_44 rfl (lv_at hl 1 rfl) ?_
      refine va_get (D := (dC, dI)) (ci := 4) (v := .ref md) (C := R_mo) (T := F_mo) (N := 17) hx hb hT i_mo hown hK hP 0 rfl rfl 4 (by decide) (hT _ k_144) (fun _ h9 => h9) rfl d_mo_order_45 ?_
      refine lv_iload_n hx hb d_mo_order_48 rfl (lv_at hl 2 rfl) ?_
      refine va_lald hx hb hK hP 2 1 rfl rfl (in_iv hv c_2) d_mo_order_49 ?_
      refine lv_lmul hx hb d_mo_order_50 ?_
      refine lv_lstore (lv' := [(5, .long ((gu b.toNatClampNeg) * (gd a.toNatClampNeg))), (3, .long ((gu a.toNatClampNeg) * (gd b.toNatClampNeg))), (0, .ref m0), (1, .int a), (2, .int b)]) hx hb d_mo_order_51 hl (by decide) rfl (fun ls hl => ?_)
      refine lv_lload_n hx hb d_mo_order_53 rfl (lv_at hl 1 rfl) ?_
      refine lv_lload hx hb d_mo_order_54 (lv_at hl 0 rfl) ?_
      refine lx_ifge (tgt := 64) hx hb d_mo_order_56 d_mo_order_57 (by decide) (fun c_5 => ?_) (fun c_5 => ?_)
      · refine lv_lload_n hx hb d_mo_order_64 rfl (lv_at hl 1 rfl) ?_
        refine lv_lload hx hb d_mo_order_65 (lv_at hl 0 rfl) ?_
        refine lx_ifle (tgt := 75) hx hb d_mo_order_67 d_mo_order_68 (by decide) (fun c_6 => ?_) (fun c_6 => ?_)
        · refine lv_iconst (v := 0) hx hb d_mo_order_75 (by decide) ?_
          exact W.iret (v := 0) hx hb hr (fun t ht hW => ⟨⟨0, 0, rfl, by unfold f_mo_order; rw [if_neg c_2, if_neg c_4, if_pos c_5, if_pos c_6], by rw [ht]; exact hP, va_K.moved hW.alike hK, hD⟩, hS.F ht⟩) hS.2.2 d_mo_order_76
        · refine lv_iconst (v := 1) hx hb d_mo_order_71 (by decide) ?_
          refine lv_goto (tgt := 76) hx hb d_mo_order_72 (by decide) ?_
          exact W.iret (v := 1) hx hb hr (fun t ht hW => ⟨⟨1, 0, rfl, by unfold f_mo_order; rw [if_neg c_2, if_neg c_4, if_pos c_5, if_neg c_6], by rw [ht]; exact hP, va_K.moved hW.alike hK, hD⟩, hS.F ht⟩) hS.2.2 d_mo_order_76
      · refine lv_iconst (v := (-1)) hx hb d_mo_order_60 (by decide) ?_
        refine lv_goto (tgt := 76) hx hb d_mo_order_61 (by decide) ?_
        exact W.iret (v := (-1)) hx hb hr (fun t ht hW => ⟨⟨(-1), 0, rfl, by unfold f_mo_order; rw [if_neg c_2, if_neg c_4, if_neg c_5], by rw [ht]; exact hP, va_K.moved hW.alike hK, hD⟩, hS.F ht⟩) hS.2.2 d_mo_order_76
    · refine lv_bipush (v := (-2)) hx hb d_mo_order_21 (by decide) ?_
      exact W.iret (v := (-2)) hx hb hr (fun t ht hW => ⟨⟨(-2), 0, rfl, by unfold f_mo_order; rw [if_neg c_2, if_pos c_4], by rw [ht]; exact hP, va_K.moved hW.alike hK, hD⟩, hS.F ht⟩) hS.2.2 d_mo_order_23
def f_mo_row (mr : Int32) : Int32 × Int32 × Int32 :=
  if mr = 20 then ((-1), 0, mr) else ((mr + 1) - 1, 0, mr + 1)
set_option maxHeartbeats 4000000 in
set_option maxRecDepth 100000 in
theorem c_mo_row (l : Launch) (dC : Nat → ClassId) (dI : Nat → Nat → Nat) (sz : Nat) (m0 : Nat) (th : Int32) (mk : Int32) (mv : Int32) (mu : Nat) (md : Nat) (up : Int64) (dn : Int64) (mr : Int32) (mc : Nat) (me : Nat) (so : Int32) (mau : Nat) (mad : Nat) (mw : Int32) (mwg : Nat) (mgv : Nat) (msq : Nat) : Met l y_mo_row w_mo_row ({ frames := 0, cells := 0, slots := 0, locals := 0 }) (va_Pc [.ref m0] (fun U => U.heap.size = sz ∧ va_P (dC, dI) classes [(m0, .inr (4, [.int th, .int mk, .int mv, .ref mu, .ref md, .long up, .long dn, .int mr, .ref mc, .ref me, .int so, .ref mau, .ref mad, .int mw, .ref mwg, .ref mgv, .ref msq]))] U.heap ∧ va_K (dC, dI) classes [] U ∧ va_D (fun _ => True) [(m0, .inr (4, [.int th, .int mk, .int mv, .ref mu, .ref md, .long up, .long dn, .int mr, .ref mc, .ref me, .int so, .ref mau, .ref mad, .int mw, .ref mwg, .ref mgv, .ref msq]))])) (va_Qi (fun z9 u9 => (z9, u9) = f_mo_row mr) (fun (u : Int32 × Int32) t => match u with | (th', mr') => va_P (dC, dI) classes [(m0, .inr (4, [.int th', .int mk, .int mv, .ref mu, .ref md, .long up, .long dn, .int mr', .ref mc, .ref me, .int so, .ref mau, .ref mad, .int mw, .ref mwg, .ref mgv, .ref msq]))] t.heap ∧ va_K (dC, dI) classes [] t ∧ va_D (va_A [(m0, .inr (4, [.int th, .int mk, .int mv, .ref mu, .ref md, .long up, .long dn, .int mr, .ref mc, .ref me, .int so, .ref mau, .ref mad, .int mw, .ref mwg, .ref mgv, .ref msq]))] sz) [(m0, .inr (4, [.int th', .int mk, .int mv, .ref mu, .ref md, .long up, .long dn, .int mr', .ref mc, .ref me, .int so, .ref mau, .ref mad, .int mw, .ref mwg, .ref mgv, .ref msq]))]) (va_A [(m0, .inr (4, [.int th, .int mk, .int mv, .ref mu, .ref md, .long up, .long dn, .int mr, .ref mc, .ref me, .int so, .ref mau, .ref mad, .int mw, .ref mwg, .ref mgv, .ref msq]))] sz)) 0 0 (va_A [(m0, .inr (4, [.int th, .int mk, .int mv, .ref mu, .ref md, .long up, .long dn, .int mr, .ref mc, .ref me, .int so, .ref mau, .ref mad, .int mw, .ref mwg, .ref mgv, .ref msq]))] sz) := by
  refine Met.ofW (cc := b_mo_row) (maxL := 1) (ret := (some .int)) (by decide +kernel) rfl ?_
  intro p e s m args below meth c s₁ B hml hv
  obtain ⟨rfl, hsz, hP, hK, hD0⟩ := hv
  have hx := B.exec
  have hb := B.bytes
  have hr := B.returns
  have hts := atoms_spec (ws := w_mo_row) B.pre
  have hT := fun (w : Cond) (h : w ∈ kt_T) => hts w (List.mem_cons_of_mem _ h)
  have hown : s.vm.findClass R_mo = some m.cls := findClass_of_methodNamed B.named
  have hlocks := B.notSynchronized
  subst hsz
  have hD := hD0.self (sz := s.heap.size)
  generalize hAe : va_A [(m0, .inr (4, [.int th, .int mk, .int mv, .ref mu, .ref md, .long up, .long dn, .int mr, .ref mc, .ref me, .int so, .ref mau, .ref mad, .int mw, .ref mwg, .ref mgv, .ref msq]))] s.heap.size = A at hD ⊢
  have hA : ∀ q : Nat, s.heap.size ≤ q → A q := fun q h => by rw [← hAe]; exact Or.inr h
  have hS : va_S A s.heap s.heap [] := va_S.rf
  have hl := lv_entry ([.ref m0]) (n := 1) (Nat.le_of_ble_eq_true rfl)
  rw [lg_entry_eq]
  generalize (lg_sl ([.ref m0]) ++ List.replicate (1 - (lg_sl ([.ref m0])).length) Slot.unset).toArray = ls at hl ⊢
  have hl : lv_has ls 1 [(0, .ref m0)] := hl
  refine lv_aload_n hx hb d_mo_row_0 rfl (lv_at hl 0 rfl) ?_
  refine lv_iconst (v := 0) hx hb d_mo_row_1 (by decide) ?_
  refine va_put (D := (dC, dI)) (ci := 4) (v := .int 0) (ty := .int) (C := R_mo) (T := F_mo) (N := 17) hx hb hT i_mo t_mo t_mo_ok n_mo hown hK hP hD hS 0 rfl rfl 0 (by decide) (hT _ k_127) (fun _ h9 => h9) rfl (by decide +kernel) rfl rfl (Nat.le_of_ble_eq_true rfl) d_mo_row_2 (fun H locs hP hD hS => ?_)
  have hP : va_P (dC, dI) classes [(m0, .inr (4, [.int 0, .int mk, .int mv, .ref mu, .ref md, .long up, .long dn, .int mr, .ref mc, .ref me, .int so, .ref mau, .ref mad, .int mw, .ref mwg, .ref mgv, .ref msq]))] H := hP
  have hD : va_D A [(m0, .inr (4, [.int 0, .int mk, .int mv, .ref mu, .ref md, .long up, .long dn, .int mr, .ref mc, .ref me, .int so, .ref mau, .ref mad, .int mw, .ref mwg, .ref mgv, .ref msq]))] := hD
  refine lv_aload_n hx hb d_mo_row_5 rfl (lv_at hl 0 rfl) ?_
  refine va_get (D := (dC, dI)) (ci := 4) (v := .int mr) (C := R_mo) (T := F_mo) (N := 17) hx hb hT i_mo hown hK hP 0 rfl rfl 7 (by decide) (hT _ k_129) (fun _ h9 => h9) rfl d_mo_row_6 ?_
  refine lv_bipush (v := 20) hx hb d_mo_row_9 (by decide) ?_
  refine lv_icmp_ne (tgt := 16) hx hb d_mo_row_11 (by decide) (fun c_1 => ?_) (fun c_1 => ?_)
  · refine lv_aload_n hx hb d_mo_row_16 rfl (lv_at hl 0 rfl) ?_
    refine lv_dup hx hb d_mo_row_17 rfl ?_
    refine va_get (D := (dC, dI)) (ci := 4) (v := .int mr) (C := R_mo) (T := F_mo) (N := 17) hx hb hT i_mo hown hK hP 0 rfl rfl 7 (by decide) (hT _ k_129) (fun _ h9 => h9) rfl d_mo_row_18 ?_
    refine lv_iconst (v := 1) hx hb d_mo_row_21 (by decide) ?_
    refine lv_iadd hx hb d_mo_row_22 ?_
    refine va_put (D := (dC, dI)) (ci := 4) (v := .int (mr + 1)) (ty := .int) (C := R_mo) (T := F_mo) (N := 17) hx hb hT i_mo t_mo t_mo_ok n_mo hown hK hP hD hS 0 rfl rfl 7 (by decide) (hT _ k_129) (fun _ h9 => h9) rfl (by decide +kernel) rfl rfl (Nat.le_of_ble_eq_true rfl) d_mo_row_23 (fun H locs hP hD hS => ?_)
    have hP : va_P (dC, dI) classes [(m0, .inr (4, [.int 0, .int mk, .int mv, .ref mu, .ref md, .long up, .long dn, .int (mr + 1), .ref mc, .ref me, .int so, .ref mau, .ref mad, .int mw, .ref mwg, .ref mgv, .ref msq]))] H := hP
    have hD : va_D A [(m0, .inr (4, [.int 0, .int mk, .int mv, .ref mu, .ref md, .long up, .long dn, .int (mr + 1), .ref mc, .ref me, .int so, .ref mau, .ref mad, .int mw, .ref mwg, .ref mgv, .ref msq]))] := hD
    refine lv_aload_n hx hb d_mo_row_26 rfl (lv_at hl 0 rfl) ?_
    refine va_get (D := (dC, dI)) (ci := 4) (v := .int (mr + 1)) (C := R_mo) (T := F_mo) (N := 17) hx hb hT i_mo hown hK hP 0 rfl rfl 7 (by decide) (hT _ k_129) (fun _ h9 => h9) rfl d_mo_row_27 ?_
    refine lv_iconst (v := 1) hx hb d_mo_row_30 (by decide) ?_
    refine lv_isub hx hb d_mo_row_31 ?_
    exact W.iret (v := (mr + 1) - 1) hx hb hr (fun t ht hW => ⟨⟨(mr + 1) - 1, (0, mr + 1), rfl, by unfold f_mo_row; rw [if_neg c_1], by rw [ht]; exact hP, va_K.moved hW.alike hK, hD⟩, hS.F ht⟩) hS.2.2 d_mo_row_32
  · refine lv_iconst (v := (-1)) hx hb d_mo_row_14 (by decide) ?_
    exact W.iret (v := (-1)) hx hb hr (fun t ht hW => ⟨⟨(-1), (0, mr), rfl, by unfold f_mo_row; rw [if_pos c_1], by rw [ht]; exact hP, va_K.moved hW.alike hK, hD⟩, hS.F ht⟩) hS.2.2 d_mo_row_15
theorem in_mrow {row mr : Int32} (hr : vp_in mr 21) (h : ¬ f_mo_isRow mr row = 0) : ∃ r, r < 20 ∧ row = nI r := by
  refine vp_in_of ?_ (by decide)
  rw [vp_in_iff] at hr ⊢
  unfold f_mo_isRow at h
  split at h
  · exact absurd rfl h
  · rename_i h1
    split at h
    · exact absurd rfl h
    · rename_i h2
      rw [Int32.lt_iff_toInt_lt, Int32.toInt_zero] at h1
      rw [Int32.le_iff_toInt_le] at h2
      omega
theorem in_mkind {kind mk : Int32} {nk : Nat} (hn : mk = nI nk ∧ nk ≤ 16) (h : ¬ f_mo_isKind mk kind = 0) : ∃ k, k < nk ∧ kind = nI k := by
  unfold f_mo_isKind at h
  split at h
  · exact absurd rfl h
  · rename_i h1
    split at h
    · exact absurd rfl h
    · rename_i h2
      obtain ⟨j, hj, rfl⟩ := nI_of h1
      rw [hn.1] at h2
      rcases Nat.lt_or_ge j nk with q | q
      · exact ⟨j, q, rfl⟩
      · exact absurd (nI_le q hj) h2
theorem in_mcell {nk : Nat} {row kind mk mr : Int32} (hn : mk = nI nk ∧ nk ≤ 16) (hr : vp_in mr 21) (h : ¬ f_mo_isRow mr row = 0) (hk : ¬ f_mo_isKind mk kind = 0) : vp_in ((16 * row) + kind) 320 := by
  obtain ⟨r, hr, e⟩ := in_mrow hr h
  obtain ⟨k, hk2, e2⟩ := in_mkind hn hk
  rw [e, e2, show (16 : Int32) = nI 16 from rfl, pk_mul, nI_add]
  exact vp_in_nI (by omega) (by decide)
theorem in_mcellj {nk j : Nat} {row mk mr : Int32} (hn : mk = nI nk ∧ nk ≤ 16) (hr : vp_in mr 21) (h : ¬ f_mo_isRow mr row = 0) (hj : j < nk) : vp_in ((16 * row) + (nI j)) 320 := by
  obtain ⟨r, hr, e⟩ := in_mrow hr h
  rw [e, show (16 : Int32) = nI 16 from rfl, pk_mul, nI_add]
  exact vp_in_nI (by omega) (by decide)
def f_mo_put (mk : Int32) (mv : Int32) (mr : Int32) (gc : Nat → Int32) (row : Int32) (kind : Int32) (v : Int32) : Int32 × Int32 × (Nat → Int32) :=
  if (f_mo_isRow mr row) = 0 then if (f_mo_isRow mr row) = 0 then (0, 0, gc) else if v = (-1) then (1, 0, upd gc (((16 * row) + kind).toNatClampNeg) v) else if (f_mo_isValue mv v) = 0 then (0, 0, gc) else (1, 0, upd gc (((16 * row) + kind).toNatClampNeg) v) else if (f_mo_isKind mk kind) = 0 then (0, 1, gc) else if (f_mo_isRow mr row) = 0 then (0, 0, gc) else if v = (-1) then (1, 0, upd gc (((16 * row) + kind).toNatClampNeg) v) else if (f_mo_isValue mv v) = 0 then (0, 0, gc) else (1, 0, upd gc (((16 * row) + kind).toNatClampNeg) v)
set_option maxHeartbeats 4000000 in
set_option maxRecDepth 100000 in
theorem c_mo_put (l : Launch) (dC : Nat → ClassId) (dI : Nat → Nat → Nat) (sz : Nat) (m0 : Nat) (mc : Nat) (th : Int32) (mk : Int32) (mv : Int32) (mu : Nat) (md : Nat) (up : Int64) (dn : Int64) (mr : Int32) (me : Nat) (so : Int32) (mau : Nat) (mad : Nat) (mw : Int32) (mwg : Nat) (mgv : Nat) (msq : Nat) (cmc : ClassId) (gc : Nat → Int32) (row : Int32) (kind : Int32) (v : Int32) (nk : Nat) (hn : mk = nI nk ∧ nk ≤ 16) (hmr : vp_in mr 21) : Met l y_mo_put w_mo_put ({ frames := 1, cells := 0, slots := 0, locals := 21 }) (va_Pc [.ref m0, .int row, .int kind, .int v] (fun U => U.heap.size = sz ∧ va_P (dC, dI) classes [(m0, .inr (4, [.int th, .int mk, .int mv, .ref mu, .ref md, .long up, .long dn, .int mr, .ref mc, .ref me, .int so, .ref mau, .ref mad, .int mw, .ref mwg, .ref mgv, .ref msq])), (mc, .inl (cmc, 320, .inl gc))] U.heap ∧ va_K (dC, dI) classes [(cmc, .int)] U ∧ va_D (fun _ => True) [(m0, .inr (4, [.int th, .int mk, .int mv, .ref mu, .ref md, .long up, .long dn, .int mr, .ref mc, .ref me, .int so, .ref mau, .ref mad, .int mw, .ref mwg, .ref mgv, .ref msq])), (mc, .inl (cmc, 320, .inl gc))])) (va_Qi (fun z9 u9 => (z9, u9) = f_mo_put mk mv mr gc row kind v) (fun (u : Int32 × (Nat → Int32)) t => match u with | (th', gc') => va_P (dC, dI) classes [(m0, .inr (4, [.int th', .int mk, .int mv, .ref mu, .ref md, .long up, .long dn, .int mr, .ref mc, .ref me, .int so, .ref mau, .ref mad, .int mw, .ref mwg, .ref mgv, .ref msq])), (mc, .inl (cmc, 320, .inl gc'))] t.heap ∧ va_K (dC, dI) classes [(cmc, .int)] t ∧ va_D (va_A [(m0, .inr (4, [.int th, .int mk, .int mv, .ref mu, .ref md, .long up, .long dn, .int mr, .ref mc, .ref me, .int so, .ref mau, .ref mad, .int mw, .ref mwg, .ref mgv, .ref msq])), (mc, .inl (cmc, 320, .inl gc))] sz) [(m0, .inr (4, [.int th', .int mk, .int mv, .ref mu, .ref md, .long up, .long dn, .int mr, .ref mc, .ref me, .int so, .ref mau, .ref mad, .int mw, .ref mwg, .ref mgv, .ref msq])), (mc, .inl (cmc, 320, .inl gc'))]) (va_A [(m0, .inr (4, [.int th, .int mk, .int mv, .ref mu, .ref md, .long up, .long dn, .int mr, .ref mc, .ref me, .int so, .ref mau, .ref mad, .int mw, .ref mwg, .ref mgv, .ref msq])), (mc, .inl (cmc, 320, .inl gc))] sz)) 0 0 (va_A [(m0, .inr (4, [.int th, .int mk, .int mv, .ref mu, .ref md, .long up, .long dn, .int mr, .ref mc, .ref me, .int so, .ref mau, .ref mad, .int mw, .ref mwg, .ref mgv, .ref msq])), (mc, .inl (cmc, 320, .inl gc))] sz) := by
  refine Met.ofW (cc := b_mo_put) (maxL := 4) (ret := (some .boolean)) (by decide +kernel) rfl ?_
  intro p e s m args below meth c s₁ B hml hv
  obtain ⟨rfl, hsz, hP, hK, hD0⟩ := hv
  have hx := B.exec
  have hb := B.bytes
  have hr := B.returns
  have hts := atoms_spec (ws := w_mo_put) B.pre
  have hT := fun (w : Cond) (h : w ∈ kt_T) => hts w (List.mem_cons_of_mem _ h)
  have hown : s.vm.findClass R_mo = some m.cls := findClass_of_methodNamed B.named
  have hlocks := B.notSynchronized
  subst hsz
  have hD := hD0.self (sz := s.heap.size)
  generalize hAe : va_A [(m0, .inr (4, [.int th, .int mk, .int mv, .ref mu, .ref md, .long up, .long dn, .int mr, .ref mc, .ref me, .int so, .ref mau, .ref mad, .int mw, .ref mwg, .ref mgv, .ref msq])), (mc, .inl (cmc, 320, .inl gc))] s.heap.size = A at hD ⊢
  have hA : ∀ q : Nat, s.heap.size ≤ q → A q := fun q h => by rw [← hAe]; exact Or.inr h
  have hS : va_S A s.heap s.heap [] := va_S.rf
  have hl := lv_entry ([.ref m0, .int row, .int kind, .int v]) (n := 4) (Nat.le_of_ble_eq_true rfl)
  rw [lg_entry_eq]
  generalize (lg_sl ([.ref m0, .int row, .int kind, .int v]) ++ List.replicate (4 - (lg_sl ([.ref m0, .int row, .int kind, .int v])).length) Slot.unset).toArray = ls at hl ⊢
  have hl : lv_has ls 4 [(0, .ref m0), (1, .int row), (2, .int kind), (3, .int v)] := hl
  refine lv_aload_n hx hb d_mo_put_0 rfl (lv_at hl 0 rfl) ?_
  refine lv_aload_n hx hb d_mo_put_1 rfl (lv_at hl 0 rfl) ?_
  refine lv_iload_n hx hb d_mo_put_2 rfl (lv_at hl 1 rfl) ?_
  have hPc := hP.sub (ws' := [(m0, .inr (4, [.int th, .int mk, .int mv, .ref mu, .ref md, .long up, .long dn, .int mr, .ref mc, .ref me, .int so, .ref mau, .ref mad, .int mw, .ref mwg, .ref mgv, .ref msq]))]) [0] rfl
  have hKc := hK.sub (tys' := []) [] rfl
  refine vp_callSi (W.runV (As := [.int row]) (rest := [.ref m0]) ⟨hx, hb, hml, hown, hT⟩ (c_mo_isRow l dC dI m0 th mk mv mu md up dn mr mc me so mau mad mw mwg mgv msq row) (cwV 1 hT (kt_V k_156 k_154 k_155 k_136 k_153) rfl rfl rfl (by decide +kernel) ⟨Nat.le_of_ble_eq_true rfl, Nat.le_of_ble_eq_true rfl⟩) ⟨bl_R, va_recv hKc hPc (ci := 4) (q0 := 0) rfl rfl, fun U hU hW => ⟨rfl, by rw [hU]; exact hPc, va_K.moved hW.alike hKc⟩⟩ rfl rfl hl.1 rfl (lv_room (Nat.le_of_ble_eq_true rfl)) d_mo_put_3 ⟨Nat.zero_le _, Nat.zero_le _⟩) (fun r_1 e_r_1 => ?_)
  subst e_r_1
  refine lv_if_eq (tgt := 21) hx hb d_mo_put_6 (by decide) (fun c_2 => ?_) (fun c_2 => ?_)
  · refine lv_iconst (v := 0) hx hb d_mo_put_21 (by decide) ?_
    refine va_put (D := (dC, dI)) (ci := 4) (v := .int 0) (ty := .int) (C := R_mo) (T := F_mo) (N := 17) hx hb hT i_mo t_mo t_mo_ok n_mo hown hK hP hD hS 0 rfl rfl 0 (by decide) (hT _ k_127) (fun _ h9 => h9) rfl (by decide +kernel) rfl rfl (Nat.le_of_ble_eq_true rfl) d_mo_put_22 (fun H locs hP hD hS => ?_)
    have hP : va_P (dC, dI) classes [(m0, .inr (4, [.int 0, .int mk, .int mv, .ref mu, .ref md, .long up, .long dn, .int mr, .ref mc, .ref me, .int so, .ref mau, .ref mad, .int mw, .ref mwg, .ref mgv, .ref msq])), (mc, .inl (cmc, 320, .inl gc))] H := hP
    have hD : va_D A [(m0, .inr (4, [.int 0, .int mk, .int mv, .ref mu, .ref md, .long up, .long dn, .int mr, .ref mc, .ref me, .int so, .ref mau, .ref mad, .int mw, .ref mwg, .ref mgv, .ref msq])), (mc, .inl (cmc, 320, .inl gc))] := hD
    refine lv_aload_n hx hb d_mo_put_25 rfl (lv_at hl 0 rfl) ?_
    refine va_get (D := (dC, dI)) (ci := 4) (v := .int 0) (C := R_mo) (T := F_mo) (N := 17) hx hb hT i_mo hown hK hP 0 rfl rfl 0 (by decide) (hT _ k_127) (fun _ h9 => h9) rfl d_mo_put_26 ?_
    refine lv_iconst (v := 1) hx hb d_mo_put_29 (by decide) ?_
    refine lv_icmp_eq (tgt := 54) hx hb d_mo_put_30 (by decide) (fun c_3 => ?_) (fun c_3 => ?_)
    · exact absurd c_3 (by decide)
    · refine lv_aload_n hx hb d_mo_put_33 rfl (lv_at hl 0 rfl) ?_
      refine lv_iload_n hx hb d_mo_put_34 rfl (lv_at hl 1 rfl) ?_
      have hPc := hP.sub (ws' := [(m0, .inr (4, [.int 0, .int mk, .int mv, .ref mu, .ref md, .long up, .long dn, .int mr, .ref mc, .ref me, .int so, .ref mau, .ref mad, .int mw, .ref mwg, .ref mgv, .ref msq]))]) [0] rfl
      have hKc := hK.sub (tys' := []) [] rfl
      refine vp_callSi (W.runV (As := [.int row]) (rest := []) ⟨hx, hb, hml, hown, hT⟩ (c_mo_isRow l dC dI m0 0 mk mv mu md up dn mr mc me so mau mad mw mwg mgv msq row) (cwV 1 hT (kt_V k_156 k_154 k_155 k_136 k_153) rfl rfl rfl (by decide +kernel) ⟨Nat.le_of_ble_eq_true rfl, Nat.le_of_ble_eq_true rfl⟩) ⟨bl_R, va_recv hKc hPc (ci := 4) (q0 := 0) rfl rfl, fun U hU hW => ⟨rfl, by rw [hU]; exact hPc, va_K.moved hW.alike hKc⟩⟩ rfl rfl hl.1 rfl (lv_room (Nat.le_of_ble_eq_true rfl)) d_mo_put_35 ⟨Nat.zero_le _, Nat.zero_le _⟩) (fun r_4 e_r_4 => ?_)
      subst e_r_4
      refine lv_if_eq (tgt := 54) hx hb d_mo_put_38 (by decide) (fun c_5 => ?_) (fun c_5 => ?_)
      · refine lv_iconst (v := 0) hx hb d_mo_put_54 (by decide) ?_
        exact W.zret (v := 0) hx hb hr rfl (fun t ht hW => ⟨⟨0, (0, gc), rfl, by unfold f_mo_put; rw [if_pos c_2, if_pos c_5], by rw [ht]; exact hP, va_K.moved hW.alike hK, hD⟩, hS.F ht⟩) hS.2.2 d_mo_put_55
      · refine lv_iload_n hx hb d_mo_put_41 rfl (lv_at hl 3 rfl) ?_
        refine lv_iconst (v := (-1)) hx hb d_mo_put_42 (by decide) ?_
        refine lv_icmp_eq (tgt := 56) hx hb d_mo_put_43 (by decide) (fun c_6 => ?_) (fun c_6 => ?_)
        · refine lv_aload_n hx hb d_mo_put_56 rfl (lv_at hl 0 rfl) ?_
          refine va_get (D := (dC, dI)) (ci := 4) (v := .ref mc) (C := R_mo) (T := F_mo) (N := 17) hx hb hT i_mo hown hK hP 0 rfl rfl 8 (by decide) (hT _ k_157) (fun _ h9 => h9) rfl d_mo_put_57 ?_
          refine lv_bipush (v := 16) hx hb d_mo_put_60 (by decide) ?_
          refine lv_iload_n hx hb d_mo_put_62 rfl (lv_at hl 1 rfl) ?_
          refine lv_imul hx hb d_mo_put_63 ?_
          refine lv_iload_n hx hb d_mo_put_64 rfl (lv_at hl 2 rfl) ?_
          refine lv_iadd hx hb d_mo_put_65 ?_
          refine lv_iload_n hx hb d_mo_put_66 rfl (lv_at hl 3 rfl) ?_
          refine va_iast hx hb hK hP hD hS 1 0 rfl rfl (absurd c_2 c_5) d_mo_put_67 (fun H locs hP hD hS => ?_)
          have hP : va_P (dC, dI) classes [(m0, .inr (4, [.int 0, .int mk, .int mv, .ref mu, .ref md, .long up, .long dn, .int mr, .ref mc, .ref me, .int so, .ref mau, .ref mad, .int mw, .ref mwg, .ref mgv, .ref msq])), (mc, .inl (cmc, 320, .inl (upd gc (((16 * row) + kind).toNatClampNeg) v)))] H := hP
          have hD : va_D A [(m0, .inr (4, [.int 0, .int mk, .int mv, .ref mu, .ref md, .long up, .long dn, .int mr, .ref mc, .ref me, .int so, .ref mau, .ref mad, .int mw, .ref mwg, .ref mgv, .ref msq])), (mc, .inl (cmc, 320, .inl (upd gc (((16 * row) + kind).toNatClampNeg) v)))] := hD
          refine lv_iconst (v := 1) hx hb d_mo_put_68 (by decide) ?_
          exact W.zret (v := 1) hx hb hr rfl (fun t ht hW => ⟨⟨1, (0, upd gc (((16 * row) + kind).toNatClampNeg) v), rfl, by unfold f_mo_put; rw [if_pos c_2, if_neg c_5, if_pos c_6], by rw [ht]; exact hP, va_K.moved hW.alike hK, hD⟩, hS.F ht⟩) hS.2.2 d_mo_put_69
        · refine lv_aload_n hx hb d_mo_put_46 rfl (lv_at hl 0 rfl) ?_
          refine lv_iload_n hx hb d_mo_put_47 rfl (lv_at hl 3 rfl) ?_
          have hPc := hP.sub (ws' := [(m0, .inr (4, [.int 0, .int mk, .int mv, .ref mu, .ref md, .long up, .long dn, .int mr, .ref mc, .ref me, .int so, .ref mau, .ref mad, .int mw, .ref mwg, .ref mgv, .ref msq]))]) [0] rfl
          have hKc := hK.sub (tys' := []) [] rfl
          refine vp_callSi (W.runV (As := [.int v]) (rest := []) ⟨hx, hb, hml, hown, hT⟩ (c_mo_isValue l dC dI m0 0 mk mv mu md up dn mr mc me so mau mad mw mwg mgv msq v) (cwV 1 hT (kt_V k_152 k_150 k_151 k_136 k_149) rfl rfl rfl (by decide +kernel) ⟨Nat.le_of_ble_eq_true rfl, Nat.le_of_ble_eq_true rfl⟩) ⟨bl_R, va_recv hKc hPc (ci := 4) (q0 := 0) rfl rfl, fun U hU hW => ⟨rfl, by rw [hU]; exact hPc, va_K.moved hW.alike hKc⟩⟩ rfl rfl hl.1 rfl (lv_room (Nat.le_of_ble_eq_true rfl)) d_mo_put_48 ⟨Nat.zero_le _, Nat.zero_le _⟩) (fun r_7 e_r_7 => ?_)
          subst e_r_7
          refine lv_if_ne (tgt := 56) hx hb d_mo_put_51 (by decide) (fun c_8 => ?_) (fun c_8 => ?_)
          · refine lv_aload_n hx hb d_mo_put_56 rfl (lv_at hl 0 rfl) ?_
            refine va_get (D := (dC, dI)) (ci := 4) (v := .ref mc) (C := R_mo) (T := F_mo) (N := 17) hx hb hT i_mo hown hK hP 0 rfl rfl 8 (by decide) (hT _ k_157) (fun _ h9 => h9) rfl d_mo_put_57 ?_
            refine lv_bipush (v := 16) hx hb d_mo_put_60 (by decide) ?_
            refine lv_iload_n hx hb d_mo_put_62 rfl (lv_at hl 1 rfl) ?_
            refine lv_imul hx hb d_mo_put_63 ?_
            refine lv_iload_n hx hb d_mo_put_64 rfl (lv_at hl 2 rfl) ?_
            refine lv_iadd hx hb d_mo_put_65 ?_
            refine lv_iload_n hx hb d_mo_put_66 rfl (lv_at hl 3 rfl) ?_
            refine va_iast hx hb hK hP hD hS 1 0 rfl rfl (absurd c_2 c_5) d_mo_put_67 (fun H locs hP hD hS => ?_)
            have hP : va_P (dC, dI) classes [(m0, .inr (4, [.int 0, .int mk, .int mv, .ref mu, .ref md, .long up, .long dn, .int mr, .ref mc, .ref me, .int so, .ref mau, .ref mad, .int mw, .ref mwg, .ref mgv, .ref msq])), (mc, .inl (cmc, 320, .inl (upd gc (((16 * row) + kind).toNatClampNeg) v)))] H := hP
            have hD : va_D A [(m0, .inr (4, [.int 0, .int mk, .int mv, .ref mu, .ref md, .long up, .long dn, .int mr, .ref mc, .ref me, .int so, .ref mau, .ref mad, .int mw, .ref mwg, .ref mgv, .ref msq])), (mc, .inl (cmc, 320, .inl (upd gc (((16 * row) + kind).toNatClampNeg) v)))] := hD
            refine lv_iconst (v := 1) hx hb d_mo_put_68 (by decide) ?_
            exact W.zret (v := 1) hx hb hr rfl (fun t ht hW => ⟨⟨1, (0, upd gc (((16 * row) + kind).toNatClampNeg) v), rfl, by unfold f_mo_put; rw [if_pos c_2, if_neg c_5, if_neg c_6, if_neg c_8], by rw [ht]; exact hP, va_K.moved hW.alike hK, hD⟩, hS.F ht⟩) hS.2.2 d_mo_put_69
          · refine lv_iconst (v := 0) hx hb d_mo_put_54 (by decide) ?_
            exact W.zret (v := 0) hx hb hr rfl (fun t ht hW => ⟨⟨0, (0, gc), rfl, by unfold f_mo_put; rw [if_pos c_2, if_neg c_5, if_neg c_6, if_pos c_8], by rw [ht]; exact hP, va_K.moved hW.alike hK, hD⟩, hS.F ht⟩) hS.2.2 d_mo_put_55
  · refine lv_aload_n hx hb d_mo_put_9 rfl (lv_at hl 0 rfl) ?_
    refine lv_iload_n hx hb d_mo_put_10 rfl (lv_at hl 2 rfl) ?_
    have hPc := hP.sub (ws' := [(m0, .inr (4, [.int th, .int mk, .int mv, .ref mu, .ref md, .long up, .long dn, .int mr, .ref mc, .ref me, .int so, .ref mau, .ref mad, .int mw, .ref mwg, .ref mgv, .ref msq]))]) [0] rfl
    have hKc := hK.sub (tys' := []) [] rfl
    refine vp_callSi (W.runV (As := [.int kind]) (rest := [.ref m0]) ⟨hx, hb, hml, hown, hT⟩ (c_mo_isKind l dC dI m0 th mk mv mu md up dn mr mc me so mau mad mw mwg mgv msq kind) (cwV 1 hT (kt_V k_161 k_159 k_160 k_136 k_158) rfl rfl rfl (by decide +kernel) ⟨Nat.le_of_ble_eq_true rfl, Nat.le_of_ble_eq_true rfl⟩) ⟨bl_R, va_recv hKc hPc (ci := 4) (q0 := 0) rfl rfl, fun U hU hW => ⟨rfl, by rw [hU]; exact hPc, va_K.moved hW.alike hKc⟩⟩ rfl rfl hl.1 rfl (lv_room (Nat.le_of_ble_eq_true rfl)) d_mo_put_11 ⟨Nat.zero_le _, Nat.zero_le _⟩) (fun r_9 e_r_9 => ?_)
    subst e_r_9
    refine lv_if_ne (tgt := 21) hx hb d_mo_put_14 (by decide) (fun c_10 => ?_) (fun c_10 => ?_)
    · refine lv_iconst (v := 0) hx hb d_mo_put_21 (by decide) ?_
      refine va_put (D := (dC, dI)) (ci := 4) (v := .int 0) (ty := .int) (C := R_mo) (T := F_mo) (N := 17) hx hb hT i_mo t_mo t_mo_ok n_mo hown hK hP hD hS 0 rfl rfl 0 (by decide) (hT _ k_127) (fun _ h9 => h9) rfl (by decide +kernel) rfl rfl (Nat.le_of_ble_eq_true rfl) d_mo_put_22 (fun H locs hP hD hS => ?_)
      have hP : va_P (dC, dI) classes [(m0, .inr (4, [.int 0, .int mk, .int mv, .ref mu, .ref md, .long up, .long dn, .int mr, .ref mc, .ref me, .int so, .ref mau, .ref mad, .int mw, .ref mwg, .ref mgv, .ref msq])), (mc, .inl (cmc, 320, .inl gc))] H := hP
      have hD : va_D A [(m0, .inr (4, [.int 0, .int mk, .int mv, .ref mu, .ref md, .long up, .long dn, .int mr, .ref mc, .ref me, .int so, .ref mau, .ref mad, .int mw, .ref mwg, .ref mgv, .ref msq])), (mc, .inl (cmc, 320, .inl gc))] := hD
      refine lv_aload_n hx hb d_mo_put_25 rfl (lv_at hl 0 rfl) ?_
      refine va_get (D := (dC, dI)) (ci := 4) (v := .int 0) (C := R_mo) (T := F_mo) (N := 17) hx hb hT i_mo hown hK hP 0 rfl rfl 0 (by decide) (hT _ k_127) (fun _ h9 => h9) rfl d_mo_put_26 ?_
      refine lv_iconst (v := 1) hx hb d_mo_put_29 (by decide) ?_
      refine lv_icmp_eq (tgt := 54) hx hb d_mo_put_30 (by decide) (fun c_11 => ?_) (fun c_11 => ?_)
      · exact absurd c_11 (by decide)
      · refine lv_aload_n hx hb d_mo_put_33 rfl (lv_at hl 0 rfl) ?_
        refine lv_iload_n hx hb d_mo_put_34 rfl (lv_at hl 1 rfl) ?_
        have hPc := hP.sub (ws' := [(m0, .inr (4, [.int 0, .int mk, .int mv, .ref mu, .ref md, .long up, .long dn, .int mr, .ref mc, .ref me, .int so, .ref mau, .ref mad, .int mw, .ref mwg, .ref mgv, .ref msq]))]) [0] rfl
        have hKc := hK.sub (tys' := []) [] rfl
        refine vp_callSi (W.runV (As := [.int row]) (rest := []) ⟨hx, hb, hml, hown, hT⟩ (c_mo_isRow l dC dI m0 0 mk mv mu md up dn mr mc me so mau mad mw mwg mgv msq row) (cwV 1 hT (kt_V k_156 k_154 k_155 k_136 k_153) rfl rfl rfl (by decide +kernel) ⟨Nat.le_of_ble_eq_true rfl, Nat.le_of_ble_eq_true rfl⟩) ⟨bl_R, va_recv hKc hPc (ci := 4) (q0 := 0) rfl rfl, fun U hU hW => ⟨rfl, by rw [hU]; exact hPc, va_K.moved hW.alike hKc⟩⟩ rfl rfl hl.1 rfl (lv_room (Nat.le_of_ble_eq_true rfl)) d_mo_put_35 ⟨Nat.zero_le _, Nat.zero_le _⟩) (fun r_12 e_r_12 => ?_)
        subst e_r_12
        refine lv_if_eq (tgt := 54) hx hb d_mo_put_38 (by decide) (fun c_13 => ?_) (fun c_13 => ?_)
        · refine lv_iconst (v := 0) hx hb d_mo_put_54 (by decide) ?_
          exact W.zret (v := 0) hx hb hr rfl (fun t ht hW => ⟨⟨0, (0, gc), rfl, by unfold f_mo_put; rw [if_neg c_2, if_neg c_10, if_pos c_13], by rw [ht]; exact hP, va_K.moved hW.alike hK, hD⟩, hS.F ht⟩) hS.2.2 d_mo_put_55
        · refine lv_iload_n hx hb d_mo_put_41 rfl (lv_at hl 3 rfl) ?_
          refine lv_iconst (v := (-1)) hx hb d_mo_put_42 (by decide) ?_
          refine lv_icmp_eq (tgt := 56) hx hb d_mo_put_43 (by decide) (fun c_14 => ?_) (fun c_14 => ?_)
          · refine lv_aload_n hx hb d_mo_put_56 rfl (lv_at hl 0 rfl) ?_
            refine va_get (D := (dC, dI)) (ci := 4) (v := .ref mc) (C := R_mo) (T := F_mo) (N := 17) hx hb hT i_mo hown hK hP 0 rfl rfl 8 (by decide) (hT _ k_157) (fun _ h9 => h9) rfl d_mo_put_57 ?_
            refine lv_bipush (v := 16) hx hb d_mo_put_60 (by decide) ?_
            refine lv_iload_n hx hb d_mo_put_62 rfl (lv_at hl 1 rfl) ?_
            refine lv_imul hx hb d_mo_put_63 ?_
            refine lv_iload_n hx hb d_mo_put_64 rfl (lv_at hl 2 rfl) ?_
            refine lv_iadd hx hb d_mo_put_65 ?_
            refine lv_iload_n hx hb d_mo_put_66 rfl (lv_at hl 3 rfl) ?_
            refine va_iast hx hb hK hP hD hS 1 0 rfl rfl (in_mcell hn hmr c_2 c_10) d_mo_put_67 (fun H locs hP hD hS => ?_)
            have hP : va_P (dC, dI) classes [(m0, .inr (4, [.int 0, .int mk, .int mv, .ref mu, .ref md, .long up, .long dn, .int mr, .ref mc, .ref me, .int so, .ref mau, .ref mad, .int mw, .ref mwg, .ref mgv, .ref msq])), (mc, .inl (cmc, 320, .inl (upd gc (((16 * row) + kind).toNatClampNeg) v)))] H := hP
            have hD : va_D A [(m0, .inr (4, [.int 0, .int mk, .int mv, .ref mu, .ref md, .long up, .long dn, .int mr, .ref mc, .ref me, .int so, .ref mau, .ref mad, .int mw, .ref mwg, .ref mgv, .ref msq])), (mc, .inl (cmc, 320, .inl (upd gc (((16 * row) + kind).toNatClampNeg) v)))] := hD
            refine lv_iconst (v := 1) hx hb d_mo_put_68 (by decide) ?_
            exact W.zret (v := 1) hx hb hr rfl (fun t ht hW => ⟨⟨1, (0, upd gc (((16 * row) + kind).toNatClampNeg) v), rfl, by unfold f_mo_put; rw [if_neg c_2, if_neg c_10, if_neg c_13, if_pos c_14], by rw [ht]; exact hP, va_K.moved hW.alike hK, hD⟩, hS.F ht⟩) hS.2.2 d_mo_put_69
          · refine lv_aload_n hx hb d_mo_put_46 rfl (lv_at hl 0 rfl) ?_
            refine lv_iload_n hx hb d_mo_put_47 rfl (lv_at hl 3 rfl) ?_
            have hPc := hP.sub (ws' := [(m0, .inr (4, [.int 0, .int mk, .int mv, .ref mu, .ref md, .long up, .long dn, .int mr, .ref mc, .ref me, .int so, .ref mau, .ref mad, .int mw, .ref mwg, .ref mgv, .ref msq]))]) [0] rfl
            have hKc := hK.sub (tys' := []) [] rfl
            refine vp_callSi (W.runV (As := [.int v]) (rest := []) ⟨hx, hb, hml, hown, hT⟩ (c_mo_isValue l dC dI m0 0 mk mv mu md up dn mr mc me so mau mad mw mwg mgv msq v) (cwV 1 hT (kt_V k_152 k_150 k_151 k_136 k_149) rfl rfl rfl (by decide +kernel) ⟨Nat.le_of_ble_eq_true rfl, Nat.le_of_ble_eq_true rfl⟩) ⟨bl_R, va_recv hKc hPc (ci := 4) (q0 := 0) rfl rfl, fun U hU hW => ⟨rfl, by rw [hU]; exact hPc, va_K.moved hW.alike hKc⟩⟩ rfl rfl hl.1 rfl (lv_room (Nat.le_of_ble_eq_true rfl)) d_mo_put_48 ⟨Nat.zero_le _, Nat.zero_le _⟩) (fun r_15 e_r_15 => ?_)
            subst e_r_15
            refine lv_if_ne (tgt := 56) hx hb d_mo_put_51 (by decide) (fun c_16 => ?_) (fun c_16 => ?_)
            · refine lv_aload_n hx hb d_mo_put_56 rfl (lv_at hl 0 rfl) ?_
              refine va_get (D := (dC, dI)) (ci := 4) (v := .ref mc) (C := R_mo) (T := F_mo) (N := 17) hx hb hT i_mo hown hK hP 0 rfl rfl 8 (by decide) (hT _ k_157) (fun _ h9 => h9) rfl d_mo_put_57 ?_
              refine lv_bipush (v := 16) hx hb d_mo_put_60 (by decide) ?_
              refine lv_iload_n hx hb d_mo_put_62 rfl (lv_at hl 1 rfl) ?_
              refine lv_imul hx hb d_mo_put_63 ?_
              refine lv_iload_n hx hb d_mo_put_64 rfl (lv_at hl 2 rfl) ?_
              refine lv_iadd hx hb d_mo_put_65 ?_
              refine lv_iload_n hx hb d_mo_put_66 rfl (lv_at hl 3 rfl) ?_
              refine va_iast hx hb hK hP hD hS 1 0 rfl rfl (in_mcell hn hmr c_2 c_10) d_mo_put_67 (fun H locs hP hD hS => ?_)
              have hP : va_P (dC, dI) classes [(m0, .inr (4, [.int 0, .int mk, .int mv, .ref mu, .ref md, .long up, .long dn, .int mr, .ref mc, .ref me, .int so, .ref mau, .ref mad, .int mw, .ref mwg, .ref mgv, .ref msq])), (mc, .inl (cmc, 320, .inl (upd gc (((16 * row) + kind).toNatClampNeg) v)))] H := hP
              have hD : va_D A [(m0, .inr (4, [.int 0, .int mk, .int mv, .ref mu, .ref md, .long up, .long dn, .int mr, .ref mc, .ref me, .int so, .ref mau, .ref mad, .int mw, .ref mwg, .ref mgv, .ref msq])), (mc, .inl (cmc, 320, .inl (upd gc (((16 * row) + kind).toNatClampNeg) v)))] := hD
              refine lv_iconst (v := 1) hx hb d_mo_put_68 (by decide) ?_
              exact W.zret (v := 1) hx hb hr rfl (fun t ht hW => ⟨⟨1, (0, upd gc (((16 * row) + kind).toNatClampNeg) v), rfl, by unfold f_mo_put; rw [if_neg c_2, if_neg c_10, if_neg c_13, if_neg c_14, if_neg c_16], by rw [ht]; exact hP, va_K.moved hW.alike hK, hD⟩, hS.F ht⟩) hS.2.2 d_mo_put_69
            · refine lv_iconst (v := 0) hx hb d_mo_put_54 (by decide) ?_
              exact W.zret (v := 0) hx hb hr rfl (fun t ht hW => ⟨⟨0, (0, gc), rfl, by unfold f_mo_put; rw [if_neg c_2, if_neg c_10, if_neg c_13, if_neg c_14, if_pos c_16], by rw [ht]; exact hP, va_K.moved hW.alike hK, hD⟩, hS.F ht⟩) hS.2.2 d_mo_put_55
    · refine lv_iconst (v := 1) hx hb d_mo_put_17 (by decide) ?_
      refine lv_goto (tgt := 22) hx hb d_mo_put_18 (by decide) ?_
      refine va_put (D := (dC, dI)) (ci := 4) (v := .int 1) (ty := .int) (C := R_mo) (T := F_mo) (N := 17) hx hb hT i_mo t_mo t_mo_ok n_mo hown hK hP hD hS 0 rfl rfl 0 (by decide) (hT _ k_127) (fun _ h9 => h9) rfl (by decide +kernel) rfl rfl (Nat.le_of_ble_eq_true rfl) d_mo_put_22 (fun H locs hP hD hS => ?_)
      have hP : va_P (dC, dI) classes [(m0, .inr (4, [.int 1, .int mk, .int mv, .ref mu, .ref md, .long up, .long dn, .int mr, .ref mc, .ref me, .int so, .ref mau, .ref mad, .int mw, .ref mwg, .ref mgv, .ref msq])), (mc, .inl (cmc, 320, .inl gc))] H := hP
      have hD : va_D A [(m0, .inr (4, [.int 1, .int mk, .int mv, .ref mu, .ref md, .long up, .long dn, .int mr, .ref mc, .ref me, .int so, .ref mau, .ref mad, .int mw, .ref mwg, .ref mgv, .ref msq])), (mc, .inl (cmc, 320, .inl gc))] := hD
      refine lv_aload_n hx hb d_mo_put_25 rfl (lv_at hl 0 rfl) ?_
      refine va_get (D := (dC, dI)) (ci := 4) (v := .int 1) (C := R_mo) (T := F_mo) (N := 17) hx hb hT i_mo hown hK hP 0 rfl rfl 0 (by decide) (hT _ k_127) (fun _ h9 => h9) rfl d_mo_put_26 ?_
      refine lv_iconst (v := 1) hx hb d_mo_put_29 (by decide) ?_
      refine lv_icmp_eq (tgt := 54) hx hb d_mo_put_30 (by decide) (fun c_17 => ?_) (fun c_17 => ?_)
      · refine lv_iconst (v := 0) hx hb d_mo_put_54 (by decide) ?_
        exact W.zret (v := 0) hx hb hr rfl (fun t ht hW => ⟨⟨0, (1, gc), rfl, by unfold f_mo_put; rw [if_neg c_2, if_pos c_10], by rw [ht]; exact hP, va_K.moved hW.alike hK, hD⟩, hS.F ht⟩) hS.2.2 d_mo_put_55
      · exact absurd c_17 (by decide)
def f_mo_at (mk : Int32) (mr : Int32) (gc : Nat → Int32) (row : Int32) (kind : Int32) : Int32 × Int32 :=
  if (f_mo_isRow mr row) = 0 then if (f_mo_isRow mr row) = 0 then ((-1), 0) else (gc (((16 * row) + kind).toNatClampNeg), 0) else if (f_mo_isKind mk kind) = 0 then (0, 1) else if (f_mo_isRow mr row) = 0 then ((-1), 0) else (gc (((16 * row) + kind).toNatClampNeg), 0)
set_option maxHeartbeats 4000000 in
set_option maxRecDepth 100000 in
theorem c_mo_at (l : Launch) (dC : Nat → ClassId) (dI : Nat → Nat → Nat) (sz : Nat) (m0 : Nat) (mc : Nat) (th : Int32) (mk : Int32) (mv : Int32) (mu : Nat) (md : Nat) (up : Int64) (dn : Int64) (mr : Int32) (me : Nat) (so : Int32) (mau : Nat) (mad : Nat) (mw : Int32) (mwg : Nat) (mgv : Nat) (msq : Nat) (cmc : ClassId) (gc : Nat → Int32) (row : Int32) (kind : Int32) (nk : Nat) (hn : mk = nI nk ∧ nk ≤ 16) (hmr : vp_in mr 21) : Met l y_mo_at w_mo_at ({ frames := 1, cells := 0, slots := 0, locals := 21 }) (va_Pc [.ref m0, .int row, .int kind] (fun U => U.heap.size = sz ∧ va_P (dC, dI) classes [(m0, .inr (4, [.int th, .int mk, .int mv, .ref mu, .ref md, .long up, .long dn, .int mr, .ref mc, .ref me, .int so, .ref mau, .ref mad, .int mw, .ref mwg, .ref mgv, .ref msq])), (mc, .inl (cmc, 320, .inl gc))] U.heap ∧ va_K (dC, dI) classes [(cmc, .int)] U ∧ va_D (fun _ => True) [(m0, .inr (4, [.int th, .int mk, .int mv, .ref mu, .ref md, .long up, .long dn, .int mr, .ref mc, .ref me, .int so, .ref mau, .ref mad, .int mw, .ref mwg, .ref mgv, .ref msq])), (mc, .inl (cmc, 320, .inl gc))])) (va_Qi (fun z9 u9 => (z9, u9) = f_mo_at mk mr gc row kind) (fun (u : Int32) t => match u with | th' => va_P (dC, dI) classes [(m0, .inr (4, [.int th', .int mk, .int mv, .ref mu, .ref md, .long up, .long dn, .int mr, .ref mc, .ref me, .int so, .ref mau, .ref mad, .int mw, .ref mwg, .ref mgv, .ref msq])), (mc, .inl (cmc, 320, .inl gc))] t.heap ∧ va_K (dC, dI) classes [(cmc, .int)] t ∧ va_D (va_A [(m0, .inr (4, [.int th, .int mk, .int mv, .ref mu, .ref md, .long up, .long dn, .int mr, .ref mc, .ref me, .int so, .ref mau, .ref mad, .int mw, .ref mwg, .ref mgv, .ref msq])), (mc, .inl (cmc, 320, .inl gc))] sz) [(m0, .inr (4, [.int th', .int mk, .int mv, .ref mu, .ref md, .long up, .long dn, .int mr, .ref mc, .ref me, .int so, .ref mau, .ref mad, .int mw, .ref mwg, .ref mgv, .ref msq])), (mc, .inl (cmc, 320, .inl gc))]) (va_A [(m0, .inr (4, [.int th, .int mk, .int mv, .ref mu, .ref md, .long up, .long dn, .int mr, .ref mc, .ref me, .int so, .ref mau, .ref mad, .int mw, .ref mwg, .ref mgv, .ref msq])), (mc, .inl (cmc, 320, .inl gc))] sz)) 0 0 (va_A [(m0, .inr (4, [.int th, .int mk, .int mv, .ref mu, .ref md, .long up, .long dn, .int mr, .ref mc, .ref me, .int so, .ref mau, .ref mad, .int mw, .ref mwg, .ref mgv, .ref msq])), (mc, .inl (cmc, 320, .inl gc))] sz) := by
  refine Met.ofW (cc := b_mo_at) (maxL := 3) (ret := (some .int)) (by decide +kernel) rfl ?_
  intro p e s m args below meth c s₁ B hml hv
  obtain ⟨rfl, hsz, hP, hK, hD0⟩ := hv
  have hx := B.exec
  have hb := B.bytes
  have hr := B.returns
  have hts := atoms_spec (ws := w_mo_at) B.pre
  have hT := fun (w : Cond) (h : w ∈ kt_T) => hts w (List.mem_cons_of_mem _ h)
  have hown : s.vm.findClass R_mo = some m.cls := findClass_of_methodNamed B.named
  have hlocks := B.notSynchronized
  subst hsz
  have hD := hD0.self (sz := s.heap.size)
  generalize hAe : va_A [(m0, .inr (4, [.int th, .int mk, .int mv, .ref mu, .ref md, .long up, .long dn, .int mr, .ref mc, .ref me, .int so, .ref mau, .ref mad, .int mw, .ref mwg, .ref mgv, .ref msq])), (mc, .inl (cmc, 320, .inl gc))] s.heap.size = A at hD ⊢
  have hA : ∀ q : Nat, s.heap.size ≤ q → A q := fun q h => by rw [← hAe]; exact Or.inr h
  have hS : va_S A s.heap s.heap [] := va_S.rf
  have hl := lv_entry ([.ref m0, .int row, .int kind]) (n := 3) (Nat.le_of_ble_eq_true rfl)
  rw [lg_entry_eq]
  generalize (lg_sl ([.ref m0, .int row, .int kind]) ++ List.replicate (3 - (lg_sl ([.ref m0, .int row, .int kind])).length) Slot.unset).toArray = ls at hl ⊢
  have hl : lv_has ls 3 [(0, .ref m0), (1, .int row), (2, .int kind)] := hl
  refine lv_aload_n hx hb d_mo_at_0 rfl (lv_at hl 0 rfl) ?_
  refine lv_aload_n hx hb d_mo_at_1 rfl (lv_at hl 0 rfl) ?_
  refine lv_iload_n hx hb d_mo_at_2 rfl (lv_at hl 1 rfl) ?_
  have hPc := hP.sub (ws' := [(m0, .inr (4, [.int th, .int mk, .int mv, .ref mu, .ref md, .long up, .long dn, .int mr, .ref mc, .ref me, .int so, .ref mau, .ref mad, .int mw, .ref mwg, .ref mgv, .ref msq]))]) [0] rfl
  have hKc := hK.sub (tys' := []) [] rfl
  refine vp_callSi (W.runV (As := [.int row]) (rest := [.ref m0]) ⟨hx, hb, hml, hown, hT⟩ (c_mo_isRow l dC dI m0 th mk mv mu md up dn mr mc me so mau mad mw mwg mgv msq row) (cwV 1 hT (kt_V k_156 k_154 k_155 k_136 k_153) rfl rfl rfl (by decide +kernel) ⟨Nat.le_of_ble_eq_true rfl, Nat.le_of_ble_eq_true rfl⟩) ⟨bl_R, va_recv hKc hPc (ci := 4) (q0 := 0) rfl rfl, fun U hU hW => ⟨rfl, by rw [hU]; exact hPc, va_K.moved hW.alike hKc⟩⟩ rfl rfl hl.1 rfl (lv_room (Nat.le_of_ble_eq_true rfl)) d_mo_at_3 ⟨Nat.zero_le _, Nat.zero_le _⟩) (fun r_1 e_r_1 => ?_)
  subst e_r_1
  refine lv_if_eq (tgt := 21) hx hb d_mo_at_6 (by decide) (fun c_2 => ?_) (fun c_2 => ?_)
  · refine lv_iconst (v := 0) hx hb d_mo_at_21 (by decide) ?_
    refine va_put (D := (dC, dI)) (ci := 4) (v := .int 0) (ty := .int) (C := R_mo) (T := F_mo) (N := 17) hx hb hT i_mo t_mo t_mo_ok n_mo hown hK hP hD hS 0 rfl rfl 0 (by decide) (hT _ k_127) (fun _ h9 => h9) rfl (by decide +kernel) rfl rfl (Nat.le_of_ble_eq_true rfl) d_mo_at_22 (fun H locs hP hD hS => ?_)
    have hP : va_P (dC, dI) classes [(m0, .inr (4, [.int 0, .int mk, .int mv, .ref mu, .ref md, .long up, .long dn, .int mr, .ref mc, .ref me, .int so, .ref mau, .ref mad, .int mw, .ref mwg, .ref mgv, .ref msq])), (mc, .inl (cmc, 320, .inl gc))] H := hP
    have hD : va_D A [(m0, .inr (4, [.int 0, .int mk, .int mv, .ref mu, .ref md, .long up, .long dn, .int mr, .ref mc, .ref me, .int so, .ref mau, .ref mad, .int mw, .ref mwg, .ref mgv, .ref msq])), (mc, .inl (cmc, 320, .inl gc))] := hD
    refine lv_aload_n hx hb d_mo_at_25 rfl (lv_at hl 0 rfl) ?_
    refine va_get (D := (dC, dI)) (ci := 4) (v := .int 0) (C := R_mo) (T := F_mo) (N := 17) hx hb hT i_mo hown hK hP 0 rfl rfl 0 (by decide) (hT _ k_127) (fun _ h9 => h9) rfl d_mo_at_26 ?_
    refine lv_iconst (v := 1) hx hb d_mo_at_29 (by decide) ?_
    refine lv_icmp_ne (tgt := 37) hx hb d_mo_at_30 (by decide) (fun c_3 => ?_) (fun c_3 => ?_)
    · refine lv_aload_n hx hb d_mo_at_37 rfl (lv_at hl 0 rfl) ?_
      refine lv_iload_n hx hb d_mo_at_38 rfl (lv_at hl 1 rfl) ?_
      have hPc := hP.sub (ws' := [(m0, .inr (4, [.int 0, .int mk, .int mv, .ref mu, .ref md, .long up, .long dn, .int mr, .ref mc, .ref me, .int so, .ref mau, .ref mad, .int mw, .ref mwg, .ref mgv, .ref msq]))]) [0] rfl
      have hKc := hK.sub (tys' := []) [] rfl
      refine vp_callSi (W.runV (As := [.int row]) (rest := []) ⟨hx, hb, hml, hown, hT⟩ (c_mo_isRow l dC dI m0 0 mk mv mu md up dn mr mc me so mau mad mw mwg mgv msq row) (cwV 1 hT (kt_V k_156 k_154 k_155 k_136 k_153) rfl rfl rfl (by decide +kernel) ⟨Nat.le_of_ble_eq_true rfl, Nat.le_of_ble_eq_true rfl⟩) ⟨bl_R, va_recv hKc hPc (ci := 4) (q0 := 0) rfl rfl, fun U hU hW => ⟨rfl, by rw [hU]; exact hPc, va_K.moved hW.alike hKc⟩⟩ rfl rfl hl.1 rfl (lv_room (Nat.le_of_ble_eq_true rfl)) d_mo_at_39 ⟨Nat.zero_le _, Nat.zero_le _⟩) (fun r_4 e_r_4 => ?_)
      subst e_r_4
      refine lv_if_eq (tgt := 59) hx hb d_mo_at_42 (by decide) (fun c_5 => ?_) (fun c_5 => ?_)
      · refine lv_iconst (v := (-1)) hx hb d_mo_at_59 (by decide) ?_
        exact W.iret (v := (-1)) hx hb hr (fun t ht hW => ⟨⟨(-1), 0, rfl, by unfold f_mo_at; rw [if_pos c_2, if_pos c_5], by rw [ht]; exact hP, va_K.moved hW.alike hK, hD⟩, hS.F ht⟩) hS.2.2 d_mo_at_60
      · refine lv_aload_n hx hb d_mo_at_45 rfl (lv_at hl 0 rfl) ?_
        refine va_get (D := (dC, dI)) (ci := 4) (v := .ref mc) (C := R_mo) (T := F_mo) (N := 17) hx hb hT i_mo hown hK hP 0 rfl rfl 8 (by decide) (hT _ k_157) (fun _ h9 => h9) rfl d_mo_at_46 ?_
        refine lv_bipush (v := 16) hx hb d_mo_at_49 (by decide) ?_
        refine lv_iload_n hx hb d_mo_at_51 rfl (lv_at hl 1 rfl) ?_
        refine lv_imul hx hb d_mo_at_52 ?_
        refine lv_iload_n hx hb d_mo_at_53 rfl (lv_at hl 2 rfl) ?_
        refine lv_iadd hx hb d_mo_at_54 ?_
        refine va_iald hx hb hK hP 1 0 rfl rfl (absurd c_2 c_5) d_mo_at_55 ?_
        refine lv_goto (tgt := 60) hx hb d_mo_at_56 (by decide) ?_
        exact W.iret (v := gc (((16 * row) + kind).toNatClampNeg)) hx hb hr (fun t ht hW => ⟨⟨gc (((16 * row) + kind).toNatClampNeg), 0, rfl, by unfold f_mo_at; rw [if_pos c_2, if_neg c_5], by rw [ht]; exact hP, va_K.moved hW.alike hK, hD⟩, hS.F ht⟩) hS.2.2 d_mo_at_60
    · exact absurd c_3 (by decide)
  · refine lv_aload_n hx hb d_mo_at_9 rfl (lv_at hl 0 rfl) ?_
    refine lv_iload_n hx hb d_mo_at_10 rfl (lv_at hl 2 rfl) ?_
    have hPc := hP.sub (ws' := [(m0, .inr (4, [.int th, .int mk, .int mv, .ref mu, .ref md, .long up, .long dn, .int mr, .ref mc, .ref me, .int so, .ref mau, .ref mad, .int mw, .ref mwg, .ref mgv, .ref msq]))]) [0] rfl
    have hKc := hK.sub (tys' := []) [] rfl
    refine vp_callSi (W.runV (As := [.int kind]) (rest := [.ref m0]) ⟨hx, hb, hml, hown, hT⟩ (c_mo_isKind l dC dI m0 th mk mv mu md up dn mr mc me so mau mad mw mwg mgv msq kind) (cwV 1 hT (kt_V k_161 k_159 k_160 k_136 k_158) rfl rfl rfl (by decide +kernel) ⟨Nat.le_of_ble_eq_true rfl, Nat.le_of_ble_eq_true rfl⟩) ⟨bl_R, va_recv hKc hPc (ci := 4) (q0 := 0) rfl rfl, fun U hU hW => ⟨rfl, by rw [hU]; exact hPc, va_K.moved hW.alike hKc⟩⟩ rfl rfl hl.1 rfl (lv_room (Nat.le_of_ble_eq_true rfl)) d_mo_at_11 ⟨Nat.zero_le _, Nat.zero_le _⟩) (fun r_6 e_r_6 => ?_)
    subst e_r_6
    refine lv_if_ne (tgt := 21) hx hb d_mo_at_14 (by decide) (fun c_7 => ?_) (fun c_7 => ?_)
    · refine lv_iconst (v := 0) hx hb d_mo_at_21 (by decide) ?_
      refine va_put (D := (dC, dI)) (ci := 4) (v := .int 0) (ty := .int) (C := R_mo) (T := F_mo) (N := 17) hx hb hT i_mo t_mo t_mo_ok n_mo hown hK hP hD hS 0 rfl rfl 0 (by decide) (hT _ k_127) (fun _ h9 => h9) rfl (by decide +kernel) rfl rfl (Nat.le_of_ble_eq_true rfl) d_mo_at_22 (fun H locs hP hD hS => ?_)
      have hP : va_P (dC, dI) classes [(m0, .inr (4, [.int 0, .int mk, .int mv, .ref mu, .ref md, .long up, .long dn, .int mr, .ref mc, .ref me, .int so, .ref mau, .ref mad, .int mw, .ref mwg, .ref mgv, .ref msq])), (mc, .inl (cmc, 320, .inl gc))] H := hP
      have hD : va_D A [(m0, .inr (4, [.int 0, .int mk, .int mv, .ref mu, .ref md, .long up, .long dn, .int mr, .ref mc, .ref me, .int so, .ref mau, .ref mad, .int mw, .ref mwg, .ref mgv, .ref msq])), (mc, .inl (cmc, 320, .inl gc))] := hD
      refine lv_aload_n hx hb d_mo_at_25 rfl (lv_at hl 0 rfl) ?_
      refine va_get (D := (dC, dI)) (ci := 4) (v := .int 0) (C := R_mo) (T := F_mo) (N := 17) hx hb hT i_mo hown hK hP 0 rfl rfl 0 (by decide) (hT _ k_127) (fun _ h9 => h9) rfl d_mo_at_26 ?_
      refine lv_iconst (v := 1) hx hb d_mo_at_29 (by decide) ?_
      refine lv_icmp_ne (tgt := 37) hx hb d_mo_at_30 (by decide) (fun c_8 => ?_) (fun c_8 => ?_)
      · refine lv_aload_n hx hb d_mo_at_37 rfl (lv_at hl 0 rfl) ?_
        refine lv_iload_n hx hb d_mo_at_38 rfl (lv_at hl 1 rfl) ?_
        have hPc := hP.sub (ws' := [(m0, .inr (4, [.int 0, .int mk, .int mv, .ref mu, .ref md, .long up, .long dn, .int mr, .ref mc, .ref me, .int so, .ref mau, .ref mad, .int mw, .ref mwg, .ref mgv, .ref msq]))]) [0] rfl
        have hKc := hK.sub (tys' := []) [] rfl
        refine vp_callSi (W.runV (As := [.int row]) (rest := []) ⟨hx, hb, hml, hown, hT⟩ (c_mo_isRow l dC dI m0 0 mk mv mu md up dn mr mc me so mau mad mw mwg mgv msq row) (cwV 1 hT (kt_V k_156 k_154 k_155 k_136 k_153) rfl rfl rfl (by decide +kernel) ⟨Nat.le_of_ble_eq_true rfl, Nat.le_of_ble_eq_true rfl⟩) ⟨bl_R, va_recv hKc hPc (ci := 4) (q0 := 0) rfl rfl, fun U hU hW => ⟨rfl, by rw [hU]; exact hPc, va_K.moved hW.alike hKc⟩⟩ rfl rfl hl.1 rfl (lv_room (Nat.le_of_ble_eq_true rfl)) d_mo_at_39 ⟨Nat.zero_le _, Nat.zero_le _⟩) (fun r_9 e_r_9 => ?_)
        subst e_r_9
        refine lv_if_eq (tgt := 59) hx hb d_mo_at_42 (by decide) (fun c_10 => ?_) (fun c_10 => ?_)
        · refine lv_iconst (v := (-1)) hx hb d_mo_at_59 (by decide) ?_
          exact W.iret (v := (-1)) hx hb hr (fun t ht hW => ⟨⟨(-1), 0, rfl, by unfold f_mo_at; rw [if_neg c_2, if_neg c_7, if_pos c_10], by rw [ht]; exact hP, va_K.moved hW.alike hK, hD⟩, hS.F ht⟩) hS.2.2 d_mo_at_60
        · refine lv_aload_n hx hb d_mo_at_45 rfl (lv_at hl 0 rfl) ?_
          refine va_get (D := (dC, dI)) (ci := 4) (v := .ref mc) (C := R_mo) (T := F_mo) (N := 17) hx hb hT i_mo hown hK hP 0 rfl rfl 8 (by decide) (hT _ k_157) (fun _ h9 => h9) rfl d_mo_at_46 ?_
          refine lv_bipush (v := 16) hx hb d_mo_at_49 (by decide) ?_
          refine lv_iload_n hx hb d_mo_at_51 rfl (lv_at hl 1 rfl) ?_
          refine lv_imul hx hb d_mo_at_52 ?_
          refine lv_iload_n hx hb d_mo_at_53 rfl (lv_at hl 2 rfl) ?_
          refine lv_iadd hx hb d_mo_at_54 ?_
          refine va_iald hx hb hK hP 1 0 rfl rfl (in_mcell hn hmr c_2 c_7) d_mo_at_55 ?_
          refine lv_goto (tgt := 60) hx hb d_mo_at_56 (by decide) ?_
          exact W.iret (v := gc (((16 * row) + kind).toNatClampNeg)) hx hb hr (fun t ht hW => ⟨⟨gc (((16 * row) + kind).toNatClampNeg), 0, rfl, by unfold f_mo_at; rw [if_neg c_2, if_neg c_7, if_neg c_10], by rw [ht]; exact hP, va_K.moved hW.alike hK, hD⟩, hS.F ht⟩) hS.2.2 d_mo_at_60
      · exact absurd c_8 (by decide)
    · refine lv_iconst (v := 1) hx hb d_mo_at_17 (by decide) ?_
      refine lv_goto (tgt := 22) hx hb d_mo_at_18 (by decide) ?_
      refine va_put (D := (dC, dI)) (ci := 4) (v := .int 1) (ty := .int) (C := R_mo) (T := F_mo) (N := 17) hx hb hT i_mo t_mo t_mo_ok n_mo hown hK hP hD hS 0 rfl rfl 0 (by decide) (hT _ k_127) (fun _ h9 => h9) rfl (by decide +kernel) rfl rfl (Nat.le_of_ble_eq_true rfl) d_mo_at_22 (fun H locs hP hD hS => ?_)
      have hP : va_P (dC, dI) classes [(m0, .inr (4, [.int 1, .int mk, .int mv, .ref mu, .ref md, .long up, .long dn, .int mr, .ref mc, .ref me, .int so, .ref mau, .ref mad, .int mw, .ref mwg, .ref mgv, .ref msq])), (mc, .inl (cmc, 320, .inl gc))] H := hP
      have hD : va_D A [(m0, .inr (4, [.int 1, .int mk, .int mv, .ref mu, .ref md, .long up, .long dn, .int mr, .ref mc, .ref me, .int so, .ref mau, .ref mad, .int mw, .ref mwg, .ref mgv, .ref msq])), (mc, .inl (cmc, 320, .inl gc))] := hD
      refine lv_aload_n hx hb d_mo_at_25 rfl (lv_at hl 0 rfl) ?_
      refine va_get (D := (dC, dI)) (ci := 4) (v := .int 1) (C := R_mo) (T := F_mo) (N := 17) hx hb hT i_mo hown hK hP 0 rfl rfl 0 (by decide) (hT _ k_127) (fun _ h9 => h9) rfl d_mo_at_26 ?_
      refine lv_iconst (v := 1) hx hb d_mo_at_29 (by decide) ?_
      refine lv_icmp_ne (tgt := 37) hx hb d_mo_at_30 (by decide) (fun c_11 => ?_) (fun c_11 => ?_)
      · exact absurd c_11 (by decide)
      · refine lv_iconst (v := 0) hx hb d_mo_at_33 (by decide) ?_
        refine lv_goto (tgt := 60) hx hb d_mo_at_34 (by decide) ?_
        exact W.iret (v := 0) hx hb hr (fun t ht hW => ⟨⟨0, 1, rfl, by unfold f_mo_at; rw [if_neg c_2, if_pos c_7], by rw [ht]; exact hP, va_K.moved hW.alike hK, hD⟩, hS.F ht⟩) hS.2.2 d_mo_at_60
theorem in_ent {i j : Int32} (h1 : ¬ i < 0) (h2 : ¬ 3 < i) (h3 : ¬ j < 0) (h4 : ¬ 4 < j) : vp_in ((5 * i) + j) 20 := by
  obtain ⟨a, ha, rfl⟩ := nI_of h1
  obtain ⟨b, hb, rfl⟩ := nI_of h3
  have h5 : a ≤ 3 := Nat.not_lt.mp fun q => h2 ((nI_ltI (by decide) ha).mpr q)
  have h6 : b ≤ 4 := Nat.not_lt.mp fun q => h4 ((nI_ltI (by decide) hb).mpr q)
  rw [show (5 : Int32) = nI 5 from rfl, pk_mul, nI_add]
  exact vp_in_nI (by omega) (by decide)
def f_mo_entry (ge : Nat → Int32) (i : Int32) (j : Int32) (v : Int32) : Int32 × Int32 × (Nat → Int32) :=
  if i < 0 then (0, 0, ge) else if 3 < i then (0, 0, ge) else if j < 0 then (0, 0, ge) else if 4 < j then (0, 0, ge) else if v < (-100) then (0, 0, ge) else if v ≤ 100 then (1, 0, upd ge (((5 * i) + j).toNatClampNeg) v) else (0, 0, ge)
set_option maxHeartbeats 4000000 in
set_option maxRecDepth 100000 in
theorem c_mo_entry (l : Launch) (dC : Nat → ClassId) (dI : Nat → Nat → Nat) (sz : Nat) (m0 : Nat) (me : Nat) (th : Int32) (mk : Int32) (mv : Int32) (mu : Nat) (md : Nat) (up : Int64) (dn : Int64) (mr : Int32) (mc : Nat) (so : Int32) (mau : Nat) (mad : Nat) (mw : Int32) (mwg : Nat) (mgv : Nat) (msq : Nat) (cme : ClassId) (ge : Nat → Int32) (i : Int32) (j : Int32) (v : Int32) : Met l y_mo_entry w_mo_entry ({ frames := 0, cells := 0, slots := 0, locals := 0 }) (va_Pc [.ref m0, .int i, .int j, .int v] (fun U => U.heap.size = sz ∧ va_P (dC, dI) classes [(m0, .inr (4, [.int th, .int mk, .int mv, .ref mu, .ref md, .long up, .long dn, .int mr, .ref mc, .ref me, .int so, .ref mau, .ref mad, .int mw, .ref mwg, .ref mgv, .ref msq])), (me, .inl (cme, 20, .inl ge))] U.heap ∧ va_K (dC, dI) classes [(cme, .int)] U ∧ va_D (fun _ => True) [(m0, .inr (4, [.int th, .int mk, .int mv, .ref mu, .ref md, .long up, .long dn, .int mr, .ref mc, .ref me, .int so, .ref mau, .ref mad, .int mw, .ref mwg, .ref mgv, .ref msq])), (me, .inl (cme, 20, .inl ge))])) (va_Qi (fun z9 u9 => (z9, u9) = f_mo_entry ge i j v) (fun (u : Int32 × (Nat → Int32)) t => match u with | (th', ge') => va_P (dC, dI) classes [(m0, .inr (4, [.int th', .int mk, .int mv, .ref mu, .ref md, .long up, .long dn, .int mr, .ref mc, .ref me, .int so, .ref mau, .ref mad, .int mw, .ref mwg, .ref mgv, .ref msq])), (me, .inl (cme, 20, .inl ge'))] t.heap ∧ va_K (dC, dI) classes [(cme, .int)] t ∧ va_D (va_A [(m0, .inr (4, [.int th, .int mk, .int mv, .ref mu, .ref md, .long up, .long dn, .int mr, .ref mc, .ref me, .int so, .ref mau, .ref mad, .int mw, .ref mwg, .ref mgv, .ref msq])), (me, .inl (cme, 20, .inl ge))] sz) [(m0, .inr (4, [.int th', .int mk, .int mv, .ref mu, .ref md, .long up, .long dn, .int mr, .ref mc, .ref me, .int so, .ref mau, .ref mad, .int mw, .ref mwg, .ref mgv, .ref msq])), (me, .inl (cme, 20, .inl ge'))]) (va_A [(m0, .inr (4, [.int th, .int mk, .int mv, .ref mu, .ref md, .long up, .long dn, .int mr, .ref mc, .ref me, .int so, .ref mau, .ref mad, .int mw, .ref mwg, .ref mgv, .ref msq])), (me, .inl (cme, 20, .inl ge))] sz)) 0 0 (va_A [(m0, .inr (4, [.int th, .int mk, .int mv, .ref mu, .ref md, .long up, .long dn, .int mr, .ref mc, .ref me, .int so, .ref mau, .ref mad, .int mw, .ref mwg, .ref mgv, .ref msq])), (me, .inl (cme, 20, .inl ge))] sz) := by
  refine Met.ofW (cc := b_mo_entry) (maxL := 4) (ret := (some .boolean)) (by decide +kernel) rfl ?_
  intro p e s m args below meth c s₁ B hml hv
  obtain ⟨rfl, hsz, hP, hK, hD0⟩ := hv
  have hx := B.exec
  have hb := B.bytes
  have hr := B.returns
  have hts := atoms_spec (ws := w_mo_entry) B.pre
  have hT := fun (w : Cond) (h : w ∈ kt_T) => hts w (List.mem_cons_of_mem _ h)
  have hown : s.vm.findClass R_mo = some m.cls := findClass_of_methodNamed B.named
  have hlocks := B.notSynchronized
  subst hsz
  have hD := hD0.self (sz := s.heap.size)
  generalize hAe : va_A [(m0, .inr (4, [.int th, .int mk, .int mv, .ref mu, .ref md, .long up, .long dn, .int mr, .ref mc, .ref me, .int so, .ref mau, .ref mad, .int mw, .ref mwg, .ref mgv, .ref msq])), (me, .inl (cme, 20, .inl ge))] s.heap.size = A at hD ⊢
  have hA : ∀ q : Nat, s.heap.size ≤ q → A q := fun q h => by rw [← hAe]; exact Or.inr h
  have hS : va_S A s.heap s.heap [] := va_S.rf
  have hl := lv_entry ([.ref m0, .int i, .int j, .int v]) (n := 4) (Nat.le_of_ble_eq_true rfl)
  rw [lg_entry_eq]
  generalize (lg_sl ([.ref m0, .int i, .int j, .int v]) ++ List.replicate (4 - (lg_sl ([.ref m0, .int i, .int j, .int v])).length) Slot.unset).toArray = ls at hl ⊢
  have hl : lv_has ls 4 [(0, .ref m0), (1, .int i), (2, .int j), (3, .int v)] := hl
  refine lv_aload_n hx hb d_mo_entry_0 rfl (lv_at hl 0 rfl) ?_
  refine lv_iconst (v := 0) hx hb d_mo_entry_1 (by decide) ?_
  refine va_put (D := (dC, dI)) (ci := 4) (v := .int 0) (ty := .int) (C := R_mo) (T := F_mo) (N := 17) hx hb hT i_mo t_mo t_mo_ok n_mo hown hK hP hD hS 0 rfl rfl 0 (by decide) (hT _ k_127) (fun _ h9 => h9) rfl (by decide +kernel) rfl rfl (Nat.le_of_ble_eq_true rfl) d_mo_entry_2 (fun H locs hP hD hS => ?_)
  have hP : va_P (dC, dI) classes [(m0, .inr (4, [.int 0, .int mk, .int mv, .ref mu, .ref md, .long up, .long dn, .int mr, .ref mc, .ref me, .int so, .ref mau, .ref mad, .int mw, .ref mwg, .ref mgv, .ref msq])), (me, .inl (cme, 20, .inl ge))] H := hP
  have hD : va_D A [(m0, .inr (4, [.int 0, .int mk, .int mv, .ref mu, .ref md, .long up, .long dn, .int mr, .ref mc, .ref me, .int so, .ref mau, .ref mad, .int mw, .ref mwg, .ref mgv, .ref msq])), (me, .inl (cme, 20, .inl ge))] := hD
  refine lv_iload_n hx hb d_mo_entry_5 rfl (lv_at hl 1 rfl) ?_
  refine lv_if_lt (tgt := 35) hx hb d_mo_entry_6 (by decide) (fun c_1 => ?_) (fun c_1 => ?_)
  · refine lv_iconst (v := 0) hx hb d_mo_entry_35 (by decide) ?_
    exact W.zret (v := 0) hx hb hr rfl (fun t ht hW => ⟨⟨0, (0, ge), rfl, by unfold f_mo_entry; rw [if_pos c_1], by rw [ht]; exact hP, va_K.moved hW.alike hK, hD⟩, hS.F ht⟩) hS.2.2 d_mo_entry_36
  · refine lv_iload_n hx hb d_mo_entry_9 rfl (lv_at hl 1 rfl) ?_
    refine lv_iconst (v := 3) hx hb d_mo_entry_10 (by decide) ?_
    refine lv_icmp_gt (tgt := 35) hx hb d_mo_entry_11 (by decide) (fun c_2 => ?_) (fun c_2 => ?_)
    · refine lv_iconst (v := 0) hx hb d_mo_entry_35 (by decide) ?_
      exact W.zret (v := 0) hx hb hr rfl (fun t ht hW => ⟨⟨0, (0, ge), rfl, by unfold f_mo_entry; rw [if_neg c_1, if_pos c_2], by rw [ht]; exact hP, va_K.moved hW.alike hK, hD⟩, hS.F ht⟩) hS.2.2 d_mo_entry_36
    · refine lv_iload_n hx hb d_mo_entry_14 rfl (lv_at hl 2 rfl) ?_
      refine lv_if_lt (tgt := 35) hx hb d_mo_entry_15 (by decide) (fun c_3 => ?_) (fun c_3 => ?_)
      · refine lv_iconst (v := 0) hx hb d_mo_entry_35 (by decide) ?_
        exact W.zret (v := 0) hx hb hr rfl (fun t ht hW => ⟨⟨0, (0, ge), rfl, by unfold f_mo_entry; rw [if_neg c_1, if_neg c_2, if_pos c_3], by rw [ht]; exact hP, va_K.moved hW.alike hK, hD⟩, hS.F ht⟩) hS.2.2 d_mo_entry_36
      · refine lv_iload_n hx hb d_mo_entry_18 rfl (lv_at hl 2 rfl) ?_
        refine lv_iconst (v := 4) hx hb d_mo_entry_19 (by decide) ?_
        refine lv_icmp_gt (tgt := 35) hx hb d_mo_entry_20 (by decide) (fun c_4 => ?_) (fun c_4 => ?_)
        · refine lv_iconst (v := 0) hx hb d_mo_entry_35 (by decide) ?_
          exact W.zret (v := 0) hx hb hr rfl (fun t ht hW => ⟨⟨0, (0, ge), rfl, by unfold f_mo_entry; rw [if_neg c_1, if_neg c_2, if_neg c_3, if_pos c_4], by rw [ht]; exact hP, va_K.moved hW.alike hK, hD⟩, hS.F ht⟩) hS.2.2 d_mo_entry_36
        · refine lv_iload_n hx hb d_mo_entry_23 rfl (lv_at hl 3 rfl) ?_
          refine lv_bipush (v := (-100)) hx hb d_mo_entry_24 (by decide) ?_
          refine lv_icmp_lt (tgt := 35) hx hb d_mo_entry_26 (by decide) (fun c_5 => ?_) (fun c_5 => ?_)
          · refine lv_iconst (v := 0) hx hb d_mo_entry_35 (by decide) ?_
            exact W.zret (v := 0) hx hb hr rfl (fun t ht hW => ⟨⟨0, (0, ge), rfl, by unfold f_mo_entry; rw [if_neg c_1, if_neg c_2, if_neg c_3, if_neg c_4, if_pos c_5], by rw [ht]; exact hP, va_K.moved hW.alike hK, hD⟩, hS.F ht⟩) hS.2.2 d_mo_entry_36
          · refine lv_iload_n hx hb d_mo_entry_29 rfl (lv_at hl 3 rfl) ?_
            refine lv_bipush (v := 100) hx hb d_mo_entry_30 (by decide) ?_
            refine lv_icmp_le (tgt := 37) hx hb d_mo_entry_32 (by decide) (fun c_6 => ?_) (fun c_6 => ?_)
            · refine lv_aload_n hx hb d_mo_entry_37 rfl (lv_at hl 0 rfl) ?_
              refine va_get (D := (dC, dI)) (ci := 4) (v := .ref me) (C := R_mo) (T := F_mo) (N := 17) hx hb hT i_mo hown hK hP 0 rfl rfl 9 (by decide) (hT _ k_162) (fun _ h9 => h9) rfl d_mo_entry_38 ?_
              refine lv_iconst (v := 5) hx hb d_mo_entry_41 (by decide) ?_
              refine lv_iload_n hx hb d_mo_entry_42 rfl (lv_at hl 1 rfl) ?_
              refine lv_imul hx hb d_mo_entry_43 ?_
              refine lv_iload_n hx hb d_mo_entry_44 rfl (lv_at hl 2 rfl) ?_
              refine lv_iadd hx hb d_mo_entry_45 ?_
              refine lv_iload_n hx hb d_mo_entry_46 rfl (lv_at hl 3 rfl) ?_
              refine va_iast hx hb hK hP hD hS 1 0 rfl rfl (in_ent c_1 c_2 c_3 c_4) d_mo_entry_47 (fun H locs hP hD hS => ?_)
              have hP : va_P (dC, dI) classes [(m0, .inr (4, [.int 0, .int mk, .int mv, .ref mu, .ref md, .long up, .long dn, .int mr, .ref mc, .ref me, .int so, .ref mau, .ref mad, .int mw, .ref mwg, .ref mgv, .ref msq])), (me, .inl (cme, 20, .inl (upd ge (((5 * i) + j).toNatClampNeg) v)))] H := hP
              have hD : va_D A [(m0, .inr (4, [.int 0, .int mk, .int mv, .ref mu, .ref md, .long up, .long dn, .int mr, .ref mc, .ref me, .int so, .ref mau, .ref mad, .int mw, .ref mwg, .ref mgv, .ref msq])), (me, .inl (cme, 20, .inl (upd ge (((5 * i) + j).toNatClampNeg) v)))] := hD
              refine lv_iconst (v := 1) hx hb d_mo_entry_48 (by decide) ?_
              exact W.zret (v := 1) hx hb hr rfl (fun t ht hW => ⟨⟨1, (0, upd ge (((5 * i) + j).toNatClampNeg) v), rfl, by unfold f_mo_entry; rw [if_neg c_1, if_neg c_2, if_neg c_3, if_neg c_4, if_neg c_5, if_pos c_6], by rw [ht]; exact hP, va_K.moved hW.alike hK, hD⟩, hS.F ht⟩) hS.2.2 d_mo_entry_49
            · refine lv_iconst (v := 0) hx hb d_mo_entry_35 (by decide) ?_
              exact W.zret (v := 0) hx hb hr rfl (fun t ht hW => ⟨⟨0, (0, ge), rfl, by unfold f_mo_entry; rw [if_neg c_1, if_neg c_2, if_neg c_3, if_neg c_4, if_neg c_5, if_neg c_6], by rw [ht]; exact hP, va_K.moved hW.alike hK, hD⟩, hS.F ht⟩) hS.2.2 d_mo_entry_36
theorem in_so {so k : Int32} (hs : vp_in so 5) (h1 : ¬ k < 0) (h2 : ¬ so ≤ k) : vp_in k 4 := by
  rw [vp_in_iff] at hs ⊢
  rw [Int32.lt_iff_toInt_lt, Int32.toInt_zero] at h1
  rw [Int32.le_iff_toInt_le] at h2
  omega
theorem in_mw {mw : Int32} (hw : vp_in mw 13) (h : ¬ mw = 12) : vp_in mw 12 := by
  rw [vp_in_iff] at hw ⊢
  have h2 : mw.toInt ≠ 12 := fun q => h (Int32.toInt_inj.mp (q.trans (by decide : (12 : Int) = (12 : Int32).toInt)))
  omega
def f_mo_answer (so : Int32) (ga : Nat → Int64) (gb : Nat → Int64) (k : Int32) (q : Int32) : Int64 × Int32 :=
  if k < 0 then ((-9223372036854775808), 0) else if so ≤ k then ((-9223372036854775808), 0) else if q < 0 then ((-9223372036854775808), 0) else if q ≤ 1 then if q = 0 then (ga k.toNatClampNeg, 0) else (gb k.toNatClampNeg, 0) else ((-9223372036854775808), 0)
set_option maxHeartbeats 4000000 in
set_option maxRecDepth 100000 in
theorem c_mo_answer (l : Launch) (dC : Nat → ClassId) (dI : Nat → Nat → Nat) (sz : Nat) (m0 : Nat) (mau : Nat) (mad : Nat) (th : Int32) (mk : Int32) (mv : Int32) (mu : Nat) (md : Nat) (up : Int64) (dn : Int64) (mr : Int32) (mc : Nat) (me : Nat) (so : Int32) (mw : Int32) (mwg : Nat) (mgv : Nat) (msq : Nat) (cma : ClassId) (ga : Nat → Int64) (cmb : ClassId) (gb : Nat → Int64) (k : Int32) (q : Int32) (hs : vp_in so 5) : Met l y_mo_answer w_mo_answer ({ frames := 0, cells := 0, slots := 0, locals := 0 }) (va_Pc [.ref m0, .int k, .int q] (fun U => U.heap.size = sz ∧ va_P (dC, dI) classes [(m0, .inr (4, [.int th, .int mk, .int mv, .ref mu, .ref md, .long up, .long dn, .int mr, .ref mc, .ref me, .int so, .ref mau, .ref mad, .int mw, .ref mwg, .ref mgv, .ref msq])), (mau, .inl (cma, 4, .inr (.inl ga))), (mad, .inl (cmb, 4, .inr (.inl gb)))] U.heap ∧ va_K (dC, dI) classes [(cma, .long), (cmb, .long)] U ∧ va_D (fun _ => True) [(m0, .inr (4, [.int th, .int mk, .int mv, .ref mu, .ref md, .long up, .long dn, .int mr, .ref mc, .ref me, .int so, .ref mau, .ref mad, .int mw, .ref mwg, .ref mgv, .ref msq])), (mau, .inl (cma, 4, .inr (.inl ga))), (mad, .inl (cmb, 4, .inr (.inl gb)))])) (va_Ql (fun z9 u9 => (z9, u9) = f_mo_answer so ga gb k q) (fun (u : Int32) t => match u with | th' => va_P (dC, dI) classes [(m0, .inr (4, [.int th', .int mk, .int mv, .ref mu, .ref md, .long up, .long dn, .int mr, .ref mc, .ref me, .int so, .ref mau, .ref mad, .int mw, .ref mwg, .ref mgv, .ref msq])), (mau, .inl (cma, 4, .inr (.inl ga))), (mad, .inl (cmb, 4, .inr (.inl gb)))] t.heap ∧ va_K (dC, dI) classes [(cma, .long), (cmb, .long)] t ∧ va_D (va_A [(m0, .inr (4, [.int th, .int mk, .int mv, .ref mu, .ref md, .long up, .long dn, .int mr, .ref mc, .ref me, .int so, .ref mau, .ref mad, .int mw, .ref mwg, .ref mgv, .ref msq])), (mau, .inl (cma, 4, .inr (.inl ga))), (mad, .inl (cmb, 4, .inr (.inl gb)))] sz) [(m0, .inr (4, [.int th', .int mk, .int mv, .ref mu, .ref md, .long up, .long dn, .int mr, .ref mc, .ref me, .int so, .ref mau, .ref mad, .int mw, .ref mwg, .ref mgv, .ref msq])), (mau, .inl (cma, 4, .inr (.inl ga))), (mad, .inl (cmb, 4, .inr (.inl gb)))]) (va_A [(m0, .inr (4, [.int th, .int mk, .int mv, .ref mu, .ref md, .long up, .long dn, .int mr, .ref mc, .ref me, .int so, .ref mau, .ref mad, .int mw, .ref mwg, .ref mgv, .ref msq])), (mau, .inl (cma, 4, .inr (.inl ga))), (mad, .inl (cmb, 4, .inr (.inl gb)))] sz)) 0 0 (va_A [(m0, .inr (4, [.int th, .int mk, .int mv, .ref mu, .ref md, .long up, .long dn, .int mr, .ref mc, .ref me, .int so, .ref mau, .ref mad, .int mw, .ref mwg, .ref mgv, .ref msq])), (mau, .inl (cma, 4, .inr (.inl ga))), (mad, .inl (cmb, 4, .inr (.inl gb)))] sz) := by
  refine Met.ofW (cc := b_mo_answer) (maxL := 3) (ret := (some .long)) (by decide +kernel) rfl ?_
  intro p e s m args below meth c s₁ B hml hv
  obtain ⟨rfl, hsz, hP, hK, hD0⟩ := hv
  have hx := B.exec
  have hb := B.bytes
  have hr := B.returns
  have hts := atoms_spec (ws := w_mo_answer) B.pre
  have hT := fun (w : Cond) (h : w ∈ kt_T) => hts w (List.mem_cons_of_mem _ h)
  have hown : s.vm.findClass R_mo = some m.cls := findClass_of_methodNamed B.named
  have hlocks := B.notSynchronized
  subst hsz
  have hD := hD0.self (sz := s.heap.size)
  generalize hAe : va_A [(m0, .inr (4, [.int th, .int mk, .int mv, .ref mu, .ref md, .long up, .long dn, .int mr, .ref mc, .ref me, .int so, .ref mau, .ref mad, .int mw, .ref mwg, .ref mgv, .ref msq])), (mau, .inl (cma, 4, .inr (.inl ga))), (mad, .inl (cmb, 4, .inr (.inl gb)))] s.heap.size = A at hD ⊢
  have hA : ∀ q : Nat, s.heap.size ≤ q → A q := fun q h => by rw [← hAe]; exact Or.inr h
  have hS : va_S A s.heap s.heap [] := va_S.rf
  have hl := lv_entry ([.ref m0, .int k, .int q]) (n := 3) (Nat.le_of_ble_eq_true rfl)
  rw [lg_entry_eq]
  generalize (lg_sl ([.ref m0, .int k, .int q]) ++ List.replicate (3 - (lg_sl ([.ref m0, .int k, .int q])).length) Slot.unset).toArray = ls at hl ⊢
  have hl : lv_has ls 3 [(0, .ref m0), (1, .int k), (2, .int q)] := hl
  refine lv_aload_n hx hb d_mo_answer_0 rfl (lv_at hl 0 rfl) ?_
  refine lv_iconst (v := 0) hx hb d_mo_answer_1 (by decide) ?_
  refine va_put (D := (dC, dI)) (ci := 4) (v := .int 0) (ty := .int) (C := R_mo) (T := F_mo) (N := 17) hx hb hT i_mo t_mo t_mo_ok n_mo hown hK hP hD hS 0 rfl rfl 0 (by decide) (hT _ k_127) (fun _ h9 => h9) rfl (by decide +kernel) rfl rfl (Nat.le_of_ble_eq_true rfl) d_mo_answer_2 (fun H locs hP hD hS => ?_)
  have hP : va_P (dC, dI) classes [(m0, .inr (4, [.int 0, .int mk, .int mv, .ref mu, .ref md, .long up, .long dn, .int mr, .ref mc, .ref me, .int so, .ref mau, .ref mad, .int mw, .ref mwg, .ref mgv, .ref msq])), (mau, .inl (cma, 4, .inr (.inl ga))), (mad, .inl (cmb, 4, .inr (.inl gb)))] H := hP
  have hD : va_D A [(m0, .inr (4, [.int 0, .int mk, .int mv, .ref mu, .ref md, .long up, .long dn, .int mr, .ref mc, .ref me, .int so, .ref mau, .ref mad, .int mw, .ref mwg, .ref mgv, .ref msq])), (mau, .inl (cma, 4, .inr (.inl ga))), (mad, .inl (cmb, 4, .inr (.inl gb)))] := hD
  refine lv_iload_n hx hb d_mo_answer_5 rfl (lv_at hl 1 rfl) ?_
  refine lv_if_lt (tgt := 26) hx hb d_mo_answer_6 (by decide) (fun c_1 => ?_) (fun c_1 => ?_)
  · refine lv_ldc2 (v := (-9223372036854775808)) hx hb hown (hT _ k_163) d_mo_answer_26 ?_
    refine lv_goto (tgt := 51) hx hb d_mo_answer_29 (by decide) ?_
    exact W.lret (v := (-9223372036854775808)) hx hb hr (fun t ht hW => ⟨⟨(-9223372036854775808), 0, rfl, by unfold f_mo_answer; rw [if_pos c_1], by rw [ht]; exact hP, va_K.moved hW.alike hK, hD⟩, hS.F ht⟩) hS.2.2 d_mo_answer_51
  · refine lv_iload_n hx hb d_mo_answer_9 rfl (lv_at hl 1 rfl) ?_
    refine lv_aload_n hx hb d_mo_answer_10 rfl (lv_at hl 0 rfl) ?_
    refine va_get (D := (dC, dI)) (ci := 4) (v := .int so) (C := R_mo) (T := F_mo) (N := 17) hx hb hT i_mo hown hK hP 0 rfl rfl 10 (by decide) (hT _ k_164) (fun _ h9 => h9) rfl d_mo_answer_11 ?_
    refine lv_icmp_ge (tgt := 26) hx hb d_mo_answer_14 (by decide) (fun c_2 => ?_) (fun c_2 => ?_)
    · refine lv_ldc2 (v := (-9223372036854775808)) hx hb hown (hT _ k_163) d_mo_answer_26 ?_
      refine lv_goto (tgt := 51) hx hb d_mo_answer_29 (by decide) ?_
      exact W.lret (v := (-9223372036854775808)) hx hb hr (fun t ht hW => ⟨⟨(-9223372036854775808), 0, rfl, by unfold f_mo_answer; rw [if_neg c_1, if_pos c_2], by rw [ht]; exact hP, va_K.moved hW.alike hK, hD⟩, hS.F ht⟩) hS.2.2 d_mo_answer_51
    · refine lv_iload_n hx hb d_mo_answer_17 rfl (lv_at hl 2 rfl) ?_
      refine lv_if_lt (tgt := 26) hx hb d_mo_answer_18 (by decide) (fun c_3 => ?_) (fun c_3 => ?_)
      · refine lv_ldc2 (v := (-9223372036854775808)) hx hb hown (hT _ k_163) d_mo_answer_26 ?_
        refine lv_goto (tgt := 51) hx hb d_mo_answer_29 (by decide) ?_
        exact W.lret (v := (-9223372036854775808)) hx hb hr (fun t ht hW => ⟨⟨(-9223372036854775808), 0, rfl, by unfold f_mo_answer; rw [if_neg c_1, if_neg c_2, if_pos c_3], by rw [ht]; exact hP, va_K.moved hW.alike hK, hD⟩, hS.F ht⟩) hS.2.2 d_mo_answer_51
      · refine lv_iload_n hx hb d_mo_answer_21 rfl (lv_at hl 2 rfl) ?_
        refine lv_iconst (v := 1) hx hb d_mo_answer_22 (by decide) ?_
        refine lv_icmp_le (tgt := 32) hx hb d_mo_answer_23 (by decide) (fun c_4 => ?_) (fun c_4 => ?_)
        · refine lv_iload_n hx hb d_mo_answer_32 rfl (lv_at hl 2 rfl) ?_
          refine lv_if_ne (tgt := 45) hx hb d_mo_answer_33 (by decide) (fun c_5 => ?_) (fun c_5 => ?_)
          · refine lv_aload_n hx hb d_mo_answer_45 rfl (lv_at hl 0 rfl) ?_
            refine va_get (D := (dC, dI)) (ci := 4) (v := .ref mad) (C := R_mo) (T := F_mo) (N := 17) hx hb hT i_mo hown hK hP 0 rfl rfl 12 (by decide) (hT _ k_165) (fun _ h9 => h9) rfl d_mo_answer_46 ?_
            refine lv_iload_n hx hb d_mo_answer_49 rfl (lv_at hl 1 rfl) ?_
            refine va_lald hx hb hK hP 2 1 rfl rfl (in_so hs c_1 c_2) d_mo_answer_50 ?_
            exact W.lret (v := gb k.toNatClampNeg) hx hb hr (fun t ht hW => ⟨⟨gb k.toNatClampNeg, 0, rfl, by unfold f_mo_answer; rw [if_neg c_1, if_neg c_2, if_neg c_3, if_pos c_4, if_neg c_5], by rw [ht]; exact hP, va_K.moved hW.alike hK, hD⟩, hS.F ht⟩) hS.2.2 d_mo_answer_51
          · refine lv_aload_n hx hb d_mo_answer_36 rfl (lv_at hl 0 rfl) ?_
            refine va_get (D := (dC, dI)) (ci := 4) (v := .ref mau) (C := R_mo) (T := F_mo) (N := 17) hx hb hT i_mo hown hK hP 0 rfl rfl 11 (by decide) (hT _ k_166) (fun _ h9 => h9) rfl d_mo_answer_37 ?_
            refine lv_iload_n hx hb d_mo_answer_40 rfl (lv_at hl 1 rfl) ?_
            refine va_lald hx hb hK hP 1 0 rfl rfl (in_so hs c_1 c_2) d_mo_answer_41 ?_
            refine lv_goto (tgt := 51) hx hb d_mo_answer_42 (by decide) ?_
            exact W.lret (v := ga k.toNatClampNeg) hx hb hr (fun t ht hW => ⟨⟨ga k.toNatClampNeg, 0, rfl, by unfold f_mo_answer; rw [if_neg c_1, if_neg c_2, if_neg c_3, if_pos c_4, if_pos c_5], by rw [ht]; exact hP, va_K.moved hW.alike hK, hD⟩, hS.F ht⟩) hS.2.2 d_mo_answer_51
        · refine lv_ldc2 (v := (-9223372036854775808)) hx hb hown (hT _ k_163) d_mo_answer_26 ?_
          refine lv_goto (tgt := 51) hx hb d_mo_answer_29 (by decide) ?_
          exact W.lret (v := (-9223372036854775808)) hx hb hr (fun t ht hW => ⟨⟨(-9223372036854775808), 0, rfl, by unfold f_mo_answer; rw [if_neg c_1, if_neg c_2, if_neg c_3, if_neg c_4], by rw [ht]; exact hP, va_K.moved hW.alike hK, hD⟩, hS.F ht⟩) hS.2.2 d_mo_answer_51
def f_mo_weight (mw : Int32) (gw : Nat → Int64) (w : Int32) : Int32 × Int32 × (Nat → Int64) × Int32 :=
  if w < 0 then ((-1), 0, gw, mw) else if 1000000 < w then ((-1), 0, gw, mw) else if mw = 12 then ((-1), 0, gw, mw) else (mw + 1, 0, vp_updL gw mw.toNatClampNeg w.toInt64, mw + 1)
set_option maxHeartbeats 4000000 in
set_option maxRecDepth 100000 in
theorem c_mo_weight (l : Launch) (dC : Nat → ClassId) (dI : Nat → Nat → Nat) (sz : Nat) (m0 : Nat) (mwg : Nat) (th : Int32) (mk : Int32) (mv : Int32) (mu : Nat) (md : Nat) (up : Int64) (dn : Int64) (mr : Int32) (mc : Nat) (me : Nat) (so : Int32) (mau : Nat) (mad : Nat) (mw : Int32) (mgv : Nat) (msq : Nat) (cmw : ClassId) (gw : Nat → Int64) (w : Int32) (hmw : vp_in mw 13) : Met l y_mo_weight w_mo_weight ({ frames := 0, cells := 0, slots := 0, locals := 0 }) (va_Pc [.ref m0, .int w] (fun U => U.heap.size = sz ∧ va_P (dC, dI) classes [(m0, .inr (4, [.int th, .int mk, .int mv, .ref mu, .ref md, .long up, .long dn, .int mr, .ref mc, .ref me, .int so, .ref mau, .ref mad, .int mw, .ref mwg, .ref mgv, .ref msq])), (mwg, .inl (cmw, 12, .inr (.inl gw)))] U.heap ∧ va_K (dC, dI) classes [(cmw, .long)] U ∧ va_D (fun _ => True) [(m0, .inr (4, [.int th, .int mk, .int mv, .ref mu, .ref md, .long up, .long dn, .int mr, .ref mc, .ref me, .int so, .ref mau, .ref mad, .int mw, .ref mwg, .ref mgv, .ref msq])), (mwg, .inl (cmw, 12, .inr (.inl gw)))])) (va_Qi (fun z9 u9 => (z9, u9) = f_mo_weight mw gw w) (fun (u : Int32 × (Nat → Int64) × Int32) t => match u with | (th', gw', mw') => va_P (dC, dI) classes [(m0, .inr (4, [.int th', .int mk, .int mv, .ref mu, .ref md, .long up, .long dn, .int mr, .ref mc, .ref me, .int so, .ref mau, .ref mad, .int mw', .ref mwg, .ref mgv, .ref msq])), (mwg, .inl (cmw, 12, .inr (.inl gw')))] t.heap ∧ va_K (dC, dI) classes [(cmw, .long)] t ∧ va_D (va_A [(m0, .inr (4, [.int th, .int mk, .int mv, .ref mu, .ref md, .long up, .long dn, .int mr, .ref mc, .ref me, .int so, .ref mau, .ref mad, .int mw, .ref mwg, .ref mgv, .ref msq])), (mwg, .inl (cmw, 12, .inr (.inl gw)))] sz) [(m0, .inr (4, [.int th', .int mk, .int mv, .ref mu, .ref md, .long up, .long dn, .int mr, .ref mc, .ref me, .int so, .ref mau, .ref mad, .int mw', .ref mwg, .ref mgv, .ref msq])), (mwg, .inl (cmw, 12, .inr (.inl gw')))]) (va_A [(m0, .inr (4, [.int th, .int mk, .int mv, .ref mu, .ref md, .long up, .long dn, .int mr, .ref mc, .ref me, .int so, .ref mau, .ref mad, .int mw, .ref mwg, .ref mgv, .ref msq])), (mwg, .inl (cmw, 12, .inr (.inl gw)))] sz)) 0 0 (va_A [(m0, .inr (4, [.int th, .int mk, .int mv, .ref mu, .ref md, .long up, .long dn, .int mr, .ref mc, .ref me, .int so, .ref mau, .ref mad, .int mw, .ref mwg, .ref mgv, .ref msq])), (mwg, .inl (cmw, 12, .inr (.inl gw)))] sz) := by
  refine Met.ofW (cc := b_mo_weight) (maxL := 2) (ret := (some .int)) (by decide +kernel) rfl ?_
  intro p e s m args below meth c s₁ B hml hv
  obtain ⟨rfl, hsz, hP, hK, hD0⟩ := hv
  have hx := B.exec
  have hb := B.bytes
  have hr := B.returns
  have hts := atoms_spec (ws := w_mo_weight) B.pre
  have hT := fun (w : Cond) (h : w ∈ kt_T) => hts w (List.mem_cons_of_mem _ h)
  have hown : s.vm.findClass R_mo = some m.cls := findClass_of_methodNamed B.named
  have hlocks := B.notSynchronized
  subst hsz
  have hD := hD0.self (sz := s.heap.size)
  generalize hAe : va_A [(m0, .inr (4, [.int th, .int mk, .int mv, .ref mu, .ref md, .long up, .long dn, .int mr, .ref mc, .ref me, .int so, .ref mau, .ref mad, .int mw, .ref mwg, .ref mgv, .ref msq])), (mwg, .inl (cmw, 12, .inr (.inl gw)))] s.heap.size = A at hD ⊢
  have hA : ∀ q : Nat, s.heap.size ≤ q → A q := fun q h => by rw [← hAe]; exact Or.inr h
  have hS : va_S A s.heap s.heap [] := va_S.rf
  have hl := lv_entry ([.ref m0, .int w]) (n := 2) (Nat.le_of_ble_eq_true rfl)
  rw [lg_entry_eq]
  generalize (lg_sl ([.ref m0, .int w]) ++ List.replicate (2 - (lg_sl ([.ref m0, .int w])).length) Slot.unset).toArray = ls at hl ⊢
  have hl : lv_has ls 2 [(0, .ref m0), (1, .int w)] := hl
  refine lv_aload_n hx hb d_mo_weight_0 rfl (lv_at hl 0 rfl) ?_
  refine lv_iconst (v := 0) hx hb d_mo_weight_1 (by decide) ?_
  refine va_put (D := (dC, dI)) (ci := 4) (v := .int 0) (ty := .int) (C := R_mo) (T := F_mo) (N := 17) hx hb hT i_mo t_mo t_mo_ok n_mo hown hK hP hD hS 0 rfl rfl 0 (by decide) (hT _ k_127) (fun _ h9 => h9) rfl (by decide +kernel) rfl rfl (Nat.le_of_ble_eq_true rfl) d_mo_weight_2 (fun H locs hP hD hS => ?_)
  have hP : va_P (dC, dI) classes [(m0, .inr (4, [.int 0, .int mk, .int mv, .ref mu, .ref md, .long up, .long dn, .int mr, .ref mc, .ref me, .int so, .ref mau, .ref mad, .int mw, .ref mwg, .ref mgv, .ref msq])), (mwg, .inl (cmw, 12, .inr (.inl gw)))] H := hP
  have hD : va_D A [(m0, .inr (4, [.int 0, .int mk, .int mv, .ref mu, .ref md, .long up, .long dn, .int mr, .ref mc, .ref me, .int so, .ref mau, .ref mad, .int mw, .ref mwg, .ref mgv, .ref msq])), (mwg, .inl (cmw, 12, .inr (.inl gw)))] := hD
  refine lv_iload_n hx hb d_mo_weight_5 rfl (lv_at hl 1 rfl) ?_
  refine lv_if_lt (tgt := 24) hx hb d_mo_weight_6 (by decide) (fun c_1 => ?_) (fun c_1 => ?_)
  · refine lv_iconst (v := (-1)) hx hb d_mo_weight_24 (by decide) ?_
    exact W.iret (v := (-1)) hx hb hr (fun t ht hW => ⟨⟨(-1), (0, gw, mw), rfl, by unfold f_mo_weight; rw [if_pos c_1], by rw [ht]; exact hP, va_K.moved hW.alike hK, hD⟩, hS.F ht⟩) hS.2.2 d_mo_weight_25
  · refine lv_iload_n hx hb d_mo_weight_9 rfl (lv_at hl 1 rfl) ?_
    refine lv_ldc (v := 1000000) hx hb hown (hT _ k_167) d_mo_weight_10 ?_
    refine lv_icmp_gt (tgt := 24) hx hb d_mo_weight_12 (by decide) (fun c_2 => ?_) (fun c_2 => ?_)
    · refine lv_iconst (v := (-1)) hx hb d_mo_weight_24 (by decide) ?_
      exact W.iret (v := (-1)) hx hb hr (fun t ht hW => ⟨⟨(-1), (0, gw, mw), rfl, by unfold f_mo_weight; rw [if_neg c_1, if_pos c_2], by rw [ht]; exact hP, va_K.moved hW.alike hK, hD⟩, hS.F ht⟩) hS.2.2 d_mo_weight_25
    · refine lv_aload_n hx hb d_mo_weight_15 rfl (lv_at hl 0 rfl) ?_
      refine va_get (D := (dC, dI)) (ci := 4) (v := .int mw) (C := R_mo) (T := F_mo) (N := 17) hx hb hT i_mo hown hK hP 0 rfl rfl 13 (by decide) (hT _ k_168) (fun _ h9 => h9) rfl d_mo_weight_16 ?_
      refine lv_bipush (v := 12) hx hb d_mo_weight_19 (by decide) ?_
      refine lv_icmp_ne (tgt := 26) hx hb d_mo_weight_21 (by decide) (fun c_3 => ?_) (fun c_3 => ?_)
      · refine lv_aload_n hx hb d_mo_weight_26 rfl (lv_at hl 0 rfl) ?_
        refine va_get (D := (dC, dI)) (ci := 4) (v := .ref mwg) (C := R_mo) (T := F_mo) (N := 17) hx hb hT i_mo hown hK hP 0 rfl rfl 14 (by decide) (hT _ k_169) (fun _ h9 => h9) rfl d_mo_weight_27 ?_
        refine lv_aload_n hx hb d_mo_weight_30 rfl (lv_at hl 0 rfl) ?_
        refine va_get (D := (dC, dI)) (ci := 4) (v := .int mw) (C := R_mo) (T := F_mo) (N := 17) hx hb hT i_mo hown hK hP 0 rfl rfl 13 (by decide) (hT _ k_168) (fun _ h9 => h9) rfl d_mo_weight_31 ?_
        refine lv_iload_n hx hb d_mo_weight_34 rfl (lv_at hl 1 rfl) ?_
        refine lv_i2l (v := w.toInt64) hx hb d_mo_weight_35 rfl ?_
        refine va_last hx hb hK hP hD hS 1 0 rfl rfl (in_mw hmw c_3) d_mo_weight_36 (fun H locs hP hD hS => ?_)
        have hP : va_P (dC, dI) classes [(m0, .inr (4, [.int 0, .int mk, .int mv, .ref mu, .ref md, .long up, .long dn, .int mr, .ref mc, .ref me, .int so, .ref mau, .ref mad, .int mw, .ref mwg, .ref mgv, .ref msq])), (mwg, .inl (cmw, 12, .inr (.inl (vp_updL gw mw.toNatClampNeg w.toInt64))))] H := hP
        have hD : va_D A [(m0, .inr (4, [.int 0, .int mk, .int mv, .ref mu, .ref md, .long up, .long dn, .int mr, .ref mc, .ref me, .int so, .ref mau, .ref mad, .int mw, .ref mwg, .ref mgv, .ref msq])), (mwg, .inl (cmw, 12, .inr (.inl (vp_updL gw mw.toNatClampNeg w.toInt64))))] := hD
        refine lv_aload_n hx hb d_mo_weight_37 rfl (lv_at hl 0 rfl) ?_
        refine lv_dup hx hb d_mo_weight_38 rfl ?_
        refine va_get (D := (dC, dI)) (ci := 4) (v := .int mw) (C := R_mo) (T := F_mo) (N := 17) hx hb hT i_mo hown hK hP 0 rfl rfl 13 (by decide) (hT _ k_168) (fun _ h9 => h9) rfl d_mo_weight_39 ?_
        refine lv_iconst (v := 1) hx hb d_mo_weight_42 (by decide) ?_
        refine lv_iadd hx hb d_mo_weight_43 ?_
        refine va_put (D := (dC, dI)) (ci := 4) (v := .int (mw + 1)) (ty := .int) (C := R_mo) (T := F_mo) (N := 17) hx hb hT i_mo t_mo t_mo_ok n_mo hown hK hP hD hS 0 rfl rfl 13 (by decide) (hT _ k_168) (fun _ h9 => h9) rfl (by decide +kernel) rfl rfl (Nat.le_of_ble_eq_true rfl) d_mo_weight_44 (fun H locs hP hD hS => ?_)
        have hP : va_P (dC, dI) classes [(m0, .inr (4, [.int 0, .int mk, .int mv, .ref mu, .ref md, .long up, .long dn, .int mr, .ref mc, .ref me, .int so, .ref mau, .ref mad, .int (mw + 1), .ref mwg, .ref mgv, .ref msq])), (mwg, .inl (cmw, 12, .inr (.inl (vp_updL gw mw.toNatClampNeg w.toInt64))))] H := hP
        have hD : va_D A [(m0, .inr (4, [.int 0, .int mk, .int mv, .ref mu, .ref md, .long up, .long dn, .int mr, .ref mc, .ref me, .int so, .ref mau, .ref mad, .int (mw + 1), .ref mwg, .ref mgv, .ref msq])), (mwg, .inl (cmw, 12, .inr (.inl (vp_updL gw mw.toNatClampNeg w.toInt64))))] := hD
        refine lv_aload_n hx hb d_mo_weight_47 rfl (lv_at hl 0 rfl) ?_
        refine va_get (D := (dC, dI)) (ci := 4) (v := .int (mw + 1)) (C := R_mo) (T := F_mo) (N := 17) hx hb hT i_mo hown hK hP 0 rfl rfl 13 (by decide) (hT _ k_168) (fun _ h9 => h9) rfl d_mo_weight_48 ?_
        exact W.iret (v := mw + 1) hx hb hr (fun t ht hW => ⟨⟨mw + 1, (0, vp_updL gw mw.toNatClampNeg w.toInt64, mw + 1), rfl, by unfold f_mo_weight; rw [if_neg c_1, if_neg c_2, if_neg c_3], by rw [ht]; exact hP, va_K.moved hW.alike hK, hD⟩, hS.F ht⟩) hS.2.2 d_mo_weight_51
      · refine lv_iconst (v := (-1)) hx hb d_mo_weight_24 (by decide) ?_
        exact W.iret (v := (-1)) hx hb hr (fun t ht hW => ⟨⟨(-1), (0, gw, mw), rfl, by unfold f_mo_weight; rw [if_neg c_1, if_neg c_2, if_pos c_3], by rw [ht]; exact hP, va_K.moved hW.alike hK, hD⟩, hS.F ht⟩) hS.2.2 d_mo_weight_25
