abbrev b_kr_hasRow : ByteArray := prog_1_method_20_code
def y_kr_hasRow : MethodName := ⟨R_kr, "hasRow", "(I)Z"⟩
def w_kr_hasRow : List Cond := .code y_kr_hasRow b_kr_hasRow 2 (some .boolean) :: kt_T
theorem d_kr_hasRow_0 : decode b_kr_hasRow 0 = .ok (.iload_n 1, 1) := by decide +kernel
theorem d_kr_hasRow_1 : decode b_kr_hasRow 1 = .ok (.ifCond .lt 15, 3) := by decide +kernel
theorem d_kr_hasRow_4 : decode b_kr_hasRow 4 = .ok (.iload_n 1, 1) := by decide +kernel
theorem d_kr_hasRow_5 : decode b_kr_hasRow 5 = .ok (.aload_n 0, 1) := by decide +kernel
theorem d_kr_hasRow_6 : decode b_kr_hasRow 6 = .ok (.getfield 23, 3) := by decide +kernel
theorem d_kr_hasRow_9 : decode b_kr_hasRow 9 = .ok (.if_icmp .ge 7, 3) := by decide +kernel
theorem d_kr_hasRow_12 : decode b_kr_hasRow 12 = .ok (.iconst 1, 1) := by decide +kernel
theorem d_kr_hasRow_13 : decode b_kr_hasRow 13 = .ok (.goto 4, 3) := by decide +kernel
theorem d_kr_hasRow_16 : decode b_kr_hasRow 16 = .ok (.iconst 0, 1) := by decide +kernel
theorem d_kr_hasRow_17 : decode b_kr_hasRow 17 = .ok (.ireturn, 1) := by decide +kernel
abbrev b_kr_hasKind : ByteArray := prog_1_method_21_code
def y_kr_hasKind : MethodName := ⟨R_kr, "hasKind", "(I)Z"⟩
def w_kr_hasKind : List Cond := .code y_kr_hasKind b_kr_hasKind 2 (some .boolean) :: kt_T
theorem d_kr_hasKind_0 : decode b_kr_hasKind 0 = .ok (.iload_n 1, 1) := by decide +kernel
theorem d_kr_hasKind_1 : decode b_kr_hasKind 1 = .ok (.ifCond .lt 15, 3) := by decide +kernel
theorem d_kr_hasKind_4 : decode b_kr_hasKind 4 = .ok (.iload_n 1, 1) := by decide +kernel
theorem d_kr_hasKind_5 : decode b_kr_hasKind 5 = .ok (.aload_n 0, 1) := by decide +kernel
theorem d_kr_hasKind_6 : decode b_kr_hasKind 6 = .ok (.getfield 9, 3) := by decide +kernel
theorem d_kr_hasKind_9 : decode b_kr_hasKind 9 = .ok (.if_icmp .ge 7, 3) := by decide +kernel
theorem d_kr_hasKind_12 : decode b_kr_hasKind 12 = .ok (.iconst 1, 1) := by decide +kernel
theorem d_kr_hasKind_13 : decode b_kr_hasKind 13 = .ok (.goto 4, 3) := by decide +kernel
theorem d_kr_hasKind_16 : decode b_kr_hasKind 16 = .ok (.iconst 0, 1) := by decide +kernel
theorem d_kr_hasKind_17 : decode b_kr_hasKind 17 = .ok (.ireturn, 1) := by decide +kernel
abbrev b_kr_isPart : ByteArray := prog_1_method_22_code
def y_kr_isPart : MethodName := ⟨R_kr, "isPart", "(I)Z"⟩
def w_kr_isPart : List Cond := .code y_kr_isPart b_kr_isPart 1 (some .boolean) :: kt_T
theorem d_kr_isPart_0 : decode b_kr_isPart 0 = .ok (.iload_n 0, 1) := by decide +kernel
theorem d_kr_isPart_1 : decode b_kr_isPart 1 = .ok (.ifCond .eq 8, 3) := by decide +kernel
theorem d_kr_isPart_4 : decode b_kr_isPart 4 = .ok (.iload_n 0, 1) := by decide +kernel
theorem d_kr_isPart_5 : decode b_kr_isPart 5 = .ok (.iconst 1, 1) := by decide +kernel
theorem d_kr_isPart_6 : decode b_kr_isPart 6 = .ok (.if_icmp .ne 7, 3) := by decide +kernel
theorem d_kr_isPart_9 : decode b_kr_isPart 9 = .ok (.iconst 1, 1) := by decide +kernel
theorem d_kr_isPart_10 : decode b_kr_isPart 10 = .ok (.goto 4, 3) := by decide +kernel
theorem d_kr_isPart_13 : decode b_kr_isPart 13 = .ok (.iconst 0, 1) := by decide +kernel
theorem d_kr_isPart_14 : decode b_kr_isPart 14 = .ok (.ireturn, 1) := by decide +kernel
abbrev b_kr_goesUp : ByteArray := prog_1_method_23_code
def y_kr_goesUp : MethodName := ⟨R_kr, "goesUp", "(IJJJ)Z"⟩
def w_kr_goesUp : List Cond := .code y_kr_goesUp b_kr_goesUp 7 (some .boolean) :: kt_T
theorem d_kr_goesUp_0 : decode b_kr_goesUp 0 = .ok (.iload_n 0, 1) := by decide +kernel
theorem d_kr_goesUp_1 : decode b_kr_goesUp 1 = .ok (.ifCond .ne 5, 3) := by decide +kernel
theorem d_kr_goesUp_4 : decode b_kr_goesUp 4 = .ok (.iconst 0, 1) := by decide +kernel
theorem d_kr_goesUp_5 : decode b_kr_goesUp 5 = .ok (.ireturn, 1) := by decide +kernel
theorem d_kr_goesUp_6 : decode b_kr_goesUp 6 = .ok (.iload_n 0, 1) := by decide +kernel
theorem d_kr_goesUp_7 : decode b_kr_goesUp 7 = .ok (.iconst 1, 1) := by decide +kernel
theorem d_kr_goesUp_8 : decode b_kr_goesUp 8 = .ok (.if_icmp .ne 15, 3) := by decide +kernel
theorem d_kr_goesUp_11 : decode b_kr_goesUp 11 = .ok (.lload_n 3, 1) := by decide +kernel
theorem d_kr_goesUp_12 : decode b_kr_goesUp 12 = .ok (.lconst 0, 1) := by decide +kernel
theorem d_kr_goesUp_13 : decode b_kr_goesUp 13 = .ok (.lcmp, 1) := by decide +kernel
theorem d_kr_goesUp_14 : decode b_kr_goesUp 14 = .ok (.ifCond .le 7, 3) := by decide +kernel
theorem d_kr_goesUp_17 : decode b_kr_goesUp 17 = .ok (.iconst 1, 1) := by decide +kernel
theorem d_kr_goesUp_18 : decode b_kr_goesUp 18 = .ok (.goto 4, 3) := by decide +kernel
theorem d_kr_goesUp_21 : decode b_kr_goesUp 21 = .ok (.iconst 0, 1) := by decide +kernel
theorem d_kr_goesUp_22 : decode b_kr_goesUp 22 = .ok (.ireturn, 1) := by decide +kernel
theorem d_kr_goesUp_23 : decode b_kr_goesUp 23 = .ok (.ldc2_w 144, 3) := by decide +kernel
theorem d_kr_goesUp_26 : decode b_kr_goesUp 26 = .ok (.lload_n 3, 1) := by decide +kernel
theorem d_kr_goesUp_27 : decode b_kr_goesUp 27 = .ok (.lmul, 1) := by decide +kernel
theorem d_kr_goesUp_28 : decode b_kr_goesUp 28 = .ok (.lload 5, 2) := by decide +kernel
theorem d_kr_goesUp_30 : decode b_kr_goesUp 30 = .ok (.lcmp, 1) := by decide +kernel
theorem d_kr_goesUp_31 : decode b_kr_goesUp 31 = .ok (.ifCond .eq 20, 3) := by decide +kernel
theorem d_kr_goesUp_34 : decode b_kr_goesUp 34 = .ok (.ldc2_w 144, 3) := by decide +kernel
theorem d_kr_goesUp_37 : decode b_kr_goesUp 37 = .ok (.lload_n 3, 1) := by decide +kernel
theorem d_kr_goesUp_38 : decode b_kr_goesUp 38 = .ok (.lmul, 1) := by decide +kernel
theorem d_kr_goesUp_39 : decode b_kr_goesUp 39 = .ok (.lload 5, 2) := by decide +kernel
theorem d_kr_goesUp_41 : decode b_kr_goesUp 41 = .ok (.lcmp, 1) := by decide +kernel
theorem d_kr_goesUp_42 : decode b_kr_goesUp 42 = .ok (.ifCond .le 7, 3) := by decide +kernel
theorem d_kr_goesUp_45 : decode b_kr_goesUp 45 = .ok (.iconst 1, 1) := by decide +kernel
theorem d_kr_goesUp_46 : decode b_kr_goesUp 46 = .ok (.goto 4, 3) := by decide +kernel
theorem d_kr_goesUp_49 : decode b_kr_goesUp 49 = .ok (.iconst 0, 1) := by decide +kernel
theorem d_kr_goesUp_50 : decode b_kr_goesUp 50 = .ok (.ireturn, 1) := by decide +kernel
theorem d_kr_goesUp_51 : decode b_kr_goesUp 51 = .ok (.iload_n 0, 1) := by decide +kernel
theorem d_kr_goesUp_52 : decode b_kr_goesUp 52 = .ok (.iconst 2, 1) := by decide +kernel
theorem d_kr_goesUp_53 : decode b_kr_goesUp 53 = .ok (.if_icmp .ne 15, 3) := by decide +kernel
theorem d_kr_goesUp_56 : decode b_kr_goesUp 56 = .ok (.lload_n 1, 1) := by decide +kernel
theorem d_kr_goesUp_57 : decode b_kr_goesUp 57 = .ok (.lconst 0, 1) := by decide +kernel
theorem d_kr_goesUp_58 : decode b_kr_goesUp 58 = .ok (.lcmp, 1) := by decide +kernel
theorem d_kr_goesUp_59 : decode b_kr_goesUp 59 = .ok (.ifCond .lt 7, 3) := by decide +kernel
theorem d_kr_goesUp_62 : decode b_kr_goesUp 62 = .ok (.iconst 1, 1) := by decide +kernel
theorem d_kr_goesUp_63 : decode b_kr_goesUp 63 = .ok (.goto 4, 3) := by decide +kernel
theorem d_kr_goesUp_66 : decode b_kr_goesUp 66 = .ok (.iconst 0, 1) := by decide +kernel
theorem d_kr_goesUp_67 : decode b_kr_goesUp 67 = .ok (.ireturn, 1) := by decide +kernel
theorem d_kr_goesUp_68 : decode b_kr_goesUp 68 = .ok (.lload_n 1, 1) := by decide +kernel
theorem d_kr_goesUp_69 : decode b_kr_goesUp 69 = .ok (.lconst 1, 1) := by decide +kernel
theorem d_kr_goesUp_70 : decode b_kr_goesUp 70 = .ok (.land, 1) := by decide +kernel
theorem d_kr_goesUp_71 : decode b_kr_goesUp 71 = .ok (.lconst 0, 1) := by decide +kernel
theorem d_kr_goesUp_72 : decode b_kr_goesUp 72 = .ok (.lcmp, 1) := by decide +kernel
theorem d_kr_goesUp_73 : decode b_kr_goesUp 73 = .ok (.ifCond .eq 7, 3) := by decide +kernel
theorem d_kr_goesUp_76 : decode b_kr_goesUp 76 = .ok (.iconst 1, 1) := by decide +kernel
theorem d_kr_goesUp_77 : decode b_kr_goesUp 77 = .ok (.goto 4, 3) := by decide +kernel
theorem d_kr_goesUp_80 : decode b_kr_goesUp 80 = .ok (.iconst 0, 1) := by decide +kernel
theorem d_kr_goesUp_81 : decode b_kr_goesUp 81 = .ok (.ireturn, 1) := by decide +kernel
abbrev b_kr_add : ByteArray := prog_1_method_4_code
def y_kr_add : MethodName := ⟨R_kr, "add", "(II)I"⟩
def w_kr_add : List Cond := .code y_kr_add b_kr_add 5 (some .int) :: kt_T
theorem d_kr_add_0 : decode b_kr_add 0 = .ok (.aload_n 0, 1) := by decide +kernel
theorem d_kr_add_1 : decode b_kr_add 1 = .ok (.getfield 29, 3) := by decide +kernel
theorem d_kr_add_4 : decode b_kr_add 4 = .ok (.iload_n 1, 1) := by decide +kernel
theorem d_kr_add_5 : decode b_kr_add 5 = .ok (.iload_n 2, 1) := by decide +kernel
theorem d_kr_add_6 : decode b_kr_add 6 = .ok (.invokevirtual 74, 3) := by decide +kernel
theorem d_kr_add_9 : decode b_kr_add 9 = .ok (.ifCond .ne 5, 3) := by decide +kernel
theorem d_kr_add_12 : decode b_kr_add 12 = .ok (.iconst (-1), 1) := by decide +kernel
theorem d_kr_add_13 : decode b_kr_add 13 = .ok (.ireturn, 1) := by decide +kernel
theorem d_kr_add_14 : decode b_kr_add 14 = .ok (.aload_n 0, 1) := by decide +kernel
theorem d_kr_add_15 : decode b_kr_add 15 = .ok (.getfield 29, 3) := by decide +kernel
theorem d_kr_add_18 : decode b_kr_add 18 = .ok (.iload_n 1, 1) := by decide +kernel
theorem d_kr_add_19 : decode b_kr_add 19 = .ok (.invokevirtual 78, 3) := by decide +kernel
theorem d_kr_add_22 : decode b_kr_add 22 = .ok (.aload_n 0, 1) := by decide +kernel
theorem d_kr_add_23 : decode b_kr_add 23 = .ok (.getfield 29, 3) := by decide +kernel
theorem d_kr_add_26 : decode b_kr_add 26 = .ok (.iload_n 2, 1) := by decide +kernel
theorem d_kr_add_27 : decode b_kr_add 27 = .ok (.invokevirtual 82, 3) := by decide +kernel
theorem d_kr_add_30 : decode b_kr_add 30 = .ok (.lmul, 1) := by decide +kernel
theorem d_kr_add_31 : decode b_kr_add 31 = .ok (.aload_n 0, 1) := by decide +kernel
theorem d_kr_add_32 : decode b_kr_add 32 = .ok (.getfield 29, 3) := by decide +kernel
theorem d_kr_add_35 : decode b_kr_add 35 = .ok (.iload_n 2, 1) := by decide +kernel
theorem d_kr_add_36 : decode b_kr_add 36 = .ok (.invokevirtual 78, 3) := by decide +kernel
theorem d_kr_add_39 : decode b_kr_add 39 = .ok (.aload_n 0, 1) := by decide +kernel
theorem d_kr_add_40 : decode b_kr_add 40 = .ok (.getfield 29, 3) := by decide +kernel
theorem d_kr_add_43 : decode b_kr_add 43 = .ok (.iload_n 1, 1) := by decide +kernel
theorem d_kr_add_44 : decode b_kr_add 44 = .ok (.invokevirtual 82, 3) := by decide +kernel
theorem d_kr_add_47 : decode b_kr_add 47 = .ok (.lmul, 1) := by decide +kernel
theorem d_kr_add_48 : decode b_kr_add 48 = .ok (.ladd, 1) := by decide +kernel
theorem d_kr_add_49 : decode b_kr_add 49 = .ok (.lstore_n 3, 1) := by decide +kernel
theorem d_kr_add_50 : decode b_kr_add 50 = .ok (.aload_n 0, 1) := by decide +kernel
theorem d_kr_add_51 : decode b_kr_add 51 = .ok (.getfield 29, 3) := by decide +kernel
theorem d_kr_add_54 : decode b_kr_add 54 = .ok (.lload_n 3, 1) := by decide +kernel
theorem d_kr_add_55 : decode b_kr_add 55 = .ok (.aload_n 0, 1) := by decide +kernel
theorem d_kr_add_56 : decode b_kr_add 56 = .ok (.getfield 29, 3) := by decide +kernel
theorem d_kr_add_59 : decode b_kr_add 59 = .ok (.iload_n 1, 1) := by decide +kernel
theorem d_kr_add_60 : decode b_kr_add 60 = .ok (.invokevirtual 82, 3) := by decide +kernel
theorem d_kr_add_63 : decode b_kr_add 63 = .ok (.aload_n 0, 1) := by decide +kernel
theorem d_kr_add_64 : decode b_kr_add 64 = .ok (.getfield 29, 3) := by decide +kernel
theorem d_kr_add_67 : decode b_kr_add 67 = .ok (.iload_n 2, 1) := by decide +kernel
theorem d_kr_add_68 : decode b_kr_add 68 = .ok (.invokevirtual 82, 3) := by decide +kernel
theorem d_kr_add_71 : decode b_kr_add 71 = .ok (.lmul, 1) := by decide +kernel
theorem d_kr_add_72 : decode b_kr_add 72 = .ok (.invokevirtual 54, 3) := by decide +kernel
theorem d_kr_add_75 : decode b_kr_add 75 = .ok (.ireturn, 1) := by decide +kernel
abbrev b_kr_less : ByteArray := prog_1_method_5_code
def y_kr_less : MethodName := ⟨R_kr, "less", "(II)I"⟩
def w_kr_less : List Cond := .code y_kr_less b_kr_less 5 (some .int) :: kt_T
theorem d_kr_less_0 : decode b_kr_less 0 = .ok (.aload_n 0, 1) := by decide +kernel
theorem d_kr_less_1 : decode b_kr_less 1 = .ok (.getfield 29, 3) := by decide +kernel
theorem d_kr_less_4 : decode b_kr_less 4 = .ok (.iload_n 1, 1) := by decide +kernel
theorem d_kr_less_5 : decode b_kr_less 5 = .ok (.iload_n 2, 1) := by decide +kernel
theorem d_kr_less_6 : decode b_kr_less 6 = .ok (.invokevirtual 74, 3) := by decide +kernel
theorem d_kr_less_9 : decode b_kr_less 9 = .ok (.ifCond .ne 5, 3) := by decide +kernel
theorem d_kr_less_12 : decode b_kr_less 12 = .ok (.iconst (-1), 1) := by decide +kernel
theorem d_kr_less_13 : decode b_kr_less 13 = .ok (.ireturn, 1) := by decide +kernel
theorem d_kr_less_14 : decode b_kr_less 14 = .ok (.aload_n 0, 1) := by decide +kernel
theorem d_kr_less_15 : decode b_kr_less 15 = .ok (.getfield 29, 3) := by decide +kernel
theorem d_kr_less_18 : decode b_kr_less 18 = .ok (.iload_n 1, 1) := by decide +kernel
theorem d_kr_less_19 : decode b_kr_less 19 = .ok (.invokevirtual 78, 3) := by decide +kernel
theorem d_kr_less_22 : decode b_kr_less 22 = .ok (.aload_n 0, 1) := by decide +kernel
theorem d_kr_less_23 : decode b_kr_less 23 = .ok (.getfield 29, 3) := by decide +kernel
theorem d_kr_less_26 : decode b_kr_less 26 = .ok (.iload_n 2, 1) := by decide +kernel
theorem d_kr_less_27 : decode b_kr_less 27 = .ok (.invokevirtual 82, 3) := by decide +kernel
theorem d_kr_less_30 : decode b_kr_less 30 = .ok (.lmul, 1) := by decide +kernel
theorem d_kr_less_31 : decode b_kr_less 31 = .ok (.aload_n 0, 1) := by decide +kernel
theorem d_kr_less_32 : decode b_kr_less 32 = .ok (.getfield 29, 3) := by decide +kernel
theorem d_kr_less_35 : decode b_kr_less 35 = .ok (.iload_n 2, 1) := by decide +kernel
theorem d_kr_less_36 : decode b_kr_less 36 = .ok (.invokevirtual 78, 3) := by decide +kernel
theorem d_kr_less_39 : decode b_kr_less 39 = .ok (.aload_n 0, 1) := by decide +kernel
theorem d_kr_less_40 : decode b_kr_less 40 = .ok (.getfield 29, 3) := by decide +kernel
theorem d_kr_less_43 : decode b_kr_less 43 = .ok (.iload_n 1, 1) := by decide +kernel
theorem d_kr_less_44 : decode b_kr_less 44 = .ok (.invokevirtual 82, 3) := by decide +kernel
theorem d_kr_less_47 : decode b_kr_less 47 = .ok (.lmul, 1) := by decide +kernel
theorem d_kr_less_48 : decode b_kr_less 48 = .ok (.lsub, 1) := by decide +kernel
theorem d_kr_less_49 : decode b_kr_less 49 = .ok (.lstore_n 3, 1) := by decide +kernel
theorem d_kr_less_50 : decode b_kr_less 50 = .ok (.aload_n 0, 1) := by decide +kernel
theorem d_kr_less_51 : decode b_kr_less 51 = .ok (.getfield 29, 3) := by decide +kernel
theorem d_kr_less_54 : decode b_kr_less 54 = .ok (.lload_n 3, 1) := by decide +kernel
theorem d_kr_less_55 : decode b_kr_less 55 = .ok (.aload_n 0, 1) := by decide +kernel
theorem d_kr_less_56 : decode b_kr_less 56 = .ok (.getfield 29, 3) := by decide +kernel
theorem d_kr_less_59 : decode b_kr_less 59 = .ok (.iload_n 1, 1) := by decide +kernel
theorem d_kr_less_60 : decode b_kr_less 60 = .ok (.invokevirtual 82, 3) := by decide +kernel
theorem d_kr_less_63 : decode b_kr_less 63 = .ok (.aload_n 0, 1) := by decide +kernel
theorem d_kr_less_64 : decode b_kr_less 64 = .ok (.getfield 29, 3) := by decide +kernel
theorem d_kr_less_67 : decode b_kr_less 67 = .ok (.iload_n 2, 1) := by decide +kernel
theorem d_kr_less_68 : decode b_kr_less 68 = .ok (.invokevirtual 82, 3) := by decide +kernel
theorem d_kr_less_71 : decode b_kr_less 71 = .ok (.lmul, 1) := by decide +kernel
theorem d_kr_less_72 : decode b_kr_less 72 = .ok (.invokevirtual 54, 3) := by decide +kernel
theorem d_kr_less_75 : decode b_kr_less 75 = .ok (.ireturn, 1) := by decide +kernel
abbrev b_kr_times : ByteArray := prog_1_method_6_code
def y_kr_times : MethodName := ⟨R_kr, "times", "(II)I"⟩
def w_kr_times : List Cond := .code y_kr_times b_kr_times 3 (some .int) :: kt_T
theorem d_kr_times_0 : decode b_kr_times 0 = .ok (.aload_n 0, 1) := by decide +kernel
theorem d_kr_times_1 : decode b_kr_times 1 = .ok (.getfield 29, 3) := by decide +kernel
theorem d_kr_times_4 : decode b_kr_times 4 = .ok (.iload_n 1, 1) := by decide +kernel
theorem d_kr_times_5 : decode b_kr_times 5 = .ok (.iload_n 2, 1) := by decide +kernel
theorem d_kr_times_6 : decode b_kr_times 6 = .ok (.invokevirtual 74, 3) := by decide +kernel
theorem d_kr_times_9 : decode b_kr_times 9 = .ok (.ifCond .ne 5, 3) := by decide +kernel
theorem d_kr_times_12 : decode b_kr_times 12 = .ok (.iconst (-1), 1) := by decide +kernel
theorem d_kr_times_13 : decode b_kr_times 13 = .ok (.ireturn, 1) := by decide +kernel
theorem d_kr_times_14 : decode b_kr_times 14 = .ok (.aload_n 0, 1) := by decide +kernel
theorem d_kr_times_15 : decode b_kr_times 15 = .ok (.getfield 29, 3) := by decide +kernel
theorem d_kr_times_18 : decode b_kr_times 18 = .ok (.aload_n 0, 1) := by decide +kernel
theorem d_kr_times_19 : decode b_kr_times 19 = .ok (.getfield 29, 3) := by decide +kernel
theorem d_kr_times_22 : decode b_kr_times 22 = .ok (.iload_n 1, 1) := by decide +kernel
theorem d_kr_times_23 : decode b_kr_times 23 = .ok (.invokevirtual 78, 3) := by decide +kernel
theorem d_kr_times_26 : decode b_kr_times 26 = .ok (.aload_n 0, 1) := by decide +kernel
theorem d_kr_times_27 : decode b_kr_times 27 = .ok (.getfield 29, 3) := by decide +kernel
theorem d_kr_times_30 : decode b_kr_times 30 = .ok (.iload_n 2, 1) := by decide +kernel
theorem d_kr_times_31 : decode b_kr_times 31 = .ok (.invokevirtual 78, 3) := by decide +kernel
theorem d_kr_times_34 : decode b_kr_times 34 = .ok (.lmul, 1) := by decide +kernel
theorem d_kr_times_35 : decode b_kr_times 35 = .ok (.aload_n 0, 1) := by decide +kernel
theorem d_kr_times_36 : decode b_kr_times 36 = .ok (.getfield 29, 3) := by decide +kernel
theorem d_kr_times_39 : decode b_kr_times 39 = .ok (.iload_n 1, 1) := by decide +kernel
theorem d_kr_times_40 : decode b_kr_times 40 = .ok (.invokevirtual 82, 3) := by decide +kernel
theorem d_kr_times_43 : decode b_kr_times 43 = .ok (.aload_n 0, 1) := by decide +kernel
theorem d_kr_times_44 : decode b_kr_times 44 = .ok (.getfield 29, 3) := by decide +kernel
theorem d_kr_times_47 : decode b_kr_times 47 = .ok (.iload_n 2, 1) := by decide +kernel
theorem d_kr_times_48 : decode b_kr_times 48 = .ok (.invokevirtual 82, 3) := by decide +kernel
theorem d_kr_times_51 : decode b_kr_times 51 = .ok (.lmul, 1) := by decide +kernel
theorem d_kr_times_52 : decode b_kr_times 52 = .ok (.invokevirtual 54, 3) := by decide +kernel
theorem d_kr_times_55 : decode b_kr_times 55 = .ok (.ireturn, 1) := by decide +kernel
abbrev b_kr_order : ByteArray := prog_1_method_8_code
def y_kr_order : MethodName := ⟨R_kr, "order", "(II)I"⟩
def w_kr_order : List Cond := .code y_kr_order b_kr_order 7 (some .int) :: kt_T
theorem d_kr_order_0 : decode b_kr_order 0 = .ok (.aload_n 0, 1) := by decide +kernel
theorem d_kr_order_1 : decode b_kr_order 1 = .ok (.getfield 29, 3) := by decide +kernel
theorem d_kr_order_4 : decode b_kr_order 4 = .ok (.iload_n 1, 1) := by decide +kernel
theorem d_kr_order_5 : decode b_kr_order 5 = .ok (.iload_n 2, 1) := by decide +kernel
theorem d_kr_order_6 : decode b_kr_order 6 = .ok (.invokevirtual 74, 3) := by decide +kernel
theorem d_kr_order_9 : decode b_kr_order 9 = .ok (.ifCond .ne 6, 3) := by decide +kernel
theorem d_kr_order_12 : decode b_kr_order 12 = .ok (.bipush (-2), 2) := by decide +kernel
theorem d_kr_order_14 : decode b_kr_order 14 = .ok (.ireturn, 1) := by decide +kernel
theorem d_kr_order_15 : decode b_kr_order 15 = .ok (.aload_n 0, 1) := by decide +kernel
theorem d_kr_order_16 : decode b_kr_order 16 = .ok (.getfield 29, 3) := by decide +kernel
theorem d_kr_order_19 : decode b_kr_order 19 = .ok (.iload_n 1, 1) := by decide +kernel
theorem d_kr_order_20 : decode b_kr_order 20 = .ok (.invokevirtual 78, 3) := by decide +kernel
theorem d_kr_order_23 : decode b_kr_order 23 = .ok (.aload_n 0, 1) := by decide +kernel
theorem d_kr_order_24 : decode b_kr_order 24 = .ok (.getfield 29, 3) := by decide +kernel
theorem d_kr_order_27 : decode b_kr_order 27 = .ok (.iload_n 2, 1) := by decide +kernel
theorem d_kr_order_28 : decode b_kr_order 28 = .ok (.invokevirtual 82, 3) := by decide +kernel
theorem d_kr_order_31 : decode b_kr_order 31 = .ok (.lmul, 1) := by decide +kernel
theorem d_kr_order_32 : decode b_kr_order 32 = .ok (.lstore_n 3, 1) := by decide +kernel
theorem d_kr_order_33 : decode b_kr_order 33 = .ok (.aload_n 0, 1) := by decide +kernel
theorem d_kr_order_34 : decode b_kr_order 34 = .ok (.getfield 29, 3) := by decide +kernel
theorem d_kr_order_37 : decode b_kr_order 37 = .ok (.iload_n 2, 1) := by decide +kernel
theorem d_kr_order_38 : decode b_kr_order 38 = .ok (.invokevirtual 78, 3) := by decide +kernel
theorem d_kr_order_41 : decode b_kr_order 41 = .ok (.aload_n 0, 1) := by decide +kernel
theorem d_kr_order_42 : decode b_kr_order 42 = .ok (.getfield 29, 3) := by decide +kernel
theorem d_kr_order_45 : decode b_kr_order 45 = .ok (.iload_n 1, 1) := by decide +kernel
theorem d_kr_order_46 : decode b_kr_order 46 = .ok (.invokevirtual 82, 3) := by decide +kernel
theorem d_kr_order_49 : decode b_kr_order 49 = .ok (.lmul, 1) := by decide +kernel
theorem d_kr_order_50 : decode b_kr_order 50 = .ok (.lstore 5, 2) := by decide +kernel
theorem d_kr_order_52 : decode b_kr_order 52 = .ok (.lload_n 3, 1) := by decide +kernel
theorem d_kr_order_53 : decode b_kr_order 53 = .ok (.lload 5, 2) := by decide +kernel
theorem d_kr_order_55 : decode b_kr_order 55 = .ok (.lcmp, 1) := by decide +kernel
theorem d_kr_order_56 : decode b_kr_order 56 = .ok (.ifCond .ne 5, 3) := by decide +kernel
theorem d_kr_order_59 : decode b_kr_order 59 = .ok (.iconst 0, 1) := by decide +kernel
theorem d_kr_order_60 : decode b_kr_order 60 = .ok (.ireturn, 1) := by decide +kernel
theorem d_kr_order_61 : decode b_kr_order 61 = .ok (.lload_n 3, 1) := by decide +kernel
theorem d_kr_order_62 : decode b_kr_order 62 = .ok (.lload 5, 2) := by decide +kernel
theorem d_kr_order_64 : decode b_kr_order 64 = .ok (.lcmp, 1) := by decide +kernel
theorem d_kr_order_65 : decode b_kr_order 65 = .ok (.ifCond .ge 7, 3) := by decide +kernel
theorem d_kr_order_68 : decode b_kr_order 68 = .ok (.iconst (-1), 1) := by decide +kernel
theorem d_kr_order_69 : decode b_kr_order 69 = .ok (.goto 4, 3) := by decide +kernel
theorem d_kr_order_72 : decode b_kr_order 72 = .ok (.iconst 1, 1) := by decide +kernel
theorem d_kr_order_73 : decode b_kr_order 73 = .ok (.ireturn, 1) := by decide +kernel
abbrev b_kr_row : ByteArray := prog_1_method_11_code
def y_kr_row : MethodName := ⟨R_kr, "row", "()I"⟩
def w_kr_row : List Cond := .code y_kr_row b_kr_row 1 (some .int) :: kt_T
theorem d_kr_row_0 : decode b_kr_row 0 = .ok (.aload_n 0, 1) := by decide +kernel
theorem d_kr_row_1 : decode b_kr_row 1 = .ok (.getfield 23, 3) := by decide +kernel
theorem d_kr_row_4 : decode b_kr_row 4 = .ok (.bipush 20, 2) := by decide +kernel
theorem d_kr_row_6 : decode b_kr_row 6 = .ok (.if_icmp .lt 5, 3) := by decide +kernel
theorem d_kr_row_9 : decode b_kr_row 9 = .ok (.iconst (-1), 1) := by decide +kernel
theorem d_kr_row_10 : decode b_kr_row 10 = .ok (.ireturn, 1) := by decide +kernel
theorem d_kr_row_11 : decode b_kr_row 11 = .ok (.aload_n 0, 1) := by decide +kernel
theorem d_kr_row_12 : decode b_kr_row 12 = .ok (.dup, 1) := by decide +kernel
theorem d_kr_row_13 : decode b_kr_row 13 = .ok (.getfield 23, 3) := by decide +kernel
theorem d_kr_row_16 : decode b_kr_row 16 = .ok (.iconst 1, 1) := by decide +kernel
theorem d_kr_row_17 : decode b_kr_row 17 = .ok (.iadd, 1) := by decide +kernel
theorem d_kr_row_18 : decode b_kr_row 18 = .ok (.putfield 23, 3) := by decide +kernel
theorem d_kr_row_21 : decode b_kr_row 21 = .ok (.aload_n 0, 1) := by decide +kernel
theorem d_kr_row_22 : decode b_kr_row 22 = .ok (.getfield 23, 3) := by decide +kernel
theorem d_kr_row_25 : decode b_kr_row 25 = .ok (.iconst 1, 1) := by decide +kernel
theorem d_kr_row_26 : decode b_kr_row 26 = .ok (.isub, 1) := by decide +kernel
theorem d_kr_row_27 : decode b_kr_row 27 = .ok (.ireturn, 1) := by decide +kernel
theorem k_16 : (.fieldLink R_kr 23 "KilogramRows" "rowCount" "I" : Cond) ∈ kt_T := List.mem_filter.mpr ⟨List.mem_of_getElem? (i := 104) (by decide +kernel), by decide +kernel⟩
theorem k_17 : (.fieldLink R_kr 9 "KilogramRows" "kinds" "I" : Cond) ∈ kt_T := List.mem_filter.mpr ⟨List.mem_of_getElem? (i := 102) (by decide +kernel), by decide +kernel⟩
theorem k_18 : (.constantLong R_kr 144 2 : Cond) ∈ kt_T := List.mem_filter.mpr ⟨List.mem_of_getElem? (i := 181) (by decide +kernel), by decide +kernel⟩
theorem k_19 : (.fieldLink R_kr 29 "KilogramRows" "values" "LKilogramRows$Values;" : Cond) ∈ kt_T := List.mem_filter.mpr ⟨List.mem_of_getElem? (i := 105) (by decide +kernel), by decide +kernel⟩
theorem k_20 : (.code y_kv_hasBoth b_kv_hasBoth 3 (some .boolean) : Cond) ∈ kt_T := List.mem_filter.mpr ⟨List.mem_of_getElem? (i := 128) (by decide +kernel), by decide +kernel⟩
theorem k_21 : (.instanceMethod y_kv_hasBoth : Cond) ∈ kt_T := List.mem_filter.mpr ⟨List.mem_of_getElem? (i := 126) (by decide +kernel), by decide +kernel⟩
theorem k_22 : (.selects R_kv y_kv_hasBoth y_kv_hasBoth : Cond) ∈ kt_T := List.mem_filter.mpr ⟨List.mem_of_getElem? (i := 127) (by decide +kernel), by decide +kernel⟩
theorem k_23 : (.methodLink R_kr 74 y_kv_hasBoth : Cond) ∈ kt_T := List.mem_filter.mpr ⟨List.mem_of_getElem? (i := 125) (by decide +kernel), by decide +kernel⟩
theorem k_24 : (.code y_kv_upper b_kv_upper 2 (some .long) : Cond) ∈ kt_T := List.mem_filter.mpr ⟨List.mem_of_getElem? (i := 136) (by decide +kernel), by decide +kernel⟩
theorem k_25 : (.instanceMethod y_kv_upper : Cond) ∈ kt_T := List.mem_filter.mpr ⟨List.mem_of_getElem? (i := 134) (by decide +kernel), by decide +kernel⟩
theorem k_26 : (.selects R_kv y_kv_upper y_kv_upper : Cond) ∈ kt_T := List.mem_filter.mpr ⟨List.mem_of_getElem? (i := 135) (by decide +kernel), by decide +kernel⟩
theorem k_27 : (.methodLink R_kr 78 y_kv_upper : Cond) ∈ kt_T := List.mem_filter.mpr ⟨List.mem_of_getElem? (i := 133) (by decide +kernel), by decide +kernel⟩
theorem k_28 : (.code y_kv_lower b_kv_lower 2 (some .long) : Cond) ∈ kt_T := List.mem_filter.mpr ⟨List.mem_of_getElem? (i := 140) (by decide +kernel), by decide +kernel⟩
theorem k_29 : (.instanceMethod y_kv_lower : Cond) ∈ kt_T := List.mem_filter.mpr ⟨List.mem_of_getElem? (i := 138) (by decide +kernel), by decide +kernel⟩
theorem k_30 : (.selects R_kv y_kv_lower y_kv_lower : Cond) ∈ kt_T := List.mem_filter.mpr ⟨List.mem_of_getElem? (i := 139) (by decide +kernel), by decide +kernel⟩
theorem k_31 : (.methodLink R_kr 82 y_kv_lower : Cond) ∈ kt_T := List.mem_filter.mpr ⟨List.mem_of_getElem? (i := 137) (by decide +kernel), by decide +kernel⟩
theorem k_32 : (.code y_kv_keep b_kv_keep 11 (some .int) : Cond) ∈ kt_T := List.mem_filter.mpr ⟨List.mem_of_getElem? (i := 144) (by decide +kernel), by decide +kernel⟩
theorem k_33 : (.instanceMethod y_kv_keep : Cond) ∈ kt_T := List.mem_filter.mpr ⟨List.mem_of_getElem? (i := 142) (by decide +kernel), by decide +kernel⟩
theorem k_34 : (.selects R_kv y_kv_keep y_kv_keep : Cond) ∈ kt_T := List.mem_filter.mpr ⟨List.mem_of_getElem? (i := 143) (by decide +kernel), by decide +kernel⟩
theorem k_35 : (.methodLink R_kr 54 y_kv_keep : Cond) ∈ kt_T := List.mem_filter.mpr ⟨List.mem_of_getElem? (i := 141) (by decide +kernel), by decide +kernel⟩
def f_kr_hasRow (rowc : Int32) (row : Int32) : Int32 :=
  if row < 0 then 0 else if rowc ≤ row then 0 else 1
set_option maxHeartbeats 4000000 in
set_option maxRecDepth 100000 in
theorem c_kr_hasRow (l : Launch) (dC : Nat → ClassId) (dI : Nat → Nat → Nat) (ak : Nat) (kinds : Int32) (ac : Nat) (rowc : Int32) (a0 : Nat) (a_s : Nat) (a_w : Nat) (row : Int32) : Met l y_kr_hasRow w_kr_hasRow ({ frames := 0, cells := 0, slots := 0, locals := 0 }) (va_Pc [.ref ak, .int row] (fun U => va_P (dC, dI) classes [(ak, .inr (0, [.int kinds, .ref ac, .int rowc, .ref a0, .ref a_s, .ref a_w]))] U.heap ∧ va_K (dC, dI) classes [] U)) (vp_Si (fun z9 => z9 = f_kr_hasRow rowc row)) 0 0 (fun _ => False) := by
  refine Met.ofW (cc := b_kr_hasRow) (maxL := 2) (ret := (some .boolean)) (by decide +kernel) rfl ?_
  intro p e s m args below meth c s₁ B hml hv
  obtain ⟨rfl, hP, hK⟩ := hv
  have hx := B.exec
  have hb := B.bytes
  have hr := B.returns
  have hts := atoms_spec (ws := w_kr_hasRow) B.pre
  have hT := fun (w : Cond) (h : w ∈ kt_T) => hts w (List.mem_cons_of_mem _ h)
  have hown : s.vm.findClass R_kr = some m.cls := findClass_of_methodNamed B.named
  have hlocks := B.notSynchronized
  have hl := lv_entry ([.ref ak, .int row]) (n := 2) (Nat.le_of_ble_eq_true rfl)
  rw [lg_entry_eq]
  generalize (lg_sl ([.ref ak, .int row]) ++ List.replicate (2 - (lg_sl ([.ref ak, .int row])).length) Slot.unset).toArray = ls at hl ⊢
  have hl : lv_has ls 2 [(0, .ref ak), (1, .int row)] := hl
  refine lv_iload_n hx hb d_kr_hasRow_0 rfl (lv_at hl 1 rfl) ?_
  refine lv_if_lt (tgt := 16) hx hb d_kr_hasRow_1 (by decide) (fun c_1 => ?_) (fun c_1 => ?_)
  · refine lv_iconst (v := 0) hx hb d_kr_hasRow_16 (by decide) ?_
    exact W.zret (v := 0) hx hb hr rfl (fun t ht hW => ⟨_, rfl, by unfold f_kr_hasRow; rw [if_pos c_1], ht⟩) t_nil d_kr_hasRow_17
  · refine lv_iload_n hx hb d_kr_hasRow_4 rfl (lv_at hl 1 rfl) ?_
    refine lv_aload_n hx hb d_kr_hasRow_5 rfl (lv_at hl 0 rfl) ?_
    refine va_get (D := (dC, dI)) (ci := 0) (v := .int rowc) (C := R_kr) (T := F_kr) (N := 6) hx hb hT i_kr hown hK hP 0 rfl rfl 2 (by decide) (hT _ k_16) (fun _ h9 => h9) rfl d_kr_hasRow_6 ?_
    refine lv_icmp_ge (tgt := 16) hx hb d_kr_hasRow_9 (by decide) (fun c_2 => ?_) (fun c_2 => ?_)
    · refine lv_iconst (v := 0) hx hb d_kr_hasRow_16 (by decide) ?_
      exact W.zret (v := 0) hx hb hr rfl (fun t ht hW => ⟨_, rfl, by unfold f_kr_hasRow; rw [if_neg c_1, if_pos c_2], ht⟩) t_nil d_kr_hasRow_17
    · refine lv_iconst (v := 1) hx hb d_kr_hasRow_12 (by decide) ?_
      refine lv_goto (tgt := 17) hx hb d_kr_hasRow_13 (by decide) ?_
      exact W.zret (v := 1) hx hb hr rfl (fun t ht hW => ⟨_, rfl, by unfold f_kr_hasRow; rw [if_neg c_1, if_neg c_2], ht⟩) t_nil d_kr_hasRow_17
def f_kr_hasKind (kinds : Int32) (kind : Int32) : Int32 :=
  if kind < 0 then 0 else if kinds ≤ kind then 0 else 1
set_option maxHeartbeats 4000000 in
set_option maxRecDepth 100000 in
theorem c_kr_hasKind (l : Launch) (dC : Nat → ClassId) (dI : Nat → Nat → Nat) (ak : Nat) (kinds : Int32) (ac : Nat) (rowc : Int32) (a0 : Nat) (a_s : Nat) (a_w : Nat) (kind : Int32) : Met l y_kr_hasKind w_kr_hasKind ({ frames := 0, cells := 0, slots := 0, locals := 0 }) (va_Pc [.ref ak, .int kind] (fun U => va_P (dC, dI) classes [(ak, .inr (0, [.int kinds, .ref ac, .int rowc, .ref a0, .ref a_s, .ref a_w]))] U.heap ∧ va_K (dC, dI) classes [] U)) (vp_Si (fun z9 => z9 = f_kr_hasKind kinds kind)) 0 0 (fun _ => False) := by
  refine Met.ofW (cc := b_kr_hasKind) (maxL := 2) (ret := (some .boolean)) (by decide +kernel) rfl ?_
  intro p e s m args below meth c s₁ B hml hv
  obtain ⟨rfl, hP, hK⟩ := hv
  have hx := B.exec
  have hb := B.bytes
  have hr := B.returns
  have hts := atoms_spec (ws := w_kr_hasKind) B.pre
  have hT := fun (w : Cond) (h : w ∈ kt_T) => hts w (List.mem_cons_of_mem _ h)
  have hown : s.vm.findClass R_kr = some m.cls := findClass_of_methodNamed B.named
  have hlocks := B.notSynchronized
  have hl := lv_entry ([.ref ak, .int kind]) (n := 2) (Nat.le_of_ble_eq_true rfl)
  rw [lg_entry_eq]
  generalize (lg_sl ([.ref ak, .int kind]) ++ List.replicate (2 - (lg_sl ([.ref ak, .int kind])).length) Slot.unset).toArray = ls at hl ⊢
  have hl : lv_has ls 2 [(0, .ref ak), (1, .int kind)] := hl
  refine lv_iload_n hx hb d_kr_hasKind_0 rfl (lv_at hl 1 rfl) ?_
  refine lv_if_lt (tgt := 16) hx hb d_kr_hasKind_1 (by decide) (fun c_1 => ?_) (fun c_1 => ?_)
  · refine lv_iconst (v := 0) hx hb d_kr_hasKind_16 (by decide) ?_
    exact W.zret (v := 0) hx hb hr rfl (fun t ht hW => ⟨_, rfl, by unfold f_kr_hasKind; rw [if_pos c_1], ht⟩) t_nil d_kr_hasKind_17
  · refine lv_iload_n hx hb d_kr_hasKind_4 rfl (lv_at hl 1 rfl) ?_
    refine lv_aload_n hx hb d_kr_hasKind_5 rfl (lv_at hl 0 rfl) ?_
    refine va_get (D := (dC, dI)) (ci := 0) (v := .int kinds) (C := R_kr) (T := F_kr) (N := 6) hx hb hT i_kr hown hK hP 0 rfl rfl 0 (by decide) (hT _ k_17) (fun _ h9 => h9) rfl d_kr_hasKind_6 ?_
    refine lv_icmp_ge (tgt := 16) hx hb d_kr_hasKind_9 (by decide) (fun c_2 => ?_) (fun c_2 => ?_)
    · refine lv_iconst (v := 0) hx hb d_kr_hasKind_16 (by decide) ?_
      exact W.zret (v := 0) hx hb hr rfl (fun t ht hW => ⟨_, rfl, by unfold f_kr_hasKind; rw [if_neg c_1, if_pos c_2], ht⟩) t_nil d_kr_hasKind_17
    · refine lv_iconst (v := 1) hx hb d_kr_hasKind_12 (by decide) ?_
      refine lv_goto (tgt := 17) hx hb d_kr_hasKind_13 (by decide) ?_
      exact W.zret (v := 1) hx hb hr rfl (fun t ht hW => ⟨_, rfl, by unfold f_kr_hasKind; rw [if_neg c_1, if_neg c_2], ht⟩) t_nil d_kr_hasKind_17
def f_kr_isPart (q : Int32) : Int32 :=
  if q = 0 then 1 else if q = 1 then 1 else 0
set_option maxHeartbeats 4000000 in
set_option maxRecDepth 100000 in
theorem c_kr_isPart (l : Launch) (q : Int32) : Met l y_kr_isPart w_kr_isPart ({ frames := 0, cells := 0, slots := 0, locals := 0 }) (va_Pc [.int q] (fun _ => True)) (vp_Si (fun z9 => z9 = f_kr_isPart q)) 0 0 (fun _ => False) := by
  refine Met.ofW (cc := b_kr_isPart) (maxL := 1) (ret := (some .boolean)) (by decide +kernel) rfl ?_
  intro p e s m args below meth c s₁ B hml hv
  obtain ⟨rfl, -⟩ := hv
  have hx := B.exec
  have hb := B.bytes
  have hr := B.returns
  have hts := atoms_spec (ws := w_kr_isPart) B.pre
  have hT := fun (w : Cond) (h : w ∈ kt_T) => hts w (List.mem_cons_of_mem _ h)
  have hown : s.vm.findClass R_kr = some m.cls := findClass_of_methodNamed B.named
  have hlocks := B.notSynchronized
  have hl := lv_entry ([.int q]) (n := 1) (Nat.le_of_ble_eq_true rfl)
  rw [lg_entry_eq]
  generalize (lg_sl ([.int q]) ++ List.replicate (1 - (lg_sl ([.int q])).length) Slot.unset).toArray = ls at hl ⊢
  have hl : lv_has ls 1 [(0, .int q)] := hl
  refine lv_iload_n hx hb d_kr_isPart_0 rfl (lv_at hl 0 rfl) ?_
  refine lv_if_eq (tgt := 9) hx hb d_kr_isPart_1 (by decide) (fun c_1 => ?_) (fun c_1 => ?_)
  · refine lv_iconst (v := 1) hx hb d_kr_isPart_9 (by decide) ?_
    refine lv_goto (tgt := 14) hx hb d_kr_isPart_10 (by decide) ?_
    exact W.zret (v := 1) hx hb hr rfl (fun t ht hW => ⟨_, rfl, by unfold f_kr_isPart; rw [if_pos c_1], ht⟩) t_nil d_kr_isPart_14
  · refine lv_iload_n hx hb d_kr_isPart_4 rfl (lv_at hl 0 rfl) ?_
    refine lv_iconst (v := 1) hx hb d_kr_isPart_5 (by decide) ?_
    refine lv_icmp_ne (tgt := 13) hx hb d_kr_isPart_6 (by decide) (fun c_2 => ?_) (fun c_2 => ?_)
    · refine lv_iconst (v := 0) hx hb d_kr_isPart_13 (by decide) ?_
      exact W.zret (v := 0) hx hb hr rfl (fun t ht hW => ⟨_, rfl, by unfold f_kr_isPart; rw [if_neg c_1, if_neg c_2], ht⟩) t_nil d_kr_isPart_14
    · refine lv_iconst (v := 1) hx hb d_kr_isPart_9 (by decide) ?_
      refine lv_goto (tgt := 14) hx hb d_kr_isPart_10 (by decide) ?_
      exact W.zret (v := 1) hx hb hr rfl (fun t ht hW => ⟨_, rfl, by unfold f_kr_isPart; rw [if_neg c_1, if_pos c_2], ht⟩) t_nil d_kr_isPart_14
def f_kr_goesUp (rule : Int32) (mul : Int64) (rest : Int64) (step : Int64) : Int32 :=
  if rule = 0 then 0 else if rule = 1 then if rest ≤ 0 then 0 else 1 else if (2 * rest) = step then if rule = 2 then if mul < 0 then 0 else 1 else if (mul &&& 1) = 0 then 0 else 1 else if (2 * rest) ≤ step then 0 else 1
set_option maxHeartbeats 4000000 in
set_option maxRecDepth 100000 in
theorem c_kr_goesUp (l : Launch) (rule : Int32) (mul : Int64) (rest : Int64) (step : Int64) : Met l y_kr_goesUp w_kr_goesUp ({ frames := 0, cells := 0, slots := 0, locals := 0 }) (va_Pc [.int rule, .long mul, .long rest, .long step] (fun _ => True)) (vp_Si (fun z9 => z9 = f_kr_goesUp rule mul rest step)) 0 0 (fun _ => False) := by
  refine Met.ofW (cc := b_kr_goesUp) (maxL := 7) (ret := (some .boolean)) (by decide +kernel) rfl ?_
  intro p e s m args below meth c s₁ B hml hv
  obtain ⟨rfl, -⟩ := hv
  have hx := B.exec
  have hb := B.bytes
  have hr := B.returns
  have hts := atoms_spec (ws := w_kr_goesUp) B.pre
  have hT := fun (w : Cond) (h : w ∈ kt_T) => hts w (List.mem_cons_of_mem _ h)
  have hown : s.vm.findClass R_kr = some m.cls := findClass_of_methodNamed B.named
  have hlocks := B.notSynchronized
  have hl := lv_entry ([.int rule, .long mul, .long rest, .long step]) (n := 7) (Nat.le_of_ble_eq_true rfl)
  rw [lg_entry_eq]
  generalize (lg_sl ([.int rule, .long mul, .long rest, .long step]) ++ List.replicate (7 - (lg_sl ([.int rule, .long mul, .long rest, .long step])).length) Slot.unset).toArray = ls at hl ⊢
  have hl : lv_has ls 7 [(0, .int rule), (1, .long mul), (3, .long rest), (5, .long step)] := hl
  refine lv_iload_n hx hb d_kr_goesUp_0 rfl (lv_at hl 0 rfl) ?_
  refine lv_if_ne (tgt := 6) hx hb d_kr_goesUp_1 (by decide) (fun c_1 => ?_) (fun c_1 => ?_)
  · refine lv_iload_n hx hb d_kr_goesUp_6 rfl (lv_at hl 0 rfl) ?_
    refine lv_iconst (v := 1) hx hb d_kr_goesUp_7 (by decide) ?_
    refine lv_icmp_ne (tgt := 23) hx hb d_kr_goesUp_8 (by decide) (fun c_2 => ?_) (fun c_2 => ?_)
    · refine lv_ldc2 (v := 2) hx hb hown (hT _ k_18) d_kr_goesUp_23 ?_
      refine lv_lload_n hx hb d_kr_goesUp_26 rfl (lv_at hl 2 rfl) ?_
      refine lv_lmul hx hb d_kr_goesUp_27 ?_
      refine lv_lload hx hb d_kr_goesUp_28 (lv_at hl 3 rfl) ?_
      refine lx_ifeq (tgt := 51) hx hb d_kr_goesUp_30 d_kr_goesUp_31 (by decide) (fun c_3 => ?_) (fun c_3 => ?_)
      · refine lv_iload_n hx hb d_kr_goesUp_51 rfl (lv_at hl 0 rfl) ?_
        refine lv_iconst (v := 2) hx hb d_kr_goesUp_52 (by decide) ?_
        refine lv_icmp_ne (tgt := 68) hx hb d_kr_goesUp_53 (by decide) (fun c_4 => ?_) (fun c_4 => ?_)
        · refine lv_lload_n hx hb d_kr_goesUp_68 rfl (lv_at hl 1 rfl) ?_
          refine lv_lconst (v := 1) hx hb d_kr_goesUp_69 (by decide) ?_
          refine lv_land hx hb d_kr_goesUp_70 ?_
          refine lv_lconst (v := 0) hx hb d_kr_goesUp_71 (by decide) ?_
          refine lx_ifeq (tgt := 80) hx hb d_kr_goesUp_72 d_kr_goesUp_73 (by decide) (fun c_5 => ?_) (fun c_5 => ?_)
          · refine lv_iconst (v := 0) hx hb d_kr_goesUp_80 (by decide) ?_
            exact W.zret (v := 0) hx hb hr rfl (fun t ht hW => ⟨_, rfl, by unfold f_kr_goesUp; rw [if_neg c_1, if_neg c_2, if_pos c_3, if_neg c_4, if_pos c_5], ht⟩) t_nil d_kr_goesUp_81
          · refine lv_iconst (v := 1) hx hb d_kr_goesUp_76 (by decide) ?_
            refine lv_goto (tgt := 81) hx hb d_kr_goesUp_77 (by decide) ?_
            exact W.zret (v := 1) hx hb hr rfl (fun t ht hW => ⟨_, rfl, by unfold f_kr_goesUp; rw [if_neg c_1, if_neg c_2, if_pos c_3, if_neg c_4, if_neg c_5], ht⟩) t_nil d_kr_goesUp_81
        · refine lv_lload_n hx hb d_kr_goesUp_56 rfl (lv_at hl 1 rfl) ?_
          refine lv_lconst (v := 0) hx hb d_kr_goesUp_57 (by decide) ?_
          refine lx_iflt (tgt := 66) hx hb d_kr_goesUp_58 d_kr_goesUp_59 (by decide) (fun c_6 => ?_) (fun c_6 => ?_)
          · refine lv_iconst (v := 0) hx hb d_kr_goesUp_66 (by decide) ?_
            exact W.zret (v := 0) hx hb hr rfl (fun t ht hW => ⟨_, rfl, by unfold f_kr_goesUp; rw [if_neg c_1, if_neg c_2, if_pos c_3, if_pos c_4, if_pos c_6], ht⟩) t_nil d_kr_goesUp_67
          · refine lv_iconst (v := 1) hx hb d_kr_goesUp_62 (by decide) ?_
            refine lv_goto (tgt := 67) hx hb d_kr_goesUp_63 (by decide) ?_
            exact W.zret (v := 1) hx hb hr rfl (fun t ht hW => ⟨_, rfl, by unfold f_kr_goesUp; rw [if_neg c_1, if_neg c_2, if_pos c_3, if_pos c_4, if_neg c_6], ht⟩) t_nil d_kr_goesUp_67
      · refine lv_ldc2 (v := 2) hx hb hown (hT _ k_18) d_kr_goesUp_34 ?_
        refine lv_lload_n hx hb d_kr_goesUp_37 rfl (lv_at hl 2 rfl) ?_
        refine lv_lmul hx hb d_kr_goesUp_38 ?_
        refine lv_lload hx hb d_kr_goesUp_39 (lv_at hl 3 rfl) ?_
        refine lx_ifle (tgt := 49) hx hb d_kr_goesUp_41 d_kr_goesUp_42 (by decide) (fun c_7 => ?_) (fun c_7 => ?_)
        · refine lv_iconst (v := 0) hx hb d_kr_goesUp_49 (by decide) ?_
          exact W.zret (v := 0) hx hb hr rfl (fun t ht hW => ⟨_, rfl, by unfold f_kr_goesUp; rw [if_neg c_1, if_neg c_2, if_neg c_3, if_pos c_7], ht⟩) t_nil d_kr_goesUp_50
        · refine lv_iconst (v := 1) hx hb d_kr_goesUp_45 (by decide) ?_
          refine lv_goto (tgt := 50) hx hb d_kr_goesUp_46 (by decide) ?_
          exact W.zret (v := 1) hx hb hr rfl (fun t ht hW => ⟨_, rfl, by unfold f_kr_goesUp; rw [if_neg c_1, if_neg c_2, if_neg c_3, if_neg c_7], ht⟩) t_nil d_kr_goesUp_50
    · refine lv_lload_n hx hb d_kr_goesUp_11 rfl (lv_at hl 2 rfl) ?_
      refine lv_lconst (v := 0) hx hb d_kr_goesUp_12 (by decide) ?_
      refine lx_ifle (tgt := 21) hx hb d_kr_goesUp_13 d_kr_goesUp_14 (by decide) (fun c_8 => ?_) (fun c_8 => ?_)
      · refine lv_iconst (v := 0) hx hb d_kr_goesUp_21 (by decide) ?_
        exact W.zret (v := 0) hx hb hr rfl (fun t ht hW => ⟨_, rfl, by unfold f_kr_goesUp; rw [if_neg c_1, if_pos c_2, if_pos c_8], ht⟩) t_nil d_kr_goesUp_22
      · refine lv_iconst (v := 1) hx hb d_kr_goesUp_17 (by decide) ?_
        refine lv_goto (tgt := 22) hx hb d_kr_goesUp_18 (by decide) ?_
        exact W.zret (v := 1) hx hb hr rfl (fun t ht hW => ⟨_, rfl, by unfold f_kr_goesUp; rw [if_neg c_1, if_pos c_2, if_neg c_8], ht⟩) t_nil d_kr_goesUp_22
  · refine lv_iconst (v := 0) hx hb d_kr_goesUp_4 (by decide) ?_
    exact W.zret (v := 0) hx hb hr rfl (fun t ht hW => ⟨_, rfl, by unfold f_kr_goesUp; rw [if_pos c_1], ht⟩) t_nil d_kr_goesUp_5
def f_kr_add (cnt : Int32) (fu : Nat → Int32) (fl : Nat → Int32) (a : Int32) (b : Int32) : Int32 × (Nat → Int32) × (Nat → Int32) × Int32 :=
  if (f_kv_hasBoth cnt a b) = 0 then ((-1), fu, fl, cnt) else (f_kv_keep cnt fu fl (((f_kv_upper fu a) * (f_kv_lower fl b)) + ((f_kv_upper fu b) * (f_kv_lower fl a))) ((f_kv_lower fl a) * (f_kv_lower fl b)))
set_option maxHeartbeats 4000000 in
set_option maxRecDepth 100000 in
theorem c_kr_add (l : Launch) (dC : Nat → ClassId) (dI : Nat → Nat → Nat) (sz : Nat) (ak : Nat) (a0 : Nat) (a1 : Nat) (a2 : Nat) (kinds : Int32) (ac : Nat) (rowc : Int32) (a_s : Nat) (a_w : Nat) (cnt : Int32) (cU : ClassId) (fu : Nat → Int32) (cL : ClassId) (fl : Nat → Int32) (a : Int32) (b : Int32) (hc : vp_in cnt 301) : Met l y_kr_add w_kr_add ({ frames := 2, cells := 0, slots := 0, locals := 60 }) (va_Pc [.ref ak, .int a, .int b] (fun U => U.heap.size = sz ∧ va_P (dC, dI) classes [(ak, .inr (0, [.int kinds, .ref ac, .int rowc, .ref a0, .ref a_s, .ref a_w])), (a0, .inr (1, [.ref a1, .ref a2, .int cnt])), (a1, .inl (cU, 300, .inl fu)), (a2, .inl (cL, 300, .inl fl))] U.heap ∧ va_K (dC, dI) classes [(cU, .int), (cL, .int)] U ∧ va_D (fun _ => True) [(ak, .inr (0, [.int kinds, .ref ac, .int rowc, .ref a0, .ref a_s, .ref a_w])), (a0, .inr (1, [.ref a1, .ref a2, .int cnt])), (a1, .inl (cU, 300, .inl fu)), (a2, .inl (cL, 300, .inl fl))] ∧ kt_N U)) (va_Qi (fun z9 u9 => (z9, u9) = f_kr_add cnt fu fl a b) (fun (u : (Nat → Int32) × (Nat → Int32) × Int32) t => match u with | (fu', fl', cnt') => va_P (dC, dI) classes [(ak, .inr (0, [.int kinds, .ref ac, .int rowc, .ref a0, .ref a_s, .ref a_w])), (a0, .inr (1, [.ref a1, .ref a2, .int cnt'])), (a1, .inl (cU, 300, .inl fu')), (a2, .inl (cL, 300, .inl fl'))] t.heap ∧ va_K (dC, dI) classes [(cU, .int), (cL, .int)] t ∧ va_D (va_A [(ak, .inr (0, [.int kinds, .ref ac, .int rowc, .ref a0, .ref a_s, .ref a_w])), (a0, .inr (1, [.ref a1, .ref a2, .int cnt])), (a1, .inl (cU, 300, .inl fu)), (a2, .inl (cL, 300, .inl fl))] sz) [(ak, .inr (0, [.int kinds, .ref ac, .int rowc, .ref a0, .ref a_s, .ref a_w])), (a0, .inr (1, [.ref a1, .ref a2, .int cnt'])), (a1, .inl (cU, 300, .inl fu')), (a2, .inl (cL, 300, .inl fl'))]) (va_A [(ak, .inr (0, [.int kinds, .ref ac, .int rowc, .ref a0, .ref a_s, .ref a_w])), (a0, .inr (1, [.ref a1, .ref a2, .int cnt])), (a1, .inl (cU, 300, .inl fu)), (a2, .inl (cL, 300, .inl fl))] sz)) 0 0 (va_A [(ak, .inr (0, [.int kinds, .ref ac, .int rowc, .ref a0, .ref a_s, .ref a_w])), (a0, .inr (1, [.ref a1, .ref a2, .int cnt])), (a1, .inl (cU, 300, .inl fu)), (a2, .inl (cL, 300, .inl fl))] sz) := by
  refine Met.ofW (cc := b_kr_add) (maxL := 5) (ret := (some .int)) (by decide +kernel) rfl ?_
  intro p e s m args below meth c s₁ B hml hv
  obtain ⟨rfl, hsz, hP, hK, hD0, hN⟩ := hv
  have hx := B.exec
  have hb := B.bytes
  have hr := B.returns
  have hts := atoms_spec (ws := w_kr_add) B.pre
  have hT := fun (w : Cond) (h : w ∈ kt_T) => hts w (List.mem_cons_of_mem _ h)
  have hown : s.vm.findClass R_kr = some m.cls := findClass_of_methodNamed B.named
  have hlocks := B.notSynchronized
  subst hsz
  have hD := hD0.self (sz := s.heap.size)
  generalize hAe : va_A [(ak, .inr (0, [.int kinds, .ref ac, .int rowc, .ref a0, .ref a_s, .ref a_w])), (a0, .inr (1, [.ref a1, .ref a2, .int cnt])), (a1, .inl (cU, 300, .inl fu)), (a2, .inl (cL, 300, .inl fl))] s.heap.size = A at hD ⊢
  have hA : ∀ q : Nat, s.heap.size ≤ q → A q := fun q h => by rw [← hAe]; exact Or.inr h
  have hS : va_S A s.heap s.heap [] := va_S.rf
  have hl := lv_entry ([.ref ak, .int a, .int b]) (n := 5) (Nat.le_of_ble_eq_true rfl)
  rw [lg_entry_eq]
  generalize (lg_sl ([.ref ak, .int a, .int b]) ++ List.replicate (5 - (lg_sl ([.ref ak, .int a, .int b])).length) Slot.unset).toArray = ls at hl ⊢
  have hl : lv_has ls 5 [(0, .ref ak), (1, .int a), (2, .int b)] := hl
  refine lv_aload_n hx hb d_kr_add_0 rfl (lv_at hl 0 rfl) ?_
  refine va_get (D := (dC, dI)) (ci := 0) (v := .ref a0) (C := R_kr) (T := F_kr) (N := 6) hx hb hT i_kr hown hK hP 0 rfl rfl 3 (by decide) (hT _ k_19) (fun _ h9 => h9) rfl d_kr_add_1 ?_
  refine lv_iload_n hx hb d_kr_add_4 rfl (lv_at hl 1 rfl) ?_
  refine lv_iload_n hx hb d_kr_add_5 rfl (lv_at hl 2 rfl) ?_
  have hPc := hP.sub (ws' := [(a0, .inr (1, [.ref a1, .ref a2, .int cnt])), (a1, .inl (cU, 300, .inl fu)), (a2, .inl (cL, 300, .inl fl))]) [1, 2, 3] rfl
  have hKc := hK.sub (tys' := [(cU, .int), (cL, .int)]) [0, 1] rfl
  refine vp_callSi (W.runV (As := [.int a, .int b]) (rest := []) ⟨hx, hb, hml, hown, hT⟩ (c_kv_hasBoth l dC dI a0 a1 a2 cnt cU fu cL fl a b) (cwV 2 hT (kt_V k_23 k_21 k_22 k_2 k_20) rfl rfl rfl (by decide +kernel) ⟨Nat.le_of_ble_eq_true rfl, Nat.le_of_ble_eq_true rfl⟩) ⟨bl_R, va_recv hKc hPc (ci := 1) (q0 := 0) rfl rfl, fun U hU hW => ⟨rfl, by rw [hU]; exact hPc, va_K.moved hW.alike hKc⟩⟩ rfl rfl hl.1 rfl (lv_room (Nat.le_of_ble_eq_true rfl)) d_kr_add_6 ⟨Nat.zero_le _, Nat.zero_le _⟩) (fun r_1 e_r_1 => ?_)
  subst e_r_1
  refine lv_if_ne (tgt := 14) hx hb d_kr_add_9 (by decide) (fun c_2 => ?_) (fun c_2 => ?_)
  · refine lv_aload_n hx hb d_kr_add_14 rfl (lv_at hl 0 rfl) ?_
    refine va_get (D := (dC, dI)) (ci := 0) (v := .ref a0) (C := R_kr) (T := F_kr) (N := 6) hx hb hT i_kr hown hK hP 0 rfl rfl 3 (by decide) (hT _ k_19) (fun _ h9 => h9) rfl d_kr_add_15 ?_
    refine lv_iload_n hx hb d_kr_add_18 rfl (lv_at hl 1 rfl) ?_
    have hPc := hP.sub (ws' := [(a0, .inr (1, [.ref a1, .ref a2, .int cnt])), (a1, .inl (cU, 300, .inl fu)), (a2, .inl (cL, 300, .inl fl))]) [1, 2, 3] rfl
    have hKc := hK.sub (tys' := [(cU, .int), (cL, .int)]) [0, 1] rfl
    refine vp_callSl (W.runV (As := [.int a]) (rest := []) ⟨hx, hb, hml, hown, hT⟩ (c_kv_upper l dC dI a0 a1 a2 cnt cU fu cL fl a (in_hb1 hc c_2)) (cwV 1 hT (kt_V k_27 k_25 k_26 k_2 k_24) rfl rfl rfl (by decide +kernel) ⟨Nat.le_of_ble_eq_true rfl, Nat.le_of_ble_eq_true rfl⟩) ⟨bl_R, va_recv hKc hPc (ci := 1) (q0 := 0) rfl rfl, fun U hU hW => ⟨rfl, by rw [hU]; exact hPc, va_K.moved hW.alike hKc⟩⟩ rfl rfl hl.1 rfl (lv_room (Nat.le_of_ble_eq_true rfl)) d_kr_add_19 ⟨Nat.zero_le _, Nat.zero_le _⟩) (fun r_3 e_r_3 => ?_)
    subst e_r_3
    refine lv_aload_n hx hb d_kr_add_22 rfl (lv_at hl 0 rfl) ?_
    refine va_get (D := (dC, dI)) (ci := 0) (v := .ref a0) (C := R_kr) (T := F_kr) (N := 6) hx hb hT i_kr hown hK hP 0 rfl rfl 3 (by decide) (hT _ k_19) (fun _ h9 => h9) rfl d_kr_add_23 ?_
    refine lv_iload_n hx hb d_kr_add_26 rfl (lv_at hl 2 rfl) ?_
    have hPc := hP.sub (ws' := [(a0, .inr (1, [.ref a1, .ref a2, .int cnt])), (a1, .inl (cU, 300, .inl fu)), (a2, .inl (cL, 300, .inl fl))]) [1, 2, 3] rfl
    have hKc := hK.sub (tys' := [(cU, .int), (cL, .int)]) [0, 1] rfl
    refine vp_callSl (W.runV (As := [.int b]) (rest := [.long (f_kv_upper fu a)]) ⟨hx, hb, hml, hown, hT⟩ (c_kv_lower l dC dI a0 a1 a2 cnt cU fu cL fl b (in_hb2 hc c_2)) (cwV 1 hT (kt_V k_31 k_29 k_30 k_2 k_28) rfl rfl rfl (by decide +kernel) ⟨Nat.le_of_ble_eq_true rfl, Nat.le_of_ble_eq_true rfl⟩) ⟨bl_R, va_recv hKc hPc (ci := 1) (q0 := 0) rfl rfl, fun U hU hW => ⟨rfl, by rw [hU]; exact hPc, va_K.moved hW.alike hKc⟩⟩ rfl rfl hl.1 rfl (lv_room (Nat.le_of_ble_eq_true rfl)) d_kr_add_27 ⟨Nat.zero_le _, Nat.zero_le _⟩) (fun r_4 e_r_4 => ?_)
    subst e_r_4
    refine lv_lmul hx hb d_kr_add_30 ?_
    refine lv_aload_n hx hb d_kr_add_31 rfl (lv_at hl 0 rfl) ?_
    refine va_get (D := (dC, dI)) (ci := 0) (v := .ref a0) (C := R_kr) (T := F_kr) (N := 6) hx hb hT i_kr hown hK hP 0 rfl rfl 3 (by decide) (hT _ k_19) (fun _ h9 => h9) rfl d_kr_add_32 ?_
    refine lv_iload_n hx hb d_kr_add_35 rfl (lv_at hl 2 rfl) ?_
    have hPc := hP.sub (ws' := [(a0, .inr (1, [.ref a1, .ref a2, .int cnt])), (a1, .inl (cU, 300, .inl fu)), (a2, .inl (cL, 300, .inl fl))]) [1, 2, 3] rfl
    have hKc := hK.sub (tys' := [(cU, .int), (cL, .int)]) [0, 1] rfl
    refine vp_callSl (W.runV (As := [.int b]) (rest := [.long ((f_kv_upper fu a) * (f_kv_lower fl b))]) ⟨hx, hb, hml, hown, hT⟩ (c_kv_upper l dC dI a0 a1 a2 cnt cU fu cL fl b (in_hb2 hc c_2)) (cwV 1 hT (kt_V k_27 k_25 k_26 k_2 k_24) rfl rfl rfl (by decide +kernel) ⟨Nat.le_of_ble_eq_true rfl, Nat.le_of_ble_eq_true rfl⟩) ⟨bl_R, va_recv hKc hPc (ci := 1) (q0 := 0) rfl rfl, fun U hU hW => ⟨rfl, by rw [hU]; exact hPc, va_K.moved hW.alike hKc⟩⟩ rfl rfl hl.1 rfl (lv_room (Nat.le_of_ble_eq_true rfl)) d_kr_add_36 ⟨Nat.zero_le _, Nat.zero_le _⟩) (fun r_5 e_r_5 => ?_)
    subst e_r_5
    refine lv_aload_n hx hb d_kr_add_39 rfl (lv_at hl 0 rfl) ?_
    refine va_get (D := (dC, dI)) (ci := 0) (v := .ref a0) (C := R_kr) (T := F_kr) (N := 6) hx hb hT i_kr hown hK hP 0 rfl rfl 3 (by decide) (hT _ k_19) (fun _ h9 => h9) rfl d_kr_add_40 ?_
    refine lv_iload_n hx hb d_kr_add_43 rfl (lv_at hl 1 rfl) ?_
    have hPc := hP.sub (ws' := [(a0, .inr (1, [.ref a1, .ref a2, .int cnt])), (a1, .inl (cU, 300, .inl fu)), (a2, .inl (cL, 300, .inl fl))]) [1, 2, 3] rfl
    have hKc := hK.sub (tys' := [(cU, .int), (cL, .int)]) [0, 1] rfl
    refine vp_callSl (W.runV (As := [.int a]) (rest := [.long (f_kv_upper fu b), .long ((f_kv_upper fu a) * (f_kv_lower fl b))]) ⟨hx, hb, hml, hown, hT⟩ (c_kv_lower l dC dI a0 a1 a2 cnt cU fu cL fl a (in_hb1 hc c_2)) (cwV 1 hT (kt_V k_31 k_29 k_30 k_2 k_28) rfl rfl rfl (by decide +kernel) ⟨Nat.le_of_ble_eq_true rfl, Nat.le_of_ble_eq_true rfl⟩) ⟨bl_R, va_recv hKc hPc (ci := 1) (q0 := 0) rfl rfl, fun U hU hW => ⟨rfl, by rw [hU]; exact hPc, va_K.moved hW.alike hKc⟩⟩ rfl rfl hl.1 rfl (lv_room (Nat.le_of_ble_eq_true rfl)) d_kr_add_44 ⟨Nat.zero_le _, Nat.zero_le _⟩) (fun r_6 e_r_6 => ?_)
    subst e_r_6
    refine lv_lmul hx hb d_kr_add_47 ?_
    refine lv_ladd hx hb d_kr_add_48 ?_
    refine lv_lstore_n (lv' := [(3, .long (((f_kv_upper fu a) * (f_kv_lower fl b)) + ((f_kv_upper fu b) * (f_kv_lower fl a)))), (0, .ref ak), (1, .int a), (2, .int b)]) hx hb d_kr_add_49 rfl hl (by decide) rfl (fun ls hl => ?_)
    refine lv_aload_n hx hb d_kr_add_50 rfl (lv_at hl 1 rfl) ?_
    refine va_get (D := (dC, dI)) (ci := 0) (v := .ref a0) (C := R_kr) (T := F_kr) (N := 6) hx hb hT i_kr hown hK hP 0 rfl rfl 3 (by decide) (hT _ k_19) (fun _ h9 => h9) rfl d_kr_add_51 ?_
    refine lv_lload_n hx hb d_kr_add_54 rfl (lv_at hl 0 rfl) ?_
    refine lv_aload_n hx hb d_kr_add_55 rfl (lv_at hl 1 rfl) ?_
    refine va_get (D := (dC, dI)) (ci := 0) (v := .ref a0) (C := R_kr) (T := F_kr) (N := 6) hx hb hT i_kr hown hK hP 0 rfl rfl 3 (by decide) (hT _ k_19) (fun _ h9 => h9) rfl d_kr_add_56 ?_
    refine lv_iload_n hx hb d_kr_add_59 rfl (lv_at hl 2 rfl) ?_
    have hPc := hP.sub (ws' := [(a0, .inr (1, [.ref a1, .ref a2, .int cnt])), (a1, .inl (cU, 300, .inl fu)), (a2, .inl (cL, 300, .inl fl))]) [1, 2, 3] rfl
    have hKc := hK.sub (tys' := [(cU, .int), (cL, .int)]) [0, 1] rfl
    refine vp_callSl (W.runV (As := [.int a]) (rest := [.long (((f_kv_upper fu a) * (f_kv_lower fl b)) + ((f_kv_upper fu b) * (f_kv_lower fl a))), .ref a0]) ⟨hx, hb, hml, hown, hT⟩ (c_kv_lower l dC dI a0 a1 a2 cnt cU fu cL fl a (in_hb1 hc c_2)) (cwV 1 hT (kt_V k_31 k_29 k_30 k_2 k_28) rfl rfl rfl (by decide +kernel) ⟨Nat.le_of_ble_eq_true rfl, Nat.le_of_ble_eq_true rfl⟩) ⟨bl_R, va_recv hKc hPc (ci := 1) (q0 := 0) rfl rfl, fun U hU hW => ⟨rfl, by rw [hU]; exact hPc, va_K.moved hW.alike hKc⟩⟩ rfl rfl hl.1 rfl (lv_room (Nat.le_of_ble_eq_true rfl)) d_kr_add_60 ⟨Nat.zero_le _, Nat.zero_le _⟩) (fun r_7 e_r_7 => ?_)
    subst e_r_7
    refine lv_aload_n hx hb d_kr_add_63 rfl (lv_at hl 1 rfl) ?_
    refine va_get (D := (dC, dI)) (ci := 0) (v := .ref a0) (C := R_kr) (T := F_kr) (N := 6) hx hb hT i_kr hown hK hP 0 rfl rfl 3 (by decide) (hT _ k_19) (fun _ h9 => h9) rfl d_kr_add_64 ?_
    refine lv_iload_n hx hb d_kr_add_67 rfl (lv_at hl 3 rfl) ?_
    have hPc := hP.sub (ws' := [(a0, .inr (1, [.ref a1, .ref a2, .int cnt])), (a1, .inl (cU, 300, .inl fu)), (a2, .inl (cL, 300, .inl fl))]) [1, 2, 3] rfl
    have hKc := hK.sub (tys' := [(cU, .int), (cL, .int)]) [0, 1] rfl
    refine vp_callSl (W.runV (As := [.int b]) (rest := [.long (f_kv_lower fl a), .long (((f_kv_upper fu a) * (f_kv_lower fl b)) + ((f_kv_upper fu b) * (f_kv_lower fl a))), .ref a0]) ⟨hx, hb, hml, hown, hT⟩ (c_kv_lower l dC dI a0 a1 a2 cnt cU fu cL fl b (in_hb2 hc c_2)) (cwV 1 hT (kt_V k_31 k_29 k_30 k_2 k_28) rfl rfl rfl (by decide +kernel) ⟨Nat.le_of_ble_eq_true rfl, Nat.le_of_ble_eq_true rfl⟩) ⟨bl_R, va_recv hKc hPc (ci := 1) (q0 := 0) rfl rfl, fun U hU hW => ⟨rfl, by rw [hU]; exact hPc, va_K.moved hW.alike hKc⟩⟩ rfl rfl hl.1 rfl (lv_room (Nat.le_of_ble_eq_true rfl)) d_kr_add_68 ⟨Nat.zero_le _, Nat.zero_le _⟩) (fun r_8 e_r_8 => ?_)
    subst e_r_8
    refine lv_lmul hx hb d_kr_add_71 ?_
    have hPc := hP.sub (ws' := [(a0, .inr (1, [.ref a1, .ref a2, .int cnt])), (a1, .inl (cU, 300, .inl fu)), (a2, .inl (cL, 300, .inl fl))]) [1, 2, 3] rfl
    have hKc := hK.sub (tys' := [(cU, .int), (cL, .int)]) [0, 1] rfl
    have hDc := hD.sub (ws' := [(a0, .inr (1, [.ref a1, .ref a2, .int cnt])), (a1, .inl (cU, 300, .inl fu)), (a2, .inl (cL, 300, .inl fl))]) [1, 2, 3] (by decide) rfl
    have hFc := va_free (wc := [(a0, .inr (1, [.ref a1, .ref a2, .int cnt])), (a1, .inl (cU, 300, .inl fu)), (a2, .inl (cL, 300, .inl fl))]) hD hS hA [1, 2, 3] rfl
    refine va_calli (va_runV (As := [.long (((f_kv_upper fu a) * (f_kv_lower fl b)) + ((f_kv_upper fu b) * (f_kv_lower fl a))), .long ((f_kv_lower fl a) * (f_kv_lower fl b))]) (rest := []) ⟨hx, hb, hml, hown, hT⟩ (c_kv_keep l dC dI s.heap.size a0 a1 a2 cnt cU fu cL fl (((f_kv_upper fu a) * (f_kv_lower fl b)) + ((f_kv_upper fu b) * (f_kv_lower fl a))) ((f_kv_lower fl a) * (f_kv_lower fl b)) hc) (cwV 2 hT (kt_V k_35 k_33 k_34 k_2 k_32) rfl rfl rfl (by decide +kernel) ⟨Nat.le_of_ble_eq_true rfl, Nat.le_of_ble_eq_true rfl⟩) ⟨bl_MN, va_recv hKc hPc (ci := 1) (q0 := 0) rfl rfl, fun U hU hW => ⟨rfl, by rw [hU], by rw [hU]; exact hPc, va_K.moved hW.alike hKc, hDc.weaken (fun _ _ _ _ => trivial), kt_N.warm hW hN⟩⟩ rfl rfl hl.1 rfl (lv_room (Nat.le_of_ble_eq_true rfl)) d_kr_add_72 ⟨Nat.zero_le _, Nat.zero_le _⟩) hS (fun q _ h => hFc q h) hFc (fun r_9 u t H1 locs ht hvm hw hB hz1 hk1 hS => ?_)
    obtain ⟨fu_9, fl_9, cnt_9⟩ := u
    obtain ⟨hP1, hK1, hD1⟩ := hB
    rw [ht] at hP1
    obtain ⟨hP, hD⟩ := va_join (wr := [(ak, .inr (0, [.int kinds, .ref ac, .int rowc, .ref a0, .ref a_s, .ref a_w]))]) (w1 := [(a0, .inr (1, [.ref a1, .ref a2, .int cnt_9])), (a1, .inl (cU, 300, .inl fu_9)), (a2, .inl (cL, 300, .inl fl_9))]) hP hD [1, 2, 3] [0] rfl rfl (by decide) (by decide) hk1 hFc hP1 hD1
    generalize H1 = H at hP hS ⊢
    have hP := hP.sub (ws' := [(ak, .inr (0, [.int kinds, .ref ac, .int rowc, .ref a0, .ref a_s, .ref a_w])), (a0, .inr (1, [.ref a1, .ref a2, .int cnt_9])), (a1, .inl (cU, 300, .inl fu_9)), (a2, .inl (cL, 300, .inl fl_9))]) [0, 1, 2, 3] rfl
    have hD := hD.sub (ws' := [(ak, .inr (0, [.int kinds, .ref ac, .int rowc, .ref a0, .ref a_s, .ref a_w])), (a0, .inr (1, [.ref a1, .ref a2, .int cnt_9])), (a1, .inl (cU, 300, .inl fu_9)), (a2, .inl (cL, 300, .inl fl_9))]) [0, 1, 2, 3] (by decide) rfl
    have e_r_9 : r_9 = (f_kv_keep cnt fu fl (((f_kv_upper fu a) * (f_kv_lower fl b)) + ((f_kv_upper fu b) * (f_kv_lower fl a))) ((f_kv_lower fl a) * (f_kv_lower fl b))).1 := congrArg (fun z => z.1) hw
    have e_fu_9 : fu_9 = (f_kv_keep cnt fu fl (((f_kv_upper fu a) * (f_kv_lower fl b)) + ((f_kv_upper fu b) * (f_kv_lower fl a))) ((f_kv_lower fl a) * (f_kv_lower fl b))).2.1 := congrArg (fun z => z.2.1) hw
    have e_fl_9 : fl_9 = (f_kv_keep cnt fu fl (((f_kv_upper fu a) * (f_kv_lower fl b)) + ((f_kv_upper fu b) * (f_kv_lower fl a))) ((f_kv_lower fl a) * (f_kv_lower fl b))).2.2.1 := congrArg (fun z => z.2.2.1) hw
    have e_cnt_9 : cnt_9 = (f_kv_keep cnt fu fl (((f_kv_upper fu a) * (f_kv_lower fl b)) + ((f_kv_upper fu b) * (f_kv_lower fl a))) ((f_kv_lower fl a) * (f_kv_lower fl b))).2.2.2 := congrArg (fun z => z.2.2.2) hw
    subst e_r_9 e_fu_9 e_fl_9 e_cnt_9
    clear hP1 hK1 hD1 hk1 hz1 hFc hDc hPc hKc
    exact W.iret (v := (f_kv_keep cnt fu fl (((f_kv_upper fu a) * (f_kv_lower fl b)) + ((f_kv_upper fu b) * (f_kv_lower fl a))) ((f_kv_lower fl a) * (f_kv_lower fl b))).1) hx hb hr (fun t ht hW => ⟨⟨(f_kv_keep cnt fu fl (((f_kv_upper fu a) * (f_kv_lower fl b)) + ((f_kv_upper fu b) * (f_kv_lower fl a))) ((f_kv_lower fl a) * (f_kv_lower fl b))).1, ((f_kv_keep cnt fu fl (((f_kv_upper fu a) * (f_kv_lower fl b)) + ((f_kv_upper fu b) * (f_kv_lower fl a))) ((f_kv_lower fl a) * (f_kv_lower fl b))).2.1, (f_kv_keep cnt fu fl (((f_kv_upper fu a) * (f_kv_lower fl b)) + ((f_kv_upper fu b) * (f_kv_lower fl a))) ((f_kv_lower fl a) * (f_kv_lower fl b))).2.2.1, (f_kv_keep cnt fu fl (((f_kv_upper fu a) * (f_kv_lower fl b)) + ((f_kv_upper fu b) * (f_kv_lower fl a))) ((f_kv_lower fl a) * (f_kv_lower fl b))).2.2.2), rfl, by unfold f_kr_add; rw [if_neg c_2], by rw [ht]; exact hP, va_K.moved hW.alike hK, hD⟩, hS.F ht⟩) hS.2.2 d_kr_add_75
  · refine lv_iconst (v := (-1)) hx hb d_kr_add_12 (by decide) ?_
    exact W.iret (v := (-1)) hx hb hr (fun t ht hW => ⟨⟨(-1), (fu, fl, cnt), rfl, by unfold f_kr_add; rw [if_pos c_2], by rw [ht]; exact hP, va_K.moved hW.alike hK, hD⟩, hS.F ht⟩) hS.2.2 d_kr_add_13
def f_kr_less (cnt : Int32) (fu : Nat → Int32) (fl : Nat → Int32) (a : Int32) (b : Int32) : Int32 × (Nat → Int32) × (Nat → Int32) × Int32 :=
  if (f_kv_hasBoth cnt a b) = 0 then ((-1), fu, fl, cnt) else (f_kv_keep cnt fu fl (((f_kv_upper fu a) * (f_kv_lower fl b)) - ((f_kv_upper fu b) * (f_kv_lower fl a))) ((f_kv_lower fl a) * (f_kv_lower fl b)))
set_option maxHeartbeats 4000000 in
set_option maxRecDepth 100000 in
theorem c_kr_less (l : Launch) (dC : Nat → ClassId) (dI : Nat → Nat → Nat) (sz : Nat) (ak : Nat) (a0 : Nat) (a1 : Nat) (a2 : Nat) (kinds : Int32) (ac : Nat) (rowc : Int32) (a_s : Nat) (a_w : Nat) (cnt : Int32) (cU : ClassId) (fu : Nat → Int32) (cL : ClassId) (fl : Nat → Int32) (a : Int32) (b : Int32) (hc : vp_in cnt 301) : Met l y_kr_less w_kr_less ({ frames := 2, cells := 0, slots := 0, locals := 60 }) (va_Pc [.ref ak, .int a, .int b] (fun U => U.heap.size = sz ∧ va_P (dC, dI) classes [(ak, .inr (0, [.int kinds, .ref ac, .int rowc, .ref a0, .ref a_s, .ref a_w])), (a0, .inr (1, [.ref a1, .ref a2, .int cnt])), (a1, .inl (cU, 300, .inl fu)), (a2, .inl (cL, 300, .inl fl))] U.heap ∧ va_K (dC, dI) classes [(cU, .int), (cL, .int)] U ∧ va_D (fun _ => True) [(ak, .inr (0, [.int kinds, .ref ac, .int rowc, .ref a0, .ref a_s, .ref a_w])), (a0, .inr (1, [.ref a1, .ref a2, .int cnt])), (a1, .inl (cU, 300, .inl fu)), (a2, .inl (cL, 300, .inl fl))] ∧ kt_N U)) (va_Qi (fun z9 u9 => (z9, u9) = f_kr_less cnt fu fl a b) (fun (u : (Nat → Int32) × (Nat → Int32) × Int32) t => match u with | (fu', fl', cnt') => va_P (dC, dI) classes [(ak, .inr (0, [.int kinds, .ref ac, .int rowc, .ref a0, .ref a_s, .ref a_w])), (a0, .inr (1, [.ref a1, .ref a2, .int cnt'])), (a1, .inl (cU, 300, .inl fu')), (a2, .inl (cL, 300, .inl fl'))] t.heap ∧ va_K (dC, dI) classes [(cU, .int), (cL, .int)] t ∧ va_D (va_A [(ak, .inr (0, [.int kinds, .ref ac, .int rowc, .ref a0, .ref a_s, .ref a_w])), (a0, .inr (1, [.ref a1, .ref a2, .int cnt])), (a1, .inl (cU, 300, .inl fu)), (a2, .inl (cL, 300, .inl fl))] sz) [(ak, .inr (0, [.int kinds, .ref ac, .int rowc, .ref a0, .ref a_s, .ref a_w])), (a0, .inr (1, [.ref a1, .ref a2, .int cnt'])), (a1, .inl (cU, 300, .inl fu')), (a2, .inl (cL, 300, .inl fl'))]) (va_A [(ak, .inr (0, [.int kinds, .ref ac, .int rowc, .ref a0, .ref a_s, .ref a_w])), (a0, .inr (1, [.ref a1, .ref a2, .int cnt])), (a1, .inl (cU, 300, .inl fu)), (a2, .inl (cL, 300, .inl fl))] sz)) 0 0 (va_A [(ak, .inr (0, [.int kinds, .ref ac, .int rowc, .ref a0, .ref a_s, .ref a_w])), (a0, .inr (1, [.ref a1, .ref a2, .int cnt])), (a1, .inl (cU, 300, .inl fu)), (a2, .inl (cL, 300, .inl fl))] sz) := by
  refine Met.ofW (cc := b_kr_less) (maxL := 5) (ret := (some .int)) (by decide +kernel) rfl ?_
  intro p e s m args below meth c s₁ B hml hv
  obtain ⟨rfl, hsz, hP, hK, hD0, hN⟩ := hv
  have hx := B.exec
  have hb := B.bytes
  have hr := B.returns
  have hts := atoms_spec (ws := w_kr_less) B.pre
  have hT := fun (w : Cond) (h : w ∈ kt_T) => hts w (List.mem_cons_of_mem _ h)
  have hown : s.vm.findClass R_kr = some m.cls := findClass_of_methodNamed B.named
  have hlocks := B.notSynchronized
  subst hsz
  have hD := hD0.self (sz := s.heap.size)
  generalize hAe : va_A [(ak, .inr (0, [.int kinds, .ref ac, .int rowc, .ref a0, .ref a_s, .ref a_w])), (a0, .inr (1, [.ref a1, .ref a2, .int cnt])), (a1, .inl (cU, 300, .inl fu)), (a2, .inl (cL, 300, .inl fl))] s.heap.size = A at hD ⊢
  have hA : ∀ q : Nat, s.heap.size ≤ q → A q := fun q h => by rw [← hAe]; exact Or.inr h
  have hS : va_S A s.heap s.heap [] := va_S.rf
  have hl := lv_entry ([.ref ak, .int a, .int b]) (n := 5) (Nat.le_of_ble_eq_true rfl)
  rw [lg_entry_eq]
  generalize (lg_sl ([.ref ak, .int a, .int b]) ++ List.replicate (5 - (lg_sl ([.ref ak, .int a, .int b])).length) Slot.unset).toArray = ls at hl ⊢
  have hl : lv_has ls 5 [(0, .ref ak), (1, .int a), (2, .int b)] := hl
  refine lv_aload_n hx hb d_kr_less_0 rfl (lv_at hl 0 rfl) ?_
  refine va_get (D := (dC, dI)) (ci := 0) (v := .ref a0) (C := R_kr) (T := F_kr) (N := 6) hx hb hT i_kr hown hK hP 0 rfl rfl 3 (by decide) (hT _ k_19) (fun _ h9 => h9) rfl d_kr_less_1 ?_
  refine lv_iload_n hx hb d_kr_less_4 rfl (lv_at hl 1 rfl) ?_
  refine lv_iload_n hx hb d_kr_less_5 rfl (lv_at hl 2 rfl) ?_
  have hPc := hP.sub (ws' := [(a0, .inr (1, [.ref a1, .ref a2, .int cnt])), (a1, .inl (cU, 300, .inl fu)), (a2, .inl (cL, 300, .inl fl))]) [1, 2, 3] rfl
  have hKc := hK.sub (tys' := [(cU, .int), (cL, .int)]) [0, 1] rfl
  refine vp_callSi (W.runV (As := [.int a, .int b]) (rest := []) ⟨hx, hb, hml, hown, hT⟩ (c_kv_hasBoth l dC dI a0 a1 a2 cnt cU fu cL fl a b) (cwV 2 hT (kt_V k_23 k_21 k_22 k_2 k_20) rfl rfl rfl (by decide +kernel) ⟨Nat.le_of_ble_eq_true rfl, Nat.le_of_ble_eq_true rfl⟩) ⟨bl_R, va_recv hKc hPc (ci := 1) (q0 := 0) rfl rfl, fun U hU hW => ⟨rfl, by rw [hU]; exact hPc, va_K.moved hW.alike hKc⟩⟩ rfl rfl hl.1 rfl (lv_room (Nat.le_of_ble_eq_true rfl)) d_kr_less_6 ⟨Nat.zero_le _, Nat.zero_le _⟩) (fun r_1 e_r_1 => ?_)
  subst e_r_1
  refine lv_if_ne (tgt := 14) hx hb d_kr_less_9 (by decide) (fun c_2 => ?_) (fun c_2 => ?_)
  · refine lv_aload_n hx hb d_kr_less_14 rfl (lv_at hl 0 rfl) ?_
    refine va_get (D := (dC, dI)) (ci := 0) (v := .ref a0) (C := R_kr) (T := F_kr) (N := 6) hx hb hT i_kr hown hK hP 0 rfl rfl 3 (by decide) (hT _ k_19) (fun _ h9 => h9) rfl d_kr_less_15 ?_
    refine lv_iload_n hx hb d_kr_less_18 rfl (lv_at hl 1 rfl) ?_
    have hPc := hP.sub (ws' := [(a0, .inr (1, [.ref a1, .ref a2, .int cnt])), (a1, .inl (cU, 300, .inl fu)), (a2, .inl (cL, 300, .inl fl))]) [1, 2, 3] rfl
    have hKc := hK.sub (tys' := [(cU, .int), (cL, .int)]) [0, 1] rfl
    refine vp_callSl (W.runV (As := [.int a]) (rest := []) ⟨hx, hb, hml, hown, hT⟩ (c_kv_upper l dC dI a0 a1 a2 cnt cU fu cL fl a (in_hb1 hc c_2)) (cwV 1 hT (kt_V k_27 k_25 k_26 k_2 k_24) rfl rfl rfl (by decide +kernel) ⟨Nat.le_of_ble_eq_true rfl, Nat.le_of_ble_eq_true rfl⟩) ⟨bl_R, va_recv hKc hPc (ci := 1) (q0 := 0) rfl rfl, fun U hU hW => ⟨rfl, by rw [hU]; exact hPc, va_K.moved hW.alike hKc⟩⟩ rfl rfl hl.1 rfl (lv_room (Nat.le_of_ble_eq_true rfl)) d_kr_less_19 ⟨Nat.zero_le _, Nat.zero_le _⟩) (fun r_3 e_r_3 => ?_)
    subst e_r_3
    refine lv_aload_n hx hb d_kr_less_22 rfl (lv_at hl 0 rfl) ?_
    refine va_get (D := (dC, dI)) (ci := 0) (v := .ref a0) (C := R_kr) (T := F_kr) (N := 6) hx hb hT i_kr hown hK hP 0 rfl rfl 3 (by decide) (hT _ k_19) (fun _ h9 => h9) rfl d_kr_less_23 ?_
    refine lv_iload_n hx hb d_kr_less_26 rfl (lv_at hl 2 rfl) ?_
    have hPc := hP.sub (ws' := [(a0, .inr (1, [.ref a1, .ref a2, .int cnt])), (a1, .inl (cU, 300, .inl fu)), (a2, .inl (cL, 300, .inl fl))]) [1, 2, 3] rfl
    have hKc := hK.sub (tys' := [(cU, .int), (cL, .int)]) [0, 1] rfl
    refine vp_callSl (W.runV (As := [.int b]) (rest := [.long (f_kv_upper fu a)]) ⟨hx, hb, hml, hown, hT⟩ (c_kv_lower l dC dI a0 a1 a2 cnt cU fu cL fl b (in_hb2 hc c_2)) (cwV 1 hT (kt_V k_31 k_29 k_30 k_2 k_28) rfl rfl rfl (by decide +kernel) ⟨Nat.le_of_ble_eq_true rfl, Nat.le_of_ble_eq_true rfl⟩) ⟨bl_R, va_recv hKc hPc (ci := 1) (q0 := 0) rfl rfl, fun U hU hW => ⟨rfl, by rw [hU]; exact hPc, va_K.moved hW.alike hKc⟩⟩ rfl rfl hl.1 rfl (lv_room (Nat.le_of_ble_eq_true rfl)) d_kr_less_27 ⟨Nat.zero_le _, Nat.zero_le _⟩) (fun r_4 e_r_4 => ?_)
    subst e_r_4
    refine lv_lmul hx hb d_kr_less_30 ?_
    refine lv_aload_n hx hb d_kr_less_31 rfl (lv_at hl 0 rfl) ?_
    refine va_get (D := (dC, dI)) (ci := 0) (v := .ref a0) (C := R_kr) (T := F_kr) (N := 6) hx hb hT i_kr hown hK hP 0 rfl rfl 3 (by decide) (hT _ k_19) (fun _ h9 => h9) rfl d_kr_less_32 ?_
    refine lv_iload_n hx hb d_kr_less_35 rfl (lv_at hl 2 rfl) ?_
    have hPc := hP.sub (ws' := [(a0, .inr (1, [.ref a1, .ref a2, .int cnt])), (a1, .inl (cU, 300, .inl fu)), (a2, .inl (cL, 300, .inl fl))]) [1, 2, 3] rfl
    have hKc := hK.sub (tys' := [(cU, .int), (cL, .int)]) [0, 1] rfl
    refine vp_callSl (W.runV (As := [.int b]) (rest := [.long ((f_kv_upper fu a) * (f_kv_lower fl b))]) ⟨hx, hb, hml, hown, hT⟩ (c_kv_upper l dC dI a0 a1 a2 cnt cU fu cL fl b (in_hb2 hc c_2)) (cwV 1 hT (kt_V k_27 k_25 k_26 k_2 k_24) rfl rfl rfl (by decide +kernel) ⟨Nat.le_of_ble_eq_true rfl, Nat.le_of_ble_eq_true rfl⟩) ⟨bl_R, va_recv hKc hPc (ci := 1) (q0 := 0) rfl rfl, fun U hU hW => ⟨rfl, by rw [hU]; exact hPc, va_K.moved hW.alike hKc⟩⟩ rfl rfl hl.1 rfl (lv_room (Nat.le_of_ble_eq_true rfl)) d_kr_less_36 ⟨Nat.zero_le _, Nat.zero_le _⟩) (fun r_5 e_r_5 => ?_)
    subst e_r_5
    refine lv_aload_n hx hb d_kr_less_39 rfl (lv_at hl 0 rfl) ?_
    refine va_get (D := (dC, dI)) (ci := 0) (v := .ref a0) (C := R_kr) (T := F_kr) (N := 6) hx hb hT i_kr hown hK hP 0 rfl rfl 3 (by decide) (hT _ k_19) (fun _ h9 => h9) rfl d_kr_less_40 ?_
    refine lv_iload_n hx hb d_kr_less_43 rfl (lv_at hl 1 rfl) ?_
    have hPc := hP.sub (ws' := [(a0, .inr (1, [.ref a1, .ref a2, .int cnt])), (a1, .inl (cU, 300, .inl fu)), (a2, .inl (cL, 300, .inl fl))]) [1, 2, 3] rfl
    have hKc := hK.sub (tys' := [(cU, .int), (cL, .int)]) [0, 1] rfl
    refine vp_callSl (W.runV (As := [.int a]) (rest := [.long (f_kv_upper fu b), .long ((f_kv_upper fu a) * (f_kv_lower fl b))]) ⟨hx, hb, hml, hown, hT⟩ (c_kv_lower l dC dI a0 a1 a2 cnt cU fu cL fl a (in_hb1 hc c_2)) (cwV 1 hT (kt_V k_31 k_29 k_30 k_2 k_28) rfl rfl rfl (by decide +kernel) ⟨Nat.le_of_ble_eq_true rfl, Nat.le_of_ble_eq_true rfl⟩) ⟨bl_R, va_recv hKc hPc (ci := 1) (q0 := 0) rfl rfl, fun U hU hW => ⟨rfl, by rw [hU]; exact hPc, va_K.moved hW.alike hKc⟩⟩ rfl rfl hl.1 rfl (lv_room (Nat.le_of_ble_eq_true rfl)) d_kr_less_44 ⟨Nat.zero_le _, Nat.zero_le _⟩) (fun r_6 e_r_6 => ?_)
    subst e_r_6
    refine lv_lmul hx hb d_kr_less_47 ?_
    refine lv_lsub hx hb d_kr_less_48 ?_
    refine lv_lstore_n (lv' := [(3, .long (((f_kv_upper fu a) * (f_kv_lower fl b)) - ((f_kv_upper fu b) * (f_kv_lower fl a)))), (0, .ref ak), (1, .int a), (2, .int b)]) hx hb d_kr_less_49 rfl hl (by decide) rfl (fun ls hl => ?_)
    refine lv_aload_n hx hb d_kr_less_50 rfl (lv_at hl 1 rfl) ?_
    refine va_get (D := (dC, dI)) (ci := 0) (v := .ref a0) (C := R_kr) (T := F_kr) (N := 6) hx hb hT i_kr hown hK hP 0 rfl rfl 3 (by decide) (hT _ k_19) (fun _ h9 => h9) rfl d_kr_less_51 ?_
    refine lv_lload_n hx hb d_kr_less_54 rfl (lv_at hl 0 rfl) ?_
    refine lv_aload_n hx hb d_kr_less_55 rfl (lv_at hl 1 rfl) ?_
    refine va_get (D := (dC, dI)) (ci := 0) (v := .ref a0) (C := R_kr) (T := F_kr) (N := 6) hx hb hT i_kr hown hK hP 0 rfl rfl 3 (by decide) (hT _ k_19) (fun _ h9 => h9) rfl d_kr_less_56 ?_
    refine lv_iload_n hx hb d_kr_less_59 rfl (lv_at hl 2 rfl) ?_
    have hPc := hP.sub (ws' := [(a0, .inr (1, [.ref a1, .ref a2, .int cnt])), (a1, .inl (cU, 300, .inl fu)), (a2, .inl (cL, 300, .inl fl))]) [1, 2, 3] rfl
    have hKc := hK.sub (tys' := [(cU, .int), (cL, .int)]) [0, 1] rfl
    refine vp_callSl (W.runV (As := [.int a]) (rest := [.long (((f_kv_upper fu a) * (f_kv_lower fl b)) - ((f_kv_upper fu b) * (f_kv_lower fl a))), .ref a0]) ⟨hx, hb, hml, hown, hT⟩ (c_kv_lower l dC dI a0 a1 a2 cnt cU fu cL fl a (in_hb1 hc c_2)) (cwV 1 hT (kt_V k_31 k_29 k_30 k_2 k_28) rfl rfl rfl (by decide +kernel) ⟨Nat.le_of_ble_eq_true rfl, Nat.le_of_ble_eq_true rfl⟩) ⟨bl_R, va_recv hKc hPc (ci := 1) (q0 := 0) rfl rfl, fun U hU hW => ⟨rfl, by rw [hU]; exact hPc, va_K.moved hW.alike hKc⟩⟩ rfl rfl hl.1 rfl (lv_room (Nat.le_of_ble_eq_true rfl)) d_kr_less_60 ⟨Nat.zero_le _, Nat.zero_le _⟩) (fun r_7 e_r_7 => ?_)
    subst e_r_7
    refine lv_aload_n hx hb d_kr_less_63 rfl (lv_at hl 1 rfl) ?_
    refine va_get (D := (dC, dI)) (ci := 0) (v := .ref a0) (C := R_kr) (T := F_kr) (N := 6) hx hb hT i_kr hown hK hP 0 rfl rfl 3 (by decide) (hT _ k_19) (fun _ h9 => h9) rfl d_kr_less_64 ?_
    refine lv_iload_n hx hb d_kr_less_67 rfl (lv_at hl 3 rfl) ?_
    have hPc := hP.sub (ws' := [(a0, .inr (1, [.ref a1, .ref a2, .int cnt])), (a1, .inl (cU, 300, .inl fu)), (a2, .inl (cL, 300, .inl fl))]) [1, 2, 3] rfl
    have hKc := hK.sub (tys' := [(cU, .int), (cL, .int)]) [0, 1] rfl
    refine vp_callSl (W.runV (As := [.int b]) (rest := [.long (f_kv_lower fl a), .long (((f_kv_upper fu a) * (f_kv_lower fl b)) - ((f_kv_upper fu b) * (f_kv_lower fl a))), .ref a0]) ⟨hx, hb, hml, hown, hT⟩ (c_kv_lower l dC dI a0 a1 a2 cnt cU fu cL fl b (in_hb2 hc c_2)) (cwV 1 hT (kt_V k_31 k_29 k_30 k_2 k_28) rfl rfl rfl (by decide +kernel) ⟨Nat.le_of_ble_eq_true rfl, Nat.le_of_ble_eq_true rfl⟩) ⟨bl_R, va_recv hKc hPc (ci := 1) (q0 := 0) rfl rfl, fun U hU hW => ⟨rfl, by rw [hU]; exact hPc, va_K.moved hW.alike hKc⟩⟩ rfl rfl hl.1 rfl (lv_room (Nat.le_of_ble_eq_true rfl)) d_kr_less_68 ⟨Nat.zero_le _, Nat.zero_le _⟩) (fun r_8 e_r_8 => ?_)
    subst e_r_8
    refine lv_lmul hx hb d_kr_less_71 ?_
    have hPc := hP.sub (ws' := [(a0, .inr (1, [.ref a1, .ref a2, .int cnt])), (a1, .inl (cU, 300, .inl fu)), (a2, .inl (cL, 300, .inl fl))]) [1, 2, 3] rfl
    have hKc := hK.sub (tys' := [(cU, .int), (cL, .int)]) [0, 1] rfl
    have hDc := hD.sub (ws' := [(a0, .inr (1, [.ref a1, .ref a2, .int cnt])), (a1, .inl (cU, 300, .inl fu)), (a2, .inl (cL, 300, .inl fl))]) [1, 2, 3] (by decide) rfl
    have hFc := va_free (wc := [(a0, .inr (1, [.ref a1, .ref a2, .int cnt])), (a1, .inl (cU, 300, .inl fu)), (a2, .inl (cL, 300, .inl fl))]) hD hS hA [1, 2, 3] rfl
    refine va_calli (va_runV (As := [.long (((f_kv_upper fu a) * (f_kv_lower fl b)) - ((f_kv_upper fu b) * (f_kv_lower fl a))), .long ((f_kv_lower fl a) * (f_kv_lower fl b))]) (rest := []) ⟨hx, hb, hml, hown, hT⟩ (c_kv_keep l dC dI s.heap.size a0 a1 a2 cnt cU fu cL fl (((f_kv_upper fu a) * (f_kv_lower fl b)) - ((f_kv_upper fu b) * (f_kv_lower fl a))) ((f_kv_lower fl a) * (f_kv_lower fl b)) hc) (cwV 2 hT (kt_V k_35 k_33 k_34 k_2 k_32) rfl rfl rfl (by decide +kernel) ⟨Nat.le_of_ble_eq_true rfl, Nat.le_of_ble_eq_true rfl⟩) ⟨bl_MN, va_recv hKc hPc (ci := 1) (q0 := 0) rfl rfl, fun U hU hW => ⟨rfl, by rw [hU], by rw [hU]; exact hPc, va_K.moved hW.alike hKc, hDc.weaken (fun _ _ _ _ => trivial), kt_N.warm hW hN⟩⟩ rfl rfl hl.1 rfl (lv_room (Nat.le_of_ble_eq_true rfl)) d_kr_less_72 ⟨Nat.zero_le _, Nat.zero_le _⟩) hS (fun q _ h => hFc q h) hFc (fun r_9 u t H1 locs ht hvm hw hB hz1 hk1 hS => ?_)
    obtain ⟨fu_9, fl_9, cnt_9⟩ := u
    obtain ⟨hP1, hK1, hD1⟩ := hB
    rw [ht] at hP1
    obtain ⟨hP, hD⟩ := va_join (wr := [(ak, .inr (0, [.int kinds, .ref ac, .int rowc, .ref a0, .ref a_s, .ref a_w]))]) (w1 := [(a0, .inr (1, [.ref a1, .ref a2, .int cnt_9])), (a1, .inl (cU, 300, .inl fu_9)), (a2, .inl (cL, 300, .inl fl_9))]) hP hD [1, 2, 3] [0] rfl rfl (by decide) (by decide) hk1 hFc hP1 hD1
    generalize H1 = H at hP hS ⊢
    have hP := hP.sub (ws' := [(ak, .inr (0, [.int kinds, .ref ac, .int rowc, .ref a0, .ref a_s, .ref a_w])), (a0, .inr (1, [.ref a1, .ref a2, .int cnt_9])), (a1, .inl (cU, 300, .inl fu_9)), (a2, .inl (cL, 300, .inl fl_9))]) [0, 1, 2, 3] rfl
    have hD := hD.sub (ws' := [(ak, .inr (0, [.int kinds, .ref ac, .int rowc, .ref a0, .ref a_s, .ref a_w])), (a0, .inr (1, [.ref a1, .ref a2, .int cnt_9])), (a1, .inl (cU, 300, .inl fu_9)), (a2, .inl (cL, 300, .inl fl_9))]) [0, 1, 2, 3] (by decide) rfl
    have e_r_9 : r_9 = (f_kv_keep cnt fu fl (((f_kv_upper fu a) * (f_kv_lower fl b)) - ((f_kv_upper fu b) * (f_kv_lower fl a))) ((f_kv_lower fl a) * (f_kv_lower fl b))).1 := congrArg (fun z => z.1) hw
    have e_fu_9 : fu_9 = (f_kv_keep cnt fu fl (((f_kv_upper fu a) * (f_kv_lower fl b)) - ((f_kv_upper fu b) * (f_kv_lower fl a))) ((f_kv_lower fl a) * (f_kv_lower fl b))).2.1 := congrArg (fun z => z.2.1) hw
    have e_fl_9 : fl_9 = (f_kv_keep cnt fu fl (((f_kv_upper fu a) * (f_kv_lower fl b)) - ((f_kv_upper fu b) * (f_kv_lower fl a))) ((f_kv_lower fl a) * (f_kv_lower fl b))).2.2.1 := congrArg (fun z => z.2.2.1) hw
    have e_cnt_9 : cnt_9 = (f_kv_keep cnt fu fl (((f_kv_upper fu a) * (f_kv_lower fl b)) - ((f_kv_upper fu b) * (f_kv_lower fl a))) ((f_kv_lower fl a) * (f_kv_lower fl b))).2.2.2 := congrArg (fun z => z.2.2.2) hw
    subst e_r_9 e_fu_9 e_fl_9 e_cnt_9
    clear hP1 hK1 hD1 hk1 hz1 hFc hDc hPc hKc
    exact W.iret (v := (f_kv_keep cnt fu fl (((f_kv_upper fu a) * (f_kv_lower fl b)) - ((f_kv_upper fu b) * (f_kv_lower fl a))) ((f_kv_lower fl a) * (f_kv_lower fl b))).1) hx hb hr (fun t ht hW => ⟨⟨(f_kv_keep cnt fu fl (((f_kv_upper fu a) * (f_kv_lower fl b)) - ((f_kv_upper fu b) * (f_kv_lower fl a))) ((f_kv_lower fl a) * (f_kv_lower fl b))).1, ((f_kv_keep cnt fu fl (((f_kv_upper fu a) * (f_kv_lower fl b)) - ((f_kv_upper fu b) * (f_kv_lower fl a))) ((f_kv_lower fl a) * (f_kv_lower fl b))).2.1, (f_kv_keep cnt fu fl (((f_kv_upper fu a) * (f_kv_lower fl b)) - ((f_kv_upper fu b) * (f_kv_lower fl a))) ((f_kv_lower fl a) * (f_kv_lower fl b))).2.2.1, (f_kv_keep cnt fu fl (((f_kv_upper fu a) * (f_kv_lower fl b)) - ((f_kv_upper fu b) * (f_kv_lower fl a))) ((f_kv_lower fl a) * (f_kv_lower fl b))).2.2.2), rfl, by unfold f_kr_less; rw [if_neg c_2], by rw [ht]; exact hP, va_K.moved hW.alike hK, hD⟩, hS.F ht⟩) hS.2.2 d_kr_less_75
  · refine lv_iconst (v := (-1)) hx hb d_kr_less_12 (by decide) ?_
    exact W.iret (v := (-1)) hx hb hr (fun t ht hW => ⟨⟨(-1), (fu, fl, cnt), rfl, by unfold f_kr_less; rw [if_pos c_2], by rw [ht]; exact hP, va_K.moved hW.alike hK, hD⟩, hS.F ht⟩) hS.2.2 d_kr_less_13
def f_kr_times (cnt : Int32) (fu : Nat → Int32) (fl : Nat → Int32) (a : Int32) (b : Int32) : Int32 × (Nat → Int32) × (Nat → Int32) × Int32 :=
  if (f_kv_hasBoth cnt a b) = 0 then ((-1), fu, fl, cnt) else (f_kv_keep cnt fu fl ((f_kv_upper fu a) * (f_kv_upper fu b)) ((f_kv_lower fl a) * (f_kv_lower fl b)))
set_option maxHeartbeats 4000000 in
set_option maxRecDepth 100000 in
theorem c_kr_times (l : Launch) (dC : Nat → ClassId) (dI : Nat → Nat → Nat) (sz : Nat) (ak : Nat) (a0 : Nat) (a1 : Nat) (a2 : Nat) (kinds : Int32) (ac : Nat) (rowc : Int32) (a_s : Nat) (a_w : Nat) (cnt : Int32) (cU : ClassId) (fu : Nat → Int32) (cL : ClassId) (fl : Nat → Int32) (a : Int32) (b : Int32) (hc : vp_in cnt 301) : Met l y_kr_times w_kr_times ({ frames := 2, cells := 0, slots := 0, locals := 60 }) (va_Pc [.ref ak, .int a, .int b] (fun U => U.heap.size = sz ∧ va_P (dC, dI) classes [(ak, .inr (0, [.int kinds, .ref ac, .int rowc, .ref a0, .ref a_s, .ref a_w])), (a0, .inr (1, [.ref a1, .ref a2, .int cnt])), (a1, .inl (cU, 300, .inl fu)), (a2, .inl (cL, 300, .inl fl))] U.heap ∧ va_K (dC, dI) classes [(cU, .int), (cL, .int)] U ∧ va_D (fun _ => True) [(ak, .inr (0, [.int kinds, .ref ac, .int rowc, .ref a0, .ref a_s, .ref a_w])), (a0, .inr (1, [.ref a1, .ref a2, .int cnt])), (a1, .inl (cU, 300, .inl fu)), (a2, .inl (cL, 300, .inl fl))] ∧ kt_N U)) (va_Qi (fun z9 u9 => (z9, u9) = f_kr_times cnt fu fl a b) (fun (u : (Nat → Int32) × (Nat → Int32) × Int32) t => match u with | (fu', fl', cnt') => va_P (dC, dI) classes [(ak, .inr (0, [.int kinds, .ref ac, .int rowc, .ref a0, .ref a_s, .ref a_w])), (a0, .inr (1, [.ref a1, .ref a2, .int cnt'])), (a1, .inl (cU, 300, .inl fu')), (a2, .inl (cL, 300, .inl fl'))] t.heap ∧ va_K (dC, dI) classes [(cU, .int), (cL, .int)] t ∧ va_D (va_A [(ak, .inr (0, [.int kinds, .ref ac, .int rowc, .ref a0, .ref a_s, .ref a_w])), (a0, .inr (1, [.ref a1, .ref a2, .int cnt])), (a1, .inl (cU, 300, .inl fu)), (a2, .inl (cL, 300, .inl fl))] sz) [(ak, .inr (0, [.int kinds, .ref ac, .int rowc, .ref a0, .ref a_s, .ref a_w])), (a0, .inr (1, [.ref a1, .ref a2, .int cnt'])), (a1, .inl (cU, 300, .inl fu')), (a2, .inl (cL, 300, .inl fl'))]) (va_A [(ak, .inr (0, [.int kinds, .ref ac, .int rowc, .ref a0, .ref a_s, .ref a_w])), (a0, .inr (1, [.ref a1, .ref a2, .int cnt])), (a1, .inl (cU, 300, .inl fu)), (a2, .inl (cL, 300, .inl fl))] sz)) 0 0 (va_A [(ak, .inr (0, [.int kinds, .ref ac, .int rowc, .ref a0, .ref a_s, .ref a_w])), (a0, .inr (1, [.ref a1, .ref a2, .int cnt])), (a1, .inl (cU, 300, .inl fu)), (a2, .inl (cL, 300, .inl fl))] sz) := by
  refine Met.ofW (cc := b_kr_times) (maxL := 3) (ret := (some .int)) (by decide +kernel) rfl ?_
  intro p e s m args below meth c s₁ B hml hv
  obtain ⟨rfl, hsz, hP, hK, hD0, hN⟩ := hv
  have hx := B.exec
  have hb := B.bytes
  have hr := B.returns
  have hts := atoms_spec (ws := w_kr_times) B.pre
  have hT := fun (w : Cond) (h : w ∈ kt_T) => hts w (List.mem_cons_of_mem _ h)
  have hown : s.vm.findClass R_kr = some m.cls := findClass_of_methodNamed B.named
  have hlocks := B.notSynchronized
  subst hsz
  have hD := hD0.self (sz := s.heap.size)
  generalize hAe : va_A [(ak, .inr (0, [.int kinds, .ref ac, .int rowc, .ref a0, .ref a_s, .ref a_w])), (a0, .inr (1, [.ref a1, .ref a2, .int cnt])), (a1, .inl (cU, 300, .inl fu)), (a2, .inl (cL, 300, .inl fl))] s.heap.size = A at hD ⊢
  have hA : ∀ q : Nat, s.heap.size ≤ q → A q := fun q h => by rw [← hAe]; exact Or.inr h
  have hS : va_S A s.heap s.heap [] := va_S.rf
  have hl := lv_entry ([.ref ak, .int a, .int b]) (n := 3) (Nat.le_of_ble_eq_true rfl)
  rw [lg_entry_eq]
  generalize (lg_sl ([.ref ak, .int a, .int b]) ++ List.replicate (3 - (lg_sl ([.ref ak, .int a, .int b])).length) Slot.unset).toArray = ls at hl ⊢
  have hl : lv_has ls 3 [(0, .ref ak), (1, .int a), (2, .int b)] := hl
  refine lv_aload_n hx hb d_kr_times_0 rfl (lv_at hl 0 rfl) ?_
  refine va_get (D := (dC, dI)) (ci := 0) (v := .ref a0) (C := R_kr) (T := F_kr) (N := 6) hx hb hT i_kr hown hK hP 0 rfl rfl 3 (by decide) (hT _ k_19) (fun _ h9 => h9) rfl d_kr_times_1 ?_
  refine lv_iload_n hx hb d_kr_times_4 rfl (lv_at hl 1 rfl) ?_
  refine lv_iload_n hx hb d_kr_times_5 rfl (lv_at hl 2 rfl) ?_
  have hPc := hP.sub (ws' := [(a0, .inr (1, [.ref a1, .ref a2, .int cnt])), (a1, .inl (cU, 300, .inl fu)), (a2, .inl (cL, 300, .inl fl))]) [1, 2, 3] rfl
  have hKc := hK.sub (tys' := [(cU, .int), (cL, .int)]) [0, 1] rfl
  refine vp_callSi (W.runV (As := [.int a, .int b]) (rest := []) ⟨hx, hb, hml, hown, hT⟩ (c_kv_hasBoth l dC dI a0 a1 a2 cnt cU fu cL fl a b) (cwV 2 hT (kt_V k_23 k_21 k_22 k_2 k_20) rfl rfl rfl (by decide +kernel) ⟨Nat.le_of_ble_eq_true rfl, Nat.le_of_ble_eq_true rfl⟩) ⟨bl_R, va_recv hKc hPc (ci := 1) (q0 := 0) rfl rfl, fun U hU hW => ⟨rfl, by rw [hU]; exact hPc, va_K.moved hW.alike hKc⟩⟩ rfl rfl hl.1 rfl (lv_room (Nat.le_of_ble_eq_true rfl)) d_kr_times_6 ⟨Nat.zero_le _, Nat.zero_le _⟩) (fun r_1 e_r_1 => ?_)
  subst e_r_1
  refine lv_if_ne (tgt := 14) hx hb d_kr_times_9 (by decide) (fun c_2 => ?_) (fun c_2 => ?_)
  · refine lv_aload_n hx hb d_kr_times_14 rfl (lv_at hl 0 rfl) ?_
    refine va_get (D := (dC, dI)) (ci := 0) (v := .ref a0) (C := R_kr) (T := F_kr) (N := 6) hx hb hT i_kr hown hK hP 0 rfl rfl 3 (by decide) (hT _ k_19) (fun _ h9 => h9) rfl d_kr_times_15 ?_
    refine lv_aload_n hx hb d_kr_times_18 rfl (lv_at hl 0 rfl) ?_
    refine va_get (D := (dC, dI)) (ci := 0) (v := .ref a0) (C := R_kr) (T := F_kr) (N := 6) hx hb hT i_kr hown hK hP 0 rfl rfl 3 (by decide) (hT _ k_19) (fun _ h9 => h9) rfl d_kr_times_19 ?_
    refine lv_iload_n hx hb d_kr_times_22 rfl (lv_at hl 1 rfl) ?_
    have hPc := hP.sub (ws' := [(a0, .inr (1, [.ref a1, .ref a2, .int cnt])), (a1, .inl (cU, 300, .inl fu)), (a2, .inl (cL, 300, .inl fl))]) [1, 2, 3] rfl
    have hKc := hK.sub (tys' := [(cU, .int), (cL, .int)]) [0, 1] rfl
    refine vp_callSl (W.runV (As := [.int a]) (rest := [.ref a0]) ⟨hx, hb, hml, hown, hT⟩ (c_kv_upper l dC dI a0 a1 a2 cnt cU fu cL fl a (in_hb1 hc c_2)) (cwV 1 hT (kt_V k_27 k_25 k_26 k_2 k_24) rfl rfl rfl (by decide +kernel) ⟨Nat.le_of_ble_eq_true rfl, Nat.le_of_ble_eq_true rfl⟩) ⟨bl_R, va_recv hKc hPc (ci := 1) (q0 := 0) rfl rfl, fun U hU hW => ⟨rfl, by rw [hU]; exact hPc, va_K.moved hW.alike hKc⟩⟩ rfl rfl hl.1 rfl (lv_room (Nat.le_of_ble_eq_true rfl)) d_kr_times_23 ⟨Nat.zero_le _, Nat.zero_le _⟩) (fun r_3 e_r_3 => ?_)
    subst e_r_3
    refine lv_aload_n hx hb d_kr_times_26 rfl (lv_at hl 0 rfl) ?_
    refine va_get (D := (dC, dI)) (ci := 0) (v := .ref a0) (C := R_kr) (T := F_kr) (N := 6) hx hb hT i_kr hown hK hP 0 rfl rfl 3 (by decide) (hT _ k_19) (fun _ h9 => h9) rfl d_kr_times_27 ?_
    refine lv_iload_n hx hb d_kr_times_30 rfl (lv_at hl 2 rfl) ?_
    have hPc := hP.sub (ws' := [(a0, .inr (1, [.ref a1, .ref a2, .int cnt])), (a1, .inl (cU, 300, .inl fu)), (a2, .inl (cL, 300, .inl fl))]) [1, 2, 3] rfl
    have hKc := hK.sub (tys' := [(cU, .int), (cL, .int)]) [0, 1] rfl
    refine vp_callSl (W.runV (As := [.int b]) (rest := [.long (f_kv_upper fu a), .ref a0]) ⟨hx, hb, hml, hown, hT⟩ (c_kv_upper l dC dI a0 a1 a2 cnt cU fu cL fl b (in_hb2 hc c_2)) (cwV 1 hT (kt_V k_27 k_25 k_26 k_2 k_24) rfl rfl rfl (by decide +kernel) ⟨Nat.le_of_ble_eq_true rfl, Nat.le_of_ble_eq_true rfl⟩) ⟨bl_R, va_recv hKc hPc (ci := 1) (q0 := 0) rfl rfl, fun U hU hW => ⟨rfl, by rw [hU]; exact hPc, va_K.moved hW.alike hKc⟩⟩ rfl rfl hl.1 rfl (lv_room (Nat.le_of_ble_eq_true rfl)) d_kr_times_31 ⟨Nat.zero_le _, Nat.zero_le _⟩) (fun r_4 e_r_4 => ?_)
    subst e_r_4
    refine lv_lmul hx hb d_kr_times_34 ?_
    refine lv_aload_n hx hb d_kr_times_35 rfl (lv_at hl 0 rfl) ?_
    refine va_get (D := (dC, dI)) (ci := 0) (v := .ref a0) (C := R_kr) (T := F_kr) (N := 6) hx hb hT i_kr hown hK hP 0 rfl rfl 3 (by decide) (hT _ k_19) (fun _ h9 => h9) rfl d_kr_times_36 ?_
    refine lv_iload_n hx hb d_kr_times_39 rfl (lv_at hl 1 rfl) ?_
    have hPc := hP.sub (ws' := [(a0, .inr (1, [.ref a1, .ref a2, .int cnt])), (a1, .inl (cU, 300, .inl fu)), (a2, .inl (cL, 300, .inl fl))]) [1, 2, 3] rfl
    have hKc := hK.sub (tys' := [(cU, .int), (cL, .int)]) [0, 1] rfl
    refine vp_callSl (W.runV (As := [.int a]) (rest := [.long ((f_kv_upper fu a) * (f_kv_upper fu b)), .ref a0]) ⟨hx, hb, hml, hown, hT⟩ (c_kv_lower l dC dI a0 a1 a2 cnt cU fu cL fl a (in_hb1 hc c_2)) (cwV 1 hT (kt_V k_31 k_29 k_30 k_2 k_28) rfl rfl rfl (by decide +kernel) ⟨Nat.le_of_ble_eq_true rfl, Nat.le_of_ble_eq_true rfl⟩) ⟨bl_R, va_recv hKc hPc (ci := 1) (q0 := 0) rfl rfl, fun U hU hW => ⟨rfl, by rw [hU]; exact hPc, va_K.moved hW.alike hKc⟩⟩ rfl rfl hl.1 rfl (lv_room (Nat.le_of_ble_eq_true rfl)) d_kr_times_40 ⟨Nat.zero_le _, Nat.zero_le _⟩) (fun r_5 e_r_5 => ?_)
    subst e_r_5
    refine lv_aload_n hx hb d_kr_times_43 rfl (lv_at hl 0 rfl) ?_
    refine va_get (D := (dC, dI)) (ci := 0) (v := .ref a0) (C := R_kr) (T := F_kr) (N := 6) hx hb hT i_kr hown hK hP 0 rfl rfl 3 (by decide) (hT _ k_19) (fun _ h9 => h9) rfl d_kr_times_44 ?_
    refine lv_iload_n hx hb d_kr_times_47 rfl (lv_at hl 2 rfl) ?_
    have hPc := hP.sub (ws' := [(a0, .inr (1, [.ref a1, .ref a2, .int cnt])), (a1, .inl (cU, 300, .inl fu)), (a2, .inl (cL, 300, .inl fl))]) [1, 2, 3] rfl
    have hKc := hK.sub (tys' := [(cU, .int), (cL, .int)]) [0, 1] rfl
    refine vp_callSl (W.runV (As := [.int b]) (rest := [.long (f_kv_lower fl a), .long ((f_kv_upper fu a) * (f_kv_upper fu b)), .ref a0]) ⟨hx, hb, hml, hown, hT⟩ (c_kv_lower l dC dI a0 a1 a2 cnt cU fu cL fl b (in_hb2 hc c_2)) (cwV 1 hT (kt_V k_31 k_29 k_30 k_2 k_28) rfl rfl rfl (by decide +kernel) ⟨Nat.le_of_ble_eq_true rfl, Nat.le_of_ble_eq_true rfl⟩) ⟨bl_R, va_recv hKc hPc (ci := 1) (q0 := 0) rfl rfl, fun U hU hW => ⟨rfl, by rw [hU]; exact hPc, va_K.moved hW.alike hKc⟩⟩ rfl rfl hl.1 rfl (lv_room (Nat.le_of_ble_eq_true rfl)) d_kr_times_48 ⟨Nat.zero_le _, Nat.zero_le _⟩) (fun r_6 e_r_6 => ?_)
    subst e_r_6
    refine lv_lmul hx hb d_kr_times_51 ?_
    have hPc := hP.sub (ws' := [(a0, .inr (1, [.ref a1, .ref a2, .int cnt])), (a1, .inl (cU, 300, .inl fu)), (a2, .inl (cL, 300, .inl fl))]) [1, 2, 3] rfl
    have hKc := hK.sub (tys' := [(cU, .int), (cL, .int)]) [0, 1] rfl
    have hDc := hD.sub (ws' := [(a0, .inr (1, [.ref a1, .ref a2, .int cnt])), (a1, .inl (cU, 300, .inl fu)), (a2, .inl (cL, 300, .inl fl))]) [1, 2, 3] (by decide) rfl
    have hFc := va_free (wc := [(a0, .inr (1, [.ref a1, .ref a2, .int cnt])), (a1, .inl (cU, 300, .inl fu)), (a2, .inl (cL, 300, .inl fl))]) hD hS hA [1, 2, 3] rfl
    refine va_calli (va_runV (As := [.long ((f_kv_upper fu a) * (f_kv_upper fu b)), .long ((f_kv_lower fl a) * (f_kv_lower fl b))]) (rest := []) ⟨hx, hb, hml, hown, hT⟩ (c_kv_keep l dC dI s.heap.size a0 a1 a2 cnt cU fu cL fl ((f_kv_upper fu a) * (f_kv_upper fu b)) ((f_kv_lower fl a) * (f_kv_lower fl b)) hc) (cwV 2 hT (kt_V k_35 k_33 k_34 k_2 k_32) rfl rfl rfl (by decide +kernel) ⟨Nat.le_of_ble_eq_true rfl, Nat.le_of_ble_eq_true rfl⟩) ⟨bl_MN, va_recv hKc hPc (ci := 1) (q0 := 0) rfl rfl, fun U hU hW => ⟨rfl, by rw [hU], by rw [hU]; exact hPc, va_K.moved hW.alike hKc, hDc.weaken (fun _ _ _ _ => trivial), kt_N.warm hW hN⟩⟩ rfl rfl hl.1 rfl (lv_room (Nat.le_of_ble_eq_true rfl)) d_kr_times_52 ⟨Nat.zero_le _, Nat.zero_le _⟩) hS (fun q _ h => hFc q h) hFc (fun r_7 u t H1 locs ht hvm hw hB hz1 hk1 hS => ?_)
    obtain ⟨fu_7, fl_7, cnt_7⟩ := u
    obtain ⟨hP1, hK1, hD1⟩ := hB
    rw [ht] at hP1
    obtain ⟨hP, hD⟩ := va_join (wr := [(ak, .inr (0, [.int kinds, .ref ac, .int rowc, .ref a0, .ref a_s, .ref a_w]))]) (w1 := [(a0, .inr (1, [.ref a1, .ref a2, .int cnt_7])), (a1, .inl (cU, 300, .inl fu_7)), (a2, .inl (cL, 300, .inl fl_7))]) hP hD [1, 2, 3] [0] rfl rfl (by decide) (by decide) hk1 hFc hP1 hD1
    generalize H1 = H at hP hS ⊢
    have hP := hP.sub (ws' := [(ak, .inr (0, [.int kinds, .ref ac, .int rowc, .ref a0, .ref a_s, .ref a_w])), (a0, .inr (1, [.ref a1, .ref a2, .int cnt_7])), (a1, .inl (cU, 300, .inl fu_7)), (a2, .inl (cL, 300, .inl fl_7))]) [0, 1, 2, 3] rfl
    have hD := hD.sub (ws' := [(ak, .inr (0, [.int kinds, .ref ac, .int rowc, .ref a0, .ref a_s, .ref a_w])), (a0, .inr (1, [.ref a1, .ref a2, .int cnt_7])), (a1, .inl (cU, 300, .inl fu_7)), (a2, .inl (cL, 300, .inl fl_7))]) [0, 1, 2, 3] (by decide) rfl
    have e_r_7 : r_7 = (f_kv_keep cnt fu fl ((f_kv_upper fu a) * (f_kv_upper fu b)) ((f_kv_lower fl a) * (f_kv_lower fl b))).1 := congrArg (fun z => z.1) hw
    have e_fu_7 : fu_7 = (f_kv_keep cnt fu fl ((f_kv_upper fu a) * (f_kv_upper fu b)) ((f_kv_lower fl a) * (f_kv_lower fl b))).2.1 := congrArg (fun z => z.2.1) hw
    have e_fl_7 : fl_7 = (f_kv_keep cnt fu fl ((f_kv_upper fu a) * (f_kv_upper fu b)) ((f_kv_lower fl a) * (f_kv_lower fl b))).2.2.1 := congrArg (fun z => z.2.2.1) hw
    have e_cnt_7 : cnt_7 = (f_kv_keep cnt fu fl ((f_kv_upper fu a) * (f_kv_upper fu b)) ((f_kv_lower fl a) * (f_kv_lower fl b))).2.2.2 := congrArg (fun z => z.2.2.2) hw
    subst e_r_7 e_fu_7 e_fl_7 e_cnt_7
    clear hP1 hK1 hD1 hk1 hz1 hFc hDc hPc hKc
    exact W.iret (v := (f_kv_keep cnt fu fl ((f_kv_upper fu a) * (f_kv_upper fu b)) ((f_kv_lower fl a) * (f_kv_lower fl b))).1) hx hb hr (fun t ht hW => ⟨⟨(f_kv_keep cnt fu fl ((f_kv_upper fu a) * (f_kv_upper fu b)) ((f_kv_lower fl a) * (f_kv_lower fl b))).1, ((f_kv_keep cnt fu fl ((f_kv_upper fu a) * (f_kv_upper fu b)) ((f_kv_lower fl a) * (f_kv_lower fl b))).2.1, (f_kv_keep cnt fu fl ((f_kv_upper fu a) * (f_kv_upper fu b)) ((f_kv_lower fl a) * (f_kv_lower fl b))).2.2.1, (f_kv_keep cnt fu fl ((f_kv_upper fu a) * (f_kv_upper fu b)) ((f_kv_lower fl a) * (f_kv_lower fl b))).2.2.2), rfl, by unfold f_kr_times; rw [if_neg c_2], by rw [ht]; exact hP, va_K.moved hW.alike hK, hD⟩, hS.F ht⟩) hS.2.2 d_kr_times_55
  · refine lv_iconst (v := (-1)) hx hb d_kr_times_12 (by decide) ?_
    exact W.iret (v := (-1)) hx hb hr (fun t ht hW => ⟨⟨(-1), (fu, fl, cnt), rfl, by unfold f_kr_times; rw [if_pos c_2], by rw [ht]; exact hP, va_K.moved hW.alike hK, hD⟩, hS.F ht⟩) hS.2.2 d_kr_times_13
def f_kr_order (cnt : Int32) (fu : Nat → Int32) (fl : Nat → Int32) (a : Int32) (b : Int32) : Int32 :=
  if (f_kv_hasBoth cnt a b) = 0 then (-2) else if ((f_kv_upper fu a) * (f_kv_lower fl b)) = ((f_kv_upper fu b) * (f_kv_lower fl a)) then 0 else if ((f_kv_upper fu b) * (f_kv_lower fl a)) ≤ ((f_kv_upper fu a) * (f_kv_lower fl b)) then 1 else (-1)
set_option maxHeartbeats 4000000 in
set_option maxRecDepth 100000 in
theorem c_kr_order (l : Launch) (dC : Nat → ClassId) (dI : Nat → Nat → Nat) (ak : Nat) (a0 : Nat) (a1 : Nat) (a2 : Nat) (kinds : Int32) (ac : Nat) (rowc : Int32) (a_s : Nat) (a_w : Nat) (cnt : Int32) (cU : ClassId) (fu : Nat → Int32) (cL : ClassId) (fl : Nat → Int32) (a : Int32) (b : Int32) (hc : vp_in cnt 301) : Met l y_kr_order w_kr_order ({ frames := 2, cells := 0, slots := 0, locals := 43 }) (va_Pc [.ref ak, .int a, .int b] (fun U => va_P (dC, dI) classes [(ak, .inr (0, [.int kinds, .ref ac, .int rowc, .ref a0, .ref a_s, .ref a_w])), (a0, .inr (1, [.ref a1, .ref a2, .int cnt])), (a1, .inl (cU, 300, .inl fu)), (a2, .inl (cL, 300, .inl fl))] U.heap ∧ va_K (dC, dI) classes [(cU, .int), (cL, .int)] U)) (vp_Si (fun z9 => z9 = f_kr_order cnt fu fl a b)) 0 0 (fun _ => False) := by
  refine Met.ofW (cc := b_kr_order) (maxL := 7) (ret := (some .int)) (by decide +kernel) rfl ?_
  intro p e s m args below meth c s₁ B hml hv
  obtain ⟨rfl, hP, hK⟩ := hv
  have hx := B.exec
  have hb := B.bytes
  have hr := B.returns
  have hts := atoms_spec (ws := w_kr_order) B.pre
  have hT := fun (w : Cond) (h : w ∈ kt_T) => hts w (List.mem_cons_of_mem _ h)
  have hown : s.vm.findClass R_kr = some m.cls := findClass_of_methodNamed B.named
  have hlocks := B.notSynchronized
  have hl := lv_entry ([.ref ak, .int a, .int b]) (n := 7) (Nat.le_of_ble_eq_true rfl)
  rw [lg_entry_eq]
  generalize (lg_sl ([.ref ak, .int a, .int b]) ++ List.replicate (7 - (lg_sl ([.ref ak, .int a, .int b])).length) Slot.unset).toArray = ls at hl ⊢
  have hl : lv_has ls 7 [(0, .ref ak), (1, .int a), (2, .int b)] := hl
  refine lv_aload_n hx hb d_kr_order_0 rfl (lv_at hl 0 rfl) ?_
  refine va_get (D := (dC, dI)) (ci := 0) (v := .ref a0) (C := R_kr) (T := F_kr) (N := 6) hx hb hT i_kr hown hK hP 0 rfl rfl 3 (by decide) (hT _ k_19) (fun _ h9 => h9) rfl d_kr_order_1 ?_
  refine lv_iload_n hx hb d_kr_order_4 rfl (lv_at hl 1 rfl) ?_
  refine lv_iload_n hx hb d_kr_order_5 rfl (lv_at hl 2 rfl) ?_
  have hPc := hP.sub (ws' := [(a0, .inr (1, [.ref a1, .ref a2, .int cnt])), (a1, .inl (cU, 300, .inl fu)), (a2, .inl (cL, 300, .inl fl))]) [1, 2, 3] rfl
  have hKc := hK.sub (tys' := [(cU, .int), (cL, .int)]) [0, 1] rfl
  refine vp_callSi (W.runV (As := [.int a, .int b]) (rest := []) ⟨hx, hb, hml, hown, hT⟩ (c_kv_hasBoth l dC dI a0 a1 a2 cnt cU fu cL fl a b) (cwV 2 hT (kt_V k_23 k_21 k_22 k_2 k_20) rfl rfl rfl (by decide +kernel) ⟨Nat.le_of_ble_eq_true rfl, Nat.le_of_ble_eq_true rfl⟩) ⟨bl_R, va_recv hKc hPc (ci := 1) (q0 := 0) rfl rfl, fun U hU hW => ⟨rfl, by rw [hU]; exact hPc, va_K.moved hW.alike hKc⟩⟩ rfl rfl hl.1 rfl (lv_room (Nat.le_of_ble_eq_true rfl)) d_kr_order_6 ⟨Nat.zero_le _, Nat.zero_le _⟩) (fun r_1 e_r_1 => ?_)
  subst e_r_1
  refine lv_if_ne (tgt := 15) hx hb d_kr_order_9 (by decide) (fun c_2 => ?_) (fun c_2 => ?_)
  · refine lv_aload_n hx hb d_kr_order_15 rfl (lv_at hl 0 rfl) ?_
    refine va_get (D := (dC, dI)) (ci := 0) (v := .ref a0) (C := R_kr) (T := F_kr) (N := 6) hx hb hT i_kr hown hK hP 0 rfl rfl 3 (by decide) (hT _ k_19) (fun _ h9 => h9) rfl d_kr_order_16 ?_
    refine lv_iload_n hx hb d_kr_order_19 rfl (lv_at hl 1 rfl) ?_
    have hPc := hP.sub (ws' := [(a0, .inr (1, [.ref a1, .ref a2, .int cnt])), (a1, .inl (cU, 300, .inl fu)), (a2, .inl (cL, 300, .inl fl))]) [1, 2, 3] rfl
    have hKc := hK.sub (tys' := [(cU, .int), (cL, .int)]) [0, 1] rfl
    refine vp_callSl (W.runV (As := [.int a]) (rest := []) ⟨hx, hb, hml, hown, hT⟩ (c_kv_upper l dC dI a0 a1 a2 cnt cU fu cL fl a (in_hb1 hc c_2)) (cwV 1 hT (kt_V k_27 k_25 k_26 k_2 k_24) rfl rfl rfl (by decide +kernel) ⟨Nat.le_of_ble_eq_true rfl, Nat.le_of_ble_eq_true rfl⟩) ⟨bl_R, va_recv hKc hPc (ci := 1) (q0 := 0) rfl rfl, fun U hU hW => ⟨rfl, by rw [hU]; exact hPc, va_K.moved hW.alike hKc⟩⟩ rfl rfl hl.1 rfl (lv_room (Nat.le_of_ble_eq_true rfl)) d_kr_order_20 ⟨Nat.zero_le _, Nat.zero_le _⟩) (fun r_3 e_r_3 => ?_)
    subst e_r_3
    refine lv_aload_n hx hb d_kr_order_23 rfl (lv_at hl 0 rfl) ?_
    refine va_get (D := (dC, dI)) (ci := 0) (v := .ref a0) (C := R_kr) (T := F_kr) (N := 6) hx hb hT i_kr hown hK hP 0 rfl rfl 3 (by decide) (hT _ k_19) (fun _ h9 => h9) rfl d_kr_order_24 ?_
    refine lv_iload_n hx hb d_kr_order_27 rfl (lv_at hl 2 rfl) ?_
    have hPc := hP.sub (ws' := [(a0, .inr (1, [.ref a1, .ref a2, .int cnt])), (a1, .inl (cU, 300, .inl fu)), (a2, .inl (cL, 300, .inl fl))]) [1, 2, 3] rfl
    have hKc := hK.sub (tys' := [(cU, .int), (cL, .int)]) [0, 1] rfl
    refine vp_callSl (W.runV (As := [.int b]) (rest := [.long (f_kv_upper fu a)]) ⟨hx, hb, hml, hown, hT⟩ (c_kv_lower l dC dI a0 a1 a2 cnt cU fu cL fl b (in_hb2 hc c_2)) (cwV 1 hT (kt_V k_31 k_29 k_30 k_2 k_28) rfl rfl rfl (by decide +kernel) ⟨Nat.le_of_ble_eq_true rfl, Nat.le_of_ble_eq_true rfl⟩) ⟨bl_R, va_recv hKc hPc (ci := 1) (q0 := 0) rfl rfl, fun U hU hW => ⟨rfl, by rw [hU]; exact hPc, va_K.moved hW.alike hKc⟩⟩ rfl rfl hl.1 rfl (lv_room (Nat.le_of_ble_eq_true rfl)) d_kr_order_28 ⟨Nat.zero_le _, Nat.zero_le _⟩) (fun r_4 e_r_4 => ?_)
    subst e_r_4
    refine lv_lmul hx hb d_kr_order_31 ?_
    refine lv_lstore_n (lv' := [(3, .long ((f_kv_upper fu a) * (f_kv_lower fl b))), (0, .ref ak), (1, .int a), (2, .int b)]) hx hb d_kr_order_32 rfl hl (by decide) rfl (fun ls hl => ?_)
    refine lv_aload_n hx hb d_kr_order_33 rfl (lv_at hl 1 rfl) ?_
    refine va_get (D := (dC, dI)) (ci := 0) (v := .ref a0) (C := R_kr) (T := F_kr) (N := 6) hx hb hT i_kr hown hK hP 0 rfl rfl 3 (by decide) (hT _ k_19) (fun _ h9 => h9) rfl d_kr_order_34 ?_
    refine lv_iload_n hx hb d_kr_order_37 rfl (lv_at hl 3 rfl) ?_
    have hPc := hP.sub (ws' := [(a0, .inr (1, [.ref a1, .ref a2, .int cnt])), (a1, .inl (cU, 300, .inl fu)), (a2, .inl (cL, 300, .inl fl))]) [1, 2, 3] rfl
    have hKc := hK.sub (tys' := [(cU, .int), (cL, .int)]) [0, 1] rfl
    refine vp_callSl (W.runV (As := [.int b]) (rest := []) ⟨hx, hb, hml, hown, hT⟩ (c_kv_upper l dC dI a0 a1 a2 cnt cU fu cL fl b (in_hb2 hc c_2)) (cwV 1 hT (kt_V k_27 k_25 k_26 k_2 k_24) rfl rfl rfl (by decide +kernel) ⟨Nat.le_of_ble_eq_true rfl, Nat.le_of_ble_eq_true rfl⟩) ⟨bl_R, va_recv hKc hPc (ci := 1) (q0 := 0) rfl rfl, fun U hU hW => ⟨rfl, by rw [hU]; exact hPc, va_K.moved hW.alike hKc⟩⟩ rfl rfl hl.1 rfl (lv_room (Nat.le_of_ble_eq_true rfl)) d_kr_order_38 ⟨Nat.zero_le _, Nat.zero_le _⟩) (fun r_5 e_r_5 => ?_)
    subst e_r_5
    refine lv_aload_n hx hb d_kr_order_41 rfl (lv_at hl 1 rfl) ?_
    refine va_get (D := (dC, dI)) (ci := 0) (v := .ref a0) (C := R_kr) (T := F_kr) (N := 6) hx hb hT i_kr hown hK hP 0 rfl rfl 3 (by decide) (hT _ k_19) (fun _ h9 => h9) rfl d_kr_order_42 ?_
    refine lv_iload_n hx hb d_kr_order_45 rfl (lv_at hl 2 rfl) ?_
    have hPc := hP.sub (ws' := [(a0, .inr (1, [.ref a1, .ref a2, .int cnt])), (a1, .inl (cU, 300, .inl fu)), (a2, .inl (cL, 300, .inl fl))]) [1, 2, 3] rfl
    have hKc := hK.sub (tys' := [(cU, .int), (cL, .int)]) [0, 1] rfl
    refine vp_callSl (W.runV (As := [.int a]) (rest := [.long (f_kv_upper fu b)]) ⟨hx, hb, hml, hown, hT⟩ (c_kv_lower l dC dI a0 a1 a2 cnt cU fu cL fl a (in_hb1 hc c_2)) (cwV 1 hT (kt_V k_31 k_29 k_30 k_2 k_28) rfl rfl rfl (by decide +kernel) ⟨Nat.le_of_ble_eq_true rfl, Nat.le_of_ble_eq_true rfl⟩) ⟨bl_R, va_recv hKc hPc (ci := 1) (q0 := 0) rfl rfl, fun U hU hW => ⟨rfl, by rw [hU]; exact hPc, va_K.moved hW.alike hKc⟩⟩ rfl rfl hl.1 rfl (lv_room (Nat.le_of_ble_eq_true rfl)) d_kr_order_46 ⟨Nat.zero_le _, Nat.zero_le _⟩) (fun r_6 e_r_6 => ?_)
    subst e_r_6
    refine lv_lmul hx hb d_kr_order_49 ?_
    refine lv_lstore (lv' := [(5, .long ((f_kv_upper fu b) * (f_kv_lower fl a))), (3, .long ((f_kv_upper fu a) * (f_kv_lower fl b))), (0, .ref ak), (1, .int a), (2, .int b)]) hx hb d_kr_order_50 hl (by decide) rfl (fun ls hl => ?_)
    refine lv_lload_n hx hb d_kr_order_52 rfl (lv_at hl 1 rfl) ?_
    refine lv_lload hx hb d_kr_order_53 (lv_at hl 0 rfl) ?_
    refine lx_ifne (tgt := 61) hx hb d_kr_order_55 d_kr_order_56 (by decide) (fun c_7 => ?_) (fun c_7 => ?_)
    · refine lv_lload_n hx hb d_kr_order_61 rfl (lv_at hl 1 rfl) ?_
      refine lv_lload hx hb d_kr_order_62 (lv_at hl 0 rfl) ?_
      refine lx_ifge (tgt := 72) hx hb d_kr_order_64 d_kr_order_65 (by decide) (fun c_8 => ?_) (fun c_8 => ?_)
      · refine lv_iconst (v := 1) hx hb d_kr_order_72 (by decide) ?_
        exact W.iret (v := 1) hx hb hr (fun t ht hW => ⟨_, rfl, by unfold f_kr_order; rw [if_neg c_2, if_neg c_7, if_pos c_8], ht⟩) t_nil d_kr_order_73
      · refine lv_iconst (v := (-1)) hx hb d_kr_order_68 (by decide) ?_
        refine lv_goto (tgt := 73) hx hb d_kr_order_69 (by decide) ?_
        exact W.iret (v := (-1)) hx hb hr (fun t ht hW => ⟨_, rfl, by unfold f_kr_order; rw [if_neg c_2, if_neg c_7, if_neg c_8], ht⟩) t_nil d_kr_order_73
    · refine lv_iconst (v := 0) hx hb d_kr_order_59 (by decide) ?_
      exact W.iret (v := 0) hx hb hr (fun t ht hW => ⟨_, rfl, by unfold f_kr_order; rw [if_neg c_2, if_pos c_7], ht⟩) t_nil d_kr_order_60
  · refine lv_bipush (v := (-2)) hx hb d_kr_order_12 (by decide) ?_
    exact W.iret (v := (-2)) hx hb hr (fun t ht hW => ⟨_, rfl, by unfold f_kr_order; rw [if_pos c_2], ht⟩) t_nil d_kr_order_14
def f_kr_row (rowc : Int32) : Int32 × Int32 :=
  if rowc < 20 then ((rowc + 1) - 1, rowc + 1) else ((-1), rowc)
set_option maxHeartbeats 4000000 in
set_option maxRecDepth 100000 in
theorem c_kr_row (l : Launch) (dC : Nat → ClassId) (dI : Nat → Nat → Nat) (sz : Nat) (ak : Nat) (kinds : Int32) (ac : Nat) (rowc : Int32) (a0 : Nat) (a_s : Nat) (a_w : Nat) : Met l y_kr_row w_kr_row ({ frames := 0, cells := 0, slots := 0, locals := 0 }) (va_Pc [.ref ak] (fun U => U.heap.size = sz ∧ va_P (dC, dI) classes [(ak, .inr (0, [.int kinds, .ref ac, .int rowc, .ref a0, .ref a_s, .ref a_w]))] U.heap ∧ va_K (dC, dI) classes [] U ∧ va_D (fun _ => True) [(ak, .inr (0, [.int kinds, .ref ac, .int rowc, .ref a0, .ref a_s, .ref a_w]))])) (va_Qi (fun z9 u9 => (z9, u9) = f_kr_row rowc) (fun (u : Int32) t => match u with | rowc' => va_P (dC, dI) classes [(ak, .inr (0, [.int kinds, .ref ac, .int rowc', .ref a0, .ref a_s, .ref a_w]))] t.heap ∧ va_K (dC, dI) classes [] t ∧ va_D (va_A [(ak, .inr (0, [.int kinds, .ref ac, .int rowc, .ref a0, .ref a_s, .ref a_w]))] sz) [(ak, .inr (0, [.int kinds, .ref ac, .int rowc', .ref a0, .ref a_s, .ref a_w]))]) (va_A [(ak, .inr (0, [.int kinds, .ref ac, .int rowc, .ref a0, .ref a_s, .ref a_w]))] sz)) 0 0 (va_A [(ak, .inr (0, [.int kinds, .ref ac, .int rowc, .ref a0, .ref a_s, .ref a_w]))] sz) := by
  refine Met.ofW (cc := b_kr_row) (maxL := 1) (ret := (some .int)) (by decide +kernel) rfl ?_
  intro p e s m args below meth c s₁ B hml hv
  obtain ⟨rfl, hsz, hP, hK, hD0⟩ := hv
  have hx := B.exec
  have hb := B.bytes
  have hr := B.returns
  have hts := atoms_spec (ws := w_kr_row) B.pre
  have hT := fun (w : Cond) (h : w ∈ kt_T) => hts w (List.mem_cons_of_mem _ h)
  have hown : s.vm.findClass R_kr = some m.cls := findClass_of_methodNamed B.named
  have hlocks := B.notSynchronized
  subst hsz
  have hD := hD0.self (sz := s.heap.size)
  generalize hAe : va_A [(ak, .inr (0, [.int kinds, .ref ac, .int rowc, .ref a0, .ref a_s, .ref a_w]))] s.heap.size = A at hD ⊢
  have hA : ∀ q : Nat, s.heap.size ≤ q → A q := fun q h => by rw [← hAe]; exact Or.inr h
  have hS : va_S A s.heap s.heap [] := va_S.rf
  have hl := lv_entry ([.ref ak]) (n := 1) (Nat.le_of_ble_eq_true rfl)
  rw [lg_entry_eq]
  generalize (lg_sl ([.ref ak]) ++ List.replicate (1 - (lg_sl ([.ref ak])).length) Slot.unset).toArray = ls at hl ⊢
  have hl : lv_has ls 1 [(0, .ref ak)] := hl
  refine lv_aload_n hx hb d_kr_row_0 rfl (lv_at hl 0 rfl) ?_
  refine va_get (D := (dC, dI)) (ci := 0) (v := .int rowc) (C := R_kr) (T := F_kr) (N := 6) hx hb hT i_kr hown hK hP 0 rfl rfl 2 (by decide) (hT _ k_16) (fun _ h9 => h9) rfl d_kr_row_1 ?_
  refine lv_bipush (v := 20) hx hb d_kr_row_4 (by decide) ?_
  refine lv_icmp_lt (tgt := 11) hx hb d_kr_row_6 (by decide) (fun c_1 => ?_) (fun c_1 => ?_)
  · refine lv_aload_n hx hb d_kr_row_11 rfl (lv_at hl 0 rfl) ?_
    refine lv_dup hx hb d_kr_row_12 rfl ?_
    refine va_get (D := (dC, dI)) (ci := 0) (v := .int rowc) (C := R_kr) (T := F_kr) (N := 6) hx hb hT i_kr hown hK hP 0 rfl rfl 2 (by decide) (hT _ k_16) (fun _ h9 => h9) rfl d_kr_row_13 ?_
    refine lv_iconst (v := 1) hx hb d_kr_row_16 (by decide) ?_
    refine lv_iadd hx hb d_kr_row_17 ?_
    refine va_put (D := (dC, dI)) (ci := 0) (v := .int (rowc + 1)) (ty := .int) (C := R_kr) (T := F_kr) (N := 6) hx hb hT i_kr t_kr t_kr_ok n_kr hown hK hP hD hS 0 rfl rfl 2 (by decide) (hT _ k_16) (fun _ h9 => h9) rfl (by decide +kernel) rfl rfl (Nat.le_of_ble_eq_true rfl) d_kr_row_18 (fun H locs hP hD hS => ?_)
    have hP : va_P (dC, dI) classes [(ak, .inr (0, [.int kinds, .ref ac, .int (rowc + 1), .ref a0, .ref a_s, .ref a_w]))] H := hP
    have hD : va_D A [(ak, .inr (0, [.int kinds, .ref ac, .int (rowc + 1), .ref a0, .ref a_s, .ref a_w]))] := hD
    refine lv_aload_n hx hb d_kr_row_21 rfl (lv_at hl 0 rfl) ?_
    refine va_get (D := (dC, dI)) (ci := 0) (v := .int (rowc + 1)) (C := R_kr) (T := F_kr) (N := 6) hx hb hT i_kr hown hK hP 0 rfl rfl 2 (by decide) (hT _ k_16) (fun _ h9 => h9) rfl d_kr_row_22 ?_
    refine lv_iconst (v := 1) hx hb d_kr_row_25 (by decide) ?_
    refine lv_isub hx hb d_kr_row_26 ?_
    exact W.iret (v := (rowc + 1) - 1) hx hb hr (fun t ht hW => ⟨⟨(rowc + 1) - 1, rowc + 1, rfl, by unfold f_kr_row; rw [if_pos c_1], by rw [ht]; exact hP, va_K.moved hW.alike hK, hD⟩, hS.F ht⟩) hS.2.2 d_kr_row_27
  · refine lv_iconst (v := (-1)) hx hb d_kr_row_9 (by decide) ?_
    exact W.iret (v := (-1)) hx hb hr (fun t ht hW => ⟨⟨(-1), rowc, rfl, by unfold f_kr_row; rw [if_neg c_1], by rw [ht]; exact hP, va_K.moved hW.alike hK, hD⟩, hS.F ht⟩) hS.2.2 d_kr_row_10
