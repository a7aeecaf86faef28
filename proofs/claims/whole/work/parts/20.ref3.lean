abbrev b_mo_round : ByteArray := prog_6_method_14_code
def y_mo_round : MethodName := ⟨R_mo, "round", "(IIJ)J"⟩
def w_mo_round : List Cond := .code y_mo_round b_mo_round 17 (some .long) :: kt_T
theorem d_mo_round_0 : decode b_mo_round 0 = .ok (.aload_n 0, 1) := by decide +kernel
theorem d_mo_round_1 : decode b_mo_round 1 = .ok (.iconst 0, 1) := by decide +kernel
theorem d_mo_round_2 : decode b_mo_round 2 = .ok (.putfield 43, 3) := by decide +kernel
theorem d_mo_round_5 : decode b_mo_round 5 = .ok (.aload_n 0, 1) := by decide +kernel
theorem d_mo_round_6 : decode b_mo_round 6 = .ok (.iload_n 1, 1) := by decide +kernel
theorem d_mo_round_7 : decode b_mo_round 7 = .ok (.invokevirtual 72, 3) := by decide +kernel
theorem d_mo_round_10 : decode b_mo_round 10 = .ok (.ifCond .eq 26, 3) := by decide +kernel
theorem d_mo_round_13 : decode b_mo_round 13 = .ok (.iload_n 2, 1) := by decide +kernel
theorem d_mo_round_14 : decode b_mo_round 14 = .ok (.ifCond .lt 22, 3) := by decide +kernel
theorem d_mo_round_17 : decode b_mo_round 17 = .ok (.iload_n 2, 1) := by decide +kernel
theorem d_mo_round_18 : decode b_mo_round 18 = .ok (.iconst 3, 1) := by decide +kernel
theorem d_mo_round_19 : decode b_mo_round 19 = .ok (.if_icmp .gt 17, 3) := by decide +kernel
theorem d_mo_round_22 : decode b_mo_round 22 = .ok (.lload_n 3, 1) := by decide +kernel
theorem d_mo_round_23 : decode b_mo_round 23 = .ok (.lconst 1, 1) := by decide +kernel
theorem d_mo_round_24 : decode b_mo_round 24 = .ok (.lcmp, 1) := by decide +kernel
theorem d_mo_round_25 : decode b_mo_round 25 = .ok (.ifCond .lt 11, 3) := by decide +kernel
theorem d_mo_round_28 : decode b_mo_round 28 = .ok (.lload_n 3, 1) := by decide +kernel
theorem d_mo_round_29 : decode b_mo_round 29 = .ok (.ldc2_w 51, 3) := by decide +kernel
theorem d_mo_round_32 : decode b_mo_round 32 = .ok (.lcmp, 1) := by decide +kernel
theorem d_mo_round_33 : decode b_mo_round 33 = .ok (.ifCond .le 7, 3) := by decide +kernel
theorem d_mo_round_36 : decode b_mo_round 36 = .ok (.ldc2_w 76, 3) := by decide +kernel
theorem d_mo_round_39 : decode b_mo_round 39 = .ok (.lreturn, 1) := by decide +kernel
theorem d_mo_round_40 : decode b_mo_round 40 = .ok (.aload_n 0, 1) := by decide +kernel
theorem d_mo_round_41 : decode b_mo_round 41 = .ok (.getfield 13, 3) := by decide +kernel
theorem d_mo_round_44 : decode b_mo_round 44 = .ok (.iload_n 1, 1) := by decide +kernel
theorem d_mo_round_45 : decode b_mo_round 45 = .ok (.laload, 1) := by decide +kernel
theorem d_mo_round_46 : decode b_mo_round 46 = .ok (.lload_n 3, 1) := by decide +kernel
theorem d_mo_round_47 : decode b_mo_round 47 = .ok (.lmul, 1) := by decide +kernel
theorem d_mo_round_48 : decode b_mo_round 48 = .ok (.lstore 5, 2) := by decide +kernel
theorem d_mo_round_50 : decode b_mo_round 50 = .ok (.aload_n 0, 1) := by decide +kernel
theorem d_mo_round_51 : decode b_mo_round 51 = .ok (.getfield 7, 3) := by decide +kernel
theorem d_mo_round_54 : decode b_mo_round 54 = .ok (.iload_n 1, 1) := by decide +kernel
theorem d_mo_round_55 : decode b_mo_round 55 = .ok (.laload, 1) := by decide +kernel
theorem d_mo_round_56 : decode b_mo_round 56 = .ok (.lconst 0, 1) := by decide +kernel
theorem d_mo_round_57 : decode b_mo_round 57 = .ok (.lcmp, 1) := by decide +kernel
theorem d_mo_round_58 : decode b_mo_round 58 = .ok (.ifCond .ge 13, 3) := by decide +kernel
theorem d_mo_round_61 : decode b_mo_round 61 = .ok (.aload_n 0, 1) := by decide +kernel
theorem d_mo_round_62 : decode b_mo_round 62 = .ok (.getfield 7, 3) := by decide +kernel
theorem d_mo_round_65 : decode b_mo_round 65 = .ok (.iload_n 1, 1) := by decide +kernel
theorem d_mo_round_66 : decode b_mo_round 66 = .ok (.laload, 1) := by decide +kernel
theorem d_mo_round_67 : decode b_mo_round 67 = .ok (.lneg, 1) := by decide +kernel
theorem d_mo_round_68 : decode b_mo_round 68 = .ok (.goto 9, 3) := by decide +kernel
theorem d_mo_round_71 : decode b_mo_round 71 = .ok (.aload_n 0, 1) := by decide +kernel
theorem d_mo_round_72 : decode b_mo_round 72 = .ok (.getfield 7, 3) := by decide +kernel
theorem d_mo_round_75 : decode b_mo_round 75 = .ok (.iload_n 1, 1) := by decide +kernel
theorem d_mo_round_76 : decode b_mo_round 76 = .ok (.laload, 1) := by decide +kernel
theorem d_mo_round_77 : decode b_mo_round 77 = .ok (.lstore 7, 2) := by decide +kernel
theorem d_mo_round_79 : decode b_mo_round 79 = .ok (.aload_n 0, 1) := by decide +kernel
theorem d_mo_round_80 : decode b_mo_round 80 = .ok (.getfield 7, 3) := by decide +kernel
theorem d_mo_round_83 : decode b_mo_round 83 = .ok (.iload_n 1, 1) := by decide +kernel
theorem d_mo_round_84 : decode b_mo_round 84 = .ok (.laload, 1) := by decide +kernel
theorem d_mo_round_85 : decode b_mo_round 85 = .ok (.lconst 0, 1) := by decide +kernel
theorem d_mo_round_86 : decode b_mo_round 86 = .ok (.lcmp, 1) := by decide +kernel
theorem d_mo_round_87 : decode b_mo_round 87 = .ok (.ifCond .ge 7, 3) := by decide +kernel
theorem d_mo_round_90 : decode b_mo_round 90 = .ok (.iconst 1, 1) := by decide +kernel
theorem d_mo_round_91 : decode b_mo_round 91 = .ok (.goto 4, 3) := by decide +kernel
theorem d_mo_round_94 : decode b_mo_round 94 = .ok (.iconst 0, 1) := by decide +kernel
theorem d_mo_round_95 : decode b_mo_round 95 = .ok (.istore 9, 2) := by decide +kernel
theorem d_mo_round_97 : decode b_mo_round 97 = .ok (.lload 7, 2) := by decide +kernel
theorem d_mo_round_99 : decode b_mo_round 99 = .ok (.lload 5, 2) := by decide +kernel
theorem d_mo_round_101 : decode b_mo_round 101 = .ok (.ldiv, 1) := by decide +kernel
theorem d_mo_round_102 : decode b_mo_round 102 = .ok (.lstore 10, 2) := by decide +kernel
theorem d_mo_round_104 : decode b_mo_round 104 = .ok (.lload 7, 2) := by decide +kernel
theorem d_mo_round_106 : decode b_mo_round 106 = .ok (.lload 10, 2) := by decide +kernel
theorem d_mo_round_108 : decode b_mo_round 108 = .ok (.lload 5, 2) := by decide +kernel
theorem d_mo_round_110 : decode b_mo_round 110 = .ok (.lmul, 1) := by decide +kernel
theorem d_mo_round_111 : decode b_mo_round 111 = .ok (.lsub, 1) := by decide +kernel
theorem d_mo_round_112 : decode b_mo_round 112 = .ok (.lstore 12, 2) := by decide +kernel
theorem d_mo_round_114 : decode b_mo_round 114 = .ok (.iconst 0, 1) := by decide +kernel
theorem d_mo_round_115 : decode b_mo_round 115 = .ok (.istore 14, 2) := by decide +kernel
theorem d_mo_round_117 : decode b_mo_round 117 = .ok (.lload 12, 2) := by decide +kernel
theorem d_mo_round_119 : decode b_mo_round 119 = .ok (.lconst 0, 1) := by decide +kernel
theorem d_mo_round_120 : decode b_mo_round 120 = .ok (.lcmp, 1) := by decide +kernel
theorem d_mo_round_121 : decode b_mo_round 121 = .ok (.ifCond .le 79, 3) := by decide +kernel
theorem d_mo_round_124 : decode b_mo_round 124 = .ok (.iload_n 2, 1) := by decide +kernel
theorem d_mo_round_125 : decode b_mo_round 125 = .ok (.iconst 2, 1) := by decide +kernel
theorem d_mo_round_126 : decode b_mo_round 126 = .ok (.if_icmp .ge 27, 3) := by decide +kernel
theorem d_mo_round_129 : decode b_mo_round 129 = .ok (.iload_n 2, 1) := by decide +kernel
theorem d_mo_round_130 : decode b_mo_round 130 = .ok (.ifCond .ne 7, 3) := by decide +kernel
theorem d_mo_round_133 : decode b_mo_round 133 = .ok (.iconst 1, 1) := by decide +kernel
theorem d_mo_round_134 : decode b_mo_round 134 = .ok (.goto 4, 3) := by decide +kernel
theorem d_mo_round_137 : decode b_mo_round 137 = .ok (.iconst 0, 1) := by decide +kernel
theorem d_mo_round_138 : decode b_mo_round 138 = .ok (.iload 9, 2) := by decide +kernel
theorem d_mo_round_140 : decode b_mo_round 140 = .ok (.if_icmp .ne 7, 3) := by decide +kernel
theorem d_mo_round_143 : decode b_mo_round 143 = .ok (.iconst 1, 1) := by decide +kernel
theorem d_mo_round_144 : decode b_mo_round 144 = .ok (.goto 4, 3) := by decide +kernel
theorem d_mo_round_147 : decode b_mo_round 147 = .ok (.iconst 0, 1) := by decide +kernel
theorem d_mo_round_148 : decode b_mo_round 148 = .ok (.istore 14, 2) := by decide +kernel
theorem d_mo_round_150 : decode b_mo_round 150 = .ok (.goto 50, 3) := by decide +kernel
theorem d_mo_round_153 : decode b_mo_round 153 = .ok (.ldc2_w 78, 3) := by decide +kernel
theorem d_mo_round_156 : decode b_mo_round 156 = .ok (.lload 12, 2) := by decide +kernel
theorem d_mo_round_158 : decode b_mo_round 158 = .ok (.lmul, 1) := by decide +kernel
theorem d_mo_round_159 : decode b_mo_round 159 = .ok (.lstore 15, 2) := by decide +kernel
theorem d_mo_round_161 : decode b_mo_round 161 = .ok (.lload 15, 2) := by decide +kernel
theorem d_mo_round_163 : decode b_mo_round 163 = .ok (.lload 5, 2) := by decide +kernel
theorem d_mo_round_165 : decode b_mo_round 165 = .ok (.lcmp, 1) := by decide +kernel
theorem d_mo_round_166 : decode b_mo_round 166 = .ok (.ifCond .gt 27, 3) := by decide +kernel
theorem d_mo_round_169 : decode b_mo_round 169 = .ok (.lload 15, 2) := by decide +kernel
theorem d_mo_round_171 : decode b_mo_round 171 = .ok (.lload 5, 2) := by decide +kernel
theorem d_mo_round_173 : decode b_mo_round 173 = .ok (.lcmp, 1) := by decide +kernel
theorem d_mo_round_174 : decode b_mo_round 174 = .ok (.ifCond .ne 23, 3) := by decide +kernel
theorem d_mo_round_177 : decode b_mo_round 177 = .ok (.iload_n 2, 1) := by decide +kernel
theorem d_mo_round_178 : decode b_mo_round 178 = .ok (.iconst 2, 1) := by decide +kernel
theorem d_mo_round_179 : decode b_mo_round 179 = .ok (.if_icmp .eq 14, 3) := by decide +kernel
theorem d_mo_round_182 : decode b_mo_round 182 = .ok (.lload 10, 2) := by decide +kernel
theorem d_mo_round_184 : decode b_mo_round 184 = .ok (.ldc2_w 78, 3) := by decide +kernel
theorem d_mo_round_187 : decode b_mo_round 187 = .ok (.lrem, 1) := by decide +kernel
theorem d_mo_round_188 : decode b_mo_round 188 = .ok (.lconst 1, 1) := by decide +kernel
theorem d_mo_round_189 : decode b_mo_round 189 = .ok (.lcmp, 1) := by decide +kernel
theorem d_mo_round_190 : decode b_mo_round 190 = .ok (.ifCond .ne 7, 3) := by decide +kernel
theorem d_mo_round_193 : decode b_mo_round 193 = .ok (.iconst 1, 1) := by decide +kernel
theorem d_mo_round_194 : decode b_mo_round 194 = .ok (.goto 4, 3) := by decide +kernel
theorem d_mo_round_197 : decode b_mo_round 197 = .ok (.iconst 0, 1) := by decide +kernel
theorem d_mo_round_198 : decode b_mo_round 198 = .ok (.istore 14, 2) := by decide +kernel
theorem d_mo_round_200 : decode b_mo_round 200 = .ok (.iload 14, 2) := by decide +kernel
theorem d_mo_round_202 : decode b_mo_round 202 = .ok (.ifCond .eq 10, 3) := by decide +kernel
theorem d_mo_round_205 : decode b_mo_round 205 = .ok (.lload 10, 2) := by decide +kernel
theorem d_mo_round_207 : decode b_mo_round 207 = .ok (.lconst 1, 1) := by decide +kernel
theorem d_mo_round_208 : decode b_mo_round 208 = .ok (.ladd, 1) := by decide +kernel
theorem d_mo_round_209 : decode b_mo_round 209 = .ok (.goto 5, 3) := by decide +kernel
theorem d_mo_round_212 : decode b_mo_round 212 = .ok (.lload 10, 2) := by decide +kernel
theorem d_mo_round_214 : decode b_mo_round 214 = .ok (.lload_n 3, 1) := by decide +kernel
theorem d_mo_round_215 : decode b_mo_round 215 = .ok (.lmul, 1) := by decide +kernel
theorem d_mo_round_216 : decode b_mo_round 216 = .ok (.lstore 15, 2) := by decide +kernel
theorem d_mo_round_218 : decode b_mo_round 218 = .ok (.iload 9, 2) := by decide +kernel
theorem d_mo_round_220 : decode b_mo_round 220 = .ok (.ifCond .eq 9, 3) := by decide +kernel
theorem d_mo_round_223 : decode b_mo_round 223 = .ok (.lload 15, 2) := by decide +kernel
theorem d_mo_round_225 : decode b_mo_round 225 = .ok (.lneg, 1) := by decide +kernel
theorem d_mo_round_226 : decode b_mo_round 226 = .ok (.goto 5, 3) := by decide +kernel
theorem d_mo_round_229 : decode b_mo_round 229 = .ok (.lload 15, 2) := by decide +kernel
theorem d_mo_round_231 : decode b_mo_round 231 = .ok (.lreturn, 1) := by decide +kernel
abbrev b_mo_digit : ByteArray := prog_6_method_15_code
def y_mo_digit : MethodName := ⟨R_mo, "digit", "(III)I"⟩
def w_mo_digit : List Cond := .code y_mo_digit b_mo_digit 7 (some .int) :: kt_T
theorem d_mo_digit_0 : decode b_mo_digit 0 = .ok (.aload_n 0, 1) := by decide +kernel
theorem d_mo_digit_1 : decode b_mo_digit 1 = .ok (.iconst 0, 1) := by decide +kernel
theorem d_mo_digit_2 : decode b_mo_digit 2 = .ok (.putfield 43, 3) := by decide +kernel
theorem d_mo_digit_5 : decode b_mo_digit 5 = .ok (.aload_n 0, 1) := by decide +kernel
theorem d_mo_digit_6 : decode b_mo_digit 6 = .ok (.iload_n 1, 1) := by decide +kernel
theorem d_mo_digit_7 : decode b_mo_digit 7 = .ok (.invokevirtual 72, 3) := by decide +kernel
theorem d_mo_digit_10 : decode b_mo_digit 10 = .ok (.ifCond .eq 22, 3) := by decide +kernel
theorem d_mo_digit_13 : decode b_mo_digit 13 = .ok (.iload_n 2, 1) := by decide +kernel
theorem d_mo_digit_14 : decode b_mo_digit 14 = .ok (.ifCond .lt 18, 3) := by decide +kernel
theorem d_mo_digit_17 : decode b_mo_digit 17 = .ok (.iload_n 2, 1) := by decide +kernel
theorem d_mo_digit_18 : decode b_mo_digit 18 = .ok (.iconst 1, 1) := by decide +kernel
theorem d_mo_digit_19 : decode b_mo_digit 19 = .ok (.if_icmp .gt 13, 3) := by decide +kernel
theorem d_mo_digit_22 : decode b_mo_digit 22 = .ok (.iload_n 3, 1) := by decide +kernel
theorem d_mo_digit_23 : decode b_mo_digit 23 = .ok (.ifCond .lt 9, 3) := by decide +kernel
theorem d_mo_digit_26 : decode b_mo_digit 26 = .ok (.iload_n 3, 1) := by decide +kernel
theorem d_mo_digit_27 : decode b_mo_digit 27 = .ok (.bipush 9, 2) := by decide +kernel
theorem d_mo_digit_29 : decode b_mo_digit 29 = .ok (.if_icmp .le 5, 3) := by decide +kernel
theorem d_mo_digit_32 : decode b_mo_digit 32 = .ok (.iconst (-1), 1) := by decide +kernel
theorem d_mo_digit_33 : decode b_mo_digit 33 = .ok (.ireturn, 1) := by decide +kernel
theorem d_mo_digit_34 : decode b_mo_digit 34 = .ok (.iload_n 2, 1) := by decide +kernel
theorem d_mo_digit_35 : decode b_mo_digit 35 = .ok (.iconst 1, 1) := by decide +kernel
theorem d_mo_digit_36 : decode b_mo_digit 36 = .ok (.if_icmp .ne 12, 3) := by decide +kernel
theorem d_mo_digit_39 : decode b_mo_digit 39 = .ok (.aload_n 0, 1) := by decide +kernel
theorem d_mo_digit_40 : decode b_mo_digit 40 = .ok (.getfield 13, 3) := by decide +kernel
theorem d_mo_digit_43 : decode b_mo_digit 43 = .ok (.iload_n 1, 1) := by decide +kernel
theorem d_mo_digit_44 : decode b_mo_digit 44 = .ok (.laload, 1) := by decide +kernel
theorem d_mo_digit_45 : decode b_mo_digit 45 = .ok (.goto 30, 3) := by decide +kernel
theorem d_mo_digit_48 : decode b_mo_digit 48 = .ok (.aload_n 0, 1) := by decide +kernel
theorem d_mo_digit_49 : decode b_mo_digit 49 = .ok (.getfield 7, 3) := by decide +kernel
theorem d_mo_digit_52 : decode b_mo_digit 52 = .ok (.iload_n 1, 1) := by decide +kernel
theorem d_mo_digit_53 : decode b_mo_digit 53 = .ok (.laload, 1) := by decide +kernel
theorem d_mo_digit_54 : decode b_mo_digit 54 = .ok (.lconst 0, 1) := by decide +kernel
theorem d_mo_digit_55 : decode b_mo_digit 55 = .ok (.lcmp, 1) := by decide +kernel
theorem d_mo_digit_56 : decode b_mo_digit 56 = .ok (.ifCond .ge 13, 3) := by decide +kernel
theorem d_mo_digit_59 : decode b_mo_digit 59 = .ok (.aload_n 0, 1) := by decide +kernel
theorem d_mo_digit_60 : decode b_mo_digit 60 = .ok (.getfield 7, 3) := by decide +kernel
theorem d_mo_digit_63 : decode b_mo_digit 63 = .ok (.iload_n 1, 1) := by decide +kernel
theorem d_mo_digit_64 : decode b_mo_digit 64 = .ok (.laload, 1) := by decide +kernel
theorem d_mo_digit_65 : decode b_mo_digit 65 = .ok (.lneg, 1) := by decide +kernel
theorem d_mo_digit_66 : decode b_mo_digit 66 = .ok (.goto 9, 3) := by decide +kernel
theorem d_mo_digit_69 : decode b_mo_digit 69 = .ok (.aload_n 0, 1) := by decide +kernel
theorem d_mo_digit_70 : decode b_mo_digit 70 = .ok (.getfield 7, 3) := by decide +kernel
theorem d_mo_digit_73 : decode b_mo_digit 73 = .ok (.iload_n 1, 1) := by decide +kernel
theorem d_mo_digit_74 : decode b_mo_digit 74 = .ok (.laload, 1) := by decide +kernel
theorem d_mo_digit_75 : decode b_mo_digit 75 = .ok (.lstore 4, 2) := by decide +kernel
theorem d_mo_digit_77 : decode b_mo_digit 77 = .ok (.iconst 0, 1) := by decide +kernel
theorem d_mo_digit_78 : decode b_mo_digit 78 = .ok (.istore 6, 2) := by decide +kernel
theorem d_mo_digit_80 : decode b_mo_digit 80 = .ok (.iload 6, 2) := by decide +kernel
theorem d_mo_digit_82 : decode b_mo_digit 82 = .ok (.iload_n 3, 1) := by decide +kernel
theorem d_mo_digit_83 : decode b_mo_digit 83 = .ok (.if_icmp .ge 17, 3) := by decide +kernel
theorem d_mo_digit_86 : decode b_mo_digit 86 = .ok (.lload 4, 2) := by decide +kernel
theorem d_mo_digit_88 : decode b_mo_digit 88 = .ok (.ldc2_w 80, 3) := by decide +kernel
theorem d_mo_digit_91 : decode b_mo_digit 91 = .ok (.ldiv, 1) := by decide +kernel
theorem d_mo_digit_92 : decode b_mo_digit 92 = .ok (.lstore 4, 2) := by decide +kernel
theorem d_mo_digit_94 : decode b_mo_digit 94 = .ok (.iinc 6 1, 3) := by decide +kernel
theorem d_mo_digit_97 : decode b_mo_digit 97 = .ok (.goto (-17), 3) := by decide +kernel
theorem d_mo_digit_100 : decode b_mo_digit 100 = .ok (.lload 4, 2) := by decide +kernel
theorem d_mo_digit_102 : decode b_mo_digit 102 = .ok (.lconst 0, 1) := by decide +kernel
theorem d_mo_digit_103 : decode b_mo_digit 103 = .ok (.lcmp, 1) := by decide +kernel
theorem d_mo_digit_104 : decode b_mo_digit 104 = .ok (.ifCond .ne 11, 3) := by decide +kernel
theorem d_mo_digit_107 : decode b_mo_digit 107 = .ok (.iload_n 3, 1) := by decide +kernel
theorem d_mo_digit_108 : decode b_mo_digit 108 = .ok (.ifCond .le 7, 3) := by decide +kernel
theorem d_mo_digit_111 : decode b_mo_digit 111 = .ok (.iconst (-1), 1) := by decide +kernel
theorem d_mo_digit_112 : decode b_mo_digit 112 = .ok (.goto 10, 3) := by decide +kernel
theorem d_mo_digit_115 : decode b_mo_digit 115 = .ok (.lload 4, 2) := by decide +kernel
theorem d_mo_digit_117 : decode b_mo_digit 117 = .ok (.ldc2_w 80, 3) := by decide +kernel
theorem d_mo_digit_120 : decode b_mo_digit 120 = .ok (.lrem, 1) := by decide +kernel
theorem d_mo_digit_121 : decode b_mo_digit 121 = .ok (.l2i, 1) := by decide +kernel
theorem d_mo_digit_122 : decode b_mo_digit 122 = .ok (.ireturn, 1) := by decide +kernel
abbrev b_mo_sum : ByteArray := prog_6_method_21_code
def y_mo_sum : MethodName := ⟨R_mo, "sum", "(I)I"⟩
def w_mo_sum : List Cond := .code y_mo_sum b_mo_sum 9 (some .int) :: kt_T
theorem d_mo_sum_0 : decode b_mo_sum 0 = .ok (.aload_n 0, 1) := by decide +kernel
theorem d_mo_sum_1 : decode b_mo_sum 1 = .ok (.iconst 0, 1) := by decide +kernel
theorem d_mo_sum_2 : decode b_mo_sum 2 = .ok (.putfield 43, 3) := by decide +kernel
theorem d_mo_sum_5 : decode b_mo_sum 5 = .ok (.aload_n 0, 1) := by decide +kernel
theorem d_mo_sum_6 : decode b_mo_sum 6 = .ok (.iload_n 1, 1) := by decide +kernel
theorem d_mo_sum_7 : decode b_mo_sum 7 = .ok (.invokevirtual 85, 3) := by decide +kernel
theorem d_mo_sum_10 : decode b_mo_sum 10 = .ok (.ifCond .ne 5, 3) := by decide +kernel
theorem d_mo_sum_13 : decode b_mo_sum 13 = .ok (.iconst (-1), 1) := by decide +kernel
theorem d_mo_sum_14 : decode b_mo_sum 14 = .ok (.ireturn, 1) := by decide +kernel
theorem d_mo_sum_15 : decode b_mo_sum 15 = .ok (.iconst 0, 1) := by decide +kernel
theorem d_mo_sum_16 : decode b_mo_sum 16 = .ok (.istore_n 2, 1) := by decide +kernel
theorem d_mo_sum_17 : decode b_mo_sum 17 = .ok (.lconst 0, 1) := by decide +kernel
theorem d_mo_sum_18 : decode b_mo_sum 18 = .ok (.lstore_n 3, 1) := by decide +kernel
theorem d_mo_sum_19 : decode b_mo_sum 19 = .ok (.lconst 1, 1) := by decide +kernel
theorem d_mo_sum_20 : decode b_mo_sum 20 = .ok (.lstore 5, 2) := by decide +kernel
theorem d_mo_sum_22 : decode b_mo_sum 22 = .ok (.iconst 0, 1) := by decide +kernel
theorem d_mo_sum_23 : decode b_mo_sum 23 = .ok (.istore 7, 2) := by decide +kernel
theorem d_mo_sum_25 : decode b_mo_sum 25 = .ok (.iload 7, 2) := by decide +kernel
theorem d_mo_sum_27 : decode b_mo_sum 27 = .ok (.aload_n 0, 1) := by decide +kernel
theorem d_mo_sum_28 : decode b_mo_sum 28 = .ok (.getfield 39, 3) := by decide +kernel
theorem d_mo_sum_31 : decode b_mo_sum 31 = .ok (.if_icmp .ge 80, 3) := by decide +kernel
theorem d_mo_sum_34 : decode b_mo_sum 34 = .ok (.aload_n 0, 1) := by decide +kernel
theorem d_mo_sum_35 : decode b_mo_sum 35 = .ok (.getfield 16, 3) := by decide +kernel
theorem d_mo_sum_38 : decode b_mo_sum 38 = .ok (.bipush 16, 2) := by decide +kernel
theorem d_mo_sum_40 : decode b_mo_sum 40 = .ok (.iload_n 1, 1) := by decide +kernel
theorem d_mo_sum_41 : decode b_mo_sum 41 = .ok (.imul, 1) := by decide +kernel
theorem d_mo_sum_42 : decode b_mo_sum 42 = .ok (.iload 7, 2) := by decide +kernel
theorem d_mo_sum_44 : decode b_mo_sum 44 = .ok (.iadd, 1) := by decide +kernel
theorem d_mo_sum_45 : decode b_mo_sum 45 = .ok (.iaload, 1) := by decide +kernel
theorem d_mo_sum_46 : decode b_mo_sum 46 = .ok (.istore 8, 2) := by decide +kernel
theorem d_mo_sum_48 : decode b_mo_sum 48 = .ok (.iload 8, 2) := by decide +kernel
theorem d_mo_sum_50 : decode b_mo_sum 50 = .ok (.ifCond .lt 55, 3) := by decide +kernel
theorem d_mo_sum_53 : decode b_mo_sum 53 = .ok (.iconst 1, 1) := by decide +kernel
theorem d_mo_sum_54 : decode b_mo_sum 54 = .ok (.istore_n 2, 1) := by decide +kernel
theorem d_mo_sum_55 : decode b_mo_sum 55 = .ok (.aload_n 0, 1) := by decide +kernel
theorem d_mo_sum_56 : decode b_mo_sum 56 = .ok (.lload_n 3, 1) := by decide +kernel
theorem d_mo_sum_57 : decode b_mo_sum 57 = .ok (.aload_n 0, 1) := by decide +kernel
theorem d_mo_sum_58 : decode b_mo_sum 58 = .ok (.getfield 13, 3) := by decide +kernel
theorem d_mo_sum_61 : decode b_mo_sum 61 = .ok (.iload 8, 2) := by decide +kernel
theorem d_mo_sum_63 : decode b_mo_sum 63 = .ok (.laload, 1) := by decide +kernel
theorem d_mo_sum_64 : decode b_mo_sum 64 = .ok (.lmul, 1) := by decide +kernel
theorem d_mo_sum_65 : decode b_mo_sum 65 = .ok (.aload_n 0, 1) := by decide +kernel
theorem d_mo_sum_66 : decode b_mo_sum 66 = .ok (.getfield 7, 3) := by decide +kernel
theorem d_mo_sum_69 : decode b_mo_sum 69 = .ok (.iload 8, 2) := by decide +kernel
theorem d_mo_sum_71 : decode b_mo_sum 71 = .ok (.laload, 1) := by decide +kernel
theorem d_mo_sum_72 : decode b_mo_sum 72 = .ok (.lload 5, 2) := by decide +kernel
theorem d_mo_sum_74 : decode b_mo_sum 74 = .ok (.lmul, 1) := by decide +kernel
theorem d_mo_sum_75 : decode b_mo_sum 75 = .ok (.ladd, 1) := by decide +kernel
theorem d_mo_sum_76 : decode b_mo_sum 76 = .ok (.lload 5, 2) := by decide +kernel
theorem d_mo_sum_78 : decode b_mo_sum 78 = .ok (.aload_n 0, 1) := by decide +kernel
theorem d_mo_sum_79 : decode b_mo_sum 79 = .ok (.getfield 13, 3) := by decide +kernel
theorem d_mo_sum_82 : decode b_mo_sum 82 = .ok (.iload 8, 2) := by decide +kernel
theorem d_mo_sum_84 : decode b_mo_sum 84 = .ok (.laload, 1) := by decide +kernel
theorem d_mo_sum_85 : decode b_mo_sum 85 = .ok (.lmul, 1) := by decide +kernel
theorem d_mo_sum_86 : decode b_mo_sum 86 = .ok (.invokevirtual 64, 3) := by decide +kernel
theorem d_mo_sum_89 : decode b_mo_sum 89 = .ok (.ifCond .ne 5, 3) := by decide +kernel
theorem d_mo_sum_92 : decode b_mo_sum 92 = .ok (.iconst (-1), 1) := by decide +kernel
theorem d_mo_sum_93 : decode b_mo_sum 93 = .ok (.ireturn, 1) := by decide +kernel
theorem d_mo_sum_94 : decode b_mo_sum 94 = .ok (.aload_n 0, 1) := by decide +kernel
theorem d_mo_sum_95 : decode b_mo_sum 95 = .ok (.getfield 53, 3) := by decide +kernel
theorem d_mo_sum_98 : decode b_mo_sum 98 = .ok (.lstore_n 3, 1) := by decide +kernel
theorem d_mo_sum_99 : decode b_mo_sum 99 = .ok (.aload_n 0, 1) := by decide +kernel
theorem d_mo_sum_100 : decode b_mo_sum 100 = .ok (.getfield 57, 3) := by decide +kernel
theorem d_mo_sum_103 : decode b_mo_sum 103 = .ok (.lstore 5, 2) := by decide +kernel
theorem d_mo_sum_105 : decode b_mo_sum 105 = .ok (.iinc 7 1, 3) := by decide +kernel
theorem d_mo_sum_108 : decode b_mo_sum 108 = .ok (.goto (-83), 3) := by decide +kernel
theorem d_mo_sum_111 : decode b_mo_sum 111 = .ok (.iload_n 2, 1) := by decide +kernel
theorem d_mo_sum_112 : decode b_mo_sum 112 = .ok (.ifCond .eq 13, 3) := by decide +kernel
theorem d_mo_sum_115 : decode b_mo_sum 115 = .ok (.aload_n 0, 1) := by decide +kernel
theorem d_mo_sum_116 : decode b_mo_sum 116 = .ok (.lload_n 3, 1) := by decide +kernel
theorem d_mo_sum_117 : decode b_mo_sum 117 = .ok (.lload 5, 2) := by decide +kernel
theorem d_mo_sum_119 : decode b_mo_sum 119 = .ok (.invokevirtual 68, 3) := by decide +kernel
theorem d_mo_sum_122 : decode b_mo_sum 122 = .ok (.goto 4, 3) := by decide +kernel
theorem d_mo_sum_125 : decode b_mo_sum 125 = .ok (.iconst (-1), 1) := by decide +kernel
theorem d_mo_sum_126 : decode b_mo_sum 126 = .ok (.ireturn, 1) := by decide +kernel
theorem k_170 : (.constantLong R_mo 78 2 : Cond) ∈ kt_T := List.mem_filter.mpr ⟨List.mem_of_getElem? (i := 516) (by decide +kernel), by decide +kernel⟩
theorem k_171 : (.constantLong R_mo 80 10 : Cond) ∈ kt_T := List.mem_filter.mpr ⟨List.mem_of_getElem? (i := 521) (by decide +kernel), by decide +kernel⟩
def f_mo_round (mv : Int32) (gu : Nat → Int64) (gd : Nat → Int64) (a : Int32) (rule : Int32) (unit : Int64) : Int64 × Int32 :=
  if (f_mo_isValue mv a) = 0 then ((-9223372036854775808), 0) else if rule < 0 then ((-9223372036854775808), 0) else if 3 < rule then ((-9223372036854775808), 0) else if unit < 1 then ((-9223372036854775808), 0) else if unit ≤ 1000000000 then if 0 ≤ (gu a.toNatClampNeg) then if 0 ≤ (gu a.toNatClampNeg) then if ((gu a.toNatClampNeg) - (((gu a.toNatClampNeg) / ((gd a.toNatClampNeg) * unit)) * ((gd a.toNatClampNeg) * unit))) ≤ 0 then (((gu a.toNatClampNeg) / ((gd a.toNatClampNeg) * unit)) * unit, 0) else if 2 ≤ rule then if ((gd a.toNatClampNeg) * unit) < (2 * ((gu a.toNatClampNeg) - (((gu a.toNatClampNeg) / ((gd a.toNatClampNeg) * unit)) * ((gd a.toNatClampNeg) * unit)))) then ((((gu a.toNatClampNeg) / ((gd a.toNatClampNeg) * unit)) + 1) * unit, 0) else if (2 * ((gu a.toNatClampNeg) - (((gu a.toNatClampNeg) / ((gd a.toNatClampNeg) * unit)) * ((gd a.toNatClampNeg) * unit)))) = ((gd a.toNatClampNeg) * unit) then if rule = 2 then ((((gu a.toNatClampNeg) / ((gd a.toNatClampNeg) * unit)) + 1) * unit, 0) else if (((gu a.toNatClampNeg) / ((gd a.toNatClampNeg) * unit)) - ((gu a.toNatClampNeg) / ((gd a.toNatClampNeg) * unit)) / 2 * 2) = 1 then ((((gu a.toNatClampNeg) / ((gd a.toNatClampNeg) * unit)) + 1) * unit, 0) else (((gu a.toNatClampNeg) / ((gd a.toNatClampNeg) * unit)) * unit, 0) else (((gu a.toNatClampNeg) / ((gd a.toNatClampNeg) * unit)) * unit, 0) else if rule = 0 then (((gu a.toNatClampNeg) / ((gd a.toNatClampNeg) * unit)) * unit, 0) else ((((gu a.toNatClampNeg) / ((gd a.toNatClampNeg) * unit)) + 1) * unit, 0) else if ((gu a.toNatClampNeg) - (((gu a.toNatClampNeg) / ((gd a.toNatClampNeg) * unit)) * ((gd a.toNatClampNeg) * unit))) ≤ 0 then (-(((gu a.toNatClampNeg) / ((gd a.toNatClampNeg) * unit)) * unit), 0) else if 2 ≤ rule then if ((gd a.toNatClampNeg) * unit) < (2 * ((gu a.toNatClampNeg) - (((gu a.toNatClampNeg) / ((gd a.toNatClampNeg) * unit)) * ((gd a.toNatClampNeg) * unit)))) then (-((((gu a.toNatClampNeg) / ((gd a.toNatClampNeg) * unit)) + 1) * unit), 0) else if (2 * ((gu a.toNatClampNeg) - (((gu a.toNatClampNeg) / ((gd a.toNatClampNeg) * unit)) * ((gd a.toNatClampNeg) * unit)))) = ((gd a.toNatClampNeg) * unit) then if rule = 2 then (-((((gu a.toNatClampNeg) / ((gd a.toNatClampNeg) * unit)) + 1) * unit), 0) else if (((gu a.toNatClampNeg) / ((gd a.toNatClampNeg) * unit)) - ((gu a.toNatClampNeg) / ((gd a.toNatClampNeg) * unit)) / 2 * 2) = 1 then (-((((gu a.toNatClampNeg) / ((gd a.toNatClampNeg) * unit)) + 1) * unit), 0) else (-(((gu a.toNatClampNeg) / ((gd a.toNatClampNeg) * unit)) * unit), 0) else (-(((gu a.toNatClampNeg) / ((gd a.toNatClampNeg) * unit)) * unit), 0) else if rule = 0 then (-((((gu a.toNatClampNeg) / ((gd a.toNatClampNeg) * unit)) + 1) * unit), 0) else (-(((gu a.toNatClampNeg) / ((gd a.toNatClampNeg) * unit)) * unit), 0) else if 0 ≤ (gu a.toNatClampNeg) then if ((-(gu a.toNatClampNeg)) - (((-(gu a.toNatClampNeg)) / ((gd a.toNatClampNeg) * unit)) * ((gd a.toNatClampNeg) * unit))) ≤ 0 then (((-(gu a.toNatClampNeg)) / ((gd a.toNatClampNeg) * unit)) * unit, 0) else if 2 ≤ rule then if ((gd a.toNatClampNeg) * unit) < (2 * ((-(gu a.toNatClampNeg)) - (((-(gu a.toNatClampNeg)) / ((gd a.toNatClampNeg) * unit)) * ((gd a.toNatClampNeg) * unit)))) then ((((-(gu a.toNatClampNeg)) / ((gd a.toNatClampNeg) * unit)) + 1) * unit, 0) else if (2 * ((-(gu a.toNatClampNeg)) - (((-(gu a.toNatClampNeg)) / ((gd a.toNatClampNeg) * unit)) * ((gd a.toNatClampNeg) * unit)))) = ((gd a.toNatClampNeg) * unit) then if rule = 2 then ((((-(gu a.toNatClampNeg)) / ((gd a.toNatClampNeg) * unit)) + 1) * unit, 0) else if (((-(gu a.toNatClampNeg)) / ((gd a.toNatClampNeg) * unit)) - ((-(gu a.toNatClampNeg)) / ((gd a.toNatClampNeg) * unit)) / 2 * 2) = 1 then ((((-(gu a.toNatClampNeg)) / ((gd a.toNatClampNeg) * unit)) + 1) * unit, 0) else (((-(gu a.toNatClampNeg)) / ((gd a.toNatClampNeg) * unit)) * unit, 0) else (((-(gu a.toNatClampNeg)) / ((gd a.toNatClampNeg) * unit)) * unit, 0) else if rule = 0 then (((-(gu a.toNatClampNeg)) / ((gd a.toNatClampNeg) * unit)) * unit, 0) else ((((-(gu a.toNatClampNeg)) / ((gd a.toNatClampNeg) * unit)) + 1) * unit, 0) else if ((-(gu a.toNatClampNeg)) - (((-(gu a.toNatClampNeg)) / ((gd a.toNatClampNeg) * unit)) * ((gd a.toNatClampNeg) * unit))) ≤ 0 then (-(((-(gu a.toNatClampNeg)) / ((gd a.toNatClampNeg) * unit)) * unit), 0) else if 2 ≤ rule then if ((gd a.toNatClampNeg) * unit) < (2 * ((-(gu a.toNatClampNeg)) - (((-(gu a.toNatClampNeg)) / ((gd a.toNatClampNeg) * unit)) * ((gd a.toNatClampNeg) * unit)))) then (-((((-(gu a.toNatClampNeg)) / ((gd a.toNatClampNeg) * unit)) + 1) * unit), 0) else if (2 * ((-(gu a.toNatClampNeg)) - (((-(gu a.toNatClampNeg)) / ((gd a.toNatClampNeg) * unit)) * ((gd a.toNatClampNeg) * unit)))) = ((gd a.toNatClampNeg) * unit) then if rule = 2 then (-((((-(gu a.toNatClampNeg)) / ((gd a.toNatClampNeg) * unit)) + 1) * unit), 0) else if (((-(gu a.toNatClampNeg)) / ((gd a.toNatClampNeg) * unit)) - ((-(gu a.toNatClampNeg)) / ((gd a.toNatClampNeg) * unit)) / 2 * 2) = 1 then (-((((-(gu a.toNatClampNeg)) / ((gd a.toNatClampNeg) * unit)) + 1) * unit), 0) else (-(((-(gu a.toNatClampNeg)) / ((gd a.toNatClampNeg) * unit)) * unit), 0) else (-(((-(gu a.toNatClampNeg)) / ((gd a.toNatClampNeg) * unit)) * unit), 0) else if rule = 0 then (-((((-(gu a.toNatClampNeg)) / ((gd a.toNatClampNeg) * unit)) + 1) * unit), 0) else (-(((-(gu a.toNatClampNeg)) / ((gd a.toNatClampNeg) * unit)) * unit), 0) else ((-9223372036854775808), 0)
set_option maxHeartbeats 4000000 in
set_option maxRecDepth 100000 in
theorem c_mo_round (l : Launch) (dC : Nat → ClassId) (dI : Nat → Nat → Nat) (sz : Nat) (m0 : Nat) (mu : Nat) (md : Nat) (th : Int32) (mk : Int32) (mv : Int32) (up : Int64) (dn : Int64) (mr : Int32) (mc : Nat) (me : Nat) (so : Int32) (mau : Nat) (mad : Nat) (mw : Int32) (mwg : Nat) (mgv : Nat) (msq : Nat) (cmu : ClassId) (gu : Nat → Int64) (cmd : ClassId) (gd : Nat → Int64) (a : Int32) (rule : Int32) (unit : Int64) (hv : vp_in mv 301) (hby : ¬ f_mo_isValue mv a = 0 → ¬ unit < 1 → unit ≤ 1000000000 → ¬ (gd a.toNatClampNeg * unit) = 0) : Met l y_mo_round w_mo_round ({ frames := 1, cells := 0, slots := 0, locals := 21 }) (va_Pc [.ref m0, .int a, .int rule, .long unit] (fun U => U.heap.size = sz ∧ va_P (dC, dI) classes [(m0, .inr (4, [.int th, .int mk, .int mv, .ref mu, .ref md, .long up, .long dn, .int mr, .ref mc, .ref me, .int so, .ref mau, .ref mad, .int mw, .ref mwg, .ref mgv, .ref msq])), (mu, .inl (cmu, 300, .inr (.inl gu))), (md, .inl (cmd, 300, .inr (.inl gd)))] U.heap ∧ va_K (dC, dI) classes [(cmu, .long), (cmd, .long)] U ∧ va_D (fun _ => True) [(m0, .inr (4, [.int th, .int mk, .int mv, .ref mu, .ref md, .long up, .long dn, .int mr, .ref mc, .ref me, .int so, .ref mau, .ref mad, .int mw, .ref mwg, .ref mgv, .ref msq])), (mu, .inl (cmu, 300, .inr (.inl gu))), (md, .inl (cmd, 300, .inr (.inl gd)))])) (va_Ql (fun z9 u9 => (z9, u9) = f_mo_round mv gu gd a rule unit) (fun (u : Int32) t => match u with | th' => va_P (dC, dI) classes [(m0, .inr (4, [.int th', .int mk, .int mv, .ref mu, .ref md, .long up, .long dn, .int mr, .ref mc, .ref me, .int so, .ref mau, .ref mad, .int mw, .ref mwg, .ref mgv, .ref msq])), (mu, .inl (cmu, 300, .inr (.inl gu))), (md, .inl (cmd, 300, .inr (.inl gd)))] t.heap ∧ va_K (dC, dI) classes [(cmu, .long), (cmd, .long)] t ∧ va_D (va_A [(m0, .inr (4, [.int th, .int mk, .int mv, .ref mu, .ref md, .long up, .long dn, .int mr, .ref mc, .ref me, .int so, .ref mau, .ref mad, .int mw, .ref mwg, .ref mgv, .ref msq])), (mu, .inl (cmu, 300, .inr (.inl gu))), (md, .inl (cmd, 300, .inr (.inl gd)))] sz) [(m0, .inr (4, [.int th', .int mk, .int mv, .ref mu, .ref md, .long up, .long dn, .int mr, .ref mc, .ref me, .int so, .ref mau, .ref mad, .int mw, .ref mwg, .ref mgv, .ref msq])), (mu, .inl (cmu, 300, .inr (.inl gu))), (md, .inl (cmd, 300, .inr (.inl gd)))]) (va_A [(m0, .inr (4, [.int th, .int mk, .int mv, .ref mu, .ref md, .long up, .long dn, .int mr, .ref mc, .ref me, .int so, .ref mau, .ref mad, .int mw, .ref mwg, .ref mgv, .ref msq])), (mu, .inl (cmu, 300, .inr (.inl gu))), (md, .inl (cmd, 300, .inr (.inl gd)))] sz)) 0 0 (va_A [(m0, .inr (4, [.int th, .int mk, .int mv, .ref mu, .ref md, .long up, .long dn, .int mr, .ref mc, .ref me, .int so, .ref mau, .ref mad, .int mw, .ref mwg, .ref mgv, .ref msq])), (mu, .inl (cmu, 300, .inr (.inl gu))), (md, .inl (cmd, 300, .inr (.inl gd)))] sz) := by
  refine Met.ofW (cc := b_mo_round) (maxL := 17) (ret := (some .long)) (by decide +kernel) rfl ?_
  intro p e s m args below meth c s₁ B hml hv
  obtain ⟨rfl, hsz, hP, hK, hD0⟩ := hv
  have hx := B.exec
  have hb := B.bytes
  have hr := B.returns
  have hts := atoms_spec (ws := w_mo_round) B.pre
  have hT := fun (w : Cond) (h : w ∈ kt_T) => hts w (List.mem_cons_of_mem _ h)
  have hown : s.vm.findClass R_mo = some m.cls := findClass_of_methodNamed B.named
  have hlocks := B.notSynchronized
  subst hsz
  have hD := hD0.self (sz := s.heap.size)
  generalize hAe : va_A [(m0, .inr (4, [.int th, .int mk, .int mv, .ref mu, .ref md, .long up, .long dn, .int mr, .ref mc, .ref me, .int so, .ref mau, .ref mad, .int mw, .ref mwg, .ref mgv, .ref msq])), (mu, .inl (cmu, 300, .inr (.inl gu))), (md, .inl (cmd, 300, .inr (.inl gd)))] s.heap.size = A at hD ⊢
  have hA : ∀ q : Nat, s.heap.size ≤ q → A q := fun q h => by rw [← hAe]; exact Or.inr h
  have hS : va_S A s.heap s.heap [] := va_S.rf
  have hl := lv_entry ([.ref m0, .int a, .int rule, .long unit]) (n := 17) (Nat.le_of_ble_eq_true rfl)
  rw [lg_entry_eq]
  generalize (lg_sl ([.ref m0, .int a, .int rule, .long unit]) ++ List.replicate (17 - (lg_sl ([.ref m0, .int a, .int rule, .long unit])).length) Slot.unset).toArray = ls at hl ⊢
  have hl : lv_has ls 17 [(0, .ref m0), (1, .int a), (2, .int rule), (3, .long unit)] := hl
  refine lv_aload_n hx hb d_mo_round_0 rfl (lv_at hl 0 rfl) ?_
  refine lv_iconst (v := 0) hx hb d_mo_round_1 (by decide) ?_
  refine va_put (D := (dC, dI)) (ci := 4) (v := .int 0) (ty := .int) (C := R_mo) (T := F_mo) (N := 17) hx hb hT i_mo t_mo t_mo_ok n_mo hown hK hP hD hS 0 rfl rfl 0 (by decide) (hT _ k_127) (fun _ h9 => h9) rfl (by decide +kernel) rfl rfl (Nat.le_of_ble_eq_true rfl) d_mo_round_2 (fun H locs hP hD hS => ?_)
  have hP : va_P (dC, dI) classes [(m0, .inr (4, [.int 0, .int mk, .int mv, .ref mu, .ref md, .long up, .long dn, .int mr, .ref mc, .ref me, .int so, .ref mau, .ref mad, .int mw, .ref mwg, .ref mgv, .ref msq])), (mu, .inl (cmu, 300, .inr (.inl gu))), (md, .inl (cmd, 300, .inr (.inl gd)))] H := hP
  have hD : va_D A [(m0, .inr (4, [.int 0, .int mk, .int mv, .ref mu, .ref md, .long up, .long dn, .int mr, .ref mc, .ref me, .int so, .ref mau, .ref mad, .int mw, .ref mwg, .ref mgv, .ref msq])), (mu, .inl (cmu, 300, .inr (.inl gu))), (md, .inl (cmd, 300, .inr (.inl gd)))] := hD
  refine lv_aload_n hx hb d_mo_round_5 rfl (lv_at hl 0 rfl) ?_
  refine lv_iload_n hx hb d_mo_round_6 rfl (lv_at hl 1 rfl) ?_
  have hPc := hP.sub (ws' := [(m0, .inr (4, [.int 0, .int mk, .int mv, .ref mu, .ref md, .long up, .long dn, .int mr, .ref mc, .ref me, .int so, .ref mau, .ref mad, .int mw, .ref mwg, .ref mgv, .ref msq]))]) [0] rfl
  have hKc := hK.sub (tys' := []) [] rfl
  refine vp_callSi (W.runV (As := [.int a]) (rest := []) ⟨hx, hb, hml, hown, hT⟩ (c_mo_isValue l dC dI m0 0 mk mv mu md up dn mr mc me so mau mad mw mwg mgv msq a) (cwV 1 hT (kt_V k_152 k_150 k_151 k_136 k_149) rfl rfl rfl (by decide +kernel) ⟨Nat.le_of_ble_eq_true rfl, Nat.le_of_ble_eq_true rfl⟩) ⟨bl_R, va_recv hKc hPc (ci := 4) (q0 := 0) rfl rfl, fun U hU hW => ⟨rfl, by rw [hU]; exact hPc, va_K.moved hW.alike hKc⟩⟩ rfl rfl hl.1 rfl (lv_room (Nat.le_of_ble_eq_true rfl)) d_mo_round_7 ⟨Nat.zero_le _, Nat.zero_le _⟩) (fun r_1 e_r_1 => ?_)
  subst e_r_1
  refine lv_if_eq (tgt := 36) hx hb d_mo_round_10 (by decide) (fun c_2 => ?_) (fun c_2 => ?_)
  · refine lv_ldc2 (v := (-9223372036854775808)) hx hb hown (hT _ k_163) d_mo_round_36 ?_
    exact W.lret (v := (-9223372036854775808)) hx hb hr (fun t ht hW => ⟨⟨(-9223372036854775808), 0, rfl, by unfold f_mo_round; rw [if_pos c_2], by rw [ht]; exact hP, va_K.moved hW.alike hK, hD⟩, hS.F ht⟩) hS.2.2 d_mo_round_39
  · refine lv_iload_n hx hb d_mo_round_13 rfl (lv_at hl 2 rfl) ?_
    refine lv_if_lt (tgt := 36) hx hb d_mo_round_14 (by decide) (fun c_3 => ?_) (fun c_3 => ?_)
    · refine lv_ldc2 (v := (-9223372036854775808)) hx hb hown (hT _ k_163) d_mo_round_36 ?_
      exact W.lret (v := (-9223372036854775808)) hx hb hr (fun t ht hW => ⟨⟨(-9223372036854775808), 0, rfl, by unfold f_mo_round; rw [if_neg c_2, if_pos c_3], by rw [ht]; exact hP, va_K.moved hW.alike hK, hD⟩, hS.F ht⟩) hS.2.2 d_mo_round_39
    · refine lv_iload_n hx hb d_mo_round_17 rfl (lv_at hl 2 rfl) ?_
      refine lv_iconst (v := 3) hx hb d_mo_round_18 (by decide) ?_
      refine lv_icmp_gt (tgt := 36) hx hb d_mo_round_19 (by decide) (fun c_4 => ?_) (fun c_4 => ?_)
      · refine lv_ldc2 (v := (-9223372036854775808)) hx hb hown (hT _ k_163) d_mo_round_36 ?_
        exact W.lret (v := (-9223372036854775808)) hx hb hr (fun t ht hW => ⟨⟨(-9223372036854775808), 0, rfl, by unfold f_mo_round; rw [if_neg c_2, if_neg c_3, if_pos c_4], by rw [ht]; exact hP, va_K.moved hW.alike hK, hD⟩, hS.F ht⟩) hS.2.2 d_mo_round_39
      · refine lv_lload_n hx hb d_mo_round_22 rfl (lv_at hl 3 rfl) ?_
        refine lv_lconst (v := 1) hx hb d_mo_round_23 (by decide) ?_
        refine lx_iflt (tgt := 36) hx hb d_mo_round_24 d_mo_round_25 (by decide) (fun c_5 => ?_) (fun c_5 => ?_)
        · refine lv_ldc2 (v := (-9223372036854775808)) hx hb hown (hT _ k_163) d_mo_round_36 ?_
          exact W.lret (v := (-9223372036854775808)) hx hb hr (fun t ht hW => ⟨⟨(-9223372036854775808), 0, rfl, by unfold f_mo_round; rw [if_neg c_2, if_neg c_3, if_neg c_4, if_pos c_5], by rw [ht]; exact hP, va_K.moved hW.alike hK, hD⟩, hS.F ht⟩) hS.2.2 d_mo_round_39
        · refine lv_lload_n hx hb d_mo_round_28 rfl (lv_at hl 3 rfl) ?_
          refine lv_ldc2 (v := 1000000000) hx hb hown (hT _ k_132) d_mo_round_29 ?_
          refine lx_ifle (tgt := 40) hx hb d_mo_round_32 d_mo_round_33 (by decide) (fun c_6 => ?_) (fun c_6 => ?_)
          · refine lv_aload_n hx hb d_mo_round_40 rfl (lv_at hl 0 rfl) ?_
            refine va_get (D := (dC, dI)) (ci := 4) (v := .ref md) (C := R_mo) (T := F_mo) (N := 17) hx hb hT i_mo hown hK hP 0 rfl rfl 4 (by decide) (hT _ k_144) (fun _ h9 => h9) rfl d_mo_round_41 ?_
            refine lv_iload_n hx hb d_mo_round_44 rfl (lv_at hl 1 rfl) ?_
            refine va_lald hx hb hK hP 2 1 rfl rfl (in_iv hv c_2) d_mo_round_45 ?_
            refine lv_lload_n hx hb d_mo_round_46 rfl (lv_at hl 3 rfl) ?_
            refine lv_lmul hx hb d_mo_round_47 ?_
            refine lv_lstore (lv' := [(5, .long ((gd a.toNatClampNeg) * unit)), (0, .ref m0), (1, .int a), (2, .int rule), (3, .long unit)]) hx hb d_mo_round_48 hl (by decide) rfl (fun ls hl => ?_)
            refine lv_aload_n hx hb d_mo_round_50 rfl (lv_at hl 1 rfl) ?_
            refine va_get (D := (dC, dI)) (ci := 4) (v := .ref mu) (C := R_mo) (T := F_mo) (N := 17) hx hb hT i_mo hown hK hP 0 rfl rfl 3 (by decide) (hT _ k_143) (fun _ h9 => h9) rfl d_mo_round_51 ?_
            refine lv_iload_n hx hb d_mo_round_54 rfl (lv_at hl 2 rfl) ?_
            refine va_lald hx hb hK hP 1 0 rfl rfl (in_iv hv c_2) d_mo_round_55 ?_
            refine lv_lconst (v := 0) hx hb d_mo_round_56 (by decide) ?_
            refine lx_ifge (tgt := 71) hx hb d_mo_round_57 d_mo_round_58 (by decide) (fun c_7 => ?_) (fun c_7 => ?_)
            · refine lv_aload_n hx hb d_mo_round_71 rfl (lv_at hl 1 rfl) ?_
              refine va_get (D := (dC, dI)) (ci := 4) (v := .ref mu) (C := R_mo) (T := F_mo) (N := 17) hx hb hT i_mo hown hK hP 0 rfl rfl 3 (by decide) (hT _ k_143) (fun _ h9 => h9) rfl d_mo_round_72 ?_
              refine lv_iload_n hx hb d_mo_round_75 rfl (lv_at hl 2 rfl) ?_
              refine va_lald hx hb hK hP 1 0 rfl rfl (in_iv hv c_2) d_mo_round_76 ?_
              refine lv_lstore (lv' := [(7, .long (gu a.toNatClampNeg)), (5, .long ((gd a.toNatClampNeg) * unit)), (0, .ref m0), (1, .int a), (2, .int rule), (3, .long unit)]) hx hb d_mo_round_77 hl (by decide) rfl (fun ls hl => ?_)
              refine lv_aload_n hx hb d_mo_round_79 rfl (lv_at hl 2 rfl) ?_
              refine va_get (D := (dC, dI)) (ci := 4) (v := .ref mu) (C := R_mo) (T := F_mo) (N := 17) hx hb hT i_mo hown hK hP 0 rfl rfl 3 (by decide) (hT _ k_143) (fun _ h9 => h9) rfl d_mo_round_80 ?_
              refine lv_iload_n hx hb d_mo_round_83 rfl (lv_at hl 3 rfl) ?_
              refine va_lald hx hb hK hP 1 0 rfl rfl (in_iv hv c_2) d_mo_round_84 ?_
              refine lv_lconst (v := 0) hx hb d_mo_round_85 (by decide) ?_
              refine lx_ifge (tgt := 94) hx hb d_mo_round_86 d_mo_round_87 (by decide) (fun c_8 => ?_) (fun c_8 => ?_)
              · refine lv_iconst (v := 0) hx hb d_mo_round_94 (by decide) ?_
                refine lv_istore (lv' := [(9, .int 0), (7, .long (gu a.toNatClampNeg)), (5, .long ((gd a.toNatClampNeg) * unit)), (0, .ref m0), (1, .int a), (2, .int rule), (3, .long unit)]) hx hb d_mo_round_95 hl (by decide) rfl (fun ls hl => ?_)
                refine lv_lload hx hb d_mo_round_97 (lv_at hl 1 rfl) ?_
                refine lv_lload hx hb d_mo_round_99 (lv_at hl 2 rfl) ?_
                refine lv_ldiv hx hb d_mo_round_101 (hby c_2 c_5 c_6) ?_
                refine lv_lstore (lv' := [(10, .long ((gu a.toNatClampNeg) / ((gd a.toNatClampNeg) * unit))), (9, .int 0), (7, .long (gu a.toNatClampNeg)), (5, .long ((gd a.toNatClampNeg) * unit)), (0, .ref m0), (1, .int a), (2, .int rule), (3, .long unit)]) hx hb d_mo_round_102 hl (by decide) rfl (fun ls hl => ?_)
                refine lv_lload hx hb d_mo_round_104 (lv_at hl 2 rfl) ?_
                refine lv_lload hx hb d_mo_round_106 (lv_at hl 0 rfl) ?_
                refine lv_lload hx hb d_mo_round_108 (lv_at hl 3 rfl) ?_
                refine lv_lmul hx hb d_mo_round_110 ?_
                refine lv_lsub hx hb d_mo_round_111 ?_
                refine lv_lstore (lv' := [(12, .long ((gu a.toNatClampNeg) - (((gu a.toNatClampNeg) / ((gd a.toNatClampNeg) * unit)) * ((gd a.toNatClampNeg) * unit)))), (10, .long ((gu a.toNatClampNeg) / ((gd a.toNatClampNeg) * unit))), (9, .int 0), (7, .long (gu a.toNatClampNeg)), (5, .long ((gd a.toNatClampNeg) * unit)), (0, .ref m0), (1, .int a), (2, .int rule), (3, .long unit)]) hx hb d_mo_round_112 hl (by decide) rfl (fun ls hl => ?_)
                refine lv_iconst (v := 0) hx hb d_mo_round_114 (by decide) ?_
                refine lv_istore (lv' := [(14, .int 0), (12, .long ((gu a.toNatClampNeg) - (((gu a.toNatClampNeg) / ((gd a.toNatClampNeg) * unit)) * ((gd a.toNatClampNeg) * unit)))), (10, .long ((gu a.toNatClampNeg) / ((gd a.toNatClampNeg) * unit))), (9, .int 0), (7, .long (gu a.toNatClampNeg)), (5, .long ((gd a.toNatClampNeg) * unit)), (0, .ref m0), (1, .int a), (2, .int rule), (3, .long unit)]) hx hb d_mo_round_115 hl (by decide) rfl (fun ls hl => ?_)
                refine lv_lload hx hb d_mo_round_117 (lv_at hl 1 rfl) ?_
                refine lv_lconst (v := 0) hx hb d_mo_round_119 (by decide) ?_
                refine lx_ifle (tgt := 200) hx hb d_mo_round_120 d_mo_round_121 (by decide) (fun c_9 => ?_) (fun c_9 => ?_)
                · refine lv_iload hx hb d_mo_round_200 (lv_at hl 0 rfl) ?_
                  refine lv_if_eq (tgt := 212) hx hb d_mo_round_202 (by decide) (fun c_10 => ?_) (fun c_10 => ?_)
                  · refine lv_lload hx hb d_mo_round_212 (lv_at hl 2 rfl) ?_
                    refine lv_lload_n hx hb d_mo_round_214 rfl (lv_at hl 9 rfl) ?_
                    refine lv_lmul hx hb d_mo_round_215 ?_
                    refine lv_lstore (lv' := [(15, .long (((gu a.toNatClampNeg) / ((gd a.toNatClampNeg) * unit)) * unit)), (14, .int 0), (12, .long ((gu a.toNatClampNeg) - (((gu a.toNatClampNeg) / ((gd a.toNatClampNeg) * unit)) * ((gd a.toNatClampNeg) * unit)))), (10, .long ((gu a.toNatClampNeg) / ((gd a.toNatClampNeg) * unit))), (9, .int 0), (7, .long (gu a.toNatClampNeg)), (5, .long ((gd a.toNatClampNeg) * unit)), (0, .ref m0), (1, .int a), (2, .int rule), (3, .long unit)]) hx hb d_mo_round_216 hl (by decide) rfl (fun ls hl => ?_)
                    refine lv_iload hx hb d_mo_round_218 (lv_at hl 4 rfl) ?_
                    refine lv_if_eq (tgt := 229) hx hb d_mo_round_220 (by decide) (fun c_11 => ?_) (fun c_11 => ?_)
                    · refine lv_lload hx hb d_mo_round_229 (lv_at hl 0 rfl) ?_
                      exact W.lret (v := ((gu a.toNatClampNeg) / ((gd a.toNatClampNeg) * unit)) * unit) hx hb hr (fun t ht hW => ⟨⟨((gu a.toNatClampNeg) / ((gd a.toNatClampNeg) * unit)) * unit, 0, rfl, by unfold f_mo_round; rw [if_neg c_2, if_neg c_3, if_neg c_4, if_neg c_5, if_pos c_6, if_pos c_7, if_pos c_8, if_pos c_9], by rw [ht]; exact hP, va_K.moved hW.alike hK, hD⟩, hS.F ht⟩) hS.2.2 d_mo_round_231
                    · exact absurd c_11 (by decide)
                  · exact absurd c_10 (by decide)
                · refine lv_iload_n hx hb d_mo_round_124 rfl (lv_at hl 8 rfl) ?_
                  refine lv_iconst (v := 2) hx hb d_mo_round_125 (by decide) ?_
                  refine lv_icmp_ge (tgt := 153) hx hb d_mo_round_126 (by decide) (fun c_12 => ?_) (fun c_12 => ?_)
                  · refine lv_ldc2 (v := 2) hx hb hown (hT _ k_170) d_mo_round_153 ?_
                    refine lv_lload hx hb d_mo_round_156 (lv_at hl 1 rfl) ?_
                    refine lv_lmul hx hb d_mo_round_158 ?_
                    refine lv_lstore (lv' := [(15, .long (2 * ((gu a.toNatClampNeg) - (((gu a.toNatClampNeg) / ((gd a.toNatClampNeg) * unit)) * ((gd a.toNatClampNeg) * unit))))), (14, .int 0), (12, .long ((gu a.toNatClampNeg) - (((gu a.toNatClampNeg) / ((gd a.toNatClampNeg) * unit)) * ((gd a.toNatClampNeg) * unit)))), (10, .long ((gu a.toNatClampNeg) / ((gd a.toNatClampNeg) * unit))), (9, .int 0), (7, .long (gu a.toNatClampNeg)), (5, .long ((gd a.toNatClampNeg) * unit)), (0, .ref m0), (1, .int a), (2, .int rule), (3, .long unit)]) hx hb d_mo_round_159 hl (by decide) rfl (fun ls hl => ?_)
                    refine lv_lload hx hb d_mo_round_161 (lv_at hl 0 rfl) ?_
                    refine lv_lload hx hb d_mo_round_163 (lv_at hl 6 rfl) ?_
                    refine lx_ifgt (tgt := 193) hx hb d_mo_round_165 d_mo_round_166 (by decide) (fun c_13 => ?_) (fun c_13 => ?_)
                    · refine lv_iconst (v := 1) hx hb d_mo_round_193 (by decide) ?_
                      refine lv_goto (tgt := 198) hx hb d_mo_round_194 (by decide) ?_
                      refine lv_istore (lv' := [(14, .int 1), (15, .long (2 * ((gu a.toNatClampNeg) - (((gu a.toNatClampNeg) / ((gd a.toNatClampNeg) * unit)) * ((gd a.toNatClampNeg) * unit))))), (12, .long ((gu a.toNatClampNeg) - (((gu a.toNatClampNeg) / ((gd a.toNatClampNeg) * unit)) * ((gd a.toNatClampNeg) * unit)))), (10, .long ((gu a.toNatClampNeg) / ((gd a.toNatClampNeg) * unit))), (9, .int 0), (7, .long (gu a.toNatClampNeg)), (5, .long ((gd a.toNatClampNeg) * unit)), (0, .ref m0), (1, .int a), (2, .int rule), (3, .long unit)]) hx hb d_mo_round_198 hl (by decide) rfl (fun ls hl => ?_)
                      refine lv_iload hx hb d_mo_round_200 (lv_at hl 0 rfl) ?_
                      refine lv_if_eq (tgt := 212) hx hb d_mo_round_202 (by decide) (fun c_14 => ?_) (fun c_14 => ?_)
                      · exact absurd c_14 (by decide)
                      · refine lv_lload hx hb d_mo_round_205 (lv_at hl 3 rfl) ?_
                        refine lv_lconst (v := 1) hx hb d_mo_round_207 (by decide) ?_
                        refine lv_ladd hx hb d_mo_round_208 ?_
                        refine lv_goto (tgt := 214) hx hb d_mo_round_209 (by decide) ?_
                        refine lv_lload_n hx hb d_mo_round_214 rfl (lv_at hl 10 rfl) ?_
                        refine lv_lmul hx hb d_mo_round_215 ?_
                        refine lv_lstore (lv' := [(15, .long ((((gu a.toNatClampNeg) / ((gd a.toNatClampNeg) * unit)) + 1) * unit)), (14, .int 1), (12, .long ((gu a.toNatClampNeg) - (((gu a.toNatClampNeg) / ((gd a.toNatClampNeg) * unit)) * ((gd a.toNatClampNeg) * unit)))), (10, .long ((gu a.toNatClampNeg) / ((gd a.toNatClampNeg) * unit))), (9, .int 0), (7, .long (gu a.toNatClampNeg)), (5, .long ((gd a.toNatClampNeg) * unit)), (0, .ref m0), (1, .int a), (2, .int rule), (3, .long unit)]) hx hb d_mo_round_216 hl (by decide) rfl (fun ls hl => ?_)
                        refine lv_iload hx hb d_mo_round_218 (lv_at hl 4 rfl) ?_
                        refine lv_if_eq (tgt := 229) hx hb d_mo_round_220 (by decide) (fun c_15 => ?_) (fun c_15 => ?_)
                        · refine lv_lload hx hb d_mo_round_229 (lv_at hl 0 rfl) ?_
                          exact W.lret (v := (((gu a.toNatClampNeg) / ((gd a.toNatClampNeg) * unit)) + 1) * unit) hx hb hr (fun t ht hW => ⟨⟨(((gu a.toNatClampNeg) / ((gd a.toNatClampNeg) * unit)) + 1) * unit, 0, rfl, by unfold f_mo_round; rw [if_neg c_2, if_neg c_3, if_neg c_4, if_neg c_5, if_pos c_6, if_pos c_7, if_pos c_8, if_neg c_9, if_pos c_12, if_pos c_13], by rw [ht]; exact hP, va_K.moved hW.alike hK, hD⟩, hS.F ht⟩) hS.2.2 d_mo_round_231
                        · exact absurd c_15 (by decide)
                    · refine lv_lload hx hb d_mo_round_169 (lv_at hl 0 rfl) ?_
                      refine lv_lload hx hb d_mo_round_171 (lv_at hl 6 rfl) ?_
                      refine lx_ifne (tgt := 197) hx hb d_mo_round_173 d_mo_round_174 (by decide) (fun c_16 => ?_) (fun c_16 => ?_)
                      · refine lv_iconst (v := 0) hx hb d_mo_round_197 (by decide) ?_
                        refine lv_istore (lv' := [(14, .int 0), (15, .long (2 * ((gu a.toNatClampNeg) - (((gu a.toNatClampNeg) / ((gd a.toNatClampNeg) * unit)) * ((gd a.toNatClampNeg) * unit))))), (12, .long ((gu a.toNatClampNeg) - (((gu a.toNatClampNeg) / ((gd a.toNatClampNeg) * unit)) * ((gd a.toNatClampNeg) * unit)))), (10, .long ((gu a.toNatClampNeg) / ((gd a.toNatClampNeg) * unit))), (9, .int 0), (7, .long (gu a.toNatClampNeg)), (5, .long ((gd a.toNatClampNeg) * unit)), (0, .ref m0), (1, .int a), (2, .int rule), (3, .long unit)]) hx hb d_mo_round_198 hl (by decide) rfl (fun ls hl => ?_)
                        refine lv_iload hx hb d_mo_round_200 (lv_at hl 0 rfl) ?_
                        refine lv_if_eq (tgt := 212) hx hb d_mo_round_202 (by decide) (fun c_17 => ?_) (fun c_17 => ?_)
                        · refine lv_lload hx hb d_mo_round_212 (lv_at hl 3 rfl) ?_
                          refine lv_lload_n hx hb d_mo_round_214 rfl (lv_at hl 10 rfl) ?_
                          refine lv_lmul hx hb d_mo_round_215 ?_
                          refine lv_lstore (lv' := [(15, .long (((gu a.toNatClampNeg) / ((gd a.toNatClampNeg) * unit)) * unit)), (14, .int 0), (12, .long ((gu a.toNatClampNeg) - (((gu a.toNatClampNeg) / ((gd a.toNatClampNeg) * unit)) * ((gd a.toNatClampNeg) * unit)))), (10, .long ((gu a.toNatClampNeg) / ((gd a.toNatClampNeg) * unit))), (9, .int 0), (7, .long (gu a.toNatClampNeg)), (5, .long ((gd a.toNatClampNeg) * unit)), (0, .ref m0), (1, .int a), (2, .int rule), (3, .long unit)]) hx hb d_mo_round_216 hl (by decide) rfl (fun ls hl => ?_)
                          refine lv_iload hx hb d_mo_round_218 (lv_at hl 4 rfl) ?_
                          refine lv_if_eq (tgt := 229) hx hb d_mo_round_220 (by decide) (fun c_18 => ?_) (fun c_18 => ?_)
                          · refine lv_lload hx hb d_mo_round_229 (lv_at hl 0 rfl) ?_
                            exact W.lret (v := ((gu a.toNatClampNeg) / ((gd a.toNatClampNeg) * unit)) * unit) hx hb hr (fun t ht hW => ⟨⟨((gu a.toNatClampNeg) / ((gd a.toNatClampNeg) * unit)) * unit, 0, rfl, by unfold f_mo_round; rw [if_neg c_2, if_neg c_3, if_neg c_4, if_neg c_5, if_pos c_6, if_pos c_7, if_pos c_8, if_neg c_9, if_pos c_12, if_neg c_13, if_neg c_16], by rw [ht]; exact hP, va_K.moved hW.alike hK, hD⟩, hS.F ht⟩) hS.2.2 d_mo_round_231
                          · exact absurd c_18 (by decide)
                        · exact absurd c_17 (by decide)
                      · refine lv_iload_n hx hb d_mo_round_177 rfl (lv_at hl 9 rfl) ?_
                        refine lv_iconst (v := 2) hx hb d_mo_round_178 (by decide) ?_
                        refine lv_icmp_eq (tgt := 193) hx hb d_mo_round_179 (by decide) (fun c_19 => ?_) (fun c_19 => ?_)
                        · refine lv_iconst (v := 1) hx hb d_mo_round_193 (by decide) ?_
                          refine lv_goto (tgt := 198) hx hb d_mo_round_194 (by decide) ?_
                          refine lv_istore (lv' := [(14, .int 1), (15, .long (2 * ((gu a.toNatClampNeg) - (((gu a.toNatClampNeg) / ((gd a.toNatClampNeg) * unit)) * ((gd a.toNatClampNeg) * unit))))), (12, .long ((gu a.toNatClampNeg) - (((gu a.toNatClampNeg) / ((gd a.toNatClampNeg) * unit)) * ((gd a.toNatClampNeg) * unit)))), (10, .long ((gu a.toNatClampNeg) / ((gd a.toNatClampNeg) * unit))), (9, .int 0), (7, .long (gu a.toNatClampNeg)), (5, .long ((gd a.toNatClampNeg) * unit)), (0, .ref m0), (1, .int a), (2, .int rule), (3, .long unit)]) hx hb d_mo_round_198 hl (by decide) rfl (fun ls hl => ?_)
                          refine lv_iload hx hb d_mo_round_200 (lv_at hl 0 rfl) ?_
                          refine lv_if_eq (tgt := 212) hx hb d_mo_round_202 (by decide) (fun c_20 => ?_) (fun c_20 => ?_)
                          · exact absurd c_20 (by decide)
                          · refine lv_lload hx hb d_mo_round_205 (lv_at hl 3 rfl) ?_
                            refine lv_lconst (v := 1) hx hb d_mo_round_207 (by decide) ?_
                            refine lv_ladd hx hb d_mo_round_208 ?_
                            refine lv_goto (tgt := 214) hx hb d_mo_round_209 (by decide) ?_
                            refine lv_lload_n hx hb d_mo_round_214 rfl (lv_at hl 10 rfl) ?_
                            refine lv_lmul hx hb d_mo_round_215 ?_
                            refine lv_lstore (lv' := [(15, .long ((((gu a.toNatClampNeg) / ((gd a.toNatClampNeg) * unit)) + 1) * unit)), (14, .int 1), (12, .long ((gu a.toNatClampNeg) - (((gu a.toNatClampNeg) / ((gd a.toNatClampNeg) * unit)) * ((gd a.toNatClampNeg) * unit)))), (10, .long ((gu a.toNatClampNeg) / ((gd a.toNatClampNeg) * unit))), (9, .int 0), (7, .long (gu a.toNatClampNeg)), (5, .long ((gd a.toNatClampNeg) * unit)), (0, .ref m0), (1, .int a), (2, .int rule), (3, .long unit)]) hx hb d_mo_round_216 hl (by decide) rfl (fun ls hl => ?_)
                            refine lv_iload hx hb d_mo_round_218 (lv_at hl 4 rfl) ?_
                            refine lv_if_eq (tgt := 229) hx hb d_mo_round_220 (by decide) (fun c_21 => ?_) (fun c_21 => ?_)
                            · refine lv_lload hx hb d_mo_round_229 (lv_at hl 0 rfl) ?_
                              exact W.lret (v := (((gu a.toNatClampNeg) / ((gd a.toNatClampNeg) * unit)) + 1) * unit) hx hb hr (fun t ht hW => ⟨⟨(((gu a.toNatClampNeg) / ((gd a.toNatClampNeg) * unit)) + 1) * unit, 0, rfl, by unfold f_mo_round; rw [if_neg c_2, if_neg c_3, if_neg c_4, if_neg c_5, if_pos c_6, if_pos c_7, if_pos c_8, if_neg c_9, if_pos c_12, if_neg c_13, if_pos c_16, if_pos c_19], by rw [ht]; exact hP, va_K.moved hW.alike hK, hD⟩, hS.F ht⟩) hS.2.2 d_mo_round_231
                            · exact absurd c_21 (by decide)
                        · refine lv_lload hx hb d_mo_round_182 (lv_at hl 3 rfl) ?_
                          refine lv_ldc2 (v := 2) hx hb hown (hT _ k_170) d_mo_round_184 ?_
                          refine lv_lrem hx hb d_mo_round_187 (by decide) ?_
                          refine lv_lconst (v := 1) hx hb d_mo_round_188 (by decide) ?_
                          refine lx_ifne (tgt := 197) hx hb d_mo_round_189 d_mo_round_190 (by decide) (fun c_22 => ?_) (fun c_22 => ?_)
                          · refine lv_iconst (v := 0) hx hb d_mo_round_197 (by decide) ?_
                            refine lv_istore (lv' := [(14, .int 0), (15, .long (2 * ((gu a.toNatClampNeg) - (((gu a.toNatClampNeg) / ((gd a.toNatClampNeg) * unit)) * ((gd a.toNatClampNeg) * unit))))), (12, .long ((gu a.toNatClampNeg) - (((gu a.toNatClampNeg) / ((gd a.toNatClampNeg) * unit)) * ((gd a.toNatClampNeg) * unit)))), (10, .long ((gu a.toNatClampNeg) / ((gd a.toNatClampNeg) * unit))), (9, .int 0), (7, .long (gu a.toNatClampNeg)), (5, .long ((gd a.toNatClampNeg) * unit)), (0, .ref m0), (1, .int a), (2, .int rule), (3, .long unit)]) hx hb d_mo_round_198 hl (by decide) rfl (fun ls hl => ?_)
                            refine lv_iload hx hb d_mo_round_200 (lv_at hl 0 rfl) ?_
                            refine lv_if_eq (tgt := 212) hx hb d_mo_round_202 (by decide) (fun c_23 => ?_) (fun c_23 => ?_)
                            · refine lv_lload hx hb d_mo_round_212 (lv_at hl 3 rfl) ?_
                              refine lv_lload_n hx hb d_mo_round_214 rfl (lv_at hl 10 rfl) ?_
                              refine lv_lmul hx hb d_mo_round_215 ?_
                              refine lv_lstore (lv' := [(15, .long (((gu a.toNatClampNeg) / ((gd a.toNatClampNeg) * unit)) * unit)), (14, .int 0), (12, .long ((gu a.toNatClampNeg) - (((gu a.toNatClampNeg) / ((gd a.toNatClampNeg) * unit)) * ((gd a.toNatClampNeg) * unit)))), (10, .long ((gu a.toNatClampNeg) / ((gd a.toNatClampNeg) * unit))), (9, .int 0), (7, .long (gu a.toNatClampNeg)), (5, .long ((gd a.toNatClampNeg) * unit)), (0, .ref m0), (1, .int a), (2, .int rule), (3, .long unit)]) hx hb d_mo_round_216 hl (by decide) rfl (fun ls hl => ?_)
                              refine lv_iload hx hb d_mo_round_218 (lv_at hl 4 rfl) ?_
                              refine lv_if_eq (tgt := 229) hx hb d_mo_round_220 (by decide) (fun c_24 => ?_) (fun c_24 => ?_)
                              · refine lv_lload hx hb d_mo_round_229 (lv_at hl 0 rfl) ?_
                                exact W.lret (v := ((gu a.toNatClampNeg) / ((gd a.toNatClampNeg) * unit)) * unit) hx hb hr (fun t ht hW => ⟨⟨((gu a.toNatClampNeg) / ((gd a.toNatClampNeg) * unit)) * unit, 0, rfl, by unfold f_mo_round; rw [if_neg c_2, if_neg c_3, if_neg c_4, if_neg c_5, if_pos c_6, if_pos c_7, if_pos c_8, if_neg c_9, if_pos c_12, if_neg c_13, if_pos c_16, if_neg c_19, if_neg c_22], by rw [ht]; exact hP, va_K.moved hW.alike hK, hD⟩, hS.F ht⟩) hS.2.2 d_mo_round_231
                              · exact absurd c_24 (by decide)
                            · exact absurd c_23 (by decide)
                          · refine lv_iconst (v := 1) hx hb d_mo_round_193 (by decide) ?_
                            refine lv_goto (tgt := 198) hx hb d_mo_round_194 (by decide) ?_
                            refine lv_istore (lv' := [(14, .int 1), (15, .long (2 * ((gu a.toNatClampNeg) - (((gu a.toNatClampNeg) / ((gd a.toNatClampNeg) * unit)) * ((gd a.toNatClampNeg) * unit))))), (12, .long ((gu a.toNatClampNeg) - (((gu a.toNatClampNeg) / ((gd a.toNatClampNeg) * unit)) * ((gd a.toNatClampNeg) * unit)))), (10, .long ((gu a.toNatClampNeg) / ((gd a.toNatClampNeg) * unit))), (9, .int 0), (7, .long (gu a.toNatClampNeg)), (5, .long ((gd a.toNatClampNeg) * unit)), (0, .ref m0), (1, .int a), (2, .int rule), (3, .long unit)]) hx hb d_mo_round_198 hl (by decide) rfl (fun ls hl => ?_)
                            refine lv_iload hx hb d_mo_round_200 (lv_at hl 0 rfl) ?_
                            refine lv_if_eq (tgt := 212) hx hb d_mo_round_202 (by decide) (fun c_25 => ?_) (fun c_25 => ?_)
                            · exact absurd c_25 (by decide)
                            · refine lv_lload hx hb d_mo_round_205 (lv_at hl 3 rfl) ?_
                              refine lv_lconst (v := 1) hx hb d_mo_round_207 (by decide) ?_
                              refine lv_ladd hx hb d_mo_round_208 ?_
                              refine lv_goto (tgt := 214) hx hb d_mo_round_209 (by decide) ?_
                              refine lv_lload_n hx hb d_mo_round_214 rfl (lv_at hl 10 rfl) ?_
                              refine lv_lmul hx hb d_mo_round_215 ?_
                              refine lv_lstore (lv' := [(15, .long ((((gu a.toNatClampNeg) / ((gd a.toNatClampNeg) * unit)) + 1) * unit)), (14, .int 1), (12, .long ((gu a.toNatClampNeg) - (((gu a.toNatClampNeg) / ((gd a.toNatClampNeg) * unit)) * ((gd a.toNatClampNeg) * unit)))), (10, .long ((gu a.toNatClampNeg) / ((gd a.toNatClampNeg) * unit))), (9, .int 0), (7, .long (gu a.toNatClampNeg)), (5, .long ((gd a.toNatClampNeg) * unit)), (0, .ref m0), (1, .int a), (2, .int rule), (3, .long unit)]) hx hb d_mo_round_216 hl (by decide) rfl (fun ls hl => ?_)
                              refine lv_iload hx hb d_mo_round_218 (lv_at hl 4 rfl) ?_
                              refine lv_if_eq (tgt := 229) hx hb d_mo_round_220 (by decide) (fun c_26 => ?_) (fun c_26 => ?_)
                              · refine lv_lload hx hb d_mo_round_229 (lv_at hl 0 rfl) ?_
                                exact W.lret (v := (((gu a.toNatClampNeg) / ((gd a.toNatClampNeg) * unit)) + 1) * unit) hx hb hr (fun t ht hW => ⟨⟨(((gu a.toNatClampNeg) / ((gd a.toNatClampNeg) * unit)) + 1) * unit, 0, rfl, by unfold f_mo_round; rw [if_neg c_2, if_neg c_3, if_neg c_4, if_neg c_5, if_pos c_6, if_pos c_7, if_pos c_8, if_neg c_9, if_pos c_12, if_neg c_13, if_pos c_16, if_neg c_19, if_pos c_22], by rw [ht]; exact hP, va_K.moved hW.alike hK, hD⟩, hS.F ht⟩) hS.2.2 d_mo_round_231
                              · exact absurd c_26 (by decide)
                  · refine lv_iload_n hx hb d_mo_round_129 rfl (lv_at hl 8 rfl) ?_
                    refine lv_if_ne (tgt := 137) hx hb d_mo_round_130 (by decide) (fun c_27 => ?_) (fun c_27 => ?_)
                    · refine lv_iconst (v := 0) hx hb d_mo_round_137 (by decide) ?_
                      refine lv_iload hx hb d_mo_round_138 (lv_at hl 3 rfl) ?_
                      refine lv_icmp_ne (tgt := 147) hx hb d_mo_round_140 (by decide) (fun c_28 => ?_) (fun c_28 => ?_)
                      · exact absurd c_28 (by decide)
                      · refine lv_iconst (v := 1) hx hb d_mo_round_143 (by decide) ?_
                        refine lv_goto (tgt := 148) hx hb d_mo_round_144 (by decide) ?_
                        refine lv_istore (lv' := [(14, .int 1), (12, .long ((gu a.toNatClampNeg) - (((gu a.toNatClampNeg) / ((gd a.toNatClampNeg) * unit)) * ((gd a.toNatClampNeg) * unit)))), (10, .long ((gu a.toNatClampNeg) / ((gd a.toNatClampNeg) * unit))), (9, .int 0), (7, .long (gu a.toNatClampNeg)), (5, .long ((gd a.toNatClampNeg) * unit)), (0, .ref m0), (1, .int a), (2, .int rule), (3, .long unit)]) hx hb d_mo_round_148 hl (by decide) rfl (fun ls hl => ?_)
                        refine lv_goto (tgt := 200) hx hb d_mo_round_150 (by decide) ?_
                        refine lv_iload hx hb d_mo_round_200 (lv_at hl 0 rfl) ?_
                        refine lv_if_eq (tgt := 212) hx hb d_mo_round_202 (by decide) (fun c_29 => ?_) (fun c_29 => ?_)
                        · exact absurd c_29 (by decide)
                        · refine lv_lload hx hb d_mo_round_205 (lv_at hl 2 rfl) ?_
                          refine lv_lconst (v := 1) hx hb d_mo_round_207 (by decide) ?_
                          refine lv_ladd hx hb d_mo_round_208 ?_
                          refine lv_goto (tgt := 214) hx hb d_mo_round_209 (by decide) ?_
                          refine lv_lload_n hx hb d_mo_round_214 rfl (lv_at hl 9 rfl) ?_
                          refine lv_lmul hx hb d_mo_round_215 ?_
                          refine lv_lstore (lv' := [(15, .long ((((gu a.toNatClampNeg) / ((gd a.toNatClampNeg) * unit)) + 1) * unit)), (14, .int 1), (12, .long ((gu a.toNatClampNeg) - (((gu a.toNatClampNeg) / ((gd a.toNatClampNeg) * unit)) * ((gd a.toNatClampNeg) * unit)))), (10, .long ((gu a.toNatClampNeg) / ((gd a.toNatClampNeg) * unit))), (9, .int 0), (7, .long (gu a.toNatClampNeg)), (5, .long ((gd a.toNatClampNeg) * unit)), (0, .ref m0), (1, .int a), (2, .int rule), (3, .long unit)]) hx hb d_mo_round_216 hl (by decide) rfl (fun ls hl => ?_)
                          refine lv_iload hx hb d_mo_round_218 (lv_at hl 4 rfl) ?_
                          refine lv_if_eq (tgt := 229) hx hb d_mo_round_220 (by decide) (fun c_30 => ?_) (fun c_30 => ?_)
                          · refine lv_lload hx hb d_mo_round_229 (lv_at hl 0 rfl) ?_
                            exact W.lret (v := (((gu a.toNatClampNeg) / ((gd a.toNatClampNeg) * unit)) + 1) * unit) hx hb hr (fun t ht hW => ⟨⟨(((gu a.toNatClampNeg) / ((gd a.toNatClampNeg) * unit)) + 1) * unit, 0, rfl, by unfold f_mo_round; rw [if_neg c_2, if_neg c_3, if_neg c_4, if_neg c_5, if_pos c_6, if_pos c_7, if_pos c_8, if_neg c_9, if_neg c_12, if_neg c_27], by rw [ht]; exact hP, va_K.moved hW.alike hK, hD⟩, hS.F ht⟩) hS.2.2 d_mo_round_231
                          · exact absurd c_30 (by decide)
                    · refine lv_iconst (v := 1) hx hb d_mo_round_133 (by decide) ?_
                      refine lv_goto (tgt := 138) hx hb d_mo_round_134 (by decide) ?_
                      refine lv_iload hx hb d_mo_round_138 (lv_at hl 3 rfl) ?_
                      refine lv_icmp_ne (tgt := 147) hx hb d_mo_round_140 (by decide) (fun c_31 => ?_) (fun c_31 => ?_)
                      · refine lv_iconst (v := 0) hx hb d_mo_round_147 (by decide) ?_
                        refine lv_istore (lv' := [(14, .int 0), (12, .long ((gu a.toNatClampNeg) - (((gu a.toNatClampNeg) / ((gd a.toNatClampNeg) * unit)) * ((gd a.toNatClampNeg) * unit)))), (10, .long ((gu a.toNatClampNeg) / ((gd a.toNatClampNeg) * unit))), (9, .int 0), (7, .long (gu a.toNatClampNeg)), (5, .long ((gd a.toNatClampNeg) * unit)), (0, .ref m0), (1, .int a), (2, .int rule), (3, .long unit)]) hx hb d_mo_round_148 hl (by decide) rfl (fun ls hl => ?_)
                        refine lv_goto (tgt := 200) hx hb d_mo_round_150 (by decide) ?_
                        refine lv_iload hx hb d_mo_round_200 (lv_at hl 0 rfl) ?_
                        refine lv_if_eq (tgt := 212) hx hb d_mo_round_202 (by decide) (fun c_32 => ?_) (fun c_32 => ?_)
                        · refine lv_lload hx hb d_mo_round_212 (lv_at hl 2 rfl) ?_
                          refine lv_lload_n hx hb d_mo_round_214 rfl (lv_at hl 9 rfl) ?_
                          refine lv_lmul hx hb d_mo_round_215 ?_
                          refine lv_lstore (lv' := [(15, .long (((gu a.toNatClampNeg) / ((gd a.toNatClampNeg) * unit)) * unit)), (14, .int 0), (12, .long ((gu a.toNatClampNeg) - (((gu a.toNatClampNeg) / ((gd a.toNatClampNeg) * unit)) * ((gd a.toNatClampNeg) * unit)))), (10, .long ((gu a.toNatClampNeg) / ((gd a.toNatClampNeg) * unit))), (9, .int 0), (7, .long (gu a.toNatClampNeg)), (5, .long ((gd a.toNatClampNeg) * unit)), (0, .ref m0), (1, .int a), (2, .int rule), (3, .long unit)]) hx hb d_mo_round_216 hl (by decide) rfl (fun ls hl => ?_)
                          refine lv_iload hx hb d_mo_round_218 (lv_at hl 4 rfl) ?_
                          refine lv_if_eq (tgt := 229) hx hb d_mo_round_220 (by decide) (fun c_33 => ?_) (fun c_33 => ?_)
                          · refine lv_lload hx hb d_mo_round_229 (lv_at hl 0 rfl) ?_
                            exact W.lret (v := ((gu a.toNatClampNeg) / ((gd a.toNatClampNeg) * unit)) * unit) hx hb hr (fun t ht hW => ⟨⟨((gu a.toNatClampNeg) / ((gd a.toNatClampNeg) * unit)) * unit, 0, rfl, by unfold f_mo_round; rw [if_neg c_2, if_neg c_3, if_neg c_4, if_neg c_5, if_pos c_6, if_pos c_7, if_pos c_8, if_neg c_9, if_neg c_12, if_pos c_27], by rw [ht]; exact hP, va_K.moved hW.alike hK, hD⟩, hS.F ht⟩) hS.2.2 d_mo_round_231
                          · exact absurd c_33 (by decide)
                        · exact absurd c_32 (by decide)
                      · exact absurd c_31 (by decide)
              · refine lv_iconst (v := 1) hx hb d_mo_round_90 (by decide) ?_
                refine lv_goto (tgt := 95) hx hb d_mo_round_91 (by decide) ?_
                refine lv_istore (lv' := [(9, .int 1), (7, .long (gu a.toNatClampNeg)), (5, .long ((gd a.toNatClampNeg) * unit)), (0, .ref m0), (1, .int a), (2, .int rule), (3, .long unit)]) hx hb d_mo_round_95 hl (by decide) rfl (fun ls hl => ?_)
                refine lv_lload hx hb d_mo_round_97 (lv_at hl 1 rfl) ?_
                refine lv_lload hx hb d_mo_round_99 (lv_at hl 2 rfl) ?_
                refine lv_ldiv hx hb d_mo_round_101 (hby c_2 c_5 c_6) ?_
                refine lv_lstore (lv' := [(10, .long ((gu a.toNatClampNeg) / ((gd a.toNatClampNeg) * unit))), (9, .int 1), (7, .long (gu a.toNatClampNeg)), (5, .long ((gd a.toNatClampNeg) * unit)), (0, .ref m0), (1, .int a), (2, .int rule), (3, .long unit)]) hx hb d_mo_round_102 hl (by decide) rfl (fun ls hl => ?_)
                refine lv_lload hx hb d_mo_round_104 (lv_at hl 2 rfl) ?_
                refine lv_lload hx hb d_mo_round_106 (lv_at hl 0 rfl) ?_
                refine lv_lload hx hb d_mo_round_108 (lv_at hl 3 rfl) ?_
                refine lv_lmul hx hb d_mo_round_110 ?_
                refine lv_lsub hx hb d_mo_round_111 ?_
                refine lv_lstore (lv' := [(12, .long ((gu a.toNatClampNeg) - (((gu a.toNatClampNeg) / ((gd a.toNatClampNeg) * unit)) * ((gd a.toNatClampNeg) * unit)))), (10, .long ((gu a.toNatClampNeg) / ((gd a.toNatClampNeg) * unit))), (9, .int 1), (7, .long (gu a.toNatClampNeg)), (5, .long ((gd a.toNatClampNeg) * unit)), (0, .ref m0), (1, .int a), (2, .int rule), (3, .long unit)]) hx hb d_mo_round_112 hl (by decide) rfl (fun ls hl => ?_)
                refine lv_iconst (v := 0) hx hb d_mo_round_114 (by decide) ?_
                refine lv_istore (lv' := [(14, .int 0), (12, .long ((gu a.toNatClampNeg) - (((gu a.toNatClampNeg) / ((gd a.toNatClampNeg) * unit)) * ((gd a.toNatClampNeg) * unit)))), (10, .long ((gu a.toNatClampNeg) / ((gd a.toNatClampNeg) * unit))), (9, .int 1), (7, .long (gu a.toNatClampNeg)), (5, .long ((gd a.toNatClampNeg) * unit)), (0, .ref m0), (1, .int a), (2, .int rule), (3, .long unit)]) hx hb d_mo_round_115 hl (by decide) rfl (fun ls hl => ?_)
                refine lv_lload hx hb d_mo_round_117 (lv_at hl 1 rfl) ?_
                refine lv_lconst (v := 0) hx hb d_mo_round_119 (by decide) ?_
                refine lx_ifle (tgt := 200) hx hb d_mo_round_120 d_mo_round_121 (by decide) (fun c_34 => ?_) (fun c_34 => ?_)
                · refine lv_iload hx hb d_mo_round_200 (lv_at hl 0 rfl) ?_
                  refine lv_if_eq (tgt := 212) hx hb d_mo_round_202 (by decide) (fun c_35 => ?_) (fun c_35 => ?_)
                  · refine lv_lload hx hb d_mo_round_212 (lv_at hl 2 rfl) ?_
                    refine lv_lload_n hx hb d_mo_round_214 rfl (lv_at hl 9 rfl) ?_
                    refine lv_lmul hx hb d_mo_round_215 ?_
                    refine lv_lstore (lv' := [(15, .long (((gu a.toNatClampNeg) / ((gd a.toNatClampNeg) * unit)) * unit)), (14, .int 0), (12, .long ((gu a.toNatClampNeg) - (((gu a.toNatClampNeg) / ((gd a.toNatClampNeg) * unit)) * ((gd a.toNatClampNeg) * unit)))), (10, .long ((gu a.toNatClampNeg) / ((gd a.toNatClampNeg) * unit))), (9, .int 1), (7, .long (gu a.toNatClampNeg)), (5, .long ((gd a.toNatClampNeg) * unit)), (0, .ref m0), (1, .int a), (2, .int rule), (3, .long unit)]) hx hb d_mo_round_216 hl (by decide) rfl (fun ls hl => ?_)
                    refine lv_iload hx hb d_mo_round_218 (lv_at hl 4 rfl) ?_
                    refine lv_if_eq (tgt := 229) hx hb d_mo_round_220 (by decide) (fun c_36 => ?_) (fun c_36 => ?_)
                    · exact absurd c_36 (by decide)
                    · refine lv_lload hx hb d_mo_round_223 (lv_at hl 0 rfl) ?_
                      refine lv_lneg hx hb d_mo_round_225 ?_
                      refine lv_goto (tgt := 231) hx hb d_mo_round_226 (by decide) ?_
                      exact W.lret (v := -(((gu a.toNatClampNeg) / ((gd a.toNatClampNeg) * unit)) * unit)) hx hb hr (fun t ht hW => ⟨⟨-(((gu a.toNatClampNeg) / ((gd a.toNatClampNeg) * unit)) * unit), 0, rfl, by unfold f_mo_round; rw [if_neg c_2, if_neg c_3, if_neg c_4, if_neg c_5, if_pos c_6, if_pos c_7, if_neg c_8, if_pos c_34], by rw [ht]; exact hP, va_K.moved hW.alike hK, hD⟩, hS.F ht⟩) hS.2.2 d_mo_round_231
                  · exact absurd c_35 (by decide)
                · refine lv_iload_n hx hb d_mo_round_124 rfl (lv_at hl 8 rfl) ?_
                  refine lv_iconst (v := 2) hx hb d_mo_round_125 (by decide) ?_
                  refine lv_icmp_ge (tgt := 153) hx hb d_mo_round_126 (by decide) (fun c_37 => ?_) (fun c_37 => ?_)
                  · refine lv_ldc2 (v := 2) hx hb hown (hT _ k_170) d_mo_round_153 ?_
                    refine lv_lload hx hb d_mo_round_156 (lv_at hl 1 rfl) ?_
                    refine lv_lmul hx hb d_mo_round_158 ?_
                    refine lv_lstore (lv' := [(15, .long (2 * ((gu a.toNatClampNeg) - (((gu a.toNatClampNeg) / ((gd a.toNatClampNeg) * unit)) * ((gd a.toNatClampNeg) * unit))))), (14, .int 0), (12, .long ((gu a.toNatClampNeg) - (((gu a.toNatClampNeg) / ((gd a.toNatClampNeg) * unit)) * ((gd a.toNatClampNeg) * unit)))), (10, .long ((gu a.toNatClampNeg) / ((gd a.toNatClampNeg) * unit))), (9, .int 1), (7, .long (gu a.toNatClampNeg)), (5, .long ((gd a.toNatClampNeg) * unit)), (0, .ref m0), (1, .int a), (2, .int rule), (3, .long unit)]) hx hb d_mo_round_159 hl (by decide) rfl (fun ls hl => ?_)
                    refine lv_lload hx hb d_mo_round_161 (lv_at hl 0 rfl) ?_
                    refine lv_lload hx hb d_mo_round_163 (lv_at hl 6 rfl) ?_
                    refine lx_ifgt (tgt := 193) hx hb d_mo_round_165 d_mo_round_166 (by decide) (fun c_38 => ?_) (fun c_38 => ?_)
                    · refine lv_iconst (v := 1) hx hb d_mo_round_193 (by decide) ?_
                      refine lv_goto (tgt := 198) hx hb d_mo_round_194 (by decide) ?_
                      refine lv_istore (lv' := [(14, .int 1), (15, .long (2 * ((gu a.toNatClampNeg) - (((gu a.toNatClampNeg) / ((gd a.toNatClampNeg) * unit)) * ((gd a.toNatClampNeg) * unit))))), (12, .long ((gu a.toNatClampNeg) - (((gu a.toNatClampNeg) / ((gd a.toNatClampNeg) * unit)) * ((gd a.toNatClampNeg) * unit)))), (10, .long ((gu a.toNatClampNeg) / ((gd a.toNatClampNeg) * unit))), (9, .int 1), (7, .long (gu a.toNatClampNeg)), (5, .long ((gd a.toNatClampNeg) * unit)), (0, .ref m0), (1, .int a), (2, .int rule), (3, .long unit)]) hx hb d_mo_round_198 hl (by decide) rfl (fun ls hl => ?_)
                      refine lv_iload hx hb d_mo_round_200 (lv_at hl 0 rfl) ?_
                      refine lv_if_eq (tgt := 212) hx hb d_mo_round_202 (by decide) (fun c_39 => ?_) (fun c_39 => ?_)
                      · exact absurd c_39 (by decide)
                      · refine lv_lload hx hb d_mo_round_205 (lv_at hl 3 rfl) ?_
                        refine lv_lconst (v := 1) hx hb d_mo_round_207 (by decide) ?_
                        refine lv_ladd hx hb d_mo_round_208 ?_
                        refine lv_goto (tgt := 214) hx hb d_mo_round_209 (by decide) ?_
                        refine lv_lload_n hx hb d_mo_round_214 rfl (lv_at hl 10 rfl) ?_
                        refine lv_lmul hx hb d_mo_round_215 ?_
                        refine lv_lstore (lv' := [(15, .long ((((gu a.toNatClampNeg) / ((gd a.toNatClampNeg) * unit)) + 1) * unit)), (14, .int 1), (12, .long ((gu a.toNatClampNeg) - (((gu a.toNatClampNeg) / ((gd a.toNatClampNeg) * unit)) * ((gd a.toNatClampNeg) * unit)))), (10, .long ((gu a.toNatClampNeg) / ((gd a.toNatClampNeg) * unit))), (9, .int 1), (7, .long (gu a.toNatClampNeg)), (5, .long ((gd a.toNatClampNeg) * unit)), (0, .ref m0), (1, .int a), (2, .int rule), (3, .long unit)]) hx hb d_mo_round_216 hl (by decide) rfl (fun ls hl => ?_)
                        refine lv_iload hx hb d_mo_round_218 (lv_at hl 4 rfl) ?_
                        refine lv_if_eq (tgt := 229) hx hb d_mo_round_220 (by decide) (fun c_40 => ?_) (fun c_40 => ?_)
                        · exact absurd c_40 (by decide)
                        · refine lv_lload hx hb d_mo_round_223 (lv_at hl 0 rfl) ?_
                          refine lv_lneg hx hb d_mo_round_225 ?_
                          refine lv_goto (tgt := 231) hx hb d_mo_round_226 (by decide) ?_
                          exact W.lret (v := -((((gu a.toNatClampNeg) / ((gd a.toNatClampNeg) * unit)) + 1) * unit)) hx hb hr (fun t ht hW => ⟨⟨-((((gu a.toNatClampNeg) / ((gd a.toNatClampNeg) * unit)) + 1) * unit), 0, rfl, by unfold f_mo_round; rw [if_neg c_2, if_neg c_3, if_neg c_4, if_neg c_5, if_pos c_6, if_pos c_7, if_neg c_8, if_neg c_34, if_pos c_37, if_pos c_38], by rw [ht]; exact hP, va_K.moved hW.alike hK, hD⟩, hS.F ht⟩) hS.2.2 d_mo_round_231
                    · refine lv_lload hx hb d_mo_round_169 (lv_at hl 0 rfl) ?_
                      refine lv_lload hx hb d_mo_round_171 (lv_at hl 6 rfl) ?_
                      refine lx_ifne (tgt := 197) hx hb d_mo_round_173 d_mo_round_174 (by decide) (fun c_41 => ?_) (fun c_41 => ?_)
                      · refine lv_iconst (v := 0) hx hb d_mo_round_197 (by decide) ?_
                        refine lv_istore (lv' := [(14, .int 0), (15, .long (2 * ((gu a.toNatClampNeg) - (((gu a.toNatClampNeg) / ((gd a.toNatClampNeg) * unit)) * ((gd a.toNatClampNeg) * unit))))), (12, .long ((gu a.toNatClampNeg) - (((gu a.toNatClampNeg) / ((gd a.toNatClampNeg) * unit)) * ((gd a.toNatClampNeg) * unit)))), (10, .long ((gu a.toNatClampNeg) / ((gd a.toNatClampNeg) * unit))), (9, .int 1), (7, .long (gu a.toNatClampNeg)), (5, .long ((gd a.toNatClampNeg) * unit)), (0, .ref m0), (1, .int a), (2, .int rule), (3, .long unit)]) hx hb d_mo_round_198 hl (by decide) rfl (fun ls hl => ?_)
                        refine lv_iload hx hb d_mo_round_200 (lv_at hl 0 rfl) ?_
                        refine lv_if_eq (tgt := 212) hx hb d_mo_round_202 (by decide) (fun c_42 => ?_) (fun c_42 => ?_)
                        · refine lv_lload hx hb d_mo_round_212 (lv_at hl 3 rfl) ?_
                          refine lv_lload_n hx hb d_mo_round_214 rfl (lv_at hl 10 rfl) ?_
                          refine lv_lmul hx hb d_mo_round_215 ?_
                          refine lv_lstore (lv' := [(15, .long (((gu a.toNatClampNeg) / ((gd a.toNatClampNeg) * unit)) * unit)), (14, .int 0), (12, .long ((gu a.toNatClampNeg) - (((gu a.toNatClampNeg) / ((gd a.toNatClampNeg) * unit)) * ((gd a.toNatClampNeg) * unit)))), (10, .long ((gu a.toNatClampNeg) / ((gd a.toNatClampNeg) * unit))), (9, .int 1), (7, .long (gu a.toNatClampNeg)), (5, .long ((gd a.toNatClampNeg) * unit)), (0, .ref m0), (1, .int a), (2, .int rule), (3, .long unit)]) hx hb d_mo_round_216 hl (by decide) rfl (fun ls hl => ?_)
                          refine lv_iload hx hb d_mo_round_218 (lv_at hl 4 rfl) ?_
                          refine lv_if_eq (tgt := 229) hx hb d_mo_round_220 (by decide) (fun c_43 => ?_) (fun c_43 => ?_)
                          · exact absurd c_43 (by decide)
                          · refine lv_lload hx hb d_mo_round_223 (lv_at hl 0 rfl) ?_
                            refine lv_lneg hx hb d_mo_round_225 ?_
                            refine lv_goto (tgt := 231) hx hb d_mo_round_226 (by decide) ?_
                            exact W.lret (v := -(((gu a.toNatClampNeg) / ((gd a.toNatClampNeg) * unit)) * unit)) hx hb hr (fun t ht hW => ⟨⟨-(((gu a.toNatClampNeg) / ((gd a.toNatClampNeg) * unit)) * unit), 0, rfl, by unfold f_mo_round; rw [if_neg c_2, if_neg c_3, if_neg c_4, if_neg c_5, if_pos c_6, if_pos c_7, if_neg c_8, if_neg c_34, if_pos c_37, if_neg c_38, if_neg c_41], by rw [ht]; exact hP, va_K.moved hW.alike hK, hD⟩, hS.F ht⟩) hS.2.2 d_mo_round_231
                        · exact absurd c_42 (by decide)
                      · refine lv_iload_n hx hb d_mo_round_177 rfl (lv_at hl 9 rfl) ?_
                        refine lv_iconst (v := 2) hx hb d_mo_round_178 (by decide) ?_
                        refine lv_icmp_eq (tgt := 193) hx hb d_mo_round_179 (by decide) (fun c_44 => ?_) (fun c_44 => ?_)
                        · refine lv_iconst (v := 1) hx hb d_mo_round_193 (by decide) ?_
                          refine lv_goto (tgt := 198) hx hb d_mo_round_194 (by decide) ?_
                          refine lv_istore (lv' := [(14, .int 1), (15, .long (2 * ((gu a.toNatClampNeg) - (((gu a.toNatClampNeg) / ((gd a.toNatClampNeg) * unit)) * ((gd a.toNatClampNeg) * unit))))), (12, .long ((gu a.toNatClampNeg) - (((gu a.toNatClampNeg) / ((gd a.toNatClampNeg) * unit)) * ((gd a.toNatClampNeg) * unit)))), (10, .long ((gu a.toNatClampNeg) / ((gd a.toNatClampNeg) * unit))), (9, .int 1), (7, .long (gu a.toNatClampNeg)), (5, .long ((gd a.toNatClampNeg) * unit)), (0, .ref m0), (1, .int a), (2, .int rule), (3, .long unit)]) hx hb d_mo_round_198 hl (by decide) rfl (fun ls hl => ?_)
                          refine lv_iload hx hb d_mo_round_200 (lv_at hl 0 rfl) ?_
                          refine lv_if_eq (tgt := 212) hx hb d_mo_round_202 (by decide) (fun c_45 => ?_) (fun c_45 => ?_)
                          · exact absurd c_45 (by decide)
                          · refine lv_lload hx hb d_mo_round_205 (lv_at hl 3 rfl) ?_
                            refine lv_lconst (v := 1) hx hb d_mo_round_207 (by decide) ?_
                            refine lv_ladd hx hb d_mo_round_208 ?_
                            refine lv_goto (tgt := 214) hx hb d_mo_round_209 (by decide) ?_
                            refine lv_lload_n hx hb d_mo_round_214 rfl (lv_at hl 10 rfl) ?_
                            refine lv_lmul hx hb d_mo_round_215 ?_
                            refine lv_lstore (lv' := [(15, .long ((((gu a.toNatClampNeg) / ((gd a.toNatClampNeg) * unit)) + 1) * unit)), (14, .int 1), (12, .long ((gu a.toNatClampNeg) - (((gu a.toNatClampNeg) / ((gd a.toNatClampNeg) * unit)) * ((gd a.toNatClampNeg) * unit)))), (10, .long ((gu a.toNatClampNeg) / ((gd a.toNatClampNeg) * unit))), (9, .int 1), (7, .long (gu a.toNatClampNeg)), (5, .long ((gd a.toNatClampNeg) * unit)), (0, .ref m0), (1, .int a), (2, .int rule), (3, .long unit)]) hx hb d_mo_round_216 hl (by decide) rfl (fun ls hl => ?_)
                            refine lv_iload hx hb d_mo_round_218 (lv_at hl 4 rfl) ?_
                            refine lv_if_eq (tgt := 229) hx hb d_mo_round_220 (by decide) (fun c_46 => ?_) (fun c_46 => ?_)
                            · exact absurd c_46 (by decide)
                            · refine lv_lload hx hb d_mo_round_223 (lv_at hl 0 rfl) ?_
                              refine lv_lneg hx hb d_mo_round_225 ?_
                              refine lv_goto (tgt := 231) hx hb d_mo_round_226 (by decide) ?_
                              exact W.lret (v := -((((gu a.toNatClampNeg) / ((gd a.toNatClampNeg) * unit)) + 1) * unit)) hx hb hr (fun t ht hW => ⟨⟨-((((gu a.toNatClampNeg) / ((gd a.toNatClampNeg) * unit)) + 1) * unit), 0, rfl, by unfold f_mo_round; rw [if_neg c_2, if_neg c_3, if_neg c_4, if_neg c_5, if_pos c_6, if_pos c_7, if_neg c_8, if_neg c_34, if_pos c_37, if_neg c_38, if_pos c_41, if_pos c_44], by rw [ht]; exact hP, va_K.moved hW.alike hK, hD⟩, hS.F ht⟩) hS.2.2 d_mo_round_231
                        · refine lv_lload hx hb d_mo_round_182 (lv_at hl 3 rfl) ?_
                          refine lv_ldc2 (v := 2) hx hb hown (hT _ k_170) d_mo_round_184 ?_
                          refine lv_lrem hx hb d_mo_round_187 (by decide) ?_
                          refine lv_lconst (v := 1) hx hb d_mo_round_188 (by decide) ?_
                          refine lx_ifne (tgt := 197) hx hb d_mo_round_189 d_mo_round_190 (by decide) (fun c_47 => ?_) (fun c_47 => ?_)
                          · refine lv_iconst (v := 0) hx hb d_mo_round_197 (by decide) ?_
                            refine lv_istore (lv' := [(14, .int 0), (15, .long (2 * ((gu a.toNatClampNeg) - (((gu a.toNatClampNeg) / ((gd a.toNatClampNeg) * unit)) * ((gd a.toNatClampNeg) * unit))))), (12, .long ((gu a.toNatClampNeg) - (((gu a.toNatClampNeg) / ((gd a.toNatClampNeg) * unit)) * ((gd a.toNatClampNeg) * unit)))), (10, .long ((gu a.toNatClampNeg) / ((gd a.toNatClampNeg) * unit))), (9, .int 1), (7, .long (gu a.toNatClampNeg)), (5, .long ((gd a.toNatClampNeg) * unit)), (0, .ref m0), (1, .int a), (2, .int rule), (3, .long unit)]) hx hb d_mo_round_198 hl (by decide) rfl (fun ls hl => ?_)
                            refine lv_iload hx hb d_mo_round_200 (lv_at hl 0 rfl) ?_
                            refine lv_if_eq (tgt := 212) hx hb d_mo_round_202 (by decide) (fun c_48 => ?_) (fun c_48 => ?_)
                            · refine lv_lload hx hb d_mo_round_212 (lv_at hl 3 rfl) ?_
                              refine lv_lload_n hx hb d_mo_round_214 rfl (lv_at hl 10 rfl) ?_
                              refine lv_lmul hx hb d_mo_round_215 ?_
                              refine lv_lstore (lv' := [(15, .long (((gu a.toNatClampNeg) / ((gd a.toNatClampNeg) * unit)) * unit)), (14, .int 0), (12, .long ((gu a.toNatClampNeg) - (((gu a.toNatClampNeg) / ((gd a.toNatClampNeg) * unit)) * ((gd a.toNatClampNeg) * unit)))), (10, .long ((gu a.toNatClampNeg) / ((gd a.toNatClampNeg) * unit))), (9, .int 1), (7, .long (gu a.toNatClampNeg)), (5, .long ((gd a.toNatClampNeg) * unit)), (0, .ref m0), (1, .int a), (2, .int rule), (3, .long unit)]) hx hb d_mo_round_216 hl (by decide) rfl (fun ls hl => ?_)
                              refine lv_iload hx hb d_mo_round_218 (lv_at hl 4 rfl) ?_
                              refine lv_if_eq (tgt := 229) hx hb d_mo_round_220 (by decide) (fun c_49 => ?_) (fun c_49 => ?_)
                              · exact absurd c_49 (by decide)
                              · refine lv_lload hx hb d_mo_round_223 (lv_at hl 0 rfl) ?_
                                refine lv_lneg hx hb d_mo_round_225 ?_
                                refine lv_goto (tgt := 231) hx hb d_mo_round_226 (by decide) ?_
                                exact W.lret (v := -(((gu a.toNatClampNeg) / ((gd a.toNatClampNeg) * unit)) * unit)) hx hb hr (fun t ht hW => ⟨⟨-(((gu a.toNatClampNeg) / ((gd a.toNatClampNeg) * unit)) * unit), 0, rfl, by unfold f_mo_round; rw [if_neg c_2, if_neg c_3, if_neg c_4, if_neg c_5, if_pos c_6, if_pos c_7, if_neg c_8, if_neg c_34, if_pos c_37, if_neg c_38, if_pos c_41, if_neg c_44, if_neg c_47], by rw [ht]; exact hP, va_K.moved hW.alike hK, hD⟩, hS.F ht⟩) hS.2.2 d_mo_round_231
                            · exact absurd c_48 (by decide)
                          · refine lv_iconst (v := 1) hx hb d_mo_round_193 (by decide) ?_
                            refine lv_goto (tgt := 198) hx hb d_mo_round_194 (by decide) ?_
                            refine lv_istore (lv' := [(14, .int 1), (15, .long (2 * ((gu a.toNatClampNeg) - (((gu a.toNatClampNeg) / ((gd a.toNatClampNeg) * unit)) * ((gd a.toNatClampNeg) * unit))))), (12, .long ((gu a.toNatClampNeg) - (((gu a.toNatClampNeg) / ((gd a.toNatClampNeg) * unit)) * ((gd a.toNatClampNeg) * unit)))), (10, .long ((gu a.toNatClampNeg) / ((gd a.toNatClampNeg) * unit))), (9, .int 1), (7, .long (gu a.toNatClampNeg)), (5, .long ((gd a.toNatClampNeg) * unit)), (0, .ref m0), (1, .int a), (2, .int rule), (3, .long unit)]) hx hb d_mo_round_198 hl (by decide) rfl (fun ls hl => ?_)
                            refine lv_iload hx hb d_mo_round_200 (lv_at hl 0 rfl) ?_
                            refine lv_if_eq (tgt := 212) hx hb d_mo_round_202 (by decide) (fun c_50 => ?_) (fun c_50 => ?_)
                            · exact absurd c_50 (by decide)
                            · refine lv_lload hx hb d_mo_round_205 (lv_at hl 3 rfl) ?_
                              refine lv_lconst (v := 1) hx hb d_mo_round_207 (by decide) ?_
                              refine lv_ladd hx hb d_mo_round_208 ?_
                              refine lv_goto (tgt := 214) hx hb d_mo_round_209 (by decide) ?_
                              refine lv_lload_n hx hb d_mo_round_214 rfl (lv_at hl 10 rfl) ?_
                              refine lv_lmul hx hb d_mo_round_215 ?_
                              refine lv_lstore (lv' := [(15, .long ((((gu a.toNatClampNeg) / ((gd a.toNatClampNeg) * unit)) + 1) * unit)), (14, .int 1), (12, .long ((gu a.toNatClampNeg) - (((gu a.toNatClampNeg) / ((gd a.toNatClampNeg) * unit)) * ((gd a.toNatClampNeg) * unit)))), (10, .long ((gu a.toNatClampNeg) / ((gd a.toNatClampNeg) * unit))), (9, .int 1), (7, .long (gu a.toNatClampNeg)), (5, .long ((gd a.toNatClampNeg) * unit)), (0, .ref m0), (1, .int a), (2, .int rule), (3, .long unit)]) hx hb d_mo_round_216 hl (by decide) rfl (fun ls hl => ?_)
                              refine lv_iload hx hb d_mo_round_218 (lv_at hl 4 rfl) ?_
                              refine lv_if_eq (tgt := 229) hx hb d_mo_round_220 (by decide) (fun c_51 => ?_) (fun c_51 => ?_)
                              · exact absurd c_51 (by decide)
                              · refine lv_lload hx hb d_mo_round_223 (lv_at hl 0 rfl) ?_
                                refine lv_lneg hx hb d_mo_round_225 ?_
                                refine lv_goto (tgt := 231) hx hb d_mo_round_226 (by decide) ?_
                                exact W.lret (v := -((((gu a.toNatClampNeg) / ((gd a.toNatClampNeg) * unit)) + 1) * unit)) hx hb hr (fun t ht hW => ⟨⟨-((((gu a.toNatClampNeg) / ((gd a.toNatClampNeg) * unit)) + 1) * unit), 0, rfl, by unfold f_mo_round; rw [if_neg c_2, if_neg c_3, if_neg c_4, if_neg c_5, if_pos c_6, if_pos c_7, if_neg c_8, if_neg c_34, if_pos c_37, if_neg c_38, if_pos c_41, if_neg c_44, if_pos c_47], by rw [ht]; exact hP, va_K.moved hW.alike hK, hD⟩, hS.F ht⟩) hS.2.2 d_mo_round_231
                  · refine lv_iload_n hx hb d_mo_round_129 rfl (lv_at hl 8 rfl) ?_
                    refine lv_if_ne (tgt := 137) hx hb d_mo_round_130 (by decide) (fun c_52 => ?_) (fun c_52 => ?_)
                    · refine lv_iconst (v := 0) hx hb d_mo_round_137 (by decide) ?_
                      refine lv_iload hx hb d_mo_round_138 (lv_at hl 3 rfl) ?_
                      refine lv_icmp_ne (tgt := 147) hx hb d_mo_round_140 (by decide) (fun c_53 => ?_) (fun c_53 => ?_)
                      · refine lv_iconst (v := 0) hx hb d_mo_round_147 (by decide) ?_
                        refine lv_istore (lv' := [(14, .int 0), (12, .long ((gu a.toNatClampNeg) - (((gu a.toNatClampNeg) / ((gd a.toNatClampNeg) * unit)) * ((gd a.toNatClampNeg) * unit)))), (10, .long ((gu a.toNatClampNeg) / ((gd a.toNatClampNeg) * unit))), (9, .int 1), (7, .long (gu a.toNatClampNeg)), (5, .long ((gd a.toNatClampNeg) * unit)), (0, .ref m0), (1, .int a), (2, .int rule), (3, .long unit)]) hx hb d_mo_round_148 hl (by decide) rfl (fun ls hl => ?_)
                        refine lv_goto (tgt := 200) hx hb d_mo_round_150 (by decide) ?_
                        refine lv_iload hx hb d_mo_round_200 (lv_at hl 0 rfl) ?_
                        refine lv_if_eq (tgt := 212) hx hb d_mo_round_202 (by decide) (fun c_54 => ?_) (fun c_54 => ?_)
                        · refine lv_lload hx hb d_mo_round_212 (lv_at hl 2 rfl) ?_
                          refine lv_lload_n hx hb d_mo_round_214 rfl (lv_at hl 9 rfl) ?_
                          refine lv_lmul hx hb d_mo_round_215 ?_
                          refine lv_lstore (lv' := [(15, .long (((gu a.toNatClampNeg) / ((gd a.toNatClampNeg) * unit)) * unit)), (14, .int 0), (12, .long ((gu a.toNatClampNeg) - (((gu a.toNatClampNeg) / ((gd a.toNatClampNeg) * unit)) * ((gd a.toNatClampNeg) * unit)))), (10, .long ((gu a.toNatClampNeg) / ((gd a.toNatClampNeg) * unit))), (9, .int 1), (7, .long (gu a.toNatClampNeg)), (5, .long ((gd a.toNatClampNeg) * unit)), (0, .ref m0), (1, .int a), (2, .int rule), (3, .long unit)]) hx hb d_mo_round_216 hl (by decide) rfl (fun ls hl => ?_)
                          refine lv_iload hx hb d_mo_round_218 (lv_at hl 4 rfl) ?_
                          refine lv_if_eq (tgt := 229) hx hb d_mo_round_220 (by decide) (fun c_55 => ?_) (fun c_55 => ?_)
                          · exact absurd c_55 (by decide)
                          · refine lv_lload hx hb d_mo_round_223 (lv_at hl 0 rfl) ?_
                            refine lv_lneg hx hb d_mo_round_225 ?_
                            refine lv_goto (tgt := 231) hx hb d_mo_round_226 (by decide) ?_
                            exact W.lret (v := -(((gu a.toNatClampNeg) / ((gd a.toNatClampNeg) * unit)) * unit)) hx hb hr (fun t ht hW => ⟨⟨-(((gu a.toNatClampNeg) / ((gd a.toNatClampNeg) * unit)) * unit), 0, rfl, by unfold f_mo_round; rw [if_neg c_2, if_neg c_3, if_neg c_4, if_neg c_5, if_pos c_6, if_pos c_7, if_neg c_8, if_neg c_34, if_neg c_37, if_neg c_52], by rw [ht]; exact hP, va_K.moved hW.alike hK, hD⟩, hS.F ht⟩) hS.2.2 d_mo_round_231
                        · exact absurd c_54 (by decide)
                      · exact absurd c_53 (by decide)
                    · refine lv_iconst (v := 1) hx hb d_mo_round_133 (by decide) ?_
                      refine lv_goto (tgt := 138) hx hb d_mo_round_134 (by decide) ?_
                      refine lv_iload hx hb d_mo_round_138 (lv_at hl 3 rfl) ?_
                      refine lv_icmp_ne (tgt := 147) hx hb d_mo_round_140 (by decide) (fun c_56 => ?_) (fun c_56 => ?_)
                      · exact absurd c_56 (by decide)
                      · refine lv_iconst (v := 1) hx hb d_mo_round_143 (by decide) ?_
                        refine lv_goto (tgt := 148) hx hb d_mo_round_144 (by decide) ?_
                        refine lv_istore (lv' := [(14, .int 1), (12, .long ((gu a.toNatClampNeg) - (((gu a.toNatClampNeg) / ((gd a.toNatClampNeg) * unit)) * ((gd a.toNatClampNeg) * unit)))), (10, .long ((gu a.toNatClampNeg) / ((gd a.toNatClampNeg) * unit))), (9, .int 1), (7, .long (gu a.toNatClampNeg)), (5, .long ((gd a.toNatClampNeg) * unit)), (0, .ref m0), (1, .int a), (2, .int rule), (3, .long unit)]) hx hb d_mo_round_148 hl (by decide) rfl (fun ls hl => ?_)
                        refine lv_goto (tgt := 200) hx hb d_mo_round_150 (by decide) ?_
                        refine lv_iload hx hb d_mo_round_200 (lv_at hl 0 rfl) ?_
                        refine lv_if_eq (tgt := 212) hx hb d_mo_round_202 (by decide) (fun c_57 => ?_) (fun c_57 => ?_)
                        · exact absurd c_57 (by decide)
                        · refine lv_lload hx hb d_mo_round_205 (lv_at hl 2 rfl) ?_
                          refine lv_lconst (v := 1) hx hb d_mo_round_207 (by decide) ?_
                          refine lv_ladd hx hb d_mo_round_208 ?_
                          refine lv_goto (tgt := 214) hx hb d_mo_round_209 (by decide) ?_
                          refine lv_lload_n hx hb d_mo_round_214 rfl (lv_at hl 9 rfl) ?_
                          refine lv_lmul hx hb d_mo_round_215 ?_
                          refine lv_lstore (lv' := [(15, .long ((((gu a.toNatClampNeg) / ((gd a.toNatClampNeg) * unit)) + 1) * unit)), (14, .int 1), (12, .long ((gu a.toNatClampNeg) - (((gu a.toNatClampNeg) / ((gd a.toNatClampNeg) * unit)) * ((gd a.toNatClampNeg) * unit)))), (10, .long ((gu a.toNatClampNeg) / ((gd a.toNatClampNeg) * unit))), (9, .int 1), (7, .long (gu a.toNatClampNeg)), (5, .long ((gd a.toNatClampNeg) * unit)), (0, .ref m0), (1, .int a), (2, .int rule), (3, .long unit)]) hx hb d_mo_round_216 hl (by decide) rfl (fun ls hl => ?_)
                          refine lv_iload hx hb d_mo_round_218 (lv_at hl 4 rfl) ?_
                          refine lv_if_eq (tgt := 229) hx hb d_mo_round_220 (by decide) (fun c_58 => ?_) (fun c_58 => ?_)
                          · exact absurd c_58 (by decide)
                          · refine lv_lload hx hb d_mo_round_223 (lv_at hl 0 rfl) ?_
                            refine lv_lneg hx hb d_mo_round_225 ?_
                            refine lv_goto (tgt := 231) hx hb d_mo_round_226 (by decide) ?_
                            exact W.lret (v := -((((gu a.toNatClampNeg) / ((gd a.toNatClampNeg) * unit)) + 1) * unit)) hx hb hr (fun t ht hW => ⟨⟨-((((gu a.toNatClampNeg) / ((gd a.toNatClampNeg) * unit)) + 1) * unit), 0, rfl, by unfold f_mo_round; rw [if_neg c_2, if_neg c_3, if_neg c_4, if_neg c_5, if_pos c_6, if_pos c_7, if_neg c_8, if_neg c_34, if_neg c_37, if_pos c_52], by rw [ht]; exact hP, va_K.moved hW.alike hK, hD⟩, hS.F ht⟩) hS.2.2 d_mo_round_231
            · refine lv_aload_n hx hb d_mo_round_61 rfl (lv_at hl 1 rfl) ?_
              refine va_get (D := (dC, dI)) (ci := 4) (v := .ref mu) (C := R_mo) (T := F_mo) (N := 17) hx hb hT i_mo hown hK hP 0 rfl rfl 3 (by decide) (hT _ k_143) (fun _ h9 => h9) rfl d_mo_round_62 ?_
              refine lv_iload_n hx hb d_mo_round_65 rfl (lv_at hl 2 rfl) ?_
              refine va_lald hx hb hK hP 1 0 rfl rfl (in_iv hv c_2) d_mo_round_66 ?_
              refine lv_lneg hx hb d_mo_round_67 ?_
              refine lv_goto (tgt := 77) hx hb d_mo_round_68 (by decide) ?_
              refine lv_lstore (lv' := [(7, .long (-(gu a.toNatClampNeg))), (5, .long ((gd a.toNatClampNeg) * unit)), (0, .ref m0), (1, .int a), (2, .int rule), (3, .long unit)]) hx hb d_mo_round_77 hl (by decide) rfl (fun ls hl => ?_)
              refine lv_aload_n hx hb d_mo_round_79 rfl (lv_at hl 2 rfl) ?_
              refine va_get (D := (dC, dI)) (ci := 4) (v := .ref mu) (C := R_mo) (T := F_mo) (N := 17) hx hb hT i_mo hown hK hP 0 rfl rfl 3 (by decide) (hT _ k_143) (fun _ h9 => h9) rfl d_mo_round_80 ?_
              refine lv_iload_n hx hb d_mo_round_83 rfl (lv_at hl 3 rfl) ?_
              refine va_lald hx hb hK hP 1 0 rfl rfl (in_iv hv c_2) d_mo_round_84 ?_
              refine lv_lconst (v := 0) hx hb d_mo_round_85 (by decide) ?_
              refine lx_ifge (tgt := 94) hx hb d_mo_round_86 d_mo_round_87 (by decide) (fun c_59 => ?_) (fun c_59 => ?_)
              · refine lv_iconst (v := 0) hx hb d_mo_round_94 (by decide) ?_
                refine lv_istore (lv' := [(9, .int 0), (7, .long (-(gu a.toNatClampNeg))), (5, .long ((gd a.toNatClampNeg) * unit)), (0, .ref m0), (1, .int a), (2, .int rule), (3, .long unit)]) hx hb d_mo_round_95 hl (by decide) rfl (fun ls hl => ?_)
                refine lv_lload hx hb d_mo_round_97 (lv_at hl 1 rfl) ?_
                refine lv_lload hx hb d_mo_round_99 (lv_at hl 2 rfl) ?_
                refine lv_ldiv hx hb d_mo_round_101 (hby c_2 c_5 c_6) ?_
                refine lv_lstore (lv' := [(10, .long ((-(gu a.toNatClampNeg)) / ((gd a.toNatClampNeg) * unit))), (9, .int 0), (7, .long (-(gu a.toNatClampNeg))), (5, .long ((gd a.toNatClampNeg) * unit)), (0, .ref m0), (1, .int a), (2, .int rule), (3, .long unit)]) hx hb d_mo_round_102 hl (by decide) rfl (fun ls hl => ?_)
                refine lv_lload hx hb d_mo_round_104 (lv_at hl 2 rfl) ?_
                refine lv_lload hx hb d_mo_round_106 (lv_at hl 0 rfl) ?_
                refine lv_lload hx hb d_mo_round_108 (lv_at hl 3 rfl) ?_
                refine lv_lmul hx hb d_mo_round_110 ?_
                refine lv_lsub hx hb d_mo_round_111 ?_
                refine lv_lstore (lv' := [(12, .long ((-(gu a.toNatClampNeg)) - (((-(gu a.toNatClampNeg)) / ((gd a.toNatClampNeg) * unit)) * ((gd a.toNatClampNeg) * unit)))), (10, .long ((-(gu a.toNatClampNeg)) / ((gd a.toNatClampNeg) * unit))), (9, .int 0), (7, .long (-(gu a.toNatClampNeg))), (5, .long ((gd a.toNatClampNeg) * unit)), (0, .ref m0), (1, .int a), (2, .int rule), (3, .long unit)]) hx hb d_mo_round_112 hl (by decide) rfl (fun ls hl => ?_)
                refine lv_iconst (v := 0) hx hb d_mo_round_114 (by decide) ?_
                refine lv_istore (lv' := [(14, .int 0), (12, .long ((-(gu a.toNatClampNeg)) - (((-(gu a.toNatClampNeg)) / ((gd a.toNatClampNeg) * unit)) * ((gd a.toNatClampNeg) * unit)))), (10, .long ((-(gu a.toNatClampNeg)) / ((gd a.toNatClampNeg) * unit))), (9, .int 0), (7, .long (-(gu a.toNatClampNeg))), (5, .long ((gd a.toNatClampNeg) * unit)), (0, .ref m0), (1, .int a), (2, .int rule), (3, .long unit)]) hx hb d_mo_round_115 hl (by decide) rfl (fun ls hl => ?_)
                refine lv_lload hx hb d_mo_round_117 (lv_at hl 1 rfl) ?_
                refine lv_lconst (v := 0) hx hb d_mo_round_119 (by decide) ?_
                refine lx_ifle (tgt := 200) hx hb d_mo_round_120 d_mo_round_121 (by decide) (fun c_60 => ?_) (fun c_60 => ?_)
                · refine lv_iload hx hb d_mo_round_200 (lv_at hl 0 rfl) ?_
                  refine lv_if_eq (tgt := 212) hx hb d_mo_round_202 (by decide) (fun c_61 => ?_) (fun c_61 => ?_)
                  · refine lv_lload hx hb d_mo_round_212 (lv_at hl 2 rfl) ?_
                    refine lv_lload_n hx hb d_mo_round_214 rfl (lv_at hl 9 rfl) ?_
                    refine lv_lmul hx hb d_mo_round_215 ?_
                    refine lv_lstore (lv' := [(15, .long (((-(gu a.toNatClampNeg)) / ((gd a.toNatClampNeg) * unit)) * unit)), (14, .int 0), (12, .long ((-(gu a.toNatClampNeg)) - (((-(gu a.toNatClampNeg)) / ((gd a.toNatClampNeg) * unit)) * ((gd a.toNatClampNeg) * unit)))), (10, .long ((-(gu a.toNatClampNeg)) / ((gd a.toNatClampNeg) * unit))), (9, .int 0), (7, .long (-(gu a.toNatClampNeg))), (5, .long ((gd a.toNatClampNeg) * unit)), (0, .ref m0), (1, .int a), (2, .int rule), (3, .long unit)]) hx hb d_mo_round_216 hl (by decide) rfl (fun ls hl => ?_)
                    refine lv_iload hx hb d_mo_round_218 (lv_at hl 4 rfl) ?_
                    refine lv_if_eq (tgt := 229) hx hb d_mo_round_220 (by decide) (fun c_62 => ?_) (fun c_62 => ?_)
                    · refine lv_lload hx hb d_mo_round_229 (lv_at hl 0 rfl) ?_
                      exact W.lret (v := ((-(gu a.toNatClampNeg)) / ((gd a.toNatClampNeg) * unit)) * unit) hx hb hr (fun t ht hW => ⟨⟨((-(gu a.toNatClampNeg)) / ((gd a.toNatClampNeg) * unit)) * unit, 0, rfl, by unfold f_mo_round; rw [if_neg c_2, if_neg c_3, if_neg c_4, if_neg c_5, if_pos c_6, if_neg c_7, if_pos c_59, if_pos c_60], by rw [ht]; exact hP, va_K.moved hW.alike hK, hD⟩, hS.F ht⟩) hS.2.2 d_mo_round_231
                    · exact absurd c_62 (by decide)
                  · exact absurd c_61 (by decide)
                · refine lv_iload_n hx hb d_mo_round_124 rfl (lv_at hl 8 rfl) ?_
                  refine lv_iconst (v := 2) hx hb d_mo_round_125 (by decide) ?_
                  refine lv_icmp_ge (tgt := 153) hx hb d_mo_round_126 (by decide) (fun c_63 => ?_) (fun c_63 => ?_)
                  · refine lv_ldc2 (v := 2) hx hb hown (hT _ k_170) d_mo_round_153 ?_
                    refine lv_lload hx hb d_mo_round_156 (lv_at hl 1 rfl) ?_
                    refine lv_lmul hx hb d_mo_round_158 ?_
                    refine lv_lstore (lv' := [(15, .long (2 * ((-(gu a.toNatClampNeg)) - (((-(gu a.toNatClampNeg)) / ((gd a.toNatClampNeg) * unit)) * ((gd a.toNatClampNeg) * unit))))), (14, .int 0), (12, .long ((-(gu a.toNatClampNeg)) - (((-(gu a.toNatClampNeg)) / ((gd a.toNatClampNeg) * unit)) * ((gd a.toNatClampNeg) * unit)))), (10, .long ((-(gu a.toNatClampNeg)) / ((gd a.toNatClampNeg) * unit))), (9, .int 0), (7, .long (-(gu a.toNatClampNeg))), (5, .long ((gd a.toNatClampNeg) * unit)), (0, .ref m0), (1, .int a), (2, .int rule), (3, .long unit)]) hx hb d_mo_round_159 hl (by decide) rfl (fun ls hl => ?_)
                    refine lv_lload hx hb d_mo_round_161 (lv_at hl 0 rfl) ?_
                    refine lv_lload hx hb d_mo_round_163 (lv_at hl 6 rfl) ?_
                    refine lx_ifgt (tgt := 193) hx hb d_mo_round_165 d_mo_round_166 (by decide) (fun c_64 => ?_) (fun c_64 => ?_)
                    · refine lv_iconst (v := 1) hx hb d_mo_round_193 (by decide) ?_
                      refine lv_goto (tgt := 198) hx hb d_mo_round_194 (by decide) ?_
                      refine lv_istore (lv' := [(14, .int 1), (15, .long (2 * ((-(gu a.toNatClampNeg)) - (((-(gu a.toNatClampNeg)) / ((gd a.toNatClampNeg) * unit)) * ((gd a.toNatClampNeg) * unit))))), (12, .long ((-(gu a.toNatClampNeg)) - (((-(gu a.toNatClampNeg)) / ((gd a.toNatClampNeg) * unit)) * ((gd a.toNatClampNeg) * unit)))), (10, .long ((-(gu a.toNatClampNeg)) / ((gd a.toNatClampNeg) * unit))), (9, .int 0), (7, .long (-(gu a.toNatClampNeg))), (5, .long ((gd a.toNatClampNeg) * unit)), (0, .ref m0), (1, .int a), (2, .int rule), (3, .long unit)]) hx hb d_mo_round_198 hl (by decide) rfl (fun ls hl => ?_)
                      refine lv_iload hx hb d_mo_round_200 (lv_at hl 0 rfl) ?_
                      refine lv_if_eq (tgt := 212) hx hb d_mo_round_202 (by decide) (fun c_65 => ?_) (fun c_65 => ?_)
                      · exact absurd c_65 (by decide)
                      · refine lv_lload hx hb d_mo_round_205 (lv_at hl 3 rfl) ?_
                        refine lv_lconst (v := 1) hx hb d_mo_round_207 (by decide) ?_
                        refine lv_ladd hx hb d_mo_round_208 ?_
                        refine lv_goto (tgt := 214) hx hb d_mo_round_209 (by decide) ?_
                        refine lv_lload_n hx hb d_mo_round_214 rfl (lv_at hl 10 rfl) ?_
                        refine lv_lmul hx hb d_mo_round_215 ?_
                        refine lv_lstore (lv' := [(15, .long ((((-(gu a.toNatClampNeg)) / ((gd a.toNatClampNeg) * unit)) + 1) * unit)), (14, .int 1), (12, .long ((-(gu a.toNatClampNeg)) - (((-(gu a.toNatClampNeg)) / ((gd a.toNatClampNeg) * unit)) * ((gd a.toNatClampNeg) * unit)))), (10, .long ((-(gu a.toNatClampNeg)) / ((gd a.toNatClampNeg) * unit))), (9, .int 0), (7, .long (-(gu a.toNatClampNeg))), (5, .long ((gd a.toNatClampNeg) * unit)), (0, .ref m0), (1, .int a), (2, .int rule), (3, .long unit)]) hx hb d_mo_round_216 hl (by decide) rfl (fun ls hl => ?_)
                        refine lv_iload hx hb d_mo_round_218 (lv_at hl 4 rfl) ?_
                        refine lv_if_eq (tgt := 229) hx hb d_mo_round_220 (by decide) (fun c_66 => ?_) (fun c_66 => ?_)
                        · refine lv_lload hx hb d_mo_round_229 (lv_at hl 0 rfl) ?_
                          exact W.lret (v := (((-(gu a.toNatClampNeg)) / ((gd a.toNatClampNeg) * unit)) + 1) * unit) hx hb hr (fun t ht hW => ⟨⟨(((-(gu a.toNatClampNeg)) / ((gd a.toNatClampNeg) * unit)) + 1) * unit, 0, rfl, by unfold f_mo_round; rw [if_neg c_2, if_neg c_3, if_neg c_4, if_neg c_5, if_pos c_6, if_neg c_7, if_pos c_59, if_neg c_60, if_pos c_63, if_pos c_64], by rw [ht]; exact hP, va_K.moved hW.alike hK, hD⟩, hS.F ht⟩) hS.2.2 d_mo_round_231
                        · exact absurd c_66 (by decide)
                    · refine lv_lload hx hb d_mo_round_169 (lv_at hl 0 rfl) ?_
                      refine lv_lload hx hb d_mo_round_171 (lv_at hl 6 rfl) ?_
                      refine lx_ifne (tgt := 197) hx hb d_mo_round_173 d_mo_round_174 (by decide) (fun c_67 => ?_) (fun c_67 => ?_)
                      · refine lv_iconst (v := 0) hx hb d_mo_round_197 (by decide) ?_
                        refine lv_istore (lv' := [(14, .int 0), (15, .long (2 * ((-(gu a.toNatClampNeg)) - (((-(gu a.toNatClampNeg)) / ((gd a.toNatClampNeg) * unit)) * ((gd a.toNatClampNeg) * unit))))), (12, .long ((-(gu a.toNatClampNeg)) - (((-(gu a.toNatClampNeg)) / ((gd a.toNatClampNeg) * unit)) * ((gd a.toNatClampNeg) * unit)))), (10, .long ((-(gu a.toNatClampNeg)) / ((gd a.toNatClampNeg) * unit))), (9, .int 0), (7, .long (-(gu a.toNatClampNeg))), (5, .long ((gd a.toNatClampNeg) * unit)), (0, .ref m0), (1, .int a), (2, .int rule), (3, .long unit)]) hx hb d_mo_round_198 hl (by decide) rfl (fun ls hl => ?_)
                        refine lv_iload hx hb d_mo_round_200 (lv_at hl 0 rfl) ?_
                        refine lv_if_eq (tgt := 212) hx hb d_mo_round_202 (by decide) (fun c_68 => ?_) (fun c_68 => ?_)
                        · refine lv_lload hx hb d_mo_round_212 (lv_at hl 3 rfl) ?_
                          refine lv_lload_n hx hb d_mo_round_214 rfl (lv_at hl 10 rfl) ?_
                          refine lv_lmul hx hb d_mo_round_215 ?_
                          refine lv_lstore (lv' := [(15, .long (((-(gu a.toNatClampNeg)) / ((gd a.toNatClampNeg) * unit)) * unit)), (14, .int 0), (12, .long ((-(gu a.toNatClampNeg)) - (((-(gu a.toNatClampNeg)) / ((gd a.toNatClampNeg) * unit)) * ((gd a.toNatClampNeg) * unit)))), (10, .long ((-(gu a.toNatClampNeg)) / ((gd a.toNatClampNeg) * unit))), (9, .int 0), (7, .long (-(gu a.toNatClampNeg))), (5, .long ((gd a.toNatClampNeg) * unit)), (0, .ref m0), (1, .int a), (2, .int rule), (3, .long unit)]) hx hb d_mo_round_216 hl (by decide) rfl (fun ls hl => ?_)
                          refine lv_iload hx hb d_mo_round_218 (lv_at hl 4 rfl) ?_
                          refine lv_if_eq (tgt := 229) hx hb d_mo_round_220 (by decide) (fun c_69 => ?_) (fun c_69 => ?_)
                          · refine lv_lload hx hb d_mo_round_229 (lv_at hl 0 rfl) ?_
                            exact W.lret (v := ((-(gu a.toNatClampNeg)) / ((gd a.toNatClampNeg) * unit)) * unit) hx hb hr (fun t ht hW => ⟨⟨((-(gu a.toNatClampNeg)) / ((gd a.toNatClampNeg) * unit)) * unit, 0, rfl, by unfold f_mo_round; rw [if_neg c_2, if_neg c_3, if_neg c_4, if_neg c_5, if_pos c_6, if_neg c_7, if_pos c_59, if_neg c_60, if_pos c_63, if_neg c_64, if_neg c_67], by rw [ht]; exact hP, va_K.moved hW.alike hK, hD⟩, hS.F ht⟩) hS.2.2 d_mo_round_231
                          · exact absurd c_69 (by decide)
                        · exact absurd c_68 (by decide)
                      · refine lv_iload_n hx hb d_mo_round_177 rfl (lv_at hl 9 rfl) ?_
                        refine lv_iconst (v := 2) hx hb d_mo_round_178 (by decide) ?_
                        refine lv_icmp_eq (tgt := 193) hx hb d_mo_round_179 (by decide) (fun c_70 => ?_) (fun c_70 => ?_)
                        · refine lv_iconst (v := 1) hx hb d_mo_round_193 (by decide) ?_
                          refine lv_goto (tgt := 198) hx hb d_mo_round_194 (by decide) ?_
                          refine lv_istore (lv' := [(14, .int 1), (15, .long (2 * ((-(gu a.toNatClampNeg)) - (((-(gu a.toNatClampNeg)) / ((gd a.toNatClampNeg) * unit)) * ((gd a.toNatClampNeg) * unit))))), (12, .long ((-(gu a.toNatClampNeg)) - (((-(gu a.toNatClampNeg)) / ((gd a.toNatClampNeg) * unit)) * ((gd a.toNatClampNeg) * unit)))), (10, .long ((-(gu a.toNatClampNeg)) / ((gd a.toNatClampNeg) * unit))), (9, .int 0), (7, .long (-(gu a.toNatClampNeg))), (5, .long ((gd a.toNatClampNeg) * unit)), (0, .ref m0), (1, .int a), (2, .int rule), (3, .long unit)]) hx hb d_mo_round_198 hl (by decide) rfl (fun ls hl => ?_)
                          refine lv_iload hx hb d_mo_round_200 (lv_at hl 0 rfl) ?_
                          refine lv_if_eq (tgt := 212) hx hb d_mo_round_202 (by decide) (fun c_71 => ?_) (fun c_71 => ?_)
                          · exact absurd c_71 (by decide)
                          · refine lv_lload hx hb d_mo_round_205 (lv_at hl 3 rfl) ?_
                            refine lv_lconst (v := 1) hx hb d_mo_round_207 (by decide) ?_
                            refine lv_ladd hx hb d_mo_round_208 ?_
                            refine lv_goto (tgt := 214) hx hb d_mo_round_209 (by decide) ?_
                            refine lv_lload_n hx hb d_mo_round_214 rfl (lv_at hl 10 rfl) ?_
                            refine lv_lmul hx hb d_mo_round_215 ?_
                            refine lv_lstore (lv' := [(15, .long ((((-(gu a.toNatClampNeg)) / ((gd a.toNatClampNeg) * unit)) + 1) * unit)), (14, .int 1), (12, .long ((-(gu a.toNatClampNeg)) - (((-(gu a.toNatClampNeg)) / ((gd a.toNatClampNeg) * unit)) * ((gd a.toNatClampNeg) * unit)))), (10, .long ((-(gu a.toNatClampNeg)) / ((gd a.toNatClampNeg) * unit))), (9, .int 0), (7, .long (-(gu a.toNatClampNeg))), (5, .long ((gd a.toNatClampNeg) * unit)), (0, .ref m0), (1, .int a), (2, .int rule), (3, .long unit)]) hx hb d_mo_round_216 hl (by decide) rfl (fun ls hl => ?_)
                            refine lv_iload hx hb d_mo_round_218 (lv_at hl 4 rfl) ?_
                            refine lv_if_eq (tgt := 229) hx hb d_mo_round_220 (by decide) (fun c_72 => ?_) (fun c_72 => ?_)
                            · refine lv_lload hx hb d_mo_round_229 (lv_at hl 0 rfl) ?_
                              exact W.lret (v := (((-(gu a.toNatClampNeg)) / ((gd a.toNatClampNeg) * unit)) + 1) * unit) hx hb hr (fun t ht hW => ⟨⟨(((-(gu a.toNatClampNeg)) / ((gd a.toNatClampNeg) * unit)) + 1) * unit, 0, rfl, by unfold f_mo_round; rw [if_neg c_2, if_neg c_3, if_neg c_4, if_neg c_5, if_pos c_6, if_neg c_7, if_pos c_59, if_neg c_60, if_pos c_63, if_neg c_64, if_pos c_67, if_pos c_70], by rw [ht]; exact hP, va_K.moved hW.alike hK, hD⟩, hS.F ht⟩) hS.2.2 d_mo_round_231
                            · exact absurd c_72 (by decide)
                        · refine lv_lload hx hb d_mo_round_182 (lv_at hl 3 rfl) ?_
                          refine lv_ldc2 (v := 2) hx hb hown (hT _ k_170) d_mo_round_184 ?_
                          refine lv_lrem hx hb d_mo_round_187 (by decide) ?_
                          refine lv_lconst (v := 1) hx hb d_mo_round_188 (by decide) ?_
                          refine lx_ifne (tgt := 197) hx hb d_mo_round_189 d_mo_round_190 (by decide) (fun c_73 => ?_) (fun c_73 => ?_)
                          · refine lv_iconst (v := 0) hx hb d_mo_round_197 (by decide) ?_
                            refine lv_istore (lv' := [(14, .int 0), (15, .long (2 * ((-(gu a.toNatClampNeg)) - (((-(gu a.toNatClampNeg)) / ((gd a.toNatClampNeg) * unit)) * ((gd a.toNatClampNeg) * unit))))), (12, .long ((-(gu a.toNatClampNeg)) - (((-(gu a.toNatClampNeg)) / ((gd a.toNatClampNeg) * unit)) * ((gd a.toNatClampNeg) * unit)))), (10, .long ((-(gu a.toNatClampNeg)) / ((gd a.toNatClampNeg) * unit))), (9, .int 0), (7, .long (-(gu a.toNatClampNeg))), (5, .long ((gd a.toNatClampNeg) * unit)), (0, .ref m0), (1, .int a), (2, .int rule), (3, .long unit)]) hx hb d_mo_round_198 hl (by decide) rfl (fun ls hl => ?_)
                            refine lv_iload hx hb d_mo_round_200 (lv_at hl 0 rfl) ?_
                            refine lv_if_eq (tgt := 212) hx hb d_mo_round_202 (by decide) (fun c_74 => ?_) (fun c_74 => ?_)
                            · refine lv_lload hx hb d_mo_round_212 (lv_at hl 3 rfl) ?_
                              refine lv_lload_n hx hb d_mo_round_214 rfl (lv_at hl 10 rfl) ?_
                              refine lv_lmul hx hb d_mo_round_215 ?_
                              refine lv_lstore (lv' := [(15, .long (((-(gu a.toNatClampNeg)) / ((gd a.toNatClampNeg) * unit)) * unit)), (14, .int 0), (12, .long ((-(gu a.toNatClampNeg)) - (((-(gu a.toNatClampNeg)) / ((gd a.toNatClampNeg) * unit)) * ((gd a.toNatClampNeg) * unit)))), (10, .long ((-(gu a.toNatClampNeg)) / ((gd a.toNatClampNeg) * unit))), (9, .int 0), (7, .long (-(gu a.toNatClampNeg))), (5, .long ((gd a.toNatClampNeg) * unit)), (0, .ref m0), (1, .int a), (2, .int rule), (3, .long unit)]) hx hb d_mo_round_216 hl (by decide) rfl (fun ls hl => ?_)
                              refine lv_iload hx hb d_mo_round_218 (lv_at hl 4 rfl) ?_
                              refine lv_if_eq (tgt := 229) hx hb d_mo_round_220 (by decide) (fun c_75 => ?_) (fun c_75 => ?_)
                              · refine lv_lload hx hb d_mo_round_229 (lv_at hl 0 rfl) ?_
                                exact W.lret (v := ((-(gu a.toNatClampNeg)) / ((gd a.toNatClampNeg) * unit)) * unit) hx hb hr (fun t ht hW => ⟨⟨((-(gu a.toNatClampNeg)) / ((gd a.toNatClampNeg) * unit)) * unit, 0, rfl, by unfold f_mo_round; rw [if_neg c_2, if_neg c_3, if_neg c_4, if_neg c_5, if_pos c_6, if_neg c_7, if_pos c_59, if_neg c_60, if_pos c_63, if_neg c_64, if_pos c_67, if_neg c_70, if_neg c_73], by rw [ht]; exact hP, va_K.moved hW.alike hK, hD⟩, hS.F ht⟩) hS.2.2 d_mo_round_231
                              · exact absurd c_75 (by decide)
                            · exact absurd c_74 (by decide)
                          · refine lv_iconst (v := 1) hx hb d_mo_round_193 (by decide) ?_
                            refine lv_goto (tgt := 198) hx hb d_mo_round_194 (by decide) ?_
                            refine lv_istore (lv' := [(14, .int 1), (15, .long (2 * ((-(gu a.toNatClampNeg)) - (((-(gu a.toNatClampNeg)) / ((gd a.toNatClampNeg) * unit)) * ((gd a.toNatClampNeg) * unit))))), (12, .long ((-(gu a.toNatClampNeg)) - (((-(gu a.toNatClampNeg)) / ((gd a.toNatClampNeg) * unit)) * ((gd a.toNatClampNeg) * unit)))), (10, .long ((-(gu a.toNatClampNeg)) / ((gd a.toNatClampNeg) * unit))), (9, .int 0), (7, .long (-(gu a.toNatClampNeg))), (5, .long ((gd a.toNatClampNeg) * unit)), (0, .ref m0), (1, .int a), (2, .int rule), (3, .long unit)]) hx hb d_mo_round_198 hl (by decide) rfl (fun ls hl => ?_)
                            refine lv_iload hx hb d_mo_round_200 (lv_at hl 0 rfl) ?_
                            refine lv_if_eq (tgt := 212) hx hb d_mo_round_202 (by decide) (fun c_76 => ?_) (fun c_76 => ?_)
                            · exact absurd c_76 (by decide)
                            · refine lv_lload hx hb d_mo_round_205 (lv_at hl 3 rfl) ?_
                              refine lv_lconst (v := 1) hx hb d_mo_round_207 (by decide) ?_
                              refine lv_ladd hx hb d_mo_round_208 ?_
                              refine lv_goto (tgt := 214) hx hb d_mo_round_209 (by decide) ?_
                              refine lv_lload_n hx hb d_mo_round_214 rfl (lv_at hl 10 rfl) ?_
                              refine lv_lmul hx hb d_mo_round_215 ?_
                              refine lv_lstore (lv' := [(15, .long ((((-(gu a.toNatClampNeg)) / ((gd a.toNatClampNeg) * unit)) + 1) * unit)), (14, .int 1), (12, .long ((-(gu a.toNatClampNeg)) - (((-(gu a.toNatClampNeg)) / ((gd a.toNatClampNeg) * unit)) * ((gd a.toNatClampNeg) * unit)))), (10, .long ((-(gu a.toNatClampNeg)) / ((gd a.toNatClampNeg) * unit))), (9, .int 0), (7, .long (-(gu a.toNatClampNeg))), (5, .long ((gd a.toNatClampNeg) * unit)), (0, .ref m0), (1, .int a), (2, .int rule), (3, .long unit)]) hx hb d_mo_round_216 hl (by decide) rfl (fun ls hl => ?_)
                              refine lv_iload hx hb d_mo_round_218 (lv_at hl 4 rfl) ?_
                              refine lv_if_eq (tgt := 229) hx hb d_mo_round_220 (by decide) (fun c_77 => ?_) (fun c_77 => ?_)
                              · refine lv_lload hx hb d_mo_round_229 (lv_at hl 0 rfl) ?_
                                exact W.lret (v := (((-(gu a.toNatClampNeg)) / ((gd a.toNatClampNeg) * unit)) + 1) * unit) hx hb hr (fun t ht hW => ⟨⟨(((-(gu a.toNatClampNeg)) / ((gd a.toNatClampNeg) * unit)) + 1) * unit, 0, rfl, by unfold f_mo_round; rw [if_neg c_2, if_neg c_3, if_neg c_4, if_neg c_5, if_pos c_6, if_neg c_7, if_pos c_59, if_neg c_60, if_pos c_63, if_neg c_64, if_pos c_67, if_neg c_70, if_pos c_73], by rw [ht]; exact hP, va_K.moved hW.alike hK, hD⟩, hS.F ht⟩) hS.2.2 d_mo_round_231
                              · exact absurd c_77 (by decide)
                  · refine lv_iload_n hx hb d_mo_round_129 rfl (lv_at hl 8 rfl) ?_
                    refine lv_if_ne (tgt := 137) hx hb d_mo_round_130 (by decide) (fun c_78 => ?_) (fun c_78 => ?_)
                    · refine lv_iconst (v := 0) hx hb d_mo_round_137 (by decide) ?_
                      refine lv_iload hx hb d_mo_round_138 (lv_at hl 3 rfl) ?_
                      refine lv_icmp_ne (tgt := 147) hx hb d_mo_round_140 (by decide) (fun c_79 => ?_) (fun c_79 => ?_)
                      · exact absurd c_79 (by decide)
                      · refine lv_iconst (v := 1) hx hb d_mo_round_143 (by decide) ?_
                        refine lv_goto (tgt := 148) hx hb d_mo_round_144 (by decide) ?_
                        refine lv_istore (lv' := [(14, .int 1), (12, .long ((-(gu a.toNatClampNeg)) - (((-(gu a.toNatClampNeg)) / ((gd a.toNatClampNeg) * unit)) * ((gd a.toNatClampNeg) * unit)))), (10, .long ((-(gu a.toNatClampNeg)) / ((gd a.toNatClampNeg) * unit))), (9, .int 0), (7, .long (-(gu a.toNatClampNeg))), (5, .long ((gd a.toNatClampNeg) * unit)), (0, .ref m0), (1, .int a), (2, .int rule), (3, .long unit)]) hx hb d_mo_round_148 hl (by decide) rfl (fun ls hl => ?_)
                        refine lv_goto (tgt := 200) hx hb d_mo_round_150 (by decide) ?_
                        refine lv_iload hx hb d_mo_round_200 (lv_at hl 0 rfl) ?_
                        refine lv_if_eq (tgt := 212) hx hb d_mo_round_202 (by decide) (fun c_80 => ?_) (fun c_80 => ?_)
                        · exact absurd c_80 (by decide)
                        · refine lv_lload hx hb d_mo_round_205 (lv_at hl 2 rfl) ?_
                          refine lv_lconst (v := 1) hx hb d_mo_round_207 (by decide) ?_
                          refine lv_ladd hx hb d_mo_round_208 ?_
                          refine lv_goto (tgt := 214) hx hb d_mo_round_209 (by decide) ?_
                          refine lv_lload_n hx hb d_mo_round_214 rfl (lv_at hl 9 rfl) ?_
                          refine lv_lmul hx hb d_mo_round_215 ?_
                          refine lv_lstore (lv' := [(15, .long ((((-(gu a.toNatClampNeg)) / ((gd a.toNatClampNeg) * unit)) + 1) * unit)), (14, .int 1), (12, .long ((-(gu a.toNatClampNeg)) - (((-(gu a.toNatClampNeg)) / ((gd a.toNatClampNeg) * unit)) * ((gd a.toNatClampNeg) * unit)))), (10, .long ((-(gu a.toNatClampNeg)) / ((gd a.toNatClampNeg) * unit))), (9, .int 0), (7, .long (-(gu a.toNatClampNeg))), (5, .long ((gd a.toNatClampNeg) * unit)), (0, .ref m0), (1, .int a), (2, .int rule), (3, .long unit)]) hx hb d_mo_round_216 hl (by decide) rfl (fun ls hl => ?_)
                          refine lv_iload hx hb d_mo_round_218 (lv_at hl 4 rfl) ?_
                          refine lv_if_eq (tgt := 229) hx hb d_mo_round_220 (by decide) (fun c_81 => ?_) (fun c_81 => ?_)
                          · refine lv_lload hx hb d_mo_round_229 (lv_at hl 0 rfl) ?_
                            exact W.lret (v := (((-(gu a.toNatClampNeg)) / ((gd a.toNatClampNeg) * unit)) + 1) * unit) hx hb hr (fun t ht hW => ⟨⟨(((-(gu a.toNatClampNeg)) / ((gd a.toNatClampNeg) * unit)) + 1) * unit, 0, rfl, by unfold f_mo_round; rw [if_neg c_2, if_neg c_3, if_neg c_4, if_neg c_5, if_pos c_6, if_neg c_7, if_pos c_59, if_neg c_60, if_neg c_63, if_neg c_78], by rw [ht]; exact hP, va_K.moved hW.alike hK, hD⟩, hS.F ht⟩) hS.2.2 d_mo_round_231
                          · exact absurd c_81 (by decide)
                    · refine lv_iconst (v := 1) hx hb d_mo_round_133 (by decide) ?_
                      refine lv_goto (tgt := 138) hx hb d_mo_round_134 (by decide) ?_
                      refine lv_iload hx hb d_mo_round_138 (lv_at hl 3 rfl) ?_
                      refine lv_icmp_ne (tgt := 147) hx hb d_mo_round_140 (by decide) (fun c_82 => ?_) (fun c_82 => ?_)
                      · refine lv_iconst (v := 0) hx hb d_mo_round_147 (by decide) ?_
                        refine lv_istore (lv' := [(14, .int 0), (12, .long ((-(gu a.toNatClampNeg)) - (((-(gu a.toNatClampNeg)) / ((gd a.toNatClampNeg) * unit)) * ((gd a.toNatClampNeg) * unit)))), (10, .long ((-(gu a.toNatClampNeg)) / ((gd a.toNatClampNeg) * unit))), (9, .int 0), (7, .long (-(gu a.toNatClampNeg))), (5, .long ((gd a.toNatClampNeg) * unit)), (0, .ref m0), (1, .int a), (2, .int rule), (3, .long unit)]) hx hb d_mo_round_148 hl (by decide) rfl (fun ls hl => ?_)
                        refine lv_goto (tgt := 200) hx hb d_mo_round_150 (by decide) ?_
                        refine lv_iload hx hb d_mo_round_200 (lv_at hl 0 rfl) ?_
                        refine lv_if_eq (tgt := 212) hx hb d_mo_round_202 (by decide) (fun c_83 => ?_) (fun c_83 => ?_)
                        · refine lv_lload hx hb d_mo_round_212 (lv_at hl 2 rfl) ?_
                          refine lv_lload_n hx hb d_mo_round_214 rfl (lv_at hl 9 rfl) ?_
                          refine lv_lmul hx hb d_mo_round_215 ?_
                          refine lv_lstore (lv' := [(15, .long (((-(gu a.toNatClampNeg)) / ((gd a.toNatClampNeg) * unit)) * unit)), (14, .int 0), (12, .long ((-(gu a.toNatClampNeg)) - (((-(gu a.toNatClampNeg)) / ((gd a.toNatClampNeg) * unit)) * ((gd a.toNatClampNeg) * unit)))), (10, .long ((-(gu a.toNatClampNeg)) / ((gd a.toNatClampNeg) * unit))), (9, .int 0), (7, .long (-(gu a.toNatClampNeg))), (5, .long ((gd a.toNatClampNeg) * unit)), (0, .ref m0), (1, .int a), (2, .int rule), (3, .long unit)]) hx hb d_mo_round_216 hl (by decide) rfl (fun ls hl => ?_)
                          refine lv_iload hx hb d_mo_round_218 (lv_at hl 4 rfl) ?_
                          refine lv_if_eq (tgt := 229) hx hb d_mo_round_220 (by decide) (fun c_84 => ?_) (fun c_84 => ?_)
                          · refine lv_lload hx hb d_mo_round_229 (lv_at hl 0 rfl) ?_
                            exact W.lret (v := ((-(gu a.toNatClampNeg)) / ((gd a.toNatClampNeg) * unit)) * unit) hx hb hr (fun t ht hW => ⟨⟨((-(gu a.toNatClampNeg)) / ((gd a.toNatClampNeg) * unit)) * unit, 0, rfl, by unfold f_mo_round; rw [if_neg c_2, if_neg c_3, if_neg c_4, if_neg c_5, if_pos c_6, if_neg c_7, if_pos c_59, if_neg c_60, if_neg c_63, if_pos c_78], by rw [ht]; exact hP, va_K.moved hW.alike hK, hD⟩, hS.F ht⟩) hS.2.2 d_mo_round_231
                          · exact absurd c_84 (by decide)
                        · exact absurd c_83 (by decide)
                      · exact absurd c_82 (by decide)
              · refine lv_iconst (v := 1) hx hb d_mo_round_90 (by decide) ?_
                refine lv_goto (tgt := 95) hx hb d_mo_round_91 (by decide) ?_
                refine lv_istore (lv' := [(9, .int 1), (7, .long (-(gu a.toNatClampNeg))), (5, .long ((gd a.toNatClampNeg) * unit)), (0, .ref m0), (1, .int a), (2, .int rule), (3, .long unit)]) hx hb d_mo_round_95 hl (by decide) rfl (fun ls hl => ?_)
                refine lv_lload hx hb d_mo_round_97 (lv_at hl 1 rfl) ?_
                refine lv_lload hx hb d_mo_round_99 (lv_at hl 2 rfl) ?_
                refine lv_ldiv hx hb d_mo_round_101 (hby c_2 c_5 c_6) ?_
                refine lv_lstore (lv' := [(10, .long ((-(gu a.toNatClampNeg)) / ((gd a.toNatClampNeg) * unit))), (9, .int 1), (7, .long (-(gu a.toNatClampNeg))), (5, .long ((gd a.toNatClampNeg) * unit)), (0, .ref m0), (1, .int a), (2, .int rule), (3, .long unit)]) hx hb d_mo_round_102 hl (by decide) rfl (fun ls hl => ?_)
                refine lv_lload hx hb d_mo_round_104 (lv_at hl 2 rfl) ?_
                refine lv_lload hx hb d_mo_round_106 (lv_at hl 0 rfl) ?_
                refine lv_lload hx hb d_mo_round_108 (lv_at hl 3 rfl) ?_
                refine lv_lmul hx hb d_mo_round_110 ?_
                refine lv_lsub hx hb d_mo_round_111 ?_
                refine lv_lstore (lv' := [(12, .long ((-(gu a.toNatClampNeg)) - (((-(gu a.toNatClampNeg)) / ((gd a.toNatClampNeg) * unit)) * ((gd a.toNatClampNeg) * unit)))), (10, .long ((-(gu a.toNatClampNeg)) / ((gd a.toNatClampNeg) * unit))), (9, .int 1), (7, .long (-(gu a.toNatClampNeg))), (5, .long ((gd a.toNatClampNeg) * unit)), (0, .ref m0), (1, .int a), (2, .int rule), (3, .long unit)]) hx hb d_mo_round_112 hl (by decide) rfl (fun ls hl => ?_)
                refine lv_iconst (v := 0) hx hb d_mo_round_114 (by decide) ?_
                refine lv_istore (lv' := [(14, .int 0), (12, .long ((-(gu a.toNatClampNeg)) - (((-(gu a.toNatClampNeg)) / ((gd a.toNatClampNeg) * unit)) * ((gd a.toNatClampNeg) * unit)))), (10, .long ((-(gu a.toNatClampNeg)) / ((gd a.toNatClampNeg) * unit))), (9, .int 1), (7, .long (-(gu a.toNatClampNeg))), (5, .long ((gd a.toNatClampNeg) * unit)), (0, .ref m0), (1, .int a), (2, .int rule), (3, .long unit)]) hx hb d_mo_round_115 hl (by decide) rfl (fun ls hl => ?_)
                refine lv_lload hx hb d_mo_round_117 (lv_at hl 1 rfl) ?_
                refine lv_lconst (v := 0) hx hb d_mo_round_119 (by decide) ?_
                refine lx_ifle (tgt := 200) hx hb d_mo_round_120 d_mo_round_121 (by decide) (fun c_85 => ?_) (fun c_85 => ?_)
                · refine lv_iload hx hb d_mo_round_200 (lv_at hl 0 rfl) ?_
                  refine lv_if_eq (tgt := 212) hx hb d_mo_round_202 (by decide) (fun c_86 => ?_) (fun c_86 => ?_)
                  · refine lv_lload hx hb d_mo_round_212 (lv_at hl 2 rfl) ?_
                    refine lv_lload_n hx hb d_mo_round_214 rfl (lv_at hl 9 rfl) ?_
                    refine lv_lmul hx hb d_mo_round_215 ?_
                    refine lv_lstore (lv' := [(15, .long (((-(gu a.toNatClampNeg)) / ((gd a.toNatClampNeg) * unit)) * unit)), (14, .int 0), (12, .long ((-(gu a.toNatClampNeg)) - (((-(gu a.toNatClampNeg)) / ((gd a.toNatClampNeg) * unit)) * ((gd a.toNatClampNeg) * unit)))), (10, .long ((-(gu a.toNatClampNeg)) / ((gd a.toNatClampNeg) * unit))), (9, .int 1), (7, .long (-(gu a.toNatClampNeg))), (5, .long ((gd a.toNatClampNeg) * unit)), (0, .ref m0), (1, .int a), (2, .int rule), (3, .long unit)]) hx hb d_mo_round_216 hl (by decide) rfl (fun ls hl => ?_)
                    refine lv_iload hx hb d_mo_round_218 (lv_at hl 4 rfl) ?_
                    refine lv_if_eq (tgt := 229) hx hb d_mo_round_220 (by decide) (fun c_87 => ?_) (fun c_87 => ?_)
                    · exact absurd c_87 (by decide)
                    · refine lv_lload hx hb d_mo_round_223 (lv_at hl 0 rfl) ?_
                      refine lv_lneg hx hb d_mo_round_225 ?_
                      refine lv_goto (tgt := 231) hx hb d_mo_round_226 (by decide) ?_
                      exact W.lret (v := -(((-(gu a.toNatClampNeg)) / ((gd a.toNatClampNeg) * unit)) * unit)) hx hb hr (fun t ht hW => ⟨⟨-(((-(gu a.toNatClampNeg)) / ((gd a.toNatClampNeg) * unit)) * unit), 0, rfl, by unfold f_mo_round; rw [if_neg c_2, if_neg c_3, if_neg c_4, if_neg c_5, if_pos c_6, if_neg c_7, if_neg c_59, if_pos c_85], by rw [ht]; exact hP, va_K.moved hW.alike hK, hD⟩, hS.F ht⟩) hS.2.2 d_mo_round_231
                  · exact absurd c_86 (by decide)
                · refine lv_iload_n hx hb d_mo_round_124 rfl (lv_at hl 8 rfl) ?_
                  refine lv_iconst (v := 2) hx hb d_mo_round_125 (by decide) ?_
                  refine lv_icmp_ge (tgt := 153) hx hb d_mo_round_126 (by decide) (fun c_88 => ?_) (fun c_88 => ?_)
                  · refine lv_ldc2 (v := 2) hx hb hown (hT _ k_170) d_mo_round_153 ?_
                    refine lv_lload hx hb d_mo_round_156 (lv_at hl 1 rfl) ?_
                    refine lv_lmul hx hb d_mo_round_158 ?_
                    refine lv_lstore (lv' := [(15, .long (2 * ((-(gu a.toNatClampNeg)) - (((-(gu a.toNatClampNeg)) / ((gd a.toNatClampNeg) * unit)) * ((gd a.toNatClampNeg) * unit))))), (14, .int 0), (12, .long ((-(gu a.toNatClampNeg)) - (((-(gu a.toNatClampNeg)) / ((gd a.toNatClampNeg) * unit)) * ((gd a.toNatClampNeg) * unit)))), (10, .long ((-(gu a.toNatClampNeg)) / ((gd a.toNatClampNeg) * unit))), (9, .int 1), (7, .long (-(gu a.toNatClampNeg))), (5, .long ((gd a.toNatClampNeg) * unit)), (0, .ref m0), (1, .int a), (2, .int rule), (3, .long unit)]) hx hb d_mo_round_159 hl (by decide) rfl (fun ls hl => ?_)
                    refine lv_lload hx hb d_mo_round_161 (lv_at hl 0 rfl) ?_
                    refine lv_lload hx hb d_mo_round_163 (lv_at hl 6 rfl) ?_
                    refine lx_ifgt (tgt := 193) hx hb d_mo_round_165 d_mo_round_166 (by decide) (fun c_89 => ?_) (fun c_89 => ?_)
                    · refine lv_iconst (v := 1) hx hb d_mo_round_193 (by decide) ?_
                      refine lv_goto (tgt := 198) hx hb d_mo_round_194 (by decide) ?_
                      refine lv_istore (lv' := [(14, .int 1), (15, .long (2 * ((-(gu a.toNatClampNeg)) - (((-(gu a.toNatClampNeg)) / ((gd a.toNatClampNeg) * unit)) * ((gd a.toNatClampNeg) * unit))))), (12, .long ((-(gu a.toNatClampNeg)) - (((-(gu a.toNatClampNeg)) / ((gd a.toNatClampNeg) * unit)) * ((gd a.toNatClampNeg) * unit)))), (10, .long ((-(gu a.toNatClampNeg)) / ((gd a.toNatClampNeg) * unit))), (9, .int 1), (7, .long (-(gu a.toNatClampNeg))), (5, .long ((gd a.toNatClampNeg) * unit)), (0, .ref m0), (1, .int a), (2, .int rule), (3, .long unit)]) hx hb d_mo_round_198 hl (by decide) rfl (fun ls hl => ?_)
                      refine lv_iload hx hb d_mo_round_200 (lv_at hl 0 rfl) ?_
                      refine lv_if_eq (tgt := 212) hx hb d_mo_round_202 (by decide) (fun c_90 => ?_) (fun c_90 => ?_)
                      · exact absurd c_90 (by decide)
                      · refine lv_lload hx hb d_mo_round_205 (lv_at hl 3 rfl) ?_
                        refine lv_lconst (v := 1) hx hb d_mo_round_207 (by decide) ?_
                        refine lv_ladd hx hb d_mo_round_208 ?_
                        refine lv_goto (tgt := 214) hx hb d_mo_round_209 (by decide) ?_
                        refine lv_lload_n hx hb d_mo_round_214 rfl (lv_at hl 10 rfl) ?_
                        refine lv_lmul hx hb d_mo_round_215 ?_
                        refine lv_lstore (lv' := [(15, .long ((((-(gu a.toNatClampNeg)) / ((gd a.toNatClampNeg) * unit)) + 1) * unit)), (14, .int 1), (12, .long ((-(gu a.toNatClampNeg)) - (((-(gu a.toNatClampNeg)) / ((gd a.toNatClampNeg) * unit)) * ((gd a.toNatClampNeg) * unit)))), (10, .long ((-(gu a.toNatClampNeg)) / ((gd a.toNatClampNeg) * unit))), (9, .int 1), (7, .long (-(gu a.toNatClampNeg))), (5, .long ((gd a.toNatClampNeg) * unit)), (0, .ref m0), (1, .int a), (2, .int rule), (3, .long unit)]) hx hb d_mo_round_216 hl (by decide) rfl (fun ls hl => ?_)
                        refine lv_iload hx hb d_mo_round_218 (lv_at hl 4 rfl) ?_
                        refine lv_if_eq (tgt := 229) hx hb d_mo_round_220 (by decide) (fun c_91 => ?_) (fun c_91 => ?_)
                        · exact absurd c_91 (by decide)
                        · refine lv_lload hx hb d_mo_round_223 (lv_at hl 0 rfl) ?_
                          refine lv_lneg hx hb d_mo_round_225 ?_
                          refine lv_goto (tgt := 231) hx hb d_mo_round_226 (by decide) ?_
                          exact W.lret (v := -((((-(gu a.toNatClampNeg)) / ((gd a.toNatClampNeg) * unit)) + 1) * unit)) hx hb hr (fun t ht hW => ⟨⟨-((((-(gu a.toNatClampNeg)) / ((gd a.toNatClampNeg) * unit)) + 1) * unit), 0, rfl, by unfold f_mo_round; rw [if_neg c_2, if_neg c_3, if_neg c_4, if_neg c_5, if_pos c_6, if_neg c_7, if_neg c_59, if_neg c_85, if_pos c_88, if_pos c_89], by rw [ht]; exact hP, va_K.moved hW.alike hK, hD⟩, hS.F ht⟩) hS.2.2 d_mo_round_231
                    · refine lv_lload hx hb d_mo_round_169 (lv_at hl 0 rfl) ?_
                      refine lv_lload hx hb d_mo_round_171 (lv_at hl 6 rfl) ?_
                      refine lx_ifne (tgt := 197) hx hb d_mo_round_173 d_mo_round_174 (by decide) (fun c_92 => ?_) (fun c_92 => ?_)
                      · refine lv_iconst (v := 0) hx hb d_mo_round_197 (by decide) ?_
                        refine lv_istore (lv' := [(14, .int 0), (15, .long (2 * ((-(gu a.toNatClampNeg)) - (((-(gu a.toNatClampNeg)) / ((gd a.toNatClampNeg) * unit)) * ((gd a.toNatClampNeg) * unit))))), (12, .long ((-(gu a.toNatClampNeg)) - (((-(gu a.toNatClampNeg)) / ((gd a.toNatClampNeg) * unit)) * ((gd a.toNatClampNeg) * unit)))), (10, .long ((-(gu a.toNatClampNeg)) / ((gd a.toNatClampNeg) * unit))), (9, .int 1), (7, .long (-(gu a.toNatClampNeg))), (5, .long ((gd a.toNatClampNeg) * unit)), (0, .ref m0), (1, .int a), (2, .int rule), (3, .long unit)]) hx hb d_mo_round_198 hl (by decide) rfl (fun ls hl => ?_)
                        refine lv_iload hx hb d_mo_round_200 (lv_at hl 0 rfl) ?_
                        refine lv_if_eq (tgt := 212) hx hb d_mo_round_202 (by decide) (fun c_93 => ?_) (fun c_93 => ?_)
                        · refine lv_lload hx hb d_mo_round_212 (lv_at hl 3 rfl) ?_
                          refine lv_lload_n hx hb d_mo_round_214 rfl (lv_at hl 10 rfl) ?_
                          refine lv_lmul hx hb d_mo_round_215 ?_
                          refine lv_lstore (lv' := [(15, .long (((-(gu a.toNatClampNeg)) / ((gd a.toNatClampNeg) * unit)) * unit)), (14, .int 0), (12, .long ((-(gu a.toNatClampNeg)) - (((-(gu a.toNatClampNeg)) / ((gd a.toNatClampNeg) * unit)) * ((gd a.toNatClampNeg) * unit)))), (10, .long ((-(gu a.toNatClampNeg)) / ((gd a.toNatClampNeg) * unit))), (9, .int 1), (7, .long (-(gu a.toNatClampNeg))), (5, .long ((gd a.toNatClampNeg) * unit)), (0, .ref m0), (1, .int a), (2, .int rule), (3, .long unit)]) hx hb d_mo_round_216 hl (by decide) rfl (fun ls hl => ?_)
                          refine lv_iload hx hb d_mo_round_218 (lv_at hl 4 rfl) ?_
                          refine lv_if_eq (tgt := 229) hx hb d_mo_round_220 (by decide) (fun c_94 => ?_) (fun c_94 => ?_)
                          · exact absurd c_94 (by decide)
                          · refine lv_lload hx hb d_mo_round_223 (lv_at hl 0 rfl) ?_
                            refine lv_lneg hx hb d_mo_round_225 ?_
                            refine lv_goto (tgt := 231) hx hb d_mo_round_226 (by decide) ?_
                            exact W.lret (v := -(((-(gu a.toNatClampNeg)) / ((gd a.toNatClampNeg) * unit)) * unit)) hx hb hr (fun t ht hW => ⟨⟨-(((-(gu a.toNatClampNeg)) / ((gd a.toNatClampNeg) * unit)) * unit), 0, rfl, by unfold f_mo_round; rw [if_neg c_2, if_neg c_3, if_neg c_4, if_neg c_5, if_pos c_6, if_neg c_7, if_neg c_59, if_neg c_85, if_pos c_88, if_neg c_89, if_neg c_92], by rw [ht]; exact hP, va_K.moved hW.alike hK, hD⟩, hS.F ht⟩) hS.2.2 d_mo_round_231
                        · exact absurd c_93 (by decide)
                      · refine lv_iload_n hx hb d_mo_round_177 rfl (lv_at hl 9 rfl) ?_
                        refine lv_iconst (v := 2) hx hb d_mo_round_178 (by decide) ?_
                        refine lv_icmp_eq (tgt := 193) hx hb d_mo_round_179 (by decide) (fun c_95 => ?_) (fun c_95 => ?_)
                        · refine lv_iconst (v := 1) hx hb d_mo_round_193 (by decide) ?_
                          refine lv_goto (tgt := 198) hx hb d_mo_round_194 (by decide) ?_
                          refine lv_istore (lv' := [(14, .int 1), (15, .long (2 * ((-(gu a.toNatClampNeg)) - (((-(gu a.toNatClampNeg)) / ((gd a.toNatClampNeg) * unit)) * ((gd a.toNatClampNeg) * unit))))), (12, .long ((-(gu a.toNatClampNeg)) - (((-(gu a.toNatClampNeg)) / ((gd a.toNatClampNeg) * unit)) * ((gd a.toNatClampNeg) * unit)))), (10, .long ((-(gu a.toNatClampNeg)) / ((gd a.toNatClampNeg) * unit))), (9, .int 1), (7, .long (-(gu a.toNatClampNeg))), (5, .long ((gd a.toNatClampNeg) * unit)), (0, .ref m0), (1, .int a), (2, .int rule), (3, .long unit)]) hx hb d_mo_round_198 hl (by decide) rfl (fun ls hl => ?_)
                          refine lv_iload hx hb d_mo_round_200 (lv_at hl 0 rfl) ?_
                          refine lv_if_eq (tgt := 212) hx hb d_mo_round_202 (by decide) (fun c_96 => ?_) (fun c_96 => ?_)
                          · exact absurd c_96 (by decide)
                          · refine lv_lload hx hb d_mo_round_205 (lv_at hl 3 rfl) ?_
                            refine lv_lconst (v := 1) hx hb d_mo_round_207 (by decide) ?_
                            refine lv_ladd hx hb d_mo_round_208 ?_
                            refine lv_goto (tgt := 214) hx hb d_mo_round_209 (by decide) ?_
                            refine lv_lload_n hx hb d_mo_round_214 rfl (lv_at hl 10 rfl) ?_
                            refine lv_lmul hx hb d_mo_round_215 ?_
                            refine lv_lstore (lv' := [(15, .long ((((-(gu a.toNatClampNeg)) / ((gd a.toNatClampNeg) * unit)) + 1) * unit)), (14, .int 1), (12, .long ((-(gu a.toNatClampNeg)) - (((-(gu a.toNatClampNeg)) / ((gd a.toNatClampNeg) * unit)) * ((gd a.toNatClampNeg) * unit)))), (10, .long ((-(gu a.toNatClampNeg)) / ((gd a.toNatClampNeg) * unit))), (9, .int 1), (7, .long (-(gu a.toNatClampNeg))), (5, .long ((gd a.toNatClampNeg) * unit)), (0, .ref m0), (1, .int a), (2, .int rule), (3, .long unit)]) hx hb d_mo_round_216 hl (by decide) rfl (fun ls hl => ?_)
                            refine lv_iload hx hb d_mo_round_218 (lv_at hl 4 rfl) ?_
                            refine lv_if_eq (tgt := 229) hx hb d_mo_round_220 (by decide) (fun c_97 => ?_) (fun c_97 => ?_)
                            · exact absurd c_97 (by decide)
                            · refine lv_lload hx hb d_mo_round_223 (lv_at hl 0 rfl) ?_
                              refine lv_lneg hx hb d_mo_round_225 ?_
                              refine lv_goto (tgt := 231) hx hb d_mo_round_226 (by decide) ?_
                              exact W.lret (v := -((((-(gu a.toNatClampNeg)) / ((gd a.toNatClampNeg) * unit)) + 1) * unit)) hx hb hr (fun t ht hW => ⟨⟨-((((-(gu a.toNatClampNeg)) / ((gd a.toNatClampNeg) * unit)) + 1) * unit), 0, rfl, by unfold f_mo_round; rw [if_neg c_2, if_neg c_3, if_neg c_4, if_neg c_5, if_pos c_6, if_neg c_7, if_neg c_59, if_neg c_85, if_pos c_88, if_neg c_89, if_pos c_92, if_pos c_95], by rw [ht]; exact hP, va_K.moved hW.alike hK, hD⟩, hS.F ht⟩) hS.2.2 d_mo_round_231
                        · refine lv_lload hx hb d_mo_round_182 (lv_at hl 3 rfl) ?_
                          refine lv_ldc2 (v := 2) hx hb hown (hT _ k_170) d_mo_round_184 ?_
                          refine lv_lrem hx hb d_mo_round_187 (by decide) ?_
                          refine lv_lconst (v := 1) hx hb d_mo_round_188 (by decide) ?_
                          refine lx_ifne (tgt := 197) hx hb d_mo_round_189 d_mo_round_190 (by decide) (fun c_98 => ?_) (fun c_98 => ?_)
                          · refine lv_iconst (v := 0) hx hb d_mo_round_197 (by decide) ?_
                            refine lv_istore (lv' := [(14, .int 0), (15, .long (2 * ((-(gu a.toNatClampNeg)) - (((-(gu a.toNatClampNeg)) / ((gd a.toNatClampNeg) * unit)) * ((gd a.toNatClampNeg) * unit))))), (12, .long ((-(gu a.toNatClampNeg)) - (((-(gu a.toNatClampNeg)) / ((gd a.toNatClampNeg) * unit)) * ((gd a.toNatClampNeg) * unit)))), (10, .long ((-(gu a.toNatClampNeg)) / ((gd a.toNatClampNeg) * unit))), (9, .int 1), (7, .long (-(gu a.toNatClampNeg))), (5, .long ((gd a.toNatClampNeg) * unit)), (0, .ref m0), (1, .int a), (2, .int rule), (3, .long unit)]) hx hb d_mo_round_198 hl (by decide) rfl (fun ls hl => ?_)
                            refine lv_iload hx hb d_mo_round_200 (lv_at hl 0 rfl) ?_
                            refine lv_if_eq (tgt := 212) hx hb d_mo_round_202 (by decide) (fun c_99 => ?_) (fun c_99 => ?_)
                            · refine lv_lload hx hb d_mo_round_212 (lv_at hl 3 rfl) ?_
                              refine lv_lload_n hx hb d_mo_round_214 rfl (lv_at hl 10 rfl) ?_
                              refine lv_lmul hx hb d_mo_round_215 ?_
                              refine lv_lstore (lv' := [(15, .long (((-(gu a.toNatClampNeg)) / ((gd a.toNatClampNeg) * unit)) * unit)), (14, .int 0), (12, .long ((-(gu a.toNatClampNeg)) - (((-(gu a.toNatClampNeg)) / ((gd a.toNatClampNeg) * unit)) * ((gd a.toNatClampNeg) * unit)))), (10, .long ((-(gu a.toNatClampNeg)) / ((gd a.toNatClampNeg) * unit))), (9, .int 1), (7, .long (-(gu a.toNatClampNeg))), (5, .long ((gd a.toNatClampNeg) * unit)), (0, .ref m0), (1, .int a), (2, .int rule), (3, .long unit)]) hx hb d_mo_round_216 hl (by decide) rfl (fun ls hl => ?_)
                              refine lv_iload hx hb d_mo_round_218 (lv_at hl 4 rfl) ?_
                              refine lv_if_eq (tgt := 229) hx hb d_mo_round_220 (by decide) (fun c_100 => ?_) (fun c_100 => ?_)
                              · exact absurd c_100 (by decide)
                              · refine lv_lload hx hb d_mo_round_223 (lv_at hl 0 rfl) ?_
                                refine lv_lneg hx hb d_mo_round_225 ?_
                                refine lv_goto (tgt := 231) hx hb d_mo_round_226 (by decide) ?_
                                exact W.lret (v := -(((-(gu a.toNatClampNeg)) / ((gd a.toNatClampNeg) * unit)) * unit)) hx hb hr (fun t ht hW => ⟨⟨-(((-(gu a.toNatClampNeg)) / ((gd a.toNatClampNeg) * unit)) * unit), 0, rfl, by unfold f_mo_round; rw [if_neg c_2, if_neg c_3, if_neg c_4, if_neg c_5, if_pos c_6, if_neg c_7, if_neg c_59, if_neg c_85, if_pos c_88, if_neg c_89, if_pos c_92, if_neg c_95, if_neg c_98], by rw [ht]; exact hP, va_K.moved hW.alike hK, hD⟩, hS.F ht⟩) hS.2.2 d_mo_round_231
                            · exact absurd c_99 (by decide)
                          · refine lv_iconst (v := 1) hx hb d_mo_round_193 (by decide) ?_
                            refine lv_goto (tgt := 198) hx hb d_mo_round_194 (by decide) ?_
                            refine lv_istore (lv' := [(14, .int 1), (15, .long (2 * ((-(gu a.toNatClampNeg)) - (((-(gu a.toNatClampNeg)) / ((gd a.toNatClampNeg) * unit)) * ((gd a.toNatClampNeg) * unit))))), (12, .long ((-(gu a.toNatClampNeg)) - (((-(gu a.toNatClampNeg)) / ((gd a.toNatClampNeg) * unit)) * ((gd a.toNatClampNeg) * unit)))), (10, .long ((-(gu a.toNatClampNeg)) / ((gd a.toNatClampNeg) * unit))), (9, .int 1), (7, .long (-(gu a.toNatClampNeg))), (5, .long ((gd a.toNatClampNeg) * unit)), (0, .ref m0), (1, .int a), (2, .int rule), (3, .long unit)]) hx hb d_mo_round_198 hl (by decide) rfl (fun ls hl => ?_)
                            refine lv_iload hx hb d_mo_round_200 (lv_at hl 0 rfl) ?_
                            refine lv_if_eq (tgt := 212) hx hb d_mo_round_202 (by decide) (fun c_101 => ?_) (fun c_101 => ?_)
                            · exact absurd c_101 (by decide)
                            · refine lv_lload hx hb d_mo_round_205 (lv_at hl 3 rfl) ?_
                              refine lv_lconst (v := 1) hx hb d_mo_round_207 (by decide) ?_
                              refine lv_ladd hx hb d_mo_round_208 ?_
                              refine lv_goto (tgt := 214) hx hb d_mo_round_209 (by decide) ?_
                              refine lv_lload_n hx hb d_mo_round_214 rfl (lv_at hl 10 rfl) ?_
                              refine lv_lmul hx hb d_mo_round_215 ?_
                              refine lv_lstore (lv' := [(15, .long ((((-(gu a.toNatClampNeg)) / ((gd a.toNatClampNeg) * unit)) + 1) * unit)), (14, .int 1), (12, .long ((-(gu a.toNatClampNeg)) - (((-(gu a.toNatClampNeg)) / ((gd a.toNatClampNeg) * unit)) * ((gd a.toNatClampNeg) * unit)))), (10, .long ((-(gu a.toNatClampNeg)) / ((gd a.toNatClampNeg) * unit))), (9, .int 1), (7, .long (-(gu a.toNatClampNeg))), (5, .long ((gd a.toNatClampNeg) * unit)), (0, .ref m0), (1, .int a), (2, .int rule), (3, .long unit)]) hx hb d_mo_round_216 hl (by decide) rfl (fun ls hl => ?_)
                              refine lv_iload hx hb d_mo_round_218 (lv_at hl 4 rfl) ?_
                              refine lv_if_eq (tgt := 229) hx hb d_mo_round_220 (by decide) (fun c_102 => ?_) (fun c_102 => ?_)
                              · exact absurd c_102 (by decide)
                              · refine lv_lload hx hb d_mo_round_223 (lv_at hl 0 rfl) ?_
                                refine lv_lneg hx hb d_mo_round_225 ?_
                                refine lv_goto (tgt := 231) hx hb d_mo_round_226 (by decide) ?_
                                exact W.lret (v := -((((-(gu a.toNatClampNeg)) / ((gd a.toNatClampNeg) * unit)) + 1) * unit)) hx hb hr (fun t ht hW => ⟨⟨-((((-(gu a.toNatClampNeg)) / ((gd a.toNatClampNeg) * unit)) + 1) * unit), 0, rfl, by unfold f_mo_round; rw [if_neg c_2, if_neg c_3, if_neg c_4, if_neg c_5, if_pos c_6, if_neg c_7, if_neg c_59, if_neg c_85, if_pos c_88, if_neg c_89, if_pos c_92, if_neg c_95, if_pos c_98], by rw [ht]; exact hP, va_K.moved hW.alike hK, hD⟩, hS.F ht⟩) hS.2.2 d_mo_round_231
                  · refine lv_iload_n hx hb d_mo_round_129 rfl (lv_at hl 8 rfl) ?_
                    refine lv_if_ne (tgt := 137) hx hb d_mo_round_130 (by decide) (fun c_103 => ?_) (fun c_103 => ?_)
                    · refine lv_iconst (v := 0) hx hb d_mo_round_137 (by decide) ?_
                      refine lv_iload hx hb d_mo_round_138 (lv_at hl 3 rfl) ?_
                      refine lv_icmp_ne (tgt := 147) hx hb d_mo_round_140 (by decide) (fun c_104 => ?_) (fun c_104 => ?_)
                      · refine lv_iconst (v := 0) hx hb d_mo_round_147 (by decide) ?_
                        refine lv_istore (lv' := [(14, .int 0), (12, .long ((-(gu a.toNatClampNeg)) - (((-(gu a.toNatClampNeg)) / ((gd a.toNatClampNeg) * unit)) * ((gd a.toNatClampNeg) * unit)))), (10, .long ((-(gu a.toNatClampNeg)) / ((gd a.toNatClampNeg) * unit))), (9, .int 1), (7, .long (-(gu a.toNatClampNeg))), (5, .long ((gd a.toNatClampNeg) * unit)), (0, .ref m0), (1, .int a), (2, .int rule), (3, .long unit)]) hx hb d_mo_round_148 hl (by decide) rfl (fun ls hl => ?_)
                        refine lv_goto (tgt := 200) hx hb d_mo_round_150 (by decide) ?_
                        refine lv_iload hx hb d_mo_round_200 (lv_at hl 0 rfl) ?_
                        refine lv_if_eq (tgt := 212) hx hb d_mo_round_202 (by decide) (fun c_105 => ?_) (fun c_105 => ?_)
                        · refine lv_lload hx hb d_mo_round_212 (lv_at hl 2 rfl) ?_
                          refine lv_lload_n hx hb d_mo_round_214 rfl (lv_at hl 9 rfl) ?_
                          refine lv_lmul hx hb d_mo_round_215 ?_
                          refine lv_lstore (lv' := [(15, .long (((-(gu a.toNatClampNeg)) / ((gd a.toNatClampNeg) * unit)) * unit)), (14, .int 0), (12, .long ((-(gu a.toNatClampNeg)) - (((-(gu a.toNatClampNeg)) / ((gd a.toNatClampNeg) * unit)) * ((gd a.toNatClampNeg) * unit)))), (10, .long ((-(gu a.toNatClampNeg)) / ((gd a.toNatClampNeg) * unit))), (9, .int 1), (7, .long (-(gu a.toNatClampNeg))), (5, .long ((gd a.toNatClampNeg) * unit)), (0, .ref m0), (1, .int a), (2, .int rule), (3, .long unit)]) hx hb d_mo_round_216 hl (by decide) rfl (fun ls hl => ?_)
                          refine lv_iload hx hb d_mo_round_218 (lv_at hl 4 rfl) ?_
                          refine lv_if_eq (tgt := 229) hx hb d_mo_round_220 (by decide) (fun c_106 => ?_) (fun c_106 => ?_)
                          · exact absurd c_106 (by decide)
                          · refine lv_lload hx hb d_mo_round_223 (lv_at hl 0 rfl) ?_
                            refine lv_lneg hx hb d_mo_round_225 ?_
                            refine lv_goto (tgt := 231) hx hb d_mo_round_226 (by decide) ?_
                            exact W.lret (v := -(((-(gu a.toNatClampNeg)) / ((gd a.toNatClampNeg) * unit)) * unit)) hx hb hr (fun t ht hW => ⟨⟨-(((-(gu a.toNatClampNeg)) / ((gd a.toNatClampNeg) * unit)) * unit), 0, rfl, by unfold f_mo_round; rw [if_neg c_2, if_neg c_3, if_neg c_4, if_neg c_5, if_pos c_6, if_neg c_7, if_neg c_59, if_neg c_85, if_neg c_88, if_neg c_103], by rw [ht]; exact hP, va_K.moved hW.alike hK, hD⟩, hS.F ht⟩) hS.2.2 d_mo_round_231
                        · exact absurd c_105 (by decide)
                      · exact absurd c_104 (by decide)
                    · refine lv_iconst (v := 1) hx hb d_mo_round_133 (by decide) ?_
                      refine lv_goto (tgt := 138) hx hb d_mo_round_134 (by decide) ?_
                      refine lv_iload hx hb d_mo_round_138 (lv_at hl 3 rfl) ?_
                      refine lv_icmp_ne (tgt := 147) hx hb d_mo_round_140 (by decide) (fun c_107 => ?_) (fun c_107 => ?_)
                      · exact absurd c_107 (by decide)
                      · refine lv_iconst (v := 1) hx hb d_mo_round_143 (by decide) ?_
                        refine lv_goto (tgt := 148) hx hb d_mo_round_144 (by decide) ?_
                        refine lv_istore (lv' := [(14, .int 1), (12, .long ((-(gu a.toNatClampNeg)) - (((-(gu a.toNatClampNeg)) / ((gd a.toNatClampNeg) * unit)) * ((gd a.toNatClampNeg) * unit)))), (10, .long ((-(gu a.toNatClampNeg)) / ((gd a.toNatClampNeg) * unit))), (9, .int 1), (7, .long (-(gu a.toNatClampNeg))), (5, .long ((gd a.toNatClampNeg) * unit)), (0, .ref m0), (1, .int a), (2, .int rule), (3, .long unit)]) hx hb d_mo_round_148 hl (by decide) rfl (fun ls hl => ?_)
                        refine lv_goto (tgt := 200) hx hb d_mo_round_150 (by decide) ?_
                        refine lv_iload hx hb d_mo_round_200 (lv_at hl 0 rfl) ?_
                        refine lv_if_eq (tgt := 212) hx hb d_mo_round_202 (by decide) (fun c_108 => ?_) (fun c_108 => ?_)
                        · exact absurd c_108 (by decide)
                        · refine lv_lload hx hb d_mo_round_205 (lv_at hl 2 rfl) ?_
                          refine lv_lconst (v := 1) hx hb d_mo_round_207 (by decide) ?_
                          refine lv_ladd hx hb d_mo_round_208 ?_
                          refine lv_goto (tgt := 214) hx hb d_mo_round_209 (by decide) ?_
                          refine lv_lload_n hx hb d_mo_round_214 rfl (lv_at hl 9 rfl) ?_
                          refine lv_lmul hx hb d_mo_round_215 ?_
                          refine lv_lstore (lv' := [(15, .long ((((-(gu a.toNatClampNeg)) / ((gd a.toNatClampNeg) * unit)) + 1) * unit)), (14, .int 1), (12, .long ((-(gu a.toNatClampNeg)) - (((-(gu a.toNatClampNeg)) / ((gd a.toNatClampNeg) * unit)) * ((gd a.toNatClampNeg) * unit)))), (10, .long ((-(gu a.toNatClampNeg)) / ((gd a.toNatClampNeg) * unit))), (9, .int 1), (7, .long (-(gu a.toNatClampNeg))), (5, .long ((gd a.toNatClampNeg) * unit)), (0, .ref m0), (1, .int a), (2, .int rule), (3, .long unit)]) hx hb d_mo_round_216 hl (by decide) rfl (fun ls hl => ?_)
                          refine lv_iload hx hb d_mo_round_218 (lv_at hl 4 rfl) ?_
                          refine lv_if_eq (tgt := 229) hx hb d_mo_round_220 (by decide) (fun c_109 => ?_) (fun c_109 => ?_)
                          · exact absurd c_109 (by decide)
                          · refine lv_lload hx hb d_mo_round_223 (lv_at hl 0 rfl) ?_
                            refine lv_lneg hx hb d_mo_round_225 ?_
                            refine lv_goto (tgt := 231) hx hb d_mo_round_226 (by decide) ?_
                            exact W.lret (v := -((((-(gu a.toNatClampNeg)) / ((gd a.toNatClampNeg) * unit)) + 1) * unit)) hx hb hr (fun t ht hW => ⟨⟨-((((-(gu a.toNatClampNeg)) / ((gd a.toNatClampNeg) * unit)) + 1) * unit), 0, rfl, by unfold f_mo_round; rw [if_neg c_2, if_neg c_3, if_neg c_4, if_neg c_5, if_pos c_6, if_neg c_7, if_neg c_59, if_neg c_85, if_neg c_88, if_pos c_103], by rw [ht]; exact hP, va_K.moved hW.alike hK, hD⟩, hS.F ht⟩) hS.2.2 d_mo_round_231
          · refine lv_ldc2 (v := (-9223372036854775808)) hx hb hown (hT _ k_163) d_mo_round_36 ?_
            exact W.lret (v := (-9223372036854775808)) hx hb hr (fun t ht hW => ⟨⟨(-9223372036854775808), 0, rfl, by unfold f_mo_round; rw [if_neg c_2, if_neg c_3, if_neg c_4, if_neg c_5, if_neg c_6], by rw [ht]; exact hP, va_K.moved hW.alike hK, hD⟩, hS.F ht⟩) hS.2.2 d_mo_round_39
def dgL : Nat → Int64 → Int64
  | 0, v => v
  | n + 1, v => dgL n (v / 10)
set_option maxHeartbeats 4000000 in
theorem lp_mo_digit {p : Program} {l : Launch} {e : Env} {R : Room} {s : State} {m : MethodId} {args : Array Value} {below : List Frame} {meth : Method} {c : Code} {Q : State → Prop} {H : Heap} {locs : List Loc} {m0 : Nat} {i : Int32} {N : Nat} (hx : p.tables.exec = Jvm.exec) (hb : c.code = b_mo_digit) (hT : ∀ w ∈ kt_T, w.before args s = true) (hown : s.vm.findClass R_mo = some m.cls) (hN : N < 10) (hi : i = nI N) :
    ∀ (n j : Nat) (v : Int64), j + n = N → (∀ (ls : Array Slot), lv_has ls 7 [(0, .ref m0), (3, .int i), (4, .long (dgL n v))] → W p l e R s m args below meth c H locs 0 0 Q (F0 m 100 ls [])) → ∀ (ls : Array Slot), lv_has ls 7 [(0, .ref m0), (3, .int i), (4, .long v), (6, .int (nI j))] → W p l e R s m args below meth c H locs 0 0 Q (F0 m 80 ls []) := by
  intro n
  induction n with
  | zero =>
    intro j v hj hk ls hl
    refine lv_iload hx hb d_mo_digit_80 (lv_at hl 3 rfl) ?_
    refine lv_iload_n hx hb d_mo_digit_82 rfl (lv_at hl 1 rfl) ?_
    refine lv_icmp_ge (tgt := 100) hx hb d_mo_digit_83 (by decide) (fun c_1 => ?_) (fun c_1 => ?_)
    · exact hk ls (lv_sub hl [0, 1, 2] rfl)
    · exact absurd (by rw [hi, ← hj]; exact nI_le (Nat.le_refl _) (by omega)) c_1
  | succ n ih =>
    intro j v hj hk ls hl
    refine lv_iload hx hb d_mo_digit_80 (lv_at hl 3 rfl) ?_
    refine lv_iload_n hx hb d_mo_digit_82 rfl (lv_at hl 1 rfl) ?_
    refine lv_icmp_ge (tgt := 100) hx hb d_mo_digit_83 (by decide) (fun c_2 => ?_) (fun c_2 => ?_)
    · exact absurd c_2 (by rw [hi]; exact nI_ge (by omega) (by omega))
    · refine lv_lload hx hb d_mo_digit_86 (lv_at hl 2 rfl) ?_
      refine lv_ldc2 (v := 10) hx hb hown (hT _ k_171) d_mo_digit_88 ?_
      refine lv_ldiv hx hb d_mo_digit_91 (by decide) ?_
      refine lv_lstore (lv' := [(4, .long (v / 10)), (0, .ref m0), (3, .int i), (6, .int (nI j))]) hx hb d_mo_digit_92 hl (by decide) rfl (fun ls hl => ?_)
      refine lv_iinc (v := (nI j) + 1) (lv' := [(6, .int ((nI j) + 1)), (4, .long (v / 10)), (0, .ref m0), (3, .int i)]) hx hb d_mo_digit_94 hl (k := 3) rfl rfl (by decide) rfl (fun ls hl => ?_)
      refine lv_goto (tgt := 80) hx hb d_mo_digit_97 (by decide) ?_
      exact ih (j + 1) (v / 10) (by omega) hk ls (by have h9 := lv_sub hl [2, 3, 1, 0] rfl; rw [nI_1] at h9; exact h9)
theorem nI_le9 {i : Int32} (h : ¬ i < 0) (h2 : i ≤ 9) : i.toNatClampNeg < 10 := by
  obtain ⟨j, hj, rfl⟩ := nI_of h
  rw [nI_clamp hj]
  exact Nat.lt_succ_of_le ((nI_leI hj (by decide)).mp h2)
def f_mo_digit (mv : Int32) (gu : Nat → Int64) (gd : Nat → Int64) (a : Int32) (q : Int32) (i : Int32) : Int32 × Int32 :=
  if (f_mo_isValue mv a) = 0 then ((-1), 0) else if q < 0 then ((-1), 0) else if 1 < q then ((-1), 0) else if i < 0 then ((-1), 0) else if i ≤ 9 then if q = 1 then if (dgL i.toNatClampNeg (gd a.toNatClampNeg)) = 0 then if i ≤ 0 then (((dgL i.toNatClampNeg (gd a.toNatClampNeg)) - (dgL i.toNatClampNeg (gd a.toNatClampNeg)) / 10 * 10).toInt32, 0) else ((-1), 0) else (((dgL i.toNatClampNeg (gd a.toNatClampNeg)) - (dgL i.toNatClampNeg (gd a.toNatClampNeg)) / 10 * 10).toInt32, 0) else if 0 ≤ (gu a.toNatClampNeg) then if (dgL i.toNatClampNeg (gu a.toNatClampNeg)) = 0 then if i ≤ 0 then (((dgL i.toNatClampNeg (gu a.toNatClampNeg)) - (dgL i.toNatClampNeg (gu a.toNatClampNeg)) / 10 * 10).toInt32, 0) else ((-1), 0) else (((dgL i.toNatClampNeg (gu a.toNatClampNeg)) - (dgL i.toNatClampNeg (gu a.toNatClampNeg)) / 10 * 10).toInt32, 0) else if (dgL i.toNatClampNeg (-(gu a.toNatClampNeg))) = 0 then if i ≤ 0 then (((dgL i.toNatClampNeg (-(gu a.toNatClampNeg))) - (dgL i.toNatClampNeg (-(gu a.toNatClampNeg))) / 10 * 10).toInt32, 0) else ((-1), 0) else (((dgL i.toNatClampNeg (-(gu a.toNatClampNeg))) - (dgL i.toNatClampNeg (-(gu a.toNatClampNeg))) / 10 * 10).toInt32, 0) else ((-1), 0)
set_option maxHeartbeats 4000000 in
set_option maxRecDepth 100000 in
theorem c_mo_digit (l : Launch) (dC : Nat → ClassId) (dI : Nat → Nat → Nat) (sz : Nat) (m0 : Nat) (mu : Nat) (md : Nat) (th : Int32) (mk : Int32) (mv : Int32) (up : Int64) (dn : Int64) (mr : Int32) (mc : Nat) (me : Nat) (so : Int32) (mau : Nat) (mad : Nat) (mw : Int32) (mwg : Nat) (mgv : Nat) (msq : Nat) (cmu : ClassId) (gu : Nat → Int64) (cmd : ClassId) (gd : Nat → Int64) (a : Int32) (q : Int32) (i : Int32) (hv : vp_in mv 301) : Met l y_mo_digit w_mo_digit ({ frames := 1, cells := 0, slots := 0, locals := 21 }) (va_Pc [.ref m0, .int a, .int q, .int i] (fun U => U.heap.size = sz ∧ va_P (dC, dI) classes [(m0, .inr (4, [.int th, .int mk, .int mv, .ref mu, .ref md, .long up, .long dn, .int mr, .ref mc, .ref me, .int so, .ref mau, .ref mad, .int mw, .ref mwg, .ref mgv, .ref msq])), (mu, .inl (cmu, 300, .inr (.inl gu))), (md, .inl (cmd, 300, .inr (.inl gd)))] U.heap ∧ va_K (dC, dI) classes [(cmu, .long), (cmd, .long)] U ∧ va_D (fun _ => True) [(m0, .inr (4, [.int th, .int mk, .int mv, .ref mu, .ref md, .long up, .long dn, .int mr, .ref mc, .ref me, .int so, .ref mau, .ref mad, .int mw, .ref mwg, .ref mgv, .ref msq])), (mu, .inl (cmu, 300, .inr (.inl gu))), (md, .inl (cmd, 300, .inr (.inl gd)))])) (va_Qi (fun z9 u9 => (z9, u9) = f_mo_digit mv gu gd a q i) (fun (u : Int32) t => match u with | th' => va_P (dC, dI) classes [(m0, .inr (4, [.int th', .int mk, .int mv, .ref mu, .ref md, .long up, .long dn, .int mr, .ref mc, .ref me, .int so, .ref mau, .ref mad, .int mw, .ref mwg, .ref mgv, .ref msq])), (mu, .inl (cmu, 300, .inr (.inl gu))), (md, .inl (cmd, 300, .inr (.inl gd)))] t.heap ∧ va_K (dC, dI) classes [(cmu, .long), (cmd, .long)] t ∧ va_D (va_A [(m0, .inr (4, [.int th, .int mk, .int mv, .ref mu, .ref md, .long up, .long dn, .int mr, .ref mc, .ref me, .int so, .ref mau, .ref mad, .int mw, .ref mwg, .ref mgv, .ref msq])), (mu, .inl (cmu, 300, .inr (.inl gu))), (md, .inl (cmd, 300, .inr (.inl gd)))] sz) [(m0, .inr (4, [.int th', .int mk, .int mv, .ref mu, .ref md, .long up, .long dn, .int mr, .ref mc, .ref me, .int so, .ref mau, .ref mad, .int mw, .ref mwg, .ref mgv, .ref msq])), (mu, .inl (cmu, 300, .inr (.inl gu))), (md, .inl (cmd, 300, .inr (.inl gd)))]) (va_A [(m0, .inr (4, [.int th, .int mk, .int mv, .ref mu, .ref md, .long up, .long dn, .int mr, .ref mc, .ref me, .int so, .ref mau, .ref mad, .int mw, .ref mwg, .ref mgv, .ref msq])), (mu, .inl (cmu, 300, .inr (.inl gu))), (md, .inl (cmd, 300, .inr (.inl gd)))] sz)) 0 0 (va_A [(m0, .inr (4, [.int th, .int mk, .int mv, .ref mu, .ref md, .long up, .long dn, .int mr, .ref mc, .ref me, .int so, .ref mau, .ref mad, .int mw, .ref mwg, .ref mgv, .ref msq])), (mu, .inl (cmu, 300, .inr (.inl gu))), (md, .inl (cmd, 300, .inr (.inl gd)))] sz) := by
  refine Met.ofW (cc := b_mo_digit) (maxL := 7) (ret := (some .int)) (by decide +kernel) rfl ?_
  intro p e s m args below meth c s₁ B hml hv
  obtain ⟨rfl, hsz, hP, hK, hD0⟩ := hv
  have hx := B.exec
  have hb := B.bytes
  have hr := B.returns
  have hts := atoms_spec (ws := w_mo_digit) B.pre
  have hT := fun (w : Cond) (h : w ∈ kt_T) => hts w (List.mem_cons_of_mem _ h)
  have hown : s.vm.findClass R_mo = some m.cls := findClass_of_methodNamed B.named
  have hlocks := B.notSynchronized
  subst hsz
  have hD := hD0.self (sz := s.heap.size)
  generalize hAe : va_A [(m0, .inr (4, [.int th, .int mk, .int mv, .ref mu, .ref md, .long up, .long dn, .int mr, .ref mc, .ref me, .int so, .ref mau, .ref mad, .int mw, .ref mwg, .ref mgv, .ref msq])), (mu, .inl (cmu, 300, .inr (.inl gu))), (md, .inl (cmd, 300, .inr (.inl gd)))] s.heap.size = A at hD ⊢
  have hA : ∀ q : Nat, s.heap.size ≤ q → A q := fun q h => by rw [← hAe]; exact Or.inr h
  have hS : va_S A s.heap s.heap [] := va_S.rf
  have hl := lv_entry ([.ref m0, .int a, .int q, .int i]) (n := 7) (Nat.le_of_ble_eq_true rfl)
  rw [lg_entry_eq]
  generalize (lg_sl ([.ref m0, .int a, .int q, .int i]) ++ List.replicate (7 - (lg_sl ([.ref m0, .int a, .int q, .int i])).length) Slot.unset).toArray = ls at hl ⊢
  have hl : lv_has ls 7 [(0, .ref m0), (1, .int a), (2, .int q), (3, .int i)] := hl
  refine lv_aload_n hx hb d_mo_digit_0 rfl (lv_at hl 0 rfl) ?_
  refine lv_iconst (v := 0) hx hb d_mo_digit_1 (by decide) ?_
  refine va_put (D := (dC, dI)) (ci := 4) (v := .int 0) (ty := .int) (C := R_mo) (T := F_mo) (N := 17) hx hb hT i_mo t_mo t_mo_ok n_mo hown hK hP hD hS 0 rfl rfl 0 (by decide) (hT _ k_127) (fun _ h9 => h9) rfl (by decide +kernel) rfl rfl (Nat.le_of_ble_eq_true rfl) d_mo_digit_2 (fun H locs hP hD hS => ?_)
  have hP : va_P (dC, dI) classes [(m0, .inr (4, [.int 0, .int mk, .int mv, .ref mu, .ref md, .long up, .long dn, .int mr, .ref mc, .ref me, .int so, .ref mau, .ref mad, .int mw, .ref mwg, .ref mgv, .ref msq])), (mu, .inl (cmu, 300, .inr (.inl gu))), (md, .inl (cmd, 300, .inr (.inl gd)))] H := hP
  have hD : va_D A [(m0, .inr (4, [.int 0, .int mk, .int mv, .ref mu, .ref md, .long up, .long dn, .int mr, .ref mc, .ref me, .int so, .ref mau, .ref mad, .int mw, .ref mwg, .ref mgv, .ref msq])), (mu, .inl (cmu, 300, .inr (.inl gu))), (md, .inl (cmd, 300, .inr (.inl gd)))] := hD
  refine lv_aload_n hx hb d_mo_digit_5 rfl (lv_at hl 0 rfl) ?_
  refine lv_iload_n hx hb d_mo_digit_6 rfl (lv_at hl 1 rfl) ?_
  have hPc := hP.sub (ws' := [(m0, .inr (4, [.int 0, .int mk, .int mv, .ref mu, .ref md, .long up, .long dn, .int mr, .ref mc, .ref me, .int so, .ref mau, .ref mad, .int mw, .ref mwg, .ref mgv, .ref msq]))]) [0] rfl
  have hKc := hK.sub (tys' := []) [] rfl
  refine vp_callSi (W.runV (As := [.int a]) (rest := []) ⟨hx, hb, hml, hown, hT⟩ (c_mo_isValue l dC dI m0 0 mk mv mu md up dn mr mc me so mau mad mw mwg mgv msq a) (cwV 1 hT (kt_V k_152 k_150 k_151 k_136 k_149) rfl rfl rfl (by decide +kernel) ⟨Nat.le_of_ble_eq_true rfl, Nat.le_of_ble_eq_true rfl⟩) ⟨bl_R, va_recv hKc hPc (ci := 4) (q0 := 0) rfl rfl, fun U hU hW => ⟨rfl, by rw [hU]; exact hPc, va_K.moved hW.alike hKc⟩⟩ rfl rfl hl.1 rfl (lv_room (Nat.le_of_ble_eq_true rfl)) d_mo_digit_7 ⟨Nat.zero_le _, Nat.zero_le _⟩) (fun r_1 e_r_1 => ?_)
  subst e_r_1
  refine lv_if_eq (tgt := 32) hx hb d_mo_digit_10 (by decide) (fun c_2 => ?_) (fun c_2 => ?_)
  · refine lv_iconst (v := (-1)) hx hb d_mo_digit_32 (by decide) ?_
    exact W.iret (v := (-1)) hx hb hr (fun t ht hW => ⟨⟨(-1), 0, rfl, by unfold f_mo_digit; rw [if_pos c_2], by rw [ht]; exact hP, va_K.moved hW.alike hK, hD⟩, hS.F ht⟩) hS.2.2 d_mo_digit_33
  · refine lv_iload_n hx hb d_mo_digit_13 rfl (lv_at hl 2 rfl) ?_
    refine lv_if_lt (tgt := 32) hx hb d_mo_digit_14 (by decide) (fun c_3 => ?_) (fun c_3 => ?_)
    · refine lv_iconst (v := (-1)) hx hb d_mo_digit_32 (by decide) ?_
      exact W.iret (v := (-1)) hx hb hr (fun t ht hW => ⟨⟨(-1), 0, rfl, by unfold f_mo_digit; rw [if_neg c_2, if_pos c_3], by rw [ht]; exact hP, va_K.moved hW.alike hK, hD⟩, hS.F ht⟩) hS.2.2 d_mo_digit_33
    · refine lv_iload_n hx hb d_mo_digit_17 rfl (lv_at hl 2 rfl) ?_
      refine lv_iconst (v := 1) hx hb d_mo_digit_18 (by decide) ?_
      refine lv_icmp_gt (tgt := 32) hx hb d_mo_digit_19 (by decide) (fun c_4 => ?_) (fun c_4 => ?_)
      · refine lv_iconst (v := (-1)) hx hb d_mo_digit_32 (by decide) ?_
        exact W.iret (v := (-1)) hx hb hr (fun t ht hW => ⟨⟨(-1), 0, rfl, by unfold f_mo_digit; rw [if_neg c_2, if_neg c_3, if_pos c_4], by rw [ht]; exact hP, va_K.moved hW.alike hK, hD⟩, hS.F ht⟩) hS.2.2 d_mo_digit_33
      · refine lv_iload_n hx hb d_mo_digit_22 rfl (lv_at hl 3 rfl) ?_
        refine lv_if_lt (tgt := 32) hx hb d_mo_digit_23 (by decide) (fun c_5 => ?_) (fun c_5 => ?_)
        · refine lv_iconst (v := (-1)) hx hb d_mo_digit_32 (by decide) ?_
          exact W.iret (v := (-1)) hx hb hr (fun t ht hW => ⟨⟨(-1), 0, rfl, by unfold f_mo_digit; rw [if_neg c_2, if_neg c_3, if_neg c_4, if_pos c_5], by rw [ht]; exact hP, va_K.moved hW.alike hK, hD⟩, hS.F ht⟩) hS.2.2 d_mo_digit_33
        · refine lv_iload_n hx hb d_mo_digit_26 rfl (lv_at hl 3 rfl) ?_
          refine lv_bipush (v := 9) hx hb d_mo_digit_27 (by decide) ?_
          refine lv_icmp_le (tgt := 34) hx hb d_mo_digit_29 (by decide) (fun c_6 => ?_) (fun c_6 => ?_)
          · refine lv_iload_n hx hb d_mo_digit_34 rfl (lv_at hl 2 rfl) ?_
            refine lv_iconst (v := 1) hx hb d_mo_digit_35 (by decide) ?_
            refine lv_icmp_ne (tgt := 48) hx hb d_mo_digit_36 (by decide) (fun c_7 => ?_) (fun c_7 => ?_)
            · refine lv_aload_n hx hb d_mo_digit_48 rfl (lv_at hl 0 rfl) ?_
              refine va_get (D := (dC, dI)) (ci := 4) (v := .ref mu) (C := R_mo) (T := F_mo) (N := 17) hx hb hT i_mo hown hK hP 0 rfl rfl 3 (by decide) (hT _ k_143) (fun _ h9 => h9) rfl d_mo_digit_49 ?_
              refine lv_iload_n hx hb d_mo_digit_52 rfl (lv_at hl 1 rfl) ?_
              refine va_lald hx hb hK hP 1 0 rfl rfl (in_iv hv c_2) d_mo_digit_53 ?_
              refine lv_lconst (v := 0) hx hb d_mo_digit_54 (by decide) ?_
              refine lx_ifge (tgt := 69) hx hb d_mo_digit_55 d_mo_digit_56 (by decide) (fun c_8 => ?_) (fun c_8 => ?_)
              · refine lv_aload_n hx hb d_mo_digit_69 rfl (lv_at hl 0 rfl) ?_
                refine va_get (D := (dC, dI)) (ci := 4) (v := .ref mu) (C := R_mo) (T := F_mo) (N := 17) hx hb hT i_mo hown hK hP 0 rfl rfl 3 (by decide) (hT _ k_143) (fun _ h9 => h9) rfl d_mo_digit_70 ?_
                refine lv_iload_n hx hb d_mo_digit_73 rfl (lv_at hl 1 rfl) ?_
                refine va_lald hx hb hK hP 1 0 rfl rfl (in_iv hv c_2) d_mo_digit_74 ?_
                refine lv_lstore (lv' := [(4, .long (gu a.toNatClampNeg)), (0, .ref m0), (1, .int a), (2, .int q), (3, .int i)]) hx hb d_mo_digit_75 hl (by decide) rfl (fun ls hl => ?_)
                refine lv_iconst (v := 0) hx hb d_mo_digit_77 (by decide) ?_
                refine lv_istore (lv' := [(6, .int 0), (4, .long (gu a.toNatClampNeg)), (0, .ref m0), (1, .int a), (2, .int q), (3, .int i)]) hx hb d_mo_digit_78 hl (by decide) rfl (fun ls hl => ?_)
                obtain ⟨hi1, hi2⟩ := nI_self c_5
                refine lp_mo_digit hx hb hT hown (nI_le9 c_5 c_6) hi1 i.toNatClampNeg 0 (gu a.toNatClampNeg) (Nat.zero_add _) (fun ls hl => ?_) ls (lv_sub hl [2, 5, 1, 0] rfl)
                refine lv_lload hx hb d_mo_digit_100 (lv_at hl 2 rfl) ?_
                refine lv_lconst (v := 0) hx hb d_mo_digit_102 (by decide) ?_
                refine lx_ifne (tgt := 115) hx hb d_mo_digit_103 d_mo_digit_104 (by decide) (fun c_9 => ?_) (fun c_9 => ?_)
                · refine lv_lload hx hb d_mo_digit_115 (lv_at hl 2 rfl) ?_
                  refine lv_ldc2 (v := 10) hx hb hown (hT _ k_171) d_mo_digit_117 ?_
                  refine lv_lrem hx hb d_mo_digit_120 (by decide) ?_
                  refine lv_l2i (v := ((dgL i.toNatClampNeg (gu a.toNatClampNeg)) - (dgL i.toNatClampNeg (gu a.toNatClampNeg)) / 10 * 10).toInt32) hx hb d_mo_digit_121 rfl ?_
                  exact W.iret (v := ((dgL i.toNatClampNeg (gu a.toNatClampNeg)) - (dgL i.toNatClampNeg (gu a.toNatClampNeg)) / 10 * 10).toInt32) hx hb hr (fun t ht hW => ⟨⟨((dgL i.toNatClampNeg (gu a.toNatClampNeg)) - (dgL i.toNatClampNeg (gu a.toNatClampNeg)) / 10 * 10).toInt32, 0, rfl, by unfold f_mo_digit; rw [if_neg c_2, if_neg c_3, if_neg c_4, if_neg c_5, if_pos c_6, if_neg c_7, if_pos c_8, if_neg c_9], by rw [ht]; exact hP, va_K.moved hW.alike hK, hD⟩, hS.F ht⟩) hS.2.2 d_mo_digit_122
                · refine lv_iload_n hx hb d_mo_digit_107 rfl (lv_at hl 1 rfl) ?_
                  refine lv_if_le (tgt := 115) hx hb d_mo_digit_108 (by decide) (fun c_10 => ?_) (fun c_10 => ?_)
                  · refine lv_lload hx hb d_mo_digit_115 (lv_at hl 2 rfl) ?_
                    refine lv_ldc2 (v := 10) hx hb hown (hT _ k_171) d_mo_digit_117 ?_
                    refine lv_lrem hx hb d_mo_digit_120 (by decide) ?_
                    refine lv_l2i (v := ((dgL i.toNatClampNeg (gu a.toNatClampNeg)) - (dgL i.toNatClampNeg (gu a.toNatClampNeg)) / 10 * 10).toInt32) hx hb d_mo_digit_121 rfl ?_
                    exact W.iret (v := ((dgL i.toNatClampNeg (gu a.toNatClampNeg)) - (dgL i.toNatClampNeg (gu a.toNatClampNeg)) / 10 * 10).toInt32) hx hb hr (fun t ht hW => ⟨⟨((dgL i.toNatClampNeg (gu a.toNatClampNeg)) - (dgL i.toNatClampNeg (gu a.toNatClampNeg)) / 10 * 10).toInt32, 0, rfl, by unfold f_mo_digit; rw [if_neg c_2, if_neg c_3, if_neg c_4, if_neg c_5, if_pos c_6, if_neg c_7, if_pos c_8, if_pos c_9, if_pos c_10], by rw [ht]; exact hP, va_K.moved hW.alike hK, hD⟩, hS.F ht⟩) hS.2.2 d_mo_digit_122
                  · refine lv_iconst (v := (-1)) hx hb d_mo_digit_111 (by decide) ?_
                    refine lv_goto (tgt := 122) hx hb d_mo_digit_112 (by decide) ?_
                    exact W.iret (v := (-1)) hx hb hr (fun t ht hW => ⟨⟨(-1), 0, rfl, by unfold f_mo_digit; rw [if_neg c_2, if_neg c_3, if_neg c_4, if_neg c_5, if_pos c_6, if_neg c_7, if_pos c_8, if_pos c_9, if_neg c_10], by rw [ht]; exact hP, va_K.moved hW.alike hK, hD⟩, hS.F ht⟩) hS.2.2 d_mo_digit_122
              · refine lv_aload_n hx hb d_mo_digit_59 rfl (lv_at hl 0 rfl) ?_
                refine va_get (D := (dC, dI)) (ci := 4) (v := .ref mu) (C := R_mo) (T := F_mo) (N := 17) hx hb hT i_mo hown hK hP 0 rfl rfl 3 (by decide) (hT _ k_143) (fun _ h9 => h9) rfl d_mo_digit_60 ?_
                refine lv_iload_n hx hb d_mo_digit_63 rfl (lv_at hl 1 rfl) ?_
                refine va_lald hx hb hK hP 1 0 rfl rfl (in_iv hv c_2) d_mo_digit_64 ?_
                refine lv_lneg hx hb d_mo_digit_65 ?_
                refine lv_goto (tgt := 75) hx hb d_mo_digit_66 (by decide) ?_
                refine lv_lstore (lv' := [(4, .long (-(gu a.toNatClampNeg))), (0, .ref m0), (1, .int a), (2, .int q), (3, .int i)]) hx hb d_mo_digit_75 hl (by decide) rfl (fun ls hl => ?_)
                refine lv_iconst (v := 0) hx hb d_mo_digit_77 (by decide) ?_
                refine lv_istore (lv' := [(6, .int 0), (4, .long (-(gu a.toNatClampNeg))), (0, .ref m0), (1, .int a), (2, .int q), (3, .int i)]) hx hb d_mo_digit_78 hl (by decide) rfl (fun ls hl => ?_)
                obtain ⟨hi1, hi2⟩ := nI_self c_5
                refine lp_mo_digit hx hb hT hown (nI_le9 c_5 c_6) hi1 i.toNatClampNeg 0 (-(gu a.toNatClampNeg)) (Nat.zero_add _) (fun ls hl => ?_) ls (lv_sub hl [2, 5, 1, 0] rfl)
                refine lv_lload hx hb d_mo_digit_100 (lv_at hl 2 rfl) ?_
                refine lv_lconst (v := 0) hx hb d_mo_digit_102 (by decide) ?_
                refine lx_ifne (tgt := 115) hx hb d_mo_digit_103 d_mo_digit_104 (by decide) (fun c_11 => ?_) (fun c_11 => ?_)
                · refine lv_lload hx hb d_mo_digit_115 (lv_at hl 2 rfl) ?_
                  refine lv_ldc2 (v := 10) hx hb hown (hT _ k_171) d_mo_digit_117 ?_
                  refine lv_lrem hx hb d_mo_digit_120 (by decide) ?_
                  refine lv_l2i (v := ((dgL i.toNatClampNeg (-(gu a.toNatClampNeg))) - (dgL i.toNatClampNeg (-(gu a.toNatClampNeg))) / 10 * 10).toInt32) hx hb d_mo_digit_121 rfl ?_
                  exact W.iret (v := ((dgL i.toNatClampNeg (-(gu a.toNatClampNeg))) - (dgL i.toNatClampNeg (-(gu a.toNatClampNeg))) / 10 * 10).toInt32) hx hb hr (fun t ht hW => ⟨⟨((dgL i.toNatClampNeg (-(gu a.toNatClampNeg))) - (dgL i.toNatClampNeg (-(gu a.toNatClampNeg))) / 10 * 10).toInt32, 0, rfl, by unfold f_mo_digit; rw [if_neg c_2, if_neg c_3, if_neg c_4, if_neg c_5, if_pos c_6, if_neg c_7, if_neg c_8, if_neg c_11], by rw [ht]; exact hP, va_K.moved hW.alike hK, hD⟩, hS.F ht⟩) hS.2.2 d_mo_digit_122
                · refine lv_iload_n hx hb d_mo_digit_107 rfl (lv_at hl 1 rfl) ?_
                  refine lv_if_le (tgt := 115) hx hb d_mo_digit_108 (by decide) (fun c_12 => ?_) (fun c_12 => ?_)
                  · refine lv_lload hx hb d_mo_digit_115 (lv_at hl 2 rfl) ?_
                    refine lv_ldc2 (v := 10) hx hb hown (hT _ k_171) d_mo_digit_117 ?_
                    refine lv_lrem hx hb d_mo_digit_120 (by decide) ?_
                    refine lv_l2i (v := ((dgL i.toNatClampNeg (-(gu a.toNatClampNeg))) - (dgL i.toNatClampNeg (-(gu a.toNatClampNeg))) / 10 * 10).toInt32) hx hb d_mo_digit_121 rfl ?_
                    exact W.iret (v := ((dgL i.toNatClampNeg (-(gu a.toNatClampNeg))) - (dgL i.toNatClampNeg (-(gu a.toNatClampNeg))) / 10 * 10).toInt32) hx hb hr (fun t ht hW => ⟨⟨((dgL i.toNatClampNeg (-(gu a.toNatClampNeg))) - (dgL i.toNatClampNeg (-(gu a.toNatClampNeg))) / 10 * 10).toInt32, 0, rfl, by unfold f_mo_digit; rw [if_neg c_2, if_neg c_3, if_neg c_4, if_neg c_5, if_pos c_6, if_neg c_7, if_neg c_8, if_pos c_11, if_pos c_12], by rw [ht]; exact hP, va_K.moved hW.alike hK, hD⟩, hS.F ht⟩) hS.2.2 d_mo_digit_122
                  · refine lv_iconst (v := (-1)) hx hb d_mo_digit_111 (by decide) ?_
                    refine lv_goto (tgt := 122) hx hb d_mo_digit_112 (by decide) ?_
                    exact W.iret (v := (-1)) hx hb hr (fun t ht hW => ⟨⟨(-1), 0, rfl, by unfold f_mo_digit; rw [if_neg c_2, if_neg c_3, if_neg c_4, if_neg c_5, if_pos c_6, if_neg c_7, if_neg c_8, if_pos c_11, if_neg c_12], by rw [ht]; exact hP, va_K.moved hW.alike hK, hD⟩, hS.F ht⟩) hS.2.2 d_mo_digit_122
            · refine lv_aload_n hx hb d_mo_digit_39 rfl (lv_at hl 0 rfl) ?_
              refine va_get (D := (dC, dI)) (ci := 4) (v := .ref md) (C := R_mo) (T := F_mo) (N := 17) hx hb hT i_mo hown hK hP 0 rfl rfl 4 (by decide) (hT _ k_144) (fun _ h9 => h9) rfl d_mo_digit_40 ?_
              refine lv_iload_n hx hb d_mo_digit_43 rfl (lv_at hl 1 rfl) ?_
              refine va_lald hx hb hK hP 2 1 rfl rfl (in_iv hv c_2) d_mo_digit_44 ?_
              refine lv_goto (tgt := 75) hx hb d_mo_digit_45 (by decide) ?_
              refine lv_lstore (lv' := [(4, .long (gd a.toNatClampNeg)), (0, .ref m0), (1, .int a), (2, .int q), (3, .int i)]) hx hb d_mo_digit_75 hl (by decide) rfl (fun ls hl => ?_)
              refine lv_iconst (v := 0) hx hb d_mo_digit_77 (by decide) ?_
              refine lv_istore (lv' := [(6, .int 0), (4, .long (gd a.toNatClampNeg)), (0, .ref m0), (1, .int a), (2, .int q), (3, .int i)]) hx hb d_mo_digit_78 hl (by decide) rfl (fun ls hl => ?_)
              obtain ⟨hi1, hi2⟩ := nI_self c_5
              refine lp_mo_digit hx hb hT hown (nI_le9 c_5 c_6) hi1 i.toNatClampNeg 0 (gd a.toNatClampNeg) (Nat.zero_add _) (fun ls hl => ?_) ls (lv_sub hl [2, 5, 1, 0] rfl)
              refine lv_lload hx hb d_mo_digit_100 (lv_at hl 2 rfl) ?_
              refine lv_lconst (v := 0) hx hb d_mo_digit_102 (by decide) ?_
              refine lx_ifne (tgt := 115) hx hb d_mo_digit_103 d_mo_digit_104 (by decide) (fun c_13 => ?_) (fun c_13 => ?_)
              · refine lv_lload hx hb d_mo_digit_115 (lv_at hl 2 rfl) ?_
                refine lv_ldc2 (v := 10) hx hb hown (hT _ k_171) d_mo_digit_117 ?_
                refine lv_lrem hx hb d_mo_digit_120 (by decide) ?_
                refine lv_l2i (v := ((dgL i.toNatClampNeg (gd a.toNatClampNeg)) - (dgL i.toNatClampNeg (gd a.toNatClampNeg)) / 10 * 10).toInt32) hx hb d_mo_digit_121 rfl ?_
                exact W.iret (v := ((dgL i.toNatClampNeg (gd a.toNatClampNeg)) - (dgL i.toNatClampNeg (gd a.toNatClampNeg)) / 10 * 10).toInt32) hx hb hr (fun t ht hW => ⟨⟨((dgL i.toNatClampNeg (gd a.toNatClampNeg)) - (dgL i.toNatClampNeg (gd a.toNatClampNeg)) / 10 * 10).toInt32, 0, rfl, by unfold f_mo_digit; rw [if_neg c_2, if_neg c_3, if_neg c_4, if_neg c_5, if_pos c_6, if_pos c_7, if_neg c_13], by rw [ht]; exact hP, va_K.moved hW.alike hK, hD⟩, hS.F ht⟩) hS.2.2 d_mo_digit_122
              · refine lv_iload_n hx hb d_mo_digit_107 rfl (lv_at hl 1 rfl) ?_
                refine lv_if_le (tgt := 115) hx hb d_mo_digit_108 (by decide) (fun c_14 => ?_) (fun c_14 => ?_)
                · refine lv_lload hx hb d_mo_digit_115 (lv_at hl 2 rfl) ?_
                  refine lv_ldc2 (v := 10) hx hb hown (hT _ k_171) d_mo_digit_117 ?_
                  refine lv_lrem hx hb d_mo_digit_120 (by decide) ?_
                  refine lv_l2i (v := ((dgL i.toNatClampNeg (gd a.toNatClampNeg)) - (dgL i.toNatClampNeg (gd a.toNatClampNeg)) / 10 * 10).toInt32) hx hb d_mo_digit_121 rfl ?_
                  exact W.iret (v := ((dgL i.toNatClampNeg (gd a.toNatClampNeg)) - (dgL i.toNatClampNeg (gd a.toNatClampNeg)) / 10 * 10).toInt32) hx hb hr (fun t ht hW => ⟨⟨((dgL i.toNatClampNeg (gd a.toNatClampNeg)) - (dgL i.toNatClampNeg (gd a.toNatClampNeg)) / 10 * 10).toInt32, 0, rfl, by unfold f_mo_digit; rw [if_neg c_2, if_neg c_3, if_neg c_4, if_neg c_5, if_pos c_6, if_pos c_7, if_pos c_13, if_pos c_14], by rw [ht]; exact hP, va_K.moved hW.alike hK, hD⟩, hS.F ht⟩) hS.2.2 d_mo_digit_122
                · refine lv_iconst (v := (-1)) hx hb d_mo_digit_111 (by decide) ?_
                  refine lv_goto (tgt := 122) hx hb d_mo_digit_112 (by decide) ?_
                  exact W.iret (v := (-1)) hx hb hr (fun t ht hW => ⟨⟨(-1), 0, rfl, by unfold f_mo_digit; rw [if_neg c_2, if_neg c_3, if_neg c_4, if_neg c_5, if_pos c_6, if_pos c_7, if_pos c_13, if_neg c_14], by rw [ht]; exact hP, va_K.moved hW.alike hK, hD⟩, hS.F ht⟩) hS.2.2 d_mo_digit_122
          · refine lv_iconst (v := (-1)) hx hb d_mo_digit_32 (by decide) ?_
            exact W.iret (v := (-1)) hx hb hr (fun t ht hW => ⟨⟨(-1), 0, rfl, by unfold f_mo_digit; rw [if_neg c_2, if_neg c_3, if_neg c_4, if_neg c_5, if_neg c_6], by rw [ht]; exact hP, va_K.moved hW.alike hK, hD⟩, hS.F ht⟩) hS.2.2 d_mo_digit_33
/-- the reference's sum of a row: n kinds are left, from j on -/
def msL (gu gd : Nat → Int64) (gc : Nat → Int32) (row : Int32) : Nat → Nat → Int32 → Int64 → Int64 → Int64 → Int64 → Option (Int32 × Int64 × Int64) × Int64 × Int64
  | 0, _, y, u, v, up, dn => (some (y, u, v), up, dn)
  | n + 1, j, y, u, v, up, dn =>
    if (gc ((16 * row) + (nI j)).toNatClampNeg) < 0 then msL gu gd gc row n (j + 1) y u v up dn
    else if (f_mo_lowest ((u * (gd (gc ((16 * row) + (nI j)).toNatClampNeg).toNatClampNeg)) + ((gu (gc ((16 * row) + (nI j)).toNatClampNeg).toNatClampNeg) * v)) (v * (gd (gc ((16 * row) + (nI j)).toNatClampNeg).toNatClampNeg))).1 = 0 then (none, (f_mo_lowest ((u * (gd (gc ((16 * row) + (nI j)).toNatClampNeg).toNatClampNeg)) + ((gu (gc ((16 * row) + (nI j)).toNatClampNeg).toNatClampNeg) * v)) (v * (gd (gc ((16 * row) + (nI j)).toNatClampNeg).toNatClampNeg))).2.1, (f_mo_lowest ((u * (gd (gc ((16 * row) + (nI j)).toNatClampNeg).toNatClampNeg)) + ((gu (gc ((16 * row) + (nI j)).toNatClampNeg).toNatClampNeg) * v)) (v * (gd (gc ((16 * row) + (nI j)).toNatClampNeg).toNatClampNeg))).2.2)
    else msL gu gd gc row n (j + 1) 1 (f_mo_lowest ((u * (gd (gc ((16 * row) + (nI j)).toNatClampNeg).toNatClampNeg)) + ((gu (gc ((16 * row) + (nI j)).toNatClampNeg).toNatClampNeg) * v)) (v * (gd (gc ((16 * row) + (nI j)).toNatClampNeg).toNatClampNeg))).2.1 (f_mo_lowest ((u * (gd (gc ((16 * row) + (nI j)).toNatClampNeg).toNatClampNeg)) + ((gu (gc ((16 * row) + (nI j)).toNatClampNeg).toNatClampNeg) * v)) (v * (gd (gc ((16 * row) + (nI j)).toNatClampNeg).toNatClampNeg))).2.2 (f_mo_lowest ((u * (gd (gc ((16 * row) + (nI j)).toNatClampNeg).toNatClampNeg)) + ((gu (gc ((16 * row) + (nI j)).toNatClampNeg).toNatClampNeg) * v)) (v * (gd (gc ((16 * row) + (nI j)).toNatClampNeg).toNatClampNeg))).2.1 (f_mo_lowest ((u * (gd (gc ((16 * row) + (nI j)).toNatClampNeg).toNatClampNeg)) + ((gu (gc ((16 * row) + (nI j)).toNatClampNeg).toNatClampNeg) * v)) (v * (gd (gc ((16 * row) + (nI j)).toNatClampNeg).toNatClampNeg))).2.2
/-- on its way nothing is divided by 0, and all numbers of values are such -/
def msOk (gu gd : Nat → Int64) (gc : Nat → Int32) (row : Int32) : Nat → Nat → Int64 → Int64 → Prop
  | 0, _, _, _ => True
  | n + 1, j, u, v =>
    ((gc ((16 * row) + (nI j)).toNatClampNeg) < 0 → msOk gu gd gc row n (j + 1) u v) ∧
    (¬ (gc ((16 * row) + (nI j)).toNatClampNeg) < 0 → vp_in (gc ((16 * row) + (nI j)).toNatClampNeg) 300 ∧ ¬ (v * (gd (gc ((16 * row) + (nI j)).toNatClampNeg).toNatClampNeg)) = 0 ∧ (¬ (f_mo_lowest ((u * (gd (gc ((16 * row) + (nI j)).toNatClampNeg).toNatClampNeg)) + ((gu (gc ((16 * row) + (nI j)).toNatClampNeg).toNatClampNeg) * v)) (v * (gd (gc ((16 * row) + (nI j)).toNatClampNeg).toNatClampNeg))).1 = 0 → msOk gu gd gc row n (j + 1) (f_mo_lowest ((u * (gd (gc ((16 * row) + (nI j)).toNatClampNeg).toNatClampNeg)) + ((gu (gc ((16 * row) + (nI j)).toNatClampNeg).toNatClampNeg) * v)) (v * (gd (gc ((16 * row) + (nI j)).toNatClampNeg).toNatClampNeg))).2.1 (f_mo_lowest ((u * (gd (gc ((16 * row) + (nI j)).toNatClampNeg).toNatClampNeg)) + ((gu (gc ((16 * row) + (nI j)).toNatClampNeg).toNatClampNeg) * v)) (v * (gd (gc ((16 * row) + (nI j)).toNatClampNeg).toNatClampNeg))).2.2))
set_option maxHeartbeats 4000000 in
theorem lp_mo_sum {p : Program} {l : Launch} {e : Env} {R : Room} {s : State} {m : MethodId} {args : Array Value} {below : List Frame} {meth : Method} {c : Code} {dC : Nat → ClassId} {dI : Nat → Nat → Nat} {A : Nat → Prop} {Q : State → Prop} {m0 : Nat} {mu : Nat} {md : Nat} {mc : Nat} {mk : Int32} {mv : Int32} {mr : Int32} {me : Nat} {so : Int32} {mau : Nat} {mad : Nat} {mw : Int32} {mwg : Nat} {mgv : Nat} {msq : Nat} {cmu : ClassId} {gu : Nat → Int64} {cmd : ClassId} {gd : Nat → Int64} {cmc : ClassId} {gc : Nat → Int32} {row : Int32} {nk : Nat} (hx : p.tables.exec = Jvm.exec) (hb : c.code = b_mo_sum) (hml : c.maxLocals = 9) (hown : s.vm.findClass R_mo = some m.cls) (hT : ∀ w ∈ kt_T, w.before args s = true) (hA : ∀ q : Nat, s.heap.size ≤ q → A q) (hK : va_K (dC, dI) classes [(cmu, .long), (cmd, .long), (cmc, .int)] s) (hRf : 2 ≤ R.frames) (hRl : 51 ≤ R.locals) (hn : mk = nI nk ∧ nk ≤ 16) (hmr : vp_in mr 21) (hrow : ¬ f_mo_isRow mr row = 0) :
    ∀ (n j : Nat) (y : Int32) (u v U Z : Int64), j + n = nk → msOk gu gd gc row n j u v → (∀ (y2 : Int32) (u2 v2 U2 Z2 : Int64), (msL gu gd gc row n j y u v U Z) = (some (y2, u2, v2), U2, Z2) → ∀ (H : Heap) (locs : List Loc) (ls : Array Slot), va_P (dC, dI) classes [(m0, .inr (4, [.int 0, .int mk, .int mv, .ref mu, .ref md, .long U2, .long Z2, .int mr, .ref mc, .ref me, .int so, .ref mau, .ref mad, .int mw, .ref mwg, .ref mgv, .ref msq])), (mu, .inl (cmu, 300, .inr (.inl gu))), (md, .inl (cmd, 300, .inr (.inl gd))), (mc, .inl (cmc, 320, .inl gc))] H → va_D A [(m0, .inr (4, [.int 0, .int mk, .int mv, .ref mu, .ref md, .long U2, .long Z2, .int mr, .ref mc, .ref me, .int so, .ref mau, .ref mad, .int mw, .ref mwg, .ref mgv, .ref msq])), (mu, .inl (cmu, 300, .inr (.inl gu))), (md, .inl (cmd, 300, .inr (.inl gd))), (mc, .inl (cmc, 320, .inl gc))] → va_S A s.heap H locs → lv_has ls 9 [(0, .ref m0), (2, .int y2), (3, .long u2), (5, .long v2)] → W p l e R s m args below meth c H locs 0 0 Q (F0 m 111 ls [])) → (∀ (U2 Z2 : Int64), (msL gu gd gc row n j y u v U Z) = (none, U2, Z2) → ∀ (H : Heap) (locs : List Loc) (ls : Array Slot), va_P (dC, dI) classes [(m0, .inr (4, [.int 0, .int mk, .int mv, .ref mu, .ref md, .long U2, .long Z2, .int mr, .ref mc, .ref me, .int so, .ref mau, .ref mad, .int mw, .ref mwg, .ref mgv, .ref msq])), (mu, .inl (cmu, 300, .inr (.inl gu))), (md, .inl (cmd, 300, .inr (.inl gd))), (mc, .inl (cmc, 320, .inl gc))] H → va_D A [(m0, .inr (4, [.int 0, .int mk, .int mv, .ref mu, .ref md, .long U2, .long Z2, .int mr, .ref mc, .ref me, .int so, .ref mau, .ref mad, .int mw, .ref mwg, .ref mgv, .ref msq])), (mu, .inl (cmu, 300, .inr (.inl gu))), (md, .inl (cmd, 300, .inr (.inl gd))), (mc, .inl (cmc, 320, .inl gc))] → va_S A s.heap H locs → ls.size = 9 → W p l e R s m args below meth c H locs 0 0 Q (F0 m 93 ls [.int (-1)])) → ∀ (H : Heap) (locs : List Loc) (ls : Array Slot), va_P (dC, dI) classes [(m0, .inr (4, [.int 0, .int mk, .int mv, .ref mu, .ref md, .long U, .long Z, .int mr, .ref mc, .ref me, .int so, .ref mau, .ref mad, .int mw, .ref mwg, .ref mgv, .ref msq])), (mu, .inl (cmu, 300, .inr (.inl gu))), (md, .inl (cmd, 300, .inr (.inl gd))), (mc, .inl (cmc, 320, .inl gc))] H → va_D A [(m0, .inr (4, [.int 0, .int mk, .int mv, .ref mu, .ref md, .long U, .long Z, .int mr, .ref mc, .ref me, .int so, .ref mau, .ref mad, .int mw, .ref mwg, .ref mgv, .ref msq])), (mu, .inl (cmu, 300, .inr (.inl gu))), (md, .inl (cmd, 300, .inr (.inl gd))), (mc, .inl (cmc, 320, .inl gc))] → va_S A s.heap H locs → lv_has ls 9 [(0, .ref m0), (1, .int row), (2, .int y), (3, .long u), (5, .long v), (7, .int (nI j))] → W p l e R s m args below meth c H locs 0 0 Q (F0 m 25 ls []) := by
  intro n
  induction n with
  | zero =>
    intro j y u v U Z hj hok hk hk1 H locs ls hP hD hS hl
    refine lv_iload hx hb d_mo_sum_25 (lv_at hl 5 rfl) ?_
    refine lv_aload_n hx hb d_mo_sum_27 rfl (lv_at hl 0 rfl) ?_
    refine va_get (D := (dC, dI)) (ci := 4) (v := .int mk) (C := R_mo) (T := F_mo) (N := 17) hx hb hT i_mo hown hK hP 0 rfl rfl 1 (by decide) (hT _ k_130) (fun _ h9 => h9) rfl d_mo_sum_28 ?_
    refine lv_icmp_ge (tgt := 111) hx hb d_mo_sum_31 (by decide) (fun c_1 => ?_) (fun c_1 => ?_)
    · exact hk y u v U Z rfl H locs ls hP hD hS (lv_sub hl [0, 2, 3, 4] rfl)
    · exact absurd (by rw [hn.1]; exact nI_le (show nk ≤ j by omega) (by omega)) c_1
  | succ n ih =>
    intro j y u v U Z hj hok hk hk1 H locs ls hP hD hS hl
    refine lv_iload hx hb d_mo_sum_25 (lv_at hl 5 rfl) ?_
    refine lv_aload_n hx hb d_mo_sum_27 rfl (lv_at hl 0 rfl) ?_
    refine va_get (D := (dC, dI)) (ci := 4) (v := .int mk) (C := R_mo) (T := F_mo) (N := 17) hx hb hT i_mo hown hK hP 0 rfl rfl 1 (by decide) (hT _ k_130) (fun _ h9 => h9) rfl d_mo_sum_28 ?_
    refine lv_icmp_ge (tgt := 111) hx hb d_mo_sum_31 (by decide) (fun c_2 => ?_) (fun c_2 => ?_)
    · exact absurd c_2 (by rw [hn.1]; exact nI_ge (show j < nk by omega) (by omega))
    · refine lv_aload_n hx hb d_mo_sum_34 rfl (lv_at hl 0 rfl) ?_
      refine va_get (D := (dC, dI)) (ci := 4) (v := .ref mc) (C := R_mo) (T := F_mo) (N := 17) hx hb hT i_mo hown hK hP 0 rfl rfl 8 (by decide) (hT _ k_157) (fun _ h9 => h9) rfl d_mo_sum_35 ?_
      refine lv_bipush (v := 16) hx hb d_mo_sum_38 (by decide) ?_
      refine lv_iload_n hx hb d_mo_sum_40 rfl (lv_at hl 1 rfl) ?_
      refine lv_imul hx hb d_mo_sum_41 ?_
      refine lv_iload hx hb d_mo_sum_42 (lv_at hl 5 rfl) ?_
      refine lv_iadd hx hb d_mo_sum_44 ?_
      refine va_iald hx hb hK hP 3 2 rfl rfl (in_mcellj hn hmr hrow (by omega)) d_mo_sum_45 ?_
      refine lv_istore (lv' := [(8, .int (gc (((16 * row) + (nI j)).toNatClampNeg))), (0, .ref m0), (1, .int row), (2, .int y), (3, .long u), (5, .long v), (7, .int (nI j))]) hx hb d_mo_sum_46 hl (by decide) rfl (fun ls hl => ?_)
      refine lv_iload hx hb d_mo_sum_48 (lv_at hl 0 rfl) ?_
      refine lv_if_lt (tgt := 105) hx hb d_mo_sum_50 (by decide) (fun c_3 => ?_) (fun c_3 => ?_)
      · refine lv_iinc (v := (nI j) + 1) (lv' := [(7, .int ((nI j) + 1)), (8, .int (gc (((16 * row) + (nI j)).toNatClampNeg))), (0, .ref m0), (1, .int row), (2, .int y), (3, .long u), (5, .long v)]) hx hb d_mo_sum_105 hl (k := 6) rfl rfl (by decide) rfl (fun ls hl => ?_)
        refine lv_goto (tgt := 25) hx hb d_mo_sum_108 (by decide) ?_
        exact ih (j + 1) _ _ _ _ _ (by omega) (hok.1 c_3) (by rw [msL, if_pos c_3] at hk; exact hk) (by rw [msL, if_pos c_3] at hk1; exact hk1) H locs ls hP hD hS (by have h9 := lv_sub hl [2, 3, 4, 5, 6, 0] rfl; rw [nI_1] at h9; exact h9)
      · obtain ⟨hi9, hz9, hok9⟩ := hok.2 c_3
        refine lv_iconst (v := 1) hx hb d_mo_sum_53 (by decide) ?_
        refine lv_istore_n (lv' := [(2, .int 1), (8, .int (gc (((16 * row) + (nI j)).toNatClampNeg))), (0, .ref m0), (1, .int row), (3, .long u), (5, .long v), (7, .int (nI j))]) hx hb d_mo_sum_54 rfl hl (by decide) rfl (fun ls hl => ?_)
        refine lv_aload_n hx hb d_mo_sum_55 rfl (lv_at hl 2 rfl) ?_
        refine lv_lload_n hx hb d_mo_sum_56 rfl (lv_at hl 4 rfl) ?_
        refine lv_aload_n hx hb d_mo_sum_57 rfl (lv_at hl 2 rfl) ?_
        refine va_get (D := (dC, dI)) (ci := 4) (v := .ref md) (C := R_mo) (T := F_mo) (N := 17) hx hb hT i_mo hown hK hP 0 rfl rfl 4 (by decide) (hT _ k_144) (fun _ h9 => h9) rfl d_mo_sum_58 ?_
        refine lv_iload hx hb d_mo_sum_61 (lv_at hl 1 rfl) ?_
        refine va_lald hx hb hK hP 2 1 rfl rfl hi9 d_mo_sum_63 ?_
        refine lv_lmul hx hb d_mo_sum_64 ?_
        refine lv_aload_n hx hb d_mo_sum_65 rfl (lv_at hl 2 rfl) ?_
        refine va_get (D := (dC, dI)) (ci := 4) (v := .ref mu) (C := R_mo) (T := F_mo) (N := 17) hx hb hT i_mo hown hK hP 0 rfl rfl 3 (by decide) (hT _ k_143) (fun _ h9 => h9) rfl d_mo_sum_66 ?_
        refine lv_iload hx hb d_mo_sum_69 (lv_at hl 1 rfl) ?_
        refine va_lald hx hb hK hP 1 0 rfl rfl hi9 d_mo_sum_71 ?_
        refine lv_lload hx hb d_mo_sum_72 (lv_at hl 5 rfl) ?_
        refine lv_lmul hx hb d_mo_sum_74 ?_
        refine lv_ladd hx hb d_mo_sum_75 ?_
        refine lv_lload hx hb d_mo_sum_76 (lv_at hl 5 rfl) ?_
        refine lv_aload_n hx hb d_mo_sum_78 rfl (lv_at hl 2 rfl) ?_
        refine va_get (D := (dC, dI)) (ci := 4) (v := .ref md) (C := R_mo) (T := F_mo) (N := 17) hx hb hT i_mo hown hK hP 0 rfl rfl 4 (by decide) (hT _ k_144) (fun _ h9 => h9) rfl d_mo_sum_79 ?_
        refine lv_iload hx hb d_mo_sum_82 (lv_at hl 1 rfl) ?_
        refine va_lald hx hb hK hP 2 1 rfl rfl hi9 d_mo_sum_84 ?_
        refine lv_lmul hx hb d_mo_sum_85 ?_
        have hPc := hP.sub (ws' := [(m0, .inr (4, [.int 0, .int mk, .int mv, .ref mu, .ref md, .long U, .long Z, .int mr, .ref mc, .ref me, .int so, .ref mau, .ref mad, .int mw, .ref mwg, .ref mgv, .ref msq]))]) [0] rfl
        have hKc := hK.sub (tys' := []) [] rfl
        have hDc := hD.sub (ws' := [(m0, .inr (4, [.int 0, .int mk, .int mv, .ref mu, .ref md, .long U, .long Z, .int mr, .ref mc, .ref me, .int so, .ref mau, .ref mad, .int mw, .ref mwg, .ref mgv, .ref msq]))]) [0] (by decide) rfl
        have hFc := va_free (wc := [(m0, .inr (4, [.int 0, .int mk, .int mv, .ref mu, .ref md, .long U, .long Z, .int mr, .ref mc, .ref me, .int so, .ref mau, .ref mad, .int mw, .ref mwg, .ref mgv, .ref msq]))]) hD hS hA [0] rfl
        refine va_calli (va_runV (As := [.long ((u * (gd ((gc (((16 * row) + (nI j)).toNatClampNeg)).toNatClampNeg))) + ((gu ((gc (((16 * row) + (nI j)).toNatClampNeg)).toNatClampNeg)) * v)), .long (v * (gd ((gc (((16 * row) + (nI j)).toNatClampNeg)).toNatClampNeg)))]) (rest := []) ⟨hx, hb, hml, hown, hT⟩ (c_mo_lowest l dC dI H.size m0 0 mk mv mu md U Z mr mc me so mau mad mw mwg mgv msq ((u * (gd ((gc (((16 * row) + (nI j)).toNatClampNeg)).toNatClampNeg))) + ((gu ((gc (((16 * row) + (nI j)).toNatClampNeg)).toNatClampNeg)) * v)) (v * (gd ((gc (((16 * row) + (nI j)).toNatClampNeg)).toNatClampNeg))) (euc_all _ _) hz9) (cwV 2 hT (kt_V k_142 k_140 k_141 k_136 k_139) rfl rfl rfl (by decide +kernel) ⟨Nat.le_trans (Nat.le_of_ble_eq_true rfl) hRf, Nat.le_trans (Nat.le_of_ble_eq_true rfl) hRl⟩) ⟨bl_M, va_recv hKc hPc (ci := 4) (q0 := 0) rfl rfl, fun U hU hW => ⟨rfl, by rw [hU], by rw [hU]; exact hPc, va_K.moved hW.alike hKc, hDc.weaken (fun _ _ _ _ => trivial)⟩⟩ rfl rfl hl.1 rfl (lv_room (Nat.le_of_ble_eq_true rfl)) d_mo_sum_86 ⟨Nat.zero_le _, Nat.zero_le _⟩) hS (fun q _ h => hFc q h) hFc (fun r_4 u t H1 locs ht hvm hw hB hz1 hk1 hS => ?_)
        obtain ⟨up_4, dn_4⟩ := u
        obtain ⟨hP1, hK1, hD1⟩ := hB
        rw [ht] at hP1
        obtain ⟨hP, hD⟩ := va_join (wr := [(mu, .inl (cmu, 300, .inr (.inl gu))), (md, .inl (cmd, 300, .inr (.inl gd))), (mc, .inl (cmc, 320, .inl gc))]) (w1 := [(m0, .inr (4, [.int 0, .int mk, .int mv, .ref mu, .ref md, .long up_4, .long dn_4, .int mr, .ref mc, .ref me, .int so, .ref mau, .ref mad, .int mw, .ref mwg, .ref mgv, .ref msq]))]) hP hD [0] [1, 2, 3] rfl rfl (by decide) (by decide) hk1 hFc hP1 hD1
        generalize H1 = H at hP hS ⊢
        have hP := hP.sub (ws' := [(m0, .inr (4, [.int 0, .int mk, .int mv, .ref mu, .ref md, .long up_4, .long dn_4, .int mr, .ref mc, .ref me, .int so, .ref mau, .ref mad, .int mw, .ref mwg, .ref mgv, .ref msq])), (mu, .inl (cmu, 300, .inr (.inl gu))), (md, .inl (cmd, 300, .inr (.inl gd))), (mc, .inl (cmc, 320, .inl gc))]) [3, 0, 1, 2] rfl
        have hD := hD.sub (ws' := [(m0, .inr (4, [.int 0, .int mk, .int mv, .ref mu, .ref md, .long up_4, .long dn_4, .int mr, .ref mc, .ref me, .int so, .ref mau, .ref mad, .int mw, .ref mwg, .ref mgv, .ref msq])), (mu, .inl (cmu, 300, .inr (.inl gu))), (md, .inl (cmd, 300, .inr (.inl gd))), (mc, .inl (cmc, 320, .inl gc))]) [3, 0, 1, 2] (by decide) rfl
        have e_r_4 : r_4 = (f_mo_lowest ((u * (gd ((gc (((16 * row) + (nI j)).toNatClampNeg)).toNatClampNeg))) + ((gu ((gc (((16 * row) + (nI j)).toNatClampNeg)).toNatClampNeg)) * v)) (v * (gd ((gc (((16 * row) + (nI j)).toNatClampNeg)).toNatClampNeg)))).1 := congrArg (fun z => z.1) hw
        have e_up_4 : up_4 = (f_mo_lowest ((u * (gd ((gc (((16 * row) + (nI j)).toNatClampNeg)).toNatClampNeg))) + ((gu ((gc (((16 * row) + (nI j)).toNatClampNeg)).toNatClampNeg)) * v)) (v * (gd ((gc (((16 * row) + (nI j)).toNatClampNeg)).toNatClampNeg)))).2.1 := congrArg (fun z => z.2.1) hw
        have e_dn_4 : dn_4 = (f_mo_lowest ((u * (gd ((gc (((16 * row) + (nI j)).toNatClampNeg)).toNatClampNeg))) + ((gu ((gc (((16 * row) + (nI j)).toNatClampNeg)).toNatClampNeg)) * v)) (v * (gd ((gc (((16 * row) + (nI j)).toNatClampNeg)).toNatClampNeg)))).2.2 := congrArg (fun z => z.2.2) hw
        subst e_r_4 e_up_4 e_dn_4
        clear hP1 hK1 hD1 hk1 hz1 hFc hDc hPc hKc
        refine lv_if_ne (tgt := 94) hx hb d_mo_sum_89 (by decide) (fun c_5 => ?_) (fun c_5 => ?_)
        · refine lv_aload_n hx hb d_mo_sum_94 rfl (lv_at hl 2 rfl) ?_
          refine va_get (D := (dC, dI)) (ci := 4) (v := .long ((f_mo_lowest ((u * (gd ((gc (((16 * row) + (nI j)).toNatClampNeg)).toNatClampNeg))) + ((gu ((gc (((16 * row) + (nI j)).toNatClampNeg)).toNatClampNeg)) * v)) (v * (gd ((gc (((16 * row) + (nI j)).toNatClampNeg)).toNatClampNeg)))).2.1)) (C := R_mo) (T := F_mo) (N := 17) hx hb hT i_mo hown hK hP 0 rfl rfl 5 (by decide) (hT _ k_133) (fun _ h9 => h9) rfl d_mo_sum_95 ?_
          refine lv_lstore_n (lv' := [(3, .long ((f_mo_lowest ((u * (gd ((gc (((16 * row) + (nI j)).toNatClampNeg)).toNatClampNeg))) + ((gu ((gc (((16 * row) + (nI j)).toNatClampNeg)).toNatClampNeg)) * v)) (v * (gd ((gc (((16 * row) + (nI j)).toNatClampNeg)).toNatClampNeg)))).2.1)), (2, .int 1), (8, .int (gc (((16 * row) + (nI j)).toNatClampNeg))), (0, .ref m0), (1, .int row), (5, .long v), (7, .int (nI j))]) hx hb d_mo_sum_98 rfl hl (by decide) rfl (fun ls hl => ?_)
          refine lv_aload_n hx hb d_mo_sum_99 rfl (lv_at hl 3 rfl) ?_
          refine va_get (D := (dC, dI)) (ci := 4) (v := .long ((f_mo_lowest ((u * (gd ((gc (((16 * row) + (nI j)).toNatClampNeg)).toNatClampNeg))) + ((gu ((gc (((16 * row) + (nI j)).toNatClampNeg)).toNatClampNeg)) * v)) (v * (gd ((gc (((16 * row) + (nI j)).toNatClampNeg)).toNatClampNeg)))).2.2)) (C := R_mo) (T := F_mo) (N := 17) hx hb hT i_mo hown hK hP 0 rfl rfl 6 (by decide) (hT _ k_134) (fun _ h9 => h9) rfl d_mo_sum_100 ?_
          refine lv_lstore (lv' := [(5, .long ((f_mo_lowest ((u * (gd ((gc (((16 * row) + (nI j)).toNatClampNeg)).toNatClampNeg))) + ((gu ((gc (((16 * row) + (nI j)).toNatClampNeg)).toNatClampNeg)) * v)) (v * (gd ((gc (((16 * row) + (nI j)).toNatClampNeg)).toNatClampNeg)))).2.2)), (3, .long ((f_mo_lowest ((u * (gd ((gc (((16 * row) + (nI j)).toNatClampNeg)).toNatClampNeg))) + ((gu ((gc (((16 * row) + (nI j)).toNatClampNeg)).toNatClampNeg)) * v)) (v * (gd ((gc (((16 * row) + (nI j)).toNatClampNeg)).toNatClampNeg)))).2.1)), (2, .int 1), (8, .int (gc (((16 * row) + (nI j)).toNatClampNeg))), (0, .ref m0), (1, .int row), (7, .int (nI j))]) hx hb d_mo_sum_103 hl (by decide) rfl (fun ls hl => ?_)
          refine lv_iinc (v := (nI j) + 1) (lv' := [(7, .int ((nI j) + 1)), (5, .long ((f_mo_lowest ((u * (gd ((gc (((16 * row) + (nI j)).toNatClampNeg)).toNatClampNeg))) + ((gu ((gc (((16 * row) + (nI j)).toNatClampNeg)).toNatClampNeg)) * v)) (v * (gd ((gc (((16 * row) + (nI j)).toNatClampNeg)).toNatClampNeg)))).2.2)), (3, .long ((f_mo_lowest ((u * (gd ((gc (((16 * row) + (nI j)).toNatClampNeg)).toNatClampNeg))) + ((gu ((gc (((16 * row) + (nI j)).toNatClampNeg)).toNatClampNeg)) * v)) (v * (gd ((gc (((16 * row) + (nI j)).toNatClampNeg)).toNatClampNeg)))).2.1)), (2, .int 1), (8, .int (gc (((16 * row) + (nI j)).toNatClampNeg))), (0, .ref m0), (1, .int row)]) hx hb d_mo_sum_105 hl (k := 6) rfl rfl (by decide) rfl (fun ls hl => ?_)
          refine lv_goto (tgt := 25) hx hb d_mo_sum_108 (by decide) ?_
          exact ih (j + 1) _ _ _ _ _ (by omega) (hok9 c_5) (by rw [msL, if_neg c_3, if_neg c_5] at hk; exact hk) (by rw [msL, if_neg c_3, if_neg c_5] at hk1; exact hk1) H locs ls hP hD hS (by have h9 := lv_sub hl [5, 6, 3, 2, 1, 0] rfl; rw [nI_1] at h9; exact h9)
        · refine lv_iconst (v := (-1)) hx hb d_mo_sum_92 (by decide) ?_
          exact hk1 _ _ (by rw [msL, if_neg c_3, if_pos c_5]) H locs ls hP hD hS hl.1
def mo_sumE (mv : Int32) (gu gd : Nat → Int64) (o : Option (Int32 × Int64 × Int64) × Int64 × Int64) : Int32 × Int32 × (Nat → Int64) × (Nat → Int64) × Int32 × Int64 × Int64 :=
  match o with
  | (none, U2, Z2) => (-1, 0, gu, gd, mv, U2, Z2)
  | (some (y2, u2, v2), U2, Z2) => if y2 = 0 then ((-1), 0, gu, gd, mv, U2, Z2) else ((f_mo_keep mv gu gd u2 v2).1, 0, (f_mo_keep mv gu gd u2 v2).2.1, (f_mo_keep mv gu gd u2 v2).2.2.1, (f_mo_keep mv gu gd u2 v2).2.2.2.1, (f_mo_keep mv gu gd u2 v2).2.2.2.2.1, (f_mo_keep mv gu gd u2 v2).2.2.2.2.2)
def f_mo_sum (mk : Int32) (mv : Int32) (up : Int64) (dn : Int64) (mr : Int32) (gu : Nat → Int64) (gd : Nat → Int64) (gc : Nat → Int32) (row : Int32) (nk : Nat) : Int32 × Int32 × (Nat → Int64) × (Nat → Int64) × Int32 × Int64 × Int64 :=
  if (f_mo_isRow mr row) = 0 then ((-1), 0, gu, gd, mv, up, dn) else (mo_sumE mv gu gd (msL gu gd gc row nk 0 0 0 1 up dn))
set_option maxHeartbeats 4000000 in
set_option maxRecDepth 100000 in
theorem c_mo_sum (l : Launch) (dC : Nat → ClassId) (dI : Nat → Nat → Nat) (sz : Nat) (m0 : Nat) (mu : Nat) (md : Nat) (mc : Nat) (th : Int32) (mk : Int32) (mv : Int32) (up : Int64) (dn : Int64) (mr : Int32) (me : Nat) (so : Int32) (mau : Nat) (mad : Nat) (mw : Int32) (mwg : Nat) (mgv : Nat) (msq : Nat) (cmu : ClassId) (gu : Nat → Int64) (cmd : ClassId) (gd : Nat → Int64) (cmc : ClassId) (gc : Nat → Int32) (row : Int32) (nk : Nat) (hv : vp_in mv 301) (hn : mk = nI nk ∧ nk ≤ 16) (hmr : vp_in mr 21) (hok : ¬ f_mo_isRow mr row = 0 → msOk gu gd gc row nk 0 0 1) (hke : ¬ f_mo_isRow mr row = 0 → ∀ y u v, (msL gu gd gc row nk 0 0 0 1 up dn).1 = some (y, u, v) → ¬ y = 0 → ¬ v = 0) : Met l y_mo_sum w_mo_sum ({ frames := 3, cells := 0, slots := 0, locals := 75 }) (va_Pc [.ref m0, .int row] (fun U => U.heap.size = sz ∧ va_P (dC, dI) classes [(m0, .inr (4, [.int th, .int mk, .int mv, .ref mu, .ref md, .long up, .long dn, .int mr, .ref mc, .ref me, .int so, .ref mau, .ref mad, .int mw, .ref mwg, .ref mgv, .ref msq])), (mu, .inl (cmu, 300, .inr (.inl gu))), (md, .inl (cmd, 300, .inr (.inl gd))), (mc, .inl (cmc, 320, .inl gc))] U.heap ∧ va_K (dC, dI) classes [(cmu, .long), (cmd, .long), (cmc, .int)] U ∧ va_D (fun _ => True) [(m0, .inr (4, [.int th, .int mk, .int mv, .ref mu, .ref md, .long up, .long dn, .int mr, .ref mc, .ref me, .int so, .ref mau, .ref mad, .int mw, .ref mwg, .ref mgv, .ref msq])), (mu, .inl (cmu, 300, .inr (.inl gu))), (md, .inl (cmd, 300, .inr (.inl gd))), (mc, .inl (cmc, 320, .inl gc))])) (va_Qi (fun z9 u9 => (z9, u9) = f_mo_sum mk mv up dn mr gu gd gc row nk) (fun (u : Int32 × (Nat → Int64) × (Nat → Int64) × Int32 × Int64 × Int64) t => match u with | (th', gu', gd', mv', up', dn') => va_P (dC, dI) classes [(m0, .inr (4, [.int th', .int mk, .int mv', .ref mu, .ref md, .long up', .long dn', .int mr, .ref mc, .ref me, .int so, .ref mau, .ref mad, .int mw, .ref mwg, .ref mgv, .ref msq])), (mu, .inl (cmu, 300, .inr (.inl gu'))), (md, .inl (cmd, 300, .inr (.inl gd'))), (mc, .inl (cmc, 320, .inl gc))] t.heap ∧ va_K (dC, dI) classes [(cmu, .long), (cmd, .long), (cmc, .int)] t ∧ va_D (va_A [(m0, .inr (4, [.int th, .int mk, .int mv, .ref mu, .ref md, .long up, .long dn, .int mr, .ref mc, .ref me, .int so, .ref mau, .ref mad, .int mw, .ref mwg, .ref mgv, .ref msq])), (mu, .inl (cmu, 300, .inr (.inl gu))), (md, .inl (cmd, 300, .inr (.inl gd))), (mc, .inl (cmc, 320, .inl gc))] sz) [(m0, .inr (4, [.int th', .int mk, .int mv', .ref mu, .ref md, .long up', .long dn', .int mr, .ref mc, .ref me, .int so, .ref mau, .ref mad, .int mw, .ref mwg, .ref mgv, .ref msq])), (mu, .inl (cmu, 300, .inr (.inl gu'))), (md, .inl (cmd, 300, .inr (.inl gd'))), (mc, .inl (cmc, 320, .inl gc))]) (va_A [(m0, .inr (4, [.int th, .int mk, .int mv, .ref mu, .ref md, .long up, .long dn, .int mr, .ref mc, .ref me, .int so, .ref mau, .ref mad, .int mw, .ref mwg, .ref mgv, .ref msq])), (mu, .inl (cmu, 300, .inr (.inl gu))), (md, .inl (cmd, 300, .inr (.inl gd))), (mc, .inl (cmc, 320, .inl gc))] sz)) 0 0 (va_A [(m0, .inr (4, [.int th, .int mk, .int mv, .ref mu, .ref md, .long up, .long dn, .int mr, .ref mc, .ref me, .int so, .ref mau, .ref mad, .int mw, .ref mwg, .ref mgv, .ref msq])), (mu, .inl (cmu, 300, .inr (.inl gu))), (md, .inl (cmd, 300, .inr (.inl gd))), (mc, .inl (cmc, 320, .inl gc))] sz) := by
  refine Met.ofW (cc := b_mo_sum) (maxL := 9) (ret := (some .int)) (by decide +kernel) rfl ?_
  intro p e s m args below meth c s₁ B hml hv
  obtain ⟨rfl, hsz, hP, hK, hD0⟩ := hv
  have hx := B.exec
  have hb := B.bytes
  have hr := B.returns
  have hts := atoms_spec (ws := w_mo_sum) B.pre
  have hT := fun (w : Cond) (h : w ∈ kt_T) => hts w (List.mem_cons_of_mem _ h)
  have hown : s.vm.findClass R_mo = some m.cls := findClass_of_methodNamed B.named
  have hlocks := B.notSynchronized
  subst hsz
  have hD := hD0.self (sz := s.heap.size)
  generalize hAe : va_A [(m0, .inr (4, [.int th, .int mk, .int mv, .ref mu, .ref md, .long up, .long dn, .int mr, .ref mc, .ref me, .int so, .ref mau, .ref mad, .int mw, .ref mwg, .ref mgv, .ref msq])), (mu, .inl (cmu, 300, .inr (.inl gu))), (md, .inl (cmd, 300, .inr (.inl gd))), (mc, .inl (cmc, 320, .inl gc))] s.heap.size = A at hD ⊢
  have hA : ∀ q : Nat, s.heap.size ≤ q → A q := fun q h => by rw [← hAe]; exact Or.inr h
  have hS : va_S A s.heap s.heap [] := va_S.rf
  have hl := lv_entry ([.ref m0, .int row]) (n := 9) (Nat.le_of_ble_eq_true rfl)
  rw [lg_entry_eq]
  generalize (lg_sl ([.ref m0, .int row]) ++ List.replicate (9 - (lg_sl ([.ref m0, .int row])).length) Slot.unset).toArray = ls at hl ⊢
  have hl : lv_has ls 9 [(0, .ref m0), (1, .int row)] := hl
  refine lv_aload_n hx hb d_mo_sum_0 rfl (lv_at hl 0 rfl) ?_
  refine lv_iconst (v := 0) hx hb d_mo_sum_1 (by decide) ?_
  refine va_put (D := (dC, dI)) (ci := 4) (v := .int 0) (ty := .int) (C := R_mo) (T := F_mo) (N := 17) hx hb hT i_mo t_mo t_mo_ok n_mo hown hK hP hD hS 0 rfl rfl 0 (by decide) (hT _ k_127) (fun _ h9 => h9) rfl (by decide +kernel) rfl rfl (Nat.le_of_ble_eq_true rfl) d_mo_sum_2 (fun H locs hP hD hS => ?_)
  have hP : va_P (dC, dI) classes [(m0, .inr (4, [.int 0, .int mk, .int mv, .ref mu, .ref md, .long up, .long dn, .int mr, .ref mc, .ref me, .int so, .ref mau, .ref mad, .int mw, .ref mwg, .ref mgv, .ref msq])), (mu, .inl (cmu, 300, .inr (.inl gu))), (md, .inl (cmd, 300, .inr (.inl gd))), (mc, .inl (cmc, 320, .inl gc))] H := hP
  have hD : va_D A [(m0, .inr (4, [.int 0, .int mk, .int mv, .ref mu, .ref md, .long up, .long dn, .int mr, .ref mc, .ref me, .int so, .ref mau, .ref mad, .int mw, .ref mwg, .ref mgv, .ref msq])), (mu, .inl (cmu, 300, .inr (.inl gu))), (md, .inl (cmd, 300, .inr (.inl gd))), (mc, .inl (cmc, 320, .inl gc))] := hD
  refine lv_aload_n hx hb d_mo_sum_5 rfl (lv_at hl 0 rfl) ?_
  refine lv_iload_n hx hb d_mo_sum_6 rfl (lv_at hl 1 rfl) ?_
  have hPc := hP.sub (ws' := [(m0, .inr (4, [.int 0, .int mk, .int mv, .ref mu, .ref md, .long up, .long dn, .int mr, .ref mc, .ref me, .int so, .ref mau, .ref mad, .int mw, .ref mwg, .ref mgv, .ref msq]))]) [0] rfl
  have hKc := hK.sub (tys' := []) [] rfl
  refine vp_callSi (W.runV (As := [.int row]) (rest := []) ⟨hx, hb, hml, hown, hT⟩ (c_mo_isRow l dC dI m0 0 mk mv mu md up dn mr mc me so mau mad mw mwg mgv msq row) (cwV 1 hT (kt_V k_156 k_154 k_155 k_136 k_153) rfl rfl rfl (by decide +kernel) ⟨Nat.le_of_ble_eq_true rfl, Nat.le_of_ble_eq_true rfl⟩) ⟨bl_R, va_recv hKc hPc (ci := 4) (q0 := 0) rfl rfl, fun U hU hW => ⟨rfl, by rw [hU]; exact hPc, va_K.moved hW.alike hKc⟩⟩ rfl rfl hl.1 rfl (lv_room (Nat.le_of_ble_eq_true rfl)) d_mo_sum_7 ⟨Nat.zero_le _, Nat.zero_le _⟩) (fun r_1 e_r_1 => ?_)
  subst e_r_1
  refine lv_if_ne (tgt := 15) hx hb d_mo_sum_10 (by decide) (fun c_2 => ?_) (fun c_2 => ?_)
  · refine lv_iconst (v := 0) hx hb d_mo_sum_15 (by decide) ?_
    refine lv_istore_n (lv' := [(2, .int 0), (0, .ref m0), (1, .int row)]) hx hb d_mo_sum_16 rfl hl (by decide) rfl (fun ls hl => ?_)
    refine lv_lconst (v := 0) hx hb d_mo_sum_17 (by decide) ?_
    refine lv_lstore_n (lv' := [(3, .long 0), (2, .int 0), (0, .ref m0), (1, .int row)]) hx hb d_mo_sum_18 rfl hl (by decide) rfl (fun ls hl => ?_)
    refine lv_lconst (v := 1) hx hb d_mo_sum_19 (by decide) ?_
    refine lv_lstore (lv' := [(5, .long 1), (3, .long 0), (2, .int 0), (0, .ref m0), (1, .int row)]) hx hb d_mo_sum_20 hl (by decide) rfl (fun ls hl => ?_)
    refine lv_iconst (v := 0) hx hb d_mo_sum_22 (by decide) ?_
    refine lv_istore (lv' := [(7, .int 0), (5, .long 1), (3, .long 0), (2, .int 0), (0, .ref m0), (1, .int row)]) hx hb d_mo_sum_23 hl (by decide) rfl (fun ls hl => ?_)
    refine lp_mo_sum hx hb hml hown hT hA hK (Nat.le_of_ble_eq_true rfl) (Nat.le_of_ble_eq_true rfl) hn hmr c_2 nk 0 0 0 1 up dn (Nat.zero_add _) (hok c_2) (fun y2 u2 v2 U2 Z2 e9 H locs ls hP hD hS hl => ?_) (fun U2 Z2 e9 H locs ls hP hD hS hl => ?_) H locs ls hP hD hS (lv_sub hl [4, 5, 3, 2, 1, 0] rfl)
    · refine lv_iload_n hx hb d_mo_sum_111 rfl (lv_at hl 1 rfl) ?_
      refine lv_if_eq (tgt := 125) hx hb d_mo_sum_112 (by decide) (fun c_3 => ?_) (fun c_3 => ?_)
      · refine lv_iconst (v := (-1)) hx hb d_mo_sum_125 (by decide) ?_
        exact W.iret (v := (-1)) hx hb hr (fun t ht hW => ⟨⟨(-1), (0, gu, gd, mv, U2, Z2), rfl, by unfold f_mo_sum; rw [if_neg c_2]; unfold mo_sumE; rw [e9]; dsimp only; rw [if_pos c_3], by rw [ht]; exact hP, va_K.moved hW.alike hK, hD⟩, hS.F ht⟩) hS.2.2 d_mo_sum_126
      · have hv9 := hke c_2 y2 u2 v2 (by rw [e9]) c_3
        refine lv_aload_n hx hb d_mo_sum_115 rfl (lv_at hl 0 rfl) ?_
        refine lv_lload_n hx hb d_mo_sum_116 rfl (lv_at hl 2 rfl) ?_
        refine lv_lload hx hb d_mo_sum_117 (lv_at hl 3 rfl) ?_
        have hPc := hP.sub (ws' := [(m0, .inr (4, [.int 0, .int mk, .int mv, .ref mu, .ref md, .long U2, .long Z2, .int mr, .ref mc, .ref me, .int so, .ref mau, .ref mad, .int mw, .ref mwg, .ref mgv, .ref msq])), (mu, .inl (cmu, 300, .inr (.inl gu))), (md, .inl (cmd, 300, .inr (.inl gd)))]) [0, 1, 2] rfl
        have hKc := hK.sub (tys' := [(cmu, .long), (cmd, .long)]) [0, 1] rfl
        have hDc := hD.sub (ws' := [(m0, .inr (4, [.int 0, .int mk, .int mv, .ref mu, .ref md, .long U2, .long Z2, .int mr, .ref mc, .ref me, .int so, .ref mau, .ref mad, .int mw, .ref mwg, .ref mgv, .ref msq])), (mu, .inl (cmu, 300, .inr (.inl gu))), (md, .inl (cmd, 300, .inr (.inl gd)))]) [0, 1, 2] (by decide) rfl
        have hFc := va_free (wc := [(m0, .inr (4, [.int 0, .int mk, .int mv, .ref mu, .ref md, .long U2, .long Z2, .int mr, .ref mc, .ref me, .int so, .ref mau, .ref mad, .int mw, .ref mwg, .ref mgv, .ref msq])), (mu, .inl (cmu, 300, .inr (.inl gu))), (md, .inl (cmd, 300, .inr (.inl gd)))]) hD hS hA [0, 1, 2] rfl
        refine va_calli (va_runV (As := [.long u2, .long v2]) (rest := []) ⟨hx, hb, hml, hown, hT⟩ (c_mo_keep l dC dI H.size m0 mu md 0 mk mv U2 Z2 mr mc me so mau mad mw mwg mgv msq cmu gu cmd gd u2 v2 (euc_all _ _) hv9 hv) (cwV 2 hT (kt_V k_148 k_146 k_147 k_136 k_145) rfl rfl rfl (by decide +kernel) ⟨Nat.le_of_ble_eq_true rfl, Nat.le_of_ble_eq_true rfl⟩) ⟨bl_M, va_recv hKc hPc (ci := 4) (q0 := 0) rfl rfl, fun U hU hW => ⟨rfl, by rw [hU], by rw [hU]; exact hPc, va_K.moved hW.alike hKc, hDc.weaken (fun _ _ _ _ => trivial)⟩⟩ rfl rfl hl.1 rfl (lv_room (Nat.le_of_ble_eq_true rfl)) d_mo_sum_119 ⟨Nat.zero_le _, Nat.zero_le _⟩) hS (fun q _ h => hFc q h) hFc (fun r_4 u t H1 locs ht hvm hw hB hz1 hk1 hS => ?_)
        obtain ⟨gu_4, gd_4, mv_4, up_4, dn_4⟩ := u
        obtain ⟨hP1, hK1, hD1⟩ := hB
        rw [ht] at hP1
        obtain ⟨hP, hD⟩ := va_join (wr := [(mc, .inl (cmc, 320, .inl gc))]) (w1 := [(m0, .inr (4, [.int 0, .int mk, .int mv_4, .ref mu, .ref md, .long up_4, .long dn_4, .int mr, .ref mc, .ref me, .int so, .ref mau, .ref mad, .int mw, .ref mwg, .ref mgv, .ref msq])), (mu, .inl (cmu, 300, .inr (.inl gu_4))), (md, .inl (cmd, 300, .inr (.inl gd_4)))]) hP hD [0, 1, 2] [3] rfl rfl (by decide) (by decide) hk1 hFc hP1 hD1
        generalize H1 = H at hP hS ⊢
        have hP := hP.sub (ws' := [(m0, .inr (4, [.int 0, .int mk, .int mv_4, .ref mu, .ref md, .long up_4, .long dn_4, .int mr, .ref mc, .ref me, .int so, .ref mau, .ref mad, .int mw, .ref mwg, .ref mgv, .ref msq])), (mu, .inl (cmu, 300, .inr (.inl gu_4))), (md, .inl (cmd, 300, .inr (.inl gd_4))), (mc, .inl (cmc, 320, .inl gc))]) [1, 2, 3, 0] rfl
        have hD := hD.sub (ws' := [(m0, .inr (4, [.int 0, .int mk, .int mv_4, .ref mu, .ref md, .long up_4, .long dn_4, .int mr, .ref mc, .ref me, .int so, .ref mau, .ref mad, .int mw, .ref mwg, .ref mgv, .ref msq])), (mu, .inl (cmu, 300, .inr (.inl gu_4))), (md, .inl (cmd, 300, .inr (.inl gd_4))), (mc, .inl (cmc, 320, .inl gc))]) [1, 2, 3, 0] (by decide) rfl
        have e_r_4 : r_4 = (f_mo_keep mv gu gd u2 v2).1 := congrArg (fun z => z.1) hw
        have e_gu_4 : gu_4 = (f_mo_keep mv gu gd u2 v2).2.1 := congrArg (fun z => z.2.1) hw
        have e_gd_4 : gd_4 = (f_mo_keep mv gu gd u2 v2).2.2.1 := congrArg (fun z => z.2.2.1) hw
        have e_mv_4 : mv_4 = (f_mo_keep mv gu gd u2 v2).2.2.2.1 := congrArg (fun z => z.2.2.2.1) hw
        have e_up_4 : up_4 = (f_mo_keep mv gu gd u2 v2).2.2.2.2.1 := congrArg (fun z => z.2.2.2.2.1) hw
        have e_dn_4 : dn_4 = (f_mo_keep mv gu gd u2 v2).2.2.2.2.2 := congrArg (fun z => z.2.2.2.2.2) hw
        subst e_r_4 e_gu_4 e_gd_4 e_mv_4 e_up_4 e_dn_4
        clear hP1 hK1 hD1 hk1 hz1 hFc hDc hPc hKc
        refine lv_goto (tgt := 126) hx hb d_mo_sum_122 (by decide) ?_
        exact W.iret (v := (f_mo_keep mv gu gd u2 v2).1) hx hb hr (fun t ht hW => ⟨⟨(f_mo_keep mv gu gd u2 v2).1, (0, (f_mo_keep mv gu gd u2 v2).2.1, (f_mo_keep mv gu gd u2 v2).2.2.1, (f_mo_keep mv gu gd u2 v2).2.2.2.1, (f_mo_keep mv gu gd u2 v2).2.2.2.2.1, (f_mo_keep mv gu gd u2 v2).2.2.2.2.2), rfl, by unfold f_mo_sum; rw [if_neg c_2]; unfold mo_sumE; rw [e9]; dsimp only; rw [if_neg c_3], by rw [ht]; exact hP, va_K.moved hW.alike hK, hD⟩, hS.F ht⟩) hS.2.2 d_mo_sum_126
    · exact W.iret (v := (-1)) hx hb hr (fun t ht hW => ⟨⟨(-1), (0, gu, gd, mv, U2, Z2), rfl, by unfold f_mo_sum; rw [if_neg c_2]; unfold mo_sumE; rw [e9], by rw [ht]; exact hP, va_K.moved hW.alike hK, hD⟩, hS.F ht⟩) hS.2.2 d_mo_sum_93
  · refine lv_iconst (v := (-1)) hx hb d_mo_sum_13 (by decide) ?_
    exact W.iret (v := (-1)) hx hb hr (fun t ht hW => ⟨⟨(-1), (0, gu, gd, mv, up, dn), rfl, by unfold f_mo_sum; rw [if_pos c_2], by rw [ht]; exact hP, va_K.moved hW.alike hK, hD⟩, hS.F ht⟩) hS.2.2 d_mo_sum_14
