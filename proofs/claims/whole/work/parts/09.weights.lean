abbrev b_kw_append : ByteArray := prog_4_method_2_code
def y_kw_append : MethodName := ⟨R_kw, "append", "(I)I"⟩
def w_kw_append : List Cond := .code y_kw_append b_kw_append 2 (some .int) :: kt_T
theorem d_kw_append_0 : decode b_kw_append 0 = .ok (.iload_n 1, 1) := by decide +kernel
theorem d_kw_append_1 : decode b_kw_append 1 = .ok (.ifCond .lt 18, 3) := by decide +kernel
theorem d_kw_append_4 : decode b_kw_append 4 = .ok (.iload_n 1, 1) := by decide +kernel
theorem d_kw_append_5 : decode b_kw_append 5 = .ok (.ldc 23, 2) := by decide +kernel
theorem d_kw_append_7 : decode b_kw_append 7 = .ok (.if_icmp .gt 12, 3) := by decide +kernel
theorem d_kw_append_10 : decode b_kw_append 10 = .ok (.aload_n 0, 1) := by decide +kernel
theorem d_kw_append_11 : decode b_kw_append 11 = .ok (.getfield 15, 3) := by decide +kernel
theorem d_kw_append_14 : decode b_kw_append 14 = .ok (.bipush 12, 2) := by decide +kernel
theorem d_kw_append_16 : decode b_kw_append 16 = .ok (.if_icmp .lt 5, 3) := by decide +kernel
theorem d_kw_append_19 : decode b_kw_append 19 = .ok (.iconst (-1), 1) := by decide +kernel
theorem d_kw_append_20 : decode b_kw_append 20 = .ok (.ireturn, 1) := by decide +kernel
theorem d_kw_append_21 : decode b_kw_append 21 = .ok (.aload_n 0, 1) := by decide +kernel
theorem d_kw_append_22 : decode b_kw_append 22 = .ok (.getfield 11, 3) := by decide +kernel
theorem d_kw_append_25 : decode b_kw_append 25 = .ok (.aload_n 0, 1) := by decide +kernel
theorem d_kw_append_26 : decode b_kw_append 26 = .ok (.getfield 15, 3) := by decide +kernel
theorem d_kw_append_29 : decode b_kw_append 29 = .ok (.iload_n 1, 1) := by decide +kernel
theorem d_kw_append_30 : decode b_kw_append 30 = .ok (.iastore, 1) := by decide +kernel
theorem d_kw_append_31 : decode b_kw_append 31 = .ok (.aload_n 0, 1) := by decide +kernel
theorem d_kw_append_32 : decode b_kw_append 32 = .ok (.dup, 1) := by decide +kernel
theorem d_kw_append_33 : decode b_kw_append 33 = .ok (.getfield 15, 3) := by decide +kernel
theorem d_kw_append_36 : decode b_kw_append 36 = .ok (.iconst 1, 1) := by decide +kernel
theorem d_kw_append_37 : decode b_kw_append 37 = .ok (.iadd, 1) := by decide +kernel
theorem d_kw_append_38 : decode b_kw_append 38 = .ok (.putfield 15, 3) := by decide +kernel
theorem d_kw_append_41 : decode b_kw_append 41 = .ok (.aload_n 0, 1) := by decide +kernel
theorem d_kw_append_42 : decode b_kw_append 42 = .ok (.dup, 1) := by decide +kernel
theorem d_kw_append_43 : decode b_kw_append 43 = .ok (.getfield 19, 3) := by decide +kernel
theorem d_kw_append_46 : decode b_kw_append 46 = .ok (.iload_n 1, 1) := by decide +kernel
theorem d_kw_append_47 : decode b_kw_append 47 = .ok (.i2l, 1) := by decide +kernel
theorem d_kw_append_48 : decode b_kw_append 48 = .ok (.ladd, 1) := by decide +kernel
theorem d_kw_append_49 : decode b_kw_append 49 = .ok (.putfield 19, 3) := by decide +kernel
theorem d_kw_append_52 : decode b_kw_append 52 = .ok (.aload_n 0, 1) := by decide +kernel
theorem d_kw_append_53 : decode b_kw_append 53 = .ok (.getfield 15, 3) := by decide +kernel
theorem d_kw_append_56 : decode b_kw_append 56 = .ok (.ireturn, 1) := by decide +kernel
abbrev b_kw_shareOf : ByteArray := prog_4_method_3_code
def y_kw_shareOf : MethodName := ⟨R_kw, "shareOf", "(JI)J"⟩
def w_kw_shareOf : List Cond := .code y_kw_shareOf b_kw_shareOf 14 (some .long) :: kt_T
theorem d_kw_shareOf_0 : decode b_kw_shareOf 0 = .ok (.iload_n 3, 1) := by decide +kernel
theorem d_kw_shareOf_1 : decode b_kw_shareOf 1 = .ok (.ifCond .lt 34, 3) := by decide +kernel
theorem d_kw_shareOf_4 : decode b_kw_shareOf 4 = .ok (.iload_n 3, 1) := by decide +kernel
theorem d_kw_shareOf_5 : decode b_kw_shareOf 5 = .ok (.aload_n 0, 1) := by decide +kernel
theorem d_kw_shareOf_6 : decode b_kw_shareOf 6 = .ok (.getfield 15, 3) := by decide +kernel
theorem d_kw_shareOf_9 : decode b_kw_shareOf 9 = .ok (.if_icmp .ge 26, 3) := by decide +kernel
theorem d_kw_shareOf_12 : decode b_kw_shareOf 12 = .ok (.lload_n 1, 1) := by decide +kernel
theorem d_kw_shareOf_13 : decode b_kw_shareOf 13 = .ok (.lconst 0, 1) := by decide +kernel
theorem d_kw_shareOf_14 : decode b_kw_shareOf 14 = .ok (.lcmp, 1) := by decide +kernel
theorem d_kw_shareOf_15 : decode b_kw_shareOf 15 = .ok (.ifCond .lt 20, 3) := by decide +kernel
theorem d_kw_shareOf_18 : decode b_kw_shareOf 18 = .ok (.lload_n 1, 1) := by decide +kernel
theorem d_kw_shareOf_19 : decode b_kw_shareOf 19 = .ok (.ldc2_w 24, 3) := by decide +kernel
theorem d_kw_shareOf_22 : decode b_kw_shareOf 22 = .ok (.lcmp, 1) := by decide +kernel
theorem d_kw_shareOf_23 : decode b_kw_shareOf 23 = .ok (.ifCond .gt 12, 3) := by decide +kernel
theorem d_kw_shareOf_26 : decode b_kw_shareOf 26 = .ok (.aload_n 0, 1) := by decide +kernel
theorem d_kw_shareOf_27 : decode b_kw_shareOf 27 = .ok (.getfield 19, 3) := by decide +kernel
theorem d_kw_shareOf_30 : decode b_kw_shareOf 30 = .ok (.lconst 1, 1) := by decide +kernel
theorem d_kw_shareOf_31 : decode b_kw_shareOf 31 = .ok (.lcmp, 1) := by decide +kernel
theorem d_kw_shareOf_32 : decode b_kw_shareOf 32 = .ok (.ifCond .ge 7, 3) := by decide +kernel
theorem d_kw_shareOf_35 : decode b_kw_shareOf 35 = .ok (.ldc2_w 26, 3) := by decide +kernel
theorem d_kw_shareOf_38 : decode b_kw_shareOf 38 = .ok (.lreturn, 1) := by decide +kernel
theorem d_kw_shareOf_39 : decode b_kw_shareOf 39 = .ok (.lload_n 1, 1) := by decide +kernel
theorem d_kw_shareOf_40 : decode b_kw_shareOf 40 = .ok (.aload_n 0, 1) := by decide +kernel
theorem d_kw_shareOf_41 : decode b_kw_shareOf 41 = .ok (.getfield 11, 3) := by decide +kernel
theorem d_kw_shareOf_44 : decode b_kw_shareOf 44 = .ok (.iload_n 3, 1) := by decide +kernel
theorem d_kw_shareOf_45 : decode b_kw_shareOf 45 = .ok (.iaload, 1) := by decide +kernel
theorem d_kw_shareOf_46 : decode b_kw_shareOf 46 = .ok (.i2l, 1) := by decide +kernel
theorem d_kw_shareOf_47 : decode b_kw_shareOf 47 = .ok (.lmul, 1) := by decide +kernel
theorem d_kw_shareOf_48 : decode b_kw_shareOf 48 = .ok (.aload_n 0, 1) := by decide +kernel
theorem d_kw_shareOf_49 : decode b_kw_shareOf 49 = .ok (.getfield 19, 3) := by decide +kernel
theorem d_kw_shareOf_52 : decode b_kw_shareOf 52 = .ok (.ldiv, 1) := by decide +kernel
theorem d_kw_shareOf_53 : decode b_kw_shareOf 53 = .ok (.lstore 4, 2) := by decide +kernel
theorem d_kw_shareOf_55 : decode b_kw_shareOf 55 = .ok (.lload_n 1, 1) := by decide +kernel
theorem d_kw_shareOf_56 : decode b_kw_shareOf 56 = .ok (.aload_n 0, 1) := by decide +kernel
theorem d_kw_shareOf_57 : decode b_kw_shareOf 57 = .ok (.getfield 11, 3) := by decide +kernel
theorem d_kw_shareOf_60 : decode b_kw_shareOf 60 = .ok (.iload_n 3, 1) := by decide +kernel
theorem d_kw_shareOf_61 : decode b_kw_shareOf 61 = .ok (.iaload, 1) := by decide +kernel
theorem d_kw_shareOf_62 : decode b_kw_shareOf 62 = .ok (.i2l, 1) := by decide +kernel
theorem d_kw_shareOf_63 : decode b_kw_shareOf 63 = .ok (.lmul, 1) := by decide +kernel
theorem d_kw_shareOf_64 : decode b_kw_shareOf 64 = .ok (.aload_n 0, 1) := by decide +kernel
theorem d_kw_shareOf_65 : decode b_kw_shareOf 65 = .ok (.getfield 19, 3) := by decide +kernel
theorem d_kw_shareOf_68 : decode b_kw_shareOf 68 = .ok (.lrem, 1) := by decide +kernel
theorem d_kw_shareOf_69 : decode b_kw_shareOf 69 = .ok (.lstore 6, 2) := by decide +kernel
theorem d_kw_shareOf_71 : decode b_kw_shareOf 71 = .ok (.lload_n 1, 1) := by decide +kernel
theorem d_kw_shareOf_72 : decode b_kw_shareOf 72 = .ok (.lstore 8, 2) := by decide +kernel
theorem d_kw_shareOf_74 : decode b_kw_shareOf 74 = .ok (.iconst 0, 1) := by decide +kernel
theorem d_kw_shareOf_75 : decode b_kw_shareOf 75 = .ok (.istore 10, 2) := by decide +kernel
theorem d_kw_shareOf_77 : decode b_kw_shareOf 77 = .ok (.iconst 0, 1) := by decide +kernel
theorem d_kw_shareOf_78 : decode b_kw_shareOf 78 = .ok (.istore 11, 2) := by decide +kernel
theorem d_kw_shareOf_80 : decode b_kw_shareOf 80 = .ok (.iload 11, 2) := by decide +kernel
theorem d_kw_shareOf_82 : decode b_kw_shareOf 82 = .ok (.aload_n 0, 1) := by decide +kernel
theorem d_kw_shareOf_83 : decode b_kw_shareOf 83 = .ok (.getfield 15, 3) := by decide +kernel
theorem d_kw_shareOf_86 : decode b_kw_shareOf 86 = .ok (.if_icmp .ge 71, 3) := by decide +kernel
theorem d_kw_shareOf_89 : decode b_kw_shareOf 89 = .ok (.lload_n 1, 1) := by decide +kernel
theorem d_kw_shareOf_90 : decode b_kw_shareOf 90 = .ok (.aload_n 0, 1) := by decide +kernel
theorem d_kw_shareOf_91 : decode b_kw_shareOf 91 = .ok (.getfield 11, 3) := by decide +kernel
theorem d_kw_shareOf_94 : decode b_kw_shareOf 94 = .ok (.iload 11, 2) := by decide +kernel
theorem d_kw_shareOf_96 : decode b_kw_shareOf 96 = .ok (.iaload, 1) := by decide +kernel
theorem d_kw_shareOf_97 : decode b_kw_shareOf 97 = .ok (.i2l, 1) := by decide +kernel
theorem d_kw_shareOf_98 : decode b_kw_shareOf 98 = .ok (.lmul, 1) := by decide +kernel
theorem d_kw_shareOf_99 : decode b_kw_shareOf 99 = .ok (.aload_n 0, 1) := by decide +kernel
theorem d_kw_shareOf_100 : decode b_kw_shareOf 100 = .ok (.getfield 19, 3) := by decide +kernel
theorem d_kw_shareOf_103 : decode b_kw_shareOf 103 = .ok (.lrem, 1) := by decide +kernel
theorem d_kw_shareOf_104 : decode b_kw_shareOf 104 = .ok (.lstore 12, 2) := by decide +kernel
theorem d_kw_shareOf_106 : decode b_kw_shareOf 106 = .ok (.lload 8, 2) := by decide +kernel
theorem d_kw_shareOf_108 : decode b_kw_shareOf 108 = .ok (.lload_n 1, 1) := by decide +kernel
theorem d_kw_shareOf_109 : decode b_kw_shareOf 109 = .ok (.aload_n 0, 1) := by decide +kernel
theorem d_kw_shareOf_110 : decode b_kw_shareOf 110 = .ok (.getfield 11, 3) := by decide +kernel
theorem d_kw_shareOf_113 : decode b_kw_shareOf 113 = .ok (.iload 11, 2) := by decide +kernel
theorem d_kw_shareOf_115 : decode b_kw_shareOf 115 = .ok (.iaload, 1) := by decide +kernel
theorem d_kw_shareOf_116 : decode b_kw_shareOf 116 = .ok (.i2l, 1) := by decide +kernel
theorem d_kw_shareOf_117 : decode b_kw_shareOf 117 = .ok (.lmul, 1) := by decide +kernel
theorem d_kw_shareOf_118 : decode b_kw_shareOf 118 = .ok (.aload_n 0, 1) := by decide +kernel
theorem d_kw_shareOf_119 : decode b_kw_shareOf 119 = .ok (.getfield 19, 3) := by decide +kernel
theorem d_kw_shareOf_122 : decode b_kw_shareOf 122 = .ok (.ldiv, 1) := by decide +kernel
theorem d_kw_shareOf_123 : decode b_kw_shareOf 123 = .ok (.lsub, 1) := by decide +kernel
theorem d_kw_shareOf_124 : decode b_kw_shareOf 124 = .ok (.lstore 8, 2) := by decide +kernel
theorem d_kw_shareOf_126 : decode b_kw_shareOf 126 = .ok (.lload 12, 2) := by decide +kernel
theorem d_kw_shareOf_128 : decode b_kw_shareOf 128 = .ok (.lload 6, 2) := by decide +kernel
theorem d_kw_shareOf_130 : decode b_kw_shareOf 130 = .ok (.lcmp, 1) := by decide +kernel
theorem d_kw_shareOf_131 : decode b_kw_shareOf 131 = .ok (.ifCond .gt 17, 3) := by decide +kernel
theorem d_kw_shareOf_134 : decode b_kw_shareOf 134 = .ok (.lload 12, 2) := by decide +kernel
theorem d_kw_shareOf_136 : decode b_kw_shareOf 136 = .ok (.lload 6, 2) := by decide +kernel
theorem d_kw_shareOf_138 : decode b_kw_shareOf 138 = .ok (.lcmp, 1) := by decide +kernel
theorem d_kw_shareOf_139 : decode b_kw_shareOf 139 = .ok (.ifCond .ne 12, 3) := by decide +kernel
theorem d_kw_shareOf_142 : decode b_kw_shareOf 142 = .ok (.iload 11, 2) := by decide +kernel
theorem d_kw_shareOf_144 : decode b_kw_shareOf 144 = .ok (.iload_n 3, 1) := by decide +kernel
theorem d_kw_shareOf_145 : decode b_kw_shareOf 145 = .ok (.if_icmp .ge 6, 3) := by decide +kernel
theorem d_kw_shareOf_148 : decode b_kw_shareOf 148 = .ok (.iinc 10 1, 3) := by decide +kernel
theorem d_kw_shareOf_151 : decode b_kw_shareOf 151 = .ok (.iinc 11 1, 3) := by decide +kernel
theorem d_kw_shareOf_154 : decode b_kw_shareOf 154 = .ok (.goto (-74), 3) := by decide +kernel
theorem d_kw_shareOf_157 : decode b_kw_shareOf 157 = .ok (.iload 10, 2) := by decide +kernel
theorem d_kw_shareOf_159 : decode b_kw_shareOf 159 = .ok (.i2l, 1) := by decide +kernel
theorem d_kw_shareOf_160 : decode b_kw_shareOf 160 = .ok (.lload 8, 2) := by decide +kernel
theorem d_kw_shareOf_162 : decode b_kw_shareOf 162 = .ok (.lcmp, 1) := by decide +kernel
theorem d_kw_shareOf_163 : decode b_kw_shareOf 163 = .ok (.ifCond .ge 10, 3) := by decide +kernel
theorem d_kw_shareOf_166 : decode b_kw_shareOf 166 = .ok (.lload 4, 2) := by decide +kernel
theorem d_kw_shareOf_168 : decode b_kw_shareOf 168 = .ok (.lconst 1, 1) := by decide +kernel
theorem d_kw_shareOf_169 : decode b_kw_shareOf 169 = .ok (.ladd, 1) := by decide +kernel
theorem d_kw_shareOf_170 : decode b_kw_shareOf 170 = .ok (.goto 5, 3) := by decide +kernel
theorem d_kw_shareOf_173 : decode b_kw_shareOf 173 = .ok (.lload 4, 2) := by decide +kernel
theorem d_kw_shareOf_175 : decode b_kw_shareOf 175 = .ok (.lreturn, 1) := by decide +kernel
abbrev b_kr_weight : ByteArray := prog_1_method_18_code
def y_kr_weight : MethodName := ⟨R_kr, "weight", "(I)I"⟩
def w_kr_weight : List Cond := .code y_kr_weight b_kr_weight 2 (some .int) :: kt_T
theorem d_kr_weight_0 : decode b_kr_weight 0 = .ok (.aload_n 0, 1) := by decide +kernel
theorem d_kr_weight_1 : decode b_kr_weight 1 = .ok (.getfield 43, 3) := by decide +kernel
theorem d_kr_weight_4 : decode b_kr_weight 4 = .ok (.iload_n 1, 1) := by decide +kernel
theorem d_kr_weight_5 : decode b_kr_weight 5 = .ok (.invokevirtual 137, 3) := by decide +kernel
theorem d_kr_weight_8 : decode b_kr_weight 8 = .ok (.ireturn, 1) := by decide +kernel
abbrev b_kr_share : ByteArray := prog_1_method_19_code
def y_kr_share : MethodName := ⟨R_kr, "share", "(JI)J"⟩
def w_kr_share : List Cond := .code y_kr_share b_kr_share 4 (some .long) :: kt_T
theorem d_kr_share_0 : decode b_kr_share 0 = .ok (.aload_n 0, 1) := by decide +kernel
theorem d_kr_share_1 : decode b_kr_share 1 = .ok (.getfield 43, 3) := by decide +kernel
theorem d_kr_share_4 : decode b_kr_share 4 = .ok (.lload_n 1, 1) := by decide +kernel
theorem d_kr_share_5 : decode b_kr_share 5 = .ok (.iload_n 3, 1) := by decide +kernel
theorem d_kr_share_6 : decode b_kr_share 6 = .ok (.invokevirtual 140, 3) := by decide +kernel
theorem d_kr_share_9 : decode b_kr_share 9 = .ok (.lreturn, 1) := by decide +kernel
theorem k_59 : (.constant R_kw 23 1000000 : Cond) ∈ kt_T := List.mem_filter.mpr ⟨List.mem_of_getElem? (i := 263) (by decide +kernel), by decide +kernel⟩
theorem k_60 : (.fieldLink R_kw 15 "KilogramRows$Weights" "count" "I" : Cond) ∈ kt_T := List.mem_filter.mpr ⟨List.mem_of_getElem? (i := 93) (by decide +kernel), by decide +kernel⟩
theorem k_61 : (.fieldLink R_kw 11 "KilogramRows$Weights" "sizes" "[I" : Cond) ∈ kt_T := List.mem_filter.mpr ⟨List.mem_of_getElem? (i := 92) (by decide +kernel), by decide +kernel⟩
theorem k_62 : (.fieldLink R_kw 19 "KilogramRows$Weights" "all" "J" : Cond) ∈ kt_T := List.mem_filter.mpr ⟨List.mem_of_getElem? (i := 94) (by decide +kernel), by decide +kernel⟩
theorem k_63 : (.constantLong R_kw 26 (-1) : Cond) ∈ kt_T := List.mem_filter.mpr ⟨List.mem_of_getElem? (i := 273) (by decide +kernel), by decide +kernel⟩
theorem k_64 : (.constantLong R_kw 24 1000000000000 : Cond) ∈ kt_T := List.mem_filter.mpr ⟨List.mem_of_getElem? (i := 272) (by decide +kernel), by decide +kernel⟩
theorem k_65 : (.fieldLink R_kr 43 "KilogramRows" "weights" "LKilogramRows$Weights;" : Cond) ∈ kt_T := List.mem_filter.mpr ⟨List.mem_of_getElem? (i := 107) (by decide +kernel), by decide +kernel⟩
theorem k_66 : (.code y_kw_append b_kw_append 2 (some .int) : Cond) ∈ kt_T := List.mem_filter.mpr ⟨List.mem_of_getElem? (i := 262) (by decide +kernel), by decide +kernel⟩
theorem k_67 : (.initialized R_kw : Cond) ∈ kt_T := List.mem_filter.mpr ⟨List.mem_of_getElem? (i := 20) (by decide +kernel), by decide +kernel⟩
theorem k_68 : (.instanceMethod y_kw_append : Cond) ∈ kt_T := List.mem_filter.mpr ⟨List.mem_of_getElem? (i := 260) (by decide +kernel), by decide +kernel⟩
theorem k_69 : (.selects R_kw y_kw_append y_kw_append : Cond) ∈ kt_T := List.mem_filter.mpr ⟨List.mem_of_getElem? (i := 261) (by decide +kernel), by decide +kernel⟩
theorem k_70 : (.methodLink R_kr 137 y_kw_append : Cond) ∈ kt_T := List.mem_filter.mpr ⟨List.mem_of_getElem? (i := 259) (by decide +kernel), by decide +kernel⟩
theorem k_71 : (.code y_kw_shareOf b_kw_shareOf 14 (some .long) : Cond) ∈ kt_T := List.mem_filter.mpr ⟨List.mem_of_getElem? (i := 271) (by decide +kernel), by decide +kernel⟩
theorem k_72 : (.instanceMethod y_kw_shareOf : Cond) ∈ kt_T := List.mem_filter.mpr ⟨List.mem_of_getElem? (i := 269) (by decide +kernel), by decide +kernel⟩
theorem k_73 : (.selects R_kw y_kw_shareOf y_kw_shareOf : Cond) ∈ kt_T := List.mem_filter.mpr ⟨List.mem_of_getElem? (i := 270) (by decide +kernel), by decide +kernel⟩
theorem k_74 : (.methodLink R_kr 140 y_kw_shareOf : Cond) ∈ kt_T := List.mem_filter.mpr ⟨List.mem_of_getElem? (i := 268) (by decide +kernel), by decide +kernel⟩
theorem in_wc {wc : Int32} (hw : vp_in wc 13) (h : wc < 12) : vp_in wc 12 := by
  rw [vp_in_iff] at hw ⊢
  rw [Int32.lt_iff_toInt_lt] at h
  have h3 : (12 : Int32).toInt = 12 := by decide
  omega
theorem in_k {wc k : Int32} (hw : vp_in wc 13) (h0 : ¬ k < 0) (h : ¬ wc ≤ k) : vp_in k 12 := by
  rw [vp_in_iff] at hw ⊢
  rw [Int32.le_iff_toInt_le] at h
  rw [Int32.lt_iff_toInt_lt, Int32.toInt_zero] at h0
  omega
def f_kw_append (wc : Int32) (all : Int64) (fz : Nat → Int32) (w : Int32) : Int32 × (Nat → Int32) × Int32 × Int64 :=
  if w < 0 then ((-1), fz, wc, all) else if 1000000 < w then ((-1), fz, wc, all) else if wc < 12 then (wc + 1, upd fz wc.toNatClampNeg w, wc + 1, all + w.toInt64) else ((-1), fz, wc, all)
set_option maxHeartbeats 4000000 in
set_option maxRecDepth 100000 in
theorem c_kw_append (l : Launch) (dC : Nat → ClassId) (dI : Nat → Nat → Nat) (sz : Nat) (a_w : Nat) (a_z : Nat) (wc : Int32) (all : Int64) (cZ : ClassId) (fz : Nat → Int32) (w : Int32) (hwc : vp_in wc 13) : Met l y_kw_append w_kw_append ({ frames := 0, cells := 0, slots := 0, locals := 0 }) (va_Pc [.ref a_w, .int w] (fun U => U.heap.size = sz ∧ va_P (dC, dI) classes [(a_w, .inr (3, [.ref a_z, .int wc, .long all])), (a_z, .inl (cZ, 12, .inl fz))] U.heap ∧ va_K (dC, dI) classes [(cZ, .int)] U ∧ va_D (fun _ => True) [(a_w, .inr (3, [.ref a_z, .int wc, .long all])), (a_z, .inl (cZ, 12, .inl fz))])) (va_Qi (fun z9 u9 => (z9, u9) = f_kw_append wc all fz w) (fun (u : (Nat → Int32) × Int32 × Int64) t => match u with | (fz', wc', all') => va_P (dC, dI) classes [(a_w, .inr (3, [.ref a_z, .int wc', .long all'])), (a_z, .inl (cZ, 12, .inl fz'))] t.heap ∧ va_K (dC, dI) classes [(cZ, .int)] t ∧ va_D (va_A [(a_w, .inr (3, [.ref a_z, .int wc, .long all])), (a_z, .inl (cZ, 12, .inl fz))] sz) [(a_w, .inr (3, [.ref a_z, .int wc', .long all'])), (a_z, .inl (cZ, 12, .inl fz'))]) (va_A [(a_w, .inr (3, [.ref a_z, .int wc, .long all])), (a_z, .inl (cZ, 12, .inl fz))] sz)) 0 0 (va_A [(a_w, .inr (3, [.ref a_z, .int wc, .long all])), (a_z, .inl (cZ, 12, .inl fz))] sz) := by
  refine Met.ofW (cc := b_kw_append) (maxL := 2) (ret := (some .int)) (by decide +kernel) rfl ?_
  intro p e s m args below meth c s₁ B hml hv
  obtain ⟨rfl, hsz, hP, hK, hD0⟩ := hv
  have hx := B.exec
  have hb := B.bytes
  have hr := B.returns
  have hts := atoms_spec (ws := w_kw_append) B.pre
  have hT := fun (w : Cond) (h : w ∈ kt_T) => hts w (List.mem_cons_of_mem _ h)
  have hown : s.vm.findClass R_kw = some m.cls := findClass_of_methodNamed B.named
  have hlocks := B.notSynchronized
  subst hsz
  have hD := hD0.self (sz := s.heap.size)
  generalize hAe : va_A [(a_w, .inr (3, [.ref a_z, .int wc, .long all])), (a_z, .inl (cZ, 12, .inl fz))] s.heap.size = A at hD ⊢
  have hA : ∀ q : Nat, s.heap.size ≤ q → A q := fun q h => by rw [← hAe]; exact Or.inr h
  have hS : va_S A s.heap s.heap [] := va_S.rf
  have hl := lv_entry ([.ref a_w, .int w]) (n := 2) (Nat.le_of_ble_eq_true rfl)
  rw [lg_entry_eq]
  generalize (lg_sl ([.ref a_w, .int w]) ++ List.replicate (2 - (lg_sl ([.ref a_w, .int w])).length) Slot.unset).toArray = ls at hl ⊢
  have hl : lv_has ls 2 [(0, .ref a_w), (1, .int w)] := hl
  refine lv_iload_n hx hb d_kw_append_0 rfl (lv_at hl 1 rfl) ?_
  refine lv_if_lt (tgt := 19) hx hb d_kw_append_1 (by decide) (fun c_1 => ?_) (fun c_1 => ?_)
  · refine lv_iconst (v := (-1)) hx hb d_kw_append_19 (by decide) ?_
    exact W.iret (v := (-1)) hx hb hr (fun t ht hW => ⟨⟨(-1), (fz, wc, all), rfl, by unfold f_kw_append; rw [if_pos c_1], by rw [ht]; exact hP, va_K.moved hW.alike hK, hD⟩, hS.F ht⟩) hS.2.2 d_kw_append_20
  · refine lv_iload_n hx hb d_kw_append_4 rfl (lv_at hl 1 rfl) ?_
    refine lv_ldc (v := 1000000) hx hb hown (hT _ k_59) d_kw_append_5 ?_
    refine lv_icmp_gt (tgt := 19) hx hb d_kw_append_7 (by decide) (fun c_2 => ?_) (fun c_2 => ?_)
    · refine lv_iconst (v := (-1)) hx hb d_kw_append_19 (by decide) ?_
      exact W.iret (v := (-1)) hx hb hr (fun t ht hW => ⟨⟨(-1), (fz, wc, all), rfl, by unfold f_kw_append; rw [if_neg c_1, if_pos c_2], by rw [ht]; exact hP, va_K.moved hW.alike hK, hD⟩, hS.F ht⟩) hS.2.2 d_kw_append_20
    · refine lv_aload_n hx hb d_kw_append_10 rfl (lv_at hl 0 rfl) ?_
      refine va_get (D := (dC, dI)) (ci := 3) (v := .int wc) (C := R_kw) (T := F_kw) (N := 3) hx hb hT i_kw hown hK hP 0 rfl rfl 1 (by decide) (hT _ k_60) (fun _ h9 => h9) rfl d_kw_append_11 ?_
      refine lv_bipush (v := 12) hx hb d_kw_append_14 (by decide) ?_
      refine lv_icmp_lt (tgt := 21) hx hb d_kw_append_16 (by decide) (fun c_3 => ?_) (fun c_3 => ?_)
      · refine lv_aload_n hx hb d_kw_append_21 rfl (lv_at hl 0 rfl) ?_
        refine va_get (D := (dC, dI)) (ci := 3) (v := .ref a_z) (C := R_kw) (T := F_kw) (N := 3) hx hb hT i_kw hown hK hP 0 rfl rfl 0 (by decide) (hT _ k_61) (fun _ h9 => h9) rfl d_kw_append_22 ?_
        refine lv_aload_n hx hb d_kw_append_25 rfl (lv_at hl 0 rfl) ?_
        refine va_get (D := (dC, dI)) (ci := 3) (v := .int wc) (C := R_kw) (T := F_kw) (N := 3) hx hb hT i_kw hown hK hP 0 rfl rfl 1 (by decide) (hT _ k_60) (fun _ h9 => h9) rfl d_kw_append_26 ?_
        refine lv_iload_n hx hb d_kw_append_29 rfl (lv_at hl 1 rfl) ?_
        refine va_iast hx hb hK hP hD hS 1 0 rfl rfl (in_wc hwc c_3) d_kw_append_30 (fun H locs hP hD hS => ?_)
        have hP : va_P (dC, dI) classes [(a_w, .inr (3, [.ref a_z, .int wc, .long all])), (a_z, .inl (cZ, 12, .inl (upd fz wc.toNatClampNeg w)))] H := hP
        have hD : va_D A [(a_w, .inr (3, [.ref a_z, .int wc, .long all])), (a_z, .inl (cZ, 12, .inl (upd fz wc.toNatClampNeg w)))] := hD
        refine lv_aload_n hx hb d_kw_append_31 rfl (lv_at hl 0 rfl) ?_
        refine lv_dup hx hb d_kw_append_32 rfl ?_
        refine va_get (D := (dC, dI)) (ci := 3) (v := .int wc) (C := R_kw) (T := F_kw) (N := 3) hx hb hT i_kw hown hK hP 0 rfl rfl 1 (by decide) (hT _ k_60) (fun _ h9 => h9) rfl d_kw_append_33 ?_
        refine lv_iconst (v := 1) hx hb d_kw_append_36 (by decide) ?_
        refine lv_iadd hx hb d_kw_append_37 ?_
        refine va_put (D := (dC, dI)) (ci := 3) (v := .int (wc + 1)) (ty := .int) (C := R_kw) (T := F_kw) (N := 3) hx hb hT i_kw t_kw t_kw_ok n_kw hown hK hP hD hS 0 rfl rfl 1 (by decide) (hT _ k_60) (fun _ h9 => h9) rfl (by decide +kernel) rfl rfl (Nat.le_of_ble_eq_true rfl) d_kw_append_38 (fun H locs hP hD hS => ?_)
        have hP : va_P (dC, dI) classes [(a_w, .inr (3, [.ref a_z, .int (wc + 1), .long all])), (a_z, .inl (cZ, 12, .inl (upd fz wc.toNatClampNeg w)))] H := hP
        have hD : va_D A [(a_w, .inr (3, [.ref a_z, .int (wc + 1), .long all])), (a_z, .inl (cZ, 12, .inl (upd fz wc.toNatClampNeg w)))] := hD
        refine lv_aload_n hx hb d_kw_append_41 rfl (lv_at hl 0 rfl) ?_
        refine lv_dup hx hb d_kw_append_42 rfl ?_
        refine va_get (D := (dC, dI)) (ci := 3) (v := .long all) (C := R_kw) (T := F_kw) (N := 3) hx hb hT i_kw hown hK hP 0 rfl rfl 2 (by decide) (hT _ k_62) (fun _ h9 => h9) rfl d_kw_append_43 ?_
        refine lv_iload_n hx hb d_kw_append_46 rfl (lv_at hl 1 rfl) ?_
        refine lv_i2l (v := w.toInt64) hx hb d_kw_append_47 rfl ?_
        refine lv_ladd hx hb d_kw_append_48 ?_
        refine va_put (D := (dC, dI)) (ci := 3) (v := .long (all + w.toInt64)) (ty := .long) (C := R_kw) (T := F_kw) (N := 3) hx hb hT i_kw t_kw t_kw_ok n_kw hown hK hP hD hS 0 rfl rfl 2 (by decide) (hT _ k_62) (fun _ h9 => h9) rfl (by decide +kernel) rfl rfl (Nat.le_of_ble_eq_true rfl) d_kw_append_49 (fun H locs hP hD hS => ?_)
        have hP : va_P (dC, dI) classes [(a_w, .inr (3, [.ref a_z, .int (wc + 1), .long (all + w.toInt64)])), (a_z, .inl (cZ, 12, .inl (upd fz wc.toNatClampNeg w)))] H := hP
        have hD : va_D A [(a_w, .inr (3, [.ref a_z, .int (wc + 1), .long (all + w.toInt64)])), (a_z, .inl (cZ, 12, .inl (upd fz wc.toNatClampNeg w)))] := hD
        refine lv_aload_n hx hb d_kw_append_52 rfl (lv_at hl 0 rfl) ?_
        refine va_get (D := (dC, dI)) (ci := 3) (v := .int (wc + 1)) (C := R_kw) (T := F_kw) (N := 3) hx hb hT i_kw hown hK hP 0 rfl rfl 1 (by decide) (hT _ k_60) (fun _ h9 => h9) rfl d_kw_append_53 ?_
        exact W.iret (v := wc + 1) hx hb hr (fun t ht hW => ⟨⟨wc + 1, (upd fz wc.toNatClampNeg w, wc + 1, all + w.toInt64), rfl, by unfold f_kw_append; rw [if_neg c_1, if_neg c_2, if_pos c_3], by rw [ht]; exact hP, va_K.moved hW.alike hK, hD⟩, hS.F ht⟩) hS.2.2 d_kw_append_56
      · refine lv_iconst (v := (-1)) hx hb d_kw_append_19 (by decide) ?_
        exact W.iret (v := (-1)) hx hb hr (fun t ht hW => ⟨⟨(-1), (fz, wc, all), rfl, by unfold f_kw_append; rw [if_neg c_1, if_neg c_2, if_neg c_3], by rw [ht]; exact hP, va_K.moved hW.alike hK, hD⟩, hS.F ht⟩) hS.2.2 d_kw_append_20
/-- the loop of shareOf: n weights are left, from j on -/
def shL (fz : Nat → Int32) (all whole : Int64) (k : Int32) (rest : Int64) : Nat → Nat → Int64 → Int32 → Int64 × Int32
  | 0, _, lf, ah => (lf, ah)
  | n + 1, j, lf, ah =>
    if rest < (whole * (fz j).toInt64) - (whole * (fz j).toInt64) / all * all then shL fz all whole k rest n (j + 1) (lf - (whole * (fz j).toInt64) / all) (ah + 1)
    else if (whole * (fz j).toInt64) - (whole * (fz j).toInt64) / all * all = rest then (if k ≤ nI j then shL fz all whole k rest n (j + 1) (lf - (whole * (fz j).toInt64) / all) ah else shL fz all whole k rest n (j + 1) (lf - (whole * (fz j).toInt64) / all) (ah + 1))
    else shL fz all whole k rest n (j + 1) (lf - (whole * (fz j).toInt64) / all) ah
def kw_shareE (own : Int64) (lf : Int64) (ah : Int32) : Int64 :=
  if lf ≤ ah.toInt64 then own else (own + 1)
set_option maxHeartbeats 4000000 in
theorem tl_kw_share {p : Program} {l : Launch} {e : Env} {R : Room} {s : State} {m : MethodId} {args : Array Value} {below : List Frame} {meth : Method} {c : Code} (hx : p.tables.exec = Jvm.exec) (hb : c.code = b_kw_shareOf) (hr : meth.sig.returnType = (some .long)) (hlocks : meth.locks = false) {post : Int64 → Prop} {own lf : Int64} {ah : Int32} (hq : post (kw_shareE own lf ah)) {ls : Array Slot} (hl : lv_has ls 14 [(4, .long own), (8, .long lf), (10, .int ah)]) :
    W p l e R s m args below meth c s.heap [] 0 0 (MQ below (vp_Sl post) args s 0 0 (fun _ => False)) (F0 m 157 ls []) := by
  refine lv_iload hx hb d_kw_shareOf_157 (lv_at hl 2 rfl) ?_
  refine lv_i2l (v := ah.toInt64) hx hb d_kw_shareOf_159 rfl ?_
  refine lv_lload hx hb d_kw_shareOf_160 (lv_at hl 1 rfl) ?_
  refine lx_ifge (tgt := 173) hx hb d_kw_shareOf_162 d_kw_shareOf_163 (by decide) (fun c_1 => ?_) (fun c_1 => ?_)
  · refine lv_lload hx hb d_kw_shareOf_173 (lv_at hl 0 rfl) ?_
    exact W.lret (v := own) hx hb hr (fun t ht hW => ⟨_, rfl, by unfold kw_shareE at hq; rw [if_pos c_1] at hq; exact hq, ht⟩) t_nil d_kw_shareOf_175
  · refine lv_lload hx hb d_kw_shareOf_166 (lv_at hl 0 rfl) ?_
    refine lv_lconst (v := 1) hx hb d_kw_shareOf_168 (by decide) ?_
    refine lv_ladd hx hb d_kw_shareOf_169 ?_
    refine lv_goto (tgt := 175) hx hb d_kw_shareOf_170 (by decide) ?_
    exact W.lret (v := own + 1) hx hb hr (fun t ht hW => ⟨_, rfl, by unfold kw_shareE at hq; rw [if_neg c_1] at hq; exact hq, ht⟩) t_nil d_kw_shareOf_175
set_option maxHeartbeats 4000000 in
theorem lp_kw_share {p : Program} {l : Launch} {e : Env} {R : Room} {s : State} {m : MethodId} {args : Array Value} {below : List Frame} {meth : Method} {c : Code} {dC : Nat → ClassId} {dI : Nat → Nat → Nat} (hx : p.tables.exec = Jvm.exec) (hb : c.code = b_kw_shareOf) (hr : meth.sig.returnType = (some .long)) (hlocks : meth.locks = false) {post : Int64 → Prop} {a_w : Nat} {a_z : Nat} {wc : Int32} {all : Int64} {cZ : ClassId} {fz : Nat → Int32} {whole : Int64} {k : Int32} {own rest : Int64} {N : Nat} (hT : ∀ w ∈ kt_T, w.before args s = true) (hown : s.vm.findClass R_kw = some m.cls) (hK : va_K (dC, dI) classes [(cZ, .int)] s) (hP : va_P (dC, dI) classes [(a_w, .inr (3, [.ref a_z, .int wc, .long all])), (a_z, .inl (cZ, 12, .inl fz))] s.heap) (h0 : ¬ all = 0) (hN : N ≤ 12) (hN2 : wc = nI N) :
    ∀ (n j : Nat) (lf : Int64) (ah : Int32), j + n = N → post (kw_shareE own (shL fz all whole k rest n j lf ah).1 (shL fz all whole k rest n j lf ah).2) → ∀ {ls : Array Slot}, lv_has ls 14 [(0, .ref a_w), (1, .long whole), (3, .int k), (4, .long own), (6, .long rest), (8, .long lf), (10, .int ah), (11, .int (nI j))] → W p l e R s m args below meth c s.heap [] 0 0 (MQ below (vp_Sl post) args s 0 0 (fun _ => False)) (F0 m 80 ls []) := by
  intro n
  induction n with
  | zero =>
    intro j lf ah hj hq ls hl
    refine lv_iload hx hb d_kw_shareOf_80 (lv_at hl 7 rfl) ?_
    refine lv_aload_n hx hb d_kw_shareOf_82 rfl (lv_at hl 0 rfl) ?_
    refine va_get (D := (dC, dI)) (ci := 3) (v := .int wc) (C := R_kw) (T := F_kw) (N := 3) hx hb hT i_kw hown hK hP 0 rfl rfl 1 (by decide) (hT _ k_60) (fun _ h9 => h9) rfl d_kw_shareOf_83 ?_
    refine lv_icmp_ge (tgt := 157) hx hb d_kw_shareOf_86 (by decide) (fun c_2 => ?_) (fun c_2 => ?_)
    · exact tl_kw_share hx hb hr hlocks hq (lv_sub hl [3, 5, 6] rfl)
    · exact absurd (by rw [hN2, ← hj]; exact nI_le (Nat.le_refl _) (by omega)) c_2
  | succ n ih =>
    intro j lf ah hj hq ls hl
    refine lv_iload hx hb d_kw_shareOf_80 (lv_at hl 7 rfl) ?_
    refine lv_aload_n hx hb d_kw_shareOf_82 rfl (lv_at hl 0 rfl) ?_
    refine va_get (D := (dC, dI)) (ci := 3) (v := .int wc) (C := R_kw) (T := F_kw) (N := 3) hx hb hT i_kw hown hK hP 0 rfl rfl 1 (by decide) (hT _ k_60) (fun _ h9 => h9) rfl d_kw_shareOf_83 ?_
    refine lv_icmp_ge (tgt := 157) hx hb d_kw_shareOf_86 (by decide) (fun c_3 => ?_) (fun c_3 => ?_)
    · exact absurd c_3 (by rw [hN2]; exact nI_ge (by omega) (by omega))
    · refine lv_lload_n hx hb d_kw_shareOf_89 rfl (lv_at hl 1 rfl) ?_
      refine lv_aload_n hx hb d_kw_shareOf_90 rfl (lv_at hl 0 rfl) ?_
      refine va_get (D := (dC, dI)) (ci := 3) (v := .ref a_z) (C := R_kw) (T := F_kw) (N := 3) hx hb hT i_kw hown hK hP 0 rfl rfl 0 (by decide) (hT _ k_61) (fun _ h9 => h9) rfl d_kw_shareOf_91 ?_
      refine lv_iload hx hb d_kw_shareOf_94 (lv_at hl 7 rfl) ?_
      refine va_ialdN (i := j) hx hb hK hP 1 0 rfl rfl ⟨by omega, by decide⟩ d_kw_shareOf_96 ?_
      refine lv_i2l (v := (fz j).toInt64) hx hb d_kw_shareOf_97 rfl ?_
      refine lv_lmul hx hb d_kw_shareOf_98 ?_
      refine lv_aload_n hx hb d_kw_shareOf_99 rfl (lv_at hl 0 rfl) ?_
      refine va_get (D := (dC, dI)) (ci := 3) (v := .long all) (C := R_kw) (T := F_kw) (N := 3) hx hb hT i_kw hown hK hP 0 rfl rfl 2 (by decide) (hT _ k_62) (fun _ h9 => h9) rfl d_kw_shareOf_100 ?_
      refine lv_lrem hx hb d_kw_shareOf_103 h0 ?_
      refine lv_lstore (lv' := [(12, .long ((whole * ((fz j).toInt64)) - (whole * ((fz j).toInt64)) / all * all)), (0, .ref a_w), (1, .long whole), (3, .int k), (4, .long own), (6, .long rest), (8, .long lf), (10, .int ah), (11, .int (nI j))]) hx hb d_kw_shareOf_104 hl (by decide) rfl (fun ls hl => ?_)
      refine lv_lload hx hb d_kw_shareOf_106 (lv_at hl 6 rfl) ?_
      refine lv_lload_n hx hb d_kw_shareOf_108 rfl (lv_at hl 2 rfl) ?_
      refine lv_aload_n hx hb d_kw_shareOf_109 rfl (lv_at hl 1 rfl) ?_
      refine va_get (D := (dC, dI)) (ci := 3) (v := .ref a_z) (C := R_kw) (T := F_kw) (N := 3) hx hb hT i_kw hown hK hP 0 rfl rfl 0 (by decide) (hT _ k_61) (fun _ h9 => h9) rfl d_kw_shareOf_110 ?_
      refine lv_iload hx hb d_kw_shareOf_113 (lv_at hl 8 rfl) ?_
      refine va_ialdN (i := j) hx hb hK hP 1 0 rfl rfl ⟨by omega, by decide⟩ d_kw_shareOf_115 ?_
      refine lv_i2l (v := (fz j).toInt64) hx hb d_kw_shareOf_116 rfl ?_
      refine lv_lmul hx hb d_kw_shareOf_117 ?_
      refine lv_aload_n hx hb d_kw_shareOf_118 rfl (lv_at hl 1 rfl) ?_
      refine va_get (D := (dC, dI)) (ci := 3) (v := .long all) (C := R_kw) (T := F_kw) (N := 3) hx hb hT i_kw hown hK hP 0 rfl rfl 2 (by decide) (hT _ k_62) (fun _ h9 => h9) rfl d_kw_shareOf_119 ?_
      refine lv_ldiv hx hb d_kw_shareOf_122 h0 ?_
      refine lv_lsub hx hb d_kw_shareOf_123 ?_
      refine lv_lstore (lv' := [(8, .long (lf - ((whole * ((fz j).toInt64)) / all))), (12, .long ((whole * ((fz j).toInt64)) - (whole * ((fz j).toInt64)) / all * all)), (0, .ref a_w), (1, .long whole), (3, .int k), (4, .long own), (6, .long rest), (10, .int ah), (11, .int (nI j))]) hx hb d_kw_shareOf_124 hl (by decide) rfl (fun ls hl => ?_)
      refine lv_lload hx hb d_kw_shareOf_126 (lv_at hl 1 rfl) ?_
      refine lv_lload hx hb d_kw_shareOf_128 (lv_at hl 6 rfl) ?_
      refine lx_ifgt (tgt := 148) hx hb d_kw_shareOf_130 d_kw_shareOf_131 (by decide) (fun c_4 => ?_) (fun c_4 => ?_)
      · refine lv_iinc (v := ah + 1) (lv' := [(10, .int (ah + 1)), (8, .long (lf - ((whole * ((fz j).toInt64)) / all))), (12, .long ((whole * ((fz j).toInt64)) - (whole * ((fz j).toInt64)) / all * all)), (0, .ref a_w), (1, .long whole), (3, .int k), (4, .long own), (6, .long rest), (11, .int (nI j))]) hx hb d_kw_shareOf_148 hl (k := 7) rfl rfl (by decide) rfl (fun ls hl => ?_)
        refine lv_iinc (v := (nI j) + 1) (lv' := [(11, .int ((nI j) + 1)), (10, .int (ah + 1)), (8, .long (lf - ((whole * ((fz j).toInt64)) / all))), (12, .long ((whole * ((fz j).toInt64)) - (whole * ((fz j).toInt64)) / all * all)), (0, .ref a_w), (1, .long whole), (3, .int k), (4, .long own), (6, .long rest)]) hx hb d_kw_shareOf_151 hl (k := 8) rfl rfl (by decide) rfl (fun ls hl => ?_)
        refine lv_goto (tgt := 80) hx hb d_kw_shareOf_154 (by decide) ?_
        exact ih (j + 1) _ _ (by omega) (by rw [shL, if_pos c_4] at hq; exact hq) (by have h9 := lv_sub hl [4, 5, 6, 7, 8, 2, 1, 0] rfl; rw [nI_1] at h9; exact h9)
      · refine lv_lload hx hb d_kw_shareOf_134 (lv_at hl 1 rfl) ?_
        refine lv_lload hx hb d_kw_shareOf_136 (lv_at hl 6 rfl) ?_
        refine lx_ifne (tgt := 151) hx hb d_kw_shareOf_138 d_kw_shareOf_139 (by decide) (fun c_5 => ?_) (fun c_5 => ?_)
        · refine lv_iinc (v := (nI j) + 1) (lv' := [(11, .int ((nI j) + 1)), (8, .long (lf - ((whole * ((fz j).toInt64)) / all))), (12, .long ((whole * ((fz j).toInt64)) - (whole * ((fz j).toInt64)) / all * all)), (0, .ref a_w), (1, .long whole), (3, .int k), (4, .long own), (6, .long rest), (10, .int ah)]) hx hb d_kw_shareOf_151 hl (k := 8) rfl rfl (by decide) rfl (fun ls hl => ?_)
          refine lv_goto (tgt := 80) hx hb d_kw_shareOf_154 (by decide) ?_
          exact ih (j + 1) _ _ (by omega) (by rw [shL, if_neg c_4, if_neg c_5] at hq; exact hq) (by have h9 := lv_sub hl [3, 4, 5, 6, 7, 1, 8, 0] rfl; rw [nI_1] at h9; exact h9)
        · refine lv_iload hx hb d_kw_shareOf_142 (lv_at hl 8 rfl) ?_
          refine lv_iload_n hx hb d_kw_shareOf_144 rfl (lv_at hl 4 rfl) ?_
          refine lv_icmp_ge (tgt := 151) hx hb d_kw_shareOf_145 (by decide) (fun c_6 => ?_) (fun c_6 => ?_)
          · refine lv_iinc (v := (nI j) + 1) (lv' := [(11, .int ((nI j) + 1)), (8, .long (lf - ((whole * ((fz j).toInt64)) / all))), (12, .long ((whole * ((fz j).toInt64)) - (whole * ((fz j).toInt64)) / all * all)), (0, .ref a_w), (1, .long whole), (3, .int k), (4, .long own), (6, .long rest), (10, .int ah)]) hx hb d_kw_shareOf_151 hl (k := 8) rfl rfl (by decide) rfl (fun ls hl => ?_)
            refine lv_goto (tgt := 80) hx hb d_kw_shareOf_154 (by decide) ?_
            exact ih (j + 1) _ _ (by omega) (by rw [shL, if_neg c_4, if_pos c_5, if_pos c_6] at hq; exact hq) (by have h9 := lv_sub hl [3, 4, 5, 6, 7, 1, 8, 0] rfl; rw [nI_1] at h9; exact h9)
          · refine lv_iinc (v := ah + 1) (lv' := [(10, .int (ah + 1)), (8, .long (lf - ((whole * ((fz j).toInt64)) / all))), (12, .long ((whole * ((fz j).toInt64)) - (whole * ((fz j).toInt64)) / all * all)), (0, .ref a_w), (1, .long whole), (3, .int k), (4, .long own), (6, .long rest), (11, .int (nI j))]) hx hb d_kw_shareOf_148 hl (k := 7) rfl rfl (by decide) rfl (fun ls hl => ?_)
            refine lv_iinc (v := (nI j) + 1) (lv' := [(11, .int ((nI j) + 1)), (10, .int (ah + 1)), (8, .long (lf - ((whole * ((fz j).toInt64)) / all))), (12, .long ((whole * ((fz j).toInt64)) - (whole * ((fz j).toInt64)) / all * all)), (0, .ref a_w), (1, .long whole), (3, .int k), (4, .long own), (6, .long rest)]) hx hb d_kw_shareOf_151 hl (k := 8) rfl rfl (by decide) rfl (fun ls hl => ?_)
            refine lv_goto (tgt := 80) hx hb d_kw_shareOf_154 (by decide) ?_
            exact ih (j + 1) _ _ (by omega) (by rw [shL, if_neg c_4, if_pos c_5, if_neg c_6] at hq; exact hq) (by have h9 := lv_sub hl [4, 5, 6, 7, 8, 2, 1, 0] rfl; rw [nI_1] at h9; exact h9)
def f_kw_shareOf (wc : Int32) (all : Int64) (fz : Nat → Int32) (whole : Int64) (k : Int32) : Int64 :=
  if k < 0 then (-1) else if wc ≤ k then (-1) else if whole < 0 then (-1) else if 1000000000000 < whole then (-1) else if 1 ≤ all then (kw_shareE ((whole * ((fz k.toNatClampNeg).toInt64)) / all) (shL fz all whole k ((whole * ((fz k.toNatClampNeg).toInt64)) - (whole * ((fz k.toNatClampNeg).toInt64)) / all * all) wc.toNatClampNeg 0 whole 0).1 (shL fz all whole k ((whole * ((fz k.toNatClampNeg).toInt64)) - (whole * ((fz k.toNatClampNeg).toInt64)) / all * all) wc.toNatClampNeg 0 whole 0).2) else (-1)
set_option maxHeartbeats 4000000 in
set_option maxRecDepth 100000 in
theorem c_kw_shareOf (l : Launch) (dC : Nat → ClassId) (dI : Nat → Nat → Nat) (a_w : Nat) (a_z : Nat) (wc : Int32) (all : Int64) (cZ : ClassId) (fz : Nat → Int32) (whole : Int64) (k : Int32) (hwc : vp_in wc 13) : Met l y_kw_shareOf w_kw_shareOf ({ frames := 0, cells := 0, slots := 0, locals := 0 }) (va_Pc [.ref a_w, .long whole, .int k] (fun U => va_P (dC, dI) classes [(a_w, .inr (3, [.ref a_z, .int wc, .long all])), (a_z, .inl (cZ, 12, .inl fz))] U.heap ∧ va_K (dC, dI) classes [(cZ, .int)] U)) (vp_Sl (fun z9 => z9 = f_kw_shareOf wc all fz whole k)) 0 0 (fun _ => False) := by
  refine Met.ofW (cc := b_kw_shareOf) (maxL := 14) (ret := (some .long)) (by decide +kernel) rfl ?_
  intro p e s m args below meth c s₁ B hml hv
  obtain ⟨rfl, hP, hK⟩ := hv
  have hx := B.exec
  have hb := B.bytes
  have hr := B.returns
  have hts := atoms_spec (ws := w_kw_shareOf) B.pre
  have hT := fun (w : Cond) (h : w ∈ kt_T) => hts w (List.mem_cons_of_mem _ h)
  have hown : s.vm.findClass R_kw = some m.cls := findClass_of_methodNamed B.named
  have hlocks := B.notSynchronized
  have hl := lv_entry ([.ref a_w, .long whole, .int k]) (n := 14) (Nat.le_of_ble_eq_true rfl)
  rw [lg_entry_eq]
  generalize (lg_sl ([.ref a_w, .long whole, .int k]) ++ List.replicate (14 - (lg_sl ([.ref a_w, .long whole, .int k])).length) Slot.unset).toArray = ls at hl ⊢
  have hl : lv_has ls 14 [(0, .ref a_w), (1, .long whole), (3, .int k)] := hl
  refine lv_iload_n hx hb d_kw_shareOf_0 rfl (lv_at hl 2 rfl) ?_
  refine lv_if_lt (tgt := 35) hx hb d_kw_shareOf_1 (by decide) (fun c_1 => ?_) (fun c_1 => ?_)
  · refine lv_ldc2 (v := (-1)) hx hb hown (hT _ k_63) d_kw_shareOf_35 ?_
    exact W.lret (v := (-1)) hx hb hr (fun t ht hW => ⟨_, rfl, by unfold f_kw_shareOf; rw [if_pos c_1], ht⟩) t_nil d_kw_shareOf_38
  · refine lv_iload_n hx hb d_kw_shareOf_4 rfl (lv_at hl 2 rfl) ?_
    refine lv_aload_n hx hb d_kw_shareOf_5 rfl (lv_at hl 0 rfl) ?_
    refine va_get (D := (dC, dI)) (ci := 3) (v := .int wc) (C := R_kw) (T := F_kw) (N := 3) hx hb hT i_kw hown hK hP 0 rfl rfl 1 (by decide) (hT _ k_60) (fun _ h9 => h9) rfl d_kw_shareOf_6 ?_
    refine lv_icmp_ge (tgt := 35) hx hb d_kw_shareOf_9 (by decide) (fun c_2 => ?_) (fun c_2 => ?_)
    · refine lv_ldc2 (v := (-1)) hx hb hown (hT _ k_63) d_kw_shareOf_35 ?_
      exact W.lret (v := (-1)) hx hb hr (fun t ht hW => ⟨_, rfl, by unfold f_kw_shareOf; rw [if_neg c_1, if_pos c_2], ht⟩) t_nil d_kw_shareOf_38
    · refine lv_lload_n hx hb d_kw_shareOf_12 rfl (lv_at hl 1 rfl) ?_
      refine lv_lconst (v := 0) hx hb d_kw_shareOf_13 (by decide) ?_
      refine lx_iflt (tgt := 35) hx hb d_kw_shareOf_14 d_kw_shareOf_15 (by decide) (fun c_3 => ?_) (fun c_3 => ?_)
      · refine lv_ldc2 (v := (-1)) hx hb hown (hT _ k_63) d_kw_shareOf_35 ?_
        exact W.lret (v := (-1)) hx hb hr (fun t ht hW => ⟨_, rfl, by unfold f_kw_shareOf; rw [if_neg c_1, if_neg c_2, if_pos c_3], ht⟩) t_nil d_kw_shareOf_38
      · refine lv_lload_n hx hb d_kw_shareOf_18 rfl (lv_at hl 1 rfl) ?_
        refine lv_ldc2 (v := 1000000000000) hx hb hown (hT _ k_64) d_kw_shareOf_19 ?_
        refine lx_ifgt (tgt := 35) hx hb d_kw_shareOf_22 d_kw_shareOf_23 (by decide) (fun c_4 => ?_) (fun c_4 => ?_)
        · refine lv_ldc2 (v := (-1)) hx hb hown (hT _ k_63) d_kw_shareOf_35 ?_
          exact W.lret (v := (-1)) hx hb hr (fun t ht hW => ⟨_, rfl, by unfold f_kw_shareOf; rw [if_neg c_1, if_neg c_2, if_neg c_3, if_pos c_4], ht⟩) t_nil d_kw_shareOf_38
        · refine lv_aload_n hx hb d_kw_shareOf_26 rfl (lv_at hl 0 rfl) ?_
          refine va_get (D := (dC, dI)) (ci := 3) (v := .long all) (C := R_kw) (T := F_kw) (N := 3) hx hb hT i_kw hown hK hP 0 rfl rfl 2 (by decide) (hT _ k_62) (fun _ h9 => h9) rfl d_kw_shareOf_27 ?_
          refine lv_lconst (v := 1) hx hb d_kw_shareOf_30 (by decide) ?_
          refine lx_ifge (tgt := 39) hx hb d_kw_shareOf_31 d_kw_shareOf_32 (by decide) (fun c_5 => ?_) (fun c_5 => ?_)
          · refine lv_lload_n hx hb d_kw_shareOf_39 rfl (lv_at hl 1 rfl) ?_
            refine lv_aload_n hx hb d_kw_shareOf_40 rfl (lv_at hl 0 rfl) ?_
            refine va_get (D := (dC, dI)) (ci := 3) (v := .ref a_z) (C := R_kw) (T := F_kw) (N := 3) hx hb hT i_kw hown hK hP 0 rfl rfl 0 (by decide) (hT _ k_61) (fun _ h9 => h9) rfl d_kw_shareOf_41 ?_
            refine lv_iload_n hx hb d_kw_shareOf_44 rfl (lv_at hl 2 rfl) ?_
            refine va_iald hx hb hK hP 1 0 rfl rfl (in_k hwc c_1 c_2) d_kw_shareOf_45 ?_
            refine lv_i2l (v := (fz k.toNatClampNeg).toInt64) hx hb d_kw_shareOf_46 rfl ?_
            refine lv_lmul hx hb d_kw_shareOf_47 ?_
            refine lv_aload_n hx hb d_kw_shareOf_48 rfl (lv_at hl 0 rfl) ?_
            refine va_get (D := (dC, dI)) (ci := 3) (v := .long all) (C := R_kw) (T := F_kw) (N := 3) hx hb hT i_kw hown hK hP 0 rfl rfl 2 (by decide) (hT _ k_62) (fun _ h9 => h9) rfl d_kw_shareOf_49 ?_
            refine lv_ldiv hx hb d_kw_shareOf_52 (ne0_of1 c_5) ?_
            refine lv_lstore (lv' := [(4, .long ((whole * ((fz k.toNatClampNeg).toInt64)) / all)), (0, .ref a_w), (1, .long whole), (3, .int k)]) hx hb d_kw_shareOf_53 hl (by decide) rfl (fun ls hl => ?_)
            refine lv_lload_n hx hb d_kw_shareOf_55 rfl (lv_at hl 2 rfl) ?_
            refine lv_aload_n hx hb d_kw_shareOf_56 rfl (lv_at hl 1 rfl) ?_
            refine va_get (D := (dC, dI)) (ci := 3) (v := .ref a_z) (C := R_kw) (T := F_kw) (N := 3) hx hb hT i_kw hown hK hP 0 rfl rfl 0 (by decide) (hT _ k_61) (fun _ h9 => h9) rfl d_kw_shareOf_57 ?_
            refine lv_iload_n hx hb d_kw_shareOf_60 rfl (lv_at hl 3 rfl) ?_
            refine va_iald hx hb hK hP 1 0 rfl rfl (in_k hwc c_1 c_2) d_kw_shareOf_61 ?_
            refine lv_i2l (v := (fz k.toNatClampNeg).toInt64) hx hb d_kw_shareOf_62 rfl ?_
            refine lv_lmul hx hb d_kw_shareOf_63 ?_
            refine lv_aload_n hx hb d_kw_shareOf_64 rfl (lv_at hl 1 rfl) ?_
            refine va_get (D := (dC, dI)) (ci := 3) (v := .long all) (C := R_kw) (T := F_kw) (N := 3) hx hb hT i_kw hown hK hP 0 rfl rfl 2 (by decide) (hT _ k_62) (fun _ h9 => h9) rfl d_kw_shareOf_65 ?_
            refine lv_lrem hx hb d_kw_shareOf_68 (ne0_of1 c_5) ?_
            refine lv_lstore (lv' := [(6, .long ((whole * ((fz k.toNatClampNeg).toInt64)) - (whole * ((fz k.toNatClampNeg).toInt64)) / all * all)), (4, .long ((whole * ((fz k.toNatClampNeg).toInt64)) / all)), (0, .ref a_w), (1, .long whole), (3, .int k)]) hx hb d_kw_shareOf_69 hl (by decide) rfl (fun ls hl => ?_)
            refine lv_lload_n hx hb d_kw_shareOf_71 rfl (lv_at hl 3 rfl) ?_
            refine lv_lstore (lv' := [(8, .long whole), (6, .long ((whole * ((fz k.toNatClampNeg).toInt64)) - (whole * ((fz k.toNatClampNeg).toInt64)) / all * all)), (4, .long ((whole * ((fz k.toNatClampNeg).toInt64)) / all)), (0, .ref a_w), (1, .long whole), (3, .int k)]) hx hb d_kw_shareOf_72 hl (by decide) rfl (fun ls hl => ?_)
            refine lv_iconst (v := 0) hx hb d_kw_shareOf_74 (by decide) ?_
            refine lv_istore (lv' := [(10, .int 0), (8, .long whole), (6, .long ((whole * ((fz k.toNatClampNeg).toInt64)) - (whole * ((fz k.toNatClampNeg).toInt64)) / all * all)), (4, .long ((whole * ((fz k.toNatClampNeg).toInt64)) / all)), (0, .ref a_w), (1, .long whole), (3, .int k)]) hx hb d_kw_shareOf_75 hl (by decide) rfl (fun ls hl => ?_)
            refine lv_iconst (v := 0) hx hb d_kw_shareOf_77 (by decide) ?_
            refine lv_istore (lv' := [(11, .int 0), (10, .int 0), (8, .long whole), (6, .long ((whole * ((fz k.toNatClampNeg).toInt64)) - (whole * ((fz k.toNatClampNeg).toInt64)) / all * all)), (4, .long ((whole * ((fz k.toNatClampNeg).toInt64)) / all)), (0, .ref a_w), (1, .long whole), (3, .int k)]) hx hb d_kw_shareOf_78 hl (by decide) rfl (fun ls hl => ?_)
            obtain ⟨N, hN, hN2⟩ := vp_in_of hwc (by decide)
            exact lp_kw_share (post := fun r => r = f_kw_shareOf wc all fz whole k) hx hb hr hlocks hT hown hK hP (ne0_of1 c_5) (Nat.lt_succ_iff.mp hN) hN2 N 0 whole 0 (Nat.zero_add _) (by unfold f_kw_shareOf; rw [if_neg c_1, if_neg c_2, if_neg c_3, if_neg c_4, if_pos c_5, hN2, nI_clamp (by omega)]) (lv_sub hl [5, 6, 7, 4, 3, 2, 1, 0] rfl)
          · refine lv_ldc2 (v := (-1)) hx hb hown (hT _ k_63) d_kw_shareOf_35 ?_
            exact W.lret (v := (-1)) hx hb hr (fun t ht hW => ⟨_, rfl, by unfold f_kw_shareOf; rw [if_neg c_1, if_neg c_2, if_neg c_3, if_neg c_4, if_neg c_5], ht⟩) t_nil d_kw_shareOf_38
def f_kr_weight (wc : Int32) (all : Int64) (fz : Nat → Int32) (w : Int32) : Int32 × (Nat → Int32) × Int32 × Int64 :=
  (f_kw_append wc all fz w)
set_option maxHeartbeats 4000000 in
set_option maxRecDepth 100000 in
theorem c_kr_weight (l : Launch) (dC : Nat → ClassId) (dI : Nat → Nat → Nat) (sz : Nat) (ak : Nat) (a_w : Nat) (a_z : Nat) (kinds : Int32) (ac : Nat) (rowc : Int32) (a0 : Nat) (a_s : Nat) (wc : Int32) (all : Int64) (cZ : ClassId) (fz : Nat → Int32) (w : Int32) (hwc : vp_in wc 13) : Met l y_kr_weight w_kr_weight ({ frames := 1, cells := 0, slots := 0, locals := 21 }) (va_Pc [.ref ak, .int w] (fun U => U.heap.size = sz ∧ va_P (dC, dI) classes [(ak, .inr (0, [.int kinds, .ref ac, .int rowc, .ref a0, .ref a_s, .ref a_w])), (a_w, .inr (3, [.ref a_z, .int wc, .long all])), (a_z, .inl (cZ, 12, .inl fz))] U.heap ∧ va_K (dC, dI) classes [(cZ, .int)] U ∧ va_D (fun _ => True) [(ak, .inr (0, [.int kinds, .ref ac, .int rowc, .ref a0, .ref a_s, .ref a_w])), (a_w, .inr (3, [.ref a_z, .int wc, .long all])), (a_z, .inl (cZ, 12, .inl fz))])) (va_Qi (fun z9 u9 => (z9, u9) = f_kr_weight wc all fz w) (fun (u : (Nat → Int32) × Int32 × Int64) t => match u with | (fz', wc', all') => va_P (dC, dI) classes [(ak, .inr (0, [.int kinds, .ref ac, .int rowc, .ref a0, .ref a_s, .ref a_w])), (a_w, .inr (3, [.ref a_z, .int wc', .long all'])), (a_z, .inl (cZ, 12, .inl fz'))] t.heap ∧ va_K (dC, dI) classes [(cZ, .int)] t ∧ va_D (va_A [(ak, .inr (0, [.int kinds, .ref ac, .int rowc, .ref a0, .ref a_s, .ref a_w])), (a_w, .inr (3, [.ref a_z, .int wc, .long all])), (a_z, .inl (cZ, 12, .inl fz))] sz) [(ak, .inr (0, [.int kinds, .ref ac, .int rowc, .ref a0, .ref a_s, .ref a_w])), (a_w, .inr (3, [.ref a_z, .int wc', .long all'])), (a_z, .inl (cZ, 12, .inl fz'))]) (va_A [(ak, .inr (0, [.int kinds, .ref ac, .int rowc, .ref a0, .ref a_s, .ref a_w])), (a_w, .inr (3, [.ref a_z, .int wc, .long all])), (a_z, .inl (cZ, 12, .inl fz))] sz)) 0 0 (va_A [(ak, .inr (0, [.int kinds, .ref ac, .int rowc, .ref a0, .ref a_s, .ref a_w])), (a_w, .inr (3, [.ref a_z, .int wc, .long all])), (a_z, .inl (cZ, 12, .inl fz))] sz) := by
  refine Met.ofW (cc := b_kr_weight) (maxL := 2) (ret := (some .int)) (by decide +kernel) rfl ?_
  intro p e s m args below meth c s₁ B hml hv
  obtain ⟨rfl, hsz, hP, hK, hD0⟩ := hv
  have hx := B.exec
  have hb := B.bytes
  have hr := B.returns
  have hts := atoms_spec (ws := w_kr_weight) B.pre
  have hT := fun (w : Cond) (h : w ∈ kt_T) => hts w (List.mem_cons_of_mem _ h)
  have hown : s.vm.findClass R_kr = some m.cls := findClass_of_methodNamed B.named
  have hlocks := B.notSynchronized
  subst hsz
  have hD := hD0.self (sz := s.heap.size)
  generalize hAe : va_A [(ak, .inr (0, [.int kinds, .ref ac, .int rowc, .ref a0, .ref a_s, .ref a_w])), (a_w, .inr (3, [.ref a_z, .int wc, .long all])), (a_z, .inl (cZ, 12, .inl fz))] s.heap.size = A at hD ⊢
  have hA : ∀ q : Nat, s.heap.size ≤ q → A q := fun q h => by rw [← hAe]; exact Or.inr h
  have hS : va_S A s.heap s.heap [] := va_S.rf
  have hl := lv_entry ([.ref ak, .int w]) (n := 2) (Nat.le_of_ble_eq_true rfl)
  rw [lg_entry_eq]
  generalize (lg_sl ([.ref ak, .int w]) ++ List.replicate (2 - (lg_sl ([.ref ak, .int w])).length) Slot.unset).toArray = ls at hl ⊢
  have hl : lv_has ls 2 [(0, .ref ak), (1, .int w)] := hl
  refine lv_aload_n hx hb d_kr_weight_0 rfl (lv_at hl 0 rfl) ?_
  refine va_get (D := (dC, dI)) (ci := 0) (v := .ref a_w) (C := R_kr) (T := F_kr) (N := 6) hx hb hT i_kr hown hK hP 0 rfl rfl 5 (by decide) (hT _ k_65) (fun _ h9 => h9) rfl d_kr_weight_1 ?_
  refine lv_iload_n hx hb d_kr_weight_4 rfl (lv_at hl 1 rfl) ?_
  have hPc := hP.sub (ws' := [(a_w, .inr (3, [.ref a_z, .int wc, .long all])), (a_z, .inl (cZ, 12, .inl fz))]) [1, 2] rfl
  have hKc := hK.sub (tys' := [(cZ, .int)]) [0] rfl
  have hDc := hD.sub (ws' := [(a_w, .inr (3, [.ref a_z, .int wc, .long all])), (a_z, .inl (cZ, 12, .inl fz))]) [1, 2] (by decide) rfl
  have hFc := va_free (wc := [(a_w, .inr (3, [.ref a_z, .int wc, .long all])), (a_z, .inl (cZ, 12, .inl fz))]) hD hS hA [1, 2] rfl
  refine va_calli (va_runV (As := [.int w]) (rest := []) ⟨hx, hb, hml, hown, hT⟩ (c_kw_append l dC dI s.heap.size a_w a_z wc all cZ fz w hwc) (cwV 1 hT (kt_V k_70 k_68 k_69 k_67 k_66) rfl rfl rfl (by decide +kernel) ⟨Nat.le_of_ble_eq_true rfl, Nat.le_of_ble_eq_true rfl⟩) ⟨bl_M, va_recv hKc hPc (ci := 3) (q0 := 0) rfl rfl, fun U hU hW => ⟨rfl, by rw [hU], by rw [hU]; exact hPc, va_K.moved hW.alike hKc, hDc.weaken (fun _ _ _ _ => trivial)⟩⟩ rfl rfl hl.1 rfl (lv_room (Nat.le_of_ble_eq_true rfl)) d_kr_weight_5 ⟨Nat.zero_le _, Nat.zero_le _⟩) hS (fun q _ h => hFc q h) hFc (fun r_1 u t H1 locs ht hvm hw hB hz1 hk1 hS => ?_)
  obtain ⟨fz_1, wc_1, all_1⟩ := u
  obtain ⟨hP1, hK1, hD1⟩ := hB
  rw [ht] at hP1
  obtain ⟨hP, hD⟩ := va_join (wr := [(ak, .inr (0, [.int kinds, .ref ac, .int rowc, .ref a0, .ref a_s, .ref a_w]))]) (w1 := [(a_w, .inr (3, [.ref a_z, .int wc_1, .long all_1])), (a_z, .inl (cZ, 12, .inl fz_1))]) hP hD [1, 2] [0] rfl rfl (by decide) (by decide) hk1 hFc hP1 hD1
  generalize H1 = H at hP hS ⊢
  have hP := hP.sub (ws' := [(ak, .inr (0, [.int kinds, .ref ac, .int rowc, .ref a0, .ref a_s, .ref a_w])), (a_w, .inr (3, [.ref a_z, .int wc_1, .long all_1])), (a_z, .inl (cZ, 12, .inl fz_1))]) [0, 1, 2] rfl
  have hD := hD.sub (ws' := [(ak, .inr (0, [.int kinds, .ref ac, .int rowc, .ref a0, .ref a_s, .ref a_w])), (a_w, .inr (3, [.ref a_z, .int wc_1, .long all_1])), (a_z, .inl (cZ, 12, .inl fz_1))]) [0, 1, 2] (by decide) rfl
  have e_r_1 : r_1 = (f_kw_append wc all fz w).1 := congrArg (fun z => z.1) hw
  have e_fz_1 : fz_1 = (f_kw_append wc all fz w).2.1 := congrArg (fun z => z.2.1) hw
  have e_wc_1 : wc_1 = (f_kw_append wc all fz w).2.2.1 := congrArg (fun z => z.2.2.1) hw
  have e_all_1 : all_1 = (f_kw_append wc all fz w).2.2.2 := congrArg (fun z => z.2.2.2) hw
  subst e_r_1 e_fz_1 e_wc_1 e_all_1
  clear hP1 hK1 hD1 hk1 hz1 hFc hDc hPc hKc
  exact W.iret (v := (f_kw_append wc all fz w).1) hx hb hr (fun t ht hW => ⟨⟨(f_kw_append wc all fz w).1, ((f_kw_append wc all fz w).2.1, (f_kw_append wc all fz w).2.2.1, (f_kw_append wc all fz w).2.2.2), rfl, rfl, by rw [ht]; exact hP, va_K.moved hW.alike hK, hD⟩, hS.F ht⟩) hS.2.2 d_kr_weight_8
def f_kr_share (wc : Int32) (all : Int64) (fz : Nat → Int32) (whole : Int64) (k : Int32) : Int64 :=
  (f_kw_shareOf wc all fz whole k)
set_option maxHeartbeats 4000000 in
set_option maxRecDepth 100000 in
theorem c_kr_share (l : Launch) (dC : Nat → ClassId) (dI : Nat → Nat → Nat) (ak : Nat) (a_w : Nat) (a_z : Nat) (kinds : Int32) (ac : Nat) (rowc : Int32) (a0 : Nat) (a_s : Nat) (wc : Int32) (all : Int64) (cZ : ClassId) (fz : Nat → Int32) (whole : Int64) (k : Int32) (hwc : vp_in wc 13) : Met l y_kr_share w_kr_share ({ frames := 1, cells := 0, slots := 0, locals := 33 }) (va_Pc [.ref ak, .long whole, .int k] (fun U => va_P (dC, dI) classes [(ak, .inr (0, [.int kinds, .ref ac, .int rowc, .ref a0, .ref a_s, .ref a_w])), (a_w, .inr (3, [.ref a_z, .int wc, .long all])), (a_z, .inl (cZ, 12, .inl fz))] U.heap ∧ va_K (dC, dI) classes [(cZ, .int)] U)) (vp_Sl (fun z9 => z9 = f_kr_share wc all fz whole k)) 0 0 (fun _ => False) := by
  refine Met.ofW (cc := b_kr_share) (maxL := 4) (ret := (some .long)) (by decide +kernel) rfl ?_
  intro p e s m args below meth c s₁ B hml hv
  obtain ⟨rfl, hP, hK⟩ := hv
  have hx := B.exec
  have hb := B.bytes
  have hr := B.returns
  have hts := atoms_spec (ws := w_kr_share) B.pre
  have hT := fun (w : Cond) (h : w ∈ kt_T) => hts w (List.mem_cons_of_mem _ h)
  have hown : s.vm.findClass R_kr = some m.cls := findClass_of_methodNamed B.named
  have hlocks := B.notSynchronized
  have hl := lv_entry ([.ref ak, .long whole, .int k]) (n := 4) (Nat.le_of_ble_eq_true rfl)
  rw [lg_entry_eq]
  generalize (lg_sl ([.ref ak, .long whole, .int k]) ++ List.replicate (4 - (lg_sl ([.ref ak, .long whole, .int k])).length) Slot.unset).toArray = ls at hl ⊢
  have hl : lv_has ls 4 [(0, .ref ak), (1, .long whole), (3, .int k)] := hl
  refine lv_aload_n hx hb d_kr_share_0 rfl (lv_at hl 0 rfl) ?_
  refine va_get (D := (dC, dI)) (ci := 0) (v := .ref a_w) (C := R_kr) (T := F_kr) (N := 6) hx hb hT i_kr hown hK hP 0 rfl rfl 5 (by decide) (hT _ k_65) (fun _ h9 => h9) rfl d_kr_share_1 ?_
  refine lv_lload_n hx hb d_kr_share_4 rfl (lv_at hl 1 rfl) ?_
  refine lv_iload_n hx hb d_kr_share_5 rfl (lv_at hl 2 rfl) ?_
  have hPc := hP.sub (ws' := [(a_w, .inr (3, [.ref a_z, .int wc, .long all])), (a_z, .inl (cZ, 12, .inl fz))]) [1, 2] rfl
  have hKc := hK.sub (tys' := [(cZ, .int)]) [0] rfl
  refine vp_callSl (W.runV (As := [.long whole, .int k]) (rest := []) ⟨hx, hb, hml, hown, hT⟩ (c_kw_shareOf l dC dI a_w a_z wc all cZ fz whole k hwc) (cwV 2 hT (kt_V k_74 k_72 k_73 k_67 k_71) rfl rfl rfl (by decide +kernel) ⟨Nat.le_of_ble_eq_true rfl, Nat.le_of_ble_eq_true rfl⟩) ⟨bl_R, va_recv hKc hPc (ci := 3) (q0 := 0) rfl rfl, fun U hU hW => ⟨rfl, by rw [hU]; exact hPc, va_K.moved hW.alike hKc⟩⟩ rfl rfl hl.1 rfl (lv_room (Nat.le_of_ble_eq_true rfl)) d_kr_share_6 ⟨Nat.zero_le _, Nat.zero_le _⟩) (fun r_1 e_r_1 => ?_)
  subst e_r_1
  exact W.lret (v := f_kw_shareOf wc all fz whole k) hx hb hr (fun t ht hW => ⟨_, rfl, rfl, ht⟩) t_nil d_kr_share_9
