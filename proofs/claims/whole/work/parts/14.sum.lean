abbrev b_kr_sum : ByteArray := prog_1_method_14_code
def y_kr_sum : MethodName := ⟨R_kr, "sum", "(I)I"⟩
def w_kr_sum : List Cond := .code y_kr_sum b_kr_sum 15 (some .int) :: kt_T
theorem d_kr_sum_0 : decode b_kr_sum 0 = .ok (.aload_n 0, 1) := by decide +kernel
theorem d_kr_sum_1 : decode b_kr_sum 1 = .ok (.iload_n 1, 1) := by decide +kernel
theorem d_kr_sum_2 : decode b_kr_sum 2 = .ok (.invokevirtual 108, 3) := by decide +kernel
theorem d_kr_sum_5 : decode b_kr_sum 5 = .ok (.ifCond .ne 5, 3) := by decide +kernel
theorem d_kr_sum_8 : decode b_kr_sum 8 = .ok (.iconst (-1), 1) := by decide +kernel
theorem d_kr_sum_9 : decode b_kr_sum 9 = .ok (.ireturn, 1) := by decide +kernel
theorem d_kr_sum_10 : decode b_kr_sum 10 = .ok (.iconst 0, 1) := by decide +kernel
theorem d_kr_sum_11 : decode b_kr_sum 11 = .ok (.istore_n 2, 1) := by decide +kernel
theorem d_kr_sum_12 : decode b_kr_sum 12 = .ok (.lconst 0, 1) := by decide +kernel
theorem d_kr_sum_13 : decode b_kr_sum 13 = .ok (.lstore_n 3, 1) := by decide +kernel
theorem d_kr_sum_14 : decode b_kr_sum 14 = .ok (.lconst 1, 1) := by decide +kernel
theorem d_kr_sum_15 : decode b_kr_sum 15 = .ok (.lstore 5, 2) := by decide +kernel
theorem d_kr_sum_17 : decode b_kr_sum 17 = .ok (.iconst 0, 1) := by decide +kernel
theorem d_kr_sum_18 : decode b_kr_sum 18 = .ok (.istore 7, 2) := by decide +kernel
theorem d_kr_sum_20 : decode b_kr_sum 20 = .ok (.iload 7, 2) := by decide +kernel
theorem d_kr_sum_22 : decode b_kr_sum 22 = .ok (.aload_n 0, 1) := by decide +kernel
theorem d_kr_sum_23 : decode b_kr_sum 23 = .ok (.getfield 9, 3) := by decide +kernel
theorem d_kr_sum_26 : decode b_kr_sum 26 = .ok (.if_icmp .ge 124, 3) := by decide +kernel
theorem d_kr_sum_29 : decode b_kr_sum 29 = .ok (.aload_n 0, 1) := by decide +kernel
theorem d_kr_sum_30 : decode b_kr_sum 30 = .ok (.getfield 13, 3) := by decide +kernel
theorem d_kr_sum_33 : decode b_kr_sum 33 = .ok (.iload_n 1, 1) := by decide +kernel
theorem d_kr_sum_34 : decode b_kr_sum 34 = .ok (.aload_n 0, 1) := by decide +kernel
theorem d_kr_sum_35 : decode b_kr_sum 35 = .ok (.getfield 9, 3) := by decide +kernel
theorem d_kr_sum_38 : decode b_kr_sum 38 = .ok (.imul, 1) := by decide +kernel
theorem d_kr_sum_39 : decode b_kr_sum 39 = .ok (.iload 7, 2) := by decide +kernel
theorem d_kr_sum_41 : decode b_kr_sum 41 = .ok (.iadd, 1) := by decide +kernel
theorem d_kr_sum_42 : decode b_kr_sum 42 = .ok (.iaload, 1) := by decide +kernel
theorem d_kr_sum_43 : decode b_kr_sum 43 = .ok (.istore 8, 2) := by decide +kernel
theorem d_kr_sum_45 : decode b_kr_sum 45 = .ok (.aload_n 0, 1) := by decide +kernel
theorem d_kr_sum_46 : decode b_kr_sum 46 = .ok (.getfield 29, 3) := by decide +kernel
theorem d_kr_sum_49 : decode b_kr_sum 49 = .ok (.iload 8, 2) := by decide +kernel
theorem d_kr_sum_51 : decode b_kr_sum 51 = .ok (.invokevirtual 58, 3) := by decide +kernel
theorem d_kr_sum_54 : decode b_kr_sum 54 = .ok (.ifCond .ne 6, 3) := by decide +kernel
theorem d_kr_sum_57 : decode b_kr_sum 57 = .ok (.goto 87, 3) := by decide +kernel
theorem d_kr_sum_60 : decode b_kr_sum 60 = .ok (.lload_n 3, 1) := by decide +kernel
theorem d_kr_sum_61 : decode b_kr_sum 61 = .ok (.aload_n 0, 1) := by decide +kernel
theorem d_kr_sum_62 : decode b_kr_sum 62 = .ok (.getfield 29, 3) := by decide +kernel
theorem d_kr_sum_65 : decode b_kr_sum 65 = .ok (.iload 8, 2) := by decide +kernel
theorem d_kr_sum_67 : decode b_kr_sum 67 = .ok (.invokevirtual 82, 3) := by decide +kernel
theorem d_kr_sum_70 : decode b_kr_sum 70 = .ok (.lmul, 1) := by decide +kernel
theorem d_kr_sum_71 : decode b_kr_sum 71 = .ok (.aload_n 0, 1) := by decide +kernel
theorem d_kr_sum_72 : decode b_kr_sum 72 = .ok (.getfield 29, 3) := by decide +kernel
theorem d_kr_sum_75 : decode b_kr_sum 75 = .ok (.iload 8, 2) := by decide +kernel
theorem d_kr_sum_77 : decode b_kr_sum 77 = .ok (.invokevirtual 78, 3) := by decide +kernel
theorem d_kr_sum_80 : decode b_kr_sum 80 = .ok (.lload 5, 2) := by decide +kernel
theorem d_kr_sum_82 : decode b_kr_sum 82 = .ok (.lmul, 1) := by decide +kernel
theorem d_kr_sum_83 : decode b_kr_sum 83 = .ok (.ladd, 1) := by decide +kernel
theorem d_kr_sum_84 : decode b_kr_sum 84 = .ok (.lstore 9, 2) := by decide +kernel
theorem d_kr_sum_86 : decode b_kr_sum 86 = .ok (.lload 5, 2) := by decide +kernel
theorem d_kr_sum_88 : decode b_kr_sum 88 = .ok (.aload_n 0, 1) := by decide +kernel
theorem d_kr_sum_89 : decode b_kr_sum 89 = .ok (.getfield 29, 3) := by decide +kernel
theorem d_kr_sum_92 : decode b_kr_sum 92 = .ok (.iload 8, 2) := by decide +kernel
theorem d_kr_sum_94 : decode b_kr_sum 94 = .ok (.invokevirtual 82, 3) := by decide +kernel
theorem d_kr_sum_97 : decode b_kr_sum 97 = .ok (.lmul, 1) := by decide +kernel
theorem d_kr_sum_98 : decode b_kr_sum 98 = .ok (.lstore 11, 2) := by decide +kernel
theorem d_kr_sum_100 : decode b_kr_sum 100 = .ok (.lload 9, 2) := by decide +kernel
theorem d_kr_sum_102 : decode b_kr_sum 102 = .ok (.lload 11, 2) := by decide +kernel
theorem d_kr_sum_104 : decode b_kr_sum 104 = .ok (.invokestatic 116, 3) := by decide +kernel
theorem d_kr_sum_107 : decode b_kr_sum 107 = .ok (.lstore 13, 2) := by decide +kernel
theorem d_kr_sum_109 : decode b_kr_sum 109 = .ok (.lload 13, 2) := by decide +kernel
theorem d_kr_sum_111 : decode b_kr_sum 111 = .ok (.lconst 0, 1) := by decide +kernel
theorem d_kr_sum_112 : decode b_kr_sum 112 = .ok (.lcmp, 1) := by decide +kernel
theorem d_kr_sum_113 : decode b_kr_sum 113 = .ok (.ifCond .ne 5, 3) := by decide +kernel
theorem d_kr_sum_116 : decode b_kr_sum 116 = .ok (.iconst (-1), 1) := by decide +kernel
theorem d_kr_sum_117 : decode b_kr_sum 117 = .ok (.ireturn, 1) := by decide +kernel
theorem d_kr_sum_118 : decode b_kr_sum 118 = .ok (.lload 9, 2) := by decide +kernel
theorem d_kr_sum_120 : decode b_kr_sum 120 = .ok (.lload 13, 2) := by decide +kernel
theorem d_kr_sum_122 : decode b_kr_sum 122 = .ok (.ldiv, 1) := by decide +kernel
theorem d_kr_sum_123 : decode b_kr_sum 123 = .ok (.lstore_n 3, 1) := by decide +kernel
theorem d_kr_sum_124 : decode b_kr_sum 124 = .ok (.lload 11, 2) := by decide +kernel
theorem d_kr_sum_126 : decode b_kr_sum 126 = .ok (.lload 13, 2) := by decide +kernel
theorem d_kr_sum_128 : decode b_kr_sum 128 = .ok (.ldiv, 1) := by decide +kernel
theorem d_kr_sum_129 : decode b_kr_sum 129 = .ok (.lstore 5, 2) := by decide +kernel
theorem d_kr_sum_131 : decode b_kr_sum 131 = .ok (.lload_n 3, 1) := by decide +kernel
theorem d_kr_sum_132 : decode b_kr_sum 132 = .ok (.lload 5, 2) := by decide +kernel
theorem d_kr_sum_134 : decode b_kr_sum 134 = .ok (.invokestatic 119, 3) := by decide +kernel
theorem d_kr_sum_137 : decode b_kr_sum 137 = .ok (.ifCond .ne 5, 3) := by decide +kernel
theorem d_kr_sum_140 : decode b_kr_sum 140 = .ok (.iconst (-1), 1) := by decide +kernel
theorem d_kr_sum_141 : decode b_kr_sum 141 = .ok (.ireturn, 1) := by decide +kernel
theorem d_kr_sum_142 : decode b_kr_sum 142 = .ok (.iconst 1, 1) := by decide +kernel
theorem d_kr_sum_143 : decode b_kr_sum 143 = .ok (.istore_n 2, 1) := by decide +kernel
theorem d_kr_sum_144 : decode b_kr_sum 144 = .ok (.iinc 7 1, 3) := by decide +kernel
theorem d_kr_sum_147 : decode b_kr_sum 147 = .ok (.goto (-127), 3) := by decide +kernel
theorem d_kr_sum_150 : decode b_kr_sum 150 = .ok (.iload_n 2, 1) := by decide +kernel
theorem d_kr_sum_151 : decode b_kr_sum 151 = .ok (.ifCond .eq 16, 3) := by decide +kernel
theorem d_kr_sum_154 : decode b_kr_sum 154 = .ok (.aload_n 0, 1) := by decide +kernel
theorem d_kr_sum_155 : decode b_kr_sum 155 = .ok (.getfield 29, 3) := by decide +kernel
theorem d_kr_sum_158 : decode b_kr_sum 158 = .ok (.lload_n 3, 1) := by decide +kernel
theorem d_kr_sum_159 : decode b_kr_sum 159 = .ok (.lload 5, 2) := by decide +kernel
theorem d_kr_sum_161 : decode b_kr_sum 161 = .ok (.invokevirtual 54, 3) := by decide +kernel
theorem d_kr_sum_164 : decode b_kr_sum 164 = .ok (.goto 4, 3) := by decide +kernel
theorem d_kr_sum_167 : decode b_kr_sum 167 = .ok (.iconst (-1), 1) := by decide +kernel
theorem d_kr_sum_168 : decode b_kr_sum 168 = .ok (.ireturn, 1) := by decide +kernel
theorem k_115 : (.fieldLink R_kr 13 "KilogramRows" "cells" "[I" : Cond) ∈ kt_T := List.mem_filter.mpr ⟨List.mem_of_getElem? (i := 103) (by decide +kernel), by decide +kernel⟩
theorem k_116 : (.methodLink R_kr 116 y_kr_gcd : Cond) ∈ kt_T := List.mem_filter.mpr ⟨List.mem_of_getElem? (i := 208) (by decide +kernel), by decide +kernel⟩
theorem k_117 : (.methodLink R_kr 119 y_kv_fits : Cond) ∈ kt_T := List.mem_filter.mpr ⟨List.mem_of_getElem? (i := 209) (by decide +kernel), by decide +kernel⟩
theorem k_118 : (.code y_kr_hasRow b_kr_hasRow 2 (some .boolean) : Cond) ∈ kt_T := List.mem_filter.mpr ⟨List.mem_of_getElem? (i := 207) (by decide +kernel), by decide +kernel⟩
theorem k_119 : (.instanceMethod y_kr_hasRow : Cond) ∈ kt_T := List.mem_filter.mpr ⟨List.mem_of_getElem? (i := 206) (by decide +kernel), by decide +kernel⟩
theorem k_120 : (.selects R_kr y_kr_hasRow y_kr_hasRow : Cond) ∈ kt_T := List.mem_filter.mpr ⟨List.mem_of_getElem? (i := 0) (by decide +kernel), by decide +kernel⟩
theorem k_121 : (.methodLink R_kr 108 y_kr_hasRow : Cond) ∈ kt_T := List.mem_filter.mpr ⟨List.mem_of_getElem? (i := 204) (by decide +kernel), by decide +kernel⟩
theorem in_row {row rowc : Int32} (hr0 : vp_in rowc 21) (h : ¬ f_kr_hasRow rowc row = 0) : ∃ r, r < 20 ∧ row = nI r := by
  refine vp_in_of ?_ (by decide)
  rw [vp_in_iff] at hr0 ⊢
  unfold f_kr_hasRow at h
  split at h
  · exact absurd rfl h
  · rename_i h1
    split at h
    · exact absurd rfl h
    · rename_i h2
      rw [Int32.lt_iff_toInt_lt, Int32.toInt_zero] at h1
      rw [Int32.le_iff_toInt_le] at h2
      omega
theorem in_kind {kind kinds : Int32} {nk : Nat} (hn : kinds = nI nk ∧ nk ≤ 16) (h : ¬ f_kr_hasKind kinds kind = 0) : ∃ k, k < nk ∧ kind = nI k := by
  unfold f_kr_hasKind at h
  split at h
  · exact absurd rfl h
  · rename_i h1
    split at h
    · exact absurd rfl h
    · rename_i h2
      obtain ⟨j, hj, rfl⟩ := nI_of h1
      rw [hn.1] at h2
      rcases Nat.lt_or_ge j nk with q | q
      · exact ⟨j, q, rfl⟩
      · exact absurd (nI_le q hj) h2
theorem in_cell {nk : Nat} {row kind kinds rowc : Int32} (hn : kinds = nI nk ∧ nk ≤ 16) (hr0 : vp_in rowc 21) (h : ¬ f_kr_hasRow rowc row = 0) (hk : ¬ f_kr_hasKind kinds kind = 0) : vp_in ((row * kinds) + kind) (20 * nk) := by
  obtain ⟨r, hr, e⟩ := in_row hr0 h
  obtain ⟨k, hk2, e2⟩ := in_kind hn hk
  rw [e, e2, hn.1, pk_mul, nI_add]
  have h1 : r * nk ≤ 19 * nk := Nat.mul_le_mul_right _ (by omega)
  exact vp_in_nI (by omega) (by omega)
/-- the sum of a row's values: n kinds are left, from j on; none: some sum on the way isn't so -/
def smL (cnt : Int32) (fu fl fc : Nat → Int32) (row kinds : Int32) : Nat → Nat → Int32 → Int64 → Int64 → Option (Int32 × Int64 × Int64)
  | 0, _, y, u, v => some (y, u, v)
  | n + 1, j, y, u, v =>
    if f_kv_has cnt (fc ((row * kinds) + (nI j)).toNatClampNeg) = 0 then smL cnt fu fl fc row kinds n (j + 1) y u v
    else if f_kr_gcd ((u * (f_kv_lower fl (fc ((row * kinds) + (nI j)).toNatClampNeg))) + ((f_kv_upper fu (fc ((row * kinds) + (nI j)).toNatClampNeg)) * v)) (v * (f_kv_lower fl (fc ((row * kinds) + (nI j)).toNatClampNeg))) = 0 then none
    else if f_kv_fits (((u * (f_kv_lower fl (fc ((row * kinds) + (nI j)).toNatClampNeg))) + ((f_kv_upper fu (fc ((row * kinds) + (nI j)).toNatClampNeg)) * v)) / (f_kr_gcd ((u * (f_kv_lower fl (fc ((row * kinds) + (nI j)).toNatClampNeg))) + ((f_kv_upper fu (fc ((row * kinds) + (nI j)).toNatClampNeg)) * v)) (v * (f_kv_lower fl (fc ((row * kinds) + (nI j)).toNatClampNeg))))) ((v * (f_kv_lower fl (fc ((row * kinds) + (nI j)).toNatClampNeg))) / (f_kr_gcd ((u * (f_kv_lower fl (fc ((row * kinds) + (nI j)).toNatClampNeg))) + ((f_kv_upper fu (fc ((row * kinds) + (nI j)).toNatClampNeg)) * v)) (v * (f_kv_lower fl (fc ((row * kinds) + (nI j)).toNatClampNeg))))) = 0 then none
    else smL cnt fu fl fc row kinds n (j + 1) 1 (((u * (f_kv_lower fl (fc ((row * kinds) + (nI j)).toNatClampNeg))) + ((f_kv_upper fu (fc ((row * kinds) + (nI j)).toNatClampNeg)) * v)) / (f_kr_gcd ((u * (f_kv_lower fl (fc ((row * kinds) + (nI j)).toNatClampNeg))) + ((f_kv_upper fu (fc ((row * kinds) + (nI j)).toNatClampNeg)) * v)) (v * (f_kv_lower fl (fc ((row * kinds) + (nI j)).toNatClampNeg))))) ((v * (f_kv_lower fl (fc ((row * kinds) + (nI j)).toNatClampNeg))) / (f_kr_gcd ((u * (f_kv_lower fl (fc ((row * kinds) + (nI j)).toNatClampNeg))) + ((f_kv_upper fu (fc ((row * kinds) + (nI j)).toNatClampNeg)) * v)) (v * (f_kv_lower fl (fc ((row * kinds) + (nI j)).toNatClampNeg)))))
theorem in_cellj {nk j : Nat} {row kinds rowc : Int32} (hn : kinds = nI nk ∧ nk ≤ 16) (hr0 : vp_in rowc 21) (h : ¬ f_kr_hasRow rowc row = 0) (hj : j < nk) : vp_in ((row * kinds) + (nI j)) (20 * nk) := by
  obtain ⟨r, hr, e⟩ := in_row hr0 h
  rw [e, hn.1, pk_mul, nI_add]
  have h1 : r * nk ≤ 19 * nk := Nat.mul_le_mul_right _ (by omega)
  exact vp_in_nI (by omega) (by omega)
set_option maxHeartbeats 4000000 in
theorem lp_kr_sum {p : Program} {l : Launch} {e : Env} {R : Room} {s : State} {m : MethodId} {args : Array Value} {below : List Frame} {meth : Method} {c : Code} {dC : Nat → ClassId} {dI : Nat → Nat → Nat} {A : Nat → Prop} {Q : State → Prop} {ak : Nat} {ac : Nat} {a0 : Nat} {a1 : Nat} {a2 : Nat} {kinds : Int32} {rowc : Int32} {a_s : Nat} {a_w : Nat} {cC : ClassId} {nk : Nat} {fc : Nat → Int32} {cnt : Int32} {cU : ClassId} {fu : Nat → Int32} {cL : ClassId} {fl : Nat → Int32} {row : Int32} (hx : p.tables.exec = Jvm.exec) (hb : c.code = b_kr_sum) (hml : c.maxLocals = 15) (hown : s.vm.findClass R_kr = some m.cls) (hT : ∀ w ∈ kt_T, w.before args s = true) (hA : ∀ q : Nat, s.heap.size ≤ q → A q) (hK : va_K (dC, dI) classes [(cC, .int), (cU, .int), (cL, .int)] s) (hN : kt_N s) (hRf : 1 ≤ R.frames) (hRl : 30 ≤ R.locals) (hP : va_P (dC, dI) classes [(ak, .inr (0, [.int kinds, .ref ac, .int rowc, .ref a0, .ref a_s, .ref a_w])), (ac, .inl (cC, (20 * nk), .inl fc)), (a0, .inr (1, [.ref a1, .ref a2, .int cnt])), (a1, .inl (cU, 300, .inl fu)), (a2, .inl (cL, 300, .inl fl))] s.heap) (hc : vp_in cnt 301) (hn : kinds = nI nk ∧ nk ≤ 16) (hr0 : vp_in rowc 21) (hrow : ¬ f_kr_hasRow rowc row = 0) :
    ∀ (n j : Nat) (y : Int32) (u v : Int64), j + n = nk → (∀ (y2 : Int32) (u2 v2 : Int64), (smL cnt fu fl fc row kinds n j y u v) = some (y2, u2, v2) → ∀ (ls : Array Slot), lv_has ls 15 [(0, .ref ak), (2, .int y2), (3, .long u2), (5, .long v2)] → W p l e R s m args below meth c s.heap [] 0 0 Q (F0 m 150 ls [])) → ((smL cnt fu fl fc row kinds n j y u v) = none → ∀ (pc9 : Nat), decode b_kr_sum pc9 = .ok (.ireturn, 1) → ∀ (ls : Array Slot), ls.size = 15 → W p l e R s m args below meth c s.heap [] 0 0 Q (F0 m pc9 ls [.int (-1)])) → ∀ (ls : Array Slot), lv_has ls 15 [(0, .ref ak), (1, .int row), (2, .int y), (3, .long u), (5, .long v), (7, .int (nI j))] → W p l e R s m args below meth c s.heap [] 0 0 Q (F0 m 20 ls []) := by
  intro n
  induction n with
  | zero =>
    intro j y u v hj hk hk1 ls hl
    refine lv_iload hx hb d_kr_sum_20 (lv_at hl 5 rfl) ?_
    refine lv_aload_n hx hb d_kr_sum_22 rfl (lv_at hl 0 rfl) ?_
    refine va_get (D := (dC, dI)) (ci := 0) (v := .int kinds) (C := R_kr) (T := F_kr) (N := 6) hx hb hT i_kr hown hK hP 0 rfl rfl 0 (by decide) (hT _ k_17) (fun _ h9 => h9) rfl d_kr_sum_23 ?_
    refine lv_icmp_ge (tgt := 150) hx hb d_kr_sum_26 (by decide) (fun c_1 => ?_) (fun c_1 => ?_)
    · exact hk y u v rfl ls (lv_sub hl [0, 2, 3, 4] rfl)
    · exact absurd (by rw [hn.1]; exact nI_le (show nk ≤ j by omega) (by omega)) c_1
  | succ n ih =>
    intro j y u v hj hk hk1 ls hl
    refine lv_iload hx hb d_kr_sum_20 (lv_at hl 5 rfl) ?_
    refine lv_aload_n hx hb d_kr_sum_22 rfl (lv_at hl 0 rfl) ?_
    refine va_get (D := (dC, dI)) (ci := 0) (v := .int kinds) (C := R_kr) (T := F_kr) (N := 6) hx hb hT i_kr hown hK hP 0 rfl rfl 0 (by decide) (hT _ k_17) (fun _ h9 => h9) rfl d_kr_sum_23 ?_
    refine lv_icmp_ge (tgt := 150) hx hb d_kr_sum_26 (by decide) (fun c_2 => ?_) (fun c_2 => ?_)
    · exact absurd c_2 (by rw [hn.1]; exact nI_ge (show j < nk by omega) (by omega))
    · refine lv_aload_n hx hb d_kr_sum_29 rfl (lv_at hl 0 rfl) ?_
      refine va_get (D := (dC, dI)) (ci := 0) (v := .ref ac) (C := R_kr) (T := F_kr) (N := 6) hx hb hT i_kr hown hK hP 0 rfl rfl 1 (by decide) (hT _ k_115) (fun _ h9 => h9) rfl d_kr_sum_30 ?_
      refine lv_iload_n hx hb d_kr_sum_33 rfl (lv_at hl 1 rfl) ?_
      refine lv_aload_n hx hb d_kr_sum_34 rfl (lv_at hl 0 rfl) ?_
      refine va_get (D := (dC, dI)) (ci := 0) (v := .int kinds) (C := R_kr) (T := F_kr) (N := 6) hx hb hT i_kr hown hK hP 0 rfl rfl 0 (by decide) (hT _ k_17) (fun _ h9 => h9) rfl d_kr_sum_35 ?_
      refine lv_imul hx hb d_kr_sum_38 ?_
      refine lv_iload hx hb d_kr_sum_39 (lv_at hl 5 rfl) ?_
      refine lv_iadd hx hb d_kr_sum_41 ?_
      refine va_iald hx hb hK hP 1 0 rfl rfl (in_cellj hn hr0 hrow (by omega)) d_kr_sum_42 ?_
      refine lv_istore (lv' := [(8, .int (fc (((row * kinds) + (nI j)).toNatClampNeg))), (0, .ref ak), (1, .int row), (2, .int y), (3, .long u), (5, .long v), (7, .int (nI j))]) hx hb d_kr_sum_43 hl (by decide) rfl (fun ls hl => ?_)
      refine lv_aload_n hx hb d_kr_sum_45 rfl (lv_at hl 1 rfl) ?_
      refine va_get (D := (dC, dI)) (ci := 0) (v := .ref a0) (C := R_kr) (T := F_kr) (N := 6) hx hb hT i_kr hown hK hP 0 rfl rfl 3 (by decide) (hT _ k_19) (fun _ h9 => h9) rfl d_kr_sum_46 ?_
      refine lv_iload hx hb d_kr_sum_49 (lv_at hl 0 rfl) ?_
      have hPc := hP.sub (ws' := [(a0, .inr (1, [.ref a1, .ref a2, .int cnt])), (a1, .inl (cU, 300, .inl fu)), (a2, .inl (cL, 300, .inl fl))]) [2, 3, 4] rfl
      have hKc := hK.sub (tys' := [(cU, .int), (cL, .int)]) [1, 2] rfl
      refine vp_callSi (W.runV (As := [.int (fc (((row * kinds) + (nI j)).toNatClampNeg))]) (rest := []) ⟨hx, hb, hml, hown, hT⟩ (c_kv_has l dC dI a0 a1 a2 cnt cU fu cL fl (fc (((row * kinds) + (nI j)).toNatClampNeg))) (cwV 1 hT (kt_V k_36 k_3 k_4 k_2 k_1) rfl rfl rfl (by decide +kernel) ⟨Nat.le_trans (Nat.le_of_ble_eq_true rfl) hRf, Nat.le_trans (Nat.le_of_ble_eq_true rfl) hRl⟩) ⟨bl_R, va_recv hKc hPc (ci := 1) (q0 := 0) rfl rfl, fun U hU hW => ⟨rfl, by rw [hU]; exact hPc, va_K.moved hW.alike hKc⟩⟩ rfl rfl hl.1 rfl (lv_room (Nat.le_of_ble_eq_true rfl)) d_kr_sum_51 ⟨Nat.zero_le _, Nat.zero_le _⟩) (fun r_3 e_r_3 => ?_)
      subst e_r_3
      refine lv_if_ne (tgt := 60) hx hb d_kr_sum_54 (by decide) (fun c_4 => ?_) (fun c_4 => ?_)
      · refine lv_lload_n hx hb d_kr_sum_60 rfl (lv_at hl 4 rfl) ?_
        refine lv_aload_n hx hb d_kr_sum_61 rfl (lv_at hl 1 rfl) ?_
        refine va_get (D := (dC, dI)) (ci := 0) (v := .ref a0) (C := R_kr) (T := F_kr) (N := 6) hx hb hT i_kr hown hK hP 0 rfl rfl 3 (by decide) (hT _ k_19) (fun _ h9 => h9) rfl d_kr_sum_62 ?_
        refine lv_iload hx hb d_kr_sum_65 (lv_at hl 0 rfl) ?_
        have hPc := hP.sub (ws' := [(a0, .inr (1, [.ref a1, .ref a2, .int cnt])), (a1, .inl (cU, 300, .inl fu)), (a2, .inl (cL, 300, .inl fl))]) [2, 3, 4] rfl
        have hKc := hK.sub (tys' := [(cU, .int), (cL, .int)]) [1, 2] rfl
        refine vp_callSl (W.runV (As := [.int (fc (((row * kinds) + (nI j)).toNatClampNeg))]) (rest := [.long u]) ⟨hx, hb, hml, hown, hT⟩ (c_kv_lower l dC dI a0 a1 a2 cnt cU fu cL fl (fc (((row * kinds) + (nI j)).toNatClampNeg)) (in_has hc c_4)) (cwV 1 hT (kt_V k_31 k_29 k_30 k_2 k_28) rfl rfl rfl (by decide +kernel) ⟨Nat.le_trans (Nat.le_of_ble_eq_true rfl) hRf, Nat.le_trans (Nat.le_of_ble_eq_true rfl) hRl⟩) ⟨bl_R, va_recv hKc hPc (ci := 1) (q0 := 0) rfl rfl, fun U hU hW => ⟨rfl, by rw [hU]; exact hPc, va_K.moved hW.alike hKc⟩⟩ rfl rfl hl.1 rfl (lv_room (Nat.le_of_ble_eq_true rfl)) d_kr_sum_67 ⟨Nat.zero_le _, Nat.zero_le _⟩) (fun r_5 e_r_5 => ?_)
        subst e_r_5
        refine lv_lmul hx hb d_kr_sum_70 ?_
        refine lv_aload_n hx hb d_kr_sum_71 rfl (lv_at hl 1 rfl) ?_
        refine va_get (D := (dC, dI)) (ci := 0) (v := .ref a0) (C := R_kr) (T := F_kr) (N := 6) hx hb hT i_kr hown hK hP 0 rfl rfl 3 (by decide) (hT _ k_19) (fun _ h9 => h9) rfl d_kr_sum_72 ?_
        refine lv_iload hx hb d_kr_sum_75 (lv_at hl 0 rfl) ?_
        have hPc := hP.sub (ws' := [(a0, .inr (1, [.ref a1, .ref a2, .int cnt])), (a1, .inl (cU, 300, .inl fu)), (a2, .inl (cL, 300, .inl fl))]) [2, 3, 4] rfl
        have hKc := hK.sub (tys' := [(cU, .int), (cL, .int)]) [1, 2] rfl
        refine vp_callSl (W.runV (As := [.int (fc (((row * kinds) + (nI j)).toNatClampNeg))]) (rest := [.long (u * (f_kv_lower fl (fc (((row * kinds) + (nI j)).toNatClampNeg))))]) ⟨hx, hb, hml, hown, hT⟩ (c_kv_upper l dC dI a0 a1 a2 cnt cU fu cL fl (fc (((row * kinds) + (nI j)).toNatClampNeg)) (in_has hc c_4)) (cwV 1 hT (kt_V k_27 k_25 k_26 k_2 k_24) rfl rfl rfl (by decide +kernel) ⟨Nat.le_trans (Nat.le_of_ble_eq_true rfl) hRf, Nat.le_trans (Nat.le_of_ble_eq_true rfl) hRl⟩) ⟨bl_R, va_recv hKc hPc (ci := 1) (q0 := 0) rfl rfl, fun U hU hW => ⟨rfl, by rw [hU]; exact hPc, va_K.moved hW.alike hKc⟩⟩ rfl rfl hl.1 rfl (lv_room (Nat.le_of_ble_eq_true rfl)) d_kr_sum_77 ⟨Nat.zero_le _, Nat.zero_le _⟩) (fun r_6 e_r_6 => ?_)
        subst e_r_6
        refine lv_lload hx hb d_kr_sum_80 (lv_at hl 5 rfl) ?_
        refine lv_lmul hx hb d_kr_sum_82 ?_
        refine lv_ladd hx hb d_kr_sum_83 ?_
        refine lv_lstore (lv' := [(9, .long ((u * (f_kv_lower fl (fc (((row * kinds) + (nI j)).toNatClampNeg)))) + ((f_kv_upper fu (fc (((row * kinds) + (nI j)).toNatClampNeg))) * v))), (8, .int (fc (((row * kinds) + (nI j)).toNatClampNeg))), (0, .ref ak), (1, .int row), (2, .int y), (3, .long u), (5, .long v), (7, .int (nI j))]) hx hb d_kr_sum_84 hl (by decide) rfl (fun ls hl => ?_)
        refine lv_lload hx hb d_kr_sum_86 (lv_at hl 6 rfl) ?_
        refine lv_aload_n hx hb d_kr_sum_88 rfl (lv_at hl 2 rfl) ?_
        refine va_get (D := (dC, dI)) (ci := 0) (v := .ref a0) (C := R_kr) (T := F_kr) (N := 6) hx hb hT i_kr hown hK hP 0 rfl rfl 3 (by decide) (hT _ k_19) (fun _ h9 => h9) rfl d_kr_sum_89 ?_
        refine lv_iload hx hb d_kr_sum_92 (lv_at hl 1 rfl) ?_
        have hPc := hP.sub (ws' := [(a0, .inr (1, [.ref a1, .ref a2, .int cnt])), (a1, .inl (cU, 300, .inl fu)), (a2, .inl (cL, 300, .inl fl))]) [2, 3, 4] rfl
        have hKc := hK.sub (tys' := [(cU, .int), (cL, .int)]) [1, 2] rfl
        refine vp_callSl (W.runV (As := [.int (fc (((row * kinds) + (nI j)).toNatClampNeg))]) (rest := [.long v]) ⟨hx, hb, hml, hown, hT⟩ (c_kv_lower l dC dI a0 a1 a2 cnt cU fu cL fl (fc (((row * kinds) + (nI j)).toNatClampNeg)) (in_has hc c_4)) (cwV 1 hT (kt_V k_31 k_29 k_30 k_2 k_28) rfl rfl rfl (by decide +kernel) ⟨Nat.le_trans (Nat.le_of_ble_eq_true rfl) hRf, Nat.le_trans (Nat.le_of_ble_eq_true rfl) hRl⟩) ⟨bl_R, va_recv hKc hPc (ci := 1) (q0 := 0) rfl rfl, fun U hU hW => ⟨rfl, by rw [hU]; exact hPc, va_K.moved hW.alike hKc⟩⟩ rfl rfl hl.1 rfl (lv_room (Nat.le_of_ble_eq_true rfl)) d_kr_sum_94 ⟨Nat.zero_le _, Nat.zero_le _⟩) (fun r_7 e_r_7 => ?_)
        subst e_r_7
        refine lv_lmul hx hb d_kr_sum_97 ?_
        refine lv_lstore (lv' := [(11, .long (v * (f_kv_lower fl (fc (((row * kinds) + (nI j)).toNatClampNeg))))), (9, .long ((u * (f_kv_lower fl (fc (((row * kinds) + (nI j)).toNatClampNeg)))) + ((f_kv_upper fu (fc (((row * kinds) + (nI j)).toNatClampNeg))) * v))), (8, .int (fc (((row * kinds) + (nI j)).toNatClampNeg))), (0, .ref ak), (1, .int row), (2, .int y), (3, .long u), (5, .long v), (7, .int (nI j))]) hx hb d_kr_sum_98 hl (by decide) rfl (fun ls hl => ?_)
        refine lv_lload hx hb d_kr_sum_100 (lv_at hl 1 rfl) ?_
        refine lv_lload hx hb d_kr_sum_102 (lv_at hl 0 rfl) ?_
        refine vp_callSl (W.runS (As := [.long ((u * (f_kv_lower fl (fc (((row * kinds) + (nI j)).toNatClampNeg)))) + ((f_kv_upper fu (fc (((row * kinds) + (nI j)).toNatClampNeg))) * v)), .long (v * (f_kv_lower fl (fc (((row * kinds) + (nI j)).toNatClampNeg))))]) (rest := []) ⟨hx, hb, hml, hown, hT⟩ (c_kr_gcd l ((u * (f_kv_lower fl (fc (((row * kinds) + (nI j)).toNatClampNeg)))) + ((f_kv_upper fu (fc (((row * kinds) + (nI j)).toNatClampNeg))) * v)) (v * (f_kv_lower fl (fc (((row * kinds) + (nI j)).toNatClampNeg))))) (va_cwS 2 hT (kt_S k_116 k_12 k_11 k_10) rfl rfl rfl (by decide +kernel) ⟨Nat.le_trans (Nat.le_of_ble_eq_true rfl) hRf, Nat.le_trans (Nat.le_of_ble_eq_true rfl) hRl⟩) ⟨bl_S, fun U hU hW => ⟨rfl, trivial⟩⟩ rfl rfl hl.1 rfl (lv_room (Nat.le_of_ble_eq_true rfl)) d_kr_sum_104 ⟨Nat.zero_le _, Nat.zero_le _⟩) (fun r_8 e_r_8 => ?_)
        subst e_r_8
        refine lv_lstore (lv' := [(13, .long (f_kr_gcd ((u * (f_kv_lower fl (fc (((row * kinds) + (nI j)).toNatClampNeg)))) + ((f_kv_upper fu (fc (((row * kinds) + (nI j)).toNatClampNeg))) * v)) (v * (f_kv_lower fl (fc (((row * kinds) + (nI j)).toNatClampNeg)))))), (11, .long (v * (f_kv_lower fl (fc (((row * kinds) + (nI j)).toNatClampNeg))))), (9, .long ((u * (f_kv_lower fl (fc (((row * kinds) + (nI j)).toNatClampNeg)))) + ((f_kv_upper fu (fc (((row * kinds) + (nI j)).toNatClampNeg))) * v))), (8, .int (fc (((row * kinds) + (nI j)).toNatClampNeg))), (0, .ref ak), (1, .int row), (2, .int y), (3, .long u), (5, .long v), (7, .int (nI j))]) hx hb d_kr_sum_107 hl (by decide) rfl (fun ls hl => ?_)
        refine lv_lload hx hb d_kr_sum_109 (lv_at hl 0 rfl) ?_
        refine lv_lconst (v := 0) hx hb d_kr_sum_111 (by decide) ?_
        refine lx_ifne (tgt := 118) hx hb d_kr_sum_112 d_kr_sum_113 (by decide) (fun c_9 => ?_) (fun c_9 => ?_)
        · refine lv_lload hx hb d_kr_sum_118 (lv_at hl 2 rfl) ?_
          refine lv_lload hx hb d_kr_sum_120 (lv_at hl 0 rfl) ?_
          refine lv_ldiv hx hb d_kr_sum_122 c_9 ?_
          refine lv_lstore_n (lv' := [(3, .long (((u * (f_kv_lower fl (fc (((row * kinds) + (nI j)).toNatClampNeg)))) + ((f_kv_upper fu (fc (((row * kinds) + (nI j)).toNatClampNeg))) * v)) / (f_kr_gcd ((u * (f_kv_lower fl (fc (((row * kinds) + (nI j)).toNatClampNeg)))) + ((f_kv_upper fu (fc (((row * kinds) + (nI j)).toNatClampNeg))) * v)) (v * (f_kv_lower fl (fc (((row * kinds) + (nI j)).toNatClampNeg))))))), (13, .long (f_kr_gcd ((u * (f_kv_lower fl (fc (((row * kinds) + (nI j)).toNatClampNeg)))) + ((f_kv_upper fu (fc (((row * kinds) + (nI j)).toNatClampNeg))) * v)) (v * (f_kv_lower fl (fc (((row * kinds) + (nI j)).toNatClampNeg)))))), (11, .long (v * (f_kv_lower fl (fc (((row * kinds) + (nI j)).toNatClampNeg))))), (9, .long ((u * (f_kv_lower fl (fc (((row * kinds) + (nI j)).toNatClampNeg)))) + ((f_kv_upper fu (fc (((row * kinds) + (nI j)).toNatClampNeg))) * v))), (8, .int (fc (((row * kinds) + (nI j)).toNatClampNeg))), (0, .ref ak), (1, .int row), (2, .int y), (5, .long v), (7, .int (nI j))]) hx hb d_kr_sum_123 rfl hl (by decide) rfl (fun ls hl => ?_)
          refine lv_lload hx hb d_kr_sum_124 (lv_at hl 2 rfl) ?_
          refine lv_lload hx hb d_kr_sum_126 (lv_at hl 1 rfl) ?_
          refine lv_ldiv hx hb d_kr_sum_128 c_9 ?_
          refine lv_lstore (lv' := [(5, .long ((v * (f_kv_lower fl (fc (((row * kinds) + (nI j)).toNatClampNeg)))) / (f_kr_gcd ((u * (f_kv_lower fl (fc (((row * kinds) + (nI j)).toNatClampNeg)))) + ((f_kv_upper fu (fc (((row * kinds) + (nI j)).toNatClampNeg))) * v)) (v * (f_kv_lower fl (fc (((row * kinds) + (nI j)).toNatClampNeg))))))), (3, .long (((u * (f_kv_lower fl (fc (((row * kinds) + (nI j)).toNatClampNeg)))) + ((f_kv_upper fu (fc (((row * kinds) + (nI j)).toNatClampNeg))) * v)) / (f_kr_gcd ((u * (f_kv_lower fl (fc (((row * kinds) + (nI j)).toNatClampNeg)))) + ((f_kv_upper fu (fc (((row * kinds) + (nI j)).toNatClampNeg))) * v)) (v * (f_kv_lower fl (fc (((row * kinds) + (nI j)).toNatClampNeg))))))), (13, .long (f_kr_gcd ((u * (f_kv_lower fl (fc (((row * kinds) + (nI j)).toNatClampNeg)))) + ((f_kv_upper fu (fc (((row * kinds) + (nI j)).toNatClampNeg))) * v)) (v * (f_kv_lower fl (fc (((row * kinds) + (nI j)).toNatClampNeg)))))), (11, .long (v * (f_kv_lower fl (fc (((row * kinds) + (nI j)).toNatClampNeg))))), (9, .long ((u * (f_kv_lower fl (fc (((row * kinds) + (nI j)).toNatClampNeg)))) + ((f_kv_upper fu (fc (((row * kinds) + (nI j)).toNatClampNeg))) * v))), (8, .int (fc (((row * kinds) + (nI j)).toNatClampNeg))), (0, .ref ak), (1, .int row), (2, .int y), (7, .int (nI j))]) hx hb d_kr_sum_129 hl (by decide) rfl (fun ls hl => ?_)
          refine lv_lload_n hx hb d_kr_sum_131 rfl (lv_at hl 1 rfl) ?_
          refine lv_lload hx hb d_kr_sum_132 (lv_at hl 0 rfl) ?_
          refine vp_callSi (W.runS (As := [.long (((u * (f_kv_lower fl (fc (((row * kinds) + (nI j)).toNatClampNeg)))) + ((f_kv_upper fu (fc (((row * kinds) + (nI j)).toNatClampNeg))) * v)) / (f_kr_gcd ((u * (f_kv_lower fl (fc (((row * kinds) + (nI j)).toNatClampNeg)))) + ((f_kv_upper fu (fc (((row * kinds) + (nI j)).toNatClampNeg))) * v)) (v * (f_kv_lower fl (fc (((row * kinds) + (nI j)).toNatClampNeg)))))), .long ((v * (f_kv_lower fl (fc (((row * kinds) + (nI j)).toNatClampNeg)))) / (f_kr_gcd ((u * (f_kv_lower fl (fc (((row * kinds) + (nI j)).toNatClampNeg)))) + ((f_kv_upper fu (fc (((row * kinds) + (nI j)).toNatClampNeg))) * v)) (v * (f_kv_lower fl (fc (((row * kinds) + (nI j)).toNatClampNeg))))))]) (rest := []) ⟨hx, hb, hml, hown, hT⟩ (c_kv_fits l (((u * (f_kv_lower fl (fc (((row * kinds) + (nI j)).toNatClampNeg)))) + ((f_kv_upper fu (fc (((row * kinds) + (nI j)).toNatClampNeg))) * v)) / (f_kr_gcd ((u * (f_kv_lower fl (fc (((row * kinds) + (nI j)).toNatClampNeg)))) + ((f_kv_upper fu (fc (((row * kinds) + (nI j)).toNatClampNeg))) * v)) (v * (f_kv_lower fl (fc (((row * kinds) + (nI j)).toNatClampNeg)))))) ((v * (f_kv_lower fl (fc (((row * kinds) + (nI j)).toNatClampNeg)))) / (f_kr_gcd ((u * (f_kv_lower fl (fc (((row * kinds) + (nI j)).toNatClampNeg)))) + ((f_kv_upper fu (fc (((row * kinds) + (nI j)).toNatClampNeg))) * v)) (v * (f_kv_lower fl (fc (((row * kinds) + (nI j)).toNatClampNeg))))))) (va_cwS 2 hT (kt_S k_117 k_14 k_2 k_13) rfl rfl rfl (by decide +kernel) ⟨Nat.le_trans (Nat.le_of_ble_eq_true rfl) hRf, Nat.le_trans (Nat.le_of_ble_eq_true rfl) hRl⟩) ⟨bl_S, fun U hU hW => ⟨rfl, trivial⟩⟩ rfl rfl hl.1 rfl (lv_room (Nat.le_of_ble_eq_true rfl)) d_kr_sum_134 ⟨Nat.zero_le _, Nat.zero_le _⟩) (fun r_10 e_r_10 => ?_)
          subst e_r_10
          refine lv_if_ne (tgt := 142) hx hb d_kr_sum_137 (by decide) (fun c_11 => ?_) (fun c_11 => ?_)
          · refine lv_iconst (v := 1) hx hb d_kr_sum_142 (by decide) ?_
            refine lv_istore_n (lv' := [(2, .int 1), (5, .long ((v * (f_kv_lower fl (fc (((row * kinds) + (nI j)).toNatClampNeg)))) / (f_kr_gcd ((u * (f_kv_lower fl (fc (((row * kinds) + (nI j)).toNatClampNeg)))) + ((f_kv_upper fu (fc (((row * kinds) + (nI j)).toNatClampNeg))) * v)) (v * (f_kv_lower fl (fc (((row * kinds) + (nI j)).toNatClampNeg))))))), (3, .long (((u * (f_kv_lower fl (fc (((row * kinds) + (nI j)).toNatClampNeg)))) + ((f_kv_upper fu (fc (((row * kinds) + (nI j)).toNatClampNeg))) * v)) / (f_kr_gcd ((u * (f_kv_lower fl (fc (((row * kinds) + (nI j)).toNatClampNeg)))) + ((f_kv_upper fu (fc (((row * kinds) + (nI j)).toNatClampNeg))) * v)) (v * (f_kv_lower fl (fc (((row * kinds) + (nI j)).toNatClampNeg))))))), (13, .long (f_kr_gcd ((u * (f_kv_lower fl (fc (((row * kinds) + (nI j)).toNatClampNeg)))) + ((f_kv_upper fu (fc (((row * kinds) + (nI j)).toNatClampNeg))) * v)) (v * (f_kv_lower fl (fc (((row * kinds) + (nI j)).toNatClampNeg)))))), (11, .long (v * (f_kv_lower fl (fc (((row * kinds) + (nI j)).toNatClampNeg))))), (9, .long ((u * (f_kv_lower fl (fc (((row * kinds) + (nI j)).toNatClampNeg)))) + ((f_kv_upper fu (fc (((row * kinds) + (nI j)).toNatClampNeg))) * v))), (8, .int (fc (((row * kinds) + (nI j)).toNatClampNeg))), (0, .ref ak), (1, .int row), (7, .int (nI j))]) hx hb d_kr_sum_143 rfl hl (by decide) rfl (fun ls hl => ?_)
            refine lv_iinc (v := (nI j) + 1) (lv' := [(7, .int ((nI j) + 1)), (2, .int 1), (5, .long ((v * (f_kv_lower fl (fc (((row * kinds) + (nI j)).toNatClampNeg)))) / (f_kr_gcd ((u * (f_kv_lower fl (fc (((row * kinds) + (nI j)).toNatClampNeg)))) + ((f_kv_upper fu (fc (((row * kinds) + (nI j)).toNatClampNeg))) * v)) (v * (f_kv_lower fl (fc (((row * kinds) + (nI j)).toNatClampNeg))))))), (3, .long (((u * (f_kv_lower fl (fc (((row * kinds) + (nI j)).toNatClampNeg)))) + ((f_kv_upper fu (fc (((row * kinds) + (nI j)).toNatClampNeg))) * v)) / (f_kr_gcd ((u * (f_kv_lower fl (fc (((row * kinds) + (nI j)).toNatClampNeg)))) + ((f_kv_upper fu (fc (((row * kinds) + (nI j)).toNatClampNeg))) * v)) (v * (f_kv_lower fl (fc (((row * kinds) + (nI j)).toNatClampNeg))))))), (13, .long (f_kr_gcd ((u * (f_kv_lower fl (fc (((row * kinds) + (nI j)).toNatClampNeg)))) + ((f_kv_upper fu (fc (((row * kinds) + (nI j)).toNatClampNeg))) * v)) (v * (f_kv_lower fl (fc (((row * kinds) + (nI j)).toNatClampNeg)))))), (11, .long (v * (f_kv_lower fl (fc (((row * kinds) + (nI j)).toNatClampNeg))))), (9, .long ((u * (f_kv_lower fl (fc (((row * kinds) + (nI j)).toNatClampNeg)))) + ((f_kv_upper fu (fc (((row * kinds) + (nI j)).toNatClampNeg))) * v))), (8, .int (fc (((row * kinds) + (nI j)).toNatClampNeg))), (0, .ref ak), (1, .int row)]) hx hb d_kr_sum_144 hl (k := 9) rfl rfl (by decide) rfl (fun ls hl => ?_)
            refine lv_goto (tgt := 20) hx hb d_kr_sum_147 (by decide) ?_
            exact ih (j + 1) _ _ _ (by omega) (by rw [smL, if_neg c_4, if_neg c_9, if_neg c_11] at hk; exact hk) (by rw [smL, if_neg c_4, if_neg c_9, if_neg c_11] at hk1; exact hk1) ls (by have h9 := lv_sub hl [8, 9, 1, 3, 2, 0] rfl; rw [nI_1] at h9; exact h9)
          · refine lv_iconst (v := (-1)) hx hb d_kr_sum_140 (by decide) ?_
            exact hk1 (by rw [smL, if_neg c_4, if_neg c_9, if_pos c_11]) 141 d_kr_sum_141 ls hl.1
        · refine lv_iconst (v := (-1)) hx hb d_kr_sum_116 (by decide) ?_
          exact hk1 (by rw [smL, if_neg c_4, if_pos c_9]) 117 d_kr_sum_117 ls hl.1
      · refine lv_goto (tgt := 144) hx hb d_kr_sum_57 (by decide) ?_
        refine lv_iinc (v := (nI j) + 1) (lv' := [(7, .int ((nI j) + 1)), (8, .int (fc (((row * kinds) + (nI j)).toNatClampNeg))), (0, .ref ak), (1, .int row), (2, .int y), (3, .long u), (5, .long v)]) hx hb d_kr_sum_144 hl (k := 6) rfl rfl (by decide) rfl (fun ls hl => ?_)
        refine lv_goto (tgt := 20) hx hb d_kr_sum_147 (by decide) ?_
        exact ih (j + 1) _ _ _ (by omega) (by rw [smL, if_pos c_4] at hk; exact hk) (by rw [smL, if_pos c_4] at hk1; exact hk1) ls (by have h9 := lv_sub hl [2, 3, 4, 5, 6, 0] rfl; rw [nI_1] at h9; exact h9)
def kr_sumE (cnt : Int32) (fu fl : Nat → Int32) (o : Option (Int32 × Int64 × Int64)) : Int32 × (Nat → Int32) × (Nat → Int32) × Int32 :=
  match o with
  | none => (-1, fu, fl, cnt)
  | some (y2, u2, v2) => if y2 = 0 then ((-1), fu, fl, cnt) else (f_kv_keep cnt fu fl u2 v2)
def f_kr_sum (kinds : Int32) (rowc : Int32) (nk : Nat) (fc : Nat → Int32) (cnt : Int32) (fu : Nat → Int32) (fl : Nat → Int32) (row : Int32) : Int32 × (Nat → Int32) × (Nat → Int32) × Int32 :=
  if (f_kr_hasRow rowc row) = 0 then ((-1), fu, fl, cnt) else (kr_sumE cnt fu fl (smL cnt fu fl fc row kinds nk 0 0 0 1))
set_option maxHeartbeats 4000000 in
set_option maxRecDepth 100000 in
theorem c_kr_sum (l : Launch) (dC : Nat → ClassId) (dI : Nat → Nat → Nat) (sz : Nat) (ak : Nat) (ac : Nat) (a0 : Nat) (a1 : Nat) (a2 : Nat) (kinds : Int32) (rowc : Int32) (a_s : Nat) (a_w : Nat) (cC : ClassId) (nk : Nat) (fc : Nat → Int32) (cnt : Int32) (cU : ClassId) (fu : Nat → Int32) (cL : ClassId) (fl : Nat → Int32) (row : Int32) (hc : vp_in cnt 301) (hn : kinds = nI nk ∧ nk ≤ 16) (hr0 : vp_in rowc 21) : Met l y_kr_sum w_kr_sum ({ frames := 2, cells := 0, slots := 0, locals := 60 }) (va_Pc [.ref ak, .int row] (fun U => U.heap.size = sz ∧ va_P (dC, dI) classes [(ak, .inr (0, [.int kinds, .ref ac, .int rowc, .ref a0, .ref a_s, .ref a_w])), (ac, .inl (cC, (20 * nk), .inl fc)), (a0, .inr (1, [.ref a1, .ref a2, .int cnt])), (a1, .inl (cU, 300, .inl fu)), (a2, .inl (cL, 300, .inl fl))] U.heap ∧ va_K (dC, dI) classes [(cC, .int), (cU, .int), (cL, .int)] U ∧ va_D (fun _ => True) [(ak, .inr (0, [.int kinds, .ref ac, .int rowc, .ref a0, .ref a_s, .ref a_w])), (ac, .inl (cC, (20 * nk), .inl fc)), (a0, .inr (1, [.ref a1, .ref a2, .int cnt])), (a1, .inl (cU, 300, .inl fu)), (a2, .inl (cL, 300, .inl fl))] ∧ kt_N U)) (va_Qi (fun z9 u9 => (z9, u9) = f_kr_sum kinds rowc nk fc cnt fu fl row) (fun (u : (Nat → Int32) × (Nat → Int32) × Int32) t => match u with | (fu', fl', cnt') => va_P (dC, dI) classes [(ak, .inr (0, [.int kinds, .ref ac, .int rowc, .ref a0, .ref a_s, .ref a_w])), (ac, .inl (cC, (20 * nk), .inl fc)), (a0, .inr (1, [.ref a1, .ref a2, .int cnt'])), (a1, .inl (cU, 300, .inl fu')), (a2, .inl (cL, 300, .inl fl'))] t.heap ∧ va_K (dC, dI) classes [(cC, .int), (cU, .int), (cL, .int)] t ∧ va_D (va_A [(ak, .inr (0, [.int kinds, .ref ac, .int rowc, .ref a0, .ref a_s, .ref a_w])), (ac, .inl (cC, (20 * nk), .inl fc)), (a0, .inr (1, [.ref a1, .ref a2, .int cnt])), (a1, .inl (cU, 300, .inl fu)), (a2, .inl (cL, 300, .inl fl))] sz) [(ak, .inr (0, [.int kinds, .ref ac, .int rowc, .ref a0, .ref a_s, .ref a_w])), (ac, .inl (cC, (20 * nk), .inl fc)), (a0, .inr (1, [.ref a1, .ref a2, .int cnt'])), (a1, .inl (cU, 300, .inl fu')), (a2, .inl (cL, 300, .inl fl'))]) (va_A [(ak, .inr (0, [.int kinds, .ref ac, .int rowc, .ref a0, .ref a_s, .ref a_w])), (ac, .inl (cC, (20 * nk), .inl fc)), (a0, .inr (1, [.ref a1, .ref a2, .int cnt])), (a1, .inl (cU, 300, .inl fu)), (a2, .inl (cL, 300, .inl fl))] sz)) 0 0 (va_A [(ak, .inr (0, [.int kinds, .ref ac, .int rowc, .ref a0, .ref a_s, .ref a_w])), (ac, .inl (cC, (20 * nk), .inl fc)), (a0, .inr (1, [.ref a1, .ref a2, .int cnt])), (a1, .inl (cU, 300, .inl fu)), (a2, .inl (cL, 300, .inl fl))] sz) := by
  refine Met.ofW (cc := b_kr_sum) (maxL := 15) (ret := (some .int)) (by decide +kernel) rfl ?_
  intro p e s m args below meth c s₁ B hml hv
  obtain ⟨rfl, hsz, hP, hK, hD0, hN⟩ := hv
  have hx := B.exec
  have hb := B.bytes
  have hr := B.returns
  have hts := atoms_spec (ws := w_kr_sum) B.pre
  have hT := fun (w : Cond) (h : w ∈ kt_T) => hts w (List.mem_cons_of_mem _ h)
  have hown : s.vm.findClass R_kr = some m.cls := findClass_of_methodNamed B.named
  have hlocks := B.notSynchronized
  subst hsz
  have hD := hD0.self (sz := s.heap.size)
  generalize hAe : va_A [(ak, .inr (0, [.int kinds, .ref ac, .int rowc, .ref a0, .ref a_s, .ref a_w])), (ac, .inl (cC, (20 * nk), .inl fc)), (a0, .inr (1, [.ref a1, .ref a2, .int cnt])), (a1, .inl (cU, 300, .inl fu)), (a2, .inl (cL, 300, .inl fl))] s.heap.size = A at hD ⊢
  have hA : ∀ q : Nat, s.heap.size ≤ q → A q := fun q h => by rw [← hAe]; exact Or.inr h
  have hS : va_S A s.heap s.heap [] := va_S.rf
  have hl := lv_entry ([.ref ak, .int row]) (n := 15) (Nat.le_of_ble_eq_true rfl)
  rw [lg_entry_eq]
  generalize (lg_sl ([.ref ak, .int row]) ++ List.replicate (15 - (lg_sl ([.ref ak, .int row])).length) Slot.unset).toArray = ls at hl ⊢
  have hl : lv_has ls 15 [(0, .ref ak), (1, .int row)] := hl
  refine lv_aload_n hx hb d_kr_sum_0 rfl (lv_at hl 0 rfl) ?_
  refine lv_iload_n hx hb d_kr_sum_1 rfl (lv_at hl 1 rfl) ?_
  have hPc := hP.sub (ws' := [(ak, .inr (0, [.int kinds, .ref ac, .int rowc, .ref a0, .ref a_s, .ref a_w]))]) [0] rfl
  have hKc := hK.sub (tys' := []) [] rfl
  refine vp_callSi (W.runV (As := [.int row]) (rest := []) ⟨hx, hb, hml, hown, hT⟩ (c_kr_hasRow l dC dI ak kinds ac rowc a0 a_s a_w row) (cwV 1 hT (kt_V k_121 k_119 k_120 k_11 k_118) rfl rfl rfl (by decide +kernel) ⟨Nat.le_of_ble_eq_true rfl, Nat.le_of_ble_eq_true rfl⟩) ⟨bl_R, va_recv hKc hPc (ci := 0) (q0 := 0) rfl rfl, fun U hU hW => ⟨rfl, by rw [hU]; exact hPc, va_K.moved hW.alike hKc⟩⟩ rfl rfl hl.1 rfl (lv_room (Nat.le_of_ble_eq_true rfl)) d_kr_sum_2 ⟨Nat.zero_le _, Nat.zero_le _⟩) (fun r_1 e_r_1 => ?_)
  subst e_r_1
  refine lv_if_ne (tgt := 10) hx hb d_kr_sum_5 (by decide) (fun c_2 => ?_) (fun c_2 => ?_)
  · refine lv_iconst (v := 0) hx hb d_kr_sum_10 (by decide) ?_
    refine lv_istore_n (lv' := [(2, .int 0), (0, .ref ak), (1, .int row)]) hx hb d_kr_sum_11 rfl hl (by decide) rfl (fun ls hl => ?_)
    refine lv_lconst (v := 0) hx hb d_kr_sum_12 (by decide) ?_
    refine lv_lstore_n (lv' := [(3, .long 0), (2, .int 0), (0, .ref ak), (1, .int row)]) hx hb d_kr_sum_13 rfl hl (by decide) rfl (fun ls hl => ?_)
    refine lv_lconst (v := 1) hx hb d_kr_sum_14 (by decide) ?_
    refine lv_lstore (lv' := [(5, .long 1), (3, .long 0), (2, .int 0), (0, .ref ak), (1, .int row)]) hx hb d_kr_sum_15 hl (by decide) rfl (fun ls hl => ?_)
    refine lv_iconst (v := 0) hx hb d_kr_sum_17 (by decide) ?_
    refine lv_istore (lv' := [(7, .int 0), (5, .long 1), (3, .long 0), (2, .int 0), (0, .ref ak), (1, .int row)]) hx hb d_kr_sum_18 hl (by decide) rfl (fun ls hl => ?_)
    refine lp_kr_sum hx hb hml hown hT hA hK hN (Nat.le_of_ble_eq_true rfl) (Nat.le_of_ble_eq_true rfl) hP hc hn hr0 c_2 nk 0 0 0 1 (Nat.zero_add _) (fun y2 u2 v2 e9 ls hl => ?_) (fun e9 pc9 d9 ls hl => ?_) ls (lv_sub hl [4, 5, 3, 2, 1, 0] rfl)
    · refine lv_iload_n hx hb d_kr_sum_150 rfl (lv_at hl 1 rfl) ?_
      refine lv_if_eq (tgt := 167) hx hb d_kr_sum_151 (by decide) (fun c_3 => ?_) (fun c_3 => ?_)
      · refine lv_iconst (v := (-1)) hx hb d_kr_sum_167 (by decide) ?_
        exact W.iret (v := (-1)) hx hb hr (fun t ht hW => ⟨⟨(-1), (fu, fl, cnt), rfl, by unfold f_kr_sum; rw [if_neg c_2]; unfold kr_sumE; rw [e9]; dsimp only; rw [if_pos c_3], by rw [ht]; exact hP, va_K.moved hW.alike hK, hD⟩, hS.F ht⟩) hS.2.2 d_kr_sum_168
      · refine lv_aload_n hx hb d_kr_sum_154 rfl (lv_at hl 0 rfl) ?_
        refine va_get (D := (dC, dI)) (ci := 0) (v := .ref a0) (C := R_kr) (T := F_kr) (N := 6) hx hb hT i_kr hown hK hP 0 rfl rfl 3 (by decide) (hT _ k_19) (fun _ h9 => h9) rfl d_kr_sum_155 ?_
        refine lv_lload_n hx hb d_kr_sum_158 rfl (lv_at hl 2 rfl) ?_
        refine lv_lload hx hb d_kr_sum_159 (lv_at hl 3 rfl) ?_
        have hPc := hP.sub (ws' := [(a0, .inr (1, [.ref a1, .ref a2, .int cnt])), (a1, .inl (cU, 300, .inl fu)), (a2, .inl (cL, 300, .inl fl))]) [2, 3, 4] rfl
        have hKc := hK.sub (tys' := [(cU, .int), (cL, .int)]) [1, 2] rfl
        have hDc := hD.sub (ws' := [(a0, .inr (1, [.ref a1, .ref a2, .int cnt])), (a1, .inl (cU, 300, .inl fu)), (a2, .inl (cL, 300, .inl fl))]) [2, 3, 4] (by decide) rfl
        have hFc := va_free (wc := [(a0, .inr (1, [.ref a1, .ref a2, .int cnt])), (a1, .inl (cU, 300, .inl fu)), (a2, .inl (cL, 300, .inl fl))]) hD hS hA [2, 3, 4] rfl
        refine va_calli (va_runV (As := [.long u2, .long v2]) (rest := []) ⟨hx, hb, hml, hown, hT⟩ (c_kv_keep l dC dI s.heap.size a0 a1 a2 cnt cU fu cL fl u2 v2 hc) (cwV 2 hT (kt_V k_35 k_33 k_34 k_2 k_32) rfl rfl rfl (by decide +kernel) ⟨Nat.le_of_ble_eq_true rfl, Nat.le_of_ble_eq_true rfl⟩) ⟨bl_MN, va_recv hKc hPc (ci := 1) (q0 := 0) rfl rfl, fun U hU hW => ⟨rfl, by rw [hU], by rw [hU]; exact hPc, va_K.moved hW.alike hKc, hDc.weaken (fun _ _ _ _ => trivial), kt_N.warm hW hN⟩⟩ rfl rfl hl.1 rfl (lv_room (Nat.le_of_ble_eq_true rfl)) d_kr_sum_161 ⟨Nat.zero_le _, Nat.zero_le _⟩) hS (fun q _ h => hFc q h) hFc (fun r_4 u t H1 locs ht hvm hw hB hz1 hk1 hS => ?_)
        obtain ⟨fu_4, fl_4, cnt_4⟩ := u
        obtain ⟨hP1, hK1, hD1⟩ := hB
        rw [ht] at hP1
        obtain ⟨hP, hD⟩ := va_join (wr := [(ak, .inr (0, [.int kinds, .ref ac, .int rowc, .ref a0, .ref a_s, .ref a_w])), (ac, .inl (cC, (20 * nk), .inl fc))]) (w1 := [(a0, .inr (1, [.ref a1, .ref a2, .int cnt_4])), (a1, .inl (cU, 300, .inl fu_4)), (a2, .inl (cL, 300, .inl fl_4))]) hP hD [2, 3, 4] [0, 1] rfl rfl (by decide) (by decide) hk1 hFc hP1 hD1
        generalize H1 = H at hP hS ⊢
        have hP := hP.sub (ws' := [(ak, .inr (0, [.int kinds, .ref ac, .int rowc, .ref a0, .ref a_s, .ref a_w])), (ac, .inl (cC, (20 * nk), .inl fc)), (a0, .inr (1, [.ref a1, .ref a2, .int cnt_4])), (a1, .inl (cU, 300, .inl fu_4)), (a2, .inl (cL, 300, .inl fl_4))]) [0, 1, 2, 3, 4] rfl
        have hD := hD.sub (ws' := [(ak, .inr (0, [.int kinds, .ref ac, .int rowc, .ref a0, .ref a_s, .ref a_w])), (ac, .inl (cC, (20 * nk), .inl fc)), (a0, .inr (1, [.ref a1, .ref a2, .int cnt_4])), (a1, .inl (cU, 300, .inl fu_4)), (a2, .inl (cL, 300, .inl fl_4))]) [0, 1, 2, 3, 4] (by decide) rfl
        have e_r_4 : r_4 = (f_kv_keep cnt fu fl u2 v2).1 := congrArg (fun z => z.1) hw
        have e_fu_4 : fu_4 = (f_kv_keep cnt fu fl u2 v2).2.1 := congrArg (fun z => z.2.1) hw
        have e_fl_4 : fl_4 = (f_kv_keep cnt fu fl u2 v2).2.2.1 := congrArg (fun z => z.2.2.1) hw
        have e_cnt_4 : cnt_4 = (f_kv_keep cnt fu fl u2 v2).2.2.2 := congrArg (fun z => z.2.2.2) hw
        subst e_r_4 e_fu_4 e_fl_4 e_cnt_4
        clear hP1 hK1 hD1 hk1 hz1 hFc hDc hPc hKc
        refine lv_goto (tgt := 168) hx hb d_kr_sum_164 (by decide) ?_
        exact W.iret (v := (f_kv_keep cnt fu fl u2 v2).1) hx hb hr (fun t ht hW => ⟨⟨(f_kv_keep cnt fu fl u2 v2).1, ((f_kv_keep cnt fu fl u2 v2).2.1, (f_kv_keep cnt fu fl u2 v2).2.2.1, (f_kv_keep cnt fu fl u2 v2).2.2.2), rfl, by unfold f_kr_sum; rw [if_neg c_2]; unfold kr_sumE; rw [e9]; dsimp only; rw [if_neg c_3], by rw [ht]; exact hP, va_K.moved hW.alike hK, hD⟩, hS.F ht⟩) hS.2.2 d_kr_sum_168
    · exact W.iret (v := (-1)) hx hb hr (fun t ht hW => ⟨⟨(-1), (fu, fl, cnt), rfl, by unfold f_kr_sum; rw [if_neg c_2]; unfold kr_sumE; rw [e9], by rw [ht]; exact hP, va_K.moved hW.alike hK, hD⟩, hS.F ht⟩) hS.2.2 d9
  · refine lv_iconst (v := (-1)) hx hb d_kr_sum_8 (by decide) ?_
    exact W.iret (v := (-1)) hx hb hr (fun t ht hW => ⟨⟨(-1), (fu, fl, cnt), rfl, by unfold f_kr_sum; rw [if_pos c_2], by rw [ht]; exact hP, va_K.moved hW.alike hK, hD⟩, hS.F ht⟩) hS.2.2 d_kr_sum_9
