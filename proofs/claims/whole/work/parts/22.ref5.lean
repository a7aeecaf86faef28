abbrev b_mo_load : ByteArray := prog_6_method_25_code
def y_mo_load : MethodName := ⟨R_mo, "load", "(II)V"⟩
def w_mo_load : List Cond := .code y_mo_load b_mo_load 5 none :: kt_T
theorem d_mo_load_0 : decode b_mo_load 0 = .ok (.iconst 0, 1) := by decide +kernel
theorem d_mo_load_1 : decode b_mo_load 1 = .ok (.istore_n 3, 1) := by decide +kernel
theorem d_mo_load_2 : decode b_mo_load 2 = .ok (.iload_n 3, 1) := by decide +kernel
theorem d_mo_load_3 : decode b_mo_load 3 = .ok (.iload_n 1, 1) := by decide +kernel
theorem d_mo_load_4 : decode b_mo_load 4 = .ok (.if_icmp .ge 57, 3) := by decide +kernel
theorem d_mo_load_7 : decode b_mo_load 7 = .ok (.iconst 0, 1) := by decide +kernel
theorem d_mo_load_8 : decode b_mo_load 8 = .ok (.istore 4, 2) := by decide +kernel
theorem d_mo_load_10 : decode b_mo_load 10 = .ok (.iload 4, 2) := by decide +kernel
theorem d_mo_load_12 : decode b_mo_load 12 = .ok (.iload_n 1, 1) := by decide +kernel
theorem d_mo_load_13 : decode b_mo_load 13 = .ok (.if_icmp .ge 42, 3) := by decide +kernel
theorem d_mo_load_16 : decode b_mo_load 16 = .ok (.aload_n 0, 1) := by decide +kernel
theorem d_mo_load_17 : decode b_mo_load 17 = .ok (.getfield 36, 3) := by decide +kernel
theorem d_mo_load_20 : decode b_mo_load 20 = .ok (.iconst 4, 1) := by decide +kernel
theorem d_mo_load_21 : decode b_mo_load 21 = .ok (.iload_n 3, 1) := by decide +kernel
theorem d_mo_load_22 : decode b_mo_load 22 = .ok (.imul, 1) := by decide +kernel
theorem d_mo_load_23 : decode b_mo_load 23 = .ok (.iload 4, 2) := by decide +kernel
theorem d_mo_load_25 : decode b_mo_load 25 = .ok (.iadd, 1) := by decide +kernel
theorem d_mo_load_26 : decode b_mo_load 26 = .ok (.aload_n 0, 1) := by decide +kernel
theorem d_mo_load_27 : decode b_mo_load 27 = .ok (.getfield 20, 3) := by decide +kernel
theorem d_mo_load_30 : decode b_mo_load 30 = .ok (.iconst 5, 1) := by decide +kernel
theorem d_mo_load_31 : decode b_mo_load 31 = .ok (.iload_n 3, 1) := by decide +kernel
theorem d_mo_load_32 : decode b_mo_load 32 = .ok (.imul, 1) := by decide +kernel
theorem d_mo_load_33 : decode b_mo_load 33 = .ok (.iload 4, 2) := by decide +kernel
theorem d_mo_load_35 : decode b_mo_load 35 = .ok (.iload_n 2, 1) := by decide +kernel
theorem d_mo_load_36 : decode b_mo_load 36 = .ok (.if_icmp .ne 7, 3) := by decide +kernel
theorem d_mo_load_39 : decode b_mo_load 39 = .ok (.iconst 4, 1) := by decide +kernel
theorem d_mo_load_40 : decode b_mo_load 40 = .ok (.goto 5, 3) := by decide +kernel
theorem d_mo_load_43 : decode b_mo_load 43 = .ok (.iload 4, 2) := by decide +kernel
theorem d_mo_load_45 : decode b_mo_load 45 = .ok (.iadd, 1) := by decide +kernel
theorem d_mo_load_46 : decode b_mo_load 46 = .ok (.iaload, 1) := by decide +kernel
theorem d_mo_load_47 : decode b_mo_load 47 = .ok (.i2l, 1) := by decide +kernel
theorem d_mo_load_48 : decode b_mo_load 48 = .ok (.lastore, 1) := by decide +kernel
theorem d_mo_load_49 : decode b_mo_load 49 = .ok (.iinc 4 1, 3) := by decide +kernel
theorem d_mo_load_52 : decode b_mo_load 52 = .ok (.goto (-42), 3) := by decide +kernel
theorem d_mo_load_55 : decode b_mo_load 55 = .ok (.iinc 3 1, 3) := by decide +kernel
theorem d_mo_load_58 : decode b_mo_load 58 = .ok (.goto (-56), 3) := by decide +kernel
theorem d_mo_load_61 : decode b_mo_load 61 = .ok (.return_, 1) := by decide +kernel
abbrev b_mo_free : ByteArray := prog_6_method_24_code
def y_mo_free : MethodName := ⟨R_mo, "areFree", "(II)Z"⟩
def w_mo_free : List Cond := .code y_mo_free b_mo_free 8 (some .boolean) :: kt_T
theorem d_mo_free_0 : decode b_mo_free 0 = .ok (.iconst 0, 1) := by decide +kernel
theorem d_mo_free_1 : decode b_mo_free 1 = .ok (.istore_n 3, 1) := by decide +kernel
theorem d_mo_free_2 : decode b_mo_free 2 = .ok (.iload_n 3, 1) := by decide +kernel
theorem d_mo_free_3 : decode b_mo_free 3 = .ok (.iconst 1, 1) := by decide +kernel
theorem d_mo_free_4 : decode b_mo_free 4 = .ok (.iload_n 2, 1) := by decide +kernel
theorem d_mo_free_5 : decode b_mo_free 5 = .ok (.ishl, 1) := by decide +kernel
theorem d_mo_free_6 : decode b_mo_free 6 = .ok (.if_icmp .ge 135, 3) := by decide +kernel
theorem d_mo_free_9 : decode b_mo_free 9 = .ok (.iconst 0, 1) := by decide +kernel
theorem d_mo_free_10 : decode b_mo_free 10 = .ok (.istore 4, 2) := by decide +kernel
theorem d_mo_free_12 : decode b_mo_free 12 = .ok (.iconst 0, 1) := by decide +kernel
theorem d_mo_free_13 : decode b_mo_free 13 = .ok (.istore 5, 2) := by decide +kernel
theorem d_mo_free_15 : decode b_mo_free 15 = .ok (.iload 5, 2) := by decide +kernel
theorem d_mo_free_17 : decode b_mo_free 17 = .ok (.iload_n 2, 1) := by decide +kernel
theorem d_mo_free_18 : decode b_mo_free 18 = .ok (.if_icmp .ge 20, 3) := by decide +kernel
theorem d_mo_free_21 : decode b_mo_free 21 = .ok (.iload 4, 2) := by decide +kernel
theorem d_mo_free_23 : decode b_mo_free 23 = .ok (.iload_n 3, 1) := by decide +kernel
theorem d_mo_free_24 : decode b_mo_free 24 = .ok (.iload 5, 2) := by decide +kernel
theorem d_mo_free_26 : decode b_mo_free 26 = .ok (.ishr, 1) := by decide +kernel
theorem d_mo_free_27 : decode b_mo_free 27 = .ok (.iconst 1, 1) := by decide +kernel
theorem d_mo_free_28 : decode b_mo_free 28 = .ok (.iand, 1) := by decide +kernel
theorem d_mo_free_29 : decode b_mo_free 29 = .ok (.iadd, 1) := by decide +kernel
theorem d_mo_free_30 : decode b_mo_free 30 = .ok (.istore 4, 2) := by decide +kernel
theorem d_mo_free_32 : decode b_mo_free 32 = .ok (.iinc 5 1, 3) := by decide +kernel
theorem d_mo_free_35 : decode b_mo_free 35 = .ok (.goto (-20), 3) := by decide +kernel
theorem d_mo_free_38 : decode b_mo_free 38 = .ok (.iload 4, 2) := by decide +kernel
theorem d_mo_free_40 : decode b_mo_free 40 = .ok (.iload_n 1, 1) := by decide +kernel
theorem d_mo_free_41 : decode b_mo_free 41 = .ok (.if_icmp .ne 94, 3) := by decide +kernel
theorem d_mo_free_44 : decode b_mo_free 44 = .ok (.iconst 0, 1) := by decide +kernel
theorem d_mo_free_45 : decode b_mo_free 45 = .ok (.istore 5, 2) := by decide +kernel
theorem d_mo_free_47 : decode b_mo_free 47 = .ok (.iconst 0, 1) := by decide +kernel
theorem d_mo_free_48 : decode b_mo_free 48 = .ok (.istore 6, 2) := by decide +kernel
theorem d_mo_free_50 : decode b_mo_free 50 = .ok (.iload 6, 2) := by decide +kernel
theorem d_mo_free_52 : decode b_mo_free 52 = .ok (.iload_n 2, 1) := by decide +kernel
theorem d_mo_free_53 : decode b_mo_free 53 = .ok (.if_icmp .ge 70, 3) := by decide +kernel
theorem d_mo_free_56 : decode b_mo_free 56 = .ok (.iconst 0, 1) := by decide +kernel
theorem d_mo_free_57 : decode b_mo_free 57 = .ok (.istore 7, 2) := by decide +kernel
theorem d_mo_free_59 : decode b_mo_free 59 = .ok (.iload 7, 2) := by decide +kernel
theorem d_mo_free_61 : decode b_mo_free 61 = .ok (.iload_n 1, 1) := by decide +kernel
theorem d_mo_free_62 : decode b_mo_free 62 = .ok (.if_icmp .ge 44, 3) := by decide +kernel
theorem d_mo_free_65 : decode b_mo_free 65 = .ok (.iload_n 3, 1) := by decide +kernel
theorem d_mo_free_66 : decode b_mo_free 66 = .ok (.iload 6, 2) := by decide +kernel
theorem d_mo_free_68 : decode b_mo_free 68 = .ok (.ishr, 1) := by decide +kernel
theorem d_mo_free_69 : decode b_mo_free 69 = .ok (.iconst 1, 1) := by decide +kernel
theorem d_mo_free_70 : decode b_mo_free 70 = .ok (.iand, 1) := by decide +kernel
theorem d_mo_free_71 : decode b_mo_free 71 = .ok (.iconst 1, 1) := by decide +kernel
theorem d_mo_free_72 : decode b_mo_free 72 = .ok (.if_icmp .ne 34, 3) := by decide +kernel
theorem d_mo_free_75 : decode b_mo_free 75 = .ok (.aload_n 0, 1) := by decide +kernel
theorem d_mo_free_76 : decode b_mo_free 76 = .ok (.getfield 36, 3) := by decide +kernel
theorem d_mo_free_79 : decode b_mo_free 79 = .ok (.iconst 4, 1) := by decide +kernel
theorem d_mo_free_80 : decode b_mo_free 80 = .ok (.iload 7, 2) := by decide +kernel
theorem d_mo_free_82 : decode b_mo_free 82 = .ok (.imul, 1) := by decide +kernel
theorem d_mo_free_83 : decode b_mo_free 83 = .ok (.iload 5, 2) := by decide +kernel
theorem d_mo_free_85 : decode b_mo_free 85 = .ok (.iadd, 1) := by decide +kernel
theorem d_mo_free_86 : decode b_mo_free 86 = .ok (.aload_n 0, 1) := by decide +kernel
theorem d_mo_free_87 : decode b_mo_free 87 = .ok (.getfield 20, 3) := by decide +kernel
theorem d_mo_free_90 : decode b_mo_free 90 = .ok (.iconst 5, 1) := by decide +kernel
theorem d_mo_free_91 : decode b_mo_free 91 = .ok (.iload 7, 2) := by decide +kernel
theorem d_mo_free_93 : decode b_mo_free 93 = .ok (.imul, 1) := by decide +kernel
theorem d_mo_free_94 : decode b_mo_free 94 = .ok (.iload 6, 2) := by decide +kernel
theorem d_mo_free_96 : decode b_mo_free 96 = .ok (.iadd, 1) := by decide +kernel
theorem d_mo_free_97 : decode b_mo_free 97 = .ok (.iaload, 1) := by decide +kernel
theorem d_mo_free_98 : decode b_mo_free 98 = .ok (.i2l, 1) := by decide +kernel
theorem d_mo_free_99 : decode b_mo_free 99 = .ok (.lastore, 1) := by decide +kernel
theorem d_mo_free_100 : decode b_mo_free 100 = .ok (.iinc 7 1, 3) := by decide +kernel
theorem d_mo_free_103 : decode b_mo_free 103 = .ok (.goto (-44), 3) := by decide +kernel
theorem d_mo_free_106 : decode b_mo_free 106 = .ok (.iload 5, 2) := by decide +kernel
theorem d_mo_free_108 : decode b_mo_free 108 = .ok (.iload_n 3, 1) := by decide +kernel
theorem d_mo_free_109 : decode b_mo_free 109 = .ok (.iload 6, 2) := by decide +kernel
theorem d_mo_free_111 : decode b_mo_free 111 = .ok (.ishr, 1) := by decide +kernel
theorem d_mo_free_112 : decode b_mo_free 112 = .ok (.iconst 1, 1) := by decide +kernel
theorem d_mo_free_113 : decode b_mo_free 113 = .ok (.iand, 1) := by decide +kernel
theorem d_mo_free_114 : decode b_mo_free 114 = .ok (.iadd, 1) := by decide +kernel
theorem d_mo_free_115 : decode b_mo_free 115 = .ok (.istore 5, 2) := by decide +kernel
theorem d_mo_free_117 : decode b_mo_free 117 = .ok (.iinc 6 1, 3) := by decide +kernel
theorem d_mo_free_120 : decode b_mo_free 120 = .ok (.goto (-70), 3) := by decide +kernel
theorem d_mo_free_123 : decode b_mo_free 123 = .ok (.aload_n 0, 1) := by decide +kernel
theorem d_mo_free_124 : decode b_mo_free 124 = .ok (.iload_n 1, 1) := by decide +kernel
theorem d_mo_free_125 : decode b_mo_free 125 = .ok (.invokevirtual 91, 3) := by decide +kernel
theorem d_mo_free_128 : decode b_mo_free 128 = .ok (.lconst 0, 1) := by decide +kernel
theorem d_mo_free_129 : decode b_mo_free 129 = .ok (.lcmp, 1) := by decide +kernel
theorem d_mo_free_130 : decode b_mo_free 130 = .ok (.ifCond .eq 5, 3) := by decide +kernel
theorem d_mo_free_133 : decode b_mo_free 133 = .ok (.iconst 1, 1) := by decide +kernel
theorem d_mo_free_134 : decode b_mo_free 134 = .ok (.ireturn, 1) := by decide +kernel
theorem d_mo_free_135 : decode b_mo_free 135 = .ok (.iinc 3 1, 3) := by decide +kernel
theorem d_mo_free_138 : decode b_mo_free 138 = .ok (.goto (-136), 3) := by decide +kernel
theorem d_mo_free_141 : decode b_mo_free 141 = .ok (.iconst 0, 1) := by decide +kernel
theorem d_mo_free_142 : decode b_mo_free 142 = .ok (.ireturn, 1) := by decide +kernel
theorem k_173 : (.code y_mo_det b_mo_det 14 (some .long) : Cond) ∈ kt_T := List.mem_filter.mpr ⟨List.mem_of_getElem? (i := 561) (by decide +kernel), by decide +kernel⟩
theorem k_174 : (.instanceMethod y_mo_det : Cond) ∈ kt_T := List.mem_filter.mpr ⟨List.mem_of_getElem? (i := 560) (by decide +kernel), by decide +kernel⟩
theorem k_175 : (.selects R_mo y_mo_det y_mo_det : Cond) ∈ kt_T := List.mem_filter.mpr ⟨List.mem_of_getElem? (i := 13) (by decide +kernel), by decide +kernel⟩
theorem k_176 : (.methodLink R_mo 91 y_mo_det : Cond) ∈ kt_T := List.mem_filter.mpr ⟨List.mem_of_getElem? (i := 558) (by decide +kernel), by decide +kernel⟩
/-- one row is loaded: d places are left, from k on; the column q stands for the right side's -/
def ldR (ge : Nat → Int32) (q : Int32) (r : Nat) : Nat → Nat → (Nat → Int64) → Nat → Int64
  | 0, _, f => f
  | d + 1, k, f => ldR ge q r d (k + 1) (vp_updL f (4 * r + k) (ge (5 * r + (if nI k = q then 4 else k))).toInt64)
/-- the rows are loaded: d are left, from r on -/
def ldL (ge : Nat → Int32) (q : Int32) (n : Nat) : Nat → Nat → (Nat → Int64) → Nat → Int64
  | 0, _, f => f
  | d + 1, r, f => ldL ge q n d (r + 1) (ldR ge q r n 0 f)
set_option maxHeartbeats 4000000 in
theorem lp_mo_ldR {p : Program} {l : Launch} {e : Env} {R : Room} {s : State} {m : MethodId} {args : Array Value} {below : List Frame} {meth : Method} {c : Code} {dC : Nat → ClassId} {dI : Nat → Nat → Nat} {A : Nat → Prop} {Q : State → Prop} {m0 : Nat} {me : Nat} {msq : Nat} {th : Int32} {mk : Int32} {mv : Int32} {mu : Nat} {md : Nat} {up : Int64} {dn : Int64} {mr : Int32} {mc : Nat} {so : Int32} {mau : Nat} {mad : Nat} {mw : Int32} {mwg : Nat} {mgv : Nat} {cme : ClassId} {ge : Nat → Int32} {cms : ClassId} {n : Nat} {q : Int32} (hx : p.tables.exec = Jvm.exec) (hb : c.code = b_mo_load) (hml : c.maxLocals = 5) (hown : s.vm.findClass R_mo = some m.cls) (hT : ∀ w ∈ kt_T, w.before args s = true) (hA : ∀ q : Nat, s.heap.size ≤ q → A q) (hK : va_K (dC, dI) classes [(cme, .int), (cms, .long)] s) {r : Nat} (hn : n ≤ 4) (hr4 : r < 4) :
    ∀ (d k : Nat) (f : Nat → Int64), k + d = n → (∀ (H : Heap) (locs : List Loc) (ls : Array Slot), va_P (dC, dI) classes [(m0, .inr (4, [.int th, .int mk, .int mv, .ref mu, .ref md, .long up, .long dn, .int mr, .ref mc, .ref me, .int so, .ref mau, .ref mad, .int mw, .ref mwg, .ref mgv, .ref msq])), (me, .inl (cme, 20, .inl ge)), (msq, .inl (cms, 16, .inr (.inl (ldR ge q r d k f))))] H → va_D A [(m0, .inr (4, [.int th, .int mk, .int mv, .ref mu, .ref md, .long up, .long dn, .int mr, .ref mc, .ref me, .int so, .ref mau, .ref mad, .int mw, .ref mwg, .ref mgv, .ref msq])), (me, .inl (cme, 20, .inl ge)), (msq, .inl (cms, 16, .inr (.inl (ldR ge q r d k f))))] → va_S A s.heap H locs → lv_has ls 5 [(0, .ref m0), (1, .int (nI n)), (2, .int q), (3, .int (nI r))] → W p l e R s m args below meth c H locs 0 0 Q (F0 m 55 ls [])) → ∀ (H : Heap) (locs : List Loc) (ls : Array Slot), va_P (dC, dI) classes [(m0, .inr (4, [.int th, .int mk, .int mv, .ref mu, .ref md, .long up, .long dn, .int mr, .ref mc, .ref me, .int so, .ref mau, .ref mad, .int mw, .ref mwg, .ref mgv, .ref msq])), (me, .inl (cme, 20, .inl ge)), (msq, .inl (cms, 16, .inr (.inl f)))] H → va_D A [(m0, .inr (4, [.int th, .int mk, .int mv, .ref mu, .ref md, .long up, .long dn, .int mr, .ref mc, .ref me, .int so, .ref mau, .ref mad, .int mw, .ref mwg, .ref mgv, .ref msq])), (me, .inl (cme, 20, .inl ge)), (msq, .inl (cms, 16, .inr (.inl f)))] → va_S A s.heap H locs → lv_has ls 5 [(0, .ref m0), (1, .int (nI n)), (2, .int q), (3, .int (nI r)), (4, .int (nI k))] → W p l e R s m args below meth c H locs 0 0 Q (F0 m 10 ls []) := by
  intro d
  induction d with
  | zero =>
    intro k f hk1 hk H locs ls hP hD hS hl
    refine lv_iload hx hb d_mo_load_10 (lv_at hl 4 rfl) ?_
    refine lv_iload_n hx hb d_mo_load_12 rfl (lv_at hl 1 rfl) ?_
    refine lv_icmp_ge (tgt := 55) hx hb d_mo_load_13 (by decide) (fun c_1 => ?_) (fun c_1 => ?_)
    · exact hk H locs ls hP hD hS (lv_sub hl [0, 1, 2, 3] rfl)
    · exact absurd (nI_le (show n ≤ k by omega) (by omega)) c_1
  | succ d ih =>
    intro k f hk1 hk H locs ls hP hD hS hl
    refine lv_iload hx hb d_mo_load_10 (lv_at hl 4 rfl) ?_
    refine lv_iload_n hx hb d_mo_load_12 rfl (lv_at hl 1 rfl) ?_
    refine lv_icmp_ge (tgt := 55) hx hb d_mo_load_13 (by decide) (fun c_2 => ?_) (fun c_2 => ?_)
    · exact absurd c_2 (nI_ge (show k < n by omega) (by omega))
    · refine lv_aload_n hx hb d_mo_load_16 rfl (lv_at hl 0 rfl) ?_
      refine va_get (D := (dC, dI)) (ci := 4) (v := .ref msq) (C := R_mo) (T := F_mo) (N := 17) hx hb hT i_mo hown hK hP 0 rfl rfl 16 (by decide) (hT _ k_172) (fun _ h9 => h9) rfl d_mo_load_17 ?_
      refine lv_iconst (v := 4) hx hb d_mo_load_20 (by decide) ?_
      refine lv_iload_n hx hb d_mo_load_21 rfl (lv_at hl 3 rfl) ?_
      refine lv_imul hx hb d_mo_load_22 ?_
      refine lv_iload hx hb d_mo_load_23 (lv_at hl 4 rfl) ?_
      refine lv_iadd hx hb d_mo_load_25 ?_
      refine lv_aload_n hx hb d_mo_load_26 rfl (lv_at hl 0 rfl) ?_
      refine va_get (D := (dC, dI)) (ci := 4) (v := .ref me) (C := R_mo) (T := F_mo) (N := 17) hx hb hT i_mo hown hK hP 0 rfl rfl 9 (by decide) (hT _ k_162) (fun _ h9 => h9) rfl d_mo_load_27 ?_
      refine lv_iconst (v := 5) hx hb d_mo_load_30 (by decide) ?_
      refine lv_iload_n hx hb d_mo_load_31 rfl (lv_at hl 3 rfl) ?_
      refine lv_imul hx hb d_mo_load_32 ?_
      refine lv_iload hx hb d_mo_load_33 (lv_at hl 4 rfl) ?_
      refine lv_iload_n hx hb d_mo_load_35 rfl (lv_at hl 2 rfl) ?_
      refine lv_icmp_ne (tgt := 43) hx hb d_mo_load_36 (by decide) (fun c_3 => ?_) (fun c_3 => ?_)
      · refine lv_iload hx hb d_mo_load_43 (lv_at hl 4 rfl) ?_
        refine lv_iadd hx hb d_mo_load_45 ?_
        rw [show ((5 : Int32) * nI r + nI k) = nI (5 * r + (if nI k = q then 4 else k)) from by rw [if_neg c_3]; exact ix5 r k]
        rw [ix4]
        refine va_ialdN (i := (5 * r + (if nI k = q then 4 else k))) hx hb hK hP 1 0 rfl rfl ⟨by split <;> omega, by decide⟩ d_mo_load_46 ?_
        refine lv_i2l (v := (ge (5 * r + (if nI k = q then 4 else k))).toInt64) hx hb d_mo_load_47 rfl ?_
        refine va_lastN (i := (4 * r + k)) hx hb hK hP hD hS 2 1 rfl rfl ⟨by omega, by decide⟩ d_mo_load_48 (fun H locs hP hD hS => ?_)
        have hP : va_P (dC, dI) classes [(m0, .inr (4, [.int th, .int mk, .int mv, .ref mu, .ref md, .long up, .long dn, .int mr, .ref mc, .ref me, .int so, .ref mau, .ref mad, .int mw, .ref mwg, .ref mgv, .ref msq])), (me, .inl (cme, 20, .inl ge)), (msq, .inl (cms, 16, .inr (.inl (vp_updL f (4 * r + k) ((ge (5 * r + (if nI k = q then 4 else k))).toInt64)))))] H := hP
        have hD : va_D A [(m0, .inr (4, [.int th, .int mk, .int mv, .ref mu, .ref md, .long up, .long dn, .int mr, .ref mc, .ref me, .int so, .ref mau, .ref mad, .int mw, .ref mwg, .ref mgv, .ref msq])), (me, .inl (cme, 20, .inl ge)), (msq, .inl (cms, 16, .inr (.inl (vp_updL f (4 * r + k) ((ge (5 * r + (if nI k = q then 4 else k))).toInt64)))))] := hD
        refine lv_iinc (v := (nI k) + 1) (lv' := [(4, .int ((nI k) + 1)), (0, .ref m0), (1, .int (nI n)), (2, .int q), (3, .int (nI r))]) hx hb d_mo_load_49 hl (k := 4) rfl rfl (by decide) rfl (fun ls hl => ?_)
        refine lv_goto (tgt := 10) hx hb d_mo_load_52 (by decide) ?_
        exact ih (k + 1) _ (by omega) hk H locs ls hP hD hS (by have h9 := lv_sub hl [1, 2, 3, 4, 0] rfl; rw [nI_1] at h9; exact h9)
      · refine lv_iconst (v := 4) hx hb d_mo_load_39 (by decide) ?_
        refine lv_goto (tgt := 45) hx hb d_mo_load_40 (by decide) ?_
        refine lv_iadd hx hb d_mo_load_45 ?_
        rw [show ((5 : Int32) * nI r + 4) = nI (5 * r + (if nI k = q then 4 else k)) from by rw [if_pos c_3]; exact ix5 r 4]
        rw [ix4]
        refine va_ialdN (i := (5 * r + (if nI k = q then 4 else k))) hx hb hK hP 1 0 rfl rfl ⟨by split <;> omega, by decide⟩ d_mo_load_46 ?_
        refine lv_i2l (v := (ge (5 * r + (if nI k = q then 4 else k))).toInt64) hx hb d_mo_load_47 rfl ?_
        refine va_lastN (i := (4 * r + k)) hx hb hK hP hD hS 2 1 rfl rfl ⟨by omega, by decide⟩ d_mo_load_48 (fun H locs hP hD hS => ?_)
        have hP : va_P (dC, dI) classes [(m0, .inr (4, [.int th, .int mk, .int mv, .ref mu, .ref md, .long up, .long dn, .int mr, .ref mc, .ref me, .int so, .ref mau, .ref mad, .int mw, .ref mwg, .ref mgv, .ref msq])), (me, .inl (cme, 20, .inl ge)), (msq, .inl (cms, 16, .inr (.inl (vp_updL f (4 * r + k) ((ge (5 * r + (if nI k = q then 4 else k))).toInt64)))))] H := hP
        have hD : va_D A [(m0, .inr (4, [.int th, .int mk, .int mv, .ref mu, .ref md, .long up, .long dn, .int mr, .ref mc, .ref me, .int so, .ref mau, .ref mad, .int mw, .ref mwg, .ref mgv, .ref msq])), (me, .inl (cme, 20, .inl ge)), (msq, .inl (cms, 16, .inr (.inl (vp_updL f (4 * r + k) ((ge (5 * r + (if nI k = q then 4 else k))).toInt64)))))] := hD
        refine lv_iinc (v := (nI k) + 1) (lv' := [(4, .int ((nI k) + 1)), (0, .ref m0), (1, .int (nI n)), (2, .int q), (3, .int (nI r))]) hx hb d_mo_load_49 hl (k := 4) rfl rfl (by decide) rfl (fun ls hl => ?_)
        refine lv_goto (tgt := 10) hx hb d_mo_load_52 (by decide) ?_
        exact ih (k + 1) _ (by omega) hk H locs ls hP hD hS (by have h9 := lv_sub hl [1, 2, 3, 4, 0] rfl; rw [nI_1] at h9; exact h9)
set_option maxHeartbeats 4000000 in
theorem lp_mo_ldL {p : Program} {l : Launch} {e : Env} {R : Room} {s : State} {m : MethodId} {args : Array Value} {below : List Frame} {meth : Method} {c : Code} {dC : Nat → ClassId} {dI : Nat → Nat → Nat} {A : Nat → Prop} {Q : State → Prop} {m0 : Nat} {me : Nat} {msq : Nat} {th : Int32} {mk : Int32} {mv : Int32} {mu : Nat} {md : Nat} {up : Int64} {dn : Int64} {mr : Int32} {mc : Nat} {so : Int32} {mau : Nat} {mad : Nat} {mw : Int32} {mwg : Nat} {mgv : Nat} {cme : ClassId} {ge : Nat → Int32} {cms : ClassId} {n : Nat} {q : Int32} (hx : p.tables.exec = Jvm.exec) (hb : c.code = b_mo_load) (hml : c.maxLocals = 5) (hown : s.vm.findClass R_mo = some m.cls) (hT : ∀ w ∈ kt_T, w.before args s = true) (hA : ∀ q : Nat, s.heap.size ≤ q → A q) (hK : va_K (dC, dI) classes [(cme, .int), (cms, .long)] s) (hn : n ≤ 4) :
    ∀ (d r : Nat) (f : Nat → Int64), r + d = n → (∀ (H : Heap) (locs : List Loc) (ls : Array Slot), va_P (dC, dI) classes [(m0, .inr (4, [.int th, .int mk, .int mv, .ref mu, .ref md, .long up, .long dn, .int mr, .ref mc, .ref me, .int so, .ref mau, .ref mad, .int mw, .ref mwg, .ref mgv, .ref msq])), (me, .inl (cme, 20, .inl ge)), (msq, .inl (cms, 16, .inr (.inl (ldL ge q n d r f))))] H → va_D A [(m0, .inr (4, [.int th, .int mk, .int mv, .ref mu, .ref md, .long up, .long dn, .int mr, .ref mc, .ref me, .int so, .ref mau, .ref mad, .int mw, .ref mwg, .ref mgv, .ref msq])), (me, .inl (cme, 20, .inl ge)), (msq, .inl (cms, 16, .inr (.inl (ldL ge q n d r f))))] → va_S A s.heap H locs → ls.size = 5 → W p l e R s m args below meth c H locs 0 0 Q (F0 m 61 ls [])) → ∀ (H : Heap) (locs : List Loc) (ls : Array Slot), va_P (dC, dI) classes [(m0, .inr (4, [.int th, .int mk, .int mv, .ref mu, .ref md, .long up, .long dn, .int mr, .ref mc, .ref me, .int so, .ref mau, .ref mad, .int mw, .ref mwg, .ref mgv, .ref msq])), (me, .inl (cme, 20, .inl ge)), (msq, .inl (cms, 16, .inr (.inl f)))] H → va_D A [(m0, .inr (4, [.int th, .int mk, .int mv, .ref mu, .ref md, .long up, .long dn, .int mr, .ref mc, .ref me, .int so, .ref mau, .ref mad, .int mw, .ref mwg, .ref mgv, .ref msq])), (me, .inl (cme, 20, .inl ge)), (msq, .inl (cms, 16, .inr (.inl f)))] → va_S A s.heap H locs → lv_has ls 5 [(0, .ref m0), (1, .int (nI n)), (2, .int q), (3, .int (nI r))] → W p l e R s m args below meth c H locs 0 0 Q (F0 m 2 ls []) := by
  intro d
  induction d with
  | zero =>
    intro r f hk1 hk H locs ls hP hD hS hl
    refine lv_iload_n hx hb d_mo_load_2 rfl (lv_at hl 3 rfl) ?_
    refine lv_iload_n hx hb d_mo_load_3 rfl (lv_at hl 1 rfl) ?_
    refine lv_icmp_ge (tgt := 61) hx hb d_mo_load_4 (by decide) (fun c_4 => ?_) (fun c_4 => ?_)
    · exact hk H locs ls hP hD hS hl.1
    · exact absurd (nI_le (show n ≤ r by omega) (by omega)) c_4
  | succ d ih =>
    intro r f hk1 hk H locs ls hP hD hS hl
    refine lv_iload_n hx hb d_mo_load_2 rfl (lv_at hl 3 rfl) ?_
    refine lv_iload_n hx hb d_mo_load_3 rfl (lv_at hl 1 rfl) ?_
    refine lv_icmp_ge (tgt := 61) hx hb d_mo_load_4 (by decide) (fun c_5 => ?_) (fun c_5 => ?_)
    · exact absurd c_5 (nI_ge (show r < n by omega) (by omega))
    · refine lv_iconst (v := 0) hx hb d_mo_load_7 (by decide) ?_
      refine lv_istore (lv' := [(4, .int 0), (0, .ref m0), (1, .int (nI n)), (2, .int q), (3, .int (nI r))]) hx hb d_mo_load_8 hl (by decide) rfl (fun ls hl => ?_)
      refine lp_mo_ldR hx hb hml hown hT hA hK hn (show r < 4 by omega) n 0 f (Nat.zero_add _) (fun H locs ls hP hD hS hl => ?_) H locs ls hP hD hS (lv_sub hl [1, 2, 3, 4, 0] rfl)
      refine lv_iinc (v := (nI r) + 1) (lv' := [(3, .int ((nI r) + 1)), (0, .ref m0), (1, .int (nI n)), (2, .int q)]) hx hb d_mo_load_55 hl (k := 3) rfl rfl (by decide) rfl (fun ls hl => ?_)
      refine lv_goto (tgt := 2) hx hb d_mo_load_58 (by decide) ?_
      exact ih (r + 1) _ (by omega) hk H locs ls hP hD hS (by have h9 := lv_sub hl [1, 2, 3, 0] rfl; rw [nI_1] at h9; exact h9)
def f_mo_load (ge : Nat → Int32) (gs : Nat → Int64) (n : Nat) (q : Int32) : (Nat → Int64) :=
  (ldL ge q n n 0 gs)
set_option maxHeartbeats 4000000 in
set_option maxRecDepth 100000 in
theorem c_mo_load (l : Launch) (dC : Nat → ClassId) (dI : Nat → Nat → Nat) (sz : Nat) (m0 : Nat) (me : Nat) (msq : Nat) (th : Int32) (mk : Int32) (mv : Int32) (mu : Nat) (md : Nat) (up : Int64) (dn : Int64) (mr : Int32) (mc : Nat) (so : Int32) (mau : Nat) (mad : Nat) (mw : Int32) (mwg : Nat) (mgv : Nat) (cme : ClassId) (ge : Nat → Int32) (cms : ClassId) (gs : Nat → Int64) (n : Nat) (q : Int32) (hn : n ≤ 4) : Met l y_mo_load w_mo_load ({ frames := 0, cells := 0, slots := 0, locals := 0 }) (va_Pc [.ref m0, .int (nI n), .int q] (fun U => U.heap.size = sz ∧ va_P (dC, dI) classes [(m0, .inr (4, [.int th, .int mk, .int mv, .ref mu, .ref md, .long up, .long dn, .int mr, .ref mc, .ref me, .int so, .ref mau, .ref mad, .int mw, .ref mwg, .ref mgv, .ref msq])), (me, .inl (cme, 20, .inl ge)), (msq, .inl (cms, 16, .inr (.inl gs)))] U.heap ∧ va_K (dC, dI) classes [(cme, .int), (cms, .long)] U ∧ va_D (fun _ => True) [(m0, .inr (4, [.int th, .int mk, .int mv, .ref mu, .ref md, .long up, .long dn, .int mr, .ref mc, .ref me, .int so, .ref mau, .ref mad, .int mw, .ref mwg, .ref mgv, .ref msq])), (me, .inl (cme, 20, .inl ge)), (msq, .inl (cms, 16, .inr (.inl gs)))])) (va_Qv (fun u9 => u9 = f_mo_load ge gs n q) (fun (u : (Nat → Int64)) t => match u with | gs' => va_P (dC, dI) classes [(m0, .inr (4, [.int th, .int mk, .int mv, .ref mu, .ref md, .long up, .long dn, .int mr, .ref mc, .ref me, .int so, .ref mau, .ref mad, .int mw, .ref mwg, .ref mgv, .ref msq])), (me, .inl (cme, 20, .inl ge)), (msq, .inl (cms, 16, .inr (.inl gs')))] t.heap ∧ va_K (dC, dI) classes [(cme, .int), (cms, .long)] t ∧ va_D (va_A [(m0, .inr (4, [.int th, .int mk, .int mv, .ref mu, .ref md, .long up, .long dn, .int mr, .ref mc, .ref me, .int so, .ref mau, .ref mad, .int mw, .ref mwg, .ref mgv, .ref msq])), (me, .inl (cme, 20, .inl ge)), (msq, .inl (cms, 16, .inr (.inl gs)))] sz) [(m0, .inr (4, [.int th, .int mk, .int mv, .ref mu, .ref md, .long up, .long dn, .int mr, .ref mc, .ref me, .int so, .ref mau, .ref mad, .int mw, .ref mwg, .ref mgv, .ref msq])), (me, .inl (cme, 20, .inl ge)), (msq, .inl (cms, 16, .inr (.inl gs')))]) (va_A [(m0, .inr (4, [.int th, .int mk, .int mv, .ref mu, .ref md, .long up, .long dn, .int mr, .ref mc, .ref me, .int so, .ref mau, .ref mad, .int mw, .ref mwg, .ref mgv, .ref msq])), (me, .inl (cme, 20, .inl ge)), (msq, .inl (cms, 16, .inr (.inl gs)))] sz)) 0 0 (va_A [(m0, .inr (4, [.int th, .int mk, .int mv, .ref mu, .ref md, .long up, .long dn, .int mr, .ref mc, .ref me, .int so, .ref mau, .ref mad, .int mw, .ref mwg, .ref mgv, .ref msq])), (me, .inl (cme, 20, .inl ge)), (msq, .inl (cms, 16, .inr (.inl gs)))] sz) := by
  refine Met.ofW (cc := b_mo_load) (maxL := 5) (ret := none) (by decide +kernel) rfl ?_
  intro p e s m args below meth c s₁ B hml hv
  obtain ⟨rfl, hsz, hP, hK, hD0⟩ := hv
  have hx := B.exec
  have hb := B.bytes
  have hr := B.returns
  have hts := atoms_spec (ws := w_mo_load) B.pre
  have hT := fun (w : Cond) (h : w ∈ kt_T) => hts w (List.mem_cons_of_mem _ h)
  have hown : s.vm.findClass R_mo = some m.cls := findClass_of_methodNamed B.named
  have hlocks := B.notSynchronized
  subst hsz
  have hD := hD0.self (sz := s.heap.size)
  generalize hAe : va_A [(m0, .inr (4, [.int th, .int mk, .int mv, .ref mu, .ref md, .long up, .long dn, .int mr, .ref mc, .ref me, .int so, .ref mau, .ref mad, .int mw, .ref mwg, .ref mgv, .ref msq])), (me, .inl (cme, 20, .inl ge)), (msq, .inl (cms, 16, .inr (.inl gs)))] s.heap.size = A at hD ⊢
  have hA : ∀ q : Nat, s.heap.size ≤ q → A q := fun q h => by rw [← hAe]; exact Or.inr h
  have hS : va_S A s.heap s.heap [] := va_S.rf
  have hl := lv_entry ([.ref m0, .int (nI n), .int q]) (n := 5) (Nat.le_of_ble_eq_true rfl)
  rw [lg_entry_eq]
  generalize (lg_sl ([.ref m0, .int (nI n), .int q]) ++ List.replicate (5 - (lg_sl ([.ref m0, .int (nI n), .int q])).length) Slot.unset).toArray = ls at hl ⊢
  have hl : lv_has ls 5 [(0, .ref m0), (1, .int (nI n)), (2, .int q)] := hl
  refine lv_iconst (v := 0) hx hb d_mo_load_0 (by decide) ?_
  refine lv_istore_n (lv' := [(3, .int 0), (0, .ref m0), (1, .int (nI n)), (2, .int q)]) hx hb d_mo_load_1 rfl hl (by decide) rfl (fun ls hl => ?_)
  refine lp_mo_ldL hx hb hml hown hT hA hK hn n 0 gs (Nat.zero_add _) (fun H locs ls hP hD hS hl => ?_) s.heap [] ls hP hD hS (lv_sub hl [1, 2, 3, 0] rfl)
  exact W.vret hx hb hr (fun t ht hW => ⟨⟨(ldL ge q n n 0 gs), rfl, rfl, by rw [ht]; exact hP, va_K.moved hW.alike hK, hD⟩, hS.F ht⟩) hS.2.2 d_mo_load_61
/-- how many columns a set has: d are left, from k on -/
def clL (S : Nat) : Nat → Nat → Nat → Nat
  | 0, _, t => t
  | d + 1, k, t => clL S d (k + 1) (t + bitN S k)
/-- one column is filled: d rows are left, from r on -/
def fiR (ge : Nat → Int32) (k a : Nat) : Nat → Nat → (Nat → Int64) → Nat → Int64
  | 0, _, f => f
  | d + 1, r, f => fiR ge k a d (r + 1) (vp_updL f (4 * r + a) (ge (5 * r + k)).toInt64)
/-- the columns of a set are filled: d are left, from k on, at place a -/
def fiL (ge : Nat → Int32) (S q : Nat) : Nat → Nat → Nat → (Nat → Int64) → Nat → Int64
  | 0, _, _, f => f
  | d + 1, k, a, f => if bitN S k = 1 then fiL ge S q d (k + 1) (a + bitN S k) (fiR ge k a q 0 f) else fiL ge S q d (k + 1) (a + bitN S k) f
/-- whether a set of columns shows that q rows are free: d sets are left, from S on -/
def frL (ge : Nat → Int32) (q n : Nat) : Nat → Nat → (Nat → Int64) → Int32 × (Nat → Int64)
  | 0, _, f => (0, f)
  | d + 1, S, f => if clL S n 0 0 = q then (if f_mo_det (fiL ge S q n 0 0 f) q = 0 then frL ge q n d (S + 1) (fiL ge S q n 0 0 f) else (1, fiL ge S q n 0 0 f)) else frL ge q n d (S + 1) f
theorem clL_le (S : Nat) : ∀ (d k t : Nat), clL S d k t ≤ t + d
  | 0, _, _ => Nat.le_refl _
  | d + 1, k, t => by
    have h1 := clL_le S d (k + 1) (t + bitN S k)
    have h2 := bitN_le S k
    show clL S d (k + 1) (t + bitN S k) ≤ t + (d + 1)
    omega
theorem pow2_le : ∀ n, n < 5 → 2 ^ n ≤ 16 := by decide +kernel
set_option maxHeartbeats 4000000 in
theorem lp_mo_cl {p : Program} {l : Launch} {e : Env} {R : Room} {s : State} {m : MethodId} {args : Array Value} {below : List Frame} {meth : Method} {c : Code} {Q : State → Prop} {H : Heap} {locs : List Loc} {m0 q n S : Nat} (hx : p.tables.exec = Jvm.exec) (hb : c.code = b_mo_free) (hn : n ≤ 4) (hS16 : S < 16) :
    ∀ (d k t : Nat), k + d = n → (∀ (ls : Array Slot), lv_has ls 8 [(0, .ref m0), (1, .int (nI q)), (2, .int (nI n)), (3, .int (nI S)), (4, .int (nI (clL S d k t)))] → W p l e R s m args below meth c H locs 0 0 Q (F0 m 38 ls [])) → ∀ (ls : Array Slot), lv_has ls 8 [(0, .ref m0), (1, .int (nI q)), (2, .int (nI n)), (3, .int (nI S)), (4, .int (nI t)), (5, .int (nI k))] → W p l e R s m args below meth c H locs 0 0 Q (F0 m 15 ls []) := by
  intro d
  induction d with
  | zero =>
    intro k t hk1 hk ls hl
    refine lv_iload hx hb d_mo_free_15 (lv_at hl 5 rfl) ?_
    refine lv_iload_n hx hb d_mo_free_17 rfl (lv_at hl 2 rfl) ?_
    refine lv_icmp_ge (tgt := 38) hx hb d_mo_free_18 (by decide) (fun c_1 => ?_) (fun c_1 => ?_)
    · exact hk ls (lv_sub hl [0, 1, 2, 3, 4] rfl)
    · exact absurd (nI_le (show n ≤ k by omega) (by omega)) c_1
  | succ d ih =>
    intro k t hk1 hk ls hl
    refine lv_iload hx hb d_mo_free_15 (lv_at hl 5 rfl) ?_
    refine lv_iload_n hx hb d_mo_free_17 rfl (lv_at hl 2 rfl) ?_
    refine lv_icmp_ge (tgt := 38) hx hb d_mo_free_18 (by decide) (fun c_2 => ?_) (fun c_2 => ?_)
    · exact absurd c_2 (nI_ge (show k < n by omega) (by omega))
    · refine lv_iload hx hb d_mo_free_21 (lv_at hl 4 rfl) ?_
      refine lv_iload_n hx hb d_mo_free_23 rfl (lv_at hl 3 rfl) ?_
      refine lv_iload hx hb d_mo_free_24 (lv_at hl 5 rfl) ?_
      refine lv_ishr hx hb d_mo_free_26 ?_
      refine lv_iconst (v := 1) hx hb d_mo_free_27 (by decide) ?_
      refine lv_iand hx hb d_mo_free_28 ?_
      rw [bit_n S hS16 k (by omega)]
      refine lv_iadd hx hb d_mo_free_29 ?_
      refine lv_istore (lv' := [(4, .int ((nI t) + (nI (bitN S k)))), (0, .ref m0), (1, .int (nI q)), (2, .int (nI n)), (3, .int (nI S)), (5, .int (nI k))]) hx hb d_mo_free_30 hl (by decide) rfl (fun ls hl => ?_)
      refine lv_iinc (v := (nI k) + 1) (lv' := [(5, .int ((nI k) + 1)), (4, .int ((nI t) + (nI (bitN S k)))), (0, .ref m0), (1, .int (nI q)), (2, .int (nI n)), (3, .int (nI S))]) hx hb d_mo_free_32 hl (k := 5) rfl rfl (by decide) rfl (fun ls hl => ?_)
      refine lv_goto (tgt := 15) hx hb d_mo_free_35 (by decide) ?_
      exact ih (k + 1) (t + bitN S k) (by omega) hk ls (by have h9 := lv_sub hl [2, 3, 4, 5, 1, 0] rfl; rw [nI_1, nI_add] at h9; exact h9)
set_option maxHeartbeats 4000000 in
theorem lp_mo_fiR {p : Program} {l : Launch} {e : Env} {R : Room} {s : State} {m : MethodId} {args : Array Value} {below : List Frame} {meth : Method} {c : Code} {dC : Nat → ClassId} {dI : Nat → Nat → Nat} {A : Nat → Prop} {Q : State → Prop} {m0 : Nat} {me : Nat} {msq : Nat} {th : Int32} {mk : Int32} {mv : Int32} {mu : Nat} {md : Nat} {up : Int64} {dn : Int64} {mr : Int32} {mc : Nat} {so : Int32} {mau : Nat} {mad : Nat} {mw : Int32} {mwg : Nat} {mgv : Nat} {cme : ClassId} {ge : Nat → Int32} {cms : ClassId} {q : Nat} {n : Nat} (hx : p.tables.exec = Jvm.exec) (hb : c.code = b_mo_free) (hml : c.maxLocals = 8) (hown : s.vm.findClass R_mo = some m.cls) (hT : ∀ w ∈ kt_T, w.before args s = true) (hA : ∀ q : Nat, s.heap.size ≤ q → A q) (hK : va_K (dC, dI) classes [(cme, .int), (cms, .long)] s) {S k a : Nat} (hn : n ≤ 4) (hq : q ≤ 4) (hS16 : S < 16) (hk4 : k < 4) (ha4 : a < 4) (hbit : bitN S k = 1) :
    ∀ (d r : Nat) (f : Nat → Int64), r + d = q → (∀ (H : Heap) (locs : List Loc) (ls : Array Slot), va_P (dC, dI) classes [(m0, .inr (4, [.int th, .int mk, .int mv, .ref mu, .ref md, .long up, .long dn, .int mr, .ref mc, .ref me, .int so, .ref mau, .ref mad, .int mw, .ref mwg, .ref mgv, .ref msq])), (me, .inl (cme, 20, .inl ge)), (msq, .inl (cms, 16, .inr (.inl (fiR ge k a d r f))))] H → va_D A [(m0, .inr (4, [.int th, .int mk, .int mv, .ref mu, .ref md, .long up, .long dn, .int mr, .ref mc, .ref me, .int so, .ref mau, .ref mad, .int mw, .ref mwg, .ref mgv, .ref msq])), (me, .inl (cme, 20, .inl ge)), (msq, .inl (cms, 16, .inr (.inl (fiR ge k a d r f))))] → va_S A s.heap H locs → lv_has ls 8 [(0, .ref m0), (1, .int (nI q)), (2, .int (nI n)), (3, .int (nI S)), (5, .int (nI a)), (6, .int (nI k))] → W p l e R s m args below meth c H locs 0 0 Q (F0 m 106 ls [])) → ∀ (H : Heap) (locs : List Loc) (ls : Array Slot), va_P (dC, dI) classes [(m0, .inr (4, [.int th, .int mk, .int mv, .ref mu, .ref md, .long up, .long dn, .int mr, .ref mc, .ref me, .int so, .ref mau, .ref mad, .int mw, .ref mwg, .ref mgv, .ref msq])), (me, .inl (cme, 20, .inl ge)), (msq, .inl (cms, 16, .inr (.inl f)))] H → va_D A [(m0, .inr (4, [.int th, .int mk, .int mv, .ref mu, .ref md, .long up, .long dn, .int mr, .ref mc, .ref me, .int so, .ref mau, .ref mad, .int mw, .ref mwg, .ref mgv, .ref msq])), (me, .inl (cme, 20, .inl ge)), (msq, .inl (cms, 16, .inr (.inl f)))] → va_S A s.heap H locs → lv_has ls 8 [(0, .ref m0), (1, .int (nI q)), (2, .int (nI n)), (3, .int (nI S)), (5, .int (nI a)), (6, .int (nI k)), (7, .int (nI r))] → W p l e R s m args below meth c H locs 0 0 Q (F0 m 59 ls []) := by
  intro d
  induction d with
  | zero =>
    intro r f hk1 hk H locs ls hP hD hS hl
    refine lv_iload hx hb d_mo_free_59 (lv_at hl 6 rfl) ?_
    refine lv_iload_n hx hb d_mo_free_61 rfl (lv_at hl 1 rfl) ?_
    refine lv_icmp_ge (tgt := 106) hx hb d_mo_free_62 (by decide) (fun c_3 => ?_) (fun c_3 => ?_)
    · exact hk H locs ls hP hD hS (lv_sub hl [0, 1, 2, 3, 4, 5] rfl)
    · exact absurd (nI_le (show q ≤ r by omega) (by omega)) c_3
  | succ d ih =>
    intro r f hk1 hk H locs ls hP hD hS hl
    refine lv_iload hx hb d_mo_free_59 (lv_at hl 6 rfl) ?_
    refine lv_iload_n hx hb d_mo_free_61 rfl (lv_at hl 1 rfl) ?_
    refine lv_icmp_ge (tgt := 106) hx hb d_mo_free_62 (by decide) (fun c_4 => ?_) (fun c_4 => ?_)
    · exact absurd c_4 (nI_ge (show r < q by omega) (by omega))
    · refine lv_iload_n hx hb d_mo_free_65 rfl (lv_at hl 3 rfl) ?_
      refine lv_iload hx hb d_mo_free_66 (lv_at hl 5 rfl) ?_
      refine lv_ishr hx hb d_mo_free_68 ?_
      refine lv_iconst (v := 1) hx hb d_mo_free_69 (by decide) ?_
      refine lv_iand hx hb d_mo_free_70 ?_
      rw [bit_n S hS16 k (by omega)]
      refine lv_iconst (v := 1) hx hb d_mo_free_71 (by decide) ?_
      refine lv_icmp_ne (tgt := 106) hx hb d_mo_free_72 (by decide) (fun c_5 => ?_) (fun c_5 => ?_)
      · exact absurd (by rw [hbit]; rfl) c_5
      · refine lv_aload_n hx hb d_mo_free_75 rfl (lv_at hl 0 rfl) ?_
        refine va_get (D := (dC, dI)) (ci := 4) (v := .ref msq) (C := R_mo) (T := F_mo) (N := 17) hx hb hT i_mo hown hK hP 0 rfl rfl 16 (by decide) (hT _ k_172) (fun _ h9 => h9) rfl d_mo_free_76 ?_
        refine lv_iconst (v := 4) hx hb d_mo_free_79 (by decide) ?_
        refine lv_iload hx hb d_mo_free_80 (lv_at hl 6 rfl) ?_
        refine lv_imul hx hb d_mo_free_82 ?_
        refine lv_iload hx hb d_mo_free_83 (lv_at hl 4 rfl) ?_
        refine lv_iadd hx hb d_mo_free_85 ?_
        refine lv_aload_n hx hb d_mo_free_86 rfl (lv_at hl 0 rfl) ?_
        refine va_get (D := (dC, dI)) (ci := 4) (v := .ref me) (C := R_mo) (T := F_mo) (N := 17) hx hb hT i_mo hown hK hP 0 rfl rfl 9 (by decide) (hT _ k_162) (fun _ h9 => h9) rfl d_mo_free_87 ?_
        refine lv_iconst (v := 5) hx hb d_mo_free_90 (by decide) ?_
        refine lv_iload hx hb d_mo_free_91 (lv_at hl 6 rfl) ?_
        refine lv_imul hx hb d_mo_free_93 ?_
        refine lv_iload hx hb d_mo_free_94 (lv_at hl 5 rfl) ?_
        refine lv_iadd hx hb d_mo_free_96 ?_
        rw [ix5, ix4]
        refine va_ialdN (i := (5 * r + k)) hx hb hK hP 1 0 rfl rfl ⟨by omega, by decide⟩ d_mo_free_97 ?_
        refine lv_i2l (v := (ge (5 * r + k)).toInt64) hx hb d_mo_free_98 rfl ?_
        refine va_lastN (i := (4 * r + a)) hx hb hK hP hD hS 2 1 rfl rfl ⟨by omega, by decide⟩ d_mo_free_99 (fun H locs hP hD hS => ?_)
        have hP : va_P (dC, dI) classes [(m0, .inr (4, [.int th, .int mk, .int mv, .ref mu, .ref md, .long up, .long dn, .int mr, .ref mc, .ref me, .int so, .ref mau, .ref mad, .int mw, .ref mwg, .ref mgv, .ref msq])), (me, .inl (cme, 20, .inl ge)), (msq, .inl (cms, 16, .inr (.inl (vp_updL f (4 * r + a) ((ge (5 * r + k)).toInt64)))))] H := hP
        have hD : va_D A [(m0, .inr (4, [.int th, .int mk, .int mv, .ref mu, .ref md, .long up, .long dn, .int mr, .ref mc, .ref me, .int so, .ref mau, .ref mad, .int mw, .ref mwg, .ref mgv, .ref msq])), (me, .inl (cme, 20, .inl ge)), (msq, .inl (cms, 16, .inr (.inl (vp_updL f (4 * r + a) ((ge (5 * r + k)).toInt64)))))] := hD
        refine lv_iinc (v := (nI r) + 1) (lv' := [(7, .int ((nI r) + 1)), (0, .ref m0), (1, .int (nI q)), (2, .int (nI n)), (3, .int (nI S)), (5, .int (nI a)), (6, .int (nI k))]) hx hb d_mo_free_100 hl (k := 6) rfl rfl (by decide) rfl (fun ls hl => ?_)
        refine lv_goto (tgt := 59) hx hb d_mo_free_103 (by decide) ?_
        exact ih (r + 1) _ (by omega) hk H locs ls hP hD hS (by have h9 := lv_sub hl [1, 2, 3, 4, 5, 6, 0] rfl; rw [nI_1] at h9; exact h9)
set_option maxHeartbeats 4000000 in
theorem lp_mo_fiL {p : Program} {l : Launch} {e : Env} {R : Room} {s : State} {m : MethodId} {args : Array Value} {below : List Frame} {meth : Method} {c : Code} {dC : Nat → ClassId} {dI : Nat → Nat → Nat} {A : Nat → Prop} {Q : State → Prop} {m0 : Nat} {me : Nat} {msq : Nat} {th : Int32} {mk : Int32} {mv : Int32} {mu : Nat} {md : Nat} {up : Int64} {dn : Int64} {mr : Int32} {mc : Nat} {so : Int32} {mau : Nat} {mad : Nat} {mw : Int32} {mwg : Nat} {mgv : Nat} {cme : ClassId} {ge : Nat → Int32} {cms : ClassId} {q : Nat} {n : Nat} (hx : p.tables.exec = Jvm.exec) (hb : c.code = b_mo_free) (hml : c.maxLocals = 8) (hown : s.vm.findClass R_mo = some m.cls) (hT : ∀ w ∈ kt_T, w.before args s = true) (hA : ∀ q : Nat, s.heap.size ≤ q → A q) (hK : va_K (dC, dI) classes [(cme, .int), (cms, .long)] s) {S : Nat} (hn : n ≤ 4) (hq : q ≤ 4) (hq1 : 1 ≤ q) (hS16 : S < 16) :
    ∀ (d k a : Nat) (f : Nat → Int64), k + d = n → a ≤ k → (∀ (H : Heap) (locs : List Loc) (ls : Array Slot), va_P (dC, dI) classes [(m0, .inr (4, [.int th, .int mk, .int mv, .ref mu, .ref md, .long up, .long dn, .int mr, .ref mc, .ref me, .int so, .ref mau, .ref mad, .int mw, .ref mwg, .ref mgv, .ref msq])), (me, .inl (cme, 20, .inl ge)), (msq, .inl (cms, 16, .inr (.inl (fiL ge S q d k a f))))] H → va_D A [(m0, .inr (4, [.int th, .int mk, .int mv, .ref mu, .ref md, .long up, .long dn, .int mr, .ref mc, .ref me, .int so, .ref mau, .ref mad, .int mw, .ref mwg, .ref mgv, .ref msq])), (me, .inl (cme, 20, .inl ge)), (msq, .inl (cms, 16, .inr (.inl (fiL ge S q d k a f))))] → va_S A s.heap H locs → lv_has ls 8 [(0, .ref m0), (1, .int (nI q)), (2, .int (nI n)), (3, .int (nI S))] → W p l e R s m args below meth c H locs 0 0 Q (F0 m 123 ls [])) → ∀ (H : Heap) (locs : List Loc) (ls : Array Slot), va_P (dC, dI) classes [(m0, .inr (4, [.int th, .int mk, .int mv, .ref mu, .ref md, .long up, .long dn, .int mr, .ref mc, .ref me, .int so, .ref mau, .ref mad, .int mw, .ref mwg, .ref mgv, .ref msq])), (me, .inl (cme, 20, .inl ge)), (msq, .inl (cms, 16, .inr (.inl f)))] H → va_D A [(m0, .inr (4, [.int th, .int mk, .int mv, .ref mu, .ref md, .long up, .long dn, .int mr, .ref mc, .ref me, .int so, .ref mau, .ref mad, .int mw, .ref mwg, .ref mgv, .ref msq])), (me, .inl (cme, 20, .inl ge)), (msq, .inl (cms, 16, .inr (.inl f)))] → va_S A s.heap H locs → lv_has ls 8 [(0, .ref m0), (1, .int (nI q)), (2, .int (nI n)), (3, .int (nI S)), (5, .int (nI a)), (6, .int (nI k))] → W p l e R s m args below meth c H locs 0 0 Q (F0 m 50 ls []) := by
  intro d
  induction d with
  | zero =>
    intro k a f hk1 hak hk H locs ls hP hD hS hl
    refine lv_iload hx hb d_mo_free_50 (lv_at hl 5 rfl) ?_
    refine lv_iload_n hx hb d_mo_free_52 rfl (lv_at hl 2 rfl) ?_
    refine lv_icmp_ge (tgt := 123) hx hb d_mo_free_53 (by decide) (fun c_6 => ?_) (fun c_6 => ?_)
    · exact hk H locs ls hP hD hS (lv_sub hl [0, 1, 2, 3] rfl)
    · exact absurd (nI_le (show n ≤ k by omega) (by omega)) c_6
  | succ d ih =>
    intro k a f hk1 hak hk H locs ls hP hD hS hl
    have hb1 := bitN_le S k
    refine lv_iload hx hb d_mo_free_50 (lv_at hl 5 rfl) ?_
    refine lv_iload_n hx hb d_mo_free_52 rfl (lv_at hl 2 rfl) ?_
    refine lv_icmp_ge (tgt := 123) hx hb d_mo_free_53 (by decide) (fun c_7 => ?_) (fun c_7 => ?_)
    · exact absurd c_7 (nI_ge (show k < n by omega) (by omega))
    · refine lv_iconst (v := 0) hx hb d_mo_free_56 (by decide) ?_
      refine lv_istore (lv' := [(7, .int 0), (0, .ref m0), (1, .int (nI q)), (2, .int (nI n)), (3, .int (nI S)), (5, .int (nI a)), (6, .int (nI k))]) hx hb d_mo_free_57 hl (by decide) rfl (fun ls hl => ?_)
      by_cases hbit : bitN S k = 1
      · refine lp_mo_fiR hx hb hml hown hT hA hK hn hq hS16 (show k < 4 by omega) (show a < 4 by omega) hbit q 0 f (Nat.zero_add _) (fun H locs ls hP hD hS hl => ?_) H locs ls hP hD hS (lv_sub hl [1, 2, 3, 4, 5, 6, 0] rfl)
        refine lv_iload hx hb d_mo_free_106 (lv_at hl 4 rfl) ?_
        refine lv_iload_n hx hb d_mo_free_108 rfl (lv_at hl 3 rfl) ?_
        refine lv_iload hx hb d_mo_free_109 (lv_at hl 5 rfl) ?_
        refine lv_ishr hx hb d_mo_free_111 ?_
        refine lv_iconst (v := 1) hx hb d_mo_free_112 (by decide) ?_
        refine lv_iand hx hb d_mo_free_113 ?_
        rw [bit_n S hS16 k (by omega)]
        refine lv_iadd hx hb d_mo_free_114 ?_
        refine lv_istore (lv' := [(5, .int ((nI a) + (nI (bitN S k)))), (0, .ref m0), (1, .int (nI q)), (2, .int (nI n)), (3, .int (nI S)), (6, .int (nI k))]) hx hb d_mo_free_115 hl (by decide) rfl (fun ls hl => ?_)
        refine lv_iinc (v := (nI k) + 1) (lv' := [(6, .int ((nI k) + 1)), (5, .int ((nI a) + (nI (bitN S k)))), (0, .ref m0), (1, .int (nI q)), (2, .int (nI n)), (3, .int (nI S))]) hx hb d_mo_free_117 hl (k := 5) rfl rfl (by decide) rfl (fun ls hl => ?_)
        refine lv_goto (tgt := 50) hx hb d_mo_free_120 (by decide) ?_
        exact ih (k + 1) (a + bitN S k) _ (by omega) (by omega) (by rw [fiL, if_pos hbit] at hk; exact hk) H locs ls hP hD hS (by have h9 := lv_sub hl [2, 3, 4, 5, 1, 0] rfl; rw [nI_1, nI_add] at h9; exact h9)
      · refine lv_iload hx hb d_mo_free_59 (lv_at hl 0 rfl) ?_
        refine lv_iload_n hx hb d_mo_free_61 rfl (lv_at hl 2 rfl) ?_
        refine lv_icmp_ge (tgt := 106) hx hb d_mo_free_62 (by decide) (fun c_8 => ?_) (fun c_8 => ?_)
        · exact absurd c_8 (nI_ge (show 0 < q by omega) (by omega))
        · refine lv_iload_n hx hb d_mo_free_65 rfl (lv_at hl 4 rfl) ?_
          refine lv_iload hx hb d_mo_free_66 (lv_at hl 6 rfl) ?_
          refine lv_ishr hx hb d_mo_free_68 ?_
          refine lv_iconst (v := 1) hx hb d_mo_free_69 (by decide) ?_
          refine lv_iand hx hb d_mo_free_70 ?_
          rw [bit_n S hS16 k (by omega)]
          refine lv_iconst (v := 1) hx hb d_mo_free_71 (by decide) ?_
          refine lv_icmp_ne (tgt := 106) hx hb d_mo_free_72 (by decide) (fun c_9 => ?_) (fun c_9 => ?_)
          · refine lv_iload hx hb d_mo_free_106 (lv_at hl 5 rfl) ?_
            refine lv_iload_n hx hb d_mo_free_108 rfl (lv_at hl 4 rfl) ?_
            refine lv_iload hx hb d_mo_free_109 (lv_at hl 6 rfl) ?_
            refine lv_ishr hx hb d_mo_free_111 ?_
            refine lv_iconst (v := 1) hx hb d_mo_free_112 (by decide) ?_
            refine lv_iand hx hb d_mo_free_113 ?_
            rw [bit_n S hS16 k (by omega)]
            refine lv_iadd hx hb d_mo_free_114 ?_
            refine lv_istore (lv' := [(5, .int ((nI a) + (nI (bitN S k)))), (7, .int 0), (0, .ref m0), (1, .int (nI q)), (2, .int (nI n)), (3, .int (nI S)), (6, .int (nI k))]) hx hb d_mo_free_115 hl (by decide) rfl (fun ls hl => ?_)
            refine lv_iinc (v := (nI k) + 1) (lv' := [(6, .int ((nI k) + 1)), (5, .int ((nI a) + (nI (bitN S k)))), (7, .int 0), (0, .ref m0), (1, .int (nI q)), (2, .int (nI n)), (3, .int (nI S))]) hx hb d_mo_free_117 hl (k := 6) rfl rfl (by decide) rfl (fun ls hl => ?_)
            refine lv_goto (tgt := 50) hx hb d_mo_free_120 (by decide) ?_
            exact ih (k + 1) (a + bitN S k) _ (by omega) (by omega) (by rw [fiL, if_neg hbit] at hk; exact hk) H locs ls hP hD hS (by have h9 := lv_sub hl [3, 4, 5, 6, 1, 0] rfl; rw [nI_1, nI_add] at h9; exact h9)
          · exact absurd ((nI_eq (by omega) (by decide)).mp c_9) hbit
set_option maxHeartbeats 4000000 in
theorem lp_mo_fr {p : Program} {l : Launch} {e : Env} {R : Room} {s : State} {m : MethodId} {args : Array Value} {below : List Frame} {meth : Method} {c : Code} {dC : Nat → ClassId} {dI : Nat → Nat → Nat} {A : Nat → Prop} {Q : State → Prop} {m0 : Nat} {me : Nat} {msq : Nat} {th : Int32} {mk : Int32} {mv : Int32} {mu : Nat} {md : Nat} {up : Int64} {dn : Int64} {mr : Int32} {mc : Nat} {so : Int32} {mau : Nat} {mad : Nat} {mw : Int32} {mwg : Nat} {mgv : Nat} {cme : ClassId} {ge : Nat → Int32} {cms : ClassId} {q : Nat} {n : Nat} (hx : p.tables.exec = Jvm.exec) (hb : c.code = b_mo_free) (hml : c.maxLocals = 8) (hown : s.vm.findClass R_mo = some m.cls) (hT : ∀ w ∈ kt_T, w.before args s = true) (hA : ∀ q : Nat, s.heap.size ≤ q → A q) (hK : va_K (dC, dI) classes [(cme, .int), (cms, .long)] s) (hRf : 1 ≤ R.frames) (hRl : 33 ≤ R.locals) (hn : n ≤ 4) (hq : q ≤ 4) (hq1 : 1 ≤ q) (hp2 : 2 ^ n ≤ 16) :
    ∀ (d S : Nat) (f : Nat → Int64), S + d = 2 ^ n → (∀ (F : Nat → Int64), frL ge q n d S f = (1, F) → ∀ (H : Heap) (locs : List Loc) (ls : Array Slot), va_P (dC, dI) classes [(m0, .inr (4, [.int th, .int mk, .int mv, .ref mu, .ref md, .long up, .long dn, .int mr, .ref mc, .ref me, .int so, .ref mau, .ref mad, .int mw, .ref mwg, .ref mgv, .ref msq])), (me, .inl (cme, 20, .inl ge)), (msq, .inl (cms, 16, .inr (.inl F)))] H → va_D A [(m0, .inr (4, [.int th, .int mk, .int mv, .ref mu, .ref md, .long up, .long dn, .int mr, .ref mc, .ref me, .int so, .ref mau, .ref mad, .int mw, .ref mwg, .ref mgv, .ref msq])), (me, .inl (cme, 20, .inl ge)), (msq, .inl (cms, 16, .inr (.inl F)))] → va_S A s.heap H locs → ls.size = 8 → W p l e R s m args below meth c H locs 0 0 Q (F0 m 133 ls [])) → (∀ (F : Nat → Int64), frL ge q n d S f = (0, F) → ∀ (H : Heap) (locs : List Loc) (ls : Array Slot), va_P (dC, dI) classes [(m0, .inr (4, [.int th, .int mk, .int mv, .ref mu, .ref md, .long up, .long dn, .int mr, .ref mc, .ref me, .int so, .ref mau, .ref mad, .int mw, .ref mwg, .ref mgv, .ref msq])), (me, .inl (cme, 20, .inl ge)), (msq, .inl (cms, 16, .inr (.inl F)))] H → va_D A [(m0, .inr (4, [.int th, .int mk, .int mv, .ref mu, .ref md, .long up, .long dn, .int mr, .ref mc, .ref me, .int so, .ref mau, .ref mad, .int mw, .ref mwg, .ref mgv, .ref msq])), (me, .inl (cme, 20, .inl ge)), (msq, .inl (cms, 16, .inr (.inl F)))] → va_S A s.heap H locs → ls.size = 8 → W p l e R s m args below meth c H locs 0 0 Q (F0 m 141 ls [])) → ∀ (H : Heap) (locs : List Loc) (ls : Array Slot), va_P (dC, dI) classes [(m0, .inr (4, [.int th, .int mk, .int mv, .ref mu, .ref md, .long up, .long dn, .int mr, .ref mc, .ref me, .int so, .ref mau, .ref mad, .int mw, .ref mwg, .ref mgv, .ref msq])), (me, .inl (cme, 20, .inl ge)), (msq, .inl (cms, 16, .inr (.inl f)))] H → va_D A [(m0, .inr (4, [.int th, .int mk, .int mv, .ref mu, .ref md, .long up, .long dn, .int mr, .ref mc, .ref me, .int so, .ref mau, .ref mad, .int mw, .ref mwg, .ref mgv, .ref msq])), (me, .inl (cme, 20, .inl ge)), (msq, .inl (cms, 16, .inr (.inl f)))] → va_S A s.heap H locs → lv_has ls 8 [(0, .ref m0), (1, .int (nI q)), (2, .int (nI n)), (3, .int (nI S))] → W p l e R s m args below meth c H locs 0 0 Q (F0 m 2 ls []) := by
  intro d
  induction d with
  | zero =>
    intro S f hk1 hk hk0 H locs ls hP hD hS hl
    refine lv_iload_n hx hb d_mo_free_2 rfl (lv_at hl 3 rfl) ?_
    refine lv_iconst (v := 1) hx hb d_mo_free_3 (by decide) ?_
    refine lv_iload_n hx hb d_mo_free_4 rfl (lv_at hl 2 rfl) ?_
    refine lv_ishl hx hb d_mo_free_5 ?_
    rw [shl_n n (by omega)]
    refine lv_icmp_ge (tgt := 141) hx hb d_mo_free_6 (by decide) (fun c_10 => ?_) (fun c_10 => ?_)
    · exact hk0 f rfl H locs ls hP hD hS hl.1
    · exact absurd (nI_le (show 2 ^ n ≤ S by omega) (by omega)) c_10
  | succ d ih =>
    intro S f hk1 hk hk0 H locs ls hP hD hS hl
    have hS16 : S < 16 := by omega
    refine lv_iload_n hx hb d_mo_free_2 rfl (lv_at hl 3 rfl) ?_
    refine lv_iconst (v := 1) hx hb d_mo_free_3 (by decide) ?_
    refine lv_iload_n hx hb d_mo_free_4 rfl (lv_at hl 2 rfl) ?_
    refine lv_ishl hx hb d_mo_free_5 ?_
    rw [shl_n n (by omega)]
    refine lv_icmp_ge (tgt := 141) hx hb d_mo_free_6 (by decide) (fun c_11 => ?_) (fun c_11 => ?_)
    · exact absurd c_11 (nI_ge (show S < 2 ^ n by omega) (by omega))
    · refine lv_iconst (v := 0) hx hb d_mo_free_9 (by decide) ?_
      refine lv_istore (lv' := [(4, .int 0), (0, .ref m0), (1, .int (nI q)), (2, .int (nI n)), (3, .int (nI S))]) hx hb d_mo_free_10 hl (by decide) rfl (fun ls hl => ?_)
      refine lv_iconst (v := 0) hx hb d_mo_free_12 (by decide) ?_
      refine lv_istore (lv' := [(5, .int 0), (4, .int 0), (0, .ref m0), (1, .int (nI q)), (2, .int (nI n)), (3, .int (nI S))]) hx hb d_mo_free_13 hl (by decide) rfl (fun ls hl => ?_)
      refine lp_mo_cl hx hb hn hS16 n 0 0 (Nat.zero_add _) (fun ls hl => ?_) ls (lv_sub hl [2, 3, 4, 5, 1, 0] rfl)
      refine lv_iload hx hb d_mo_free_38 (lv_at hl 4 rfl) ?_
      refine lv_iload_n hx hb d_mo_free_40 rfl (lv_at hl 1 rfl) ?_
      refine lv_icmp_ne (tgt := 135) hx hb d_mo_free_41 (by decide) (fun c_12 => ?_) (fun c_12 => ?_)
      · refine lv_iinc (v := (nI S) + 1) (lv' := [(3, .int ((nI S) + 1)), (0, .ref m0), (1, .int (nI q)), (2, .int (nI n)), (4, .int (nI (clL S n 0 0)))]) hx hb d_mo_free_135 hl (k := 3) rfl rfl (by decide) rfl (fun ls hl => ?_)
        refine lv_goto (tgt := 2) hx hb d_mo_free_138 (by decide) ?_
        exact ih (S + 1) _ (by omega) (by rw [frL, if_neg (fun h9 : clL S n 0 0 = q => c_12 (congrArg nI h9))] at hk; exact hk) (by rw [frL, if_neg (fun h9 : clL S n 0 0 = q => c_12 (congrArg nI h9))] at hk0; exact hk0) H locs ls hP hD hS (by have h9 := lv_sub hl [1, 2, 3, 0] rfl; rw [nI_1] at h9; exact h9)
      · refine lv_iconst (v := 0) hx hb d_mo_free_44 (by decide) ?_
        refine lv_istore (lv' := [(5, .int 0), (0, .ref m0), (1, .int (nI q)), (2, .int (nI n)), (3, .int (nI S)), (4, .int (nI (clL S n 0 0)))]) hx hb d_mo_free_45 hl (by decide) rfl (fun ls hl => ?_)
        refine lv_iconst (v := 0) hx hb d_mo_free_47 (by decide) ?_
        refine lv_istore (lv' := [(6, .int 0), (5, .int 0), (0, .ref m0), (1, .int (nI q)), (2, .int (nI n)), (3, .int (nI S)), (4, .int (nI (clL S n 0 0)))]) hx hb d_mo_free_48 hl (by decide) rfl (fun ls hl => ?_)
        refine lp_mo_fiL hx hb hml hown hT hA hK hn hq hq1 hS16 n 0 0 f (Nat.zero_add _) (Nat.le_refl _) (fun H locs ls hP hD hS hl => ?_) H locs ls hP hD hS (lv_sub hl [2, 3, 4, 5, 1, 0] rfl)
        refine lv_aload_n hx hb d_mo_free_123 rfl (lv_at hl 0 rfl) ?_
        refine lv_iload_n hx hb d_mo_free_124 rfl (lv_at hl 1 rfl) ?_
        have hPc := hP.sub (ws' := [(m0, .inr (4, [.int th, .int mk, .int mv, .ref mu, .ref md, .long up, .long dn, .int mr, .ref mc, .ref me, .int so, .ref mau, .ref mad, .int mw, .ref mwg, .ref mgv, .ref msq])), (msq, .inl (cms, 16, .inr (.inl (fiL ge S q n 0 0 f))))]) [0, 2] rfl
        have hKc := hK.sub (tys' := [(cms, .long)]) [1] rfl
        refine vp_callSl (W.runV (As := [.int (nI q)]) (rest := []) ⟨hx, hb, hml, hown, hT⟩ (c_mo_det l dC dI m0 msq th mk mv mu md up dn mr mc me so mau mad mw mwg mgv cms (fiL ge S q n 0 0 f) q hq hq1) (cwV 1 hT (kt_V k_176 k_174 k_175 k_136 k_173) rfl rfl rfl (by decide +kernel) ⟨Nat.le_trans (Nat.le_of_ble_eq_true rfl) hRf, Nat.le_trans (Nat.le_of_ble_eq_true rfl) hRl⟩) ⟨bl_R, va_recv hKc hPc (ci := 4) (q0 := 0) rfl rfl, fun U hU hW => ⟨rfl, by rw [hU]; exact hPc, va_K.moved hW.alike hKc⟩⟩ rfl rfl hl.1 rfl (lv_room (Nat.le_of_ble_eq_true rfl)) d_mo_free_125 ⟨Nat.zero_le _, Nat.zero_le _⟩) (fun r_13 e_r_13 => ?_)
        subst e_r_13
        refine lv_lconst (v := 0) hx hb d_mo_free_128 (by decide) ?_
        refine lx_ifeq (tgt := 135) hx hb d_mo_free_129 d_mo_free_130 (by decide) (fun c_14 => ?_) (fun c_14 => ?_)
        · refine lv_iinc (v := (nI S) + 1) (lv' := [(3, .int ((nI S) + 1)), (0, .ref m0), (1, .int (nI q)), (2, .int (nI n))]) hx hb d_mo_free_135 hl (k := 3) rfl rfl (by decide) rfl (fun ls hl => ?_)
          refine lv_goto (tgt := 2) hx hb d_mo_free_138 (by decide) ?_
          exact ih (S + 1) _ (by omega) (by rw [frL, if_pos (show clL S n 0 0 = q from (nI_eq (by have := clL_le S n 0 0; omega) (by omega)).mp c_12), if_pos c_14] at hk; exact hk) (by rw [frL, if_pos (show clL S n 0 0 = q from (nI_eq (by have := clL_le S n 0 0; omega) (by omega)).mp c_12), if_pos c_14] at hk0; exact hk0) H locs ls hP hD hS (by have h9 := lv_sub hl [1, 2, 3, 0] rfl; rw [nI_1] at h9; exact h9)
        · exact hk _ (by rw [frL, if_pos (show clL S n 0 0 = q from (nI_eq (by have := clL_le S n 0 0; omega) (by omega)).mp c_12), if_neg c_14]) H locs ls hP hD hS hl.1
def f_mo_free (ge : Nat → Int32) (gs : Nat → Int64) (q : Nat) (n : Nat) : Int32 × (Nat → Int64) :=
  (frL ge q n (2 ^ n) 0 gs)
set_option maxHeartbeats 4000000 in
set_option maxRecDepth 100000 in
theorem c_mo_free (l : Launch) (dC : Nat → ClassId) (dI : Nat → Nat → Nat) (sz : Nat) (m0 : Nat) (me : Nat) (msq : Nat) (th : Int32) (mk : Int32) (mv : Int32) (mu : Nat) (md : Nat) (up : Int64) (dn : Int64) (mr : Int32) (mc : Nat) (so : Int32) (mau : Nat) (mad : Nat) (mw : Int32) (mwg : Nat) (mgv : Nat) (cme : ClassId) (ge : Nat → Int32) (cms : ClassId) (gs : Nat → Int64) (q : Nat) (n : Nat) (hq : q ≤ 4) (hq1 : 1 ≤ q) (hn : n ≤ 4) : Met l y_mo_free w_mo_free ({ frames := 1, cells := 0, slots := 0, locals := 33 }) (va_Pc [.ref m0, .int (nI q), .int (nI n)] (fun U => U.heap.size = sz ∧ va_P (dC, dI) classes [(m0, .inr (4, [.int th, .int mk, .int mv, .ref mu, .ref md, .long up, .long dn, .int mr, .ref mc, .ref me, .int so, .ref mau, .ref mad, .int mw, .ref mwg, .ref mgv, .ref msq])), (me, .inl (cme, 20, .inl ge)), (msq, .inl (cms, 16, .inr (.inl gs)))] U.heap ∧ va_K (dC, dI) classes [(cme, .int), (cms, .long)] U ∧ va_D (fun _ => True) [(m0, .inr (4, [.int th, .int mk, .int mv, .ref mu, .ref md, .long up, .long dn, .int mr, .ref mc, .ref me, .int so, .ref mau, .ref mad, .int mw, .ref mwg, .ref mgv, .ref msq])), (me, .inl (cme, 20, .inl ge)), (msq, .inl (cms, 16, .inr (.inl gs)))])) (va_Qi (fun z9 u9 => (z9, u9) = f_mo_free ge gs q n) (fun (u : (Nat → Int64)) t => match u with | gs' => va_P (dC, dI) classes [(m0, .inr (4, [.int th, .int mk, .int mv, .ref mu, .ref md, .long up, .long dn, .int mr, .ref mc, .ref me, .int so, .ref mau, .ref mad, .int mw, .ref mwg, .ref mgv, .ref msq])), (me, .inl (cme, 20, .inl ge)), (msq, .inl (cms, 16, .inr (.inl gs')))] t.heap ∧ va_K (dC, dI) classes [(cme, .int), (cms, .long)] t ∧ va_D (va_A [(m0, .inr (4, [.int th, .int mk, .int mv, .ref mu, .ref md, .long up, .long dn, .int mr, .ref mc, .ref me, .int so, .ref mau, .ref mad, .int mw, .ref mwg, .ref mgv, .ref msq])), (me, .inl (cme, 20, .inl ge)), (msq, .inl (cms, 16, .inr (.inl gs)))] sz) [(m0, .inr (4, [.int th, .int mk, .int mv, .ref mu, .ref md, .long up, .long dn, .int mr, .ref mc, .ref me, .int so, .ref mau, .ref mad, .int mw, .ref mwg, .ref mgv, .ref msq])), (me, .inl (cme, 20, .inl ge)), (msq, .inl (cms, 16, .inr (.inl gs')))]) (va_A [(m0, .inr (4, [.int th, .int mk, .int mv, .ref mu, .ref md, .long up, .long dn, .int mr, .ref mc, .ref me, .int so, .ref mau, .ref mad, .int mw, .ref mwg, .ref mgv, .ref msq])), (me, .inl (cme, 20, .inl ge)), (msq, .inl (cms, 16, .inr (.inl gs)))] sz)) 0 0 (va_A [(m0, .inr (4, [.int th, .int mk, .int mv, .ref mu, .ref md, .long up, .long dn, .int mr, .ref mc, .ref me, .int so, .ref mau, .ref mad, .int mw, .ref mwg, .ref mgv, .ref msq])), (me, .inl (cme, 20, .inl ge)), (msq, .inl (cms, 16, .inr (.inl gs)))] sz) := by
  refine Met.ofW (cc := b_mo_free) (maxL := 8) (ret := (some .boolean)) (by decide +kernel) rfl ?_
  intro p e s m args below meth c s₁ B hml hv
  obtain ⟨rfl, hsz, hP, hK, hD0⟩ := hv
  have hx := B.exec
  have hb := B.bytes
  have hr := B.returns
  have hts := atoms_spec (ws := w_mo_free) B.pre
  have hT := fun (w : Cond) (h : w ∈ kt_T) => hts w (List.mem_cons_of_mem _ h)
  have hown : s.vm.findClass R_mo = some m.cls := findClass_of_methodNamed B.named
  have hlocks := B.notSynchronized
  subst hsz
  have hD := hD0.self (sz := s.heap.size)
  generalize hAe : va_A [(m0, .inr (4, [.int th, .int mk, .int mv, .ref mu, .ref md, .long up, .long dn, .int mr, .ref mc, .ref me, .int so, .ref mau, .ref mad, .int mw, .ref mwg, .ref mgv, .ref msq])), (me, .inl (cme, 20, .inl ge)), (msq, .inl (cms, 16, .inr (.inl gs)))] s.heap.size = A at hD ⊢
  have hA : ∀ q : Nat, s.heap.size ≤ q → A q := fun q h => by rw [← hAe]; exact Or.inr h
  have hS : va_S A s.heap s.heap [] := va_S.rf
  have hl := lv_entry ([.ref m0, .int (nI q), .int (nI n)]) (n := 8) (Nat.le_of_ble_eq_true rfl)
  rw [lg_entry_eq]
  generalize (lg_sl ([.ref m0, .int (nI q), .int (nI n)]) ++ List.replicate (8 - (lg_sl ([.ref m0, .int (nI q), .int (nI n)])).length) Slot.unset).toArray = ls at hl ⊢
  have hl : lv_has ls 8 [(0, .ref m0), (1, .int (nI q)), (2, .int (nI n))] := hl
  refine lv_iconst (v := 0) hx hb d_mo_free_0 (by decide) ?_
  refine lv_istore_n (lv' := [(3, .int 0), (0, .ref m0), (1, .int (nI q)), (2, .int (nI n))]) hx hb d_mo_free_1 rfl hl (by decide) rfl (fun ls hl => ?_)
  refine lp_mo_fr hx hb hml hown hT hA hK (Nat.le_of_ble_eq_true rfl) (Nat.le_of_ble_eq_true rfl) hn hq hq1 (pow2_le n (by omega)) (2 ^ n) 0 gs (Nat.zero_add _) (fun F e9 H locs ls hP hD hS hl => ?_) (fun F e9 H locs ls hP hD hS hl => ?_) s.heap [] ls hP hD hS (lv_sub hl [1, 2, 3, 0] rfl)
  · refine lv_iconst (v := 1) hx hb d_mo_free_133 (by decide) ?_
    exact W.zret (v := 1) hx hb hr rfl (fun t ht hW => ⟨⟨1, F, rfl, by unfold f_mo_free; exact e9.symm, by rw [ht]; exact hP, va_K.moved hW.alike hK, hD⟩, hS.F ht⟩) hS.2.2 d_mo_free_134
  · refine lv_iconst (v := 0) hx hb d_mo_free_141 (by decide) ?_
    exact W.zret (v := 0) hx hb hr rfl (fun t ht hW => ⟨⟨0, F, rfl, by unfold f_mo_free; exact e9.symm, by rw [ht]; exact hP, va_K.moved hW.alike hK, hD⟩, hS.F ht⟩) hS.2.2 d_mo_free_142
