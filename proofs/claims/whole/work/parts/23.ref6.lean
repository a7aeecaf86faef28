abbrev b_mo_solve : ByteArray := prog_6_method_26_code
def y_mo_solve : MethodName := ⟨R_mo, "solve", "(I)I"⟩
def w_mo_solve : List Cond := .code y_mo_solve b_mo_solve 13 (some .int) :: kt_T
theorem d_mo_solve_0 : decode b_mo_solve 0 = .ok (.aload_n 0, 1) := by decide +kernel
theorem d_mo_solve_1 : decode b_mo_solve 1 = .ok (.iconst 0, 1) := by decide +kernel
theorem d_mo_solve_2 : decode b_mo_solve 2 = .ok (.putfield 43, 3) := by decide +kernel
theorem d_mo_solve_5 : decode b_mo_solve 5 = .ok (.iload_n 1, 1) := by decide +kernel
theorem d_mo_solve_6 : decode b_mo_solve 6 = .ok (.iconst 1, 1) := by decide +kernel
theorem d_mo_solve_7 : decode b_mo_solve 7 = .ok (.if_icmp .lt 8, 3) := by decide +kernel
theorem d_mo_solve_10 : decode b_mo_solve 10 = .ok (.iload_n 1, 1) := by decide +kernel
theorem d_mo_solve_11 : decode b_mo_solve 11 = .ok (.iconst 4, 1) := by decide +kernel
theorem d_mo_solve_12 : decode b_mo_solve 12 = .ok (.if_icmp .le 5, 3) := by decide +kernel
theorem d_mo_solve_15 : decode b_mo_solve 15 = .ok (.iconst (-1), 1) := by decide +kernel
theorem d_mo_solve_16 : decode b_mo_solve 16 = .ok (.ireturn, 1) := by decide +kernel
theorem d_mo_solve_17 : decode b_mo_solve 17 = .ok (.iconst 1, 1) := by decide +kernel
theorem d_mo_solve_18 : decode b_mo_solve 18 = .ok (.istore_n 2, 1) := by decide +kernel
theorem d_mo_solve_19 : decode b_mo_solve 19 = .ok (.iload_n 2, 1) := by decide +kernel
theorem d_mo_solve_20 : decode b_mo_solve 20 = .ok (.iload_n 1, 1) := by decide +kernel
theorem d_mo_solve_21 : decode b_mo_solve 21 = .ok (.if_icmp .gt 20, 3) := by decide +kernel
theorem d_mo_solve_24 : decode b_mo_solve 24 = .ok (.aload_n 0, 1) := by decide +kernel
theorem d_mo_solve_25 : decode b_mo_solve 25 = .ok (.iload_n 2, 1) := by decide +kernel
theorem d_mo_solve_26 : decode b_mo_solve 26 = .ok (.iload_n 1, 1) := by decide +kernel
theorem d_mo_solve_27 : decode b_mo_solve 27 = .ok (.invokevirtual 95, 3) := by decide +kernel
theorem d_mo_solve_30 : decode b_mo_solve 30 = .ok (.ifCond .ne 5, 3) := by decide +kernel
theorem d_mo_solve_33 : decode b_mo_solve 33 = .ok (.iload_n 2, 1) := by decide +kernel
theorem d_mo_solve_34 : decode b_mo_solve 34 = .ok (.ireturn, 1) := by decide +kernel
theorem d_mo_solve_35 : decode b_mo_solve 35 = .ok (.iinc 2 1, 3) := by decide +kernel
theorem d_mo_solve_38 : decode b_mo_solve 38 = .ok (.goto (-19), 3) := by decide +kernel
theorem d_mo_solve_41 : decode b_mo_solve 41 = .ok (.aload_n 0, 1) := by decide +kernel
theorem d_mo_solve_42 : decode b_mo_solve 42 = .ok (.iload_n 1, 1) := by decide +kernel
theorem d_mo_solve_43 : decode b_mo_solve 43 = .ok (.iconst (-1), 1) := by decide +kernel
theorem d_mo_solve_44 : decode b_mo_solve 44 = .ok (.invokevirtual 99, 3) := by decide +kernel
theorem d_mo_solve_47 : decode b_mo_solve 47 = .ok (.aload_n 0, 1) := by decide +kernel
theorem d_mo_solve_48 : decode b_mo_solve 48 = .ok (.iload_n 1, 1) := by decide +kernel
theorem d_mo_solve_49 : decode b_mo_solve 49 = .ok (.invokevirtual 91, 3) := by decide +kernel
theorem d_mo_solve_52 : decode b_mo_solve 52 = .ok (.lstore_n 2, 1) := by decide +kernel
theorem d_mo_solve_53 : decode b_mo_solve 53 = .ok (.iconst 0, 1) := by decide +kernel
theorem d_mo_solve_54 : decode b_mo_solve 54 = .ok (.istore 4, 2) := by decide +kernel
theorem d_mo_solve_56 : decode b_mo_solve 56 = .ok (.iload 4, 2) := by decide +kernel
theorem d_mo_solve_58 : decode b_mo_solve 58 = .ok (.iload_n 1, 1) := by decide +kernel
theorem d_mo_solve_59 : decode b_mo_solve 59 = .ok (.if_icmp .ge 97, 3) := by decide +kernel
theorem d_mo_solve_62 : decode b_mo_solve 62 = .ok (.aload_n 0, 1) := by decide +kernel
theorem d_mo_solve_63 : decode b_mo_solve 63 = .ok (.iload_n 1, 1) := by decide +kernel
theorem d_mo_solve_64 : decode b_mo_solve 64 = .ok (.iload 4, 2) := by decide +kernel
theorem d_mo_solve_66 : decode b_mo_solve 66 = .ok (.invokevirtual 99, 3) := by decide +kernel
theorem d_mo_solve_69 : decode b_mo_solve 69 = .ok (.aload_n 0, 1) := by decide +kernel
theorem d_mo_solve_70 : decode b_mo_solve 70 = .ok (.iload_n 1, 1) := by decide +kernel
theorem d_mo_solve_71 : decode b_mo_solve 71 = .ok (.invokevirtual 91, 3) := by decide +kernel
theorem d_mo_solve_74 : decode b_mo_solve 74 = .ok (.lstore 5, 2) := by decide +kernel
theorem d_mo_solve_76 : decode b_mo_solve 76 = .ok (.lload 5, 2) := by decide +kernel
theorem d_mo_solve_78 : decode b_mo_solve 78 = .ok (.lstore 7, 2) := by decide +kernel
theorem d_mo_solve_80 : decode b_mo_solve 80 = .ok (.lload_n 2, 1) := by decide +kernel
theorem d_mo_solve_81 : decode b_mo_solve 81 = .ok (.lstore 9, 2) := by decide +kernel
theorem d_mo_solve_83 : decode b_mo_solve 83 = .ok (.lload 9, 2) := by decide +kernel
theorem d_mo_solve_85 : decode b_mo_solve 85 = .ok (.lconst 0, 1) := by decide +kernel
theorem d_mo_solve_86 : decode b_mo_solve 86 = .ok (.lcmp, 1) := by decide +kernel
theorem d_mo_solve_87 : decode b_mo_solve 87 = .ok (.ifCond .eq 21, 3) := by decide +kernel
theorem d_mo_solve_90 : decode b_mo_solve 90 = .ok (.lload 7, 2) := by decide +kernel
theorem d_mo_solve_92 : decode b_mo_solve 92 = .ok (.lload 9, 2) := by decide +kernel
theorem d_mo_solve_94 : decode b_mo_solve 94 = .ok (.lrem, 1) := by decide +kernel
theorem d_mo_solve_95 : decode b_mo_solve 95 = .ok (.lstore 11, 2) := by decide +kernel
theorem d_mo_solve_97 : decode b_mo_solve 97 = .ok (.lload 9, 2) := by decide +kernel
theorem d_mo_solve_99 : decode b_mo_solve 99 = .ok (.lstore 7, 2) := by decide +kernel
theorem d_mo_solve_101 : decode b_mo_solve 101 = .ok (.lload 11, 2) := by decide +kernel
theorem d_mo_solve_103 : decode b_mo_solve 103 = .ok (.lstore 9, 2) := by decide +kernel
theorem d_mo_solve_105 : decode b_mo_solve 105 = .ok (.goto (-22), 3) := by decide +kernel
theorem d_mo_solve_108 : decode b_mo_solve 108 = .ok (.lload_n 2, 1) := by decide +kernel
theorem d_mo_solve_109 : decode b_mo_solve 109 = .ok (.lload 7, 2) := by decide +kernel
theorem d_mo_solve_111 : decode b_mo_solve 111 = .ok (.ldiv, 1) := by decide +kernel
theorem d_mo_solve_112 : decode b_mo_solve 112 = .ok (.lconst 0, 1) := by decide +kernel
theorem d_mo_solve_113 : decode b_mo_solve 113 = .ok (.lcmp, 1) := by decide +kernel
theorem d_mo_solve_114 : decode b_mo_solve 114 = .ok (.ifCond .ge 9, 3) := by decide +kernel
theorem d_mo_solve_117 : decode b_mo_solve 117 = .ok (.lload 7, 2) := by decide +kernel
theorem d_mo_solve_119 : decode b_mo_solve 119 = .ok (.lneg, 1) := by decide +kernel
theorem d_mo_solve_120 : decode b_mo_solve 120 = .ok (.goto 5, 3) := by decide +kernel
theorem d_mo_solve_123 : decode b_mo_solve 123 = .ok (.lload 7, 2) := by decide +kernel
theorem d_mo_solve_125 : decode b_mo_solve 125 = .ok (.lstore 7, 2) := by decide +kernel
theorem d_mo_solve_127 : decode b_mo_solve 127 = .ok (.aload_n 0, 1) := by decide +kernel
theorem d_mo_solve_128 : decode b_mo_solve 128 = .ok (.getfield 23, 3) := by decide +kernel
theorem d_mo_solve_131 : decode b_mo_solve 131 = .ok (.iload 4, 2) := by decide +kernel
theorem d_mo_solve_133 : decode b_mo_solve 133 = .ok (.lload 5, 2) := by decide +kernel
theorem d_mo_solve_135 : decode b_mo_solve 135 = .ok (.lload 7, 2) := by decide +kernel
theorem d_mo_solve_137 : decode b_mo_solve 137 = .ok (.ldiv, 1) := by decide +kernel
theorem d_mo_solve_138 : decode b_mo_solve 138 = .ok (.lastore, 1) := by decide +kernel
theorem d_mo_solve_139 : decode b_mo_solve 139 = .ok (.aload_n 0, 1) := by decide +kernel
theorem d_mo_solve_140 : decode b_mo_solve 140 = .ok (.getfield 26, 3) := by decide +kernel
theorem d_mo_solve_143 : decode b_mo_solve 143 = .ok (.iload 4, 2) := by decide +kernel
theorem d_mo_solve_145 : decode b_mo_solve 145 = .ok (.lload_n 2, 1) := by decide +kernel
theorem d_mo_solve_146 : decode b_mo_solve 146 = .ok (.lload 7, 2) := by decide +kernel
theorem d_mo_solve_148 : decode b_mo_solve 148 = .ok (.ldiv, 1) := by decide +kernel
theorem d_mo_solve_149 : decode b_mo_solve 149 = .ok (.lastore, 1) := by decide +kernel
theorem d_mo_solve_150 : decode b_mo_solve 150 = .ok (.iinc 4 1, 3) := by decide +kernel
theorem d_mo_solve_153 : decode b_mo_solve 153 = .ok (.goto (-97), 3) := by decide +kernel
theorem d_mo_solve_156 : decode b_mo_solve 156 = .ok (.aload_n 0, 1) := by decide +kernel
theorem d_mo_solve_157 : decode b_mo_solve 157 = .ok (.iload_n 1, 1) := by decide +kernel
theorem d_mo_solve_158 : decode b_mo_solve 158 = .ok (.putfield 103, 3) := by decide +kernel
theorem d_mo_solve_161 : decode b_mo_solve 161 = .ok (.iconst 0, 1) := by decide +kernel
theorem d_mo_solve_162 : decode b_mo_solve 162 = .ok (.ireturn, 1) := by decide +kernel
theorem k_177 : (.code y_mo_free b_mo_free 8 (some .boolean) : Cond) ∈ kt_T := List.mem_filter.mpr ⟨List.mem_of_getElem? (i := 557) (by decide +kernel), by decide +kernel⟩
theorem k_178 : (.instanceMethod y_mo_free : Cond) ∈ kt_T := List.mem_filter.mpr ⟨List.mem_of_getElem? (i := 556) (by decide +kernel), by decide +kernel⟩
theorem k_179 : (.selects R_mo y_mo_free y_mo_free : Cond) ∈ kt_T := List.mem_filter.mpr ⟨List.mem_of_getElem? (i := 12) (by decide +kernel), by decide +kernel⟩
theorem k_180 : (.methodLink R_mo 95 y_mo_free : Cond) ∈ kt_T := List.mem_filter.mpr ⟨List.mem_of_getElem? (i := 554) (by decide +kernel), by decide +kernel⟩
theorem k_181 : (.code y_mo_load b_mo_load 5 none : Cond) ∈ kt_T := List.mem_filter.mpr ⟨List.mem_of_getElem? (i := 565) (by decide +kernel), by decide +kernel⟩
theorem k_182 : (.instanceMethod y_mo_load : Cond) ∈ kt_T := List.mem_filter.mpr ⟨List.mem_of_getElem? (i := 564) (by decide +kernel), by decide +kernel⟩
theorem k_183 : (.selects R_mo y_mo_load y_mo_load : Cond) ∈ kt_T := List.mem_filter.mpr ⟨List.mem_of_getElem? (i := 14) (by decide +kernel), by decide +kernel⟩
theorem k_184 : (.methodLink R_mo 99 y_mo_load : Cond) ∈ kt_T := List.mem_filter.mpr ⟨List.mem_of_getElem? (i := 562) (by decide +kernel), by decide +kernel⟩
/-- the rows one by one: d are left, q is the next number of rows; 0: all are free -/
def fmL (ge : Nat → Int32) (n : Nat) : Nat → Nat → (Nat → Int64) → Int32 × (Nat → Int64)
  | 0, _, f => (0, f)
  | d + 1, q, f => if (f_mo_free ge f q n).1 = 0 then (nI q, (f_mo_free ge f q n).2) else fmL ge n d (q + 1) (f_mo_free ge f q n).2
/-- the sign that makes a lower number's quotient not below 0 -/
def sgX (all x : Int64) : Int64 := if 0 ≤ all / x then x else -x
/-- the answers: d are left, from k on -/
def anL (ge : Nat → Int32) (n : Nat) (all : Int64) : Nat → Nat → (Nat → Int64) → (Nat → Int64) → (Nat → Int64) → (Nat → Int64) × (Nat → Int64) × (Nat → Int64)
  | 0, _, f, a, b => (f, a, b)
  | d + 1, k, f, a, b => anL ge n all d (k + 1) (f_mo_load ge f n (nI k))
      (vp_updL a k (f_mo_det (f_mo_load ge f n (nI k)) n / sgX all (gcdL 200 (f_mo_det (f_mo_load ge f n (nI k)) n) all)))
      (vp_updL b k (all / sgX all (gcdL 200 (f_mo_det (f_mo_load ge f n (nI k)) n) all)))
theorem neg_ne0 {x : Int64} (h : ¬ x = 0) : ¬ -x = 0 := fun q => h (by have e : - -x = x := Int64.neg_neg; rw [← e, q]; rfl)
theorem sgX_ne0 {all x : Int64} (h : ¬ x = 0) : ¬ sgX all x = 0 := by
  unfold sgX
  split
  · exact h
  · exact neg_ne0 h
set_option maxHeartbeats 4000000 in
theorem lp_mo_fm {p : Program} {l : Launch} {e : Env} {R : Room} {s : State} {m : MethodId} {args : Array Value} {below : List Frame} {meth : Method} {c : Code} {dC : Nat → ClassId} {dI : Nat → Nat → Nat} {A : Nat → Prop} {Q : State → Prop} {m0 : Nat} {me : Nat} {mau : Nat} {mad : Nat} {msq : Nat} {mk : Int32} {mv : Int32} {mu : Nat} {md : Nat} {up : Int64} {dn : Int64} {mr : Int32} {mc : Nat} {so : Int32} {mw : Int32} {mwg : Nat} {mgv : Nat} {cme : ClassId} {ge : Nat → Int32} {cma : ClassId} {ga : Nat → Int64} {cmb : ClassId} {gb : Nat → Int64} {cms : ClassId} (hx : p.tables.exec = Jvm.exec) (hb : c.code = b_mo_solve) (hml : c.maxLocals = 13) (hown : s.vm.findClass R_mo = some m.cls) (hT : ∀ w ∈ kt_T, w.before args s = true) (hA : ∀ q : Nat, s.heap.size ≤ q → A q) (hK : va_K (dC, dI) classes [(cme, .int), (cma, .long), (cmb, .long), (cms, .long)] s) {n : Nat} (hRf : 2 ≤ R.frames) (hRl : 60 ≤ R.locals) (hn : n ≤ 4) :
    ∀ (d q : Nat) (f : Nat → Int64), q + d = n + 1 → 1 ≤ q → (∀ (v : Int32) (F : Nat → Int64), ¬ v = 0 → fmL ge n d q f = (v, F) → ∀ (H : Heap) (locs : List Loc) (ls : Array Slot), va_P (dC, dI) classes [(m0, .inr (4, [.int 0, .int mk, .int mv, .ref mu, .ref md, .long up, .long dn, .int mr, .ref mc, .ref me, .int so, .ref mau, .ref mad, .int mw, .ref mwg, .ref mgv, .ref msq])), (me, .inl (cme, 20, .inl ge)), (mau, .inl (cma, 4, .inr (.inl ga))), (mad, .inl (cmb, 4, .inr (.inl gb))), (msq, .inl (cms, 16, .inr (.inl F)))] H → va_D A [(m0, .inr (4, [.int 0, .int mk, .int mv, .ref mu, .ref md, .long up, .long dn, .int mr, .ref mc, .ref me, .int so, .ref mau, .ref mad, .int mw, .ref mwg, .ref mgv, .ref msq])), (me, .inl (cme, 20, .inl ge)), (mau, .inl (cma, 4, .inr (.inl ga))), (mad, .inl (cmb, 4, .inr (.inl gb))), (msq, .inl (cms, 16, .inr (.inl F)))] → va_S A s.heap H locs → ls.size = 13 → W p l e R s m args below meth c H locs 0 0 Q (F0 m 34 ls [.int v])) → (∀ (F : Nat → Int64), fmL ge n d q f = (0, F) → ∀ (H : Heap) (locs : List Loc) (ls : Array Slot), va_P (dC, dI) classes [(m0, .inr (4, [.int 0, .int mk, .int mv, .ref mu, .ref md, .long up, .long dn, .int mr, .ref mc, .ref me, .int so, .ref mau, .ref mad, .int mw, .ref mwg, .ref mgv, .ref msq])), (me, .inl (cme, 20, .inl ge)), (mau, .inl (cma, 4, .inr (.inl ga))), (mad, .inl (cmb, 4, .inr (.inl gb))), (msq, .inl (cms, 16, .inr (.inl F)))] H → va_D A [(m0, .inr (4, [.int 0, .int mk, .int mv, .ref mu, .ref md, .long up, .long dn, .int mr, .ref mc, .ref me, .int so, .ref mau, .ref mad, .int mw, .ref mwg, .ref mgv, .ref msq])), (me, .inl (cme, 20, .inl ge)), (mau, .inl (cma, 4, .inr (.inl ga))), (mad, .inl (cmb, 4, .inr (.inl gb))), (msq, .inl (cms, 16, .inr (.inl F)))] → va_S A s.heap H locs → lv_has ls 13 [(0, .ref m0), (1, .int (nI n))] → W p l e R s m args below meth c H locs 0 0 Q (F0 m 41 ls [])) → ∀ (H : Heap) (locs : List Loc) (ls : Array Slot), va_P (dC, dI) classes [(m0, .inr (4, [.int 0, .int mk, .int mv, .ref mu, .ref md, .long up, .long dn, .int mr, .ref mc, .ref me, .int so, .ref mau, .ref mad, .int mw, .ref mwg, .ref mgv, .ref msq])), (me, .inl (cme, 20, .inl ge)), (mau, .inl (cma, 4, .inr (.inl ga))), (mad, .inl (cmb, 4, .inr (.inl gb))), (msq, .inl (cms, 16, .inr (.inl f)))] H → va_D A [(m0, .inr (4, [.int 0, .int mk, .int mv, .ref mu, .ref md, .long up, .long dn, .int mr, .ref mc, .ref me, .int so, .ref mau, .ref mad, .int mw, .ref mwg, .ref mgv, .ref msq])), (me, .inl (cme, 20, .inl ge)), (mau, .inl (cma, 4, .inr (.inl ga))), (mad, .inl (cmb, 4, .inr (.inl gb))), (msq, .inl (cms, 16, .inr (.inl f)))] → va_S A s.heap H locs → lv_has ls 13 [(0, .ref m0), (1, .int (nI n)), (2, .int (nI q))] → W p l e R s m args below meth c H locs 0 0 Q (F0 m 19 ls []) := by
  intro d
  induction d with
  | zero =>
    intro q f hk1 hq1 hk hk0 H locs ls hP hD hS hl
    refine lv_iload_n hx hb d_mo_solve_19 rfl (lv_at hl 2 rfl) ?_
    refine lv_iload_n hx hb d_mo_solve_20 rfl (lv_at hl 1 rfl) ?_
    refine lv_icmp_gt (tgt := 41) hx hb d_mo_solve_21 (by decide) (fun c_1 => ?_) (fun c_1 => ?_)
    · exact hk0 f rfl H locs ls hP hD hS (lv_sub hl [0, 1] rfl)
    · exact absurd (nI_lt (show n < q by omega) (by omega)) c_1
  | succ d ih =>
    intro q f hk1 hq1 hk hk0 H locs ls hP hD hS hl
    refine lv_iload_n hx hb d_mo_solve_19 rfl (lv_at hl 2 rfl) ?_
    refine lv_iload_n hx hb d_mo_solve_20 rfl (lv_at hl 1 rfl) ?_
    refine lv_icmp_gt (tgt := 41) hx hb d_mo_solve_21 (by decide) (fun c_2 => ?_) (fun c_2 => ?_)
    · exact absurd c_2 (nI_nlt (show q ≤ n by omega) (by omega))
    · refine lv_aload_n hx hb d_mo_solve_24 rfl (lv_at hl 0 rfl) ?_
      refine lv_iload_n hx hb d_mo_solve_25 rfl (lv_at hl 2 rfl) ?_
      refine lv_iload_n hx hb d_mo_solve_26 rfl (lv_at hl 1 rfl) ?_
      have hPc := hP.sub (ws' := [(m0, .inr (4, [.int 0, .int mk, .int mv, .ref mu, .ref md, .long up, .long dn, .int mr, .ref mc, .ref me, .int so, .ref mau, .ref mad, .int mw, .ref mwg, .ref mgv, .ref msq])), (me, .inl (cme, 20, .inl ge)), (msq, .inl (cms, 16, .inr (.inl f)))]) [0, 1, 4] rfl
      have hKc := hK.sub (tys' := [(cme, .int), (cms, .long)]) [0, 3] rfl
      have hDc := hD.sub (ws' := [(m0, .inr (4, [.int 0, .int mk, .int mv, .ref mu, .ref md, .long up, .long dn, .int mr, .ref mc, .ref me, .int so, .ref mau, .ref mad, .int mw, .ref mwg, .ref mgv, .ref msq])), (me, .inl (cme, 20, .inl ge)), (msq, .inl (cms, 16, .inr (.inl f)))]) [0, 1, 4] (by decide) rfl
      have hFc := va_free (wc := [(m0, .inr (4, [.int 0, .int mk, .int mv, .ref mu, .ref md, .long up, .long dn, .int mr, .ref mc, .ref me, .int so, .ref mau, .ref mad, .int mw, .ref mwg, .ref mgv, .ref msq])), (me, .inl (cme, 20, .inl ge)), (msq, .inl (cms, 16, .inr (.inl f)))]) hD hS hA [0, 1, 4] rfl
      refine va_calli (va_runV (As := [.int (nI q), .int (nI n)]) (rest := []) ⟨hx, hb, hml, hown, hT⟩ (c_mo_free l dC dI H.size m0 me msq 0 mk mv mu md up dn mr mc so mau mad mw mwg mgv cme ge cms f q n (show q ≤ 4 by omega) hq1 hn) (cwV 2 hT (kt_V k_180 k_178 k_179 k_136 k_177) rfl rfl rfl (by decide +kernel) ⟨Nat.le_trans (Nat.le_of_ble_eq_true rfl) hRf, Nat.le_trans (Nat.le_of_ble_eq_true rfl) hRl⟩) ⟨bl_M, va_recv hKc hPc (ci := 4) (q0 := 0) rfl rfl, fun U hU hW => ⟨rfl, by rw [hU], by rw [hU]; exact hPc, va_K.moved hW.alike hKc, hDc.weaken (fun _ _ _ _ => trivial)⟩⟩ rfl rfl hl.1 rfl (lv_room (Nat.le_of_ble_eq_true rfl)) d_mo_solve_27 ⟨Nat.zero_le _, Nat.zero_le _⟩) hS (fun q _ h => hFc q h) hFc (fun r_3 u t H1 locs ht hvm hw hB hz1 hk1 hS => ?_)
      obtain ⟨gs_3, rfl⟩ : ∃ z, z = u := ⟨_, rfl⟩
      obtain ⟨hP1, hK1, hD1⟩ := hB
      rw [ht] at hP1
      obtain ⟨hP, hD⟩ := va_join (wr := [(mau, .inl (cma, 4, .inr (.inl ga))), (mad, .inl (cmb, 4, .inr (.inl gb)))]) (w1 := [(m0, .inr (4, [.int 0, .int mk, .int mv, .ref mu, .ref md, .long up, .long dn, .int mr, .ref mc, .ref me, .int so, .ref mau, .ref mad, .int mw, .ref mwg, .ref mgv, .ref msq])), (me, .inl (cme, 20, .inl ge)), (msq, .inl (cms, 16, .inr (.inl gs_3)))]) hP hD [0, 1, 4] [2, 3] rfl rfl (by decide) (by decide) hk1 hFc hP1 hD1
      generalize H1 = H at hP hS ⊢
      have hP := hP.sub (ws' := [(m0, .inr (4, [.int 0, .int mk, .int mv, .ref mu, .ref md, .long up, .long dn, .int mr, .ref mc, .ref me, .int so, .ref mau, .ref mad, .int mw, .ref mwg, .ref mgv, .ref msq])), (me, .inl (cme, 20, .inl ge)), (mau, .inl (cma, 4, .inr (.inl ga))), (mad, .inl (cmb, 4, .inr (.inl gb))), (msq, .inl (cms, 16, .inr (.inl gs_3)))]) [2, 3, 0, 1, 4] rfl
      have hD := hD.sub (ws' := [(m0, .inr (4, [.int 0, .int mk, .int mv, .ref mu, .ref md, .long up, .long dn, .int mr, .ref mc, .ref me, .int so, .ref mau, .ref mad, .int mw, .ref mwg, .ref mgv, .ref msq])), (me, .inl (cme, 20, .inl ge)), (mau, .inl (cma, 4, .inr (.inl ga))), (mad, .inl (cmb, 4, .inr (.inl gb))), (msq, .inl (cms, 16, .inr (.inl gs_3)))]) [2, 3, 0, 1, 4] (by decide) rfl
      have e_r_3 : r_3 = (f_mo_free ge f q n).1 := congrArg (fun z => z.1) hw
      have e_gs_3 : gs_3 = (f_mo_free ge f q n).2 := congrArg (fun z => z.2) hw
      subst e_r_3 e_gs_3
      clear hP1 hK1 hD1 hk1 hz1 hFc hDc hPc hKc
      refine lv_if_ne (tgt := 35) hx hb d_mo_solve_30 (by decide) (fun c_4 => ?_) (fun c_4 => ?_)
      · refine lv_iinc (v := (nI q) + 1) (lv' := [(2, .int ((nI q) + 1)), (0, .ref m0), (1, .int (nI n))]) hx hb d_mo_solve_35 hl (k := 2) rfl rfl (by decide) rfl (fun ls hl => ?_)
        refine lv_goto (tgt := 19) hx hb d_mo_solve_38 (by decide) ?_
        exact ih (q + 1) _ (by omega) (by omega) (by rw [fmL, if_neg c_4] at hk; exact hk) (by rw [fmL, if_neg c_4] at hk0; exact hk0) H locs ls hP hD hS (by have h9 := lv_sub hl [1, 2, 0] rfl; rw [nI_1] at h9; exact h9)
      · refine lv_iload_n hx hb d_mo_solve_33 rfl (lv_at hl 2 rfl) ?_
        exact hk _ _ (nI_ne0 (show 0 < q by omega) (by omega)) (by rw [fmL, if_pos c_4]) H locs ls hP hD hS hl.1
set_option maxHeartbeats 4000000 in
theorem lp_mo_eu {p : Program} {l : Launch} {e : Env} {R : Room} {s : State} {m : MethodId} {args : Array Value} {below : List Frame} {meth : Method} {c : Code} {Q : State → Prop} {H : Heap} {locs : List Loc} {m0 n k : Nat} {all ab : Int64} (hx : p.tables.exec = Jvm.exec) (hb : c.code = b_mo_solve) :
    ∀ (d : Nat) (x y : Int64), euc d x y → (∀ (ls : Array Slot), lv_has ls 13 [(0, .ref m0), (1, .int (nI n)), (2, .long all), (4, .int (nI k)), (5, .long ab), (7, .long (gcdL d x y))] → W p l e R s m args below meth c H locs 0 0 Q (F0 m 108 ls [])) → ∀ (ls : Array Slot), lv_has ls 13 [(0, .ref m0), (1, .int (nI n)), (2, .long all), (4, .int (nI k)), (5, .long ab), (7, .long x), (9, .long y)] → W p l e R s m args below meth c H locs 0 0 Q (F0 m 83 ls []) := by
  intro d
  induction d with
  | zero =>
    intro x y he hk ls hl
    refine lv_lload hx hb d_mo_solve_83 (lv_at hl 6 rfl) ?_
    refine lv_lconst (v := 0) hx hb d_mo_solve_85 (by decide) ?_
    refine lx_ifeq (tgt := 108) hx hb d_mo_solve_86 d_mo_solve_87 (by decide) (fun c_5 => ?_) (fun c_5 => ?_)
    · exact hk ls (lv_sub hl [0, 1, 2, 3, 4, 5] rfl)
    · exact absurd he c_5
  | succ d ih =>
    intro x y he hk ls hl
    refine lv_lload hx hb d_mo_solve_83 (lv_at hl 6 rfl) ?_
    refine lv_lconst (v := 0) hx hb d_mo_solve_85 (by decide) ?_
    refine lx_ifeq (tgt := 108) hx hb d_mo_solve_86 d_mo_solve_87 (by decide) (fun c_6 => ?_) (fun c_6 => ?_)
    · exact hk ls (by rw [gcdL, if_pos c_6]; exact lv_sub hl [0, 1, 2, 3, 4, 5] rfl)
    · refine lv_lload hx hb d_mo_solve_90 (lv_at hl 5 rfl) ?_
      refine lv_lload hx hb d_mo_solve_92 (lv_at hl 6 rfl) ?_
      refine lv_lrem hx hb d_mo_solve_94 c_6 ?_
      refine lv_lstore (lv' := [(11, .long (x - x / y * y)), (0, .ref m0), (1, .int (nI n)), (2, .long all), (4, .int (nI k)), (5, .long ab), (7, .long x), (9, .long y)]) hx hb d_mo_solve_95 hl (by decide) rfl (fun ls hl => ?_)
      refine lv_lload hx hb d_mo_solve_97 (lv_at hl 7 rfl) ?_
      refine lv_lstore (lv' := [(7, .long y), (11, .long (x - x / y * y)), (0, .ref m0), (1, .int (nI n)), (2, .long all), (4, .int (nI k)), (5, .long ab), (9, .long y)]) hx hb d_mo_solve_99 hl (by decide) rfl (fun ls hl => ?_)
      refine lv_lload hx hb d_mo_solve_101 (lv_at hl 1 rfl) ?_
      refine lv_lstore (lv' := [(9, .long (x - x / y * y)), (7, .long y), (11, .long (x - x / y * y)), (0, .ref m0), (1, .int (nI n)), (2, .long all), (4, .int (nI k)), (5, .long ab)]) hx hb d_mo_solve_103 hl (by decide) rfl (fun ls hl => ?_)
      refine lv_goto (tgt := 83) hx hb d_mo_solve_105 (by decide) ?_
      exact ih _ _ (he.resolve_left c_6) (by rw [gcdL, if_neg c_6] at hk; exact hk) ls (lv_sub hl [3, 4, 5, 6, 7, 1, 0] rfl)
set_option maxHeartbeats 4000000 in
theorem lp_mo_an {p : Program} {l : Launch} {e : Env} {R : Room} {s : State} {m : MethodId} {args : Array Value} {below : List Frame} {meth : Method} {c : Code} {dC : Nat → ClassId} {dI : Nat → Nat → Nat} {A : Nat → Prop} {Q : State → Prop} {m0 : Nat} {me : Nat} {mau : Nat} {mad : Nat} {msq : Nat} {mk : Int32} {mv : Int32} {mu : Nat} {md : Nat} {up : Int64} {dn : Int64} {mr : Int32} {mc : Nat} {so : Int32} {mw : Int32} {mwg : Nat} {mgv : Nat} {cme : ClassId} {ge : Nat → Int32} {cma : ClassId} {cmb : ClassId} {cms : ClassId} (hx : p.tables.exec = Jvm.exec) (hb : c.code = b_mo_solve) (hml : c.maxLocals = 13) (hown : s.vm.findClass R_mo = some m.cls) (hT : ∀ w ∈ kt_T, w.before args s = true) (hA : ∀ q : Nat, s.heap.size ≤ q → A q) (hK : va_K (dC, dI) classes [(cme, .int), (cma, .long), (cmb, .long), (cms, .long)] s) {n : Nat} {all : Int64} (hRf : 1 ≤ R.frames) (hRl : 33 ≤ R.locals) (hn : n ≤ 4) (hn1 : 1 ≤ n) (h0 : ¬ all = 0) :
    ∀ (d k : Nat) (f a b : Nat → Int64), k + d = n → (∀ (H : Heap) (locs : List Loc) (ls : Array Slot), va_P (dC, dI) classes [(m0, .inr (4, [.int 0, .int mk, .int mv, .ref mu, .ref md, .long up, .long dn, .int mr, .ref mc, .ref me, .int so, .ref mau, .ref mad, .int mw, .ref mwg, .ref mgv, .ref msq])), (me, .inl (cme, 20, .inl ge)), (mau, .inl (cma, 4, .inr (.inl ((anL ge n all d k f a b).2.1)))), (mad, .inl (cmb, 4, .inr (.inl ((anL ge n all d k f a b).2.2)))), (msq, .inl (cms, 16, .inr (.inl ((anL ge n all d k f a b).1))))] H → va_D A [(m0, .inr (4, [.int 0, .int mk, .int mv, .ref mu, .ref md, .long up, .long dn, .int mr, .ref mc, .ref me, .int so, .ref mau, .ref mad, .int mw, .ref mwg, .ref mgv, .ref msq])), (me, .inl (cme, 20, .inl ge)), (mau, .inl (cma, 4, .inr (.inl ((anL ge n all d k f a b).2.1)))), (mad, .inl (cmb, 4, .inr (.inl ((anL ge n all d k f a b).2.2)))), (msq, .inl (cms, 16, .inr (.inl ((anL ge n all d k f a b).1))))] → va_S A s.heap H locs → lv_has ls 13 [(0, .ref m0), (1, .int (nI n))] → W p l e R s m args below meth c H locs 0 0 Q (F0 m 156 ls [])) → ∀ (H : Heap) (locs : List Loc) (ls : Array Slot), va_P (dC, dI) classes [(m0, .inr (4, [.int 0, .int mk, .int mv, .ref mu, .ref md, .long up, .long dn, .int mr, .ref mc, .ref me, .int so, .ref mau, .ref mad, .int mw, .ref mwg, .ref mgv, .ref msq])), (me, .inl (cme, 20, .inl ge)), (mau, .inl (cma, 4, .inr (.inl a))), (mad, .inl (cmb, 4, .inr (.inl b))), (msq, .inl (cms, 16, .inr (.inl f)))] H → va_D A [(m0, .inr (4, [.int 0, .int mk, .int mv, .ref mu, .ref md, .long up, .long dn, .int mr, .ref mc, .ref me, .int so, .ref mau, .ref mad, .int mw, .ref mwg, .ref mgv, .ref msq])), (me, .inl (cme, 20, .inl ge)), (mau, .inl (cma, 4, .inr (.inl a))), (mad, .inl (cmb, 4, .inr (.inl b))), (msq, .inl (cms, 16, .inr (.inl f)))] → va_S A s.heap H locs → lv_has ls 13 [(0, .ref m0), (1, .int (nI n)), (2, .long all), (4, .int (nI k))] → W p l e R s m args below meth c H locs 0 0 Q (F0 m 56 ls []) := by
  intro d
  induction d with
  | zero =>
    intro k f a b hk1 hk H locs ls hP hD hS hl
    refine lv_iload hx hb d_mo_solve_56 (lv_at hl 3 rfl) ?_
    refine lv_iload_n hx hb d_mo_solve_58 rfl (lv_at hl 1 rfl) ?_
    refine lv_icmp_ge (tgt := 156) hx hb d_mo_solve_59 (by decide) (fun c_7 => ?_) (fun c_7 => ?_)
    · exact hk H locs ls hP hD hS (lv_sub hl [0, 1] rfl)
    · exact absurd (nI_le (show n ≤ k by omega) (by omega)) c_7
  | succ d ih =>
    intro k f a b hk1 hk H locs ls hP hD hS hl
    refine lv_iload hx hb d_mo_solve_56 (lv_at hl 3 rfl) ?_
    refine lv_iload_n hx hb d_mo_solve_58 rfl (lv_at hl 1 rfl) ?_
    refine lv_icmp_ge (tgt := 156) hx hb d_mo_solve_59 (by decide) (fun c_8 => ?_) (fun c_8 => ?_)
    · exact absurd c_8 (nI_ge (show k < n by omega) (by omega))
    · refine lv_aload_n hx hb d_mo_solve_62 rfl (lv_at hl 0 rfl) ?_
      refine lv_iload_n hx hb d_mo_solve_63 rfl (lv_at hl 1 rfl) ?_
      refine lv_iload hx hb d_mo_solve_64 (lv_at hl 3 rfl) ?_
      have hPc := hP.sub (ws' := [(m0, .inr (4, [.int 0, .int mk, .int mv, .ref mu, .ref md, .long up, .long dn, .int mr, .ref mc, .ref me, .int so, .ref mau, .ref mad, .int mw, .ref mwg, .ref mgv, .ref msq])), (me, .inl (cme, 20, .inl ge)), (msq, .inl (cms, 16, .inr (.inl f)))]) [0, 1, 4] rfl
      have hKc := hK.sub (tys' := [(cme, .int), (cms, .long)]) [0, 3] rfl
      have hDc := hD.sub (ws' := [(m0, .inr (4, [.int 0, .int mk, .int mv, .ref mu, .ref md, .long up, .long dn, .int mr, .ref mc, .ref me, .int so, .ref mau, .ref mad, .int mw, .ref mwg, .ref mgv, .ref msq])), (me, .inl (cme, 20, .inl ge)), (msq, .inl (cms, 16, .inr (.inl f)))]) [0, 1, 4] (by decide) rfl
      have hFc := va_free (wc := [(m0, .inr (4, [.int 0, .int mk, .int mv, .ref mu, .ref md, .long up, .long dn, .int mr, .ref mc, .ref me, .int so, .ref mau, .ref mad, .int mw, .ref mwg, .ref mgv, .ref msq])), (me, .inl (cme, 20, .inl ge)), (msq, .inl (cms, 16, .inr (.inl f)))]) hD hS hA [0, 1, 4] rfl
      refine va_callv (va_runV (As := [.int (nI n), .int (nI k)]) (rest := []) ⟨hx, hb, hml, hown, hT⟩ (c_mo_load l dC dI H.size m0 me msq 0 mk mv mu md up dn mr mc so mau mad mw mwg mgv cme ge cms f n (nI k) hn) (cwV 2 hT (kt_V k_184 k_182 k_183 k_136 k_181) rfl rfl rfl (by decide +kernel) ⟨Nat.le_trans (Nat.le_of_ble_eq_true rfl) hRf, Nat.le_trans (Nat.le_of_ble_eq_true rfl) hRl⟩) ⟨bl_M, va_recv hKc hPc (ci := 4) (q0 := 0) rfl rfl, fun U hU hW => ⟨rfl, by rw [hU], by rw [hU]; exact hPc, va_K.moved hW.alike hKc, hDc.weaken (fun _ _ _ _ => trivial)⟩⟩ rfl rfl hl.1 rfl (lv_room (Nat.le_of_ble_eq_true rfl)) d_mo_solve_66 ⟨Nat.zero_le _, Nat.zero_le _⟩) hS (fun q _ h => hFc q h) hFc (fun u t H1 locs ht hvm hw hB hz1 hk1 hS => ?_)
      obtain ⟨gs_9, rfl⟩ : ∃ z, z = u := ⟨_, rfl⟩
      obtain ⟨hP1, hK1, hD1⟩ := hB
      rw [ht] at hP1
      obtain ⟨hP, hD⟩ := va_join (wr := [(mau, .inl (cma, 4, .inr (.inl a))), (mad, .inl (cmb, 4, .inr (.inl b)))]) (w1 := [(m0, .inr (4, [.int 0, .int mk, .int mv, .ref mu, .ref md, .long up, .long dn, .int mr, .ref mc, .ref me, .int so, .ref mau, .ref mad, .int mw, .ref mwg, .ref mgv, .ref msq])), (me, .inl (cme, 20, .inl ge)), (msq, .inl (cms, 16, .inr (.inl gs_9)))]) hP hD [0, 1, 4] [2, 3] rfl rfl (by decide) (by decide) hk1 hFc hP1 hD1
      generalize H1 = H at hP hS ⊢
      have hP := hP.sub (ws' := [(m0, .inr (4, [.int 0, .int mk, .int mv, .ref mu, .ref md, .long up, .long dn, .int mr, .ref mc, .ref me, .int so, .ref mau, .ref mad, .int mw, .ref mwg, .ref mgv, .ref msq])), (me, .inl (cme, 20, .inl ge)), (mau, .inl (cma, 4, .inr (.inl a))), (mad, .inl (cmb, 4, .inr (.inl b))), (msq, .inl (cms, 16, .inr (.inl gs_9)))]) [2, 3, 0, 1, 4] rfl
      have hD := hD.sub (ws' := [(m0, .inr (4, [.int 0, .int mk, .int mv, .ref mu, .ref md, .long up, .long dn, .int mr, .ref mc, .ref me, .int so, .ref mau, .ref mad, .int mw, .ref mwg, .ref mgv, .ref msq])), (me, .inl (cme, 20, .inl ge)), (mau, .inl (cma, 4, .inr (.inl a))), (mad, .inl (cmb, 4, .inr (.inl b))), (msq, .inl (cms, 16, .inr (.inl gs_9)))]) [2, 3, 0, 1, 4] (by decide) rfl
      subst hw
      clear hP1 hK1 hD1 hk1 hz1 hFc hDc hPc hKc
      refine lv_aload_n hx hb d_mo_solve_69 rfl (lv_at hl 0 rfl) ?_
      refine lv_iload_n hx hb d_mo_solve_70 rfl (lv_at hl 1 rfl) ?_
      have hPc := hP.sub (ws' := [(m0, .inr (4, [.int 0, .int mk, .int mv, .ref mu, .ref md, .long up, .long dn, .int mr, .ref mc, .ref me, .int so, .ref mau, .ref mad, .int mw, .ref mwg, .ref mgv, .ref msq])), (msq, .inl (cms, 16, .inr (.inl (f_mo_load ge f n (nI k)))))]) [0, 4] rfl
      have hKc := hK.sub (tys' := [(cms, .long)]) [3] rfl
      refine vp_callSl (W.runV (As := [.int (nI n)]) (rest := []) ⟨hx, hb, hml, hown, hT⟩ (c_mo_det l dC dI m0 msq 0 mk mv mu md up dn mr mc me so mau mad mw mwg mgv cms (f_mo_load ge f n (nI k)) n hn hn1) (cwV 1 hT (kt_V k_176 k_174 k_175 k_136 k_173) rfl rfl rfl (by decide +kernel) ⟨Nat.le_trans (Nat.le_of_ble_eq_true rfl) hRf, Nat.le_trans (Nat.le_of_ble_eq_true rfl) hRl⟩) ⟨bl_R, va_recv hKc hPc (ci := 4) (q0 := 0) rfl rfl, fun U hU hW => ⟨rfl, by rw [hU]; exact hPc, va_K.moved hW.alike hKc⟩⟩ rfl rfl hl.1 rfl (lv_room (Nat.le_of_ble_eq_true rfl)) d_mo_solve_71 ⟨Nat.zero_le _, Nat.zero_le _⟩) (fun r_10 e_r_10 => ?_)
      subst e_r_10
      refine lv_lstore (lv' := [(5, .long (f_mo_det (f_mo_load ge f n (nI k)) n)), (0, .ref m0), (1, .int (nI n)), (2, .long all), (4, .int (nI k))]) hx hb d_mo_solve_74 hl (by decide) rfl (fun ls hl => ?_)
      refine lv_lload hx hb d_mo_solve_76 (lv_at hl 0 rfl) ?_
      refine lv_lstore (lv' := [(7, .long (f_mo_det (f_mo_load ge f n (nI k)) n)), (5, .long (f_mo_det (f_mo_load ge f n (nI k)) n)), (0, .ref m0), (1, .int (nI n)), (2, .long all), (4, .int (nI k))]) hx hb d_mo_solve_78 hl (by decide) rfl (fun ls hl => ?_)
      refine lv_lload_n hx hb d_mo_solve_80 rfl (lv_at hl 4 rfl) ?_
      refine lv_lstore (lv' := [(9, .long all), (7, .long (f_mo_det (f_mo_load ge f n (nI k)) n)), (5, .long (f_mo_det (f_mo_load ge f n (nI k)) n)), (0, .ref m0), (1, .int (nI n)), (2, .long all), (4, .int (nI k))]) hx hb d_mo_solve_81 hl (by decide) rfl (fun ls hl => ?_)
      refine lp_mo_eu hx hb 200 (f_mo_det (f_mo_load ge f n (nI k)) n) all (euc_all _ _) (fun ls hl => ?_) ls (lv_sub hl [3, 4, 5, 6, 2, 1, 0] rfl)
      refine lv_lload_n hx hb d_mo_solve_108 rfl (lv_at hl 2 rfl) ?_
      refine lv_lload hx hb d_mo_solve_109 (lv_at hl 5 rfl) ?_
      refine lv_ldiv hx hb d_mo_solve_111 (gcdL_y h0) ?_
      refine lv_lconst (v := 0) hx hb d_mo_solve_112 (by decide) ?_
      refine lx_ifge (tgt := 123) hx hb d_mo_solve_113 d_mo_solve_114 (by decide) (fun c_11 => ?_) (fun c_11 => ?_)
      · refine lv_lload hx hb d_mo_solve_123 (lv_at hl 5 rfl) ?_
        rw [show (gcdL 200 (f_mo_det (f_mo_load ge f n (nI k)) n) all) = sgX all (gcdL 200 (f_mo_det (f_mo_load ge f n (nI k)) n) all) from by unfold sgX; rw [if_pos c_11]]
        refine lv_lstore (lv' := [(7, .long (sgX all (gcdL 200 (f_mo_det (f_mo_load ge f n (nI k)) n) all))), (0, .ref m0), (1, .int (nI n)), (2, .long all), (4, .int (nI k)), (5, .long (f_mo_det (f_mo_load ge f n (nI k)) n))]) hx hb d_mo_solve_125 hl (by decide) rfl (fun ls hl => ?_)
        refine lv_aload_n hx hb d_mo_solve_127 rfl (lv_at hl 1 rfl) ?_
        refine va_get (D := (dC, dI)) (ci := 4) (v := .ref mau) (C := R_mo) (T := F_mo) (N := 17) hx hb hT i_mo hown hK hP 0 rfl rfl 11 (by decide) (hT _ k_166) (fun _ h9 => h9) rfl d_mo_solve_128 ?_
        refine lv_iload hx hb d_mo_solve_131 (lv_at hl 4 rfl) ?_
        refine lv_lload hx hb d_mo_solve_133 (lv_at hl 5 rfl) ?_
        refine lv_lload hx hb d_mo_solve_135 (lv_at hl 0 rfl) ?_
        refine lv_ldiv hx hb d_mo_solve_137 (sgX_ne0 (gcdL_y h0)) ?_
        refine va_lastN (i := k) hx hb hK hP hD hS 2 1 rfl rfl ⟨by omega, by decide⟩ d_mo_solve_138 (fun H locs hP hD hS => ?_)
        have hP : va_P (dC, dI) classes [(m0, .inr (4, [.int 0, .int mk, .int mv, .ref mu, .ref md, .long up, .long dn, .int mr, .ref mc, .ref me, .int so, .ref mau, .ref mad, .int mw, .ref mwg, .ref mgv, .ref msq])), (me, .inl (cme, 20, .inl ge)), (mau, .inl (cma, 4, .inr (.inl (vp_updL a k ((f_mo_det (f_mo_load ge f n (nI k)) n) / (sgX all (gcdL 200 (f_mo_det (f_mo_load ge f n (nI k)) n) all))))))), (mad, .inl (cmb, 4, .inr (.inl b))), (msq, .inl (cms, 16, .inr (.inl (f_mo_load ge f n (nI k)))))] H := hP
        have hD : va_D A [(m0, .inr (4, [.int 0, .int mk, .int mv, .ref mu, .ref md, .long up, .long dn, .int mr, .ref mc, .ref me, .int so, .ref mau, .ref mad, .int mw, .ref mwg, .ref mgv, .ref msq])), (me, .inl (cme, 20, .inl ge)), (mau, .inl (cma, 4, .inr (.inl (vp_updL a k ((f_mo_det (f_mo_load ge f n (nI k)) n) / (sgX all (gcdL 200 (f_mo_det (f_mo_load ge f n (nI k)) n) all))))))), (mad, .inl (cmb, 4, .inr (.inl b))), (msq, .inl (cms, 16, .inr (.inl (f_mo_load ge f n (nI k)))))] := hD
        refine lv_aload_n hx hb d_mo_solve_139 rfl (lv_at hl 1 rfl) ?_
        refine va_get (D := (dC, dI)) (ci := 4) (v := .ref mad) (C := R_mo) (T := F_mo) (N := 17) hx hb hT i_mo hown hK hP 0 rfl rfl 12 (by decide) (hT _ k_165) (fun _ h9 => h9) rfl d_mo_solve_140 ?_
        refine lv_iload hx hb d_mo_solve_143 (lv_at hl 4 rfl) ?_
        refine lv_lload_n hx hb d_mo_solve_145 rfl (lv_at hl 3 rfl) ?_
        refine lv_lload hx hb d_mo_solve_146 (lv_at hl 0 rfl) ?_
        refine lv_ldiv hx hb d_mo_solve_148 (sgX_ne0 (gcdL_y h0)) ?_
        refine va_lastN (i := k) hx hb hK hP hD hS 3 2 rfl rfl ⟨by omega, by decide⟩ d_mo_solve_149 (fun H locs hP hD hS => ?_)
        have hP : va_P (dC, dI) classes [(m0, .inr (4, [.int 0, .int mk, .int mv, .ref mu, .ref md, .long up, .long dn, .int mr, .ref mc, .ref me, .int so, .ref mau, .ref mad, .int mw, .ref mwg, .ref mgv, .ref msq])), (me, .inl (cme, 20, .inl ge)), (mau, .inl (cma, 4, .inr (.inl (vp_updL a k ((f_mo_det (f_mo_load ge f n (nI k)) n) / (sgX all (gcdL 200 (f_mo_det (f_mo_load ge f n (nI k)) n) all))))))), (mad, .inl (cmb, 4, .inr (.inl (vp_updL b k (all / (sgX all (gcdL 200 (f_mo_det (f_mo_load ge f n (nI k)) n) all))))))), (msq, .inl (cms, 16, .inr (.inl (f_mo_load ge f n (nI k)))))] H := hP
        have hD : va_D A [(m0, .inr (4, [.int 0, .int mk, .int mv, .ref mu, .ref md, .long up, .long dn, .int mr, .ref mc, .ref me, .int so, .ref mau, .ref mad, .int mw, .ref mwg, .ref mgv, .ref msq])), (me, .inl (cme, 20, .inl ge)), (mau, .inl (cma, 4, .inr (.inl (vp_updL a k ((f_mo_det (f_mo_load ge f n (nI k)) n) / (sgX all (gcdL 200 (f_mo_det (f_mo_load ge f n (nI k)) n) all))))))), (mad, .inl (cmb, 4, .inr (.inl (vp_updL b k (all / (sgX all (gcdL 200 (f_mo_det (f_mo_load ge f n (nI k)) n) all))))))), (msq, .inl (cms, 16, .inr (.inl (f_mo_load ge f n (nI k)))))] := hD
        refine lv_iinc (v := (nI k) + 1) (lv' := [(4, .int ((nI k) + 1)), (7, .long (sgX all (gcdL 200 (f_mo_det (f_mo_load ge f n (nI k)) n) all))), (0, .ref m0), (1, .int (nI n)), (2, .long all), (5, .long (f_mo_det (f_mo_load ge f n (nI k)) n))]) hx hb d_mo_solve_150 hl (k := 4) rfl rfl (by decide) rfl (fun ls hl => ?_)
        refine lv_goto (tgt := 56) hx hb d_mo_solve_153 (by decide) ?_
        exact ih (k + 1) _ _ _ (by omega) hk H locs ls hP hD hS (by have h9 := lv_sub hl [2, 3, 4, 0] rfl; rw [nI_1] at h9; exact h9)
      · refine lv_lload hx hb d_mo_solve_117 (lv_at hl 5 rfl) ?_
        refine lv_lneg hx hb d_mo_solve_119 ?_
        refine lv_goto (tgt := 125) hx hb d_mo_solve_120 (by decide) ?_
        rw [show -(gcdL 200 (f_mo_det (f_mo_load ge f n (nI k)) n) all) = sgX all (gcdL 200 (f_mo_det (f_mo_load ge f n (nI k)) n) all) from by unfold sgX; rw [if_neg c_11]]
        refine lv_lstore (lv' := [(7, .long (sgX all (gcdL 200 (f_mo_det (f_mo_load ge f n (nI k)) n) all))), (0, .ref m0), (1, .int (nI n)), (2, .long all), (4, .int (nI k)), (5, .long (f_mo_det (f_mo_load ge f n (nI k)) n))]) hx hb d_mo_solve_125 hl (by decide) rfl (fun ls hl => ?_)
        refine lv_aload_n hx hb d_mo_solve_127 rfl (lv_at hl 1 rfl) ?_
        refine va_get (D := (dC, dI)) (ci := 4) (v := .ref mau) (C := R_mo) (T := F_mo) (N := 17) hx hb hT i_mo hown hK hP 0 rfl rfl 11 (by decide) (hT _ k_166) (fun _ h9 => h9) rfl d_mo_solve_128 ?_
        refine lv_iload hx hb d_mo_solve_131 (lv_at hl 4 rfl) ?_
        refine lv_lload hx hb d_mo_solve_133 (lv_at hl 5 rfl) ?_
        refine lv_lload hx hb d_mo_solve_135 (lv_at hl 0 rfl) ?_
        refine lv_ldiv hx hb d_mo_solve_137 (sgX_ne0 (gcdL_y h0)) ?_
        refine va_lastN (i := k) hx hb hK hP hD hS 2 1 rfl rfl ⟨by omega, by decide⟩ d_mo_solve_138 (fun H locs hP hD hS => ?_)
        have hP : va_P (dC, dI) classes [(m0, .inr (4, [.int 0, .int mk, .int mv, .ref mu, .ref md, .long up, .long dn, .int mr, .ref mc, .ref me, .int so, .ref mau, .ref mad, .int mw, .ref mwg, .ref mgv, .ref msq])), (me, .inl (cme, 20, .inl ge)), (mau, .inl (cma, 4, .inr (.inl (vp_updL a k ((f_mo_det (f_mo_load ge f n (nI k)) n) / (sgX all (gcdL 200 (f_mo_det (f_mo_load ge f n (nI k)) n) all))))))), (mad, .inl (cmb, 4, .inr (.inl b))), (msq, .inl (cms, 16, .inr (.inl (f_mo_load ge f n (nI k)))))] H := hP
        have hD : va_D A [(m0, .inr (4, [.int 0, .int mk, .int mv, .ref mu, .ref md, .long up, .long dn, .int mr, .ref mc, .ref me, .int so, .ref mau, .ref mad, .int mw, .ref mwg, .ref mgv, .ref msq])), (me, .inl (cme, 20, .inl ge)), (mau, .inl (cma, 4, .inr (.inl (vp_updL a k ((f_mo_det (f_mo_load ge f n (nI k)) n) / (sgX all (gcdL 200 (f_mo_det (f_mo_load ge f n (nI k)) n) all))))))), (mad, .inl (cmb, 4, .inr (.inl b))), (msq, .inl (cms, 16, .inr (.inl (f_mo_load ge f n (nI k)))))] := hD
        refine lv_aload_n hx hb d_mo_solve_139 rfl (lv_at hl 1 rfl) ?_
        refine va_get (D := (dC, dI)) (ci := 4) (v := .ref mad) (C := R_mo) (T := F_mo) (N := 17) hx hb hT i_mo hown hK hP 0 rfl rfl 12 (by decide) (hT _ k_165) (fun _ h9 => h9) rfl d_mo_solve_140 ?_
        refine lv_iload hx hb d_mo_solve_143 (lv_at hl 4 rfl) ?_
        refine lv_lload_n hx hb d_mo_solve_145 rfl (lv_at hl 3 rfl) ?_
        refine lv_lload hx hb d_mo_solve_146 (lv_at hl 0 rfl) ?_
        refine lv_ldiv hx hb d_mo_solve_148 (sgX_ne0 (gcdL_y h0)) ?_
        refine va_lastN (i := k) hx hb hK hP hD hS 3 2 rfl rfl ⟨by omega, by decide⟩ d_mo_solve_149 (fun H locs hP hD hS => ?_)
        have hP : va_P (dC, dI) classes [(m0, .inr (4, [.int 0, .int mk, .int mv, .ref mu, .ref md, .long up, .long dn, .int mr, .ref mc, .ref me, .int so, .ref mau, .ref mad, .int mw, .ref mwg, .ref mgv, .ref msq])), (me, .inl (cme, 20, .inl ge)), (mau, .inl (cma, 4, .inr (.inl (vp_updL a k ((f_mo_det (f_mo_load ge f n (nI k)) n) / (sgX all (gcdL 200 (f_mo_det (f_mo_load ge f n (nI k)) n) all))))))), (mad, .inl (cmb, 4, .inr (.inl (vp_updL b k (all / (sgX all (gcdL 200 (f_mo_det (f_mo_load ge f n (nI k)) n) all))))))), (msq, .inl (cms, 16, .inr (.inl (f_mo_load ge f n (nI k)))))] H := hP
        have hD : va_D A [(m0, .inr (4, [.int 0, .int mk, .int mv, .ref mu, .ref md, .long up, .long dn, .int mr, .ref mc, .ref me, .int so, .ref mau, .ref mad, .int mw, .ref mwg, .ref mgv, .ref msq])), (me, .inl (cme, 20, .inl ge)), (mau, .inl (cma, 4, .inr (.inl (vp_updL a k ((f_mo_det (f_mo_load ge f n (nI k)) n) / (sgX all (gcdL 200 (f_mo_det (f_mo_load ge f n (nI k)) n) all))))))), (mad, .inl (cmb, 4, .inr (.inl (vp_updL b k (all / (sgX all (gcdL 200 (f_mo_det (f_mo_load ge f n (nI k)) n) all))))))), (msq, .inl (cms, 16, .inr (.inl (f_mo_load ge f n (nI k)))))] := hD
        refine lv_iinc (v := (nI k) + 1) (lv' := [(4, .int ((nI k) + 1)), (7, .long (sgX all (gcdL 200 (f_mo_det (f_mo_load ge f n (nI k)) n) all))), (0, .ref m0), (1, .int (nI n)), (2, .long all), (5, .long (f_mo_det (f_mo_load ge f n (nI k)) n))]) hx hb d_mo_solve_150 hl (k := 4) rfl rfl (by decide) rfl (fun ls hl => ?_)
        refine lv_goto (tgt := 56) hx hb d_mo_solve_153 (by decide) ?_
        exact ih (k + 1) _ _ _ (by omega) hk H locs ls hP hD hS (by have h9 := lv_sub hl [2, 3, 4, 0] rfl; rw [nI_1] at h9; exact h9)
def mo_solveE (n : Nat) (ge : Nat → Int32) (ga gb gs : Nat → Int64) (so : Int32) : Int32 × Int32 × Int32 × (Nat → Int64) × (Nat → Int64) × (Nat → Int64) :=
  if (fmL ge n n 1 gs).1 = 0 then
    (0, 0, nI n, (anL ge n (f_mo_det (f_mo_load ge (fmL ge n n 1 gs).2 n (-1)) n) n 0 (f_mo_load ge (fmL ge n n 1 gs).2 n (-1)) ga gb).2.1, (anL ge n (f_mo_det (f_mo_load ge (fmL ge n n 1 gs).2 n (-1)) n) n 0 (f_mo_load ge (fmL ge n n 1 gs).2 n (-1)) ga gb).2.2, (anL ge n (f_mo_det (f_mo_load ge (fmL ge n n 1 gs).2 n (-1)) n) n 0 (f_mo_load ge (fmL ge n n 1 gs).2 n (-1)) ga gb).1)
  else ((fmL ge n n 1 gs).1, 0, so, ga, gb, (fmL ge n n 1 gs).2)
theorem size_n1 {size : Int32} (h1 : ¬ size < 1) (h2 : size ≤ 4) : ∃ n, n ≤ 4 ∧ 1 ≤ n ∧ size = nI n := by
  obtain ⟨n, hn, e⟩ := size_n h1 h2
  refine ⟨n, hn, ?_, e⟩
  rcases Nat.eq_zero_or_pos n with q | q
  · subst q
    subst e
    exact absurd (by decide) h1
  · exact q
def f_mo_solve (so : Int32) (ge : Nat → Int32) (ga : Nat → Int64) (gb : Nat → Int64) (gs : Nat → Int64) (size : Int32) : Int32 × Int32 × Int32 × (Nat → Int64) × (Nat → Int64) × (Nat → Int64) :=
  if size < 1 then ((-1), 0, so, ga, gb, gs) else if size ≤ 4 then (mo_solveE size.toNatClampNeg ge ga gb gs so) else ((-1), 0, so, ga, gb, gs)
set_option maxHeartbeats 4000000 in
set_option maxRecDepth 100000 in
theorem c_mo_solve (l : Launch) (dC : Nat → ClassId) (dI : Nat → Nat → Nat) (sz : Nat) (m0 : Nat) (me : Nat) (mau : Nat) (mad : Nat) (msq : Nat) (th : Int32) (mk : Int32) (mv : Int32) (mu : Nat) (md : Nat) (up : Int64) (dn : Int64) (mr : Int32) (mc : Nat) (so : Int32) (mw : Int32) (mwg : Nat) (mgv : Nat) (cme : ClassId) (ge : Nat → Int32) (cma : ClassId) (ga : Nat → Int64) (cmb : ClassId) (gb : Nat → Int64) (cms : ClassId) (gs : Nat → Int64) (size : Int32) (hall : ∀ n, n ≤ 4 → size = nI n → (fmL ge n n 1 gs).1 = 0 → ¬ f_mo_det (f_mo_load ge (fmL ge n n 1 gs).2 n (-1)) n = 0) : Met l y_mo_solve w_mo_solve ({ frames := 2, cells := 0, slots := 0, locals := 60 }) (va_Pc [.ref m0, .int size] (fun U => U.heap.size = sz ∧ va_P (dC, dI) classes [(m0, .inr (4, [.int th, .int mk, .int mv, .ref mu, .ref md, .long up, .long dn, .int mr, .ref mc, .ref me, .int so, .ref mau, .ref mad, .int mw, .ref mwg, .ref mgv, .ref msq])), (me, .inl (cme, 20, .inl ge)), (mau, .inl (cma, 4, .inr (.inl ga))), (mad, .inl (cmb, 4, .inr (.inl gb))), (msq, .inl (cms, 16, .inr (.inl gs)))] U.heap ∧ va_K (dC, dI) classes [(cme, .int), (cma, .long), (cmb, .long), (cms, .long)] U ∧ va_D (fun _ => True) [(m0, .inr (4, [.int th, .int mk, .int mv, .ref mu, .ref md, .long up, .long dn, .int mr, .ref mc, .ref me, .int so, .ref mau, .ref mad, .int mw, .ref mwg, .ref mgv, .ref msq])), (me, .inl (cme, 20, .inl ge)), (mau, .inl (cma, 4, .inr (.inl ga))), (mad, .inl (cmb, 4, .inr (.inl gb))), (msq, .inl (cms, 16, .inr (.inl gs)))])) (va_Qi (fun z9 u9 => (z9, u9) = f_mo_solve so ge ga gb gs size) (fun (u : Int32 × Int32 × (Nat → Int64) × (Nat → Int64) × (Nat → Int64)) t => match u with | (th', so', ga', gb', gs') => va_P (dC, dI) classes [(m0, .inr (4, [.int th', .int mk, .int mv, .ref mu, .ref md, .long up, .long dn, .int mr, .ref mc, .ref me, .int so', .ref mau, .ref mad, .int mw, .ref mwg, .ref mgv, .ref msq])), (me, .inl (cme, 20, .inl ge)), (mau, .inl (cma, 4, .inr (.inl ga'))), (mad, .inl (cmb, 4, .inr (.inl gb'))), (msq, .inl (cms, 16, .inr (.inl gs')))] t.heap ∧ va_K (dC, dI) classes [(cme, .int), (cma, .long), (cmb, .long), (cms, .long)] t ∧ va_D (va_A [(m0, .inr (4, [.int th, .int mk, .int mv, .ref mu, .ref md, .long up, .long dn, .int mr, .ref mc, .ref me, .int so, .ref mau, .ref mad, .int mw, .ref mwg, .ref mgv, .ref msq])), (me, .inl (cme, 20, .inl ge)), (mau, .inl (cma, 4, .inr (.inl ga))), (mad, .inl (cmb, 4, .inr (.inl gb))), (msq, .inl (cms, 16, .inr (.inl gs)))] sz) [(m0, .inr (4, [.int th', .int mk, .int mv, .ref mu, .ref md, .long up, .long dn, .int mr, .ref mc, .ref me, .int so', .ref mau, .ref mad, .int mw, .ref mwg, .ref mgv, .ref msq])), (me, .inl (cme, 20, .inl ge)), (mau, .inl (cma, 4, .inr (.inl ga'))), (mad, .inl (cmb, 4, .inr (.inl gb'))), (msq, .inl (cms, 16, .inr (.inl gs')))]) (va_A [(m0, .inr (4, [.int th, .int mk, .int mv, .ref mu, .ref md, .long up, .long dn, .int mr, .ref mc, .ref me, .int so, .ref mau, .ref mad, .int mw, .ref mwg, .ref mgv, .ref msq])), (me, .inl (cme, 20, .inl ge)), (mau, .inl (cma, 4, .inr (.inl ga))), (mad, .inl (cmb, 4, .inr (.inl gb))), (msq, .inl (cms, 16, .inr (.inl gs)))] sz)) 0 0 (va_A [(m0, .inr (4, [.int th, .int mk, .int mv, .ref mu, .ref md, .long up, .long dn, .int mr, .ref mc, .ref me, .int so, .ref mau, .ref mad, .int mw, .ref mwg, .ref mgv, .ref msq])), (me, .inl (cme, 20, .inl ge)), (mau, .inl (cma, 4, .inr (.inl ga))), (mad, .inl (cmb, 4, .inr (.inl gb))), (msq, .inl (cms, 16, .inr (.inl gs)))] sz) := by
  refine Met.ofW (cc := b_mo_solve) (maxL := 13) (ret := (some .int)) (by decide +kernel) rfl ?_
  intro p e s m args below meth c s₁ B hml hv
  obtain ⟨rfl, hsz, hP, hK, hD0⟩ := hv
  have hx := B.exec
  have hb := B.bytes
  have hr := B.returns
  have hts := atoms_spec (ws := w_mo_solve) B.pre
  have hT := fun (w : Cond) (h : w ∈ kt_T) => hts w (List.mem_cons_of_mem _ h)
  have hown : s.vm.findClass R_mo = some m.cls := findClass_of_methodNamed B.named
  have hlocks := B.notSynchronized
  subst hsz
  have hD := hD0.self (sz := s.heap.size)
  generalize hAe : va_A [(m0, .inr (4, [.int th, .int mk, .int mv, .ref mu, .ref md, .long up, .long dn, .int mr, .ref mc, .ref me, .int so, .ref mau, .ref mad, .int mw, .ref mwg, .ref mgv, .ref msq])), (me, .inl (cme, 20, .inl ge)), (mau, .inl (cma, 4, .inr (.inl ga))), (mad, .inl (cmb, 4, .inr (.inl gb))), (msq, .inl (cms, 16, .inr (.inl gs)))] s.heap.size = A at hD ⊢
  have hA : ∀ q : Nat, s.heap.size ≤ q → A q := fun q h => by rw [← hAe]; exact Or.inr h
  have hS : va_S A s.heap s.heap [] := va_S.rf
  have hl := lv_entry ([.ref m0, .int size]) (n := 13) (Nat.le_of_ble_eq_true rfl)
  rw [lg_entry_eq]
  generalize (lg_sl ([.ref m0, .int size]) ++ List.replicate (13 - (lg_sl ([.ref m0, .int size])).length) Slot.unset).toArray = ls at hl ⊢
  have hl : lv_has ls 13 [(0, .ref m0), (1, .int size)] := hl
  refine lv_aload_n hx hb d_mo_solve_0 rfl (lv_at hl 0 rfl) ?_
  refine lv_iconst (v := 0) hx hb d_mo_solve_1 (by decide) ?_
  refine va_put (D := (dC, dI)) (ci := 4) (v := .int 0) (ty := .int) (C := R_mo) (T := F_mo) (N := 17) hx hb hT i_mo t_mo t_mo_ok n_mo hown hK hP hD hS 0 rfl rfl 0 (by decide) (hT _ k_127) (fun _ h9 => h9) rfl (by decide +kernel) rfl rfl (Nat.le_of_ble_eq_true rfl) d_mo_solve_2 (fun H locs hP hD hS => ?_)
  have hP : va_P (dC, dI) classes [(m0, .inr (4, [.int 0, .int mk, .int mv, .ref mu, .ref md, .long up, .long dn, .int mr, .ref mc, .ref me, .int so, .ref mau, .ref mad, .int mw, .ref mwg, .ref mgv, .ref msq])), (me, .inl (cme, 20, .inl ge)), (mau, .inl (cma, 4, .inr (.inl ga))), (mad, .inl (cmb, 4, .inr (.inl gb))), (msq, .inl (cms, 16, .inr (.inl gs)))] H := hP
  have hD : va_D A [(m0, .inr (4, [.int 0, .int mk, .int mv, .ref mu, .ref md, .long up, .long dn, .int mr, .ref mc, .ref me, .int so, .ref mau, .ref mad, .int mw, .ref mwg, .ref mgv, .ref msq])), (me, .inl (cme, 20, .inl ge)), (mau, .inl (cma, 4, .inr (.inl ga))), (mad, .inl (cmb, 4, .inr (.inl gb))), (msq, .inl (cms, 16, .inr (.inl gs)))] := hD
  refine lv_iload_n hx hb d_mo_solve_5 rfl (lv_at hl 1 rfl) ?_
  refine lv_iconst (v := 1) hx hb d_mo_solve_6 (by decide) ?_
  refine lv_icmp_lt (tgt := 15) hx hb d_mo_solve_7 (by decide) (fun c_1 => ?_) (fun c_1 => ?_)
  · refine lv_iconst (v := (-1)) hx hb d_mo_solve_15 (by decide) ?_
    exact W.iret (v := (-1)) hx hb hr (fun t ht hW => ⟨⟨(-1), (0, so, ga, gb, gs), rfl, by unfold f_mo_solve; rw [if_pos c_1], by rw [ht]; exact hP, va_K.moved hW.alike hK, hD⟩, hS.F ht⟩) hS.2.2 d_mo_solve_16
  · refine lv_iload_n hx hb d_mo_solve_10 rfl (lv_at hl 1 rfl) ?_
    refine lv_iconst (v := 4) hx hb d_mo_solve_11 (by decide) ?_
    refine lv_icmp_le (tgt := 17) hx hb d_mo_solve_12 (by decide) (fun c_2 => ?_) (fun c_2 => ?_)
    · obtain ⟨n, hn, hn1, rfl⟩ := size_n1 c_1 c_2
      refine lv_iconst (v := 1) hx hb d_mo_solve_17 (by decide) ?_
      refine lv_istore_n (lv' := [(2, .int 1), (0, .ref m0), (1, .int (nI n))]) hx hb d_mo_solve_18 rfl hl (by decide) rfl (fun ls hl => ?_)
      refine lp_mo_fm hx hb hml hown hT hA hK (Nat.le_of_ble_eq_true rfl) (Nat.le_of_ble_eq_true rfl) hn n 1 gs (by omega) (Nat.le_refl _) (fun v F hv e9 H locs ls hP hD hS hl => ?_) (fun F e9 H locs ls hP hD hS hl => ?_) H locs ls hP hD hS (lv_sub hl [1, 2, 0] rfl)
      · exact W.iret (v := v) hx hb hr (fun t ht hW => ⟨⟨v, (0, so, ga, gb, F), rfl, by unfold f_mo_solve; rw [if_neg c_1, if_pos c_2, nI_clamp (by omega)]; unfold mo_solveE; rw [e9]; exact (if_neg hv).symm, by rw [ht]; exact hP, va_K.moved hW.alike hK, hD⟩, hS.F ht⟩) hS.2.2 d_mo_solve_34
      · refine lv_aload_n hx hb d_mo_solve_41 rfl (lv_at hl 0 rfl) ?_
        refine lv_iload_n hx hb d_mo_solve_42 rfl (lv_at hl 1 rfl) ?_
        refine lv_iconst (v := (-1)) hx hb d_mo_solve_43 (by decide) ?_
        have hPc := hP.sub (ws' := [(m0, .inr (4, [.int 0, .int mk, .int mv, .ref mu, .ref md, .long up, .long dn, .int mr, .ref mc, .ref me, .int so, .ref mau, .ref mad, .int mw, .ref mwg, .ref mgv, .ref msq])), (me, .inl (cme, 20, .inl ge)), (msq, .inl (cms, 16, .inr (.inl F)))]) [0, 1, 4] rfl
        have hKc := hK.sub (tys' := [(cme, .int), (cms, .long)]) [0, 3] rfl
        have hDc := hD.sub (ws' := [(m0, .inr (4, [.int 0, .int mk, .int mv, .ref mu, .ref md, .long up, .long dn, .int mr, .ref mc, .ref me, .int so, .ref mau, .ref mad, .int mw, .ref mwg, .ref mgv, .ref msq])), (me, .inl (cme, 20, .inl ge)), (msq, .inl (cms, 16, .inr (.inl F)))]) [0, 1, 4] (by decide) rfl
        have hFc := va_free (wc := [(m0, .inr (4, [.int 0, .int mk, .int mv, .ref mu, .ref md, .long up, .long dn, .int mr, .ref mc, .ref me, .int so, .ref mau, .ref mad, .int mw, .ref mwg, .ref mgv, .ref msq])), (me, .inl (cme, 20, .inl ge)), (msq, .inl (cms, 16, .inr (.inl F)))]) hD hS hA [0, 1, 4] rfl
        refine va_callv (va_runV (As := [.int (nI n), .int (-1)]) (rest := []) ⟨hx, hb, hml, hown, hT⟩ (c_mo_load l dC dI H.size m0 me msq 0 mk mv mu md up dn mr mc so mau mad mw mwg mgv cme ge cms F n (-1) hn) (cwV 2 hT (kt_V k_184 k_182 k_183 k_136 k_181) rfl rfl rfl (by decide +kernel) ⟨Nat.le_of_ble_eq_true rfl, Nat.le_of_ble_eq_true rfl⟩) ⟨bl_M, va_recv hKc hPc (ci := 4) (q0 := 0) rfl rfl, fun U hU hW => ⟨rfl, by rw [hU], by rw [hU]; exact hPc, va_K.moved hW.alike hKc, hDc.weaken (fun _ _ _ _ => trivial)⟩⟩ rfl rfl hl.1 rfl (lv_room (Nat.le_of_ble_eq_true rfl)) d_mo_solve_44 ⟨Nat.zero_le _, Nat.zero_le _⟩) hS (fun q _ h => hFc q h) hFc (fun u t H1 locs ht hvm hw hB hz1 hk1 hS => ?_)
        obtain ⟨gs_3, rfl⟩ : ∃ z, z = u := ⟨_, rfl⟩
        obtain ⟨hP1, hK1, hD1⟩ := hB
        rw [ht] at hP1
        obtain ⟨hP, hD⟩ := va_join (wr := [(mau, .inl (cma, 4, .inr (.inl ga))), (mad, .inl (cmb, 4, .inr (.inl gb)))]) (w1 := [(m0, .inr (4, [.int 0, .int mk, .int mv, .ref mu, .ref md, .long up, .long dn, .int mr, .ref mc, .ref me, .int so, .ref mau, .ref mad, .int mw, .ref mwg, .ref mgv, .ref msq])), (me, .inl (cme, 20, .inl ge)), (msq, .inl (cms, 16, .inr (.inl gs_3)))]) hP hD [0, 1, 4] [2, 3] rfl rfl (by decide) (by decide) hk1 hFc hP1 hD1
        generalize H1 = H at hP hS ⊢
        have hP := hP.sub (ws' := [(m0, .inr (4, [.int 0, .int mk, .int mv, .ref mu, .ref md, .long up, .long dn, .int mr, .ref mc, .ref me, .int so, .ref mau, .ref mad, .int mw, .ref mwg, .ref mgv, .ref msq])), (me, .inl (cme, 20, .inl ge)), (mau, .inl (cma, 4, .inr (.inl ga))), (mad, .inl (cmb, 4, .inr (.inl gb))), (msq, .inl (cms, 16, .inr (.inl gs_3)))]) [2, 3, 0, 1, 4] rfl
        have hD := hD.sub (ws' := [(m0, .inr (4, [.int 0, .int mk, .int mv, .ref mu, .ref md, .long up, .long dn, .int mr, .ref mc, .ref me, .int so, .ref mau, .ref mad, .int mw, .ref mwg, .ref mgv, .ref msq])), (me, .inl (cme, 20, .inl ge)), (mau, .inl (cma, 4, .inr (.inl ga))), (mad, .inl (cmb, 4, .inr (.inl gb))), (msq, .inl (cms, 16, .inr (.inl gs_3)))]) [2, 3, 0, 1, 4] (by decide) rfl
        subst hw
        clear hP1 hK1 hD1 hk1 hz1 hFc hDc hPc hKc
        refine lv_aload_n hx hb d_mo_solve_47 rfl (lv_at hl 0 rfl) ?_
        refine lv_iload_n hx hb d_mo_solve_48 rfl (lv_at hl 1 rfl) ?_
        have hPc := hP.sub (ws' := [(m0, .inr (4, [.int 0, .int mk, .int mv, .ref mu, .ref md, .long up, .long dn, .int mr, .ref mc, .ref me, .int so, .ref mau, .ref mad, .int mw, .ref mwg, .ref mgv, .ref msq])), (msq, .inl (cms, 16, .inr (.inl (f_mo_load ge F n (-1)))))]) [0, 4] rfl
        have hKc := hK.sub (tys' := [(cms, .long)]) [3] rfl
        refine vp_callSl (W.runV (As := [.int (nI n)]) (rest := []) ⟨hx, hb, hml, hown, hT⟩ (c_mo_det l dC dI m0 msq 0 mk mv mu md up dn mr mc me so mau mad mw mwg mgv cms (f_mo_load ge F n (-1)) n hn hn1) (cwV 1 hT (kt_V k_176 k_174 k_175 k_136 k_173) rfl rfl rfl (by decide +kernel) ⟨Nat.le_of_ble_eq_true rfl, Nat.le_of_ble_eq_true rfl⟩) ⟨bl_R, va_recv hKc hPc (ci := 4) (q0 := 0) rfl rfl, fun U hU hW => ⟨rfl, by rw [hU]; exact hPc, va_K.moved hW.alike hKc⟩⟩ rfl rfl hl.1 rfl (lv_room (Nat.le_of_ble_eq_true rfl)) d_mo_solve_49 ⟨Nat.zero_le _, Nat.zero_le _⟩) (fun r_4 e_r_4 => ?_)
        subst e_r_4
        refine lv_lstore_n (lv' := [(2, .long (f_mo_det (f_mo_load ge F n (-1)) n)), (0, .ref m0), (1, .int (nI n))]) hx hb d_mo_solve_52 rfl hl (by decide) rfl (fun ls hl => ?_)
        refine lv_iconst (v := 0) hx hb d_mo_solve_53 (by decide) ?_
        refine lv_istore (lv' := [(4, .int 0), (2, .long (f_mo_det (f_mo_load ge F n (-1)) n)), (0, .ref m0), (1, .int (nI n))]) hx hb d_mo_solve_54 hl (by decide) rfl (fun ls hl => ?_)
        refine lp_mo_an hx hb hml hown hT hA hK (Nat.le_of_ble_eq_true rfl) (Nat.le_of_ble_eq_true rfl) hn hn1 (by have h9 := hall n hn rfl (by rw [e9]); rw [e9] at h9; exact h9) n 0 (f_mo_load ge F n (-1)) ga gb (Nat.zero_add _) (fun H locs ls hP hD hS hl => ?_) H locs ls hP hD hS (lv_sub hl [2, 3, 1, 0] rfl)
        refine lv_aload_n hx hb d_mo_solve_156 rfl (lv_at hl 0 rfl) ?_
        refine lv_iload_n hx hb d_mo_solve_157 rfl (lv_at hl 1 rfl) ?_
        refine va_put (D := (dC, dI)) (ci := 4) (v := .int (nI n)) (ty := .int) (C := R_mo) (T := F_mo) (N := 17) hx hb hT i_mo t_mo t_mo_ok n_mo hown hK hP hD hS 0 rfl rfl 10 (by decide) (hT _ k_164) (fun _ h9 => h9) rfl (by decide +kernel) rfl rfl (Nat.le_of_ble_eq_true rfl) d_mo_solve_158 (fun H locs hP hD hS => ?_)
        have hP : va_P (dC, dI) classes [(m0, .inr (4, [.int 0, .int mk, .int mv, .ref mu, .ref md, .long up, .long dn, .int mr, .ref mc, .ref me, .int (nI n), .ref mau, .ref mad, .int mw, .ref mwg, .ref mgv, .ref msq])), (me, .inl (cme, 20, .inl ge)), (mau, .inl (cma, 4, .inr (.inl ((anL ge n (f_mo_det (f_mo_load ge F n (-1)) n) n 0 (f_mo_load ge F n (-1)) ga gb).2.1)))), (mad, .inl (cmb, 4, .inr (.inl ((anL ge n (f_mo_det (f_mo_load ge F n (-1)) n) n 0 (f_mo_load ge F n (-1)) ga gb).2.2)))), (msq, .inl (cms, 16, .inr (.inl ((anL ge n (f_mo_det (f_mo_load ge F n (-1)) n) n 0 (f_mo_load ge F n (-1)) ga gb).1))))] H := hP
        have hD : va_D A [(m0, .inr (4, [.int 0, .int mk, .int mv, .ref mu, .ref md, .long up, .long dn, .int mr, .ref mc, .ref me, .int (nI n), .ref mau, .ref mad, .int mw, .ref mwg, .ref mgv, .ref msq])), (me, .inl (cme, 20, .inl ge)), (mau, .inl (cma, 4, .inr (.inl ((anL ge n (f_mo_det (f_mo_load ge F n (-1)) n) n 0 (f_mo_load ge F n (-1)) ga gb).2.1)))), (mad, .inl (cmb, 4, .inr (.inl ((anL ge n (f_mo_det (f_mo_load ge F n (-1)) n) n 0 (f_mo_load ge F n (-1)) ga gb).2.2)))), (msq, .inl (cms, 16, .inr (.inl ((anL ge n (f_mo_det (f_mo_load ge F n (-1)) n) n 0 (f_mo_load ge F n (-1)) ga gb).1))))] := hD
        refine lv_iconst (v := 0) hx hb d_mo_solve_161 (by decide) ?_
        exact W.iret (v := 0) hx hb hr (fun t ht hW => ⟨⟨0, (0, (nI n), (anL ge n (f_mo_det (f_mo_load ge F n (-1)) n) n 0 (f_mo_load ge F n (-1)) ga gb).2.1, (anL ge n (f_mo_det (f_mo_load ge F n (-1)) n) n 0 (f_mo_load ge F n (-1)) ga gb).2.2, (anL ge n (f_mo_det (f_mo_load ge F n (-1)) n) n 0 (f_mo_load ge F n (-1)) ga gb).1), rfl, by unfold f_mo_solve; rw [if_neg c_1, if_pos c_2, nI_clamp (by omega)]; unfold mo_solveE; rw [e9]; rfl, by rw [ht]; exact hP, va_K.moved hW.alike hK, hD⟩, hS.F ht⟩) hS.2.2 d_mo_solve_162
    · refine lv_iconst (v := (-1)) hx hb d_mo_solve_15 (by decide) ?_
      exact W.iret (v := (-1)) hx hb hr (fun t ht hW => ⟨⟨(-1), (0, so, ga, gb, gs), rfl, by unfold f_mo_solve; rw [if_neg c_1, if_neg c_2], by rw [ht]; exact hP, va_K.moved hW.alike hK, hD⟩, hS.F ht⟩) hS.2.2 d_mo_solve_16
