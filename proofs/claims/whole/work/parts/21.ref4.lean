abbrev b_mo_det : ByteArray := prog_6_method_23_code
def y_mo_det : MethodName := ⟨R_mo, "determinant", "(I)J"⟩
def w_mo_det : List Cond := .code y_mo_det b_mo_det 14 (some .long) :: kt_T
theorem d_mo_det_0 : decode b_mo_det 0 = .ok (.iconst 1, 1) := by decide +kernel
theorem d_mo_det_1 : decode b_mo_det 1 = .ok (.istore_n 2, 1) := by decide +kernel
theorem d_mo_det_2 : decode b_mo_det 2 = .ok (.iconst 0, 1) := by decide +kernel
theorem d_mo_det_3 : decode b_mo_det 3 = .ok (.istore_n 3, 1) := by decide +kernel
theorem d_mo_det_4 : decode b_mo_det 4 = .ok (.iload_n 3, 1) := by decide +kernel
theorem d_mo_det_5 : decode b_mo_det 5 = .ok (.iload_n 1, 1) := by decide +kernel
theorem d_mo_det_6 : decode b_mo_det 6 = .ok (.if_icmp .ge 13, 3) := by decide +kernel
theorem d_mo_det_9 : decode b_mo_det 9 = .ok (.iload_n 2, 1) := by decide +kernel
theorem d_mo_det_10 : decode b_mo_det 10 = .ok (.iload_n 1, 1) := by decide +kernel
theorem d_mo_det_11 : decode b_mo_det 11 = .ok (.imul, 1) := by decide +kernel
theorem d_mo_det_12 : decode b_mo_det 12 = .ok (.istore_n 2, 1) := by decide +kernel
theorem d_mo_det_13 : decode b_mo_det 13 = .ok (.iinc 3 1, 3) := by decide +kernel
theorem d_mo_det_16 : decode b_mo_det 16 = .ok (.goto (-12), 3) := by decide +kernel
theorem d_mo_det_19 : decode b_mo_det 19 = .ok (.lconst 0, 1) := by decide +kernel
theorem d_mo_det_20 : decode b_mo_det 20 = .ok (.lstore_n 3, 1) := by decide +kernel
theorem d_mo_det_21 : decode b_mo_det 21 = .ok (.iconst 0, 1) := by decide +kernel
theorem d_mo_det_22 : decode b_mo_det 22 = .ok (.istore 5, 2) := by decide +kernel
theorem d_mo_det_24 : decode b_mo_det 24 = .ok (.iload 5, 2) := by decide +kernel
theorem d_mo_det_26 : decode b_mo_det 26 = .ok (.iload_n 2, 1) := by decide +kernel
theorem d_mo_det_27 : decode b_mo_det 27 = .ok (.if_icmp .ge 139, 3) := by decide +kernel
theorem d_mo_det_30 : decode b_mo_det 30 = .ok (.lconst 1, 1) := by decide +kernel
theorem d_mo_det_31 : decode b_mo_det 31 = .ok (.lstore 6, 2) := by decide +kernel
theorem d_mo_det_33 : decode b_mo_det 33 = .ok (.iconst 0, 1) := by decide +kernel
theorem d_mo_det_34 : decode b_mo_det 34 = .ok (.istore 8, 2) := by decide +kernel
theorem d_mo_det_36 : decode b_mo_det 36 = .ok (.iload 5, 2) := by decide +kernel
theorem d_mo_det_38 : decode b_mo_det 38 = .ok (.istore 9, 2) := by decide +kernel
theorem d_mo_det_40 : decode b_mo_det 40 = .ok (.iconst 0, 1) := by decide +kernel
theorem d_mo_det_41 : decode b_mo_det 41 = .ok (.istore 10, 2) := by decide +kernel
theorem d_mo_det_43 : decode b_mo_det 43 = .ok (.iconst 0, 1) := by decide +kernel
theorem d_mo_det_44 : decode b_mo_det 44 = .ok (.istore 11, 2) := by decide +kernel
theorem d_mo_det_46 : decode b_mo_det 46 = .ok (.iload 11, 2) := by decide +kernel
theorem d_mo_det_48 : decode b_mo_det 48 = .ok (.iload_n 1, 1) := by decide +kernel
theorem d_mo_det_49 : decode b_mo_det 49 = .ok (.if_icmp .ge 92, 3) := by decide +kernel
theorem d_mo_det_52 : decode b_mo_det 52 = .ok (.iload 9, 2) := by decide +kernel
theorem d_mo_det_54 : decode b_mo_det 54 = .ok (.iload_n 1, 1) := by decide +kernel
theorem d_mo_det_55 : decode b_mo_det 55 = .ok (.irem, 1) := by decide +kernel
theorem d_mo_det_56 : decode b_mo_det 56 = .ok (.istore 12, 2) := by decide +kernel
theorem d_mo_det_58 : decode b_mo_det 58 = .ok (.iload 9, 2) := by decide +kernel
theorem d_mo_det_60 : decode b_mo_det 60 = .ok (.iload_n 1, 1) := by decide +kernel
theorem d_mo_det_61 : decode b_mo_det 61 = .ok (.idiv, 1) := by decide +kernel
theorem d_mo_det_62 : decode b_mo_det 62 = .ok (.istore 9, 2) := by decide +kernel
theorem d_mo_det_64 : decode b_mo_det 64 = .ok (.iload 12, 2) := by decide +kernel
theorem d_mo_det_66 : decode b_mo_det 66 = .ok (.iconst 1, 1) := by decide +kernel
theorem d_mo_det_67 : decode b_mo_det 67 = .ok (.iadd, 1) := by decide +kernel
theorem d_mo_det_68 : decode b_mo_det 68 = .ok (.istore 13, 2) := by decide +kernel
theorem d_mo_det_70 : decode b_mo_det 70 = .ok (.iload 13, 2) := by decide +kernel
theorem d_mo_det_72 : decode b_mo_det 72 = .ok (.iload_n 1, 1) := by decide +kernel
theorem d_mo_det_73 : decode b_mo_det 73 = .ok (.if_icmp .ge 21, 3) := by decide +kernel
theorem d_mo_det_76 : decode b_mo_det 76 = .ok (.iload 10, 2) := by decide +kernel
theorem d_mo_det_78 : decode b_mo_det 78 = .ok (.iload 8, 2) := by decide +kernel
theorem d_mo_det_80 : decode b_mo_det 80 = .ok (.iload 13, 2) := by decide +kernel
theorem d_mo_det_82 : decode b_mo_det 82 = .ok (.ishr, 1) := by decide +kernel
theorem d_mo_det_83 : decode b_mo_det 83 = .ok (.iconst 1, 1) := by decide +kernel
theorem d_mo_det_84 : decode b_mo_det 84 = .ok (.iand, 1) := by decide +kernel
theorem d_mo_det_85 : decode b_mo_det 85 = .ok (.iadd, 1) := by decide +kernel
theorem d_mo_det_86 : decode b_mo_det 86 = .ok (.istore 10, 2) := by decide +kernel
theorem d_mo_det_88 : decode b_mo_det 88 = .ok (.iinc 13 1, 3) := by decide +kernel
theorem d_mo_det_91 : decode b_mo_det 91 = .ok (.goto (-21), 3) := by decide +kernel
theorem d_mo_det_94 : decode b_mo_det 94 = .ok (.iload 8, 2) := by decide +kernel
theorem d_mo_det_96 : decode b_mo_det 96 = .ok (.iload 12, 2) := by decide +kernel
theorem d_mo_det_98 : decode b_mo_det 98 = .ok (.ishr, 1) := by decide +kernel
theorem d_mo_det_99 : decode b_mo_det 99 = .ok (.iconst 1, 1) := by decide +kernel
theorem d_mo_det_100 : decode b_mo_det 100 = .ok (.iand, 1) := by decide +kernel
theorem d_mo_det_101 : decode b_mo_det 101 = .ok (.iconst 1, 1) := by decide +kernel
theorem d_mo_det_102 : decode b_mo_det 102 = .ok (.if_icmp .ne 7, 3) := by decide +kernel
theorem d_mo_det_105 : decode b_mo_det 105 = .ok (.lconst 0, 1) := by decide +kernel
theorem d_mo_det_106 : decode b_mo_det 106 = .ok (.goto 18, 3) := by decide +kernel
theorem d_mo_det_109 : decode b_mo_det 109 = .ok (.lload 6, 2) := by decide +kernel
theorem d_mo_det_111 : decode b_mo_det 111 = .ok (.aload_n 0, 1) := by decide +kernel
theorem d_mo_det_112 : decode b_mo_det 112 = .ok (.getfield 36, 3) := by decide +kernel
theorem d_mo_det_115 : decode b_mo_det 115 = .ok (.iconst 4, 1) := by decide +kernel
theorem d_mo_det_116 : decode b_mo_det 116 = .ok (.iload 11, 2) := by decide +kernel
theorem d_mo_det_118 : decode b_mo_det 118 = .ok (.imul, 1) := by decide +kernel
theorem d_mo_det_119 : decode b_mo_det 119 = .ok (.iload 12, 2) := by decide +kernel
theorem d_mo_det_121 : decode b_mo_det 121 = .ok (.iadd, 1) := by decide +kernel
theorem d_mo_det_122 : decode b_mo_det 122 = .ok (.laload, 1) := by decide +kernel
theorem d_mo_det_123 : decode b_mo_det 123 = .ok (.lmul, 1) := by decide +kernel
theorem d_mo_det_124 : decode b_mo_det 124 = .ok (.lstore 6, 2) := by decide +kernel
theorem d_mo_det_126 : decode b_mo_det 126 = .ok (.iload 8, 2) := by decide +kernel
theorem d_mo_det_128 : decode b_mo_det 128 = .ok (.iconst 1, 1) := by decide +kernel
theorem d_mo_det_129 : decode b_mo_det 129 = .ok (.iload 12, 2) := by decide +kernel
theorem d_mo_det_131 : decode b_mo_det 131 = .ok (.ishl, 1) := by decide +kernel
theorem d_mo_det_132 : decode b_mo_det 132 = .ok (.ior, 1) := by decide +kernel
theorem d_mo_det_133 : decode b_mo_det 133 = .ok (.istore 8, 2) := by decide +kernel
theorem d_mo_det_135 : decode b_mo_det 135 = .ok (.iinc 11 1, 3) := by decide +kernel
theorem d_mo_det_138 : decode b_mo_det 138 = .ok (.goto (-92), 3) := by decide +kernel
theorem d_mo_det_141 : decode b_mo_det 141 = .ok (.iload 10, 2) := by decide +kernel
theorem d_mo_det_143 : decode b_mo_det 143 = .ok (.iconst 2, 1) := by decide +kernel
theorem d_mo_det_144 : decode b_mo_det 144 = .ok (.irem, 1) := by decide +kernel
theorem d_mo_det_145 : decode b_mo_det 145 = .ok (.ifCond .ne 10, 3) := by decide +kernel
theorem d_mo_det_148 : decode b_mo_det 148 = .ok (.lload_n 3, 1) := by decide +kernel
theorem d_mo_det_149 : decode b_mo_det 149 = .ok (.lload 6, 2) := by decide +kernel
theorem d_mo_det_151 : decode b_mo_det 151 = .ok (.ladd, 1) := by decide +kernel
theorem d_mo_det_152 : decode b_mo_det 152 = .ok (.goto 7, 3) := by decide +kernel
theorem d_mo_det_155 : decode b_mo_det 155 = .ok (.lload_n 3, 1) := by decide +kernel
theorem d_mo_det_156 : decode b_mo_det 156 = .ok (.lload 6, 2) := by decide +kernel
theorem d_mo_det_158 : decode b_mo_det 158 = .ok (.lsub, 1) := by decide +kernel
theorem d_mo_det_159 : decode b_mo_det 159 = .ok (.lstore_n 3, 1) := by decide +kernel
theorem d_mo_det_160 : decode b_mo_det 160 = .ok (.iinc 5 1, 3) := by decide +kernel
theorem d_mo_det_163 : decode b_mo_det 163 = .ok (.goto (-139), 3) := by decide +kernel
theorem d_mo_det_166 : decode b_mo_det 166 = .ok (.lload_n 3, 1) := by decide +kernel
theorem d_mo_det_167 : decode b_mo_det 167 = .ok (.lreturn, 1) := by decide +kernel
theorem k_172 : (.fieldLink R_mo 36 "KilogramRowsModel" "square" "[J" : Cond) ∈ kt_T := List.mem_filter.mpr ⟨List.mem_of_getElem? (i := 425) (by decide +kernel), by decide +kernel⟩
theorem ix4 (r c : Nat) : (4 : Int32) * nI r + nI c = nI (4 * r + c) := by
  rw [show (4 : Int32) = nI 4 from rfl, pk_mul, nI_add]
theorem ix5 (r c : Nat) : (5 : Int32) * nI r + nI c = nI (5 * r + c) := by
  rw [show (5 : Int32) = nI 5 from rfl, pk_mul, nI_add]
def bitN (S k : Nat) : Nat := S / 2 ^ k % 2
theorem bit_n : ∀ S, S < 16 → ∀ k, k < 4 → ((nI S >>> (nI k &&& 31)) &&& 1) = nI (bitN S k) := by decide +kernel
theorem shl_n : ∀ n, n < 5 → ((1 : Int32) <<< (nI n &&& 31)) = nI (2 ^ n) := by decide +kernel
theorem bitN_le (S k : Nat) : bitN S k ≤ 1 := by unfold bitN; omega
theorem ior_n : ∀ S, S < 16 → ∀ k, k < 4 → (nI S ||| ((1 : Int32) <<< (nI k &&& 31))) = nI (S ||| 2 ^ k) := by decide +kernel
theorem or_lt : ∀ S, S < 16 → ∀ k, k < 4 → (S ||| 2 ^ k) < 16 := by decide +kernel
theorem pow_le4 : ∀ n, n < 5 → ∀ k, k ≤ n → n ^ k ≤ 256 := by decide +kernel
set_option maxHeartbeats 4000000 in
theorem lp_mo_ord {p : Program} {l : Launch} {e : Env} {R : Room} {s : State} {m : MethodId} {args : Array Value} {below : List Frame} {meth : Method} {c : Code} {Q : State → Prop} {H : Heap} {locs : List Loc} {m0 n : Nat} (hx : p.tables.exec = Jvm.exec) (hb : c.code = b_mo_det) (hn : n ≤ 4) :
    ∀ (d k o : Nat), k + d = n → (∀ (ls : Array Slot), lv_has ls 14 [(0, .ref m0), (1, .int (nI n)), (2, .int (nI (o * n ^ d)))] → W p l e R s m args below meth c H locs 0 0 Q (F0 m 19 ls [])) → ∀ (ls : Array Slot), lv_has ls 14 [(0, .ref m0), (1, .int (nI n)), (2, .int (nI o)), (3, .int (nI k))] → W p l e R s m args below meth c H locs 0 0 Q (F0 m 4 ls []) := by
  intro d
  induction d with
  | zero =>
    intro k o hk1 hk ls hl
    refine lv_iload_n hx hb d_mo_det_4 rfl (lv_at hl 3 rfl) ?_
    refine lv_iload_n hx hb d_mo_det_5 rfl (lv_at hl 1 rfl) ?_
    refine lv_icmp_ge (tgt := 19) hx hb d_mo_det_6 (by decide) (fun c_1 => ?_) (fun c_1 => ?_)
    · exact hk ls (by rw [Nat.pow_zero, Nat.mul_one]; exact lv_sub hl [0, 1, 2] rfl)
    · exact absurd (nI_le (show n ≤ k by omega) (by omega)) c_1
  | succ d ih =>
    intro k o hk1 hk ls hl
    refine lv_iload_n hx hb d_mo_det_4 rfl (lv_at hl 3 rfl) ?_
    refine lv_iload_n hx hb d_mo_det_5 rfl (lv_at hl 1 rfl) ?_
    refine lv_icmp_ge (tgt := 19) hx hb d_mo_det_6 (by decide) (fun c_2 => ?_) (fun c_2 => ?_)
    · exact absurd c_2 (nI_ge (show k < n by omega) (by omega))
    · refine lv_iload_n hx hb d_mo_det_9 rfl (lv_at hl 2 rfl) ?_
      refine lv_iload_n hx hb d_mo_det_10 rfl (lv_at hl 1 rfl) ?_
      refine lv_imul hx hb d_mo_det_11 ?_
      refine lv_istore_n (lv' := [(2, .int ((nI o) * (nI n))), (0, .ref m0), (1, .int (nI n)), (3, .int (nI k))]) hx hb d_mo_det_12 rfl hl (by decide) rfl (fun ls hl => ?_)
      refine lv_iinc (v := (nI k) + 1) (lv' := [(3, .int ((nI k) + 1)), (2, .int ((nI o) * (nI n))), (0, .ref m0), (1, .int (nI n))]) hx hb d_mo_det_13 hl (k := 3) rfl rfl (by decide) rfl (fun ls hl => ?_)
      refine lv_goto (tgt := 4) hx hb d_mo_det_16 (by decide) ?_
      exact ih (k + 1) (o * n) (by omega) (by rw [Nat.mul_assoc, ← Nat.pow_succ']; exact hk) ls (by have h9 := lv_sub hl [2, 3, 1, 0] rfl; rw [nI_1, pk_mul] at h9; exact h9)
/-- how many of the columns behind are seen: d are left, from k on -/
def tuL (S : Nat) : Nat → Nat → Nat → Nat
  | 0, _, t => t
  | d + 1, k, t => tuL S d (k + 1) (t + bitN S k)
set_option maxHeartbeats 4000000 in
theorem lp_mo_tu {p : Program} {l : Launch} {e : Env} {R : Room} {s : State} {m : MethodId} {args : Array Value} {below : List Frame} {meth : Method} {c : Code} {Q : State → Prop} {H : Heap} {locs : List Loc} {m0 n w S x r q : Nat} {o : Int32} {acc pr : Int64} (hx : p.tables.exec = Jvm.exec) (hb : c.code = b_mo_det) (hn : n ≤ 4) (hS : S < 16) :
    ∀ (d k t : Nat), k + d = n → (∀ (ls : Array Slot), lv_has ls 14 [(0, .ref m0), (1, .int (nI n)), (2, .int o), (3, .long acc), (5, .int (nI w)), (6, .long pr), (8, .int (nI S)), (9, .int (nI x)), (11, .int (nI r)), (12, .int (nI q)), (10, .int (nI (tuL S d k t)))] → W p l e R s m args below meth c H locs 0 0 Q (F0 m 94 ls [])) → ∀ (ls : Array Slot), lv_has ls 14 [(0, .ref m0), (1, .int (nI n)), (2, .int o), (3, .long acc), (5, .int (nI w)), (6, .long pr), (8, .int (nI S)), (9, .int (nI x)), (11, .int (nI r)), (12, .int (nI q)), (10, .int (nI t)), (13, .int (nI k))] → W p l e R s m args below meth c H locs 0 0 Q (F0 m 70 ls []) := by
  intro d
  induction d with
  | zero =>
    intro k t hk1 hk ls hl
    refine lv_iload hx hb d_mo_det_70 (lv_at hl 11 rfl) ?_
    refine lv_iload_n hx hb d_mo_det_72 rfl (lv_at hl 1 rfl) ?_
    refine lv_icmp_ge (tgt := 94) hx hb d_mo_det_73 (by decide) (fun c_3 => ?_) (fun c_3 => ?_)
    · exact hk ls (lv_sub hl [0, 1, 2, 3, 4, 5, 6, 7, 8, 9, 10] rfl)
    · exact absurd (nI_le (show n ≤ k by omega) (by omega)) c_3
  | succ d ih =>
    intro k t hk1 hk ls hl
    refine lv_iload hx hb d_mo_det_70 (lv_at hl 11 rfl) ?_
    refine lv_iload_n hx hb d_mo_det_72 rfl (lv_at hl 1 rfl) ?_
    refine lv_icmp_ge (tgt := 94) hx hb d_mo_det_73 (by decide) (fun c_4 => ?_) (fun c_4 => ?_)
    · exact absurd c_4 (nI_ge (show k < n by omega) (by omega))
    · refine lv_iload hx hb d_mo_det_76 (lv_at hl 10 rfl) ?_
      refine lv_iload hx hb d_mo_det_78 (lv_at hl 6 rfl) ?_
      refine lv_iload hx hb d_mo_det_80 (lv_at hl 11 rfl) ?_
      refine lv_ishr hx hb d_mo_det_82 ?_
      refine lv_iconst (v := 1) hx hb d_mo_det_83 (by decide) ?_
      refine lv_iand hx hb d_mo_det_84 ?_
      rw [bit_n S hS k (by omega)]
      refine lv_iadd hx hb d_mo_det_85 ?_
      refine lv_istore (lv' := [(10, .int ((nI t) + (nI (bitN S k)))), (0, .ref m0), (1, .int (nI n)), (2, .int o), (3, .long acc), (5, .int (nI w)), (6, .long pr), (8, .int (nI S)), (9, .int (nI x)), (11, .int (nI r)), (12, .int (nI q)), (13, .int (nI k))]) hx hb d_mo_det_86 hl (by decide) rfl (fun ls hl => ?_)
      refine lv_iinc (v := (nI k) + 1) (lv' := [(13, .int ((nI k) + 1)), (10, .int ((nI t) + (nI (bitN S k)))), (0, .ref m0), (1, .int (nI n)), (2, .int o), (3, .long acc), (5, .int (nI w)), (6, .long pr), (8, .int (nI S)), (9, .int (nI x)), (11, .int (nI r)), (12, .int (nI q))]) hx hb d_mo_det_88 hl (k := 11) rfl rfl (by decide) rfl (fun ls hl => ?_)
      refine lv_goto (tgt := 70) hx hb d_mo_det_91 (by decide) ?_
      exact ih (k + 1) (t + bitN S k) (by omega) hk ls (by have h9 := lv_sub hl [2, 3, 4, 5, 6, 7, 8, 9, 10, 11, 1, 0] rfl; rw [nI_1, nI_add] at h9; exact h9)
/-- one order of columns: d rows are left, from r on; its product and its turns -/
def rwL (gs : Nat → Int64) (n : Nat) : Nat → Nat → Int64 → Nat → Nat → Nat → Int64 × Nat
  | 0, _, pr, _, _, t => (pr, t)
  | d + 1, r, pr, S, x, t => rwL gs n d (r + 1) (if bitN S (x % n) = 1 then 0 else pr * gs (4 * r + x % n)) (S ||| 2 ^ (x % n)) (x / n) (tuL S (n - (x % n + 1)) (x % n + 1) t)
set_option maxHeartbeats 4000000 in
theorem lp_mo_rw {p : Program} {l : Launch} {e : Env} {R : Room} {s : State} {m : MethodId} {args : Array Value} {below : List Frame} {meth : Method} {c : Code} {Q : State → Prop} {H : Heap} {locs : List Loc} {dC : Nat → ClassId} {dI : Nat → Nat → Nat} {m0 : Nat} {msq : Nat} {th : Int32} {mk : Int32} {mv : Int32} {mu : Nat} {md : Nat} {up : Int64} {dn : Int64} {mr : Int32} {mc : Nat} {me : Nat} {so : Int32} {mau : Nat} {mad : Nat} {mw : Int32} {mwg : Nat} {mgv : Nat} {cms : ClassId} {gs : Nat → Int64} {n : Nat} {w : Nat} {o : Int32} {acc : Int64} (hx : p.tables.exec = Jvm.exec) (hb : c.code = b_mo_det) (hT : ∀ w ∈ kt_T, w.before args s = true) (hown : s.vm.findClass R_mo = some m.cls) (hK : va_K (dC, dI) classes [(cms, .long)] s) (hP : va_P (dC, dI) classes [(m0, .inr (4, [.int th, .int mk, .int mv, .ref mu, .ref md, .long up, .long dn, .int mr, .ref mc, .ref me, .int so, .ref mau, .ref mad, .int mw, .ref mwg, .ref mgv, .ref msq])), (msq, .inl (cms, 16, .inr (.inl gs)))] H) (hn : n ≤ 4) (hn1 : 1 ≤ n) :
    ∀ (d r : Nat) (pr : Int64) (S x t : Nat), r + d = n → S < 16 → x < 2 ^ 31 → (∀ (ls : Array Slot), lv_has ls 14 [(0, .ref m0), (1, .int (nI n)), (2, .int o), (3, .long acc), (5, .int (nI w)), (6, .long ((rwL gs n d r pr S x t).1)), (10, .int (nI (rwL gs n d r pr S x t).2))] → W p l e R s m args below meth c H locs 0 0 Q (F0 m 141 ls [])) → ∀ (ls : Array Slot), lv_has ls 14 [(0, .ref m0), (1, .int (nI n)), (2, .int o), (3, .long acc), (5, .int (nI w)), (6, .long pr), (8, .int (nI S)), (9, .int (nI x)), (10, .int (nI t)), (11, .int (nI r))] → W p l e R s m args below meth c H locs 0 0 Q (F0 m 46 ls []) := by
  intro d
  induction d with
  | zero =>
    intro r pr S x t hr1 hS hx4 hk ls hl
    refine lv_iload hx hb d_mo_det_46 (lv_at hl 9 rfl) ?_
    refine lv_iload_n hx hb d_mo_det_48 rfl (lv_at hl 1 rfl) ?_
    refine lv_icmp_ge (tgt := 141) hx hb d_mo_det_49 (by decide) (fun c_5 => ?_) (fun c_5 => ?_)
    · exact hk ls (lv_sub hl [0, 1, 2, 3, 4, 5, 8] rfl)
    · exact absurd (nI_le (show n ≤ r by omega) (by omega)) c_5
  | succ d ih =>
    intro r pr S x t hr1 hS hx4 hk ls hl
    have hq : x % n < n := Nat.mod_lt _ (by omega)
    refine lv_iload hx hb d_mo_det_46 (lv_at hl 9 rfl) ?_
    refine lv_iload_n hx hb d_mo_det_48 rfl (lv_at hl 1 rfl) ?_
    refine lv_icmp_ge (tgt := 141) hx hb d_mo_det_49 (by decide) (fun c_6 => ?_) (fun c_6 => ?_)
    · exact absurd c_6 (nI_ge (show r < n by omega) (by omega))
    · refine lv_iload hx hb d_mo_det_52 (lv_at hl 7 rfl) ?_
      refine lv_iload_n hx hb d_mo_det_54 rfl (lv_at hl 1 rfl) ?_
      refine lv_irem hx hb d_mo_det_55 (nI_ne0 (by omega) (by omega)) ?_
      rw [pk_rem hx4 (by omega) (by omega)]
      refine lv_istore (lv' := [(12, .int (nI (x % n))), (0, .ref m0), (1, .int (nI n)), (2, .int o), (3, .long acc), (5, .int (nI w)), (6, .long pr), (8, .int (nI S)), (9, .int (nI x)), (10, .int (nI t)), (11, .int (nI r))]) hx hb d_mo_det_56 hl (by decide) rfl (fun ls hl => ?_)
      refine lv_iload hx hb d_mo_det_58 (lv_at hl 8 rfl) ?_
      refine lv_iload_n hx hb d_mo_det_60 rfl (lv_at hl 2 rfl) ?_
      refine lv_idiv hx hb d_mo_det_61 (nI_ne0 (by omega) (by omega)) ?_
      rw [pk_div hx4 (by omega) (by omega)]
      refine lv_istore (lv' := [(9, .int (nI (x / n))), (12, .int (nI (x % n))), (0, .ref m0), (1, .int (nI n)), (2, .int o), (3, .long acc), (5, .int (nI w)), (6, .long pr), (8, .int (nI S)), (10, .int (nI t)), (11, .int (nI r))]) hx hb d_mo_det_62 hl (by decide) rfl (fun ls hl => ?_)
      refine lv_iload hx hb d_mo_det_64 (lv_at hl 1 rfl) ?_
      refine lv_iconst (v := 1) hx hb d_mo_det_66 (by decide) ?_
      refine lv_iadd hx hb d_mo_det_67 ?_
      rw [nI_1]
      refine lv_istore (lv' := [(13, .int (nI (x % n + 1))), (9, .int (nI (x / n))), (12, .int (nI (x % n))), (0, .ref m0), (1, .int (nI n)), (2, .int o), (3, .long acc), (5, .int (nI w)), (6, .long pr), (8, .int (nI S)), (10, .int (nI t)), (11, .int (nI r))]) hx hb d_mo_det_68 hl (by decide) rfl (fun ls hl => ?_)
      refine lp_mo_tu hx hb hn hS (n - (x % n + 1)) (x % n + 1) t (by omega) (fun ls hl => ?_) ls (lv_sub hl [3, 4, 5, 6, 7, 8, 9, 1, 11, 2, 10, 0] rfl)
      refine lv_iload hx hb d_mo_det_94 (lv_at hl 6 rfl) ?_
      refine lv_iload hx hb d_mo_det_96 (lv_at hl 9 rfl) ?_
      refine lv_ishr hx hb d_mo_det_98 ?_
      refine lv_iconst (v := 1) hx hb d_mo_det_99 (by decide) ?_
      refine lv_iand hx hb d_mo_det_100 ?_
      rw [bit_n S hS (x % n) (by omega)]
      refine lv_iconst (v := 1) hx hb d_mo_det_101 (by decide) ?_
      refine lv_icmp_ne (tgt := 109) hx hb d_mo_det_102 (by decide) (fun c_7 => ?_) (fun c_7 => ?_)
      · refine lv_lload hx hb d_mo_det_109 (lv_at hl 5 rfl) ?_
        refine lv_aload_n hx hb d_mo_det_111 rfl (lv_at hl 0 rfl) ?_
        refine va_get (D := (dC, dI)) (ci := 4) (v := .ref msq) (C := R_mo) (T := F_mo) (N := 17) hx hb hT i_mo hown hK hP 0 rfl rfl 16 (by decide) (hT _ k_172) (fun _ h9 => h9) rfl d_mo_det_112 ?_
        refine lv_iconst (v := 4) hx hb d_mo_det_115 (by decide) ?_
        refine lv_iload hx hb d_mo_det_116 (lv_at hl 8 rfl) ?_
        refine lv_imul hx hb d_mo_det_118 ?_
        refine lv_iload hx hb d_mo_det_119 (lv_at hl 9 rfl) ?_
        refine lv_iadd hx hb d_mo_det_121 ?_
        rw [ix4]
        refine va_laldN (i := (4 * r + x % n)) hx hb hK hP 1 0 rfl rfl ⟨by omega, by decide⟩ d_mo_det_122 ?_
        refine lv_lmul hx hb d_mo_det_123 ?_
        refine lv_lstore (lv' := [(6, .long (pr * (gs (4 * r + x % n)))), (0, .ref m0), (1, .int (nI n)), (2, .int o), (3, .long acc), (5, .int (nI w)), (8, .int (nI S)), (9, .int (nI (x / n))), (11, .int (nI r)), (12, .int (nI (x % n))), (10, .int (nI (tuL S (n - (x % n + 1)) (x % n + 1) t)))]) hx hb d_mo_det_124 hl (by decide) rfl (fun ls hl => ?_)
        refine lv_iload hx hb d_mo_det_126 (lv_at hl 6 rfl) ?_
        refine lv_iconst (v := 1) hx hb d_mo_det_128 (by decide) ?_
        refine lv_iload hx hb d_mo_det_129 (lv_at hl 9 rfl) ?_
        refine lv_ishl hx hb d_mo_det_131 ?_
        refine lv_ior hx hb d_mo_det_132 ?_
        rw [ior_n S hS (x % n) (by omega)]
        refine lv_istore (lv' := [(8, .int (nI (S ||| 2 ^ (x % n)))), (6, .long (pr * (gs (4 * r + x % n)))), (0, .ref m0), (1, .int (nI n)), (2, .int o), (3, .long acc), (5, .int (nI w)), (9, .int (nI (x / n))), (11, .int (nI r)), (12, .int (nI (x % n))), (10, .int (nI (tuL S (n - (x % n + 1)) (x % n + 1) t)))]) hx hb d_mo_det_133 hl (by decide) rfl (fun ls hl => ?_)
        refine lv_iinc (v := (nI r) + 1) (lv' := [(11, .int ((nI r) + 1)), (8, .int (nI (S ||| 2 ^ (x % n)))), (6, .long (pr * (gs (4 * r + x % n)))), (0, .ref m0), (1, .int (nI n)), (2, .int o), (3, .long acc), (5, .int (nI w)), (9, .int (nI (x / n))), (12, .int (nI (x % n))), (10, .int (nI (tuL S (n - (x % n + 1)) (x % n + 1) t)))]) hx hb d_mo_det_135 hl (k := 8) rfl rfl (by decide) rfl (fun ls hl => ?_)
        refine lv_goto (tgt := 46) hx hb d_mo_det_138 (by decide) ?_
        exact ih (r + 1) _ _ _ _ (by omega) (or_lt S hS (x % n) (by omega)) (Nat.lt_of_le_of_lt (Nat.div_le_self _ _) hx4) (by rw [rwL, if_neg (fun h9 : bitN S (x % n) = 1 => c_7 (by rw [h9]; rfl))] at hk; exact hk) ls (by have h9 := lv_sub hl [3, 4, 5, 6, 7, 2, 1, 8, 10, 0] rfl; rw [nI_1] at h9; exact h9)
      · refine lv_lconst (v := 0) hx hb d_mo_det_105 (by decide) ?_
        refine lv_goto (tgt := 124) hx hb d_mo_det_106 (by decide) ?_
        refine lv_lstore (lv' := [(6, .long 0), (0, .ref m0), (1, .int (nI n)), (2, .int o), (3, .long acc), (5, .int (nI w)), (8, .int (nI S)), (9, .int (nI (x / n))), (11, .int (nI r)), (12, .int (nI (x % n))), (10, .int (nI (tuL S (n - (x % n + 1)) (x % n + 1) t)))]) hx hb d_mo_det_124 hl (by decide) rfl (fun ls hl => ?_)
        refine lv_iload hx hb d_mo_det_126 (lv_at hl 6 rfl) ?_
        refine lv_iconst (v := 1) hx hb d_mo_det_128 (by decide) ?_
        refine lv_iload hx hb d_mo_det_129 (lv_at hl 9 rfl) ?_
        refine lv_ishl hx hb d_mo_det_131 ?_
        refine lv_ior hx hb d_mo_det_132 ?_
        rw [ior_n S hS (x % n) (by omega)]
        refine lv_istore (lv' := [(8, .int (nI (S ||| 2 ^ (x % n)))), (6, .long 0), (0, .ref m0), (1, .int (nI n)), (2, .int o), (3, .long acc), (5, .int (nI w)), (9, .int (nI (x / n))), (11, .int (nI r)), (12, .int (nI (x % n))), (10, .int (nI (tuL S (n - (x % n + 1)) (x % n + 1) t)))]) hx hb d_mo_det_133 hl (by decide) rfl (fun ls hl => ?_)
        refine lv_iinc (v := (nI r) + 1) (lv' := [(11, .int ((nI r) + 1)), (8, .int (nI (S ||| 2 ^ (x % n)))), (6, .long 0), (0, .ref m0), (1, .int (nI n)), (2, .int o), (3, .long acc), (5, .int (nI w)), (9, .int (nI (x / n))), (12, .int (nI (x % n))), (10, .int (nI (tuL S (n - (x % n + 1)) (x % n + 1) t)))]) hx hb d_mo_det_135 hl (k := 8) rfl rfl (by decide) rfl (fun ls hl => ?_)
        refine lv_goto (tgt := 46) hx hb d_mo_det_138 (by decide) ?_
        exact ih (r + 1) _ _ _ _ (by omega) (or_lt S hS (x % n) (by omega)) (Nat.lt_of_le_of_lt (Nat.div_le_self _ _) hx4) (by rw [rwL, if_pos (show bitN S (x % n) = 1 from (nI_eq (by have := bitN_le S (x % n); omega) (by decide)).mp c_7)] at hk; exact hk) ls (by have h9 := lv_sub hl [3, 4, 5, 6, 7, 2, 1, 8, 10, 0] rfl; rw [nI_1] at h9; exact h9)
/-- the sum over all orders: d are left, from w on -/
def deL (gs : Nat → Int64) (n : Nat) : Nat → Nat → Int64 → Int64
  | 0, _, acc => acc
  | d + 1, w, acc => if (rwL gs n n 0 1 0 w 0).2 % 2 = 0 then deL gs n d (w + 1) (acc + (rwL gs n n 0 1 0 w 0).1) else deL gs n d (w + 1) (acc - (rwL gs n n 0 1 0 w 0).1)
theorem tuL_le (S : Nat) : ∀ (d k t : Nat), tuL S d k t ≤ t + d
  | 0, _, _ => Nat.le_refl _
  | d + 1, k, t => by
    have h1 := tuL_le S d (k + 1) (t + bitN S k)
    have h2 := bitN_le S k
    show tuL S d (k + 1) (t + bitN S k) ≤ t + (d + 1)
    omega
theorem rwL_le (gs : Nat → Int64) (n : Nat) : ∀ (d r : Nat) (pr : Int64) (S x t : Nat), (rwL gs n d r pr S x t).2 ≤ t + d * n
  | 0, _, _, _, _, _ => by rw [Nat.zero_mul]; exact Nat.le_refl _
  | d + 1, r, pr, S, x, t => by
    show (rwL gs n d (r + 1) _ _ _ _).2 ≤ _
    refine Nat.le_trans (rwL_le gs n d _ _ _ _ _) ?_
    have h1 := tuL_le S (n - (x % n + 1)) (x % n + 1) t
    have h2 : (d + 1) * n = d * n + n := Nat.succ_mul d n
    omega
theorem rwL_t (gs : Nat → Int64) (w : Nat) {n : Nat} (hn : n ≤ 4) : (rwL gs n n 0 1 0 w 0).2 < 2 ^ 31 := by
  have h1 := rwL_le gs n n 0 1 0 w 0
  have h2 : n * n ≤ 4 * 4 := Nat.mul_le_mul hn hn
  omega
set_option maxHeartbeats 4000000 in
theorem lp_mo_de {p : Program} {l : Launch} {e : Env} {R : Room} {s : State} {m : MethodId} {args : Array Value} {below : List Frame} {meth : Method} {c : Code} {Q : State → Prop} {H : Heap} {locs : List Loc} {dC : Nat → ClassId} {dI : Nat → Nat → Nat} {m0 : Nat} {msq : Nat} {th : Int32} {mk : Int32} {mv : Int32} {mu : Nat} {md : Nat} {up : Int64} {dn : Int64} {mr : Int32} {mc : Nat} {me : Nat} {so : Int32} {mau : Nat} {mad : Nat} {mw : Int32} {mwg : Nat} {mgv : Nat} {cms : ClassId} {gs : Nat → Int64} {n : Nat} {N : Nat} (hx : p.tables.exec = Jvm.exec) (hb : c.code = b_mo_det) (hT : ∀ w ∈ kt_T, w.before args s = true) (hown : s.vm.findClass R_mo = some m.cls) (hK : va_K (dC, dI) classes [(cms, .long)] s) (hP : va_P (dC, dI) classes [(m0, .inr (4, [.int th, .int mk, .int mv, .ref mu, .ref md, .long up, .long dn, .int mr, .ref mc, .ref me, .int so, .ref mau, .ref mad, .int mw, .ref mwg, .ref mgv, .ref msq])), (msq, .inl (cms, 16, .inr (.inl gs)))] H) (hn : n ≤ 4) (hn1 : 1 ≤ n) (hN : N ≤ 256) :
    ∀ (d w : Nat) (acc : Int64), w + d = N → (∀ (ls : Array Slot), lv_has ls 14 [(0, .ref m0), (3, .long (deL gs n d w acc))] → W p l e R s m args below meth c H locs 0 0 Q (F0 m 166 ls [])) → ∀ (ls : Array Slot), lv_has ls 14 [(0, .ref m0), (1, .int (nI n)), (2, .int (nI N)), (3, .long acc), (5, .int (nI w))] → W p l e R s m args below meth c H locs 0 0 Q (F0 m 24 ls []) := by
  intro d
  induction d with
  | zero =>
    intro w acc hw hk ls hl
    refine lv_iload hx hb d_mo_det_24 (lv_at hl 4 rfl) ?_
    refine lv_iload_n hx hb d_mo_det_26 rfl (lv_at hl 2 rfl) ?_
    refine lv_icmp_ge (tgt := 166) hx hb d_mo_det_27 (by decide) (fun c_8 => ?_) (fun c_8 => ?_)
    · exact hk ls (lv_sub hl [0, 3] rfl)
    · exact absurd (nI_le (show N ≤ w by omega) (by omega)) c_8
  | succ d ih =>
    intro w acc hw hk ls hl
    refine lv_iload hx hb d_mo_det_24 (lv_at hl 4 rfl) ?_
    refine lv_iload_n hx hb d_mo_det_26 rfl (lv_at hl 2 rfl) ?_
    refine lv_icmp_ge (tgt := 166) hx hb d_mo_det_27 (by decide) (fun c_9 => ?_) (fun c_9 => ?_)
    · exact absurd c_9 (nI_ge (show w < N by omega) (by omega))
    · refine lv_lconst (v := 1) hx hb d_mo_det_30 (by decide) ?_
      refine lv_lstore (lv' := [(6, .long 1), (0, .ref m0), (1, .int (nI n)), (2, .int (nI N)), (3, .long acc), (5, .int (nI w))]) hx hb d_mo_det_31 hl (by decide) rfl (fun ls hl => ?_)
      refine lv_iconst (v := 0) hx hb d_mo_det_33 (by decide) ?_
      refine lv_istore (lv' := [(8, .int 0), (6, .long 1), (0, .ref m0), (1, .int (nI n)), (2, .int (nI N)), (3, .long acc), (5, .int (nI w))]) hx hb d_mo_det_34 hl (by decide) rfl (fun ls hl => ?_)
      refine lv_iload hx hb d_mo_det_36 (lv_at hl 6 rfl) ?_
      refine lv_istore (lv' := [(9, .int (nI w)), (8, .int 0), (6, .long 1), (0, .ref m0), (1, .int (nI n)), (2, .int (nI N)), (3, .long acc), (5, .int (nI w))]) hx hb d_mo_det_38 hl (by decide) rfl (fun ls hl => ?_)
      refine lv_iconst (v := 0) hx hb d_mo_det_40 (by decide) ?_
      refine lv_istore (lv' := [(10, .int 0), (9, .int (nI w)), (8, .int 0), (6, .long 1), (0, .ref m0), (1, .int (nI n)), (2, .int (nI N)), (3, .long acc), (5, .int (nI w))]) hx hb d_mo_det_41 hl (by decide) rfl (fun ls hl => ?_)
      refine lv_iconst (v := 0) hx hb d_mo_det_43 (by decide) ?_
      refine lv_istore (lv' := [(11, .int 0), (10, .int 0), (9, .int (nI w)), (8, .int 0), (6, .long 1), (0, .ref m0), (1, .int (nI n)), (2, .int (nI N)), (3, .long acc), (5, .int (nI w))]) hx hb d_mo_det_44 hl (by decide) rfl (fun ls hl => ?_)
      refine lp_mo_rw hx hb hT hown hK hP hn hn1 n 0 1 0 w 0 (Nat.zero_add _) (by decide) (by omega) (fun ls hl => ?_) ls (lv_sub hl [5, 6, 7, 8, 9, 4, 3, 2, 1, 0] rfl)
      refine lv_iload hx hb d_mo_det_141 (lv_at hl 6 rfl) ?_
      refine lv_iconst (v := 2) hx hb d_mo_det_143 (by decide) ?_
      refine lv_irem hx hb d_mo_det_144 (by decide) ?_
      rw [show (2 : Int32) = nI 2 from rfl, pk_rem (rwL_t gs w hn) (by decide) (by decide)]
      refine lv_if_ne (tgt := 155) hx hb d_mo_det_145 (by decide) (fun c_10 => ?_) (fun c_10 => ?_)
      · refine lv_lload_n hx hb d_mo_det_155 rfl (lv_at hl 3 rfl) ?_
        refine lv_lload hx hb d_mo_det_156 (lv_at hl 5 rfl) ?_
        refine lv_lsub hx hb d_mo_det_158 ?_
        refine lv_lstore_n (lv' := [(3, .long (acc - ((rwL gs n n 0 1 0 w 0).1))), (0, .ref m0), (1, .int (nI n)), (2, .int (nI N)), (5, .int (nI w)), (6, .long ((rwL gs n n 0 1 0 w 0).1)), (10, .int (nI (rwL gs n n 0 1 0 w 0).2))]) hx hb d_mo_det_159 rfl hl (by decide) rfl (fun ls hl => ?_)
        refine lv_iinc (v := (nI w) + 1) (lv' := [(5, .int ((nI w) + 1)), (3, .long (acc - ((rwL gs n n 0 1 0 w 0).1))), (0, .ref m0), (1, .int (nI n)), (2, .int (nI N)), (6, .long ((rwL gs n n 0 1 0 w 0).1)), (10, .int (nI (rwL gs n n 0 1 0 w 0).2))]) hx hb d_mo_det_160 hl (k := 4) rfl rfl (by decide) rfl (fun ls hl => ?_)
        refine lv_goto (tgt := 24) hx hb d_mo_det_163 (by decide) ?_
        exact ih (w + 1) _ (by omega) (by rw [deL, if_neg (fun h9 : (rwL gs n n 0 1 0 w 0).2 % 2 = 0 => c_10 (by rw [h9]; rfl))] at hk; exact hk) ls (by have h9 := lv_sub hl [2, 3, 4, 1, 0] rfl; rw [nI_1] at h9; exact h9)
      · refine lv_lload_n hx hb d_mo_det_148 rfl (lv_at hl 3 rfl) ?_
        refine lv_lload hx hb d_mo_det_149 (lv_at hl 5 rfl) ?_
        refine lv_ladd hx hb d_mo_det_151 ?_
        refine lv_goto (tgt := 159) hx hb d_mo_det_152 (by decide) ?_
        refine lv_lstore_n (lv' := [(3, .long (acc + ((rwL gs n n 0 1 0 w 0).1))), (0, .ref m0), (1, .int (nI n)), (2, .int (nI N)), (5, .int (nI w)), (6, .long ((rwL gs n n 0 1 0 w 0).1)), (10, .int (nI (rwL gs n n 0 1 0 w 0).2))]) hx hb d_mo_det_159 rfl hl (by decide) rfl (fun ls hl => ?_)
        refine lv_iinc (v := (nI w) + 1) (lv' := [(5, .int ((nI w) + 1)), (3, .long (acc + ((rwL gs n n 0 1 0 w 0).1))), (0, .ref m0), (1, .int (nI n)), (2, .int (nI N)), (6, .long ((rwL gs n n 0 1 0 w 0).1)), (10, .int (nI (rwL gs n n 0 1 0 w 0).2))]) hx hb d_mo_det_160 hl (k := 4) rfl rfl (by decide) rfl (fun ls hl => ?_)
        refine lv_goto (tgt := 24) hx hb d_mo_det_163 (by decide) ?_
        exact ih (w + 1) _ (by omega) (by rw [deL, if_pos (show (rwL gs n n 0 1 0 w 0).2 % 2 = 0 from (nI_eq (by omega) (by decide)).mp c_10)] at hk; exact hk) ls (by have h9 := lv_sub hl [2, 3, 4, 1, 0] rfl; rw [nI_1] at h9; exact h9)
def f_mo_det (gs : Nat → Int64) (n : Nat) : Int64 :=
  (deL gs n (1 * n ^ n) 0 0)
set_option maxHeartbeats 4000000 in
set_option maxRecDepth 100000 in
theorem c_mo_det (l : Launch) (dC : Nat → ClassId) (dI : Nat → Nat → Nat) (m0 : Nat) (msq : Nat) (th : Int32) (mk : Int32) (mv : Int32) (mu : Nat) (md : Nat) (up : Int64) (dn : Int64) (mr : Int32) (mc : Nat) (me : Nat) (so : Int32) (mau : Nat) (mad : Nat) (mw : Int32) (mwg : Nat) (mgv : Nat) (cms : ClassId) (gs : Nat → Int64) (n : Nat) (hn : n ≤ 4) (hn1 : 1 ≤ n) : Met l y_mo_det w_mo_det ({ frames := 0, cells := 0, slots := 0, locals := 0 }) (va_Pc [.ref m0, .int (nI n)] (fun U => va_P (dC, dI) classes [(m0, .inr (4, [.int th, .int mk, .int mv, .ref mu, .ref md, .long up, .long dn, .int mr, .ref mc, .ref me, .int so, .ref mau, .ref mad, .int mw, .ref mwg, .ref mgv, .ref msq])), (msq, .inl (cms, 16, .inr (.inl gs)))] U.heap ∧ va_K (dC, dI) classes [(cms, .long)] U)) (vp_Sl (fun z9 => z9 = f_mo_det gs n)) 0 0 (fun _ => False) := by
  refine Met.ofW (cc := b_mo_det) (maxL := 14) (ret := (some .long)) (by decide +kernel) rfl ?_
  intro p e s m args below meth c s₁ B hml hv
  obtain ⟨rfl, hP, hK⟩ := hv
  have hx := B.exec
  have hb := B.bytes
  have hr := B.returns
  have hts := atoms_spec (ws := w_mo_det) B.pre
  have hT := fun (w : Cond) (h : w ∈ kt_T) => hts w (List.mem_cons_of_mem _ h)
  have hown : s.vm.findClass R_mo = some m.cls := findClass_of_methodNamed B.named
  have hlocks := B.notSynchronized
  have hl := lv_entry ([.ref m0, .int (nI n)]) (n := 14) (Nat.le_of_ble_eq_true rfl)
  rw [lg_entry_eq]
  generalize (lg_sl ([.ref m0, .int (nI n)]) ++ List.replicate (14 - (lg_sl ([.ref m0, .int (nI n)])).length) Slot.unset).toArray = ls at hl ⊢
  have hl : lv_has ls 14 [(0, .ref m0), (1, .int (nI n))] := hl
  refine lv_iconst (v := 1) hx hb d_mo_det_0 (by decide) ?_
  refine lv_istore_n (lv' := [(2, .int 1), (0, .ref m0), (1, .int (nI n))]) hx hb d_mo_det_1 rfl hl (by decide) rfl (fun ls hl => ?_)
  refine lv_iconst (v := 0) hx hb d_mo_det_2 (by decide) ?_
  refine lv_istore_n (lv' := [(3, .int 0), (2, .int 1), (0, .ref m0), (1, .int (nI n))]) hx hb d_mo_det_3 rfl hl (by decide) rfl (fun ls hl => ?_)
  refine lp_mo_ord hx hb hn n 0 1 (Nat.zero_add _) (fun ls hl => ?_) ls (lv_sub hl [2, 3, 1, 0] rfl)
  refine lv_lconst (v := 0) hx hb d_mo_det_19 (by decide) ?_
  refine lv_lstore_n (lv' := [(3, .long 0), (0, .ref m0), (1, .int (nI n)), (2, .int (nI (1 * n ^ n)))]) hx hb d_mo_det_20 rfl hl (by decide) rfl (fun ls hl => ?_)
  refine lv_iconst (v := 0) hx hb d_mo_det_21 (by decide) ?_
  refine lv_istore (lv' := [(5, .int 0), (3, .long 0), (0, .ref m0), (1, .int (nI n)), (2, .int (nI (1 * n ^ n)))]) hx hb d_mo_det_22 hl (by decide) rfl (fun ls hl => ?_)
  refine lp_mo_de hx hb hT hown hK hP hn hn1 (by rw [Nat.one_mul]; exact pow_le4 n (by omega) n (Nat.le_refl _)) (1 * n ^ n) 0 0 (Nat.zero_add _) (fun ls hl => ?_) ls (lv_sub hl [2, 3, 4, 1, 0] rfl)
  refine lv_lload_n hx hb d_mo_det_166 rfl (lv_at hl 1 rfl) ?_
  exact W.lret (v := (deL gs n (1 * n ^ n) 0 0)) hx hb hr (fun t ht hW => ⟨_, rfl, rfl, ht⟩) t_nil d_mo_det_167
