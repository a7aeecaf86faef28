abbrev b_kr_gcd : ByteArray := prog_1_method_24_code
def y_kr_gcd : MethodName := ⟨R_kr, "commonDivisor", "(JJ)J"⟩
def w_kr_gcd : List Cond := .code y_kr_gcd b_kr_gcd 11 (some .long) :: kt_T
theorem d_kr_gcd_0 : decode b_kr_gcd 0 = .ok (.lload_n 0, 1) := by decide +kernel
theorem d_kr_gcd_1 : decode b_kr_gcd 1 = .ok (.lstore 4, 2) := by decide +kernel
theorem d_kr_gcd_3 : decode b_kr_gcd 3 = .ok (.lload_n 2, 1) := by decide +kernel
theorem d_kr_gcd_4 : decode b_kr_gcd 4 = .ok (.lstore 6, 2) := by decide +kernel
theorem d_kr_gcd_6 : decode b_kr_gcd 6 = .ok (.iconst 0, 1) := by decide +kernel
theorem d_kr_gcd_7 : decode b_kr_gcd 7 = .ok (.istore 8, 2) := by decide +kernel
theorem d_kr_gcd_9 : decode b_kr_gcd 9 = .ok (.iload 8, 2) := by decide +kernel
theorem d_kr_gcd_11 : decode b_kr_gcd 11 = .ok (.sipush 200, 3) := by decide +kernel
theorem d_kr_gcd_14 : decode b_kr_gcd 14 = .ok (.if_icmp .ge 31, 3) := by decide +kernel
theorem d_kr_gcd_17 : decode b_kr_gcd 17 = .ok (.lload 6, 2) := by decide +kernel
theorem d_kr_gcd_19 : decode b_kr_gcd 19 = .ok (.lconst 0, 1) := by decide +kernel
theorem d_kr_gcd_20 : decode b_kr_gcd 20 = .ok (.lcmp, 1) := by decide +kernel
theorem d_kr_gcd_21 : decode b_kr_gcd 21 = .ok (.ifCond .eq 24, 3) := by decide +kernel
theorem d_kr_gcd_24 : decode b_kr_gcd 24 = .ok (.lload 4, 2) := by decide +kernel
theorem d_kr_gcd_26 : decode b_kr_gcd 26 = .ok (.lload 6, 2) := by decide +kernel
theorem d_kr_gcd_28 : decode b_kr_gcd 28 = .ok (.lrem, 1) := by decide +kernel
theorem d_kr_gcd_29 : decode b_kr_gcd 29 = .ok (.lstore 9, 2) := by decide +kernel
theorem d_kr_gcd_31 : decode b_kr_gcd 31 = .ok (.lload 6, 2) := by decide +kernel
theorem d_kr_gcd_33 : decode b_kr_gcd 33 = .ok (.lstore 4, 2) := by decide +kernel
theorem d_kr_gcd_35 : decode b_kr_gcd 35 = .ok (.lload 9, 2) := by decide +kernel
theorem d_kr_gcd_37 : decode b_kr_gcd 37 = .ok (.lstore 6, 2) := by decide +kernel
theorem d_kr_gcd_39 : decode b_kr_gcd 39 = .ok (.iinc 8 1, 3) := by decide +kernel
theorem d_kr_gcd_42 : decode b_kr_gcd 42 = .ok (.goto (-33), 3) := by decide +kernel
theorem d_kr_gcd_45 : decode b_kr_gcd 45 = .ok (.lload 4, 2) := by decide +kernel
theorem d_kr_gcd_47 : decode b_kr_gcd 47 = .ok (.lconst 0, 1) := by decide +kernel
theorem d_kr_gcd_48 : decode b_kr_gcd 48 = .ok (.lcmp, 1) := by decide +kernel
theorem d_kr_gcd_49 : decode b_kr_gcd 49 = .ok (.ifCond .ge 7, 3) := by decide +kernel
theorem d_kr_gcd_52 : decode b_kr_gcd 52 = .ok (.iconst 1, 1) := by decide +kernel
theorem d_kr_gcd_53 : decode b_kr_gcd 53 = .ok (.goto 4, 3) := by decide +kernel
theorem d_kr_gcd_56 : decode b_kr_gcd 56 = .ok (.iconst 0, 1) := by decide +kernel
theorem d_kr_gcd_57 : decode b_kr_gcd 57 = .ok (.lload_n 2, 1) := by decide +kernel
theorem d_kr_gcd_58 : decode b_kr_gcd 58 = .ok (.lconst 0, 1) := by decide +kernel
theorem d_kr_gcd_59 : decode b_kr_gcd 59 = .ok (.lcmp, 1) := by decide +kernel
theorem d_kr_gcd_60 : decode b_kr_gcd 60 = .ok (.ifCond .ge 7, 3) := by decide +kernel
theorem d_kr_gcd_63 : decode b_kr_gcd 63 = .ok (.iconst 1, 1) := by decide +kernel
theorem d_kr_gcd_64 : decode b_kr_gcd 64 = .ok (.goto 4, 3) := by decide +kernel
theorem d_kr_gcd_67 : decode b_kr_gcd 67 = .ok (.iconst 0, 1) := by decide +kernel
theorem d_kr_gcd_68 : decode b_kr_gcd 68 = .ok (.if_icmp .ne 8, 3) := by decide +kernel
theorem d_kr_gcd_71 : decode b_kr_gcd 71 = .ok (.lload 4, 2) := by decide +kernel
theorem d_kr_gcd_73 : decode b_kr_gcd 73 = .ok (.goto 6, 3) := by decide +kernel
theorem d_kr_gcd_76 : decode b_kr_gcd 76 = .ok (.lload 4, 2) := by decide +kernel
theorem d_kr_gcd_78 : decode b_kr_gcd 78 = .ok (.lneg, 1) := by decide +kernel
theorem d_kr_gcd_79 : decode b_kr_gcd 79 = .ok (.lreturn, 1) := by decide +kernel
/-- the loop of commonDivisor: k steps are left -/
def gcdL : Nat → Int64 → Int64 → Int64
  | 0, x, _ => x
  | k + 1, x, y => if y = 0 then x else gcdL k y (x - x / y * y)
def kr_gcdE (b : Int64) (x : Int64) : Int64 :=
  if 0 ≤ x then if 0 ≤ b then x else -x else if 0 ≤ b then -x else x
set_option maxHeartbeats 4000000 in
theorem tl_kr_gcd {p : Program} {l : Launch} {e : Env} {R : Room} {s : State} {m : MethodId} {args : Array Value} {below : List Frame} {meth : Method} {c : Code} (hx : p.tables.exec = Jvm.exec) (hb : c.code = b_kr_gcd) (hr : meth.sig.returnType = (some .long)) (hlocks : meth.locks = false) {post : Int64 → Prop} {a b x : Int64} (hq : post (kr_gcdE b x)) {ls : Array Slot} (hl : lv_has ls 11 [(0, .long a), (2, .long b), (4, .long x)]) :
    W p l e R s m args below meth c s.heap [] 0 0 (MQ below (vp_Sl post) args s 0 0 (fun _ => False)) (F0 m 45 ls []) := by
  refine lv_lload hx hb d_kr_gcd_45 (lv_at hl 2 rfl) ?_
  refine lv_lconst (v := 0) hx hb d_kr_gcd_47 (by decide) ?_
  refine lx_ifge (tgt := 56) hx hb d_kr_gcd_48 d_kr_gcd_49 (by decide) (fun c_1 => ?_) (fun c_1 => ?_)
  · refine lv_iconst (v := 0) hx hb d_kr_gcd_56 (by decide) ?_
    refine lv_lload_n hx hb d_kr_gcd_57 rfl (lv_at hl 1 rfl) ?_
    refine lv_lconst (v := 0) hx hb d_kr_gcd_58 (by decide) ?_
    refine lx_ifge (tgt := 67) hx hb d_kr_gcd_59 d_kr_gcd_60 (by decide) (fun c_2 => ?_) (fun c_2 => ?_)
    · refine lv_iconst (v := 0) hx hb d_kr_gcd_67 (by decide) ?_
      refine lv_icmp_ne (tgt := 76) hx hb d_kr_gcd_68 (by decide) (fun c_3 => ?_) (fun c_3 => ?_)
      · exact absurd c_3 (by decide)
      · refine lv_lload hx hb d_kr_gcd_71 (lv_at hl 2 rfl) ?_
        refine lv_goto (tgt := 79) hx hb d_kr_gcd_73 (by decide) ?_
        exact W.lret (v := x) hx hb hr (fun t ht hW => ⟨_, rfl, by unfold kr_gcdE at hq; rw [if_pos c_1, if_pos c_2] at hq; exact hq, ht⟩) t_nil d_kr_gcd_79
    · refine lv_iconst (v := 1) hx hb d_kr_gcd_63 (by decide) ?_
      refine lv_goto (tgt := 68) hx hb d_kr_gcd_64 (by decide) ?_
      refine lv_icmp_ne (tgt := 76) hx hb d_kr_gcd_68 (by decide) (fun c_4 => ?_) (fun c_4 => ?_)
      · refine lv_lload hx hb d_kr_gcd_76 (lv_at hl 2 rfl) ?_
        refine lv_lneg hx hb d_kr_gcd_78 ?_
        exact W.lret (v := -x) hx hb hr (fun t ht hW => ⟨_, rfl, by unfold kr_gcdE at hq; rw [if_pos c_1, if_neg c_2] at hq; exact hq, ht⟩) t_nil d_kr_gcd_79
      · exact absurd c_4 (by decide)
  · refine lv_iconst (v := 1) hx hb d_kr_gcd_52 (by decide) ?_
    refine lv_goto (tgt := 57) hx hb d_kr_gcd_53 (by decide) ?_
    refine lv_lload_n hx hb d_kr_gcd_57 rfl (lv_at hl 1 rfl) ?_
    refine lv_lconst (v := 0) hx hb d_kr_gcd_58 (by decide) ?_
    refine lx_ifge (tgt := 67) hx hb d_kr_gcd_59 d_kr_gcd_60 (by decide) (fun c_5 => ?_) (fun c_5 => ?_)
    · refine lv_iconst (v := 0) hx hb d_kr_gcd_67 (by decide) ?_
      refine lv_icmp_ne (tgt := 76) hx hb d_kr_gcd_68 (by decide) (fun c_6 => ?_) (fun c_6 => ?_)
      · refine lv_lload hx hb d_kr_gcd_76 (lv_at hl 2 rfl) ?_
        refine lv_lneg hx hb d_kr_gcd_78 ?_
        exact W.lret (v := -x) hx hb hr (fun t ht hW => ⟨_, rfl, by unfold kr_gcdE at hq; rw [if_neg c_1, if_pos c_5] at hq; exact hq, ht⟩) t_nil d_kr_gcd_79
      · exact absurd c_6 (by decide)
    · refine lv_iconst (v := 1) hx hb d_kr_gcd_63 (by decide) ?_
      refine lv_goto (tgt := 68) hx hb d_kr_gcd_64 (by decide) ?_
      refine lv_icmp_ne (tgt := 76) hx hb d_kr_gcd_68 (by decide) (fun c_7 => ?_) (fun c_7 => ?_)
      · exact absurd c_7 (by decide)
      · refine lv_lload hx hb d_kr_gcd_71 (lv_at hl 2 rfl) ?_
        refine lv_goto (tgt := 79) hx hb d_kr_gcd_73 (by decide) ?_
        exact W.lret (v := x) hx hb hr (fun t ht hW => ⟨_, rfl, by unfold kr_gcdE at hq; rw [if_neg c_1, if_neg c_5] at hq; exact hq, ht⟩) t_nil d_kr_gcd_79
theorem gcd_k0 {k : Nat} (hk : k ≤ 200) (h : (200 : Int32) ≤ nI (200 - k)) : k = 0 := by
  rcases Nat.eq_zero_or_pos k with q | q
  · exact q
  · exact absurd (show nI 200 ≤ nI (200 - k) from h) (nI_ge (by omega) (by omega))
theorem gcd_inc {k : Nat} (hk : k + 1 ≤ 200) : nI (200 - (k + 1)) + 1 = nI (200 - k) := by
  rw [← nI_succ]
  exact congrArg nI (by omega)
theorem gcd_go {k : Nat} (hk : k ≤ 200) (h : ¬ (200 : Int32) ≤ nI (200 - k)) : ∃ j, k = j + 1 := by
  rcases k with _ | j
  · exact absurd (show (200 : Int32) ≤ nI 200 by decide) h
  · exact ⟨j, rfl⟩
set_option maxHeartbeats 4000000 in
theorem lp_kr_gcd {p : Program} {l : Launch} {e : Env} {R : Room} {s : State} {m : MethodId} {args : Array Value} {below : List Frame} {meth : Method} {c : Code} (hx : p.tables.exec = Jvm.exec) (hb : c.code = b_kr_gcd) (hr : meth.sig.returnType = (some .long)) (hlocks : meth.locks = false) {post : Int64 → Prop} {a b : Int64} :
    ∀ (k : Nat) (x y : Int64), k ≤ 200 → post (kr_gcdE b (gcdL k x y)) → ∀ {ls : Array Slot}, lv_has ls 11 [(0, .long a), (2, .long b), (4, .long x), (6, .long y), (8, .int (nI (200 - k)))] → W p l e R s m args below meth c s.heap [] 0 0 (MQ below (vp_Sl post) args s 0 0 (fun _ => False)) (F0 m 9 ls []) := by
  intro k
  induction k with
  | zero =>
    intro x y hk hq ls hl
    refine lv_iload hx hb d_kr_gcd_9 (lv_at hl 4 rfl) ?_
    refine lv_sipush (v := 200) hx hb d_kr_gcd_11 (by decide) ?_
    refine lv_icmp_ge (tgt := 45) hx hb d_kr_gcd_14 (by decide) (fun c_8 => ?_) (fun c_8 => ?_)
    · exact tl_kr_gcd hx hb hr hlocks hq (lv_sub hl [0, 1, 2] rfl)
    · exact absurd (show (200 : Int32) ≤ nI (200 - 0) by decide) c_8
  | succ k ih =>
    intro x y hk hq ls hl
    refine lv_iload hx hb d_kr_gcd_9 (lv_at hl 4 rfl) ?_
    refine lv_sipush (v := 200) hx hb d_kr_gcd_11 (by decide) ?_
    refine lv_icmp_ge (tgt := 45) hx hb d_kr_gcd_14 (by decide) (fun c_9 => ?_) (fun c_9 => ?_)
    · exact absurd (gcd_k0 hk c_9) (Nat.succ_ne_zero k)
    · refine lv_lload hx hb d_kr_gcd_17 (lv_at hl 3 rfl) ?_
      refine lv_lconst (v := 0) hx hb d_kr_gcd_19 (by decide) ?_
      refine lx_ifeq (tgt := 45) hx hb d_kr_gcd_20 d_kr_gcd_21 (by decide) (fun c_10 => ?_) (fun c_10 => ?_)
      · exact tl_kr_gcd hx hb hr hlocks (by rw [gcdL, if_pos c_10] at hq; exact hq) (lv_sub hl [0, 1, 2] rfl)
      · refine lv_lload hx hb d_kr_gcd_24 (lv_at hl 2 rfl) ?_
        refine lv_lload hx hb d_kr_gcd_26 (lv_at hl 3 rfl) ?_
        refine lv_lrem hx hb d_kr_gcd_28 c_10 ?_
        refine lv_lstore (lv' := [(9, .long (x - x / y * y)), (0, .long a), (2, .long b), (4, .long x), (6, .long y), (8, .int (nI (200 - (k + 1))))]) hx hb d_kr_gcd_29 hl (by decide) rfl (fun ls hl => ?_)
        refine lv_lload hx hb d_kr_gcd_31 (lv_at hl 4 rfl) ?_
        refine lv_lstore (lv' := [(4, .long y), (9, .long (x - x / y * y)), (0, .long a), (2, .long b), (6, .long y), (8, .int (nI (200 - (k + 1))))]) hx hb d_kr_gcd_33 hl (by decide) rfl (fun ls hl => ?_)
        refine lv_lload hx hb d_kr_gcd_35 (lv_at hl 1 rfl) ?_
        refine lv_lstore (lv' := [(6, .long (x - x / y * y)), (4, .long y), (9, .long (x - x / y * y)), (0, .long a), (2, .long b), (8, .int (nI (200 - (k + 1))))]) hx hb d_kr_gcd_37 hl (by decide) rfl (fun ls hl => ?_)
        refine lv_iinc (v := (nI (200 - (k + 1))) + 1) (lv' := [(8, .int ((nI (200 - (k + 1))) + 1)), (6, .long (x - x / y * y)), (4, .long y), (9, .long (x - x / y * y)), (0, .long a), (2, .long b)]) hx hb d_kr_gcd_39 hl (k := 5) rfl rfl (by decide) rfl (fun ls hl => ?_)
        refine lv_goto (tgt := 9) hx hb d_kr_gcd_42 (by decide) ?_
        exact ih _ _ (by omega) (by rw [gcdL, if_neg c_10] at hq; exact hq) (by have h9 := lv_sub hl [4, 5, 2, 1, 0] rfl; rw [gcd_inc hk] at h9; exact h9)
def f_kr_gcd (a b : Int64) : Int64 := kr_gcdE b (gcdL 200 a b)
set_option maxHeartbeats 4000000 in
set_option maxRecDepth 100000 in
theorem c_kr_gcd (l : Launch) (a : Int64) (b : Int64) : Met l y_kr_gcd w_kr_gcd ({ frames := 0, cells := 0, slots := 0, locals := 0 }) (va_Pc [.long a, .long b] (fun _ => True)) (vp_Sl (fun z9 => z9 = f_kr_gcd a b)) 0 0 (fun _ => False) := by
  refine Met.ofW (cc := b_kr_gcd) (maxL := 11) (ret := (some .long)) (by decide +kernel) rfl ?_
  intro p e s m args below meth c s₁ B hml hv
  obtain ⟨rfl, -⟩ := hv
  have hx := B.exec
  have hb := B.bytes
  have hr := B.returns
  have hts := atoms_spec (ws := w_kr_gcd) B.pre
  have hT := fun (w : Cond) (h : w ∈ kt_T) => hts w (List.mem_cons_of_mem _ h)
  have hown : s.vm.findClass R_kr = some m.cls := findClass_of_methodNamed B.named
  have hlocks := B.notSynchronized
  have hl := lv_entry ([.long a, .long b]) (n := 11) (Nat.le_of_ble_eq_true rfl)
  rw [lg_entry_eq]
  generalize (lg_sl ([.long a, .long b]) ++ List.replicate (11 - (lg_sl ([.long a, .long b])).length) Slot.unset).toArray = ls at hl ⊢
  have hl : lv_has ls 11 [(0, .long a), (2, .long b)] := hl
  refine lv_lload_n hx hb d_kr_gcd_0 rfl (lv_at hl 0 rfl) ?_
  refine lv_lstore (lv' := [(4, .long a), (0, .long a), (2, .long b)]) hx hb d_kr_gcd_1 hl (by decide) rfl (fun ls hl => ?_)
  refine lv_lload_n hx hb d_kr_gcd_3 rfl (lv_at hl 2 rfl) ?_
  refine lv_lstore (lv' := [(6, .long b), (4, .long a), (0, .long a), (2, .long b)]) hx hb d_kr_gcd_4 hl (by decide) rfl (fun ls hl => ?_)
  refine lv_iconst (v := 0) hx hb d_kr_gcd_6 (by decide) ?_
  refine lv_istore (lv' := [(8, .int 0), (6, .long b), (4, .long a), (0, .long a), (2, .long b)]) hx hb d_kr_gcd_7 hl (by decide) rfl (fun ls hl => ?_)
  exact lp_kr_gcd (post := fun r => r = f_kr_gcd a b) hx hb hr hlocks 200 a b (Nat.le_refl _) rfl (lv_sub hl [3, 4, 2, 1, 0] rfl)
