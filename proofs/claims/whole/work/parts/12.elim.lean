abbrev b_ks_pivot : ByteArray := prog_2_method_5_code
def y_ks_pivot : MethodName := ⟨R_ks, "pivotColumn", "(II)I"⟩
def w_ks_pivot : List Cond := .code y_ks_pivot b_ks_pivot 4 (some .int) :: kt_T
theorem d_ks_pivot_0 : decode b_ks_pivot 0 = .ok (.iconst 0, 1) := by decide +kernel
theorem d_ks_pivot_1 : decode b_ks_pivot 1 = .ok (.istore_n 3, 1) := by decide +kernel
theorem d_ks_pivot_2 : decode b_ks_pivot 2 = .ok (.iload_n 3, 1) := by decide +kernel
theorem d_ks_pivot_3 : decode b_ks_pivot 3 = .ok (.iload_n 2, 1) := by decide +kernel
theorem d_ks_pivot_4 : decode b_ks_pivot 4 = .ok (.if_icmp .ge 24, 3) := by decide +kernel
theorem d_ks_pivot_7 : decode b_ks_pivot 7 = .ok (.aload_n 0, 1) := by decide +kernel
theorem d_ks_pivot_8 : decode b_ks_pivot 8 = .ok (.getfield 18, 3) := by decide +kernel
theorem d_ks_pivot_11 : decode b_ks_pivot 11 = .ok (.iload_n 1, 1) := by decide +kernel
theorem d_ks_pivot_12 : decode b_ks_pivot 12 = .ok (.aaload, 1) := by decide +kernel
theorem d_ks_pivot_13 : decode b_ks_pivot 13 = .ok (.iload_n 3, 1) := by decide +kernel
theorem d_ks_pivot_14 : decode b_ks_pivot 14 = .ok (.laload, 1) := by decide +kernel
theorem d_ks_pivot_15 : decode b_ks_pivot 15 = .ok (.lconst 0, 1) := by decide +kernel
theorem d_ks_pivot_16 : decode b_ks_pivot 16 = .ok (.lcmp, 1) := by decide +kernel
theorem d_ks_pivot_17 : decode b_ks_pivot 17 = .ok (.ifCond .eq 5, 3) := by decide +kernel
theorem d_ks_pivot_20 : decode b_ks_pivot 20 = .ok (.iload_n 3, 1) := by decide +kernel
theorem d_ks_pivot_21 : decode b_ks_pivot 21 = .ok (.ireturn, 1) := by decide +kernel
theorem d_ks_pivot_22 : decode b_ks_pivot 22 = .ok (.iinc 3 1, 3) := by decide +kernel
theorem d_ks_pivot_25 : decode b_ks_pivot 25 = .ok (.goto (-23), 3) := by decide +kernel
theorem d_ks_pivot_28 : decode b_ks_pivot 28 = .ok (.iconst (-1), 1) := by decide +kernel
theorem d_ks_pivot_29 : decode b_ks_pivot 29 = .ok (.ireturn, 1) := by decide +kernel
abbrev b_ks_elim : ByteArray := prog_2_method_6_code
def y_ks_elim : MethodName := ⟨R_ks, "eliminate", "(IIIJ)V"⟩
def w_ks_elim : List Cond := .code y_ks_elim b_ks_elim 11 none :: kt_T
theorem d_ks_elim_0 : decode b_ks_elim 0 = .ok (.lload 4, 2) := by decide +kernel
theorem d_ks_elim_2 : decode b_ks_elim 2 = .ok (.lconst 0, 1) := by decide +kernel
theorem d_ks_elim_3 : decode b_ks_elim 3 = .ok (.lcmp, 1) := by decide +kernel
theorem d_ks_elim_4 : decode b_ks_elim 4 = .ok (.ifCond .ne 4, 3) := by decide +kernel
theorem d_ks_elim_7 : decode b_ks_elim 7 = .ok (.return_, 1) := by decide +kernel
theorem d_ks_elim_8 : decode b_ks_elim 8 = .ok (.aload_n 0, 1) := by decide +kernel
theorem d_ks_elim_9 : decode b_ks_elim 9 = .ok (.getfield 18, 3) := by decide +kernel
theorem d_ks_elim_12 : decode b_ks_elim 12 = .ok (.iload_n 2, 1) := by decide +kernel
theorem d_ks_elim_13 : decode b_ks_elim 13 = .ok (.aaload, 1) := by decide +kernel
theorem d_ks_elim_14 : decode b_ks_elim 14 = .ok (.iload_n 3, 1) := by decide +kernel
theorem d_ks_elim_15 : decode b_ks_elim 15 = .ok (.laload, 1) := by decide +kernel
theorem d_ks_elim_16 : decode b_ks_elim 16 = .ok (.lstore 6, 2) := by decide +kernel
theorem d_ks_elim_18 : decode b_ks_elim 18 = .ok (.aload_n 0, 1) := by decide +kernel
theorem d_ks_elim_19 : decode b_ks_elim 19 = .ok (.getfield 18, 3) := by decide +kernel
theorem d_ks_elim_22 : decode b_ks_elim 22 = .ok (.iload_n 1, 1) := by decide +kernel
theorem d_ks_elim_23 : decode b_ks_elim 23 = .ok (.aaload, 1) := by decide +kernel
theorem d_ks_elim_24 : decode b_ks_elim 24 = .ok (.iload_n 3, 1) := by decide +kernel
theorem d_ks_elim_25 : decode b_ks_elim 25 = .ok (.laload, 1) := by decide +kernel
theorem d_ks_elim_26 : decode b_ks_elim 26 = .ok (.lstore 8, 2) := by decide +kernel
theorem d_ks_elim_28 : decode b_ks_elim 28 = .ok (.iconst 0, 1) := by decide +kernel
theorem d_ks_elim_29 : decode b_ks_elim 29 = .ok (.istore 10, 2) := by decide +kernel
theorem d_ks_elim_31 : decode b_ks_elim 31 = .ok (.iload 10, 2) := by decide +kernel
theorem d_ks_elim_33 : decode b_ks_elim 33 = .ok (.iconst 5, 1) := by decide +kernel
theorem d_ks_elim_34 : decode b_ks_elim 34 = .ok (.if_icmp .ge 46, 3) := by decide +kernel
theorem d_ks_elim_37 : decode b_ks_elim 37 = .ok (.aload_n 0, 1) := by decide +kernel
theorem d_ks_elim_38 : decode b_ks_elim 38 = .ok (.getfield 18, 3) := by decide +kernel
theorem d_ks_elim_41 : decode b_ks_elim 41 = .ok (.iload_n 1, 1) := by decide +kernel
theorem d_ks_elim_42 : decode b_ks_elim 42 = .ok (.aaload, 1) := by decide +kernel
theorem d_ks_elim_43 : decode b_ks_elim 43 = .ok (.iload 10, 2) := by decide +kernel
theorem d_ks_elim_45 : decode b_ks_elim 45 = .ok (.lload 6, 2) := by decide +kernel
theorem d_ks_elim_47 : decode b_ks_elim 47 = .ok (.aload_n 0, 1) := by decide +kernel
theorem d_ks_elim_48 : decode b_ks_elim 48 = .ok (.getfield 18, 3) := by decide +kernel
theorem d_ks_elim_51 : decode b_ks_elim 51 = .ok (.iload_n 1, 1) := by decide +kernel
theorem d_ks_elim_52 : decode b_ks_elim 52 = .ok (.aaload, 1) := by decide +kernel
theorem d_ks_elim_53 : decode b_ks_elim 53 = .ok (.iload 10, 2) := by decide +kernel
theorem d_ks_elim_55 : decode b_ks_elim 55 = .ok (.laload, 1) := by decide +kernel
theorem d_ks_elim_56 : decode b_ks_elim 56 = .ok (.lmul, 1) := by decide +kernel
theorem d_ks_elim_57 : decode b_ks_elim 57 = .ok (.lload 8, 2) := by decide +kernel
theorem d_ks_elim_59 : decode b_ks_elim 59 = .ok (.aload_n 0, 1) := by decide +kernel
theorem d_ks_elim_60 : decode b_ks_elim 60 = .ok (.getfield 18, 3) := by decide +kernel
theorem d_ks_elim_63 : decode b_ks_elim 63 = .ok (.iload_n 2, 1) := by decide +kernel
theorem d_ks_elim_64 : decode b_ks_elim 64 = .ok (.aaload, 1) := by decide +kernel
theorem d_ks_elim_65 : decode b_ks_elim 65 = .ok (.iload 10, 2) := by decide +kernel
theorem d_ks_elim_67 : decode b_ks_elim 67 = .ok (.laload, 1) := by decide +kernel
theorem d_ks_elim_68 : decode b_ks_elim 68 = .ok (.lmul, 1) := by decide +kernel
theorem d_ks_elim_69 : decode b_ks_elim 69 = .ok (.lsub, 1) := by decide +kernel
theorem d_ks_elim_70 : decode b_ks_elim 70 = .ok (.lload 4, 2) := by decide +kernel
theorem d_ks_elim_72 : decode b_ks_elim 72 = .ok (.ldiv, 1) := by decide +kernel
theorem d_ks_elim_73 : decode b_ks_elim 73 = .ok (.lastore, 1) := by decide +kernel
theorem d_ks_elim_74 : decode b_ks_elim 74 = .ok (.iinc 10 1, 3) := by decide +kernel
theorem d_ks_elim_77 : decode b_ks_elim 77 = .ok (.goto (-46), 3) := by decide +kernel
theorem d_ks_elim_80 : decode b_ks_elim 80 = .ok (.return_, 1) := by decide +kernel
/-- the first place from j on, of n, that isn't 0; else -1 -/
def pvL (f : Nat → Int64) : Nat → Nat → Int32
  | 0, _ => -1
  | n + 1, j => if f j = 0 then pvL f n (j + 1) else nI j
set_option maxHeartbeats 4000000 in
theorem lp_ks_pivot {p : Program} {l : Launch} {e : Env} {R : Room} {s : State} {m : MethodId} {args : Array Value} {below : List Frame} {meth : Method} {c : Code} {dC : Nat → ClassId} {dI : Nat → Nat → Nat} (hx : p.tables.exec = Jvm.exec) (hb : c.code = b_ks_pivot) (hr : meth.sig.returnType = (some .int)) (hlocks : meth.locks = false) {post : Int32 → Prop} {a_s : Nat} {e0 : Nat} {w0 : Nat} {pv : Nat} {su : Nat} {sl : Nat} {er : Nat → Nat} {wr : Nat → Nat} {ans : Int32} {cE : ClassId} {cW : ClassId} {cP : ClassId} {fp : Nat → Int32} {cSu : ClassId} {fsu : Nat → Int64} {cSl : ClassId} {fsl : Nat → Int64} {cI : ClassId} {E : Nat → Nat → Int32} {cJ : ClassId} {Wm : Nat → Nat → Int64} {r : Nat} {n : Nat} (hT : ∀ w ∈ kt_T, w.before args s = true) (hown : s.vm.findClass R_ks = some m.cls) (hK : va_K (dC, dI) classes [(cE, .array .int), (cW, .array .long), (cP, .int), (cSu, .long), (cSl, .long), (cI, .int), (cJ, .long)] s) (hP : va_P (dC, dI) classes (ks_ws a_s e0 w0 pv su sl er wr cE cW cP cSu cSl cI cJ fp fsu fsl E Wm ans) s.heap) (hrw : r < 4) (hn : n ≤ 4) :
    ∀ (d j : Nat), j + d = n → post (pvL (Wm r) d j) → ∀ {ls : Array Slot}, lv_has ls 4 [(0, .ref a_s), (1, .int (nI r)), (2, .int (nI n)), (3, .int (nI j))] → W p l e R s m args below meth c s.heap [] 0 0 (MQ below (vp_Si post) args s 0 0 (fun _ => False)) (F0 m 2 ls []) := by
  intro d
  induction d with
  | zero =>
    intro j hj hq ls hl
    refine lv_iload_n hx hb d_ks_pivot_2 rfl (lv_at hl 3 rfl) ?_
    refine lv_iload_n hx hb d_ks_pivot_3 rfl (lv_at hl 2 rfl) ?_
    refine lv_icmp_ge (tgt := 28) hx hb d_ks_pivot_4 (by decide) (fun c_1 => ?_) (fun c_1 => ?_)
    · refine lv_iconst (v := (-1)) hx hb d_ks_pivot_28 (by decide) ?_
      exact W.iret (v := (-1)) hx hb hr (fun t ht hW => ⟨_, rfl, hq, ht⟩) t_nil d_ks_pivot_29
    · exact absurd (nI_le (show n ≤ j by omega) (by omega)) c_1
  | succ d ih =>
    intro j hj hq ls hl
    refine lv_iload_n hx hb d_ks_pivot_2 rfl (lv_at hl 3 rfl) ?_
    refine lv_iload_n hx hb d_ks_pivot_3 rfl (lv_at hl 2 rfl) ?_
    refine lv_icmp_ge (tgt := 28) hx hb d_ks_pivot_4 (by decide) (fun c_2 => ?_) (fun c_2 => ?_)
    · exact absurd c_2 (nI_ge (show j < n by omega) (by omega))
    · refine lv_aload_n hx hb d_ks_pivot_7 rfl (lv_at hl 0 rfl) ?_
      refine va_get (D := (dC, dI)) (ci := 2) (v := .ref w0) (C := R_ks) (T := F_ks) (N := 6) hx hb hT i_ks hown hK hP 0 rfl rfl 1 (by decide) (hT _ k_79) (fun _ h9 => h9) rfl d_ks_pivot_8 ?_
      refine lv_iload_n hx hb d_ks_pivot_11 rfl (lv_at hl 1 rfl) ?_
      refine kx_aldN hx hb hK hP 2 1 rfl rfl hrw d_ks_pivot_12 ?_
      refine lv_iload_n hx hb d_ks_pivot_13 rfl (lv_at hl 3 rfl) ?_
      refine va_laldN (i := j) hx hb hK hP (10 + r) 6 (ks_w hrw) rfl ⟨by omega, by decide⟩ d_ks_pivot_14 ?_
      refine lv_lconst (v := 0) hx hb d_ks_pivot_15 (by decide) ?_
      refine lx_ifeq (tgt := 22) hx hb d_ks_pivot_16 d_ks_pivot_17 (by decide) (fun c_3 => ?_) (fun c_3 => ?_)
      · refine lv_iinc (v := (nI j) + 1) (lv' := [(3, .int ((nI j) + 1)), (0, .ref a_s), (1, .int (nI r)), (2, .int (nI n))]) hx hb d_ks_pivot_22 hl (k := 3) rfl rfl (by decide) rfl (fun ls hl => ?_)
        refine lv_goto (tgt := 2) hx hb d_ks_pivot_25 (by decide) ?_
        exact ih (j + 1) (by omega) (by rw [pvL, if_pos c_3] at hq; exact hq) (by have h9 := lv_sub hl [1, 2, 3, 0] rfl; rw [nI_1] at h9; exact h9)
      · refine lv_iload_n hx hb d_ks_pivot_20 rfl (lv_at hl 3 rfl) ?_
        exact W.iret (v := (nI j)) hx hb hr (fun t ht hW => ⟨_, rfl, by rw [pvL, if_neg c_3] at hq; exact hq, ht⟩) t_nil d_ks_pivot_21
def f_ks_pivot (Wm : Nat → Nat → Int64) (r : Nat) (n : Nat) : Int32 :=
  (pvL (Wm r) n 0)
set_option maxHeartbeats 4000000 in
set_option maxRecDepth 100000 in
theorem c_ks_pivot (l : Launch) (dC : Nat → ClassId) (dI : Nat → Nat → Nat) (a_s : Nat) (e0 : Nat) (w0 : Nat) (pv : Nat) (su : Nat) (sl : Nat) (er : Nat → Nat) (wr : Nat → Nat) (ans : Int32) (cE : ClassId) (cW : ClassId) (cP : ClassId) (fp : Nat → Int32) (cSu : ClassId) (fsu : Nat → Int64) (cSl : ClassId) (fsl : Nat → Int64) (cI : ClassId) (E : Nat → Nat → Int32) (cJ : ClassId) (Wm : Nat → Nat → Int64) (r : Nat) (n : Nat) (hrw : r < 4) (hn : n ≤ 4) : Met l y_ks_pivot w_ks_pivot ({ frames := 0, cells := 0, slots := 0, locals := 0 }) (va_Pc [.ref a_s, .int (nI r), .int (nI n)] (fun U => va_P (dC, dI) classes (ks_ws a_s e0 w0 pv su sl er wr cE cW cP cSu cSl cI cJ fp fsu fsl E Wm ans) U.heap ∧ va_K (dC, dI) classes [(cE, .array .int), (cW, .array .long), (cP, .int), (cSu, .long), (cSl, .long), (cI, .int), (cJ, .long)] U)) (vp_Si (fun z9 => z9 = f_ks_pivot Wm r n)) 0 0 (fun _ => False) := by
  refine Met.ofW (cc := b_ks_pivot) (maxL := 4) (ret := (some .int)) (by decide +kernel) rfl ?_
  intro p e s m args below meth c s₁ B hml hv
  obtain ⟨rfl, hP, hK⟩ := hv
  have hx := B.exec
  have hb := B.bytes
  have hr := B.returns
  have hts := atoms_spec (ws := w_ks_pivot) B.pre
  have hT := fun (w : Cond) (h : w ∈ kt_T) => hts w (List.mem_cons_of_mem _ h)
  have hown : s.vm.findClass R_ks = some m.cls := findClass_of_methodNamed B.named
  have hlocks := B.notSynchronized
  have hl := lv_entry ([.ref a_s, .int (nI r), .int (nI n)]) (n := 4) (Nat.le_of_ble_eq_true rfl)
  rw [lg_entry_eq]
  generalize (lg_sl ([.ref a_s, .int (nI r), .int (nI n)]) ++ List.replicate (4 - (lg_sl ([.ref a_s, .int (nI r), .int (nI n)])).length) Slot.unset).toArray = ls at hl ⊢
  have hl : lv_has ls 4 [(0, .ref a_s), (1, .int (nI r)), (2, .int (nI n))] := hl
  refine lv_iconst (v := 0) hx hb d_ks_pivot_0 (by decide) ?_
  refine lv_istore_n (lv' := [(3, .int 0), (0, .ref a_s), (1, .int (nI r)), (2, .int (nI n))]) hx hb d_ks_pivot_1 rfl hl (by decide) rfl (fun ls hl => ?_)
  exact lp_ks_pivot (post := fun v => v = f_ks_pivot Wm r n) hx hb hr hlocks hT hown hK hP hrw hn n 0 (Nat.zero_add _) rfl (lv_sub hl [1, 2, 3, 0] rfl)
/-- one row is cleared by another: k places are left, from j on -/
def elR (o r : Nat) (pv fc bf : Int64) : Nat → Nat → (Nat → Nat → Int64) → Nat → Nat → Int64
  | 0, _, X => X
  | k + 1, j, X => elR o r pv fc bf k (j + 1) (va_up X o (vp_updL (X o) j ((pv * X o j - fc * X r j) / bf)))
set_option maxHeartbeats 4000000 in
theorem lp_ks_elim {p : Program} {l : Launch} {e : Env} {R : Room} {s : State} {m : MethodId} {args : Array Value} {below : List Frame} {meth : Method} {c : Code} {dC : Nat → ClassId} {dI : Nat → Nat → Nat} {A : Nat → Prop} {Q : State → Prop} {a_s : Nat} {e0 : Nat} {w0 : Nat} {pv : Nat} {su : Nat} {sl : Nat} {er : Nat → Nat} {wr : Nat → Nat} {ans : Int32} {cE : ClassId} {cW : ClassId} {cP : ClassId} {fp : Nat → Int32} {cSu : ClassId} {fsu : Nat → Int64} {cSl : ClassId} {fsl : Nat → Int64} {cI : ClassId} {E : Nat → Nat → Int32} {cJ : ClassId} {o : Nat} {r : Nat} {q : Nat} {bf : Int64} (hx : p.tables.exec = Jvm.exec) (hb : c.code = b_ks_elim) (hml : c.maxLocals = 11) (hown : s.vm.findClass R_ks = some m.cls) (hT : ∀ w ∈ kt_T, w.before args s = true) (hA : ∀ q : Nat, s.heap.size ≤ q → A q) (hK : va_K (dC, dI) classes [(cE, .array .int), (cW, .array .long), (cP, .int), (cSu, .long), (cSl, .long), (cI, .int), (cJ, .long)] s) {pv1 fc : Int64} (ho : o < 4) (hrw : r < 4) (h0 : ¬ bf = 0) :
    ∀ (k j : Nat) (X : Nat → Nat → Int64), j + k = 5 → (∀ (H : Heap) (locs : List Loc) (ls : Array Slot), va_P (dC, dI) classes (ks_ws a_s e0 w0 pv su sl er wr cE cW cP cSu cSl cI cJ fp fsu fsl E (elR o r pv1 fc bf k j X) ans) H → va_D A (ks_ws a_s e0 w0 pv su sl er wr cE cW cP cSu cSl cI cJ fp fsu fsl E (elR o r pv1 fc bf k j X) ans) → va_S A s.heap H locs → lv_has ls 11 [(0, .ref a_s)] → W p l e R s m args below meth c H locs 0 0 Q (F0 m 80 ls [])) → ∀ (H : Heap) (locs : List Loc) (ls : Array Slot), va_P (dC, dI) classes (ks_ws a_s e0 w0 pv su sl er wr cE cW cP cSu cSl cI cJ fp fsu fsl E X ans) H → va_D A (ks_ws a_s e0 w0 pv su sl er wr cE cW cP cSu cSl cI cJ fp fsu fsl E X ans) → va_S A s.heap H locs → lv_has ls 11 [(0, .ref a_s), (1, .int (nI o)), (2, .int (nI r)), (3, .int (nI q)), (4, .long bf), (6, .long pv1), (8, .long fc), (10, .int (nI j))] → W p l e R s m args below meth c H locs 0 0 Q (F0 m 31 ls []) := by
  intro k
  induction k with
  | zero =>
    intro j X hj hk H locs ls hP hD hS hl
    refine lv_iload hx hb d_ks_elim_31 (lv_at hl 7 rfl) ?_
    refine lv_iconst (v := 5) hx hb d_ks_elim_33 (by decide) ?_
    refine lv_icmp_ge (tgt := 80) hx hb d_ks_elim_34 (by decide) (fun c_1 => ?_) (fun c_1 => ?_)
    · exact hk H locs ls hP hD hS (lv_sub hl [0] rfl)
    · exact absurd (show (5 : Int32) ≤ nI j by rw [show j = 5 by omega]; decide) c_1
  | succ k ih =>
    intro j X hj hk H locs ls hP hD hS hl
    refine lv_iload hx hb d_ks_elim_31 (lv_at hl 7 rfl) ?_
    refine lv_iconst (v := 5) hx hb d_ks_elim_33 (by decide) ?_
    refine lv_icmp_ge (tgt := 80) hx hb d_ks_elim_34 (by decide) (fun c_2 => ?_) (fun c_2 => ?_)
    · exact absurd c_2 (nI_ge (show j < 5 by omega) (by decide))
    · refine lv_aload_n hx hb d_ks_elim_37 rfl (lv_at hl 0 rfl) ?_
      refine va_get (D := (dC, dI)) (ci := 2) (v := .ref w0) (C := R_ks) (T := F_ks) (N := 6) hx hb hT i_ks hown hK hP 0 rfl rfl 1 (by decide) (hT _ k_79) (fun _ h9 => h9) rfl d_ks_elim_38 ?_
      refine lv_iload_n hx hb d_ks_elim_41 rfl (lv_at hl 1 rfl) ?_
      refine kx_aldN hx hb hK hP 2 1 rfl rfl ho d_ks_elim_42 ?_
      refine lv_iload hx hb d_ks_elim_43 (lv_at hl 7 rfl) ?_
      refine lv_lload hx hb d_ks_elim_45 (lv_at hl 5 rfl) ?_
      refine lv_aload_n hx hb d_ks_elim_47 rfl (lv_at hl 0 rfl) ?_
      refine va_get (D := (dC, dI)) (ci := 2) (v := .ref w0) (C := R_ks) (T := F_ks) (N := 6) hx hb hT i_ks hown hK hP 0 rfl rfl 1 (by decide) (hT _ k_79) (fun _ h9 => h9) rfl d_ks_elim_48 ?_
      refine lv_iload_n hx hb d_ks_elim_51 rfl (lv_at hl 1 rfl) ?_
      refine kx_aldN hx hb hK hP 2 1 rfl rfl ho d_ks_elim_52 ?_
      refine lv_iload hx hb d_ks_elim_53 (lv_at hl 7 rfl) ?_
      refine va_laldN (i := j) hx hb hK hP (10 + o) 6 (ks_w ho) rfl ⟨by omega, by decide⟩ d_ks_elim_55 ?_
      refine lv_lmul hx hb d_ks_elim_56 ?_
      refine lv_lload hx hb d_ks_elim_57 (lv_at hl 6 rfl) ?_
      refine lv_aload_n hx hb d_ks_elim_59 rfl (lv_at hl 0 rfl) ?_
      refine va_get (D := (dC, dI)) (ci := 2) (v := .ref w0) (C := R_ks) (T := F_ks) (N := 6) hx hb hT i_ks hown hK hP 0 rfl rfl 1 (by decide) (hT _ k_79) (fun _ h9 => h9) rfl d_ks_elim_60 ?_
      refine lv_iload_n hx hb d_ks_elim_63 rfl (lv_at hl 2 rfl) ?_
      refine kx_aldN hx hb hK hP 2 1 rfl rfl hrw d_ks_elim_64 ?_
      refine lv_iload hx hb d_ks_elim_65 (lv_at hl 7 rfl) ?_
      refine va_laldN (i := j) hx hb hK hP (10 + r) 6 (ks_w hrw) rfl ⟨by omega, by decide⟩ d_ks_elim_67 ?_
      refine lv_lmul hx hb d_ks_elim_68 ?_
      refine lv_lsub hx hb d_ks_elim_69 ?_
      refine lv_lload hx hb d_ks_elim_70 (lv_at hl 4 rfl) ?_
      refine lv_ldiv hx hb d_ks_elim_72 h0 ?_
      refine va_lastN (i := j) hx hb hK hP hD hS (10 + o) 6 (ks_w ho) rfl ⟨by omega, by decide⟩ d_ks_elim_73 (fun H locs hP hD hS => ?_)
      rw [ks_ww ho] at hP hD
      have hP : va_P (dC, dI) classes (ks_ws a_s e0 w0 pv su sl er wr cE cW cP cSu cSl cI cJ fp fsu fsl E (va_up X o (vp_updL (X o) j (((pv1 * (X o j)) - (fc * (X r j))) / bf))) ans) H := hP
      have hD : va_D A (ks_ws a_s e0 w0 pv su sl er wr cE cW cP cSu cSl cI cJ fp fsu fsl E (va_up X o (vp_updL (X o) j (((pv1 * (X o j)) - (fc * (X r j))) / bf))) ans) := hD
      refine lv_iinc (v := (nI j) + 1) (lv' := [(10, .int ((nI j) + 1)), (0, .ref a_s), (1, .int (nI o)), (2, .int (nI r)), (3, .int (nI q)), (4, .long bf), (6, .long pv1), (8, .long fc)]) hx hb d_ks_elim_74 hl (k := 7) rfl rfl (by decide) rfl (fun ls hl => ?_)
      refine lv_goto (tgt := 31) hx hb d_ks_elim_77 (by decide) ?_
      exact ih (j + 1) _ (by omega) hk H locs ls hP hD hS (by have h9 := lv_sub hl [1, 2, 3, 4, 5, 6, 7, 0] rfl; rw [nI_1] at h9; exact h9)
def f_ks_elim (Wm : Nat → Nat → Int64) (o : Nat) (r : Nat) (q : Nat) (bf : Int64) : (Nat → Nat → Int64) :=
  if bf = 0 then Wm else (elR o r (Wm r q) (Wm o q) bf 5 0 Wm)
set_option maxHeartbeats 4000000 in
set_option maxRecDepth 100000 in
theorem c_ks_elim (l : Launch) (dC : Nat → ClassId) (dI : Nat → Nat → Nat) (sz : Nat) (a_s : Nat) (e0 : Nat) (w0 : Nat) (pv : Nat) (su : Nat) (sl : Nat) (er : Nat → Nat) (wr : Nat → Nat) (ans : Int32) (cE : ClassId) (cW : ClassId) (cP : ClassId) (fp : Nat → Int32) (cSu : ClassId) (fsu : Nat → Int64) (cSl : ClassId) (fsl : Nat → Int64) (cI : ClassId) (E : Nat → Nat → Int32) (cJ : ClassId) (Wm : Nat → Nat → Int64) (o : Nat) (r : Nat) (q : Nat) (bf : Int64) (ho : o < 4) (hrw : r < 4) (hq4 : q < 5) : Met l y_ks_elim w_ks_elim ({ frames := 0, cells := 0, slots := 0, locals := 0 }) (va_Pc [.ref a_s, .int (nI o), .int (nI r), .int (nI q), .long bf] (fun U => U.heap.size = sz ∧ va_P (dC, dI) classes (ks_ws a_s e0 w0 pv su sl er wr cE cW cP cSu cSl cI cJ fp fsu fsl E Wm ans) U.heap ∧ va_K (dC, dI) classes [(cE, .array .int), (cW, .array .long), (cP, .int), (cSu, .long), (cSl, .long), (cI, .int), (cJ, .long)] U ∧ va_D (fun _ => True) (ks_ws a_s e0 w0 pv su sl er wr cE cW cP cSu cSl cI cJ fp fsu fsl E Wm ans))) (va_Qv (fun u9 => u9 = f_ks_elim Wm o r q bf) (fun (u : (Nat → Nat → Int64)) t => match u with | Wm' => va_P (dC, dI) classes (ks_ws a_s e0 w0 pv su sl er wr cE cW cP cSu cSl cI cJ fp fsu fsl E Wm' ans) t.heap ∧ va_K (dC, dI) classes [(cE, .array .int), (cW, .array .long), (cP, .int), (cSu, .long), (cSl, .long), (cI, .int), (cJ, .long)] t ∧ va_D (va_A (ks_ws a_s e0 w0 pv su sl er wr cE cW cP cSu cSl cI cJ fp fsu fsl E Wm ans) sz) (ks_ws a_s e0 w0 pv su sl er wr cE cW cP cSu cSl cI cJ fp fsu fsl E Wm' ans)) (va_A (ks_ws a_s e0 w0 pv su sl er wr cE cW cP cSu cSl cI cJ fp fsu fsl E Wm ans) sz)) 0 0 (va_A (ks_ws a_s e0 w0 pv su sl er wr cE cW cP cSu cSl cI cJ fp fsu fsl E Wm ans) sz) := by
  refine Met.ofW (cc := b_ks_elim) (maxL := 11) (ret := none) (by decide +kernel) rfl ?_
  intro p e s m args below meth c s₁ B hml hv
  obtain ⟨rfl, hsz, hP, hK, hD0⟩ := hv
  have hx := B.exec
  have hb := B.bytes
  have hr := B.returns
  have hts := atoms_spec (ws := w_ks_elim) B.pre
  have hT := fun (w : Cond) (h : w ∈ kt_T) => hts w (List.mem_cons_of_mem _ h)
  have hown : s.vm.findClass R_ks = some m.cls := findClass_of_methodNamed B.named
  have hlocks := B.notSynchronized
  subst hsz
  have hD := hD0.self (sz := s.heap.size)
  generalize hAe : va_A (ks_ws a_s e0 w0 pv su sl er wr cE cW cP cSu cSl cI cJ fp fsu fsl E Wm ans) s.heap.size = A at hD ⊢
  have hA : ∀ q : Nat, s.heap.size ≤ q → A q := fun q h => by rw [← hAe]; exact Or.inr h
  have hS : va_S A s.heap s.heap [] := va_S.rf
  have hl := lv_entry ([.ref a_s, .int (nI o), .int (nI r), .int (nI q), .long bf]) (n := 11) (Nat.le_of_ble_eq_true rfl)
  rw [lg_entry_eq]
  generalize (lg_sl ([.ref a_s, .int (nI o), .int (nI r), .int (nI q), .long bf]) ++ List.replicate (11 - (lg_sl ([.ref a_s, .int (nI o), .int (nI r), .int (nI q), .long bf])).length) Slot.unset).toArray = ls at hl ⊢
  have hl : lv_has ls 11 [(0, .ref a_s), (1, .int (nI o)), (2, .int (nI r)), (3, .int (nI q)), (4, .long bf)] := hl
  refine lv_lload hx hb d_ks_elim_0 (lv_at hl 4 rfl) ?_
  refine lv_lconst (v := 0) hx hb d_ks_elim_2 (by decide) ?_
  refine lx_ifne (tgt := 8) hx hb d_ks_elim_3 d_ks_elim_4 (by decide) (fun c_1 => ?_) (fun c_1 => ?_)
  · refine lv_aload_n hx hb d_ks_elim_8 rfl (lv_at hl 0 rfl) ?_
    refine va_get (D := (dC, dI)) (ci := 2) (v := .ref w0) (C := R_ks) (T := F_ks) (N := 6) hx hb hT i_ks hown hK hP 0 rfl rfl 1 (by decide) (hT _ k_79) (fun _ h9 => h9) rfl d_ks_elim_9 ?_
    refine lv_iload_n hx hb d_ks_elim_12 rfl (lv_at hl 2 rfl) ?_
    refine kx_aldN hx hb hK hP 2 1 rfl rfl hrw d_ks_elim_13 ?_
    refine lv_iload_n hx hb d_ks_elim_14 rfl (lv_at hl 3 rfl) ?_
    refine va_laldN (i := q) hx hb hK hP (10 + r) 6 (ks_w hrw) rfl ⟨hq4, by decide⟩ d_ks_elim_15 ?_
    refine lv_lstore (lv' := [(6, .long (Wm r q)), (0, .ref a_s), (1, .int (nI o)), (2, .int (nI r)), (3, .int (nI q)), (4, .long bf)]) hx hb d_ks_elim_16 hl (by decide) rfl (fun ls hl => ?_)
    refine lv_aload_n hx hb d_ks_elim_18 rfl (lv_at hl 1 rfl) ?_
    refine va_get (D := (dC, dI)) (ci := 2) (v := .ref w0) (C := R_ks) (T := F_ks) (N := 6) hx hb hT i_ks hown hK hP 0 rfl rfl 1 (by decide) (hT _ k_79) (fun _ h9 => h9) rfl d_ks_elim_19 ?_
    refine lv_iload_n hx hb d_ks_elim_22 rfl (lv_at hl 2 rfl) ?_
    refine kx_aldN hx hb hK hP 2 1 rfl rfl ho d_ks_elim_23 ?_
    refine lv_iload_n hx hb d_ks_elim_24 rfl (lv_at hl 4 rfl) ?_
    refine va_laldN (i := q) hx hb hK hP (10 + o) 6 (ks_w ho) rfl ⟨hq4, by decide⟩ d_ks_elim_25 ?_
    refine lv_lstore (lv' := [(8, .long (Wm o q)), (6, .long (Wm r q)), (0, .ref a_s), (1, .int (nI o)), (2, .int (nI r)), (3, .int (nI q)), (4, .long bf)]) hx hb d_ks_elim_26 hl (by decide) rfl (fun ls hl => ?_)
    refine lv_iconst (v := 0) hx hb d_ks_elim_28 (by decide) ?_
    refine lv_istore (lv' := [(10, .int 0), (8, .long (Wm o q)), (6, .long (Wm r q)), (0, .ref a_s), (1, .int (nI o)), (2, .int (nI r)), (3, .int (nI q)), (4, .long bf)]) hx hb d_ks_elim_29 hl (by decide) rfl (fun ls hl => ?_)
    refine lp_ks_elim hx hb hml hown hT hA hK ho hrw c_1 5 0 Wm rfl (fun H locs ls hP hD hS hl => ?_) s.heap [] ls hP hD hS (lv_sub hl [3, 4, 5, 6, 7, 2, 1, 0] rfl)
    exact W.vret hx hb hr (fun t ht hW => ⟨⟨(elR o r (Wm r q) (Wm o q) bf 5 0 Wm), rfl, by unfold f_ks_elim; rw [if_neg c_1], by rw [ht]; exact hP, va_K.moved hW.alike hK, hD⟩, hS.F ht⟩) hS.2.2 d_ks_elim_80
  · exact W.vret hx hb hr (fun t ht hW => ⟨⟨Wm, rfl, by unfold f_ks_elim; rw [if_pos c_1], by rw [ht]; exact hP, va_K.moved hW.alike hK, hD⟩, hS.F ht⟩) hS.2.2 d_ks_elim_7
