abbrev b_ks_copy : ByteArray := prog_2_method_4_code
def y_ks_copy : MethodName := ⟨R_ks, "copyEntries", "(I)V"⟩
def w_ks_copy : List Cond := .code y_ks_copy b_ks_copy 4 none :: kt_T
theorem d_ks_copy_0 : decode b_ks_copy 0 = .ok (.iconst 0, 1) := by decide +kernel
theorem d_ks_copy_1 : decode b_ks_copy 1 = .ok (.istore_n 2, 1) := by decide +kernel
theorem d_ks_copy_2 : decode b_ks_copy 2 = .ok (.iload_n 2, 1) := by decide +kernel
theorem d_ks_copy_3 : decode b_ks_copy 3 = .ok (.iload_n 1, 1) := by decide +kernel
theorem d_ks_copy_4 : decode b_ks_copy 4 = .ok (.if_icmp .ge 39, 3) := by decide +kernel
theorem d_ks_copy_7 : decode b_ks_copy 7 = .ok (.iconst 0, 1) := by decide +kernel
theorem d_ks_copy_8 : decode b_ks_copy 8 = .ok (.istore_n 3, 1) := by decide +kernel
theorem d_ks_copy_9 : decode b_ks_copy 9 = .ok (.iload_n 3, 1) := by decide +kernel
theorem d_ks_copy_10 : decode b_ks_copy 10 = .ok (.iconst 5, 1) := by decide +kernel
theorem d_ks_copy_11 : decode b_ks_copy 11 = .ok (.if_icmp .ge 26, 3) := by decide +kernel
theorem d_ks_copy_14 : decode b_ks_copy 14 = .ok (.aload_n 0, 1) := by decide +kernel
theorem d_ks_copy_15 : decode b_ks_copy 15 = .ok (.getfield 18, 3) := by decide +kernel
theorem d_ks_copy_18 : decode b_ks_copy 18 = .ok (.iload_n 2, 1) := by decide +kernel
theorem d_ks_copy_19 : decode b_ks_copy 19 = .ok (.aaload, 1) := by decide +kernel
theorem d_ks_copy_20 : decode b_ks_copy 20 = .ok (.iload_n 3, 1) := by decide +kernel
theorem d_ks_copy_21 : decode b_ks_copy 21 = .ok (.aload_n 0, 1) := by decide +kernel
theorem d_ks_copy_22 : decode b_ks_copy 22 = .ok (.getfield 13, 3) := by decide +kernel
theorem d_ks_copy_25 : decode b_ks_copy 25 = .ok (.iload_n 2, 1) := by decide +kernel
theorem d_ks_copy_26 : decode b_ks_copy 26 = .ok (.aaload, 1) := by decide +kernel
theorem d_ks_copy_27 : decode b_ks_copy 27 = .ok (.iload_n 3, 1) := by decide +kernel
theorem d_ks_copy_28 : decode b_ks_copy 28 = .ok (.iaload, 1) := by decide +kernel
theorem d_ks_copy_29 : decode b_ks_copy 29 = .ok (.i2l, 1) := by decide +kernel
theorem d_ks_copy_30 : decode b_ks_copy 30 = .ok (.lastore, 1) := by decide +kernel
theorem d_ks_copy_31 : decode b_ks_copy 31 = .ok (.iinc 3 1, 3) := by decide +kernel
theorem d_ks_copy_34 : decode b_ks_copy 34 = .ok (.goto (-25), 3) := by decide +kernel
theorem d_ks_copy_37 : decode b_ks_copy 37 = .ok (.iinc 2 1, 3) := by decide +kernel
theorem d_ks_copy_40 : decode b_ks_copy 40 = .ok (.goto (-38), 3) := by decide +kernel
theorem d_ks_copy_43 : decode b_ks_copy 43 = .ok (.return_, 1) := by decide +kernel
theorem k_79 : (.fieldLink R_ks 18 "KilogramRows$ShareSystem" "work" "[[J" : Cond) ∈ kt_T := List.mem_filter.mpr ⟨List.mem_of_getElem? (i := 67) (by decide +kernel), by decide +kernel⟩
/-- one row is copied: k places are left, from j on -/
def cpR (E : Nat → Nat → Int32) (i : Nat) : Nat → Nat → (Nat → Nat → Int64) → Nat → Nat → Int64
  | 0, _, X => X
  | k + 1, j, X => cpR E i k (j + 1) (va_up X i (vp_updL (X i) j (E i j).toInt64))
/-- the rows are copied: d are left, from i on -/
def cpL (E : Nat → Nat → Int32) : Nat → Nat → (Nat → Nat → Int64) → Nat → Nat → Int64
  | 0, _, X => X
  | d + 1, i, X => cpL E d (i + 1) (cpR E i 5 0 X)
set_option maxHeartbeats 4000000 in
theorem lp_ks_copyR {p : Program} {l : Launch} {e : Env} {R : Room} {s : State} {m : MethodId} {args : Array Value} {below : List Frame} {meth : Method} {c : Code} {dC : Nat → ClassId} {dI : Nat → Nat → Nat} {A : Nat → Prop} {Q : State → Prop} {a_s : Nat} {e0 : Nat} {w0 : Nat} {pv : Nat} {su : Nat} {sl : Nat} {er : Nat → Nat} {wr : Nat → Nat} {ans : Int32} {cE : ClassId} {cW : ClassId} {cP : ClassId} {fp : Nat → Int32} {cSu : ClassId} {fsu : Nat → Int64} {cSl : ClassId} {fsl : Nat → Int64} {cI : ClassId} {E : Nat → Nat → Int32} {cJ : ClassId} {n : Nat} (hx : p.tables.exec = Jvm.exec) (hb : c.code = b_ks_copy) (hml : c.maxLocals = 4) (hown : s.vm.findClass R_ks = some m.cls) (hT : ∀ w ∈ kt_T, w.before args s = true) (hA : ∀ q : Nat, s.heap.size ≤ q → A q) (hK : va_K (dC, dI) classes [(cE, .array .int), (cW, .array .long), (cP, .int), (cSu, .long), (cSl, .long), (cI, .int), (cJ, .long)] s) {i : Nat} (hi : i < 4) :
    ∀ (k j : Nat) (X : Nat → Nat → Int64), j + k = 5 → (∀ (H : Heap) (locs : List Loc) (ls : Array Slot), va_P (dC, dI) classes (ks_ws a_s e0 w0 pv su sl er wr cE cW cP cSu cSl cI cJ fp fsu fsl E (cpR E i k j X) ans) H → va_D A (ks_ws a_s e0 w0 pv su sl er wr cE cW cP cSu cSl cI cJ fp fsu fsl E (cpR E i k j X) ans) → va_S A s.heap H locs → lv_has ls 4 [(0, .ref a_s), (1, .int (nI n)), (2, .int (nI i))] → W p l e R s m args below meth c H locs 0 0 Q (F0 m 37 ls [])) → ∀ (H : Heap) (locs : List Loc) (ls : Array Slot), va_P (dC, dI) classes (ks_ws a_s e0 w0 pv su sl er wr cE cW cP cSu cSl cI cJ fp fsu fsl E X ans) H → va_D A (ks_ws a_s e0 w0 pv su sl er wr cE cW cP cSu cSl cI cJ fp fsu fsl E X ans) → va_S A s.heap H locs → lv_has ls 4 [(0, .ref a_s), (1, .int (nI n)), (2, .int (nI i)), (3, .int (nI j))] → W p l e R s m args below meth c H locs 0 0 Q (F0 m 9 ls []) := by
  intro k
  induction k with
  | zero =>
    intro j X hj hk H locs ls hP hD hS hl
    refine lv_iload_n hx hb d_ks_copy_9 rfl (lv_at hl 3 rfl) ?_
    refine lv_iconst (v := 5) hx hb d_ks_copy_10 (by decide) ?_
    refine lv_icmp_ge (tgt := 37) hx hb d_ks_copy_11 (by decide) (fun c_1 => ?_) (fun c_1 => ?_)
    · exact hk H locs ls hP hD hS (lv_sub hl [0, 1, 2] rfl)
    · exact absurd (show (5 : Int32) ≤ nI j by rw [show j = 5 by omega]; decide) c_1
  | succ k ih =>
    intro j X hj hk H locs ls hP hD hS hl
    refine lv_iload_n hx hb d_ks_copy_9 rfl (lv_at hl 3 rfl) ?_
    refine lv_iconst (v := 5) hx hb d_ks_copy_10 (by decide) ?_
    refine lv_icmp_ge (tgt := 37) hx hb d_ks_copy_11 (by decide) (fun c_2 => ?_) (fun c_2 => ?_)
    · exact absurd c_2 (nI_ge (show j < 5 by omega) (by decide))
    · refine lv_aload_n hx hb d_ks_copy_14 rfl (lv_at hl 0 rfl) ?_
      refine va_get (D := (dC, dI)) (ci := 2) (v := .ref w0) (C := R_ks) (T := F_ks) (N := 6) hx hb hT i_ks hown hK hP 0 rfl rfl 1 (by decide) (hT _ k_79) (fun _ h9 => h9) rfl d_ks_copy_15 ?_
      refine lv_iload_n hx hb d_ks_copy_18 rfl (lv_at hl 2 rfl) ?_
      refine kx_aldN hx hb hK hP 2 1 rfl rfl hi d_ks_copy_19 ?_
      refine lv_iload_n hx hb d_ks_copy_20 rfl (lv_at hl 3 rfl) ?_
      refine lv_aload_n hx hb d_ks_copy_21 rfl (lv_at hl 0 rfl) ?_
      refine va_get (D := (dC, dI)) (ci := 2) (v := .ref e0) (C := R_ks) (T := F_ks) (N := 6) hx hb hT i_ks hown hK hP 0 rfl rfl 0 (by decide) (hT _ k_75) (fun _ h9 => h9) rfl d_ks_copy_22 ?_
      refine lv_iload_n hx hb d_ks_copy_25 rfl (lv_at hl 2 rfl) ?_
      refine kx_aldN hx hb hK hP 1 0 rfl rfl hi d_ks_copy_26 ?_
      refine lv_iload_n hx hb d_ks_copy_27 rfl (lv_at hl 3 rfl) ?_
      refine va_ialdN (i := j) hx hb hK hP (6 + i) 5 (ks_e hi) rfl ⟨by omega, by decide⟩ d_ks_copy_28 ?_
      refine lv_i2l (v := (E i j).toInt64) hx hb d_ks_copy_29 rfl ?_
      refine va_lastN (i := j) hx hb hK hP hD hS (10 + i) 6 (ks_w hi) rfl ⟨by omega, by decide⟩ d_ks_copy_30 (fun H locs hP hD hS => ?_)
      rw [ks_ww hi] at hP hD
      have hP : va_P (dC, dI) classes (ks_ws a_s e0 w0 pv su sl er wr cE cW cP cSu cSl cI cJ fp fsu fsl E (va_up X i (vp_updL (X i) j ((E i j).toInt64))) ans) H := hP
      have hD : va_D A (ks_ws a_s e0 w0 pv su sl er wr cE cW cP cSu cSl cI cJ fp fsu fsl E (va_up X i (vp_updL (X i) j ((E i j).toInt64))) ans) := hD
      refine lv_iinc (v := (nI j) + 1) (lv' := [(3, .int ((nI j) + 1)), (0, .ref a_s), (1, .int (nI n)), (2, .int (nI i))]) hx hb d_ks_copy_31 hl (k := 3) rfl rfl (by decide) rfl (fun ls hl => ?_)
      refine lv_goto (tgt := 9) hx hb d_ks_copy_34 (by decide) ?_
      exact ih (j + 1) _ (by omega) hk H locs ls hP hD hS (by have h9 := lv_sub hl [1, 2, 3, 0] rfl; rw [nI_1] at h9; exact h9)
set_option maxHeartbeats 4000000 in
theorem lp_ks_copyL {p : Program} {l : Launch} {e : Env} {R : Room} {s : State} {m : MethodId} {args : Array Value} {below : List Frame} {meth : Method} {c : Code} {dC : Nat → ClassId} {dI : Nat → Nat → Nat} {A : Nat → Prop} {Q : State → Prop} {a_s : Nat} {e0 : Nat} {w0 : Nat} {pv : Nat} {su : Nat} {sl : Nat} {er : Nat → Nat} {wr : Nat → Nat} {ans : Int32} {cE : ClassId} {cW : ClassId} {cP : ClassId} {fp : Nat → Int32} {cSu : ClassId} {fsu : Nat → Int64} {cSl : ClassId} {fsl : Nat → Int64} {cI : ClassId} {E : Nat → Nat → Int32} {cJ : ClassId} {n : Nat} (hx : p.tables.exec = Jvm.exec) (hb : c.code = b_ks_copy) (hml : c.maxLocals = 4) (hown : s.vm.findClass R_ks = some m.cls) (hT : ∀ w ∈ kt_T, w.before args s = true) (hA : ∀ q : Nat, s.heap.size ≤ q → A q) (hK : va_K (dC, dI) classes [(cE, .array .int), (cW, .array .long), (cP, .int), (cSu, .long), (cSl, .long), (cI, .int), (cJ, .long)] s) (hn : n ≤ 4) :
    ∀ (d i : Nat) (X : Nat → Nat → Int64), i + d = n → (∀ (H : Heap) (locs : List Loc) (ls : Array Slot), va_P (dC, dI) classes (ks_ws a_s e0 w0 pv su sl er wr cE cW cP cSu cSl cI cJ fp fsu fsl E (cpL E d i X) ans) H → va_D A (ks_ws a_s e0 w0 pv su sl er wr cE cW cP cSu cSl cI cJ fp fsu fsl E (cpL E d i X) ans) → va_S A s.heap H locs → lv_has ls 4 [(0, .ref a_s), (1, .int (nI n))] → W p l e R s m args below meth c H locs 0 0 Q (F0 m 43 ls [])) → ∀ (H : Heap) (locs : List Loc) (ls : Array Slot), va_P (dC, dI) classes (ks_ws a_s e0 w0 pv su sl er wr cE cW cP cSu cSl cI cJ fp fsu fsl E X ans) H → va_D A (ks_ws a_s e0 w0 pv su sl er wr cE cW cP cSu cSl cI cJ fp fsu fsl E X ans) → va_S A s.heap H locs → lv_has ls 4 [(0, .ref a_s), (1, .int (nI n)), (2, .int (nI i))] → W p l e R s m args below meth c H locs 0 0 Q (F0 m 2 ls []) := by
  intro d
  induction d with
  | zero =>
    intro i X hi hk H locs ls hP hD hS hl
    refine lv_iload_n hx hb d_ks_copy_2 rfl (lv_at hl 2 rfl) ?_
    refine lv_iload_n hx hb d_ks_copy_3 rfl (lv_at hl 1 rfl) ?_
    refine lv_icmp_ge (tgt := 43) hx hb d_ks_copy_4 (by decide) (fun c_3 => ?_) (fun c_3 => ?_)
    · exact hk H locs ls hP hD hS (lv_sub hl [0, 1] rfl)
    · exact absurd (nI_le (show n ≤ i by omega) (by omega)) c_3
  | succ d ih =>
    intro i X hi hk H locs ls hP hD hS hl
    refine lv_iload_n hx hb d_ks_copy_2 rfl (lv_at hl 2 rfl) ?_
    refine lv_iload_n hx hb d_ks_copy_3 rfl (lv_at hl 1 rfl) ?_
    refine lv_icmp_ge (tgt := 43) hx hb d_ks_copy_4 (by decide) (fun c_4 => ?_) (fun c_4 => ?_)
    · exact absurd c_4 (nI_ge (show i < n by omega) (by omega))
    · refine lv_iconst (v := 0) hx hb d_ks_copy_7 (by decide) ?_
      refine lv_istore_n (lv' := [(3, .int 0), (0, .ref a_s), (1, .int (nI n)), (2, .int (nI i))]) hx hb d_ks_copy_8 rfl hl (by decide) rfl (fun ls hl => ?_)
      refine lp_ks_copyR hx hb hml hown hT hA hK (show i < 4 by omega) 5 0 X rfl (fun H locs ls hP hD hS hl => ?_) H locs ls hP hD hS (lv_sub hl [1, 2, 3, 0] rfl)
      refine lv_iinc (v := (nI i) + 1) (lv' := [(2, .int ((nI i) + 1)), (0, .ref a_s), (1, .int (nI n))]) hx hb d_ks_copy_37 hl (k := 2) rfl rfl (by decide) rfl (fun ls hl => ?_)
      refine lv_goto (tgt := 2) hx hb d_ks_copy_40 (by decide) ?_
      exact ih (i + 1) _ (by omega) hk H locs ls hP hD hS (by have h9 := lv_sub hl [1, 2, 0] rfl; rw [nI_1] at h9; exact h9)
def f_ks_copy (E : Nat → Nat → Int32) (Wm : Nat → Nat → Int64) (n : Nat) : (Nat → Nat → Int64) :=
  (cpL E n 0 Wm)
set_option maxHeartbeats 4000000 in
set_option maxRecDepth 100000 in
theorem c_ks_copy (l : Launch) (dC : Nat → ClassId) (dI : Nat → Nat → Nat) (sz : Nat) (a_s : Nat) (e0 : Nat) (w0 : Nat) (pv : Nat) (su : Nat) (sl : Nat) (er : Nat → Nat) (wr : Nat → Nat) (ans : Int32) (cE : ClassId) (cW : ClassId) (cP : ClassId) (fp : Nat → Int32) (cSu : ClassId) (fsu : Nat → Int64) (cSl : ClassId) (fsl : Nat → Int64) (cI : ClassId) (E : Nat → Nat → Int32) (cJ : ClassId) (Wm : Nat → Nat → Int64) (n : Nat) (hn : n ≤ 4) : Met l y_ks_copy w_ks_copy ({ frames := 0, cells := 0, slots := 0, locals := 0 }) (va_Pc [.ref a_s, .int (nI n)] (fun U => U.heap.size = sz ∧ va_P (dC, dI) classes (ks_ws a_s e0 w0 pv su sl er wr cE cW cP cSu cSl cI cJ fp fsu fsl E Wm ans) U.heap ∧ va_K (dC, dI) classes [(cE, .array .int), (cW, .array .long), (cP, .int), (cSu, .long), (cSl, .long), (cI, .int), (cJ, .long)] U ∧ va_D (fun _ => True) (ks_ws a_s e0 w0 pv su sl er wr cE cW cP cSu cSl cI cJ fp fsu fsl E Wm ans))) (va_Qv (fun u9 => u9 = f_ks_copy E Wm n) (fun (u : (Nat → Nat → Int64)) t => match u with | Wm' => va_P (dC, dI) classes (ks_ws a_s e0 w0 pv su sl er wr cE cW cP cSu cSl cI cJ fp fsu fsl E Wm' ans) t.heap ∧ va_K (dC, dI) classes [(cE, .array .int), (cW, .array .long), (cP, .int), (cSu, .long), (cSl, .long), (cI, .int), (cJ, .long)] t ∧ va_D (va_A (ks_ws a_s e0 w0 pv su sl er wr cE cW cP cSu cSl cI cJ fp fsu fsl E Wm ans) sz) (ks_ws a_s e0 w0 pv su sl er wr cE cW cP cSu cSl cI cJ fp fsu fsl E Wm' ans)) (va_A (ks_ws a_s e0 w0 pv su sl er wr cE cW cP cSu cSl cI cJ fp fsu fsl E Wm ans) sz)) 0 0 (va_A (ks_ws a_s e0 w0 pv su sl er wr cE cW cP cSu cSl cI cJ fp fsu fsl E Wm ans) sz) := by
  refine Met.ofW (cc := b_ks_copy) (maxL := 4) (ret := none) (by decide +kernel) rfl ?_
  intro p e s m args below meth c s₁ B hml hv
  obtain ⟨rfl, hsz, hP, hK, hD0⟩ := hv
  have hx := B.exec
  have hb := B.bytes
  have hr := B.returns
  have hts := atoms_spec (ws := w_ks_copy) B.pre
  have hT := fun (w : Cond) (h : w ∈ kt_T) => hts w (List.mem_cons_of_mem _ h)
  have hown : s.vm.findClass R_ks = some m.cls := findClass_of_methodNamed B.named
  have hlocks := B.notSynchronized
  subst hsz
  have hD := hD0.self (sz := s.heap.size)
  generalize hAe : va_A (ks_ws a_s e0 w0 pv su sl er wr cE cW cP cSu cSl cI cJ fp fsu fsl E Wm ans) s.heap.size = A at hD ⊢
  have hA : ∀ q : Nat, s.heap.size ≤ q → A q := fun q h => by rw [← hAe]; exact Or.inr h
  have hS : va_S A s.heap s.heap [] := va_S.rf
  have hl := lv_entry ([.ref a_s, .int (nI n)]) (n := 4) (Nat.le_of_ble_eq_true rfl)
  rw [lg_entry_eq]
  generalize (lg_sl ([.ref a_s, .int (nI n)]) ++ List.replicate (4 - (lg_sl ([.ref a_s, .int (nI n)])).length) Slot.unset).toArray = ls at hl ⊢
  have hl : lv_has ls 4 [(0, .ref a_s), (1, .int (nI n))] := hl
  refine lv_iconst (v := 0) hx hb d_ks_copy_0 (by decide) ?_
  refine lv_istore_n (lv' := [(2, .int 0), (0, .ref a_s), (1, .int (nI n))]) hx hb d_ks_copy_1 rfl hl (by decide) rfl (fun ls hl => ?_)
  refine lp_ks_copyL hx hb hml hown hT hA hK hn n 0 Wm (Nat.zero_add _) (fun H locs ls hP hD hS hl => ?_) s.heap [] ls hP hD hS (lv_sub hl [1, 2, 0] rfl)
  exact W.vret hx hb hr (fun t ht hW => ⟨⟨(cpL E n 0 Wm), rfl, rfl, by rw [ht]; exact hP, va_K.moved hW.alike hK, hD⟩, hS.F ht⟩) hS.2.2 d_ks_copy_43
