abbrev b_ja_fill : ByteArray := prog_14_method_103_code
def y_ja_fill : MethodName := ⟨R_ja, "fill", "([II)V"⟩
def w_ja_fill : List Cond := .code y_ja_fill b_ja_fill 4 none :: kt_T
theorem d_ja_fill_0 : decode b_ja_fill 0 = .ok (.iconst 0, 1) := by decide +kernel
theorem d_ja_fill_1 : decode b_ja_fill 1 = .ok (.istore_n 2, 1) := by decide +kernel
theorem d_ja_fill_2 : decode b_ja_fill 2 = .ok (.aload_n 0, 1) := by decide +kernel
theorem d_ja_fill_3 : decode b_ja_fill 3 = .ok (.arraylength, 1) := by decide +kernel
theorem d_ja_fill_4 : decode b_ja_fill 4 = .ok (.istore_n 3, 1) := by decide +kernel
theorem d_ja_fill_5 : decode b_ja_fill 5 = .ok (.iload_n 2, 1) := by decide +kernel
theorem d_ja_fill_6 : decode b_ja_fill 6 = .ok (.iload_n 3, 1) := by decide +kernel
theorem d_ja_fill_7 : decode b_ja_fill 7 = .ok (.if_icmp .ge 13, 3) := by decide +kernel
theorem d_ja_fill_10 : decode b_ja_fill 10 = .ok (.aload_n 0, 1) := by decide +kernel
theorem d_ja_fill_11 : decode b_ja_fill 11 = .ok (.iload_n 2, 1) := by decide +kernel
theorem d_ja_fill_12 : decode b_ja_fill 12 = .ok (.iload_n 1, 1) := by decide +kernel
theorem d_ja_fill_13 : decode b_ja_fill 13 = .ok (.iastore, 1) := by decide +kernel
theorem d_ja_fill_14 : decode b_ja_fill 14 = .ok (.iinc 2 1, 3) := by decide +kernel
theorem d_ja_fill_17 : decode b_ja_fill 17 = .ok (.goto (-12), 3) := by decide +kernel
theorem d_ja_fill_20 : decode b_ja_fill 20 = .ok (.return_, 1) := by decide +kernel
def flL (v : Int32) : Nat → Nat → (Nat → Int32) → Nat → Int32
  | 0, _, f => f
  | d + 1, j, f => flL v d (j + 1) (upd f j v)
set_option maxHeartbeats 4000000 in
theorem lp_ja_fill {p : Program} {l : Launch} {e : Env} {R : Room} {s : State} {m : MethodId} {args : Array Value} {below : List Frame} {meth : Method} {c : Code} {dC : Nat → ClassId} {dI : Nat → Nat → Nat} {A : Nat → Prop} {Q : State → Prop} {x0 : Nat} {cX : ClassId} {nx : Nat} {v : Int32} (hx : p.tables.exec = Jvm.exec) (hb : c.code = b_ja_fill) (hml : c.maxLocals = 4) (hown : s.vm.findClass R_ja = some m.cls) (hT : ∀ w ∈ kt_T, w.before args s = true) (hA : ∀ q : Nat, s.heap.size ≤ q → A q) (hK : va_K (dC, dI) classes [(cX, .int)] s) (hn : nx < 2 ^ 31) :
    ∀ (d j : Nat) (F : Nat → Int32), j + d = nx → (∀ (H : Heap) (locs : List Loc) (ls : Array Slot), va_P (dC, dI) classes [(x0, .inl (cX, nx, .inl (flL v d j F)))] H → va_D A [(x0, .inl (cX, nx, .inl (flL v d j F)))] → va_S A s.heap H locs → ls.size = 4 → W p l e R s m args below meth c H locs 0 0 Q (F0 m 20 ls [])) → ∀ (H : Heap) (locs : List Loc) (ls : Array Slot), va_P (dC, dI) classes [(x0, .inl (cX, nx, .inl F))] H → va_D A [(x0, .inl (cX, nx, .inl F))] → va_S A s.heap H locs → lv_has ls 4 [(0, .ref x0), (1, .int v), (2, .int (nI j)), (3, .int (nI nx))] → W p l e R s m args below meth c H locs 0 0 Q (F0 m 5 ls []) := by
  intro d
  induction d with
  | zero =>
    intro j F hj hk H locs ls hP hD hS hl
    refine lv_iload_n hx hb d_ja_fill_5 rfl (lv_at hl 2 rfl) ?_
    refine lv_iload_n hx hb d_ja_fill_6 rfl (lv_at hl 3 rfl) ?_
    refine lv_icmp_ge (tgt := 20) hx hb d_ja_fill_7 (by decide) (fun c_1 => ?_) (fun c_1 => ?_)
    · exact hk H locs ls hP hD hS hl.1
    · exact absurd (nI_le (show nx ≤ j by omega) (by omega)) c_1
  | succ d ih =>
    intro j F hj hk H locs ls hP hD hS hl
    refine lv_iload_n hx hb d_ja_fill_5 rfl (lv_at hl 2 rfl) ?_
    refine lv_iload_n hx hb d_ja_fill_6 rfl (lv_at hl 3 rfl) ?_
    refine lv_icmp_ge (tgt := 20) hx hb d_ja_fill_7 (by decide) (fun c_2 => ?_) (fun c_2 => ?_)
    · exact absurd c_2 (nI_ge (show j < nx by omega) (by omega))
    · refine lv_aload_n hx hb d_ja_fill_10 rfl (lv_at hl 0 rfl) ?_
      refine lv_iload_n hx hb d_ja_fill_11 rfl (lv_at hl 2 rfl) ?_
      refine lv_iload_n hx hb d_ja_fill_12 rfl (lv_at hl 1 rfl) ?_
      refine va_iastN (i := j) hx hb hK hP hD hS 0 0 rfl rfl ⟨by omega, hn⟩ d_ja_fill_13 (fun H locs hP hD hS => ?_)
      have hP : va_P (dC, dI) classes [(x0, .inl (cX, nx, .inl (upd F j v)))] H := hP
      have hD : va_D A [(x0, .inl (cX, nx, .inl (upd F j v)))] := hD
      refine lv_iinc (v := (nI j) + 1) (lv' := [(2, .int ((nI j) + 1)), (0, .ref x0), (1, .int v), (3, .int (nI nx))]) hx hb d_ja_fill_14 hl (k := 2) rfl rfl (by decide) rfl (fun ls hl => ?_)
      refine lv_goto (tgt := 5) hx hb d_ja_fill_17 (by decide) ?_
      exact ih (j + 1) _ (by omega) hk H locs ls hP hD hS (by have h9 := lv_sub hl [1, 2, 0, 3] rfl; rw [nI_1] at h9; exact h9)
def f_ja_fill (nx : Nat) (f : Nat → Int32) (v : Int32) : (Nat → Int32) :=
  (flL v nx 0 f)
set_option maxHeartbeats 4000000 in
set_option maxRecDepth 100000 in
theorem c_ja_fill (l : Launch) (dC : Nat → ClassId) (dI : Nat → Nat → Nat) (sz : Nat) (x0 : Nat) (cX : ClassId) (nx : Nat) (f : Nat → Int32) (v : Int32) (hn : nx < 2 ^ 31) : Met l y_ja_fill w_ja_fill ({ frames := 0, cells := 0, slots := 0, locals := 0 }) (va_Pc [.ref x0, .int v] (fun U => U.heap.size = sz ∧ va_P (dC, dI) classes [(x0, .inl (cX, nx, .inl f))] U.heap ∧ va_K (dC, dI) classes [(cX, .int)] U ∧ va_D (fun _ => True) [(x0, .inl (cX, nx, .inl f))])) (va_Qv (fun u9 => u9 = f_ja_fill nx f v) (fun (u : (Nat → Int32)) t => match u with | f' => va_P (dC, dI) classes [(x0, .inl (cX, nx, .inl f'))] t.heap ∧ va_K (dC, dI) classes [(cX, .int)] t ∧ va_D (va_A [(x0, .inl (cX, nx, .inl f))] sz) [(x0, .inl (cX, nx, .inl f'))]) (va_A [(x0, .inl (cX, nx, .inl f))] sz)) 0 0 (va_A [(x0, .inl (cX, nx, .inl f))] sz) := by
  refine va_MetF (cc := b_ja_fill) (maxL := 4) (ret := none) (by decide +kernel) rfl ?_
  intro p e s m args below meth c s₁ B hml hv
  obtain ⟨rfl, hsz, hP, hK, hD0⟩ := hv
  have hx := B.exec
  have hb := B.bytes
  have hr := B.returns
  have hts := atoms_spec (ws := w_ja_fill) B.pre
  have hT := fun (w : Cond) (h : w ∈ kt_T) => hts w (List.mem_cons_of_mem _ h)
  have hown : s.vm.findClass R_ja = some m.cls := findClass_of_methodNamed B.named
  have hlocks := B.notSynchronized
  subst hsz
  have hD := hD0.self (sz := s.heap.size)
  generalize hAe : va_A [(x0, .inl (cX, nx, .inl f))] s.heap.size = A at hD ⊢
  have hA : ∀ q : Nat, s.heap.size ≤ q → A q := fun q h => by rw [← hAe]; exact Or.inr h
  have hS : va_S A s.heap s.heap [] := va_S.rf
  have hl := lv_entry ([.ref x0, .int v]) (n := 4) (Nat.le_of_ble_eq_true rfl)
  rw [lg_entry_eq]
  generalize (lg_sl ([.ref x0, .int v]) ++ List.replicate (4 - (lg_sl ([.ref x0, .int v])).length) Slot.unset).toArray = ls at hl ⊢
  have hl : lv_has ls 4 [(0, .ref x0), (1, .int v)] := hl
  refine lv_iconst (v := 0) hx hb d_ja_fill_0 (by decide) ?_
  refine lv_istore_n (lv' := [(2, .int 0), (0, .ref x0), (1, .int v)]) hx hb d_ja_fill_1 rfl hl (by decide) rfl (fun ls hl => ?_)
  refine lv_aload_n hx hb d_ja_fill_2 rfl (lv_at hl 1 rfl) ?_
  refine va_alen (v := nI nx) hx hb hK hP 0 0 rfl rfl rfl d_ja_fill_3 ?_
  refine lv_istore_n (lv' := [(3, .int (nI nx)), (2, .int 0), (0, .ref x0), (1, .int v)]) hx hb d_ja_fill_4 rfl hl (by decide) rfl (fun ls hl => ?_)
  refine lp_ja_fill hx hb hml hown hT hA hK hn nx 0 f (Nat.zero_add _) (fun H locs ls hP hD hS hl => ?_) s.heap [] ls hP hD hS (lv_sub hl [2, 3, 1, 0] rfl)
  exact W.vret hx hb hr (fun t ht hW => ⟨⟨(flL v nx 0 f), rfl, rfl, by rw [ht]; exact hP, va_K.moved hW.alike hK, hD⟩, hS.F ht⟩) hS.2.2 d_ja_fill_20
