abbrev b_ks_setEntry : ByteArray := prog_2_method_2_code
def y_ks_setEntry : MethodName := ⟨R_ks, "setEntry", "(III)Z"⟩
def w_ks_setEntry : List Cond := .code y_ks_setEntry b_ks_setEntry 4 (some .boolean) :: kt_T
theorem d_ks_setEntry_0 : decode b_ks_setEntry 0 = .ok (.iload_n 1, 1) := by decide +kernel
theorem d_ks_setEntry_1 : decode b_ks_setEntry 1 = .ok (.ifCond .lt 17, 3) := by decide +kernel
theorem d_ks_setEntry_4 : decode b_ks_setEntry 4 = .ok (.iload_n 1, 1) := by decide +kernel
theorem d_ks_setEntry_5 : decode b_ks_setEntry 5 = .ok (.iconst 4, 1) := by decide +kernel
theorem d_ks_setEntry_6 : decode b_ks_setEntry 6 = .ok (.if_icmp .ge 12, 3) := by decide +kernel
theorem d_ks_setEntry_9 : decode b_ks_setEntry 9 = .ok (.iload_n 2, 1) := by decide +kernel
theorem d_ks_setEntry_10 : decode b_ks_setEntry 10 = .ok (.ifCond .lt 8, 3) := by decide +kernel
theorem d_ks_setEntry_13 : decode b_ks_setEntry 13 = .ok (.iload_n 2, 1) := by decide +kernel
theorem d_ks_setEntry_14 : decode b_ks_setEntry 14 = .ok (.iconst 5, 1) := by decide +kernel
theorem d_ks_setEntry_15 : decode b_ks_setEntry 15 = .ok (.if_icmp .lt 5, 3) := by decide +kernel
theorem d_ks_setEntry_18 : decode b_ks_setEntry 18 = .ok (.iconst 0, 1) := by decide +kernel
theorem d_ks_setEntry_19 : decode b_ks_setEntry 19 = .ok (.ireturn, 1) := by decide +kernel
theorem d_ks_setEntry_20 : decode b_ks_setEntry 20 = .ok (.iload_n 3, 1) := by decide +kernel
theorem d_ks_setEntry_21 : decode b_ks_setEntry 21 = .ok (.bipush (-100), 2) := by decide +kernel
theorem d_ks_setEntry_23 : decode b_ks_setEntry 23 = .ok (.if_icmp .lt 9, 3) := by decide +kernel
theorem d_ks_setEntry_26 : decode b_ks_setEntry 26 = .ok (.iload_n 3, 1) := by decide +kernel
theorem d_ks_setEntry_27 : decode b_ks_setEntry 27 = .ok (.bipush 100, 2) := by decide +kernel
theorem d_ks_setEntry_29 : decode b_ks_setEntry 29 = .ok (.if_icmp .le 5, 3) := by decide +kernel
theorem d_ks_setEntry_32 : decode b_ks_setEntry 32 = .ok (.iconst 0, 1) := by decide +kernel
theorem d_ks_setEntry_33 : decode b_ks_setEntry 33 = .ok (.ireturn, 1) := by decide +kernel
theorem d_ks_setEntry_34 : decode b_ks_setEntry 34 = .ok (.aload_n 0, 1) := by decide +kernel
theorem d_ks_setEntry_35 : decode b_ks_setEntry 35 = .ok (.getfield 13, 3) := by decide +kernel
theorem d_ks_setEntry_38 : decode b_ks_setEntry 38 = .ok (.iload_n 1, 1) := by decide +kernel
theorem d_ks_setEntry_39 : decode b_ks_setEntry 39 = .ok (.aaload, 1) := by decide +kernel
theorem d_ks_setEntry_40 : decode b_ks_setEntry 40 = .ok (.iload_n 2, 1) := by decide +kernel
theorem d_ks_setEntry_41 : decode b_ks_setEntry 41 = .ok (.iload_n 3, 1) := by decide +kernel
theorem d_ks_setEntry_42 : decode b_ks_setEntry 42 = .ok (.iastore, 1) := by decide +kernel
theorem d_ks_setEntry_43 : decode b_ks_setEntry 43 = .ok (.iconst 1, 1) := by decide +kernel
theorem d_ks_setEntry_44 : decode b_ks_setEntry 44 = .ok (.ireturn, 1) := by decide +kernel
abbrev b_ks_hasAnswer : ByteArray := prog_2_method_8_code
def y_ks_hasAnswer : MethodName := ⟨R_ks, "hasAnswer", "(I)Z"⟩
def w_ks_hasAnswer : List Cond := .code y_ks_hasAnswer b_ks_hasAnswer 2 (some .boolean) :: kt_T
theorem d_ks_hasAnswer_0 : decode b_ks_hasAnswer 0 = .ok (.iload_n 1, 1) := by decide +kernel
theorem d_ks_hasAnswer_1 : decode b_ks_hasAnswer 1 = .ok (.ifCond .lt 15, 3) := by decide +kernel
theorem d_ks_hasAnswer_4 : decode b_ks_hasAnswer 4 = .ok (.iload_n 1, 1) := by decide +kernel
theorem d_ks_hasAnswer_5 : decode b_ks_hasAnswer 5 = .ok (.aload_n 0, 1) := by decide +kernel
theorem d_ks_hasAnswer_6 : decode b_ks_hasAnswer 6 = .ok (.getfield 32, 3) := by decide +kernel
theorem d_ks_hasAnswer_9 : decode b_ks_hasAnswer 9 = .ok (.if_icmp .ge 7, 3) := by decide +kernel
theorem d_ks_hasAnswer_12 : decode b_ks_hasAnswer 12 = .ok (.iconst 1, 1) := by decide +kernel
theorem d_ks_hasAnswer_13 : decode b_ks_hasAnswer 13 = .ok (.goto 4, 3) := by decide +kernel
theorem d_ks_hasAnswer_16 : decode b_ks_hasAnswer 16 = .ok (.iconst 0, 1) := by decide +kernel
theorem d_ks_hasAnswer_17 : decode b_ks_hasAnswer 17 = .ok (.ireturn, 1) := by decide +kernel
abbrev b_ks_answerPart : ByteArray := prog_2_method_9_code
def y_ks_answerPart : MethodName := ⟨R_ks, "answerPart", "(II)J"⟩
def w_ks_answerPart : List Cond := .code y_ks_answerPart b_ks_answerPart 3 (some .long) :: kt_T
theorem d_ks_answerPart_0 : decode b_ks_answerPart 0 = .ok (.iload_n 2, 1) := by decide +kernel
theorem d_ks_answerPart_1 : decode b_ks_answerPart 1 = .ok (.ifCond .ne 12, 3) := by decide +kernel
theorem d_ks_answerPart_4 : decode b_ks_answerPart 4 = .ok (.aload_n 0, 1) := by decide +kernel
theorem d_ks_answerPart_5 : decode b_ks_answerPart 5 = .ok (.getfield 25, 3) := by decide +kernel
theorem d_ks_answerPart_8 : decode b_ks_answerPart 8 = .ok (.iload_n 1, 1) := by decide +kernel
theorem d_ks_answerPart_9 : decode b_ks_answerPart 9 = .ok (.laload, 1) := by decide +kernel
theorem d_ks_answerPart_10 : decode b_ks_answerPart 10 = .ok (.goto 9, 3) := by decide +kernel
theorem d_ks_answerPart_13 : decode b_ks_answerPart 13 = .ok (.aload_n 0, 1) := by decide +kernel
theorem d_ks_answerPart_14 : decode b_ks_answerPart 14 = .ok (.getfield 29, 3) := by decide +kernel
theorem d_ks_answerPart_17 : decode b_ks_answerPart 17 = .ok (.iload_n 1, 1) := by decide +kernel
theorem d_ks_answerPart_18 : decode b_ks_answerPart 18 = .ok (.laload, 1) := by decide +kernel
theorem d_ks_answerPart_19 : decode b_ks_answerPart 19 = .ok (.lreturn, 1) := by decide +kernel
theorem k_75 : (.fieldLink R_ks 13 "KilogramRows$ShareSystem" "entries" "[[I" : Cond) ∈ kt_T := List.mem_filter.mpr ⟨List.mem_of_getElem? (i := 66) (by decide +kernel), by decide +kernel⟩
theorem k_76 : (.fieldLink R_ks 32 "KilogramRows$ShareSystem" "answers" "I" : Cond) ∈ kt_T := List.mem_filter.mpr ⟨List.mem_of_getElem? (i := 71) (by decide +kernel), by decide +kernel⟩
theorem k_77 : (.fieldLink R_ks 29 "KilogramRows$ShareSystem" "lowers" "[J" : Cond) ∈ kt_T := List.mem_filter.mpr ⟨List.mem_of_getElem? (i := 70) (by decide +kernel), by decide +kernel⟩
theorem k_78 : (.fieldLink R_ks 25 "KilogramRows$ShareSystem" "uppers" "[J" : Cond) ∈ kt_T := List.mem_filter.mpr ⟨List.mem_of_getElem? (i := 69) (by decide +kernel), by decide +kernel⟩
def kx_out (er : Nat → Nat) : Nat → Option Nat := fun i => if i < 4 then some (er i) else none
abbrev ks_ws (a_s e0 w0 pv su sl : Nat) (er wr : Nat → Nat) (cE cW cP cSu cSl cI cJ : ClassId) (fp : Nat → Int32) (fsu fsl : Nat → Int64) (E : Nat → Nat → Int32) (Wm : Nat → Nat → Int64) (ans : Int32) : va_W :=
  [(a_s, .inr (2, [.ref e0, .ref w0, .ref pv, .ref su, .ref sl, .int ans])), (e0, .inl (cE, 4, .inr (.inr (.inr (.inr (kx_out er)))))), (w0, .inl (cW, 4, .inr (.inr (.inr (.inr (kx_out wr)))))), (pv, .inl (cP, 4, .inl fp)), (su, .inl (cSu, 4, .inr (.inl fsu))), (sl, .inl (cSl, 4, .inr (.inl fsl))), (er 0, .inl (cI, 5, .inl (E 0))), (er 1, .inl (cI, 5, .inl (E 1))), (er 2, .inl (cI, 5, .inl (E 2))), (er 3, .inl (cI, 5, .inl (E 3))), (wr 0, .inl (cJ, 5, .inr (.inl (Wm 0)))), (wr 1, .inl (cJ, 5, .inr (.inl (Wm 1)))), (wr 2, .inl (cJ, 5, .inr (.inl (Wm 2)))), (wr 3, .inl (cJ, 5, .inr (.inl (Wm 3))))]
section KS
variable {a_s e0 w0 pv su sl : Nat} {er wr : Nat → Nat} {cE cW cP cSu cSl cI cJ : ClassId} {fp : Nat → Int32} {fsu fsl : Nat → Int64} {E : Nat → Nat → Int32} {Wm : Nat → Nat → Int64} {ans : Int32}
theorem ks_e {i : Nat} (hi : i < 4) : (ks_ws a_s e0 w0 pv su sl er wr cE cW cP cSu cSl cI cJ fp fsu fsl E Wm ans)[6 + i]? = some (er i, .inl (cI, 5, .inl (E i))) := by
  match i, hi with
  | 0, _ => rfl
  | 1, _ => rfl
  | 2, _ => rfl
  | 3, _ => rfl
theorem ks_w {i : Nat} (hi : i < 4) : (ks_ws a_s e0 w0 pv su sl er wr cE cW cP cSu cSl cI cJ fp fsu fsl E Wm ans)[10 + i]? = some (wr i, .inl (cJ, 5, .inr (.inl (Wm i)))) := by
  match i, hi with
  | 0, _ => rfl
  | 1, _ => rfl
  | 2, _ => rfl
  | 3, _ => rfl
theorem ks_ee {i : Nat} (hi : i < 4) {g : Nat → Int32} : (ks_ws a_s e0 w0 pv su sl er wr cE cW cP cSu cSl cI cJ fp fsu fsl E Wm ans).set (6 + i) (er i, .inl (cI, 5, .inl g)) = ks_ws a_s e0 w0 pv su sl er wr cE cW cP cSu cSl cI cJ fp fsu fsl (va_up E i g) Wm ans := by
  match i, hi with
  | 0, _ => rfl
  | 1, _ => rfl
  | 2, _ => rfl
  | 3, _ => rfl
theorem ks_ww {i : Nat} (hi : i < 4) {g : Nat → Int64} : (ks_ws a_s e0 w0 pv su sl er wr cE cW cP cSu cSl cI cJ fp fsu fsl E Wm ans).set (10 + i) (wr i, .inl (cJ, 5, .inr (.inl g))) = ks_ws a_s e0 w0 pv su sl er wr cE cW cP cSu cSl cI cJ fp fsu fsl E (va_up Wm i g) ans := by
  match i, hi with
  | 0, _ => rfl
  | 1, _ => rfl
  | 2, _ => rfl
  | 3, _ => rfl
end KS
section KX2
variable {p : Program} {l : Launch} {e : Env} {R : Room} {s : State} {m : MethodId} {args : Array Value} {below : List Frame} {meth : Method} {c : Code} {H : Heap} {locs : List Loc} {cells slots : Nat} {Q : State → Prop}
variable {cc : ByteArray} {pc : Nat} {ls : Array Slot} {rest : List Value} {D : va_G} {cl : List vw_C} {tys : List (ClassId × FieldType)} {ws : va_W} {a : Nat}
theorem kx_aldA (hexec : p.tables.exec = Jvm.exec) (hb : c.code = cc) (hK : va_K D cl tys s) (hP : va_P D cl ws H) (q0 t0 : Nat) {cA : ClassId} {t : FieldType} {n : Nat} {f : Nat → Option Nat} (ha : ws[q0]? = some (a, .inl (cA, n, .inr (.inr (.inr (.inr f)))))) (ht : tys[t0]? = some (cA, .array t)) {i : Int32} (hin : vp_in i n) (hdg : decode cc pc = .ok (.aaload, 1))
    (kk : W p l e R s m args below meth c H locs cells slots Q (F0 m (pc + 1) ls (va_rf (f i.toNatClampNeg) :: rest))) : W p l e R s m args below meth c H locs cells slots Q (F0 m pc ls (.int i :: .ref a :: rest)) := by
  have hlt : i.toNatClampNeg < n := Nat.not_le.mp fun q => hin (Or.inr q)
  refine W.aald (v := va_rf (f i.toNatClampNeg)) (ty := .array t) hexec hb (hP q0 _ ha) ((hK.2 t0 _ ht).1 n (fun j => va_rf (f j))) rfl (fun q => by cases q) ?_ ?_ rfl rfl hdg kk
  · show ¬ (i < 0 ∨ (arrV _ _ _).slots.size ≤ _)
    rw [arrV_size]
    exact hin
  · show (arrV _ _ _).slots[_]? = _
    rw [arrV_read _ _ hlt]
theorem kx_ald (hexec : p.tables.exec = Jvm.exec) (hb : c.code = cc) (hK : va_K D cl tys s) (hP : va_P D cl ws H) (q0 t0 : Nat) {cA : ClassId} {t : FieldType} {er : Nat → Nat} (ha : ws[q0]? = some (a, .inl (cA, 4, .inr (.inr (.inr (.inr (kx_out er))))))) (ht : tys[t0]? = some (cA, .array t)) {i : Int32} (hin : i.toNatClampNeg < 4 ∧ ¬ i < 0) (hdg : decode cc pc = .ok (.aaload, 1))
    (kk : W p l e R s m args below meth c H locs cells slots Q (F0 m (pc + 1) ls (.ref (er i.toNatClampNeg) :: rest))) : W p l e R s m args below meth c H locs cells slots Q (F0 m pc ls (.int i :: .ref a :: rest)) :=
  kx_aldA hexec hb hK hP q0 t0 ha ht (fun q => q.elim hin.2 (fun h => Nat.not_le.mpr hin.1 h)) hdg (by unfold kx_out; rw [if_pos hin.1]; exact kk)
theorem kx_aldN (hexec : p.tables.exec = Jvm.exec) (hb : c.code = cc) (hK : va_K D cl tys s) (hP : va_P D cl ws H) (q0 t0 : Nat) {cA : ClassId} {t : FieldType} {er : Nat → Nat} (ha : ws[q0]? = some (a, .inl (cA, 4, .inr (.inr (.inr (.inr (kx_out er))))))) (ht : tys[t0]? = some (cA, .array t)) {i : Nat} (hi : i < 4) (hdg : decode cc pc = .ok (.aaload, 1))
    (kk : W p l e R s m args below meth c H locs cells slots Q (F0 m (pc + 1) ls (.ref (er i) :: rest))) : W p l e R s m args below meth c H locs cells slots Q (F0 m pc ls (.int (nI i) :: .ref a :: rest)) :=
  kx_aldA hexec hb hK hP q0 t0 ha ht (vp_in_nI hi (by decide)) hdg (by rw [nI_clamp (by omega)]; unfold kx_out; rw [if_pos hi]; exact kk)
end KX2
theorem in_4 {i : Int32} {n : Nat} (hn : n < 2 ^ 31) (h0 : ¬ i < 0) (h : ¬ nI n ≤ i) : i.toNatClampNeg < n ∧ ¬ i < 0 := by
  obtain ⟨j, hj, rfl⟩ := nI_of h0
  rw [nI_clamp hj]
  refine ⟨?_, h0⟩
  rcases Nat.lt_or_ge j n with q | q
  · exact q
  · exact absurd (nI_le q hj) h
theorem vp_in_4 {i : Int32} {n : Nat} (h : i.toNatClampNeg < n ∧ ¬ i < 0) : vp_in i n := fun q => q.elim h.2 (fun h2 => Nat.not_le.mpr h.1 h2)
theorem in_5 {i : Int32} (h0 : ¬ i < 0) (h : i < 5) : i.toNatClampNeg < 5 ∧ ¬ i < 0 := by
  obtain ⟨j, hj, rfl⟩ := nI_of h0
  rw [nI_clamp hj]
  exact ⟨(nI_ltI hj (by decide)).mp h, h0⟩
def f_ks_setEntry (E : Nat → Nat → Int32) (i : Int32) (j : Int32) (v : Int32) : Int32 × (Nat → Nat → Int32) :=
  if i < 0 then (0, E) else if 4 ≤ i then (0, E) else if j < 0 then (0, E) else if j < 5 then if v < (-100) then (0, E) else if v ≤ 100 then (1, (va_up E i.toNatClampNeg (upd (E i.toNatClampNeg) j.toNatClampNeg v))) else (0, E) else (0, E)
set_option maxHeartbeats 4000000 in
set_option maxRecDepth 100000 in
theorem c_ks_setEntry (l : Launch) (dC : Nat → ClassId) (dI : Nat → Nat → Nat) (sz : Nat) (a_s : Nat) (e0 : Nat) (w0 : Nat) (pv : Nat) (su : Nat) (sl : Nat) (er : Nat → Nat) (wr : Nat → Nat) (ans : Int32) (cE : ClassId) (cW : ClassId) (cP : ClassId) (fp : Nat → Int32) (cSu : ClassId) (fsu : Nat → Int64) (cSl : ClassId) (fsl : Nat → Int64) (cI : ClassId) (E : Nat → Nat → Int32) (cJ : ClassId) (Wm : Nat → Nat → Int64) (i : Int32) (j : Int32) (v : Int32) : Met l y_ks_setEntry w_ks_setEntry ({ frames := 0, cells := 0, slots := 0, locals := 0 }) (va_Pc [.ref a_s, .int i, .int j, .int v] (fun U => U.heap.size = sz ∧ va_P (dC, dI) classes (ks_ws a_s e0 w0 pv su sl er wr cE cW cP cSu cSl cI cJ fp fsu fsl E Wm ans) U.heap ∧ va_K (dC, dI) classes [(cE, .array .int), (cW, .array .long), (cP, .int), (cSu, .long), (cSl, .long), (cI, .int), (cJ, .long)] U ∧ va_D (fun _ => True) (ks_ws a_s e0 w0 pv su sl er wr cE cW cP cSu cSl cI cJ fp fsu fsl E Wm ans))) (va_Qi (fun z9 u9 => (z9, u9) = f_ks_setEntry E i j v) (fun (u : (Nat → Nat → Int32)) t => match u with | E' => va_P (dC, dI) classes (ks_ws a_s e0 w0 pv su sl er wr cE cW cP cSu cSl cI cJ fp fsu fsl E' Wm ans) t.heap ∧ va_K (dC, dI) classes [(cE, .array .int), (cW, .array .long), (cP, .int), (cSu, .long), (cSl, .long), (cI, .int), (cJ, .long)] t ∧ va_D (va_A (ks_ws a_s e0 w0 pv su sl er wr cE cW cP cSu cSl cI cJ fp fsu fsl E Wm ans) sz) (ks_ws a_s e0 w0 pv su sl er wr cE cW cP cSu cSl cI cJ fp fsu fsl E' Wm ans)) (va_A (ks_ws a_s e0 w0 pv su sl er wr cE cW cP cSu cSl cI cJ fp fsu fsl E Wm ans) sz)) 0 0 (va_A (ks_ws a_s e0 w0 pv su sl er wr cE cW cP cSu cSl cI cJ fp fsu fsl E Wm ans) sz) := by
  refine Met.ofW (cc := b_ks_setEntry) (maxL := 4) (ret := (some .boolean)) (by decide +kernel) rfl ?_
  intro p e s m args below meth c s₁ B hml hv
  obtain ⟨rfl, hsz, hP, hK, hD0⟩ := hv
  have hx := B.exec
  have hb := B.bytes
  have hr := B.returns
  have hts := atoms_spec (ws := w_ks_setEntry) B.pre
  have hT := fun (w : Cond) (h : w ∈ kt_T) => hts w (List.mem_cons_of_mem _ h)
  have hown : s.vm.findClass R_ks = some m.cls := findClass_of_methodNamed B.named
  have hlocks := B.notSynchronized
  subst hsz
  have hD := hD0.self (sz := s.heap.size)
  generalize hAe : va_A (ks_ws a_s e0 w0 pv su sl er wr cE cW cP cSu cSl cI cJ fp fsu fsl E Wm ans) s.heap.size = A at hD ⊢
  have hA : ∀ q : Nat, s.heap.size ≤ q → A q := fun q h => by rw [← hAe]; exact Or.inr h
  have hS : va_S A s.heap s.heap [] := va_S.rf
  have hl := lv_entry ([.ref a_s, .int i, .int j, .int v]) (n := 4) (Nat.le_of_ble_eq_true rfl)
  rw [lg_entry_eq]
  generalize (lg_sl ([.ref a_s, .int i, .int j, .int v]) ++ List.replicate (4 - (lg_sl ([.ref a_s, .int i, .int j, .int v])).length) Slot.unset).toArray = ls at hl ⊢
  have hl : lv_has ls 4 [(0, .ref a_s), (1, .int i), (2, .int j), (3, .int v)] := hl
  refine lv_iload_n hx hb d_ks_setEntry_0 rfl (lv_at hl 1 rfl) ?_
  refine lv_if_lt (tgt := 18) hx hb d_ks_setEntry_1 (by decide) (fun c_1 => ?_) (fun c_1 => ?_)
  · refine lv_iconst (v := 0) hx hb d_ks_setEntry_18 (by decide) ?_
    exact W.zret (v := 0) hx hb hr rfl (fun t ht hW => ⟨⟨0, E, rfl, by unfold f_ks_setEntry; rw [if_pos c_1], by rw [ht]; exact hP, va_K.moved hW.alike hK, hD⟩, hS.F ht⟩) hS.2.2 d_ks_setEntry_19
  · refine lv_iload_n hx hb d_ks_setEntry_4 rfl (lv_at hl 1 rfl) ?_
    refine lv_iconst (v := 4) hx hb d_ks_setEntry_5 (by decide) ?_
    refine lv_icmp_ge (tgt := 18) hx hb d_ks_setEntry_6 (by decide) (fun c_2 => ?_) (fun c_2 => ?_)
    · refine lv_iconst (v := 0) hx hb d_ks_setEntry_18 (by decide) ?_
      exact W.zret (v := 0) hx hb hr rfl (fun t ht hW => ⟨⟨0, E, rfl, by unfold f_ks_setEntry; rw [if_neg c_1, if_pos c_2], by rw [ht]; exact hP, va_K.moved hW.alike hK, hD⟩, hS.F ht⟩) hS.2.2 d_ks_setEntry_19
    · refine lv_iload_n hx hb d_ks_setEntry_9 rfl (lv_at hl 2 rfl) ?_
      refine lv_if_lt (tgt := 18) hx hb d_ks_setEntry_10 (by decide) (fun c_3 => ?_) (fun c_3 => ?_)
      · refine lv_iconst (v := 0) hx hb d_ks_setEntry_18 (by decide) ?_
        exact W.zret (v := 0) hx hb hr rfl (fun t ht hW => ⟨⟨0, E, rfl, by unfold f_ks_setEntry; rw [if_neg c_1, if_neg c_2, if_pos c_3], by rw [ht]; exact hP, va_K.moved hW.alike hK, hD⟩, hS.F ht⟩) hS.2.2 d_ks_setEntry_19
      · refine lv_iload_n hx hb d_ks_setEntry_13 rfl (lv_at hl 2 rfl) ?_
        refine lv_iconst (v := 5) hx hb d_ks_setEntry_14 (by decide) ?_
        refine lv_icmp_lt (tgt := 20) hx hb d_ks_setEntry_15 (by decide) (fun c_4 => ?_) (fun c_4 => ?_)
        · refine lv_iload_n hx hb d_ks_setEntry_20 rfl (lv_at hl 3 rfl) ?_
          refine lv_bipush (v := (-100)) hx hb d_ks_setEntry_21 (by decide) ?_
          refine lv_icmp_lt (tgt := 32) hx hb d_ks_setEntry_23 (by decide) (fun c_5 => ?_) (fun c_5 => ?_)
          · refine lv_iconst (v := 0) hx hb d_ks_setEntry_32 (by decide) ?_
            exact W.zret (v := 0) hx hb hr rfl (fun t ht hW => ⟨⟨0, E, rfl, by unfold f_ks_setEntry; rw [if_neg c_1, if_neg c_2, if_neg c_3, if_pos c_4, if_pos c_5], by rw [ht]; exact hP, va_K.moved hW.alike hK, hD⟩, hS.F ht⟩) hS.2.2 d_ks_setEntry_33
          · refine lv_iload_n hx hb d_ks_setEntry_26 rfl (lv_at hl 3 rfl) ?_
            refine lv_bipush (v := 100) hx hb d_ks_setEntry_27 (by decide) ?_
            refine lv_icmp_le (tgt := 34) hx hb d_ks_setEntry_29 (by decide) (fun c_6 => ?_) (fun c_6 => ?_)
            · refine lv_aload_n hx hb d_ks_setEntry_34 rfl (lv_at hl 0 rfl) ?_
              refine va_get (D := (dC, dI)) (ci := 2) (v := .ref e0) (C := R_ks) (T := F_ks) (N := 6) hx hb hT i_ks hown hK hP 0 rfl rfl 0 (by decide) (hT _ k_75) (fun _ h9 => h9) rfl d_ks_setEntry_35 ?_
              refine lv_iload_n hx hb d_ks_setEntry_38 rfl (lv_at hl 1 rfl) ?_
              refine kx_ald hx hb hK hP 1 0 rfl rfl (in_4 (n := 4) (by decide) c_1 c_2) d_ks_setEntry_39 ?_
              refine lv_iload_n hx hb d_ks_setEntry_40 rfl (lv_at hl 2 rfl) ?_
              refine lv_iload_n hx hb d_ks_setEntry_41 rfl (lv_at hl 3 rfl) ?_
              refine va_iast hx hb hK hP hD hS (6 + i.toNatClampNeg) 5 (ks_e (in_4 (n := 4) (by decide) c_1 c_2).1) rfl (vp_in_4 (in_5 c_3 c_4)) d_ks_setEntry_42 (fun H locs hP hD hS => ?_)
              rw [ks_ee (in_4 (n := 4) (by decide) c_1 c_2).1] at hP hD
              have hP : va_P (dC, dI) classes (ks_ws a_s e0 w0 pv su sl er wr cE cW cP cSu cSl cI cJ fp fsu fsl (va_up E i.toNatClampNeg (upd (E i.toNatClampNeg) j.toNatClampNeg v)) Wm ans) H := hP
              have hD : va_D A (ks_ws a_s e0 w0 pv su sl er wr cE cW cP cSu cSl cI cJ fp fsu fsl (va_up E i.toNatClampNeg (upd (E i.toNatClampNeg) j.toNatClampNeg v)) Wm ans) := hD
              refine lv_iconst (v := 1) hx hb d_ks_setEntry_43 (by decide) ?_
              exact W.zret (v := 1) hx hb hr rfl (fun t ht hW => ⟨⟨1, (va_up E i.toNatClampNeg (upd (E i.toNatClampNeg) j.toNatClampNeg v)), rfl, by unfold f_ks_setEntry; rw [if_neg c_1, if_neg c_2, if_neg c_3, if_pos c_4, if_neg c_5, if_pos c_6], by rw [ht]; exact hP, va_K.moved hW.alike hK, hD⟩, hS.F ht⟩) hS.2.2 d_ks_setEntry_44
            · refine lv_iconst (v := 0) hx hb d_ks_setEntry_32 (by decide) ?_
              exact W.zret (v := 0) hx hb hr rfl (fun t ht hW => ⟨⟨0, E, rfl, by unfold f_ks_setEntry; rw [if_neg c_1, if_neg c_2, if_neg c_3, if_pos c_4, if_neg c_5, if_neg c_6], by rw [ht]; exact hP, va_K.moved hW.alike hK, hD⟩, hS.F ht⟩) hS.2.2 d_ks_setEntry_33
        · refine lv_iconst (v := 0) hx hb d_ks_setEntry_18 (by decide) ?_
          exact W.zret (v := 0) hx hb hr rfl (fun t ht hW => ⟨⟨0, E, rfl, by unfold f_ks_setEntry; rw [if_neg c_1, if_neg c_2, if_neg c_3, if_neg c_4], by rw [ht]; exact hP, va_K.moved hW.alike hK, hD⟩, hS.F ht⟩) hS.2.2 d_ks_setEntry_19
def f_ks_hasAnswer (ans : Int32) (k : Int32) : Int32 :=
  if k < 0 then 0 else if ans ≤ k then 0 else 1
set_option maxHeartbeats 4000000 in
set_option maxRecDepth 100000 in
theorem c_ks_hasAnswer (l : Launch) (dC : Nat → ClassId) (dI : Nat → Nat → Nat) (a_s : Nat) (e0 : Nat) (w0 : Nat) (pv : Nat) (su : Nat) (sl : Nat) (er : Nat → Nat) (wr : Nat → Nat) (ans : Int32) (cE : ClassId) (cW : ClassId) (cP : ClassId) (fp : Nat → Int32) (cSu : ClassId) (fsu : Nat → Int64) (cSl : ClassId) (fsl : Nat → Int64) (cI : ClassId) (E : Nat → Nat → Int32) (cJ : ClassId) (Wm : Nat → Nat → Int64) (k : Int32) : Met l y_ks_hasAnswer w_ks_hasAnswer ({ frames := 0, cells := 0, slots := 0, locals := 0 }) (va_Pc [.ref a_s, .int k] (fun U => va_P (dC, dI) classes (ks_ws a_s e0 w0 pv su sl er wr cE cW cP cSu cSl cI cJ fp fsu fsl E Wm ans) U.heap ∧ va_K (dC, dI) classes [(cE, .array .int), (cW, .array .long), (cP, .int), (cSu, .long), (cSl, .long), (cI, .int), (cJ, .long)] U)) (vp_Si (fun z9 => z9 = f_ks_hasAnswer ans k)) 0 0 (fun _ => False) := by
  refine Met.ofW (cc := b_ks_hasAnswer) (maxL := 2) (ret := (some .boolean)) (by decide +kernel) rfl ?_
  intro p e s m args below meth c s₁ B hml hv
  obtain ⟨rfl, hP, hK⟩ := hv
  have hx := B.exec
  have hb := B.bytes
  have hr := B.returns
  have hts := atoms_spec (ws := w_ks_hasAnswer) B.pre
  have hT := fun (w : Cond) (h : w ∈ kt_T) => hts w (List.mem_cons_of_mem _ h)
  have hown : s.vm.findClass R_ks = some m.cls := findClass_of_methodNamed B.named
  have hlocks := B.notSynchronized
  have hl := lv_entry ([.ref a_s, .int k]) (n := 2) (Nat.le_of_ble_eq_true rfl)
  rw [lg_entry_eq]
  generalize (lg_sl ([.ref a_s, .int k]) ++ List.replicate (2 - (lg_sl ([.ref a_s, .int k])).length) Slot.unset).toArray = ls at hl ⊢
  have hl : lv_has ls 2 [(0, .ref a_s), (1, .int k)] := hl
  refine lv_iload_n hx hb d_ks_hasAnswer_0 rfl (lv_at hl 1 rfl) ?_
  refine lv_if_lt (tgt := 16) hx hb d_ks_hasAnswer_1 (by decide) (fun c_1 => ?_) (fun c_1 => ?_)
  · refine lv_iconst (v := 0) hx hb d_ks_hasAnswer_16 (by decide) ?_
    exact W.zret (v := 0) hx hb hr rfl (fun t ht hW => ⟨_, rfl, by unfold f_ks_hasAnswer; rw [if_pos c_1], ht⟩) t_nil d_ks_hasAnswer_17
  · refine lv_iload_n hx hb d_ks_hasAnswer_4 rfl (lv_at hl 1 rfl) ?_
    refine lv_aload_n hx hb d_ks_hasAnswer_5 rfl (lv_at hl 0 rfl) ?_
    refine va_get (D := (dC, dI)) (ci := 2) (v := .int ans) (C := R_ks) (T := F_ks) (N := 6) hx hb hT i_ks hown hK hP 0 rfl rfl 5 (by decide) (hT _ k_76) (fun _ h9 => h9) rfl d_ks_hasAnswer_6 ?_
    refine lv_icmp_ge (tgt := 16) hx hb d_ks_hasAnswer_9 (by decide) (fun c_2 => ?_) (fun c_2 => ?_)
    · refine lv_iconst (v := 0) hx hb d_ks_hasAnswer_16 (by decide) ?_
      exact W.zret (v := 0) hx hb hr rfl (fun t ht hW => ⟨_, rfl, by unfold f_ks_hasAnswer; rw [if_neg c_1, if_pos c_2], ht⟩) t_nil d_ks_hasAnswer_17
    · refine lv_iconst (v := 1) hx hb d_ks_hasAnswer_12 (by decide) ?_
      refine lv_goto (tgt := 17) hx hb d_ks_hasAnswer_13 (by decide) ?_
      exact W.zret (v := 1) hx hb hr rfl (fun t ht hW => ⟨_, rfl, by unfold f_ks_hasAnswer; rw [if_neg c_1, if_neg c_2], ht⟩) t_nil d_ks_hasAnswer_17
def f_ks_answerPart (fsu : Nat → Int64) (fsl : Nat → Int64) (k : Int32) (q : Int32) : Int64 :=
  if q = 0 then (fsu k.toNatClampNeg) else (fsl k.toNatClampNeg)
set_option maxHeartbeats 4000000 in
set_option maxRecDepth 100000 in
theorem c_ks_answerPart (l : Launch) (dC : Nat → ClassId) (dI : Nat → Nat → Nat) (a_s : Nat) (e0 : Nat) (w0 : Nat) (pv : Nat) (su : Nat) (sl : Nat) (er : Nat → Nat) (wr : Nat → Nat) (ans : Int32) (cE : ClassId) (cW : ClassId) (cP : ClassId) (fp : Nat → Int32) (cSu : ClassId) (fsu : Nat → Int64) (cSl : ClassId) (fsl : Nat → Int64) (cI : ClassId) (E : Nat → Nat → Int32) (cJ : ClassId) (Wm : Nat → Nat → Int64) (k : Int32) (q : Int32) (hk : vp_in k 4) : Met l y_ks_answerPart w_ks_answerPart ({ frames := 0, cells := 0, slots := 0, locals := 0 }) (va_Pc [.ref a_s, .int k, .int q] (fun U => va_P (dC, dI) classes (ks_ws a_s e0 w0 pv su sl er wr cE cW cP cSu cSl cI cJ fp fsu fsl E Wm ans) U.heap ∧ va_K (dC, dI) classes [(cE, .array .int), (cW, .array .long), (cP, .int), (cSu, .long), (cSl, .long), (cI, .int), (cJ, .long)] U)) (vp_Sl (fun z9 => z9 = f_ks_answerPart fsu fsl k q)) 0 0 (fun _ => False) := by
  refine Met.ofW (cc := b_ks_answerPart) (maxL := 3) (ret := (some .long)) (by decide +kernel) rfl ?_
  intro p e s m args below meth c s₁ B hml hv
  obtain ⟨rfl, hP, hK⟩ := hv
  have hx := B.exec
  have hb := B.bytes
  have hr := B.returns
  have hts := atoms_spec (ws := w_ks_answerPart) B.pre
  have hT := fun (w : Cond) (h : w ∈ kt_T) => hts w (List.mem_cons_of_mem _ h)
  have hown : s.vm.findClass R_ks = some m.cls := findClass_of_methodNamed B.named
  have hlocks := B.notSynchronized
  have hl := lv_entry ([.ref a_s, .int k, .int q]) (n := 3) (Nat.le_of_ble_eq_true rfl)
  rw [lg_entry_eq]
  generalize (lg_sl ([.ref a_s, .int k, .int q]) ++ List.replicate (3 - (lg_sl ([.ref a_s, .int k, .int q])).length) Slot.unset).toArray = ls at hl ⊢
  have hl : lv_has ls 3 [(0, .ref a_s), (1, .int k), (2, .int q)] := hl
  refine lv_iload_n hx hb d_ks_answerPart_0 rfl (lv_at hl 2 rfl) ?_
  refine lv_if_ne (tgt := 13) hx hb d_ks_answerPart_1 (by decide) (fun c_1 => ?_) (fun c_1 => ?_)
  · refine lv_aload_n hx hb d_ks_answerPart_13 rfl (lv_at hl 0 rfl) ?_
    refine va_get (D := (dC, dI)) (ci := 2) (v := .ref sl) (C := R_ks) (T := F_ks) (N := 6) hx hb hT i_ks hown hK hP 0 rfl rfl 4 (by decide) (hT _ k_77) (fun _ h9 => h9) rfl d_ks_answerPart_14 ?_
    refine lv_iload_n hx hb d_ks_answerPart_17 rfl (lv_at hl 1 rfl) ?_
    refine va_lald hx hb hK hP 5 4 rfl rfl hk d_ks_answerPart_18 ?_
    exact W.lret (v := fsl k.toNatClampNeg) hx hb hr (fun t ht hW => ⟨_, rfl, by unfold f_ks_answerPart; rw [if_neg c_1], ht⟩) t_nil d_ks_answerPart_19
  · refine lv_aload_n hx hb d_ks_answerPart_4 rfl (lv_at hl 0 rfl) ?_
    refine va_get (D := (dC, dI)) (ci := 2) (v := .ref su) (C := R_ks) (T := F_ks) (N := 6) hx hb hT i_ks hown hK hP 0 rfl rfl 3 (by decide) (hT _ k_78) (fun _ h9 => h9) rfl d_ks_answerPart_5 ?_
    refine lv_iload_n hx hb d_ks_answerPart_8 rfl (lv_at hl 1 rfl) ?_
    refine va_lald hx hb hK hP 4 3 rfl rfl hk d_ks_answerPart_9 ?_
    refine lv_goto (tgt := 19) hx hb d_ks_answerPart_10 (by decide) ?_
    exact W.lret (v := fsu k.toNatClampNeg) hx hb hr (fun t ht hW => ⟨_, rfl, by unfold f_ks_answerPart; rw [if_pos c_1], ht⟩) t_nil d_ks_answerPart_19
