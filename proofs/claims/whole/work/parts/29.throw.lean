/-! own rows on throws: a method that throws, told by a contract of its own; a caller that catches it goes on at its handler -/
/-- a static of the JDK's that holds a reference or null, in a cell outside A -/
def kz_F (C n d : String) (A : Nat → Prop) (U : State) (H : Heap) : Prop := ∃ (c : ClassId) (k : Class) (i : Nat) (f : Field) (a : Nat) (cell : Cell) (v : Value), U.vm.findClass C = some c ∧ U.fieldFound? C n d = some (c, k, i, f) ∧ f.isStatic = true ∧ k.statics = some a ∧ H[a]? = some cell ∧ cell.vm.isStatics = true ∧ cell.cls = c ∧ f.slot < cell.slots.size ∧ k.staticTypes[f.slot]? = some f.type ∧ cell.slots[f.slot]? = some v ∧ v.isRef = true ∧ ¬ A a
theorem kz_F.moved {C n d : String} {A : Nat → Prop} {u U : State} {H : Heap} (hvm : u.vm.Alike U.vm) (h : kz_F C n d A u H) : kz_F C n d A U H := by
  obtain ⟨c, k, i, f, a, cell, v, h1, h2, h3, h4, h5, h6, h7, h8, h9, h10⟩ := h
  obtain ⟨k', hi', he⟩ := State.fieldFound?_setVm hvm h2
  exact ⟨c, k', i, f, a, cell, v, by rw [hvm.findClass]; exact h1, hi', h3, by rw [he]; exact h4, h5, h6, h7, h8, by rw [he]; exact h9, h10⟩
theorem kz_F.kept {C n d : String} {A : Nat → Prop} {U : State} {H H1 : Heap} (h : kz_F C n d A U H) (hq : ∀ a : Nat, a < H.size → ¬ A a → H1[a]? = H[a]?) : kz_F C n d A U H1 := by
  obtain ⟨c, k, i, f, a, cell, v, h1, h2, h3, h4, h5, h6, h7, h8, h9, h10, h11, h12⟩ := h
  exact ⟨c, k, i, f, a, cell, v, h1, h2, h3, h4, by rw [hq a (Array.getElem?_eq_some_iff.mp h5).1 h12]; exact h5, h6, h7, h8, h9, h10, h11, h12⟩
theorem kz_F.narrow {C n d : String} {A B : Nat → Prop} {U : State} {H : Heap} (h : kz_F C n d A U H) (hAB : ∀ q, q < H.size → B q → A q) : kz_F C n d B U H := by
  obtain ⟨c, k, i, f, a, cell, v, h1, h2, h3, h4, h5, h6, h7, h8, h9, h10, h11, h12⟩ := h
  exact ⟨c, k, i, f, a, cell, v, h1, h2, h3, h4, h5, h6, h7, h8, h9, h10, h11, fun q => h12 (hAB a (Array.getElem?_eq_some_iff.mp h5).1 q)⟩
theorem kz_F.of {C n d : String} {A : Nat → Prop} {s : State} {args : Array Value} (hl : (Cond.laysStatic C n d).before args s = true) (h : (Cond.isRef (.static C n d)).before args s = true) (hA : ∀ a : Nat, a < s.heap.size → ¬ A a) : kz_F C n d A s s.heap := by
  obtain ⟨c, k, i, f, a, cell, h1, h2, h3, h4, h5, h6, h7, h8, h9⟩ := Cond.laysStatic_spec hl
  cases hv : (Term.static C n d).eval args s none [] s with
  | none => simp [Cond.before, Cond.holds, Cond.value, hv] at h
  | some w =>
    obtain ⟨-, a2, cell2, q1, q2, -, q4⟩ := Term.static_spec h2 hv
    cases h4.symm.trans q1
    cases h5.symm.trans q2
    refine ⟨c, k, i, f, a, cell, w, h1, h2, h3, h4, h5, h6, h7, h8, h9, q4, ?_, hA a (Array.getElem?_eq_some_iff.mp h5).1⟩
    simp only [Cond.before, Cond.holds, Cond.value, hv] at h
    cases w <;> first | rfl | simp at h
theorem kz_F.lays {C n d : String} {A : Nat → Prop} {s : State} {args : Array Value} (h : kz_F C n d A s s.heap) : (Cond.laysStatic C n d).before args s = true := by
  obtain ⟨c, k, i, f, a, cell, v, h1, h2, h3, h4, h5, h6, h7, h8, h9, -⟩ := h
  exact Cond.laysStatic_of h1 h2 h3 h4 h5 h6 h7 h8 h9
theorem kz_F.ref {C n d : String} {A : Nat → Prop} {s : State} {args : Array Value} (h : kz_F C n d A s s.heap) : (Cond.isRef (.static C n d)).before args s = true := by
  obtain ⟨c, k, i, f, a, cell, v, h1, h2, h3, h4, h5, h6, -, -, -, h10, h11, -⟩ := h
  have e := Term.static_eval (args := args) (first := s) (o := none) (idx := []) h2 h3 h4 h5 h6 h10
  simp only [Cond.before, Cond.holds, Cond.value, e]
  cases v <;> first | rfl | (simp [Value.isRef] at h11)
def kt_Z (A : Nat → Prop) (U : State) (H : Heap) : Prop := kz_F Bundle.tN "UNASSIGNED_STACK" Bundle.steD A U H ∧ kz_F Bundle.tN "SUPPRESSED_SENTINEL" Bundle.listD A U H
theorem kt_Z.moved {A : Nat → Prop} {u U : State} {H : Heap} (hvm : u.vm.Alike U.vm) (h : kt_Z A u H) : kt_Z A U H := ⟨h.1.moved hvm, h.2.moved hvm⟩
theorem kt_Z.kept {A : Nat → Prop} {U : State} {H H1 : Heap} (h : kt_Z A U H) (hq : ∀ a : Nat, a < H.size → ¬ A a → H1[a]? = H[a]?) : kt_Z A U H1 := ⟨h.1.kept hq, h.2.kept hq⟩
theorem kt_Z.narrow {A B : Nat → Prop} {U : State} {H : Heap} (h : kt_Z A U H) (hAB : ∀ q, q < H.size → B q → A q) : kt_Z B U H := ⟨h.1.narrow hAB, h.2.narrow hAB⟩
/-- the four words that look at the heap -/
def kz_4 : List Cond := [.isRef (.static Bundle.tN "UNASSIGNED_STACK" Bundle.steD), .isRef (.static Bundle.tN "SUPPRESSED_SENTINEL" Bundle.listD), .laysStatic Bundle.tN "UNASSIGNED_STACK" Bundle.steD, .laysStatic Bundle.tN "SUPPRESSED_SENTINEL" Bundle.listD]
theorem kz_4ok {A : Nat → Prop} {s : State} {args : Array Value} (h : kt_Z A s s.heap) {w : Cond} (hw : w ∈ kz_4) : w.before args s = true := by
  simp only [kz_4, List.mem_cons, List.not_mem_nil, or_false] at hw
  rcases hw with rfl | rfl | rfl | rfl
  · exact h.1.ref
  · exact h.2.ref
  · exact h.1.lays
  · exact h.2.lays
/-- words on casts and declared constructors -/
def kt_nest2 : List Cond := [.castable "java/lang/ArithmeticException" "java/lang/ArithmeticException", .castable "java/lang/IndexOutOfBoundsException" "java/lang/IndexOutOfBoundsException", .declares ⟨"java/lang/RuntimeException", "<init>", "(Ljava/lang/String;)V"⟩, .declares ⟨"java/lang/Exception", "<init>", "(Ljava/lang/String;)V"⟩, .declares ⟨"java/lang/Throwable", "<init>", "(Ljava/lang/String;)V"⟩]
def kt_N2 (U : State) : Prop := ∀ w ∈ kt_nest2, va_Nw w U
theorem kt_N2.warm {s U : State} (hW : s.WarmedH U.vm) (h : kt_N2 s) : kt_N2 U := fun w hw => by
  have h1 := h w hw
  simp only [kt_nest2, List.mem_cons, List.not_mem_nil, or_false] at hw
  rcases hw with rfl | rfl | rfl | rfl | rfl
  · exact va_Nw.warmC hW h1
  · exact va_Nw.warmC hW h1
  · exact va_Nw.warmD hW h1
  · exact va_Nw.warmD hW h1
  · exact va_Nw.warmD hW h1
theorem kt_N2.same {s U : State} (e : s.vm = U.vm) (h : kt_N2 s) : kt_N2 U := fun w hw => by
  have h1 := h w hw
  simp only [kt_nest2, List.mem_cons, List.not_mem_nil, or_false] at hw
  rcases hw with rfl | rfl | rfl | rfl | rfl <;> exact va_Nw.same rfl e h1
theorem kt_N2.use {s : State} {args : Array Value} (h : kt_N2 s) {w : Cond} (hw : w ∈ kt_nest2) : w.before args s = true := by
  have h1 := h w hw
  simp only [kt_nest2, List.mem_cons, List.not_mem_nil, or_false] at hw
  rcases hw with rfl | rfl | rfl | rfl | rfl <;> exact va_Nw.use rfl h1
theorem kz_own {s : State} {args : Array Value} {L : List Cond} {A : Nat → Prop} (hL : ∀ w ∈ L, w ∈ kt_T ∨ w ∈ kt_nest2 ∨ w ∈ kz_4) (hT : ∀ w ∈ kt_T, w.before args s = true) (h2 : kt_N2 s) (hZ : kt_Z A s s.heap) : ∀ w ∈ L, w.before args s = true := fun w hw =>
  (hL w hw).elim (hT w) (fun q => q.elim (h2.use) (kz_4ok hZ))
/-- how a method that throws an E ends: one cell of six places is new, nothing else has changed -/
def kz_Q (E : String) (_ : Array Value) (first : State) (o : Outcome) (t : State) : Prop := ∃ (x : Addr) (ce : Cell), o = .threw x ∧ first.WarmedH t.vm ∧ first.sameButNew ({ t with vm := first.vm } : State) [] 1 6 ∧ t.heap[x]? = some ce ∧ ce.vm = .none ∧ first.vm.findClass E = some ce.cls
def kz_Met (l : Launch) (y : MethodName) (ws : List Cond) (rm : Room) (Pc : Array Value → State → Prop) (E : String) : Prop := MetFree l y (headSpec ws rm) Pc (fun _ _ _ _ _ => True) (kz_Q E)
def kz_Z (E : String) (below : List Frame) (args : Array Value) (s : State) : State → Prop := fun t => ∃ o, t.status = .running ∧ Ended t below o ∧ kz_Q E args s o t
theorem kz_ofW {l : Launch} {y : MethodName} {ws ws' : List Cond} {rm : Room} {Pc : Array Value → State → Prop} {E : String} {cc : ByteArray} {maxL : Nat} {ret : Option FieldType}
    (hy : plainName y.cls = true) (hw : ws = Cond.code y cc maxL ret :: ws')
    (body : ∀ p e s m args below meth c s₁, BodyLoose p l y (headSpec ws rm) cc maxL ret e s m args below meth c s₁ → c.maxLocals = maxL → (∀ x ∈ c.exceptionTable.toList, False) → Pc args s →
      W p l e (headSpec ws rm).room s m args below meth c s.heap [] 0 0 (kz_Z E below args s) (entryFrame m args maxL)) : kz_Met l y ws rm Pc E := by
  refine MetFree.of_bodyS (code := cc) (maxLocals := maxL) (ret := ret) hy ?_ ?_
  · intro args s m h hn
    obtain ⟨meth, c, h1, h2, h3, h4, h5, h6, -, -⟩ := Cond.code_spec hn (atoms_spec (ws := ws) h _ (by rw [hw]; exact List.mem_cons_self))
    exact ⟨meth, c, h1, h2, h3, h4, h5, h6⟩
  · intro p e s m args below meth c s₁ B hml hP _
    have hno : ∀ x ∈ c.exceptionTable.toList, False := by
      obtain ⟨meth2, c2, g1, g2, -, -, -, -, g7, -⟩ := Cond.code_spec B.named (atoms_spec (ws := ws) B.pre _ (by rw [hw]; exact List.mem_cons_self))
      cases Option.some.inj (g1.symm.trans B.method)
      cases Option.some.inj (g2.symm.trans (Stand.of_body B).code)
      rw [Array.isEmpty_iff.mp g7]
      exact fun x hx => nomatch hx
    obtain ⟨t, a1, o, b1, b2, b3⟩ := body p e s m args below meth c s₁ B hml hno hP s₁ (by rw [B.state]; rfl) (Stand.of_body B)
    exact ⟨t, o, a1, b1, b2, b3⟩
section KZT
variable {p : Program} {l : Launch} {e : Env} {R : Room} {s : State} {m : MethodId} {args : Array Value} {below : List Frame} {meth : Method} {c : Code} {H : Heap} {locs : List Loc} {cells slots : Nat} {Q : State → Prop}
variable {cc : ByteArray} {pc : Nat} {ls : Array Slot}
/-- 'throw new E(text)' with an empty operand stack, nothing written before -/
theorem kz_throw (hexec : p.tables.exec = Jvm.exec) (hb : c.code = cc) (hl9 : l.stackTraces = false) {own cls text : String} {names : List String} {ik is ic sa : Nat}
    (hown : s.vm.findClass own = some m.cls) (hcls : Bundle.fit cls = true) (hnames : ∀ n ∈ names, Bundle.fit n = true)
    (hk : (Cond.classLink own ik cls).before args s = true) (hini : (Cond.initialized cls).before args s = true) (hins : (Cond.instantiable cls 6).before args s = true) (hstr : vk_R own is text sa s) (h : ∀ a ∈ Bundle.ownAtoms own ic cls names, a.before args s = true) (hsize : ls.size = c.maxLocals)
    (d0 : decode cc pc = .ok (.new ik, 3)) (d3 : decode cc (pc + 3) = .ok (.dup, 1)) (d4 : decode cc (pc + 4) = .ok (.ldc is, 2)) (d6 : decode cc (pc + 6) = .ok (.invokespecial ic, 3)) (d9 : decode cc (pc + 9) = .ok (.athrow, 1))
    (hno : ∀ x ∈ c.exceptionTable.toList, False) (hRf : names.length + 3 < R.frames) (hRl : 1 + (13 * (names.length + 1) + 42) ≤ R.locals) (hRc : 1 ≤ R.cells) (hRs : 6 ≤ R.slots) (hlocks : meth.locks = false) :
    W p l e R s m args below meth c s.heap [] 0 0 (kz_Z cls below args s) (F0 m pc ls []) := by
  intro T hT X
  have htr : e.platform.stackTraces = false := (show e.platform.stackTraces = l.stackTraces by rw [X.admits.platform]).trans hl9
  obtain ⟨vm₁, cX, kX, hfX, hkX, -, -, X₁, st1⟩ := X.newCold hexec hown hk hins hini (g := F0 m pc ls []) rfl (by rw [hb]; exact d0) (by omega) (by omega)
  generalize hT1 : (T.setVm vm₁).pushCell { cls := cX, slots := kX.instanceTypes.map defaultValue, vm := .none } = T1 at X₁ st1
  have hcellA : T1.heap[T.heap.size]? = some (freshCell cX kX) := by rw [← hT1]; exact State.heap_pushCell_size _ _
  have K : W p l e R s m args below meth c T1.heap [] (0 + 1) (0 + 6) (kz_Z cls below args s) (F0 m (pc + 3) ls [.ref T.heap.size]) := by
    refine lv_dup hexec hb d3 rfl ?_
    refine va_ldcS hexec hb hown hstr d4 ?_
    intro T2 hT2 X2
    obtain ⟨U, hsteps, hrun, hend, hW, hsame, ce, hce, hO⟩ := X2.ctorThrowS hexec htr (own := own) (cls := cls) (names := names) (ic := ic) hown hcls hnames h (fun x hx => nomatch hx) hfX hkX (a := T.heap.size) (by rw [hT2]; exact hcellA) (by rw [hT]; exact Nat.le_refl _) (msg := .ref sa) rfl
      (g := F0 m (pc + 3 + 1 + 2) ls [.ref sa, .ref T.heap.size, .ref T.heap.size]) rfl hsize rfl rfl (rest := []) rfl (by rw [hb]; exact d6) (by rw [hb]; exact d9) (fun x hx => (hno x hx).elim) hRf hRl hlocks
    exact ⟨U, hsteps, .threw T.heap.size, hrun, hend, T.heap.size, ce, rfl, hW, hsame, hce, hO.vm, hO.cls⟩
  obtain ⟨t, a1, b1⟩ := K T1 rfl X₁
  exact ⟨t, st1 t a1, b1⟩
end KZT
theorem kz_same {s U : State} {k n : Nat} (h : s.sameButNew ({ U with vm := s.vm } : State) [] k n) : s.heap.size ≤ U.heap.size ∧ ∀ q : Nat, q < s.heap.size → U.heap[q]? = s.heap[q]? := by
  obtain ⟨-, h2, -, -, -, h6⟩ := h
  refine ⟨h2, fun q hq => ?_⟩
  obtain ⟨c2, e1, e2, -, e4⟩ := h6 q _ (Array.getElem?_eq_getElem hq)
  have hs : c2.slots = (s.heap[q]).slots := Array.ext_getElem? fun i => e4 i (fun z => nomatch z)
  rw [hs] at e2
  have e1' : U.heap[q]? = some c2 := e1
  rw [e1', e2, Array.getElem?_eq_getElem hq]
/-- what a caller finds where a callee threw an E -/
def kz_P (E : String) (A : Pt) (_ : Array Value) (v : Addr) (B : Pt) : Prop := ∃ ce : Cell, B.locs = A.locs ∧ B.cells = A.cells + 1 ∧ B.slots = A.slots + 6 ∧ B.U.heap[v]? = some ce ∧ ce.vm = .none ∧ A.U.vm.findClass E = some ce.cls ∧ A.U.heap.size ≤ B.U.heap.size ∧ ∀ q : Nat, q < A.U.heap.size → B.U.heap[q]? = A.U.heap[q]?
section KZC
variable {p : Program} {l : Launch} {e : Env} {R : Room} {s : State} {m : MethodId} {args : Array Value} {below : List Frame} {meth : Method} {c : Code} {H : Heap} {locs : List Loc} {cells slots : Nat} {Q : State → Prop}
variable {cc : ByteArray} {pc : Nat} {ls : Array Slot}
/-- a call whose callee throws an E, taken by the only handler -/
theorem kz_call {y : MethodName} {ws : List Cond} {rm : Room} {Pc : Array Value → State → Prop} {E own C : String} {bytes : ByteArray} {maxL n index nL b : Nat} {ret : Option FieldType} {Ts : List Cond} {As rest : List Value}
    (S : CallFix p m c cc nL s args Ts own) (hM : kz_Met l y ws rm Pc E) (cw : CallW R s args own C index y bytes maxL ret ws rm 1 6 n) (hp : PreV s H C b Pc As)
    (hn : As.length = n) (hsize : ls.size = nL) (hW : 2 * (F0 m pc ls rest).monitorRoom + (rest.map fun v => v.category).sum ≤ 8) (hdg : decode cc pc = .ok (.invokevirtual index, 3)) (hf : cells + 1 ≤ R.cells ∧ slots + 6 ≤ R.slots)
    {x : ExceptionTableEntry} (htab : c.exceptionTable.toList = [x]) (hx : covers x pc = true) (h0 : x.catchType ≠ 0) (hlink : (Cond.classLink own x.catchType E).before args s = true) (hcast : (Cond.castable E E).before args s = true)
    (kk : ∀ (q : Nat) (H1 : Heap), H.size ≤ H1.size → (∀ a : Nat, a < H.size → H1[a]? = H[a]?) → W p l e R s m args below meth c H1 locs (cells + 1) (slots + 6) Q (F0 m x.handlerPc ls [.ref q])) :
    W p l e R s m args below meth c H locs cells slots Q (F0 m pc ls (As.reverse ++ .ref b :: rest)) := by
  obtain ⟨⟨hrc, hrs, hfr, hlo, hws, hcw, hcode, hini, hy, hlen, hl⟩, hin, hse⟩ := cw
  obtain ⟨hexec, hb, hml, ho, -⟩ := S
  obtain ⟨hbl, ⟨cellB, hcB, hoB, hclB⟩, hPc⟩ := hp
  have hK : BackT l R p e below s args y 3 8 (fun A a => A.cells + 1 ≤ R.cells ∧ A.slots + 6 ≤ R.slots ∧ Pc a A.U) (kz_P E) := by
    refine BackT.of_free (bytes := bytes) (maxL := maxL) (ret := ret) (E := fun a first o t L k n => L = [] ∧ k = 1 ∧ n = 6 ∧ kz_Q E a first o t) hM hfr hlo ?_ ?_ ?_ ?_ ?_
    · intro m meth c A a X hpre
      refine ⟨atoms_intro fun w hw => hws w hw _ _ X.warmed, hws _ hcw _ _ X.warmed, word_at X.warmed (Or.inl (by first | rfl | simp [Cond.onTables, Cond.keeps, Cond.steady])) hini, ?_, ?_⟩
      · rw [show (headSpec ws rm).room.cells = 1 from hrc]; exact hpre.1
      · rw [show (headSpec ws rm).room.slots = 6 from hrs]; exact hpre.2.1
    · intro m meth c A a g mk X hpre
      exact hbl _ _ _ _ hpre.2.2
    · intro m meth c A a g mk X hpre
      trivial
    · intro a first o t hq
      obtain ⟨x, ce, rfl, hW1, hs1, hr1⟩ := hq
      exact ⟨[], 1, 6, ⟨⟨x, rfl⟩, hW1, hs1⟩, rfl, rfl, rfl, x, ce, rfl, hW1, hs1, hr1⟩
    · intro m meth c A a g mk v t L k n X hpre hq hfe hE
      obtain ⟨rfl, rfl, rfl, -⟩ := hE
      obtain ⟨x, ce, hx1, hW1, hs1, hc1, hc2, hc3⟩ := hq
      cases hx1
      obtain ⟨g1, g2⟩ := kz_same hs1
      exact ⟨ce, List.append_nil _, rfl, rfl, hc1, hc2, hc3, g1, g2⟩
  intro T hT X
  obtain ⟨mk, methM, hnamed, hmethM, hstM, habM⟩ := Cond.instanceMethod_spec hin
  obtain ⟨methM2, cM, hmethM2, -, -, -, -, -, -, hsigM⟩ := Cond.code_spec hnamed hcode
  cases hmethM.symm.trans hmethM2
  obtain ⟨c2, r2, m2, q1, q2, q3, q4, kP, hkP, hkPi⟩ := Cond.selects_spec hse
  cases hclB.symm.trans q1
  cases (State.methodFound?_of_named hnamed hy).symm.trans q2
  cases hnamed.symm.trans q3
  have hselP : selectMethod e.platform s.vm cellB.cls mk = .method mk := by rw [Launch.admits_selectMethod X.admits]; exact q4
  obtain ⟨vm₁, X₁, hstep₁⟩ := X.invokevirtual hexec ho hl hnamed hmethM hstM hkP hkPi hy (a := b) (cell := cellB) (by rw [hT]; exact hcB)
    (fun z h => by rw [h] at hoB; cases hoB) hselP hmethM habM hkP hkPi (g := F0 m pc ls (As.reverse ++ .ref b :: rest)) rfl (argsL := As) (rest := rest) (hn.trans (hlen _ hsigM)) rfl (by rw [hb]; exact hdg)
  obtain ⟨v, B, X2, ⟨ce, b1, b2, b3, b4, b5, b6, b7, b8⟩, hsteps⟩ := hK m meth c ⟨T.setVm vm₁, locs, cells, slots⟩ (F0 m pc ls rest) (.invokevirtual index) mk (Value.ref b :: As).toArray X₁ rfl (hsize.trans hml.symm) (by rw [hb]; exact hdg) hW (X₁.named hnamed) ⟨hf.1, hf.2, hPc (T.setVm vm₁) hT X₁.warmed⟩
  have hcE : s.vm.findClass E = some ce.cls := by
    have h9 : (T.setVm vm₁).vm.findClass E = some ce.cls := b6
    rw [X₁.warmed.alike.findClass] at h9
    exact h9
  have hpl : e.platform.magicAccessors = ({} : Platform).magicAccessors := by rw [X.admits.platform]
  obtain ⟨c3, c4, hc3, hc4, hasg⟩ := Cond.castable_spec hcast
  cases hc3.symm.trans hcE
  obtain ⟨c5, hc5, hcl5⟩ := Cond.classLink_spec ho hlink e.platform hpl
  cases hc4.symm.trans hc5
  obtain ⟨U, l2, n2, k2⟩ := B
  dsimp only [Pt.U, Pt.locs, Pt.cells, Pt.slots] at X2 b1 b2 b3 b4 b7 b8 hsteps
  subst b1
  subst b2
  subst b3
  obtain ⟨vm2, X3, st3⟩ := X2.thenCaughtThrough v (g := F0 m pc ls rest) rfl hsteps b4 (by rw [b5]; rfl) (by obtain ⟨k9, h9, -⟩ := Vm.findClass_spec hcE; exact ⟨k9, h9⟩) [] x [] htab (fun z hz => nomatch hz) hx (Or.inr ⟨h0, c4, hcl5, hasg⟩)
  obtain ⟨t, a1, z1⟩ := kk v U.heap (by rw [← hT]; exact b7) (fun a ha => by rw [← hT] at ha ⊢; exact b8 a ha) (U.setVm vm2) rfl X3
  exact ⟨t, hstep₁ _ fun acts => by rw [doInvoke_state]; exact st3.trans a1, z1⟩
end KZC

