abbrev b_lw_cell : ByteArray := method_2_code
def y_lw_cell : MethodName := ⟨R_law, "cell", "([II)I"⟩
def w_lw_cell : List Cond := .code y_lw_cell b_lw_cell 2 (some .int) :: kt_T
theorem d_lw_cell_0 : decode b_lw_cell 0 = .ok (.iload_n 1, 1) := by decide +kernel
theorem d_lw_cell_1 : decode b_lw_cell 1 = .ok (.aload_n 0, 1) := by decide +kernel
theorem d_lw_cell_2 : decode b_lw_cell 2 = .ok (.arraylength, 1) := by decide +kernel
theorem d_lw_cell_3 : decode b_lw_cell 3 = .ok (.if_icmp .ge 9, 3) := by decide +kernel
theorem d_lw_cell_6 : decode b_lw_cell 6 = .ok (.aload_n 0, 1) := by decide +kernel
theorem d_lw_cell_7 : decode b_lw_cell 7 = .ok (.iload_n 1, 1) := by decide +kernel
theorem d_lw_cell_8 : decode b_lw_cell 8 = .ok (.iaload, 1) := by decide +kernel
theorem d_lw_cell_9 : decode b_lw_cell 9 = .ok (.goto 4, 3) := by decide +kernel
theorem d_lw_cell_12 : decode b_lw_cell 12 = .ok (.iconst 0, 1) := by decide +kernel
theorem d_lw_cell_13 : decode b_lw_cell 13 = .ok (.ireturn, 1) := by decide +kernel
abbrev b_lw_value : ByteArray := method_3_code
def y_lw_value : MethodName := ⟨R_law, "value", "(LKilogramRows;JJ[J)I"⟩
def w_lw_value : List Cond := .codeWith y_lw_value b_lw_value 7 (some .int) [(0, 11, 14, 13)] :: kt_T
theorem d_lw_value_0 : decode b_lw_value 0 = .ok (.aload 5, 2) := by decide +kernel
theorem d_lw_value_2 : decode b_lw_value 2 = .ok (.iconst 0, 1) := by decide +kernel
theorem d_lw_value_3 : decode b_lw_value 3 = .ok (.aload_n 0, 1) := by decide +kernel
theorem d_lw_value_4 : decode b_lw_value 4 = .ok (.lload_n 1, 1) := by decide +kernel
theorem d_lw_value_5 : decode b_lw_value 5 = .ok (.lload_n 3, 1) := by decide +kernel
theorem d_lw_value_6 : decode b_lw_value 6 = .ok (.invokevirtual 7, 3) := by decide +kernel
theorem d_lw_value_9 : decode b_lw_value 9 = .ok (.i2l, 1) := by decide +kernel
theorem d_lw_value_10 : decode b_lw_value 10 = .ok (.lastore, 1) := by decide +kernel
theorem d_lw_value_11 : decode b_lw_value 11 = .ok (.goto 7, 3) := by decide +kernel
theorem d_lw_value_14 : decode b_lw_value 14 = .ok (.astore 6, 2) := by decide +kernel
theorem d_lw_value_16 : decode b_lw_value 16 = .ok (.iconst 1, 1) := by decide +kernel
theorem d_lw_value_17 : decode b_lw_value 17 = .ok (.ireturn, 1) := by decide +kernel
theorem d_lw_value_18 : decode b_lw_value 18 = .ok (.iconst 0, 1) := by decide +kernel
theorem d_lw_value_19 : decode b_lw_value 19 = .ok (.ireturn, 1) := by decide +kernel
abbrev b_lw_part : ByteArray := method_4_code
def y_lw_part : MethodName := ⟨R_law, "part", "(LKilogramRows;II[J)I"⟩
def w_lw_part : List Cond := .codeWith y_lw_part b_lw_part 5 (some .int) [(0, 10, 13, 19)] :: kt_T
theorem d_lw_part_0 : decode b_lw_part 0 = .ok (.aload_n 3, 1) := by decide +kernel
theorem d_lw_part_1 : decode b_lw_part 1 = .ok (.iconst 0, 1) := by decide +kernel
theorem d_lw_part_2 : decode b_lw_part 2 = .ok (.aload_n 0, 1) := by decide +kernel
theorem d_lw_part_3 : decode b_lw_part 3 = .ok (.iload_n 1, 1) := by decide +kernel
theorem d_lw_part_4 : decode b_lw_part 4 = .ok (.iload_n 2, 1) := by decide +kernel
theorem d_lw_part_5 : decode b_lw_part 5 = .ok (.invokevirtual 15, 3) := by decide +kernel
theorem d_lw_part_8 : decode b_lw_part 8 = .ok (.i2l, 1) := by decide +kernel
theorem d_lw_part_9 : decode b_lw_part 9 = .ok (.lastore, 1) := by decide +kernel
theorem d_lw_part_10 : decode b_lw_part 10 = .ok (.goto 7, 3) := by decide +kernel
theorem d_lw_part_13 : decode b_lw_part 13 = .ok (.astore 4, 2) := by decide +kernel
theorem d_lw_part_15 : decode b_lw_part 15 = .ok (.iconst 1, 1) := by decide +kernel
theorem d_lw_part_16 : decode b_lw_part 16 = .ok (.ireturn, 1) := by decide +kernel
theorem d_lw_part_17 : decode b_lw_part 17 = .ok (.iconst 0, 1) := by decide +kernel
theorem d_lw_part_18 : decode b_lw_part 18 = .ok (.ireturn, 1) := by decide +kernel
abbrev b_lw_over : ByteArray := method_5_code
def y_lw_over : MethodName := ⟨R_law, "over", "(LKilogramRows;II[J)I"⟩
def w_lw_over : List Cond := .codeWith y_lw_over b_lw_over 5 (some .int) [(0, 10, 13, 13)] :: kt_T
theorem d_lw_over_0 : decode b_lw_over 0 = .ok (.aload_n 3, 1) := by decide +kernel
theorem d_lw_over_1 : decode b_lw_over 1 = .ok (.iconst 0, 1) := by decide +kernel
theorem d_lw_over_2 : decode b_lw_over 2 = .ok (.aload_n 0, 1) := by decide +kernel
theorem d_lw_over_3 : decode b_lw_over 3 = .ok (.iload_n 1, 1) := by decide +kernel
theorem d_lw_over_4 : decode b_lw_over 4 = .ok (.iload_n 2, 1) := by decide +kernel
theorem d_lw_over_5 : decode b_lw_over 5 = .ok (.invokevirtual 21, 3) := by decide +kernel
theorem d_lw_over_8 : decode b_lw_over 8 = .ok (.i2l, 1) := by decide +kernel
theorem d_lw_over_9 : decode b_lw_over 9 = .ok (.lastore, 1) := by decide +kernel
theorem d_lw_over_10 : decode b_lw_over 10 = .ok (.goto 7, 3) := by decide +kernel
theorem d_lw_over_13 : decode b_lw_over 13 = .ok (.astore 4, 2) := by decide +kernel
theorem d_lw_over_15 : decode b_lw_over 15 = .ok (.iconst 1, 1) := by decide +kernel
theorem d_lw_over_16 : decode b_lw_over 16 = .ok (.ireturn, 1) := by decide +kernel
theorem d_lw_over_17 : decode b_lw_over 17 = .ok (.iconst 0, 1) := by decide +kernel
theorem d_lw_over_18 : decode b_lw_over 18 = .ok (.ireturn, 1) := by decide +kernel
abbrev b_lw_put : ByteArray := method_6_code
def y_lw_put : MethodName := ⟨R_law, "put", "(LKilogramRows;III[J)I"⟩
def w_lw_put : List Cond := .codeWith y_lw_put b_lw_put 6 (some .int) [(0, 19, 22, 19)] :: kt_T
theorem d_lw_put_0 : decode b_lw_put 0 = .ok (.aload 4, 2) := by decide +kernel
theorem d_lw_put_2 : decode b_lw_put 2 = .ok (.iconst 0, 1) := by decide +kernel
theorem d_lw_put_3 : decode b_lw_put 3 = .ok (.aload_n 0, 1) := by decide +kernel
theorem d_lw_put_4 : decode b_lw_put 4 = .ok (.iload_n 1, 1) := by decide +kernel
theorem d_lw_put_5 : decode b_lw_put 5 = .ok (.iload_n 2, 1) := by decide +kernel
theorem d_lw_put_6 : decode b_lw_put 6 = .ok (.iload_n 3, 1) := by decide +kernel
theorem d_lw_put_7 : decode b_lw_put 7 = .ok (.invokevirtual 24, 3) := by decide +kernel
theorem d_lw_put_10 : decode b_lw_put 10 = .ok (.ifCond .eq 7, 3) := by decide +kernel
theorem d_lw_put_13 : decode b_lw_put 13 = .ok (.lconst 1, 1) := by decide +kernel
theorem d_lw_put_14 : decode b_lw_put 14 = .ok (.goto 4, 3) := by decide +kernel
theorem d_lw_put_17 : decode b_lw_put 17 = .ok (.lconst 0, 1) := by decide +kernel
theorem d_lw_put_18 : decode b_lw_put 18 = .ok (.lastore, 1) := by decide +kernel
theorem d_lw_put_19 : decode b_lw_put 19 = .ok (.goto 7, 3) := by decide +kernel
theorem d_lw_put_22 : decode b_lw_put 22 = .ok (.astore 5, 2) := by decide +kernel
theorem d_lw_put_24 : decode b_lw_put 24 = .ok (.iconst 1, 1) := by decide +kernel
theorem d_lw_put_25 : decode b_lw_put 25 = .ok (.ireturn, 1) := by decide +kernel
theorem d_lw_put_26 : decode b_lw_put 26 = .ok (.iconst 0, 1) := by decide +kernel
theorem d_lw_put_27 : decode b_lw_put 27 = .ok (.ireturn, 1) := by decide +kernel
abbrev b_lw_at : ByteArray := method_7_code
def y_lw_at : MethodName := ⟨R_law, "at", "(LKilogramRows;II[J)I"⟩
def w_lw_at : List Cond := .codeWith y_lw_at b_lw_at 5 (some .int) [(0, 10, 13, 19)] :: kt_T
theorem d_lw_at_0 : decode b_lw_at 0 = .ok (.aload_n 3, 1) := by decide +kernel
theorem d_lw_at_1 : decode b_lw_at 1 = .ok (.iconst 0, 1) := by decide +kernel
theorem d_lw_at_2 : decode b_lw_at 2 = .ok (.aload_n 0, 1) := by decide +kernel
theorem d_lw_at_3 : decode b_lw_at 3 = .ok (.iload_n 1, 1) := by decide +kernel
theorem d_lw_at_4 : decode b_lw_at 4 = .ok (.iload_n 2, 1) := by decide +kernel
theorem d_lw_at_5 : decode b_lw_at 5 = .ok (.invokevirtual 28, 3) := by decide +kernel
theorem d_lw_at_8 : decode b_lw_at 8 = .ok (.i2l, 1) := by decide +kernel
theorem d_lw_at_9 : decode b_lw_at 9 = .ok (.lastore, 1) := by decide +kernel
theorem d_lw_at_10 : decode b_lw_at 10 = .ok (.goto 7, 3) := by decide +kernel
theorem d_lw_at_13 : decode b_lw_at 13 = .ok (.astore 4, 2) := by decide +kernel
theorem d_lw_at_15 : decode b_lw_at 15 = .ok (.iconst 1, 1) := by decide +kernel
theorem d_lw_at_16 : decode b_lw_at 16 = .ok (.ireturn, 1) := by decide +kernel
theorem d_lw_at_17 : decode b_lw_at 17 = .ok (.iconst 0, 1) := by decide +kernel
theorem d_lw_at_18 : decode b_lw_at 18 = .ok (.ireturn, 1) := by decide +kernel
theorem k_221 : (.code y_kr_value b_kr_value 5 (some .int) : Cond) ∈ kt_T := List.mem_filter.mpr ⟨List.mem_of_getElem? (i := 284) (by decide +kernel), by decide +kernel⟩
theorem k_222 : (.instanceMethod y_kr_value : Cond) ∈ kt_T := List.mem_filter.mpr ⟨List.mem_of_getElem? (i := 282) (by decide +kernel), by decide +kernel⟩
theorem k_223 : (.selects R_kr y_kr_value y_kr_value : Cond) ∈ kt_T := List.mem_filter.mpr ⟨List.mem_of_getElem? (i := 283) (by decide +kernel), by decide +kernel⟩
theorem k_224 : (.methodLink R_law 7 y_kr_value : Cond) ∈ kt_T := List.mem_filter.mpr ⟨List.mem_of_getElem? (i := 281) (by decide +kernel), by decide +kernel⟩
theorem k_225 : (.methodLink R_law 7 y_kr_valueT : Cond) ∈ kt_T := List.mem_filter.mpr ⟨List.mem_of_getElem? (i := 281) (by decide +kernel), by decide +kernel⟩
theorem k_226 : (.instanceMethod y_kr_valueT : Cond) ∈ kt_T := List.mem_filter.mpr ⟨List.mem_of_getElem? (i := 282) (by decide +kernel), by decide +kernel⟩
theorem k_227 : (.selects R_kr y_kr_valueT y_kr_valueT : Cond) ∈ kt_T := List.mem_filter.mpr ⟨List.mem_of_getElem? (i := 283) (by decide +kernel), by decide +kernel⟩
theorem k_228 : (.code y_kr_valueT b_kr_valueT 5 (some .int) : Cond) ∈ kt_T := List.mem_filter.mpr ⟨List.mem_of_getElem? (i := 284) (by decide +kernel), by decide +kernel⟩
theorem k_229 : (.classLink R_law 13 "java/lang/ArithmeticException" : Cond) ∈ kt_T := List.mem_filter.mpr ⟨List.mem_of_getElem? (i := 280) (by decide +kernel), by decide +kernel⟩
theorem k_230 : (.code y_kr_part b_kr_part 3 (some .int) : Cond) ∈ kt_T := List.mem_filter.mpr ⟨List.mem_of_getElem? (i := 359) (by decide +kernel), by decide +kernel⟩
theorem k_231 : (.instanceMethod y_kr_part : Cond) ∈ kt_T := List.mem_filter.mpr ⟨List.mem_of_getElem? (i := 357) (by decide +kernel), by decide +kernel⟩
theorem k_232 : (.selects R_kr y_kr_part y_kr_part : Cond) ∈ kt_T := List.mem_filter.mpr ⟨List.mem_of_getElem? (i := 358) (by decide +kernel), by decide +kernel⟩
theorem k_233 : (.methodLink R_law 15 y_kr_part : Cond) ∈ kt_T := List.mem_filter.mpr ⟨List.mem_of_getElem? (i := 356) (by decide +kernel), by decide +kernel⟩
theorem k_234 : (.methodLink R_law 15 y_kr_partT : Cond) ∈ kt_T := List.mem_filter.mpr ⟨List.mem_of_getElem? (i := 356) (by decide +kernel), by decide +kernel⟩
theorem k_235 : (.instanceMethod y_kr_partT : Cond) ∈ kt_T := List.mem_filter.mpr ⟨List.mem_of_getElem? (i := 357) (by decide +kernel), by decide +kernel⟩
theorem k_236 : (.selects R_kr y_kr_partT y_kr_partT : Cond) ∈ kt_T := List.mem_filter.mpr ⟨List.mem_of_getElem? (i := 358) (by decide +kernel), by decide +kernel⟩
theorem k_237 : (.code y_kr_partT b_kr_partT 3 (some .int) : Cond) ∈ kt_T := List.mem_filter.mpr ⟨List.mem_of_getElem? (i := 359) (by decide +kernel), by decide +kernel⟩
theorem k_238 : (.classLink R_law 19 "java/lang/IndexOutOfBoundsException" : Cond) ∈ kt_T := List.mem_filter.mpr ⟨List.mem_of_getElem? (i := 355) (by decide +kernel), by decide +kernel⟩
theorem k_239 : (.code y_kr_over b_kr_over 3 (some .int) : Cond) ∈ kt_T := List.mem_filter.mpr ⟨List.mem_of_getElem? (i := 382) (by decide +kernel), by decide +kernel⟩
theorem k_240 : (.instanceMethod y_kr_over : Cond) ∈ kt_T := List.mem_filter.mpr ⟨List.mem_of_getElem? (i := 380) (by decide +kernel), by decide +kernel⟩
theorem k_241 : (.selects R_kr y_kr_over y_kr_over : Cond) ∈ kt_T := List.mem_filter.mpr ⟨List.mem_of_getElem? (i := 381) (by decide +kernel), by decide +kernel⟩
theorem k_242 : (.methodLink R_law 21 y_kr_over : Cond) ∈ kt_T := List.mem_filter.mpr ⟨List.mem_of_getElem? (i := 379) (by decide +kernel), by decide +kernel⟩
theorem k_243 : (.methodLink R_law 21 y_kr_overT : Cond) ∈ kt_T := List.mem_filter.mpr ⟨List.mem_of_getElem? (i := 379) (by decide +kernel), by decide +kernel⟩
theorem k_244 : (.instanceMethod y_kr_overT : Cond) ∈ kt_T := List.mem_filter.mpr ⟨List.mem_of_getElem? (i := 380) (by decide +kernel), by decide +kernel⟩
theorem k_245 : (.selects R_kr y_kr_overT y_kr_overT : Cond) ∈ kt_T := List.mem_filter.mpr ⟨List.mem_of_getElem? (i := 381) (by decide +kernel), by decide +kernel⟩
theorem k_246 : (.code y_kr_overT b_kr_overT 3 (some .int) : Cond) ∈ kt_T := List.mem_filter.mpr ⟨List.mem_of_getElem? (i := 382) (by decide +kernel), by decide +kernel⟩
theorem k_247 : (.code y_kr_put b_kr_put 4 (some .boolean) : Cond) ∈ kt_T := List.mem_filter.mpr ⟨List.mem_of_getElem? (i := 390) (by decide +kernel), by decide +kernel⟩
theorem k_248 : (.instanceMethod y_kr_put : Cond) ∈ kt_T := List.mem_filter.mpr ⟨List.mem_of_getElem? (i := 388) (by decide +kernel), by decide +kernel⟩
theorem k_249 : (.selects R_kr y_kr_put y_kr_put : Cond) ∈ kt_T := List.mem_filter.mpr ⟨List.mem_of_getElem? (i := 389) (by decide +kernel), by decide +kernel⟩
theorem k_250 : (.methodLink R_law 24 y_kr_put : Cond) ∈ kt_T := List.mem_filter.mpr ⟨List.mem_of_getElem? (i := 387) (by decide +kernel), by decide +kernel⟩
theorem k_251 : (.methodLink R_law 24 y_kr_putT : Cond) ∈ kt_T := List.mem_filter.mpr ⟨List.mem_of_getElem? (i := 387) (by decide +kernel), by decide +kernel⟩
theorem k_252 : (.instanceMethod y_kr_putT : Cond) ∈ kt_T := List.mem_filter.mpr ⟨List.mem_of_getElem? (i := 388) (by decide +kernel), by decide +kernel⟩
theorem k_253 : (.selects R_kr y_kr_putT y_kr_putT : Cond) ∈ kt_T := List.mem_filter.mpr ⟨List.mem_of_getElem? (i := 389) (by decide +kernel), by decide +kernel⟩
theorem k_254 : (.code y_kr_putT b_kr_putT 4 (some .boolean) : Cond) ∈ kt_T := List.mem_filter.mpr ⟨List.mem_of_getElem? (i := 390) (by decide +kernel), by decide +kernel⟩
theorem k_255 : (.code y_kr_at b_kr_at 3 (some .int) : Cond) ∈ kt_T := List.mem_filter.mpr ⟨List.mem_of_getElem? (i := 402) (by decide +kernel), by decide +kernel⟩
theorem k_256 : (.instanceMethod y_kr_at : Cond) ∈ kt_T := List.mem_filter.mpr ⟨List.mem_of_getElem? (i := 400) (by decide +kernel), by decide +kernel⟩
theorem k_257 : (.selects R_kr y_kr_at y_kr_at : Cond) ∈ kt_T := List.mem_filter.mpr ⟨List.mem_of_getElem? (i := 401) (by decide +kernel), by decide +kernel⟩
theorem k_258 : (.methodLink R_law 28 y_kr_at : Cond) ∈ kt_T := List.mem_filter.mpr ⟨List.mem_of_getElem? (i := 399) (by decide +kernel), by decide +kernel⟩
theorem k_259 : (.methodLink R_law 28 y_kr_atT : Cond) ∈ kt_T := List.mem_filter.mpr ⟨List.mem_of_getElem? (i := 399) (by decide +kernel), by decide +kernel⟩
theorem k_260 : (.instanceMethod y_kr_atT : Cond) ∈ kt_T := List.mem_filter.mpr ⟨List.mem_of_getElem? (i := 400) (by decide +kernel), by decide +kernel⟩
theorem k_261 : (.selects R_kr y_kr_atT y_kr_atT : Cond) ∈ kt_T := List.mem_filter.mpr ⟨List.mem_of_getElem? (i := 401) (by decide +kernel), by decide +kernel⟩
theorem k_262 : (.code y_kr_atT b_kr_atT 3 (some .int) : Cond) ∈ kt_T := List.mem_filter.mpr ⟨List.mem_of_getElem? (i := 402) (by decide +kernel), by decide +kernel⟩
/-! rows of my own for the law's helpers: methods with one handler, told by 'codeWith' -/
section KLW
variable {p : Program} {l : Launch} {e : Env} {R : Room} {s : State} {m : MethodId} {args : Array Value} {below : List Frame} {meth : Method} {c : Code} {H : Heap} {locs : List Loc} {cells slots : Nat}
variable {y : MethodName} {bytes cc : ByteArray} {maxL nL mc ms n index : Nat} {ret : Option FieldType} {ws : List Cond} {rm : Room} {Pc : Array Value → State → Prop} {Qc : Array Value → State → Outcome → State → Prop} {free : Addr → Prop} {own : String} {As rest : List Value} {g : JFrame}
theorem kz_runSW {hh : List (Nat × Nat × Nat × Nat)} (S : CallFix p m c cc nL s args kt_T own) (hM : Met l y ws rm Pc Qc mc ms free) (hw : ws = Cond.codeWith y bytes maxL ret hh :: kt_T) (hcw : Cond.codeWith y bytes maxL ret hh ∈ kt_T) (hst : Cond.static y ∈ kt_T) (hini : Cond.initialized y.cls ∈ kt_T) (hlk : Cond.methodLink own index y ∈ kt_T) (hrc : rm.cells = mc) (hrs : rm.slots = ms)
    (hd : y.cls ≠ "java/lang/invoke/MethodHandle" ∧ y.cls ≠ "java/lang/invoke/VarHandle" ∧ (parseMethodDescriptor y.desc).map (fun d => d.parameters.length) = some n) (hR : rm.frames + 1 ≤ R.frames ∧ 8 + (maxL + 11) + rm.locals ≤ R.locals) (hp : PreS s H Pc As)
    (hg : g.method = m) (hn : As.length = n) (hsize : g.locals.size = nL) (hstack : g.stack = As.reverse ++ rest) (hW : 2 * g.monitorRoom + (rest.map fun v => v.category).sum ≤ 8) (hdg : decode cc g.pc = .ok (.invokestatic index, 3)) (hf : cells + mc ≤ R.cells ∧ slots + ms ≤ R.slots) :
    va_Run p l e R s m args below meth c H locs cells slots mc ms g rest (Qc As.toArray) (free) := by
  obtain ⟨hx, hb, hml, ho, ht⟩ := S
  have hG : GoodIn kt_T ws := by rw [hw]; exact kt_G hcw
  have hK : Back l R p e below s args y 3 8 (PreOf R mc ms Pc) (PostOf Qc mc ms free) := va_backW (hh := hh) (bytes := bytes) (maxL := maxL) (ret := ret) hM hp.1 hrc hrs hR.1 hR.2 (pay_in ht hG) (by rw [hw]; exact List.mem_cons_self) (fun a' U hW => word_at hW (Or.inl (by first | rfl | simp [Cond.onTables, Cond.keeps, Cond.steady])) (ht _ hini))
  intro T hT X
  obtain ⟨mk, methM, cM, hnamed, hmethM, -, -, -, -, -, -, hsigM⟩ := Cond.codeWith_spec (ht _ hcw)
  have hstatic : methM.isStatic = true := Cond.static_spec hnamed hmethM (ht _ hst)
  obtain ⟨kP, hkP, -⟩ := className_of_methodNamed hnamed
  have hinitP : kP.init = .initialized := Cond.initialized_spec (findClass_of_methodNamed hnamed) hkP (ht _ hini)
  have hlen : As.length = methM.sig.parameters.length := by
    have h2 := hd.2.2
    rw [hsigM] at h2
    exact hn.trans (Option.some.inj h2).symm
  obtain ⟨vm₁, X₁, hstep₁⟩ := X.invokestatic hx ho (ht _ hlk) hnamed hmethM hstatic hkP hinitP ⟨hd.1, hd.2.1⟩ (g := g) hg (argsL := As) (rest := rest) hlen hstack (by rw [hb]; exact hdg)
  obtain ⟨v, ⟨U', l2, c2, s2⟩, X', ⟨g', mk', t, L, e1, e2, hq, h1, hL, h2, h3⟩, st⟩ := hK m meth c ⟨T.setVm vm₁, locs, cells, slots⟩ { g with stack := rest } (.invokestatic index) mk As.toArray X₁ hg (hsize.trans hml.symm) (by rw [hb]; exact hdg) hW (X₁.named hnamed) ⟨hf.1, hf.2, hp.2 (T.setVm vm₁) hT X₁.warmed⟩
  dsimp only [Pt.U, Pt.locs, Pt.cells, Pt.slots] at X' e1 e2 h1 h2 h3 st
  subst h1
  subst h2
  subst h3
  exact ⟨v, (T.setVm vm₁).calling g' mk' As.toArray, t, U', L, hT, X', hL, e1, e2, hq, fun target h => hstep₁ _ fun acts => by rw [doInvoke_state]; exact st.trans h⟩
/-- the only handler of a method that is told by 'codeWith' -/
theorem kz_tab {s₁ : State} {a b h t : Nat} (B : BodyLoose p l y (headSpec ws rm) cc maxL ret e s m args below meth c s₁) (hw : Cond.codeWith y cc maxL ret [(a, b, h, t)] ∈ ws) : c.exceptionTable.toList = [⟨a, b, h, t⟩] := by
  obtain ⟨m9, meth2, c2, g0, g1, g2, -, -, g7, -⟩ := Cond.codeWith_spec (atoms_spec (ws := ws) B.pre _ hw)
  cases g0.symm.trans B.named
  cases Option.some.inj (g1.symm.trans B.method)
  cases Option.some.inj (g2.symm.trans (Stand.of_body B).code)
  cases hx : c.exceptionTable.toList with
  | nil => rw [hx] at g7; cases g7
  | cons x xs =>
    rw [hx] at g7
    cases xs with
    | nil =>
      obtain ⟨x1, x2, x3, x4⟩ := x
      simp only [List.map_cons, List.map_nil, List.cons.injEq, Prod.mk.injEq, and_true] at g7
      obtain ⟨rfl, rfl, rfl, rfl⟩ := g7
      rfl
    | cons z zs => simp at g7
end KLW
theorem bl_MT {av : List Value} {D : va_G} {cl : List vw_C} {ws : va_W} {tys : List (ClassId × FieldType)} {sz : Nat} {AZ : Nat → Prop} {own tx : String} {k sa : Nat} : FrameBlind (va_Pc av (fun U => U.heap.size = sz ∧ va_P D cl ws U.heap ∧ va_K D cl tys U ∧ va_D (fun _ => True) ws ∧ kt_N2 U ∧ kt_Z AZ U U.heap ∧ vk_R own k tx sa U)) := fun a U g mk q => ⟨q.1, q.2.1, q.2.2.1, va_K.moved (u := U) (U := U.calling g mk a) (Vm.Alike.refl U.vm) q.2.2.2.1, q.2.2.2.2.1, kt_N2.same (s := U) (U := U.calling g mk a) rfl q.2.2.2.2.2.1, kt_Z.moved (u := U) (U := U.calling g mk a) (Vm.Alike.refl U.vm) q.2.2.2.2.2.2.1, vk_R.same (u := U) (U := U.calling g mk a) rfl q.2.2.2.2.2.2.2⟩
theorem bl_X {av : List Value} {b L : Nat} {xs : Nat → Int32} : FrameBlind (va_Pc av (fun U => va_X b L xs U U.heap ∧ b < U.heap.size)) := fun a U g mk q => ⟨q.1, va_X.moved (u := U) (U := U.calling g mk a) (Vm.Alike.refl U.vm) q.2.1, q.2.2⟩

def f_lw_cell (L : Nat) (xs : Nat → Int32) : Int32 := if Int32.ofNat L ≤ 0 then 0 else xs 0
set_option maxHeartbeats 4000000 in
set_option maxRecDepth 100000 in
theorem c_lw_cell (l : Launch) (b L : Nat) (xs : Nat → Int32) (hL : L < 2 ^ 31) : Met l y_lw_cell w_lw_cell ({ frames := 0, cells := 0, slots := 0, locals := 0 }) (va_Pc [.ref b, .int 0] (fun U => va_X b L xs U U.heap ∧ b < U.heap.size)) (vp_Si (fun z9 => z9 = f_lw_cell L xs)) 0 0 (fun _ => False) := by
  refine Met.ofW (cc := b_lw_cell) (maxL := 2) (ret := (some .int)) (by decide +kernel) rfl ?_
  intro p e s m args below meth c s₁ B hml hv
  obtain ⟨rfl, hX, hbl⟩ := hv
  have hx := B.exec
  have hb := B.bytes
  have hr := B.returns
  have hlocks := B.notSynchronized
  have hS : va_S (fun _ => False) s.heap s.heap [] := va_S.rf
  have hl := lv_entry ([.ref b, .int 0]) (n := 2) (Nat.le_of_ble_eq_true rfl)
  rw [lg_entry_eq]
  generalize (lg_sl ([.ref b, .int 0]) ++ List.replicate (2 - (lg_sl ([.ref b, .int 0])).length) Slot.unset).toArray = ls at hl ⊢
  have hl : lv_has ls 2 [(0, .ref b), (1, .int 0)] := hl
  refine lv_iload_n hx hb d_lw_cell_0 rfl (lv_at hl 1 rfl) ?_
  refine lv_aload_n hx hb d_lw_cell_1 rfl (lv_at hl 0 rfl) ?_
  refine va_slen hx hb hX hbl (fun h => h) hS d_lw_cell_2 ?_
  refine lv_icmp_ge (tgt := 12) hx hb d_lw_cell_3 (by decide) (fun c_1 => ?_) (fun c_1 => ?_)
  · refine lv_iconst (v := 0) hx hb d_lw_cell_12 (by decide) ?_
    exact W.iret (v := 0) hx hb hr (fun t ht hW => ⟨_, rfl, by unfold f_lw_cell; rw [if_pos c_1], ht⟩) t_nil d_lw_cell_13
  · refine lv_aload_n hx hb d_lw_cell_6 rfl (lv_at hl 0 rfl) ?_
    refine lv_iload_n hx hb d_lw_cell_7 rfl (lv_at hl 1 rfl) ?_
    have hL0 : 0 < L := Nat.pos_of_ne_zero (fun z => c_1 (by rw [z]; decide))
    refine va_sld hx hb hX hbl (fun h => h) hS (vp_in_nI (n := 0) hL0 hL) d_lw_cell_8 ?_
    refine lv_goto (tgt := 13) hx hb d_lw_cell_9 (by decide) ?_
    exact W.iret (v := xs 0) hx hb hr (fun t ht hW => ⟨_, rfl, by unfold f_lw_cell; rw [if_neg c_1], ht⟩) t_nil d_lw_cell_13
def f_lw_value (cnt : Int32) (fu : Nat → Int32) (fl : Nat → Int32) (fo : Nat → Int64) (a : Int64) (b : Int64) : Int32 × (Nat → Int32) × (Nat → Int32) × Int32 × (Nat → Int64) :=
  (0, (f_kr_value cnt fu fl a b).2.1, (f_kr_value cnt fu fl a b).2.2.1, (f_kr_value cnt fu fl a b).2.2.2, vp_updL fo 0 (((f_kr_value cnt fu fl a b).1).toInt64))
set_option maxHeartbeats 4000000 in
set_option maxRecDepth 100000 in
theorem c_lw_value (l : Launch) (dC : Nat → ClassId) (dI : Nat → Nat → Nat) (sz : Nat) (ak : Nat) (a0 : Nat) (a1 : Nat) (a2 : Nat) (ao : Nat) (kinds : Int32) (ac : Nat) (rowc : Int32) (a_s : Nat) (a_w : Nat) (cnt : Int32) (cU : ClassId) (fu : Nat → Int32) (cL : ClassId) (fl : Nat → Int32) (cO : ClassId) (fo : Nat → Int64) (a : Int64) (b : Int64) (hc : vp_in cnt 301) (hnt : ¬ b = 0) : Met l y_lw_value w_lw_value ({ frames := 3, cells := 0, slots := 0, locals := 84 }) (va_Pc [.ref ak, .long a, .long b, .ref ao] (fun U => U.heap.size = sz ∧ va_P (dC, dI) classes [(ak, .inr (0, [.int kinds, .ref ac, .int rowc, .ref a0, .ref a_s, .ref a_w])), (a0, .inr (1, [.ref a1, .ref a2, .int cnt])), (a1, .inl (cU, 300, .inl fu)), (a2, .inl (cL, 300, .inl fl)), (ao, .inl (cO, 1, .inr (.inl fo)))] U.heap ∧ va_K (dC, dI) classes [(cU, .int), (cL, .int), (cO, .long)] U ∧ va_D (fun _ => True) [(ak, .inr (0, [.int kinds, .ref ac, .int rowc, .ref a0, .ref a_s, .ref a_w])), (a0, .inr (1, [.ref a1, .ref a2, .int cnt])), (a1, .inl (cU, 300, .inl fu)), (a2, .inl (cL, 300, .inl fl)), (ao, .inl (cO, 1, .inr (.inl fo)))] ∧ kt_N U)) (va_Qi (fun z9 u9 => (z9, u9) = f_lw_value cnt fu fl fo a b) (fun (u : (Nat → Int32) × (Nat → Int32) × Int32 × (Nat → Int64)) t => match u with | (fu', fl', cnt', fo') => va_P (dC, dI) classes [(ak, .inr (0, [.int kinds, .ref ac, .int rowc, .ref a0, .ref a_s, .ref a_w])), (a0, .inr (1, [.ref a1, .ref a2, .int cnt'])), (a1, .inl (cU, 300, .inl fu')), (a2, .inl (cL, 300, .inl fl')), (ao, .inl (cO, 1, .inr (.inl fo')))] t.heap ∧ va_K (dC, dI) classes [(cU, .int), (cL, .int), (cO, .long)] t ∧ va_D (va_A [(ak, .inr (0, [.int kinds, .ref ac, .int rowc, .ref a0, .ref a_s, .ref a_w])), (a0, .inr (1, [.ref a1, .ref a2, .int cnt])), (a1, .inl (cU, 300, .inl fu)), (a2, .inl (cL, 300, .inl fl)), (ao, .inl (cO, 1, .inr (.inl fo)))] sz) [(ak, .inr (0, [.int kinds, .ref ac, .int rowc, .ref a0, .ref a_s, .ref a_w])), (a0, .inr (1, [.ref a1, .ref a2, .int cnt'])), (a1, .inl (cU, 300, .inl fu')), (a2, .inl (cL, 300, .inl fl')), (ao, .inl (cO, 1, .inr (.inl fo')))]) (va_A [(ak, .inr (0, [.int kinds, .ref ac, .int rowc, .ref a0, .ref a_s, .ref a_w])), (a0, .inr (1, [.ref a1, .ref a2, .int cnt])), (a1, .inl (cU, 300, .inl fu)), (a2, .inl (cL, 300, .inl fl)), (ao, .inl (cO, 1, .inr (.inl fo)))] sz)) 0 0 (va_A [(ak, .inr (0, [.int kinds, .ref ac, .int rowc, .ref a0, .ref a_s, .ref a_w])), (a0, .inr (1, [.ref a1, .ref a2, .int cnt])), (a1, .inl (cU, 300, .inl fu)), (a2, .inl (cL, 300, .inl fl)), (ao, .inl (cO, 1, .inr (.inl fo)))] sz) := by
  refine va_MetW (hh := [(0, 11, 14, 13)]) (cc := b_lw_value) (maxL := 7) (ret := (some .int)) (by decide +kernel) rfl ?_
  intro p e s m args below meth c s₁ B hml hv
  obtain ⟨rfl, hsz, hP, hK, hD0, hN⟩ := hv
  have hx := B.exec
  have hb := B.bytes
  have hr := B.returns
  have hts := atoms_spec (ws := w_lw_value) B.pre
  have hT := fun (w : Cond) (h : w ∈ kt_T) => hts w (List.mem_cons_of_mem _ h)
  have hown : s.vm.findClass R_law = some m.cls := findClass_of_methodNamed B.named
  have hlocks := B.notSynchronized
  subst hsz
  have hD := hD0.self (sz := s.heap.size)
  generalize hAe : va_A [(ak, .inr (0, [.int kinds, .ref ac, .int rowc, .ref a0, .ref a_s, .ref a_w])), (a0, .inr (1, [.ref a1, .ref a2, .int cnt])), (a1, .inl (cU, 300, .inl fu)), (a2, .inl (cL, 300, .inl fl)), (ao, .inl (cO, 1, .inr (.inl fo)))] s.heap.size = A at hD ⊢
  have hA : ∀ q : Nat, s.heap.size ≤ q → A q := fun q h => by rw [← hAe]; exact Or.inr h
  have hS : va_S A s.heap s.heap [] := va_S.rf
  have hl := lv_entry ([.ref ak, .long a, .long b, .ref ao]) (n := 7) (Nat.le_of_ble_eq_true rfl)
  rw [lg_entry_eq]
  generalize (lg_sl ([.ref ak, .long a, .long b, .ref ao]) ++ List.replicate (7 - (lg_sl ([.ref ak, .long a, .long b, .ref ao])).length) Slot.unset).toArray = ls at hl ⊢
  have hl : lv_has ls 7 [(0, .ref ak), (1, .long a), (3, .long b), (5, .ref ao)] := hl
  refine lv_aload hx hb d_lw_value_0 (lv_at hl 3 rfl) ?_
  refine lv_iconst (v := 0) hx hb d_lw_value_2 (by decide) ?_
  refine lv_aload_n hx hb d_lw_value_3 rfl (lv_at hl 0 rfl) ?_
  refine lv_lload_n hx hb d_lw_value_4 rfl (lv_at hl 1 rfl) ?_
  refine lv_lload_n hx hb d_lw_value_5 rfl (lv_at hl 2 rfl) ?_
  have hPc := hP.sub (ws' := [(ak, .inr (0, [.int kinds, .ref ac, .int rowc, .ref a0, .ref a_s, .ref a_w])), (a0, .inr (1, [.ref a1, .ref a2, .int cnt])), (a1, .inl (cU, 300, .inl fu)), (a2, .inl (cL, 300, .inl fl))]) [0, 1, 2, 3] rfl
  have hKc := hK.sub (tys' := [(cU, .int), (cL, .int)]) [0, 1] rfl
  have hDc := hD.sub (ws' := [(ak, .inr (0, [.int kinds, .ref ac, .int rowc, .ref a0, .ref a_s, .ref a_w])), (a0, .inr (1, [.ref a1, .ref a2, .int cnt])), (a1, .inl (cU, 300, .inl fu)), (a2, .inl (cL, 300, .inl fl))]) [0, 1, 2, 3] (by decide) rfl
  have hFc := va_free (wc := [(ak, .inr (0, [.int kinds, .ref ac, .int rowc, .ref a0, .ref a_s, .ref a_w])), (a0, .inr (1, [.ref a1, .ref a2, .int cnt])), (a1, .inl (cU, 300, .inl fu)), (a2, .inl (cL, 300, .inl fl))]) hD hS hA [0, 1, 2, 3] rfl
  refine va_calli (va_runV (As := [.long a, .long b]) (rest := [.int 0, .ref ao]) ⟨hx, hb, hml, hown, hT⟩ (c_kr_value l dC dI s.heap.size ak a0 a1 a2 kinds ac rowc a_s a_w cnt cU fu cL fl a b hc hnt) (cwV 2 hT (kt_V k_224 k_222 k_223 k_11 k_221) rfl rfl rfl (by decide +kernel) ⟨Nat.le_of_ble_eq_true rfl, Nat.le_of_ble_eq_true rfl⟩) ⟨bl_MN, va_recv hKc hPc (ci := 0) (q0 := 0) rfl rfl, fun U hU hW => ⟨rfl, by rw [hU], by rw [hU]; exact hPc, va_K.moved hW.alike hKc, hDc.weaken (fun _ _ _ _ => trivial), kt_N.warm hW hN⟩⟩ rfl rfl hl.1 rfl (lv_room (Nat.le_of_ble_eq_true rfl)) d_lw_value_6 ⟨Nat.zero_le _, Nat.zero_le _⟩) hS (fun q _ h => hFc q h) hFc (fun r_1 u t H1 locs ht hvm hw hB hz1 hk1 hS => ?_)
  obtain ⟨fu_1, fl_1, cnt_1⟩ := u
  obtain ⟨hP1, hK1, hD1⟩ := hB
  rw [ht] at hP1
  obtain ⟨hP, hD⟩ := va_join (wr := [(ao, .inl (cO, 1, .inr (.inl fo)))]) (w1 := [(ak, .inr (0, [.int kinds, .ref ac, .int rowc, .ref a0, .ref a_s, .ref a_w])), (a0, .inr (1, [.ref a1, .ref a2, .int cnt_1])), (a1, .inl (cU, 300, .inl fu_1)), (a2, .inl (cL, 300, .inl fl_1))]) hP hD [0, 1, 2, 3] [4] rfl rfl (by decide) (by decide) hk1 hFc hP1 hD1
  generalize H1 = H at hP hS ⊢
  have hP := hP.sub (ws' := [(ak, .inr (0, [.int kinds, .ref ac, .int rowc, .ref a0, .ref a_s, .ref a_w])), (a0, .inr (1, [.ref a1, .ref a2, .int cnt_1])), (a1, .inl (cU, 300, .inl fu_1)), (a2, .inl (cL, 300, .inl fl_1)), (ao, .inl (cO, 1, .inr (.inl fo)))]) [1, 2, 3, 4, 0] rfl
  have hD := hD.sub (ws' := [(ak, .inr (0, [.int kinds, .ref ac, .int rowc, .ref a0, .ref a_s, .ref a_w])), (a0, .inr (1, [.ref a1, .ref a2, .int cnt_1])), (a1, .inl (cU, 300, .inl fu_1)), (a2, .inl (cL, 300, .inl fl_1)), (ao, .inl (cO, 1, .inr (.inl fo)))]) [1, 2, 3, 4, 0] (by decide) rfl
  have e_r_1 : r_1 = (f_kr_value cnt fu fl a b).1 := congrArg (fun z => z.1) hw
  have e_fu_1 : fu_1 = (f_kr_value cnt fu fl a b).2.1 := congrArg (fun z => z.2.1) hw
  have e_fl_1 : fl_1 = (f_kr_value cnt fu fl a b).2.2.1 := congrArg (fun z => z.2.2.1) hw
  have e_cnt_1 : cnt_1 = (f_kr_value cnt fu fl a b).2.2.2 := congrArg (fun z => z.2.2.2) hw
  subst e_r_1 e_fu_1 e_fl_1 e_cnt_1
  clear hP1 hK1 hD1 hk1 hz1 hFc hDc hPc hKc
  refine lv_i2l (v := ((f_kr_value cnt fu fl a b).1).toInt64) hx hb d_lw_value_9 rfl ?_
  refine va_lastN (i := 0) hx hb hK hP hD hS 4 2 rfl rfl ⟨by decide, by decide⟩ d_lw_value_10 (fun H locs hP hD hS => ?_)
  have hP : va_P (dC, dI) classes [(ak, .inr (0, [.int kinds, .ref ac, .int rowc, .ref a0, .ref a_s, .ref a_w])), (a0, .inr (1, [.ref a1, .ref a2, .int ((f_kr_value cnt fu fl a b).2.2.2)])), (a1, .inl (cU, 300, .inl ((f_kr_value cnt fu fl a b).2.1))), (a2, .inl (cL, 300, .inl ((f_kr_value cnt fu fl a b).2.2.1))), (ao, .inl (cO, 1, .inr (.inl (vp_updL fo 0 (((f_kr_value cnt fu fl a b).1).toInt64)))))] H := hP
  have hD : va_D A [(ak, .inr (0, [.int kinds, .ref ac, .int rowc, .ref a0, .ref a_s, .ref a_w])), (a0, .inr (1, [.ref a1, .ref a2, .int ((f_kr_value cnt fu fl a b).2.2.2)])), (a1, .inl (cU, 300, .inl ((f_kr_value cnt fu fl a b).2.1))), (a2, .inl (cL, 300, .inl ((f_kr_value cnt fu fl a b).2.2.1))), (ao, .inl (cO, 1, .inr (.inl (vp_updL fo 0 (((f_kr_value cnt fu fl a b).1).toInt64)))))] := hD
  refine lv_goto (tgt := 18) hx hb d_lw_value_11 (by decide) ?_
  refine lv_iconst (v := 0) hx hb d_lw_value_18 (by decide) ?_
  exact W.iret (v := 0) hx hb hr (fun t ht hW => ⟨⟨0, ((f_kr_value cnt fu fl a b).2.1, (f_kr_value cnt fu fl a b).2.2.1, (f_kr_value cnt fu fl a b).2.2.2, vp_updL fo 0 (((f_kr_value cnt fu fl a b).1).toInt64)), rfl, rfl, by rw [ht]; exact hP, va_K.moved hW.alike hK, hD⟩, hS.F ht⟩) hS.2.2 d_lw_value_19
set_option maxHeartbeats 4000000 in
set_option maxRecDepth 100000 in
theorem c_lw_valueT (l : Launch) (hl9 : l.stackTraces = false) (dC : Nat → ClassId) (dI : Nat → Nat → Nat) (AZ : Nat → Prop) (sa sz : Nat) (ak : Nat) (a0 : Nat) (a1 : Nat) (a2 : Nat) (kinds : Int32) (ac : Nat) (rowc : Int32) (a_s : Nat) (a_w : Nat) (cnt : Int32) (cU : ClassId) (fu : Nat → Int32) (cL : ClassId) (fl : Nat → Int32) (a : Int64) (b : Int64) (ao : Nat) (ht : b = 0) : Met l y_lw_value w_lw_value ({ frames := 7, cells := 1, slots := 6, locals := 106 }) (va_Pc [.ref ak, .long a, .long b, .ref ao] (fun U => U.heap.size = sz ∧ va_P (dC, dI) classes [(ak, .inr (0, [.int kinds, .ref ac, .int rowc, .ref a0, .ref a_s, .ref a_w])), (a0, .inr (1, [.ref a1, .ref a2, .int cnt])), (a1, .inl (cU, 300, .inl fu)), (a2, .inl (cL, 300, .inl fl))] U.heap ∧ va_K (dC, dI) classes [(cU, .int), (cL, .int)] U ∧ va_D (fun _ => True) [(ak, .inr (0, [.int kinds, .ref ac, .int rowc, .ref a0, .ref a_s, .ref a_w])), (a0, .inr (1, [.ref a1, .ref a2, .int cnt])), (a1, .inl (cU, 300, .inl fu)), (a2, .inl (cL, 300, .inl fl))] ∧ kt_N2 U ∧ kt_Z AZ U U.heap ∧ vk_R R_kr 49 "the lower number is 0" sa U)) (va_Qi (fun z9 (_ : Unit) => z9 = 1) (fun _ t => va_P (dC, dI) classes [(ak, .inr (0, [.int kinds, .ref ac, .int rowc, .ref a0, .ref a_s, .ref a_w])), (a0, .inr (1, [.ref a1, .ref a2, .int cnt])), (a1, .inl (cU, 300, .inl fu)), (a2, .inl (cL, 300, .inl fl))] t.heap ∧ va_K (dC, dI) classes [(cU, .int), (cL, .int)] t ∧ va_D (va_A [(ak, .inr (0, [.int kinds, .ref ac, .int rowc, .ref a0, .ref a_s, .ref a_w])), (a0, .inr (1, [.ref a1, .ref a2, .int cnt])), (a1, .inl (cU, 300, .inl fu)), (a2, .inl (cL, 300, .inl fl))] sz) [(ak, .inr (0, [.int kinds, .ref ac, .int rowc, .ref a0, .ref a_s, .ref a_w])), (a0, .inr (1, [.ref a1, .ref a2, .int cnt])), (a1, .inl (cU, 300, .inl fu)), (a2, .inl (cL, 300, .inl fl))]) (va_A [(ak, .inr (0, [.int kinds, .ref ac, .int rowc, .ref a0, .ref a_s, .ref a_w])), (a0, .inr (1, [.ref a1, .ref a2, .int cnt])), (a1, .inl (cU, 300, .inl fu)), (a2, .inl (cL, 300, .inl fl))] sz)) 1 6 (va_A [(ak, .inr (0, [.int kinds, .ref ac, .int rowc, .ref a0, .ref a_s, .ref a_w])), (a0, .inr (1, [.ref a1, .ref a2, .int cnt])), (a1, .inl (cU, 300, .inl fu)), (a2, .inl (cL, 300, .inl fl))] sz) := by
  refine va_MetW (hh := [(0, 11, 14, 13)]) (cc := b_lw_value) (maxL := 7) (ret := (some .int)) (by decide +kernel) rfl ?_
  intro p e s m args below meth c s₁ B hml hv
  obtain ⟨rfl, hsz, hP, hK, hD0, hN2, hZ, hstr⟩ := hv
  have hx := B.exec
  have hb := B.bytes
  have hr := B.returns
  have hts := atoms_spec (ws := w_lw_value) B.pre
  have htab := kz_tab B List.mem_cons_self
  have hT := fun (w : Cond) (h : w ∈ kt_T) => hts w (List.mem_cons_of_mem _ h)
  have hown : s.vm.findClass R_law = some m.cls := findClass_of_methodNamed B.named
  have hlocks := B.notSynchronized
  subst hsz
  have hD := hD0.self (sz := s.heap.size)
  generalize hAe : va_A [(ak, .inr (0, [.int kinds, .ref ac, .int rowc, .ref a0, .ref a_s, .ref a_w])), (a0, .inr (1, [.ref a1, .ref a2, .int cnt])), (a1, .inl (cU, 300, .inl fu)), (a2, .inl (cL, 300, .inl fl))] s.heap.size = A at hD ⊢
  have hA : ∀ q : Nat, s.heap.size ≤ q → A q := fun q h => by rw [← hAe]; exact Or.inr h
  have hS : va_S A s.heap s.heap [] := va_S.rf
  have hl := lv_entry ([.ref ak, .long a, .long b, .ref ao]) (n := 7) (Nat.le_of_ble_eq_true rfl)
  rw [lg_entry_eq]
  generalize (lg_sl ([.ref ak, .long a, .long b, .ref ao]) ++ List.replicate (7 - (lg_sl ([.ref ak, .long a, .long b, .ref ao])).length) Slot.unset).toArray = ls at hl ⊢
  have hl : lv_has ls 7 [(0, .ref ak), (1, .long a), (3, .long b), (5, .ref ao)] := hl
  refine lv_aload hx hb d_lw_value_0 (lv_at hl 3 rfl) ?_
  refine lv_iconst (v := 0) hx hb d_lw_value_2 (by decide) ?_
  refine lv_aload_n hx hb d_lw_value_3 rfl (lv_at hl 0 rfl) ?_
  refine lv_lload_n hx hb d_lw_value_4 rfl (lv_at hl 1 rfl) ?_
  refine lv_lload_n hx hb d_lw_value_5 rfl (lv_at hl 2 rfl) ?_
  have hPc := hP.sub (ws' := [(ak, .inr (0, [.int kinds, .ref ac, .int rowc, .ref a0, .ref a_s, .ref a_w])), (a0, .inr (1, [.ref a1, .ref a2, .int cnt])), (a1, .inl (cU, 300, .inl fu)), (a2, .inl (cL, 300, .inl fl))]) [0, 1, 2, 3] rfl
  have hKc := hK.sub (tys' := [(cU, .int), (cL, .int)]) [0, 1] rfl
  refine kz_call (As := [.long a, .long b]) (rest := [.int 0, .ref ao]) (E := "java/lang/ArithmeticException") ⟨hx, hb, hml, hown, hT⟩ (c_kr_valueT l hl9 dC dI AZ sa ak a0 a1 a2 kinds ac rowc a_s a_w cnt cU fu cL fl a b ht) (cwV 2 hT (kt_V k_225 k_226 k_227 k_11 k_228) rfl rfl rfl (by decide +kernel) ⟨Nat.le_of_ble_eq_true rfl, Nat.le_of_ble_eq_true rfl⟩) ⟨bl_T, va_recv hKc hPc (ci := 0) (q0 := 0) rfl rfl, fun U hU hW => ⟨rfl, by rw [hU]; exact hPc, va_K.moved hW.alike hKc, kt_N2.warm hW hN2, by rw [hU]; exact kt_Z.moved hW.alike hZ, vk_R.warm hW hstr⟩⟩ rfl hl.1 (lv_room (Nat.le_of_ble_eq_true rfl)) d_lw_value_6 ⟨Nat.le_of_ble_eq_true rfl, Nat.le_of_ble_eq_true rfl⟩ htab (by decide) (by decide) (hT _ k_229) (hN2.use (by decide +kernel)) (fun q9 H hsz9 hkp9 => ?_)
  have hP := hP.kept (fun k x hx => hkp9 x.1 ((hP k x hx).lt))
  have hS : va_S A s.heap H [] := ⟨hsz9, fun q hq _ => hkp9 q hq, fun l hl => nomatch hl⟩
  refine lv_astore (lv' := [(6, .ref q9), (0, .ref ak), (1, .long a), (3, .long b), (5, .ref ao)]) hx hb d_lw_value_14 hl (by decide) rfl (fun ls hl => ?_)
  refine lv_iconst (v := 1) hx hb d_lw_value_16 (by decide) ?_
  refine W.widen (k := 1) (n := 6) (Nat.le_of_ble_eq_true rfl) (Nat.le_of_ble_eq_true rfl) ?_
  exact W.iret (v := 1) hx hb hr (fun t ht hW => ⟨⟨1, (), rfl, rfl, by rw [ht]; exact hP, va_K.moved hW.alike hK, hD⟩, hS.F ht⟩) hS.2.2 d_lw_value_17
def f_lw_part (cnt : Int32) (fu : Nat → Int32) (fl : Nat → Int32) (fo : Nat → Int64) (v : Int32) (q : Int32) : Int32 × (Nat → Int64) :=
  (0, vp_updL fo 0 ((f_kr_part cnt fu fl v q).toInt64))
set_option maxHeartbeats 4000000 in
set_option maxRecDepth 100000 in
theorem c_lw_part (l : Launch) (dC : Nat → ClassId) (dI : Nat → Nat → Nat) (sz : Nat) (ak : Nat) (a0 : Nat) (a1 : Nat) (a2 : Nat) (ao : Nat) (kinds : Int32) (ac : Nat) (rowc : Int32) (a_s : Nat) (a_w : Nat) (cnt : Int32) (cU : ClassId) (fu : Nat → Int32) (cL : ClassId) (fl : Nat → Int32) (cO : ClassId) (fo : Nat → Int64) (v : Int32) (q : Int32) (hc : vp_in cnt 301) (hnt : ¬ f_kv_has cnt v = 0 ∧ ¬ f_kr_isPart q = 0) : Met l y_lw_part w_lw_part ({ frames := 2, cells := 0, slots := 0, locals := 44 }) (va_Pc [.ref ak, .int v, .int q, .ref ao] (fun U => U.heap.size = sz ∧ va_P (dC, dI) classes [(ak, .inr (0, [.int kinds, .ref ac, .int rowc, .ref a0, .ref a_s, .ref a_w])), (a0, .inr (1, [.ref a1, .ref a2, .int cnt])), (a1, .inl (cU, 300, .inl fu)), (a2, .inl (cL, 300, .inl fl)), (ao, .inl (cO, 1, .inr (.inl fo)))] U.heap ∧ va_K (dC, dI) classes [(cU, .int), (cL, .int), (cO, .long)] U ∧ va_D (fun _ => True) [(ak, .inr (0, [.int kinds, .ref ac, .int rowc, .ref a0, .ref a_s, .ref a_w])), (a0, .inr (1, [.ref a1, .ref a2, .int cnt])), (a1, .inl (cU, 300, .inl fu)), (a2, .inl (cL, 300, .inl fl)), (ao, .inl (cO, 1, .inr (.inl fo)))])) (va_Qi (fun z9 u9 => (z9, u9) = f_lw_part cnt fu fl fo v q) (fun (u : (Nat → Int64)) t => match u with | fo' => va_P (dC, dI) classes [(ak, .inr (0, [.int kinds, .ref ac, .int rowc, .ref a0, .ref a_s, .ref a_w])), (a0, .inr (1, [.ref a1, .ref a2, .int cnt])), (a1, .inl (cU, 300, .inl fu)), (a2, .inl (cL, 300, .inl fl)), (ao, .inl (cO, 1, .inr (.inl fo')))] t.heap ∧ va_K (dC, dI) classes [(cU, .int), (cL, .int), (cO, .long)] t ∧ va_D (va_A [(ak, .inr (0, [.int kinds, .ref ac, .int rowc, .ref a0, .ref a_s, .ref a_w])), (a0, .inr (1, [.ref a1, .ref a2, .int cnt])), (a1, .inl (cU, 300, .inl fu)), (a2, .inl (cL, 300, .inl fl)), (ao, .inl (cO, 1, .inr (.inl fo)))] sz) [(ak, .inr (0, [.int kinds, .ref ac, .int rowc, .ref a0, .ref a_s, .ref a_w])), (a0, .inr (1, [.ref a1, .ref a2, .int cnt])), (a1, .inl (cU, 300, .inl fu)), (a2, .inl (cL, 300, .inl fl)), (ao, .inl (cO, 1, .inr (.inl fo')))]) (va_A [(ak, .inr (0, [.int kinds, .ref ac, .int rowc, .ref a0, .ref a_s, .ref a_w])), (a0, .inr (1, [.ref a1, .ref a2, .int cnt])), (a1, .inl (cU, 300, .inl fu)), (a2, .inl (cL, 300, .inl fl)), (ao, .inl (cO, 1, .inr (.inl fo)))] sz)) 0 0 (va_A [(ak, .inr (0, [.int kinds, .ref ac, .int rowc, .ref a0, .ref a_s, .ref a_w])), (a0, .inr (1, [.ref a1, .ref a2, .int cnt])), (a1, .inl (cU, 300, .inl fu)), (a2, .inl (cL, 300, .inl fl)), (ao, .inl (cO, 1, .inr (.inl fo)))] sz) := by
  refine va_MetW (hh := [(0, 10, 13, 19)]) (cc := b_lw_part) (maxL := 5) (ret := (some .int)) (by decide +kernel) rfl ?_
  intro p e s m args below meth c s₁ B hml hv
  obtain ⟨rfl, hsz, hP, hK, hD0⟩ := hv
  have hx := B.exec
  have hb := B.bytes
  have hr := B.returns
  have hts := atoms_spec (ws := w_lw_part) B.pre
  have hT := fun (w : Cond) (h : w ∈ kt_T) => hts w (List.mem_cons_of_mem _ h)
  have hown : s.vm.findClass R_law = some m.cls := findClass_of_methodNamed B.named
  have hlocks := B.notSynchronized
  subst hsz
  have hD := hD0.self (sz := s.heap.size)
  generalize hAe : va_A [(ak, .inr (0, [.int kinds, .ref ac, .int rowc, .ref a0, .ref a_s, .ref a_w])), (a0, .inr (1, [.ref a1, .ref a2, .int cnt])), (a1, .inl (cU, 300, .inl fu)), (a2, .inl (cL, 300, .inl fl)), (ao, .inl (cO, 1, .inr (.inl fo)))] s.heap.size = A at hD ⊢
  have hA : ∀ q : Nat, s.heap.size ≤ q → A q := fun q h => by rw [← hAe]; exact Or.inr h
  have hS : va_S A s.heap s.heap [] := va_S.rf
  have hl := lv_entry ([.ref ak, .int v, .int q, .ref ao]) (n := 5) (Nat.le_of_ble_eq_true rfl)
  rw [lg_entry_eq]
  generalize (lg_sl ([.ref ak, .int v, .int q, .ref ao]) ++ List.replicate (5 - (lg_sl ([.ref ak, .int v, .int q, .ref ao])).length) Slot.unset).toArray = ls at hl ⊢
  have hl : lv_has ls 5 [(0, .ref ak), (1, .int v), (2, .int q), (3, .ref ao)] := hl
  refine lv_aload_n hx hb d_lw_part_0 rfl (lv_at hl 3 rfl) ?_
  refine lv_iconst (v := 0) hx hb d_lw_part_1 (by decide) ?_
  refine lv_aload_n hx hb d_lw_part_2 rfl (lv_at hl 0 rfl) ?_
  refine lv_iload_n hx hb d_lw_part_3 rfl (lv_at hl 1 rfl) ?_
  refine lv_iload_n hx hb d_lw_part_4 rfl (lv_at hl 2 rfl) ?_
  have hPc := hP.sub (ws' := [(ak, .inr (0, [.int kinds, .ref ac, .int rowc, .ref a0, .ref a_s, .ref a_w])), (a0, .inr (1, [.ref a1, .ref a2, .int cnt])), (a1, .inl (cU, 300, .inl fu)), (a2, .inl (cL, 300, .inl fl))]) [0, 1, 2, 3] rfl
  have hKc := hK.sub (tys' := [(cU, .int), (cL, .int)]) [0, 1] rfl
  refine vp_callSi (W.runV (As := [.int v, .int q]) (rest := [.int 0, .ref ao]) ⟨hx, hb, hml, hown, hT⟩ (c_kr_part l dC dI ak a0 a1 a2 kinds ac rowc a_s a_w cnt cU fu cL fl v q hc hnt) (cwV 2 hT (kt_V k_233 k_231 k_232 k_11 k_230) rfl rfl rfl (by decide +kernel) ⟨Nat.le_of_ble_eq_true rfl, Nat.le_of_ble_eq_true rfl⟩) ⟨bl_R, va_recv hKc hPc (ci := 0) (q0 := 0) rfl rfl, fun U hU hW => ⟨rfl, by rw [hU]; exact hPc, va_K.moved hW.alike hKc⟩⟩ rfl rfl hl.1 rfl (lv_room (Nat.le_of_ble_eq_true rfl)) d_lw_part_5 ⟨Nat.zero_le _, Nat.zero_le _⟩) (fun r_1 e_r_1 => ?_)
  subst e_r_1
  refine lv_i2l (v := (f_kr_part cnt fu fl v q).toInt64) hx hb d_lw_part_8 rfl ?_
  refine va_lastN (i := 0) hx hb hK hP hD hS 4 2 rfl rfl ⟨by decide, by decide⟩ d_lw_part_9 (fun H locs hP hD hS => ?_)
  have hP : va_P (dC, dI) classes [(ak, .inr (0, [.int kinds, .ref ac, .int rowc, .ref a0, .ref a_s, .ref a_w])), (a0, .inr (1, [.ref a1, .ref a2, .int cnt])), (a1, .inl (cU, 300, .inl fu)), (a2, .inl (cL, 300, .inl fl)), (ao, .inl (cO, 1, .inr (.inl (vp_updL fo 0 ((f_kr_part cnt fu fl v q).toInt64)))))] H := hP
  have hD : va_D A [(ak, .inr (0, [.int kinds, .ref ac, .int rowc, .ref a0, .ref a_s, .ref a_w])), (a0, .inr (1, [.ref a1, .ref a2, .int cnt])), (a1, .inl (cU, 300, .inl fu)), (a2, .inl (cL, 300, .inl fl)), (ao, .inl (cO, 1, .inr (.inl (vp_updL fo 0 ((f_kr_part cnt fu fl v q).toInt64)))))] := hD
  refine lv_goto (tgt := 17) hx hb d_lw_part_10 (by decide) ?_
  refine lv_iconst (v := 0) hx hb d_lw_part_17 (by decide) ?_
  exact W.iret (v := 0) hx hb hr (fun t ht hW => ⟨⟨0, vp_updL fo 0 ((f_kr_part cnt fu fl v q).toInt64), rfl, rfl, by rw [ht]; exact hP, va_K.moved hW.alike hK, hD⟩, hS.F ht⟩) hS.2.2 d_lw_part_18
set_option maxHeartbeats 4000000 in
set_option maxRecDepth 100000 in
theorem c_lw_partT (l : Launch) (hl9 : l.stackTraces = false) (dC : Nat → ClassId) (dI : Nat → Nat → Nat) (AZ : Nat → Prop) (sa sz : Nat) (ak : Nat) (a0 : Nat) (a1 : Nat) (a2 : Nat) (kinds : Int32) (ac : Nat) (rowc : Int32) (a_s : Nat) (a_w : Nat) (cnt : Int32) (cU : ClassId) (fu : Nat → Int32) (cL : ClassId) (fl : Nat → Int32) (v : Int32) (q : Int32) (ao : Nat) (hc : vp_in cnt 301) (ht : f_kv_has cnt v = 0 ∨ f_kr_isPart q = 0) : Met l y_lw_part w_lw_part ({ frames := 7, cells := 1, slots := 6, locals := 104 }) (va_Pc [.ref ak, .int v, .int q, .ref ao] (fun U => U.heap.size = sz ∧ va_P (dC, dI) classes [(ak, .inr (0, [.int kinds, .ref ac, .int rowc, .ref a0, .ref a_s, .ref a_w])), (a0, .inr (1, [.ref a1, .ref a2, .int cnt])), (a1, .inl (cU, 300, .inl fu)), (a2, .inl (cL, 300, .inl fl))] U.heap ∧ va_K (dC, dI) classes [(cU, .int), (cL, .int)] U ∧ va_D (fun _ => True) [(ak, .inr (0, [.int kinds, .ref ac, .int rowc, .ref a0, .ref a_s, .ref a_w])), (a0, .inr (1, [.ref a1, .ref a2, .int cnt])), (a1, .inl (cU, 300, .inl fu)), (a2, .inl (cL, 300, .inl fl))] ∧ kt_N2 U ∧ kt_Z AZ U U.heap ∧ vk_R R_kr 67 "no such value or part" sa U)) (va_Qi (fun z9 (_ : Unit) => z9 = 1) (fun _ t => va_P (dC, dI) classes [(ak, .inr (0, [.int kinds, .ref ac, .int rowc, .ref a0, .ref a_s, .ref a_w])), (a0, .inr (1, [.ref a1, .ref a2, .int cnt])), (a1, .inl (cU, 300, .inl fu)), (a2, .inl (cL, 300, .inl fl))] t.heap ∧ va_K (dC, dI) classes [(cU, .int), (cL, .int)] t ∧ va_D (va_A [(ak, .inr (0, [.int kinds, .ref ac, .int rowc, .ref a0, .ref a_s, .ref a_w])), (a0, .inr (1, [.ref a1, .ref a2, .int cnt])), (a1, .inl (cU, 300, .inl fu)), (a2, .inl (cL, 300, .inl fl))] sz) [(ak, .inr (0, [.int kinds, .ref ac, .int rowc, .ref a0, .ref a_s, .ref a_w])), (a0, .inr (1, [.ref a1, .ref a2, .int cnt])), (a1, .inl (cU, 300, .inl fu)), (a2, .inl (cL, 300, .inl fl))]) (va_A [(ak, .inr (0, [.int kinds, .ref ac, .int rowc, .ref a0, .ref a_s, .ref a_w])), (a0, .inr (1, [.ref a1, .ref a2, .int cnt])), (a1, .inl (cU, 300, .inl fu)), (a2, .inl (cL, 300, .inl fl))] sz)) 1 6 (va_A [(ak, .inr (0, [.int kinds, .ref ac, .int rowc, .ref a0, .ref a_s, .ref a_w])), (a0, .inr (1, [.ref a1, .ref a2, .int cnt])), (a1, .inl (cU, 300, .inl fu)), (a2, .inl (cL, 300, .inl fl))] sz) := by
  refine va_MetW (hh := [(0, 10, 13, 19)]) (cc := b_lw_part) (maxL := 5) (ret := (some .int)) (by decide +kernel) rfl ?_
  intro p e s m args below meth c s₁ B hml hv
  obtain ⟨rfl, hsz, hP, hK, hD0, hN2, hZ, hstr⟩ := hv
  have hx := B.exec
  have hb := B.bytes
  have hr := B.returns
  have hts := atoms_spec (ws := w_lw_part) B.pre
  have htab := kz_tab B List.mem_cons_self
  have hT := fun (w : Cond) (h : w ∈ kt_T) => hts w (List.mem_cons_of_mem _ h)
  have hown : s.vm.findClass R_law = some m.cls := findClass_of_methodNamed B.named
  have hlocks := B.notSynchronized
  subst hsz
  have hD := hD0.self (sz := s.heap.size)
  generalize hAe : va_A [(ak, .inr (0, [.int kinds, .ref ac, .int rowc, .ref a0, .ref a_s, .ref a_w])), (a0, .inr (1, [.ref a1, .ref a2, .int cnt])), (a1, .inl (cU, 300, .inl fu)), (a2, .inl (cL, 300, .inl fl))] s.heap.size = A at hD ⊢
  have hA : ∀ q : Nat, s.heap.size ≤ q → A q := fun q h => by rw [← hAe]; exact Or.inr h
  have hS : va_S A s.heap s.heap [] := va_S.rf
  have hl := lv_entry ([.ref ak, .int v, .int q, .ref ao]) (n := 5) (Nat.le_of_ble_eq_true rfl)
  rw [lg_entry_eq]
  generalize (lg_sl ([.ref ak, .int v, .int q, .ref ao]) ++ List.replicate (5 - (lg_sl ([.ref ak, .int v, .int q, .ref ao])).length) Slot.unset).toArray = ls at hl ⊢
  have hl : lv_has ls 5 [(0, .ref ak), (1, .int v), (2, .int q), (3, .ref ao)] := hl
  refine lv_aload_n hx hb d_lw_part_0 rfl (lv_at hl 3 rfl) ?_
  refine lv_iconst (v := 0) hx hb d_lw_part_1 (by decide) ?_
  refine lv_aload_n hx hb d_lw_part_2 rfl (lv_at hl 0 rfl) ?_
  refine lv_iload_n hx hb d_lw_part_3 rfl (lv_at hl 1 rfl) ?_
  refine lv_iload_n hx hb d_lw_part_4 rfl (lv_at hl 2 rfl) ?_
  have hPc := hP.sub (ws' := [(ak, .inr (0, [.int kinds, .ref ac, .int rowc, .ref a0, .ref a_s, .ref a_w])), (a0, .inr (1, [.ref a1, .ref a2, .int cnt])), (a1, .inl (cU, 300, .inl fu)), (a2, .inl (cL, 300, .inl fl))]) [0, 1, 2, 3] rfl
  have hKc := hK.sub (tys' := [(cU, .int), (cL, .int)]) [0, 1] rfl
  refine kz_call (As := [.int v, .int q]) (rest := [.int 0, .ref ao]) (E := "java/lang/IndexOutOfBoundsException") ⟨hx, hb, hml, hown, hT⟩ (c_kr_partT l hl9 dC dI AZ sa ak a0 a1 a2 kinds ac rowc a_s a_w cnt cU fu cL fl v q hc ht) (cwV 2 hT (kt_V k_234 k_235 k_236 k_11 k_237) rfl rfl rfl (by decide +kernel) ⟨Nat.le_of_ble_eq_true rfl, Nat.le_of_ble_eq_true rfl⟩) ⟨bl_T, va_recv hKc hPc (ci := 0) (q0 := 0) rfl rfl, fun U hU hW => ⟨rfl, by rw [hU]; exact hPc, va_K.moved hW.alike hKc, kt_N2.warm hW hN2, by rw [hU]; exact kt_Z.moved hW.alike hZ, vk_R.warm hW hstr⟩⟩ rfl hl.1 (lv_room (Nat.le_of_ble_eq_true rfl)) d_lw_part_5 ⟨Nat.le_of_ble_eq_true rfl, Nat.le_of_ble_eq_true rfl⟩ htab (by decide) (by decide) (hT _ k_238) (hN2.use (by decide +kernel)) (fun q9 H hsz9 hkp9 => ?_)
  have hP := hP.kept (fun k x hx => hkp9 x.1 ((hP k x hx).lt))
  have hS : va_S A s.heap H [] := ⟨hsz9, fun q hq _ => hkp9 q hq, fun l hl => nomatch hl⟩
  refine lv_astore (lv' := [(4, .ref q9), (0, .ref ak), (1, .int v), (2, .int q), (3, .ref ao)]) hx hb d_lw_part_13 hl (by decide) rfl (fun ls hl => ?_)
  refine lv_iconst (v := 1) hx hb d_lw_part_15 (by decide) ?_
  refine W.widen (k := 1) (n := 6) (Nat.le_of_ble_eq_true rfl) (Nat.le_of_ble_eq_true rfl) ?_
  exact W.iret (v := 1) hx hb hr (fun t ht hW => ⟨⟨1, (), rfl, rfl, by rw [ht]; exact hP, va_K.moved hW.alike hK, hD⟩, hS.F ht⟩) hS.2.2 d_lw_part_16
def f_lw_over (cnt : Int32) (fu : Nat → Int32) (fl : Nat → Int32) (fo : Nat → Int64) (a : Int32) (b : Int32) : Int32 × (Nat → Int32) × (Nat → Int32) × Int32 × (Nat → Int64) :=
  (0, (f_kr_over cnt fu fl a b).2.1, (f_kr_over cnt fu fl a b).2.2.1, (f_kr_over cnt fu fl a b).2.2.2, vp_updL fo 0 (((f_kr_over cnt fu fl a b).1).toInt64))
set_option maxHeartbeats 4000000 in
set_option maxRecDepth 100000 in
theorem c_lw_over (l : Launch) (dC : Nat → ClassId) (dI : Nat → Nat → Nat) (sz : Nat) (ak : Nat) (a0 : Nat) (a1 : Nat) (a2 : Nat) (ao : Nat) (kinds : Int32) (ac : Nat) (rowc : Int32) (a_s : Nat) (a_w : Nat) (cnt : Int32) (cU : ClassId) (fu : Nat → Int32) (cL : ClassId) (fl : Nat → Int32) (cO : ClassId) (fo : Nat → Int64) (a : Int32) (b : Int32) (hc : vp_in cnt 301) (hnt : f_kv_has cnt b = 0 ∨ ¬ f_kv_upper fu b = 0) : Met l y_lw_over w_lw_over ({ frames := 3, cells := 0, slots := 0, locals := 82 }) (va_Pc [.ref ak, .int a, .int b, .ref ao] (fun U => U.heap.size = sz ∧ va_P (dC, dI) classes [(ak, .inr (0, [.int kinds, .ref ac, .int rowc, .ref a0, .ref a_s, .ref a_w])), (a0, .inr (1, [.ref a1, .ref a2, .int cnt])), (a1, .inl (cU, 300, .inl fu)), (a2, .inl (cL, 300, .inl fl)), (ao, .inl (cO, 1, .inr (.inl fo)))] U.heap ∧ va_K (dC, dI) classes [(cU, .int), (cL, .int), (cO, .long)] U ∧ va_D (fun _ => True) [(ak, .inr (0, [.int kinds, .ref ac, .int rowc, .ref a0, .ref a_s, .ref a_w])), (a0, .inr (1, [.ref a1, .ref a2, .int cnt])), (a1, .inl (cU, 300, .inl fu)), (a2, .inl (cL, 300, .inl fl)), (ao, .inl (cO, 1, .inr (.inl fo)))] ∧ kt_N U)) (va_Qi (fun z9 u9 => (z9, u9) = f_lw_over cnt fu fl fo a b) (fun (u : (Nat → Int32) × (Nat → Int32) × Int32 × (Nat → Int64)) t => match u with | (fu', fl', cnt', fo') => va_P (dC, dI) classes [(ak, .inr (0, [.int kinds, .ref ac, .int rowc, .ref a0, .ref a_s, .ref a_w])), (a0, .inr (1, [.ref a1, .ref a2, .int cnt'])), (a1, .inl (cU, 300, .inl fu')), (a2, .inl (cL, 300, .inl fl')), (ao, .inl (cO, 1, .inr (.inl fo')))] t.heap ∧ va_K (dC, dI) classes [(cU, .int), (cL, .int), (cO, .long)] t ∧ va_D (va_A [(ak, .inr (0, [.int kinds, .ref ac, .int rowc, .ref a0, .ref a_s, .ref a_w])), (a0, .inr (1, [.ref a1, .ref a2, .int cnt])), (a1, .inl (cU, 300, .inl fu)), (a2, .inl (cL, 300, .inl fl)), (ao, .inl (cO, 1, .inr (.inl fo)))] sz) [(ak, .inr (0, [.int kinds, .ref ac, .int rowc, .ref a0, .ref a_s, .ref a_w])), (a0, .inr (1, [.ref a1, .ref a2, .int cnt'])), (a1, .inl (cU, 300, .inl fu')), (a2, .inl (cL, 300, .inl fl')), (ao, .inl (cO, 1, .inr (.inl fo')))]) (va_A [(ak, .inr (0, [.int kinds, .ref ac, .int rowc, .ref a0, .ref a_s, .ref a_w])), (a0, .inr (1, [.ref a1, .ref a2, .int cnt])), (a1, .inl (cU, 300, .inl fu)), (a2, .inl (cL, 300, .inl fl)), (ao, .inl (cO, 1, .inr (.inl fo)))] sz)) 0 0 (va_A [(ak, .inr (0, [.int kinds, .ref ac, .int rowc, .ref a0, .ref a_s, .ref a_w])), (a0, .inr (1, [.ref a1, .ref a2, .int cnt])), (a1, .inl (cU, 300, .inl fu)), (a2, .inl (cL, 300, .inl fl)), (ao, .inl (cO, 1, .inr (.inl fo)))] sz) := by
  refine va_MetW (hh := [(0, 10, 13, 13)]) (cc := b_lw_over) (maxL := 5) (ret := (some .int)) (by decide +kernel) rfl ?_
  intro p e s m args below meth c s₁ B hml hv
  obtain ⟨rfl, hsz, hP, hK, hD0, hN⟩ := hv
  have hx := B.exec
  have hb := B.bytes
  have hr := B.returns
  have hts := atoms_spec (ws := w_lw_over) B.pre
  have hT := fun (w : Cond) (h : w ∈ kt_T) => hts w (List.mem_cons_of_mem _ h)
  have hown : s.vm.findClass R_law = some m.cls := findClass_of_methodNamed B.named
  have hlocks := B.notSynchronized
  subst hsz
  have hD := hD0.self (sz := s.heap.size)
  generalize hAe : va_A [(ak, .inr (0, [.int kinds, .ref ac, .int rowc, .ref a0, .ref a_s, .ref a_w])), (a0, .inr (1, [.ref a1, .ref a2, .int cnt])), (a1, .inl (cU, 300, .inl fu)), (a2, .inl (cL, 300, .inl fl)), (ao, .inl (cO, 1, .inr (.inl fo)))] s.heap.size = A at hD ⊢
  have hA : ∀ q : Nat, s.heap.size ≤ q → A q := fun q h => by rw [← hAe]; exact Or.inr h
  have hS : va_S A s.heap s.heap [] := va_S.rf
  have hl := lv_entry ([.ref ak, .int a, .int b, .ref ao]) (n := 5) (Nat.le_of_ble_eq_true rfl)
  rw [lg_entry_eq]
  generalize (lg_sl ([.ref ak, .int a, .int b, .ref ao]) ++ List.replicate (5 - (lg_sl ([.ref ak, .int a, .int b, .ref ao])).length) Slot.unset).toArray = ls at hl ⊢
  have hl : lv_has ls 5 [(0, .ref ak), (1, .int a), (2, .int b), (3, .ref ao)] := hl
  refine lv_aload_n hx hb d_lw_over_0 rfl (lv_at hl 3 rfl) ?_
  refine lv_iconst (v := 0) hx hb d_lw_over_1 (by decide) ?_
  refine lv_aload_n hx hb d_lw_over_2 rfl (lv_at hl 0 rfl) ?_
  refine lv_iload_n hx hb d_lw_over_3 rfl (lv_at hl 1 rfl) ?_
  refine lv_iload_n hx hb d_lw_over_4 rfl (lv_at hl 2 rfl) ?_
  have hPc := hP.sub (ws' := [(ak, .inr (0, [.int kinds, .ref ac, .int rowc, .ref a0, .ref a_s, .ref a_w])), (a0, .inr (1, [.ref a1, .ref a2, .int cnt])), (a1, .inl (cU, 300, .inl fu)), (a2, .inl (cL, 300, .inl fl))]) [0, 1, 2, 3] rfl
  have hKc := hK.sub (tys' := [(cU, .int), (cL, .int)]) [0, 1] rfl
  have hDc := hD.sub (ws' := [(ak, .inr (0, [.int kinds, .ref ac, .int rowc, .ref a0, .ref a_s, .ref a_w])), (a0, .inr (1, [.ref a1, .ref a2, .int cnt])), (a1, .inl (cU, 300, .inl fu)), (a2, .inl (cL, 300, .inl fl))]) [0, 1, 2, 3] (by decide) rfl
  have hFc := va_free (wc := [(ak, .inr (0, [.int kinds, .ref ac, .int rowc, .ref a0, .ref a_s, .ref a_w])), (a0, .inr (1, [.ref a1, .ref a2, .int cnt])), (a1, .inl (cU, 300, .inl fu)), (a2, .inl (cL, 300, .inl fl))]) hD hS hA [0, 1, 2, 3] rfl
  refine va_calli (va_runV (As := [.int a, .int b]) (rest := [.int 0, .ref ao]) ⟨hx, hb, hml, hown, hT⟩ (c_kr_over l dC dI s.heap.size ak a0 a1 a2 kinds ac rowc a_s a_w cnt cU fu cL fl a b hc hnt) (cwV 2 hT (kt_V k_242 k_240 k_241 k_11 k_239) rfl rfl rfl (by decide +kernel) ⟨Nat.le_of_ble_eq_true rfl, Nat.le_of_ble_eq_true rfl⟩) ⟨bl_MN, va_recv hKc hPc (ci := 0) (q0 := 0) rfl rfl, fun U hU hW => ⟨rfl, by rw [hU], by rw [hU]; exact hPc, va_K.moved hW.alike hKc, hDc.weaken (fun _ _ _ _ => trivial), kt_N.warm hW hN⟩⟩ rfl rfl hl.1 rfl (lv_room (Nat.le_of_ble_eq_true rfl)) d_lw_over_5 ⟨Nat.zero_le _, Nat.zero_le _⟩) hS (fun q _ h => hFc q h) hFc (fun r_1 u t H1 locs ht hvm hw hB hz1 hk1 hS => ?_)
  obtain ⟨fu_1, fl_1, cnt_1⟩ := u
  obtain ⟨hP1, hK1, hD1⟩ := hB
  rw [ht] at hP1
  obtain ⟨hP, hD⟩ := va_join (wr := [(ao, .inl (cO, 1, .inr (.inl fo)))]) (w1 := [(ak, .inr (0, [.int kinds, .ref ac, .int rowc, .ref a0, .ref a_s, .ref a_w])), (a0, .inr (1, [.ref a1, .ref a2, .int cnt_1])), (a1, .inl (cU, 300, .inl fu_1)), (a2, .inl (cL, 300, .inl fl_1))]) hP hD [0, 1, 2, 3] [4] rfl rfl (by decide) (by decide) hk1 hFc hP1 hD1
  generalize H1 = H at hP hS ⊢
  have hP := hP.sub (ws' := [(ak, .inr (0, [.int kinds, .ref ac, .int rowc, .ref a0, .ref a_s, .ref a_w])), (a0, .inr (1, [.ref a1, .ref a2, .int cnt_1])), (a1, .inl (cU, 300, .inl fu_1)), (a2, .inl (cL, 300, .inl fl_1)), (ao, .inl (cO, 1, .inr (.inl fo)))]) [1, 2, 3, 4, 0] rfl
  have hD := hD.sub (ws' := [(ak, .inr (0, [.int kinds, .ref ac, .int rowc, .ref a0, .ref a_s, .ref a_w])), (a0, .inr (1, [.ref a1, .ref a2, .int cnt_1])), (a1, .inl (cU, 300, .inl fu_1)), (a2, .inl (cL, 300, .inl fl_1)), (ao, .inl (cO, 1, .inr (.inl fo)))]) [1, 2, 3, 4, 0] (by decide) rfl
  have e_r_1 : r_1 = (f_kr_over cnt fu fl a b).1 := congrArg (fun z => z.1) hw
  have e_fu_1 : fu_1 = (f_kr_over cnt fu fl a b).2.1 := congrArg (fun z => z.2.1) hw
  have e_fl_1 : fl_1 = (f_kr_over cnt fu fl a b).2.2.1 := congrArg (fun z => z.2.2.1) hw
  have e_cnt_1 : cnt_1 = (f_kr_over cnt fu fl a b).2.2.2 := congrArg (fun z => z.2.2.2) hw
  subst e_r_1 e_fu_1 e_fl_1 e_cnt_1
  clear hP1 hK1 hD1 hk1 hz1 hFc hDc hPc hKc
  refine lv_i2l (v := ((f_kr_over cnt fu fl a b).1).toInt64) hx hb d_lw_over_8 rfl ?_
  refine va_lastN (i := 0) hx hb hK hP hD hS 4 2 rfl rfl ⟨by decide, by decide⟩ d_lw_over_9 (fun H locs hP hD hS => ?_)
  have hP : va_P (dC, dI) classes [(ak, .inr (0, [.int kinds, .ref ac, .int rowc, .ref a0, .ref a_s, .ref a_w])), (a0, .inr (1, [.ref a1, .ref a2, .int ((f_kr_over cnt fu fl a b).2.2.2)])), (a1, .inl (cU, 300, .inl ((f_kr_over cnt fu fl a b).2.1))), (a2, .inl (cL, 300, .inl ((f_kr_over cnt fu fl a b).2.2.1))), (ao, .inl (cO, 1, .inr (.inl (vp_updL fo 0 (((f_kr_over cnt fu fl a b).1).toInt64)))))] H := hP
  have hD : va_D A [(ak, .inr (0, [.int kinds, .ref ac, .int rowc, .ref a0, .ref a_s, .ref a_w])), (a0, .inr (1, [.ref a1, .ref a2, .int ((f_kr_over cnt fu fl a b).2.2.2)])), (a1, .inl (cU, 300, .inl ((f_kr_over cnt fu fl a b).2.1))), (a2, .inl (cL, 300, .inl ((f_kr_over cnt fu fl a b).2.2.1))), (ao, .inl (cO, 1, .inr (.inl (vp_updL fo 0 (((f_kr_over cnt fu fl a b).1).toInt64)))))] := hD
  refine lv_goto (tgt := 17) hx hb d_lw_over_10 (by decide) ?_
  refine lv_iconst (v := 0) hx hb d_lw_over_17 (by decide) ?_
  exact W.iret (v := 0) hx hb hr (fun t ht hW => ⟨⟨0, ((f_kr_over cnt fu fl a b).2.1, (f_kr_over cnt fu fl a b).2.2.1, (f_kr_over cnt fu fl a b).2.2.2, vp_updL fo 0 (((f_kr_over cnt fu fl a b).1).toInt64)), rfl, rfl, by rw [ht]; exact hP, va_K.moved hW.alike hK, hD⟩, hS.F ht⟩) hS.2.2 d_lw_over_18
set_option maxHeartbeats 4000000 in
set_option maxRecDepth 100000 in
theorem c_lw_overT (l : Launch) (hl9 : l.stackTraces = false) (dC : Nat → ClassId) (dI : Nat → Nat → Nat) (AZ : Nat → Prop) (sa sz : Nat) (ak : Nat) (a0 : Nat) (a1 : Nat) (a2 : Nat) (kinds : Int32) (ac : Nat) (rowc : Int32) (a_s : Nat) (a_w : Nat) (cnt : Int32) (cU : ClassId) (fu : Nat → Int32) (cL : ClassId) (fl : Nat → Int32) (a : Int32) (b : Int32) (ao : Nat) (hc : vp_in cnt 301) (ht : ¬ f_kv_has cnt b = 0 ∧ f_kv_upper fu b = 0) : Met l y_lw_over w_lw_over ({ frames := 7, cells := 1, slots := 6, locals := 104 }) (va_Pc [.ref ak, .int a, .int b, .ref ao] (fun U => U.heap.size = sz ∧ va_P (dC, dI) classes [(ak, .inr (0, [.int kinds, .ref ac, .int rowc, .ref a0, .ref a_s, .ref a_w])), (a0, .inr (1, [.ref a1, .ref a2, .int cnt])), (a1, .inl (cU, 300, .inl fu)), (a2, .inl (cL, 300, .inl fl))] U.heap ∧ va_K (dC, dI) classes [(cU, .int), (cL, .int)] U ∧ va_D (fun _ => True) [(ak, .inr (0, [.int kinds, .ref ac, .int rowc, .ref a0, .ref a_s, .ref a_w])), (a0, .inr (1, [.ref a1, .ref a2, .int cnt])), (a1, .inl (cU, 300, .inl fu)), (a2, .inl (cL, 300, .inl fl))] ∧ kt_N2 U ∧ kt_Z AZ U U.heap ∧ vk_R R_kr 85 "the divisor is 0" sa U)) (va_Qi (fun z9 (_ : Unit) => z9 = 1) (fun _ t => va_P (dC, dI) classes [(ak, .inr (0, [.int kinds, .ref ac, .int rowc, .ref a0, .ref a_s, .ref a_w])), (a0, .inr (1, [.ref a1, .ref a2, .int cnt])), (a1, .inl (cU, 300, .inl fu)), (a2, .inl (cL, 300, .inl fl))] t.heap ∧ va_K (dC, dI) classes [(cU, .int), (cL, .int)] t ∧ va_D (va_A [(ak, .inr (0, [.int kinds, .ref ac, .int rowc, .ref a0, .ref a_s, .ref a_w])), (a0, .inr (1, [.ref a1, .ref a2, .int cnt])), (a1, .inl (cU, 300, .inl fu)), (a2, .inl (cL, 300, .inl fl))] sz) [(ak, .inr (0, [.int kinds, .ref ac, .int rowc, .ref a0, .ref a_s, .ref a_w])), (a0, .inr (1, [.ref a1, .ref a2, .int cnt])), (a1, .inl (cU, 300, .inl fu)), (a2, .inl (cL, 300, .inl fl))]) (va_A [(ak, .inr (0, [.int kinds, .ref ac, .int rowc, .ref a0, .ref a_s, .ref a_w])), (a0, .inr (1, [.ref a1, .ref a2, .int cnt])), (a1, .inl (cU, 300, .inl fu)), (a2, .inl (cL, 300, .inl fl))] sz)) 1 6 (va_A [(ak, .inr (0, [.int kinds, .ref ac, .int rowc, .ref a0, .ref a_s, .ref a_w])), (a0, .inr (1, [.ref a1, .ref a2, .int cnt])), (a1, .inl (cU, 300, .inl fu)), (a2, .inl (cL, 300, .inl fl))] sz) := by
  refine va_MetW (hh := [(0, 10, 13, 13)]) (cc := b_lw_over) (maxL := 5) (ret := (some .int)) (by decide +kernel) rfl ?_
  intro p e s m args below meth c s₁ B hml hv
  obtain ⟨rfl, hsz, hP, hK, hD0, hN2, hZ, hstr⟩ := hv
  have hx := B.exec
  have hb := B.bytes
  have hr := B.returns
  have hts := atoms_spec (ws := w_lw_over) B.pre
  have htab := kz_tab B List.mem_cons_self
  have hT := fun (w : Cond) (h : w ∈ kt_T) => hts w (List.mem_cons_of_mem _ h)
  have hown : s.vm.findClass R_law = some m.cls := findClass_of_methodNamed B.named
  have hlocks := B.notSynchronized
  subst hsz
  have hD := hD0.self (sz := s.heap.size)
  generalize hAe : va_A [(ak, .inr (0, [.int kinds, .ref ac, .int rowc, .ref a0, .ref a_s, .ref a_w])), (a0, .inr (1, [.ref a1, .ref a2, .int cnt])), (a1, .inl (cU, 300, .inl fu)), (a2, .inl (cL, 300, .inl fl))] s.heap.size = A at hD ⊢
  have hA : ∀ q : Nat, s.heap.size ≤ q → A q := fun q h => by rw [← hAe]; exact Or.inr h
  have hS : va_S A s.heap s.heap [] := va_S.rf
  have hl := lv_entry ([.ref ak, .int a, .int b, .ref ao]) (n := 5) (Nat.le_of_ble_eq_true rfl)
  rw [lg_entry_eq]
  generalize (lg_sl ([.ref ak, .int a, .int b, .ref ao]) ++ List.replicate (5 - (lg_sl ([.ref ak, .int a, .int b, .ref ao])).length) Slot.unset).toArray = ls at hl ⊢
  have hl : lv_has ls 5 [(0, .ref ak), (1, .int a), (2, .int b), (3, .ref ao)] := hl
  refine lv_aload_n hx hb d_lw_over_0 rfl (lv_at hl 3 rfl) ?_
  refine lv_iconst (v := 0) hx hb d_lw_over_1 (by decide) ?_
  refine lv_aload_n hx hb d_lw_over_2 rfl (lv_at hl 0 rfl) ?_
  refine lv_iload_n hx hb d_lw_over_3 rfl (lv_at hl 1 rfl) ?_
  refine lv_iload_n hx hb d_lw_over_4 rfl (lv_at hl 2 rfl) ?_
  have hPc := hP.sub (ws' := [(ak, .inr (0, [.int kinds, .ref ac, .int rowc, .ref a0, .ref a_s, .ref a_w])), (a0, .inr (1, [.ref a1, .ref a2, .int cnt])), (a1, .inl (cU, 300, .inl fu)), (a2, .inl (cL, 300, .inl fl))]) [0, 1, 2, 3] rfl
  have hKc := hK.sub (tys' := [(cU, .int), (cL, .int)]) [0, 1] rfl
  refine kz_call (As := [.int a, .int b]) (rest := [.int 0, .ref ao]) (E := "java/lang/ArithmeticException") ⟨hx, hb, hml, hown, hT⟩ (c_kr_overT l hl9 dC dI AZ sa ak a0 a1 a2 kinds ac rowc a_s a_w cnt cU fu cL fl a b hc ht) (cwV 2 hT (kt_V k_243 k_244 k_245 k_11 k_246) rfl rfl rfl (by decide +kernel) ⟨Nat.le_of_ble_eq_true rfl, Nat.le_of_ble_eq_true rfl⟩) ⟨bl_T, va_recv hKc hPc (ci := 0) (q0 := 0) rfl rfl, fun U hU hW => ⟨rfl, by rw [hU]; exact hPc, va_K.moved hW.alike hKc, kt_N2.warm hW hN2, by rw [hU]; exact kt_Z.moved hW.alike hZ, vk_R.warm hW hstr⟩⟩ rfl hl.1 (lv_room (Nat.le_of_ble_eq_true rfl)) d_lw_over_5 ⟨Nat.le_of_ble_eq_true rfl, Nat.le_of_ble_eq_true rfl⟩ htab (by decide) (by decide) (hT _ k_229) (hN2.use (by decide +kernel)) (fun q9 H hsz9 hkp9 => ?_)
  have hP := hP.kept (fun k x hx => hkp9 x.1 ((hP k x hx).lt))
  have hS : va_S A s.heap H [] := ⟨hsz9, fun q hq _ => hkp9 q hq, fun l hl => nomatch hl⟩
  refine lv_astore (lv' := [(4, .ref q9), (0, .ref ak), (1, .int a), (2, .int b), (3, .ref ao)]) hx hb d_lw_over_13 hl (by decide) rfl (fun ls hl => ?_)
  refine lv_iconst (v := 1) hx hb d_lw_over_15 (by decide) ?_
  refine W.widen (k := 1) (n := 6) (Nat.le_of_ble_eq_true rfl) (Nat.le_of_ble_eq_true rfl) ?_
  exact W.iret (v := 1) hx hb hr (fun t ht hW => ⟨⟨1, (), rfl, rfl, by rw [ht]; exact hP, va_K.moved hW.alike hK, hD⟩, hS.F ht⟩) hS.2.2 d_lw_over_16
def f_lw_put (kinds : Int32) (rowc : Int32) (fc : Nat → Int32) (cnt : Int32) (fo : Nat → Int64) (row : Int32) (kind : Int32) (v : Int32) : Int32 × (Nat → Int32) × (Nat → Int64) :=
  if ((f_kr_put kinds rowc fc cnt row kind v).1) = 0 then (0, (f_kr_put kinds rowc fc cnt row kind v).2, vp_updL fo 0 0) else (0, (f_kr_put kinds rowc fc cnt row kind v).2, vp_updL fo 0 1)
set_option maxHeartbeats 4000000 in
set_option maxRecDepth 100000 in
theorem c_lw_put (l : Launch) (dC : Nat → ClassId) (dI : Nat → Nat → Nat) (sz : Nat) (ak : Nat) (ac : Nat) (a0 : Nat) (a1 : Nat) (a2 : Nat) (ao : Nat) (kinds : Int32) (rowc : Int32) (a_s : Nat) (a_w : Nat) (cC : ClassId) (nk : Nat) (fc : Nat → Int32) (cnt : Int32) (cU : ClassId) (fu : Nat → Int32) (cL : ClassId) (fl : Nat → Int32) (cO : ClassId) (fo : Nat → Int64) (row : Int32) (kind : Int32) (v : Int32) (hn : kinds = nI nk ∧ nk ≤ 16) (hr0 : vp_in rowc 21) (hnt : f_kr_hasRow rowc row = 0 ∨ ¬ f_kr_hasKind kinds kind = 0) : Met l y_lw_put w_lw_put ({ frames := 2, cells := 0, slots := 0, locals := 44 }) (va_Pc [.ref ak, .int row, .int kind, .int v, .ref ao] (fun U => U.heap.size = sz ∧ va_P (dC, dI) classes [(ak, .inr (0, [.int kinds, .ref ac, .int rowc, .ref a0, .ref a_s, .ref a_w])), (ac, .inl (cC, (20 * nk), .inl fc)), (a0, .inr (1, [.ref a1, .ref a2, .int cnt])), (a1, .inl (cU, 300, .inl fu)), (a2, .inl (cL, 300, .inl fl)), (ao, .inl (cO, 1, .inr (.inl fo)))] U.heap ∧ va_K (dC, dI) classes [(cC, .int), (cU, .int), (cL, .int), (cO, .long)] U ∧ va_D (fun _ => True) [(ak, .inr (0, [.int kinds, .ref ac, .int rowc, .ref a0, .ref a_s, .ref a_w])), (ac, .inl (cC, (20 * nk), .inl fc)), (a0, .inr (1, [.ref a1, .ref a2, .int cnt])), (a1, .inl (cU, 300, .inl fu)), (a2, .inl (cL, 300, .inl fl)), (ao, .inl (cO, 1, .inr (.inl fo)))])) (va_Qi (fun z9 u9 => (z9, u9) = f_lw_put kinds rowc fc cnt fo row kind v) (fun (u : (Nat → Int32) × (Nat → Int64)) t => match u with | (fc', fo') => va_P (dC, dI) classes [(ak, .inr (0, [.int kinds, .ref ac, .int rowc, .ref a0, .ref a_s, .ref a_w])), (ac, .inl (cC, (20 * nk), .inl fc')), (a0, .inr (1, [.ref a1, .ref a2, .int cnt])), (a1, .inl (cU, 300, .inl fu)), (a2, .inl (cL, 300, .inl fl)), (ao, .inl (cO, 1, .inr (.inl fo')))] t.heap ∧ va_K (dC, dI) classes [(cC, .int), (cU, .int), (cL, .int), (cO, .long)] t ∧ va_D (va_A [(ak, .inr (0, [.int kinds, .ref ac, .int rowc, .ref a0, .ref a_s, .ref a_w])), (ac, .inl (cC, (20 * nk), .inl fc)), (a0, .inr (1, [.ref a1, .ref a2, .int cnt])), (a1, .inl (cU, 300, .inl fu)), (a2, .inl (cL, 300, .inl fl)), (ao, .inl (cO, 1, .inr (.inl fo)))] sz) [(ak, .inr (0, [.int kinds, .ref ac, .int rowc, .ref a0, .ref a_s, .ref a_w])), (ac, .inl (cC, (20 * nk), .inl fc')), (a0, .inr (1, [.ref a1, .ref a2, .int cnt])), (a1, .inl (cU, 300, .inl fu)), (a2, .inl (cL, 300, .inl fl)), (ao, .inl (cO, 1, .inr (.inl fo')))]) (va_A [(ak, .inr (0, [.int kinds, .ref ac, .int rowc, .ref a0, .ref a_s, .ref a_w])), (ac, .inl (cC, (20 * nk), .inl fc)), (a0, .inr (1, [.ref a1, .ref a2, .int cnt])), (a1, .inl (cU, 300, .inl fu)), (a2, .inl (cL, 300, .inl fl)), (ao, .inl (cO, 1, .inr (.inl fo)))] sz)) 0 0 (va_A [(ak, .inr (0, [.int kinds, .ref ac, .int rowc, .ref a0, .ref a_s, .ref a_w])), (ac, .inl (cC, (20 * nk), .inl fc)), (a0, .inr (1, [.ref a1, .ref a2, .int cnt])), (a1, .inl (cU, 300, .inl fu)), (a2, .inl (cL, 300, .inl fl)), (ao, .inl (cO, 1, .inr (.inl fo)))] sz) := by
  refine va_MetW (hh := [(0, 19, 22, 19)]) (cc := b_lw_put) (maxL := 6) (ret := (some .int)) (by decide +kernel) rfl ?_
  intro p e s m args below meth c s₁ B hml hv
  obtain ⟨rfl, hsz, hP, hK, hD0⟩ := hv
  have hx := B.exec
  have hb := B.bytes
  have hr := B.returns
  have hts := atoms_spec (ws := w_lw_put) B.pre
  have hT := fun (w : Cond) (h : w ∈ kt_T) => hts w (List.mem_cons_of_mem _ h)
  have hown : s.vm.findClass R_law = some m.cls := findClass_of_methodNamed B.named
  have hlocks := B.notSynchronized
  subst hsz
  have hD := hD0.self (sz := s.heap.size)
  generalize hAe : va_A [(ak, .inr (0, [.int kinds, .ref ac, .int rowc, .ref a0, .ref a_s, .ref a_w])), (ac, .inl (cC, (20 * nk), .inl fc)), (a0, .inr (1, [.ref a1, .ref a2, .int cnt])), (a1, .inl (cU, 300, .inl fu)), (a2, .inl (cL, 300, .inl fl)), (ao, .inl (cO, 1, .inr (.inl fo)))] s.heap.size = A at hD ⊢
  have hA : ∀ q : Nat, s.heap.size ≤ q → A q := fun q h => by rw [← hAe]; exact Or.inr h
  have hS : va_S A s.heap s.heap [] := va_S.rf
  have hl := lv_entry ([.ref ak, .int row, .int kind, .int v, .ref ao]) (n := 6) (Nat.le_of_ble_eq_true rfl)
  rw [lg_entry_eq]
  generalize (lg_sl ([.ref ak, .int row, .int kind, .int v, .ref ao]) ++ List.replicate (6 - (lg_sl ([.ref ak, .int row, .int kind, .int v, .ref ao])).length) Slot.unset).toArray = ls at hl ⊢
  have hl : lv_has ls 6 [(0, .ref ak), (1, .int row), (2, .int kind), (3, .int v), (4, .ref ao)] := hl
  refine lv_aload hx hb d_lw_put_0 (lv_at hl 4 rfl) ?_
  refine lv_iconst (v := 0) hx hb d_lw_put_2 (by decide) ?_
  refine lv_aload_n hx hb d_lw_put_3 rfl (lv_at hl 0 rfl) ?_
  refine lv_iload_n hx hb d_lw_put_4 rfl (lv_at hl 1 rfl) ?_
  refine lv_iload_n hx hb d_lw_put_5 rfl (lv_at hl 2 rfl) ?_
  refine lv_iload_n hx hb d_lw_put_6 rfl (lv_at hl 3 rfl) ?_
  have hPc := hP.sub (ws' := [(ak, .inr (0, [.int kinds, .ref ac, .int rowc, .ref a0, .ref a_s, .ref a_w])), (ac, .inl (cC, (20 * nk), .inl fc)), (a0, .inr (1, [.ref a1, .ref a2, .int cnt])), (a1, .inl (cU, 300, .inl fu)), (a2, .inl (cL, 300, .inl fl))]) [0, 1, 2, 3, 4] rfl
  have hKc := hK.sub (tys' := [(cC, .int), (cU, .int), (cL, .int)]) [0, 1, 2] rfl
  have hDc := hD.sub (ws' := [(ak, .inr (0, [.int kinds, .ref ac, .int rowc, .ref a0, .ref a_s, .ref a_w])), (ac, .inl (cC, (20 * nk), .inl fc)), (a0, .inr (1, [.ref a1, .ref a2, .int cnt])), (a1, .inl (cU, 300, .inl fu)), (a2, .inl (cL, 300, .inl fl))]) [0, 1, 2, 3, 4] (by decide) rfl
  have hFc := va_free (wc := [(ak, .inr (0, [.int kinds, .ref ac, .int rowc, .ref a0, .ref a_s, .ref a_w])), (ac, .inl (cC, (20 * nk), .inl fc)), (a0, .inr (1, [.ref a1, .ref a2, .int cnt])), (a1, .inl (cU, 300, .inl fu)), (a2, .inl (cL, 300, .inl fl))]) hD hS hA [0, 1, 2, 3, 4] rfl
  refine va_calli (va_runV (As := [.int row, .int kind, .int v]) (rest := [.int 0, .ref ao]) ⟨hx, hb, hml, hown, hT⟩ (c_kr_put l dC dI s.heap.size ak ac a0 a1 a2 kinds rowc a_s a_w cC nk fc cnt cU fu cL fl row kind v hn hr0 hnt) (cwV 3 hT (kt_V k_250 k_248 k_249 k_11 k_247) rfl rfl rfl (by decide +kernel) ⟨Nat.le_of_ble_eq_true rfl, Nat.le_of_ble_eq_true rfl⟩) ⟨bl_M, va_recv hKc hPc (ci := 0) (q0 := 0) rfl rfl, fun U hU hW => ⟨rfl, by rw [hU], by rw [hU]; exact hPc, va_K.moved hW.alike hKc, hDc.weaken (fun _ _ _ _ => trivial)⟩⟩ rfl rfl hl.1 rfl (lv_room (Nat.le_of_ble_eq_true rfl)) d_lw_put_7 ⟨Nat.zero_le _, Nat.zero_le _⟩) hS (fun q _ h => hFc q h) hFc (fun r_1 u t H1 locs ht hvm hw hB hz1 hk1 hS => ?_)
  obtain ⟨fc_1, rfl⟩ : ∃ z, z = u := ⟨_, rfl⟩
  obtain ⟨hP1, hK1, hD1⟩ := hB
  rw [ht] at hP1
  obtain ⟨hP, hD⟩ := va_join (wr := [(ao, .inl (cO, 1, .inr (.inl fo)))]) (w1 := [(ak, .inr (0, [.int kinds, .ref ac, .int rowc, .ref a0, .ref a_s, .ref a_w])), (ac, .inl (cC, (20 * nk), .inl fc_1)), (a0, .inr (1, [.ref a1, .ref a2, .int cnt])), (a1, .inl (cU, 300, .inl fu)), (a2, .inl (cL, 300, .inl fl))]) hP hD [0, 1, 2, 3, 4] [5] rfl rfl (by decide) (by decide) hk1 hFc hP1 hD1
  generalize H1 = H at hP hS ⊢
  have hP := hP.sub (ws' := [(ak, .inr (0, [.int kinds, .ref ac, .int rowc, .ref a0, .ref a_s, .ref a_w])), (ac, .inl (cC, (20 * nk), .inl fc_1)), (a0, .inr (1, [.ref a1, .ref a2, .int cnt])), (a1, .inl (cU, 300, .inl fu)), (a2, .inl (cL, 300, .inl fl)), (ao, .inl (cO, 1, .inr (.inl fo)))]) [1, 2, 3, 4, 5, 0] rfl
  have hD := hD.sub (ws' := [(ak, .inr (0, [.int kinds, .ref ac, .int rowc, .ref a0, .ref a_s, .ref a_w])), (ac, .inl (cC, (20 * nk), .inl fc_1)), (a0, .inr (1, [.ref a1, .ref a2, .int cnt])), (a1, .inl (cU, 300, .inl fu)), (a2, .inl (cL, 300, .inl fl)), (ao, .inl (cO, 1, .inr (.inl fo)))]) [1, 2, 3, 4, 5, 0] (by decide) rfl
  have e_r_1 : r_1 = (f_kr_put kinds rowc fc cnt row kind v).1 := congrArg (fun z => z.1) hw
  have e_fc_1 : fc_1 = (f_kr_put kinds rowc fc cnt row kind v).2 := congrArg (fun z => z.2) hw
  subst e_r_1 e_fc_1
  clear hP1 hK1 hD1 hk1 hz1 hFc hDc hPc hKc
  refine lv_if_eq (tgt := 17) hx hb d_lw_put_10 (by decide) (fun c_2 => ?_) (fun c_2 => ?_)
  · refine lv_lconst (v := 0) hx hb d_lw_put_17 (by decide) ?_
    refine va_lastN (i := 0) hx hb hK hP hD hS 5 3 rfl rfl ⟨by decide, by decide⟩ d_lw_put_18 (fun H locs hP hD hS => ?_)
    have hP : va_P (dC, dI) classes [(ak, .inr (0, [.int kinds, .ref ac, .int rowc, .ref a0, .ref a_s, .ref a_w])), (ac, .inl (cC, (20 * nk), .inl ((f_kr_put kinds rowc fc cnt row kind v).2))), (a0, .inr (1, [.ref a1, .ref a2, .int cnt])), (a1, .inl (cU, 300, .inl fu)), (a2, .inl (cL, 300, .inl fl)), (ao, .inl (cO, 1, .inr (.inl (vp_updL fo 0 0))))] H := hP
    have hD : va_D A [(ak, .inr (0, [.int kinds, .ref ac, .int rowc, .ref a0, .ref a_s, .ref a_w])), (ac, .inl (cC, (20 * nk), .inl ((f_kr_put kinds rowc fc cnt row kind v).2))), (a0, .inr (1, [.ref a1, .ref a2, .int cnt])), (a1, .inl (cU, 300, .inl fu)), (a2, .inl (cL, 300, .inl fl)), (ao, .inl (cO, 1, .inr (.inl (vp_updL fo 0 0))))] := hD
    refine lv_goto (tgt := 26) hx hb d_lw_put_19 (by decide) ?_
    refine lv_iconst (v := 0) hx hb d_lw_put_26 (by decide) ?_
    exact W.iret (v := 0) hx hb hr (fun t ht hW => ⟨⟨0, ((f_kr_put kinds rowc fc cnt row kind v).2, vp_updL fo 0 0), rfl, by unfold f_lw_put; rw [if_pos c_2], by rw [ht]; exact hP, va_K.moved hW.alike hK, hD⟩, hS.F ht⟩) hS.2.2 d_lw_put_27
  · refine lv_lconst (v := 1) hx hb d_lw_put_13 (by decide) ?_
    refine lv_goto (tgt := 18) hx hb d_lw_put_14 (by decide) ?_
    refine va_lastN (i := 0) hx hb hK hP hD hS 5 3 rfl rfl ⟨by decide, by decide⟩ d_lw_put_18 (fun H locs hP hD hS => ?_)
    have hP : va_P (dC, dI) classes [(ak, .inr (0, [.int kinds, .ref ac, .int rowc, .ref a0, .ref a_s, .ref a_w])), (ac, .inl (cC, (20 * nk), .inl ((f_kr_put kinds rowc fc cnt row kind v).2))), (a0, .inr (1, [.ref a1, .ref a2, .int cnt])), (a1, .inl (cU, 300, .inl fu)), (a2, .inl (cL, 300, .inl fl)), (ao, .inl (cO, 1, .inr (.inl (vp_updL fo 0 1))))] H := hP
    have hD : va_D A [(ak, .inr (0, [.int kinds, .ref ac, .int rowc, .ref a0, .ref a_s, .ref a_w])), (ac, .inl (cC, (20 * nk), .inl ((f_kr_put kinds rowc fc cnt row kind v).2))), (a0, .inr (1, [.ref a1, .ref a2, .int cnt])), (a1, .inl (cU, 300, .inl fu)), (a2, .inl (cL, 300, .inl fl)), (ao, .inl (cO, 1, .inr (.inl (vp_updL fo 0 1))))] := hD
    refine lv_goto (tgt := 26) hx hb d_lw_put_19 (by decide) ?_
    refine lv_iconst (v := 0) hx hb d_lw_put_26 (by decide) ?_
    exact W.iret (v := 0) hx hb hr (fun t ht hW => ⟨⟨0, ((f_kr_put kinds rowc fc cnt row kind v).2, vp_updL fo 0 1), rfl, by unfold f_lw_put; rw [if_neg c_2], by rw [ht]; exact hP, va_K.moved hW.alike hK, hD⟩, hS.F ht⟩) hS.2.2 d_lw_put_27
set_option maxHeartbeats 4000000 in
set_option maxRecDepth 100000 in
theorem c_lw_putT (l : Launch) (hl9 : l.stackTraces = false) (dC : Nat → ClassId) (dI : Nat → Nat → Nat) (AZ : Nat → Prop) (sa sz : Nat) (ak : Nat) (kinds : Int32) (ac : Nat) (rowc : Int32) (a0 : Nat) (a_s : Nat) (a_w : Nat) (row : Int32) (kind : Int32) (v : Int32) (ao : Nat) (ht : ¬ f_kr_hasRow rowc row = 0 ∧ f_kr_hasKind kinds kind = 0) : Met l y_lw_put w_lw_put ({ frames := 7, cells := 1, slots := 6, locals := 105 }) (va_Pc [.ref ak, .int row, .int kind, .int v, .ref ao] (fun U => U.heap.size = sz ∧ va_P (dC, dI) classes [(ak, .inr (0, [.int kinds, .ref ac, .int rowc, .ref a0, .ref a_s, .ref a_w]))] U.heap ∧ va_K (dC, dI) classes [] U ∧ va_D (fun _ => True) [(ak, .inr (0, [.int kinds, .ref ac, .int rowc, .ref a0, .ref a_s, .ref a_w]))] ∧ kt_N2 U ∧ kt_Z AZ U U.heap ∧ vk_R R_kr 114 "no such kind" sa U)) (va_Qi (fun z9 (_ : Unit) => z9 = 1) (fun _ t => va_P (dC, dI) classes [(ak, .inr (0, [.int kinds, .ref ac, .int rowc, .ref a0, .ref a_s, .ref a_w]))] t.heap ∧ va_K (dC, dI) classes [] t ∧ va_D (va_A [(ak, .inr (0, [.int kinds, .ref ac, .int rowc, .ref a0, .ref a_s, .ref a_w]))] sz) [(ak, .inr (0, [.int kinds, .ref ac, .int rowc, .ref a0, .ref a_s, .ref a_w]))]) (va_A [(ak, .inr (0, [.int kinds, .ref ac, .int rowc, .ref a0, .ref a_s, .ref a_w]))] sz)) 1 6 (va_A [(ak, .inr (0, [.int kinds, .ref ac, .int rowc, .ref a0, .ref a_s, .ref a_w]))] sz) := by
  refine va_MetW (hh := [(0, 19, 22, 19)]) (cc := b_lw_put) (maxL := 6) (ret := (some .int)) (by decide +kernel) rfl ?_
  intro p e s m args below meth c s₁ B hml hv
  obtain ⟨rfl, hsz, hP, hK, hD0, hN2, hZ, hstr⟩ := hv
  have hx := B.exec
  have hb := B.bytes
  have hr := B.returns
  have hts := atoms_spec (ws := w_lw_put) B.pre
  have htab := kz_tab B List.mem_cons_self
  have hT := fun (w : Cond) (h : w ∈ kt_T) => hts w (List.mem_cons_of_mem _ h)
  have hown : s.vm.findClass R_law = some m.cls := findClass_of_methodNamed B.named
  have hlocks := B.notSynchronized
  subst hsz
  have hD := hD0.self (sz := s.heap.size)
  generalize hAe : va_A [(ak, .inr (0, [.int kinds, .ref ac, .int rowc, .ref a0, .ref a_s, .ref a_w]))] s.heap.size = A at hD ⊢
  have hA : ∀ q : Nat, s.heap.size ≤ q → A q := fun q h => by rw [← hAe]; exact Or.inr h
  have hS : va_S A s.heap s.heap [] := va_S.rf
  have hl := lv_entry ([.ref ak, .int row, .int kind, .int v, .ref ao]) (n := 6) (Nat.le_of_ble_eq_true rfl)
  rw [lg_entry_eq]
  generalize (lg_sl ([.ref ak, .int row, .int kind, .int v, .ref ao]) ++ List.replicate (6 - (lg_sl ([.ref ak, .int row, .int kind, .int v, .ref ao])).length) Slot.unset).toArray = ls at hl ⊢
  have hl : lv_has ls 6 [(0, .ref ak), (1, .int row), (2, .int kind), (3, .int v), (4, .ref ao)] := hl
  refine lv_aload hx hb d_lw_put_0 (lv_at hl 4 rfl) ?_
  refine lv_iconst (v := 0) hx hb d_lw_put_2 (by decide) ?_
  refine lv_aload_n hx hb d_lw_put_3 rfl (lv_at hl 0 rfl) ?_
  refine lv_iload_n hx hb d_lw_put_4 rfl (lv_at hl 1 rfl) ?_
  refine lv_iload_n hx hb d_lw_put_5 rfl (lv_at hl 2 rfl) ?_
  refine lv_iload_n hx hb d_lw_put_6 rfl (lv_at hl 3 rfl) ?_
  have hPc := hP.sub (ws' := [(ak, .inr (0, [.int kinds, .ref ac, .int rowc, .ref a0, .ref a_s, .ref a_w]))]) [0] rfl
  have hKc := hK.sub (tys' := []) [] rfl
  refine kz_call (As := [.int row, .int kind, .int v]) (rest := [.int 0, .ref ao]) (E := "java/lang/IndexOutOfBoundsException") ⟨hx, hb, hml, hown, hT⟩ (c_kr_putT l hl9 dC dI AZ sa ak kinds ac rowc a0 a_s a_w row kind v ht) (cwV 3 hT (kt_V k_251 k_252 k_253 k_11 k_254) rfl rfl rfl (by decide +kernel) ⟨Nat.le_of_ble_eq_true rfl, Nat.le_of_ble_eq_true rfl⟩) ⟨bl_T, va_recv hKc hPc (ci := 0) (q0 := 0) rfl rfl, fun U hU hW => ⟨rfl, by rw [hU]; exact hPc, va_K.moved hW.alike hKc, kt_N2.warm hW hN2, by rw [hU]; exact kt_Z.moved hW.alike hZ, vk_R.warm hW hstr⟩⟩ rfl hl.1 (lv_room (Nat.le_of_ble_eq_true rfl)) d_lw_put_7 ⟨Nat.le_of_ble_eq_true rfl, Nat.le_of_ble_eq_true rfl⟩ htab (by decide) (by decide) (hT _ k_238) (hN2.use (by decide +kernel)) (fun q9 H hsz9 hkp9 => ?_)
  have hP := hP.kept (fun k x hx => hkp9 x.1 ((hP k x hx).lt))
  have hS : va_S A s.heap H [] := ⟨hsz9, fun q hq _ => hkp9 q hq, fun l hl => nomatch hl⟩
  refine lv_astore (lv' := [(5, .ref q9), (0, .ref ak), (1, .int row), (2, .int kind), (3, .int v), (4, .ref ao)]) hx hb d_lw_put_22 hl (by decide) rfl (fun ls hl => ?_)
  refine lv_iconst (v := 1) hx hb d_lw_put_24 (by decide) ?_
  refine W.widen (k := 1) (n := 6) (Nat.le_of_ble_eq_true rfl) (Nat.le_of_ble_eq_true rfl) ?_
  exact W.iret (v := 1) hx hb hr (fun t ht hW => ⟨⟨1, (), rfl, rfl, by rw [ht]; exact hP, va_K.moved hW.alike hK, hD⟩, hS.F ht⟩) hS.2.2 d_lw_put_25
def f_lw_at (kinds : Int32) (rowc : Int32) (fc : Nat → Int32) (fo : Nat → Int64) (row : Int32) (kind : Int32) : Int32 × (Nat → Int64) :=
  (0, vp_updL fo 0 ((f_kr_at kinds rowc fc row kind).toInt64))
set_option maxHeartbeats 4000000 in
set_option maxRecDepth 100000 in
theorem c_lw_at (l : Launch) (dC : Nat → ClassId) (dI : Nat → Nat → Nat) (sz : Nat) (ak : Nat) (ac : Nat) (ao : Nat) (kinds : Int32) (rowc : Int32) (a0 : Nat) (a_s : Nat) (a_w : Nat) (cC : ClassId) (nk : Nat) (fc : Nat → Int32) (cO : ClassId) (fo : Nat → Int64) (row : Int32) (kind : Int32) (hn : kinds = nI nk ∧ nk ≤ 16) (hr0 : vp_in rowc 21) (hnt : f_kr_hasRow rowc row = 0 ∨ ¬ f_kr_hasKind kinds kind = 0) : Met l y_lw_at w_lw_at ({ frames := 2, cells := 0, slots := 0, locals := 43 }) (va_Pc [.ref ak, .int row, .int kind, .ref ao] (fun U => U.heap.size = sz ∧ va_P (dC, dI) classes [(ak, .inr (0, [.int kinds, .ref ac, .int rowc, .ref a0, .ref a_s, .ref a_w])), (ac, .inl (cC, (20 * nk), .inl fc)), (ao, .inl (cO, 1, .inr (.inl fo)))] U.heap ∧ va_K (dC, dI) classes [(cC, .int), (cO, .long)] U ∧ va_D (fun _ => True) [(ak, .inr (0, [.int kinds, .ref ac, .int rowc, .ref a0, .ref a_s, .ref a_w])), (ac, .inl (cC, (20 * nk), .inl fc)), (ao, .inl (cO, 1, .inr (.inl fo)))])) (va_Qi (fun z9 u9 => (z9, u9) = f_lw_at kinds rowc fc fo row kind) (fun (u : (Nat → Int64)) t => match u with | fo' => va_P (dC, dI) classes [(ak, .inr (0, [.int kinds, .ref ac, .int rowc, .ref a0, .ref a_s, .ref a_w])), (ac, .inl (cC, (20 * nk), .inl fc)), (ao, .inl (cO, 1, .inr (.inl fo')))] t.heap ∧ va_K (dC, dI) classes [(cC, .int), (cO, .long)] t ∧ va_D (va_A [(ak, .inr (0, [.int kinds, .ref ac, .int rowc, .ref a0, .ref a_s, .ref a_w])), (ac, .inl (cC, (20 * nk), .inl fc)), (ao, .inl (cO, 1, .inr (.inl fo)))] sz) [(ak, .inr (0, [.int kinds, .ref ac, .int rowc, .ref a0, .ref a_s, .ref a_w])), (ac, .inl (cC, (20 * nk), .inl fc)), (ao, .inl (cO, 1, .inr (.inl fo')))]) (va_A [(ak, .inr (0, [.int kinds, .ref ac, .int rowc, .ref a0, .ref a_s, .ref a_w])), (ac, .inl (cC, (20 * nk), .inl fc)), (ao, .inl (cO, 1, .inr (.inl fo)))] sz)) 0 0 (va_A [(ak, .inr (0, [.int kinds, .ref ac, .int rowc, .ref a0, .ref a_s, .ref a_w])), (ac, .inl (cC, (20 * nk), .inl fc)), (ao, .inl (cO, 1, .inr (.inl fo)))] sz) := by
  refine va_MetW (hh := [(0, 10, 13, 19)]) (cc := b_lw_at) (maxL := 5) (ret := (some .int)) (by decide +kernel) rfl ?_
  intro p e s m args below meth c s₁ B hml hv
  obtain ⟨rfl, hsz, hP, hK, hD0⟩ := hv
  have hx := B.exec
  have hb := B.bytes
  have hr := B.returns
  have hts := atoms_spec (ws := w_lw_at) B.pre
  have hT := fun (w : Cond) (h : w ∈ kt_T) => hts w (List.mem_cons_of_mem _ h)
  have hown : s.vm.findClass R_law = some m.cls := findClass_of_methodNamed B.named
  have hlocks := B.notSynchronized
  subst hsz
  have hD := hD0.self (sz := s.heap.size)
  generalize hAe : va_A [(ak, .inr (0, [.int kinds, .ref ac, .int rowc, .ref a0, .ref a_s, .ref a_w])), (ac, .inl (cC, (20 * nk), .inl fc)), (ao, .inl (cO, 1, .inr (.inl fo)))] s.heap.size = A at hD ⊢
  have hA : ∀ q : Nat, s.heap.size ≤ q → A q := fun q h => by rw [← hAe]; exact Or.inr h
  have hS : va_S A s.heap s.heap [] := va_S.rf
  have hl := lv_entry ([.ref ak, .int row, .int kind, .ref ao]) (n := 5) (Nat.le_of_ble_eq_true rfl)
  rw [lg_entry_eq]
  generalize (lg_sl ([.ref ak, .int row, .int kind, .ref ao]) ++ List.replicate (5 - (lg_sl ([.ref ak, .int row, .int kind, .ref ao])).length) Slot.unset).toArray = ls at hl ⊢
  have hl : lv_has ls 5 [(0, .ref ak), (1, .int row), (2, .int kind), (3, .ref ao)] := hl
  refine lv_aload_n hx hb d_lw_at_0 rfl (lv_at hl 3 rfl) ?_
  refine lv_iconst (v := 0) hx hb d_lw_at_1 (by decide) ?_
  refine lv_aload_n hx hb d_lw_at_2 rfl (lv_at hl 0 rfl) ?_
  refine lv_iload_n hx hb d_lw_at_3 rfl (lv_at hl 1 rfl) ?_
  refine lv_iload_n hx hb d_lw_at_4 rfl (lv_at hl 2 rfl) ?_
  have hPc := hP.sub (ws' := [(ak, .inr (0, [.int kinds, .ref ac, .int rowc, .ref a0, .ref a_s, .ref a_w])), (ac, .inl (cC, (20 * nk), .inl fc))]) [0, 1] rfl
  have hKc := hK.sub (tys' := [(cC, .int)]) [0] rfl
  refine vp_callSi (W.runV (As := [.int row, .int kind]) (rest := [.int 0, .ref ao]) ⟨hx, hb, hml, hown, hT⟩ (c_kr_at l dC dI ak ac kinds rowc a0 a_s a_w cC nk fc row kind hn hr0 hnt) (cwV 2 hT (kt_V k_258 k_256 k_257 k_11 k_255) rfl rfl rfl (by decide +kernel) ⟨Nat.le_of_ble_eq_true rfl, Nat.le_of_ble_eq_true rfl⟩) ⟨bl_R, va_recv hKc hPc (ci := 0) (q0 := 0) rfl rfl, fun U hU hW => ⟨rfl, by rw [hU]; exact hPc, va_K.moved hW.alike hKc⟩⟩ rfl rfl hl.1 rfl (lv_room (Nat.le_of_ble_eq_true rfl)) d_lw_at_5 ⟨Nat.zero_le _, Nat.zero_le _⟩) (fun r_1 e_r_1 => ?_)
  subst e_r_1
  refine lv_i2l (v := (f_kr_at kinds rowc fc row kind).toInt64) hx hb d_lw_at_8 rfl ?_
  refine va_lastN (i := 0) hx hb hK hP hD hS 2 1 rfl rfl ⟨by decide, by decide⟩ d_lw_at_9 (fun H locs hP hD hS => ?_)
  have hP : va_P (dC, dI) classes [(ak, .inr (0, [.int kinds, .ref ac, .int rowc, .ref a0, .ref a_s, .ref a_w])), (ac, .inl (cC, (20 * nk), .inl fc)), (ao, .inl (cO, 1, .inr (.inl (vp_updL fo 0 ((f_kr_at kinds rowc fc row kind).toInt64)))))] H := hP
  have hD : va_D A [(ak, .inr (0, [.int kinds, .ref ac, .int rowc, .ref a0, .ref a_s, .ref a_w])), (ac, .inl (cC, (20 * nk), .inl fc)), (ao, .inl (cO, 1, .inr (.inl (vp_updL fo 0 ((f_kr_at kinds rowc fc row kind).toInt64)))))] := hD
  refine lv_goto (tgt := 17) hx hb d_lw_at_10 (by decide) ?_
  refine lv_iconst (v := 0) hx hb d_lw_at_17 (by decide) ?_
  exact W.iret (v := 0) hx hb hr (fun t ht hW => ⟨⟨0, vp_updL fo 0 ((f_kr_at kinds rowc fc row kind).toInt64), rfl, rfl, by rw [ht]; exact hP, va_K.moved hW.alike hK, hD⟩, hS.F ht⟩) hS.2.2 d_lw_at_18
set_option maxHeartbeats 4000000 in
set_option maxRecDepth 100000 in
theorem c_lw_atT (l : Launch) (hl9 : l.stackTraces = false) (dC : Nat → ClassId) (dI : Nat → Nat → Nat) (AZ : Nat → Prop) (sa sz : Nat) (ak : Nat) (kinds : Int32) (ac : Nat) (rowc : Int32) (a0 : Nat) (a_s : Nat) (a_w : Nat) (row : Int32) (kind : Int32) (ao : Nat) (ht : ¬ f_kr_hasRow rowc row = 0 ∧ f_kr_hasKind kinds kind = 0) : Met l y_lw_at w_lw_at ({ frames := 7, cells := 1, slots := 6, locals := 104 }) (va_Pc [.ref ak, .int row, .int kind, .ref ao] (fun U => U.heap.size = sz ∧ va_P (dC, dI) classes [(ak, .inr (0, [.int kinds, .ref ac, .int rowc, .ref a0, .ref a_s, .ref a_w]))] U.heap ∧ va_K (dC, dI) classes [] U ∧ va_D (fun _ => True) [(ak, .inr (0, [.int kinds, .ref ac, .int rowc, .ref a0, .ref a_s, .ref a_w]))] ∧ kt_N2 U ∧ kt_Z AZ U U.heap ∧ vk_R R_kr 114 "no such kind" sa U)) (va_Qi (fun z9 (_ : Unit) => z9 = 1) (fun _ t => va_P (dC, dI) classes [(ak, .inr (0, [.int kinds, .ref ac, .int rowc, .ref a0, .ref a_s, .ref a_w]))] t.heap ∧ va_K (dC, dI) classes [] t ∧ va_D (va_A [(ak, .inr (0, [.int kinds, .ref ac, .int rowc, .ref a0, .ref a_s, .ref a_w]))] sz) [(ak, .inr (0, [.int kinds, .ref ac, .int rowc, .ref a0, .ref a_s, .ref a_w]))]) (va_A [(ak, .inr (0, [.int kinds, .ref ac, .int rowc, .ref a0, .ref a_s, .ref a_w]))] sz)) 1 6 (va_A [(ak, .inr (0, [.int kinds, .ref ac, .int rowc, .ref a0, .ref a_s, .ref a_w]))] sz) := by
  refine va_MetW (hh := [(0, 10, 13, 19)]) (cc := b_lw_at) (maxL := 5) (ret := (some .int)) (by decide +kernel) rfl ?_
  intro p e s m args below meth c s₁ B hml hv
  obtain ⟨rfl, hsz, hP, hK, hD0, hN2, hZ, hstr⟩ := hv
  have hx := B.exec
  have hb := B.bytes
  have hr := B.returns
  have hts := atoms_spec (ws := w_lw_at) B.pre
  have htab := kz_tab B List.mem_cons_self
  have hT := fun (w : Cond) (h : w ∈ kt_T) => hts w (List.mem_cons_of_mem _ h)
  have hown : s.vm.findClass R_law = some m.cls := findClass_of_methodNamed B.named
  have hlocks := B.notSynchronized
  subst hsz
  have hD := hD0.self (sz := s.heap.size)
  generalize hAe : va_A [(ak, .inr (0, [.int kinds, .ref ac, .int rowc, .ref a0, .ref a_s, .ref a_w]))] s.heap.size = A at hD ⊢
  have hA : ∀ q : Nat, s.heap.size ≤ q → A q := fun q h => by rw [← hAe]; exact Or.inr h
  have hS : va_S A s.heap s.heap [] := va_S.rf
  have hl := lv_entry ([.ref ak, .int row, .int kind, .ref ao]) (n := 5) (Nat.le_of_ble_eq_true rfl)
  rw [lg_entry_eq]
  generalize (lg_sl ([.ref ak, .int row, .int kind, .ref ao]) ++ List.replicate (5 - (lg_sl ([.ref ak, .int row, .int kind, .ref ao])).length) Slot.unset).toArray = ls at hl ⊢
  have hl : lv_has ls 5 [(0, .ref ak), (1, .int row), (2, .int kind), (3, .ref ao)] := hl
  refine lv_aload_n hx hb d_lw_at_0 rfl (lv_at hl 3 rfl) ?_
  refine lv_iconst (v := 0) hx hb d_lw_at_1 (by decide) ?_
  refine lv_aload_n hx hb d_lw_at_2 rfl (lv_at hl 0 rfl) ?_
  refine lv_iload_n hx hb d_lw_at_3 rfl (lv_at hl 1 rfl) ?_
  refine lv_iload_n hx hb d_lw_at_4 rfl (lv_at hl 2 rfl) ?_
  have hPc := hP.sub (ws' := [(ak, .inr (0, [.int kinds, .ref ac, .int rowc, .ref a0, .ref a_s, .ref a_w]))]) [0] rfl
  have hKc := hK.sub (tys' := []) [] rfl
  refine kz_call (As := [.int row, .int kind]) (rest := [.int 0, .ref ao]) (E := "java/lang/IndexOutOfBoundsException") ⟨hx, hb, hml, hown, hT⟩ (c_kr_atT l hl9 dC dI AZ sa ak kinds ac rowc a0 a_s a_w row kind ht) (cwV 2 hT (kt_V k_259 k_260 k_261 k_11 k_262) rfl rfl rfl (by decide +kernel) ⟨Nat.le_of_ble_eq_true rfl, Nat.le_of_ble_eq_true rfl⟩) ⟨bl_T, va_recv hKc hPc (ci := 0) (q0 := 0) rfl rfl, fun U hU hW => ⟨rfl, by rw [hU]; exact hPc, va_K.moved hW.alike hKc, kt_N2.warm hW hN2, by rw [hU]; exact kt_Z.moved hW.alike hZ, vk_R.warm hW hstr⟩⟩ rfl hl.1 (lv_room (Nat.le_of_ble_eq_true rfl)) d_lw_at_5 ⟨Nat.le_of_ble_eq_true rfl, Nat.le_of_ble_eq_true rfl⟩ htab (by decide) (by decide) (hT _ k_238) (hN2.use (by decide +kernel)) (fun q9 H hsz9 hkp9 => ?_)
  have hP := hP.kept (fun k x hx => hkp9 x.1 ((hP k x hx).lt))
  have hS : va_S A s.heap H [] := ⟨hsz9, fun q hq _ => hkp9 q hq, fun l hl => nomatch hl⟩
  refine lv_astore (lv' := [(4, .ref q9), (0, .ref ak), (1, .int row), (2, .int kind), (3, .ref ao)]) hx hb d_lw_at_13 hl (by decide) rfl (fun ls hl => ?_)
  refine lv_iconst (v := 1) hx hb d_lw_at_15 (by decide) ?_
  refine W.widen (k := 1) (n := 6) (Nat.le_of_ble_eq_true rfl) (Nat.le_of_ble_eq_true rfl) ?_
  exact W.iret (v := 1) hx hb hr (fun t ht hW => ⟨⟨1, (), rfl, rfl, by rw [ht]; exact hP, va_K.moved hW.alike hK, hD⟩, hS.F ht⟩) hS.2.2 d_lw_at_16
