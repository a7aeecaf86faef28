abbrev b_mo_share : ByteArray := prog_6_method_29_code
def y_mo_share : MethodName := ⟨R_mo, "share", "(JI)J"⟩
def w_mo_share : List Cond := .code y_mo_share b_mo_share 11 (some .long) :: kt_T
theorem d_mo_share_0 : decode b_mo_share 0 = .ok (.aload_n 0, 1) := by decide +kernel
theorem d_mo_share_1 : decode b_mo_share 1 = .ok (.iconst 0, 1) := by decide +kernel
theorem d_mo_share_2 : decode b_mo_share 2 = .ok (.putfield 43, 3) := by decide +kernel
theorem d_mo_share_5 : decode b_mo_share 5 = .ok (.lconst 0, 1) := by decide +kernel
theorem d_mo_share_6 : decode b_mo_share 6 = .ok (.lstore 4, 2) := by decide +kernel
theorem d_mo_share_8 : decode b_mo_share 8 = .ok (.iconst 0, 1) := by decide +kernel
theorem d_mo_share_9 : decode b_mo_share 9 = .ok (.istore 6, 2) := by decide +kernel
theorem d_mo_share_11 : decode b_mo_share 11 = .ok (.iload 6, 2) := by decide +kernel
theorem d_mo_share_13 : decode b_mo_share 13 = .ok (.aload_n 0, 1) := by decide +kernel
theorem d_mo_share_14 : decode b_mo_share 14 = .ok (.getfield 107, 3) := by decide +kernel
theorem d_mo_share_17 : decode b_mo_share 17 = .ok (.if_icmp .ge 21, 3) := by decide +kernel
theorem d_mo_share_20 : decode b_mo_share 20 = .ok (.lload 4, 2) := by decide +kernel
theorem d_mo_share_22 : decode b_mo_share 22 = .ok (.aload_n 0, 1) := by decide +kernel
theorem d_mo_share_23 : decode b_mo_share 23 = .ok (.getfield 29, 3) := by decide +kernel
theorem d_mo_share_26 : decode b_mo_share 26 = .ok (.iload 6, 2) := by decide +kernel
theorem d_mo_share_28 : decode b_mo_share 28 = .ok (.laload, 1) := by decide +kernel
theorem d_mo_share_29 : decode b_mo_share 29 = .ok (.ladd, 1) := by decide +kernel
theorem d_mo_share_30 : decode b_mo_share 30 = .ok (.lstore 4, 2) := by decide +kernel
theorem d_mo_share_32 : decode b_mo_share 32 = .ok (.iinc 6 1, 3) := by decide +kernel
theorem d_mo_share_35 : decode b_mo_share 35 = .ok (.goto (-24), 3) := by decide +kernel
theorem d_mo_share_38 : decode b_mo_share 38 = .ok (.lload_n 1, 1) := by decide +kernel
theorem d_mo_share_39 : decode b_mo_share 39 = .ok (.lconst 0, 1) := by decide +kernel
theorem d_mo_share_40 : decode b_mo_share 40 = .ok (.lcmp, 1) := by decide +kernel
theorem d_mo_share_41 : decode b_mo_share 41 = .ok (.ifCond .lt 30, 3) := by decide +kernel
theorem d_mo_share_44 : decode b_mo_share 44 = .ok (.lload_n 1, 1) := by decide +kernel
theorem d_mo_share_45 : decode b_mo_share 45 = .ok (.ldc2_w 110, 3) := by decide +kernel
theorem d_mo_share_48 : decode b_mo_share 48 = .ok (.lcmp, 1) := by decide +kernel
theorem d_mo_share_49 : decode b_mo_share 49 = .ok (.ifCond .gt 22, 3) := by decide +kernel
theorem d_mo_share_52 : decode b_mo_share 52 = .ok (.iload_n 3, 1) := by decide +kernel
theorem d_mo_share_53 : decode b_mo_share 53 = .ok (.ifCond .lt 18, 3) := by decide +kernel
theorem d_mo_share_56 : decode b_mo_share 56 = .ok (.iload_n 3, 1) := by decide +kernel
theorem d_mo_share_57 : decode b_mo_share 57 = .ok (.aload_n 0, 1) := by decide +kernel
theorem d_mo_share_58 : decode b_mo_share 58 = .ok (.getfield 107, 3) := by decide +kernel
theorem d_mo_share_61 : decode b_mo_share 61 = .ok (.if_icmp .ge 10, 3) := by decide +kernel
theorem d_mo_share_64 : decode b_mo_share 64 = .ok (.lload 4, 2) := by decide +kernel
theorem d_mo_share_66 : decode b_mo_share 66 = .ok (.lconst 0, 1) := by decide +kernel
theorem d_mo_share_67 : decode b_mo_share 67 = .ok (.lcmp, 1) := by decide +kernel
theorem d_mo_share_68 : decode b_mo_share 68 = .ok (.ifCond .ne 7, 3) := by decide +kernel
theorem d_mo_share_71 : decode b_mo_share 71 = .ok (.ldc2_w 112, 3) := by decide +kernel
theorem d_mo_share_74 : decode b_mo_share 74 = .ok (.lreturn, 1) := by decide +kernel
theorem d_mo_share_75 : decode b_mo_share 75 = .ok (.lload_n 1, 1) := by decide +kernel
theorem d_mo_share_76 : decode b_mo_share 76 = .ok (.lstore 6, 2) := by decide +kernel
theorem d_mo_share_78 : decode b_mo_share 78 = .ok (.iconst 0, 1) := by decide +kernel
theorem d_mo_share_79 : decode b_mo_share 79 = .ok (.istore 8, 2) := by decide +kernel
theorem d_mo_share_81 : decode b_mo_share 81 = .ok (.iload 8, 2) := by decide +kernel
theorem d_mo_share_83 : decode b_mo_share 83 = .ok (.aload_n 0, 1) := by decide +kernel
theorem d_mo_share_84 : decode b_mo_share 84 = .ok (.getfield 107, 3) := by decide +kernel
theorem d_mo_share_87 : decode b_mo_share 87 = .ok (.if_icmp .ge 34, 3) := by decide +kernel
theorem d_mo_share_90 : decode b_mo_share 90 = .ok (.lload 6, 2) := by decide +kernel
theorem d_mo_share_92 : decode b_mo_share 92 = .ok (.lload_n 1, 1) := by decide +kernel
theorem d_mo_share_93 : decode b_mo_share 93 = .ok (.aload_n 0, 1) := by decide +kernel
theorem d_mo_share_94 : decode b_mo_share 94 = .ok (.getfield 29, 3) := by decide +kernel
theorem d_mo_share_97 : decode b_mo_share 97 = .ok (.iload 8, 2) := by decide +kernel
theorem d_mo_share_99 : decode b_mo_share 99 = .ok (.laload, 1) := by decide +kernel
theorem d_mo_share_100 : decode b_mo_share 100 = .ok (.lmul, 1) := by decide +kernel
theorem d_mo_share_101 : decode b_mo_share 101 = .ok (.lload 4, 2) := by decide +kernel
theorem d_mo_share_103 : decode b_mo_share 103 = .ok (.ldiv, 1) := by decide +kernel
theorem d_mo_share_104 : decode b_mo_share 104 = .ok (.lsub, 1) := by decide +kernel
theorem d_mo_share_105 : decode b_mo_share 105 = .ok (.lstore 6, 2) := by decide +kernel
theorem d_mo_share_107 : decode b_mo_share 107 = .ok (.aload_n 0, 1) := by decide +kernel
theorem d_mo_share_108 : decode b_mo_share 108 = .ok (.getfield 32, 3) := by decide +kernel
theorem d_mo_share_111 : decode b_mo_share 111 = .ok (.iload 8, 2) := by decide +kernel
theorem d_mo_share_113 : decode b_mo_share 113 = .ok (.iconst 0, 1) := by decide +kernel
theorem d_mo_share_114 : decode b_mo_share 114 = .ok (.bastore, 1) := by decide +kernel
theorem d_mo_share_115 : decode b_mo_share 115 = .ok (.iinc 8 1, 3) := by decide +kernel
theorem d_mo_share_118 : decode b_mo_share 118 = .ok (.goto (-37), 3) := by decide +kernel
theorem d_mo_share_121 : decode b_mo_share 121 = .ok (.lload 6, 2) := by decide +kernel
theorem d_mo_share_123 : decode b_mo_share 123 = .ok (.lconst 0, 1) := by decide +kernel
theorem d_mo_share_124 : decode b_mo_share 124 = .ok (.lcmp, 1) := by decide +kernel
theorem d_mo_share_125 : decode b_mo_share 125 = .ok (.ifCond .le 105, 3) := by decide +kernel
theorem d_mo_share_128 : decode b_mo_share 128 = .ok (.iconst (-1), 1) := by decide +kernel
theorem d_mo_share_129 : decode b_mo_share 129 = .ok (.istore 8, 2) := by decide +kernel
theorem d_mo_share_131 : decode b_mo_share 131 = .ok (.iconst 0, 1) := by decide +kernel
theorem d_mo_share_132 : decode b_mo_share 132 = .ok (.istore 9, 2) := by decide +kernel
theorem d_mo_share_134 : decode b_mo_share 134 = .ok (.iload 9, 2) := by decide +kernel
theorem d_mo_share_136 : decode b_mo_share 136 = .ok (.aload_n 0, 1) := by decide +kernel
theorem d_mo_share_137 : decode b_mo_share 137 = .ok (.getfield 107, 3) := by decide +kernel
theorem d_mo_share_140 : decode b_mo_share 140 = .ok (.if_icmp .ge 73, 3) := by decide +kernel
theorem d_mo_share_143 : decode b_mo_share 143 = .ok (.aload_n 0, 1) := by decide +kernel
theorem d_mo_share_144 : decode b_mo_share 144 = .ok (.getfield 32, 3) := by decide +kernel
theorem d_mo_share_147 : decode b_mo_share 147 = .ok (.iload 9, 2) := by decide +kernel
theorem d_mo_share_149 : decode b_mo_share 149 = .ok (.baload, 1) := by decide +kernel
theorem d_mo_share_150 : decode b_mo_share 150 = .ok (.ifCond .ne 40, 3) := by decide +kernel
theorem d_mo_share_153 : decode b_mo_share 153 = .ok (.iload 8, 2) := by decide +kernel
theorem d_mo_share_155 : decode b_mo_share 155 = .ok (.ifCond .lt 31, 3) := by decide +kernel
theorem d_mo_share_158 : decode b_mo_share 158 = .ok (.lload_n 1, 1) := by decide +kernel
theorem d_mo_share_159 : decode b_mo_share 159 = .ok (.aload_n 0, 1) := by decide +kernel
theorem d_mo_share_160 : decode b_mo_share 160 = .ok (.getfield 29, 3) := by decide +kernel
theorem d_mo_share_163 : decode b_mo_share 163 = .ok (.iload 9, 2) := by decide +kernel
theorem d_mo_share_165 : decode b_mo_share 165 = .ok (.laload, 1) := by decide +kernel
theorem d_mo_share_166 : decode b_mo_share 166 = .ok (.lmul, 1) := by decide +kernel
theorem d_mo_share_167 : decode b_mo_share 167 = .ok (.lload 4, 2) := by decide +kernel
theorem d_mo_share_169 : decode b_mo_share 169 = .ok (.lrem, 1) := by decide +kernel
theorem d_mo_share_170 : decode b_mo_share 170 = .ok (.lload_n 1, 1) := by decide +kernel
theorem d_mo_share_171 : decode b_mo_share 171 = .ok (.aload_n 0, 1) := by decide +kernel
theorem d_mo_share_172 : decode b_mo_share 172 = .ok (.getfield 29, 3) := by decide +kernel
theorem d_mo_share_175 : decode b_mo_share 175 = .ok (.iload 8, 2) := by decide +kernel
theorem d_mo_share_177 : decode b_mo_share 177 = .ok (.laload, 1) := by decide +kernel
theorem d_mo_share_178 : decode b_mo_share 178 = .ok (.lmul, 1) := by decide +kernel
theorem d_mo_share_179 : decode b_mo_share 179 = .ok (.lload 4, 2) := by decide +kernel
theorem d_mo_share_181 : decode b_mo_share 181 = .ok (.lrem, 1) := by decide +kernel
theorem d_mo_share_182 : decode b_mo_share 182 = .ok (.lcmp, 1) := by decide +kernel
theorem d_mo_share_183 : decode b_mo_share 183 = .ok (.ifCond .le 7, 3) := by decide +kernel
theorem d_mo_share_186 : decode b_mo_share 186 = .ok (.iconst 1, 1) := by decide +kernel
theorem d_mo_share_187 : decode b_mo_share 187 = .ok (.goto 4, 3) := by decide +kernel
theorem d_mo_share_190 : decode b_mo_share 190 = .ok (.iconst 0, 1) := by decide +kernel
theorem d_mo_share_191 : decode b_mo_share 191 = .ok (.istore 10, 2) := by decide +kernel
theorem d_mo_share_193 : decode b_mo_share 193 = .ok (.iload 10, 2) := by decide +kernel
theorem d_mo_share_195 : decode b_mo_share 195 = .ok (.ifCond .eq 8, 3) := by decide +kernel
theorem d_mo_share_198 : decode b_mo_share 198 = .ok (.iload 9, 2) := by decide +kernel
theorem d_mo_share_200 : decode b_mo_share 200 = .ok (.goto 5, 3) := by decide +kernel
theorem d_mo_share_203 : decode b_mo_share 203 = .ok (.iload 8, 2) := by decide +kernel
theorem d_mo_share_205 : decode b_mo_share 205 = .ok (.istore 8, 2) := by decide +kernel
theorem d_mo_share_207 : decode b_mo_share 207 = .ok (.iinc 9 1, 3) := by decide +kernel
theorem d_mo_share_210 : decode b_mo_share 210 = .ok (.goto (-76), 3) := by decide +kernel
theorem d_mo_share_213 : decode b_mo_share 213 = .ok (.aload_n 0, 1) := by decide +kernel
theorem d_mo_share_214 : decode b_mo_share 214 = .ok (.getfield 32, 3) := by decide +kernel
theorem d_mo_share_217 : decode b_mo_share 217 = .ok (.iload 8, 2) := by decide +kernel
theorem d_mo_share_219 : decode b_mo_share 219 = .ok (.iconst 1, 1) := by decide +kernel
theorem d_mo_share_220 : decode b_mo_share 220 = .ok (.bastore, 1) := by decide +kernel
theorem d_mo_share_221 : decode b_mo_share 221 = .ok (.lload 6, 2) := by decide +kernel
theorem d_mo_share_223 : decode b_mo_share 223 = .ok (.lconst 1, 1) := by decide +kernel
theorem d_mo_share_224 : decode b_mo_share 224 = .ok (.lsub, 1) := by decide +kernel
theorem d_mo_share_225 : decode b_mo_share 225 = .ok (.lstore 6, 2) := by decide +kernel
theorem d_mo_share_227 : decode b_mo_share 227 = .ok (.goto (-106), 3) := by decide +kernel
theorem d_mo_share_230 : decode b_mo_share 230 = .ok (.lload_n 1, 1) := by decide +kernel
theorem d_mo_share_231 : decode b_mo_share 231 = .ok (.aload_n 0, 1) := by decide +kernel
theorem d_mo_share_232 : decode b_mo_share 232 = .ok (.getfield 29, 3) := by decide +kernel
theorem d_mo_share_235 : decode b_mo_share 235 = .ok (.iload_n 3, 1) := by decide +kernel
theorem d_mo_share_236 : decode b_mo_share 236 = .ok (.laload, 1) := by decide +kernel
theorem d_mo_share_237 : decode b_mo_share 237 = .ok (.lmul, 1) := by decide +kernel
theorem d_mo_share_238 : decode b_mo_share 238 = .ok (.lload 4, 2) := by decide +kernel
theorem d_mo_share_240 : decode b_mo_share 240 = .ok (.ldiv, 1) := by decide +kernel
theorem d_mo_share_241 : decode b_mo_share 241 = .ok (.aload_n 0, 1) := by decide +kernel
theorem d_mo_share_242 : decode b_mo_share 242 = .ok (.getfield 32, 3) := by decide +kernel
theorem d_mo_share_245 : decode b_mo_share 245 = .ok (.iload_n 3, 1) := by decide +kernel
theorem d_mo_share_246 : decode b_mo_share 246 = .ok (.baload, 1) := by decide +kernel
theorem d_mo_share_247 : decode b_mo_share 247 = .ok (.ifCond .eq 7, 3) := by decide +kernel
theorem d_mo_share_250 : decode b_mo_share 250 = .ok (.lconst 1, 1) := by decide +kernel
theorem d_mo_share_251 : decode b_mo_share 251 = .ok (.goto 4, 3) := by decide +kernel
theorem d_mo_share_254 : decode b_mo_share 254 = .ok (.lconst 0, 1) := by decide +kernel
theorem d_mo_share_255 : decode b_mo_share 255 = .ok (.ladd, 1) := by decide +kernel
theorem d_mo_share_256 : decode b_mo_share 256 = .ok (.lreturn, 1) := by decide +kernel
theorem k_185 : (.fieldLink R_mo 32 "KilogramRowsModel" "given" "[Z" : Cond) ∈ kt_T := List.mem_filter.mpr ⟨List.mem_of_getElem? (i := 424) (by decide +kernel), by decide +kernel⟩
theorem k_186 : (.constantLong R_mo 112 (-1) : Cond) ∈ kt_T := List.mem_filter.mpr ⟨List.mem_of_getElem? (i := 580) (by decide +kernel), by decide +kernel⟩
theorem k_187 : (.constantLong R_mo 110 1000000000000 : Cond) ∈ kt_T := List.mem_filter.mpr ⟨List.mem_of_getElem? (i := 579) (by decide +kernel), by decide +kernel⟩
section KZ
variable {p : Program} {l : Launch} {e : Env} {R : Room} {s : State} {m : MethodId} {args : Array Value} {below : List Frame} {meth : Method} {c : Code} {H H0 : Heap} {locs : List Loc} {cells slots : Nat} {Q : State → Prop}
variable {cc : ByteArray} {pc : Nat} {ls : Array Slot} {rest : List Value} {D : va_G} {cl : List vw_C} {tys : List (ClassId × FieldType)} {ws : va_W} {a : Nat} {A : Nat → Prop}
theorem va_zaldN (hexec : p.tables.exec = Jvm.exec) (hb : c.code = cc) (hK : va_K D cl tys s) (hP : va_P D cl ws H) (q0 t0 : Nat) {cA : ClassId} {n : Nat} {f : Nat → Int32} (ha : ws[q0]? = some (a, .inl (cA, n, .inl f))) (ht : tys[t0]? = some (cA, .boolean)) {i : Nat} (hin : i < n ∧ n < 2 ^ 31) (hdg : decode cc pc = .ok (.baload, 1))
    (kk : W p l e R s m args below meth c H locs cells slots Q (F0 m (pc + 1) ls (.int (f i) :: rest))) : W p l e R s m args below meth c H locs cells slots Q (F0 m pc ls (.int (nI i) :: .ref a :: rest)) :=
  va_zald hexec hb hK hP q0 t0 ha ht (vp_in_nI hin.1 hin.2) hdg (by rw [nI_clamp (Nat.lt_trans hin.1 hin.2)]; exact kk)
theorem va_zastN (hexec : p.tables.exec = Jvm.exec) (hb : c.code = cc) (hK : va_K D cl tys s) (hP : va_P D cl ws H) (hD : va_D A ws) (hS : va_S A H0 H locs) (q0 t0 : Nat) {cA : ClassId} {n : Nat} {f : Nat → Int32} (ha : ws[q0]? = some (a, .inl (cA, n, .inl f))) (ht : tys[t0]? = some (cA, .boolean)) {i : Nat} {x : Int32} (hin : i < n ∧ n < 2 ^ 31) (hdg : decode cc pc = .ok (.bastore, 1))
    (kk : ∀ (H1 : Heap) (locs1 : List Loc), va_P D cl (ws.set q0 (a, .inl (cA, n, .inl (upd f i (vp_nar .boolean x))))) H1 → va_D A (ws.set q0 (a, .inl (cA, n, .inl (upd f i (vp_nar .boolean x))))) → va_S A H0 H1 locs1 → W p l e R s m args below meth c H1 locs1 cells slots Q (F0 m (pc + 1) ls rest)) : W p l e R s m args below meth c H locs cells slots Q (F0 m pc ls (.int x :: .int (nI i) :: .ref a :: rest)) :=
  va_zast hexec hb hK hP hD hS q0 t0 ha ht (vp_in_nI hin.1 hin.2) hdg (by rw [nI_clamp (Nat.lt_trans hin.1 hin.2)]; exact kk)
end KZ
/-- all weights: d are left, from i on -/
def alL (gw : Nat → Int64) : Nat → Nat → Int64 → Int64
  | 0, _, a => a
  | d + 1, i, a => alL gw d (i + 1) (a + gw i)
/-- what is left behind the shares, and nobody given: d are left, from i on -/
def lfL (gw : Nat → Int64) (whole all : Int64) : Nat → Nat → Int64 → (Nat → Int32) → Int64 × (Nat → Int32)
  | 0, _, x, f => (x, f)
  | d + 1, i, x, f => lfL gw whole all d (i + 1) (x - (whole * (gw i)) / all) (upd f i (vp_nar .boolean 0))
/-- the best of those not given: d are left, from i on -/
def beL (gw : Nat → Int64) (f : Nat → Int32) (whole all : Int64) : Nat → Nat → Int32 → Int32
  | 0, _, b => b
  | d + 1, i, b => if f i = 0 then (if b < 0 then beL gw f whole all d (i + 1) (nI i) else if ((whole * (gw i)) - (whole * (gw i)) / all * all) ≤ ((whole * (gw b.toNatClampNeg)) - (whole * (gw b.toNatClampNeg)) / all * all) then beL gw f whole all d (i + 1) b else beL gw f whole all d (i + 1) (nI i)) else beL gw f whole all d (i + 1) b
/-- the ones are given: d are left -/
def giL (gw : Nat → Int64) (whole all : Int64) (n : Nat) : Nat → (Nat → Int32) → Nat → Int32
  | 0, f => f
  | d + 1, f => giL gw whole all n d (upd f (beL gw f whole all n 0 (-1)).toNatClampNeg (vp_nar .boolean 1))
/-- there is always a best one -/
def giOk (gw : Nat → Int64) (whole all : Int64) (n : Nat) : Nat → (Nat → Int32) → Prop
  | 0, _ => True
  | d + 1, f => vp_in (beL gw f whole all n 0 (-1)) 12 ∧ giOk gw whole all n d (upd f (beL gw f whole all n 0 (-1)).toNatClampNeg (vp_nar .boolean 1))
theorem lN_nle {d : Nat} (h : d < 2 ^ 31) (h2 : ¬ d = 0) : ¬ lN d ≤ 0 := fun q => h2 (Nat.le_zero.mp ((lN_le h (by decide)).mp q))
theorem lN_pred {d : Nat} : lN (d + 1) - 1 = lN d := lN_sub (Nat.le_add_left 1 d)
set_option maxHeartbeats 4000000 in
theorem lp_mo_al {p : Program} {l : Launch} {e : Env} {R : Room} {s : State} {m : MethodId} {args : Array Value} {below : List Frame} {meth : Method} {c : Code} {dC : Nat → ClassId} {dI : Nat → Nat → Nat} {A : Nat → Prop} {gg : Nat → Int32} {Q : State → Prop} {m0 : Nat} {mwg : Nat} {mgv : Nat} {mk : Int32} {mv : Int32} {mu : Nat} {md : Nat} {up : Int64} {dn : Int64} {mr : Int32} {mc : Nat} {me : Nat} {so : Int32} {mau : Nat} {mad : Nat} {mw : Int32} {msq : Nat} {cmw : ClassId} {gw : Nat → Int64} {cmg : ClassId} {whole : Int64} {k : Int32} (hx : p.tables.exec = Jvm.exec) (hb : c.code = b_mo_share) (hml : c.maxLocals = 11) (hown : s.vm.findClass R_mo = some m.cls) (hT : ∀ w ∈ kt_T, w.before args s = true) (hA : ∀ q : Nat, s.heap.size ≤ q → A q) (hK : va_K (dC, dI) classes [(cmw, .long), (cmg, .boolean)] s) {N : Nat} (hN : N ≤ 12) (hN2 : mw = nI N) :
    ∀ (d i : Nat) (a : Int64), i + d = N → (∀ (H : Heap) (locs : List Loc) (ls : Array Slot), va_P (dC, dI) classes [(m0, .inr (4, [.int 0, .int mk, .int mv, .ref mu, .ref md, .long up, .long dn, .int mr, .ref mc, .ref me, .int so, .ref mau, .ref mad, .int mw, .ref mwg, .ref mgv, .ref msq])), (mwg, .inl (cmw, 12, .inr (.inl gw))), (mgv, .inl (cmg, 12, .inl gg))] H → va_D A [(m0, .inr (4, [.int 0, .int mk, .int mv, .ref mu, .ref md, .long up, .long dn, .int mr, .ref mc, .ref me, .int so, .ref mau, .ref mad, .int mw, .ref mwg, .ref mgv, .ref msq])), (mwg, .inl (cmw, 12, .inr (.inl gw))), (mgv, .inl (cmg, 12, .inl gg))] → va_S A s.heap H locs → lv_has ls 11 [(0, .ref m0), (1, .long whole), (3, .int k), (4, .long (alL gw d i a))] → W p l e R s m args below meth c H locs 0 0 Q (F0 m 38 ls [])) → ∀ (H : Heap) (locs : List Loc) (ls : Array Slot), va_P (dC, dI) classes [(m0, .inr (4, [.int 0, .int mk, .int mv, .ref mu, .ref md, .long up, .long dn, .int mr, .ref mc, .ref me, .int so, .ref mau, .ref mad, .int mw, .ref mwg, .ref mgv, .ref msq])), (mwg, .inl (cmw, 12, .inr (.inl gw))), (mgv, .inl (cmg, 12, .inl gg))] H → va_D A [(m0, .inr (4, [.int 0, .int mk, .int mv, .ref mu, .ref md, .long up, .long dn, .int mr, .ref mc, .ref me, .int so, .ref mau, .ref mad, .int mw, .ref mwg, .ref mgv, .ref msq])), (mwg, .inl (cmw, 12, .inr (.inl gw))), (mgv, .inl (cmg, 12, .inl gg))] → va_S A s.heap H locs → lv_has ls 11 [(0, .ref m0), (1, .long whole), (3, .int k), (4, .long a), (6, .int (nI i))] → W p l e R s m args below meth c H locs 0 0 Q (F0 m 11 ls []) := by
  intro d
  induction d with
  | zero =>
    intro i a hi hk H locs ls hP hD hS hl
    refine lv_iload hx hb d_mo_share_11 (lv_at hl 4 rfl) ?_
    refine lv_aload_n hx hb d_mo_share_13 rfl (lv_at hl 0 rfl) ?_
    refine va_get (D := (dC, dI)) (ci := 4) (v := .int mw) (C := R_mo) (T := F_mo) (N := 17) hx hb hT i_mo hown hK hP 0 rfl rfl 13 (by decide) (hT _ k_168) (fun _ h9 => h9) rfl d_mo_share_14 ?_
    refine lv_icmp_ge (tgt := 38) hx hb d_mo_share_17 (by decide) (fun c_1 => ?_) (fun c_1 => ?_)
    · exact hk H locs ls hP hD hS (lv_sub hl [0, 1, 2, 3] rfl)
    · exact absurd (by rw [hN2]; exact nI_le (show N ≤ i by omega) (by omega)) c_1
  | succ d ih =>
    intro i a hi hk H locs ls hP hD hS hl
    refine lv_iload hx hb d_mo_share_11 (lv_at hl 4 rfl) ?_
    refine lv_aload_n hx hb d_mo_share_13 rfl (lv_at hl 0 rfl) ?_
    refine va_get (D := (dC, dI)) (ci := 4) (v := .int mw) (C := R_mo) (T := F_mo) (N := 17) hx hb hT i_mo hown hK hP 0 rfl rfl 13 (by decide) (hT _ k_168) (fun _ h9 => h9) rfl d_mo_share_14 ?_
    refine lv_icmp_ge (tgt := 38) hx hb d_mo_share_17 (by decide) (fun c_2 => ?_) (fun c_2 => ?_)
    · exact absurd c_2 (by rw [hN2]; exact nI_ge (show i < N by omega) (by omega))
    · refine lv_lload hx hb d_mo_share_20 (lv_at hl 3 rfl) ?_
      refine lv_aload_n hx hb d_mo_share_22 rfl (lv_at hl 0 rfl) ?_
      refine va_get (D := (dC, dI)) (ci := 4) (v := .ref mwg) (C := R_mo) (T := F_mo) (N := 17) hx hb hT i_mo hown hK hP 0 rfl rfl 14 (by decide) (hT _ k_169) (fun _ h9 => h9) rfl d_mo_share_23 ?_
      refine lv_iload hx hb d_mo_share_26 (lv_at hl 4 rfl) ?_
      refine va_laldN (i := i) hx hb hK hP 1 0 rfl rfl ⟨by omega, by decide⟩ d_mo_share_28 ?_
      refine lv_ladd hx hb d_mo_share_29 ?_
      refine lv_lstore (lv' := [(4, .long (a + (gw i))), (0, .ref m0), (1, .long whole), (3, .int k), (6, .int (nI i))]) hx hb d_mo_share_30 hl (by decide) rfl (fun ls hl => ?_)
      refine lv_iinc (v := (nI i) + 1) (lv' := [(6, .int ((nI i) + 1)), (4, .long (a + (gw i))), (0, .ref m0), (1, .long whole), (3, .int k)]) hx hb d_mo_share_32 hl (k := 4) rfl rfl (by decide) rfl (fun ls hl => ?_)
      refine lv_goto (tgt := 11) hx hb d_mo_share_35 (by decide) ?_
      exact ih (i + 1) _ (by omega) hk H locs ls hP hD hS (by have h9 := lv_sub hl [2, 3, 4, 1, 0] rfl; rw [nI_1] at h9; exact h9)
set_option maxHeartbeats 4000000 in
theorem lp_mo_lf {p : Program} {l : Launch} {e : Env} {R : Room} {s : State} {m : MethodId} {args : Array Value} {below : List Frame} {meth : Method} {c : Code} {dC : Nat → ClassId} {dI : Nat → Nat → Nat} {A : Nat → Prop} {Q : State → Prop} {m0 : Nat} {mwg : Nat} {mgv : Nat} {mk : Int32} {mv : Int32} {mu : Nat} {md : Nat} {up : Int64} {dn : Int64} {mr : Int32} {mc : Nat} {me : Nat} {so : Int32} {mau : Nat} {mad : Nat} {mw : Int32} {msq : Nat} {cmw : ClassId} {gw : Nat → Int64} {cmg : ClassId} {whole : Int64} {k : Int32} (hx : p.tables.exec = Jvm.exec) (hb : c.code = b_mo_share) (hml : c.maxLocals = 11) (hown : s.vm.findClass R_mo = some m.cls) (hT : ∀ w ∈ kt_T, w.before args s = true) (hA : ∀ q : Nat, s.heap.size ≤ q → A q) (hK : va_K (dC, dI) classes [(cmw, .long), (cmg, .boolean)] s) {N : Nat} (hN : N ≤ 12) (hN2 : mw = nI N) {all : Int64} (h0 : ¬ all = 0) :
    ∀ (d i : Nat) (x : Int64) (f : Nat → Int32), i + d = N → (∀ (H : Heap) (locs : List Loc) (ls : Array Slot), va_P (dC, dI) classes [(m0, .inr (4, [.int 0, .int mk, .int mv, .ref mu, .ref md, .long up, .long dn, .int mr, .ref mc, .ref me, .int so, .ref mau, .ref mad, .int mw, .ref mwg, .ref mgv, .ref msq])), (mwg, .inl (cmw, 12, .inr (.inl gw))), (mgv, .inl (cmg, 12, .inl ((lfL gw whole all d i x f).2)))] H → va_D A [(m0, .inr (4, [.int 0, .int mk, .int mv, .ref mu, .ref md, .long up, .long dn, .int mr, .ref mc, .ref me, .int so, .ref mau, .ref mad, .int mw, .ref mwg, .ref mgv, .ref msq])), (mwg, .inl (cmw, 12, .inr (.inl gw))), (mgv, .inl (cmg, 12, .inl ((lfL gw whole all d i x f).2)))] → va_S A s.heap H locs → lv_has ls 11 [(0, .ref m0), (1, .long whole), (3, .int k), (4, .long all), (6, .long ((lfL gw whole all d i x f).1))] → W p l e R s m args below meth c H locs 0 0 Q (F0 m 121 ls [])) → ∀ (H : Heap) (locs : List Loc) (ls : Array Slot), va_P (dC, dI) classes [(m0, .inr (4, [.int 0, .int mk, .int mv, .ref mu, .ref md, .long up, .long dn, .int mr, .ref mc, .ref me, .int so, .ref mau, .ref mad, .int mw, .ref mwg, .ref mgv, .ref msq])), (mwg, .inl (cmw, 12, .inr (.inl gw))), (mgv, .inl (cmg, 12, .inl f))] H → va_D A [(m0, .inr (4, [.int 0, .int mk, .int mv, .ref mu, .ref md, .long up, .long dn, .int mr, .ref mc, .ref me, .int so, .ref mau, .ref mad, .int mw, .ref mwg, .ref mgv, .ref msq])), (mwg, .inl (cmw, 12, .inr (.inl gw))), (mgv, .inl (cmg, 12, .inl f))] → va_S A s.heap H locs → lv_has ls 11 [(0, .ref m0), (1, .long whole), (3, .int k), (4, .long all), (6, .long x), (8, .int (nI i))] → W p l e R s m args below meth c H locs 0 0 Q (F0 m 81 ls []) := by
  intro d
  induction d with
  | zero =>
    intro i x f hi hk H locs ls hP hD hS hl
    refine lv_iload hx hb d_mo_share_81 (lv_at hl 5 rfl) ?_
    refine lv_aload_n hx hb d_mo_share_83 rfl (lv_at hl 0 rfl) ?_
    refine va_get (D := (dC, dI)) (ci := 4) (v := .int mw) (C := R_mo) (T := F_mo) (N := 17) hx hb hT i_mo hown hK hP 0 rfl rfl 13 (by decide) (hT _ k_168) (fun _ h9 => h9) rfl d_mo_share_84 ?_
    refine lv_icmp_ge (tgt := 121) hx hb d_mo_share_87 (by decide) (fun c_3 => ?_) (fun c_3 => ?_)
    · exact hk H locs ls hP hD hS (lv_sub hl [0, 1, 2, 3, 4] rfl)
    · exact absurd (by rw [hN2]; exact nI_le (show N ≤ i by omega) (by omega)) c_3
  | succ d ih =>
    intro i x f hi hk H locs ls hP hD hS hl
    refine lv_iload hx hb d_mo_share_81 (lv_at hl 5 rfl) ?_
    refine lv_aload_n hx hb d_mo_share_83 rfl (lv_at hl 0 rfl) ?_
    refine va_get (D := (dC, dI)) (ci := 4) (v := .int mw) (C := R_mo) (T := F_mo) (N := 17) hx hb hT i_mo hown hK hP 0 rfl rfl 13 (by decide) (hT _ k_168) (fun _ h9 => h9) rfl d_mo_share_84 ?_
    refine lv_icmp_ge (tgt := 121) hx hb d_mo_share_87 (by decide) (fun c_4 => ?_) (fun c_4 => ?_)
    · exact absurd c_4 (by rw [hN2]; exact nI_ge (show i < N by omega) (by omega))
    · refine lv_lload hx hb d_mo_share_90 (lv_at hl 4 rfl) ?_
      refine lv_lload_n hx hb d_mo_share_92 rfl (lv_at hl 1 rfl) ?_
      refine lv_aload_n hx hb d_mo_share_93 rfl (lv_at hl 0 rfl) ?_
      refine va_get (D := (dC, dI)) (ci := 4) (v := .ref mwg) (C := R_mo) (T := F_mo) (N := 17) hx hb hT i_mo hown hK hP 0 rfl rfl 14 (by decide) (hT _ k_169) (fun _ h9 => h9) rfl d_mo_share_94 ?_
      refine lv_iload hx hb d_mo_share_97 (lv_at hl 5 rfl) ?_
      refine va_laldN (i := i) hx hb hK hP 1 0 rfl rfl ⟨by omega, by decide⟩ d_mo_share_99 ?_
      refine lv_lmul hx hb d_mo_share_100 ?_
      refine lv_lload hx hb d_mo_share_101 (lv_at hl 3 rfl) ?_
      refine lv_ldiv hx hb d_mo_share_103 h0 ?_
      refine lv_lsub hx hb d_mo_share_104 ?_
      refine lv_lstore (lv' := [(6, .long (x - ((whole * (gw i)) / all))), (0, .ref m0), (1, .long whole), (3, .int k), (4, .long all), (8, .int (nI i))]) hx hb d_mo_share_105 hl (by decide) rfl (fun ls hl => ?_)
      refine lv_aload_n hx hb d_mo_share_107 rfl (lv_at hl 1 rfl) ?_
      refine va_get (D := (dC, dI)) (ci := 4) (v := .ref mgv) (C := R_mo) (T := F_mo) (N := 17) hx hb hT i_mo hown hK hP 0 rfl rfl 15 (by decide) (hT _ k_185) (fun _ h9 => h9) rfl d_mo_share_108 ?_
      refine lv_iload hx hb d_mo_share_111 (lv_at hl 5 rfl) ?_
      refine lv_iconst (v := 0) hx hb d_mo_share_113 (by decide) ?_
      refine va_zastN (i := i) hx hb hK hP hD hS 2 1 rfl rfl ⟨by omega, by decide⟩ d_mo_share_114 (fun H locs hP hD hS => ?_)
      have hP : va_P (dC, dI) classes [(m0, .inr (4, [.int 0, .int mk, .int mv, .ref mu, .ref md, .long up, .long dn, .int mr, .ref mc, .ref me, .int so, .ref mau, .ref mad, .int mw, .ref mwg, .ref mgv, .ref msq])), (mwg, .inl (cmw, 12, .inr (.inl gw))), (mgv, .inl (cmg, 12, .inl (upd f i (vp_nar .boolean 0))))] H := hP
      have hD : va_D A [(m0, .inr (4, [.int 0, .int mk, .int mv, .ref mu, .ref md, .long up, .long dn, .int mr, .ref mc, .ref me, .int so, .ref mau, .ref mad, .int mw, .ref mwg, .ref mgv, .ref msq])), (mwg, .inl (cmw, 12, .inr (.inl gw))), (mgv, .inl (cmg, 12, .inl (upd f i (vp_nar .boolean 0))))] := hD
      refine lv_iinc (v := (nI i) + 1) (lv' := [(8, .int ((nI i) + 1)), (6, .long (x - ((whole * (gw i)) / all))), (0, .ref m0), (1, .long whole), (3, .int k), (4, .long all)]) hx hb d_mo_share_115 hl (k := 5) rfl rfl (by decide) rfl (fun ls hl => ?_)
      refine lv_goto (tgt := 81) hx hb d_mo_share_118 (by decide) ?_
      exact ih (i + 1) _ _ (by omega) hk H locs ls hP hD hS (by have h9 := lv_sub hl [2, 3, 4, 5, 1, 0] rfl; rw [nI_1] at h9; exact h9)
set_option maxHeartbeats 4000000 in
theorem lp_mo_be {p : Program} {l : Launch} {e : Env} {R : Room} {s : State} {m : MethodId} {args : Array Value} {below : List Frame} {meth : Method} {c : Code} {dC : Nat → ClassId} {dI : Nat → Nat → Nat} {A : Nat → Prop} {Q : State → Prop} {m0 : Nat} {mwg : Nat} {mgv : Nat} {mk : Int32} {mv : Int32} {mu : Nat} {md : Nat} {up : Int64} {dn : Int64} {mr : Int32} {mc : Nat} {me : Nat} {so : Int32} {mau : Nat} {mad : Nat} {mw : Int32} {msq : Nat} {cmw : ClassId} {gw : Nat → Int64} {cmg : ClassId} {whole : Int64} {k : Int32} (hx : p.tables.exec = Jvm.exec) (hb : c.code = b_mo_share) (hml : c.maxLocals = 11) (hown : s.vm.findClass R_mo = some m.cls) (hT : ∀ w ∈ kt_T, w.before args s = true) (hA : ∀ q : Nat, s.heap.size ≤ q → A q) (hK : va_K (dC, dI) classes [(cmw, .long), (cmg, .boolean)] s) {N : Nat} (hN : N ≤ 12) (hN2 : mw = nI N) {all x : Int64} {f : Nat → Int32} (h0 : ¬ all = 0) :
    ∀ (d i : Nat) (b : Int32), i + d = N → (¬ b < 0 → vp_in b 12) → (∀ (H : Heap) (locs : List Loc) (ls : Array Slot), va_P (dC, dI) classes [(m0, .inr (4, [.int 0, .int mk, .int mv, .ref mu, .ref md, .long up, .long dn, .int mr, .ref mc, .ref me, .int so, .ref mau, .ref mad, .int mw, .ref mwg, .ref mgv, .ref msq])), (mwg, .inl (cmw, 12, .inr (.inl gw))), (mgv, .inl (cmg, 12, .inl f))] H → va_D A [(m0, .inr (4, [.int 0, .int mk, .int mv, .ref mu, .ref md, .long up, .long dn, .int mr, .ref mc, .ref me, .int so, .ref mau, .ref mad, .int mw, .ref mwg, .ref mgv, .ref msq])), (mwg, .inl (cmw, 12, .inr (.inl gw))), (mgv, .inl (cmg, 12, .inl f))] → va_S A s.heap H locs → lv_has ls 11 [(0, .ref m0), (1, .long whole), (3, .int k), (4, .long all), (6, .long x), (8, .int (beL gw f whole all d i b))] → W p l e R s m args below meth c H locs 0 0 Q (F0 m 213 ls [])) → ∀ (H : Heap) (locs : List Loc) (ls : Array Slot), va_P (dC, dI) classes [(m0, .inr (4, [.int 0, .int mk, .int mv, .ref mu, .ref md, .long up, .long dn, .int mr, .ref mc, .ref me, .int so, .ref mau, .ref mad, .int mw, .ref mwg, .ref mgv, .ref msq])), (mwg, .inl (cmw, 12, .inr (.inl gw))), (mgv, .inl (cmg, 12, .inl f))] H → va_D A [(m0, .inr (4, [.int 0, .int mk, .int mv, .ref mu, .ref md, .long up, .long dn, .int mr, .ref mc, .ref me, .int so, .ref mau, .ref mad, .int mw, .ref mwg, .ref mgv, .ref msq])), (mwg, .inl (cmw, 12, .inr (.inl gw))), (mgv, .inl (cmg, 12, .inl f))] → va_S A s.heap H locs → lv_has ls 11 [(0, .ref m0), (1, .long whole), (3, .int k), (4, .long all), (6, .long x), (8, .int b), (9, .int (nI i))] → W p l e R s m args below meth c H locs 0 0 Q (F0 m 134 ls []) := by
  intro d
  induction d with
  | zero =>
    intro i b hi hb9 hk H locs ls hP hD hS hl
    refine lv_iload hx hb d_mo_share_134 (lv_at hl 6 rfl) ?_
    refine lv_aload_n hx hb d_mo_share_136 rfl (lv_at hl 0 rfl) ?_
    refine va_get (D := (dC, dI)) (ci := 4) (v := .int mw) (C := R_mo) (T := F_mo) (N := 17) hx hb hT i_mo hown hK hP 0 rfl rfl 13 (by decide) (hT _ k_168) (fun _ h9 => h9) rfl d_mo_share_137 ?_
    refine lv_icmp_ge (tgt := 213) hx hb d_mo_share_140 (by decide) (fun c_5 => ?_) (fun c_5 => ?_)
    · exact hk H locs ls hP hD hS (lv_sub hl [0, 1, 2, 3, 4, 5] rfl)
    · exact absurd (by rw [hN2]; exact nI_le (show N ≤ i by omega) (by omega)) c_5
  | succ d ih =>
    intro i b hi hb9 hk H locs ls hP hD hS hl
    refine lv_iload hx hb d_mo_share_134 (lv_at hl 6 rfl) ?_
    refine lv_aload_n hx hb d_mo_share_136 rfl (lv_at hl 0 rfl) ?_
    refine va_get (D := (dC, dI)) (ci := 4) (v := .int mw) (C := R_mo) (T := F_mo) (N := 17) hx hb hT i_mo hown hK hP 0 rfl rfl 13 (by decide) (hT _ k_168) (fun _ h9 => h9) rfl d_mo_share_137 ?_
    refine lv_icmp_ge (tgt := 213) hx hb d_mo_share_140 (by decide) (fun c_6 => ?_) (fun c_6 => ?_)
    · exact absurd c_6 (by rw [hN2]; exact nI_ge (show i < N by omega) (by omega))
    · refine lv_aload_n hx hb d_mo_share_143 rfl (lv_at hl 0 rfl) ?_
      refine va_get (D := (dC, dI)) (ci := 4) (v := .ref mgv) (C := R_mo) (T := F_mo) (N := 17) hx hb hT i_mo hown hK hP 0 rfl rfl 15 (by decide) (hT _ k_185) (fun _ h9 => h9) rfl d_mo_share_144 ?_
      refine lv_iload hx hb d_mo_share_147 (lv_at hl 6 rfl) ?_
      refine va_zaldN (i := i) hx hb hK hP 2 1 rfl rfl ⟨by omega, by decide⟩ d_mo_share_149 ?_
      refine lv_if_ne (tgt := 190) hx hb d_mo_share_150 (by decide) (fun c_7 => ?_) (fun c_7 => ?_)
      · refine lv_iconst (v := 0) hx hb d_mo_share_190 (by decide) ?_
        refine lv_istore (lv' := [(10, .int 0), (0, .ref m0), (1, .long whole), (3, .int k), (4, .long all), (6, .long x), (8, .int b), (9, .int (nI i))]) hx hb d_mo_share_191 hl (by decide) rfl (fun ls hl => ?_)
        refine lv_iload hx hb d_mo_share_193 (lv_at hl 0 rfl) ?_
        refine lv_if_eq (tgt := 203) hx hb d_mo_share_195 (by decide) (fun c_8 => ?_) (fun c_8 => ?_)
        · refine lv_iload hx hb d_mo_share_203 (lv_at hl 6 rfl) ?_
          refine lv_istore (lv' := [(8, .int b), (10, .int 0), (0, .ref m0), (1, .long whole), (3, .int k), (4, .long all), (6, .long x), (9, .int (nI i))]) hx hb d_mo_share_205 hl (by decide) rfl (fun ls hl => ?_)
          refine lv_iinc (v := (nI i) + 1) (lv' := [(9, .int ((nI i) + 1)), (8, .int b), (10, .int 0), (0, .ref m0), (1, .long whole), (3, .int k), (4, .long all), (6, .long x)]) hx hb d_mo_share_207 hl (k := 7) rfl rfl (by decide) rfl (fun ls hl => ?_)
          refine lv_goto (tgt := 134) hx hb d_mo_share_210 (by decide) ?_
          exact ih (i + 1) _ (by omega) hb9 (by rw [beL, if_neg c_7] at hk; exact hk) H locs ls hP hD hS (by have h9 := lv_sub hl [3, 4, 5, 6, 7, 1, 0] rfl; rw [nI_1] at h9; exact h9)
        · exact absurd c_8 (by decide)
      · refine lv_iload hx hb d_mo_share_153 (lv_at hl 5 rfl) ?_
        refine lv_if_lt (tgt := 186) hx hb d_mo_share_155 (by decide) (fun c_9 => ?_) (fun c_9 => ?_)
        · refine lv_iconst (v := 1) hx hb d_mo_share_186 (by decide) ?_
          refine lv_goto (tgt := 191) hx hb d_mo_share_187 (by decide) ?_
          refine lv_istore (lv' := [(10, .int 1), (0, .ref m0), (1, .long whole), (3, .int k), (4, .long all), (6, .long x), (8, .int b), (9, .int (nI i))]) hx hb d_mo_share_191 hl (by decide) rfl (fun ls hl => ?_)
          refine lv_iload hx hb d_mo_share_193 (lv_at hl 0 rfl) ?_
          refine lv_if_eq (tgt := 203) hx hb d_mo_share_195 (by decide) (fun c_10 => ?_) (fun c_10 => ?_)
          · exact absurd c_10 (by decide)
          · refine lv_iload hx hb d_mo_share_198 (lv_at hl 7 rfl) ?_
            refine lv_goto (tgt := 205) hx hb d_mo_share_200 (by decide) ?_
            refine lv_istore (lv' := [(8, .int (nI i)), (10, .int 1), (0, .ref m0), (1, .long whole), (3, .int k), (4, .long all), (6, .long x), (9, .int (nI i))]) hx hb d_mo_share_205 hl (by decide) rfl (fun ls hl => ?_)
            refine lv_iinc (v := (nI i) + 1) (lv' := [(9, .int ((nI i) + 1)), (8, .int (nI i)), (10, .int 1), (0, .ref m0), (1, .long whole), (3, .int k), (4, .long all), (6, .long x)]) hx hb d_mo_share_207 hl (k := 7) rfl rfl (by decide) rfl (fun ls hl => ?_)
            refine lv_goto (tgt := 134) hx hb d_mo_share_210 (by decide) ?_
            exact ih (i + 1) _ (by omega) (fun _ => vp_in_nI (show i < 12 by omega) (by decide)) (by rw [beL, if_pos c_7, if_pos c_9] at hk; exact hk) H locs ls hP hD hS (by have h9 := lv_sub hl [3, 4, 5, 6, 7, 1, 0] rfl; rw [nI_1] at h9; exact h9)
        · refine lv_lload_n hx hb d_mo_share_158 rfl (lv_at hl 1 rfl) ?_
          refine lv_aload_n hx hb d_mo_share_159 rfl (lv_at hl 0 rfl) ?_
          refine va_get (D := (dC, dI)) (ci := 4) (v := .ref mwg) (C := R_mo) (T := F_mo) (N := 17) hx hb hT i_mo hown hK hP 0 rfl rfl 14 (by decide) (hT _ k_169) (fun _ h9 => h9) rfl d_mo_share_160 ?_
          refine lv_iload hx hb d_mo_share_163 (lv_at hl 6 rfl) ?_
          refine va_laldN (i := i) hx hb hK hP 1 0 rfl rfl ⟨by omega, by decide⟩ d_mo_share_165 ?_
          refine lv_lmul hx hb d_mo_share_166 ?_
          refine lv_lload hx hb d_mo_share_167 (lv_at hl 3 rfl) ?_
          refine lv_lrem hx hb d_mo_share_169 h0 ?_
          refine lv_lload_n hx hb d_mo_share_170 rfl (lv_at hl 1 rfl) ?_
          refine lv_aload_n hx hb d_mo_share_171 rfl (lv_at hl 0 rfl) ?_
          refine va_get (D := (dC, dI)) (ci := 4) (v := .ref mwg) (C := R_mo) (T := F_mo) (N := 17) hx hb hT i_mo hown hK hP 0 rfl rfl 14 (by decide) (hT _ k_169) (fun _ h9 => h9) rfl d_mo_share_172 ?_
          refine lv_iload hx hb d_mo_share_175 (lv_at hl 5 rfl) ?_
          refine va_lald hx hb hK hP 1 0 rfl rfl (hb9 c_9) d_mo_share_177 ?_
          refine lv_lmul hx hb d_mo_share_178 ?_
          refine lv_lload hx hb d_mo_share_179 (lv_at hl 3 rfl) ?_
          refine lv_lrem hx hb d_mo_share_181 h0 ?_
          refine lx_ifle (tgt := 190) hx hb d_mo_share_182 d_mo_share_183 (by decide) (fun c_11 => ?_) (fun c_11 => ?_)
          · refine lv_iconst (v := 0) hx hb d_mo_share_190 (by decide) ?_
            refine lv_istore (lv' := [(10, .int 0), (0, .ref m0), (1, .long whole), (3, .int k), (4, .long all), (6, .long x), (8, .int b), (9, .int (nI i))]) hx hb d_mo_share_191 hl (by decide) rfl (fun ls hl => ?_)
            refine lv_iload hx hb d_mo_share_193 (lv_at hl 0 rfl) ?_
            refine lv_if_eq (tgt := 203) hx hb d_mo_share_195 (by decide) (fun c_12 => ?_) (fun c_12 => ?_)
            · refine lv_iload hx hb d_mo_share_203 (lv_at hl 6 rfl) ?_
              refine lv_istore (lv' := [(8, .int b), (10, .int 0), (0, .ref m0), (1, .long whole), (3, .int k), (4, .long all), (6, .long x), (9, .int (nI i))]) hx hb d_mo_share_205 hl (by decide) rfl (fun ls hl => ?_)
              refine lv_iinc (v := (nI i) + 1) (lv' := [(9, .int ((nI i) + 1)), (8, .int b), (10, .int 0), (0, .ref m0), (1, .long whole), (3, .int k), (4, .long all), (6, .long x)]) hx hb d_mo_share_207 hl (k := 7) rfl rfl (by decide) rfl (fun ls hl => ?_)
              refine lv_goto (tgt := 134) hx hb d_mo_share_210 (by decide) ?_
              exact ih (i + 1) _ (by omega) hb9 (by rw [beL, if_pos c_7, if_neg c_9, if_pos c_11] at hk; exact hk) H locs ls hP hD hS (by have h9 := lv_sub hl [3, 4, 5, 6, 7, 1, 0] rfl; rw [nI_1] at h9; exact h9)
            · exact absurd c_12 (by decide)
          · refine lv_iconst (v := 1) hx hb d_mo_share_186 (by decide) ?_
            refine lv_goto (tgt := 191) hx hb d_mo_share_187 (by decide) ?_
            refine lv_istore (lv' := [(10, .int 1), (0, .ref m0), (1, .long whole), (3, .int k), (4, .long all), (6, .long x), (8, .int b), (9, .int (nI i))]) hx hb d_mo_share_191 hl (by decide) rfl (fun ls hl => ?_)
            refine lv_iload hx hb d_mo_share_193 (lv_at hl 0 rfl) ?_
            refine lv_if_eq (tgt := 203) hx hb d_mo_share_195 (by decide) (fun c_13 => ?_) (fun c_13 => ?_)
            · exact absurd c_13 (by decide)
            · refine lv_iload hx hb d_mo_share_198 (lv_at hl 7 rfl) ?_
              refine lv_goto (tgt := 205) hx hb d_mo_share_200 (by decide) ?_
              refine lv_istore (lv' := [(8, .int (nI i)), (10, .int 1), (0, .ref m0), (1, .long whole), (3, .int k), (4, .long all), (6, .long x), (9, .int (nI i))]) hx hb d_mo_share_205 hl (by decide) rfl (fun ls hl => ?_)
              refine lv_iinc (v := (nI i) + 1) (lv' := [(9, .int ((nI i) + 1)), (8, .int (nI i)), (10, .int 1), (0, .ref m0), (1, .long whole), (3, .int k), (4, .long all), (6, .long x)]) hx hb d_mo_share_207 hl (k := 7) rfl rfl (by decide) rfl (fun ls hl => ?_)
              refine lv_goto (tgt := 134) hx hb d_mo_share_210 (by decide) ?_
              exact ih (i + 1) _ (by omega) (fun _ => vp_in_nI (show i < 12 by omega) (by decide)) (by rw [beL, if_pos c_7, if_neg c_9, if_neg c_11] at hk; exact hk) H locs ls hP hD hS (by have h9 := lv_sub hl [3, 4, 5, 6, 7, 1, 0] rfl; rw [nI_1] at h9; exact h9)
set_option maxHeartbeats 4000000 in
theorem lp_mo_gi {p : Program} {l : Launch} {e : Env} {R : Room} {s : State} {m : MethodId} {args : Array Value} {below : List Frame} {meth : Method} {c : Code} {dC : Nat → ClassId} {dI : Nat → Nat → Nat} {A : Nat → Prop} {Q : State → Prop} {m0 : Nat} {mwg : Nat} {mgv : Nat} {mk : Int32} {mv : Int32} {mu : Nat} {md : Nat} {up : Int64} {dn : Int64} {mr : Int32} {mc : Nat} {me : Nat} {so : Int32} {mau : Nat} {mad : Nat} {mw : Int32} {msq : Nat} {cmw : ClassId} {gw : Nat → Int64} {cmg : ClassId} {whole : Int64} {k : Int32} (hx : p.tables.exec = Jvm.exec) (hb : c.code = b_mo_share) (hml : c.maxLocals = 11) (hown : s.vm.findClass R_mo = some m.cls) (hT : ∀ w ∈ kt_T, w.before args s = true) (hA : ∀ q : Nat, s.heap.size ≤ q → A q) (hK : va_K (dC, dI) classes [(cmw, .long), (cmg, .boolean)] s) {N : Nat} (hN : N ≤ 12) (hN2 : mw = nI N) {all : Int64} (h0 : ¬ all = 0) :
    ∀ (d : Nat) (f : Nat → Int32), d < 2 ^ 31 → giOk gw whole all N d f → (∀ (H : Heap) (locs : List Loc) (ls : Array Slot), va_P (dC, dI) classes [(m0, .inr (4, [.int 0, .int mk, .int mv, .ref mu, .ref md, .long up, .long dn, .int mr, .ref mc, .ref me, .int so, .ref mau, .ref mad, .int mw, .ref mwg, .ref mgv, .ref msq])), (mwg, .inl (cmw, 12, .inr (.inl gw))), (mgv, .inl (cmg, 12, .inl (giL gw whole all N d f)))] H → va_D A [(m0, .inr (4, [.int 0, .int mk, .int mv, .ref mu, .ref md, .long up, .long dn, .int mr, .ref mc, .ref me, .int so, .ref mau, .ref mad, .int mw, .ref mwg, .ref mgv, .ref msq])), (mwg, .inl (cmw, 12, .inr (.inl gw))), (mgv, .inl (cmg, 12, .inl (giL gw whole all N d f)))] → va_S A s.heap H locs → lv_has ls 11 [(0, .ref m0), (1, .long whole), (3, .int k), (4, .long all)] → W p l e R s m args below meth c H locs 0 0 Q (F0 m 230 ls [])) → ∀ (H : Heap) (locs : List Loc) (ls : Array Slot), va_P (dC, dI) classes [(m0, .inr (4, [.int 0, .int mk, .int mv, .ref mu, .ref md, .long up, .long dn, .int mr, .ref mc, .ref me, .int so, .ref mau, .ref mad, .int mw, .ref mwg, .ref mgv, .ref msq])), (mwg, .inl (cmw, 12, .inr (.inl gw))), (mgv, .inl (cmg, 12, .inl f))] H → va_D A [(m0, .inr (4, [.int 0, .int mk, .int mv, .ref mu, .ref md, .long up, .long dn, .int mr, .ref mc, .ref me, .int so, .ref mau, .ref mad, .int mw, .ref mwg, .ref mgv, .ref msq])), (mwg, .inl (cmw, 12, .inr (.inl gw))), (mgv, .inl (cmg, 12, .inl f))] → va_S A s.heap H locs → lv_has ls 11 [(0, .ref m0), (1, .long whole), (3, .int k), (4, .long all), (6, .long (lN d))] → W p l e R s m args below meth c H locs 0 0 Q (F0 m 121 ls []) := by
  intro d
  induction d with
  | zero =>
    intro f hd hok hk H locs ls hP hD hS hl
    refine lv_lload hx hb d_mo_share_121 (lv_at hl 4 rfl) ?_
    refine lv_lconst (v := 0) hx hb d_mo_share_123 (by decide) ?_
    refine lx_ifle (tgt := 230) hx hb d_mo_share_124 d_mo_share_125 (by decide) (fun c_14 => ?_) (fun c_14 => ?_)
    · exact hk H locs ls hP hD hS (lv_sub hl [0, 1, 2, 3] rfl)
    · exact absurd (show lN 0 ≤ 0 by decide) c_14
  | succ d ih =>
    intro f hd hok hk H locs ls hP hD hS hl
    refine lv_lload hx hb d_mo_share_121 (lv_at hl 4 rfl) ?_
    refine lv_lconst (v := 0) hx hb d_mo_share_123 (by decide) ?_
    refine lx_ifle (tgt := 230) hx hb d_mo_share_124 d_mo_share_125 (by decide) (fun c_15 => ?_) (fun c_15 => ?_)
    · exact absurd c_15 (lN_nle hd (Nat.succ_ne_zero d))
    · refine lv_iconst (v := (-1)) hx hb d_mo_share_128 (by decide) ?_
      refine lv_istore (lv' := [(8, .int (-1)), (0, .ref m0), (1, .long whole), (3, .int k), (4, .long all), (6, .long (lN (d + 1)))]) hx hb d_mo_share_129 hl (by decide) rfl (fun ls hl => ?_)
      refine lv_iconst (v := 0) hx hb d_mo_share_131 (by decide) ?_
      refine lv_istore (lv' := [(9, .int 0), (8, .int (-1)), (0, .ref m0), (1, .long whole), (3, .int k), (4, .long all), (6, .long (lN (d + 1)))]) hx hb d_mo_share_132 hl (by decide) rfl (fun ls hl => ?_)
      refine lp_mo_be hx hb hml hown hT hA hK hN hN2 h0 N 0 (-1) (Nat.zero_add _) (fun h9 => absurd (by decide) h9) (fun H locs ls hP hD hS hl => ?_) H locs ls hP hD hS (lv_sub hl [2, 3, 4, 5, 6, 1, 0] rfl)
      refine lv_aload_n hx hb d_mo_share_213 rfl (lv_at hl 0 rfl) ?_
      refine va_get (D := (dC, dI)) (ci := 4) (v := .ref mgv) (C := R_mo) (T := F_mo) (N := 17) hx hb hT i_mo hown hK hP 0 rfl rfl 15 (by decide) (hT _ k_185) (fun _ h9 => h9) rfl d_mo_share_214 ?_
      refine lv_iload hx hb d_mo_share_217 (lv_at hl 5 rfl) ?_
      refine lv_iconst (v := 1) hx hb d_mo_share_219 (by decide) ?_
      refine va_zast hx hb hK hP hD hS 2 1 rfl rfl hok.1 d_mo_share_220 (fun H locs hP hD hS => ?_)
      have hP : va_P (dC, dI) classes [(m0, .inr (4, [.int 0, .int mk, .int mv, .ref mu, .ref md, .long up, .long dn, .int mr, .ref mc, .ref me, .int so, .ref mau, .ref mad, .int mw, .ref mwg, .ref mgv, .ref msq])), (mwg, .inl (cmw, 12, .inr (.inl gw))), (mgv, .inl (cmg, 12, .inl (upd f ((beL gw f whole all N 0 (-1)).toNatClampNeg) (vp_nar .boolean 1))))] H := hP
      have hD : va_D A [(m0, .inr (4, [.int 0, .int mk, .int mv, .ref mu, .ref md, .long up, .long dn, .int mr, .ref mc, .ref me, .int so, .ref mau, .ref mad, .int mw, .ref mwg, .ref mgv, .ref msq])), (mwg, .inl (cmw, 12, .inr (.inl gw))), (mgv, .inl (cmg, 12, .inl (upd f ((beL gw f whole all N 0 (-1)).toNatClampNeg) (vp_nar .boolean 1))))] := hD
      refine lv_lload hx hb d_mo_share_221 (lv_at hl 4 rfl) ?_
      refine lv_lconst (v := 1) hx hb d_mo_share_223 (by decide) ?_
      refine lv_lsub hx hb d_mo_share_224 ?_
      refine lv_lstore (lv' := [(6, .long ((lN (d + 1)) - 1)), (0, .ref m0), (1, .long whole), (3, .int k), (4, .long all), (8, .int (beL gw f whole all N 0 (-1)))]) hx hb d_mo_share_225 hl (by decide) rfl (fun ls hl => ?_)
      refine lv_goto (tgt := 121) hx hb d_mo_share_227 (by decide) ?_
      exact ih _ (by omega) hok.2 hk H locs ls hP hD hS (by have h9 := lv_sub hl [1, 2, 3, 4, 0] rfl; rw [lN_pred] at h9; exact h9)
theorem lN_nat9 {d : Nat} (h : d < 2 ^ 31) : (lN d).toInt.toNat = d := by
  rw [lN_toInt h]
  rfl
def mo_shareE (gw : Nat → Int64) (whole all : Int64) (N : Nat) (k : Int32) (gg : Nat → Int32) : Int64 × Int32 × (Nat → Int32) :=
  if ((giL gw whole all N (lfL gw whole all N 0 whole gg).1.toInt.toNat (lfL gw whole all N 0 whole gg).2) k.toNatClampNeg) = 0 then (((whole * (gw k.toNatClampNeg)) / all) + 0, 0, (giL gw whole all N (lfL gw whole all N 0 whole gg).1.toInt.toNat (lfL gw whole all N 0 whole gg).2)) else (((whole * (gw k.toNatClampNeg)) / all) + 1, 0, (giL gw whole all N (lfL gw whole all N 0 whole gg).1.toInt.toNat (lfL gw whole all N 0 whole gg).2))
def f_mo_share (mw : Int32) (gw : Nat → Int64) (gg : Nat → Int32) (whole : Int64) (k : Int32) : Int64 × Int32 × (Nat → Int32) :=
  if whole < 0 then ((-1), 0, gg) else if 1000000000000 < whole then ((-1), 0, gg) else if k < 0 then ((-1), 0, gg) else if mw ≤ k then ((-1), 0, gg) else if (alL gw mw.toNatClampNeg 0 0) = 0 then ((-1), 0, gg) else (mo_shareE gw whole (alL gw mw.toNatClampNeg 0 0) mw.toNatClampNeg k gg)
set_option maxHeartbeats 4000000 in
set_option maxRecDepth 100000 in
theorem c_mo_share (l : Launch) (dC : Nat → ClassId) (dI : Nat → Nat → Nat) (sz : Nat) (m0 : Nat) (mwg : Nat) (mgv : Nat) (th : Int32) (mk : Int32) (mv : Int32) (mu : Nat) (md : Nat) (up : Int64) (dn : Int64) (mr : Int32) (mc : Nat) (me : Nat) (so : Int32) (mau : Nat) (mad : Nat) (mw : Int32) (msq : Nat) (cmw : ClassId) (gw : Nat → Int64) (cmg : ClassId) (gg : Nat → Int32) (whole : Int64) (k : Int32) (hmw : vp_in mw 13) (hok : ∀ N, N ≤ 12 → mw = nI N → ¬ whole < 0 → ¬ 1000000000000 < whole → ¬ k < 0 → ¬ mw ≤ k → ¬ alL gw N 0 0 = 0 → ∃ d, d < 2 ^ 31 ∧ (lfL gw whole (alL gw N 0 0) N 0 whole gg).1 = lN d ∧ giOk gw whole (alL gw N 0 0) N d (lfL gw whole (alL gw N 0 0) N 0 whole gg).2) : Met l y_mo_share w_mo_share ({ frames := 0, cells := 0, slots := 0, locals := 0 }) (va_Pc [.ref m0, .long whole, .int k] (fun U => U.heap.size = sz ∧ va_P (dC, dI) classes [(m0, .inr (4, [.int th, .int mk, .int mv, .ref mu, .ref md, .long up, .long dn, .int mr, .ref mc, .ref me, .int so, .ref mau, .ref mad, .int mw, .ref mwg, .ref mgv, .ref msq])), (mwg, .inl (cmw, 12, .inr (.inl gw))), (mgv, .inl (cmg, 12, .inl gg))] U.heap ∧ va_K (dC, dI) classes [(cmw, .long), (cmg, .boolean)] U ∧ va_D (fun _ => True) [(m0, .inr (4, [.int th, .int mk, .int mv, .ref mu, .ref md, .long up, .long dn, .int mr, .ref mc, .ref me, .int so, .ref mau, .ref mad, .int mw, .ref mwg, .ref mgv, .ref msq])), (mwg, .inl (cmw, 12, .inr (.inl gw))), (mgv, .inl (cmg, 12, .inl gg))])) (va_Ql (fun z9 u9 => (z9, u9) = f_mo_share mw gw gg whole k) (fun (u : Int32 × (Nat → Int32)) t => match u with | (th', gg') => va_P (dC, dI) classes [(m0, .inr (4, [.int th', .int mk, .int mv, .ref mu, .ref md, .long up, .long dn, .int mr, .ref mc, .ref me, .int so, .ref mau, .ref mad, .int mw, .ref mwg, .ref mgv, .ref msq])), (mwg, .inl (cmw, 12, .inr (.inl gw))), (mgv, .inl (cmg, 12, .inl gg'))] t.heap ∧ va_K (dC, dI) classes [(cmw, .long), (cmg, .boolean)] t ∧ va_D (va_A [(m0, .inr (4, [.int th, .int mk, .int mv, .ref mu, .ref md, .long up, .long dn, .int mr, .ref mc, .ref me, .int so, .ref mau, .ref mad, .int mw, .ref mwg, .ref mgv, .ref msq])), (mwg, .inl (cmw, 12, .inr (.inl gw))), (mgv, .inl (cmg, 12, .inl gg))] sz) [(m0, .inr (4, [.int th', .int mk, .int mv, .ref mu, .ref md, .long up, .long dn, .int mr, .ref mc, .ref me, .int so, .ref mau, .ref mad, .int mw, .ref mwg, .ref mgv, .ref msq])), (mwg, .inl (cmw, 12, .inr (.inl gw))), (mgv, .inl (cmg, 12, .inl gg'))]) (va_A [(m0, .inr (4, [.int th, .int mk, .int mv, .ref mu, .ref md, .long up, .long dn, .int mr, .ref mc, .ref me, .int so, .ref mau, .ref mad, .int mw, .ref mwg, .ref mgv, .ref msq])), (mwg, .inl (cmw, 12, .inr (.inl gw))), (mgv, .inl (cmg, 12, .inl gg))] sz)) 0 0 (va_A [(m0, .inr (4, [.int th, .int mk, .int mv, .ref mu, .ref md, .long up, .long dn, .int mr, .ref mc, .ref me, .int so, .ref mau, .ref mad, .int mw, .ref mwg, .ref mgv, .ref msq])), (mwg, .inl (cmw, 12, .inr (.inl gw))), (mgv, .inl (cmg, 12, .inl gg))] sz) := by
  refine Met.ofW (cc := b_mo_share) (maxL := 11) (ret := (some .long)) (by decide +kernel) rfl ?_
  intro p e s m args below meth c s₁ B hml hv
  obtain ⟨rfl, hsz, hP, hK, hD0⟩ := hv
  have hx := B.exec
  have hb := B.bytes
  have hr := B.returns
  have hts := atoms_spec (ws := w_mo_share) B.pre
  have hT := fun (w : Cond) (h : w ∈ kt_T) => hts w (List.mem_cons_of_mem _ h)
  have hown : s.vm.findClass R_mo = some m.cls := findClass_of_methodNamed B.named
  have hlocks := B.notSynchronized
  subst hsz
  have hD := hD0.self (sz := s.heap.size)
  generalize hAe : va_A [(m0, .inr (4, [.int th, .int mk, .int mv, .ref mu, .ref md, .long up, .long dn, .int mr, .ref mc, .ref me, .int so, .ref mau, .ref mad, .int mw, .ref mwg, .ref mgv, .ref msq])), (mwg, .inl (cmw, 12, .inr (.inl gw))), (mgv, .inl (cmg, 12, .inl gg))] s.heap.size = A at hD ⊢
  have hA : ∀ q : Nat, s.heap.size ≤ q → A q := fun q h => by rw [← hAe]; exact Or.inr h
  have hS : va_S A s.heap s.heap [] := va_S.rf
  have hl := lv_entry ([.ref m0, .long whole, .int k]) (n := 11) (Nat.le_of_ble_eq_true rfl)
  rw [lg_entry_eq]
  generalize (lg_sl ([.ref m0, .long whole, .int k]) ++ List.replicate (11 - (lg_sl ([.ref m0, .long whole, .int k])).length) Slot.unset).toArray = ls at hl ⊢
  have hl : lv_has ls 11 [(0, .ref m0), (1, .long whole), (3, .int k)] := hl
  refine lv_aload_n hx hb d_mo_share_0 rfl (lv_at hl 0 rfl) ?_
  refine lv_iconst (v := 0) hx hb d_mo_share_1 (by decide) ?_
  refine va_put (D := (dC, dI)) (ci := 4) (v := .int 0) (ty := .int) (C := R_mo) (T := F_mo) (N := 17) hx hb hT i_mo t_mo t_mo_ok n_mo hown hK hP hD hS 0 rfl rfl 0 (by decide) (hT _ k_127) (fun _ h9 => h9) rfl (by decide +kernel) rfl rfl (Nat.le_of_ble_eq_true rfl) d_mo_share_2 (fun H locs hP hD hS => ?_)
  have hP : va_P (dC, dI) classes [(m0, .inr (4, [.int 0, .int mk, .int mv, .ref mu, .ref md, .long up, .long dn, .int mr, .ref mc, .ref me, .int so, .ref mau, .ref mad, .int mw, .ref mwg, .ref mgv, .ref msq])), (mwg, .inl (cmw, 12, .inr (.inl gw))), (mgv, .inl (cmg, 12, .inl gg))] H := hP
  have hD : va_D A [(m0, .inr (4, [.int 0, .int mk, .int mv, .ref mu, .ref md, .long up, .long dn, .int mr, .ref mc, .ref me, .int so, .ref mau, .ref mad, .int mw, .ref mwg, .ref mgv, .ref msq])), (mwg, .inl (cmw, 12, .inr (.inl gw))), (mgv, .inl (cmg, 12, .inl gg))] := hD
  refine lv_lconst (v := 0) hx hb d_mo_share_5 (by decide) ?_
  refine lv_lstore (lv' := [(4, .long 0), (0, .ref m0), (1, .long whole), (3, .int k)]) hx hb d_mo_share_6 hl (by decide) rfl (fun ls hl => ?_)
  refine lv_iconst (v := 0) hx hb d_mo_share_8 (by decide) ?_
  refine lv_istore (lv' := [(6, .int 0), (4, .long 0), (0, .ref m0), (1, .long whole), (3, .int k)]) hx hb d_mo_share_9 hl (by decide) rfl (fun ls hl => ?_)
  obtain ⟨N, hN, hN2⟩ := vp_in_of hmw (by decide)
  have hN : N ≤ 12 := Nat.lt_succ_iff.mp hN
  refine lp_mo_al hx hb hml hown hT hA hK hN hN2 N 0 0 (Nat.zero_add _) (fun H locs ls hP hD hS hl => ?_) H locs ls hP hD hS (lv_sub hl [2, 3, 4, 1, 0] rfl)
  refine lv_lload_n hx hb d_mo_share_38 rfl (lv_at hl 1 rfl) ?_
  refine lv_lconst (v := 0) hx hb d_mo_share_39 (by decide) ?_
  refine lx_iflt (tgt := 71) hx hb d_mo_share_40 d_mo_share_41 (by decide) (fun c_1 => ?_) (fun c_1 => ?_)
  · refine lv_ldc2 (v := (-1)) hx hb hown (hT _ k_186) d_mo_share_71 ?_
    exact W.lret (v := (-1)) hx hb hr (fun t ht hW => ⟨⟨(-1), (0, gg), rfl, by unfold f_mo_share; rw [hN2, nI_clamp (by omega)]; rw [← hN2]; rw [if_pos c_1], by rw [ht]; exact hP, va_K.moved hW.alike hK, hD⟩, hS.F ht⟩) hS.2.2 d_mo_share_74
  · refine lv_lload_n hx hb d_mo_share_44 rfl (lv_at hl 1 rfl) ?_
    refine lv_ldc2 (v := 1000000000000) hx hb hown (hT _ k_187) d_mo_share_45 ?_
    refine lx_ifgt (tgt := 71) hx hb d_mo_share_48 d_mo_share_49 (by decide) (fun c_2 => ?_) (fun c_2 => ?_)
    · refine lv_ldc2 (v := (-1)) hx hb hown (hT _ k_186) d_mo_share_71 ?_
      exact W.lret (v := (-1)) hx hb hr (fun t ht hW => ⟨⟨(-1), (0, gg), rfl, by unfold f_mo_share; rw [hN2, nI_clamp (by omega)]; rw [← hN2]; rw [if_neg c_1, if_pos c_2], by rw [ht]; exact hP, va_K.moved hW.alike hK, hD⟩, hS.F ht⟩) hS.2.2 d_mo_share_74
    · refine lv_iload_n hx hb d_mo_share_52 rfl (lv_at hl 2 rfl) ?_
      refine lv_if_lt (tgt := 71) hx hb d_mo_share_53 (by decide) (fun c_3 => ?_) (fun c_3 => ?_)
      · refine lv_ldc2 (v := (-1)) hx hb hown (hT _ k_186) d_mo_share_71 ?_
        exact W.lret (v := (-1)) hx hb hr (fun t ht hW => ⟨⟨(-1), (0, gg), rfl, by unfold f_mo_share; rw [hN2, nI_clamp (by omega)]; rw [← hN2]; rw [if_neg c_1, if_neg c_2, if_pos c_3], by rw [ht]; exact hP, va_K.moved hW.alike hK, hD⟩, hS.F ht⟩) hS.2.2 d_mo_share_74
      · refine lv_iload_n hx hb d_mo_share_56 rfl (lv_at hl 2 rfl) ?_
        refine lv_aload_n hx hb d_mo_share_57 rfl (lv_at hl 0 rfl) ?_
        refine va_get (D := (dC, dI)) (ci := 4) (v := .int mw) (C := R_mo) (T := F_mo) (N := 17) hx hb hT i_mo hown hK hP 0 rfl rfl 13 (by decide) (hT _ k_168) (fun _ h9 => h9) rfl d_mo_share_58 ?_
        refine lv_icmp_ge (tgt := 71) hx hb d_mo_share_61 (by decide) (fun c_4 => ?_) (fun c_4 => ?_)
        · refine lv_ldc2 (v := (-1)) hx hb hown (hT _ k_186) d_mo_share_71 ?_
          exact W.lret (v := (-1)) hx hb hr (fun t ht hW => ⟨⟨(-1), (0, gg), rfl, by unfold f_mo_share; rw [hN2, nI_clamp (by omega)]; rw [← hN2]; rw [if_neg c_1, if_neg c_2, if_neg c_3, if_pos c_4], by rw [ht]; exact hP, va_K.moved hW.alike hK, hD⟩, hS.F ht⟩) hS.2.2 d_mo_share_74
        · refine lv_lload hx hb d_mo_share_64 (lv_at hl 3 rfl) ?_
          refine lv_lconst (v := 0) hx hb d_mo_share_66 (by decide) ?_
          refine lx_ifne (tgt := 75) hx hb d_mo_share_67 d_mo_share_68 (by decide) (fun c_5 => ?_) (fun c_5 => ?_)
          · refine lv_lload_n hx hb d_mo_share_75 rfl (lv_at hl 1 rfl) ?_
            refine lv_lstore (lv' := [(6, .long whole), (0, .ref m0), (1, .long whole), (3, .int k), (4, .long (alL gw N 0 0))]) hx hb d_mo_share_76 hl (by decide) rfl (fun ls hl => ?_)
            refine lv_iconst (v := 0) hx hb d_mo_share_78 (by decide) ?_
            refine lv_istore (lv' := [(8, .int 0), (6, .long whole), (0, .ref m0), (1, .long whole), (3, .int k), (4, .long (alL gw N 0 0))]) hx hb d_mo_share_79 hl (by decide) rfl (fun ls hl => ?_)
            obtain ⟨d, hd, hd2, hd3⟩ := hok N hN hN2 c_1 c_2 c_3 c_4 c_5
            refine lp_mo_lf hx hb hml hown hT hA hK hN hN2 c_5 N 0 whole gg (Nat.zero_add _) (fun H locs ls hP hD hS hl => ?_) H locs ls hP hD hS (lv_sub hl [2, 3, 4, 5, 1, 0] rfl)
            rw [hd2] at hl
            refine lp_mo_gi hx hb hml hown hT hA hK hN hN2 c_5 d (lfL gw whole (alL gw N 0 0) N 0 whole gg).2 hd hd3 (fun H locs ls hP hD hS hl => ?_) H locs ls hP hD hS hl
            refine lv_lload_n hx hb d_mo_share_230 rfl (lv_at hl 1 rfl) ?_
            refine lv_aload_n hx hb d_mo_share_231 rfl (lv_at hl 0 rfl) ?_
            refine va_get (D := (dC, dI)) (ci := 4) (v := .ref mwg) (C := R_mo) (T := F_mo) (N := 17) hx hb hT i_mo hown hK hP 0 rfl rfl 14 (by decide) (hT _ k_169) (fun _ h9 => h9) rfl d_mo_share_232 ?_
            refine lv_iload_n hx hb d_mo_share_235 rfl (lv_at hl 2 rfl) ?_
            refine va_lald hx hb hK hP 1 0 rfl rfl (in_k hmw c_3 c_4) d_mo_share_236 ?_
            refine lv_lmul hx hb d_mo_share_237 ?_
            refine lv_lload hx hb d_mo_share_238 (lv_at hl 3 rfl) ?_
            refine lv_ldiv hx hb d_mo_share_240 c_5 ?_
            refine lv_aload_n hx hb d_mo_share_241 rfl (lv_at hl 0 rfl) ?_
            refine va_get (D := (dC, dI)) (ci := 4) (v := .ref mgv) (C := R_mo) (T := F_mo) (N := 17) hx hb hT i_mo hown hK hP 0 rfl rfl 15 (by decide) (hT _ k_185) (fun _ h9 => h9) rfl d_mo_share_242 ?_
            refine lv_iload_n hx hb d_mo_share_245 rfl (lv_at hl 2 rfl) ?_
            refine va_zald hx hb hK hP 2 1 rfl rfl (in_k hmw c_3 c_4) d_mo_share_246 ?_
            refine lv_if_eq (tgt := 254) hx hb d_mo_share_247 (by decide) (fun c_6 => ?_) (fun c_6 => ?_)
            · refine lv_lconst (v := 0) hx hb d_mo_share_254 (by decide) ?_
              refine lv_ladd hx hb d_mo_share_255 ?_
              exact W.lret (v := ((whole * (gw k.toNatClampNeg)) / (alL gw N 0 0)) + 0) hx hb hr (fun t ht hW => ⟨⟨((whole * (gw k.toNatClampNeg)) / (alL gw N 0 0)) + 0, (0, (giL gw whole (alL gw N 0 0) N d (lfL gw whole (alL gw N 0 0) N 0 whole gg).2)), rfl, by unfold f_mo_share; rw [hN2, nI_clamp (by omega)]; rw [← hN2]; rw [if_neg c_1, if_neg c_2, if_neg c_3, if_neg c_4, if_neg c_5]; unfold mo_shareE; rw [hd2, lN_nat9 hd, if_pos c_6], by rw [ht]; exact hP, va_K.moved hW.alike hK, hD⟩, hS.F ht⟩) hS.2.2 d_mo_share_256
            · refine lv_lconst (v := 1) hx hb d_mo_share_250 (by decide) ?_
              refine lv_goto (tgt := 255) hx hb d_mo_share_251 (by decide) ?_
              refine lv_ladd hx hb d_mo_share_255 ?_
              exact W.lret (v := ((whole * (gw k.toNatClampNeg)) / (alL gw N 0 0)) + 1) hx hb hr (fun t ht hW => ⟨⟨((whole * (gw k.toNatClampNeg)) / (alL gw N 0 0)) + 1, (0, (giL gw whole (alL gw N 0 0) N d (lfL gw whole (alL gw N 0 0) N 0 whole gg).2)), rfl, by unfold f_mo_share; rw [hN2, nI_clamp (by omega)]; rw [← hN2]; rw [if_neg c_1, if_neg c_2, if_neg c_3, if_neg c_4, if_neg c_5]; unfold mo_shareE; rw [hd2, lN_nat9 hd, if_neg c_6], by rw [ht]; exact hP, va_K.moved hW.alike hK, hD⟩, hS.F ht⟩) hS.2.2 d_mo_share_256
          · refine lv_ldc2 (v := (-1)) hx hb hown (hT _ k_186) d_mo_share_71 ?_
            exact W.lret (v := (-1)) hx hb hr (fun t ht hW => ⟨⟨(-1), (0, gg), rfl, by unfold f_mo_share; rw [hN2, nI_clamp (by omega)]; rw [← hN2]; rw [if_neg c_1, if_neg c_2, if_neg c_3, if_neg c_4, if_pos c_5], by rw [ht]; exact hP, va_K.moved hW.alike hK, hD⟩, hS.F ht⟩) hS.2.2 d_mo_share_74
