/-! THE CLAIM OUT OF ONE WALK OF THE LAW'S BODY. Your part is whole_start (and what it stands on); all else here is the same for every law, but numbers. -/
def lw_P (b : Addr) (xs : List Int32) (args : Array Value) (s : State) : Prop := args = #[.ref b] ∧ s.IntsAt b xs ∧ xs.length ≤ 2561 ∧ (Jvm.Cond.and given_1 narrow_1).before args s = true
def lw_Q (_ : Array Value) (s : State) (o : Outcome) (t : State) : Prop := o = .returned (some (.int 1)) ∧ Framed s o t [] 601024 7293000
def lw_Z (below : List Frame) (a : Array Value) (s : State) : State → Prop := fun t => ∃ o, t.status = .running ∧ Ended t below o ∧ lw_Q a s o t
/-- the law's own end, with 1 on the stack, nothing written that was there before, its room as the claim has it -/
theorem lw_ret {p : Program} {l : Launch} {e : Env} {s : State} {m : MethodId} {below : List Frame} {meth : Method} {c : Code} {b : Nat} (hx : p.tables.exec = Jvm.exec) (hb : c.code = code) (hr : meth.sig.returnType = ret) (hlocks : meth.locks = false) {pc : Nat} {H : Heap} {ls : Array Slot} (hdg : decode code pc = .ok (.ireturn, 1)) : W p l e room_1 s m #[Value.ref b] below meth c H [] 601024 7293000 (lw_Z below #[Value.ref b] s) (F0 m pc ls [.int 1]) := by
  intro T hT X
  obtain ⟨fs, hret, hrun, hended, hW, hframe⟩ := X.leave (v := some (.int 1)) (hlocks := hlocks) (fun h => by rw [hr] at h; cases h)
  have hmeth' : T.vm.method? m = some meth := X.method'
  refine ⟨T.setFrames fs, ?_, .returned (some (.int 1)), hrun, hended, rfl, ⟨_, rfl⟩, hW, hframe⟩
  jvm_step X.here [X.here.top, hx, hb, hdg, hmeth', hr, ret, narrow_b1]
  (try refine ⟨rfl, ?_⟩); (try refine ⟨rfl, ?_⟩)
  first | (intro acts; rw [hret _ acts rfl rfl rfl]) | rw [hret _ _ rfl rfl rfl]
  exact Steps.refl _
/-- what holds at the law's entry: the machine, the code, the tables' words (any of lw_tbl by 'hts w (by decide +kernel)'), the script of L ints xs at the cell b, what the Statement gives of the start (any of its parts by flat_of_before) -/
def lw_At (p : Program) (s : State) (m : MethodId) (meth : Method) (c : Code) (b L : Nat) (xs : Nat → Int32) : Prop :=
  p.tables.exec = Jvm.exec ∧ c.code = code ∧ meth.sig.returnType = ret ∧ c.maxLocals = 7 ∧ s.vm.findClass R_law = some m.cls ∧ (∀ w ∈ lw_tbl, w.before #[Value.ref b] s = true) ∧ va_X b L xs s s.heap ∧ b < s.heap.size ∧ meth.locks = false ∧ (Jvm.Cond.and given_1 narrow_1).before #[Value.ref b] s = true

theorem bl_MNR {av : List Value} {D : va_G} {cl : List vw_C} {ws : va_W} {tys : List (ClassId × FieldType)} {sz : Nat} {cI cJ : ClassId} : FrameBlind (va_Pc av (fun U => U.heap.size = sz ∧ va_P D cl ws U.heap ∧ va_K D cl tys U ∧ va_D (fun _ => True) ws ∧ kt_N U ∧ kt_R cI cJ U)) := fun a U g mk q => ⟨q.1, q.2.1, q.2.2.1, va_K.moved (u := U) (U := U.calling g mk a) (Vm.Alike.refl U.vm) q.2.2.2.1, q.2.2.2.2.1, kt_N.same (s := U) (U := U.calling g mk a) rfl q.2.2.2.2.2.1, kt_R.moved (u := U) (U := U.calling g mk a) (Vm.Alike.refl U.vm) q.2.2.2.2.2.2⟩
theorem exit_iff {L i : Nat} (hL : L ≤ 2561) (hi : i ≤ 3000) : (Int32.ofNat L - 5 < nI i) ↔ L < i + 5 := by
  have e1 : (Int32.ofNat L).toInt = L := nI_toInt (n := L) (by omega)
  have e2 : (Int32.ofNat L - 5).toInt = L - 5 := by
    rw [Int32.toInt_sub, e1, show (5 : Int32).toInt = 5 by decide]
    exact I_bm (by omega) (by omega)
  rw [Int32.lt_iff_toInt_lt, e2, nI_toInt (by omega)]
  omega
theorem and31 (x : Int32) : ∃ j : Nat, j < 32 ∧ x &&& 31 = nI j := by
  have e1 : (x &&& 31).toBitVec = x.toBitVec &&& 31#32 := rfl
  have e3 : (x &&& 31).toBitVec.toNat = x.toBitVec.toNat % 32 := by
    rw [e1, BitVec.toNat_and]
    exact Nat.and_two_pow_sub_one_eq_mod _ 5
  refine ⟨(x &&& 31).toBitVec.toNat, by omega, ?_⟩
  apply Int32.toBitVec_inj.mp
  apply BitVec.eq_of_toNat_eq
  show _ = (BitVec.ofNat 32 _).toNat
  rw [BitVec.toNat_ofNat]
  omega
theorem in_scr {L i k : Nat} (hL : L ≤ 2561) (h : i + 5 ≤ L) (hk : k < 5) : vp_in (nI i + nI k) L := by
  rw [nI_add]
  exact vp_in_nI (by omega) (by omega)
set_option maxHeartbeats 4000000 in
set_option maxRecDepth 100000 in
theorem law_loop {p : Program} {l : Launch} {e : Env} {m : MethodId} {below : List Frame} {meth : Method} {c : Code} {b L : Nat} {xs : Nat → Int32} {dC : Nat → ClassId} {dI : Nat → Nat → Nat} {A : Nat → Prop} {s : State} {ak : Nat} {ac : Nat} {a0 : Nat} {a1 : Nat} {a2 : Nat} {a_w : Nat} {a_z : Nat} {a_s : Nat} {e0 : Nat} {w0 : Nat} {pv : Nat} {su : Nat} {sl : Nat} {er : Nat → Nat} {wr : Nat → Nat} {cC : ClassId} {cU : ClassId} {cL : ClassId} {cZ : ClassId} {cE : ClassId} {cW : ClassId} {cP : ClassId} {cSu : ClassId} {cSl : ClassId} {cI : ClassId} {cJ : ClassId} {m0 : Nat} {mu : Nat} {md : Nat} {mc : Nat} {me : Nat} {mau : Nat} {mad : Nat} {mwg : Nat} {mgv : Nat} {msq : Nat} {ao : Nat} {cmu : ClassId} {cmd : ClassId} {cmc : ClassId} {cme : ClassId} {cma : ClassId} {cmb : ClassId} {cmw : ClassId} {cmg : ClassId} {cms : ClassId} {cO : ClassId} {kinds : Int32} {nk : Nat} {mk : Int32} (C : LCtx p l m c b L xs dC dI A s ak ac a0 a1 a2 a_w a_z a_s e0 w0 pv su sl er wr cC cU cL cZ cE cW cP cSu cSl cI cJ m0 mu md mc me mau mad mwg mgv msq ao cmu cmd cmc cme cma cmb cmw cmg cms cO kinds nk mk) (hL : L ≤ 2561) (hAr : ∀ q : Nat, A q → s.heap.size ≤ q) (hr : meth.sig.returnType = ret) (hlocks : meth.locks = false) :
    ∀ (n i kc ks : Nat) (H : Heap) (locs : List Loc) (ls : Array Slot), L < i + 5 * n + 5 → i ≤ 2600 → kc + n ≤ 600000 → ks + 6 * n ≤ 7290000 → LInv dC dI A s ak ac a0 a1 a2 a_w a_z a_s e0 w0 pv su sl er wr cC cU cL cZ cE cW cP cSu cSl cI cJ m0 mu md mc me mau mad mwg mgv msq ao cmu cmd cmc cme cma cmb cmw cmg cms cO kinds nk mk H locs → lv_has ls 7 [(0, .ref b), (1, .ref ak), (2, .ref m0), (3, .ref ao), (4, .int (nI i))] → W p l e room_1 s m #[Value.ref b] below meth c H locs kc ks (lw_Z below #[Value.ref b] s) (F0 m 33 ls []) := by
  obtain ⟨hx, hb, hml, hown, hT, hN, hN2, hl9, hX, hbl, hbA, hA, hZ, hs1, hs2, hs3, hs4, hK, hn, hmk⟩ := id C
  intro n
  induction n with
  | zero =>
    intro i kc ks H locs ls hm hi hkc hks hI hl
    obtain ⟨-, -, -, -, -, -, -, -, -, -, -, -, -, -, -, -, -, -, -, -, -, -, -, -, -, -, -, -, -, -, -, -, -, hS, -⟩ := id hI
    refine lv_iload hx hb d_law_33 (lv_at hl 4 rfl) ?_
    refine lv_aload_n hx hb d_law_35 rfl (lv_at hl 0 rfl) ?_
    refine va_slen hx hb hX hbl hbA hS d_law_36 ?_
    refine lv_iconst (v := 5) hx hb d_law_37 (by decide) ?_
    refine lv_isub hx hb d_law_38 ?_
    refine lv_icmp_gt (tgt := 1089) hx hb d_law_39 (by decide) (fun c_1 => ?_) (fun c_1 => ?_)
    · refine lv_iconst (v := 1) hx hb d_law_1089 (by decide) ?_
      refine va_forget (fun q hq => hAr _ (hS.2.2 q hq)) ?_
      refine W.widen (k := 601024) (n := 7293000) (by omega) (by omega) ?_
      exact lw_ret hx hb hr hlocks d_law_1090
    · exact (c_1 ((exit_iff hL (by omega)).mpr (by omega))).elim
  | succ n ih =>
    intro i kc ks H locs ls hm hi hkc hks hI hl
    obtain ⟨-, -, -, -, -, -, -, -, -, -, -, -, -, -, -, -, -, -, -, -, -, -, -, -, -, -, -, -, -, -, -, -, -, hS, -⟩ := id hI
    refine lv_iload hx hb d_law_33 (lv_at hl 4 rfl) ?_
    refine lv_aload_n hx hb d_law_35 rfl (lv_at hl 0 rfl) ?_
    refine va_slen hx hb hX hbl hbA hS d_law_36 ?_
    refine lv_iconst (v := 5) hx hb d_law_37 (by decide) ?_
    refine lv_isub hx hb d_law_38 ?_
    refine lv_icmp_gt (tgt := 1089) hx hb d_law_39 (by decide) (fun c_1 => ?_) (fun c_1 => ?_)
    · refine lv_iconst (v := 1) hx hb d_law_1089 (by decide) ?_
      refine va_forget (fun q hq => hAr _ (hS.2.2 q hq)) ?_
      refine W.widen (k := 601024) (n := 7293000) (by omega) (by omega) ?_
      exact lw_ret hx hb hr hlocks d_law_1090
    · have hiL : i + 5 ≤ L := Nat.not_lt.mp (fun z => c_1 ((exit_iff hL (by omega)).mpr z))
      refine lv_aload_n hx hb d_law_42 rfl (lv_at hl 0 rfl) ?_
      refine lv_iload hx hb d_law_43 (lv_at hl 4 rfl) ?_
      refine va_sld hx hb hX hbl hbA hS (vp_in_nI (by omega) (by omega)) d_law_45 ?_
      refine lv_bipush (v := 31) hx hb d_law_46 (by decide) ?_
      refine lv_iand hx hb d_law_48 ?_
      refine lv_topi (fun z ez => ?_)
      obtain ⟨j, hj, ej⟩ := and31 (xs (nI i).toNatClampNeg)
      obtain rfl : z = nI j := ez.trans ej
      have i1 : vp_in (nI i + 1) L := in_scr (k := 1) hL hiL (by decide)
      have i2 : vp_in (nI i + 2) L := in_scr (k := 2) hL hiL (by decide)
      have i3 : vp_in (nI i + 3) L := in_scr (k := 3) hL hiL (by decide)
      have i4 : vp_in (nI i + 4) L := in_scr (k := 4) hL hiL (by decide)
      have hkc1 : kc + 1 ≤ room_1.cells := show kc + 1 ≤ 601024 by omega
      have hks1 : ks + 6 ≤ room_1.slots := show ks + 6 ≤ 7293000 by omega
      have kk : ∀ (H : Heap) (locs : List Loc) (kc2 ks2 : Nat) (ls : Array Slot), LInv dC dI A s ak ac a0 a1 a2 a_w a_z a_s e0 w0 pv su sl er wr cC cU cL cZ cE cW cP cSu cSl cI cJ m0 mu md mc me mau mad mwg mgv msq ao cmu cmd cmc cme cma cmb cmw cmg cms cO kinds nk mk H locs → kc2 ≤ kc + 1 → ks2 ≤ ks + 6 → lv_has ls 7 [(0, .ref b), (1, .ref ak), (2, .ref m0), (3, .ref ao), (4, .int (nI i))] → W p l e room_1 s m #[Value.ref b] below meth c H locs kc2 ks2 (lw_Z below #[Value.ref b] s) (F0 m 1083 ls []) := by
        intro H locs kc2 ks2 ls hI h1 h2 hl
        refine lv_iinc (v := nI i + 5) (lv' := [(4, .int (nI i + 5)), (0, .ref b), (1, .ref ak), (2, .ref m0), (3, .ref ao)]) hx hb d_law_1083 hl (k := 4) rfl rfl (by decide) rfl (fun ls hl => ?_)
        refine lv_goto (tgt := 33) hx hb d_law_1086 (by decide) ?_
        exact ih (i + 5) kc2 ks2 H locs ls (by omega) (by omega) (by omega) (by omega) hI (by have h9 := lv_sub (l' := [(0, .ref b), (1, .ref ak), (2, .ref m0), (3, .ref ao), (4, .int (nI i + 5))]) hl [1, 2, 3, 4, 0] rfl; rw [show nI i + 5 = nI (i + 5) from nI_add i 5] at h9; exact h9)
      rcases (show j = 0 ∨ j = 1 ∨ j = 2 ∨ j = 3 ∨ j = 4 ∨ j = 5 ∨ j = 6 ∨ j = 7 ∨ j = 8 ∨ j = 9 ∨ j = 10 ∨ j = 11 ∨ j = 12 ∨ j = 13 ∨ j = 14 ∨ j = 15 ∨ j = 16 ∨ j = 17 ∨ 18 ≤ j by omega) with rfl | rfl | rfl | rfl | rfl | rfl | rfl | rfl | rfl | rfl | rfl | rfl | rfl | rfl | rfl | rfl | rfl | rfl | hj18
      · refine lv_tableIn (off := 87) (tgt := 136) hx hb d_law_49 (by decide) (by decide) (by decide) (by decide) ?_
        exact law_0 C i1 rfl i2 rfl i3 rfl i4 rfl hkc1 hks1 hI kk hl
      · refine lv_tableIn (off := 219) (tgt := 268) hx hb d_law_49 (by decide) (by decide) (by decide) (by decide) ?_
        exact law_1 C i1 rfl i2 rfl i3 rfl i4 rfl hkc1 hks1 hI kk hl
      · refine lv_tableIn (off := 287) (tgt := 336) hx hb d_law_49 (by decide) (by decide) (by decide) (by decide) ?_
        exact law_2 C i1 rfl i2 rfl i3 rfl i4 rfl hkc1 hks1 hI kk hl
      · refine lv_tableIn (off := 324) (tgt := 373) hx hb d_law_49 (by decide) (by decide) (by decide) (by decide) ?_
        exact law_3 C i1 rfl i2 rfl i3 rfl i4 rfl hkc1 hks1 hI kk hl
      · refine lv_tableIn (off := 361) (tgt := 410) hx hb d_law_49 (by decide) (by decide) (by decide) (by decide) ?_
        exact law_4 C i1 rfl i2 rfl i3 rfl i4 rfl hkc1 hks1 hI kk hl
      · refine lv_tableIn (off := 398) (tgt := 447) hx hb d_law_49 (by decide) (by decide) (by decide) (by decide) ?_
        exact law_5 C i1 rfl i2 rfl i3 rfl i4 rfl hkc1 hks1 hI kk hl
      · refine lv_tableIn (off := 466) (tgt := 515) hx hb d_law_49 (by decide) (by decide) (by decide) (by decide) ?_
        exact law_6 C i1 rfl i2 rfl i3 rfl i4 rfl hkc1 hks1 hI kk hl
      · refine lv_tableIn (off := 503) (tgt := 552) hx hb d_law_49 (by decide) (by decide) (by decide) (by decide) ?_
        exact law_7 C i1 rfl i2 rfl i3 rfl i4 rfl hkc1 hks1 hI kk hl
      · refine lv_tableIn (off := 585) (tgt := 634) hx hb d_law_49 (by decide) (by decide) (by decide) (by decide) ?_
        exact law_8 C i1 rfl i2 rfl i3 rfl i4 rfl hkc1 hks1 hI kk hl
      · refine lv_tableIn (off := 634) (tgt := 683) hx hb d_law_49 (by decide) (by decide) (by decide) (by decide) ?_
        exact law_9 C i1 rfl i2 rfl i3 rfl i4 rfl hkc1 hks1 hI kk hl
      · refine lv_tableIn (off := 647) (tgt := 696) hx hb d_law_49 (by decide) (by decide) (by decide) (by decide) ?_
        exact law_10 C i1 rfl i2 rfl i3 rfl i4 rfl hkc1 hks1 hI kk hl
      · refine lv_tableIn (off := 734) (tgt := 783) hx hb d_law_49 (by decide) (by decide) (by decide) (by decide) ?_
        exact law_11 C i1 rfl i2 rfl i3 rfl i4 rfl hkc1 hks1 hI kk hl
      · refine lv_tableIn (off := 802) (tgt := 851) hx hb d_law_49 (by decide) (by decide) (by decide) (by decide) ?_
        exact law_12 C i1 rfl i2 rfl i3 rfl i4 rfl hkc1 hks1 hI kk hl
      · refine lv_tableIn (off := 827) (tgt := 876) hx hb d_law_49 (by decide) (by decide) (by decide) (by decide) ?_
        exact law_13 C i1 rfl i2 rfl i3 rfl i4 rfl hkc1 hks1 hI kk hl
      · refine lv_tableIn (off := 876) (tgt := 925) hx hb d_law_49 (by decide) (by decide) (by decide) (by decide) ?_
        exact law_14 C i1 rfl i2 rfl i3 rfl i4 rfl hkc1 hks1 hI kk hl
      · refine lv_tableIn (off := 901) (tgt := 950) hx hb d_law_49 (by decide) (by decide) (by decide) (by decide) ?_
        exact law_15 C i1 rfl i2 rfl i3 rfl i4 rfl hkc1 hks1 hI kk hl
      · refine lv_tableIn (off := 939) (tgt := 988) hx hb d_law_49 (by decide) (by decide) (by decide) (by decide) ?_
        exact law_16 C i1 rfl i2 rfl i3 rfl i4 rfl hkc1 hks1 hI kk hl
      · refine lv_tableIn (off := 964) (tgt := 1013) hx hb d_law_49 (by decide) (by decide) (by decide) (by decide) ?_
        exact law_17 C i1 rfl i2 rfl i3 rfl i4 rfl hkc1 hks1 hI kk hl
      · refine lv_tableOut (tgt := 1083) hx hb d_law_49 (Or.inr (by rw [nI_toInt (by omega)]; omega)) (by decide) ?_
        exact kk H locs kc ks ls hI (by omega) (by omega) hl
