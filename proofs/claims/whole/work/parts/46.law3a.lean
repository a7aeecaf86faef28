theorem k_368 : (.methodLink R_law 45 y_lw_value : Cond) ∈ kt_T := List.mem_filter.mpr ⟨List.mem_of_getElem? (i := 277) (by decide +kernel), by decide +kernel⟩
theorem k_369 : (.static y_lw_value : Cond) ∈ kt_T := List.mem_filter.mpr ⟨List.mem_of_getElem? (i := 278) (by decide +kernel), by decide +kernel⟩
theorem k_370 : (.initialized R_law : Cond) ∈ kt_T := List.mem_filter.mpr ⟨List.mem_of_getElem? (i := 15) (by decide +kernel), by decide +kernel⟩
theorem k_371 : (.codeWith y_lw_value b_lw_value 7 (some .int) [(0, 11, 14, 13)] : Cond) ∈ kt_T := List.mem_filter.mpr ⟨List.mem_of_getElem? (i := 279) (by decide +kernel), by decide +kernel⟩
theorem k_372 : (.code y_mo_value b_mo_value 5 (some .int) : Cond) ∈ kt_T := List.mem_filter.mpr ⟨List.mem_of_getElem? (i := 469) (by decide +kernel), by decide +kernel⟩
theorem k_373 : (.instanceMethod y_mo_value : Cond) ∈ kt_T := List.mem_filter.mpr ⟨List.mem_of_getElem? (i := 467) (by decide +kernel), by decide +kernel⟩
theorem k_374 : (.selects R_mo y_mo_value y_mo_value : Cond) ∈ kt_T := List.mem_filter.mpr ⟨List.mem_of_getElem? (i := 468) (by decide +kernel), by decide +kernel⟩
theorem k_375 : (.methodLink R_law 48 y_mo_value : Cond) ∈ kt_T := List.mem_filter.mpr ⟨List.mem_of_getElem? (i := 466) (by decide +kernel), by decide +kernel⟩
theorem k_376 : (.code y_mo_thrown b_mo_thrown 1 (some .int) : Cond) ∈ kt_T := List.mem_filter.mpr ⟨List.mem_of_getElem? (i := 465) (by decide +kernel), by decide +kernel⟩
theorem k_377 : (.instanceMethod y_mo_thrown : Cond) ∈ kt_T := List.mem_filter.mpr ⟨List.mem_of_getElem? (i := 463) (by decide +kernel), by decide +kernel⟩
theorem k_378 : (.selects R_mo y_mo_thrown y_mo_thrown : Cond) ∈ kt_T := List.mem_filter.mpr ⟨List.mem_of_getElem? (i := 464) (by decide +kernel), by decide +kernel⟩
theorem k_379 : (.methodLink R_law 49 y_mo_thrown : Cond) ∈ kt_T := List.mem_filter.mpr ⟨List.mem_of_getElem? (i := 462) (by decide +kernel), by decide +kernel⟩
theorem k_380 : (.methodLink R_law 53 y_lw_part : Cond) ∈ kt_T := List.mem_filter.mpr ⟨List.mem_of_getElem? (i := 352) (by decide +kernel), by decide +kernel⟩
theorem k_381 : (.static y_lw_part : Cond) ∈ kt_T := List.mem_filter.mpr ⟨List.mem_of_getElem? (i := 353) (by decide +kernel), by decide +kernel⟩
theorem k_382 : (.codeWith y_lw_part b_lw_part 5 (some .int) [(0, 10, 13, 19)] : Cond) ∈ kt_T := List.mem_filter.mpr ⟨List.mem_of_getElem? (i := 354) (by decide +kernel), by decide +kernel⟩
theorem k_383 : (.code y_mo_part b_mo_part 3 (some .int) : Cond) ∈ kt_T := List.mem_filter.mpr ⟨List.mem_of_getElem? (i := 486) (by decide +kernel), by decide +kernel⟩
theorem k_384 : (.instanceMethod y_mo_part : Cond) ∈ kt_T := List.mem_filter.mpr ⟨List.mem_of_getElem? (i := 484) (by decide +kernel), by decide +kernel⟩
theorem k_385 : (.selects R_mo y_mo_part y_mo_part : Cond) ∈ kt_T := List.mem_filter.mpr ⟨List.mem_of_getElem? (i := 485) (by decide +kernel), by decide +kernel⟩
theorem k_386 : (.methodLink R_law 56 y_mo_part : Cond) ∈ kt_T := List.mem_filter.mpr ⟨List.mem_of_getElem? (i := 483) (by decide +kernel), by decide +kernel⟩
theorem k_387 : (.methodLink R_law 69 y_lw_over : Cond) ∈ kt_T := List.mem_filter.mpr ⟨List.mem_of_getElem? (i := 376) (by decide +kernel), by decide +kernel⟩
theorem k_388 : (.static y_lw_over : Cond) ∈ kt_T := List.mem_filter.mpr ⟨List.mem_of_getElem? (i := 377) (by decide +kernel), by decide +kernel⟩
theorem k_389 : (.codeWith y_lw_over b_lw_over 5 (some .int) [(0, 10, 13, 13)] : Cond) ∈ kt_T := List.mem_filter.mpr ⟨List.mem_of_getElem? (i := 378) (by decide +kernel), by decide +kernel⟩
theorem k_390 : (.code y_mo_over b_mo_over 3 (some .int) : Cond) ∈ kt_T := List.mem_filter.mpr ⟨List.mem_of_getElem? (i := 506) (by decide +kernel), by decide +kernel⟩
theorem k_391 : (.instanceMethod y_mo_over : Cond) ∈ kt_T := List.mem_filter.mpr ⟨List.mem_of_getElem? (i := 504) (by decide +kernel), by decide +kernel⟩
theorem k_392 : (.selects R_mo y_mo_over y_mo_over : Cond) ∈ kt_T := List.mem_filter.mpr ⟨List.mem_of_getElem? (i := 505) (by decide +kernel), by decide +kernel⟩
theorem k_393 : (.methodLink R_law 71 y_mo_over : Cond) ∈ kt_T := List.mem_filter.mpr ⟨List.mem_of_getElem? (i := 503) (by decide +kernel), by decide +kernel⟩
theorem k_394 : (.methodLink R_law 90 y_lw_put : Cond) ∈ kt_T := List.mem_filter.mpr ⟨List.mem_of_getElem? (i := 384) (by decide +kernel), by decide +kernel⟩
theorem k_395 : (.static y_lw_put : Cond) ∈ kt_T := List.mem_filter.mpr ⟨List.mem_of_getElem? (i := 385) (by decide +kernel), by decide +kernel⟩
theorem k_396 : (.codeWith y_lw_put b_lw_put 6 (some .int) [(0, 19, 22, 19)] : Cond) ∈ kt_T := List.mem_filter.mpr ⟨List.mem_of_getElem? (i := 386) (by decide +kernel), by decide +kernel⟩
theorem k_397 : (.code y_mo_put b_mo_put 4 (some .boolean) : Cond) ∈ kt_T := List.mem_filter.mpr ⟨List.mem_of_getElem? (i := 529) (by decide +kernel), by decide +kernel⟩
theorem k_398 : (.instanceMethod y_mo_put : Cond) ∈ kt_T := List.mem_filter.mpr ⟨List.mem_of_getElem? (i := 527) (by decide +kernel), by decide +kernel⟩
theorem k_399 : (.selects R_mo y_mo_put y_mo_put : Cond) ∈ kt_T := List.mem_filter.mpr ⟨List.mem_of_getElem? (i := 528) (by decide +kernel), by decide +kernel⟩
theorem k_400 : (.methodLink R_law 93 y_mo_put : Cond) ∈ kt_T := List.mem_filter.mpr ⟨List.mem_of_getElem? (i := 526) (by decide +kernel), by decide +kernel⟩
theorem k_401 : (.methodLink R_law 94 y_lw_at : Cond) ∈ kt_T := List.mem_filter.mpr ⟨List.mem_of_getElem? (i := 396) (by decide +kernel), by decide +kernel⟩
theorem k_402 : (.static y_lw_at : Cond) ∈ kt_T := List.mem_filter.mpr ⟨List.mem_of_getElem? (i := 397) (by decide +kernel), by decide +kernel⟩
theorem k_403 : (.codeWith y_lw_at b_lw_at 5 (some .int) [(0, 10, 13, 19)] : Cond) ∈ kt_T := List.mem_filter.mpr ⟨List.mem_of_getElem? (i := 398) (by decide +kernel), by decide +kernel⟩
theorem k_404 : (.code y_mo_at b_mo_at 3 (some .int) : Cond) ∈ kt_T := List.mem_filter.mpr ⟨List.mem_of_getElem? (i := 541) (by decide +kernel), by decide +kernel⟩
theorem k_405 : (.instanceMethod y_mo_at : Cond) ∈ kt_T := List.mem_filter.mpr ⟨List.mem_of_getElem? (i := 539) (by decide +kernel), by decide +kernel⟩
theorem k_406 : (.selects R_mo y_mo_at y_mo_at : Cond) ∈ kt_T := List.mem_filter.mpr ⟨List.mem_of_getElem? (i := 540) (by decide +kernel), by decide +kernel⟩
theorem k_407 : (.methodLink R_law 96 y_mo_at : Cond) ∈ kt_T := List.mem_filter.mpr ⟨List.mem_of_getElem? (i := 538) (by decide +kernel), by decide +kernel⟩
theorem upL0 {f : Nat → Int64} {v : Int64} : vp_updL f 0 v 0 = v := by rw [vp_updL, if_pos rfl]
set_option maxHeartbeats 1000000 in
set_option maxRecDepth 100000 in
theorem law_0 {p : Program} {l : Launch} {e : Env} {m : MethodId} {below : List Frame} {meth : Method} {c : Code} {Q : State → Prop} {b L i kc ks : Nat} {xs : Nat → Int32} {x1 x2 x3 x4 : Int32} {H : Heap} {locs : List Loc} {dC : Nat → ClassId} {dI : Nat → Nat → Nat} {A : Nat → Prop} {s : State} {ak : Nat} {ac : Nat} {a0 : Nat} {a1 : Nat} {a2 : Nat} {a_w : Nat} {a_z : Nat} {a_s : Nat} {e0 : Nat} {w0 : Nat} {pv : Nat} {su : Nat} {sl : Nat} {er : Nat → Nat} {wr : Nat → Nat} {cC : ClassId} {cU : ClassId} {cL : ClassId} {cZ : ClassId} {cE : ClassId} {cW : ClassId} {cP : ClassId} {cSu : ClassId} {cSl : ClassId} {cI : ClassId} {cJ : ClassId} {m0 : Nat} {mu : Nat} {md : Nat} {mc : Nat} {me : Nat} {mau : Nat} {mad : Nat} {mwg : Nat} {mgv : Nat} {msq : Nat} {ao : Nat} {cmu : ClassId} {cmd : ClassId} {cmc : ClassId} {cme : ClassId} {cma : ClassId} {cmb : ClassId} {cmw : ClassId} {cmg : ClassId} {cms : ClassId} {cO : ClassId} {kinds : Int32} {nk : Nat} {mk : Int32} (C : LCtx p l m c b L xs dC dI A s ak ac a0 a1 a2 a_w a_z a_s e0 w0 pv su sl er wr cC cU cL cZ cE cW cP cSu cSl cI cJ m0 mu md mc me mau mad mwg mgv msq ao cmu cmd cmc cme cma cmb cmw cmg cms cO kinds nk mk) (i1 : vp_in (nI i + 1) L) (v1 : xs (nI i + 1).toNatClampNeg = x1) (i2 : vp_in (nI i + 2) L) (v2 : xs (nI i + 2).toNatClampNeg = x2) (i3 : vp_in (nI i + 3) L) (v3 : xs (nI i + 3).toNatClampNeg = x3) (i4 : vp_in (nI i + 4) L) (v4 : xs (nI i + 4).toNatClampNeg = x4) (hkc1 : kc + 1 ≤ room_1.cells) (hks1 : ks + 6 ≤ room_1.slots) (hI : LInv dC dI A s ak ac a0 a1 a2 a_w a_z a_s e0 w0 pv su sl er wr cC cU cL cZ cE cW cP cSu cSl cI cJ m0 mu md mc me mau mad mwg mgv msq ao cmu cmd cmc cme cma cmb cmw cmg cms cO kinds nk mk H locs) (kk : ∀ (H : Heap) (locs : List Loc) (kc2 ks2 : Nat) (ls : Array Slot), LInv dC dI A s ak ac a0 a1 a2 a_w a_z a_s e0 w0 pv su sl er wr cC cU cL cZ cE cW cP cSu cSl cI cJ m0 mu md mc me mau mad mwg mgv msq ao cmu cmd cmc cme cma cmb cmw cmg cms cO kinds nk mk H locs → kc2 ≤ kc + 1 → ks2 ≤ ks + 6 → lv_has ls 7 [(0, .ref b), (1, .ref ak), (2, .ref m0), (3, .ref ao), (4, .int (nI i))] → W p l e room_1 s m #[Value.ref b] below meth c H locs kc2 ks2 Q (F0 m 1083 ls [])) {ls : Array Slot} (hl : lv_has ls 7 [(0, .ref b), (1, .ref ak), (2, .ref m0), (3, .ref ao), (4, .int (nI i))]) : W p l e room_1 s m #[Value.ref b] below meth c H locs kc ks Q (F0 m 136 ls []) := by
  obtain ⟨hx, hb, hml, hown, hT, hN, hN2, hl9, hX, hbl, hbA, hA, hZ, ⟨sa1, hs1⟩, ⟨sa2, hs2⟩, ⟨sa3, hs3⟩, ⟨sa4, hs4⟩, hK, hn, hmk⟩ := C
  obtain ⟨rowc, fc, cnt, fu, fl, wc, all, fz, ans, fp, fsu, fsl, E, Wm, th, mv, up, dn, mr, so, mw, gu, gd, gc, ge, ga, gb, gw, gg, gs, fo, hP, hD, hS, hRV, hRC, hRE, hRA, hRW⟩ := hI
  have hkc : kc ≤ room_1.cells := by omega
  have hks : ks ≤ room_1.slots := by omega
  by_cases ht : (x3.toInt64 <<< ((32 : Int32).toInt64 &&& 63)) ||| (x4.toInt64 &&& 4294967295) = 0
  · have hR := value_thr (up := up) (dn := dn) (mv := mv) (gu := gu) (gd := gd) (a := (x1.toInt64 <<< ((32 : Int32).toInt64 &&& 63)) ||| (x2.toInt64 &&& 4294967295)) ht
    refine lv_aload_n hx hb d_law_136 rfl (lv_at hl 1 rfl) ?_
    refine lv_aload_n hx hb d_law_137 rfl (lv_at hl 0 rfl) ?_
    refine lv_iload hx hb d_law_138 (lv_at hl 4 rfl) ?_
    refine lv_iconst (v := 1) hx hb d_law_140 (by decide) ?_
    refine lv_iadd hx hb d_law_141 ?_
    refine kz_sld hx hb hX hbl hbA hS i1 v1 d_law_142 ?_
    refine lv_i2l (v := x1.toInt64) hx hb d_law_143 rfl ?_
    refine lv_bipush (v := 32) hx hb d_law_144 (by decide) ?_
    refine lv_lshl (v := x1.toInt64 <<< ((32 : Int32).toInt64 &&& 63)) hx hb d_law_146 rfl ?_
    refine lv_aload_n hx hb d_law_147 rfl (lv_at hl 0 rfl) ?_
    refine lv_iload hx hb d_law_148 (lv_at hl 4 rfl) ?_
    refine lv_iconst (v := 2) hx hb d_law_150 (by decide) ?_
    refine lv_iadd hx hb d_law_151 ?_
    refine kz_sld hx hb hX hbl hbA hS i2 v2 d_law_152 ?_
    refine lv_i2l (v := x2.toInt64) hx hb d_law_153 rfl ?_
    refine lv_ldc2 (v := 4294967295) hx hb hown (hT _ k_295) d_law_154 ?_
    refine lv_land hx hb d_law_157 ?_
    refine lv_lor hx hb d_law_158 ?_
    refine lv_aload_n hx hb d_law_159 rfl (lv_at hl 0 rfl) ?_
    refine lv_iload hx hb d_law_160 (lv_at hl 4 rfl) ?_
    refine lv_iconst (v := 3) hx hb d_law_162 (by decide) ?_
    refine lv_iadd hx hb d_law_163 ?_
    refine kz_sld hx hb hX hbl hbA hS i3 v3 d_law_164 ?_
    refine lv_i2l (v := x3.toInt64) hx hb d_law_165 rfl ?_
    refine lv_bipush (v := 32) hx hb d_law_166 (by decide) ?_
    refine lv_lshl (v := x3.toInt64 <<< ((32 : Int32).toInt64 &&& 63)) hx hb d_law_168 rfl ?_
    refine lv_aload_n hx hb d_law_169 rfl (lv_at hl 0 rfl) ?_
    refine lv_iload hx hb d_law_170 (lv_at hl 4 rfl) ?_
    refine lv_iconst (v := 4) hx hb d_law_172 (by decide) ?_
    refine lv_iadd hx hb d_law_173 ?_
    refine kz_sld hx hb hX hbl hbA hS i4 v4 d_law_174 ?_
    refine lv_i2l (v := x4.toInt64) hx hb d_law_175 rfl ?_
    refine lv_ldc2 (v := 4294967295) hx hb hown (hT _ k_295) d_law_176 ?_
    refine lv_land hx hb d_law_179 ?_
    refine lv_lor hx hb d_law_180 ?_
    refine lv_aload_n hx hb d_law_181 rfl (lv_at hl 3 rfl) ?_
    have hPc := hP.sub (ws' := [(ak, .inr (0, [.int kinds, .ref ac, .int rowc, .ref a0, .ref a_s, .ref a_w])), (a0, .inr (1, [.ref a1, .ref a2, .int cnt])), (a1, .inl (cU, 300, .inl fu)), (a2, .inl (cL, 300, .inl fl))]) [11, 13, 14, 15] rfl
    have hKc := hK.sub (tys' := [(cU, .int), (cL, .int)]) [11, 12] rfl
    have hDc := hD.sub (ws' := [(ak, .inr (0, [.int kinds, .ref ac, .int rowc, .ref a0, .ref a_s, .ref a_w])), (a0, .inr (1, [.ref a1, .ref a2, .int cnt])), (a1, .inl (cU, 300, .inl fu)), (a2, .inl (cL, 300, .inl fl))]) [11, 13, 14, 15] (by decide) rfl
    have hFc := va_free (wc := [(ak, .inr (0, [.int kinds, .ref ac, .int rowc, .ref a0, .ref a_s, .ref a_w])), (a0, .inr (1, [.ref a1, .ref a2, .int cnt])), (a1, .inl (cU, 300, .inl fu)), (a2, .inl (cL, 300, .inl fl))]) hD hS hA [11, 13, 14, 15] rfl
    refine va_calli (kz_runSW (n := 4) (As := [.ref ak, .long ((x1.toInt64 <<< ((32 : Int32).toInt64 &&& 63)) ||| (x2.toInt64 &&& 4294967295)), .long ((x3.toInt64 <<< ((32 : Int32).toInt64 &&& 63)) ||| (x4.toInt64 &&& 4294967295)), .ref ao]) (rest := []) (hh := [(0, 11, 14, 13)]) ⟨hx, hb, hml, hown, hT⟩ (c_lw_valueT l hl9 dC dI A sa1 H.size ak a0 a1 a2 kinds ac rowc a_s a_w cnt cU fu cL fl ((x1.toInt64 <<< ((32 : Int32).toInt64 &&& 63)) ||| (x2.toInt64 &&& 4294967295)) ((x3.toInt64 <<< ((32 : Int32).toInt64 &&& 63)) ||| (x4.toInt64 &&& 4294967295)) ao ht) rfl k_371 k_369 k_370 k_368 rfl rfl (by decide +kernel) ⟨Nat.le_of_ble_eq_true rfl, Nat.le_of_ble_eq_true rfl⟩ ⟨bl_MT, fun U hU hW => ⟨rfl, by rw [hU], by rw [hU]; exact hPc, va_K.moved hW.alike hKc, hDc.weaken (fun _ _ _ _ => trivial), kt_N2.warm hW hN2, by rw [hU]; exact kt_Z.moved hW.alike (kt_Z.kept hZ (fun a h1 h2 => hS.2.1 a h1 h2)), vk_R.warm hW hs1⟩⟩ rfl rfl hl.1 rfl (lv_room (Nat.le_of_ble_eq_true rfl)) d_law_182 ⟨hkc1, hks1⟩) hS (fun q _ h => hFc q h) hFc (fun r_1 u t H1 locs ht9 hvm hw hB hz1 hk1 hS => ?_)
    obtain ⟨hP1, hK1, hD1⟩ := hB
    rw [ht9] at hP1
    obtain ⟨hP, hD⟩ := va_join (wr := ((m0, .inr (4, [.int th, .int mk, .int mv, .ref mu, .ref md, .long up, .long dn, .int mr, .ref mc, .ref me, .int so, .ref mau, .ref mad, .int mw, .ref mwg, .ref mgv, .ref msq])) :: (mu, .inl (cmu, 300, .inr (.inl gu))) :: (md, .inl (cmd, 300, .inr (.inl gd))) :: (mc, .inl (cmc, 320, .inl gc)) :: (me, .inl (cme, 20, .inl ge)) :: (mau, .inl (cma, 4, .inr (.inl ga))) :: (mad, .inl (cmb, 4, .inr (.inl gb))) :: (mwg, .inl (cmw, 12, .inr (.inl gw))) :: (mgv, .inl (cmg, 12, .inl gg)) :: (msq, .inl (cms, 16, .inr (.inl gs))) :: (ao, .inl (cO, 1, .inr (.inl fo))) :: (ac, .inl (cC, (20 * nk), .inl fc)) :: (a_w, .inr (3, [.ref a_z, .int wc, .long all])) :: (a_z, .inl (cZ, 12, .inl fz)) :: ks_ws a_s e0 w0 pv su sl er wr cE cW cP cSu cSl cI cJ fp fsu fsl E Wm ans)) (w1 := [(ak, .inr (0, [.int kinds, .ref ac, .int rowc, .ref a0, .ref a_s, .ref a_w])), (a0, .inr (1, [.ref a1, .ref a2, .int cnt])), (a1, .inl (cU, 300, .inl fu)), (a2, .inl (cL, 300, .inl fl))]) hP hD [11, 13, 14, 15] [0, 1, 2, 3, 4, 5, 6, 7, 8, 9, 10, 12, 16, 17, 18, 19, 20, 21, 22, 23, 24, 25, 26, 27, 28, 29, 30, 31] rfl rfl (by decide) (by decide) hk1 hFc hP1 hD1
    generalize H1 = H at hP hS ⊢
    have hP := hP.sub (ws' := ((m0, .inr (4, [.int th, .int mk, .int mv, .ref mu, .ref md, .long up, .long dn, .int mr, .ref mc, .ref me, .int so, .ref mau, .ref mad, .int mw, .ref mwg, .ref mgv, .ref msq])) :: (mu, .inl (cmu, 300, .inr (.inl gu))) :: (md, .inl (cmd, 300, .inr (.inl gd))) :: (mc, .inl (cmc, 320, .inl gc)) :: (me, .inl (cme, 20, .inl ge)) :: (mau, .inl (cma, 4, .inr (.inl ga))) :: (mad, .inl (cmb, 4, .inr (.inl gb))) :: (mwg, .inl (cmw, 12, .inr (.inl gw))) :: (mgv, .inl (cmg, 12, .inl gg)) :: (msq, .inl (cms, 16, .inr (.inl gs))) :: (ao, .inl (cO, 1, .inr (.inl fo))) :: (ak, .inr (0, [.int kinds, .ref ac, .int rowc, .ref a0, .ref a_s, .ref a_w])) :: (ac, .inl (cC, (20 * nk), .inl fc)) :: (a0, .inr (1, [.ref a1, .ref a2, .int cnt])) :: (a1, .inl (cU, 300, .inl fu)) :: (a2, .inl (cL, 300, .inl fl)) :: (a_w, .inr (3, [.ref a_z, .int wc, .long all])) :: (a_z, .inl (cZ, 12, .inl fz)) :: ks_ws a_s e0 w0 pv su sl er wr cE cW cP cSu cSl cI cJ fp fsu fsl E Wm ans)) [0, 1, 2, 3, 4, 5, 6, 7, 8, 9, 10, 28, 11, 29, 30, 31, 12, 13, 14, 15, 16, 17, 18, 19, 20, 21, 22, 23, 24, 25, 26, 27] rfl
    have hD := hD.sub (ws' := ((m0, .inr (4, [.int th, .int mk, .int mv, .ref mu, .ref md, .long up, .long dn, .int mr, .ref mc, .ref me, .int so, .ref mau, .ref mad, .int mw, .ref mwg, .ref mgv, .ref msq])) :: (mu, .inl (cmu, 300, .inr (.inl gu))) :: (md, .inl (cmd, 300, .inr (.inl gd))) :: (mc, .inl (cmc, 320, .inl gc)) :: (me, .inl (cme, 20, .inl ge)) :: (mau, .inl (cma, 4, .inr (.inl ga))) :: (mad, .inl (cmb, 4, .inr (.inl gb))) :: (mwg, .inl (cmw, 12, .inr (.inl gw))) :: (mgv, .inl (cmg, 12, .inl gg)) :: (msq, .inl (cms, 16, .inr (.inl gs))) :: (ao, .inl (cO, 1, .inr (.inl fo))) :: (ak, .inr (0, [.int kinds, .ref ac, .int rowc, .ref a0, .ref a_s, .ref a_w])) :: (ac, .inl (cC, (20 * nk), .inl fc)) :: (a0, .inr (1, [.ref a1, .ref a2, .int cnt])) :: (a1, .inl (cU, 300, .inl fu)) :: (a2, .inl (cL, 300, .inl fl)) :: (a_w, .inr (3, [.ref a_z, .int wc, .long all])) :: (a_z, .inl (cZ, 12, .inl fz)) :: ks_ws a_s e0 w0 pv su sl er wr cE cW cP cSu cSl cI cJ fp fsu fsl E Wm ans)) [0, 1, 2, 3, 4, 5, 6, 7, 8, 9, 10, 28, 11, 29, 30, 31, 12, 13, 14, 15, 16, 17, 18, 19, 20, 21, 22, 23, 24, 25, 26, 27] (by decide) rfl
    subst hw
    have hkc := hkc1
    have hks := hks1
    clear hP1 hK1 hD1 hk1 hz1 hFc hDc hPc hKc
    refine lv_istore (lv' := [(5, .int 1), (0, .ref b), (1, .ref ak), (2, .ref m0), (3, .ref ao), (4, .int (nI i))]) hx hb d_law_185 hl (by decide) rfl (fun ls hl => ?_)
    refine lv_aload_n hx hb d_law_187 rfl (lv_at hl 3 rfl) ?_
    refine lv_aload_n hx hb d_law_188 rfl (lv_at hl 1 rfl) ?_
    refine lv_iload hx hb d_law_189 (lv_at hl 5 rfl) ?_
    refine lv_iconst (v := 1) hx hb d_law_191 (by decide) ?_
    refine lv_iadd hx hb d_law_192 ?_
    refine kz_sld hx hb hX hbl hbA hS i1 v1 d_law_193 ?_
    refine lv_i2l (v := x1.toInt64) hx hb d_law_194 rfl ?_
    refine lv_bipush (v := 32) hx hb d_law_195 (by decide) ?_
    refine lv_lshl (v := x1.toInt64 <<< ((32 : Int32).toInt64 &&& 63)) hx hb d_law_197 rfl ?_
    refine lv_aload_n hx hb d_law_198 rfl (lv_at hl 1 rfl) ?_
    refine lv_iload hx hb d_law_199 (lv_at hl 5 rfl) ?_
    refine lv_iconst (v := 2) hx hb d_law_201 (by decide) ?_
    refine lv_iadd hx hb d_law_202 ?_
    refine kz_sld hx hb hX hbl hbA hS i2 v2 d_law_203 ?_
    refine lv_i2l (v := x2.toInt64) hx hb d_law_204 rfl ?_
    refine lv_ldc2 (v := 4294967295) hx hb hown (hT _ k_295) d_law_205 ?_
    refine lv_land hx hb d_law_208 ?_
    refine lv_lor hx hb d_law_209 ?_
    refine lv_aload_n hx hb d_law_210 rfl (lv_at hl 1 rfl) ?_
    refine lv_iload hx hb d_law_211 (lv_at hl 5 rfl) ?_
    refine lv_iconst (v := 3) hx hb d_law_213 (by decide) ?_
    refine lv_iadd hx hb d_law_214 ?_
    refine kz_sld hx hb hX hbl hbA hS i3 v3 d_law_215 ?_
    refine lv_i2l (v := x3.toInt64) hx hb d_law_216 rfl ?_
    refine lv_bipush (v := 32) hx hb d_law_217 (by decide) ?_
    refine lv_lshl (v := x3.toInt64 <<< ((32 : Int32).toInt64 &&& 63)) hx hb d_law_219 rfl ?_
    refine lv_aload_n hx hb d_law_220 rfl (lv_at hl 1 rfl) ?_
    refine lv_iload hx hb d_law_221 (lv_at hl 5 rfl) ?_
    refine lv_iconst (v := 4) hx hb d_law_223 (by decide) ?_
    refine lv_iadd hx hb d_law_224 ?_
    refine kz_sld hx hb hX hbl hbA hS i4 v4 d_law_225 ?_
    refine lv_i2l (v := x4.toInt64) hx hb d_law_226 rfl ?_
    refine lv_ldc2 (v := 4294967295) hx hb hown (hT _ k_295) d_law_227 ?_
    refine lv_land hx hb d_law_230 ?_
    refine lv_lor hx hb d_law_231 ?_
    have hPc := hP.sub (ws' := [(m0, .inr (4, [.int th, .int mk, .int mv, .ref mu, .ref md, .long up, .long dn, .int mr, .ref mc, .ref me, .int so, .ref mau, .ref mad, .int mw, .ref mwg, .ref mgv, .ref msq])), (mu, .inl (cmu, 300, .inr (.inl gu))), (md, .inl (cmd, 300, .inr (.inl gd)))]) [0, 1, 2] rfl
    have hKc := hK.sub (tys' := [(cmu, .long), (cmd, .long)]) [0, 1] rfl
    have hDc := hD.sub (ws' := [(m0, .inr (4, [.int th, .int mk, .int mv, .ref mu, .ref md, .long up, .long dn, .int mr, .ref mc, .ref me, .int so, .ref mau, .ref mad, .int mw, .ref mwg, .ref mgv, .ref msq])), (mu, .inl (cmu, 300, .inr (.inl gu))), (md, .inl (cmd, 300, .inr (.inl gd)))]) [0, 1, 2] (by decide) rfl
    have hFc := va_free (wc := [(m0, .inr (4, [.int th, .int mk, .int mv, .ref mu, .ref md, .long up, .long dn, .int mr, .ref mc, .ref me, .int so, .ref mau, .ref mad, .int mw, .ref mwg, .ref mgv, .ref msq])), (mu, .inl (cmu, 300, .inr (.inl gu))), (md, .inl (cmd, 300, .inr (.inl gd)))]) hD hS hA [0, 1, 2] rfl
    refine va_calli (va_runV (As := [.long ((x1.toInt64 <<< ((32 : Int32).toInt64 &&& 63)) ||| (x2.toInt64 &&& 4294967295)), .long ((x3.toInt64 <<< ((32 : Int32).toInt64 &&& 63)) ||| (x4.toInt64 &&& 4294967295))]) (rest := []) ⟨hx, hb, hml, hown, hT⟩ (c_mo_value l dC dI H.size m0 mu md th mk mv up dn mr mc me so mau mad mw mwg mgv msq cmu gu cmd gd ((x1.toInt64 <<< ((32 : Int32).toInt64 &&& 63)) ||| (x2.toInt64 &&& 4294967295)) ((x3.toInt64 <<< ((32 : Int32).toInt64 &&& 63)) ||| (x4.toInt64 &&& 4294967295)) (show vp_in mv 301 by rw [hRV.1]; exact hRV.2.1)) (cwV 2 hT (kt_V k_375 k_373 k_374 k_136 k_372) rfl rfl rfl (by decide +kernel) ⟨Nat.le_of_ble_eq_true rfl, Nat.le_of_ble_eq_true rfl⟩) ⟨bl_M, va_recv hKc hPc (ci := 4) (q0 := 0) rfl rfl, fun U hU hW => ⟨rfl, by rw [hU], by rw [hU]; exact hPc, va_K.moved hW.alike hKc, hDc.weaken (fun _ _ _ _ => trivial)⟩⟩ rfl rfl hl.1 rfl (lv_room (Nat.le_of_ble_eq_true rfl)) d_law_232 ⟨hkc, hks⟩) hS (fun q _ h => hFc q h) hFc (fun r_2 u t H1 locs ht hvm hw hB hz1 hk1 hS => ?_)
    obtain ⟨th_2, gu_2, gd_2, mv_2, up_2, dn_2⟩ := u
    obtain ⟨hP1, hK1, hD1⟩ := hB
    rw [ht] at hP1
    obtain ⟨hP, hD⟩ := va_join (wr := ((mc, .inl (cmc, 320, .inl gc)) :: (me, .inl (cme, 20, .inl ge)) :: (mau, .inl (cma, 4, .inr (.inl ga))) :: (mad, .inl (cmb, 4, .inr (.inl gb))) :: (mwg, .inl (cmw, 12, .inr (.inl gw))) :: (mgv, .inl (cmg, 12, .inl gg)) :: (msq, .inl (cms, 16, .inr (.inl gs))) :: (ao, .inl (cO, 1, .inr (.inl fo))) :: (ak, .inr (0, [.int kinds, .ref ac, .int rowc, .ref a0, .ref a_s, .ref a_w])) :: (ac, .inl (cC, (20 * nk), .inl fc)) :: (a0, .inr (1, [.ref a1, .ref a2, .int cnt])) :: (a1, .inl (cU, 300, .inl fu)) :: (a2, .inl (cL, 300, .inl fl)) :: (a_w, .inr (3, [.ref a_z, .int wc, .long all])) :: (a_z, .inl (cZ, 12, .inl fz)) :: ks_ws a_s e0 w0 pv su sl er wr cE cW cP cSu cSl cI cJ fp fsu fsl E Wm ans)) (w1 := [(m0, .inr (4, [.int th_2, .int mk, .int mv_2, .ref mu, .ref md, .long up_2, .long dn_2, .int mr, .ref mc, .ref me, .int so, .ref mau, .ref mad, .int mw, .ref mwg, .ref mgv, .ref msq])), (mu, .inl (cmu, 300, .inr (.inl gu_2))), (md, .inl (cmd, 300, .inr (.inl gd_2)))]) hP hD [0, 1, 2] [3, 4, 5, 6, 7, 8, 9, 10, 11, 12, 13, 14, 15, 16, 17, 18, 19, 20, 21, 22, 23, 24, 25, 26, 27, 28, 29, 30, 31] rfl rfl (by decide) (by decide) hk1 hFc hP1 hD1
    generalize H1 = H at hP hS ⊢
    have hP := hP.sub (ws' := ((m0, .inr (4, [.int th_2, .int mk, .int mv_2, .ref mu, .ref md, .long up_2, .long dn_2, .int mr, .ref mc, .ref me, .int so, .ref mau, .ref mad, .int mw, .ref mwg, .ref mgv, .ref msq])) :: (mu, .inl (cmu, 300, .inr (.inl gu_2))) :: (md, .inl (cmd, 300, .inr (.inl gd_2))) :: (mc, .inl (cmc, 320, .inl gc)) :: (me, .inl (cme, 20, .inl ge)) :: (mau, .inl (cma, 4, .inr (.inl ga))) :: (mad, .inl (cmb, 4, .inr (.inl gb))) :: (mwg, .inl (cmw, 12, .inr (.inl gw))) :: (mgv, .inl (cmg, 12, .inl gg)) :: (msq, .inl (cms, 16, .inr (.inl gs))) :: (ao, .inl (cO, 1, .inr (.inl fo))) :: (ak, .inr (0, [.int kinds, .ref ac, .int rowc, .ref a0, .ref a_s, .ref a_w])) :: (ac, .inl (cC, (20 * nk), .inl fc)) :: (a0, .inr (1, [.ref a1, .ref a2, .int cnt])) :: (a1, .inl (cU, 300, .inl fu)) :: (a2, .inl (cL, 300, .inl fl)) :: (a_w, .inr (3, [.ref a_z, .int wc, .long all])) :: (a_z, .inl (cZ, 12, .inl fz)) :: ks_ws a_s e0 w0 pv su sl er wr cE cW cP cSu cSl cI cJ fp fsu fsl E Wm ans)) [29, 30, 31, 0, 1, 2, 3, 4, 5, 6, 7, 8, 9, 10, 11, 12, 13, 14, 15, 16, 17, 18, 19, 20, 21, 22, 23, 24, 25, 26, 27, 28] rfl
    have hD := hD.sub (ws' := ((m0, .inr (4, [.int th_2, .int mk, .int mv_2, .ref mu, .ref md, .long up_2, .long dn_2, .int mr, .ref mc, .ref me, .int so, .ref mau, .ref mad, .int mw, .ref mwg, .ref mgv, .ref msq])) :: (mu, .inl (cmu, 300, .inr (.inl gu_2))) :: (md, .inl (cmd, 300, .inr (.inl gd_2))) :: (mc, .inl (cmc, 320, .inl gc)) :: (me, .inl (cme, 20, .inl ge)) :: (mau, .inl (cma, 4, .inr (.inl ga))) :: (mad, .inl (cmb, 4, .inr (.inl gb))) :: (mwg, .inl (cmw, 12, .inr (.inl gw))) :: (mgv, .inl (cmg, 12, .inl gg)) :: (msq, .inl (cms, 16, .inr (.inl gs))) :: (ao, .inl (cO, 1, .inr (.inl fo))) :: (ak, .inr (0, [.int kinds, .ref ac, .int rowc, .ref a0, .ref a_s, .ref a_w])) :: (ac, .inl (cC, (20 * nk), .inl fc)) :: (a0, .inr (1, [.ref a1, .ref a2, .int cnt])) :: (a1, .inl (cU, 300, .inl fu)) :: (a2, .inl (cL, 300, .inl fl)) :: (a_w, .inr (3, [.ref a_z, .int wc, .long all])) :: (a_z, .inl (cZ, 12, .inl fz)) :: ks_ws a_s e0 w0 pv su sl er wr cE cW cP cSu cSl cI cJ fp fsu fsl E Wm ans)) [29, 30, 31, 0, 1, 2, 3, 4, 5, 6, 7, 8, 9, 10, 11, 12, 13, 14, 15, 16, 17, 18, 19, 20, 21, 22, 23, 24, 25, 26, 27, 28] (by decide) rfl
    have e_r_2 : r_2 = (f_mo_value mv up dn gu gd ((x1.toInt64 <<< ((32 : Int32).toInt64 &&& 63)) ||| (x2.toInt64 &&& 4294967295)) ((x3.toInt64 <<< ((32 : Int32).toInt64 &&& 63)) ||| (x4.toInt64 &&& 4294967295))).1 := congrArg (fun z => z.1) hw
    have e_th_2 : th_2 = (f_mo_value mv up dn gu gd ((x1.toInt64 <<< ((32 : Int32).toInt64 &&& 63)) ||| (x2.toInt64 &&& 4294967295)) ((x3.toInt64 <<< ((32 : Int32).toInt64 &&& 63)) ||| (x4.toInt64 &&& 4294967295))).2.1 := congrArg (fun z => z.2.1) hw
    have e_gu_2 : gu_2 = (f_mo_value mv up dn gu gd ((x1.toInt64 <<< ((32 : Int32).toInt64 &&& 63)) ||| (x2.toInt64 &&& 4294967295)) ((x3.toInt64 <<< ((32 : Int32).toInt64 &&& 63)) ||| (x4.toInt64 &&& 4294967295))).2.2.1 := congrArg (fun z => z.2.2.1) hw
    have e_gd_2 : gd_2 = (f_mo_value mv up dn gu gd ((x1.toInt64 <<< ((32 : Int32).toInt64 &&& 63)) ||| (x2.toInt64 &&& 4294967295)) ((x3.toInt64 <<< ((32 : Int32).toInt64 &&& 63)) ||| (x4.toInt64 &&& 4294967295))).2.2.2.1 := congrArg (fun z => z.2.2.2.1) hw
    have e_mv_2 : mv_2 = (f_mo_value mv up dn gu gd ((x1.toInt64 <<< ((32 : Int32).toInt64 &&& 63)) ||| (x2.toInt64 &&& 4294967295)) ((x3.toInt64 <<< ((32 : Int32).toInt64 &&& 63)) ||| (x4.toInt64 &&& 4294967295))).2.2.2.2.1 := congrArg (fun z => z.2.2.2.2.1) hw
    have e_up_2 : up_2 = (f_mo_value mv up dn gu gd ((x1.toInt64 <<< ((32 : Int32).toInt64 &&& 63)) ||| (x2.toInt64 &&& 4294967295)) ((x3.toInt64 <<< ((32 : Int32).toInt64 &&& 63)) ||| (x4.toInt64 &&& 4294967295))).2.2.2.2.2.1 := congrArg (fun z => z.2.2.2.2.2.1) hw
    have e_dn_2 : dn_2 = (f_mo_value mv up dn gu gd ((x1.toInt64 <<< ((32 : Int32).toInt64 &&& 63)) ||| (x2.toInt64 &&& 4294967295)) ((x3.toInt64 <<< ((32 : Int32).toInt64 &&& 63)) ||| (x4.toInt64 &&& 4294967295))).2.2.2.2.2.2 := congrArg (fun z => z.2.2.2.2.2.2) hw
    subst e_r_2 e_th_2 e_gu_2 e_gd_2 e_mv_2 e_up_2 e_dn_2
    clear hP1 hK1 hD1 hk1 hz1 hFc hDc hPc hKc
    refine lv_istore (lv' := [(6, .int ((f_mo_value mv up dn gu gd ((x1.toInt64 <<< ((32 : Int32).toInt64 &&& 63)) ||| (x2.toInt64 &&& 4294967295)) ((x3.toInt64 <<< ((32 : Int32).toInt64 &&& 63)) ||| (x4.toInt64 &&& 4294967295))).1)), (5, .int 1), (0, .ref b), (1, .ref ak), (2, .ref m0), (3, .ref ao), (4, .int (nI i))]) hx hb d_law_235 hl (by decide) rfl (fun ls hl => ?_)
    refine lv_aload_n hx hb d_law_237 rfl (lv_at hl 4 rfl) ?_
    have hPc := hP.sub (ws' := [(m0, .inr (4, [.int ((f_mo_value mv up dn gu gd ((x1.toInt64 <<< ((32 : Int32).toInt64 &&& 63)) ||| (x2.toInt64 &&& 4294967295)) ((x3.toInt64 <<< ((32 : Int32).toInt64 &&& 63)) ||| (x4.toInt64 &&& 4294967295))).2.1), .int mk, .int ((f_mo_value mv up dn gu gd ((x1.toInt64 <<< ((32 : Int32).toInt64 &&& 63)) ||| (x2.toInt64 &&& 4294967295)) ((x3.toInt64 <<< ((32 : Int32).toInt64 &&& 63)) ||| (x4.toInt64 &&& 4294967295))).2.2.2.2.1), .ref mu, .ref md, .long ((f_mo_value mv up dn gu gd ((x1.toInt64 <<< ((32 : Int32).toInt64 &&& 63)) ||| (x2.toInt64 &&& 4294967295)) ((x3.toInt64 <<< ((32 : Int32).toInt64 &&& 63)) ||| (x4.toInt64 &&& 4294967295))).2.2.2.2.2.1), .long ((f_mo_value mv up dn gu gd ((x1.toInt64 <<< ((32 : Int32).toInt64 &&& 63)) ||| (x2.toInt64 &&& 4294967295)) ((x3.toInt64 <<< ((32 : Int32).toInt64 &&& 63)) ||| (x4.toInt64 &&& 4294967295))).2.2.2.2.2.2), .int mr, .ref mc, .ref me, .int so, .ref mau, .ref mad, .int mw, .ref mwg, .ref mgv, .ref msq]))]) [0] rfl
    have hKc := hK.sub (tys' := []) [] rfl
    refine vp_callSi (W.runV (As := []) (rest := []) ⟨hx, hb, hml, hown, hT⟩ (c_mo_thrown l dC dI m0 ((f_mo_value mv up dn gu gd ((x1.toInt64 <<< ((32 : Int32).toInt64 &&& 63)) ||| (x2.toInt64 &&& 4294967295)) ((x3.toInt64 <<< ((32 : Int32).toInt64 &&& 63)) ||| (x4.toInt64 &&& 4294967295))).2.1) mk ((f_mo_value mv up dn gu gd ((x1.toInt64 <<< ((32 : Int32).toInt64 &&& 63)) ||| (x2.toInt64 &&& 4294967295)) ((x3.toInt64 <<< ((32 : Int32).toInt64 &&& 63)) ||| (x4.toInt64 &&& 4294967295))).2.2.2.2.1) mu md ((f_mo_value mv up dn gu gd ((x1.toInt64 <<< ((32 : Int32).toInt64 &&& 63)) ||| (x2.toInt64 &&& 4294967295)) ((x3.toInt64 <<< ((32 : Int32).toInt64 &&& 63)) ||| (x4.toInt64 &&& 4294967295))).2.2.2.2.2.1) ((f_mo_value mv up dn gu gd ((x1.toInt64 <<< ((32 : Int32).toInt64 &&& 63)) ||| (x2.toInt64 &&& 4294967295)) ((x3.toInt64 <<< ((32 : Int32).toInt64 &&& 63)) ||| (x4.toInt64 &&& 4294967295))).2.2.2.2.2.2) mr mc me so mau mad mw mwg mgv msq) (cwV 0 hT (kt_V k_379 k_377 k_378 k_136 k_376) rfl rfl rfl (by decide +kernel) ⟨Nat.le_of_ble_eq_true rfl, Nat.le_of_ble_eq_true rfl⟩) ⟨bl_R, va_recv hKc hPc (ci := 4) (q0 := 0) rfl rfl, fun U hU hW => ⟨rfl, by rw [hU]; exact hPc, va_K.moved hW.alike hKc⟩⟩ rfl rfl hl.1 rfl (lv_room (Nat.le_of_ble_eq_true rfl)) d_law_238 ⟨hkc, hks⟩) (fun r_3 e_r_3 => ?_)
    subst e_r_3
    refine lv_iload hx hb d_law_241 (lv_at hl 1 rfl) ?_
    refine lv_icmp_eq (tgt := 248) hx hb d_law_243 (by decide) (fun c_4 => ?_) (fun c_4 => ?_)
    · refine lv_iload hx hb d_law_248 (lv_at hl 1 rfl) ?_
      refine lv_if_ne (tgt := 265) hx hb d_law_250 (by decide) (fun c_5 => ?_) (fun c_5 => ?_)
      · refine lv_goto (tgt := 1083) hx hb d_law_265 (by decide) ?_
        exact kk _ _ _ _ ls ⟨_, _, _, _, _, _, _, _, _, _, _, _, _, _, _, _, _, _, _, _, _, _, _, _, _, _, _, _, _, _, _, hP, hD, hS, (by rw [hR]; exact hRV), hRC, hRE, hRA, hRW⟩ (by omega) (by omega) (lv_sub hl [2, 3, 4, 5, 6] rfl)
      · exact absurd c_5 (by decide)
    · exact (c_4 (show f_mo_thrown _ = 1 by rw [hR]; rfl)).elim
  · have hnt := ht
    have hR := value_core (up := up) (dn := dn) hRV (a := (x1.toInt64 <<< ((32 : Int32).toInt64 &&& 63)) ||| (x2.toInt64 &&& 4294967295)) hnt
    refine lv_aload_n hx hb d_law_136 rfl (lv_at hl 1 rfl) ?_
    refine lv_aload_n hx hb d_law_137 rfl (lv_at hl 0 rfl) ?_
    refine lv_iload hx hb d_law_138 (lv_at hl 4 rfl) ?_
    refine lv_iconst (v := 1) hx hb d_law_140 (by decide) ?_
    refine lv_iadd hx hb d_law_141 ?_
    refine kz_sld hx hb hX hbl hbA hS i1 v1 d_law_142 ?_
    refine lv_i2l (v := x1.toInt64) hx hb d_law_143 rfl ?_
    refine lv_bipush (v := 32) hx hb d_law_144 (by decide) ?_
    refine lv_lshl (v := x1.toInt64 <<< ((32 : Int32).toInt64 &&& 63)) hx hb d_law_146 rfl ?_
    refine lv_aload_n hx hb d_law_147 rfl (lv_at hl 0 rfl) ?_
    refine lv_iload hx hb d_law_148 (lv_at hl 4 rfl) ?_
    refine lv_iconst (v := 2) hx hb d_law_150 (by decide) ?_
    refine lv_iadd hx hb d_law_151 ?_
    refine kz_sld hx hb hX hbl hbA hS i2 v2 d_law_152 ?_
    refine lv_i2l (v := x2.toInt64) hx hb d_law_153 rfl ?_
    refine lv_ldc2 (v := 4294967295) hx hb hown (hT _ k_295) d_law_154 ?_
    refine lv_land hx hb d_law_157 ?_
    refine lv_lor hx hb d_law_158 ?_
    refine lv_aload_n hx hb d_law_159 rfl (lv_at hl 0 rfl) ?_
    refine lv_iload hx hb d_law_160 (lv_at hl 4 rfl) ?_
    refine lv_iconst (v := 3) hx hb d_law_162 (by decide) ?_
    refine lv_iadd hx hb d_law_163 ?_
    refine kz_sld hx hb hX hbl hbA hS i3 v3 d_law_164 ?_
    refine lv_i2l (v := x3.toInt64) hx hb d_law_165 rfl ?_
    refine lv_bipush (v := 32) hx hb d_law_166 (by decide) ?_
    refine lv_lshl (v := x3.toInt64 <<< ((32 : Int32).toInt64 &&& 63)) hx hb d_law_168 rfl ?_
    refine lv_aload_n hx hb d_law_169 rfl (lv_at hl 0 rfl) ?_
    refine lv_iload hx hb d_law_170 (lv_at hl 4 rfl) ?_
    refine lv_iconst (v := 4) hx hb d_law_172 (by decide) ?_
    refine lv_iadd hx hb d_law_173 ?_
    refine kz_sld hx hb hX hbl hbA hS i4 v4 d_law_174 ?_
    refine lv_i2l (v := x4.toInt64) hx hb d_law_175 rfl ?_
    refine lv_ldc2 (v := 4294967295) hx hb hown (hT _ k_295) d_law_176 ?_
    refine lv_land hx hb d_law_179 ?_
    refine lv_lor hx hb d_law_180 ?_
    refine lv_aload_n hx hb d_law_181 rfl (lv_at hl 3 rfl) ?_
    have hPc := hP.sub (ws' := [(ak, .inr (0, [.int kinds, .ref ac, .int rowc, .ref a0, .ref a_s, .ref a_w])), (a0, .inr (1, [.ref a1, .ref a2, .int cnt])), (a1, .inl (cU, 300, .inl fu)), (a2, .inl (cL, 300, .inl fl)), (ao, .inl (cO, 1, .inr (.inl fo)))]) [11, 13, 14, 15, 10] rfl
    have hKc := hK.sub (tys' := [(cU, .int), (cL, .int), (cO, .long)]) [11, 12, 9] rfl
    have hDc := hD.sub (ws' := [(ak, .inr (0, [.int kinds, .ref ac, .int rowc, .ref a0, .ref a_s, .ref a_w])), (a0, .inr (1, [.ref a1, .ref a2, .int cnt])), (a1, .inl (cU, 300, .inl fu)), (a2, .inl (cL, 300, .inl fl)), (ao, .inl (cO, 1, .inr (.inl fo)))]) [11, 13, 14, 15, 10] (by decide) rfl
    have hFc := va_free (wc := [(ak, .inr (0, [.int kinds, .ref ac, .int rowc, .ref a0, .ref a_s, .ref a_w])), (a0, .inr (1, [.ref a1, .ref a2, .int cnt])), (a1, .inl (cU, 300, .inl fu)), (a2, .inl (cL, 300, .inl fl)), (ao, .inl (cO, 1, .inr (.inl fo)))]) hD hS hA [11, 13, 14, 15, 10] rfl
    refine va_calli (kz_runSW (n := 4) (As := [.ref ak, .long ((x1.toInt64 <<< ((32 : Int32).toInt64 &&& 63)) ||| (x2.toInt64 &&& 4294967295)), .long ((x3.toInt64 <<< ((32 : Int32).toInt64 &&& 63)) ||| (x4.toInt64 &&& 4294967295)), .ref ao]) (rest := []) (hh := [(0, 11, 14, 13)]) ⟨hx, hb, hml, hown, hT⟩ (c_lw_value l dC dI H.size ak a0 a1 a2 ao kinds ac rowc a_s a_w cnt cU fu cL fl cO fo ((x1.toInt64 <<< ((32 : Int32).toInt64 &&& 63)) ||| (x2.toInt64 &&& 4294967295)) ((x3.toInt64 <<< ((32 : Int32).toInt64 &&& 63)) ||| (x4.toInt64 &&& 4294967295)) hRV.2.1 hnt) rfl k_371 k_369 k_370 k_368 rfl rfl (by decide +kernel) ⟨Nat.le_of_ble_eq_true rfl, Nat.le_of_ble_eq_true rfl⟩ ⟨bl_MN, fun U hU hW => ⟨rfl, by rw [hU], by rw [hU]; exact hPc, va_K.moved hW.alike hKc, hDc.weaken (fun _ _ _ _ => trivial), kt_N.warm hW hN⟩⟩ rfl rfl hl.1 rfl (lv_room (Nat.le_of_ble_eq_true rfl)) d_law_182 ⟨hkc, hks⟩) hS (fun q _ h => hFc q h) hFc (fun r_51 u t H1 locs ht9 hvm hw hB hz1 hk1 hS => ?_)
    obtain ⟨fu_51, fl_51, cnt_51, fo_51⟩ := u
    obtain ⟨hP1, hK1, hD1⟩ := hB
    rw [ht9] at hP1
    obtain ⟨hP, hD⟩ := va_join (wr := ((m0, .inr (4, [.int th, .int mk, .int mv, .ref mu, .ref md, .long up, .long dn, .int mr, .ref mc, .ref me, .int so, .ref mau, .ref mad, .int mw, .ref mwg, .ref mgv, .ref msq])) :: (mu, .inl (cmu, 300, .inr (.inl gu))) :: (md, .inl (cmd, 300, .inr (.inl gd))) :: (mc, .inl (cmc, 320, .inl gc)) :: (me, .inl (cme, 20, .inl ge)) :: (mau, .inl (cma, 4, .inr (.inl ga))) :: (mad, .inl (cmb, 4, .inr (.inl gb))) :: (mwg, .inl (cmw, 12, .inr (.inl gw))) :: (mgv, .inl (cmg, 12, .inl gg)) :: (msq, .inl (cms, 16, .inr (.inl gs))) :: (ac, .inl (cC, (20 * nk), .inl fc)) :: (a_w, .inr (3, [.ref a_z, .int wc, .long all])) :: (a_z, .inl (cZ, 12, .inl fz)) :: ks_ws a_s e0 w0 pv su sl er wr cE cW cP cSu cSl cI cJ fp fsu fsl E Wm ans)) (w1 := [(ak, .inr (0, [.int kinds, .ref ac, .int rowc, .ref a0, .ref a_s, .ref a_w])), (a0, .inr (1, [.ref a1, .ref a2, .int cnt_51])), (a1, .inl (cU, 300, .inl fu_51)), (a2, .inl (cL, 300, .inl fl_51)), (ao, .inl (cO, 1, .inr (.inl fo_51)))]) hP hD [11, 13, 14, 15, 10] [0, 1, 2, 3, 4, 5, 6, 7, 8, 9, 12, 16, 17, 18, 19, 20, 21, 22, 23, 24, 25, 26, 27, 28, 29, 30, 31] rfl rfl (by decide) (by decide) hk1 hFc hP1 hD1
    generalize H1 = H at hP hS ⊢
    have hP := hP.sub (ws' := ((m0, .inr (4, [.int th, .int mk, .int mv, .ref mu, .ref md, .long up, .long dn, .int mr, .ref mc, .ref me, .int so, .ref mau, .ref mad, .int mw, .ref mwg, .ref mgv, .ref msq])) :: (mu, .inl (cmu, 300, .inr (.inl gu))) :: (md, .inl (cmd, 300, .inr (.inl gd))) :: (mc, .inl (cmc, 320, .inl gc)) :: (me, .inl (cme, 20, .inl ge)) :: (mau, .inl (cma, 4, .inr (.inl ga))) :: (mad, .inl (cmb, 4, .inr (.inl gb))) :: (mwg, .inl (cmw, 12, .inr (.inl gw))) :: (mgv, .inl (cmg, 12, .inl gg)) :: (msq, .inl (cms, 16, .inr (.inl gs))) :: (ao, .inl (cO, 1, .inr (.inl fo_51))) :: (ak, .inr (0, [.int kinds, .ref ac, .int rowc, .ref a0, .ref a_s, .ref a_w])) :: (ac, .inl (cC, (20 * nk), .inl fc)) :: (a0, .inr (1, [.ref a1, .ref a2, .int cnt_51])) :: (a1, .inl (cU, 300, .inl fu_51)) :: (a2, .inl (cL, 300, .inl fl_51)) :: (a_w, .inr (3, [.ref a_z, .int wc, .long all])) :: (a_z, .inl (cZ, 12, .inl fz)) :: ks_ws a_s e0 w0 pv su sl er wr cE cW cP cSu cSl cI cJ fp fsu fsl E Wm ans)) [0, 1, 2, 3, 4, 5, 6, 7, 8, 9, 31, 27, 10, 28, 29, 30, 11, 12, 13, 14, 15, 16, 17, 18, 19, 20, 21, 22, 23, 24, 25, 26] rfl
    have hD := hD.sub (ws' := ((m0, .inr (4, [.int th, .int mk, .int mv, .ref mu, .ref md, .long up, .long dn, .int mr, .ref mc, .ref me, .int so, .ref mau, .ref mad, .int mw, .ref mwg, .ref mgv, .ref msq])) :: (mu, .inl (cmu, 300, .inr (.inl gu))) :: (md, .inl (cmd, 300, .inr (.inl gd))) :: (mc, .inl (cmc, 320, .inl gc)) :: (me, .inl (cme, 20, .inl ge)) :: (mau, .inl (cma, 4, .inr (.inl ga))) :: (mad, .inl (cmb, 4, .inr (.inl gb))) :: (mwg, .inl (cmw, 12, .inr (.inl gw))) :: (mgv, .inl (cmg, 12, .inl gg)) :: (msq, .inl (cms, 16, .inr (.inl gs))) :: (ao, .inl (cO, 1, .inr (.inl fo_51))) :: (ak, .inr (0, [.int kinds, .ref ac, .int rowc, .ref a0, .ref a_s, .ref a_w])) :: (ac, .inl (cC, (20 * nk), .inl fc)) :: (a0, .inr (1, [.ref a1, .ref a2, .int cnt_51])) :: (a1, .inl (cU, 300, .inl fu_51)) :: (a2, .inl (cL, 300, .inl fl_51)) :: (a_w, .inr (3, [.ref a_z, .int wc, .long all])) :: (a_z, .inl (cZ, 12, .inl fz)) :: ks_ws a_s e0 w0 pv su sl er wr cE cW cP cSu cSl cI cJ fp fsu fsl E Wm ans)) [0, 1, 2, 3, 4, 5, 6, 7, 8, 9, 31, 27, 10, 28, 29, 30, 11, 12, 13, 14, 15, 16, 17, 18, 19, 20, 21, 22, 23, 24, 25, 26] (by decide) rfl
    have e_r_51 : r_51 = 0 := congrArg (fun z => z.1) hw
    have e_fu_51 : fu_51 = (f_kr_value cnt fu fl ((x1.toInt64 <<< ((32 : Int32).toInt64 &&& 63)) ||| (x2.toInt64 &&& 4294967295)) ((x3.toInt64 <<< ((32 : Int32).toInt64 &&& 63)) ||| (x4.toInt64 &&& 4294967295))).2.1 := congrArg (fun z => z.2.1) hw
    have e_fl_51 : fl_51 = (f_kr_value cnt fu fl ((x1.toInt64 <<< ((32 : Int32).toInt64 &&& 63)) ||| (x2.toInt64 &&& 4294967295)) ((x3.toInt64 <<< ((32 : Int32).toInt64 &&& 63)) ||| (x4.toInt64 &&& 4294967295))).2.2.1 := congrArg (fun z => z.2.2.1) hw
    have e_cnt_51 : cnt_51 = (f_kr_value cnt fu fl ((x1.toInt64 <<< ((32 : Int32).toInt64 &&& 63)) ||| (x2.toInt64 &&& 4294967295)) ((x3.toInt64 <<< ((32 : Int32).toInt64 &&& 63)) ||| (x4.toInt64 &&& 4294967295))).2.2.2 := congrArg (fun z => z.2.2.2.1) hw
    have e_fo_51 : fo_51 = (vp_updL fo 0 (((f_kr_value cnt fu fl ((x1.toInt64 <<< ((32 : Int32).toInt64 &&& 63)) ||| (x2.toInt64 &&& 4294967295)) ((x3.toInt64 <<< ((32 : Int32).toInt64 &&& 63)) ||| (x4.toInt64 &&& 4294967295))).1).toInt64)) := congrArg (fun z => z.2.2.2.2) hw
    clear hw
    subst e_r_51 e_fu_51 e_fl_51 e_cnt_51 e_fo_51
    clear hP1 hK1 hD1 hk1 hz1 hFc hDc hPc hKc
    refine lv_istore (lv' := [(5, .int 0), (0, .ref b), (1, .ref ak), (2, .ref m0), (3, .ref ao), (4, .int (nI i))]) hx hb d_law_185 hl (by decide) rfl (fun ls hl => ?_)
    refine lv_aload_n hx hb d_law_187 rfl (lv_at hl 3 rfl) ?_
    refine lv_aload_n hx hb d_law_188 rfl (lv_at hl 1 rfl) ?_
    refine lv_iload hx hb d_law_189 (lv_at hl 5 rfl) ?_
    refine lv_iconst (v := 1) hx hb d_law_191 (by decide) ?_
    refine lv_iadd hx hb d_law_192 ?_
    refine kz_sld hx hb hX hbl hbA hS i1 v1 d_law_193 ?_
    refine lv_i2l (v := x1.toInt64) hx hb d_law_194 rfl ?_
    refine lv_bipush (v := 32) hx hb d_law_195 (by decide) ?_
    refine lv_lshl (v := x1.toInt64 <<< ((32 : Int32).toInt64 &&& 63)) hx hb d_law_197 rfl ?_
    refine lv_aload_n hx hb d_law_198 rfl (lv_at hl 1 rfl) ?_
    refine lv_iload hx hb d_law_199 (lv_at hl 5 rfl) ?_
    refine lv_iconst (v := 2) hx hb d_law_201 (by decide) ?_
    refine lv_iadd hx hb d_law_202 ?_
    refine kz_sld hx hb hX hbl hbA hS i2 v2 d_law_203 ?_
    refine lv_i2l (v := x2.toInt64) hx hb d_law_204 rfl ?_
    refine lv_ldc2 (v := 4294967295) hx hb hown (hT _ k_295) d_law_205 ?_
    refine lv_land hx hb d_law_208 ?_
    refine lv_lor hx hb d_law_209 ?_
    refine lv_aload_n hx hb d_law_210 rfl (lv_at hl 1 rfl) ?_
    refine lv_iload hx hb d_law_211 (lv_at hl 5 rfl) ?_
    refine lv_iconst (v := 3) hx hb d_law_213 (by decide) ?_
    refine lv_iadd hx hb d_law_214 ?_
    refine kz_sld hx hb hX hbl hbA hS i3 v3 d_law_215 ?_
    refine lv_i2l (v := x3.toInt64) hx hb d_law_216 rfl ?_
    refine lv_bipush (v := 32) hx hb d_law_217 (by decide) ?_
    refine lv_lshl (v := x3.toInt64 <<< ((32 : Int32).toInt64 &&& 63)) hx hb d_law_219 rfl ?_
    refine lv_aload_n hx hb d_law_220 rfl (lv_at hl 1 rfl) ?_
    refine lv_iload hx hb d_law_221 (lv_at hl 5 rfl) ?_
    refine lv_iconst (v := 4) hx hb d_law_223 (by decide) ?_
    refine lv_iadd hx hb d_law_224 ?_
    refine kz_sld hx hb hX hbl hbA hS i4 v4 d_law_225 ?_
    refine lv_i2l (v := x4.toInt64) hx hb d_law_226 rfl ?_
    refine lv_ldc2 (v := 4294967295) hx hb hown (hT _ k_295) d_law_227 ?_
    refine lv_land hx hb d_law_230 ?_
    refine lv_lor hx hb d_law_231 ?_
    have hPc := hP.sub (ws' := [(m0, .inr (4, [.int th, .int mk, .int mv, .ref mu, .ref md, .long up, .long dn, .int mr, .ref mc, .ref me, .int so, .ref mau, .ref mad, .int mw, .ref mwg, .ref mgv, .ref msq])), (mu, .inl (cmu, 300, .inr (.inl gu))), (md, .inl (cmd, 300, .inr (.inl gd)))]) [0, 1, 2] rfl
    have hKc := hK.sub (tys' := [(cmu, .long), (cmd, .long)]) [0, 1] rfl
    have hDc := hD.sub (ws' := [(m0, .inr (4, [.int th, .int mk, .int mv, .ref mu, .ref md, .long up, .long dn, .int mr, .ref mc, .ref me, .int so, .ref mau, .ref mad, .int mw, .ref mwg, .ref mgv, .ref msq])), (mu, .inl (cmu, 300, .inr (.inl gu))), (md, .inl (cmd, 300, .inr (.inl gd)))]) [0, 1, 2] (by decide) rfl
    have hFc := va_free (wc := [(m0, .inr (4, [.int th, .int mk, .int mv, .ref mu, .ref md, .long up, .long dn, .int mr, .ref mc, .ref me, .int so, .ref mau, .ref mad, .int mw, .ref mwg, .ref mgv, .ref msq])), (mu, .inl (cmu, 300, .inr (.inl gu))), (md, .inl (cmd, 300, .inr (.inl gd)))]) hD hS hA [0, 1, 2] rfl
    refine va_calli (va_runV (As := [.long ((x1.toInt64 <<< ((32 : Int32).toInt64 &&& 63)) ||| (x2.toInt64 &&& 4294967295)), .long ((x3.toInt64 <<< ((32 : Int32).toInt64 &&& 63)) ||| (x4.toInt64 &&& 4294967295))]) (rest := []) ⟨hx, hb, hml, hown, hT⟩ (c_mo_value l dC dI H.size m0 mu md th mk mv up dn mr mc me so mau mad mw mwg mgv msq cmu gu cmd gd ((x1.toInt64 <<< ((32 : Int32).toInt64 &&& 63)) ||| (x2.toInt64 &&& 4294967295)) ((x3.toInt64 <<< ((32 : Int32).toInt64 &&& 63)) ||| (x4.toInt64 &&& 4294967295)) (show vp_in mv 301 by rw [hRV.1]; exact hRV.2.1)) (cwV 2 hT (kt_V k_375 k_373 k_374 k_136 k_372) rfl rfl rfl (by decide +kernel) ⟨Nat.le_of_ble_eq_true rfl, Nat.le_of_ble_eq_true rfl⟩) ⟨bl_M, va_recv hKc hPc (ci := 4) (q0 := 0) rfl rfl, fun U hU hW => ⟨rfl, by rw [hU], by rw [hU]; exact hPc, va_K.moved hW.alike hKc, hDc.weaken (fun _ _ _ _ => trivial)⟩⟩ rfl rfl hl.1 rfl (lv_room (Nat.le_of_ble_eq_true rfl)) d_law_232 ⟨hkc, hks⟩) hS (fun q _ h => hFc q h) hFc (fun r_52 u t H1 locs ht hvm hw hB hz1 hk1 hS => ?_)
    obtain ⟨th_52, gu_52, gd_52, mv_52, up_52, dn_52⟩ := u
    obtain ⟨hP1, hK1, hD1⟩ := hB
    rw [ht] at hP1
    obtain ⟨hP, hD⟩ := va_join (wr := ((mc, .inl (cmc, 320, .inl gc)) :: (me, .inl (cme, 20, .inl ge)) :: (mau, .inl (cma, 4, .inr (.inl ga))) :: (mad, .inl (cmb, 4, .inr (.inl gb))) :: (mwg, .inl (cmw, 12, .inr (.inl gw))) :: (mgv, .inl (cmg, 12, .inl gg)) :: (msq, .inl (cms, 16, .inr (.inl gs))) :: (ao, .inl (cO, 1, .inr (.inl (vp_updL fo 0 (((f_kr_value cnt fu fl ((x1.toInt64 <<< ((32 : Int32).toInt64 &&& 63)) ||| (x2.toInt64 &&& 4294967295)) ((x3.toInt64 <<< ((32 : Int32).toInt64 &&& 63)) ||| (x4.toInt64 &&& 4294967295))).1).toInt64))))) :: (ak, .inr (0, [.int kinds, .ref ac, .int rowc, .ref a0, .ref a_s, .ref a_w])) :: (ac, .inl (cC, (20 * nk), .inl fc)) :: (a0, .inr (1, [.ref a1, .ref a2, .int ((f_kr_value cnt fu fl ((x1.toInt64 <<< ((32 : Int32).toInt64 &&& 63)) ||| (x2.toInt64 &&& 4294967295)) ((x3.toInt64 <<< ((32 : Int32).toInt64 &&& 63)) ||| (x4.toInt64 &&& 4294967295))).2.2.2)])) :: (a1, .inl (cU, 300, .inl ((f_kr_value cnt fu fl ((x1.toInt64 <<< ((32 : Int32).toInt64 &&& 63)) ||| (x2.toInt64 &&& 4294967295)) ((x3.toInt64 <<< ((32 : Int32).toInt64 &&& 63)) ||| (x4.toInt64 &&& 4294967295))).2.1))) :: (a2, .inl (cL, 300, .inl ((f_kr_value cnt fu fl ((x1.toInt64 <<< ((32 : Int32).toInt64 &&& 63)) ||| (x2.toInt64 &&& 4294967295)) ((x3.toInt64 <<< ((32 : Int32).toInt64 &&& 63)) ||| (x4.toInt64 &&& 4294967295))).2.2.1))) :: (a_w, .inr (3, [.ref a_z, .int wc, .long all])) :: (a_z, .inl (cZ, 12, .inl fz)) :: ks_ws a_s e0 w0 pv su sl er wr cE cW cP cSu cSl cI cJ fp fsu fsl E Wm ans)) (w1 := [(m0, .inr (4, [.int th_52, .int mk, .int mv_52, .ref mu, .ref md, .long up_52, .long dn_52, .int mr, .ref mc, .ref me, .int so, .ref mau, .ref mad, .int mw, .ref mwg, .ref mgv, .ref msq])), (mu, .inl (cmu, 300, .inr (.inl gu_52))), (md, .inl (cmd, 300, .inr (.inl gd_52)))]) hP hD [0, 1, 2] [3, 4, 5, 6, 7, 8, 9, 10, 11, 12, 13, 14, 15, 16, 17, 18, 19, 20, 21, 22, 23, 24, 25, 26, 27, 28, 29, 30, 31] rfl rfl (by decide) (by decide) hk1 hFc hP1 hD1
    generalize H1 = H at hP hS ⊢
    have hP := hP.sub (ws' := ((m0, .inr (4, [.int th_52, .int mk, .int mv_52, .ref mu, .ref md, .long up_52, .long dn_52, .int mr, .ref mc, .ref me, .int so, .ref mau, .ref mad, .int mw, .ref mwg, .ref mgv, .ref msq])) :: (mu, .inl (cmu, 300, .inr (.inl gu_52))) :: (md, .inl (cmd, 300, .inr (.inl gd_52))) :: (mc, .inl (cmc, 320, .inl gc)) :: (me, .inl (cme, 20, .inl ge)) :: (mau, .inl (cma, 4, .inr (.inl ga))) :: (mad, .inl (cmb, 4, .inr (.inl gb))) :: (mwg, .inl (cmw, 12, .inr (.inl gw))) :: (mgv, .inl (cmg, 12, .inl gg)) :: (msq, .inl (cms, 16, .inr (.inl gs))) :: (ao, .inl (cO, 1, .inr (.inl (vp_updL fo 0 (((f_kr_value cnt fu fl ((x1.toInt64 <<< ((32 : Int32).toInt64 &&& 63)) ||| (x2.toInt64 &&& 4294967295)) ((x3.toInt64 <<< ((32 : Int32).toInt64 &&& 63)) ||| (x4.toInt64 &&& 4294967295))).1).toInt64))))) :: (ak, .inr (0, [.int kinds, .ref ac, .int rowc, .ref a0, .ref a_s, .ref a_w])) :: (ac, .inl (cC, (20 * nk), .inl fc)) :: (a0, .inr (1, [.ref a1, .ref a2, .int ((f_kr_value cnt fu fl ((x1.toInt64 <<< ((32 : Int32).toInt64 &&& 63)) ||| (x2.toInt64 &&& 4294967295)) ((x3.toInt64 <<< ((32 : Int32).toInt64 &&& 63)) ||| (x4.toInt64 &&& 4294967295))).2.2.2)])) :: (a1, .inl (cU, 300, .inl ((f_kr_value cnt fu fl ((x1.toInt64 <<< ((32 : Int32).toInt64 &&& 63)) ||| (x2.toInt64 &&& 4294967295)) ((x3.toInt64 <<< ((32 : Int32).toInt64 &&& 63)) ||| (x4.toInt64 &&& 4294967295))).2.1))) :: (a2, .inl (cL, 300, .inl ((f_kr_value cnt fu fl ((x1.toInt64 <<< ((32 : Int32).toInt64 &&& 63)) ||| (x2.toInt64 &&& 4294967295)) ((x3.toInt64 <<< ((32 : Int32).toInt64 &&& 63)) ||| (x4.toInt64 &&& 4294967295))).2.2.1))) :: (a_w, .inr (3, [.ref a_z, .int wc, .long all])) :: (a_z, .inl (cZ, 12, .inl fz)) :: ks_ws a_s e0 w0 pv su sl er wr cE cW cP cSu cSl cI cJ fp fsu fsl E Wm ans)) [29, 30, 31, 0, 1, 2, 3, 4, 5, 6, 7, 8, 9, 10, 11, 12, 13, 14, 15, 16, 17, 18, 19, 20, 21, 22, 23, 24, 25, 26, 27, 28] rfl
    have hD := hD.sub (ws' := ((m0, .inr (4, [.int th_52, .int mk, .int mv_52, .ref mu, .ref md, .long up_52, .long dn_52, .int mr, .ref mc, .ref me, .int so, .ref mau, .ref mad, .int mw, .ref mwg, .ref mgv, .ref msq])) :: (mu, .inl (cmu, 300, .inr (.inl gu_52))) :: (md, .inl (cmd, 300, .inr (.inl gd_52))) :: (mc, .inl (cmc, 320, .inl gc)) :: (me, .inl (cme, 20, .inl ge)) :: (mau, .inl (cma, 4, .inr (.inl ga))) :: (mad, .inl (cmb, 4, .inr (.inl gb))) :: (mwg, .inl (cmw, 12, .inr (.inl gw))) :: (mgv, .inl (cmg, 12, .inl gg)) :: (msq, .inl (cms, 16, .inr (.inl gs))) :: (ao, .inl (cO, 1, .inr (.inl (vp_updL fo 0 (((f_kr_value cnt fu fl ((x1.toInt64 <<< ((32 : Int32).toInt64 &&& 63)) ||| (x2.toInt64 &&& 4294967295)) ((x3.toInt64 <<< ((32 : Int32).toInt64 &&& 63)) ||| (x4.toInt64 &&& 4294967295))).1).toInt64))))) :: (ak, .inr (0, [.int kinds, .ref ac, .int rowc, .ref a0, .ref a_s, .ref a_w])) :: (ac, .inl (cC, (20 * nk), .inl fc)) :: (a0, .inr (1, [.ref a1, .ref a2, .int ((f_kr_value cnt fu fl ((x1.toInt64 <<< ((32 : Int32).toInt64 &&& 63)) ||| (x2.toInt64 &&& 4294967295)) ((x3.toInt64 <<< ((32 : Int32).toInt64 &&& 63)) ||| (x4.toInt64 &&& 4294967295))).2.2.2)])) :: (a1, .inl (cU, 300, .inl ((f_kr_value cnt fu fl ((x1.toInt64 <<< ((32 : Int32).toInt64 &&& 63)) ||| (x2.toInt64 &&& 4294967295)) ((x3.toInt64 <<< ((32 : Int32).toInt64 &&& 63)) ||| (x4.toInt64 &&& 4294967295))).2.1))) :: (a2, .inl (cL, 300, .inl ((f_kr_value cnt fu fl ((x1.toInt64 <<< ((32 : Int32).toInt64 &&& 63)) ||| (x2.toInt64 &&& 4294967295)) ((x3.toInt64 <<< ((32 : Int32).toInt64 &&& 63)) ||| (x4.toInt64 &&& 4294967295))).2.2.1))) :: (a_w, .inr (3, [.ref a_z, .int wc, .long all])) :: (a_z, .inl (cZ, 12, .inl fz)) :: ks_ws a_s e0 w0 pv su sl er wr cE cW cP cSu cSl cI cJ fp fsu fsl E Wm ans)) [29, 30, 31, 0, 1, 2, 3, 4, 5, 6, 7, 8, 9, 10, 11, 12, 13, 14, 15, 16, 17, 18, 19, 20, 21, 22, 23, 24, 25, 26, 27, 28] (by decide) rfl
    have e_r_52 : r_52 = (f_mo_value mv up dn gu gd ((x1.toInt64 <<< ((32 : Int32).toInt64 &&& 63)) ||| (x2.toInt64 &&& 4294967295)) ((x3.toInt64 <<< ((32 : Int32).toInt64 &&& 63)) ||| (x4.toInt64 &&& 4294967295))).1 := congrArg (fun z => z.1) hw
    have e_th_52 : th_52 = (f_mo_value mv up dn gu gd ((x1.toInt64 <<< ((32 : Int32).toInt64 &&& 63)) ||| (x2.toInt64 &&& 4294967295)) ((x3.toInt64 <<< ((32 : Int32).toInt64 &&& 63)) ||| (x4.toInt64 &&& 4294967295))).2.1 := congrArg (fun z => z.2.1) hw
    have e_gu_52 : gu_52 = (f_mo_value mv up dn gu gd ((x1.toInt64 <<< ((32 : Int32).toInt64 &&& 63)) ||| (x2.toInt64 &&& 4294967295)) ((x3.toInt64 <<< ((32 : Int32).toInt64 &&& 63)) ||| (x4.toInt64 &&& 4294967295))).2.2.1 := congrArg (fun z => z.2.2.1) hw
    have e_gd_52 : gd_52 = (f_mo_value mv up dn gu gd ((x1.toInt64 <<< ((32 : Int32).toInt64 &&& 63)) ||| (x2.toInt64 &&& 4294967295)) ((x3.toInt64 <<< ((32 : Int32).toInt64 &&& 63)) ||| (x4.toInt64 &&& 4294967295))).2.2.2.1 := congrArg (fun z => z.2.2.2.1) hw
    have e_mv_52 : mv_52 = (f_mo_value mv up dn gu gd ((x1.toInt64 <<< ((32 : Int32).toInt64 &&& 63)) ||| (x2.toInt64 &&& 4294967295)) ((x3.toInt64 <<< ((32 : Int32).toInt64 &&& 63)) ||| (x4.toInt64 &&& 4294967295))).2.2.2.2.1 := congrArg (fun z => z.2.2.2.2.1) hw
    have e_up_52 : up_52 = (f_mo_value mv up dn gu gd ((x1.toInt64 <<< ((32 : Int32).toInt64 &&& 63)) ||| (x2.toInt64 &&& 4294967295)) ((x3.toInt64 <<< ((32 : Int32).toInt64 &&& 63)) ||| (x4.toInt64 &&& 4294967295))).2.2.2.2.2.1 := congrArg (fun z => z.2.2.2.2.2.1) hw
    have e_dn_52 : dn_52 = (f_mo_value mv up dn gu gd ((x1.toInt64 <<< ((32 : Int32).toInt64 &&& 63)) ||| (x2.toInt64 &&& 4294967295)) ((x3.toInt64 <<< ((32 : Int32).toInt64 &&& 63)) ||| (x4.toInt64 &&& 4294967295))).2.2.2.2.2.2 := congrArg (fun z => z.2.2.2.2.2.2) hw
    subst e_r_52 e_th_52 e_gu_52 e_gd_52 e_mv_52 e_up_52 e_dn_52
    clear hP1 hK1 hD1 hk1 hz1 hFc hDc hPc hKc
    refine lv_istore (lv' := [(6, .int ((f_mo_value mv up dn gu gd ((x1.toInt64 <<< ((32 : Int32).toInt64 &&& 63)) ||| (x2.toInt64 &&& 4294967295)) ((x3.toInt64 <<< ((32 : Int32).toInt64 &&& 63)) ||| (x4.toInt64 &&& 4294967295))).1)), (5, .int 0), (0, .ref b), (1, .ref ak), (2, .ref m0), (3, .ref ao), (4, .int (nI i))]) hx hb d_law_235 hl (by decide) rfl (fun ls hl => ?_)
    refine lv_aload_n hx hb d_law_237 rfl (lv_at hl 4 rfl) ?_
    have hPc := hP.sub (ws' := [(m0, .inr (4, [.int ((f_mo_value mv up dn gu gd ((x1.toInt64 <<< ((32 : Int32).toInt64 &&& 63)) ||| (x2.toInt64 &&& 4294967295)) ((x3.toInt64 <<< ((32 : Int32).toInt64 &&& 63)) ||| (x4.toInt64 &&& 4294967295))).2.1), .int mk, .int ((f_mo_value mv up dn gu gd ((x1.toInt64 <<< ((32 : Int32).toInt64 &&& 63)) ||| (x2.toInt64 &&& 4294967295)) ((x3.toInt64 <<< ((32 : Int32).toInt64 &&& 63)) ||| (x4.toInt64 &&& 4294967295))).2.2.2.2.1), .ref mu, .ref md, .long ((f_mo_value mv up dn gu gd ((x1.toInt64 <<< ((32 : Int32).toInt64 &&& 63)) ||| (x2.toInt64 &&& 4294967295)) ((x3.toInt64 <<< ((32 : Int32).toInt64 &&& 63)) ||| (x4.toInt64 &&& 4294967295))).2.2.2.2.2.1), .long ((f_mo_value mv up dn gu gd ((x1.toInt64 <<< ((32 : Int32).toInt64 &&& 63)) ||| (x2.toInt64 &&& 4294967295)) ((x3.toInt64 <<< ((32 : Int32).toInt64 &&& 63)) ||| (x4.toInt64 &&& 4294967295))).2.2.2.2.2.2), .int mr, .ref mc, .ref me, .int so, .ref mau, .ref mad, .int mw, .ref mwg, .ref mgv, .ref msq]))]) [0] rfl
    have hKc := hK.sub (tys' := []) [] rfl
    refine vp_callSi (W.runV (As := []) (rest := []) ⟨hx, hb, hml, hown, hT⟩ (c_mo_thrown l dC dI m0 ((f_mo_value mv up dn gu gd ((x1.toInt64 <<< ((32 : Int32).toInt64 &&& 63)) ||| (x2.toInt64 &&& 4294967295)) ((x3.toInt64 <<< ((32 : Int32).toInt64 &&& 63)) ||| (x4.toInt64 &&& 4294967295))).2.1) mk ((f_mo_value mv up dn gu gd ((x1.toInt64 <<< ((32 : Int32).toInt64 &&& 63)) ||| (x2.toInt64 &&& 4294967295)) ((x3.toInt64 <<< ((32 : Int32).toInt64 &&& 63)) ||| (x4.toInt64 &&& 4294967295))).2.2.2.2.1) mu md ((f_mo_value mv up dn gu gd ((x1.toInt64 <<< ((32 : Int32).toInt64 &&& 63)) ||| (x2.toInt64 &&& 4294967295)) ((x3.toInt64 <<< ((32 : Int32).toInt64 &&& 63)) ||| (x4.toInt64 &&& 4294967295))).2.2.2.2.2.1) ((f_mo_value mv up dn gu gd ((x1.toInt64 <<< ((32 : Int32).toInt64 &&& 63)) ||| (x2.toInt64 &&& 4294967295)) ((x3.toInt64 <<< ((32 : Int32).toInt64 &&& 63)) ||| (x4.toInt64 &&& 4294967295))).2.2.2.2.2.2) mr mc me so mau mad mw mwg mgv msq) (cwV 0 hT (kt_V k_379 k_377 k_378 k_136 k_376) rfl rfl rfl (by decide +kernel) ⟨Nat.le_of_ble_eq_true rfl, Nat.le_of_ble_eq_true rfl⟩) ⟨bl_R, va_recv hKc hPc (ci := 4) (q0 := 0) rfl rfl, fun U hU hW => ⟨rfl, by rw [hU]; exact hPc, va_K.moved hW.alike hKc⟩⟩ rfl rfl hl.1 rfl (lv_room (Nat.le_of_ble_eq_true rfl)) d_law_238 ⟨hkc, hks⟩) (fun r_53 e_r_53 => ?_)
    subst e_r_53
    refine lv_iload hx hb d_law_241 (lv_at hl 1 rfl) ?_
    refine lv_icmp_eq (tgt := 248) hx hb d_law_243 (by decide) (fun c_54 => ?_) (fun c_54 => ?_)
    · refine lv_iload hx hb d_law_248 (lv_at hl 1 rfl) ?_
      refine lv_if_ne (tgt := 265) hx hb d_law_250 (by decide) (fun c_55 => ?_) (fun c_55 => ?_)
      · exact absurd c_55 (by decide)
      · refine lv_aload_n hx hb d_law_253 rfl (lv_at hl 5 rfl) ?_
        refine lv_iconst (v := 0) hx hb d_law_254 (by decide) ?_
        refine va_laldN (i := 0) hx hb hK hP 10 9 rfl rfl ⟨by decide, by decide⟩ d_law_255 ?_
        refine lv_iload hx hb d_law_256 (lv_at hl 0 rfl) ?_
        refine lv_i2l (v := ((f_mo_value mv up dn gu gd ((x1.toInt64 <<< ((32 : Int32).toInt64 &&& 63)) ||| (x2.toInt64 &&& 4294967295)) ((x3.toInt64 <<< ((32 : Int32).toInt64 &&& 63)) ||| (x4.toInt64 &&& 4294967295))).1).toInt64) hx hb d_law_258 rfl ?_
        refine lx_ifeq (tgt := 265) hx hb d_law_259 d_law_260 (by decide) (fun c_56 => ?_) (fun c_56 => ?_)
        · refine lv_goto (tgt := 1083) hx hb d_law_265 (by decide) ?_
          exact kk _ _ _ _ ls ⟨_, _, _, _, _, _, _, _, _, _, _, _, _, _, _, _, _, _, _, _, _, _, _, _, _, _, _, _, _, _, _, hP, hD, hS, hR.2.2.1, (hRC.more hR.2.2.2), hRE, hRA, hRW⟩ (by omega) (by omega) (lv_sub hl [2, 3, 4, 5, 6] rfl)
        · exact (c_56 (upL0.trans (congrArg Int32.toInt64 hR.1))).elim
    · exact (c_54 (show f_mo_thrown _ = 0 from hR.2.1)).elim
