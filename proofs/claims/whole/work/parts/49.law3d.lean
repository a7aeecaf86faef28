set_option maxHeartbeats 1000000 in
set_option maxRecDepth 100000 in
theorem law_10 {p : Program} {l : Launch} {e : Env} {m : MethodId} {below : List Frame} {meth : Method} {c : Code} {Q : State → Prop} {b L i kc ks : Nat} {xs : Nat → Int32} {x1 x2 x3 x4 : Int32} {H : Heap} {locs : List Loc} {dC : Nat → ClassId} {dI : Nat → Nat → Nat} {A : Nat → Prop} {s : State} {ak : Nat} {ac : Nat} {a0 : Nat} {a1 : Nat} {a2 : Nat} {a_w : Nat} {a_z : Nat} {a_s : Nat} {e0 : Nat} {w0 : Nat} {pv : Nat} {su : Nat} {sl : Nat} {er : Nat → Nat} {wr : Nat → Nat} {cC : ClassId} {cU : ClassId} {cL : ClassId} {cZ : ClassId} {cE : ClassId} {cW : ClassId} {cP : ClassId} {cSu : ClassId} {cSl : ClassId} {cI : ClassId} {cJ : ClassId} {m0 : Nat} {mu : Nat} {md : Nat} {mc : Nat} {me : Nat} {mau : Nat} {mad : Nat} {mwg : Nat} {mgv : Nat} {msq : Nat} {ao : Nat} {cmu : ClassId} {cmd : ClassId} {cmc : ClassId} {cme : ClassId} {cma : ClassId} {cmb : ClassId} {cmw : ClassId} {cmg : ClassId} {cms : ClassId} {cO : ClassId} {kinds : Int32} {nk : Nat} {mk : Int32} (C : LCtx p l m c b L xs dC dI A s ak ac a0 a1 a2 a_w a_z a_s e0 w0 pv su sl er wr cC cU cL cZ cE cW cP cSu cSl cI cJ m0 mu md mc me mau mad mwg mgv msq ao cmu cmd cmc cme cma cmb cmw cmg cms cO kinds nk mk) (i1 : vp_in (nI i + 1) L) (v1 : xs (nI i + 1).toNatClampNeg = x1) (i2 : vp_in (nI i + 2) L) (v2 : xs (nI i + 2).toNatClampNeg = x2) (i3 : vp_in (nI i + 3) L) (v3 : xs (nI i + 3).toNatClampNeg = x3) (i4 : vp_in (nI i + 4) L) (v4 : xs (nI i + 4).toNatClampNeg = x4) (hkc1 : kc + 1 ≤ room_1.cells) (hks1 : ks + 6 ≤ room_1.slots) (hI : LInv dC dI A s ak ac a0 a1 a2 a_w a_z a_s e0 w0 pv su sl er wr cC cU cL cZ cE cW cP cSu cSl cI cJ m0 mu md mc me mau mad mwg mgv msq ao cmu cmd cmc cme cma cmb cmw cmg cms cO kinds nk mk H locs) (kk : ∀ (H : Heap) (locs : List Loc) (kc2 ks2 : Nat) (ls : Array Slot), LInv dC dI A s ak ac a0 a1 a2 a_w a_z a_s e0 w0 pv su sl er wr cC cU cL cZ cE cW cP cSu cSl cI cJ m0 mu md mc me mau mad mwg mgv msq ao cmu cmd cmc cme cma cmb cmw cmg cms cO kinds nk mk H locs → kc2 ≤ kc + 1 → ks2 ≤ ks + 6 → lv_has ls 7 [(0, .ref b), (1, .ref ak), (2, .ref m0), (3, .ref ao), (4, .int (nI i))] → W p l e room_1 s m #[Value.ref b] below meth c H locs kc2 ks2 Q (F0 m 1083 ls [])) {ls : Array Slot} (hl : lv_has ls 7 [(0, .ref b), (1, .ref ak), (2, .ref m0), (3, .ref ao), (4, .int (nI i))]) : W p l e room_1 s m #[Value.ref b] below meth c H locs kc ks Q (F0 m 696 ls []) := by
  obtain ⟨hx, hb, hml, hown, hT, hN, hN2, hl9, hX, hbl, hbA, hA, hZ, ⟨sa1, hs1⟩, ⟨sa2, hs2⟩, ⟨sa3, hs3⟩, ⟨sa4, hs4⟩, hK, hn, hmk⟩ := C
  obtain ⟨rowc, fc, cnt, fu, fl, wc, all, fz, ans, fp, fsu, fsl, E, Wm, th, mv, up, dn, mr, so, mw, gu, gd, gc, ge, ga, gb, gw, gg, gs, fo, hP, hD, hS, hRV, hRC, hRE, hRA, hRW⟩ := hI
  have hkc : kc ≤ room_1.cells := by omega
  have hks : ks ≤ room_1.slots := by omega
  by_cases ht : ¬ f_kr_hasRow rowc x1 = 0 ∧ f_kr_hasKind kinds x2 = 0
  · have hR := put_thr (mv := mv) hmk hRC (v := x3) ht
    refine lv_aload_n hx hb d_law_696 rfl (lv_at hl 1 rfl) ?_
    refine lv_aload_n hx hb d_law_697 rfl (lv_at hl 0 rfl) ?_
    refine lv_iload hx hb d_law_698 (lv_at hl 4 rfl) ?_
    refine lv_iconst (v := 1) hx hb d_law_700 (by decide) ?_
    refine lv_iadd hx hb d_law_701 ?_
    refine kz_sld hx hb hX hbl hbA hS i1 v1 d_law_702 ?_
    refine lv_aload_n hx hb d_law_703 rfl (lv_at hl 0 rfl) ?_
    refine lv_iload hx hb d_law_704 (lv_at hl 4 rfl) ?_
    refine lv_iconst (v := 2) hx hb d_law_706 (by decide) ?_
    refine lv_iadd hx hb d_law_707 ?_
    refine kz_sld hx hb hX hbl hbA hS i2 v2 d_law_708 ?_
    refine lv_aload_n hx hb d_law_709 rfl (lv_at hl 0 rfl) ?_
    refine lv_iload hx hb d_law_710 (lv_at hl 4 rfl) ?_
    refine lv_iconst (v := 3) hx hb d_law_712 (by decide) ?_
    refine lv_iadd hx hb d_law_713 ?_
    refine kz_sld hx hb hX hbl hbA hS i3 v3 d_law_714 ?_
    refine lv_aload_n hx hb d_law_715 rfl (lv_at hl 3 rfl) ?_
    have hPc := hP.sub (ws' := [(ak, .inr (0, [.int kinds, .ref ac, .int rowc, .ref a0, .ref a_s, .ref a_w]))]) [11] rfl
    have hKc := hK.sub (tys' := []) [] rfl
    have hDc := hD.sub (ws' := [(ak, .inr (0, [.int kinds, .ref ac, .int rowc, .ref a0, .ref a_s, .ref a_w]))]) [11] (by decide) rfl
    have hFc := va_free (wc := [(ak, .inr (0, [.int kinds, .ref ac, .int rowc, .ref a0, .ref a_s, .ref a_w]))]) hD hS hA [11] rfl
    refine va_calli (kz_runSW (n := 5) (As := [.ref ak, .int x1, .int x2, .int x3, .ref ao]) (rest := []) (hh := [(0, 19, 22, 19)]) ⟨hx, hb, hml, hown, hT⟩ (c_lw_putT l hl9 dC dI A sa4 H.size ak kinds ac rowc a0 a_s a_w x1 x2 x3 ao ht) rfl k_396 k_395 k_370 k_394 rfl rfl (by decide +kernel) ⟨Nat.le_of_ble_eq_true rfl, Nat.le_of_ble_eq_true rfl⟩ ⟨bl_MT, fun U hU hW => ⟨rfl, by rw [hU], by rw [hU]; exact hPc, va_K.moved hW.alike hKc, hDc.weaken (fun _ _ _ _ => trivial), kt_N2.warm hW hN2, by rw [hU]; exact kt_Z.moved hW.alike (kt_Z.kept hZ (fun a h1 h2 => hS.2.1 a h1 h2)), vk_R.warm hW hs4⟩⟩ rfl rfl hl.1 rfl (lv_room (Nat.le_of_ble_eq_true rfl)) d_law_716 ⟨hkc1, hks1⟩) hS (fun q _ h => hFc q h) hFc (fun r_1 u t H1 locs ht9 hvm hw hB hz1 hk1 hS => ?_)
    obtain ⟨hP1, hK1, hD1⟩ := hB
    rw [ht9] at hP1
    obtain ⟨hP, hD⟩ := va_join (wr := ((m0, .inr (4, [.int th, .int mk, .int mv, .ref mu, .ref md, .long up, .long dn, .int mr, .ref mc, .ref me, .int so, .ref mau, .ref mad, .int mw, .ref mwg, .ref mgv, .ref msq])) :: (mu, .inl (cmu, 300, .inr (.inl gu))) :: (md, .inl (cmd, 300, .inr (.inl gd))) :: (mc, .inl (cmc, 320, .inl gc)) :: (me, .inl (cme, 20, .inl ge)) :: (mau, .inl (cma, 4, .inr (.inl ga))) :: (mad, .inl (cmb, 4, .inr (.inl gb))) :: (mwg, .inl (cmw, 12, .inr (.inl gw))) :: (mgv, .inl (cmg, 12, .inl gg)) :: (msq, .inl (cms, 16, .inr (.inl gs))) :: (ao, .inl (cO, 1, .inr (.inl fo))) :: (ac, .inl (cC, (20 * nk), .inl fc)) :: (a0, .inr (1, [.ref a1, .ref a2, .int cnt])) :: (a1, .inl (cU, 300, .inl fu)) :: (a2, .inl (cL, 300, .inl fl)) :: (a_w, .inr (3, [.ref a_z, .int wc, .long all])) :: (a_z, .inl (cZ, 12, .inl fz)) :: ks_ws a_s e0 w0 pv su sl er wr cE cW cP cSu cSl cI cJ fp fsu fsl E Wm ans)) (w1 := [(ak, .inr (0, [.int kinds, .ref ac, .int rowc, .ref a0, .ref a_s, .ref a_w]))]) hP hD [11] [0, 1, 2, 3, 4, 5, 6, 7, 8, 9, 10, 12, 13, 14, 15, 16, 17, 18, 19, 20, 21, 22, 23, 24, 25, 26, 27, 28, 29, 30, 31] rfl rfl (by decide) (by decide) hk1 hFc hP1 hD1
    generalize H1 = H at hP hS ⊢
    have hP := hP.sub (ws' := ((m0, .inr (4, [.int th, .int mk, .int mv, .ref mu, .ref md, .long up, .long dn, .int mr, .ref mc, .ref me, .int so, .ref mau, .ref mad, .int mw, .ref mwg, .ref mgv, .ref msq])) :: (mu, .inl (cmu, 300, .inr (.inl gu))) :: (md, .inl (cmd, 300, .inr (.inl gd))) :: (mc, .inl (cmc, 320, .inl gc)) :: (me, .inl (cme, 20, .inl ge)) :: (mau, .inl (cma, 4, .inr (.inl ga))) :: (mad, .inl (cmb, 4, .inr (.inl gb))) :: (mwg, .inl (cmw, 12, .inr (.inl gw))) :: (mgv, .inl (cmg, 12, .inl gg)) :: (msq, .inl (cms, 16, .inr (.inl gs))) :: (ao, .inl (cO, 1, .inr (.inl fo))) :: (ak, .inr (0, [.int kinds, .ref ac, .int rowc, .ref a0, .ref a_s, .ref a_w])) :: (ac, .inl (cC, (20 * nk), .inl fc)) :: (a0, .inr (1, [.ref a1, .ref a2, .int cnt])) :: (a1, .inl (cU, 300, .inl fu)) :: (a2, .inl (cL, 300, .inl fl)) :: (a_w, .inr (3, [.ref a_z, .int wc, .long all])) :: (a_z, .inl (cZ, 12, .inl fz)) :: ks_ws a_s e0 w0 pv su sl er wr cE cW cP cSu cSl cI cJ fp fsu fsl E Wm ans)) [0, 1, 2, 3, 4, 5, 6, 7, 8, 9, 10, 31, 11, 12, 13, 14, 15, 16, 17, 18, 19, 20, 21, 22, 23, 24, 25, 26, 27, 28, 29, 30] rfl
    have hD := hD.sub (ws' := ((m0, .inr (4, [.int th, .int mk, .int mv, .ref mu, .ref md, .long up, .long dn, .int mr, .ref mc, .ref me, .int so, .ref mau, .ref mad, .int mw, .ref mwg, .ref mgv, .ref msq])) :: (mu, .inl (cmu, 300, .inr (.inl gu))) :: (md, .inl (cmd, 300, .inr (.inl gd))) :: (mc, .inl (cmc, 320, .inl gc)) :: (me, .inl (cme, 20, .inl ge)) :: (mau, .inl (cma, 4, .inr (.inl ga))) :: (mad, .inl (cmb, 4, .inr (.inl gb))) :: (mwg, .inl (cmw, 12, .inr (.inl gw))) :: (mgv, .inl (cmg, 12, .inl gg)) :: (msq, .inl (cms, 16, .inr (.inl gs))) :: (ao, .inl (cO, 1, .inr (.inl fo))) :: (ak, .inr (0, [.int kinds, .ref ac, .int rowc, .ref a0, .ref a_s, .ref a_w])) :: (ac, .inl (cC, (20 * nk), .inl fc)) :: (a0, .inr (1, [.ref a1, .ref a2, .int cnt])) :: (a1, .inl (cU, 300, .inl fu)) :: (a2, .inl (cL, 300, .inl fl)) :: (a_w, .inr (3, [.ref a_z, .int wc, .long all])) :: (a_z, .inl (cZ, 12, .inl fz)) :: ks_ws a_s e0 w0 pv su sl er wr cE cW cP cSu cSl cI cJ fp fsu fsl E Wm ans)) [0, 1, 2, 3, 4, 5, 6, 7, 8, 9, 10, 31, 11, 12, 13, 14, 15, 16, 17, 18, 19, 20, 21, 22, 23, 24, 25, 26, 27, 28, 29, 30] (by decide) rfl
    subst hw
    have hkc := hkc1
    have hks := hks1
    clear hP1 hK1 hD1 hk1 hz1 hFc hDc hPc hKc
    refine lv_istore (lv' := [(5, .int 1), (0, .ref b), (1, .ref ak), (2, .ref m0), (3, .ref ao), (4, .int (nI i))]) hx hb d_law_719 hl (by decide) rfl (fun ls hl => ?_)
    refine lv_aload_n hx hb d_law_721 rfl (lv_at hl 3 rfl) ?_
    refine lv_aload_n hx hb d_law_722 rfl (lv_at hl 1 rfl) ?_
    refine lv_iload hx hb d_law_723 (lv_at hl 5 rfl) ?_
    refine lv_iconst (v := 1) hx hb d_law_725 (by decide) ?_
    refine lv_iadd hx hb d_law_726 ?_
    refine kz_sld hx hb hX hbl hbA hS i1 v1 d_law_727 ?_
    refine lv_aload_n hx hb d_law_728 rfl (lv_at hl 1 rfl) ?_
    refine lv_iload hx hb d_law_729 (lv_at hl 5 rfl) ?_
    refine lv_iconst (v := 2) hx hb d_law_731 (by decide) ?_
    refine lv_iadd hx hb d_law_732 ?_
    refine kz_sld hx hb hX hbl hbA hS i2 v2 d_law_733 ?_
    refine lv_aload_n hx hb d_law_734 rfl (lv_at hl 1 rfl) ?_
    refine lv_iload hx hb d_law_735 (lv_at hl 5 rfl) ?_
    refine lv_iconst (v := 3) hx hb d_law_737 (by decide) ?_
    refine lv_iadd hx hb d_law_738 ?_
    refine kz_sld hx hb hX hbl hbA hS i3 v3 d_law_739 ?_
    have hPc := hP.sub (ws' := [(m0, .inr (4, [.int th, .int mk, .int mv, .ref mu, .ref md, .long up, .long dn, .int mr, .ref mc, .ref me, .int so, .ref mau, .ref mad, .int mw, .ref mwg, .ref mgv, .ref msq])), (mc, .inl (cmc, 320, .inl gc))]) [0, 3] rfl
    have hKc := hK.sub (tys' := [(cmc, .int)]) [2] rfl
    have hDc := hD.sub (ws' := [(m0, .inr (4, [.int th, .int mk, .int mv, .ref mu, .ref md, .long up, .long dn, .int mr, .ref mc, .ref me, .int so, .ref mau, .ref mad, .int mw, .ref mwg, .ref mgv, .ref msq])), (mc, .inl (cmc, 320, .inl gc))]) [0, 3] (by decide) rfl
    have hFc := va_free (wc := [(m0, .inr (4, [.int th, .int mk, .int mv, .ref mu, .ref md, .long up, .long dn, .int mr, .ref mc, .ref me, .int so, .ref mau, .ref mad, .int mw, .ref mwg, .ref mgv, .ref msq])), (mc, .inl (cmc, 320, .inl gc))]) hD hS hA [0, 3] rfl
    refine va_calli (va_runV (As := [.int x1, .int x2, .int x3]) (rest := []) ⟨hx, hb, hml, hown, hT⟩ (c_mo_put l dC dI H.size m0 mc th mk mv mu md up dn mr me so mau mad mw mwg mgv msq cmc gc x1 x2 x3 nk (show mk = nI nk ∧ nk ≤ 16 by rw [hmk]; exact hn) (show vp_in mr 21 by rw [hRC.1]; exact hRC.2.1)) (cwV 3 hT (kt_V k_400 k_398 k_399 k_136 k_397) rfl rfl rfl (by decide +kernel) ⟨Nat.le_of_ble_eq_true rfl, Nat.le_of_ble_eq_true rfl⟩) ⟨bl_M, va_recv hKc hPc (ci := 4) (q0 := 0) rfl rfl, fun U hU hW => ⟨rfl, by rw [hU], by rw [hU]; exact hPc, va_K.moved hW.alike hKc, hDc.weaken (fun _ _ _ _ => trivial)⟩⟩ rfl rfl hl.1 rfl (lv_room (Nat.le_of_ble_eq_true rfl)) d_law_740 ⟨hkc, hks⟩) hS (fun q _ h => hFc q h) hFc (fun r_2 u t H1 locs ht hvm hw hB hz1 hk1 hS => ?_)
    obtain ⟨th_2, gc_2⟩ := u
    obtain ⟨hP1, hK1, hD1⟩ := hB
    rw [ht] at hP1
    obtain ⟨hP, hD⟩ := va_join (wr := ((mu, .inl (cmu, 300, .inr (.inl gu))) :: (md, .inl (cmd, 300, .inr (.inl gd))) :: (me, .inl (cme, 20, .inl ge)) :: (mau, .inl (cma, 4, .inr (.inl ga))) :: (mad, .inl (cmb, 4, .inr (.inl gb))) :: (mwg, .inl (cmw, 12, .inr (.inl gw))) :: (mgv, .inl (cmg, 12, .inl gg)) :: (msq, .inl (cms, 16, .inr (.inl gs))) :: (ao, .inl (cO, 1, .inr (.inl fo))) :: (ak, .inr (0, [.int kinds, .ref ac, .int rowc, .ref a0, .ref a_s, .ref a_w])) :: (ac, .inl (cC, (20 * nk), .inl fc)) :: (a0, .inr (1, [.ref a1, .ref a2, .int cnt])) :: (a1, .inl (cU, 300, .inl fu)) :: (a2, .inl (cL, 300, .inl fl)) :: (a_w, .inr (3, [.ref a_z, .int wc, .long all])) :: (a_z, .inl (cZ, 12, .inl fz)) :: ks_ws a_s e0 w0 pv su sl er wr cE cW cP cSu cSl cI cJ fp fsu fsl E Wm ans)) (w1 := [(m0, .inr (4, [.int th_2, .int mk, .int mv, .ref mu, .ref md, .long up, .long dn, .int mr, .ref mc, .ref me, .int so, .ref mau, .ref mad, .int mw, .ref mwg, .ref mgv, .ref msq])), (mc, .inl (cmc, 320, .inl gc_2))]) hP hD [0, 3] [1, 2, 4, 5, 6, 7, 8, 9, 10, 11, 12, 13, 14, 15, 16, 17, 18, 19, 20, 21, 22, 23, 24, 25, 26, 27, 28, 29, 30, 31] rfl rfl (by decide) (by decide) hk1 hFc hP1 hD1
    generalize H1 = H at hP hS ⊢
    have hP := hP.sub (ws' := ((m0, .inr (4, [.int th_2, .int mk, .int mv, .ref mu, .ref md, .long up, .long dn, .int mr, .ref mc, .ref me, .int so, .ref mau, .ref mad, .int mw, .ref mwg, .ref mgv, .ref msq])) :: (mu, .inl (cmu, 300, .inr (.inl gu))) :: (md, .inl (cmd, 300, .inr (.inl gd))) :: (mc, .inl (cmc, 320, .inl gc_2)) :: (me, .inl (cme, 20, .inl ge)) :: (mau, .inl (cma, 4, .inr (.inl ga))) :: (mad, .inl (cmb, 4, .inr (.inl gb))) :: (mwg, .inl (cmw, 12, .inr (.inl gw))) :: (mgv, .inl (cmg, 12, .inl gg)) :: (msq, .inl (cms, 16, .inr (.inl gs))) :: (ao, .inl (cO, 1, .inr (.inl fo))) :: (ak, .inr (0, [.int kinds, .ref ac, .int rowc, .ref a0, .ref a_s, .ref a_w])) :: (ac, .inl (cC, (20 * nk), .inl fc)) :: (a0, .inr (1, [.ref a1, .ref a2, .int cnt])) :: (a1, .inl (cU, 300, .inl fu)) :: (a2, .inl (cL, 300, .inl fl)) :: (a_w, .inr (3, [.ref a_z, .int wc, .long all])) :: (a_z, .inl (cZ, 12, .inl fz)) :: ks_ws a_s e0 w0 pv su sl er wr cE cW cP cSu cSl cI cJ fp fsu fsl E Wm ans)) [30, 0, 1, 31, 2, 3, 4, 5, 6, 7, 8, 9, 10, 11, 12, 13, 14, 15, 16, 17, 18, 19, 20, 21, 22, 23, 24, 25, 26, 27, 28, 29] rfl
    have hD := hD.sub (ws' := ((m0, .inr (4, [.int th_2, .int mk, .int mv, .ref mu, .ref md, .long up, .long dn, .int mr, .ref mc, .ref me, .int so, .ref mau, .ref mad, .int mw, .ref mwg, .ref mgv, .ref msq])) :: (mu, .inl (cmu, 300, .inr (.inl gu))) :: (md, .inl (cmd, 300, .inr (.inl gd))) :: (mc, .inl (cmc, 320, .inl gc_2)) :: (me, .inl (cme, 20, .inl ge)) :: (mau, .inl (cma, 4, .inr (.inl ga))) :: (mad, .inl (cmb, 4, .inr (.inl gb))) :: (mwg, .inl (cmw, 12, .inr (.inl gw))) :: (mgv, .inl (cmg, 12, .inl gg)) :: (msq, .inl (cms, 16, .inr (.inl gs))) :: (ao, .inl (cO, 1, .inr (.inl fo))) :: (ak, .inr (0, [.int kinds, .ref ac, .int rowc, .ref a0, .ref a_s, .ref a_w])) :: (ac, .inl (cC, (20 * nk), .inl fc)) :: (a0, .inr (1, [.ref a1, .ref a2, .int cnt])) :: (a1, .inl (cU, 300, .inl fu)) :: (a2, .inl (cL, 300, .inl fl)) :: (a_w, .inr (3, [.ref a_z, .int wc, .long all])) :: (a_z, .inl (cZ, 12, .inl fz)) :: ks_ws a_s e0 w0 pv su sl er wr cE cW cP cSu cSl cI cJ fp fsu fsl E Wm ans)) [30, 0, 1, 31, 2, 3, 4, 5, 6, 7, 8, 9, 10, 11, 12, 13, 14, 15, 16, 17, 18, 19, 20, 21, 22, 23, 24, 25, 26, 27, 28, 29] (by decide) rfl
    have e_r_2 : r_2 = (f_mo_put mk mv mr gc x1 x2 x3).1 := congrArg (fun z => z.1) hw
    have e_th_2 : th_2 = (f_mo_put mk mv mr gc x1 x2 x3).2.1 := congrArg (fun z => z.2.1) hw
    have e_gc_2 : gc_2 = (f_mo_put mk mv mr gc x1 x2 x3).2.2 := congrArg (fun z => z.2.2) hw
    subst e_r_2 e_th_2 e_gc_2
    clear hP1 hK1 hD1 hk1 hz1 hFc hDc hPc hKc
    refine lv_istore (lv' := [(6, .int ((f_mo_put mk mv mr gc x1 x2 x3).1)), (5, .int 1), (0, .ref b), (1, .ref ak), (2, .ref m0), (3, .ref ao), (4, .int (nI i))]) hx hb d_law_743 hl (by decide) rfl (fun ls hl => ?_)
    refine lv_aload_n hx hb d_law_745 rfl (lv_at hl 4 rfl) ?_
    have hPc := hP.sub (ws' := [(m0, .inr (4, [.int ((f_mo_put mk mv mr gc x1 x2 x3).2.1), .int mk, .int mv, .ref mu, .ref md, .long up, .long dn, .int mr, .ref mc, .ref me, .int so, .ref mau, .ref mad, .int mw, .ref mwg, .ref mgv, .ref msq]))]) [0] rfl
    have hKc := hK.sub (tys' := []) [] rfl
    refine vp_callSi (W.runV (As := []) (rest := []) ⟨hx, hb, hml, hown, hT⟩ (c_mo_thrown l dC dI m0 ((f_mo_put mk mv mr gc x1 x2 x3).2.1) mk mv mu md up dn mr mc me so mau mad mw mwg mgv msq) (cwV 0 hT (kt_V k_379 k_377 k_378 k_136 k_376) rfl rfl rfl (by decide +kernel) ⟨Nat.le_of_ble_eq_true rfl, Nat.le_of_ble_eq_true rfl⟩) ⟨bl_R, va_recv hKc hPc (ci := 4) (q0 := 0) rfl rfl, fun U hU hW => ⟨rfl, by rw [hU]; exact hPc, va_K.moved hW.alike hKc⟩⟩ rfl rfl hl.1 rfl (lv_room (Nat.le_of_ble_eq_true rfl)) d_law_746 ⟨hkc, hks⟩) (fun r_3 e_r_3 => ?_)
    subst e_r_3
    refine lv_iload hx hb d_law_749 (lv_at hl 1 rfl) ?_
    refine lv_icmp_eq (tgt := 756) hx hb d_law_751 (by decide) (fun c_4 => ?_) (fun c_4 => ?_)
    · refine lv_iload hx hb d_law_756 (lv_at hl 1 rfl) ?_
      refine lv_if_ne (tgt := 780) hx hb d_law_758 (by decide) (fun c_5 => ?_) (fun c_5 => ?_)
      · refine lv_goto (tgt := 1083) hx hb d_law_780 (by decide) ?_
        exact kk _ _ _ _ ls ⟨_, _, _, _, _, _, _, _, _, _, _, _, _, _, _, _, _, _, _, _, _, _, _, _, _, _, _, _, _, _, _, hP, hD, hS, hRV, (by rw [hR]; exact hRC), hRE, hRA, hRW⟩ (by omega) (by omega) (lv_sub hl [2, 3, 4, 5, 6] rfl)
      · exact absurd c_5 (by decide)
    · exact (c_4 (show f_mo_thrown _ = 1 by rw [hR]; rfl)).elim
  · have hnt : f_kr_hasRow rowc x1 = 0 ∨ ¬ f_kr_hasKind kinds x2 = 0 := (Decidable.em (f_kr_hasRow rowc x1 = 0)).elim Or.inl (fun z => Or.inr (fun w => ht ⟨z, w⟩))
    have hR := put_core hn hmk hRV hRC (v := x3) hnt
    refine lv_aload_n hx hb d_law_696 rfl (lv_at hl 1 rfl) ?_
    refine lv_aload_n hx hb d_law_697 rfl (lv_at hl 0 rfl) ?_
    refine lv_iload hx hb d_law_698 (lv_at hl 4 rfl) ?_
    refine lv_iconst (v := 1) hx hb d_law_700 (by decide) ?_
    refine lv_iadd hx hb d_law_701 ?_
    refine kz_sld hx hb hX hbl hbA hS i1 v1 d_law_702 ?_
    refine lv_aload_n hx hb d_law_703 rfl (lv_at hl 0 rfl) ?_
    refine lv_iload hx hb d_law_704 (lv_at hl 4 rfl) ?_
    refine lv_iconst (v := 2) hx hb d_law_706 (by decide) ?_
    refine lv_iadd hx hb d_law_707 ?_
    refine kz_sld hx hb hX hbl hbA hS i2 v2 d_law_708 ?_
    refine lv_aload_n hx hb d_law_709 rfl (lv_at hl 0 rfl) ?_
    refine lv_iload hx hb d_law_710 (lv_at hl 4 rfl) ?_
    refine lv_iconst (v := 3) hx hb d_law_712 (by decide) ?_
    refine lv_iadd hx hb d_law_713 ?_
    refine kz_sld hx hb hX hbl hbA hS i3 v3 d_law_714 ?_
    refine lv_aload_n hx hb d_law_715 rfl (lv_at hl 3 rfl) ?_
    have hPc := hP.sub (ws' := [(ak, .inr (0, [.int kinds, .ref ac, .int rowc, .ref a0, .ref a_s, .ref a_w])), (ac, .inl (cC, (20 * nk), .inl fc)), (a0, .inr (1, [.ref a1, .ref a2, .int cnt])), (a1, .inl (cU, 300, .inl fu)), (a2, .inl (cL, 300, .inl fl)), (ao, .inl (cO, 1, .inr (.inl fo)))]) [11, 12, 13, 14, 15, 10] rfl
    have hKc := hK.sub (tys' := [(cC, .int), (cU, .int), (cL, .int), (cO, .long)]) [10, 11, 12, 9] rfl
    have hDc := hD.sub (ws' := [(ak, .inr (0, [.int kinds, .ref ac, .int rowc, .ref a0, .ref a_s, .ref a_w])), (ac, .inl (cC, (20 * nk), .inl fc)), (a0, .inr (1, [.ref a1, .ref a2, .int cnt])), (a1, .inl (cU, 300, .inl fu)), (a2, .inl (cL, 300, .inl fl)), (ao, .inl (cO, 1, .inr (.inl fo)))]) [11, 12, 13, 14, 15, 10] (by decide) rfl
    have hFc := va_free (wc := [(ak, .inr (0, [.int kinds, .ref ac, .int rowc, .ref a0, .ref a_s, .ref a_w])), (ac, .inl (cC, (20 * nk), .inl fc)), (a0, .inr (1, [.ref a1, .ref a2, .int cnt])), (a1, .inl (cU, 300, .inl fu)), (a2, .inl (cL, 300, .inl fl)), (ao, .inl (cO, 1, .inr (.inl fo)))]) hD hS hA [11, 12, 13, 14, 15, 10] rfl
    refine va_calli (kz_runSW (n := 5) (As := [.ref ak, .int x1, .int x2, .int x3, .ref ao]) (rest := []) (hh := [(0, 19, 22, 19)]) ⟨hx, hb, hml, hown, hT⟩ (c_lw_put l dC dI H.size ak ac a0 a1 a2 ao kinds rowc a_s a_w cC nk fc cnt cU fu cL fl cO fo x1 x2 x3 hn hRC.2.1 hnt) rfl k_396 k_395 k_370 k_394 rfl rfl (by decide +kernel) ⟨Nat.le_of_ble_eq_true rfl, Nat.le_of_ble_eq_true rfl⟩ ⟨bl_M, fun U hU hW => ⟨rfl, by rw [hU], by rw [hU]; exact hPc, va_K.moved hW.alike hKc, hDc.weaken (fun _ _ _ _ => trivial)⟩⟩ rfl rfl hl.1 rfl (lv_room (Nat.le_of_ble_eq_true rfl)) d_law_716 ⟨hkc, hks⟩) hS (fun q _ h => hFc q h) hFc (fun r_51 u t H1 locs ht9 hvm hw hB hz1 hk1 hS => ?_)
    obtain ⟨fc_51, fo_51⟩ := u
    obtain ⟨hP1, hK1, hD1⟩ := hB
    rw [ht9] at hP1
    obtain ⟨hP, hD⟩ := va_join (wr := ((m0, .inr (4, [.int th, .int mk, .int mv, .ref mu, .ref md, .long up, .long dn, .int mr, .ref mc, .ref me, .int so, .ref mau, .ref mad, .int mw, .ref mwg, .ref mgv, .ref msq])) :: (mu, .inl (cmu, 300, .inr (.inl gu))) :: (md, .inl (cmd, 300, .inr (.inl gd))) :: (mc, .inl (cmc, 320, .inl gc)) :: (me, .inl (cme, 20, .inl ge)) :: (mau, .inl (cma, 4, .inr (.inl ga))) :: (mad, .inl (cmb, 4, .inr (.inl gb))) :: (mwg, .inl (cmw, 12, .inr (.inl gw))) :: (mgv, .inl (cmg, 12, .inl gg)) :: (msq, .inl (cms, 16, .inr (.inl gs))) :: (a_w, .inr (3, [.ref a_z, .int wc, .long all])) :: (a_z, .inl (cZ, 12, .inl fz)) :: ks_ws a_s e0 w0 pv su sl er wr cE cW cP cSu cSl cI cJ fp fsu fsl E Wm ans)) (w1 := [(ak, .inr (0, [.int kinds, .ref ac, .int rowc, .ref a0, .ref a_s, .ref a_w])), (ac, .inl (cC, (20 * nk), .inl fc_51)), (a0, .inr (1, [.ref a1, .ref a2, .int cnt])), (a1, .inl (cU, 300, .inl fu)), (a2, .inl (cL, 300, .inl fl)), (ao, .inl (cO, 1, .inr (.inl fo_51)))]) hP hD [11, 12, 13, 14, 15, 10] [0, 1, 2, 3, 4, 5, 6, 7, 8, 9, 16, 17, 18, 19, 20, 21, 22, 23, 24, 25, 26, 27, 28, 29, 30, 31] rfl rfl (by decide) (by decide) hk1 hFc hP1 hD1
    generalize H1 = H at hP hS ⊢
    have hP := hP.sub (ws' := ((m0, .inr (4, [.int th, .int mk, .int mv, .ref mu, .ref md, .long up, .long dn, .int mr, .ref mc, .ref me, .int so, .ref mau, .ref mad, .int mw, .ref mwg, .ref mgv, .ref msq])) :: (mu, .inl (cmu, 300, .inr (.inl gu))) :: (md, .inl (cmd, 300, .inr (.inl gd))) :: (mc, .inl (cmc, 320, .inl gc)) :: (me, .inl (cme, 20, .inl ge)) :: (mau, .inl (cma, 4, .inr (.inl ga))) :: (mad, .inl (cmb, 4, .inr (.inl gb))) :: (mwg, .inl (cmw, 12, .inr (.inl gw))) :: (mgv, .inl (cmg, 12, .inl gg)) :: (msq, .inl (cms, 16, .inr (.inl gs))) :: (ao, .inl (cO, 1, .inr (.inl fo_51))) :: (ak, .inr (0, [.int kinds, .ref ac, .int rowc, .ref a0, .ref a_s, .ref a_w])) :: (ac, .inl (cC, (20 * nk), .inl fc_51)) :: (a0, .inr (1, [.ref a1, .ref a2, .int cnt])) :: (a1, .inl (cU, 300, .inl fu)) :: (a2, .inl (cL, 300, .inl fl)) :: (a_w, .inr (3, [.ref a_z, .int wc, .long all])) :: (a_z, .inl (cZ, 12, .inl fz)) :: ks_ws a_s e0 w0 pv su sl er wr cE cW cP cSu cSl cI cJ fp fsu fsl E Wm ans)) [0, 1, 2, 3, 4, 5, 6, 7, 8, 9, 31, 26, 27, 28, 29, 30, 10, 11, 12, 13, 14, 15, 16, 17, 18, 19, 20, 21, 22, 23, 24, 25] rfl
    have hD := hD.sub (ws' := ((m0, .inr (4, [.int th, .int mk, .int mv, .ref mu, .ref md, .long up, .long dn, .int mr, .ref mc, .ref me, .int so, .ref mau, .ref mad, .int mw, .ref mwg, .ref mgv, .ref msq])) :: (mu, .inl (cmu, 300, .inr (.inl gu))) :: (md, .inl (cmd, 300, .inr (.inl gd))) :: (mc, .inl (cmc, 320, .inl gc)) :: (me, .inl (cme, 20, .inl ge)) :: (mau, .inl (cma, 4, .inr (.inl ga))) :: (mad, .inl (cmb, 4, .inr (.inl gb))) :: (mwg, .inl (cmw, 12, .inr (.inl gw))) :: (mgv, .inl (cmg, 12, .inl gg)) :: (msq, .inl (cms, 16, .inr (.inl gs))) :: (ao, .inl (cO, 1, .inr (.inl fo_51))) :: (ak, .inr (0, [.int kinds, .ref ac, .int rowc, .ref a0, .ref a_s, .ref a_w])) :: (ac, .inl (cC, (20 * nk), .inl fc_51)) :: (a0, .inr (1, [.ref a1, .ref a2, .int cnt])) :: (a1, .inl (cU, 300, .inl fu)) :: (a2, .inl (cL, 300, .inl fl)) :: (a_w, .inr (3, [.ref a_z, .int wc, .long all])) :: (a_z, .inl (cZ, 12, .inl fz)) :: ks_ws a_s e0 w0 pv su sl er wr cE cW cP cSu cSl cI cJ fp fsu fsl E Wm ans)) [0, 1, 2, 3, 4, 5, 6, 7, 8, 9, 31, 26, 27, 28, 29, 30, 10, 11, 12, 13, 14, 15, 16, 17, 18, 19, 20, 21, 22, 23, 24, 25] (by decide) rfl
    rw [lw_put_eq] at hw
    have e_r_51 : r_51 = 0 := congrArg (fun z => z.1) hw
    have e_fc_51 : fc_51 = (f_kr_put kinds rowc fc cnt x1 x2 x3).2 := congrArg (fun z => z.2.1) hw
    have e_fo_51 : fo_51 = (vp_updL fo 0 (if (f_kr_put kinds rowc fc cnt x1 x2 x3).1 = 0 then 0 else 1)) := congrArg (fun z => z.2.2) hw
    clear hw
    subst e_r_51 e_fc_51 e_fo_51
    clear hP1 hK1 hD1 hk1 hz1 hFc hDc hPc hKc
    refine lv_istore (lv' := [(5, .int 0), (0, .ref b), (1, .ref ak), (2, .ref m0), (3, .ref ao), (4, .int (nI i))]) hx hb d_law_719 hl (by decide) rfl (fun ls hl => ?_)
    refine lv_aload_n hx hb d_law_721 rfl (lv_at hl 3 rfl) ?_
    refine lv_aload_n hx hb d_law_722 rfl (lv_at hl 1 rfl) ?_
    refine lv_iload hx hb d_law_723 (lv_at hl 5 rfl) ?_
    refine lv_iconst (v := 1) hx hb d_law_725 (by decide) ?_
    refine lv_iadd hx hb d_law_726 ?_
    refine kz_sld hx hb hX hbl hbA hS i1 v1 d_law_727 ?_
    refine lv_aload_n hx hb d_law_728 rfl (lv_at hl 1 rfl) ?_
    refine lv_iload hx hb d_law_729 (lv_at hl 5 rfl) ?_
    refine lv_iconst (v := 2) hx hb d_law_731 (by decide) ?_
    refine lv_iadd hx hb d_law_732 ?_
    refine kz_sld hx hb hX hbl hbA hS i2 v2 d_law_733 ?_
    refine lv_aload_n hx hb d_law_734 rfl (lv_at hl 1 rfl) ?_
    refine lv_iload hx hb d_law_735 (lv_at hl 5 rfl) ?_
    refine lv_iconst (v := 3) hx hb d_law_737 (by decide) ?_
    refine lv_iadd hx hb d_law_738 ?_
    refine kz_sld hx hb hX hbl hbA hS i3 v3 d_law_739 ?_
    have hPc := hP.sub (ws' := [(m0, .inr (4, [.int th, .int mk, .int mv, .ref mu, .ref md, .long up, .long dn, .int mr, .ref mc, .ref me, .int so, .ref mau, .ref mad, .int mw, .ref mwg, .ref mgv, .ref msq])), (mc, .inl (cmc, 320, .inl gc))]) [0, 3] rfl
    have hKc := hK.sub (tys' := [(cmc, .int)]) [2] rfl
    have hDc := hD.sub (ws' := [(m0, .inr (4, [.int th, .int mk, .int mv, .ref mu, .ref md, .long up, .long dn, .int mr, .ref mc, .ref me, .int so, .ref mau, .ref mad, .int mw, .ref mwg, .ref mgv, .ref msq])), (mc, .inl (cmc, 320, .inl gc))]) [0, 3] (by decide) rfl
    have hFc := va_free (wc := [(m0, .inr (4, [.int th, .int mk, .int mv, .ref mu, .ref md, .long up, .long dn, .int mr, .ref mc, .ref me, .int so, .ref mau, .ref mad, .int mw, .ref mwg, .ref mgv, .ref msq])), (mc, .inl (cmc, 320, .inl gc))]) hD hS hA [0, 3] rfl
    refine va_calli (va_runV (As := [.int x1, .int x2, .int x3]) (rest := []) ⟨hx, hb, hml, hown, hT⟩ (c_mo_put l dC dI H.size m0 mc th mk mv mu md up dn mr me so mau mad mw mwg mgv msq cmc gc x1 x2 x3 nk (show mk = nI nk ∧ nk ≤ 16 by rw [hmk]; exact hn) (show vp_in mr 21 by rw [hRC.1]; exact hRC.2.1)) (cwV 3 hT (kt_V k_400 k_398 k_399 k_136 k_397) rfl rfl rfl (by decide +kernel) ⟨Nat.le_of_ble_eq_true rfl, Nat.le_of_ble_eq_true rfl⟩) ⟨bl_M, va_recv hKc hPc (ci := 4) (q0 := 0) rfl rfl, fun U hU hW => ⟨rfl, by rw [hU], by rw [hU]; exact hPc, va_K.moved hW.alike hKc, hDc.weaken (fun _ _ _ _ => trivial)⟩⟩ rfl rfl hl.1 rfl (lv_room (Nat.le_of_ble_eq_true rfl)) d_law_740 ⟨hkc, hks⟩) hS (fun q _ h => hFc q h) hFc (fun r_52 u t H1 locs ht hvm hw hB hz1 hk1 hS => ?_)
    obtain ⟨th_52, gc_52⟩ := u
    obtain ⟨hP1, hK1, hD1⟩ := hB
    rw [ht] at hP1
    obtain ⟨hP, hD⟩ := va_join (wr := ((mu, .inl (cmu, 300, .inr (.inl gu))) :: (md, .inl (cmd, 300, .inr (.inl gd))) :: (me, .inl (cme, 20, .inl ge)) :: (mau, .inl (cma, 4, .inr (.inl ga))) :: (mad, .inl (cmb, 4, .inr (.inl gb))) :: (mwg, .inl (cmw, 12, .inr (.inl gw))) :: (mgv, .inl (cmg, 12, .inl gg)) :: (msq, .inl (cms, 16, .inr (.inl gs))) :: (ao, .inl (cO, 1, .inr (.inl (vp_updL fo 0 (if (f_kr_put kinds rowc fc cnt x1 x2 x3).1 = 0 then 0 else 1))))) :: (ak, .inr (0, [.int kinds, .ref ac, .int rowc, .ref a0, .ref a_s, .ref a_w])) :: (ac, .inl (cC, (20 * nk), .inl ((f_kr_put kinds rowc fc cnt x1 x2 x3).2))) :: (a0, .inr (1, [.ref a1, .ref a2, .int cnt])) :: (a1, .inl (cU, 300, .inl fu)) :: (a2, .inl (cL, 300, .inl fl)) :: (a_w, .inr (3, [.ref a_z, .int wc, .long all])) :: (a_z, .inl (cZ, 12, .inl fz)) :: ks_ws a_s e0 w0 pv su sl er wr cE cW cP cSu cSl cI cJ fp fsu fsl E Wm ans)) (w1 := [(m0, .inr (4, [.int th_52, .int mk, .int mv, .ref mu, .ref md, .long up, .long dn, .int mr, .ref mc, .ref me, .int so, .ref mau, .ref mad, .int mw, .ref mwg, .ref mgv, .ref msq])), (mc, .inl (cmc, 320, .inl gc_52))]) hP hD [0, 3] [1, 2, 4, 5, 6, 7, 8, 9, 10, 11, 12, 13, 14, 15, 16, 17, 18, 19, 20, 21, 22, 23, 24, 25, 26, 27, 28, 29, 30, 31] rfl rfl (by decide) (by decide) hk1 hFc hP1 hD1
    generalize H1 = H at hP hS ⊢
    have hP := hP.sub (ws' := ((m0, .inr (4, [.int th_52, .int mk, .int mv, .ref mu, .ref md, .long up, .long dn, .int mr, .ref mc, .ref me, .int so, .ref mau, .ref mad, .int mw, .ref mwg, .ref mgv, .ref msq])) :: (mu, .inl (cmu, 300, .inr (.inl gu))) :: (md, .inl (cmd, 300, .inr (.inl gd))) :: (mc, .inl (cmc, 320, .inl gc_52)) :: (me, .inl (cme, 20, .inl ge)) :: (mau, .inl (cma, 4, .inr (.inl ga))) :: (mad, .inl (cmb, 4, .inr (.inl gb))) :: (mwg, .inl (cmw, 12, .inr (.inl gw))) :: (mgv, .inl (cmg, 12, .inl gg)) :: (msq, .inl (cms, 16, .inr (.inl gs))) :: (ao, .inl (cO, 1, .inr (.inl (vp_updL fo 0 (if (f_kr_put kinds rowc fc cnt x1 x2 x3).1 = 0 then 0 else 1))))) :: (ak, .inr (0, [.int kinds, .ref ac, .int rowc, .ref a0, .ref a_s, .ref a_w])) :: (ac, .inl (cC, (20 * nk), .inl ((f_kr_put kinds rowc fc cnt x1 x2 x3).2))) :: (a0, .inr (1, [.ref a1, .ref a2, .int cnt])) :: (a1, .inl (cU, 300, .inl fu)) :: (a2, .inl (cL, 300, .inl fl)) :: (a_w, .inr (3, [.ref a_z, .int wc, .long all])) :: (a_z, .inl (cZ, 12, .inl fz)) :: ks_ws a_s e0 w0 pv su sl er wr cE cW cP cSu cSl cI cJ fp fsu fsl E Wm ans)) [30, 0, 1, 31, 2, 3, 4, 5, 6, 7, 8, 9, 10, 11, 12, 13, 14, 15, 16, 17, 18, 19, 20, 21, 22, 23, 24, 25, 26, 27, 28, 29] rfl
    have hD := hD.sub (ws' := ((m0, .inr (4, [.int th_52, .int mk, .int mv, .ref mu, .ref md, .long up, .long dn, .int mr, .ref mc, .ref me, .int so, .ref mau, .ref mad, .int mw, .ref mwg, .ref mgv, .ref msq])) :: (mu, .inl (cmu, 300, .inr (.inl gu))) :: (md, .inl (cmd, 300, .inr (.inl gd))) :: (mc, .inl (cmc, 320, .inl gc_52)) :: (me, .inl (cme, 20, .inl ge)) :: (mau, .inl (cma, 4, .inr (.inl ga))) :: (mad, .inl (cmb, 4, .inr (.inl gb))) :: (mwg, .inl (cmw, 12, .inr (.inl gw))) :: (mgv, .inl (cmg, 12, .inl gg)) :: (msq, .inl (cms, 16, .inr (.inl gs))) :: (ao, .inl (cO, 1, .inr (.inl (vp_updL fo 0 (if (f_kr_put kinds rowc fc cnt x1 x2 x3).1 = 0 then 0 else 1))))) :: (ak, .inr (0, [.int kinds, .ref ac, .int rowc, .ref a0, .ref a_s, .ref a_w])) :: (ac, .inl (cC, (20 * nk), .inl ((f_kr_put kinds rowc fc cnt x1 x2 x3).2))) :: (a0, .inr (1, [.ref a1, .ref a2, .int cnt])) :: (a1, .inl (cU, 300, .inl fu)) :: (a2, .inl (cL, 300, .inl fl)) :: (a_w, .inr (3, [.ref a_z, .int wc, .long all])) :: (a_z, .inl (cZ, 12, .inl fz)) :: ks_ws a_s e0 w0 pv su sl er wr cE cW cP cSu cSl cI cJ fp fsu fsl E Wm ans)) [30, 0, 1, 31, 2, 3, 4, 5, 6, 7, 8, 9, 10, 11, 12, 13, 14, 15, 16, 17, 18, 19, 20, 21, 22, 23, 24, 25, 26, 27, 28, 29] (by decide) rfl
    have e_r_52 : r_52 = (f_mo_put mk mv mr gc x1 x2 x3).1 := congrArg (fun z => z.1) hw
    have e_th_52 : th_52 = (f_mo_put mk mv mr gc x1 x2 x3).2.1 := congrArg (fun z => z.2.1) hw
    have e_gc_52 : gc_52 = (f_mo_put mk mv mr gc x1 x2 x3).2.2 := congrArg (fun z => z.2.2) hw
    subst e_r_52 e_th_52 e_gc_52
    clear hP1 hK1 hD1 hk1 hz1 hFc hDc hPc hKc
    refine lv_istore (lv' := [(6, .int ((f_mo_put mk mv mr gc x1 x2 x3).1)), (5, .int 0), (0, .ref b), (1, .ref ak), (2, .ref m0), (3, .ref ao), (4, .int (nI i))]) hx hb d_law_743 hl (by decide) rfl (fun ls hl => ?_)
    refine lv_aload_n hx hb d_law_745 rfl (lv_at hl 4 rfl) ?_
    have hPc := hP.sub (ws' := [(m0, .inr (4, [.int ((f_mo_put mk mv mr gc x1 x2 x3).2.1), .int mk, .int mv, .ref mu, .ref md, .long up, .long dn, .int mr, .ref mc, .ref me, .int so, .ref mau, .ref mad, .int mw, .ref mwg, .ref mgv, .ref msq]))]) [0] rfl
    have hKc := hK.sub (tys' := []) [] rfl
    refine vp_callSi (W.runV (As := []) (rest := []) ⟨hx, hb, hml, hown, hT⟩ (c_mo_thrown l dC dI m0 ((f_mo_put mk mv mr gc x1 x2 x3).2.1) mk mv mu md up dn mr mc me so mau mad mw mwg mgv msq) (cwV 0 hT (kt_V k_379 k_377 k_378 k_136 k_376) rfl rfl rfl (by decide +kernel) ⟨Nat.le_of_ble_eq_true rfl, Nat.le_of_ble_eq_true rfl⟩) ⟨bl_R, va_recv hKc hPc (ci := 4) (q0 := 0) rfl rfl, fun U hU hW => ⟨rfl, by rw [hU]; exact hPc, va_K.moved hW.alike hKc⟩⟩ rfl rfl hl.1 rfl (lv_room (Nat.le_of_ble_eq_true rfl)) d_law_746 ⟨hkc, hks⟩) (fun r_53 e_r_53 => ?_)
    subst e_r_53
    refine lv_iload hx hb d_law_749 (lv_at hl 1 rfl) ?_
    refine lv_icmp_eq (tgt := 756) hx hb d_law_751 (by decide) (fun c_54 => ?_) (fun c_54 => ?_)
    · refine lv_iload hx hb d_law_756 (lv_at hl 1 rfl) ?_
      refine lv_if_ne (tgt := 780) hx hb d_law_758 (by decide) (fun c_55 => ?_) (fun c_55 => ?_)
      · exact absurd c_55 (by decide)
      · refine lv_aload_n hx hb d_law_761 rfl (lv_at hl 5 rfl) ?_
        refine lv_iconst (v := 0) hx hb d_law_762 (by decide) ?_
        refine va_laldN (i := 0) hx hb hK hP 10 9 rfl rfl ⟨by decide, by decide⟩ d_law_763 ?_
        refine lv_iload hx hb d_law_764 (lv_at hl 0 rfl) ?_
        refine lv_if_eq (tgt := 773) hx hb d_law_766 (by decide) (fun c_56 => ?_) (fun c_56 => ?_)
        · refine lv_lconst (v := 0) hx hb d_law_773 (by decide) ?_
          refine lx_ifeq (tgt := 780) hx hb d_law_774 d_law_775 (by decide) (fun c_57 => ?_) (fun c_57 => ?_)
          · refine lv_goto (tgt := 1083) hx hb d_law_780 (by decide) ?_
            exact kk _ _ _ _ ls ⟨_, _, _, _, _, _, _, _, _, _, _, _, _, _, _, _, _, _, _, _, _, _, _, _, _, _, _, _, _, _, _, hP, hD, hS, hRV, hR.2.2, hRE, hRA, hRW⟩ (by omega) (by omega) (lv_sub hl [2, 3, 4, 5, 6] rfl)
          · exact (c_57 (upL0.trans (by rw [hR.1, if_pos c_56]))).elim
        · refine lv_lconst (v := 1) hx hb d_law_769 (by decide) ?_
          refine lv_goto (tgt := 774) hx hb d_law_770 (by decide) ?_
          refine lx_ifeq (tgt := 780) hx hb d_law_774 d_law_775 (by decide) (fun c_58 => ?_) (fun c_58 => ?_)
          · refine lv_goto (tgt := 1083) hx hb d_law_780 (by decide) ?_
            exact kk _ _ _ _ ls ⟨_, _, _, _, _, _, _, _, _, _, _, _, _, _, _, _, _, _, _, _, _, _, _, _, _, _, _, _, _, _, _, hP, hD, hS, hRV, hR.2.2, hRE, hRA, hRW⟩ (by omega) (by omega) (lv_sub hl [2, 3, 4, 5, 6] rfl)
          · exact (c_58 (upL0.trans (by rw [hR.1, if_neg c_56]))).elim
    · exact (c_54 (show f_mo_thrown _ = 0 from hR.2.1)).elim
