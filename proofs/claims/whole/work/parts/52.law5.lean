theorem k_408 : (.classLink R_law 8 R_kr : Cond) ∈ kt_T := List.mem_filter.mpr ⟨List.mem_of_getElem? (i := 28) (by decide +kernel), by decide +kernel⟩
theorem k_409 : (.instantiable R_kr 6 : Cond) ∈ kt_T := List.mem_filter.mpr ⟨List.mem_of_getElem? (i := 29) (by decide +kernel), by decide +kernel⟩
theorem k_410 : (.methodLink R_law 31 y_lw_cell : Cond) ∈ kt_T := List.mem_filter.mpr ⟨List.mem_of_getElem? (i := 274) (by decide +kernel), by decide +kernel⟩
theorem k_411 : (.static y_lw_cell : Cond) ∈ kt_T := List.mem_filter.mpr ⟨List.mem_of_getElem? (i := 275) (by decide +kernel), by decide +kernel⟩
theorem k_412 : (.code y_lw_cell b_lw_cell 2 (some .int) : Cond) ∈ kt_T := List.mem_filter.mpr ⟨List.mem_of_getElem? (i := 276) (by decide +kernel), by decide +kernel⟩
theorem k_413 : (.instanceMethod y_kr_init : Cond) ∈ kt_T := List.mem_filter.mpr ⟨List.mem_of_getElem? (i := 31) (by decide +kernel), by decide +kernel⟩
theorem k_414 : (.code y_kr_init b_kr_init 2 none : Cond) ∈ kt_T := List.mem_filter.mpr ⟨List.mem_of_getElem? (i := 32) (by decide +kernel), by decide +kernel⟩
theorem k_415 : (.methodLink R_law 37 y_kr_init : Cond) ∈ kt_T := List.mem_filter.mpr ⟨List.mem_of_getElem? (i := 30) (by decide +kernel), by decide +kernel⟩
theorem k_416 : (.classLink R_law 40 R_mo : Cond) ∈ kt_T := List.mem_filter.mpr ⟨List.mem_of_getElem? (i := 403) (by decide +kernel), by decide +kernel⟩
theorem k_417 : (.instantiable R_mo 17 : Cond) ∈ kt_T := List.mem_filter.mpr ⟨List.mem_of_getElem? (i := 404) (by decide +kernel), by decide +kernel⟩
theorem k_418 : (.instanceMethod y_mo_init : Cond) ∈ kt_T := List.mem_filter.mpr ⟨List.mem_of_getElem? (i := 406) (by decide +kernel), by decide +kernel⟩
theorem k_419 : (.code y_mo_init b_mo_init 3 none : Cond) ∈ kt_T := List.mem_filter.mpr ⟨List.mem_of_getElem? (i := 407) (by decide +kernel), by decide +kernel⟩
theorem k_420 : (.methodLink R_law 42 y_mo_init : Cond) ∈ kt_T := List.mem_filter.mpr ⟨List.mem_of_getElem? (i := 405) (by decide +kernel), by decide +kernel⟩
theorem flL_spec (v : Int32) : ∀ (d j : Nat) (f : Nat → Int32) (t : Nat), flL v d j f t = if j ≤ t ∧ t < j + d then v else f t
  | 0, j, f, t => by rw [flL, if_neg (by omega)]
  | d + 1, j, f, t => by
    rw [flL, flL_spec v d (j + 1)]
    by_cases h : j + 1 ≤ t ∧ t < j + 1 + d
    · rw [if_pos h, if_pos (by omega)]
    · rw [if_neg h, upd]
      by_cases e : t = j
      · rw [if_pos e, if_pos (by omega)]
      · rw [if_neg e, if_neg (by omega)]
theorem kinds_eq (x : Int32) : f_mo_kinds x = f_kr_kinds x := by
  unfold f_mo_kinds f_kr_kinds
  by_cases h1 : x < 1
  · rw [if_pos h1, if_pos h1]
  · rw [if_neg h1, if_neg h1]
    by_cases h2 : 16 < x
    · rw [if_pos h2, if_neg (show ¬ x ≤ 16 by rw [Int32.le_iff_toInt_le]; rw [Int32.lt_iff_toInt_lt] at h2; omega)]
    · rw [if_neg h2, if_pos (show x ≤ 16 by rw [Int32.le_iff_toInt_le]; rw [Int32.lt_iff_toInt_lt] at h2; omega)]
theorem RV_0 : RV 0 (fun _ => 0) (fun _ => 0) 0 (fun _ => 0) (fun _ => 0) := ⟨rfl, vp_in_nI (n := 0) (by decide) (by decide), fun i hi => absurd hi (by decide +revert)⟩
theorem RC_0 {nk : Nat} (hn : nk ≤ 16) : RC nk 0 0 (f_ja_fill (20 * nk) (fun _ => 0) (-1)) 0 (flL (-1) 320 0 (fun _ => 0)) := by
  refine ⟨rfl, vp_in_nI (n := 0) (by decide) (by decide), fun r hr k hk => ?_⟩
  have h1 : r * nk + k < 20 * nk := by
    have := Nat.mul_le_mul_right nk (show r + 1 ≤ 20 by omega)
    rw [Nat.add_mul, Nat.one_mul] at this
    omega
  unfold f_ja_fill
  rw [flL_spec, flL_spec, if_pos (by omega), if_pos (by omega)]
  exact ⟨rfl, Or.inl rfl⟩
theorem RE_0 : RE (fun _ _ => 0) (fun _ => 0) := fun i _ j _ => ⟨rfl, show (-100 : Int) ≤ (0 : Int32).toInt by decide, show (0 : Int32).toInt ≤ 100 by decide⟩
theorem RA_0 : RA 0 (fun _ => 0) (fun _ => 0) 0 (fun _ => 0) (fun _ => 0) := ⟨rfl, vp_in_nI (n := 0) (by decide) (by decide), fun i hi => absurd hi (Nat.not_lt_zero i)⟩
theorem RW_0 : RW 0 0 (fun _ => 0) 0 (fun _ => 0) := ⟨rfl, vp_in_nI (n := 0) (by decide) (by decide), fun i hi => absurd hi (Nat.not_lt_zero i), rfl⟩
theorem kt_N_sub : ∀ w ∈ kt_nest, w ∈ lw_tbl := by decide +kernel
theorem kt_N2_sub : ∀ w ∈ kt_nest2, w ∈ lw_tbl := by decide +kernel
section STR
variable {s : State} {b : Nat}
theorem kt_N_of (hts : ∀ w ∈ lw_tbl, w.before #[Value.ref b] s = true) : kt_N s := fun w hw => by
  have h1 := hts w (kt_N_sub w hw)
  obtain ⟨_, _, _, _, rfl⟩ := kt_nestL hw
  exact va_Nw.of rfl h1
theorem kt_N2_of (hts : ∀ w ∈ lw_tbl, w.before #[Value.ref b] s = true) : kt_N2 s := fun w hw => by
  have h1 := hts w (kt_N2_sub w hw)
  simp only [kt_nest2, List.mem_cons, List.not_mem_nil, or_false] at hw
  rcases hw with rfl | rfl | rfl | rfl | rfl <;> exact va_Nw.of rfl h1
theorem kt_Z_of (hts : ∀ w ∈ lw_tbl, w.before #[Value.ref b] s = true) (hgv : (Jvm.Cond.and given_1 narrow_1).before #[Value.ref b] s = true) : kt_Z (fun q : Nat => s.heap.size ≤ q) s s.heap := by
  have hs := flat_of_before _ hgv
  exact ⟨kz_F.of (hts _ (by decide +kernel)) (hs _ (by decide +kernel)) (fun a h1 h2 => absurd h2 (Nat.not_le.mpr h1)), kz_F.of (hts _ (by decide +kernel)) (hs _ (by decide +kernel)) (fun a h1 h2 => absurd h2 (Nat.not_le.mpr h1))⟩
theorem str_of (hgv : (Jvm.Cond.and given_1 narrow_1).before #[Value.ref b] s = true) {k : Nat} {tx : String} (h1 : (Cond.stringRef R_kr k tx).before #[Value.ref b] s = true) (h2 : Cond.exactly (.string R_kr k) "java/lang/String" ∈ flatC (Jvm.Cond.and given_1 narrow_1)) : ∃ sa, vk_R R_kr k tx sa s := by
  obtain ⟨a, -, -, -, he, -⟩ := Cond.exactly_spec (flat_of_before _ hgv _ h2)
  exact ⟨a, vk_R.of h1 he⟩
theorem arr_of {ty : FieldType} (h : (Cond.arrayClass ty).before #[Value.ref b] s = true) (ht : ty = .int ∨ ty = .long) : ∃ c, (ArrOfT s c ty ∧ va_RA s c ty) ∧ s.vm.findClass (FieldType.array ty).toString = some c := by
  obtain ⟨c, k, comp, h1, h2, h3⟩ := Cond.arrayClass_spec h
  refine ⟨c, ⟨fun n z => ⟨fun k h => (by cases h), k, h2, comp, h3⟩, ?_⟩, h1⟩
  rcases ht with rfl | rfl
  · exact h1
  · exact h1
end STR
set_option maxHeartbeats 4000000 in
set_option maxRecDepth 100000 in
/-- from the entry, for every script of at most 2561 ints, the law comes to its end with true -/
theorem whole_start {p : Program} {e : Env} {s : State} {m : MethodId} {below : List Frame} {meth : Method} {c : Code} (l : Launch) (hl9 : l.stackTraces = false) {b L : Nat} {xs : Nat → Int32} (hL : L ≤ 2561) (C0 : lw_At p s m meth c b L xs) : W p l e room_1 s m #[Value.ref b] below meth c s.heap [] 0 0 (lw_Z below #[Value.ref b] s) (entryFrame m ([Value.ref b] : List Value).toArray 7) := by
  obtain ⟨hx, hb, hr, hml, hown, hts, hX, hbl, hlocks, hgv⟩ := id C0
  have hT : ∀ w ∈ kt_T, w.before #[Value.ref b] s = true := fun w h => hts w (kt_sub h)
  have hA : ∀ q : Nat, s.heap.size ≤ q → (fun q : Nat => s.heap.size ≤ q) q := fun _ h => h
  have hbA : ¬ (fun q : Nat => s.heap.size ≤ q) b := Nat.not_le.mpr hbl
  have hN := kt_N_of hts
  have hN2 := kt_N2_of hts
  have hZ := kt_Z_of hts hgv
  have hs1 := str_of hgv (k := 49) (tx := "the lower number is 0") (hts _ (by decide +kernel)) (by decide +kernel)
  have hs2 := str_of hgv (k := 67) (tx := "no such value or part") (hts _ (by decide +kernel)) (by decide +kernel)
  have hs3 := str_of hgv (k := 85) (tx := "the divisor is 0") (hts _ (by decide +kernel)) (by decide +kernel)
  have hs4 := str_of hgv (k := 114) (tx := "no such kind") (hts _ (by decide +kernel)) (by decide +kernel)
  obtain ⟨cI, hcI⟩ := arr_of (ty := .int) (hts _ (by decide +kernel)) (Or.inl rfl)
  obtain ⟨cJ, hcJ⟩ := arr_of (ty := .long) (hts _ (by decide +kernel)) (Or.inr rfl)
  have hR9 : kt_R cI cJ s := ⟨hts (.arrayOver (.array .int)) (by decide +kernel), hts (.arrayOver (.array .long)) (by decide +kernel), hcI, hcJ⟩
  obtain ⟨c0, iS0, hKn0⟩ := u_known (C := R_kr) (T := F_kr) (N := 6) (n := 6) hT i_kr (hT _ k_409)
  obtain ⟨c1, iS1, hKn1⟩ := u_known (C := R_kv) (T := F_kv) (N := 3) (n := 3) hT i_kv (hT _ k_198)
  obtain ⟨c2, iS2, hKn2⟩ := u_known (C := R_ks) (T := F_ks) (N := 6) (n := 6) hT i_ks (hT _ k_202)
  obtain ⟨c3, iS3, hKn3⟩ := u_known (C := R_kw) (T := F_kw) (N := 3) (n := 3) hT i_kw (hT _ k_206)
  obtain ⟨c4, iS4, hKn4⟩ := u_known (C := R_mo) (T := F_mo) (N := 17) (n := 17) hT i_mo (hT _ k_417)
  obtain ⟨dC, dI, hKc⟩ : ∃ (dC : Nat → ClassId) (dI : Nat → Nat → Nat), ∀ (k : Nat) (q : vw_C), classes[k]? = some q → u_Kn s q.1 q.2.1 q.2.2 (dC k) (dI k) := by
    refine ⟨fun k => if k = 0 then c0 else if k = 1 then c1 else if k = 2 then c2 else if k = 3 then c3 else c4, fun k => if k = 0 then iS0 else if k = 1 then iS1 else if k = 2 then iS2 else if k = 3 then iS3 else iS4, ?_⟩
    intro k q hq
    match k, hq with
    | 0, hq => cases hq; exact hKn0
    | 1, hq => cases hq; exact hKn1
    | 2, hq => cases hq; exact hKn2
    | 3, hq => cases hq; exact hKn3
    | 4, hq => cases hq; exact hKn4
    | k + 5, hq => simp [classes] at hq
  have hS : va_S (fun q : Nat => s.heap.size ≤ q) s.heap s.heap [] := va_S.rf
  have hK : va_K (dC, dI) classes [] s := ⟨hKc, fun k q h => by simp at h⟩
  have hP : va_P (dC, dI) classes [] s.heap := fun k q h => by simp at h
  have hD : va_D (fun q : Nat => s.heap.size ≤ q) [] := ⟨fun i j p q h => by simp at h, fun k q h => by simp at h⟩
  obtain ⟨x0, ex0⟩ : ∃ x0, f_lw_cell L xs = x0 := ⟨_, rfl⟩
  have hl := lv_entry ([.ref b]) (n := 7) (Nat.le_of_ble_eq_true rfl)
  rw [lg_entry_eq]
  generalize (lg_sl ([.ref b]) ++ List.replicate (7 - (lg_sl ([.ref b])).length) Slot.unset).toArray = ls at hl ⊢
  have hl : lv_has ls 7 [(0, .ref b)] := hl
  refine va_new (ci := 0) (fs := [.int 0, .null, .int 0, .null, .null, .null]) (C := R_kr) (T := F_kr) (N := 6) hx hb hT i_kr t_kr t_kr_ok hown (hT _ k_408) (hT _ k_409) (hT _ k_11) hK hP hD hS hA rfl (fun j hj => by rcases (show j = 0 ∨ j = 1 ∨ j = 2 ∨ j = 3 ∨ j = 4 ∨ j = 5 by omega) with rfl | rfl | rfl | rfl | rfl | rfl <;> rfl) (Nat.le_of_ble_eq_true rfl) (Nat.le_of_ble_eq_true rfl) d_law_0 (fun ak H hP hD hS => ?_)
  have hP := hP.sub (ws' := [(ak, .inr (0, [.int 0, .null, .int 0, .null, .null, .null]))]) [0] rfl
  have hD := hD.sub (ws' := [(ak, .inr (0, [.int 0, .null, .int 0, .null, .null, .null]))]) [0] (by decide) rfl
  refine W.widen (k := 1) (n := 6) (Nat.le_of_ble_eq_true rfl) (Nat.le_of_ble_eq_true rfl) ?_
  refine lv_dup hx hb d_law_3 rfl ?_
  refine lv_aload_n hx hb d_law_4 rfl (lv_at hl 0 rfl) ?_
  refine lv_iconst (v := 0) hx hb d_law_5 (by decide) ?_
  refine vp_callSi (W.runS (As := [.ref b, .int 0]) (rest := [.ref ak, .ref ak]) ⟨hx, hb, hml, hown, hT⟩ (c_lw_cell l b L xs (by omega)) (va_cwS 2 hT (kt_S k_410 k_411 k_370 k_412) rfl rfl rfl (by decide +kernel) ⟨Nat.le_of_ble_eq_true rfl, Nat.le_of_ble_eq_true rfl⟩) ⟨bl_X, fun U hU hW => ⟨rfl, by rw [hU]; exact va_X.moved hW.alike (va_X.kept hX (hS.2.1 b hbl hbA)), by rw [hU]; exact Nat.lt_of_lt_of_le hbl hS.1⟩⟩ rfl rfl hl.1 rfl (lv_room (Nat.le_of_ble_eq_true rfl)) d_law_6 ⟨Nat.le_of_ble_eq_true rfl, Nat.le_of_ble_eq_true rfl⟩) (fun r_1 e_r_1 => ?_)
  obtain rfl : x0 = r_1 := (e_r_1.trans ex0).symm
  have hPc := hP.sub (ws' := [(ak, .inr (0, [.int 0, .null, .int 0, .null, .null, .null]))]) [0] rfl
  have hKc := hK.sub (tys' := []) [] rfl
  have hDc := hD.sub (ws' := [(ak, .inr (0, [.int 0, .null, .int 0, .null, .null, .null]))]) [0] (by decide) rfl
  have hFc := va_free (wc := [(ak, .inr (0, [.int 0, .null, .int 0, .null, .null, .null]))]) hD hS hA [0] rfl
  refine va_callv (va_runI (As := [.int x0]) (rest := [.ref ak]) ⟨hx, hb, hml, hown, hT⟩ (c_kr_init l dC dI H.size ak x0 cI cJ) (cwI 1 hT (kt_G k_414) rfl rfl rfl (hT _ k_11) (hT _ k_415) (hT _ k_413) rfl (by decide +kernel) ⟨Nat.le_of_ble_eq_true rfl, Nat.le_of_ble_eq_true rfl⟩) ⟨bl_MNR, fun U hU hW => ⟨rfl, by rw [hU], by rw [hU]; exact hPc, va_K.moved hW.alike hKc, hDc.weaken (fun _ _ _ _ => trivial), kt_N.warm hW hN, kt_R.warm hR9 hW⟩⟩ rfl rfl hl.1 rfl (lv_room (Nat.le_of_ble_eq_true rfl)) d_law_9 ⟨Nat.le_of_ble_eq_true rfl, Nat.le_of_ble_eq_true rfl⟩) hS (fun q _ h => hFc q h) hFc (fun u t H1 locs ht hvm hw hB hz1 hk1 hS => ?_)
  obtain ⟨ac, a0, a1, a2, a_w, a_z, a_s, e0, w0, pv, su, sl, er, wr, cC, cU, cL, cZ, cE, cW, cP, cSu, cSl, hP1, hK1, hD1⟩ := hB
  rw [ht] at hP1
  have hK1 := va_K.moved hvm.symm hK1
  obtain ⟨hP, hD⟩ := va_join (wr := []) (w1 := ((ak, .inr (0, [.int (f_kr_kinds x0), .ref ac, .int 0, .ref a0, .ref a_s, .ref a_w])) :: (ac, .inl (cC, (20 * (f_kr_kinds x0).toNatClampNeg), .inl (f_ja_fill (20 * (f_kr_kinds x0).toNatClampNeg) (fun _ => 0) (-1)))) :: (a0, .inr (1, [.ref a1, .ref a2, .int 0])) :: (a1, .inl (cU, 300, .inl (fun _ => 0))) :: (a2, .inl (cL, 300, .inl (fun _ => 0))) :: (a_w, .inr (3, [.ref a_z, .int 0, .long 0])) :: (a_z, .inl (cZ, 12, .inl (fun _ => 0))) :: ks_ws a_s e0 w0 pv su sl er wr cE cW cP cSu cSl cI cJ (fun _ => 0) (fun _ => 0) (fun _ => 0) (fun _ _ => 0) (fun _ _ => 0) 0)) hP hD [0] [] rfl rfl (by decide) (by decide) hk1 hFc hP1 hD1
  generalize H1 = H at hP hS ⊢
  have hP := hP.sub (ws' := ((ak, .inr (0, [.int (f_kr_kinds x0), .ref ac, .int 0, .ref a0, .ref a_s, .ref a_w])) :: (ac, .inl (cC, (20 * (f_kr_kinds x0).toNatClampNeg), .inl (f_ja_fill (20 * (f_kr_kinds x0).toNatClampNeg) (fun _ => 0) (-1)))) :: (a0, .inr (1, [.ref a1, .ref a2, .int 0])) :: (a1, .inl (cU, 300, .inl (fun _ => 0))) :: (a2, .inl (cL, 300, .inl (fun _ => 0))) :: (a_w, .inr (3, [.ref a_z, .int 0, .long 0])) :: (a_z, .inl (cZ, 12, .inl (fun _ => 0))) :: ks_ws a_s e0 w0 pv su sl er wr cE cW cP cSu cSl cI cJ (fun _ => 0) (fun _ => 0) (fun _ => 0) (fun _ _ => 0) (fun _ _ => 0) 0)) [0, 1, 2, 3, 4, 5, 6, 7, 8, 9, 10, 11, 12, 13, 14, 15, 16, 17, 18, 19, 20] rfl
  have hD := hD.sub (ws' := ((ak, .inr (0, [.int (f_kr_kinds x0), .ref ac, .int 0, .ref a0, .ref a_s, .ref a_w])) :: (ac, .inl (cC, (20 * (f_kr_kinds x0).toNatClampNeg), .inl (f_ja_fill (20 * (f_kr_kinds x0).toNatClampNeg) (fun _ => 0) (-1)))) :: (a0, .inr (1, [.ref a1, .ref a2, .int 0])) :: (a1, .inl (cU, 300, .inl (fun _ => 0))) :: (a2, .inl (cL, 300, .inl (fun _ => 0))) :: (a_w, .inr (3, [.ref a_z, .int 0, .long 0])) :: (a_z, .inl (cZ, 12, .inl (fun _ => 0))) :: ks_ws a_s e0 w0 pv su sl er wr cE cW cP cSu cSl cI cJ (fun _ => 0) (fun _ => 0) (fun _ => 0) (fun _ _ => 0) (fun _ _ => 0) 0)) [0, 1, 2, 3, 4, 5, 6, 7, 8, 9, 10, 11, 12, 13, 14, 15, 16, 17, 18, 19, 20] (by decide) rfl
  have hK := hK.app hK1
  have hK : va_K (dC, dI) classes [(cC, .int), (cU, .int), (cL, .int), (cZ, .int), (cE, .array .int), (cW, .array .long), (cP, .int), (cSu, .long), (cSl, .long), (cI, .int), (cJ, .long)] s := hK
  clear hP1 hK1 hD1 hk1 hz1 hFc hDc hPc hKc
  refine W.widen (k := 21) (n := 1010) (Nat.le_of_ble_eq_true rfl) (Nat.le_of_ble_eq_true rfl) ?_
  refine lv_astore_n (lv' := [(1, .ref ak), (0, .ref b)]) hx hb d_law_12 rfl hl (by decide) rfl (fun ls hl => ?_)
  refine va_new (ci := 4) (fs := [.int 0, .int 0, .int 0, .null, .null, .long 0, .long 0, .int 0, .null, .null, .int 0, .null, .null, .int 0, .null, .null, .null]) (C := R_mo) (T := F_mo) (N := 17) hx hb hT i_mo t_mo t_mo_ok hown (hT _ k_416) (hT _ k_417) (hT _ k_136) hK hP hD hS hA rfl (fun j hj => by rcases (show j = 0 ∨ j = 1 ∨ j = 2 ∨ j = 3 ∨ j = 4 ∨ j = 5 ∨ j = 6 ∨ j = 7 ∨ j = 8 ∨ j = 9 ∨ j = 10 ∨ j = 11 ∨ j = 12 ∨ j = 13 ∨ j = 14 ∨ j = 15 ∨ j = 16 by omega) with rfl | rfl | rfl | rfl | rfl | rfl | rfl | rfl | rfl | rfl | rfl | rfl | rfl | rfl | rfl | rfl | rfl <;> rfl) (Nat.le_of_ble_eq_true rfl) (Nat.le_of_ble_eq_true rfl) d_law_13 (fun m0 H hP hD hS => ?_)
  have hP := hP.sub (ws' := ((m0, .inr (4, [.int 0, .int 0, .int 0, .null, .null, .long 0, .long 0, .int 0, .null, .null, .int 0, .null, .null, .int 0, .null, .null, .null])) :: (ak, .inr (0, [.int (f_kr_kinds x0), .ref ac, .int 0, .ref a0, .ref a_s, .ref a_w])) :: (ac, .inl (cC, (20 * (f_kr_kinds x0).toNatClampNeg), .inl (f_ja_fill (20 * (f_kr_kinds x0).toNatClampNeg) (fun _ => 0) (-1)))) :: (a0, .inr (1, [.ref a1, .ref a2, .int 0])) :: (a1, .inl (cU, 300, .inl (fun _ => 0))) :: (a2, .inl (cL, 300, .inl (fun _ => 0))) :: (a_w, .inr (3, [.ref a_z, .int 0, .long 0])) :: (a_z, .inl (cZ, 12, .inl (fun _ => 0))) :: ks_ws a_s e0 w0 pv su sl er wr cE cW cP cSu cSl cI cJ (fun _ => 0) (fun _ => 0) (fun _ => 0) (fun _ _ => 0) (fun _ _ => 0) 0)) [21, 0, 1, 2, 3, 4, 5, 6, 7, 8, 9, 10, 11, 12, 13, 14, 15, 16, 17, 18, 19, 20] rfl
  have hD := hD.sub (ws' := ((m0, .inr (4, [.int 0, .int 0, .int 0, .null, .null, .long 0, .long 0, .int 0, .null, .null, .int 0, .null, .null, .int 0, .null, .null, .null])) :: (ak, .inr (0, [.int (f_kr_kinds x0), .ref ac, .int 0, .ref a0, .ref a_s, .ref a_w])) :: (ac, .inl (cC, (20 * (f_kr_kinds x0).toNatClampNeg), .inl (f_ja_fill (20 * (f_kr_kinds x0).toNatClampNeg) (fun _ => 0) (-1)))) :: (a0, .inr (1, [.ref a1, .ref a2, .int 0])) :: (a1, .inl (cU, 300, .inl (fun _ => 0))) :: (a2, .inl (cL, 300, .inl (fun _ => 0))) :: (a_w, .inr (3, [.ref a_z, .int 0, .long 0])) :: (a_z, .inl (cZ, 12, .inl (fun _ => 0))) :: ks_ws a_s e0 w0 pv su sl er wr cE cW cP cSu cSl cI cJ (fun _ => 0) (fun _ => 0) (fun _ => 0) (fun _ _ => 0) (fun _ _ => 0) 0)) [21, 0, 1, 2, 3, 4, 5, 6, 7, 8, 9, 10, 11, 12, 13, 14, 15, 16, 17, 18, 19, 20] (by decide) rfl
  refine W.widen (k := 22) (n := 1027) (Nat.le_of_ble_eq_true rfl) (Nat.le_of_ble_eq_true rfl) ?_
  refine lv_dup hx hb d_law_16 rfl ?_
  refine lv_aload_n hx hb d_law_17 rfl (lv_at hl 1 rfl) ?_
  refine lv_iconst (v := 0) hx hb d_law_18 (by decide) ?_
  refine vp_callSi (W.runS (As := [.ref b, .int 0]) (rest := [.ref m0, .ref m0]) ⟨hx, hb, hml, hown, hT⟩ (c_lw_cell l b L xs (by omega)) (va_cwS 2 hT (kt_S k_410 k_411 k_370 k_412) rfl rfl rfl (by decide +kernel) ⟨Nat.le_of_ble_eq_true rfl, Nat.le_of_ble_eq_true rfl⟩) ⟨bl_X, fun U hU hW => ⟨rfl, by rw [hU]; exact va_X.moved hW.alike (va_X.kept hX (hS.2.1 b hbl hbA)), by rw [hU]; exact Nat.lt_of_lt_of_le hbl hS.1⟩⟩ rfl rfl hl.1 rfl (lv_room (Nat.le_of_ble_eq_true rfl)) d_law_19 ⟨Nat.le_of_ble_eq_true rfl, Nat.le_of_ble_eq_true rfl⟩) (fun r_2 e_r_2 => ?_)
  obtain rfl : x0 = r_2 := (e_r_2.trans ex0).symm
  have hPc := hP.sub (ws' := [(m0, .inr (4, [.int 0, .int 0, .int 0, .null, .null, .long 0, .long 0, .int 0, .null, .null, .int 0, .null, .null, .int 0, .null, .null, .null]))]) [0] rfl
  have hKc := hK.sub (tys' := []) [] rfl
  have hDc := hD.sub (ws' := [(m0, .inr (4, [.int 0, .int 0, .int 0, .null, .null, .long 0, .long 0, .int 0, .null, .null, .int 0, .null, .null, .int 0, .null, .null, .null]))]) [0] (by decide) rfl
  have hFc := va_free (wc := [(m0, .inr (4, [.int 0, .int 0, .int 0, .null, .null, .long 0, .long 0, .int 0, .null, .null, .int 0, .null, .null, .int 0, .null, .null, .null]))]) hD hS hA [0] rfl
  refine va_callv (va_runI (As := [.int x0]) (rest := [.ref m0]) ⟨hx, hb, hml, hown, hT⟩ (c_mo_init l dC dI H.size m0 x0) (cwI 1 hT (kt_G k_419) rfl rfl rfl (hT _ k_136) (hT _ k_420) (hT _ k_418) rfl (by decide +kernel) ⟨Nat.le_of_ble_eq_true rfl, Nat.le_of_ble_eq_true rfl⟩) ⟨bl_M, fun U hU hW => ⟨rfl, by rw [hU], by rw [hU]; exact hPc, va_K.moved hW.alike hKc, hDc.weaken (fun _ _ _ _ => trivial)⟩⟩ rfl rfl hl.1 rfl (lv_room (Nat.le_of_ble_eq_true rfl)) d_law_22 ⟨Nat.le_of_ble_eq_true rfl, Nat.le_of_ble_eq_true rfl⟩) hS (fun q _ h => hFc q h) hFc (fun u t H1 locs ht hvm hw hB hz1 hk1 hS => ?_)
  obtain ⟨mu, md, mc, me, mau, mad, mwg, mgv, msq, cmu, cmd, cmc, cme, cma, cmb, cmw, cmg, cms, hP1, hK1, hD1⟩ := hB
  rw [ht] at hP1
  have hK1 := va_K.moved hvm.symm hK1
  obtain ⟨hP, hD⟩ := va_join (wr := ((ak, .inr (0, [.int (f_kr_kinds x0), .ref ac, .int 0, .ref a0, .ref a_s, .ref a_w])) :: (ac, .inl (cC, (20 * (f_kr_kinds x0).toNatClampNeg), .inl (f_ja_fill (20 * (f_kr_kinds x0).toNatClampNeg) (fun _ => 0) (-1)))) :: (a0, .inr (1, [.ref a1, .ref a2, .int 0])) :: (a1, .inl (cU, 300, .inl (fun _ => 0))) :: (a2, .inl (cL, 300, .inl (fun _ => 0))) :: (a_w, .inr (3, [.ref a_z, .int 0, .long 0])) :: (a_z, .inl (cZ, 12, .inl (fun _ => 0))) :: ks_ws a_s e0 w0 pv su sl er wr cE cW cP cSu cSl cI cJ (fun _ => 0) (fun _ => 0) (fun _ => 0) (fun _ _ => 0) (fun _ _ => 0) 0)) (w1 := [(m0, .inr (4, [.int 0, .int (f_mo_kinds x0), .int 0, .ref mu, .ref md, .long 0, .long 0, .int 0, .ref mc, .ref me, .int 0, .ref mau, .ref mad, .int 0, .ref mwg, .ref mgv, .ref msq])), (mu, .inl (cmu, 300, .inr (.inl (fun _ => 0)))), (md, .inl (cmd, 300, .inr (.inl (fun _ => 0)))), (mc, .inl (cmc, 320, .inl (flL (-1) 320 0 (fun _ => 0)))), (me, .inl (cme, 20, .inl (fun _ => 0))), (mau, .inl (cma, 4, .inr (.inl (fun _ => 0)))), (mad, .inl (cmb, 4, .inr (.inl (fun _ => 0)))), (mwg, .inl (cmw, 12, .inr (.inl (fun _ => 0)))), (mgv, .inl (cmg, 12, .inl (fun _ => 0))), (msq, .inl (cms, 16, .inr (.inl (fun _ => 0))))]) hP hD [0] [1, 2, 3, 4, 5, 6, 7, 8, 9, 10, 11, 12, 13, 14, 15, 16, 17, 18, 19, 20, 21] rfl rfl (by decide) (by decide) hk1 hFc hP1 hD1
  generalize H1 = H at hP hS ⊢
  have hP := hP.sub (ws' := ((m0, .inr (4, [.int 0, .int (f_mo_kinds x0), .int 0, .ref mu, .ref md, .long 0, .long 0, .int 0, .ref mc, .ref me, .int 0, .ref mau, .ref mad, .int 0, .ref mwg, .ref mgv, .ref msq])) :: (mu, .inl (cmu, 300, .inr (.inl (fun _ => 0)))) :: (md, .inl (cmd, 300, .inr (.inl (fun _ => 0)))) :: (mc, .inl (cmc, 320, .inl (flL (-1) 320 0 (fun _ => 0)))) :: (me, .inl (cme, 20, .inl (fun _ => 0))) :: (mau, .inl (cma, 4, .inr (.inl (fun _ => 0)))) :: (mad, .inl (cmb, 4, .inr (.inl (fun _ => 0)))) :: (mwg, .inl (cmw, 12, .inr (.inl (fun _ => 0)))) :: (mgv, .inl (cmg, 12, .inl (fun _ => 0))) :: (msq, .inl (cms, 16, .inr (.inl (fun _ => 0)))) :: (ak, .inr (0, [.int (f_kr_kinds x0), .ref ac, .int 0, .ref a0, .ref a_s, .ref a_w])) :: (ac, .inl (cC, (20 * (f_kr_kinds x0).toNatClampNeg), .inl (f_ja_fill (20 * (f_kr_kinds x0).toNatClampNeg) (fun _ => 0) (-1)))) :: (a0, .inr (1, [.ref a1, .ref a2, .int 0])) :: (a1, .inl (cU, 300, .inl (fun _ => 0))) :: (a2, .inl (cL, 300, .inl (fun _ => 0))) :: (a_w, .inr (3, [.ref a_z, .int 0, .long 0])) :: (a_z, .inl (cZ, 12, .inl (fun _ => 0))) :: ks_ws a_s e0 w0 pv su sl er wr cE cW cP cSu cSl cI cJ (fun _ => 0) (fun _ => 0) (fun _ => 0) (fun _ _ => 0) (fun _ _ => 0) 0)) [21, 22, 23, 24, 25, 26, 27, 28, 29, 30, 0, 1, 2, 3, 4, 5, 6, 7, 8, 9, 10, 11, 12, 13, 14, 15, 16, 17, 18, 19, 20] rfl
  have hD := hD.sub (ws' := ((m0, .inr (4, [.int 0, .int (f_mo_kinds x0), .int 0, .ref mu, .ref md, .long 0, .long 0, .int 0, .ref mc, .ref me, .int 0, .ref mau, .ref mad, .int 0, .ref mwg, .ref mgv, .ref msq])) :: (mu, .inl (cmu, 300, .inr (.inl (fun _ => 0)))) :: (md, .inl (cmd, 300, .inr (.inl (fun _ => 0)))) :: (mc, .inl (cmc, 320, .inl (flL (-1) 320 0 (fun _ => 0)))) :: (me, .inl (cme, 20, .inl (fun _ => 0))) :: (mau, .inl (cma, 4, .inr (.inl (fun _ => 0)))) :: (mad, .inl (cmb, 4, .inr (.inl (fun _ => 0)))) :: (mwg, .inl (cmw, 12, .inr (.inl (fun _ => 0)))) :: (mgv, .inl (cmg, 12, .inl (fun _ => 0))) :: (msq, .inl (cms, 16, .inr (.inl (fun _ => 0)))) :: (ak, .inr (0, [.int (f_kr_kinds x0), .ref ac, .int 0, .ref a0, .ref a_s, .ref a_w])) :: (ac, .inl (cC, (20 * (f_kr_kinds x0).toNatClampNeg), .inl (f_ja_fill (20 * (f_kr_kinds x0).toNatClampNeg) (fun _ => 0) (-1)))) :: (a0, .inr (1, [.ref a1, .ref a2, .int 0])) :: (a1, .inl (cU, 300, .inl (fun _ => 0))) :: (a2, .inl (cL, 300, .inl (fun _ => 0))) :: (a_w, .inr (3, [.ref a_z, .int 0, .long 0])) :: (a_z, .inl (cZ, 12, .inl (fun _ => 0))) :: ks_ws a_s e0 w0 pv su sl er wr cE cW cP cSu cSl cI cJ (fun _ => 0) (fun _ => 0) (fun _ => 0) (fun _ _ => 0) (fun _ _ => 0) 0)) [21, 22, 23, 24, 25, 26, 27, 28, 29, 30, 0, 1, 2, 3, 4, 5, 6, 7, 8, 9, 10, 11, 12, 13, 14, 15, 16, 17, 18, 19, 20] (by decide) rfl
  have hK := hK.app hK1
  have hK : va_K (dC, dI) classes [(cC, .int), (cU, .int), (cL, .int), (cZ, .int), (cE, .array .int), (cW, .array .long), (cP, .int), (cSu, .long), (cSl, .long), (cI, .int), (cJ, .long), (cmu, .long), (cmd, .long), (cmc, .int), (cme, .int), (cma, .long), (cmb, .long), (cmw, .long), (cmg, .boolean), (cms, .long)] s := hK
  clear hP1 hK1 hD1 hk1 hz1 hFc hDc hPc hKc
  refine W.widen (k := 31) (n := 2015) (Nat.le_of_ble_eq_true rfl) (Nat.le_of_ble_eq_true rfl) ?_
  refine lv_astore_n (lv' := [(2, .ref m0), (1, .ref ak), (0, .ref b)]) hx hb d_law_25 rfl hl (by decide) rfl (fun ls hl => ?_)
  refine lv_iconst (v := 1) hx hb d_law_26 (by decide) ?_
  refine va_newa (atype := .long) (ty := .long) (a0 := (1, .inr (.inl (fun _ => 0)))) hx hb (hT _ k_191) rfl hK hP hD hS hA (fun _ => rfl) (by decide) (by decide) (by decide) (Nat.le_of_ble_eq_true rfl) (Nat.le_of_ble_eq_true rfl) d_law_27 (fun ao cO H hK hP hD hS => ?_)
  refine W.widen (k := 32) (n := 2016) (Nat.le_of_ble_eq_true rfl) (Nat.le_of_ble_eq_true rfl) ?_
  refine lv_astore_n (lv' := [(3, .ref ao), (2, .ref m0), (1, .ref ak), (0, .ref b)]) hx hb d_law_29 rfl hl (by decide) rfl (fun ls hl => ?_)
  refine lv_iconst (v := 1) hx hb d_law_30 (by decide) ?_
  refine lv_istore (lv' := [(4, .int 1), (3, .ref ao), (2, .ref m0), (1, .ref ak), (0, .ref b)]) hx hb d_law_31 hl (by decide) rfl (fun ls hl => ?_)
  have hP := hP.sub (ws' := ((m0, .inr (4, [.int 0, .int (f_mo_kinds x0), .int 0, .ref mu, .ref md, .long 0, .long 0, .int 0, .ref mc, .ref me, .int 0, .ref mau, .ref mad, .int 0, .ref mwg, .ref mgv, .ref msq])) :: (mu, .inl (cmu, 300, .inr (.inl (fun _ => 0)))) :: (md, .inl (cmd, 300, .inr (.inl (fun _ => 0)))) :: (mc, .inl (cmc, 320, .inl (flL (-1) 320 0 (fun _ => 0)))) :: (me, .inl (cme, 20, .inl (fun _ => 0))) :: (mau, .inl (cma, 4, .inr (.inl (fun _ => 0)))) :: (mad, .inl (cmb, 4, .inr (.inl (fun _ => 0)))) :: (mwg, .inl (cmw, 12, .inr (.inl (fun _ => 0)))) :: (mgv, .inl (cmg, 12, .inl (fun _ => 0))) :: (msq, .inl (cms, 16, .inr (.inl (fun _ => 0)))) :: (ao, .inl (cO, 1, .inr (.inl (fun _ => 0)))) :: (ak, .inr (0, [.int (f_kr_kinds x0), .ref ac, .int 0, .ref a0, .ref a_s, .ref a_w])) :: (ac, .inl (cC, (20 * (f_kr_kinds x0).toNatClampNeg), .inl (f_ja_fill (20 * (f_kr_kinds x0).toNatClampNeg) (fun _ => 0) (-1)))) :: (a0, .inr (1, [.ref a1, .ref a2, .int 0])) :: (a1, .inl (cU, 300, .inl (fun _ => 0))) :: (a2, .inl (cL, 300, .inl (fun _ => 0))) :: (a_w, .inr (3, [.ref a_z, .int 0, .long 0])) :: (a_z, .inl (cZ, 12, .inl (fun _ => 0))) :: ks_ws a_s e0 w0 pv su sl er wr cE cW cP cSu cSl cI cJ (fun _ => 0) (fun _ => 0) (fun _ => 0) (fun _ _ => 0) (fun _ _ => 0) 0)) [0, 1, 2, 3, 4, 5, 6, 7, 8, 9, 31, 10, 11, 12, 13, 14, 15, 16, 17, 18, 19, 20, 21, 22, 23, 24, 25, 26, 27, 28, 29, 30] rfl
  have hD := hD.sub (ws' := ((m0, .inr (4, [.int 0, .int (f_mo_kinds x0), .int 0, .ref mu, .ref md, .long 0, .long 0, .int 0, .ref mc, .ref me, .int 0, .ref mau, .ref mad, .int 0, .ref mwg, .ref mgv, .ref msq])) :: (mu, .inl (cmu, 300, .inr (.inl (fun _ => 0)))) :: (md, .inl (cmd, 300, .inr (.inl (fun _ => 0)))) :: (mc, .inl (cmc, 320, .inl (flL (-1) 320 0 (fun _ => 0)))) :: (me, .inl (cme, 20, .inl (fun _ => 0))) :: (mau, .inl (cma, 4, .inr (.inl (fun _ => 0)))) :: (mad, .inl (cmb, 4, .inr (.inl (fun _ => 0)))) :: (mwg, .inl (cmw, 12, .inr (.inl (fun _ => 0)))) :: (mgv, .inl (cmg, 12, .inl (fun _ => 0))) :: (msq, .inl (cms, 16, .inr (.inl (fun _ => 0)))) :: (ao, .inl (cO, 1, .inr (.inl (fun _ => 0)))) :: (ak, .inr (0, [.int (f_kr_kinds x0), .ref ac, .int 0, .ref a0, .ref a_s, .ref a_w])) :: (ac, .inl (cC, (20 * (f_kr_kinds x0).toNatClampNeg), .inl (f_ja_fill (20 * (f_kr_kinds x0).toNatClampNeg) (fun _ => 0) (-1)))) :: (a0, .inr (1, [.ref a1, .ref a2, .int 0])) :: (a1, .inl (cU, 300, .inl (fun _ => 0))) :: (a2, .inl (cL, 300, .inl (fun _ => 0))) :: (a_w, .inr (3, [.ref a_z, .int 0, .long 0])) :: (a_z, .inl (cZ, 12, .inl (fun _ => 0))) :: ks_ws a_s e0 w0 pv su sl er wr cE cW cP cSu cSl cI cJ (fun _ => 0) (fun _ => 0) (fun _ => 0) (fun _ _ => 0) (fun _ _ => 0) 0)) [0, 1, 2, 3, 4, 5, 6, 7, 8, 9, 31, 10, 11, 12, 13, 14, 15, 16, 17, 18, 19, 20, 21, 22, 23, 24, 25, 26, 27, 28, 29, 30] (by decide) rfl
  have hK := hK.sub (tys' := [(cmu, .long), (cmd, .long), (cmc, .int), (cme, .int), (cma, .long), (cmb, .long), (cmw, .long), (cmg, .boolean), (cms, .long), (cO, .long), (cC, .int), (cU, .int), (cL, .int), (cZ, .int), (cE, .array .int), (cW, .array .long), (cP, .int), (cSu, .long), (cSl, .long), (cI, .int), (cJ, .long)]) [11, 12, 13, 14, 15, 16, 17, 18, 19, 20, 0, 1, 2, 3, 4, 5, 6, 7, 8, 9, 10] rfl
  obtain ⟨hk2, -, hk4⟩ := kinds_ok x0
  have hC : LCtx p l m c b L xs dC dI (fun q : Nat => s.heap.size ≤ q) s ak ac a0 a1 a2 a_w a_z a_s e0 w0 pv su sl er wr cC cU cL cZ cE cW cP cSu cSl cI cJ m0 mu md mc me mau mad mwg mgv msq ao cmu cmd cmc cme cma cmb cmw cmg cms cO (f_kr_kinds x0) (f_kr_kinds x0).toNatClampNeg (f_mo_kinds x0) := ⟨hx, hb, hml, hown, hT, hN, hN2, hl9, hX, hbl, hbA, hA, hZ, hs1, hs2, hs3, hs4, hK, ⟨hk2, hk4⟩, kinds_eq x0⟩
  exact law_loop hC hL (fun _ h => h) hr hlocks 512 1 _ _ _ _ ls (by omega) (by decide) (Nat.le_of_ble_eq_true rfl) (Nat.le_of_ble_eq_true rfl) ⟨_, _, _, _, _, _, _, _, _, _, _, _, _, _, _, _, _, _, _, _, _, _, _, _, _, _, _, _, _, _, _, hP, hD, hS, RV_0, RC_0 hk4, RE_0, RA_0, RW_0⟩ (lv_sub hl [4, 3, 2, 1, 0] rfl)
set_option maxHeartbeats 4000000 in
theorem lw_walk (l : Launch) (hl9 : l.stackTraces = false) (b : Addr) (xs : List Int32) : MetFree l x (headSpec (Jvm.Cond.code x code maxLocals ret :: tables_1) room_1) (lw_P b xs) (fun _ _ _ _ _ => True) lw_Q := by
  refine MetFree.of_bodyS (code := code) (maxLocals := maxLocals) (ret := ret) (by decide) ?_ ?_
  · intro args s m h hn
    obtain ⟨meth, c, h1, h2, h3, h4, h5, h6, -, -⟩ := Cond.code_spec hn (atoms_spec (ws := Jvm.Cond.code x code maxLocals ret :: tables_1) h _ List.mem_cons_self)
    exact ⟨meth, c, h1, h2, h3, h4, h5, h6⟩
  · intro p e s m args below meth c s₁ B hml0 hP _
    obtain ⟨rfl, hx, hbd, hgv⟩ := hP
    obtain ⟨scr, harrAt, hlist, hof, hsmall⟩ := hx
    obtain ⟨hcb, hkn, -, -⟩ := State.arrayAt?_spec harrAt
    have hown : s.vm.findClass R_law = some m.cls := findClass_of_methodNamed B.named
    have hts0 : ∀ c ∈ (Jvm.Cond.code x code maxLocals ret :: tables_1), c.before #[Value.ref b] s = true := atoms_spec (ws := Jvm.Cond.code x code maxLocals ret :: tables_1) B.pre
    have hts : ∀ w ∈ lw_tbl, w.before #[Value.ref b] s = true := k2_hts_sels lw_privs (fun w hw => hts0 w (List.mem_cons_of_mem _ hw)) lw_privs_ok
    have hml : c.maxLocals = 7 := B.maxLocals_eq (hts0 _ List.mem_cons_self)
    have X₀ : Stand p l e room_1 s m #[Value.ref b] below meth c s₁ [] 0 0 := Stand.of_body B
    have hh0 : s₁.heap = s.heap := by rw [B.state]; rfl
    have hsz : scr.slots.size = xs.length := by rw [← Array.length_toList, hlist, List.length_map]
    have hval : ∀ j : Nat, j < xs.length → scr.slots[j]? = some (.int (xs.getD j 0)) := fun j hj => by
      rw [← Array.getElem?_toList, hlist]
      simp [hj]
    have hbl : b < s.heap.size := (Array.getElem?_eq_some_iff.mp hcb).1
    have hX : va_X b xs.length (fun j => xs.getD j 0) s s.heap := ⟨scr, hcb, hof, hkn, hsz, hval⟩
    have K : W p l e room_1 s m #[Value.ref b] below meth c s₁.heap [] 0 0 (lw_Z below #[Value.ref b] s) (entryFrame m ([Value.ref b] : List Value).toArray 7) := by
      rw [hh0]
      exact whole_start l hl9 hbd ⟨B.exec, B.bytes, B.returns, hml, hown, hts, hX, hbl, B.notSynchronized, hgv⟩
    obtain ⟨t, a1, o, b1, b2, b3⟩ := K s₁ rfl X₀
    exact ⟨t, o, a1, b1, b2, b3⟩
theorem lw_pre_spec {args : Array Value} {s : State} (h : (Jvm.Cond.and given_1 narrow_1).before args s = true) (hr : rest_1_c.before args s = true) : ∃ (b : Addr) (xs : List Int32), lw_P b xs args s := by
  have hs := flat_of_before _ h
  have hq := flat_of_before _ hr
  have hc : (Cond.count 1).before args s = true := hs _ (by decide +kernel)
  have harr : (Cond.arrayOf (.arg 0) .int).before args s = true := hs _ (by decide +kernel)
  have hle : (Cond.le (.length (.arg 0)) (.int 2561)).before args s = true := hs _ (by decide +kernel)
  have hlen : (Cond.isInt (.length (.arg 0))).before args s = true := hq _ (by decide +kernel)
  have hall : (Cond.all (.arg 0) (.isInt (.elem (.arg 0) (.index 0)))).before args s = true := hq _ (by decide +kernel)
  obtain ⟨b, xs, hb, hx⟩ := State.ints_of_pre rfl harr hlen hall
  have hsm : xs.length < 2 ^ 31 := hx.choose_spec.2.2.2
  have hev : (Term.length (.arg 0)).eval args s none [] s = some (.int xs.length.toInt32) := hx.length_eval hb
  have hv := Cond.le_ints hev (show (Term.int 2561).eval args s none [] s = some (.int 2561) from rfl)
  have hd : xs.length.toInt32 ≤ 2561 := by
    simpa [Cond.before, Cond.holds, hv] using hle
  have hN : xs.length ≤ 2561 := (Int32.ofNat_le_ofNat hsm (by decide)).mp (show Int32.ofNat xs.length ≤ Int32.ofNat 2561 from hd)
  exact ⟨b, xs, Cond.one_arg hc (show args[0]? = some (.ref b) from hb), hx, hN, h⟩
theorem lw_comes (l : Launch) (hl9 : l.stackTraces = false) : Comes l x (Jvm.Cond.code x code maxLocals ret :: tables_1) room_1 (fun tb e args s => Calls_1 tb e args s ∧ rest_1 tb e args s ∧ Pre_1 tb e args s)
    (fun _ _ args s o t => lw_Q args s o t) := by
  intro p e ha hc hk s m args below hf hfit hheap happ hpre
  obtain ⟨b, xs, hP⟩ := lw_pre_spec hpre.2.2 hpre.2.1
  obtain ⟨k, o, h1, h2, h3, hQ⟩ := lw_walk l hl9 b xs p e ha hc hk s m args below hf ((Spec.applies_iff_loose hf).mp happ).1 hP trivial
  exact ⟨k, o, h1, h2, h3, hQ⟩
theorem lw_frame {s t : State} {o : Outcome} {args : Array Value} (h : Framed s o t [] 601024 7293000) :
    Framed s o t (fieldLocs frame_1_writes args s ++ arrayLocs frame_1_arrays args s ++ staticLocs frame_1_statics s) 601024 7293000 := h
theorem lw_limb (L : Cond) (hL : ∀ (args : Array Value) (s t : State), L.after args s (.returned (some (.int 1))) t = true) :
    ArmFor flags0 classFile x code maxLocals ret World_1 tables_1 room_1 Calls_1 rest_1 Pre_1
      (fun tb e a s o t => postC L tb e a s o t ∧ Framed s o t (fieldLocs frame_1_writes a s ++ arrayLocs frame_1_arrays a s ++ staticLocs frame_1_statics s) 601024 7293000) := by
  intro l hfl _ _ p e ha hc hk s m args below hf hfit hheap happ hpre
  obtain ⟨k, o, h1, h2, h3, rfl, hF⟩ := lw_comes l (by unfold Launch.stackTraces; rw [hfl]; decide +kernel) p e ha hc hk s m args below hf hfit hheap happ hpre
  exact ⟨k, _, h1, h2, h3, hL args s _, lw_frame hF⟩
theorem i_vc : Claimed_1_1 ∧ Claimed_1_2 := ⟨lw_limb limb_1_1 (fun args s t => by simp [limb_1_1, Cond.after, Cond.holds, Cond.value]), lw_limb limb_1_2 (fun args s t => Cond.after_iff.mpr (by
  first | (rw [show limb_1_2 = Cond.eq .result (.int 1) from rfl, Cond.eq_ints (x := 1) (y := 1) rfl rfl]; simp; done) | (simp [limb_1_2, Cond.value, Term.eval]; done)))⟩

