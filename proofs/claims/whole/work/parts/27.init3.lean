abbrev b_kr_init : ByteArray := prog_1_method_1_code
def y_kr_init : MethodName := ⟨R_kr, "<init>", "(I)V"⟩
def w_kr_init : List Cond := .code y_kr_init b_kr_init 2 none :: kt_T
theorem d_kr_init_0 : decode b_kr_init 0 = .ok (.aload_n 0, 1) := by decide +kernel
theorem d_kr_init_1 : decode b_kr_init 1 = .ok (.invokespecial 1, 3) := by decide +kernel
theorem d_kr_init_4 : decode b_kr_init 4 = .ok (.aload_n 0, 1) := by decide +kernel
theorem d_kr_init_5 : decode b_kr_init 5 = .ok (.iload_n 1, 1) := by decide +kernel
theorem d_kr_init_6 : decode b_kr_init 6 = .ok (.iconst 1, 1) := by decide +kernel
theorem d_kr_init_7 : decode b_kr_init 7 = .ok (.if_icmp .lt 13, 3) := by decide +kernel
theorem d_kr_init_10 : decode b_kr_init 10 = .ok (.iload_n 1, 1) := by decide +kernel
theorem d_kr_init_11 : decode b_kr_init 11 = .ok (.bipush 16, 2) := by decide +kernel
theorem d_kr_init_13 : decode b_kr_init 13 = .ok (.if_icmp .gt 7, 3) := by decide +kernel
theorem d_kr_init_16 : decode b_kr_init 16 = .ok (.iload_n 1, 1) := by decide +kernel
theorem d_kr_init_17 : decode b_kr_init 17 = .ok (.goto 4, 3) := by decide +kernel
theorem d_kr_init_20 : decode b_kr_init 20 = .ok (.iconst 1, 1) := by decide +kernel
theorem d_kr_init_21 : decode b_kr_init 21 = .ok (.putfield 9, 3) := by decide +kernel
theorem d_kr_init_24 : decode b_kr_init 24 = .ok (.aload_n 0, 1) := by decide +kernel
theorem d_kr_init_25 : decode b_kr_init 25 = .ok (.bipush 20, 2) := by decide +kernel
theorem d_kr_init_27 : decode b_kr_init 27 = .ok (.aload_n 0, 1) := by decide +kernel
theorem d_kr_init_28 : decode b_kr_init 28 = .ok (.getfield 9, 3) := by decide +kernel
theorem d_kr_init_31 : decode b_kr_init 31 = .ok (.imul, 1) := by decide +kernel
theorem d_kr_init_32 : decode b_kr_init 32 = .ok (.newarray .int, 2) := by decide +kernel
theorem d_kr_init_34 : decode b_kr_init 34 = .ok (.putfield 13, 3) := by decide +kernel
theorem d_kr_init_37 : decode b_kr_init 37 = .ok (.aload_n 0, 1) := by decide +kernel
theorem d_kr_init_38 : decode b_kr_init 38 = .ok (.getfield 13, 3) := by decide +kernel
theorem d_kr_init_41 : decode b_kr_init 41 = .ok (.iconst (-1), 1) := by decide +kernel
theorem d_kr_init_42 : decode b_kr_init 42 = .ok (.invokestatic 17, 3) := by decide +kernel
theorem d_kr_init_45 : decode b_kr_init 45 = .ok (.aload_n 0, 1) := by decide +kernel
theorem d_kr_init_46 : decode b_kr_init 46 = .ok (.iconst 0, 1) := by decide +kernel
theorem d_kr_init_47 : decode b_kr_init 47 = .ok (.putfield 23, 3) := by decide +kernel
theorem d_kr_init_50 : decode b_kr_init 50 = .ok (.aload_n 0, 1) := by decide +kernel
theorem d_kr_init_51 : decode b_kr_init 51 = .ok (.new 26, 3) := by decide +kernel
theorem d_kr_init_54 : decode b_kr_init 54 = .ok (.dup, 1) := by decide +kernel
theorem d_kr_init_55 : decode b_kr_init 55 = .ok (.invokespecial 28, 3) := by decide +kernel
theorem d_kr_init_58 : decode b_kr_init 58 = .ok (.putfield 29, 3) := by decide +kernel
theorem d_kr_init_61 : decode b_kr_init 61 = .ok (.aload_n 0, 1) := by decide +kernel
theorem d_kr_init_62 : decode b_kr_init 62 = .ok (.new 33, 3) := by decide +kernel
theorem d_kr_init_65 : decode b_kr_init 65 = .ok (.dup, 1) := by decide +kernel
theorem d_kr_init_66 : decode b_kr_init 66 = .ok (.invokespecial 35, 3) := by decide +kernel
theorem d_kr_init_69 : decode b_kr_init 69 = .ok (.putfield 36, 3) := by decide +kernel
theorem d_kr_init_72 : decode b_kr_init 72 = .ok (.aload_n 0, 1) := by decide +kernel
theorem d_kr_init_73 : decode b_kr_init 73 = .ok (.new 40, 3) := by decide +kernel
theorem d_kr_init_76 : decode b_kr_init 76 = .ok (.dup, 1) := by decide +kernel
theorem d_kr_init_77 : decode b_kr_init 77 = .ok (.invokespecial 42, 3) := by decide +kernel
theorem d_kr_init_80 : decode b_kr_init 80 = .ok (.putfield 43, 3) := by decide +kernel
theorem d_kr_init_83 : decode b_kr_init 83 = .ok (.return_, 1) := by decide +kernel
theorem k_192 : (.methodLink R_kr 1 objectInit : Cond) ∈ kt_T := List.mem_filter.mpr ⟨List.mem_of_getElem? (i := 33) (by decide +kernel), by decide +kernel⟩
theorem k_193 : (.methodLink R_kr 17 y_ja_fill : Cond) ∈ kt_T := List.mem_filter.mpr ⟨List.mem_of_getElem? (i := 36) (by decide +kernel), by decide +kernel⟩
theorem k_194 : (.static y_ja_fill : Cond) ∈ kt_T := List.mem_filter.mpr ⟨List.mem_of_getElem? (i := 37) (by decide +kernel), by decide +kernel⟩
theorem k_195 : (.initialized R_ja : Cond) ∈ kt_T := List.mem_filter.mpr ⟨List.mem_of_getElem? (i := 17) (by decide +kernel), by decide +kernel⟩
theorem k_196 : (.code y_ja_fill b_ja_fill 4 none : Cond) ∈ kt_T := List.mem_filter.mpr ⟨List.mem_of_getElem? (i := 38) (by decide +kernel), by decide +kernel⟩
theorem k_197 : (.classLink R_kr 26 R_kv : Cond) ∈ kt_T := List.mem_filter.mpr ⟨List.mem_of_getElem? (i := 39) (by decide +kernel), by decide +kernel⟩
theorem k_198 : (.instantiable R_kv 3 : Cond) ∈ kt_T := List.mem_filter.mpr ⟨List.mem_of_getElem? (i := 40) (by decide +kernel), by decide +kernel⟩
theorem k_199 : (.instanceMethod y_kv_init : Cond) ∈ kt_T := List.mem_filter.mpr ⟨List.mem_of_getElem? (i := 42) (by decide +kernel), by decide +kernel⟩
theorem k_200 : (.code y_kv_init b_kv_init 1 none : Cond) ∈ kt_T := List.mem_filter.mpr ⟨List.mem_of_getElem? (i := 43) (by decide +kernel), by decide +kernel⟩
theorem k_201 : (.classLink R_kr 33 R_ks : Cond) ∈ kt_T := List.mem_filter.mpr ⟨List.mem_of_getElem? (i := 56) (by decide +kernel), by decide +kernel⟩
theorem k_202 : (.instantiable R_ks 6 : Cond) ∈ kt_T := List.mem_filter.mpr ⟨List.mem_of_getElem? (i := 57) (by decide +kernel), by decide +kernel⟩
theorem k_203 : (.instanceMethod y_ks_init : Cond) ∈ kt_T := List.mem_filter.mpr ⟨List.mem_of_getElem? (i := 59) (by decide +kernel), by decide +kernel⟩
theorem k_204 : (.code y_ks_init b_ks_init 1 none : Cond) ∈ kt_T := List.mem_filter.mpr ⟨List.mem_of_getElem? (i := 60) (by decide +kernel), by decide +kernel⟩
theorem k_205 : (.classLink R_kr 40 R_kw : Cond) ∈ kt_T := List.mem_filter.mpr ⟨List.mem_of_getElem? (i := 86) (by decide +kernel), by decide +kernel⟩
theorem k_206 : (.instantiable R_kw 3 : Cond) ∈ kt_T := List.mem_filter.mpr ⟨List.mem_of_getElem? (i := 87) (by decide +kernel), by decide +kernel⟩
theorem k_207 : (.instanceMethod y_kw_init : Cond) ∈ kt_T := List.mem_filter.mpr ⟨List.mem_of_getElem? (i := 89) (by decide +kernel), by decide +kernel⟩
theorem k_208 : (.code y_kw_init b_kw_init 1 none : Cond) ∈ kt_T := List.mem_filter.mpr ⟨List.mem_of_getElem? (i := 90) (by decide +kernel), by decide +kernel⟩
def f_kr_kinds (x : Int32) : Int32 := if x < 1 then 1 else if 16 < x then 1 else x
theorem kinds_ok (x : Int32) : f_kr_kinds x = nI (f_kr_kinds x).toNatClampNeg ∧ 1 ≤ (f_kr_kinds x).toNatClampNeg ∧ (f_kr_kinds x).toNatClampNeg ≤ 16 := by
  have h : ∃ j, j ≤ 16 ∧ 1 ≤ j ∧ f_kr_kinds x = nI j := by
    unfold f_kr_kinds
    split
    · exact ⟨1, by decide, by decide, rfl⟩
    · rename_i h1
      split
      · exact ⟨1, by decide, by decide, rfl⟩
      · rename_i h2
        obtain ⟨j, hj, e⟩ := nI_of2 (M := 16) (n := 16) (x := x) (by decide) (fun h => h1 (by
          rw [Int32.lt_iff_toInt_lt] at h ⊢
          rw [Int32.toInt_zero] at h
          have h3 : (1 : Int32).toInt = 1 := by decide
          omega)) (by rw [Int32.le_iff_toInt_le]; rw [Int32.lt_iff_toInt_lt] at h2; omega)
        refine ⟨j, hj, ?_, e⟩
        rcases Nat.eq_zero_or_pos j with q | q
        · subst q
          subst e
          exact absurd (by decide) h1
        · exact q
  obtain ⟨j, h1, h2, e⟩ := h
  rw [e, nI_clamp (by omega)]
  exact ⟨rfl, h2, h1⟩
set_option maxHeartbeats 4000000 in
set_option maxRecDepth 100000 in
theorem c_kr_init (l : Launch) (dC : Nat → ClassId) (dI : Nat → Nat → Nat) (sz : Nat) (ak : Nat) (x : Int32) (cI cJ : ClassId) : Met l y_kr_init w_kr_init ({ frames := 2, cells := 20, slots := 1004, locals := 32 }) (va_Pc [.ref ak, .int x] (fun U => U.heap.size = sz ∧ va_P (dC, dI) classes [(ak, .inr (0, [.int 0, .null, .int 0, .null, .null, .null]))] U.heap ∧ va_K (dC, dI) classes [] U ∧ va_D (fun _ => True) [(ak, .inr (0, [.int 0, .null, .int 0, .null, .null, .null]))] ∧ kt_N U ∧ kt_R cI cJ U)) (va_Qv (fun _ => True) (fun (_ : Unit) t => ∃ (ac a0 a1 a2 a_w a_z a_s e0 w0 pv su sl : Nat) (er wr : Nat → Nat) (cC cU cL cZ cE cW cP cSu cSl : ClassId), va_P (dC, dI) classes ((ak, .inr (0, [.int (f_kr_kinds x), .ref ac, .int 0, .ref a0, .ref a_s, .ref a_w])) :: (ac, .inl (cC, (20 * (f_kr_kinds x).toNatClampNeg), .inl (f_ja_fill (20 * (f_kr_kinds x).toNatClampNeg) (fun _ => 0) (-1)))) :: (a0, .inr (1, [.ref a1, .ref a2, .int 0])) :: (a1, .inl (cU, 300, .inl (fun _ => 0))) :: (a2, .inl (cL, 300, .inl (fun _ => 0))) :: (a_w, .inr (3, [.ref a_z, .int 0, .long 0])) :: (a_z, .inl (cZ, 12, .inl (fun _ => 0))) :: ks_ws a_s e0 w0 pv su sl er wr cE cW cP cSu cSl cI cJ (fun _ => 0) (fun _ => 0) (fun _ => 0) (fun _ _ => 0) (fun _ _ => 0) 0) t.heap ∧ va_K (dC, dI) classes [(cC, .int), (cU, .int), (cL, .int), (cZ, .int), (cE, .array .int), (cW, .array .long), (cP, .int), (cSu, .long), (cSl, .long), (cI, .int), (cJ, .long)] t ∧ va_D (va_A [(ak, .inr (0, [.int 0, .null, .int 0, .null, .null, .null]))] sz) ((ak, .inr (0, [.int (f_kr_kinds x), .ref ac, .int 0, .ref a0, .ref a_s, .ref a_w])) :: (ac, .inl (cC, (20 * (f_kr_kinds x).toNatClampNeg), .inl (f_ja_fill (20 * (f_kr_kinds x).toNatClampNeg) (fun _ => 0) (-1)))) :: (a0, .inr (1, [.ref a1, .ref a2, .int 0])) :: (a1, .inl (cU, 300, .inl (fun _ => 0))) :: (a2, .inl (cL, 300, .inl (fun _ => 0))) :: (a_w, .inr (3, [.ref a_z, .int 0, .long 0])) :: (a_z, .inl (cZ, 12, .inl (fun _ => 0))) :: ks_ws a_s e0 w0 pv su sl er wr cE cW cP cSu cSl cI cJ (fun _ => 0) (fun _ => 0) (fun _ => 0) (fun _ _ => 0) (fun _ _ => 0) 0)) (va_A [(ak, .inr (0, [.int 0, .null, .int 0, .null, .null, .null]))] sz)) 20 1004 (va_A [(ak, .inr (0, [.int 0, .null, .int 0, .null, .null, .null]))] sz) := by
  refine Met.ofW (cc := b_kr_init) (maxL := 2) (ret := none) (by decide) rfl ?_
  intro p e s m args below meth c s₁ B hml hv
  obtain ⟨rfl, hsz, hP, hK, hD0, hN, hRR⟩ := hv
  have hx := B.exec
  have hb := B.bytes
  have hr := B.returns
  have hts := atoms_spec (ws := w_kr_init) B.pre
  have hT := fun (w : Cond) (h : w ∈ kt_T) => hts w (List.mem_cons_of_mem _ h)
  have hown : s.vm.findClass R_kr = some m.cls := findClass_of_methodNamed B.named
  have hlocks := B.notSynchronized
  have hin : meth.name = "<init>" := (name_of_methodNamed B.named B.method).1
  subst hsz
  have hD := hD0.self (sz := s.heap.size)
  generalize hAe : va_A [(ak, .inr (0, [.int 0, .null, .int 0, .null, .null, .null]))] s.heap.size = A at hD ⊢
  have hA : ∀ q : Nat, s.heap.size ≤ q → A q := fun q h => by rw [← hAe]; exact Or.inr h
  have hS : va_S A s.heap s.heap [] := va_S.rf
  have hl := lv_entry ([.ref ak, .int x]) (n := 2) (Nat.le_of_ble_eq_true rfl)
  rw [lg_entry_eq]
  generalize (lg_sl ([.ref ak, .int x]) ++ List.replicate (2 - (lg_sl ([.ref ak, .int x])).length) Slot.unset).toArray = ls at hl ⊢
  have hl : lv_has ls 2 [(0, .ref ak), (1, .int x)] := hl
  have seg : ∀ (k : Int32), k = f_kr_kinds x → ∀ (ls : Array Slot), lv_has ls 2 [(0, .ref ak)] → W p l e ({ frames := 2, cells := 20, slots := 1004, locals := 32 } : Room) s m ([.ref ak, .int x] : List Value).toArray below meth c s.heap [] 0 0 (MQ below (va_Qv (fun _ => True) (fun (_ : Unit) t => ∃ (ac a0 a1 a2 a_w a_z a_s e0 w0 pv su sl : Nat) (er wr : Nat → Nat) (cC cU cL cZ cE cW cP cSu cSl : ClassId), va_P (dC, dI) classes ((ak, .inr (0, [.int (f_kr_kinds x), .ref ac, .int 0, .ref a0, .ref a_s, .ref a_w])) :: (ac, .inl (cC, (20 * (f_kr_kinds x).toNatClampNeg), .inl (f_ja_fill (20 * (f_kr_kinds x).toNatClampNeg) (fun _ => 0) (-1)))) :: (a0, .inr (1, [.ref a1, .ref a2, .int 0])) :: (a1, .inl (cU, 300, .inl (fun _ => 0))) :: (a2, .inl (cL, 300, .inl (fun _ => 0))) :: (a_w, .inr (3, [.ref a_z, .int 0, .long 0])) :: (a_z, .inl (cZ, 12, .inl (fun _ => 0))) :: ks_ws a_s e0 w0 pv su sl er wr cE cW cP cSu cSl cI cJ (fun _ => 0) (fun _ => 0) (fun _ => 0) (fun _ _ => 0) (fun _ _ => 0) 0) t.heap ∧ va_K (dC, dI) classes [(cC, .int), (cU, .int), (cL, .int), (cZ, .int), (cE, .array .int), (cW, .array .long), (cP, .int), (cSu, .long), (cSl, .long), (cI, .int), (cJ, .long)] t ∧ va_D A ((ak, .inr (0, [.int (f_kr_kinds x), .ref ac, .int 0, .ref a0, .ref a_s, .ref a_w])) :: (ac, .inl (cC, (20 * (f_kr_kinds x).toNatClampNeg), .inl (f_ja_fill (20 * (f_kr_kinds x).toNatClampNeg) (fun _ => 0) (-1)))) :: (a0, .inr (1, [.ref a1, .ref a2, .int 0])) :: (a1, .inl (cU, 300, .inl (fun _ => 0))) :: (a2, .inl (cL, 300, .inl (fun _ => 0))) :: (a_w, .inr (3, [.ref a_z, .int 0, .long 0])) :: (a_z, .inl (cZ, 12, .inl (fun _ => 0))) :: ks_ws a_s e0 w0 pv su sl er wr cE cW cP cSu cSl cI cJ (fun _ => 0) (fun _ => 0) (fun _ => 0) (fun _ _ => 0) (fun _ _ => 0) 0)) A) ([.ref ak, .int x] : List Value).toArray s 20 1004 A) (F0 m 21 ls [.int k, .ref ak]) := by
    intro k hkx ls hl
    obtain ⟨hk2, hk3, hk4⟩ := kinds_ok x
    rw [← hkx] at hk2 hk3 hk4
    generalize hnk : k.toNatClampNeg = nk at hk2 hk3 hk4
    have hk20 : (20 : Int32) * k = nI (20 * nk) := by rw [hk2, show (20 : Int32) = nI 20 from rfl, pk_mul]
    refine va_putF (D := (dC, dI)) (ci := 0) (v := .int k) (ty := .int) (C := R_kr) (T := F_kr) (N := 6) hx hb hT i_kr t_kr t_kr_ok n_kr hown hK hP hD hS 0 rfl rfl 0 (by decide) (hT _ k_17) (fun _ h9 => h9) rfl hin rfl (by decide +kernel) rfl rfl (Nat.le_of_ble_eq_true rfl) d_kr_init_21 (fun H locs hP hD hS => ?_)
    have hP : va_P (dC, dI) classes [(ak, .inr (0, [.int k, .null, .int 0, .null, .null, .null]))] H := hP
    have hD : va_D A [(ak, .inr (0, [.int k, .null, .int 0, .null, .null, .null]))] := hD
    refine lv_aload_n hx hb d_kr_init_24 rfl (lv_at hl 0 rfl) ?_
    refine lv_bipush (v := 20) hx hb d_kr_init_25 (by decide) ?_
    refine lv_aload_n hx hb d_kr_init_27 rfl (lv_at hl 0 rfl) ?_
    refine va_get (D := (dC, dI)) (ci := 0) (v := .int k) (C := R_kr) (T := F_kr) (N := 6) hx hb hT i_kr hown hK hP 0 rfl rfl 0 (by decide) (hT _ k_17) (fun _ h9 => h9) rfl d_kr_init_28 ?_
    refine lv_imul hx hb d_kr_init_31 ?_
    refine va_newa (atype := .int) (ty := .int) (a0 := ((20 * nk), .inl (fun _ => 0))) hx hb (hT _ k_125) rfl hK hP hD hS hA (fun _ => rfl) (by rw [hk20]; exact nI_pos (by omega)) (by rw [hk20]; exact nI_clamp (by omega)) (by show 20 * nk * 4 ≤ 536870912; omega) (Nat.le_of_ble_eq_true rfl) (by show 0 + 20 * nk ≤ 1004; omega) d_kr_init_32 (fun q_3 cA_3 H hK hP hD hS => ?_)
    have hK : va_K (dC, dI) classes [(cA_3, .int)] s := hK
    have hP : va_P (dC, dI) classes [(ak, .inr (0, [.int k, .null, .int 0, .null, .null, .null])), (q_3, .inl (cA_3, (20 * nk), .inl (fun _ => 0)))] H := hP
    have hD : va_D A [(ak, .inr (0, [.int k, .null, .int 0, .null, .null, .null])), (q_3, .inl (cA_3, (20 * nk), .inl (fun _ => 0)))] := hD
    refine W.widen (k := 1) (n := 320) (Nat.le_of_ble_eq_true rfl) (by omega) ?_
    refine va_putF (D := (dC, dI)) (ci := 0) (v := .ref q_3) (ty := .array .int) (C := R_kr) (T := F_kr) (N := 6) hx hb hT i_kr t_kr t_kr_ok n_kr hown hK hP hD hS 0 rfl rfl 1 (by decide) (hT _ k_115) (fun _ h9 => h9) rfl hin rfl (by decide +kernel) rfl rfl (Nat.le_of_ble_eq_true rfl) d_kr_init_34 (fun H locs hP hD hS => ?_)
    have hP : va_P (dC, dI) classes [(ak, .inr (0, [.int k, .ref q_3, .int 0, .null, .null, .null])), (q_3, .inl (cA_3, (20 * nk), .inl (fun _ => 0)))] H := hP
    have hD : va_D A [(ak, .inr (0, [.int k, .ref q_3, .int 0, .null, .null, .null])), (q_3, .inl (cA_3, (20 * nk), .inl (fun _ => 0)))] := hD
    refine lv_aload_n hx hb d_kr_init_37 rfl (lv_at hl 0 rfl) ?_
    refine va_get (D := (dC, dI)) (ci := 0) (v := .ref q_3) (C := R_kr) (T := F_kr) (N := 6) hx hb hT i_kr hown hK hP 0 rfl rfl 1 (by decide) (hT _ k_115) (fun _ h9 => h9) rfl d_kr_init_38 ?_
    refine lv_iconst (v := (-1)) hx hb d_kr_init_41 (by decide) ?_
    have hPc := hP.sub (ws' := [(q_3, .inl (cA_3, (20 * nk), .inl (fun _ => 0)))]) [1] rfl
    have hKc := hK.sub (tys' := [(cA_3, .int)]) [0] rfl
    have hDc := hD.sub (ws' := [(q_3, .inl (cA_3, (20 * nk), .inl (fun _ => 0)))]) [1] (by decide) rfl
    have hFc := va_free (wc := [(q_3, .inl (cA_3, (20 * nk), .inl (fun _ => 0)))]) hD hS hA [1] rfl
    refine va_callv (va_runS (As := [.ref q_3, .int (-1)]) (rest := []) ⟨hx, hb, hml, hown, hT⟩ (c_ja_fill l dC dI H.size q_3 cA_3 (20 * nk) (fun _ => 0) (-1) (by omega)) (va_cwS 2 hT (kt_S k_193 k_194 k_195 k_196) rfl rfl rfl (by decide +kernel) ⟨Nat.le_of_ble_eq_true rfl, Nat.le_of_ble_eq_true rfl⟩) ⟨bl_M, fun U hU hW => ⟨rfl, by rw [hU], by rw [hU]; exact hPc, va_K.moved hW.alike hKc, hDc.weaken (fun _ _ _ _ => trivial)⟩⟩ rfl rfl hl.1 rfl (lv_room (Nat.le_of_ble_eq_true rfl)) d_kr_init_42 ⟨Nat.le_of_ble_eq_true rfl, Nat.le_of_ble_eq_true rfl⟩) hS (fun q _ h => hFc q h) hFc (fun u t H1 locs ht hvm hw hB hz1 hk1 hS => ?_)
    subst hw
    obtain ⟨hP1, hK1, hD1⟩ := hB
    rw [ht] at hP1
    obtain ⟨hP, hD⟩ := va_join (wr := [(ak, .inr (0, [.int k, .ref q_3, .int 0, .null, .null, .null]))]) (w1 := [(q_3, .inl (cA_3, (20 * nk), .inl (f_ja_fill (20 * nk) (fun _ => 0) (-1))))]) hP hD [1] [0] rfl rfl (by decide) (by decide) hk1 hFc hP1 hD1
    generalize H1 = H at hP hS ⊢
    have hP := hP.sub (ws' := [(ak, .inr (0, [.int k, .ref q_3, .int 0, .null, .null, .null])), (q_3, .inl (cA_3, (20 * nk), .inl (f_ja_fill (20 * nk) (fun _ => 0) (-1))))]) [0, 1] rfl
    have hD := hD.sub (ws' := [(ak, .inr (0, [.int k, .ref q_3, .int 0, .null, .null, .null])), (q_3, .inl (cA_3, (20 * nk), .inl (f_ja_fill (20 * nk) (fun _ => 0) (-1))))]) [0, 1] (by decide) rfl
    clear hP1 hK1 hD1 hk1 hz1 hFc hDc hPc hKc
    refine lv_aload_n hx hb d_kr_init_45 rfl (lv_at hl 0 rfl) ?_
    refine lv_iconst (v := 0) hx hb d_kr_init_46 (by decide) ?_
    refine va_put (D := (dC, dI)) (ci := 0) (v := .int 0) (ty := .int) (C := R_kr) (T := F_kr) (N := 6) hx hb hT i_kr t_kr t_kr_ok n_kr hown hK hP hD hS 0 rfl rfl 2 (by decide) (hT _ k_16) (fun _ h9 => h9) rfl (by decide +kernel) rfl rfl (Nat.le_of_ble_eq_true rfl) d_kr_init_47 (fun H locs hP hD hS => ?_)
    have hP : va_P (dC, dI) classes [(ak, .inr (0, [.int k, .ref q_3, .int 0, .null, .null, .null])), (q_3, .inl (cA_3, (20 * nk), .inl (f_ja_fill (20 * nk) (fun _ => 0) (-1))))] H := hP
    have hD : va_D A [(ak, .inr (0, [.int k, .ref q_3, .int 0, .null, .null, .null])), (q_3, .inl (cA_3, (20 * nk), .inl (f_ja_fill (20 * nk) (fun _ => 0) (-1))))] := hD
    refine lv_aload_n hx hb d_kr_init_50 rfl (lv_at hl 0 rfl) ?_
    refine va_new (ci := 1) (fs := [.null, .null, .int 0]) (C := R_kv) (T := F_kv) (N := 3) hx hb hT i_kv t_kv t_kv_ok hown (hT _ k_197) (hT _ k_198) (hT _ k_2) hK hP hD hS hA rfl (fun j hj => by rcases (show j = 0 ∨ j = 1 ∨ j = 2 by omega) with rfl | rfl | rfl <;> rfl) (Nat.le_of_ble_eq_true rfl) (Nat.le_of_ble_eq_true rfl) d_kr_init_51 (fun q_4 H hP hD hS => ?_)
    have hP : va_P (dC, dI) classes [(ak, .inr (0, [.int k, .ref q_3, .int 0, .null, .null, .null])), (q_3, .inl (cA_3, (20 * nk), .inl (f_ja_fill (20 * nk) (fun _ => 0) (-1)))), (q_4, .inr (1, [.null, .null, .int 0]))] H := hP
    have hD : va_D A [(ak, .inr (0, [.int k, .ref q_3, .int 0, .null, .null, .null])), (q_3, .inl (cA_3, (20 * nk), .inl (f_ja_fill (20 * nk) (fun _ => 0) (-1)))), (q_4, .inr (1, [.null, .null, .int 0]))] := hD
    refine W.widen (k := 2) (n := 323) (Nat.le_of_ble_eq_true rfl) (Nat.le_of_ble_eq_true rfl) ?_
    refine lv_dup hx hb d_kr_init_54 rfl ?_
    have hPc := hP.sub (ws' := [(q_4, .inr (1, [.null, .null, .int 0]))]) [2] rfl
    have hKc := hK.sub (tys' := []) [] rfl
    have hDc := hD.sub (ws' := [(q_4, .inr (1, [.null, .null, .int 0]))]) [2] (by decide) rfl
    have hFc := va_free (wc := [(q_4, .inr (1, [.null, .null, .int 0]))]) hD hS hA [2] rfl
    refine va_callv (va_runIN (As := []) (rest := [.ref q_4, .ref ak]) ⟨hx, hb, hml, hown, hT⟩ (c_kv_init l dC dI H.size q_4) ⟨va_cnB 0 hT (kt_G k_200) rfl rfl rfl (hN _ n_0) (hT _ k_2) (by decide +kernel) ⟨Nat.le_of_ble_eq_true rfl, Nat.le_of_ble_eq_true rfl⟩, rfl, hT _ k_199⟩ ⟨bl_M, fun U hU hW => ⟨rfl, by rw [hU], by rw [hU]; exact hPc, va_K.moved hW.alike hKc, hDc.weaken (fun _ _ _ _ => trivial)⟩⟩ rfl rfl hl.1 rfl (lv_room (Nat.le_of_ble_eq_true rfl)) d_kr_init_55 ⟨Nat.le_of_ble_eq_true rfl, Nat.le_of_ble_eq_true rfl⟩) hS (fun q _ h => hFc q h) hFc (fun u t H1 locs ht hvm hw hB hz1 hk1 hS => ?_)
    obtain ⟨a1, a2, cU, cL, hP1, hK1, hD1⟩ := hB
    rw [ht] at hP1
    have hK1 := va_K.moved hvm.symm hK1
    obtain ⟨hP, hD⟩ := va_join (wr := [(ak, .inr (0, [.int k, .ref q_3, .int 0, .null, .null, .null])), (q_3, .inl (cA_3, (20 * nk), .inl (f_ja_fill (20 * nk) (fun _ => 0) (-1))))]) (w1 := [(q_4, .inr (1, [.ref a1, .ref a2, .int 0])), (a1, .inl (cU, 300, .inl (fun _ => 0))), (a2, .inl (cL, 300, .inl (fun _ => 0)))]) hP hD [2] [0, 1] rfl rfl (by decide) (by decide) hk1 hFc hP1 hD1
    have hK := hK.app hK1
    have hK : va_K (dC, dI) classes [(cA_3, .int), (cU, .int), (cL, .int)] s := hK
    generalize H1 = H at hP hS ⊢
    have hP : va_P (dC, dI) classes [(ak, .inr (0, [.int k, .ref q_3, .int 0, .null, .null, .null])), (q_3, .inl (cA_3, (20 * nk), .inl (f_ja_fill (20 * nk) (fun _ => 0) (-1)))), (q_4, .inr (1, [.ref a1, .ref a2, .int 0])), (a1, .inl (cU, 300, .inl (fun _ => 0))), (a2, .inl (cL, 300, .inl (fun _ => 0)))] H := hP
    have hD : va_D A [(ak, .inr (0, [.int k, .ref q_3, .int 0, .null, .null, .null])), (q_3, .inl (cA_3, (20 * nk), .inl (f_ja_fill (20 * nk) (fun _ => 0) (-1)))), (q_4, .inr (1, [.ref a1, .ref a2, .int 0])), (a1, .inl (cU, 300, .inl (fun _ => 0))), (a2, .inl (cL, 300, .inl (fun _ => 0)))] := hD
    clear hP1 hK1 hD1 hk1 hz1 hFc hDc hPc hKc
    refine W.widen (k := 4) (n := 923) (Nat.le_of_ble_eq_true rfl) (Nat.le_of_ble_eq_true rfl) ?_
    refine va_putF (D := (dC, dI)) (ci := 0) (v := .ref q_4) (ty := .object "KilogramRows$Values") (C := R_kr) (T := F_kr) (N := 6) hx hb hT i_kr t_kr t_kr_ok n_kr hown hK hP hD hS 0 rfl rfl 3 (by decide) (hT _ k_19) (fun _ h9 => h9) rfl hin rfl (by decide +kernel) rfl rfl (Nat.le_of_ble_eq_true rfl) d_kr_init_58 (fun H locs hP hD hS => ?_)
    have hP : va_P (dC, dI) classes [(ak, .inr (0, [.int k, .ref q_3, .int 0, .ref q_4, .null, .null])), (q_3, .inl (cA_3, (20 * nk), .inl (f_ja_fill (20 * nk) (fun _ => 0) (-1)))), (q_4, .inr (1, [.ref a1, .ref a2, .int 0])), (a1, .inl (cU, 300, .inl (fun _ => 0))), (a2, .inl (cL, 300, .inl (fun _ => 0)))] H := hP
    have hD : va_D A [(ak, .inr (0, [.int k, .ref q_3, .int 0, .ref q_4, .null, .null])), (q_3, .inl (cA_3, (20 * nk), .inl (f_ja_fill (20 * nk) (fun _ => 0) (-1)))), (q_4, .inr (1, [.ref a1, .ref a2, .int 0])), (a1, .inl (cU, 300, .inl (fun _ => 0))), (a2, .inl (cL, 300, .inl (fun _ => 0)))] := hD
    refine lv_aload_n hx hb d_kr_init_61 rfl (lv_at hl 0 rfl) ?_
    refine va_new (ci := 2) (fs := [.null, .null, .null, .null, .null, .int 0]) (C := R_ks) (T := F_ks) (N := 6) hx hb hT i_ks t_ks t_ks_ok hown (hT _ k_201) (hT _ k_202) (hT _ k_82) hK hP hD hS hA rfl (fun j hj => by rcases (show j = 0 ∨ j = 1 ∨ j = 2 ∨ j = 3 ∨ j = 4 ∨ j = 5 by omega) with rfl | rfl | rfl | rfl | rfl | rfl <;> rfl) (Nat.le_of_ble_eq_true rfl) (Nat.le_of_ble_eq_true rfl) d_kr_init_62 (fun q_5 H hP hD hS => ?_)
    have hP : va_P (dC, dI) classes [(ak, .inr (0, [.int k, .ref q_3, .int 0, .ref q_4, .null, .null])), (q_3, .inl (cA_3, (20 * nk), .inl (f_ja_fill (20 * nk) (fun _ => 0) (-1)))), (q_4, .inr (1, [.ref a1, .ref a2, .int 0])), (a1, .inl (cU, 300, .inl (fun _ => 0))), (a2, .inl (cL, 300, .inl (fun _ => 0))), (q_5, .inr (2, [.null, .null, .null, .null, .null, .int 0]))] H := hP
    have hD : va_D A [(ak, .inr (0, [.int k, .ref q_3, .int 0, .ref q_4, .null, .null])), (q_3, .inl (cA_3, (20 * nk), .inl (f_ja_fill (20 * nk) (fun _ => 0) (-1)))), (q_4, .inr (1, [.ref a1, .ref a2, .int 0])), (a1, .inl (cU, 300, .inl (fun _ => 0))), (a2, .inl (cL, 300, .inl (fun _ => 0))), (q_5, .inr (2, [.null, .null, .null, .null, .null, .int 0]))] := hD
    refine W.widen (k := 5) (n := 929) (Nat.le_of_ble_eq_true rfl) (Nat.le_of_ble_eq_true rfl) ?_
    refine lv_dup hx hb d_kr_init_65 rfl ?_
    have hPc := hP.sub (ws' := [(q_5, .inr (2, [.null, .null, .null, .null, .null, .int 0]))]) [5] rfl
    have hKc := hK.sub (tys' := []) [] rfl
    have hDc := hD.sub (ws' := [(q_5, .inr (2, [.null, .null, .null, .null, .null, .int 0]))]) [5] (by decide) rfl
    have hFc := va_free (wc := [(q_5, .inr (2, [.null, .null, .null, .null, .null, .int 0]))]) hD hS hA [5] rfl
    refine va_callv (va_runIN (As := []) (rest := [.ref q_5, .ref ak]) ⟨hx, hb, hml, hown, hT⟩ (c_ks_init l dC dI H.size q_5 cI cJ) ⟨va_cnB 0 hT (kt_G k_204) rfl rfl rfl (hN _ n_1) (hT _ k_82) (by decide +kernel) ⟨Nat.le_of_ble_eq_true rfl, Nat.le_of_ble_eq_true rfl⟩, rfl, hT _ k_203⟩ ⟨bl_MR, fun U hU hW => ⟨rfl, by rw [hU], by rw [hU]; exact hPc, va_K.moved hW.alike hKc, hDc.weaken (fun _ _ _ _ => trivial), hRR.warm hW⟩⟩ rfl rfl hl.1 rfl (lv_room (Nat.le_of_ble_eq_true rfl)) d_kr_init_66 ⟨Nat.le_of_ble_eq_true rfl, Nat.le_of_ble_eq_true rfl⟩) hS (fun q _ h => hFc q h) hFc (fun u t H1 locs ht hvm hw hB hz1 hk1 hS => ?_)
    obtain ⟨e0, w0, pv, su, sl, er, wr, cE, cW, cP, cSu, cSl, hP1, hK1, hD1⟩ := hB
    rw [ht] at hP1
    have hK1 := va_K.moved hvm.symm hK1
    obtain ⟨hP, hD⟩ := va_join (wr := [(ak, .inr (0, [.int k, .ref q_3, .int 0, .ref q_4, .null, .null])), (q_3, .inl (cA_3, (20 * nk), .inl (f_ja_fill (20 * nk) (fun _ => 0) (-1)))), (q_4, .inr (1, [.ref a1, .ref a2, .int 0])), (a1, .inl (cU, 300, .inl (fun _ => 0))), (a2, .inl (cL, 300, .inl (fun _ => 0)))]) (w1 := (ks_ws q_5 e0 w0 pv su sl er wr cE cW cP cSu cSl cI cJ (fun _ => 0) (fun _ => 0) (fun _ => 0) (fun _ _ => 0) (fun _ _ => 0) 0)) hP hD [5] [0, 1, 2, 3, 4] rfl rfl (by decide) (by decide) hk1 hFc hP1 hD1
    have hK := hK.app hK1
    have hK : va_K (dC, dI) classes [(cA_3, .int), (cU, .int), (cL, .int), (cE, .array .int), (cW, .array .long), (cP, .int), (cSu, .long), (cSl, .long), (cI, .int), (cJ, .long)] s := hK
    generalize H1 = H at hP hS ⊢
    have hP : va_P (dC, dI) classes ((ak, .inr (0, [.int k, .ref q_3, .int 0, .ref q_4, .null, .null])) :: (q_3, .inl (cA_3, (20 * nk), .inl (f_ja_fill (20 * nk) (fun _ => 0) (-1)))) :: (q_4, .inr (1, [.ref a1, .ref a2, .int 0])) :: (a1, .inl (cU, 300, .inl (fun _ => 0))) :: (a2, .inl (cL, 300, .inl (fun _ => 0))) :: ks_ws q_5 e0 w0 pv su sl er wr cE cW cP cSu cSl cI cJ (fun _ => 0) (fun _ => 0) (fun _ => 0) (fun _ _ => 0) (fun _ _ => 0) 0) H := hP
    have hD : va_D A ((ak, .inr (0, [.int k, .ref q_3, .int 0, .ref q_4, .null, .null])) :: (q_3, .inl (cA_3, (20 * nk), .inl (f_ja_fill (20 * nk) (fun _ => 0) (-1)))) :: (q_4, .inr (1, [.ref a1, .ref a2, .int 0])) :: (a1, .inl (cU, 300, .inl (fun _ => 0))) :: (a2, .inl (cL, 300, .inl (fun _ => 0))) :: ks_ws q_5 e0 w0 pv su sl er wr cE cW cP cSu cSl cI cJ (fun _ => 0) (fun _ => 0) (fun _ => 0) (fun _ _ => 0) (fun _ _ => 0) 0) := hD
    clear hP1 hK1 hD1 hk1 hz1 hFc hDc hPc hKc
    refine W.widen (k := 18) (n := 989) (Nat.le_of_ble_eq_true rfl) (Nat.le_of_ble_eq_true rfl) ?_
    refine va_putF (D := (dC, dI)) (ci := 0) (v := .ref q_5) (ty := .object "KilogramRows$ShareSystem") (C := R_kr) (T := F_kr) (N := 6) hx hb hT i_kr t_kr t_kr_ok n_kr hown hK hP hD hS 0 rfl rfl 4 (by decide) (hT _ k_98) (fun _ h9 => h9) rfl hin rfl (by decide +kernel) rfl rfl (Nat.le_of_ble_eq_true rfl) d_kr_init_69 (fun H locs hP hD hS => ?_)
    have hP : va_P (dC, dI) classes ((ak, .inr (0, [.int k, .ref q_3, .int 0, .ref q_4, .ref q_5, .null])) :: (q_3, .inl (cA_3, (20 * nk), .inl (f_ja_fill (20 * nk) (fun _ => 0) (-1)))) :: (q_4, .inr (1, [.ref a1, .ref a2, .int 0])) :: (a1, .inl (cU, 300, .inl (fun _ => 0))) :: (a2, .inl (cL, 300, .inl (fun _ => 0))) :: ks_ws q_5 e0 w0 pv su sl er wr cE cW cP cSu cSl cI cJ (fun _ => 0) (fun _ => 0) (fun _ => 0) (fun _ _ => 0) (fun _ _ => 0) 0) H := hP
    have hD : va_D A ((ak, .inr (0, [.int k, .ref q_3, .int 0, .ref q_4, .ref q_5, .null])) :: (q_3, .inl (cA_3, (20 * nk), .inl (f_ja_fill (20 * nk) (fun _ => 0) (-1)))) :: (q_4, .inr (1, [.ref a1, .ref a2, .int 0])) :: (a1, .inl (cU, 300, .inl (fun _ => 0))) :: (a2, .inl (cL, 300, .inl (fun _ => 0))) :: ks_ws q_5 e0 w0 pv su sl er wr cE cW cP cSu cSl cI cJ (fun _ => 0) (fun _ => 0) (fun _ => 0) (fun _ _ => 0) (fun _ _ => 0) 0) := hD
    refine lv_aload_n hx hb d_kr_init_72 rfl (lv_at hl 0 rfl) ?_
    refine va_new (ci := 3) (fs := [.null, .int 0, .long 0]) (C := R_kw) (T := F_kw) (N := 3) hx hb hT i_kw t_kw t_kw_ok hown (hT _ k_205) (hT _ k_206) (hT _ k_67) hK hP hD hS hA rfl (fun j hj => by rcases (show j = 0 ∨ j = 1 ∨ j = 2 by omega) with rfl | rfl | rfl <;> rfl) (Nat.le_of_ble_eq_true rfl) (Nat.le_of_ble_eq_true rfl) d_kr_init_73 (fun q_6 H hP hD hS => ?_)
    have hP : va_P (dC, dI) classes [(ak, .inr (0, [.int k, .ref q_3, .int 0, .ref q_4, .ref q_5, .null])), (q_3, .inl (cA_3, (20 * nk), .inl (f_ja_fill (20 * nk) (fun _ => 0) (-1)))), (q_4, .inr (1, [.ref a1, .ref a2, .int 0])), (a1, .inl (cU, 300, .inl (fun _ => 0))), (a2, .inl (cL, 300, .inl (fun _ => 0))), (q_5, .inr (2, [.ref e0, .ref w0, .ref pv, .ref su, .ref sl, .int 0])), (e0, .inl (cE, 4, .inr (.inr (.inr (.inr (kx_out er)))))), (w0, .inl (cW, 4, .inr (.inr (.inr (.inr (kx_out wr)))))), (pv, .inl (cP, 4, .inl (fun _ => 0))), (su, .inl (cSu, 4, .inr (.inl (fun _ => 0)))), (sl, .inl (cSl, 4, .inr (.inl (fun _ => 0)))), (er 0, .inl (cI, 5, .inl ((fun _ _ => 0) 0))), (er 1, .inl (cI, 5, .inl ((fun _ _ => 0) 1))), (er 2, .inl (cI, 5, .inl ((fun _ _ => 0) 2))), (er 3, .inl (cI, 5, .inl ((fun _ _ => 0) 3))), (wr 0, .inl (cJ, 5, .inr (.inl ((fun _ _ => 0) 0)))), (wr 1, .inl (cJ, 5, .inr (.inl ((fun _ _ => 0) 1)))), (wr 2, .inl (cJ, 5, .inr (.inl ((fun _ _ => 0) 2)))), (wr 3, .inl (cJ, 5, .inr (.inl ((fun _ _ => 0) 3)))), (q_6, .inr (3, [.null, .int 0, .long 0]))] H := hP
    have hD : va_D A [(ak, .inr (0, [.int k, .ref q_3, .int 0, .ref q_4, .ref q_5, .null])), (q_3, .inl (cA_3, (20 * nk), .inl (f_ja_fill (20 * nk) (fun _ => 0) (-1)))), (q_4, .inr (1, [.ref a1, .ref a2, .int 0])), (a1, .inl (cU, 300, .inl (fun _ => 0))), (a2, .inl (cL, 300, .inl (fun _ => 0))), (q_5, .inr (2, [.ref e0, .ref w0, .ref pv, .ref su, .ref sl, .int 0])), (e0, .inl (cE, 4, .inr (.inr (.inr (.inr (kx_out er)))))), (w0, .inl (cW, 4, .inr (.inr (.inr (.inr (kx_out wr)))))), (pv, .inl (cP, 4, .inl (fun _ => 0))), (su, .inl (cSu, 4, .inr (.inl (fun _ => 0)))), (sl, .inl (cSl, 4, .inr (.inl (fun _ => 0)))), (er 0, .inl (cI, 5, .inl ((fun _ _ => 0) 0))), (er 1, .inl (cI, 5, .inl ((fun _ _ => 0) 1))), (er 2, .inl (cI, 5, .inl ((fun _ _ => 0) 2))), (er 3, .inl (cI, 5, .inl ((fun _ _ => 0) 3))), (wr 0, .inl (cJ, 5, .inr (.inl ((fun _ _ => 0) 0)))), (wr 1, .inl (cJ, 5, .inr (.inl ((fun _ _ => 0) 1)))), (wr 2, .inl (cJ, 5, .inr (.inl ((fun _ _ => 0) 2)))), (wr 3, .inl (cJ, 5, .inr (.inl ((fun _ _ => 0) 3)))), (q_6, .inr (3, [.null, .int 0, .long 0]))] := hD
    refine W.widen (k := 19) (n := 992) (Nat.le_of_ble_eq_true rfl) (Nat.le_of_ble_eq_true rfl) ?_
    refine lv_dup hx hb d_kr_init_76 rfl ?_
    have hPc := hP.sub (ws' := [(q_6, .inr (3, [.null, .int 0, .long 0]))]) [19] rfl
    have hKc := hK.sub (tys' := []) [] rfl
    have hDc := hD.sub (ws' := [(q_6, .inr (3, [.null, .int 0, .long 0]))]) [19] (by decide) rfl
    have hFc := va_free (wc := [(q_6, .inr (3, [.null, .int 0, .long 0]))]) hD hS hA [19] rfl
    refine va_callv (va_runIN (As := []) (rest := [.ref q_6, .ref ak]) ⟨hx, hb, hml, hown, hT⟩ (c_kw_init l dC dI H.size q_6) ⟨va_cnB 0 hT (kt_G k_208) rfl rfl rfl (hN _ n_2) (hT _ k_67) (by decide +kernel) ⟨Nat.le_of_ble_eq_true rfl, Nat.le_of_ble_eq_true rfl⟩, rfl, hT _ k_207⟩ ⟨bl_M, fun U hU hW => ⟨rfl, by rw [hU], by rw [hU]; exact hPc, va_K.moved hW.alike hKc, hDc.weaken (fun _ _ _ _ => trivial)⟩⟩ rfl rfl hl.1 rfl (lv_room (Nat.le_of_ble_eq_true rfl)) d_kr_init_77 ⟨Nat.le_of_ble_eq_true rfl, Nat.le_of_ble_eq_true rfl⟩) hS (fun q _ h => hFc q h) hFc (fun u t H1 locs ht hvm hw hB hz1 hk1 hS => ?_)
    obtain ⟨a_z, cZ, hP1, hK1, hD1⟩ := hB
    rw [ht] at hP1
    have hK1 := va_K.moved hvm.symm hK1
    obtain ⟨hP, hD⟩ := va_join (wr := ((ak, .inr (0, [.int k, .ref q_3, .int 0, .ref q_4, .ref q_5, .null])) :: (q_3, .inl (cA_3, (20 * nk), .inl (f_ja_fill (20 * nk) (fun _ => 0) (-1)))) :: (q_4, .inr (1, [.ref a1, .ref a2, .int 0])) :: (a1, .inl (cU, 300, .inl (fun _ => 0))) :: (a2, .inl (cL, 300, .inl (fun _ => 0))) :: ks_ws q_5 e0 w0 pv su sl er wr cE cW cP cSu cSl cI cJ (fun _ => 0) (fun _ => 0) (fun _ => 0) (fun _ _ => 0) (fun _ _ => 0) 0)) (w1 := [(q_6, .inr (3, [.ref a_z, .int 0, .long 0])), (a_z, .inl (cZ, 12, .inl (fun _ => 0)))]) hP hD [19] [0, 1, 2, 3, 4, 5, 6, 7, 8, 9, 10, 11, 12, 13, 14, 15, 16, 17, 18] rfl rfl (by decide) (by decide) hk1 hFc hP1 hD1
    have hK := hK.app hK1
    have hK : va_K (dC, dI) classes [(cA_3, .int), (cU, .int), (cL, .int), (cE, .array .int), (cW, .array .long), (cP, .int), (cSu, .long), (cSl, .long), (cI, .int), (cJ, .long), (cZ, .int)] s := hK
    generalize H1 = H at hP hS ⊢
    have hP : va_P (dC, dI) classes [(ak, .inr (0, [.int k, .ref q_3, .int 0, .ref q_4, .ref q_5, .null])), (q_3, .inl (cA_3, (20 * nk), .inl (f_ja_fill (20 * nk) (fun _ => 0) (-1)))), (q_4, .inr (1, [.ref a1, .ref a2, .int 0])), (a1, .inl (cU, 300, .inl (fun _ => 0))), (a2, .inl (cL, 300, .inl (fun _ => 0))), (q_5, .inr (2, [.ref e0, .ref w0, .ref pv, .ref su, .ref sl, .int 0])), (e0, .inl (cE, 4, .inr (.inr (.inr (.inr (kx_out er)))))), (w0, .inl (cW, 4, .inr (.inr (.inr (.inr (kx_out wr)))))), (pv, .inl (cP, 4, .inl (fun _ => 0))), (su, .inl (cSu, 4, .inr (.inl (fun _ => 0)))), (sl, .inl (cSl, 4, .inr (.inl (fun _ => 0)))), (er 0, .inl (cI, 5, .inl ((fun _ _ => 0) 0))), (er 1, .inl (cI, 5, .inl ((fun _ _ => 0) 1))), (er 2, .inl (cI, 5, .inl ((fun _ _ => 0) 2))), (er 3, .inl (cI, 5, .inl ((fun _ _ => 0) 3))), (wr 0, .inl (cJ, 5, .inr (.inl ((fun _ _ => 0) 0)))), (wr 1, .inl (cJ, 5, .inr (.inl ((fun _ _ => 0) 1)))), (wr 2, .inl (cJ, 5, .inr (.inl ((fun _ _ => 0) 2)))), (wr 3, .inl (cJ, 5, .inr (.inl ((fun _ _ => 0) 3)))), (q_6, .inr (3, [.ref a_z, .int 0, .long 0])), (a_z, .inl (cZ, 12, .inl (fun _ => 0)))] H := hP
    have hD : va_D A [(ak, .inr (0, [.int k, .ref q_3, .int 0, .ref q_4, .ref q_5, .null])), (q_3, .inl (cA_3, (20 * nk), .inl (f_ja_fill (20 * nk) (fun _ => 0) (-1)))), (q_4, .inr (1, [.ref a1, .ref a2, .int 0])), (a1, .inl (cU, 300, .inl (fun _ => 0))), (a2, .inl (cL, 300, .inl (fun _ => 0))), (q_5, .inr (2, [.ref e0, .ref w0, .ref pv, .ref su, .ref sl, .int 0])), (e0, .inl (cE, 4, .inr (.inr (.inr (.inr (kx_out er)))))), (w0, .inl (cW, 4, .inr (.inr (.inr (.inr (kx_out wr)))))), (pv, .inl (cP, 4, .inl (fun _ => 0))), (su, .inl (cSu, 4, .inr (.inl (fun _ => 0)))), (sl, .inl (cSl, 4, .inr (.inl (fun _ => 0)))), (er 0, .inl (cI, 5, .inl ((fun _ _ => 0) 0))), (er 1, .inl (cI, 5, .inl ((fun _ _ => 0) 1))), (er 2, .inl (cI, 5, .inl ((fun _ _ => 0) 2))), (er 3, .inl (cI, 5, .inl ((fun _ _ => 0) 3))), (wr 0, .inl (cJ, 5, .inr (.inl ((fun _ _ => 0) 0)))), (wr 1, .inl (cJ, 5, .inr (.inl ((fun _ _ => 0) 1)))), (wr 2, .inl (cJ, 5, .inr (.inl ((fun _ _ => 0) 2)))), (wr 3, .inl (cJ, 5, .inr (.inl ((fun _ _ => 0) 3)))), (q_6, .inr (3, [.ref a_z, .int 0, .long 0])), (a_z, .inl (cZ, 12, .inl (fun _ => 0)))] := hD
    clear hP1 hK1 hD1 hk1 hz1 hFc hDc hPc hKc
    refine W.widen (k := 20) (n := 1004) (Nat.le_of_ble_eq_true rfl) (Nat.le_of_ble_eq_true rfl) ?_
    refine va_putF (D := (dC, dI)) (ci := 0) (v := .ref q_6) (ty := .object "KilogramRows$Weights") (C := R_kr) (T := F_kr) (N := 6) hx hb hT i_kr t_kr t_kr_ok n_kr hown hK hP hD hS 0 rfl rfl 5 (by decide) (hT _ k_65) (fun _ h9 => h9) rfl hin rfl (by decide +kernel) rfl rfl (Nat.le_of_ble_eq_true rfl) d_kr_init_80 (fun H locs hP hD hS => ?_)
    have hP : va_P (dC, dI) classes [(ak, .inr (0, [.int k, .ref q_3, .int 0, .ref q_4, .ref q_5, .ref q_6])), (q_3, .inl (cA_3, (20 * nk), .inl (f_ja_fill (20 * nk) (fun _ => 0) (-1)))), (q_4, .inr (1, [.ref a1, .ref a2, .int 0])), (a1, .inl (cU, 300, .inl (fun _ => 0))), (a2, .inl (cL, 300, .inl (fun _ => 0))), (q_5, .inr (2, [.ref e0, .ref w0, .ref pv, .ref su, .ref sl, .int 0])), (e0, .inl (cE, 4, .inr (.inr (.inr (.inr (kx_out er)))))), (w0, .inl (cW, 4, .inr (.inr (.inr (.inr (kx_out wr)))))), (pv, .inl (cP, 4, .inl (fun _ => 0))), (su, .inl (cSu, 4, .inr (.inl (fun _ => 0)))), (sl, .inl (cSl, 4, .inr (.inl (fun _ => 0)))), (er 0, .inl (cI, 5, .inl ((fun _ _ => 0) 0))), (er 1, .inl (cI, 5, .inl ((fun _ _ => 0) 1))), (er 2, .inl (cI, 5, .inl ((fun _ _ => 0) 2))), (er 3, .inl (cI, 5, .inl ((fun _ _ => 0) 3))), (wr 0, .inl (cJ, 5, .inr (.inl ((fun _ _ => 0) 0)))), (wr 1, .inl (cJ, 5, .inr (.inl ((fun _ _ => 0) 1)))), (wr 2, .inl (cJ, 5, .inr (.inl ((fun _ _ => 0) 2)))), (wr 3, .inl (cJ, 5, .inr (.inl ((fun _ _ => 0) 3)))), (q_6, .inr (3, [.ref a_z, .int 0, .long 0])), (a_z, .inl (cZ, 12, .inl (fun _ => 0)))] H := hP
    have hD : va_D A [(ak, .inr (0, [.int k, .ref q_3, .int 0, .ref q_4, .ref q_5, .ref q_6])), (q_3, .inl (cA_3, (20 * nk), .inl (f_ja_fill (20 * nk) (fun _ => 0) (-1)))), (q_4, .inr (1, [.ref a1, .ref a2, .int 0])), (a1, .inl (cU, 300, .inl (fun _ => 0))), (a2, .inl (cL, 300, .inl (fun _ => 0))), (q_5, .inr (2, [.ref e0, .ref w0, .ref pv, .ref su, .ref sl, .int 0])), (e0, .inl (cE, 4, .inr (.inr (.inr (.inr (kx_out er)))))), (w0, .inl (cW, 4, .inr (.inr (.inr (.inr (kx_out wr)))))), (pv, .inl (cP, 4, .inl (fun _ => 0))), (su, .inl (cSu, 4, .inr (.inl (fun _ => 0)))), (sl, .inl (cSl, 4, .inr (.inl (fun _ => 0)))), (er 0, .inl (cI, 5, .inl ((fun _ _ => 0) 0))), (er 1, .inl (cI, 5, .inl ((fun _ _ => 0) 1))), (er 2, .inl (cI, 5, .inl ((fun _ _ => 0) 2))), (er 3, .inl (cI, 5, .inl ((fun _ _ => 0) 3))), (wr 0, .inl (cJ, 5, .inr (.inl ((fun _ _ => 0) 0)))), (wr 1, .inl (cJ, 5, .inr (.inl ((fun _ _ => 0) 1)))), (wr 2, .inl (cJ, 5, .inr (.inl ((fun _ _ => 0) 2)))), (wr 3, .inl (cJ, 5, .inr (.inl ((fun _ _ => 0) 3)))), (q_6, .inr (3, [.ref a_z, .int 0, .long 0])), (a_z, .inl (cZ, 12, .inl (fun _ => 0)))] := hD
    have hP := hP.sub (ws' := ((ak, .inr (0, [.int k, .ref q_3, .int 0, .ref q_4, .ref q_5, .ref q_6])) :: (q_3, .inl (cA_3, (20 * nk), .inl (f_ja_fill (20 * nk) (fun _ => 0) (-1)))) :: (q_4, .inr (1, [.ref a1, .ref a2, .int 0])) :: (a1, .inl (cU, 300, .inl (fun _ => 0))) :: (a2, .inl (cL, 300, .inl (fun _ => 0))) :: (q_6, .inr (3, [.ref a_z, .int 0, .long 0])) :: (a_z, .inl (cZ, 12, .inl (fun _ => 0))) :: ks_ws q_5 e0 w0 pv su sl er wr cE cW cP cSu cSl cI cJ (fun _ => 0) (fun _ => 0) (fun _ => 0) (fun _ _ => 0) (fun _ _ => 0) 0)) [0, 1, 2, 3, 4, 19, 20, 5, 6, 7, 8, 9, 10, 11, 12, 13, 14, 15, 16, 17, 18] rfl
    have hD := hD.sub (ws' := ((ak, .inr (0, [.int k, .ref q_3, .int 0, .ref q_4, .ref q_5, .ref q_6])) :: (q_3, .inl (cA_3, (20 * nk), .inl (f_ja_fill (20 * nk) (fun _ => 0) (-1)))) :: (q_4, .inr (1, [.ref a1, .ref a2, .int 0])) :: (a1, .inl (cU, 300, .inl (fun _ => 0))) :: (a2, .inl (cL, 300, .inl (fun _ => 0))) :: (q_6, .inr (3, [.ref a_z, .int 0, .long 0])) :: (a_z, .inl (cZ, 12, .inl (fun _ => 0))) :: ks_ws q_5 e0 w0 pv su sl er wr cE cW cP cSu cSl cI cJ (fun _ => 0) (fun _ => 0) (fun _ => 0) (fun _ _ => 0) (fun _ _ => 0) 0)) [0, 1, 2, 3, 4, 19, 20, 5, 6, 7, 8, 9, 10, 11, 12, 13, 14, 15, 16, 17, 18] (by decide) rfl
    have hK := hK.sub (tys' := [(cA_3, .int), (cU, .int), (cL, .int), (cZ, .int), (cE, .array .int), (cW, .array .long), (cP, .int), (cSu, .long), (cSl, .long), (cI, .int), (cJ, .long)]) [0, 1, 2, 10, 3, 4, 5, 6, 7, 8, 9] rfl
    refine W.widen (k := 20) (n := 1004) (Nat.le_of_ble_eq_true rfl) (Nat.le_of_ble_eq_true rfl) ?_
    exact W.vret hx hb hr (fun t ht hW => ⟨⟨(), rfl, trivial, q_3, q_4, a1, a2, q_6, a_z, q_5, e0, w0, pv, su, sl, er, wr, cA_3, cU, cL, cZ, cE, cW, cP, cSu, cSl, by rw [ht, ← hkx, hnk]; exact hP, va_K.moved hW.alike hK, by rw [← hkx, hnk]; exact hD⟩, hS.F ht⟩) hS.2.2 d_kr_init_83
  refine lv_aload_n hx hb d_kr_init_0 rfl (lv_at hl 0 rfl) ?_
  refine W.objInit hx hb hown (hT _ k_192) (hT _ k_123) (hT _ k_124) rfl (by rw [hml]; exact hl.1) rfl d_kr_init_1 (Nat.le_of_ble_eq_true rfl) (Nat.le_of_ble_eq_true rfl) ?_
  refine W.eq (g2 := F0 m 4 ls []) rfl ?_
  refine lv_aload_n hx hb d_kr_init_4 rfl (lv_at hl 0 rfl) ?_
  refine lv_iload_n hx hb d_kr_init_5 rfl (lv_at hl 1 rfl) ?_
  refine lv_iconst (v := 1) hx hb d_kr_init_6 (by decide) ?_
  refine lv_icmp_lt (tgt := 20) hx hb d_kr_init_7 (by decide) (fun c_1 => ?_) (fun c_1 => ?_)
  · refine lv_iconst (v := 1) hx hb d_kr_init_20 (by decide) ?_
    exact seg _ (by unfold f_kr_kinds; rw [if_pos c_1]) ls (lv_sub hl [0] rfl)
  · refine lv_iload_n hx hb d_kr_init_10 rfl (lv_at hl 1 rfl) ?_
    refine lv_bipush (v := 16) hx hb d_kr_init_11 (by decide) ?_
    refine lv_icmp_gt (tgt := 20) hx hb d_kr_init_13 (by decide) (fun c_2 => ?_) (fun c_2 => ?_)
    · refine lv_iconst (v := 1) hx hb d_kr_init_20 (by decide) ?_
      exact seg _ (by unfold f_kr_kinds; rw [if_neg c_1, if_pos c_2]) ls (lv_sub hl [0] rfl)
    · refine lv_iload_n hx hb d_kr_init_16 rfl (lv_at hl 1 rfl) ?_
      refine lv_goto (tgt := 21) hx hb d_kr_init_17 (by decide) ?_
      exact seg _ (by unfold f_kr_kinds; rw [if_neg c_1, if_neg c_2]) ls (lv_sub hl [0] rfl)
