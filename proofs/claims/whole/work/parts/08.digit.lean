abbrev b_kr_digit : ByteArray := prog_1_method_10_code
def y_kr_digit : MethodName := ⟨R_kr, "digit", "(III)I"⟩
def w_kr_digit : List Cond := .code y_kr_digit b_kr_digit 6 (some .int) :: kt_T
theorem d_kr_digit_0 : decode b_kr_digit 0 = .ok (.aload_n 0, 1) := by decide +kernel
theorem d_kr_digit_1 : decode b_kr_digit 1 = .ok (.getfield 29, 3) := by decide +kernel
theorem d_kr_digit_4 : decode b_kr_digit 4 = .ok (.iload_n 1, 1) := by decide +kernel
theorem d_kr_digit_5 : decode b_kr_digit 5 = .ok (.invokevirtual 58, 3) := by decide +kernel
theorem d_kr_digit_8 : decode b_kr_digit 8 = .ok (.ifCond .eq 20, 3) := by decide +kernel
theorem d_kr_digit_11 : decode b_kr_digit 11 = .ok (.iload_n 2, 1) := by decide +kernel
theorem d_kr_digit_12 : decode b_kr_digit 12 = .ok (.invokestatic 62, 3) := by decide +kernel
theorem d_kr_digit_15 : decode b_kr_digit 15 = .ok (.ifCond .eq 13, 3) := by decide +kernel
theorem d_kr_digit_18 : decode b_kr_digit 18 = .ok (.iload_n 3, 1) := by decide +kernel
theorem d_kr_digit_19 : decode b_kr_digit 19 = .ok (.ifCond .lt 9, 3) := by decide +kernel
theorem d_kr_digit_22 : decode b_kr_digit 22 = .ok (.iload_n 3, 1) := by decide +kernel
theorem d_kr_digit_23 : decode b_kr_digit 23 = .ok (.bipush 10, 2) := by decide +kernel
theorem d_kr_digit_25 : decode b_kr_digit 25 = .ok (.if_icmp .lt 5, 3) := by decide +kernel
theorem d_kr_digit_28 : decode b_kr_digit 28 = .ok (.iconst (-1), 1) := by decide +kernel
theorem d_kr_digit_29 : decode b_kr_digit 29 = .ok (.ireturn, 1) := by decide +kernel
theorem d_kr_digit_30 : decode b_kr_digit 30 = .ok (.aload_n 0, 1) := by decide +kernel
theorem d_kr_digit_31 : decode b_kr_digit 31 = .ok (.getfield 29, 3) := by decide +kernel
theorem d_kr_digit_34 : decode b_kr_digit 34 = .ok (.iload_n 1, 1) := by decide +kernel
theorem d_kr_digit_35 : decode b_kr_digit 35 = .ok (.iload_n 2, 1) := by decide +kernel
theorem d_kr_digit_36 : decode b_kr_digit 36 = .ok (.invokevirtual 70, 3) := by decide +kernel
theorem d_kr_digit_39 : decode b_kr_digit 39 = .ok (.invokestatic 104, 3) := by decide +kernel
theorem d_kr_digit_42 : decode b_kr_digit 42 = .ok (.istore 4, 2) := by decide +kernel
theorem d_kr_digit_44 : decode b_kr_digit 44 = .ok (.iconst 0, 1) := by decide +kernel
theorem d_kr_digit_45 : decode b_kr_digit 45 = .ok (.istore 5, 2) := by decide +kernel
theorem d_kr_digit_47 : decode b_kr_digit 47 = .ok (.iload 5, 2) := by decide +kernel
theorem d_kr_digit_49 : decode b_kr_digit 49 = .ok (.iload_n 3, 1) := by decide +kernel
theorem d_kr_digit_50 : decode b_kr_digit 50 = .ok (.if_icmp .ge 16, 3) := by decide +kernel
theorem d_kr_digit_53 : decode b_kr_digit 53 = .ok (.iload 4, 2) := by decide +kernel
theorem d_kr_digit_55 : decode b_kr_digit 55 = .ok (.bipush 10, 2) := by decide +kernel
theorem d_kr_digit_57 : decode b_kr_digit 57 = .ok (.idiv, 1) := by decide +kernel
theorem d_kr_digit_58 : decode b_kr_digit 58 = .ok (.istore 4, 2) := by decide +kernel
theorem d_kr_digit_60 : decode b_kr_digit 60 = .ok (.iinc 5 1, 3) := by decide +kernel
theorem d_kr_digit_63 : decode b_kr_digit 63 = .ok (.goto (-16), 3) := by decide +kernel
theorem d_kr_digit_66 : decode b_kr_digit 66 = .ok (.iload_n 3, 1) := by decide +kernel
theorem d_kr_digit_67 : decode b_kr_digit 67 = .ok (.ifCond .le 12, 3) := by decide +kernel
theorem d_kr_digit_70 : decode b_kr_digit 70 = .ok (.iload 4, 2) := by decide +kernel
theorem d_kr_digit_72 : decode b_kr_digit 72 = .ok (.ifCond .ne 7, 3) := by decide +kernel
theorem d_kr_digit_75 : decode b_kr_digit 75 = .ok (.iconst (-1), 1) := by decide +kernel
theorem d_kr_digit_76 : decode b_kr_digit 76 = .ok (.goto 8, 3) := by decide +kernel
theorem d_kr_digit_79 : decode b_kr_digit 79 = .ok (.iload 4, 2) := by decide +kernel
theorem d_kr_digit_81 : decode b_kr_digit 81 = .ok (.bipush 10, 2) := by decide +kernel
theorem d_kr_digit_83 : decode b_kr_digit 83 = .ok (.irem, 1) := by decide +kernel
theorem d_kr_digit_84 : decode b_kr_digit 84 = .ok (.ireturn, 1) := by decide +kernel
theorem k_49 : (.code y_kr_isPart b_kr_isPart 1 (some .boolean) : Cond) ∈ kt_T := List.mem_filter.mpr ⟨List.mem_of_getElem? (i := 188) (by decide +kernel), by decide +kernel⟩
theorem k_50 : (.static y_kr_isPart : Cond) ∈ kt_T := List.mem_filter.mpr ⟨List.mem_of_getElem? (i := 187) (by decide +kernel), by decide +kernel⟩
theorem k_51 : (.methodLink R_kr 62 y_kr_isPart : Cond) ∈ kt_T := List.mem_filter.mpr ⟨List.mem_of_getElem? (i := 186) (by decide +kernel), by decide +kernel⟩
theorem k_52 : (.code y_kv_partOf b_kv_partOf 3 (some .int) : Cond) ∈ kt_T := List.mem_filter.mpr ⟨List.mem_of_getElem? (i := 192) (by decide +kernel), by decide +kernel⟩
theorem k_53 : (.instanceMethod y_kv_partOf : Cond) ∈ kt_T := List.mem_filter.mpr ⟨List.mem_of_getElem? (i := 190) (by decide +kernel), by decide +kernel⟩
theorem k_54 : (.selects R_kv y_kv_partOf y_kv_partOf : Cond) ∈ kt_T := List.mem_filter.mpr ⟨List.mem_of_getElem? (i := 191) (by decide +kernel), by decide +kernel⟩
theorem k_55 : (.methodLink R_kr 70 y_kv_partOf : Cond) ∈ kt_T := List.mem_filter.mpr ⟨List.mem_of_getElem? (i := 189) (by decide +kernel), by decide +kernel⟩
theorem k_56 : (.code y_jm_abs b_jm_abs 1 (some .int) : Cond) ∈ kt_T := List.mem_filter.mpr ⟨List.mem_of_getElem? (i := 195) (by decide +kernel), by decide +kernel⟩
theorem k_57 : (.static y_jm_abs : Cond) ∈ kt_T := List.mem_filter.mpr ⟨List.mem_of_getElem? (i := 194) (by decide +kernel), by decide +kernel⟩
theorem k_58 : (.methodLink R_kr 104 y_jm_abs : Cond) ∈ kt_T := List.mem_filter.mpr ⟨List.mem_of_getElem? (i := 193) (by decide +kernel), by decide +kernel⟩
def digL : Nat → Int32 → Int32
  | 0, r => r
  | n + 1, r => digL n (r / 10)
def kr_digitE (i : Int32) (r : Int32) : Int32 :=
  if i ≤ 0 then (r - r / 10 * 10) else if r = 0 then (-1) else (r - r / 10 * 10)
set_option maxHeartbeats 4000000 in
theorem tl_kr_digit {p : Program} {l : Launch} {e : Env} {R : Room} {s : State} {m : MethodId} {args : Array Value} {below : List Frame} {meth : Method} {c : Code} (hx : p.tables.exec = Jvm.exec) (hb : c.code = b_kr_digit) (hr : meth.sig.returnType = (some .int)) (hlocks : meth.locks = false) {post : Int32 → Prop} {i r : Int32} (hq : post (kr_digitE i r)) {ls : Array Slot} (hl : lv_has ls 6 [(3, .int i), (4, .int r)]) :
    W p l e R s m args below meth c s.heap [] 0 0 (MQ below (vp_Si post) args s 0 0 (fun _ => False)) (F0 m 66 ls []) := by
  refine lv_iload_n hx hb d_kr_digit_66 rfl (lv_at hl 0 rfl) ?_
  refine lv_if_le (tgt := 79) hx hb d_kr_digit_67 (by decide) (fun c_1 => ?_) (fun c_1 => ?_)
  · refine lv_iload hx hb d_kr_digit_79 (lv_at hl 1 rfl) ?_
    refine lv_bipush (v := 10) hx hb d_kr_digit_81 (by decide) ?_
    refine lv_irem hx hb d_kr_digit_83 (by decide) ?_
    exact W.iret (v := r - r / 10 * 10) hx hb hr (fun t ht hW => ⟨_, rfl, by unfold kr_digitE at hq; rw [if_pos c_1] at hq; exact hq, ht⟩) t_nil d_kr_digit_84
  · refine lv_iload hx hb d_kr_digit_70 (lv_at hl 1 rfl) ?_
    refine lv_if_ne (tgt := 79) hx hb d_kr_digit_72 (by decide) (fun c_2 => ?_) (fun c_2 => ?_)
    · refine lv_iload hx hb d_kr_digit_79 (lv_at hl 1 rfl) ?_
      refine lv_bipush (v := 10) hx hb d_kr_digit_81 (by decide) ?_
      refine lv_irem hx hb d_kr_digit_83 (by decide) ?_
      exact W.iret (v := r - r / 10 * 10) hx hb hr (fun t ht hW => ⟨_, rfl, by unfold kr_digitE at hq; rw [if_neg c_1, if_neg c_2] at hq; exact hq, ht⟩) t_nil d_kr_digit_84
    · refine lv_iconst (v := (-1)) hx hb d_kr_digit_75 (by decide) ?_
      refine lv_goto (tgt := 84) hx hb d_kr_digit_76 (by decide) ?_
      exact W.iret (v := (-1)) hx hb hr (fun t ht hW => ⟨_, rfl, by unfold kr_digitE at hq; rw [if_neg c_1, if_pos c_2] at hq; exact hq, ht⟩) t_nil d_kr_digit_84
set_option maxHeartbeats 4000000 in
theorem lp_kr_digit {p : Program} {l : Launch} {e : Env} {R : Room} {s : State} {m : MethodId} {args : Array Value} {below : List Frame} {meth : Method} {c : Code} (hx : p.tables.exec = Jvm.exec) (hb : c.code = b_kr_digit) (hr : meth.sig.returnType = (some .int)) (hlocks : meth.locks = false) {post : Int32 → Prop} {i : Int32} {N : Nat} (hN : N < 10) (hi : i = nI N) :
    ∀ (n j : Nat) (r : Int32), j + n = N → post (kr_digitE i (digL n r)) → ∀ {ls : Array Slot}, lv_has ls 6 [(3, .int i), (4, .int r), (5, .int (nI j))] → W p l e R s m args below meth c s.heap [] 0 0 (MQ below (vp_Si post) args s 0 0 (fun _ => False)) (F0 m 47 ls []) := by
  intro n
  induction n with
  | zero =>
    intro j r hj hq ls hl
    refine lv_iload hx hb d_kr_digit_47 (lv_at hl 2 rfl) ?_
    refine lv_iload_n hx hb d_kr_digit_49 rfl (lv_at hl 0 rfl) ?_
    refine lv_icmp_ge (tgt := 66) hx hb d_kr_digit_50 (by decide) (fun c_3 => ?_) (fun c_3 => ?_)
    · exact tl_kr_digit hx hb hr hlocks hq (lv_sub hl [0, 1] rfl)
    · exact absurd (by rw [hi, ← hj]; exact nI_le (Nat.le_refl _) (by omega)) c_3
  | succ n ih =>
    intro j r hj hq ls hl
    refine lv_iload hx hb d_kr_digit_47 (lv_at hl 2 rfl) ?_
    refine lv_iload_n hx hb d_kr_digit_49 rfl (lv_at hl 0 rfl) ?_
    refine lv_icmp_ge (tgt := 66) hx hb d_kr_digit_50 (by decide) (fun c_4 => ?_) (fun c_4 => ?_)
    · exact absurd c_4 (by rw [hi]; exact nI_ge (by omega) (by omega))
    · refine lv_iload hx hb d_kr_digit_53 (lv_at hl 1 rfl) ?_
      refine lv_bipush (v := 10) hx hb d_kr_digit_55 (by decide) ?_
      refine lv_idiv hx hb d_kr_digit_57 (by decide) ?_
      refine lv_istore (lv' := [(4, .int (r / 10)), (3, .int i), (5, .int (nI j))]) hx hb d_kr_digit_58 hl (by decide) rfl (fun ls hl => ?_)
      refine lv_iinc (v := (nI j) + 1) (lv' := [(5, .int ((nI j) + 1)), (4, .int (r / 10)), (3, .int i)]) hx hb d_kr_digit_60 hl (k := 2) rfl rfl (by decide) rfl (fun ls hl => ?_)
      refine lv_goto (tgt := 47) hx hb d_kr_digit_63 (by decide) ?_
      exact ih (j + 1) (r / 10) (by omega) hq (by have h9 := lv_sub hl [2, 1, 0] rfl; rw [nI_1] at h9; exact h9)
def f_kr_digit (cnt : Int32) (fu : Nat → Int32) (fl : Nat → Int32) (a : Int32) (q : Int32) (i : Int32) : Int32 :=
  if (f_kv_has cnt a) = 0 then (-1) else if (f_kr_isPart q) = 0 then (-1) else if i < 0 then (-1) else if i < 10 then (kr_digitE i (digL i.toNatClampNeg (f_jm_abs (f_kv_partOf fu fl a q)))) else (-1)
set_option maxHeartbeats 4000000 in
set_option maxRecDepth 100000 in
theorem c_kr_digit (l : Launch) (dC : Nat → ClassId) (dI : Nat → Nat → Nat) (ak : Nat) (a0 : Nat) (a1 : Nat) (a2 : Nat) (kinds : Int32) (ac : Nat) (rowc : Int32) (a_s : Nat) (a_w : Nat) (cnt : Int32) (cU : ClassId) (fu : Nat → Int32) (cL : ClassId) (fl : Nat → Int32) (a : Int32) (q : Int32) (i : Int32) (hc : vp_in cnt 301) : Met l y_kr_digit w_kr_digit ({ frames := 1, cells := 0, slots := 0, locals := 22 }) (va_Pc [.ref ak, .int a, .int q, .int i] (fun U => va_P (dC, dI) classes [(ak, .inr (0, [.int kinds, .ref ac, .int rowc, .ref a0, .ref a_s, .ref a_w])), (a0, .inr (1, [.ref a1, .ref a2, .int cnt])), (a1, .inl (cU, 300, .inl fu)), (a2, .inl (cL, 300, .inl fl))] U.heap ∧ va_K (dC, dI) classes [(cU, .int), (cL, .int)] U)) (vp_Si (fun z9 => z9 = f_kr_digit cnt fu fl a q i)) 0 0 (fun _ => False) := by
  refine Met.ofW (cc := b_kr_digit) (maxL := 6) (ret := (some .int)) (by decide +kernel) rfl ?_
  intro p e s m args below meth c s₁ B hml hv
  obtain ⟨rfl, hP, hK⟩ := hv
  have hx := B.exec
  have hb := B.bytes
  have hr := B.returns
  have hts := atoms_spec (ws := w_kr_digit) B.pre
  have hT := fun (w : Cond) (h : w ∈ kt_T) => hts w (List.mem_cons_of_mem _ h)
  have hown : s.vm.findClass R_kr = some m.cls := findClass_of_methodNamed B.named
  have hlocks := B.notSynchronized
  have hl := lv_entry ([.ref ak, .int a, .int q, .int i]) (n := 6) (Nat.le_of_ble_eq_true rfl)
  rw [lg_entry_eq]
  generalize (lg_sl ([.ref ak, .int a, .int q, .int i]) ++ List.replicate (6 - (lg_sl ([.ref ak, .int a, .int q, .int i])).length) Slot.unset).toArray = ls at hl ⊢
  have hl : lv_has ls 6 [(0, .ref ak), (1, .int a), (2, .int q), (3, .int i)] := hl
  refine lv_aload_n hx hb d_kr_digit_0 rfl (lv_at hl 0 rfl) ?_
  refine va_get (D := (dC, dI)) (ci := 0) (v := .ref a0) (C := R_kr) (T := F_kr) (N := 6) hx hb hT i_kr hown hK hP 0 rfl rfl 3 (by decide) (hT _ k_19) (fun _ h9 => h9) rfl d_kr_digit_1 ?_
  refine lv_iload_n hx hb d_kr_digit_4 rfl (lv_at hl 1 rfl) ?_
  have hPc := hP.sub (ws' := [(a0, .inr (1, [.ref a1, .ref a2, .int cnt])), (a1, .inl (cU, 300, .inl fu)), (a2, .inl (cL, 300, .inl fl))]) [1, 2, 3] rfl
  have hKc := hK.sub (tys' := [(cU, .int), (cL, .int)]) [0, 1] rfl
  refine vp_callSi (W.runV (As := [.int a]) (rest := []) ⟨hx, hb, hml, hown, hT⟩ (c_kv_has l dC dI a0 a1 a2 cnt cU fu cL fl a) (cwV 1 hT (kt_V k_36 k_3 k_4 k_2 k_1) rfl rfl rfl (by decide +kernel) ⟨Nat.le_of_ble_eq_true rfl, Nat.le_of_ble_eq_true rfl⟩) ⟨bl_R, va_recv hKc hPc (ci := 1) (q0 := 0) rfl rfl, fun U hU hW => ⟨rfl, by rw [hU]; exact hPc, va_K.moved hW.alike hKc⟩⟩ rfl rfl hl.1 rfl (lv_room (Nat.le_of_ble_eq_true rfl)) d_kr_digit_5 ⟨Nat.zero_le _, Nat.zero_le _⟩) (fun r_1 e_r_1 => ?_)
  subst e_r_1
  refine lv_if_eq (tgt := 28) hx hb d_kr_digit_8 (by decide) (fun c_2 => ?_) (fun c_2 => ?_)
  · refine lv_iconst (v := (-1)) hx hb d_kr_digit_28 (by decide) ?_
    exact W.iret (v := (-1)) hx hb hr (fun t ht hW => ⟨_, rfl, by unfold f_kr_digit; rw [if_pos c_2], ht⟩) t_nil d_kr_digit_29
  · refine lv_iload_n hx hb d_kr_digit_11 rfl (lv_at hl 2 rfl) ?_
    refine vp_callSi (W.runS (As := [.int q]) (rest := []) ⟨hx, hb, hml, hown, hT⟩ (c_kr_isPart l q) (va_cwS 1 hT (kt_S k_51 k_50 k_11 k_49) rfl rfl rfl (by decide +kernel) ⟨Nat.le_of_ble_eq_true rfl, Nat.le_of_ble_eq_true rfl⟩) ⟨bl_S, fun U hU hW => ⟨rfl, trivial⟩⟩ rfl rfl hl.1 rfl (lv_room (Nat.le_of_ble_eq_true rfl)) d_kr_digit_12 ⟨Nat.zero_le _, Nat.zero_le _⟩) (fun r_3 e_r_3 => ?_)
    subst e_r_3
    refine lv_if_eq (tgt := 28) hx hb d_kr_digit_15 (by decide) (fun c_4 => ?_) (fun c_4 => ?_)
    · refine lv_iconst (v := (-1)) hx hb d_kr_digit_28 (by decide) ?_
      exact W.iret (v := (-1)) hx hb hr (fun t ht hW => ⟨_, rfl, by unfold f_kr_digit; rw [if_neg c_2, if_pos c_4], ht⟩) t_nil d_kr_digit_29
    · refine lv_iload_n hx hb d_kr_digit_18 rfl (lv_at hl 3 rfl) ?_
      refine lv_if_lt (tgt := 28) hx hb d_kr_digit_19 (by decide) (fun c_5 => ?_) (fun c_5 => ?_)
      · refine lv_iconst (v := (-1)) hx hb d_kr_digit_28 (by decide) ?_
        exact W.iret (v := (-1)) hx hb hr (fun t ht hW => ⟨_, rfl, by unfold f_kr_digit; rw [if_neg c_2, if_neg c_4, if_pos c_5], ht⟩) t_nil d_kr_digit_29
      · refine lv_iload_n hx hb d_kr_digit_22 rfl (lv_at hl 3 rfl) ?_
        refine lv_bipush (v := 10) hx hb d_kr_digit_23 (by decide) ?_
        refine lv_icmp_lt (tgt := 30) hx hb d_kr_digit_25 (by decide) (fun c_6 => ?_) (fun c_6 => ?_)
        · refine lv_aload_n hx hb d_kr_digit_30 rfl (lv_at hl 0 rfl) ?_
          refine va_get (D := (dC, dI)) (ci := 0) (v := .ref a0) (C := R_kr) (T := F_kr) (N := 6) hx hb hT i_kr hown hK hP 0 rfl rfl 3 (by decide) (hT _ k_19) (fun _ h9 => h9) rfl d_kr_digit_31 ?_
          refine lv_iload_n hx hb d_kr_digit_34 rfl (lv_at hl 1 rfl) ?_
          refine lv_iload_n hx hb d_kr_digit_35 rfl (lv_at hl 2 rfl) ?_
          have hPc := hP.sub (ws' := [(a0, .inr (1, [.ref a1, .ref a2, .int cnt])), (a1, .inl (cU, 300, .inl fu)), (a2, .inl (cL, 300, .inl fl))]) [1, 2, 3] rfl
          have hKc := hK.sub (tys' := [(cU, .int), (cL, .int)]) [0, 1] rfl
          refine vp_callSi (W.runV (As := [.int a, .int q]) (rest := []) ⟨hx, hb, hml, hown, hT⟩ (c_kv_partOf l dC dI a0 a1 a2 cnt cU fu cL fl a q (in_has hc c_2)) (cwV 2 hT (kt_V k_55 k_53 k_54 k_2 k_52) rfl rfl rfl (by decide +kernel) ⟨Nat.le_of_ble_eq_true rfl, Nat.le_of_ble_eq_true rfl⟩) ⟨bl_R, va_recv hKc hPc (ci := 1) (q0 := 0) rfl rfl, fun U hU hW => ⟨rfl, by rw [hU]; exact hPc, va_K.moved hW.alike hKc⟩⟩ rfl rfl hl.1 rfl (lv_room (Nat.le_of_ble_eq_true rfl)) d_kr_digit_36 ⟨Nat.zero_le _, Nat.zero_le _⟩) (fun r_7 e_r_7 => ?_)
          subst e_r_7
          refine vp_callSi (W.runS (As := [.int (f_kv_partOf fu fl a q)]) (rest := []) ⟨hx, hb, hml, hown, hT⟩ (c_jm_abs l (f_kv_partOf fu fl a q)) (va_cwS 1 hT (kt_S k_58 k_57 k_40 k_56) rfl rfl rfl (by decide +kernel) ⟨Nat.le_of_ble_eq_true rfl, Nat.le_of_ble_eq_true rfl⟩) ⟨bl_S, fun U hU hW => ⟨rfl, trivial⟩⟩ rfl rfl hl.1 rfl (lv_room (Nat.le_of_ble_eq_true rfl)) d_kr_digit_39 ⟨Nat.zero_le _, Nat.zero_le _⟩) (fun r_8 e_r_8 => ?_)
          subst e_r_8
          refine lv_istore (lv' := [(4, .int (f_jm_abs (f_kv_partOf fu fl a q))), (0, .ref ak), (1, .int a), (2, .int q), (3, .int i)]) hx hb d_kr_digit_42 hl (by decide) rfl (fun ls hl => ?_)
          refine lv_iconst (v := 0) hx hb d_kr_digit_44 (by decide) ?_
          refine lv_istore (lv' := [(5, .int 0), (4, .int (f_jm_abs (f_kv_partOf fu fl a q))), (0, .ref ak), (1, .int a), (2, .int q), (3, .int i)]) hx hb d_kr_digit_45 hl (by decide) rfl (fun ls hl => ?_)
          obtain ⟨hi1, hi2⟩ := nI_self c_5
          exact lp_kr_digit (post := fun r => r = f_kr_digit cnt fu fl a q i) hx hb hr hlocks (nI_lt_of c_5 (by decide) c_6) hi1 i.toNatClampNeg 0 (f_jm_abs (f_kv_partOf fu fl a q)) (Nat.zero_add _) (by unfold f_kr_digit; rw [if_neg c_2, if_neg c_4, if_neg c_5, if_pos c_6]) (lv_sub hl [5, 1, 0] rfl)
        · refine lv_iconst (v := (-1)) hx hb d_kr_digit_28 (by decide) ?_
          exact W.iret (v := (-1)) hx hb hr (fun t ht hW => ⟨_, rfl, by unfold f_kr_digit; rw [if_neg c_2, if_neg c_4, if_neg c_5, if_neg c_6], ht⟩) t_nil d_kr_digit_29
