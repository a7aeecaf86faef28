abbrev b_kr_round : ByteArray := prog_1_method_9_code
def y_kr_round : MethodName := ⟨R_kr, "round", "(IIJ)J"⟩
def w_kr_round : List Cond := .code y_kr_round b_kr_round 11 (some .long) :: kt_T
theorem d_kr_round_0 : decode b_kr_round 0 = .ok (.aload_n 0, 1) := by decide +kernel
theorem d_kr_round_1 : decode b_kr_round 1 = .ok (.getfield 29, 3) := by decide +kernel
theorem d_kr_round_4 : decode b_kr_round 4 = .ok (.iload_n 1, 1) := by decide +kernel
theorem d_kr_round_5 : decode b_kr_round 5 = .ok (.invokevirtual 58, 3) := by decide +kernel
theorem d_kr_round_8 : decode b_kr_round 8 = .ok (.ifCond .eq 12, 3) := by decide +kernel
theorem d_kr_round_11 : decode b_kr_round 11 = .ok (.iload_n 2, 1) := by decide +kernel
theorem d_kr_round_12 : decode b_kr_round 12 = .ok (.ifCond .lt 8, 3) := by decide +kernel
theorem d_kr_round_15 : decode b_kr_round 15 = .ok (.iload_n 2, 1) := by decide +kernel
theorem d_kr_round_16 : decode b_kr_round 16 = .ok (.iconst 3, 1) := by decide +kernel
theorem d_kr_round_17 : decode b_kr_round 17 = .ok (.if_icmp .le 7, 3) := by decide +kernel
theorem d_kr_round_20 : decode b_kr_round 20 = .ok (.ldc2_w 87, 3) := by decide +kernel
theorem d_kr_round_23 : decode b_kr_round 23 = .ok (.lreturn, 1) := by decide +kernel
theorem d_kr_round_24 : decode b_kr_round 24 = .ok (.lload_n 3, 1) := by decide +kernel
theorem d_kr_round_25 : decode b_kr_round 25 = .ok (.lconst 1, 1) := by decide +kernel
theorem d_kr_round_26 : decode b_kr_round 26 = .ok (.lcmp, 1) := by decide +kernel
theorem d_kr_round_27 : decode b_kr_round 27 = .ok (.ifCond .lt 11, 3) := by decide +kernel
theorem d_kr_round_30 : decode b_kr_round 30 = .ok (.lload_n 3, 1) := by decide +kernel
theorem d_kr_round_31 : decode b_kr_round 31 = .ok (.ldc2_w 89, 3) := by decide +kernel
theorem d_kr_round_34 : decode b_kr_round 34 = .ok (.lcmp, 1) := by decide +kernel
theorem d_kr_round_35 : decode b_kr_round 35 = .ok (.ifCond .le 7, 3) := by decide +kernel
theorem d_kr_round_38 : decode b_kr_round 38 = .ok (.ldc2_w 87, 3) := by decide +kernel
theorem d_kr_round_41 : decode b_kr_round 41 = .ok (.lreturn, 1) := by decide +kernel
theorem d_kr_round_42 : decode b_kr_round 42 = .ok (.aload_n 0, 1) := by decide +kernel
theorem d_kr_round_43 : decode b_kr_round 43 = .ok (.getfield 29, 3) := by decide +kernel
theorem d_kr_round_46 : decode b_kr_round 46 = .ok (.iload_n 1, 1) := by decide +kernel
theorem d_kr_round_47 : decode b_kr_round 47 = .ok (.invokevirtual 82, 3) := by decide +kernel
theorem d_kr_round_50 : decode b_kr_round 50 = .ok (.lload_n 3, 1) := by decide +kernel
theorem d_kr_round_51 : decode b_kr_round 51 = .ok (.lmul, 1) := by decide +kernel
theorem d_kr_round_52 : decode b_kr_round 52 = .ok (.lstore 5, 2) := by decide +kernel
theorem d_kr_round_54 : decode b_kr_round 54 = .ok (.lload 5, 2) := by decide +kernel
theorem d_kr_round_56 : decode b_kr_round 56 = .ok (.lconst 1, 1) := by decide +kernel
theorem d_kr_round_57 : decode b_kr_round 57 = .ok (.lcmp, 1) := by decide +kernel
theorem d_kr_round_58 : decode b_kr_round 58 = .ok (.ifCond .ge 7, 3) := by decide +kernel
theorem d_kr_round_61 : decode b_kr_round 61 = .ok (.ldc2_w 87, 3) := by decide +kernel
theorem d_kr_round_64 : decode b_kr_round 64 = .ok (.lreturn, 1) := by decide +kernel
theorem d_kr_round_65 : decode b_kr_round 65 = .ok (.aload_n 0, 1) := by decide +kernel
theorem d_kr_round_66 : decode b_kr_round 66 = .ok (.getfield 29, 3) := by decide +kernel
theorem d_kr_round_69 : decode b_kr_round 69 = .ok (.iload_n 1, 1) := by decide +kernel
theorem d_kr_round_70 : decode b_kr_round 70 = .ok (.invokevirtual 78, 3) := by decide +kernel
theorem d_kr_round_73 : decode b_kr_round 73 = .ok (.lload 5, 2) := by decide +kernel
theorem d_kr_round_75 : decode b_kr_round 75 = .ok (.invokestatic 91, 3) := by decide +kernel
theorem d_kr_round_78 : decode b_kr_round 78 = .ok (.lstore 7, 2) := by decide +kernel
theorem d_kr_round_80 : decode b_kr_round 80 = .ok (.aload_n 0, 1) := by decide +kernel
theorem d_kr_round_81 : decode b_kr_round 81 = .ok (.getfield 29, 3) := by decide +kernel
theorem d_kr_round_84 : decode b_kr_round 84 = .ok (.iload_n 1, 1) := by decide +kernel
theorem d_kr_round_85 : decode b_kr_round 85 = .ok (.invokevirtual 78, 3) := by decide +kernel
theorem d_kr_round_88 : decode b_kr_round 88 = .ok (.lload 5, 2) := by decide +kernel
theorem d_kr_round_90 : decode b_kr_round 90 = .ok (.invokestatic 97, 3) := by decide +kernel
theorem d_kr_round_93 : decode b_kr_round 93 = .ok (.lstore 9, 2) := by decide +kernel
theorem d_kr_round_95 : decode b_kr_round 95 = .ok (.iload_n 2, 1) := by decide +kernel
theorem d_kr_round_96 : decode b_kr_round 96 = .ok (.lload 7, 2) := by decide +kernel
theorem d_kr_round_98 : decode b_kr_round 98 = .ok (.lload 9, 2) := by decide +kernel
theorem d_kr_round_100 : decode b_kr_round 100 = .ok (.lload 5, 2) := by decide +kernel
theorem d_kr_round_102 : decode b_kr_round 102 = .ok (.invokestatic 100, 3) := by decide +kernel
theorem d_kr_round_105 : decode b_kr_round 105 = .ok (.ifCond .eq 12, 3) := by decide +kernel
theorem d_kr_round_108 : decode b_kr_round 108 = .ok (.lload 7, 2) := by decide +kernel
theorem d_kr_round_110 : decode b_kr_round 110 = .ok (.lconst 1, 1) := by decide +kernel
theorem d_kr_round_111 : decode b_kr_round 111 = .ok (.ladd, 1) := by decide +kernel
theorem d_kr_round_112 : decode b_kr_round 112 = .ok (.lload_n 3, 1) := by decide +kernel
theorem d_kr_round_113 : decode b_kr_round 113 = .ok (.lmul, 1) := by decide +kernel
theorem d_kr_round_114 : decode b_kr_round 114 = .ok (.goto 7, 3) := by decide +kernel
theorem d_kr_round_117 : decode b_kr_round 117 = .ok (.lload 7, 2) := by decide +kernel
theorem d_kr_round_119 : decode b_kr_round 119 = .ok (.lload_n 3, 1) := by decide +kernel
theorem d_kr_round_120 : decode b_kr_round 120 = .ok (.lmul, 1) := by decide +kernel
theorem d_kr_round_121 : decode b_kr_round 121 = .ok (.lreturn, 1) := by decide +kernel
theorem k_36 : (.methodLink R_kr 58 y_kv_has : Cond) ∈ kt_T := List.mem_filter.mpr ⟨List.mem_of_getElem? (i := 169) (by decide +kernel), by decide +kernel⟩
theorem k_37 : (.constantLong R_kr 87 (-9223372036854775808) : Cond) ∈ kt_T := List.mem_filter.mpr ⟨List.mem_of_getElem? (i := 170) (by decide +kernel), by decide +kernel⟩
theorem k_38 : (.constantLong R_kr 89 1000000000 : Cond) ∈ kt_T := List.mem_filter.mpr ⟨List.mem_of_getElem? (i := 171) (by decide +kernel), by decide +kernel⟩
theorem k_39 : (.code y_jm_floorDiv b_jm_floorDiv 6 (some .long) : Cond) ∈ kt_T := List.mem_filter.mpr ⟨List.mem_of_getElem? (i := 174) (by decide +kernel), by decide +kernel⟩
theorem k_40 : (.initialized R_jm : Cond) ∈ kt_T := List.mem_filter.mpr ⟨List.mem_of_getElem? (i := 27) (by decide +kernel), by decide +kernel⟩
theorem k_41 : (.static y_jm_floorDiv : Cond) ∈ kt_T := List.mem_filter.mpr ⟨List.mem_of_getElem? (i := 173) (by decide +kernel), by decide +kernel⟩
theorem k_42 : (.methodLink R_kr 91 y_jm_floorDiv : Cond) ∈ kt_T := List.mem_filter.mpr ⟨List.mem_of_getElem? (i := 172) (by decide +kernel), by decide +kernel⟩
theorem k_43 : (.code y_jm_floorMod b_jm_floorMod 6 (some .long) : Cond) ∈ kt_T := List.mem_filter.mpr ⟨List.mem_of_getElem? (i := 177) (by decide +kernel), by decide +kernel⟩
theorem k_44 : (.static y_jm_floorMod : Cond) ∈ kt_T := List.mem_filter.mpr ⟨List.mem_of_getElem? (i := 176) (by decide +kernel), by decide +kernel⟩
theorem k_45 : (.methodLink R_kr 97 y_jm_floorMod : Cond) ∈ kt_T := List.mem_filter.mpr ⟨List.mem_of_getElem? (i := 175) (by decide +kernel), by decide +kernel⟩
theorem k_46 : (.code y_kr_goesUp b_kr_goesUp 7 (some .boolean) : Cond) ∈ kt_T := List.mem_filter.mpr ⟨List.mem_of_getElem? (i := 180) (by decide +kernel), by decide +kernel⟩
theorem k_47 : (.static y_kr_goesUp : Cond) ∈ kt_T := List.mem_filter.mpr ⟨List.mem_of_getElem? (i := 179) (by decide +kernel), by decide +kernel⟩
theorem k_48 : (.methodLink R_kr 100 y_kr_goesUp : Cond) ∈ kt_T := List.mem_filter.mpr ⟨List.mem_of_getElem? (i := 178) (by decide +kernel), by decide +kernel⟩
def f_kr_round (cnt : Int32) (fu : Nat → Int32) (fl : Nat → Int32) (a : Int32) (rule : Int32) (unit : Int64) : Int64 :=
  if (f_kv_has cnt a) = 0 then (-9223372036854775808) else if rule < 0 then (-9223372036854775808) else if rule ≤ 3 then if unit < 1 then (-9223372036854775808) else if unit ≤ 1000000000 then if 1 ≤ ((f_kv_lower fl a) * unit) then if (f_kr_goesUp rule (f_jm_floorDiv (f_kv_upper fu a) ((f_kv_lower fl a) * unit)) (f_jm_floorMod (f_kv_upper fu a) ((f_kv_lower fl a) * unit)) ((f_kv_lower fl a) * unit)) = 0 then ((f_jm_floorDiv (f_kv_upper fu a) ((f_kv_lower fl a) * unit)) * unit) else (((f_jm_floorDiv (f_kv_upper fu a) ((f_kv_lower fl a) * unit)) + 1) * unit) else (-9223372036854775808) else (-9223372036854775808) else (-9223372036854775808)
set_option maxHeartbeats 4000000 in
set_option maxRecDepth 100000 in
theorem c_kr_round (l : Launch) (dC : Nat → ClassId) (dI : Nat → Nat → Nat) (ak : Nat) (a0 : Nat) (a1 : Nat) (a2 : Nat) (kinds : Int32) (ac : Nat) (rowc : Int32) (a_s : Nat) (a_w : Nat) (cnt : Int32) (cU : ClassId) (fu : Nat → Int32) (cL : ClassId) (fl : Nat → Int32) (a : Int32) (rule : Int32) (unit : Int64) (hc : vp_in cnt 301) : Met l y_kr_round w_kr_round ({ frames := 1, cells := 0, slots := 0, locals := 26 }) (va_Pc [.ref ak, .int a, .int rule, .long unit] (fun U => va_P (dC, dI) classes [(ak, .inr (0, [.int kinds, .ref ac, .int rowc, .ref a0, .ref a_s, .ref a_w])), (a0, .inr (1, [.ref a1, .ref a2, .int cnt])), (a1, .inl (cU, 300, .inl fu)), (a2, .inl (cL, 300, .inl fl))] U.heap ∧ va_K (dC, dI) classes [(cU, .int), (cL, .int)] U)) (vp_Sl (fun z9 => z9 = f_kr_round cnt fu fl a rule unit)) 0 0 (fun _ => False) := by
  refine Met.ofW (cc := b_kr_round) (maxL := 11) (ret := (some .long)) (by decide +kernel) rfl ?_
  intro p e s m args below meth c s₁ B hml hv
  obtain ⟨rfl, hP, hK⟩ := hv
  have hx := B.exec
  have hb := B.bytes
  have hr := B.returns
  have hts := atoms_spec (ws := w_kr_round) B.pre
  have hT := fun (w : Cond) (h : w ∈ kt_T) => hts w (List.mem_cons_of_mem _ h)
  have hown : s.vm.findClass R_kr = some m.cls := findClass_of_methodNamed B.named
  have hlocks := B.notSynchronized
  have hl := lv_entry ([.ref ak, .int a, .int rule, .long unit]) (n := 11) (Nat.le_of_ble_eq_true rfl)
  rw [lg_entry_eq]
  generalize (lg_sl ([.ref ak, .int a, .int rule, .long unit]) ++ List.replicate (11 - (lg_sl ([.ref ak, .int a, .int rule, .long unit])).length) Slot.unset).toArray = ls at hl ⊢
  have hl : lv_has ls 11 [(0, .ref ak), (1, .int a), (2, .int rule), (3, .long unit)] := hl
  refine lv_aload_n hx hb d_kr_round_0 rfl (lv_at hl 0 rfl) ?_
  refine va_get (D := (dC, dI)) (ci := 0) (v := .ref a0) (C := R_kr) (T := F_kr) (N := 6) hx hb hT i_kr hown hK hP 0 rfl rfl 3 (by decide) (hT _ k_19) (fun _ h9 => h9) rfl d_kr_round_1 ?_
  refine lv_iload_n hx hb d_kr_round_4 rfl (lv_at hl 1 rfl) ?_
  have hPc := hP.sub (ws' := [(a0, .inr (1, [.ref a1, .ref a2, .int cnt])), (a1, .inl (cU, 300, .inl fu)), (a2, .inl (cL, 300, .inl fl))]) [1, 2, 3] rfl
  have hKc := hK.sub (tys' := [(cU, .int), (cL, .int)]) [0, 1] rfl
  refine vp_callSi (W.runV (As := [.int a]) (rest := []) ⟨hx, hb, hml, hown, hT⟩ (c_kv_has l dC dI a0 a1 a2 cnt cU fu cL fl a) (cwV 1 hT (kt_V k_36 k_3 k_4 k_2 k_1) rfl rfl rfl (by decide +kernel) ⟨Nat.le_of_ble_eq_true rfl, Nat.le_of_ble_eq_true rfl⟩) ⟨bl_R, va_recv hKc hPc (ci := 1) (q0 := 0) rfl rfl, fun U hU hW => ⟨rfl, by rw [hU]; exact hPc, va_K.moved hW.alike hKc⟩⟩ rfl rfl hl.1 rfl (lv_room (Nat.le_of_ble_eq_true rfl)) d_kr_round_5 ⟨Nat.zero_le _, Nat.zero_le _⟩) (fun r_1 e_r_1 => ?_)
  subst e_r_1
  refine lv_if_eq (tgt := 20) hx hb d_kr_round_8 (by decide) (fun c_2 => ?_) (fun c_2 => ?_)
  · refine lv_ldc2 (v := (-9223372036854775808)) hx hb hown (hT _ k_37) d_kr_round_20 ?_
    exact W.lret (v := (-9223372036854775808)) hx hb hr (fun t ht hW => ⟨_, rfl, by unfold f_kr_round; rw [if_pos c_2], ht⟩) t_nil d_kr_round_23
  · refine lv_iload_n hx hb d_kr_round_11 rfl (lv_at hl 2 rfl) ?_
    refine lv_if_lt (tgt := 20) hx hb d_kr_round_12 (by decide) (fun c_3 => ?_) (fun c_3 => ?_)
    · refine lv_ldc2 (v := (-9223372036854775808)) hx hb hown (hT _ k_37) d_kr_round_20 ?_
      exact W.lret (v := (-9223372036854775808)) hx hb hr (fun t ht hW => ⟨_, rfl, by unfold f_kr_round; rw [if_neg c_2, if_pos c_3], ht⟩) t_nil d_kr_round_23
    · refine lv_iload_n hx hb d_kr_round_15 rfl (lv_at hl 2 rfl) ?_
      refine lv_iconst (v := 3) hx hb d_kr_round_16 (by decide) ?_
      refine lv_icmp_le (tgt := 24) hx hb d_kr_round_17 (by decide) (fun c_4 => ?_) (fun c_4 => ?_)
      · refine lv_lload_n hx hb d_kr_round_24 rfl (lv_at hl 3 rfl) ?_
        refine lv_lconst (v := 1) hx hb d_kr_round_25 (by decide) ?_
        refine lx_iflt (tgt := 38) hx hb d_kr_round_26 d_kr_round_27 (by decide) (fun c_5 => ?_) (fun c_5 => ?_)
        · refine lv_ldc2 (v := (-9223372036854775808)) hx hb hown (hT _ k_37) d_kr_round_38 ?_
          exact W.lret (v := (-9223372036854775808)) hx hb hr (fun t ht hW => ⟨_, rfl, by unfold f_kr_round; rw [if_neg c_2, if_neg c_3, if_pos c_4, if_pos c_5], ht⟩) t_nil d_kr_round_41
        · refine lv_lload_n hx hb d_kr_round_30 rfl (lv_at hl 3 rfl) ?_
          refine lv_ldc2 (v := 1000000000) hx hb hown (hT _ k_38) d_kr_round_31 ?_
          refine lx_ifle (tgt := 42) hx hb d_kr_round_34 d_kr_round_35 (by decide) (fun c_6 => ?_) (fun c_6 => ?_)
          · refine lv_aload_n hx hb d_kr_round_42 rfl (lv_at hl 0 rfl) ?_
            refine va_get (D := (dC, dI)) (ci := 0) (v := .ref a0) (C := R_kr) (T := F_kr) (N := 6) hx hb hT i_kr hown hK hP 0 rfl rfl 3 (by decide) (hT _ k_19) (fun _ h9 => h9) rfl d_kr_round_43 ?_
            refine lv_iload_n hx hb d_kr_round_46 rfl (lv_at hl 1 rfl) ?_
            have hPc := hP.sub (ws' := [(a0, .inr (1, [.ref a1, .ref a2, .int cnt])), (a1, .inl (cU, 300, .inl fu)), (a2, .inl (cL, 300, .inl fl))]) [1, 2, 3] rfl
            have hKc := hK.sub (tys' := [(cU, .int), (cL, .int)]) [0, 1] rfl
            refine vp_callSl (W.runV (As := [.int a]) (rest := []) ⟨hx, hb, hml, hown, hT⟩ (c_kv_lower l dC dI a0 a1 a2 cnt cU fu cL fl a (in_has hc c_2)) (cwV 1 hT (kt_V k_31 k_29 k_30 k_2 k_28) rfl rfl rfl (by decide +kernel) ⟨Nat.le_of_ble_eq_true rfl, Nat.le_of_ble_eq_true rfl⟩) ⟨bl_R, va_recv hKc hPc (ci := 1) (q0 := 0) rfl rfl, fun U hU hW => ⟨rfl, by rw [hU]; exact hPc, va_K.moved hW.alike hKc⟩⟩ rfl rfl hl.1 rfl (lv_room (Nat.le_of_ble_eq_true rfl)) d_kr_round_47 ⟨Nat.zero_le _, Nat.zero_le _⟩) (fun r_7 e_r_7 => ?_)
            subst e_r_7
            refine lv_lload_n hx hb d_kr_round_50 rfl (lv_at hl 3 rfl) ?_
            refine lv_lmul hx hb d_kr_round_51 ?_
            refine lv_lstore (lv' := [(5, .long ((f_kv_lower fl a) * unit)), (0, .ref ak), (1, .int a), (2, .int rule), (3, .long unit)]) hx hb d_kr_round_52 hl (by decide) rfl (fun ls hl => ?_)
            refine lv_lload hx hb d_kr_round_54 (lv_at hl 0 rfl) ?_
            refine lv_lconst (v := 1) hx hb d_kr_round_56 (by decide) ?_
            refine lx_ifge (tgt := 65) hx hb d_kr_round_57 d_kr_round_58 (by decide) (fun c_8 => ?_) (fun c_8 => ?_)
            · refine lv_aload_n hx hb d_kr_round_65 rfl (lv_at hl 1 rfl) ?_
              refine va_get (D := (dC, dI)) (ci := 0) (v := .ref a0) (C := R_kr) (T := F_kr) (N := 6) hx hb hT i_kr hown hK hP 0 rfl rfl 3 (by decide) (hT _ k_19) (fun _ h9 => h9) rfl d_kr_round_66 ?_
              refine lv_iload_n hx hb d_kr_round_69 rfl (lv_at hl 2 rfl) ?_
              have hPc := hP.sub (ws' := [(a0, .inr (1, [.ref a1, .ref a2, .int cnt])), (a1, .inl (cU, 300, .inl fu)), (a2, .inl (cL, 300, .inl fl))]) [1, 2, 3] rfl
              have hKc := hK.sub (tys' := [(cU, .int), (cL, .int)]) [0, 1] rfl
              refine vp_callSl (W.runV (As := [.int a]) (rest := []) ⟨hx, hb, hml, hown, hT⟩ (c_kv_upper l dC dI a0 a1 a2 cnt cU fu cL fl a (in_has hc c_2)) (cwV 1 hT (kt_V k_27 k_25 k_26 k_2 k_24) rfl rfl rfl (by decide +kernel) ⟨Nat.le_of_ble_eq_true rfl, Nat.le_of_ble_eq_true rfl⟩) ⟨bl_R, va_recv hKc hPc (ci := 1) (q0 := 0) rfl rfl, fun U hU hW => ⟨rfl, by rw [hU]; exact hPc, va_K.moved hW.alike hKc⟩⟩ rfl rfl hl.1 rfl (lv_room (Nat.le_of_ble_eq_true rfl)) d_kr_round_70 ⟨Nat.zero_le _, Nat.zero_le _⟩) (fun r_9 e_r_9 => ?_)
              subst e_r_9
              refine lv_lload hx hb d_kr_round_73 (lv_at hl 0 rfl) ?_
              refine vp_callSl (W.runS (As := [.long (f_kv_upper fu a), .long ((f_kv_lower fl a) * unit)]) (rest := []) ⟨hx, hb, hml, hown, hT⟩ (c_jm_floorDiv l (f_kv_upper fu a) ((f_kv_lower fl a) * unit) (ne0_of1 c_8)) (va_cwS 2 hT (kt_S k_42 k_41 k_40 k_39) rfl rfl rfl (by decide +kernel) ⟨Nat.le_of_ble_eq_true rfl, Nat.le_of_ble_eq_true rfl⟩) ⟨bl_S, fun U hU hW => ⟨rfl, trivial⟩⟩ rfl rfl hl.1 rfl (lv_room (Nat.le_of_ble_eq_true rfl)) d_kr_round_75 ⟨Nat.zero_le _, Nat.zero_le _⟩) (fun r_10 e_r_10 => ?_)
              subst e_r_10
              refine lv_lstore (lv' := [(7, .long (f_jm_floorDiv (f_kv_upper fu a) ((f_kv_lower fl a) * unit))), (5, .long ((f_kv_lower fl a) * unit)), (0, .ref ak), (1, .int a), (2, .int rule), (3, .long unit)]) hx hb d_kr_round_78 hl (by decide) rfl (fun ls hl => ?_)
              refine lv_aload_n hx hb d_kr_round_80 rfl (lv_at hl 2 rfl) ?_
              refine va_get (D := (dC, dI)) (ci := 0) (v := .ref a0) (C := R_kr) (T := F_kr) (N := 6) hx hb hT i_kr hown hK hP 0 rfl rfl 3 (by decide) (hT _ k_19) (fun _ h9 => h9) rfl d_kr_round_81 ?_
              refine lv_iload_n hx hb d_kr_round_84 rfl (lv_at hl 3 rfl) ?_
              have hPc := hP.sub (ws' := [(a0, .inr (1, [.ref a1, .ref a2, .int cnt])), (a1, .inl (cU, 300, .inl fu)), (a2, .inl (cL, 300, .inl fl))]) [1, 2, 3] rfl
              have hKc := hK.sub (tys' := [(cU, .int), (cL, .int)]) [0, 1] rfl
              refine vp_callSl (W.runV (As := [.int a]) (rest := []) ⟨hx, hb, hml, hown, hT⟩ (c_kv_upper l dC dI a0 a1 a2 cnt cU fu cL fl a (in_has hc c_2)) (cwV 1 hT (kt_V k_27 k_25 k_26 k_2 k_24) rfl rfl rfl (by decide +kernel) ⟨Nat.le_of_ble_eq_true rfl, Nat.le_of_ble_eq_true rfl⟩) ⟨bl_R, va_recv hKc hPc (ci := 1) (q0 := 0) rfl rfl, fun U hU hW => ⟨rfl, by rw [hU]; exact hPc, va_K.moved hW.alike hKc⟩⟩ rfl rfl hl.1 rfl (lv_room (Nat.le_of_ble_eq_true rfl)) d_kr_round_85 ⟨Nat.zero_le _, Nat.zero_le _⟩) (fun r_11 e_r_11 => ?_)
              subst e_r_11
              refine lv_lload hx hb d_kr_round_88 (lv_at hl 1 rfl) ?_
              refine vp_callSl (W.runS (As := [.long (f_kv_upper fu a), .long ((f_kv_lower fl a) * unit)]) (rest := []) ⟨hx, hb, hml, hown, hT⟩ (c_jm_floorMod l (f_kv_upper fu a) ((f_kv_lower fl a) * unit) (ne0_of1 c_8)) (va_cwS 2 hT (kt_S k_45 k_44 k_40 k_43) rfl rfl rfl (by decide +kernel) ⟨Nat.le_of_ble_eq_true rfl, Nat.le_of_ble_eq_true rfl⟩) ⟨bl_S, fun U hU hW => ⟨rfl, trivial⟩⟩ rfl rfl hl.1 rfl (lv_room (Nat.le_of_ble_eq_true rfl)) d_kr_round_90 ⟨Nat.zero_le _, Nat.zero_le _⟩) (fun r_12 e_r_12 => ?_)
              subst e_r_12
              refine lv_lstore (lv' := [(9, .long (f_jm_floorMod (f_kv_upper fu a) ((f_kv_lower fl a) * unit))), (7, .long (f_jm_floorDiv (f_kv_upper fu a) ((f_kv_lower fl a) * unit))), (5, .long ((f_kv_lower fl a) * unit)), (0, .ref ak), (1, .int a), (2, .int rule), (3, .long unit)]) hx hb d_kr_round_93 hl (by decide) rfl (fun ls hl => ?_)
              refine lv_iload_n hx hb d_kr_round_95 rfl (lv_at hl 5 rfl) ?_
              refine lv_lload hx hb d_kr_round_96 (lv_at hl 1 rfl) ?_
              refine lv_lload hx hb d_kr_round_98 (lv_at hl 0 rfl) ?_
              refine lv_lload hx hb d_kr_round_100 (lv_at hl 2 rfl) ?_
              refine vp_callSi (W.runS (As := [.int rule, .long (f_jm_floorDiv (f_kv_upper fu a) ((f_kv_lower fl a) * unit)), .long (f_jm_floorMod (f_kv_upper fu a) ((f_kv_lower fl a) * unit)), .long ((f_kv_lower fl a) * unit)]) (rest := []) ⟨hx, hb, hml, hown, hT⟩ (c_kr_goesUp l rule (f_jm_floorDiv (f_kv_upper fu a) ((f_kv_lower fl a) * unit)) (f_jm_floorMod (f_kv_upper fu a) ((f_kv_lower fl a) * unit)) ((f_kv_lower fl a) * unit)) (va_cwS 4 hT (kt_S k_48 k_47 k_11 k_46) rfl rfl rfl (by decide +kernel) ⟨Nat.le_of_ble_eq_true rfl, Nat.le_of_ble_eq_true rfl⟩) ⟨bl_S, fun U hU hW => ⟨rfl, trivial⟩⟩ rfl rfl hl.1 rfl (lv_room (Nat.le_of_ble_eq_true rfl)) d_kr_round_102 ⟨Nat.zero_le _, Nat.zero_le _⟩) (fun r_13 e_r_13 => ?_)
              subst e_r_13
              refine lv_if_eq (tgt := 117) hx hb d_kr_round_105 (by decide) (fun c_14 => ?_) (fun c_14 => ?_)
              · refine lv_lload hx hb d_kr_round_117 (lv_at hl 1 rfl) ?_
                refine lv_lload_n hx hb d_kr_round_119 rfl (lv_at hl 6 rfl) ?_
                refine lv_lmul hx hb d_kr_round_120 ?_
                exact W.lret (v := (f_jm_floorDiv (f_kv_upper fu a) ((f_kv_lower fl a) * unit)) * unit) hx hb hr (fun t ht hW => ⟨_, rfl, by unfold f_kr_round; rw [if_neg c_2, if_neg c_3, if_pos c_4, if_neg c_5, if_pos c_6, if_pos c_8, if_pos c_14], ht⟩) t_nil d_kr_round_121
              · refine lv_lload hx hb d_kr_round_108 (lv_at hl 1 rfl) ?_
                refine lv_lconst (v := 1) hx hb d_kr_round_110 (by decide) ?_
                refine lv_ladd hx hb d_kr_round_111 ?_
                refine lv_lload_n hx hb d_kr_round_112 rfl (lv_at hl 6 rfl) ?_
                refine lv_lmul hx hb d_kr_round_113 ?_
                refine lv_goto (tgt := 121) hx hb d_kr_round_114 (by decide) ?_
                exact W.lret (v := ((f_jm_floorDiv (f_kv_upper fu a) ((f_kv_lower fl a) * unit)) + 1) * unit) hx hb hr (fun t ht hW => ⟨_, rfl, by unfold f_kr_round; rw [if_neg c_2, if_neg c_3, if_pos c_4, if_neg c_5, if_pos c_6, if_pos c_8, if_neg c_14], ht⟩) t_nil d_kr_round_121
            · refine lv_ldc2 (v := (-9223372036854775808)) hx hb hown (hT _ k_37) d_kr_round_61 ?_
              exact W.lret (v := (-9223372036854775808)) hx hb hr (fun t ht hW => ⟨_, rfl, by unfold f_kr_round; rw [if_neg c_2, if_neg c_3, if_pos c_4, if_neg c_5, if_pos c_6, if_neg c_8], ht⟩) t_nil d_kr_round_64
          · refine lv_ldc2 (v := (-9223372036854775808)) hx hb hown (hT _ k_37) d_kr_round_38 ?_
            exact W.lret (v := (-9223372036854775808)) hx hb hr (fun t ht hW => ⟨_, rfl, by unfold f_kr_round; rw [if_neg c_2, if_neg c_3, if_pos c_4, if_neg c_5, if_neg c_6], ht⟩) t_nil d_kr_round_41
      · refine lv_ldc2 (v := (-9223372036854775808)) hx hb hown (hT _ k_37) d_kr_round_20 ?_
        exact W.lret (v := (-9223372036854775808)) hx hb hr (fun t ht hW => ⟨_, rfl, by unfold f_kr_round; rw [if_neg c_2, if_neg c_3, if_neg c_4], ht⟩) t_nil d_kr_round_23
