/-! ===== values: the calls that keep one ===== -/
def OV (cnt : Int32) (x : Int32 × (Nat → Int32) × (Nat → Int32) × Int32) (y : Int32 × Int32 × (Nat → Int64) × (Nat → Int64) × Int32 × Int64 × Int64) : Prop :=
  x.1 = y.1 ∧ y.2.1 = 0 ∧ RV x.2.2.2 x.2.1 x.2.2.1 y.2.2.2.2.1 y.2.2.1 y.2.2.2.1 ∧ cnt.toNatClampNeg ≤ x.2.2.2.toNatClampNeg
section PU
variable {cnt mv : Int32} {fu fl : Nat → Int32} {gu gd : Nat → Int64} {up dn : Int64}
theorem OV_stay (h : RV cnt fu fl mv gu gd) {z : Int32} : OV cnt (z, fu, fl, cnt) (z, 0, gu, gd, mv, up, dn) := ⟨rfl, rfl, h, Nat.le_refl _⟩
theorem OV_keep (h : RV cnt fu fl mv gu gd) {a b : Int64} (hb : ¬ b = 0) : OV cnt (f_kv_keep cnt fu fl a b) ((f_mo_keep mv gu gd a b).1, 0, (f_mo_keep mv gu gd a b).2.1, (f_mo_keep mv gu gd a b).2.2.1, (f_mo_keep mv gu gd a b).2.2.2.1, (f_mo_keep mv gu gd a b).2.2.2.2.1, (f_mo_keep mv gu gd a b).2.2.2.2.2) := by
  obtain ⟨h1, h2, h3⟩ := keep_core h hb
  exact ⟨h1, rfl, h2, h3⟩
theorem value_core (h : RV cnt fu fl mv gu gd) {a b : Int64} (hb : ¬ b = 0) : OV cnt (f_kr_value cnt fu fl a b) (f_mo_value mv up dn gu gd a b) := by
  unfold f_kr_value f_mo_value
  rw [if_neg hb, if_neg hb]
  exact OV_keep h hb
theorem value_thr {a b : Int64} (hb : b = 0) : f_mo_value mv up dn gu gd a b = (0, 1, gu, gd, mv, up, dn) := by
  unfold f_mo_value
  rw [if_pos hb]
theorem pr_pos {x y : Int32} (hx : 1 ≤ x.toInt ∧ x.toInt ≤ 1000000000) (hy : 1 ≤ y.toInt ∧ y.toInt ≤ 1000000000) : (x.toInt64 * y.toInt64).toInt = x.toInt * y.toInt ∧ 1 ≤ x.toInt * y.toInt ∧ x.toInt * y.toInt ≤ 1000000000000000000 := by
  have h1 : 1 ≤ x.toInt * y.toInt := by
    have := Int.mul_le_mul hx.1 hy.1 (by decide) (by omega)
    omega
  have h2 : x.toInt * y.toInt ≤ 1000000000000000000 := by
    have := Int.mul_le_mul hx.2 hy.2 (by omega) (by decide)
    omega
  exact ⟨by rw [L_mul (by rw [L_i, L_i]; omega) (by rw [L_i, L_i]; omega), L_i, L_i], h1, h2⟩
theorem pr_ne0 {x y : Int32} (hx : 1 ≤ x.toInt ∧ x.toInt ≤ 1000000000) (hy : 1 ≤ y.toInt ∧ y.toInt ≤ 1000000000) : ¬ x.toInt64 * y.toInt64 = 0 := by
  obtain ⟨h1, h2, -⟩ := pr_pos hx hy
  exact L_ne0.mpr (by omega)
theorem pr_ne0' {x y : Int32} (hx : 1 ≤ x.toInt ∧ x.toInt ≤ 1000000000) (hy : -1000000000 ≤ y.toInt ∧ y.toInt ≤ 1000000000) (h0 : ¬ y.toInt64 = 0) : ¬ x.toInt64 * y.toInt64 = 0 := by
  have h0' : y.toInt ≠ 0 := by
    have := L_ne0.mp h0
    rwa [L_i] at this
  have hne : x.toInt * y.toInt ≠ 0 := Int.mul_ne_zero (by omega) h0'
  have hb : (x.toInt * y.toInt).natAbs ≤ 1000000000 * 1000000000 := by
    rw [Int.natAbs_mul]
    exact Nat.mul_le_mul (by omega) (by omega)
  refine L_ne0.mpr ?_
  rw [L_mul (by rw [L_i, L_i]; omega) (by rw [L_i, L_i]; omega), L_i, L_i]
  exact hne
theorem both_of {a b : Int32} : f_kv_hasBoth cnt a b = 0 ↔ f_kv_has cnt a = 0 ∨ f_kv_has cnt b = 0 := by
  unfold f_kv_hasBoth
  by_cases h1 : f_kv_has cnt a = 0
  · rw [if_pos h1]; simp [h1]
  · rw [if_neg h1]
    by_cases h2 : f_kv_has cnt b = 0
    · rw [if_pos h2]; simp [h2]
    · rw [if_neg h2]; simp [h1, h2]
theorem add_z (h : RV cnt fu fl mv gu gd) {a b : Int32} : ¬ f_mo_isValue mv a = 0 → ¬ f_mo_isValue mv b = 0 → ¬ (gd a.toNatClampNeg * gd b.toNatClampNeg) = 0 := by
  intro ha hb
  rw [isValue_has, h.1] at ha hb
  obtain ⟨-, e1, -, p1⟩ := h.has ha
  obtain ⟨-, e2, -, p2⟩ := h.has hb
  rw [e1, e2]
  exact pr_ne0 p1 p2
theorem over_z (h : RV cnt fu fl mv gu gd) {a b : Int32} : ¬ f_mo_isValue mv a = 0 → ¬ f_mo_isValue mv b = 0 → ¬ gu b.toNatClampNeg = 0 → ¬ (gd a.toNatClampNeg * gu b.toNatClampNeg) = 0 := by
  intro ha hb hn
  rw [isValue_has, h.1] at ha hb
  obtain ⟨-, e1, -, p1⟩ := h.has ha
  obtain ⟨e2, -, p2, -⟩ := h.has hb
  rw [e2] at hn
  rw [e1, e2]
  exact pr_ne0' p1 p2 hn
theorem add_core (h : RV cnt fu fl mv gu gd) {a b : Int32} : OV cnt (f_kr_add cnt fu fl a b) (f_mo_add mv up dn gu gd a b) := by
  unfold f_kr_add f_mo_add
  have e := h.1
  rw [isValue_has, isValue_has, e]
  by_cases ha : f_kv_has cnt a = 0
  · rw [if_pos (both_of.mpr (Or.inl ha)), if_pos ha]; rw [← e]; rw [e]; exact OV_stay (e ▸ h)
  · by_cases hb : f_kv_has cnt b = 0
    · rw [if_pos (both_of.mpr (Or.inr hb)), if_neg ha, if_pos hb]; exact OV_stay (e ▸ h)
    · rw [if_neg (fun q => (both_of.mp q).elim ha hb), if_neg ha, if_neg hb]
      obtain ⟨a1, a2, -, p1⟩ := h.has ha
      obtain ⟨b1, b2, -, p2⟩ := h.has hb
      unfold f_kv_upper f_kv_lower
      rw [a1, a2, b1, b2]
      exact OV_keep (e ▸ h) (pr_ne0 p1 p2)
theorem less_core (h : RV cnt fu fl mv gu gd) {a b : Int32} : OV cnt (f_kr_less cnt fu fl a b) (f_mo_less mv up dn gu gd a b) := by
  unfold f_kr_less f_mo_less
  have e := h.1
  rw [isValue_has, isValue_has, e]
  by_cases ha : f_kv_has cnt a = 0
  · rw [if_pos (both_of.mpr (Or.inl ha)), if_pos ha]; exact OV_stay (e ▸ h)
  · by_cases hb : f_kv_has cnt b = 0
    · rw [if_pos (both_of.mpr (Or.inr hb)), if_neg ha, if_pos hb]; exact OV_stay (e ▸ h)
    · rw [if_neg (fun q => (both_of.mp q).elim ha hb), if_neg ha, if_neg hb]
      obtain ⟨a1, a2, -, p1⟩ := h.has ha
      obtain ⟨b1, b2, -, p2⟩ := h.has hb
      unfold f_kv_upper f_kv_lower
      rw [a1, a2, b1, b2]
      exact OV_keep (e ▸ h) (pr_ne0 p1 p2)
theorem times_core (h : RV cnt fu fl mv gu gd) {a b : Int32} : OV cnt (f_kr_times cnt fu fl a b) (f_mo_times mv up dn gu gd a b) := by
  unfold f_kr_times f_mo_times
  have e := h.1
  rw [isValue_has, isValue_has, e]
  by_cases ha : f_kv_has cnt a = 0
  · rw [if_pos (both_of.mpr (Or.inl ha)), if_pos ha]; exact OV_stay (e ▸ h)
  · by_cases hb : f_kv_has cnt b = 0
    · rw [if_pos (both_of.mpr (Or.inr hb)), if_neg ha, if_pos hb]; exact OV_stay (e ▸ h)
    · rw [if_neg (fun q => (both_of.mp q).elim ha hb), if_neg ha, if_neg hb]
      obtain ⟨a1, a2, -, p1⟩ := h.has ha
      obtain ⟨b1, b2, -, p2⟩ := h.has hb
      unfold f_kv_upper f_kv_lower
      rw [a1, a2, b1, b2]
      exact OV_keep (e ▸ h) (pr_ne0 p1 p2)
theorem over_core (h : RV cnt fu fl mv gu gd) {a b : Int32} (hnt : f_kv_has cnt b = 0 ∨ ¬ f_kv_upper fu b = 0) : OV cnt (f_kr_over cnt fu fl a b) (f_mo_over mv up dn gu gd a b) := by
  unfold f_kr_over f_mo_over
  have e := h.1
  rw [isValue_has, isValue_has, e]
  by_cases hb : f_kv_has cnt b = 0
  · rw [if_pos hb, if_pos (both_of.mpr (Or.inr hb)), if_pos hb]
    by_cases ha : f_kv_has cnt a = 0
    · rw [if_pos ha]; exact OV_stay (e ▸ h)
    · rw [if_neg ha, if_pos hb]; exact OV_stay (e ▸ h)
  · have hn := hnt.resolve_left hb
    obtain ⟨b1, b2, p3, p2⟩ := h.has hb
    rw [if_neg hb, if_neg hn, if_neg hb, b1, if_neg (show ¬ (fu b.toNatClampNeg).toInt64 = 0 from hn)]
    by_cases ha : f_kv_has cnt a = 0
    · rw [if_pos (both_of.mpr (Or.inl ha)), if_pos ha]; exact OV_stay (e ▸ h)
    · rw [if_neg (fun q => (both_of.mp q).elim ha hb), if_neg ha, if_neg hb]
      obtain ⟨a1, a2, -, p1⟩ := h.has ha
      unfold f_kv_upper f_kv_lower
      rw [a1, a2, b2]
      exact OV_keep (e ▸ h) (pr_ne0' p1 p3 hn)
theorem over_thr (h : RV cnt fu fl mv gu gd) {a b : Int32} (ht : ¬ f_kv_has cnt b = 0 ∧ f_kv_upper fu b = 0) : f_mo_over mv up dn gu gd a b = (0, 1, gu, gd, mv, up, dn) := by
  unfold f_mo_over
  have e := h.1
  obtain ⟨b1, -⟩ := h.has ht.1
  rw [isValue_has, isValue_has, e, if_neg ht.1, b1, if_pos (show (fu b.toNatClampNeg).toInt64 = 0 from ht.2)]
theorem part_or {q : Int32} : ¬ f_kr_isPart q = 0 ↔ q = 0 ∨ q = 1 := by
  unfold f_kr_isPart
  by_cases h1 : q = 0
  · rw [if_pos h1]; simp [h1]
  · rw [if_neg h1]
    by_cases h2 : q = 1
    · rw [if_pos h2]; simp [h2]
    · rw [if_neg h2]; simp [h1, h2]
theorem part_rg {q : Int32} : ¬ f_kr_isPart q = 0 ↔ ¬ q < 0 ∧ q ≤ 1 := by
  rw [part_or]
  constructor
  · rintro (rfl | rfl) <;> decide
  · rintro ⟨h1, h2⟩
    obtain ⟨j, hj, e⟩ := nI_of2 (M := 1) (n := 1) (by decide) h1 h2
    rcases (show j = 0 ∨ j = 1 by omega) with q | q
    · left; rw [e, q]; rfl
    · right; rw [e, q]; rfl
theorem part_core (h : RV cnt fu fl mv gu gd) {v q : Int32} (hnt : ¬ f_kv_has cnt v = 0 ∧ ¬ f_kr_isPart q = 0) : f_mo_part mv gu gd v q = (f_kr_part cnt fu fl v q, 0) := by
  unfold f_mo_part f_kr_part f_kv_partOf
  obtain ⟨a1, a2, -⟩ := h.has hnt.1
  obtain ⟨q1, q2⟩ := part_rg.mp hnt.2
  rw [isValue_has, h.1, if_neg hnt.1, if_neg hnt.1, if_neg hnt.2, if_neg q1, if_pos q2]
  by_cases h3 : q = 0
  · rw [if_pos h3, if_pos h3, a1, l2i_i2l]
  · rw [if_neg h3, if_neg h3, a2, l2i_i2l]
theorem part_thr (h : RV cnt fu fl mv gu gd) {v q : Int32} (ht : f_kv_has cnt v = 0 ∨ f_kr_isPart q = 0) : f_mo_part mv gu gd v q = (0, 1) := by
  unfold f_mo_part
  rw [isValue_has, h.1]
  by_cases h1 : f_kv_has cnt v = 0
  · rw [if_pos h1]
  · rw [if_neg h1]
    by_cases h2 : q < 0
    · rw [if_pos h2]
    · rw [if_neg h2]
      by_cases h3 : q ≤ 1
      · exact absurd (ht.resolve_left h1) (part_rg.mpr ⟨h2, h3⟩)
      · rw [if_neg h3]
theorem order_core (h : RV cnt fu fl mv gu gd) {a b : Int32} : f_mo_order mv gu gd a b = (f_kr_order cnt fu fl a b, 0) := by
  unfold f_mo_order f_kr_order
  rw [isValue_has, isValue_has, h.1]
  by_cases ha : f_kv_has cnt a = 0
  · rw [if_pos (both_of.mpr (Or.inl ha)), if_pos ha]
  · by_cases hb : f_kv_has cnt b = 0
    · rw [if_pos (both_of.mpr (Or.inr hb)), if_neg ha, if_pos hb]
    · rw [if_neg (fun q => (both_of.mp q).elim ha hb), if_neg ha, if_neg hb]
      obtain ⟨a1, a2, -⟩ := h.has ha
      obtain ⟨b1, b2, -⟩ := h.has hb
      unfold f_kv_upper f_kv_lower
      rw [a1, a2, b1, b2]
      generalize (fu a.toNatClampNeg).toInt64 * (fl b.toNatClampNeg).toInt64 = x
      generalize (fu b.toNatClampNeg).toInt64 * (fl a.toNatClampNeg).toInt64 = y
      by_cases h1 : x = y
      · subst h1
        rw [if_pos (Int64.le_refl x), if_pos (Int64.le_refl x), if_pos rfl]
      · rw [if_neg h1]
        by_cases h2 : y ≤ x
        · rw [if_pos h2, if_pos h2, if_neg (fun q => h1 (L_inj (by rw [L_le] at h2 q; omega)))]
        · rw [if_neg h2, if_neg h2]
end PU
/-- the rows of both -/
def RC (nk : Nat) (cnt rowc : Int32) (fc : Nat → Int32) (mr : Int32) (gc : Nat → Int32) : Prop := mr = rowc ∧ vp_in rowc 21 ∧ ∀ r, r < 20 → ∀ k, k < nk → gc (16 * r + k) = fc (r * nk + k) ∧ (fc (r * nk + k) = -1 ∨ vp_in (fc (r * nk + k)) cnt.toNatClampNeg)
theorem RC.more {nk : Nat} {cnt cnt' rowc mr : Int32} {fc gc : Nat → Int32} (h : RC nk cnt rowc fc mr gc) (hc : cnt.toNatClampNeg ≤ cnt'.toNatClampNeg) : RC nk cnt' rowc fc mr gc :=
  ⟨h.1, h.2.1, fun r hr k hk => ⟨(h.2.2 r hr k hk).1, (h.2.2 r hr k hk).2.imp id (fun q => by rw [vp_in_iff] at q ⊢; omega)⟩⟩
theorem row_core {nk : Nat} {cnt rowc mr : Int32} {fc gc : Nat → Int32} (h : RC nk cnt rowc fc mr gc) : (f_kr_row rowc).1 = (f_mo_row mr).1 ∧ (f_mo_row mr).2.1 = 0 ∧ RC nk cnt (f_kr_row rowc).2 fc (f_mo_row mr).2.2 gc := by
  obtain ⟨rfl, h2, h3⟩ := h
  unfold f_kr_row f_mo_row
  obtain ⟨n, hn, e⟩ := vp_in_of h2 (by decide)
  subst e
  by_cases h4 : n = 20
  · subst h4
    rw [if_neg (show ¬ nI 20 < 20 by decide), if_pos (show nI 20 = 20 by decide)]
    exact ⟨rfl, rfl, rfl, h2, h3⟩
  · rw [if_pos (show nI n < 20 from nI_lt (a := n) (b := 20) (by omega) (by decide)), if_neg (show ¬ nI n = 20 from fun q => h4 ((nI_eq (a := n) (b := 20) (by omega) (by decide)).mp q))]
    refine ⟨rfl, rfl, rfl, ?_, h3⟩
    show vp_in (nI n + 1) 21
    rw [nI_1]
    exact vp_in_nI (by omega) (by decide)
theorem cell_ix {nk r k : Nat} (hn : nk ≤ 16) (hr : r < 20) (hk : k < nk) : ((nI r * nI nk) + nI k).toNatClampNeg = r * nk + k ∧ ((16 * nI r) + nI k).toNatClampNeg = 16 * r + k := by
  have h1 : r * nk ≤ 19 * 16 := Nat.mul_le_mul (by omega) hn
  constructor
  · rw [show nI r * nI nk = nI (r * nk) from (pk_mul r nk), nI_add, nI_clamp (by omega)]
  · rw [show (16 : Int32) * nI r = nI (16 * r) from (pk_mul 16 r), nI_add, nI_clamp (by omega)]
theorem put_core {nk : Nat} {kinds mk cnt mv rowc mr : Int32} {fu fl : Nat → Int32} {gu gd : Nat → Int64} {fc gc : Nat → Int32} (hn : kinds = nI nk ∧ nk ≤ 16) (hk : mk = kinds) (hv : RV cnt fu fl mv gu gd) (h : RC nk cnt rowc fc mr gc) {row kind v : Int32} (hnt : f_kr_hasRow rowc row = 0 ∨ ¬ f_kr_hasKind kinds kind = 0) :
    (f_kr_put kinds rowc fc cnt row kind v).1 = (f_mo_put mk mv mr gc row kind v).1 ∧ (f_mo_put mk mv mr gc row kind v).2.1 = 0 ∧ RC nk cnt rowc (f_kr_put kinds rowc fc cnt row kind v).2 mr (f_mo_put mk mv mr gc row kind v).2.2 := by
  obtain ⟨e1, h2, h3⟩ := h
  unfold f_kr_put f_mo_put
  rw [isValue_has, hv.1, e1, hk, show f_mo_isRow rowc row = f_kr_hasRow rowc row from rfl, show f_mo_isKind kinds kind = f_kr_hasKind kinds kind from rfl]
  by_cases hr : f_kr_hasRow rowc row = 0
  · rw [if_pos hr, if_pos hr, if_pos hr]
    exact ⟨rfl, rfl, rfl, h2, h3⟩
  · have hkk := hnt.resolve_left hr
    rw [if_neg hr, if_neg hkk, if_neg hr, if_neg hkk, if_neg hr]
    obtain ⟨r, hr2, er⟩ := in_row h2 hr
    obtain ⟨k, hk2, ek⟩ := in_kind hn hkk
    have hst : (v = -1 ∨ vp_in v cnt.toNatClampNeg) → RC nk cnt rowc (upd fc ((row * kinds) + kind).toNatClampNeg v) rowc (upd gc ((16 * row) + kind).toNatClampNeg v) := by
      intro hvv
      subst er
      subst ek
      rw [hn.1, (cell_ix hn.2 hr2 hk2).1, (cell_ix hn.2 hr2 hk2).2]
      refine ⟨rfl, h2, fun r' hr' k' hk' => ?_⟩
      unfold upd
      by_cases q : r' = r ∧ k' = k
      · obtain ⟨rfl, rfl⟩ := q
        rw [if_pos rfl, if_pos rfl]
        exact ⟨rfl, hvv⟩
      · have q1 : ¬ r' * nk + k' = r * nk + k := fun z => q (by
          have z1 : (r' * nk + k') / nk = r' := by rw [Nat.mul_comm, Nat.mul_add_div (by omega), Nat.div_eq_of_lt hk', Nat.add_zero]
          have z2 : (r * nk + k) / nk = r := by rw [Nat.mul_comm, Nat.mul_add_div (by omega), Nat.div_eq_of_lt hk2, Nat.add_zero]
          have z3 : r' = r := by rw [← z1, z, z2]
          subst z3
          exact ⟨rfl, by omega⟩)
        have q2 : ¬ 16 * r' + k' = 16 * r + k := fun z => q (by have := hn.2; omega)
        rw [if_neg q1, if_neg q2]
        exact h3 r' hr' k' hk'
    by_cases h4 : v = -1
    · rw [if_pos h4, if_pos h4]
      exact ⟨rfl, rfl, hst (Or.inl h4)⟩
    · rw [if_neg h4, if_neg h4]
      by_cases h5 : f_kv_has cnt v = 0
      · rw [if_pos h5, if_pos h5]
        exact ⟨rfl, rfl, rfl, h2, h3⟩
      · rw [if_neg h5, if_neg h5]
        refine ⟨rfl, rfl, hst (Or.inr ?_)⟩
        unfold f_kv_has at h5
        by_cases c1 : v < 0
        · rw [if_pos c1] at h5; exact absurd rfl h5
        · rw [if_neg c1] at h5
          by_cases c2 : cnt ≤ v
          · rw [if_pos c2] at h5; exact absurd rfl h5
          · obtain ⟨j, hj, ej⟩ := nI_of c1
            obtain ⟨n, hn9, en⟩ := vp_in_of hv.2.1 (by decide)
            subst ej
            subst en
            rw [nI_leI (by omega) hj] at c2
            rw [nI_clamp (by omega)]
            exact vp_in_nI (by omega) (by omega)
theorem put_thr {nk : Nat} {kinds mk cnt mv rowc mr : Int32} {fc gc : Nat → Int32} (hk : mk = kinds) (h : RC nk cnt rowc fc mr gc) {row kind v : Int32} (ht : ¬ f_kr_hasRow rowc row = 0 ∧ f_kr_hasKind kinds kind = 0) : f_mo_put mk mv mr gc row kind v = (0, 1, gc) := by
  unfold f_mo_put
  rw [h.1, hk, show f_mo_isRow rowc row = f_kr_hasRow rowc row from rfl, show f_mo_isKind kinds kind = f_kr_hasKind kinds kind from rfl, if_neg ht.1, if_pos ht.2]
theorem at_core {nk : Nat} {kinds mk cnt rowc mr : Int32} {fc gc : Nat → Int32} (hn : kinds = nI nk ∧ nk ≤ 16) (hk : mk = kinds) (h : RC nk cnt rowc fc mr gc) {row kind : Int32} (hnt : f_kr_hasRow rowc row = 0 ∨ ¬ f_kr_hasKind kinds kind = 0) : f_mo_at mk mr gc row kind = (f_kr_at kinds rowc fc row kind, 0) := by
  obtain ⟨e1, h2, h3⟩ := h
  unfold f_mo_at f_kr_at
  rw [e1, hk, show f_mo_isRow rowc row = f_kr_hasRow rowc row from rfl, show f_mo_isKind kinds kind = f_kr_hasKind kinds kind from rfl]
  by_cases hr : f_kr_hasRow rowc row = 0
  · rw [if_pos hr, if_pos hr, if_pos hr]
  · have hkk := hnt.resolve_left hr
    rw [if_neg hr, if_neg hkk, if_neg hr, if_neg hr, if_neg hkk]
    obtain ⟨r, hr2, er⟩ := in_row h2 hr
    obtain ⟨k, hk2, ek⟩ := in_kind hn hkk
    subst er
    subst ek
    rw [hn.1, (cell_ix hn.2 hr2 hk2).1, (cell_ix hn.2 hr2 hk2).2, (h3 r hr2 k hk2).1]
theorem at_thr {nk : Nat} {kinds mk cnt rowc mr : Int32} {fc gc : Nat → Int32} (hk : mk = kinds) (h : RC nk cnt rowc fc mr gc) {row kind : Int32} (ht : ¬ f_kr_hasRow rowc row = 0 ∧ f_kr_hasKind kinds kind = 0) : f_mo_at mk mr gc row kind = (0, 1) := by
  unfold f_mo_at
  rw [h.1, hk, show f_mo_isRow rowc row = f_kr_hasRow rowc row from rfl, show f_mo_isKind kinds kind = f_kr_hasKind kinds kind from rfl, if_neg ht.1, if_pos ht.2]
/-- the entries of both -/
def RE (E : Nat → Nat → Int32) (ge : Nat → Int32) : Prop := ∀ i, i < 4 → ∀ j, j < 5 → ge (5 * i + j) = E i j ∧ -100 ≤ (E i j).toInt ∧ (E i j).toInt ≤ 100
theorem entry_core {E : Nat → Nat → Int32} {ge : Nat → Int32} (h : RE E ge) {i j v : Int32} : (f_kr_entry E i j v).1 = (f_mo_entry ge i j v).1 ∧ (f_mo_entry ge i j v).2.1 = 0 ∧ RE (f_kr_entry E i j v).2 (f_mo_entry ge i j v).2.2 := by
  have st : ∀ z : Int32, (z, E).1 = (z, (0 : Int32), ge).1 ∧ (z, (0 : Int32), ge).2.1 = 0 ∧ RE (z, E).2 (z, (0 : Int32), ge).2.2 := fun z => ⟨rfl, rfl, h⟩
  unfold f_kr_entry f_ks_setEntry f_mo_entry
  by_cases h1 : i < 0
  · simp only [if_pos h1]; exact ⟨trivial, trivial, h⟩
  · simp only [if_neg h1]
    have e4 : (4 ≤ i) ↔ (3 < i) := by
      rw [Int32.le_iff_toInt_le, Int32.lt_iff_toInt_lt, show (4 : Int32).toInt = 4 by decide, show (3 : Int32).toInt = 3 by decide]; omega
    by_cases h2 : 4 ≤ i
    · simp only [if_pos h2, if_pos (e4.mp h2)]; exact ⟨trivial, trivial, h⟩
    · simp only [if_neg h2, if_neg (fun q => h2 (e4.mpr q))]
      by_cases h3 : j < 0
      · simp only [if_pos h3]; exact ⟨trivial, trivial, h⟩
      · simp only [if_neg h3]
        have e5 : (j < 5) ↔ ¬ (4 < j) := by
          rw [Int32.lt_iff_toInt_lt, Int32.lt_iff_toInt_lt, show (4 : Int32).toInt = 4 by decide, show (5 : Int32).toInt = 5 by decide]; omega
        by_cases h4 : j < 5
        · simp only [if_pos h4, if_neg (e5.mp h4)]
          by_cases h5 : v < -100
          · simp only [if_pos h5]; exact ⟨trivial, trivial, h⟩
          · simp only [if_neg h5]
            by_cases h6 : v ≤ 100
            · simp only [if_pos h6]
              refine ⟨trivial, trivial, ?_⟩
              obtain ⟨a, ha, ea⟩ := nI_of2 (M := 3) (n := 3) (by decide) h1 (by rw [Int32.le_iff_toInt_le]; rw [Int32.le_iff_toInt_le] at h2; rw [show (4 : Int32).toInt = 4 by decide] at h2; rw [show (3 : Int32).toInt = 3 by decide]; omega)
              obtain ⟨b, hb, eb⟩ := nI_of2 (M := 4) (n := 4) (by decide) h3 (by rw [Int32.le_iff_toInt_le]; rw [Int32.lt_iff_toInt_lt] at h4; rw [show (5 : Int32).toInt = 5 by decide] at h4; rw [show (4 : Int32).toInt = 4 by decide]; omega)
              subst ea
              subst eb
              rw [nI_clamp (by omega), nI_clamp (by omega), show (5 : Int32) * nI a = nI (5 * a) from pk_mul 5 a, nI_add, nI_clamp (by omega)]
              intro i' hi' j' hj'
              show upd ge (5 * a + b) v (5 * i' + j') = va_up E a (upd (E a) b v) i' j' ∧ -100 ≤ (va_up E a (upd (E a) b v) i' j').toInt ∧ (va_up E a (upd (E a) b v) i' j').toInt ≤ 100
              unfold upd va_up
              by_cases q : i' = a ∧ j' = b
              · obtain ⟨rfl, rfl⟩ := q
                rw [if_pos rfl, if_pos rfl, if_pos rfl]
                refine ⟨rfl, ?_⟩
                rw [Int32.lt_iff_toInt_lt, show (-100 : Int32).toInt = -100 by decide] at h5
                rw [Int32.le_iff_toInt_le, show (100 : Int32).toInt = 100 by decide] at h6
                omega
              · rw [if_neg (show ¬ 5 * i' + j' = 5 * a + b by omega)]
                by_cases q2 : i' = a
                · subst q2
                  rw [if_pos rfl, if_neg (fun z => q ⟨rfl, z⟩)]
                  exact h i' hi' j' hj'
                · rw [if_neg q2]
                  exact h i' hi' j' hj'
            · simp only [if_neg h6]; exact ⟨trivial, trivial, h⟩
        · simp only [if_neg h4, if_pos (show 4 < j from Decidable.not_not.mp (fun q => h4 (e5.mpr q)))]; exact ⟨trivial, trivial, h⟩
/-- the answers of both -/
def RA (ans : Int32) (fsu fsl : Nat → Int64) (so : Int32) (ga gb : Nat → Int64) : Prop := so = ans ∧ vp_in ans 5 ∧ ∀ k, k < ans.toNatClampNeg → ga k = fsu k ∧ gb k = fsl k
theorem answer_core {ans so : Int32} {fsu fsl ga gb : Nat → Int64} (h : RA ans fsu fsl so ga gb) {k q : Int32} : f_mo_answer so ga gb k q = (f_kr_answer ans fsu fsl k q, 0) := by
  obtain ⟨rfl, h2, h3⟩ := h
  unfold f_mo_answer f_kr_answer f_ks_hasAnswer f_ks_answerPart
  by_cases h4 : k < 0
  · rw [if_pos h4, if_pos h4, if_pos rfl]
  · rw [if_neg h4, if_neg h4]
    by_cases h5 : so ≤ k
    · rw [if_pos h5, if_pos h5, if_pos rfl]
    · rw [if_neg h5, if_neg h5, if_neg (show ¬ (1 : Int32) = 0 by decide)]
      by_cases h6 : f_kr_isPart q = 0
      · rw [if_pos h6]
        by_cases h7 : q < 0
        · rw [if_pos h7]
        · rw [if_neg h7, if_neg (fun h8 => part_rg.mpr ⟨h7, h8⟩ h6)]
      · obtain ⟨q1, q2⟩ := part_rg.mp h6
        rw [if_neg h6, if_neg q1, if_pos q2]
        obtain ⟨j, hj, ej⟩ := nI_of h4
        obtain ⟨n, hn9, en⟩ := vp_in_of h2 (by decide)
        subst ej
        subst en
        rw [nI_leI (by omega) hj] at h5
        obtain ⟨e1, e2⟩ := h3 j (by rw [nI_clamp (by omega)]; omega)
        rw [nI_clamp hj, e1, e2]
        by_cases h8 : q = 0
        · rw [if_pos h8, if_pos h8]
        · rw [if_neg h8, if_neg h8]
/-- the weights of both -/
def RW (wc : Int32) (all : Int64) (fz : Nat → Int32) (mw : Int32) (gw : Nat → Int64) : Prop := mw = wc ∧ vp_in wc 13 ∧ (∀ i, i < wc.toNatClampNeg → gw i = (fz i).toInt64 ∧ 0 ≤ (fz i).toInt ∧ (fz i).toInt ≤ 1000000) ∧ all = alL gw wc.toNatClampNeg 0 0
theorem alL_snoc (gw : Nat → Int64) : ∀ (d i : Nat) (a : Int64), alL gw (d + 1) i a = alL gw d i a + gw (i + d)
  | 0, i, a => rfl
  | d + 1, i, a => by rw [alL, alL_snoc gw d (i + 1) (a + gw i), show alL gw (d + 1) i a = alL gw d (i + 1) (a + gw i) from rfl, show i + 1 + d = i + (d + 1) by omega]
theorem alL_cong {f g : Nat → Int64} : ∀ (d i : Nat) (a : Int64), (∀ j, i ≤ j → j < i + d → f j = g j) → alL f d i a = alL g d i a
  | 0, _, _, _ => rfl
  | d + 1, i, a, h => by rw [alL, alL, h i (by omega) (by omega)]; exact alL_cong d (i + 1) _ (fun j h1 h2 => h j (by omega) (by omega))
theorem weight_core {wc mw : Int32} {all : Int64} {fz : Nat → Int32} {gw : Nat → Int64} (h : RW wc all fz mw gw) {w : Int32} : (f_kr_weight wc all fz w).1 = (f_mo_weight mw gw w).1 ∧ (f_mo_weight mw gw w).2.1 = 0 ∧ RW (f_kr_weight wc all fz w).2.2.1 (f_kr_weight wc all fz w).2.2.2 (f_kr_weight wc all fz w).2.1 (f_mo_weight mw gw w).2.2.2 (f_mo_weight mw gw w).2.2.1 := by
  have h' := h
  obtain ⟨rfl, h2, h3, h4⟩ := h
  unfold f_kr_weight f_kw_append f_mo_weight
  by_cases c1 : w < 0
  · simp only [if_pos c1]; first | exact ⟨rfl, rfl, h'⟩ | exact ⟨rfl, trivial, h'⟩ | exact ⟨trivial, trivial, h'⟩
  · simp only [if_neg c1]
    by_cases c2 : 1000000 < w
    · simp only [if_pos c2]; first | exact ⟨rfl, rfl, h'⟩ | exact ⟨rfl, trivial, h'⟩ | exact ⟨trivial, trivial, h'⟩
    · simp only [if_neg c2]
      obtain ⟨n, hn, e⟩ := vp_in_of h2 (by decide)
      subst e
      by_cases c3 : n = 12
      · subst c3
        simp only [if_neg (show ¬ nI 12 < 12 by decide), if_pos (show nI 12 = 12 by decide)]
        first | exact ⟨rfl, rfl, h'⟩ | exact ⟨rfl, trivial, h'⟩ | exact ⟨trivial, trivial, h'⟩
      · simp only [if_pos (show nI n < 12 from nI_lt (a := n) (b := 12) (by omega) (by decide)), if_neg (show ¬ nI n = 12 from fun q => c3 ((nI_eq (a := n) (b := 12) (by omega) (by decide)).mp q))]
        rw [nI_1, nI_clamp (by omega)]
        refine ⟨by first | rfl | trivial, by first | rfl | trivial, rfl, vp_in_nI (by omega) (by decide), ?_, ?_⟩
        · rw [nI_clamp (by omega)]
          intro i hi
          show vp_updL gw n w.toInt64 i = (upd fz n w i).toInt64 ∧ 0 ≤ (upd fz n w i).toInt ∧ (upd fz n w i).toInt ≤ 1000000
          unfold upd vp_updL
          by_cases c4 : i = n
          · rw [if_pos c4, if_pos c4]
            refine ⟨rfl, ?_⟩
            rw [Int32.lt_iff_toInt_lt, show (0 : Int32).toInt = 0 by decide] at c1
            rw [Int32.lt_iff_toInt_lt, show (1000000 : Int32).toInt = 1000000 by decide] at c2
            omega
          · rw [if_neg c4, if_neg c4]
            exact h3 i (by rw [nI_clamp (by omega)]; omega)
        · rw [nI_clamp (by omega)] at h4 ⊢
          show all + w.toInt64 = alL (vp_updL gw n w.toInt64) (n + 1) 0 0
          rw [alL_snoc, h4, alL_cong n 0 0 (g := vp_updL gw n w.toInt64) (f := gw) (fun j _ hj => by unfold vp_updL; rw [if_neg (by omega)])]
          congr 1
          unfold vp_updL
          rw [if_pos (by omega)]

