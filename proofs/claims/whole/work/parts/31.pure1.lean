/-! ===== both sides: the values ===== -/
theorem I_lo (x : Int32) : -2147483648 ≤ x.toInt := by
  have h := Int32.le_toInt x
  have e : (-2 : Int) ^ 31 = -2147483648 := by decide
  omega
theorem I_hi (x : Int32) : x.toInt ≤ 2147483647 := by
  have h := Int32.toInt_lt x
  have e : (2 : Int) ^ 31 = 2147483648 := by decide
  omega
theorem I_inj {x y : Int32} (h : x.toInt = y.toInt) : x = y := Int32.toInt_inj.mp h
theorem L_i (x : Int32) : x.toInt64.toInt = x.toInt := Int32.toInt_toInt64 x
theorem L_of (z : Int) (h1 : -9223372036854775808 ≤ z) (h2 : z ≤ 9223372036854775807) : (Int64.ofInt z).toInt = z := by
  rw [Int64.toInt_ofInt]
  exact L_bm h1 h2
theorem l2i_int {x : Int64} (h1 : -2147483648 ≤ x.toInt) (h2 : x.toInt ≤ 2147483647) : x.toInt32.toInt = x.toInt := by
  rw [Int64.toInt_toInt32, Int.bmod_def]
  split <;> omega
theorem l2i_i2l (x : Int32) : x.toInt64.toInt32 = x := I_inj (by rw [l2i_int (by rw [L_i]; exact I_lo x) (by rw [L_i]; exact I_hi x), L_i])
theorem i2l_l2i {x : Int64} (h1 : -2147483648 ≤ x.toInt) (h2 : x.toInt ≤ 2147483647) : x.toInt32.toInt64 = x := L_inj (by rw [L_i, l2i_int h1 h2])
theorem L_wrap {x y : Int64} (hx : x.toInt = -9223372036854775808) (hy : y.toInt = -1) : (x / y).toInt = -9223372036854775808 := by
  have e1 : x = -9223372036854775808 := L_inj (hx.trans (by decide))
  have e2 : y = -1 := L_inj (hy.trans (by decide))
  subst e1; subst e2
  decide
theorem L_lt {x y : Int64} : x < y ↔ x.toInt < y.toInt := Int64.lt_iff_toInt_lt
theorem L_le {x y : Int64} : x ≤ y ↔ x.toInt ≤ y.toInt := Int64.le_iff_toInt_le
theorem L_ne0 {x : Int64} : ¬ x = 0 ↔ x.toInt ≠ 0 := ⟨fun h q => h (L_inj (q.trans (by decide))), fun h q => h (by rw [q]; decide)⟩
theorem gcdL_0 : ∀ (k : Nat) (x : Int64), gcdL k x 0 = x
  | 0, _ => rfl
  | k + 1, x => by rw [gcdL, if_pos rfl]
theorem gcd_sz : ∀ (k : Nat) (x y : Int64), euc k x y → ¬ y = 0 → (gcdL k x y).toInt.natAbs ≤ y.toInt.natAbs := by
  intro k
  induction k with
  | zero => intro x y he h; exact absurd he h
  | succ k ih =>
    intro x y he h
    rw [gcdL, if_neg h]
    by_cases h2 : x - x / y * y = 0
    · rw [h2, gcdL_0]
      exact Nat.le_refl _
    · have h3 := ih y _ (he.resolve_left h) h2
      rw [L_rem h] at h3
      have h4 : (x.toInt.tmod y.toInt).natAbs < y.toInt.natAbs := by
        rw [Int.natAbs_tmod]
        exact Nat.mod_lt _ (by have := L_ne0.mp h; omega)
      omega
theorem isIn_iff {v : Int64} : f_mo_isIn v = 0 ↔ ¬ (-1000000000 ≤ v.toInt ∧ v.toInt ≤ 1000000000) := by
  unfold f_mo_isIn
  have e1 : (-1000000000 : Int64).toInt = -1000000000 := by decide
  have e2 : (1000000000 : Int64).toInt = 1000000000 := by decide
  by_cases h1 : v < -1000000000
  · rw [if_pos h1]; rw [L_lt, e1] at h1; simp; omega
  · rw [if_neg h1]; rw [L_lt, e1] at h1
    by_cases h2 : 1000000000 < v
    · rw [if_pos h2]; rw [L_lt, e2] at h2; simp; omega
    · rw [if_neg h2]; rw [L_lt, e2] at h2; simp; omega
theorem fits_iff {x y : Int64} : f_kv_fits x y = 0 ↔ ¬ ((-1000000000 ≤ x.toInt ∧ x.toInt ≤ 1000000000) ∧ 1 ≤ y.toInt ∧ y.toInt ≤ 1000000000) := by
  unfold f_kv_fits
  have e1 : (-1000000000 : Int64).toInt = -1000000000 := by decide
  have e2 : (1000000000 : Int64).toInt = 1000000000 := by decide
  have e3 : (1 : Int64).toInt = 1 := by decide
  by_cases h1 : x < -1000000000
  · rw [if_pos h1]; rw [L_lt, e1] at h1; simp; omega
  · rw [if_neg h1]; rw [L_lt, e1] at h1
    by_cases h2 : 1000000000 < x
    · rw [if_pos h2]; rw [L_lt, e2] at h2; simp; omega
    · rw [if_neg h2]; rw [L_lt, e2] at h2
      by_cases h3 : y < 1
      · rw [if_pos h3]; rw [L_lt, e3] at h3; simp; omega
      · rw [if_neg h3]; rw [L_lt, e3] at h3
        by_cases h4 : 1000000000 < y
        · rw [if_pos h4]; rw [L_lt, e2] at h4; simp; omega
        · rw [if_neg h4]; rw [L_lt, e2] at h4; simp; omega
theorem tdiv_pos {b g : Int} (h0 : g ≠ 0) (h1 : g.natAbs ≤ b.natAbs) (hs : 0 ≤ g ↔ 0 ≤ b) : 1 ≤ b.tdiv g := by
  have e1 : (b.tdiv g).natAbs = b.natAbs / g.natAbs := Int.natAbs_tdiv b g
  have e2 : 0 < b.natAbs / g.natAbs := Nat.div_pos h1 (by omega)
  have e3 : 0 ≤ b.tdiv g := by
    rcases Int.le_total 0 g with q | q
    · exact Int.tdiv_nonneg (hs.mp q) q
    · have q2 : b ≤ 0 := by omega
      exact Int.tdiv_nonneg_of_nonpos_of_nonpos q2 q
  omega
theorem low_core (a b : Int64) (hb : ¬ b = 0) : ¬ f_kr_gcd a b = 0 ∧ (f_kv_fits (a / f_kr_gcd a b) (b / f_kr_gcd a b) = 0 ↔ (f_mo_lowest a b).1 = 0) ∧ (¬ f_kv_fits (a / f_kr_gcd a b) (b / f_kr_gcd a b) = 0 → (f_mo_lowest a b).2.1 = a / f_kr_gcd a b ∧ (f_mo_lowest a b).2.2 = b / f_kr_gcd a b) := by
  have hg0 : ¬ gcdL 200 a b = 0 := gcdL_y (k := 199) hb
  have hsz := gcd_sz 200 a b (euc_all a b) hb
  unfold f_kr_gcd f_mo_lowest
  generalize gcdL 200 a b = g at hg0 hsz
  have e0 : (0 : Int64).toInt = 0 := by decide
  have g0 := L_ne0.mp hg0
  have b0 := L_ne0.mp hb
  have ha1 := L_lo a
  have hb1 := L_lo b
  have hb2 := L_hi b
  have hg1 := L_lo g
  have hg2 := L_hi g
  by_cases hs : 0 ≤ g.toInt ↔ 0 ≤ b.toInt
  · have hd : kr_gcdE b g = g := by
      unfold kr_gcdE
      by_cases h1 : 0 ≤ g
      · rw [if_pos h1, if_pos (L_le.mpr (by rw [e0]; rw [L_le, e0] at h1; omega))]
      · rw [if_neg h1, if_neg (fun q => h1 (L_le.mpr (by rw [e0]; rw [L_le, e0] at q; omega)))]
    rw [hd]
    have hP : 1 ≤ (b / g).toInt ∨ (b / g).toInt = -9223372036854775808 := by
      by_cases hm : b.toInt = -9223372036854775808 ∧ g.toInt = -1
      · exact Or.inr (L_wrap hm.1 hm.2)
      · left
        rw [L_div (by omega)]
        exact tdiv_pos g0 hsz hs
    refine ⟨hg0, ?_⟩
    by_cases h1 : f_mo_isIn (a / g) = 0
    · rw [if_pos h1]
      refine ⟨⟨fun _ => rfl, fun _ => ?_⟩, fun h => absurd (fits_iff.mpr ?_) h⟩
      · rw [fits_iff]; rw [isIn_iff] at h1; omega
      · rw [isIn_iff] at h1; omega
    · rw [if_neg h1]
      by_cases h2 : f_mo_isIn (b / g) = 0
      · rw [if_pos h2]
        refine ⟨⟨fun _ => rfl, fun _ => ?_⟩, fun h => absurd (fits_iff.mpr ?_) h⟩
        · rw [fits_iff]; rw [isIn_iff] at h2; omega
        · rw [isIn_iff] at h2; omega
      · rw [if_neg h2]
        rw [isIn_iff] at h1 h2
        have h3 : 0 ≤ b / g := L_le.mpr (by rw [e0]; omega)
        rw [if_pos h3, if_pos h3]
        refine ⟨⟨fun q => ?_, fun q => absurd q (show ¬ (1 : Int32) = 0 by decide)⟩, fun _ => ⟨rfl, rfl⟩⟩
        rw [fits_iff] at q
        omega
  · have hd : kr_gcdE b g = -g := by
      unfold kr_gcdE
      by_cases h1 : 0 ≤ g
      · rw [if_pos h1, if_neg (fun q => hs (by rw [L_le, e0] at h1 q; omega))]
      · rw [if_neg h1, if_pos (L_le.mpr (by rw [e0]; rw [L_le, e0] at h1; omega))]
    rw [hd]
    have hgm : g.toInt ≠ -9223372036854775808 := by omega
    have hdi := L_neg hgm
    have hng : ¬ -g = 0 := L_ne0.mpr (by omega)
    have hqb : (b / g).toInt ≤ -1 ∧ ((b / -g).toInt = -(b / g).toInt ∨ ((b / -g).toInt = -9223372036854775808 ∧ (b / g).toInt = -9223372036854775808)) := by
      have h1 : (b / g).toInt = b.toInt.tdiv g.toInt := L_div (by omega)
      have h3 := tdiv_pos (b := b.toInt) (g := -g.toInt) (by omega) (by omega) (by omega)
      rw [Int.tdiv_neg] at h3
      refine ⟨by rw [h1]; omega, ?_⟩
      by_cases hm : b.toInt = -9223372036854775808 ∧ (-g).toInt = -1
      · right
        refine ⟨L_wrap hm.1 hm.2, ?_⟩
        rw [h1, hm.1, show g.toInt = 1 by omega]
        rfl
      · left
        rw [L_div (by omega), h1, hdi, Int.tdiv_neg]
    have hqa : (a / -g).toInt = -(a / g).toInt ∨ ((a / -g).toInt = -9223372036854775808 ∧ (a / g).toInt = -9223372036854775808) := by
      by_cases hm : a.toInt = -9223372036854775808 ∧ (-g).toInt = -1
      · right
        refine ⟨L_wrap hm.1 hm.2, ?_⟩
        rw [L_div (by omega), hm.1, show g.toInt = 1 by omega]
        rfl
      · by_cases hm2 : a.toInt = -9223372036854775808 ∧ g.toInt = -1
        · right
          refine ⟨?_, L_wrap hm2.1 hm2.2⟩
          rw [L_div (by omega), hm2.1, show (-g).toInt = 1 by omega]
          rfl
        · left
          rw [L_div (by omega), L_div (by omega), hdi, Int.tdiv_neg]
    refine ⟨hng, ?_⟩
    by_cases h1 : f_mo_isIn (a / g) = 0
    · rw [if_pos h1]
      refine ⟨⟨fun _ => rfl, fun _ => ?_⟩, fun h => absurd (fits_iff.mpr ?_) h⟩
      · rw [fits_iff]; rw [isIn_iff] at h1; omega
      · rw [isIn_iff] at h1; omega
    · rw [if_neg h1]
      by_cases h2 : f_mo_isIn (b / g) = 0
      · rw [if_pos h2]
        refine ⟨⟨fun _ => rfl, fun _ => ?_⟩, fun h => absurd (fits_iff.mpr ?_) h⟩
        · rw [fits_iff]; rw [isIn_iff] at h2; omega
        · rw [isIn_iff] at h2; omega
      · rw [if_neg h2]
        rw [isIn_iff] at h1 h2
        have h3 : ¬ 0 ≤ b / g := fun q => by rw [L_le, e0] at q; omega
        rw [if_neg h3, if_neg h3]
        refine ⟨⟨fun q => ?_, fun q => absurd q (show ¬ (1 : Int32) = 0 by decide)⟩, fun _ => ⟨L_inj ?_, L_inj ?_⟩⟩
        · rw [fits_iff] at q
          omega
        · show (-(a / g)).toInt = _
          rw [L_neg (by omega)]
          omega
        · show (-(b / g)).toInt = _
          rw [L_neg (by omega)]
          omega
/-- the values of both -/
def RV (cnt : Int32) (fu fl : Nat → Int32) (mv : Int32) (gu gd : Nat → Int64) : Prop := mv = cnt ∧ vp_in cnt 301 ∧ ∀ i, i < cnt.toNatClampNeg → gu i = (fu i).toInt64 ∧ gd i = (fl i).toInt64 ∧ (-1000000000 ≤ (fu i).toInt ∧ (fu i).toInt ≤ 1000000000) ∧ 1 ≤ (fl i).toInt ∧ (fl i).toInt ≤ 1000000000
theorem RV.has {cnt mv : Int32} {fu fl : Nat → Int32} {gu gd : Nat → Int64} (h : RV cnt fu fl mv gu gd) {v : Int32} (hv : ¬ f_kv_has cnt v = 0) : gu v.toNatClampNeg = (fu v.toNatClampNeg).toInt64 ∧ gd v.toNatClampNeg = (fl v.toNatClampNeg).toInt64 ∧ (-1000000000 ≤ (fu v.toNatClampNeg).toInt ∧ (fu v.toNatClampNeg).toInt ≤ 1000000000) ∧ 1 ≤ (fl v.toNatClampNeg).toInt ∧ (fl v.toNatClampNeg).toInt ≤ 1000000000 := by
  refine h.2.2 _ ?_
  obtain ⟨n, hn, e⟩ := vp_in_of h.2.1 (by decide)
  unfold f_kv_has at hv
  by_cases h1 : v < 0
  · rw [if_pos h1] at hv; exact absurd rfl hv
  · rw [if_neg h1] at hv
    by_cases h2 : cnt ≤ v
    · rw [if_pos h2] at hv; exact absurd rfl hv
    · obtain ⟨j, hj, ej⟩ := nI_of h1
      subst ej
      subst e
      rw [nI_leI (by omega) hj] at h2
      rw [nI_clamp hj, nI_clamp (by omega)]
      omega
theorem isValue_has {mv v : Int32} : f_mo_isValue mv v = f_kv_has mv v := rfl
theorem keep_core {cnt mv : Int32} {fu fl : Nat → Int32} {gu gd : Nat → Int64} (h : RV cnt fu fl mv gu gd) {a b : Int64} (hb : ¬ b = 0) :
    (f_kv_keep cnt fu fl a b).1 = (f_mo_keep mv gu gd a b).1 ∧ RV (f_kv_keep cnt fu fl a b).2.2.2 (f_kv_keep cnt fu fl a b).2.1 (f_kv_keep cnt fu fl a b).2.2.1 (f_mo_keep mv gu gd a b).2.2.2.1 (f_mo_keep mv gu gd a b).2.1 (f_mo_keep mv gu gd a b).2.2.1 ∧ cnt.toNatClampNeg ≤ (f_kv_keep cnt fu fl a b).2.2.2.toNatClampNeg := by
  obtain ⟨h1, h2, h3⟩ := low_core a b hb
  obtain ⟨rfl, hc, hall⟩ := h
  unfold f_kv_keep f_mo_keep
  rw [if_neg h1]
  by_cases hf : f_kv_fits (a / f_kr_gcd a b) (b / f_kr_gcd a b) = 0
  · rw [if_pos (h2.mp hf), if_pos hf]
    by_cases h4 : mv < 300
    · rw [if_pos h4]; exact ⟨rfl, ⟨rfl, hc, hall⟩, Nat.le_refl _⟩
    · rw [if_neg h4]; exact ⟨rfl, ⟨rfl, hc, hall⟩, Nat.le_refl _⟩
  · rw [if_neg (fun q => hf (h2.mpr q)), if_neg hf]
    obtain ⟨e1, e2⟩ := h3 hf
    rw [fits_iff] at hf
    obtain ⟨n, hn, en⟩ := vp_in_of hc (by decide)
    subst en
    by_cases h4 : n = 300
    · subst h4
      rw [if_neg (show ¬ nI 300 < 300 by decide), if_pos (show nI 300 = 300 by decide)]
      exact ⟨rfl, ⟨rfl, hc, hall⟩, Nat.le_refl _⟩
    · rw [if_pos (show nI n < 300 from nI_lt (a := n) (b := 300) (by omega) (by decide)), if_neg (show ¬ nI n = 300 from fun q => h4 ((nI_eq (a := n) (b := 300) (by omega) (by decide)).mp q))]
      rw [nI_1, nI_clamp (by omega)]
      refine ⟨rfl, ⟨rfl, vp_in_nI (by omega) (by decide), fun i hi => ?_⟩, ?_⟩
      · show vp_updL gu n (f_mo_lowest a b).2.1 i = (upd fu n _ i).toInt64 ∧ vp_updL gd n (f_mo_lowest a b).2.2 i = (upd fl n _ i).toInt64 ∧ (-1000000000 ≤ (upd fu n _ i).toInt ∧ (upd fu n _ i).toInt ≤ 1000000000) ∧ 1 ≤ (upd fl n _ i).toInt ∧ (upd fl n _ i).toInt ≤ 1000000000
        rw [nI_clamp (by omega)] at hi
        unfold vp_updL upd
        by_cases h5 : i = n
        · rw [if_pos h5, if_pos h5, if_pos h5, if_pos h5, e1, e2]
          refine ⟨(i2l_l2i (by omega) (by omega)).symm, (i2l_l2i (by omega) (by omega)).symm, ?_, ?_⟩
          · rw [l2i_int (by omega) (by omega)]; omega
          · rw [l2i_int (by omega) (by omega)]; omega
        · rw [if_neg h5, if_neg h5, if_neg h5, if_neg h5]
          exact hall i (by rw [nI_clamp (by omega)]; omega)
      · show n ≤ (nI (n + 1)).toNatClampNeg
        rw [nI_clamp (by omega)]
        omega

