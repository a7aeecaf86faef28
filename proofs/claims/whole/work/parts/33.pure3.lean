/-! ===== digits, sums ===== -/
theorem I_bm {z : Int} (h1 : -2147483648 ≤ z) (h2 : z ≤ 2147483647) : z.bmod (2 ^ 32) = z := by
  rw [Int.bmod_def]
  split <;> omega
theorem I_neg {x : Int32} (h : x.toInt ≠ -2147483648) : (-x).toInt = -x.toInt := by
  have h1 := I_lo x
  have h2 := I_hi x
  rw [Int32.toInt_neg]
  exact I_bm (by omega) (by omega)
theorem I_div10 {r : Int32} (h : 0 ≤ r.toInt) : (r / 10).toInt = r.toInt / 10 := by
  have h2 := I_hi r
  rw [Int32.toInt_div, show (10 : Int32).toInt = 10 by decide, Int.tdiv_eq_ediv_of_nonneg h]
  exact I_bm (by omega) (by omega)
theorem L_div10 {r : Int64} (h : 0 ≤ r.toInt) : (r / 10).toInt = r.toInt / 10 := by
  rw [L_div (by omega), show (10 : Int64).toInt = 10 by decide, Int.tdiv_eq_ediv_of_nonneg h]
theorem I_rem10 {r : Int32} (h : 0 ≤ r.toInt) : (r - r / 10 * 10).toInt = r.toInt % 10 := by
  have h2 := I_hi r
  have e1 := I_div10 h
  have e2 : (r / 10 * 10).toInt = r.toInt / 10 * 10 := by
    rw [Int32.toInt_mul, e1, show (10 : Int32).toInt = 10 by decide]
    exact I_bm (by omega) (by omega)
  rw [Int32.toInt_sub, e2, I_bm (by omega) (by omega)]
  omega
theorem L_rem10 {r : Int64} (h : 0 ≤ r.toInt) : (r - r / 10 * 10).toInt = r.toInt % 10 := by
  rw [L_rem (by decide), show (10 : Int64).toInt = 10 by decide, Int.tmod_eq_emod_of_nonneg h]
theorem dig_rel : ∀ (n : Nat) (r : Int32), 0 ≤ r.toInt → dgL n r.toInt64 = (digL n r).toInt64 ∧ 0 ≤ (digL n r).toInt
  | 0, r, h => ⟨rfl, h⟩
  | n + 1, r, h => by
    have e : r.toInt64 / 10 = (r / 10).toInt64 := L_inj (by rw [L_div10 (by rw [L_i]; exact h), L_i, L_i, I_div10 h])
    rw [dgL, digL, e]
    exact dig_rel n (r / 10) (by rw [I_div10 h]; omega)
theorem dig_end {r : Int32} (h : 0 ≤ r.toInt) : (r.toInt64 - r.toInt64 / 10 * 10).toInt32 = r - r / 10 * 10 := by
  have h2 := I_hi r
  have e1 : (r.toInt64 - r.toInt64 / 10 * 10).toInt = r.toInt % 10 := by rw [L_rem10 (by rw [L_i]; exact h), L_i]
  refine I_inj ?_
  rw [l2i_int (by omega) (by omega), e1, I_rem10 h]
theorem dig_all {i : Int32} {r : Int32} (n : Nat) (h : 0 ≤ r.toInt) : (if dgL n r.toInt64 = 0 then if i ≤ 0 then ((dgL n r.toInt64 - dgL n r.toInt64 / 10 * 10).toInt32, (0 : Int32)) else (-1, 0) else ((dgL n r.toInt64 - dgL n r.toInt64 / 10 * 10).toInt32, 0)) = (kr_digitE i (digL n r), 0) := by
  obtain ⟨e1, h1⟩ := dig_rel n r h
  rw [e1, dig_end h1]
  unfold kr_digitE
  by_cases c1 : i ≤ 0
  · rw [if_pos c1, if_pos c1, ite_self]
  · rw [if_neg c1, if_neg c1]
    by_cases c2 : digL n r = 0
    · rw [if_pos c2, if_pos (by rw [c2]; rfl)]
    · rw [if_neg c2, if_neg (fun q => c2 (I_inj (by rw [← L_i, q]; decide)))]
section PD
variable {cnt mv : Int32} {fu fl : Nat → Int32} {gu gd : Nat → Int64} {up dn : Int64}
theorem digit_core (h : RV cnt fu fl mv gu gd) {a q i : Int32} : f_mo_digit mv gu gd a q i = (f_kr_digit cnt fu fl a q i, 0) := by
  unfold f_mo_digit f_kr_digit
  rw [isValue_has, h.1]
  by_cases ha : f_kv_has cnt a = 0
  · rw [if_pos ha, if_pos ha]
  · rw [if_neg ha, if_neg ha]
    obtain ⟨a1, a2, p1, p2⟩ := h.has ha
    by_cases hq : f_kr_isPart q = 0
    · rw [if_pos hq]
      by_cases h1 : q < 0
      · rw [if_pos h1]
      · rw [if_neg h1]
        by_cases h2 : 1 < q
        · rw [if_pos h2]
        · exact absurd hq (part_rg.mpr ⟨h1, by rw [Int32.le_iff_toInt_le]; rw [Int32.lt_iff_toInt_lt] at h2; omega⟩)
    · obtain ⟨q1, q2⟩ := part_rg.mp hq
      rw [if_neg hq, if_neg q1, if_neg (show ¬ 1 < q by rw [Int32.lt_iff_toInt_lt]; rw [Int32.le_iff_toInt_le] at q2; omega)]
      by_cases h3 : i < 0
      · rw [if_pos h3, if_pos h3]
      · rw [if_neg h3, if_neg h3]
        have e9 : i ≤ 9 ↔ i < 10 := by
          rw [Int32.le_iff_toInt_le, Int32.lt_iff_toInt_lt, show (9 : Int32).toInt = 9 by decide, show (10 : Int32).toInt = 10 by decide]; omega
        by_cases h4 : i < 10
        · rw [if_pos h4, if_pos (e9.mpr h4)]
          unfold f_kv_partOf f_jm_abs
          rcases part_or.mp hq with rfl | rfl
          · rw [if_neg (show ¬ (0 : Int32) = 1 by decide), if_pos rfl, a1]
            by_cases h5 : 0 ≤ fu a.toNatClampNeg
            · have h6 : 0 ≤ (fu a.toNatClampNeg).toInt := by rw [Int32.le_iff_toInt_le, show (0 : Int32).toInt = 0 by decide] at h5; exact h5
              rw [if_pos h5, if_pos (show 0 ≤ (fu a.toNatClampNeg).toInt64 by rw [L_le, L_i, show (0 : Int64).toInt = 0 by decide]; exact h6)]
              exact dig_all _ h6
            · have h6 : ¬ 0 ≤ (fu a.toNatClampNeg).toInt := by rw [Int32.le_iff_toInt_le, show (0 : Int32).toInt = 0 by decide] at h5; exact h5
              have e : -(fu a.toNatClampNeg).toInt64 = (-(fu a.toNatClampNeg)).toInt64 := L_inj (by rw [L_neg (by rw [L_i]; omega), L_i, L_i, I_neg (by omega)])
              rw [if_neg h5, if_neg (show ¬ 0 ≤ (fu a.toNatClampNeg).toInt64 by rw [L_le, L_i, show (0 : Int64).toInt = 0 by decide]; exact h6), e]
              exact dig_all _ (by rw [I_neg (by omega)]; omega)
          · rw [if_pos rfl, if_neg (show ¬ (1 : Int32) = 0 by decide), a2]
            have h6 : 0 ≤ (fl a.toNatClampNeg).toInt := by omega
            rw [if_pos (show 0 ≤ fl a.toNatClampNeg by rw [Int32.le_iff_toInt_le, show (0 : Int32).toInt = 0 by decide]; exact h6)]
            exact dig_all _ h6
        · rw [if_neg h4, if_neg (fun z => h4 (e9.mp z))]
theorem prL_pos {x y : Int64} (hx : 1 ≤ x.toInt ∧ x.toInt ≤ 1000000000) (hy : 1 ≤ y.toInt ∧ y.toInt ≤ 1000000000) : (x * y).toInt = x.toInt * y.toInt ∧ 1 ≤ x.toInt * y.toInt ∧ x.toInt * y.toInt ≤ 1000000000000000000 := by
  have h1 : 1 ≤ x.toInt * y.toInt := by
    have := Int.mul_le_mul hx.1 hy.1 (by decide) (by omega)
    omega
  have h2 : x.toInt * y.toInt ≤ 1000000000000000000 := by
    have := Int.mul_le_mul hx.2 hy.2 (by omega) (by decide)
    omega
  exact ⟨L_mul (by omega) (by omega), h1, h2⟩
theorem sum_loop (h : RV cnt fu fl mv gu gd) {nk r : Nat} {rowc mr : Int32} {fc gc : Nat → Int32} (hn : nk ≤ 16) (hr : r < 20) (hC : RC nk cnt rowc fc mr gc) :
    ∀ (n j : Nat) (y : Int32) (u v up dn : Int64), j + n = nk → (1 ≤ v.toInt ∧ v.toInt ≤ 1000000000) →
      (msL gu gd gc (nI r) n j y u v up dn).1 = smL cnt fu fl fc (nI r) (nI nk) n j y u v ∧ msOk gu gd gc (nI r) n j u v ∧ ∀ y' u' v', smL cnt fu fl fc (nI r) (nI nk) n j y u v = some (y', u', v') → ¬ v' = 0 := by
  intro n
  induction n with
  | zero =>
    intro j y u v up dn hj hv
    refine ⟨rfl, trivial, fun y' u' v' q => ?_⟩
    rw [smL] at q
    cases q
    exact L_ne0.mpr (by omega)
  | succ n ih =>
    intro j y u v up dn hj hv
    obtain ⟨i1, i2⟩ := cell_ix hn hr (show j < nk by omega)
    obtain ⟨ec, hcc⟩ := hC.2.2 r hr j (by omega)
    rw [msL, smL, msOk, i1, i2, ec]
    generalize fc (r * nk + j) = x at hcc
    rcases hcc with rfl | hx
    · rw [if_pos (show (-1 : Int32) < 0 by decide), if_pos (show f_kv_has cnt (-1) = 0 by unfold f_kv_has; rw [if_pos (by decide)])]
      obtain ⟨k1, k2, k3⟩ := ih (j + 1) y u v up dn (by omega) hv
      exact ⟨k1, ⟨fun _ => k2, fun q => absurd (by decide) q⟩, k3⟩
    · obtain ⟨c, hc, e⟩ := vp_in_of h.2.1 (by decide)
      obtain ⟨w, hw, e2⟩ := vp_in_of hx (by subst e; rw [nI_clamp (by omega)]; omega)
      subst e2
      have hcl : cnt.toNatClampNeg = c := by rw [e, nI_clamp (by omega)]
      have n0 : ¬ nI w < 0 := nI_pos (by omega)
      have hh : ¬ f_kv_has cnt (nI w) = 0 := by
        unfold f_kv_has
        rw [if_neg n0, if_neg (show ¬ cnt ≤ nI w by rw [e]; exact nI_ge (by omega) (by omega))]
        decide
      obtain ⟨b1, b2, p1, p2⟩ := h.has hh
      rw [if_neg n0, if_neg hh, b1, b2]
      unfold f_kv_upper f_kv_lower
      generalize hA : u * (fl (nI w).toNatClampNeg).toInt64 + (fu (nI w).toNatClampNeg).toInt64 * v = A
      obtain ⟨v1, v2, -⟩ := prL_pos hv (y := (fl (nI w).toNatClampNeg).toInt64) (by rw [L_i]; exact p2)
      have hB0 : ¬ v * (fl (nI w).toNatClampNeg).toInt64 = 0 := L_ne0.mpr (by omega)
      generalize hB : v * (fl (nI w).toNatClampNeg).toInt64 = B at hB0
      obtain ⟨g0, g1, g2⟩ := low_core A B hB0
      rw [if_neg g0]
      have hin : vp_in (nI w) 300 := vp_in_nI (by omega) (by decide)
      by_cases hf : f_kv_fits (A / f_kr_gcd A B) (B / f_kr_gcd A B) = 0
      · rw [if_pos hf, if_pos (g1.mp hf)]
        exact ⟨rfl, ⟨fun q => absurd q n0, fun _ => ⟨hin, hB0, fun q => absurd (g1.mp hf) q⟩⟩, fun _ _ _ q => nomatch q⟩
      · obtain ⟨z1, z2⟩ := g2 hf
        rw [if_neg hf, if_neg (fun q => hf (g1.mpr q)), z1, z2]
        obtain ⟨k1, k2, k3⟩ := ih (j + 1) 1 (A / f_kr_gcd A B) (B / f_kr_gcd A B) (A / f_kr_gcd A B) (B / f_kr_gcd A B) (by omega) (by rw [fits_iff] at hf; omega)
        exact ⟨k1, ⟨fun q => absurd q n0, fun _ => ⟨hin, hB0, fun _ => k2⟩⟩, k3⟩
theorem sum_hok (h : RV cnt fu fl mv gu gd) {nk : Nat} {rowc mr : Int32} {fc gc : Nat → Int32} (hn : nk ≤ 16) (hC : RC nk cnt rowc fc mr gc) {row : Int32} : ¬ f_mo_isRow mr row = 0 → msOk gu gd gc row nk 0 0 1 := by
  intro hr
  obtain ⟨r, hr2, er⟩ := in_mrow (by rw [hC.1]; exact hC.2.1) hr
  subst er
  exact (sum_loop h hn hr2 hC nk 0 0 0 1 0 0 (by omega) (by decide)).2.1
theorem sum_hke (h : RV cnt fu fl mv gu gd) {nk : Nat} {rowc mr : Int32} {fc gc : Nat → Int32} (hn : nk ≤ 16) (hC : RC nk cnt rowc fc mr gc) {row : Int32} : ¬ f_mo_isRow mr row = 0 → ∀ y u v, (msL gu gd gc row nk 0 0 0 1 up dn).1 = some (y, u, v) → ¬ y = 0 → ¬ v = 0 := by
  intro hr y u v q _
  obtain ⟨r, hr2, er⟩ := in_mrow (by rw [hC.1]; exact hC.2.1) hr
  subst er
  obtain ⟨k1, -, k3⟩ := sum_loop h hn hr2 hC nk 0 0 0 1 up dn (by omega) (by decide)
  exact k3 y u v (k1 ▸ q)
theorem sum_core (h : RV cnt fu fl mv gu gd) {nk : Nat} {kinds mk rowc mr : Int32} {fc gc : Nat → Int32} (hn : kinds = nI nk ∧ nk ≤ 16) (hC : RC nk cnt rowc fc mr gc) {row : Int32} : OV cnt (f_kr_sum kinds rowc nk fc cnt fu fl row) (f_mo_sum mk mv up dn mr gu gd gc row nk) := by
  unfold f_kr_sum f_mo_sum
  have em : mr = rowc := hC.1
  rw [em, show f_mo_isRow rowc row = f_kr_hasRow rowc row from rfl]
  by_cases hr : f_kr_hasRow rowc row = 0
  · rw [if_pos hr, if_pos hr]; exact OV_stay h
  · rw [if_neg hr, if_neg hr]
    obtain ⟨r, hr2, er⟩ := in_row hC.2.1 hr
    subst er
    rw [hn.1]
    obtain ⟨k1, -, k3⟩ := sum_loop h hn.2 hr2 hC nk 0 0 0 1 up dn (by omega) (by decide)
    generalize hm : msL gu gd gc (nI r) nk 0 0 0 1 up dn = M at k1
    obtain ⟨o, U2, Z2⟩ := M
    rw [← k1] at k3 ⊢
    cases o with
    | none => exact OV_stay h
    | some t =>
      obtain ⟨y2, u2, v2⟩ := t
      show OV cnt (if y2 = 0 then _ else _) (if y2 = 0 then _ else _)
      by_cases hy : y2 = 0
      · rw [if_pos hy, if_pos hy]; exact OV_stay h
      · rw [if_neg hy, if_neg hy]
        exact OV_keep h (k3 y2 u2 v2 rfl)
end PD

