/-! ===== elimination without fractions ===== -/
theorem elR_spec {o r : Nat} (hor : ¬ o = r) {pv fc bf : Int64} : ∀ (k j0 : Nat) (X : Nat → Nat → Int64) (i j : Nat), elR o r pv fc bf k j0 X i j = if i = o ∧ j0 ≤ j ∧ j < j0 + k then (pv * X o j - fc * X r j) / bf else X i j
  | 0, j0, X, i, j => by rw [elR, if_neg (by omega)]
  | k + 1, j0, X, i, j => by
    rw [elR, elR_spec hor k (j0 + 1)]
    have hr : ∀ t, va_up X o (vp_updL (X o) j0 ((pv * X o j0 - fc * X r j0) / bf)) r t = X r t := fun t => by rw [va_up, if_neg (fun z => hor z.symm)]
    by_cases c1 : i = o ∧ j0 + 1 ≤ j ∧ j < j0 + 1 + k
    · rw [if_pos c1, if_pos (by omega), hr, va_up, if_pos rfl, vp_updL, if_neg (by omega)]
    · rw [if_neg c1]
      by_cases c2 : i = o
      · subst c2
        rw [va_up, if_pos rfl, vp_updL]
        by_cases c3 : j = j0
        · subst c3; rw [if_pos rfl, if_pos (by omega)]
        · rw [if_neg c3, if_neg (by omega)]
      · rw [va_up, if_neg c2, if_neg (by omega)]
theorem soI_spec {r q : Nat} {bf : Int64} (hb : ¬ bf = 0) : ∀ (k o : Nat) (X : Nat → Nat → Int64) (i j : Nat), soI r q bf k o X i j = if (o ≤ i ∧ i < o + k ∧ ¬ i = r) ∧ j < 5 then (X r q * X i j - X i q * X r j) / bf else X i j
  | 0, o, X, i, j => by rw [soI, if_neg (by omega)]
  | k + 1, o, X, i, j => by
    rw [soI]
    by_cases c1 : o = r
    · rw [if_pos c1, soI_spec hb k (o + 1)]
      by_cases c2 : (o + 1 ≤ i ∧ i < o + 1 + k ∧ ¬ i = r) ∧ j < 5
      · rw [if_pos c2, if_pos (by omega)]
      · rw [if_neg c2, if_neg (by omega)]
    · rw [if_neg c1, soI_spec hb k (o + 1)]
      have he : ∀ i j, f_ks_elim X o r q bf i j = if i = o ∧ 0 ≤ j ∧ j < 0 + 5 then (X r q * X o j - X o q * X r j) / bf else X i j := fun i j => by
        unfold f_ks_elim
        rw [if_neg hb]
        exact elR_spec c1 5 0 X i j
      have hr : ∀ j, f_ks_elim X o r q bf r j = X r j := fun j => by rw [he, if_neg (by omega)]
      by_cases c2 : (o + 1 ≤ i ∧ i < o + 1 + k ∧ ¬ i = r) ∧ j < 5
      · rw [if_pos c2, if_pos (by omega), hr, hr, he, he, if_neg (by omega), if_neg (by omega)]
      · rw [if_neg c2, he]
        by_cases c3 : i = o ∧ 0 ≤ j ∧ j < 0 + 5
        · rw [if_pos c3, if_pos (by omega), c3.1]
        · rw [if_neg c3, if_neg (by omega)]
theorem pvL_spec (f : Nat → Int64) : ∀ (n j : Nat), (pvL f n j = -1 ∧ ∀ t, j ≤ t → t < j + n → f t = 0) ∨ ∃ q, j ≤ q ∧ q < j + n ∧ ¬ f q = 0 ∧ pvL f n j = nI q
  | 0, j => Or.inl ⟨rfl, fun t h1 h2 => by omega⟩
  | n + 1, j => by
    rw [pvL]
    by_cases c1 : f j = 0
    · rw [if_pos c1]
      rcases pvL_spec f n (j + 1) with ⟨h1, h2⟩ | ⟨q, h1, h2, h3, h4⟩
      · refine Or.inl ⟨h1, fun t a b => ?_⟩
        by_cases e : t = j
        · subst e; exact c1
        · exact h2 t (by omega) (by omega)
      · exact Or.inr ⟨q, by omega, by omega, h3, h4⟩
    · rw [if_neg c1]
      exact Or.inr ⟨j, by omega, by omega, c1, rfl⟩
theorem cpR_spec (E : Nat → Nat → Int32) (i0 : Nat) : ∀ (k j0 : Nat) (X : Nat → Nat → Int64) (i j : Nat), cpR E i0 k j0 X i j = if i = i0 ∧ j0 ≤ j ∧ j < j0 + k then (E i0 j).toInt64 else X i j
  | 0, j0, X, i, j => by rw [cpR, if_neg (by omega)]
  | k + 1, j0, X, i, j => by
    rw [cpR, cpR_spec E i0 k (j0 + 1)]
    by_cases c1 : i = i0 ∧ j0 + 1 ≤ j ∧ j < j0 + 1 + k
    · rw [if_pos c1, if_pos (by omega)]
    · rw [if_neg c1]
      by_cases c2 : i = i0
      · subst c2
        rw [va_up, if_pos rfl, vp_updL]
        by_cases c3 : j = j0
        · subst c3; rw [if_pos rfl, if_pos (by omega)]
        · rw [if_neg c3, if_neg (by omega)]
      · rw [va_up, if_neg c2, if_neg (by omega)]
theorem cpL_spec (E : Nat → Nat → Int32) : ∀ (d i0 : Nat) (X : Nat → Nat → Int64) (i j : Nat), cpL E d i0 X i j = if (i0 ≤ i ∧ i < i0 + d) ∧ j < 5 then (E i j).toInt64 else X i j
  | 0, i0, X, i, j => by rw [cpL, if_neg (by omega)]
  | d + 1, i0, X, i, j => by
    rw [cpL, cpL_spec E d (i0 + 1), cpR_spec]
    by_cases c1 : (i0 + 1 ≤ i ∧ i < i0 + 1 + d) ∧ j < 5
    · rw [if_pos c1, if_pos (by omega)]
    · rw [if_neg c1]
      by_cases c2 : i = i0 ∧ 0 ≤ j ∧ j < 0 + 5
      · rw [if_pos c2, if_pos (by omega), c2.1]
      · rw [if_neg c2, if_neg (by omega)]
theorem el_step {n r q : Nat} {X : Nat → Nat → Int64} {bf : Int64} {P Q : Nat → Nat → Int} {D : Int} (hr : r < n) (hq : q < 5) (hX : ∀ i, i < n → ∀ j, j < 5 → (X i j).toInt = P i j) (hb : bf.toInt = D) (hD : D ≠ 0) (hBr : ∀ j, j < 5 → (P r j).natAbs ≤ 2400000000) (hBo : ∀ i, i < n → ¬ i = r → ∀ j, j < 5 → (P i j).natAbs ≤ 6000000) (hid : ∀ i, i < n → ¬ i = r → ∀ j, j < 5 → P r q * P i j - P i q * P r j = D * Q i j) (hQr : ∀ j, j < 5 → Q r j = P r j) :
    ∀ i, i < n → ∀ j, j < 5 → (soI r q bf n 0 X i j).toInt = Q i j := by
  intro i hi j hj
  have hb0 : ¬ bf = 0 := L_ne0.mpr (by rw [hb]; exact hD)
  rw [soI_spec hb0]
  by_cases c1 : i = r
  · rw [if_neg (by omega), c1, hX r hr j hj, hQr j hj]
  · rw [if_pos (by omega)]
    have m1 := mulB (hBr q hq) (hBo i hi c1 j hj)
    have m2 := mulB (hBo i hi c1 q hq) (hBr j hj)
    have e1 : (X r q * X i j).toInt = P r q * P i j := by
      rw [L_mul (by rw [hX r hr q hq, hX i hi j hj]; omega) (by rw [hX r hr q hq, hX i hi j hj]; omega), hX r hr q hq, hX i hi j hj]
    have e2 : (X i q * X r j).toInt = P i q * P r j := by
      rw [L_mul (by rw [hX r hr j hj, hX i hi q hq]; omega) (by rw [hX r hr j hj, hX i hi q hq]; omega), hX r hr j hj, hX i hi q hq]
    have e3 : (X r q * X i j - X i q * X r j).toInt = D * Q i j := by
      rw [L_sub (by rw [e1, e2]; omega) (by rw [e1, e2]; omega), e1, e2, hid i hi c1 j hj]
    rw [L_div (Or.inl (by rw [e3, ← hid i hi c1 j hj]; omega)), e3, hb, Int.mul_tdiv_cancel_left _ hD]
def G1 (M : Nat → Nat → Int) (c0 i j : Nat) : Int := if i = 0 then M 0 j else d2 M 0 i c0 j
def G2 (M : Nat → Nat → Int) (c0 c1 i j : Nat) : Int := if i = 0 then d2 M 0 1 j c1 else if i = 1 then d2 M 0 1 c0 j else d3 M i c0 c1 j
def G3 (M : Nat → Nat → Int) (c0 c1 c2 i j : Nat) : Int := if i = 0 then d3 M 2 j c1 c2 else if i = 1 then d3 M 2 c0 j c2 else if i = 2 then d3 M 2 c0 c1 j else d4 M c0 c1 c2 j
def G4 (M : Nat → Nat → Int) (c0 c1 c2 c3 i j : Nat) : Int := if i = 0 then d4 M j c1 c2 c3 else if i = 1 then d4 M c0 j c2 c3 else if i = 2 then d4 M c0 c1 j c3 else d4 M c0 c1 c2 j
def dt (M : Nat → Nat → Int) (n : Nat) : Int := if n = 1 then M 0 0 else if n = 2 then d2 M 0 1 0 1 else if n = 3 then d3 M 2 0 1 2 else d4 M 0 1 2 3
def c4 (k x : Nat) : Nat := if x = k then 4 else x
def cr (M : Nat → Nat → Int) (n k : Nat) : Int := if n = 1 then M 0 (c4 k 0) else if n = 2 then d2 M 0 1 (c4 k 0) (c4 k 1) else if n = 3 then d3 M 2 (c4 k 0) (c4 k 1) (c4 k 2) else d4 M (c4 k 0) (c4 k 1) (c4 k 2) (c4 k 3)
def cs (a b c d r : Nat) : Nat := if r = 0 then a else if r = 1 then b else if r = 2 then c else d
/-- solved: pivots, numbers, all up to one sign -/
def fin (M : Nat → Nat → Int) (n : Nat) (X : Nat → Nat → Int64) (P : Nat → Int32) : Prop := dt M n ≠ 0 ∧ ∃ (c : Nat → Nat) (s : Int), (s = 1 ∨ s = -1) ∧ (∀ r, r < n → c r < n ∧ P r = nI (c r)) ∧ (∀ r, r < n → ∀ t, t < n → c r = c t → r = t) ∧ (∀ k, k < n → ∃ r, r < n ∧ c r = k) ∧ ∀ r, r < n → (X r 4).toInt = s * cr M n (c r) ∧ (X r (c r)).toInt = s * dt M n
section STG
variable {ge : Nat → Int32} {M : Nat → Nat → Int} {X : Nat → Nat → Int64} {P : Nat → Int32} {bf : Int64}
theorem fin_1 {c0 : Nat} (h0 : c0 < 1)  (hX : ∀ i, i < 1 → ∀ j, j < 5 → (X i j).toInt = G1 M c0 i j) (hD : M 0 c0 ≠ 0) (P0 : P 0 = nI c0) : fin M 1 X P := by
  obtain rfl : c0 = 0 := by omega
  refine ⟨?_, cs 0 0 0 0, 1, Or.inl rfl, fun r hr => ?_, by decide, by decide, fun r hr => ?_⟩
  · intro z; apply hD; have z9 : M 0 0 = 0 := z; have e9 : M 0 0 = 1 * (M 0 0) := (by simp); exact e9.trans (by rw [z9]; rfl)
  · rcases (show r = 0 by omega) with rfl
    · exact ⟨by decide, P0⟩
  · rcases (show r = 0 by omega) with rfl
    · have f4 : M 0 4 = 1 * (M 0 4) := by simp
      have f0 : M 0 0 = 1 * (M 0 0) := by simp
      exact ⟨(hX 0 (by decide) 4 (by decide)).trans f4, (hX 0 (by decide) 0 (by decide)).trans f0⟩
def pb_2 (c0 c1 : Nat) : Bool := (c0 == c1) || (([[0, 1], [1, 0]] : List (List Nat)).contains [c0, c1])
theorem pl_2 : ∀ c0, c0 < 2 → ∀ c1, c1 < 2 → pb_2 c0 c1 = true := by decide +kernel
theorem pm_2 {c0 c1 : Nat} (h0 : c0 < 2) (h1 : c1 < 2) (n01 : ¬ c0 = c1) : (c0 = 0 ∧ c1 = 1) ∨ (c0 = 1 ∧ c1 = 0) := by
  have h := pl_2 c0 h0 c1 h1
  simp only [pb_2, Bool.or_eq_true, beq_iff_eq, n01, false_or, List.contains_iff_mem, List.mem_cons, List.cons.injEq, List.not_mem_nil, or_false, and_true] at h
  exact h
theorem fin_2 {c0 c1 : Nat} (h0 : c0 < 2) (h1 : c1 < 2) (n01 : ¬ c0 = c1) (hX : ∀ i, i < 2 → ∀ j, j < 5 → (X i j).toInt = G2 M c0 c1 i j) (hD : d2 M 0 1 c0 c1 ≠ 0) (P0 : P 0 = nI c0) (P1 : P 1 = nI c1) : fin M 2 X P := by
  rcases pm_2 h0 h1 n01 with ⟨rfl, rfl⟩ | ⟨rfl, rfl⟩
  · refine ⟨?_, cs 0 1 0 0, 1, Or.inl rfl, fun r hr => ?_, by decide, by decide, fun r hr => ?_⟩
    · intro z; apply hD; have z9 : d2 M 0 1 0 1 = 0 := z; have e9 : d2 M 0 1 0 1 = 1 * (d2 M 0 1 0 1) := (by omega); exact e9.trans (by rw [z9]; rfl)
    · rcases (show r = 0 ∨ r = 1 by omega) with rfl | rfl
      · exact ⟨by decide, P0⟩
      · exact ⟨by decide, P1⟩
    · rcases (show r = 0 ∨ r = 1 by omega) with rfl | rfl
      · have f4 : d2 M 0 1 4 1 = 1 * (d2 M 0 1 4 1) := by omega
        have f0 : d2 M 0 1 0 1 = 1 * (d2 M 0 1 0 1) := by omega
        exact ⟨(hX 0 (by decide) 4 (by decide)).trans f4, (hX 0 (by decide) 0 (by decide)).trans f0⟩
      · have f4 : d2 M 0 1 0 4 = 1 * (d2 M 0 1 0 4) := by omega
        have f0 : d2 M 0 1 0 1 = 1 * (d2 M 0 1 0 1) := by omega
        exact ⟨(hX 1 (by decide) 4 (by decide)).trans f4, (hX 1 (by decide) 1 (by decide)).trans f0⟩
  · refine ⟨?_, cs 1 0 0 0, (-1), Or.inr rfl, fun r hr => ?_, by decide, by decide, fun r hr => ?_⟩
    · intro z; apply hD; have z9 : d2 M 0 1 0 1 = 0 := z; have e9 : d2 M 0 1 1 0 = (-1) * (d2 M 0 1 0 1) := (by rw [w2 M 0 1] <;> omega); exact e9.trans (by rw [z9]; rfl)
    · rcases (show r = 0 ∨ r = 1 by omega) with rfl | rfl
      · exact ⟨by decide, P0⟩
      · exact ⟨by decide, P1⟩
    · rcases (show r = 0 ∨ r = 1 by omega) with rfl | rfl
      · have f4 : d2 M 0 1 4 0 = (-1) * (d2 M 0 1 0 4) := by rw [w2 M 0 4] <;> omega
        have f0 : d2 M 0 1 1 0 = (-1) * (d2 M 0 1 0 1) := by rw [w2 M 0 1] <;> omega
        exact ⟨(hX 0 (by decide) 4 (by decide)).trans f4, (hX 0 (by decide) 1 (by decide)).trans f0⟩
      · have f4 : d2 M 0 1 1 4 = (-1) * (d2 M 0 1 4 1) := by rw [w2 M 4 1] <;> omega
        have f0 : d2 M 0 1 1 0 = (-1) * (d2 M 0 1 0 1) := by rw [w2 M 0 1] <;> omega
        exact ⟨(hX 1 (by decide) 4 (by decide)).trans f4, (hX 1 (by decide) 0 (by decide)).trans f0⟩
def pb_3 (c0 c1 c2 : Nat) : Bool := (c0 == c1) || ((c0 == c2) || ((c1 == c2) || (([[0, 1, 2], [0, 2, 1], [1, 0, 2], [1, 2, 0], [2, 0, 1], [2, 1, 0]] : List (List Nat)).contains [c0, c1, c2])))
theorem pl_3 : ∀ c0, c0 < 3 → ∀ c1, c1 < 3 → ∀ c2, c2 < 3 → pb_3 c0 c1 c2 = true := by decide +kernel
theorem pm_3 {c0 c1 c2 : Nat} (h0 : c0 < 3) (h1 : c1 < 3) (h2 : c2 < 3) (n01 : ¬ c0 = c1) (n02 : ¬ c0 = c2) (n12 : ¬ c1 = c2) : (c0 = 0 ∧ c1 = 1 ∧ c2 = 2) ∨ (c0 = 0 ∧ c1 = 2 ∧ c2 = 1) ∨ (c0 = 1 ∧ c1 = 0 ∧ c2 = 2) ∨ (c0 = 1 ∧ c1 = 2 ∧ c2 = 0) ∨ (c0 = 2 ∧ c1 = 0 ∧ c2 = 1) ∨ (c0 = 2 ∧ c1 = 1 ∧ c2 = 0) := by
  have h := pl_3 c0 h0 c1 h1 c2 h2
  simp only [pb_3, Bool.or_eq_true, beq_iff_eq, n01, n02, n12, false_or, List.contains_iff_mem, List.mem_cons, List.cons.injEq, List.not_mem_nil, or_false, and_true] at h
  exact h
theorem fin_3 {c0 c1 c2 : Nat} (h0 : c0 < 3) (h1 : c1 < 3) (h2 : c2 < 3) (n01 : ¬ c0 = c1) (n02 : ¬ c0 = c2) (n12 : ¬ c1 = c2) (hX : ∀ i, i < 3 → ∀ j, j < 5 → (X i j).toInt = G3 M c0 c1 c2 i j) (hD : d3 M 2 c0 c1 c2 ≠ 0) (P0 : P 0 = nI c0) (P1 : P 1 = nI c1) (P2 : P 2 = nI c2) : fin M 3 X P := by
  rcases pm_3 h0 h1 h2 n01 n02 n12 with ⟨rfl, rfl, rfl⟩ | ⟨rfl, rfl, rfl⟩ | ⟨rfl, rfl, rfl⟩ | ⟨rfl, rfl, rfl⟩ | ⟨rfl, rfl, rfl⟩ | ⟨rfl, rfl, rfl⟩
  · refine ⟨?_, cs 0 1 2 0, 1, Or.inl rfl, fun r hr => ?_, by decide, by decide, fun r hr => ?_⟩
    · intro z; apply hD; have z9 : d3 M 2 0 1 2 = 0 := z; have e9 : d3 M 2 0 1 2 = 1 * (d3 M 2 0 1 2) := (by rw [q3_012 M 0 1 2]; omega); exact e9.trans (by rw [z9]; rfl)
    · rcases (show r = 0 ∨ r = 1 ∨ r = 2 by omega) with rfl | rfl | rfl
      · exact ⟨by decide, P0⟩
      · exact ⟨by decide, P1⟩
      · exact ⟨by decide, P2⟩
    · rcases (show r = 0 ∨ r = 1 ∨ r = 2 by omega) with rfl | rfl | rfl
      · have f4 : d3 M 2 4 1 2 = 1 * (d3 M 2 4 1 2) := by rw [q3_012 M 4 1 2]; omega
        have f0 : d3 M 2 0 1 2 = 1 * (d3 M 2 0 1 2) := by rw [q3_012 M 0 1 2]; omega
        exact ⟨(hX 0 (by decide) 4 (by decide)).trans f4, (hX 0 (by decide) 0 (by decide)).trans f0⟩
      · have f4 : d3 M 2 0 4 2 = 1 * (d3 M 2 0 4 2) := by rw [q3_012 M 0 4 2]; omega
        have f0 : d3 M 2 0 1 2 = 1 * (d3 M 2 0 1 2) := by rw [q3_012 M 0 1 2]; omega
        exact ⟨(hX 1 (by decide) 4 (by decide)).trans f4, (hX 1 (by decide) 1 (by decide)).trans f0⟩
      · have f4 : d3 M 2 0 1 4 = 1 * (d3 M 2 0 1 4) := by rw [q3_012 M 0 1 4]; omega
        have f0 : d3 M 2 0 1 2 = 1 * (d3 M 2 0 1 2) := by rw [q3_012 M 0 1 2]; omega
        exact ⟨(hX 2 (by decide) 4 (by decide)).trans f4, (hX 2 (by decide) 2 (by decide)).trans f0⟩
  · refine ⟨?_, cs 0 2 1 0, (-1), Or.inr rfl, fun r hr => ?_, by decide, by decide, fun r hr => ?_⟩
    · intro z; apply hD; have z9 : d3 M 2 0 1 2 = 0 := z; have e9 : d3 M 2 0 2 1 = (-1) * (d3 M 2 0 1 2) := (by rw [q3_021 M 0 1 2]; omega); exact e9.trans (by rw [z9]; rfl)
    · rcases (show r = 0 ∨ r = 1 ∨ r = 2 by omega) with rfl | rfl | rfl
      · exact ⟨by decide, P0⟩
      · exact ⟨by decide, P1⟩
      · exact ⟨by decide, P2⟩
    · rcases (show r = 0 ∨ r = 1 ∨ r = 2 by omega) with rfl | rfl | rfl
      · have f4 : d3 M 2 4 2 1 = (-1) * (d3 M 2 4 1 2) := by rw [q3_021 M 4 1 2]; omega
        have f0 : d3 M 2 0 2 1 = (-1) * (d3 M 2 0 1 2) := by rw [q3_021 M 0 1 2]; omega
        exact ⟨(hX 0 (by decide) 4 (by decide)).trans f4, (hX 0 (by decide) 0 (by decide)).trans f0⟩
      · have f4 : d3 M 2 0 4 1 = (-1) * (d3 M 2 0 1 4) := by rw [q3_021 M 0 1 4]; omega
        have f0 : d3 M 2 0 2 1 = (-1) * (d3 M 2 0 1 2) := by rw [q3_021 M 0 1 2]; omega
        exact ⟨(hX 1 (by decide) 4 (by decide)).trans f4, (hX 1 (by decide) 2 (by decide)).trans f0⟩
      · have f4 : d3 M 2 0 2 4 = (-1) * (d3 M 2 0 4 2) := by rw [q3_021 M 0 4 2]; omega
        have f0 : d3 M 2 0 2 1 = (-1) * (d3 M 2 0 1 2) := by rw [q3_021 M 0 1 2]; omega
        exact ⟨(hX 2 (by decide) 4 (by decide)).trans f4, (hX 2 (by decide) 1 (by decide)).trans f0⟩
  · refine ⟨?_, cs 1 0 2 0, (-1), Or.inr rfl, fun r hr => ?_, by decide, by decide, fun r hr => ?_⟩
    · intro z; apply hD; have z9 : d3 M 2 0 1 2 = 0 := z; have e9 : d3 M 2 1 0 2 = (-1) * (d3 M 2 0 1 2) := (by rw [q3_102 M 0 1 2]; omega); exact e9.trans (by rw [z9]; rfl)
    · rcases (show r = 0 ∨ r = 1 ∨ r = 2 by omega) with rfl | rfl | rfl
      · exact ⟨by decide, P0⟩
      · exact ⟨by decide, P1⟩
      · exact ⟨by decide, P2⟩
    · rcases (show r = 0 ∨ r = 1 ∨ r = 2 by omega) with rfl | rfl | rfl
      · have f4 : d3 M 2 4 0 2 = (-1) * (d3 M 2 0 4 2) := by rw [q3_102 M 0 4 2]; omega
        have f0 : d3 M 2 1 0 2 = (-1) * (d3 M 2 0 1 2) := by rw [q3_102 M 0 1 2]; omega
        exact ⟨(hX 0 (by decide) 4 (by decide)).trans f4, (hX 0 (by decide) 1 (by decide)).trans f0⟩
      · have f4 : d3 M 2 1 4 2 = (-1) * (d3 M 2 4 1 2) := by rw [q3_102 M 4 1 2]; omega
        have f0 : d3 M 2 1 0 2 = (-1) * (d3 M 2 0 1 2) := by rw [q3_102 M 0 1 2]; omega
        exact ⟨(hX 1 (by decide) 4 (by decide)).trans f4, (hX 1 (by decide) 0 (by decide)).trans f0⟩
      · have f4 : d3 M 2 1 0 4 = (-1) * (d3 M 2 0 1 4) := by rw [q3_102 M 0 1 4]; omega
        have f0 : d3 M 2 1 0 2 = (-1) * (d3 M 2 0 1 2) := by rw [q3_102 M 0 1 2]; omega
        exact ⟨(hX 2 (by decide) 4 (by decide)).trans f4, (hX 2 (by decide) 2 (by decide)).trans f0⟩
  · refine ⟨?_, cs 1 2 0 0, 1, Or.inl rfl, fun r hr => ?_, by decide, by decide, fun r hr => ?_⟩
    · intro z; apply hD; have z9 : d3 M 2 0 1 2 = 0 := z; have e9 : d3 M 2 1 2 0 = 1 * (d3 M 2 0 1 2) := (by rw [q3_120 M 0 1 2]; omega); exact e9.trans (by rw [z9]; rfl)
    · rcases (show r = 0 ∨ r = 1 ∨ r = 2 by omega) with rfl | rfl | rfl
      · exact ⟨by decide, P0⟩
      · exact ⟨by decide, P1⟩
      · exact ⟨by decide, P2⟩
    · rcases (show r = 0 ∨ r = 1 ∨ r = 2 by omega) with rfl | rfl | rfl
      · have f4 : d3 M 2 4 2 0 = 1 * (d3 M 2 0 4 2) := by rw [q3_120 M 0 4 2]; omega
        have f0 : d3 M 2 1 2 0 = 1 * (d3 M 2 0 1 2) := by rw [q3_120 M 0 1 2]; omega
        exact ⟨(hX 0 (by decide) 4 (by decide)).trans f4, (hX 0 (by decide) 1 (by decide)).trans f0⟩
      · have f4 : d3 M 2 1 4 0 = 1 * (d3 M 2 0 1 4) := by rw [q3_120 M 0 1 4]; omega
        have f0 : d3 M 2 1 2 0 = 1 * (d3 M 2 0 1 2) := by rw [q3_120 M 0 1 2]; omega
        exact ⟨(hX 1 (by decide) 4 (by decide)).trans f4, (hX 1 (by decide) 2 (by decide)).trans f0⟩
      · have f4 : d3 M 2 1 2 4 = 1 * (d3 M 2 4 1 2) := by rw [q3_120 M 4 1 2]; omega
        have f0 : d3 M 2 1 2 0 = 1 * (d3 M 2 0 1 2) := by rw [q3_120 M 0 1 2]; omega
        exact ⟨(hX 2 (by decide) 4 (by decide)).trans f4, (hX 2 (by decide) 0 (by decide)).trans f0⟩
  · refine ⟨?_, cs 2 0 1 0, 1, Or.inl rfl, fun r hr => ?_, by decide, by decide, fun r hr => ?_⟩
    · intro z; apply hD; have z9 : d3 M 2 0 1 2 = 0 := z; have e9 : d3 M 2 2 0 1 = 1 * (d3 M 2 0 1 2) := (by rw [q3_201 M 0 1 2]; omega); exact e9.trans (by rw [z9]; rfl)
    · rcases (show r = 0 ∨ r = 1 ∨ r = 2 by omega) with rfl | rfl | rfl
      · exact ⟨by decide, P0⟩
      · exact ⟨by decide, P1⟩
      · exact ⟨by decide, P2⟩
    · rcases (show r = 0 ∨ r = 1 ∨ r = 2 by omega) with rfl | rfl | rfl
      · have f4 : d3 M 2 4 0 1 = 1 * (d3 M 2 0 1 4) := by rw [q3_201 M 0 1 4]; omega
        have f0 : d3 M 2 2 0 1 = 1 * (d3 M 2 0 1 2) := by rw [q3_201 M 0 1 2]; omega
        exact ⟨(hX 0 (by decide) 4 (by decide)).trans f4, (hX 0 (by decide) 2 (by decide)).trans f0⟩
      · have f4 : d3 M 2 2 4 1 = 1 * (d3 M 2 4 1 2) := by rw [q3_201 M 4 1 2]; omega
        have f0 : d3 M 2 2 0 1 = 1 * (d3 M 2 0 1 2) := by rw [q3_201 M 0 1 2]; omega
        exact ⟨(hX 1 (by decide) 4 (by decide)).trans f4, (hX 1 (by decide) 0 (by decide)).trans f0⟩
      · have f4 : d3 M 2 2 0 4 = 1 * (d3 M 2 0 4 2) := by rw [q3_201 M 0 4 2]; omega
        have f0 : d3 M 2 2 0 1 = 1 * (d3 M 2 0 1 2) := by rw [q3_201 M 0 1 2]; omega
        exact ⟨(hX 2 (by decide) 4 (by decide)).trans f4, (hX 2 (by decide) 1 (by decide)).trans f0⟩
  · refine ⟨?_, cs 2 1 0 0, (-1), Or.inr rfl, fun r hr => ?_, by decide, by decide, fun r hr => ?_⟩
    · intro z; apply hD; have z9 : d3 M 2 0 1 2 = 0 := z; have e9 : d3 M 2 2 1 0 = (-1) * (d3 M 2 0 1 2) := (by rw [q3_210 M 0 1 2]; omega); exact e9.trans (by rw [z9]; rfl)
    · rcases (show r = 0 ∨ r = 1 ∨ r = 2 by omega) with rfl | rfl | rfl
      · exact ⟨by decide, P0⟩
      · exact ⟨by decide, P1⟩
      · exact ⟨by decide, P2⟩
    · rcases (show r = 0 ∨ r = 1 ∨ r = 2 by omega) with rfl | rfl | rfl
      · have f4 : d3 M 2 4 1 0 = (-1) * (d3 M 2 0 1 4) := by rw [q3_210 M 0 1 4]; omega
        have f0 : d3 M 2 2 1 0 = (-1) * (d3 M 2 0 1 2) := by rw [q3_210 M 0 1 2]; omega
        exact ⟨(hX 0 (by decide) 4 (by decide)).trans f4, (hX 0 (by decide) 2 (by decide)).trans f0⟩
      · have f4 : d3 M 2 2 4 0 = (-1) * (d3 M 2 0 4 2) := by rw [q3_210 M 0 4 2]; omega
        have f0 : d3 M 2 2 1 0 = (-1) * (d3 M 2 0 1 2) := by rw [q3_210 M 0 1 2]; omega
        exact ⟨(hX 1 (by decide) 4 (by decide)).trans f4, (hX 1 (by decide) 1 (by decide)).trans f0⟩
      · have f4 : d3 M 2 2 1 4 = (-1) * (d3 M 2 4 1 2) := by rw [q3_210 M 4 1 2]; omega
        have f0 : d3 M 2 2 1 0 = (-1) * (d3 M 2 0 1 2) := by rw [q3_210 M 0 1 2]; omega
        exact ⟨(hX 2 (by decide) 4 (by decide)).trans f4, (hX 2 (by decide) 0 (by decide)).trans f0⟩
def pb_4 (c0 c1 c2 c3 : Nat) : Bool := (c0 == c1) || ((c0 == c2) || ((c0 == c3) || ((c1 == c2) || ((c1 == c3) || ((c2 == c3) || (([[0, 1, 2, 3], [0, 1, 3, 2], [0, 2, 1, 3], [0, 2, 3, 1], [0, 3, 1, 2], [0, 3, 2, 1], [1, 0, 2, 3], [1, 0, 3, 2], [1, 2, 0, 3], [1, 2, 3, 0], [1, 3, 0, 2], [1, 3, 2, 0], [2, 0, 1, 3], [2, 0, 3, 1], [2, 1, 0, 3], [2, 1, 3, 0], [2, 3, 0, 1], [2, 3, 1, 0], [3, 0, 1, 2], [3, 0, 2, 1], [3, 1, 0, 2], [3, 1, 2, 0], [3, 2, 0, 1], [3, 2, 1, 0]] : List (List Nat)).contains [c0, c1, c2, c3]))))))
theorem pl_4 : ∀ c0, c0 < 4 → ∀ c1, c1 < 4 → ∀ c2, c2 < 4 → ∀ c3, c3 < 4 → pb_4 c0 c1 c2 c3 = true := by decide +kernel
theorem pm_4 {c0 c1 c2 c3 : Nat} (h0 : c0 < 4) (h1 : c1 < 4) (h2 : c2 < 4) (h3 : c3 < 4) (n01 : ¬ c0 = c1) (n02 : ¬ c0 = c2) (n03 : ¬ c0 = c3) (n12 : ¬ c1 = c2) (n13 : ¬ c1 = c3) (n23 : ¬ c2 = c3) : (c0 = 0 ∧ c1 = 1 ∧ c2 = 2 ∧ c3 = 3) ∨ (c0 = 0 ∧ c1 = 1 ∧ c2 = 3 ∧ c3 = 2) ∨ (c0 = 0 ∧ c1 = 2 ∧ c2 = 1 ∧ c3 = 3) ∨ (c0 = 0 ∧ c1 = 2 ∧ c2 = 3 ∧ c3 = 1) ∨ (c0 = 0 ∧ c1 = 3 ∧ c2 = 1 ∧ c3 = 2) ∨ (c0 = 0 ∧ c1 = 3 ∧ c2 = 2 ∧ c3 = 1) ∨ (c0 = 1 ∧ c1 = 0 ∧ c2 = 2 ∧ c3 = 3) ∨ (c0 = 1 ∧ c1 = 0 ∧ c2 = 3 ∧ c3 = 2) ∨ (c0 = 1 ∧ c1 = 2 ∧ c2 = 0 ∧ c3 = 3) ∨ (c0 = 1 ∧ c1 = 2 ∧ c2 = 3 ∧ c3 = 0) ∨ (c0 = 1 ∧ c1 = 3 ∧ c2 = 0 ∧ c3 = 2) ∨ (c0 = 1 ∧ c1 = 3 ∧ c2 = 2 ∧ c3 = 0) ∨ (c0 = 2 ∧ c1 = 0 ∧ c2 = 1 ∧ c3 = 3) ∨ (c0 = 2 ∧ c1 = 0 ∧ c2 = 3 ∧ c3 = 1) ∨ (c0 = 2 ∧ c1 = 1 ∧ c2 = 0 ∧ c3 = 3) ∨ (c0 = 2 ∧ c1 = 1 ∧ c2 = 3 ∧ c3 = 0) ∨ (c0 = 2 ∧ c1 = 3 ∧ c2 = 0 ∧ c3 = 1) ∨ (c0 = 2 ∧ c1 = 3 ∧ c2 = 1 ∧ c3 = 0) ∨ (c0 = 3 ∧ c1 = 0 ∧ c2 = 1 ∧ c3 = 2) ∨ (c0 = 3 ∧ c1 = 0 ∧ c2 = 2 ∧ c3 = 1) ∨ (c0 = 3 ∧ c1 = 1 ∧ c2 = 0 ∧ c3 = 2) ∨ (c0 = 3 ∧ c1 = 1 ∧ c2 = 2 ∧ c3 = 0) ∨ (c0 = 3 ∧ c1 = 2 ∧ c2 = 0 ∧ c3 = 1) ∨ (c0 = 3 ∧ c1 = 2 ∧ c2 = 1 ∧ c3 = 0) := by
  have h := pl_4 c0 h0 c1 h1 c2 h2 c3 h3
  simp only [pb_4, Bool.or_eq_true, beq_iff_eq, n01, n02, n03, n12, n13, n23, false_or, List.contains_iff_mem, List.mem_cons, List.cons.injEq, List.not_mem_nil, or_false, and_true] at h
  exact h
theorem fin_4 {c0 c1 c2 c3 : Nat} (h0 : c0 < 4) (h1 : c1 < 4) (h2 : c2 < 4) (h3 : c3 < 4) (n01 : ¬ c0 = c1) (n02 : ¬ c0 = c2) (n03 : ¬ c0 = c3) (n12 : ¬ c1 = c2) (n13 : ¬ c1 = c3) (n23 : ¬ c2 = c3) (hX : ∀ i, i < 4 → ∀ j, j < 5 → (X i j).toInt = G4 M c0 c1 c2 c3 i j) (hD : d4 M c0 c1 c2 c3 ≠ 0) (P0 : P 0 = nI c0) (P1 : P 1 = nI c1) (P2 : P 2 = nI c2) (P3 : P 3 = nI c3) : fin M 4 X P := by
  rcases pm_4 h0 h1 h2 h3 n01 n02 n03 n12 n13 n23 with ⟨rfl, rfl, rfl, rfl⟩ | ⟨rfl, rfl, rfl, rfl⟩ | ⟨rfl, rfl, rfl, rfl⟩ | ⟨rfl, rfl, rfl, rfl⟩ | ⟨rfl, rfl, rfl, rfl⟩ | ⟨rfl, rfl, rfl, rfl⟩ | ⟨rfl, rfl, rfl, rfl⟩ | ⟨rfl, rfl, rfl, rfl⟩ | ⟨rfl, rfl, rfl, rfl⟩ | ⟨rfl, rfl, rfl, rfl⟩ | ⟨rfl, rfl, rfl, rfl⟩ | ⟨rfl, rfl, rfl, rfl⟩ | ⟨rfl, rfl, rfl, rfl⟩ | ⟨rfl, rfl, rfl, rfl⟩ | ⟨rfl, rfl, rfl, rfl⟩ | ⟨rfl, rfl, rfl, rfl⟩ | ⟨rfl, rfl, rfl, rfl⟩ | ⟨rfl, rfl, rfl, rfl⟩ | ⟨rfl, rfl, rfl, rfl⟩ | ⟨rfl, rfl, rfl, rfl⟩ | ⟨rfl, rfl, rfl, rfl⟩ | ⟨rfl, rfl, rfl, rfl⟩ | ⟨rfl, rfl, rfl, rfl⟩ | ⟨rfl, rfl, rfl, rfl⟩
  · refine ⟨?_, cs 0 1 2 3, 1, Or.inl rfl, fun r hr => ?_, by decide, by decide, fun r hr => ?_⟩
    · intro z; apply hD; have z9 : d4 M 0 1 2 3 = 0 := z; have e9 : d4 M 0 1 2 3 = 1 * (d4 M 0 1 2 3) := (by rw [q4_0123 M 0 1 2 3]; omega); exact e9.trans (by rw [z9]; rfl)
    · rcases (show r = 0 ∨ r = 1 ∨ r = 2 ∨ r = 3 by omega) with rfl | rfl | rfl | rfl
      · exact ⟨by decide, P0⟩
      · exact ⟨by decide, P1⟩
      · exact ⟨by decide, P2⟩
      · exact ⟨by decide, P3⟩
    · rcases (show r = 0 ∨ r = 1 ∨ r = 2 ∨ r = 3 by omega) with rfl | rfl | rfl | rfl
      · have f4 : d4 M 4 1 2 3 = 1 * (d4 M 4 1 2 3) := by rw [q4_0123 M 4 1 2 3]; omega
        have f0 : d4 M 0 1 2 3 = 1 * (d4 M 0 1 2 3) := by rw [q4_0123 M 0 1 2 3]; omega
        exact ⟨(hX 0 (by decide) 4 (by decide)).trans f4, (hX 0 (by decide) 0 (by decide)).trans f0⟩
      · have f4 : d4 M 0 4 2 3 = 1 * (d4 M 0 4 2 3) := by rw [q4_0123 M 0 4 2 3]; omega
        have f0 : d4 M 0 1 2 3 = 1 * (d4 M 0 1 2 3) := by rw [q4_0123 M 0 1 2 3]; omega
        exact ⟨(hX 1 (by decide) 4 (by decide)).trans f4, (hX 1 (by decide) 1 (by decide)).trans f0⟩
      · have f4 : d4 M 0 1 4 3 = 1 * (d4 M 0 1 4 3) := by rw [q4_0123 M 0 1 4 3]; omega
        have f0 : d4 M 0 1 2 3 = 1 * (d4 M 0 1 2 3) := by rw [q4_0123 M 0 1 2 3]; omega
        exact ⟨(hX 2 (by decide) 4 (by decide)).trans f4, (hX 2 (by decide) 2 (by decide)).trans f0⟩
      · have f4 : d4 M 0 1 2 4 = 1 * (d4 M 0 1 2 4) := by rw [q4_0123 M 0 1 2 4]; omega
        have f0 : d4 M 0 1 2 3 = 1 * (d4 M 0 1 2 3) := by rw [q4_0123 M 0 1 2 3]; omega
        exact ⟨(hX 3 (by decide) 4 (by decide)).trans f4, (hX 3 (by decide) 3 (by decide)).trans f0⟩
  · refine ⟨?_, cs 0 1 3 2, (-1), Or.inr rfl, fun r hr => ?_, by decide, by decide, fun r hr => ?_⟩
    · intro z; apply hD; have z9 : d4 M 0 1 2 3 = 0 := z; have e9 : d4 M 0 1 3 2 = (-1) * (d4 M 0 1 2 3) := (by rw [q4_0132 M 0 1 2 3]; omega); exact e9.trans (by rw [z9]; rfl)
    · rcases (show r = 0 ∨ r = 1 ∨ r = 2 ∨ r = 3 by omega) with rfl | rfl | rfl | rfl
      · exact ⟨by decide, P0⟩
      · exact ⟨by decide, P1⟩
      · exact ⟨by decide, P2⟩
      · exact ⟨by decide, P3⟩
    · rcases (show r = 0 ∨ r = 1 ∨ r = 2 ∨ r = 3 by omega) with rfl | rfl | rfl | rfl
      · have f4 : d4 M 4 1 3 2 = (-1) * (d4 M 4 1 2 3) := by rw [q4_0132 M 4 1 2 3]; omega
        have f0 : d4 M 0 1 3 2 = (-1) * (d4 M 0 1 2 3) := by rw [q4_0132 M 0 1 2 3]; omega
        exact ⟨(hX 0 (by decide) 4 (by decide)).trans f4, (hX 0 (by decide) 0 (by decide)).trans f0⟩
      · have f4 : d4 M 0 4 3 2 = (-1) * (d4 M 0 4 2 3) := by rw [q4_0132 M 0 4 2 3]; omega
        have f0 : d4 M 0 1 3 2 = (-1) * (d4 M 0 1 2 3) := by rw [q4_0132 M 0 1 2 3]; omega
        exact ⟨(hX 1 (by decide) 4 (by decide)).trans f4, (hX 1 (by decide) 1 (by decide)).trans f0⟩
      · have f4 : d4 M 0 1 4 2 = (-1) * (d4 M 0 1 2 4) := by rw [q4_0132 M 0 1 2 4]; omega
        have f0 : d4 M 0 1 3 2 = (-1) * (d4 M 0 1 2 3) := by rw [q4_0132 M 0 1 2 3]; omega
        exact ⟨(hX 2 (by decide) 4 (by decide)).trans f4, (hX 2 (by decide) 3 (by decide)).trans f0⟩
      · have f4 : d4 M 0 1 3 4 = (-1) * (d4 M 0 1 4 3) := by rw [q4_0132 M 0 1 4 3]; omega
        have f0 : d4 M 0 1 3 2 = (-1) * (d4 M 0 1 2 3) := by rw [q4_0132 M 0 1 2 3]; omega
        exact ⟨(hX 3 (by decide) 4 (by decide)).trans f4, (hX 3 (by decide) 2 (by decide)).trans f0⟩
  · refine ⟨?_, cs 0 2 1 3, (-1), Or.inr rfl, fun r hr => ?_, by decide, by decide, fun r hr => ?_⟩
    · intro z; apply hD; have z9 : d4 M 0 1 2 3 = 0 := z; have e9 : d4 M 0 2 1 3 = (-1) * (d4 M 0 1 2 3) := (by rw [q4_0213 M 0 1 2 3]; omega); exact e9.trans (by rw [z9]; rfl)
    · rcases (show r = 0 ∨ r = 1 ∨ r = 2 ∨ r = 3 by omega) with rfl | rfl | rfl | rfl
      · exact ⟨by decide, P0⟩
      · exact ⟨by decide, P1⟩
      · exact ⟨by decide, P2⟩
      · exact ⟨by decide, P3⟩
    · rcases (show r = 0 ∨ r = 1 ∨ r = 2 ∨ r = 3 by omega) with rfl | rfl | rfl | rfl
      · have f4 : d4 M 4 2 1 3 = (-1) * (d4 M 4 1 2 3) := by rw [q4_0213 M 4 1 2 3]; omega
        have f0 : d4 M 0 2 1 3 = (-1) * (d4 M 0 1 2 3) := by rw [q4_0213 M 0 1 2 3]; omega
        exact ⟨(hX 0 (by decide) 4 (by decide)).trans f4, (hX 0 (by decide) 0 (by decide)).trans f0⟩
      · have f4 : d4 M 0 4 1 3 = (-1) * (d4 M 0 1 4 3) := by rw [q4_0213 M 0 1 4 3]; omega
        have f0 : d4 M 0 2 1 3 = (-1) * (d4 M 0 1 2 3) := by rw [q4_0213 M 0 1 2 3]; omega
        exact ⟨(hX 1 (by decide) 4 (by decide)).trans f4, (hX 1 (by decide) 2 (by decide)).trans f0⟩
      · have f4 : d4 M 0 2 4 3 = (-1) * (d4 M 0 4 2 3) := by rw [q4_0213 M 0 4 2 3]; omega
        have f0 : d4 M 0 2 1 3 = (-1) * (d4 M 0 1 2 3) := by rw [q4_0213 M 0 1 2 3]; omega
        exact ⟨(hX 2 (by decide) 4 (by decide)).trans f4, (hX 2 (by decide) 1 (by decide)).trans f0⟩
      · have f4 : d4 M 0 2 1 4 = (-1) * (d4 M 0 1 2 4) := by rw [q4_0213 M 0 1 2 4]; omega
        have f0 : d4 M 0 2 1 3 = (-1) * (d4 M 0 1 2 3) := by rw [q4_0213 M 0 1 2 3]; omega
        exact ⟨(hX 3 (by decide) 4 (by decide)).trans f4, (hX 3 (by decide) 3 (by decide)).trans f0⟩
  · refine ⟨?_, cs 0 2 3 1, 1, Or.inl rfl, fun r hr => ?_, by decide, by decide, fun r hr => ?_⟩
    · intro z; apply hD; have z9 : d4 M 0 1 2 3 = 0 := z; have e9 : d4 M 0 2 3 1 = 1 * (d4 M 0 1 2 3) := (by rw [q4_0231 M 0 1 2 3]; omega); exact e9.trans (by rw [z9]; rfl)
    · rcases (show r = 0 ∨ r = 1 ∨ r = 2 ∨ r = 3 by omega) with rfl | rfl | rfl | rfl
      · exact ⟨by decide, P0⟩
      · exact ⟨by decide, P1⟩
      · exact ⟨by decide, P2⟩
      · exact ⟨by decide, P3⟩
    · rcases (show r = 0 ∨ r = 1 ∨ r = 2 ∨ r = 3 by omega) with rfl | rfl | rfl | rfl
      · have f4 : d4 M 4 2 3 1 = 1 * (d4 M 4 1 2 3) := by rw [q4_0231 M 4 1 2 3]; omega
        have f0 : d4 M 0 2 3 1 = 1 * (d4 M 0 1 2 3) := by rw [q4_0231 M 0 1 2 3]; omega
        exact ⟨(hX 0 (by decide) 4 (by decide)).trans f4, (hX 0 (by decide) 0 (by decide)).trans f0⟩
      · have f4 : d4 M 0 4 3 1 = 1 * (d4 M 0 1 4 3) := by rw [q4_0231 M 0 1 4 3]; omega
        have f0 : d4 M 0 2 3 1 = 1 * (d4 M 0 1 2 3) := by rw [q4_0231 M 0 1 2 3]; omega
        exact ⟨(hX 1 (by decide) 4 (by decide)).trans f4, (hX 1 (by decide) 2 (by decide)).trans f0⟩
      · have f4 : d4 M 0 2 4 1 = 1 * (d4 M 0 1 2 4) := by rw [q4_0231 M 0 1 2 4]; omega
        have f0 : d4 M 0 2 3 1 = 1 * (d4 M 0 1 2 3) := by rw [q4_0231 M 0 1 2 3]; omega
        exact ⟨(hX 2 (by decide) 4 (by decide)).trans f4, (hX 2 (by decide) 3 (by decide)).trans f0⟩
      · have f4 : d4 M 0 2 3 4 = 1 * (d4 M 0 4 2 3) := by rw [q4_0231 M 0 4 2 3]; omega
        have f0 : d4 M 0 2 3 1 = 1 * (d4 M 0 1 2 3) := by rw [q4_0231 M 0 1 2 3]; omega
        exact ⟨(hX 3 (by decide) 4 (by decide)).trans f4, (hX 3 (by decide) 1 (by decide)).trans f0⟩
  · refine ⟨?_, cs 0 3 1 2, 1, Or.inl rfl, fun r hr => ?_, by decide, by decide, fun r hr => ?_⟩
    · intro z; apply hD; have z9 : d4 M 0 1 2 3 = 0 := z; have e9 : d4 M 0 3 1 2 = 1 * (d4 M 0 1 2 3) := (by rw [q4_0312 M 0 1 2 3]; omega); exact e9.trans (by rw [z9]; rfl)
    · rcases (show r = 0 ∨ r = 1 ∨ r = 2 ∨ r = 3 by omega) with rfl | rfl | rfl | rfl
      · exact ⟨by decide, P0⟩
      · exact ⟨by decide, P1⟩
      · exact ⟨by decide, P2⟩
      · exact ⟨by decide, P3⟩
    · rcases (show r = 0 ∨ r = 1 ∨ r = 2 ∨ r = 3 by omega) with rfl | rfl | rfl | rfl
      · have f4 : d4 M 4 3 1 2 = 1 * (d4 M 4 1 2 3) := by rw [q4_0312 M 4 1 2 3]; omega
        have f0 : d4 M 0 3 1 2 = 1 * (d4 M 0 1 2 3) := by rw [q4_0312 M 0 1 2 3]; omega
        exact ⟨(hX 0 (by decide) 4 (by decide)).trans f4, (hX 0 (by decide) 0 (by decide)).trans f0⟩
      · have f4 : d4 M 0 4 1 2 = 1 * (d4 M 0 1 2 4) := by rw [q4_0312 M 0 1 2 4]; omega
        have f0 : d4 M 0 3 1 2 = 1 * (d4 M 0 1 2 3) := by rw [q4_0312 M 0 1 2 3]; omega
        exact ⟨(hX 1 (by decide) 4 (by decide)).trans f4, (hX 1 (by decide) 3 (by decide)).trans f0⟩
      · have f4 : d4 M 0 3 4 2 = 1 * (d4 M 0 4 2 3) := by rw [q4_0312 M 0 4 2 3]; omega
        have f0 : d4 M 0 3 1 2 = 1 * (d4 M 0 1 2 3) := by rw [q4_0312 M 0 1 2 3]; omega
        exact ⟨(hX 2 (by decide) 4 (by decide)).trans f4, (hX 2 (by decide) 1 (by decide)).trans f0⟩
      · have f4 : d4 M 0 3 1 4 = 1 * (d4 M 0 1 4 3) := by rw [q4_0312 M 0 1 4 3]; omega
        have f0 : d4 M 0 3 1 2 = 1 * (d4 M 0 1 2 3) := by rw [q4_0312 M 0 1 2 3]; omega
        exact ⟨(hX 3 (by decide) 4 (by decide)).trans f4, (hX 3 (by decide) 2 (by decide)).trans f0⟩
  · refine ⟨?_, cs 0 3 2 1, (-1), Or.inr rfl, fun r hr => ?_, by decide, by decide, fun r hr => ?_⟩
    · intro z; apply hD; have z9 : d4 M 0 1 2 3 = 0 := z; have e9 : d4 M 0 3 2 1 = (-1) * (d4 M 0 1 2 3) := (by rw [q4_0321 M 0 1 2 3]; omega); exact e9.trans (by rw [z9]; rfl)
    · rcases (show r = 0 ∨ r = 1 ∨ r = 2 ∨ r = 3 by omega) with rfl | rfl | rfl | rfl
      · exact ⟨by decide, P0⟩
      · exact ⟨by decide, P1⟩
      · exact ⟨by decide, P2⟩
      · exact ⟨by decide, P3⟩
    · rcases (show r = 0 ∨ r = 1 ∨ r = 2 ∨ r = 3 by omega) with rfl | rfl | rfl | rfl
      · have f4 : d4 M 4 3 2 1 = (-1) * (d4 M 4 1 2 3) := by rw [q4_0321 M 4 1 2 3]; omega
        have f0 : d4 M 0 3 2 1 = (-1) * (d4 M 0 1 2 3) := by rw [q4_0321 M 0 1 2 3]; omega
        exact ⟨(hX 0 (by decide) 4 (by decide)).trans f4, (hX 0 (by decide) 0 (by decide)).trans f0⟩
      · have f4 : d4 M 0 4 2 1 = (-1) * (d4 M 0 1 2 4) := by rw [q4_0321 M 0 1 2 4]; omega
        have f0 : d4 M 0 3 2 1 = (-1) * (d4 M 0 1 2 3) := by rw [q4_0321 M 0 1 2 3]; omega
        exact ⟨(hX 1 (by decide) 4 (by decide)).trans f4, (hX 1 (by decide) 3 (by decide)).trans f0⟩
      · have f4 : d4 M 0 3 4 1 = (-1) * (d4 M 0 1 4 3) := by rw [q4_0321 M 0 1 4 3]; omega
        have f0 : d4 M 0 3 2 1 = (-1) * (d4 M 0 1 2 3) := by rw [q4_0321 M 0 1 2 3]; omega
        exact ⟨(hX 2 (by decide) 4 (by decide)).trans f4, (hX 2 (by decide) 2 (by decide)).trans f0⟩
      · have f4 : d4 M 0 3 2 4 = (-1) * (d4 M 0 4 2 3) := by rw [q4_0321 M 0 4 2 3]; omega
        have f0 : d4 M 0 3 2 1 = (-1) * (d4 M 0 1 2 3) := by rw [q4_0321 M 0 1 2 3]; omega
        exact ⟨(hX 3 (by decide) 4 (by decide)).trans f4, (hX 3 (by decide) 1 (by decide)).trans f0⟩
  · refine ⟨?_, cs 1 0 2 3, (-1), Or.inr rfl, fun r hr => ?_, by decide, by decide, fun r hr => ?_⟩
    · intro z; apply hD; have z9 : d4 M 0 1 2 3 = 0 := z; have e9 : d4 M 1 0 2 3 = (-1) * (d4 M 0 1 2 3) := (by rw [q4_1023 M 0 1 2 3]; omega); exact e9.trans (by rw [z9]; rfl)
    · rcases (show r = 0 ∨ r = 1 ∨ r = 2 ∨ r = 3 by omega) with rfl | rfl | rfl | rfl
      · exact ⟨by decide, P0⟩
      · exact ⟨by decide, P1⟩
      · exact ⟨by decide, P2⟩
      · exact ⟨by decide, P3⟩
    · rcases (show r = 0 ∨ r = 1 ∨ r = 2 ∨ r = 3 by omega) with rfl | rfl | rfl | rfl
      · have f4 : d4 M 4 0 2 3 = (-1) * (d4 M 0 4 2 3) := by rw [q4_1023 M 0 4 2 3]; omega
        have f0 : d4 M 1 0 2 3 = (-1) * (d4 M 0 1 2 3) := by rw [q4_1023 M 0 1 2 3]; omega
        exact ⟨(hX 0 (by decide) 4 (by decide)).trans f4, (hX 0 (by decide) 1 (by decide)).trans f0⟩
      · have f4 : d4 M 1 4 2 3 = (-1) * (d4 M 4 1 2 3) := by rw [q4_1023 M 4 1 2 3]; omega
        have f0 : d4 M 1 0 2 3 = (-1) * (d4 M 0 1 2 3) := by rw [q4_1023 M 0 1 2 3]; omega
        exact ⟨(hX 1 (by decide) 4 (by decide)).trans f4, (hX 1 (by decide) 0 (by decide)).trans f0⟩
      · have f4 : d4 M 1 0 4 3 = (-1) * (d4 M 0 1 4 3) := by rw [q4_1023 M 0 1 4 3]; omega
        have f0 : d4 M 1 0 2 3 = (-1) * (d4 M 0 1 2 3) := by rw [q4_1023 M 0 1 2 3]; omega
        exact ⟨(hX 2 (by decide) 4 (by decide)).trans f4, (hX 2 (by decide) 2 (by decide)).trans f0⟩
      · have f4 : d4 M 1 0 2 4 = (-1) * (d4 M 0 1 2 4) := by rw [q4_1023 M 0 1 2 4]; omega
        have f0 : d4 M 1 0 2 3 = (-1) * (d4 M 0 1 2 3) := by rw [q4_1023 M 0 1 2 3]; omega
        exact ⟨(hX 3 (by decide) 4 (by decide)).trans f4, (hX 3 (by decide) 3 (by decide)).trans f0⟩
  · refine ⟨?_, cs 1 0 3 2, 1, Or.inl rfl, fun r hr => ?_, by decide, by decide, fun r hr => ?_⟩
    · intro z; apply hD; have z9 : d4 M 0 1 2 3 = 0 := z; have e9 : d4 M 1 0 3 2 = 1 * (d4 M 0 1 2 3) := (by rw [q4_1032 M 0 1 2 3]; omega); exact e9.trans (by rw [z9]; rfl)
    · rcases (show r = 0 ∨ r = 1 ∨ r = 2 ∨ r = 3 by omega) with rfl | rfl | rfl | rfl
      · exact ⟨by decide, P0⟩
      · exact ⟨by decide, P1⟩
      · exact ⟨by decide, P2⟩
      · exact ⟨by decide, P3⟩
    · rcases (show r = 0 ∨ r = 1 ∨ r = 2 ∨ r = 3 by omega) with rfl | rfl | rfl | rfl
      · have f4 : d4 M 4 0 3 2 = 1 * (d4 M 0 4 2 3) := by rw [q4_1032 M 0 4 2 3]; omega
        have f0 : d4 M 1 0 3 2 = 1 * (d4 M 0 1 2 3) := by rw [q4_1032 M 0 1 2 3]; omega
        exact ⟨(hX 0 (by decide) 4 (by decide)).trans f4, (hX 0 (by decide) 1 (by decide)).trans f0⟩
      · have f4 : d4 M 1 4 3 2 = 1 * (d4 M 4 1 2 3) := by rw [q4_1032 M 4 1 2 3]; omega
        have f0 : d4 M 1 0 3 2 = 1 * (d4 M 0 1 2 3) := by rw [q4_1032 M 0 1 2 3]; omega
        exact ⟨(hX 1 (by decide) 4 (by decide)).trans f4, (hX 1 (by decide) 0 (by decide)).trans f0⟩
      · have f4 : d4 M 1 0 4 2 = 1 * (d4 M 0 1 2 4) := by rw [q4_1032 M 0 1 2 4]; omega
        have f0 : d4 M 1 0 3 2 = 1 * (d4 M 0 1 2 3) := by rw [q4_1032 M 0 1 2 3]; omega
        exact ⟨(hX 2 (by decide) 4 (by decide)).trans f4, (hX 2 (by decide) 3 (by decide)).trans f0⟩
      · have f4 : d4 M 1 0 3 4 = 1 * (d4 M 0 1 4 3) := by rw [q4_1032 M 0 1 4 3]; omega
        have f0 : d4 M 1 0 3 2 = 1 * (d4 M 0 1 2 3) := by rw [q4_1032 M 0 1 2 3]; omega
        exact ⟨(hX 3 (by decide) 4 (by decide)).trans f4, (hX 3 (by decide) 2 (by decide)).trans f0⟩
  · refine ⟨?_, cs 1 2 0 3, 1, Or.inl rfl, fun r hr => ?_, by decide, by decide, fun r hr => ?_⟩
    · intro z; apply hD; have z9 : d4 M 0 1 2 3 = 0 := z; have e9 : d4 M 1 2 0 3 = 1 * (d4 M 0 1 2 3) := (by rw [q4_1203 M 0 1 2 3]; omega); exact e9.trans (by rw [z9]; rfl)
    · rcases (show r = 0 ∨ r = 1 ∨ r = 2 ∨ r = 3 by omega) with rfl | rfl | rfl | rfl
      · exact ⟨by decide, P0⟩
      · exact ⟨by decide, P1⟩
      · exact ⟨by decide, P2⟩
      · exact ⟨by decide, P3⟩
    · rcases (show r = 0 ∨ r = 1 ∨ r = 2 ∨ r = 3 by omega) with rfl | rfl | rfl | rfl
      · have f4 : d4 M 4 2 0 3 = 1 * (d4 M 0 4 2 3) := by rw [q4_1203 M 0 4 2 3]; omega
        have f0 : d4 M 1 2 0 3 = 1 * (d4 M 0 1 2 3) := by rw [q4_1203 M 0 1 2 3]; omega
        exact ⟨(hX 0 (by decide) 4 (by decide)).trans f4, (hX 0 (by decide) 1 (by decide)).trans f0⟩
      · have f4 : d4 M 1 4 0 3 = 1 * (d4 M 0 1 4 3) := by rw [q4_1203 M 0 1 4 3]; omega
        have f0 : d4 M 1 2 0 3 = 1 * (d4 M 0 1 2 3) := by rw [q4_1203 M 0 1 2 3]; omega
        exact ⟨(hX 1 (by decide) 4 (by decide)).trans f4, (hX 1 (by decide) 2 (by decide)).trans f0⟩
      · have f4 : d4 M 1 2 4 3 = 1 * (d4 M 4 1 2 3) := by rw [q4_1203 M 4 1 2 3]; omega
        have f0 : d4 M 1 2 0 3 = 1 * (d4 M 0 1 2 3) := by rw [q4_1203 M 0 1 2 3]; omega
        exact ⟨(hX 2 (by decide) 4 (by decide)).trans f4, (hX 2 (by decide) 0 (by decide)).trans f0⟩
      · have f4 : d4 M 1 2 0 4 = 1 * (d4 M 0 1 2 4) := by rw [q4_1203 M 0 1 2 4]; omega
        have f0 : d4 M 1 2 0 3 = 1 * (d4 M 0 1 2 3) := by rw [q4_1203 M 0 1 2 3]; omega
        exact ⟨(hX 3 (by decide) 4 (by decide)).trans f4, (hX 3 (by decide) 3 (by decide)).trans f0⟩
  · refine ⟨?_, cs 1 2 3 0, (-1), Or.inr rfl, fun r hr => ?_, by decide, by decide, fun r hr => ?_⟩
    · intro z; apply hD; have z9 : d4 M 0 1 2 3 = 0 := z; have e9 : d4 M 1 2 3 0 = (-1) * (d4 M 0 1 2 3) := (by rw [q4_1230 M 0 1 2 3]; omega); exact e9.trans (by rw [z9]; rfl)
    · rcases (show r = 0 ∨ r = 1 ∨ r = 2 ∨ r = 3 by omega) with rfl | rfl | rfl | rfl
      · exact ⟨by decide, P0⟩
      · exact ⟨by decide, P1⟩
      · exact ⟨by decide, P2⟩
      · exact ⟨by decide, P3⟩
    · rcases (show r = 0 ∨ r = 1 ∨ r = 2 ∨ r = 3 by omega) with rfl | rfl | rfl | rfl
      · have f4 : d4 M 4 2 3 0 = (-1) * (d4 M 0 4 2 3) := by rw [q4_1230 M 0 4 2 3]; omega
        have f0 : d4 M 1 2 3 0 = (-1) * (d4 M 0 1 2 3) := by rw [q4_1230 M 0 1 2 3]; omega
        exact ⟨(hX 0 (by decide) 4 (by decide)).trans f4, (hX 0 (by decide) 1 (by decide)).trans f0⟩
      · have f4 : d4 M 1 4 3 0 = (-1) * (d4 M 0 1 4 3) := by rw [q4_1230 M 0 1 4 3]; omega
        have f0 : d4 M 1 2 3 0 = (-1) * (d4 M 0 1 2 3) := by rw [q4_1230 M 0 1 2 3]; omega
        exact ⟨(hX 1 (by decide) 4 (by decide)).trans f4, (hX 1 (by decide) 2 (by decide)).trans f0⟩
      · have f4 : d4 M 1 2 4 0 = (-1) * (d4 M 0 1 2 4) := by rw [q4_1230 M 0 1 2 4]; omega
        have f0 : d4 M 1 2 3 0 = (-1) * (d4 M 0 1 2 3) := by rw [q4_1230 M 0 1 2 3]; omega
        exact ⟨(hX 2 (by decide) 4 (by decide)).trans f4, (hX 2 (by decide) 3 (by decide)).trans f0⟩
      · have f4 : d4 M 1 2 3 4 = (-1) * (d4 M 4 1 2 3) := by rw [q4_1230 M 4 1 2 3]; omega
        have f0 : d4 M 1 2 3 0 = (-1) * (d4 M 0 1 2 3) := by rw [q4_1230 M 0 1 2 3]; omega
        exact ⟨(hX 3 (by decide) 4 (by decide)).trans f4, (hX 3 (by decide) 0 (by decide)).trans f0⟩
  · refine ⟨?_, cs 1 3 0 2, (-1), Or.inr rfl, fun r hr => ?_, by decide, by decide, fun r hr => ?_⟩
    · intro z; apply hD; have z9 : d4 M 0 1 2 3 = 0 := z; have e9 : d4 M 1 3 0 2 = (-1) * (d4 M 0 1 2 3) := (by rw [q4_1302 M 0 1 2 3]; omega); exact e9.trans (by rw [z9]; rfl)
    · rcases (show r = 0 ∨ r = 1 ∨ r = 2 ∨ r = 3 by omega) with rfl | rfl | rfl | rfl
      · exact ⟨by decide, P0⟩
      · exact ⟨by decide, P1⟩
      · exact ⟨by decide, P2⟩
      · exact ⟨by decide, P3⟩
    · rcases (show r = 0 ∨ r = 1 ∨ r = 2 ∨ r = 3 by omega) with rfl | rfl | rfl | rfl
      · have f4 : d4 M 4 3 0 2 = (-1) * (d4 M 0 4 2 3) := by rw [q4_1302 M 0 4 2 3]; omega
        have f0 : d4 M 1 3 0 2 = (-1) * (d4 M 0 1 2 3) := by rw [q4_1302 M 0 1 2 3]; omega
        exact ⟨(hX 0 (by decide) 4 (by decide)).trans f4, (hX 0 (by decide) 1 (by decide)).trans f0⟩
      · have f4 : d4 M 1 4 0 2 = (-1) * (d4 M 0 1 2 4) := by rw [q4_1302 M 0 1 2 4]; omega
        have f0 : d4 M 1 3 0 2 = (-1) * (d4 M 0 1 2 3) := by rw [q4_1302 M 0 1 2 3]; omega
        exact ⟨(hX 1 (by decide) 4 (by decide)).trans f4, (hX 1 (by decide) 3 (by decide)).trans f0⟩
      · have f4 : d4 M 1 3 4 2 = (-1) * (d4 M 4 1 2 3) := by rw [q4_1302 M 4 1 2 3]; omega
        have f0 : d4 M 1 3 0 2 = (-1) * (d4 M 0 1 2 3) := by rw [q4_1302 M 0 1 2 3]; omega
        exact ⟨(hX 2 (by decide) 4 (by decide)).trans f4, (hX 2 (by decide) 0 (by decide)).trans f0⟩
      · have f4 : d4 M 1 3 0 4 = (-1) * (d4 M 0 1 4 3) := by rw [q4_1302 M 0 1 4 3]; omega
        have f0 : d4 M 1 3 0 2 = (-1) * (d4 M 0 1 2 3) := by rw [q4_1302 M 0 1 2 3]; omega
        exact ⟨(hX 3 (by decide) 4 (by decide)).trans f4, (hX 3 (by decide) 2 (by decide)).trans f0⟩
  · refine ⟨?_, cs 1 3 2 0, 1, Or.inl rfl, fun r hr => ?_, by decide, by decide, fun r hr => ?_⟩
    · intro z; apply hD; have z9 : d4 M 0 1 2 3 = 0 := z; have e9 : d4 M 1 3 2 0 = 1 * (d4 M 0 1 2 3) := (by rw [q4_1320 M 0 1 2 3]; omega); exact e9.trans (by rw [z9]; rfl)
    · rcases (show r = 0 ∨ r = 1 ∨ r = 2 ∨ r = 3 by omega) with rfl | rfl | rfl | rfl
      · exact ⟨by decide, P0⟩
      · exact ⟨by decide, P1⟩
      · exact ⟨by decide, P2⟩
      · exact ⟨by decide, P3⟩
    · rcases (show r = 0 ∨ r = 1 ∨ r = 2 ∨ r = 3 by omega) with rfl | rfl | rfl | rfl
      · have f4 : d4 M 4 3 2 0 = 1 * (d4 M 0 4 2 3) := by rw [q4_1320 M 0 4 2 3]; omega
        have f0 : d4 M 1 3 2 0 = 1 * (d4 M 0 1 2 3) := by rw [q4_1320 M 0 1 2 3]; omega
        exact ⟨(hX 0 (by decide) 4 (by decide)).trans f4, (hX 0 (by decide) 1 (by decide)).trans f0⟩
      · have f4 : d4 M 1 4 2 0 = 1 * (d4 M 0 1 2 4) := by rw [q4_1320 M 0 1 2 4]; omega
        have f0 : d4 M 1 3 2 0 = 1 * (d4 M 0 1 2 3) := by rw [q4_1320 M 0 1 2 3]; omega
        exact ⟨(hX 1 (by decide) 4 (by decide)).trans f4, (hX 1 (by decide) 3 (by decide)).trans f0⟩
      · have f4 : d4 M 1 3 4 0 = 1 * (d4 M 0 1 4 3) := by rw [q4_1320 M 0 1 4 3]; omega
        have f0 : d4 M 1 3 2 0 = 1 * (d4 M 0 1 2 3) := by rw [q4_1320 M 0 1 2 3]; omega
        exact ⟨(hX 2 (by decide) 4 (by decide)).trans f4, (hX 2 (by decide) 2 (by decide)).trans f0⟩
      · have f4 : d4 M 1 3 2 4 = 1 * (d4 M 4 1 2 3) := by rw [q4_1320 M 4 1 2 3]; omega
        have f0 : d4 M 1 3 2 0 = 1 * (d4 M 0 1 2 3) := by rw [q4_1320 M 0 1 2 3]; omega
        exact ⟨(hX 3 (by decide) 4 (by decide)).trans f4, (hX 3 (by decide) 0 (by decide)).trans f0⟩
  · refine ⟨?_, cs 2 0 1 3, 1, Or.inl rfl, fun r hr => ?_, by decide, by decide, fun r hr => ?_⟩
    · intro z; apply hD; have z9 : d4 M 0 1 2 3 = 0 := z; have e9 : d4 M 2 0 1 3 = 1 * (d4 M 0 1 2 3) := (by rw [q4_2013 M 0 1 2 3]; omega); exact e9.trans (by rw [z9]; rfl)
    · rcases (show r = 0 ∨ r = 1 ∨ r = 2 ∨ r = 3 by omega) with rfl | rfl | rfl | rfl
      · exact ⟨by decide, P0⟩
      · exact ⟨by decide, P1⟩
      · exact ⟨by decide, P2⟩
      · exact ⟨by decide, P3⟩
    · rcases (show r = 0 ∨ r = 1 ∨ r = 2 ∨ r = 3 by omega) with rfl | rfl | rfl | rfl
      · have f4 : d4 M 4 0 1 3 = 1 * (d4 M 0 1 4 3) := by rw [q4_2013 M 0 1 4 3]; omega
        have f0 : d4 M 2 0 1 3 = 1 * (d4 M 0 1 2 3) := by rw [q4_2013 M 0 1 2 3]; omega
        exact ⟨(hX 0 (by decide) 4 (by decide)).trans f4, (hX 0 (by decide) 2 (by decide)).trans f0⟩
      · have f4 : d4 M 2 4 1 3 = 1 * (d4 M 4 1 2 3) := by rw [q4_2013 M 4 1 2 3]; omega
        have f0 : d4 M 2 0 1 3 = 1 * (d4 M 0 1 2 3) := by rw [q4_2013 M 0 1 2 3]; omega
        exact ⟨(hX 1 (by decide) 4 (by decide)).trans f4, (hX 1 (by decide) 0 (by decide)).trans f0⟩
      · have f4 : d4 M 2 0 4 3 = 1 * (d4 M 0 4 2 3) := by rw [q4_2013 M 0 4 2 3]; omega
        have f0 : d4 M 2 0 1 3 = 1 * (d4 M 0 1 2 3) := by rw [q4_2013 M 0 1 2 3]; omega
        exact ⟨(hX 2 (by decide) 4 (by decide)).trans f4, (hX 2 (by decide) 1 (by decide)).trans f0⟩
      · have f4 : d4 M 2 0 1 4 = 1 * (d4 M 0 1 2 4) := by rw [q4_2013 M 0 1 2 4]; omega
        have f0 : d4 M 2 0 1 3 = 1 * (d4 M 0 1 2 3) := by rw [q4_2013 M 0 1 2 3]; omega
        exact ⟨(hX 3 (by decide) 4 (by decide)).trans f4, (hX 3 (by decide) 3 (by decide)).trans f0⟩
  · refine ⟨?_, cs 2 0 3 1, (-1), Or.inr rfl, fun r hr => ?_, by decide, by decide, fun r hr => ?_⟩
    · intro z; apply hD; have z9 : d4 M 0 1 2 3 = 0 := z; have e9 : d4 M 2 0 3 1 = (-1) * (d4 M 0 1 2 3) := (by rw [q4_2031 M 0 1 2 3]; omega); exact e9.trans (by rw [z9]; rfl)
    · rcases (show r = 0 ∨ r = 1 ∨ r = 2 ∨ r = 3 by omega) with rfl | rfl | rfl | rfl
      · exact ⟨by decide, P0⟩
      · exact ⟨by decide, P1⟩
      · exact ⟨by decide, P2⟩
      · exact ⟨by decide, P3⟩
    · rcases (show r = 0 ∨ r = 1 ∨ r = 2 ∨ r = 3 by omega) with rfl | rfl | rfl | rfl
      · have f4 : d4 M 4 0 3 1 = (-1) * (d4 M 0 1 4 3) := by rw [q4_2031 M 0 1 4 3]; omega
        have f0 : d4 M 2 0 3 1 = (-1) * (d4 M 0 1 2 3) := by rw [q4_2031 M 0 1 2 3]; omega
        exact ⟨(hX 0 (by decide) 4 (by decide)).trans f4, (hX 0 (by decide) 2 (by decide)).trans f0⟩
      · have f4 : d4 M 2 4 3 1 = (-1) * (d4 M 4 1 2 3) := by rw [q4_2031 M 4 1 2 3]; omega
        have f0 : d4 M 2 0 3 1 = (-1) * (d4 M 0 1 2 3) := by rw [q4_2031 M 0 1 2 3]; omega
        exact ⟨(hX 1 (by decide) 4 (by decide)).trans f4, (hX 1 (by decide) 0 (by decide)).trans f0⟩
      · have f4 : d4 M 2 0 4 1 = (-1) * (d4 M 0 1 2 4) := by rw [q4_2031 M 0 1 2 4]; omega
        have f0 : d4 M 2 0 3 1 = (-1) * (d4 M 0 1 2 3) := by rw [q4_2031 M 0 1 2 3]; omega
        exact ⟨(hX 2 (by decide) 4 (by decide)).trans f4, (hX 2 (by decide) 3 (by decide)).trans f0⟩
      · have f4 : d4 M 2 0 3 4 = (-1) * (d4 M 0 4 2 3) := by rw [q4_2031 M 0 4 2 3]; omega
        have f0 : d4 M 2 0 3 1 = (-1) * (d4 M 0 1 2 3) := by rw [q4_2031 M 0 1 2 3]; omega
        exact ⟨(hX 3 (by decide) 4 (by decide)).trans f4, (hX 3 (by decide) 1 (by decide)).trans f0⟩
  · refine ⟨?_, cs 2 1 0 3, (-1), Or.inr rfl, fun r hr => ?_, by decide, by decide, fun r hr => ?_⟩
    · intro z; apply hD; have z9 : d4 M 0 1 2 3 = 0 := z; have e9 : d4 M 2 1 0 3 = (-1) * (d4 M 0 1 2 3) := (by rw [q4_2103 M 0 1 2 3]; omega); exact e9.trans (by rw [z9]; rfl)
    · rcases (show r = 0 ∨ r = 1 ∨ r = 2 ∨ r = 3 by omega) with rfl | rfl | rfl | rfl
      · exact ⟨by decide, P0⟩
      · exact ⟨by decide, P1⟩
      · exact ⟨by decide, P2⟩
      · exact ⟨by decide, P3⟩
    · rcases (show r = 0 ∨ r = 1 ∨ r = 2 ∨ r = 3 by omega) with rfl | rfl | rfl | rfl
      · have f4 : d4 M 4 1 0 3 = (-1) * (d4 M 0 1 4 3) := by rw [q4_2103 M 0 1 4 3]; omega
        have f0 : d4 M 2 1 0 3 = (-1) * (d4 M 0 1 2 3) := by rw [q4_2103 M 0 1 2 3]; omega
        exact ⟨(hX 0 (by decide) 4 (by decide)).trans f4, (hX 0 (by decide) 2 (by decide)).trans f0⟩
      · have f4 : d4 M 2 4 0 3 = (-1) * (d4 M 0 4 2 3) := by rw [q4_2103 M 0 4 2 3]; omega
        have f0 : d4 M 2 1 0 3 = (-1) * (d4 M 0 1 2 3) := by rw [q4_2103 M 0 1 2 3]; omega
        exact ⟨(hX 1 (by decide) 4 (by decide)).trans f4, (hX 1 (by decide) 1 (by decide)).trans f0⟩
      · have f4 : d4 M 2 1 4 3 = (-1) * (d4 M 4 1 2 3) := by rw [q4_2103 M 4 1 2 3]; omega
        have f0 : d4 M 2 1 0 3 = (-1) * (d4 M 0 1 2 3) := by rw [q4_2103 M 0 1 2 3]; omega
        exact ⟨(hX 2 (by decide) 4 (by decide)).trans f4, (hX 2 (by decide) 0 (by decide)).trans f0⟩
      · have f4 : d4 M 2 1 0 4 = (-1) * (d4 M 0 1 2 4) := by rw [q4_2103 M 0 1 2 4]; omega
        have f0 : d4 M 2 1 0 3 = (-1) * (d4 M 0 1 2 3) := by rw [q4_2103 M 0 1 2 3]; omega
        exact ⟨(hX 3 (by decide) 4 (by decide)).trans f4, (hX 3 (by decide) 3 (by decide)).trans f0⟩
  · refine ⟨?_, cs 2 1 3 0, 1, Or.inl rfl, fun r hr => ?_, by decide, by decide, fun r hr => ?_⟩
    · intro z; apply hD; have z9 : d4 M 0 1 2 3 = 0 := z; have e9 : d4 M 2 1 3 0 = 1 * (d4 M 0 1 2 3) := (by rw [q4_2130 M 0 1 2 3]; omega); exact e9.trans (by rw [z9]; rfl)
    · rcases (show r = 0 ∨ r = 1 ∨ r = 2 ∨ r = 3 by omega) with rfl | rfl | rfl | rfl
      · exact ⟨by decide, P0⟩
      · exact ⟨by decide, P1⟩
      · exact ⟨by decide, P2⟩
      · exact ⟨by decide, P3⟩
    · rcases (show r = 0 ∨ r = 1 ∨ r = 2 ∨ r = 3 by omega) with rfl | rfl | rfl | rfl
      · have f4 : d4 M 4 1 3 0 = 1 * (d4 M 0 1 4 3) := by rw [q4_2130 M 0 1 4 3]; omega
        have f0 : d4 M 2 1 3 0 = 1 * (d4 M 0 1 2 3) := by rw [q4_2130 M 0 1 2 3]; omega
        exact ⟨(hX 0 (by decide) 4 (by decide)).trans f4, (hX 0 (by decide) 2 (by decide)).trans f0⟩
      · have f4 : d4 M 2 4 3 0 = 1 * (d4 M 0 4 2 3) := by rw [q4_2130 M 0 4 2 3]; omega
        have f0 : d4 M 2 1 3 0 = 1 * (d4 M 0 1 2 3) := by rw [q4_2130 M 0 1 2 3]; omega
        exact ⟨(hX 1 (by decide) 4 (by decide)).trans f4, (hX 1 (by decide) 1 (by decide)).trans f0⟩
      · have f4 : d4 M 2 1 4 0 = 1 * (d4 M 0 1 2 4) := by rw [q4_2130 M 0 1 2 4]; omega
        have f0 : d4 M 2 1 3 0 = 1 * (d4 M 0 1 2 3) := by rw [q4_2130 M 0 1 2 3]; omega
        exact ⟨(hX 2 (by decide) 4 (by decide)).trans f4, (hX 2 (by decide) 3 (by decide)).trans f0⟩
      · have f4 : d4 M 2 1 3 4 = 1 * (d4 M 4 1 2 3) := by rw [q4_2130 M 4 1 2 3]; omega
        have f0 : d4 M 2 1 3 0 = 1 * (d4 M 0 1 2 3) := by rw [q4_2130 M 0 1 2 3]; omega
        exact ⟨(hX 3 (by decide) 4 (by decide)).trans f4, (hX 3 (by decide) 0 (by decide)).trans f0⟩
  · refine ⟨?_, cs 2 3 0 1, 1, Or.inl rfl, fun r hr => ?_, by decide, by decide, fun r hr => ?_⟩
    · intro z; apply hD; have z9 : d4 M 0 1 2 3 = 0 := z; have e9 : d4 M 2 3 0 1 = 1 * (d4 M 0 1 2 3) := (by rw [q4_2301 M 0 1 2 3]; omega); exact e9.trans (by rw [z9]; rfl)
    · rcases (show r = 0 ∨ r = 1 ∨ r = 2 ∨ r = 3 by omega) with rfl | rfl | rfl | rfl
      · exact ⟨by decide, P0⟩
      · exact ⟨by decide, P1⟩
      · exact ⟨by decide, P2⟩
      · exact ⟨by decide, P3⟩
    · rcases (show r = 0 ∨ r = 1 ∨ r = 2 ∨ r = 3 by omega) with rfl | rfl | rfl | rfl
      · have f4 : d4 M 4 3 0 1 = 1 * (d4 M 0 1 4 3) := by rw [q4_2301 M 0 1 4 3]; omega
        have f0 : d4 M 2 3 0 1 = 1 * (d4 M 0 1 2 3) := by rw [q4_2301 M 0 1 2 3]; omega
        exact ⟨(hX 0 (by decide) 4 (by decide)).trans f4, (hX 0 (by decide) 2 (by decide)).trans f0⟩
      · have f4 : d4 M 2 4 0 1 = 1 * (d4 M 0 1 2 4) := by rw [q4_2301 M 0 1 2 4]; omega
        have f0 : d4 M 2 3 0 1 = 1 * (d4 M 0 1 2 3) := by rw [q4_2301 M 0 1 2 3]; omega
        exact ⟨(hX 1 (by decide) 4 (by decide)).trans f4, (hX 1 (by decide) 3 (by decide)).trans f0⟩
      · have f4 : d4 M 2 3 4 1 = 1 * (d4 M 4 1 2 3) := by rw [q4_2301 M 4 1 2 3]; omega
        have f0 : d4 M 2 3 0 1 = 1 * (d4 M 0 1 2 3) := by rw [q4_2301 M 0 1 2 3]; omega
        exact ⟨(hX 2 (by decide) 4 (by decide)).trans f4, (hX 2 (by decide) 0 (by decide)).trans f0⟩
      · have f4 : d4 M 2 3 0 4 = 1 * (d4 M 0 4 2 3) := by rw [q4_2301 M 0 4 2 3]; omega
        have f0 : d4 M 2 3 0 1 = 1 * (d4 M 0 1 2 3) := by rw [q4_2301 M 0 1 2 3]; omega
        exact ⟨(hX 3 (by decide) 4 (by decide)).trans f4, (hX 3 (by decide) 1 (by decide)).trans f0⟩
  · refine ⟨?_, cs 2 3 1 0, (-1), Or.inr rfl, fun r hr => ?_, by decide, by decide, fun r hr => ?_⟩
    · intro z; apply hD; have z9 : d4 M 0 1 2 3 = 0 := z; have e9 : d4 M 2 3 1 0 = (-1) * (d4 M 0 1 2 3) := (by rw [q4_2310 M 0 1 2 3]; omega); exact e9.trans (by rw [z9]; rfl)
    · rcases (show r = 0 ∨ r = 1 ∨ r = 2 ∨ r = 3 by omega) with rfl | rfl | rfl | rfl
      · exact ⟨by decide, P0⟩
      · exact ⟨by decide, P1⟩
      · exact ⟨by decide, P2⟩
      · exact ⟨by decide, P3⟩
    · rcases (show r = 0 ∨ r = 1 ∨ r = 2 ∨ r = 3 by omega) with rfl | rfl | rfl | rfl
      · have f4 : d4 M 4 3 1 0 = (-1) * (d4 M 0 1 4 3) := by rw [q4_2310 M 0 1 4 3]; omega
        have f0 : d4 M 2 3 1 0 = (-1) * (d4 M 0 1 2 3) := by rw [q4_2310 M 0 1 2 3]; omega
        exact ⟨(hX 0 (by decide) 4 (by decide)).trans f4, (hX 0 (by decide) 2 (by decide)).trans f0⟩
      · have f4 : d4 M 2 4 1 0 = (-1) * (d4 M 0 1 2 4) := by rw [q4_2310 M 0 1 2 4]; omega
        have f0 : d4 M 2 3 1 0 = (-1) * (d4 M 0 1 2 3) := by rw [q4_2310 M 0 1 2 3]; omega
        exact ⟨(hX 1 (by decide) 4 (by decide)).trans f4, (hX 1 (by decide) 3 (by decide)).trans f0⟩
      · have f4 : d4 M 2 3 4 0 = (-1) * (d4 M 0 4 2 3) := by rw [q4_2310 M 0 4 2 3]; omega
        have f0 : d4 M 2 3 1 0 = (-1) * (d4 M 0 1 2 3) := by rw [q4_2310 M 0 1 2 3]; omega
        exact ⟨(hX 2 (by decide) 4 (by decide)).trans f4, (hX 2 (by decide) 1 (by decide)).trans f0⟩
      · have f4 : d4 M 2 3 1 4 = (-1) * (d4 M 4 1 2 3) := by rw [q4_2310 M 4 1 2 3]; omega
        have f0 : d4 M 2 3 1 0 = (-1) * (d4 M 0 1 2 3) := by rw [q4_2310 M 0 1 2 3]; omega
        exact ⟨(hX 3 (by decide) 4 (by decide)).trans f4, (hX 3 (by decide) 0 (by decide)).trans f0⟩
  · refine ⟨?_, cs 3 0 1 2, (-1), Or.inr rfl, fun r hr => ?_, by decide, by decide, fun r hr => ?_⟩
    · intro z; apply hD; have z9 : d4 M 0 1 2 3 = 0 := z; have e9 : d4 M 3 0 1 2 = (-1) * (d4 M 0 1 2 3) := (by rw [q4_3012 M 0 1 2 3]; omega); exact e9.trans (by rw [z9]; rfl)
    · rcases (show r = 0 ∨ r = 1 ∨ r = 2 ∨ r = 3 by omega) with rfl | rfl | rfl | rfl
      · exact ⟨by decide, P0⟩
      · exact ⟨by decide, P1⟩
      · exact ⟨by decide, P2⟩
      · exact ⟨by decide, P3⟩
    · rcases (show r = 0 ∨ r = 1 ∨ r = 2 ∨ r = 3 by omega) with rfl | rfl | rfl | rfl
      · have f4 : d4 M 4 0 1 2 = (-1) * (d4 M 0 1 2 4) := by rw [q4_3012 M 0 1 2 4]; omega
        have f0 : d4 M 3 0 1 2 = (-1) * (d4 M 0 1 2 3) := by rw [q4_3012 M 0 1 2 3]; omega
        exact ⟨(hX 0 (by decide) 4 (by decide)).trans f4, (hX 0 (by decide) 3 (by decide)).trans f0⟩
      · have f4 : d4 M 3 4 1 2 = (-1) * (d4 M 4 1 2 3) := by rw [q4_3012 M 4 1 2 3]; omega
        have f0 : d4 M 3 0 1 2 = (-1) * (d4 M 0 1 2 3) := by rw [q4_3012 M 0 1 2 3]; omega
        exact ⟨(hX 1 (by decide) 4 (by decide)).trans f4, (hX 1 (by decide) 0 (by decide)).trans f0⟩
      · have f4 : d4 M 3 0 4 2 = (-1) * (d4 M 0 4 2 3) := by rw [q4_3012 M 0 4 2 3]; omega
        have f0 : d4 M 3 0 1 2 = (-1) * (d4 M 0 1 2 3) := by rw [q4_3012 M 0 1 2 3]; omega
        exact ⟨(hX 2 (by decide) 4 (by decide)).trans f4, (hX 2 (by decide) 1 (by decide)).trans f0⟩
      · have f4 : d4 M 3 0 1 4 = (-1) * (d4 M 0 1 4 3) := by rw [q4_3012 M 0 1 4 3]; omega
        have f0 : d4 M 3 0 1 2 = (-1) * (d4 M 0 1 2 3) := by rw [q4_3012 M 0 1 2 3]; omega
        exact ⟨(hX 3 (by decide) 4 (by decide)).trans f4, (hX 3 (by decide) 2 (by decide)).trans f0⟩
  · refine ⟨?_, cs 3 0 2 1, 1, Or.inl rfl, fun r hr => ?_, by decide, by decide, fun r hr => ?_⟩
    · intro z; apply hD; have z9 : d4 M 0 1 2 3 = 0 := z; have e9 : d4 M 3 0 2 1 = 1 * (d4 M 0 1 2 3) := (by rw [q4_3021 M 0 1 2 3]; omega); exact e9.trans (by rw [z9]; rfl)
    · rcases (show r = 0 ∨ r = 1 ∨ r = 2 ∨ r = 3 by omega) with rfl | rfl | rfl | rfl
      · exact ⟨by decide, P0⟩
      · exact ⟨by decide, P1⟩
      · exact ⟨by decide, P2⟩
      · exact ⟨by decide, P3⟩
    · rcases (show r = 0 ∨ r = 1 ∨ r = 2 ∨ r = 3 by omega) with rfl | rfl | rfl | rfl
      · have f4 : d4 M 4 0 2 1 = 1 * (d4 M 0 1 2 4) := by rw [q4_3021 M 0 1 2 4]; omega
        have f0 : d4 M 3 0 2 1 = 1 * (d4 M 0 1 2 3) := by rw [q4_3021 M 0 1 2 3]; omega
        exact ⟨(hX 0 (by decide) 4 (by decide)).trans f4, (hX 0 (by decide) 3 (by decide)).trans f0⟩
      · have f4 : d4 M 3 4 2 1 = 1 * (d4 M 4 1 2 3) := by rw [q4_3021 M 4 1 2 3]; omega
        have f0 : d4 M 3 0 2 1 = 1 * (d4 M 0 1 2 3) := by rw [q4_3021 M 0 1 2 3]; omega
        exact ⟨(hX 1 (by decide) 4 (by decide)).trans f4, (hX 1 (by decide) 0 (by decide)).trans f0⟩
      · have f4 : d4 M 3 0 4 1 = 1 * (d4 M 0 1 4 3) := by rw [q4_3021 M 0 1 4 3]; omega
        have f0 : d4 M 3 0 2 1 = 1 * (d4 M 0 1 2 3) := by rw [q4_3021 M 0 1 2 3]; omega
        exact ⟨(hX 2 (by decide) 4 (by decide)).trans f4, (hX 2 (by decide) 2 (by decide)).trans f0⟩
      · have f4 : d4 M 3 0 2 4 = 1 * (d4 M 0 4 2 3) := by rw [q4_3021 M 0 4 2 3]; omega
        have f0 : d4 M 3 0 2 1 = 1 * (d4 M 0 1 2 3) := by rw [q4_3021 M 0 1 2 3]; omega
        exact ⟨(hX 3 (by decide) 4 (by decide)).trans f4, (hX 3 (by decide) 1 (by decide)).trans f0⟩
  · refine ⟨?_, cs 3 1 0 2, 1, Or.inl rfl, fun r hr => ?_, by decide, by decide, fun r hr => ?_⟩
    · intro z; apply hD; have z9 : d4 M 0 1 2 3 = 0 := z; have e9 : d4 M 3 1 0 2 = 1 * (d4 M 0 1 2 3) := (by rw [q4_3102 M 0 1 2 3]; omega); exact e9.trans (by rw [z9]; rfl)
    · rcases (show r = 0 ∨ r = 1 ∨ r = 2 ∨ r = 3 by omega) with rfl | rfl | rfl | rfl
      · exact ⟨by decide, P0⟩
      · exact ⟨by decide, P1⟩
      · exact ⟨by decide, P2⟩
      · exact ⟨by decide, P3⟩
    · rcases (show r = 0 ∨ r = 1 ∨ r = 2 ∨ r = 3 by omega) with rfl | rfl | rfl | rfl
      · have f4 : d4 M 4 1 0 2 = 1 * (d4 M 0 1 2 4) := by rw [q4_3102 M 0 1 2 4]; omega
        have f0 : d4 M 3 1 0 2 = 1 * (d4 M 0 1 2 3) := by rw [q4_3102 M 0 1 2 3]; omega
        exact ⟨(hX 0 (by decide) 4 (by decide)).trans f4, (hX 0 (by decide) 3 (by decide)).trans f0⟩
      · have f4 : d4 M 3 4 0 2 = 1 * (d4 M 0 4 2 3) := by rw [q4_3102 M 0 4 2 3]; omega
        have f0 : d4 M 3 1 0 2 = 1 * (d4 M 0 1 2 3) := by rw [q4_3102 M 0 1 2 3]; omega
        exact ⟨(hX 1 (by decide) 4 (by decide)).trans f4, (hX 1 (by decide) 1 (by decide)).trans f0⟩
      · have f4 : d4 M 3 1 4 2 = 1 * (d4 M 4 1 2 3) := by rw [q4_3102 M 4 1 2 3]; omega
        have f0 : d4 M 3 1 0 2 = 1 * (d4 M 0 1 2 3) := by rw [q4_3102 M 0 1 2 3]; omega
        exact ⟨(hX 2 (by decide) 4 (by decide)).trans f4, (hX 2 (by decide) 0 (by decide)).trans f0⟩
      · have f4 : d4 M 3 1 0 4 = 1 * (d4 M 0 1 4 3) := by rw [q4_3102 M 0 1 4 3]; omega
        have f0 : d4 M 3 1 0 2 = 1 * (d4 M 0 1 2 3) := by rw [q4_3102 M 0 1 2 3]; omega
        exact ⟨(hX 3 (by decide) 4 (by decide)).trans f4, (hX 3 (by decide) 2 (by decide)).trans f0⟩
  · refine ⟨?_, cs 3 1 2 0, (-1), Or.inr rfl, fun r hr => ?_, by decide, by decide, fun r hr => ?_⟩
    · intro z; apply hD; have z9 : d4 M 0 1 2 3 = 0 := z; have e9 : d4 M 3 1 2 0 = (-1) * (d4 M 0 1 2 3) := (by rw [q4_3120 M 0 1 2 3]; omega); exact e9.trans (by rw [z9]; rfl)
    · rcases (show r = 0 ∨ r = 1 ∨ r = 2 ∨ r = 3 by omega) with rfl | rfl | rfl | rfl
      · exact ⟨by decide, P0⟩
      · exact ⟨by decide, P1⟩
      · exact ⟨by decide, P2⟩
      · exact ⟨by decide, P3⟩
    · rcases (show r = 0 ∨ r = 1 ∨ r = 2 ∨ r = 3 by omega) with rfl | rfl | rfl | rfl
      · have f4 : d4 M 4 1 2 0 = (-1) * (d4 M 0 1 2 4) := by rw [q4_3120 M 0 1 2 4]; omega
        have f0 : d4 M 3 1 2 0 = (-1) * (d4 M 0 1 2 3) := by rw [q4_3120 M 0 1 2 3]; omega
        exact ⟨(hX 0 (by decide) 4 (by decide)).trans f4, (hX 0 (by decide) 3 (by decide)).trans f0⟩
      · have f4 : d4 M 3 4 2 0 = (-1) * (d4 M 0 4 2 3) := by rw [q4_3120 M 0 4 2 3]; omega
        have f0 : d4 M 3 1 2 0 = (-1) * (d4 M 0 1 2 3) := by rw [q4_3120 M 0 1 2 3]; omega
        exact ⟨(hX 1 (by decide) 4 (by decide)).trans f4, (hX 1 (by decide) 1 (by decide)).trans f0⟩
      · have f4 : d4 M 3 1 4 0 = (-1) * (d4 M 0 1 4 3) := by rw [q4_3120 M 0 1 4 3]; omega
        have f0 : d4 M 3 1 2 0 = (-1) * (d4 M 0 1 2 3) := by rw [q4_3120 M 0 1 2 3]; omega
        exact ⟨(hX 2 (by decide) 4 (by decide)).trans f4, (hX 2 (by decide) 2 (by decide)).trans f0⟩
      · have f4 : d4 M 3 1 2 4 = (-1) * (d4 M 4 1 2 3) := by rw [q4_3120 M 4 1 2 3]; omega
        have f0 : d4 M 3 1 2 0 = (-1) * (d4 M 0 1 2 3) := by rw [q4_3120 M 0 1 2 3]; omega
        exact ⟨(hX 3 (by decide) 4 (by decide)).trans f4, (hX 3 (by decide) 0 (by decide)).trans f0⟩
  · refine ⟨?_, cs 3 2 0 1, (-1), Or.inr rfl, fun r hr => ?_, by decide, by decide, fun r hr => ?_⟩
    · intro z; apply hD; have z9 : d4 M 0 1 2 3 = 0 := z; have e9 : d4 M 3 2 0 1 = (-1) * (d4 M 0 1 2 3) := (by rw [q4_3201 M 0 1 2 3]; omega); exact e9.trans (by rw [z9]; rfl)
    · rcases (show r = 0 ∨ r = 1 ∨ r = 2 ∨ r = 3 by omega) with rfl | rfl | rfl | rfl
      · exact ⟨by decide, P0⟩
      · exact ⟨by decide, P1⟩
      · exact ⟨by decide, P2⟩
      · exact ⟨by decide, P3⟩
    · rcases (show r = 0 ∨ r = 1 ∨ r = 2 ∨ r = 3 by omega) with rfl | rfl | rfl | rfl
      · have f4 : d4 M 4 2 0 1 = (-1) * (d4 M 0 1 2 4) := by rw [q4_3201 M 0 1 2 4]; omega
        have f0 : d4 M 3 2 0 1 = (-1) * (d4 M 0 1 2 3) := by rw [q4_3201 M 0 1 2 3]; omega
        exact ⟨(hX 0 (by decide) 4 (by decide)).trans f4, (hX 0 (by decide) 3 (by decide)).trans f0⟩
      · have f4 : d4 M 3 4 0 1 = (-1) * (d4 M 0 1 4 3) := by rw [q4_3201 M 0 1 4 3]; omega
        have f0 : d4 M 3 2 0 1 = (-1) * (d4 M 0 1 2 3) := by rw [q4_3201 M 0 1 2 3]; omega
        exact ⟨(hX 1 (by decide) 4 (by decide)).trans f4, (hX 1 (by decide) 2 (by decide)).trans f0⟩
      · have f4 : d4 M 3 2 4 1 = (-1) * (d4 M 4 1 2 3) := by rw [q4_3201 M 4 1 2 3]; omega
        have f0 : d4 M 3 2 0 1 = (-1) * (d4 M 0 1 2 3) := by rw [q4_3201 M 0 1 2 3]; omega
        exact ⟨(hX 2 (by decide) 4 (by decide)).trans f4, (hX 2 (by decide) 0 (by decide)).trans f0⟩
      · have f4 : d4 M 3 2 0 4 = (-1) * (d4 M 0 4 2 3) := by rw [q4_3201 M 0 4 2 3]; omega
        have f0 : d4 M 3 2 0 1 = (-1) * (d4 M 0 1 2 3) := by rw [q4_3201 M 0 1 2 3]; omega
        exact ⟨(hX 3 (by decide) 4 (by decide)).trans f4, (hX 3 (by decide) 1 (by decide)).trans f0⟩
  · refine ⟨?_, cs 3 2 1 0, 1, Or.inl rfl, fun r hr => ?_, by decide, by decide, fun r hr => ?_⟩
    · intro z; apply hD; have z9 : d4 M 0 1 2 3 = 0 := z; have e9 : d4 M 3 2 1 0 = 1 * (d4 M 0 1 2 3) := (by rw [q4_3210 M 0 1 2 3]; omega); exact e9.trans (by rw [z9]; rfl)
    · rcases (show r = 0 ∨ r = 1 ∨ r = 2 ∨ r = 3 by omega) with rfl | rfl | rfl | rfl
      · exact ⟨by decide, P0⟩
      · exact ⟨by decide, P1⟩
      · exact ⟨by decide, P2⟩
      · exact ⟨by decide, P3⟩
    · rcases (show r = 0 ∨ r = 1 ∨ r = 2 ∨ r = 3 by omega) with rfl | rfl | rfl | rfl
      · have f4 : d4 M 4 2 1 0 = 1 * (d4 M 0 1 2 4) := by rw [q4_3210 M 0 1 2 4]; omega
        have f0 : d4 M 3 2 1 0 = 1 * (d4 M 0 1 2 3) := by rw [q4_3210 M 0 1 2 3]; omega
        exact ⟨(hX 0 (by decide) 4 (by decide)).trans f4, (hX 0 (by decide) 3 (by decide)).trans f0⟩
      · have f4 : d4 M 3 4 1 0 = 1 * (d4 M 0 1 4 3) := by rw [q4_3210 M 0 1 4 3]; omega
        have f0 : d4 M 3 2 1 0 = 1 * (d4 M 0 1 2 3) := by rw [q4_3210 M 0 1 2 3]; omega
        exact ⟨(hX 1 (by decide) 4 (by decide)).trans f4, (hX 1 (by decide) 2 (by decide)).trans f0⟩
      · have f4 : d4 M 3 2 4 0 = 1 * (d4 M 0 4 2 3) := by rw [q4_3210 M 0 4 2 3]; omega
        have f0 : d4 M 3 2 1 0 = 1 * (d4 M 0 1 2 3) := by rw [q4_3210 M 0 1 2 3]; omega
        exact ⟨(hX 2 (by decide) 4 (by decide)).trans f4, (hX 2 (by decide) 1 (by decide)).trans f0⟩
      · have f4 : d4 M 3 2 1 4 = 1 * (d4 M 4 1 2 3) := by rw [q4_3210 M 4 1 2 3]; omega
        have f0 : d4 M 3 2 1 0 = 1 * (d4 M 0 1 2 3) := by rw [q4_3210 M 0 1 2 3]; omega
        exact ⟨(hX 3 (by decide) 4 (by decide)).trans f4, (hX 3 (by decide) 0 (by decide)).trans f0⟩
end STG

