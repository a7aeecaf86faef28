/-! ===== both ways of solving agree ===== -/
def agr (ge : Nat → Int32) (M : Nat → Nat → Int) (n d r : Nat) (bf : Int64) (X : Nat → Nat → Int64) (P : Nat → Int32) (f : Nat → Int64) : Prop :=
  (soL n d r bf X P).1 = (fmL ge n d (r + 1) f).1 ∧ ((soL n d r bf X P).1 = 0 → fin M n (soL n d r bf X P).2.1 (soL n d r bf X P).2.2)
section AG
variable {ge : Nat → Int32} {M : Nat → Nat → Int}
theorem agr_step {n d r : Nat} {bf : Int64} {X : Nat → Nat → Int64} {P : Nat → Int32} {f : Nat → Int64} (hr : r < n) (hn : n ≤ 4) (hnone : (∀ j, j < n → X r j = 0) → (f_mo_free ge f (r + 1) n).1 = 0)
    (hsome : ∀ c, c < n → ¬ X r c = 0 → ¬ (f_mo_free ge f (r + 1) n).1 = 0 ∧ ∀ f', agr ge M n d (r + 1) (soI r c bf n 0 X r c) (soI r c bf n 0 X) (upd P r (nI c)) f') : agr ge M n (d + 1) r bf X P f := by
  unfold agr
  rw [soL, fmL]
  rcases pvL_spec (X r) n 0 with ⟨hp, hz⟩ | ⟨c, -, hc, hnz, hp⟩
  · have hp' : f_ks_pivot X r n = -1 := hp
    rw [if_pos hp', if_pos (hnone (fun j hj => hz j (by omega) (by omega)))]
    exact ⟨nI_1 r, fun q => absurd q (nI_s4 (by omega))⟩
  · have hp' : f_ks_pivot X r n = nI c := hp
    have hcl : (nI c).toNatClampNeg = c := nI_clamp (by omega)
    obtain ⟨k1, k2⟩ := hsome c (by omega) hnz
    have hm : ¬ f_ks_pivot X r n = -1 := by
      rw [hp']
      intro q
      have := congrArg Int32.toInt q
      rw [nI_toInt (by omega), show (-1 : Int32).toInt = -1 by decide] at this
      omega
    rw [if_neg hm, if_neg k1, hp', hcl]
    exact k2 _
theorem upd_s {P : Nat → Int32} {r : Nat} {x : Int32} : upd P r x r = x := by rw [upd, if_pos rfl]
theorem upd_o {P : Nat → Int32} {r i : Nat} {x : Int32} (h : ¬ i = r) : upd P r x i = P i := by rw [upd, if_neg h]
theorem mul0 {x y : Int} (hx : x ≠ 0) (h : x * y = 0) : y = 0 := (Int.mul_eq_zero.mp h).resolve_left hx
theorem stg3 (hge : ∀ i, i < 4 → ∀ j, j < 5 → (ge (5 * i + j)).toInt = M i j) (hM : ∀ i, i < 4 → ∀ j, j < 5 → (M i j).natAbs ≤ 100) {n d c0 c1 c2 : Nat} (hd : d + 3 = n) (hn : n ≤ 4) (h0 : c0 < n) (h1 : c1 < n) (h2 : c2 < n) (n01 : ¬ c0 = c1) (n02 : ¬ c0 = c2) (n12 : ¬ c1 = c2) {X : Nat → Nat → Int64} {P : Nat → Int32} {bf : Int64} (hX : ∀ i, i < n → ∀ j, j < 5 → (X i j).toInt = G3 M c0 c1 c2 i j) (hb : bf.toInt = d3 M 2 c0 c1 c2) (hD : d3 M 2 c0 c1 c2 ≠ 0) (P0 : P 0 = nI c0) (P1 : P 1 = nI c1) (P2 : P 2 = nI c2) (f : Nat → Int64) : agr ge M n d 3 bf X P f := by
  cases d with
  | zero =>
    subst hd
    exact ⟨rfl, fun _ => fin_3 h0 h1 h2 n01 n02 n12 hX hD P0 P1 P2⟩
  | succ d =>
    obtain rfl : d = 0 := by omega
    obtain rfl : n = 4 := by omega
    refine agr_step (by omega) hn (fun hz => ?_) (fun c3 h3 hnz => ?_)
    · have hz' : ∀ j, j < 4 → d4 M c0 c1 c2 j = 0 := fun j hj => by
        have := hX 3 (by omega) j (by omega)
        rw [hz j hj] at this
        exact this.symm
      refine (fr4 hge hM f).mpr (mul0 hD ?_)
      rw [p4 M c0 c1 c2 0 1 2 3, hz' 0 (by omega), hz' 1 (by omega), hz' 2 (by omega), hz' 3 (by omega)]
      simp
    · have hD4 : d4 M c0 c1 c2 c3 ≠ 0 := by
        have e : (X 3 c3).toInt = d4 M c0 c1 c2 c3 := hX 3 (by omega) c3 (by omega)
        rw [← e]
        exact L_ne0.mp hnz
      have m0 : ¬ c0 = c3 := fun e => hD4 (by rw [← e]; exact z4a M c0 c1 c2)
      have m1 : ¬ c1 = c3 := fun e => hD4 (by rw [← e]; exact z4b M c0 c1 c2)
      have m2 : ¬ c2 = c3 := fun e => hD4 (by rw [← e]; exact z4c M c0 c1 c2)
      have hX' := el_step (Q := G4 M c0 c1 c2 c3) (show 3 < 4 by omega) (show c3 < 5 by omega) hX hb hD
        (fun j hj => b4 hM (by omega) (by omega) (by omega) hj)
        (fun i hi hne j hj => by
          rcases (show i = 0 ∨ i = 1 ∨ i = 2 by omega) with rfl | rfl | rfl
          · exact b3 hM (by omega) hj (by omega) (by omega)
          · exact b3 hM (by omega) (by omega) hj (by omega)
          · exact b3 hM (by omega) (by omega) (by omega) hj)
        (fun i hi hne j hj => by
          rcases (show i = 0 ∨ i = 1 ∨ i = 2 by omega) with rfl | rfl | rfl
          · exact s4a M c0 c1 c2 c3 j
          · exact s4b M c0 c1 c2 c3 j
          · exact s4c M c0 c1 c2 c3 j)
        (fun j hj => rfl)
      have hF := fin_4 (P := upd P 3 (nI c3)) h0 h1 h2 h3 n01 n02 m0 n12 m1 m2 hX' hD4 (by rw [upd_o (by omega)]; exact P0) (by rw [upd_o (by omega)]; exact P1) (by rw [upd_o (by omega)]; exact P2) upd_s
      refine ⟨fun q => ?_, fun f' => ⟨rfl, fun _ => hF⟩⟩
      exact hF.1 ((fr4 hge hM f).mp q)
theorem stg2 (hge : ∀ i, i < 4 → ∀ j, j < 5 → (ge (5 * i + j)).toInt = M i j) (hM : ∀ i, i < 4 → ∀ j, j < 5 → (M i j).natAbs ≤ 100) {n d c0 c1 : Nat} (hd : d + 2 = n) (hn : n ≤ 4) (h0 : c0 < n) (h1 : c1 < n) (n01 : ¬ c0 = c1) {X : Nat → Nat → Int64} {P : Nat → Int32} {bf : Int64} (hX : ∀ i, i < n → ∀ j, j < 5 → (X i j).toInt = G2 M c0 c1 i j) (hb : bf.toInt = d2 M 0 1 c0 c1) (hD : d2 M 0 1 c0 c1 ≠ 0) (P0 : P 0 = nI c0) (P1 : P 1 = nI c1) (f : Nat → Int64) : agr ge M n d 2 bf X P f := by
  cases d with
  | zero =>
    subst hd
    exact ⟨rfl, fun _ => fin_2 h0 h1 n01 hX hD P0 P1⟩
  | succ d =>
    have hn3 : n = 3 ∨ n = 4 := by omega
    refine agr_step (by omega) hn (fun hz => ?_) (fun c2 h2 hnz => ?_)
    · have hz' : ∀ j, j < n → d3 M 2 c0 c1 j = 0 := fun j hj => by
        have := hX 2 (by omega) j (by omega)
        rw [hz j hj] at this
        exact this.symm
      refine (fr3 hge hM hn3 f).mpr (fun a b c hab hbc hc => mul0 hD ?_)
      rw [p3 M c0 c1 a b c, hz' a (by omega), hz' b (by omega), hz' c (by omega)]
      simp
    · have hD3 : d3 M 2 c0 c1 c2 ≠ 0 := by
        have e : (X 2 c2).toInt = d3 M 2 c0 c1 c2 := hX 2 (by omega) c2 (by omega)
        rw [← e]
        exact L_ne0.mp hnz
      have m0 : ¬ c0 = c2 := fun e => hD3 (by rw [← e]; exact z3a M c0 c1)
      have m1 : ¬ c1 = c2 := fun e => hD3 (by rw [← e]; exact z3b M c0 c1)
      have hX' := el_step (Q := G3 M c0 c1 c2) (show 2 < n by omega) (show c2 < 5 by omega) hX hb hD
        (fun j hj => Nat.le_trans (b3 hM (k := 2) (by omega) (by omega) (by omega) hj) (by decide))
        (fun i hi hne j hj => by
          rcases (show i = 0 ∨ i = 1 ∨ i = 3 by omega) with rfl | rfl | rfl
          · exact Nat.le_trans (b2 hM (i := 0) (j := 1) (by omega) (by omega) hj (by omega)) (by decide)
          · exact Nat.le_trans (b2 hM (i := 0) (j := 1) (by omega) (by omega) (by omega) hj) (by decide)
          · exact b3 hM (k := 3) (by omega) (by omega) (by omega) hj)
        (fun i hi hne j hj => by
          rcases (show i = 0 ∨ i = 1 ∨ i = 3 by omega) with rfl | rfl | rfl
          · exact s3a M c0 c1 c2 j
          · exact s3b M c0 c1 c2 j
          · exact s3c M c0 c1 c2 j)
        (fun j hj => rfl)
      refine ⟨fun q => hD3 (all3 ((fr3 hge hM hn3 f).mp q) h0 h1 h2), fun f' => ?_⟩
      exact stg3 hge hM (by omega) hn h0 h1 h2 n01 m0 m1 hX' (hX' 2 (by omega) c2 (by omega)) hD3 (by rw [upd_o (by omega)]; exact P0) (by rw [upd_o (by omega)]; exact P1) upd_s f'
theorem stg1 (hge : ∀ i, i < 4 → ∀ j, j < 5 → (ge (5 * i + j)).toInt = M i j) (hM : ∀ i, i < 4 → ∀ j, j < 5 → (M i j).natAbs ≤ 100) {n d c0 : Nat} (hd : d + 1 = n) (hn : n ≤ 4) (h0 : c0 < n) {X : Nat → Nat → Int64} {P : Nat → Int32} {bf : Int64} (hX : ∀ i, i < n → ∀ j, j < 5 → (X i j).toInt = G1 M c0 i j) (hb : bf.toInt = M 0 c0) (hD : M 0 c0 ≠ 0) (P0 : P 0 = nI c0) (f : Nat → Int64) : agr ge M n d 1 bf X P f := by
  cases d with
  | zero =>
    subst hd
    exact ⟨rfl, fun _ => fin_1 h0 hX hD P0⟩
  | succ d =>
    have hn3 : n = 2 ∨ n = 3 ∨ n = 4 := by omega
    refine agr_step (by omega) hn (fun hz => ?_) (fun c1 h1 hnz => ?_)
    · have hz' : ∀ j, j < n → d2 M 0 1 c0 j = 0 := fun j hj => by
        have := hX 1 (by omega) j (by omega)
        rw [hz j hj] at this
        exact this.symm
      refine (fr2 hge hM hn3 f).mpr (fun a b hab hb9 => mul0 hD ?_)
      rw [p2 M c0 a b, hz' a (by omega), hz' b (by omega)]
      simp
    · have hD2 : d2 M 0 1 c0 c1 ≠ 0 := by
        have e : (X 1 c1).toInt = d2 M 0 1 c0 c1 := hX 1 (by omega) c1 (by omega)
        rw [← e]
        exact L_ne0.mp hnz
      have m0 : ¬ c0 = c1 := fun e => hD2 (by rw [← e]; exact z2 M c0)
      have hX' := el_step (Q := G2 M c0 c1) (show 1 < n by omega) (show c1 < 5 by omega) hX hb hD
        (fun j hj => Nat.le_trans (b2 hM (i := 0) (j := 1) (by omega) (by omega) (by omega) hj) (by decide))
        (fun i hi hne j hj => by
          rcases (show i = 0 ∨ i = 2 ∨ i = 3 by omega) with rfl | rfl | rfl
          · exact Nat.le_trans (hM 0 (by omega) j hj) (by decide)
          · exact Nat.le_trans (b2 hM (i := 0) (j := 2) (by omega) (by omega) (by omega) hj) (by decide)
          · exact Nat.le_trans (b2 hM (i := 0) (j := 3) (by omega) (by omega) (by omega) hj) (by decide))
        (fun i hi hne j hj => by
          rcases (show i = 0 ∨ i = 2 ∨ i = 3 by omega) with rfl | rfl | rfl
          · exact s2a M c0 c1 j
          · exact s2b M 2 c0 c1 j
          · exact s2b M 3 c0 c1 j)
        (fun j hj => rfl)
      refine ⟨fun q => hD2 (all2 ((fr2 hge hM hn3 f).mp q) h0 h1), fun f' => ?_⟩
      exact stg2 hge hM (by omega) hn h0 h1 m0 hX' (hX' 1 (by omega) c1 (by omega)) hD2 (by rw [upd_o (by omega)]; exact P0) upd_s f'
theorem stg0 (hge : ∀ i, i < 4 → ∀ j, j < 5 → (ge (5 * i + j)).toInt = M i j) (hM : ∀ i, i < 4 → ∀ j, j < 5 → (M i j).natAbs ≤ 100) {n : Nat} (h1 : 1 ≤ n) (hn : n ≤ 4) {X : Nat → Nat → Int64} {P : Nat → Int32} (hX : ∀ i, i < n → ∀ j, j < 5 → (X i j).toInt = M i j) (f : Nat → Int64) : agr ge M n n 0 1 X P f := by
  obtain ⟨d, rfl⟩ : ∃ d, n = d + 1 := ⟨n - 1, by omega⟩
  have hn3 : d + 1 = 1 ∨ d + 1 = 2 ∨ d + 1 = 3 ∨ d + 1 = 4 := by omega
  refine agr_step (by omega) hn (fun hz => ?_) (fun c0 h0 hnz => ?_)
  · refine (fr1 hge hM hn3 f).mpr (fun a ha => ?_)
    have := hX 0 (by omega) a (by omega)
    rw [hz a ha] at this
    exact this.symm
  · have hD1 : M 0 c0 ≠ 0 := by
      rw [← hX 0 (by omega) c0 (by omega)]
      exact L_ne0.mp hnz
    have hX' := el_step (Q := G1 M c0) (D := 1) (bf := 1) (show 0 < d + 1 by omega) (show c0 < 5 by omega) hX rfl (by decide)
      (fun j hj => Nat.le_trans (hM 0 (by omega) j hj) (by decide))
      (fun i hi hne j hj => Nat.le_trans (hM i (by omega) j hj) (by decide))
      (fun i hi hne j hj => by
        rw [G1, if_neg hne, d2, Int.one_mul, Int.mul_comm (M i c0)])
      (fun j hj => rfl)
    refine ⟨fun q => hD1 ((fr1 hge hM hn3 f).mp q c0 h0), fun f' => ?_⟩
    exact stg1 hge hM rfl hn h0 hX' (hX' 0 (by omega) c0 (by omega)) hD1 upd_s f'
end AG
/-! ===== the answers ===== -/
theorem neg_0 {y : Int64} : -y = 0 ↔ y = 0 := ⟨fun h => by rw [← Int64.neg_neg (a := y), h]; rfl, fun h => by rw [h]; rfl⟩
theorem gcdL_neg : ∀ (k : Nat) (x y : Int64), x.toInt.natAbs ≤ 2400000000 → y.toInt.natAbs ≤ 2400000000 → gcdL k (-x) (-y) = -gcdL k x y
  | 0, _, _, _, _ => rfl
  | k + 1, x, y, hx, hy => by
    rw [gcdL, gcdL]
    by_cases h : y = 0
    · rw [if_pos h, if_pos (neg_0.mpr h)]
    · have hn : ¬ -y = 0 := fun q => h (neg_0.mp q)
      rw [if_neg h, if_neg hn]
      have ex := L_neg (x := x) (by omega)
      have ey := L_neg (x := y) (by omega)
      have hr : (x.toInt.tmod y.toInt).natAbs < y.toInt.natAbs := by
        rw [Int.natAbs_tmod]
        exact Nat.mod_lt _ (by have := L_ne0.mp h; omega)
      have e : -x - -x / -y * -y = -(x - x / y * y) := L_inj (by
        have e1 : (x - x / y * y).toInt = x.toInt.tmod y.toInt := L_rem h
        have e2 : (-(x - x / y * y)).toInt = -(x - x / y * y).toInt := L_neg (by rw [e1]; omega)
        rw [L_rem hn, e2, e1, ex, ey, Int.tmod_neg, Int.neg_tmod])
      rw [e]
      exact gcdL_neg k y _ hy (by rw [L_rem h]; omega)
section GN
variable {a b : Int64}
theorem gcd_facts (hb : b.toInt.natAbs ≤ 2400000000) (h0 : ¬ b = 0) : ¬ gcdL 200 a b = 0 ∧ (gcdL 200 a b).toInt.natAbs ≤ b.toInt.natAbs := ⟨gcdL_y (k := 199) h0, gcd_sz 200 a b (euc_all a b) h0⟩
theorem sg_eq (hb : b.toInt.natAbs ≤ 2400000000) (h0 : ¬ b = 0) : sgX b (gcdL 200 a b) = f_kr_gcd a b := by
  obtain ⟨g0, gs⟩ := gcd_facts (a := a) hb h0
  unfold f_kr_gcd sgX kr_gcdE
  generalize gcdL 200 a b = g at g0 gs
  have g0' := L_ne0.mp g0
  have b0' := L_ne0.mp h0
  have e0 : (0 : Int64).toInt = 0 := by decide
  have ed : (b / g).toInt = b.toInt.tdiv g.toInt := L_div (by omega)
  by_cases hs : 0 ≤ g.toInt ↔ 0 ≤ b.toInt
  · have := tdiv_pos g0' gs hs
    rw [if_pos (show 0 ≤ b / g by rw [L_le, e0, ed]; omega)]
    by_cases h1 : 0 ≤ g
    · rw [if_pos h1, if_pos (L_le.mpr (by rw [e0]; rw [L_le, e0] at h1; omega))]
    · rw [if_neg h1, if_neg (fun q => h1 (L_le.mpr (by rw [e0]; rw [L_le, e0] at q; omega)))]
  · have h3 := tdiv_pos (b := b.toInt) (g := -g.toInt) (by omega) (by omega) (by omega)
    rw [Int.tdiv_neg] at h3
    rw [if_neg (show ¬ 0 ≤ b / g by rw [L_le, e0, ed]; omega)]
    by_cases h1 : 0 ≤ g
    · rw [if_pos h1, if_neg (fun q => hs (by rw [L_le, e0] at h1 q; omega))]
    · rw [if_neg h1, if_pos (L_le.mpr (by rw [e0]; rw [L_le, e0] at h1; omega))]
theorem gcd_neg (ha : a.toInt.natAbs ≤ 2400000000) (hb : b.toInt.natAbs ≤ 2400000000) (h0 : ¬ b = 0) : f_kr_gcd (-a) (-b) = -f_kr_gcd a b := by
  obtain ⟨g0, gs⟩ := gcd_facts (a := a) hb h0
  unfold f_kr_gcd
  rw [gcdL_neg 200 a b ha hb]
  generalize gcdL 200 a b = g at g0 gs
  have g0' := L_ne0.mp g0
  have b0' := L_ne0.mp h0
  have e0 : (0 : Int64).toInt = 0 := by decide
  have eg := L_neg (x := g) (by omega)
  have eb := L_neg (x := b) (by omega)
  have cg : (0 ≤ -g) ↔ ¬ 0 ≤ g := by rw [L_le, L_le, e0, eg]; omega
  have cb : (0 ≤ -b) ↔ ¬ 0 ≤ b := by rw [L_le, L_le, e0, eb]; omega
  unfold kr_gcdE
  by_cases h1 : 0 ≤ g
  · by_cases h2 : 0 ≤ b
    · rw [if_neg (fun q => cg.mp q h1), if_neg (fun q => cb.mp q h2), if_pos h1, if_pos h2]
    · rw [if_neg (fun q => cg.mp q h1), if_pos (cb.mpr h2), if_pos h1, if_neg h2]
  · by_cases h2 : 0 ≤ b
    · rw [if_pos (cg.mpr h1), if_neg (fun q => cb.mp q h2), if_neg h1, if_pos h2]
    · rw [if_pos (cg.mpr h1), if_pos (cb.mpr h2), if_neg h1, if_neg h2]
theorem div_nn {x y : Int64} (hx : x.toInt.natAbs ≤ 2400000000) (hy : y.toInt.natAbs ≤ 2400000000) : -x / -y = x / y := by
  have ex := L_neg (x := x) (by omega)
  have ey := L_neg (x := y) (by omega)
  exact L_inj (by rw [L_div (by omega), L_div (by omega), ex, ey, Int.tdiv_neg, Int.neg_tdiv, Int.neg_neg])
theorem gcd_le (hb : b.toInt.natAbs ≤ 2400000000) (h0 : ¬ b = 0) : (f_kr_gcd a b).toInt.natAbs ≤ 2400000000 ∧ ¬ f_kr_gcd a b = 0 := by
  obtain ⟨g0, gs⟩ := gcd_facts (a := a) hb h0
  unfold f_kr_gcd kr_gcdE
  generalize gcdL 200 a b = g at g0 gs
  have eg := L_neg (x := g) (by omega)
  have hn : ¬ -g = 0 := fun q => g0 (neg_0.mp q)
  split <;> split <;> first | exact ⟨by omega, g0⟩ | exact ⟨by rw [eg]; omega, hn⟩
end GN
theorem kaL_keep {fp : Nat → Int32} {Wm : Nat → Nat → Int64} {c : Nat → Nat} {n : Nat} (hn : n ≤ 4) (hp : ∀ r, r < n → c r < n ∧ fp r = nI (c r)) {k : Nat} : ∀ (d r : Nat) (u v : Nat → Int64), r + d = n → (∀ t, r ≤ t → t < n → ¬ c t = k) → (kaL fp Wm d r u v).1 k = u k ∧ (kaL fp Wm d r u v).2 k = v k
  | 0, _, _, _, _, _ => ⟨rfl, rfl⟩
  | d + 1, r, u, v, h1, h2 => by
    have hc := h2 r (by omega) (by omega)
    obtain ⟨q1, q2⟩ := hp r (by omega)
    rw [kaL, q2, nI_clamp (by omega)]
    split
    · exact kaL_keep hn hp d (r + 1) u v (by omega) (fun t a b => h2 t (by omega) b)
    · obtain ⟨e1, e2⟩ := kaL_keep hn hp d (r + 1) _ _ (by omega) (fun t a b => h2 t (by omega) b)
      rw [e1, e2, vp_updL, vp_updL, if_neg (fun z => hc z.symm), if_neg (fun z => hc z.symm)]
      exact ⟨rfl, rfl⟩
theorem kaL_spec {fp : Nat → Int32} {Wm : Nat → Nat → Int64} {c : Nat → Nat} {n : Nat} (hn : n ≤ 4) (hp : ∀ r, r < n → c r < n ∧ fp r = nI (c r)) (hi : ∀ r, r < n → ∀ t, t < n → c r = c t → r = t) (hg : ∀ r, r < n → ¬ f_kr_gcd (Wm r 4) (Wm r (c r)) = 0) : ∀ (d r : Nat) (u v : Nat → Int64), r + d = n → ∀ t, r ≤ t → t < n → (kaL fp Wm d r u v).1 (c t) = Wm t 4 / f_kr_gcd (Wm t 4) (Wm t (c t)) ∧ (kaL fp Wm d r u v).2 (c t) = Wm t (c t) / f_kr_gcd (Wm t 4) (Wm t (c t))
  | 0, r, _, _, h1, t, h2, h3 => by omega
  | d + 1, r, u, v, h1, t, h2, h3 => by
    obtain ⟨q1, q2⟩ := hp r (by omega)
    rw [kaL, q2, nI_clamp (by omega), if_neg (hg r (by omega))]
    by_cases e : t = r
    · subst e
      obtain ⟨e1, e2⟩ := kaL_keep (Wm := Wm) hn hp (k := c t) d (t + 1) (vp_updL u (c t) (Wm t 4 / f_kr_gcd (Wm t 4) (Wm t (c t)))) (vp_updL v (c t) (Wm t (c t) / f_kr_gcd (Wm t 4) (Wm t (c t)))) (by omega) (fun t' a b z => by
        have := hi t' b t h3 z
        omega)
      rw [e1, e2, vp_updL, vp_updL, if_pos rfl, if_pos rfl]
      exact ⟨rfl, rfl⟩
    · exact kaL_spec hn hp hi hg d (r + 1) _ _ (by omega) t (by omega) h3
theorem anL_spec {ge : Nat → Int32} {n : Nat} {all : Int64} {A : Nat → Int64} (hA : ∀ f k, k < n → f_mo_det (f_mo_load ge f n (nI k)) n = A k) : ∀ (d k : Nat) (f a b : Nat → Int64) (t : Nat), k + d ≤ n → (anL ge n all d k f a b).2.1 t = (if k ≤ t ∧ t < k + d then A t / sgX all (gcdL 200 (A t) all) else a t) ∧ (anL ge n all d k f a b).2.2 t = (if k ≤ t ∧ t < k + d then all / sgX all (gcdL 200 (A t) all) else b t)
  | 0, k, f, a, b, t, _ => by rw [anL, if_neg (by omega), if_neg (by omega)]; exact ⟨rfl, rfl⟩
  | d + 1, k, f, a, b, t, h => by
    obtain ⟨e1, e2⟩ := anL_spec hA d (k + 1) (f_mo_load ge f n (nI k)) (vp_updL a k (f_mo_det (f_mo_load ge f n (nI k)) n / sgX all (gcdL 200 (f_mo_det (f_mo_load ge f n (nI k)) n) all))) (vp_updL b k (all / sgX all (gcdL 200 (f_mo_det (f_mo_load ge f n (nI k)) n) all))) t (by omega)
    rw [anL, e1, e2, hA f k (by omega)]
    by_cases c1 : k + 1 ≤ t ∧ t < k + 1 + d
    · rw [if_pos c1, if_pos c1, if_pos (by omega), if_pos (by omega)]
      exact ⟨rfl, rfl⟩
    · rw [if_neg c1, if_neg c1]
      by_cases c2 : t = k
      · subst c2
        rw [if_pos (by omega), if_pos (by omega), vp_updL, vp_updL, if_pos rfl, if_pos rfl]
        exact ⟨rfl, rfl⟩
      · rw [if_neg (by omega), if_neg (by omega), vp_updL, vp_updL, if_neg c2, if_neg c2]
        exact ⟨rfl, rfl⟩
section SV
variable {ge : Nat → Int32} {M : Nat → Nat → Int}
theorem ld_all (hge : ∀ i, i < 4 → ∀ j, j < 5 → (ge (5 * i + j)).toInt = M i j) {n : Nat} (h1 : 1 ≤ n) (hn : n ≤ 4) (f : Nat → Int64) : f_mo_det (f_mo_load ge f n (-1)) n = Int64.ofInt (dt M n) := by
  rcases (show n = 1 ∨ n = 2 ∨ n = 3 ∨ n = 4 by omega) with rfl | rfl | rfl | rfl
  · exact lvv_1 hge f
  · exact lvv_2 hge f
  · exact lvv_3 hge f
  · exact lvv_4 hge f
theorem ld_k (hge : ∀ i, i < 4 → ∀ j, j < 5 → (ge (5 * i + j)).toInt = M i j) {n k : Nat} (hn : n ≤ 4) (hk : k < n) (f : Nat → Int64) : f_mo_det (f_mo_load ge f n (nI k)) n = Int64.ofInt (cr M n k) := by
  rcases (show n = 1 ∨ n = 2 ∨ n = 3 ∨ n = 4 by omega) with rfl | rfl | rfl | rfl
  · obtain rfl : k = 0 := by omega
    exact lvv_1_0 hge f
  · rcases (show k = 0 ∨ k = 1 by omega) with rfl | rfl
    · exact lvv_2_0 hge f
    · exact lvv_2_1 hge f
  · rcases (show k = 0 ∨ k = 1 ∨ k = 2 by omega) with rfl | rfl | rfl
    · exact lvv_3_0 hge f
    · exact lvv_3_1 hge f
    · exact lvv_3_2 hge f
  · rcases (show k = 0 ∨ k = 1 ∨ k = 2 ∨ k = 3 by omega) with rfl | rfl | rfl | rfl
    · exact lvv_4_0 hge f
    · exact lvv_4_1 hge f
    · exact lvv_4_2 hge f
    · exact lvv_4_3 hge f
theorem dt_b (hM : ∀ i, i < 4 → ∀ j, j < 5 → (M i j).natAbs ≤ 100) (n : Nat) : (dt M n).natAbs ≤ 2400000000 := by
  unfold dt
  split
  · exact Nat.le_trans (hM 0 (by omega) 0 (by omega)) (by decide)
  · split
    · exact Nat.le_trans (b2 hM (by omega) (by omega) (by omega) (by omega)) (by decide)
    · split
      · exact Nat.le_trans (b3 hM (by omega) (by omega) (by omega) (by omega)) (by decide)
      · exact b4 hM (by omega) (by omega) (by omega) (by omega)
theorem c4_5 (k x : Nat) (hx : x < 5) : c4 k x < 5 := by unfold c4; split <;> omega
theorem cr_b (hM : ∀ i, i < 4 → ∀ j, j < 5 → (M i j).natAbs ≤ 100) (n k : Nat) : (cr M n k).natAbs ≤ 2400000000 := by
  have h0 := c4_5 k 0 (by omega)
  have h1 := c4_5 k 1 (by omega)
  have h2 := c4_5 k 2 (by omega)
  have h3 := c4_5 k 3 (by omega)
  unfold cr
  split
  · exact Nat.le_trans (hM 0 (by omega) _ h0) (by decide)
  · split
    · exact Nat.le_trans (b2 hM (by omega) (by omega) h0 h1) (by decide)
    · split
      · exact Nat.le_trans (b3 hM (by omega) h0 h1 h2) (by decide)
      · exact b4 hM h0 h1 h2 h3
end SV
section SO
variable {E : Nat → Nat → Int32} {ge : Nat → Int32}
theorem RE_ge (h : RE E ge) : ∀ i, i < 4 → ∀ j, j < 5 → (ge (5 * i + j)).toInt = (fun i j => (E i j).toInt) i j := fun i hi j hj => by rw [(h i hi j hj).1]
theorem RE_M (h : RE E ge) : ∀ i, i < 4 → ∀ j, j < 5 → ((fun i j => (E i j).toInt) i j).natAbs ≤ 100 := fun i hi j hj => by
  have := (h i hi j hj).2
  show ((E i j).toInt).natAbs ≤ 100
  omega
theorem sol_agr (h : RE E ge) {n : Nat} (h1 : 1 ≤ n) (hn : n ≤ 4) (Wm : Nat → Nat → Int64) (P : Nat → Int32) (f : Nat → Int64) : agr ge (fun i j => (E i j).toInt) n n 0 1 (f_ks_copy E Wm n) P f :=
  stg0 (RE_ge h) (RE_M h) h1 hn (fun i hi j hj => by unfold f_ks_copy; rw [cpL_spec, if_pos (by omega), L_i]) f
theorem solve_hall (h : RE E ge) {gs : Nat → Int64} {size : Int32} : ∀ n, n ≤ 4 → size = nI n → (fmL ge n n 1 gs).1 = 0 → ¬ f_mo_det (f_mo_load ge (fmL ge n n 1 gs).2 n (-1)) n = 0 := by
  intro n hn _ h0
  rcases Nat.eq_zero_or_pos n with q | q
  · subst q
    show ¬ (0 + 1 : Int64) = 0
    decide
  · obtain ⟨a1, a2⟩ := sol_agr h q hn (fun _ _ => 0) (fun _ => 0) gs
    have hF := a2 (a1.trans h0)
    rw [ld_all (RE_ge h) q hn]
    intro z
    exact hF.1 ((ofz (dt_b (RE_M h) n) (by decide)).mp z)
theorem solve_core (h : RE E ge) {ans so : Int32} {fsu fsl ga gb gs : Nat → Int64} (hA : RA ans fsu fsl so ga gb) {fp : Nat → Int32} {Wm : Nat → Nat → Int64} {size : Int32} :
    (f_kr_solve ans fp fsu fsl E Wm size).1 = (f_mo_solve so ge ga gb gs size).1 ∧ (f_mo_solve so ge ga gb gs size).2.1 = 0 ∧
    RA (f_kr_solve ans fp fsu fsl E Wm size).2.2.2.2.2 (f_kr_solve ans fp fsu fsl E Wm size).2.2.2.1 (f_kr_solve ans fp fsu fsl E Wm size).2.2.2.2.1 (f_mo_solve so ge ga gb gs size).2.2.1 (f_mo_solve so ge ga gb gs size).2.2.2.1 (f_mo_solve so ge ga gb gs size).2.2.2.2.1 := by
  unfold f_kr_solve f_ks_solve f_mo_solve
  by_cases c1 : size < 1
  · simp only [if_pos c1]; exact ⟨trivial, trivial, hA⟩
  · simp only [if_neg c1]
    by_cases c2 : size ≤ 4
    · simp only [if_pos c2]
      obtain ⟨n, hn, h1, e⟩ := size_n1 c1 c2
      subst e
      rw [nI_clamp (by omega)]
      unfold f_ks_solveE mo_solveE
      obtain ⟨a1, a2⟩ := sol_agr h h1 hn Wm fp gs
      by_cases c3 : (soL n n 0 1 (f_ks_copy E Wm n) fp).1 = 0
      · rw [if_pos c3, if_pos (a1 ▸ c3)]
        refine ⟨rfl, rfl, rfl, vp_in_nI (by omega) (by decide), ?_⟩
        obtain ⟨hdt, c, s, hs, hp, hi, hsu, hv⟩ := a2 c3
        show ∀ k, k < (nI n).toNatClampNeg → _
        rw [nI_clamp (by omega)]
        intro k hk
        obtain ⟨r, hr, er⟩ := hsu k hk
        have hall := ld_all (RE_ge h) h1 hn (fmL ge n n 1 gs).2
        have hdb := dt_b (RE_M h) n
        have hdi := L_of (dt (fun i j => (E i j).toInt) n) (by omega) (by omega)
        have hcb := cr_b (RE_M h) n
        have hci := fun k => L_of (cr (fun i j => (E i j).toInt) n k) (by have := hcb k; omega) (by have := hcb k; omega)
        have hd0 : ¬ Int64.ofInt (dt (fun i j => (E i j).toInt) n) = 0 := fun z => hdt ((ofz hdb (by decide)).mp z)
        -- the numbers of the elimination, as longs
        have hx : ∀ r, r < n → ((soL n n 0 1 (f_ks_copy E Wm n) fp).2.1 r 4 = Int64.ofInt (cr (fun i j => (E i j).toInt) n (c r)) ∧ (soL n n 0 1 (f_ks_copy E Wm n) fp).2.1 r (c r) = Int64.ofInt (dt (fun i j => (E i j).toInt) n)) ∨ ((soL n n 0 1 (f_ks_copy E Wm n) fp).2.1 r 4 = -Int64.ofInt (cr (fun i j => (E i j).toInt) n (c r)) ∧ (soL n n 0 1 (f_ks_copy E Wm n) fp).2.1 r (c r) = -Int64.ofInt (dt (fun i j => (E i j).toInt) n)) := fun r hr => by
          obtain ⟨v1, v2⟩ := hv r hr
          rcases hs with rfl | rfl
          · left
            exact ⟨L_inj (by rw [v1, hci]; omega), L_inj (by rw [v2, hdi]; omega)⟩
          · right
            have := hcb (c r)
            exact ⟨L_inj (by rw [v1, L_neg (by rw [hci]; omega), hci]; omega), L_inj (by rw [v2, L_neg (by rw [hdi]; omega), hdi]; omega)⟩
        have hq : ∀ r, r < n → ¬ f_kr_gcd ((soL n n 0 1 (f_ks_copy E Wm n) fp).2.1 r 4) ((soL n n 0 1 (f_ks_copy E Wm n) fp).2.1 r (c r)) = 0 ∧ (soL n n 0 1 (f_ks_copy E Wm n) fp).2.1 r 4 / f_kr_gcd ((soL n n 0 1 (f_ks_copy E Wm n) fp).2.1 r 4) ((soL n n 0 1 (f_ks_copy E Wm n) fp).2.1 r (c r)) = Int64.ofInt (cr (fun i j => (E i j).toInt) n (c r)) / sgX (Int64.ofInt (dt (fun i j => (E i j).toInt) n)) (gcdL 200 (Int64.ofInt (cr (fun i j => (E i j).toInt) n (c r))) (Int64.ofInt (dt (fun i j => (E i j).toInt) n))) ∧ (soL n n 0 1 (f_ks_copy E Wm n) fp).2.1 r (c r) / f_kr_gcd ((soL n n 0 1 (f_ks_copy E Wm n) fp).2.1 r 4) ((soL n n 0 1 (f_ks_copy E Wm n) fp).2.1 r (c r)) = Int64.ofInt (dt (fun i j => (E i j).toInt) n) / sgX (Int64.ofInt (dt (fun i j => (E i j).toInt) n)) (gcdL 200 (Int64.ofInt (cr (fun i j => (E i j).toInt) n (c r))) (Int64.ofInt (dt (fun i j => (E i j).toInt) n))) := fun r hr => by
          have hb1 := hcb (c r)
          have hcc := hci (c r)
          rcases hx r hr with ⟨x1, x2⟩ | ⟨x1, x2⟩
          · rw [x1, x2]
            generalize Int64.ofInt (cr (fun i j => (E i j).toInt) n (c r)) = a at hcc
            generalize Int64.ofInt (dt (fun i j => (E i j).toInt) n) = b at hdi hd0
            rw [sg_eq (by omega) hd0]
            exact ⟨(gcd_le (by omega) hd0).2, rfl, rfl⟩
          · rw [x1, x2]
            generalize Int64.ofInt (cr (fun i j => (E i j).toInt) n (c r)) = a at hcc
            generalize Int64.ofInt (dt (fun i j => (E i j).toInt) n) = b at hdi hd0
            obtain ⟨g1, g2⟩ := gcd_le (a := a) (b := b) (by omega) hd0
            rw [sg_eq (by omega) hd0, gcd_neg (by omega) (by omega) hd0]
            exact ⟨fun z => g2 (neg_0.mp z), div_nn (by omega) g1, div_nn (by omega) g1⟩
        obtain ⟨k1, k2⟩ := kaL_spec (u := fsu) (v := fsl) hn hp hi (fun r hr => (hq r hr).1) n 0 (by omega) r (by omega) hr
        obtain ⟨n1, n2⟩ := anL_spec (all := Int64.ofInt (dt (fun i j => (E i j).toInt) n)) (fun f k hk => ld_k (RE_ge h) hn hk f) n 0 (f_mo_load ge (fmL ge n n 1 gs).2 n (-1)) ga gb k (by omega)
        rw [if_pos (by omega)] at n1 n2
        subst er
        refine ⟨?_, ?_⟩
        · show (anL ge n (f_mo_det (f_mo_load ge (fmL ge n n 1 gs).2 n (-1)) n) n 0 (f_mo_load ge (fmL ge n n 1 gs).2 n (-1)) ga gb).2.1 (c r) = (kaL _ _ n 0 fsu fsl).1 (c r)
          rw [hall, n1, k1, (hq r hr).2.1]
        · show (anL ge n (f_mo_det (f_mo_load ge (fmL ge n n 1 gs).2 n (-1)) n) n 0 (f_mo_load ge (fmL ge n n 1 gs).2 n (-1)) ga gb).2.2 (c r) = (kaL _ _ n 0 fsu fsl).2 (c r)
          rw [hall, n2, k2, (hq r hr).2.2]
      · rw [if_neg c3, if_neg (a1 ▸ c3)]
        exact ⟨a1, rfl, hA⟩
    · simp only [if_neg c2]; exact ⟨trivial, trivial, hA⟩
end SO
def R_law : String := "KilogramRowsLaw"

