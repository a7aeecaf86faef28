/-! ===== wholes shared out ===== -/
/-- how many of n, from j on -/
def cF (p : Nat → Prop) [DecidablePred p] : Nat → Nat → Nat
  | 0, _ => 0
  | n + 1, j => (if p j then 1 else 0) + cF p n (j + 1)
/-- a sum of n, from j on -/
def SF (f : Nat → Int) : Nat → Nat → Int
  | 0, _ => 0
  | n + 1, j => f j + SF f n (j + 1)
theorem cF_le (p : Nat → Prop) [DecidablePred p] : ∀ (n j : Nat), cF p n j ≤ n
  | 0, _ => Nat.le_refl _
  | n + 1, j => by
    have := cF_le p n (j + 1)
    unfold cF
    split <;> omega
theorem cF_all {p : Nat → Prop} [DecidablePred p] : ∀ (n j : Nat), (∀ i, j ≤ i → i < j + n → p i) → cF p n j = n
  | 0, _, _ => rfl
  | n + 1, j, h => by
    have := cF_all n (j + 1) (fun i h1 h2 => h i (by omega) (by omega))
    unfold cF
    rw [if_pos (h j (by omega) (by omega)), this]
    omega
theorem cF_none {p : Nat → Prop} [DecidablePred p] : ∀ (n j : Nat), (∀ i, j ≤ i → i < j + n → ¬ p i) → cF p n j = 0
  | 0, _, _ => rfl
  | n + 1, j, h => by
    have := cF_none n (j + 1) (fun i h1 h2 => h i (by omega) (by omega))
    unfold cF
    rw [if_neg (h j (by omega) (by omega)), this]
theorem cF_mono {p q : Nat → Prop} [DecidablePred p] [DecidablePred q] : ∀ (n j : Nat), (∀ i, j ≤ i → i < j + n → p i → q i) → cF p n j ≤ cF q n j
  | 0, _, _ => Nat.le_refl _
  | n + 1, j, h => by
    have := cF_mono n (j + 1) (fun i h1 h2 => h i (by omega) (by omega))
    unfold cF
    by_cases hp : p j
    · rw [if_pos hp, if_pos (h j (by omega) (by omega) hp)]; omega
    · rw [if_neg hp]; omega
theorem cF_lt {p q : Nat → Prop} [DecidablePred p] [DecidablePred q] {k : Nat} (hq : q k) (hp : ¬ p k) : ∀ (n j : Nat), (∀ i, j ≤ i → i < j + n → p i → q i) → j ≤ k → k < j + n → cF p n j + 1 ≤ cF q n j
  | 0, _, _, h1, h2 => by omega
  | n + 1, j, h, h1, h2 => by
    unfold cF
    by_cases e : j = k
    · subst e
      have := cF_mono (p := p) (q := q) n (j + 1) (fun i h1 h2 => h i (by omega) (by omega))
      rw [if_neg hp, if_pos hq]
      omega
    · have := cF_lt hq hp n (j + 1) (fun i h1 h2 => h i (by omega) (by omega)) (by omega) (by omega)
      by_cases hp2 : p j
      · rw [if_pos hp2, if_pos (h j (by omega) (by omega) hp2)]; omega
      · rw [if_neg hp2]; omega
/-- one more is taken in -/
theorem cF_ins {p q : Nat → Prop} [DecidablePred p] [DecidablePred q] {k : Nat} (hpq : ∀ i, q i ↔ p i ∨ i = k) (hp : ¬ p k) : ∀ (n j : Nat), cF q n j = cF p n j + (if j ≤ k ∧ k < j + n then 1 else 0)
  | 0, j => by rw [if_neg (by omega)]; rfl
  | n + 1, j => by
    unfold cF
    rw [cF_ins hpq hp n (j + 1)]
    by_cases e : j = k
    · subst e
      rw [if_neg hp, if_pos ((hpq j).mpr (Or.inr rfl)), if_neg (by omega), if_pos (by omega)]
      omega
    · have : q j ↔ p j := ⟨fun z => ((hpq j).mp z).resolve_right e, fun z => (hpq j).mpr (Or.inl z)⟩
      by_cases hp2 : p j
      · rw [if_pos hp2, if_pos (this.mpr hp2)]
        by_cases z : j + 1 ≤ k ∧ k < j + 1 + n
        · rw [if_pos z, if_pos (by omega)]; omega
        · rw [if_neg z, if_neg (by omega)]; omega
      · rw [if_neg hp2, if_neg (fun z => hp2 (this.mp z))]
        by_cases z : j + 1 ≤ k ∧ k < j + 1 + n
        · rw [if_pos z, if_pos (by omega)]; omega
        · rw [if_neg z, if_neg (by omega)]; omega
theorem SF_nn {f : Nat → Int} : ∀ (n j : Nat), (∀ i, j ≤ i → i < j + n → 0 ≤ f i) → 0 ≤ SF f n j
  | 0, _, _ => Int.le_refl _
  | n + 1, j, h => by
    have h1 := SF_nn n (j + 1) (fun i h1 h2 => h i (by omega) (by omega))
    have h2 := h j (by omega) (by omega)
    unfold SF
    omega
theorem SF_le {f : Nat → Int} {B : Int} : ∀ (n j : Nat), (∀ i, j ≤ i → i < j + n → f i ≤ B) → SF f n j ≤ n * B
  | 0, _, _ => by simp [SF]
  | n + 1, j, h => by
    have h1 := SF_le n (j + 1) (fun i h1 h2 => h i (by omega) (by omega))
    have h2 := h j (by omega) (by omega)
    unfold SF
    rw [Int.natCast_add, Int.add_mul]
    omega
theorem SF_div {W A : Int} {w : Nat → Int} : ∀ (n j : Nat), W * SF w n j = A * SF (fun i => W * w i / A) n j + SF (fun i => W * w i % A) n j
  | 0, _ => by simp [SF]
  | n + 1, j => by
    have h1 := SF_div (W := W) (A := A) (w := w) n (j + 1)
    have h2 := Int.mul_ediv_add_emod (W * w j) A
    unfold SF
    rw [Int.mul_add, Int.mul_add, h1]
    omega
section SH
variable {gw : Nat → Int64} {w : Nat → Int} {N : Nat}
theorem al_int (hw : ∀ i, i < N → (gw i).toInt = w i ∧ 0 ≤ w i ∧ w i ≤ 1000000) (hN : N ≤ 12) (d : Nat) : ∀ (i : Nat) (a : Int64), i + d = N → 0 ≤ a.toInt → a.toInt ≤ i * 1000000 → (alL gw d i a).toInt = a.toInt + SF w d i := by
  induction d with
  | zero => intro i a _ _ _; simp [alL, SF]
  | succ d ih =>
    intro i a h1 h2 h3
    obtain ⟨e, l1, l2⟩ := hw i (by omega)
    have ha : (a + gw i).toInt = a.toInt + w i := by rw [L_add (by rw [e]; omega) (by rw [e]; omega), e]
    have := ih (i + 1) (a + gw i) (by omega) (by omega) (by rw [ha]; omega)
    rw [alL, this, ha, SF]
    omega
variable {whole all : Int64} {W A : Int}
/-- the whole shares and their rests, as numbers -/
theorem qr_int {x : Int64} {v : Int} (hx : x.toInt = v) (hv : 0 ≤ v ∧ v ≤ 1000000) (hW : whole.toInt = W) (hW2 : 0 ≤ W ∧ W ≤ 1000000000000) (hA : all.toInt = A) (hA2 : 1 ≤ A) : (whole * x / all).toInt = W * v / A ∧ (whole * x - whole * x / all * all).toInt = W * v % A ∧ 0 ≤ W * v / A ∧ 0 ≤ W * v % A ∧ W * v % A < A := by
  have h0 : 0 ≤ W * v := Int.mul_nonneg hW2.1 hv.1
  have h1 : W * v ≤ 1000000000000 * 1000000 := Int.mul_le_mul hW2.2 hv.2 hv.1 (by decide)
  have e : (whole * x).toInt = W * v := by rw [L_mul (by rw [hW, hx]; omega) (by rw [hW, hx]; omega), hW, hx]
  refine ⟨?_, ?_, Int.ediv_nonneg h0 (by omega), Int.emod_nonneg _ (by omega), Int.emod_lt_of_pos _ (by omega)⟩
  · rw [L_div (by rw [e]; omega), e, hA, Int.tdiv_eq_ediv_of_nonneg h0]
  · rw [L_rem (L_ne0.mpr (by omega)), e, hA, Int.tmod_eq_emod_of_nonneg h0]
/-- what is left behind n shares from j on -/
def lfS (gw : Nat → Int64) (whole all : Int64) : Nat → Nat → Int64 → Int64
  | 0, _, x => x
  | n + 1, j, x => lfS gw whole all n (j + 1) (x - whole * gw j / all)
theorem lfL_1 : ∀ (d i : Nat) (x : Int64) (f : Nat → Int32), (lfL gw whole all d i x f).1 = lfS gw whole all d i x
  | 0, _, _, _ => rfl
  | d + 1, i, x, f => by rw [lfL, lfS]; exact lfL_1 d (i + 1) _ _
theorem lfL_2 : ∀ (d i : Nat) (x : Int64) (f : Nat → Int32) (t : Nat), (lfL gw whole all d i x f).2 t = if i ≤ t ∧ t < i + d then 0 else f t
  | 0, i, _, f, t => by rw [lfL, if_neg (by omega)]
  | d + 1, i, x, f, t => by
    rw [lfL, lfL_2 d (i + 1)]
    by_cases h : i + 1 ≤ t ∧ t < i + 1 + d
    · rw [if_pos h, if_pos (by omega)]
    · rw [if_neg h]
      by_cases e : t = i
      · subst e
        rw [if_pos (by omega), upd, if_pos rfl]
        decide
      · rw [if_neg (by omega), upd, if_neg e]
theorem lfS_int (hw : ∀ i, i < N → (gw i).toInt = w i ∧ 0 ≤ w i ∧ w i ≤ 1000000) (hW : whole.toInt = W) (hW2 : 0 ≤ W ∧ W ≤ 1000000000000) (hA : all.toInt = A) (hA2 : 1 ≤ A) :
    ∀ (n j : Nat) (x : Int64), j + n = N → x.toInt ≤ 1000000000000 → 0 ≤ x.toInt - SF (fun i => W * w i / A) n j → (lfS gw whole all n j x).toInt = x.toInt - SF (fun i => W * w i / A) n j
  | 0, _, _, _, _, _ => by simp [lfS, SF]
  | n + 1, j, x, h1, h2, h3 => by
    obtain ⟨e, l⟩ := hw j (by omega)
    obtain ⟨a1, -, a3, -⟩ := qr_int e l hW hW2 hA hA2
    have h4 : 0 ≤ SF (fun i => W * w i / A) n (j + 1) := SF_nn n (j + 1) (fun i _ hi => by
      obtain ⟨e, l⟩ := hw i (by omega)
      exact (qr_int e l hW hW2 hA hA2).2.2.1)
    rw [SF] at h3 ⊢
    have ex : (x - whole * gw j / all).toInt = x.toInt - W * w j / A := by rw [L_sub (by rw [a1]; omega) (by rw [a1]; omega), a1]
    rw [lfS, lfS_int hw hW hW2 hA hA2 n (j + 1) _ (by omega) (by omega) (by omega), ex]
    omega
/-- the rests -/
def rS (gw : Nat → Int64) (whole all : Int64) (i : Nat) : Int := (whole * gw i - whole * gw i / all * all).toInt
/-- j comes before i -/
abbrev bef (R : Nat → Int) (j i : Nat) : Prop := R i < R j ∨ (R j = R i ∧ j < i)
theorem shL_spec {fz : Nat → Int32} {k : Nat} (hk : k < 12) (hf : ∀ i, i < N → gw i = (fz i).toInt64) (hN : N ≤ 12) (hkN : k < N) :
    ∀ (n j : Nat) (x : Int64) (a : Nat), j + n = N → a ≤ j → shL fz all whole (nI k) (whole * gw k - whole * gw k / all * all) n j x (nI a) = (lfS gw whole all n j x, nI (a + cF (fun i => bef (rS gw whole all) i k) n j))
  | 0, _, _, _, _, _ => rfl
  | n + 1, j, x, a, h1, h2 => by
    have ih := fun x a h => shL_spec hk hf hN hkN n (j + 1) x a (by omega) h
    rw [shL, lfS, cF, ← hf j (by omega)]
    have e1 : (whole * gw k - whole * gw k / all * all < whole * gw j - whole * gw j / all * all) ↔ rS gw whole all k < rS gw whole all j := L_lt
    have e2 : (whole * gw j - whole * gw j / all * all = whole * gw k - whole * gw k / all * all) ↔ rS gw whole all j = rS gw whole all k := ⟨fun z => congrArg Int64.toInt z, fun z => L_inj z⟩
    by_cases c1 : rS gw whole all k < rS gw whole all j
    · rw [if_pos (e1.mpr c1), if_pos (show bef (rS gw whole all) j k from Or.inl c1), nI_1, ih _ _ (by omega), Nat.add_assoc]
    · rw [if_neg (fun z => c1 (e1.mp z))]
      by_cases c2 : rS gw whole all j = rS gw whole all k
      · rw [if_pos (e2.mpr c2)]
        by_cases c3 : k ≤ j
        · rw [if_pos (nI_le c3 (by omega)), if_neg (show ¬ bef (rS gw whole all) j k from fun z => z.elim c1 (fun y => absurd y.2 (by omega))), ih _ _ (by omega), Nat.zero_add]
        · rw [if_neg (nI_ge (by omega) (by omega)), if_pos (show bef (rS gw whole all) j k from Or.inr ⟨c2, by omega⟩), nI_1, ih _ _ (by omega), Nat.add_assoc]
      · rw [if_neg (fun z => c2 (e2.mp z)), if_neg (show ¬ bef (rS gw whole all) j k from fun z => z.elim c1 (fun y => c2 y.1)), ih _ _ (by omega), Nat.zero_add]
/-- the best of those before i that aren't given -/
def bst (R : Nat → Int) (f : Nat → Int32) (i : Nat) (b : Int32) : Prop := (b = -1 ∧ ∀ t, t < i → ¬ f t = 0) ∨ ∃ c, b = nI c ∧ c < i ∧ f c = 0 ∧ ∀ t, t < i → f t = 0 → ¬ t = c → bef R c t
theorem beL_spec {f : Nat → Int32} (hN : N ≤ 12) : ∀ (n i : Nat) (b : Int32), i + n = N → bst (rS gw whole all) f i b → bst (rS gw whole all) f N (beL gw f whole all n i b)
  | 0, i, b, h1, h2 => by rw [beL]; rw [← h1]; exact h2
  | n + 1, i, b, h1, h2 => by
    have ih := fun b h => beL_spec (f := f) hN n (i + 1) b (by omega) h
    rw [beL]
    by_cases c1 : f i = 0
    · rw [if_pos c1]
      rcases h2 with ⟨rfl, hg⟩ | ⟨c, rfl, hc, hc0, hg⟩
      · rw [if_pos (by decide)]
        refine ih _ (Or.inr ⟨i, rfl, by omega, c1, fun t ht h0 hne => absurd h0 (hg t (by omega))⟩)
      · rw [if_neg (nI_pos (by omega)), nI_clamp (by omega)]
        have e1 : (whole * gw i - whole * gw i / all * all ≤ whole * gw c - whole * gw c / all * all) ↔ rS gw whole all i ≤ rS gw whole all c := L_le
        by_cases c2 : rS gw whole all i ≤ rS gw whole all c
        · rw [if_pos (e1.mpr c2)]
          refine ih _ (Or.inr ⟨c, rfl, by omega, hc0, fun t ht h0 hne => ?_⟩)
          by_cases e : t = i
          · subst e
            unfold bef
            omega
          · exact hg t (by omega) h0 hne
        · rw [if_neg (fun z => c2 (e1.mp z))]
          refine ih _ (Or.inr ⟨i, rfl, by omega, c1, fun t ht h0 hne => ?_⟩)
          by_cases e : t = c
          · subst e
            unfold bef
            omega
          · have := hg t (by omega) h0 e
            unfold bef at this ⊢
            omega
    · rw [if_neg c1]
      refine ih _ ?_
      rcases h2 with ⟨rfl, hg⟩ | ⟨c, rfl, hc, hc0, hg⟩
      · refine Or.inl ⟨rfl, fun t ht => ?_⟩
        by_cases e : t = i
        · subst e; exact c1
        · exact hg t (by omega)
      · refine Or.inr ⟨c, rfl, by omega, hc0, fun t ht h0 hne => ?_⟩
        by_cases e : t = i
        · subst e; exact absurd h0 c1
        · exact hg t (by omega) h0 hne
/-- d ones are given, and to the best -/
def giv (R : Nat → Int) (N d : Nat) (f : Nat → Int32) : Prop := (∀ i j, i < N → j < N → ¬ f i = 0 → bef R j i → ¬ f j = 0) ∧ cF (fun i => ¬ f i = 0) N 0 = d
theorem giL_spec (hN : N ≤ 12) : ∀ (m d : Nat) (f : Nat → Int32), d + m ≤ N → giv (rS gw whole all) N d f → giOk gw whole all N m f ∧ giv (rS gw whole all) N (d + m) (giL gw whole all N m f)
  | 0, d, f, _, h => ⟨trivial, h⟩
  | m + 1, d, f, h1, h => by
    have hb := beL_spec (gw := gw) (whole := whole) (all := all) (f := f) hN N 0 (-1) (by omega) (Or.inl ⟨rfl, fun t ht => absurd ht (by omega)⟩)
    rcases hb with ⟨-, hg⟩ | ⟨c, ec, hc, hc0, hg⟩
    · have := cF_all (p := fun i => ¬ f i = 0) N 0 (fun i _ hi => hg i (by omega))
      have := h.2
      omega
    · rw [giOk, giL, ec, nI_clamp (by omega)]
      have hn : giv (rS gw whole all) N (d + 1) (upd f c (vp_nar .boolean 1)) := by
        have e1 : vp_nar .boolean 1 = 1 := by decide
        rw [e1]
        have hq : ∀ i, (¬ upd f c 1 i = 0) ↔ (¬ f i = 0 ∨ i = c) := fun i => by
          unfold upd
          by_cases e : i = c
          · rw [if_pos e]; simp [e]
          · rw [if_neg e]; simp [e]
        refine ⟨fun i j hi hj h2 h3 => (hq j).mpr ?_, ?_⟩
        · rcases (hq i).mp h2 with q | q
          · exact Or.inl (h.1 i j hi hj q h3)
          · subst q
            by_cases e : j = i
            · exact Or.inr e
            · by_cases e2 : f j = 0
              · have := hg j hj e2 e
                unfold bef at this h3
                omega
              · exact Or.inl e2
        · rw [cF_ins (p := fun i => ¬ f i = 0) (k := c) hq (fun z => z hc0) N 0, h.2, if_pos (by omega)]
      obtain ⟨k1, k2⟩ := giL_spec hN m (d + 1) _ (by omega) hn
      refine ⟨⟨vp_in_nI (by omega) (by decide), k1⟩, ?_⟩
      rw [show d + (m + 1) = d + 1 + m by omega]
      exact k2
theorem giv_end {R : Nat → Int} {d : Nat} {f : Nat → Int32} (h : giv R N d f) {k : Nat} (hk : k < N) : f k = 0 ↔ d ≤ cF (fun i => bef R i k) N 0 := by
  obtain ⟨h1, h2⟩ := h
  constructor
  · intro h0
    rw [← h2]
    refine cF_mono N 0 (fun i _ hi hg => ?_)
    by_cases e : i = k
    · subst e; exact absurd h0 hg
    · by_cases b : bef R i k
      · exact b
      · have : bef R k i := by unfold bef at b ⊢; omega
        exact absurd h0 (h1 i k (by omega) hk hg this)
  · intro h3
    refine Decidable.not_not.mp (fun hg => ?_)
    have := cF_lt (p := fun i => bef R i k) (q := fun i => ¬ f i = 0) (k := k) hg (by unfold bef; omega) N 0 (fun i _ hi hb => h1 k i hk (by omega) hg hb) (by omega) (by omega)
    omega
end SH
theorem left_bound {W A : Int} {w : Nat → Int} {N : Nat} (hA : A = SF w N 0) (hA1 : 1 ≤ A) (hN : 1 ≤ N) : 0 ≤ W - SF (fun i => W * w i / A) N 0 ∧ W - SF (fun i => W * w i / A) N 0 < N := by
  have h1 := SF_div (W := W) (A := A) (w := w) N 0
  rw [← hA] at h1
  have h2 : 0 ≤ SF (fun i => W * w i % A) N 0 := SF_nn N 0 (fun i _ _ => Int.emod_nonneg _ (by omega))
  have h3 : SF (fun i => W * w i % A) N 0 ≤ N * (A - 1) := SF_le N 0 (fun i _ _ => by have := Int.emod_lt_of_pos (W * w i) (show 0 < A by omega); omega)
  generalize SF (fun i => W * w i / A) N 0 = Q at *
  generalize SF (fun i => W * w i % A) N 0 = r at *
  have h4 : A * (W - Q) = r := by rw [Int.mul_sub, Int.mul_comm A W]; omega
  have h5 : (N : Int) * (A - 1) = N * A - N := by rw [Int.mul_sub, Int.mul_one]
  constructor
  · refine Int.not_lt.mp (fun q => ?_)
    have : A * (W - Q) < 0 := Int.mul_neg_of_pos_of_neg (by omega) q
    omega
  · refine Int.not_le.mp (fun q => ?_)
    have := Int.mul_le_mul_of_nonneg_left q (show 0 ≤ A by omega)
    rw [h4, Int.mul_comm A] at this
    omega
section SC
variable {wc mw : Int32} {all : Int64} {fz : Nat → Int32} {gw : Nat → Int64} {gg : Nat → Int32}
/-- the facts of a share that is given -/
theorem share_facts (h : RW wc all fz mw gw) {whole : Int64} {k N : Nat} (hN : N ≤ 12) (eN : wc = nI N) (hk : k < N) (h1 : ¬ whole < 0) (h2 : ¬ 1000000000000 < whole) (h0 : ¬ all = 0) :
    1 ≤ all.toInt ∧ ∃ d, d < N ∧ lfS gw whole all N 0 whole = lN d ∧ giOk gw whole all N d (lfL gw whole all N 0 whole gg).2 ∧ giv (rS gw whole all) N d (giL gw whole all N d (lfL gw whole all N 0 whole gg).2) := by
  obtain ⟨-, -, h3, h4⟩ := h
  rw [eN, nI_clamp (by omega)] at h3 h4
  have hw : ∀ i, i < N → (gw i).toInt = (fz i).toInt ∧ 0 ≤ (fz i).toInt ∧ (fz i).toInt ≤ 1000000 := fun i hi => by
    obtain ⟨e, l⟩ := h3 i hi
    exact ⟨by rw [e, L_i], l⟩
  have hA : all.toInt = SF (fun i => (fz i).toInt) N 0 := by
    rw [h4, al_int (w := fun i => (fz i).toInt) hw hN N 0 0 (by omega) (by decide) (by decide)]
    have : (0 : Int64).toInt = 0 := by decide
    omega
  have hA0 : 0 ≤ all.toInt := by rw [hA]; exact SF_nn N 0 (fun i _ hi => (hw i (by omega)).2.1)
  have hA1 : 1 ≤ all.toInt := by have := L_ne0.mp h0; omega
  rw [L_lt, show (0 : Int64).toInt = 0 by decide] at h1
  rw [L_lt, show (1000000000000 : Int64).toInt = 1000000000000 by decide] at h2
  refine ⟨hA1, ?_⟩
  obtain ⟨b1, b2⟩ := left_bound (W := whole.toInt) hA hA1 (by omega)
  have e := lfS_int hw (whole := whole) (all := all) rfl (by omega) rfl hA1 N 0 whole (by omega) (by omega) b1
  generalize hd : (whole.toInt - SF (fun i => whole.toInt * (fz i).toInt / all.toInt) N 0).toNat = d
  have hd2 : (lfS gw whole all N 0 whole).toInt = d := by omega
  have hz : giv (rS gw whole all) N 0 (lfL gw whole all N 0 whole gg).2 := by
    have hz0 : ∀ i, i < N → (lfL gw whole all N 0 whole gg).2 i = 0 := fun i hi => by rw [lfL_2, if_pos (by omega)]
    exact ⟨fun i j hi hj q _ => absurd (hz0 i hi) q, cF_none N 0 (fun i _ hi q => q (hz0 i (by omega)))⟩
  obtain ⟨g1, g2⟩ := giL_spec (gw := gw) (whole := whole) (all := all) hN d 0 _ (by omega) hz
  refine ⟨d, by omega, L_inj (by rw [hd2, lN_toInt (by omega)]), g1, ?_⟩
  rw [Nat.zero_add] at g2
  exact g2
theorem share_hok (h : RW wc all fz mw gw) {whole : Int64} {k : Int32} : ∀ N, N ≤ 12 → mw = nI N → ¬ whole < 0 → ¬ 1000000000000 < whole → ¬ k < 0 → ¬ mw ≤ k → ¬ alL gw N 0 0 = 0 → ∃ d, d < 2 ^ 31 ∧ (lfL gw whole (alL gw N 0 0) N 0 whole gg).1 = lN d ∧ giOk gw whole (alL gw N 0 0) N d (lfL gw whole (alL gw N 0 0) N 0 whole gg).2 := by
  intro N hN eN h1 h2 hk0 hk h0
  have e := h.1
  have e2 : wc = nI N := e ▸ eN
  have e3 : all = alL gw N 0 0 := by have := h.2.2.2; rw [e2, nI_clamp (by omega)] at this; exact this
  rw [← e3] at h0 ⊢
  obtain ⟨j, hj, ej⟩ := nI_of hk0
  subst ej
  rw [eN, nI_leI (by omega) hj] at hk
  obtain ⟨-, d, d1, d2, d3, -⟩ := share_facts (gg := gg) h (k := j) hN e2 (by omega) h1 h2 h0
  exact ⟨d, by omega, by rw [lfL_1]; exact d2, d3⟩
theorem share_core (h : RW wc all fz mw gw) {whole : Int64} {k : Int32} : (f_mo_share mw gw gg whole k).1 = f_kr_share wc all fz whole k ∧ (f_mo_share mw gw gg whole k).2.1 = 0 := by
  have h' := h
  obtain ⟨e, hwc, h3, h4⟩ := h
  obtain ⟨N, hN, eN⟩ := vp_in_of hwc (by decide)
  unfold f_mo_share f_kr_share f_kw_shareOf
  rw [e, ← h4]
  by_cases c1 : k < 0
  · rw [if_pos c1, if_pos c1, ite_self, ite_self]; exact ⟨rfl, rfl⟩
  · rw [if_neg c1, if_neg c1]
    by_cases c2 : wc ≤ k
    · rw [if_pos c2, if_pos c2, ite_self, ite_self]; exact ⟨rfl, rfl⟩
    · rw [if_neg c2, if_neg c2]
      by_cases c3 : whole < 0
      · rw [if_pos c3, if_pos c3]; exact ⟨rfl, rfl⟩
      · rw [if_neg c3, if_neg c3]
        by_cases c4 : 1000000000000 < whole
        · rw [if_pos c4, if_pos c4]; exact ⟨rfl, rfl⟩
        · rw [if_neg c4, if_neg c4]
          by_cases c5 : all = 0
          · rw [if_pos c5, if_neg (show ¬ 1 ≤ all by rw [c5]; decide)]; exact ⟨rfl, rfl⟩
          · obtain ⟨j, hj, ej⟩ := nI_of c1
            subst ej
            rw [eN, nI_leI (by omega) hj] at c2
            obtain ⟨a1, d, d1, d2, d3, d4⟩ := share_facts (gg := gg) h' (k := j) (by omega) eN (by omega) c3 c4 c5
            have hf : ∀ i, i < N → gw i = (fz i).toInt64 := fun i hi => (h3 i (by rw [eN, nI_clamp (by omega)]; exact hi)).1
            rw [if_neg c5, if_pos (show 1 ≤ all by rw [L_le, show (1 : Int64).toInt = 1 by decide]; exact a1), eN, nI_clamp hj, nI_clamp (by omega), ← hf j (by omega)]
            have hs := shL_spec (whole := whole) (all := all) (k := j) (by omega) hf (by omega) (by omega) N 0 whole 0 (by omega) (by omega)
            rw [show (0 : Int32) = nI 0 from rfl, hs, d2]
            unfold mo_shareE kw_shareE
            rw [lfL_1, d2, lN_nat9 (by omega), nI_clamp hj]
            have hg := giv_end d4 (k := j) (by omega)
            have hcl := cF_le (fun i => bef (rS gw whole all) i j) N 0
            have hcmp : (lN d ≤ (nI (0 + cF (fun i => bef (rS gw whole all) i j) N 0)).toInt64) ↔ d ≤ cF (fun i => bef (rS gw whole all) i j) N 0 := by
              rw [nI_l (by omega), lN_le (by omega) (by omega)]; omega
            by_cases c6 : d ≤ cF (fun i => bef (rS gw whole all) i j) N 0
            · rw [if_pos (hg.mpr c6), if_pos (hcmp.mpr c6)]
              exact ⟨Int64.add_zero _, rfl⟩
            · rw [if_neg (fun z => c6 (hg.mp z)), if_neg (fun z => c6 (hcmp.mp z))]
              exact ⟨rfl, rfl⟩
end SC

