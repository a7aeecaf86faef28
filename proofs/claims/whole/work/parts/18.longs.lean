/-! numbers: longs by their whole numbers -/
theorem L_lo (x : Int64) : -9223372036854775808 ≤ x.toInt := by
  have h := Int64.le_toInt x
  have e : (-2 ^ 63 : Int) = -9223372036854775808 := by decide
  omega
theorem L_hi (x : Int64) : x.toInt ≤ 9223372036854775807 := by
  have h := Int64.toInt_lt x
  have e : (2 ^ 63 : Int) = 9223372036854775808 := by decide
  omega
theorem L_inj {x y : Int64} (h : x.toInt = y.toInt) : x = y := Int64.toInt_inj.mp h
theorem L_bm {z : Int} (h1 : -9223372036854775808 ≤ z) (h2 : z ≤ 9223372036854775807) : z.bmod (2 ^ 64) = z := by
  rw [Int.bmod_eq_of_le]
  · have e : ((2 ^ 64 : Nat) : Int) = 18446744073709551616 := by decide
    omega
  · have e : ((2 ^ 64 : Nat) : Int) = 18446744073709551616 := by decide
    omega
theorem L_add {x y : Int64} (h1 : -9223372036854775808 ≤ x.toInt + y.toInt) (h2 : x.toInt + y.toInt ≤ 9223372036854775807) : (x + y).toInt = x.toInt + y.toInt := by
  rw [Int64.toInt_add]
  exact L_bm h1 h2
theorem L_sub {x y : Int64} (h1 : -9223372036854775808 ≤ x.toInt - y.toInt) (h2 : x.toInt - y.toInt ≤ 9223372036854775807) : (x - y).toInt = x.toInt - y.toInt := by
  rw [Int64.toInt_sub]
  exact L_bm h1 h2
theorem L_mul {x y : Int64} (h1 : -9223372036854775808 ≤ x.toInt * y.toInt) (h2 : x.toInt * y.toInt ≤ 9223372036854775807) : (x * y).toInt = x.toInt * y.toInt := by
  rw [Int64.toInt_mul]
  exact L_bm h1 h2
theorem L_neg {x : Int64} (h : x.toInt ≠ -9223372036854775808) : (-x).toInt = -x.toInt := by
  rw [Int64.toInt_neg]
  have h1 := L_lo x
  have h2 := L_hi x
  exact L_bm (by omega) (by omega)
theorem L_div {x y : Int64} (h : x.toInt ≠ -9223372036854775808 ∨ y.toInt ≠ -1) : (x / y).toInt = x.toInt.tdiv y.toInt := by
  rw [Int64.toInt_div]
  have h1 := L_lo x
  have h2 := L_hi x
  have h3 : (x.toInt.tdiv y.toInt).natAbs ≤ x.toInt.natAbs := by
    rw [Int.natAbs_tdiv]
    exact Nat.div_le_self _ _
  refine L_bm (by omega) ?_
  rcases h with h | h
  · omega
  · by_cases h4 : x.toInt.natAbs < 9223372036854775808
    · omega
    · have h5 : x.toInt = -9223372036854775808 := by omega
      rw [h5]
      have h6 : ((-9223372036854775808 : Int).tdiv y.toInt).natAbs = 9223372036854775808 / y.toInt.natAbs := by
        rw [Int.natAbs_tdiv]
        rfl
      by_cases h7 : y.toInt.natAbs ≤ 1
      · have h8 : y.toInt = 0 ∨ y.toInt = 1 := by omega
        rcases h8 with h8 | h8
        · rw [h8]; decide
        · rw [h8]; decide
      · have h8 : 9223372036854775808 / y.toInt.natAbs ≤ 9223372036854775808 / 2 := Nat.div_le_div_left (by omega) (by decide)
        omega
/-- what is left of a division -/
theorem L_rem {x y : Int64} (h : ¬ y = 0) : (x - x / y * y).toInt = x.toInt.tmod y.toInt := by
  have hy : y.toInt ≠ 0 := fun q => h (L_inj (q.trans (by decide : (0 : Int) = (0 : Int64).toInt)))
  have hb : ((x.toInt.tmod y.toInt).natAbs) < y.toInt.natAbs := by
    rw [Int.natAbs_tmod]
    exact Nat.mod_lt _ (by omega)
  have hy1 := L_lo y
  have hy2 := L_hi y
  rw [Int64.toInt_sub, Int64.toInt_mul, Int64.toInt_div]
  have e : (x.toInt - ((x.toInt.tdiv y.toInt).bmod (2 ^ 64) * y.toInt).bmod (2 ^ 64)).bmod (2 ^ 64) = (x.toInt.tmod y.toInt).bmod (2 ^ 64) := by
    rw [Int.tmod_def]
    simp [Int.mul_comm]
  rw [e]
  exact L_bm (by omega) (by omega)
theorem euc_mono : ∀ {k : Nat} {x y : Int64}, euc k x y → euc (k + 1) x y
  | 0, _, _, h => Or.inl h
  | _ + 1, _, _, h => h.elim Or.inl (fun q => Or.inr (euc_mono q))
theorem euc_add {k : Nat} {x y : Int64} (h : euc k x y) : ∀ d : Nat, euc (k + d) x y
  | 0 => h
  | d + 1 => euc_mono (euc_add h d)
theorem half_mod {a b : Nat} (h0 : 0 < b) (h : b < a) : 2 * (a % b) < a := by
  have h1 := Nat.mod_lt a h0
  by_cases h2 : 2 * b ≤ a
  · omega
  · have h3 : a % b = a - b := by
      rw [Nat.mod_eq_sub_mod (by omega), Nat.mod_eq_of_lt (by omega)]
    omega
theorem euc_half : ∀ (k : Nat) (x y : Int64), y.toInt.natAbs < 2 ^ k → euc (2 * k) x y := by
  intro k
  induction k with
  | zero =>
    intro x y h
    have h1 : y.toInt = 0 := by
      have : (2 : Nat) ^ 0 = 1 := rfl
      omega
    exact L_inj (h1.trans (by decide : (0 : Int) = (0 : Int64).toInt))
  | succ k ih =>
    intro x y h
    show euc (2 * k + 1 + 1) x y
    by_cases h1 : y = 0
    · exact Or.inl h1
    · refine Or.inr ?_
      by_cases h2 : x - x / y * y = 0
      · exact Or.inl h2
      · refine Or.inr (ih _ _ ?_)
        rw [L_rem h2, Int.natAbs_tmod]
        have e1 := L_rem (x := x) h1
        have hy : y.toInt ≠ 0 := fun q => h1 (L_inj (q.trans (by decide : (0 : Int) = (0 : Int64).toInt)))
        have hr : (x - x / y * y).toInt ≠ 0 := fun q => h2 (L_inj (q.trans (by decide : (0 : Int) = (0 : Int64).toInt)))
        have h3 : (x - x / y * y).toInt.natAbs < y.toInt.natAbs := by
          rw [e1, Int.natAbs_tmod]
          exact Nat.mod_lt _ (by omega)
        have h4 := half_mod (a := y.toInt.natAbs) (b := (x - x / y * y).toInt.natAbs) (by omega) h3
        have e2 : (2 : Nat) ^ (k + 1) = 2 * 2 ^ k := by rw [Nat.pow_succ, Nat.mul_comm]
        omega
/-- two hundred of Euclid's steps are always enough -/
theorem euc_all (x y : Int64) : euc 200 x y := by
  have h1 := L_lo y
  have h2 := L_hi y
  have e : (2 : Nat) ^ 64 = 18446744073709551616 := by decide
  have h : y.toInt.natAbs < 2 ^ 64 := by rw [e]; omega
  exact euc_add (euc_half 64 x y h) 72

