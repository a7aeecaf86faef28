/-! ===== rounding ===== -/
theorem L_and1 (x : Int64) : (x &&& 1) = 0 ↔ x.toInt % 2 = 0 := by
  have e1 : (x &&& 1).toBitVec = x.toBitVec &&& 1#64 := rfl
  have e3 : (x &&& 1).toBitVec.toNat = x.toBitVec.toNat % 2 := by
    rw [e1, BitVec.toNat_and]
    exact Nat.and_one_is_mod _
  have e4 : x.toInt % 2 = (x.toBitVec.toNat : Int) % 2 := by
    show x.toBitVec.toInt % 2 = _
    rw [BitVec.toInt_eq_toNat_cond]
    split <;> omega
  rw [e4]
  constructor
  · intro h
    rw [h] at e3
    have : (0 : Int64).toBitVec.toNat = 0 := by decide
    omega
  · intro h
    have h2 : (x &&& 1).toBitVec.toNat = 0 := by rw [e3]; omega
    exact Int64.toBitVec_inj.mp (BitVec.eq_of_toNat_eq (by rw [h2]; decide))
theorem L_xor {x y : Int64} (hy : 0 ≤ y.toInt) : 0 ≤ (x ^^^ y) ↔ 0 ≤ x.toInt := by
  rw [L_le, show (0 : Int64).toInt = 0 by decide]
  have a1 : (x ^^^ y).toInt = (x.toBitVec ^^^ y.toBitVec).toInt := rfl
  have a2 : x.toInt = x.toBitVec.toInt := rfl
  have a3 : y.toInt = y.toBitVec.toInt := rfl
  rw [a1, a2]
  rw [a3] at hy
  have m1 : ∀ z : BitVec 64, 0 ≤ z.toInt ↔ z.msb = false := fun z => by
    rw [BitVec.msb_eq_toInt]
    simp
  rw [m1, m1, BitVec.msb_xor]
  rw [m1] at hy
  rw [hy]
  simp
theorem L_odd {x : Int64} (h : 0 ≤ x.toInt) : (x - x / 2 * 2) = 1 ↔ x.toInt % 2 = 1 := by
  have e : (x - x / 2 * 2).toInt = x.toInt % 2 := by
    rw [L_rem (by decide), show (2 : Int64).toInt = 2 by decide, Int.tmod_eq_emod_of_nonneg h]
  constructor
  · intro q; rw [← e, q]; decide
  · intro q; exact L_inj (by rw [e, q]; decide)
theorem L_mulB {x y : Int64} {X Y : Nat} (hx : x.toInt.natAbs ≤ X) (hy : y.toInt.natAbs ≤ Y) (h : X * Y < 9223372036854775808) : (x * y).toInt = x.toInt * y.toInt := by
  have h1 : (x.toInt * y.toInt).natAbs ≤ X * Y := by
    rw [Int.natAbs_mul]
    exact Nat.mul_le_mul hx hy
  exact L_mul (by omega) (by omega)
theorem L_2 {x : Int64} (h1 : -2000000000000000000 ≤ x.toInt) (h2 : x.toInt ≤ 2000000000000000000) : (2 * x).toInt = 2 * x.toInt := by
  rw [L_mul (by rw [show (2 : Int64).toInt = 2 by decide]; omega) (by rw [show (2 : Int64).toInt = 2 by decide]; omega), show (2 : Int64).toInt = 2 by decide]
/-- a not negative number over a step: quotient and rest -/
theorem quo_rest {T S : Int64} {t s : Int} (hT : T.toInt = t) (hS : S.toInt = s) (h0 : 0 ≤ t) (h1 : t ≤ 1000000000) (hs : 1 ≤ s) (hs2 : s ≤ 1000000000000000000) : (T / S).toInt = t / s ∧ ((T / S) * S).toInt = t - t % s ∧ (T - (T / S) * S).toInt = t % s ∧ 0 ≤ t / s ∧ t / s ≤ t ∧ 0 ≤ t % s ∧ t % s < s ∧ t % s ≤ t := by
  have a1 : (T / S).toInt = t / s := by rw [L_div (by omega), hT, hS, Int.tdiv_eq_ediv_of_nonneg h0]
  have a2 := Int.mul_ediv_add_emod t s
  have a3 := Int.emod_nonneg t (show s ≠ 0 by omega)
  have a4 := Int.emod_lt_of_pos t (show 0 < s by omega)
  have a5 : 0 ≤ t / s := Int.ediv_nonneg h0 (by omega)
  have a6 : t / s ≤ t := Int.ediv_le_self s h0
  have a7 : t / s * s = t - t % s := by rw [Int.mul_comm]; omega
  have a8 : 0 ≤ t / s * s := Int.mul_nonneg a5 (by omega)
  have a9 : ((T / S) * S).toInt = t - t % s := by
    rw [L_mul (by rw [a1, hS]; omega) (by rw [a1, hS]; omega), a1, hS, a7]
  refine ⟨a1, a9, ?_, a5, a6, a3, a4, by omega⟩
  rw [L_sub (by rw [hT, a9]; omega) (by rw [hT, a9]; omega), hT, a9]
  omega
theorem round_pos {rule : Int32} {U S unit : Int64} {u s : Int} (hU : U.toInt = u) (hS : S.toInt = s) (h0 : 0 ≤ u) (h1 : u ≤ 1000000000) (hs : 1 ≤ s) (hs2 : s ≤ 1000000000000000000) (hr : rule = 0 ∨ rule = 1 ∨ rule = 2 ∨ rule = 3) :
    (if (U - ((U / S) * S)) ≤ 0 then (((U / S) * unit), (0 : Int32)) else if 2 ≤ rule then if S < (2 * (U - ((U / S) * S))) then (((U / S) + 1) * unit, 0) else if (2 * (U - ((U / S) * S))) = S then if rule = 2 then (((U / S) + 1) * unit, 0) else if ((U / S) - (U / S) / 2 * 2) = 1 then (((U / S) + 1) * unit, 0) else ((U / S) * unit, 0) else ((U / S) * unit, 0) else if rule = 0 then ((U / S) * unit, 0) else (((U / S) + 1) * unit, 0))
    = (if f_kr_goesUp rule (f_jm_floorDiv U S) (f_jm_floorMod U S) S = 0 then ((f_jm_floorDiv U S) * unit) else (((f_jm_floorDiv U S) + 1) * unit), 0) := by
  obtain ⟨b1, b2, b3, b4, b5, b6, b7, b8⟩ := quo_rest hU hS h0 h1 hs hs2
  have hx : 0 ≤ (U ^^^ S) := (L_xor (by omega)).mpr (by omega)
  have e1 : f_jm_floorDiv U S = U / S := by unfold f_jm_floorDiv; rw [if_pos hx]
  have e2 : f_jm_floorMod U S = U - U / S * S := by unfold f_jm_floorMod; rw [if_pos hx]
  rw [e1, e2]
  generalize U / S = X at *
  generalize U - X * S = Z at *
  have z2 : (2 * Z).toInt = 2 * Z.toInt := L_2 (by omega) (by omega)
  have c0 : (Z ≤ 0) ↔ u % s = 0 := by rw [L_le, b3, show (0 : Int64).toInt = 0 by decide]; omega
  have c1 : (S < 2 * Z) ↔ s < 2 * (u % s) := by rw [L_lt, z2, b3, hS]
  have c2 : (2 * Z = S) ↔ 2 * (u % s) = s := ⟨fun q => by have := congrArg Int64.toInt q; rw [z2, b3, hS] at this; exact this, fun q => L_inj (by rw [z2, b3, hS, q])⟩
  have c3 : (2 * Z ≤ S) ↔ 2 * (u % s) ≤ s := by rw [L_le, z2, b3, hS]
  have c4 : ¬ X < 0 := by rw [L_lt, b1, show (0 : Int64).toInt = 0 by decide]; omega
  have c5 := L_odd (x := X) (by omega)
  have c6 := L_and1 X
  unfold f_kr_goesUp
  rcases hr with rfl | rfl | rfl | rfl
  · simp only [if_pos (show (0 : Int32) = 0 from rfl), if_pos rfl, if_neg (show ¬ (2 : Int32) ≤ 0 by decide), if_pos rfl, ite_self, ↓reduceIte]
  · simp only [if_neg (show ¬ (1 : Int32) = 0 by decide), if_pos (show (1 : Int32) = 1 from rfl), if_neg (show ¬ (2 : Int32) ≤ 1 by decide), if_neg (show ¬ (1 : Int32) = 0 by decide), ↓reduceIte]
    by_cases q : Z ≤ 0
    · rw [if_pos q, if_pos q, if_pos rfl]
    · rw [if_neg q, if_neg q, if_neg (show ¬ (1 : Int32) = 0 by decide)]
  · simp only [if_neg (show ¬ (2 : Int32) = 0 by decide), if_neg (show ¬ (2 : Int32) = 1 by decide), if_pos (show (2 : Int32) ≤ 2 by decide), if_pos (show (2 : Int32) = 2 from rfl), if_pos (show (2 : Int32) = 2 from rfl), if_neg c4, ↓reduceIte]
    by_cases q : Z ≤ 0
    · have q' := c0.mp q
      rw [if_pos q, if_neg (fun z => absurd (c2.mp z) (by omega)), if_pos (c3.mpr (by omega)), if_pos rfl]
    · rw [if_neg q]
      by_cases q2 : 2 * Z = S
      · have q2' := c2.mp q2
        rw [if_neg (fun z => absurd (c1.mp z) (by omega)), if_pos q2, if_pos q2, if_neg (show ¬ (1 : Int32) = 0 by decide)]
      · rw [if_neg q2, if_neg q2]
        have q2' : ¬ 2 * (u % s) = s := fun z => q2 (c2.mpr z)
        by_cases q3 : S < 2 * Z
        · rw [if_pos q3, if_neg (fun z => absurd (c3.mp z) (by have := c1.mp q3; omega)), if_neg (show ¬ (1 : Int32) = 0 by decide)]
        · rw [if_neg q3, if_pos (c3.mpr (by have : ¬ s < 2 * (u % s) := fun z => q3 (c1.mpr z); omega)), if_pos rfl]
  · simp only [if_neg (show ¬ (3 : Int32) = 0 by decide), if_neg (show ¬ (3 : Int32) = 1 by decide), if_pos (show (2 : Int32) ≤ 3 by decide), if_neg (show ¬ (3 : Int32) = 2 by decide), if_neg (show ¬ (3 : Int32) = 2 by decide), ↓reduceIte]
    by_cases q : Z ≤ 0
    · have q' := c0.mp q
      rw [if_pos q, if_neg (fun z => absurd (c2.mp z) (by omega)), if_pos (c3.mpr (by omega)), if_pos rfl]
    · rw [if_neg q]
      by_cases q2 : 2 * Z = S
      · have q2' := c2.mp q2
        rw [if_neg (fun z => absurd (c1.mp z) (by omega)), if_pos q2, if_pos q2]
        by_cases q4 : X.toInt % 2 = 0
        · rw [if_pos (c6.mpr q4), if_pos rfl, if_neg (fun z => absurd (c5.mp z) (by omega))]
        · rw [if_neg (fun z => q4 (c6.mp z)), if_neg (show ¬ (1 : Int32) = 0 by decide), if_pos (c5.mpr (by omega))]
      · rw [if_neg q2, if_neg q2]
        have q2' : ¬ 2 * (u % s) = s := fun z => q2 (c2.mpr z)
        by_cases q3 : S < 2 * Z
        · rw [if_pos q3, if_neg (fun z => absurd (c3.mp z) (by have := c1.mp q3; omega)), if_neg (show ¬ (1 : Int32) = 0 by decide)]
        · rw [if_neg q3, if_pos (c3.mpr (by have : ¬ s < 2 * (u % s) := fun z => q3 (c1.mpr z); omega)), if_pos rfl]
theorem L_um {X Y unit : Int64} {a : Int} (hX : X.toInt = -a) (hY : Y.toInt = a) (h0 : 0 ≤ a) (h1 : a ≤ 1000000001) (hu : 1 ≤ unit.toInt ∧ unit.toInt ≤ 1000000000) : X * unit = -(Y * unit) := by
  have p1 : (X * unit).toInt = X.toInt * unit.toInt := L_mulB (X := 1000000001) (Y := 1000000000) (by omega) (by omega) (by decide)
  have p2 : (Y * unit).toInt = Y.toInt * unit.toInt := L_mulB (X := 1000000001) (Y := 1000000000) (by omega) (by omega) (by decide)
  have p3 : 0 ≤ a * unit.toInt := Int.mul_nonneg h0 (by omega)
  refine L_inj ?_
  rw [L_neg (by rw [p2, hY]; omega), p1, p2, hX, hY, Int.neg_mul]
theorem round_neg {rule : Int32} {U S unit : Int64} {u s : Int} (hU : U.toInt = u) (hS : S.toInt = s) (h0 : u < 0) (h1 : -1000000000 ≤ u) (hs : 1 ≤ s) (hs2 : s ≤ 1000000000000000000) (hr : rule = 0 ∨ rule = 1 ∨ rule = 2 ∨ rule = 3) (hu : 1 ≤ unit.toInt ∧ unit.toInt ≤ 1000000000) :
    (if ((-U) - (((-U) / S) * S)) ≤ 0 then (-(((-U) / S) * unit), (0 : Int32)) else if 2 ≤ rule then if S < (2 * ((-U) - (((-U) / S) * S))) then (-((((-U) / S) + 1) * unit), 0) else if (2 * ((-U) - (((-U) / S) * S))) = S then if rule = 2 then (-((((-U) / S) + 1) * unit), 0) else if (((-U) / S) - ((-U) / S) / 2 * 2) = 1 then (-((((-U) / S) + 1) * unit), 0) else (-(((-U) / S) * unit), 0) else (-(((-U) / S) * unit), 0) else if rule = 0 then (-((((-U) / S) + 1) * unit), 0) else (-(((-U) / S) * unit), 0))
    = (if f_kr_goesUp rule (f_jm_floorDiv U S) (f_jm_floorMod U S) S = 0 then ((f_jm_floorDiv U S) * unit) else (((f_jm_floorDiv U S) + 1) * unit), 0) := by
  have hT : (-U).toInt = -u := by rw [L_neg (by omega), hU]
  obtain ⟨b1, b2, b3, b4, b5, b6, b7, b8⟩ := quo_rest hT hS (by omega) (by omega) hs hs2
  have hx : ¬ 0 ≤ (U ^^^ S) := fun q => absurd ((L_xor (by omega)).mp q) (by omega)
  have d1 : (U / S).toInt = -(-u / s) := by
    rw [L_div (by omega), hU, hS, show u = -(-u) by omega, Int.neg_tdiv, Int.tdiv_eq_ediv_of_nonneg (by omega)]
    simp
  have d2 : ((U / S) * S).toInt = u + (-u) % s := by
    have e1 := Int.mul_ediv_add_emod (-u) s
    have e2 : -(-u / s) * s = u + (-u) % s := by rw [Int.neg_mul, Int.mul_comm]; omega
    rw [L_mul (by rw [d1, hS, e2]; omega) (by rw [d1, hS, e2]; omega), d1, hS, e2]
  have d3 : (U - (U / S) * S).toInt = -((-u) % s) := by
    rw [L_sub (by rw [hU, d2]; omega) (by rw [hU, d2]; omega), hU, d2]; omega
  have hFD : (f_jm_floorDiv U S).toInt = if (-u) % s = 0 then -(-u / s) else -(-u / s) - 1 := by
    unfold f_jm_floorDiv
    rw [if_neg hx]
    by_cases q : (-u) % s = 0
    · rw [if_pos q, if_pos (L_inj (by rw [d2, hU]; omega)), d1]
    · rw [if_neg q, if_neg (fun z => q (by have := congrArg Int64.toInt z; rw [d2, hU] at this; omega)), L_sub (by rw [d1, show (1 : Int64).toInt = 1 by decide]; omega) (by rw [d1, show (1 : Int64).toInt = 1 by decide]; omega), d1]
      rfl
  have hFM : (f_jm_floorMod U S).toInt = if (-u) % s = 0 then 0 else s - (-u) % s := by
    unfold f_jm_floorMod
    rw [if_neg hx]
    by_cases q : (-u) % s = 0
    · rw [if_pos q, if_pos (L_inj (by rw [d3, q]; decide)), d3, q]; rfl
    · rw [if_neg q, if_neg (L_ne0.mpr (by rw [d3]; omega)), L_add (by rw [d3, hS]; omega) (by rw [d3, hS]; omega), d3, hS]; omega
  generalize f_jm_floorDiv U S = FD at *
  generalize f_jm_floorMod U S = FM at *
  generalize (-U) / S = X at *
  generalize (-U) - X * S = Z at *
  generalize hn : -u / s = n at *
  generalize hrr : (-u) % s = r at *
  have z2 : (2 * Z).toInt = 2 * r := by rw [L_2 (by omega) (by omega), b3]
  have c0 : (Z ≤ 0) ↔ r = 0 := by rw [L_le, b3, show (0 : Int64).toInt = 0 by decide]; omega
  have c1 : (S < 2 * Z) ↔ s < 2 * r := by rw [L_lt, z2, hS]
  have c2 : (2 * Z = S) ↔ 2 * r = s := ⟨fun q => by have := congrArg Int64.toInt q; rw [z2, hS] at this; exact this, fun q => L_inj (by rw [z2, hS, q])⟩
  have c5 := L_odd (x := X) (by omega)
  have c6 := L_and1 FD
  have x1 : (X + 1).toInt = n + 1 := by rw [L_add (by rw [b1, show (1 : Int64).toInt = 1 by decide]; omega) (by rw [b1, show (1 : Int64).toInt = 1 by decide]; omega), b1]; rfl
  by_cases q0 : r = 0
  · rw [if_pos q0] at hFD hFM
    have m2 : (2 * FM).toInt = 0 := by rw [L_2 (by omega) (by omega), hFM]; rfl
    have g0 : f_kr_goesUp rule FD FM S = 0 := by
      unfold f_kr_goesUp
      rcases hr with rfl | rfl | rfl | rfl
      · rw [if_pos rfl]
      · rw [if_neg (by decide), if_pos rfl, if_pos (by rw [L_le, hFM]; decide)]
      · rw [if_neg (by decide), if_neg (by decide), if_neg (fun z => absurd (congrArg Int64.toInt z) (by rw [m2, hS]; omega)), if_pos (by rw [L_le, m2, hS]; omega)]
      · rw [if_neg (by decide), if_neg (by decide), if_neg (fun z => absurd (congrArg Int64.toInt z) (by rw [m2, hS]; omega)), if_pos (by rw [L_le, m2, hS]; omega)]
    rw [if_pos (c0.mpr q0), if_pos g0, L_um hFD b1 b4 (by omega) hu]
  · rw [if_neg q0] at hFD hFM
    have m2 : (2 * FM).toInt = 2 * s - 2 * r := by rw [L_2 (by omega) (by omega), hFM]; omega
    have f1 : (FD + 1).toInt = -n := by rw [L_add (by rw [hFD, show (1 : Int64).toInt = 1 by decide]; omega) (by rw [hFD, show (1 : Int64).toInt = 1 by decide]; omega), hFD, show (1 : Int64).toInt = 1 by decide]; omega
    have r1 : FD * unit = -((X + 1) * unit) := L_um (by rw [hFD]; omega) x1 (by omega) (by omega) hu
    have r2 : (FD + 1) * unit = -(X * unit) := L_um f1 b1 b4 (by omega) hu
    have k2 : (2 * FM = S) ↔ 2 * r = s := ⟨fun q => by have := congrArg Int64.toInt q; rw [m2, hS] at this; omega, fun q => L_inj (by rw [m2, hS]; omega)⟩
    have k3 : (2 * FM ≤ S) ↔ s ≤ 2 * r := by rw [L_le, m2, hS]; omega
    have k4 : FD < 0 := by rw [L_lt, hFD, show (0 : Int64).toInt = 0 by decide]; omega
    rw [if_neg (fun z => q0 (c0.mp z)), r1, r2]
    unfold f_kr_goesUp
    rcases hr with rfl | rfl | rfl | rfl
    · simp only [if_neg (show ¬ (2 : Int32) ≤ 0 by decide), if_pos rfl, if_pos rfl, if_pos rfl, ↓reduceIte]
    · simp only [if_neg (show ¬ (2 : Int32) ≤ 1 by decide), if_neg (show ¬ (1 : Int32) = 0 by decide), if_neg (show ¬ (1 : Int32) = 0 by decide), if_pos (show (1 : Int32) = 1 from rfl), if_neg (show ¬ FM ≤ 0 by rw [L_le, hFM, show (0 : Int64).toInt = 0 by decide]; omega), if_neg (show ¬ (1 : Int32) = 0 by decide), ↓reduceIte]
    · simp only [if_pos (show (2 : Int32) ≤ 2 by decide), if_neg (show ¬ (2 : Int32) = 0 by decide), if_neg (show ¬ (2 : Int32) = 1 by decide), if_pos (show (2 : Int32) = 2 from rfl), if_pos (show (2 : Int32) = 2 from rfl), if_pos k4, ↓reduceIte]
      by_cases q2 : 2 * r = s
      · rw [if_neg (fun z => absurd (c1.mp z) (by omega)), if_pos (c2.mpr q2), if_pos (k2.mpr q2), if_pos rfl]
      · rw [if_neg (fun z => q2 (c2.mp z)), if_neg (fun z => q2 (k2.mp z))]
        by_cases q3 : s < 2 * r
        · rw [if_pos (c1.mpr q3), if_pos (k3.mpr (by omega)), if_pos rfl]
        · rw [if_neg (fun z => q3 (c1.mp z)), if_neg (fun z => absurd (k3.mp z) (by omega)), if_neg (show ¬ (1 : Int32) = 0 by decide)]
    · simp only [if_pos (show (2 : Int32) ≤ 3 by decide), if_neg (show ¬ (3 : Int32) = 0 by decide), if_neg (show ¬ (3 : Int32) = 1 by decide), if_neg (show ¬ (3 : Int32) = 2 by decide), if_neg (show ¬ (3 : Int32) = 2 by decide), ↓reduceIte]
      by_cases q2 : 2 * r = s
      · rw [if_neg (fun z => absurd (c1.mp z) (by omega)), if_pos (c2.mpr q2), if_pos (k2.mpr q2)]
        by_cases q4 : n % 2 = 1
        · rw [if_pos (c5.mpr (by rw [b1]; exact q4)), if_pos (c6.mpr (by rw [hFD]; omega)), if_pos rfl]
        · rw [if_neg (fun z => q4 (by rw [← b1]; exact c5.mp z)), if_neg (fun z => absurd (c6.mp z) (by rw [hFD]; omega)), if_neg (show ¬ (1 : Int32) = 0 by decide)]
      · rw [if_neg (fun z => q2 (c2.mp z)), if_neg (fun z => q2 (k2.mp z))]
        by_cases q3 : s < 2 * r
        · rw [if_pos (c1.mpr q3), if_pos (k3.mpr (by omega)), if_pos rfl]
        · rw [if_neg (fun z => q3 (c1.mp z)), if_neg (fun z => absurd (k3.mp z) (by omega)), if_neg (show ¬ (1 : Int32) = 0 by decide)]
theorem rule_4 {rule : Int32} (h1 : ¬ rule < 0) (h2 : rule ≤ 3) : rule = 0 ∨ rule = 1 ∨ rule = 2 ∨ rule = 3 := by
  obtain ⟨j, hj, e⟩ := nI_of2 (M := 3) (n := 3) (by decide) h1 h2
  subst e
  rcases (show j = 0 ∨ j = 1 ∨ j = 2 ∨ j = 3 by omega) with rfl | rfl | rfl | rfl
  · exact Or.inl rfl
  · exact Or.inr (Or.inl rfl)
  · exact Or.inr (Or.inr (Or.inl rfl))
  · exact Or.inr (Or.inr (Or.inr rfl))
theorem round_core {cnt mv : Int32} {fu fl : Nat → Int32} {gu gd : Nat → Int64} (h : RV cnt fu fl mv gu gd) {a rule : Int32} {unit : Int64} : f_mo_round mv gu gd a rule unit = (f_kr_round cnt fu fl a rule unit, 0) := by
  unfold f_mo_round f_kr_round
  rw [isValue_has, h.1]
  by_cases ha : f_kv_has cnt a = 0
  · rw [if_pos ha, if_pos ha]
  · rw [if_neg ha, if_neg ha]
    obtain ⟨a1, a2, p1, p2⟩ := h.has ha
    by_cases h1 : rule < 0
    · rw [if_pos h1, if_pos h1]
    · rw [if_neg h1, if_neg h1]
      by_cases h2 : rule ≤ 3
      · rw [if_pos h2, if_neg (show ¬ 3 < rule by rw [Int32.lt_iff_toInt_lt]; rw [Int32.le_iff_toInt_le] at h2; omega)]
        by_cases h3 : unit < 1
        · rw [if_pos h3, if_pos h3]
        · rw [if_neg h3, if_neg h3]
          by_cases h4 : unit ≤ 1000000000
          · rw [if_pos h4, if_pos h4]
            have hu : 1 ≤ unit.toInt ∧ unit.toInt ≤ 1000000000 := by
              rw [L_lt, show (1 : Int64).toInt = 1 by decide] at h3
              rw [L_le, show (1000000000 : Int64).toInt = 1000000000 by decide] at h4
              omega
            obtain ⟨m1, m2, m3⟩ := prL_pos (x := (fl a.toNatClampNeg).toInt64) (by rw [L_i]; exact p2) hu
            unfold f_kv_lower f_kv_upper
            rw [a1, a2]
            rw [if_pos (show 1 ≤ (fl a.toNatClampNeg).toInt64 * unit by rw [L_le, m1, show (1 : Int64).toInt = 1 by decide]; exact m2)]
            have hr := rule_4 h1 h2
            generalize hS : (fl a.toNatClampNeg).toInt64 * unit = S at *
            have hU : ((fu a.toNatClampNeg).toInt64).toInt = (fu a.toNatClampNeg).toInt := L_i _
            generalize (fu a.toNatClampNeg).toInt64 = U at *
            by_cases h5 : 0 ≤ U
            · rw [if_pos h5, if_pos h5]
              exact round_pos hU m1 (by rw [L_le, hU, show (0 : Int64).toInt = 0 by decide] at h5; exact h5) p1.2 m2 m3 hr
            · rw [if_neg h5, if_neg h5]
              exact round_neg hU m1 (by rw [L_le, hU, show (0 : Int64).toInt = 0 by decide] at h5; omega) p1.1 m2 m3 hr hu
          · rw [if_neg h4, if_neg h4]
      · rw [if_neg h2, if_pos (show 3 < rule by rw [Int32.lt_iff_toInt_lt]; rw [Int32.le_iff_toInt_le] at h2; omega)]

