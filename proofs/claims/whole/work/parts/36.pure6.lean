/-! ===== determinants of at most four rows ===== -/
def d2 (M : Nat → Nat → Int) (i j a b : Nat) : Int := M i a * M j b - M i b * M j a
def d3 (M : Nat → Nat → Int) (k a b c : Nat) : Int := M k a * d2 M 0 1 b c - M k b * d2 M 0 1 a c + M k c * d2 M 0 1 a b
def d4 (M : Nat → Nat → Int) (a b c d : Nat) : Int := M 3 b * d3 M 2 a c d - M 3 a * d3 M 2 b c d - M 3 c * d3 M 2 a b d + M 3 d * d3 M 2 a b c
section DT
variable (M : Nat → Nat → Int)
theorem s2a (c0 c1 j : Nat) : d2 M 0 1 c0 c1 * M 0 j - M 0 c1 * d2 M 0 1 c0 j = M 0 c0 * d2 M 0 1 j c1 := by
  unfold d2; grind
theorem s2b (i c0 c1 j : Nat) : d2 M 0 1 c0 c1 * d2 M 0 i c0 j - d2 M 0 i c0 c1 * d2 M 0 1 c0 j = M 0 c0 * d3 M i c0 c1 j := by
  unfold d3 d2; grind
theorem s3a (c0 c1 c2 j : Nat) : d3 M 2 c0 c1 c2 * d2 M 0 1 j c1 - d2 M 0 1 c2 c1 * d3 M 2 c0 c1 j = d2 M 0 1 c0 c1 * d3 M 2 j c1 c2 := by
  unfold d3 d2; grind
theorem s3b (c0 c1 c2 j : Nat) : d3 M 2 c0 c1 c2 * d2 M 0 1 c0 j - d2 M 0 1 c0 c2 * d3 M 2 c0 c1 j = d2 M 0 1 c0 c1 * d3 M 2 c0 j c2 := by
  unfold d3 d2; grind
theorem s3c (c0 c1 c2 j : Nat) : d3 M 2 c0 c1 c2 * d3 M 3 c0 c1 j - d3 M 3 c0 c1 c2 * d3 M 2 c0 c1 j = d2 M 0 1 c0 c1 * d4 M c0 c1 c2 j := by
  unfold d4 d3 d2; grind
theorem s4a (c0 c1 c2 c3 j : Nat) : d4 M c0 c1 c2 c3 * d3 M 2 j c1 c2 - d3 M 2 c3 c1 c2 * d4 M c0 c1 c2 j = d3 M 2 c0 c1 c2 * d4 M j c1 c2 c3 := by
  unfold d4 d3 d2; grind
theorem s4b (c0 c1 c2 c3 j : Nat) : d4 M c0 c1 c2 c3 * d3 M 2 c0 j c2 - d3 M 2 c0 c3 c2 * d4 M c0 c1 c2 j = d3 M 2 c0 c1 c2 * d4 M c0 j c2 c3 := by
  unfold d4 d3 d2; grind
theorem s4c (c0 c1 c2 c3 j : Nat) : d4 M c0 c1 c2 c3 * d3 M 2 c0 c1 j - d3 M 2 c0 c1 c3 * d4 M c0 c1 c2 j = d3 M 2 c0 c1 c2 * d4 M c0 c1 j c3 := by
  unfold d4 d3 d2; grind
theorem p2 (c a b : Nat) : M 0 c * d2 M 0 1 a b = M 0 a * d2 M 0 1 c b - M 0 b * d2 M 0 1 c a := by
  unfold d2; grind
theorem p3 (c0 c1 a b c : Nat) : d2 M 0 1 c0 c1 * d3 M 2 a b c = d2 M 0 1 b c * d3 M 2 c0 c1 a - d2 M 0 1 a c * d3 M 2 c0 c1 b + d2 M 0 1 a b * d3 M 2 c0 c1 c := by
  unfold d3 d2; grind
theorem p4 (c0 c1 c2 a b c d : Nat) : d3 M 2 c0 c1 c2 * d4 M a b c d = d3 M 2 a c d * d4 M c0 c1 c2 b - d3 M 2 b c d * d4 M c0 c1 c2 a - d3 M 2 a b d * d4 M c0 c1 c2 c + d3 M 2 a b c * d4 M c0 c1 c2 d := by
  unfold d4 d3 d2; grind
theorem z2 (a : Nat) : d2 M 0 1 a a = 0 := by unfold d2; grind
theorem z3a (a b : Nat) : d3 M 2 a b a = 0 := by unfold d3 d2; grind
theorem z3b (a b : Nat) : d3 M 2 a b b = 0 := by unfold d3 d2; grind
theorem z3c (a b : Nat) : d3 M 2 a a b = 0 := by unfold d3 d2; grind
theorem z4a (a b c : Nat) : d4 M a b c a = 0 := by unfold d4 d3 d2; grind
theorem z4b (a b c : Nat) : d4 M a b c b = 0 := by unfold d4 d3 d2; grind
theorem z4c (a b c : Nat) : d4 M a b c c = 0 := by unfold d4 d3 d2; grind
theorem w2 (a b : Nat) : d2 M 0 1 b a = -d2 M 0 1 a b := by unfold d2; grind
theorem w3a (a b c : Nat) : d3 M 2 b a c = -d3 M 2 a b c := by unfold d3 d2; grind
theorem w3b (a b c : Nat) : d3 M 2 a c b = -d3 M 2 a b c := by unfold d3 d2; grind
theorem w4a (a b c d : Nat) : d4 M b a c d = -d4 M a b c d := by unfold d4 d3 d2; grind
theorem w4b (a b c d : Nat) : d4 M a c b d = -d4 M a b c d := by unfold d4 d3 d2; grind
theorem w4c (a b c d : Nat) : d4 M a b d c = -d4 M a b c d := by unfold d4 d3 d2; grind
theorem q3_012 (a b c : Nat) : d3 M 2 a b c = d3 M 2 a b c := rfl
theorem q3_021 (a b c : Nat) : d3 M 2 a c b = -d3 M 2 a b c := by rw [w3b M a b c]
theorem q3_102 (a b c : Nat) : d3 M 2 b a c = -d3 M 2 a b c := by rw [w3a M a b c]
theorem q3_120 (a b c : Nat) : d3 M 2 b c a = d3 M 2 a b c := by rw [w3b M b a c, w3a M a b c, Int.neg_neg]
theorem q3_201 (a b c : Nat) : d3 M 2 c a b = d3 M 2 a b c := by rw [w3a M a c b, w3b M a b c, Int.neg_neg]
theorem q3_210 (a b c : Nat) : d3 M 2 c b a = -d3 M 2 a b c := by rw [w3a M b c a, w3b M b a c, w3a M a b c, Int.neg_neg]
theorem q4_0123 (a b c d : Nat) : d4 M a b c d = d4 M a b c d := rfl
theorem q4_0132 (a b c d : Nat) : d4 M a b d c = -d4 M a b c d := by rw [w4c M a b c d]
theorem q4_0213 (a b c d : Nat) : d4 M a c b d = -d4 M a b c d := by rw [w4b M a b c d]
theorem q4_0231 (a b c d : Nat) : d4 M a c d b = d4 M a b c d := by rw [w4c M a c b d, w4b M a b c d, Int.neg_neg]
theorem q4_0312 (a b c d : Nat) : d4 M a d b c = d4 M a b c d := by rw [w4b M a b d c, w4c M a b c d, Int.neg_neg]
theorem q4_0321 (a b c d : Nat) : d4 M a d c b = -d4 M a b c d := by rw [w4b M a c d b, w4c M a c b d, w4b M a b c d, Int.neg_neg]
theorem q4_1023 (a b c d : Nat) : d4 M b a c d = -d4 M a b c d := by rw [w4a M a b c d]
theorem q4_1032 (a b c d : Nat) : d4 M b a d c = d4 M a b c d := by rw [w4a M a b d c, w4c M a b c d, Int.neg_neg]
theorem q4_1203 (a b c d : Nat) : d4 M b c a d = d4 M a b c d := by rw [w4b M b a c d, w4a M a b c d, Int.neg_neg]
theorem q4_1230 (a b c d : Nat) : d4 M b c d a = -d4 M a b c d := by rw [w4c M b c a d, w4b M b a c d, w4a M a b c d, Int.neg_neg]
theorem q4_1302 (a b c d : Nat) : d4 M b d a c = -d4 M a b c d := by rw [w4b M b a d c, w4c M b a c d, w4a M a b c d, Int.neg_neg]
theorem q4_1320 (a b c d : Nat) : d4 M b d c a = d4 M a b c d := by rw [w4b M b c d a, w4c M b c a d, w4b M b a c d, w4a M a b c d, Int.neg_neg, Int.neg_neg]
theorem q4_2013 (a b c d : Nat) : d4 M c a b d = d4 M a b c d := by rw [w4a M a c b d, w4b M a b c d, Int.neg_neg]
theorem q4_2031 (a b c d : Nat) : d4 M c a d b = -d4 M a b c d := by rw [w4a M a c d b, w4c M a c b d, w4b M a b c d, Int.neg_neg]
theorem q4_2103 (a b c d : Nat) : d4 M c b a d = -d4 M a b c d := by rw [w4a M b c a d, w4b M b a c d, w4a M a b c d, Int.neg_neg]
theorem q4_2130 (a b c d : Nat) : d4 M c b d a = d4 M a b c d := by rw [w4a M b c d a, w4c M b c a d, w4b M b a c d, w4a M a b c d, Int.neg_neg, Int.neg_neg]
theorem q4_2301 (a b c d : Nat) : d4 M c d a b = d4 M a b c d := by rw [w4b M c a d b, w4c M c a b d, w4a M a c b d, w4b M a b c d, Int.neg_neg, Int.neg_neg]
theorem q4_2310 (a b c d : Nat) : d4 M c d b a = -d4 M a b c d := by rw [w4b M c b d a, w4c M c b a d, w4a M b c a d, w4b M b a c d, w4a M a b c d, Int.neg_neg, Int.neg_neg]
theorem q4_3012 (a b c d : Nat) : d4 M d a b c = -d4 M a b c d := by rw [w4a M a d b c, w4b M a b d c, w4c M a b c d, Int.neg_neg]
theorem q4_3021 (a b c d : Nat) : d4 M d a c b = d4 M a b c d := by rw [w4a M a d c b, w4b M a c d b, w4c M a c b d, w4b M a b c d, Int.neg_neg, Int.neg_neg]
theorem q4_3102 (a b c d : Nat) : d4 M d b a c = d4 M a b c d := by rw [w4a M b d a c, w4b M b a d c, w4c M b a c d, w4a M a b c d, Int.neg_neg, Int.neg_neg]
theorem q4_3120 (a b c d : Nat) : d4 M d b c a = -d4 M a b c d := by rw [w4a M b d c a, w4b M b c d a, w4c M b c a d, w4b M b a c d, w4a M a b c d, Int.neg_neg, Int.neg_neg]
theorem q4_3201 (a b c d : Nat) : d4 M d c a b = -d4 M a b c d := by rw [w4a M c d a b, w4b M c a d b, w4c M c a b d, w4a M a c b d, w4b M a b c d, Int.neg_neg, Int.neg_neg]
theorem q4_3210 (a b c d : Nat) : d4 M d c b a = d4 M a b c d := by rw [w4a M c d b a, w4b M c b d a, w4c M c b a d, w4a M b c a d, w4b M b a c d, w4a M a b c d, Int.neg_neg, Int.neg_neg, Int.neg_neg]
end DT
theorem all2 {M : Nat → Nat → Int} {n : Nat} (h : ∀ a b, a < b → b < n → d2 M 0 1 a b = 0) {a b : Nat} (ha : a < n) (hb : b < n) : d2 M 0 1 a b = 0 := by
  rcases Nat.lt_trichotomy a b with q | q | q
  · exact h a b q hb
  · subst q; exact z2 M a
  · rw [w2 M b a, h b a q ha]; rfl
theorem all3 {M : Nat → Nat → Int} {n : Nat} (h : ∀ a b c, a < b → b < c → c < n → d3 M 2 a b c = 0) {a b c : Nat} (ha : a < n) (hb : b < n) (hc : c < n) : d3 M 2 a b c = 0 := by
  rcases Nat.lt_trichotomy a b with q | q | q
  · rcases Nat.lt_trichotomy b c with r | r | r
    · exact h a b c q r hc
    · subst r; exact z3b M a b
    · rcases Nat.lt_trichotomy a c with t | t | t
      · rw [w3b M a c b, h a c b t r hb]; rfl
      · subst t; exact z3a M a b
      · rw [w3b M a c b, w3a M c a b, h c a b t q hb]; rfl
  · subst q; exact z3c M a c
  · rcases Nat.lt_trichotomy b c with r | r | r
    · rcases Nat.lt_trichotomy a c with t | t | t
      · rw [w3a M b a c, h b a c q t hc]; rfl
      · subst t; exact z3a M a b
      · rw [w3a M b a c, w3b M b c a, h b c a r t ha]; rfl
    · subst r; exact z3b M a b
    · rw [w3a M b a c, w3b M b c a, w3a M c b a, h c b a r q ha]; rfl
theorem mulB {x y : Int} {X Y : Nat} (hx : x.natAbs ≤ X) (hy : y.natAbs ≤ Y) : (x * y).natAbs ≤ X * Y := by
  rw [Int.natAbs_mul]
  exact Nat.mul_le_mul hx hy
section DB
variable {M : Nat → Nat → Int} (hM : ∀ i, i < 4 → ∀ j, j < 5 → (M i j).natAbs ≤ 100)
theorem b2 {i j a b : Nat} (hM : ∀ i, i < 4 → ∀ j, j < 5 → (M i j).natAbs ≤ 100) (hi : i < 4) (hj : j < 4) (ha : a < 5) (hb : b < 5) : (d2 M i j a b).natAbs ≤ 20000 := by
  have h1 := mulB (hM i hi a ha) (hM j hj b hb)
  have h2 := mulB (hM i hi b hb) (hM j hj a ha)
  unfold d2
  omega
theorem b3 {k a b c : Nat} (hM : ∀ i, i < 4 → ∀ j, j < 5 → (M i j).natAbs ≤ 100) (hk : k < 4) (ha : a < 5) (hb : b < 5) (hc : c < 5) : (d3 M k a b c).natAbs ≤ 6000000 := by
  have h1 := mulB (hM k hk a ha) (b2 hM (i := 0) (j := 1) (by omega) (by omega) hb hc)
  have h2 := mulB (hM k hk b hb) (b2 hM (i := 0) (j := 1) (by omega) (by omega) ha hc)
  have h3 := mulB (hM k hk c hc) (b2 hM (i := 0) (j := 1) (by omega) (by omega) ha hb)
  unfold d3
  omega
theorem b4 {a b c d : Nat} (hM : ∀ i, i < 4 → ∀ j, j < 5 → (M i j).natAbs ≤ 100) (ha : a < 5) (hb : b < 5) (hc : c < 5) (hd : d < 5) : (d4 M a b c d).natAbs ≤ 2400000000 := by
  have h1 := mulB (hM 3 (by omega) b hb) (b3 hM (k := 2) (by omega) ha hc hd)
  have h2 := mulB (hM 3 (by omega) a ha) (b3 hM (k := 2) (by omega) hb hc hd)
  have h3 := mulB (hM 3 (by omega) c hc) (b3 hM (k := 2) (by omega) ha hb hd)
  have h4 := mulB (hM 3 (by omega) d hd) (b3 hM (k := 2) (by omega) ha hb hc)
  unfold d4
  omega
end DB
/-! the determinant that goes through all words, on whole numbers -/
def rwI (h : Nat → Int) (n : Nat) : Nat → Nat → Int → Nat → Nat → Nat → Int × Nat
  | 0, _, pr, _, _, t => (pr, t)
  | d + 1, r, pr, S, x, t => rwI h n d (r + 1) (if bitN S (x % n) = 1 then 0 else pr * h (4 * r + x % n)) (S ||| 2 ^ (x % n)) (x / n) (tuL S (n - (x % n + 1)) (x % n + 1) t)
def deI (h : Nat → Int) (n : Nat) : Nat → Nat → Int → Int
  | 0, _, acc => acc
  | d + 1, w, acc => if (rwI h n n 0 1 0 w 0).2 % 2 = 0 then deI h n d (w + 1) (acc + (rwI h n n 0 1 0 w 0).1) else deI h n d (w + 1) (acc - (rwI h n n 0 1 0 w 0).1)
theorem rw_hom (g : Nat → Int64) (n : Nat) : ∀ (d r : Nat) (pr : Int) (S x t : Nat), rwL g n d r (Int64.ofInt pr) S x t = (Int64.ofInt (rwI (fun k => (g k).toInt) n d r pr S x t).1, (rwI (fun k => (g k).toInt) n d r pr S x t).2)
  | 0, _, _, _, _, _ => rfl
  | d + 1, r, pr, S, x, t => by
    rw [rwL, rwI]
    by_cases h : bitN S (x % n) = 1
    · rw [if_pos h, if_pos h, show (0 : Int64) = Int64.ofInt 0 from rfl, rw_hom g n d]
    · rw [if_neg h, if_neg h, show Int64.ofInt pr * g (4 * r + x % n) = Int64.ofInt (pr * (g (4 * r + x % n)).toInt) by rw [Int64.ofInt_mul, Int64.ofInt_toInt], rw_hom g n d]
theorem de_hom (g : Nat → Int64) (n : Nat) : ∀ (d w : Nat) (acc : Int), deL g n d w (Int64.ofInt acc) = Int64.ofInt (deI (fun k => (g k).toInt) n d w acc)
  | 0, _, _ => rfl
  | d + 1, w, acc => by
    rw [deL, deI, show (1 : Int64) = Int64.ofInt 1 from rfl, rw_hom g n n 0 1 0 w 0]
    by_cases h : (rwI (fun k => (g k).toInt) n n 0 1 0 w 0).2 % 2 = 0
    · rw [if_pos h, if_pos h, ← Int64.ofInt_add, de_hom g n d]
    · rw [if_neg h, if_neg h, ← Int64.ofInt_sub, de_hom g n d]
set_option maxHeartbeats 4000000 in
set_option maxRecDepth 100000 in
theorem deI_1 (h : Nat → Int) : deI h 1 (1 * 1 ^ 1) 0 0 = h 0 := by
  simp [deI, rwI, tuL, bitN]
set_option maxHeartbeats 4000000 in
set_option maxRecDepth 100000 in
theorem deI_2 (h : Nat → Int) : deI h 2 (1 * 2 ^ 2) 0 0 = h 0 * h 5 - h 1 * h 4 := by
  simp [deI, rwI, tuL, bitN]
  try omega
set_option maxHeartbeats 4000000 in
set_option maxRecDepth 100000 in
theorem deI_3 (h : Nat → Int) : deI h 3 (1 * 3 ^ 3) 0 0 = h 0 * h 5 * h 10 - h 0 * h 6 * h 9 - h 1 * h 4 * h 10 + h 1 * h 6 * h 8 + h 2 * h 4 * h 9 - h 2 * h 5 * h 8 := by
  simp [deI, rwI, tuL, bitN]
  try omega
set_option maxHeartbeats 4000000 in
set_option maxRecDepth 100000 in
theorem deI_4 (h : Nat → Int) : deI h 4 (1 * 4 ^ 4) 0 0 = h 0 * h 5 * h 10 * h 15 - h 0 * h 5 * h 11 * h 14 - h 0 * h 6 * h 9 * h 15 + h 0 * h 6 * h 11 * h 13 + h 0 * h 7 * h 9 * h 14 - h 0 * h 7 * h 10 * h 13 - h 1 * h 4 * h 10 * h 15 + h 1 * h 4 * h 11 * h 14 + h 1 * h 6 * h 8 * h 15 - h 1 * h 6 * h 11 * h 12 - h 1 * h 7 * h 8 * h 14 + h 1 * h 7 * h 10 * h 12 + h 2 * h 4 * h 9 * h 15 - h 2 * h 4 * h 11 * h 13 - h 2 * h 5 * h 8 * h 15 + h 2 * h 5 * h 11 * h 12 + h 2 * h 7 * h 8 * h 13 - h 2 * h 7 * h 9 * h 12 - h 3 * h 4 * h 9 * h 14 + h 3 * h 4 * h 10 * h 13 + h 3 * h 5 * h 8 * h 14 - h 3 * h 5 * h 10 * h 12 - h 3 * h 6 * h 8 * h 13 + h 3 * h 6 * h 9 * h 12 := by
  simp [deI, rwI, tuL, bitN]
  try omega

