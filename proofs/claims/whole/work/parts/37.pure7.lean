/-! ===== the reference's way: minors ===== -/
theorem detV (g : Nat → Int64) (n : Nat) : f_mo_det g n = Int64.ofInt (deI (fun k => (g k).toInt) n (1 * n ^ n) 0 0) := de_hom g n (1 * n ^ n) 0 0
theorem ofz {z : Int} {B : Nat} (h : z.natAbs ≤ B) (hB : B ≤ 2400000000) : Int64.ofInt z = 0 ↔ z = 0 := by
  constructor
  · intro q
    have e := L_of z (by omega) (by omega)
    rw [q] at e
    exact e.symm.trans (by decide)
  · intro q; rw [q]; rfl
theorem dv1 {M : Nat → Nat → Int} {g : Nat → Int64} (col : Nat → Nat) (h : ∀ r, r < 1 → ∀ c, c < 1 → (g (4 * r + c)).toInt = M r (col c)) : f_mo_det g 1 = Int64.ofInt (M 0 (col 0)) := by
  have e00 : (g 0).toInt = M 0 (col 0) := h 0 (by decide) 0 (by decide)
  rw [detV, deI_1]
  simp only [e00]
  try rfl
theorem dv2 {M : Nat → Nat → Int} {g : Nat → Int64} (col : Nat → Nat) (h : ∀ r, r < 2 → ∀ c, c < 2 → (g (4 * r + c)).toInt = M r (col c)) : f_mo_det g 2 = Int64.ofInt (d2 M 0 1 (col 0) (col 1)) := by
  have e00 : (g 0).toInt = M 0 (col 0) := h 0 (by decide) 0 (by decide)
  have e01 : (g 1).toInt = M 0 (col 1) := h 0 (by decide) 1 (by decide)
  have e10 : (g 4).toInt = M 1 (col 0) := h 1 (by decide) 0 (by decide)
  have e11 : (g 5).toInt = M 1 (col 1) := h 1 (by decide) 1 (by decide)
  rw [detV, deI_2]
  simp only [e00, e01, e10, e11]
  congr 1
  try (unfold d2; grind)
theorem dv3 {M : Nat → Nat → Int} {g : Nat → Int64} (col : Nat → Nat) (h : ∀ r, r < 3 → ∀ c, c < 3 → (g (4 * r + c)).toInt = M r (col c)) : f_mo_det g 3 = Int64.ofInt (d3 M 2 (col 0) (col 1) (col 2)) := by
  have e00 : (g 0).toInt = M 0 (col 0) := h 0 (by decide) 0 (by decide)
  have e01 : (g 1).toInt = M 0 (col 1) := h 0 (by decide) 1 (by decide)
  have e02 : (g 2).toInt = M 0 (col 2) := h 0 (by decide) 2 (by decide)
  have e10 : (g 4).toInt = M 1 (col 0) := h 1 (by decide) 0 (by decide)
  have e11 : (g 5).toInt = M 1 (col 1) := h 1 (by decide) 1 (by decide)
  have e12 : (g 6).toInt = M 1 (col 2) := h 1 (by decide) 2 (by decide)
  have e20 : (g 8).toInt = M 2 (col 0) := h 2 (by decide) 0 (by decide)
  have e21 : (g 9).toInt = M 2 (col 1) := h 2 (by decide) 1 (by decide)
  have e22 : (g 10).toInt = M 2 (col 2) := h 2 (by decide) 2 (by decide)
  rw [detV, deI_3]
  simp only [e00, e01, e02, e10, e11, e12, e20, e21, e22]
  congr 1
  try (unfold d3 d2; grind)
theorem dv4 {M : Nat → Nat → Int} {g : Nat → Int64} (col : Nat → Nat) (h : ∀ r, r < 4 → ∀ c, c < 4 → (g (4 * r + c)).toInt = M r (col c)) : f_mo_det g 4 = Int64.ofInt (d4 M (col 0) (col 1) (col 2) (col 3)) := by
  have e00 : (g 0).toInt = M 0 (col 0) := h 0 (by decide) 0 (by decide)
  have e01 : (g 1).toInt = M 0 (col 1) := h 0 (by decide) 1 (by decide)
  have e02 : (g 2).toInt = M 0 (col 2) := h 0 (by decide) 2 (by decide)
  have e03 : (g 3).toInt = M 0 (col 3) := h 0 (by decide) 3 (by decide)
  have e10 : (g 4).toInt = M 1 (col 0) := h 1 (by decide) 0 (by decide)
  have e11 : (g 5).toInt = M 1 (col 1) := h 1 (by decide) 1 (by decide)
  have e12 : (g 6).toInt = M 1 (col 2) := h 1 (by decide) 2 (by decide)
  have e13 : (g 7).toInt = M 1 (col 3) := h 1 (by decide) 3 (by decide)
  have e20 : (g 8).toInt = M 2 (col 0) := h 2 (by decide) 0 (by decide)
  have e21 : (g 9).toInt = M 2 (col 1) := h 2 (by decide) 1 (by decide)
  have e22 : (g 10).toInt = M 2 (col 2) := h 2 (by decide) 2 (by decide)
  have e23 : (g 11).toInt = M 2 (col 3) := h 2 (by decide) 3 (by decide)
  have e30 : (g 12).toInt = M 3 (col 0) := h 3 (by decide) 0 (by decide)
  have e31 : (g 13).toInt = M 3 (col 1) := h 3 (by decide) 1 (by decide)
  have e32 : (g 14).toInt = M 3 (col 2) := h 3 (by decide) 2 (by decide)
  have e33 : (g 15).toInt = M 3 (col 3) := h 3 (by decide) 3 (by decide)
  rw [detV, deI_4]
  simp only [e00, e01, e02, e03, e10, e11, e12, e13, e20, e21, e22, e23, e30, e31, e32, e33]
  congr 1
  try (unfold d4 d3 d2; grind)
theorem fr_spec {ge : Nat → Int32} {q n : Nat} {Z : Nat → Prop} (hZ : ∀ f S, S < 2 ^ n → clL S n 0 0 = q → (f_mo_det (fiL ge S q n 0 0 f) q = 0 ↔ Z S)) : ∀ (d S : Nat) (f : Nat → Int64), S + d ≤ 2 ^ n → ((frL ge q n d S f).1 = 0 ↔ ∀ T, S ≤ T → T < S + d → clL T n 0 0 = q → Z T)
  | 0, S, f, _ => ⟨fun _ T h1 h2 => absurd h2 (by omega), fun _ => rfl⟩
  | d + 1, S, f, h => by
    have ih := fun f => fr_spec hZ d (S + 1) f (by omega)
    have hs : S < 2 ^ n := by omega
    rw [frL]
    by_cases c1 : clL S n 0 0 = q
    · rw [if_pos c1]
      by_cases c2 : f_mo_det (fiL ge S q n 0 0 f) q = 0
      · rw [if_pos c2, ih]
        constructor
        · intro k T h1 h2 h3
          by_cases e : T = S
          · subst e; exact (hZ f T hs c1).mp c2
          · exact k T (by omega) (by omega) h3
        · intro k T h1 h2 h3; exact k T (by omega) (by omega) h3
      · rw [if_neg c2]
        constructor
        · intro k; exact absurd k (show ¬ (1 : Int32) = 0 by decide)
        · intro k; exact absurd ((hZ f S hs c1).mpr (k S (by omega) (by omega) c1)) c2
    · rw [if_neg c1, ih]
      constructor
      · intro k T h1 h2 h3
        by_cases e : T = S
        · subst e; exact absurd h3 c1
        · exact k T (by omega) (by omega) h3
      · intro k T h1 h2 h3; exact k T (by omega) (by omega) h3
section FRS
variable {ge : Nat → Int32} {M : Nat → Nat → Int}
theorem fe_1_1_1 (f : Nat → Int64) : ∀ r, r < 1 → ∀ c, c < 1 → fiL ge 1 1 1 0 0 f (4 * r + c) = (ge (5 * r + (fun c : Nat => 0) c)).toInt64 := by
  intro r hr c hc
  rcases (show r = 0 by omega) with rfl <;> rcases (show c = 0 by omega) with rfl <;> rfl
theorem fv_1_1_1 (hge : ∀ i, i < 4 → ∀ j, j < 5 → (ge (5 * i + j)).toInt = M i j) (f : Nat → Int64) : f_mo_det (fiL ge 1 1 1 0 0 f) 1 = Int64.ofInt (M 0 0) :=
  dv1 (fun c : Nat => 0) (fun r hr c hc => by rw [fe_1_1_1 f r hr c hc, L_i]; exact hge r (by omega) _ (by rcases (show c = 0 by omega) with rfl <;> decide))
theorem st_1_1 : ∀ T, T < 2 ^ 1 → clL T 1 0 0 = 1 → T = 1 := by decide +kernel
theorem free_1_1 (hge : ∀ i, i < 4 → ∀ j, j < 5 → (ge (5 * i + j)).toInt = M i j) (hM : ∀ i, i < 4 → ∀ j, j < 5 → (M i j).natAbs ≤ 100) (f : Nat → Int64) : (f_mo_free ge f 1 1).1 = 0 ↔ M 0 0 = 0 := by
  unfold f_mo_free
  rw [fr_spec (Z := fun T => f_mo_det (fiL ge T 1 1 0 0 (fun _ => 0)) 1 = 0) (fun f S hS hc => by
      rcases st_1_1 S hS hc with rfl
      · rw [fv_1_1_1 hge f, fv_1_1_1 hge (fun _ => 0)]) (2 ^ 1) 0 f (by decide)]
  constructor
  · intro h
    exact (ofz (hM 0 (by decide) 0 (by decide)) (by decide)).mp (by rw [← fv_1_1_1 hge (fun _ => 0)]; exact h 1 (by decide) (by decide) (by decide))
  · intro h T _ hT hc
    have h0 := h
    have hT2 : T < 2 ^ 1 := by omega
    rcases st_1_1 T hT2 hc with rfl
    · rw [fv_1_1_1 hge (fun _ => 0), h0]; rfl
theorem fe_2_1_1 (f : Nat → Int64) : ∀ r, r < 1 → ∀ c, c < 1 → fiL ge 1 1 2 0 0 f (4 * r + c) = (ge (5 * r + (fun c : Nat => 0) c)).toInt64 := by
  intro r hr c hc
  rcases (show r = 0 by omega) with rfl <;> rcases (show c = 0 by omega) with rfl <;> rfl
theorem fv_2_1_1 (hge : ∀ i, i < 4 → ∀ j, j < 5 → (ge (5 * i + j)).toInt = M i j) (f : Nat → Int64) : f_mo_det (fiL ge 1 1 2 0 0 f) 1 = Int64.ofInt (M 0 0) :=
  dv1 (fun c : Nat => 0) (fun r hr c hc => by rw [fe_2_1_1 f r hr c hc, L_i]; exact hge r (by omega) _ (by rcases (show c = 0 by omega) with rfl <;> decide))
theorem fe_2_1_2 (f : Nat → Int64) : ∀ r, r < 1 → ∀ c, c < 1 → fiL ge 2 1 2 0 0 f (4 * r + c) = (ge (5 * r + (fun c : Nat => 1) c)).toInt64 := by
  intro r hr c hc
  rcases (show r = 0 by omega) with rfl <;> rcases (show c = 0 by omega) with rfl <;> rfl
theorem fv_2_1_2 (hge : ∀ i, i < 4 → ∀ j, j < 5 → (ge (5 * i + j)).toInt = M i j) (f : Nat → Int64) : f_mo_det (fiL ge 2 1 2 0 0 f) 1 = Int64.ofInt (M 0 1) :=
  dv1 (fun c : Nat => 1) (fun r hr c hc => by rw [fe_2_1_2 f r hr c hc, L_i]; exact hge r (by omega) _ (by rcases (show c = 0 by omega) with rfl <;> decide))
theorem st_2_1 : ∀ T, T < 2 ^ 2 → clL T 2 0 0 = 1 → T = 1 ∨ T = 2 := by decide +kernel
theorem free_2_1 (hge : ∀ i, i < 4 → ∀ j, j < 5 → (ge (5 * i + j)).toInt = M i j) (hM : ∀ i, i < 4 → ∀ j, j < 5 → (M i j).natAbs ≤ 100) (f : Nat → Int64) : (f_mo_free ge f 1 2).1 = 0 ↔ M 0 0 = 0 ∧ M 0 1 = 0 := by
  unfold f_mo_free
  rw [fr_spec (Z := fun T => f_mo_det (fiL ge T 1 2 0 0 (fun _ => 0)) 1 = 0) (fun f S hS hc => by
      rcases st_2_1 S hS hc with rfl | rfl
      · rw [fv_2_1_1 hge f, fv_2_1_1 hge (fun _ => 0)]
      · rw [fv_2_1_2 hge f, fv_2_1_2 hge (fun _ => 0)]) (2 ^ 2) 0 f (by decide)]
  constructor
  · intro h
    exact ⟨(ofz (hM 0 (by decide) 0 (by decide)) (by decide)).mp (by rw [← fv_2_1_1 hge (fun _ => 0)]; exact h 1 (by decide) (by decide) (by decide)), (ofz (hM 0 (by decide) 1 (by decide)) (by decide)).mp (by rw [← fv_2_1_2 hge (fun _ => 0)]; exact h 2 (by decide) (by decide) (by decide))⟩
  · intro h T _ hT hc
    obtain ⟨h0, h1⟩ := h
    have hT2 : T < 2 ^ 2 := by omega
    rcases st_2_1 T hT2 hc with rfl | rfl
    · rw [fv_2_1_1 hge (fun _ => 0), h0]; rfl
    · rw [fv_2_1_2 hge (fun _ => 0), h1]; rfl
theorem fe_2_2_3 (f : Nat → Int64) : ∀ r, r < 2 → ∀ c, c < 2 → fiL ge 3 2 2 0 0 f (4 * r + c) = (ge (5 * r + (fun c : Nat => if c = 0 then 0 else 1) c)).toInt64 := by
  intro r hr c hc
  rcases (show r = 0 ∨ r = 1 by omega) with rfl | rfl <;> rcases (show c = 0 ∨ c = 1 by omega) with rfl | rfl <;> rfl
theorem fv_2_2_3 (hge : ∀ i, i < 4 → ∀ j, j < 5 → (ge (5 * i + j)).toInt = M i j) (f : Nat → Int64) : f_mo_det (fiL ge 3 2 2 0 0 f) 2 = Int64.ofInt (d2 M 0 1 0 1) :=
  dv2 (fun c : Nat => if c = 0 then 0 else 1) (fun r hr c hc => by rw [fe_2_2_3 f r hr c hc, L_i]; exact hge r (by omega) _ (by rcases (show c = 0 ∨ c = 1 by omega) with rfl | rfl <;> decide))
theorem st_2_2 : ∀ T, T < 2 ^ 2 → clL T 2 0 0 = 2 → T = 3 := by decide +kernel
theorem free_2_2 (hge : ∀ i, i < 4 → ∀ j, j < 5 → (ge (5 * i + j)).toInt = M i j) (hM : ∀ i, i < 4 → ∀ j, j < 5 → (M i j).natAbs ≤ 100) (f : Nat → Int64) : (f_mo_free ge f 2 2).1 = 0 ↔ d2 M 0 1 0 1 = 0 := by
  unfold f_mo_free
  rw [fr_spec (Z := fun T => f_mo_det (fiL ge T 2 2 0 0 (fun _ => 0)) 2 = 0) (fun f S hS hc => by
      rcases st_2_2 S hS hc with rfl
      · rw [fv_2_2_3 hge f, fv_2_2_3 hge (fun _ => 0)]) (2 ^ 2) 0 f (by decide)]
  constructor
  · intro h
    exact (ofz (b2 hM (by decide) (by decide) (by decide) (by decide)) (by decide)).mp (by rw [← fv_2_2_3 hge (fun _ => 0)]; exact h 3 (by decide) (by decide) (by decide))
  · intro h T _ hT hc
    have h0 := h
    have hT2 : T < 2 ^ 2 := by omega
    rcases st_2_2 T hT2 hc with rfl
    · rw [fv_2_2_3 hge (fun _ => 0), h0]; rfl
theorem fe_3_1_1 (f : Nat → Int64) : ∀ r, r < 1 → ∀ c, c < 1 → fiL ge 1 1 3 0 0 f (4 * r + c) = (ge (5 * r + (fun c : Nat => 0) c)).toInt64 := by
  intro r hr c hc
  rcases (show r = 0 by omega) with rfl <;> rcases (show c = 0 by omega) with rfl <;> rfl
theorem fv_3_1_1 (hge : ∀ i, i < 4 → ∀ j, j < 5 → (ge (5 * i + j)).toInt = M i j) (f : Nat → Int64) : f_mo_det (fiL ge 1 1 3 0 0 f) 1 = Int64.ofInt (M 0 0) :=
  dv1 (fun c : Nat => 0) (fun r hr c hc => by rw [fe_3_1_1 f r hr c hc, L_i]; exact hge r (by omega) _ (by rcases (show c = 0 by omega) with rfl <;> decide))
theorem fe_3_1_2 (f : Nat → Int64) : ∀ r, r < 1 → ∀ c, c < 1 → fiL ge 2 1 3 0 0 f (4 * r + c) = (ge (5 * r + (fun c : Nat => 1) c)).toInt64 := by
  intro r hr c hc
  rcases (show r = 0 by omega) with rfl <;> rcases (show c = 0 by omega) with rfl <;> rfl
theorem fv_3_1_2 (hge : ∀ i, i < 4 → ∀ j, j < 5 → (ge (5 * i + j)).toInt = M i j) (f : Nat → Int64) : f_mo_det (fiL ge 2 1 3 0 0 f) 1 = Int64.ofInt (M 0 1) :=
  dv1 (fun c : Nat => 1) (fun r hr c hc => by rw [fe_3_1_2 f r hr c hc, L_i]; exact hge r (by omega) _ (by rcases (show c = 0 by omega) with rfl <;> decide))
theorem fe_3_1_4 (f : Nat → Int64) : ∀ r, r < 1 → ∀ c, c < 1 → fiL ge 4 1 3 0 0 f (4 * r + c) = (ge (5 * r + (fun c : Nat => 2) c)).toInt64 := by
  intro r hr c hc
  rcases (show r = 0 by omega) with rfl <;> rcases (show c = 0 by omega) with rfl <;> rfl
theorem fv_3_1_4 (hge : ∀ i, i < 4 → ∀ j, j < 5 → (ge (5 * i + j)).toInt = M i j) (f : Nat → Int64) : f_mo_det (fiL ge 4 1 3 0 0 f) 1 = Int64.ofInt (M 0 2) :=
  dv1 (fun c : Nat => 2) (fun r hr c hc => by rw [fe_3_1_4 f r hr c hc, L_i]; exact hge r (by omega) _ (by rcases (show c = 0 by omega) with rfl <;> decide))
theorem st_3_1 : ∀ T, T < 2 ^ 3 → clL T 3 0 0 = 1 → T = 1 ∨ T = 2 ∨ T = 4 := by decide +kernel
theorem free_3_1 (hge : ∀ i, i < 4 → ∀ j, j < 5 → (ge (5 * i + j)).toInt = M i j) (hM : ∀ i, i < 4 → ∀ j, j < 5 → (M i j).natAbs ≤ 100) (f : Nat → Int64) : (f_mo_free ge f 1 3).1 = 0 ↔ M 0 0 = 0 ∧ M 0 1 = 0 ∧ M 0 2 = 0 := by
  unfold f_mo_free
  rw [fr_spec (Z := fun T => f_mo_det (fiL ge T 1 3 0 0 (fun _ => 0)) 1 = 0) (fun f S hS hc => by
      rcases st_3_1 S hS hc with rfl | rfl | rfl
      · rw [fv_3_1_1 hge f, fv_3_1_1 hge (fun _ => 0)]
      · rw [fv_3_1_2 hge f, fv_3_1_2 hge (fun _ => 0)]
      · rw [fv_3_1_4 hge f, fv_3_1_4 hge (fun _ => 0)]) (2 ^ 3) 0 f (by decide)]
  constructor
  · intro h
    exact ⟨(ofz (hM 0 (by decide) 0 (by decide)) (by decide)).mp (by rw [← fv_3_1_1 hge (fun _ => 0)]; exact h 1 (by decide) (by decide) (by decide)), (ofz (hM 0 (by decide) 1 (by decide)) (by decide)).mp (by rw [← fv_3_1_2 hge (fun _ => 0)]; exact h 2 (by decide) (by decide) (by decide)), (ofz (hM 0 (by decide) 2 (by decide)) (by decide)).mp (by rw [← fv_3_1_4 hge (fun _ => 0)]; exact h 4 (by decide) (by decide) (by decide))⟩
  · intro h T _ hT hc
    obtain ⟨h0, h1, h2⟩ := h
    have hT2 : T < 2 ^ 3 := by omega
    rcases st_3_1 T hT2 hc with rfl | rfl | rfl
    · rw [fv_3_1_1 hge (fun _ => 0), h0]; rfl
    · rw [fv_3_1_2 hge (fun _ => 0), h1]; rfl
    · rw [fv_3_1_4 hge (fun _ => 0), h2]; rfl
theorem fe_3_2_3 (f : Nat → Int64) : ∀ r, r < 2 → ∀ c, c < 2 → fiL ge 3 2 3 0 0 f (4 * r + c) = (ge (5 * r + (fun c : Nat => if c = 0 then 0 else 1) c)).toInt64 := by
  intro r hr c hc
  rcases (show r = 0 ∨ r = 1 by omega) with rfl | rfl <;> rcases (show c = 0 ∨ c = 1 by omega) with rfl | rfl <;> rfl
theorem fv_3_2_3 (hge : ∀ i, i < 4 → ∀ j, j < 5 → (ge (5 * i + j)).toInt = M i j) (f : Nat → Int64) : f_mo_det (fiL ge 3 2 3 0 0 f) 2 = Int64.ofInt (d2 M 0 1 0 1) :=
  dv2 (fun c : Nat => if c = 0 then 0 else 1) (fun r hr c hc => by rw [fe_3_2_3 f r hr c hc, L_i]; exact hge r (by omega) _ (by rcases (show c = 0 ∨ c = 1 by omega) with rfl | rfl <;> decide))
theorem fe_3_2_5 (f : Nat → Int64) : ∀ r, r < 2 → ∀ c, c < 2 → fiL ge 5 2 3 0 0 f (4 * r + c) = (ge (5 * r + (fun c : Nat => if c = 0 then 0 else 2) c)).toInt64 := by
  intro r hr c hc
  rcases (show r = 0 ∨ r = 1 by omega) with rfl | rfl <;> rcases (show c = 0 ∨ c = 1 by omega) with rfl | rfl <;> rfl
theorem fv_3_2_5 (hge : ∀ i, i < 4 → ∀ j, j < 5 → (ge (5 * i + j)).toInt = M i j) (f : Nat → Int64) : f_mo_det (fiL ge 5 2 3 0 0 f) 2 = Int64.ofInt (d2 M 0 1 0 2) :=
  dv2 (fun c : Nat => if c = 0 then 0 else 2) (fun r hr c hc => by rw [fe_3_2_5 f r hr c hc, L_i]; exact hge r (by omega) _ (by rcases (show c = 0 ∨ c = 1 by omega) with rfl | rfl <;> decide))
theorem fe_3_2_6 (f : Nat → Int64) : ∀ r, r < 2 → ∀ c, c < 2 → fiL ge 6 2 3 0 0 f (4 * r + c) = (ge (5 * r + (fun c : Nat => if c = 0 then 1 else 2) c)).toInt64 := by
  intro r hr c hc
  rcases (show r = 0 ∨ r = 1 by omega) with rfl | rfl <;> rcases (show c = 0 ∨ c = 1 by omega) with rfl | rfl <;> rfl
theorem fv_3_2_6 (hge : ∀ i, i < 4 → ∀ j, j < 5 → (ge (5 * i + j)).toInt = M i j) (f : Nat → Int64) : f_mo_det (fiL ge 6 2 3 0 0 f) 2 = Int64.ofInt (d2 M 0 1 1 2) :=
  dv2 (fun c : Nat => if c = 0 then 1 else 2) (fun r hr c hc => by rw [fe_3_2_6 f r hr c hc, L_i]; exact hge r (by omega) _ (by rcases (show c = 0 ∨ c = 1 by omega) with rfl | rfl <;> decide))
theorem st_3_2 : ∀ T, T < 2 ^ 3 → clL T 3 0 0 = 2 → T = 3 ∨ T = 5 ∨ T = 6 := by decide +kernel
theorem free_3_2 (hge : ∀ i, i < 4 → ∀ j, j < 5 → (ge (5 * i + j)).toInt = M i j) (hM : ∀ i, i < 4 → ∀ j, j < 5 → (M i j).natAbs ≤ 100) (f : Nat → Int64) : (f_mo_free ge f 2 3).1 = 0 ↔ d2 M 0 1 0 1 = 0 ∧ d2 M 0 1 0 2 = 0 ∧ d2 M 0 1 1 2 = 0 := by
  unfold f_mo_free
  rw [fr_spec (Z := fun T => f_mo_det (fiL ge T 2 3 0 0 (fun _ => 0)) 2 = 0) (fun f S hS hc => by
      rcases st_3_2 S hS hc with rfl | rfl | rfl
      · rw [fv_3_2_3 hge f, fv_3_2_3 hge (fun _ => 0)]
      · rw [fv_3_2_5 hge f, fv_3_2_5 hge (fun _ => 0)]
      · rw [fv_3_2_6 hge f, fv_3_2_6 hge (fun _ => 0)]) (2 ^ 3) 0 f (by decide)]
  constructor
  · intro h
    exact ⟨(ofz (b2 hM (by decide) (by decide) (by decide) (by decide)) (by decide)).mp (by rw [← fv_3_2_3 hge (fun _ => 0)]; exact h 3 (by decide) (by decide) (by decide)), (ofz (b2 hM (by decide) (by decide) (by decide) (by decide)) (by decide)).mp (by rw [← fv_3_2_5 hge (fun _ => 0)]; exact h 5 (by decide) (by decide) (by decide)), (ofz (b2 hM (by decide) (by decide) (by decide) (by decide)) (by decide)).mp (by rw [← fv_3_2_6 hge (fun _ => 0)]; exact h 6 (by decide) (by decide) (by decide))⟩
  · intro h T _ hT hc
    obtain ⟨h0, h1, h2⟩ := h
    have hT2 : T < 2 ^ 3 := by omega
    rcases st_3_2 T hT2 hc with rfl | rfl | rfl
    · rw [fv_3_2_3 hge (fun _ => 0), h0]; rfl
    · rw [fv_3_2_5 hge (fun _ => 0), h1]; rfl
    · rw [fv_3_2_6 hge (fun _ => 0), h2]; rfl
theorem fe_3_3_7 (f : Nat → Int64) : ∀ r, r < 3 → ∀ c, c < 3 → fiL ge 7 3 3 0 0 f (4 * r + c) = (ge (5 * r + (fun c : Nat => if c = 0 then 0 else if c = 1 then 1 else 2) c)).toInt64 := by
  intro r hr c hc
  rcases (show r = 0 ∨ r = 1 ∨ r = 2 by omega) with rfl | rfl | rfl <;> rcases (show c = 0 ∨ c = 1 ∨ c = 2 by omega) with rfl | rfl | rfl <;> rfl
theorem fv_3_3_7 (hge : ∀ i, i < 4 → ∀ j, j < 5 → (ge (5 * i + j)).toInt = M i j) (f : Nat → Int64) : f_mo_det (fiL ge 7 3 3 0 0 f) 3 = Int64.ofInt (d3 M 2 0 1 2) :=
  dv3 (fun c : Nat => if c = 0 then 0 else if c = 1 then 1 else 2) (fun r hr c hc => by rw [fe_3_3_7 f r hr c hc, L_i]; exact hge r (by omega) _ (by rcases (show c = 0 ∨ c = 1 ∨ c = 2 by omega) with rfl | rfl | rfl <;> decide))
theorem st_3_3 : ∀ T, T < 2 ^ 3 → clL T 3 0 0 = 3 → T = 7 := by decide +kernel
theorem free_3_3 (hge : ∀ i, i < 4 → ∀ j, j < 5 → (ge (5 * i + j)).toInt = M i j) (hM : ∀ i, i < 4 → ∀ j, j < 5 → (M i j).natAbs ≤ 100) (f : Nat → Int64) : (f_mo_free ge f 3 3).1 = 0 ↔ d3 M 2 0 1 2 = 0 := by
  unfold f_mo_free
  rw [fr_spec (Z := fun T => f_mo_det (fiL ge T 3 3 0 0 (fun _ => 0)) 3 = 0) (fun f S hS hc => by
      rcases st_3_3 S hS hc with rfl
      · rw [fv_3_3_7 hge f, fv_3_3_7 hge (fun _ => 0)]) (2 ^ 3) 0 f (by decide)]
  constructor
  · intro h
    exact (ofz (b3 hM (by decide) (by decide) (by decide) (by decide)) (by decide)).mp (by rw [← fv_3_3_7 hge (fun _ => 0)]; exact h 7 (by decide) (by decide) (by decide))
  · intro h T _ hT hc
    have h0 := h
    have hT2 : T < 2 ^ 3 := by omega
    rcases st_3_3 T hT2 hc with rfl
    · rw [fv_3_3_7 hge (fun _ => 0), h0]; rfl
theorem fe_4_1_1 (f : Nat → Int64) : ∀ r, r < 1 → ∀ c, c < 1 → fiL ge 1 1 4 0 0 f (4 * r + c) = (ge (5 * r + (fun c : Nat => 0) c)).toInt64 := by
  intro r hr c hc
  rcases (show r = 0 by omega) with rfl <;> rcases (show c = 0 by omega) with rfl <;> rfl
theorem fv_4_1_1 (hge : ∀ i, i < 4 → ∀ j, j < 5 → (ge (5 * i + j)).toInt = M i j) (f : Nat → Int64) : f_mo_det (fiL ge 1 1 4 0 0 f) 1 = Int64.ofInt (M 0 0) :=
  dv1 (fun c : Nat => 0) (fun r hr c hc => by rw [fe_4_1_1 f r hr c hc, L_i]; exact hge r (by omega) _ (by rcases (show c = 0 by omega) with rfl <;> decide))
theorem fe_4_1_2 (f : Nat → Int64) : ∀ r, r < 1 → ∀ c, c < 1 → fiL ge 2 1 4 0 0 f (4 * r + c) = (ge (5 * r + (fun c : Nat => 1) c)).toInt64 := by
  intro r hr c hc
  rcases (show r = 0 by omega) with rfl <;> rcases (show c = 0 by omega) with rfl <;> rfl
theorem fv_4_1_2 (hge : ∀ i, i < 4 → ∀ j, j < 5 → (ge (5 * i + j)).toInt = M i j) (f : Nat → Int64) : f_mo_det (fiL ge 2 1 4 0 0 f) 1 = Int64.ofInt (M 0 1) :=
  dv1 (fun c : Nat => 1) (fun r hr c hc => by rw [fe_4_1_2 f r hr c hc, L_i]; exact hge r (by omega) _ (by rcases (show c = 0 by omega) with rfl <;> decide))
theorem fe_4_1_4 (f : Nat → Int64) : ∀ r, r < 1 → ∀ c, c < 1 → fiL ge 4 1 4 0 0 f (4 * r + c) = (ge (5 * r + (fun c : Nat => 2) c)).toInt64 := by
  intro r hr c hc
  rcases (show r = 0 by omega) with rfl <;> rcases (show c = 0 by omega) with rfl <;> rfl
theorem fv_4_1_4 (hge : ∀ i, i < 4 → ∀ j, j < 5 → (ge (5 * i + j)).toInt = M i j) (f : Nat → Int64) : f_mo_det (fiL ge 4 1 4 0 0 f) 1 = Int64.ofInt (M 0 2) :=
  dv1 (fun c : Nat => 2) (fun r hr c hc => by rw [fe_4_1_4 f r hr c hc, L_i]; exact hge r (by omega) _ (by rcases (show c = 0 by omega) with rfl <;> decide))
theorem fe_4_1_8 (f : Nat → Int64) : ∀ r, r < 1 → ∀ c, c < 1 → fiL ge 8 1 4 0 0 f (4 * r + c) = (ge (5 * r + (fun c : Nat => 3) c)).toInt64 := by
  intro r hr c hc
  rcases (show r = 0 by omega) with rfl <;> rcases (show c = 0 by omega) with rfl <;> rfl
theorem fv_4_1_8 (hge : ∀ i, i < 4 → ∀ j, j < 5 → (ge (5 * i + j)).toInt = M i j) (f : Nat → Int64) : f_mo_det (fiL ge 8 1 4 0 0 f) 1 = Int64.ofInt (M 0 3) :=
  dv1 (fun c : Nat => 3) (fun r hr c hc => by rw [fe_4_1_8 f r hr c hc, L_i]; exact hge r (by omega) _ (by rcases (show c = 0 by omega) with rfl <;> decide))
theorem st_4_1 : ∀ T, T < 2 ^ 4 → clL T 4 0 0 = 1 → T = 1 ∨ T = 2 ∨ T = 4 ∨ T = 8 := by decide +kernel
theorem free_4_1 (hge : ∀ i, i < 4 → ∀ j, j < 5 → (ge (5 * i + j)).toInt = M i j) (hM : ∀ i, i < 4 → ∀ j, j < 5 → (M i j).natAbs ≤ 100) (f : Nat → Int64) : (f_mo_free ge f 1 4).1 = 0 ↔ M 0 0 = 0 ∧ M 0 1 = 0 ∧ M 0 2 = 0 ∧ M 0 3 = 0 := by
  unfold f_mo_free
  rw [fr_spec (Z := fun T => f_mo_det (fiL ge T 1 4 0 0 (fun _ => 0)) 1 = 0) (fun f S hS hc => by
      rcases st_4_1 S hS hc with rfl | rfl | rfl | rfl
      · rw [fv_4_1_1 hge f, fv_4_1_1 hge (fun _ => 0)]
      · rw [fv_4_1_2 hge f, fv_4_1_2 hge (fun _ => 0)]
      · rw [fv_4_1_4 hge f, fv_4_1_4 hge (fun _ => 0)]
      · rw [fv_4_1_8 hge f, fv_4_1_8 hge (fun _ => 0)]) (2 ^ 4) 0 f (by decide)]
  constructor
  · intro h
    exact ⟨(ofz (hM 0 (by decide) 0 (by decide)) (by decide)).mp (by rw [← fv_4_1_1 hge (fun _ => 0)]; exact h 1 (by decide) (by decide) (by decide)), (ofz (hM 0 (by decide) 1 (by decide)) (by decide)).mp (by rw [← fv_4_1_2 hge (fun _ => 0)]; exact h 2 (by decide) (by decide) (by decide)), (ofz (hM 0 (by decide) 2 (by decide)) (by decide)).mp (by rw [← fv_4_1_4 hge (fun _ => 0)]; exact h 4 (by decide) (by decide) (by decide)), (ofz (hM 0 (by decide) 3 (by decide)) (by decide)).mp (by rw [← fv_4_1_8 hge (fun _ => 0)]; exact h 8 (by decide) (by decide) (by decide))⟩
  · intro h T _ hT hc
    obtain ⟨h0, h1, h2, h3⟩ := h
    have hT2 : T < 2 ^ 4 := by omega
    rcases st_4_1 T hT2 hc with rfl | rfl | rfl | rfl
    · rw [fv_4_1_1 hge (fun _ => 0), h0]; rfl
    · rw [fv_4_1_2 hge (fun _ => 0), h1]; rfl
    · rw [fv_4_1_4 hge (fun _ => 0), h2]; rfl
    · rw [fv_4_1_8 hge (fun _ => 0), h3]; rfl
theorem fe_4_2_3 (f : Nat → Int64) : ∀ r, r < 2 → ∀ c, c < 2 → fiL ge 3 2 4 0 0 f (4 * r + c) = (ge (5 * r + (fun c : Nat => if c = 0 then 0 else 1) c)).toInt64 := by
  intro r hr c hc
  rcases (show r = 0 ∨ r = 1 by omega) with rfl | rfl <;> rcases (show c = 0 ∨ c = 1 by omega) with rfl | rfl <;> rfl
theorem fv_4_2_3 (hge : ∀ i, i < 4 → ∀ j, j < 5 → (ge (5 * i + j)).toInt = M i j) (f : Nat → Int64) : f_mo_det (fiL ge 3 2 4 0 0 f) 2 = Int64.ofInt (d2 M 0 1 0 1) :=
  dv2 (fun c : Nat => if c = 0 then 0 else 1) (fun r hr c hc => by rw [fe_4_2_3 f r hr c hc, L_i]; exact hge r (by omega) _ (by rcases (show c = 0 ∨ c = 1 by omega) with rfl | rfl <;> decide))
theorem fe_4_2_5 (f : Nat → Int64) : ∀ r, r < 2 → ∀ c, c < 2 → fiL ge 5 2 4 0 0 f (4 * r + c) = (ge (5 * r + (fun c : Nat => if c = 0 then 0 else 2) c)).toInt64 := by
  intro r hr c hc
  rcases (show r = 0 ∨ r = 1 by omega) with rfl | rfl <;> rcases (show c = 0 ∨ c = 1 by omega) with rfl | rfl <;> rfl
theorem fv_4_2_5 (hge : ∀ i, i < 4 → ∀ j, j < 5 → (ge (5 * i + j)).toInt = M i j) (f : Nat → Int64) : f_mo_det (fiL ge 5 2 4 0 0 f) 2 = Int64.ofInt (d2 M 0 1 0 2) :=
  dv2 (fun c : Nat => if c = 0 then 0 else 2) (fun r hr c hc => by rw [fe_4_2_5 f r hr c hc, L_i]; exact hge r (by omega) _ (by rcases (show c = 0 ∨ c = 1 by omega) with rfl | rfl <;> decide))
theorem fe_4_2_9 (f : Nat → Int64) : ∀ r, r < 2 → ∀ c, c < 2 → fiL ge 9 2 4 0 0 f (4 * r + c) = (ge (5 * r + (fun c : Nat => if c = 0 then 0 else 3) c)).toInt64 := by
  intro r hr c hc
  rcases (show r = 0 ∨ r = 1 by omega) with rfl | rfl <;> rcases (show c = 0 ∨ c = 1 by omega) with rfl | rfl <;> rfl
theorem fv_4_2_9 (hge : ∀ i, i < 4 → ∀ j, j < 5 → (ge (5 * i + j)).toInt = M i j) (f : Nat → Int64) : f_mo_det (fiL ge 9 2 4 0 0 f) 2 = Int64.ofInt (d2 M 0 1 0 3) :=
  dv2 (fun c : Nat => if c = 0 then 0 else 3) (fun r hr c hc => by rw [fe_4_2_9 f r hr c hc, L_i]; exact hge r (by omega) _ (by rcases (show c = 0 ∨ c = 1 by omega) with rfl | rfl <;> decide))
theorem fe_4_2_6 (f : Nat → Int64) : ∀ r, r < 2 → ∀ c, c < 2 → fiL ge 6 2 4 0 0 f (4 * r + c) = (ge (5 * r + (fun c : Nat => if c = 0 then 1 else 2) c)).toInt64 := by
  intro r hr c hc
  rcases (show r = 0 ∨ r = 1 by omega) with rfl | rfl <;> rcases (show c = 0 ∨ c = 1 by omega) with rfl | rfl <;> rfl
theorem fv_4_2_6 (hge : ∀ i, i < 4 → ∀ j, j < 5 → (ge (5 * i + j)).toInt = M i j) (f : Nat → Int64) : f_mo_det (fiL ge 6 2 4 0 0 f) 2 = Int64.ofInt (d2 M 0 1 1 2) :=
  dv2 (fun c : Nat => if c = 0 then 1 else 2) (fun r hr c hc => by rw [fe_4_2_6 f r hr c hc, L_i]; exact hge r (by omega) _ (by rcases (show c = 0 ∨ c = 1 by omega) with rfl | rfl <;> decide))
theorem fe_4_2_10 (f : Nat → Int64) : ∀ r, r < 2 → ∀ c, c < 2 → fiL ge 10 2 4 0 0 f (4 * r + c) = (ge (5 * r + (fun c : Nat => if c = 0 then 1 else 3) c)).toInt64 := by
  intro r hr c hc
  rcases (show r = 0 ∨ r = 1 by omega) with rfl | rfl <;> rcases (show c = 0 ∨ c = 1 by omega) with rfl | rfl <;> rfl
theorem fv_4_2_10 (hge : ∀ i, i < 4 → ∀ j, j < 5 → (ge (5 * i + j)).toInt = M i j) (f : Nat → Int64) : f_mo_det (fiL ge 10 2 4 0 0 f) 2 = Int64.ofInt (d2 M 0 1 1 3) :=
  dv2 (fun c : Nat => if c = 0 then 1 else 3) (fun r hr c hc => by rw [fe_4_2_10 f r hr c hc, L_i]; exact hge r (by omega) _ (by rcases (show c = 0 ∨ c = 1 by omega) with rfl | rfl <;> decide))
theorem fe_4_2_12 (f : Nat → Int64) : ∀ r, r < 2 → ∀ c, c < 2 → fiL ge 12 2 4 0 0 f (4 * r + c) = (ge (5 * r + (fun c : Nat => if c = 0 then 2 else 3) c)).toInt64 := by
  intro r hr c hc
  rcases (show r = 0 ∨ r = 1 by omega) with rfl | rfl <;> rcases (show c = 0 ∨ c = 1 by omega) with rfl | rfl <;> rfl
theorem fv_4_2_12 (hge : ∀ i, i < 4 → ∀ j, j < 5 → (ge (5 * i + j)).toInt = M i j) (f : Nat → Int64) : f_mo_det (fiL ge 12 2 4 0 0 f) 2 = Int64.ofInt (d2 M 0 1 2 3) :=
  dv2 (fun c : Nat => if c = 0 then 2 else 3) (fun r hr c hc => by rw [fe_4_2_12 f r hr c hc, L_i]; exact hge r (by omega) _ (by rcases (show c = 0 ∨ c = 1 by omega) with rfl | rfl <;> decide))
theorem st_4_2 : ∀ T, T < 2 ^ 4 → clL T 4 0 0 = 2 → T = 3 ∨ T = 5 ∨ T = 9 ∨ T = 6 ∨ T = 10 ∨ T = 12 := by decide +kernel
theorem free_4_2 (hge : ∀ i, i < 4 → ∀ j, j < 5 → (ge (5 * i + j)).toInt = M i j) (hM : ∀ i, i < 4 → ∀ j, j < 5 → (M i j).natAbs ≤ 100) (f : Nat → Int64) : (f_mo_free ge f 2 4).1 = 0 ↔ d2 M 0 1 0 1 = 0 ∧ d2 M 0 1 0 2 = 0 ∧ d2 M 0 1 0 3 = 0 ∧ d2 M 0 1 1 2 = 0 ∧ d2 M 0 1 1 3 = 0 ∧ d2 M 0 1 2 3 = 0 := by
  unfold f_mo_free
  rw [fr_spec (Z := fun T => f_mo_det (fiL ge T 2 4 0 0 (fun _ => 0)) 2 = 0) (fun f S hS hc => by
      rcases st_4_2 S hS hc with rfl | rfl | rfl | rfl | rfl | rfl
      · rw [fv_4_2_3 hge f, fv_4_2_3 hge (fun _ => 0)]
      · rw [fv_4_2_5 hge f, fv_4_2_5 hge (fun _ => 0)]
      · rw [fv_4_2_9 hge f, fv_4_2_9 hge (fun _ => 0)]
      · rw [fv_4_2_6 hge f, fv_4_2_6 hge (fun _ => 0)]
      · rw [fv_4_2_10 hge f, fv_4_2_10 hge (fun _ => 0)]
      · rw [fv_4_2_12 hge f, fv_4_2_12 hge (fun _ => 0)]) (2 ^ 4) 0 f (by decide)]
  constructor
  · intro h
    exact ⟨(ofz (b2 hM (by decide) (by decide) (by decide) (by decide)) (by decide)).mp (by rw [← fv_4_2_3 hge (fun _ => 0)]; exact h 3 (by decide) (by decide) (by decide)), (ofz (b2 hM (by decide) (by decide) (by decide) (by decide)) (by decide)).mp (by rw [← fv_4_2_5 hge (fun _ => 0)]; exact h 5 (by decide) (by decide) (by decide)), (ofz (b2 hM (by decide) (by decide) (by decide) (by decide)) (by decide)).mp (by rw [← fv_4_2_9 hge (fun _ => 0)]; exact h 9 (by decide) (by decide) (by decide)), (ofz (b2 hM (by decide) (by decide) (by decide) (by decide)) (by decide)).mp (by rw [← fv_4_2_6 hge (fun _ => 0)]; exact h 6 (by decide) (by decide) (by decide)), (ofz (b2 hM (by decide) (by decide) (by decide) (by decide)) (by decide)).mp (by rw [← fv_4_2_10 hge (fun _ => 0)]; exact h 10 (by decide) (by decide) (by decide)), (ofz (b2 hM (by decide) (by decide) (by decide) (by decide)) (by decide)).mp (by rw [← fv_4_2_12 hge (fun _ => 0)]; exact h 12 (by decide) (by decide) (by decide))⟩
  · intro h T _ hT hc
    obtain ⟨h0, h1, h2, h3, h4, h5⟩ := h
    have hT2 : T < 2 ^ 4 := by omega
    rcases st_4_2 T hT2 hc with rfl | rfl | rfl | rfl | rfl | rfl
    · rw [fv_4_2_3 hge (fun _ => 0), h0]; rfl
    · rw [fv_4_2_5 hge (fun _ => 0), h1]; rfl
    · rw [fv_4_2_9 hge (fun _ => 0), h2]; rfl
    · rw [fv_4_2_6 hge (fun _ => 0), h3]; rfl
    · rw [fv_4_2_10 hge (fun _ => 0), h4]; rfl
    · rw [fv_4_2_12 hge (fun _ => 0), h5]; rfl
theorem fe_4_3_7 (f : Nat → Int64) : ∀ r, r < 3 → ∀ c, c < 3 → fiL ge 7 3 4 0 0 f (4 * r + c) = (ge (5 * r + (fun c : Nat => if c = 0 then 0 else if c = 1 then 1 else 2) c)).toInt64 := by
  intro r hr c hc
  rcases (show r = 0 ∨ r = 1 ∨ r = 2 by omega) with rfl | rfl | rfl <;> rcases (show c = 0 ∨ c = 1 ∨ c = 2 by omega) with rfl | rfl | rfl <;> rfl
theorem fv_4_3_7 (hge : ∀ i, i < 4 → ∀ j, j < 5 → (ge (5 * i + j)).toInt = M i j) (f : Nat → Int64) : f_mo_det (fiL ge 7 3 4 0 0 f) 3 = Int64.ofInt (d3 M 2 0 1 2) :=
  dv3 (fun c : Nat => if c = 0 then 0 else if c = 1 then 1 else 2) (fun r hr c hc => by rw [fe_4_3_7 f r hr c hc, L_i]; exact hge r (by omega) _ (by rcases (show c = 0 ∨ c = 1 ∨ c = 2 by omega) with rfl | rfl | rfl <;> decide))
theorem fe_4_3_11 (f : Nat → Int64) : ∀ r, r < 3 → ∀ c, c < 3 → fiL ge 11 3 4 0 0 f (4 * r + c) = (ge (5 * r + (fun c : Nat => if c = 0 then 0 else if c = 1 then 1 else 3) c)).toInt64 := by
  intro r hr c hc
  rcases (show r = 0 ∨ r = 1 ∨ r = 2 by omega) with rfl | rfl | rfl <;> rcases (show c = 0 ∨ c = 1 ∨ c = 2 by omega) with rfl | rfl | rfl <;> rfl
theorem fv_4_3_11 (hge : ∀ i, i < 4 → ∀ j, j < 5 → (ge (5 * i + j)).toInt = M i j) (f : Nat → Int64) : f_mo_det (fiL ge 11 3 4 0 0 f) 3 = Int64.ofInt (d3 M 2 0 1 3) :=
  dv3 (fun c : Nat => if c = 0 then 0 else if c = 1 then 1 else 3) (fun r hr c hc => by rw [fe_4_3_11 f r hr c hc, L_i]; exact hge r (by omega) _ (by rcases (show c = 0 ∨ c = 1 ∨ c = 2 by omega) with rfl | rfl | rfl <;> decide))
theorem fe_4_3_13 (f : Nat → Int64) : ∀ r, r < 3 → ∀ c, c < 3 → fiL ge 13 3 4 0 0 f (4 * r + c) = (ge (5 * r + (fun c : Nat => if c = 0 then 0 else if c = 1 then 2 else 3) c)).toInt64 := by
  intro r hr c hc
  rcases (show r = 0 ∨ r = 1 ∨ r = 2 by omega) with rfl | rfl | rfl <;> rcases (show c = 0 ∨ c = 1 ∨ c = 2 by omega) with rfl | rfl | rfl <;> rfl
theorem fv_4_3_13 (hge : ∀ i, i < 4 → ∀ j, j < 5 → (ge (5 * i + j)).toInt = M i j) (f : Nat → Int64) : f_mo_det (fiL ge 13 3 4 0 0 f) 3 = Int64.ofInt (d3 M 2 0 2 3) :=
  dv3 (fun c : Nat => if c = 0 then 0 else if c = 1 then 2 else 3) (fun r hr c hc => by rw [fe_4_3_13 f r hr c hc, L_i]; exact hge r (by omega) _ (by rcases (show c = 0 ∨ c = 1 ∨ c = 2 by omega) with rfl | rfl | rfl <;> decide))
theorem fe_4_3_14 (f : Nat → Int64) : ∀ r, r < 3 → ∀ c, c < 3 → fiL ge 14 3 4 0 0 f (4 * r + c) = (ge (5 * r + (fun c : Nat => if c = 0 then 1 else if c = 1 then 2 else 3) c)).toInt64 := by
  intro r hr c hc
  rcases (show r = 0 ∨ r = 1 ∨ r = 2 by omega) with rfl | rfl | rfl <;> rcases (show c = 0 ∨ c = 1 ∨ c = 2 by omega) with rfl | rfl | rfl <;> rfl
theorem fv_4_3_14 (hge : ∀ i, i < 4 → ∀ j, j < 5 → (ge (5 * i + j)).toInt = M i j) (f : Nat → Int64) : f_mo_det (fiL ge 14 3 4 0 0 f) 3 = Int64.ofInt (d3 M 2 1 2 3) :=
  dv3 (fun c : Nat => if c = 0 then 1 else if c = 1 then 2 else 3) (fun r hr c hc => by rw [fe_4_3_14 f r hr c hc, L_i]; exact hge r (by omega) _ (by rcases (show c = 0 ∨ c = 1 ∨ c = 2 by omega) with rfl | rfl | rfl <;> decide))
theorem st_4_3 : ∀ T, T < 2 ^ 4 → clL T 4 0 0 = 3 → T = 7 ∨ T = 11 ∨ T = 13 ∨ T = 14 := by decide +kernel
theorem free_4_3 (hge : ∀ i, i < 4 → ∀ j, j < 5 → (ge (5 * i + j)).toInt = M i j) (hM : ∀ i, i < 4 → ∀ j, j < 5 → (M i j).natAbs ≤ 100) (f : Nat → Int64) : (f_mo_free ge f 3 4).1 = 0 ↔ d3 M 2 0 1 2 = 0 ∧ d3 M 2 0 1 3 = 0 ∧ d3 M 2 0 2 3 = 0 ∧ d3 M 2 1 2 3 = 0 := by
  unfold f_mo_free
  rw [fr_spec (Z := fun T => f_mo_det (fiL ge T 3 4 0 0 (fun _ => 0)) 3 = 0) (fun f S hS hc => by
      rcases st_4_3 S hS hc with rfl | rfl | rfl | rfl
      · rw [fv_4_3_7 hge f, fv_4_3_7 hge (fun _ => 0)]
      · rw [fv_4_3_11 hge f, fv_4_3_11 hge (fun _ => 0)]
      · rw [fv_4_3_13 hge f, fv_4_3_13 hge (fun _ => 0)]
      · rw [fv_4_3_14 hge f, fv_4_3_14 hge (fun _ => 0)]) (2 ^ 4) 0 f (by decide)]
  constructor
  · intro h
    exact ⟨(ofz (b3 hM (by decide) (by decide) (by decide) (by decide)) (by decide)).mp (by rw [← fv_4_3_7 hge (fun _ => 0)]; exact h 7 (by decide) (by decide) (by decide)), (ofz (b3 hM (by decide) (by decide) (by decide) (by decide)) (by decide)).mp (by rw [← fv_4_3_11 hge (fun _ => 0)]; exact h 11 (by decide) (by decide) (by decide)), (ofz (b3 hM (by decide) (by decide) (by decide) (by decide)) (by decide)).mp (by rw [← fv_4_3_13 hge (fun _ => 0)]; exact h 13 (by decide) (by decide) (by decide)), (ofz (b3 hM (by decide) (by decide) (by decide) (by decide)) (by decide)).mp (by rw [← fv_4_3_14 hge (fun _ => 0)]; exact h 14 (by decide) (by decide) (by decide))⟩
  · intro h T _ hT hc
    obtain ⟨h0, h1, h2, h3⟩ := h
    have hT2 : T < 2 ^ 4 := by omega
    rcases st_4_3 T hT2 hc with rfl | rfl | rfl | rfl
    · rw [fv_4_3_7 hge (fun _ => 0), h0]; rfl
    · rw [fv_4_3_11 hge (fun _ => 0), h1]; rfl
    · rw [fv_4_3_13 hge (fun _ => 0), h2]; rfl
    · rw [fv_4_3_14 hge (fun _ => 0), h3]; rfl
theorem fe_4_4_15 (f : Nat → Int64) : ∀ r, r < 4 → ∀ c, c < 4 → fiL ge 15 4 4 0 0 f (4 * r + c) = (ge (5 * r + (fun c : Nat => if c = 0 then 0 else if c = 1 then 1 else if c = 2 then 2 else 3) c)).toInt64 := by
  intro r hr c hc
  rcases (show r = 0 ∨ r = 1 ∨ r = 2 ∨ r = 3 by omega) with rfl | rfl | rfl | rfl <;> rcases (show c = 0 ∨ c = 1 ∨ c = 2 ∨ c = 3 by omega) with rfl | rfl | rfl | rfl <;> rfl
theorem fv_4_4_15 (hge : ∀ i, i < 4 → ∀ j, j < 5 → (ge (5 * i + j)).toInt = M i j) (f : Nat → Int64) : f_mo_det (fiL ge 15 4 4 0 0 f) 4 = Int64.ofInt (d4 M 0 1 2 3) :=
  dv4 (fun c : Nat => if c = 0 then 0 else if c = 1 then 1 else if c = 2 then 2 else 3) (fun r hr c hc => by rw [fe_4_4_15 f r hr c hc, L_i]; exact hge r (by omega) _ (by rcases (show c = 0 ∨ c = 1 ∨ c = 2 ∨ c = 3 by omega) with rfl | rfl | rfl | rfl <;> decide))
theorem st_4_4 : ∀ T, T < 2 ^ 4 → clL T 4 0 0 = 4 → T = 15 := by decide +kernel
theorem free_4_4 (hge : ∀ i, i < 4 → ∀ j, j < 5 → (ge (5 * i + j)).toInt = M i j) (hM : ∀ i, i < 4 → ∀ j, j < 5 → (M i j).natAbs ≤ 100) (f : Nat → Int64) : (f_mo_free ge f 4 4).1 = 0 ↔ d4 M 0 1 2 3 = 0 := by
  unfold f_mo_free
  rw [fr_spec (Z := fun T => f_mo_det (fiL ge T 4 4 0 0 (fun _ => 0)) 4 = 0) (fun f S hS hc => by
      rcases st_4_4 S hS hc with rfl
      · rw [fv_4_4_15 hge f, fv_4_4_15 hge (fun _ => 0)]) (2 ^ 4) 0 f (by decide)]
  constructor
  · intro h
    exact (ofz (b4 hM (by decide) (by decide) (by decide) (by decide)) (by decide)).mp (by rw [← fv_4_4_15 hge (fun _ => 0)]; exact h 15 (by decide) (by decide) (by decide))
  · intro h T _ hT hc
    have h0 := h
    have hT2 : T < 2 ^ 4 := by omega
    rcases st_4_4 T hT2 hc with rfl
    · rw [fv_4_4_15 hge (fun _ => 0), h0]; rfl
theorem fr1 (hge : ∀ i, i < 4 → ∀ j, j < 5 → (ge (5 * i + j)).toInt = M i j) (hM : ∀ i, i < 4 → ∀ j, j < 5 → (M i j).natAbs ≤ 100) {n : Nat} (hn : n = 1 ∨ n = 2 ∨ n = 3 ∨ n = 4) (f : Nat → Int64) : (f_mo_free ge f 1 n).1 = 0 ↔ ∀ a, a < n → M 0 a = 0 := by
  rcases hn with rfl | rfl | rfl | rfl
  · rw [free_1_1 hge hM f]
    constructor
    · intro h a l0
      have h0 := h
      rcases (show a = 0 by omega) with rfl
      · exact h0
    · intro h
      exact h 0 (by decide)
  · rw [free_2_1 hge hM f]
    constructor
    · intro h a l0
      obtain ⟨h0, h1⟩ := h
      rcases (show a = 0 ∨ a = 1 by omega) with rfl | rfl
      · exact h0
      · exact h1
    · intro h
      exact ⟨h 0 (by decide), h 1 (by decide)⟩
  · rw [free_3_1 hge hM f]
    constructor
    · intro h a l0
      obtain ⟨h0, h1, h2⟩ := h
      rcases (show a = 0 ∨ a = 1 ∨ a = 2 by omega) with rfl | rfl | rfl
      · exact h0
      · exact h1
      · exact h2
    · intro h
      exact ⟨h 0 (by decide), h 1 (by decide), h 2 (by decide)⟩
  · rw [free_4_1 hge hM f]
    constructor
    · intro h a l0
      obtain ⟨h0, h1, h2, h3⟩ := h
      rcases (show a = 0 ∨ a = 1 ∨ a = 2 ∨ a = 3 by omega) with rfl | rfl | rfl | rfl
      · exact h0
      · exact h1
      · exact h2
      · exact h3
    · intro h
      exact ⟨h 0 (by decide), h 1 (by decide), h 2 (by decide), h 3 (by decide)⟩
theorem fr2 (hge : ∀ i, i < 4 → ∀ j, j < 5 → (ge (5 * i + j)).toInt = M i j) (hM : ∀ i, i < 4 → ∀ j, j < 5 → (M i j).natAbs ≤ 100) {n : Nat} (hn : n = 2 ∨ n = 3 ∨ n = 4) (f : Nat → Int64) : (f_mo_free ge f 2 n).1 = 0 ↔ ∀ a b, a < b → b < n → d2 M 0 1 a b = 0 := by
  rcases hn with rfl | rfl | rfl
  · rw [free_2_2 hge hM f]
    constructor
    · intro h a b l0 l1
      have h0 := h
      rcases (show (a = 0 ∧ b = 1) by omega) with ⟨rfl, rfl⟩
      · exact h0
    · intro h
      exact h 0 1 (by decide) (by decide)
  · rw [free_3_2 hge hM f]
    constructor
    · intro h a b l0 l1
      obtain ⟨h0, h1, h2⟩ := h
      rcases (show (a = 0 ∧ b = 1) ∨ (a = 0 ∧ b = 2) ∨ (a = 1 ∧ b = 2) by omega) with ⟨rfl, rfl⟩ | ⟨rfl, rfl⟩ | ⟨rfl, rfl⟩
      · exact h0
      · exact h1
      · exact h2
    · intro h
      exact ⟨h 0 1 (by decide) (by decide), h 0 2 (by decide) (by decide), h 1 2 (by decide) (by decide)⟩
  · rw [free_4_2 hge hM f]
    constructor
    · intro h a b l0 l1
      obtain ⟨h0, h1, h2, h3, h4, h5⟩ := h
      rcases (show (a = 0 ∧ b = 1) ∨ (a = 0 ∧ b = 2) ∨ (a = 0 ∧ b = 3) ∨ (a = 1 ∧ b = 2) ∨ (a = 1 ∧ b = 3) ∨ (a = 2 ∧ b = 3) by omega) with ⟨rfl, rfl⟩ | ⟨rfl, rfl⟩ | ⟨rfl, rfl⟩ | ⟨rfl, rfl⟩ | ⟨rfl, rfl⟩ | ⟨rfl, rfl⟩
      · exact h0
      · exact h1
      · exact h2
      · exact h3
      · exact h4
      · exact h5
    · intro h
      exact ⟨h 0 1 (by decide) (by decide), h 0 2 (by decide) (by decide), h 0 3 (by decide) (by decide), h 1 2 (by decide) (by decide), h 1 3 (by decide) (by decide), h 2 3 (by decide) (by decide)⟩
theorem fr3 (hge : ∀ i, i < 4 → ∀ j, j < 5 → (ge (5 * i + j)).toInt = M i j) (hM : ∀ i, i < 4 → ∀ j, j < 5 → (M i j).natAbs ≤ 100) {n : Nat} (hn : n = 3 ∨ n = 4) (f : Nat → Int64) : (f_mo_free ge f 3 n).1 = 0 ↔ ∀ a b c, a < b → b < c → c < n → d3 M 2 a b c = 0 := by
  rcases hn with rfl | rfl
  · rw [free_3_3 hge hM f]
    constructor
    · intro h a b c l0 l1 l2
      have h0 := h
      rcases (show (a = 0 ∧ b = 1 ∧ c = 2) by omega) with ⟨rfl, rfl, rfl⟩
      · exact h0
    · intro h
      exact h 0 1 2 (by decide) (by decide) (by decide)
  · rw [free_4_3 hge hM f]
    constructor
    · intro h a b c l0 l1 l2
      obtain ⟨h0, h1, h2, h3⟩ := h
      rcases (show (a = 0 ∧ b = 1 ∧ c = 2) ∨ (a = 0 ∧ b = 1 ∧ c = 3) ∨ (a = 0 ∧ b = 2 ∧ c = 3) ∨ (a = 1 ∧ b = 2 ∧ c = 3) by omega) with ⟨rfl, rfl, rfl⟩ | ⟨rfl, rfl, rfl⟩ | ⟨rfl, rfl, rfl⟩ | ⟨rfl, rfl, rfl⟩
      · exact h0
      · exact h1
      · exact h2
      · exact h3
    · intro h
      exact ⟨h 0 1 2 (by decide) (by decide) (by decide), h 0 1 3 (by decide) (by decide) (by decide), h 0 2 3 (by decide) (by decide) (by decide), h 1 2 3 (by decide) (by decide) (by decide)⟩
theorem fr4 (hge : ∀ i, i < 4 → ∀ j, j < 5 → (ge (5 * i + j)).toInt = M i j) (hM : ∀ i, i < 4 → ∀ j, j < 5 → (M i j).natAbs ≤ 100) (f : Nat → Int64) : (f_mo_free ge f 4 4).1 = 0 ↔ d4 M 0 1 2 3 = 0 := free_4_4 hge hM f
theorem le_1 (f : Nat → Int64) : ∀ r, r < 1 → ∀ c, c < 1 → f_mo_load ge f 1 (-1) (4 * r + c) = (ge (5 * r + (fun c : Nat => c) c)).toInt64 := by
  intro r hr c hc
  rcases (show r = 0 by omega) with rfl <;> rcases (show c = 0 by omega) with rfl <;> rfl
theorem lvv_1 (hge : ∀ i, i < 4 → ∀ j, j < 5 → (ge (5 * i + j)).toInt = M i j) (f : Nat → Int64) : f_mo_det (f_mo_load ge f 1 (-1)) 1 = Int64.ofInt (M 0 0) :=
  dv1 (fun c : Nat => c) (fun r hr c hc => by rw [le_1 f r hr c hc, L_i]; exact hge r (by omega) c (by omega))
theorem le_1_0 (f : Nat → Int64) : ∀ r, r < 1 → ∀ c, c < 1 → f_mo_load ge f 1 (nI 0) (4 * r + c) = (ge (5 * r + (fun c : Nat => 4) c)).toInt64 := by
  intro r hr c hc
  rcases (show r = 0 by omega) with rfl <;> rcases (show c = 0 by omega) with rfl <;> rfl
theorem lvv_1_0 (hge : ∀ i, i < 4 → ∀ j, j < 5 → (ge (5 * i + j)).toInt = M i j) (f : Nat → Int64) : f_mo_det (f_mo_load ge f 1 (nI 0)) 1 = Int64.ofInt (M 0 4) :=
  dv1 (fun c : Nat => 4) (fun r hr c hc => by rw [le_1_0 f r hr c hc, L_i]; exact hge r (by omega) _ (by rcases (show c = 0 by omega) with rfl <;> decide))
theorem le_2 (f : Nat → Int64) : ∀ r, r < 2 → ∀ c, c < 2 → f_mo_load ge f 2 (-1) (4 * r + c) = (ge (5 * r + (fun c : Nat => c) c)).toInt64 := by
  intro r hr c hc
  rcases (show r = 0 ∨ r = 1 by omega) with rfl | rfl <;> rcases (show c = 0 ∨ c = 1 by omega) with rfl | rfl <;> rfl
theorem lvv_2 (hge : ∀ i, i < 4 → ∀ j, j < 5 → (ge (5 * i + j)).toInt = M i j) (f : Nat → Int64) : f_mo_det (f_mo_load ge f 2 (-1)) 2 = Int64.ofInt (d2 M 0 1 0 1) :=
  dv2 (fun c : Nat => c) (fun r hr c hc => by rw [le_2 f r hr c hc, L_i]; exact hge r (by omega) c (by omega))
theorem le_2_0 (f : Nat → Int64) : ∀ r, r < 2 → ∀ c, c < 2 → f_mo_load ge f 2 (nI 0) (4 * r + c) = (ge (5 * r + (fun c : Nat => if c = 0 then 4 else 1) c)).toInt64 := by
  intro r hr c hc
  rcases (show r = 0 ∨ r = 1 by omega) with rfl | rfl <;> rcases (show c = 0 ∨ c = 1 by omega) with rfl | rfl <;> rfl
theorem lvv_2_0 (hge : ∀ i, i < 4 → ∀ j, j < 5 → (ge (5 * i + j)).toInt = M i j) (f : Nat → Int64) : f_mo_det (f_mo_load ge f 2 (nI 0)) 2 = Int64.ofInt (d2 M 0 1 4 1) :=
  dv2 (fun c : Nat => if c = 0 then 4 else 1) (fun r hr c hc => by rw [le_2_0 f r hr c hc, L_i]; exact hge r (by omega) _ (by rcases (show c = 0 ∨ c = 1 by omega) with rfl | rfl <;> decide))
theorem le_2_1 (f : Nat → Int64) : ∀ r, r < 2 → ∀ c, c < 2 → f_mo_load ge f 2 (nI 1) (4 * r + c) = (ge (5 * r + (fun c : Nat => if c = 0 then 0 else 4) c)).toInt64 := by
  intro r hr c hc
  rcases (show r = 0 ∨ r = 1 by omega) with rfl | rfl <;> rcases (show c = 0 ∨ c = 1 by omega) with rfl | rfl <;> rfl
theorem lvv_2_1 (hge : ∀ i, i < 4 → ∀ j, j < 5 → (ge (5 * i + j)).toInt = M i j) (f : Nat → Int64) : f_mo_det (f_mo_load ge f 2 (nI 1)) 2 = Int64.ofInt (d2 M 0 1 0 4) :=
  dv2 (fun c : Nat => if c = 0 then 0 else 4) (fun r hr c hc => by rw [le_2_1 f r hr c hc, L_i]; exact hge r (by omega) _ (by rcases (show c = 0 ∨ c = 1 by omega) with rfl | rfl <;> decide))
theorem le_3 (f : Nat → Int64) : ∀ r, r < 3 → ∀ c, c < 3 → f_mo_load ge f 3 (-1) (4 * r + c) = (ge (5 * r + (fun c : Nat => c) c)).toInt64 := by
  intro r hr c hc
  rcases (show r = 0 ∨ r = 1 ∨ r = 2 by omega) with rfl | rfl | rfl <;> rcases (show c = 0 ∨ c = 1 ∨ c = 2 by omega) with rfl | rfl | rfl <;> rfl
theorem lvv_3 (hge : ∀ i, i < 4 → ∀ j, j < 5 → (ge (5 * i + j)).toInt = M i j) (f : Nat → Int64) : f_mo_det (f_mo_load ge f 3 (-1)) 3 = Int64.ofInt (d3 M 2 0 1 2) :=
  dv3 (fun c : Nat => c) (fun r hr c hc => by rw [le_3 f r hr c hc, L_i]; exact hge r (by omega) c (by omega))
theorem le_3_0 (f : Nat → Int64) : ∀ r, r < 3 → ∀ c, c < 3 → f_mo_load ge f 3 (nI 0) (4 * r + c) = (ge (5 * r + (fun c : Nat => if c = 0 then 4 else if c = 1 then 1 else 2) c)).toInt64 := by
  intro r hr c hc
  rcases (show r = 0 ∨ r = 1 ∨ r = 2 by omega) with rfl | rfl | rfl <;> rcases (show c = 0 ∨ c = 1 ∨ c = 2 by omega) with rfl | rfl | rfl <;> rfl
theorem lvv_3_0 (hge : ∀ i, i < 4 → ∀ j, j < 5 → (ge (5 * i + j)).toInt = M i j) (f : Nat → Int64) : f_mo_det (f_mo_load ge f 3 (nI 0)) 3 = Int64.ofInt (d3 M 2 4 1 2) :=
  dv3 (fun c : Nat => if c = 0 then 4 else if c = 1 then 1 else 2) (fun r hr c hc => by rw [le_3_0 f r hr c hc, L_i]; exact hge r (by omega) _ (by rcases (show c = 0 ∨ c = 1 ∨ c = 2 by omega) with rfl | rfl | rfl <;> decide))
theorem le_3_1 (f : Nat → Int64) : ∀ r, r < 3 → ∀ c, c < 3 → f_mo_load ge f 3 (nI 1) (4 * r + c) = (ge (5 * r + (fun c : Nat => if c = 0 then 0 else if c = 1 then 4 else 2) c)).toInt64 := by
  intro r hr c hc
  rcases (show r = 0 ∨ r = 1 ∨ r = 2 by omega) with rfl | rfl | rfl <;> rcases (show c = 0 ∨ c = 1 ∨ c = 2 by omega) with rfl | rfl | rfl <;> rfl
theorem lvv_3_1 (hge : ∀ i, i < 4 → ∀ j, j < 5 → (ge (5 * i + j)).toInt = M i j) (f : Nat → Int64) : f_mo_det (f_mo_load ge f 3 (nI 1)) 3 = Int64.ofInt (d3 M 2 0 4 2) :=
  dv3 (fun c : Nat => if c = 0 then 0 else if c = 1 then 4 else 2) (fun r hr c hc => by rw [le_3_1 f r hr c hc, L_i]; exact hge r (by omega) _ (by rcases (show c = 0 ∨ c = 1 ∨ c = 2 by omega) with rfl | rfl | rfl <;> decide))
theorem le_3_2 (f : Nat → Int64) : ∀ r, r < 3 → ∀ c, c < 3 → f_mo_load ge f 3 (nI 2) (4 * r + c) = (ge (5 * r + (fun c : Nat => if c = 0 then 0 else if c = 1 then 1 else 4) c)).toInt64 := by
  intro r hr c hc
  rcases (show r = 0 ∨ r = 1 ∨ r = 2 by omega) with rfl | rfl | rfl <;> rcases (show c = 0 ∨ c = 1 ∨ c = 2 by omega) with rfl | rfl | rfl <;> rfl
theorem lvv_3_2 (hge : ∀ i, i < 4 → ∀ j, j < 5 → (ge (5 * i + j)).toInt = M i j) (f : Nat → Int64) : f_mo_det (f_mo_load ge f 3 (nI 2)) 3 = Int64.ofInt (d3 M 2 0 1 4) :=
  dv3 (fun c : Nat => if c = 0 then 0 else if c = 1 then 1 else 4) (fun r hr c hc => by rw [le_3_2 f r hr c hc, L_i]; exact hge r (by omega) _ (by rcases (show c = 0 ∨ c = 1 ∨ c = 2 by omega) with rfl | rfl | rfl <;> decide))
theorem le_4 (f : Nat → Int64) : ∀ r, r < 4 → ∀ c, c < 4 → f_mo_load ge f 4 (-1) (4 * r + c) = (ge (5 * r + (fun c : Nat => c) c)).toInt64 := by
  intro r hr c hc
  rcases (show r = 0 ∨ r = 1 ∨ r = 2 ∨ r = 3 by omega) with rfl | rfl | rfl | rfl <;> rcases (show c = 0 ∨ c = 1 ∨ c = 2 ∨ c = 3 by omega) with rfl | rfl | rfl | rfl <;> rfl
theorem lvv_4 (hge : ∀ i, i < 4 → ∀ j, j < 5 → (ge (5 * i + j)).toInt = M i j) (f : Nat → Int64) : f_mo_det (f_mo_load ge f 4 (-1)) 4 = Int64.ofInt (d4 M 0 1 2 3) :=
  dv4 (fun c : Nat => c) (fun r hr c hc => by rw [le_4 f r hr c hc, L_i]; exact hge r (by omega) c (by omega))
theorem le_4_0 (f : Nat → Int64) : ∀ r, r < 4 → ∀ c, c < 4 → f_mo_load ge f 4 (nI 0) (4 * r + c) = (ge (5 * r + (fun c : Nat => if c = 0 then 4 else if c = 1 then 1 else if c = 2 then 2 else 3) c)).toInt64 := by
  intro r hr c hc
  rcases (show r = 0 ∨ r = 1 ∨ r = 2 ∨ r = 3 by omega) with rfl | rfl | rfl | rfl <;> rcases (show c = 0 ∨ c = 1 ∨ c = 2 ∨ c = 3 by omega) with rfl | rfl | rfl | rfl <;> rfl
theorem lvv_4_0 (hge : ∀ i, i < 4 → ∀ j, j < 5 → (ge (5 * i + j)).toInt = M i j) (f : Nat → Int64) : f_mo_det (f_mo_load ge f 4 (nI 0)) 4 = Int64.ofInt (d4 M 4 1 2 3) :=
  dv4 (fun c : Nat => if c = 0 then 4 else if c = 1 then 1 else if c = 2 then 2 else 3) (fun r hr c hc => by rw [le_4_0 f r hr c hc, L_i]; exact hge r (by omega) _ (by rcases (show c = 0 ∨ c = 1 ∨ c = 2 ∨ c = 3 by omega) with rfl | rfl | rfl | rfl <;> decide))
theorem le_4_1 (f : Nat → Int64) : ∀ r, r < 4 → ∀ c, c < 4 → f_mo_load ge f 4 (nI 1) (4 * r + c) = (ge (5 * r + (fun c : Nat => if c = 0 then 0 else if c = 1 then 4 else if c = 2 then 2 else 3) c)).toInt64 := by
  intro r hr c hc
  rcases (show r = 0 ∨ r = 1 ∨ r = 2 ∨ r = 3 by omega) with rfl | rfl | rfl | rfl <;> rcases (show c = 0 ∨ c = 1 ∨ c = 2 ∨ c = 3 by omega) with rfl | rfl | rfl | rfl <;> rfl
theorem lvv_4_1 (hge : ∀ i, i < 4 → ∀ j, j < 5 → (ge (5 * i + j)).toInt = M i j) (f : Nat → Int64) : f_mo_det (f_mo_load ge f 4 (nI 1)) 4 = Int64.ofInt (d4 M 0 4 2 3) :=
  dv4 (fun c : Nat => if c = 0 then 0 else if c = 1 then 4 else if c = 2 then 2 else 3) (fun r hr c hc => by rw [le_4_1 f r hr c hc, L_i]; exact hge r (by omega) _ (by rcases (show c = 0 ∨ c = 1 ∨ c = 2 ∨ c = 3 by omega) with rfl | rfl | rfl | rfl <;> decide))
theorem le_4_2 (f : Nat → Int64) : ∀ r, r < 4 → ∀ c, c < 4 → f_mo_load ge f 4 (nI 2) (4 * r + c) = (ge (5 * r + (fun c : Nat => if c = 0 then 0 else if c = 1 then 1 else if c = 2 then 4 else 3) c)).toInt64 := by
  intro r hr c hc
  rcases (show r = 0 ∨ r = 1 ∨ r = 2 ∨ r = 3 by omega) with rfl | rfl | rfl | rfl <;> rcases (show c = 0 ∨ c = 1 ∨ c = 2 ∨ c = 3 by omega) with rfl | rfl | rfl | rfl <;> rfl
theorem lvv_4_2 (hge : ∀ i, i < 4 → ∀ j, j < 5 → (ge (5 * i + j)).toInt = M i j) (f : Nat → Int64) : f_mo_det (f_mo_load ge f 4 (nI 2)) 4 = Int64.ofInt (d4 M 0 1 4 3) :=
  dv4 (fun c : Nat => if c = 0 then 0 else if c = 1 then 1 else if c = 2 then 4 else 3) (fun r hr c hc => by rw [le_4_2 f r hr c hc, L_i]; exact hge r (by omega) _ (by rcases (show c = 0 ∨ c = 1 ∨ c = 2 ∨ c = 3 by omega) with rfl | rfl | rfl | rfl <;> decide))
theorem le_4_3 (f : Nat → Int64) : ∀ r, r < 4 → ∀ c, c < 4 → f_mo_load ge f 4 (nI 3) (4 * r + c) = (ge (5 * r + (fun c : Nat => if c = 0 then 0 else if c = 1 then 1 else if c = 2 then 2 else 4) c)).toInt64 := by
  intro r hr c hc
  rcases (show r = 0 ∨ r = 1 ∨ r = 2 ∨ r = 3 by omega) with rfl | rfl | rfl | rfl <;> rcases (show c = 0 ∨ c = 1 ∨ c = 2 ∨ c = 3 by omega) with rfl | rfl | rfl | rfl <;> rfl
theorem lvv_4_3 (hge : ∀ i, i < 4 → ∀ j, j < 5 → (ge (5 * i + j)).toInt = M i j) (f : Nat → Int64) : f_mo_det (f_mo_load ge f 4 (nI 3)) 4 = Int64.ofInt (d4 M 0 1 2 4) :=
  dv4 (fun c : Nat => if c = 0 then 0 else if c = 1 then 1 else if c = 2 then 2 else 4) (fun r hr c hc => by rw [le_4_3 f r hr c hc, L_i]; exact hge r (by omega) _ (by rcases (show c = 0 ∨ c = 1 ∨ c = 2 ∨ c = 3 by omega) with rfl | rfl | rfl | rfl <;> decide))
end FRS

