/-! RAILS join told COUNTIES only -/
def rlA (A : zv_H) : Prop := ∀ f t : Int, 0 ≤ f → f < 7 → 0 ≤ t → t < 7 → (A 0 1 ≤ f ∨ A 0 1 ≤ t) → A 12 (f * 7 + t) = 0
theorem rlA_c {T : Int → Int} {A : zv_H} {p : Int} {x : Int × zv_H} (h : rlA A) (hx : ctyF T A p = Sum.inl x) : rlA x.2 := by
  obtain ⟨y0_q, b0_q, hx⟩ := bnd_e hx
  obtain ⟨y1_q, b1_q, hx⟩ := bnd_e hx
  obtain ⟨y2_q, b2_q, hx⟩ := bnd_e hx
  obtain ⟨y3_q, b3_q, hx⟩ := bnd_e hx
  obtain ⟨y4_q, b4_q, hx⟩ := bnd_e hx
  obtain ⟨y5_q, b5_q, hx⟩ := bnd_e hx
  obtain ⟨y6_q, b6_q, hx⟩ := bnd_e hx
  rw [← Sum.inl.inj hx]
  intro f t f0_q f7_q t0_q t7_q q
  dsimp only at q ⊢
  rw [zup_s] at q
  rw [zup_n (by omega), zup_n (by omega), zup_n (by omega), zup_n (by omega), zup_n (by omega)]
  exact h f t f0_q f7_q t0_q t7_q (by omega)
theorem rlA_m {T : Int → Int} {A : zv_H} {p : Int} {x : Int × zv_H} (h : rlA A) (hx : mnnF T A p = Sum.inl x) : rlA x.2 := by
  obtain ⟨y0_q, b0_q, hx⟩ := bnd_e hx
  obtain ⟨y1_q, b1_q, hx⟩ := bnd_e hx
  obtain ⟨y2_q, b2_q, hx⟩ := bnd_e hx
  obtain ⟨y3_q, b3_q, hx⟩ := bnd_e hx
  obtain ⟨y4_q, b4_q, hx⟩ := bnd_e hx
  rw [← Sum.inl.inj hx]
  intro f t f0_q f7_q t0_q t7_q q
  dsimp only at q ⊢
  rw [zup_n (by omega), zup_n (by omega), zup_n (by omega), zup_n (by omega)] at q
  rw [zup_n (by omega), zup_n (by omega), zup_n (by omega), zup_n (by omega)]
  exact h f t f0_q f7_q t0_q t7_q (by omega)
theorem rlA_p {T : Int → Int} {A : zv_H} {p : Int} {x : Int × zv_H} (h : rlA A) (hx : pstF T A p = Sum.inl x) : rlA x.2 := by
  obtain ⟨y0_q, b0_q, hx⟩ := bnd_e hx
  rw [← Sum.inl.inj hx]
  intro f t f0_q f7_q t0_q t7_q q
  dsimp only at q ⊢
  rw [zup_n (by omega)] at q
  rw [zup_n (by omega)]
  exact h f t f0_q f7_q t0_q t7_q (by omega)
theorem rlA_r {T : Int → Int} {A : zv_H} {p : Int} {x : Int × zv_H} (hA : AI T A) (h : rlA A) (hx : ralF T A p = Sum.inl x) : rlA x.2 := by
  obtain ⟨y0_q, b0_q, hx⟩ := bnd_e hx
  obtain ⟨y1_q, b1_q, hx⟩ := bnd_e hx
  obtain ⟨y2_q, b2_q, hx⟩ := bnd_e hx
  obtain ⟨y3_q, b3_q, hx⟩ := bnd_e hx
  obtain ⟨y4_q, b4_q, hx⟩ := bnd_e hx
  have a1_q := hA.2.1
  have c0_q := tkCty_b b0_q
  have c2_q := tkCty_b b2_q
  have r : ∀ q, 0 ≤ cyI T A q + 1 ∧ cyI T A q < A 0 1 ∨ cyI T A q = -1 := fun q => by
    have e := ixF_b (f := fun i => tNm T (A 1 i)) (v := tNm T q) (A 0 1).toNat 0 (by omega)
    rw [show ixF (fun i => tNm T (A 1 i)) (tNm T q) (A 0 1).toNat 0 = cyI T A q from rfl] at e
    omega
  have r0_q := r p
  have r2_q := r y1_q
  rw [← Sum.inl.inj hx]
  intro f t f0_q f7_q t0_q t7_q q
  dsimp only at q ⊢
  rw [zup_n (by omega), zup_n (by omega), zup_n (by omega)] at q
  have z := h f t f0_q f7_q t0_q t7_q (by omega)
  rw [zup_n (by omega), zup_n (by omega), zup_n (by omega)]
  exact z
theorem rlA_0 {A : zv_H} {v : Int} (h : rlA A) : rlA (zup A 0 0 v) := fun f t f0_q f7_q t0_q t7_q q => by
  rw [zup_n (by omega)] at q
  rw [zup_n (by omega)]
  exact h f t f0_q f7_q t0_q t7_q q
