theorem vw_stt {σ Wm S : zv_H} {w : Int} (hw : w ∈ wrL) (hW : vw 12 σ w = Wm) (hS : vw 10 σ 41 = S) (hZ : SZ S) : vw 10 (zstt σ 41 w) 41 = sttF Wm S := by
  have hf := wr_far hw
  have e : ∀ f i, 1 ≤ f → f ≤ 12 → σ (w + f) i = Wm f i := fun f i h1 h2 => by rw [← hW, vw_f ⟨h1, h2⟩]
  have es : ∀ f i, 1 ≤ f → f ≤ 10 → σ (41 + f) i = S f i := fun f i h1 h2 => by rw [← hS, vw_f ⟨h1, h2⟩]
  have e0 : ∀ i, σ 41 i = S 0 i := fun i => by rw [← hS, vw_0]
  have z0 : ∀ i, ¬ (i = 0 ∨ i = 11 ∨ i = 12) → S 0 i = 0 := fun i h => hZ 0 i (by unfold inS; omega)
  have zf : ∀ f i, 1 ≤ f → f ≤ 10 → ¬ (0 ≤ i ∧ i < lnS f) → S f i = 0 := fun f i h1 h2 h => hZ f i (by rw [inS_f ⟨h1, h2⟩]; exact h)
  refine funext (fun f => funext (fun i => ?_))
  by_cases h0 : f = 0
  · rw [h0, vw_0]
    unfold zstt sttF
    rw [if_neg (by omega), if_neg (by omega), if_neg (by omega), if_neg (by omega)]
    by_cases h12 : i = 12
    · rw [h12, zup_s]
    · rw [zup_n (by omega)]
      by_cases h11 : i = 11
      · rw [h11, zup_s]
      · rw [zup_n (by omega), zfil_n (by omega), zfil_n (by omega), zfil_n (by omega), zfil_n (by omega), zfil_n (by omega), zcpy_n (by omega), zcpy_n (by omega), zcpy_n (by omega), zcpy_n (by omega)]
        by_cases h00 : i = 0
        · rw [h00, zup_s]
        · rw [zup_n (by omega), e0]; exact z0 i (by omega)
  · by_cases hf1 : 1 ≤ f ∧ f ≤ 10
    · rw [vw_f hf1]
      revert i
      refine f10 (P := fun f => ∀ i, zstt σ 41 w (41 + f) i = sttF Wm S f i) hf1 ?_ ?_ ?_ ?_ ?_ ?_ ?_ ?_ ?_ ?_
      · intro i
        unfold zstt
        rw [zup_n (by omega), zup_n (by omega)]
        rw [zfil_n (by omega)]
        rw [zfil_n (by omega)]
        rw [zfil_n (by omega)]
        rw [zfil_n (by omega)]
        rw [zfil_n (by omega)]
        rw [zcpy_n (by omega)]
        rw [zcpy_n (by omega)]
        rw [zcpy_n (by omega)]
        rw [zcpy_h]
        by_cases hi : 0 ≤ i ∧ i < 7
        · rw [if_pos hi, zup_n (by omega), e _ _ (by omega) (by omega)]
          unfold sttF
          rw [if_pos (by omega)]
          rfl
        · rw [if_neg hi, zup_n (by omega), es _ _ (by omega) (by omega), zf _ _ (by omega) (by omega) (by unfold lnS; simp; omega)]
          unfold sttF
          rw [if_neg (by omega), if_neg (by omega), if_neg (by omega), if_neg (by omega)]
      · intro i
        unfold zstt
        rw [zup_n (by omega), zup_n (by omega)]
        rw [zfil_n (by omega)]
        rw [zfil_n (by omega)]
        rw [zfil_n (by omega)]
        rw [zfil_n (by omega)]
        rw [zfil_n (by omega)]
        rw [zcpy_n (by omega)]
        rw [zcpy_n (by omega)]
        rw [zcpy_h]
        by_cases hi : 0 ≤ i ∧ i < 7
        · rw [if_pos hi, zcpy_n (by omega), zup_n (by omega), e _ _ (by omega) (by omega)]
          unfold sttF
          rw [if_pos (by omega)]
          rfl
        · rw [if_neg hi, zcpy_n (by omega), zup_n (by omega), es _ _ (by omega) (by omega), zf _ _ (by omega) (by omega) (by unfold lnS; simp; omega)]
          unfold sttF
          rw [if_neg (by omega), if_neg (by omega), if_neg (by omega), if_neg (by omega)]
      · intro i
        unfold zstt
        rw [zup_n (by omega), zup_n (by omega)]
        rw [zfil_n (by omega)]
        rw [zfil_n (by omega)]
        rw [zfil_n (by omega)]
        rw [zfil_n (by omega)]
        rw [zfil_n (by omega)]
        rw [zcpy_n (by omega)]
        rw [zcpy_h]
        by_cases hi : 0 ≤ i ∧ i < 7
        · rw [if_pos hi, zcpy_n (by omega), zcpy_n (by omega), zup_n (by omega), e _ _ (by omega) (by omega)]
          unfold sttF
          rw [if_pos (by omega)]
          rfl
        · rw [if_neg hi, zcpy_n (by omega), zcpy_n (by omega), zup_n (by omega), es _ _ (by omega) (by omega), zf _ _ (by omega) (by omega) (by unfold lnS; simp; omega)]
          unfold sttF
          rw [if_neg (by omega), if_neg (by omega), if_neg (by omega), if_neg (by omega)]
      · intro i
        unfold zstt
        rw [zup_n (by omega), zup_n (by omega)]
        rw [zfil_n (by omega)]
        rw [zfil_n (by omega)]
        rw [zfil_n (by omega)]
        rw [zfil_n (by omega)]
        rw [zfil_n (by omega)]
        rw [zcpy_h]
        by_cases hi : 0 ≤ i ∧ i < 6
        · rw [if_pos hi, zcpy_n (by omega), zcpy_n (by omega), zcpy_n (by omega), zup_n (by omega), e _ _ (by omega) (by omega)]
          unfold sttF
          rw [if_neg (by omega), if_pos (by omega)]
        · rw [if_neg hi, zcpy_n (by omega), zcpy_n (by omega), zcpy_n (by omega), zup_n (by omega), es _ _ (by omega) (by omega), zf _ _ (by omega) (by omega) (by unfold lnS; simp; omega)]
          unfold sttF
          rw [if_neg (by omega), if_neg (by omega), if_neg (by omega), if_neg (by omega)]
      · intro i
        unfold zstt
        rw [zup_n (by omega), zup_n (by omega)]
        rw [zfil_n (by omega)]
        rw [zfil_n (by omega)]
        rw [zfil_n (by omega)]
        rw [zfil_n (by omega)]
        by_cases hi : 0 ≤ i ∧ i < 6
        · rw [show zfil _ (41 + 5) 6 0 (41 + 5) i = 0 from if_pos ⟨rfl, hi⟩]
          unfold sttF
          rw [if_neg (by omega), if_neg (by omega), if_neg (by omega), if_neg (by omega)]
        · rw [show ∀ τ : zv_H, zfil τ (41 + 5) 6 0 (41 + 5) i = τ (41 + 5) i from fun τ => if_neg (fun q => hi q.2)]
          rw [zcpy_n (by omega), zcpy_n (by omega), zcpy_n (by omega), zcpy_n (by omega), zup_n (by omega), es _ _ (by omega) (by omega), zf _ _ (by omega) (by omega) (by unfold lnS; simp; omega)]
          unfold sttF
          rw [if_neg (by omega), if_neg (by omega), if_neg (by omega), if_neg (by omega)]
      · intro i
        unfold zstt
        rw [zup_n (by omega), zup_n (by omega)]
        rw [zfil_n (by omega)]
        rw [zfil_n (by omega)]
        rw [zfil_n (by omega)]
        by_cases hi : 0 ≤ i ∧ i < 6
        · rw [show zfil _ (41 + 6) 6 0 (41 + 6) i = 0 from if_pos ⟨rfl, hi⟩]
          unfold sttF
          rw [if_neg (by omega), if_neg (by omega), if_neg (by omega), if_neg (by omega)]
        · rw [show ∀ τ : zv_H, zfil τ (41 + 6) 6 0 (41 + 6) i = τ (41 + 6) i from fun τ => if_neg (fun q => hi q.2)]
          rw [zfil_n (by omega), zcpy_n (by omega), zcpy_n (by omega), zcpy_n (by omega), zcpy_n (by omega), zup_n (by omega), es _ _ (by omega) (by omega), zf _ _ (by omega) (by omega) (by unfold lnS; simp; omega)]
          unfold sttF
          rw [if_neg (by omega), if_neg (by omega), if_neg (by omega), if_neg (by omega)]
      · intro i
        unfold zstt
        rw [zup_n (by omega), zup_n (by omega)]
        rw [zfil_n (by omega)]
        rw [zfil_n (by omega)]
        by_cases hi : 0 ≤ i ∧ i < 6
        · rw [show zfil _ (41 + 7) 6 0 (41 + 7) i = 0 from if_pos ⟨rfl, hi⟩]
          unfold sttF
          rw [if_neg (by omega), if_neg (by omega), if_neg (by omega), if_neg (by omega)]
        · rw [show ∀ τ : zv_H, zfil τ (41 + 7) 6 0 (41 + 7) i = τ (41 + 7) i from fun τ => if_neg (fun q => hi q.2)]
          rw [zfil_n (by omega), zfil_n (by omega), zcpy_n (by omega), zcpy_n (by omega), zcpy_n (by omega), zcpy_n (by omega), zup_n (by omega), es _ _ (by omega) (by omega), zf _ _ (by omega) (by omega) (by unfold lnS; simp; omega)]
          unfold sttF
          rw [if_neg (by omega), if_neg (by omega), if_neg (by omega), if_neg (by omega)]
      · intro i
        unfold zstt
        rw [zup_n (by omega), zup_n (by omega)]
        rw [zfil_n (by omega)]
        by_cases hi : 0 ≤ i ∧ i < 6
        · rw [show zfil _ (41 + 8) 6 0 (41 + 8) i = 0 from if_pos ⟨rfl, hi⟩]
          unfold sttF
          rw [if_neg (by omega), if_neg (by omega), if_neg (by omega), if_neg (by omega)]
        · rw [show ∀ τ : zv_H, zfil τ (41 + 8) 6 0 (41 + 8) i = τ (41 + 8) i from fun τ => if_neg (fun q => hi q.2)]
          rw [zfil_n (by omega), zfil_n (by omega), zfil_n (by omega), zcpy_n (by omega), zcpy_n (by omega), zcpy_n (by omega), zcpy_n (by omega), zup_n (by omega), es _ _ (by omega) (by omega), zf _ _ (by omega) (by omega) (by unfold lnS; simp; omega)]
          unfold sttF
          rw [if_neg (by omega), if_neg (by omega), if_neg (by omega), if_neg (by omega)]
      · intro i
        unfold zstt
        rw [zup_n (by omega), zup_n (by omega)]
        by_cases hi : 0 ≤ i ∧ i < 42
        · rw [show zfil _ (41 + 9) 42 1000000 (41 + 9) i = 1000000 from if_pos ⟨rfl, hi⟩]
          unfold sttF
          rw [if_neg (by omega), if_neg (by omega), if_pos (by omega)]
        · rw [show ∀ τ : zv_H, zfil τ (41 + 9) 42 1000000 (41 + 9) i = τ (41 + 9) i from fun τ => if_neg (fun q => hi q.2)]
          rw [zfil_n (by omega), zfil_n (by omega), zfil_n (by omega), zfil_n (by omega), zcpy_n (by omega), zcpy_n (by omega), zcpy_n (by omega), zcpy_n (by omega), zup_n (by omega), es _ _ (by omega) (by omega), zf _ _ (by omega) (by omega) (by unfold lnS; simp; omega)]
          unfold sttF
          rw [if_neg (by omega), if_neg (by omega), if_neg (by omega), if_neg (by omega)]
      · intro i
        unfold zstt
        rw [zup_n (by omega), zup_n (by omega)]
        rw [zfil_n (by omega)]
        rw [zfil_n (by omega)]
        rw [zfil_n (by omega)]
        rw [zfil_n (by omega)]
        rw [zfil_n (by omega)]
        rw [zcpy_n (by omega)]
        rw [zcpy_n (by omega)]
        rw [zcpy_n (by omega)]
        rw [zcpy_n (by omega)]
        rw [zup_n (by omega), es _ _ (by omega) (by omega)]
        unfold sttF
        rw [if_neg (by omega), if_neg (by omega), if_neg (by omega), if_pos rfl]
    · unfold vw
      rw [if_neg h0, if_neg hf1]
      unfold sttF
      rw [if_neg (by omega), if_neg (by omega), if_neg (by omega), if_neg (by omega)]
theorem zstt_o {σ : zv_H} {a w x : Int} (h : ¬ (a ≤ x ∧ x ≤ a + 9)) (k : Int) : zstt σ a w x k = σ x k := by
  unfold zstt
  rw [zup_n (by omega), zup_n (by omega), zfil_n (by omega), zfil_n (by omega), zfil_n (by omega), zfil_n (by omega), zfil_n (by omega), zcpy_n (by omega), zcpy_n (by omega), zcpy_n (by omega), zcpy_n (by omega), zup_n (by omega)]
