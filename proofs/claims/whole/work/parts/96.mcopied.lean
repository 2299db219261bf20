theorem cpd_rM {σ σ' S : zv_H} {t f nc nm : Int} (h : cpd σ σ' t f 7 6 42) (h7 : σ' 325 t = σ 325 f) (h8 : ∀ k, 0 ≤ k → k < 4 * σ 325 f → σ' 326 (240 * t + k) = σ 326 (240 * f + k)) (hr : rM σ nc nm f S) (hnc : nc ≤ 7) (hnm : nm ≤ 6) : rM σ' nc nm t S := by
  obtain ⟨⟨p1, p2⟩, p3, p4, p5, p6⟩ := hr
  obtain ⟨_, h2, h3, h4, h5⟩ := h
  refine ⟨⟨by rw [h2]; exact p1, by rw [h7]; exact p2⟩, fun c q1 q2 => ?_, fun m q1 q2 => ?_, fun m c q1 q2 q3 q4 => ?_, fun k q1 q2 => ?_⟩
  · have p := p3 c q1 q2
    exact ⟨(h3 1 c (by omega) (by omega) q1 (by omega)).trans p.1, (h3 2 c (by omega) (by omega) q1 (by omega)).trans p.2.1, (h3 3 c (by omega) (by omega) q1 (by omega)).trans p.2.2⟩
  · have p := p4 m q1 q2
    exact ⟨(h4 4 m (by omega) (by omega) q1 (by omega)).trans p.1, (h4 5 m (by omega) (by omega) q1 (by omega)).trans p.2.1, (h4 6 m (by omega) (by omega) q1 (by omega)).trans p.2.2.1, (h4 7 m (by omega) (by omega) q1 (by omega)).trans p.2.2.2.1, (h4 8 m (by omega) (by omega) q1 (by omega)).trans p.2.2.2.2⟩
  · have p := p5 m c q1 q2 q3 q4
    have r := h5 (7 * m + c) (by omega) (by omega)
    rw [show 42 * t + 7 * m + c = 42 * t + (7 * m + c) by omega, r, show 42 * f + (7 * m + c) = 42 * f + 7 * m + c by omega]
    exact p
  · have p := p6 k q1 q2
    have r0 := h8 (4 * k) (by omega) (by omega)
    have r1 := h8 (4 * k + 1) (by omega) (by omega)
    have r2 := h8 (4 * k + 2) (by omega) (by omega)
    have r3 := h8 (4 * k + 3) (by omega) (by omega)
    rw [show 240 * t + 4 * k + 1 = 240 * t + (4 * k + 1) by omega, show 240 * t + 4 * k + 2 = 240 * t + (4 * k + 2) by omega, show 240 * t + 4 * k + 3 = 240 * t + (4 * k + 3) by omega, r0, r1, r2, r3, show 240 * f + (4 * k + 1) = 240 * f + 4 * k + 1 by omega, show 240 * f + (4 * k + 2) = 240 * f + 4 * k + 2 by omega, show 240 * f + (4 * k + 3) = 240 * f + 4 * k + 3 by omega]
    exact p
