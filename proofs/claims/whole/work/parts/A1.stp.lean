theorem stM_p {σ0 σ Wm S : zv_H} {b c x y : Int} (h : stM σ0 σ b 1 Wm (zup S 2 c y)) (hc : 0 ≤ c ∧ c < 7) (hn : Wm 0 1 ≤ 7) : stM σ0 (zup σ 317 (7 + c) x) b 1 Wm (zup S 2 c x) := by
  have q := stM_c (f := 2) (i := c) (x := x) h (by omega) hc hn
  rw [zup_zup, show 7 * (1 : Int) + c = 7 + c by omega] at q
  exact q
