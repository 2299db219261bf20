/-! CALL BY CALL: class and model answer alike and stay alike -/
theorem gc_fault {Γ : zv_M} {L : Int} {c : Int → Int} {σ : zv_H} {t : Int} (hG : GI c σ) : zC Γ m_NT_fault 0 0 0 (GM L) [zR 1, zI t] σ (zPI (GM L) (gQ Γ L c m_M_fault 0 [zR 289, zI t] σ)) := by
  obtain ⟨w, u, b, q, Wm, S, l, h⟩ := hG
  obtain ⟨h0_q, hn, hv, hi, hz, ac, tp, ow, fl, sd, sn, im, rf, mo⟩ := id h
  exact g_ask ⟨w, u, b, q, Wm, S, l, h⟩ (c_NT_fault ) (c_M_fault ) (by rw [fl.1, fl.2])
theorem gc_has {Γ : zv_M} {L : Int} {c : Int → Int} {σ : zv_H} {t : Int} (hG : GI c σ) : zC Γ m_NT_has 3 0 0 (GM L) [zR 1, zI t] σ (zPI (GM L) (gQ Γ L c m_M_has 3 [zR 289, zI t] σ)) := by
  obtain ⟨w, u, b, q, Wm, S, l, h⟩ := hG
  obtain ⟨h0_q, hn, hv, hi, hz, ac, tp, ow, fl, sd, sn, im, rf, mo⟩ := id h
  exact g_ask ⟨w, u, b, q, Wm, S, l, h⟩ (c_NT_has hn.2.1 (gN_w hn.1).1 hv.1 hv.2 hi.1 hi.2.1) (c_M_has mo.1 mo.2.1 hi.1 hi.2.1 (by rw [sd.1]; exact sd.2)) (by rw [sn.1, mo.2.2.1.1, sd.1, ac.2.2.1.1])
theorem gc_letter {Γ : zv_M} {L : Int} {c : Int → Int} {σ : zv_H} {t c0_q k : Int} (hG : GI c σ) : zC Γ m_NT_letter 3 0 0 (GM L) [zR 1, zI t, zI c0_q, zI k] σ (zPI (GM L) (gQ Γ L c m_M_letter 2 [zR 289, zI t, zI c0_q, zI k] σ)) := by
  obtain ⟨w, u, b, q, Wm, S, l, h⟩ := hG
  obtain ⟨h0_q, hn, hv, hi, hz, ac, tp, ow, fl, sd, sn, im, rf, mo⟩ := id h
  exact g_ask ⟨w, u, b, q, Wm, S, l, h⟩ (c_NT_letter hn.2.1 (gN_w hn.1).1 hv.1 hv.2 hi.1 hi.2.1) (c_M_letter mo.1 mo.2.1 hi.1 hi.2.1) rfl
theorem gc_county {Γ : zv_M} {L : Int} {c : Int → Int} {σ : zv_H} {c0_q t : Int} (hG : GI c σ) : zC Γ m_NT_county 3 0 0 (GM L) [zR 1, zI c0_q, zI t] σ (zPI (GM L) (gQ Γ L c m_M_county 2 [zR 289, zI c0_q, zI t] σ)) := by
  obtain ⟨w, u, b, q, Wm, S, l, h⟩ := hG
  obtain ⟨h0_q, hn, hv, hi, hz, ac, tp, ow, fl, sd, sn, im, rf, mo⟩ := id h
  exact g_ask ⟨w, u, b, q, Wm, S, l, h⟩ (c_NT_county hn.2.1 (gN_w hn.1).1 hv.1 hv.2 hi.1 hi.2.1) (c_M_county mo.1 mo.2.1 hi.1 hi.2.1) rfl
theorem gc_way {Γ : zv_M} {L : Int} {c : Int → Int} {σ : zv_H} {f t : Int} (hG : GI c σ) : zC Γ m_NT_way 2 0 0 (GM L) [zR 1, zI f, zI t] σ (zPI (GM L) (gQ Γ L c m_M_way 2 [zR 289, zI f, zI t] σ)) := by
  obtain ⟨w, u, b, q, Wm, S, l, h⟩ := hG
  obtain ⟨h0_q, hn, hv, hi, hz, ac, tp, ow, fl, sd, sn, im, rf, mo⟩ := id h
  exact g_ask ⟨w, u, b, q, Wm, S, l, h⟩ (c_NT_way hn.2.1 (gN_w hn.1).1 hv.1 hv.2 hi.1 hi.2.1) (c_M_way mo.1 mo.2.1 hi.1 hi.2.1) rfl
theorem gc_man {Γ : zv_M} {L : Int} {c : Int → Int} {σ : zv_H} {m t : Int} (hG : GI c σ) : zC Γ m_NT_man 1 0 0 (GM L) [zR 1, zI m, zI t] σ (zPI (GM L) (gQ Γ L c m_M_man 1 [zR 289, zI m, zI t] σ)) := by
  obtain ⟨w, u, b, q, Wm, S, l, h⟩ := hG
  obtain ⟨h0_q, hn, hv, hi, hz, ac, tp, ow, fl, sd, sn, im, rf, mo⟩ := id h
  exact g_ask ⟨w, u, b, q, Wm, S, l, h⟩ (c_NT_man hn.2.1 (gN_w hn.1).1 hv.1 hv.2 hi.1 hi.2.1) (c_M_man mo.1 mo.2.1 hi.1 hi.2.1) rfl
theorem gc_known {Γ : zv_M} {L : Int} {c : Int → Int} {σ : zv_H} {m c0_q : Int} (hG : GI c σ) : zC Γ m_NT_known 3 0 0 (GM L) [zR 1, zI m, zI c0_q] σ (zPI (GM L) (gQ Γ L c m_M_known 2 [zR 289, zI m, zI c0_q] σ)) := by
  obtain ⟨w, u, b, q, Wm, S, l, h⟩ := hG
  obtain ⟨h0_q, hn, hv, hi, hz, ac, tp, ow, fl, sd, sn, im, rf, mo⟩ := id h
  exact g_ask ⟨w, u, b, q, Wm, S, l, h⟩ (c_NT_known hn.2.1 (gN_w hn.1).1 hv.1 hv.2 hi.1 hi.2.1) (c_M_known mo.1 mo.2.1 hi.1 hi.2.1) rfl
theorem gc_kept {Γ : zv_M} {L : Int} {c : Int → Int} {σ : zv_H} {k t : Int} (hG : GI c σ) : zC Γ m_NT_kept 3 0 0 (GM L) [zR 1, zI k, zI t] σ (zPI (GM L) (gQ Γ L c m_M_kept 1 [zR 289, zI k, zI t] σ)) := by
  obtain ⟨w, u, b, q, Wm, S, l, h⟩ := hG
  obtain ⟨h0_q, hn, hv, hi, hz, ac, tp, ow, fl, sd, sn, im, rf, mo⟩ := id h
  exact g_ask ⟨w, u, b, q, Wm, S, l, h⟩ (c_NT_kept hn.2.1 (gN_w hn.1).1 hv.1 hv.2 hi.1 hi.2.1) (c_M_kept mo.1 mo.2.1 hi.1 hi.2.1) rfl
theorem gc_octet {Γ : zv_M} {L : Int} {c : Int → Int} {σ : zv_H} {k : Int} (hG : GI c σ) : zC Γ m_NT_octet 1 0 0 (GM L) [zR 1, zI k] σ (zPI (GM L) (gQ Γ L c m_M_octet 1 [zR 289, zI k] σ)) := by
  obtain ⟨w, u, b, q, Wm, S, l, h⟩ := hG
  obtain ⟨h0_q, hn, hv, hi, hz, ac, tp, ow, fl, sd, sn, im, rf, mo⟩ := id h
  refine g_ask ⟨w, u, b, q, Wm, S, l, h⟩ (c_NT_octet im.2.1) (c_M_octet (by rw [im.1]; have := im.2.1; omega)) ?_
  rw [im.1]
  by_cases hk : 0 ≤ k ∧ k < σ 284 1
  · rw [if_pos hk, if_pos hk, im.2.2 k hk.1 hk.2]
  · rw [if_neg hk, if_neg hk]
theorem gc_status {Γ : zv_M} {L : Int} {c : Int → Int} {σ : zv_H} {k : Int} (hG : GI c σ) : zC Γ m_NT_status 1 0 0 (GM L) [zR 1, zI k] σ (zPI (GM L) (gQ Γ L c m_M_status 1 [zR 289, zI k] σ)) := by
  obtain ⟨w, u, b, q, Wm, S, l, h⟩ := hG
  obtain ⟨h0_q, hn, hv, hi, hz, ac, tp, ow, fl, sd, sn, im, rf, mo⟩ := id h
  refine g_ask ⟨w, u, b, q, Wm, S, l, h⟩ c_NT_status c_M_status ?_
  by_cases hk : 0 ≤ k ∧ k < 6
  · rw [if_pos hk, if_pos hk, rf k hk.1 hk.2]
  · rw [if_neg hk, if_neg hk]
theorem gc_who {Γ : zv_M} {L : Int} {c : Int → Int} {σ : zv_H} {t : Int} (hG : GI c σ) : zC Γ m_NT_who 3 0 0 (GM L) [zR 1, zI t] σ (zPI (GM L) (gQ Γ L c m_M_who 3 [zR 289, zI t] σ)) := by
  obtain ⟨w, u, b, q, Wm, S, l, h⟩ := hG
  obtain ⟨h0_q, hn, hv, hi, hz, ac, tp, ow, fl, sd, sn, im, rf, mo⟩ := id h
  refine g_ask ⟨w, u, b, q, Wm, S, l, h⟩ (c_NT_who hn.2.1 (gN_w hn.1).1 hv.1 hv.2 hi.1 hi.2.1 sn.2.1) (c_M_who mo.1 mo.2.1 hi.1 hi.2.1 (by rw [sn.1]; exact sn.2.1)) ?_
  rw [sn.1, sebN_c (a := σ 286) (b := σ 287) (a' := σ 332) (b' := σ 333) (fun k h1_q h2_q => sn.2.2 k h1_q (by have := sn.2.1; omega))]
theorem gc_marks {Γ : zv_M} {L : Int} {c : Int → Int} {σ : zv_H} (hG : GI c σ) : zC Γ m_NT_marks 3 0 0 (GM L) [zR 1] σ (zPI (GM L) (gQ Γ L c m_M_marks 3 [zR 289] σ)) := by
  obtain ⟨w, u, b, q, Wm, S, l, h⟩ := hG
  obtain ⟨h0_q, hn, hv, hi, hz, ac, tp, ow, fl, sd, sn, im, rf, mo⟩ := id h
  refine g_p (c_NT_marks hn.2.1 (gN_w hn.1).1 hv.1 hv.2 hi.1 hi.2.1) (fun z σ1 k => ?_)
  rw [k.2]
  refine g2_p (fun _ => rfl) (c_M_marks mo.1 mo.2.1 hi.1 hi.2.1) (fun z2_q σ2 k2_q => ?_)
  rw [k2_q.2]
  exact ⟨k2_q.1.trans k.1.symm, w, u, b, q, Wm, S, l, h⟩
theorem gc_staffed {Γ : zv_M} {L : Int} {c : Int → Int} {σ : zv_H} {n : Int} (hG : GI c σ) : zC Γ m_NT_staffed 3 0 0 (GM L) [zR 1, zI n] σ (zPI (GM L) (gQ Γ L c m_M_staffed 3 [zR 289, zI n] σ)) := by
  obtain ⟨w, u, b, q, Wm, S, l, h⟩ := hG
  obtain ⟨h0_q, hn, hv, hi, hz, ac, tp, ow, fl, sd, sn, im, rf, mo⟩ := id h
  refine g_p (c_NT_staffed hn.2.1 (gN_w hn.1).1 hv.1 hv.2 hi.1 hi.2.1) (fun z σ1 k => ?_)
  rw [k.2]
  refine g2_p (fun _ => rfl) (c_M_staffed mo.1 mo.2.1 hi.1 hi.2.1) (fun z2_q σ2 k2_q => ?_)
  rw [k2_q.2]
  exact ⟨k2_q.1.trans k.1.symm, w, u, b, q, Wm, S, l, h⟩
theorem fr_s {u b x k : Int} (h : ¬ fr u b x k) : ¬ (41 ≤ x ∧ x ≤ 53) ∧ ¬ (55 ≤ x ∧ x ≤ 61) ∧ ¬ inV 1 x k ∧ ¬ (327 ≤ x ∧ x ≤ 331) ∧ ¬ (x = 289 ∧ (60 ≤ k ∧ k ≤ 66)) := by
  unfold fr at h
  refine ⟨fun q => h (by omega), fun q => h (by omega), fun q => h (Or.inr (Or.inr (Or.inr (Or.inr (Or.inr (Or.inr (Or.inr (Or.inl q)))))))), fun q => h (by omega), fun q => h (by omega)⟩
theorem GK_scr {c : Int → Int} {σ σ' : zv_H} {w u b q : Int} {Wm S : zv_H} {l : List zv_H} (h : GK c σ w u b q Wm S l) (hs : scr σ σ') (hz : SZr (vw 10 σ' 41)) : GK c σ' w u b q Wm S l := GK_x h (fun x k r => by
  have q := fr_s r
  exact hs x k (by omega) (by omega)) hz
theorem GK_scrM {c : Int → Int} {σ σ' : zv_H} {w u b q : Int} {Wm S : zv_H} {l : List zv_H} (h : GK c σ w u b q Wm S l) (hs : scrM σ σ') : GK c σ' w u b q Wm S l := GK_x h (fun x k r => by
  have q := fr_s r
  exact hs x k q.2.2.1 (by omega) (by omega)) (by
  rw [vw_eq (σ := σ) (fun x k q1_q q2_q => hs x k (by unfold inV; omega) (by omega) (by omega)) (by omega)]
  exact h.2.2.2.2.1)
theorem gm_1 {c : Int → Int} {σ : zv_H} {w u b q : Int} {Wm S : zv_H} {l : List zv_H} (h : GK c σ w u b q Wm S l) : gMo σ b Wm S l := h.2.2.2.2.2.2.2.2.2.2.2.2.2
theorem gc_later {Γ : zv_M} {L : Int} {c : Int → Int} {σ : zv_H} {m n t : Int} (hG : GI c σ) : zC Γ m_NT_later 8 0 0 (GM L) [zR 1, zI m, zI n, zI t] σ (zPI (GM L) (gQ Γ L c m_M_later 8 [zR 289, zI m, zI n, zI t] σ)) := by
  obtain ⟨w, u, b, q, Wm, S, l, h⟩ := hG
  obtain ⟨h0_q, hn, hv, hi, hz, ac, tp, ow, fl, sd, sn, im, rf, mo⟩ := id h
  refine g_p (r_NT_later hn.2.1 (gN_w hn.1).1 hv.1 hv.2 hi.1 hi.2.1 hi.2.2.2 hz) (fun z σ1 k => ?_)
  have h1_q := GK_scr h k.2.1 k.2.2
  have mo1_q := gm_1 h1_q
  refine g2_p (fun j => k.2.1 0 j (by omega) (by omega)) (c_M_later mo1_q.1 mo1_q.2.1 hi.1 hi.2.1) (fun z2_q σ2 k2_q => ?_)
  exact ⟨k2_q.1.trans k.1.symm, w, u, b, q, Wm, S, l, GK_scrM h1_q k2_q.2⟩
theorem gc_caught {Γ : zv_M} {L : Int} {c : Int → Int} {σ : zv_H} {m : Int} (hG : GI c σ) : zC Γ m_NT_caught 8 0 0 (GM L) [zR 1, zI m] σ (zPI (GM L) (gQ Γ L c m_M_caught 8 [zR 289, zI m] σ)) := by
  obtain ⟨w, u, b, q, Wm, S, l, h⟩ := hG
  obtain ⟨h0_q, hn, hv, hi, hz, ac, tp, ow, fl, sd, sn, im, rf, mo⟩ := id h
  refine g_p (r_NT_caught hn.2.1 (gN_w hn.1).1 hv.1 hv.2 hi.1 hi.2.1 hi.2.2.2 hz) (fun z σ1 k => ?_)
  have h1_q := GK_scr h k.2.1 k.2.2
  have mo1_q := gm_1 h1_q
  refine g2_p (fun j => k.2.1 0 j (by omega) (by omega)) (c_M_caught mo1_q.1 mo1_q.2.1 hi.1 hi.2.1) (fun z2_q σ2 k2_q => ?_)
  exact ⟨k2_q.1.trans k.1.symm, w, u, b, q, Wm, S, l, GK_scrM h1_q k2_q.2⟩
theorem gc_filled {Γ : zv_M} {L : Int} {c : Int → Int} {σ : zv_H} (hG : GI c σ) : zC Γ m_NT_filled 8 0 0 (GM L) [zR 1] σ (zPI (GM L) (gQ Γ L c m_M_filled 8 [zR 289] σ)) := by
  obtain ⟨w, u, b, q, Wm, S, l, h⟩ := hG
  obtain ⟨h0_q, hn, hv, hi, hz, ac, tp, ow, fl, sd, sn, im, rf, mo⟩ := id h
  refine g_p (r_NT_filled hn.2.1 (gN_w hn.1).1 hv.1 hv.2 hi.1 hi.2.1 hi.2.2.2 hz) (fun z σ1 k => ?_)
  have h1_q := GK_scr h k.2.1 k.2.2
  have mo1_q := gm_1 h1_q
  refine g2_p (fun j => k.2.1 0 j (by omega) (by omega)) (c_M_filled mo1_q.1 mo1_q.2.1 hi.1 hi.2.1) (fun z2_q σ2 k2_q => ?_)
  exact ⟨k2_q.1.trans k.1.symm, w, u, b, q, Wm, S, l, GK_scrM h1_q k2_q.2⟩
theorem gc_best {Γ : zv_M} {L : Int} {c : Int → Int} {σ : zv_H} {c0_q n t : Int} (hG : GI c σ) : zC Γ m_NT_best 8 0 0 (GM L) [zR 1, zI c0_q, zI n, zI t] σ (zPI (GM L) (gQ Γ L c m_M_best 8 [zR 289, zI c0_q, zI n, zI t] σ)) := by
  obtain ⟨w, u, b, q, Wm, S, l, h⟩ := hG
  obtain ⟨h0_q, hn, hv, hi, hz, ac, tp, ow, fl, sd, sn, im, rf, mo⟩ := id h
  refine g_p (r_NT_best hn.2.1 (gN_w hn.1).1 hv.1 hv.2 hi.1 hi.2.1 hi.2.2.2 hz) (fun z σ1 k => ?_)
  have h1_q := GK_scr h k.2.1 k.2.2
  have mo1_q := gm_1 h1_q
  refine g2_p (fun j => k.2.1 0 j (by omega) (by omega)) (c_M_best mo1_q.1 mo1_q.2.1 hi.1 hi.2.1) (fun z2_q σ2 k2_q => ?_)
  exact ⟨k2_q.1.trans k.1.symm, w, u, b, q, Wm, S, l, GK_scrM h1_q k2_q.2⟩
theorem gc_lured {Γ : zv_M} {L : Int} {c : Int → Int} {σ : zv_H} {m c0_q : Int} (hG : GI c σ) : zC Γ m_NT_lured 8 0 0 (GM L) [zR 1, zI m, zI c0_q] σ (zPI (GM L) (gQ Γ L c m_M_lured 8 [zR 289, zI m, zI c0_q] σ)) := by
  obtain ⟨w, u, b, q, Wm, S, l, h⟩ := hG
  obtain ⟨h0_q, hn, hv, hi, hz, ac, tp, ow, fl, sd, sn, im, rf, mo⟩ := id h
  refine g_p (r_NT_lured hn.2.1 (gN_w hn.1).1 hv.1 hv.2 hi.1 hi.2.1 hi.2.2.2 hz) (fun z σ1 k => ?_)
  have h1_q := GK_scr h k.2.1 k.2.2
  have mo1_q := gm_1 h1_q
  refine g2_p (fun j => k.2.1 0 j (by omega) (by omega)) (c_M_lured mo1_q.1 mo1_q.2.1 hi.1 hi.2.1) (fun z2_q σ2 k2_q => ?_)
  exact ⟨(lur_u hi.2.1 hi.1 k.1 k2_q.1).symm, w, u, b, q, Wm, S, l, GK_scrM h1_q k2_q.2⟩
theorem gc_round {Γ : zv_M} {L : Int} {c : Int → Int} {σ : zv_H} {m k : Int} (hG : GI c σ) : zC Γ m_NT_round 16 0 0 (GM L) [zR 1, zI m, zI k] σ (zPI (GM L) (gQ Γ L c m_M_round 4 [zR 289, zI m, zI k] σ)) := by
  obtain ⟨w, u, b, q, Wm, S, l, h⟩ := hG
  obtain ⟨h0_q, hn, hv, hi, hz, ac, tp, ow, fl, sd, sn, im, rf, mo⟩ := id h
  refine g_p (c_NT_round hn.2.1 (gN_w hn.1).1 hv.1 hv.2 hi.1 hi.2.1) (fun z σ1 k2_q => ?_)
  have h1_q : GK c σ1 w u b q Wm S l := GK_x h (fun x j r => by
    have q := fr_s r
    exact k2_q.2 x j (by omega)) (by
    rw [vw_eq (σ := σ) (fun x k q1_q q2_q => k2_q.2 x k (by omega)) (by omega)]
    exact hz)
  have mo1_q := gm_1 h1_q
  refine g2_p (fun j => k2_q.2 0 j (by omega)) (c_M_round mo1_q.1 mo1_q.2.1 hi.1 hi.2.1 hi.2.2.1) (fun z2_q σ2 k3_q => ?_)
  exact ⟨k3_q.1.trans k2_q.1.symm, w, u, b, q, Wm, S, l, GK_scrM h1_q k3_q.2⟩
