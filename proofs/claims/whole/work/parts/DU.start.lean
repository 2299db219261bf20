set_option maxHeartbeats 4000000 in
set_option maxRecDepth 20000 in
theorem whole_start {p : Program} {e : Env} {s : State} {m : MethodId} {below : List Frame} {meth : Method} {c : Code} (l : Launch) {b L : Nat} {xs : Nat → Int32} (hL : L ≤ 3072) (C0 : lw_At p s m meth c b L xs) : W p l e room_1 s m #[Value.ref b] below meth c s.heap [] 0 0 (lw_Z below #[Value.ref b] s) (entryFrame m ([Value.ref b] : List Value).toArray 4) := by
  obtain ⟨hexec, hcode, hret, hml, hown, hts, hX, hb, hlocks, hgv⟩ := C0
  obtain ⟨D, hD⟩ := lw_classes hts
  obtain ⟨aK, aV, aF, hZ⟩ := lw_string hts hgv (Γ := (s, D, b)) rfl
  have he : zv_e (s, D, b) := ⟨hts, hD, hb⟩
  have hR := hR_start (Γ := (s, D, b)) (L := L) (xs := xs) hL hX
  have hvs : zv_sR (zv_ad (s, D, b)) [Value.ref b] [zR 0] := zv_sR_mk (Or.inr ⟨Int.le_refl _, rfl⟩) zv_sR_nil
  obtain ⟨hl1, hl2⟩ := zv_en_at 0 hvs
  have hl := lv_entry [Value.ref b] (n := 4) (by rw [hl1]; decide)
  have hV := lw_begin (Γ := (s, D, b)) (nm := meth.name) (L := (L : Int)) ⟨by omega, by omega⟩ hZ (σ := fun a k => if a = 0 then (xs k.toNat).toInt else 0)
  rw [lg_entry_eq]
  refine W_room (R2 := zv_Rm 130 334 29441) (by decide) (by decide) (by decide) (by decide) (fun t ht => ?_) (hV (zm_yLaw _) he p l e s m #[Value.ref b] below meth c ⟨hexec, hcode, hml, hret, hlocks, rfl, hown, State.WarmedH.refl _⟩ s.heap [] _ [] hR (fun q hq => by cases hq) ⟨rfl, _, hl, fun i q hi => ?_⟩ zv_sR_nil)
  · obtain ⟨oc, b1, b2, ⟨r, G', σ', rfl, hR2, v, ho, x1, rfl, ex⟩, Lc, hfe, hfree⟩ := ht
    have ex : x1.toInt = 1 := ex
    have e1 : x1 = 1 := Int32.toInt_inj.mp (ex.trans rfl)
    subst e1
    exact ⟨oc, b1, b2, ho, Framed_of hfe (fun q hq => hfree q hq)⟩
  · match i, hi with
    | 0, hi =>
      cases hi
      exact hl2 0 _ rfl
    | 1, hi => cases hi
    | 2, hi => cases hi
    | 3, hi => cases hi
    | i + 4, hi => cases hi
