theorem rs_in {K : Nat → Int32} {Fm To Rr : Nat → Nat} {p0 r0 en mo f p i rows al dd tb mb p2 i2 al2 : Nat} {b b2 : Option (Nat × Nat × Nat)} (h1 : p < en) (h2 : rows + dd + 1 ≤ mo) (edd : dd = pb (p0 < p ∧ i = 0 ∧ rp_he (K p) (Fm p))) (etb : tb = pb (rp_rb (K p) (Fm p) (To p) (Rr p) p (i + 1) en)) (emb : mb = pb (rp_me (K p) (To p - Fm p) p0 r0 p (i + 1) en)) (ep : p2 = if i + 1 = To p - Fm p then p + 1 else p) (ei : i2 = if i + 1 = To p - Fm p then 0 else i + 1)
    (eal : al2 = if rows + dd + 1 + tb ≤ mo ∧ (¬ mb = 0 ∨ al = 0) then mb else al) (eb : b2 = if rows + dd + 1 + tb ≤ mo ∧ (¬ mb = 0 ∨ al = 0) then some (p2, i2, rows + dd + 1 + tb) else b) : rs_lay K Fm To Rr p0 r0 en mo (f + 1) p i rows al b = rs_lay K Fm To Rr p0 r0 en mo f p2 i2 (rows + dd + 1) al2 b2 := by
  subst edd etb emb ep ei eal eb
  have hm : (rp_me (K p) (To p - Fm p) p0 r0 p (i + 1) en ∨ al = 0) ↔ (¬ pb (rp_me (K p) (To p - Fm p) p0 r0 p (i + 1) en) = 0 ∨ al = 0) := ⟨fun h => h.imp (fun z => by rw [pb_1 z]; decide) id, fun h => h.imp pb_ne id⟩
  refine (pif_p ⟨h1, h2⟩).trans ?_
  by_cases hc : rows + pb (p0 < p ∧ i = 0 ∧ rp_he (K p) (Fm p)) + 1 + pb (rp_rb (K p) (Fm p) (To p) (Rr p) p (i + 1) en) ≤ mo ∧ (¬ pb (rp_me (K p) (To p - Fm p) p0 r0 p (i + 1) en) = 0 ∨ al = 0)
  · rw [if_pos hc, if_pos hc, pif_p ⟨hc.1, hm.mpr hc.2⟩, pif_p ⟨hc.1, hm.mpr hc.2⟩]
  · rw [if_neg hc, if_neg hc, pif_n (fun z => hc ⟨z.1, hm.mp z.2⟩), pif_n (fun z => hc ⟨z.1, hm.mp z.2⟩)]
theorem rs_out {K : Nat → Int32} {Fm To Rr : Nat → Nat} {p0 r0 en mo f p i rows al dd : Nat} {b : Option (Nat × Nat × Nat)} (edd : dd = pb (p0 < p ∧ i = 0 ∧ rp_he (K p) (Fm p))) (h : ¬ (p < en ∧ rows + dd + 1 ≤ mo)) : rs_lay K Fm To Rr p0 r0 en mo (f + 1) p i rows al b = b := by
  rw [edd] at h
  exact pif_n h
theorem rs_end {K : Nat → Int32} {Fm To Rr : Nat → Nat} {p0 r0 en mo f p i rows al : Nat} {b : Option (Nat × Nat × Nat)} (h : ¬ p < en) : rs_lay K Fm To Rr p0 r0 en mo (f + 1) p i rows al b = b := pif_n (fun z => h z.1)
