noncomputable def pb (P : Prop) : Nat := pif P 1 0
theorem pb_1 {P : Prop} (h : P) : pb P = 1 := pif_p h
theorem pb_0 {P : Prop} (h : ¬ P) : pb P = 0 := pif_n h
theorem pb_le (P : Prop) : pb P ≤ 1 := by
  by_cases h : P
  · rw [pb_1 h]; exact Nat.le_refl 1
  · rw [pb_0 h]; exact Nat.zero_le 1
theorem pb_of {P : Prop} {r : Int32} {u : wU} {w : wU} (h : (P ∧ r = 1 ∨ ¬ P ∧ r = 0) ∧ u = w) : r = nI (pb P) ∧ u = w := by
  obtain ⟨⟨h1, h2⟩ | ⟨h1, h2⟩, h3⟩ := h
  · exact ⟨h2.trans (congrArg nI (pb_1 h1)).symm, h3⟩
  · exact ⟨h2.trans (congrArg nI (pb_0 h1)).symm, h3⟩
theorem pb_ne {P : Prop} (h : ¬ pb P = 0) : P := by
  by_cases hp : P
  · exact hp
  · exact absurd (pb_0 hp) h
theorem pb_eq {P : Prop} (h : pb P = 0) : ¬ P := fun hp => absurd ((pb_1 hp).symm.trans h) (by decide)
/-- one step of a sheet: the best end so far (none: the piece is 0), whether it is an allowed one -/
noncomputable def rs_lay (K : Nat → Int32) (Fm To Rr : Nat → Nat) (p0 r0 en mo : Nat) : Nat → Nat → Nat → Nat → Nat → Option (Nat × Nat × Nat) → Option (Nat × Nat × Nat)
  | 0, _, _, _, _, b => b
  | f + 1, p, i, rows, al, b => pif (p < en ∧ rows + pb (p0 < p ∧ i = 0 ∧ rp_he (K p) (Fm p)) + 1 ≤ mo)
      (rs_lay K Fm To Rr p0 r0 en mo f (if i + 1 = To p - Fm p then p + 1 else p) (if i + 1 = To p - Fm p then 0 else i + 1) (rows + pb (p0 < p ∧ i = 0 ∧ rp_he (K p) (Fm p)) + 1)
        (pif (rows + pb (p0 < p ∧ i = 0 ∧ rp_he (K p) (Fm p)) + 1 + pb (rp_rb (K p) (Fm p) (To p) (Rr p) p (i + 1) en) ≤ mo ∧ (rp_me (K p) (To p - Fm p) p0 r0 p (i + 1) en ∨ al = 0)) (pb (rp_me (K p) (To p - Fm p) p0 r0 p (i + 1) en)) al)
        (pif (rows + pb (p0 < p ∧ i = 0 ∧ rp_he (K p) (Fm p)) + 1 + pb (rp_rb (K p) (Fm p) (To p) (Rr p) p (i + 1) en) ≤ mo ∧ (rp_me (K p) (To p - Fm p) p0 r0 p (i + 1) en ∨ al = 0)) (some ((if i + 1 = To p - Fm p then p + 1 else p), (if i + 1 = To p - Fm p then 0 else i + 1), rows + pb (p0 < p ∧ i = 0 ∧ rp_he (K p) (Fm p)) + 1 + pb (rp_rb (K p) (Fm p) (To p) (Rr p) p (i + 1) en))) b))
      b
/-- what the three fields hold of the best end -/
def rs_is (b : Option (Nat × Nat × Nat)) (v25 v26 v27 : Int32) : Prop := match b with
  | none => v25 = -1
  | some x => v25 = nI x.1 ∧ v26 = nI x.2.1 ∧ v27 = nI x.2.2
