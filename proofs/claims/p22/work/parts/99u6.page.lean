/-- rows that the table knows for a page's start -/
def bk_T (K : Nat → Int32) (Fm To Rr : Nat → Nat) (pn : Nat) (C : Nat → Option Q4) : Prop := ∀ p r y, p < pn → r < To p - Fm p → C (rs_S Fm To p + r) = some y → ∃ n, rs_S Fm To y.2.1 + y.2.2.1 = rs_S Fm To p + r + n + 1 ∧ y.2.2.2 = bk_tt K Fm To Rr p pn n p r (pb (rp_ra (K p) (Fm p) p r 0))
theorem rs_un {Fm To : Nat → Nat} {p q r s : Nat} (hr : r < To p - Fm p) (hs : s < To q - Fm q) (e : rs_S Fm To p + r = rs_S Fm To q + s) : p = q ∧ r = s := by
  rcases Nat.lt_trichotomy p q with h | h | h
  · have h1 := rs_S_le (Fm := Fm) (To := To) h
    omega
  · rw [h] at e
    exact ⟨h, by omega⟩
  · have h1 := rs_S_le (Fm := Fm) (To := To) h
    omega
theorem bk_row_T {K : Nat → Int32} {Fm To Rr : Nat → Nat} {pn mo p : Nat} (hz : ∀ p, p < pn → 0 < To p - Fm p) (hp : p < pn) : ∀ k C, k ≤ To p - Fm p → bk_T K Fm To Rr pn C → bk_T K Fm To Rr pn (bk_row K Fm To Rr pn mo p k C) := by
  intro k
  induction k with
  | zero => intro C _ h; exact h
  | succ k ih =>
    intro C hk h
    show bk_T K Fm To Rr pn (bk_row K Fm To Rr pn mo p k (va_up C (rs_S Fm To p + k) (bk_lay C K Fm To Rr p k pn mo 41 p k (pb (rp_ra (K p) (Fm p) p k 0)) none)))
    refine ih _ (by omega) ?_
    intro p2 r2 y hp2 hr2 hy
    by_cases e : rs_S Fm To p2 + r2 = rs_S Fm To p + k
    · obtain ⟨e1, e2⟩ := rs_un hr2 (show k < To p - Fm p by omega) e
      rw [e, va_up_self] at hy
      rcases bk_lay_tt hz 41 p k _ none y (fun _ => by omega) hy with h1 | h1
      · cases h1
      · rw [e1, e2]; exact h1
    · rw [va_up_ne _ _ e] at hy
      exact h p2 r2 y hp2 hr2 hy
theorem bk_all_T {K : Nat → Int32} {Fm To Rr : Nat → Nat} {pn mo : Nat} (hz : ∀ p, p < pn → 0 < To p - Fm p) : ∀ k C, k ≤ pn → bk_T K Fm To Rr pn C → bk_T K Fm To Rr pn (bk_all K Fm To Rr pn mo k C) := by
  intro k
  induction k with
  | zero => intro C _ h; exact h
  | succ k ih =>
    intro C hk h
    show bk_T K Fm To Rr pn (bk_all K Fm To Rr pn mo k (bk_row K Fm To Rr pn mo k (To k - Fm k) C))
    exact ih _ (by omega) (bk_row_T hz (by omega) _ _ (Nat.le_refl _) h)
theorem bk_T0 (K : Nat → Int32) (Fm To Rr : Nat → Nat) (pn : Nat) : bk_T K Fm To Rr pn (fun _ => none) := fun p r y _ _ h => by cases h
noncomputable def pgV (Pg : List (Nat × Nat × Nat)) (n : Nat) (sz : Nat → Nat) (K : Nat → Int32) (g : Nat) (w : Int32) : Int32 := if w = 0 then nI (Pg.getD g (0, 0, 0)).2.2 else if w = 1 then nI (pg_B n Pg g) else if w = 2 then nI (pg_R n Pg g) else if w = 3 then (if pg_R n Pg (g + 1) = 0 then nI (pg_B n Pg (g + 1) - 1) else nI (pg_B n Pg (g + 1))) else if w = 4 then (if pg_R n Pg (g + 1) = 0 then nI (sz (pg_B n Pg (g + 1) - 1)) else nI (pg_R n Pg (g + 1))) else if w = 5 then pif (0 < pg_R n Pg g ∧ K (pg_B n Pg g) = 4) 1 0 else pif (0 < pg_R n Pg (g + 1) ∧ K (pg_B n Pg (g + 1)) = 4) 1 0
theorem pgV_0 {Pg : List (Nat × Nat × Nat)} {n : Nat} {sz : Nat → Nat} {K : Nat → Int32} {g : Nat} {w : Int32} (h : w = 0) : pgV Pg n sz K g w = nI (Pg.getD g (0, 0, 0)).2.2 := by
  rw [h]; unfold pgV; rw [if_pos rfl]
theorem pgV_1 {Pg : List (Nat × Nat × Nat)} {n : Nat} {sz : Nat → Nat} {K : Nat → Int32} {g : Nat} {w : Int32} (h : w = 1) : pgV Pg n sz K g w = nI (pg_B n Pg g) := by
  rw [h]; unfold pgV; rw [if_neg (by decide), if_pos rfl]
theorem pgV_2 {Pg : List (Nat × Nat × Nat)} {n : Nat} {sz : Nat → Nat} {K : Nat → Int32} {g : Nat} {w : Int32} (h : w = 2) : pgV Pg n sz K g w = nI (pg_R n Pg g) := by
  rw [h]; unfold pgV; rw [if_neg (by decide), if_neg (by decide), if_pos rfl]
theorem pgV_3 {Pg : List (Nat × Nat × Nat)} {n : Nat} {sz : Nat → Nat} {K : Nat → Int32} {g : Nat} {w : Int32} (h : w = 3) : pgV Pg n sz K g w = (if pg_R n Pg (g + 1) = 0 then nI (pg_B n Pg (g + 1) - 1) else nI (pg_B n Pg (g + 1))) := by
  rw [h]; unfold pgV; rw [if_neg (by decide), if_neg (by decide), if_neg (by decide), if_pos rfl]
theorem pgV_4 {Pg : List (Nat × Nat × Nat)} {n : Nat} {sz : Nat → Nat} {K : Nat → Int32} {g : Nat} {w : Int32} (h : w = 4) : pgV Pg n sz K g w = (if pg_R n Pg (g + 1) = 0 then nI (sz (pg_B n Pg (g + 1) - 1)) else nI (pg_R n Pg (g + 1))) := by
  rw [h]; unfold pgV; rw [if_neg (by decide), if_neg (by decide), if_neg (by decide), if_neg (by decide), if_pos rfl]
theorem pgV_5 {Pg : List (Nat × Nat × Nat)} {n : Nat} {sz : Nat → Nat} {K : Nat → Int32} {g : Nat} {w : Int32} (h : w = 5) : pgV Pg n sz K g w = pif (0 < pg_R n Pg g ∧ K (pg_B n Pg g) = 4) 1 0 := by
  rw [h]; unfold pgV; rw [if_neg (by decide), if_neg (by decide), if_neg (by decide), if_neg (by decide), if_neg (by decide), if_pos rfl]
theorem pgV_6 {Pg : List (Nat × Nat × Nat)} {n : Nat} {sz : Nat → Nat} {K : Nat → Int32} {g : Nat} {w : Int32} (h : w.toInt < 0 ∨ 5 < w.toInt) : pgV Pg n sz K g w = pif (0 < pg_R n Pg (g + 1) ∧ K (pg_B n Pg (g + 1)) = 4) 1 0 := by
  have n0 : ¬ w = 0 := fun z9 => by rw [z9] at h; revert h; decide
  have n1 : ¬ w = 1 := fun z9 => by rw [z9] at h; revert h; decide
  have n2 : ¬ w = 2 := fun z9 => by rw [z9] at h; revert h; decide
  have n3 : ¬ w = 3 := fun z9 => by rw [z9] at h; revert h; decide
  have n4 : ¬ w = 4 := fun z9 => by rw [z9] at h; revert h; decide
  have n5 : ¬ w = 5 := fun z9 => by rw [z9] at h; revert h; decide
  unfold pgV
  rw [if_neg n0, if_neg n1, if_neg n2, if_neg n3, if_neg n4, if_neg n5]
theorem pgV_3a {Pg : List (Nat × Nat × Nat)} {n : Nat} {sz : Nat → Nat} {K : Nat → Int32} {g : Nat} {w : Int32} (h : w = 3) (h1 : pg_R n Pg (g + 1) = 0) : pgV Pg n sz K g w = nI (pg_B n Pg (g + 1) - 1) := by rw [pgV_3 h, if_pos h1]
theorem pgV_3b {Pg : List (Nat × Nat × Nat)} {n : Nat} {sz : Nat → Nat} {K : Nat → Int32} {g : Nat} {w : Int32} (h : w = 3) (h1 : ¬ pg_R n Pg (g + 1) = 0) : pgV Pg n sz K g w = nI (pg_B n Pg (g + 1)) := by rw [pgV_3 h, if_neg h1]
theorem pgV_4a {Pg : List (Nat × Nat × Nat)} {n : Nat} {sz : Nat → Nat} {K : Nat → Int32} {g : Nat} {w : Int32} (h : w = 4) (h1 : pg_R n Pg (g + 1) = 0) : pgV Pg n sz K g w = nI (sz (pg_B n Pg (g + 1) - 1)) := by rw [pgV_4 h, if_pos h1]
theorem pgV_4b {Pg : List (Nat × Nat × Nat)} {n : Nat} {sz : Nat → Nat} {K : Nat → Int32} {g : Nat} {w : Int32} (h : w = 4) (h1 : ¬ pg_R n Pg (g + 1) = 0) : pgV Pg n sz K g w = nI (pg_R n Pg (g + 1)) := by rw [pgV_4 h, if_neg h1]
theorem pgV_5a {Pg : List (Nat × Nat × Nat)} {n : Nat} {sz : Nat → Nat} {K : Nat → Int32} {g : Nat} {w : Int32} (h : w = 5) (h1 : 0 < pg_R n Pg g ∧ K (pg_B n Pg g) = 4) : pgV Pg n sz K g w = 1 := by rw [pgV_5 h, pif_p h1]
theorem pgV_5b {Pg : List (Nat × Nat × Nat)} {n : Nat} {sz : Nat → Nat} {K : Nat → Int32} {g : Nat} {w : Int32} (h : w = 5) (h1 : ¬ (0 < pg_R n Pg g ∧ K (pg_B n Pg g) = 4)) : pgV Pg n sz K g w = 0 := by rw [pgV_5 h, pif_n h1]
theorem pgV_6a {Pg : List (Nat × Nat × Nat)} {n : Nat} {sz : Nat → Nat} {K : Nat → Int32} {g : Nat} {w : Int32} (h : w.toInt < 0 ∨ 5 < w.toInt) (h1 : 0 < pg_R n Pg (g + 1) ∧ K (pg_B n Pg (g + 1)) = 4) : pgV Pg n sz K g w = 1 := by rw [pgV_6 h, pif_p h1]
theorem pgV_6b {Pg : List (Nat × Nat × Nat)} {n : Nat} {sz : Nat → Nat} {K : Nat → Int32} {g : Nat} {w : Int32} (h : w.toInt < 0 ∨ 5 < w.toInt) (h1 : ¬ (0 < pg_R n Pg (g + 1) ∧ K (pg_B n Pg (g + 1)) = 4)) : pgV Pg n sz K g w = 0 := by rw [pgV_6 h, pif_n h1]
/-- page: the answer -/
def pgC (lk : Nat) (Pg : List (Nat × Nat × Nat)) (n : Nat) (sz : Nat → Nat) (K : Nat → Int32) (x1 x2 r : Int32) : Prop := ((x2 < 0 ∨ 6 < x2) ∧ r = (-2)) ∨ (¬ (x2 < 0 ∨ 6 < x2) ∧ 0 < lk ∧ r = (-3)) ∨ (¬ (x2 < 0 ∨ 6 < x2) ∧ lk = 0 ∧ ¬ (∃ g : Nat, g < Pg.length ∧ x1 = nI g) ∧ r = (-2)) ∨ (∃ g : Nat, ¬ (x2 < 0 ∨ 6 < x2) ∧ lk = 0 ∧ g < Pg.length ∧ x1 = nI g ∧ r = pgV Pg n sz K g x2)
theorem pgC_det {lk : Nat} {Pg : List (Nat × Nat × Nat)} {n : Nat} {sz : Nat → Nat} {K : Nat → Int32} {x1 x2 r1 r2 : Int32} (hl : Pg.length ≤ 8000) (h1 : pgC lk Pg n sz K x1 x2 r1) (h2 : pgC lk Pg n sz K x1 x2 r2) : r1 = r2 := by
  rcases h1 with ⟨a1, a2⟩ | ⟨a1, a2, a3⟩ | ⟨a1, a2, a3, a4⟩ | ⟨g, a1, a2, a3, a4, a5⟩ <;> rcases h2 with ⟨b1, b2⟩ | ⟨b1, b2, b3⟩ | ⟨b1, b2, b3, b4⟩ | ⟨g2, b1, b2, b3, b4, b5⟩
  · rw [a2, b2]
  · exact absurd a1 b1
  · exact absurd a1 b1
  · exact absurd a1 b1
  · exact absurd b1 a1
  · rw [a3, b3]
  · exact False.elim (by omega)
  · exact False.elim (by omega)
  · exact absurd b1 a1
  · exact False.elim (by omega)
  · rw [a4, b4]
  · exact absurd ⟨g2, b3, b4⟩ a3
  · exact absurd b1 a1
  · exact False.elim (by omega)
  · exact absurd ⟨g, a3, a4⟩ b3
  · have e9 := q_eqn (a := g) (b := g2) (by omega) (by omega) (a4.symm.trans b4)
    rw [a5, b5, e9]
theorem ix_no1 {n : Nat} {x : Int32} (hn : n ≤ 60000) (h : x < 0) : ¬ (∃ g : Nat, g < n ∧ x = nI g) := by
  rintro ⟨g, h1, h2⟩
  rw [h2] at h
  have := q_lt (a := g) (b := 0) (by omega) (by decide) h
  omega
theorem ix_no2 {n : Nat} {x : Int32} (hn : n ≤ 60000) (h : ¬ x < nI n) : ¬ (∃ g : Nat, g < n ∧ x = nI g) := by
  rintro ⟨g, h1, h2⟩
  rw [h2] at h
  have := q_nlt (a := g) (b := n) (by omega) (by omega) h
  omega
theorem ix_no3 {n : Nat} {x : Int32} (hn : n ≤ 60000) (h : nI n - 1 < x) : ¬ (∃ g : Nat, g < n ∧ x = nI g) := by
  rintro ⟨g, h1, h2⟩
  have e1 : (1 : Int32) = nI 1 := rfl
  rw [h2, Int32.lt_iff_toInt_lt, e1, pk_sub_toInt (by omega) (by decide), nI_toInt (by omega)] at h
  omega
/-- where the class's page stands among the reference's -/
def pgN (n : Nat) (Pg : List (Nat × Nat × Nat)) (g pq rr : Nat) (y : Q4) : Prop := pg_B n Pg g = pq ∧ pg_R n Pg g = rr ∧ pg_B n Pg (g + 1) = y.2.1 ∧ pg_R n Pg (g + 1) = y.2.2.1
def pgR (P : List Q4) (pe re : Nat) (y : Q4) : Prop := (0 < y.2.2.1 ∧ pe = y.2.1 ∧ re + 1 = y.2.2.1) ∨ (y.2.2.1 = 0 ∧ pe + 1 = y.2.1 ∧ re + 1 = (P.getD pe d4).2.2.1 - (P.getD pe d4).2.1)
theorem pgc_1 {Pg : List (Nat × Nat × Nat)} {n : Nat} {sz : Nat → Nat} {K : Nat → Int32} {g : Nat} {w : Int32} {pq rr : Nat} {y : Q4} (h : w = 1) (hN : pgN n Pg g pq rr y) : nI pq = pgV Pg n sz K g w := by rw [pgV_1 h, hN.1]
theorem pgc_2 {Pg : List (Nat × Nat × Nat)} {n : Nat} {sz : Nat → Nat} {K : Nat → Int32} {g : Nat} {w : Int32} {pq rr : Nat} {y : Q4} (h : w = 2) (hN : pgN n Pg g pq rr y) : nI rr = pgV Pg n sz K g w := by rw [pgV_2 h, hN.2.1]
theorem pgc_0 {Pg : List (Nat × Nat × Nat)} {n : Nat} {sz : Nat → Nat} {K : Nat → Int32} {g : Nat} {w : Int32} {pq rr t u : Nat} (h : w = 0) (hg : Pg.getD g (0, 0, 0) = (pq, rr, t)) (e : u = t) : nI u = pgV Pg n sz K g w := by rw [pgV_0 h, hg, e]
theorem pgc_3 {Pg : List (Nat × Nat × Nat)} {n : Nat} {sz : Nat → Nat} {K : Nat → Int32} {g : Nat} {w : Int32} {P : List Q4} {pq rr pe re : Nat} {y : Q4} (h : w = 3) (hN : pgN n Pg g pq rr y) (hr : pgR P pe re y) : nI pe = pgV Pg n sz K g w := by
  rcases hr with ⟨a, b, c⟩ | ⟨a, b, c⟩
  · rw [pgV_3b h (by rw [hN.2.2.2]; omega), hN.2.2.1, b]
  · rw [pgV_3a h (by rw [hN.2.2.2]; exact a), hN.2.2.1]
    exact congrArg nI (by omega)
theorem pgc_4 {Pg : List (Nat × Nat × Nat)} {n : Nat} {K : Nat → Int32} {g : Nat} {w : Int32} {P : List Q4} {pq rr pe re : Nat} {y : Q4} (h : w = 4) (hN : pgN n Pg g pq rr y) (hr : pgR P pe re y) : nI (re + 1) = pgV Pg n (fun p => (P.getD p d4).2.2.1 - (P.getD p d4).2.1) K g w := by
  rcases hr with ⟨a, b, c⟩ | ⟨a, b, c⟩
  · rw [pgV_4b h (by rw [hN.2.2.2]; omega), hN.2.2.2, c]
  · rw [pgV_4a h (by rw [hN.2.2.2]; exact a), hN.2.2.1, show y.2.1 - 1 = pe by omega, c]
theorem pgc_5 {Pg : List (Nat × Nat × Nat)} {n : Nat} {sz : Nat → Nat} {g : Nat} {w : Int32} {EE : Nat → E5} {P : List Q4} {pq rr : Nat} {y : Q4} (h : w = 5) (hN : pgN n Pg g pq rr y) (hU : pu_ok EE P) (hp : pq < P.length) (hrr : rr < (P.getD pq d4).2.2.1 - (P.getD pq d4).2.1) : ((EE (P.getD pq d4).1).1 = 4 ∧ 0 < rr ∧ rr < eRw (EE (P.getD pq d4).1) → 1 = pgV Pg n sz (qK EE P) g w) ∧ (¬ ((EE (P.getD pq d4).1).1 = 4 ∧ 0 < rr ∧ rr < eRw (EE (P.getD pq d4).1)) → 0 = pgV Pg n sz (qK EE P) g w) := by
  have h2 := hU pq hp
  refine ⟨fun c => (pgV_5a h ?_).symm, fun c => (pgV_5b h (fun z9 => c ?_)).symm⟩
  · rw [hN.1, hN.2.1]; exact ⟨c.2.1, c.1⟩
  · rw [hN.1, hN.2.1] at z9
    exact ⟨z9.2, z9.1, by omega⟩
theorem pgc_6 {Pg : List (Nat × Nat × Nat)} {n : Nat} {sz : Nat → Nat} {g : Nat} {w : Int32} {EE : Nat → E5} {P : List Q4} {C : Nat → Option Q4} {pq rr pe re : Nat} {y : Q4} (h : w.toInt < 0 ∨ 5 < w.toInt) (hN : pgN n Pg g pq rr y) (hr : pgR P pe re y) (hU : pu_ok EE P) (hn : n = P.length) (hp : pe < n) (ha : pg_at (qF P) (qT P) n C y.2.1 y.2.2.1) : ((EE (P.getD pe d4).1).1 = 4 ∧ 0 < re + 1 ∧ re + 1 < eRw (EE (P.getD pe d4).1) → 1 = pgV Pg n sz (qK EE P) g w) ∧ (¬ ((EE (P.getD pe d4).1).1 = 4 ∧ 0 < re + 1 ∧ re + 1 < eRw (EE (P.getD pe d4).1)) → 0 = pgV Pg n sz (qK EE P) g w) := by
  have h2 := hU pe (by omega)
  rcases hr with ⟨a, b, c⟩ | ⟨a, b, c⟩
  · have h3 : y.2.2.1 < (P.getD y.2.1 d4).2.2.1 - (P.getD y.2.1 d4).2.1 := (ha.2.2 (by omega)).1
    rw [← b] at h3
    refine ⟨fun z => (pgV_6a h ?_).symm, fun z => (pgV_6b h (fun z9 => z ?_)).symm⟩
    · rw [hN.2.2.1, hN.2.2.2, ← b]; exact ⟨a, z.1⟩
    · rw [hN.2.2.1, hN.2.2.2, ← b] at z9
      exact ⟨z9.2, by omega, by omega⟩
  · refine ⟨fun z => absurd z.2.2 (by omega), fun z => (pgV_6b h (fun z9 => ?_)).symm⟩
    rw [hN.2.2.2] at z9
    omega

set_option maxHeartbeats 1000000 in
set_option maxRecDepth 100000 in
theorem r_page2 (l : Launch) (D : va_G) (h0 : Nat) (q : Nat → Nat) (cB cI_ cZ : ClassId) (I : Nat → Int32) (F : Nat → Nat → Int32) (pn lk gs : Nat) (pe sl : Nat → Nat) (K : Nat → Int32) (Fm To Rr : Nat → Nat) (mo : Nat) (x1 x2 : Int32) (hpv : rp_ok F pn pe sl K Fm To Rr) (hI2 : I 2 = nI mo) (hI14 : I 14 = nI pn) (hI20 : I 20 = nI lk) (hlk : lk ≤ 1) (hmo : mo ≤ 40) (hSS : rs_S Fm To pn ≤ 8000) : cI l D yX10_page cX10_page 7 (some .int) 5 150 0 0 [.ref h0, .int x1, .int x2] zT (mW h0 q cB cI_ cZ I F) (mT cB cI_ cZ) (fun r u => pgC lk (bk_pg Fm To pn (bk_all K Fm To Rr pn mo pn (fun _ => none)) 8000 0 0) pn (fun p => To p - Fm p) K x1 x2 r ∧ (∃ (I2 : Nat → Int32) (F2 : Nat → Nat → Int32), sm I I2 F F2 ∧ u = (mW h0 q cB cI_ cZ I2 F2, mT cB cI_ cZ))) := by
  refine q_si (by decide) (Nat.le_of_ble_eq_true rfl) ?_
  intro p e s m below meth c A ls hAe hf hr hlocks hin hK hP hD hS hA hZ hl
  obtain ⟨hx, hb, hml, hown, hts⟩ := id hf
  have hl : lv_has ls 7 [(0, .ref h0), (1, .int x1), (2, .int x2)] := hl
  refine lv_iload_n hx hb dX10_page_0 rfl (lv_at hl 2 rfl) ?_
  refine lv_iconst (v := 0) hx hb dX10_page_1 (by decide) ?_
  refine lv_bipush (v := 6) hx hb dX10_page_2 (by decide) ?_
  refine q_ei (k := 0) (n := 0) hP hS hA (q_rS (wc := []) (tc := []) (As := [.int x2, .int 0, .int 6]) (rest := []) hf (m_X10_in_1 _ D x2 0 6 _) k_1296 k_1294 k_1295 k_98 (nA := 3) (by decide +kernel) ⟨Nat.le_of_ble_eq_true rfl, Nat.le_of_ble_eq_true rfl⟩ (fun k q h => by simp at h) (hK.sub (tys' := []) [] rfl) (A := A) ⟨fun i j p q h => by simp at h, fun k q h => by simp at h⟩ (fun _ _ _ _ h => h) (fun _ _ _ => trivial) rfl hl.1 rfl (Nat.le_of_ble_eq_true rfl) dX10_page_4 ⟨Nat.le_of_ble_eq_true rfl, Nat.le_of_ble_eq_true rfl⟩) (by decide) (by decide) (fun r u H locs hw hP hS => ?_)
  rcases hw with ⟨c_1, rfl, rfl⟩ | ⟨c_2, c_3, rfl, rfl⟩ | ⟨c_4, c_5, rfl, rfl⟩
  · refine lv_if_ne (tgt := 13) hx hb dX10_page_7 (by decide) (fun hno => absurd hno (by decide)) (fun _ => ?_)
    refine lv_bipush (v := (-2)) hx hb dX10_page_10 (by decide) ?_
    exact q_zi hf hr rfl hlocks hK hP hD hS (Nat.le_of_ble_eq_true rfl) (Nat.le_of_ble_eq_true rfl) ⟨Or.inl ⟨Or.inl c_1, rfl⟩, ⟨I, F, ⟨⟨rfl, rfl, rfl⟩, ⟨rfl, rfl, rfl⟩, ⟨rfl, rfl, rfl, rfl, rfl, rfl, rfl, rfl, rfl, rfl, rfl⟩, rfl, rfl, rfl, rfl⟩, rfl⟩⟩ dX10_page_12
  · refine lv_if_ne (tgt := 13) hx hb dX10_page_7 (by decide) (fun hno => absurd hno (by decide)) (fun _ => ?_)
    refine lv_bipush (v := (-2)) hx hb dX10_page_10 (by decide) ?_
    exact q_zi hf hr rfl hlocks hK hP hD hS (Nat.le_of_ble_eq_true rfl) (Nat.le_of_ble_eq_true rfl) ⟨Or.inl ⟨Or.inr c_3, rfl⟩, ⟨I, F, ⟨⟨rfl, rfl, rfl⟩, ⟨rfl, rfl, rfl⟩, ⟨rfl, rfl, rfl, rfl, rfl, rfl, rfl, rfl, rfl, rfl, rfl⟩, rfl, rfl, rfl, rfl⟩, rfl⟩⟩ dX10_page_12
  · refine lv_if_ne (tgt := 13) hx hb dX10_page_7 (by decide) (fun _ => ?_) (fun hno => absurd hno (by decide))
    refine lv_aload_n hx hb dX10_page_13 rfl (lv_at hl 0 rfl) ?_
    refine va_get (D := D) (ci := 11) (v := .int (I 20)) (C := RX10) (T := TX10) (N := 48) hx hb hts inX10 hown hK hP 0 rfl rfl 20 (by decide) (hts _ k_1164) (fun _ h9 => h9) rfl dX10_page_14 ?_
    refine q_seti (y := (nI lk)) hI20 ?_
    refine lv_if_eq (tgt := 23) hx hb dX10_page_17 (by decide) (fun c_6 => ?_) (fun c_6 => ?_)
    · have c_6 := q_eqn (a := lk) (b := 0) (by omega) (by omega) c_6
      refine lv_aload_n hx hb dX10_page_23 rfl (lv_at hl 0 rfl) ?_
      refine q_cv (k := 0) (n := 0) hK hP hD hS hA (fun hPc hKc hDc => q_rV (As := []) (rest := []) hf (r_breaks _ D h0 q cB cI_ cZ I F pn pe sl K Fm To Rr mo hpv hI2 hI14 hmo hSS _) k_1387 k_1384 k_1386 k_61 k_98 (nA := 0) (by decide +kernel) ⟨Nat.le_of_ble_eq_true rfl, Nat.le_of_ble_eq_true rfl⟩ hK hP (ci := 11) (q0 := 0) rfl rfl rfl hPc hKc hDc (fun _ _ _ _ h => h) (fun _ _ _ => trivial) rfl hl.1 rfl (Nat.le_of_ble_eq_true rfl) dX10_page_24 ⟨Nat.le_of_ble_eq_true rfl, Nat.le_of_ble_eq_true rfl⟩) (by decide) (by decide) (fun u H locs hw hK hP hD hS => ?_)
      obtain ⟨C, Pg, g30, w1, w2, w3, w4, g35, g36, g37, eC, ePg, htab, hcl, hpgis, hpge, rfl⟩ := hw
      have hP : va_P D vcl (mW h0 q cB cI_ cZ (upd (upd I 28 (nI (Pg.length))) 29 (bk_least pn C)) (va_up (va_up (va_up (va_up (va_up (va_up (va_up (va_up F 30 g30) 31 w1) 32 w2) 33 w3) 34 w4) 35 g35) 36 g36) 37 g37)) H := hP
      have hD : va_D A (mW h0 q cB cI_ cZ (upd (upd I 28 (nI (Pg.length))) 29 (bk_least pn C)) (va_up (va_up (va_up (va_up (va_up (va_up (va_up (va_up F 30 g30) 31 w1) 32 w2) 33 w3) 34 w4) 35 g35) 36 g36) 37 g37)) := hD
      have hpgl : Pg.length ≤ 8000 := by rw [ePg]; exact bk_pg_le _ _ _
      refine lv_iload_n hx hb dX10_page_27 rfl (lv_at hl 1 rfl) ?_
      refine lv_iconst (v := 0) hx hb dX10_page_28 (by decide) ?_
      refine lv_aload_n hx hb dX10_page_29 rfl (lv_at hl 0 rfl) ?_
      refine va_get (D := D) (ci := 11) (v := .int (nI (Pg.length))) (C := RX10) (T := TX10) (N := 48) hx hb hts inX10 hown hK hP 0 rfl rfl 28 (by decide) (hts _ k_1172) (fun _ h9 => h9) rfl dX10_page_30 ?_
      refine lv_iconst (v := 1) hx hb dX10_page_33 (by decide) ?_
      refine lv_isub hx hb dX10_page_34 ?_
      refine q_ei (k := 0) (n := 0) hP hS hA (q_rS (wc := []) (tc := []) (As := [.int x1, .int 0, .int ((nI (Pg.length)) - 1)]) (rest := []) hf (m_X10_in_1 _ D x1 0 ((nI (Pg.length)) - 1) _) k_1296 k_1294 k_1295 k_98 (nA := 3) (by decide +kernel) ⟨Nat.le_of_ble_eq_true rfl, Nat.le_of_ble_eq_true rfl⟩ (fun k q h => by simp at h) (hK.sub (tys' := []) [] rfl) (A := A) ⟨fun i j p q h => by simp at h, fun k q h => by simp at h⟩ (fun _ _ _ _ h => h) (fun _ _ _ => trivial) rfl hl.1 rfl (Nat.le_of_ble_eq_true rfl) dX10_page_35 ⟨Nat.le_of_ble_eq_true rfl, Nat.le_of_ble_eq_true rfl⟩) (by decide) (by decide) (fun r u H locs hw hP hS => ?_)
      rcases hw with ⟨c_7, rfl, rfl⟩ | ⟨c_8, c_9, rfl, rfl⟩ | ⟨c_10, c_11, rfl, rfl⟩
      · refine lv_if_ne (tgt := 44) hx hb dX10_page_38 (by decide) (fun hno => absurd hno (by decide)) (fun _ => ?_)
        refine lv_bipush (v := (-2)) hx hb dX10_page_41 (by decide) ?_
        have ePg2 : Pg = (bk_pg Fm To pn (bk_all K Fm To Rr pn mo pn (fun _ => none)) 8000 0 0) := by rw [ePg, eC]
        exact q_zi hf hr rfl hlocks hK hP hD hS (Nat.le_of_ble_eq_true rfl) (Nat.le_of_ble_eq_true rfl) ⟨Or.inr (Or.inr (Or.inl ⟨(fun h9 => h9.elim c_4 c_5), by omega, by rw [← ePg2]; exact ix_no1 (by omega) c_7, rfl⟩)), ⟨(upd (upd I 28 (nI (Pg.length))) 29 (bk_least pn C)), (va_up (va_up (va_up (va_up (va_up (va_up (va_up (va_up F 30 g30) 31 w1) 32 w2) 33 w3) 34 w4) 35 g35) 36 g36) 37 g37), ⟨⟨rfl, rfl, rfl⟩, ⟨rfl, rfl, rfl⟩, ⟨rfl, rfl, rfl, rfl, rfl, rfl, rfl, rfl, rfl, rfl, rfl⟩, rfl, rfl, rfl, rfl⟩, rfl⟩⟩ dX10_page_43
      · refine lv_if_ne (tgt := 44) hx hb dX10_page_38 (by decide) (fun hno => absurd hno (by decide)) (fun _ => ?_)
        refine lv_bipush (v := (-2)) hx hb dX10_page_41 (by decide) ?_
        have ePg2 : Pg = (bk_pg Fm To pn (bk_all K Fm To Rr pn mo pn (fun _ => none)) 8000 0 0) := by rw [ePg, eC]
        exact q_zi hf hr rfl hlocks hK hP hD hS (Nat.le_of_ble_eq_true rfl) (Nat.le_of_ble_eq_true rfl) ⟨Or.inr (Or.inr (Or.inl ⟨(fun h9 => h9.elim c_4 c_5), by omega, by rw [← ePg2]; exact ix_no3 (by omega) c_9, rfl⟩)), ⟨(upd (upd I 28 (nI (Pg.length))) 29 (bk_least pn C)), (va_up (va_up (va_up (va_up (va_up (va_up (va_up (va_up F 30 g30) 31 w1) 32 w2) 33 w3) 34 w4) 35 g35) 36 g36) 37 g37), ⟨⟨rfl, rfl, rfl⟩, ⟨rfl, rfl, rfl⟩, ⟨rfl, rfl, rfl, rfl, rfl, rfl, rfl, rfl, rfl, rfl, rfl⟩, rfl, rfl, rfl, rfl⟩, rfl⟩⟩ dX10_page_43
      · refine lv_if_ne (tgt := 44) hx hb dX10_page_38 (by decide) (fun _ => ?_) (fun hno => absurd hno (by decide))
        obtain ⟨g1, hg1, rfl⟩ := ie_1 (by omega) c_10 c_11
        have hl : lv_has ls 7 [(0, .ref h0), (1, .int (nI g1)), (2, .int x2)] := hl
        have hz9 : ∀ p, p < pn → 0 < To p - Fm p := fun p hp => by have h9 := hpv.2 p hp; omega
        have hpn8 := hpv.1
        have hne0 : bk_pg Fm To pn C 8000 0 0 ≠ [] := fun z9 => by rw [← ePg] at z9; have h9 := congrArg List.length z9; have h9 : Pg.length = 0 := h9; omega
        obtain ⟨f8, y8, ef8, hp8, hy8, _⟩ := bk_pg_c hne0
        have hat0 : pg_at Fm To pn C 0 0 := ⟨Nat.zero_le _, fun _ => rfl, fun h9 => ⟨hz9 0 h9, y8, hy8⟩⟩
        have hok := pg_ok hz9 htab hcl 8000 0 0 hat0 (by show rs_S Fm To pn ≤ rs_S Fm To 0 + 0 + 8000; omega)
        rw [← ePg] at hok
        have hrd := pg_rd hpgis hpge (by omega)
        have hgd := hok.2.2 g1 hg1
        have hord := rs_ord hgd.1 hgd.2.1 hgd.2.2.1 hgd.2.2.2.1 hgd.2.2.2.2.1 hgd.2.2.2.2.2
        have hqn := hgd.2.2.1
        have hpg0 := hgd.1
        have hrw0 := hpv.2 _ hgd.1
        have hrr0 := hgd.2.1
        have hrw1 := fun (h9 : pg_B pn Pg (g1 + 1) < pn) => hpv.2 _ h9
        have hrr1 := hgd.2.2.2.1
        have hr200 : pg_R pn Pg (g1 + 1) ≤ 200 := by
          rcases Nat.lt_or_ge (pg_B pn Pg (g1 + 1)) pn with h9 | h9
          · have h8 := hrw1 h9; have h7 := hrr1 h9; omega
          · have h8 := hgd.2.2.2.2.1 (by omega); omega
        refine lv_aload_n hx hb dX10_page_44 rfl (lv_at hl 0 rfl) ?_
        refine va_get (D := D) (ci := 11) (v := .ref (q 35)) (C := RX10) (T := TX10) (N := 48) hx hb hts inX10 hown hK hP 0 rfl rfl 35 (by decide) (hts _ k_1179) (fun _ h9 => h9) rfl dX10_page_45 ?_
        refine lv_iload_n hx hb dX10_page_48 rfl (lv_at hl 1 rfl) ?_
        refine q_ild (X := g1) (f := g35) hx hb hK hP 24 1 rfl rfl (by omega) (by decide) dX10_page_49 ?_
        refine q_seti (y := (nI (pg_B pn Pg g1))) (hrd g1 (by omega)).1 ?_
        refine lv_istore_n (lv' := [(3, .int (nI (pg_B pn Pg g1))), (0, .ref h0), (1, .int (nI g1)), (2, .int x2)]) hx hb dX10_page_50 rfl hl (by decide) rfl (fun ls hl => ?_)
        refine lv_aload_n hx hb dX10_page_51 rfl (lv_at hl 1 rfl) ?_
        refine va_get (D := D) (ci := 11) (v := .ref (q 36)) (C := RX10) (T := TX10) (N := 48) hx hb hts inX10 hown hK hP 0 rfl rfl 36 (by decide) (hts _ k_1180) (fun _ h9 => h9) rfl dX10_page_52 ?_
        refine lv_iload_n hx hb dX10_page_55 rfl (lv_at hl 2 rfl) ?_
        refine q_ild (X := g1) (f := g36) hx hb hK hP 25 1 rfl rfl (by omega) (by decide) dX10_page_56 ?_
        refine q_seti (y := (nI (pg_R pn Pg g1))) (hrd g1 (by omega)).2 ?_
        refine lv_istore (lv' := [(4, .int (nI (pg_R pn Pg g1))), (3, .int (nI (pg_B pn Pg g1))), (0, .ref h0), (1, .int (nI g1)), (2, .int x2)]) hx hb dX10_page_57 hl (by decide) rfl (fun ls hl => ?_)
        refine lv_aload_n hx hb dX10_page_59 rfl (lv_at hl 2 rfl) ?_
        refine va_get (D := D) (ci := 11) (v := .ref (q 35)) (C := RX10) (T := TX10) (N := 48) hx hb hts inX10 hown hK hP 0 rfl rfl 35 (by decide) (hts _ k_1179) (fun _ h9 => h9) rfl dX10_page_60 ?_
        refine lv_iload_n hx hb dX10_page_63 rfl (lv_at hl 3 rfl) ?_
        refine lv_iconst (v := 1) hx hb dX10_page_64 (by decide) ?_
        refine lv_iadd hx hb dX10_page_65 ?_
        refine q_seti (y := nI (g1 + 1)) (nI_add g1 1) ?_
        refine q_ild (X := g1 + 1) (f := g35) hx hb hK hP 24 1 rfl rfl (by omega) (by decide) dX10_page_66 ?_
        refine q_seti (y := (nI (pg_B pn Pg (g1 + 1)))) (hrd (g1 + 1) (by omega)).1 ?_
        refine lv_istore (lv' := [(5, .int (nI (pg_B pn Pg (g1 + 1)))), (4, .int (nI (pg_R pn Pg g1))), (3, .int (nI (pg_B pn Pg g1))), (0, .ref h0), (1, .int (nI g1)), (2, .int x2)]) hx hb dX10_page_67 hl (by decide) rfl (fun ls hl => ?_)
        refine lv_aload_n hx hb dX10_page_69 rfl (lv_at hl 3 rfl) ?_
        refine va_get (D := D) (ci := 11) (v := .ref (q 36)) (C := RX10) (T := TX10) (N := 48) hx hb hts inX10 hown hK hP 0 rfl rfl 36 (by decide) (hts _ k_1180) (fun _ h9 => h9) rfl dX10_page_70 ?_
        refine lv_iload_n hx hb dX10_page_73 rfl (lv_at hl 4 rfl) ?_
        refine lv_iconst (v := 1) hx hb dX10_page_74 (by decide) ?_
        refine lv_iadd hx hb dX10_page_75 ?_
        refine q_seti (y := nI (g1 + 1)) (nI_add g1 1) ?_
        refine q_ild (X := g1 + 1) (f := g36) hx hb hK hP 25 1 rfl rfl (by omega) (by decide) dX10_page_76 ?_
        refine q_seti (y := (nI (pg_R pn Pg (g1 + 1)))) (hrd (g1 + 1) (by omega)).2 ?_
        refine lv_istore (lv' := [(6, .int (nI (pg_R pn Pg (g1 + 1)))), (5, .int (nI (pg_B pn Pg (g1 + 1)))), (4, .int (nI (pg_R pn Pg g1))), (3, .int (nI (pg_B pn Pg g1))), (0, .ref h0), (1, .int (nI g1)), (2, .int x2)]) hx hb dX10_page_77 hl (by decide) rfl (fun ls hl => ?_)
        refine lv_iload_n hx hb dX10_page_79 rfl (lv_at hl 6 rfl) ?_
        rcases q_sw_0_5 x2 with c_12 | c_12 | c_12 | c_12 | c_12 | c_12 | c_12
        · refine q_seti (y := 0) c_12 ?_
          refine lv_tableIn (off := 40) (tgt := 120) hx hb dX10_page_80 (by decide) (by decide) (by decide) (by decide) ?_
          refine lv_aload_n hx hb dX10_page_120 rfl (lv_at hl 4 rfl) ?_
          refine va_get (D := D) (ci := 11) (v := .ref (q 37)) (C := RX10) (T := TX10) (N := 48) hx hb hts inX10 hown hK hP 0 rfl rfl 37 (by decide) (hts _ k_1181) (fun _ h9 => h9) rfl dX10_page_121 ?_
          refine lv_iload_n hx hb dX10_page_124 rfl (lv_at hl 5 rfl) ?_
          refine q_ild (X := g1) (f := g37) hx hb hK hP 26 1 rfl rfl (by omega) (by decide) dX10_page_125 ?_
          refine q_seti (y := (nI (((Pg.getD g1 (0, 0, 0)).2.2)))) (hpgis g1 (by omega)).2.2 ?_
          have ePg2 : Pg = (bk_pg Fm To pn (bk_all K Fm To Rr pn mo pn (fun _ => none)) 8000 0 0) := by rw [ePg, eC]
          exact q_zi hf hr rfl hlocks hK hP hD hS (Nat.le_of_ble_eq_true rfl) (Nat.le_of_ble_eq_true rfl) ⟨Or.inr (Or.inr (Or.inr ⟨g1, (fun h9 => h9.elim c_4 c_5), by omega, by rw [← ePg2]; exact hg1, rfl, by rw [← ePg2]; exact (pgV_0 c_12).symm⟩)), ⟨(upd (upd I 28 (nI (Pg.length))) 29 (bk_least pn C)), (va_up (va_up (va_up (va_up (va_up (va_up (va_up (va_up F 30 g30) 31 w1) 32 w2) 33 w3) 34 w4) 35 g35) 36 g36) 37 g37), ⟨⟨rfl, rfl, rfl⟩, ⟨rfl, rfl, rfl⟩, ⟨rfl, rfl, rfl, rfl, rfl, rfl, rfl, rfl, rfl, rfl, rfl⟩, rfl, rfl, rfl, rfl⟩, rfl⟩⟩ dX10_page_126
        · refine q_seti (y := 1) c_12 ?_
          refine lv_tableIn (off := 47) (tgt := 127) hx hb dX10_page_80 (by decide) (by decide) (by decide) (by decide) ?_
          refine lv_iload_n hx hb dX10_page_127 rfl (lv_at hl 3 rfl) ?_
          have ePg2 : Pg = (bk_pg Fm To pn (bk_all K Fm To Rr pn mo pn (fun _ => none)) 8000 0 0) := by rw [ePg, eC]
          exact q_zi hf hr rfl hlocks hK hP hD hS (Nat.le_of_ble_eq_true rfl) (Nat.le_of_ble_eq_true rfl) ⟨Or.inr (Or.inr (Or.inr ⟨g1, (fun h9 => h9.elim c_4 c_5), by omega, by rw [← ePg2]; exact hg1, rfl, by rw [← ePg2]; exact (pgV_1 c_12).symm⟩)), ⟨(upd (upd I 28 (nI (Pg.length))) 29 (bk_least pn C)), (va_up (va_up (va_up (va_up (va_up (va_up (va_up (va_up F 30 g30) 31 w1) 32 w2) 33 w3) 34 w4) 35 g35) 36 g36) 37 g37), ⟨⟨rfl, rfl, rfl⟩, ⟨rfl, rfl, rfl⟩, ⟨rfl, rfl, rfl, rfl, rfl, rfl, rfl, rfl, rfl, rfl, rfl⟩, rfl, rfl, rfl, rfl⟩, rfl⟩⟩ dX10_page_128
        · refine q_seti (y := 2) c_12 ?_
          refine lv_tableIn (off := 49) (tgt := 129) hx hb dX10_page_80 (by decide) (by decide) (by decide) (by decide) ?_
          refine lv_iload hx hb dX10_page_129 (lv_at hl 2 rfl) ?_
          have ePg2 : Pg = (bk_pg Fm To pn (bk_all K Fm To Rr pn mo pn (fun _ => none)) 8000 0 0) := by rw [ePg, eC]
          exact q_zi hf hr rfl hlocks hK hP hD hS (Nat.le_of_ble_eq_true rfl) (Nat.le_of_ble_eq_true rfl) ⟨Or.inr (Or.inr (Or.inr ⟨g1, (fun h9 => h9.elim c_4 c_5), by omega, by rw [← ePg2]; exact hg1, rfl, by rw [← ePg2]; exact (pgV_2 c_12).symm⟩)), ⟨(upd (upd I 28 (nI (Pg.length))) 29 (bk_least pn C)), (va_up (va_up (va_up (va_up (va_up (va_up (va_up (va_up F 30 g30) 31 w1) 32 w2) 33 w3) 34 w4) 35 g35) 36 g36) 37 g37), ⟨⟨rfl, rfl, rfl⟩, ⟨rfl, rfl, rfl⟩, ⟨rfl, rfl, rfl, rfl, rfl, rfl, rfl, rfl, rfl, rfl, rfl⟩, rfl, rfl, rfl, rfl⟩, rfl⟩⟩ dX10_page_131
        · refine q_seti (y := 3) c_12 ?_
          refine lv_tableIn (off := 52) (tgt := 132) hx hb dX10_page_80 (by decide) (by decide) (by decide) (by decide) ?_
          refine lv_iload hx hb dX10_page_132 (lv_at hl 0 rfl) ?_
          refine lv_if_ne (tgt := 144) hx hb dX10_page_134 (by decide) (fun c_13 => ?_) (fun c_13 => ?_)
          · have c_13 := q_nen (a := pg_R pn Pg (g1 + 1)) (b := 0) (by omega) (by omega) c_13
            refine lv_iload hx hb dX10_page_144 (lv_at hl 1 rfl) ?_
            have ePg2 : Pg = (bk_pg Fm To pn (bk_all K Fm To Rr pn mo pn (fun _ => none)) 8000 0 0) := by rw [ePg, eC]
            exact q_zi hf hr rfl hlocks hK hP hD hS (Nat.le_of_ble_eq_true rfl) (Nat.le_of_ble_eq_true rfl) ⟨Or.inr (Or.inr (Or.inr ⟨g1, (fun h9 => h9.elim c_4 c_5), by omega, by rw [← ePg2]; exact hg1, rfl, by rw [← ePg2]; exact (pgV_3b c_12 (by omega)).symm⟩)), ⟨(upd (upd I 28 (nI (Pg.length))) 29 (bk_least pn C)), (va_up (va_up (va_up (va_up (va_up (va_up (va_up (va_up F 30 g30) 31 w1) 32 w2) 33 w3) 34 w4) 35 g35) 36 g36) 37 g37), ⟨⟨rfl, rfl, rfl⟩, ⟨rfl, rfl, rfl⟩, ⟨rfl, rfl, rfl, rfl, rfl, rfl, rfl, rfl, rfl, rfl, rfl⟩, rfl, rfl, rfl, rfl⟩, rfl⟩⟩ dX10_page_146
          · have c_13 := q_eqn (a := pg_R pn Pg (g1 + 1)) (b := 0) (by omega) (by omega) c_13
            have hq2 : 1 ≤ pg_B pn Pg (g1 + 1) := by
              have h9 := hord.1
              by_cases c9 : pg_B pn Pg g1 = pg_B pn Pg (g1 + 1)
              · have h8 := hord.2 c9; omega
              · omega
            refine lv_iload hx hb dX10_page_137 (lv_at hl 1 rfl) ?_
            refine lv_iconst (v := 1) hx hb dX10_page_139 (by decide) ?_
            refine lv_isub hx hb dX10_page_140 ?_
            refine q_seti (y := nI ((pg_B pn Pg (g1 + 1)) - 1)) (pk_sub (a := pg_B pn Pg (g1 + 1)) (b := 1) (by omega)) ?_
            refine lv_goto (tgt := 146) hx hb dX10_page_141 (by decide) ?_
            have ePg2 : Pg = (bk_pg Fm To pn (bk_all K Fm To Rr pn mo pn (fun _ => none)) 8000 0 0) := by rw [ePg, eC]
            exact q_zi hf hr rfl hlocks hK hP hD hS (Nat.le_of_ble_eq_true rfl) (Nat.le_of_ble_eq_true rfl) ⟨Or.inr (Or.inr (Or.inr ⟨g1, (fun h9 => h9.elim c_4 c_5), by omega, by rw [← ePg2]; exact hg1, rfl, by rw [← ePg2]; exact (pgV_3a c_12 (by omega)).symm⟩)), ⟨(upd (upd I 28 (nI (Pg.length))) 29 (bk_least pn C)), (va_up (va_up (va_up (va_up (va_up (va_up (va_up (va_up F 30 g30) 31 w1) 32 w2) 33 w3) 34 w4) 35 g35) 36 g36) 37 g37), ⟨⟨rfl, rfl, rfl⟩, ⟨rfl, rfl, rfl⟩, ⟨rfl, rfl, rfl, rfl, rfl, rfl, rfl, rfl, rfl, rfl, rfl⟩, rfl, rfl, rfl, rfl⟩, rfl⟩⟩ dX10_page_146
        · refine q_seti (y := 4) c_12 ?_
          refine lv_tableIn (off := 67) (tgt := 147) hx hb dX10_page_80 (by decide) (by decide) (by decide) (by decide) ?_
          refine lv_iload hx hb dX10_page_147 (lv_at hl 0 rfl) ?_
          refine lv_if_ne (tgt := 163) hx hb dX10_page_149 (by decide) (fun c_14 => ?_) (fun c_14 => ?_)
          · have c_14 := q_nen (a := pg_R pn Pg (g1 + 1)) (b := 0) (by omega) (by omega) c_14
            refine lv_iload hx hb dX10_page_163 (lv_at hl 0 rfl) ?_
            have ePg2 : Pg = (bk_pg Fm To pn (bk_all K Fm To Rr pn mo pn (fun _ => none)) 8000 0 0) := by rw [ePg, eC]
            exact q_zi hf hr rfl hlocks hK hP hD hS (Nat.le_of_ble_eq_true rfl) (Nat.le_of_ble_eq_true rfl) ⟨Or.inr (Or.inr (Or.inr ⟨g1, (fun h9 => h9.elim c_4 c_5), by omega, by rw [← ePg2]; exact hg1, rfl, by rw [← ePg2]; exact (pgV_4b (sz := (fun p => To p - Fm p)) c_12 (by omega)).symm⟩)), ⟨(upd (upd I 28 (nI (Pg.length))) 29 (bk_least pn C)), (va_up (va_up (va_up (va_up (va_up (va_up (va_up (va_up F 30 g30) 31 w1) 32 w2) 33 w3) 34 w4) 35 g35) 36 g36) 37 g37), ⟨⟨rfl, rfl, rfl⟩, ⟨rfl, rfl, rfl⟩, ⟨rfl, rfl, rfl, rfl, rfl, rfl, rfl, rfl, rfl, rfl, rfl⟩, rfl, rfl, rfl, rfl⟩, rfl⟩⟩ dX10_page_165
          · have c_14 := q_eqn (a := pg_R pn Pg (g1 + 1)) (b := 0) (by omega) (by omega) c_14
            have hq2 : 1 ≤ pg_B pn Pg (g1 + 1) := by
              have h9 := hord.1
              by_cases c9 : pg_B pn Pg g1 = pg_B pn Pg (g1 + 1)
              · have h8 := hord.2 c9; omega
              · omega
            refine lv_aload_n hx hb dX10_page_152 rfl (lv_at hl 4 rfl) ?_
            refine lv_iload hx hb dX10_page_153 (lv_at hl 1 rfl) ?_
            refine lv_iconst (v := 1) hx hb dX10_page_155 (by decide) ?_
            refine lv_isub hx hb dX10_page_156 ?_
            refine q_seti (y := nI ((pg_B pn Pg (g1 + 1)) - 1)) (pk_sub (a := pg_B pn Pg (g1 + 1)) (b := 1) (by omega)) ?_
            refine q_ci (k := 0) (n := 0) hK hP hD hS hA (fun hPc hKc hDc => q_rV (As := [.int (nI ((pg_B pn Pg (g1 + 1)) - 1))]) (rest := []) hf (r_size _ D h0 q cB cI_ cZ (upd (upd I 28 (nI (Pg.length))) 29 (bk_least pn C)) (va_up (va_up (va_up (va_up (va_up (va_up (va_up (va_up F 30 g30) 31 w1) 32 w2) 33 w3) 34 w4) 35 g35) 36 g36) 37 g37) pn pe sl K Fm To Rr ((pg_B pn Pg (g1 + 1)) - 1) hpv (by omega) _) k_1391 k_1388 k_1390 k_62 k_98 (nA := 1) (by decide +kernel) ⟨Nat.le_of_ble_eq_true rfl, Nat.le_of_ble_eq_true rfl⟩ hK hP (ci := 11) (q0 := 0) rfl rfl rfl hPc hKc hDc (fun _ _ _ _ h => h) (fun _ _ _ => trivial) rfl hl.1 rfl (Nat.le_of_ble_eq_true rfl) dX10_page_157 ⟨Nat.le_of_ble_eq_true rfl, Nat.le_of_ble_eq_true rfl⟩) (by decide) (by decide) (fun r u H locs hw hK hP hD hS => ?_)
            obtain ⟨rfl, rfl⟩ := hw
            have hP : va_P D vcl (mW h0 q cB cI_ cZ (upd (upd I 28 (nI (Pg.length))) 29 (bk_least pn C)) (va_up (va_up (va_up (va_up (va_up (va_up (va_up (va_up F 30 g30) 31 w1) 32 w2) 33 w3) 34 w4) 35 g35) 36 g36) 37 g37)) H := hP
            have hD : va_D A (mW h0 q cB cI_ cZ (upd (upd I 28 (nI (Pg.length))) 29 (bk_least pn C)) (va_up (va_up (va_up (va_up (va_up (va_up (va_up (va_up F 30 g30) 31 w1) 32 w2) 33 w3) 34 w4) 35 g35) 36 g36) 37 g37)) := hD
            refine lv_goto (tgt := 165) hx hb dX10_page_160 (by decide) ?_
            have ePg2 : Pg = (bk_pg Fm To pn (bk_all K Fm To Rr pn mo pn (fun _ => none)) 8000 0 0) := by rw [ePg, eC]
            exact q_zi hf hr rfl hlocks hK hP hD hS (Nat.le_of_ble_eq_true rfl) (Nat.le_of_ble_eq_true rfl) ⟨Or.inr (Or.inr (Or.inr ⟨g1, (fun h9 => h9.elim c_4 c_5), by omega, by rw [← ePg2]; exact hg1, rfl, by rw [← ePg2]; exact (pgV_4a (sz := (fun p => To p - Fm p)) c_12 (by omega)).symm⟩)), ⟨(upd (upd I 28 (nI (Pg.length))) 29 (bk_least pn C)), (va_up (va_up (va_up (va_up (va_up (va_up (va_up (va_up F 30 g30) 31 w1) 32 w2) 33 w3) 34 w4) 35 g35) 36 g36) 37 g37), ⟨⟨rfl, rfl, rfl⟩, ⟨rfl, rfl, rfl⟩, ⟨rfl, rfl, rfl, rfl, rfl, rfl, rfl, rfl, rfl, rfl, rfl⟩, rfl, rfl, rfl, rfl⟩, rfl⟩⟩ dX10_page_165
        · refine q_seti (y := 5) c_12 ?_
          refine lv_tableIn (off := 86) (tgt := 166) hx hb dX10_page_80 (by decide) (by decide) (by decide) (by decide) ?_
          refine lv_iload hx hb dX10_page_166 (lv_at hl 2 rfl) ?_
          refine lv_if_le (tgt := 184) hx hb dX10_page_168 (by decide) (fun c_15 => ?_) (fun c_15 => ?_)
          · have c_15 := q_le (a := pg_R pn Pg g1) (b := 0) (by omega) (by omega) c_15
            refine lv_iconst (v := 0) hx hb dX10_page_184 (by decide) ?_
            have ePg2 : Pg = (bk_pg Fm To pn (bk_all K Fm To Rr pn mo pn (fun _ => none)) 8000 0 0) := by rw [ePg, eC]
            exact q_zi hf hr rfl hlocks hK hP hD hS (Nat.le_of_ble_eq_true rfl) (Nat.le_of_ble_eq_true rfl) ⟨Or.inr (Or.inr (Or.inr ⟨g1, (fun h9 => h9.elim c_4 c_5), by omega, by rw [← ePg2]; exact hg1, rfl, by rw [← ePg2]; exact (pgV_5b c_12 (fun h9 => absurd h9.1 (by omega))).symm⟩)), ⟨(upd (upd I 28 (nI (Pg.length))) 29 (bk_least pn C)), (va_up (va_up (va_up (va_up (va_up (va_up (va_up (va_up F 30 g30) 31 w1) 32 w2) 33 w3) 34 w4) 35 g35) 36 g36) 37 g37), ⟨⟨rfl, rfl, rfl⟩, ⟨rfl, rfl, rfl⟩, ⟨rfl, rfl, rfl, rfl, rfl, rfl, rfl, rfl, rfl, rfl, rfl⟩, rfl, rfl, rfl, rfl⟩, rfl⟩⟩ dX10_page_185
          · have c_15 := q_nle (a := pg_R pn Pg g1) (b := 0) (by omega) (by omega) c_15
            refine lv_aload_n hx hb dX10_page_171 rfl (lv_at hl 4 rfl) ?_
            refine lv_iload_n hx hb dX10_page_172 rfl (lv_at hl 3 rfl) ?_
            refine q_ci (k := 0) (n := 0) hK hP hD hS hA (fun hPc hKc hDc => q_rV (As := [.int (nI (pg_B pn Pg g1))]) (rest := []) hf (r_kindOf _ D h0 q cB cI_ cZ (upd (upd I 28 (nI (Pg.length))) 29 (bk_least pn C)) (va_up (va_up (va_up (va_up (va_up (va_up (va_up (va_up F 30 g30) 31 w1) 32 w2) 33 w3) 34 w4) 35 g35) 36 g36) 37 g37) pn pe sl K Fm To Rr (pg_B pn Pg g1) hpv (by omega) _) k_1403 k_1400 k_1402 k_65 k_98 (nA := 1) (by decide +kernel) ⟨Nat.le_of_ble_eq_true rfl, Nat.le_of_ble_eq_true rfl⟩ hK hP (ci := 11) (q0 := 0) rfl rfl rfl hPc hKc hDc (fun _ _ _ _ h => h) (fun _ _ _ => trivial) rfl hl.1 rfl (Nat.le_of_ble_eq_true rfl) dX10_page_173 ⟨Nat.le_of_ble_eq_true rfl, Nat.le_of_ble_eq_true rfl⟩) (by decide) (by decide) (fun r u H locs hw hK hP hD hS => ?_)
            obtain ⟨rfl, rfl⟩ := hw
            have hP : va_P D vcl (mW h0 q cB cI_ cZ (upd (upd I 28 (nI (Pg.length))) 29 (bk_least pn C)) (va_up (va_up (va_up (va_up (va_up (va_up (va_up (va_up F 30 g30) 31 w1) 32 w2) 33 w3) 34 w4) 35 g35) 36 g36) 37 g37)) H := hP
            have hD : va_D A (mW h0 q cB cI_ cZ (upd (upd I 28 (nI (Pg.length))) 29 (bk_least pn C)) (va_up (va_up (va_up (va_up (va_up (va_up (va_up (va_up F 30 g30) 31 w1) 32 w2) 33 w3) 34 w4) 35 g35) 36 g36) 37 g37)) := hD
            refine lv_iconst (v := 4) hx hb dX10_page_176 (by decide) ?_
            refine lv_icmp_ne (tgt := 184) hx hb dX10_page_177 (by decide) (fun c_16 => ?_) (fun c_16 => ?_)
            · refine lv_iconst (v := 0) hx hb dX10_page_184 (by decide) ?_
              have ePg2 : Pg = (bk_pg Fm To pn (bk_all K Fm To Rr pn mo pn (fun _ => none)) 8000 0 0) := by rw [ePg, eC]
              exact q_zi hf hr rfl hlocks hK hP hD hS (Nat.le_of_ble_eq_true rfl) (Nat.le_of_ble_eq_true rfl) ⟨Or.inr (Or.inr (Or.inr ⟨g1, (fun h9 => h9.elim c_4 c_5), by omega, by rw [← ePg2]; exact hg1, rfl, by rw [← ePg2]; exact (pgV_5b c_12 (fun h9 => c_16 h9.2)).symm⟩)), ⟨(upd (upd I 28 (nI (Pg.length))) 29 (bk_least pn C)), (va_up (va_up (va_up (va_up (va_up (va_up (va_up (va_up F 30 g30) 31 w1) 32 w2) 33 w3) 34 w4) 35 g35) 36 g36) 37 g37), ⟨⟨rfl, rfl, rfl⟩, ⟨rfl, rfl, rfl⟩, ⟨rfl, rfl, rfl, rfl, rfl, rfl, rfl, rfl, rfl, rfl, rfl⟩, rfl, rfl, rfl, rfl⟩, rfl⟩⟩ dX10_page_185
            · refine lv_iconst (v := 1) hx hb dX10_page_180 (by decide) ?_
              refine lv_goto (tgt := 185) hx hb dX10_page_181 (by decide) ?_
              have ePg2 : Pg = (bk_pg Fm To pn (bk_all K Fm To Rr pn mo pn (fun _ => none)) 8000 0 0) := by rw [ePg, eC]
              exact q_zi hf hr rfl hlocks hK hP hD hS (Nat.le_of_ble_eq_true rfl) (Nat.le_of_ble_eq_true rfl) ⟨Or.inr (Or.inr (Or.inr ⟨g1, (fun h9 => h9.elim c_4 c_5), by omega, by rw [← ePg2]; exact hg1, rfl, by rw [← ePg2]; exact (pgV_5a c_12 ⟨by omega, c_16⟩).symm⟩)), ⟨(upd (upd I 28 (nI (Pg.length))) 29 (bk_least pn C)), (va_up (va_up (va_up (va_up (va_up (va_up (va_up (va_up F 30 g30) 31 w1) 32 w2) 33 w3) 34 w4) 35 g35) 36 g36) 37 g37), ⟨⟨rfl, rfl, rfl⟩, ⟨rfl, rfl, rfl⟩, ⟨rfl, rfl, rfl, rfl, rfl, rfl, rfl, rfl, rfl, rfl, rfl⟩, rfl, rfl, rfl, rfl⟩, rfl⟩⟩ dX10_page_185
        · refine lv_tableOut (tgt := 186) hx hb dX10_page_80 c_12 (by decide) ?_
          refine lv_iload hx hb dX10_page_186 (lv_at hl 0 rfl) ?_
          refine lv_if_le (tgt := 205) hx hb dX10_page_188 (by decide) (fun c_17 => ?_) (fun c_17 => ?_)
          · have c_17 := q_le (a := pg_R pn Pg (g1 + 1)) (b := 0) (by omega) (by omega) c_17
            refine lv_iconst (v := 0) hx hb dX10_page_205 (by decide) ?_
            have ePg2 : Pg = (bk_pg Fm To pn (bk_all K Fm To Rr pn mo pn (fun _ => none)) 8000 0 0) := by rw [ePg, eC]
            exact q_zi hf hr rfl hlocks hK hP hD hS (Nat.le_of_ble_eq_true rfl) (Nat.le_of_ble_eq_true rfl) ⟨Or.inr (Or.inr (Or.inr ⟨g1, (fun h9 => h9.elim c_4 c_5), by omega, by rw [← ePg2]; exact hg1, rfl, by rw [← ePg2]; exact (pgV_6b c_12 (fun h9 => absurd h9.1 (by omega))).symm⟩)), ⟨(upd (upd I 28 (nI (Pg.length))) 29 (bk_least pn C)), (va_up (va_up (va_up (va_up (va_up (va_up (va_up (va_up F 30 g30) 31 w1) 32 w2) 33 w3) 34 w4) 35 g35) 36 g36) 37 g37), ⟨⟨rfl, rfl, rfl⟩, ⟨rfl, rfl, rfl⟩, ⟨rfl, rfl, rfl, rfl, rfl, rfl, rfl, rfl, rfl, rfl, rfl⟩, rfl, rfl, rfl, rfl⟩, rfl⟩⟩ dX10_page_206
          · have c_17 := q_nle (a := pg_R pn Pg (g1 + 1)) (b := 0) (by omega) (by omega) c_17
            have hq3 : pg_B pn Pg (g1 + 1) < pn := by
              by_cases c9 : pg_B pn Pg (g1 + 1) = pn
              · have h8 := hgd.2.2.2.2.1 c9; omega
              · omega
            refine lv_aload_n hx hb dX10_page_191 rfl (lv_at hl 4 rfl) ?_
            refine lv_iload hx hb dX10_page_192 (lv_at hl 1 rfl) ?_
            refine q_ci (k := 0) (n := 0) hK hP hD hS hA (fun hPc hKc hDc => q_rV (As := [.int (nI (pg_B pn Pg (g1 + 1)))]) (rest := []) hf (r_kindOf _ D h0 q cB cI_ cZ (upd (upd I 28 (nI (Pg.length))) 29 (bk_least pn C)) (va_up (va_up (va_up (va_up (va_up (va_up (va_up (va_up F 30 g30) 31 w1) 32 w2) 33 w3) 34 w4) 35 g35) 36 g36) 37 g37) pn pe sl K Fm To Rr (pg_B pn Pg (g1 + 1)) hpv (by omega) _) k_1403 k_1400 k_1402 k_65 k_98 (nA := 1) (by decide +kernel) ⟨Nat.le_of_ble_eq_true rfl, Nat.le_of_ble_eq_true rfl⟩ hK hP (ci := 11) (q0 := 0) rfl rfl rfl hPc hKc hDc (fun _ _ _ _ h => h) (fun _ _ _ => trivial) rfl hl.1 rfl (Nat.le_of_ble_eq_true rfl) dX10_page_194 ⟨Nat.le_of_ble_eq_true rfl, Nat.le_of_ble_eq_true rfl⟩) (by decide) (by decide) (fun r u H locs hw hK hP hD hS => ?_)
            obtain ⟨rfl, rfl⟩ := hw
            have hP : va_P D vcl (mW h0 q cB cI_ cZ (upd (upd I 28 (nI (Pg.length))) 29 (bk_least pn C)) (va_up (va_up (va_up (va_up (va_up (va_up (va_up (va_up F 30 g30) 31 w1) 32 w2) 33 w3) 34 w4) 35 g35) 36 g36) 37 g37)) H := hP
            have hD : va_D A (mW h0 q cB cI_ cZ (upd (upd I 28 (nI (Pg.length))) 29 (bk_least pn C)) (va_up (va_up (va_up (va_up (va_up (va_up (va_up (va_up F 30 g30) 31 w1) 32 w2) 33 w3) 34 w4) 35 g35) 36 g36) 37 g37)) := hD
            refine lv_iconst (v := 4) hx hb dX10_page_197 (by decide) ?_
            refine lv_icmp_ne (tgt := 205) hx hb dX10_page_198 (by decide) (fun c_18 => ?_) (fun c_18 => ?_)
            · refine lv_iconst (v := 0) hx hb dX10_page_205 (by decide) ?_
              have ePg2 : Pg = (bk_pg Fm To pn (bk_all K Fm To Rr pn mo pn (fun _ => none)) 8000 0 0) := by rw [ePg, eC]
              exact q_zi hf hr rfl hlocks hK hP hD hS (Nat.le_of_ble_eq_true rfl) (Nat.le_of_ble_eq_true rfl) ⟨Or.inr (Or.inr (Or.inr ⟨g1, (fun h9 => h9.elim c_4 c_5), by omega, by rw [← ePg2]; exact hg1, rfl, by rw [← ePg2]; exact (pgV_6b c_12 (fun h9 => c_18 h9.2)).symm⟩)), ⟨(upd (upd I 28 (nI (Pg.length))) 29 (bk_least pn C)), (va_up (va_up (va_up (va_up (va_up (va_up (va_up (va_up F 30 g30) 31 w1) 32 w2) 33 w3) 34 w4) 35 g35) 36 g36) 37 g37), ⟨⟨rfl, rfl, rfl⟩, ⟨rfl, rfl, rfl⟩, ⟨rfl, rfl, rfl, rfl, rfl, rfl, rfl, rfl, rfl, rfl, rfl⟩, rfl, rfl, rfl, rfl⟩, rfl⟩⟩ dX10_page_206
            · refine lv_iconst (v := 1) hx hb dX10_page_201 (by decide) ?_
              refine lv_goto (tgt := 206) hx hb dX10_page_202 (by decide) ?_
              have ePg2 : Pg = (bk_pg Fm To pn (bk_all K Fm To Rr pn mo pn (fun _ => none)) 8000 0 0) := by rw [ePg, eC]
              exact q_zi hf hr rfl hlocks hK hP hD hS (Nat.le_of_ble_eq_true rfl) (Nat.le_of_ble_eq_true rfl) ⟨Or.inr (Or.inr (Or.inr ⟨g1, (fun h9 => h9.elim c_4 c_5), by omega, by rw [← ePg2]; exact hg1, rfl, by rw [← ePg2]; exact (pgV_6a c_12 ⟨by omega, c_18⟩).symm⟩)), ⟨(upd (upd I 28 (nI (Pg.length))) 29 (bk_least pn C)), (va_up (va_up (va_up (va_up (va_up (va_up (va_up (va_up F 30 g30) 31 w1) 32 w2) 33 w3) 34 w4) 35 g35) 36 g36) 37 g37), ⟨⟨rfl, rfl, rfl⟩, ⟨rfl, rfl, rfl⟩, ⟨rfl, rfl, rfl, rfl, rfl, rfl, rfl, rfl, rfl, rfl, rfl⟩, rfl, rfl, rfl, rfl⟩, rfl⟩⟩ dX10_page_206
    · have c_6 := q_nen (a := lk) (b := 0) (by omega) (by omega) c_6
      refine lv_bipush (v := (-3)) hx hb dX10_page_20 (by decide) ?_
      exact q_zi hf hr rfl hlocks hK hP hD hS (Nat.le_of_ble_eq_true rfl) (Nat.le_of_ble_eq_true rfl) ⟨Or.inr (Or.inl ⟨(fun h9 => h9.elim c_4 c_5), by omega, rfl⟩), ⟨I, F, ⟨⟨rfl, rfl, rfl⟩, ⟨rfl, rfl, rfl⟩, ⟨rfl, rfl, rfl, rfl, rfl, rfl, rfl, rfl, rfl, rfl, rfl⟩, rfl, rfl, rfl, rfl⟩, rfl⟩⟩ dX10_page_22
set_option maxHeartbeats 1000000 in
set_option maxRecDepth 100000 in
theorem d_pageU2 (l : Launch) (D : va_G) (z : Nat → Nat) (cB cI_ cO : ClassId) (L0 : List Nat) (g0 : hG) (dk tp rd els reo nob bk gl sl mo : Nat) (pr pcs spr nwh cp : Nat) (pa : List Nat) (ea : Nat → Nat) (P : List Q4) (ne : Nat) (EE : Nat → E5) (lf : Nat) (x1 x2 x3 x4 x5 x6 v11 : Int32) (i1 i2 : Int32) (h_dk : ho L0 g0 dk 1 (.inr (10, [.ref tp, .ref rd, .ref els, .ref reo, .ref nob, .ref pr, .ref bk, .ref gl, .ref sl, .int (nI mo), .int 0, .int v11]))) (h_pr : ho L0 g0 pr 13 (.inr (7, [.ref pcs, .ref spr, .ref nwh]))) (h_pcs : alR cO (z 0) 14 15 L0 g0 pcs cp pa) (h_pc : pcR L0 g0 ea pa P) (h_es : esR cB cI_ L0 g0 ea ne EE) (h_lf : ho L0 g0 lf 20 (.inr (4, [.ref pr, .int x1, .int x2, .int x3, .int x4, .int x5, .int x6]))) (h_bs : bkS cI_ L0 g0 pr bk lf EE P pa.length mo) (hpa60 : pa.length ≤ 60) (hpa : pa.length ≤ 20000) (hQ : pq_ok ne EE P) (hU : pu_ok EE P) (hSb : ∀ i, i ≤ pa.length → qS P i ≤ 8000) (hmo1 : 10 ≤ mo) (hmo : mo ≤ 40) : eI l D yX9_page cX9_page 3 (some .int) 11 323 2 (4 * qS P pa.length) [.ref dk, .int i1, .int i2] z cB cI_ cO L0 g0 (fun r L g => pgC 0 (pgl EE P pa.length mo) pa.length (fun p => (P.getD p d4).2.2.1 - (P.getD p d4).2.1) (qK EE P) i1 i2 r ∧ ((L = L0 ∧ g = g0) ∨ ∃ (y9 y10 u1 u2 u3 u4 u5 u6 : Int32) (C : Nat → Option Q4) (cn : Nat), fr [20, 21, 22, 23, 24] L0 g0 L g ∧ bkK cI_ L g pr bk lf EE P pa.length mo y9 y10 C cn ∧ ho L g lf 20 (.inr (4, [.ref pr, .int u1, .int u2, .int u3, .int u4, .int u5, .int u6])))) := by
  refine o_si (by decide) (Nat.le_of_ble_eq_true rfl) ?_
  intro p e s m below meth c A ls hf hr hlocks hin hK hP hD hS hA hZ hN hl
  obtain ⟨hx, hb, hml, hown, hts⟩ := id hf
  have hl : lv_has ls 3 [(0, .ref dk), (1, .int i1), (2, .int i2)] := hl
  have hfr : fr [20, 21, 22, 23, 24] L0 g0 L0 g0 := fr.rf
  refine lv_iload_n hx hb dX9_page_0 rfl (lv_at hl 2 rfl) ?_
  refine lv_if_lt (tgt := 10) hx hb dX9_page_1 (by decide) (fun c_1 => ?_) (fun c_1 => ?_)
  · refine lv_bipush (v := (-2)) hx hb dX9_page_10 (by decide) ?_
    exact o_ri hf hr rfl hlocks hK hP hD hS (show 0 ≤ 2 by omega) (show 0 ≤ 4 * qS P pa.length by omega) ⟨Or.inl ⟨Or.inl c_1, rfl⟩, Or.inl ⟨rfl, rfl⟩⟩ dX9_page_12
  · refine lv_iload_n hx hb dX9_page_4 rfl (lv_at hl 2 rfl) ?_
    refine lv_bipush (v := 6) hx hb dX9_page_5 (by decide) ?_
    refine lv_icmp_le (tgt := 13) hx hb dX9_page_7 (by decide) (fun c_2 => ?_) (fun c_2 => ?_)
    · refine lv_aload_n hx hb dX9_page_13 rfl (lv_at hl 0 rfl) ?_
      refine o_get (D := D) (ci := 10) (v := .int 0) (C := RX9) (T := TX9) (N := 12) hx hb hts inX9 hown hK hP h_dk rfl 10 (by decide) (hts _ k_439) (fun _ h9 => h9) rfl dX9_page_14 ?_
      refine lv_if_eq (tgt := 23) hx hb dX9_page_17 (by decide) (fun _ => ?_) (fun hno => absurd hno (by decide))
      refine lv_aload_n hx hb dX9_page_23 rfl (lv_at hl 0 rfl) ?_
      refine o_get (D := D) (ci := 10) (v := .ref bk) (C := RX9) (T := TX9) (N := 12) hx hb hts inX9 hown hK hP h_dk rfl 6 (by decide) (hts _ k_435) (fun _ h9 => h9) rfl dX9_page_24 ?_
      refine lv_aload_n hx hb dX9_page_27 rfl (lv_at hl 0 rfl) ?_
      refine o_get (D := D) (ci := 10) (v := .int (nI mo)) (C := RX9) (T := TX9) (N := 12) hx hb hts inX9 hown hK hP h_dk rfl 9 (by decide) (hts _ k_438) (fun _ h9 => h9) rfl dX9_page_28 ?_
      obtain ⟨mc9, d9, h_al9⟩ := h_bs.al
      refine o_cv (k := 0 + 2) (n := 0 + (4 * qS P pa.length)) hK hP hD hS hA (o_rV (As := [.int (nI mo)]) (rest := []) hf (bk_ref _ _ _ _ _ _ _ _ pr pcs spr nwh cp pa ea P ne EE bk lf x1 x2 x3 x4 x5 x6 mo h_pr h_pcs h_pc h_es h_lf h_bs hpa60 hpa hQ hU hSb hmo1 hmo _) k_765 k_762 k_763 k_764 k_95 (nA := 1) (by decide +kernel) ⟨Nat.le_of_ble_eq_true rfl, Nat.le_of_ble_eq_true rfl⟩ hK hP hD hS hA hZ hN h_al9 rfl rfl rfl hl.1 rfl (Nat.le_of_ble_eq_true rfl) dX9_page_31 ⟨(show 0 + 2 ≤ 2 by omega), (show 0 + (4 * qS P pa.length) ≤ 4 * qS P pa.length by omega)⟩) (by omega) (by omega) (fun L g H locs hw hP hD hS => ?_)
      obtain ⟨y9, y10, u1, u2, u3, u4, u5, u6, C, cn, hf9, hbk, h_lf⟩ := hw
      have h_dk := h_dk.fr hf9 (by decide)
      have h_pr := h_pr.fr hf9 (by decide)
      have hfr := hfr.tr hf9
      have h_pcs := h_pcs.frd hf9 (by decide)
      have h_pc := h_pc.frd hf9 (by decide)
      have h_es := h_es.frd hf9 (by decide)
      obtain ⟨bop, cf, nx, M, fb, fc, fn, h_bk, h_bop, h_cf, h_nx, hFb, hMs, hM, eC, ecn, hC, hcl⟩ := id hbk
      have hcn : cn ≤ 8000 := by rw [ecn]; exact bk_pg_le _ _ _
      have hplu := h_pc.1
      have hSn9 := hSb pa.length (Nat.le_refl _)
      refine lv_iload_n hx hb dX9_page_34 rfl (lv_at hl 1 rfl) ?_
      refine lv_if_lt (tgt := 49) hx hb dX9_page_35 (by decide) (fun c_3 => ?_) (fun c_3 => ?_)
      · refine lv_bipush (v := (-2)) hx hb dX9_page_49 (by decide) ?_
        have ePl : pgl EE P pa.length mo = (bk_pg (qF P) (qT P) pa.length C 8000 0 0) := by unfold pgl; rw [← eC]
        exact o_ri hf hr rfl hlocks hK hP hD hS (show 0 + 2 ≤ 2 by omega) (show 0 + (4 * qS P pa.length) ≤ 4 * qS P pa.length by omega) ⟨Or.inr (Or.inr (Or.inl ⟨(fun h9 => h9.elim c_1 (q_nlt_le c_2)), rfl, by rw [ePl]; exact ix_no1 (by omega) c_3, rfl⟩)), (Or.inr ⟨_, _, u1, u2, u3, u4, u5, u6, C, cn, hfr, ⟨bop, cf, nx, M, fb, fc, fn, h_bk, h_bop, h_cf, h_nx, hFb, hMs, hM, eC, ecn, hC, hcl⟩, h_lf⟩)⟩ dX9_page_51
      · refine lv_iload_n hx hb dX9_page_38 rfl (lv_at hl 1 rfl) ?_
        refine lv_aload_n hx hb dX9_page_39 rfl (lv_at hl 0 rfl) ?_
        refine o_get (D := D) (ci := 10) (v := .ref bk) (C := RX9) (T := TX9) (N := 12) hx hb hts inX9 hown hK hP h_dk rfl 6 (by decide) (hts _ k_435) (fun _ h9 => h9) rfl dX9_page_40 ?_
        refine o_cis (k := 0 + 2) (n := 0 + (4 * qS P pa.length)) hK hP hD hS hA (o_rV (As := []) (rest := [.int i1]) hf (bk_pc _ _ _ _ _ _ _ _ pr bk lf bop cf nx pa.length (qS P pa.length) 1 y9 y10 cn h_bk _) k_862 k_859 k_860 k_861 k_95 (nA := 0) (by decide +kernel) ⟨Nat.le_of_ble_eq_true rfl, Nat.le_of_ble_eq_true rfl⟩ hK hP hD hS hA hZ hN h_bk rfl rfl rfl hl.1 rfl (Nat.le_of_ble_eq_true rfl) dX9_page_43 ⟨(show 0 + 2 + 0 ≤ 2 by omega), (show 0 + (4 * qS P pa.length) + 0 ≤ 4 * qS P pa.length by omega)⟩) (Nat.le_refl _) (Nat.le_refl _) (fun r H locs hw hP hD hS => ?_)
        obtain rfl := hw
        refine lv_icmp_lt (tgt := 52) hx hb dX9_page_46 (by decide) (fun c_4 => ?_) (fun c_4 => ?_)
        · obtain ⟨pg, hpg, rfl⟩ := ix_lt (by omega) c_3 c_4
          have hl : lv_has ls 3 [(0, .ref dk), (1, .int (nI pg)), (2, .int i2)] := hl
          refine lv_aload_n hx hb dX9_page_52 rfl (lv_at hl 0 rfl) ?_
          refine o_get (D := D) (ci := 10) (v := .ref bk) (C := RX9) (T := TX9) (N := 12) hx hb hts inX9 hown hK hP h_dk rfl 6 (by decide) (hts _ k_435) (fun _ h9 => h9) rfl dX9_page_53 ?_
          refine lv_iload_n hx hb dX9_page_56 rfl (lv_at hl 1 rfl) ?_
          refine o_cv (k := 0 + 2) (n := 0 + (4 * qS P pa.length)) hK hP hD hS hA (o_rV (As := [.int (nI pg)]) (rest := []) hf (bk_turn _ _ _ _ _ _ _ _ pr pa P bk lf bop cf nx 1 y9 y10 M fc fn C cn pg h_bk h_nx (rs_hz hQ hplu) hSn9 hMs hM hC hcl ecn (by omega) hcn _) k_878 k_875 k_876 k_877 k_95 (nA := 1) (by decide +kernel) ⟨Nat.le_of_ble_eq_true rfl, Nat.le_of_ble_eq_true rfl⟩ hK hP hD hS hA hZ hN h_bk rfl rfl rfl hl.1 rfl (Nat.le_of_ble_eq_true rfl) dX9_page_57 ⟨(show 0 + 2 + 0 ≤ 2 by omega), (show 0 + (4 * qS P pa.length) + 0 ≤ 4 * qS P pa.length by omega)⟩) (Nat.le_refl _) (Nat.le_refl _) (fun L g H locs hw hP hD hS => ?_)
          obtain ⟨pq, rr, f_, y, hgd, hdrp, hpn, hrr, hyC, hpgat, hlt9, hle9, hf9, h_bk⟩ := hw
          have h_dk := h_dk.fr hf9 (by decide)
          have h_pr := h_pr.fr hf9 (by decide)
          have h_bop := h_bop.fr hf9 (by decide)
          have h_cf := h_cf.fr hf9 (by decide)
          have h_nx := h_nx.fr hf9 (by decide)
          have h_lf := h_lf.fr hf9 (by decide)
          have hfr := hfr.tm hf9 (by decide)
          have h_pcs := h_pcs.frd hf9 (by decide)
          have h_pc := h_pc.frd hf9 (by decide)
          have h_es := h_es.frd hf9 (by decide)
          have hrr : rr < (P.getD pq d4).2.2.1 - (P.getD pq d4).2.1 := hrr
          obtain ⟨pe, re, hpen, hre, eY, hrel⟩ := pg_end (rs_hz hQ hplu) hpgat hlt9
          rw [eY] at h_bk hlt9 hle9
          have hz9 := rs_hz hQ hplu
          have hne0 : (bk_pg (qF P) (qT P) pa.length C 8000 0 0) ≠ [] := fun z9 => by have h9 := congrArg List.length z9; rw [← ecn] at h9; have h9 : cn = 0 := h9; omega
          obtain ⟨f8, y8, ef8, hp8, hy8, _⟩ := bk_pg_c hne0
          have hat0 : pg_at (qF P) (qT P) pa.length C 0 0 := ⟨Nat.zero_le _, fun _ => rfl, fun h9 => ⟨hz9 0 h9, y8, hy8⟩⟩
          have hpN : pgN pa.length (bk_pg (qF P) (qT P) pa.length C 8000 0 0) pg pq rr y := pg_next hz9 (cf_bk hC) hcl 8000 0 0 pg hat0 (by show qS P pa.length ≤ qS P 0 + 0 + 8000; omega) (by rw [← ecn]; exact hpg) pq rr _ y hgd hyC
          have hrl : pgR P pe re y := hrel
          have hT : bk_T (qK EE P) (qF P) (qT P) (qR EE P) pa.length C := by rw [eC]; exact bk_all_T hz9 _ _ (Nat.le_refl _) (bk_T0 _ _ _ _ _)
          obtain ⟨nT, eT1, eT2⟩ := hT pq rr y hpn hrr hyC
          have eT1 : qS P y.2.1 + y.2.2.1 = qS P pq + rr + nT + 1 := eT1
          have eT3 : nT = qS P pe + re - (qS P pq + rr) := by omega
          rw [eT3] at eT2
          refine lv_iload_n hx hb dX9_page_60 rfl (lv_at hl 2 rfl) ?_
          rcases q_sw_0_5 i2 with c_5 | c_5 | c_5 | c_5 | c_5 | c_5 | c_5
          · refine q_seti (y := 0) c_5 ?_
            refine lv_tableIn (off := 39) (tgt := 100) hx hb dX9_page_61 (by decide) (by decide) (by decide) (by decide) ?_
            refine lv_aload_n hx hb dX9_page_100 rfl (lv_at hl 0 rfl) ?_
            refine o_get (D := D) (ci := 10) (v := .ref bk) (C := RX9) (T := TX9) (N := 12) hx hb hts inX9 hown hK hP h_dk rfl 6 (by decide) (hts _ k_435) (fun _ h9 => h9) rfl dX9_page_101 ?_
            refine o_ci (k := 0 + 2) (n := 0 + (4 * qS P pa.length)) hK hP hD hS hA (o_rV (As := []) (rest := []) hf (bk_rows _ _ _ _ _ _ _ _ pr pcs spr nwh cp pa ea P ne EE bk lf bop cf nx 1 (nI cn) fb pq rr pe re u1 u2 u3 u4 u5 u6 h_pr h_pcs h_pc h_es h_bk h_bop h_lf hpa60 hpa hQ hU hFb hSb hpn hrr hpen hre (by omega) _) k_882 k_879 k_880 k_881 k_95 (nA := 0) (by decide +kernel) ⟨Nat.le_of_ble_eq_true rfl, Nat.le_of_ble_eq_true rfl⟩ hK hP hD hS hA hZ hN h_bk rfl rfl rfl hl.1 rfl (Nat.le_of_ble_eq_true rfl) dX9_page_104 ⟨(show 0 + 2 + 0 ≤ 2 by omega), (show 0 + (4 * qS P pa.length) + 0 ≤ 4 * qS P pa.length by omega)⟩) (Nat.le_refl _) (Nat.le_refl _) (fun r L g H locs hw hP hD hS => ?_)
            obtain ⟨rfl, u1, u2, u3, u4, u5, u6, hf9, h_lf⟩ := hw
            have h_dk := h_dk.fr hf9 (by decide)
            have h_pr := h_pr.fr hf9 (by decide)
            have h_bop := h_bop.fr hf9 (by decide)
            have h_cf := h_cf.fr hf9 (by decide)
            have h_nx := h_nx.fr hf9 (by decide)
            have h_bk := h_bk.fr hf9 (by decide)
            have hfr := hfr.tm hf9 (by decide)
            have h_pcs := h_pcs.frd hf9 (by decide)
            have h_pc := h_pc.frd hf9 (by decide)
            have h_es := h_es.frd hf9 (by decide)
            have ePl : pgl EE P pa.length mo = (bk_pg (qF P) (qT P) pa.length C 8000 0 0) := by unfold pgl; rw [← eC]
            exact o_ri hf hr rfl hlocks hK hP hD hS (show 0 + 2 ≤ 2 by omega) (show 0 + (4 * qS P pa.length) ≤ 4 * qS P pa.length by omega) ⟨Or.inr (Or.inr (Or.inr ⟨pg, (fun h9 => h9.elim c_1 (q_nlt_le c_2)), rfl, by rw [ePl, ← ecn]; exact hpg, rfl, by rw [ePl]; exact pgc_0 c_5 hgd eT2.symm⟩)), (Or.inr ⟨_, _, u1, u2, u3, u4, u5, u6, C, cn, hfr, ⟨bop, cf, nx, M, fb, fc, fn, h_bk, h_bop, h_cf, h_nx, hFb, hMs, hM, eC, ecn, hC, hcl⟩, h_lf⟩)⟩ dX9_page_107
          · refine q_seti (y := 1) c_5 ?_
            refine lv_tableIn (off := 47) (tgt := 108) hx hb dX9_page_61 (by decide) (by decide) (by decide) (by decide) ?_
            refine lv_aload_n hx hb dX9_page_108 rfl (lv_at hl 0 rfl) ?_
            refine o_get (D := D) (ci := 10) (v := .ref bk) (C := RX9) (T := TX9) (N := 12) hx hb hts inX9 hown hK hP h_dk rfl 6 (by decide) (hts _ k_435) (fun _ h9 => h9) rfl dX9_page_109 ?_
            refine o_cis (k := 0 + 2) (n := 0 + (4 * qS P pa.length)) hK hP hD hS hA (o_rV (As := []) (rest := []) hf (bk_fp _ _ _ _ _ _ _ _ pr pa P bk lf bop cf nx 1 (nI cn) fb pq rr pe re h_bk h_bop hpa60 hFb hSb (by omega) (by omega) (by omega) (by omega) _) k_886 k_895 k_884 k_885 k_95 (nA := 0) (by decide +kernel) ⟨Nat.le_of_ble_eq_true rfl, Nat.le_of_ble_eq_true rfl⟩ hK hP hD hS hA hZ hN h_bk rfl rfl rfl hl.1 rfl (Nat.le_of_ble_eq_true rfl) dX9_page_112 ⟨(show 0 + 2 + 0 ≤ 2 by omega), (show 0 + (4 * qS P pa.length) + 0 ≤ 4 * qS P pa.length by omega)⟩) (Nat.le_refl _) (Nat.le_refl _) (fun r H locs hw hP hD hS => ?_)
            obtain rfl := hw
            have ePl : pgl EE P pa.length mo = (bk_pg (qF P) (qT P) pa.length C 8000 0 0) := by unfold pgl; rw [← eC]
            exact o_ri hf hr rfl hlocks hK hP hD hS (show 0 + 2 ≤ 2 by omega) (show 0 + (4 * qS P pa.length) ≤ 4 * qS P pa.length by omega) ⟨Or.inr (Or.inr (Or.inr ⟨pg, (fun h9 => h9.elim c_1 (q_nlt_le c_2)), rfl, by rw [ePl, ← ecn]; exact hpg, rfl, by rw [ePl]; exact pgc_1 c_5 hpN⟩)), (Or.inr ⟨_, _, u1, u2, u3, u4, u5, u6, C, cn, hfr, ⟨bop, cf, nx, M, fb, fc, fn, h_bk, h_bop, h_cf, h_nx, hFb, hMs, hM, eC, ecn, hC, hcl⟩, h_lf⟩)⟩ dX9_page_115
          · refine q_seti (y := 2) c_5 ?_
            refine lv_tableIn (off := 55) (tgt := 116) hx hb dX9_page_61 (by decide) (by decide) (by decide) (by decide) ?_
            refine lv_aload_n hx hb dX9_page_116 rfl (lv_at hl 0 rfl) ?_
            refine o_get (D := D) (ci := 10) (v := .ref bk) (C := RX9) (T := TX9) (N := 12) hx hb hts inX9 hown hK hP h_dk rfl 6 (by decide) (hts _ k_435) (fun _ h9 => h9) rfl dX9_page_117 ?_
            refine o_cis (k := 0 + 2) (n := 0 + (4 * qS P pa.length)) hK hP hD hS hA (o_rV (As := []) (rest := []) hf (bk_fr _ _ _ _ _ _ _ _ pr pa P bk lf bop cf nx 1 (nI cn) fb pq rr pe re h_bk h_bop hpa60 hFb hSb (by omega) (by omega) (by omega) (by omega) _) k_894 k_896 k_892 k_893 k_95 (nA := 0) (by decide +kernel) ⟨Nat.le_of_ble_eq_true rfl, Nat.le_of_ble_eq_true rfl⟩ hK hP hD hS hA hZ hN h_bk rfl rfl rfl hl.1 rfl (Nat.le_of_ble_eq_true rfl) dX9_page_120 ⟨(show 0 + 2 + 0 ≤ 2 by omega), (show 0 + (4 * qS P pa.length) + 0 ≤ 4 * qS P pa.length by omega)⟩) (Nat.le_refl _) (Nat.le_refl _) (fun r H locs hw hP hD hS => ?_)
            obtain rfl := hw
            have ePl : pgl EE P pa.length mo = (bk_pg (qF P) (qT P) pa.length C 8000 0 0) := by unfold pgl; rw [← eC]
            exact o_ri hf hr rfl hlocks hK hP hD hS (show 0 + 2 ≤ 2 by omega) (show 0 + (4 * qS P pa.length) ≤ 4 * qS P pa.length by omega) ⟨Or.inr (Or.inr (Or.inr ⟨pg, (fun h9 => h9.elim c_1 (q_nlt_le c_2)), rfl, by rw [ePl, ← ecn]; exact hpg, rfl, by rw [ePl]; exact pgc_2 c_5 hpN⟩)), (Or.inr ⟨_, _, u1, u2, u3, u4, u5, u6, C, cn, hfr, ⟨bop, cf, nx, M, fb, fc, fn, h_bk, h_bop, h_cf, h_nx, hFb, hMs, hM, eC, ecn, hC, hcl⟩, h_lf⟩)⟩ dX9_page_123
          · refine q_seti (y := 3) c_5 ?_
            refine lv_tableIn (off := 63) (tgt := 124) hx hb dX9_page_61 (by decide) (by decide) (by decide) (by decide) ?_
            refine lv_aload_n hx hb dX9_page_124 rfl (lv_at hl 0 rfl) ?_
            refine o_get (D := D) (ci := 10) (v := .ref bk) (C := RX9) (T := TX9) (N := 12) hx hb hts inX9 hown hK hP h_dk rfl 6 (by decide) (hts _ k_435) (fun _ h9 => h9) rfl dX9_page_125 ?_
            refine o_cis (k := 0 + 2) (n := 0 + (4 * qS P pa.length)) hK hP hD hS hA (o_rV (As := []) (rest := []) hf (bk_lp _ _ _ _ _ _ _ _ pr pa P bk lf bop cf nx 1 (nI cn) fb pq rr pe re h_bk h_bop hpa60 hFb hSb (by omega) (by omega) (by omega) (by omega) _) k_900 k_897 k_898 k_899 k_95 (nA := 0) (by decide +kernel) ⟨Nat.le_of_ble_eq_true rfl, Nat.le_of_ble_eq_true rfl⟩ hK hP hD hS hA hZ hN h_bk rfl rfl rfl hl.1 rfl (Nat.le_of_ble_eq_true rfl) dX9_page_128 ⟨(show 0 + 2 + 0 ≤ 2 by omega), (show 0 + (4 * qS P pa.length) + 0 ≤ 4 * qS P pa.length by omega)⟩) (Nat.le_refl _) (Nat.le_refl _) (fun r H locs hw hP hD hS => ?_)
            obtain rfl := hw
            have ePl : pgl EE P pa.length mo = (bk_pg (qF P) (qT P) pa.length C 8000 0 0) := by unfold pgl; rw [← eC]
            exact o_ri hf hr rfl hlocks hK hP hD hS (show 0 + 2 ≤ 2 by omega) (show 0 + (4 * qS P pa.length) ≤ 4 * qS P pa.length by omega) ⟨Or.inr (Or.inr (Or.inr ⟨pg, (fun h9 => h9.elim c_1 (q_nlt_le c_2)), rfl, by rw [ePl, ← ecn]; exact hpg, rfl, by rw [ePl]; exact pgc_3 c_5 hpN hrl⟩)), (Or.inr ⟨_, _, u1, u2, u3, u4, u5, u6, C, cn, hfr, ⟨bop, cf, nx, M, fb, fc, fn, h_bk, h_bop, h_cf, h_nx, hFb, hMs, hM, eC, ecn, hC, hcl⟩, h_lf⟩)⟩ dX9_page_131
          · refine q_seti (y := 4) c_5 ?_
            refine lv_tableIn (off := 71) (tgt := 132) hx hb dX9_page_61 (by decide) (by decide) (by decide) (by decide) ?_
            refine lv_aload_n hx hb dX9_page_132 rfl (lv_at hl 0 rfl) ?_
            refine o_get (D := D) (ci := 10) (v := .ref bk) (C := RX9) (T := TX9) (N := 12) hx hb hts inX9 hown hK hP h_dk rfl 6 (by decide) (hts _ k_435) (fun _ h9 => h9) rfl dX9_page_133 ?_
            refine o_cis (k := 0 + 2) (n := 0 + (4 * qS P pa.length)) hK hP hD hS hA (o_rV (As := []) (rest := []) hf (bk_er _ _ _ _ _ _ _ _ pr pa P bk lf bop cf nx 1 (nI cn) fb pq rr pe re h_bk h_bop hpa60 hFb hSb (by omega) (by omega) (by omega) (by omega) _) k_904 k_901 k_902 k_903 k_95 (nA := 0) (by decide +kernel) ⟨Nat.le_of_ble_eq_true rfl, Nat.le_of_ble_eq_true rfl⟩ hK hP hD hS hA hZ hN h_bk rfl rfl rfl hl.1 rfl (Nat.le_of_ble_eq_true rfl) dX9_page_136 ⟨(show 0 + 2 + 0 ≤ 2 by omega), (show 0 + (4 * qS P pa.length) + 0 ≤ 4 * qS P pa.length by omega)⟩) (Nat.le_refl _) (Nat.le_refl _) (fun r H locs hw hP hD hS => ?_)
            obtain rfl := hw
            have ePl : pgl EE P pa.length mo = (bk_pg (qF P) (qT P) pa.length C 8000 0 0) := by unfold pgl; rw [← eC]
            exact o_ri hf hr rfl hlocks hK hP hD hS (show 0 + 2 ≤ 2 by omega) (show 0 + (4 * qS P pa.length) ≤ 4 * qS P pa.length by omega) ⟨Or.inr (Or.inr (Or.inr ⟨pg, (fun h9 => h9.elim c_1 (q_nlt_le c_2)), rfl, by rw [ePl, ← ecn]; exact hpg, rfl, by rw [ePl]; exact pgc_4 c_5 hpN hrl⟩)), (Or.inr ⟨_, _, u1, u2, u3, u4, u5, u6, C, cn, hfr, ⟨bop, cf, nx, M, fb, fc, fn, h_bk, h_bop, h_cf, h_nx, hFb, hMs, hM, eC, ecn, hC, hcl⟩, h_lf⟩)⟩ dX9_page_139
          · refine q_seti (y := 5) c_5 ?_
            refine lv_tableIn (off := 79) (tgt := 140) hx hb dX9_page_61 (by decide) (by decide) (by decide) (by decide) ?_
            refine lv_aload_n hx hb dX9_page_140 rfl (lv_at hl 0 rfl) ?_
            refine o_get (D := D) (ci := 10) (v := .ref bk) (C := RX9) (T := TX9) (N := 12) hx hb hts inX9 hown hK hP h_dk rfl 6 (by decide) (hts _ k_435) (fun _ h9 => h9) rfl dX9_page_141 ?_
            refine o_cis (k := 0 + 2) (n := 0 + (4 * qS P pa.length)) hK hP hD hS hA (o_rV (As := []) (rest := []) hf (bk_bws _ _ _ _ _ _ _ _ pr pcs spr nwh cp pa ea P ne EE bk lf bop cf nx 1 (nI cn) fb pq rr pe re h_pr h_pcs h_pc h_es h_bk h_bop hpa hQ hpa60 hFb hSb hpn hrr hpen hre _) k_909 k_906 k_907 k_908 k_95 (nA := 0) (by decide +kernel) ⟨Nat.le_of_ble_eq_true rfl, Nat.le_of_ble_eq_true rfl⟩ hK hP hD hS hA hZ hN h_bk rfl rfl rfl hl.1 rfl (Nat.le_of_ble_eq_true rfl) dX9_page_144 ⟨(show 0 + 2 + 0 ≤ 2 by omega), (show 0 + (4 * qS P pa.length) + 0 ≤ 4 * qS P pa.length by omega)⟩) (Nat.le_refl _) (Nat.le_refl _) (fun r H locs hw hP hD hS => ?_)
            rcases hw with ⟨c_6, rfl⟩ | ⟨c_6, rfl⟩
            · have hP := hP
              refine lv_if_eq (tgt := 154) hx hb dX9_page_147 (by decide) (fun hno => absurd hno (by decide)) (fun _ => ?_)
              refine lv_iconst (v := 1) hx hb dX9_page_150 (by decide) ?_
              refine lv_goto (tgt := 155) hx hb dX9_page_151 (by decide) ?_
              have ePl : pgl EE P pa.length mo = (bk_pg (qF P) (qT P) pa.length C 8000 0 0) := by unfold pgl; rw [← eC]
              exact o_ri hf hr rfl hlocks hK hP hD hS (show 0 + 2 ≤ 2 by omega) (show 0 + (4 * qS P pa.length) ≤ 4 * qS P pa.length by omega) ⟨Or.inr (Or.inr (Or.inr ⟨pg, (fun h9 => h9.elim c_1 (q_nlt_le c_2)), rfl, by rw [ePl, ← ecn]; exact hpg, rfl, by rw [ePl]; exact (pgc_5 c_5 hpN hU (by omega) hrr).1 c_6⟩)), (Or.inr ⟨_, _, u1, u2, u3, u4, u5, u6, C, cn, hfr, ⟨bop, cf, nx, M, fb, fc, fn, h_bk, h_bop, h_cf, h_nx, hFb, hMs, hM, eC, ecn, hC, hcl⟩, h_lf⟩)⟩ dX9_page_155
            · have hP := hP
              refine lv_if_eq (tgt := 154) hx hb dX9_page_147 (by decide) (fun _ => ?_) (fun hno => absurd hno (by decide))
              refine lv_iconst (v := 0) hx hb dX9_page_154 (by decide) ?_
              have ePl : pgl EE P pa.length mo = (bk_pg (qF P) (qT P) pa.length C 8000 0 0) := by unfold pgl; rw [← eC]
              exact o_ri hf hr rfl hlocks hK hP hD hS (show 0 + 2 ≤ 2 by omega) (show 0 + (4 * qS P pa.length) ≤ 4 * qS P pa.length by omega) ⟨Or.inr (Or.inr (Or.inr ⟨pg, (fun h9 => h9.elim c_1 (q_nlt_le c_2)), rfl, by rw [ePl, ← ecn]; exact hpg, rfl, by rw [ePl]; exact (pgc_5 c_5 hpN hU (by omega) hrr).2 c_6⟩)), (Or.inr ⟨_, _, u1, u2, u3, u4, u5, u6, C, cn, hfr, ⟨bop, cf, nx, M, fb, fc, fn, h_bk, h_bop, h_cf, h_nx, hFb, hMs, hM, eC, ecn, hC, hcl⟩, h_lf⟩)⟩ dX9_page_155
          · refine lv_tableOut (tgt := 156) hx hb dX9_page_61 c_5 (by decide) ?_
            refine lv_aload_n hx hb dX9_page_156 rfl (lv_at hl 0 rfl) ?_
            refine o_get (D := D) (ci := 10) (v := .ref bk) (C := RX9) (T := TX9) (N := 12) hx hb hts inX9 hown hK hP h_dk rfl 6 (by decide) (hts _ k_435) (fun _ h9 => h9) rfl dX9_page_157 ?_
            refine o_cis (k := 0 + 2) (n := 0 + (4 * qS P pa.length)) hK hP hD hS hA (o_rV (As := []) (rest := []) hf (bk_ews _ _ _ _ _ _ _ _ pr pcs spr nwh cp pa ea P ne EE bk lf bop cf nx 1 (nI cn) fb pq rr pe re h_pr h_pcs h_pc h_es h_bk h_bop hpa hQ hpa60 hFb hSb hpn hrr hpen hre _) k_914 k_911 k_912 k_913 k_95 (nA := 0) (by decide +kernel) ⟨Nat.le_of_ble_eq_true rfl, Nat.le_of_ble_eq_true rfl⟩ hK hP hD hS hA hZ hN h_bk rfl rfl rfl hl.1 rfl (Nat.le_of_ble_eq_true rfl) dX9_page_160 ⟨(show 0 + 2 + 0 ≤ 2 by omega), (show 0 + (4 * qS P pa.length) + 0 ≤ 4 * qS P pa.length by omega)⟩) (Nat.le_refl _) (Nat.le_refl _) (fun r H locs hw hP hD hS => ?_)
            rcases hw with ⟨c_7, rfl⟩ | ⟨c_7, rfl⟩
            · have hP := hP
              refine lv_if_eq (tgt := 170) hx hb dX9_page_163 (by decide) (fun hno => absurd hno (by decide)) (fun _ => ?_)
              refine lv_iconst (v := 1) hx hb dX9_page_166 (by decide) ?_
              refine lv_goto (tgt := 171) hx hb dX9_page_167 (by decide) ?_
              have ePl : pgl EE P pa.length mo = (bk_pg (qF P) (qT P) pa.length C 8000 0 0) := by unfold pgl; rw [← eC]
              exact o_ri hf hr rfl hlocks hK hP hD hS (show 0 + 2 ≤ 2 by omega) (show 0 + (4 * qS P pa.length) ≤ 4 * qS P pa.length by omega) ⟨Or.inr (Or.inr (Or.inr ⟨pg, (fun h9 => h9.elim c_1 (q_nlt_le c_2)), rfl, by rw [ePl, ← ecn]; exact hpg, rfl, by rw [ePl]; exact (pgc_6 c_5 hpN hrl hU hplu hpen hpgat).1 c_7⟩)), (Or.inr ⟨_, _, u1, u2, u3, u4, u5, u6, C, cn, hfr, ⟨bop, cf, nx, M, fb, fc, fn, h_bk, h_bop, h_cf, h_nx, hFb, hMs, hM, eC, ecn, hC, hcl⟩, h_lf⟩)⟩ dX9_page_171
            · have hP := hP
              refine lv_if_eq (tgt := 170) hx hb dX9_page_163 (by decide) (fun _ => ?_) (fun hno => absurd hno (by decide))
              refine lv_iconst (v := 0) hx hb dX9_page_170 (by decide) ?_
              have ePl : pgl EE P pa.length mo = (bk_pg (qF P) (qT P) pa.length C 8000 0 0) := by unfold pgl; rw [← eC]
              exact o_ri hf hr rfl hlocks hK hP hD hS (show 0 + 2 ≤ 2 by omega) (show 0 + (4 * qS P pa.length) ≤ 4 * qS P pa.length by omega) ⟨Or.inr (Or.inr (Or.inr ⟨pg, (fun h9 => h9.elim c_1 (q_nlt_le c_2)), rfl, by rw [ePl, ← ecn]; exact hpg, rfl, by rw [ePl]; exact (pgc_6 c_5 hpN hrl hU hplu hpen hpgat).2 c_7⟩)), (Or.inr ⟨_, _, u1, u2, u3, u4, u5, u6, C, cn, hfr, ⟨bop, cf, nx, M, fb, fc, fn, h_bk, h_bop, h_cf, h_nx, hFb, hMs, hM, eC, ecn, hC, hcl⟩, h_lf⟩)⟩ dX9_page_171
        · refine lv_bipush (v := (-2)) hx hb dX9_page_49 (by decide) ?_
          have ePl : pgl EE P pa.length mo = (bk_pg (qF P) (qT P) pa.length C 8000 0 0) := by unfold pgl; rw [← eC]
          exact o_ri hf hr rfl hlocks hK hP hD hS (show 0 + 2 ≤ 2 by omega) (show 0 + (4 * qS P pa.length) ≤ 4 * qS P pa.length by omega) ⟨Or.inr (Or.inr (Or.inl ⟨(fun h9 => h9.elim c_1 (q_nlt_le c_2)), rfl, by rw [ePl, ← ecn]; exact ix_no2 (by omega) c_4, rfl⟩)), (Or.inr ⟨_, _, u1, u2, u3, u4, u5, u6, C, cn, hfr, ⟨bop, cf, nx, M, fb, fc, fn, h_bk, h_bop, h_cf, h_nx, hFb, hMs, hM, eC, ecn, hC, hcl⟩, h_lf⟩)⟩ dX9_page_51
    · refine lv_bipush (v := (-2)) hx hb dX9_page_10 (by decide) ?_
      exact o_ri hf hr rfl hlocks hK hP hD hS (show 0 ≤ 2 by omega) (show 0 ≤ 4 * qS P pa.length by omega) ⟨Or.inl ⟨Or.inr (q_lt_nle c_2), rfl⟩, Or.inl ⟨rfl, rfl⟩⟩ dX9_page_12
set_option maxHeartbeats 1000000 in
set_option maxRecDepth 100000 in
theorem d_pageL2 (l : Launch) (D : va_G) (z : Nat → Nat) (cB cI_ cO : ClassId) (L0 : List Nat) (g0 : hG) (dk tp rd els reo nob pr bk gl sl mo : Nat) (v11 x1 x2 : Int32) (h_dk : ho L0 g0 dk 1 (.inr (10, [.ref tp, .ref rd, .ref els, .ref reo, .ref nob, .ref pr, .ref bk, .ref gl, .ref sl, .int (nI mo), .int 1, .int v11])))  : eIs l D yX9_page cX9_page 3 (some .int) 0 0 0 0 [.ref dk, .int x1, .int x2] z cB cI_ cO L0 g0 (fun r => ∀ (Pg : List (Nat × Nat × Nat)) (n : Nat) (sz : Nat → Nat) (K : Nat → Int32), pgC 1 Pg n sz K x1 x2 r) := by
  refine o_si (by decide) (Nat.le_of_ble_eq_true rfl) ?_
  intro p e s m below meth c A ls hf hr hlocks hin hK hP hD hS hA hZ hN hl
  obtain ⟨hx, hb, hml, hown, hts⟩ := id hf
  have hl : lv_has ls 3 [(0, .ref dk), (1, .int x1), (2, .int x2)] := hl
  refine lv_iload_n hx hb dX9_page_0 rfl (lv_at hl 2 rfl) ?_
  refine lv_if_lt (tgt := 10) hx hb dX9_page_1 (by decide) (fun c_1 => ?_) (fun c_1 => ?_)
  · refine lv_bipush (v := (-2)) hx hb dX9_page_10 (by decide) ?_
    exact o_ri hf hr rfl hlocks hK hP hD hS (show 0 ≤ 0 by omega) (show 0 ≤ 0 by omega) ⟨fun Pg n sz K => Or.inl ⟨Or.inl c_1, rfl⟩, rfl, rfl⟩ dX9_page_12
  · refine lv_iload_n hx hb dX9_page_4 rfl (lv_at hl 2 rfl) ?_
    refine lv_bipush (v := 6) hx hb dX9_page_5 (by decide) ?_
    refine lv_icmp_le (tgt := 13) hx hb dX9_page_7 (by decide) (fun c_2 => ?_) (fun c_2 => ?_)
    · refine lv_aload_n hx hb dX9_page_13 rfl (lv_at hl 0 rfl) ?_
      refine o_get (D := D) (ci := 10) (v := .int 1) (C := RX9) (T := TX9) (N := 12) hx hb hts inX9 hown hK hP h_dk rfl 10 (by decide) (hts _ k_439) (fun _ h9 => h9) rfl dX9_page_14 ?_
      refine lv_if_eq (tgt := 23) hx hb dX9_page_17 (by decide) (fun hno => absurd hno (by decide)) (fun _ => ?_)
      refine lv_bipush (v := (-3)) hx hb dX9_page_20 (by decide) ?_
      exact o_ri hf hr rfl hlocks hK hP hD hS (show 0 ≤ 0 by omega) (show 0 ≤ 0 by omega) ⟨fun Pg n sz K => Or.inr (Or.inl ⟨fun h9 => h9.elim c_1 (q_nlt_le c_2), by decide, rfl⟩), rfl, rfl⟩ dX9_page_22
    · refine lv_bipush (v := (-2)) hx hb dX9_page_10 (by decide) ?_
      exact o_ri hf hr rfl hlocks hK hP hD hS (show 0 ≤ 0 by omega) (show 0 ≤ 0 by omega) ⟨fun Pg n sz K => Or.inl ⟨Or.inr (q_lt_nle c_2), rfl⟩, rfl, rfl⟩ dX9_page_12
