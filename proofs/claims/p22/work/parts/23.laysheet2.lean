theorem k_64 : (Cond.selects RX10 yX10_rowsAhead yX10_rowsAhead) ∈ gT := gT_i 64 (by decide +kernel) rfl
theorem k_1396 : (Cond.methodLink RX10 201 yX10_rowsAhead) ∈ gT := gT_i 1396 (by decide +kernel) rfl
theorem k_1398 : (Cond.instanceMethod yX10_rowsAhead) ∈ gT := gT_i 1398 (by decide +kernel) rfl
theorem k_1399 : (Cond.code yX10_rowsAhead cX10_rowsAhead 4 (some .int)) ∈ gT := gT_i 1399 (by decide +kernel) rfl
theorem dX10_laySheet_0 : decode cX10_laySheet 0 = .ok (.aload_n 0, 1) := by decide +kernel
theorem dX10_laySheet_1 : decode cX10_laySheet 1 = .ok (.iload_n 1, 1) := by decide +kernel
theorem dX10_laySheet_2 : decode cX10_laySheet 2 = .ok (.iload_n 2, 1) := by decide +kernel
theorem dX10_laySheet_3 : decode cX10_laySheet 3 = .ok (.iload_n 3, 1) := by decide +kernel
theorem dX10_laySheet_4 : decode cX10_laySheet 4 = .ok (.invokevirtual 201, 3) := by decide +kernel
theorem dX10_laySheet_7 : decode cX10_laySheet 7 = .ok (.istore 5, 2) := by decide +kernel
theorem dX10_laySheet_9 : decode cX10_laySheet 9 = .ok (.iconst 0, 1) := by decide +kernel
theorem dX10_laySheet_10 : decode cX10_laySheet 10 = .ok (.istore 6, 2) := by decide +kernel
theorem dX10_laySheet_12 : decode cX10_laySheet 12 = .ok (.aload_n 0, 1) := by decide +kernel
theorem dX10_laySheet_13 : decode cX10_laySheet 13 = .ok (.iconst (-1), 1) := by decide +kernel
theorem dX10_laySheet_14 : decode cX10_laySheet 14 = .ok (.putfield 205, 3) := by decide +kernel
theorem dX10_laySheet_17 : decode cX10_laySheet 17 = .ok (.iconst 1, 1) := by decide +kernel
theorem dX10_laySheet_18 : decode cX10_laySheet 18 = .ok (.istore 7, 2) := by decide +kernel
theorem dX10_laySheet_20 : decode cX10_laySheet 20 = .ok (.iload_n 1, 1) := by decide +kernel
theorem dX10_laySheet_21 : decode cX10_laySheet 21 = .ok (.istore 8, 2) := by decide +kernel
theorem dX10_laySheet_23 : decode cX10_laySheet 23 = .ok (.iload_n 2, 1) := by decide +kernel
theorem dX10_laySheet_24 : decode cX10_laySheet 24 = .ok (.istore 9, 2) := by decide +kernel
theorem dX10_laySheet_224 : decode cX10_laySheet 224 = .ok (.return_, 1) := by decide +kernel
set_option maxHeartbeats 1000000 in
set_option maxRecDepth 100000 in
theorem r_laySheet (l : Launch) (D : va_G) (h0 : Nat) (q : Nat → Nat) (cB cI_ cZ : ClassId) (I : Nat → Int32) (F : Nat → Nat → Int32) (pn : Nat) (pe sl : Nat → Nat) (K : Nat → Int32) (Fm To Rr : Nat → Nat) (p0 r0 fi en mo : Nat) (hpv : rp_ok F pn pe sl K Fm To Rr) (hI2 : I 2 = nI mo) (hmo1 : 10 ≤ mo) (hmo : mo ≤ 40) (hen : en ≤ pn) (hp0 : p0 < en) (hr0 : r0 < To p0 - Fm p0) (hfi : fi ≤ 8000) : cV l D yX10_laySheet cX10_laySheet 13 none 3 80 0 0 [.ref h0, .int (nI p0), .int (nI r0), .int (nI fi), .int (nI en)] zT (mW h0 q cB cI_ cZ I F) (mT cB cI_ cZ) (fun u => ∃ (b2 : Option (Nat × Nat × Nat)) (v1 v2 v3 : Int32), b2 = rs_lay K Fm To Rr p0 r0 en mo 41 p0 r0 (pb (rp_ra (K p0) (Fm p0) p0 r0 fi)) 0 none ∧ rs_is b2 v1 v2 v3 ∧ u = (mW h0 q cB cI_ cZ (upd (upd (upd I 25 v1) 26 v2) 27 v3) F, mT cB cI_ cZ)) := by
  refine q_sv (by decide) (Nat.le_of_ble_eq_true rfl) ?_
  intro p e s m below meth c A ls hAe hf hr hlocks hin hK hP hD hS hA hZ hl
  obtain ⟨hx, hb, hml, hown, hts⟩ := id hf
  have hl : lv_has ls 13 [(0, .ref h0), (1, .int (nI p0)), (2, .int (nI r0)), (3, .int (nI fi)), (4, .int (nI en))] := hl
  have hpn8 := hpv.1
  have hpv0 := hpv.2 p0 (by omega)
  refine lv_aload_n hx hb dX10_laySheet_0 rfl (lv_at hl 0 rfl) ?_
  refine lv_iload_n hx hb dX10_laySheet_1 rfl (lv_at hl 1 rfl) ?_
  refine lv_iload_n hx hb dX10_laySheet_2 rfl (lv_at hl 2 rfl) ?_
  refine lv_iload_n hx hb dX10_laySheet_3 rfl (lv_at hl 3 rfl) ?_
  refine q_ci (k := 0) (n := 0) hK hP hD hS hA (fun hPc hKc hDc => q_rV (As := [.int (nI p0), .int (nI r0), .int (nI fi)]) (rest := []) hf (r_rowsAhead _ D h0 q cB cI_ cZ I F pn pe sl K Fm To Rr p0 r0 fi hpv (by omega) (by omega) (by omega) _) k_1399 k_1396 k_1398 k_64 k_98 (nA := 3) (by decide +kernel) ⟨Nat.le_of_ble_eq_true rfl, Nat.le_of_ble_eq_true rfl⟩ hK hP (ci := 11) (q0 := 0) rfl rfl rfl hPc hKc hDc (fun _ _ _ _ h => h) (fun _ _ _ => trivial) rfl hl.1 rfl (Nat.le_of_ble_eq_true rfl) dX10_laySheet_4 ⟨Nat.le_of_ble_eq_true rfl, Nat.le_of_ble_eq_true rfl⟩) (by decide) (by decide) (fun r u H locs hw hK hP hD hS => ?_)
  obtain ⟨rfl, rfl⟩ := pb_of (P := rp_ra (K p0) (Fm p0) p0 r0 fi) hw
  obtain ⟨ra, era⟩ : ∃ x, x = pb (rp_ra (K p0) (Fm p0) p0 r0 fi) := ⟨_, rfl⟩
  have hra := pb_le (rp_ra (K p0) (Fm p0) p0 r0 fi)
  rw [← era] at hra
  refine q_seti (y := nI ra) (congrArg nI era.symm) ?_
  have hP : va_P D vcl (mW h0 q cB cI_ cZ I F) H := hP
  have hD : va_D A (mW h0 q cB cI_ cZ I F) := hD
  refine lv_istore (lv' := [(5, .int (nI ra)), (0, .ref h0), (1, .int (nI p0)), (2, .int (nI r0)), (3, .int (nI fi)), (4, .int (nI en))]) hx hb dX10_laySheet_7 hl (by decide) rfl (fun ls hl => ?_)
  refine lv_iconst (v := 0) hx hb dX10_laySheet_9 (by decide) ?_
  refine lv_istore (lv' := [(6, .int 0), (5, .int (nI ra)), (0, .ref h0), (1, .int (nI p0)), (2, .int (nI r0)), (3, .int (nI fi)), (4, .int (nI en))]) hx hb dX10_laySheet_10 hl (by decide) rfl (fun ls hl => ?_)
  refine lv_aload_n hx hb dX10_laySheet_12 rfl (lv_at hl 2 rfl) ?_
  refine lv_iconst (v := (-1)) hx hb dX10_laySheet_13 (by decide) ?_
  refine va_put (D := D) (ci := 11) (v := .int (-1)) (ty := .int) (C := RX10) (T := TX10) (N := 48) hx hb hts inX10 tyX10 tyX10_ok nmX10 hown hK hP hD hS 0 rfl rfl 25 (by decide) (hts _ k_1169) (fun _ h9 => h9) rfl (by decide +kernel) rfl rfl (Nat.le_of_ble_eq_true rfl) dX10_laySheet_14 (fun H locs hP hD hS => ?_)
  have hP : va_P D vcl (mW h0 q cB cI_ cZ (upd I 25 (-1)) F) H := hP
  have hD : va_D A (mW h0 q cB cI_ cZ (upd I 25 (-1)) F) := hD
  refine lv_iconst (v := 1) hx hb dX10_laySheet_17 (by decide) ?_
  refine lv_istore (lv' := [(7, .int 1), (6, .int 0), (5, .int (nI ra)), (0, .ref h0), (1, .int (nI p0)), (2, .int (nI r0)), (3, .int (nI fi)), (4, .int (nI en))]) hx hb dX10_laySheet_18 hl (by decide) rfl (fun ls hl => ?_)
  refine lv_iload_n hx hb dX10_laySheet_20 rfl (lv_at hl 4 rfl) ?_
  refine lv_istore (lv' := [(8, .int (nI p0)), (7, .int 1), (6, .int 0), (5, .int (nI ra)), (0, .ref h0), (1, .int (nI p0)), (2, .int (nI r0)), (3, .int (nI fi)), (4, .int (nI en))]) hx hb dX10_laySheet_21 hl (by decide) rfl (fun ls hl => ?_)
  refine lv_iload_n hx hb dX10_laySheet_23 rfl (lv_at hl 6 rfl) ?_
  refine lv_istore (lv' := [(9, .int (nI r0)), (8, .int (nI p0)), (7, .int 1), (6, .int 0), (5, .int (nI ra)), (0, .ref h0), (1, .int (nI p0)), (2, .int (nI r0)), (3, .int (nI fi)), (4, .int (nI en))]) hx hb dX10_laySheet_24 hl (by decide) rfl (fun ls hl => ?_)
  refine ls_lay (I := I) (F := F) (pn := pn) (pe := pe) (sl := sl) (K := K) (Fm := Fm) (To := To) (Rr := Rr) (p0 := p0) (r0 := r0) (en := en) (mo := mo) (x3 := nI fi) hpv hI2 (by omega) hen hp0 (by omega) (Nat.le_of_ble_eq_true rfl) (Nat.le_of_ble_eq_true rfl) (Nat.le_of_ble_eq_true rfl) (Nat.le_of_ble_eq_true rfl) hA hf hK 41 p0 r0 ra 0 (-1) (I 26) (I 27) none _ _ ls (by omega) (by omega) (by omega) (by omega) (fun _ => hr0) rfl (fun _ => Nat.le_refl _) (Nat.le_refl _) hP hD hS (lv_sub hl (l' := [(9, .int (nI r0)), (8, .int (nI p0)), (7, .int 1), (6, .int 0), (5, .int (nI ra)), (4, .int (nI en)), (3, .int (nI fi)), (2, .int (nI r0)), (1, .int (nI p0)), (0, .ref h0)]) [0, 1, 2, 3, 4, 9, 8, 7, 6, 5] rfl) (fun b2 v1 v2 v3 H locs ls a1 a2 hP hD hS hl => ?_)
  exact q_zv hf hr hlocks hK hP hD hS (Nat.le_of_ble_eq_true rfl) (Nat.le_of_ble_eq_true rfl) ⟨b2, v1, v2, v3, by rw [← era]; exact a1, a2, rfl⟩ dX10_laySheet_224
/-- a place behind (p, r) and not behind the end -/
def rs_far (To Fm : Nat → Nat) (p0 r0 en : Nat) (x : Nat × Nat × Nat) : Prop := (p0 < x.1 ∨ (p0 = x.1 ∧ r0 < x.2.1)) ∧ x.1 ≤ en ∧ (x.1 < en → x.2.1 < To x.1 - Fm x.1) ∧ (x.1 = en → x.2.1 = 0) ∧ x.2.2 ≤ 40
theorem rs_keep {K : Nat → Int32} {Fm To Rr : Nat → Nat} {p0 r0 en mo : Nat} (hz : ∀ p, p < en → 0 < To p - Fm p) (hmo : mo ≤ 40) : ∀ f p i rows al b, (p < en → i < To p - Fm p) → (p0 < p ∨ (p0 = p ∧ r0 ≤ i)) → (∃ x, b = some x ∧ rs_far To Fm p0 r0 en x) → ∃ x, rs_lay K Fm To Rr p0 r0 en mo f p i rows al b = some x ∧ rs_far To Fm p0 r0 en x := by
  intro f
  induction f with
  | zero => intro p i rows al b _ _ h; exact h
  | succ f ih =>
    intro p i rows al b hi hp h
    obtain ⟨dd, edd⟩ : ∃ x, x = pb (p0 < p ∧ i = 0 ∧ rp_he (K p) (Fm p)) := ⟨_, rfl⟩
    by_cases hc : p < en ∧ rows + dd + 1 ≤ mo
    · have hi1 := hi hc.1
      rw [rs_in hc.1 hc.2 edd rfl rfl rfl rfl rfl rfl]
      have hfar : ∀ w, w ≤ 40 → rs_far To Fm p0 r0 en ((if i + 1 = To p - Fm p then p + 1 else p), (if i + 1 = To p - Fm p then 0 else i + 1), w) := by
        intro w hw
        by_cases hZ : i + 1 = To p - Fm p
        · rw [if_pos hZ, if_pos hZ]
          exact ⟨by show p0 < p + 1 ∨ _; omega, by show p + 1 ≤ en; omega, fun h9 => hz _ h9, fun _ => rfl, hw⟩
        · rw [if_neg hZ, if_neg hZ]
          exact ⟨by show p0 < p ∨ (p0 = p ∧ r0 < i + 1); omega, by show p ≤ en; omega, fun _ => by show i + 1 < To p - Fm p; omega, fun h9 => absurd (show p = en from h9) (by omega), hw⟩
      apply ih
      · intro h9
        exact (hfar 0 (by decide)).2.2.1 h9
      · have := (hfar 0 (by decide)).1
        rcases this with h1 | h1
        · exact Or.inl h1
        · exact Or.inr ⟨h1.1, Nat.le_of_lt h1.2⟩
      · by_cases hu : rows + dd + 1 + pb (rp_rb (K p) (Fm p) (To p) (Rr p) p (i + 1) en) ≤ mo ∧ (¬ pb (rp_me (K p) (To p - Fm p) p0 r0 p (i + 1) en) = 0 ∨ al = 0)
        · rw [if_pos hu]
          exact ⟨_, rfl, hfar _ (by omega)⟩
        · rw [if_neg hu]
          exact h
    · rw [rs_out edd hc]
      exact h
theorem rs_some {K : Nat → Int32} {Fm To Rr : Nat → Nat} {p0 r0 en mo f rows : Nat} (hz : ∀ p, p < en → 0 < To p - Fm p) (hmo1 : 10 ≤ mo) (hmo : mo ≤ 40) (hp : p0 < en) (hr : r0 < To p0 - Fm p0) (hrows : rows ≤ 1) : ∃ x, rs_lay K Fm To Rr p0 r0 en mo (f + 1) p0 r0 rows 0 none = some x ∧ rs_far To Fm p0 r0 en x := by
  have edd : 0 = pb (p0 < p0 ∧ r0 = 0 ∧ rp_he (K p0) (Fm p0)) := (pb_0 (fun z => absurd z.1 (Nat.lt_irrefl _))).symm
  rw [rs_in hp (by omega) edd rfl rfl rfl rfl rfl rfl]
  have hb := pb_le (rp_rb (K p0) (Fm p0) (To p0) (Rr p0) p0 (r0 + 1) en)
  have hcd : rows + 0 + 1 + pb (rp_rb (K p0) (Fm p0) (To p0) (Rr p0) p0 (r0 + 1) en) ≤ mo ∧ (¬ pb (rp_me (K p0) (To p0 - Fm p0) p0 r0 p0 (r0 + 1) en) = 0 ∨ 0 = 0) := ⟨by omega, Or.inr rfl⟩
  rw [if_pos hcd, if_pos hcd]
  have hfar : ∀ w, w ≤ 40 → rs_far To Fm p0 r0 en ((if r0 + 1 = To p0 - Fm p0 then p0 + 1 else p0), (if r0 + 1 = To p0 - Fm p0 then 0 else r0 + 1), w) := by
    intro w hw
    by_cases hZ : r0 + 1 = To p0 - Fm p0
    · rw [if_pos hZ, if_pos hZ]
      exact ⟨by show p0 < p0 + 1 ∨ _; omega, by show p0 + 1 ≤ en; omega, fun h9 => hz _ h9, fun _ => rfl, hw⟩
    · rw [if_neg hZ, if_neg hZ]
      exact ⟨by show p0 < p0 ∨ (p0 = p0 ∧ r0 < r0 + 1); omega, by show p0 ≤ en; omega, fun _ => by show r0 + 1 < To p0 - Fm p0; omega, fun h9 => absurd (show p0 = en from h9) (by omega), hw⟩
  refine rs_keep hz hmo f _ _ _ _ _ (fun h9 => (hfar 0 (by decide)).2.2.1 h9) ?_ ⟨_, rfl, hfar _ (by omega)⟩
  rcases (hfar 0 (by decide)).1 with h1 | h1
  · exact Or.inl h1
  · exact Or.inr ⟨h1.1, Nat.le_of_lt h1.2⟩
