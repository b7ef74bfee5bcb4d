/-- sheets: the answer -/
def shC (lk gs : Nat) (nm : Nat → Nat) (x1 r : Int32) : Prop := (lk = 0 ∧ r = (-3)) ∨ (0 < lk ∧ ¬ (∃ g : Nat, g < gs ∧ x1 = nI (g + 1)) ∧ r = (-2)) ∨ (∃ g : Nat, 0 < lk ∧ g < gs ∧ x1 = nI (g + 1) ∧ r = nI (nm g))
theorem shC_det {lk gs : Nat} {nm : Nat → Nat} {x1 r1 r2 : Int32} (hg : 0 < lk → gs ≤ 8000) (h1 : shC lk gs nm x1 r1) (h2 : shC lk gs nm x1 r2) : r1 = r2 := by
  rcases h1 with ⟨a1, a2⟩ | ⟨a1, a2, a3⟩ | ⟨g, a1, a2, a3, a4⟩
  · rcases h2 with ⟨b1, b2⟩ | ⟨b1, b2, b3⟩ | ⟨g2, b1, b2, b3, b4⟩
    · rw [a2, b2]
    · exact False.elim (by omega)
    · exact False.elim (by omega)
  · rcases h2 with ⟨b1, b2⟩ | ⟨b1, b2, b3⟩ | ⟨g2, b1, b2, b3, b4⟩
    · exact False.elim (by omega)
    · rw [a3, b3]
    · exact absurd ⟨g2, b2, b3⟩ a2
  · rcases h2 with ⟨b1, b2⟩ | ⟨b1, b2, b3⟩ | ⟨g2, b1, b2, b3, b4⟩
    · exact False.elim (by omega)
    · exact absurd ⟨g, a2, a3⟩ b2
    · have h9 := hg a1
      have e9 := q_eqn (a := g + 1) (b := g2 + 1) (by omega) (by omega) (a3.symm.trans b3)
      have e8 : g = g2 := by omega
      rw [a4, b4, e8]
theorem shC_gs {lk g9 gs : Nat} {nm : Nat → Nat} {x1 r : Int32} (h : 0 < lk → g9 = gs) (hv : shC lk g9 nm x1 r) : shC lk gs nm x1 r := by
  rcases Nat.eq_zero_or_pos lk with c | c
  · rcases hv with a | ⟨a, _⟩ | ⟨_, a, _⟩
    · exact Or.inl a
    · exact False.elim (by omega)
    · exact False.elim (by omega)
  · rw [← h c]; exact hv
theorem gr_no1 {gs : Nat} {x1 : Int32} (hg : gs ≤ 8000) (h : x1 < 1) : ¬ (∃ g : Nat, g < gs ∧ x1 = nI (g + 1)) := by
  rintro ⟨g, h1, h2⟩
  rw [h2] at h
  have := q_lt (a := g + 1) (b := 1) (by omega) (by decide) h
  omega
theorem gr_no2 {gs : Nat} {x1 : Int32} (hg : gs ≤ 8000) (h : nI gs < x1) : ¬ (∃ g : Nat, g < gs ∧ x1 = nI (g + 1)) := by
  rintro ⟨g, h1, h2⟩
  rw [h2] at h
  have := q_lt (a := gs) (b := g + 1) (by omega) (by omega) h
  omega

set_option maxHeartbeats 1000000 in
set_option maxRecDepth 100000 in
theorem r_sheets2 (l : Launch) (D : va_G) (h0 : Nat) (q : Nat → Nat) (cB cI_ cZ : ClassId) (I : Nat → Int32) (F : Nat → Nat → Int32) (pn lk gs : Nat) (pe sl : Nat → Nat) (K : Nat → Int32) (Fm To Rr : Nat → Nat) (mo : Nat) (Gp : Nat → Nat) (x1 : Int32) (hpv : rp_ok F pn pe sl K Fm To Rr) (hI2 : I 2 = nI mo) (hI14 : I 14 = nI pn) (hI20 : I 20 = nI lk) (hI19 : 0 < lk → I 19 = nI gs) (hlk : lk ≤ 1) (hgs : gs ≤ 8000) (hmo1 : 10 ≤ mo) (hmo : mo ≤ 40) (hSS : rs_S Fm To pn ≤ 8000) (hG : ∀ p, p < pn → F 18 p = nI (Gp p) ∧ Gp p ≤ 8000) (hnc : ∀ g, rs_num K Fm To Rr Gp pn mo g ≤ 8000) : cI l D yX10_sheets cX10_sheets 2 (some .int) 5 156 0 0 [.ref h0, .int x1] zT (mW h0 q cB cI_ cZ I F) (mT cB cI_ cZ) (fun r u => shC lk gs (rs_nm K Fm To Rr Gp pn mo) x1 r ∧ (∃ (I2 : Nat → Int32) (F2 : Nat → Nat → Int32), sm I I2 F F2 ∧ u = (mW h0 q cB cI_ cZ I2 F2, mT cB cI_ cZ))) := by
  refine q_si (by decide) (Nat.le_of_ble_eq_true rfl) ?_
  intro p e s m below meth c A ls hAe hf hr hlocks hin hK hP hD hS hA hZ hl
  obtain ⟨hx, hb, hml, hown, hts⟩ := id hf
  have hl : lv_has ls 2 [(0, .ref h0), (1, .int x1)] := hl
  have hpn8 := hpv.1
  refine lv_aload_n hx hb dX10_sheets_0 rfl (lv_at hl 0 rfl) ?_
  refine va_get (D := D) (ci := 11) (v := .int (I 20)) (C := RX10) (T := TX10) (N := 48) hx hb hts inX10 hown hK hP 0 rfl rfl 20 (by decide) (hts _ k_1164) (fun _ h9 => h9) rfl dX10_sheets_1 ?_
  refine q_seti (y := (nI lk)) hI20 ?_
  refine lv_if_ne (tgt := 12) hx hb dX10_sheets_4 (by decide) (fun c_1 => ?_) (fun c_1 => ?_)
  · have c_1 := q_nen (a := lk) (b := 0) (by omega) (by omega) c_1
    refine lv_aload_n hx hb dX10_sheets_12 rfl (lv_at hl 0 rfl) ?_
    refine lv_iload_n hx hb dX10_sheets_13 rfl (lv_at hl 1 rfl) ?_
    refine q_ci (k := 0) (n := 0) hK hP hD hS hA (fun hPc hKc hDc => q_rV (As := [.int x1]) (rest := []) hf (r_isGroup _ D h0 q cB cI_ cZ I F gs x1 (hI19 (by omega)) hgs _) k_1463 k_1460 k_1462 k_74 k_98 (nA := 1) (by decide +kernel) ⟨Nat.le_of_ble_eq_true rfl, Nat.le_of_ble_eq_true rfl⟩ hK hP (ci := 11) (q0 := 0) rfl rfl rfl hPc hKc hDc (fun _ _ _ _ h => h) (fun _ _ _ => trivial) rfl hl.1 rfl (Nat.le_of_ble_eq_true rfl) dX10_sheets_14 ⟨Nat.le_of_ble_eq_true rfl, Nat.le_of_ble_eq_true rfl⟩) (by decide) (by decide) (fun r u H locs hw hK hP hD hS => ?_)
    rcases hw with ⟨⟨c_2, rfl⟩ | ⟨c_2, rfl⟩, rfl⟩
    · have hP : va_P D vcl (mW h0 q cB cI_ cZ I F) H := hP
      have hD : va_D A (mW h0 q cB cI_ cZ I F) := hD
      refine lv_if_eq (tgt := 30) hx hb dX10_sheets_17 (by decide) (fun hno => absurd hno (by decide)) (fun _ => ?_)
      obtain ⟨g1, hg1, rfl⟩ := c_2
      have hl : lv_has ls 2 [(0, .ref h0), (1, .int (nI (g1 + 1)))] := hl
      refine lv_aload_n hx hb dX10_sheets_20 rfl (lv_at hl 0 rfl) ?_
      refine lv_iload_n hx hb dX10_sheets_21 rfl (lv_at hl 1 rfl) ?_
      refine lv_iconst (v := 1) hx hb dX10_sheets_22 (by decide) ?_
      refine lv_isub hx hb dX10_sheets_23 ?_
      refine q_seti (y := nI ((g1 + 1) - 1)) (pk_sub (a := g1 + 1) (b := 1) (by omega)) ?_
      refine q_seti (y := nI g1) (congrArg nI (show (g1 + 1) - 1 = g1 by omega)) ?_
      refine q_ci (k := 0) (n := 0) hK hP hD hS hA (fun hPc hKc hDc => q_rV (As := [.int (nI g1)]) (rest := []) hf (r_sheetsOf _ D h0 q cB cI_ cZ I F pn pe sl K Fm To Rr mo g1 Gp hpv hI2 hmo1 hmo hI14 hG (by omega) hSS (hnc _) _) k_1447 k_1444 k_1446 k_71 k_98 (nA := 1) (by decide +kernel) ⟨Nat.le_of_ble_eq_true rfl, Nat.le_of_ble_eq_true rfl⟩ hK hP (ci := 11) (q0 := 0) rfl rfl rfl hPc hKc hDc (fun _ _ _ _ h => h) (fun _ _ _ => trivial) rfl hl.1 rfl (Nat.le_of_ble_eq_true rfl) dX10_sheets_24 ⟨Nat.le_of_ble_eq_true rfl, Nat.le_of_ble_eq_true rfl⟩) (by decide) (by decide) (fun r u H locs hw hK hP hD hS => ?_)
      obtain ⟨v1, v2, v3, hr9, rfl⟩ := hw
      obtain ⟨ns, hns, rfl⟩ : ∃ ns : Nat, ns = rs_nm K Fm To Rr Gp pn mo g1 ∧ r = nI ns := ⟨_, rfl, hr9⟩
      have hns8 : 1 ≤ ns ∧ ns ≤ 8000 := by
        have h9 := hnc g1
        rw [hns]; unfold rs_nm; split <;> omega
      have hP : va_P D vcl (mW h0 q cB cI_ cZ (upd (upd (upd I 25 v1) 26 v2) 27 v3) F) H := hP
      have hD : va_D A (mW h0 q cB cI_ cZ (upd (upd (upd I 25 v1) 26 v2) 27 v3) F) := hD
      refine lv_goto (tgt := 32) hx hb dX10_sheets_27 (by decide) ?_
      exact q_zi hf hr rfl hlocks hK hP hD hS (Nat.le_of_ble_eq_true rfl) (Nat.le_of_ble_eq_true rfl) ⟨Or.inr (Or.inr ⟨g1, by omega, hg1, rfl, congrArg nI hns⟩), ⟨(upd (upd (upd I 25 v1) 26 v2) 27 v3), F, ⟨⟨rfl, rfl, rfl⟩, ⟨rfl, rfl, rfl⟩, ⟨rfl, rfl, rfl, rfl, rfl, rfl, rfl, rfl, rfl, rfl, rfl⟩, rfl, rfl, rfl, rfl⟩, rfl⟩⟩ dX10_sheets_32
    · have hP : va_P D vcl (mW h0 q cB cI_ cZ I F) H := hP
      have hD : va_D A (mW h0 q cB cI_ cZ I F) := hD
      refine lv_if_eq (tgt := 30) hx hb dX10_sheets_17 (by decide) (fun _ => ?_) (fun hno => absurd hno (by decide))
      refine lv_bipush (v := (-2)) hx hb dX10_sheets_30 (by decide) ?_
      exact q_zi hf hr rfl hlocks hK hP hD hS (Nat.le_of_ble_eq_true rfl) (Nat.le_of_ble_eq_true rfl) ⟨Or.inr (Or.inl ⟨by omega, c_2, rfl⟩), ⟨I, F, ⟨⟨rfl, rfl, rfl⟩, ⟨rfl, rfl, rfl⟩, ⟨rfl, rfl, rfl, rfl, rfl, rfl, rfl, rfl, rfl, rfl, rfl⟩, rfl, rfl, rfl, rfl⟩, rfl⟩⟩ dX10_sheets_32
  · have c_1 := q_eqn (a := lk) (b := 0) (by omega) (by omega) c_1
    refine lv_bipush (v := (-3)) hx hb dX10_sheets_7 (by decide) ?_
    refine lv_goto (tgt := 32) hx hb dX10_sheets_9 (by decide) ?_
    exact q_zi hf hr rfl hlocks hK hP hD hS (Nat.le_of_ble_eq_true rfl) (Nat.le_of_ble_eq_true rfl) ⟨Or.inl ⟨by omega, rfl⟩, ⟨I, F, ⟨⟨rfl, rfl, rfl⟩, ⟨rfl, rfl, rfl⟩, ⟨rfl, rfl, rfl, rfl, rfl, rfl, rfl, rfl, rfl, rfl, rfl⟩, rfl, rfl, rfl, rfl⟩, rfl⟩⟩ dX10_sheets_32
