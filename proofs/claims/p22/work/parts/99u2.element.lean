noncomputable def elV (x : E5) (w : Int32) : Int32 := if w = 0 then x.1 else if w = 1 then nI x.2.2.2.1 else if w = 2 then nI (eRw x) else if w = 3 then (if x.2.2.1 = 0 then 0 else 1) else (-2)
theorem elV_0 {x : E5} {w : Int32} (h : w = 0) : elV x w = x.1 := if_pos h
theorem elV_1 {x : E5} {w : Int32} (h : w = 1) : elV x w = nI x.2.2.2.1 := by
  rw [h]; unfold elV; rw [if_neg (by decide), if_pos rfl]
theorem elV_2 {x : E5} {w : Int32} (h : w = 2) : elV x w = nI (eRw x) := by
  rw [h]; unfold elV; rw [if_neg (by decide), if_neg (by decide), if_pos rfl]
theorem elV_3 {x : E5} {w : Int32} (h : w = 3) : elV x w = if x.2.2.1 = 0 then 0 else 1 := by
  rw [h]; unfold elV; rw [if_neg (by decide), if_neg (by decide), if_neg (by decide), if_pos rfl]
theorem elV_3a {x : E5} {w : Int32} (h : w = 3) (h1 : x.2.2.1 = 0) : elV x w = 0 := by rw [elV_3 h, if_pos h1]
theorem elV_3b {x : E5} {w : Int32} (h : w = 3) (h1 : ¬ x.2.2.1 = 0) : elV x w = 1 := by rw [elV_3 h, if_neg h1]
theorem elV_out {x : E5} {w : Int32} (h : w < 0 ∨ 3 < w) : elV x w = (-2) := by
  have n0 : ¬ w = 0 := fun z9 => by rw [z9] at h; revert h; decide
  have n1 : ¬ w = 1 := fun z9 => by rw [z9] at h; revert h; decide
  have n2 : ¬ w = 2 := fun z9 => by rw [z9] at h; revert h; decide
  have n3 : ¬ w = 3 := fun z9 => by rw [z9] at h; revert h; decide
  unfold elV
  rw [if_neg n0, if_neg n1, if_neg n2, if_neg n3]
theorem sw_in3 {w : Int32} (h0 : ¬ w < 0) (h3 : ¬ 3 < w) (n0 : ¬ w = 0) (n1 : ¬ w = 1) (n2 : ¬ w = 2) : w = 3 := by
  rcases q_sw_0_3 w with h | h | h | h | h
  · exact absurd h n0
  · exact absurd h n1
  · exact absurd h n2
  · exact h
  · have e0 : (0 : Int32).toInt = 0 := by decide
    have e3 : (3 : Int32).toInt = 3 := by decide
    rcases h with h | h
    · exact absurd (by rw [Int32.lt_iff_toInt_lt]; omega) h0
    · exact absurd (by rw [Int32.lt_iff_toInt_lt]; omega) h3
theorem sw_o3 {w : Int32} (h : w.toInt < 0 ∨ 3 < w.toInt) : w < 0 ∨ 3 < w := by
  have e0 : (0 : Int32).toInt = 0 := by decide
  have e3 : (3 : Int32).toInt = 3 := by decide
  rcases h with h | h
  · exact Or.inl (by rw [Int32.lt_iff_toInt_lt]; omega)
  · exact Or.inr (by rw [Int32.lt_iff_toInt_lt]; omega)
/-- element: the answer -/
def elC (ne : Nat) (Es : List E5) (x1 x2 r : Int32) : Prop := (¬ (∃ j : Nat, j < ne ∧ x1 = nI j) ∧ r = (-2)) ∨ (∃ j : Nat, j < ne ∧ x1 = nI j ∧ r = elV (Es.getD j dE) x2)
theorem elC_b {ne : Nat} {Es : List E5} {x1 x2 : Int32} (h : ¬ (∃ j : Nat, j < ne ∧ x1 = nI j)) : elC ne Es x1 x2 (-2) := Or.inl ⟨h, rfl⟩
theorem elC_y {ne : Nat} {Es : List E5} {x2 r : Int32} {j : Nat} (hj : j < ne) (h : r = elV (Es.getD j dE) x2) : elC ne Es (nI j) x2 r := Or.inr ⟨j, hj, rfl, h⟩
theorem elC_w {ne : Nat} {Es : List E5} {x2 : Int32} {j : Nat} (hj : j < ne) (h : x2 < 0 ∨ 3 < x2) : elC ne Es (nI j) x2 (-2) := elC_y hj (elV_out h).symm
theorem elC_det {ne : Nat} {Es : List E5} {x1 x2 r1 r2 : Int32} (hn : ne ≤ 60) (h1 : elC ne Es x1 x2 r1) (h2 : elC ne Es x1 x2 r2) : r1 = r2 := by
  rcases h1 with ⟨a1, a2⟩ | ⟨j, a1, a2, a3⟩
  · rcases h2 with ⟨_, b2⟩ | ⟨j2, b1, b2, _⟩
    · rw [a2, b2]
    · exact absurd ⟨j2, b1, b2⟩ a1
  · rcases h2 with ⟨b1, _⟩ | ⟨j2, b1, b2, b3⟩
    · exact absurd ⟨j, a1, a2⟩ b1
    · have e9 := q_eqn (a := j) (b := j2) (by omega) (by omega) (a2.symm.trans b2)
      rw [a3, b3, e9]

set_option maxHeartbeats 1000000 in
set_option maxRecDepth 100000 in
theorem r_elementO2 (l : Launch) (D : va_G) (h0 : Nat) (q : Nat → Nat) (cB cI_ cZ : ClassId) (I : Nat → Int32) (F : Nat → Nat → Int32) (Es : List E5) (sl : Nat → Nat) (j : Nat) (x2 : Int32) (hI3 : I 3 = nI Es.length) (hre : reR F Es sl) (hj : j < Es.length) (hw0 : ¬ x2 < 0) (hw3 : ¬ 3 < x2) : cI l D yX10_elementOf cX10_elementOf 4 (some .int) 0 0 0 0 [.ref h0, .int (nI j), .int x2] zT (mW h0 q cB cI_ cZ I F) (mT cB cI_ cZ) (fun r u => r = elV (Es.getD j dE) x2 ∧ u = (mW h0 q cB cI_ cZ I F, mT cB cI_ cZ)) := by
  refine q_si (by decide) (Nat.le_of_ble_eq_true rfl) ?_
  intro p e s m below meth c A ls hAe hf hr hlocks hin hK hP hD hS hA hZ hl
  obtain ⟨hx, hb, hml, hown, hts⟩ := id hf
  have hl : lv_has ls 4 [(0, .ref h0), (1, .int (nI j)), (2, .int x2)] := hl
  have hre1 := hre.1
  have hslj := (hre.2.1 j hj).2.1
  refine lv_aload_n hx hb dX10_elementOf_0 rfl (lv_at hl 0 rfl) ?_
  refine va_get (D := D) (ci := 11) (v := .ref (q 4)) (C := RX10) (T := TX10) (N := 48) hx hb hts inX10 hown hK hP 0 rfl rfl 4 (by decide) (hts _ k_1148) (fun _ h9 => h9) rfl dX10_elementOf_1 ?_
  refine lv_iload_n hx hb dX10_elementOf_4 rfl (lv_at hl 1 rfl) ?_
  refine q_ild (X := j) (f := (F 4)) hx hb hK hP 2 1 rfl rfl (by omega) (by decide) dX10_elementOf_5 ?_
  refine q_seti (y := (nI ((sl j)))) (hre.2.1 j (by omega)).1 ?_
  refine lv_istore_n (lv' := [(3, .int (nI ((sl j)))), (0, .ref h0), (1, .int (nI j)), (2, .int x2)]) hx hb dX10_elementOf_6 rfl hl (by decide) rfl (fun ls hl => ?_)
  refine lv_iload_n hx hb dX10_elementOf_7 rfl (lv_at hl 3 rfl) ?_
  refine lv_if_ne (tgt := 20) hx hb dX10_elementOf_8 (by decide) (fun c_1 => ?_) (fun c_1 => ?_)
  · refine lv_iload_n hx hb dX10_elementOf_20 rfl (lv_at hl 3 rfl) ?_
    refine lv_iconst (v := 1) hx hb dX10_elementOf_21 (by decide) ?_
    refine lv_icmp_ne (tgt := 34) hx hb dX10_elementOf_22 (by decide) (fun c_2 => ?_) (fun c_2 => ?_)
    · refine lv_iload_n hx hb dX10_elementOf_34 rfl (lv_at hl 3 rfl) ?_
      refine lv_iconst (v := 2) hx hb dX10_elementOf_35 (by decide) ?_
      refine lv_icmp_ne (tgt := 48) hx hb dX10_elementOf_36 (by decide) (fun c_3 => ?_) (fun c_3 => ?_)
      · refine lv_aload_n hx hb dX10_elementOf_48 rfl (lv_at hl 1 rfl) ?_
        refine va_get (D := D) (ci := 11) (v := .ref (q 7)) (C := RX10) (T := TX10) (N := 48) hx hb hts inX10 hown hK hP 0 rfl rfl 7 (by decide) (hts _ k_1151) (fun _ h9 => h9) rfl dX10_elementOf_49 ?_
        refine lv_iload_n hx hb dX10_elementOf_52 rfl (lv_at hl 0 rfl) ?_
        refine q_zld (X := (sl j)) (f := (F 7)) hx hb hK hP 5 2 rfl rfl (by omega) (by decide) dX10_elementOf_53 ?_
        refine q_seti (y := (Es.getD j dE).2.2.1) (hre.2.1 j (by omega)).2.2.2.2.1 ?_
        refine lv_if_eq (tgt := 61) hx hb dX10_elementOf_54 (by decide) (fun c_4 => ?_) (fun c_4 => ?_)
        · refine lv_iconst (v := 0) hx hb dX10_elementOf_61 (by decide) ?_
          exact q_zi hf hr rfl hlocks hK hP hD hS (Nat.le_of_ble_eq_true rfl) (Nat.le_of_ble_eq_true rfl) ⟨(elV_3a (sw_in3 hw0 hw3 c_1 c_2 c_3) c_4).symm, rfl⟩ dX10_elementOf_62
        · refine lv_iconst (v := 1) hx hb dX10_elementOf_57 (by decide) ?_
          refine lv_goto (tgt := 62) hx hb dX10_elementOf_58 (by decide) ?_
          exact q_zi hf hr rfl hlocks hK hP hD hS (Nat.le_of_ble_eq_true rfl) (Nat.le_of_ble_eq_true rfl) ⟨(elV_3b (sw_in3 hw0 hw3 c_1 c_2 c_3) c_4).symm, rfl⟩ dX10_elementOf_62
      · refine lv_aload_n hx hb dX10_elementOf_39 rfl (lv_at hl 1 rfl) ?_
        refine va_get (D := D) (ci := 11) (v := .ref (q 11)) (C := RX10) (T := TX10) (N := 48) hx hb hts inX10 hown hK hP 0 rfl rfl 11 (by decide) (hts _ k_1155) (fun _ h9 => h9) rfl dX10_elementOf_40 ?_
        refine lv_iload_n hx hb dX10_elementOf_43 rfl (lv_at hl 0 rfl) ?_
        refine q_ild (X := (sl j)) (f := (F 11)) hx hb hK hP 9 1 rfl rfl (by omega) (by decide) dX10_elementOf_44 ?_
        refine q_seti (y := (nI (eRw (Es.getD j dE)))) (hre.2.1 j (by omega)).2.2.2.2.2.2.2.2.2.1 ?_
        refine lv_goto (tgt := 62) hx hb dX10_elementOf_45 (by decide) ?_
        exact q_zi hf hr rfl hlocks hK hP hD hS (Nat.le_of_ble_eq_true rfl) (Nat.le_of_ble_eq_true rfl) ⟨(elV_2 c_3).symm, rfl⟩ dX10_elementOf_62
    · refine lv_aload_n hx hb dX10_elementOf_25 rfl (lv_at hl 1 rfl) ?_
      refine va_get (D := D) (ci := 11) (v := .ref (q 8)) (C := RX10) (T := TX10) (N := 48) hx hb hts inX10 hown hK hP 0 rfl rfl 8 (by decide) (hts _ k_1152) (fun _ h9 => h9) rfl dX10_elementOf_26 ?_
      refine lv_iload_n hx hb dX10_elementOf_29 rfl (lv_at hl 0 rfl) ?_
      refine q_ild (X := (sl j)) (f := (F 8)) hx hb hK hP 6 1 rfl rfl (by omega) (by decide) dX10_elementOf_30 ?_
      refine q_seti (y := (nI ((Es.getD j dE).2.2.2.1))) (hre.2.1 j (by omega)).2.2.2.2.2.1 ?_
      refine lv_goto (tgt := 62) hx hb dX10_elementOf_31 (by decide) ?_
      exact q_zi hf hr rfl hlocks hK hP hD hS (Nat.le_of_ble_eq_true rfl) (Nat.le_of_ble_eq_true rfl) ⟨(elV_1 c_2).symm, rfl⟩ dX10_elementOf_62
  · refine lv_aload_n hx hb dX10_elementOf_11 rfl (lv_at hl 1 rfl) ?_
    refine va_get (D := D) (ci := 11) (v := .ref (q 6)) (C := RX10) (T := TX10) (N := 48) hx hb hts inX10 hown hK hP 0 rfl rfl 6 (by decide) (hts _ k_1150) (fun _ h9 => h9) rfl dX10_elementOf_12 ?_
    refine lv_iload_n hx hb dX10_elementOf_15 rfl (lv_at hl 0 rfl) ?_
    refine q_ild (X := (sl j)) (f := (F 6)) hx hb hK hP 4 1 rfl rfl (by omega) (by decide) dX10_elementOf_16 ?_
    refine q_seti (y := (Es.getD j dE).1) (hre.2.1 j (by omega)).2.2.2.1 ?_
    refine lv_goto (tgt := 62) hx hb dX10_elementOf_17 (by decide) ?_
    exact q_zi hf hr rfl hlocks hK hP hD hS (Nat.le_of_ble_eq_true rfl) (Nat.le_of_ble_eq_true rfl) ⟨(elV_0 c_1).symm, rfl⟩ dX10_elementOf_62
set_option maxHeartbeats 1000000 in
set_option maxRecDepth 100000 in
theorem r_element2 (l : Launch) (D : va_G) (h0 : Nat) (q : Nat → Nat) (cB cI_ cZ : ClassId) (I : Nat → Int32) (F : Nat → Nat → Int32) (Es : List E5) (sl : Nat → Nat) (x1 x2 : Int32) (hI3 : I 3 = nI Es.length) (hre : reR F Es sl) : cI l D yX10_element cX10_element 3 (some .int) 2 43 0 0 [.ref h0, .int x1, .int x2] zT (mW h0 q cB cI_ cZ I F) (mT cB cI_ cZ) (fun r u => elC Es.length Es x1 x2 r ∧ u = (mW h0 q cB cI_ cZ I F, mT cB cI_ cZ)) := by
  refine q_si (by decide) (Nat.le_of_ble_eq_true rfl) ?_
  intro p e s m below meth c A ls hAe hf hr hlocks hin hK hP hD hS hA hZ hl
  obtain ⟨hx, hb, hml, hown, hts⟩ := id hf
  have hl : lv_has ls 3 [(0, .ref h0), (1, .int x1), (2, .int x2)] := hl
  have hre1 := hre.1
  refine lv_aload_n hx hb dX10_element_0 rfl (lv_at hl 0 rfl) ?_
  refine lv_iload_n hx hb dX10_element_1 rfl (lv_at hl 1 rfl) ?_
  refine q_ci (k := 0) (n := 0) hK hP hD hS hA (fun hPc hKc hDc => q_rV (As := [.int x1]) (rest := []) hf (r_isElement _ D h0 q cB cI_ cZ I F Es.length x1 hI3 hre.1 _) k_1371 k_1368 k_1370 k_59 k_98 (nA := 1) (by decide +kernel) ⟨Nat.le_of_ble_eq_true rfl, Nat.le_of_ble_eq_true rfl⟩ hK hP (ci := 11) (q0 := 0) rfl rfl rfl hPc hKc hDc (fun _ _ _ _ h => h) (fun _ _ _ => trivial) rfl hl.1 rfl (Nat.le_of_ble_eq_true rfl) dX10_element_2 ⟨Nat.le_of_ble_eq_true rfl, Nat.le_of_ble_eq_true rfl⟩) (by decide) (by decide) (fun r u H locs hw hK hP hD hS => ?_)
  rcases hw with ⟨⟨c_1, rfl⟩ | ⟨c_1, rfl⟩, rfl⟩
  · have hP : va_P D vcl (mW h0 q cB cI_ cZ I F) H := hP
    have hD : va_D A (mW h0 q cB cI_ cZ I F) := hD
    refine lv_if_eq (tgt := 26) hx hb dX10_element_5 (by decide) (fun hno => absurd hno (by decide)) (fun _ => ?_)
    obtain ⟨j, hj, rfl⟩ := c_1
    have hslj := (hre.2.1 j hj).2.1
    have hrwj := elF_rw (hre.2.1 j hj).2.2
    have hl : lv_has ls 3 [(0, .ref h0), (1, .int (nI j)), (2, .int x2)] := hl
    refine lv_iload_n hx hb dX10_element_8 rfl (lv_at hl 2 rfl) ?_
    refine lv_iconst (v := 0) hx hb dX10_element_9 (by decide) ?_
    refine lv_iconst (v := 3) hx hb dX10_element_10 (by decide) ?_
    refine q_ei (k := 0) (n := 0) hP hS hA (q_rS (wc := []) (tc := []) (As := [.int x2, .int 0, .int 3]) (rest := []) hf (m_X10_in_1 _ D x2 0 3 _) k_1296 k_1294 k_1295 k_98 (nA := 3) (by decide +kernel) ⟨Nat.le_of_ble_eq_true rfl, Nat.le_of_ble_eq_true rfl⟩ (fun k q h => by simp at h) (hK.sub (tys' := []) [] rfl) (A := A) ⟨fun i j p q h => by simp at h, fun k q h => by simp at h⟩ (fun _ _ _ _ h => h) (fun _ _ _ => trivial) rfl hl.1 rfl (Nat.le_of_ble_eq_true rfl) dX10_element_11 ⟨Nat.le_of_ble_eq_true rfl, Nat.le_of_ble_eq_true rfl⟩) (by decide) (by decide) (fun r u H locs hw hP hS => ?_)
    rcases hw with ⟨c_2, rfl, rfl⟩ | ⟨c_3, c_4, rfl, rfl⟩ | ⟨c_5, c_6, rfl, rfl⟩
    · refine lv_if_eq (tgt := 26) hx hb dX10_element_14 (by decide) (fun _ => ?_) (fun hno => absurd hno (by decide))
      refine lv_bipush (v := (-2)) hx hb dX10_element_26 (by decide) ?_
      exact q_zi hf hr rfl hlocks hK hP hD hS (Nat.le_of_ble_eq_true rfl) (Nat.le_of_ble_eq_true rfl) ⟨elC_w hj (Or.inl c_2), rfl⟩ dX10_element_28
    · refine lv_if_eq (tgt := 26) hx hb dX10_element_14 (by decide) (fun _ => ?_) (fun hno => absurd hno (by decide))
      refine lv_bipush (v := (-2)) hx hb dX10_element_26 (by decide) ?_
      exact q_zi hf hr rfl hlocks hK hP hD hS (Nat.le_of_ble_eq_true rfl) (Nat.le_of_ble_eq_true rfl) ⟨elC_w hj (Or.inr c_4), rfl⟩ dX10_element_28
    · refine lv_if_eq (tgt := 26) hx hb dX10_element_14 (by decide) (fun hno => absurd hno (by decide)) (fun _ => ?_)
      refine lv_aload_n hx hb dX10_element_17 rfl (lv_at hl 0 rfl) ?_
      refine lv_iload_n hx hb dX10_element_18 rfl (lv_at hl 1 rfl) ?_
      refine lv_iload_n hx hb dX10_element_19 rfl (lv_at hl 2 rfl) ?_
      refine q_ci (k := 0) (n := 0) hK hP hD hS hA (fun hPc hKc hDc => q_rV (As := [.int (nI j), .int x2]) (rest := []) hf (r_elementO2 _ D h0 q cB cI_ cZ I F Es sl j x2 hI3 hre hj c_5 c_6 _) k_1375 k_1372 k_1374 k_60 k_98 (nA := 2) (by decide +kernel) ⟨Nat.le_of_ble_eq_true rfl, Nat.le_of_ble_eq_true rfl⟩ hK hP (ci := 11) (q0 := 0) rfl rfl rfl hPc hKc hDc (fun _ _ _ _ h => h) (fun _ _ _ => trivial) rfl hl.1 rfl (Nat.le_of_ble_eq_true rfl) dX10_element_20 ⟨Nat.le_of_ble_eq_true rfl, Nat.le_of_ble_eq_true rfl⟩) (by decide) (by decide) (fun r u H locs hw hK hP hD hS => ?_)
      obtain ⟨hr9, rfl⟩ := hw
      have hP : va_P D vcl (mW h0 q cB cI_ cZ I F) H := hP
      have hD : va_D A (mW h0 q cB cI_ cZ I F) := hD
      refine lv_goto (tgt := 28) hx hb dX10_element_23 (by decide) ?_
      exact q_zi hf hr rfl hlocks hK hP hD hS (Nat.le_of_ble_eq_true rfl) (Nat.le_of_ble_eq_true rfl) ⟨elC_y hj hr9, rfl⟩ dX10_element_28
  · have hP : va_P D vcl (mW h0 q cB cI_ cZ I F) H := hP
    have hD : va_D A (mW h0 q cB cI_ cZ I F) := hD
    refine lv_if_eq (tgt := 26) hx hb dX10_element_5 (by decide) (fun _ => ?_) (fun hno => absurd hno (by decide))
    refine lv_bipush (v := (-2)) hx hb dX10_element_26 (by decide) ?_
    exact q_zi hf hr rfl hlocks hK hP hD hS (Nat.le_of_ble_eq_true rfl) (Nat.le_of_ble_eq_true rfl) ⟨elC_b c_1, rfl⟩ dX10_element_28
set_option maxHeartbeats 1000000 in
set_option maxRecDepth 100000 in
theorem d_el2 (l : Launch) (D : va_G) (z : Nat → Nat) (cB cI_ cO : ClassId) (L0 : List Nat) (g0 : hG) (dk tp rd els reo nob pr bk gl sl mo : Nat) (v10 v11 : Int32) (cap : Nat) (xs : List Nat) (Es : List E5) (x1 x2 : Int32) (h_dk : ho L0 g0 dk 1 (.inr (10, [.ref tp, .ref rd, .ref els, .ref reo, .ref nob, .ref pr, .ref bk, .ref gl, .ref sl, .int (nI mo), .int v10, .int v11]))) (h_els : alR cO (z 0) 5 6 L0 g0 els cap xs) (h_es : elsR cB cI_ L0 g0 xs Es) (hxl : xs.length ≤ 60) : eIs l D yX9_element cX9_element 4 (some .int) 4 85 0 0 [.ref dk, .int x1, .int x2] z cB cI_ cO L0 g0 (fun r => elC xs.length Es x1 x2 r) := by
  refine o_si (by decide) (Nat.le_of_ble_eq_true rfl) ?_
  intro p e s m below meth c A ls hf hr hlocks hin hK hP hD hS hA hZ hN hl
  obtain ⟨hx, hb, hml, hown, hts⟩ := id hf
  have hl : lv_has ls 4 [(0, .ref dk), (1, .int x1), (2, .int x2)] := hl
  refine lv_aload_n hx hb dX9_element_0 rfl (lv_at hl 0 rfl) ?_
  refine lv_iload_n hx hb dX9_element_1 rfl (lv_at hl 1 rfl) ?_
  refine o_cis (k := 0) (n := 0) hK hP hD hS hA (o_rV (As := [.int x1]) (rest := []) hf (d_isE _ _ _ _ _ _ _ _ dk tp rd els reo nob pr bk gl sl mo v10 v11 cap xs Es x1 h_dk h_els h_es hxl _) k_736 k_733 k_735 k_22 k_84 (nA := 1) (by decide +kernel) ⟨Nat.le_of_ble_eq_true rfl, Nat.le_of_ble_eq_true rfl⟩ hK hP hD hS hA hZ hN h_dk rfl rfl rfl hl.1 rfl (Nat.le_of_ble_eq_true rfl) dX9_element_2 ⟨(show 0 + 0 ≤ 0 by omega), (show 0 + 0 ≤ 0 by omega)⟩) (Nat.le_refl _) (Nat.le_refl _) (fun r H locs hw hP hD hS => ?_)
  rcases hw with ⟨c_1, rfl⟩ | ⟨c_1, rfl⟩
  · have hP := hP
    refine lv_if_ne (tgt := 11) hx hb dX9_element_5 (by decide) (fun _ => ?_) (fun hno => absurd hno (by decide))
    obtain ⟨j, hj, rfl⟩ := c_1
    have hl : lv_has ls 4 [(0, .ref dk), (1, .int (nI j)), (2, .int x2)] := hl
    refine lv_aload_n hx hb dX9_element_11 rfl (lv_at hl 0 rfl) ?_
    refine lv_iload_n hx hb dX9_element_12 rfl (lv_at hl 1 rfl) ?_
    refine o_crs (k := 0) (n := 0) hK hP hD hS hA (o_rV (As := [.int (nI j)]) (rest := []) hf (d_elAt _ _ _ _ _ _ _ _ dk tp rd els reo nob pr bk gl sl mo v10 v11 cap xs Es j h_dk h_els h_es hxl (by omega) _) k_740 k_737 k_739 k_23 k_84 (nA := 1) (by decide +kernel) ⟨Nat.le_of_ble_eq_true rfl, Nat.le_of_ble_eq_true rfl⟩ hK hP hD hS hA hZ hN h_dk rfl rfl rfl hl.1 rfl (Nat.le_of_ble_eq_true rfl) dX9_element_13 ⟨(show 0 + 0 ≤ 0 by omega), (show 0 + 0 ≤ 0 by omega)⟩) (Nat.le_refl _) (Nat.le_refl _) (fun r H locs hw hP hD hS => ?_)
    obtain rfl := hw
    obtain ⟨⟨txg2, rfg2, rtg2, h_eg2⟩, hr_g2⟩ := h_es.o2 (show j < xs.length by omega)
    refine lv_astore_n (lv' := [(3, .ref (xs.getD j 0)), (0, .ref dk), (1, .int (nI j)), (2, .int x2)]) hx hb dX9_element_16 rfl hl (by decide) rfl (fun ls hl => ?_)
    refine lv_iload_n hx hb dX9_element_17 rfl (lv_at hl 3 rfl) ?_
    rcases q_sw_0_3 x2 with c_3 | c_3 | c_3 | c_3 | c_3
    · refine q_seti (y := 0) c_3 ?_
      refine lv_tableIn (off := 30) (tgt := 48) hx hb dX9_element_18 (by decide) (by decide) (by decide) (by decide) ?_
      refine lv_aload_n hx hb dX9_element_48 rfl (lv_at hl 0 rfl) ?_
      refine o_get (D := D) (ci := 2) (v := .int ((Es.getD j dE).1)) (C := RX1) (T := TX1) (N := 9) hx hb hts inX1 hown hK hP h_eg2 rfl 0 (by decide) (hts _ k_228) (fun _ h9 => h9) rfl dX9_element_49 ?_
      exact o_ri hf hr rfl hlocks hK hP hD hS (show 0 ≤ 0 by omega) (show 0 ≤ 0 by omega) ⟨elC_y hj (elV_0 c_3).symm, rfl, rfl⟩ dX9_element_52
    · refine q_seti (y := 1) c_3 ?_
      refine lv_tableIn (off := 35) (tgt := 53) hx hb dX9_element_18 (by decide) (by decide) (by decide) (by decide) ?_
      refine lv_aload_n hx hb dX9_element_53 rfl (lv_at hl 0 rfl) ?_
      refine o_cis (k := 0) (n := 0) hK hP hD hS hA (o_rV (As := []) (rest := []) hf (l_words _ _ _ _ _ _ _ _ (xs.getD j 0) ((Es.getD j dE).1) ((Es.getD j dE).2.1) ((Es.getD j dE).2.2.1) txg2 ((Es.getD j dE).2.2.2.2.length) ((Es.getD j dE).2.2.2.1) rfg2 rtg2 ((eRw (Es.getD j dE))) h_eg2 _) k_744 k_741 k_742 k_743 k_90 (nA := 0) (by decide +kernel) ⟨Nat.le_of_ble_eq_true rfl, Nat.le_of_ble_eq_true rfl⟩ hK hP hD hS hA hZ hN h_eg2 rfl rfl rfl hl.1 rfl (Nat.le_of_ble_eq_true rfl) dX9_element_54 ⟨(show 0 + 0 ≤ 0 by omega), (show 0 + 0 ≤ 0 by omega)⟩) (Nat.le_refl _) (Nat.le_refl _) (fun r H locs hw hP hD hS => ?_)
      obtain rfl := hw
      exact o_ri hf hr rfl hlocks hK hP hD hS (show 0 ≤ 0 by omega) (show 0 ≤ 0 by omega) ⟨elC_y hj (elV_1 c_3).symm, rfl, rfl⟩ dX9_element_57
    · refine q_seti (y := 2) c_3 ?_
      refine lv_tableIn (off := 40) (tgt := 58) hx hb dX9_element_18 (by decide) (by decide) (by decide) (by decide) ?_
      refine lv_aload_n hx hb dX9_element_58 rfl (lv_at hl 0 rfl) ?_
      refine o_cis (k := 0) (n := 0) hK hP hD hS hA (o_rV (As := []) (rest := []) hf (l_rows _ _ _ _ _ _ _ _ (xs.getD j 0) ((Es.getD j dE).1) ((Es.getD j dE).2.1) ((Es.getD j dE).2.2.1) txg2 ((Es.getD j dE).2.2.2.2.length) ((Es.getD j dE).2.2.2.1) rfg2 rtg2 ((eRw (Es.getD j dE))) h_eg2 _) k_695 k_692 k_693 k_694 k_90 (nA := 0) (by decide +kernel) ⟨Nat.le_of_ble_eq_true rfl, Nat.le_of_ble_eq_true rfl⟩ hK hP hD hS hA hZ hN h_eg2 rfl rfl rfl hl.1 rfl (Nat.le_of_ble_eq_true rfl) dX9_element_59 ⟨(show 0 + 0 ≤ 0 by omega), (show 0 + 0 ≤ 0 by omega)⟩) (Nat.le_refl _) (Nat.le_refl _) (fun r H locs hw hP hD hS => ?_)
      obtain rfl := hw
      exact o_ri hf hr rfl hlocks hK hP hD hS (show 0 ≤ 0 by omega) (show 0 ≤ 0 by omega) ⟨elC_y hj (elV_2 c_3).symm, rfl, rfl⟩ dX9_element_62
    · refine q_seti (y := 3) c_3 ?_
      refine lv_tableIn (off := 45) (tgt := 63) hx hb dX9_element_18 (by decide) (by decide) (by decide) (by decide) ?_
      refine lv_aload_n hx hb dX9_element_63 rfl (lv_at hl 0 rfl) ?_
      refine o_get (D := D) (ci := 2) (v := .int ((Es.getD j dE).2.2.1)) (C := RX1) (T := TX1) (N := 9) hx hb hts inX1 hown hK hP h_eg2 rfl 2 (by decide) (hts _ k_235) (fun _ h9 => h9) rfl dX9_element_64 ?_
      refine lv_if_eq (tgt := 74) hx hb dX9_element_67 (by decide) (fun c_4 => ?_) (fun c_4 => ?_)
      · refine lv_iconst (v := 0) hx hb dX9_element_74 (by decide) ?_
        exact o_ri hf hr rfl hlocks hK hP hD hS (show 0 ≤ 0 by omega) (show 0 ≤ 0 by omega) ⟨elC_y hj (elV_3a c_3 c_4).symm, rfl, rfl⟩ dX9_element_75
      · refine lv_iconst (v := 1) hx hb dX9_element_70 (by decide) ?_
        refine lv_goto (tgt := 75) hx hb dX9_element_71 (by decide) ?_
        exact o_ri hf hr rfl hlocks hK hP hD hS (show 0 ≤ 0 by omega) (show 0 ≤ 0 by omega) ⟨elC_y hj (elV_3b c_3 c_4).symm, rfl, rfl⟩ dX9_element_75
    · refine lv_tableOut (tgt := 76) hx hb dX9_element_18 c_3 (by decide) ?_
      refine lv_bipush (v := (-2)) hx hb dX9_element_76 (by decide) ?_
      exact o_ri hf hr rfl hlocks hK hP hD hS (show 0 ≤ 0 by omega) (show 0 ≤ 0 by omega) ⟨elC_w hj (sw_o3 c_3), rfl, rfl⟩ dX9_element_78
  · have hP := hP
    refine lv_if_ne (tgt := 11) hx hb dX9_element_5 (by decide) (fun hno => absurd hno (by decide)) (fun _ => ?_)
    refine lv_bipush (v := (-2)) hx hb dX9_element_8 (by decide) ?_
    exact o_ri hf hr rfl hlocks hK hP hD hS (show 0 ≤ 0 by omega) (show 0 ≤ 0 by omega) ⟨elC_b c_1, rfl, rfl⟩ dX9_element_10
