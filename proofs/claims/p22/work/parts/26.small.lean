abbrev cX10_cut : ByteArray := prog_12_method_5_code
def yX10_cut : MethodName := ⟨RX10, "cut", "(I)I"⟩
abbrev cX10_isElement : ByteArray := prog_12_method_22_code
def yX10_isElement : MethodName := ⟨RX10, "isElement", "(I)Z"⟩
abbrev cX10_isGroup : ByteArray := prog_12_method_45_code
def yX10_isGroup : MethodName := ⟨RX10, "isGroup", "(I)Z"⟩
abbrev cX10_length : ByteArray := prog_12_method_21_code
def yX10_length : MethodName := ⟨RX10, "length", "(I)I"⟩
theorem k_1163 : (Cond.fieldLink RX10 234 "ScriptDeskModel" "groups" "I") ∈ gT := gT_i 1163 (by decide +kernel) rfl
theorem dX10_isElement_0 : decode cX10_isElement 0 = .ok (.iload_n 1, 1) := by decide +kernel
theorem dX10_isElement_1 : decode cX10_isElement 1 = .ok (.iconst 0, 1) := by decide +kernel
theorem dX10_isElement_2 : decode cX10_isElement 2 = .ok (.aload_n 0, 1) := by decide +kernel
theorem dX10_isElement_3 : decode cX10_isElement 3 = .ok (.getfield 144, 3) := by decide +kernel
theorem dX10_isElement_6 : decode cX10_isElement 6 = .ok (.iconst 1, 1) := by decide +kernel
theorem dX10_isElement_7 : decode cX10_isElement 7 = .ok (.isub, 1) := by decide +kernel
theorem dX10_isElement_8 : decode cX10_isElement 8 = .ok (.invokestatic 119, 3) := by decide +kernel
theorem dX10_isElement_11 : decode cX10_isElement 11 = .ok (.ireturn, 1) := by decide +kernel
theorem dX10_length_0 : decode cX10_length 0 = .ok (.iload_n 1, 1) := by decide +kernel
theorem dX10_length_1 : decode cX10_length 1 = .ok (.bipush 10, 2) := by decide +kernel
theorem dX10_length_3 : decode cX10_length 3 = .ok (.bipush 40, 2) := by decide +kernel
theorem dX10_length_5 : decode cX10_length 5 = .ok (.invokestatic 119, 3) := by decide +kernel
theorem dX10_length_8 : decode cX10_length 8 = .ok (.ifCond .ne 6, 3) := by decide +kernel
theorem dX10_length_11 : decode cX10_length 11 = .ok (.bipush (-2), 2) := by decide +kernel
theorem dX10_length_13 : decode cX10_length 13 = .ok (.ireturn, 1) := by decide +kernel
theorem dX10_length_14 : decode cX10_length 14 = .ok (.aload_n 0, 1) := by decide +kernel
theorem dX10_length_15 : decode cX10_length 15 = .ok (.getfield 170, 3) := by decide +kernel
theorem dX10_length_18 : decode cX10_length 18 = .ok (.ifCond .eq 6, 3) := by decide +kernel
theorem dX10_length_24 : decode cX10_length 24 = .ok (.aload_n 0, 1) := by decide +kernel
theorem dX10_length_25 : decode cX10_length 25 = .ok (.getfield 13, 3) := by decide +kernel
theorem dX10_length_28 : decode cX10_length 28 = .ok (.istore_n 2, 1) := by decide +kernel
theorem dX10_length_29 : decode cX10_length 29 = .ok (.aload_n 0, 1) := by decide +kernel
theorem dX10_length_30 : decode cX10_length 30 = .ok (.iload_n 1, 1) := by decide +kernel
theorem dX10_length_31 : decode cX10_length 31 = .ok (.putfield 13, 3) := by decide +kernel
theorem dX10_length_34 : decode cX10_length 34 = .ok (.iload_n 2, 1) := by decide +kernel
theorem dX10_length_35 : decode cX10_length 35 = .ok (.ireturn, 1) := by decide +kernel
theorem dX10_length_21 : decode cX10_length 21 = .ok (.bipush (-3), 2) := by decide +kernel
theorem dX10_length_23 : decode cX10_length 23 = .ok (.ireturn, 1) := by decide +kernel
theorem dX10_cut_0 : decode cX10_cut 0 = .ok (.iload_n 1, 1) := by decide +kernel
theorem dX10_cut_1 : decode cX10_cut 1 = .ok (.iconst 0, 1) := by decide +kernel
theorem dX10_cut_2 : decode cX10_cut 2 = .ok (.aload_n 0, 1) := by decide +kernel
theorem dX10_cut_3 : decode cX10_cut 3 = .ok (.getfield 123, 3) := by decide +kernel
theorem dX10_cut_6 : decode cX10_cut 6 = .ok (.invokestatic 119, 3) := by decide +kernel
theorem dX10_cut_9 : decode cX10_cut 9 = .ok (.ifCond .ne 6, 3) := by decide +kernel
theorem dX10_cut_12 : decode cX10_cut 12 = .ok (.bipush (-2), 2) := by decide +kernel
theorem dX10_cut_14 : decode cX10_cut 14 = .ok (.ireturn, 1) := by decide +kernel
theorem dX10_cut_15 : decode cX10_cut 15 = .ok (.aload_n 0, 1) := by decide +kernel
theorem dX10_cut_16 : decode cX10_cut 16 = .ok (.getfield 123, 3) := by decide +kernel
theorem dX10_cut_19 : decode cX10_cut 19 = .ok (.iload_n 1, 1) := by decide +kernel
theorem dX10_cut_20 : decode cX10_cut 20 = .ok (.isub, 1) := by decide +kernel
theorem dX10_cut_21 : decode cX10_cut 21 = .ok (.istore_n 2, 1) := by decide +kernel
theorem dX10_cut_22 : decode cX10_cut 22 = .ok (.aload_n 0, 1) := by decide +kernel
theorem dX10_cut_23 : decode cX10_cut 23 = .ok (.iload_n 1, 1) := by decide +kernel
theorem dX10_cut_24 : decode cX10_cut 24 = .ok (.putfield 123, 3) := by decide +kernel
theorem dX10_cut_27 : decode cX10_cut 27 = .ok (.iload_n 2, 1) := by decide +kernel
theorem dX10_cut_28 : decode cX10_cut 28 = .ok (.ireturn, 1) := by decide +kernel
theorem dX10_isGroup_0 : decode cX10_isGroup 0 = .ok (.iload_n 1, 1) := by decide +kernel
theorem dX10_isGroup_1 : decode cX10_isGroup 1 = .ok (.iconst 1, 1) := by decide +kernel
theorem dX10_isGroup_2 : decode cX10_isGroup 2 = .ok (.aload_n 0, 1) := by decide +kernel
theorem dX10_isGroup_3 : decode cX10_isGroup 3 = .ok (.getfield 234, 3) := by decide +kernel
theorem dX10_isGroup_6 : decode cX10_isGroup 6 = .ok (.invokestatic 119, 3) := by decide +kernel
theorem dX10_isGroup_9 : decode cX10_isGroup 9 = .ok (.ireturn, 1) := by decide +kernel
theorem ie_1 {x : Int32} {en : Nat} (hen : en < 2 ^ 30) (h1 : ¬ x < 0) (h2 : ¬ nI en - 1 < x) : ∃ j : Nat, j < en ∧ x = nI j := by
  obtain ⟨j, hj, e⟩ := nI_of h1
  rw [e] at h2
  exact ⟨j, q_m1nlt hen hj h2, e⟩
theorem ie_a {x : Int32} {en : Nat} (hen : en < 2 ^ 30) (h1 : x < 0) : ¬ ∃ j : Nat, j < en ∧ x = nI j := by
  rintro ⟨j, hj, e⟩
  rw [e] at h1
  exact nI_pos (by omega) h1
theorem ie_b {x : Int32} {en : Nat} (hen : en < 2 ^ 30) (h1 : nI en - 1 < x) : ¬ ∃ j : Nat, j < en ∧ x = nI j := by
  rintro ⟨j, hj, e⟩
  rw [e] at h1
  have := q_m1lt hen (show j < 2 ^ 31 by omega) h1
  omega
theorem ig_1 {x : Int32} {gs : Nat} (hgs : gs < 2 ^ 30) (h1 : ¬ x < 1) (h2 : ¬ nI gs < x) : ∃ j : Nat, j < gs ∧ x = nI (j + 1) := by
  have h0 : ¬ x < 0 := by
    rw [Int32.lt_iff_toInt_lt] at h1 ⊢
    have e1 : (1 : Int32).toInt = 1 := by decide
    have e0 : (0 : Int32).toInt = 0 := by decide
    omega
  obtain ⟨j, hj, e⟩ := nI_of h0
  rw [e] at h1 h2
  have h3 := q_nlt (b := 1) hj (by decide) h1
  have h4 := q_nlt (by omega) hj h2
  exact ⟨j - 1, by omega, by rw [show j - 1 + 1 = j by omega]; exact e⟩
theorem ig_a {x : Int32} {gs : Nat} (hgs : gs < 2 ^ 30) (h1 : x < 1) : ¬ ∃ j : Nat, j < gs ∧ x = nI (j + 1) := by
  rintro ⟨j, hj, e⟩
  rw [e] at h1
  have := q_lt (b := 1) (by omega) (by decide) h1
  omega
theorem ig_b {x : Int32} {gs : Nat} (hgs : gs < 2 ^ 30) (h1 : nI gs < x) : ¬ ∃ j : Nat, j < gs ∧ x = nI (j + 1) := by
  rintro ⟨j, hj, e⟩
  rw [e] at h1
  have := q_lt (by omega) (by omega) h1
  omega
set_option maxHeartbeats 1000000 in
set_option maxRecDepth 100000 in
theorem r_isElement (l : Launch) (D : va_G) (h0 : Nat) (q : Nat → Nat) (cB cI_ cZ : ClassId) (I : Nat → Int32) (F : Nat → Nat → Int32) (en : Nat) (x1 : Int32) (hI3 : I 3 = nI en) (hen : en ≤ 60) : cI l D yX10_isElement cX10_isElement 2 (some .boolean) 1 22 0 0 [.ref h0, .int x1] zT (mW h0 q cB cI_ cZ I F) (mT cB cI_ cZ) (fun r u => ((∃ j : Nat, j < en ∧ x1 = nI j) ∧ r = 1 ∨ ¬ (∃ j : Nat, j < en ∧ x1 = nI j) ∧ r = 0) ∧ u = (mW h0 q cB cI_ cZ I F, mT cB cI_ cZ)) := by
  refine q_si (by decide) (Nat.le_of_ble_eq_true rfl) ?_
  intro p e s m below meth c A ls hAe hf hr hlocks hin hK hP hD hS hA hZ hl
  obtain ⟨hx, hb, hml, hown, hts⟩ := id hf
  have hl : lv_has ls 2 [(0, .ref h0), (1, .int x1)] := hl
  refine lv_iload_n hx hb dX10_isElement_0 rfl (lv_at hl 1 rfl) ?_
  refine lv_iconst (v := 0) hx hb dX10_isElement_1 (by decide) ?_
  refine lv_aload_n hx hb dX10_isElement_2 rfl (lv_at hl 0 rfl) ?_
  refine va_get (D := D) (ci := 11) (v := .int (I 3)) (C := RX10) (T := TX10) (N := 48) hx hb hts inX10 hown hK hP 0 rfl rfl 3 (by decide) (hts _ k_1147) (fun _ h9 => h9) rfl dX10_isElement_3 ?_
  refine q_seti (y := (nI en)) hI3 ?_
  refine lv_iconst (v := 1) hx hb dX10_isElement_6 (by decide) ?_
  refine lv_isub hx hb dX10_isElement_7 ?_
  refine q_ei (k := 0) (n := 0) hP hS hA (q_rS (wc := []) (tc := []) (As := [.int x1, .int 0, .int ((nI en) - 1)]) (rest := []) hf (m_X10_in_1 _ D x1 0 ((nI en) - 1) _) k_1296 k_1294 k_1295 k_98 (nA := 3) (by decide +kernel) ⟨Nat.le_of_ble_eq_true rfl, Nat.le_of_ble_eq_true rfl⟩ (fun k q h => by simp at h) (hK.sub (tys' := []) [] rfl) (A := A) ⟨fun i j p q h => by simp at h, fun k q h => by simp at h⟩ (fun _ _ _ _ h => h) (fun _ _ _ => trivial) rfl hl.1 rfl (Nat.le_of_ble_eq_true rfl) dX10_isElement_8 ⟨Nat.le_of_ble_eq_true rfl, Nat.le_of_ble_eq_true rfl⟩) (by decide) (by decide) (fun r u H locs hw hP hS => ?_)
  rcases hw with ⟨c_1, rfl, rfl⟩ | ⟨c_2, c_3, rfl, rfl⟩ | ⟨c_4, c_5, rfl, rfl⟩
  · exact q_zi hf hr rfl hlocks hK hP hD hS (Nat.le_of_ble_eq_true rfl) (Nat.le_of_ble_eq_true rfl) ⟨Or.inr ⟨ie_a (by omega) c_1, rfl⟩, rfl⟩ dX10_isElement_11
  · exact q_zi hf hr rfl hlocks hK hP hD hS (Nat.le_of_ble_eq_true rfl) (Nat.le_of_ble_eq_true rfl) ⟨Or.inr ⟨ie_b (by omega) c_3, rfl⟩, rfl⟩ dX10_isElement_11
  · exact q_zi hf hr rfl hlocks hK hP hD hS (Nat.le_of_ble_eq_true rfl) (Nat.le_of_ble_eq_true rfl) ⟨Or.inl ⟨ie_1 (by omega) c_4 c_5, rfl⟩, rfl⟩ dX10_isElement_11
set_option maxHeartbeats 1000000 in
set_option maxRecDepth 100000 in
theorem r_length (l : Launch) (D : va_G) (h0 : Nat) (q : Nat → Nat) (cB cI_ cZ : ClassId) (I : Nat → Int32) (F : Nat → Nat → Int32) (mo lk : Nat) (x1 : Int32) (hI2 : I 2 = nI mo) (hI20 : I 20 = nI lk) (hlk : lk ≤ 1) : cI l D yX10_length cX10_length 3 (some .int) 1 22 0 0 [.ref h0, .int x1] zT (mW h0 q cB cI_ cZ I F) (mT cB cI_ cZ) (fun r u => (x1 < 10 ∧ r = (-2) ∧ u = (mW h0 q cB cI_ cZ I F, mT cB cI_ cZ)) ∨ (¬ x1 < 10 ∧ 40 < x1 ∧ r = (-2) ∧ u = (mW h0 q cB cI_ cZ I F, mT cB cI_ cZ)) ∨ (¬ x1 < 10 ∧ ¬ 40 < x1 ∧ 0 < lk ∧ r = (-3) ∧ u = (mW h0 q cB cI_ cZ I F, mT cB cI_ cZ)) ∨ (¬ x1 < 10 ∧ ¬ 40 < x1 ∧ lk = 0 ∧ r = nI mo ∧ u = (mW h0 q cB cI_ cZ (upd I 2 x1) F, mT cB cI_ cZ))) := by
  refine q_si (by decide) (Nat.le_of_ble_eq_true rfl) ?_
  intro p e s m below meth c A ls hAe hf hr hlocks hin hK hP hD hS hA hZ hl
  obtain ⟨hx, hb, hml, hown, hts⟩ := id hf
  have hl : lv_has ls 3 [(0, .ref h0), (1, .int x1)] := hl
  refine lv_iload_n hx hb dX10_length_0 rfl (lv_at hl 1 rfl) ?_
  refine lv_bipush (v := 10) hx hb dX10_length_1 (by decide) ?_
  refine lv_bipush (v := 40) hx hb dX10_length_3 (by decide) ?_
  refine q_ei (k := 0) (n := 0) hP hS hA (q_rS (wc := []) (tc := []) (As := [.int x1, .int 10, .int 40]) (rest := []) hf (m_X10_in_1 _ D x1 10 40 _) k_1296 k_1294 k_1295 k_98 (nA := 3) (by decide +kernel) ⟨Nat.le_of_ble_eq_true rfl, Nat.le_of_ble_eq_true rfl⟩ (fun k q h => by simp at h) (hK.sub (tys' := []) [] rfl) (A := A) ⟨fun i j p q h => by simp at h, fun k q h => by simp at h⟩ (fun _ _ _ _ h => h) (fun _ _ _ => trivial) rfl hl.1 rfl (Nat.le_of_ble_eq_true rfl) dX10_length_5 ⟨Nat.le_of_ble_eq_true rfl, Nat.le_of_ble_eq_true rfl⟩) (by decide) (by decide) (fun r u H locs hw hP hS => ?_)
  rcases hw with ⟨c_1, rfl, rfl⟩ | ⟨c_2, c_3, rfl, rfl⟩ | ⟨c_4, c_5, rfl, rfl⟩
  · refine lv_if_ne (tgt := 14) hx hb dX10_length_8 (by decide) (fun hno => absurd hno (by decide)) (fun _ => ?_)
    refine lv_bipush (v := (-2)) hx hb dX10_length_11 (by decide) ?_
    exact q_zi hf hr rfl hlocks hK hP hD hS (Nat.le_of_ble_eq_true rfl) (Nat.le_of_ble_eq_true rfl) (Or.inl ⟨c_1, rfl, rfl⟩) dX10_length_13
  · refine lv_if_ne (tgt := 14) hx hb dX10_length_8 (by decide) (fun hno => absurd hno (by decide)) (fun _ => ?_)
    refine lv_bipush (v := (-2)) hx hb dX10_length_11 (by decide) ?_
    exact q_zi hf hr rfl hlocks hK hP hD hS (Nat.le_of_ble_eq_true rfl) (Nat.le_of_ble_eq_true rfl) (Or.inr (Or.inl ⟨c_2, c_3, rfl, rfl⟩)) dX10_length_13
  · refine lv_if_ne (tgt := 14) hx hb dX10_length_8 (by decide) (fun _ => ?_) (fun hno => absurd hno (by decide))
    refine lv_aload_n hx hb dX10_length_14 rfl (lv_at hl 0 rfl) ?_
    refine va_get (D := D) (ci := 11) (v := .int (I 20)) (C := RX10) (T := TX10) (N := 48) hx hb hts inX10 hown hK hP 0 rfl rfl 20 (by decide) (hts _ k_1164) (fun _ h9 => h9) rfl dX10_length_15 ?_
    refine q_seti (y := (nI lk)) hI20 ?_
    refine lv_if_eq (tgt := 24) hx hb dX10_length_18 (by decide) (fun c_6 => ?_) (fun c_6 => ?_)
    · have c_6 := q_eqn (a := lk) (b := 0) (by omega) (by omega) c_6
      refine lv_aload_n hx hb dX10_length_24 rfl (lv_at hl 0 rfl) ?_
      refine va_get (D := D) (ci := 11) (v := .int (I 2)) (C := RX10) (T := TX10) (N := 48) hx hb hts inX10 hown hK hP 0 rfl rfl 2 (by decide) (hts _ k_1146) (fun _ h9 => h9) rfl dX10_length_25 ?_
      refine q_seti (y := (nI mo)) hI2 ?_
      refine lv_istore_n (lv' := [(2, .int (nI mo)), (0, .ref h0), (1, .int x1)]) hx hb dX10_length_28 rfl hl (by decide) rfl (fun ls hl => ?_)
      refine lv_aload_n hx hb dX10_length_29 rfl (lv_at hl 1 rfl) ?_
      refine lv_iload_n hx hb dX10_length_30 rfl (lv_at hl 2 rfl) ?_
      refine va_put (D := D) (ci := 11) (v := .int x1) (ty := .int) (C := RX10) (T := TX10) (N := 48) hx hb hts inX10 tyX10 tyX10_ok nmX10 hown hK hP hD hS 0 rfl rfl 2 (by decide) (hts _ k_1146) (fun _ h9 => h9) rfl (by decide +kernel) rfl rfl (Nat.le_of_ble_eq_true rfl) dX10_length_31 (fun H locs hP hD hS => ?_)
      have hP : va_P D vcl (mW h0 q cB cI_ cZ (upd I 2 x1) F) H := hP
      have hD : va_D A (mW h0 q cB cI_ cZ (upd I 2 x1) F) := hD
      refine lv_iload_n hx hb dX10_length_34 rfl (lv_at hl 0 rfl) ?_
      exact q_zi hf hr rfl hlocks hK hP hD hS (Nat.le_of_ble_eq_true rfl) (Nat.le_of_ble_eq_true rfl) (Or.inr (Or.inr (Or.inr ⟨c_4, c_5, by omega, rfl, rfl⟩))) dX10_length_35
    · have c_6 := q_nen (a := lk) (b := 0) (by omega) (by omega) c_6
      refine lv_bipush (v := (-3)) hx hb dX10_length_21 (by decide) ?_
      exact q_zi hf hr rfl hlocks hK hP hD hS (Nat.le_of_ble_eq_true rfl) (Nat.le_of_ble_eq_true rfl) (Or.inr (Or.inr (Or.inl ⟨c_4, c_5, by omega, rfl, rfl⟩))) dX10_length_23
set_option maxHeartbeats 1000000 in
set_option maxRecDepth 100000 in
theorem r_cut (l : Launch) (D : va_G) (h0 : Nat) (q : Nat → Nat) (cB cI_ cZ : ClassId) (I : Nat → Int32) (F : Nat → Nat → Int32) (n : Nat) (x1 : Int32) (hI1 : I 1 = nI n) (hn : n ≤ 1200) : cI l D yX10_cut cX10_cut 3 (some .int) 1 22 0 0 [.ref h0, .int x1] zT (mW h0 q cB cI_ cZ I F) (mT cB cI_ cZ) (fun r u => (x1 < 0 ∧ r = (-2) ∧ u = (mW h0 q cB cI_ cZ I F, mT cB cI_ cZ)) ∨ (¬ x1 < 0 ∧ nI n < x1 ∧ r = (-2) ∧ u = (mW h0 q cB cI_ cZ I F, mT cB cI_ cZ)) ∨ (¬ x1 < 0 ∧ ¬ nI n < x1 ∧ r = nI n - x1 ∧ u = (mW h0 q cB cI_ cZ (upd I 1 x1) F, mT cB cI_ cZ))) := by
  refine q_si (by decide) (Nat.le_of_ble_eq_true rfl) ?_
  intro p e s m below meth c A ls hAe hf hr hlocks hin hK hP hD hS hA hZ hl
  obtain ⟨hx, hb, hml, hown, hts⟩ := id hf
  have hl : lv_has ls 3 [(0, .ref h0), (1, .int x1)] := hl
  refine lv_iload_n hx hb dX10_cut_0 rfl (lv_at hl 1 rfl) ?_
  refine lv_iconst (v := 0) hx hb dX10_cut_1 (by decide) ?_
  refine lv_aload_n hx hb dX10_cut_2 rfl (lv_at hl 0 rfl) ?_
  refine va_get (D := D) (ci := 11) (v := .int (I 1)) (C := RX10) (T := TX10) (N := 48) hx hb hts inX10 hown hK hP 0 rfl rfl 1 (by decide) (hts _ k_1145) (fun _ h9 => h9) rfl dX10_cut_3 ?_
  refine q_seti (y := (nI n)) hI1 ?_
  refine q_ei (k := 0) (n := 0) hP hS hA (q_rS (wc := []) (tc := []) (As := [.int x1, .int 0, .int (nI n)]) (rest := []) hf (m_X10_in_1 _ D x1 0 (nI n) _) k_1296 k_1294 k_1295 k_98 (nA := 3) (by decide +kernel) ⟨Nat.le_of_ble_eq_true rfl, Nat.le_of_ble_eq_true rfl⟩ (fun k q h => by simp at h) (hK.sub (tys' := []) [] rfl) (A := A) ⟨fun i j p q h => by simp at h, fun k q h => by simp at h⟩ (fun _ _ _ _ h => h) (fun _ _ _ => trivial) rfl hl.1 rfl (Nat.le_of_ble_eq_true rfl) dX10_cut_6 ⟨Nat.le_of_ble_eq_true rfl, Nat.le_of_ble_eq_true rfl⟩) (by decide) (by decide) (fun r u H locs hw hP hS => ?_)
  rcases hw with ⟨c_1, rfl, rfl⟩ | ⟨c_2, c_3, rfl, rfl⟩ | ⟨c_4, c_5, rfl, rfl⟩
  · refine lv_if_ne (tgt := 15) hx hb dX10_cut_9 (by decide) (fun hno => absurd hno (by decide)) (fun _ => ?_)
    refine lv_bipush (v := (-2)) hx hb dX10_cut_12 (by decide) ?_
    exact q_zi hf hr rfl hlocks hK hP hD hS (Nat.le_of_ble_eq_true rfl) (Nat.le_of_ble_eq_true rfl) (Or.inl ⟨c_1, rfl, rfl⟩) dX10_cut_14
  · refine lv_if_ne (tgt := 15) hx hb dX10_cut_9 (by decide) (fun hno => absurd hno (by decide)) (fun _ => ?_)
    refine lv_bipush (v := (-2)) hx hb dX10_cut_12 (by decide) ?_
    exact q_zi hf hr rfl hlocks hK hP hD hS (Nat.le_of_ble_eq_true rfl) (Nat.le_of_ble_eq_true rfl) (Or.inr (Or.inl ⟨c_2, c_3, rfl, rfl⟩)) dX10_cut_14
  · refine lv_if_ne (tgt := 15) hx hb dX10_cut_9 (by decide) (fun _ => ?_) (fun hno => absurd hno (by decide))
    refine lv_aload_n hx hb dX10_cut_15 rfl (lv_at hl 0 rfl) ?_
    refine va_get (D := D) (ci := 11) (v := .int (I 1)) (C := RX10) (T := TX10) (N := 48) hx hb hts inX10 hown hK hP 0 rfl rfl 1 (by decide) (hts _ k_1145) (fun _ h9 => h9) rfl dX10_cut_16 ?_
    refine q_seti (y := (nI n)) hI1 ?_
    refine lv_iload_n hx hb dX10_cut_19 rfl (lv_at hl 1 rfl) ?_
    refine lv_isub hx hb dX10_cut_20 ?_
    refine lv_istore_n (lv' := [(2, .int ((nI n) - x1)), (0, .ref h0), (1, .int x1)]) hx hb dX10_cut_21 rfl hl (by decide) rfl (fun ls hl => ?_)
    refine lv_aload_n hx hb dX10_cut_22 rfl (lv_at hl 1 rfl) ?_
    refine lv_iload_n hx hb dX10_cut_23 rfl (lv_at hl 2 rfl) ?_
    refine va_put (D := D) (ci := 11) (v := .int x1) (ty := .int) (C := RX10) (T := TX10) (N := 48) hx hb hts inX10 tyX10 tyX10_ok nmX10 hown hK hP hD hS 0 rfl rfl 1 (by decide) (hts _ k_1145) (fun _ h9 => h9) rfl (by decide +kernel) rfl rfl (Nat.le_of_ble_eq_true rfl) dX10_cut_24 (fun H locs hP hD hS => ?_)
    have hP : va_P D vcl (mW h0 q cB cI_ cZ (upd I 1 x1) F) H := hP
    have hD : va_D A (mW h0 q cB cI_ cZ (upd I 1 x1) F) := hD
    refine lv_iload_n hx hb dX10_cut_27 rfl (lv_at hl 0 rfl) ?_
    exact q_zi hf hr rfl hlocks hK hP hD hS (Nat.le_of_ble_eq_true rfl) (Nat.le_of_ble_eq_true rfl) (Or.inr (Or.inr ⟨c_4, c_5, rfl, rfl⟩)) dX10_cut_28
set_option maxHeartbeats 1000000 in
set_option maxRecDepth 100000 in
theorem r_isGroup (l : Launch) (D : va_G) (h0 : Nat) (q : Nat → Nat) (cB cI_ cZ : ClassId) (I : Nat → Int32) (F : Nat → Nat → Int32) (gs : Nat) (x1 : Int32) (hI19 : I 19 = nI gs) (hgs : gs ≤ 8000) : cI l D yX10_isGroup cX10_isGroup 2 (some .boolean) 1 22 0 0 [.ref h0, .int x1] zT (mW h0 q cB cI_ cZ I F) (mT cB cI_ cZ) (fun r u => ((∃ j : Nat, j < gs ∧ x1 = nI (j + 1)) ∧ r = 1 ∨ ¬ (∃ j : Nat, j < gs ∧ x1 = nI (j + 1)) ∧ r = 0) ∧ u = (mW h0 q cB cI_ cZ I F, mT cB cI_ cZ)) := by
  refine q_si (by decide) (Nat.le_of_ble_eq_true rfl) ?_
  intro p e s m below meth c A ls hAe hf hr hlocks hin hK hP hD hS hA hZ hl
  obtain ⟨hx, hb, hml, hown, hts⟩ := id hf
  have hl : lv_has ls 2 [(0, .ref h0), (1, .int x1)] := hl
  refine lv_iload_n hx hb dX10_isGroup_0 rfl (lv_at hl 1 rfl) ?_
  refine lv_iconst (v := 1) hx hb dX10_isGroup_1 (by decide) ?_
  refine lv_aload_n hx hb dX10_isGroup_2 rfl (lv_at hl 0 rfl) ?_
  refine va_get (D := D) (ci := 11) (v := .int (I 19)) (C := RX10) (T := TX10) (N := 48) hx hb hts inX10 hown hK hP 0 rfl rfl 19 (by decide) (hts _ k_1163) (fun _ h9 => h9) rfl dX10_isGroup_3 ?_
  refine q_seti (y := (nI gs)) hI19 ?_
  refine q_ei (k := 0) (n := 0) hP hS hA (q_rS (wc := []) (tc := []) (As := [.int x1, .int 1, .int (nI gs)]) (rest := []) hf (m_X10_in_1 _ D x1 1 (nI gs) _) k_1296 k_1294 k_1295 k_98 (nA := 3) (by decide +kernel) ⟨Nat.le_of_ble_eq_true rfl, Nat.le_of_ble_eq_true rfl⟩ (fun k q h => by simp at h) (hK.sub (tys' := []) [] rfl) (A := A) ⟨fun i j p q h => by simp at h, fun k q h => by simp at h⟩ (fun _ _ _ _ h => h) (fun _ _ _ => trivial) rfl hl.1 rfl (Nat.le_of_ble_eq_true rfl) dX10_isGroup_6 ⟨Nat.le_of_ble_eq_true rfl, Nat.le_of_ble_eq_true rfl⟩) (by decide) (by decide) (fun r u H locs hw hP hS => ?_)
  rcases hw with ⟨c_1, rfl, rfl⟩ | ⟨c_2, c_3, rfl, rfl⟩ | ⟨c_4, c_5, rfl, rfl⟩
  · exact q_zi hf hr rfl hlocks hK hP hD hS (Nat.le_of_ble_eq_true rfl) (Nat.le_of_ble_eq_true rfl) ⟨Or.inr ⟨ig_a (by omega) c_1, rfl⟩, rfl⟩ dX10_isGroup_9
  · exact q_zi hf hr rfl hlocks hK hP hD hS (Nat.le_of_ble_eq_true rfl) (Nat.le_of_ble_eq_true rfl) ⟨Or.inr ⟨ig_b (by omega) c_3, rfl⟩, rfl⟩ dX10_isGroup_9
  · exact q_zi hf hr rfl hlocks hK hP hD hS (Nat.le_of_ble_eq_true rfl) (Nat.le_of_ble_eq_true rfl) ⟨Or.inl ⟨ig_1 (by omega) c_4 c_5, rfl⟩, rfl⟩ dX10_isGroup_9
