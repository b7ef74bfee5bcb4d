/-- the kinds of the lines, one by one; a free line has none -/
noncomputable def tx_k (T : Nat → Int32) (L : List (Nat × Nat)) : Nat → Int32
  | 0 => pif (tx_free L 0) (-1) (tx_kd T (L.getD 0 (0, 0)).1 (L.getD 0 (0, 0)).2 True (tx_free L 1) (-1))
  | l + 1 => pif (tx_free L (l + 1)) (-1) (tx_kd T (L.getD (l + 1) (0, 0)).1 (L.getD (l + 1) (0, 0)).2 (tx_free L l) (tx_free L (l + 2)) (tx_k T L l))
def tx_more (T : Nat → Int32) (L : List (Nat × Nat)) (l : Nat) : Prop := 1 ≤ l ∧ ¬ tx_free L (l - 1) ∧ tx_k T L l = tx_k T L (l - 1) ∧ ¬ tx_k T L l < 4 ∧ ¬ 5 < tx_k T L l
theorem tx_kd_fa {T : Nat → Int32} {a b : Nat} {fa fb : Prop} {pk pk2 : Int32} (h : fa ∨ pk = pk2) : tx_kd T a b fa fb pk = tx_kd T a b fa fb pk2 := by
  rcases h with h | h
  · unfold tx_kd
    rw [pif_n (P := ¬ fa ∧ ¬ pk < 2 ∧ ¬ 4 < pk) (fun z => z.1 h), pif_n (P := ¬ fa ∧ ¬ pk2 < 2 ∧ ¬ 4 < pk2) (fun z => z.1 h)]
  · rw [h]
abbrev cX10_isMore : ByteArray := prog_12_method_11_code
def yX10_isMore : MethodName := ⟨RX10, "isMore", "(I)Z"⟩
theorem dX10_isMore_0 : decode cX10_isMore 0 = .ok (.aload_n 0, 1) := by decide +kernel
theorem dX10_isMore_1 : decode cX10_isMore 1 = .ok (.iload_n 1, 1) := by decide +kernel
theorem dX10_isMore_2 : decode cX10_isMore 2 = .ok (.iconst 1, 1) := by decide +kernel
theorem dX10_isMore_3 : decode cX10_isMore 3 = .ok (.isub, 1) := by decide +kernel
theorem dX10_isMore_4 : decode cX10_isMore 4 = .ok (.invokevirtual 133, 3) := by decide +kernel
theorem dX10_isMore_7 : decode cX10_isMore 7 = .ok (.ifCond .ne 38, 3) := by decide +kernel
theorem dX10_isMore_45 : decode cX10_isMore 45 = .ok (.iconst 0, 1) := by decide +kernel
theorem dX10_isMore_46 : decode cX10_isMore 46 = .ok (.ireturn, 1) := by decide +kernel
theorem dX10_isMore_10 : decode cX10_isMore 10 = .ok (.aload_n 0, 1) := by decide +kernel
theorem dX10_isMore_11 : decode cX10_isMore 11 = .ok (.getfield 68, 3) := by decide +kernel
theorem dX10_isMore_14 : decode cX10_isMore 14 = .ok (.iload_n 1, 1) := by decide +kernel
theorem dX10_isMore_15 : decode cX10_isMore 15 = .ok (.iaload, 1) := by decide +kernel
theorem dX10_isMore_16 : decode cX10_isMore 16 = .ok (.aload_n 0, 1) := by decide +kernel
theorem dX10_isMore_17 : decode cX10_isMore 17 = .ok (.getfield 68, 3) := by decide +kernel
theorem dX10_isMore_20 : decode cX10_isMore 20 = .ok (.iload_n 1, 1) := by decide +kernel
theorem dX10_isMore_21 : decode cX10_isMore 21 = .ok (.iconst 1, 1) := by decide +kernel
theorem dX10_isMore_22 : decode cX10_isMore 22 = .ok (.isub, 1) := by decide +kernel
theorem dX10_isMore_23 : decode cX10_isMore 23 = .ok (.iaload, 1) := by decide +kernel
theorem dX10_isMore_24 : decode cX10_isMore 24 = .ok (.if_icmp .ne 21, 3) := by decide +kernel
theorem dX10_isMore_27 : decode cX10_isMore 27 = .ok (.aload_n 0, 1) := by decide +kernel
theorem dX10_isMore_28 : decode cX10_isMore 28 = .ok (.getfield 68, 3) := by decide +kernel
theorem dX10_isMore_31 : decode cX10_isMore 31 = .ok (.iload_n 1, 1) := by decide +kernel
theorem dX10_isMore_32 : decode cX10_isMore 32 = .ok (.iaload, 1) := by decide +kernel
theorem dX10_isMore_33 : decode cX10_isMore 33 = .ok (.iconst 4, 1) := by decide +kernel
theorem dX10_isMore_34 : decode cX10_isMore 34 = .ok (.iconst 5, 1) := by decide +kernel
theorem dX10_isMore_35 : decode cX10_isMore 35 = .ok (.invokestatic 119, 3) := by decide +kernel
theorem dX10_isMore_38 : decode cX10_isMore 38 = .ok (.ifCond .eq 7, 3) := by decide +kernel
theorem dX10_isMore_41 : decode cX10_isMore 41 = .ok (.iconst 1, 1) := by decide +kernel
theorem dX10_isMore_42 : decode cX10_isMore 42 = .ok (.goto 4, 3) := by decide +kernel
set_option maxHeartbeats 1000000 in
set_option maxRecDepth 100000 in
theorem r_isMore_s (l : Launch) (D : va_G) (h0 : Nat) (q : Nat → Nat) (cB cI_ cZ : ClassId) (I : Nat → Int32) (F : Nat → Nat → Int32) (L : List (Nat × Nat)) (j : Nat) (k0 k1 : Int32) (hI21 : I 21 = nI L.length) (hL : ∀ j, j < L.length → F 22 j = nI (L.getD j (0, 0)).1 ∧ F 23 j = nI (L.getD j (0, 0)).2) (hok : tx_ok L) (hj : j + 1 < L.length) (hk0 : F 24 j = k0) (hk1 : F 24 (j + 1) = k1) : cI l D yX10_isMore cX10_isMore 2 (some .boolean) 2 43 0 0 [.ref h0, .int (nI (j + 1))] zT (mW h0 q cB cI_ cZ I F) (mT cB cI_ cZ) (fun r u => ((¬ tx_free L j ∧ k1 = k0 ∧ ¬ k1 < 4 ∧ ¬ 5 < k1) ∧ r = 1 ∨ ¬ (¬ tx_free L j ∧ k1 = k0 ∧ ¬ k1 < 4 ∧ ¬ 5 < k1) ∧ r = 0) ∧ u = (mW h0 q cB cI_ cZ I F, mT cB cI_ cZ)) := by
  refine q_si (by decide) (Nat.le_of_ble_eq_true rfl) ?_
  intro p e s m below meth c A ls hAe hf hr hlocks hin hK hP hD hS hA hZ hl
  obtain ⟨hx, hb, hml, hown, hts⟩ := id hf
  have hl : lv_has ls 2 [(0, .ref h0), (1, .int (nI (j + 1)))] := hl
  have hok1 := hok.1
  refine lv_aload_n hx hb dX10_isMore_0 rfl (lv_at hl 0 rfl) ?_
  refine lv_iload_n hx hb dX10_isMore_1 rfl (lv_at hl 1 rfl) ?_
  refine lv_iconst (v := 1) hx hb dX10_isMore_2 (by decide) ?_
  refine lv_isub hx hb dX10_isMore_3 ?_
  refine q_seti (y := nI ((j + 1) - 1)) (pk_sub (a := j + 1) (b := 1) (by omega)) ?_
  refine q_ci (k := 0) (n := 0) hK hP hD hS hA (fun hPc hKc hDc => q_rV (As := [.int (nI ((j + 1) - 1))]) (rest := []) hf (r_isFree _ D h0 q cB cI_ cZ I F L ((j + 1) - 1) hI21 hL hok (by omega) _) k_1312 k_1309 k_1311 k_47 k_98 (nA := 1) (by decide +kernel) ⟨Nat.le_of_ble_eq_true rfl, Nat.le_of_ble_eq_true rfl⟩ hK hP (ci := 11) (q0 := 0) rfl rfl rfl hPc hKc hDc (fun _ _ _ _ h => h) (fun _ _ _ => trivial) rfl hl.1 rfl (Nat.le_of_ble_eq_true rfl) dX10_isMore_4 ⟨Nat.le_of_ble_eq_true rfl, Nat.le_of_ble_eq_true rfl⟩) (by decide) (by decide) (fun r u H locs hw hK hP hD hS => ?_)
  rcases hw with ⟨⟨c_1, rfl⟩ | ⟨c_1, rfl⟩, rfl⟩
  · have hP : va_P D vcl (mW h0 q cB cI_ cZ I F) H := hP
    have hD : va_D A (mW h0 q cB cI_ cZ I F) := hD
    refine lv_if_ne (tgt := 45) hx hb dX10_isMore_7 (by decide) (fun _ => ?_) (fun hno => absurd hno (by decide))
    refine lv_iconst (v := 0) hx hb dX10_isMore_45 (by decide) ?_
    exact q_zi hf hr rfl hlocks hK hP hD hS (Nat.le_of_ble_eq_true rfl) (Nat.le_of_ble_eq_true rfl) ⟨Or.inr ⟨fun h => h.1 c_1, rfl⟩, rfl⟩ dX10_isMore_46
  · have hP : va_P D vcl (mW h0 q cB cI_ cZ I F) H := hP
    have hD : va_D A (mW h0 q cB cI_ cZ I F) := hD
    refine lv_if_ne (tgt := 45) hx hb dX10_isMore_7 (by decide) (fun hno => absurd hno (by decide)) (fun _ => ?_)
    refine lv_aload_n hx hb dX10_isMore_10 rfl (lv_at hl 0 rfl) ?_
    refine va_get (D := D) (ci := 11) (v := .ref (q 24)) (C := RX10) (T := TX10) (N := 48) hx hb hts inX10 hown hK hP 0 rfl rfl 24 (by decide) (hts _ k_1168) (fun _ h9 => h9) rfl dX10_isMore_11 ?_
    refine lv_iload_n hx hb dX10_isMore_14 rfl (lv_at hl 1 rfl) ?_
    refine q_ild (X := j + 1) (f := (F 24)) hx hb hK hP 18 1 rfl rfl (by omega) (by decide) dX10_isMore_15 ?_
    refine q_seti (y := k1) hk1 ?_
    refine lv_aload_n hx hb dX10_isMore_16 rfl (lv_at hl 0 rfl) ?_
    refine va_get (D := D) (ci := 11) (v := .ref (q 24)) (C := RX10) (T := TX10) (N := 48) hx hb hts inX10 hown hK hP 0 rfl rfl 24 (by decide) (hts _ k_1168) (fun _ h9 => h9) rfl dX10_isMore_17 ?_
    refine lv_iload_n hx hb dX10_isMore_20 rfl (lv_at hl 1 rfl) ?_
    refine lv_iconst (v := 1) hx hb dX10_isMore_21 (by decide) ?_
    refine lv_isub hx hb dX10_isMore_22 ?_
    refine q_seti (y := nI ((j + 1) - 1)) (pk_sub (a := j + 1) (b := 1) (by omega)) ?_
    refine q_ild (X := (j + 1) - 1) (f := (F 24)) hx hb hK hP 18 1 rfl rfl (by omega) (by decide) dX10_isMore_23 ?_
    refine q_seti (y := k0) hk0 ?_
    refine lv_icmp_ne (tgt := 45) hx hb dX10_isMore_24 (by decide) (fun c_2 => ?_) (fun c_2 => ?_)
    · refine lv_iconst (v := 0) hx hb dX10_isMore_45 (by decide) ?_
      exact q_zi hf hr rfl hlocks hK hP hD hS (Nat.le_of_ble_eq_true rfl) (Nat.le_of_ble_eq_true rfl) ⟨Or.inr ⟨fun h => c_2 h.2.1, rfl⟩, rfl⟩ dX10_isMore_46
    · refine lv_aload_n hx hb dX10_isMore_27 rfl (lv_at hl 0 rfl) ?_
      refine va_get (D := D) (ci := 11) (v := .ref (q 24)) (C := RX10) (T := TX10) (N := 48) hx hb hts inX10 hown hK hP 0 rfl rfl 24 (by decide) (hts _ k_1168) (fun _ h9 => h9) rfl dX10_isMore_28 ?_
      refine lv_iload_n hx hb dX10_isMore_31 rfl (lv_at hl 1 rfl) ?_
      refine q_ild (X := j + 1) (f := (F 24)) hx hb hK hP 18 1 rfl rfl (by omega) (by decide) dX10_isMore_32 ?_
      refine q_seti (y := k1) hk1 ?_
      refine lv_iconst (v := 4) hx hb dX10_isMore_33 (by decide) ?_
      refine lv_iconst (v := 5) hx hb dX10_isMore_34 (by decide) ?_
      refine q_ei (k := 0) (n := 0) hP hS hA (q_rS (wc := []) (tc := []) (As := [.int k1, .int 4, .int 5]) (rest := []) hf (m_X10_in_1 _ D k1 4 5 _) k_1296 k_1294 k_1295 k_98 (nA := 3) (by decide +kernel) ⟨Nat.le_of_ble_eq_true rfl, Nat.le_of_ble_eq_true rfl⟩ (fun k q h => by simp at h) (hK.sub (tys' := []) [] rfl) (A := A) ⟨fun i j p q h => by simp at h, fun k q h => by simp at h⟩ (fun _ _ _ _ h => h) (fun _ _ _ => trivial) rfl hl.1 rfl (Nat.le_of_ble_eq_true rfl) dX10_isMore_35 ⟨Nat.le_of_ble_eq_true rfl, Nat.le_of_ble_eq_true rfl⟩) (by decide) (by decide) (fun r u H locs hw hP hS => ?_)
      rcases hw with ⟨c_3, rfl, rfl⟩ | ⟨c_4, c_5, rfl, rfl⟩ | ⟨c_6, c_7, rfl, rfl⟩
      · refine lv_if_eq (tgt := 45) hx hb dX10_isMore_38 (by decide) (fun _ => ?_) (fun hno => absurd hno (by decide))
        refine lv_iconst (v := 0) hx hb dX10_isMore_45 (by decide) ?_
        exact q_zi hf hr rfl hlocks hK hP hD hS (Nat.le_of_ble_eq_true rfl) (Nat.le_of_ble_eq_true rfl) ⟨Or.inr ⟨fun h => h.2.2.1 c_3, rfl⟩, rfl⟩ dX10_isMore_46
      · refine lv_if_eq (tgt := 45) hx hb dX10_isMore_38 (by decide) (fun _ => ?_) (fun hno => absurd hno (by decide))
        refine lv_iconst (v := 0) hx hb dX10_isMore_45 (by decide) ?_
        exact q_zi hf hr rfl hlocks hK hP hD hS (Nat.le_of_ble_eq_true rfl) (Nat.le_of_ble_eq_true rfl) ⟨Or.inr ⟨fun h => h.2.2.2 c_5, rfl⟩, rfl⟩ dX10_isMore_46
      · refine lv_if_eq (tgt := 45) hx hb dX10_isMore_38 (by decide) (fun hno => absurd hno (by decide)) (fun _ => ?_)
        refine lv_iconst (v := 1) hx hb dX10_isMore_41 (by decide) ?_
        refine lv_goto (tgt := 46) hx hb dX10_isMore_42 (by decide) ?_
        exact q_zi hf hr rfl hlocks hK hP hD hS (Nat.le_of_ble_eq_true rfl) (Nat.le_of_ble_eq_true rfl) ⟨Or.inl ⟨⟨c_1, c_2, c_6, c_7⟩, rfl⟩, rfl⟩ dX10_isMore_46
set_option maxHeartbeats 1000000 in
set_option maxRecDepth 100000 in
theorem r_isMore_0 (l : Launch) (D : va_G) (h0 : Nat) (q : Nat → Nat) (cB cI_ cZ : ClassId) (I : Nat → Int32) (F : Nat → Nat → Int32) (L : List (Nat × Nat)) (hI21 : I 21 = nI L.length) (hL : ∀ j, j < L.length → F 22 j = nI (L.getD j (0, 0)).1 ∧ F 23 j = nI (L.getD j (0, 0)).2) (hok : tx_ok L) : cI l D yX10_isMore cX10_isMore 2 (some .boolean) 2 43 0 0 [.ref h0, .int 0] zT (mW h0 q cB cI_ cZ I F) (mT cB cI_ cZ) (fun r u => r = 0 ∧ u = (mW h0 q cB cI_ cZ I F, mT cB cI_ cZ)) := by
  refine q_si (by decide) (Nat.le_of_ble_eq_true rfl) ?_
  intro p e s m below meth c A ls hAe hf hr hlocks hin hK hP hD hS hA hZ hl
  obtain ⟨hx, hb, hml, hown, hts⟩ := id hf
  have hl : lv_has ls 2 [(0, .ref h0), (1, .int 0)] := hl
  have hok1 := hok.1
  refine lv_aload_n hx hb dX10_isMore_0 rfl (lv_at hl 0 rfl) ?_
  refine lv_iload_n hx hb dX10_isMore_1 rfl (lv_at hl 1 rfl) ?_
  refine lv_iconst (v := 1) hx hb dX10_isMore_2 (by decide) ?_
  refine lv_isub hx hb dX10_isMore_3 ?_
  refine q_seti (y := (-1)) (by decide) ?_
  refine q_ci (k := 0) (n := 0) hK hP hD hS hA (fun hPc hKc hDc => q_rV (As := [.int (-1)]) (rest := []) hf (r_isFree_m _ D h0 q cB cI_ cZ I F L hI21 hL hok _) k_1312 k_1309 k_1311 k_47 k_98 (nA := 1) (by decide +kernel) ⟨Nat.le_of_ble_eq_true rfl, Nat.le_of_ble_eq_true rfl⟩ hK hP (ci := 11) (q0 := 0) rfl rfl rfl hPc hKc hDc (fun _ _ _ _ h => h) (fun _ _ _ => trivial) rfl hl.1 rfl (Nat.le_of_ble_eq_true rfl) dX10_isMore_4 ⟨Nat.le_of_ble_eq_true rfl, Nat.le_of_ble_eq_true rfl⟩) (by decide) (by decide) (fun r u H locs hw hK hP hD hS => ?_)
  obtain ⟨rfl, rfl⟩ := hw
  have hP : va_P D vcl (mW h0 q cB cI_ cZ I F) H := hP
  have hD : va_D A (mW h0 q cB cI_ cZ I F) := hD
  refine lv_if_ne (tgt := 45) hx hb dX10_isMore_7 (by decide) (fun _ => ?_) (fun hno => absurd hno (by decide))
  refine lv_iconst (v := 0) hx hb dX10_isMore_45 (by decide) ?_
  exact q_zi hf hr rfl hlocks hK hP hD hS (Nat.le_of_ble_eq_true rfl) (Nat.le_of_ble_eq_true rfl) ⟨rfl, rfl⟩ dX10_isMore_46
