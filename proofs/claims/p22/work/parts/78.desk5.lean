theorem ix_ge {x : Int32} {n : Nat} (hn : n < 2 ^ 29) (h2 : ¬ x < nI n) : ¬ ∃ j : Nat, j < n ∧ x = nI j := fun h => by
  obtain ⟨j, h3, rfl⟩ := h
  exact h2 ((nI_ltI (by omega) (by omega)).mpr h3)
abbrev cX9_elementAt : ByteArray := prog_1_method_25_code
def yX9_elementAt : MethodName := ⟨RX9, "elementAt", "(I)LScriptDesk$Element;"⟩
abbrev cX9_isElement : ByteArray := prog_1_method_24_code
def yX9_isElement : MethodName := ⟨RX9, "isElement", "(I)Z"⟩
theorem k_22 : (Cond.selects RX9 yX9_isElement yX9_isElement) ∈ gT := gT_i 22 (by decide +kernel) rfl
theorem k_733 : (Cond.methodLink RX9 123 yX9_isElement) ∈ gT := gT_i 733 (by decide +kernel) rfl
theorem k_735 : (Cond.instanceMethod yX9_isElement) ∈ gT := gT_i 735 (by decide +kernel) rfl
theorem k_736 : (Cond.code yX9_isElement cX9_isElement 2 (some .boolean)) ∈ gT := gT_i 736 (by decide +kernel) rfl
theorem dX9_isElement_0 : decode cX9_isElement 0 = .ok (.iload_n 1, 1) := by decide +kernel
theorem dX9_isElement_1 : decode cX9_isElement 1 = .ok (.ifCond .lt 18, 3) := by decide +kernel
theorem dX9_isElement_19 : decode cX9_isElement 19 = .ok (.iconst 0, 1) := by decide +kernel
theorem dX9_isElement_20 : decode cX9_isElement 20 = .ok (.ireturn, 1) := by decide +kernel
theorem dX9_isElement_4 : decode cX9_isElement 4 = .ok (.iload_n 1, 1) := by decide +kernel
theorem dX9_isElement_5 : decode cX9_isElement 5 = .ok (.aload_n 0, 1) := by decide +kernel
theorem dX9_isElement_6 : decode cX9_isElement 6 = .ok (.getfield 28, 3) := by decide +kernel
theorem dX9_isElement_9 : decode cX9_isElement 9 = .ok (.invokevirtual 113, 3) := by decide +kernel
theorem dX9_isElement_12 : decode cX9_isElement 12 = .ok (.if_icmp .ge 7, 3) := by decide +kernel
theorem dX9_isElement_15 : decode cX9_isElement 15 = .ok (.iconst 1, 1) := by decide +kernel
theorem dX9_isElement_16 : decode cX9_isElement 16 = .ok (.goto 4, 3) := by decide +kernel
theorem dX9_elementAt_0 : decode cX9_elementAt 0 = .ok (.aload_n 0, 1) := by decide +kernel
theorem dX9_elementAt_1 : decode cX9_elementAt 1 = .ok (.iload_n 1, 1) := by decide +kernel
theorem dX9_elementAt_2 : decode cX9_elementAt 2 = .ok (.invokevirtual 123, 3) := by decide +kernel
theorem dX9_elementAt_5 : decode cX9_elementAt 5 = .ok (.ifCond .eq 17, 3) := by decide +kernel
theorem dX9_elementAt_8 : decode cX9_elementAt 8 = .ok (.aload_n 0, 1) := by decide +kernel
theorem dX9_elementAt_9 : decode cX9_elementAt 9 = .ok (.getfield 28, 3) := by decide +kernel
theorem dX9_elementAt_12 : decode cX9_elementAt 12 = .ok (.iload_n 1, 1) := by decide +kernel
theorem dX9_elementAt_13 : decode cX9_elementAt 13 = .ok (.invokevirtual 252, 3) := by decide +kernel
theorem dX9_elementAt_16 : decode cX9_elementAt 16 = .ok (.checkcast 35, 3) := by decide +kernel
theorem dX9_elementAt_19 : decode cX9_elementAt 19 = .ok (.goto 7, 3) := by decide +kernel
theorem dX9_elementAt_26 : decode cX9_elementAt 26 = .ok (.areturn, 1) := by decide +kernel
set_option maxHeartbeats 1000000 in
set_option maxRecDepth 100000 in
theorem d_isE (l : Launch) (D : va_G) (z : Nat → Nat) (cB cI_ cO : ClassId) (L0 : List Nat) (g0 : hG) (dk tp rd els reo nob pr bk gl sl mo : Nat) (v10 v11 : Int32) (cap : Nat) (xs : List Nat) (Es : List E5) (x1 : Int32) (h_dk : ho L0 g0 dk 1 (.inr (10, [.ref tp, .ref rd, .ref els, .ref reo, .ref nob, .ref pr, .ref bk, .ref gl, .ref sl, .int (nI mo), .int v10, .int v11]))) (h_els : alR cO (z 0) 5 6 L0 g0 els cap xs) (h_es : elsR cB cI_ L0 g0 xs Es) (hxl : xs.length ≤ 60) : eIs l D yX9_isElement cX9_isElement 2 (some .boolean) 1 20 0 0 [.ref dk, .int x1] z cB cI_ cO L0 g0 (fun r => ((∃ j : Nat, j < xs.length ∧ x1 = nI j) ∧ r = 1 ∨ ¬ (∃ j : Nat, j < xs.length ∧ x1 = nI j) ∧ r = 0)) := by
  refine o_si (by decide) (Nat.le_of_ble_eq_true rfl) ?_
  intro p e s m below meth c A ls hf hr hlocks hin hK hP hD hS hA hZ hN hl
  obtain ⟨hx, hb, hml, hown, hts⟩ := id hf
  have hl : lv_has ls 2 [(0, .ref dk), (1, .int x1)] := hl
  refine lv_iload_n hx hb dX9_isElement_0 rfl (lv_at hl 1 rfl) ?_
  refine lv_if_lt (tgt := 19) hx hb dX9_isElement_1 (by decide) (fun c_1 => ?_) (fun c_1 => ?_)
  · refine lv_iconst (v := 0) hx hb dX9_isElement_19 (by decide) ?_
    exact o_ri hf hr rfl hlocks hK hP hD hS (show 0 ≤ 0 by omega) (show 0 ≤ 0 by omega) ⟨Or.inr ⟨ie_a (by omega) c_1, rfl⟩, rfl, rfl⟩ dX9_isElement_20
  · refine lv_iload_n hx hb dX9_isElement_4 rfl (lv_at hl 1 rfl) ?_
    refine lv_aload_n hx hb dX9_isElement_5 rfl (lv_at hl 0 rfl) ?_
    refine o_get (D := D) (ci := 10) (v := .ref els) (C := RX9) (T := TX9) (N := 12) hx hb hts inX9 hown hK hP h_dk rfl 2 (by decide) (hts _ k_431) (fun _ h9 => h9) rfl dX9_isElement_6 ?_
    obtain ⟨mc9, d9, h_al9⟩ := h_els.al
    refine o_cis (k := 0) (n := 0) hK hP hD hS hA (o_rV (As := []) (rest := [.int x1]) hf (li_size _ _ _ _ _ _ _ _ els 5 6 cap xs h_els _) k_606 k_686 k_604 k_605 k_89 (nA := 0) (by decide +kernel) ⟨Nat.le_of_ble_eq_true rfl, Nat.le_of_ble_eq_true rfl⟩ hK hP hD hS hA hZ hN h_al9 rfl rfl rfl hl.1 rfl (Nat.le_of_ble_eq_true rfl) dX9_isElement_9 ⟨(show 0 + 0 ≤ 0 by omega), (show 0 + 0 ≤ 0 by omega)⟩) (Nat.le_refl _) (Nat.le_refl _) (fun r H locs hw hP hD hS => ?_)
    obtain rfl := hw
    refine lv_icmp_ge (tgt := 19) hx hb dX9_isElement_12 (by decide) (fun c_2 => ?_) (fun c_2 => ?_)
    · refine lv_iconst (v := 0) hx hb dX9_isElement_19 (by decide) ?_
      exact o_ri hf hr rfl hlocks hK hP hD hS (show 0 ≤ 0 by omega) (show 0 ≤ 0 by omega) ⟨Or.inr ⟨ix_ge (by omega) (q_nlt_le c_2), rfl⟩, rfl, rfl⟩ dX9_isElement_20
    · refine lv_iconst (v := 1) hx hb dX9_isElement_15 (by decide) ?_
      refine lv_goto (tgt := 20) hx hb dX9_isElement_16 (by decide) ?_
      exact o_ri hf hr rfl hlocks hK hP hD hS (show 0 ≤ 0 by omega) (show 0 ≤ 0 by omega) ⟨Or.inl ⟨ix_lt (by omega) c_1 (q_lt_nle c_2), rfl⟩, rfl, rfl⟩ dX9_isElement_20
set_option maxHeartbeats 1000000 in
set_option maxRecDepth 100000 in
theorem d_isE1 (l : Launch) (D : va_G) (z : Nat → Nat) (cB cI_ cO : ClassId) (L0 : List Nat) (g0 : hG) (dk tp rd els reo nob pr bk gl sl mo : Nat) (v10 v11 : Int32) (cap : Nat) (xs : List Nat) (Es : List E5) (j : Nat) (h_dk : ho L0 g0 dk 1 (.inr (10, [.ref tp, .ref rd, .ref els, .ref reo, .ref nob, .ref pr, .ref bk, .ref gl, .ref sl, .int (nI mo), .int v10, .int v11]))) (h_els : alR cO (z 0) 5 6 L0 g0 els cap xs) (h_es : elsR cB cI_ L0 g0 xs Es) (hxl : xs.length ≤ 60) (hj : j < xs.length) : eIs l D yX9_isElement cX9_isElement 2 (some .boolean) 1 20 0 0 [.ref dk, .int (nI j)] z cB cI_ cO L0 g0 (fun r => r = 1) := by
  refine o_si (by decide) (Nat.le_of_ble_eq_true rfl) ?_
  intro p e s m below meth c A ls hf hr hlocks hin hK hP hD hS hA hZ hN hl
  obtain ⟨hx, hb, hml, hown, hts⟩ := id hf
  have hl : lv_has ls 2 [(0, .ref dk), (1, .int (nI j))] := hl
  refine lv_iload_n hx hb dX9_isElement_0 rfl (lv_at hl 1 rfl) ?_
  refine lv_if_lt (tgt := 19) hx hb dX9_isElement_1 (by decide) (fun c_1 => ?_) (fun c_1 => ?_)
  · have c_1 := q_lt (a := j) (b := 0) (by omega) (by omega) c_1
    exact False.elim (by omega)
  · have c_1 := q_nlt (a := j) (b := 0) (by omega) (by omega) c_1
    refine lv_iload_n hx hb dX9_isElement_4 rfl (lv_at hl 1 rfl) ?_
    refine lv_aload_n hx hb dX9_isElement_5 rfl (lv_at hl 0 rfl) ?_
    refine o_get (D := D) (ci := 10) (v := .ref els) (C := RX9) (T := TX9) (N := 12) hx hb hts inX9 hown hK hP h_dk rfl 2 (by decide) (hts _ k_431) (fun _ h9 => h9) rfl dX9_isElement_6 ?_
    obtain ⟨mc9, d9, h_al9⟩ := h_els.al
    refine o_cis (k := 0) (n := 0) hK hP hD hS hA (o_rV (As := []) (rest := [.int (nI j)]) hf (li_size _ _ _ _ _ _ _ _ els 5 6 cap xs h_els _) k_606 k_686 k_604 k_605 k_89 (nA := 0) (by decide +kernel) ⟨Nat.le_of_ble_eq_true rfl, Nat.le_of_ble_eq_true rfl⟩ hK hP hD hS hA hZ hN h_al9 rfl rfl rfl hl.1 rfl (Nat.le_of_ble_eq_true rfl) dX9_isElement_9 ⟨(show 0 + 0 ≤ 0 by omega), (show 0 + 0 ≤ 0 by omega)⟩) (Nat.le_refl _) (Nat.le_refl _) (fun r H locs hw hP hD hS => ?_)
    obtain rfl := hw
    refine lv_icmp_ge (tgt := 19) hx hb dX9_isElement_12 (by decide) (fun c_2 => ?_) (fun c_2 => ?_)
    · have c_2 := q_le (a := xs.length) (b := j) (by omega) (by omega) c_2
      exact False.elim (by omega)
    · have c_2 := q_nle (a := xs.length) (b := j) (by omega) (by omega) c_2
      refine lv_iconst (v := 1) hx hb dX9_isElement_15 (by decide) ?_
      refine lv_goto (tgt := 20) hx hb dX9_isElement_16 (by decide) ?_
      exact o_ri hf hr rfl hlocks hK hP hD hS (show 0 ≤ 0 by omega) (show 0 ≤ 0 by omega) ⟨rfl, rfl, rfl⟩ dX9_isElement_20
set_option maxHeartbeats 1000000 in
set_option maxRecDepth 100000 in
theorem d_elAt (l : Launch) (D : va_G) (z : Nat → Nat) (cB cI_ cO : ClassId) (L0 : List Nat) (g0 : hG) (dk tp rd els reo nob pr bk gl sl mo : Nat) (v10 v11 : Int32) (cap : Nat) (xs : List Nat) (Es : List E5) (j : Nat) (h_dk : ho L0 g0 dk 1 (.inr (10, [.ref tp, .ref rd, .ref els, .ref reo, .ref nob, .ref pr, .ref bk, .ref gl, .ref sl, .int (nI mo), .int v10, .int v11]))) (h_els : alR cO (z 0) 5 6 L0 g0 els cap xs) (h_es : elsR cB cI_ L0 g0 xs Es) (hxl : xs.length ≤ 60) (hj : j < xs.length) : eRs l D yX9_elementAt cX9_elementAt 2 (some (.object "ScriptDesk$Element")) 3 64 0 0 [.ref dk, .int (nI j)] z cB cI_ cO L0 g0 (fun r => r = xs.getD j 0) := by
  refine o_sr (by decide) (Nat.le_of_ble_eq_true rfl) ?_
  intro p e s m below meth c A ls hf hr hlocks hin hK hP hD hS hA hZ hN hl
  obtain ⟨hx, hb, hml, hown, hts⟩ := id hf
  have hl : lv_has ls 2 [(0, .ref dk), (1, .int (nI j))] := hl
  refine lv_aload_n hx hb dX9_elementAt_0 rfl (lv_at hl 0 rfl) ?_
  refine lv_iload_n hx hb dX9_elementAt_1 rfl (lv_at hl 1 rfl) ?_
  refine o_cis (k := 0) (n := 0) hK hP hD hS hA (o_rV (As := [.int (nI j)]) (rest := []) hf (d_isE1 _ _ _ _ _ _ _ _ dk tp rd els reo nob pr bk gl sl mo v10 v11 cap xs Es j h_dk h_els h_es hxl (by omega) _) k_736 k_733 k_735 k_22 k_84 (nA := 1) (by decide +kernel) ⟨Nat.le_of_ble_eq_true rfl, Nat.le_of_ble_eq_true rfl⟩ hK hP hD hS hA hZ hN h_dk rfl rfl rfl hl.1 rfl (Nat.le_of_ble_eq_true rfl) dX9_elementAt_2 ⟨(show 0 + 0 ≤ 0 by omega), (show 0 + 0 ≤ 0 by omega)⟩) (Nat.le_refl _) (Nat.le_refl _) (fun r H locs hw hP hD hS => ?_)
  obtain rfl := hw
  refine lv_if_eq (tgt := 22) hx hb dX9_elementAt_5 (by decide) (fun hno => absurd hno (by decide)) (fun _ => ?_)
  refine lv_aload_n hx hb dX9_elementAt_8 rfl (lv_at hl 0 rfl) ?_
  refine o_get (D := D) (ci := 10) (v := .ref els) (C := RX9) (T := TX9) (N := 12) hx hb hts inX9 hown hK hP h_dk rfl 2 (by decide) (hts _ k_431) (fun _ h9 => h9) rfl dX9_elementAt_9 ?_
  refine lv_iload_n hx hb dX9_elementAt_12 rfl (lv_at hl 1 rfl) ?_
  obtain ⟨mc9, d9, h_al9⟩ := h_els.al
  refine o_crs (k := 0) (n := 0) hK hP hD hS hA (o_rV (As := [.int (nI j)]) (rest := []) hf (li_get _ _ _ _ _ _ _ _ els 5 6 cap xs j h_els (by omega) _) k_675 k_687 k_673 k_674 k_89 (nA := 1) (by decide +kernel) ⟨Nat.le_of_ble_eq_true rfl, Nat.le_of_ble_eq_true rfl⟩ hK hP hD hS hA hZ hN h_al9 rfl rfl rfl hl.1 rfl (Nat.le_of_ble_eq_true rfl) dX9_elementAt_13 ⟨(show 0 + 0 ≤ 0 by omega), (show 0 + 0 ≤ 0 by omega)⟩) (Nat.le_refl _) (Nat.le_refl _) (fun r H locs hw hP hD hS => ?_)
  obtain rfl := hw
  obtain ⟨⟨txg1, rfg1, rtg1, h_eg1⟩, hr_g1⟩ := h_es.o2 (show j < xs.length by omega)
  refine o_cast hx hb hown (hts _ k_180) hK hP h_eg1 rfl rfl dX9_elementAt_16 ?_
  refine lv_goto (tgt := 26) hx hb dX9_elementAt_19 (by decide) ?_
  exact o_rr hf hr (Or.inl ⟨_, rfl⟩) hlocks hK hP hD hS (show 0 ≤ 0 by omega) (show 0 ≤ 0 by omega) ⟨rfl, rfl, rfl⟩ dX9_elementAt_26
