abbrev cX9_element : ByteArray := prog_1_method_6_code
def yX9_element : MethodName := ⟨RX9, "element", "(II)I"⟩
abbrev cX9_insert : ByteArray := prog_1_method_13_code
def yX9_insert : MethodName := ⟨RX9, "insert", "(II)I"⟩
abbrev cX9_lock : ByteArray := prog_1_method_11_code
def yX9_lock : MethodName := ⟨RX9, "lock", "()I"⟩
abbrev cX9_merge : ByteArray := prog_1_method_17_code
def yX9_merge : MethodName := ⟨RX9, "merge", "()I"⟩
abbrev cX9_where : ByteArray := prog_1_method_16_code
def yX9_where : MethodName := ⟨RX9, "where", "(I)I"⟩
theorem dX9_lock_0 : decode cX9_lock 0 = .ok (.aload_n 0, 1) := by decide +kernel
theorem dX9_lock_1 : decode cX9_lock 1 = .ok (.getfield 116, 3) := by decide +kernel
theorem dX9_lock_4 : decode cX9_lock 4 = .ok (.ifCond .eq 6, 3) := by decide +kernel
theorem dX9_lock_7 : decode cX9_lock 7 = .ok (.bipush (-3), 2) := by decide +kernel
theorem dX9_lock_9 : decode cX9_lock 9 = .ok (.ireturn, 1) := by decide +kernel
theorem dX9_merge_0 : decode cX9_merge 0 = .ok (.aload_n 0, 1) := by decide +kernel
theorem dX9_merge_1 : decode cX9_merge 1 = .ok (.getfield 116, 3) := by decide +kernel
theorem dX9_merge_4 : decode cX9_merge 4 = .ok (.ifCond .ne 6, 3) := by decide +kernel
theorem dX9_merge_7 : decode cX9_merge 7 = .ok (.bipush (-3), 2) := by decide +kernel
theorem dX9_merge_9 : decode cX9_merge 9 = .ok (.ireturn, 1) := by decide +kernel
theorem dX9_sheets_23 : decode cX9_sheets 23 = .ok (.bipush (-2), 2) := by decide +kernel
theorem dX9_sheets_25 : decode cX9_sheets 25 = .ok (.ireturn, 1) := by decide +kernel
theorem dX9_where_0 : decode cX9_where 0 = .ok (.aload_n 0, 1) := by decide +kernel
theorem dX9_where_1 : decode cX9_where 1 = .ok (.iload_n 1, 1) := by decide +kernel
theorem dX9_where_2 : decode cX9_where 2 = .ok (.invokevirtual 123, 3) := by decide +kernel
theorem dX9_where_5 : decode cX9_where 5 = .ok (.ifCond .ne 6, 3) := by decide +kernel
theorem dX9_where_8 : decode cX9_where 8 = .ok (.bipush (-2), 2) := by decide +kernel
theorem dX9_where_10 : decode cX9_where 10 = .ok (.ireturn, 1) := by decide +kernel
theorem dX9_where_11 : decode cX9_where 11 = .ok (.aload_n 0, 1) := by decide +kernel
theorem dX9_where_12 : decode cX9_where 12 = .ok (.getfield 116, 3) := by decide +kernel
theorem dX9_where_15 : decode cX9_where 15 = .ok (.ifCond .ne 6, 3) := by decide +kernel
theorem dX9_where_18 : decode cX9_where 18 = .ok (.bipush (-3), 2) := by decide +kernel
theorem dX9_where_20 : decode cX9_where 20 = .ok (.ireturn, 1) := by decide +kernel
theorem dX9_where_21 : decode cX9_where 21 = .ok (.aload_n 0, 1) := by decide +kernel
theorem dX9_where_22 : decode cX9_where 22 = .ok (.iload_n 1, 1) := by decide +kernel
theorem dX9_where_23 : decode cX9_where 23 = .ok (.invokevirtual 126, 3) := by decide +kernel
theorem dX9_where_26 : decode cX9_where 26 = .ok (.astore_n 2, 1) := by decide +kernel
theorem dX9_where_27 : decode cX9_where 27 = .ok (.aload_n 2, 1) := by decide +kernel
theorem dX9_where_28 : decode cX9_where 28 = .ok (.getfield 139, 3) := by decide +kernel
theorem dX9_where_31 : decode cX9_where 31 = .ok (.ifCond .eq 5, 3) := by decide +kernel
theorem dX9_where_34 : decode cX9_where 34 = .ok (.iconst (-1), 1) := by decide +kernel
theorem dX9_where_35 : decode cX9_where 35 = .ok (.ireturn, 1) := by decide +kernel
theorem dX9_element_0 : decode cX9_element 0 = .ok (.aload_n 0, 1) := by decide +kernel
theorem dX9_element_1 : decode cX9_element 1 = .ok (.iload_n 1, 1) := by decide +kernel
theorem dX9_element_2 : decode cX9_element 2 = .ok (.invokevirtual 123, 3) := by decide +kernel
theorem dX9_element_5 : decode cX9_element 5 = .ok (.ifCond .ne 6, 3) := by decide +kernel
theorem dX9_element_8 : decode cX9_element 8 = .ok (.bipush (-2), 2) := by decide +kernel
theorem dX9_element_10 : decode cX9_element 10 = .ok (.ireturn, 1) := by decide +kernel
theorem dX9_insert_0 : decode cX9_insert 0 = .ok (.aload_n 0, 1) := by decide +kernel
theorem dX9_insert_1 : decode cX9_insert 1 = .ok (.iload_n 1, 1) := by decide +kernel
theorem dX9_insert_2 : decode cX9_insert 2 = .ok (.invokevirtual 123, 3) := by decide +kernel
theorem dX9_insert_5 : decode cX9_insert 5 = .ok (.ifCond .eq 13, 3) := by decide +kernel
theorem dX9_insert_18 : decode cX9_insert 18 = .ok (.bipush (-2), 2) := by decide +kernel
theorem dX9_insert_20 : decode cX9_insert 20 = .ok (.ireturn, 1) := by decide +kernel
set_option maxHeartbeats 1000000 in
set_option maxRecDepth 100000 in
theorem d_lockL (l : Launch) (D : va_G) (z : Nat → Nat) (cB cI_ cO : ClassId) (L0 : List Nat) (g0 : hG) (dk tp rd els reo nob pr bk gl sl mo : Nat) (v11 : Int32) (h_dk : ho L0 g0 dk 1 (.inr (10, [.ref tp, .ref rd, .ref els, .ref reo, .ref nob, .ref pr, .ref bk, .ref gl, .ref sl, .int (nI mo), .int 1, .int v11])))  : eIs l D yX9_lock cX9_lock 2 (some .int) 0 0 0 0 [.ref dk] z cB cI_ cO L0 g0 (fun r => r = -3) := by
  refine o_si (by decide) (Nat.le_of_ble_eq_true rfl) ?_
  intro p e s m below meth c A ls hf hr hlocks hin hK hP hD hS hA hZ hN hl
  obtain ⟨hx, hb, hml, hown, hts⟩ := id hf
  have hl : lv_has ls 2 [(0, .ref dk)] := hl
  refine lv_aload_n hx hb dX9_lock_0 rfl (lv_at hl 0 rfl) ?_
  refine o_get (D := D) (ci := 10) (v := .int 1) (C := RX9) (T := TX9) (N := 12) hx hb hts inX9 hown hK hP h_dk rfl 10 (by decide) (hts _ k_439) (fun _ h9 => h9) rfl dX9_lock_1 ?_
  refine lv_if_eq (tgt := 10) hx hb dX9_lock_4 (by decide) (fun hno => absurd hno (by decide)) (fun _ => ?_)
  refine lv_bipush (v := (-3)) hx hb dX9_lock_7 (by decide) ?_
  exact o_ri hf hr rfl hlocks hK hP hD hS (show 0 ≤ 0 by omega) (show 0 ≤ 0 by omega) ⟨rfl, rfl, rfl⟩ dX9_lock_9
set_option maxHeartbeats 1000000 in
set_option maxRecDepth 100000 in
theorem d_mergeU (l : Launch) (D : va_G) (z : Nat → Nat) (cB cI_ cO : ClassId) (L0 : List Nat) (g0 : hG) (dk tp rd els reo nob pr bk gl sl mo : Nat) (v11 : Int32) (h_dk : ho L0 g0 dk 1 (.inr (10, [.ref tp, .ref rd, .ref els, .ref reo, .ref nob, .ref pr, .ref bk, .ref gl, .ref sl, .int (nI mo), .int 0, .int v11])))  : eIs l D yX9_merge cX9_merge 3 (some .int) 0 0 0 0 [.ref dk] z cB cI_ cO L0 g0 (fun r => r = -3) := by
  refine o_si (by decide) (Nat.le_of_ble_eq_true rfl) ?_
  intro p e s m below meth c A ls hf hr hlocks hin hK hP hD hS hA hZ hN hl
  obtain ⟨hx, hb, hml, hown, hts⟩ := id hf
  have hl : lv_has ls 3 [(0, .ref dk)] := hl
  refine lv_aload_n hx hb dX9_merge_0 rfl (lv_at hl 0 rfl) ?_
  refine o_get (D := D) (ci := 10) (v := .int 0) (C := RX9) (T := TX9) (N := 12) hx hb hts inX9 hown hK hP h_dk rfl 10 (by decide) (hts _ k_439) (fun _ h9 => h9) rfl dX9_merge_1 ?_
  refine lv_if_ne (tgt := 10) hx hb dX9_merge_4 (by decide) (fun hno => absurd hno (by decide)) (fun _ => ?_)
  refine lv_bipush (v := (-3)) hx hb dX9_merge_7 (by decide) ?_
  exact o_ri hf hr rfl hlocks hK hP hD hS (show 0 ≤ 0 by omega) (show 0 ≤ 0 by omega) ⟨rfl, rfl, rfl⟩ dX9_merge_9
set_option maxHeartbeats 1000000 in
set_option maxRecDepth 100000 in
theorem d_sheetsBa (l : Launch) (D : va_G) (z : Nat → Nat) (cB cI_ cO : ClassId) (L0 : List Nat) (g0 : hG) (dk tp rd els reo nob pr bk gl sl mo : Nat) (v11 : Int32) (x1 : Int32) (h_dk : ho L0 g0 dk 1 (.inr (10, [.ref tp, .ref rd, .ref els, .ref reo, .ref nob, .ref pr, .ref bk, .ref gl, .ref sl, .int (nI mo), .int 1, .int v11]))) (hx1 : x1 < 1) : eIs l D yX9_sheets cX9_sheets 2 (some .int) 0 0 0 0 [.ref dk, .int x1] z cB cI_ cO L0 g0 (fun r => r = -2) := by
  refine o_si (by decide) (Nat.le_of_ble_eq_true rfl) ?_
  intro p e s m below meth c A ls hf hr hlocks hin hK hP hD hS hA hZ hN hl
  obtain ⟨hx, hb, hml, hown, hts⟩ := id hf
  have hl : lv_has ls 2 [(0, .ref dk), (1, .int x1)] := hl
  refine lv_aload_n hx hb dX9_sheets_0 rfl (lv_at hl 0 rfl) ?_
  refine o_get (D := D) (ci := 10) (v := .int 1) (C := RX9) (T := TX9) (N := 12) hx hb hts inX9 hown hK hP h_dk rfl 10 (by decide) (hts _ k_439) (fun _ h9 => h9) rfl dX9_sheets_1 ?_
  refine lv_if_ne (tgt := 10) hx hb dX9_sheets_4 (by decide) (fun _ => ?_) (fun hno => absurd hno (by decide))
  refine lv_iload_n hx hb dX9_sheets_10 rfl (lv_at hl 1 rfl) ?_
  refine lv_iconst (v := 1) hx hb dX9_sheets_11 (by decide) ?_
  refine lv_icmp_lt (tgt := 23) hx hb dX9_sheets_12 (by decide) (fun c_1 => ?_) (fun c_1 => ?_)
  · refine lv_bipush (v := (-2)) hx hb dX9_sheets_23 (by decide) ?_
    exact o_ri hf hr rfl hlocks hK hP hD hS (show 0 ≤ 0 by omega) (show 0 ≤ 0 by omega) ⟨rfl, rfl, rfl⟩ dX9_sheets_25
  · exact absurd hx1 c_1
set_option maxHeartbeats 1000000 in
set_option maxRecDepth 100000 in
theorem d_sheetsBb (l : Launch) (D : va_G) (z : Nat → Nat) (cB cI_ cO : ClassId) (L0 : List Nat) (g0 : hG) (dk tp rd els reo nob pr bk gl sl mo gs : Nat) (x1 : Int32) (h_dk : ho L0 g0 dk 1 (.inr (10, [.ref tp, .ref rd, .ref els, .ref reo, .ref nob, .ref pr, .ref bk, .ref gl, .ref sl, .int (nI mo), .int 1, .int (nI gs)]))) (hx1 : nI gs < x1) : eIs l D yX9_sheets cX9_sheets 2 (some .int) 0 0 0 0 [.ref dk, .int x1] z cB cI_ cO L0 g0 (fun r => r = -2) := by
  refine o_si (by decide) (Nat.le_of_ble_eq_true rfl) ?_
  intro p e s m below meth c A ls hf hr hlocks hin hK hP hD hS hA hZ hN hl
  obtain ⟨hx, hb, hml, hown, hts⟩ := id hf
  have hl : lv_has ls 2 [(0, .ref dk), (1, .int x1)] := hl
  refine lv_aload_n hx hb dX9_sheets_0 rfl (lv_at hl 0 rfl) ?_
  refine o_get (D := D) (ci := 10) (v := .int 1) (C := RX9) (T := TX9) (N := 12) hx hb hts inX9 hown hK hP h_dk rfl 10 (by decide) (hts _ k_439) (fun _ h9 => h9) rfl dX9_sheets_1 ?_
  refine lv_if_ne (tgt := 10) hx hb dX9_sheets_4 (by decide) (fun _ => ?_) (fun hno => absurd hno (by decide))
  refine lv_iload_n hx hb dX9_sheets_10 rfl (lv_at hl 1 rfl) ?_
  refine lv_iconst (v := 1) hx hb dX9_sheets_11 (by decide) ?_
  refine lv_icmp_lt (tgt := 23) hx hb dX9_sheets_12 (by decide) (fun c_1 => ?_) (fun c_1 => ?_)
  · refine lv_bipush (v := (-2)) hx hb dX9_sheets_23 (by decide) ?_
    exact o_ri hf hr rfl hlocks hK hP hD hS (show 0 ≤ 0 by omega) (show 0 ≤ 0 by omega) ⟨rfl, rfl, rfl⟩ dX9_sheets_25
  · refine lv_iload_n hx hb dX9_sheets_15 rfl (lv_at hl 1 rfl) ?_
    refine lv_aload_n hx hb dX9_sheets_16 rfl (lv_at hl 0 rfl) ?_
    refine o_get (D := D) (ci := 10) (v := .int (nI gs)) (C := RX9) (T := TX9) (N := 12) hx hb hts inX9 hown hK hP h_dk rfl 11 (by decide) (hts _ k_440) (fun _ h9 => h9) rfl dX9_sheets_17 ?_
    refine lv_icmp_le (tgt := 26) hx hb dX9_sheets_20 (by decide) (fun c_2 => ?_) (fun c_2 => ?_)
    · exact absurd hx1 (q_nlt_le c_2)
    · refine lv_bipush (v := (-2)) hx hb dX9_sheets_23 (by decide) ?_
      exact o_ri hf hr rfl hlocks hK hP hD hS (show 0 ≤ 0 by omega) (show 0 ≤ 0 by omega) ⟨rfl, rfl, rfl⟩ dX9_sheets_25
set_option maxHeartbeats 1000000 in
set_option maxRecDepth 100000 in
theorem d_whereB (l : Launch) (D : va_G) (z : Nat → Nat) (cB cI_ cO : ClassId) (L0 : List Nat) (g0 : hG) (dk tp rd els reo nob pr bk gl sl mo : Nat) (v10 v11 : Int32) (cap : Nat) (xs : List Nat) (Es : List E5) (x1 : Int32) (h_dk : ho L0 g0 dk 1 (.inr (10, [.ref tp, .ref rd, .ref els, .ref reo, .ref nob, .ref pr, .ref bk, .ref gl, .ref sl, .int (nI mo), .int v10, .int v11]))) (h_els : alR cO (z 0) 5 6 L0 g0 els cap xs) (h_es : elsR cB cI_ L0 g0 xs Es) (hxl : xs.length ≤ 60) (hx1 : ¬ ∃ j : Nat, j < xs.length ∧ x1 = nI j) : eIs l D yX9_where cX9_where 5 (some .int) 2 41 0 0 [.ref dk, .int x1] z cB cI_ cO L0 g0 (fun r => r = -2) := by
  refine o_si (by decide) (Nat.le_of_ble_eq_true rfl) ?_
  intro p e s m below meth c A ls hf hr hlocks hin hK hP hD hS hA hZ hN hl
  obtain ⟨hx, hb, hml, hown, hts⟩ := id hf
  have hl : lv_has ls 5 [(0, .ref dk), (1, .int x1)] := hl
  refine lv_aload_n hx hb dX9_where_0 rfl (lv_at hl 0 rfl) ?_
  refine lv_iload_n hx hb dX9_where_1 rfl (lv_at hl 1 rfl) ?_
  refine o_cis (k := 0) (n := 0) hK hP hD hS hA (o_rV (As := [.int x1]) (rest := []) hf (d_isE _ _ _ _ _ _ _ _ dk tp rd els reo nob pr bk gl sl mo v10 v11 cap xs Es x1 h_dk h_els h_es hxl _) k_736 k_733 k_735 k_22 k_84 (nA := 1) (by decide +kernel) ⟨Nat.le_of_ble_eq_true rfl, Nat.le_of_ble_eq_true rfl⟩ hK hP hD hS hA hZ hN h_dk rfl rfl rfl hl.1 rfl (Nat.le_of_ble_eq_true rfl) dX9_where_2 ⟨(show 0 + 0 ≤ 0 by omega), (show 0 + 0 ≤ 0 by omega)⟩) (Nat.le_refl _) (Nat.le_refl _) (fun r H locs hw hP hD hS => ?_)
  rcases hw with ⟨c_1, rfl⟩ | ⟨c_1, rfl⟩
  · have hP := hP
    refine lv_if_ne (tgt := 11) hx hb dX9_where_5 (by decide) (fun _ => ?_) (fun hno => absurd hno (by decide))
    exact absurd c_1 hx1
  · have hP := hP
    refine lv_if_ne (tgt := 11) hx hb dX9_where_5 (by decide) (fun hno => absurd hno (by decide)) (fun _ => ?_)
    refine lv_bipush (v := (-2)) hx hb dX9_where_8 (by decide) ?_
    exact o_ri hf hr rfl hlocks hK hP hD hS (show 0 ≤ 0 by omega) (show 0 ≤ 0 by omega) ⟨rfl, rfl, rfl⟩ dX9_where_10
set_option maxHeartbeats 1000000 in
set_option maxRecDepth 100000 in
theorem d_whereU (l : Launch) (D : va_G) (z : Nat → Nat) (cB cI_ cO : ClassId) (L0 : List Nat) (g0 : hG) (dk tp rd els reo nob pr bk gl sl mo : Nat) (v11 : Int32) (cap : Nat) (xs : List Nat) (Es : List E5) (j : Nat) (h_dk : ho L0 g0 dk 1 (.inr (10, [.ref tp, .ref rd, .ref els, .ref reo, .ref nob, .ref pr, .ref bk, .ref gl, .ref sl, .int (nI mo), .int 0, .int v11]))) (h_els : alR cO (z 0) 5 6 L0 g0 els cap xs) (h_es : elsR cB cI_ L0 g0 xs Es) (hxl : xs.length ≤ 60) (hj : j < xs.length) : eIs l D yX9_where cX9_where 5 (some .int) 2 41 0 0 [.ref dk, .int (nI j)] z cB cI_ cO L0 g0 (fun r => r = -3) := by
  refine o_si (by decide) (Nat.le_of_ble_eq_true rfl) ?_
  intro p e s m below meth c A ls hf hr hlocks hin hK hP hD hS hA hZ hN hl
  obtain ⟨hx, hb, hml, hown, hts⟩ := id hf
  have hl : lv_has ls 5 [(0, .ref dk), (1, .int (nI j))] := hl
  refine lv_aload_n hx hb dX9_where_0 rfl (lv_at hl 0 rfl) ?_
  refine lv_iload_n hx hb dX9_where_1 rfl (lv_at hl 1 rfl) ?_
  refine o_cis (k := 0) (n := 0) hK hP hD hS hA (o_rV (As := [.int (nI j)]) (rest := []) hf (d_isE1 _ _ _ _ _ _ _ _ dk tp rd els reo nob pr bk gl sl mo 0 v11 cap xs Es j h_dk h_els h_es hxl (by omega) _) k_736 k_733 k_735 k_22 k_84 (nA := 1) (by decide +kernel) ⟨Nat.le_of_ble_eq_true rfl, Nat.le_of_ble_eq_true rfl⟩ hK hP hD hS hA hZ hN h_dk rfl rfl rfl hl.1 rfl (Nat.le_of_ble_eq_true rfl) dX9_where_2 ⟨(show 0 + 0 ≤ 0 by omega), (show 0 + 0 ≤ 0 by omega)⟩) (Nat.le_refl _) (Nat.le_refl _) (fun r H locs hw hP hD hS => ?_)
  obtain rfl := hw
  refine lv_if_ne (tgt := 11) hx hb dX9_where_5 (by decide) (fun _ => ?_) (fun hno => absurd hno (by decide))
  refine lv_aload_n hx hb dX9_where_11 rfl (lv_at hl 0 rfl) ?_
  refine o_get (D := D) (ci := 10) (v := .int 0) (C := RX9) (T := TX9) (N := 12) hx hb hts inX9 hown hK hP h_dk rfl 10 (by decide) (hts _ k_439) (fun _ h9 => h9) rfl dX9_where_12 ?_
  refine lv_if_ne (tgt := 21) hx hb dX9_where_15 (by decide) (fun hno => absurd hno (by decide)) (fun _ => ?_)
  refine lv_bipush (v := (-3)) hx hb dX9_where_18 (by decide) ?_
  exact o_ri hf hr rfl hlocks hK hP hD hS (show 0 ≤ 0 by omega) (show 0 ≤ 0 by omega) ⟨rfl, rfl, rfl⟩ dX9_where_20
set_option maxHeartbeats 1000000 in
set_option maxRecDepth 100000 in
theorem d_whereS (l : Launch) (D : va_G) (z : Nat → Nat) (cB cI_ cO : ClassId) (L0 : List Nat) (g0 : hG) (dk tp rd els reo nob pr bk gl sl mo : Nat) (v11 : Int32) (cap : Nat) (xs : List Nat) (Es : List E5) (j : Nat) (h_dk : ho L0 g0 dk 1 (.inr (10, [.ref tp, .ref rd, .ref els, .ref reo, .ref nob, .ref pr, .ref bk, .ref gl, .ref sl, .int (nI mo), .int 1, .int v11]))) (h_els : alR cO (z 0) 5 6 L0 g0 els cap xs) (h_es : elsR cB cI_ L0 g0 xs Es) (hxl : xs.length ≤ 60) (hj : j < xs.length) (hst : ¬ (Es.getD j dE).2.2.1 = 0) : eIs l D yX9_where cX9_where 5 (some .int) 4 85 0 0 [.ref dk, .int (nI j)] z cB cI_ cO L0 g0 (fun r => r = -1) := by
  refine o_si (by decide) (Nat.le_of_ble_eq_true rfl) ?_
  intro p e s m below meth c A ls hf hr hlocks hin hK hP hD hS hA hZ hN hl
  obtain ⟨hx, hb, hml, hown, hts⟩ := id hf
  have hl : lv_has ls 5 [(0, .ref dk), (1, .int (nI j))] := hl
  refine lv_aload_n hx hb dX9_where_0 rfl (lv_at hl 0 rfl) ?_
  refine lv_iload_n hx hb dX9_where_1 rfl (lv_at hl 1 rfl) ?_
  refine o_cis (k := 0) (n := 0) hK hP hD hS hA (o_rV (As := [.int (nI j)]) (rest := []) hf (d_isE1 _ _ _ _ _ _ _ _ dk tp rd els reo nob pr bk gl sl mo 1 v11 cap xs Es j h_dk h_els h_es hxl (by omega) _) k_736 k_733 k_735 k_22 k_84 (nA := 1) (by decide +kernel) ⟨Nat.le_of_ble_eq_true rfl, Nat.le_of_ble_eq_true rfl⟩ hK hP hD hS hA hZ hN h_dk rfl rfl rfl hl.1 rfl (Nat.le_of_ble_eq_true rfl) dX9_where_2 ⟨(show 0 + 0 ≤ 0 by omega), (show 0 + 0 ≤ 0 by omega)⟩) (Nat.le_refl _) (Nat.le_refl _) (fun r H locs hw hP hD hS => ?_)
  obtain rfl := hw
  refine lv_if_ne (tgt := 11) hx hb dX9_where_5 (by decide) (fun _ => ?_) (fun hno => absurd hno (by decide))
  refine lv_aload_n hx hb dX9_where_11 rfl (lv_at hl 0 rfl) ?_
  refine o_get (D := D) (ci := 10) (v := .int 1) (C := RX9) (T := TX9) (N := 12) hx hb hts inX9 hown hK hP h_dk rfl 10 (by decide) (hts _ k_439) (fun _ h9 => h9) rfl dX9_where_12 ?_
  refine lv_if_ne (tgt := 21) hx hb dX9_where_15 (by decide) (fun _ => ?_) (fun hno => absurd hno (by decide))
  refine lv_aload_n hx hb dX9_where_21 rfl (lv_at hl 0 rfl) ?_
  refine lv_iload_n hx hb dX9_where_22 rfl (lv_at hl 1 rfl) ?_
  refine o_crs (k := 0) (n := 0) hK hP hD hS hA (o_rV (As := [.int (nI j)]) (rest := []) hf (d_elAt _ _ _ _ _ _ _ _ dk tp rd els reo nob pr bk gl sl mo 1 v11 cap xs Es j h_dk h_els h_es hxl (by omega) _) k_740 k_737 k_739 k_23 k_84 (nA := 1) (by decide +kernel) ⟨Nat.le_of_ble_eq_true rfl, Nat.le_of_ble_eq_true rfl⟩ hK hP hD hS hA hZ hN h_dk rfl rfl rfl hl.1 rfl (Nat.le_of_ble_eq_true rfl) dX9_where_23 ⟨(show 0 + 0 ≤ 0 by omega), (show 0 + 0 ≤ 0 by omega)⟩) (Nat.le_refl _) (Nat.le_refl _) (fun r H locs hw hP hD hS => ?_)
  obtain rfl := hw
  obtain ⟨⟨txg1, rfg1, rtg1, h_eg1⟩, hr_g1⟩ := h_es.o2 (show j < xs.length by omega)
  refine lv_astore_n (lv' := [(2, .ref (xs.getD j 0)), (0, .ref dk), (1, .int (nI j))]) hx hb dX9_where_26 rfl hl (by decide) rfl (fun ls hl => ?_)
  refine lv_aload_n hx hb dX9_where_27 rfl (lv_at hl 0 rfl) ?_
  refine o_get (D := D) (ci := 2) (v := .int ((Es.getD j dE).2.2.1)) (C := RX1) (T := TX1) (N := 9) hx hb hts inX1 hown hK hP h_eg1 rfl 2 (by decide) (hts _ k_235) (fun _ h9 => h9) rfl dX9_where_28 ?_
  refine lv_if_eq (tgt := 36) hx hb dX9_where_31 (by decide) (fun c_2 => ?_) (fun c_2 => ?_)
  · exact absurd c_2 hst
  · refine lv_iconst (v := (-1)) hx hb dX9_where_34 (by decide) ?_
    exact o_ri hf hr rfl hlocks hK hP hD hS (show 0 ≤ 0 by omega) (show 0 ≤ 0 by omega) ⟨rfl, rfl, rfl⟩ dX9_where_35
set_option maxHeartbeats 1000000 in
set_option maxRecDepth 100000 in
theorem d_elB (l : Launch) (D : va_G) (z : Nat → Nat) (cB cI_ cO : ClassId) (L0 : List Nat) (g0 : hG) (dk tp rd els reo nob pr bk gl sl mo : Nat) (v10 v11 : Int32) (cap : Nat) (xs : List Nat) (Es : List E5) (x1 x2 : Int32) (h_dk : ho L0 g0 dk 1 (.inr (10, [.ref tp, .ref rd, .ref els, .ref reo, .ref nob, .ref pr, .ref bk, .ref gl, .ref sl, .int (nI mo), .int v10, .int v11]))) (h_els : alR cO (z 0) 5 6 L0 g0 els cap xs) (h_es : elsR cB cI_ L0 g0 xs Es) (hxl : xs.length ≤ 60) (hx1 : ¬ ∃ j : Nat, j < xs.length ∧ x1 = nI j) : eIs l D yX9_element cX9_element 4 (some .int) 2 41 0 0 [.ref dk, .int x1, .int x2] z cB cI_ cO L0 g0 (fun r => r = -2) := by
  refine o_si (by decide) (Nat.le_of_ble_eq_true rfl) ?_
  intro p e s m below meth c A ls hf hr hlocks hin hK hP hD hS hA hZ hN hl
  obtain ⟨hx, hb, hml, hown, hts⟩ := id hf
  have hl : lv_has ls 4 [(0, .ref dk), (1, .int x1), (2, .int x2)] := hl
  refine lv_aload_n hx hb dX9_element_0 rfl (lv_at hl 0 rfl) ?_
  refine lv_iload_n hx hb dX9_element_1 rfl (lv_at hl 1 rfl) ?_
  refine o_cis (k := 0) (n := 0) hK hP hD hS hA (o_rV (As := [.int x1]) (rest := []) hf (d_isE _ _ _ _ _ _ _ _ dk tp rd els reo nob pr bk gl sl mo v10 v11 cap xs Es x1 h_dk h_els h_es hxl _) k_736 k_733 k_735 k_22 k_84 (nA := 1) (by decide +kernel) ⟨Nat.le_of_ble_eq_true rfl, Nat.le_of_ble_eq_true rfl⟩ hK hP hD hS hA hZ hN h_dk rfl rfl rfl hl.1 rfl (Nat.le_of_ble_eq_true rfl) dX9_element_2 ⟨(show 0 + 0 ≤ 0 by omega), (show 0 + 0 ≤ 0 by omega)⟩) (Nat.le_refl _) (Nat.le_refl _) (fun r H locs hw hP hD hS => ?_)
  rcases hw with ⟨c_1, rfl⟩ | ⟨c_1, rfl⟩
  · have hP := hP
    refine lv_if_ne (tgt := 11) hx hb dX9_element_5 (by decide) (fun _ => ?_) (fun hno => absurd hno (by decide))
    exact absurd c_1 hx1
  · have hP := hP
    refine lv_if_ne (tgt := 11) hx hb dX9_element_5 (by decide) (fun hno => absurd hno (by decide)) (fun _ => ?_)
    refine lv_bipush (v := (-2)) hx hb dX9_element_8 (by decide) ?_
    exact o_ri hf hr rfl hlocks hK hP hD hS (show 0 ≤ 0 by omega) (show 0 ≤ 0 by omega) ⟨rfl, rfl, rfl⟩ dX9_element_10
set_option maxHeartbeats 1000000 in
set_option maxRecDepth 100000 in
theorem d_insB (l : Launch) (D : va_G) (z : Nat → Nat) (cB cI_ cO : ClassId) (L0 : List Nat) (g0 : hG) (dk tp rd els reo nob pr bk gl sl mo : Nat) (v10 v11 : Int32) (cap : Nat) (xs : List Nat) (Es : List E5) (x1 x2 : Int32) (h_dk : ho L0 g0 dk 1 (.inr (10, [.ref tp, .ref rd, .ref els, .ref reo, .ref nob, .ref pr, .ref bk, .ref gl, .ref sl, .int (nI mo), .int v10, .int v11]))) (h_els : alR cO (z 0) 5 6 L0 g0 els cap xs) (h_es : elsR cB cI_ L0 g0 xs Es) (hxl : xs.length ≤ 60) (hx1 : ¬ ∃ j : Nat, j < xs.length ∧ x1 = nI j) : eIs l D yX9_insert cX9_insert 7 (some .int) 2 41 0 0 [.ref dk, .int x1, .int x2] z cB cI_ cO L0 g0 (fun r => r = -2) := by
  refine o_si (by decide) (Nat.le_of_ble_eq_true rfl) ?_
  intro p e s m below meth c A ls hf hr hlocks hin hK hP hD hS hA hZ hN hl
  obtain ⟨hx, hb, hml, hown, hts⟩ := id hf
  have hl : lv_has ls 7 [(0, .ref dk), (1, .int x1), (2, .int x2)] := hl
  refine lv_aload_n hx hb dX9_insert_0 rfl (lv_at hl 0 rfl) ?_
  refine lv_iload_n hx hb dX9_insert_1 rfl (lv_at hl 1 rfl) ?_
  refine o_cis (k := 0) (n := 0) hK hP hD hS hA (o_rV (As := [.int x1]) (rest := []) hf (d_isE _ _ _ _ _ _ _ _ dk tp rd els reo nob pr bk gl sl mo v10 v11 cap xs Es x1 h_dk h_els h_es hxl _) k_736 k_733 k_735 k_22 k_84 (nA := 1) (by decide +kernel) ⟨Nat.le_of_ble_eq_true rfl, Nat.le_of_ble_eq_true rfl⟩ hK hP hD hS hA hZ hN h_dk rfl rfl rfl hl.1 rfl (Nat.le_of_ble_eq_true rfl) dX9_insert_2 ⟨(show 0 + 0 ≤ 0 by omega), (show 0 + 0 ≤ 0 by omega)⟩) (Nat.le_refl _) (Nat.le_refl _) (fun r H locs hw hP hD hS => ?_)
  rcases hw with ⟨c_1, rfl⟩ | ⟨c_1, rfl⟩
  · have hP := hP
    refine lv_if_eq (tgt := 18) hx hb dX9_insert_5 (by decide) (fun hno => absurd hno (by decide)) (fun _ => ?_)
    exact absurd c_1 hx1
  · have hP := hP
    refine lv_if_eq (tgt := 18) hx hb dX9_insert_5 (by decide) (fun _ => ?_) (fun hno => absurd hno (by decide))
    refine lv_bipush (v := (-2)) hx hb dX9_insert_18 (by decide) ?_
    exact o_ri hf hr rfl hlocks hK hP hD hS (show 0 ≤ 0 by omega) (show 0 ≤ 0 by omega) ⟨rfl, rfl, rfl⟩ dX9_insert_20
