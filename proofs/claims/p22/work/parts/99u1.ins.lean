
set_option maxHeartbeats 1000000 in
set_option maxRecDepth 100000 in
theorem d_insR2 (l : Launch) (D : va_G) (z : Nat → Nat) (cB cI_ cO : ClassId) (L0 : List Nat) (g0 : hG) (dk tp rd els reo nob pr bk gl sl mo : Nat) (v11 : Int32) (cap : Nat) (xs : List Nat) (Es : List E5) (lk j by_ n : Nat) (T : Nat → Int32) (kd : Int32) (h_dk : ho L0 g0 dk 1 (.inr (10, [.ref tp, .ref rd, .ref els, .ref reo, .ref nob, .ref pr, .ref bk, .ref gl, .ref sl, .int (nI mo), .int (nI lk), .int v11]))) (h_els : alR cO (z 0) 5 6 L0 g0 els cap xs) (h_es : elsR cB cI_ L0 g0 xs Es) (h_tp : ho L0 g0 tp 2 (.inr (9, [.ref by_, .int (nI n)]))) (h_by : ho L0 g0 by_ 3 (.inl (cB, 1200, .inl T))) (hxl : xs.length ≤ 60) (hn : n ≤ 1200) (hj : j < xs.length) (hlk : lk ≤ 1) (hbad : kd < 0 ∨ ¬ kd < 6) : eIs l D yX9_insert cX9_insert 7 (some .int) 2 41 0 0 [.ref dk, .int (nI j), .int kd] z cB cI_ cO L0 g0 (fun r => r = -2) := by
  refine o_si (by decide) (Nat.le_of_ble_eq_true rfl) ?_
  intro p e s m below meth c A ls hf hr hlocks hin hK hP hD hS hA hZ hN hl
  obtain ⟨hx, hb, hml, hown, hts⟩ := id hf
  have hl : lv_has ls 7 [(0, .ref dk), (1, .int (nI j)), (2, .int kd)] := hl
  refine lv_aload_n hx hb dX9_insert_0 rfl (lv_at hl 0 rfl) ?_
  refine lv_iload_n hx hb dX9_insert_1 rfl (lv_at hl 1 rfl) ?_
  refine o_cis (k := 0) (n := 0) hK hP hD hS hA (o_rV (As := [.int (nI j)]) (rest := []) hf (d_isE1 _ _ _ _ _ _ _ _ dk tp rd els reo nob pr bk gl sl mo (nI lk) v11 cap xs Es j h_dk h_els h_es hxl (by omega) _) k_736 k_733 k_735 k_22 k_84 (nA := 1) (by decide +kernel) ⟨Nat.le_of_ble_eq_true rfl, Nat.le_of_ble_eq_true rfl⟩ hK hP hD hS hA hZ hN h_dk rfl rfl rfl hl.1 rfl (Nat.le_of_ble_eq_true rfl) dX9_insert_2 ⟨(show 0 + 0 ≤ 0 by omega), (show 0 + 0 ≤ 0 by omega)⟩) (Nat.le_refl _) (Nat.le_refl _) (fun r H locs hw hP hD hS => ?_)
  obtain rfl := hw
  refine lv_if_eq (tgt := 18) hx hb dX9_insert_5 (by decide) (fun hno => absurd hno (by decide)) (fun _ => ?_)
  refine lv_iload_n hx hb dX9_insert_8 rfl (lv_at hl 2 rfl) ?_
  refine lv_if_lt (tgt := 18) hx hb dX9_insert_9 (by decide) (fun c_1 => ?_) (fun c_1 => ?_)
  · refine lv_bipush (v := (-2)) hx hb dX9_insert_18 (by decide) ?_
    exact o_ri hf hr rfl hlocks hK hP hD hS (show 0 ≤ 0 by omega) (show 0 ≤ 0 by omega) ⟨rfl, rfl, rfl⟩ dX9_insert_20
  · refine lv_iload_n hx hb dX9_insert_12 rfl (lv_at hl 2 rfl) ?_
    refine lv_bipush (v := 6) hx hb dX9_insert_13 (by decide) ?_
    refine lv_icmp_lt (tgt := 21) hx hb dX9_insert_15 (by decide) (fun c_2 => ?_) (fun c_2 => ?_)
    · rcases hbad with h9 | h9
      · exact absurd h9 c_1
      · exact absurd c_2 h9
    · refine lv_bipush (v := (-2)) hx hb dX9_insert_18 (by decide) ?_
      exact o_ri hf hr rfl hlocks hK hP hD hS (show 0 ≤ 0 by omega) (show 0 ≤ 0 by omega) ⟨rfl, rfl, rfl⟩ dX9_insert_20
set_option maxHeartbeats 1000000 in
set_option maxRecDepth 100000 in
theorem d_insR3 (l : Launch) (D : va_G) (z : Nat → Nat) (cB cI_ cO : ClassId) (L0 : List Nat) (g0 : hG) (dk tp rd els reo nob pr bk gl sl mo : Nat) (v11 : Int32) (cap : Nat) (xs : List Nat) (Es : List E5) (lk j by_ n : Nat) (T : Nat → Int32) (kd : Int32) (h_dk : ho L0 g0 dk 1 (.inr (10, [.ref tp, .ref rd, .ref els, .ref reo, .ref nob, .ref pr, .ref bk, .ref gl, .ref sl, .int (nI mo), .int (nI lk), .int v11]))) (h_els : alR cO (z 0) 5 6 L0 g0 els cap xs) (h_es : elsR cB cI_ L0 g0 xs Es) (h_tp : ho L0 g0 tp 2 (.inr (9, [.ref by_, .int (nI n)]))) (h_by : ho L0 g0 by_ 3 (.inl (cB, 1200, .inl T))) (hxl : xs.length ≤ 60) (hn : n ≤ 1200) (hj : j < xs.length) (hlk : lk ≤ 1) (hk0 : ¬ kd < 0) (hk6 : kd < 6) (hbad : lk = 0 ∨ ¬ (Es.getD j dE).2.2.1 = 0 ∨ ¬ tx_wd T n n 0) : eIs l D yX9_insert cX9_insert 7 (some .int) 4 85 0 0 [.ref dk, .int (nI j), .int kd] z cB cI_ cO L0 g0 (fun r => r = -3) := by
  refine o_si (by decide) (Nat.le_of_ble_eq_true rfl) ?_
  intro p e s m below meth c A ls hf hr hlocks hin hK hP hD hS hA hZ hN hl
  obtain ⟨hx, hb, hml, hown, hts⟩ := id hf
  have hl : lv_has ls 7 [(0, .ref dk), (1, .int (nI j)), (2, .int kd)] := hl
  refine lv_aload_n hx hb dX9_insert_0 rfl (lv_at hl 0 rfl) ?_
  refine lv_iload_n hx hb dX9_insert_1 rfl (lv_at hl 1 rfl) ?_
  refine o_cis (k := 0) (n := 0) hK hP hD hS hA (o_rV (As := [.int (nI j)]) (rest := []) hf (d_isE1 _ _ _ _ _ _ _ _ dk tp rd els reo nob pr bk gl sl mo (nI lk) v11 cap xs Es j h_dk h_els h_es hxl (by omega) _) k_736 k_733 k_735 k_22 k_84 (nA := 1) (by decide +kernel) ⟨Nat.le_of_ble_eq_true rfl, Nat.le_of_ble_eq_true rfl⟩ hK hP hD hS hA hZ hN h_dk rfl rfl rfl hl.1 rfl (Nat.le_of_ble_eq_true rfl) dX9_insert_2 ⟨(show 0 + 0 ≤ 0 by omega), (show 0 + 0 ≤ 0 by omega)⟩) (Nat.le_refl _) (Nat.le_refl _) (fun r H locs hw hP hD hS => ?_)
  obtain rfl := hw
  refine lv_if_eq (tgt := 18) hx hb dX9_insert_5 (by decide) (fun hno => absurd hno (by decide)) (fun _ => ?_)
  refine lv_iload_n hx hb dX9_insert_8 rfl (lv_at hl 2 rfl) ?_
  refine lv_if_lt (tgt := 18) hx hb dX9_insert_9 (by decide) (fun c_1 => ?_) (fun c_1 => ?_)
  · exact absurd c_1 hk0
  · refine lv_iload_n hx hb dX9_insert_12 rfl (lv_at hl 2 rfl) ?_
    refine lv_bipush (v := 6) hx hb dX9_insert_13 (by decide) ?_
    refine lv_icmp_lt (tgt := 21) hx hb dX9_insert_15 (by decide) (fun c_2 => ?_) (fun c_2 => ?_)
    · refine lv_aload_n hx hb dX9_insert_21 rfl (lv_at hl 0 rfl) ?_
      refine lv_iload_n hx hb dX9_insert_22 rfl (lv_at hl 1 rfl) ?_
      refine o_crs (k := 0) (n := 0) hK hP hD hS hA (o_rV (As := [.int (nI j)]) (rest := []) hf (d_elAt _ _ _ _ _ _ _ _ dk tp rd els reo nob pr bk gl sl mo (nI lk) v11 cap xs Es j h_dk h_els h_es hxl (by omega) _) k_740 k_737 k_739 k_23 k_84 (nA := 1) (by decide +kernel) ⟨Nat.le_of_ble_eq_true rfl, Nat.le_of_ble_eq_true rfl⟩ hK hP hD hS hA hZ hN h_dk rfl rfl rfl hl.1 rfl (Nat.le_of_ble_eq_true rfl) dX9_insert_23 ⟨(show 0 + 0 ≤ 0 by omega), (show 0 + 0 ≤ 0 by omega)⟩) (Nat.le_refl _) (Nat.le_refl _) (fun r H locs hw hP hD hS => ?_)
      obtain rfl := hw
      obtain ⟨⟨txg3, rfg3, rtg3, h_eg3⟩, hr_g3⟩ := h_es.o2 (show j < xs.length by omega)
      refine lv_astore_n (lv' := [(3, .ref (xs.getD j 0)), (0, .ref dk), (1, .int (nI j)), (2, .int kd)]) hx hb dX9_insert_26 rfl hl (by decide) rfl (fun ls hl => ?_)
      refine lv_aload_n hx hb dX9_insert_27 rfl (lv_at hl 1 rfl) ?_
      refine o_get (D := D) (ci := 10) (v := .int (nI lk)) (C := RX9) (T := TX9) (N := 12) hx hb hts inX9 hown hK hP h_dk rfl 10 (by decide) (hts _ k_439) (fun _ h9 => h9) rfl dX9_insert_28 ?_
      refine lv_if_eq (tgt := 51) hx hb dX9_insert_31 (by decide) (fun c_4 => ?_) (fun c_4 => ?_)
      · have c_4 := q_eqn (a := lk) (b := 0) (by omega) (by omega) c_4
        refine lv_bipush (v := (-3)) hx hb dX9_insert_51 (by decide) ?_
        exact o_ri hf hr rfl hlocks hK hP hD hS (show 0 ≤ 0 by omega) (show 0 ≤ 0 by omega) ⟨rfl, rfl, rfl⟩ dX9_insert_53
      · have c_4 := q_nen (a := lk) (b := 0) (by omega) (by omega) c_4
        refine lv_aload_n hx hb dX9_insert_34 rfl (lv_at hl 0 rfl) ?_
        refine o_get (D := D) (ci := 2) (v := .int ((Es.getD j dE).2.2.1)) (C := RX1) (T := TX1) (N := 9) hx hb hts inX1 hown hK hP h_eg3 rfl 2 (by decide) (hts _ k_235) (fun _ h9 => h9) rfl dX9_insert_35 ?_
        refine lv_if_ne (tgt := 51) hx hb dX9_insert_38 (by decide) (fun c_5 => ?_) (fun c_5 => ?_)
        · refine lv_bipush (v := (-3)) hx hb dX9_insert_51 (by decide) ?_
          exact o_ri hf hr rfl hlocks hK hP hD hS (show 0 ≤ 0 by omega) (show 0 ≤ 0 by omega) ⟨rfl, rfl, rfl⟩ dX9_insert_53
        · refine lv_aload_n hx hb dX9_insert_41 rfl (lv_at hl 1 rfl) ?_
          refine o_get (D := D) (ci := 10) (v := .ref tp) (C := RX9) (T := TX9) (N := 12) hx hb hts inX9 hown hK hP h_dk rfl 0 (by decide) (hts _ k_429) (fun _ h9 => h9) rfl dX9_insert_42 ?_
          refine o_cis (k := 0) (n := 0) hK hP hD hS hA (o_rV (As := []) (rest := []) hf (t_hasWord _ _ _ _ _ _ _ _ tp by_ n T h_tp h_by hn _) k_939 k_936 k_937 k_938 k_85 (nA := 0) (by decide +kernel) ⟨Nat.le_of_ble_eq_true rfl, Nat.le_of_ble_eq_true rfl⟩ hK hP hD hS hA hZ hN h_tp rfl rfl rfl hl.1 rfl (Nat.le_of_ble_eq_true rfl) dX9_insert_45 ⟨(show 0 + 0 ≤ 0 by omega), (show 0 + 0 ≤ 0 by omega)⟩) (Nat.le_refl _) (Nat.le_refl _) (fun r H locs hw hP hD hS => ?_)
          rcases hw with ⟨c_6, rfl⟩ | ⟨c_6, rfl⟩
          · have hP := hP
            refine lv_if_ne (tgt := 54) hx hb dX9_insert_48 (by decide) (fun _ => ?_) (fun hno => absurd hno (by decide))
            rcases hbad with h9 | h9 | h9
            · exact False.elim (by omega)
            · exact absurd c_5 h9
            · exact absurd c_6 h9
          · have hP := hP
            refine lv_if_ne (tgt := 54) hx hb dX9_insert_48 (by decide) (fun hno => absurd hno (by decide)) (fun _ => ?_)
            refine lv_bipush (v := (-3)) hx hb dX9_insert_51 (by decide) ?_
            exact o_ri hf hr rfl hlocks hK hP hD hS (show 0 ≤ 0 by omega) (show 0 ≤ 0 by omega) ⟨rfl, rfl, rfl⟩ dX9_insert_53
    · exact absurd hk6 c_2
set_option maxHeartbeats 1000000 in
set_option maxRecDepth 100000 in
theorem d_insR4 (l : Launch) (D : va_G) (z : Nat → Nat) (cB cI_ cO : ClassId) (L0 : List Nat) (g0 : hG) (dk tp rd els reo nob pr bk gl sl mo : Nat) (v11 : Int32) (cap : Nat) (xs : List Nat) (Es : List E5) (lk j by_ n : Nat) (T : Nat → Int32) (kd : Int32) (h_dk : ho L0 g0 dk 1 (.inr (10, [.ref tp, .ref rd, .ref els, .ref reo, .ref nob, .ref pr, .ref bk, .ref gl, .ref sl, .int (nI mo), .int (nI lk), .int v11]))) (h_els : alR cO (z 0) 5 6 L0 g0 els cap xs) (h_es : elsR cB cI_ L0 g0 xs Es) (h_tp : ho L0 g0 tp 2 (.inr (9, [.ref by_, .int (nI n)]))) (h_by : ho L0 g0 by_ 3 (.inl (cB, 1200, .inl T))) (hxl : xs.length ≤ 60) (hn : n ≤ 1200) (hj : j < xs.length) (hlk : lk ≤ 1) (hk0 : ¬ kd < 0) (hk6 : kd < 6) (hl1 : 0 < lk) (hs0 : (Es.getD j dE).2.2.1 = 0) (hwd : tx_wd T n n 0) (h60 : xs.length = 60) : eIs l D yX9_insert cX9_insert 7 (some .int) 4 85 0 0 [.ref dk, .int (nI j), .int kd] z cB cI_ cO L0 g0 (fun r => r = -4) := by
  refine o_si (by decide) (Nat.le_of_ble_eq_true rfl) ?_
  intro p e s m below meth c A ls hf hr hlocks hin hK hP hD hS hA hZ hN hl
  obtain ⟨hx, hb, hml, hown, hts⟩ := id hf
  have hl : lv_has ls 7 [(0, .ref dk), (1, .int (nI j)), (2, .int kd)] := hl
  refine lv_aload_n hx hb dX9_insert_0 rfl (lv_at hl 0 rfl) ?_
  refine lv_iload_n hx hb dX9_insert_1 rfl (lv_at hl 1 rfl) ?_
  refine o_cis (k := 0) (n := 0) hK hP hD hS hA (o_rV (As := [.int (nI j)]) (rest := []) hf (d_isE1 _ _ _ _ _ _ _ _ dk tp rd els reo nob pr bk gl sl mo (nI lk) v11 cap xs Es j h_dk h_els h_es hxl (by omega) _) k_736 k_733 k_735 k_22 k_84 (nA := 1) (by decide +kernel) ⟨Nat.le_of_ble_eq_true rfl, Nat.le_of_ble_eq_true rfl⟩ hK hP hD hS hA hZ hN h_dk rfl rfl rfl hl.1 rfl (Nat.le_of_ble_eq_true rfl) dX9_insert_2 ⟨(show 0 + 0 ≤ 0 by omega), (show 0 + 0 ≤ 0 by omega)⟩) (Nat.le_refl _) (Nat.le_refl _) (fun r H locs hw hP hD hS => ?_)
  obtain rfl := hw
  refine lv_if_eq (tgt := 18) hx hb dX9_insert_5 (by decide) (fun hno => absurd hno (by decide)) (fun _ => ?_)
  refine lv_iload_n hx hb dX9_insert_8 rfl (lv_at hl 2 rfl) ?_
  refine lv_if_lt (tgt := 18) hx hb dX9_insert_9 (by decide) (fun c_1 => ?_) (fun c_1 => ?_)
  · exact absurd c_1 hk0
  · refine lv_iload_n hx hb dX9_insert_12 rfl (lv_at hl 2 rfl) ?_
    refine lv_bipush (v := 6) hx hb dX9_insert_13 (by decide) ?_
    refine lv_icmp_lt (tgt := 21) hx hb dX9_insert_15 (by decide) (fun c_2 => ?_) (fun c_2 => ?_)
    · refine lv_aload_n hx hb dX9_insert_21 rfl (lv_at hl 0 rfl) ?_
      refine lv_iload_n hx hb dX9_insert_22 rfl (lv_at hl 1 rfl) ?_
      refine o_crs (k := 0) (n := 0) hK hP hD hS hA (o_rV (As := [.int (nI j)]) (rest := []) hf (d_elAt _ _ _ _ _ _ _ _ dk tp rd els reo nob pr bk gl sl mo (nI lk) v11 cap xs Es j h_dk h_els h_es hxl (by omega) _) k_740 k_737 k_739 k_23 k_84 (nA := 1) (by decide +kernel) ⟨Nat.le_of_ble_eq_true rfl, Nat.le_of_ble_eq_true rfl⟩ hK hP hD hS hA hZ hN h_dk rfl rfl rfl hl.1 rfl (Nat.le_of_ble_eq_true rfl) dX9_insert_23 ⟨(show 0 + 0 ≤ 0 by omega), (show 0 + 0 ≤ 0 by omega)⟩) (Nat.le_refl _) (Nat.le_refl _) (fun r H locs hw hP hD hS => ?_)
      obtain rfl := hw
      obtain ⟨⟨txg3, rfg3, rtg3, h_eg3⟩, hr_g3⟩ := h_es.o2 (show j < xs.length by omega)
      refine lv_astore_n (lv' := [(3, .ref (xs.getD j 0)), (0, .ref dk), (1, .int (nI j)), (2, .int kd)]) hx hb dX9_insert_26 rfl hl (by decide) rfl (fun ls hl => ?_)
      refine lv_aload_n hx hb dX9_insert_27 rfl (lv_at hl 1 rfl) ?_
      refine o_get (D := D) (ci := 10) (v := .int (nI lk)) (C := RX9) (T := TX9) (N := 12) hx hb hts inX9 hown hK hP h_dk rfl 10 (by decide) (hts _ k_439) (fun _ h9 => h9) rfl dX9_insert_28 ?_
      refine lv_if_eq (tgt := 51) hx hb dX9_insert_31 (by decide) (fun c_4 => ?_) (fun c_4 => ?_)
      · have c_4 := q_eqn (a := lk) (b := 0) (by omega) (by omega) c_4
        first | exact absurd hs0 c_4 | exact absurd hwd c_4 | exact False.elim (by omega)
      · have c_4 := q_nen (a := lk) (b := 0) (by omega) (by omega) c_4
        refine lv_aload_n hx hb dX9_insert_34 rfl (lv_at hl 0 rfl) ?_
        refine o_get (D := D) (ci := 2) (v := .int ((Es.getD j dE).2.2.1)) (C := RX1) (T := TX1) (N := 9) hx hb hts inX1 hown hK hP h_eg3 rfl 2 (by decide) (hts _ k_235) (fun _ h9 => h9) rfl dX9_insert_35 ?_
        refine lv_if_ne (tgt := 51) hx hb dX9_insert_38 (by decide) (fun c_5 => ?_) (fun c_5 => ?_)
        · first | exact absurd hs0 c_5 | exact absurd hwd c_5 | exact False.elim (by omega)
        · refine lv_aload_n hx hb dX9_insert_41 rfl (lv_at hl 1 rfl) ?_
          refine o_get (D := D) (ci := 10) (v := .ref tp) (C := RX9) (T := TX9) (N := 12) hx hb hts inX9 hown hK hP h_dk rfl 0 (by decide) (hts _ k_429) (fun _ h9 => h9) rfl dX9_insert_42 ?_
          refine o_cis (k := 0) (n := 0) hK hP hD hS hA (o_rV (As := []) (rest := []) hf (t_hasWord _ _ _ _ _ _ _ _ tp by_ n T h_tp h_by hn _) k_939 k_936 k_937 k_938 k_85 (nA := 0) (by decide +kernel) ⟨Nat.le_of_ble_eq_true rfl, Nat.le_of_ble_eq_true rfl⟩ hK hP hD hS hA hZ hN h_tp rfl rfl rfl hl.1 rfl (Nat.le_of_ble_eq_true rfl) dX9_insert_45 ⟨(show 0 + 0 ≤ 0 by omega), (show 0 + 0 ≤ 0 by omega)⟩) (Nat.le_refl _) (Nat.le_refl _) (fun r H locs hw hP hD hS => ?_)
          rcases hw with ⟨c_6, rfl⟩ | ⟨c_6, rfl⟩
          · have hP := hP
            refine lv_if_ne (tgt := 54) hx hb dX9_insert_48 (by decide) (fun _ => ?_) (fun hno => absurd hno (by decide))
            refine lv_aload_n hx hb dX9_insert_54 rfl (lv_at hl 1 rfl) ?_
            refine o_get (D := D) (ci := 10) (v := .ref els) (C := RX9) (T := TX9) (N := 12) hx hb hts inX9 hown hK hP h_dk rfl 2 (by decide) (hts _ k_431) (fun _ h9 => h9) rfl dX9_insert_55 ?_
            obtain ⟨mc9, d9, h_al9⟩ := h_els.al
            refine o_cis (k := 0) (n := 0) hK hP hD hS hA (o_rV (As := []) (rest := []) hf (li_size _ _ _ _ _ _ _ _ els 5 6 cap xs h_els _) k_606 k_686 k_604 k_605 k_89 (nA := 0) (by decide +kernel) ⟨Nat.le_of_ble_eq_true rfl, Nat.le_of_ble_eq_true rfl⟩ hK hP hD hS hA hZ hN h_al9 rfl rfl rfl hl.1 rfl (Nat.le_of_ble_eq_true rfl) dX9_insert_58 ⟨(show 0 + 0 ≤ 0 by omega), (show 0 + 0 ≤ 0 by omega)⟩) (Nat.le_refl _) (Nat.le_refl _) (fun r H locs hw hP hD hS => ?_)
            obtain rfl := hw
            refine lv_bipush (v := 60) hx hb dX9_insert_61 (by decide) ?_
            refine lv_icmp_lt (tgt := 69) hx hb dX9_insert_63 (by decide) (fun c_7 => ?_) (fun c_7 => ?_)
            · have c_7 := q_lt (a := xs.length) (b := 60) (by omega) (by omega) c_7
              exact False.elim (by omega)
            · have c_7 := q_nlt (a := xs.length) (b := 60) (by omega) (by omega) c_7
              refine lv_bipush (v := (-4)) hx hb dX9_insert_66 (by decide) ?_
              exact o_ri hf hr rfl hlocks hK hP hD hS (show 0 ≤ 0 by omega) (show 0 ≤ 0 by omega) ⟨rfl, rfl, rfl⟩ dX9_insert_68
          · have hP := hP
            refine lv_if_ne (tgt := 54) hx hb dX9_insert_48 (by decide) (fun hno => absurd hno (by decide)) (fun _ => ?_)
            first | exact absurd hs0 c_6 | exact absurd hwd c_6 | exact False.elim (by omega)
    · exact absurd hk6 c_2
