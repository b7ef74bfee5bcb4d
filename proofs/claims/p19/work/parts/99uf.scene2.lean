
set_option maxHeartbeats 1000000 in
set_option maxRecDepth 100000 in
theorem d_e82 (l : Launch) (D : va_G) (z : Nat → Nat) (cB cI_ cO : ClassId) (L0 : List Nat) (g0 : hG) (dk tp rd els reo nob bk gl mo : Nat) (pr pcs spr nwh cp : Nat) (pa : List Nat) (ea : Nat → Nat) (P : List Q4) (ne : Nat) (EE : Nat → E5) (sl : Nat) (v10 v11 : Int32) (fm to_ ss : Nat) (h_dk : ho L0 g0 dk 1 (.inr (10, [.ref tp, .ref rd, .ref els, .ref reo, .ref nob, .ref pr, .ref bk, .ref gl, .ref sl, .int (nI mo), .int v10, .int v11]))) (h_pr : ho L0 g0 pr 13 (.inr (7, [.ref pcs, .ref spr, .ref nwh]))) (h_pcs : alR cO (z 0) 14 15 L0 g0 pcs cp pa) (h_pc : pcR L0 g0 ea pa P) (h_es : esR cB cI_ L0 g0 ea ne EE) (h_sl : ho L0 g0 sl 29 (.inr (8, [.ref pr]))) (hmo1 : 10 ≤ mo) (hmo : mo ≤ 40) (hpa : pa.length ≤ 20000) (hQ : pq_ok ne EE P) (hft : fm ≤ to_) (hto : to_ ≤ pa.length) (hSn : qS P pa.length ≤ 8000) (hbf : bgs EE P pa.length ss fm) (hsc : ss < pcnt (bgq EE P 0) pa.length) : eIs l D yX9_eighthsOf cX9_eighthsOf 5 (some .int) 9 225 0 0 [.ref dk, .int (nI fm), .int (nI to_)] z cB cI_ cO L0 g0 (fun r => ∃ b0, bgs EE P pa.length 0 b0 ∧ r = nI (8 * (pspan EE P to_ - pspan EE P b0) / mo) - nI (8 * (pspan EE P fm - pspan EE P b0) / mo)) := by
  refine o_si (by decide) (Nat.le_of_ble_eq_true rfl) ?_
  intro p e s m below meth c A ls hf hr hlocks hin hK hP hD hS hA hZ hN hl
  obtain ⟨hx, hb, hml, hown, hts⟩ := id hf
  have hl : lv_has ls 5 [(0, .ref dk), (1, .int (nI fm)), (2, .int (nI to_))] := hl
  have hsm2 := pspan_mo EE P hft
  have hsp1 := pspan_le EE P fm
  have hsp2 := pspan_le EE P to_
  have hqm1 := qS_m P (show fm ≤ pa.length by omega)
  have hqm2 := qS_m P hto
  refine lv_aload_n hx hb dX9_eighthsOf_0 rfl (lv_at hl 0 rfl) ?_
  refine o_get (D := D) (ci := 10) (v := .ref sl) (C := RX9) (T := TX9) (N := 12) hx hb hts inX9 hown hK hP h_dk rfl 8 (by decide) (hts _ k_437) (fun _ h9 => h9) rfl dX9_eighthsOf_1 ?_
  refine lv_aload_n hx hb dX9_eighthsOf_4 rfl (lv_at hl 0 rfl) ?_
  refine o_get (D := D) (ci := 10) (v := .ref sl) (C := RX9) (T := TX9) (N := 12) hx hb hts inX9 hown hK hP h_dk rfl 8 (by decide) (hts _ k_437) (fun _ h9 => h9) rfl dX9_eighthsOf_5 ?_
  refine lv_iconst (v := 0) hx hb dX9_eighthsOf_8 (by decide) ?_
  refine o_cis (k := 0) (n := 0) hK hP hD hS hA (o_rV (As := [.int 0]) (rest := [.ref sl]) hf (sl_begin2 _ _ _ _ _ _ _ _ pr pcs spr nwh cp pa ea P ne EE sl 0 h_pr h_pcs h_pc h_es h_sl hpa hQ (by omega) _) k_1060 k_1057 k_1058 k_1059 k_97 (nA := 1) (by decide +kernel) ⟨Nat.le_of_ble_eq_true rfl, Nat.le_of_ble_eq_true rfl⟩ hK hP hD hS hA hZ hN h_sl rfl rfl rfl hl.1 rfl (Nat.le_of_ble_eq_true rfl) dX9_eighthsOf_9 ⟨(show 0 + 0 ≤ 0 by omega), (show 0 + 0 ≤ 0 by omega)⟩) (Nat.le_refl _) (Nat.le_refl _) (fun r H locs hw hP hD hS => ?_)
  obtain ⟨t1, rfl, ht1⟩ := hw
  have hlt1 := bgs_le ht1
  have hk1 := bgs_in ht1 (show 0 < pcnt (bgq EE P 0) pa.length by omega)
  have hk2 := bgs_mw ht1 hbf (Nat.zero_le _) hk1
  have hsm1 := pspan_mo EE P hk2
  refine lv_iload_n hx hb dX9_eighthsOf_12 rfl (lv_at hl 1 rfl) ?_
  refine o_cis (k := 0) (n := 0) hK hP hD hS hA (o_rV (As := [.int (nI t1), .int (nI fm)]) (rest := []) hf (sl_span _ _ _ _ _ _ _ _ pr pcs spr nwh cp pa ea P ne EE sl t1 fm h_pr h_pcs h_pc h_es h_sl hpa hQ (by omega) (by omega) hSn _) k_1080 k_1077 k_1078 k_1079 k_97 (nA := 2) (by decide +kernel) ⟨Nat.le_of_ble_eq_true rfl, Nat.le_of_ble_eq_true rfl⟩ hK hP hD hS hA hZ hN h_sl rfl rfl rfl hl.1 rfl (Nat.le_of_ble_eq_true rfl) dX9_eighthsOf_13 ⟨(show 0 + 0 ≤ 0 by omega), (show 0 + 0 ≤ 0 by omega)⟩) (Nat.le_refl _) (Nat.le_refl _) (fun r H locs hw hP hD hS => ?_)
  obtain rfl := hw
  refine lv_istore_n (lv' := [(3, .int (nI ((pspan EE P fm - pspan EE P t1)))), (0, .ref dk), (1, .int (nI fm)), (2, .int (nI to_))]) hx hb dX9_eighthsOf_16 rfl hl (by decide) rfl (fun ls hl => ?_)
  refine lv_iload_n hx hb dX9_eighthsOf_17 rfl (lv_at hl 0 rfl) ?_
  refine lv_aload_n hx hb dX9_eighthsOf_18 rfl (lv_at hl 1 rfl) ?_
  refine o_get (D := D) (ci := 10) (v := .ref sl) (C := RX9) (T := TX9) (N := 12) hx hb hts inX9 hown hK hP h_dk rfl 8 (by decide) (hts _ k_437) (fun _ h9 => h9) rfl dX9_eighthsOf_19 ?_
  refine lv_iload_n hx hb dX9_eighthsOf_22 rfl (lv_at hl 2 rfl) ?_
  refine lv_iload_n hx hb dX9_eighthsOf_23 rfl (lv_at hl 3 rfl) ?_
  refine o_cis (k := 0) (n := 0) hK hP hD hS hA (o_rV (As := [.int (nI fm), .int (nI to_)]) (rest := [.int (nI ((pspan EE P fm - pspan EE P t1)))]) hf (sl_span _ _ _ _ _ _ _ _ pr pcs spr nwh cp pa ea P ne EE sl fm to_ h_pr h_pcs h_pc h_es h_sl hpa hQ (by omega) (by omega) hSn _) k_1080 k_1077 k_1078 k_1079 k_97 (nA := 2) (by decide +kernel) ⟨Nat.le_of_ble_eq_true rfl, Nat.le_of_ble_eq_true rfl⟩ hK hP hD hS hA hZ hN h_sl rfl rfl rfl hl.1 rfl (Nat.le_of_ble_eq_true rfl) dX9_eighthsOf_24 ⟨(show 0 + 0 ≤ 0 by omega), (show 0 + 0 ≤ 0 by omega)⟩) (Nat.le_refl _) (Nat.le_refl _) (fun r H locs hw hP hD hS => ?_)
  obtain rfl := hw
  refine lv_iadd hx hb dX9_eighthsOf_27 ?_
  refine q_seti (y := nI (pspan EE P to_ - pspan EE P t1)) (nI_addE (a := (pspan EE P fm - pspan EE P t1)) (b := (pspan EE P to_ - pspan EE P fm)) (by omega)) ?_
  refine lv_istore (lv' := [(4, .int (nI (pspan EE P to_ - pspan EE P t1))), (3, .int (nI ((pspan EE P fm - pspan EE P t1)))), (0, .ref dk), (1, .int (nI fm)), (2, .int (nI to_))]) hx hb dX9_eighthsOf_28 hl (by decide) rfl (fun ls hl => ?_)
  refine lv_aload_n hx hb dX9_eighthsOf_30 rfl (lv_at hl 2 rfl) ?_
  refine lv_iload hx hb dX9_eighthsOf_31 (lv_at hl 0 rfl) ?_
  refine o_cis (k := 0) (n := 0) hK hP hD hS hA (o_rV (As := [.int (nI (pspan EE P to_ - pspan EE P t1))]) (rest := []) hf (d_e8r _ _ _ _ _ _ _ _ dk tp rd els reo nob bk gl mo pr pcs spr nwh cp pa ea P ne EE sl v10 v11 (pspan EE P to_ - pspan EE P t1) h_dk hmo1 hmo (by omega) _) k_1089 k_1086 k_1088 k_41 k_84 (nA := 1) (by decide +kernel) ⟨Nat.le_of_ble_eq_true rfl, Nat.le_of_ble_eq_true rfl⟩ hK hP hD hS hA hZ hN h_dk rfl rfl rfl hl.1 rfl (Nat.le_of_ble_eq_true rfl) dX9_eighthsOf_33 ⟨(show 0 + 0 ≤ 0 by omega), (show 0 + 0 ≤ 0 by omega)⟩) (Nat.le_refl _) (Nat.le_refl _) (fun r H locs hw hP hD hS => ?_)
  obtain rfl := hw
  refine lv_aload_n hx hb dX9_eighthsOf_36 rfl (lv_at hl 2 rfl) ?_
  refine lv_iload_n hx hb dX9_eighthsOf_37 rfl (lv_at hl 1 rfl) ?_
  refine o_cis (k := 0) (n := 0) hK hP hD hS hA (o_rV (As := [.int (nI ((pspan EE P fm - pspan EE P t1)))]) (rest := [.int (nI (8 * (pspan EE P to_ - pspan EE P t1) / mo))]) hf (d_e8r _ _ _ _ _ _ _ _ dk tp rd els reo nob bk gl mo pr pcs spr nwh cp pa ea P ne EE sl v10 v11 ((pspan EE P fm - pspan EE P t1)) h_dk hmo1 hmo (by omega) _) k_1089 k_1086 k_1088 k_41 k_84 (nA := 1) (by decide +kernel) ⟨Nat.le_of_ble_eq_true rfl, Nat.le_of_ble_eq_true rfl⟩ hK hP hD hS hA hZ hN h_dk rfl rfl rfl hl.1 rfl (Nat.le_of_ble_eq_true rfl) dX9_eighthsOf_38 ⟨(show 0 + 0 ≤ 0 by omega), (show 0 + 0 ≤ 0 by omega)⟩) (Nat.le_refl _) (Nat.le_refl _) (fun r H locs hw hP hD hS => ?_)
  obtain rfl := hw
  refine lv_isub hx hb dX9_eighthsOf_41 ?_
  exact o_ri hf hr rfl hlocks hK hP hD hS (show 0 ≤ 0 by omega) (show 0 ≤ 0 by omega) ⟨⟨t1, ht1, rfl⟩, rfl, rfl⟩ dX9_eighthsOf_42
set_option maxHeartbeats 1000000 in
set_option maxRecDepth 100000 in
theorem d_scene2 (l : Launch) (D : va_G) (z : Nat → Nat) (cB cI_ cO : ClassId) (L0 : List Nat) (g0 : hG) (dk tp rd els reo nob bk gl mo : Nat) (pr pcs spr nwh cp : Nat) (pa : List Nat) (ea : Nat → Nat) (P : List Q4) (ne : Nat) (EE : Nat → E5) (sl : Nat) (v10 v11 : Int32) (x1 x2 : Int32) (h_dk : ho L0 g0 dk 1 (.inr (10, [.ref tp, .ref rd, .ref els, .ref reo, .ref nob, .ref pr, .ref bk, .ref gl, .ref sl, .int (nI mo), .int v10, .int v11]))) (h_pr : ho L0 g0 pr 13 (.inr (7, [.ref pcs, .ref spr, .ref nwh]))) (h_pcs : alR cO (z 0) 14 15 L0 g0 pcs cp pa) (h_pc : pcR L0 g0 ea pa P) (h_es : esR cB cI_ L0 g0 ea ne EE) (h_sl : ho L0 g0 sl 29 (.inr (8, [.ref pr]))) (hmo1 : 10 ≤ mo) (hmo : mo ≤ 40) (hpa : pa.length ≤ 20000) (hQ : pq_ok ne EE P) (hSn : qS P pa.length ≤ 8000) : eIs l D yX9_scene cX9_scene 5 (some .int) 10 264 0 0 [.ref dk, .int x1, .int x2] z cB cI_ cO L0 g0 (fun r => ((¬ (∃ s : Nat, s < pcnt (bgq EE P 0) pa.length ∧ x1 = nI s) ∧ r = (-2)) ∨ ∃ ss fm to_ : Nat, (ss < pcnt (bgq EE P 0) pa.length ∧ x1 = nI ss) ∧ (bgs EE P pa.length ss fm ∧ bgs EE P pa.length (ss + 1) to_) ∧ (((x2 < 0 ∨ 4 < x2) ∧ r = (-2)) ∨ (x2 = 0 ∧ r = (EE (P.getD fm d4).1).2.1) ∨ (x2 = 1 ∧ r = nI (pcnt (nwq EE P fm) to_ - pcnt (nwq EE P fm) fm)) ∨ (x2 = 2 ∧ r = nI (pspan EE P to_ - pspan EE P fm)) ∨ (x2 = 3 ∧ ∃ b0, bgs EE P pa.length 0 b0 ∧ r = nI (8 * (pspan EE P to_ - pspan EE P b0) / mo) - nI (8 * (pspan EE P fm - pspan EE P b0) / mo)) ∨ (x2 = 4 ∧ r = nI (pcnt (begq P) to_ - pcnt (begq P) fm))))) := by
  refine o_si (by decide) (Nat.le_of_ble_eq_true rfl) ?_
  intro p e s m below meth c A ls hf hr hlocks hin hK hP hD hS hA hZ hN hl
  obtain ⟨hx, hb, hml, hown, hts⟩ := id hf
  have hl : lv_has ls 5 [(0, .ref dk), (1, .int x1), (2, .int x2)] := hl
  refine lv_iload_n hx hb dX9_scene_0 rfl (lv_at hl 1 rfl) ?_
  refine lv_if_lt (tgt := 15) hx hb dX9_scene_1 (by decide) (fun c_1 => ?_) (fun c_1 => ?_)
  · refine lv_bipush (v := (-2)) hx hb dX9_scene_15 (by decide) ?_
    exact o_ri hf hr rfl hlocks hK hP hD hS (show 0 ≤ 0 by omega) (show 0 ≤ 0 by omega) ⟨Or.inl ⟨ix_no1 (by have := pcnt_le (bgq EE P 0) pa.length; omega) c_1, rfl⟩, rfl, rfl⟩ dX9_scene_17
  · refine lv_iload_n hx hb dX9_scene_4 rfl (lv_at hl 1 rfl) ?_
    refine lv_aload_n hx hb dX9_scene_5 rfl (lv_at hl 0 rfl) ?_
    refine o_get (D := D) (ci := 10) (v := .ref sl) (C := RX9) (T := TX9) (N := 12) hx hb hts inX9 hown hK hP h_dk rfl 8 (by decide) (hts _ k_437) (fun _ h9 => h9) rfl dX9_scene_6 ?_
    refine o_cis (k := 0) (n := 0) hK hP hD hS hA (o_rV (As := []) (rest := [.int x1]) hf (sl_count _ _ _ _ _ _ _ _ pr pcs spr nwh cp pa ea P ne EE sl h_pr h_pcs h_pc h_es h_sl hpa hQ _) k_1045 k_1042 k_1043 k_1044 k_97 (nA := 0) (by decide +kernel) ⟨Nat.le_of_ble_eq_true rfl, Nat.le_of_ble_eq_true rfl⟩ hK hP hD hS hA hZ hN h_sl rfl rfl rfl hl.1 rfl (Nat.le_of_ble_eq_true rfl) dX9_scene_9 ⟨(show 0 + 0 ≤ 0 by omega), (show 0 + 0 ≤ 0 by omega)⟩) (Nat.le_refl _) (Nat.le_refl _) (fun r H locs hw hP hD hS => ?_)
    obtain rfl := hw
    refine lv_icmp_lt (tgt := 18) hx hb dX9_scene_12 (by decide) (fun c_2 => ?_) (fun c_2 => ?_)
    · have hpl9 := pcnt_le (bgq EE P 0) pa.length
      obtain ⟨ss, hss, rfl⟩ := ix_lt (by omega) c_1 c_2
      have hl : lv_has ls 5 [(0, .ref dk), (1, .int (nI ss)), (2, .int x2)] := hl
      refine lv_aload_n hx hb dX9_scene_18 rfl (lv_at hl 0 rfl) ?_
      refine o_get (D := D) (ci := 10) (v := .ref sl) (C := RX9) (T := TX9) (N := 12) hx hb hts inX9 hown hK hP h_dk rfl 8 (by decide) (hts _ k_437) (fun _ h9 => h9) rfl dX9_scene_19 ?_
      refine lv_iload_n hx hb dX9_scene_22 rfl (lv_at hl 1 rfl) ?_
      refine o_cis (k := 0) (n := 0) hK hP hD hS hA (o_rV (As := [.int (nI ss)]) (rest := []) hf (sl_begin2 _ _ _ _ _ _ _ _ pr pcs spr nwh cp pa ea P ne EE sl ss h_pr h_pcs h_pc h_es h_sl hpa hQ (by omega) _) k_1060 k_1057 k_1058 k_1059 k_97 (nA := 1) (by decide +kernel) ⟨Nat.le_of_ble_eq_true rfl, Nat.le_of_ble_eq_true rfl⟩ hK hP hD hS hA hZ hN h_sl rfl rfl rfl hl.1 rfl (Nat.le_of_ble_eq_true rfl) dX9_scene_23 ⟨(show 0 + 0 ≤ 0 by omega), (show 0 + 0 ≤ 0 by omega)⟩) (Nat.le_refl _) (Nat.le_refl _) (fun r H locs hw hP hD hS => ?_)
      obtain ⟨t3, rfl, ht3⟩ := hw
      have hlt3 := bgs_le ht3
      have hk1 := bgs_in ht3 (show ss < pcnt (bgq EE P 0) pa.length by omega)
      refine lv_istore_n (lv' := [(3, .int (nI t3)), (0, .ref dk), (1, .int (nI ss)), (2, .int x2)]) hx hb dX9_scene_26 rfl hl (by decide) rfl (fun ls hl => ?_)
      refine lv_aload_n hx hb dX9_scene_27 rfl (lv_at hl 1 rfl) ?_
      refine o_get (D := D) (ci := 10) (v := .ref sl) (C := RX9) (T := TX9) (N := 12) hx hb hts inX9 hown hK hP h_dk rfl 8 (by decide) (hts _ k_437) (fun _ h9 => h9) rfl dX9_scene_28 ?_
      refine lv_iload_n hx hb dX9_scene_31 rfl (lv_at hl 2 rfl) ?_
      refine lv_iconst (v := 1) hx hb dX9_scene_32 (by decide) ?_
      refine lv_iadd hx hb dX9_scene_33 ?_
      refine q_seti (y := nI (ss + 1)) (nI_addE (a := ss) (b := 1) (by omega)) ?_
      refine o_cis (k := 0) (n := 0) hK hP hD hS hA (o_rV (As := [.int (nI (ss + 1))]) (rest := []) hf (sl_begin2 _ _ _ _ _ _ _ _ pr pcs spr nwh cp pa ea P ne EE sl (ss + 1) h_pr h_pcs h_pc h_es h_sl hpa hQ (by omega) _) k_1060 k_1057 k_1058 k_1059 k_97 (nA := 1) (by decide +kernel) ⟨Nat.le_of_ble_eq_true rfl, Nat.le_of_ble_eq_true rfl⟩ hK hP hD hS hA hZ hN h_sl rfl rfl rfl hl.1 rfl (Nat.le_of_ble_eq_true rfl) dX9_scene_34 ⟨(show 0 + 0 ≤ 0 by omega), (show 0 + 0 ≤ 0 by omega)⟩) (Nat.le_refl _) (Nat.le_refl _) (fun r H locs hw hP hD hS => ?_)
      obtain ⟨t4, rfl, ht4⟩ := hw
      have hlt4 := bgs_le ht4
      have hk2 := bgs_mo ht3 ht4 (show ss < ss + 1 by omega) hk1
      refine lv_istore (lv' := [(4, .int (nI t4)), (3, .int (nI t3)), (0, .ref dk), (1, .int (nI ss)), (2, .int x2)]) hx hb dX9_scene_37 hl (by decide) rfl (fun ls hl => ?_)
      refine lv_iload_n hx hb dX9_scene_39 rfl (lv_at hl 4 rfl) ?_
      rcases q_sw_0_4 x2 with c_5 | c_5 | c_5 | c_5 | c_5 | c_5
      · refine q_seti (y := 0) c_5 ?_
        refine lv_tableIn (off := 36) (tgt := 76) hx hb dX9_scene_40 (by decide) (by decide) (by decide) (by decide) ?_
        refine lv_aload_n hx hb dX9_scene_76 rfl (lv_at hl 2 rfl) ?_
        refine o_get (D := D) (ci := 10) (v := .ref pr) (C := RX9) (T := TX9) (N := 12) hx hb hts inX9 hown hK hP h_dk rfl 5 (by decide) (hts _ k_434) (fun _ h9 => h9) rfl dX9_scene_77 ?_
        refine lv_iload_n hx hb dX9_scene_80 rfl (lv_at hl 1 rfl) ?_
        refine o_crs (k := 0) (n := 0) hK hP hD hS hA (o_rV (As := [.int (nI t3)]) (rest := []) hf (p_atI _ _ _ _ _ _ _ _ pr pcs spr nwh cp pa ea P t3 h_pr h_pcs h_pc hpa (by omega) _) k_775 k_945 k_773 k_774 k_92 (nA := 1) (by decide +kernel) ⟨Nat.le_of_ble_eq_true rfl, Nat.le_of_ble_eq_true rfl⟩ hK hP hD hS hA hZ hN h_pr rfl rfl rfl hl.1 rfl (Nat.le_of_ble_eq_true rfl) dX9_scene_81 ⟨(show 0 + 0 ≤ 0 by omega), (show 0 + 0 ≤ 0 by omega)⟩) (Nat.le_refl _) (Nat.le_refl _) (fun r H locs hw hP hD hS => ?_)
        obtain rfl := hw
        have h_p6 := h_pc.2 t3 (by omega)
        have hpl_ := h_pc.1
        have hq_p6 := hQ t3 (by omega)
        have hr_p6 := h_es.rb hq_p6.1
        refine o_get (D := D) (ci := 6) (v := .ref (ea (P.getD t3 d4).1)) (C := RX5) (T := TX5) (N := 4) hx hb hts inX5 hown hK hP h_p6 rfl 0 (by decide) (hts _ k_282) (fun _ h9 => h9) rfl dX9_scene_84 ?_
        obtain ⟨tx6, rf6, rt6, h_e6⟩ := h_es.ob hq_p6.1
        refine o_get (D := D) (ci := 2) (v := .int ((EE (P.getD t3 d4).1).2.1)) (C := RX1) (T := TX1) (N := 9) hx hb hts inX1 hown hK hP h_e6 rfl 1 (by decide) (hts _ k_234) (fun _ h9 => h9) rfl dX9_scene_87 ?_
        exact o_ri hf hr rfl hlocks hK hP hD hS (show 0 ≤ 0 by omega) (show 0 ≤ 0 by omega) ⟨Or.inr ⟨ss, t3, t4, ⟨hss, rfl⟩, ⟨ht3, ht4⟩, Or.inr (Or.inl ⟨c_5, rfl⟩)⟩, rfl, rfl⟩ dX9_scene_90
      · refine q_seti (y := 1) c_5 ?_
        refine lv_tableIn (off := 51) (tgt := 91) hx hb dX9_scene_40 (by decide) (by decide) (by decide) (by decide) ?_
        refine lv_aload_n hx hb dX9_scene_91 rfl (lv_at hl 2 rfl) ?_
        refine o_get (D := D) (ci := 10) (v := .ref sl) (C := RX9) (T := TX9) (N := 12) hx hb hts inX9 hown hK hP h_dk rfl 8 (by decide) (hts _ k_437) (fun _ h9 => h9) rfl dX9_scene_92 ?_
        refine lv_iload_n hx hb dX9_scene_95 rfl (lv_at hl 1 rfl) ?_
        refine lv_iload hx hb dX9_scene_96 (lv_at hl 0 rfl) ?_
        refine o_cis (k := 0) (n := 0) hK hP hD hS hA (o_rV (As := [.int (nI t3), .int (nI t4)]) (rest := []) hf (sl_people _ _ _ _ _ _ _ _ pr pcs spr nwh cp pa ea P ne EE sl t3 t4 h_pr h_pcs h_pc h_es h_sl hpa hQ (by omega) (by omega) _) k_1064 k_1061 k_1062 k_1063 k_97 (nA := 2) (by decide +kernel) ⟨Nat.le_of_ble_eq_true rfl, Nat.le_of_ble_eq_true rfl⟩ hK hP hD hS hA hZ hN h_sl rfl rfl rfl hl.1 rfl (Nat.le_of_ble_eq_true rfl) dX9_scene_98 ⟨(show 0 + 0 ≤ 0 by omega), (show 0 + 0 ≤ 0 by omega)⟩) (Nat.le_refl _) (Nat.le_refl _) (fun r H locs hw hP hD hS => ?_)
        obtain rfl := hw
        exact o_ri hf hr rfl hlocks hK hP hD hS (show 0 ≤ 0 by omega) (show 0 ≤ 0 by omega) ⟨Or.inr ⟨ss, t3, t4, ⟨hss, rfl⟩, ⟨ht3, ht4⟩, Or.inr (Or.inr (Or.inl ⟨c_5, rfl⟩))⟩, rfl, rfl⟩ dX9_scene_101
      · refine q_seti (y := 2) c_5 ?_
        refine lv_tableIn (off := 62) (tgt := 102) hx hb dX9_scene_40 (by decide) (by decide) (by decide) (by decide) ?_
        refine lv_aload_n hx hb dX9_scene_102 rfl (lv_at hl 2 rfl) ?_
        refine o_get (D := D) (ci := 10) (v := .ref sl) (C := RX9) (T := TX9) (N := 12) hx hb hts inX9 hown hK hP h_dk rfl 8 (by decide) (hts _ k_437) (fun _ h9 => h9) rfl dX9_scene_103 ?_
        refine lv_iload_n hx hb dX9_scene_106 rfl (lv_at hl 1 rfl) ?_
        refine lv_iload hx hb dX9_scene_107 (lv_at hl 0 rfl) ?_
        refine o_cis (k := 0) (n := 0) hK hP hD hS hA (o_rV (As := [.int (nI t3), .int (nI t4)]) (rest := []) hf (sl_span _ _ _ _ _ _ _ _ pr pcs spr nwh cp pa ea P ne EE sl t3 t4 h_pr h_pcs h_pc h_es h_sl hpa hQ (by omega) (by omega) hSn _) k_1080 k_1077 k_1078 k_1079 k_97 (nA := 2) (by decide +kernel) ⟨Nat.le_of_ble_eq_true rfl, Nat.le_of_ble_eq_true rfl⟩ hK hP hD hS hA hZ hN h_sl rfl rfl rfl hl.1 rfl (Nat.le_of_ble_eq_true rfl) dX9_scene_109 ⟨(show 0 + 0 ≤ 0 by omega), (show 0 + 0 ≤ 0 by omega)⟩) (Nat.le_refl _) (Nat.le_refl _) (fun r H locs hw hP hD hS => ?_)
        obtain rfl := hw
        exact o_ri hf hr rfl hlocks hK hP hD hS (show 0 ≤ 0 by omega) (show 0 ≤ 0 by omega) ⟨Or.inr ⟨ss, t3, t4, ⟨hss, rfl⟩, ⟨ht3, ht4⟩, Or.inr (Or.inr (Or.inr (Or.inl ⟨c_5, rfl⟩)))⟩, rfl, rfl⟩ dX9_scene_112
      · refine q_seti (y := 3) c_5 ?_
        refine lv_tableIn (off := 73) (tgt := 113) hx hb dX9_scene_40 (by decide) (by decide) (by decide) (by decide) ?_
        refine lv_aload_n hx hb dX9_scene_113 rfl (lv_at hl 2 rfl) ?_
        refine lv_iload_n hx hb dX9_scene_114 rfl (lv_at hl 1 rfl) ?_
        refine lv_iload hx hb dX9_scene_115 (lv_at hl 0 rfl) ?_
        refine o_cis (k := 0) (n := 0) hK hP hD hS hA (o_rV (As := [.int (nI t3), .int (nI t4)]) (rest := []) hf (d_e82 _ _ _ _ _ _ _ _ dk tp rd els reo nob bk gl mo pr pcs spr nwh cp pa ea P ne EE sl v10 v11 t3 t4 ss h_dk h_pr h_pcs h_pc h_es h_sl hmo1 hmo hpa hQ (by omega) (by omega) hSn ht3 hss _) k_1085 k_1082 k_1084 k_40 k_84 (nA := 2) (by decide +kernel) ⟨Nat.le_of_ble_eq_true rfl, Nat.le_of_ble_eq_true rfl⟩ hK hP hD hS hA hZ hN h_dk rfl rfl rfl hl.1 rfl (Nat.le_of_ble_eq_true rfl) dX9_scene_117 ⟨(show 0 + 0 ≤ 0 by omega), (show 0 + 0 ≤ 0 by omega)⟩) (Nat.le_refl _) (Nat.le_refl _) (fun r H locs hw hP hD hS => ?_)
        obtain ⟨b0, hb0, hr8⟩ := hw
        exact o_ri hf hr rfl hlocks hK hP hD hS (show 0 ≤ 0 by omega) (show 0 ≤ 0 by omega) ⟨Or.inr ⟨ss, t3, t4, ⟨hss, rfl⟩, ⟨ht3, ht4⟩, Or.inr (Or.inr (Or.inr (Or.inr (Or.inl ⟨c_5, b0, hb0, hr8⟩))))⟩, rfl, rfl⟩ dX9_scene_120
      · refine q_seti (y := 4) c_5 ?_
        refine lv_tableIn (off := 81) (tgt := 121) hx hb dX9_scene_40 (by decide) (by decide) (by decide) (by decide) ?_
        refine lv_aload_n hx hb dX9_scene_121 rfl (lv_at hl 2 rfl) ?_
        refine o_get (D := D) (ci := 10) (v := .ref sl) (C := RX9) (T := TX9) (N := 12) hx hb hts inX9 hown hK hP h_dk rfl 8 (by decide) (hts _ k_437) (fun _ h9 => h9) rfl dX9_scene_122 ?_
        refine lv_iload_n hx hb dX9_scene_125 rfl (lv_at hl 1 rfl) ?_
        refine lv_iload hx hb dX9_scene_126 (lv_at hl 0 rfl) ?_
        refine o_cis (k := 0) (n := 0) hK hP hD hS hA (o_rV (As := [.int (nI t3), .int (nI t4)]) (rest := []) hf (sl_elin _ _ _ _ _ _ _ _ pr pcs spr nwh cp pa ea P ne EE sl t3 t4 h_pr h_pcs h_pc h_es h_sl hpa hQ (by omega) (by omega) _) k_1093 k_1090 k_1091 k_1092 k_97 (nA := 2) (by decide +kernel) ⟨Nat.le_of_ble_eq_true rfl, Nat.le_of_ble_eq_true rfl⟩ hK hP hD hS hA hZ hN h_sl rfl rfl rfl hl.1 rfl (Nat.le_of_ble_eq_true rfl) dX9_scene_128 ⟨(show 0 + 0 ≤ 0 by omega), (show 0 + 0 ≤ 0 by omega)⟩) (Nat.le_refl _) (Nat.le_refl _) (fun r H locs hw hP hD hS => ?_)
        obtain rfl := hw
        exact o_ri hf hr rfl hlocks hK hP hD hS (show 0 ≤ 0 by omega) (show 0 ≤ 0 by omega) ⟨Or.inr ⟨ss, t3, t4, ⟨hss, rfl⟩, ⟨ht3, ht4⟩, Or.inr (Or.inr (Or.inr (Or.inr (Or.inr ⟨c_5, rfl⟩))))⟩, rfl, rfl⟩ dX9_scene_131
      · refine lv_tableOut (tgt := 132) hx hb dX9_scene_40 c_5 (by decide) ?_
        refine lv_bipush (v := (-2)) hx hb dX9_scene_132 (by decide) ?_
        exact o_ri hf hr rfl hlocks hK hP hD hS (show 0 ≤ 0 by omega) (show 0 ≤ 0 by omega) ⟨Or.inr ⟨ss, t3, t4, ⟨hss, rfl⟩, ⟨ht3, ht4⟩, Or.inl ⟨sw_o4 c_5, rfl⟩⟩, rfl, rfl⟩ dX9_scene_134
    · refine lv_bipush (v := (-2)) hx hb dX9_scene_15 (by decide) ?_
      exact o_ri hf hr rfl hlocks hK hP hD hS (show 0 ≤ 0 by omega) (show 0 ≤ 0 by omega) ⟨Or.inl ⟨ix_no2 (by have := pcnt_le (bgq EE P 0) pa.length; omega) c_2, rfl⟩, rfl, rfl⟩ dX9_scene_17
