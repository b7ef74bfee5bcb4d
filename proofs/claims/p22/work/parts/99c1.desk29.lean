theorem dX9_insert_51 : decode cX9_insert 51 = .ok (.bipush (-3), 2) := by decide +kernel
theorem dX9_insert_53 : decode cX9_insert 53 = .ok (.ireturn, 1) := by decide +kernel
theorem dX9_insert_66 : decode cX9_insert 66 = .ok (.bipush (-4), 2) := by decide +kernel
theorem dX9_insert_68 : decode cX9_insert 68 = .ok (.ireturn, 1) := by decide +kernel
set_option maxHeartbeats 1000000 in
set_option maxRecDepth 100000 in
theorem d_insR (l : Launch) (D : va_G) (z : Nat → Nat) (cB cI_ cO : ClassId) (L0 : List Nat) (g0 : hG) (dk tp rd els reo nob pr bk gl sl mo : Nat) (v11 : Int32) (cap : Nat) (xs : List Nat) (Es : List E5) (lk j by_ n : Nat) (T : Nat → Int32) (kd : Int32) (h_dk : ho L0 g0 dk 1 (.inr (10, [.ref tp, .ref rd, .ref els, .ref reo, .ref nob, .ref pr, .ref bk, .ref gl, .ref sl, .int (nI mo), .int (nI lk), .int v11]))) (h_els : alR cO (z 0) 5 6 L0 g0 els cap xs) (h_es : elsR cB cI_ L0 g0 xs Es) (h_tp : ho L0 g0 tp 2 (.inr (9, [.ref by_, .int (nI n)]))) (h_by : ho L0 g0 by_ 3 (.inl (cB, 1200, .inl T))) (hxl : xs.length ≤ 60) (hn : n ≤ 1200) (hj : j < xs.length) (hlk : lk ≤ 1) (hbad : (kd < 0 ∨ ¬ kd < 6) ∨ lk = 0 ∨ ¬ (Es.getD j dE).2.2.1 = 0 ∨ ¬ tx_wd T n n 0 ∨ xs.length = 60) : eIs l D yX9_insert cX9_insert 7 (some .int) 4 85 0 0 [.ref dk, .int (nI j), .int kd] z cB cI_ cO L0 g0 (fun r => True) := by
  refine o_si (by decide) (Nat.le_of_ble_eq_true rfl) ?_
  intro p e s m below meth c A ls hf hr hlocks hin hK hP hD hS hA hZ hN hl
  obtain ⟨hx, hb, hml, hown, hts⟩ := id hf
  have hl : lv_has ls 7 [(0, .ref dk), (1, .int (nI j)), (2, .int kd)] := hl
  refine lv_aload_n hx hb dX9_insert_0 rfl (lv_at hl 0 rfl) ?_
  refine lv_iload_n hx hb dX9_insert_1 rfl (lv_at hl 1 rfl) ?_
  refine o_cis (k := 0) (n := 0) hK hP hD hS hA (o_rV (As := [.int (nI j)]) (rest := []) hf (d_isE1 _ _ _ _ _ _ _ _ dk tp rd els reo nob pr bk gl sl mo (nI lk) v11 cap xs Es j h_dk h_els h_es hxl (by omega) _) k_736 k_733 k_735 k_22 k_84 (nA := 1) (by decide +kernel) ⟨Nat.le_of_ble_eq_true rfl, Nat.le_of_ble_eq_true rfl⟩ hK hP hD hS hA hZ hN h_dk rfl rfl rfl hl.1 rfl (Nat.le_of_ble_eq_true rfl) dX9_insert_2 ⟨(show 0 + 0 ≤ 0 by omega), (show 0 + 0 ≤ 0 by omega)⟩) (Nat.le_refl _) (Nat.le_refl _) (fun r H locs hw hP hD hS => ?_)
  obtain rfl := hw
  refine lv_if_eq (tgt := 18) hx hb dX9_insert_5 (by decide) (fun hno => absurd hno (by decide)) (fun _ => ?_)
  refine lv_iload_n hx hb dX9_insert_8 rfl (lv_at hl 2 rfl) ?_
  refine lv_if_lt (tgt := 18) hx hb dX9_insert_9 (by decide) (fun c_1 => ?_) (fun c_1 => ?_)
  · refine lv_bipush (v := (-2)) hx hb dX9_insert_18 (by decide) ?_
    exact o_ri hf hr rfl hlocks hK hP hD hS (show 0 ≤ 0 by omega) (show 0 ≤ 0 by omega) ⟨trivial, rfl, rfl⟩ dX9_insert_20
  · refine lv_iload_n hx hb dX9_insert_12 rfl (lv_at hl 2 rfl) ?_
    refine lv_bipush (v := 6) hx hb dX9_insert_13 (by decide) ?_
    refine lv_icmp_lt (tgt := 21) hx hb dX9_insert_15 (by decide) (fun c_2 => ?_) (fun c_2 => ?_)
    · refine lv_aload_n hx hb dX9_insert_21 rfl (lv_at hl 0 rfl) ?_
      refine lv_iload_n hx hb dX9_insert_22 rfl (lv_at hl 1 rfl) ?_
      refine o_crs (k := 0) (n := 0) hK hP hD hS hA (o_rV (As := [.int (nI j)]) (rest := []) hf (d_elAt _ _ _ _ _ _ _ _ dk tp rd els reo nob pr bk gl sl mo (nI lk) v11 cap xs Es j h_dk h_els h_es hxl (by omega) _) k_740 k_737 k_739 k_23 k_84 (nA := 1) (by decide +kernel) ⟨Nat.le_of_ble_eq_true rfl, Nat.le_of_ble_eq_true rfl⟩ hK hP hD hS hA hZ hN h_dk rfl rfl rfl hl.1 rfl (Nat.le_of_ble_eq_true rfl) dX9_insert_23 ⟨(show 0 + 0 ≤ 0 by omega), (show 0 + 0 ≤ 0 by omega)⟩) (Nat.le_refl _) (Nat.le_refl _) (fun r H locs hw hP hD hS => ?_)
      obtain rfl := hw
      obtain ⟨⟨txg3, rfg3, rtg3, h_eg3⟩, hr_g3⟩ := h_es.o2 (show j < xs.length by omega)
      refine lv_astore_n (lv' := [(3, .ref (xs.getD j 0)), (0, .ref dk), (1, .int (nI j)), (2, .int kd)]) hx hb dX9_insert_26 rfl hl (by decide) rfl (fun ls hl => ?_)
      refine lv_aload_n hx hb dX9_insert_27 rfl (lv_at hl 1 rfl) ?_
      refine o_get (D := D) (ci := 10) (v := .int (nI lk)) (C := RX9) (T := TX9) (N := 12) hx hb hts inX9 hown hK hP h_dk rfl 10 (by decide) (hts _ k_439) (fun _ h9 => h9) rfl dX9_insert_28 ?_
      refine lv_if_eq (tgt := 51) hx hb dX9_insert_31 (by decide) (fun c_4 => ?_) (fun c_4 => ?_)
      · have c_4 := q_eqn (a := lk) (b := 0) (by omega) (by omega) c_4
        refine lv_bipush (v := (-3)) hx hb dX9_insert_51 (by decide) ?_
        exact o_ri hf hr rfl hlocks hK hP hD hS (show 0 ≤ 0 by omega) (show 0 ≤ 0 by omega) ⟨trivial, rfl, rfl⟩ dX9_insert_53
      · have c_4 := q_nen (a := lk) (b := 0) (by omega) (by omega) c_4
        refine lv_aload_n hx hb dX9_insert_34 rfl (lv_at hl 0 rfl) ?_
        refine o_get (D := D) (ci := 2) (v := .int ((Es.getD j dE).2.2.1)) (C := RX1) (T := TX1) (N := 9) hx hb hts inX1 hown hK hP h_eg3 rfl 2 (by decide) (hts _ k_235) (fun _ h9 => h9) rfl dX9_insert_35 ?_
        refine lv_if_ne (tgt := 51) hx hb dX9_insert_38 (by decide) (fun c_5 => ?_) (fun c_5 => ?_)
        · refine lv_bipush (v := (-3)) hx hb dX9_insert_51 (by decide) ?_
          exact o_ri hf hr rfl hlocks hK hP hD hS (show 0 ≤ 0 by omega) (show 0 ≤ 0 by omega) ⟨trivial, rfl, rfl⟩ dX9_insert_53
        · refine lv_aload_n hx hb dX9_insert_41 rfl (lv_at hl 1 rfl) ?_
          refine o_get (D := D) (ci := 10) (v := .ref tp) (C := RX9) (T := TX9) (N := 12) hx hb hts inX9 hown hK hP h_dk rfl 0 (by decide) (hts _ k_429) (fun _ h9 => h9) rfl dX9_insert_42 ?_
          refine o_cis (k := 0) (n := 0) hK hP hD hS hA (o_rV (As := []) (rest := []) hf (t_hasWord _ _ _ _ _ _ _ _ tp by_ n T h_tp h_by hn _) k_939 k_936 k_937 k_938 k_85 (nA := 0) (by decide +kernel) ⟨Nat.le_of_ble_eq_true rfl, Nat.le_of_ble_eq_true rfl⟩ hK hP hD hS hA hZ hN h_tp rfl rfl rfl hl.1 rfl (Nat.le_of_ble_eq_true rfl) dX9_insert_45 ⟨(show 0 + 0 ≤ 0 by omega), (show 0 + 0 ≤ 0 by omega)⟩) (Nat.le_refl _) (Nat.le_refl _) (fun r H locs hw hP hD hS => ?_)
          rcases hw with ⟨c_6, rfl⟩ | ⟨c_6, rfl⟩
          · have hP := hP
            refine lv_if_ne (tgt := 54) hx hb dX9_insert_48 (by decide) (fun _ => ?_) (fun hno => absurd hno (by decide))
            refine lv_aload_n hx hb dX9_insert_54 rfl (lv_at hl 1 rfl) ?_
            refine o_get (D := D) (ci := 10) (v := .ref els) (C := RX9) (T := TX9) (N := 12) hx hb hts inX9 hown hK hP h_dk rfl 2 (by decide) (hts _ k_431) (fun _ h9 => h9) rfl dX9_insert_55 ?_
            obtain ⟨mc9, d9, h_al9⟩ := h_els.al
            refine o_cis (k := 0) (n := 0) hK hP hD hS hA (o_rV (As := []) (rest := []) hf (li_size _ _ _ _ _ _ _ _ els 5 6 cap xs h_els _) k_606 k_686 k_604 k_605 k_89 (nA := 0) (by decide +kernel) ⟨Nat.le_of_ble_eq_true rfl, Nat.le_of_ble_eq_true rfl⟩ hK hP hD hS hA hZ hN h_al9 rfl rfl rfl hl.1 rfl (Nat.le_of_ble_eq_true rfl) dX9_insert_58 ⟨(show 0 + 0 ≤ 0 by omega), (show 0 + 0 ≤ 0 by omega)⟩) (Nat.le_refl _) (Nat.le_refl _) (fun r H locs hw hP hD hS => ?_)
            obtain rfl := hw
            refine lv_bipush (v := 60) hx hb dX9_insert_61 (by decide) ?_
            refine lv_icmp_lt (tgt := 69) hx hb dX9_insert_63 (by decide) (fun c_7 => ?_) (fun c_7 => ?_)
            · have c_7 := q_lt (a := xs.length) (b := 60) (by omega) (by omega) c_7
              rcases hbad with (h9 | h9) | h9 | h9 | h9 | h9
              · exact absurd h9 c_1
              · exact absurd c_2 h9
              · exact False.elim (by omega)
              · exact absurd c_5 h9
              · exact absurd c_6 h9
              · exact False.elim (by omega)
            · have c_7 := q_nlt (a := xs.length) (b := 60) (by omega) (by omega) c_7
              refine lv_bipush (v := (-4)) hx hb dX9_insert_66 (by decide) ?_
              exact o_ri hf hr rfl hlocks hK hP hD hS (show 0 ≤ 0 by omega) (show 0 ≤ 0 by omega) ⟨trivial, rfl, rfl⟩ dX9_insert_68
          · have hP := hP
            refine lv_if_ne (tgt := 54) hx hb dX9_insert_48 (by decide) (fun hno => absurd hno (by decide)) (fun _ => ?_)
            refine lv_bipush (v := (-3)) hx hb dX9_insert_51 (by decide) ?_
            exact o_ri hf hr rfl hlocks hK hP hD hS (show 0 ≤ 0 by omega) (show 0 ≤ 0 by omega) ⟨trivial, rfl, rfl⟩ dX9_insert_53
    · refine lv_bipush (v := (-2)) hx hb dX9_insert_18 (by decide) ?_
      exact o_ri hf hr rfl hlocks hK hP hD hS (show 0 ≤ 0 by omega) (show 0 ≤ 0 by omega) ⟨trivial, rfl, rfl⟩ dX9_insert_20
set_option maxHeartbeats 1000000 in
set_option maxRecDepth 100000 in
theorem d_sheetC (l : Launch) (D : va_G) (z : Nat → Nat) (cB cI_ cO : ClassId) (L0 : List Nat) (g0 : hG) (dk tp rd els reo nob pr bk gl sl mo gs : Nat) (i1 i2 i3 : Int32) (h_dk : ho L0 g0 dk 1 (.inr (10, [.ref tp, .ref rd, .ref els, .ref reo, .ref nob, .ref pr, .ref bk, .ref gl, .ref sl, .int (nI mo), .int 1, .int (nI gs)]))) (hxx : i3 < 0 ∨ 3 < i3 ∨ i2 < 0) : eIs l D yX9_sheet cX9_sheet 4 (some .int) 0 0 0 0 [.ref dk, .int i1, .int i2, .int i3] z cB cI_ cO L0 g0 (fun r => True) := by
  refine o_si (by decide) (Nat.le_of_ble_eq_true rfl) ?_
  intro p e s m below meth c A ls hf hr hlocks hin hK hP hD hS hA hZ hN hl
  obtain ⟨hx, hb, hml, hown, hts⟩ := id hf
  have hl : lv_has ls 4 [(0, .ref dk), (1, .int i1), (2, .int i2), (3, .int i3)] := hl
  refine lv_iload_n hx hb dX9_sheet_0 rfl (lv_at hl 3 rfl) ?_
  refine lv_if_lt (tgt := 9) hx hb dX9_sheet_1 (by decide) (fun c_1 => ?_) (fun c_1 => ?_)
  · refine lv_bipush (v := (-2)) hx hb dX9_sheet_9 (by decide) ?_
    exact o_ri hf hr rfl hlocks hK hP hD hS (show 0 ≤ 0 by omega) (show 0 ≤ 0 by omega) ⟨trivial, rfl, rfl⟩ dX9_sheet_11
  · refine lv_iload_n hx hb dX9_sheet_4 rfl (lv_at hl 3 rfl) ?_
    refine lv_iconst (v := 3) hx hb dX9_sheet_5 (by decide) ?_
    refine lv_icmp_le (tgt := 12) hx hb dX9_sheet_6 (by decide) (fun c_2 => ?_) (fun c_2 => ?_)
    · refine lv_aload_n hx hb dX9_sheet_12 rfl (lv_at hl 0 rfl) ?_
      refine o_get (D := D) (ci := 10) (v := .int 1) (C := RX9) (T := TX9) (N := 12) hx hb hts inX9 hown hK hP h_dk rfl 10 (by decide) (hts _ k_439) (fun _ h9 => h9) rfl dX9_sheet_13 ?_
      refine lv_if_ne (tgt := 22) hx hb dX9_sheet_16 (by decide) (fun _ => ?_) (fun hno => absurd hno (by decide))
      refine lv_iload_n hx hb dX9_sheet_22 rfl (lv_at hl 1 rfl) ?_
      refine lv_iconst (v := 1) hx hb dX9_sheet_23 (by decide) ?_
      refine lv_icmp_lt (tgt := 39) hx hb dX9_sheet_24 (by decide) (fun c_3 => ?_) (fun c_3 => ?_)
      · refine lv_bipush (v := (-2)) hx hb dX9_sheet_39 (by decide) ?_
        exact o_ri hf hr rfl hlocks hK hP hD hS (show 0 ≤ 0 by omega) (show 0 ≤ 0 by omega) ⟨trivial, rfl, rfl⟩ dX9_sheet_41
      · refine lv_iload_n hx hb dX9_sheet_27 rfl (lv_at hl 1 rfl) ?_
        refine lv_aload_n hx hb dX9_sheet_28 rfl (lv_at hl 0 rfl) ?_
        refine o_get (D := D) (ci := 10) (v := .int (nI gs)) (C := RX9) (T := TX9) (N := 12) hx hb hts inX9 hown hK hP h_dk rfl 11 (by decide) (hts _ k_440) (fun _ h9 => h9) rfl dX9_sheet_29 ?_
        refine lv_icmp_gt (tgt := 39) hx hb dX9_sheet_32 (by decide) (fun c_4 => ?_) (fun c_4 => ?_)
        · refine lv_bipush (v := (-2)) hx hb dX9_sheet_39 (by decide) ?_
          exact o_ri hf hr rfl hlocks hK hP hD hS (show 0 ≤ 0 by omega) (show 0 ≤ 0 by omega) ⟨trivial, rfl, rfl⟩ dX9_sheet_41
        · refine lv_iload_n hx hb dX9_sheet_35 rfl (lv_at hl 2 rfl) ?_
          refine lv_if_ge (tgt := 42) hx hb dX9_sheet_36 (by decide) (fun c_5 => ?_) (fun c_5 => ?_)
          · rcases hxx with h9 | h9 | h9
            · exact absurd h9 c_1
            · exact absurd h9 (q_nlt_le c_2)
            · exact absurd h9 (q_nlt_le c_5)
          · refine lv_bipush (v := (-2)) hx hb dX9_sheet_39 (by decide) ?_
            exact o_ri hf hr rfl hlocks hK hP hD hS (show 0 ≤ 0 by omega) (show 0 ≤ 0 by omega) ⟨trivial, rfl, rfl⟩ dX9_sheet_41
    · refine lv_bipush (v := (-2)) hx hb dX9_sheet_9 (by decide) ?_
      exact o_ri hf hr rfl hlocks hK hP hD hS (show 0 ≤ 0 by omega) (show 0 ≤ 0 by omega) ⟨trivial, rfl, rfl⟩ dX9_sheet_11
set_option maxHeartbeats 1000000 in
set_option maxRecDepth 100000 in
theorem d_sheetZ (l : Launch) (D : va_G) (z : Nat → Nat) (cB cI_ cO : ClassId) (L0 : List Nat) (g0 : hG) (dk tp rd els reo nob bk sl gs : Nat) (pr pcs spr nwh cp : Nat) (pa : List Nat) (ea : Nat → Nat) (P : List Q4) (ne : Nat) (EE : Nat → E5) (nb nt nf nr gl lf ra fa la : Nat) (v5 v6 v7 v8 v9 x1 x2 x3 x4 x5 x6 : Int32) (M : Nat) (f0 f1 f2 : Nat → Int32) (mo gg fi en B : Nat) (i2 i3 : Int32) (h_dk : ho L0 g0 dk 1 (.inr (10, [.ref tp, .ref rd, .ref els, .ref reo, .ref nob, .ref pr, .ref bk, .ref gl, .ref sl, .int (nI mo), .int 1, .int (nI gs)]))) (h_pr : ho L0 g0 pr 13 (.inr (7, [.ref pcs, .ref spr, .ref nwh]))) (h_pcs : alR cO (z 0) 14 15 L0 g0 pcs cp pa) (h_pc : pcR L0 g0 ea pa P) (h_es : esR cB cI_ L0 g0 ea ne EE) (h_nwh : ho L0 g0 nwh 19 (.inr (6, [.ref nb, .int 0, .int 0, .int 0]))) (h_nob : ho L0 g0 nb 30 (.inr (2, [.int 5, .int (-1), .int 0, .ref nt, .int 0, .int 0, .ref nf, .ref nr, .int 0]))) (h_gl : ho L0 g0 gl 25 (.inr (3, [.ref pr, .ref lf, .ref ra, .ref fa, .ref la, .int v5, .int v6, .int v7, .int v8, .int v9]))) (h_lf : ho L0 g0 lf 20 (.inr (4, [.ref pr, .int x1, .int x2, .int x3, .int x4, .int x5, .int x6]))) (h_ra : ho L0 g0 ra 26 (.inl (cI_, M, .inl f0))) (h_fa : ho L0 g0 fa 27 (.inl (cI_, M, .inl f1))) (h_la : ho L0 g0 la 28 (.inl (cI_, M, .inl f2))) (hpa : pa.length ≤ 20000) (hQ : pq_ok ne EE P) (hSn : qS P pa.length ≤ 8000) (hmo1 : 10 ≤ mo) (hmo : mo ≤ 40) (hgg : gg ≤ 20000) (hG : ∀ t, t < pa.length → (P.getD t d4).2.2.2 ≤ 30000) (efi : fi = rg_first (fun t => (P.getD t d4).2.2.2) gg pa.length 0) (een : en = rg_first (fun t => (P.getD t d4).2.2.2) (gg + 1) pa.length 0) (hgF : ∀ p, fi < p → p < en → (P.getD p d4).2.1 = 0) (hgT : ∀ p, fi ≤ p → p + 1 < en → (P.getD p d4).2.2.1 = eRw (EE (P.getD p d4).1)) (hM1 : 1 ≤ M) (hB9 : B ≤ 30000) (hB2 : B = glx M 0 (gl_S EE P fi en mo)) (hgs : gs ≤ 20000) (hg1 : 1 ≤ gg) (hg2 : gg ≤ gs) (hb3 : ¬ i3 < 0) (hb4 : ¬ 3 < i3) (hb2 : ¬ i2 < 0) : eI l D yX9_sheet cX9_sheet 4 (some .int) 11 327 (3 * (B - M)) (6 * (B - M)) [.ref dk, .int (nI gg), .int i2, .int i3] z cB cI_ cO L0 g0 (fun r L g => ∃ (S2 : List I3) (ra2 fa2 la2 M2 : Nat) (k0 k1 k2 : Nat → Int32) (w7 w8 w9 u1 u2 u3 u4 u5 u6 : Int32), True ∧ S2 = gl_S EE P fi en mo ∧ sh_is S2 k0 k1 k2 ∧ (S2.length ≤ M2 ∧ M2 = B ∧ 1 ≤ M2) ∧ fr [20, 25, 26, 27, 28] L0 g0 L g ∧ ho L g gl 25 (.inr (3, [.ref pr, .ref lf, .ref ra2, .ref fa2, .ref la2, .int (nI (S2.length)), .int (nI en), .int w7, .int w8, .int w9])) ∧ ho L g lf 20 (.inr (4, [.ref pr, .int u1, .int u2, .int u3, .int u4, .int u5, .int u6])) ∧ ho L g ra2 26 (.inl (cI_, M2, .inl k0)) ∧ ho L g fa2 27 (.inl (cI_, M2, .inl k1)) ∧ ho L g la2 28 (.inl (cI_, M2, .inl k2))) := by
  refine o_si (by decide) (Nat.le_of_ble_eq_true rfl) ?_
  intro p e s m below meth c A ls hf hr hlocks hin hK hP hD hS hA hZ hN hl
  obtain ⟨hx, hb, hml, hown, hts⟩ := id hf
  have hl : lv_has ls 4 [(0, .ref dk), (1, .int (nI gg)), (2, .int i2), (3, .int i3)] := hl
  have hfr : fr [20, 25, 26, 27, 28] L0 g0 L0 g0 := fr.rf
  refine lv_iload_n hx hb dX9_sheet_0 rfl (lv_at hl 3 rfl) ?_
  refine lv_if_lt (tgt := 9) hx hb dX9_sheet_1 (by decide) (fun c_1 => ?_) (fun c_1 => ?_)
  · exact absurd c_1 hb3
  · refine lv_iload_n hx hb dX9_sheet_4 rfl (lv_at hl 3 rfl) ?_
    refine lv_iconst (v := 3) hx hb dX9_sheet_5 (by decide) ?_
    refine lv_icmp_le (tgt := 12) hx hb dX9_sheet_6 (by decide) (fun c_2 => ?_) (fun c_2 => ?_)
    · refine lv_aload_n hx hb dX9_sheet_12 rfl (lv_at hl 0 rfl) ?_
      refine o_get (D := D) (ci := 10) (v := .int 1) (C := RX9) (T := TX9) (N := 12) hx hb hts inX9 hown hK hP h_dk rfl 10 (by decide) (hts _ k_439) (fun _ h9 => h9) rfl dX9_sheet_13 ?_
      refine lv_if_ne (tgt := 22) hx hb dX9_sheet_16 (by decide) (fun _ => ?_) (fun hno => absurd hno (by decide))
      refine lv_iload_n hx hb dX9_sheet_22 rfl (lv_at hl 1 rfl) ?_
      refine lv_iconst (v := 1) hx hb dX9_sheet_23 (by decide) ?_
      refine lv_icmp_lt (tgt := 39) hx hb dX9_sheet_24 (by decide) (fun c_3 => ?_) (fun c_3 => ?_)
      · have c_3 := q_lt (a := gg) (b := 1) (by omega) (by omega) c_3
        exact False.elim (by omega)
      · have c_3 := q_nlt (a := gg) (b := 1) (by omega) (by omega) c_3
        refine lv_iload_n hx hb dX9_sheet_27 rfl (lv_at hl 1 rfl) ?_
        refine lv_aload_n hx hb dX9_sheet_28 rfl (lv_at hl 0 rfl) ?_
        refine o_get (D := D) (ci := 10) (v := .int (nI gs)) (C := RX9) (T := TX9) (N := 12) hx hb hts inX9 hown hK hP h_dk rfl 11 (by decide) (hts _ k_440) (fun _ h9 => h9) rfl dX9_sheet_29 ?_
        refine lv_icmp_gt (tgt := 39) hx hb dX9_sheet_32 (by decide) (fun c_4 => ?_) (fun c_4 => ?_)
        · have c_4 := q_lt (a := gs) (b := gg) (by omega) (by omega) c_4
          exact False.elim (by omega)
        · have c_4 := q_nlt (a := gs) (b := gg) (by omega) (by omega) c_4
          refine lv_iload_n hx hb dX9_sheet_35 rfl (lv_at hl 2 rfl) ?_
          refine lv_if_ge (tgt := 42) hx hb dX9_sheet_36 (by decide) (fun c_5 => ?_) (fun c_5 => ?_)
          · have hplm := h_pc.1
            have heb := rg_first_le (fun t => (P.getD t d4).2.2.2) (gg + 1) pa.length 0
            rw [← een] at heb
            refine lv_aload_n hx hb dX9_sheet_42 rfl (lv_at hl 0 rfl) ?_
            refine o_get (D := D) (ci := 10) (v := .ref gl) (C := RX9) (T := TX9) (N := 12) hx hb hts inX9 hown hK hP h_dk rfl 7 (by decide) (hts _ k_436) (fun _ h9 => h9) rfl dX9_sheet_43 ?_
            refine lv_iload_n hx hb dX9_sheet_46 rfl (lv_at hl 1 rfl) ?_
            refine lv_aload_n hx hb dX9_sheet_47 rfl (lv_at hl 0 rfl) ?_
            refine o_get (D := D) (ci := 10) (v := .int (nI mo)) (C := RX9) (T := TX9) (N := 12) hx hb hts inX9 hown hK hP h_dk rfl 9 (by decide) (hts _ k_438) (fun _ h9 => h9) rfl dX9_sheet_48 ?_
            refine o_cv (k := 0 + (3 * (B - M))) (n := 0 + (6 * (B - M))) hK hP hD hS hA (o_rV (As := [.int (nI gg), .int (nI mo)]) (rest := []) hf (gl_lay _ _ _ _ _ _ _ _ pr pcs spr nwh cp pa ea P ne EE nb gl lf ra fa la v5 v6 v7 v8 v9 x1 x2 x3 x4 x5 x6 M f0 f1 f2 mo gg fi en B h_pr h_pcs h_pc h_es h_nwh h_gl h_lf h_ra h_fa h_la hpa hQ hSn hmo1 hmo hgg hG efi een hgF hgT hM1 hB9 hB2 _) k_949 k_946 k_947 k_948 k_96 (nA := 2) (by decide +kernel) ⟨Nat.le_of_ble_eq_true rfl, Nat.le_of_ble_eq_true rfl⟩ hK hP hD hS hA hZ hN h_gl rfl rfl rfl hl.1 rfl (Nat.le_of_ble_eq_true rfl) dX9_sheet_51 ⟨(show 0 + (3 * (B - M)) ≤ 3 * (B - M) by omega), (show 0 + (6 * (B - M)) ≤ 6 * (B - M) by omega)⟩) (by omega) (by omega) (fun L g H locs hw hP hD hS => ?_)
            obtain ⟨S2, ra2, fa2, la2, M2, k0, k1, k2, w7, w8, w9, u1, u2, u3, u4, u5, u6, eS, hsh, hM3, hf9, h_gl, h_lf, h_ra, h_fa, h_la⟩ := hw
            have h_dk := h_dk.fr hf9 (by decide)
            have h_pr := h_pr.fr hf9 (by decide)
            have h_nwh := h_nwh.fr hf9 (by decide)
            have h_nob := h_nob.fr hf9 (by decide)
            have hfr := hfr.tr hf9
            have h_pcs := h_pcs.frd hf9 (by decide)
            have h_pc := h_pc.frd hf9 (by decide)
            have h_es := h_es.frd hf9 (by decide)
            refine lv_iload_n hx hb dX9_sheet_54 rfl (lv_at hl 2 rfl) ?_
            refine lv_aload_n hx hb dX9_sheet_55 rfl (lv_at hl 0 rfl) ?_
            refine o_get (D := D) (ci := 10) (v := .ref gl) (C := RX9) (T := TX9) (N := 12) hx hb hts inX9 hown hK hP h_dk rfl 7 (by decide) (hts _ k_436) (fun _ h9 => h9) rfl dX9_sheet_56 ?_
            refine o_cis (k := 0 + (3 * (B - M))) (n := 0 + (6 * (B - M))) hK hP hD hS hA (o_rV (As := []) (rest := [.int i2]) hf (gl_sc _ _ _ _ _ _ _ _ pr gl lf ra2 fa2 la2 S2.length (nI en) w7 w8 w9 h_gl _) k_991 k_988 k_989 k_990 k_96 (nA := 0) (by decide +kernel) ⟨Nat.le_of_ble_eq_true rfl, Nat.le_of_ble_eq_true rfl⟩ hK hP hD hS hA hZ hN h_gl rfl rfl rfl hl.1 rfl (Nat.le_of_ble_eq_true rfl) dX9_sheet_59 ⟨(show 0 + (3 * (B - M)) + 0 ≤ 3 * (B - M) by omega), (show 0 + (6 * (B - M)) + 0 ≤ 6 * (B - M) by omega)⟩) (Nat.le_refl _) (Nat.le_refl _) (fun r H locs hw hP hD hS => ?_)
            obtain rfl := hw
            refine lv_icmp_lt (tgt := 68) hx hb dX9_sheet_62 (by decide) (fun c_6 => ?_) (fun c_6 => ?_)
            · obtain ⟨s_, hs_, rfl⟩ := ix_lt (by omega) (q_nlt_le c_5) c_6
              have hl : lv_has ls 4 [(0, .ref dk), (1, .int (nI gg)), (2, .int (nI s_)), (3, .int i3)] := hl
              have hsj := hsh s_ hs_
              have hgo := (glS_ok (EE := EE) (fi := fi) hQ (show en ≤ P.length by omega) hmo1 hmo).2 s_ (by rw [← eS]; exact hs_)
              rw [← eS, ← hsj.2.1, ← hsj.2.2] at hgo
              rcases hgo.2 with ⟨hn1, hn2⟩ | ⟨a_, b_, hn1, hn2, hab_, hb_⟩
              · have hP := hP
                refine lv_iload_n hx hb dX9_sheet_68 rfl (lv_at hl 3 rfl) ?_
                rcases q_sw_0_2 i3 with c_7 | c_7 | c_7 | c_7
                · refine q_seti (y := 0) c_7 ?_
                  refine lv_tableIn (off := 27) (tgt := 96) hx hb dX9_sheet_69 (by decide) (by decide) (by decide) (by decide) ?_
                  refine lv_aload_n hx hb dX9_sheet_96 rfl (lv_at hl 0 rfl) ?_
                  refine o_get (D := D) (ci := 10) (v := .ref gl) (C := RX9) (T := TX9) (N := 12) hx hb hts inX9 hown hK hP h_dk rfl 7 (by decide) (hts _ k_436) (fun _ h9 => h9) rfl dX9_sheet_97 ?_
                  refine lv_iload_n hx hb dX9_sheet_100 rfl (lv_at hl 2 rfl) ?_
                  refine o_cis (k := 0 + (3 * (B - M))) (n := 0 + (6 * (B - M))) hK hP hD hS hA (o_rV (As := [.int (nI s_)]) (rest := []) hf (gl_ron _ _ _ _ _ _ _ _ pr gl lf ra2 fa2 la2 M2 S2.length (nI en) w7 w8 w9 k0 k1 k2 s_ h_gl h_ra (by omega) (by omega) hs_ _) k_1004 k_1001 k_1002 k_1003 k_96 (nA := 1) (by decide +kernel) ⟨Nat.le_of_ble_eq_true rfl, Nat.le_of_ble_eq_true rfl⟩ hK hP hD hS hA hZ hN h_gl rfl rfl rfl hl.1 rfl (Nat.le_of_ble_eq_true rfl) dX9_sheet_101 ⟨(show 0 + (3 * (B - M)) + 0 ≤ 3 * (B - M) by omega), (show 0 + (6 * (B - M)) + 0 ≤ 6 * (B - M) by omega)⟩) (Nat.le_refl _) (Nat.le_refl _) (fun r H locs hw hP hD hS => ?_)
                  obtain rfl := hw
                  exact o_ri hf hr rfl hlocks hK hP hD hS (show 0 + (3 * (B - M)) ≤ 3 * (B - M) by omega) (show 0 + (6 * (B - M)) ≤ 6 * (B - M) by omega) ⟨S2, ra2, fa2, la2, M2, k0, k1, k2, w7, w8, w9, u1, u2, u3, u4, u5, u6, trivial, eS, hsh, hM3, hfr, h_gl, h_lf, h_ra, h_fa, h_la⟩ dX9_sheet_104
                · refine q_seti (y := 1) c_7 ?_
                  refine lv_tableIn (off := 36) (tgt := 105) hx hb dX9_sheet_69 (by decide) (by decide) (by decide) (by decide) ?_
                  refine lv_aload_n hx hb dX9_sheet_105 rfl (lv_at hl 0 rfl) ?_
                  refine o_get (D := D) (ci := 10) (v := .ref gl) (C := RX9) (T := TX9) (N := 12) hx hb hts inX9 hown hK hP h_dk rfl 7 (by decide) (hts _ k_436) (fun _ h9 => h9) rfl dX9_sheet_106 ?_
                  refine lv_iload_n hx hb dX9_sheet_109 rfl (lv_at hl 2 rfl) ?_
                  refine o_cis (k := 0 + (3 * (B - M))) (n := 0 + (6 * (B - M))) hK hP hD hS hA (o_rV (As := [.int (nI s_)]) (rest := []) hf (gl_ponE _ _ _ _ _ _ _ _ pr gl lf ra2 fa2 la2 M2 S2.length (nI en) w7 w8 w9 k0 k1 k2 s_ h_gl h_ra h_fa h_la (by omega) (by omega) hs_ hn1 _) k_1012 k_1009 k_1010 k_1011 k_96 (nA := 1) (by decide +kernel) ⟨Nat.le_of_ble_eq_true rfl, Nat.le_of_ble_eq_true rfl⟩ hK hP hD hS hA hZ hN h_gl rfl rfl rfl hl.1 rfl (Nat.le_of_ble_eq_true rfl) dX9_sheet_110 ⟨(show 0 + (3 * (B - M)) + 0 ≤ 3 * (B - M) by omega), (show 0 + (6 * (B - M)) + 0 ≤ 6 * (B - M) by omega)⟩) (Nat.le_refl _) (Nat.le_refl _) (fun r H locs hw hP hD hS => ?_)
                  obtain rfl := hw
                  exact o_ri hf hr rfl hlocks hK hP hD hS (show 0 + (3 * (B - M)) ≤ 3 * (B - M) by omega) (show 0 + (6 * (B - M)) ≤ 6 * (B - M) by omega) ⟨S2, ra2, fa2, la2, M2, k0, k1, k2, w7, w8, w9, u1, u2, u3, u4, u5, u6, trivial, eS, hsh, hM3, hfr, h_gl, h_lf, h_ra, h_fa, h_la⟩ dX9_sheet_113
                · refine q_seti (y := 2) c_7 ?_
                  refine lv_tableIn (off := 45) (tgt := 114) hx hb dX9_sheet_69 (by decide) (by decide) (by decide) (by decide) ?_
                  refine lv_aload_n hx hb dX9_sheet_114 rfl (lv_at hl 0 rfl) ?_
                  refine o_get (D := D) (ci := 10) (v := .ref gl) (C := RX9) (T := TX9) (N := 12) hx hb hts inX9 hown hK hP h_dk rfl 7 (by decide) (hts _ k_436) (fun _ h9 => h9) rfl dX9_sheet_115 ?_
                  refine lv_iload_n hx hb dX9_sheet_118 rfl (lv_at hl 2 rfl) ?_
                  refine o_cis (k := 0 + (3 * (B - M))) (n := 0 + (6 * (B - M))) hK hP hD hS hA (o_rV (As := [.int (nI s_)]) (rest := []) hf (gl_feE _ _ _ _ _ _ _ _ pr pcs spr nwh cp pa ea P nb nt nf nr gl lf ra2 fa2 la2 M2 S2.length (nI en) w7 w8 w9 k0 k1 k2 s_ h_pr h_pcs h_nwh h_nob h_gl h_ra h_fa (by omega) (by omega) hs_ hn1 _) k_1016 k_1013 k_1014 k_1015 k_96 (nA := 1) (by decide +kernel) ⟨Nat.le_of_ble_eq_true rfl, Nat.le_of_ble_eq_true rfl⟩ hK hP hD hS hA hZ hN h_gl rfl rfl rfl hl.1 rfl (Nat.le_of_ble_eq_true rfl) dX9_sheet_119 ⟨(show 0 + (3 * (B - M)) + 0 ≤ 3 * (B - M) by omega), (show 0 + (6 * (B - M)) + 0 ≤ 6 * (B - M) by omega)⟩) (Nat.le_refl _) (Nat.le_refl _) (fun r H locs hw hP hD hS => ?_)
                  obtain rfl := hw
                  exact o_ri hf hr rfl hlocks hK hP hD hS (show 0 + (3 * (B - M)) ≤ 3 * (B - M) by omega) (show 0 + (6 * (B - M)) ≤ 6 * (B - M) by omega) ⟨S2, ra2, fa2, la2, M2, k0, k1, k2, w7, w8, w9, u1, u2, u3, u4, u5, u6, trivial, eS, hsh, hM3, hfr, h_gl, h_lf, h_ra, h_fa, h_la⟩ dX9_sheet_122
                · refine lv_tableOut (tgt := 123) hx hb dX9_sheet_69 c_7 (by decide) ?_
                  refine lv_aload_n hx hb dX9_sheet_123 rfl (lv_at hl 0 rfl) ?_
                  refine o_get (D := D) (ci := 10) (v := .ref gl) (C := RX9) (T := TX9) (N := 12) hx hb hts inX9 hown hK hP h_dk rfl 7 (by decide) (hts _ k_436) (fun _ h9 => h9) rfl dX9_sheet_124 ?_
                  refine lv_iload_n hx hb dX9_sheet_127 rfl (lv_at hl 2 rfl) ?_
                  refine o_cis (k := 0 + (3 * (B - M))) (n := 0 + (6 * (B - M))) hK hP hD hS hA (o_rV (As := [.int (nI s_)]) (rest := []) hf (gl_leE _ _ _ _ _ _ _ _ pr pcs spr nwh cp pa ea P nb nt nf nr gl lf ra2 fa2 la2 M2 S2.length (nI en) w7 w8 w9 k0 k1 k2 s_ h_pr h_pcs h_nwh h_nob h_gl h_ra h_la (by omega) (by omega) hs_ hn2 _) k_1020 k_1017 k_1018 k_1019 k_96 (nA := 1) (by decide +kernel) ⟨Nat.le_of_ble_eq_true rfl, Nat.le_of_ble_eq_true rfl⟩ hK hP hD hS hA hZ hN h_gl rfl rfl rfl hl.1 rfl (Nat.le_of_ble_eq_true rfl) dX9_sheet_128 ⟨(show 0 + (3 * (B - M)) + 0 ≤ 3 * (B - M) by omega), (show 0 + (6 * (B - M)) + 0 ≤ 6 * (B - M) by omega)⟩) (Nat.le_refl _) (Nat.le_refl _) (fun r H locs hw hP hD hS => ?_)
                  obtain rfl := hw
                  exact o_ri hf hr rfl hlocks hK hP hD hS (show 0 + (3 * (B - M)) ≤ 3 * (B - M) by omega) (show 0 + (6 * (B - M)) ≤ 6 * (B - M) by omega) ⟨S2, ra2, fa2, la2, M2, k0, k1, k2, w7, w8, w9, u1, u2, u3, u4, u5, u6, trivial, eS, hsh, hM3, hfr, h_gl, h_lf, h_ra, h_fa, h_la⟩ dX9_sheet_131
              · have hP := hP
                refine lv_iload_n hx hb dX9_sheet_68 rfl (lv_at hl 3 rfl) ?_
                rcases q_sw_0_2 i3 with c_8 | c_8 | c_8 | c_8
                · refine q_seti (y := 0) c_8 ?_
                  refine lv_tableIn (off := 27) (tgt := 96) hx hb dX9_sheet_69 (by decide) (by decide) (by decide) (by decide) ?_
                  refine lv_aload_n hx hb dX9_sheet_96 rfl (lv_at hl 0 rfl) ?_
                  refine o_get (D := D) (ci := 10) (v := .ref gl) (C := RX9) (T := TX9) (N := 12) hx hb hts inX9 hown hK hP h_dk rfl 7 (by decide) (hts _ k_436) (fun _ h9 => h9) rfl dX9_sheet_97 ?_
                  refine lv_iload_n hx hb dX9_sheet_100 rfl (lv_at hl 2 rfl) ?_
                  refine o_cis (k := 0 + (3 * (B - M))) (n := 0 + (6 * (B - M))) hK hP hD hS hA (o_rV (As := [.int (nI s_)]) (rest := []) hf (gl_ron _ _ _ _ _ _ _ _ pr gl lf ra2 fa2 la2 M2 S2.length (nI en) w7 w8 w9 k0 k1 k2 s_ h_gl h_ra (by omega) (by omega) hs_ _) k_1004 k_1001 k_1002 k_1003 k_96 (nA := 1) (by decide +kernel) ⟨Nat.le_of_ble_eq_true rfl, Nat.le_of_ble_eq_true rfl⟩ hK hP hD hS hA hZ hN h_gl rfl rfl rfl hl.1 rfl (Nat.le_of_ble_eq_true rfl) dX9_sheet_101 ⟨(show 0 + (3 * (B - M)) + 0 ≤ 3 * (B - M) by omega), (show 0 + (6 * (B - M)) + 0 ≤ 6 * (B - M) by omega)⟩) (Nat.le_refl _) (Nat.le_refl _) (fun r H locs hw hP hD hS => ?_)
                  obtain rfl := hw
                  exact o_ri hf hr rfl hlocks hK hP hD hS (show 0 + (3 * (B - M)) ≤ 3 * (B - M) by omega) (show 0 + (6 * (B - M)) ≤ 6 * (B - M) by omega) ⟨S2, ra2, fa2, la2, M2, k0, k1, k2, w7, w8, w9, u1, u2, u3, u4, u5, u6, trivial, eS, hsh, hM3, hfr, h_gl, h_lf, h_ra, h_fa, h_la⟩ dX9_sheet_104
                · refine q_seti (y := 1) c_8 ?_
                  refine lv_tableIn (off := 36) (tgt := 105) hx hb dX9_sheet_69 (by decide) (by decide) (by decide) (by decide) ?_
                  refine lv_aload_n hx hb dX9_sheet_105 rfl (lv_at hl 0 rfl) ?_
                  refine o_get (D := D) (ci := 10) (v := .ref gl) (C := RX9) (T := TX9) (N := 12) hx hb hts inX9 hown hK hP h_dk rfl 7 (by decide) (hts _ k_436) (fun _ h9 => h9) rfl dX9_sheet_106 ?_
                  refine lv_iload_n hx hb dX9_sheet_109 rfl (lv_at hl 2 rfl) ?_
                  refine o_cis (k := 0 + (3 * (B - M))) (n := 0 + (6 * (B - M))) hK hP hD hS hA (o_rV (As := [.int (nI s_)]) (rest := []) hf (gl_pon _ _ _ _ _ _ _ _ pr gl lf ra2 fa2 la2 M2 S2.length (nI en) w7 w8 w9 k0 k1 k2 s_ a_ b_ h_gl h_ra h_fa h_la (by omega) (by omega) hs_ hn1 hn2 (by omega) (by omega) _) k_1012 k_1009 k_1010 k_1011 k_96 (nA := 1) (by decide +kernel) ⟨Nat.le_of_ble_eq_true rfl, Nat.le_of_ble_eq_true rfl⟩ hK hP hD hS hA hZ hN h_gl rfl rfl rfl hl.1 rfl (Nat.le_of_ble_eq_true rfl) dX9_sheet_110 ⟨(show 0 + (3 * (B - M)) + 0 ≤ 3 * (B - M) by omega), (show 0 + (6 * (B - M)) + 0 ≤ 6 * (B - M) by omega)⟩) (Nat.le_refl _) (Nat.le_refl _) (fun r H locs hw hP hD hS => ?_)
                  obtain rfl := hw
                  exact o_ri hf hr rfl hlocks hK hP hD hS (show 0 + (3 * (B - M)) ≤ 3 * (B - M) by omega) (show 0 + (6 * (B - M)) ≤ 6 * (B - M) by omega) ⟨S2, ra2, fa2, la2, M2, k0, k1, k2, w7, w8, w9, u1, u2, u3, u4, u5, u6, trivial, eS, hsh, hM3, hfr, h_gl, h_lf, h_ra, h_fa, h_la⟩ dX9_sheet_113
                · refine q_seti (y := 2) c_8 ?_
                  refine lv_tableIn (off := 45) (tgt := 114) hx hb dX9_sheet_69 (by decide) (by decide) (by decide) (by decide) ?_
                  refine lv_aload_n hx hb dX9_sheet_114 rfl (lv_at hl 0 rfl) ?_
                  refine o_get (D := D) (ci := 10) (v := .ref gl) (C := RX9) (T := TX9) (N := 12) hx hb hts inX9 hown hK hP h_dk rfl 7 (by decide) (hts _ k_436) (fun _ h9 => h9) rfl dX9_sheet_115 ?_
                  refine lv_iload_n hx hb dX9_sheet_118 rfl (lv_at hl 2 rfl) ?_
                  refine o_cis (k := 0 + (3 * (B - M))) (n := 0 + (6 * (B - M))) hK hP hD hS hA (o_rV (As := [.int (nI s_)]) (rest := []) hf (gl_fe _ _ _ _ _ _ _ _ pr pcs spr nwh cp pa ea P ne EE gl lf ra2 fa2 la2 M2 S2.length (nI en) w7 w8 w9 k0 k1 k2 s_ a_ h_pr h_pcs h_pc h_es h_gl h_ra h_fa hpa hQ (by omega) (by omega) hs_ hn1 (by omega) _) k_1016 k_1013 k_1014 k_1015 k_96 (nA := 1) (by decide +kernel) ⟨Nat.le_of_ble_eq_true rfl, Nat.le_of_ble_eq_true rfl⟩ hK hP hD hS hA hZ hN h_gl rfl rfl rfl hl.1 rfl (Nat.le_of_ble_eq_true rfl) dX9_sheet_119 ⟨(show 0 + (3 * (B - M)) + 0 ≤ 3 * (B - M) by omega), (show 0 + (6 * (B - M)) + 0 ≤ 6 * (B - M) by omega)⟩) (Nat.le_refl _) (Nat.le_refl _) (fun r H locs hw hP hD hS => ?_)
                  obtain rfl := hw
                  exact o_ri hf hr rfl hlocks hK hP hD hS (show 0 + (3 * (B - M)) ≤ 3 * (B - M) by omega) (show 0 + (6 * (B - M)) ≤ 6 * (B - M) by omega) ⟨S2, ra2, fa2, la2, M2, k0, k1, k2, w7, w8, w9, u1, u2, u3, u4, u5, u6, trivial, eS, hsh, hM3, hfr, h_gl, h_lf, h_ra, h_fa, h_la⟩ dX9_sheet_122
                · refine lv_tableOut (tgt := 123) hx hb dX9_sheet_69 c_8 (by decide) ?_
                  refine lv_aload_n hx hb dX9_sheet_123 rfl (lv_at hl 0 rfl) ?_
                  refine o_get (D := D) (ci := 10) (v := .ref gl) (C := RX9) (T := TX9) (N := 12) hx hb hts inX9 hown hK hP h_dk rfl 7 (by decide) (hts _ k_436) (fun _ h9 => h9) rfl dX9_sheet_124 ?_
                  refine lv_iload_n hx hb dX9_sheet_127 rfl (lv_at hl 2 rfl) ?_
                  refine o_cis (k := 0 + (3 * (B - M))) (n := 0 + (6 * (B - M))) hK hP hD hS hA (o_rV (As := [.int (nI s_)]) (rest := []) hf (gl_le _ _ _ _ _ _ _ _ pr pcs spr nwh cp pa ea P ne EE gl lf ra2 fa2 la2 M2 S2.length (nI en) w7 w8 w9 k0 k1 k2 s_ b_ h_pr h_pcs h_pc h_es h_gl h_ra h_la hpa hQ (by omega) (by omega) hs_ hn2 (by omega) _) k_1020 k_1017 k_1018 k_1019 k_96 (nA := 1) (by decide +kernel) ⟨Nat.le_of_ble_eq_true rfl, Nat.le_of_ble_eq_true rfl⟩ hK hP hD hS hA hZ hN h_gl rfl rfl rfl hl.1 rfl (Nat.le_of_ble_eq_true rfl) dX9_sheet_128 ⟨(show 0 + (3 * (B - M)) + 0 ≤ 3 * (B - M) by omega), (show 0 + (6 * (B - M)) + 0 ≤ 6 * (B - M) by omega)⟩) (Nat.le_refl _) (Nat.le_refl _) (fun r H locs hw hP hD hS => ?_)
                  obtain rfl := hw
                  exact o_ri hf hr rfl hlocks hK hP hD hS (show 0 + (3 * (B - M)) ≤ 3 * (B - M) by omega) (show 0 + (6 * (B - M)) ≤ 6 * (B - M) by omega) ⟨S2, ra2, fa2, la2, M2, k0, k1, k2, w7, w8, w9, u1, u2, u3, u4, u5, u6, trivial, eS, hsh, hM3, hfr, h_gl, h_lf, h_ra, h_fa, h_la⟩ dX9_sheet_131
            · refine lv_bipush (v := (-2)) hx hb dX9_sheet_65 (by decide) ?_
              exact o_ri hf hr rfl hlocks hK hP hD hS (show 0 + (3 * (B - M)) ≤ 3 * (B - M) by omega) (show 0 + (6 * (B - M)) ≤ 6 * (B - M) by omega) ⟨S2, ra2, fa2, la2, M2, k0, k1, k2, w7, w8, w9, u1, u2, u3, u4, u5, u6, trivial, eS, hsh, hM3, hfr, h_gl, h_lf, h_ra, h_fa, h_la⟩ dX9_sheet_67
          · exact absurd (q_lt_nle c_5) hb2
    · exact absurd (q_lt_nle c_2) hb4
