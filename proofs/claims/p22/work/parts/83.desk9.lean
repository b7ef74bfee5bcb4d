abbrev cX9_sheets : ByteArray := prog_1_method_14_code
def yX9_sheets : MethodName := ⟨RX9, "sheets", "(I)I"⟩
theorem k_436 : (Cond.fieldLink RX9 70 "ScriptDesk" "layout" "LScriptDesk$GroupLayout;") ∈ gT := gT_i 436 (by decide +kernel) rfl
theorem k_946 : (Cond.methodLink RX9 213 yX2_lay) ∈ gT := gT_i 946 (by decide +kernel) rfl
theorem k_947 : (Cond.instanceMethod yX2_lay) ∈ gT := gT_i 947 (by decide +kernel) rfl
theorem k_948 : (Cond.selects RX2 yX2_lay yX2_lay) ∈ gT := gT_i 948 (by decide +kernel) rfl
theorem k_949 : (Cond.code yX2_lay cX2_lay 8 none) ∈ gT := gT_i 949 (by decide +kernel) rfl
theorem k_988 : (Cond.methodLink RX9 217 yX2_sheetCount) ∈ gT := gT_i 988 (by decide +kernel) rfl
theorem k_989 : (Cond.instanceMethod yX2_sheetCount) ∈ gT := gT_i 989 (by decide +kernel) rfl
theorem k_990 : (Cond.selects RX2 yX2_sheetCount yX2_sheetCount) ∈ gT := gT_i 990 (by decide +kernel) rfl
theorem k_991 : (Cond.code yX2_sheetCount cX2_sheetCount 1 (some .int)) ∈ gT := gT_i 991 (by decide +kernel) rfl
theorem dX9_sheets_0 : decode cX9_sheets 0 = .ok (.aload_n 0, 1) := by decide +kernel
theorem dX9_sheets_1 : decode cX9_sheets 1 = .ok (.getfield 116, 3) := by decide +kernel
theorem dX9_sheets_4 : decode cX9_sheets 4 = .ok (.ifCond .ne 6, 3) := by decide +kernel
theorem dX9_sheets_10 : decode cX9_sheets 10 = .ok (.iload_n 1, 1) := by decide +kernel
theorem dX9_sheets_11 : decode cX9_sheets 11 = .ok (.iconst 1, 1) := by decide +kernel
theorem dX9_sheets_12 : decode cX9_sheets 12 = .ok (.if_icmp .lt 11, 3) := by decide +kernel
theorem dX9_sheets_15 : decode cX9_sheets 15 = .ok (.iload_n 1, 1) := by decide +kernel
theorem dX9_sheets_16 : decode cX9_sheets 16 = .ok (.aload_n 0, 1) := by decide +kernel
theorem dX9_sheets_17 : decode cX9_sheets 17 = .ok (.getfield 150, 3) := by decide +kernel
theorem dX9_sheets_20 : decode cX9_sheets 20 = .ok (.if_icmp .le 6, 3) := by decide +kernel
theorem dX9_sheets_26 : decode cX9_sheets 26 = .ok (.aload_n 0, 1) := by decide +kernel
theorem dX9_sheets_27 : decode cX9_sheets 27 = .ok (.getfield 70, 3) := by decide +kernel
theorem dX9_sheets_30 : decode cX9_sheets 30 = .ok (.iload_n 1, 1) := by decide +kernel
theorem dX9_sheets_31 : decode cX9_sheets 31 = .ok (.aload_n 0, 1) := by decide +kernel
theorem dX9_sheets_32 : decode cX9_sheets 32 = .ok (.getfield 81, 3) := by decide +kernel
theorem dX9_sheets_35 : decode cX9_sheets 35 = .ok (.invokevirtual 213, 3) := by decide +kernel
theorem dX9_sheets_38 : decode cX9_sheets 38 = .ok (.aload_n 0, 1) := by decide +kernel
theorem dX9_sheets_39 : decode cX9_sheets 39 = .ok (.getfield 70, 3) := by decide +kernel
theorem dX9_sheets_42 : decode cX9_sheets 42 = .ok (.invokevirtual 217, 3) := by decide +kernel
theorem dX9_sheets_45 : decode cX9_sheets 45 = .ok (.ireturn, 1) := by decide +kernel
theorem dX9_sheets_7 : decode cX9_sheets 7 = .ok (.bipush (-3), 2) := by decide +kernel
theorem dX9_sheets_9 : decode cX9_sheets 9 = .ok (.ireturn, 1) := by decide +kernel
set_option maxHeartbeats 1000000 in
set_option maxRecDepth 100000 in
theorem d_sheetsY (l : Launch) (D : va_G) (z : Nat → Nat) (cB cI_ cO : ClassId) (L0 : List Nat) (g0 : hG) (dk tp rd els reo nob bk sl gs : Nat) (pr pcs spr nwh cp : Nat) (pa : List Nat) (ea : Nat → Nat) (P : List Q4) (ne : Nat) (EE : Nat → E5) (nb gl lf ra fa la : Nat) (v5 v6 v7 v8 v9 x1 x2 x3 x4 x5 x6 : Int32) (M : Nat) (f0 f1 f2 : Nat → Int32) (mo gg fi en B : Nat) (h_dk : ho L0 g0 dk 1 (.inr (10, [.ref tp, .ref rd, .ref els, .ref reo, .ref nob, .ref pr, .ref bk, .ref gl, .ref sl, .int (nI mo), .int 1, .int (nI gs)]))) (h_pr : ho L0 g0 pr 13 (.inr (7, [.ref pcs, .ref spr, .ref nwh]))) (h_pcs : alR cO (z 0) 14 15 L0 g0 pcs cp pa) (h_pc : pcR L0 g0 ea pa P) (h_es : esR cB cI_ L0 g0 ea ne EE) (h_nwh : ho L0 g0 nwh 19 (.inr (6, [.ref nb, .int 0, .int 0, .int 0]))) (h_gl : ho L0 g0 gl 25 (.inr (3, [.ref pr, .ref lf, .ref ra, .ref fa, .ref la, .int v5, .int v6, .int v7, .int v8, .int v9]))) (h_lf : ho L0 g0 lf 20 (.inr (4, [.ref pr, .int x1, .int x2, .int x3, .int x4, .int x5, .int x6]))) (h_ra : ho L0 g0 ra 26 (.inl (cI_, M, .inl f0))) (h_fa : ho L0 g0 fa 27 (.inl (cI_, M, .inl f1))) (h_la : ho L0 g0 la 28 (.inl (cI_, M, .inl f2))) (hpa : pa.length ≤ 20000) (hQ : pq_ok ne EE P) (hSn : qS P pa.length ≤ 8000) (hmo1 : 10 ≤ mo) (hmo : mo ≤ 40) (hgg : gg ≤ 20000) (hG : ∀ t, t < pa.length → (P.getD t d4).2.2.2 ≤ 30000) (efi : fi = rg_first (fun t => (P.getD t d4).2.2.2) gg pa.length 0) (een : en = rg_first (fun t => (P.getD t d4).2.2.2) (gg + 1) pa.length 0) (hgF : ∀ p, fi < p → p < en → (P.getD p d4).2.1 = 0) (hgT : ∀ p, fi ≤ p → p + 1 < en → (P.getD p d4).2.2.1 = eRw (EE (P.getD p d4).1)) (hM1 : 1 ≤ M) (hB9 : B ≤ 30000) (hB2 : B = glx M 0 (gl_S EE P fi en mo)) (hgs : gs ≤ 20000) (hg1 : 1 ≤ gg) (hg2 : gg ≤ gs) : eI l D yX9_sheets cX9_sheets 2 (some .int) 11 327 (3 * (B - M)) (6 * (B - M)) [.ref dk, .int (nI gg)] z cB cI_ cO L0 g0 (fun r L g => ∃ (S2 : List I3) (ra2 fa2 la2 M2 : Nat) (k0 k1 k2 : Nat → Int32) (w7 w8 w9 u1 u2 u3 u4 u5 u6 : Int32), r = nI S2.length ∧ S2 = gl_S EE P fi en mo ∧ sh_is S2 k0 k1 k2 ∧ (S2.length ≤ M2 ∧ M2 = B ∧ 1 ≤ M2) ∧ fr [20, 25, 26, 27, 28] L0 g0 L g ∧ ho L g gl 25 (.inr (3, [.ref pr, .ref lf, .ref ra2, .ref fa2, .ref la2, .int (nI (S2.length)), .int (nI en), .int w7, .int w8, .int w9])) ∧ ho L g lf 20 (.inr (4, [.ref pr, .int u1, .int u2, .int u3, .int u4, .int u5, .int u6])) ∧ ho L g ra2 26 (.inl (cI_, M2, .inl k0)) ∧ ho L g fa2 27 (.inl (cI_, M2, .inl k1)) ∧ ho L g la2 28 (.inl (cI_, M2, .inl k2))) := by
  refine o_si (by decide) (Nat.le_of_ble_eq_true rfl) ?_
  intro p e s m below meth c A ls hf hr hlocks hin hK hP hD hS hA hZ hN hl
  obtain ⟨hx, hb, hml, hown, hts⟩ := id hf
  have hl : lv_has ls 2 [(0, .ref dk), (1, .int (nI gg))] := hl
  have hfr : fr [20, 25, 26, 27, 28] L0 g0 L0 g0 := fr.rf
  refine lv_aload_n hx hb dX9_sheets_0 rfl (lv_at hl 0 rfl) ?_
  refine o_get (D := D) (ci := 10) (v := .int 1) (C := RX9) (T := TX9) (N := 12) hx hb hts inX9 hown hK hP h_dk rfl 10 (by decide) (hts _ k_439) (fun _ h9 => h9) rfl dX9_sheets_1 ?_
  refine lv_if_ne (tgt := 10) hx hb dX9_sheets_4 (by decide) (fun _ => ?_) (fun hno => absurd hno (by decide))
  refine lv_iload_n hx hb dX9_sheets_10 rfl (lv_at hl 1 rfl) ?_
  refine lv_iconst (v := 1) hx hb dX9_sheets_11 (by decide) ?_
  refine lv_icmp_lt (tgt := 23) hx hb dX9_sheets_12 (by decide) (fun c_1 => ?_) (fun c_1 => ?_)
  · have c_1 := q_lt (a := gg) (b := 1) (by omega) (by omega) c_1
    exact False.elim (by omega)
  · have c_1 := q_nlt (a := gg) (b := 1) (by omega) (by omega) c_1
    refine lv_iload_n hx hb dX9_sheets_15 rfl (lv_at hl 1 rfl) ?_
    refine lv_aload_n hx hb dX9_sheets_16 rfl (lv_at hl 0 rfl) ?_
    refine o_get (D := D) (ci := 10) (v := .int (nI gs)) (C := RX9) (T := TX9) (N := 12) hx hb hts inX9 hown hK hP h_dk rfl 11 (by decide) (hts _ k_440) (fun _ h9 => h9) rfl dX9_sheets_17 ?_
    refine lv_icmp_le (tgt := 26) hx hb dX9_sheets_20 (by decide) (fun c_2 => ?_) (fun c_2 => ?_)
    · have c_2 := q_le (a := gg) (b := gs) (by omega) (by omega) c_2
      refine lv_aload_n hx hb dX9_sheets_26 rfl (lv_at hl 0 rfl) ?_
      refine o_get (D := D) (ci := 10) (v := .ref gl) (C := RX9) (T := TX9) (N := 12) hx hb hts inX9 hown hK hP h_dk rfl 7 (by decide) (hts _ k_436) (fun _ h9 => h9) rfl dX9_sheets_27 ?_
      refine lv_iload_n hx hb dX9_sheets_30 rfl (lv_at hl 1 rfl) ?_
      refine lv_aload_n hx hb dX9_sheets_31 rfl (lv_at hl 0 rfl) ?_
      refine o_get (D := D) (ci := 10) (v := .int (nI mo)) (C := RX9) (T := TX9) (N := 12) hx hb hts inX9 hown hK hP h_dk rfl 9 (by decide) (hts _ k_438) (fun _ h9 => h9) rfl dX9_sheets_32 ?_
      refine o_cv (k := 0 + (3 * (B - M))) (n := 0 + (6 * (B - M))) hK hP hD hS hA (o_rV (As := [.int (nI gg), .int (nI mo)]) (rest := []) hf (gl_lay _ _ _ _ _ _ _ _ pr pcs spr nwh cp pa ea P ne EE nb gl lf ra fa la v5 v6 v7 v8 v9 x1 x2 x3 x4 x5 x6 M f0 f1 f2 mo gg fi en B h_pr h_pcs h_pc h_es h_nwh h_gl h_lf h_ra h_fa h_la hpa hQ hSn hmo1 hmo hgg hG efi een hgF hgT hM1 hB9 hB2 _) k_949 k_946 k_947 k_948 k_96 (nA := 2) (by decide +kernel) ⟨Nat.le_of_ble_eq_true rfl, Nat.le_of_ble_eq_true rfl⟩ hK hP hD hS hA hZ hN h_gl rfl rfl rfl hl.1 rfl (Nat.le_of_ble_eq_true rfl) dX9_sheets_35 ⟨(show 0 + (3 * (B - M)) ≤ 3 * (B - M) by omega), (show 0 + (6 * (B - M)) ≤ 6 * (B - M) by omega)⟩) (by omega) (by omega) (fun L g H locs hw hP hD hS => ?_)
      obtain ⟨S2, ra2, fa2, la2, M2, k0, k1, k2, w7, w8, w9, u1, u2, u3, u4, u5, u6, eS, hsh, hM3, hf9, h_gl, h_lf, h_ra, h_fa, h_la⟩ := hw
      have h_dk := h_dk.fr hf9 (by decide)
      have h_pr := h_pr.fr hf9 (by decide)
      have h_nwh := h_nwh.fr hf9 (by decide)
      have hfr := hfr.tr hf9
      have h_pcs := h_pcs.frd hf9 (by decide)
      have h_pc := h_pc.frd hf9 (by decide)
      have h_es := h_es.frd hf9 (by decide)
      refine lv_aload_n hx hb dX9_sheets_38 rfl (lv_at hl 0 rfl) ?_
      refine o_get (D := D) (ci := 10) (v := .ref gl) (C := RX9) (T := TX9) (N := 12) hx hb hts inX9 hown hK hP h_dk rfl 7 (by decide) (hts _ k_436) (fun _ h9 => h9) rfl dX9_sheets_39 ?_
      refine o_cis (k := 0 + (3 * (B - M))) (n := 0 + (6 * (B - M))) hK hP hD hS hA (o_rV (As := []) (rest := []) hf (gl_sc _ _ _ _ _ _ _ _ pr gl lf ra2 fa2 la2 S2.length (nI en) w7 w8 w9 h_gl _) k_991 k_988 k_989 k_990 k_96 (nA := 0) (by decide +kernel) ⟨Nat.le_of_ble_eq_true rfl, Nat.le_of_ble_eq_true rfl⟩ hK hP hD hS hA hZ hN h_gl rfl rfl rfl hl.1 rfl (Nat.le_of_ble_eq_true rfl) dX9_sheets_42 ⟨(show 0 + (3 * (B - M)) + 0 ≤ 3 * (B - M) by omega), (show 0 + (6 * (B - M)) + 0 ≤ 6 * (B - M) by omega)⟩) (Nat.le_refl _) (Nat.le_refl _) (fun r H locs hw hP hD hS => ?_)
      obtain rfl := hw
      exact o_ri hf hr rfl hlocks hK hP hD hS (show 0 + (3 * (B - M)) ≤ 3 * (B - M) by omega) (show 0 + (6 * (B - M)) ≤ 6 * (B - M) by omega) ⟨S2, ra2, fa2, la2, M2, k0, k1, k2, w7, w8, w9, u1, u2, u3, u4, u5, u6, rfl, eS, hsh, hM3, hfr, h_gl, h_lf, h_ra, h_fa, h_la⟩ dX9_sheets_45
    · have c_2 := q_nle (a := gg) (b := gs) (by omega) (by omega) c_2
      exact False.elim (by omega)
set_option maxHeartbeats 1000000 in
set_option maxRecDepth 100000 in
theorem d_sheetsU (l : Launch) (D : va_G) (z : Nat → Nat) (cB cI_ cO : ClassId) (L0 : List Nat) (g0 : hG) (dk tp rd els reo nob pr bk gl sl mo : Nat) (v11 x1 : Int32) (h_dk : ho L0 g0 dk 1 (.inr (10, [.ref tp, .ref rd, .ref els, .ref reo, .ref nob, .ref pr, .ref bk, .ref gl, .ref sl, .int (nI mo), .int 0, .int v11])))  : eIs l D yX9_sheets cX9_sheets 2 (some .int) 0 0 0 0 [.ref dk, .int x1] z cB cI_ cO L0 g0 (fun r => r = -3) := by
  refine o_si (by decide) (Nat.le_of_ble_eq_true rfl) ?_
  intro p e s m below meth c A ls hf hr hlocks hin hK hP hD hS hA hZ hN hl
  obtain ⟨hx, hb, hml, hown, hts⟩ := id hf
  have hl : lv_has ls 2 [(0, .ref dk), (1, .int x1)] := hl
  refine lv_aload_n hx hb dX9_sheets_0 rfl (lv_at hl 0 rfl) ?_
  refine o_get (D := D) (ci := 10) (v := .int 0) (C := RX9) (T := TX9) (N := 12) hx hb hts inX9 hown hK hP h_dk rfl 10 (by decide) (hts _ k_439) (fun _ h9 => h9) rfl dX9_sheets_1 ?_
  refine lv_if_ne (tgt := 10) hx hb dX9_sheets_4 (by decide) (fun hno => absurd hno (by decide)) (fun _ => ?_)
  refine lv_bipush (v := (-3)) hx hb dX9_sheets_7 (by decide) ?_
  exact o_ri hf hr rfl hlocks hK hP hD hS (show 0 ≤ 0 by omega) (show 0 ≤ 0 by omega) ⟨rfl, rfl, rfl⟩ dX9_sheets_9
