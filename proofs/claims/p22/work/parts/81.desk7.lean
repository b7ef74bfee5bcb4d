theorem bkS.al {cI_ : ClassId} {L : List Nat} {g : hG} {pr bk lf : Nat} {EE : Nat → E5} {P : List Q4} {n mo : Nat} (h : bkS cI_ L g pr bk lf EE P n mo) : ∃ (_ : Unit) (fs : List Value), ho L g bk 21 (.inr (1, fs)) := by
  rcases h with h | ⟨y9, y10, C, cn, h⟩
  · obtain ⟨bop, cf, nx, bn, bs, M, y8, y9, y10, fb, fc, fn, h1, h2⟩ := h
    exact ⟨(), _, h1⟩
  · obtain ⟨bop, cf, nx, M, fb, fc, fn, h1, h2⟩ := h
    exact ⟨(), _, h1⟩
abbrev cX9_cost : ByteArray := prog_1_method_9_code
def yX9_cost : MethodName := ⟨RX9, "cost", "()I"⟩
abbrev cX9_page : ByteArray := prog_1_method_10_code
def yX9_page : MethodName := ⟨RX9, "page", "(II)I"⟩
abbrev cX9_pages : ByteArray := prog_1_method_8_code
def yX9_pages : MethodName := ⟨RX9, "pages", "()I"⟩
theorem k_762 : (Cond.methodLink RX9 153 yX0_refresh) ∈ gT := gT_i 762 (by decide +kernel) rfl
theorem k_763 : (Cond.instanceMethod yX0_refresh) ∈ gT := gT_i 763 (by decide +kernel) rfl
theorem k_764 : (Cond.selects RX0 yX0_refresh yX0_refresh) ∈ gT := gT_i 764 (by decide +kernel) rfl
theorem k_765 : (Cond.code yX0_refresh cX0_refresh 4 none) ∈ gT := gT_i 765 (by decide +kernel) rfl
theorem k_859 : (Cond.methodLink RX9 156 yX0_pageCount) ∈ gT := gT_i 859 (by decide +kernel) rfl
theorem k_860 : (Cond.instanceMethod yX0_pageCount) ∈ gT := gT_i 860 (by decide +kernel) rfl
theorem k_861 : (Cond.selects RX0 yX0_pageCount yX0_pageCount) ∈ gT := gT_i 861 (by decide +kernel) rfl
theorem k_862 : (Cond.code yX0_pageCount cX0_pageCount 1 (some .int)) ∈ gT := gT_i 862 (by decide +kernel) rfl
theorem dX9_pages_0 : decode cX9_pages 0 = .ok (.aload_n 0, 1) := by decide +kernel
theorem dX9_pages_1 : decode cX9_pages 1 = .ok (.getfield 116, 3) := by decide +kernel
theorem dX9_pages_4 : decode cX9_pages 4 = .ok (.ifCond .eq 8, 3) := by decide +kernel
theorem dX9_pages_12 : decode cX9_pages 12 = .ok (.aload_n 0, 1) := by decide +kernel
theorem dX9_pages_13 : decode cX9_pages 13 = .ok (.getfield 63, 3) := by decide +kernel
theorem dX9_pages_16 : decode cX9_pages 16 = .ok (.aload_n 0, 1) := by decide +kernel
theorem dX9_pages_17 : decode cX9_pages 17 = .ok (.getfield 81, 3) := by decide +kernel
theorem dX9_pages_20 : decode cX9_pages 20 = .ok (.invokevirtual 153, 3) := by decide +kernel
theorem dX9_pages_23 : decode cX9_pages 23 = .ok (.aload_n 0, 1) := by decide +kernel
theorem dX9_pages_24 : decode cX9_pages 24 = .ok (.getfield 63, 3) := by decide +kernel
theorem dX9_pages_27 : decode cX9_pages 27 = .ok (.invokevirtual 156, 3) := by decide +kernel
theorem dX9_pages_30 : decode cX9_pages 30 = .ok (.ireturn, 1) := by decide +kernel
theorem dX9_pages_7 : decode cX9_pages 7 = .ok (.aload_n 0, 1) := by decide +kernel
theorem dX9_pages_8 : decode cX9_pages 8 = .ok (.getfield 150, 3) := by decide +kernel
theorem dX9_pages_11 : decode cX9_pages 11 = .ok (.ireturn, 1) := by decide +kernel
theorem dX9_cost_0 : decode cX9_cost 0 = .ok (.aload_n 0, 1) := by decide +kernel
theorem dX9_cost_1 : decode cX9_cost 1 = .ok (.getfield 116, 3) := by decide +kernel
theorem dX9_cost_4 : decode cX9_cost 4 = .ok (.ifCond .eq 5, 3) := by decide +kernel
theorem dX9_cost_7 : decode cX9_cost 7 = .ok (.iconst (-1), 1) := by decide +kernel
theorem dX9_cost_8 : decode cX9_cost 8 = .ok (.ireturn, 1) := by decide +kernel
theorem dX9_page_0 : decode cX9_page 0 = .ok (.iload_n 2, 1) := by decide +kernel
theorem dX9_page_1 : decode cX9_page 1 = .ok (.ifCond .lt 9, 3) := by decide +kernel
theorem dX9_page_4 : decode cX9_page 4 = .ok (.iload_n 2, 1) := by decide +kernel
theorem dX9_page_5 : decode cX9_page 5 = .ok (.bipush 6, 2) := by decide +kernel
theorem dX9_page_7 : decode cX9_page 7 = .ok (.if_icmp .le 6, 3) := by decide +kernel
theorem dX9_page_13 : decode cX9_page 13 = .ok (.aload_n 0, 1) := by decide +kernel
theorem dX9_page_14 : decode cX9_page 14 = .ok (.getfield 116, 3) := by decide +kernel
theorem dX9_page_17 : decode cX9_page 17 = .ok (.ifCond .eq 6, 3) := by decide +kernel
theorem dX9_page_20 : decode cX9_page 20 = .ok (.bipush (-3), 2) := by decide +kernel
theorem dX9_page_22 : decode cX9_page 22 = .ok (.ireturn, 1) := by decide +kernel
set_option maxHeartbeats 1000000 in
set_option maxRecDepth 100000 in
theorem d_pagesU (l : Launch) (D : va_G) (z : Nat → Nat) (cB cI_ cO : ClassId) (L0 : List Nat) (g0 : hG) (dk tp rd els reo nob bk gl sl mo : Nat) (pr pcs spr nwh cp : Nat) (pa : List Nat) (ea : Nat → Nat) (P : List Q4) (ne : Nat) (EE : Nat → E5) (lf : Nat) (x1 x2 x3 x4 x5 x6 v11 : Int32) (h_dk : ho L0 g0 dk 1 (.inr (10, [.ref tp, .ref rd, .ref els, .ref reo, .ref nob, .ref pr, .ref bk, .ref gl, .ref sl, .int (nI mo), .int 0, .int v11]))) (h_pr : ho L0 g0 pr 13 (.inr (7, [.ref pcs, .ref spr, .ref nwh]))) (h_pcs : alR cO (z 0) 14 15 L0 g0 pcs cp pa) (h_pc : pcR L0 g0 ea pa P) (h_es : esR cB cI_ L0 g0 ea ne EE) (h_lf : ho L0 g0 lf 20 (.inr (4, [.ref pr, .int x1, .int x2, .int x3, .int x4, .int x5, .int x6]))) (h_bs : bkS cI_ L0 g0 pr bk lf EE P pa.length mo) (hpa60 : pa.length ≤ 60) (hpa : pa.length ≤ 20000) (hQ : pq_ok ne EE P) (hU : pu_ok EE P) (hSb : ∀ i, i ≤ pa.length → qS P i ≤ 8000) (hmo1 : 10 ≤ mo) (hmo : mo ≤ 40) : eI l D yX9_pages cX9_pages 1 (some .int) 11 323 2 (4 * qS P pa.length) [.ref dk] z cB cI_ cO L0 g0 (fun r L g => ∃ (y9 y10 u1 u2 u3 u4 u5 u6 : Int32) (C : Nat → Option Q4) (cn : Nat), r = nI cn ∧ fr [20, 21, 22, 23, 24] L0 g0 L g ∧ bkK cI_ L g pr bk lf EE P pa.length mo y9 y10 C cn ∧ ho L g lf 20 (.inr (4, [.ref pr, .int u1, .int u2, .int u3, .int u4, .int u5, .int u6]))) := by
  refine o_si (by decide) (Nat.le_of_ble_eq_true rfl) ?_
  intro p e s m below meth c A ls hf hr hlocks hin hK hP hD hS hA hZ hN hl
  obtain ⟨hx, hb, hml, hown, hts⟩ := id hf
  have hl : lv_has ls 1 [(0, .ref dk)] := hl
  have hfr : fr [20, 21, 22, 23, 24] L0 g0 L0 g0 := fr.rf
  refine lv_aload_n hx hb dX9_pages_0 rfl (lv_at hl 0 rfl) ?_
  refine o_get (D := D) (ci := 10) (v := .int 0) (C := RX9) (T := TX9) (N := 12) hx hb hts inX9 hown hK hP h_dk rfl 10 (by decide) (hts _ k_439) (fun _ h9 => h9) rfl dX9_pages_1 ?_
  refine lv_if_eq (tgt := 12) hx hb dX9_pages_4 (by decide) (fun _ => ?_) (fun hno => absurd hno (by decide))
  refine lv_aload_n hx hb dX9_pages_12 rfl (lv_at hl 0 rfl) ?_
  refine o_get (D := D) (ci := 10) (v := .ref bk) (C := RX9) (T := TX9) (N := 12) hx hb hts inX9 hown hK hP h_dk rfl 6 (by decide) (hts _ k_435) (fun _ h9 => h9) rfl dX9_pages_13 ?_
  refine lv_aload_n hx hb dX9_pages_16 rfl (lv_at hl 0 rfl) ?_
  refine o_get (D := D) (ci := 10) (v := .int (nI mo)) (C := RX9) (T := TX9) (N := 12) hx hb hts inX9 hown hK hP h_dk rfl 9 (by decide) (hts _ k_438) (fun _ h9 => h9) rfl dX9_pages_17 ?_
  obtain ⟨mc9, d9, h_al9⟩ := h_bs.al
  refine o_cv (k := 0 + 2) (n := 0 + (4 * qS P pa.length)) hK hP hD hS hA (o_rV (As := [.int (nI mo)]) (rest := []) hf (bk_ref _ _ _ _ _ _ _ _ pr pcs spr nwh cp pa ea P ne EE bk lf x1 x2 x3 x4 x5 x6 mo h_pr h_pcs h_pc h_es h_lf h_bs hpa60 hpa hQ hU hSb hmo1 hmo _) k_765 k_762 k_763 k_764 k_95 (nA := 1) (by decide +kernel) ⟨Nat.le_of_ble_eq_true rfl, Nat.le_of_ble_eq_true rfl⟩ hK hP hD hS hA hZ hN h_al9 rfl rfl rfl hl.1 rfl (Nat.le_of_ble_eq_true rfl) dX9_pages_20 ⟨(show 0 + 2 ≤ 2 by omega), (show 0 + (4 * qS P pa.length) ≤ 4 * qS P pa.length by omega)⟩) (by omega) (by omega) (fun L g H locs hw hP hD hS => ?_)
  obtain ⟨y9, y10, u1, u2, u3, u4, u5, u6, C, cn, hf9, hbk, h_lf⟩ := hw
  have h_dk := h_dk.fr hf9 (by decide)
  have h_pr := h_pr.fr hf9 (by decide)
  have hfr := hfr.tr hf9
  have h_pcs := h_pcs.frd hf9 (by decide)
  have h_pc := h_pc.frd hf9 (by decide)
  have h_es := h_es.frd hf9 (by decide)
  obtain ⟨bop, cf, nx, M, fb, fc, fn, h_bk, h_bop, h_cf, h_nx, hFb, hMs, hM, eC, ecn, hC, hcl⟩ := id hbk
  refine lv_aload_n hx hb dX9_pages_23 rfl (lv_at hl 0 rfl) ?_
  refine o_get (D := D) (ci := 10) (v := .ref bk) (C := RX9) (T := TX9) (N := 12) hx hb hts inX9 hown hK hP h_dk rfl 6 (by decide) (hts _ k_435) (fun _ h9 => h9) rfl dX9_pages_24 ?_
  refine o_cis (k := 0 + 2) (n := 0 + (4 * qS P pa.length)) hK hP hD hS hA (o_rV (As := []) (rest := []) hf (bk_pc _ _ _ _ _ _ _ _ pr bk lf bop cf nx pa.length (qS P pa.length) 1 y9 y10 cn h_bk _) k_862 k_859 k_860 k_861 k_95 (nA := 0) (by decide +kernel) ⟨Nat.le_of_ble_eq_true rfl, Nat.le_of_ble_eq_true rfl⟩ hK hP hD hS hA hZ hN h_bk rfl rfl rfl hl.1 rfl (Nat.le_of_ble_eq_true rfl) dX9_pages_27 ⟨(show 0 + 2 + 0 ≤ 2 by omega), (show 0 + (4 * qS P pa.length) + 0 ≤ 4 * qS P pa.length by omega)⟩) (Nat.le_refl _) (Nat.le_refl _) (fun r H locs hw hP hD hS => ?_)
  obtain rfl := hw
  exact o_ri hf hr rfl hlocks hK hP hD hS (show 0 + 2 ≤ 2 by omega) (show 0 + (4 * qS P pa.length) ≤ 4 * qS P pa.length by omega) ⟨y9, y10, u1, u2, u3, u4, u5, u6, C, cn, rfl, hfr, hbk, h_lf⟩ dX9_pages_30
set_option maxHeartbeats 1000000 in
set_option maxRecDepth 100000 in
theorem d_pagesL (l : Launch) (D : va_G) (z : Nat → Nat) (cB cI_ cO : ClassId) (L0 : List Nat) (g0 : hG) (dk tp rd els reo nob pr bk gl sl mo gs : Nat) (h_dk : ho L0 g0 dk 1 (.inr (10, [.ref tp, .ref rd, .ref els, .ref reo, .ref nob, .ref pr, .ref bk, .ref gl, .ref sl, .int (nI mo), .int 1, .int (nI gs)])))  : eIs l D yX9_pages cX9_pages 1 (some .int) 0 0 0 0 [.ref dk] z cB cI_ cO L0 g0 (fun r => r = nI gs) := by
  refine o_si (by decide) (Nat.le_of_ble_eq_true rfl) ?_
  intro p e s m below meth c A ls hf hr hlocks hin hK hP hD hS hA hZ hN hl
  obtain ⟨hx, hb, hml, hown, hts⟩ := id hf
  have hl : lv_has ls 1 [(0, .ref dk)] := hl
  refine lv_aload_n hx hb dX9_pages_0 rfl (lv_at hl 0 rfl) ?_
  refine o_get (D := D) (ci := 10) (v := .int 1) (C := RX9) (T := TX9) (N := 12) hx hb hts inX9 hown hK hP h_dk rfl 10 (by decide) (hts _ k_439) (fun _ h9 => h9) rfl dX9_pages_1 ?_
  refine lv_if_eq (tgt := 12) hx hb dX9_pages_4 (by decide) (fun hno => absurd hno (by decide)) (fun _ => ?_)
  refine lv_aload_n hx hb dX9_pages_7 rfl (lv_at hl 0 rfl) ?_
  refine o_get (D := D) (ci := 10) (v := .int (nI gs)) (C := RX9) (T := TX9) (N := 12) hx hb hts inX9 hown hK hP h_dk rfl 11 (by decide) (hts _ k_440) (fun _ h9 => h9) rfl dX9_pages_8 ?_
  exact o_ri hf hr rfl hlocks hK hP hD hS (show 0 ≤ 0 by omega) (show 0 ≤ 0 by omega) ⟨rfl, rfl, rfl⟩ dX9_pages_11
set_option maxHeartbeats 1000000 in
set_option maxRecDepth 100000 in
theorem d_costL (l : Launch) (D : va_G) (z : Nat → Nat) (cB cI_ cO : ClassId) (L0 : List Nat) (g0 : hG) (dk tp rd els reo nob pr bk gl sl mo gs : Nat) (h_dk : ho L0 g0 dk 1 (.inr (10, [.ref tp, .ref rd, .ref els, .ref reo, .ref nob, .ref pr, .ref bk, .ref gl, .ref sl, .int (nI mo), .int 1, .int (nI gs)])))  : eIs l D yX9_cost cX9_cost 1 (some .int) 0 0 0 0 [.ref dk] z cB cI_ cO L0 g0 (fun r => r = -1) := by
  refine o_si (by decide) (Nat.le_of_ble_eq_true rfl) ?_
  intro p e s m below meth c A ls hf hr hlocks hin hK hP hD hS hA hZ hN hl
  obtain ⟨hx, hb, hml, hown, hts⟩ := id hf
  have hl : lv_has ls 1 [(0, .ref dk)] := hl
  refine lv_aload_n hx hb dX9_cost_0 rfl (lv_at hl 0 rfl) ?_
  refine o_get (D := D) (ci := 10) (v := .int 1) (C := RX9) (T := TX9) (N := 12) hx hb hts inX9 hown hK hP h_dk rfl 10 (by decide) (hts _ k_439) (fun _ h9 => h9) rfl dX9_cost_1 ?_
  refine lv_if_eq (tgt := 9) hx hb dX9_cost_4 (by decide) (fun hno => absurd hno (by decide)) (fun _ => ?_)
  refine lv_iconst (v := (-1)) hx hb dX9_cost_7 (by decide) ?_
  exact o_ri hf hr rfl hlocks hK hP hD hS (show 0 ≤ 0 by omega) (show 0 ≤ 0 by omega) ⟨rfl, rfl, rfl⟩ dX9_cost_8
set_option maxHeartbeats 1000000 in
set_option maxRecDepth 100000 in
theorem d_pageBL (l : Launch) (D : va_G) (z : Nat → Nat) (cB cI_ cO : ClassId) (L0 : List Nat) (g0 : hG) (dk tp rd els reo nob pr bk gl sl mo gs : Nat) (x1 : Int32) (w : Nat) (h_dk : ho L0 g0 dk 1 (.inr (10, [.ref tp, .ref rd, .ref els, .ref reo, .ref nob, .ref pr, .ref bk, .ref gl, .ref sl, .int (nI mo), .int 1, .int (nI gs)]))) (hw : w ≤ 6) : eIs l D yX9_page cX9_page 3 (some .int) 0 0 0 0 [.ref dk, .int x1, .int (nI w)] z cB cI_ cO L0 g0 (fun r => r = -3) := by
  refine o_si (by decide) (Nat.le_of_ble_eq_true rfl) ?_
  intro p e s m below meth c A ls hf hr hlocks hin hK hP hD hS hA hZ hN hl
  obtain ⟨hx, hb, hml, hown, hts⟩ := id hf
  have hl : lv_has ls 3 [(0, .ref dk), (1, .int x1), (2, .int (nI w))] := hl
  refine lv_iload_n hx hb dX9_page_0 rfl (lv_at hl 2 rfl) ?_
  refine lv_if_lt (tgt := 10) hx hb dX9_page_1 (by decide) (fun c_1 => ?_) (fun c_1 => ?_)
  · have c_1 := q_lt (a := w) (b := 0) (by omega) (by omega) c_1
    exact False.elim (by omega)
  · have c_1 := q_nlt (a := w) (b := 0) (by omega) (by omega) c_1
    refine lv_iload_n hx hb dX9_page_4 rfl (lv_at hl 2 rfl) ?_
    refine lv_bipush (v := 6) hx hb dX9_page_5 (by decide) ?_
    refine lv_icmp_le (tgt := 13) hx hb dX9_page_7 (by decide) (fun c_2 => ?_) (fun c_2 => ?_)
    · have c_2 := q_le (a := w) (b := 6) (by omega) (by omega) c_2
      refine lv_aload_n hx hb dX9_page_13 rfl (lv_at hl 0 rfl) ?_
      refine o_get (D := D) (ci := 10) (v := .int 1) (C := RX9) (T := TX9) (N := 12) hx hb hts inX9 hown hK hP h_dk rfl 10 (by decide) (hts _ k_439) (fun _ h9 => h9) rfl dX9_page_14 ?_
      refine lv_if_eq (tgt := 23) hx hb dX9_page_17 (by decide) (fun hno => absurd hno (by decide)) (fun _ => ?_)
      refine lv_bipush (v := (-3)) hx hb dX9_page_20 (by decide) ?_
      exact o_ri hf hr rfl hlocks hK hP hD hS (show 0 ≤ 0 by omega) (show 0 ≤ 0 by omega) ⟨rfl, rfl, rfl⟩ dX9_page_22
    · have c_2 := q_nle (a := w) (b := 6) (by omega) (by omega) c_2
      exact False.elim (by omega)
