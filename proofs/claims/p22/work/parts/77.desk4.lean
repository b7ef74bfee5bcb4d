abbrev cX9_read : ByteArray := prog_1_method_4_code
def yX9_read : MethodName := ⟨RX9, "read", "()I"⟩
theorem k_19 : (Cond.selects RX9 yX9_standUnlocked yX9_standUnlocked) ∈ gT := gT_i 19 (by decide +kernel) rfl
theorem k_84 : (Cond.initialized RX9) ∈ gT := gT_i 84 (by decide +kernel) rfl
theorem k_430 : (Cond.fieldLink RX9 21 "ScriptDesk" "reader" "LScriptDesk$LineReader;") ∈ gT := gT_i 430 (by decide +kernel) rfl
theorem k_494 : (Cond.methodLink RX9 100 yX4_countElements) ∈ gT := gT_i 494 (by decide +kernel) rfl
theorem k_495 : (Cond.instanceMethod yX4_countElements) ∈ gT := gT_i 495 (by decide +kernel) rfl
theorem k_496 : (Cond.selects RX4 yX4_countElements yX4_countElements) ∈ gT := gT_i 496 (by decide +kernel) rfl
theorem k_497 : (Cond.code yX4_countElements cX4_countElements 3 (some .int)) ∈ gT := gT_i 497 (by decide +kernel) rfl
theorem k_590 : (Cond.methodLink RX9 103 yJx4a65c_clear_da8c8) ∈ gT := gT_i 590 (by decide +kernel) rfl
theorem k_594 : (Cond.methodLink RX9 106 yX4_makeElements) ∈ gT := gT_i 594 (by decide +kernel) rfl
theorem k_595 : (Cond.instanceMethod yX4_makeElements) ∈ gT := gT_i 595 (by decide +kernel) rfl
theorem k_596 : (Cond.selects RX4 yX4_makeElements yX4_makeElements) ∈ gT := gT_i 596 (by decide +kernel) rfl
theorem k_597 : (Cond.code yX4_makeElements cX4_makeElements 6 none) ∈ gT := gT_i 597 (by decide +kernel) rfl
theorem k_663 : (Cond.methodLink RX9 110 yX9_standUnlocked) ∈ gT := gT_i 663 (by decide +kernel) rfl
theorem k_665 : (Cond.instanceMethod yX9_standUnlocked) ∈ gT := gT_i 665 (by decide +kernel) rfl
theorem k_666 : (Cond.code yX9_standUnlocked cX9_standUnlocked 3 none) ∈ gT := gT_i 666 (by decide +kernel) rfl
theorem dX9_read_0 : decode cX9_read 0 = .ok (.aload_n 0, 1) := by decide +kernel
theorem dX9_read_1 : decode cX9_read 1 = .ok (.getfield 21, 3) := by decide +kernel
theorem dX9_read_4 : decode cX9_read 4 = .ok (.invokevirtual 100, 3) := by decide +kernel
theorem dX9_read_7 : decode cX9_read 7 = .ok (.bipush 60, 2) := by decide +kernel
theorem dX9_read_9 : decode cX9_read 9 = .ok (.if_icmp .le 6, 3) := by decide +kernel
theorem dX9_read_15 : decode cX9_read 15 = .ok (.aload_n 0, 1) := by decide +kernel
theorem dX9_read_16 : decode cX9_read 16 = .ok (.getfield 28, 3) := by decide +kernel
theorem dX9_read_19 : decode cX9_read 19 = .ok (.invokevirtual 103, 3) := by decide +kernel
theorem dX9_read_22 : decode cX9_read 22 = .ok (.aload_n 0, 1) := by decide +kernel
theorem dX9_read_23 : decode cX9_read 23 = .ok (.getfield 21, 3) := by decide +kernel
theorem dX9_read_26 : decode cX9_read 26 = .ok (.aload_n 0, 1) := by decide +kernel
theorem dX9_read_27 : decode cX9_read 27 = .ok (.getfield 28, 3) := by decide +kernel
theorem dX9_read_30 : decode cX9_read 30 = .ok (.invokevirtual 106, 3) := by decide +kernel
theorem dX9_read_33 : decode cX9_read 33 = .ok (.aload_n 0, 1) := by decide +kernel
theorem dX9_read_34 : decode cX9_read 34 = .ok (.getfield 10, 3) := by decide +kernel
theorem dX9_read_37 : decode cX9_read 37 = .ok (.iconst 0, 1) := by decide +kernel
theorem dX9_read_38 : decode cX9_read 38 = .ok (.invokevirtual 97, 3) := by decide +kernel
theorem dX9_read_41 : decode cX9_read 41 = .ok (.aload_n 0, 1) := by decide +kernel
theorem dX9_read_42 : decode cX9_read 42 = .ok (.invokevirtual 110, 3) := by decide +kernel
theorem dX9_read_45 : decode cX9_read 45 = .ok (.aload_n 0, 1) := by decide +kernel
theorem dX9_read_46 : decode cX9_read 46 = .ok (.getfield 28, 3) := by decide +kernel
theorem dX9_read_49 : decode cX9_read 49 = .ok (.invokevirtual 113, 3) := by decide +kernel
theorem dX9_read_52 : decode cX9_read 52 = .ok (.ireturn, 1) := by decide +kernel
theorem dX9_read_12 : decode cX9_read 12 = .ok (.bipush (-4), 2) := by decide +kernel
theorem dX9_read_14 : decode cX9_read 14 = .ok (.ireturn, 1) := by decide +kernel
set_option maxHeartbeats 1000000 in
set_option maxRecDepth 100000 in
theorem d_read (l : Launch) (D : va_G) (z : Nat → Nat) (cB cI_ cO : ClassId) (L0 : List Nat) (g0 : hG) (dk tp rd els reo nob pr bk gl sl mo : Nat) (lf bop cf nx bn bs pcs spr nwh cp cs cap B SN by_ n r1 r2 r3 : Nat) (y7 y8 y9 y10 v10 v11 r4 r5 : Int32) (pa sa xs : List Nat) (ea : Nat → Nat) (P : List Q4) (Es : List E5) (T : Nat → Int32) (L_ : List (Nat × Nat)) (h_dk : ho L0 g0 dk 1 (.inr (10, [.ref tp, .ref rd, .ref els, .ref reo, .ref nob, .ref pr, .ref bk, .ref gl, .ref sl, .int (nI mo), .int v10, .int v11]))) (h_pr : ho L0 g0 pr 13 (.inr (7, [.ref pcs, .ref spr, .ref nwh]))) (h_pcs : alR cO (z 0) 14 15 L0 g0 pcs cp pa) (h_spr : alR cO (z 0) 16 17 L0 g0 spr cs sa) (h_pc : pcR L0 g0 ea pa P) (h_sp : spR L0 g0 sa) (h_els : alR cO (z 0) 5 6 L0 g0 els cap xs) (h_es : elsR cB cI_ L0 g0 xs Es) (h_bk : ho L0 g0 bk 21 (.inr (1, [.ref pr, .ref lf, .ref bop, .int (nI bn), .int (nI bs), .ref cf, .ref nx, .int y7, .int y8, .int y9, .int y10]))) (h_rd : ho L0 g0 rd 4 (.inr (5, [.ref tp, .int (nI r1), .int (nI r2), .int (nI r3), .int r4, .int r5]))) (h_tp : ho L0 g0 tp 2 (.inr (9, [.ref by_, .int (nI n)]))) (h_by : ho L0 g0 by_ 3 (.inl (cB, 1200, .inl T))) (hpa : pa.length ≤ 20000) (hcap : cap ≤ B) (hB : 100 ≤ B) (hB2 : B ≤ 60000) (hSN : SN ≤ 10000) (hSN1 : 60 ≤ SN) (hcs : cs ≤ B) (hcp : cp ≤ B) (hBs2 : 3 * SN ≤ 2 * B) (hsn : pa.length + sa.length ≤ SN) (hnd0 : (pa ++ sa).Nodup) (hn : n ≤ 1200) (hTb : ∀ i, vp_nar .byte (T i) = T i) (eL : L_ = tx_ln T n (n + 1) 0) (hLl : L_.length ≤ 1200) : eI l D yX9_read cX9_read 1 (some .int) 10 243 (4 * 61 + (B - cap) / 5 + (B / 5 + (60 + (B - cp) / 5))) (11 * 61 + 2 * (n + 2) + 4 * (B - cap) + (4 * B + (240 + 4 * (B - cp)))) [.ref dk] z cB cI_ cO L0 g0 (fun r L g => ((60 < tx_cnt T L_ L_.length ∧ r = (-4) ∧ ∃ (z1 z2 z3 : Nat) (k1 k2 : Int32), fr [4] L0 g0 L g ∧ ho L g rd 4 (.inr (5, [.ref tp, .int (nI z1), .int (nI z2), .int (nI z3), .int k1, .int k2]))) ∨ (tx_cnt T L_ L_.length ≤ 60 ∧ ∃ (cap2 t1 t2 t3 cp2 cs2 : Nat) (k3 k4 : Int32) (xs2 pa2 sa2 : List Nat) (Es2 : List E5), r = nI xs2.length ∧ tx_acc T L_ L_.length = acE Es2 ∧ nmR Es2 ∧ cap2 ≤ B ∧ (pa2 ++ sa2).Nodup ∧ (pa2.length = xs2.length ∧ pa2.length + sa2.length ≤ SN ∧ cp2 ≤ B) ∧ cs2 ≤ B ∧ fr [1, 2, 4, 5, 6, 9, 10, 11, 12, 14, 15, 16, 17, 18, 21] L0 g0 L g ∧ ho L g dk 1 (.inr (10, [.ref tp, .ref rd, .ref els, .ref reo, .ref nob, .ref pr, .ref bk, .ref gl, .ref sl, .int (nI mo), .int 0, .int 0])) ∧ alR cO (z 0) 14 15 L g pcs cp2 pa2 ∧ alR cO (z 0) 16 17 L g spr cs2 sa2 ∧ pcR L g (fun e => xs2.getD e 0) pa2 (upP Es2 xs2.length) ∧ spR L g sa2 ∧ ho L g bk 21 (.inr (1, [.ref pr, .ref lf, .ref bop, .int (nI bn), .int (nI bs), .ref cf, .ref nx, .int 0, .int y8, .int y9, .int y10])) ∧ alR cO (z 0) 5 6 L g els cap2 xs2 ∧ elsR cB cI_ L g xs2 Es2 ∧ ho L g rd 4 (.inr (5, [.ref tp, .int (nI t1), .int (nI t2), .int (nI t3), .int k3, .int k4])) ∧ ho L g tp 2 (.inr (9, [.ref by_, .int (nI 0)]))))) := by
  refine o_si (by decide) (Nat.le_of_ble_eq_true rfl) ?_
  intro p e s m below meth c A ls hf hr hlocks hin hK hP hD hS hA hZ hN hl
  obtain ⟨hx, hb, hml, hown, hts⟩ := id hf
  have hl : lv_has ls 1 [(0, .ref dk)] := hl
  have hfr : fr [1, 2, 4, 5, 6, 9, 10, 11, 12, 14, 15, 16, 17, 18, 21] L0 g0 L0 g0 := fr.rf
  refine lv_aload_n hx hb dX9_read_0 rfl (lv_at hl 0 rfl) ?_
  refine o_get (D := D) (ci := 10) (v := .ref rd) (C := RX9) (T := TX9) (N := 12) hx hb hts inX9 hown hK hP h_dk rfl 1 (by decide) (hts _ k_430) (fun _ h9 => h9) rfl dX9_read_1 ?_
  refine o_ci (k := 0) (n := 0) hK hP hD hS hA (o_rV (As := []) (rest := []) hf (r_count _ _ _ _ _ _ _ _ rd tp by_ n r1 r2 r3 T r4 r5 h_rd h_tp h_by hn _) k_497 k_494 k_495 k_496 k_86 (nA := 0) (by decide +kernel) ⟨Nat.le_of_ble_eq_true rfl, Nat.le_of_ble_eq_true rfl⟩ hK hP hD hS hA hZ hN h_rd rfl rfl rfl hl.1 rfl (Nat.le_of_ble_eq_true rfl) dX9_read_4 ⟨(show 0 + 0 ≤ 4 * 61 + (B - cap) / 5 + (B / 5 + (60 + (B - cp) / 5)) by omega), (show 0 + 0 ≤ 11 * 61 + 2 * (n + 2) + 4 * (B - cap) + (4 * B + (240 + 4 * (B - cp))) by omega)⟩) (Nat.le_refl _) (Nat.le_refl _) (fun r L g H locs hw hP hD hS => ?_)
  obtain ⟨rfl, z1, z2, z3, k1, k2, hf9, h_rd⟩ := hw
  have h_dk := h_dk.fr hf9 (by decide)
  have h_pr := h_pr.fr hf9 (by decide)
  have h_bk := h_bk.fr hf9 (by decide)
  have h_tp := h_tp.fr hf9 (by decide)
  have h_by := h_by.fr hf9 (by decide)
  have hfr := hfr.tm hf9 (by decide)
  have h_pcs := h_pcs.frd hf9 (by decide)
  have h_spr := h_spr.frd hf9 (by decide)
  have h_pc := h_pc.frd hf9 (by decide)
  have h_sp := h_sp.frd hf9 (by decide)
  have h_els := h_els.frd hf9 (by decide)
  have h_es := h_es.frd hf9 (by decide)
  refine q_seti (y := nI (tx_cnt T L_ L_.length)) (by rw [eL]) ?_
  have hc9 := tx_cnt_le T L_ L_.length
  have hfr4_ := hf9
  refine lv_bipush (v := 60) hx hb dX9_read_7 (by decide) ?_
  refine lv_icmp_le (tgt := 15) hx hb dX9_read_9 (by decide) (fun c_1 => ?_) (fun c_1 => ?_)
  · have c_1 := q_le (a := (tx_cnt T L_ L_.length)) (b := 60) (by omega) (by omega) c_1
    refine lv_aload_n hx hb dX9_read_15 rfl (lv_at hl 0 rfl) ?_
    refine o_get (D := D) (ci := 10) (v := .ref els) (C := RX9) (T := TX9) (N := 12) hx hb hts inX9 hown hK hP h_dk rfl 2 (by decide) (hts _ k_431) (fun _ h9 => h9) rfl dX9_read_16 ?_
    obtain ⟨mc9, d9, h_al9⟩ := h_els.al
    refine o_cv (k := 0) (n := 0) hK hP hD hS hA (o_rV (As := []) (rest := []) hf (li_clr _ _ _ _ _ _ _ _ els 5 6 cap xs h_els (by decide) _) k_593 k_590 k_591 k_592 k_89 (nA := 0) (by decide +kernel) ⟨Nat.le_of_ble_eq_true rfl, Nat.le_of_ble_eq_true rfl⟩ hK hP hD hS hA hZ hN h_al9 rfl rfl rfl hl.1 rfl (Nat.le_of_ble_eq_true rfl) dX9_read_19 ⟨(show 0 + 0 ≤ 4 * 61 + (B - cap) / 5 + (B / 5 + (60 + (B - cp) / 5)) by omega), (show 0 + 0 ≤ 11 * 61 + 2 * (n + 2) + 4 * (B - cap) + (4 * B + (240 + 4 * (B - cp))) by omega)⟩) (Nat.le_refl _) (Nat.le_refl _) (fun L g H locs hw hP hD hS => ?_)
    obtain ⟨hf9, h_els⟩ := hw
    have h_dk := h_dk.fr hf9 (by decide)
    have h_pr := h_pr.fr hf9 (by decide)
    have h_bk := h_bk.fr hf9 (by decide)
    have h_tp := h_tp.fr hf9 (by decide)
    have h_by := h_by.fr hf9 (by decide)
    have h_rd := h_rd.fr hf9 (by decide)
    have hfr := hfr.tm hf9 (by decide)
    have h_pcs := h_pcs.frd hf9 (by decide)
    have h_spr := h_spr.frd hf9 (by decide)
    have h_pc := h_pc.frd hf9 (by decide)
    have h_sp := h_sp.frd hf9 (by decide)
    have h_es := h_es.frd hf9 (by decide)
    have h_es : elsR cB cI_ L g [] [] := ⟨rfl, List.nodup_nil, fun e9 h9 => absurd h9 (Nat.not_lt_zero e9)⟩
    refine lv_aload_n hx hb dX9_read_22 rfl (lv_at hl 0 rfl) ?_
    refine o_get (D := D) (ci := 10) (v := .ref rd) (C := RX9) (T := TX9) (N := 12) hx hb hts inX9 hown hK hP h_dk rfl 1 (by decide) (hts _ k_430) (fun _ h9 => h9) rfl dX9_read_23 ?_
    refine lv_aload_n hx hb dX9_read_26 rfl (lv_at hl 0 rfl) ?_
    refine o_get (D := D) (ci := 10) (v := .ref els) (C := RX9) (T := TX9) (N := 12) hx hb hts inX9 hown hK hP h_dk rfl 2 (by decide) (hts _ k_431) (fun _ h9 => h9) rfl dX9_read_27 ?_
    refine o_cv (k := 0 + (4 * 61 + (B - cap) / 5)) (n := 0 + (11 * 61 + 2 * (n + 2) + 4 * (B - cap))) hK hP hD hS hA (o_rV (As := [.ref els]) (rest := []) hf (r_make _ _ _ _ _ _ _ _ rd tp by_ n z1 z2 z3 T k1 k2 els cap B L_ h_rd h_tp h_by h_els h_es hn hTb eL (by omega) hB hB2 hcap _) k_597 k_594 k_595 k_596 k_86 (nA := 1) (by decide +kernel) ⟨Nat.le_of_ble_eq_true rfl, Nat.le_of_ble_eq_true rfl⟩ hK hP hD hS hA hZ hN h_rd rfl rfl rfl hl.1 rfl (Nat.le_of_ble_eq_true rfl) dX9_read_30 ⟨(show 0 + (4 * 61 + (B - cap) / 5) ≤ 4 * 61 + (B - cap) / 5 + (B / 5 + (60 + (B - cp) / 5)) by omega), (show 0 + (11 * 61 + 2 * (n + 2) + 4 * (B - cap)) ≤ 11 * 61 + 2 * (n + 2) + 4 * (B - cap) + (4 * B + (240 + 4 * (B - cp))) by omega)⟩) (by omega) (by omega) (fun L g H locs hw hP hD hS => ?_)
    obtain ⟨cap2, xs2, Es2, t1, t2, t3, k3, k4, hac, hnm, hcap2, hf9, h_els, h_es, h_rd⟩ := hw
    have h_dk := h_dk.fr hf9 (by decide)
    have h_pr := h_pr.fr hf9 (by decide)
    have h_bk := h_bk.fr hf9 (by decide)
    have h_tp := h_tp.fr hf9 (by decide)
    have h_by := h_by.fr hf9 (by decide)
    have hfr := hfr.tm hf9 (by decide)
    have h_pcs := h_pcs.frd hf9 (by decide)
    have h_spr := h_spr.frd hf9 (by decide)
    have h_pc := h_pc.frd hf9 (by decide)
    have h_sp := h_sp.frd hf9 (by decide)
    have hal := tx_acc_len T L_ L_.length
    rw [hac, acE_len] at hal
    have hesl := h_es.1
    refine lv_aload_n hx hb dX9_read_33 rfl (lv_at hl 0 rfl) ?_
    refine o_get (D := D) (ci := 10) (v := .ref tp) (C := RX9) (T := TX9) (N := 12) hx hb hts inX9 hown hK hP h_dk rfl 0 (by decide) (hts _ k_429) (fun _ h9 => h9) rfl dX9_read_34 ?_
    refine lv_iconst (v := 0) hx hb dX9_read_37 (by decide) ?_
    refine o_cv (k := 0 + (4 * 61 + (B - cap) / 5)) (n := 0 + (11 * 61 + 2 * (n + 2) + 4 * (B - cap))) hK hP hD hS hA (o_rV (As := [.int 0]) (rest := []) hf (t_keep _ _ _ _ _ _ _ _ tp by_ n T 0 h_tp hn (by omega) _) k_489 k_486 k_487 k_488 k_85 (nA := 1) (by decide +kernel) ⟨Nat.le_of_ble_eq_true rfl, Nat.le_of_ble_eq_true rfl⟩ hK hP hD hS hA hZ hN h_tp rfl rfl rfl hl.1 rfl (Nat.le_of_ble_eq_true rfl) dX9_read_38 ⟨(show 0 + (4 * 61 + (B - cap) / 5) + 0 ≤ 4 * 61 + (B - cap) / 5 + (B / 5 + (60 + (B - cp) / 5)) by omega), (show 0 + (11 * 61 + 2 * (n + 2) + 4 * (B - cap)) + 0 ≤ 11 * 61 + 2 * (n + 2) + 4 * (B - cap) + (4 * B + (240 + 4 * (B - cp))) by omega)⟩) (Nat.le_refl _) (Nat.le_refl _) (fun L g H locs hw hP hD hS => ?_)
    obtain ⟨n1, en1, hf9, h_tp⟩ := hw
    have h_dk := h_dk.fr hf9 (by decide)
    have h_pr := h_pr.fr hf9 (by decide)
    have h_bk := h_bk.fr hf9 (by decide)
    have h_by := h_by.fr hf9 (by decide)
    have h_rd := h_rd.fr hf9 (by decide)
    have hfr := hfr.tm hf9 (by decide)
    have h_pcs := h_pcs.frd hf9 (by decide)
    have h_spr := h_spr.frd hf9 (by decide)
    have h_pc := h_pc.frd hf9 (by decide)
    have h_sp := h_sp.frd hf9 (by decide)
    have h_els := h_els.frd hf9 (by decide)
    have h_es := h_es.frd hf9 (by decide)
    have en2 : n1 = 0 := by rw [en1]; by_cases h9 : 0 < n; (· rw [if_pos h9]); rw [if_neg h9]; omega
    rw [en2] at h_tp
    refine lv_aload_n hx hb dX9_read_41 rfl (lv_at hl 0 rfl) ?_
    refine o_cv (k := 0 + (4 * 61 + (B - cap) / 5) + (B / 5 + (60 + (B - cp) / 5))) (n := 0 + (11 * 61 + 2 * (n + 2) + 4 * (B - cap)) + (4 * B + (240 + 4 * (B - cp)))) hK hP hD hS hA (o_rV (As := []) (rest := []) hf (d_stand _ _ _ _ _ _ _ _ dk tp rd els reo nob pr bk gl sl mo lf bop cf nx bn bs pcs spr nwh cp cs cap2 B SN y7 y8 y9 y10 v10 v11 pa sa xs2 ea P Es2 h_dk h_pr h_pcs h_spr h_pc h_sp h_els h_es h_bk hpa (by omega) hB hB2 hSN hSN1 hcs hcp hBs2 hsn hnd0 _) k_666 k_663 k_665 k_19 k_84 (nA := 0) (by decide +kernel) ⟨Nat.le_of_ble_eq_true rfl, Nat.le_of_ble_eq_true rfl⟩ hK hP hD hS hA hZ hN h_dk rfl rfl rfl hl.1 rfl (Nat.le_of_ble_eq_true rfl) dX9_read_42 ⟨(show 0 + (4 * 61 + (B - cap) / 5) + (B / 5 + (60 + (B - cp) / 5)) ≤ 4 * 61 + (B - cap) / 5 + (B / 5 + (60 + (B - cp) / 5)) by omega), (show 0 + (11 * 61 + 2 * (n + 2) + 4 * (B - cap)) + (4 * B + (240 + 4 * (B - cp))) ≤ 11 * 61 + 2 * (n + 2) + 4 * (B - cap) + (4 * B + (240 + 4 * (B - cp))) by omega)⟩) (by omega) (by omega) (fun L g H locs hw hP hD hS => ?_)
    obtain ⟨pa2, sa2, cp2, cs2, b1, b2, b3, hf9, h_dk, h_pcs, h_spr, h_pc, h_sp, h_bk⟩ := hw
    have h_pr := h_pr.fr hf9 (by decide)
    have h_by := h_by.fr hf9 (by decide)
    have h_rd := h_rd.fr hf9 (by decide)
    have h_tp := h_tp.fr hf9 (by decide)
    have hfr := hfr.tm hf9 (by decide)
    have h_els := h_els.frd hf9 (by decide)
    have h_es := h_es.frd hf9 (by decide)
    refine lv_aload_n hx hb dX9_read_45 rfl (lv_at hl 0 rfl) ?_
    refine o_get (D := D) (ci := 10) (v := .ref els) (C := RX9) (T := TX9) (N := 12) hx hb hts inX9 hown hK hP h_dk rfl 2 (by decide) (hts _ k_431) (fun _ h9 => h9) rfl dX9_read_46 ?_
    obtain ⟨mc9, d9, h_al9⟩ := h_els.al
    refine o_cis (k := 0 + (4 * 61 + (B - cap) / 5) + (B / 5 + (60 + (B - cp) / 5))) (n := 0 + (11 * 61 + 2 * (n + 2) + 4 * (B - cap)) + (4 * B + (240 + 4 * (B - cp)))) hK hP hD hS hA (o_rV (As := []) (rest := []) hf (li_size _ _ _ _ _ _ _ _ els 5 6 cap2 xs2 h_els _) k_606 k_686 k_604 k_605 k_89 (nA := 0) (by decide +kernel) ⟨Nat.le_of_ble_eq_true rfl, Nat.le_of_ble_eq_true rfl⟩ hK hP hD hS hA hZ hN h_al9 rfl rfl rfl hl.1 rfl (Nat.le_of_ble_eq_true rfl) dX9_read_49 ⟨(show 0 + (4 * 61 + (B - cap) / 5) + (B / 5 + (60 + (B - cp) / 5)) + 0 ≤ 4 * 61 + (B - cap) / 5 + (B / 5 + (60 + (B - cp) / 5)) by omega), (show 0 + (11 * 61 + 2 * (n + 2) + 4 * (B - cap)) + (4 * B + (240 + 4 * (B - cp))) + 0 ≤ 11 * 61 + 2 * (n + 2) + 4 * (B - cap) + (4 * B + (240 + 4 * (B - cp))) by omega)⟩) (Nat.le_refl _) (Nat.le_refl _) (fun r H locs hw hP hD hS => ?_)
    obtain rfl := hw
    exact o_ri hf hr rfl hlocks hK hP hD hS (show 0 + (4 * 61 + (B - cap) / 5) + (B / 5 + (60 + (B - cp) / 5)) ≤ 4 * 61 + (B - cap) / 5 + (B / 5 + (60 + (B - cp) / 5)) by omega) (show 0 + (11 * 61 + 2 * (n + 2) + 4 * (B - cap)) + (4 * B + (240 + 4 * (B - cp))) ≤ 11 * 61 + 2 * (n + 2) + 4 * (B - cap) + (4 * B + (240 + 4 * (B - cp))) by omega) (Or.inr ⟨by omega, cap2, t1, t2, t3, cp2, cs2, k3, k4, xs2, pa2, sa2, Es2, rfl, hac, hnm, hcap2, b1, b2, b3, hfr, h_dk, h_pcs, h_spr, h_pc, h_sp, h_bk, h_els, h_es, h_rd, h_tp⟩) dX9_read_52
  · have c_1 := q_nle (a := (tx_cnt T L_ L_.length)) (b := 60) (by omega) (by omega) c_1
    refine lv_bipush (v := (-4)) hx hb dX9_read_12 (by decide) ?_
    have hfr4 := hfr4_
    exact o_ri hf hr rfl hlocks hK hP hD hS (show 0 ≤ 4 * 61 + (B - cap) / 5 + (B / 5 + (60 + (B - cp) / 5)) by omega) (show 0 ≤ 11 * 61 + 2 * (n + 2) + 4 * (B - cap) + (4 * B + (240 + 4 * (B - cp))) by omega) (Or.inl ⟨by omega, rfl, z1, z2, z3, k1, k2, hfr4, h_rd⟩) dX9_read_14
