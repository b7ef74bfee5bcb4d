theorem dX4_makeElements_0 : decode cX4_makeElements 0 = .ok (.iconst (-1), 1) := by decide +kernel
theorem dX4_makeElements_1 : decode cX4_makeElements 1 = .ok (.istore_n 2, 1) := by decide +kernel
theorem dX4_makeElements_2 : decode cX4_makeElements 2 = .ok (.iconst 0, 1) := by decide +kernel
theorem dX4_makeElements_3 : decode cX4_makeElements 3 = .ok (.istore_n 3, 1) := by decide +kernel
theorem dX4_makeElements_4 : decode cX4_makeElements 4 = .ok (.iconst 0, 1) := by decide +kernel
theorem dX4_makeElements_5 : decode cX4_makeElements 5 = .ok (.istore 4, 2) := by decide +kernel
theorem dX4_makeElements_7 : decode cX4_makeElements 7 = .ok (.aload_n 0, 1) := by decide +kernel
theorem dX4_makeElements_8 : decode cX4_makeElements 8 = .ok (.invokevirtual 15, 3) := by decide +kernel
theorem dX4_makeElements_11 : decode cX4_makeElements 11 = .ok (.iconst 0, 1) := by decide +kernel
theorem dX4_makeElements_12 : decode cX4_makeElements 12 = .ok (.istore 5, 2) := by decide +kernel
theorem dX4_makeElements_78 : decode cX4_makeElements 78 = .ok (.aload_n 0, 1) := by decide +kernel
theorem dX4_makeElements_79 : decode cX4_makeElements 79 = .ok (.aload_n 1, 1) := by decide +kernel
theorem dX4_makeElements_80 : decode cX4_makeElements 80 = .ok (.iload_n 2, 1) := by decide +kernel
theorem dX4_makeElements_81 : decode cX4_makeElements 81 = .ok (.iload_n 3, 1) := by decide +kernel
theorem dX4_makeElements_82 : decode cX4_makeElements 82 = .ok (.iload 4, 2) := by decide +kernel
theorem dX4_makeElements_84 : decode cX4_makeElements 84 = .ok (.invokevirtual 38, 3) := by decide +kernel
theorem dX4_makeElements_87 : decode cX4_makeElements 87 = .ok (.return_, 1) := by decide +kernel
set_option maxHeartbeats 1000000 in
set_option maxRecDepth 100000 in
theorem r_make (l : Launch) (D : va_G) (z : Nat → Nat) (cB cI_ cO : ClassId) (L0 : List Nat) (g0 : hG) (rd tp by_ n nx fm to_ : Nat) (T : Nat → Int32) (kd ka : Int32) (els cap0 B : Nat) (L_ : List (Nat × Nat)) (h_rd : ho L0 g0 rd 4 (.inr (5, [.ref tp, .int (nI nx), .int (nI fm), .int (nI to_), .int kd, .int ka]))) (h_tp : ho L0 g0 tp 2 (.inr (9, [.ref by_, .int (nI n)]))) (h_by : ho L0 g0 by_ 3 (.inl (cB, 1200, .inl T))) (h_els : alR cO (z 0) 5 6 L0 g0 els cap0 ([])) (h_es : elsR cB cI_ L0 g0 ([]) ([])) (hn : n ≤ 1200) (hTb : ∀ i, vp_nar .byte (T i) = T i) (eL : L_ = tx_ln T n (n + 1) 0) (hcnt : tx_cnt T L_ L_.length ≤ 60) (hB : 100 ≤ B) (hB2 : B ≤ 60000) (hcap0 : cap0 ≤ B) : eV l D yX4_makeElements cX4_makeElements 6 none 9 190 (4 * 61 + (B - cap0) / 5) (11 * 61 + 2 * (n + 2) + 4 * (B - cap0)) [.ref rd, .ref els] z cB cI_ cO L0 g0 (fun L g => ∃ (cap : Nat) (xs : List Nat) (Es : List E5) (x1 x2 x3 : Nat) (k1 k2 : Int32), tx_acc T L_ L_.length = acE Es ∧ nmR Es ∧ cap ≤ B ∧ fr [4, 5, 6, 9, 10, 11, 12] L0 g0 L g ∧ alR cO (z 0) 5 6 L g els cap xs ∧ elsR cB cI_ L g xs Es ∧ ho L g rd 4 (.inr (5, [.ref tp, .int (nI x1), .int (nI x2), .int (nI x3), .int k1, .int k2]))) := by
  refine o_sv (by decide) (Nat.le_of_ble_eq_true rfl) ?_
  intro p e s m below meth c A ls hf hr hlocks hin hK hP hD hS hA hZ hN hl
  obtain ⟨hx, hb, hml, hown, hts⟩ := id hf
  have hl : lv_has ls 6 [(0, .ref rd), (1, .ref els)] := hl
  have hfr : fr [4, 5, 6, 9, 10, 11, 12] L0 g0 L0 g0 := fr.rf
  refine lv_iconst (v := (-1)) hx hb dX4_makeElements_0 (by decide) ?_
  refine lv_istore_n (lv' := [(2, .int (-1)), (0, .ref rd), (1, .ref els)]) hx hb dX4_makeElements_1 rfl hl (by decide) rfl (fun ls hl => ?_)
  refine lv_iconst (v := 0) hx hb dX4_makeElements_2 (by decide) ?_
  refine lv_istore_n (lv' := [(3, .int 0), (2, .int (-1)), (0, .ref rd), (1, .ref els)]) hx hb dX4_makeElements_3 rfl hl (by decide) rfl (fun ls hl => ?_)
  refine lv_iconst (v := 0) hx hb dX4_makeElements_4 (by decide) ?_
  refine lv_istore (lv' := [(4, .int 0), (3, .int 0), (2, .int (-1)), (0, .ref rd), (1, .ref els)]) hx hb dX4_makeElements_5 hl (by decide) rfl (fun ls hl => ?_)
  refine lv_aload_n hx hb dX4_makeElements_7 rfl (lv_at hl 3 rfl) ?_
  refine o_cv (k := 0) (n := 0) hK hP hD hS hA (o_rV (As := []) (rest := []) hf (r_rewind _ _ _ _ _ _ _ _ rd tp by_ n nx fm to_ T kd ka h_rd _) k_501 k_498 k_500 k_6 k_86 (nA := 0) (by decide +kernel) ⟨Nat.le_of_ble_eq_true rfl, Nat.le_of_ble_eq_true rfl⟩ hK hP hD hS hA hZ hN h_rd rfl rfl rfl hl.1 rfl (Nat.le_of_ble_eq_true rfl) dX4_makeElements_8 ⟨(show 0 + 0 ≤ 4 * 61 + (B - cap0) / 5 by omega), (show 0 + 0 ≤ 11 * 61 + 2 * (n + 2) + 4 * (B - cap0) by omega)⟩) (Nat.le_refl _) (Nat.le_refl _) (fun L g H locs hw hP hD hS => ?_)
  obtain ⟨hf9, h_rd⟩ := hw
  have h_tp := h_tp.fr hf9 (by decide)
  have h_by := h_by.fr hf9 (by decide)
  have hfr := hfr.tm hf9 (by decide)
  have h_els := h_els.frd hf9 (by decide)
  have h_es := h_es.frd hf9 (by decide)
  refine lv_iconst (v := 0) hx hb dX4_makeElements_11 (by decide) ?_
  refine lv_istore (lv' := [(5, .int 0), (4, .int 0), (3, .int 0), (2, .int (-1)), (0, .ref rd), (1, .ref els)]) hx hb dX4_makeElements_12 hl (by decide) rfl (fun ls hl => ?_)
  have hop0 : opR T L_ n 0 0 0 0 0 [] := Or.inl ⟨rfl, rfl⟩
  refine mk_loop (L0 := L0) (g0 := g0) (L_ := L_) (B := B) (cE := 4 * 61 + (B - cap0) / 5) (sE := 11 * 61 + 2 * (n + 2) + 4 * (B - cap0)) hn hTb hcnt hB hB2 (Nat.le_refl _) (Nat.le_refl _) (Nat.le_of_ble_eq_true rfl) (Nat.le_of_ble_eq_true rfl) hA hf hK hZ hN n 0 0 (n + 1) fm to_ ka 0 0 cap0 [] [] 0 0 0 _ _ _ _ ls eL (by omega) (by omega) (by omega) hop0 (fun e9 h9 => absurd h9 (Nat.not_lt_zero e9)) hcap0 ⟨Nat.le_refl _, by decide, by decide, by decide⟩ (by show 0 + (4 * (61 - 0) + _) ≤ _; omega) (by show 0 + (11 * (61 - 0) + _ + _) ≤ _; omega) h_rd h_tp h_by h_els h_es hfr hP hD hS (lv_sub hl (l' := [(5, .int 0), (2, .int (-1)), (3, .int 0), (4, .int 0), (0, .ref rd), (1, .ref els)]) [0, 3, 2, 1, 4, 5] rfl) (fun nx2 fm2 to2 kd2 ka2 oF oT cap xs Es bs_ cells slots L g H locs ls hop hnm a3 hRc hRs h_rd h_tp h_by h_els h_es hfr hP hD hS hl => ?_)
  have hop1 := hop
  rcases hop with ⟨hk, hac⟩ | ⟨hk6, hbd, hgp, hac⟩
  · have hP := hP
    rw [hk] at hl
    refine lv_aload_n hx hb dX4_makeElements_78 rfl (lv_at hl 3 rfl) ?_
    refine lv_aload_n hx hb dX4_makeElements_79 rfl (lv_at hl 4 rfl) ?_
    refine lv_iload_n hx hb dX4_makeElements_80 rfl (lv_at hl 0 rfl) ?_
    refine lv_iload_n hx hb dX4_makeElements_81 rfl (lv_at hl 1 rfl) ?_
    refine lv_iload hx hb dX4_makeElements_82 (lv_at hl 2 rfl) ?_
    refine o_cvs (k := cells) (n := slots) hK hP hD hS hA (o_rV (As := [.ref els, .int (-1), .int (nI oF), .int (nI oT)]) (rest := []) hf (r_closeN _ _ _ _ _ _ _ _ rd tp by_ n nx2 fm2 to2 kd2 ka2 T els cap xs Es oF oT h_rd _) k_601 k_598 k_600 k_15 k_86 (nA := 4) (by decide +kernel) ⟨Nat.le_of_ble_eq_true rfl, Nat.le_of_ble_eq_true rfl⟩ hK hP hD hS hA hZ hN h_rd rfl rfl rfl hl.1 rfl (Nat.le_of_ble_eq_true rfl) dX4_makeElements_84 ⟨(show cells + 0 ≤ 4 * 61 + (B - cap0) / 5 by omega), (show slots + 0 ≤ 11 * 61 + 2 * (n + 2) + 4 * (B - cap0) by omega)⟩) (Nat.le_refl _) (Nat.le_refl _) (fun H locs hw hP hD hS => ?_)
    obtain _ := hw
    exact o_rv hf hr hlocks hK hP hD hS (show cells ≤ 4 * 61 + (B - cap0) / 5 by omega) (show slots ≤ 11 * 61 + 2 * (n + 2) + 4 * (B - cap0) by omega) ⟨cap, xs, Es, nx2, fm2, to2, kd2, ka2, hac, hnm, a3.1, hfr, h_els, h_es, h_rd⟩ dX4_makeElements_87
  · have hP := hP
    have hal := tx_acc_len T L_ L_.length
    have hcm := cnt_mo (T := T) (L := L_) (show L_.length ≤ L_.length by omega)
    rw [hac, List.length_cons, acE_len] at hal
    have hesl := h_es.1
    have hab := h_els.b
    have hnb := ncap_b hab.1 hab.2.2
    refine lv_aload_n hx hb dX4_makeElements_78 rfl (lv_at hl 3 rfl) ?_
    refine lv_aload_n hx hb dX4_makeElements_79 rfl (lv_at hl 4 rfl) ?_
    refine lv_iload_n hx hb dX4_makeElements_80 rfl (lv_at hl 0 rfl) ?_
    refine lv_iload_n hx hb dX4_makeElements_81 rfl (lv_at hl 1 rfl) ?_
    refine lv_iload hx hb dX4_makeElements_82 (lv_at hl 2 rfl) ?_
    refine o_cv (k := cells + (4 + gcel xs.length cap)) (n := slots + (9 + ((oT - oF) + (4 * ((oT - oF) / 20) + 2)) + gslo xs.length cap)) hK hP hD hS hA (o_rV (As := [.ref els, .int (ka_ T L_ L_.length), .int (nI oF), .int (nI oT)]) (rest := []) hf (r_close _ _ _ _ _ _ _ _ rd tp by_ n nx2 fm2 to2 kd2 ka2 T els cap xs Es (ka_ T L_ L_.length) oF oT h_rd h_tp h_by h_els h_es hn (by omega) (by omega) hTb hk6 (by omega) (by omega) _) k_601 k_598 k_600 k_15 k_86 (nA := 4) (by decide +kernel) ⟨Nat.le_of_ble_eq_true rfl, Nat.le_of_ble_eq_true rfl⟩ hK hP hD hS hA hZ hN h_rd rfl rfl rfl hl.1 rfl (Nat.le_of_ble_eq_true rfl) dX4_makeElements_84 ⟨(show cells + (4 + gcel xs.length cap) ≤ 4 * 61 + (B - cap0) / 5 by omega), (show slots + (9 + ((oT - oF) + (4 * ((oT - oF) / 20) + 2)) + gslo xs.length cap) ≤ 11 * 61 + 2 * (n + 2) + 4 * (B - cap0) by omega)⟩) (by omega) (by omega) (fun L g H locs hw hP hD hS => ?_)
    obtain ⟨x9, w2, X2, eX, hf9, h_els, h_es⟩ := hw
    have h_tp := h_tp.fr hf9 (by decide)
    have h_by := h_by.fr hf9 (by decide)
    have h_rd := h_rd.fr hf9 (by decide)
    have hfr := hfr.tm hf9 (by decide)
    exact o_rv hf hr hlocks hK hP hD hS (show cells + (4 + gcel xs.length cap) ≤ 4 * 61 + (B - cap0) / 5 by omega) (show slots + (9 + ((oT - oF) + (4 * ((oT - oF) / 20) + 2)) + gslo xs.length cap) ≤ 11 * 61 + 2 * (n + 2) + 4 * (B - cap0) by omega) ⟨_, _, _, nx2, fm2, to2, kd2, ka2, op_acc (n := n) (nx := nx2) (bs := bs_) hac eX, nmR_a hnm hesl, by omega, hfr, h_els, h_es, h_rd⟩ dX4_makeElements_87
