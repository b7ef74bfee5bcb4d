theorem dX10_bestEnd_0 : decode cX10_bestEnd 0 = .ok (.aload_n 0, 1) := by decide +kernel
theorem dX10_bestEnd_1 : decode cX10_bestEnd 1 = .ok (.getfield 71, 3) := by decide +kernel
theorem dX10_bestEnd_4 : decode cX10_bestEnd 4 = .ok (.iload_n 1, 1) := by decide +kernel
theorem dX10_bestEnd_5 : decode cX10_bestEnd 5 = .ok (.iaload, 1) := by decide +kernel
theorem dX10_bestEnd_6 : decode cX10_bestEnd 6 = .ok (.iload_n 2, 1) := by decide +kernel
theorem dX10_bestEnd_7 : decode cX10_bestEnd 7 = .ok (.iadd, 1) := by decide +kernel
theorem dX10_bestEnd_8 : decode cX10_bestEnd 8 = .ok (.istore_n 3, 1) := by decide +kernel
theorem dX10_bestEnd_9 : decode cX10_bestEnd 9 = .ok (.aload_n 0, 1) := by decide +kernel
theorem dX10_bestEnd_10 : decode cX10_bestEnd 10 = .ok (.getfield 74, 3) := by decide +kernel
theorem dX10_bestEnd_13 : decode cX10_bestEnd 13 = .ok (.iload_n 3, 1) := by decide +kernel
theorem dX10_bestEnd_14 : decode cX10_bestEnd 14 = .ok (.iconst (-1), 1) := by decide +kernel
theorem dX10_bestEnd_15 : decode cX10_bestEnd 15 = .ok (.iastore, 1) := by decide +kernel
theorem dX10_bestEnd_16 : decode cX10_bestEnd 16 = .ok (.aload_n 0, 1) := by decide +kernel
theorem dX10_bestEnd_17 : decode cX10_bestEnd 17 = .ok (.iload_n 1, 1) := by decide +kernel
theorem dX10_bestEnd_18 : decode cX10_bestEnd 18 = .ok (.iload_n 2, 1) := by decide +kernel
theorem dX10_bestEnd_19 : decode cX10_bestEnd 19 = .ok (.iconst 0, 1) := by decide +kernel
theorem dX10_bestEnd_20 : decode cX10_bestEnd 20 = .ok (.invokevirtual 201, 3) := by decide +kernel
theorem dX10_bestEnd_23 : decode cX10_bestEnd 23 = .ok (.istore 4, 2) := by decide +kernel
theorem dX10_bestEnd_25 : decode cX10_bestEnd 25 = .ok (.iload_n 1, 1) := by decide +kernel
theorem dX10_bestEnd_26 : decode cX10_bestEnd 26 = .ok (.istore 5, 2) := by decide +kernel
theorem dX10_bestEnd_28 : decode cX10_bestEnd 28 = .ok (.iload_n 2, 1) := by decide +kernel
theorem dX10_bestEnd_29 : decode cX10_bestEnd 29 = .ok (.istore 6, 2) := by decide +kernel
theorem dX10_bestEnd_364 : decode cX10_bestEnd 364 = .ok (.return_, 1) := by decide +kernel
set_option maxHeartbeats 1000000 in
set_option maxRecDepth 100000 in
theorem r_bestEnd (l : Launch) (D : va_G) (h0 : Nat) (q : Nat → Nat) (cB cI_ cZ : ClassId) (I : Nat → Int32) (F : Nat → Nat → Int32) (pn : Nat) (pe sl : Nat → Nat) (K : Nat → Int32) (Fm To Rr : Nat → Nat) (p0 r0 mo : Nat) (C : Nat → Option Q4) (hpv : rp_ok F pn pe sl K Fm To Rr) (hI2 : I 2 = nI mo) (hI14 : I 14 = nI pn) (hmo : mo ≤ 40) (hp0 : p0 < pn) (hr0 : r0 < To p0 - Fm p0) (hSS : rs_S Fm To pn ≤ 8000) (hSt : ∀ p, p ≤ pn → F 30 p = nI (rs_S Fm To p)) (hC : bk_tab Fm To pn C (rs_S Fm To p0 + r0 + 1) (F 31) (F 32) (F 33) (F 34)) : cV l D yX10_bestEnd cX10_bestEnd 13 none 3 80 0 0 [.ref h0, .int (nI p0), .int (nI r0)] zT (mW h0 q cB cI_ cZ I F) (mT cB cI_ cZ) (fun u => ∃ (w1 w2 w3 w4 : Nat → Int32), bk_tab Fm To pn (va_up C (rs_S Fm To p0 + r0) (bk_lay C K Fm To Rr p0 r0 pn mo 41 p0 r0 (pb (rp_ra (K p0) (Fm p0) p0 r0 0)) none)) (rs_S Fm To p0 + r0) w1 w2 w3 w4 ∧ u = (mW h0 q cB cI_ cZ I (va_up (va_up (va_up (va_up F 31 w1) 32 w2) 33 w3) 34 w4), mT cB cI_ cZ)) := by
  refine q_sv (by decide) (Nat.le_of_ble_eq_true rfl) ?_
  intro p e s m below meth c A ls hAe hf hr hlocks hin hK hP hD hS hA hZ hl
  obtain ⟨hx, hb, hml, hown, hts⟩ := id hf
  have hl : lv_has ls 13 [(0, .ref h0), (1, .int (nI p0)), (2, .int (nI r0))] := hl
  have hpn8 := hpv.1
  have hpv0 := hpv.2 p0 (by omega)
  have hs3 := rs_S_le (Fm := Fm) (To := To) hp0
  have hC2 : bk_tab Fm To pn C (rs_S Fm To p0 + r0 + 1) (upd (F 31) (rs_S Fm To p0 + r0) (-1)) (F 32) (F 33) (F 34) := fun j h3 h4 => by rw [pk_un (by omega)]; exact hC j h3 h4
  refine lv_aload_n hx hb dX10_bestEnd_0 rfl (lv_at hl 0 rfl) ?_
  refine va_get (D := D) (ci := 11) (v := .ref (q 30)) (C := RX10) (T := TX10) (N := 48) hx hb hts inX10 hown hK hP 0 rfl rfl 30 (by decide) (hts _ k_1174) (fun _ h9 => h9) rfl dX10_bestEnd_1 ?_
  refine lv_iload_n hx hb dX10_bestEnd_4 rfl (lv_at hl 1 rfl) ?_
  refine q_ild (X := p0) (f := (F 30)) hx hb hK hP 19 1 rfl rfl (by omega) (by decide) dX10_bestEnd_5 ?_
  refine q_seti (y := (nI (rs_S Fm To p0))) (hSt p0 (by omega)) ?_
  refine lv_iload_n hx hb dX10_bestEnd_6 rfl (lv_at hl 2 rfl) ?_
  refine lv_iadd hx hb dX10_bestEnd_7 ?_
  refine q_seti (y := nI ((rs_S Fm To p0) + r0)) (nI_add (rs_S Fm To p0) r0) ?_
  refine q_seti (y := nI (rs_S Fm To p0 + r0)) (congrArg nI (show (rs_S Fm To p0) + r0 = rs_S Fm To p0 + r0 by omega)) ?_
  refine lv_istore_n (lv' := [(3, .int (nI (rs_S Fm To p0 + r0))), (0, .ref h0), (1, .int (nI p0)), (2, .int (nI r0))]) hx hb dX10_bestEnd_8 rfl hl (by decide) rfl (fun ls hl => ?_)
  refine lv_aload_n hx hb dX10_bestEnd_9 rfl (lv_at hl 1 rfl) ?_
  refine va_get (D := D) (ci := 11) (v := .ref (q 31)) (C := RX10) (T := TX10) (N := 48) hx hb hts inX10 hown hK hP 0 rfl rfl 31 (by decide) (hts _ k_1175) (fun _ h9 => h9) rfl dX10_bestEnd_10 ?_
  refine lv_iload_n hx hb dX10_bestEnd_13 rfl (lv_at hl 0 rfl) ?_
  refine lv_iconst (v := (-1)) hx hb dX10_bestEnd_14 (by decide) ?_
  refine q_ist (X := rs_S Fm To p0 + r0) (f := (F 31)) (x := (-1)) hx hb hK hP hD hS 20 1 rfl rfl (by omega) (by decide) dX10_bestEnd_15 (fun H locs hP hD hS => ?_)
  have hP : va_P D vcl (mW h0 q cB cI_ cZ I (va_up F 31 (upd (F 31) (rs_S Fm To p0 + r0) (-1)))) H := hP
  have hD : va_D A (mW h0 q cB cI_ cZ I (va_up F 31 (upd (F 31) (rs_S Fm To p0 + r0) (-1)))) := hD
  refine lv_aload_n hx hb dX10_bestEnd_16 rfl (lv_at hl 1 rfl) ?_
  refine lv_iload_n hx hb dX10_bestEnd_17 rfl (lv_at hl 2 rfl) ?_
  refine lv_iload_n hx hb dX10_bestEnd_18 rfl (lv_at hl 3 rfl) ?_
  refine lv_iconst (v := 0) hx hb dX10_bestEnd_19 (by decide) ?_
  refine q_ci (k := 0) (n := 0) hK hP hD hS hA (fun hPc hKc hDc => q_rV (As := [.int (nI p0), .int (nI r0), .int 0]) (rest := []) hf (r_rowsAhead _ D h0 q cB cI_ cZ I (va_up F 31 (upd (F 31) (rs_S Fm To p0 + r0) (-1))) pn pe sl K Fm To Rr p0 r0 0 hpv (by omega) (by omega) (by omega) _) k_1399 k_1396 k_1398 k_64 k_98 (nA := 3) (by decide +kernel) ⟨Nat.le_of_ble_eq_true rfl, Nat.le_of_ble_eq_true rfl⟩ hK hP (ci := 11) (q0 := 0) rfl rfl rfl hPc hKc hDc (fun _ _ _ _ h => h) (fun _ _ _ => trivial) rfl hl.1 rfl (Nat.le_of_ble_eq_true rfl) dX10_bestEnd_20 ⟨Nat.le_of_ble_eq_true rfl, Nat.le_of_ble_eq_true rfl⟩) (by decide) (by decide) (fun r u H locs hw hK hP hD hS => ?_)
  obtain ⟨rfl, rfl⟩ := pb_of (P := rp_ra (K p0) (Fm p0) p0 r0 0) hw
  obtain ⟨ra, era⟩ : ∃ x, x = pb (rp_ra (K p0) (Fm p0) p0 r0 0) := ⟨_, rfl⟩
  have hra := pb_le (rp_ra (K p0) (Fm p0) p0 r0 0)
  rw [← era] at hra
  refine q_seti (y := nI ra) (congrArg nI era.symm) ?_
  have hP : va_P D vcl (mW h0 q cB cI_ cZ I (va_up F 31 (upd (F 31) (rs_S Fm To p0 + r0) (-1)))) H := hP
  have hD : va_D A (mW h0 q cB cI_ cZ I (va_up F 31 (upd (F 31) (rs_S Fm To p0 + r0) (-1)))) := hD
  refine lv_istore (lv' := [(4, .int (nI ra)), (3, .int (nI (rs_S Fm To p0 + r0))), (0, .ref h0), (1, .int (nI p0)), (2, .int (nI r0))]) hx hb dX10_bestEnd_23 hl (by decide) rfl (fun ls hl => ?_)
  refine lv_iload_n hx hb dX10_bestEnd_25 rfl (lv_at hl 3 rfl) ?_
  refine lv_istore (lv' := [(5, .int (nI p0)), (4, .int (nI ra)), (3, .int (nI (rs_S Fm To p0 + r0))), (0, .ref h0), (1, .int (nI p0)), (2, .int (nI r0))]) hx hb dX10_bestEnd_26 hl (by decide) rfl (fun ls hl => ?_)
  refine lv_iload_n hx hb dX10_bestEnd_28 rfl (lv_at hl 5 rfl) ?_
  refine lv_istore (lv' := [(6, .int (nI r0)), (5, .int (nI p0)), (4, .int (nI ra)), (3, .int (nI (rs_S Fm To p0 + r0))), (0, .ref h0), (1, .int (nI p0)), (2, .int (nI r0))]) hx hb dX10_bestEnd_29 hl (by decide) rfl (fun ls hl => ?_)
  refine lb_end (I := I) (F := F) (pn := pn) (pe := pe) (sl := sl) (K := K) (Fm := Fm) (To := To) (Rr := Rr) (p0 := p0) (r0 := r0) (at_ := rs_S Fm To p0 + r0) (mo := mo) (C := C) hpv hI2 hI14 hmo hp0 (by omega) rfl hSS hSt (Nat.le_of_ble_eq_true rfl) (Nat.le_of_ble_eq_true rfl) (Nat.le_of_ble_eq_true rfl) (Nat.le_of_ble_eq_true rfl) hA hf hK 41 p0 r0 ra _ (F 32) (F 33) (F 34) none _ _ ls (by omega) (by omega) (by omega) (fun _ => hr0) pk_us bk_ok_n (fun _ => Nat.le_refl _) (Nat.le_refl _) (Nat.le_refl _) hC2 hP hD hS (lv_sub hl (l' := [(6, .int (nI r0)), (5, .int (nI p0)), (4, .int (nI ra)), (3, .int (nI (rs_S Fm To p0 + r0))), (2, .int (nI r0)), (1, .int (nI p0)), (0, .ref h0)]) [0, 1, 2, 3, 6, 5, 4] rfl) (fun b2 w1 w2 w3 w4 H locs ls a1 a2 a3 a4 hP hD hS hl => ?_)
  exact q_zv hf hr hlocks hK hP hD hS (Nat.le_of_ble_eq_true rfl) (Nat.le_of_ble_eq_true rfl) ⟨w1, w2, w3, w4, by rw [← era, ← a1]; exact bk_tab_s a4 a2 a3, rfl⟩ dX10_bestEnd_364
