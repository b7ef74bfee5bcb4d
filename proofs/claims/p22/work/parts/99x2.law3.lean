theorem k_916 : (Cond.methodLink R_law 56 yX9_lock) ∈ gT := gT_i 916 (by decide +kernel) rfl
theorem k_917 : (Cond.instanceMethod yX9_lock) ∈ gT := gT_i 917 (by decide +kernel) rfl
theorem k_918 : (Cond.selects RX9 yX9_lock yX9_lock) ∈ gT := gT_i 918 (by decide +kernel) rfl
theorem k_919 : (Cond.code yX9_lock cX9_lock 2 (some .int)) ∈ gT := gT_i 919 (by decide +kernel) rfl
theorem k_1424 : (Cond.methodLink R_law 59 yX10_lock) ∈ gT := gT_i 1424 (by decide +kernel) rfl
theorem k_1425 : (Cond.instanceMethod yX10_lock) ∈ gT := gT_i 1425 (by decide +kernel) rfl
theorem k_1426 : (Cond.selects RX10 yX10_lock yX10_lock) ∈ gT := gT_i 1426 (by decide +kernel) rfl
theorem k_1427 : (Cond.code yX10_lock cX10_lock 6 (some .int)) ∈ gT := gT_i 1427 (by decide +kernel) rfl
theorem dL_law_393 : decode cL_law 393 = .ok (.aload_n 1, 1) := by decide +kernel
theorem dL_law_394 : decode cL_law 394 = .ok (.invokevirtual 56, 3) := by decide +kernel
theorem dL_law_397 : decode cL_law 397 = .ok (.pop, 1) := by decide +kernel
theorem dL_law_398 : decode cL_law 398 = .ok (.aload_n 2, 1) := by decide +kernel
theorem dL_law_399 : decode cL_law 399 = .ok (.invokevirtual 59, 3) := by decide +kernel
theorem dL_law_402 : decode cL_law 402 = .ok (.pop, 1) := by decide +kernel
theorem dL_law_403 : decode cL_law 403 = .ok (.goto 299, 3) := by decide +kernel
set_option maxHeartbeats 1000000 in
set_option maxRecDepth 100000 in
theorem r_lock2 (l : Launch) (D : va_G) (h0 : Nat) (q : Nat → Nat) (cB cI_ cZ : ClassId) (I : Nat → Int32) (F : Nat → Nat → Int32) (pn lk gs : Nat) (pe sl : Nat → Nat) (K : Nat → Int32) (Fm To Rr : Nat → Nat) (mo : Nat) (hpv : rp_ok F pn pe sl K Fm To Rr) (hI2 : I 2 = nI mo) (hI14 : I 14 = nI pn) (hI20 : I 20 = nI lk) (hI19 : 0 < lk → I 19 = nI gs) (hlk : lk ≤ 1) (hmo : mo ≤ 40) (hSS : rs_S Fm To pn ≤ 8000) : cI l D yX10_lock cX10_lock 6 (some .int) 5 150 0 0 [.ref h0] zT (mW h0 q cB cI_ cZ I F) (mT cB cI_ cZ) (fun r u => (0 < lk ∧ r = (-3) ∧ u = (mW h0 q cB cI_ cZ I F, mT cB cI_ cZ)) ∨ (lk = 0 ∧ (bk_pg Fm To pn (bk_all K Fm To Rr pn mo pn (fun _ => none)) 8000 0 0).length = 0 ∧ r = (-3) ∧ (∃ (I2 : Nat → Int32) (F2 : Nat → Nat → Int32), sm I I2 F F2 ∧ u = (mW h0 q cB cI_ cZ I2 F2, mT cB cI_ cZ))) ∨ (lk = 0 ∧ 0 < (bk_pg Fm To pn (bk_all K Fm To Rr pn mo pn (fun _ => none)) 8000 0 0).length ∧ r = nI (bk_pg Fm To pn (bk_all K Fm To Rr pn mo pn (fun _ => none)) 8000 0 0).length ∧ ∃ (I2 : Nat → Int32) (F2 : Nat → Nat → Int32) (P2 : List Q4), P2 = lk_pcs Fm To (pg_B pn (bk_pg Fm To pn (bk_all K Fm To Rr pn mo pn (fun _ => none)) 8000 0 0)) (pg_R pn (bk_pg Fm To pn (bk_all K Fm To Rr pn mo pn (fun _ => none)) 8000 0 0)) (bk_pg Fm To pn (bk_all K Fm To Rr pn mo pn (fun _ => none)) 8000 0 0).length ∧ pc_is P2 (F2 15) (F2 16) (F2 17) (F2 18) ∧ P2.length ≤ rs_S Fm To pn ∧ (pg_good Fm To pn (bk_pg Fm To pn (bk_all K Fm To Rr pn mo pn (fun _ => none)) 8000 0 0).length (pg_B pn (bk_pg Fm To pn (bk_all K Fm To Rr pn mo pn (fun _ => none)) 8000 0 0)) (pg_R pn (bk_pg Fm To pn (bk_all K Fm To Rr pn mo pn (fun _ => none)) 8000 0 0)) ∧ pg_B pn (bk_pg Fm To pn (bk_all K Fm To Rr pn mo pn (fun _ => none)) 8000 0 0) 0 = 0 ∧ pg_R pn (bk_pg Fm To pn (bk_all K Fm To Rr pn mo pn (fun _ => none)) 8000 0 0) 0 = 0) ∧ ix I I2 ∧ fx F F2 ∧ (I2 14 = nI P2.length ∧ I2 19 = nI (bk_pg Fm To pn (bk_all K Fm To Rr pn mo pn (fun _ => none)) 8000 0 0).length ∧ I2 20 = 1) ∧ u = (mW h0 q cB cI_ cZ I2 F2, mT cB cI_ cZ))) := by
  refine q_si (by decide) (Nat.le_of_ble_eq_true rfl) ?_
  intro p e s m below meth c A ls hAe hf hr hlocks hin hK hP hD hS hA hZ hl
  obtain ⟨hx, hb, hml, hown, hts⟩ := id hf
  have hl : lv_has ls 6 [(0, .ref h0)] := hl
  refine lv_aload_n hx hb dX10_lock_0 rfl (lv_at hl 0 rfl) ?_
  refine va_get (D := D) (ci := 11) (v := .int (I 20)) (C := RX10) (T := TX10) (N := 48) hx hb hts inX10 hown hK hP 0 rfl rfl 20 (by decide) (hts _ k_1164) (fun _ h9 => h9) rfl dX10_lock_1 ?_
  refine q_seti (y := (nI lk)) hI20 ?_
  refine lv_if_eq (tgt := 10) hx hb dX10_lock_4 (by decide) (fun c_1 => ?_) (fun c_1 => ?_)
  · have c_1 := q_eqn (a := lk) (b := 0) (by omega) (by omega) c_1
    refine lv_aload_n hx hb dX10_lock_10 rfl (lv_at hl 0 rfl) ?_
    refine q_cv (k := 0) (n := 0) hK hP hD hS hA (fun hPc hKc hDc => q_rV (As := []) (rest := []) hf (r_breaks _ D h0 q cB cI_ cZ I F pn pe sl K Fm To Rr mo hpv hI2 hI14 hmo hSS _) k_1387 k_1384 k_1386 k_61 k_98 (nA := 0) (by decide +kernel) ⟨Nat.le_of_ble_eq_true rfl, Nat.le_of_ble_eq_true rfl⟩ hK hP (ci := 11) (q0 := 0) rfl rfl rfl hPc hKc hDc (fun _ _ _ _ h => h) (fun _ _ _ => trivial) rfl hl.1 rfl (Nat.le_of_ble_eq_true rfl) dX10_lock_11 ⟨Nat.le_of_ble_eq_true rfl, Nat.le_of_ble_eq_true rfl⟩) (by decide) (by decide) (fun u H locs hw hK hP hD hS => ?_)
    obtain ⟨C, Pg, g30, w1, w2, w3, w4, g35, g36, g37, eC, ePg, htab, hcl, hpgis, hpge, rfl⟩ := hw
    have hP : va_P D vcl (mW h0 q cB cI_ cZ (upd (upd I 28 (nI (Pg.length))) 29 (bk_least pn C)) (va_up (va_up (va_up (va_up (va_up (va_up (va_up (va_up F 30 g30) 31 w1) 32 w2) 33 w3) 34 w4) 35 g35) 36 g36) 37 g37)) H := hP
    have hD : va_D A (mW h0 q cB cI_ cZ (upd (upd I 28 (nI (Pg.length))) 29 (bk_least pn C)) (va_up (va_up (va_up (va_up (va_up (va_up (va_up (va_up F 30 g30) 31 w1) 32 w2) 33 w3) 34 w4) 35 g35) 36 g36) 37 g37)) := hD
    have hpgl : Pg.length ≤ 8000 := by rw [ePg]; exact bk_pg_le _ _ _
    refine lv_aload_n hx hb dX10_lock_14 rfl (lv_at hl 0 rfl) ?_
    refine va_get (D := D) (ci := 11) (v := .int (nI (Pg.length))) (C := RX10) (T := TX10) (N := 48) hx hb hts inX10 hown hK hP 0 rfl rfl 28 (by decide) (hts _ k_1172) (fun _ h9 => h9) rfl dX10_lock_15 ?_
    refine lv_if_ne (tgt := 24) hx hb dX10_lock_18 (by decide) (fun c_2 => ?_) (fun c_2 => ?_)
    · have c_2 := q_nen (a := Pg.length) (b := 0) (by omega) (by omega) c_2
      refine lv_iconst (v := 0) hx hb dX10_lock_24 (by decide) ?_
      refine lv_istore_n (lv' := [(1, .int 0), (0, .ref h0)]) hx hb dX10_lock_25 rfl hl (by decide) rfl (fun ls hl => ?_)
      refine lv_iconst (v := 0) hx hb dX10_lock_26 (by decide) ?_
      refine lv_istore_n (lv' := [(2, .int 0), (1, .int 0), (0, .ref h0)]) hx hb dX10_lock_27 rfl hl (by decide) rfl (fun ls hl => ?_)
      have hz9 : ∀ p, p < pn → 0 < To p - Fm p := fun p hp => by have h9 := hpv.2 p hp; omega
      have hpn8 := hpv.1
      have hne0 : bk_pg Fm To pn C 8000 0 0 ≠ [] := fun z9 => by rw [← ePg] at z9; have h9 := congrArg List.length z9; have h9 : Pg.length = 0 := h9; omega
      obtain ⟨f8, y8, ef8, hp8, hy8, _⟩ := bk_pg_c hne0
      have hat0 : pg_at Fm To pn C 0 0 := ⟨Nat.zero_le _, fun _ => rfl, fun h9 => ⟨hz9 0 h9, y8, hy8⟩⟩
      have hok := pg_ok hz9 htab hcl 8000 0 0 hat0 (by show rs_S Fm To pn ≤ rs_S Fm To 0 + 0 + 8000; omega)
      rw [← ePg] at hok
      have hrd := pg_rd hpgis hpge (by omega)
      refine lo_out (I := (upd (upd I 28 (nI (Pg.length))) 29 (bk_least pn C))) (F := (va_up (va_up (va_up (va_up (va_up (va_up (va_up (va_up F 30 g30) 31 w1) 32 w2) 33 w3) 34 w4) 35 g35) 36 g36) 37 g37)) (pn := pn) (K := K) (Rr := Rr) (gn := Pg.length) (Bp := pg_B pn Pg) (Br := pg_R pn Pg) hpv hSS rfl hpgl hrd hok.2.2 (Nat.le_of_ble_eq_true rfl) (Nat.le_of_ble_eq_true rfl) (Nat.le_of_ble_eq_true rfl) (Nat.le_of_ble_eq_true rfl) hA hf hK Pg.length 0 0 [] (F 38) (F 39) (F 40) (F 41) _ _ ls (by omega) rfl rfl (fun i hi => absurd hi (Nat.not_lt_zero i)) (fun _ => Nat.zero_le _) (Nat.zero_le _) hP hD hS (lv_sub hl (l' := [(2, .int 0), (1, .int 0), (0, .ref h0)]) [0, 1, 2] rfl) (fun n P2 f38 f39 f40 f41 H locs ls a1 a2 a3 a4 hP hD hS hl => ?_)
      refine lv_aload_n hx hb dX10_lock_174 rfl (lv_at hl 1 rfl) ?_
      refine lv_iload_n hx hb dX10_lock_175 rfl (lv_at hl 0 rfl) ?_
      refine va_put (D := D) (ci := 11) (v := .int (nI n)) (ty := .int) (C := RX10) (T := TX10) (N := 48) hx hb hts inX10 tyX10 tyX10_ok nmX10 hown hK hP hD hS 0 rfl rfl 14 (by decide) (hts _ k_1158) (fun _ h9 => h9) rfl (by decide +kernel) rfl rfl (Nat.le_of_ble_eq_true rfl) dX10_lock_176 (fun H locs hP hD hS => ?_)
      have hP : va_P D vcl (mW h0 q cB cI_ cZ (upd (upd (upd I 14 (nI n)) 28 (nI (Pg.length))) 29 (bk_least pn C)) (va_up (va_up (va_up (va_up (va_up (va_up (va_up (va_up (va_up (va_up (va_up (va_up F 30 g30) 31 w1) 32 w2) 33 w3) 34 w4) 35 g35) 36 g36) 37 g37) 38 f38) 39 f39) 40 f40) 41 f41)) H := hP
      have hD : va_D A (mW h0 q cB cI_ cZ (upd (upd (upd I 14 (nI n)) 28 (nI (Pg.length))) 29 (bk_least pn C)) (va_up (va_up (va_up (va_up (va_up (va_up (va_up (va_up (va_up (va_up (va_up (va_up F 30 g30) 31 w1) 32 w2) 33 w3) 34 w4) 35 g35) 36 g36) 37 g37) 38 f38) 39 f39) 40 f40) 41 f41)) := hD
      refine lv_iconst (v := 0) hx hb dX10_lock_179 (by decide) ?_
      refine lv_istore_n (lv' := [(2, .int 0), (1, .int (nI n)), (0, .ref h0)]) hx hb dX10_lock_180 rfl hl (by decide) rfl (fun ls hl => ?_)
      refine lo_cp (I := (upd (upd (upd I 14 (nI n)) 28 (nI (Pg.length))) 29 (bk_least pn C))) (F := (va_up (va_up (va_up (va_up (va_up (va_up (va_up (va_up (va_up (va_up (va_up (va_up F 30 g30) 31 w1) 32 w2) 33 w3) 34 w4) 35 g35) 36 g36) 37 g37) 38 f38) 39 f39) 40 f40) 41 f41)) (n := n) (by omega) (Nat.le_of_ble_eq_true rfl) (Nat.le_of_ble_eq_true rfl) (Nat.le_of_ble_eq_true rfl) (Nat.le_of_ble_eq_true rfl) hA hf hK n 0 (F 15) (F 16) (F 17) (F 18) _ _ ls (by omega) (fun i hi => absurd hi (Nat.not_lt_zero i)) hP hD hS (lv_sub hl (l' := [(2, .int 0), (1, .int (nI n)), (0, .ref h0)]) [0, 1, 2] rfl) (fun g15 g16 g17 g18 H locs ls b1 hP hD hS hl => ?_)
      refine lv_aload_n hx hb dX10_lock_240 rfl (lv_at hl 0 rfl) ?_
      refine lv_aload_n hx hb dX10_lock_241 rfl (lv_at hl 0 rfl) ?_
      refine va_get (D := D) (ci := 11) (v := .int (nI (Pg.length))) (C := RX10) (T := TX10) (N := 48) hx hb hts inX10 hown hK hP 0 rfl rfl 28 (by decide) (hts _ k_1172) (fun _ h9 => h9) rfl dX10_lock_242 ?_
      refine va_put (D := D) (ci := 11) (v := .int (nI (Pg.length))) (ty := .int) (C := RX10) (T := TX10) (N := 48) hx hb hts inX10 tyX10 tyX10_ok nmX10 hown hK hP hD hS 0 rfl rfl 19 (by decide) (hts _ k_1163) (fun _ h9 => h9) rfl (by decide +kernel) rfl rfl (Nat.le_of_ble_eq_true rfl) dX10_lock_245 (fun H locs hP hD hS => ?_)
      have hP : va_P D vcl (mW h0 q cB cI_ cZ (upd (upd (upd (upd I 14 (nI n)) 19 (nI (Pg.length))) 28 (nI (Pg.length))) 29 (bk_least pn C)) (va_up (va_up (va_up (va_up (va_up (va_up (va_up (va_up (va_up (va_up (va_up (va_up (va_up (va_up (va_up (va_up F 15 g15) 16 g16) 17 g17) 18 g18) 30 g30) 31 w1) 32 w2) 33 w3) 34 w4) 35 g35) 36 g36) 37 g37) 38 f38) 39 f39) 40 f40) 41 f41)) H := hP
      have hD : va_D A (mW h0 q cB cI_ cZ (upd (upd (upd (upd I 14 (nI n)) 19 (nI (Pg.length))) 28 (nI (Pg.length))) 29 (bk_least pn C)) (va_up (va_up (va_up (va_up (va_up (va_up (va_up (va_up (va_up (va_up (va_up (va_up (va_up (va_up (va_up (va_up F 15 g15) 16 g16) 17 g17) 18 g18) 30 g30) 31 w1) 32 w2) 33 w3) 34 w4) 35 g35) 36 g36) 37 g37) 38 f38) 39 f39) 40 f40) 41 f41)) := hD
      refine lv_aload_n hx hb dX10_lock_248 rfl (lv_at hl 0 rfl) ?_
      refine lv_iconst (v := 1) hx hb dX10_lock_249 (by decide) ?_
      refine va_put (D := D) (ci := 11) (v := .int 1) (ty := .boolean) (C := RX10) (T := TX10) (N := 48) hx hb hts inX10 tyX10 tyX10_ok nmX10 hown hK hP hD hS 0 rfl rfl 20 (by decide) (hts _ k_1164) (fun _ h9 => h9) rfl (by decide +kernel) rfl rfl (Nat.le_of_ble_eq_true rfl) dX10_lock_250 (fun H locs hP hD hS => ?_)
      have hP : va_P D vcl (mW h0 q cB cI_ cZ (upd (upd (upd (upd (upd I 14 (nI n)) 19 (nI (Pg.length))) 20 1) 28 (nI (Pg.length))) 29 (bk_least pn C)) (va_up (va_up (va_up (va_up (va_up (va_up (va_up (va_up (va_up (va_up (va_up (va_up (va_up (va_up (va_up (va_up F 15 g15) 16 g16) 17 g17) 18 g18) 30 g30) 31 w1) 32 w2) 33 w3) 34 w4) 35 g35) 36 g36) 37 g37) 38 f38) 39 f39) 40 f40) 41 f41)) H := hP
      have hD : va_D A (mW h0 q cB cI_ cZ (upd (upd (upd (upd (upd I 14 (nI n)) 19 (nI (Pg.length))) 20 1) 28 (nI (Pg.length))) 29 (bk_least pn C)) (va_up (va_up (va_up (va_up (va_up (va_up (va_up (va_up (va_up (va_up (va_up (va_up (va_up (va_up (va_up (va_up F 15 g15) 16 g16) 17 g17) 18 g18) 30 g30) 31 w1) 32 w2) 33 w3) 34 w4) 35 g35) 36 g36) 37 g37) 38 f38) 39 f39) 40 f40) 41 f41)) := hD
      refine lv_aload_n hx hb dX10_lock_253 rfl (lv_at hl 0 rfl) ?_
      refine va_get (D := D) (ci := 11) (v := .int (nI (Pg.length))) (C := RX10) (T := TX10) (N := 48) hx hb hts inX10 hown hK hP 0 rfl rfl 19 (by decide) (hts _ k_1163) (fun _ h9 => h9) rfl dX10_lock_254 ?_
      have ePg2 : Pg = (bk_pg Fm To pn (bk_all K Fm To Rr pn mo pn (fun _ => none)) 8000 0 0) := by rw [ePg, eC]
      rw [ePg2] at a1
      exact q_zi hf hr rfl hlocks hK hP hD hS (Nat.le_of_ble_eq_true rfl) (Nat.le_of_ble_eq_true rfl) (Or.inr (Or.inr ⟨by omega, by rw [← ePg2]; omega, by rw [← ePg2], (upd (upd (upd (upd (upd I 14 (nI n)) 19 (nI (Pg.length))) 20 1) 28 (nI (Pg.length))) 29 (bk_least pn C)), (va_up (va_up (va_up (va_up (va_up (va_up (va_up (va_up (va_up (va_up (va_up (va_up (va_up (va_up (va_up (va_up F 15 g15) 16 g16) 17 g17) 18 g18) 30 g30) 31 w1) 32 w2) 33 w3) 34 w4) 35 g35) 36 g36) 37 g37) 38 f38) 39 f39) 40 f40) 41 f41), P2, a1, pc_is_c a3 (fun j hj => b1 j (by omega)), by omega, by rw [← ePg2]; exact ⟨hok.2.2, hok.1, hok.2.1⟩, ⟨rfl, rfl, rfl⟩, ⟨rfl, rfl, rfl, rfl, rfl, rfl, rfl, rfl, rfl, rfl, rfl⟩, ⟨congrArg nI a2, by rw [← ePg2]; rfl, rfl⟩, rfl⟩)) dX10_lock_257
    · have c_2 := q_eqn (a := Pg.length) (b := 0) (by omega) (by omega) c_2
      refine lv_bipush (v := (-3)) hx hb dX10_lock_21 (by decide) ?_
      have ePg2 : Pg = (bk_pg Fm To pn (bk_all K Fm To Rr pn mo pn (fun _ => none)) 8000 0 0) := by rw [ePg, eC]
      exact q_zi hf hr rfl hlocks hK hP hD hS (Nat.le_of_ble_eq_true rfl) (Nat.le_of_ble_eq_true rfl) (Or.inr (Or.inl ⟨by omega, by rw [← ePg2]; omega, rfl, ⟨(upd (upd I 28 (nI (Pg.length))) 29 (bk_least pn C)), (va_up (va_up (va_up (va_up (va_up (va_up (va_up (va_up F 30 g30) 31 w1) 32 w2) 33 w3) 34 w4) 35 g35) 36 g36) 37 g37), ⟨⟨rfl, rfl, rfl⟩, ⟨rfl, rfl, rfl⟩, ⟨rfl, rfl, rfl, rfl, rfl, rfl, rfl, rfl, rfl, rfl, rfl⟩, rfl, rfl, rfl, rfl⟩, rfl⟩⟩)) dX10_lock_23
  · have c_1 := q_nen (a := lk) (b := 0) (by omega) (by omega) c_1
    refine lv_bipush (v := (-3)) hx hb dX10_lock_7 (by decide) ?_
    exact q_zi hf hr rfl hlocks hK hP hD hS (Nat.le_of_ble_eq_true rfl) (Nat.le_of_ble_eq_true rfl) (Or.inl ⟨by omega, rfl, rfl⟩) dX10_lock_9
theorem R_lock2 (l : Launch) (D : va_G) (h0 : Nat) (q : Nat → Nat) (cB cI_ cZ : ClassId) {I : Nat → Int32} {F : Nat → Nat → Int32} {T : Nat → Int32} {n : Nat} {Es : List E5} {sl : Nat → Nat} {P : List Q4} {mo lk gs rm : Nat} (h : rS I F T n Es sl P mo lk gs) (hi : dI T n Es P mo lk gs rm) : cI l D yX10_lock cX10_lock 6 (some .int) 5 150 0 0 [.ref h0] zT (mW h0 q cB cI_ cZ I F) (mT cB cI_ cZ) (fun r u => ∃ (I2 : Nat → Int32) (F2 : Nat → Nat → Int32), ((0 < lk ∧ r = (-3) ∧ rS I2 F2 T n Es sl P mo lk gs) ∨ (lk = 0 ∧ (pgl (fun e => Es.getD e dE) P P.length mo).length = 0 ∧ r = (-3) ∧ rS I2 F2 T n Es sl P mo lk gs) ∨ (lk = 0 ∧ 0 < (pgl (fun e => Es.getD e dE) P P.length mo).length ∧ r = nI (pgl (fun e => Es.getD e dE) P P.length mo).length ∧ rS I2 F2 T n Es sl (lk_pcs (qF P) (qT P) (pg_B P.length (pgl (fun e => Es.getD e dE) P P.length mo)) (pg_R P.length (pgl (fun e => Es.getD e dE) P P.length mo)) (pgl (fun e => Es.getD e dE) P P.length mo).length) mo 1 (pgl (fun e => Es.getD e dE) P P.length mo).length ∧ (pg_good (qF P) (qT P) P.length (pgl (fun e => Es.getD e dE) P P.length mo).length (pg_B P.length (pgl (fun e => Es.getD e dE) P P.length mo)) (pg_R P.length (pgl (fun e => Es.getD e dE) P P.length mo)) ∧ pg_B P.length (pgl (fun e => Es.getD e dE) P P.length mo) 0 = 0 ∧ pg_R P.length (pgl (fun e => Es.getD e dE) P P.length mo) 0 = 0))) ∧ u = (mW h0 q cB cI_ cZ I2 F2, mT cB cI_ cZ)) := by
  obtain ⟨⟨a0, a1, a2, a3, a4, a5⟩, a6, a7, a8⟩ := id h
  refine cI_mono (r_lock2 l D h0 q cB cI_ cZ I F P.length lk gs _ _ _ (qF P) (qT P) _ mo (h.pv hi) a2 a4 a5 a6 hi.1.2.2.2.2 hi.1.2.2.2.1 hi.ss) (fun r u hu => ?_)
  rcases hu with ⟨h1, h9, rfl⟩ | ⟨h1, h2, h9, I2, F2, hs, rfl⟩ | ⟨h1, h2, h9, I2, F2, P2, e2, h3, h4, hg, h5, h6, h7, rfl⟩
  · exact ⟨I, F, Or.inl ⟨h1, h9, h⟩, rfl⟩
  · exact ⟨I2, F2, Or.inr (Or.inl ⟨h1, h2, h9, h.sm hs⟩), rfl⟩
  · refine ⟨I2, F2, Or.inr (Or.inr ⟨h1, h2, h9, ?_, hg⟩), rfl⟩
    have e3 : P2 = (lk_pcs (qF P) (qT P) (pg_B P.length (pgl (fun e => Es.getD e dE) P P.length mo)) (pg_R P.length (pgl (fun e => Es.getD e dE) P P.length mo)) (pgl (fun e => Es.getD e dE) P P.length mo).length) := e2
    rw [← e3]
    exact ⟨⟨h6.1.trans a0, h5.1.trans a1, h5.2.1.trans a2, h5.2.2.trans a3, h7.1, h7.2.2⟩, fun _ => h7.2.1, reR_x h6 a7, h3⟩
theorem pg_cnt {Fm To Bp Br : Nat → Nat} {pn gn : Nat} (h : pg_good Fm To pn gn Bp Br) : ∀ g, g ≤ gn → g ≤ rs_S Fm To (Bp g) + Br g := by
  intro g
  induction g with
  | zero => intro _; exact Nat.zero_le _
  | succ g ih =>
    intro hg
    have h1 := ih (by omega)
    have h2 := (h g (by omega)).2.2.2.2.2
    omega
theorem lk_dI {T : Nat → Int32} {n : Nat} {Es : List E5} {P : List Q4} {mo gs rm : Nat} (h : dI T n Es P mo 0 gs (rm + 1)) (hg : (pg_good (qF P) (qT P) P.length (pgl (fun e => Es.getD e dE) P P.length mo).length (pg_B P.length (pgl (fun e => Es.getD e dE) P P.length mo)) (pg_R P.length (pgl (fun e => Es.getD e dE) P P.length mo)) ∧ pg_B P.length (pgl (fun e => Es.getD e dE) P P.length mo) 0 = 0 ∧ pg_R P.length (pgl (fun e => Es.getD e dE) P P.length mo) 0 = 0)) : dI T n Es (lk_pcs (qF P) (qT P) (pg_B P.length (pgl (fun e => Es.getD e dE) P P.length mo)) (pg_R P.length (pgl (fun e => Es.getD e dE) P P.length mo)) (pgl (fun e => Es.getD e dE) P P.length mo).length) mo 1 (pgl (fun e => Es.getD e dE) P P.length mo).length rm := by
  have hP := h.2.2.2.2.1 rfl
  have hl : P.length = Es.length := by rw [hP, upP_len]
  have hbd := h.bd
  have hRw : (fun t => qT P t - qF P t) = fun e => eRw (Es.getD e dE) := by
    funext t
    show (P.getD t d4).2.2.1 - (P.getD t d4).2.1 = _
    by_cases c : t < Es.length
    · rw [hP, upP_at9 Es _ t c]; rfl
    · rw [gq_out (by omega)]
      have e : Es.getD t dE = dE := by rw [List.getD_eq_getElem?_getD, List.getElem?_eq_none (by omega)]; rfl
      rw [e]
      rfl
  have hz : ∀ p, p < P.length → 0 < qT P p - qF P p := fun p hp => by
    have h1 := hbd.1 p hp
    show 0 < (P.getD p d4).2.2.1 - (P.getD p d4).2.1
    omega
  have hc := chp_pcs hz ⟨hg.2.1, hg.2.2⟩ hg.1 (by omega) _ (Nat.le_refl _)
  have e1 : (pgl (fun e => Es.getD e dE) P P.length mo).getD (pgl (fun e => Es.getD e dE) P P.length mo).length (P.length, 0, 0) = (P.length, 0, 0) := by rw [List.getD_eq_getElem?_getD, List.getElem?_eq_none (Nat.le_refl _)]; rfl
  have eB : pg_B P.length (pgl (fun e => Es.getD e dE) P P.length mo) (pgl (fun e => Es.getD e dE) P P.length mo).length = P.length := by unfold pg_B; rw [e1]
  have eR : pg_R P.length (pgl (fun e => Es.getD e dE) P P.length mo) (pgl (fun e => Es.getD e dE) P P.length mo).length = 0 := by unfold pg_R; rw [e1]
  have hcn := pg_cnt hg.1 _ (Nat.le_refl _)
  rw [eB, eR] at hc hcn
  rw [hRw, hl] at hc
  have hb1 := hbd.2.1
  unfold qS at hb1
  refine dI.lk (h.dn (Nat.le_succ _)) ?_ (fun x hx => lk_pcs_g _ x hx) (by omega)
  rw [hl]
  exact hc
set_option maxHeartbeats 2000000 in
set_option maxRecDepth 100000 in
theorem lc_lock {p : Program} {l : Launch} {e : Env} {s : State} {m : MethodId} {below : List Frame} {meth : Method} {c : Code} {Q : State → Prop} {D : va_G} {A : Nat → Prop} {z : Nat → Nat} {cB cI_ cO cB2 cI2 cZ : ClassId} {dk h0 : Nat} {q : Nat → Nat} {b Ln i M rm cells slots : Nat} {xs : Nat → Int32} {H : Heap} {locs : List Loc} {ls : Array Slot} (hf : CallFix p m c cL_law 4 s #[Value.ref b] gT R_law) (hX : va_X b Ln xs s s.heap) (hbl : b < s.heap.size) (hbA : ¬ A b) (hA : ∀ q : Nat, s.heap.size ≤ q → A q) (hK1 : va_K D vcl (dT cB cI_ cO) s) (hK2 : va_K D vcl (mT cB2 cI2 cZ) s) (hZ : zA z A s s.heap) (hN : zB z s) (hi4 : i + 4 ≤ Ln) (hLn : Ln ≤ 2048) (hS : va_S A s.heap H locs) (hj : jS D A z cB cI_ cO dk h0 q cB2 cI2 cZ H M (rm + 1)) (hcc : cells + 1100 + 3 * (1000 - M) ≤ 600000) (hss : slots + 13800 + 6 * (1000 - M) ≤ 7302250) (hl : lv_has ls 4 [(3, .int (nI i)), (2, .ref h0), (1, .ref dk), (0, .ref b)])
    (kk : ∀ (M2 cells2 slots2 : Nat) (H : Heap) (locs : List Loc) (ls : Array Slot), M ≤ M2 → M2 ≤ 1000 → cells2 ≤ cells + 1100 + 3 * (M2 - M) → slots2 ≤ slots + 13800 + 6 * (M2 - M) → va_S A s.heap H locs → jS D A z cB cI_ cO dk h0 q cB2 cI2 cZ H M2 rm → lv_has ls 4 [(3, .int (nI i)), (2, .ref h0), (1, .ref dk), (0, .ref b)] → W p l e room_1 s m #[Value.ref b] below meth c H locs cells2 slots2 Q (F0 m 702 ls [])) : W p l e room_1 s m #[Value.ref b] below meth c H locs cells slots Q (F0 m 393 ls []) := by
  obtain ⟨hx, hb, hml, hown, hts⟩ := id hf
  have hy0 : i < Ln := by omega
  have hy1 : i + 1 < Ln := by omega
  have hy2 : i + 2 < Ln := by omega
  have hy3 : i + 3 < Ln := by omega
  have hLb : Ln < 2 ^ 31 := by omega
  obtain ⟨L, g, I, F, T, n, Es, sl, P, mo, lk, gs, hP1, hD1, hP2, hD2, hsep, hcS, hrS, hdI, hnm⟩ := hj
  refine lv_aload_n hx hb dL_law_393 rfl (lv_at hl 2 rfl) ?_
  obtain ⟨M2, fr, lo, mc, ms, hrb, hC⟩ := C_lock l D  hcS hdI
  obtain ⟨b1, b2, b3, b4, b5, b6⟩ := hrb
  obtain ⟨fs, h_dk⟩ := hcS.dk
  have hr5 := rm5 b1 b2 b5 hcc
  have hr6 := rm6 b1 b2 b6 hss
  have hq5 := rq5 (cells := cells) b5
  have hq6 := rq6 (slots := slots) b6
  refine q2_ci (k := cells + mc) (n := slots + ms) hP1 hD1 hP2 hsep hS hA (o_rV (As := []) (rest := []) hf (hC _) k_919 k_916 k_917 k_918 k_84 (nA := 0) (by decide +kernel) ⟨show fr + 1 ≤ 13 from Nat.succ_le_succ b3, show 8 + (2 + 11) + lo ≤ 470 from rl9 (by decide) b4⟩ hK1 hP1 hD1 hS hA hZ hN h_dk rfl rfl rfl hl.1 rfl (Nat.le_of_ble_eq_true rfl) dL_law_394 ⟨show cells + mc ≤ 600000 from hr5, show slots + ms ≤ 7302250 from hr6⟩) (Nat.le_refl _) (Nat.le_refl _) (fun r1 u H locs hw _ hP1 hD1 hP2 hsep hS => ?_)
  obtain ⟨L, g, hw1, rfl⟩ := hw
  clear hcS h_dk hC
  refine lv_pop hx hb dL_law_397 rfl ?_
  refine lv_aload_n hx hb dL_law_398 rfl (lv_at hl 1 rfl) ?_
  refine q2_ci (k := cells + mc) (n := slots + ms) hP2 hD2 hP1 hsep.sy hS hA (q_rV (As := []) (rest := []) hf (R_lock2 l D h0 q cB2 cI2 cZ  hrS hdI _) k_1427 k_1424 k_1425 k_1426 k_98 (nA := 0) (by decide +kernel) ⟨by decide, by decide⟩ hK2 hP2 (ci := 11) (q0 := 0) rfl rfl rfl hP2 hK2 hD2 (fun _ _ _ _ h => h) (fun _ _ _ => trivial) rfl hl.1 rfl (Nat.le_of_ble_eq_true rfl) dL_law_399 ⟨hr5, hr6⟩) (Nat.le_refl _) (Nat.le_refl _) (fun r2 u H locs hw2 _ hP2 hD2 hP1 hsep hS => ?_)
  replace hsep := hsep.sy
  refine lv_pop hx hb dL_law_402 rfl ?_
  refine lv_goto (tgt := 702) hx hb dL_law_403 (by decide) ?_
  obtain ⟨I2, F2, h2, rfl⟩ := hw2
  rcases h2 with ⟨h2, hv2, hr2⟩ | ⟨h2, h3, hv2, hr2⟩ | ⟨h2, h3, hv2, hr2, hg⟩
  · rcases hw1 with ⟨_, hv1, hw1⟩ | ⟨h1, _⟩ | ⟨h1, _⟩
    · exact kk M2 (cells + mc) (slots + ms) H locs ls b1 b2 hq5 hq6 hS ⟨L, g, I2, F2, T, n, Es, sl, P, mo, lk, gs, hP1, hD1, hP2, hD2, hsep, hw1, hr2, (hdI.dn (Nat.le_succ _)), hnm⟩ (lv_sub hl (l' := [(3, .int (nI i)), (2, .ref h0), (1, .ref dk), (0, .ref b)]) [0, 1, 2, 3] rfl)
    · exact absurd h2 (by omega)
    · exact absurd h2 (by omega)
  · rcases hw1 with ⟨h1, _⟩ | ⟨_, _, hv1, hw1⟩ | ⟨_, h1, _⟩
    · exact absurd h2 (by omega)
    · exact kk M2 (cells + mc) (slots + ms) H locs ls b1 b2 hq5 hq6 hS ⟨L, g, I2, F2, T, n, Es, sl, P, mo, lk, gs, hP1, hD1, hP2, hD2, hsep, hw1, hr2, (hdI.dn (Nat.le_succ _)), hnm⟩ (lv_sub hl (l' := [(3, .int (nI i)), (2, .ref h0), (1, .ref dk), (0, .ref b)]) [0, 1, 2, 3] rfl)
    · exact absurd h3 (by omega)
  · rcases hw1 with ⟨h1, _⟩ | ⟨_, h1, _⟩ | ⟨_, _, hv1, hw1⟩
    · exact absurd h2 (by omega)
    · exact absurd h3 (by omega)
    · subst h2
      exact kk M2 (cells + mc) (slots + ms) H locs ls b1 b2 hq5 hq6 hS ⟨L, g, I2, F2, T, n, Es, sl, (lk_pcs (qF P) (qT P) (pg_B P.length (pgl (fun e => Es.getD e dE) P P.length mo)) (pg_R P.length (pgl (fun e => Es.getD e dE) P P.length mo)) (pgl (fun e => Es.getD e dE) P P.length mo).length), mo, 1, (pgl (fun e => Es.getD e dE) P P.length mo).length, hP1, hD1, hP2, hD2, hsep, hw1, hr2, (lk_dI hdI hg), hnm⟩ (lv_sub hl (l' := [(3, .int (nI i)), (2, .ref h0), (1, .ref dk), (0, .ref b)]) [0, 1, 2, 3] rfl)
