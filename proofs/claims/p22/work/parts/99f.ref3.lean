abbrev cX10_cost : ByteArray := prog_12_method_36_code
def yX10_cost : MethodName := ⟨RX10, "cost", "()I"⟩
abbrev cX10_pages : ByteArray := prog_12_method_35_code
def yX10_pages : MethodName := ⟨RX10, "pages", "()I"⟩
theorem k_61 : (Cond.selects RX10 yX10_breaks yX10_breaks) ∈ gT := gT_i 61 (by decide +kernel) rfl
theorem k_1384 : (Cond.methodLink RX10 237 yX10_breaks) ∈ gT := gT_i 1384 (by decide +kernel) rfl
theorem k_1386 : (Cond.instanceMethod yX10_breaks) ∈ gT := gT_i 1386 (by decide +kernel) rfl
theorem k_1387 : (Cond.code yX10_breaks cX10_breaks 4 none) ∈ gT := gT_i 1387 (by decide +kernel) rfl
theorem dX10_pages_0 : decode cX10_pages 0 = .ok (.aload_n 0, 1) := by decide +kernel
theorem dX10_pages_1 : decode cX10_pages 1 = .ok (.getfield 170, 3) := by decide +kernel
theorem dX10_pages_4 : decode cX10_pages 4 = .ok (.ifCond .eq 8, 3) := by decide +kernel
theorem dX10_pages_12 : decode cX10_pages 12 = .ok (.aload_n 0, 1) := by decide +kernel
theorem dX10_pages_13 : decode cX10_pages 13 = .ok (.invokevirtual 237, 3) := by decide +kernel
theorem dX10_pages_16 : decode cX10_pages 16 = .ok (.aload_n 0, 1) := by decide +kernel
theorem dX10_pages_17 : decode cX10_pages 17 = .ok (.getfield 228, 3) := by decide +kernel
theorem dX10_pages_20 : decode cX10_pages 20 = .ok (.ireturn, 1) := by decide +kernel
theorem dX10_pages_7 : decode cX10_pages 7 = .ok (.aload_n 0, 1) := by decide +kernel
theorem dX10_pages_8 : decode cX10_pages 8 = .ok (.getfield 234, 3) := by decide +kernel
theorem dX10_pages_11 : decode cX10_pages 11 = .ok (.ireturn, 1) := by decide +kernel
theorem dX10_cost_0 : decode cX10_cost 0 = .ok (.aload_n 0, 1) := by decide +kernel
theorem dX10_cost_1 : decode cX10_cost 1 = .ok (.getfield 170, 3) := by decide +kernel
theorem dX10_cost_4 : decode cX10_cost 4 = .ok (.ifCond .eq 5, 3) := by decide +kernel
theorem dX10_cost_9 : decode cX10_cost 9 = .ok (.aload_n 0, 1) := by decide +kernel
theorem dX10_cost_10 : decode cX10_cost 10 = .ok (.invokevirtual 237, 3) := by decide +kernel
theorem dX10_cost_13 : decode cX10_cost 13 = .ok (.aload_n 0, 1) := by decide +kernel
theorem dX10_cost_14 : decode cX10_cost 14 = .ok (.getfield 231, 3) := by decide +kernel
theorem dX10_cost_17 : decode cX10_cost 17 = .ok (.ireturn, 1) := by decide +kernel
theorem dX10_cost_7 : decode cX10_cost 7 = .ok (.iconst (-1), 1) := by decide +kernel
theorem dX10_cost_8 : decode cX10_cost 8 = .ok (.ireturn, 1) := by decide +kernel
theorem dX10_lock_0 : decode cX10_lock 0 = .ok (.aload_n 0, 1) := by decide +kernel
theorem dX10_lock_1 : decode cX10_lock 1 = .ok (.getfield 170, 3) := by decide +kernel
theorem dX10_lock_4 : decode cX10_lock 4 = .ok (.ifCond .eq 6, 3) := by decide +kernel
theorem dX10_lock_10 : decode cX10_lock 10 = .ok (.aload_n 0, 1) := by decide +kernel
theorem dX10_lock_11 : decode cX10_lock 11 = .ok (.invokevirtual 237, 3) := by decide +kernel
theorem dX10_lock_14 : decode cX10_lock 14 = .ok (.aload_n 0, 1) := by decide +kernel
theorem dX10_lock_15 : decode cX10_lock 15 = .ok (.getfield 228, 3) := by decide +kernel
theorem dX10_lock_18 : decode cX10_lock 18 = .ok (.ifCond .ne 6, 3) := by decide +kernel
theorem dX10_lock_24 : decode cX10_lock 24 = .ok (.iconst 0, 1) := by decide +kernel
theorem dX10_lock_25 : decode cX10_lock 25 = .ok (.istore_n 1, 1) := by decide +kernel
theorem dX10_lock_26 : decode cX10_lock 26 = .ok (.iconst 0, 1) := by decide +kernel
theorem dX10_lock_27 : decode cX10_lock 27 = .ok (.istore_n 2, 1) := by decide +kernel
theorem dX10_lock_174 : decode cX10_lock 174 = .ok (.aload_n 0, 1) := by decide +kernel
theorem dX10_lock_175 : decode cX10_lock 175 = .ok (.iload_n 1, 1) := by decide +kernel
theorem dX10_lock_176 : decode cX10_lock 176 = .ok (.putfield 158, 3) := by decide +kernel
theorem dX10_lock_179 : decode cX10_lock 179 = .ok (.iconst 0, 1) := by decide +kernel
theorem dX10_lock_180 : decode cX10_lock 180 = .ok (.istore_n 2, 1) := by decide +kernel
theorem dX10_lock_240 : decode cX10_lock 240 = .ok (.aload_n 0, 1) := by decide +kernel
theorem dX10_lock_241 : decode cX10_lock 241 = .ok (.aload_n 0, 1) := by decide +kernel
theorem dX10_lock_242 : decode cX10_lock 242 = .ok (.getfield 228, 3) := by decide +kernel
theorem dX10_lock_245 : decode cX10_lock 245 = .ok (.putfield 234, 3) := by decide +kernel
theorem dX10_lock_248 : decode cX10_lock 248 = .ok (.aload_n 0, 1) := by decide +kernel
theorem dX10_lock_249 : decode cX10_lock 249 = .ok (.iconst 1, 1) := by decide +kernel
theorem dX10_lock_250 : decode cX10_lock 250 = .ok (.putfield 170, 3) := by decide +kernel
theorem dX10_lock_253 : decode cX10_lock 253 = .ok (.aload_n 0, 1) := by decide +kernel
theorem dX10_lock_254 : decode cX10_lock 254 = .ok (.getfield 234, 3) := by decide +kernel
theorem dX10_lock_257 : decode cX10_lock 257 = .ok (.ireturn, 1) := by decide +kernel
theorem dX10_lock_21 : decode cX10_lock 21 = .ok (.bipush (-3), 2) := by decide +kernel
theorem dX10_lock_23 : decode cX10_lock 23 = .ok (.ireturn, 1) := by decide +kernel
theorem dX10_lock_7 : decode cX10_lock 7 = .ok (.bipush (-3), 2) := by decide +kernel
theorem dX10_lock_9 : decode cX10_lock 9 = .ok (.ireturn, 1) := by decide +kernel
set_option maxHeartbeats 1000000 in
set_option maxRecDepth 100000 in
theorem r_pages (l : Launch) (D : va_G) (h0 : Nat) (q : Nat → Nat) (cB cI_ cZ : ClassId) (I : Nat → Int32) (F : Nat → Nat → Int32) (pn lk gs : Nat) (pe sl : Nat → Nat) (K : Nat → Int32) (Fm To Rr : Nat → Nat) (mo : Nat) (hpv : rp_ok F pn pe sl K Fm To Rr) (hI2 : I 2 = nI mo) (hI14 : I 14 = nI pn) (hI20 : I 20 = nI lk) (hI19 : 0 < lk → I 19 = nI gs) (hlk : lk ≤ 1) (hmo : mo ≤ 40) (hSS : rs_S Fm To pn ≤ 8000) : cI l D yX10_pages cX10_pages 1 (some .int) 5 150 0 0 [.ref h0] zT (mW h0 q cB cI_ cZ I F) (mT cB cI_ cZ) (fun r u => (0 < lk ∧ r = nI gs ∧ u = (mW h0 q cB cI_ cZ I F, mT cB cI_ cZ)) ∨ (lk = 0 ∧ r = nI (bk_pg Fm To pn (bk_all K Fm To Rr pn mo pn (fun _ => none)) 8000 0 0).length ∧ (∃ (I2 : Nat → Int32) (F2 : Nat → Nat → Int32), sm I I2 F F2 ∧ u = (mW h0 q cB cI_ cZ I2 F2, mT cB cI_ cZ)))) := by
  refine q_si (by decide) (Nat.le_of_ble_eq_true rfl) ?_
  intro p e s m below meth c A ls hAe hf hr hlocks hin hK hP hD hS hA hZ hl
  obtain ⟨hx, hb, hml, hown, hts⟩ := id hf
  have hl : lv_has ls 1 [(0, .ref h0)] := hl
  refine lv_aload_n hx hb dX10_pages_0 rfl (lv_at hl 0 rfl) ?_
  refine va_get (D := D) (ci := 11) (v := .int (I 20)) (C := RX10) (T := TX10) (N := 48) hx hb hts inX10 hown hK hP 0 rfl rfl 20 (by decide) (hts _ k_1164) (fun _ h9 => h9) rfl dX10_pages_1 ?_
  refine q_seti (y := (nI lk)) hI20 ?_
  refine lv_if_eq (tgt := 12) hx hb dX10_pages_4 (by decide) (fun c_1 => ?_) (fun c_1 => ?_)
  · have c_1 := q_eqn (a := lk) (b := 0) (by omega) (by omega) c_1
    refine lv_aload_n hx hb dX10_pages_12 rfl (lv_at hl 0 rfl) ?_
    refine q_cv (k := 0) (n := 0) hK hP hD hS hA (fun hPc hKc hDc => q_rV (As := []) (rest := []) hf (r_breaks _ D h0 q cB cI_ cZ I F pn pe sl K Fm To Rr mo hpv hI2 hI14 hmo hSS _) k_1387 k_1384 k_1386 k_61 k_98 (nA := 0) (by decide +kernel) ⟨Nat.le_of_ble_eq_true rfl, Nat.le_of_ble_eq_true rfl⟩ hK hP (ci := 11) (q0 := 0) rfl rfl rfl hPc hKc hDc (fun _ _ _ _ h => h) (fun _ _ _ => trivial) rfl hl.1 rfl (Nat.le_of_ble_eq_true rfl) dX10_pages_13 ⟨Nat.le_of_ble_eq_true rfl, Nat.le_of_ble_eq_true rfl⟩) (by decide) (by decide) (fun u H locs hw hK hP hD hS => ?_)
    obtain ⟨C, Pg, g30, w1, w2, w3, w4, g35, g36, g37, eC, ePg, htab, hcl, hpgis, hpge, rfl⟩ := hw
    have hP : va_P D vcl (mW h0 q cB cI_ cZ (upd (upd I 28 (nI (Pg.length))) 29 (bk_least pn C)) (va_up (va_up (va_up (va_up (va_up (va_up (va_up (va_up F 30 g30) 31 w1) 32 w2) 33 w3) 34 w4) 35 g35) 36 g36) 37 g37)) H := hP
    have hD : va_D A (mW h0 q cB cI_ cZ (upd (upd I 28 (nI (Pg.length))) 29 (bk_least pn C)) (va_up (va_up (va_up (va_up (va_up (va_up (va_up (va_up F 30 g30) 31 w1) 32 w2) 33 w3) 34 w4) 35 g35) 36 g36) 37 g37)) := hD
    have hpgl : Pg.length ≤ 8000 := by rw [ePg]; exact bk_pg_le _ _ _
    refine lv_aload_n hx hb dX10_pages_16 rfl (lv_at hl 0 rfl) ?_
    refine va_get (D := D) (ci := 11) (v := .int (nI (Pg.length))) (C := RX10) (T := TX10) (N := 48) hx hb hts inX10 hown hK hP 0 rfl rfl 28 (by decide) (hts _ k_1172) (fun _ h9 => h9) rfl dX10_pages_17 ?_
    have ePg2 : Pg = (bk_pg Fm To pn (bk_all K Fm To Rr pn mo pn (fun _ => none)) 8000 0 0) := by rw [ePg, eC]
    exact q_zi hf hr rfl hlocks hK hP hD hS (Nat.le_of_ble_eq_true rfl) (Nat.le_of_ble_eq_true rfl) (Or.inr ⟨by omega, by rw [← ePg2], ⟨(upd (upd I 28 (nI (Pg.length))) 29 (bk_least pn C)), (va_up (va_up (va_up (va_up (va_up (va_up (va_up (va_up F 30 g30) 31 w1) 32 w2) 33 w3) 34 w4) 35 g35) 36 g36) 37 g37), ⟨⟨rfl, rfl, rfl⟩, ⟨rfl, rfl, rfl⟩, ⟨rfl, rfl, rfl, rfl, rfl, rfl, rfl, rfl, rfl, rfl, rfl⟩, rfl, rfl, rfl, rfl⟩, rfl⟩⟩) dX10_pages_20
  · have c_1 := q_nen (a := lk) (b := 0) (by omega) (by omega) c_1
    refine lv_aload_n hx hb dX10_pages_7 rfl (lv_at hl 0 rfl) ?_
    refine va_get (D := D) (ci := 11) (v := .int (I 19)) (C := RX10) (T := TX10) (N := 48) hx hb hts inX10 hown hK hP 0 rfl rfl 19 (by decide) (hts _ k_1163) (fun _ h9 => h9) rfl dX10_pages_8 ?_
    refine q_seti (y := (nI gs)) (hI19 (by omega)) ?_
    exact q_zi hf hr rfl hlocks hK hP hD hS (Nat.le_of_ble_eq_true rfl) (Nat.le_of_ble_eq_true rfl) (Or.inl ⟨by omega, rfl, rfl⟩) dX10_pages_11
set_option maxHeartbeats 1000000 in
set_option maxRecDepth 100000 in
theorem r_cost (l : Launch) (D : va_G) (h0 : Nat) (q : Nat → Nat) (cB cI_ cZ : ClassId) (I : Nat → Int32) (F : Nat → Nat → Int32) (pn lk gs : Nat) (pe sl : Nat → Nat) (K : Nat → Int32) (Fm To Rr : Nat → Nat) (mo : Nat) (hpv : rp_ok F pn pe sl K Fm To Rr) (hI2 : I 2 = nI mo) (hI14 : I 14 = nI pn) (hI20 : I 20 = nI lk) (hI19 : 0 < lk → I 19 = nI gs) (hlk : lk ≤ 1) (hmo : mo ≤ 40) (hSS : rs_S Fm To pn ≤ 8000) : cI l D yX10_cost cX10_cost 1 (some .int) 5 150 0 0 [.ref h0] zT (mW h0 q cB cI_ cZ I F) (mT cB cI_ cZ) (fun r u => (0 < lk ∧ r = (-1) ∧ u = (mW h0 q cB cI_ cZ I F, mT cB cI_ cZ)) ∨ (lk = 0 ∧ r = bk_least pn (bk_all K Fm To Rr pn mo pn (fun _ => none)) ∧ (∃ (I2 : Nat → Int32) (F2 : Nat → Nat → Int32), sm I I2 F F2 ∧ u = (mW h0 q cB cI_ cZ I2 F2, mT cB cI_ cZ)))) := by
  refine q_si (by decide) (Nat.le_of_ble_eq_true rfl) ?_
  intro p e s m below meth c A ls hAe hf hr hlocks hin hK hP hD hS hA hZ hl
  obtain ⟨hx, hb, hml, hown, hts⟩ := id hf
  have hl : lv_has ls 1 [(0, .ref h0)] := hl
  refine lv_aload_n hx hb dX10_cost_0 rfl (lv_at hl 0 rfl) ?_
  refine va_get (D := D) (ci := 11) (v := .int (I 20)) (C := RX10) (T := TX10) (N := 48) hx hb hts inX10 hown hK hP 0 rfl rfl 20 (by decide) (hts _ k_1164) (fun _ h9 => h9) rfl dX10_cost_1 ?_
  refine q_seti (y := (nI lk)) hI20 ?_
  refine lv_if_eq (tgt := 9) hx hb dX10_cost_4 (by decide) (fun c_1 => ?_) (fun c_1 => ?_)
  · have c_1 := q_eqn (a := lk) (b := 0) (by omega) (by omega) c_1
    refine lv_aload_n hx hb dX10_cost_9 rfl (lv_at hl 0 rfl) ?_
    refine q_cv (k := 0) (n := 0) hK hP hD hS hA (fun hPc hKc hDc => q_rV (As := []) (rest := []) hf (r_breaks _ D h0 q cB cI_ cZ I F pn pe sl K Fm To Rr mo hpv hI2 hI14 hmo hSS _) k_1387 k_1384 k_1386 k_61 k_98 (nA := 0) (by decide +kernel) ⟨Nat.le_of_ble_eq_true rfl, Nat.le_of_ble_eq_true rfl⟩ hK hP (ci := 11) (q0 := 0) rfl rfl rfl hPc hKc hDc (fun _ _ _ _ h => h) (fun _ _ _ => trivial) rfl hl.1 rfl (Nat.le_of_ble_eq_true rfl) dX10_cost_10 ⟨Nat.le_of_ble_eq_true rfl, Nat.le_of_ble_eq_true rfl⟩) (by decide) (by decide) (fun u H locs hw hK hP hD hS => ?_)
    obtain ⟨C, Pg, g30, w1, w2, w3, w4, g35, g36, g37, eC, ePg, htab, hcl, hpgis, hpge, rfl⟩ := hw
    have hP : va_P D vcl (mW h0 q cB cI_ cZ (upd (upd I 28 (nI (Pg.length))) 29 (bk_least pn C)) (va_up (va_up (va_up (va_up (va_up (va_up (va_up (va_up F 30 g30) 31 w1) 32 w2) 33 w3) 34 w4) 35 g35) 36 g36) 37 g37)) H := hP
    have hD : va_D A (mW h0 q cB cI_ cZ (upd (upd I 28 (nI (Pg.length))) 29 (bk_least pn C)) (va_up (va_up (va_up (va_up (va_up (va_up (va_up (va_up F 30 g30) 31 w1) 32 w2) 33 w3) 34 w4) 35 g35) 36 g36) 37 g37)) := hD
    have hpgl : Pg.length ≤ 8000 := by rw [ePg]; exact bk_pg_le _ _ _
    refine lv_aload_n hx hb dX10_cost_13 rfl (lv_at hl 0 rfl) ?_
    refine va_get (D := D) (ci := 11) (v := .int (bk_least pn C)) (C := RX10) (T := TX10) (N := 48) hx hb hts inX10 hown hK hP 0 rfl rfl 29 (by decide) (hts _ k_1173) (fun _ h9 => h9) rfl dX10_cost_14 ?_
    exact q_zi hf hr rfl hlocks hK hP hD hS (Nat.le_of_ble_eq_true rfl) (Nat.le_of_ble_eq_true rfl) (Or.inr ⟨by omega, by rw [← eC], ⟨(upd (upd I 28 (nI (Pg.length))) 29 (bk_least pn C)), (va_up (va_up (va_up (va_up (va_up (va_up (va_up (va_up F 30 g30) 31 w1) 32 w2) 33 w3) 34 w4) 35 g35) 36 g36) 37 g37), ⟨⟨rfl, rfl, rfl⟩, ⟨rfl, rfl, rfl⟩, ⟨rfl, rfl, rfl, rfl, rfl, rfl, rfl, rfl, rfl, rfl, rfl⟩, rfl, rfl, rfl, rfl⟩, rfl⟩⟩) dX10_cost_17
  · have c_1 := q_nen (a := lk) (b := 0) (by omega) (by omega) c_1
    refine lv_iconst (v := (-1)) hx hb dX10_cost_7 (by decide) ?_
    exact q_zi hf hr rfl hlocks hK hP hD hS (Nat.le_of_ble_eq_true rfl) (Nat.le_of_ble_eq_true rfl) (Or.inl ⟨by omega, rfl, rfl⟩) dX10_cost_8
set_option maxHeartbeats 1000000 in
set_option maxRecDepth 100000 in
theorem r_lock (l : Launch) (D : va_G) (h0 : Nat) (q : Nat → Nat) (cB cI_ cZ : ClassId) (I : Nat → Int32) (F : Nat → Nat → Int32) (pn lk gs : Nat) (pe sl : Nat → Nat) (K : Nat → Int32) (Fm To Rr : Nat → Nat) (mo : Nat) (hpv : rp_ok F pn pe sl K Fm To Rr) (hI2 : I 2 = nI mo) (hI14 : I 14 = nI pn) (hI20 : I 20 = nI lk) (hI19 : 0 < lk → I 19 = nI gs) (hlk : lk ≤ 1) (hmo : mo ≤ 40) (hSS : rs_S Fm To pn ≤ 8000) : cI l D yX10_lock cX10_lock 6 (some .int) 5 150 0 0 [.ref h0] zT (mW h0 q cB cI_ cZ I F) (mT cB cI_ cZ) (fun r u => (0 < lk ∧ r = (-3) ∧ u = (mW h0 q cB cI_ cZ I F, mT cB cI_ cZ)) ∨ (lk = 0 ∧ (bk_pg Fm To pn (bk_all K Fm To Rr pn mo pn (fun _ => none)) 8000 0 0).length = 0 ∧ r = (-3) ∧ (∃ (I2 : Nat → Int32) (F2 : Nat → Nat → Int32), sm I I2 F F2 ∧ u = (mW h0 q cB cI_ cZ I2 F2, mT cB cI_ cZ))) ∨ (lk = 0 ∧ 0 < (bk_pg Fm To pn (bk_all K Fm To Rr pn mo pn (fun _ => none)) 8000 0 0).length ∧ r = nI (bk_pg Fm To pn (bk_all K Fm To Rr pn mo pn (fun _ => none)) 8000 0 0).length ∧ ∃ (I2 : Nat → Int32) (F2 : Nat → Nat → Int32) (P2 : List Q4), P2 = lk_pcs Fm To (pg_B pn (bk_pg Fm To pn (bk_all K Fm To Rr pn mo pn (fun _ => none)) 8000 0 0)) (pg_R pn (bk_pg Fm To pn (bk_all K Fm To Rr pn mo pn (fun _ => none)) 8000 0 0)) (bk_pg Fm To pn (bk_all K Fm To Rr pn mo pn (fun _ => none)) 8000 0 0).length ∧ pc_is P2 (F2 15) (F2 16) (F2 17) (F2 18) ∧ P2.length ≤ rs_S Fm To pn ∧ ix I I2 ∧ fx F F2 ∧ (I2 14 = nI P2.length ∧ I2 19 = nI (bk_pg Fm To pn (bk_all K Fm To Rr pn mo pn (fun _ => none)) 8000 0 0).length ∧ I2 20 = 1) ∧ u = (mW h0 q cB cI_ cZ I2 F2, mT cB cI_ cZ))) := by
  refine q_si (by decide) (Nat.le_of_ble_eq_true rfl) ?_
  intro p e s m below meth c A ls hAe hf hr hlocks hin hK hP hD hS hA hZ hl
  obtain ⟨hx, hb, hml, hown, hts⟩ := id hf
  have hl : lv_has ls 6 [(0, .ref h0)] := hl
  refine lv_aload_n hx hb dX10_lock_0 rfl (lv_at hl 0 rfl) ?_
  refine va_get (D := D) (ci := 11) (v := .int (I 20)) (C := RX10) (T := TX10) (N := 48) hx hb hts inX10 hown hK hP 0 rfl rfl 20 (by decide) (hts _ k_1164) (fun _ h9 => h9) rfl dX10_lock_1 ?_
  refine q_seti (y := (nI lk)) hI20 ?_
  refine lv_if_eq (tgt := 10) hx hb dX10_lock_4 (by decide) (fun c_1 => ?_) (fun c_1 => ?_)
  · have c_1 := q_eqn (a := lk) (b := 0) (by omega) (by omega) c_1
    refine lv_aload_n hx hb dX10_lock_10 rfl (lv_at hl 0 rfl) ?_
    refine q_cv (k := 0) (n := 0) hK hP hD hS hA (fun hPc hKc hDc => q_rV (As := []) (rest := []) hf (r_breaks _ D h0 q cB cI_ cZ I F pn pe sl K Fm To Rr mo hpv hI2 hI14 hmo hSS _) k_1387 k_1384 k_1386 k_61 k_98 (nA := 0) (by decide +kernel) ⟨Nat.le_of_ble_eq_true rfl, Nat.le_of_ble_eq_true rfl⟩ hK hP (ci := 11) (q0 := 0) rfl rfl rfl hPc hKc hDc (fun _ _ _ _ h => h) (fun _ _ _ => trivial) rfl hl.1 rfl (Nat.le_of_ble_eq_true rfl) dX10_lock_11 ⟨Nat.le_of_ble_eq_true rfl, Nat.le_of_ble_eq_true rfl⟩) (by decide) (by decide) (fun u H locs hw hK hP hD hS => ?_)
    obtain ⟨C, Pg, g30, w1, w2, w3, w4, g35, g36, g37, eC, ePg, htab, hcl, hpgis, hpge, rfl⟩ := hw
    have hP : va_P D vcl (mW h0 q cB cI_ cZ (upd (upd I 28 (nI (Pg.length))) 29 (bk_least pn C)) (va_up (va_up (va_up (va_up (va_up (va_up (va_up (va_up F 30 g30) 31 w1) 32 w2) 33 w3) 34 w4) 35 g35) 36 g36) 37 g37)) H := hP
    have hD : va_D A (mW h0 q cB cI_ cZ (upd (upd I 28 (nI (Pg.length))) 29 (bk_least pn C)) (va_up (va_up (va_up (va_up (va_up (va_up (va_up (va_up F 30 g30) 31 w1) 32 w2) 33 w3) 34 w4) 35 g35) 36 g36) 37 g37)) := hD
    have hpgl : Pg.length ≤ 8000 := by rw [ePg]; exact bk_pg_le _ _ _
    refine lv_aload_n hx hb dX10_lock_14 rfl (lv_at hl 0 rfl) ?_
    refine va_get (D := D) (ci := 11) (v := .int (nI (Pg.length))) (C := RX10) (T := TX10) (N := 48) hx hb hts inX10 hown hK hP 0 rfl rfl 28 (by decide) (hts _ k_1172) (fun _ h9 => h9) rfl dX10_lock_15 ?_
    refine lv_if_ne (tgt := 24) hx hb dX10_lock_18 (by decide) (fun c_2 => ?_) (fun c_2 => ?_)
    · have c_2 := q_nen (a := Pg.length) (b := 0) (by omega) (by omega) c_2
      refine lv_iconst (v := 0) hx hb dX10_lock_24 (by decide) ?_
      refine lv_istore_n (lv' := [(1, .int 0), (0, .ref h0)]) hx hb dX10_lock_25 rfl hl (by decide) rfl (fun ls hl => ?_)
      refine lv_iconst (v := 0) hx hb dX10_lock_26 (by decide) ?_
      refine lv_istore_n (lv' := [(2, .int 0), (1, .int 0), (0, .ref h0)]) hx hb dX10_lock_27 rfl hl (by decide) rfl (fun ls hl => ?_)
      have hz9 : ∀ p, p < pn → 0 < To p - Fm p := fun p hp => by have h9 := hpv.2 p hp; omega
      have hpn8 := hpv.1
      have hne0 : bk_pg Fm To pn C 8000 0 0 ≠ [] := fun z9 => by rw [← ePg] at z9; have h9 := congrArg List.length z9; have h9 : Pg.length = 0 := h9; omega
      obtain ⟨f8, y8, ef8, hp8, hy8, _⟩ := bk_pg_c hne0
      have hat0 : pg_at Fm To pn C 0 0 := ⟨Nat.zero_le _, fun _ => rfl, fun h9 => ⟨hz9 0 h9, y8, hy8⟩⟩
      have hok := pg_ok hz9 htab hcl 8000 0 0 hat0 (by show rs_S Fm To pn ≤ rs_S Fm To 0 + 0 + 8000; omega)
      rw [← ePg] at hok
      have hrd := pg_rd hpgis hpge (by omega)
      refine lo_out (I := (upd (upd I 28 (nI (Pg.length))) 29 (bk_least pn C))) (F := (va_up (va_up (va_up (va_up (va_up (va_up (va_up (va_up F 30 g30) 31 w1) 32 w2) 33 w3) 34 w4) 35 g35) 36 g36) 37 g37)) (pn := pn) (K := K) (Rr := Rr) (gn := Pg.length) (Bp := pg_B pn Pg) (Br := pg_R pn Pg) hpv hSS rfl hpgl hrd hok.2.2 (Nat.le_of_ble_eq_true rfl) (Nat.le_of_ble_eq_true rfl) (Nat.le_of_ble_eq_true rfl) (Nat.le_of_ble_eq_true rfl) hA hf hK Pg.length 0 0 [] (F 38) (F 39) (F 40) (F 41) _ _ ls (by omega) rfl rfl (fun i hi => absurd hi (Nat.not_lt_zero i)) (fun _ => Nat.zero_le _) (Nat.zero_le _) hP hD hS (lv_sub hl (l' := [(2, .int 0), (1, .int 0), (0, .ref h0)]) [0, 1, 2] rfl) (fun n P2 f38 f39 f40 f41 H locs ls a1 a2 a3 a4 hP hD hS hl => ?_)
      refine lv_aload_n hx hb dX10_lock_174 rfl (lv_at hl 1 rfl) ?_
      refine lv_iload_n hx hb dX10_lock_175 rfl (lv_at hl 0 rfl) ?_
      refine va_put (D := D) (ci := 11) (v := .int (nI n)) (ty := .int) (C := RX10) (T := TX10) (N := 48) hx hb hts inX10 tyX10 tyX10_ok nmX10 hown hK hP hD hS 0 rfl rfl 14 (by decide) (hts _ k_1158) (fun _ h9 => h9) rfl (by decide +kernel) rfl rfl (Nat.le_of_ble_eq_true rfl) dX10_lock_176 (fun H locs hP hD hS => ?_)
      have hP : va_P D vcl (mW h0 q cB cI_ cZ (upd (upd (upd I 14 (nI n)) 28 (nI (Pg.length))) 29 (bk_least pn C)) (va_up (va_up (va_up (va_up (va_up (va_up (va_up (va_up (va_up (va_up (va_up (va_up F 30 g30) 31 w1) 32 w2) 33 w3) 34 w4) 35 g35) 36 g36) 37 g37) 38 f38) 39 f39) 40 f40) 41 f41)) H := hP
      have hD : va_D A (mW h0 q cB cI_ cZ (upd (upd (upd I 14 (nI n)) 28 (nI (Pg.length))) 29 (bk_least pn C)) (va_up (va_up (va_up (va_up (va_up (va_up (va_up (va_up (va_up (va_up (va_up (va_up F 30 g30) 31 w1) 32 w2) 33 w3) 34 w4) 35 g35) 36 g36) 37 g37) 38 f38) 39 f39) 40 f40) 41 f41)) := hD
      refine lv_iconst (v := 0) hx hb dX10_lock_179 (by decide) ?_
      refine lv_istore_n (lv' := [(2, .int 0), (1, .int (nI n)), (0, .ref h0)]) hx hb dX10_lock_180 rfl hl (by decide) rfl (fun ls hl => ?_)
      refine lo_cp (I := (upd (upd (upd I 14 (nI n)) 28 (nI (Pg.length))) 29 (bk_least pn C))) (F := (va_up (va_up (va_up (va_up (va_up (va_up (va_up (va_up (va_up (va_up (va_up (va_up F 30 g30) 31 w1) 32 w2) 33 w3) 34 w4) 35 g35) 36 g36) 37 g37) 38 f38) 39 f39) 40 f40) 41 f41)) (n := n) (by omega) (Nat.le_of_ble_eq_true rfl) (Nat.le_of_ble_eq_true rfl) (Nat.le_of_ble_eq_true rfl) (Nat.le_of_ble_eq_true rfl) hA hf hK n 0 (F 15) (F 16) (F 17) (F 18) _ _ ls (by omega) (fun i hi => absurd hi (Nat.not_lt_zero i)) hP hD hS (lv_sub hl (l' := [(2, .int 0), (1, .int (nI n)), (0, .ref h0)]) [0, 1, 2] rfl) (fun g15 g16 g17 g18 H locs ls b1 hP hD hS hl => ?_)
      refine lv_aload_n hx hb dX10_lock_240 rfl (lv_at hl 0 rfl) ?_
      refine lv_aload_n hx hb dX10_lock_241 rfl (lv_at hl 0 rfl) ?_
      refine va_get (D := D) (ci := 11) (v := .int (nI (Pg.length))) (C := RX10) (T := TX10) (N := 48) hx hb hts inX10 hown hK hP 0 rfl rfl 28 (by decide) (hts _ k_1172) (fun _ h9 => h9) rfl dX10_lock_242 ?_
      refine va_put (D := D) (ci := 11) (v := .int (nI (Pg.length))) (ty := .int) (C := RX10) (T := TX10) (N := 48) hx hb hts inX10 tyX10 tyX10_ok nmX10 hown hK hP hD hS 0 rfl rfl 19 (by decide) (hts _ k_1163) (fun _ h9 => h9) rfl (by decide +kernel) rfl rfl (Nat.le_of_ble_eq_true rfl) dX10_lock_245 (fun H locs hP hD hS => ?_)
      have hP : va_P D vcl (mW h0 q cB cI_ cZ (upd (upd (upd (upd I 14 (nI n)) 19 (nI (Pg.length))) 28 (nI (Pg.length))) 29 (bk_least pn C)) (va_up (va_up (va_up (va_up (va_up (va_up (va_up (va_up (va_up (va_up (va_up (va_up (va_up (va_up (va_up (va_up F 15 g15) 16 g16) 17 g17) 18 g18) 30 g30) 31 w1) 32 w2) 33 w3) 34 w4) 35 g35) 36 g36) 37 g37) 38 f38) 39 f39) 40 f40) 41 f41)) H := hP
      have hD : va_D A (mW h0 q cB cI_ cZ (upd (upd (upd (upd I 14 (nI n)) 19 (nI (Pg.length))) 28 (nI (Pg.length))) 29 (bk_least pn C)) (va_up (va_up (va_up (va_up (va_up (va_up (va_up (va_up (va_up (va_up (va_up (va_up (va_up (va_up (va_up (va_up F 15 g15) 16 g16) 17 g17) 18 g18) 30 g30) 31 w1) 32 w2) 33 w3) 34 w4) 35 g35) 36 g36) 37 g37) 38 f38) 39 f39) 40 f40) 41 f41)) := hD
      refine lv_aload_n hx hb dX10_lock_248 rfl (lv_at hl 0 rfl) ?_
      refine lv_iconst (v := 1) hx hb dX10_lock_249 (by decide) ?_
      refine va_put (D := D) (ci := 11) (v := .int 1) (ty := .boolean) (C := RX10) (T := TX10) (N := 48) hx hb hts inX10 tyX10 tyX10_ok nmX10 hown hK hP hD hS 0 rfl rfl 20 (by decide) (hts _ k_1164) (fun _ h9 => h9) rfl (by decide +kernel) rfl rfl (Nat.le_of_ble_eq_true rfl) dX10_lock_250 (fun H locs hP hD hS => ?_)
      have hP : va_P D vcl (mW h0 q cB cI_ cZ (upd (upd (upd (upd (upd I 14 (nI n)) 19 (nI (Pg.length))) 20 1) 28 (nI (Pg.length))) 29 (bk_least pn C)) (va_up (va_up (va_up (va_up (va_up (va_up (va_up (va_up (va_up (va_up (va_up (va_up (va_up (va_up (va_up (va_up F 15 g15) 16 g16) 17 g17) 18 g18) 30 g30) 31 w1) 32 w2) 33 w3) 34 w4) 35 g35) 36 g36) 37 g37) 38 f38) 39 f39) 40 f40) 41 f41)) H := hP
      have hD : va_D A (mW h0 q cB cI_ cZ (upd (upd (upd (upd (upd I 14 (nI n)) 19 (nI (Pg.length))) 20 1) 28 (nI (Pg.length))) 29 (bk_least pn C)) (va_up (va_up (va_up (va_up (va_up (va_up (va_up (va_up (va_up (va_up (va_up (va_up (va_up (va_up (va_up (va_up F 15 g15) 16 g16) 17 g17) 18 g18) 30 g30) 31 w1) 32 w2) 33 w3) 34 w4) 35 g35) 36 g36) 37 g37) 38 f38) 39 f39) 40 f40) 41 f41)) := hD
      refine lv_aload_n hx hb dX10_lock_253 rfl (lv_at hl 0 rfl) ?_
      refine va_get (D := D) (ci := 11) (v := .int (nI (Pg.length))) (C := RX10) (T := TX10) (N := 48) hx hb hts inX10 hown hK hP 0 rfl rfl 19 (by decide) (hts _ k_1163) (fun _ h9 => h9) rfl dX10_lock_254 ?_
      have ePg2 : Pg = (bk_pg Fm To pn (bk_all K Fm To Rr pn mo pn (fun _ => none)) 8000 0 0) := by rw [ePg, eC]
      rw [ePg2] at a1
      exact q_zi hf hr rfl hlocks hK hP hD hS (Nat.le_of_ble_eq_true rfl) (Nat.le_of_ble_eq_true rfl) (Or.inr (Or.inr ⟨by omega, by rw [← ePg2]; omega, by rw [← ePg2], (upd (upd (upd (upd (upd I 14 (nI n)) 19 (nI (Pg.length))) 20 1) 28 (nI (Pg.length))) 29 (bk_least pn C)), (va_up (va_up (va_up (va_up (va_up (va_up (va_up (va_up (va_up (va_up (va_up (va_up (va_up (va_up (va_up (va_up F 15 g15) 16 g16) 17 g17) 18 g18) 30 g30) 31 w1) 32 w2) 33 w3) 34 w4) 35 g35) 36 g36) 37 g37) 38 f38) 39 f39) 40 f40) 41 f41), P2, a1, pc_is_c a3 (fun j hj => b1 j (by omega)), by omega, ⟨rfl, rfl, rfl⟩, ⟨rfl, rfl, rfl, rfl, rfl, rfl, rfl, rfl, rfl, rfl, rfl⟩, ⟨congrArg nI a2, by rw [← ePg2]; rfl, rfl⟩, rfl⟩)) dX10_lock_257
    · have c_2 := q_eqn (a := Pg.length) (b := 0) (by omega) (by omega) c_2
      refine lv_bipush (v := (-3)) hx hb dX10_lock_21 (by decide) ?_
      have ePg2 : Pg = (bk_pg Fm To pn (bk_all K Fm To Rr pn mo pn (fun _ => none)) 8000 0 0) := by rw [ePg, eC]
      exact q_zi hf hr rfl hlocks hK hP hD hS (Nat.le_of_ble_eq_true rfl) (Nat.le_of_ble_eq_true rfl) (Or.inr (Or.inl ⟨by omega, by rw [← ePg2]; omega, rfl, ⟨(upd (upd I 28 (nI (Pg.length))) 29 (bk_least pn C)), (va_up (va_up (va_up (va_up (va_up (va_up (va_up (va_up F 30 g30) 31 w1) 32 w2) 33 w3) 34 w4) 35 g35) 36 g36) 37 g37), ⟨⟨rfl, rfl, rfl⟩, ⟨rfl, rfl, rfl⟩, ⟨rfl, rfl, rfl, rfl, rfl, rfl, rfl, rfl, rfl, rfl, rfl⟩, rfl, rfl, rfl, rfl⟩, rfl⟩⟩)) dX10_lock_23
  · have c_1 := q_nen (a := lk) (b := 0) (by omega) (by omega) c_1
    refine lv_bipush (v := (-3)) hx hb dX10_lock_7 (by decide) ?_
    exact q_zi hf hr rfl hlocks hK hP hD hS (Nat.le_of_ble_eq_true rfl) (Nat.le_of_ble_eq_true rfl) (Or.inl ⟨by omega, rfl, rfl⟩) dX10_lock_9
