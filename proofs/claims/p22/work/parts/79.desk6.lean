theorem nd_inj {xs : List Nat} (h : xs.Nodup) {i j : Nat} (hi : i < xs.length) (hj : j < xs.length) (e : xs.getD i 0 = xs.getD j 0) : i = j := by
  have hp := List.pairwise_iff_getElem.mp h
  rw [List.getD_eq_getElem?_getD, List.getElem?_eq_getElem hi, List.getD_eq_getElem?_getD, List.getElem?_eq_getElem hj] at e
  have e : xs[i] = xs[j] := e
  by_cases c : i < j
  · exact absurd e (hp i j hi hj c)
  · by_cases c2 : j < i
    · exact absurd e.symm (hp j i hj hi c2)
    · omega
theorem elR.un {cB cI_ : ClassId} {L : List Nat} {g g1 : hG} {a w x : Nat} {kd nm sk : Int32} {X : List Int32} (h : elR cB cI_ L g a kd nm sk w X) (hu : up1 g x 9 g1) (hx : ¬ a = x) : elR cB cI_ L g1 a kd nm sk w X := by
  obtain ⟨tx, rf, rt, N0, M, tf, f1, f2, h1, h2, h3, h4, h5⟩ := h
  exact ⟨tx, rf, rt, N0, M, tf, f1, f2, h1.un hu hx, h2.up hu (by decide), h3.up hu (by decide), h4.up hu (by decide), h5⟩
theorem elsR.set {cB cI_ : ClassId} {L : List Nat} {g g1 : hG} {xs : List Nat} {Es : List E5} {j : Nat} {E : E5} (h : elsR cB cI_ L g xs Es) (hj : j < xs.length) (hu : up1 g (xs.getD j 0) 9 g1) (hn : elR cB cI_ L g1 (xs.getD j 0) E.1 E.2.1 E.2.2.1 E.2.2.2.1 E.2.2.2.2) : elsR cB cI_ L g1 xs (Es.set j E) := by
  have hl := h.1
  refine ⟨by rw [List.length_set]; exact hl, h.2.1, fun e he => ?_⟩
  by_cases c : e = j
  · rw [c, show (Es.set j E).getD j dE = E by rw [List.getD_eq_getElem?_getD, List.getElem?_set_self (by omega)]; rfl]
    exact hn
  · rw [show (Es.set j E).getD e dE = Es.getD e dE by rw [List.getD_eq_getElem?_getD, List.getElem?_set_ne (fun z => c z.symm), List.getD_eq_getElem?_getD]]
    exact (h.2.2 e he).un hu (fun z => c (nd_inj h.2.1 he hj z))
abbrev cX9_strike : ByteArray := prog_1_method_12_code
def yX9_strike : MethodName := ⟨RX9, "strike", "(I)I"⟩
theorem k_23 : (Cond.selects RX9 yX9_elementAt yX9_elementAt) ∈ gT := gT_i 23 (by decide +kernel) rfl
theorem k_235 : (Cond.fieldLink RX9 139 "ScriptDesk$Element" "struck" "Z") ∈ gT := gT_i 235 (by decide +kernel) rfl
theorem k_737 : (Cond.methodLink RX9 126 yX9_elementAt) ∈ gT := gT_i 737 (by decide +kernel) rfl
theorem k_739 : (Cond.instanceMethod yX9_elementAt) ∈ gT := gT_i 739 (by decide +kernel) rfl
theorem k_740 : (Cond.code yX9_elementAt cX9_elementAt 2 (some (.object "ScriptDesk$Element"))) ∈ gT := gT_i 740 (by decide +kernel) rfl
theorem k_928 : (Cond.methodLink RX9 191 yX6_removePiecesOf) ∈ gT := gT_i 928 (by decide +kernel) rfl
theorem k_929 : (Cond.instanceMethod yX6_removePiecesOf) ∈ gT := gT_i 929 (by decide +kernel) rfl
theorem k_930 : (Cond.selects RX6 yX6_removePiecesOf yX6_removePiecesOf) ∈ gT := gT_i 930 (by decide +kernel) rfl
theorem k_931 : (Cond.code yX6_removePiecesOf cX6_removePiecesOf 3 none) ∈ gT := gT_i 931 (by decide +kernel) rfl
theorem dX9_strike_0 : decode cX9_strike 0 = .ok (.aload_n 0, 1) := by decide +kernel
theorem dX9_strike_1 : decode cX9_strike 1 = .ok (.iload_n 1, 1) := by decide +kernel
theorem dX9_strike_2 : decode cX9_strike 2 = .ok (.invokevirtual 123, 3) := by decide +kernel
theorem dX9_strike_5 : decode cX9_strike 5 = .ok (.ifCond .ne 6, 3) := by decide +kernel
theorem dX9_strike_8 : decode cX9_strike 8 = .ok (.bipush (-2), 2) := by decide +kernel
theorem dX9_strike_10 : decode cX9_strike 10 = .ok (.ireturn, 1) := by decide +kernel
theorem dX9_strike_11 : decode cX9_strike 11 = .ok (.aload_n 0, 1) := by decide +kernel
theorem dX9_strike_12 : decode cX9_strike 12 = .ok (.iload_n 1, 1) := by decide +kernel
theorem dX9_strike_13 : decode cX9_strike 13 = .ok (.invokevirtual 126, 3) := by decide +kernel
theorem dX9_strike_16 : decode cX9_strike 16 = .ok (.astore_n 2, 1) := by decide +kernel
theorem dX9_strike_17 : decode cX9_strike 17 = .ok (.aload_n 0, 1) := by decide +kernel
theorem dX9_strike_18 : decode cX9_strike 18 = .ok (.getfield 116, 3) := by decide +kernel
theorem dX9_strike_21 : decode cX9_strike 21 = .ok (.ifCond .eq 10, 3) := by decide +kernel
theorem dX9_strike_31 : decode cX9_strike 31 = .ok (.bipush (-3), 2) := by decide +kernel
theorem dX9_strike_33 : decode cX9_strike 33 = .ok (.ireturn, 1) := by decide +kernel
theorem dX9_strike_24 : decode cX9_strike 24 = .ok (.aload_n 2, 1) := by decide +kernel
theorem dX9_strike_25 : decode cX9_strike 25 = .ok (.getfield 139, 3) := by decide +kernel
theorem dX9_strike_28 : decode cX9_strike 28 = .ok (.ifCond .eq 6, 3) := by decide +kernel
theorem dX9_strike_34 : decode cX9_strike 34 = .ok (.aload_n 2, 1) := by decide +kernel
theorem dX9_strike_35 : decode cX9_strike 35 = .ok (.iconst 1, 1) := by decide +kernel
theorem dX9_strike_36 : decode cX9_strike 36 = .ok (.putfield 139, 3) := by decide +kernel
theorem dX9_strike_39 : decode cX9_strike 39 = .ok (.aload_n 0, 1) := by decide +kernel
theorem dX9_strike_40 : decode cX9_strike 40 = .ok (.getfield 49, 3) := by decide +kernel
theorem dX9_strike_43 : decode cX9_strike 43 = .ok (.aload_n 2, 1) := by decide +kernel
theorem dX9_strike_44 : decode cX9_strike 44 = .ok (.invokevirtual 191, 3) := by decide +kernel
theorem dX9_strike_47 : decode cX9_strike 47 = .ok (.iconst 1, 1) := by decide +kernel
theorem dX9_strike_48 : decode cX9_strike 48 = .ok (.ireturn, 1) := by decide +kernel
set_option maxHeartbeats 1000000 in
set_option maxRecDepth 100000 in
theorem d_strB (l : Launch) (D : va_G) (z : Nat → Nat) (cB cI_ cO : ClassId) (L0 : List Nat) (g0 : hG) (dk tp rd els reo nob pr bk gl sl mo : Nat) (v10 v11 : Int32) (cap : Nat) (xs : List Nat) (Es : List E5) (x1 : Int32) (h_dk : ho L0 g0 dk 1 (.inr (10, [.ref tp, .ref rd, .ref els, .ref reo, .ref nob, .ref pr, .ref bk, .ref gl, .ref sl, .int (nI mo), .int v10, .int v11]))) (h_els : alR cO (z 0) 5 6 L0 g0 els cap xs) (h_es : elsR cB cI_ L0 g0 xs Es) (hxl : xs.length ≤ 60) (hx1 : ¬ ∃ j : Nat, j < xs.length ∧ x1 = nI j) : eIs l D yX9_strike cX9_strike 3 (some .int) 2 41 0 0 [.ref dk, .int x1] z cB cI_ cO L0 g0 (fun r => r = -2) := by
  refine o_si (by decide) (Nat.le_of_ble_eq_true rfl) ?_
  intro p e s m below meth c A ls hf hr hlocks hin hK hP hD hS hA hZ hN hl
  obtain ⟨hx, hb, hml, hown, hts⟩ := id hf
  have hl : lv_has ls 3 [(0, .ref dk), (1, .int x1)] := hl
  refine lv_aload_n hx hb dX9_strike_0 rfl (lv_at hl 0 rfl) ?_
  refine lv_iload_n hx hb dX9_strike_1 rfl (lv_at hl 1 rfl) ?_
  refine o_cis (k := 0) (n := 0) hK hP hD hS hA (o_rV (As := [.int x1]) (rest := []) hf (d_isE _ _ _ _ _ _ _ _ dk tp rd els reo nob pr bk gl sl mo v10 v11 cap xs Es x1 h_dk h_els h_es hxl _) k_736 k_733 k_735 k_22 k_84 (nA := 1) (by decide +kernel) ⟨Nat.le_of_ble_eq_true rfl, Nat.le_of_ble_eq_true rfl⟩ hK hP hD hS hA hZ hN h_dk rfl rfl rfl hl.1 rfl (Nat.le_of_ble_eq_true rfl) dX9_strike_2 ⟨(show 0 + 0 ≤ 0 by omega), (show 0 + 0 ≤ 0 by omega)⟩) (Nat.le_refl _) (Nat.le_refl _) (fun r H locs hw hP hD hS => ?_)
  rcases hw with ⟨c_1, rfl⟩ | ⟨c_1, rfl⟩
  · have hP := hP
    refine lv_if_ne (tgt := 11) hx hb dX9_strike_5 (by decide) (fun _ => ?_) (fun hno => absurd hno (by decide))
    exact absurd c_1 hx1
  · have hP := hP
    refine lv_if_ne (tgt := 11) hx hb dX9_strike_5 (by decide) (fun hno => absurd hno (by decide)) (fun _ => ?_)
    refine lv_bipush (v := (-2)) hx hb dX9_strike_8 (by decide) ?_
    exact o_ri hf hr rfl hlocks hK hP hD hS (show 0 ≤ 0 by omega) (show 0 ≤ 0 by omega) ⟨rfl, rfl, rfl⟩ dX9_strike_10
set_option maxHeartbeats 1000000 in
set_option maxRecDepth 100000 in
theorem d_strN (l : Launch) (D : va_G) (z : Nat → Nat) (cB cI_ cO : ClassId) (L0 : List Nat) (g0 : hG) (dk tp rd els reo nob pr bk gl sl mo : Nat) (v11 : Int32) (cap : Nat) (xs : List Nat) (Es : List E5) (lk j : Nat) (h_dk : ho L0 g0 dk 1 (.inr (10, [.ref tp, .ref rd, .ref els, .ref reo, .ref nob, .ref pr, .ref bk, .ref gl, .ref sl, .int (nI mo), .int (nI lk), .int v11]))) (h_els : alR cO (z 0) 5 6 L0 g0 els cap xs) (h_es : elsR cB cI_ L0 g0 xs Es) (hxl : xs.length ≤ 60) (hj : j < xs.length) (hlk : lk ≤ 1) (hno : lk = 0 ∨ ¬ (Es.getD j dE).2.2.1 = 0) : eIs l D yX9_strike cX9_strike 3 (some .int) 4 85 0 0 [.ref dk, .int (nI j)] z cB cI_ cO L0 g0 (fun r => r = -3) := by
  refine o_si (by decide) (Nat.le_of_ble_eq_true rfl) ?_
  intro p e s m below meth c A ls hf hr hlocks hin hK hP hD hS hA hZ hN hl
  obtain ⟨hx, hb, hml, hown, hts⟩ := id hf
  have hl : lv_has ls 3 [(0, .ref dk), (1, .int (nI j))] := hl
  refine lv_aload_n hx hb dX9_strike_0 rfl (lv_at hl 0 rfl) ?_
  refine lv_iload_n hx hb dX9_strike_1 rfl (lv_at hl 1 rfl) ?_
  refine o_cis (k := 0) (n := 0) hK hP hD hS hA (o_rV (As := [.int (nI j)]) (rest := []) hf (d_isE1 _ _ _ _ _ _ _ _ dk tp rd els reo nob pr bk gl sl mo (nI lk) v11 cap xs Es j h_dk h_els h_es hxl (by omega) _) k_736 k_733 k_735 k_22 k_84 (nA := 1) (by decide +kernel) ⟨Nat.le_of_ble_eq_true rfl, Nat.le_of_ble_eq_true rfl⟩ hK hP hD hS hA hZ hN h_dk rfl rfl rfl hl.1 rfl (Nat.le_of_ble_eq_true rfl) dX9_strike_2 ⟨(show 0 + 0 ≤ 0 by omega), (show 0 + 0 ≤ 0 by omega)⟩) (Nat.le_refl _) (Nat.le_refl _) (fun r H locs hw hP hD hS => ?_)
  obtain rfl := hw
  refine lv_if_ne (tgt := 11) hx hb dX9_strike_5 (by decide) (fun _ => ?_) (fun hno => absurd hno (by decide))
  refine lv_aload_n hx hb dX9_strike_11 rfl (lv_at hl 0 rfl) ?_
  refine lv_iload_n hx hb dX9_strike_12 rfl (lv_at hl 1 rfl) ?_
  refine o_crs (k := 0) (n := 0) hK hP hD hS hA (o_rV (As := [.int (nI j)]) (rest := []) hf (d_elAt _ _ _ _ _ _ _ _ dk tp rd els reo nob pr bk gl sl mo (nI lk) v11 cap xs Es j h_dk h_els h_es hxl (by omega) _) k_740 k_737 k_739 k_23 k_84 (nA := 1) (by decide +kernel) ⟨Nat.le_of_ble_eq_true rfl, Nat.le_of_ble_eq_true rfl⟩ hK hP hD hS hA hZ hN h_dk rfl rfl rfl hl.1 rfl (Nat.le_of_ble_eq_true rfl) dX9_strike_13 ⟨(show 0 + 0 ≤ 0 by omega), (show 0 + 0 ≤ 0 by omega)⟩) (Nat.le_refl _) (Nat.le_refl _) (fun r H locs hw hP hD hS => ?_)
  obtain rfl := hw
  obtain ⟨⟨txg1, rfg1, rtg1, h_eg1⟩, hr_g1⟩ := h_es.o2 (show j < xs.length by omega)
  refine lv_astore_n (lv' := [(2, .ref (xs.getD j 0)), (0, .ref dk), (1, .int (nI j))]) hx hb dX9_strike_16 rfl hl (by decide) rfl (fun ls hl => ?_)
  refine lv_aload_n hx hb dX9_strike_17 rfl (lv_at hl 1 rfl) ?_
  refine o_get (D := D) (ci := 10) (v := .int (nI lk)) (C := RX9) (T := TX9) (N := 12) hx hb hts inX9 hown hK hP h_dk rfl 10 (by decide) (hts _ k_439) (fun _ h9 => h9) rfl dX9_strike_18 ?_
  refine lv_if_eq (tgt := 31) hx hb dX9_strike_21 (by decide) (fun c_2 => ?_) (fun c_2 => ?_)
  · have c_2 := q_eqn (a := lk) (b := 0) (by omega) (by omega) c_2
    refine lv_bipush (v := (-3)) hx hb dX9_strike_31 (by decide) ?_
    exact o_ri hf hr rfl hlocks hK hP hD hS (show 0 ≤ 0 by omega) (show 0 ≤ 0 by omega) ⟨rfl, rfl, rfl⟩ dX9_strike_33
  · have c_2 := q_nen (a := lk) (b := 0) (by omega) (by omega) c_2
    refine lv_aload_n hx hb dX9_strike_24 rfl (lv_at hl 0 rfl) ?_
    refine o_get (D := D) (ci := 2) (v := .int ((Es.getD j dE).2.2.1)) (C := RX1) (T := TX1) (N := 9) hx hb hts inX1 hown hK hP h_eg1 rfl 2 (by decide) (hts _ k_235) (fun _ h9 => h9) rfl dX9_strike_25 ?_
    refine lv_if_eq (tgt := 34) hx hb dX9_strike_28 (by decide) (fun c_3 => ?_) (fun c_3 => ?_)
    · exact False.elim (hno.elim (fun h9 => absurd h9 (by omega)) (fun h9 => h9 c_3))
    · refine lv_bipush (v := (-3)) hx hb dX9_strike_31 (by decide) ?_
      exact o_ri hf hr rfl hlocks hK hP hD hS (show 0 ≤ 0 by omega) (show 0 ≤ 0 by omega) ⟨rfl, rfl, rfl⟩ dX9_strike_33
set_option maxHeartbeats 1000000 in
set_option maxRecDepth 100000 in
theorem d_strY (l : Launch) (D : va_G) (z : Nat → Nat) (cB cI_ cO : ClassId) (L0 : List Nat) (g0 : hG) (dk tp rd els reo nob pr bk gl sl mo : Nat) (v11 : Int32) (cap : Nat) (xs : List Nat) (Es : List E5) (pcs spr nwh cp cs B SN j : Nat) (pa sa : List Nat) (P : List Q4) (h_dk : ho L0 g0 dk 1 (.inr (10, [.ref tp, .ref rd, .ref els, .ref reo, .ref nob, .ref pr, .ref bk, .ref gl, .ref sl, .int (nI mo), .int 1, .int v11]))) (h_pr : ho L0 g0 pr 13 (.inr (7, [.ref pcs, .ref spr, .ref nwh]))) (h_pcs : alR cO (z 0) 14 15 L0 g0 pcs cp pa) (h_spr : alR cO (z 0) 16 17 L0 g0 spr cs sa) (h_pc : pcR L0 g0 (fun e => xs.getD e 0) pa P) (h_sp : spR L0 g0 sa) (h_els : alR cO (z 0) 5 6 L0 g0 els cap xs) (h_es : elsR cB cI_ L0 g0 xs Es) (hpa : pa.length ≤ 20000) (hxl : xs.length ≤ 60) (hB : 100 ≤ B) (hB2 : B ≤ 60000) (hcs : cs ≤ B) (hBs2 : 3 * SN ≤ 2 * B) (hsn : pa.length + sa.length ≤ SN) (hnd0 : (pa ++ sa).Nodup) (hj : j < xs.length) (hst : (Es.getD j dE).2.2.1 = 0) : eI l D yX9_strike cX9_strike 3 (some .int) 9 242 (B / 5) (4 * B) [.ref dk, .int (nI j)] z cB cI_ cO L0 g0 (fun r L g => r = 1 ∧ ∃ (p2 s2 : List Nat) (P2 : List Q4) (c2 : Nat), P2 = rmv (fun e => xs.getD e 0) (xs.getD j 0) pa.length P ∧ (p2 ++ s2).Nodup ∧ p2.length + s2.length = pa.length + sa.length ∧ c2 ≤ B ∧ fr [9, 14, 15, 16, 17] L0 g0 L g ∧ alR cO (z 0) 14 15 L g pcs cp p2 ∧ alR cO (z 0) 16 17 L g spr c2 s2 ∧ pcR L g (fun e => xs.getD e 0) p2 P2 ∧ spR L g s2 ∧ elsR cB cI_ L g xs ((Es.set j ((Es.getD j dE).1, (Es.getD j dE).2.1, 1, (Es.getD j dE).2.2.2.1, (Es.getD j dE).2.2.2.2)))) := by
  refine o_si (by decide) (Nat.le_of_ble_eq_true rfl) ?_
  intro p e s m below meth c A ls hf hr hlocks hin hK hP hD hS hA hZ hN hl
  obtain ⟨hx, hb, hml, hown, hts⟩ := id hf
  have hl : lv_has ls 3 [(0, .ref dk), (1, .int (nI j))] := hl
  have hfr : fr [9, 14, 15, 16, 17] L0 g0 L0 g0 := fr.rf
  refine lv_aload_n hx hb dX9_strike_0 rfl (lv_at hl 0 rfl) ?_
  refine lv_iload_n hx hb dX9_strike_1 rfl (lv_at hl 1 rfl) ?_
  refine o_cis (k := 0) (n := 0) hK hP hD hS hA (o_rV (As := [.int (nI j)]) (rest := []) hf (d_isE1 _ _ _ _ _ _ _ _ dk tp rd els reo nob pr bk gl sl mo 1 v11 cap xs Es j h_dk h_els h_es hxl (by omega) _) k_736 k_733 k_735 k_22 k_84 (nA := 1) (by decide +kernel) ⟨Nat.le_of_ble_eq_true rfl, Nat.le_of_ble_eq_true rfl⟩ hK hP hD hS hA hZ hN h_dk rfl rfl rfl hl.1 rfl (Nat.le_of_ble_eq_true rfl) dX9_strike_2 ⟨(show 0 + 0 ≤ B / 5 by omega), (show 0 + 0 ≤ 4 * B by omega)⟩) (Nat.le_refl _) (Nat.le_refl _) (fun r H locs hw hP hD hS => ?_)
  obtain rfl := hw
  refine lv_if_ne (tgt := 11) hx hb dX9_strike_5 (by decide) (fun _ => ?_) (fun hno => absurd hno (by decide))
  refine lv_aload_n hx hb dX9_strike_11 rfl (lv_at hl 0 rfl) ?_
  refine lv_iload_n hx hb dX9_strike_12 rfl (lv_at hl 1 rfl) ?_
  refine o_crs (k := 0) (n := 0) hK hP hD hS hA (o_rV (As := [.int (nI j)]) (rest := []) hf (d_elAt _ _ _ _ _ _ _ _ dk tp rd els reo nob pr bk gl sl mo 1 v11 cap xs Es j h_dk h_els h_es hxl (by omega) _) k_740 k_737 k_739 k_23 k_84 (nA := 1) (by decide +kernel) ⟨Nat.le_of_ble_eq_true rfl, Nat.le_of_ble_eq_true rfl⟩ hK hP hD hS hA hZ hN h_dk rfl rfl rfl hl.1 rfl (Nat.le_of_ble_eq_true rfl) dX9_strike_13 ⟨(show 0 + 0 ≤ B / 5 by omega), (show 0 + 0 ≤ 4 * B by omega)⟩) (Nat.le_refl _) (Nat.le_refl _) (fun r H locs hw hP hD hS => ?_)
  obtain rfl := hw
  obtain ⟨⟨txg1, rfg1, rtg1, h_eg1⟩, hr_g1⟩ := h_es.o2 (show j < xs.length by omega)
  refine lv_astore_n (lv' := [(2, .ref (xs.getD j 0)), (0, .ref dk), (1, .int (nI j))]) hx hb dX9_strike_16 rfl hl (by decide) rfl (fun ls hl => ?_)
  refine lv_aload_n hx hb dX9_strike_17 rfl (lv_at hl 1 rfl) ?_
  refine o_get (D := D) (ci := 10) (v := .int 1) (C := RX9) (T := TX9) (N := 12) hx hb hts inX9 hown hK hP h_dk rfl 10 (by decide) (hts _ k_439) (fun _ h9 => h9) rfl dX9_strike_18 ?_
  refine lv_if_eq (tgt := 31) hx hb dX9_strike_21 (by decide) (fun hno => absurd hno (by decide)) (fun _ => ?_)
  refine lv_aload_n hx hb dX9_strike_24 rfl (lv_at hl 0 rfl) ?_
  refine o_get (D := D) (ci := 2) (v := .int ((Es.getD j dE).2.2.1)) (C := RX1) (T := TX1) (N := 9) hx hb hts inX1 hown hK hP h_eg1 rfl 2 (by decide) (hts _ k_235) (fun _ h9 => h9) rfl dX9_strike_25 ?_
  refine lv_if_eq (tgt := 34) hx hb dX9_strike_28 (by decide) (fun c_2 => ?_) (fun c_2 => ?_)
  · obtain ⟨tx9, rf9, rt9, N9, M9, tf9, f19, f29, h_el9, hX1, hX2, hX3, hX4, hX5, hX6, hX7⟩ := h_es.2.2 j hj
    have h_es0 := h_es
    refine lv_aload_n hx hb dX9_strike_34 rfl (lv_at hl 0 rfl) ?_
    refine lv_iconst (v := 1) hx hb dX9_strike_35 (by decide) ?_
    refine o_put (D := D) (ci := 2) (v := .int 1) (ty := .boolean) (C := RX1) (T := TX1) (N := 9) (fs1 := [.int ((Es.getD j dE).1), .int ((Es.getD j dE).2.1), .int 1, .ref tx9, .int (nI ((Es.getD j dE).2.2.2.2.length)), .int (nI ((Es.getD j dE).2.2.2.1)), .ref rf9, .ref rt9, .int (nI ((tx_rows (Es.getD j dE).1 (Es.getD j dE).2.2.2.2).length))]) hx hb hts inX1 tyX1 tyX1_ok nmX1 hown hK hP hD hS h_el9 rfl 2 (by decide) (hts _ k_235) (fun _ h9 => h9) rfl (by decide +kernel) rfl rfl (Nat.le_of_ble_eq_true rfl) rfl dX9_strike_36 (fun g H locs h_el9 hu hP hD hS => ?_)
    have h_dk := h_dk.up hu (by decide)
    have h_pr := h_pr.up hu (by decide)
    have hfr := hfr.up hu (by decide)
    have h_pcs := h_pcs.frd hu.fr (by decide)
    have h_spr := h_spr.frd hu.fr (by decide)
    have h_pc := h_pc.frd hu.fr (by decide)
    have h_sp := h_sp.frd hu.fr (by decide)
    have h_els := h_els.frd hu.fr (by decide)
    have h_ne : elR cB cI_ _ _ (xs.getD j 0) (Es.getD j dE).1 (Es.getD j dE).2.1 1 (Es.getD j dE).2.2.2.1 (Es.getD j dE).2.2.2.2 := ⟨tx9, rf9, rt9, N9, M9, tf9, f19, f29, h_el9, hX1.up hu (by decide), hX2.up hu (by decide), hX3.up hu (by decide), hX4, hX5, hX6, hX7⟩
    have h_es := h_es0.set (E := ((Es.getD j dE).1, (Es.getD j dE).2.1, 1, (Es.getD j dE).2.2.2.1, (Es.getD j dE).2.2.2.2)) hj hu h_ne
    refine lv_aload_n hx hb dX9_strike_39 rfl (lv_at hl 1 rfl) ?_
    refine o_get (D := D) (ci := 10) (v := .ref pr) (C := RX9) (T := TX9) (N := 12) hx hb hts inX9 hown hK hP h_dk rfl 5 (by decide) (hts _ k_434) (fun _ h9 => h9) rfl dX9_strike_40 ?_
    refine lv_aload_n hx hb dX9_strike_43 rfl (lv_at hl 0 rfl) ?_
    refine o_cv (k := 0 + (B / 5)) (n := 0 + (4 * B)) hK hP hD hS hA (o_rV (As := [.ref (xs.getD j 0)]) (rest := []) hf (p_remove _ _ _ _ _ _ _ _ pr pcs spr nwh cp cs pa sa (fun e => xs.getD e 0) P (xs.getD j 0) B h_pr h_pcs h_spr h_pc h_sp hpa (by omega) hB2 hcs (by omega) hnd0 _) k_931 k_928 k_929 k_930 k_92 (nA := 1) (by decide +kernel) ⟨Nat.le_of_ble_eq_true rfl, Nat.le_of_ble_eq_true rfl⟩ hK hP hD hS hA hZ hN h_pr rfl rfl rfl hl.1 rfl (Nat.le_of_ble_eq_true rfl) dX9_strike_44 ⟨(show 0 + (B / 5) ≤ B / 5 by omega), (show 0 + (4 * B) ≤ 4 * B by omega)⟩) (by omega) (by omega) (fun L g H locs hw hP hD hS => ?_)
    obtain ⟨p2, P2, s2, c2, a1, a2, a3, a4, hf9, h_pcs, h_spr, h_pc9, h_sp9⟩ := hw
    have h_dk := h_dk.fr hf9 (by decide)
    have h_pr := h_pr.fr hf9 (by decide)
    have h_el9 := h_el9.fr hf9 (by decide)
    have hfr := hfr.tm hf9 (by decide)
    have h_pc := h_pc.frd hf9 (by decide)
    have h_sp := h_sp.frd hf9 (by decide)
    have h_els := h_els.frd hf9 (by decide)
    have h_es := h_es.frd hf9 (by decide)
    have h_pc := h_pc9
    have h_sp := h_sp9
    refine lv_iconst (v := 1) hx hb dX9_strike_47 (by decide) ?_
    exact o_ri hf hr rfl hlocks hK hP hD hS (show 0 + (B / 5) ≤ B / 5 by omega) (show 0 + (4 * B) ≤ 4 * B by omega) ⟨rfl, p2, s2, P2, c2, a1, a2, a3, a4, hfr, h_pcs, h_spr, h_pc, h_sp, h_es⟩ dX9_strike_48
  · exact absurd hst c_2
