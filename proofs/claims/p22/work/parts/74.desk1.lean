theorem ix_in {x : Int32} {n : Nat} (hn : n < 2 ^ 29) (h1 : ¬ x < 0) (h2 : ¬ nI n < x) : ∃ j : Nat, j ≤ n ∧ x = nI j := by
  obtain ⟨j, h3, h4⟩ := ie_1 (x := x) (en := n + 1) (by omega) h1 (by rw [nI_pred n]; exact h2)
  exact ⟨j, by omega, h4⟩
theorem ix_lt {x : Int32} {n : Nat} (hn : n < 2 ^ 29) (h1 : ¬ x < 0) (h2 : x < nI n) : ∃ j : Nat, j < n ∧ x = nI j := by
  have h3 : ¬ nI n < x := fun h => by
    rw [Int32.lt_iff_toInt_lt] at h h2
    omega
  obtain ⟨j, h4, h5⟩ := ix_in hn h1 h3
  by_cases e : j = n
  · rw [h5, e] at h2
    rw [Int32.lt_iff_toInt_lt] at h2
    omega
  · exact ⟨j, by omega, h5⟩
abbrev cX9_cut : ByteArray := prog_1_method_3_code
def yX9_cut : MethodName := ⟨RX9, "cut", "(I)I"⟩
abbrev cX9_length : ByteArray := prog_1_method_5_code
def yX9_length : MethodName := ⟨RX9, "length", "(I)I"⟩
theorem k_429 : (Cond.fieldLink RX9 10 "ScriptDesk" "tape" "LScriptDesk$Tape;") ∈ gT := gT_i 429 (by decide +kernel) rfl
theorem k_435 : (Cond.fieldLink RX9 63 "ScriptDesk" "breaking" "LScriptDesk$Breaking;") ∈ gT := gT_i 435 (by decide +kernel) rfl
theorem k_438 : (Cond.fieldLink RX9 81 "ScriptDesk" "pageLength" "I") ∈ gT := gT_i 438 (by decide +kernel) rfl
theorem k_439 : (Cond.fieldLink RX9 116 "ScriptDesk" "locked" "Z") ∈ gT := gT_i 439 (by decide +kernel) rfl
theorem k_478 : (Cond.methodLink RX9 93 yX8_used) ∈ gT := gT_i 478 (by decide +kernel) rfl
theorem k_486 : (Cond.methodLink RX9 97 yX8_keep) ∈ gT := gT_i 486 (by decide +kernel) rfl
theorem k_487 : (Cond.instanceMethod yX8_keep) ∈ gT := gT_i 487 (by decide +kernel) rfl
theorem k_488 : (Cond.selects RX8 yX8_keep yX8_keep) ∈ gT := gT_i 488 (by decide +kernel) rfl
theorem k_489 : (Cond.code yX8_keep cX8_keep 2 none) ∈ gT := gT_i 489 (by decide +kernel) rfl
theorem k_721 : (Cond.methodLink RX9 120 yX0_forget) ∈ gT := gT_i 721 (by decide +kernel) rfl
theorem k_722 : (Cond.instanceMethod yX0_forget) ∈ gT := gT_i 722 (by decide +kernel) rfl
theorem k_723 : (Cond.selects RX0 yX0_forget yX0_forget) ∈ gT := gT_i 723 (by decide +kernel) rfl
theorem k_724 : (Cond.code yX0_forget cX0_forget 1 none) ∈ gT := gT_i 724 (by decide +kernel) rfl
theorem dX9_length_0 : decode cX9_length 0 = .ok (.iload_n 1, 1) := by decide +kernel
theorem dX9_length_1 : decode cX9_length 1 = .ok (.bipush 10, 2) := by decide +kernel
theorem dX9_length_3 : decode cX9_length 3 = .ok (.if_icmp .lt 9, 3) := by decide +kernel
theorem dX9_length_12 : decode cX9_length 12 = .ok (.bipush (-2), 2) := by decide +kernel
theorem dX9_length_14 : decode cX9_length 14 = .ok (.ireturn, 1) := by decide +kernel
theorem dX9_length_6 : decode cX9_length 6 = .ok (.iload_n 1, 1) := by decide +kernel
theorem dX9_length_7 : decode cX9_length 7 = .ok (.bipush 40, 2) := by decide +kernel
theorem dX9_length_9 : decode cX9_length 9 = .ok (.if_icmp .le 6, 3) := by decide +kernel
theorem dX9_length_15 : decode cX9_length 15 = .ok (.aload_n 0, 1) := by decide +kernel
theorem dX9_length_16 : decode cX9_length 16 = .ok (.getfield 116, 3) := by decide +kernel
theorem dX9_length_19 : decode cX9_length 19 = .ok (.ifCond .eq 6, 3) := by decide +kernel
theorem dX9_length_25 : decode cX9_length 25 = .ok (.aload_n 0, 1) := by decide +kernel
theorem dX9_length_26 : decode cX9_length 26 = .ok (.getfield 81, 3) := by decide +kernel
theorem dX9_length_29 : decode cX9_length 29 = .ok (.istore_n 2, 1) := by decide +kernel
theorem dX9_length_30 : decode cX9_length 30 = .ok (.aload_n 0, 1) := by decide +kernel
theorem dX9_length_31 : decode cX9_length 31 = .ok (.iload_n 1, 1) := by decide +kernel
theorem dX9_length_32 : decode cX9_length 32 = .ok (.putfield 81, 3) := by decide +kernel
theorem dX9_length_35 : decode cX9_length 35 = .ok (.aload_n 0, 1) := by decide +kernel
theorem dX9_length_36 : decode cX9_length 36 = .ok (.getfield 63, 3) := by decide +kernel
theorem dX9_length_39 : decode cX9_length 39 = .ok (.invokevirtual 120, 3) := by decide +kernel
theorem dX9_length_42 : decode cX9_length 42 = .ok (.iload_n 2, 1) := by decide +kernel
theorem dX9_length_43 : decode cX9_length 43 = .ok (.ireturn, 1) := by decide +kernel
theorem dX9_length_22 : decode cX9_length 22 = .ok (.bipush (-3), 2) := by decide +kernel
theorem dX9_length_24 : decode cX9_length 24 = .ok (.ireturn, 1) := by decide +kernel
theorem dX9_cut_0 : decode cX9_cut 0 = .ok (.aload_n 0, 1) := by decide +kernel
theorem dX9_cut_1 : decode cX9_cut 1 = .ok (.getfield 10, 3) := by decide +kernel
theorem dX9_cut_4 : decode cX9_cut 4 = .ok (.invokevirtual 93, 3) := by decide +kernel
theorem dX9_cut_7 : decode cX9_cut 7 = .ok (.istore_n 2, 1) := by decide +kernel
theorem dX9_cut_8 : decode cX9_cut 8 = .ok (.iload_n 1, 1) := by decide +kernel
theorem dX9_cut_9 : decode cX9_cut 9 = .ok (.ifCond .lt 8, 3) := by decide +kernel
theorem dX9_cut_17 : decode cX9_cut 17 = .ok (.bipush (-2), 2) := by decide +kernel
theorem dX9_cut_19 : decode cX9_cut 19 = .ok (.ireturn, 1) := by decide +kernel
theorem dX9_cut_12 : decode cX9_cut 12 = .ok (.iload_n 1, 1) := by decide +kernel
theorem dX9_cut_13 : decode cX9_cut 13 = .ok (.iload_n 2, 1) := by decide +kernel
theorem dX9_cut_14 : decode cX9_cut 14 = .ok (.if_icmp .le 6, 3) := by decide +kernel
theorem dX9_cut_20 : decode cX9_cut 20 = .ok (.aload_n 0, 1) := by decide +kernel
theorem dX9_cut_21 : decode cX9_cut 21 = .ok (.getfield 10, 3) := by decide +kernel
theorem dX9_cut_24 : decode cX9_cut 24 = .ok (.iload_n 1, 1) := by decide +kernel
theorem dX9_cut_25 : decode cX9_cut 25 = .ok (.invokevirtual 97, 3) := by decide +kernel
theorem dX9_cut_28 : decode cX9_cut 28 = .ok (.iload_n 2, 1) := by decide +kernel
theorem dX9_cut_29 : decode cX9_cut 29 = .ok (.iload_n 1, 1) := by decide +kernel
theorem dX9_cut_30 : decode cX9_cut 30 = .ok (.isub, 1) := by decide +kernel
theorem dX9_cut_31 : decode cX9_cut 31 = .ok (.ireturn, 1) := by decide +kernel
set_option maxHeartbeats 1000000 in
set_option maxRecDepth 100000 in
theorem d_length (l : Launch) (D : va_G) (z : Nat → Nat) (cB cI_ cO : ClassId) (L0 : List Nat) (g0 : hG) (dk tp rd els reo nob pr bk gl sl mo lk gs : Nat) (lf bop cf nx bn bs : Nat) (y7 y8 y9 y10 x1 : Int32) (h_dk : ho L0 g0 dk 1 (.inr (10, [.ref tp, .ref rd, .ref els, .ref reo, .ref nob, .ref pr, .ref bk, .ref gl, .ref sl, .int (nI mo), .int (nI lk), .int (nI gs)]))) (h_bk : ho L0 g0 bk 21 (.inr (1, [.ref pr, .ref lf, .ref bop, .int (nI bn), .int (nI bs), .ref cf, .ref nx, .int y7, .int y8, .int y9, .int y10]))) (hlk : lk ≤ 1) : eI l D yX9_length cX9_length 3 (some .int) 1 20 0 0 [.ref dk, .int x1] z cB cI_ cO L0 g0 (fun r L g => ((x1 < 10 ∧ r = (-2) ∧ (L = L0 ∧ g = g0)) ∨ (¬ x1 < 10 ∧ 40 < x1 ∧ r = (-2) ∧ (L = L0 ∧ g = g0)) ∨ (¬ x1 < 10 ∧ ¬ 40 < x1 ∧ 0 < lk ∧ r = (-3) ∧ (L = L0 ∧ g = g0)) ∨ (¬ x1 < 10 ∧ ¬ 40 < x1 ∧ lk = 0 ∧ r = nI mo ∧ fr [1, 21] L0 g0 L g ∧ ho L g dk 1 (.inr (10, [.ref tp, .ref rd, .ref els, .ref reo, .ref nob, .ref pr, .ref bk, .ref gl, .ref sl, .int x1, .int (nI lk), .int (nI gs)])) ∧ ho L g bk 21 (.inr (1, [.ref pr, .ref lf, .ref bop, .int (nI bn), .int (nI bs), .ref cf, .ref nx, .int 0, .int y8, .int y9, .int y10]))))) := by
  refine o_si (by decide) (Nat.le_of_ble_eq_true rfl) ?_
  intro p e s m below meth c A ls hf hr hlocks hin hK hP hD hS hA hZ hN hl
  obtain ⟨hx, hb, hml, hown, hts⟩ := id hf
  have hl : lv_has ls 3 [(0, .ref dk), (1, .int x1)] := hl
  have hfr : fr [1, 21] L0 g0 L0 g0 := fr.rf
  refine lv_iload_n hx hb dX9_length_0 rfl (lv_at hl 1 rfl) ?_
  refine lv_bipush (v := 10) hx hb dX9_length_1 (by decide) ?_
  refine lv_icmp_lt (tgt := 12) hx hb dX9_length_3 (by decide) (fun c_1 => ?_) (fun c_1 => ?_)
  · refine lv_bipush (v := (-2)) hx hb dX9_length_12 (by decide) ?_
    exact o_ri hf hr rfl hlocks hK hP hD hS (show 0 ≤ 0 by omega) (show 0 ≤ 0 by omega) (Or.inl ⟨c_1, rfl, rfl, rfl⟩) dX9_length_14
  · refine lv_iload_n hx hb dX9_length_6 rfl (lv_at hl 1 rfl) ?_
    refine lv_bipush (v := 40) hx hb dX9_length_7 (by decide) ?_
    refine lv_icmp_le (tgt := 15) hx hb dX9_length_9 (by decide) (fun c_2 => ?_) (fun c_2 => ?_)
    · refine lv_aload_n hx hb dX9_length_15 rfl (lv_at hl 0 rfl) ?_
      refine o_get (D := D) (ci := 10) (v := .int (nI lk)) (C := RX9) (T := TX9) (N := 12) hx hb hts inX9 hown hK hP h_dk rfl 10 (by decide) (hts _ k_439) (fun _ h9 => h9) rfl dX9_length_16 ?_
      refine lv_if_eq (tgt := 25) hx hb dX9_length_19 (by decide) (fun c_3 => ?_) (fun c_3 => ?_)
      · have c_3 := q_eqn (a := lk) (b := 0) (by omega) (by omega) c_3
        refine lv_aload_n hx hb dX9_length_25 rfl (lv_at hl 0 rfl) ?_
        refine o_get (D := D) (ci := 10) (v := .int (nI mo)) (C := RX9) (T := TX9) (N := 12) hx hb hts inX9 hown hK hP h_dk rfl 9 (by decide) (hts _ k_438) (fun _ h9 => h9) rfl dX9_length_26 ?_
        refine lv_istore_n (lv' := [(2, .int (nI mo)), (0, .ref dk), (1, .int x1)]) hx hb dX9_length_29 rfl hl (by decide) rfl (fun ls hl => ?_)
        refine lv_aload_n hx hb dX9_length_30 rfl (lv_at hl 1 rfl) ?_
        refine lv_iload_n hx hb dX9_length_31 rfl (lv_at hl 2 rfl) ?_
        refine o_put (D := D) (ci := 10) (v := .int x1) (ty := .int) (C := RX9) (T := TX9) (N := 12) (fs1 := [.ref tp, .ref rd, .ref els, .ref reo, .ref nob, .ref pr, .ref bk, .ref gl, .ref sl, .int x1, .int (nI lk), .int (nI gs)]) hx hb hts inX9 tyX9 tyX9_ok nmX9 hown hK hP hD hS h_dk rfl 9 (by decide) (hts _ k_438) (fun _ h9 => h9) rfl (by decide +kernel) rfl rfl (Nat.le_of_ble_eq_true rfl) rfl dX9_length_32 (fun g H locs h_dk hu hP hD hS => ?_)
        have h_bk := h_bk.up hu (by decide)
        have hfr := hfr.up hu (by decide)
        refine lv_aload_n hx hb dX9_length_35 rfl (lv_at hl 1 rfl) ?_
        refine o_get (D := D) (ci := 10) (v := .ref bk) (C := RX9) (T := TX9) (N := 12) hx hb hts inX9 hown hK hP h_dk rfl 6 (by decide) (hts _ k_435) (fun _ h9 => h9) rfl dX9_length_36 ?_
        refine o_cv (k := 0) (n := 0) hK hP hD hS hA (o_rV (As := []) (rest := []) hf (bk_forget _ _ _ _ _ _ _ _ pr bk lf bop cf nx bn bs y7 y8 y9 y10 h_bk _) k_724 k_721 k_722 k_723 k_95 (nA := 0) (by decide +kernel) ⟨Nat.le_of_ble_eq_true rfl, Nat.le_of_ble_eq_true rfl⟩ hK hP hD hS hA hZ hN h_bk rfl rfl rfl hl.1 rfl (Nat.le_of_ble_eq_true rfl) dX9_length_39 ⟨(show 0 + 0 ≤ 0 by omega), (show 0 + 0 ≤ 0 by omega)⟩) (Nat.le_refl _) (Nat.le_refl _) (fun L g H locs hw hP hD hS => ?_)
        obtain ⟨hf9, h_bk⟩ := hw
        have h_dk := h_dk.fr hf9 (by decide)
        have hfr := hfr.tm hf9 (by decide)
        refine lv_iload_n hx hb dX9_length_42 rfl (lv_at hl 0 rfl) ?_
        exact o_ri hf hr rfl hlocks hK hP hD hS (show 0 ≤ 0 by omega) (show 0 ≤ 0 by omega) (Or.inr (Or.inr (Or.inr ⟨c_1, (q_nlt_le c_2), by omega, rfl, hfr, h_dk, h_bk⟩))) dX9_length_43
      · have c_3 := q_nen (a := lk) (b := 0) (by omega) (by omega) c_3
        refine lv_bipush (v := (-3)) hx hb dX9_length_22 (by decide) ?_
        exact o_ri hf hr rfl hlocks hK hP hD hS (show 0 ≤ 0 by omega) (show 0 ≤ 0 by omega) (Or.inr (Or.inr (Or.inl ⟨c_1, (q_nlt_le c_2), by omega, rfl, rfl, rfl⟩))) dX9_length_24
    · refine lv_bipush (v := (-2)) hx hb dX9_length_12 (by decide) ?_
      exact o_ri hf hr rfl hlocks hK hP hD hS (show 0 ≤ 0 by omega) (show 0 ≤ 0 by omega) (Or.inr (Or.inl ⟨c_1, (q_lt_nle c_2), rfl, rfl, rfl⟩)) dX9_length_14
set_option maxHeartbeats 1000000 in
set_option maxRecDepth 100000 in
theorem d_cut (l : Launch) (D : va_G) (z : Nat → Nat) (cB cI_ cO : ClassId) (L0 : List Nat) (g0 : hG) (dk tp rd els reo nob pr bk gl sl mo lk gs : Nat) (by_ n : Nat) (T : Nat → Int32) (x1 : Int32) (h_dk : ho L0 g0 dk 1 (.inr (10, [.ref tp, .ref rd, .ref els, .ref reo, .ref nob, .ref pr, .ref bk, .ref gl, .ref sl, .int (nI mo), .int (nI lk), .int (nI gs)]))) (h_tp : ho L0 g0 tp 2 (.inr (9, [.ref by_, .int (nI n)]))) (h_by : ho L0 g0 by_ 3 (.inl (cB, 1200, .inl T))) (hn : n ≤ 1200) : eI l D yX9_cut cX9_cut 3 (some .int) 1 21 0 0 [.ref dk, .int x1] z cB cI_ cO L0 g0 (fun r L g => ((x1 < 0 ∧ r = (-2) ∧ (L = L0 ∧ g = g0)) ∨ (¬ x1 < 0 ∧ nI n < x1 ∧ r = (-2) ∧ (L = L0 ∧ g = g0)) ∨ (¬ x1 < 0 ∧ ¬ nI n < x1 ∧ r = nI n - x1 ∧ fr [2] L0 g0 L g ∧ ∃ m_ : Nat, m_ ≤ n ∧ x1 = nI m_ ∧ ho L g tp 2 (.inr (9, [.ref by_, .int (nI m_)]))))) := by
  refine o_si (by decide) (Nat.le_of_ble_eq_true rfl) ?_
  intro p e s m below meth c A ls hf hr hlocks hin hK hP hD hS hA hZ hN hl
  obtain ⟨hx, hb, hml, hown, hts⟩ := id hf
  have hl : lv_has ls 3 [(0, .ref dk), (1, .int x1)] := hl
  have hfr : fr [2] L0 g0 L0 g0 := fr.rf
  refine lv_aload_n hx hb dX9_cut_0 rfl (lv_at hl 0 rfl) ?_
  refine o_get (D := D) (ci := 10) (v := .ref tp) (C := RX9) (T := TX9) (N := 12) hx hb hts inX9 hown hK hP h_dk rfl 0 (by decide) (hts _ k_429) (fun _ h9 => h9) rfl dX9_cut_1 ?_
  refine o_cis (k := 0) (n := 0) hK hP hD hS hA (o_rV (As := []) (rest := []) hf (t_used _ _ _ _ _ _ _ _ tp by_ n T h_tp _) k_481 k_478 k_479 k_480 k_85 (nA := 0) (by decide +kernel) ⟨Nat.le_of_ble_eq_true rfl, Nat.le_of_ble_eq_true rfl⟩ hK hP hD hS hA hZ hN h_tp rfl rfl rfl hl.1 rfl (Nat.le_of_ble_eq_true rfl) dX9_cut_4 ⟨(show 0 + 0 ≤ 0 by omega), (show 0 + 0 ≤ 0 by omega)⟩) (Nat.le_refl _) (Nat.le_refl _) (fun r H locs hw hP hD hS => ?_)
  obtain rfl := hw
  refine lv_istore_n (lv' := [(2, .int (nI n)), (0, .ref dk), (1, .int x1)]) hx hb dX9_cut_7 rfl hl (by decide) rfl (fun ls hl => ?_)
  refine lv_iload_n hx hb dX9_cut_8 rfl (lv_at hl 2 rfl) ?_
  refine lv_if_lt (tgt := 17) hx hb dX9_cut_9 (by decide) (fun c_1 => ?_) (fun c_1 => ?_)
  · refine lv_bipush (v := (-2)) hx hb dX9_cut_17 (by decide) ?_
    exact o_ri hf hr rfl hlocks hK hP hD hS (show 0 ≤ 0 by omega) (show 0 ≤ 0 by omega) (Or.inl ⟨c_1, rfl, rfl, rfl⟩) dX9_cut_19
  · refine lv_iload_n hx hb dX9_cut_12 rfl (lv_at hl 2 rfl) ?_
    refine lv_iload_n hx hb dX9_cut_13 rfl (lv_at hl 0 rfl) ?_
    refine lv_icmp_le (tgt := 20) hx hb dX9_cut_14 (by decide) (fun c_2 => ?_) (fun c_2 => ?_)
    · obtain ⟨m_, hm_, rfl⟩ := ix_in (show n < 2 ^ 29 by omega) c_1 (q_nlt_le c_2)
      have hl : lv_has ls 3 [(2, .int (nI n)), (0, .ref dk), (1, .int (nI m_))] := hl
      refine lv_aload_n hx hb dX9_cut_20 rfl (lv_at hl 1 rfl) ?_
      refine o_get (D := D) (ci := 10) (v := .ref tp) (C := RX9) (T := TX9) (N := 12) hx hb hts inX9 hown hK hP h_dk rfl 0 (by decide) (hts _ k_429) (fun _ h9 => h9) rfl dX9_cut_21 ?_
      refine lv_iload_n hx hb dX9_cut_24 rfl (lv_at hl 2 rfl) ?_
      refine o_cv (k := 0) (n := 0) hK hP hD hS hA (o_rV (As := [.int (nI m_)]) (rest := []) hf (t_keep _ _ _ _ _ _ _ _ tp by_ n T m_ h_tp hn (by omega) _) k_489 k_486 k_487 k_488 k_85 (nA := 1) (by decide +kernel) ⟨Nat.le_of_ble_eq_true rfl, Nat.le_of_ble_eq_true rfl⟩ hK hP hD hS hA hZ hN h_tp rfl rfl rfl hl.1 rfl (Nat.le_of_ble_eq_true rfl) dX9_cut_25 ⟨(show 0 + 0 ≤ 0 by omega), (show 0 + 0 ≤ 0 by omega)⟩) (Nat.le_refl _) (Nat.le_refl _) (fun L g H locs hw hP hD hS => ?_)
      obtain ⟨n1, en1, hf9, h_tp⟩ := hw
      have h_dk := h_dk.fr hf9 (by decide)
      have h_by := h_by.fr hf9 (by decide)
      have hfr := hfr.tr hf9
      refine lv_iload_n hx hb dX9_cut_28 rfl (lv_at hl 0 rfl) ?_
      refine lv_iload_n hx hb dX9_cut_29 rfl (lv_at hl 2 rfl) ?_
      refine lv_isub hx hb dX9_cut_30 ?_
      refine q_seti (y := nI (n - m_)) (nI_subE (a := n) (b := m_) (by omega) (by omega)) ?_
      have en2 : n1 = m_ := by rw [en1]; by_cases h9 : m_ < n; (· rw [if_pos h9]); rw [if_neg h9]; omega
      rw [en2] at h_tp
      exact o_ri hf hr rfl hlocks hK hP hD hS (show 0 ≤ 0 by omega) (show 0 ≤ 0 by omega) (Or.inr (Or.inr ⟨c_1, (q_nlt_le c_2), (pk_sub hm_).symm, hfr, m_, hm_, rfl, h_tp⟩)) dX9_cut_31
    · refine lv_bipush (v := (-2)) hx hb dX9_cut_17 (by decide) ?_
      exact o_ri hf hr rfl hlocks hK hP hD hS (show 0 ≤ 0 by omega) (show 0 ≤ 0 by omega) (Or.inr (Or.inl ⟨c_1, (q_lt_nle c_2), rfl, rfl, rfl⟩)) dX9_cut_19
