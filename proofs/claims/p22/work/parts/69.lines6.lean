theorem lf_yx {T : Nat → Int32} {e i y x : Nat} (hi : i ≤ e) (ey : y = tx_sk T (e - i) i) (ex : x = tx_bk T (e - y) e) : i ≤ y ∧ y ≤ x ∧ x ≤ e := by
  have h1 := tx_sk_le T (e - i) i
  rw [← ey] at h1
  have h2 := tx_bk_le T (e - y) e (by omega)
  rw [← ex] at h2
  omega
abbrev cX4_countElements : ByteArray := prog_6_method_2_code
def yX4_countElements : MethodName := ⟨RX4, "countElements", "()I"⟩
theorem k_6 : (Cond.selects RX4 yX4_rewind yX4_rewind) ∈ gT := gT_i 6 (by decide +kernel) rfl
theorem k_7 : (Cond.selects RX4 yX4_step yX4_step) ∈ gT := gT_i 7 (by decide +kernel) rfl
theorem k_14 : (Cond.selects RX4 yX4_joinsLineAhead yX4_joinsLineAhead) ∈ gT := gT_i 14 (by decide +kernel) rfl
theorem k_498 : (Cond.methodLink RX4 15 yX4_rewind) ∈ gT := gT_i 498 (by decide +kernel) rfl
theorem k_500 : (Cond.instanceMethod yX4_rewind) ∈ gT := gT_i 500 (by decide +kernel) rfl
theorem k_501 : (Cond.code yX4_rewind cX4_rewind 1 none) ∈ gT := gT_i 501 (by decide +kernel) rfl
theorem k_503 : (Cond.methodLink RX4 28 yX4_step) ∈ gT := gT_i 503 (by decide +kernel) rfl
theorem k_505 : (Cond.instanceMethod yX4_step) ∈ gT := gT_i 505 (by decide +kernel) rfl
theorem k_506 : (Cond.code yX4_step cX4_step 2 none) ∈ gT := gT_i 506 (by decide +kernel) rfl
theorem k_586 : (Cond.methodLink RX4 34 yX4_joinsLineAhead) ∈ gT := gT_i 586 (by decide +kernel) rfl
theorem k_588 : (Cond.instanceMethod yX4_joinsLineAhead) ∈ gT := gT_i 588 (by decide +kernel) rfl
theorem k_589 : (Cond.code yX4_joinsLineAhead cX4_joinsLineAhead 1 (some .boolean)) ∈ gT := gT_i 589 (by decide +kernel) rfl
theorem dX4_countElements_8 : decode cX4_countElements 8 = .ok (.iload_n 2, 1) := by decide +kernel
theorem dX4_countElements_9 : decode cX4_countElements 9 = .ok (.sipush 1200, 3) := by decide +kernel
theorem dX4_countElements_12 : decode cX4_countElements 12 = .ok (.if_icmp .ge 45, 3) := by decide +kernel
theorem dX4_countElements_15 : decode cX4_countElements 15 = .ok (.aload_n 0, 1) := by decide +kernel
theorem dX4_countElements_16 : decode cX4_countElements 16 = .ok (.getfield 20, 3) := by decide +kernel
theorem dX4_countElements_19 : decode cX4_countElements 19 = .ok (.aload_n 0, 1) := by decide +kernel
theorem dX4_countElements_20 : decode cX4_countElements 20 = .ok (.getfield 9, 3) := by decide +kernel
theorem dX4_countElements_23 : decode cX4_countElements 23 = .ok (.invokevirtual 24, 3) := by decide +kernel
theorem dX4_countElements_26 : decode cX4_countElements 26 = .ok (.if_icmp .ge 31, 3) := by decide +kernel
theorem dX4_countElements_29 : decode cX4_countElements 29 = .ok (.aload_n 0, 1) := by decide +kernel
theorem dX4_countElements_30 : decode cX4_countElements 30 = .ok (.invokevirtual 28, 3) := by decide +kernel
theorem dX4_countElements_33 : decode cX4_countElements 33 = .ok (.aload_n 0, 1) := by decide +kernel
theorem dX4_countElements_34 : decode cX4_countElements 34 = .ok (.getfield 31, 3) := by decide +kernel
theorem dX4_countElements_37 : decode cX4_countElements 37 = .ok (.iconst (-1), 1) := by decide +kernel
theorem dX4_countElements_38 : decode cX4_countElements 38 = .ok (.if_icmp .eq 13, 3) := by decide +kernel
theorem dX4_countElements_51 : decode cX4_countElements 51 = .ok (.iinc 2 1, 3) := by decide +kernel
theorem dX4_countElements_54 : decode cX4_countElements 54 = .ok (.goto (-46), 3) := by decide +kernel
theorem dX4_countElements_41 : decode cX4_countElements 41 = .ok (.aload_n 0, 1) := by decide +kernel
theorem dX4_countElements_42 : decode cX4_countElements 42 = .ok (.invokevirtual 34, 3) := by decide +kernel
theorem dX4_countElements_45 : decode cX4_countElements 45 = .ok (.ifCond .ne 6, 3) := by decide +kernel
theorem dX4_countElements_48 : decode cX4_countElements 48 = .ok (.iinc 1 1, 3) := by decide +kernel
theorem dX4_countElements_0 : decode cX4_countElements 0 = .ok (.iconst 0, 1) := by decide +kernel
theorem dX4_countElements_1 : decode cX4_countElements 1 = .ok (.istore_n 1, 1) := by decide +kernel
theorem dX4_countElements_2 : decode cX4_countElements 2 = .ok (.aload_n 0, 1) := by decide +kernel
theorem dX4_countElements_3 : decode cX4_countElements 3 = .ok (.invokevirtual 15, 3) := by decide +kernel
theorem dX4_countElements_6 : decode cX4_countElements 6 = .ok (.iconst 0, 1) := by decide +kernel
theorem dX4_countElements_7 : decode cX4_countElements 7 = .ok (.istore_n 2, 1) := by decide +kernel
theorem dX4_countElements_57 : decode cX4_countElements 57 = .ok (.iload_n 1, 1) := by decide +kernel
theorem dX4_countElements_58 : decode cX4_countElements 58 = .ok (.ireturn, 1) := by decide +kernel
set_option maxHeartbeats 1000000 in
set_option maxRecDepth 100000 in
theorem ce_loop {p : Program} {l : Launch} {e : Env} {R : Room} {s : State} {m : MethodId} {args : Array Value} {below : List Frame} {meth : Method} {c : Code} {Q : State → Prop} {D : va_G} {A : Nat → Prop} {z : Nat → Nat} {cB cI_ cO : ClassId} {L0 : List Nat} {g0 : hG} {rd tp by_ n : Nat} {T : Nat → Int32} {L_ : List (Nat × Nat)} (hn : n ≤ 1200) (hLl : L_.length ≤ 1200) (hRf : 9 ≤ R.frames) (hRl : 190 ≤ R.locals) (hA : ∀ q : Nat, s.heap.size ≤ q → A q) (hf : CallFix p m c cX4_countElements 3 s args gT yX4_countElements.cls) (hK : va_K D vcl (dT cB cI_ cO) s) (hZ : zA z A s s.heap) (hN : zB z s) :
    ∀ (k : Nat) (j : Nat) (nx : Nat) (f : Nat) (fm : Nat) (to_ : Nat) (ka : Int32) (cells slots : Nat) (L : List Nat) (g : hG) (H : Heap) (locs : List Loc) (ls : Array Slot), L_.drop j = tx_ln T n f nx → n + 1 ≤ nx + f → n ≤ k + nx → j ≤ nx ∧ nx ≤ n + 1 ∧ j ≤ L_.length → cells ≤ R.cells → slots ≤ R.slots → ho L g rd 4 (.inr (5, [.ref tp, .int (nI nx), .int (nI fm), .int (nI to_), .int (ka_ T L_ j), .int ka])) → ho L g tp 2 (.inr (9, [.ref by_, .int (nI n)])) → ho L g by_ 3 (.inl (cB, 1200, .inl T)) → fr [4] L0 g0 L g → va_P D vcl (dW L g) H → va_D A (dW L g) → va_S A s.heap H locs → lv_has ls 3 [(2, .int (nI j)), (1, .int (nI ((tx_cnt T L_ j)))), (0, .ref rd)] →
    (∀ (x1 : Nat) (x2 : Nat) (x3 : Nat) (k1 : Int32) (k2 : Int32)  (L : List Nat) (g : hG) (H : Heap) (locs : List Loc) (ls : Array Slot), ho L g rd 4 (.inr (5, [.ref tp, .int (nI x1), .int (nI x2), .int (nI x3), .int k1, .int k2])) → ho L g tp 2 (.inr (9, [.ref by_, .int (nI n)])) → ho L g by_ 3 (.inl (cB, 1200, .inl T)) → fr [4] L0 g0 L g → va_P D vcl (dW L g) H → va_D A (dW L g) → va_S A s.heap H locs → lv_has ls 3 [(1, .int (nI ((tx_cnt T L_ L_.length)))), (0, .ref rd)] → W p l e R s m args below meth c H locs cells slots Q (F0 m 57 ls [])) →
    W p l e R s m args below meth c H locs cells slots Q (F0 m 8 ls []) := by
  obtain ⟨hx, hb, hml, hown, hts⟩ := id hf
  intro k
  induction k with
  | zero =>
    intro j nx f fm to_ ka cells slots L g H locs ls hdr hfu2 hfu hj hRc hRs h_rd h_tp h_by hfr hP hD hS hl kk
    refine lv_iload_n hx hb dX4_countElements_8 rfl (lv_at hl 0 rfl) ?_
    refine lv_sipush (v := 1200) hx hb dX4_countElements_9 (by decide) ?_
    refine lv_icmp_ge (tgt := 57) hx hb dX4_countElements_12 (by decide) (fun c_1 => ?_) (fun c_1 => ?_)
    · have c_1 := q_le (a := 1200) (b := j) (by omega) (by omega) c_1
      have hnl : L_.length = j := by have h9 := dr_nil (hdr.trans (tx_ln_out (by omega) _)); omega
      rw [← hnl] at hl
      exact kk _ _ _ _ _ _ _ H locs ls h_rd h_tp h_by hfr hP hD hS (lv_sub hl (l' := [(1, .int (nI ((tx_cnt T L_ L_.length)))), (0, .ref rd)]) [1, 2] rfl)
    · have c_1 := q_nle (a := 1200) (b := j) (by omega) (by omega) c_1
      refine lv_aload_n hx hb dX4_countElements_15 rfl (lv_at hl 2 rfl) ?_
      refine o_get (D := D) (ci := 5) (v := .int (nI nx)) (C := RX4) (T := TX4) (N := 6) hx hb hts inX4 hown hK hP h_rd rfl 1 (by decide) (hts _ k_136) (fun _ h9 => h9) rfl dX4_countElements_16 ?_
      refine lv_aload_n hx hb dX4_countElements_19 rfl (lv_at hl 2 rfl) ?_
      refine o_get (D := D) (ci := 5) (v := .ref tp) (C := RX4) (T := TX4) (N := 6) hx hb hts inX4 hown hK hP h_rd rfl 0 (by decide) (hts _ k_135) (fun _ h9 => h9) rfl dX4_countElements_20 ?_
      refine o_cis (k := cells) (n := slots) hK hP hD hS hA (o_rV (As := []) (rest := [.int (nI nx)]) hf (t_used _ _ _ _ _ _ _ _ tp by_ n T h_tp _) k_481 k_502 k_479 k_480 k_85 (nA := 0) (by decide +kernel) ⟨Nat.le_trans (by decide) hRf, Nat.le_trans (by decide) hRl⟩ hK hP hD hS hA hZ hN h_tp rfl rfl rfl hl.1 rfl (Nat.le_of_ble_eq_true rfl) dX4_countElements_23 ⟨(show cells + 0 ≤ R.cells by omega), (show slots + 0 ≤ R.slots by omega)⟩) (Nat.le_refl _) (Nat.le_refl _) (fun r H locs hw hP hD hS => ?_)
      obtain rfl := hw
      refine lv_icmp_ge (tgt := 57) hx hb dX4_countElements_26 (by decide) (fun c_2 => ?_) (fun c_2 => ?_)
      · have c_2 := q_le (a := n) (b := nx) (by omega) (by omega) c_2
        have hnl : L_.length = j := by have h9 := dr_nil (hdr.trans (tx_ln_out (by omega) _)); omega
        rw [← hnl] at hl
        exact kk _ _ _ _ _ _ _ H locs ls h_rd h_tp h_by hfr hP hD hS (lv_sub hl (l' := [(1, .int (nI ((tx_cnt T L_ L_.length)))), (0, .ref rd)]) [1, 2] rfl)
      · have c_2 := q_nle (a := n) (b := nx) (by omega) (by omega) c_2
        exact False.elim (by omega)
  | succ k ih =>
    intro j nx f fm to_ ka cells slots L g H locs ls hdr hfu2 hfu hj hRc hRs h_rd h_tp h_by hfr hP hD hS hl kk
    refine lv_iload_n hx hb dX4_countElements_8 rfl (lv_at hl 0 rfl) ?_
    refine lv_sipush (v := 1200) hx hb dX4_countElements_9 (by decide) ?_
    refine lv_icmp_ge (tgt := 57) hx hb dX4_countElements_12 (by decide) (fun c_1 => ?_) (fun c_1 => ?_)
    · have c_1 := q_le (a := 1200) (b := j) (by omega) (by omega) c_1
      have hnl : L_.length = j := by have h9 := dr_nil (hdr.trans (tx_ln_out (by omega) _)); omega
      rw [← hnl] at hl
      exact kk _ _ _ _ _ _ _ H locs ls h_rd h_tp h_by hfr hP hD hS (lv_sub hl (l' := [(1, .int (nI ((tx_cnt T L_ L_.length)))), (0, .ref rd)]) [1, 2] rfl)
    · have c_1 := q_nle (a := 1200) (b := j) (by omega) (by omega) c_1
      refine lv_aload_n hx hb dX4_countElements_15 rfl (lv_at hl 2 rfl) ?_
      refine o_get (D := D) (ci := 5) (v := .int (nI nx)) (C := RX4) (T := TX4) (N := 6) hx hb hts inX4 hown hK hP h_rd rfl 1 (by decide) (hts _ k_136) (fun _ h9 => h9) rfl dX4_countElements_16 ?_
      refine lv_aload_n hx hb dX4_countElements_19 rfl (lv_at hl 2 rfl) ?_
      refine o_get (D := D) (ci := 5) (v := .ref tp) (C := RX4) (T := TX4) (N := 6) hx hb hts inX4 hown hK hP h_rd rfl 0 (by decide) (hts _ k_135) (fun _ h9 => h9) rfl dX4_countElements_20 ?_
      refine o_cis (k := cells) (n := slots) hK hP hD hS hA (o_rV (As := []) (rest := [.int (nI nx)]) hf (t_used _ _ _ _ _ _ _ _ tp by_ n T h_tp _) k_481 k_502 k_479 k_480 k_85 (nA := 0) (by decide +kernel) ⟨Nat.le_trans (by decide) hRf, Nat.le_trans (by decide) hRl⟩ hK hP hD hS hA hZ hN h_tp rfl rfl rfl hl.1 rfl (Nat.le_of_ble_eq_true rfl) dX4_countElements_23 ⟨(show cells + 0 ≤ R.cells by omega), (show slots + 0 ≤ R.slots by omega)⟩) (Nat.le_refl _) (Nat.le_refl _) (fun r H locs hw hP hD hS => ?_)
      obtain rfl := hw
      refine lv_icmp_ge (tgt := 57) hx hb dX4_countElements_26 (by decide) (fun c_2 => ?_) (fun c_2 => ?_)
      · have c_2 := q_le (a := n) (b := nx) (by omega) (by omega) c_2
        have hnl : L_.length = j := by have h9 := dr_nil (hdr.trans (tx_ln_out (by omega) _)); omega
        rw [← hnl] at hl
        exact kk _ _ _ _ _ _ _ H locs ls h_rd h_tp h_by hfr hP hD hS (lv_sub hl (l' := [(1, .int (nI ((tx_cnt T L_ L_.length)))), (0, .ref rd)]) [1, 2] rfl)
      · have c_2 := q_nle (a := n) (b := nx) (by omega) (by omega) c_2
        have e6 := tx_cnt_le T L_ j
        refine lv_aload_n hx hb dX4_countElements_29 rfl (lv_at hl 2 rfl) ?_
        refine o_cv (k := cells) (n := slots) hK hP hD hS hA (o_rV (As := []) (rest := []) hf (r_step _ _ _ _ _ _ _ _ rd tp by_ n nx fm to_ T (ka_ T L_ j) ka h_rd h_tp h_by hn (by omega) _) k_506 k_503 k_505 k_7 k_86 (nA := 0) (by decide +kernel) ⟨Nat.le_trans (by decide) hRf, Nat.le_trans (by decide) hRl⟩ hK hP hD hS hA hZ hN h_rd rfl rfl rfl hl.1 rfl (Nat.le_of_ble_eq_true rfl) dX4_countElements_30 ⟨(show cells + 0 ≤ R.cells by omega), (show slots + 0 ≤ R.slots by omega)⟩) (Nat.le_refl _) (Nat.le_refl _) (fun L g H locs hw hP hD hS => ?_)
        obtain ⟨y, x, ey, ex_, hf9, h_rd⟩ := hw
        have h_tp := h_tp.fr hf9 (by decide)
        have h_by := h_by.fr hf9 (by decide)
        have hfr := hfr.tr hf9
        have hnx9 : nx < n := by omega
        have hls := ln_step hdr hfu2 hnx9
        rw [← ey, ← ex_] at hls
        have hjl := dr_len hls
        have hg := dr_g (d := (0, 0)) hls
        have hd2 := dr_s hls
        have hel := el2_ge (T := T) hnx9
        have hyx := lf_yx hel.1 ey ex_
        have hkc := kc_k (n := n) (nx := nx) (T := T) hjl hg hyx.2.1 (fb_free hd2 (show n + 1 ≤ tx_el2 T n nx + 1 + (f - 1) by omega))
        rw [hkc] at h_rd
        refine lv_aload_n hx hb dX4_countElements_33 rfl (lv_at hl 2 rfl) ?_
        refine o_get (D := D) (ci := 5) (v := .int (tx_k T L_ j)) (C := RX4) (T := TX4) (N := 6) hx hb hts inX4 hown hK hP h_rd rfl 4 (by decide) (hts _ k_139) (fun _ h9 => h9) rfl dX4_countElements_34 ?_
        refine lv_iconst (v := (-1)) hx hb dX4_countElements_37 (by decide) ?_
        refine lv_icmp_eq (tgt := 51) hx hb dX4_countElements_38 (by decide) (fun c_3 => ?_) (fun c_3 => ?_)
        · refine lv_iinc (v := nI (j + 1)) (lv' := [(2, .int (nI (j + 1))), (1, .int (nI ((tx_cnt T L_ j)))), (0, .ref rd)]) hx hb dX4_countElements_51 hl (k := 0) rfl (nI_addE (a := j) (b := 1) (by omega)) (by decide) rfl (fun ls hl => ?_)
          refine lv_goto (tgt := 8) hx hb dX4_countElements_54 (by decide) ?_
          have e8 := tx_cnt_n (T := T) (L := L_) (j := j) (Or.inl (tx_k_f.mp c_3))
          rw [show (tx_cnt T L_ j) = (tx_cnt T L_ (j + 1)) by omega] at hl
          exact ih (j + 1) (tx_el2 T n nx + 1) (f - 1) y x (ka_ T L_ j) cells slots _ _ H locs ls hd2 (by omega) (by omega) (by omega) hRc hRs h_rd h_tp h_by hfr hP hD hS (lv_sub hl (l' := [(2, .int (nI (j + 1))), (1, .int (nI ((tx_cnt T L_ (j + 1))))), (0, .ref rd)]) [0, 1, 2] rfl) kk
        · refine lv_aload_n hx hb dX4_countElements_41 rfl (lv_at hl 2 rfl) ?_
          refine o_cis (k := cells) (n := slots) hK hP hD hS hA (o_rV (As := []) (rest := []) hf (r_joins _ _ _ _ _ _ _ _ rd tp by_ n ((tx_el2 T n nx + 1)) y x T (tx_k T L_ j) (ka_ T L_ j) h_rd _) k_589 k_586 k_588 k_14 k_86 (nA := 0) (by decide +kernel) ⟨Nat.le_trans (by decide) hRf, Nat.le_trans (by decide) hRl⟩ hK hP hD hS hA hZ hN h_rd rfl rfl rfl hl.1 rfl (Nat.le_of_ble_eq_true rfl) dX4_countElements_42 ⟨(show cells + 0 ≤ R.cells by omega), (show slots + 0 ≤ R.slots by omega)⟩) (Nat.le_refl _) (Nat.le_refl _) (fun r H locs hw hP hD hS => ?_)
          rcases hw with ⟨c_4, rfl⟩ | ⟨c_4, rfl⟩
          · have c_4 := ka_more.mp c_4
            have hP := hP
            refine lv_if_ne (tgt := 51) hx hb dX4_countElements_45 (by decide) (fun _ => ?_) (fun hno => absurd hno (by decide))
            refine lv_iinc (v := nI (j + 1)) (lv' := [(2, .int (nI (j + 1))), (1, .int (nI ((tx_cnt T L_ j)))), (0, .ref rd)]) hx hb dX4_countElements_51 hl (k := 0) rfl (nI_addE (a := j) (b := 1) (by omega)) (by decide) rfl (fun ls hl => ?_)
            refine lv_goto (tgt := 8) hx hb dX4_countElements_54 (by decide) ?_
            have e8 := tx_cnt_n (T := T) (L := L_) (j := j) (Or.inr c_4.2)
            rw [show (tx_cnt T L_ j) = (tx_cnt T L_ (j + 1)) by omega] at hl
            exact ih (j + 1) (tx_el2 T n nx + 1) (f - 1) y x (ka_ T L_ j) cells slots _ _ H locs ls hd2 (by omega) (by omega) (by omega) hRc hRs h_rd h_tp h_by hfr hP hD hS (lv_sub hl (l' := [(2, .int (nI (j + 1))), (1, .int (nI ((tx_cnt T L_ (j + 1))))), (0, .ref rd)]) [0, 1, 2] rfl) kk
          · have c_4 := fun z9 => c_4 (ka_more.mpr z9)
            have hP := hP
            refine lv_if_ne (tgt := 51) hx hb dX4_countElements_45 (by decide) (fun hno => absurd hno (by decide)) (fun _ => ?_)
            refine lv_iinc (v := nI (tx_cnt T L_ j + 1)) (lv' := [(1, .int (nI (tx_cnt T L_ j + 1))), (2, .int (nI j)), (0, .ref rd)]) hx hb dX4_countElements_48 hl (k := 1) rfl (nI_addE (a := (tx_cnt T L_ j)) (b := 1) (by omega)) (by decide) rfl (fun ls hl => ?_)
            refine lv_iinc (v := nI (j + 1)) (lv' := [(2, .int (nI (j + 1))), (1, .int (nI (tx_cnt T L_ j + 1))), (0, .ref rd)]) hx hb dX4_countElements_51 hl (k := 1) rfl (nI_addE (a := j) (b := 1) (by omega)) (by decide) rfl (fun ls hl => ?_)
            refine lv_goto (tgt := 8) hx hb dX4_countElements_54 (by decide) ?_
            have e8 := tx_cnt_y (T := T) (L := L_) (j := j) (fun z9 => c_3 (tx_k_f.mpr z9)) (fun z9 => c_4 ⟨fun z8 => c_3 (tx_k_f.mpr z8), z9⟩)
            rw [show tx_cnt T L_ j + 1 = (tx_cnt T L_ (j + 1)) by omega] at hl
            exact ih (j + 1) (tx_el2 T n nx + 1) (f - 1) y x (ka_ T L_ j) cells slots _ _ H locs ls hd2 (by omega) (by omega) (by omega) hRc hRs h_rd h_tp h_by hfr hP hD hS (lv_sub hl (l' := [(2, .int (nI (j + 1))), (1, .int (nI ((tx_cnt T L_ (j + 1))))), (0, .ref rd)]) [0, 1, 2] rfl) kk
set_option maxHeartbeats 1000000 in
set_option maxRecDepth 100000 in
theorem r_count (l : Launch) (D : va_G) (z : Nat → Nat) (cB cI_ cO : ClassId) (L0 : List Nat) (g0 : hG) (rd tp by_ n nx fm to_ : Nat) (T : Nat → Int32) (kd ka : Int32) (h_rd : ho L0 g0 rd 4 (.inr (5, [.ref tp, .int (nI nx), .int (nI fm), .int (nI to_), .int kd, .int ka]))) (h_tp : ho L0 g0 tp 2 (.inr (9, [.ref by_, .int (nI n)]))) (h_by : ho L0 g0 by_ 3 (.inl (cB, 1200, .inl T))) (hn : n ≤ 1200) : eI l D yX4_countElements cX4_countElements 3 (some .int) 9 190 0 0 [.ref rd] z cB cI_ cO L0 g0 (fun r L g => r = nI (tx_cnt T (tx_ln T n (n + 1) 0) (tx_ln T n (n + 1) 0).length) ∧ ∃ (x1 x2 x3 : Nat) (k1 k2 : Int32), fr [4] L0 g0 L g ∧ ho L g rd 4 (.inr (5, [.ref tp, .int (nI x1), .int (nI x2), .int (nI x3), .int k1, .int k2]))) := by
  refine o_si (by decide) (Nat.le_of_ble_eq_true rfl) ?_
  intro p e s m below meth c A ls hf hr hlocks hin hK hP hD hS hA hZ hN hl
  obtain ⟨hx, hb, hml, hown, hts⟩ := id hf
  have hl : lv_has ls 3 [(0, .ref rd)] := hl
  have hfr : fr [4] L0 g0 L0 g0 := fr.rf
  refine lv_iconst (v := 0) hx hb dX4_countElements_0 (by decide) ?_
  refine lv_istore_n (lv' := [(1, .int 0), (0, .ref rd)]) hx hb dX4_countElements_1 rfl hl (by decide) rfl (fun ls hl => ?_)
  refine lv_aload_n hx hb dX4_countElements_2 rfl (lv_at hl 1 rfl) ?_
  refine o_cv (k := 0) (n := 0) hK hP hD hS hA (o_rV (As := []) (rest := []) hf (r_rewind _ _ _ _ _ _ _ _ rd tp by_ n nx fm to_ T kd ka h_rd _) k_501 k_498 k_500 k_6 k_86 (nA := 0) (by decide +kernel) ⟨Nat.le_of_ble_eq_true rfl, Nat.le_of_ble_eq_true rfl⟩ hK hP hD hS hA hZ hN h_rd rfl rfl rfl hl.1 rfl (Nat.le_of_ble_eq_true rfl) dX4_countElements_3 ⟨(show 0 + 0 ≤ 0 by omega), (show 0 + 0 ≤ 0 by omega)⟩) (Nat.le_refl _) (Nat.le_refl _) (fun L g H locs hw hP hD hS => ?_)
  obtain ⟨hf9, h_rd⟩ := hw
  have h_tp := h_tp.fr hf9 (by decide)
  have h_by := h_by.fr hf9 (by decide)
  have hfr := hfr.tr hf9
  refine lv_iconst (v := 0) hx hb dX4_countElements_6 (by decide) ?_
  refine lv_istore_n (lv' := [(2, .int 0), (1, .int 0), (0, .ref rd)]) hx hb dX4_countElements_7 rfl hl (by decide) rfl (fun ls hl => ?_)
  have hka : ka_ T (tx_ln T n (n + 1) 0) 0 = -1 := rfl
  refine ce_loop (L0 := L0) (g0 := g0) hn (L_ := tx_ln T n (n + 1) 0) (by have h9 := tx_ln_len T n (n + 1) 0; omega) (Nat.le_of_ble_eq_true rfl) (Nat.le_of_ble_eq_true rfl) hA hf hK hZ hN n 0 0 (n + 1) fm to_ ka 0 0 _ _ _ _ ls rfl (by omega) (by omega) (by omega) (Nat.zero_le _) (Nat.zero_le _) h_rd h_tp h_by hfr hP hD hS (lv_sub hl (l' := [(2, .int 0), (1, .int 0), (0, .ref rd)]) [0, 1, 2] rfl) (fun x1 x2 x3 k1 k2 L g H locs ls h_rd h_tp h_by hfr hP hD hS hl => ?_)
  refine lv_iload_n hx hb dX4_countElements_57 rfl (lv_at hl 0 rfl) ?_
  exact o_ri hf hr rfl hlocks hK hP hD hS (show 0 ≤ 0 by omega) (show 0 ≤ 0 by omega) ⟨rfl, x1, x2, x3, k1, k2, hfr, h_rd⟩ dX4_countElements_58
