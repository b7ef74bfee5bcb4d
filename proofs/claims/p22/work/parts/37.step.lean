theorem q_m1s {a : Nat} (ha : a < 2 ^ 30) : nI a - 1 < nI a := by
  rw [Int32.lt_iff_toInt_lt, q_m1t ha, nI_toInt (by omega)]; omega
abbrev cX4_step : ByteArray := prog_6_method_6_code
def yX4_step : MethodName := ⟨RX4, "step", "()V"⟩
theorem k_9 : (Cond.selects RX4 yX4_kindOfLine yX4_kindOfLine) ∈ gT := gT_i 9 (by decide +kernel) rfl
theorem k_516 : (Cond.methodLink RX4 73 yX4_kindOfLine) ∈ gT := gT_i 516 (by decide +kernel) rfl
theorem k_518 : (Cond.instanceMethod yX4_kindOfLine) ∈ gT := gT_i 518 (by decide +kernel) rfl
theorem k_519 : (Cond.code yX4_kindOfLine cX4_kindOfLine 2 (some .int)) ∈ gT := gT_i 519 (by decide +kernel) rfl
theorem dX4_step_43 : decode cX4_step 43 = .ok (.iload_n 1, 1) := by decide +kernel
theorem dX4_step_44 : decode cX4_step 44 = .ok (.aload_n 0, 1) := by decide +kernel
theorem dX4_step_45 : decode cX4_step 45 = .ok (.getfield 45, 3) := by decide +kernel
theorem dX4_step_48 : decode cX4_step 48 = .ok (.if_icmp .ge 27, 3) := by decide +kernel
theorem dX4_step_51 : decode cX4_step 51 = .ok (.aload_n 0, 1) := by decide +kernel
theorem dX4_step_52 : decode cX4_step 52 = .ok (.getfield 9, 3) := by decide +kernel
theorem dX4_step_55 : decode cX4_step 55 = .ok (.iload_n 1, 1) := by decide +kernel
theorem dX4_step_56 : decode cX4_step 56 = .ok (.invokevirtual 69, 3) := by decide +kernel
theorem dX4_step_59 : decode cX4_step 59 = .ok (.ifCond .eq 16, 3) := by decide +kernel
theorem dX4_step_62 : decode cX4_step 62 = .ok (.aload_n 0, 1) := by decide +kernel
theorem dX4_step_63 : decode cX4_step 63 = .ok (.iload_n 1, 1) := by decide +kernel
theorem dX4_step_64 : decode cX4_step 64 = .ok (.iconst 1, 1) := by decide +kernel
theorem dX4_step_65 : decode cX4_step 65 = .ok (.iadd, 1) := by decide +kernel
theorem dX4_step_66 : decode cX4_step 66 = .ok (.putfield 42, 3) := by decide +kernel
theorem dX4_step_69 : decode cX4_step 69 = .ok (.iinc 1 1, 3) := by decide +kernel
theorem dX4_step_72 : decode cX4_step 72 = .ok (.goto (-29), 3) := by decide +kernel
theorem dX4_step_82 : decode cX4_step 82 = .ok (.iload_n 1, 1) := by decide +kernel
theorem dX4_step_83 : decode cX4_step 83 = .ok (.aload_n 0, 1) := by decide +kernel
theorem dX4_step_84 : decode cX4_step 84 = .ok (.getfield 42, 3) := by decide +kernel
theorem dX4_step_87 : decode cX4_step 87 = .ok (.if_icmp .lt 25, 3) := by decide +kernel
theorem dX4_step_90 : decode cX4_step 90 = .ok (.aload_n 0, 1) := by decide +kernel
theorem dX4_step_91 : decode cX4_step 91 = .ok (.getfield 9, 3) := by decide +kernel
theorem dX4_step_94 : decode cX4_step 94 = .ok (.iload_n 1, 1) := by decide +kernel
theorem dX4_step_95 : decode cX4_step 95 = .ok (.invokevirtual 69, 3) := by decide +kernel
theorem dX4_step_98 : decode cX4_step 98 = .ok (.ifCond .eq 14, 3) := by decide +kernel
theorem dX4_step_101 : decode cX4_step 101 = .ok (.aload_n 0, 1) := by decide +kernel
theorem dX4_step_102 : decode cX4_step 102 = .ok (.iload_n 1, 1) := by decide +kernel
theorem dX4_step_103 : decode cX4_step 103 = .ok (.putfield 45, 3) := by decide +kernel
theorem dX4_step_106 : decode cX4_step 106 = .ok (.iinc 1 (-1), 3) := by decide +kernel
theorem dX4_step_109 : decode cX4_step 109 = .ok (.goto (-27), 3) := by decide +kernel
theorem dX4_step_0 : decode cX4_step 0 = .ok (.aload_n 0, 1) := by decide +kernel
theorem dX4_step_1 : decode cX4_step 1 = .ok (.aload_n 0, 1) := by decide +kernel
theorem dX4_step_2 : decode cX4_step 2 = .ok (.getfield 31, 3) := by decide +kernel
theorem dX4_step_5 : decode cX4_step 5 = .ok (.putfield 62, 3) := by decide +kernel
theorem dX4_step_8 : decode cX4_step 8 = .ok (.aload_n 0, 1) := by decide +kernel
theorem dX4_step_9 : decode cX4_step 9 = .ok (.aload_n 0, 1) := by decide +kernel
theorem dX4_step_10 : decode cX4_step 10 = .ok (.getfield 20, 3) := by decide +kernel
theorem dX4_step_13 : decode cX4_step 13 = .ok (.putfield 42, 3) := by decide +kernel
theorem dX4_step_16 : decode cX4_step 16 = .ok (.aload_n 0, 1) := by decide +kernel
theorem dX4_step_17 : decode cX4_step 17 = .ok (.aload_n 0, 1) := by decide +kernel
theorem dX4_step_18 : decode cX4_step 18 = .ok (.aload_n 0, 1) := by decide +kernel
theorem dX4_step_19 : decode cX4_step 19 = .ok (.getfield 20, 3) := by decide +kernel
theorem dX4_step_22 : decode cX4_step 22 = .ok (.invokevirtual 65, 3) := by decide +kernel
theorem dX4_step_25 : decode cX4_step 25 = .ok (.putfield 45, 3) := by decide +kernel
theorem dX4_step_28 : decode cX4_step 28 = .ok (.aload_n 0, 1) := by decide +kernel
theorem dX4_step_29 : decode cX4_step 29 = .ok (.aload_n 0, 1) := by decide +kernel
theorem dX4_step_30 : decode cX4_step 30 = .ok (.getfield 45, 3) := by decide +kernel
theorem dX4_step_33 : decode cX4_step 33 = .ok (.iconst 1, 1) := by decide +kernel
theorem dX4_step_34 : decode cX4_step 34 = .ok (.iadd, 1) := by decide +kernel
theorem dX4_step_35 : decode cX4_step 35 = .ok (.putfield 20, 3) := by decide +kernel
theorem dX4_step_38 : decode cX4_step 38 = .ok (.aload_n 0, 1) := by decide +kernel
theorem dX4_step_39 : decode cX4_step 39 = .ok (.getfield 42, 3) := by decide +kernel
theorem dX4_step_42 : decode cX4_step 42 = .ok (.istore_n 1, 1) := by decide +kernel
theorem dX4_step_75 : decode cX4_step 75 = .ok (.aload_n 0, 1) := by decide +kernel
theorem dX4_step_76 : decode cX4_step 76 = .ok (.getfield 45, 3) := by decide +kernel
theorem dX4_step_79 : decode cX4_step 79 = .ok (.iconst 1, 1) := by decide +kernel
theorem dX4_step_80 : decode cX4_step 80 = .ok (.isub, 1) := by decide +kernel
theorem dX4_step_81 : decode cX4_step 81 = .ok (.istore_n 1, 1) := by decide +kernel
theorem dX4_step_112 : decode cX4_step 112 = .ok (.aload_n 0, 1) := by decide +kernel
theorem dX4_step_113 : decode cX4_step 113 = .ok (.aload_n 0, 1) := by decide +kernel
theorem dX4_step_114 : decode cX4_step 114 = .ok (.invokevirtual 73, 3) := by decide +kernel
theorem dX4_step_117 : decode cX4_step 117 = .ok (.putfield 31, 3) := by decide +kernel
theorem dX4_step_120 : decode cX4_step 120 = .ok (.return_, 1) := by decide +kernel
set_option maxHeartbeats 1000000 in
set_option maxRecDepth 100000 in
theorem rs_l1 {p : Program} {l : Launch} {e : Env} {R : Room} {s : State} {m : MethodId} {args : Array Value} {below : List Frame} {meth : Method} {c : Code} {Q : State → Prop} {D : va_G} {A : Nat → Prop} {z : Nat → Nat} {cB cI_ cO : ClassId} {L0 : List Nat} {g0 : hG} {rd tp by_ n nx to_ : Nat} {T : Nat → Int32} {kd ka : Int32} (hn : n ≤ 1200) (hto : to_ ≤ n) (hRf : 2 ≤ R.frames) (hRl : 45 ≤ R.locals) (hA : ∀ q : Nat, s.heap.size ≤ q → A q) (hf : CallFix p m c cX4_step 2 s args gT yX4_step.cls) (hK : va_K D vcl (dT cB cI_ cO) s) (hZ : zA z A s s.heap) (hN : zB z s) :
    ∀ (k : Nat) (i : Nat) (cells slots : Nat) (L : List Nat) (g : hG) (H : Heap) (locs : List Loc) (ls : Array Slot), i + k = to_ → cells ≤ R.cells → slots ≤ R.slots → ho L g rd 4 (.inr (5, [.ref tp, .int (nI nx), .int (nI i), .int (nI to_), .int kd, .int ka])) → ho L g tp 2 (.inr (9, [.ref by_, .int (nI n)])) → ho L g by_ 3 (.inl (cB, 1200, .inl T)) → fr [4] L0 g0 L g → va_P D vcl (dW L g) H → va_D A (dW L g) → va_S A s.heap H locs → lv_has ls 2 [(1, .int (nI i)), (0, .ref rd)] →
    (∀ (w : Nat)  (L : List Nat) (g : hG) (H : Heap) (locs : List Loc) (ls : Array Slot), w = tx_sk T k i → ho L g rd 4 (.inr (5, [.ref tp, .int (nI nx), .int (nI w), .int (nI to_), .int kd, .int ka])) → ho L g tp 2 (.inr (9, [.ref by_, .int (nI n)])) → ho L g by_ 3 (.inl (cB, 1200, .inl T)) → fr [4] L0 g0 L g → va_P D vcl (dW L g) H → va_D A (dW L g) → va_S A s.heap H locs → lv_has ls 2 [(0, .ref rd)] → W p l e R s m args below meth c H locs cells slots Q (F0 m 75 ls [])) →
    W p l e R s m args below meth c H locs cells slots Q (F0 m 43 ls []) := by
  obtain ⟨hx, hb, hml, hown, hts⟩ := id hf
  intro k
  induction k with
  | zero =>
    intro i cells slots L g H locs ls hik hRc hRs h_rd h_tp h_by hfr hP hD hS hl kk
    refine lv_iload_n hx hb dX4_step_43 rfl (lv_at hl 0 rfl) ?_
    refine lv_aload_n hx hb dX4_step_44 rfl (lv_at hl 1 rfl) ?_
    refine o_get (D := D) (ci := 5) (v := .int (nI to_)) (C := RX4) (T := TX4) (N := 6) hx hb hts inX4 hown hK hP h_rd rfl 3 (by decide) (hts _ k_138) (fun _ h9 => h9) rfl dX4_step_45 ?_
    refine lv_icmp_ge (tgt := 75) hx hb dX4_step_48 (by decide) (fun c_1 => ?_) (fun c_1 => ?_)
    · have c_1 := q_le (a := to_) (b := i) (by omega) (by omega) c_1
      obtain rfl : i = to_ := by omega
      exact kk i _ _ H locs ls rfl h_rd h_tp h_by hfr hP hD hS (lv_sub hl (l' := [(0, .ref rd)]) [1] rfl)
    · have c_1 := q_nle (a := to_) (b := i) (by omega) (by omega) c_1
      exact False.elim (by omega)
  | succ k ih =>
    intro i cells slots L g H locs ls hik hRc hRs h_rd h_tp h_by hfr hP hD hS hl kk
    refine lv_iload_n hx hb dX4_step_43 rfl (lv_at hl 0 rfl) ?_
    refine lv_aload_n hx hb dX4_step_44 rfl (lv_at hl 1 rfl) ?_
    refine o_get (D := D) (ci := 5) (v := .int (nI to_)) (C := RX4) (T := TX4) (N := 6) hx hb hts inX4 hown hK hP h_rd rfl 3 (by decide) (hts _ k_138) (fun _ h9 => h9) rfl dX4_step_45 ?_
    refine lv_icmp_ge (tgt := 75) hx hb dX4_step_48 (by decide) (fun c_1 => ?_) (fun c_1 => ?_)
    · have c_1 := q_le (a := to_) (b := i) (by omega) (by omega) c_1
      exact False.elim (by omega)
    · have c_1 := q_nle (a := to_) (b := i) (by omega) (by omega) c_1
      refine lv_aload_n hx hb dX4_step_51 rfl (lv_at hl 1 rfl) ?_
      refine o_get (D := D) (ci := 5) (v := .ref tp) (C := RX4) (T := TX4) (N := 6) hx hb hts inX4 hown hK hP h_rd rfl 0 (by decide) (hts _ k_135) (fun _ h9 => h9) rfl dX4_step_52 ?_
      refine lv_iload_n hx hb dX4_step_55 rfl (lv_at hl 0 rfl) ?_
      refine o_cis (k := cells) (n := slots) hK hP hD hS hA (o_rV (As := [.int (nI i)]) (rest := []) hf (t_isBlankI _ _ _ _ _ _ _ _ tp by_ n T i h_tp h_by hn (by omega) _) k_515 k_512 k_513 k_514 k_85 (nA := 1) (by decide +kernel) ⟨Nat.le_trans (by decide) hRf, Nat.le_trans (by decide) hRl⟩ hK hP hD hS hA hZ hN h_tp rfl rfl rfl hl.1 rfl (Nat.le_of_ble_eq_true rfl) dX4_step_56 ⟨(show cells + 0 ≤ R.cells by omega), (show slots + 0 ≤ R.slots by omega)⟩) (Nat.le_refl _) (Nat.le_refl _) (fun r H locs hw hP hD hS => ?_)
      rcases hw with ⟨c_2, rfl⟩ | ⟨c_2, rfl⟩
      · have hP := hP
        refine lv_if_eq (tgt := 75) hx hb dX4_step_59 (by decide) (fun hno => absurd hno (by decide)) (fun _ => ?_)
        refine lv_aload_n hx hb dX4_step_62 rfl (lv_at hl 1 rfl) ?_
        refine lv_iload_n hx hb dX4_step_63 rfl (lv_at hl 0 rfl) ?_
        refine lv_iconst (v := 1) hx hb dX4_step_64 (by decide) ?_
        refine lv_iadd hx hb dX4_step_65 ?_
        refine q_seti (y := nI (i + 1)) (nI_addE (a := i) (b := 1) (by omega)) ?_
        refine o_put (D := D) (ci := 5) (v := .int (nI (i + 1))) (ty := .int) (C := RX4) (T := TX4) (N := 6) (fs1 := [.ref tp, .int (nI nx), .int (nI (i + 1)), .int (nI to_), .int kd, .int ka]) hx hb hts inX4 tyX4 tyX4_ok nmX4 hown hK hP hD hS h_rd rfl 2 (by decide) (hts _ k_137) (fun _ h9 => h9) rfl (by decide +kernel) rfl rfl (Nat.le_of_ble_eq_true rfl) rfl dX4_step_66 (fun g H locs h_rd hu hP hD hS => ?_)
        have h_tp := h_tp.up hu (by decide)
        have h_by := h_by.up hu (by decide)
        have hfr := hfr.up hu (by decide)
        refine lv_iinc (v := nI (i + 1)) (lv' := [(1, .int (nI (i + 1))), (0, .ref rd)]) hx hb dX4_step_69 hl (k := 0) rfl (nI_addE (a := i) (b := 1) (by omega)) (by decide) rfl (fun ls hl => ?_)
        refine lv_goto (tgt := 43) hx hb dX4_step_72 (by decide) ?_
        exact ih (i + 1) cells slots _ _ H locs ls (by omega) hRc hRs h_rd h_tp h_by hfr hP hD hS (lv_sub hl (l' := [(1, .int (nI (i + 1))), (0, .ref rd)]) [0, 1] rfl) (fun w L g H locs ls a1 => kk w L g H locs ls (a1.trans (if_pos c_2).symm))
      · have hP := hP
        refine lv_if_eq (tgt := 75) hx hb dX4_step_59 (by decide) (fun _ => ?_) (fun hno => absurd hno (by decide))
        exact kk i _ _ H locs ls (if_neg c_2).symm h_rd h_tp h_by hfr hP hD hS (lv_sub hl (l' := [(0, .ref rd)]) [1] rfl)
set_option maxHeartbeats 1000000 in
set_option maxRecDepth 100000 in
theorem rs_l2 {p : Program} {l : Launch} {e : Env} {R : Room} {s : State} {m : MethodId} {args : Array Value} {below : List Frame} {meth : Method} {c : Code} {Q : State → Prop} {D : va_G} {A : Nat → Prop} {z : Nat → Nat} {cB cI_ cO : ClassId} {L0 : List Nat} {g0 : hG} {rd tp by_ n nx fm : Nat} {T : Nat → Int32} {kd ka : Int32} (hn : n ≤ 1200) (hRf : 2 ≤ R.frames) (hRl : 45 ≤ R.locals) (hA : ∀ q : Nat, s.heap.size ≤ q → A q) (hf : CallFix p m c cX4_step 2 s args gT yX4_step.cls) (hK : va_K D vcl (dT cB cI_ cO) s) (hZ : zA z A s s.heap) (hN : zB z s) :
    ∀ (k : Nat) (b : Nat) (x : Int32) (cells slots : Nat) (L : List Nat) (g : hG) (H : Heap) (locs : List Loc) (ls : Array Slot), fm + k = b → b ≤ n → x = nI b - 1 → cells ≤ R.cells → slots ≤ R.slots → ho L g rd 4 (.inr (5, [.ref tp, .int (nI nx), .int (nI fm), .int (nI b), .int kd, .int ka])) → ho L g tp 2 (.inr (9, [.ref by_, .int (nI n)])) → ho L g by_ 3 (.inl (cB, 1200, .inl T)) → fr [4] L0 g0 L g → va_P D vcl (dW L g) H → va_D A (dW L g) → va_S A s.heap H locs → lv_has ls 2 [(1, .int x), (0, .ref rd)] →
    (∀ (w : Nat)  (L : List Nat) (g : hG) (H : Heap) (locs : List Loc) (ls : Array Slot), w = tx_bk T k b → ho L g rd 4 (.inr (5, [.ref tp, .int (nI nx), .int (nI fm), .int (nI w), .int kd, .int ka])) → ho L g tp 2 (.inr (9, [.ref by_, .int (nI n)])) → ho L g by_ 3 (.inl (cB, 1200, .inl T)) → fr [4] L0 g0 L g → va_P D vcl (dW L g) H → va_D A (dW L g) → va_S A s.heap H locs → lv_has ls 2 [(0, .ref rd)] → W p l e R s m args below meth c H locs cells slots Q (F0 m 112 ls [])) →
    W p l e R s m args below meth c H locs cells slots Q (F0 m 82 ls []) := by
  obtain ⟨hx, hb, hml, hown, hts⟩ := id hf
  intro k
  induction k with
  | zero =>
    intro b x cells slots L g H locs ls hbk hbn hx_ hRc hRs h_rd h_tp h_by hfr hP hD hS hl kk
    obtain rfl : b = fm := by omega
    subst hx_
    refine lv_iload_n hx hb dX4_step_82 rfl (lv_at hl 0 rfl) ?_
    refine lv_aload_n hx hb dX4_step_83 rfl (lv_at hl 1 rfl) ?_
    refine o_get (D := D) (ci := 5) (v := .int (nI b)) (C := RX4) (T := TX4) (N := 6) hx hb hts inX4 hown hK hP h_rd rfl 2 (by decide) (hts _ k_137) (fun _ h9 => h9) rfl dX4_step_84 ?_
    refine lv_icmp_lt (tgt := 112) hx hb dX4_step_87 (by decide) (fun _ => ?_) (fun hno => absurd (q_m1s (by omega)) hno)
    exact kk b _ _ H locs ls rfl h_rd h_tp h_by hfr hP hD hS (lv_sub hl (l' := [(0, .ref rd)]) [1] rfl)
  | succ k ih =>
    intro b x cells slots L g H locs ls hbk hbn hx_ hRc hRs h_rd h_tp h_by hfr hP hD hS hl kk
    obtain rfl : b = fm + (k + 1) := by omega
    obtain rfl : x = nI (fm + k) := hx_.trans (nI_pred _)
    refine lv_iload_n hx hb dX4_step_82 rfl (lv_at hl 0 rfl) ?_
    refine lv_aload_n hx hb dX4_step_83 rfl (lv_at hl 1 rfl) ?_
    refine o_get (D := D) (ci := 5) (v := .int (nI fm)) (C := RX4) (T := TX4) (N := 6) hx hb hts inX4 hown hK hP h_rd rfl 2 (by decide) (hts _ k_137) (fun _ h9 => h9) rfl dX4_step_84 ?_
    refine lv_icmp_lt (tgt := 112) hx hb dX4_step_87 (by decide) (fun c_1 => ?_) (fun c_1 => ?_)
    · have c_1 := q_lt (a := fm + k) (b := fm) (by omega) (by omega) c_1
      exact False.elim (by omega)
    · have c_1 := q_nlt (a := fm + k) (b := fm) (by omega) (by omega) c_1
      refine lv_aload_n hx hb dX4_step_90 rfl (lv_at hl 1 rfl) ?_
      refine o_get (D := D) (ci := 5) (v := .ref tp) (C := RX4) (T := TX4) (N := 6) hx hb hts inX4 hown hK hP h_rd rfl 0 (by decide) (hts _ k_135) (fun _ h9 => h9) rfl dX4_step_91 ?_
      refine lv_iload_n hx hb dX4_step_94 rfl (lv_at hl 0 rfl) ?_
      refine o_cis (k := cells) (n := slots) hK hP hD hS hA (o_rV (As := [.int (nI (fm + k))]) (rest := []) hf (t_isBlankI _ _ _ _ _ _ _ _ tp by_ n T (fm + k) h_tp h_by hn (by omega) _) k_515 k_512 k_513 k_514 k_85 (nA := 1) (by decide +kernel) ⟨Nat.le_trans (by decide) hRf, Nat.le_trans (by decide) hRl⟩ hK hP hD hS hA hZ hN h_tp rfl rfl rfl hl.1 rfl (Nat.le_of_ble_eq_true rfl) dX4_step_95 ⟨(show cells + 0 ≤ R.cells by omega), (show slots + 0 ≤ R.slots by omega)⟩) (Nat.le_refl _) (Nat.le_refl _) (fun r H locs hw hP hD hS => ?_)
      rcases hw with ⟨c_2, rfl⟩ | ⟨c_2, rfl⟩
      · have hP := hP
        refine lv_if_eq (tgt := 112) hx hb dX4_step_98 (by decide) (fun hno => absurd hno (by decide)) (fun _ => ?_)
        refine lv_aload_n hx hb dX4_step_101 rfl (lv_at hl 1 rfl) ?_
        refine lv_iload_n hx hb dX4_step_102 rfl (lv_at hl 0 rfl) ?_
        refine o_put (D := D) (ci := 5) (v := .int (nI (fm + k))) (ty := .int) (C := RX4) (T := TX4) (N := 6) (fs1 := [.ref tp, .int (nI nx), .int (nI fm), .int (nI (fm + k)), .int kd, .int ka]) hx hb hts inX4 tyX4 tyX4_ok nmX4 hown hK hP hD hS h_rd rfl 3 (by decide) (hts _ k_138) (fun _ h9 => h9) rfl (by decide +kernel) rfl rfl (Nat.le_of_ble_eq_true rfl) rfl dX4_step_103 (fun g H locs h_rd hu hP hD hS => ?_)
        have h_tp := h_tp.up hu (by decide)
        have h_by := h_by.up hu (by decide)
        have hfr := hfr.up hu (by decide)
        refine lv_iinc (v := ((nI (fm + k)) + (-1))) (lv' := [(1, .int ((nI (fm + k)) + (-1))), (0, .ref rd)]) hx hb dX4_step_106 hl (k := 0) rfl rfl (by decide) rfl (fun ls hl => ?_)
        refine lv_goto (tgt := 82) hx hb dX4_step_109 (by decide) ?_
        exact ih (fm + k) _ cells slots _ _ H locs ls rfl (by omega) (q_dec _) hRc hRs h_rd h_tp h_by hfr hP hD hS (lv_sub hl (l' := [(1, .int ((nI (fm + k)) + (-1))), (0, .ref rd)]) [0, 1] rfl) (fun w L g H locs ls a1 => kk w L g H locs ls (a1.trans (by show _ = if T (fm + (k + 1) - 1) = 32 then _ else _; rw [show fm + (k + 1) - 1 = fm + k by omega, if_pos c_2])))
      · have hP := hP
        refine lv_if_eq (tgt := 112) hx hb dX4_step_98 (by decide) (fun _ => ?_) (fun hno => absurd hno (by decide))
        exact kk (fm + (k + 1)) _ _ H locs ls (by show _ = if T (fm + (k + 1) - 1) = 32 then _ else _; rw [show fm + (k + 1) - 1 = fm + k by omega, if_neg c_2]) h_rd h_tp h_by hfr hP hD hS (lv_sub hl (l' := [(0, .ref rd)]) [1] rfl)
set_option maxHeartbeats 1000000 in
set_option maxRecDepth 100000 in
theorem r_step (l : Launch) (D : va_G) (z : Nat → Nat) (cB cI_ cO : ClassId) (L0 : List Nat) (g0 : hG) (rd tp by_ n nx fm to_ : Nat) (T : Nat → Int32) (kd ka : Int32) (h_rd : ho L0 g0 rd 4 (.inr (5, [.ref tp, .int (nI nx), .int (nI fm), .int (nI to_), .int kd, .int ka]))) (h_tp : ho L0 g0 tp 2 (.inr (9, [.ref by_, .int (nI n)]))) (h_by : ho L0 g0 by_ 3 (.inl (cB, 1200, .inl T))) (hn : n ≤ 1200) (hnx : nx < n) : eV l D yX4_step cX4_step 2 none 7 148 0 0 [.ref rd] z cB cI_ cO L0 g0 (fun L g => ∃ (y x : Nat), y = tx_sk T (tx_el2 T n nx - nx) nx ∧ x = tx_bk T (tx_el2 T n nx - y) (tx_el2 T n nx) ∧ fr [4] L0 g0 L g ∧ ho L g rd 4 (.inr (5, [.ref tp, .int (nI (tx_el2 T n nx + 1)), .int (nI y), .int (nI x), .int (tx_kc T y x kd (tx_fb T n (tx_el2 T n nx + 1))), .int kd]))) := by
  refine o_sv (by decide) (Nat.le_of_ble_eq_true rfl) ?_
  intro p e s m below meth c A ls hf hr hlocks hin hK hP hD hS hA hZ hN hl
  obtain ⟨hx, hb, hml, hown, hts⟩ := id hf
  have hl : lv_has ls 2 [(0, .ref rd)] := hl
  have hfr : fr [4] L0 g0 L0 g0 := fr.rf
  refine lv_aload_n hx hb dX4_step_0 rfl (lv_at hl 0 rfl) ?_
  refine lv_aload_n hx hb dX4_step_1 rfl (lv_at hl 0 rfl) ?_
  refine o_get (D := D) (ci := 5) (v := .int kd) (C := RX4) (T := TX4) (N := 6) hx hb hts inX4 hown hK hP h_rd rfl 4 (by decide) (hts _ k_139) (fun _ h9 => h9) rfl dX4_step_2 ?_
  refine o_put (D := D) (ci := 5) (v := .int kd) (ty := .int) (C := RX4) (T := TX4) (N := 6) (fs1 := [.ref tp, .int (nI nx), .int (nI fm), .int (nI to_), .int kd, .int kd]) hx hb hts inX4 tyX4 tyX4_ok nmX4 hown hK hP hD hS h_rd rfl 5 (by decide) (hts _ k_140) (fun _ h9 => h9) rfl (by decide +kernel) rfl rfl (Nat.le_of_ble_eq_true rfl) rfl dX4_step_5 (fun g H locs h_rd hu hP hD hS => ?_)
  have h_tp := h_tp.up hu (by decide)
  have h_by := h_by.up hu (by decide)
  have hfr := hfr.up hu (by decide)
  refine lv_aload_n hx hb dX4_step_8 rfl (lv_at hl 0 rfl) ?_
  refine lv_aload_n hx hb dX4_step_9 rfl (lv_at hl 0 rfl) ?_
  refine o_get (D := D) (ci := 5) (v := .int (nI nx)) (C := RX4) (T := TX4) (N := 6) hx hb hts inX4 hown hK hP h_rd rfl 1 (by decide) (hts _ k_136) (fun _ h9 => h9) rfl dX4_step_10 ?_
  refine o_put (D := D) (ci := 5) (v := .int (nI nx)) (ty := .int) (C := RX4) (T := TX4) (N := 6) (fs1 := [.ref tp, .int (nI nx), .int (nI nx), .int (nI to_), .int kd, .int kd]) hx hb hts inX4 tyX4 tyX4_ok nmX4 hown hK hP hD hS h_rd rfl 2 (by decide) (hts _ k_137) (fun _ h9 => h9) rfl (by decide +kernel) rfl rfl (Nat.le_of_ble_eq_true rfl) rfl dX4_step_13 (fun g H locs h_rd hu hP hD hS => ?_)
  have h_tp := h_tp.up hu (by decide)
  have h_by := h_by.up hu (by decide)
  have hfr := hfr.up hu (by decide)
  refine lv_aload_n hx hb dX4_step_16 rfl (lv_at hl 0 rfl) ?_
  refine lv_aload_n hx hb dX4_step_17 rfl (lv_at hl 0 rfl) ?_
  refine lv_aload_n hx hb dX4_step_18 rfl (lv_at hl 0 rfl) ?_
  refine o_get (D := D) (ci := 5) (v := .int (nI nx)) (C := RX4) (T := TX4) (N := 6) hx hb hts inX4 hown hK hP h_rd rfl 1 (by decide) (hts _ k_136) (fun _ h9 => h9) rfl dX4_step_19 ?_
  refine o_cis (k := 0) (n := 0) hK hP hD hS hA (o_rV (As := [.int (nI nx)]) (rest := [.ref rd]) hf (r_eol _ _ _ _ _ _ _ _ rd tp by_ n nx nx to_ T kd kd nx h_rd h_tp h_by hn (by omega) _) k_510 k_507 k_509 k_8 k_86 (nA := 1) (by decide +kernel) ⟨Nat.le_of_ble_eq_true rfl, Nat.le_of_ble_eq_true rfl⟩ hK hP hD hS hA hZ hN h_rd rfl rfl rfl hl.1 rfl (Nat.le_of_ble_eq_true rfl) dX4_step_22 ⟨(show 0 + 0 ≤ 0 by omega), (show 0 + 0 ≤ 0 by omega)⟩) (Nat.le_refl _) (Nat.le_refl _) (fun r H locs hw hP hD hS => ?_)
  obtain rfl := hw
  refine o_put (D := D) (ci := 5) (v := .int (nI (tx_el2 T n nx))) (ty := .int) (C := RX4) (T := TX4) (N := 6) (fs1 := [.ref tp, .int (nI nx), .int (nI nx), .int (nI (tx_el2 T n nx)), .int kd, .int kd]) hx hb hts inX4 tyX4 tyX4_ok nmX4 hown hK hP hD hS h_rd rfl 3 (by decide) (hts _ k_138) (fun _ h9 => h9) rfl (by decide +kernel) rfl rfl (Nat.le_of_ble_eq_true rfl) rfl dX4_step_25 (fun g H locs h_rd hu hP hD hS => ?_)
  have h_tp := h_tp.up hu (by decide)
  have h_by := h_by.up hu (by decide)
  have hfr := hfr.up hu (by decide)
  refine lv_aload_n hx hb dX4_step_28 rfl (lv_at hl 0 rfl) ?_
  refine lv_aload_n hx hb dX4_step_29 rfl (lv_at hl 0 rfl) ?_
  refine o_get (D := D) (ci := 5) (v := .int (nI (tx_el2 T n nx))) (C := RX4) (T := TX4) (N := 6) hx hb hts inX4 hown hK hP h_rd rfl 3 (by decide) (hts _ k_138) (fun _ h9 => h9) rfl dX4_step_30 ?_
  refine lv_iconst (v := 1) hx hb dX4_step_33 (by decide) ?_
  refine lv_iadd hx hb dX4_step_34 ?_
  refine q_seti (y := nI (tx_el2 T n nx + 1)) (nI_addE (a := tx_el2 T n nx) (b := 1) (by omega)) ?_
  refine o_put (D := D) (ci := 5) (v := .int (nI (tx_el2 T n nx + 1))) (ty := .int) (C := RX4) (T := TX4) (N := 6) (fs1 := [.ref tp, .int (nI (tx_el2 T n nx + 1)), .int (nI nx), .int (nI (tx_el2 T n nx)), .int kd, .int kd]) hx hb hts inX4 tyX4 tyX4_ok nmX4 hown hK hP hD hS h_rd rfl 1 (by decide) (hts _ k_136) (fun _ h9 => h9) rfl (by decide +kernel) rfl rfl (Nat.le_of_ble_eq_true rfl) rfl dX4_step_35 (fun g H locs h_rd hu hP hD hS => ?_)
  have h_tp := h_tp.up hu (by decide)
  have h_by := h_by.up hu (by decide)
  have hfr := hfr.up hu (by decide)
  refine lv_aload_n hx hb dX4_step_38 rfl (lv_at hl 0 rfl) ?_
  refine o_get (D := D) (ci := 5) (v := .int (nI nx)) (C := RX4) (T := TX4) (N := 6) hx hb hts inX4 hown hK hP h_rd rfl 2 (by decide) (hts _ k_137) (fun _ h9 => h9) rfl dX4_step_39 ?_
  refine lv_istore_n (lv' := [(1, .int (nI nx)), (0, .ref rd)]) hx hb dX4_step_42 rfl hl (by decide) rfl (fun ls hl => ?_)
  have hz := tx_eol_le T (n - nx) nx
  rw [← tx_el2_in hnx] at hz
  refine rs_l1 (L0 := L0) (g0 := g0) hn (tx_el2_le T n nx) (Nat.le_of_ble_eq_true rfl) (Nat.le_of_ble_eq_true rfl) hA hf hK hZ hN (tx_el2 T n nx - nx) nx 0 0 _ _ _ _ ls (by omega) (Nat.le_of_ble_eq_true rfl) (Nat.le_of_ble_eq_true rfl) h_rd h_tp h_by hfr hP hD hS (lv_sub hl (l' := [(1, .int (nI nx)), (0, .ref rd)]) [0, 1] rfl) (fun y L g H locs ls ey h_rd h_tp h_by hfr hP hD hS hl => ?_)
  have hy := tx_sk_le T (tx_el2 T n nx - nx) nx
  rw [← ey] at hy
  refine lv_aload_n hx hb dX4_step_75 rfl (lv_at hl 0 rfl) ?_
  refine o_get (D := D) (ci := 5) (v := .int (nI (tx_el2 T n nx))) (C := RX4) (T := TX4) (N := 6) hx hb hts inX4 hown hK hP h_rd rfl 3 (by decide) (hts _ k_138) (fun _ h9 => h9) rfl dX4_step_76 ?_
  refine lv_iconst (v := 1) hx hb dX4_step_79 (by decide) ?_
  refine lv_isub hx hb dX4_step_80 ?_
  refine lv_istore_n (lv' := [(1, .int ((nI (tx_el2 T n nx)) - 1)), (0, .ref rd)]) hx hb dX4_step_81 rfl hl (by decide) rfl (fun ls hl => ?_)
  refine rs_l2 (L0 := L0) (g0 := g0) hn (Nat.le_of_ble_eq_true rfl) (Nat.le_of_ble_eq_true rfl) hA hf hK hZ hN (tx_el2 T n nx - y) (tx_el2 T n nx) _ 0 0 _ _ _ _ ls (by omega) (by omega) rfl (Nat.le_of_ble_eq_true rfl) (Nat.le_of_ble_eq_true rfl) h_rd h_tp h_by hfr hP hD hS (lv_sub hl (l' := [(1, .int ((nI (tx_el2 T n nx)) - 1)), (0, .ref rd)]) [0, 1] rfl) (fun x L g H locs ls ex h_rd h_tp h_by hfr hP hD hS hl => ?_)
  have hx2 := tx_bk_le T (tx_el2 T n nx - y) (tx_el2 T n nx) (by omega)
  rw [← ex] at hx2
  refine lv_aload_n hx hb dX4_step_112 rfl (lv_at hl 0 rfl) ?_
  refine lv_aload_n hx hb dX4_step_113 rfl (lv_at hl 0 rfl) ?_
  refine o_cis (k := 0) (n := 0) hK hP hD hS hA (o_rV (As := []) (rest := [.ref rd]) hf (r_kindOf4 _ _ _ _ _ _ _ _ rd tp by_ n (tx_el2 T n nx + 1) y x T kd kd h_rd h_tp h_by hn (by omega) (by omega) (by omega) _) k_519 k_516 k_518 k_9 k_86 (nA := 0) (by decide +kernel) ⟨Nat.le_of_ble_eq_true rfl, Nat.le_of_ble_eq_true rfl⟩ hK hP hD hS hA hZ hN h_rd rfl rfl rfl hl.1 rfl (Nat.le_of_ble_eq_true rfl) dX4_step_114 ⟨(show 0 + 0 ≤ 0 by omega), (show 0 + 0 ≤ 0 by omega)⟩) (Nat.le_refl _) (Nat.le_refl _) (fun r H locs hw hP hD hS => ?_)
  obtain rfl := hw
  refine o_put (D := D) (ci := 5) (v := .int (tx_kc T y x kd (tx_fb T n (tx_el2 T n nx + 1)))) (ty := .int) (C := RX4) (T := TX4) (N := 6) (fs1 := [.ref tp, .int (nI (tx_el2 T n nx + 1)), .int (nI y), .int (nI x), .int (tx_kc T y x kd (tx_fb T n (tx_el2 T n nx + 1))), .int kd]) hx hb hts inX4 tyX4 tyX4_ok nmX4 hown hK hP hD hS h_rd rfl 4 (by decide) (hts _ k_139) (fun _ h9 => h9) rfl (by decide +kernel) rfl rfl (Nat.le_of_ble_eq_true rfl) rfl dX4_step_117 (fun g H locs h_rd hu hP hD hS => ?_)
  have h_tp := h_tp.up hu (by decide)
  have h_by := h_by.up hu (by decide)
  have hfr := hfr.up hu (by decide)
  exact o_rv hf hr hlocks hK hP hD hS (show 0 ≤ 0 by omega) (show 0 ≤ 0 by omega) ⟨y, x, ey, ex, hfr, h_rd⟩ dX4_step_120
