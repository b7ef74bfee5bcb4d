/-- how many of the first n -/
noncomputable def pcnt (Q : Nat → Prop) : Nat → Nat
  | 0 => 0
  | n + 1 => pcnt Q n + pb (Q n)
theorem pcnt_1 {Q : Nat → Prop} {n : Nat} (h : Q n) : pcnt Q (n + 1) = pcnt Q n + 1 := by
  show pcnt Q n + pb (Q n) = _
  rw [pb_1 h]
theorem pcnt_0 {Q : Nat → Prop} {n : Nat} (h : ¬ Q n) : pcnt Q (n + 1) = pcnt Q n := by
  show pcnt Q n + pb (Q n) = _
  rw [pb_0 h]
  rfl
theorem pcnt_le (Q : Nat → Prop) : ∀ n, pcnt Q n ≤ n := by
  intro n
  induction n with
  | zero => exact Nat.le_refl _
  | succ n ih =>
    have h := pb_le (Q n)
    show pcnt Q n + pb (Q n) ≤ n + 1
    omega
theorem pcnt_m (Q : Nat → Prop) {a : Nat} : ∀ d, pcnt Q a ≤ pcnt Q (a + d) := by
  intro d
  induction d with
  | zero => exact Nat.le_refl _
  | succ d ih =>
    show pcnt Q a ≤ pcnt Q (a + d) + pb (Q (a + d))
    omega
theorem pcnt_mo (Q : Nat → Prop) {a b : Nat} (h : a ≤ b) : pcnt Q a ≤ pcnt Q b := by
  have h2 := pcnt_m Q (a := a) (b - a)
  rw [show a + (b - a) = b by omega] at h2
  exact h2
/-- piece i is the beginning of an element of kind kd -/
def bgq (EE : Nat → E5) (P : List Q4) (kd : Int32) (i : Nat) : Prop := (P.getD i d4).2.1 = 0 ∧ (EE (P.getD i d4).1).1 = kd
def begq (P : List Q4) (i : Nat) : Prop := (P.getD i d4).2.1 = 0
/-- rows of the pieces ahead of piece n, with the empty rows -/
noncomputable def pspan (EE : Nat → E5) (P : List Q4) : Nat → Nat
  | 0 => 0
  | n + 1 => pspan EE P n + ((P.getD n d4).2.2.1 - (P.getD n d4).2.1) + pb (rp_he (EE (P.getD n d4).1).1 (P.getD n d4).2.1)
theorem pspan_m (EE : Nat → E5) (P : List Q4) {a : Nat} : ∀ d, pspan EE P a ≤ pspan EE P (a + d) := by
  intro d
  induction d with
  | zero => exact Nat.le_refl _
  | succ d ih =>
    show pspan EE P a ≤ pspan EE P (a + d) + _ + _
    omega
theorem pspan_mo (EE : Nat → E5) (P : List Q4) {a b : Nat} (h : a ≤ b) : pspan EE P a ≤ pspan EE P b := by
  have h2 := pspan_m EE P (a := a) (b - a)
  rw [show a + (b - a) = b by omega] at h2
  exact h2
theorem pspan_le (EE : Nat → E5) (P : List Q4) : ∀ n, pspan EE P n ≤ qS P n + n := by
  intro n
  induction n with
  | zero => exact Nat.le_refl _
  | succ n ih =>
    have h := pb_le (rp_he (EE (P.getD n d4).1).1 (P.getD n d4).2.1)
    have h2 := qS_s P n
    show pspan EE P n + _ + _ ≤ _
    omega
abbrev cX7_beginsElementOf : ByteArray := prog_9_method_10_code
def yX7_beginsElementOf : MethodName := ⟨RX7, "beginsElementOf", "(II)Z"⟩
abbrev cX7_sceneCount : ByteArray := prog_9_method_2_code
def yX7_sceneCount : MethodName := ⟨RX7, "sceneCount", "()I"⟩
theorem k_38 : (Cond.selects RX7 yX7_beginsElementOf yX7_beginsElementOf) ∈ gT := gT_i 38 (by decide +kernel) rfl
theorem k_97 : (Cond.initialized RX7) ∈ gT := gT_i 97 (by decide +kernel) rfl
theorem k_230 : (Cond.fieldLink RX7 65 "ScriptDesk$Element" "kind" "I") ∈ gT := gT_i 230 (by decide +kernel) rfl
theorem k_278 : (Cond.fieldLink RX7 42 "ScriptDesk$Piece" "element" "LScriptDesk$Element;") ∈ gT := gT_i 278 (by decide +kernel) rfl
theorem k_425 : (Cond.fieldLink RX7 9 "ScriptDesk$SceneList" "standing" "LScriptDesk$PieceRow;") ∈ gT := gT_i 425 (by decide +kernel) rfl
theorem k_1046 : (Cond.methodLink RX7 15 yX6_size) ∈ gT := gT_i 1046 (by decide +kernel) rfl
theorem k_1047 : (Cond.methodLink RX7 21 yX7_beginsElementOf) ∈ gT := gT_i 1047 (by decide +kernel) rfl
theorem k_1049 : (Cond.instanceMethod yX7_beginsElementOf) ∈ gT := gT_i 1049 (by decide +kernel) rfl
theorem k_1050 : (Cond.code yX7_beginsElementOf cX7_beginsElementOf 4 (some .boolean)) ∈ gT := gT_i 1050 (by decide +kernel) rfl
theorem k_1051 : (Cond.methodLink RX7 25 yX6_at) ∈ gT := gT_i 1051 (by decide +kernel) rfl
theorem k_1052 : (Cond.methodLink RX7 29 yX5_beginsElement) ∈ gT := gT_i 1052 (by decide +kernel) rfl
theorem dX7_beginsElementOf_0 : decode cX7_beginsElementOf 0 = .ok (.aload_n 0, 1) := by decide +kernel
theorem dX7_beginsElementOf_1 : decode cX7_beginsElementOf 1 = .ok (.getfield 9, 3) := by decide +kernel
theorem dX7_beginsElementOf_4 : decode cX7_beginsElementOf 4 = .ok (.iload_n 1, 1) := by decide +kernel
theorem dX7_beginsElementOf_5 : decode cX7_beginsElementOf 5 = .ok (.invokevirtual 25, 3) := by decide +kernel
theorem dX7_beginsElementOf_8 : decode cX7_beginsElementOf 8 = .ok (.astore_n 3, 1) := by decide +kernel
theorem dX7_beginsElementOf_9 : decode cX7_beginsElementOf 9 = .ok (.aload_n 3, 1) := by decide +kernel
theorem dX7_beginsElementOf_10 : decode cX7_beginsElementOf 10 = .ok (.invokevirtual 29, 3) := by decide +kernel
theorem dX7_beginsElementOf_13 : decode cX7_beginsElementOf 13 = .ok (.ifCond .eq 18, 3) := by decide +kernel
theorem dX7_beginsElementOf_16 : decode cX7_beginsElementOf 16 = .ok (.aload_n 3, 1) := by decide +kernel
theorem dX7_beginsElementOf_17 : decode cX7_beginsElementOf 17 = .ok (.getfield 42, 3) := by decide +kernel
theorem dX7_beginsElementOf_20 : decode cX7_beginsElementOf 20 = .ok (.getfield 65, 3) := by decide +kernel
theorem dX7_beginsElementOf_23 : decode cX7_beginsElementOf 23 = .ok (.iload_n 2, 1) := by decide +kernel
theorem dX7_beginsElementOf_24 : decode cX7_beginsElementOf 24 = .ok (.if_icmp .ne 7, 3) := by decide +kernel
theorem dX7_beginsElementOf_31 : decode cX7_beginsElementOf 31 = .ok (.iconst 0, 1) := by decide +kernel
theorem dX7_beginsElementOf_32 : decode cX7_beginsElementOf 32 = .ok (.ireturn, 1) := by decide +kernel
theorem dX7_beginsElementOf_27 : decode cX7_beginsElementOf 27 = .ok (.iconst 1, 1) := by decide +kernel
theorem dX7_beginsElementOf_28 : decode cX7_beginsElementOf 28 = .ok (.goto 4, 3) := by decide +kernel
theorem dX7_sceneCount_4 : decode cX7_sceneCount 4 = .ok (.iload_n 2, 1) := by decide +kernel
theorem dX7_sceneCount_5 : decode cX7_sceneCount 5 = .ok (.aload_n 0, 1) := by decide +kernel
theorem dX7_sceneCount_6 : decode cX7_sceneCount 6 = .ok (.getfield 9, 3) := by decide +kernel
theorem dX7_sceneCount_9 : decode cX7_sceneCount 9 = .ok (.invokevirtual 15, 3) := by decide +kernel
theorem dX7_sceneCount_12 : decode cX7_sceneCount 12 = .ok (.if_icmp .ge 21, 3) := by decide +kernel
theorem dX7_sceneCount_15 : decode cX7_sceneCount 15 = .ok (.aload_n 0, 1) := by decide +kernel
theorem dX7_sceneCount_16 : decode cX7_sceneCount 16 = .ok (.iload_n 2, 1) := by decide +kernel
theorem dX7_sceneCount_17 : decode cX7_sceneCount 17 = .ok (.iconst 0, 1) := by decide +kernel
theorem dX7_sceneCount_18 : decode cX7_sceneCount 18 = .ok (.invokevirtual 21, 3) := by decide +kernel
theorem dX7_sceneCount_21 : decode cX7_sceneCount 21 = .ok (.ifCond .eq 6, 3) := by decide +kernel
theorem dX7_sceneCount_24 : decode cX7_sceneCount 24 = .ok (.iinc 1 1, 3) := by decide +kernel
theorem dX7_sceneCount_27 : decode cX7_sceneCount 27 = .ok (.iinc 2 1, 3) := by decide +kernel
theorem dX7_sceneCount_30 : decode cX7_sceneCount 30 = .ok (.goto (-26), 3) := by decide +kernel
theorem dX7_sceneCount_0 : decode cX7_sceneCount 0 = .ok (.iconst 0, 1) := by decide +kernel
theorem dX7_sceneCount_1 : decode cX7_sceneCount 1 = .ok (.istore_n 1, 1) := by decide +kernel
theorem dX7_sceneCount_2 : decode cX7_sceneCount 2 = .ok (.iconst 0, 1) := by decide +kernel
theorem dX7_sceneCount_3 : decode cX7_sceneCount 3 = .ok (.istore_n 2, 1) := by decide +kernel
theorem dX7_sceneCount_33 : decode cX7_sceneCount 33 = .ok (.iload_n 1, 1) := by decide +kernel
theorem dX7_sceneCount_34 : decode cX7_sceneCount 34 = .ok (.ireturn, 1) := by decide +kernel
set_option maxHeartbeats 1000000 in
set_option maxRecDepth 100000 in
theorem sl_beg (l : Launch) (D : va_G) (z : Nat → Nat) (cB cI_ cO : ClassId) (L0 : List Nat) (g0 : hG) (pr pcs spr nwh cp : Nat) (pa : List Nat) (ea : Nat → Nat) (P : List Q4) (ne : Nat) (EE : Nat → E5) (sl : Nat) (i : Nat) (kd : Int32) (h_pr : ho L0 g0 pr 13 (.inr (7, [.ref pcs, .ref spr, .ref nwh]))) (h_pcs : alR cO (z 0) 14 15 L0 g0 pcs cp pa) (h_pc : pcR L0 g0 ea pa P) (h_es : esR cB cI_ L0 g0 ea ne EE) (h_sl : ho L0 g0 sl 29 (.inr (8, [.ref pr]))) (hpa : pa.length ≤ 20000) (hQ : pq_ok ne EE P) (hi : i < pa.length) : eIs l D yX7_beginsElementOf cX7_beginsElementOf 4 (some .boolean) 4 85 0 0 [.ref sl, .int (nI i), .int kd] z cB cI_ cO L0 g0 (fun r => (bgq EE P kd i ∧ r = 1 ∨ ¬ bgq EE P kd i ∧ r = 0)) := by
  refine o_si (by decide) (Nat.le_of_ble_eq_true rfl) ?_
  intro p e s m below meth c A ls hf hr hlocks hin hK hP hD hS hA hZ hN hl
  obtain ⟨hx, hb, hml, hown, hts⟩ := id hf
  have hl : lv_has ls 4 [(0, .ref sl), (1, .int (nI i)), (2, .int kd)] := hl
  refine lv_aload_n hx hb dX7_beginsElementOf_0 rfl (lv_at hl 0 rfl) ?_
  refine o_get (D := D) (ci := 8) (v := .ref pr) (C := RX7) (T := TX7) (N := 1) hx hb hts inX7 hown hK hP h_sl rfl 0 (by decide) (hts _ k_425) (fun _ h9 => h9) rfl dX7_beginsElementOf_1 ?_
  refine lv_iload_n hx hb dX7_beginsElementOf_4 rfl (lv_at hl 1 rfl) ?_
  refine o_crs (k := 0) (n := 0) hK hP hD hS hA (o_rV (As := [.int (nI i)]) (rest := []) hf (p_atI _ _ _ _ _ _ _ _ pr pcs spr nwh cp pa ea P i h_pr h_pcs h_pc hpa (by omega) _) k_775 k_1051 k_773 k_774 k_92 (nA := 1) (by decide +kernel) ⟨Nat.le_of_ble_eq_true rfl, Nat.le_of_ble_eq_true rfl⟩ hK hP hD hS hA hZ hN h_pr rfl rfl rfl hl.1 rfl (Nat.le_of_ble_eq_true rfl) dX7_beginsElementOf_5 ⟨(show 0 + 0 ≤ 0 by omega), (show 0 + 0 ≤ 0 by omega)⟩) (Nat.le_refl _) (Nat.le_refl _) (fun r H locs hw hP hD hS => ?_)
  obtain rfl := hw
  have h_p1 := h_pc.2 i (by omega)
  have hpl_ := h_pc.1
  have hq_p1 := hQ i (by omega)
  have hr_p1 := h_es.rb hq_p1.1
  refine lv_astore_n (lv' := [(3, .ref (pa.getD i 0)), (0, .ref sl), (1, .int (nI i)), (2, .int kd)]) hx hb dX7_beginsElementOf_8 rfl hl (by decide) rfl (fun ls hl => ?_)
  refine lv_aload_n hx hb dX7_beginsElementOf_9 rfl (lv_at hl 0 rfl) ?_
  refine o_cis (k := 0) (n := 0) hK hP hD hS hA (o_rV (As := []) (rest := []) hf (p_begE _ _ _ _ _ _ _ _ (pa.getD i 0) (ea (P.getD i d4).1) ((P.getD i d4).2.1) ((P.getD i d4).2.2.1) ((P.getD i d4).2.2.2) h_p1 (by omega) _) k_813 k_1052 k_811 k_812 k_93 (nA := 0) (by decide +kernel) ⟨Nat.le_of_ble_eq_true rfl, Nat.le_of_ble_eq_true rfl⟩ hK hP hD hS hA hZ hN h_p1 rfl rfl rfl hl.1 rfl (Nat.le_of_ble_eq_true rfl) dX7_beginsElementOf_10 ⟨(show 0 + 0 ≤ 0 by omega), (show 0 + 0 ≤ 0 by omega)⟩) (Nat.le_refl _) (Nat.le_refl _) (fun r H locs hw hP hD hS => ?_)
  rcases hw with ⟨c_2, rfl⟩ | ⟨c_2, rfl⟩
  · have hP := hP
    refine lv_if_eq (tgt := 31) hx hb dX7_beginsElementOf_13 (by decide) (fun hno => absurd hno (by decide)) (fun _ => ?_)
    refine lv_aload_n hx hb dX7_beginsElementOf_16 rfl (lv_at hl 0 rfl) ?_
    refine o_get (D := D) (ci := 6) (v := .ref (ea (P.getD i d4).1)) (C := RX5) (T := TX5) (N := 4) hx hb hts inX5 hown hK hP h_p1 rfl 0 (by decide) (hts _ k_278) (fun _ h9 => h9) rfl dX7_beginsElementOf_17 ?_
    obtain ⟨tx1, rf1, rt1, h_e1⟩ := h_es.ob hq_p1.1
    refine o_get (D := D) (ci := 2) (v := .int ((EE (P.getD i d4).1).1)) (C := RX1) (T := TX1) (N := 9) hx hb hts inX1 hown hK hP h_e1 rfl 0 (by decide) (hts _ k_230) (fun _ h9 => h9) rfl dX7_beginsElementOf_20 ?_
    refine lv_iload_n hx hb dX7_beginsElementOf_23 rfl (lv_at hl 3 rfl) ?_
    refine lv_icmp_ne (tgt := 31) hx hb dX7_beginsElementOf_24 (by decide) (fun c_3 => ?_) (fun c_3 => ?_)
    · refine lv_iconst (v := 0) hx hb dX7_beginsElementOf_31 (by decide) ?_
      exact o_ri hf hr rfl hlocks hK hP hD hS (show 0 ≤ 0 by omega) (show 0 ≤ 0 by omega) ⟨Or.inr ⟨fun h9 => c_3 h9.2, rfl⟩, rfl, rfl⟩ dX7_beginsElementOf_32
    · refine lv_iconst (v := 1) hx hb dX7_beginsElementOf_27 (by decide) ?_
      refine lv_goto (tgt := 32) hx hb dX7_beginsElementOf_28 (by decide) ?_
      exact o_ri hf hr rfl hlocks hK hP hD hS (show 0 ≤ 0 by omega) (show 0 ≤ 0 by omega) ⟨Or.inl ⟨⟨c_2, c_3⟩, rfl⟩, rfl, rfl⟩ dX7_beginsElementOf_32
  · have hP := hP
    refine lv_if_eq (tgt := 31) hx hb dX7_beginsElementOf_13 (by decide) (fun _ => ?_) (fun hno => absurd hno (by decide))
    refine lv_iconst (v := 0) hx hb dX7_beginsElementOf_31 (by decide) ?_
    exact o_ri hf hr rfl hlocks hK hP hD hS (show 0 ≤ 0 by omega) (show 0 ≤ 0 by omega) ⟨Or.inr ⟨fun h9 => c_2 h9.1, rfl⟩, rfl, rfl⟩ dX7_beginsElementOf_32
set_option maxHeartbeats 1000000 in
set_option maxRecDepth 100000 in
theorem sc_loop {p : Program} {l : Launch} {e : Env} {R : Room} {s : State} {m : MethodId} {args : Array Value} {below : List Frame} {meth : Method} {c : Code} {Q : State → Prop} {D : va_G} {A : Nat → Prop} {z : Nat → Nat} {cB cI_ cO : ClassId} {L0 : List Nat} {g0 : hG} {cells slots : Nat} {pr pcs spr nwh cp : Nat} {pa : List Nat} {ea : Nat → Nat} {P : List Q4} {ne : Nat} {EE : Nat → E5} {sl : Nat} (h_pr : ho L0 g0 pr 13 (.inr (7, [.ref pcs, .ref spr, .ref nwh]))) (h_pcs : alR cO (z 0) 14 15 L0 g0 pcs cp pa) (h_pc : pcR L0 g0 ea pa P) (h_es : esR cB cI_ L0 g0 ea ne EE) (h_sl : ho L0 g0 sl 29 (.inr (8, [.ref pr]))) (hpa : pa.length ≤ 20000) (hQ : pq_ok ne EE P) (hRf : 8 ≤ R.frames) (hRl : 200 ≤ R.locals) (hRc : cells ≤ R.cells) (hRs : slots ≤ R.slots) (hA : ∀ q : Nat, s.heap.size ≤ q → A q) (hf : CallFix p m c cX7_sceneCount 3 s args gT yX7_sceneCount.cls) (hK : va_K D vcl (dT cB cI_ cO) s) (hZ : zA z A s s.heap) (hN : zB z s) :
    ∀ (k : Nat) (i : Nat) (H : Heap) (locs : List Loc) (ls : Array Slot), i + k = pa.length → 0 ≤ i → va_P D vcl (dW L0 g0) H → va_D A (dW L0 g0) → va_S A s.heap H locs → lv_has ls 3 [(2, .int (nI i)), (1, .int (nI ((pcnt (bgq EE P 0) i - pcnt (bgq EE P 0) 0)))), (0, .ref sl)] →
    (∀  (H : Heap) (locs : List Loc) (ls : Array Slot), va_P D vcl (dW L0 g0) H → va_D A (dW L0 g0) → va_S A s.heap H locs → lv_has ls 3 [(1, .int (nI ((pcnt (bgq EE P 0) pa.length - pcnt (bgq EE P 0) 0)))), (0, .ref sl)] → W p l e R s m args below meth c H locs cells slots Q (F0 m 33 ls [])) →
    W p l e R s m args below meth c H locs cells slots Q (F0 m 4 ls []) := by
  obtain ⟨hx, hb, hml, hown, hts⟩ := id hf
  intro k
  induction k with
  | zero =>
    intro i H locs ls hik hfi hP hD hS hl kk
    refine lv_iload_n hx hb dX7_sceneCount_4 rfl (lv_at hl 0 rfl) ?_
    refine lv_aload_n hx hb dX7_sceneCount_5 rfl (lv_at hl 2 rfl) ?_
    refine o_get (D := D) (ci := 8) (v := .ref pr) (C := RX7) (T := TX7) (N := 1) hx hb hts inX7 hown hK hP h_sl rfl 0 (by decide) (hts _ k_425) (fun _ h9 => h9) rfl dX7_sceneCount_6 ?_
    refine o_cis (k := cells) (n := slots) hK hP hD hS hA (o_rV (As := []) (rest := [.int (nI i)]) hf (p_size _ _ _ _ _ _ _ _ pr pcs spr nwh cp pa ea P h_pr h_pcs _) k_691 k_1046 k_689 k_690 k_92 (nA := 0) (by decide +kernel) ⟨Nat.le_trans (by decide) hRf, Nat.le_trans (by decide) hRl⟩ hK hP hD hS hA hZ hN h_pr rfl rfl rfl hl.1 rfl (Nat.le_of_ble_eq_true rfl) dX7_sceneCount_9 ⟨(show cells + 0 ≤ R.cells by omega), (show slots + 0 ≤ R.slots by omega)⟩) (Nat.le_refl _) (Nat.le_refl _) (fun r H locs hw hP hD hS => ?_)
    obtain rfl := hw
    refine lv_icmp_ge (tgt := 33) hx hb dX7_sceneCount_12 (by decide) (fun c_1 => ?_) (fun c_1 => ?_)
    · have c_1 := q_le (a := pa.length) (b := i) (by omega) (by omega) c_1
      have e9 : i = pa.length := by omega
      rw [e9] at hl
      exact kk H locs ls hP hD hS (lv_sub hl (l' := [(1, .int (nI ((pcnt (bgq EE P 0) pa.length - pcnt (bgq EE P 0) 0)))), (0, .ref sl)]) [1, 2] rfl)
    · have c_1 := q_nle (a := pa.length) (b := i) (by omega) (by omega) c_1
      exact False.elim (by omega)
  | succ k ih =>
    intro i H locs ls hik hfi hP hD hS hl kk
    refine lv_iload_n hx hb dX7_sceneCount_4 rfl (lv_at hl 0 rfl) ?_
    refine lv_aload_n hx hb dX7_sceneCount_5 rfl (lv_at hl 2 rfl) ?_
    refine o_get (D := D) (ci := 8) (v := .ref pr) (C := RX7) (T := TX7) (N := 1) hx hb hts inX7 hown hK hP h_sl rfl 0 (by decide) (hts _ k_425) (fun _ h9 => h9) rfl dX7_sceneCount_6 ?_
    refine o_cis (k := cells) (n := slots) hK hP hD hS hA (o_rV (As := []) (rest := [.int (nI i)]) hf (p_size _ _ _ _ _ _ _ _ pr pcs spr nwh cp pa ea P h_pr h_pcs _) k_691 k_1046 k_689 k_690 k_92 (nA := 0) (by decide +kernel) ⟨Nat.le_trans (by decide) hRf, Nat.le_trans (by decide) hRl⟩ hK hP hD hS hA hZ hN h_pr rfl rfl rfl hl.1 rfl (Nat.le_of_ble_eq_true rfl) dX7_sceneCount_9 ⟨(show cells + 0 ≤ R.cells by omega), (show slots + 0 ≤ R.slots by omega)⟩) (Nat.le_refl _) (Nat.le_refl _) (fun r H locs hw hP hD hS => ?_)
    obtain rfl := hw
    refine lv_icmp_ge (tgt := 33) hx hb dX7_sceneCount_12 (by decide) (fun c_1 => ?_) (fun c_1 => ?_)
    · have c_1 := q_le (a := pa.length) (b := i) (by omega) (by omega) c_1
      exact False.elim (by omega)
    · have c_1 := q_nle (a := pa.length) (b := i) (by omega) (by omega) c_1
      have e6 := pcnt_le (bgq EE P 0) i
      have e7 := pcnt_mo (bgq EE P 0) hfi
      refine lv_aload_n hx hb dX7_sceneCount_15 rfl (lv_at hl 2 rfl) ?_
      refine lv_iload_n hx hb dX7_sceneCount_16 rfl (lv_at hl 0 rfl) ?_
      refine lv_iconst (v := 0) hx hb dX7_sceneCount_17 (by decide) ?_
      refine o_cis (k := cells) (n := slots) hK hP hD hS hA (o_rV (As := [.int (nI i), .int 0]) (rest := []) hf (sl_beg _ _ _ _ _ _ _ _ pr pcs spr nwh cp pa ea P ne EE sl i 0 h_pr h_pcs h_pc h_es h_sl hpa hQ (by omega) _) k_1050 k_1047 k_1049 k_38 k_97 (nA := 2) (by decide +kernel) ⟨Nat.le_trans (by decide) hRf, Nat.le_trans (by decide) hRl⟩ hK hP hD hS hA hZ hN h_sl rfl rfl rfl hl.1 rfl (Nat.le_of_ble_eq_true rfl) dX7_sceneCount_18 ⟨(show cells + 0 ≤ R.cells by omega), (show slots + 0 ≤ R.slots by omega)⟩) (Nat.le_refl _) (Nat.le_refl _) (fun r H locs hw hP hD hS => ?_)
      rcases hw with ⟨c_2, rfl⟩ | ⟨c_2, rfl⟩
      · have hP := hP
        refine lv_if_eq (tgt := 27) hx hb dX7_sceneCount_21 (by decide) (fun hno => absurd hno (by decide)) (fun _ => ?_)
        refine lv_iinc (v := nI (pcnt (bgq EE P 0) i + 1 - pcnt (bgq EE P 0) 0)) (lv' := [(1, .int (nI (pcnt (bgq EE P 0) i + 1 - pcnt (bgq EE P 0) 0))), (2, .int (nI i)), (0, .ref sl)]) hx hb dX7_sceneCount_24 hl (k := 1) rfl (nI_addE (a := (pcnt (bgq EE P 0) i - pcnt (bgq EE P 0) 0)) (b := 1) (by omega)) (by decide) rfl (fun ls hl => ?_)
        refine lv_iinc (v := nI (i + 1)) (lv' := [(2, .int (nI (i + 1))), (1, .int (nI (pcnt (bgq EE P 0) i + 1 - pcnt (bgq EE P 0) 0))), (0, .ref sl)]) hx hb dX7_sceneCount_27 hl (k := 1) rfl (nI_addE (a := i) (b := 1) (by omega)) (by decide) rfl (fun ls hl => ?_)
        refine lv_goto (tgt := 4) hx hb dX7_sceneCount_30 (by decide) ?_
        have e8 := pcnt_1 (Q := bgq EE P 0) c_2
        have e7 := pcnt_mo (bgq EE P 0) hfi
        rw [show pcnt (bgq EE P 0) i + 1 - pcnt (bgq EE P 0) 0 = (pcnt (bgq EE P 0) (i + 1) - pcnt (bgq EE P 0) 0) by omega] at hl
        exact ih (i + 1) H locs ls (by omega) (by omega) hP hD hS (lv_sub hl (l' := [(2, .int (nI (i + 1))), (1, .int (nI ((pcnt (bgq EE P 0) (i + 1) - pcnt (bgq EE P 0) 0)))), (0, .ref sl)]) [0, 1, 2] rfl) kk
      · have hP := hP
        refine lv_if_eq (tgt := 27) hx hb dX7_sceneCount_21 (by decide) (fun _ => ?_) (fun hno => absurd hno (by decide))
        refine lv_iinc (v := nI (i + 1)) (lv' := [(2, .int (nI (i + 1))), (1, .int (nI ((pcnt (bgq EE P 0) i - pcnt (bgq EE P 0) 0)))), (0, .ref sl)]) hx hb dX7_sceneCount_27 hl (k := 0) rfl (nI_addE (a := i) (b := 1) (by omega)) (by decide) rfl (fun ls hl => ?_)
        refine lv_goto (tgt := 4) hx hb dX7_sceneCount_30 (by decide) ?_
        have e8 := pcnt_0 (Q := bgq EE P 0) c_2
        have e7 := pcnt_mo (bgq EE P 0) hfi
        rw [show (pcnt (bgq EE P 0) i - pcnt (bgq EE P 0) 0) = (pcnt (bgq EE P 0) (i + 1) - pcnt (bgq EE P 0) 0) by omega] at hl
        exact ih (i + 1) H locs ls (by omega) (by omega) hP hD hS (lv_sub hl (l' := [(2, .int (nI (i + 1))), (1, .int (nI ((pcnt (bgq EE P 0) (i + 1) - pcnt (bgq EE P 0) 0)))), (0, .ref sl)]) [0, 1, 2] rfl) kk
set_option maxHeartbeats 1000000 in
set_option maxRecDepth 100000 in
theorem sl_count (l : Launch) (D : va_G) (z : Nat → Nat) (cB cI_ cO : ClassId) (L0 : List Nat) (g0 : hG) (pr pcs spr nwh cp : Nat) (pa : List Nat) (ea : Nat → Nat) (P : List Q4) (ne : Nat) (EE : Nat → E5) (sl : Nat) (h_pr : ho L0 g0 pr 13 (.inr (7, [.ref pcs, .ref spr, .ref nwh]))) (h_pcs : alR cO (z 0) 14 15 L0 g0 pcs cp pa) (h_pc : pcR L0 g0 ea pa P) (h_es : esR cB cI_ L0 g0 ea ne EE) (h_sl : ho L0 g0 sl 29 (.inr (8, [.ref pr]))) (hpa : pa.length ≤ 20000) (hQ : pq_ok ne EE P) : eIs l D yX7_sceneCount cX7_sceneCount 3 (some .int) 8 200 0 0 [.ref sl] z cB cI_ cO L0 g0 (fun r => r = nI (pcnt (bgq EE P 0) pa.length)) := by
  refine o_si (by decide) (Nat.le_of_ble_eq_true rfl) ?_
  intro p e s m below meth c A ls hf hr hlocks hin hK hP hD hS hA hZ hN hl
  obtain ⟨hx, hb, hml, hown, hts⟩ := id hf
  have hl : lv_has ls 3 [(0, .ref sl)] := hl
  refine lv_iconst (v := 0) hx hb dX7_sceneCount_0 (by decide) ?_
  refine lv_istore_n (lv' := [(1, .int 0), (0, .ref sl)]) hx hb dX7_sceneCount_1 rfl hl (by decide) rfl (fun ls hl => ?_)
  refine lv_iconst (v := 0) hx hb dX7_sceneCount_2 (by decide) ?_
  refine lv_istore_n (lv' := [(2, .int 0), (1, .int 0), (0, .ref sl)]) hx hb dX7_sceneCount_3 rfl hl (by decide) rfl (fun ls hl => ?_)
  refine sc_loop  h_pr h_pcs h_pc h_es h_sl hpa hQ (Nat.le_of_ble_eq_true rfl) (Nat.le_of_ble_eq_true rfl) (show 0 ≤ 0 by omega) (show 0 ≤ 0 by omega) hA hf hK hZ hN pa.length 0 _ _ ls (by omega) (Nat.le_refl _) hP hD hS (lv_sub hl (l' := [(2, .int 0), (1, .int 0), (0, .ref sl)]) [0, 1, 2] rfl) ?_
  · intro H locs ls hP hD hS hl
    refine lv_iload_n hx hb dX7_sceneCount_33 rfl (lv_at hl 0 rfl) ?_
    exact o_ri hf hr rfl hlocks hK hP hD hS (show 0 ≤ 0 by omega) (show 0 ≤ 0 by omega) ⟨rfl, rfl, rfl⟩ dX7_sceneCount_34
