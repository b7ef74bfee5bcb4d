abbrev cX7_hasPerson : ByteArray := prog_9_method_8_code
def yX7_hasPerson : MethodName := ⟨RX7, "hasPerson", "(IILScriptDesk$Element;)Z"⟩
abbrev cX7_peopleIn : ByteArray := prog_9_method_6_code
def yX7_peopleIn : MethodName := ⟨RX7, "peopleIn", "(II)I"⟩
abbrev cX7_personIn : ByteArray := prog_9_method_7_code
def yX7_personIn : MethodName := ⟨RX7, "personIn", "(III)I"⟩
abbrev cX7_tellsSomebodyNew : ByteArray := prog_9_method_9_code
def yX7_tellsSomebodyNew : MethodName := ⟨RX7, "tellsSomebodyNew", "(II)Z"⟩
theorem k_39 : (Cond.selects RX7 yX7_tellsSomebodyNew yX7_tellsSomebodyNew) ∈ gT := gT_i 39 (by decide +kernel) rfl
theorem k_233 : (Cond.fieldLink RX7 54 "ScriptDesk$Element" "number" "I") ∈ gT := gT_i 233 (by decide +kernel) rfl
theorem k_1065 : (Cond.methodLink RX7 51 yX7_tellsSomebodyNew) ∈ gT := gT_i 1065 (by decide +kernel) rfl
theorem k_1067 : (Cond.instanceMethod yX7_tellsSomebodyNew) ∈ gT := gT_i 1067 (by decide +kernel) rfl
theorem k_1068 : (Cond.code yX7_tellsSomebodyNew cX7_tellsSomebodyNew 3 (some .boolean)) ∈ gT := gT_i 1068 (by decide +kernel) rfl
theorem k_1069 : (Cond.methodLink RX7 61 yX7_hasPerson) ∈ gT := gT_i 1069 (by decide +kernel) rfl
theorem k_1070 : (Cond.instanceMethod yX7_hasPerson) ∈ gT := gT_i 1070 (by decide +kernel) rfl
theorem k_1071 : (Cond.selects RX7 yX7_hasPerson yX7_hasPerson) ∈ gT := gT_i 1071 (by decide +kernel) rfl
theorem k_1072 : (Cond.code yX7_hasPerson cX7_hasPerson 5 (some .boolean)) ∈ gT := gT_i 1072 (by decide +kernel) rfl
theorem k_1073 : (Cond.methodLink RX7 57 yX1_hasSameWords) ∈ gT := gT_i 1073 (by decide +kernel) rfl
theorem k_1074 : (Cond.instanceMethod yX1_hasSameWords) ∈ gT := gT_i 1074 (by decide +kernel) rfl
theorem k_1075 : (Cond.selects RX1 yX1_hasSameWords yX1_hasSameWords) ∈ gT := gT_i 1075 (by decide +kernel) rfl
theorem k_1076 : (Cond.code yX1_hasSameWords cX1_hasSameWords 3 (some .boolean)) ∈ gT := gT_i 1076 (by decide +kernel) rfl
theorem dX7_hasPerson_3 : decode cX7_hasPerson 3 = .ok (.iload 4, 2) := by decide +kernel
theorem dX7_hasPerson_5 : decode cX7_hasPerson 5 = .ok (.iload_n 2, 1) := by decide +kernel
theorem dX7_hasPerson_6 : decode cX7_hasPerson 6 = .ok (.if_icmp .ge 40, 3) := by decide +kernel
theorem dX7_hasPerson_9 : decode cX7_hasPerson 9 = .ok (.aload_n 0, 1) := by decide +kernel
theorem dX7_hasPerson_10 : decode cX7_hasPerson 10 = .ok (.iload 4, 2) := by decide +kernel
theorem dX7_hasPerson_12 : decode cX7_hasPerson 12 = .ok (.iconst 2, 1) := by decide +kernel
theorem dX7_hasPerson_13 : decode cX7_hasPerson 13 = .ok (.invokevirtual 21, 3) := by decide +kernel
theorem dX7_hasPerson_16 : decode cX7_hasPerson 16 = .ok (.ifCond .eq 24, 3) := by decide +kernel
theorem dX7_hasPerson_19 : decode cX7_hasPerson 19 = .ok (.aload_n 0, 1) := by decide +kernel
theorem dX7_hasPerson_20 : decode cX7_hasPerson 20 = .ok (.getfield 9, 3) := by decide +kernel
theorem dX7_hasPerson_23 : decode cX7_hasPerson 23 = .ok (.iload 4, 2) := by decide +kernel
theorem dX7_hasPerson_25 : decode cX7_hasPerson 25 = .ok (.invokevirtual 25, 3) := by decide +kernel
theorem dX7_hasPerson_28 : decode cX7_hasPerson 28 = .ok (.getfield 42, 3) := by decide +kernel
theorem dX7_hasPerson_31 : decode cX7_hasPerson 31 = .ok (.aload_n 3, 1) := by decide +kernel
theorem dX7_hasPerson_32 : decode cX7_hasPerson 32 = .ok (.invokevirtual 57, 3) := by decide +kernel
theorem dX7_hasPerson_35 : decode cX7_hasPerson 35 = .ok (.ifCond .eq 5, 3) := by decide +kernel
theorem dX7_hasPerson_40 : decode cX7_hasPerson 40 = .ok (.iinc 4 1, 3) := by decide +kernel
theorem dX7_hasPerson_43 : decode cX7_hasPerson 43 = .ok (.goto (-40), 3) := by decide +kernel
theorem dX7_hasPerson_0 : decode cX7_hasPerson 0 = .ok (.iload_n 1, 1) := by decide +kernel
theorem dX7_hasPerson_1 : decode cX7_hasPerson 1 = .ok (.istore 4, 2) := by decide +kernel
theorem dX7_hasPerson_38 : decode cX7_hasPerson 38 = .ok (.iconst 1, 1) := by decide +kernel
theorem dX7_hasPerson_39 : decode cX7_hasPerson 39 = .ok (.ireturn, 1) := by decide +kernel
theorem dX7_hasPerson_46 : decode cX7_hasPerson 46 = .ok (.iconst 0, 1) := by decide +kernel
theorem dX7_hasPerson_47 : decode cX7_hasPerson 47 = .ok (.ireturn, 1) := by decide +kernel
theorem dX7_tellsSomebodyNew_0 : decode cX7_tellsSomebodyNew 0 = .ok (.aload_n 0, 1) := by decide +kernel
theorem dX7_tellsSomebodyNew_1 : decode cX7_tellsSomebodyNew 1 = .ok (.iload_n 2, 1) := by decide +kernel
theorem dX7_tellsSomebodyNew_2 : decode cX7_tellsSomebodyNew 2 = .ok (.iconst 2, 1) := by decide +kernel
theorem dX7_tellsSomebodyNew_3 : decode cX7_tellsSomebodyNew 3 = .ok (.invokevirtual 21, 3) := by decide +kernel
theorem dX7_tellsSomebodyNew_6 : decode cX7_tellsSomebodyNew 6 = .ok (.ifCond .eq 27, 3) := by decide +kernel
theorem dX7_tellsSomebodyNew_9 : decode cX7_tellsSomebodyNew 9 = .ok (.aload_n 0, 1) := by decide +kernel
theorem dX7_tellsSomebodyNew_10 : decode cX7_tellsSomebodyNew 10 = .ok (.iload_n 1, 1) := by decide +kernel
theorem dX7_tellsSomebodyNew_11 : decode cX7_tellsSomebodyNew 11 = .ok (.iload_n 2, 1) := by decide +kernel
theorem dX7_tellsSomebodyNew_12 : decode cX7_tellsSomebodyNew 12 = .ok (.aload_n 0, 1) := by decide +kernel
theorem dX7_tellsSomebodyNew_13 : decode cX7_tellsSomebodyNew 13 = .ok (.getfield 9, 3) := by decide +kernel
theorem dX7_tellsSomebodyNew_16 : decode cX7_tellsSomebodyNew 16 = .ok (.iload_n 2, 1) := by decide +kernel
theorem dX7_tellsSomebodyNew_17 : decode cX7_tellsSomebodyNew 17 = .ok (.invokevirtual 25, 3) := by decide +kernel
theorem dX7_tellsSomebodyNew_20 : decode cX7_tellsSomebodyNew 20 = .ok (.getfield 42, 3) := by decide +kernel
theorem dX7_tellsSomebodyNew_23 : decode cX7_tellsSomebodyNew 23 = .ok (.invokevirtual 61, 3) := by decide +kernel
theorem dX7_tellsSomebodyNew_26 : decode cX7_tellsSomebodyNew 26 = .ok (.ifCond .ne 7, 3) := by decide +kernel
theorem dX7_tellsSomebodyNew_33 : decode cX7_tellsSomebodyNew 33 = .ok (.iconst 0, 1) := by decide +kernel
theorem dX7_tellsSomebodyNew_34 : decode cX7_tellsSomebodyNew 34 = .ok (.ireturn, 1) := by decide +kernel
theorem dX7_tellsSomebodyNew_29 : decode cX7_tellsSomebodyNew 29 = .ok (.iconst 1, 1) := by decide +kernel
theorem dX7_tellsSomebodyNew_30 : decode cX7_tellsSomebodyNew 30 = .ok (.goto 4, 3) := by decide +kernel
theorem dX7_peopleIn_5 : decode cX7_peopleIn 5 = .ok (.iload 4, 2) := by decide +kernel
theorem dX7_peopleIn_7 : decode cX7_peopleIn 7 = .ok (.iload_n 2, 1) := by decide +kernel
theorem dX7_peopleIn_8 : decode cX7_peopleIn 8 = .ok (.if_icmp .ge 22, 3) := by decide +kernel
theorem dX7_peopleIn_11 : decode cX7_peopleIn 11 = .ok (.aload_n 0, 1) := by decide +kernel
theorem dX7_peopleIn_12 : decode cX7_peopleIn 12 = .ok (.iload_n 1, 1) := by decide +kernel
theorem dX7_peopleIn_13 : decode cX7_peopleIn 13 = .ok (.iload 4, 2) := by decide +kernel
theorem dX7_peopleIn_15 : decode cX7_peopleIn 15 = .ok (.invokevirtual 51, 3) := by decide +kernel
theorem dX7_peopleIn_18 : decode cX7_peopleIn 18 = .ok (.ifCond .eq 6, 3) := by decide +kernel
theorem dX7_peopleIn_21 : decode cX7_peopleIn 21 = .ok (.iinc 3 1, 3) := by decide +kernel
theorem dX7_peopleIn_24 : decode cX7_peopleIn 24 = .ok (.iinc 4 1, 3) := by decide +kernel
theorem dX7_peopleIn_27 : decode cX7_peopleIn 27 = .ok (.goto (-22), 3) := by decide +kernel
theorem dX7_peopleIn_0 : decode cX7_peopleIn 0 = .ok (.iconst 0, 1) := by decide +kernel
theorem dX7_peopleIn_1 : decode cX7_peopleIn 1 = .ok (.istore_n 3, 1) := by decide +kernel
theorem dX7_peopleIn_2 : decode cX7_peopleIn 2 = .ok (.iload_n 1, 1) := by decide +kernel
theorem dX7_peopleIn_3 : decode cX7_peopleIn 3 = .ok (.istore 4, 2) := by decide +kernel
theorem dX7_peopleIn_30 : decode cX7_peopleIn 30 = .ok (.iload_n 3, 1) := by decide +kernel
theorem dX7_peopleIn_31 : decode cX7_peopleIn 31 = .ok (.ireturn, 1) := by decide +kernel
theorem dX7_personIn_6 : decode cX7_personIn 6 = .ok (.iload 5, 2) := by decide +kernel
theorem dX7_personIn_8 : decode cX7_personIn 8 = .ok (.iload_n 2, 1) := by decide +kernel
theorem dX7_personIn_9 : decode cX7_personIn 9 = .ok (.if_icmp .ge 44, 3) := by decide +kernel
theorem dX7_personIn_12 : decode cX7_personIn 12 = .ok (.aload_n 0, 1) := by decide +kernel
theorem dX7_personIn_13 : decode cX7_personIn 13 = .ok (.iload_n 1, 1) := by decide +kernel
theorem dX7_personIn_14 : decode cX7_personIn 14 = .ok (.iload 5, 2) := by decide +kernel
theorem dX7_personIn_16 : decode cX7_personIn 16 = .ok (.invokevirtual 51, 3) := by decide +kernel
theorem dX7_personIn_19 : decode cX7_personIn 19 = .ok (.ifCond .eq 28, 3) := by decide +kernel
theorem dX7_personIn_22 : decode cX7_personIn 22 = .ok (.iload 4, 2) := by decide +kernel
theorem dX7_personIn_24 : decode cX7_personIn 24 = .ok (.iload_n 3, 1) := by decide +kernel
theorem dX7_personIn_25 : decode cX7_personIn 25 = .ok (.if_icmp .ne 19, 3) := by decide +kernel
theorem dX7_personIn_44 : decode cX7_personIn 44 = .ok (.iinc 4 1, 3) := by decide +kernel
theorem dX7_personIn_47 : decode cX7_personIn 47 = .ok (.iinc 5 1, 3) := by decide +kernel
theorem dX7_personIn_50 : decode cX7_personIn 50 = .ok (.goto (-44), 3) := by decide +kernel
theorem dX7_personIn_0 : decode cX7_personIn 0 = .ok (.iconst 0, 1) := by decide +kernel
theorem dX7_personIn_1 : decode cX7_personIn 1 = .ok (.istore 4, 2) := by decide +kernel
theorem dX7_personIn_3 : decode cX7_personIn 3 = .ok (.iload_n 1, 1) := by decide +kernel
theorem dX7_personIn_4 : decode cX7_personIn 4 = .ok (.istore 5, 2) := by decide +kernel
theorem dX7_personIn_28 : decode cX7_personIn 28 = .ok (.aload_n 0, 1) := by decide +kernel
theorem dX7_personIn_29 : decode cX7_personIn 29 = .ok (.getfield 9, 3) := by decide +kernel
theorem dX7_personIn_32 : decode cX7_personIn 32 = .ok (.iload 5, 2) := by decide +kernel
theorem dX7_personIn_34 : decode cX7_personIn 34 = .ok (.invokevirtual 25, 3) := by decide +kernel
theorem dX7_personIn_37 : decode cX7_personIn 37 = .ok (.getfield 42, 3) := by decide +kernel
theorem dX7_personIn_40 : decode cX7_personIn 40 = .ok (.getfield 54, 3) := by decide +kernel
theorem dX7_personIn_43 : decode cX7_personIn 43 = .ok (.ireturn, 1) := by decide +kernel
theorem dX7_personIn_53 : decode cX7_personIn 53 = .ok (.iconst (-1), 1) := by decide +kernel
theorem dX7_personIn_54 : decode cX7_personIn 54 = .ok (.ireturn, 1) := by decide +kernel
set_option maxHeartbeats 1000000 in
set_option maxRecDepth 100000 in
theorem hp_loop {p : Program} {l : Launch} {e : Env} {R : Room} {s : State} {m : MethodId} {args : Array Value} {below : List Frame} {meth : Method} {c : Code} {Q : State → Prop} {D : va_G} {A : Nat → Prop} {z : Nat → Nat} {cB cI_ cO : ClassId} {L0 : List Nat} {g0 : hG} {cells slots : Nat} {pr pcs spr nwh cp : Nat} {pa : List Nat} {ea : Nat → Nat} {P : List Q4} {ne : Nat} {EE : Nat → E5} {sl : Nat} {fm to_ : Nat} {el2 tx2 rf2 rt2 rn2 w2 N2 : Nat} {kd2 nm2 sk2 : Int32} {Y : List Int32} {tg : Nat → Int32} (h_pr : ho L0 g0 pr 13 (.inr (7, [.ref pcs, .ref spr, .ref nwh]))) (h_pcs : alR cO (z 0) 14 15 L0 g0 pcs cp pa) (h_pc : pcR L0 g0 ea pa P) (h_es : esR cB cI_ L0 g0 ea ne EE) (h_sl : ho L0 g0 sl 29 (.inr (8, [.ref pr]))) (h_em : ho L0 g0 el2 9 (.inr (2, [.int kd2, .int nm2, .int sk2, .ref tx2, .int (nI (Y.length)), .int (nI w2), .ref rf2, .ref rt2, .int (nI rn2)]))) (h_ty : ho L0 g0 tx2 10 (.inl (cB, N2, .inl tg))) (hpa : pa.length ≤ 20000) (hQ : pq_ok ne EE P) (hft : fm ≤ to_) (hto : to_ ≤ pa.length) (hY : tx_is Y tg) (hN2 : Y.length ≤ N2) (hN3 : N2 ≤ 1200) (hRf : 6 ≤ R.frames) (hRl : 140 ≤ R.locals) (hRc : cells ≤ R.cells) (hRs : slots ≤ R.slots) (hA : ∀ q : Nat, s.heap.size ≤ q → A q) (hf : CallFix p m c cX7_hasPerson 5 s args gT yX7_hasPerson.cls) (hK : va_K D vcl (dT cB cI_ cO) s) (hZ : zA z A s s.heap) (hN : zB z s) :
    ∀ (k : Nat) (i : Nat) (H : Heap) (locs : List Loc) (ls : Array Slot), i + k = to_ → fm ≤ i → (∀ t, fm ≤ t → t < i → ¬ (bgq EE P 2 t ∧ (EE (P.getD t d4).1).2.2.2.2 = Y)) → va_P D vcl (dW L0 g0) H → va_D A (dW L0 g0) → va_S A s.heap H locs → lv_has ls 5 [(4, .int (nI i)), (0, .ref sl), (2, .int (nI to_)), (3, .ref el2)] →
    (∀  (H : Heap) (locs : List Loc) (ls : Array Slot), hpq EE P Y fm to_ → va_P D vcl (dW L0 g0) H → va_D A (dW L0 g0) → va_S A s.heap H locs → lv_has ls 5 [(0, .ref sl)] → W p l e R s m args below meth c H locs cells slots Q (F0 m 38 ls [])) →
    (∀  (H : Heap) (locs : List Loc) (ls : Array Slot), ¬ hpq EE P Y fm to_ → va_P D vcl (dW L0 g0) H → va_D A (dW L0 g0) → va_S A s.heap H locs → lv_has ls 5 [(0, .ref sl)] → W p l e R s m args below meth c H locs cells slots Q (F0 m 46 ls [])) →
    W p l e R s m args below meth c H locs cells slots Q (F0 m 3 ls []) := by
  obtain ⟨hx, hb, hml, hown, hts⟩ := id hf
  intro k
  induction k with
  | zero =>
    intro i H locs ls hik hfi hno hP hD hS hl kk1 kk0
    refine lv_iload hx hb dX7_hasPerson_3 (lv_at hl 0 rfl) ?_
    refine lv_iload_n hx hb dX7_hasPerson_5 rfl (lv_at hl 2 rfl) ?_
    refine lv_icmp_ge (tgt := 46) hx hb dX7_hasPerson_6 (by decide) (fun c_1 => ?_) (fun c_1 => ?_)
    · have c_1 := q_le (a := to_) (b := i) (by omega) (by omega) c_1
      exact kk0 H locs ls (fun z9 => by obtain ⟨t, h1, h2, h3⟩ := z9; exact hno t h1 (by omega) h3) hP hD hS (lv_sub hl (l' := [(0, .ref sl)]) [1] rfl)
    · have c_1 := q_nle (a := to_) (b := i) (by omega) (by omega) c_1
      exact False.elim (by omega)
  | succ k ih =>
    intro i H locs ls hik hfi hno hP hD hS hl kk1 kk0
    refine lv_iload hx hb dX7_hasPerson_3 (lv_at hl 0 rfl) ?_
    refine lv_iload_n hx hb dX7_hasPerson_5 rfl (lv_at hl 2 rfl) ?_
    refine lv_icmp_ge (tgt := 46) hx hb dX7_hasPerson_6 (by decide) (fun c_1 => ?_) (fun c_1 => ?_)
    · have c_1 := q_le (a := to_) (b := i) (by omega) (by omega) c_1
      exact False.elim (by omega)
    · have c_1 := q_nle (a := to_) (b := i) (by omega) (by omega) c_1
      refine lv_aload_n hx hb dX7_hasPerson_9 rfl (lv_at hl 1 rfl) ?_
      refine lv_iload hx hb dX7_hasPerson_10 (lv_at hl 0 rfl) ?_
      refine lv_iconst (v := 2) hx hb dX7_hasPerson_12 (by decide) ?_
      refine o_cis (k := cells) (n := slots) hK hP hD hS hA (o_rV (As := [.int (nI i), .int 2]) (rest := []) hf (sl_beg _ _ _ _ _ _ _ _ pr pcs spr nwh cp pa ea P ne EE sl i 2 h_pr h_pcs h_pc h_es h_sl hpa hQ (by omega) _) k_1050 k_1047 k_1049 k_38 k_97 (nA := 2) (by decide +kernel) ⟨Nat.le_trans (by decide) hRf, Nat.le_trans (by decide) hRl⟩ hK hP hD hS hA hZ hN h_sl rfl rfl rfl hl.1 rfl (Nat.le_of_ble_eq_true rfl) dX7_hasPerson_13 ⟨(show cells + 0 ≤ R.cells by omega), (show slots + 0 ≤ R.slots by omega)⟩) (Nat.le_refl _) (Nat.le_refl _) (fun r H locs hw hP hD hS => ?_)
      rcases hw with ⟨c_2, rfl⟩ | ⟨c_2, rfl⟩
      · have hP := hP
        refine lv_if_eq (tgt := 40) hx hb dX7_hasPerson_16 (by decide) (fun hno => absurd hno (by decide)) (fun _ => ?_)
        refine lv_aload_n hx hb dX7_hasPerson_19 rfl (lv_at hl 1 rfl) ?_
        refine o_get (D := D) (ci := 8) (v := .ref pr) (C := RX7) (T := TX7) (N := 1) hx hb hts inX7 hown hK hP h_sl rfl 0 (by decide) (hts _ k_425) (fun _ h9 => h9) rfl dX7_hasPerson_20 ?_
        refine lv_iload hx hb dX7_hasPerson_23 (lv_at hl 0 rfl) ?_
        refine o_crs (k := cells) (n := slots) hK hP hD hS hA (o_rV (As := [.int (nI i)]) (rest := []) hf (p_atI _ _ _ _ _ _ _ _ pr pcs spr nwh cp pa ea P i h_pr h_pcs h_pc hpa (by omega) _) k_775 k_1051 k_773 k_774 k_92 (nA := 1) (by decide +kernel) ⟨Nat.le_trans (by decide) hRf, Nat.le_trans (by decide) hRl⟩ hK hP hD hS hA hZ hN h_pr rfl rfl rfl hl.1 rfl (Nat.le_of_ble_eq_true rfl) dX7_hasPerson_25 ⟨(show cells + 0 ≤ R.cells by omega), (show slots + 0 ≤ R.slots by omega)⟩) (Nat.le_refl _) (Nat.le_refl _) (fun r H locs hw hP hD hS => ?_)
        obtain rfl := hw
        have h_p3 := h_pc.2 i (by omega)
        have hpl_ := h_pc.1
        have hq_p3 := hQ i (by omega)
        have hr_p3 := h_es.rb hq_p3.1
        refine o_get (D := D) (ci := 6) (v := .ref (ea (P.getD i d4).1)) (C := RX5) (T := TX5) (N := 4) hx hb hts inX5 hown hK hP h_p3 rfl 0 (by decide) (hts _ k_278) (fun _ h9 => h9) rfl dX7_hasPerson_28 ?_
        obtain ⟨tx3, rf3, rt3, h_e3⟩ := h_es.ob hq_p3.1
        refine lv_aload_n hx hb dX7_hasPerson_31 rfl (lv_at hl 3 rfl) ?_
        obtain ⟨txA, rfA, rtA, N0A, MA, tfA, f1A, f2A, hA1, hA2, _, _, hA5, _, hA7, _⟩ := h_es _ hq_p3.1
        refine o_cis (k := cells) (n := slots) hK hP hD hS hA (o_rV (As := [.ref el2]) (rest := []) hf (l_same _ _ _ _ _ _ _ _ (ea (P.getD i d4).1) txA rfA rtA _ _ el2 tx2 rf2 rt2 rn2 w2 N0A N2 (EE (P.getD i d4).1).1 (EE (P.getD i d4).1).2.1 (EE (P.getD i d4).1).2.2.1 kd2 nm2 sk2 (EE (P.getD i d4).1).2.2.2.2 Y tfA tg hA1 h_em hA2 h_ty hA5 hY hA7.1 hA7.2.1 hN2 hN3 _) k_1076 k_1073 k_1074 k_1075 k_90 (nA := 1) (by decide +kernel) ⟨Nat.le_trans (by decide) hRf, Nat.le_trans (by decide) hRl⟩ hK hP hD hS hA hZ hN h_e3 rfl rfl rfl hl.1 rfl (Nat.le_of_ble_eq_true rfl) dX7_hasPerson_32 ⟨(show cells + 0 ≤ R.cells by omega), (show slots + 0 ≤ R.slots by omega)⟩) (Nat.le_refl _) (Nat.le_refl _) (fun r H locs hw hP hD hS => ?_)
        rcases hw with ⟨c_4, rfl⟩ | ⟨c_4, rfl⟩
        · have hP := hP
          refine lv_if_eq (tgt := 40) hx hb dX7_hasPerson_35 (by decide) (fun hno => absurd hno (by decide)) (fun _ => ?_)
          exact kk1 H locs ls ⟨i, by omega, by omega, c_2, c_4⟩ hP hD hS (lv_sub hl (l' := [(0, .ref sl)]) [1] rfl)
        · have hP := hP
          refine lv_if_eq (tgt := 40) hx hb dX7_hasPerson_35 (by decide) (fun _ => ?_) (fun hno => absurd hno (by decide))
          refine lv_iinc (v := nI (i + 1)) (lv' := [(4, .int (nI (i + 1))), (0, .ref sl), (2, .int (nI to_)), (3, .ref el2)]) hx hb dX7_hasPerson_40 hl (k := 0) rfl (nI_addE (a := i) (b := 1) (by omega)) (by decide) rfl (fun ls hl => ?_)
          refine lv_goto (tgt := 3) hx hb dX7_hasPerson_43 (by decide) ?_
          exact ih (i + 1) H locs ls (by omega) (by omega) (fun t h9 h7 h8 => by by_cases e9 : t = i; (· subst e9; exact c_4 h8.2); exact hno t h9 (by omega) h8) hP hD hS (lv_sub hl (l' := [(4, .int (nI (i + 1))), (0, .ref sl), (2, .int (nI to_)), (3, .ref el2)]) [0, 1, 2, 3] rfl) kk1 kk0
      · have hP := hP
        refine lv_if_eq (tgt := 40) hx hb dX7_hasPerson_16 (by decide) (fun _ => ?_) (fun hno => absurd hno (by decide))
        refine lv_iinc (v := nI (i + 1)) (lv' := [(4, .int (nI (i + 1))), (0, .ref sl), (2, .int (nI to_)), (3, .ref el2)]) hx hb dX7_hasPerson_40 hl (k := 0) rfl (nI_addE (a := i) (b := 1) (by omega)) (by decide) rfl (fun ls hl => ?_)
        refine lv_goto (tgt := 3) hx hb dX7_hasPerson_43 (by decide) ?_
        exact ih (i + 1) H locs ls (by omega) (by omega) (fun t h9 h7 h8 => by by_cases e9 : t = i; (· subst e9; exact c_2 h8.1); exact hno t h9 (by omega) h8) hP hD hS (lv_sub hl (l' := [(4, .int (nI (i + 1))), (0, .ref sl), (2, .int (nI to_)), (3, .ref el2)]) [0, 1, 2, 3] rfl) kk1 kk0
set_option maxHeartbeats 1000000 in
set_option maxRecDepth 100000 in
theorem sl_has (l : Launch) (D : va_G) (z : Nat → Nat) (cB cI_ cO : ClassId) (L0 : List Nat) (g0 : hG) (pr pcs spr nwh cp : Nat) (pa : List Nat) (ea : Nat → Nat) (P : List Q4) (ne : Nat) (EE : Nat → E5) (sl : Nat) (fm to_ : Nat) (el2 tx2 rf2 rt2 rn2 w2 N2 : Nat) (kd2 nm2 sk2 : Int32) (Y : List Int32) (tg : Nat → Int32) (h_pr : ho L0 g0 pr 13 (.inr (7, [.ref pcs, .ref spr, .ref nwh]))) (h_pcs : alR cO (z 0) 14 15 L0 g0 pcs cp pa) (h_pc : pcR L0 g0 ea pa P) (h_es : esR cB cI_ L0 g0 ea ne EE) (h_sl : ho L0 g0 sl 29 (.inr (8, [.ref pr]))) (h_em : ho L0 g0 el2 9 (.inr (2, [.int kd2, .int nm2, .int sk2, .ref tx2, .int (nI (Y.length)), .int (nI w2), .ref rf2, .ref rt2, .int (nI rn2)]))) (h_ty : ho L0 g0 tx2 10 (.inl (cB, N2, .inl tg))) (hpa : pa.length ≤ 20000) (hQ : pq_ok ne EE P) (hft : fm ≤ to_) (hto : to_ ≤ pa.length) (hY : tx_is Y tg) (hN2 : Y.length ≤ N2) (hN3 : N2 ≤ 1200) : eIs l D yX7_hasPerson cX7_hasPerson 5 (some .boolean) 6 140 0 0 [.ref sl, .int (nI fm), .int (nI to_), .ref el2] z cB cI_ cO L0 g0 (fun r => (hpq EE P Y fm to_ ∧ r = 1 ∨ ¬ hpq EE P Y fm to_ ∧ r = 0)) := by
  refine o_si (by decide) (Nat.le_of_ble_eq_true rfl) ?_
  intro p e s m below meth c A ls hf hr hlocks hin hK hP hD hS hA hZ hN hl
  obtain ⟨hx, hb, hml, hown, hts⟩ := id hf
  have hl : lv_has ls 5 [(0, .ref sl), (1, .int (nI fm)), (2, .int (nI to_)), (3, .ref el2)] := hl
  refine lv_iload_n hx hb dX7_hasPerson_0 rfl (lv_at hl 1 rfl) ?_
  refine lv_istore (lv' := [(4, .int (nI fm)), (0, .ref sl), (1, .int (nI fm)), (2, .int (nI to_)), (3, .ref el2)]) hx hb dX7_hasPerson_1 hl (by decide) rfl (fun ls hl => ?_)
  refine hp_loop  h_pr h_pcs h_pc h_es h_sl h_em h_ty hpa hQ hft hto hY hN2 hN3 (Nat.le_of_ble_eq_true rfl) (Nat.le_of_ble_eq_true rfl) (show 0 ≤ 0 by omega) (show 0 ≤ 0 by omega) hA hf hK hZ hN (to_ - fm) fm _ _ ls (by omega) (Nat.le_refl _) (fun t h9 h8 => absurd h8 (by omega)) hP hD hS (lv_sub hl (l' := [(4, .int (nI fm)), (0, .ref sl), (2, .int (nI to_)), (3, .ref el2)]) [0, 1, 3, 4] rfl) ?_ ?_
  · intro H locs ls b1 hP hD hS hl
    refine lv_iconst (v := 1) hx hb dX7_hasPerson_38 (by decide) ?_
    exact o_ri hf hr rfl hlocks hK hP hD hS (show 0 ≤ 0 by omega) (show 0 ≤ 0 by omega) ⟨Or.inl ⟨b1, rfl⟩, rfl, rfl⟩ dX7_hasPerson_39
  · intro H locs ls b1 hP hD hS hl
    refine lv_iconst (v := 0) hx hb dX7_hasPerson_46 (by decide) ?_
    exact o_ri hf hr rfl hlocks hK hP hD hS (show 0 ≤ 0 by omega) (show 0 ≤ 0 by omega) ⟨Or.inr ⟨b1, rfl⟩, rfl, rfl⟩ dX7_hasPerson_47
set_option maxHeartbeats 1000000 in
set_option maxRecDepth 100000 in
theorem sl_new (l : Launch) (D : va_G) (z : Nat → Nat) (cB cI_ cO : ClassId) (L0 : List Nat) (g0 : hG) (pr pcs spr nwh cp : Nat) (pa : List Nat) (ea : Nat → Nat) (P : List Q4) (ne : Nat) (EE : Nat → E5) (sl : Nat) (fm i : Nat) (h_pr : ho L0 g0 pr 13 (.inr (7, [.ref pcs, .ref spr, .ref nwh]))) (h_pcs : alR cO (z 0) 14 15 L0 g0 pcs cp pa) (h_pc : pcR L0 g0 ea pa P) (h_es : esR cB cI_ L0 g0 ea ne EE) (h_sl : ho L0 g0 sl 29 (.inr (8, [.ref pr]))) (hpa : pa.length ≤ 20000) (hQ : pq_ok ne EE P) (hfi : fm ≤ i) (hi : i < pa.length) : eIs l D yX7_tellsSomebodyNew cX7_tellsSomebodyNew 3 (some .boolean) 7 164 0 0 [.ref sl, .int (nI fm), .int (nI i)] z cB cI_ cO L0 g0 (fun r => (nwq EE P fm i ∧ r = 1 ∨ ¬ nwq EE P fm i ∧ r = 0)) := by
  refine o_si (by decide) (Nat.le_of_ble_eq_true rfl) ?_
  intro p e s m below meth c A ls hf hr hlocks hin hK hP hD hS hA hZ hN hl
  obtain ⟨hx, hb, hml, hown, hts⟩ := id hf
  have hl : lv_has ls 3 [(0, .ref sl), (1, .int (nI fm)), (2, .int (nI i))] := hl
  refine lv_aload_n hx hb dX7_tellsSomebodyNew_0 rfl (lv_at hl 0 rfl) ?_
  refine lv_iload_n hx hb dX7_tellsSomebodyNew_1 rfl (lv_at hl 2 rfl) ?_
  refine lv_iconst (v := 2) hx hb dX7_tellsSomebodyNew_2 (by decide) ?_
  refine o_cis (k := 0) (n := 0) hK hP hD hS hA (o_rV (As := [.int (nI i), .int 2]) (rest := []) hf (sl_beg _ _ _ _ _ _ _ _ pr pcs spr nwh cp pa ea P ne EE sl i 2 h_pr h_pcs h_pc h_es h_sl hpa hQ (by omega) _) k_1050 k_1047 k_1049 k_38 k_97 (nA := 2) (by decide +kernel) ⟨Nat.le_of_ble_eq_true rfl, Nat.le_of_ble_eq_true rfl⟩ hK hP hD hS hA hZ hN h_sl rfl rfl rfl hl.1 rfl (Nat.le_of_ble_eq_true rfl) dX7_tellsSomebodyNew_3 ⟨(show 0 + 0 ≤ 0 by omega), (show 0 + 0 ≤ 0 by omega)⟩) (Nat.le_refl _) (Nat.le_refl _) (fun r H locs hw hP hD hS => ?_)
  rcases hw with ⟨c_1, rfl⟩ | ⟨c_1, rfl⟩
  · have hP := hP
    refine lv_if_eq (tgt := 33) hx hb dX7_tellsSomebodyNew_6 (by decide) (fun hno => absurd hno (by decide)) (fun _ => ?_)
    refine lv_aload_n hx hb dX7_tellsSomebodyNew_9 rfl (lv_at hl 0 rfl) ?_
    refine lv_iload_n hx hb dX7_tellsSomebodyNew_10 rfl (lv_at hl 1 rfl) ?_
    refine lv_iload_n hx hb dX7_tellsSomebodyNew_11 rfl (lv_at hl 2 rfl) ?_
    refine lv_aload_n hx hb dX7_tellsSomebodyNew_12 rfl (lv_at hl 0 rfl) ?_
    refine o_get (D := D) (ci := 8) (v := .ref pr) (C := RX7) (T := TX7) (N := 1) hx hb hts inX7 hown hK hP h_sl rfl 0 (by decide) (hts _ k_425) (fun _ h9 => h9) rfl dX7_tellsSomebodyNew_13 ?_
    refine lv_iload_n hx hb dX7_tellsSomebodyNew_16 rfl (lv_at hl 2 rfl) ?_
    refine o_crs (k := 0) (n := 0) hK hP hD hS hA (o_rV (As := [.int (nI i)]) (rest := [.int (nI i), .int (nI fm), .ref sl]) hf (p_atI _ _ _ _ _ _ _ _ pr pcs spr nwh cp pa ea P i h_pr h_pcs h_pc hpa (by omega) _) k_775 k_1051 k_773 k_774 k_92 (nA := 1) (by decide +kernel) ⟨Nat.le_of_ble_eq_true rfl, Nat.le_of_ble_eq_true rfl⟩ hK hP hD hS hA hZ hN h_pr rfl rfl rfl hl.1 rfl (Nat.le_of_ble_eq_true rfl) dX7_tellsSomebodyNew_17 ⟨(show 0 + 0 ≤ 0 by omega), (show 0 + 0 ≤ 0 by omega)⟩) (Nat.le_refl _) (Nat.le_refl _) (fun r H locs hw hP hD hS => ?_)
    obtain rfl := hw
    have h_p2 := h_pc.2 i (by omega)
    have hpl_ := h_pc.1
    have hq_p2 := hQ i (by omega)
    have hr_p2 := h_es.rb hq_p2.1
    refine o_get (D := D) (ci := 6) (v := .ref (ea (P.getD i d4).1)) (C := RX5) (T := TX5) (N := 4) hx hb hts inX5 hown hK hP h_p2 rfl 0 (by decide) (hts _ k_278) (fun _ h9 => h9) rfl dX7_tellsSomebodyNew_20 ?_
    obtain ⟨tx2, rf2, rt2, h_e2⟩ := h_es.ob hq_p2.1
    obtain ⟨txB, rfB, rtB, N0B, MB, tfB, f1B, f2B, hB1, hB2, _, _, hB5, _, hB7, _⟩ := h_es _ hq_p2.1
    refine o_cis (k := 0) (n := 0) hK hP hD hS hA (o_rV (As := [.int (nI fm), .int (nI i), .ref (ea (P.getD i d4).1)]) (rest := []) hf (sl_has _ _ _ _ _ _ _ _ pr pcs spr nwh cp pa ea P ne EE sl fm i (ea (P.getD i d4).1) txB rfB rtB _ _ N0B (EE (P.getD i d4).1).1 (EE (P.getD i d4).1).2.1 (EE (P.getD i d4).1).2.2.1 (EE (P.getD i d4).1).2.2.2.2 tfB h_pr h_pcs h_pc h_es h_sl hB1 hB2 hpa hQ (by omega) (by omega) hB5 hB7.1 hB7.2.1 _) k_1072 k_1069 k_1070 k_1071 k_97 (nA := 3) (by decide +kernel) ⟨Nat.le_of_ble_eq_true rfl, Nat.le_of_ble_eq_true rfl⟩ hK hP hD hS hA hZ hN h_sl rfl rfl rfl hl.1 rfl (Nat.le_of_ble_eq_true rfl) dX7_tellsSomebodyNew_23 ⟨(show 0 + 0 ≤ 0 by omega), (show 0 + 0 ≤ 0 by omega)⟩) (Nat.le_refl _) (Nat.le_refl _) (fun r H locs hw hP hD hS => ?_)
    rcases hw with ⟨c_3, rfl⟩ | ⟨c_3, rfl⟩
    · have hP := hP
      refine lv_if_ne (tgt := 33) hx hb dX7_tellsSomebodyNew_26 (by decide) (fun _ => ?_) (fun hno => absurd hno (by decide))
      refine lv_iconst (v := 0) hx hb dX7_tellsSomebodyNew_33 (by decide) ?_
      exact o_ri hf hr rfl hlocks hK hP hD hS (show 0 ≤ 0 by omega) (show 0 ≤ 0 by omega) ⟨Or.inr ⟨fun h9 => h9.2 c_3, rfl⟩, rfl, rfl⟩ dX7_tellsSomebodyNew_34
    · have hP := hP
      refine lv_if_ne (tgt := 33) hx hb dX7_tellsSomebodyNew_26 (by decide) (fun hno => absurd hno (by decide)) (fun _ => ?_)
      refine lv_iconst (v := 1) hx hb dX7_tellsSomebodyNew_29 (by decide) ?_
      refine lv_goto (tgt := 34) hx hb dX7_tellsSomebodyNew_30 (by decide) ?_
      exact o_ri hf hr rfl hlocks hK hP hD hS (show 0 ≤ 0 by omega) (show 0 ≤ 0 by omega) ⟨Or.inl ⟨⟨c_1, c_3⟩, rfl⟩, rfl, rfl⟩ dX7_tellsSomebodyNew_34
  · have hP := hP
    refine lv_if_eq (tgt := 33) hx hb dX7_tellsSomebodyNew_6 (by decide) (fun _ => ?_) (fun hno => absurd hno (by decide))
    refine lv_iconst (v := 0) hx hb dX7_tellsSomebodyNew_33 (by decide) ?_
    exact o_ri hf hr rfl hlocks hK hP hD hS (show 0 ≤ 0 by omega) (show 0 ≤ 0 by omega) ⟨Or.inr ⟨fun h9 => c_1 h9.1, rfl⟩, rfl, rfl⟩ dX7_tellsSomebodyNew_34
set_option maxHeartbeats 1000000 in
set_option maxRecDepth 100000 in
theorem pi_loop {p : Program} {l : Launch} {e : Env} {R : Room} {s : State} {m : MethodId} {args : Array Value} {below : List Frame} {meth : Method} {c : Code} {Q : State → Prop} {D : va_G} {A : Nat → Prop} {z : Nat → Nat} {cB cI_ cO : ClassId} {L0 : List Nat} {g0 : hG} {cells slots : Nat} {pr pcs spr nwh cp : Nat} {pa : List Nat} {ea : Nat → Nat} {P : List Q4} {ne : Nat} {EE : Nat → E5} {sl : Nat} {fm to_ : Nat} (h_pr : ho L0 g0 pr 13 (.inr (7, [.ref pcs, .ref spr, .ref nwh]))) (h_pcs : alR cO (z 0) 14 15 L0 g0 pcs cp pa) (h_pc : pcR L0 g0 ea pa P) (h_es : esR cB cI_ L0 g0 ea ne EE) (h_sl : ho L0 g0 sl 29 (.inr (8, [.ref pr]))) (hpa : pa.length ≤ 20000) (hQ : pq_ok ne EE P) (hft : fm ≤ to_) (hto : to_ ≤ pa.length) (hRf : 9 ≤ R.frames) (hRl : 240 ≤ R.locals) (hRc : cells ≤ R.cells) (hRs : slots ≤ R.slots) (hA : ∀ q : Nat, s.heap.size ≤ q → A q) (hf : CallFix p m c cX7_peopleIn 5 s args gT yX7_peopleIn.cls) (hK : va_K D vcl (dT cB cI_ cO) s) (hZ : zA z A s s.heap) (hN : zB z s) :
    ∀ (k : Nat) (i : Nat) (H : Heap) (locs : List Loc) (ls : Array Slot), i + k = to_ → fm ≤ i → va_P D vcl (dW L0 g0) H → va_D A (dW L0 g0) → va_S A s.heap H locs → lv_has ls 5 [(4, .int (nI i)), (3, .int (nI ((pcnt (nwq EE P fm) i - pcnt (nwq EE P fm) fm)))), (0, .ref sl), (1, .int (nI fm)), (2, .int (nI to_))] →
    (∀  (H : Heap) (locs : List Loc) (ls : Array Slot), va_P D vcl (dW L0 g0) H → va_D A (dW L0 g0) → va_S A s.heap H locs → lv_has ls 5 [(3, .int (nI ((pcnt (nwq EE P fm) to_ - pcnt (nwq EE P fm) fm)))), (0, .ref sl)] → W p l e R s m args below meth c H locs cells slots Q (F0 m 30 ls [])) →
    W p l e R s m args below meth c H locs cells slots Q (F0 m 5 ls []) := by
  obtain ⟨hx, hb, hml, hown, hts⟩ := id hf
  intro k
  induction k with
  | zero =>
    intro i H locs ls hik hfi hP hD hS hl kk
    refine lv_iload hx hb dX7_peopleIn_5 (lv_at hl 0 rfl) ?_
    refine lv_iload_n hx hb dX7_peopleIn_7 rfl (lv_at hl 4 rfl) ?_
    refine lv_icmp_ge (tgt := 30) hx hb dX7_peopleIn_8 (by decide) (fun c_1 => ?_) (fun c_1 => ?_)
    · have c_1 := q_le (a := to_) (b := i) (by omega) (by omega) c_1
      have e9 : i = to_ := by omega
      rw [e9] at hl
      exact kk H locs ls hP hD hS (lv_sub hl (l' := [(3, .int (nI ((pcnt (nwq EE P fm) to_ - pcnt (nwq EE P fm) fm)))), (0, .ref sl)]) [1, 2] rfl)
    · have c_1 := q_nle (a := to_) (b := i) (by omega) (by omega) c_1
      exact False.elim (by omega)
  | succ k ih =>
    intro i H locs ls hik hfi hP hD hS hl kk
    refine lv_iload hx hb dX7_peopleIn_5 (lv_at hl 0 rfl) ?_
    refine lv_iload_n hx hb dX7_peopleIn_7 rfl (lv_at hl 4 rfl) ?_
    refine lv_icmp_ge (tgt := 30) hx hb dX7_peopleIn_8 (by decide) (fun c_1 => ?_) (fun c_1 => ?_)
    · have c_1 := q_le (a := to_) (b := i) (by omega) (by omega) c_1
      exact False.elim (by omega)
    · have c_1 := q_nle (a := to_) (b := i) (by omega) (by omega) c_1
      have e6 := pcnt_le (nwq EE P fm) i
      have e7 := pcnt_mo (nwq EE P fm) hfi
      refine lv_aload_n hx hb dX7_peopleIn_11 rfl (lv_at hl 2 rfl) ?_
      refine lv_iload_n hx hb dX7_peopleIn_12 rfl (lv_at hl 3 rfl) ?_
      refine lv_iload hx hb dX7_peopleIn_13 (lv_at hl 0 rfl) ?_
      refine o_cis (k := cells) (n := slots) hK hP hD hS hA (o_rV (As := [.int (nI fm), .int (nI i)]) (rest := []) hf (sl_new _ _ _ _ _ _ _ _ pr pcs spr nwh cp pa ea P ne EE sl fm i h_pr h_pcs h_pc h_es h_sl hpa hQ (by omega) (by omega) _) k_1068 k_1065 k_1067 k_39 k_97 (nA := 2) (by decide +kernel) ⟨Nat.le_trans (by decide) hRf, Nat.le_trans (by decide) hRl⟩ hK hP hD hS hA hZ hN h_sl rfl rfl rfl hl.1 rfl (Nat.le_of_ble_eq_true rfl) dX7_peopleIn_15 ⟨(show cells + 0 ≤ R.cells by omega), (show slots + 0 ≤ R.slots by omega)⟩) (Nat.le_refl _) (Nat.le_refl _) (fun r H locs hw hP hD hS => ?_)
      rcases hw with ⟨c_2, rfl⟩ | ⟨c_2, rfl⟩
      · have hP := hP
        refine lv_if_eq (tgt := 24) hx hb dX7_peopleIn_18 (by decide) (fun hno => absurd hno (by decide)) (fun _ => ?_)
        refine lv_iinc (v := nI (pcnt (nwq EE P fm) i + 1 - pcnt (nwq EE P fm) fm)) (lv' := [(3, .int (nI (pcnt (nwq EE P fm) i + 1 - pcnt (nwq EE P fm) fm))), (4, .int (nI i)), (0, .ref sl), (1, .int (nI fm)), (2, .int (nI to_))]) hx hb dX7_peopleIn_21 hl (k := 1) rfl (nI_addE (a := (pcnt (nwq EE P fm) i - pcnt (nwq EE P fm) fm)) (b := 1) (by omega)) (by decide) rfl (fun ls hl => ?_)
        refine lv_iinc (v := nI (i + 1)) (lv' := [(4, .int (nI (i + 1))), (3, .int (nI (pcnt (nwq EE P fm) i + 1 - pcnt (nwq EE P fm) fm))), (0, .ref sl), (1, .int (nI fm)), (2, .int (nI to_))]) hx hb dX7_peopleIn_24 hl (k := 1) rfl (nI_addE (a := i) (b := 1) (by omega)) (by decide) rfl (fun ls hl => ?_)
        refine lv_goto (tgt := 5) hx hb dX7_peopleIn_27 (by decide) ?_
        have e8 := pcnt_1 (Q := nwq EE P fm) c_2
        have e7 := pcnt_mo (nwq EE P fm) hfi
        rw [show pcnt (nwq EE P fm) i + 1 - pcnt (nwq EE P fm) fm = (pcnt (nwq EE P fm) (i + 1) - pcnt (nwq EE P fm) fm) by omega] at hl
        exact ih (i + 1) H locs ls (by omega) (by omega) hP hD hS (lv_sub hl (l' := [(4, .int (nI (i + 1))), (3, .int (nI ((pcnt (nwq EE P fm) (i + 1) - pcnt (nwq EE P fm) fm)))), (0, .ref sl), (1, .int (nI fm)), (2, .int (nI to_))]) [0, 1, 2, 3, 4] rfl) kk
      · have hP := hP
        refine lv_if_eq (tgt := 24) hx hb dX7_peopleIn_18 (by decide) (fun _ => ?_) (fun hno => absurd hno (by decide))
        refine lv_iinc (v := nI (i + 1)) (lv' := [(4, .int (nI (i + 1))), (3, .int (nI ((pcnt (nwq EE P fm) i - pcnt (nwq EE P fm) fm)))), (0, .ref sl), (1, .int (nI fm)), (2, .int (nI to_))]) hx hb dX7_peopleIn_24 hl (k := 0) rfl (nI_addE (a := i) (b := 1) (by omega)) (by decide) rfl (fun ls hl => ?_)
        refine lv_goto (tgt := 5) hx hb dX7_peopleIn_27 (by decide) ?_
        have e8 := pcnt_0 (Q := nwq EE P fm) c_2
        have e7 := pcnt_mo (nwq EE P fm) hfi
        rw [show (pcnt (nwq EE P fm) i - pcnt (nwq EE P fm) fm) = (pcnt (nwq EE P fm) (i + 1) - pcnt (nwq EE P fm) fm) by omega] at hl
        exact ih (i + 1) H locs ls (by omega) (by omega) hP hD hS (lv_sub hl (l' := [(4, .int (nI (i + 1))), (3, .int (nI ((pcnt (nwq EE P fm) (i + 1) - pcnt (nwq EE P fm) fm)))), (0, .ref sl), (1, .int (nI fm)), (2, .int (nI to_))]) [0, 1, 2, 3, 4] rfl) kk
set_option maxHeartbeats 1000000 in
set_option maxRecDepth 100000 in
theorem sl_people (l : Launch) (D : va_G) (z : Nat → Nat) (cB cI_ cO : ClassId) (L0 : List Nat) (g0 : hG) (pr pcs spr nwh cp : Nat) (pa : List Nat) (ea : Nat → Nat) (P : List Q4) (ne : Nat) (EE : Nat → E5) (sl : Nat) (fm to_ : Nat) (h_pr : ho L0 g0 pr 13 (.inr (7, [.ref pcs, .ref spr, .ref nwh]))) (h_pcs : alR cO (z 0) 14 15 L0 g0 pcs cp pa) (h_pc : pcR L0 g0 ea pa P) (h_es : esR cB cI_ L0 g0 ea ne EE) (h_sl : ho L0 g0 sl 29 (.inr (8, [.ref pr]))) (hpa : pa.length ≤ 20000) (hQ : pq_ok ne EE P) (hft : fm ≤ to_) (hto : to_ ≤ pa.length) : eIs l D yX7_peopleIn cX7_peopleIn 5 (some .int) 9 240 0 0 [.ref sl, .int (nI fm), .int (nI to_)] z cB cI_ cO L0 g0 (fun r => r = nI (pcnt (nwq EE P fm) to_ - pcnt (nwq EE P fm) fm)) := by
  refine o_si (by decide) (Nat.le_of_ble_eq_true rfl) ?_
  intro p e s m below meth c A ls hf hr hlocks hin hK hP hD hS hA hZ hN hl
  obtain ⟨hx, hb, hml, hown, hts⟩ := id hf
  have hl : lv_has ls 5 [(0, .ref sl), (1, .int (nI fm)), (2, .int (nI to_))] := hl
  refine lv_iconst (v := 0) hx hb dX7_peopleIn_0 (by decide) ?_
  refine lv_istore_n (lv' := [(3, .int 0), (0, .ref sl), (1, .int (nI fm)), (2, .int (nI to_))]) hx hb dX7_peopleIn_1 rfl hl (by decide) rfl (fun ls hl => ?_)
  refine lv_iload_n hx hb dX7_peopleIn_2 rfl (lv_at hl 2 rfl) ?_
  refine lv_istore (lv' := [(4, .int (nI fm)), (3, .int 0), (0, .ref sl), (1, .int (nI fm)), (2, .int (nI to_))]) hx hb dX7_peopleIn_3 hl (by decide) rfl (fun ls hl => ?_)
  have e0 : (.int (nI (pcnt (nwq EE P fm) fm - pcnt (nwq EE P fm) fm)) : Value) = .int 0 := by rw [Nat.sub_self]; rfl
  have hl : lv_has ls 5 [(4, .int (nI fm)), (3, .int (nI ((pcnt (nwq EE P fm) fm - pcnt (nwq EE P fm) fm)))), (0, .ref sl), (1, .int (nI fm)), (2, .int (nI to_))] := by rw [e0]; exact lv_sub hl (l' := [(4, .int (nI fm)), (3, .int 0), (0, .ref sl), (1, .int (nI fm)), (2, .int (nI to_))]) [0, 1, 2, 3, 4] rfl
  refine pi_loop  h_pr h_pcs h_pc h_es h_sl hpa hQ hft hto (Nat.le_of_ble_eq_true rfl) (Nat.le_of_ble_eq_true rfl) (show 0 ≤ 0 by omega) (show 0 ≤ 0 by omega) hA hf hK hZ hN (to_ - fm) fm _ _ ls (by omega) (Nat.le_refl _) hP hD hS (lv_sub hl (l' := [(4, .int (nI fm)), (3, .int (nI ((pcnt (nwq EE P fm) fm - pcnt (nwq EE P fm) fm)))), (0, .ref sl), (1, .int (nI fm)), (2, .int (nI to_))]) [0, 1, 2, 3, 4] rfl) ?_
  · intro H locs ls hP hD hS hl
    refine lv_iload_n hx hb dX7_peopleIn_30 rfl (lv_at hl 0 rfl) ?_
    exact o_ri hf hr rfl hlocks hK hP hD hS (show 0 ≤ 0 by omega) (show 0 ≤ 0 by omega) ⟨rfl, rfl, rfl⟩ dX7_peopleIn_31
set_option maxHeartbeats 1000000 in
set_option maxRecDepth 100000 in
theorem pj_loop {p : Program} {l : Launch} {e : Env} {R : Room} {s : State} {m : MethodId} {args : Array Value} {below : List Frame} {meth : Method} {c : Code} {Q : State → Prop} {D : va_G} {A : Nat → Prop} {z : Nat → Nat} {cB cI_ cO : ClassId} {L0 : List Nat} {g0 : hG} {cells slots : Nat} {pr pcs spr nwh cp : Nat} {pa : List Nat} {ea : Nat → Nat} {P : List Q4} {ne : Nat} {EE : Nat → E5} {sl : Nat} {fm to_ : Nat} {wt : Nat} (h_pr : ho L0 g0 pr 13 (.inr (7, [.ref pcs, .ref spr, .ref nwh]))) (h_pcs : alR cO (z 0) 14 15 L0 g0 pcs cp pa) (h_pc : pcR L0 g0 ea pa P) (h_es : esR cB cI_ L0 g0 ea ne EE) (h_sl : ho L0 g0 sl 29 (.inr (8, [.ref pr]))) (hpa : pa.length ≤ 20000) (hQ : pq_ok ne EE P) (hft : fm ≤ to_) (hto : to_ ≤ pa.length) (hwt : wt < 2 ^ 31) (hRf : 9 ≤ R.frames) (hRl : 240 ≤ R.locals) (hRc : cells ≤ R.cells) (hRs : slots ≤ R.slots) (hA : ∀ q : Nat, s.heap.size ≤ q → A q) (hf : CallFix p m c cX7_personIn 6 s args gT yX7_personIn.cls) (hK : va_K D vcl (dT cB cI_ cO) s) (hZ : zA z A s s.heap) (hN : zB z s) :
    ∀ (k : Nat) (i : Nat) (H : Heap) (locs : List Loc) (ls : Array Slot), i + k = to_ → fm ≤ i → (∀ t, fm ≤ t → t < i → nwq EE P fm t → ¬ (pcnt (nwq EE P fm) t - pcnt (nwq EE P fm) fm) = wt) → va_P D vcl (dW L0 g0) H → va_D A (dW L0 g0) → va_S A s.heap H locs → lv_has ls 6 [(5, .int (nI i)), (4, .int (nI ((pcnt (nwq EE P fm) i - pcnt (nwq EE P fm) fm)))), (0, .ref sl), (1, .int (nI fm)), (2, .int (nI to_)), (3, .int (nI wt))] →
    (∀ (t : Nat) (H : Heap) (locs : List Loc) (ls : Array Slot), (fm ≤ t ∧ t < to_ ∧ nwq EE P fm t ∧ (pcnt (nwq EE P fm) t - pcnt (nwq EE P fm) fm) = wt) → va_P D vcl (dW L0 g0) H → va_D A (dW L0 g0) → va_S A s.heap H locs → lv_has ls 6 [(5, .int (nI t)), (0, .ref sl)] → W p l e R s m args below meth c H locs cells slots Q (F0 m 28 ls [])) →
    (∀  (H : Heap) (locs : List Loc) (ls : Array Slot), (∀ t, fm ≤ t → t < to_ → nwq EE P fm t → ¬ (pcnt (nwq EE P fm) t - pcnt (nwq EE P fm) fm) = wt) → va_P D vcl (dW L0 g0) H → va_D A (dW L0 g0) → va_S A s.heap H locs → lv_has ls 6 [(0, .ref sl)] → W p l e R s m args below meth c H locs cells slots Q (F0 m 53 ls [])) →
    W p l e R s m args below meth c H locs cells slots Q (F0 m 6 ls []) := by
  obtain ⟨hx, hb, hml, hown, hts⟩ := id hf
  intro k
  induction k with
  | zero =>
    intro i H locs ls hik hfi hno hP hD hS hl kk1 kk0
    refine lv_iload hx hb dX7_personIn_6 (lv_at hl 0 rfl) ?_
    refine lv_iload_n hx hb dX7_personIn_8 rfl (lv_at hl 4 rfl) ?_
    refine lv_icmp_ge (tgt := 53) hx hb dX7_personIn_9 (by decide) (fun c_1 => ?_) (fun c_1 => ?_)
    · have c_1 := q_le (a := to_) (b := i) (by omega) (by omega) c_1
      exact kk0 H locs ls (fun t h9 h7 h8 => hno t h9 (by omega) h8) hP hD hS (lv_sub hl (l' := [(0, .ref sl)]) [2] rfl)
    · have c_1 := q_nle (a := to_) (b := i) (by omega) (by omega) c_1
      exact False.elim (by omega)
  | succ k ih =>
    intro i H locs ls hik hfi hno hP hD hS hl kk1 kk0
    refine lv_iload hx hb dX7_personIn_6 (lv_at hl 0 rfl) ?_
    refine lv_iload_n hx hb dX7_personIn_8 rfl (lv_at hl 4 rfl) ?_
    refine lv_icmp_ge (tgt := 53) hx hb dX7_personIn_9 (by decide) (fun c_1 => ?_) (fun c_1 => ?_)
    · have c_1 := q_le (a := to_) (b := i) (by omega) (by omega) c_1
      exact False.elim (by omega)
    · have c_1 := q_nle (a := to_) (b := i) (by omega) (by omega) c_1
      have e6 := pcnt_le (nwq EE P fm) i
      have e7 := pcnt_mo (nwq EE P fm) hfi
      refine lv_aload_n hx hb dX7_personIn_12 rfl (lv_at hl 2 rfl) ?_
      refine lv_iload_n hx hb dX7_personIn_13 rfl (lv_at hl 3 rfl) ?_
      refine lv_iload hx hb dX7_personIn_14 (lv_at hl 0 rfl) ?_
      refine o_cis (k := cells) (n := slots) hK hP hD hS hA (o_rV (As := [.int (nI fm), .int (nI i)]) (rest := []) hf (sl_new _ _ _ _ _ _ _ _ pr pcs spr nwh cp pa ea P ne EE sl fm i h_pr h_pcs h_pc h_es h_sl hpa hQ (by omega) (by omega) _) k_1068 k_1065 k_1067 k_39 k_97 (nA := 2) (by decide +kernel) ⟨Nat.le_trans (by decide) hRf, Nat.le_trans (by decide) hRl⟩ hK hP hD hS hA hZ hN h_sl rfl rfl rfl hl.1 rfl (Nat.le_of_ble_eq_true rfl) dX7_personIn_16 ⟨(show cells + 0 ≤ R.cells by omega), (show slots + 0 ≤ R.slots by omega)⟩) (Nat.le_refl _) (Nat.le_refl _) (fun r H locs hw hP hD hS => ?_)
      rcases hw with ⟨c_2, rfl⟩ | ⟨c_2, rfl⟩
      · have hP := hP
        refine lv_if_eq (tgt := 47) hx hb dX7_personIn_19 (by decide) (fun hno => absurd hno (by decide)) (fun _ => ?_)
        refine lv_iload hx hb dX7_personIn_22 (lv_at hl 1 rfl) ?_
        refine lv_iload_n hx hb dX7_personIn_24 rfl (lv_at hl 5 rfl) ?_
        refine lv_icmp_ne (tgt := 44) hx hb dX7_personIn_25 (by decide) (fun c_3 => ?_) (fun c_3 => ?_)
        · have c_3 := q_nen (a := (pcnt (nwq EE P fm) i - pcnt (nwq EE P fm) fm)) (b := wt) (by omega) (by omega) c_3
          refine lv_iinc (v := nI (pcnt (nwq EE P fm) i + 1 - pcnt (nwq EE P fm) fm)) (lv' := [(4, .int (nI (pcnt (nwq EE P fm) i + 1 - pcnt (nwq EE P fm) fm))), (5, .int (nI i)), (0, .ref sl), (1, .int (nI fm)), (2, .int (nI to_)), (3, .int (nI wt))]) hx hb dX7_personIn_44 hl (k := 1) rfl (nI_addE (a := (pcnt (nwq EE P fm) i - pcnt (nwq EE P fm) fm)) (b := 1) (by omega)) (by decide) rfl (fun ls hl => ?_)
          refine lv_iinc (v := nI (i + 1)) (lv' := [(5, .int (nI (i + 1))), (4, .int (nI (pcnt (nwq EE P fm) i + 1 - pcnt (nwq EE P fm) fm))), (0, .ref sl), (1, .int (nI fm)), (2, .int (nI to_)), (3, .int (nI wt))]) hx hb dX7_personIn_47 hl (k := 1) rfl (nI_addE (a := i) (b := 1) (by omega)) (by decide) rfl (fun ls hl => ?_)
          refine lv_goto (tgt := 6) hx hb dX7_personIn_50 (by decide) ?_
          have e8 := pcnt_1 (Q := nwq EE P fm) c_2
          rw [show pcnt (nwq EE P fm) i + 1 - pcnt (nwq EE P fm) fm = (pcnt (nwq EE P fm) (i + 1) - pcnt (nwq EE P fm) fm) by omega] at hl
          exact ih (i + 1) H locs ls (by omega) (by omega) (fun t h9 h7 h8 => by by_cases e9 : t = i; (· subst e9; omega); exact hno t h9 (by omega) h8) hP hD hS (lv_sub hl (l' := [(5, .int (nI (i + 1))), (4, .int (nI ((pcnt (nwq EE P fm) (i + 1) - pcnt (nwq EE P fm) fm)))), (0, .ref sl), (1, .int (nI fm)), (2, .int (nI to_)), (3, .int (nI wt))]) [0, 1, 2, 3, 4, 5] rfl) kk1 kk0
        · have c_3 := q_eqn (a := (pcnt (nwq EE P fm) i - pcnt (nwq EE P fm) fm)) (b := wt) (by omega) (by omega) c_3
          exact kk1 i H locs ls ⟨hfi, by omega, c_2, by omega⟩ hP hD hS (lv_sub hl (l' := [(5, .int (nI i)), (0, .ref sl)]) [0, 2] rfl)
      · have hP := hP
        refine lv_if_eq (tgt := 47) hx hb dX7_personIn_19 (by decide) (fun _ => ?_) (fun hno => absurd hno (by decide))
        refine lv_iinc (v := nI (i + 1)) (lv' := [(5, .int (nI (i + 1))), (4, .int (nI ((pcnt (nwq EE P fm) i - pcnt (nwq EE P fm) fm)))), (0, .ref sl), (1, .int (nI fm)), (2, .int (nI to_)), (3, .int (nI wt))]) hx hb dX7_personIn_47 hl (k := 0) rfl (nI_addE (a := i) (b := 1) (by omega)) (by decide) rfl (fun ls hl => ?_)
        refine lv_goto (tgt := 6) hx hb dX7_personIn_50 (by decide) ?_
        have e8 := pcnt_0 (Q := nwq EE P fm) c_2
        rw [show (pcnt (nwq EE P fm) i - pcnt (nwq EE P fm) fm) = (pcnt (nwq EE P fm) (i + 1) - pcnt (nwq EE P fm) fm) by omega] at hl
        exact ih (i + 1) H locs ls (by omega) (by omega) (fun t h9 h7 h8 => by by_cases e9 : t = i; (· subst e9; exact absurd h8 c_2); exact hno t h9 (by omega) h8) hP hD hS (lv_sub hl (l' := [(5, .int (nI (i + 1))), (4, .int (nI ((pcnt (nwq EE P fm) (i + 1) - pcnt (nwq EE P fm) fm)))), (0, .ref sl), (1, .int (nI fm)), (2, .int (nI to_)), (3, .int (nI wt))]) [0, 1, 2, 3, 4, 5] rfl) kk1 kk0
set_option maxHeartbeats 1000000 in
set_option maxRecDepth 100000 in
theorem sl_person (l : Launch) (D : va_G) (z : Nat → Nat) (cB cI_ cO : ClassId) (L0 : List Nat) (g0 : hG) (pr pcs spr nwh cp : Nat) (pa : List Nat) (ea : Nat → Nat) (P : List Q4) (ne : Nat) (EE : Nat → E5) (sl : Nat) (fm to_ wt : Nat) (h_pr : ho L0 g0 pr 13 (.inr (7, [.ref pcs, .ref spr, .ref nwh]))) (h_pcs : alR cO (z 0) 14 15 L0 g0 pcs cp pa) (h_pc : pcR L0 g0 ea pa P) (h_es : esR cB cI_ L0 g0 ea ne EE) (h_sl : ho L0 g0 sl 29 (.inr (8, [.ref pr]))) (hpa : pa.length ≤ 20000) (hQ : pq_ok ne EE P) (hft : fm ≤ to_) (hto : to_ ≤ pa.length) (hwt : wt < 2 ^ 31) : eIs l D yX7_personIn cX7_personIn 6 (some .int) 9 240 0 0 [.ref sl, .int (nI fm), .int (nI to_), .int (nI wt)] z cB cI_ cO L0 g0 (fun r => ((∃ t, (fm ≤ t ∧ t < to_ ∧ nwq EE P fm t ∧ (pcnt (nwq EE P fm) t - pcnt (nwq EE P fm) fm) = wt) ∧ r = (EE (P.getD t d4).1).2.1) ∨ ((∀ t, fm ≤ t → t < to_ → nwq EE P fm t → ¬ (pcnt (nwq EE P fm) t - pcnt (nwq EE P fm) fm) = wt) ∧ r = -1))) := by
  refine o_si (by decide) (Nat.le_of_ble_eq_true rfl) ?_
  intro p e s m below meth c A ls hf hr hlocks hin hK hP hD hS hA hZ hN hl
  obtain ⟨hx, hb, hml, hown, hts⟩ := id hf
  have hl : lv_has ls 6 [(0, .ref sl), (1, .int (nI fm)), (2, .int (nI to_)), (3, .int (nI wt))] := hl
  refine lv_iconst (v := 0) hx hb dX7_personIn_0 (by decide) ?_
  refine lv_istore (lv' := [(4, .int 0), (0, .ref sl), (1, .int (nI fm)), (2, .int (nI to_)), (3, .int (nI wt))]) hx hb dX7_personIn_1 hl (by decide) rfl (fun ls hl => ?_)
  refine lv_iload_n hx hb dX7_personIn_3 rfl (lv_at hl 2 rfl) ?_
  refine lv_istore (lv' := [(5, .int (nI fm)), (4, .int 0), (0, .ref sl), (1, .int (nI fm)), (2, .int (nI to_)), (3, .int (nI wt))]) hx hb dX7_personIn_4 hl (by decide) rfl (fun ls hl => ?_)
  have e0 : (.int (nI (pcnt (nwq EE P fm) fm - pcnt (nwq EE P fm) fm)) : Value) = .int 0 := by rw [Nat.sub_self]; rfl
  have hl : lv_has ls 6 [(5, .int (nI fm)), (4, .int (nI ((pcnt (nwq EE P fm) fm - pcnt (nwq EE P fm) fm)))), (0, .ref sl), (1, .int (nI fm)), (2, .int (nI to_)), (3, .int (nI wt))] := by rw [e0]; exact lv_sub hl (l' := [(5, .int (nI fm)), (4, .int 0), (0, .ref sl), (1, .int (nI fm)), (2, .int (nI to_)), (3, .int (nI wt))]) [0, 1, 2, 3, 4, 5] rfl
  refine pj_loop  h_pr h_pcs h_pc h_es h_sl hpa hQ hft hto hwt (Nat.le_of_ble_eq_true rfl) (Nat.le_of_ble_eq_true rfl) (show 0 ≤ 0 by omega) (show 0 ≤ 0 by omega) hA hf hK hZ hN (to_ - fm) fm _ _ ls (by omega) (Nat.le_refl _) (fun t h9 h8 => absurd h8 (by omega)) hP hD hS (lv_sub hl (l' := [(5, .int (nI fm)), (4, .int (nI ((pcnt (nwq EE P fm) fm - pcnt (nwq EE P fm) fm)))), (0, .ref sl), (1, .int (nI fm)), (2, .int (nI to_)), (3, .int (nI wt))]) [0, 1, 2, 3, 4, 5] rfl) ?_ ?_
  · intro t H locs ls b1 hP hD hS hl
    have hb1 := b1.2.1
    refine lv_aload_n hx hb dX7_personIn_28 rfl (lv_at hl 1 rfl) ?_
    refine o_get (D := D) (ci := 8) (v := .ref pr) (C := RX7) (T := TX7) (N := 1) hx hb hts inX7 hown hK hP h_sl rfl 0 (by decide) (hts _ k_425) (fun _ h9 => h9) rfl dX7_personIn_29 ?_
    refine lv_iload hx hb dX7_personIn_32 (lv_at hl 0 rfl) ?_
    refine o_crs (k := 0) (n := 0) hK hP hD hS hA (o_rV (As := [.int (nI t)]) (rest := []) hf (p_atI _ _ _ _ _ _ _ _ pr pcs spr nwh cp pa ea P t h_pr h_pcs h_pc hpa (by omega) _) k_775 k_1051 k_773 k_774 k_92 (nA := 1) (by decide +kernel) ⟨Nat.le_of_ble_eq_true rfl, Nat.le_of_ble_eq_true rfl⟩ hK hP hD hS hA hZ hN h_pr rfl rfl rfl hl.1 rfl (Nat.le_of_ble_eq_true rfl) dX7_personIn_34 ⟨(show 0 + 0 ≤ 0 by omega), (show 0 + 0 ≤ 0 by omega)⟩) (Nat.le_refl _) (Nat.le_refl _) (fun r H locs hw hP hD hS => ?_)
    obtain rfl := hw
    have h_p1 := h_pc.2 t (by omega)
    have hpl_ := h_pc.1
    have hq_p1 := hQ t (by omega)
    have hr_p1 := h_es.rb hq_p1.1
    refine o_get (D := D) (ci := 6) (v := .ref (ea (P.getD t d4).1)) (C := RX5) (T := TX5) (N := 4) hx hb hts inX5 hown hK hP h_p1 rfl 0 (by decide) (hts _ k_278) (fun _ h9 => h9) rfl dX7_personIn_37 ?_
    obtain ⟨tx1, rf1, rt1, h_e1⟩ := h_es.ob hq_p1.1
    refine o_get (D := D) (ci := 2) (v := .int ((EE (P.getD t d4).1).2.1)) (C := RX1) (T := TX1) (N := 9) hx hb hts inX1 hown hK hP h_e1 rfl 1 (by decide) (hts _ k_233) (fun _ h9 => h9) rfl dX7_personIn_40 ?_
    exact o_ri hf hr rfl hlocks hK hP hD hS (show 0 ≤ 0 by omega) (show 0 ≤ 0 by omega) ⟨Or.inl ⟨t, b1, rfl⟩, rfl, rfl⟩ dX7_personIn_43
  · intro H locs ls b1 hP hD hS hl
    refine lv_iconst (v := (-1)) hx hb dX7_personIn_53 (by decide) ?_
    exact o_ri hf hr rfl hlocks hK hP hD hS (show 0 ≤ 0 by omega) (show 0 ≤ 0 by omega) ⟨Or.inr ⟨b1, rfl⟩, rfl, rfl⟩ dX7_personIn_54
