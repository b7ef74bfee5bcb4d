/-- somebody with the text Y among the pieces fm .. to -/
def hpq (EE : Nat → E5) (P : List Q4) (Y : List Int32) (fm to_ : Nat) : Prop := ∃ i, fm ≤ i ∧ i < to_ ∧ bgq EE P 2 i ∧ (EE (P.getD i d4).1).2.2.2.2 = Y
/-- piece i tells somebody new -/
def nwq (EE : Nat → E5) (P : List Q4) (fm i : Nat) : Prop := bgq EE P 2 i ∧ ¬ hpq EE P (EE (P.getD i d4).1).2.2.2.2 fm i
abbrev cX7_begin : ByteArray := prog_9_method_3_code
def yX7_begin : MethodName := ⟨RX7, "begin", "(I)I"⟩
abbrev cX7_elementsIn : ByteArray := prog_9_method_4_code
def yX7_elementsIn : MethodName := ⟨RX7, "elementsIn", "(II)I"⟩
abbrev cX7_spanOf : ByteArray := prog_9_method_5_code
def yX7_spanOf : MethodName := ⟨RX7, "spanOf", "(II)I"⟩
theorem k_286 : (Cond.fieldLink RX7 39 "ScriptDesk$Piece" "from" "I") ∈ gT := gT_i 286 (by decide +kernel) rfl
theorem k_291 : (Cond.fieldLink RX7 35 "ScriptDesk$Piece" "to" "I") ∈ gT := gT_i 291 (by decide +kernel) rfl
theorem k_1081 : (Cond.methodLink RX7 46 yX1_hasEmptyRowAhead) ∈ gT := gT_i 1081 (by decide +kernel) rfl
theorem dX7_begin_4 : decode cX7_begin 4 = .ok (.iload_n 3, 1) := by decide +kernel
theorem dX7_begin_5 : decode cX7_begin 5 = .ok (.aload_n 0, 1) := by decide +kernel
theorem dX7_begin_6 : decode cX7_begin 6 = .ok (.getfield 9, 3) := by decide +kernel
theorem dX7_begin_9 : decode cX7_begin 9 = .ok (.invokevirtual 15, 3) := by decide +kernel
theorem dX7_begin_12 : decode cX7_begin 12 = .ok (.if_icmp .ge 28, 3) := by decide +kernel
theorem dX7_begin_15 : decode cX7_begin 15 = .ok (.aload_n 0, 1) := by decide +kernel
theorem dX7_begin_16 : decode cX7_begin 16 = .ok (.iload_n 3, 1) := by decide +kernel
theorem dX7_begin_17 : decode cX7_begin 17 = .ok (.iconst 0, 1) := by decide +kernel
theorem dX7_begin_18 : decode cX7_begin 18 = .ok (.invokevirtual 21, 3) := by decide +kernel
theorem dX7_begin_21 : decode cX7_begin 21 = .ok (.ifCond .eq 13, 3) := by decide +kernel
theorem dX7_begin_24 : decode cX7_begin 24 = .ok (.iload_n 2, 1) := by decide +kernel
theorem dX7_begin_25 : decode cX7_begin 25 = .ok (.iload_n 1, 1) := by decide +kernel
theorem dX7_begin_26 : decode cX7_begin 26 = .ok (.if_icmp .ne 5, 3) := by decide +kernel
theorem dX7_begin_31 : decode cX7_begin 31 = .ok (.iinc 2 1, 3) := by decide +kernel
theorem dX7_begin_34 : decode cX7_begin 34 = .ok (.iinc 3 1, 3) := by decide +kernel
theorem dX7_begin_37 : decode cX7_begin 37 = .ok (.goto (-33), 3) := by decide +kernel
theorem dX7_begin_0 : decode cX7_begin 0 = .ok (.iconst 0, 1) := by decide +kernel
theorem dX7_begin_1 : decode cX7_begin 1 = .ok (.istore_n 2, 1) := by decide +kernel
theorem dX7_begin_2 : decode cX7_begin 2 = .ok (.iconst 0, 1) := by decide +kernel
theorem dX7_begin_3 : decode cX7_begin 3 = .ok (.istore_n 3, 1) := by decide +kernel
theorem dX7_begin_29 : decode cX7_begin 29 = .ok (.iload_n 3, 1) := by decide +kernel
theorem dX7_begin_30 : decode cX7_begin 30 = .ok (.ireturn, 1) := by decide +kernel
theorem dX7_begin_40 : decode cX7_begin 40 = .ok (.aload_n 0, 1) := by decide +kernel
theorem dX7_begin_41 : decode cX7_begin 41 = .ok (.getfield 9, 3) := by decide +kernel
theorem dX7_begin_44 : decode cX7_begin 44 = .ok (.invokevirtual 15, 3) := by decide +kernel
theorem dX7_begin_47 : decode cX7_begin 47 = .ok (.ireturn, 1) := by decide +kernel
theorem dX7_elementsIn_5 : decode cX7_elementsIn 5 = .ok (.iload 4, 2) := by decide +kernel
theorem dX7_elementsIn_7 : decode cX7_elementsIn 7 = .ok (.iload_n 2, 1) := by decide +kernel
theorem dX7_elementsIn_8 : decode cX7_elementsIn 8 = .ok (.if_icmp .ge 27, 3) := by decide +kernel
theorem dX7_elementsIn_11 : decode cX7_elementsIn 11 = .ok (.aload_n 0, 1) := by decide +kernel
theorem dX7_elementsIn_12 : decode cX7_elementsIn 12 = .ok (.getfield 9, 3) := by decide +kernel
theorem dX7_elementsIn_15 : decode cX7_elementsIn 15 = .ok (.iload 4, 2) := by decide +kernel
theorem dX7_elementsIn_17 : decode cX7_elementsIn 17 = .ok (.invokevirtual 25, 3) := by decide +kernel
theorem dX7_elementsIn_20 : decode cX7_elementsIn 20 = .ok (.invokevirtual 29, 3) := by decide +kernel
theorem dX7_elementsIn_23 : decode cX7_elementsIn 23 = .ok (.ifCond .eq 6, 3) := by decide +kernel
theorem dX7_elementsIn_26 : decode cX7_elementsIn 26 = .ok (.iinc 3 1, 3) := by decide +kernel
theorem dX7_elementsIn_29 : decode cX7_elementsIn 29 = .ok (.iinc 4 1, 3) := by decide +kernel
theorem dX7_elementsIn_32 : decode cX7_elementsIn 32 = .ok (.goto (-27), 3) := by decide +kernel
theorem dX7_elementsIn_0 : decode cX7_elementsIn 0 = .ok (.iconst 0, 1) := by decide +kernel
theorem dX7_elementsIn_1 : decode cX7_elementsIn 1 = .ok (.istore_n 3, 1) := by decide +kernel
theorem dX7_elementsIn_2 : decode cX7_elementsIn 2 = .ok (.iload_n 1, 1) := by decide +kernel
theorem dX7_elementsIn_3 : decode cX7_elementsIn 3 = .ok (.istore 4, 2) := by decide +kernel
theorem dX7_elementsIn_35 : decode cX7_elementsIn 35 = .ok (.iload_n 3, 1) := by decide +kernel
theorem dX7_elementsIn_36 : decode cX7_elementsIn 36 = .ok (.ireturn, 1) := by decide +kernel
theorem dX7_spanOf_5 : decode cX7_spanOf 5 = .ok (.iload 4, 2) := by decide +kernel
theorem dX7_spanOf_7 : decode cX7_spanOf 7 = .ok (.iload_n 2, 1) := by decide +kernel
theorem dX7_spanOf_8 : decode cX7_spanOf 8 = .ok (.if_icmp .ge 56, 3) := by decide +kernel
theorem dX7_spanOf_11 : decode cX7_spanOf 11 = .ok (.aload_n 0, 1) := by decide +kernel
theorem dX7_spanOf_12 : decode cX7_spanOf 12 = .ok (.getfield 9, 3) := by decide +kernel
theorem dX7_spanOf_15 : decode cX7_spanOf 15 = .ok (.iload 4, 2) := by decide +kernel
theorem dX7_spanOf_17 : decode cX7_spanOf 17 = .ok (.invokevirtual 25, 3) := by decide +kernel
theorem dX7_spanOf_20 : decode cX7_spanOf 20 = .ok (.astore 5, 2) := by decide +kernel
theorem dX7_spanOf_22 : decode cX7_spanOf 22 = .ok (.iload_n 3, 1) := by decide +kernel
theorem dX7_spanOf_23 : decode cX7_spanOf 23 = .ok (.aload 5, 2) := by decide +kernel
theorem dX7_spanOf_25 : decode cX7_spanOf 25 = .ok (.getfield 35, 3) := by decide +kernel
theorem dX7_spanOf_28 : decode cX7_spanOf 28 = .ok (.aload 5, 2) := by decide +kernel
theorem dX7_spanOf_30 : decode cX7_spanOf 30 = .ok (.getfield 39, 3) := by decide +kernel
theorem dX7_spanOf_33 : decode cX7_spanOf 33 = .ok (.isub, 1) := by decide +kernel
theorem dX7_spanOf_34 : decode cX7_spanOf 34 = .ok (.iadd, 1) := by decide +kernel
theorem dX7_spanOf_35 : decode cX7_spanOf 35 = .ok (.istore_n 3, 1) := by decide +kernel
theorem dX7_spanOf_36 : decode cX7_spanOf 36 = .ok (.aload 5, 2) := by decide +kernel
theorem dX7_spanOf_38 : decode cX7_spanOf 38 = .ok (.invokevirtual 29, 3) := by decide +kernel
theorem dX7_spanOf_41 : decode cX7_spanOf 41 = .ok (.ifCond .eq 17, 3) := by decide +kernel
theorem dX7_spanOf_44 : decode cX7_spanOf 44 = .ok (.aload 5, 2) := by decide +kernel
theorem dX7_spanOf_46 : decode cX7_spanOf 46 = .ok (.getfield 42, 3) := by decide +kernel
theorem dX7_spanOf_49 : decode cX7_spanOf 49 = .ok (.invokevirtual 46, 3) := by decide +kernel
theorem dX7_spanOf_52 : decode cX7_spanOf 52 = .ok (.ifCond .eq 6, 3) := by decide +kernel
theorem dX7_spanOf_55 : decode cX7_spanOf 55 = .ok (.iinc 3 1, 3) := by decide +kernel
theorem dX7_spanOf_58 : decode cX7_spanOf 58 = .ok (.iinc 4 1, 3) := by decide +kernel
theorem dX7_spanOf_61 : decode cX7_spanOf 61 = .ok (.goto (-56), 3) := by decide +kernel
theorem dX7_spanOf_0 : decode cX7_spanOf 0 = .ok (.iconst 0, 1) := by decide +kernel
theorem dX7_spanOf_1 : decode cX7_spanOf 1 = .ok (.istore_n 3, 1) := by decide +kernel
theorem dX7_spanOf_2 : decode cX7_spanOf 2 = .ok (.iload_n 1, 1) := by decide +kernel
theorem dX7_spanOf_3 : decode cX7_spanOf 3 = .ok (.istore 4, 2) := by decide +kernel
theorem dX7_spanOf_64 : decode cX7_spanOf 64 = .ok (.iload_n 3, 1) := by decide +kernel
theorem dX7_spanOf_65 : decode cX7_spanOf 65 = .ok (.ireturn, 1) := by decide +kernel
set_option maxHeartbeats 1000000 in
set_option maxRecDepth 100000 in
theorem bg_loop {p : Program} {l : Launch} {e : Env} {R : Room} {s : State} {m : MethodId} {args : Array Value} {below : List Frame} {meth : Method} {c : Code} {Q : State → Prop} {D : va_G} {A : Nat → Prop} {z : Nat → Nat} {cB cI_ cO : ClassId} {L0 : List Nat} {g0 : hG} {cells slots : Nat} {pr pcs spr nwh cp : Nat} {pa : List Nat} {ea : Nat → Nat} {P : List Q4} {ne : Nat} {EE : Nat → E5} {sl : Nat} {ss : Nat} (h_pr : ho L0 g0 pr 13 (.inr (7, [.ref pcs, .ref spr, .ref nwh]))) (h_pcs : alR cO (z 0) 14 15 L0 g0 pcs cp pa) (h_pc : pcR L0 g0 ea pa P) (h_es : esR cB cI_ L0 g0 ea ne EE) (h_sl : ho L0 g0 sl 29 (.inr (8, [.ref pr]))) (hpa : pa.length ≤ 20000) (hQ : pq_ok ne EE P) (hss : ss ≤ 20000) (hRf : 8 ≤ R.frames) (hRl : 200 ≤ R.locals) (hRc : cells ≤ R.cells) (hRs : slots ≤ R.slots) (hA : ∀ q : Nat, s.heap.size ≤ q → A q) (hf : CallFix p m c cX7_begin 4 s args gT yX7_begin.cls) (hK : va_K D vcl (dT cB cI_ cO) s) (hZ : zA z A s s.heap) (hN : zB z s) :
    ∀ (k : Nat) (i : Nat) (H : Heap) (locs : List Loc) (ls : Array Slot), i + k = pa.length → (∀ t, t < i → bgq EE P 0 t → ¬ pcnt (bgq EE P 0) t = ss) → va_P D vcl (dW L0 g0) H → va_D A (dW L0 g0) → va_S A s.heap H locs → lv_has ls 4 [(3, .int (nI i)), (2, .int (nI ((pcnt (bgq EE P 0) i)))), (0, .ref sl), (1, .int (nI ss))] →
    (∀ (t : Nat) (H : Heap) (locs : List Loc) (ls : Array Slot), (t < pa.length ∧ bgq EE P 0 t ∧ pcnt (bgq EE P 0) t = ss) → va_P D vcl (dW L0 g0) H → va_D A (dW L0 g0) → va_S A s.heap H locs → lv_has ls 4 [(3, .int (nI t)), (0, .ref sl)] → W p l e R s m args below meth c H locs cells slots Q (F0 m 29 ls [])) →
    (∀  (H : Heap) (locs : List Loc) (ls : Array Slot), (∀ t, t < pa.length → bgq EE P 0 t → ¬ pcnt (bgq EE P 0) t = ss) → va_P D vcl (dW L0 g0) H → va_D A (dW L0 g0) → va_S A s.heap H locs → lv_has ls 4 [(0, .ref sl)] → W p l e R s m args below meth c H locs cells slots Q (F0 m 40 ls [])) →
    W p l e R s m args below meth c H locs cells slots Q (F0 m 4 ls []) := by
  obtain ⟨hx, hb, hml, hown, hts⟩ := id hf
  intro k
  induction k with
  | zero =>
    intro i H locs ls hik hno hP hD hS hl kk1 kk0
    refine lv_iload_n hx hb dX7_begin_4 rfl (lv_at hl 0 rfl) ?_
    refine lv_aload_n hx hb dX7_begin_5 rfl (lv_at hl 2 rfl) ?_
    refine o_get (D := D) (ci := 8) (v := .ref pr) (C := RX7) (T := TX7) (N := 1) hx hb hts inX7 hown hK hP h_sl rfl 0 (by decide) (hts _ k_425) (fun _ h9 => h9) rfl dX7_begin_6 ?_
    refine o_cis (k := cells) (n := slots) hK hP hD hS hA (o_rV (As := []) (rest := [.int (nI i)]) hf (p_size _ _ _ _ _ _ _ _ pr pcs spr nwh cp pa ea P h_pr h_pcs _) k_691 k_1046 k_689 k_690 k_92 (nA := 0) (by decide +kernel) ⟨Nat.le_trans (by decide) hRf, Nat.le_trans (by decide) hRl⟩ hK hP hD hS hA hZ hN h_pr rfl rfl rfl hl.1 rfl (Nat.le_of_ble_eq_true rfl) dX7_begin_9 ⟨(show cells + 0 ≤ R.cells by omega), (show slots + 0 ≤ R.slots by omega)⟩) (Nat.le_refl _) (Nat.le_refl _) (fun r H locs hw hP hD hS => ?_)
    obtain rfl := hw
    refine lv_icmp_ge (tgt := 40) hx hb dX7_begin_12 (by decide) (fun c_1 => ?_) (fun c_1 => ?_)
    · have c_1 := q_le (a := pa.length) (b := i) (by omega) (by omega) c_1
      exact kk0 H locs ls (fun t h9 h8 => hno t (by omega) h8) hP hD hS (lv_sub hl (l' := [(0, .ref sl)]) [2] rfl)
    · have c_1 := q_nle (a := pa.length) (b := i) (by omega) (by omega) c_1
      exact False.elim (by omega)
  | succ k ih =>
    intro i H locs ls hik hno hP hD hS hl kk1 kk0
    refine lv_iload_n hx hb dX7_begin_4 rfl (lv_at hl 0 rfl) ?_
    refine lv_aload_n hx hb dX7_begin_5 rfl (lv_at hl 2 rfl) ?_
    refine o_get (D := D) (ci := 8) (v := .ref pr) (C := RX7) (T := TX7) (N := 1) hx hb hts inX7 hown hK hP h_sl rfl 0 (by decide) (hts _ k_425) (fun _ h9 => h9) rfl dX7_begin_6 ?_
    refine o_cis (k := cells) (n := slots) hK hP hD hS hA (o_rV (As := []) (rest := [.int (nI i)]) hf (p_size _ _ _ _ _ _ _ _ pr pcs spr nwh cp pa ea P h_pr h_pcs _) k_691 k_1046 k_689 k_690 k_92 (nA := 0) (by decide +kernel) ⟨Nat.le_trans (by decide) hRf, Nat.le_trans (by decide) hRl⟩ hK hP hD hS hA hZ hN h_pr rfl rfl rfl hl.1 rfl (Nat.le_of_ble_eq_true rfl) dX7_begin_9 ⟨(show cells + 0 ≤ R.cells by omega), (show slots + 0 ≤ R.slots by omega)⟩) (Nat.le_refl _) (Nat.le_refl _) (fun r H locs hw hP hD hS => ?_)
    obtain rfl := hw
    refine lv_icmp_ge (tgt := 40) hx hb dX7_begin_12 (by decide) (fun c_1 => ?_) (fun c_1 => ?_)
    · have c_1 := q_le (a := pa.length) (b := i) (by omega) (by omega) c_1
      exact False.elim (by omega)
    · have c_1 := q_nle (a := pa.length) (b := i) (by omega) (by omega) c_1
      have e6 := pcnt_le (bgq EE P 0) i
      refine lv_aload_n hx hb dX7_begin_15 rfl (lv_at hl 2 rfl) ?_
      refine lv_iload_n hx hb dX7_begin_16 rfl (lv_at hl 0 rfl) ?_
      refine lv_iconst (v := 0) hx hb dX7_begin_17 (by decide) ?_
      refine o_cis (k := cells) (n := slots) hK hP hD hS hA (o_rV (As := [.int (nI i), .int 0]) (rest := []) hf (sl_beg _ _ _ _ _ _ _ _ pr pcs spr nwh cp pa ea P ne EE sl i 0 h_pr h_pcs h_pc h_es h_sl hpa hQ (by omega) _) k_1050 k_1047 k_1049 k_38 k_97 (nA := 2) (by decide +kernel) ⟨Nat.le_trans (by decide) hRf, Nat.le_trans (by decide) hRl⟩ hK hP hD hS hA hZ hN h_sl rfl rfl rfl hl.1 rfl (Nat.le_of_ble_eq_true rfl) dX7_begin_18 ⟨(show cells + 0 ≤ R.cells by omega), (show slots + 0 ≤ R.slots by omega)⟩) (Nat.le_refl _) (Nat.le_refl _) (fun r H locs hw hP hD hS => ?_)
      rcases hw with ⟨c_2, rfl⟩ | ⟨c_2, rfl⟩
      · have hP := hP
        refine lv_if_eq (tgt := 34) hx hb dX7_begin_21 (by decide) (fun hno => absurd hno (by decide)) (fun _ => ?_)
        refine lv_iload_n hx hb dX7_begin_24 rfl (lv_at hl 1 rfl) ?_
        refine lv_iload_n hx hb dX7_begin_25 rfl (lv_at hl 3 rfl) ?_
        refine lv_icmp_ne (tgt := 31) hx hb dX7_begin_26 (by decide) (fun c_3 => ?_) (fun c_3 => ?_)
        · have c_3 := q_nen (a := (pcnt (bgq EE P 0) i)) (b := ss) (by omega) (by omega) c_3
          refine lv_iinc (v := nI (pcnt (bgq EE P 0) i + 1)) (lv' := [(2, .int (nI (pcnt (bgq EE P 0) i + 1))), (3, .int (nI i)), (0, .ref sl), (1, .int (nI ss))]) hx hb dX7_begin_31 hl (k := 1) rfl (nI_addE (a := (pcnt (bgq EE P 0) i)) (b := 1) (by omega)) (by decide) rfl (fun ls hl => ?_)
          refine lv_iinc (v := nI (i + 1)) (lv' := [(3, .int (nI (i + 1))), (2, .int (nI (pcnt (bgq EE P 0) i + 1))), (0, .ref sl), (1, .int (nI ss))]) hx hb dX7_begin_34 hl (k := 1) rfl (nI_addE (a := i) (b := 1) (by omega)) (by decide) rfl (fun ls hl => ?_)
          refine lv_goto (tgt := 4) hx hb dX7_begin_37 (by decide) ?_
          have e8 := pcnt_1 c_2
          rw [show pcnt (bgq EE P 0) i + 1 = (pcnt (bgq EE P 0) (i + 1)) by omega] at hl
          exact ih (i + 1) H locs ls (by omega) (fun t h9 h8 => by by_cases e9 : t = i; (· subst e9; omega); exact hno t (by omega) h8) hP hD hS (lv_sub hl (l' := [(3, .int (nI (i + 1))), (2, .int (nI ((pcnt (bgq EE P 0) (i + 1))))), (0, .ref sl), (1, .int (nI ss))]) [0, 1, 2, 3] rfl) kk1 kk0
        · have c_3 := q_eqn (a := (pcnt (bgq EE P 0) i)) (b := ss) (by omega) (by omega) c_3
          exact kk1 i H locs ls ⟨by omega, c_2, by omega⟩ hP hD hS (lv_sub hl (l' := [(3, .int (nI i)), (0, .ref sl)]) [0, 2] rfl)
      · have hP := hP
        refine lv_if_eq (tgt := 34) hx hb dX7_begin_21 (by decide) (fun _ => ?_) (fun hno => absurd hno (by decide))
        refine lv_iinc (v := nI (i + 1)) (lv' := [(3, .int (nI (i + 1))), (2, .int (nI ((pcnt (bgq EE P 0) i)))), (0, .ref sl), (1, .int (nI ss))]) hx hb dX7_begin_34 hl (k := 0) rfl (nI_addE (a := i) (b := 1) (by omega)) (by decide) rfl (fun ls hl => ?_)
        refine lv_goto (tgt := 4) hx hb dX7_begin_37 (by decide) ?_
        have e8 := pcnt_0 c_2
        rw [show (pcnt (bgq EE P 0) i) = (pcnt (bgq EE P 0) (i + 1)) by omega] at hl
        exact ih (i + 1) H locs ls (by omega) (fun t h9 h8 => by by_cases e9 : t = i; (· subst e9; exact absurd h8 c_2); exact hno t (by omega) h8) hP hD hS (lv_sub hl (l' := [(3, .int (nI (i + 1))), (2, .int (nI ((pcnt (bgq EE P 0) (i + 1))))), (0, .ref sl), (1, .int (nI ss))]) [0, 1, 2, 3] rfl) kk1 kk0
set_option maxHeartbeats 1000000 in
set_option maxRecDepth 100000 in
theorem sl_begin (l : Launch) (D : va_G) (z : Nat → Nat) (cB cI_ cO : ClassId) (L0 : List Nat) (g0 : hG) (pr pcs spr nwh cp : Nat) (pa : List Nat) (ea : Nat → Nat) (P : List Q4) (ne : Nat) (EE : Nat → E5) (sl : Nat) (ss : Nat) (h_pr : ho L0 g0 pr 13 (.inr (7, [.ref pcs, .ref spr, .ref nwh]))) (h_pcs : alR cO (z 0) 14 15 L0 g0 pcs cp pa) (h_pc : pcR L0 g0 ea pa P) (h_es : esR cB cI_ L0 g0 ea ne EE) (h_sl : ho L0 g0 sl 29 (.inr (8, [.ref pr]))) (hpa : pa.length ≤ 20000) (hQ : pq_ok ne EE P) (hss : ss ≤ 20000) : eIs l D yX7_begin cX7_begin 4 (some .int) 8 200 0 0 [.ref sl, .int (nI ss)] z cB cI_ cO L0 g0 (fun r => ((∃ t, (t < pa.length ∧ bgq EE P 0 t ∧ pcnt (bgq EE P 0) t = ss) ∧ r = nI t) ∨ ((∀ t, t < pa.length → bgq EE P 0 t → ¬ pcnt (bgq EE P 0) t = ss) ∧ r = nI pa.length))) := by
  refine o_si (by decide) (Nat.le_of_ble_eq_true rfl) ?_
  intro p e s m below meth c A ls hf hr hlocks hin hK hP hD hS hA hZ hN hl
  obtain ⟨hx, hb, hml, hown, hts⟩ := id hf
  have hl : lv_has ls 4 [(0, .ref sl), (1, .int (nI ss))] := hl
  refine lv_iconst (v := 0) hx hb dX7_begin_0 (by decide) ?_
  refine lv_istore_n (lv' := [(2, .int 0), (0, .ref sl), (1, .int (nI ss))]) hx hb dX7_begin_1 rfl hl (by decide) rfl (fun ls hl => ?_)
  refine lv_iconst (v := 0) hx hb dX7_begin_2 (by decide) ?_
  refine lv_istore_n (lv' := [(3, .int 0), (2, .int 0), (0, .ref sl), (1, .int (nI ss))]) hx hb dX7_begin_3 rfl hl (by decide) rfl (fun ls hl => ?_)
  refine bg_loop  h_pr h_pcs h_pc h_es h_sl hpa hQ hss (Nat.le_of_ble_eq_true rfl) (Nat.le_of_ble_eq_true rfl) (show 0 ≤ 0 by omega) (show 0 ≤ 0 by omega) hA hf hK hZ hN pa.length 0 _ _ ls (by omega) (fun t h9 => absurd h9 (Nat.not_lt_zero t)) hP hD hS (lv_sub hl (l' := [(3, .int 0), (2, .int 0), (0, .ref sl), (1, .int (nI ss))]) [0, 1, 2, 3] rfl) ?_ ?_
  · intro t H locs ls b1 hP hD hS hl
    refine lv_iload_n hx hb dX7_begin_29 rfl (lv_at hl 0 rfl) ?_
    exact o_ri hf hr rfl hlocks hK hP hD hS (show 0 ≤ 0 by omega) (show 0 ≤ 0 by omega) ⟨Or.inl ⟨t, b1, rfl⟩, rfl, rfl⟩ dX7_begin_30
  · intro H locs ls b1 hP hD hS hl
    refine lv_aload_n hx hb dX7_begin_40 rfl (lv_at hl 0 rfl) ?_
    refine o_get (D := D) (ci := 8) (v := .ref pr) (C := RX7) (T := TX7) (N := 1) hx hb hts inX7 hown hK hP h_sl rfl 0 (by decide) (hts _ k_425) (fun _ h9 => h9) rfl dX7_begin_41 ?_
    refine o_cis (k := 0) (n := 0) hK hP hD hS hA (o_rV (As := []) (rest := []) hf (p_size _ _ _ _ _ _ _ _ pr pcs spr nwh cp pa ea P h_pr h_pcs _) k_691 k_1046 k_689 k_690 k_92 (nA := 0) (by decide +kernel) ⟨Nat.le_of_ble_eq_true rfl, Nat.le_of_ble_eq_true rfl⟩ hK hP hD hS hA hZ hN h_pr rfl rfl rfl hl.1 rfl (Nat.le_of_ble_eq_true rfl) dX7_begin_44 ⟨(show 0 + 0 ≤ 0 by omega), (show 0 + 0 ≤ 0 by omega)⟩) (Nat.le_refl _) (Nat.le_refl _) (fun r H locs hw hP hD hS => ?_)
    obtain rfl := hw
    exact o_ri hf hr rfl hlocks hK hP hD hS (show 0 ≤ 0 by omega) (show 0 ≤ 0 by omega) ⟨Or.inr ⟨b1, rfl⟩, rfl, rfl⟩ dX7_begin_47
set_option maxHeartbeats 1000000 in
set_option maxRecDepth 100000 in
theorem ei_loop {p : Program} {l : Launch} {e : Env} {R : Room} {s : State} {m : MethodId} {args : Array Value} {below : List Frame} {meth : Method} {c : Code} {Q : State → Prop} {D : va_G} {A : Nat → Prop} {z : Nat → Nat} {cB cI_ cO : ClassId} {L0 : List Nat} {g0 : hG} {cells slots : Nat} {pr pcs spr nwh cp : Nat} {pa : List Nat} {ea : Nat → Nat} {P : List Q4} {ne : Nat} {EE : Nat → E5} {sl : Nat} {fm to_ : Nat} (h_pr : ho L0 g0 pr 13 (.inr (7, [.ref pcs, .ref spr, .ref nwh]))) (h_pcs : alR cO (z 0) 14 15 L0 g0 pcs cp pa) (h_pc : pcR L0 g0 ea pa P) (h_es : esR cB cI_ L0 g0 ea ne EE) (h_sl : ho L0 g0 sl 29 (.inr (8, [.ref pr]))) (hpa : pa.length ≤ 20000) (hQ : pq_ok ne EE P) (hft : fm ≤ to_) (hto : to_ ≤ pa.length) (hRf : 8 ≤ R.frames) (hRl : 200 ≤ R.locals) (hRc : cells ≤ R.cells) (hRs : slots ≤ R.slots) (hA : ∀ q : Nat, s.heap.size ≤ q → A q) (hf : CallFix p m c cX7_elementsIn 5 s args gT yX7_elementsIn.cls) (hK : va_K D vcl (dT cB cI_ cO) s) (hZ : zA z A s s.heap) (hN : zB z s) :
    ∀ (k : Nat) (i : Nat) (H : Heap) (locs : List Loc) (ls : Array Slot), i + k = to_ → fm ≤ i → va_P D vcl (dW L0 g0) H → va_D A (dW L0 g0) → va_S A s.heap H locs → lv_has ls 5 [(4, .int (nI i)), (3, .int (nI ((pcnt (begq P) i - pcnt (begq P) fm)))), (0, .ref sl), (1, .int (nI fm)), (2, .int (nI to_))] →
    (∀  (H : Heap) (locs : List Loc) (ls : Array Slot), va_P D vcl (dW L0 g0) H → va_D A (dW L0 g0) → va_S A s.heap H locs → lv_has ls 5 [(3, .int (nI ((pcnt (begq P) to_ - pcnt (begq P) fm)))), (0, .ref sl)] → W p l e R s m args below meth c H locs cells slots Q (F0 m 35 ls [])) →
    W p l e R s m args below meth c H locs cells slots Q (F0 m 5 ls []) := by
  obtain ⟨hx, hb, hml, hown, hts⟩ := id hf
  intro k
  induction k with
  | zero =>
    intro i H locs ls hik hfi hP hD hS hl kk
    refine lv_iload hx hb dX7_elementsIn_5 (lv_at hl 0 rfl) ?_
    refine lv_iload_n hx hb dX7_elementsIn_7 rfl (lv_at hl 4 rfl) ?_
    refine lv_icmp_ge (tgt := 35) hx hb dX7_elementsIn_8 (by decide) (fun c_1 => ?_) (fun c_1 => ?_)
    · have c_1 := q_le (a := to_) (b := i) (by omega) (by omega) c_1
      have e9 : i = to_ := by omega
      rw [e9] at hl
      exact kk H locs ls hP hD hS (lv_sub hl (l' := [(3, .int (nI ((pcnt (begq P) to_ - pcnt (begq P) fm)))), (0, .ref sl)]) [1, 2] rfl)
    · have c_1 := q_nle (a := to_) (b := i) (by omega) (by omega) c_1
      exact False.elim (by omega)
  | succ k ih =>
    intro i H locs ls hik hfi hP hD hS hl kk
    refine lv_iload hx hb dX7_elementsIn_5 (lv_at hl 0 rfl) ?_
    refine lv_iload_n hx hb dX7_elementsIn_7 rfl (lv_at hl 4 rfl) ?_
    refine lv_icmp_ge (tgt := 35) hx hb dX7_elementsIn_8 (by decide) (fun c_1 => ?_) (fun c_1 => ?_)
    · have c_1 := q_le (a := to_) (b := i) (by omega) (by omega) c_1
      exact False.elim (by omega)
    · have c_1 := q_nle (a := to_) (b := i) (by omega) (by omega) c_1
      have e6 := pcnt_le (begq P) i
      have e7 := pcnt_mo (begq P) hfi
      refine lv_aload_n hx hb dX7_elementsIn_11 rfl (lv_at hl 2 rfl) ?_
      refine o_get (D := D) (ci := 8) (v := .ref pr) (C := RX7) (T := TX7) (N := 1) hx hb hts inX7 hown hK hP h_sl rfl 0 (by decide) (hts _ k_425) (fun _ h9 => h9) rfl dX7_elementsIn_12 ?_
      refine lv_iload hx hb dX7_elementsIn_15 (lv_at hl 0 rfl) ?_
      refine o_crs (k := cells) (n := slots) hK hP hD hS hA (o_rV (As := [.int (nI i)]) (rest := []) hf (p_atI _ _ _ _ _ _ _ _ pr pcs spr nwh cp pa ea P i h_pr h_pcs h_pc hpa (by omega) _) k_775 k_1051 k_773 k_774 k_92 (nA := 1) (by decide +kernel) ⟨Nat.le_trans (by decide) hRf, Nat.le_trans (by decide) hRl⟩ hK hP hD hS hA hZ hN h_pr rfl rfl rfl hl.1 rfl (Nat.le_of_ble_eq_true rfl) dX7_elementsIn_17 ⟨(show cells + 0 ≤ R.cells by omega), (show slots + 0 ≤ R.slots by omega)⟩) (Nat.le_refl _) (Nat.le_refl _) (fun r H locs hw hP hD hS => ?_)
      obtain rfl := hw
      have h_p2 := h_pc.2 i (by omega)
      have hpl_ := h_pc.1
      have hq_p2 := hQ i (by omega)
      have hr_p2 := h_es.rb hq_p2.1
      refine o_cis (k := cells) (n := slots) hK hP hD hS hA (o_rV (As := []) (rest := []) hf (p_begE _ _ _ _ _ _ _ _ (pa.getD i 0) (ea (P.getD i d4).1) ((P.getD i d4).2.1) ((P.getD i d4).2.2.1) ((P.getD i d4).2.2.2) h_p2 (by omega) _) k_813 k_1052 k_811 k_812 k_93 (nA := 0) (by decide +kernel) ⟨Nat.le_trans (by decide) hRf, Nat.le_trans (by decide) hRl⟩ hK hP hD hS hA hZ hN h_p2 rfl rfl rfl hl.1 rfl (Nat.le_of_ble_eq_true rfl) dX7_elementsIn_20 ⟨(show cells + 0 ≤ R.cells by omega), (show slots + 0 ≤ R.slots by omega)⟩) (Nat.le_refl _) (Nat.le_refl _) (fun r H locs hw hP hD hS => ?_)
      rcases hw with ⟨c_3, rfl⟩ | ⟨c_3, rfl⟩
      · have hP := hP
        refine lv_if_eq (tgt := 29) hx hb dX7_elementsIn_23 (by decide) (fun hno => absurd hno (by decide)) (fun _ => ?_)
        refine lv_iinc (v := nI (pcnt (begq P) i + 1 - pcnt (begq P) fm)) (lv' := [(3, .int (nI (pcnt (begq P) i + 1 - pcnt (begq P) fm))), (4, .int (nI i)), (0, .ref sl), (1, .int (nI fm)), (2, .int (nI to_))]) hx hb dX7_elementsIn_26 hl (k := 1) rfl (nI_addE (a := (pcnt (begq P) i - pcnt (begq P) fm)) (b := 1) (by omega)) (by decide) rfl (fun ls hl => ?_)
        refine lv_iinc (v := nI (i + 1)) (lv' := [(4, .int (nI (i + 1))), (3, .int (nI (pcnt (begq P) i + 1 - pcnt (begq P) fm))), (0, .ref sl), (1, .int (nI fm)), (2, .int (nI to_))]) hx hb dX7_elementsIn_29 hl (k := 1) rfl (nI_addE (a := i) (b := 1) (by omega)) (by decide) rfl (fun ls hl => ?_)
        refine lv_goto (tgt := 5) hx hb dX7_elementsIn_32 (by decide) ?_
        have e8 := pcnt_1 (Q := begq P) c_3
        have e7 := pcnt_mo (begq P) hfi
        rw [show pcnt (begq P) i + 1 - pcnt (begq P) fm = (pcnt (begq P) (i + 1) - pcnt (begq P) fm) by omega] at hl
        exact ih (i + 1) H locs ls (by omega) (by omega) hP hD hS (lv_sub hl (l' := [(4, .int (nI (i + 1))), (3, .int (nI ((pcnt (begq P) (i + 1) - pcnt (begq P) fm)))), (0, .ref sl), (1, .int (nI fm)), (2, .int (nI to_))]) [0, 1, 2, 3, 4] rfl) kk
      · have hP := hP
        refine lv_if_eq (tgt := 29) hx hb dX7_elementsIn_23 (by decide) (fun _ => ?_) (fun hno => absurd hno (by decide))
        refine lv_iinc (v := nI (i + 1)) (lv' := [(4, .int (nI (i + 1))), (3, .int (nI ((pcnt (begq P) i - pcnt (begq P) fm)))), (0, .ref sl), (1, .int (nI fm)), (2, .int (nI to_))]) hx hb dX7_elementsIn_29 hl (k := 0) rfl (nI_addE (a := i) (b := 1) (by omega)) (by decide) rfl (fun ls hl => ?_)
        refine lv_goto (tgt := 5) hx hb dX7_elementsIn_32 (by decide) ?_
        have e8 := pcnt_0 (Q := begq P) c_3
        have e7 := pcnt_mo (begq P) hfi
        rw [show (pcnt (begq P) i - pcnt (begq P) fm) = (pcnt (begq P) (i + 1) - pcnt (begq P) fm) by omega] at hl
        exact ih (i + 1) H locs ls (by omega) (by omega) hP hD hS (lv_sub hl (l' := [(4, .int (nI (i + 1))), (3, .int (nI ((pcnt (begq P) (i + 1) - pcnt (begq P) fm)))), (0, .ref sl), (1, .int (nI fm)), (2, .int (nI to_))]) [0, 1, 2, 3, 4] rfl) kk
set_option maxHeartbeats 1000000 in
set_option maxRecDepth 100000 in
theorem sl_elin (l : Launch) (D : va_G) (z : Nat → Nat) (cB cI_ cO : ClassId) (L0 : List Nat) (g0 : hG) (pr pcs spr nwh cp : Nat) (pa : List Nat) (ea : Nat → Nat) (P : List Q4) (ne : Nat) (EE : Nat → E5) (sl : Nat) (fm to_ : Nat) (h_pr : ho L0 g0 pr 13 (.inr (7, [.ref pcs, .ref spr, .ref nwh]))) (h_pcs : alR cO (z 0) 14 15 L0 g0 pcs cp pa) (h_pc : pcR L0 g0 ea pa P) (h_es : esR cB cI_ L0 g0 ea ne EE) (h_sl : ho L0 g0 sl 29 (.inr (8, [.ref pr]))) (hpa : pa.length ≤ 20000) (hQ : pq_ok ne EE P) (hft : fm ≤ to_) (hto : to_ ≤ pa.length) : eIs l D yX7_elementsIn cX7_elementsIn 5 (some .int) 8 200 0 0 [.ref sl, .int (nI fm), .int (nI to_)] z cB cI_ cO L0 g0 (fun r => r = nI (pcnt (begq P) to_ - pcnt (begq P) fm)) := by
  refine o_si (by decide) (Nat.le_of_ble_eq_true rfl) ?_
  intro p e s m below meth c A ls hf hr hlocks hin hK hP hD hS hA hZ hN hl
  obtain ⟨hx, hb, hml, hown, hts⟩ := id hf
  have hl : lv_has ls 5 [(0, .ref sl), (1, .int (nI fm)), (2, .int (nI to_))] := hl
  refine lv_iconst (v := 0) hx hb dX7_elementsIn_0 (by decide) ?_
  refine lv_istore_n (lv' := [(3, .int 0), (0, .ref sl), (1, .int (nI fm)), (2, .int (nI to_))]) hx hb dX7_elementsIn_1 rfl hl (by decide) rfl (fun ls hl => ?_)
  refine lv_iload_n hx hb dX7_elementsIn_2 rfl (lv_at hl 2 rfl) ?_
  refine lv_istore (lv' := [(4, .int (nI fm)), (3, .int 0), (0, .ref sl), (1, .int (nI fm)), (2, .int (nI to_))]) hx hb dX7_elementsIn_3 hl (by decide) rfl (fun ls hl => ?_)
  have e0 : (.int (nI (pcnt (begq P) fm - pcnt (begq P) fm)) : Value) = .int 0 := by rw [Nat.sub_self]; rfl
  have hl : lv_has ls 5 [(4, .int (nI fm)), (3, .int (nI ((pcnt (begq P) fm - pcnt (begq P) fm)))), (0, .ref sl), (1, .int (nI fm)), (2, .int (nI to_))] := by rw [e0]; exact lv_sub hl (l' := [(4, .int (nI fm)), (3, .int 0), (0, .ref sl), (1, .int (nI fm)), (2, .int (nI to_))]) [0, 1, 2, 3, 4] rfl
  refine ei_loop  h_pr h_pcs h_pc h_es h_sl hpa hQ hft hto (Nat.le_of_ble_eq_true rfl) (Nat.le_of_ble_eq_true rfl) (show 0 ≤ 0 by omega) (show 0 ≤ 0 by omega) hA hf hK hZ hN (to_ - fm) fm _ _ ls (by omega) (Nat.le_refl _) hP hD hS (lv_sub hl (l' := [(4, .int (nI fm)), (3, .int (nI ((pcnt (begq P) fm - pcnt (begq P) fm)))), (0, .ref sl), (1, .int (nI fm)), (2, .int (nI to_))]) [0, 1, 2, 3, 4] rfl) ?_
  · intro H locs ls hP hD hS hl
    refine lv_iload_n hx hb dX7_elementsIn_35 rfl (lv_at hl 0 rfl) ?_
    exact o_ri hf hr rfl hlocks hK hP hD hS (show 0 ≤ 0 by omega) (show 0 ≤ 0 by omega) ⟨rfl, rfl, rfl⟩ dX7_elementsIn_36
set_option maxHeartbeats 1000000 in
set_option maxRecDepth 100000 in
theorem so_loop {p : Program} {l : Launch} {e : Env} {R : Room} {s : State} {m : MethodId} {args : Array Value} {below : List Frame} {meth : Method} {c : Code} {Q : State → Prop} {D : va_G} {A : Nat → Prop} {z : Nat → Nat} {cB cI_ cO : ClassId} {L0 : List Nat} {g0 : hG} {cells slots : Nat} {pr pcs spr nwh cp : Nat} {pa : List Nat} {ea : Nat → Nat} {P : List Q4} {ne : Nat} {EE : Nat → E5} {sl : Nat} {fm to_ : Nat} (h_pr : ho L0 g0 pr 13 (.inr (7, [.ref pcs, .ref spr, .ref nwh]))) (h_pcs : alR cO (z 0) 14 15 L0 g0 pcs cp pa) (h_pc : pcR L0 g0 ea pa P) (h_es : esR cB cI_ L0 g0 ea ne EE) (h_sl : ho L0 g0 sl 29 (.inr (8, [.ref pr]))) (hpa : pa.length ≤ 20000) (hQ : pq_ok ne EE P) (hft : fm ≤ to_) (hto : to_ ≤ pa.length) (hSn : qS P pa.length ≤ 8000) (hRf : 8 ≤ R.frames) (hRl : 200 ≤ R.locals) (hRc : cells ≤ R.cells) (hRs : slots ≤ R.slots) (hA : ∀ q : Nat, s.heap.size ≤ q → A q) (hf : CallFix p m c cX7_spanOf 6 s args gT yX7_spanOf.cls) (hK : va_K D vcl (dT cB cI_ cO) s) (hZ : zA z A s s.heap) (hN : zB z s) :
    ∀ (k : Nat) (i : Nat) (H : Heap) (locs : List Loc) (ls : Array Slot), i + k = to_ → fm ≤ i → va_P D vcl (dW L0 g0) H → va_D A (dW L0 g0) → va_S A s.heap H locs → lv_has ls 6 [(4, .int (nI i)), (3, .int (nI ((pspan EE P i - pspan EE P fm)))), (0, .ref sl), (1, .int (nI fm)), (2, .int (nI to_))] →
    (∀  (H : Heap) (locs : List Loc) (ls : Array Slot), va_P D vcl (dW L0 g0) H → va_D A (dW L0 g0) → va_S A s.heap H locs → lv_has ls 6 [(3, .int (nI ((pspan EE P to_ - pspan EE P fm)))), (0, .ref sl)] → W p l e R s m args below meth c H locs cells slots Q (F0 m 64 ls [])) →
    W p l e R s m args below meth c H locs cells slots Q (F0 m 5 ls []) := by
  obtain ⟨hx, hb, hml, hown, hts⟩ := id hf
  intro k
  induction k with
  | zero =>
    intro i H locs ls hik hfi hP hD hS hl kk
    refine lv_iload hx hb dX7_spanOf_5 (lv_at hl 0 rfl) ?_
    refine lv_iload_n hx hb dX7_spanOf_7 rfl (lv_at hl 4 rfl) ?_
    refine lv_icmp_ge (tgt := 64) hx hb dX7_spanOf_8 (by decide) (fun c_1 => ?_) (fun c_1 => ?_)
    · have c_1 := q_le (a := to_) (b := i) (by omega) (by omega) c_1
      have e9 : i = to_ := by omega
      rw [e9] at hl
      exact kk H locs ls hP hD hS (lv_sub hl (l' := [(3, .int (nI ((pspan EE P to_ - pspan EE P fm)))), (0, .ref sl)]) [1, 2] rfl)
    · have c_1 := q_nle (a := to_) (b := i) (by omega) (by omega) c_1
      exact False.elim (by omega)
  | succ k ih =>
    intro i H locs ls hik hfi hP hD hS hl kk
    refine lv_iload hx hb dX7_spanOf_5 (lv_at hl 0 rfl) ?_
    refine lv_iload_n hx hb dX7_spanOf_7 rfl (lv_at hl 4 rfl) ?_
    refine lv_icmp_ge (tgt := 64) hx hb dX7_spanOf_8 (by decide) (fun c_1 => ?_) (fun c_1 => ?_)
    · have c_1 := q_le (a := to_) (b := i) (by omega) (by omega) c_1
      exact False.elim (by omega)
    · have c_1 := q_nle (a := to_) (b := i) (by omega) (by omega) c_1
      have e7 := pspan_mo EE P hfi
      have e6 := pspan_le EE P i
      have e5 := qS_m P (show i ≤ pa.length by omega)
      refine lv_aload_n hx hb dX7_spanOf_11 rfl (lv_at hl 2 rfl) ?_
      refine o_get (D := D) (ci := 8) (v := .ref pr) (C := RX7) (T := TX7) (N := 1) hx hb hts inX7 hown hK hP h_sl rfl 0 (by decide) (hts _ k_425) (fun _ h9 => h9) rfl dX7_spanOf_12 ?_
      refine lv_iload hx hb dX7_spanOf_15 (lv_at hl 0 rfl) ?_
      refine o_crs (k := cells) (n := slots) hK hP hD hS hA (o_rV (As := [.int (nI i)]) (rest := []) hf (p_atI _ _ _ _ _ _ _ _ pr pcs spr nwh cp pa ea P i h_pr h_pcs h_pc hpa (by omega) _) k_775 k_1051 k_773 k_774 k_92 (nA := 1) (by decide +kernel) ⟨Nat.le_trans (by decide) hRf, Nat.le_trans (by decide) hRl⟩ hK hP hD hS hA hZ hN h_pr rfl rfl rfl hl.1 rfl (Nat.le_of_ble_eq_true rfl) dX7_spanOf_17 ⟨(show cells + 0 ≤ R.cells by omega), (show slots + 0 ≤ R.slots by omega)⟩) (Nat.le_refl _) (Nat.le_refl _) (fun r H locs hw hP hD hS => ?_)
      obtain rfl := hw
      have h_p2 := h_pc.2 i (by omega)
      have hpl_ := h_pc.1
      have hq_p2 := hQ i (by omega)
      have hr_p2 := h_es.rb hq_p2.1
      refine lv_astore (lv' := [(5, .ref (pa.getD i 0)), (4, .int (nI i)), (3, .int (nI ((pspan EE P i - pspan EE P fm)))), (0, .ref sl), (1, .int (nI fm)), (2, .int (nI to_))]) hx hb dX7_spanOf_20 hl (by decide) rfl (fun ls hl => ?_)
      refine lv_iload_n hx hb dX7_spanOf_22 rfl (lv_at hl 2 rfl) ?_
      refine lv_aload hx hb dX7_spanOf_23 (lv_at hl 0 rfl) ?_
      refine o_get (D := D) (ci := 6) (v := .int (nI ((P.getD i d4).2.2.1))) (C := RX5) (T := TX5) (N := 4) hx hb hts inX5 hown hK hP h_p2 rfl 2 (by decide) (hts _ k_291) (fun _ h9 => h9) rfl dX7_spanOf_25 ?_
      refine lv_aload hx hb dX7_spanOf_28 (lv_at hl 0 rfl) ?_
      refine o_get (D := D) (ci := 6) (v := .int (nI ((P.getD i d4).2.1))) (C := RX5) (T := TX5) (N := 4) hx hb hts inX5 hown hK hP h_p2 rfl 1 (by decide) (hts _ k_286) (fun _ h9 => h9) rfl dX7_spanOf_30 ?_
      refine lv_isub hx hb dX7_spanOf_33 ?_
      refine q_seti (y := nI (((P.getD i d4).2.2.1) - ((P.getD i d4).2.1))) (nI_subE (a := (P.getD i d4).2.2.1) (b := (P.getD i d4).2.1) (by omega) (by omega)) ?_
      refine lv_iadd hx hb dX7_spanOf_34 ?_
      refine q_seti (y := nI (pspan EE P i + ((P.getD i d4).2.2.1) - pspan EE P fm - ((P.getD i d4).2.1))) (nI_addE (a := (pspan EE P i - pspan EE P fm)) (b := ((P.getD i d4).2.2.1) - ((P.getD i d4).2.1)) (by omega)) ?_
      refine lv_istore_n (lv' := [(3, .int (nI (pspan EE P i + ((P.getD i d4).2.2.1) - pspan EE P fm - ((P.getD i d4).2.1)))), (5, .ref (pa.getD i 0)), (4, .int (nI i)), (0, .ref sl), (1, .int (nI fm)), (2, .int (nI to_))]) hx hb dX7_spanOf_35 rfl hl (by decide) rfl (fun ls hl => ?_)
      refine lv_aload hx hb dX7_spanOf_36 (lv_at hl 1 rfl) ?_
      refine o_cis (k := cells) (n := slots) hK hP hD hS hA (o_rV (As := []) (rest := []) hf (p_begE _ _ _ _ _ _ _ _ (pa.getD i 0) (ea (P.getD i d4).1) ((P.getD i d4).2.1) ((P.getD i d4).2.2.1) ((P.getD i d4).2.2.2) h_p2 (by omega) _) k_813 k_1052 k_811 k_812 k_93 (nA := 0) (by decide +kernel) ⟨Nat.le_trans (by decide) hRf, Nat.le_trans (by decide) hRl⟩ hK hP hD hS hA hZ hN h_p2 rfl rfl rfl hl.1 rfl (Nat.le_of_ble_eq_true rfl) dX7_spanOf_38 ⟨(show cells + 0 ≤ R.cells by omega), (show slots + 0 ≤ R.slots by omega)⟩) (Nat.le_refl _) (Nat.le_refl _) (fun r H locs hw hP hD hS => ?_)
      rcases hw with ⟨c_3, rfl⟩ | ⟨c_3, rfl⟩
      · have hP := hP
        refine lv_if_eq (tgt := 58) hx hb dX7_spanOf_41 (by decide) (fun hno => absurd hno (by decide)) (fun _ => ?_)
        refine lv_aload hx hb dX7_spanOf_44 (lv_at hl 1 rfl) ?_
        refine o_get (D := D) (ci := 6) (v := .ref (ea (P.getD i d4).1)) (C := RX5) (T := TX5) (N := 4) hx hb hts inX5 hown hK hP h_p2 rfl 0 (by decide) (hts _ k_278) (fun _ h9 => h9) rfl dX7_spanOf_46 ?_
        obtain ⟨tx2, rf2, rt2, h_e2⟩ := h_es.ob hq_p2.1
        refine o_cis (k := cells) (n := slots) hK hP hD hS hA (o_rV (As := []) (rest := []) hf (l_empty _ _ _ _ _ _ _ _ (ea (P.getD i d4).1) ((EE (P.getD i d4).1).1) ((EE (P.getD i d4).1).2.1) ((EE (P.getD i d4).1).2.2.1) tx2 ((EE (P.getD i d4).1).2.2.2.2.length) ((EE (P.getD i d4).1).2.2.2.1) rf2 rt2 ((eRw (EE (P.getD i d4).1))) h_e2 _) k_817 k_1081 k_815 k_816 k_90 (nA := 0) (by decide +kernel) ⟨Nat.le_trans (by decide) hRf, Nat.le_trans (by decide) hRl⟩ hK hP hD hS hA hZ hN h_e2 rfl rfl rfl hl.1 rfl (Nat.le_of_ble_eq_true rfl) dX7_spanOf_49 ⟨(show cells + 0 ≤ R.cells by omega), (show slots + 0 ≤ R.slots by omega)⟩) (Nat.le_refl _) (Nat.le_refl _) (fun r H locs hw hP hD hS => ?_)
        rcases hw with ⟨c_4, rfl⟩ | ⟨c_4, rfl⟩
        · have hP := hP
          refine lv_if_eq (tgt := 58) hx hb dX7_spanOf_52 (by decide) (fun hno => absurd hno (by decide)) (fun _ => ?_)
          refine lv_iinc (v := nI (pspan EE P i + ((P.getD i d4).2.2.1) + 1 - pspan EE P fm - ((P.getD i d4).2.1))) (lv' := [(3, .int (nI (pspan EE P i + ((P.getD i d4).2.2.1) + 1 - pspan EE P fm - ((P.getD i d4).2.1)))), (5, .ref (pa.getD i 0)), (4, .int (nI i)), (0, .ref sl), (1, .int (nI fm)), (2, .int (nI to_))]) hx hb dX7_spanOf_55 hl (k := 0) rfl (nI_addE (a := pspan EE P i + ((P.getD i d4).2.2.1) - pspan EE P fm - ((P.getD i d4).2.1)) (b := 1) (by omega)) (by decide) rfl (fun ls hl => ?_)
          refine lv_iinc (v := nI (i + 1)) (lv' := [(4, .int (nI (i + 1))), (3, .int (nI (pspan EE P i + ((P.getD i d4).2.2.1) + 1 - pspan EE P fm - ((P.getD i d4).2.1)))), (5, .ref (pa.getD i 0)), (0, .ref sl), (1, .int (nI fm)), (2, .int (nI to_))]) hx hb dX7_spanOf_58 hl (k := 2) rfl (nI_addE (a := i) (b := 1) (by omega)) (by decide) rfl (fun ls hl => ?_)
          refine lv_goto (tgt := 5) hx hb dX7_spanOf_61 (by decide) ?_
          have e9 := pb_1 (show rp_he (EE (P.getD i d4).1).1 (P.getD i d4).2.1 from ⟨c_4.1, c_4.2, c_3⟩)
          have e8 : pspan EE P (i + 1) = pspan EE P i + ((P.getD i d4).2.2.1 - (P.getD i d4).2.1) + pb (rp_he (EE (P.getD i d4).1).1 (P.getD i d4).2.1) := rfl
          rw [show pspan EE P i + ((P.getD i d4).2.2.1) + 1 - pspan EE P fm - ((P.getD i d4).2.1) = (pspan EE P (i + 1) - pspan EE P fm) by omega] at hl
          exact ih (i + 1) H locs ls (by omega) (by omega) hP hD hS (lv_sub hl (l' := [(4, .int (nI (i + 1))), (3, .int (nI ((pspan EE P (i + 1) - pspan EE P fm)))), (0, .ref sl), (1, .int (nI fm)), (2, .int (nI to_))]) [0, 1, 3, 4, 5] rfl) kk
        · have hP := hP
          refine lv_if_eq (tgt := 58) hx hb dX7_spanOf_52 (by decide) (fun _ => ?_) (fun hno => absurd hno (by decide))
          refine lv_iinc (v := nI (i + 1)) (lv' := [(4, .int (nI (i + 1))), (3, .int (nI (pspan EE P i + ((P.getD i d4).2.2.1) - pspan EE P fm - ((P.getD i d4).2.1)))), (5, .ref (pa.getD i 0)), (0, .ref sl), (1, .int (nI fm)), (2, .int (nI to_))]) hx hb dX7_spanOf_58 hl (k := 2) rfl (nI_addE (a := i) (b := 1) (by omega)) (by decide) rfl (fun ls hl => ?_)
          refine lv_goto (tgt := 5) hx hb dX7_spanOf_61 (by decide) ?_
          have e9 := pb_0 (show ¬ rp_he (EE (P.getD i d4).1).1 (P.getD i d4).2.1 from fun z9 => c_4 ⟨z9.1, z9.2.1⟩)
          have e8 : pspan EE P (i + 1) = pspan EE P i + ((P.getD i d4).2.2.1 - (P.getD i d4).2.1) + pb (rp_he (EE (P.getD i d4).1).1 (P.getD i d4).2.1) := rfl
          rw [show pspan EE P i + ((P.getD i d4).2.2.1) - pspan EE P fm - ((P.getD i d4).2.1) = (pspan EE P (i + 1) - pspan EE P fm) by omega] at hl
          exact ih (i + 1) H locs ls (by omega) (by omega) hP hD hS (lv_sub hl (l' := [(4, .int (nI (i + 1))), (3, .int (nI ((pspan EE P (i + 1) - pspan EE P fm)))), (0, .ref sl), (1, .int (nI fm)), (2, .int (nI to_))]) [0, 1, 3, 4, 5] rfl) kk
      · have hP := hP
        refine lv_if_eq (tgt := 58) hx hb dX7_spanOf_41 (by decide) (fun _ => ?_) (fun hno => absurd hno (by decide))
        refine lv_iinc (v := nI (i + 1)) (lv' := [(4, .int (nI (i + 1))), (3, .int (nI (pspan EE P i + ((P.getD i d4).2.2.1) - pspan EE P fm - ((P.getD i d4).2.1)))), (5, .ref (pa.getD i 0)), (0, .ref sl), (1, .int (nI fm)), (2, .int (nI to_))]) hx hb dX7_spanOf_58 hl (k := 2) rfl (nI_addE (a := i) (b := 1) (by omega)) (by decide) rfl (fun ls hl => ?_)
        refine lv_goto (tgt := 5) hx hb dX7_spanOf_61 (by decide) ?_
        have e9 := pb_0 (show ¬ rp_he (EE (P.getD i d4).1).1 (P.getD i d4).2.1 from fun z9 => c_3 z9.2.2)
        have e8 : pspan EE P (i + 1) = pspan EE P i + ((P.getD i d4).2.2.1 - (P.getD i d4).2.1) + pb (rp_he (EE (P.getD i d4).1).1 (P.getD i d4).2.1) := rfl
        rw [show pspan EE P i + ((P.getD i d4).2.2.1) - pspan EE P fm - ((P.getD i d4).2.1) = (pspan EE P (i + 1) - pspan EE P fm) by omega] at hl
        exact ih (i + 1) H locs ls (by omega) (by omega) hP hD hS (lv_sub hl (l' := [(4, .int (nI (i + 1))), (3, .int (nI ((pspan EE P (i + 1) - pspan EE P fm)))), (0, .ref sl), (1, .int (nI fm)), (2, .int (nI to_))]) [0, 1, 3, 4, 5] rfl) kk
set_option maxHeartbeats 1000000 in
set_option maxRecDepth 100000 in
theorem sl_span (l : Launch) (D : va_G) (z : Nat → Nat) (cB cI_ cO : ClassId) (L0 : List Nat) (g0 : hG) (pr pcs spr nwh cp : Nat) (pa : List Nat) (ea : Nat → Nat) (P : List Q4) (ne : Nat) (EE : Nat → E5) (sl : Nat) (fm to_ : Nat) (h_pr : ho L0 g0 pr 13 (.inr (7, [.ref pcs, .ref spr, .ref nwh]))) (h_pcs : alR cO (z 0) 14 15 L0 g0 pcs cp pa) (h_pc : pcR L0 g0 ea pa P) (h_es : esR cB cI_ L0 g0 ea ne EE) (h_sl : ho L0 g0 sl 29 (.inr (8, [.ref pr]))) (hpa : pa.length ≤ 20000) (hQ : pq_ok ne EE P) (hft : fm ≤ to_) (hto : to_ ≤ pa.length) (hSn : qS P pa.length ≤ 8000) : eIs l D yX7_spanOf cX7_spanOf 6 (some .int) 8 200 0 0 [.ref sl, .int (nI fm), .int (nI to_)] z cB cI_ cO L0 g0 (fun r => r = nI (pspan EE P to_ - pspan EE P fm)) := by
  refine o_si (by decide) (Nat.le_of_ble_eq_true rfl) ?_
  intro p e s m below meth c A ls hf hr hlocks hin hK hP hD hS hA hZ hN hl
  obtain ⟨hx, hb, hml, hown, hts⟩ := id hf
  have hl : lv_has ls 6 [(0, .ref sl), (1, .int (nI fm)), (2, .int (nI to_))] := hl
  refine lv_iconst (v := 0) hx hb dX7_spanOf_0 (by decide) ?_
  refine lv_istore_n (lv' := [(3, .int 0), (0, .ref sl), (1, .int (nI fm)), (2, .int (nI to_))]) hx hb dX7_spanOf_1 rfl hl (by decide) rfl (fun ls hl => ?_)
  refine lv_iload_n hx hb dX7_spanOf_2 rfl (lv_at hl 2 rfl) ?_
  refine lv_istore (lv' := [(4, .int (nI fm)), (3, .int 0), (0, .ref sl), (1, .int (nI fm)), (2, .int (nI to_))]) hx hb dX7_spanOf_3 hl (by decide) rfl (fun ls hl => ?_)
  have e0 : (.int (nI (pspan EE P fm - pspan EE P fm)) : Value) = .int 0 := by rw [Nat.sub_self]; rfl
  have hl : lv_has ls 6 [(4, .int (nI fm)), (3, .int (nI ((pspan EE P fm - pspan EE P fm)))), (0, .ref sl), (1, .int (nI fm)), (2, .int (nI to_))] := by rw [e0]; exact lv_sub hl (l' := [(4, .int (nI fm)), (3, .int 0), (0, .ref sl), (1, .int (nI fm)), (2, .int (nI to_))]) [0, 1, 2, 3, 4] rfl
  refine so_loop  h_pr h_pcs h_pc h_es h_sl hpa hQ hft hto hSn (Nat.le_of_ble_eq_true rfl) (Nat.le_of_ble_eq_true rfl) (show 0 ≤ 0 by omega) (show 0 ≤ 0 by omega) hA hf hK hZ hN (to_ - fm) fm _ _ ls (by omega) (Nat.le_refl _) hP hD hS (lv_sub hl (l' := [(4, .int (nI fm)), (3, .int (nI ((pspan EE P fm - pspan EE P fm)))), (0, .ref sl), (1, .int (nI fm)), (2, .int (nI to_))]) [0, 1, 2, 3, 4] rfl) ?_
  · intro H locs ls hP hD hS hl
    refine lv_iload_n hx hb dX7_spanOf_64 rfl (lv_at hl 0 rfl) ?_
    exact o_ri hf hr rfl hlocks hK hP hD hS (show 0 ≤ 0 by omega) (show 0 ≤ 0 by omega) ⟨rfl, rfl, rfl⟩ dX7_spanOf_65
