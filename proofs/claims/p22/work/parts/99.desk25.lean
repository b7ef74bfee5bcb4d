abbrev cX9_digestOfElement : ByteArray := prog_1_method_32_code
def yX9_digestOfElement : MethodName := ⟨RX9, "digestOfElement", "(JI)J"⟩
abbrev cX9_digestOfGroup : ByteArray := prog_1_method_33_code
def yX9_digestOfGroup : MethodName := ⟨RX9, "digestOfGroup", "(JI)J"⟩
theorem k_730 : (Cond.instanceMethod yX9_element) ∈ gT := gT_i 730 (by decide +kernel) rfl
theorem k_731 : (Cond.selects RX9 yX9_element yX9_element) ∈ gT := gT_i 731 (by decide +kernel) rfl
theorem k_732 : (Cond.code yX9_element cX9_element 4 (some .int)) ∈ gT := gT_i 732 (by decide +kernel) rfl
theorem k_1124 : (Cond.constantLong RX9 290 (31)) ∈ gT := gT_i 1124 (by decide +kernel) rfl
theorem k_1130 : (Cond.methodLink RX9 311 yX9_element) ∈ gT := gT_i 1130 (by decide +kernel) rfl
theorem dX9_digestOfElement_58 : decode cX9_digestOfElement 58 = .ok (.iload 8, 2) := by decide +kernel
theorem dX9_digestOfElement_60 : decode cX9_digestOfElement 60 = .ok (.aload 6, 2) := by decide +kernel
theorem dX9_digestOfElement_62 : decode cX9_digestOfElement 62 = .ok (.iload 7, 2) := by decide +kernel
theorem dX9_digestOfElement_64 : decode cX9_digestOfElement 64 = .ok (.invokevirtual 142, 3) := by decide +kernel
theorem dX9_digestOfElement_67 : decode cX9_digestOfElement 67 = .ok (.if_icmp .ge 28, 3) := by decide +kernel
theorem dX9_digestOfElement_70 : decode cX9_digestOfElement 70 = .ok (.ldc2_w 290, 3) := by decide +kernel
theorem dX9_digestOfElement_73 : decode cX9_digestOfElement 73 = .ok (.lload 4, 2) := by decide +kernel
theorem dX9_digestOfElement_75 : decode cX9_digestOfElement 75 = .ok (.lmul, 1) := by decide +kernel
theorem dX9_digestOfElement_76 : decode cX9_digestOfElement 76 = .ok (.aload 6, 2) := by decide +kernel
theorem dX9_digestOfElement_78 : decode cX9_digestOfElement 78 = .ok (.iload 7, 2) := by decide +kernel
theorem dX9_digestOfElement_80 : decode cX9_digestOfElement 80 = .ok (.iload 8, 2) := by decide +kernel
theorem dX9_digestOfElement_82 : decode cX9_digestOfElement 82 = .ok (.invokevirtual 146, 3) := by decide +kernel
theorem dX9_digestOfElement_85 : decode cX9_digestOfElement 85 = .ok (.i2l, 1) := by decide +kernel
theorem dX9_digestOfElement_86 : decode cX9_digestOfElement 86 = .ok (.ladd, 1) := by decide +kernel
theorem dX9_digestOfElement_87 : decode cX9_digestOfElement 87 = .ok (.lstore 4, 2) := by decide +kernel
theorem dX9_digestOfElement_89 : decode cX9_digestOfElement 89 = .ok (.iinc 8 1, 3) := by decide +kernel
theorem dX9_digestOfElement_92 : decode cX9_digestOfElement 92 = .ok (.goto (-34), 3) := by decide +kernel
theorem dX9_digestOfElement_45 : decode cX9_digestOfElement 45 = .ok (.iload 7, 2) := by decide +kernel
theorem dX9_digestOfElement_47 : decode cX9_digestOfElement 47 = .ok (.aload 6, 2) := by decide +kernel
theorem dX9_digestOfElement_49 : decode cX9_digestOfElement 49 = .ok (.invokevirtual 136, 3) := by decide +kernel
theorem dX9_digestOfElement_52 : decode cX9_digestOfElement 52 = .ok (.if_icmp .ge 49, 3) := by decide +kernel
theorem dX9_digestOfElement_55 : decode cX9_digestOfElement 55 = .ok (.iconst 0, 1) := by decide +kernel
theorem dX9_digestOfElement_56 : decode cX9_digestOfElement 56 = .ok (.istore 8, 2) := by decide +kernel
theorem dX9_digestOfElement_95 : decode cX9_digestOfElement 95 = .ok (.iinc 7 1, 3) := by decide +kernel
theorem dX9_digestOfElement_98 : decode cX9_digestOfElement 98 = .ok (.goto (-53), 3) := by decide +kernel
theorem dX9_digestOfElement_0 : decode cX9_digestOfElement 0 = .ok (.lload_n 1, 1) := by decide +kernel
theorem dX9_digestOfElement_1 : decode cX9_digestOfElement 1 = .ok (.lstore 4, 2) := by decide +kernel
theorem dX9_digestOfElement_3 : decode cX9_digestOfElement 3 = .ok (.iconst 0, 1) := by decide +kernel
theorem dX9_digestOfElement_4 : decode cX9_digestOfElement 4 = .ok (.istore 6, 2) := by decide +kernel
theorem dX9_digestOfElement_6 : decode cX9_digestOfElement 6 = .ok (.iload 6, 2) := by decide +kernel
theorem dX9_digestOfElement_8 : decode cX9_digestOfElement 8 = .ok (.iconst 3, 1) := by decide +kernel
theorem dX9_digestOfElement_9 : decode cX9_digestOfElement 9 = .ok (.if_icmp .gt 26, 3) := by decide +kernel
theorem dX9_digestOfElement_12 : decode cX9_digestOfElement 12 = .ok (.ldc2_w 290, 3) := by decide +kernel
theorem dX9_digestOfElement_15 : decode cX9_digestOfElement 15 = .ok (.lload 4, 2) := by decide +kernel
theorem dX9_digestOfElement_17 : decode cX9_digestOfElement 17 = .ok (.lmul, 1) := by decide +kernel
theorem dX9_digestOfElement_18 : decode cX9_digestOfElement 18 = .ok (.aload_n 0, 1) := by decide +kernel
theorem dX9_digestOfElement_19 : decode cX9_digestOfElement 19 = .ok (.iload_n 3, 1) := by decide +kernel
theorem dX9_digestOfElement_20 : decode cX9_digestOfElement 20 = .ok (.iload 6, 2) := by decide +kernel
theorem dX9_digestOfElement_22 : decode cX9_digestOfElement 22 = .ok (.invokevirtual 311, 3) := by decide +kernel
theorem dX9_digestOfElement_25 : decode cX9_digestOfElement 25 = .ok (.i2l, 1) := by decide +kernel
theorem dX9_digestOfElement_26 : decode cX9_digestOfElement 26 = .ok (.ladd, 1) := by decide +kernel
theorem dX9_digestOfElement_27 : decode cX9_digestOfElement 27 = .ok (.lstore 4, 2) := by decide +kernel
theorem dX9_digestOfElement_29 : decode cX9_digestOfElement 29 = .ok (.iinc 6 1, 3) := by decide +kernel
theorem dX9_digestOfElement_32 : decode cX9_digestOfElement 32 = .ok (.goto (-26), 3) := by decide +kernel
theorem dX9_digestOfElement_35 : decode cX9_digestOfElement 35 = .ok (.aload_n 0, 1) := by decide +kernel
theorem dX9_digestOfElement_36 : decode cX9_digestOfElement 36 = .ok (.iload_n 3, 1) := by decide +kernel
theorem dX9_digestOfElement_37 : decode cX9_digestOfElement 37 = .ok (.invokevirtual 126, 3) := by decide +kernel
theorem dX9_digestOfElement_40 : decode cX9_digestOfElement 40 = .ok (.astore 6, 2) := by decide +kernel
theorem dX9_digestOfElement_42 : decode cX9_digestOfElement 42 = .ok (.iconst 0, 1) := by decide +kernel
theorem dX9_digestOfElement_43 : decode cX9_digestOfElement 43 = .ok (.istore 7, 2) := by decide +kernel
theorem dX9_digestOfElement_101 : decode cX9_digestOfElement 101 = .ok (.lload 4, 2) := by decide +kernel
theorem dX9_digestOfElement_103 : decode cX9_digestOfElement 103 = .ok (.lreturn, 1) := by decide +kernel
theorem dX9_digestOfGroup_31 : decode cX9_digestOfGroup 31 = .ok (.iload 6, 2) := by decide +kernel
theorem dX9_digestOfGroup_33 : decode cX9_digestOfGroup 33 = .ok (.aload_n 0, 1) := by decide +kernel
theorem dX9_digestOfGroup_34 : decode cX9_digestOfGroup 34 = .ok (.getfield 70, 3) := by decide +kernel
theorem dX9_digestOfGroup_37 : decode cX9_digestOfGroup 37 = .ok (.invokevirtual 217, 3) := by decide +kernel
theorem dX9_digestOfGroup_40 : decode cX9_digestOfGroup 40 = .ok (.if_icmp .ge 47, 3) := by decide +kernel
theorem dX9_digestOfGroup_43 : decode cX9_digestOfGroup 43 = .ok (.ldc2_w 290, 3) := by decide +kernel
theorem dX9_digestOfGroup_46 : decode cX9_digestOfGroup 46 = .ok (.lload 4, 2) := by decide +kernel
theorem dX9_digestOfGroup_48 : decode cX9_digestOfGroup 48 = .ok (.lmul, 1) := by decide +kernel
theorem dX9_digestOfGroup_49 : decode cX9_digestOfGroup 49 = .ok (.aload_n 0, 1) := by decide +kernel
theorem dX9_digestOfGroup_50 : decode cX9_digestOfGroup 50 = .ok (.getfield 70, 3) := by decide +kernel
theorem dX9_digestOfGroup_53 : decode cX9_digestOfGroup 53 = .ok (.iload 6, 2) := by decide +kernel
theorem dX9_digestOfGroup_55 : decode cX9_digestOfGroup 55 = .ok (.invokevirtual 227, 3) := by decide +kernel
theorem dX9_digestOfGroup_58 : decode cX9_digestOfGroup 58 = .ok (.i2l, 1) := by decide +kernel
theorem dX9_digestOfGroup_59 : decode cX9_digestOfGroup 59 = .ok (.ladd, 1) := by decide +kernel
theorem dX9_digestOfGroup_60 : decode cX9_digestOfGroup 60 = .ok (.lstore 4, 2) := by decide +kernel
theorem dX9_digestOfGroup_62 : decode cX9_digestOfGroup 62 = .ok (.ldc2_w 290, 3) := by decide +kernel
theorem dX9_digestOfGroup_65 : decode cX9_digestOfGroup 65 = .ok (.lload 4, 2) := by decide +kernel
theorem dX9_digestOfGroup_67 : decode cX9_digestOfGroup 67 = .ok (.lmul, 1) := by decide +kernel
theorem dX9_digestOfGroup_68 : decode cX9_digestOfGroup 68 = .ok (.aload_n 0, 1) := by decide +kernel
theorem dX9_digestOfGroup_69 : decode cX9_digestOfGroup 69 = .ok (.getfield 70, 3) := by decide +kernel
theorem dX9_digestOfGroup_72 : decode cX9_digestOfGroup 72 = .ok (.iload 6, 2) := by decide +kernel
theorem dX9_digestOfGroup_74 : decode cX9_digestOfGroup 74 = .ok (.invokevirtual 230, 3) := by decide +kernel
theorem dX9_digestOfGroup_77 : decode cX9_digestOfGroup 77 = .ok (.i2l, 1) := by decide +kernel
theorem dX9_digestOfGroup_78 : decode cX9_digestOfGroup 78 = .ok (.ladd, 1) := by decide +kernel
theorem dX9_digestOfGroup_79 : decode cX9_digestOfGroup 79 = .ok (.lstore 4, 2) := by decide +kernel
theorem dX9_digestOfGroup_81 : decode cX9_digestOfGroup 81 = .ok (.iinc 6 1, 3) := by decide +kernel
theorem dX9_digestOfGroup_84 : decode cX9_digestOfGroup 84 = .ok (.goto (-53), 3) := by decide +kernel
theorem dX9_digestOfGroup_0 : decode cX9_digestOfGroup 0 = .ok (.aload_n 0, 1) := by decide +kernel
theorem dX9_digestOfGroup_1 : decode cX9_digestOfGroup 1 = .ok (.getfield 70, 3) := by decide +kernel
theorem dX9_digestOfGroup_4 : decode cX9_digestOfGroup 4 = .ok (.iload_n 3, 1) := by decide +kernel
theorem dX9_digestOfGroup_5 : decode cX9_digestOfGroup 5 = .ok (.aload_n 0, 1) := by decide +kernel
theorem dX9_digestOfGroup_6 : decode cX9_digestOfGroup 6 = .ok (.getfield 81, 3) := by decide +kernel
theorem dX9_digestOfGroup_9 : decode cX9_digestOfGroup 9 = .ok (.invokevirtual 213, 3) := by decide +kernel
theorem dX9_digestOfGroup_12 : decode cX9_digestOfGroup 12 = .ok (.ldc2_w 290, 3) := by decide +kernel
theorem dX9_digestOfGroup_15 : decode cX9_digestOfGroup 15 = .ok (.lload_n 1, 1) := by decide +kernel
theorem dX9_digestOfGroup_16 : decode cX9_digestOfGroup 16 = .ok (.lmul, 1) := by decide +kernel
theorem dX9_digestOfGroup_17 : decode cX9_digestOfGroup 17 = .ok (.aload_n 0, 1) := by decide +kernel
theorem dX9_digestOfGroup_18 : decode cX9_digestOfGroup 18 = .ok (.getfield 70, 3) := by decide +kernel
theorem dX9_digestOfGroup_21 : decode cX9_digestOfGroup 21 = .ok (.invokevirtual 217, 3) := by decide +kernel
theorem dX9_digestOfGroup_24 : decode cX9_digestOfGroup 24 = .ok (.i2l, 1) := by decide +kernel
theorem dX9_digestOfGroup_25 : decode cX9_digestOfGroup 25 = .ok (.ladd, 1) := by decide +kernel
theorem dX9_digestOfGroup_26 : decode cX9_digestOfGroup 26 = .ok (.lstore 4, 2) := by decide +kernel
theorem dX9_digestOfGroup_28 : decode cX9_digestOfGroup 28 = .ok (.iconst 0, 1) := by decide +kernel
theorem dX9_digestOfGroup_29 : decode cX9_digestOfGroup 29 = .ok (.istore 6, 2) := by decide +kernel
theorem dX9_digestOfGroup_87 : decode cX9_digestOfGroup 87 = .ok (.lload 4, 2) := by decide +kernel
theorem dX9_digestOfGroup_89 : decode cX9_digestOfGroup 89 = .ok (.lreturn, 1) := by decide +kernel
set_option maxHeartbeats 1000000 in
set_option maxRecDepth 100000 in
theorem de_i {p : Program} {l : Launch} {e : Env} {R : Room} {s : State} {m : MethodId} {args : Array Value} {below : List Frame} {meth : Method} {c : Code} {Q : State → Prop} {D : va_G} {A : Nat → Prop} {z : Nat → Nat} {cB cI_ cO : ClassId} {L0 : List Nat} {g0 : hG} {cells slots : Nat} {el tx rf rt rn w : Nat} {kd nm sk : Int32} {M nX N0 : Nat} {f1 f2 tf : Nat → Int32} {row a b : Nat} (h_el : ho L0 g0 el 9 (.inr (2, [.int kd, .int nm, .int sk, .ref tx, .int (nI nX), .int (nI w), .ref rf, .ref rt, .int (nI rn)]))) (h_rf : ho L0 g0 rf 11 (.inl (cI_, M, .inl f1))) (h_rt : ho L0 g0 rt 12 (.inl (cI_, M, .inl f2))) (h_tx : ho L0 g0 tx 10 (.inl (cB, N0, .inl tf))) (hrow : row < rn) (hM : rn ≤ M) (hM2 : M ≤ 200) (ha : f1 row = nI a) (hb_ : f2 row = nI b) (hab : a ≤ b) (hbN : b ≤ N0) (hN0 : N0 ≤ 1200) (hRf : 3 ≤ R.frames) (hRl : 60 ≤ R.locals) (hRc : cells ≤ R.cells) (hRs : slots ≤ R.slots) (hA : ∀ q : Nat, s.heap.size ≤ q → A q) (hf : CallFix p m c cX9_digestOfElement 9 s args gT yX9_digestOfElement.cls) (hK : va_K D vcl (dT cB cI_ cO) s) (hZ : zA z A s s.heap) (hN : zB z s) :
    ∀ (k : Nat) (i : Nat) (hh : Int64) (H : Heap) (locs : List Loc) (ls : Array Slot), i + k = b - a → va_P D vcl (dW L0 g0) H → va_D A (dW L0 g0) → va_S A s.heap H locs → lv_has ls 9 [(8, .int (nI i)), (4, .long hh), (6, .ref el), (7, .int (nI row))] →
    (∀ (hh : Int64) (H : Heap) (locs : List Loc) (ls : Array Slot), va_P D vcl (dW L0 g0) H → va_D A (dW L0 g0) → va_S A s.heap H locs → lv_has ls 9 [(4, .long hh), (6, .ref el), (7, .int (nI row))] → W p l e R s m args below meth c H locs cells slots Q (F0 m 95 ls [])) →
    W p l e R s m args below meth c H locs cells slots Q (F0 m 58 ls []) := by
  obtain ⟨hx, hb, hml, hown, hts⟩ := id hf
  intro k
  induction k with
  | zero =>
    intro i hh H locs ls hik hP hD hS hl kk
    refine lv_iload hx hb dX9_digestOfElement_58 (lv_at hl 0 rfl) ?_
    refine lv_aload hx hb dX9_digestOfElement_60 (lv_at hl 2 rfl) ?_
    refine lv_iload hx hb dX9_digestOfElement_62 (lv_at hl 3 rfl) ?_
    refine o_cis (k := cells) (n := slots) hK hP hD hS hA (o_rV (As := [.int (nI row)]) (rest := [.int (nI i)]) hf (l_rlen _ _ _ _ _ _ _ _ el tx rf rt rn w kd nm sk M nX f1 f2 row a b h_el h_rf h_rt hrow hM hM2 ha hb_ hab (by omega) _) k_752 k_749 k_750 k_751 k_90 (nA := 1) (by decide +kernel) ⟨Nat.le_trans (by decide) hRf, Nat.le_trans (by decide) hRl⟩ hK hP hD hS hA hZ hN h_el rfl rfl rfl hl.1 rfl (Nat.le_of_ble_eq_true rfl) dX9_digestOfElement_64 ⟨(show cells + 0 ≤ R.cells by omega), (show slots + 0 ≤ R.slots by omega)⟩) (Nat.le_refl _) (Nat.le_refl _) (fun r H locs hw hP hD hS => ?_)
    obtain rfl := hw
    refine lv_icmp_ge (tgt := 95) hx hb dX9_digestOfElement_67 (by decide) (fun c_1 => ?_) (fun c_1 => ?_)
    · have c_1 := q_le (a := (b - a)) (b := i) (by omega) (by omega) c_1
      exact kk _ H locs ls hP hD hS (lv_sub hl (l' := [(4, .long hh), (6, .ref el), (7, .int (nI row))]) [1, 2, 3] rfl)
    · have c_1 := q_nle (a := (b - a)) (b := i) (by omega) (by omega) c_1
      exact False.elim (by omega)
  | succ k ih =>
    intro i hh H locs ls hik hP hD hS hl kk
    refine lv_iload hx hb dX9_digestOfElement_58 (lv_at hl 0 rfl) ?_
    refine lv_aload hx hb dX9_digestOfElement_60 (lv_at hl 2 rfl) ?_
    refine lv_iload hx hb dX9_digestOfElement_62 (lv_at hl 3 rfl) ?_
    refine o_cis (k := cells) (n := slots) hK hP hD hS hA (o_rV (As := [.int (nI row)]) (rest := [.int (nI i)]) hf (l_rlen _ _ _ _ _ _ _ _ el tx rf rt rn w kd nm sk M nX f1 f2 row a b h_el h_rf h_rt hrow hM hM2 ha hb_ hab (by omega) _) k_752 k_749 k_750 k_751 k_90 (nA := 1) (by decide +kernel) ⟨Nat.le_trans (by decide) hRf, Nat.le_trans (by decide) hRl⟩ hK hP hD hS hA hZ hN h_el rfl rfl rfl hl.1 rfl (Nat.le_of_ble_eq_true rfl) dX9_digestOfElement_64 ⟨(show cells + 0 ≤ R.cells by omega), (show slots + 0 ≤ R.slots by omega)⟩) (Nat.le_refl _) (Nat.le_refl _) (fun r H locs hw hP hD hS => ?_)
    obtain rfl := hw
    refine lv_icmp_ge (tgt := 95) hx hb dX9_digestOfElement_67 (by decide) (fun c_1 => ?_) (fun c_1 => ?_)
    · have c_1 := q_le (a := (b - a)) (b := i) (by omega) (by omega) c_1
      exact False.elim (by omega)
    · have c_1 := q_nle (a := (b - a)) (b := i) (by omega) (by omega) c_1
      refine lv_ldc2 (v := 31) hx hb hown (hts _ k_1124) dX9_digestOfElement_70 ?_
      refine lv_lload hx hb dX9_digestOfElement_73 (lv_at hl 1 rfl) ?_
      refine lv_lmul hx hb dX9_digestOfElement_75 ?_
      refine lv_aload hx hb dX9_digestOfElement_76 (lv_at hl 2 rfl) ?_
      refine lv_iload hx hb dX9_digestOfElement_78 (lv_at hl 3 rfl) ?_
      refine lv_iload hx hb dX9_digestOfElement_80 (lv_at hl 0 rfl) ?_
      refine o_cis (k := cells) (n := slots) hK hP hD hS hA (o_rV (As := [.int (nI row), .int (nI i)]) (rest := [.long (31 * hh)]) hf (l_rbyte _ _ _ _ _ _ _ _ el tx rf rt rn w kd nm sk M nX f1 f2 row a b N0 i tf h_el h_rf h_rt h_tx hrow hM hM2 ha hb_ hab (by omega) (by omega) hbN hN0 _) k_756 k_753 k_754 k_755 k_90 (nA := 2) (by decide +kernel) ⟨Nat.le_trans (by decide) hRf, Nat.le_trans (by decide) hRl⟩ hK hP hD hS hA hZ hN h_el rfl rfl rfl hl.1 rfl (Nat.le_of_ble_eq_true rfl) dX9_digestOfElement_82 ⟨(show cells + 0 ≤ R.cells by omega), (show slots + 0 ≤ R.slots by omega)⟩) (Nat.le_refl _) (Nat.le_refl _) (fun r H locs hw hP hD hS => ?_)
      obtain rfl := hw
      refine lv_i2l (v := ((tf (a + i))).toInt64) hx hb dX9_digestOfElement_85 rfl ?_
      refine lv_ladd hx hb dX9_digestOfElement_86 ?_
      refine lv_lstore (lv' := [(4, .long ((31 * hh) + ((tf (a + i))).toInt64)), (8, .int (nI i)), (6, .ref el), (7, .int (nI row))]) hx hb dX9_digestOfElement_87 hl (by decide) rfl (fun ls hl => ?_)
      refine lv_iinc (v := nI (i + 1)) (lv' := [(8, .int (nI (i + 1))), (4, .long ((31 * hh) + ((tf (a + i))).toInt64)), (6, .ref el), (7, .int (nI row))]) hx hb dX9_digestOfElement_89 hl (k := 1) rfl (nI_addE (a := i) (b := 1) (by omega)) (by decide) rfl (fun ls hl => ?_)
      refine lv_goto (tgt := 58) hx hb dX9_digestOfElement_92 (by decide) ?_
      exact ih (i + 1) _ H locs ls (by omega) hP hD hS (lv_sub hl (l' := [(8, .int (nI (i + 1))), (4, .long ((31 * hh) + ((tf (a + i))).toInt64)), (6, .ref el), (7, .int (nI row))]) [0, 1, 2, 3] rfl) kk
set_option maxHeartbeats 1000000 in
set_option maxRecDepth 100000 in
theorem de_o {p : Program} {l : Launch} {e : Env} {R : Room} {s : State} {m : MethodId} {args : Array Value} {below : List Frame} {meth : Method} {c : Code} {Q : State → Prop} {D : va_G} {A : Nat → Prop} {z : Nat → Nat} {cB cI_ cO : ClassId} {L0 : List Nat} {g0 : hG} {cells slots : Nat} {el tx rf rt rn w : Nat} {kd nm sk : Int32} {M nX N0 : Nat} {f1 f2 tf : Nat → Int32} (h_el : ho L0 g0 el 9 (.inr (2, [.int kd, .int nm, .int sk, .ref tx, .int (nI nX), .int (nI w), .ref rf, .ref rt, .int (nI rn)]))) (h_rf : ho L0 g0 rf 11 (.inl (cI_, M, .inl f1))) (h_rt : ho L0 g0 rt 12 (.inl (cI_, M, .inl f2))) (h_tx : ho L0 g0 tx 10 (.inl (cB, N0, .inl tf))) (hM : rn ≤ M) (hM2 : M ≤ 200) (hN0 : N0 ≤ 1200) (hrow_ : ∀ row, row < rn → ∃ a b : Nat, f1 row = nI a ∧ f2 row = nI b ∧ a ≤ b ∧ b ≤ N0 ∧ b - a ≤ 40) (hRf : 4 ≤ R.frames) (hRl : 90 ≤ R.locals) (hRc : cells ≤ R.cells) (hRs : slots ≤ R.slots) (hA : ∀ q : Nat, s.heap.size ≤ q → A q) (hf : CallFix p m c cX9_digestOfElement 9 s args gT yX9_digestOfElement.cls) (hK : va_K D vcl (dT cB cI_ cO) s) (hZ : zA z A s s.heap) (hN : zB z s) :
    ∀ (k : Nat) (row : Nat) (hh : Int64) (H : Heap) (locs : List Loc) (ls : Array Slot), row + k = rn → va_P D vcl (dW L0 g0) H → va_D A (dW L0 g0) → va_S A s.heap H locs → lv_has ls 9 [(7, .int (nI row)), (4, .long hh), (6, .ref el)] →
    (∀ (hh : Int64) (H : Heap) (locs : List Loc) (ls : Array Slot), va_P D vcl (dW L0 g0) H → va_D A (dW L0 g0) → va_S A s.heap H locs → lv_has ls 9 [(4, .long hh)] → W p l e R s m args below meth c H locs cells slots Q (F0 m 101 ls [])) →
    W p l e R s m args below meth c H locs cells slots Q (F0 m 45 ls []) := by
  obtain ⟨hx, hb, hml, hown, hts⟩ := id hf
  intro k
  induction k with
  | zero =>
    intro row hh H locs ls hik hP hD hS hl kk
    refine lv_iload hx hb dX9_digestOfElement_45 (lv_at hl 0 rfl) ?_
    refine lv_aload hx hb dX9_digestOfElement_47 (lv_at hl 2 rfl) ?_
    refine o_cis (k := cells) (n := slots) hK hP hD hS hA (o_rV (As := []) (rest := [.int (nI row)]) hf (l_rows _ _ _ _ _ _ _ _ el kd nm sk tx nX w rf rt rn h_el _) k_695 k_692 k_693 k_694 k_90 (nA := 0) (by decide +kernel) ⟨Nat.le_trans (by decide) hRf, Nat.le_trans (by decide) hRl⟩ hK hP hD hS hA hZ hN h_el rfl rfl rfl hl.1 rfl (Nat.le_of_ble_eq_true rfl) dX9_digestOfElement_49 ⟨(show cells + 0 ≤ R.cells by omega), (show slots + 0 ≤ R.slots by omega)⟩) (Nat.le_refl _) (Nat.le_refl _) (fun r H locs hw hP hD hS => ?_)
    obtain rfl := hw
    refine lv_icmp_ge (tgt := 101) hx hb dX9_digestOfElement_52 (by decide) (fun c_1 => ?_) (fun c_1 => ?_)
    · have c_1 := q_le (a := rn) (b := row) (by omega) (by omega) c_1
      exact kk _ H locs ls hP hD hS (lv_sub hl (l' := [(4, .long hh)]) [1] rfl)
    · have c_1 := q_nle (a := rn) (b := row) (by omega) (by omega) c_1
      refine lv_iconst (v := 0) hx hb dX9_digestOfElement_55 (by decide) ?_
      refine lv_istore (lv' := [(8, .int 0), (7, .int (nI row)), (4, .long hh), (6, .ref el)]) hx hb dX9_digestOfElement_56 hl (by decide) rfl (fun ls hl => ?_)
      exact False.elim (by omega)
  | succ k ih =>
    intro row hh H locs ls hik hP hD hS hl kk
    refine lv_iload hx hb dX9_digestOfElement_45 (lv_at hl 0 rfl) ?_
    refine lv_aload hx hb dX9_digestOfElement_47 (lv_at hl 2 rfl) ?_
    refine o_cis (k := cells) (n := slots) hK hP hD hS hA (o_rV (As := []) (rest := [.int (nI row)]) hf (l_rows _ _ _ _ _ _ _ _ el kd nm sk tx nX w rf rt rn h_el _) k_695 k_692 k_693 k_694 k_90 (nA := 0) (by decide +kernel) ⟨Nat.le_trans (by decide) hRf, Nat.le_trans (by decide) hRl⟩ hK hP hD hS hA hZ hN h_el rfl rfl rfl hl.1 rfl (Nat.le_of_ble_eq_true rfl) dX9_digestOfElement_49 ⟨(show cells + 0 ≤ R.cells by omega), (show slots + 0 ≤ R.slots by omega)⟩) (Nat.le_refl _) (Nat.le_refl _) (fun r H locs hw hP hD hS => ?_)
    obtain rfl := hw
    refine lv_icmp_ge (tgt := 101) hx hb dX9_digestOfElement_52 (by decide) (fun c_1 => ?_) (fun c_1 => ?_)
    · have c_1 := q_le (a := rn) (b := row) (by omega) (by omega) c_1
      exact False.elim (by omega)
    · have c_1 := q_nle (a := rn) (b := row) (by omega) (by omega) c_1
      refine lv_iconst (v := 0) hx hb dX9_digestOfElement_55 (by decide) ?_
      refine lv_istore (lv' := [(8, .int 0), (7, .int (nI row)), (4, .long hh), (6, .ref el)]) hx hb dX9_digestOfElement_56 hl (by decide) rfl (fun ls hl => ?_)
      obtain ⟨a, b, ha, hb_, hab, hbN, hba⟩ := hrow_ row (by omega)
      refine de_i  h_el h_rf h_rt h_tx (show row < rn by omega) hM hM2 ha hb_ hab hbN hN0 (Nat.le_trans (by decide) hRf) (Nat.le_trans (by decide) hRl) (show cells ≤ R.cells by omega) (show slots ≤ R.slots by omega) hA hf hK hZ hN (b - a) 0 _ _ _ ls (by omega) hP hD hS (lv_sub hl (l' := [(8, .int 0), (4, .long hh), (6, .ref el), (7, .int (nI row))]) [0, 2, 3, 1] rfl) ?_
      · intro hh H locs ls hP hD hS hl
        refine lv_iinc (v := nI (row + 1)) (lv' := [(7, .int (nI (row + 1))), (4, .long hh), (6, .ref el)]) hx hb dX9_digestOfElement_95 hl (k := 2) rfl (nI_addE (a := row) (b := 1) (by omega)) (by decide) rfl (fun ls hl => ?_)
        refine lv_goto (tgt := 45) hx hb dX9_digestOfElement_98 (by decide) ?_
        exact ih (row + 1) _ H locs ls (by omega) hP hD hS (lv_sub hl (l' := [(7, .int (nI (row + 1))), (4, .long hh), (6, .ref el)]) [0, 1, 2] rfl) kk
set_option maxHeartbeats 1000000 in
set_option maxRecDepth 100000 in
theorem d_dge (l : Launch) (D : va_G) (z : Nat → Nat) (cB cI_ cO : ClassId) (L0 : List Nat) (g0 : hG) (dk tp rd els reo nob pr bk gl sl mo : Nat) (v10 v11 : Int32) (cap : Nat) (xs : List Nat) (Es : List E5) (hh : Int64) (j : Nat) (h_dk : ho L0 g0 dk 1 (.inr (10, [.ref tp, .ref rd, .ref els, .ref reo, .ref nob, .ref pr, .ref bk, .ref gl, .ref sl, .int (nI mo), .int v10, .int v11]))) (h_els : alR cO (z 0) 5 6 L0 g0 els cap xs) (h_es : elsR cB cI_ L0 g0 xs Es) (hxl : xs.length ≤ 60) (hj : j < xs.length) : eLs l D yX9_digestOfElement cX9_digestOfElement 9 (some .long) 5 108 0 0 [.ref dk, .long hh, .int (nI j)] z cB cI_ cO L0 g0 (fun r => True) := by
  refine o_sl (by decide) (Nat.le_of_ble_eq_true rfl) ?_
  intro p e s m below meth c A ls hf hr hlocks hin hK hP hD hS hA hZ hN hl
  obtain ⟨hx, hb, hml, hown, hts⟩ := id hf
  have hl : lv_has ls 9 [(0, .ref dk), (1, .long hh), (3, .int (nI j))] := hl
  refine lv_lload_n hx hb dX9_digestOfElement_0 rfl (lv_at hl 1 rfl) ?_
  refine lv_lstore (lv' := [(4, .long hh), (0, .ref dk), (1, .long hh), (3, .int (nI j))]) hx hb dX9_digestOfElement_1 hl (by decide) rfl (fun ls hl => ?_)
  refine lv_iconst (v := 0) hx hb dX9_digestOfElement_3 (by decide) ?_
  refine lv_istore (lv' := [(6, .int 0), (4, .long hh), (0, .ref dk), (1, .long hh), (3, .int (nI j))]) hx hb dX9_digestOfElement_4 hl (by decide) rfl (fun ls hl => ?_)
  refine lv_iload hx hb dX9_digestOfElement_6 (lv_at hl 0 rfl) ?_
  refine lv_iconst (v := 3) hx hb dX9_digestOfElement_8 (by decide) ?_
  refine lv_icmp_gt (tgt := 35) hx hb dX9_digestOfElement_9 (by decide) (fun hno => absurd hno (by decide)) (fun _ => ?_)
  refine lv_ldc2 (v := 31) hx hb hown (hts _ k_1124) dX9_digestOfElement_12 ?_
  refine lv_lload hx hb dX9_digestOfElement_15 (lv_at hl 1 rfl) ?_
  refine lv_lmul hx hb dX9_digestOfElement_17 ?_
  refine lv_aload_n hx hb dX9_digestOfElement_18 rfl (lv_at hl 2 rfl) ?_
  refine lv_iload_n hx hb dX9_digestOfElement_19 rfl (lv_at hl 4 rfl) ?_
  refine lv_iload hx hb dX9_digestOfElement_20 (lv_at hl 0 rfl) ?_
  refine o_cis (k := 0) (n := 0) hK hP hD hS hA (o_rV (As := [.int (nI j), .int 0]) (rest := [.long (31 * hh)]) hf (d_el _ _ _ _ _ _ _ _ dk tp rd els reo nob pr bk gl sl mo v10 v11 cap xs Es (nI j) 0 h_dk h_els h_es hxl _) k_732 k_1130 k_730 k_731 k_84 (nA := 2) (by decide +kernel) ⟨Nat.le_of_ble_eq_true rfl, Nat.le_of_ble_eq_true rfl⟩ hK hP hD hS hA hZ hN h_dk rfl rfl rfl hl.1 rfl (Nat.le_of_ble_eq_true rfl) dX9_digestOfElement_22 ⟨(show 0 + 0 ≤ 0 by omega), (show 0 + 0 ≤ 0 by omega)⟩) (Nat.le_refl _) (Nat.le_refl _) (fun r H locs hw hP hD hS => ?_)
  obtain _ := hw
  refine lv_i2l (v := (r).toInt64) hx hb dX9_digestOfElement_25 rfl ?_
  refine lv_ladd hx hb dX9_digestOfElement_26 ?_
  refine lv_lstore (lv' := [(4, .long ((31 * hh) + (r).toInt64)), (6, .int 0), (0, .ref dk), (1, .long hh), (3, .int (nI j))]) hx hb dX9_digestOfElement_27 hl (by decide) rfl (fun ls hl => ?_)
  obtain ⟨hh_1, ehh_1⟩ : ∃ x : Int64, x = ((31 * hh) + (r).toInt64) := ⟨_, rfl⟩
  rw [← ehh_1] at hl
  refine lv_iinc (v := 1) (lv' := [(6, .int 1), (4, .long hh_1), (0, .ref dk), (1, .long hh), (3, .int (nI j))]) hx hb dX9_digestOfElement_29 hl (k := 1) rfl (by decide) (by decide) rfl (fun ls hl => ?_)
  refine lv_goto (tgt := 6) hx hb dX9_digestOfElement_32 (by decide) ?_
  refine lv_iload hx hb dX9_digestOfElement_6 (lv_at hl 0 rfl) ?_
  refine lv_iconst (v := 3) hx hb dX9_digestOfElement_8 (by decide) ?_
  refine lv_icmp_gt (tgt := 35) hx hb dX9_digestOfElement_9 (by decide) (fun hno => absurd hno (by decide)) (fun _ => ?_)
  refine lv_ldc2 (v := 31) hx hb hown (hts _ k_1124) dX9_digestOfElement_12 ?_
  refine lv_lload hx hb dX9_digestOfElement_15 (lv_at hl 1 rfl) ?_
  refine lv_lmul hx hb dX9_digestOfElement_17 ?_
  refine lv_aload_n hx hb dX9_digestOfElement_18 rfl (lv_at hl 2 rfl) ?_
  refine lv_iload_n hx hb dX9_digestOfElement_19 rfl (lv_at hl 4 rfl) ?_
  refine lv_iload hx hb dX9_digestOfElement_20 (lv_at hl 0 rfl) ?_
  refine o_cis (k := 0) (n := 0) hK hP hD hS hA (o_rV (As := [.int (nI j), .int 1]) (rest := [.long (31 * hh_1)]) hf (d_el _ _ _ _ _ _ _ _ dk tp rd els reo nob pr bk gl sl mo v10 v11 cap xs Es (nI j) 1 h_dk h_els h_es hxl _) k_732 k_1130 k_730 k_731 k_84 (nA := 2) (by decide +kernel) ⟨Nat.le_of_ble_eq_true rfl, Nat.le_of_ble_eq_true rfl⟩ hK hP hD hS hA hZ hN h_dk rfl rfl rfl hl.1 rfl (Nat.le_of_ble_eq_true rfl) dX9_digestOfElement_22 ⟨(show 0 + 0 ≤ 0 by omega), (show 0 + 0 ≤ 0 by omega)⟩) (Nat.le_refl _) (Nat.le_refl _) (fun r H locs hw hP hD hS => ?_)
  obtain _ := hw
  refine lv_i2l (v := (r).toInt64) hx hb dX9_digestOfElement_25 rfl ?_
  refine lv_ladd hx hb dX9_digestOfElement_26 ?_
  refine lv_lstore (lv' := [(4, .long ((31 * hh_1) + (r).toInt64)), (6, .int 1), (0, .ref dk), (1, .long hh), (3, .int (nI j))]) hx hb dX9_digestOfElement_27 hl (by decide) rfl (fun ls hl => ?_)
  obtain ⟨hh_2, ehh_2⟩ : ∃ x : Int64, x = ((31 * hh_1) + (r).toInt64) := ⟨_, rfl⟩
  rw [← ehh_2] at hl
  refine lv_iinc (v := 2) (lv' := [(6, .int 2), (4, .long hh_2), (0, .ref dk), (1, .long hh), (3, .int (nI j))]) hx hb dX9_digestOfElement_29 hl (k := 1) rfl (by decide) (by decide) rfl (fun ls hl => ?_)
  refine lv_goto (tgt := 6) hx hb dX9_digestOfElement_32 (by decide) ?_
  refine lv_iload hx hb dX9_digestOfElement_6 (lv_at hl 0 rfl) ?_
  refine lv_iconst (v := 3) hx hb dX9_digestOfElement_8 (by decide) ?_
  refine lv_icmp_gt (tgt := 35) hx hb dX9_digestOfElement_9 (by decide) (fun hno => absurd hno (by decide)) (fun _ => ?_)
  refine lv_ldc2 (v := 31) hx hb hown (hts _ k_1124) dX9_digestOfElement_12 ?_
  refine lv_lload hx hb dX9_digestOfElement_15 (lv_at hl 1 rfl) ?_
  refine lv_lmul hx hb dX9_digestOfElement_17 ?_
  refine lv_aload_n hx hb dX9_digestOfElement_18 rfl (lv_at hl 2 rfl) ?_
  refine lv_iload_n hx hb dX9_digestOfElement_19 rfl (lv_at hl 4 rfl) ?_
  refine lv_iload hx hb dX9_digestOfElement_20 (lv_at hl 0 rfl) ?_
  refine o_cis (k := 0) (n := 0) hK hP hD hS hA (o_rV (As := [.int (nI j), .int 2]) (rest := [.long (31 * hh_2)]) hf (d_el _ _ _ _ _ _ _ _ dk tp rd els reo nob pr bk gl sl mo v10 v11 cap xs Es (nI j) 2 h_dk h_els h_es hxl _) k_732 k_1130 k_730 k_731 k_84 (nA := 2) (by decide +kernel) ⟨Nat.le_of_ble_eq_true rfl, Nat.le_of_ble_eq_true rfl⟩ hK hP hD hS hA hZ hN h_dk rfl rfl rfl hl.1 rfl (Nat.le_of_ble_eq_true rfl) dX9_digestOfElement_22 ⟨(show 0 + 0 ≤ 0 by omega), (show 0 + 0 ≤ 0 by omega)⟩) (Nat.le_refl _) (Nat.le_refl _) (fun r H locs hw hP hD hS => ?_)
  obtain _ := hw
  refine lv_i2l (v := (r).toInt64) hx hb dX9_digestOfElement_25 rfl ?_
  refine lv_ladd hx hb dX9_digestOfElement_26 ?_
  refine lv_lstore (lv' := [(4, .long ((31 * hh_2) + (r).toInt64)), (6, .int 2), (0, .ref dk), (1, .long hh), (3, .int (nI j))]) hx hb dX9_digestOfElement_27 hl (by decide) rfl (fun ls hl => ?_)
  obtain ⟨hh_3, ehh_3⟩ : ∃ x : Int64, x = ((31 * hh_2) + (r).toInt64) := ⟨_, rfl⟩
  rw [← ehh_3] at hl
  refine lv_iinc (v := 3) (lv' := [(6, .int 3), (4, .long hh_3), (0, .ref dk), (1, .long hh), (3, .int (nI j))]) hx hb dX9_digestOfElement_29 hl (k := 1) rfl (by decide) (by decide) rfl (fun ls hl => ?_)
  refine lv_goto (tgt := 6) hx hb dX9_digestOfElement_32 (by decide) ?_
  refine lv_iload hx hb dX9_digestOfElement_6 (lv_at hl 0 rfl) ?_
  refine lv_iconst (v := 3) hx hb dX9_digestOfElement_8 (by decide) ?_
  refine lv_icmp_gt (tgt := 35) hx hb dX9_digestOfElement_9 (by decide) (fun hno => absurd hno (by decide)) (fun _ => ?_)
  refine lv_ldc2 (v := 31) hx hb hown (hts _ k_1124) dX9_digestOfElement_12 ?_
  refine lv_lload hx hb dX9_digestOfElement_15 (lv_at hl 1 rfl) ?_
  refine lv_lmul hx hb dX9_digestOfElement_17 ?_
  refine lv_aload_n hx hb dX9_digestOfElement_18 rfl (lv_at hl 2 rfl) ?_
  refine lv_iload_n hx hb dX9_digestOfElement_19 rfl (lv_at hl 4 rfl) ?_
  refine lv_iload hx hb dX9_digestOfElement_20 (lv_at hl 0 rfl) ?_
  refine o_cis (k := 0) (n := 0) hK hP hD hS hA (o_rV (As := [.int (nI j), .int 3]) (rest := [.long (31 * hh_3)]) hf (d_el _ _ _ _ _ _ _ _ dk tp rd els reo nob pr bk gl sl mo v10 v11 cap xs Es (nI j) 3 h_dk h_els h_es hxl _) k_732 k_1130 k_730 k_731 k_84 (nA := 2) (by decide +kernel) ⟨Nat.le_of_ble_eq_true rfl, Nat.le_of_ble_eq_true rfl⟩ hK hP hD hS hA hZ hN h_dk rfl rfl rfl hl.1 rfl (Nat.le_of_ble_eq_true rfl) dX9_digestOfElement_22 ⟨(show 0 + 0 ≤ 0 by omega), (show 0 + 0 ≤ 0 by omega)⟩) (Nat.le_refl _) (Nat.le_refl _) (fun r H locs hw hP hD hS => ?_)
  obtain _ := hw
  refine lv_i2l (v := (r).toInt64) hx hb dX9_digestOfElement_25 rfl ?_
  refine lv_ladd hx hb dX9_digestOfElement_26 ?_
  refine lv_lstore (lv' := [(4, .long ((31 * hh_3) + (r).toInt64)), (6, .int 3), (0, .ref dk), (1, .long hh), (3, .int (nI j))]) hx hb dX9_digestOfElement_27 hl (by decide) rfl (fun ls hl => ?_)
  obtain ⟨hh_4, ehh_4⟩ : ∃ x : Int64, x = ((31 * hh_3) + (r).toInt64) := ⟨_, rfl⟩
  rw [← ehh_4] at hl
  refine lv_iinc (v := 4) (lv' := [(6, .int 4), (4, .long hh_4), (0, .ref dk), (1, .long hh), (3, .int (nI j))]) hx hb dX9_digestOfElement_29 hl (k := 1) rfl (by decide) (by decide) rfl (fun ls hl => ?_)
  refine lv_goto (tgt := 6) hx hb dX9_digestOfElement_32 (by decide) ?_
  refine lv_iload hx hb dX9_digestOfElement_6 (lv_at hl 0 rfl) ?_
  refine lv_iconst (v := 3) hx hb dX9_digestOfElement_8 (by decide) ?_
  refine lv_icmp_gt (tgt := 35) hx hb dX9_digestOfElement_9 (by decide) (fun _ => ?_) (fun hno => absurd hno (by decide))
  refine lv_aload_n hx hb dX9_digestOfElement_35 rfl (lv_at hl 2 rfl) ?_
  refine lv_iload_n hx hb dX9_digestOfElement_36 rfl (lv_at hl 4 rfl) ?_
  refine o_crs (k := 0) (n := 0) hK hP hD hS hA (o_rV (As := [.int (nI j)]) (rest := []) hf (d_elAt _ _ _ _ _ _ _ _ dk tp rd els reo nob pr bk gl sl mo v10 v11 cap xs Es j h_dk h_els h_es hxl (by omega) _) k_740 k_737 k_739 k_23 k_84 (nA := 1) (by decide +kernel) ⟨Nat.le_of_ble_eq_true rfl, Nat.le_of_ble_eq_true rfl⟩ hK hP hD hS hA hZ hN h_dk rfl rfl rfl hl.1 rfl (Nat.le_of_ble_eq_true rfl) dX9_digestOfElement_37 ⟨(show 0 + 0 ≤ 0 by omega), (show 0 + 0 ≤ 0 by omega)⟩) (Nat.le_refl _) (Nat.le_refl _) (fun r H locs hw hP hD hS => ?_)
  obtain rfl := hw
  obtain ⟨⟨txg5, rfg5, rtg5, h_eg5⟩, hr_g5⟩ := h_es.o2 (show j < xs.length by omega)
  refine lv_astore (lv' := [(6, .ref (xs.getD j 0)), (4, .long hh_4), (0, .ref dk), (1, .long hh), (3, .int (nI j))]) hx hb dX9_digestOfElement_40 hl (by decide) rfl (fun ls hl => ?_)
  refine lv_iconst (v := 0) hx hb dX9_digestOfElement_42 (by decide) ?_
  refine lv_istore (lv' := [(7, .int 0), (6, .ref (xs.getD j 0)), (4, .long hh_4), (0, .ref dk), (1, .long hh), (3, .int (nI j))]) hx hb dX9_digestOfElement_43 hl (by decide) rfl (fun ls hl => ?_)
  obtain ⟨tx, rf, rt, N0, M, tf, f1, f2, h_el, h_tx, h_rf, h_rt, hrb, hrow_⟩ := (h_es.2.2 j hj).row
  refine de_o  h_el h_rf h_rt h_tx hrb.1 hrb.2.1 hrb.2.2.1 hrow_ (Nat.le_of_ble_eq_true rfl) (Nat.le_of_ble_eq_true rfl) (show 0 ≤ 0 by omega) (show 0 ≤ 0 by omega) hA hf hK hZ hN (tx_rows (Es.getD j dE).1 (Es.getD j dE).2.2.2.2).length 0 _ _ _ ls (by omega) hP hD hS (lv_sub hl (l' := [(7, .int 0), (4, .long hh_4), (6, .ref (xs.getD j 0))]) [0, 2, 1] rfl) ?_
  · intro hh H locs ls hP hD hS hl
    refine lv_lload hx hb dX9_digestOfElement_101 (lv_at hl 0 rfl) ?_
    exact o_rl hf hr hlocks hK hP hD hS (show 0 ≤ 0 by omega) (show 0 ≤ 0 by omega) ⟨trivial, rfl, rfl⟩ dX9_digestOfElement_103
set_option maxHeartbeats 1000000 in
set_option maxRecDepth 100000 in
theorem dg_l {p : Program} {l : Launch} {e : Env} {R : Room} {s : State} {m : MethodId} {args : Array Value} {below : List Frame} {meth : Method} {c : Code} {Q : State → Prop} {D : va_G} {A : Nat → Prop} {z : Nat → Nat} {cB cI_ cO : ClassId} {L0 : List Nat} {g0 : hG} {cells slots : Nat} {dk tp rd els reo nob bk sl mo pr gl lf ra fa la M sn : Nat} {v6 v7 v8 v9 v11 : Int32} {f0 f1 f2 : Nat → Int32} (h_dk : ho L0 g0 dk 1 (.inr (10, [.ref tp, .ref rd, .ref els, .ref reo, .ref nob, .ref pr, .ref bk, .ref gl, .ref sl, .int (nI mo), .int 1, .int v11]))) (h_gl : ho L0 g0 gl 25 (.inr (3, [.ref pr, .ref lf, .ref ra, .ref fa, .ref la, .int (nI sn), .int v6, .int v7, .int v8, .int v9]))) (h_ra : ho L0 g0 ra 26 (.inl (cI_, M, .inl f0))) (h_fa : ho L0 g0 fa 27 (.inl (cI_, M, .inl f1))) (h_la : ho L0 g0 la 28 (.inl (cI_, M, .inl f2))) (hM : M ≤ 30000) (hll : sn ≤ M) (hgo : ∀ s, s < sn → (f1 s = -1 ∧ f2 s = -1) ∨ ∃ a b : Nat, f1 s = nI a ∧ f2 s = nI b ∧ a ≤ b ∧ b ≤ 20000) (hRf : 3 ≤ R.frames) (hRl : 60 ≤ R.locals) (hRc : cells ≤ R.cells) (hRs : slots ≤ R.slots) (hA : ∀ q : Nat, s.heap.size ≤ q → A q) (hf : CallFix p m c cX9_digestOfGroup 7 s args gT yX9_digestOfGroup.cls) (hK : va_K D vcl (dT cB cI_ cO) s) (hZ : zA z A s s.heap) (hN : zB z s) :
    ∀ (k : Nat) (i : Nat) (hh : Int64) (H : Heap) (locs : List Loc) (ls : Array Slot), i + k = sn → va_P D vcl (dW L0 g0) H → va_D A (dW L0 g0) → va_S A s.heap H locs → lv_has ls 7 [(6, .int (nI i)), (4, .long hh), (0, .ref dk)] →
    (∀ (hh : Int64) (H : Heap) (locs : List Loc) (ls : Array Slot), va_P D vcl (dW L0 g0) H → va_D A (dW L0 g0) → va_S A s.heap H locs → lv_has ls 7 [(4, .long hh)] → W p l e R s m args below meth c H locs cells slots Q (F0 m 87 ls [])) →
    W p l e R s m args below meth c H locs cells slots Q (F0 m 31 ls []) := by
  obtain ⟨hx, hb, hml, hown, hts⟩ := id hf
  intro k
  induction k with
  | zero =>
    intro i hh H locs ls hik hP hD hS hl kk
    refine lv_iload hx hb dX9_digestOfGroup_31 (lv_at hl 0 rfl) ?_
    refine lv_aload_n hx hb dX9_digestOfGroup_33 rfl (lv_at hl 2 rfl) ?_
    refine o_get (D := D) (ci := 10) (v := .ref gl) (C := RX9) (T := TX9) (N := 12) hx hb hts inX9 hown hK hP h_dk rfl 7 (by decide) (hts _ k_436) (fun _ h9 => h9) rfl dX9_digestOfGroup_34 ?_
    refine o_cis (k := cells) (n := slots) hK hP hD hS hA (o_rV (As := []) (rest := [.int (nI i)]) hf (gl_sc _ _ _ _ _ _ _ _ pr gl lf ra fa la sn v6 v7 v8 v9 h_gl _) k_991 k_988 k_989 k_990 k_96 (nA := 0) (by decide +kernel) ⟨Nat.le_trans (by decide) hRf, Nat.le_trans (by decide) hRl⟩ hK hP hD hS hA hZ hN h_gl rfl rfl rfl hl.1 rfl (Nat.le_of_ble_eq_true rfl) dX9_digestOfGroup_37 ⟨(show cells + 0 ≤ R.cells by omega), (show slots + 0 ≤ R.slots by omega)⟩) (Nat.le_refl _) (Nat.le_refl _) (fun r H locs hw hP hD hS => ?_)
    obtain rfl := hw
    refine lv_icmp_ge (tgt := 87) hx hb dX9_digestOfGroup_40 (by decide) (fun c_1 => ?_) (fun c_1 => ?_)
    · have c_1 := q_le (a := sn) (b := i) (by omega) (by omega) c_1
      exact kk _ H locs ls hP hD hS (lv_sub hl (l' := [(4, .long hh)]) [1] rfl)
    · have c_1 := q_nle (a := sn) (b := i) (by omega) (by omega) c_1
      exact False.elim (by omega)
  | succ k ih =>
    intro i hh H locs ls hik hP hD hS hl kk
    refine lv_iload hx hb dX9_digestOfGroup_31 (lv_at hl 0 rfl) ?_
    refine lv_aload_n hx hb dX9_digestOfGroup_33 rfl (lv_at hl 2 rfl) ?_
    refine o_get (D := D) (ci := 10) (v := .ref gl) (C := RX9) (T := TX9) (N := 12) hx hb hts inX9 hown hK hP h_dk rfl 7 (by decide) (hts _ k_436) (fun _ h9 => h9) rfl dX9_digestOfGroup_34 ?_
    refine o_cis (k := cells) (n := slots) hK hP hD hS hA (o_rV (As := []) (rest := [.int (nI i)]) hf (gl_sc _ _ _ _ _ _ _ _ pr gl lf ra fa la sn v6 v7 v8 v9 h_gl _) k_991 k_988 k_989 k_990 k_96 (nA := 0) (by decide +kernel) ⟨Nat.le_trans (by decide) hRf, Nat.le_trans (by decide) hRl⟩ hK hP hD hS hA hZ hN h_gl rfl rfl rfl hl.1 rfl (Nat.le_of_ble_eq_true rfl) dX9_digestOfGroup_37 ⟨(show cells + 0 ≤ R.cells by omega), (show slots + 0 ≤ R.slots by omega)⟩) (Nat.le_refl _) (Nat.le_refl _) (fun r H locs hw hP hD hS => ?_)
    obtain rfl := hw
    refine lv_icmp_ge (tgt := 87) hx hb dX9_digestOfGroup_40 (by decide) (fun c_1 => ?_) (fun c_1 => ?_)
    · have c_1 := q_le (a := sn) (b := i) (by omega) (by omega) c_1
      exact False.elim (by omega)
    · have c_1 := q_nle (a := sn) (b := i) (by omega) (by omega) c_1
      rcases hgo i (by omega) with ⟨hn1, hn2⟩ | ⟨a_, b_, hn1, hn2, hab_, hb_⟩
      · have hP := hP
        refine lv_ldc2 (v := 31) hx hb hown (hts _ k_1124) dX9_digestOfGroup_43 ?_
        refine lv_lload hx hb dX9_digestOfGroup_46 (lv_at hl 1 rfl) ?_
        refine lv_lmul hx hb dX9_digestOfGroup_48 ?_
        refine lv_aload_n hx hb dX9_digestOfGroup_49 rfl (lv_at hl 2 rfl) ?_
        refine o_get (D := D) (ci := 10) (v := .ref gl) (C := RX9) (T := TX9) (N := 12) hx hb hts inX9 hown hK hP h_dk rfl 7 (by decide) (hts _ k_436) (fun _ h9 => h9) rfl dX9_digestOfGroup_50 ?_
        refine lv_iload hx hb dX9_digestOfGroup_53 (lv_at hl 0 rfl) ?_
        refine o_cis (k := cells) (n := slots) hK hP hD hS hA (o_rV (As := [.int (nI i)]) (rest := [.long (31 * hh)]) hf (gl_ron _ _ _ _ _ _ _ _ pr gl lf ra fa la M sn v6 v7 v8 v9 f0 f1 f2 i h_gl h_ra hM hll (by omega) _) k_1004 k_1001 k_1002 k_1003 k_96 (nA := 1) (by decide +kernel) ⟨Nat.le_trans (by decide) hRf, Nat.le_trans (by decide) hRl⟩ hK hP hD hS hA hZ hN h_gl rfl rfl rfl hl.1 rfl (Nat.le_of_ble_eq_true rfl) dX9_digestOfGroup_55 ⟨(show cells + 0 ≤ R.cells by omega), (show slots + 0 ≤ R.slots by omega)⟩) (Nat.le_refl _) (Nat.le_refl _) (fun r H locs hw hP hD hS => ?_)
        obtain rfl := hw
        refine lv_i2l (v := ((f0 i)).toInt64) hx hb dX9_digestOfGroup_58 rfl ?_
        refine lv_ladd hx hb dX9_digestOfGroup_59 ?_
        refine lv_lstore (lv' := [(4, .long ((31 * hh) + ((f0 i)).toInt64)), (6, .int (nI i)), (0, .ref dk)]) hx hb dX9_digestOfGroup_60 hl (by decide) rfl (fun ls hl => ?_)
        obtain ⟨hh_2, ehh_2⟩ : ∃ x : Int64, x = ((31 * hh) + ((f0 i)).toInt64) := ⟨_, rfl⟩
        rw [← ehh_2] at hl
        refine lv_ldc2 (v := 31) hx hb hown (hts _ k_1124) dX9_digestOfGroup_62 ?_
        refine lv_lload hx hb dX9_digestOfGroup_65 (lv_at hl 0 rfl) ?_
        refine lv_lmul hx hb dX9_digestOfGroup_67 ?_
        refine lv_aload_n hx hb dX9_digestOfGroup_68 rfl (lv_at hl 2 rfl) ?_
        refine o_get (D := D) (ci := 10) (v := .ref gl) (C := RX9) (T := TX9) (N := 12) hx hb hts inX9 hown hK hP h_dk rfl 7 (by decide) (hts _ k_436) (fun _ h9 => h9) rfl dX9_digestOfGroup_69 ?_
        refine lv_iload hx hb dX9_digestOfGroup_72 (lv_at hl 1 rfl) ?_
        refine o_cis (k := cells) (n := slots) hK hP hD hS hA (o_rV (As := [.int (nI i)]) (rest := [.long (31 * hh_2)]) hf (gl_ponE _ _ _ _ _ _ _ _ pr gl lf ra fa la M sn v6 v7 v8 v9 f0 f1 f2 i h_gl h_ra h_fa h_la hM hll (by omega) hn1 _) k_1012 k_1009 k_1010 k_1011 k_96 (nA := 1) (by decide +kernel) ⟨Nat.le_trans (by decide) hRf, Nat.le_trans (by decide) hRl⟩ hK hP hD hS hA hZ hN h_gl rfl rfl rfl hl.1 rfl (Nat.le_of_ble_eq_true rfl) dX9_digestOfGroup_74 ⟨(show cells + 0 ≤ R.cells by omega), (show slots + 0 ≤ R.slots by omega)⟩) (Nat.le_refl _) (Nat.le_refl _) (fun r H locs hw hP hD hS => ?_)
        obtain rfl := hw
        refine lv_i2l (v := 0) hx hb dX9_digestOfGroup_77 (by decide) ?_
        refine lv_ladd hx hb dX9_digestOfGroup_78 ?_
        refine lv_lstore (lv' := [(4, .long ((31 * hh_2) + 0)), (6, .int (nI i)), (0, .ref dk)]) hx hb dX9_digestOfGroup_79 hl (by decide) rfl (fun ls hl => ?_)
        refine lv_iinc (v := nI (i + 1)) (lv' := [(6, .int (nI (i + 1))), (4, .long ((31 * hh_2) + 0)), (0, .ref dk)]) hx hb dX9_digestOfGroup_81 hl (k := 1) rfl (nI_addE (a := i) (b := 1) (by omega)) (by decide) rfl (fun ls hl => ?_)
        refine lv_goto (tgt := 31) hx hb dX9_digestOfGroup_84 (by decide) ?_
        exact ih (i + 1) _ H locs ls (by omega) hP hD hS (lv_sub hl (l' := [(6, .int (nI (i + 1))), (4, .long ((31 * hh_2) + 0)), (0, .ref dk)]) [0, 1, 2] rfl) kk
      · have hP := hP
        refine lv_ldc2 (v := 31) hx hb hown (hts _ k_1124) dX9_digestOfGroup_43 ?_
        refine lv_lload hx hb dX9_digestOfGroup_46 (lv_at hl 1 rfl) ?_
        refine lv_lmul hx hb dX9_digestOfGroup_48 ?_
        refine lv_aload_n hx hb dX9_digestOfGroup_49 rfl (lv_at hl 2 rfl) ?_
        refine o_get (D := D) (ci := 10) (v := .ref gl) (C := RX9) (T := TX9) (N := 12) hx hb hts inX9 hown hK hP h_dk rfl 7 (by decide) (hts _ k_436) (fun _ h9 => h9) rfl dX9_digestOfGroup_50 ?_
        refine lv_iload hx hb dX9_digestOfGroup_53 (lv_at hl 0 rfl) ?_
        refine o_cis (k := cells) (n := slots) hK hP hD hS hA (o_rV (As := [.int (nI i)]) (rest := [.long (31 * hh)]) hf (gl_ron _ _ _ _ _ _ _ _ pr gl lf ra fa la M sn v6 v7 v8 v9 f0 f1 f2 i h_gl h_ra hM hll (by omega) _) k_1004 k_1001 k_1002 k_1003 k_96 (nA := 1) (by decide +kernel) ⟨Nat.le_trans (by decide) hRf, Nat.le_trans (by decide) hRl⟩ hK hP hD hS hA hZ hN h_gl rfl rfl rfl hl.1 rfl (Nat.le_of_ble_eq_true rfl) dX9_digestOfGroup_55 ⟨(show cells + 0 ≤ R.cells by omega), (show slots + 0 ≤ R.slots by omega)⟩) (Nat.le_refl _) (Nat.le_refl _) (fun r H locs hw hP hD hS => ?_)
        obtain rfl := hw
        refine lv_i2l (v := ((f0 i)).toInt64) hx hb dX9_digestOfGroup_58 rfl ?_
        refine lv_ladd hx hb dX9_digestOfGroup_59 ?_
        refine lv_lstore (lv' := [(4, .long ((31 * hh) + ((f0 i)).toInt64)), (6, .int (nI i)), (0, .ref dk)]) hx hb dX9_digestOfGroup_60 hl (by decide) rfl (fun ls hl => ?_)
        obtain ⟨hh_3, ehh_3⟩ : ∃ x : Int64, x = ((31 * hh) + ((f0 i)).toInt64) := ⟨_, rfl⟩
        rw [← ehh_3] at hl
        refine lv_ldc2 (v := 31) hx hb hown (hts _ k_1124) dX9_digestOfGroup_62 ?_
        refine lv_lload hx hb dX9_digestOfGroup_65 (lv_at hl 0 rfl) ?_
        refine lv_lmul hx hb dX9_digestOfGroup_67 ?_
        refine lv_aload_n hx hb dX9_digestOfGroup_68 rfl (lv_at hl 2 rfl) ?_
        refine o_get (D := D) (ci := 10) (v := .ref gl) (C := RX9) (T := TX9) (N := 12) hx hb hts inX9 hown hK hP h_dk rfl 7 (by decide) (hts _ k_436) (fun _ h9 => h9) rfl dX9_digestOfGroup_69 ?_
        refine lv_iload hx hb dX9_digestOfGroup_72 (lv_at hl 1 rfl) ?_
        refine o_cis (k := cells) (n := slots) hK hP hD hS hA (o_rV (As := [.int (nI i)]) (rest := [.long (31 * hh_3)]) hf (gl_pon _ _ _ _ _ _ _ _ pr gl lf ra fa la M sn v6 v7 v8 v9 f0 f1 f2 i a_ b_ h_gl h_ra h_fa h_la hM hll (by omega) hn1 hn2 (by omega) (by omega) _) k_1012 k_1009 k_1010 k_1011 k_96 (nA := 1) (by decide +kernel) ⟨Nat.le_trans (by decide) hRf, Nat.le_trans (by decide) hRl⟩ hK hP hD hS hA hZ hN h_gl rfl rfl rfl hl.1 rfl (Nat.le_of_ble_eq_true rfl) dX9_digestOfGroup_74 ⟨(show cells + 0 ≤ R.cells by omega), (show slots + 0 ≤ R.slots by omega)⟩) (Nat.le_refl _) (Nat.le_refl _) (fun r H locs hw hP hD hS => ?_)
        obtain rfl := hw
        refine lv_i2l (v := ((nI ((b_ - a_ + 1)))).toInt64) hx hb dX9_digestOfGroup_77 rfl ?_
        refine lv_ladd hx hb dX9_digestOfGroup_78 ?_
        refine lv_lstore (lv' := [(4, .long ((31 * hh_3) + ((nI ((b_ - a_ + 1)))).toInt64)), (6, .int (nI i)), (0, .ref dk)]) hx hb dX9_digestOfGroup_79 hl (by decide) rfl (fun ls hl => ?_)
        refine lv_iinc (v := nI (i + 1)) (lv' := [(6, .int (nI (i + 1))), (4, .long ((31 * hh_3) + ((nI ((b_ - a_ + 1)))).toInt64)), (0, .ref dk)]) hx hb dX9_digestOfGroup_81 hl (k := 1) rfl (nI_addE (a := i) (b := 1) (by omega)) (by decide) rfl (fun ls hl => ?_)
        refine lv_goto (tgt := 31) hx hb dX9_digestOfGroup_84 (by decide) ?_
        exact ih (i + 1) _ H locs ls (by omega) hP hD hS (lv_sub hl (l' := [(6, .int (nI (i + 1))), (4, .long ((31 * hh_3) + ((nI ((b_ - a_ + 1)))).toInt64)), (0, .ref dk)]) [0, 1, 2] rfl) kk
set_option maxHeartbeats 1000000 in
set_option maxRecDepth 100000 in
theorem d_dgg (l : Launch) (D : va_G) (z : Nat → Nat) (cB cI_ cO : ClassId) (L0 : List Nat) (g0 : hG) (dk tp rd els reo nob bk sl : Nat) (pr pcs spr nwh cp : Nat) (pa : List Nat) (ea : Nat → Nat) (P : List Q4) (ne : Nat) (EE : Nat → E5) (nb gl lf ra fa la : Nat) (v5 v6 v7 v8 v9 x1 x2 x3 x4 x5 x6 : Int32) (M : Nat) (f0 f1 f2 : Nat → Int32) (mo gg fi en B : Nat) (v11 : Int32) (hh : Int64) (h_dk : ho L0 g0 dk 1 (.inr (10, [.ref tp, .ref rd, .ref els, .ref reo, .ref nob, .ref pr, .ref bk, .ref gl, .ref sl, .int (nI mo), .int 1, .int v11]))) (h_pr : ho L0 g0 pr 13 (.inr (7, [.ref pcs, .ref spr, .ref nwh]))) (h_pcs : alR cO (z 0) 14 15 L0 g0 pcs cp pa) (h_pc : pcR L0 g0 ea pa P) (h_es : esR cB cI_ L0 g0 ea ne EE) (h_nwh : ho L0 g0 nwh 19 (.inr (6, [.ref nb, .int 0, .int 0, .int 0]))) (h_gl : ho L0 g0 gl 25 (.inr (3, [.ref pr, .ref lf, .ref ra, .ref fa, .ref la, .int v5, .int v6, .int v7, .int v8, .int v9]))) (h_lf : ho L0 g0 lf 20 (.inr (4, [.ref pr, .int x1, .int x2, .int x3, .int x4, .int x5, .int x6]))) (h_ra : ho L0 g0 ra 26 (.inl (cI_, M, .inl f0))) (h_fa : ho L0 g0 fa 27 (.inl (cI_, M, .inl f1))) (h_la : ho L0 g0 la 28 (.inl (cI_, M, .inl f2))) (hpa : pa.length ≤ 20000) (hQ : pq_ok ne EE P) (hSn : qS P pa.length ≤ 8000) (hmo1 : 10 ≤ mo) (hmo : mo ≤ 40) (hgg : gg ≤ 20000) (hG : ∀ t, t < pa.length → (P.getD t d4).2.2.2 ≤ 30000) (efi : fi = rg_first (fun t => (P.getD t d4).2.2.2) gg pa.length 0) (een : en = rg_first (fun t => (P.getD t d4).2.2.2) (gg + 1) pa.length 0) (hgF : ∀ p, fi < p → p < en → (P.getD p d4).2.1 = 0) (hgT : ∀ p, fi ≤ p → p + 1 < en → (P.getD p d4).2.2.1 = eRw (EE (P.getD p d4).1)) (hM1 : 1 ≤ M) (hB9 : B ≤ 30000) (hB2 : B = glx M 0 (gl_S EE P fi en mo)) : eL l D yX9_digestOfGroup cX9_digestOfGroup 7 (some .long) 11 327 (3 * (B - M)) (6 * (B - M)) [.ref dk, .long hh, .int (nI gg)] z cB cI_ cO L0 g0 (fun r L g => ∃ (S2 : List I3) (ra2 fa2 la2 M2 : Nat) (k0 k1 k2 : Nat → Int32) (w7 w8 w9 u1 u2 u3 u4 u5 u6 : Int32), S2 = gl_S EE P fi en mo ∧ sh_is S2 k0 k1 k2 ∧ (S2.length ≤ M2 ∧ M2 = B ∧ 1 ≤ M2) ∧ fr [20, 25, 26, 27, 28] L0 g0 L g ∧ ho L g gl 25 (.inr (3, [.ref pr, .ref lf, .ref ra2, .ref fa2, .ref la2, .int (nI (S2.length)), .int (nI en), .int w7, .int w8, .int w9])) ∧ ho L g lf 20 (.inr (4, [.ref pr, .int u1, .int u2, .int u3, .int u4, .int u5, .int u6])) ∧ ho L g ra2 26 (.inl (cI_, M2, .inl k0)) ∧ ho L g fa2 27 (.inl (cI_, M2, .inl k1)) ∧ ho L g la2 28 (.inl (cI_, M2, .inl k2))) := by
  refine o_sl (by decide) (Nat.le_of_ble_eq_true rfl) ?_
  intro p e s m below meth c A ls hf hr hlocks hin hK hP hD hS hA hZ hN hl
  obtain ⟨hx, hb, hml, hown, hts⟩ := id hf
  have hl : lv_has ls 7 [(0, .ref dk), (1, .long hh), (3, .int (nI gg))] := hl
  have hfr : fr [20, 25, 26, 27, 28] L0 g0 L0 g0 := fr.rf
  refine lv_aload_n hx hb dX9_digestOfGroup_0 rfl (lv_at hl 0 rfl) ?_
  refine o_get (D := D) (ci := 10) (v := .ref gl) (C := RX9) (T := TX9) (N := 12) hx hb hts inX9 hown hK hP h_dk rfl 7 (by decide) (hts _ k_436) (fun _ h9 => h9) rfl dX9_digestOfGroup_1 ?_
  refine lv_iload_n hx hb dX9_digestOfGroup_4 rfl (lv_at hl 2 rfl) ?_
  refine lv_aload_n hx hb dX9_digestOfGroup_5 rfl (lv_at hl 0 rfl) ?_
  refine o_get (D := D) (ci := 10) (v := .int (nI mo)) (C := RX9) (T := TX9) (N := 12) hx hb hts inX9 hown hK hP h_dk rfl 9 (by decide) (hts _ k_438) (fun _ h9 => h9) rfl dX9_digestOfGroup_6 ?_
  refine o_cv (k := 0 + (3 * (B - M))) (n := 0 + (6 * (B - M))) hK hP hD hS hA (o_rV (As := [.int (nI gg), .int (nI mo)]) (rest := []) hf (gl_lay _ _ _ _ _ _ _ _ pr pcs spr nwh cp pa ea P ne EE nb gl lf ra fa la v5 v6 v7 v8 v9 x1 x2 x3 x4 x5 x6 M f0 f1 f2 mo gg fi en B h_pr h_pcs h_pc h_es h_nwh h_gl h_lf h_ra h_fa h_la hpa hQ hSn hmo1 hmo hgg hG efi een hgF hgT hM1 hB9 hB2 _) k_949 k_946 k_947 k_948 k_96 (nA := 2) (by decide +kernel) ⟨Nat.le_of_ble_eq_true rfl, Nat.le_of_ble_eq_true rfl⟩ hK hP hD hS hA hZ hN h_gl rfl rfl rfl hl.1 rfl (Nat.le_of_ble_eq_true rfl) dX9_digestOfGroup_9 ⟨(show 0 + (3 * (B - M)) ≤ 3 * (B - M) by omega), (show 0 + (6 * (B - M)) ≤ 6 * (B - M) by omega)⟩) (by omega) (by omega) (fun L g H locs hw hP hD hS => ?_)
  obtain ⟨S2, ra2, fa2, la2, M2, k0, k1, k2, w7, w8, w9, u1, u2, u3, u4, u5, u6, eS, hsh, hM3, hf9, h_gl, h_lf, h_ra, h_fa, h_la⟩ := hw
  have h_dk := h_dk.fr hf9 (by decide)
  have h_pr := h_pr.fr hf9 (by decide)
  have h_nwh := h_nwh.fr hf9 (by decide)
  have hfr := hfr.tr hf9
  have h_pcs := h_pcs.frd hf9 (by decide)
  have h_pc := h_pc.frd hf9 (by decide)
  have h_es := h_es.frd hf9 (by decide)
  refine lv_ldc2 (v := 31) hx hb hown (hts _ k_1124) dX9_digestOfGroup_12 ?_
  refine lv_lload_n hx hb dX9_digestOfGroup_15 rfl (lv_at hl 1 rfl) ?_
  refine lv_lmul hx hb dX9_digestOfGroup_16 ?_
  refine lv_aload_n hx hb dX9_digestOfGroup_17 rfl (lv_at hl 0 rfl) ?_
  refine o_get (D := D) (ci := 10) (v := .ref gl) (C := RX9) (T := TX9) (N := 12) hx hb hts inX9 hown hK hP h_dk rfl 7 (by decide) (hts _ k_436) (fun _ h9 => h9) rfl dX9_digestOfGroup_18 ?_
  refine o_cis (k := 0 + (3 * (B - M))) (n := 0 + (6 * (B - M))) hK hP hD hS hA (o_rV (As := []) (rest := [.long (31 * hh)]) hf (gl_sc _ _ _ _ _ _ _ _ pr gl lf ra2 fa2 la2 S2.length (nI en) w7 w8 w9 h_gl _) k_991 k_988 k_989 k_990 k_96 (nA := 0) (by decide +kernel) ⟨Nat.le_of_ble_eq_true rfl, Nat.le_of_ble_eq_true rfl⟩ hK hP hD hS hA hZ hN h_gl rfl rfl rfl hl.1 rfl (Nat.le_of_ble_eq_true rfl) dX9_digestOfGroup_21 ⟨(show 0 + (3 * (B - M)) + 0 ≤ 3 * (B - M) by omega), (show 0 + (6 * (B - M)) + 0 ≤ 6 * (B - M) by omega)⟩) (Nat.le_refl _) (Nat.le_refl _) (fun r H locs hw hP hD hS => ?_)
  obtain rfl := hw
  refine lv_i2l (v := ((nI (S2.length))).toInt64) hx hb dX9_digestOfGroup_24 rfl ?_
  refine lv_ladd hx hb dX9_digestOfGroup_25 ?_
  refine lv_lstore (lv' := [(4, .long ((31 * hh) + ((nI (S2.length))).toInt64)), (0, .ref dk), (1, .long hh), (3, .int (nI gg))]) hx hb dX9_digestOfGroup_26 hl (by decide) rfl (fun ls hl => ?_)
  obtain ⟨hh_1, ehh_1⟩ : ∃ x : Int64, x = ((31 * hh) + ((nI (S2.length))).toInt64) := ⟨_, rfl⟩
  rw [← ehh_1] at hl
  refine lv_iconst (v := 0) hx hb dX9_digestOfGroup_28 (by decide) ?_
  refine lv_istore (lv' := [(6, .int 0), (4, .long hh_1), (0, .ref dk), (1, .long hh), (3, .int (nI gg))]) hx hb dX9_digestOfGroup_29 hl (by decide) rfl (fun ls hl => ?_)
  have hplm := h_pc.1
  have heb := rg_first_le (fun t => (P.getD t d4).2.2.2) (gg + 1) pa.length 0
  rw [← een] at heb
  have hgo : ∀ s, s < S2.length → (k1 s = -1 ∧ k2 s = -1) ∨ ∃ a b : Nat, k1 s = nI a ∧ k2 s = nI b ∧ a ≤ b ∧ b ≤ 20000 := fun s9 hs9 => by
    have h8 := hsh s9 hs9
    have h7 := (glS_ok (EE := EE) (fi := fi) hQ (show en ≤ P.length by omega) hmo1 hmo).2 s9 (by rw [← eS]; exact hs9)
    rw [← eS, ← h8.2.1, ← h8.2.2] at h7
    rcases h7.2 with h6 | ⟨b9, c9, h1, h2, h3, h4⟩
    · exact Or.inl h6
    · exact Or.inr ⟨b9, c9, h1, h2, h3, by omega⟩
  refine dg_l  h_dk h_gl h_ra h_fa h_la (by omega) (by omega) hgo (Nat.le_of_ble_eq_true rfl) (Nat.le_of_ble_eq_true rfl) (show 0 + (3 * (B - M)) ≤ 3 * (B - M) by omega) (show 0 + (6 * (B - M)) ≤ 6 * (B - M) by omega) hA hf hK hZ hN S2.length 0 _ _ _ ls (by omega) hP hD hS (lv_sub hl (l' := [(6, .int 0), (4, .long hh_1), (0, .ref dk)]) [0, 1, 2] rfl) ?_
  · intro hh H locs ls hP hD hS hl
    refine lv_lload hx hb dX9_digestOfGroup_87 (lv_at hl 0 rfl) ?_
    exact o_rl hf hr hlocks hK hP hD hS (show 0 + (3 * (B - M)) ≤ 3 * (B - M) by omega) (show 0 + (6 * (B - M)) ≤ 6 * (B - M) by omega) ⟨S2, ra2, fa2, la2, M2, k0, k1, k2, w7, w8, w9, u1, u2, u3, u4, u5, u6, eS, hsh, hM3, hfr, h_gl, h_lf, h_ra, h_fa, h_la⟩ dX9_digestOfGroup_89
