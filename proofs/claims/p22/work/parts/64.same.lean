theorem tx_eq {X Y : List Int32} {f g : Nat → Int32} (hx : tx_is X f) (hy : tx_is Y g) (hl : X.length = Y.length) (h : ∀ t, t < X.length → f t = g t) : X = Y := by
  refine List.ext_getElem hl (fun i h1 h2 => ?_)
  have h3 : X.getD i 0 = X[i] := by rw [List.getD_eq_getElem?_getD, List.getElem?_eq_getElem h1]; rfl
  have h4 : Y.getD i 0 = Y[i] := by rw [List.getD_eq_getElem?_getD, List.getElem?_eq_getElem h2]; rfl
  rw [← h3, ← h4, ← hx i h1, ← hy i h2]
  exact h i h1
theorem tx_ne {X Y : List Int32} {f g : Nat → Int32} {t : Nat} (hx : tx_is X f) (hy : tx_is Y g) (h1 : t < X.length) (h : ¬ f t = g t) : ¬ X = Y := fun e => by
  subst e
  exact h ((hx t h1).trans (hy t h1).symm)
abbrev cX1_byteOfRow : ByteArray := prog_3_method_5_code
def yX1_byteOfRow : MethodName := ⟨RX1, "byteOfRow", "(II)I"⟩
abbrev cX1_hasSameWords : ByteArray := prog_3_method_11_code
def yX1_hasSameWords : MethodName := ⟨RX1, "hasSameWords", "(LScriptDesk$Element;)Z"⟩
abbrev cX1_rowLength : ByteArray := prog_3_method_4_code
def yX1_rowLength : MethodName := ⟨RX1, "rowLength", "(I)I"⟩
theorem k_750 : (Cond.instanceMethod yX1_rowLength) ∈ gT := gT_i 750 (by decide +kernel) rfl
theorem k_751 : (Cond.selects RX1 yX1_rowLength yX1_rowLength) ∈ gT := gT_i 751 (by decide +kernel) rfl
theorem k_752 : (Cond.code yX1_rowLength cX1_rowLength 2 (some .int)) ∈ gT := gT_i 752 (by decide +kernel) rfl
theorem k_757 : (Cond.methodLink RX1 51 yX1_rowLength) ∈ gT := gT_i 757 (by decide +kernel) rfl
theorem dX1_hasSameWords_15 : decode cX1_hasSameWords 15 = .ok (.iload_n 2, 1) := by decide +kernel
theorem dX1_hasSameWords_16 : decode cX1_hasSameWords 16 = .ok (.aload_n 0, 1) := by decide +kernel
theorem dX1_hasSameWords_17 : decode cX1_hasSameWords 17 = .ok (.getfield 32, 3) := by decide +kernel
theorem dX1_hasSameWords_20 : decode cX1_hasSameWords 20 = .ok (.if_icmp .ge 44, 3) := by decide +kernel
theorem dX1_hasSameWords_23 : decode cX1_hasSameWords 23 = .ok (.iload_n 2, 1) := by decide +kernel
theorem dX1_hasSameWords_24 : decode cX1_hasSameWords 24 = .ok (.aload_n 0, 1) := by decide +kernel
theorem dX1_hasSameWords_25 : decode cX1_hasSameWords 25 = .ok (.getfield 24, 3) := by decide +kernel
theorem dX1_hasSameWords_28 : decode cX1_hasSameWords 28 = .ok (.arraylength, 1) := by decide +kernel
theorem dX1_hasSameWords_29 : decode cX1_hasSameWords 29 = .ok (.if_icmp .ge 35, 3) := by decide +kernel
theorem dX1_hasSameWords_32 : decode cX1_hasSameWords 32 = .ok (.iload_n 2, 1) := by decide +kernel
theorem dX1_hasSameWords_33 : decode cX1_hasSameWords 33 = .ok (.aload_n 1, 1) := by decide +kernel
theorem dX1_hasSameWords_34 : decode cX1_hasSameWords 34 = .ok (.getfield 24, 3) := by decide +kernel
theorem dX1_hasSameWords_37 : decode cX1_hasSameWords 37 = .ok (.arraylength, 1) := by decide +kernel
theorem dX1_hasSameWords_38 : decode cX1_hasSameWords 38 = .ok (.if_icmp .ge 26, 3) := by decide +kernel
theorem dX1_hasSameWords_41 : decode cX1_hasSameWords 41 = .ok (.aload_n 0, 1) := by decide +kernel
theorem dX1_hasSameWords_42 : decode cX1_hasSameWords 42 = .ok (.getfield 24, 3) := by decide +kernel
theorem dX1_hasSameWords_45 : decode cX1_hasSameWords 45 = .ok (.iload_n 2, 1) := by decide +kernel
theorem dX1_hasSameWords_46 : decode cX1_hasSameWords 46 = .ok (.baload, 1) := by decide +kernel
theorem dX1_hasSameWords_47 : decode cX1_hasSameWords 47 = .ok (.aload_n 1, 1) := by decide +kernel
theorem dX1_hasSameWords_48 : decode cX1_hasSameWords 48 = .ok (.getfield 24, 3) := by decide +kernel
theorem dX1_hasSameWords_51 : decode cX1_hasSameWords 51 = .ok (.iload_n 2, 1) := by decide +kernel
theorem dX1_hasSameWords_52 : decode cX1_hasSameWords 52 = .ok (.baload, 1) := by decide +kernel
theorem dX1_hasSameWords_53 : decode cX1_hasSameWords 53 = .ok (.if_icmp .eq 5, 3) := by decide +kernel
theorem dX1_hasSameWords_58 : decode cX1_hasSameWords 58 = .ok (.iinc 2 1, 3) := by decide +kernel
theorem dX1_hasSameWords_61 : decode cX1_hasSameWords 61 = .ok (.goto (-46), 3) := by decide +kernel
theorem dX1_hasSameWords_0 : decode cX1_hasSameWords 0 = .ok (.aload_n 0, 1) := by decide +kernel
theorem dX1_hasSameWords_1 : decode cX1_hasSameWords 1 = .ok (.getfield 32, 3) := by decide +kernel
theorem dX1_hasSameWords_4 : decode cX1_hasSameWords 4 = .ok (.aload_n 1, 1) := by decide +kernel
theorem dX1_hasSameWords_5 : decode cX1_hasSameWords 5 = .ok (.getfield 32, 3) := by decide +kernel
theorem dX1_hasSameWords_8 : decode cX1_hasSameWords 8 = .ok (.if_icmp .eq 5, 3) := by decide +kernel
theorem dX1_hasSameWords_13 : decode cX1_hasSameWords 13 = .ok (.iconst 0, 1) := by decide +kernel
theorem dX1_hasSameWords_14 : decode cX1_hasSameWords 14 = .ok (.istore_n 2, 1) := by decide +kernel
theorem dX1_hasSameWords_64 : decode cX1_hasSameWords 64 = .ok (.iconst 1, 1) := by decide +kernel
theorem dX1_hasSameWords_65 : decode cX1_hasSameWords 65 = .ok (.ireturn, 1) := by decide +kernel
theorem dX1_hasSameWords_56 : decode cX1_hasSameWords 56 = .ok (.iconst 0, 1) := by decide +kernel
theorem dX1_hasSameWords_57 : decode cX1_hasSameWords 57 = .ok (.ireturn, 1) := by decide +kernel
theorem dX1_hasSameWords_11 : decode cX1_hasSameWords 11 = .ok (.iconst 0, 1) := by decide +kernel
theorem dX1_hasSameWords_12 : decode cX1_hasSameWords 12 = .ok (.ireturn, 1) := by decide +kernel
theorem dX1_rowLength_0 : decode cX1_rowLength 0 = .ok (.iload_n 1, 1) := by decide +kernel
theorem dX1_rowLength_1 : decode cX1_rowLength 1 = .ok (.ifCond .lt 27, 3) := by decide +kernel
theorem dX1_rowLength_4 : decode cX1_rowLength 4 = .ok (.iload_n 1, 1) := by decide +kernel
theorem dX1_rowLength_5 : decode cX1_rowLength 5 = .ok (.aload_n 0, 1) := by decide +kernel
theorem dX1_rowLength_6 : decode cX1_rowLength 6 = .ok (.getfield 48, 3) := by decide +kernel
theorem dX1_rowLength_9 : decode cX1_rowLength 9 = .ok (.if_icmp .ge 19, 3) := by decide +kernel
theorem dX1_rowLength_12 : decode cX1_rowLength 12 = .ok (.aload_n 0, 1) := by decide +kernel
theorem dX1_rowLength_13 : decode cX1_rowLength 13 = .ok (.getfield 39, 3) := by decide +kernel
theorem dX1_rowLength_16 : decode cX1_rowLength 16 = .ok (.iload_n 1, 1) := by decide +kernel
theorem dX1_rowLength_17 : decode cX1_rowLength 17 = .ok (.iaload, 1) := by decide +kernel
theorem dX1_rowLength_18 : decode cX1_rowLength 18 = .ok (.aload_n 0, 1) := by decide +kernel
theorem dX1_rowLength_19 : decode cX1_rowLength 19 = .ok (.getfield 35, 3) := by decide +kernel
theorem dX1_rowLength_22 : decode cX1_rowLength 22 = .ok (.iload_n 1, 1) := by decide +kernel
theorem dX1_rowLength_23 : decode cX1_rowLength 23 = .ok (.iaload, 1) := by decide +kernel
theorem dX1_rowLength_24 : decode cX1_rowLength 24 = .ok (.isub, 1) := by decide +kernel
theorem dX1_rowLength_25 : decode cX1_rowLength 25 = .ok (.goto 4, 3) := by decide +kernel
theorem dX1_rowLength_29 : decode cX1_rowLength 29 = .ok (.ireturn, 1) := by decide +kernel
theorem dX1_byteOfRow_0 : decode cX1_byteOfRow 0 = .ok (.iload_n 2, 1) := by decide +kernel
theorem dX1_byteOfRow_1 : decode cX1_byteOfRow 1 = .ok (.ifCond .lt 28, 3) := by decide +kernel
theorem dX1_byteOfRow_4 : decode cX1_byteOfRow 4 = .ok (.iload_n 2, 1) := by decide +kernel
theorem dX1_byteOfRow_5 : decode cX1_byteOfRow 5 = .ok (.aload_n 0, 1) := by decide +kernel
theorem dX1_byteOfRow_6 : decode cX1_byteOfRow 6 = .ok (.iload_n 1, 1) := by decide +kernel
theorem dX1_byteOfRow_7 : decode cX1_byteOfRow 7 = .ok (.invokevirtual 51, 3) := by decide +kernel
theorem dX1_byteOfRow_10 : decode cX1_byteOfRow 10 = .ok (.if_icmp .ge 19, 3) := by decide +kernel
theorem dX1_byteOfRow_13 : decode cX1_byteOfRow 13 = .ok (.aload_n 0, 1) := by decide +kernel
theorem dX1_byteOfRow_14 : decode cX1_byteOfRow 14 = .ok (.getfield 24, 3) := by decide +kernel
theorem dX1_byteOfRow_17 : decode cX1_byteOfRow 17 = .ok (.aload_n 0, 1) := by decide +kernel
theorem dX1_byteOfRow_18 : decode cX1_byteOfRow 18 = .ok (.getfield 35, 3) := by decide +kernel
theorem dX1_byteOfRow_21 : decode cX1_byteOfRow 21 = .ok (.iload_n 1, 1) := by decide +kernel
theorem dX1_byteOfRow_22 : decode cX1_byteOfRow 22 = .ok (.iaload, 1) := by decide +kernel
theorem dX1_byteOfRow_23 : decode cX1_byteOfRow 23 = .ok (.iload_n 2, 1) := by decide +kernel
theorem dX1_byteOfRow_24 : decode cX1_byteOfRow 24 = .ok (.iadd, 1) := by decide +kernel
theorem dX1_byteOfRow_25 : decode cX1_byteOfRow 25 = .ok (.baload, 1) := by decide +kernel
theorem dX1_byteOfRow_26 : decode cX1_byteOfRow 26 = .ok (.goto 4, 3) := by decide +kernel
theorem dX1_byteOfRow_30 : decode cX1_byteOfRow 30 = .ok (.ireturn, 1) := by decide +kernel
set_option maxHeartbeats 1000000 in
set_option maxRecDepth 100000 in
theorem sm_loop {p : Program} {l : Launch} {e : Env} {R : Room} {s : State} {m : MethodId} {args : Array Value} {below : List Frame} {meth : Method} {c : Code} {Q : State → Prop} {D : va_G} {A : Nat → Prop} {z : Nat → Nat} {cB cI_ cO : ClassId} {L0 : List Nat} {g0 : hG} {cells slots : Nat} {el tx rf rt rn w el2 tx2 rf2 rt2 rn2 w2 N0 N2 : Nat} {kd nm sk kd2 nm2 sk2 : Int32} {X Y : List Int32} {tf tg : Nat → Int32} (h_el : ho L0 g0 el 9 (.inr (2, [.int kd, .int nm, .int sk, .ref tx, .int (nI (X.length)), .int (nI w), .ref rf, .ref rt, .int (nI rn)]))) (h_em : ho L0 g0 el2 9 (.inr (2, [.int kd2, .int nm2, .int sk2, .ref tx2, .int (nI (Y.length)), .int (nI w2), .ref rf2, .ref rt2, .int (nI rn2)]))) (h_tx : ho L0 g0 tx 10 (.inl (cB, N0, .inl tf))) (h_ty : ho L0 g0 tx2 10 (.inl (cB, N2, .inl tg))) (hX : tx_is X tf) (hY : tx_is Y tg) (hN0 : X.length ≤ N0) (hN1 : N0 ≤ 1200) (hN2 : Y.length ≤ N2) (hN3 : N2 ≤ 1200) (hXY : X.length = Y.length) (hRf : 4 ≤ R.frames) (hRl : 60 ≤ R.locals) (hRc : cells ≤ R.cells) (hRs : slots ≤ R.slots) (hA : ∀ q : Nat, s.heap.size ≤ q → A q) (hf : CallFix p m c cX1_hasSameWords 3 s args gT yX1_hasSameWords.cls) (hK : va_K D vcl (dT cB cI_ cO) s) (hZ : zA z A s s.heap) (hN : zB z s) :
    ∀ (k : Nat) (i : Nat) (H : Heap) (locs : List Loc) (ls : Array Slot), i + k = X.length → (∀ t, t < i → tf t = tg t) → va_P D vcl (dW L0 g0) H → va_D A (dW L0 g0) → va_S A s.heap H locs → lv_has ls 3 [(2, .int (nI i)), (0, .ref el), (1, .ref el2)] →
    (∀  (H : Heap) (locs : List Loc) (ls : Array Slot), X = Y → va_P D vcl (dW L0 g0) H → va_D A (dW L0 g0) → va_S A s.heap H locs → lv_has ls 3 [(0, .ref el)] → W p l e R s m args below meth c H locs cells slots Q (F0 m 64 ls [])) →
    (∀  (H : Heap) (locs : List Loc) (ls : Array Slot), ¬ X = Y → va_P D vcl (dW L0 g0) H → va_D A (dW L0 g0) → va_S A s.heap H locs → lv_has ls 3 [(0, .ref el)] → W p l e R s m args below meth c H locs cells slots Q (F0 m 56 ls [])) →
    W p l e R s m args below meth c H locs cells slots Q (F0 m 15 ls []) := by
  obtain ⟨hx, hb, hml, hown, hts⟩ := id hf
  intro k
  induction k with
  | zero =>
    intro i H locs ls hik heq hP hD hS hl kk1 kk0
    refine lv_iload_n hx hb dX1_hasSameWords_15 rfl (lv_at hl 0 rfl) ?_
    refine lv_aload_n hx hb dX1_hasSameWords_16 rfl (lv_at hl 1 rfl) ?_
    refine o_get (D := D) (ci := 2) (v := .int (nI (X.length))) (C := RX1) (T := TX1) (N := 9) hx hb hts inX1 hown hK hP h_el rfl 4 (by decide) (hts _ k_237) (fun _ h9 => h9) rfl dX1_hasSameWords_17 ?_
    refine lv_icmp_ge (tgt := 64) hx hb dX1_hasSameWords_20 (by decide) (fun c_1 => ?_) (fun c_1 => ?_)
    · have c_1 := q_le (a := X.length) (b := i) (by omega) (by omega) c_1
      exact kk1 H locs ls (tx_eq hX hY hXY (fun t h9 => heq t (by omega))) hP hD hS (lv_sub hl (l' := [(0, .ref el)]) [1] rfl)
    · have c_1 := q_nle (a := X.length) (b := i) (by omega) (by omega) c_1
      refine lv_iload_n hx hb dX1_hasSameWords_23 rfl (lv_at hl 0 rfl) ?_
      refine lv_aload_n hx hb dX1_hasSameWords_24 rfl (lv_at hl 1 rfl) ?_
      refine o_get (D := D) (ci := 2) (v := .ref tx) (C := RX1) (T := TX1) (N := 9) hx hb hts inX1 hown hK hP h_el rfl 3 (by decide) (hts _ k_236) (fun _ h9 => h9) rfl dX1_hasSameWords_25 ?_
      refine o_lenb hx hb hK hP h_tx dX1_hasSameWords_28 ?_
      refine lv_icmp_ge (tgt := 64) hx hb dX1_hasSameWords_29 (by decide) (fun c_2 => ?_) (fun c_2 => ?_)
      · have c_2 := q_le (a := N0) (b := i) (by omega) (by omega) c_2
        exact kk1 H locs ls (tx_eq hX hY hXY (fun t h9 => heq t (by omega))) hP hD hS (lv_sub hl (l' := [(0, .ref el)]) [1] rfl)
      · have c_2 := q_nle (a := N0) (b := i) (by omega) (by omega) c_2
        refine lv_iload_n hx hb dX1_hasSameWords_32 rfl (lv_at hl 0 rfl) ?_
        refine lv_aload_n hx hb dX1_hasSameWords_33 rfl (lv_at hl 2 rfl) ?_
        refine o_get (D := D) (ci := 2) (v := .ref tx2) (C := RX1) (T := TX1) (N := 9) hx hb hts inX1 hown hK hP h_em rfl 3 (by decide) (hts _ k_236) (fun _ h9 => h9) rfl dX1_hasSameWords_34 ?_
        refine o_lenb hx hb hK hP h_ty dX1_hasSameWords_37 ?_
        refine lv_icmp_ge (tgt := 64) hx hb dX1_hasSameWords_38 (by decide) (fun c_3 => ?_) (fun c_3 => ?_)
        · have c_3 := q_le (a := N2) (b := i) (by omega) (by omega) c_3
          exact kk1 H locs ls (tx_eq hX hY hXY (fun t h9 => heq t (by omega))) hP hD hS (lv_sub hl (l' := [(0, .ref el)]) [1] rfl)
        · have c_3 := q_nle (a := N2) (b := i) (by omega) (by omega) c_3
          exact False.elim (by omega)
  | succ k ih =>
    intro i H locs ls hik heq hP hD hS hl kk1 kk0
    refine lv_iload_n hx hb dX1_hasSameWords_15 rfl (lv_at hl 0 rfl) ?_
    refine lv_aload_n hx hb dX1_hasSameWords_16 rfl (lv_at hl 1 rfl) ?_
    refine o_get (D := D) (ci := 2) (v := .int (nI (X.length))) (C := RX1) (T := TX1) (N := 9) hx hb hts inX1 hown hK hP h_el rfl 4 (by decide) (hts _ k_237) (fun _ h9 => h9) rfl dX1_hasSameWords_17 ?_
    refine lv_icmp_ge (tgt := 64) hx hb dX1_hasSameWords_20 (by decide) (fun c_1 => ?_) (fun c_1 => ?_)
    · have c_1 := q_le (a := X.length) (b := i) (by omega) (by omega) c_1
      exact False.elim (by omega)
    · have c_1 := q_nle (a := X.length) (b := i) (by omega) (by omega) c_1
      refine lv_iload_n hx hb dX1_hasSameWords_23 rfl (lv_at hl 0 rfl) ?_
      refine lv_aload_n hx hb dX1_hasSameWords_24 rfl (lv_at hl 1 rfl) ?_
      refine o_get (D := D) (ci := 2) (v := .ref tx) (C := RX1) (T := TX1) (N := 9) hx hb hts inX1 hown hK hP h_el rfl 3 (by decide) (hts _ k_236) (fun _ h9 => h9) rfl dX1_hasSameWords_25 ?_
      refine o_lenb hx hb hK hP h_tx dX1_hasSameWords_28 ?_
      refine lv_icmp_ge (tgt := 64) hx hb dX1_hasSameWords_29 (by decide) (fun c_2 => ?_) (fun c_2 => ?_)
      · have c_2 := q_le (a := N0) (b := i) (by omega) (by omega) c_2
        exact False.elim (by omega)
      · have c_2 := q_nle (a := N0) (b := i) (by omega) (by omega) c_2
        refine lv_iload_n hx hb dX1_hasSameWords_32 rfl (lv_at hl 0 rfl) ?_
        refine lv_aload_n hx hb dX1_hasSameWords_33 rfl (lv_at hl 2 rfl) ?_
        refine o_get (D := D) (ci := 2) (v := .ref tx2) (C := RX1) (T := TX1) (N := 9) hx hb hts inX1 hown hK hP h_em rfl 3 (by decide) (hts _ k_236) (fun _ h9 => h9) rfl dX1_hasSameWords_34 ?_
        refine o_lenb hx hb hK hP h_ty dX1_hasSameWords_37 ?_
        refine lv_icmp_ge (tgt := 64) hx hb dX1_hasSameWords_38 (by decide) (fun c_3 => ?_) (fun c_3 => ?_)
        · have c_3 := q_le (a := N2) (b := i) (by omega) (by omega) c_3
          exact False.elim (by omega)
        · have c_3 := q_nle (a := N2) (b := i) (by omega) (by omega) c_3
          refine lv_aload_n hx hb dX1_hasSameWords_41 rfl (lv_at hl 1 rfl) ?_
          refine o_get (D := D) (ci := 2) (v := .ref tx) (C := RX1) (T := TX1) (N := 9) hx hb hts inX1 hown hK hP h_el rfl 3 (by decide) (hts _ k_236) (fun _ h9 => h9) rfl dX1_hasSameWords_42 ?_
          refine lv_iload_n hx hb dX1_hasSameWords_45 rfl (lv_at hl 0 rfl) ?_
          refine o_bld (X := i) hx hb hK hP h_tx (by omega) (by omega) dX1_hasSameWords_46 ?_
          refine lv_aload_n hx hb dX1_hasSameWords_47 rfl (lv_at hl 2 rfl) ?_
          refine o_get (D := D) (ci := 2) (v := .ref tx2) (C := RX1) (T := TX1) (N := 9) hx hb hts inX1 hown hK hP h_em rfl 3 (by decide) (hts _ k_236) (fun _ h9 => h9) rfl dX1_hasSameWords_48 ?_
          refine lv_iload_n hx hb dX1_hasSameWords_51 rfl (lv_at hl 0 rfl) ?_
          refine o_bld (X := i) hx hb hK hP h_ty (by omega) (by omega) dX1_hasSameWords_52 ?_
          refine lv_icmp_eq (tgt := 58) hx hb dX1_hasSameWords_53 (by decide) (fun c_4 => ?_) (fun c_4 => ?_)
          · refine lv_iinc (v := nI (i + 1)) (lv' := [(2, .int (nI (i + 1))), (0, .ref el), (1, .ref el2)]) hx hb dX1_hasSameWords_58 hl (k := 0) rfl (nI_addE (a := i) (b := 1) (by omega)) (by decide) rfl (fun ls hl => ?_)
            refine lv_goto (tgt := 15) hx hb dX1_hasSameWords_61 (by decide) ?_
            exact ih (i + 1) H locs ls (by omega) (fun t h9 => by by_cases e9 : t = i; (· rw [e9]; exact c_4); exact heq t (by omega)) hP hD hS (lv_sub hl (l' := [(2, .int (nI (i + 1))), (0, .ref el), (1, .ref el2)]) [0, 1, 2] rfl) kk1 kk0
          · exact kk0 H locs ls (tx_ne hX hY (by omega) c_4) hP hD hS (lv_sub hl (l' := [(0, .ref el)]) [1] rfl)
set_option maxHeartbeats 1000000 in
set_option maxRecDepth 100000 in
theorem l_same (l : Launch) (D : va_G) (z : Nat → Nat) (cB cI_ cO : ClassId) (L0 : List Nat) (g0 : hG) (el tx rf rt rn w el2 tx2 rf2 rt2 rn2 w2 N0 N2 : Nat) (kd nm sk kd2 nm2 sk2 : Int32) (X Y : List Int32) (tf tg : Nat → Int32) (h_el : ho L0 g0 el 9 (.inr (2, [.int kd, .int nm, .int sk, .ref tx, .int (nI (X.length)), .int (nI w), .ref rf, .ref rt, .int (nI rn)]))) (h_em : ho L0 g0 el2 9 (.inr (2, [.int kd2, .int nm2, .int sk2, .ref tx2, .int (nI (Y.length)), .int (nI w2), .ref rf2, .ref rt2, .int (nI rn2)]))) (h_tx : ho L0 g0 tx 10 (.inl (cB, N0, .inl tf))) (h_ty : ho L0 g0 tx2 10 (.inl (cB, N2, .inl tg))) (hX : tx_is X tf) (hY : tx_is Y tg) (hN0 : X.length ≤ N0) (hN1 : N0 ≤ 1200) (hN2 : Y.length ≤ N2) (hN3 : N2 ≤ 1200) : eIs l D yX1_hasSameWords cX1_hasSameWords 3 (some .boolean) 4 60 0 0 [.ref el, .ref el2] z cB cI_ cO L0 g0 (fun r => (X = Y ∧ r = 1 ∨ ¬ X = Y ∧ r = 0)) := by
  refine o_si (by decide) (Nat.le_of_ble_eq_true rfl) ?_
  intro p e s m below meth c A ls hf hr hlocks hin hK hP hD hS hA hZ hN hl
  obtain ⟨hx, hb, hml, hown, hts⟩ := id hf
  have hl : lv_has ls 3 [(0, .ref el), (1, .ref el2)] := hl
  refine lv_aload_n hx hb dX1_hasSameWords_0 rfl (lv_at hl 0 rfl) ?_
  refine o_get (D := D) (ci := 2) (v := .int (nI (X.length))) (C := RX1) (T := TX1) (N := 9) hx hb hts inX1 hown hK hP h_el rfl 4 (by decide) (hts _ k_237) (fun _ h9 => h9) rfl dX1_hasSameWords_1 ?_
  refine lv_aload_n hx hb dX1_hasSameWords_4 rfl (lv_at hl 1 rfl) ?_
  refine o_get (D := D) (ci := 2) (v := .int (nI (Y.length))) (C := RX1) (T := TX1) (N := 9) hx hb hts inX1 hown hK hP h_em rfl 4 (by decide) (hts _ k_237) (fun _ h9 => h9) rfl dX1_hasSameWords_5 ?_
  refine lv_icmp_eq (tgt := 13) hx hb dX1_hasSameWords_8 (by decide) (fun c_1 => ?_) (fun c_1 => ?_)
  · have c_1 := q_eqn (a := X.length) (b := Y.length) (by omega) (by omega) c_1
    refine lv_iconst (v := 0) hx hb dX1_hasSameWords_13 (by decide) ?_
    refine lv_istore_n (lv' := [(2, .int 0), (0, .ref el), (1, .ref el2)]) hx hb dX1_hasSameWords_14 rfl hl (by decide) rfl (fun ls hl => ?_)
    refine sm_loop  h_el h_em h_tx h_ty hX hY hN0 hN1 hN2 hN3 (by omega) (Nat.le_of_ble_eq_true rfl) (Nat.le_of_ble_eq_true rfl) (show 0 ≤ 0 by omega) (show 0 ≤ 0 by omega) hA hf hK hZ hN X.length 0 _ _ ls (by omega) (fun t h9 => absurd h9 (Nat.not_lt_zero t)) hP hD hS (lv_sub hl (l' := [(2, .int 0), (0, .ref el), (1, .ref el2)]) [0, 1, 2] rfl) ?_ ?_
    · intro H locs ls b1 hP hD hS hl
      refine lv_iconst (v := 1) hx hb dX1_hasSameWords_64 (by decide) ?_
      exact o_ri hf hr rfl hlocks hK hP hD hS (show 0 ≤ 0 by omega) (show 0 ≤ 0 by omega) ⟨Or.inl ⟨b1, rfl⟩, rfl, rfl⟩ dX1_hasSameWords_65
    · intro H locs ls b1 hP hD hS hl
      refine lv_iconst (v := 0) hx hb dX1_hasSameWords_56 (by decide) ?_
      exact o_ri hf hr rfl hlocks hK hP hD hS (show 0 ≤ 0 by omega) (show 0 ≤ 0 by omega) ⟨Or.inr ⟨b1, rfl⟩, rfl, rfl⟩ dX1_hasSameWords_57
  · have c_1 := q_nen (a := X.length) (b := Y.length) (by omega) (by omega) c_1
    refine lv_iconst (v := 0) hx hb dX1_hasSameWords_11 (by decide) ?_
    exact o_ri hf hr rfl hlocks hK hP hD hS (show 0 ≤ 0 by omega) (show 0 ≤ 0 by omega) ⟨Or.inr ⟨fun e9 => c_1 (congrArg List.length e9), rfl⟩, rfl, rfl⟩ dX1_hasSameWords_12
set_option maxHeartbeats 1000000 in
set_option maxRecDepth 100000 in
theorem l_rlen (l : Launch) (D : va_G) (z : Nat → Nat) (cB cI_ cO : ClassId) (L0 : List Nat) (g0 : hG) (el tx rf rt rn w : Nat) (kd nm sk : Int32) (M n : Nat) (f1 f2 : Nat → Int32) (row a b : Nat) (h_el : ho L0 g0 el 9 (.inr (2, [.int kd, .int nm, .int sk, .ref tx, .int (nI n), .int (nI w), .ref rf, .ref rt, .int (nI rn)]))) (h_rf : ho L0 g0 rf 11 (.inl (cI_, M, .inl f1))) (h_rt : ho L0 g0 rt 12 (.inl (cI_, M, .inl f2))) (hrow : row < rn) (hM : rn ≤ M) (hM2 : M ≤ 200) (ha : f1 row = nI a) (hb_ : f2 row = nI b) (hab : a ≤ b) (hb9 : b ≤ 1200) : eIs l D yX1_rowLength cX1_rowLength 2 (some .int) 0 0 0 0 [.ref el, .int (nI row)] z cB cI_ cO L0 g0 (fun r => r = nI (b - a)) := by
  refine o_si (by decide) (Nat.le_of_ble_eq_true rfl) ?_
  intro p e s m below meth c A ls hf hr hlocks hin hK hP hD hS hA hZ hN hl
  obtain ⟨hx, hb, hml, hown, hts⟩ := id hf
  have hl : lv_has ls 2 [(0, .ref el), (1, .int (nI row))] := hl
  refine lv_iload_n hx hb dX1_rowLength_0 rfl (lv_at hl 1 rfl) ?_
  refine lv_if_lt (tgt := 28) hx hb dX1_rowLength_1 (by decide) (fun c_1 => ?_) (fun c_1 => ?_)
  · have c_1 := q_lt (a := row) (b := 0) (by omega) (by omega) c_1
    exact False.elim (by omega)
  · have c_1 := q_nlt (a := row) (b := 0) (by omega) (by omega) c_1
    refine lv_iload_n hx hb dX1_rowLength_4 rfl (lv_at hl 1 rfl) ?_
    refine lv_aload_n hx hb dX1_rowLength_5 rfl (lv_at hl 0 rfl) ?_
    refine o_get (D := D) (ci := 2) (v := .int (nI rn)) (C := RX1) (T := TX1) (N := 9) hx hb hts inX1 hown hK hP h_el rfl 8 (by decide) (hts _ k_241) (fun _ h9 => h9) rfl dX1_rowLength_6 ?_
    refine lv_icmp_ge (tgt := 28) hx hb dX1_rowLength_9 (by decide) (fun c_2 => ?_) (fun c_2 => ?_)
    · have c_2 := q_le (a := rn) (b := row) (by omega) (by omega) c_2
      exact False.elim (by omega)
    · have c_2 := q_nle (a := rn) (b := row) (by omega) (by omega) c_2
      refine lv_aload_n hx hb dX1_rowLength_12 rfl (lv_at hl 0 rfl) ?_
      refine o_get (D := D) (ci := 2) (v := .ref rt) (C := RX1) (T := TX1) (N := 9) hx hb hts inX1 hown hK hP h_el rfl 7 (by decide) (hts _ k_240) (fun _ h9 => h9) rfl dX1_rowLength_13 ?_
      refine lv_iload_n hx hb dX1_rowLength_16 rfl (lv_at hl 1 rfl) ?_
      refine o_ild (X := row) hx hb hK hP h_rt (by omega) (by omega) dX1_rowLength_17 ?_
      refine q_seti (y := (nI b)) hb_ ?_
      refine lv_aload_n hx hb dX1_rowLength_18 rfl (lv_at hl 0 rfl) ?_
      refine o_get (D := D) (ci := 2) (v := .ref rf) (C := RX1) (T := TX1) (N := 9) hx hb hts inX1 hown hK hP h_el rfl 6 (by decide) (hts _ k_239) (fun _ h9 => h9) rfl dX1_rowLength_19 ?_
      refine lv_iload_n hx hb dX1_rowLength_22 rfl (lv_at hl 1 rfl) ?_
      refine o_ild (X := row) hx hb hK hP h_rf (by omega) (by omega) dX1_rowLength_23 ?_
      refine q_seti (y := (nI a)) ha ?_
      refine lv_isub hx hb dX1_rowLength_24 ?_
      refine q_seti (y := nI (b - a)) (nI_subE (a := b) (b := a) (by omega) (by omega)) ?_
      refine lv_goto (tgt := 29) hx hb dX1_rowLength_25 (by decide) ?_
      exact o_ri hf hr rfl hlocks hK hP hD hS (show 0 ≤ 0 by omega) (show 0 ≤ 0 by omega) ⟨rfl, rfl, rfl⟩ dX1_rowLength_29
set_option maxHeartbeats 1000000 in
set_option maxRecDepth 100000 in
theorem l_rbyte (l : Launch) (D : va_G) (z : Nat → Nat) (cB cI_ cO : ClassId) (L0 : List Nat) (g0 : hG) (el tx rf rt rn w : Nat) (kd nm sk : Int32) (M n : Nat) (f1 f2 : Nat → Int32) (row a b : Nat) (N0 i : Nat) (tf : Nat → Int32) (h_el : ho L0 g0 el 9 (.inr (2, [.int kd, .int nm, .int sk, .ref tx, .int (nI n), .int (nI w), .ref rf, .ref rt, .int (nI rn)]))) (h_rf : ho L0 g0 rf 11 (.inl (cI_, M, .inl f1))) (h_rt : ho L0 g0 rt 12 (.inl (cI_, M, .inl f2))) (h_tx : ho L0 g0 tx 10 (.inl (cB, N0, .inl tf))) (hrow : row < rn) (hM : rn ≤ M) (hM2 : M ≤ 200) (ha : f1 row = nI a) (hb_ : f2 row = nI b) (hab : a ≤ b) (hb9 : b ≤ 1200) (hi : i < b - a) (hN : b ≤ N0) (hN2 : N0 ≤ 1200) : eIs l D yX1_byteOfRow cX1_byteOfRow 3 (some .int) 1 21 0 0 [.ref el, .int (nI row), .int (nI i)] z cB cI_ cO L0 g0 (fun r => r = tf (a + i)) := by
  refine o_si (by decide) (Nat.le_of_ble_eq_true rfl) ?_
  intro p e s m below meth c A ls hf hr hlocks hin hK hP hD hS hA hZ hN hl
  obtain ⟨hx, hb, hml, hown, hts⟩ := id hf
  have hl : lv_has ls 3 [(0, .ref el), (1, .int (nI row)), (2, .int (nI i))] := hl
  refine lv_iload_n hx hb dX1_byteOfRow_0 rfl (lv_at hl 2 rfl) ?_
  refine lv_if_lt (tgt := 29) hx hb dX1_byteOfRow_1 (by decide) (fun c_1 => ?_) (fun c_1 => ?_)
  · have c_1 := q_lt (a := i) (b := 0) (by omega) (by omega) c_1
    exact False.elim (by omega)
  · have c_1 := q_nlt (a := i) (b := 0) (by omega) (by omega) c_1
    refine lv_iload_n hx hb dX1_byteOfRow_4 rfl (lv_at hl 2 rfl) ?_
    refine lv_aload_n hx hb dX1_byteOfRow_5 rfl (lv_at hl 0 rfl) ?_
    refine lv_iload_n hx hb dX1_byteOfRow_6 rfl (lv_at hl 1 rfl) ?_
    refine o_cis (k := 0) (n := 0) hK hP hD hS hA (o_rV (As := [.int (nI row)]) (rest := [.int (nI i)]) hf (l_rlen _ _ _ _ _ _ _ _ el tx rf rt rn w kd nm sk M n f1 f2 row a b h_el h_rf h_rt hrow hM hM2 ha hb_ hab hb9 _) k_752 k_757 k_750 k_751 k_90 (nA := 1) (by decide +kernel) ⟨Nat.le_of_ble_eq_true rfl, Nat.le_of_ble_eq_true rfl⟩ hK hP hD hS hA hZ hN h_el rfl rfl rfl hl.1 rfl (Nat.le_of_ble_eq_true rfl) dX1_byteOfRow_7 ⟨(show 0 + 0 ≤ 0 by omega), (show 0 + 0 ≤ 0 by omega)⟩) (Nat.le_refl _) (Nat.le_refl _) (fun r H locs hw hP hD hS => ?_)
    obtain rfl := hw
    refine lv_icmp_ge (tgt := 29) hx hb dX1_byteOfRow_10 (by decide) (fun c_2 => ?_) (fun c_2 => ?_)
    · have c_2 := q_le (a := (b - a)) (b := i) (by omega) (by omega) c_2
      exact False.elim (by omega)
    · have c_2 := q_nle (a := (b - a)) (b := i) (by omega) (by omega) c_2
      refine lv_aload_n hx hb dX1_byteOfRow_13 rfl (lv_at hl 0 rfl) ?_
      refine o_get (D := D) (ci := 2) (v := .ref tx) (C := RX1) (T := TX1) (N := 9) hx hb hts inX1 hown hK hP h_el rfl 3 (by decide) (hts _ k_236) (fun _ h9 => h9) rfl dX1_byteOfRow_14 ?_
      refine lv_aload_n hx hb dX1_byteOfRow_17 rfl (lv_at hl 0 rfl) ?_
      refine o_get (D := D) (ci := 2) (v := .ref rf) (C := RX1) (T := TX1) (N := 9) hx hb hts inX1 hown hK hP h_el rfl 6 (by decide) (hts _ k_239) (fun _ h9 => h9) rfl dX1_byteOfRow_18 ?_
      refine lv_iload_n hx hb dX1_byteOfRow_21 rfl (lv_at hl 1 rfl) ?_
      refine o_ild (X := row) hx hb hK hP h_rf (by omega) (by omega) dX1_byteOfRow_22 ?_
      refine q_seti (y := (nI a)) ha ?_
      refine lv_iload_n hx hb dX1_byteOfRow_23 rfl (lv_at hl 2 rfl) ?_
      refine lv_iadd hx hb dX1_byteOfRow_24 ?_
      refine q_seti (y := nI (a + i)) (nI_addE (a := a) (b := i) (by omega)) ?_
      refine o_bld (X := a + i) hx hb hK hP h_tx (by omega) (by omega) dX1_byteOfRow_25 ?_
      refine lv_goto (tgt := 30) hx hb dX1_byteOfRow_26 (by decide) ?_
      exact o_ri hf hr rfl hlocks hK hP hD hS (show 0 ≤ 0 by omega) (show 0 ≤ 0 by omega) ⟨rfl, rfl, rfl⟩ dX1_byteOfRow_30
