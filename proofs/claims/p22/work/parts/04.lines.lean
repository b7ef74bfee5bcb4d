abbrev cX10_findLines : ByteArray := prog_12_method_6_code
def yX10_findLines : MethodName := ⟨RX10, "findLines", "()V"⟩
theorem k_1144 : (Cond.fieldLink RX10 7 "ScriptDeskModel" "tape" "[B") ∈ gT := gT_i 1144 (by decide +kernel) rfl
theorem k_1145 : (Cond.fieldLink RX10 123 "ScriptDeskModel" "taped" "I") ∈ gT := gT_i 1145 (by decide +kernel) rfl
theorem k_1165 : (Cond.fieldLink RX10 126 "ScriptDeskModel" "lines" "I") ∈ gT := gT_i 1165 (by decide +kernel) rfl
theorem k_1166 : (Cond.fieldLink RX10 62 "ScriptDeskModel" "lineFrom" "[I") ∈ gT := gT_i 1166 (by decide +kernel) rfl
theorem k_1167 : (Cond.fieldLink RX10 65 "ScriptDeskModel" "lineTo" "[I") ∈ gT := gT_i 1167 (by decide +kernel) rfl
theorem dX10_findLines_17 : decode cX10_findLines 17 = .ok (.iload_n 2, 1) := by decide +kernel
theorem dX10_findLines_18 : decode cX10_findLines 18 = .ok (.aload_n 0, 1) := by decide +kernel
theorem dX10_findLines_19 : decode cX10_findLines 19 = .ok (.getfield 123, 3) := by decide +kernel
theorem dX10_findLines_22 : decode cX10_findLines 22 = .ok (.if_icmp .ge 20, 3) := by decide +kernel
theorem dX10_findLines_25 : decode cX10_findLines 25 = .ok (.aload_n 0, 1) := by decide +kernel
theorem dX10_findLines_26 : decode cX10_findLines 26 = .ok (.getfield 7, 3) := by decide +kernel
theorem dX10_findLines_29 : decode cX10_findLines 29 = .ok (.iload_n 2, 1) := by decide +kernel
theorem dX10_findLines_30 : decode cX10_findLines 30 = .ok (.baload, 1) := by decide +kernel
theorem dX10_findLines_31 : decode cX10_findLines 31 = .ok (.bipush 10, 2) := by decide +kernel
theorem dX10_findLines_33 : decode cX10_findLines 33 = .ok (.if_icmp .eq 9, 3) := by decide +kernel
theorem dX10_findLines_36 : decode cX10_findLines 36 = .ok (.iinc 2 1, 3) := by decide +kernel
theorem dX10_findLines_39 : decode cX10_findLines 39 = .ok (.goto (-22), 3) := by decide +kernel
theorem dX10_findLines_47 : decode cX10_findLines 47 = .ok (.iload_n 3, 1) := by decide +kernel
theorem dX10_findLines_48 : decode cX10_findLines 48 = .ok (.iload 4, 2) := by decide +kernel
theorem dX10_findLines_50 : decode cX10_findLines 50 = .ok (.if_icmp .ge 20, 3) := by decide +kernel
theorem dX10_findLines_53 : decode cX10_findLines 53 = .ok (.aload_n 0, 1) := by decide +kernel
theorem dX10_findLines_54 : decode cX10_findLines 54 = .ok (.getfield 7, 3) := by decide +kernel
theorem dX10_findLines_57 : decode cX10_findLines 57 = .ok (.iload_n 3, 1) := by decide +kernel
theorem dX10_findLines_58 : decode cX10_findLines 58 = .ok (.baload, 1) := by decide +kernel
theorem dX10_findLines_59 : decode cX10_findLines 59 = .ok (.bipush 32, 2) := by decide +kernel
theorem dX10_findLines_61 : decode cX10_findLines 61 = .ok (.if_icmp .ne 9, 3) := by decide +kernel
theorem dX10_findLines_64 : decode cX10_findLines 64 = .ok (.iinc 3 1, 3) := by decide +kernel
theorem dX10_findLines_67 : decode cX10_findLines 67 = .ok (.goto (-20), 3) := by decide +kernel
theorem dX10_findLines_70 : decode cX10_findLines 70 = .ok (.iload 4, 2) := by decide +kernel
theorem dX10_findLines_72 : decode cX10_findLines 72 = .ok (.iload_n 3, 1) := by decide +kernel
theorem dX10_findLines_73 : decode cX10_findLines 73 = .ok (.if_icmp .le 23, 3) := by decide +kernel
theorem dX10_findLines_76 : decode cX10_findLines 76 = .ok (.aload_n 0, 1) := by decide +kernel
theorem dX10_findLines_77 : decode cX10_findLines 77 = .ok (.getfield 7, 3) := by decide +kernel
theorem dX10_findLines_80 : decode cX10_findLines 80 = .ok (.iload 4, 2) := by decide +kernel
theorem dX10_findLines_82 : decode cX10_findLines 82 = .ok (.iconst 1, 1) := by decide +kernel
theorem dX10_findLines_83 : decode cX10_findLines 83 = .ok (.isub, 1) := by decide +kernel
theorem dX10_findLines_84 : decode cX10_findLines 84 = .ok (.baload, 1) := by decide +kernel
theorem dX10_findLines_85 : decode cX10_findLines 85 = .ok (.bipush 32, 2) := by decide +kernel
theorem dX10_findLines_87 : decode cX10_findLines 87 = .ok (.if_icmp .ne 9, 3) := by decide +kernel
theorem dX10_findLines_90 : decode cX10_findLines 90 = .ok (.iinc 4 (-1), 3) := by decide +kernel
theorem dX10_findLines_93 : decode cX10_findLines 93 = .ok (.goto (-23), 3) := by decide +kernel
theorem dX10_findLines_7 : decode cX10_findLines 7 = .ok (.iload_n 1, 1) := by decide +kernel
theorem dX10_findLines_8 : decode cX10_findLines 8 = .ok (.aload_n 0, 1) := by decide +kernel
theorem dX10_findLines_9 : decode cX10_findLines 9 = .ok (.getfield 123, 3) := by decide +kernel
theorem dX10_findLines_12 : decode cX10_findLines 12 = .ok (.if_icmp .ge 122, 3) := by decide +kernel
theorem dX10_findLines_15 : decode cX10_findLines 15 = .ok (.iload_n 1, 1) := by decide +kernel
theorem dX10_findLines_16 : decode cX10_findLines 16 = .ok (.istore_n 2, 1) := by decide +kernel
theorem dX10_findLines_42 : decode cX10_findLines 42 = .ok (.iload_n 1, 1) := by decide +kernel
theorem dX10_findLines_43 : decode cX10_findLines 43 = .ok (.istore_n 3, 1) := by decide +kernel
theorem dX10_findLines_44 : decode cX10_findLines 44 = .ok (.iload_n 2, 1) := by decide +kernel
theorem dX10_findLines_45 : decode cX10_findLines 45 = .ok (.istore 4, 2) := by decide +kernel
theorem dX10_findLines_96 : decode cX10_findLines 96 = .ok (.aload_n 0, 1) := by decide +kernel
theorem dX10_findLines_97 : decode cX10_findLines 97 = .ok (.getfield 62, 3) := by decide +kernel
theorem dX10_findLines_100 : decode cX10_findLines 100 = .ok (.aload_n 0, 1) := by decide +kernel
theorem dX10_findLines_101 : decode cX10_findLines 101 = .ok (.getfield 126, 3) := by decide +kernel
theorem dX10_findLines_104 : decode cX10_findLines 104 = .ok (.iload_n 3, 1) := by decide +kernel
theorem dX10_findLines_105 : decode cX10_findLines 105 = .ok (.iastore, 1) := by decide +kernel
theorem dX10_findLines_106 : decode cX10_findLines 106 = .ok (.aload_n 0, 1) := by decide +kernel
theorem dX10_findLines_107 : decode cX10_findLines 107 = .ok (.getfield 65, 3) := by decide +kernel
theorem dX10_findLines_110 : decode cX10_findLines 110 = .ok (.aload_n 0, 1) := by decide +kernel
theorem dX10_findLines_111 : decode cX10_findLines 111 = .ok (.getfield 126, 3) := by decide +kernel
theorem dX10_findLines_114 : decode cX10_findLines 114 = .ok (.iload 4, 2) := by decide +kernel
theorem dX10_findLines_116 : decode cX10_findLines 116 = .ok (.iastore, 1) := by decide +kernel
theorem dX10_findLines_117 : decode cX10_findLines 117 = .ok (.aload_n 0, 1) := by decide +kernel
theorem dX10_findLines_118 : decode cX10_findLines 118 = .ok (.dup, 1) := by decide +kernel
theorem dX10_findLines_119 : decode cX10_findLines 119 = .ok (.getfield 126, 3) := by decide +kernel
theorem dX10_findLines_122 : decode cX10_findLines 122 = .ok (.iconst 1, 1) := by decide +kernel
theorem dX10_findLines_123 : decode cX10_findLines 123 = .ok (.iadd, 1) := by decide +kernel
theorem dX10_findLines_124 : decode cX10_findLines 124 = .ok (.putfield 126, 3) := by decide +kernel
theorem dX10_findLines_127 : decode cX10_findLines 127 = .ok (.iload_n 2, 1) := by decide +kernel
theorem dX10_findLines_128 : decode cX10_findLines 128 = .ok (.iconst 1, 1) := by decide +kernel
theorem dX10_findLines_129 : decode cX10_findLines 129 = .ok (.iadd, 1) := by decide +kernel
theorem dX10_findLines_130 : decode cX10_findLines 130 = .ok (.istore_n 1, 1) := by decide +kernel
theorem dX10_findLines_131 : decode cX10_findLines 131 = .ok (.goto (-124), 3) := by decide +kernel
theorem dX10_findLines_0 : decode cX10_findLines 0 = .ok (.aload_n 0, 1) := by decide +kernel
theorem dX10_findLines_1 : decode cX10_findLines 1 = .ok (.iconst 0, 1) := by decide +kernel
theorem dX10_findLines_2 : decode cX10_findLines 2 = .ok (.putfield 126, 3) := by decide +kernel
theorem dX10_findLines_5 : decode cX10_findLines 5 = .ok (.iconst 0, 1) := by decide +kernel
theorem dX10_findLines_6 : decode cX10_findLines 6 = .ok (.istore_n 1, 1) := by decide +kernel
theorem dX10_findLines_134 : decode cX10_findLines 134 = .ok (.return_, 1) := by decide +kernel
/-- two rows of numbers hold a list of pairs from place a on -/
def tx_arr (L : List (Nat × Nat)) (a : Nat) (g1 g2 : Nat → Int32) : Prop := ∀ j, j < L.length → g1 (a + j) = nI (L.getD j (0, 0)).1 ∧ g2 (a + j) = nI (L.getD j (0, 0)).2
theorem tx_arr_nil (a : Nat) (g1 g2 : Nat → Int32) : tx_arr [] a g1 g2 := fun j hj => absurd hj (Nat.not_lt_zero j)
theorem tx_arr_cons {L : List (Nat × Nat)} {a y x : Nat} {f1 f2 g1 g2 : Nat → Int32} (hlow : ∀ j, j < a + 1 → g1 j = upd f1 a (nI y) j ∧ g2 j = upd f2 a (nI x) j) (h : tx_arr L (a + 1) g1 g2) : tx_arr ((y, x) :: L) a g1 g2 := by
  intro j hj
  cases j with
  | zero =>
    have h0 := hlow a (by omega)
    rw [pk_us, pk_us] at h0
    exact h0
  | succ j =>
    have h1 := h j (by simpa using hj)
    rw [show a + 1 + j = a + (j + 1) by omega] at h1
    simpa using h1
theorem tx_low {a y x : Nat} {f1 f2 g1 g2 : Nat → Int32} (hlow : ∀ j, j < a + 1 → g1 j = upd f1 a (nI y) j ∧ g2 j = upd f2 a (nI x) j) : ∀ j, j < a → g1 j = f1 j ∧ g2 j = f2 j := by
  intro j hj
  have h := hlow j (by omega)
  rw [pk_un (by omega), pk_un (by omega)] at h
  exact h
theorem tx_ln_out {T : Nat → Int32} {n i : Nat} (h : n ≤ i) : ∀ k, tx_ln T n k i = [] := by
  intro k
  cases k with
  | zero => rfl
  | succ k => exact if_neg (by omega)
theorem tx_ln_in {T : Nat → Int32} {n i k z y x : Nat} (h : i < n) (ez : z = tx_eol T (n - i) i) (ey : y = tx_sk T (z - i) i) (ex : x = tx_bk T (z - y) z) : tx_ln T n (k + 1) i = (y, x) :: tx_ln T n k (z + 1) := by
  rw [ex, ey, ez]
  exact if_pos h
theorem tx_ln_len (T : Nat → Int32) (n : Nat) : ∀ k i, (tx_ln T n k i).length ≤ n - i := by
  intro k
  induction k with
  | zero => intro i; exact Nat.zero_le _
  | succ k ih =>
    intro i
    by_cases h : i < n
    · rw [tx_ln_in h rfl rfl rfl]
      have h1 := ih (tx_eol T (n - i) i + 1)
      have h2 := tx_eol_le T (n - i) i
      simp only [List.length_cons]
      omega
    · rw [tx_ln_out (by omega)]; exact Nat.zero_le _
set_option maxHeartbeats 1000000 in
set_option maxRecDepth 100000 in
theorem lf_eol {p : Program} {l : Launch} {e : Env} {R : Room} {s : State} {m : MethodId} {args : Array Value} {below : List Frame} {meth : Method} {c : Code} {cells slots : Nat} {Q : State → Prop} {D : va_G} {h0 : Nat} {q : Nat → Nat} {cB cI cZ : ClassId} {I : Nat → Int32} {F : Nat → Nat → Int32} {n : Nat} {x1 : Int32} (hI1 : I 1 = nI n) (hn : n ≤ 1200) {H : Heap} {locs : List Loc} (hf : CallFix p m c cX10_findLines 5 s args gT yX10_findLines.cls) (hK : va_K D vcl (mT cB cI cZ) s) (hP : va_P D vcl (mW h0 q cB cI cZ I F) H) :
    ∀ (k : Nat) (i : Nat) (ls : Array Slot), i + k = n →  lv_has ls 5 [(2, .int (nI i)), (1, .int x1), (0, .ref h0)] → (∀ (z : Nat) (ls : Array Slot), z = tx_eol (F 0) k i → lv_has ls 5 [(2, .int (nI z)), (1, .int x1), (0, .ref h0)] → W p l e R s m args below meth c H locs cells slots Q (F0 m 42 ls [])) → W p l e R s m args below meth c H locs cells slots Q (F0 m 17 ls []) := by
  obtain ⟨hx, hb, hml, hown, hts⟩ := id hf
  intro k
  induction k with
  | zero =>
    intro i ls hik hl kk
    refine lv_iload_n hx hb dX10_findLines_17 rfl (lv_at hl 0 rfl) ?_
    refine lv_aload_n hx hb dX10_findLines_18 rfl (lv_at hl 2 rfl) ?_
    refine va_get (D := D) (ci := 11) (v := .int (I 1)) (C := RX10) (T := TX10) (N := 48) hx hb hts inX10 hown hK hP 0 rfl rfl 1 (by decide) (hts _ k_1145) (fun _ h9 => h9) rfl dX10_findLines_19 ?_
    refine q_seti (y := (nI n)) hI1 ?_
    refine lv_icmp_ge (tgt := 42) hx hb dX10_findLines_22 (by decide) (fun c_1 => ?_) (fun c_1 => ?_)
    · have c_1 := q_le (a := n) (b := i) (by omega) (by omega) c_1
      exact kk i ls rfl (lv_sub hl (l' := [(2, .int (nI i)), (1, .int x1), (0, .ref h0)]) [0, 1, 2] rfl)
    · have c_1 := q_nle (a := n) (b := i) (by omega) (by omega) c_1
      refine lv_aload_n hx hb dX10_findLines_25 rfl (lv_at hl 2 rfl) ?_
      refine va_get (D := D) (ci := 11) (v := .ref (q 0)) (C := RX10) (T := TX10) (N := 48) hx hb hts inX10 hown hK hP 0 rfl rfl 0 (by decide) (hts _ k_1144) (fun _ h9 => h9) rfl dX10_findLines_26 ?_
      refine lv_iload_n hx hb dX10_findLines_29 rfl (lv_at hl 0 rfl) ?_
      refine q_bld (X := i) (f := (F 0)) hx hb hK hP 1 0 rfl rfl (by omega) (by decide) dX10_findLines_30 ?_
      refine lv_bipush (v := 10) hx hb dX10_findLines_31 (by decide) ?_
      refine lv_icmp_eq (tgt := 42) hx hb dX10_findLines_33 (by decide) (fun c_2 => ?_) (fun c_2 => ?_)
      · exact kk i ls rfl (lv_sub hl (l' := [(2, .int (nI i)), (1, .int x1), (0, .ref h0)]) [0, 1, 2] rfl)
      · refine lv_iinc (v := (nI (i + 1))) (lv' := [(2, .int (nI (i + 1))), (1, .int x1), (0, .ref h0)]) hx hb dX10_findLines_36 hl (k := 0) rfl (nI_add i 1) (by decide) rfl (fun ls hl => ?_)
        refine lv_goto (tgt := 17) hx hb dX10_findLines_39 (by decide) ?_
        exact absurd hik (by omega)
  | succ k ih =>
    intro i ls hik hl kk
    refine lv_iload_n hx hb dX10_findLines_17 rfl (lv_at hl 0 rfl) ?_
    refine lv_aload_n hx hb dX10_findLines_18 rfl (lv_at hl 2 rfl) ?_
    refine va_get (D := D) (ci := 11) (v := .int (I 1)) (C := RX10) (T := TX10) (N := 48) hx hb hts inX10 hown hK hP 0 rfl rfl 1 (by decide) (hts _ k_1145) (fun _ h9 => h9) rfl dX10_findLines_19 ?_
    refine q_seti (y := (nI n)) hI1 ?_
    refine lv_icmp_ge (tgt := 42) hx hb dX10_findLines_22 (by decide) (fun c_1 => ?_) (fun c_1 => ?_)
    · have c_1 := q_le (a := n) (b := i) (by omega) (by omega) c_1
      exact absurd hik (by omega)
    · have c_1 := q_nle (a := n) (b := i) (by omega) (by omega) c_1
      refine lv_aload_n hx hb dX10_findLines_25 rfl (lv_at hl 2 rfl) ?_
      refine va_get (D := D) (ci := 11) (v := .ref (q 0)) (C := RX10) (T := TX10) (N := 48) hx hb hts inX10 hown hK hP 0 rfl rfl 0 (by decide) (hts _ k_1144) (fun _ h9 => h9) rfl dX10_findLines_26 ?_
      refine lv_iload_n hx hb dX10_findLines_29 rfl (lv_at hl 0 rfl) ?_
      refine q_bld (X := i) (f := (F 0)) hx hb hK hP 1 0 rfl rfl (by omega) (by decide) dX10_findLines_30 ?_
      refine lv_bipush (v := 10) hx hb dX10_findLines_31 (by decide) ?_
      refine lv_icmp_eq (tgt := 42) hx hb dX10_findLines_33 (by decide) (fun c_2 => ?_) (fun c_2 => ?_)
      · exact kk i ls (if_pos c_2).symm (lv_sub hl (l' := [(2, .int (nI i)), (1, .int x1), (0, .ref h0)]) [0, 1, 2] rfl)
      · refine lv_iinc (v := (nI (i + 1))) (lv' := [(2, .int (nI (i + 1))), (1, .int x1), (0, .ref h0)]) hx hb dX10_findLines_36 hl (k := 0) rfl (nI_add i 1) (by decide) rfl (fun ls hl => ?_)
        refine lv_goto (tgt := 17) hx hb dX10_findLines_39 (by decide) ?_
        exact ih (i + 1) ls (by omega) (lv_sub hl (l' := [(2, .int (nI (i + 1))), (1, .int x1), (0, .ref h0)]) [0, 1, 2] rfl) (fun z ls ez hl => kk z ls (ez.trans (if_neg c_2).symm) hl)
set_option maxHeartbeats 1000000 in
set_option maxRecDepth 100000 in
theorem lf_sk {p : Program} {l : Launch} {e : Env} {R : Room} {s : State} {m : MethodId} {args : Array Value} {below : List Frame} {meth : Method} {c : Code} {cells slots : Nat} {Q : State → Prop} {D : va_G} {h0 : Nat} {q : Nat → Nat} {cB cI cZ : ClassId} {I : Nat → Int32} {F : Nat → Nat → Int32} {b n : Nat} {x1 x2 : Int32} (hbn : b ≤ n) (hn : n ≤ 1200) {H : Heap} {locs : List Loc} (hf : CallFix p m c cX10_findLines 5 s args gT yX10_findLines.cls) (hK : va_K D vcl (mT cB cI cZ) s) (hP : va_P D vcl (mW h0 q cB cI cZ I F) H) :
    ∀ (k : Nat) (a : Nat) (ls : Array Slot), a + k = b →  lv_has ls 5 [(3, .int (nI a)), (4, .int (nI b)), (2, .int x2), (1, .int x1), (0, .ref h0)] → (∀ (z : Nat) (ls : Array Slot), z = tx_sk (F 0) k a → lv_has ls 5 [(3, .int (nI z)), (4, .int (nI b)), (2, .int x2), (1, .int x1), (0, .ref h0)] → W p l e R s m args below meth c H locs cells slots Q (F0 m 70 ls [])) → W p l e R s m args below meth c H locs cells slots Q (F0 m 47 ls []) := by
  obtain ⟨hx, hb, hml, hown, hts⟩ := id hf
  intro k
  induction k with
  | zero =>
    intro a ls hik hl kk
    refine lv_iload_n hx hb dX10_findLines_47 rfl (lv_at hl 0 rfl) ?_
    refine lv_iload hx hb dX10_findLines_48 (lv_at hl 1 rfl) ?_
    refine lv_icmp_ge (tgt := 70) hx hb dX10_findLines_50 (by decide) (fun c_1 => ?_) (fun c_1 => ?_)
    · have c_1 := q_le (a := b) (b := a) (by omega) (by omega) c_1
      exact kk a ls rfl (lv_sub hl (l' := [(3, .int (nI a)), (4, .int (nI b)), (2, .int x2), (1, .int x1), (0, .ref h0)]) [0, 1, 2, 3, 4] rfl)
    · have c_1 := q_nle (a := b) (b := a) (by omega) (by omega) c_1
      refine lv_aload_n hx hb dX10_findLines_53 rfl (lv_at hl 4 rfl) ?_
      refine va_get (D := D) (ci := 11) (v := .ref (q 0)) (C := RX10) (T := TX10) (N := 48) hx hb hts inX10 hown hK hP 0 rfl rfl 0 (by decide) (hts _ k_1144) (fun _ h9 => h9) rfl dX10_findLines_54 ?_
      refine lv_iload_n hx hb dX10_findLines_57 rfl (lv_at hl 0 rfl) ?_
      refine q_bld (X := a) (f := (F 0)) hx hb hK hP 1 0 rfl rfl (by omega) (by decide) dX10_findLines_58 ?_
      refine lv_bipush (v := 32) hx hb dX10_findLines_59 (by decide) ?_
      refine lv_icmp_ne (tgt := 70) hx hb dX10_findLines_61 (by decide) (fun c_2 => ?_) (fun c_2 => ?_)
      · exact kk a ls rfl (lv_sub hl (l' := [(3, .int (nI a)), (4, .int (nI b)), (2, .int x2), (1, .int x1), (0, .ref h0)]) [0, 1, 2, 3, 4] rfl)
      · refine lv_iinc (v := (nI (a + 1))) (lv' := [(3, .int (nI (a + 1))), (4, .int (nI b)), (2, .int x2), (1, .int x1), (0, .ref h0)]) hx hb dX10_findLines_64 hl (k := 0) rfl (nI_add a 1) (by decide) rfl (fun ls hl => ?_)
        refine lv_goto (tgt := 47) hx hb dX10_findLines_67 (by decide) ?_
        exact absurd hik (by omega)
  | succ k ih =>
    intro a ls hik hl kk
    refine lv_iload_n hx hb dX10_findLines_47 rfl (lv_at hl 0 rfl) ?_
    refine lv_iload hx hb dX10_findLines_48 (lv_at hl 1 rfl) ?_
    refine lv_icmp_ge (tgt := 70) hx hb dX10_findLines_50 (by decide) (fun c_1 => ?_) (fun c_1 => ?_)
    · have c_1 := q_le (a := b) (b := a) (by omega) (by omega) c_1
      exact absurd hik (by omega)
    · have c_1 := q_nle (a := b) (b := a) (by omega) (by omega) c_1
      refine lv_aload_n hx hb dX10_findLines_53 rfl (lv_at hl 4 rfl) ?_
      refine va_get (D := D) (ci := 11) (v := .ref (q 0)) (C := RX10) (T := TX10) (N := 48) hx hb hts inX10 hown hK hP 0 rfl rfl 0 (by decide) (hts _ k_1144) (fun _ h9 => h9) rfl dX10_findLines_54 ?_
      refine lv_iload_n hx hb dX10_findLines_57 rfl (lv_at hl 0 rfl) ?_
      refine q_bld (X := a) (f := (F 0)) hx hb hK hP 1 0 rfl rfl (by omega) (by decide) dX10_findLines_58 ?_
      refine lv_bipush (v := 32) hx hb dX10_findLines_59 (by decide) ?_
      refine lv_icmp_ne (tgt := 70) hx hb dX10_findLines_61 (by decide) (fun c_2 => ?_) (fun c_2 => ?_)
      · exact kk a ls (if_neg c_2).symm (lv_sub hl (l' := [(3, .int (nI a)), (4, .int (nI b)), (2, .int x2), (1, .int x1), (0, .ref h0)]) [0, 1, 2, 3, 4] rfl)
      · refine lv_iinc (v := (nI (a + 1))) (lv' := [(3, .int (nI (a + 1))), (4, .int (nI b)), (2, .int x2), (1, .int x1), (0, .ref h0)]) hx hb dX10_findLines_64 hl (k := 0) rfl (nI_add a 1) (by decide) rfl (fun ls hl => ?_)
        refine lv_goto (tgt := 47) hx hb dX10_findLines_67 (by decide) ?_
        exact ih (a + 1) ls (by omega) (lv_sub hl (l' := [(3, .int (nI (a + 1))), (4, .int (nI b)), (2, .int x2), (1, .int x1), (0, .ref h0)]) [0, 1, 2, 3, 4] rfl) (fun z ls ez hl => kk z ls (ez.trans (if_pos c_2).symm) hl)
set_option maxHeartbeats 1000000 in
set_option maxRecDepth 100000 in
theorem lf_bk {p : Program} {l : Launch} {e : Env} {R : Room} {s : State} {m : MethodId} {args : Array Value} {below : List Frame} {meth : Method} {c : Code} {cells slots : Nat} {Q : State → Prop} {D : va_G} {h0 : Nat} {q : Nat → Nat} {cB cI cZ : ClassId} {I : Nat → Int32} {F : Nat → Nat → Int32} {a n : Nat} {x1 x2 : Int32} (hn : n ≤ 1200) {H : Heap} {locs : List Loc} (hf : CallFix p m c cX10_findLines 5 s args gT yX10_findLines.cls) (hK : va_K D vcl (mT cB cI cZ) s) (hP : va_P D vcl (mW h0 q cB cI cZ I F) H) :
    ∀ (k : Nat) (b : Nat) (ls : Array Slot), a + k = b → b ≤ n →  lv_has ls 5 [(4, .int (nI b)), (3, .int (nI a)), (2, .int x2), (1, .int x1), (0, .ref h0)] → (∀ (z : Nat) (ls : Array Slot), z = tx_bk (F 0) k b → lv_has ls 5 [(4, .int (nI z)), (3, .int (nI a)), (2, .int x2), (1, .int x1), (0, .ref h0)] → W p l e R s m args below meth c H locs cells slots Q (F0 m 96 ls [])) → W p l e R s m args below meth c H locs cells slots Q (F0 m 70 ls []) := by
  obtain ⟨hx, hb, hml, hown, hts⟩ := id hf
  intro k
  induction k with
  | zero =>
    intro b ls hik hbn hl kk
    refine lv_iload hx hb dX10_findLines_70 (lv_at hl 0 rfl) ?_
    refine lv_iload_n hx hb dX10_findLines_72 rfl (lv_at hl 1 rfl) ?_
    refine lv_icmp_le (tgt := 96) hx hb dX10_findLines_73 (by decide) (fun c_1 => ?_) (fun c_1 => ?_)
    · have c_1 := q_le (a := b) (b := a) (by omega) (by omega) c_1
      exact kk b ls rfl (lv_sub hl (l' := [(4, .int (nI b)), (3, .int (nI a)), (2, .int x2), (1, .int x1), (0, .ref h0)]) [0, 1, 2, 3, 4] rfl)
    · have c_1 := q_nle (a := b) (b := a) (by omega) (by omega) c_1
      refine lv_aload_n hx hb dX10_findLines_76 rfl (lv_at hl 4 rfl) ?_
      refine va_get (D := D) (ci := 11) (v := .ref (q 0)) (C := RX10) (T := TX10) (N := 48) hx hb hts inX10 hown hK hP 0 rfl rfl 0 (by decide) (hts _ k_1144) (fun _ h9 => h9) rfl dX10_findLines_77 ?_
      refine lv_iload hx hb dX10_findLines_80 (lv_at hl 0 rfl) ?_
      refine lv_iconst (v := 1) hx hb dX10_findLines_82 (by decide) ?_
      refine lv_isub hx hb dX10_findLines_83 ?_
      refine q_seti (y := nI (b - 1)) (pk_sub (a := b) (b := 1) (by omega)) ?_
      refine q_bld (X := b - 1) (f := (F 0)) hx hb hK hP 1 0 rfl rfl (by omega) (by decide) dX10_findLines_84 ?_
      refine lv_bipush (v := 32) hx hb dX10_findLines_85 (by decide) ?_
      refine lv_icmp_ne (tgt := 96) hx hb dX10_findLines_87 (by decide) (fun c_2 => ?_) (fun c_2 => ?_)
      · exact kk b ls rfl (lv_sub hl (l' := [(4, .int (nI b)), (3, .int (nI a)), (2, .int x2), (1, .int x1), (0, .ref h0)]) [0, 1, 2, 3, 4] rfl)
      · refine lv_iinc (v := (nI (b - 1))) (lv' := [(4, .int (nI (b - 1))), (3, .int (nI a)), (2, .int x2), (1, .int x1), (0, .ref h0)]) hx hb dX10_findLines_90 hl (k := 0) rfl (sb_m1 (by omega)) (by decide) rfl (fun ls hl => ?_)
        refine lv_goto (tgt := 70) hx hb dX10_findLines_93 (by decide) ?_
        exact absurd hik (by omega)
  | succ k ih =>
    intro b ls hik hbn hl kk
    refine lv_iload hx hb dX10_findLines_70 (lv_at hl 0 rfl) ?_
    refine lv_iload_n hx hb dX10_findLines_72 rfl (lv_at hl 1 rfl) ?_
    refine lv_icmp_le (tgt := 96) hx hb dX10_findLines_73 (by decide) (fun c_1 => ?_) (fun c_1 => ?_)
    · have c_1 := q_le (a := b) (b := a) (by omega) (by omega) c_1
      exact absurd hik (by omega)
    · have c_1 := q_nle (a := b) (b := a) (by omega) (by omega) c_1
      refine lv_aload_n hx hb dX10_findLines_76 rfl (lv_at hl 4 rfl) ?_
      refine va_get (D := D) (ci := 11) (v := .ref (q 0)) (C := RX10) (T := TX10) (N := 48) hx hb hts inX10 hown hK hP 0 rfl rfl 0 (by decide) (hts _ k_1144) (fun _ h9 => h9) rfl dX10_findLines_77 ?_
      refine lv_iload hx hb dX10_findLines_80 (lv_at hl 0 rfl) ?_
      refine lv_iconst (v := 1) hx hb dX10_findLines_82 (by decide) ?_
      refine lv_isub hx hb dX10_findLines_83 ?_
      refine q_seti (y := nI (b - 1)) (pk_sub (a := b) (b := 1) (by omega)) ?_
      refine q_bld (X := b - 1) (f := (F 0)) hx hb hK hP 1 0 rfl rfl (by omega) (by decide) dX10_findLines_84 ?_
      refine lv_bipush (v := 32) hx hb dX10_findLines_85 (by decide) ?_
      refine lv_icmp_ne (tgt := 96) hx hb dX10_findLines_87 (by decide) (fun c_2 => ?_) (fun c_2 => ?_)
      · exact kk b ls (if_neg c_2).symm (lv_sub hl (l' := [(4, .int (nI b)), (3, .int (nI a)), (2, .int x2), (1, .int x1), (0, .ref h0)]) [0, 1, 2, 3, 4] rfl)
      · refine lv_iinc (v := (nI (b - 1))) (lv' := [(4, .int (nI (b - 1))), (3, .int (nI a)), (2, .int x2), (1, .int x1), (0, .ref h0)]) hx hb dX10_findLines_90 hl (k := 0) rfl (sb_m1 (by omega)) (by decide) rfl (fun ls hl => ?_)
        refine lv_goto (tgt := 70) hx hb dX10_findLines_93 (by decide) ?_
        exact ih (b - 1) ls (by omega) (by omega) (lv_sub hl (l' := [(4, .int (nI (b - 1))), (3, .int (nI a)), (2, .int x2), (1, .int x1), (0, .ref h0)]) [0, 1, 2, 3, 4] rfl) (fun z ls ez hl => kk z ls (ez.trans (if_pos c_2).symm) hl)
set_option maxHeartbeats 1000000 in
set_option maxRecDepth 100000 in
theorem lf_out {p : Program} {l : Launch} {e : Env} {R : Room} {s : State} {m : MethodId} {args : Array Value} {below : List Frame} {meth : Method} {c : Code} {cells slots : Nat} {Q : State → Prop} {D : va_G} {A : Nat → Prop} {h0 : Nat} {q : Nat → Nat} {cB cI cZ : ClassId} {I : Nat → Int32} {F : Nat → Nat → Int32} {n : Nat} (hI1 : I 1 = nI n) (hn : n ≤ 1200) (hf : CallFix p m c cX10_findLines 5 s args gT yX10_findLines.cls) (hK : va_K D vcl (mT cB cI cZ) s) :
    ∀ (k i a : Nat) (f1 f2 : Nat → Int32) (H : Heap) (locs : List Loc) (ls : Array Slot), n + 1 ≤ i + k → a ≤ i → i ≤ n + 1 → va_P D vcl (mW h0 q cB cI cZ (upd I 21 (nI a)) (va_up (va_up F 22 f1) 23 f2)) H → va_D A (mW h0 q cB cI cZ (upd I 21 (nI a)) (va_up (va_up F 22 f1) 23 f2)) → va_S A s.heap H locs → lv_has ls 5 [(1, .int (nI i)), (0, .ref h0)] →
    (∀ (L : List (Nat × Nat)) (b : Nat) (g1 g2 : Nat → Int32) (H : Heap) (locs : List Loc) (ls : Array Slot), L = tx_ln (F 0) n k i → b = a + L.length → (∀ j, j < a → g1 j = f1 j ∧ g2 j = f2 j) → tx_arr L a g1 g2 → va_P D vcl (mW h0 q cB cI cZ (upd I 21 (nI b)) (va_up (va_up F 22 g1) 23 g2)) H → va_D A (mW h0 q cB cI cZ (upd I 21 (nI b)) (va_up (va_up F 22 g1) 23 g2)) → va_S A s.heap H locs → lv_has ls 5 [(0, .ref h0)] → W p l e R s m args below meth c H locs cells slots Q (F0 m 134 ls [])) → W p l e R s m args below meth c H locs cells slots Q (F0 m 7 ls []) := by
  obtain ⟨hx, hb, hml, hown, hts⟩ := id hf
  intro k
  induction k with
  | zero =>
    intro i a f1 f2 H locs ls hik hai hin hP hD hS hl kk
    refine lv_iload_n hx hb dX10_findLines_7 rfl (lv_at hl 0 rfl) ?_
    refine lv_aload_n hx hb dX10_findLines_8 rfl (lv_at hl 1 rfl) ?_
    refine va_get (D := D) (ci := 11) (v := .int (I 1)) (C := RX10) (T := TX10) (N := 48) hx hb hts inX10 hown hK hP 0 rfl rfl 1 (by decide) (hts _ k_1145) (fun _ h9 => h9) rfl dX10_findLines_9 ?_
    refine q_seti (y := (nI n)) hI1 ?_
    refine lv_icmp_ge (tgt := 134) hx hb dX10_findLines_12 (by decide) (fun c_1 => ?_) (fun c_1 => ?_)
    · have c_1 := q_le (a := n) (b := i) (by omega) (by omega) c_1
      exact kk [] a f1 f2 H locs ls (tx_ln_out (by omega) _).symm rfl (fun _ _ => ⟨rfl, rfl⟩) (tx_arr_nil a f1 f2) hP hD hS (lv_sub hl (l' := [(0, .ref h0)]) [1] rfl)
    · have c_1 := q_nle (a := n) (b := i) (by omega) (by omega) c_1
      exact absurd hik (by omega)
  | succ k ih =>
    intro i a f1 f2 H locs ls hik hai hin hP hD hS hl kk
    refine lv_iload_n hx hb dX10_findLines_7 rfl (lv_at hl 0 rfl) ?_
    refine lv_aload_n hx hb dX10_findLines_8 rfl (lv_at hl 1 rfl) ?_
    refine va_get (D := D) (ci := 11) (v := .int (I 1)) (C := RX10) (T := TX10) (N := 48) hx hb hts inX10 hown hK hP 0 rfl rfl 1 (by decide) (hts _ k_1145) (fun _ h9 => h9) rfl dX10_findLines_9 ?_
    refine q_seti (y := (nI n)) hI1 ?_
    refine lv_icmp_ge (tgt := 134) hx hb dX10_findLines_12 (by decide) (fun c_1 => ?_) (fun c_1 => ?_)
    · have c_1 := q_le (a := n) (b := i) (by omega) (by omega) c_1
      exact kk [] a f1 f2 H locs ls (tx_ln_out (by omega) _).symm rfl (fun _ _ => ⟨rfl, rfl⟩) (tx_arr_nil a f1 f2) hP hD hS (lv_sub hl (l' := [(0, .ref h0)]) [1] rfl)
    · have c_1 := q_nle (a := n) (b := i) (by omega) (by omega) c_1
      have hlt : i < n := by omega
      refine lv_iload_n hx hb dX10_findLines_15 rfl (lv_at hl 0 rfl) ?_
      refine lv_istore_n (lv' := [(2, .int (nI i)), (1, .int (nI i)), (0, .ref h0)]) hx hb dX10_findLines_16 rfl hl (by decide) rfl (fun ls hl => ?_)
      refine lf_eol (I := (upd I 21 (nI a))) (F := (va_up (va_up F 22 f1) 23 f2)) (n := n) (x1 := nI i) hI1 hn hf hK hP (n - i) i ls (by omega) (lv_sub hl (l' := [(2, .int (nI i)), (1, .int (nI i)), (0, .ref h0)]) [0, 1, 2] rfl) (fun z ls ez hl => ?_)
      have ez : z = tx_eol (F 0) (n - i) i := ez
      have bz := tx_eol_le (F 0) (n - i) i
      rw [← ez] at bz
      refine lv_iload_n hx hb dX10_findLines_42 rfl (lv_at hl 1 rfl) ?_
      refine lv_istore_n (lv' := [(3, .int (nI i)), (2, .int (nI z)), (1, .int (nI i)), (0, .ref h0)]) hx hb dX10_findLines_43 rfl hl (by decide) rfl (fun ls hl => ?_)
      refine lv_iload_n hx hb dX10_findLines_44 rfl (lv_at hl 1 rfl) ?_
      refine lv_istore (lv' := [(4, .int (nI z)), (3, .int (nI i)), (2, .int (nI z)), (1, .int (nI i)), (0, .ref h0)]) hx hb dX10_findLines_45 hl (by decide) rfl (fun ls hl => ?_)
      refine lf_sk (n := n) (b := z) (by omega) hn hf hK hP (z - i) i ls (by omega) (lv_sub hl (l' := [(3, .int (nI i)), (4, .int (nI z)), (2, .int (nI z)), (1, .int (nI i)), (0, .ref h0)]) [1, 0, 2, 3, 4] rfl) (fun y ls ey hl => ?_)
      have ey : y = tx_sk (F 0) (z - i) i := ey
      have by_ := tx_sk_le (F 0) (z - i) i
      rw [← ey] at by_
      refine lf_bk (n := n) (a := y) hn hf hK hP (z - y) z ls (by omega) (by omega) (lv_sub hl (l' := [(4, .int (nI z)), (3, .int (nI y)), (2, .int (nI z)), (1, .int (nI i)), (0, .ref h0)]) [1, 0, 2, 3, 4] rfl) (fun x ls ex hl => ?_)
      have ex : x = tx_bk (F 0) (z - y) z := ex
      have bx := tx_bk_le (F 0) (z - y) z (by omega)
      rw [← ex] at bx
      refine lv_aload_n hx hb dX10_findLines_96 rfl (lv_at hl 4 rfl) ?_
      refine va_get (D := D) (ci := 11) (v := .ref (q 22)) (C := RX10) (T := TX10) (N := 48) hx hb hts inX10 hown hK hP 0 rfl rfl 22 (by decide) (hts _ k_1166) (fun _ h9 => h9) rfl dX10_findLines_97 ?_
      refine lv_aload_n hx hb dX10_findLines_100 rfl (lv_at hl 4 rfl) ?_
      refine va_get (D := D) (ci := 11) (v := .int (nI a)) (C := RX10) (T := TX10) (N := 48) hx hb hts inX10 hown hK hP 0 rfl rfl 21 (by decide) (hts _ k_1165) (fun _ h9 => h9) rfl dX10_findLines_101 ?_
      refine lv_iload_n hx hb dX10_findLines_104 rfl (lv_at hl 1 rfl) ?_
      refine q_ist (X := a) (f := f1) (x := (nI y)) hx hb hK hP hD hS 16 1 rfl rfl (by omega) (by decide) dX10_findLines_105 (fun H locs hP hD hS => ?_)
      have hP : va_P D vcl (mW h0 q cB cI cZ (upd I 21 (nI a)) (va_up (va_up F 22 (upd f1 a (nI y))) 23 f2)) H := hP
      have hD : va_D A (mW h0 q cB cI cZ (upd I 21 (nI a)) (va_up (va_up F 22 (upd f1 a (nI y))) 23 f2)) := hD
      refine lv_aload_n hx hb dX10_findLines_106 rfl (lv_at hl 4 rfl) ?_
      refine va_get (D := D) (ci := 11) (v := .ref (q 23)) (C := RX10) (T := TX10) (N := 48) hx hb hts inX10 hown hK hP 0 rfl rfl 23 (by decide) (hts _ k_1167) (fun _ h9 => h9) rfl dX10_findLines_107 ?_
      refine lv_aload_n hx hb dX10_findLines_110 rfl (lv_at hl 4 rfl) ?_
      refine va_get (D := D) (ci := 11) (v := .int (nI a)) (C := RX10) (T := TX10) (N := 48) hx hb hts inX10 hown hK hP 0 rfl rfl 21 (by decide) (hts _ k_1165) (fun _ h9 => h9) rfl dX10_findLines_111 ?_
      refine lv_iload hx hb dX10_findLines_114 (lv_at hl 0 rfl) ?_
      refine q_ist (X := a) (f := f2) (x := (nI x)) hx hb hK hP hD hS 17 1 rfl rfl (by omega) (by decide) dX10_findLines_116 (fun H locs hP hD hS => ?_)
      have hP : va_P D vcl (mW h0 q cB cI cZ (upd I 21 (nI a)) (va_up (va_up F 22 (upd f1 a (nI y))) 23 (upd f2 a (nI x)))) H := hP
      have hD : va_D A (mW h0 q cB cI cZ (upd I 21 (nI a)) (va_up (va_up F 22 (upd f1 a (nI y))) 23 (upd f2 a (nI x)))) := hD
      refine lv_aload_n hx hb dX10_findLines_117 rfl (lv_at hl 4 rfl) ?_
      refine lv_dup hx hb dX10_findLines_118 rfl ?_
      refine va_get (D := D) (ci := 11) (v := .int (nI a)) (C := RX10) (T := TX10) (N := 48) hx hb hts inX10 hown hK hP 0 rfl rfl 21 (by decide) (hts _ k_1165) (fun _ h9 => h9) rfl dX10_findLines_119 ?_
      refine lv_iconst (v := 1) hx hb dX10_findLines_122 (by decide) ?_
      refine lv_iadd hx hb dX10_findLines_123 ?_
      refine q_seti (y := nI (a + 1)) (nI_add a 1) ?_
      refine va_put (D := D) (ci := 11) (v := .int (nI (a + 1))) (ty := .int) (C := RX10) (T := TX10) (N := 48) hx hb hts inX10 tyX10 tyX10_ok nmX10 hown hK hP hD hS 0 rfl rfl 21 (by decide) (hts _ k_1165) (fun _ h9 => h9) rfl (by decide +kernel) rfl rfl (Nat.le_of_ble_eq_true rfl) dX10_findLines_124 (fun H locs hP hD hS => ?_)
      have hP : va_P D vcl (mW h0 q cB cI cZ (upd I 21 (nI (a + 1))) (va_up (va_up F 22 (upd f1 a (nI y))) 23 (upd f2 a (nI x)))) H := hP
      have hD : va_D A (mW h0 q cB cI cZ (upd I 21 (nI (a + 1))) (va_up (va_up F 22 (upd f1 a (nI y))) 23 (upd f2 a (nI x)))) := hD
      refine lv_iload_n hx hb dX10_findLines_127 rfl (lv_at hl 2 rfl) ?_
      refine lv_iconst (v := 1) hx hb dX10_findLines_128 (by decide) ?_
      refine lv_iadd hx hb dX10_findLines_129 ?_
      refine q_seti (y := nI (z + 1)) (nI_add z 1) ?_
      refine lv_istore_n (lv' := [(1, .int (nI (z + 1))), (4, .int (nI x)), (3, .int (nI y)), (2, .int (nI z)), (0, .ref h0)]) hx hb dX10_findLines_130 rfl hl (by decide) rfl (fun ls hl => ?_)
      refine lv_goto (tgt := 7) hx hb dX10_findLines_131 (by decide) ?_
      refine ih (z + 1) (a + 1) _ _ H locs ls (by omega) (by omega) (by omega) hP hD hS (lv_sub hl (l' := [(1, .int (nI (z + 1))), (0, .ref h0)]) [0, 4] rfl) (fun L b g1 g2 H locs ls eL eb hlow hhi hP hD hS hl => ?_)
      exact kk ((y, x) :: L) b g1 g2 H locs ls (by rw [eL]; exact (tx_ln_in hlt ez ey ex).symm) (by rw [eb, List.length_cons]; omega) (tx_low hlow) (tx_arr_cons hlow hhi) hP hD hS hl
set_option maxHeartbeats 1000000 in
set_option maxRecDepth 100000 in
theorem r_findLines (l : Launch) (D : va_G) (h0 : Nat) (q : Nat → Nat) (cB cI_ cZ : ClassId) (I : Nat → Int32) (F : Nat → Nat → Int32) (n : Nat) (hI1 : I 1 = nI n) (hn : n ≤ 1200) : cV l D yX10_findLines cX10_findLines 5 none 0 0 0 0 [.ref h0] zT (mW h0 q cB cI_ cZ I F) (mT cB cI_ cZ) (fun u => ∃ (L : List (Nat × Nat)) (g1 g2 : Nat → Int32), L = tx_ln (F 0) n (n + 1) 0 ∧ tx_arr L 0 g1 g2 ∧ u = (mW h0 q cB cI_ cZ (upd I 21 (nI L.length)) (va_up (va_up F 22 g1) 23 g2), mT cB cI_ cZ)) := by
  refine q_sv (by decide) (Nat.le_of_ble_eq_true rfl) ?_
  intro p e s m below meth c A ls hAe hf hr hlocks hin hK hP hD hS hA hZ hl
  obtain ⟨hx, hb, hml, hown, hts⟩ := id hf
  have hl : lv_has ls 5 [(0, .ref h0)] := hl
  refine lv_aload_n hx hb dX10_findLines_0 rfl (lv_at hl 0 rfl) ?_
  refine lv_iconst (v := 0) hx hb dX10_findLines_1 (by decide) ?_
  refine va_put (D := D) (ci := 11) (v := .int 0) (ty := .int) (C := RX10) (T := TX10) (N := 48) hx hb hts inX10 tyX10 tyX10_ok nmX10 hown hK hP hD hS 0 rfl rfl 21 (by decide) (hts _ k_1165) (fun _ h9 => h9) rfl (by decide +kernel) rfl rfl (Nat.le_of_ble_eq_true rfl) dX10_findLines_2 (fun H locs hP hD hS => ?_)
  have hP : va_P D vcl (mW h0 q cB cI_ cZ (upd I 21 0) F) H := hP
  have hD : va_D A (mW h0 q cB cI_ cZ (upd I 21 0) F) := hD
  refine lv_iconst (v := 0) hx hb dX10_findLines_5 (by decide) ?_
  refine lv_istore_n (lv' := [(1, .int 0), (0, .ref h0)]) hx hb dX10_findLines_6 rfl hl (by decide) rfl (fun ls hl => ?_)
  refine lf_out hI1 hn hf hK (n + 1) 0 0 (F 22) (F 23) _ _ ls (by omega) (by omega) (by omega) (I := I) (F := F) hP hD hS (lv_sub hl (l' := [(1, .int 0), (0, .ref h0)]) [0, 1] rfl) (fun L b g1 g2 H locs ls eL eb hlow hhi hP hD hS hl => ?_)
  obtain rfl : b = L.length := by omega
  exact q_zv hf hr hlocks hK hP hD hS (Nat.le_of_ble_eq_true rfl) (Nat.le_of_ble_eq_true rfl) ⟨L, g1, g2, eL, hhi, rfl⟩ dX10_findLines_134
