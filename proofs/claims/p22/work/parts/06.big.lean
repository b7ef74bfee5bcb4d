/-- big letters from i on, k bytes; g: one was seen -/
def tx_up (v : Int32) (g : Nat) : Nat := if g = 1 then 1 else if v < 65 then 0 else if 90 < v then 0 else 1
def tx_lo (v : Int32) : Prop := ¬ v < 97 ∧ ¬ 122 < v
def tx_big (T : Nat → Int32) : Nat → Nat → Nat → Nat
  | 0, _, g => g
  | k + 1, i, g => if T i < 97 then tx_big T k (i + 1) (tx_up (T i) g) else if 122 < T i then tx_big T k (i + 1) (tx_up (T i) g) else 0
theorem tx_big_a {T : Nat → Int32} {k i g g2 : Nat} (h : T i < 97) (e : tx_up (T i) g = g2) : tx_big T (k + 1) i g = tx_big T k (i + 1) g2 := by rw [← e]; exact if_pos h
theorem tx_big_b {T : Nat → Int32} {k i g g2 : Nat} (h : ¬ T i < 97) (h2 : 122 < T i) (e : tx_up (T i) g = g2) : tx_big T (k + 1) i g = tx_big T k (i + 1) g2 := by rw [← e]; exact (if_neg h).trans (if_pos h2)
theorem tx_big_c {T : Nat → Int32} {k i g : Nat} (h : ¬ T i < 97) (h2 : ¬ 122 < T i) : tx_big T (k + 1) i g = 0 := (if_neg h).trans (if_neg h2)
theorem tx_up_1 {v : Int32} {g : Nat} (h : g = 1) : tx_up v g = 1 := if_pos h
theorem tx_up_a {v : Int32} {g : Nat} (h : ¬ g = 1) (h2 : v < 65) : tx_up v g = 0 := (if_neg h).trans (if_pos h2)
theorem tx_up_b {v : Int32} {g : Nat} (h : ¬ g = 1) (h2 : ¬ v < 65) (h3 : 90 < v) : tx_up v g = 0 := (if_neg h).trans ((if_neg h2).trans (if_pos h3))
theorem tx_up_c {v : Int32} {g : Nat} (h : ¬ g = 1) (h2 : ¬ v < 65) (h3 : ¬ 90 < v) : tx_up v g = 1 := (if_neg h).trans ((if_neg h2).trans (if_neg h3))
theorem tx_big_01 (T : Nat → Int32) : ∀ k i g, g ≤ 1 → tx_big T k i g ≤ 1 := by
  intro k
  induction k with
  | zero => intro i g h; exact h
  | succ k ih =>
    intro i g h
    have hu : tx_up (T i) g ≤ 1 := by unfold tx_up; split <;> first | omega | (split <;> first | omega | (split <;> omega))
    by_cases h1 : T i < 97
    · rw [tx_big_a h1 rfl]; exact ih _ _ hu
    · by_cases h2 : 122 < T i
      · rw [tx_big_b h1 h2 rfl]; exact ih _ _ hu
      · rw [tx_big_c h1 h2]; omega
abbrev cX10_isBig : ByteArray := prog_12_method_8_code
def yX10_isBig : MethodName := ⟨RX10, "isBig", "(I)Z"⟩
theorem dX10_isBig_9 : decode cX10_isBig 9 = .ok (.iload_n 3, 1) := by decide +kernel
theorem dX10_isBig_10 : decode cX10_isBig 10 = .ok (.aload_n 0, 1) := by decide +kernel
theorem dX10_isBig_11 : decode cX10_isBig 11 = .ok (.getfield 65, 3) := by decide +kernel
theorem dX10_isBig_14 : decode cX10_isBig 14 = .ok (.iload_n 1, 1) := by decide +kernel
theorem dX10_isBig_15 : decode cX10_isBig 15 = .ok (.iaload, 1) := by decide +kernel
theorem dX10_isBig_16 : decode cX10_isBig 16 = .ok (.if_icmp .ge 53, 3) := by decide +kernel
theorem dX10_isBig_19 : decode cX10_isBig 19 = .ok (.aload_n 0, 1) := by decide +kernel
theorem dX10_isBig_20 : decode cX10_isBig 20 = .ok (.getfield 7, 3) := by decide +kernel
theorem dX10_isBig_23 : decode cX10_isBig 23 = .ok (.iload_n 3, 1) := by decide +kernel
theorem dX10_isBig_24 : decode cX10_isBig 24 = .ok (.baload, 1) := by decide +kernel
theorem dX10_isBig_25 : decode cX10_isBig 25 = .ok (.bipush 97, 2) := by decide +kernel
theorem dX10_isBig_27 : decode cX10_isBig 27 = .ok (.bipush 122, 2) := by decide +kernel
theorem dX10_isBig_29 : decode cX10_isBig 29 = .ok (.invokestatic 119, 3) := by decide +kernel
theorem dX10_isBig_32 : decode cX10_isBig 32 = .ok (.ifCond .eq 5, 3) := by decide +kernel
theorem dX10_isBig_37 : decode cX10_isBig 37 = .ok (.iload_n 2, 1) := by decide +kernel
theorem dX10_isBig_38 : decode cX10_isBig 38 = .ok (.ifCond .ne 19, 3) := by decide +kernel
theorem dX10_isBig_57 : decode cX10_isBig 57 = .ok (.iconst 1, 1) := by decide +kernel
theorem dX10_isBig_58 : decode cX10_isBig 58 = .ok (.goto 4, 3) := by decide +kernel
theorem dX10_isBig_62 : decode cX10_isBig 62 = .ok (.istore_n 2, 1) := by decide +kernel
theorem dX10_isBig_63 : decode cX10_isBig 63 = .ok (.iinc 3 1, 3) := by decide +kernel
theorem dX10_isBig_66 : decode cX10_isBig 66 = .ok (.goto (-57), 3) := by decide +kernel
theorem dX10_isBig_41 : decode cX10_isBig 41 = .ok (.aload_n 0, 1) := by decide +kernel
theorem dX10_isBig_42 : decode cX10_isBig 42 = .ok (.getfield 7, 3) := by decide +kernel
theorem dX10_isBig_45 : decode cX10_isBig 45 = .ok (.iload_n 3, 1) := by decide +kernel
theorem dX10_isBig_46 : decode cX10_isBig 46 = .ok (.baload, 1) := by decide +kernel
theorem dX10_isBig_47 : decode cX10_isBig 47 = .ok (.bipush 65, 2) := by decide +kernel
theorem dX10_isBig_49 : decode cX10_isBig 49 = .ok (.bipush 90, 2) := by decide +kernel
theorem dX10_isBig_51 : decode cX10_isBig 51 = .ok (.invokestatic 119, 3) := by decide +kernel
theorem dX10_isBig_54 : decode cX10_isBig 54 = .ok (.ifCond .eq 7, 3) := by decide +kernel
theorem dX10_isBig_61 : decode cX10_isBig 61 = .ok (.iconst 0, 1) := by decide +kernel
theorem dX10_isBig_0 : decode cX10_isBig 0 = .ok (.iconst 0, 1) := by decide +kernel
theorem dX10_isBig_1 : decode cX10_isBig 1 = .ok (.istore_n 2, 1) := by decide +kernel
theorem dX10_isBig_2 : decode cX10_isBig 2 = .ok (.aload_n 0, 1) := by decide +kernel
theorem dX10_isBig_3 : decode cX10_isBig 3 = .ok (.getfield 62, 3) := by decide +kernel
theorem dX10_isBig_6 : decode cX10_isBig 6 = .ok (.iload_n 1, 1) := by decide +kernel
theorem dX10_isBig_7 : decode cX10_isBig 7 = .ok (.iaload, 1) := by decide +kernel
theorem dX10_isBig_8 : decode cX10_isBig 8 = .ok (.istore_n 3, 1) := by decide +kernel
theorem dX10_isBig_35 : decode cX10_isBig 35 = .ok (.iconst 0, 1) := by decide +kernel
theorem dX10_isBig_36 : decode cX10_isBig 36 = .ok (.ireturn, 1) := by decide +kernel
theorem dX10_isBig_69 : decode cX10_isBig 69 = .ok (.iload_n 2, 1) := by decide +kernel
theorem dX10_isBig_70 : decode cX10_isBig 70 = .ok (.ireturn, 1) := by decide +kernel
set_option maxHeartbeats 1000000 in
set_option maxRecDepth 100000 in
theorem lb_big {p : Program} {l : Launch} {e : Env} {R : Room} {s : State} {m : MethodId} {args : Array Value} {below : List Frame} {meth : Method} {c : Code} {cells slots : Nat} {Q : State → Prop} {D : va_G} {A : Nat → Prop} {h0 : Nat} {q : Nat → Nat} {cB cI cZ : ClassId} {I : Nat → Int32} {F : Nat → Nat → Int32} {L : List (Nat × Nat)} {j : Nat} (hI21 : I 21 = nI L.length) (hL : ∀ j, j < L.length → F 22 j = nI (L.getD j (0, 0)).1 ∧ F 23 j = nI (L.getD j (0, 0)).2) (hok : tx_ok L) (hj : j < L.length) (hRf : 1 ≤ R.frames) (hRl : 22 ≤ R.locals) (hRc : cells ≤ R.cells) (hRs : slots ≤ R.slots) (hA : ∀ q : Nat, s.heap.size ≤ q → A q) (hf : CallFix p m c cX10_isBig 4 s args gT yX10_isBig.cls) (hK : va_K D vcl (mT cB cI cZ) s) :
    ∀ (k : Nat) (i : Nat) (g : Nat) (H : Heap) (locs : List Loc) (ls : Array Slot), i + k = (L.getD j (0, 0)).2 → g ≤ 1 →  va_P D vcl (mW h0 q cB cI cZ I F) H → va_D A (mW h0 q cB cI cZ I F) → va_S A s.heap H locs → lv_has ls 4 [(3, .int (nI i)), (2, .int (nI g)), (1, .int (nI j)), (0, .ref h0)] →
    (∀  (H : Heap) (locs : List Loc) (ls : Array Slot), tx_big (F 0) k i g = 0 → va_P D vcl (mW h0 q cB cI cZ I F) H → va_D A (mW h0 q cB cI cZ I F) → va_S A s.heap H locs → lv_has ls 4 [(0, .ref h0)] → W p l e R s m args below meth c H locs cells slots Q (F0 m 35 ls [])) →
    (∀ (z : Nat) (H : Heap) (locs : List Loc) (ls : Array Slot), z = tx_big (F 0) k i g → va_P D vcl (mW h0 q cB cI cZ I F) H → va_D A (mW h0 q cB cI cZ I F) → va_S A s.heap H locs → lv_has ls 4 [(2, .int (nI z)), (1, .int (nI j)), (0, .ref h0)] → W p l e R s m args below meth c H locs cells slots Q (F0 m 69 ls [])) →
    W p l e R s m args below meth c H locs cells slots Q (F0 m 9 ls []) := by
  obtain ⟨hx, hb, hml, hown, hts⟩ := id hf
  have hok1 := hok.1
  have hb1 := hok.2 j hj
  intro k
  induction k with
  | zero =>
    intro i g H locs ls hik hg1 hP hD hS hl kkR kkE
    refine lv_iload_n hx hb dX10_isBig_9 rfl (lv_at hl 0 rfl) ?_
    refine lv_aload_n hx hb dX10_isBig_10 rfl (lv_at hl 3 rfl) ?_
    refine va_get (D := D) (ci := 11) (v := .ref (q 23)) (C := RX10) (T := TX10) (N := 48) hx hb hts inX10 hown hK hP 0 rfl rfl 23 (by decide) (hts _ k_1167) (fun _ h9 => h9) rfl dX10_isBig_11 ?_
    refine lv_iload_n hx hb dX10_isBig_14 rfl (lv_at hl 2 rfl) ?_
    refine q_ild (X := j) (f := (F 23)) hx hb hK hP 17 1 rfl rfl (by omega) (by decide) dX10_isBig_15 ?_
    refine q_seti (y := (nI ((L.getD j (0, 0)).2))) (hL j (by omega)).2 ?_
    refine lv_icmp_ge (tgt := 69) hx hb dX10_isBig_16 (by decide) (fun c_1 => ?_) (fun c_1 => ?_)
    · have c_1 := q_le (a := (L.getD j (0, 0)).2) (b := i) (by omega) (by omega) c_1
      exact kkE g H locs ls rfl hP hD hS (lv_sub hl (l' := [(2, .int (nI g)), (1, .int (nI j)), (0, .ref h0)]) [1, 2, 3] rfl)
    · have c_1 := q_nle (a := (L.getD j (0, 0)).2) (b := i) (by omega) (by omega) c_1
      exact absurd hik (by omega)
  | succ k ih =>
    intro i g H locs ls hik hg1 hP hD hS hl kkR kkE
    refine lv_iload_n hx hb dX10_isBig_9 rfl (lv_at hl 0 rfl) ?_
    refine lv_aload_n hx hb dX10_isBig_10 rfl (lv_at hl 3 rfl) ?_
    refine va_get (D := D) (ci := 11) (v := .ref (q 23)) (C := RX10) (T := TX10) (N := 48) hx hb hts inX10 hown hK hP 0 rfl rfl 23 (by decide) (hts _ k_1167) (fun _ h9 => h9) rfl dX10_isBig_11 ?_
    refine lv_iload_n hx hb dX10_isBig_14 rfl (lv_at hl 2 rfl) ?_
    refine q_ild (X := j) (f := (F 23)) hx hb hK hP 17 1 rfl rfl (by omega) (by decide) dX10_isBig_15 ?_
    refine q_seti (y := (nI ((L.getD j (0, 0)).2))) (hL j (by omega)).2 ?_
    refine lv_icmp_ge (tgt := 69) hx hb dX10_isBig_16 (by decide) (fun c_1 => ?_) (fun c_1 => ?_)
    · have c_1 := q_le (a := (L.getD j (0, 0)).2) (b := i) (by omega) (by omega) c_1
      exact absurd hik (by omega)
    · have c_1 := q_nle (a := (L.getD j (0, 0)).2) (b := i) (by omega) (by omega) c_1
      refine lv_aload_n hx hb dX10_isBig_19 rfl (lv_at hl 3 rfl) ?_
      refine va_get (D := D) (ci := 11) (v := .ref (q 0)) (C := RX10) (T := TX10) (N := 48) hx hb hts inX10 hown hK hP 0 rfl rfl 0 (by decide) (hts _ k_1144) (fun _ h9 => h9) rfl dX10_isBig_20 ?_
      refine lv_iload_n hx hb dX10_isBig_23 rfl (lv_at hl 0 rfl) ?_
      refine q_bld (X := i) (f := (F 0)) hx hb hK hP 1 0 rfl rfl (by omega) (by decide) dX10_isBig_24 ?_
      refine lv_bipush (v := 97) hx hb dX10_isBig_25 (by decide) ?_
      refine lv_bipush (v := 122) hx hb dX10_isBig_27 (by decide) ?_
      refine q_ei (k := cells) (n := slots) hP hS hA (q_rS (wc := []) (tc := []) (As := [.int ((F 0) i), .int 97, .int 122]) (rest := []) hf (m_X10_in_1 _ D ((F 0) i) 97 122 _) k_1296 k_1294 k_1295 k_98 (nA := 3) (by decide +kernel) ⟨Nat.le_trans (by decide) hRf, Nat.le_trans (by decide) hRl⟩ (fun k q h => by simp at h) (hK.sub (tys' := []) [] rfl) (A := A) ⟨fun i j p q h => by simp at h, fun k q h => by simp at h⟩ (fun _ _ _ _ h => h) (fun _ _ _ => trivial) rfl hl.1 rfl (Nat.le_of_ble_eq_true rfl) dX10_isBig_29 ⟨hRc, hRs⟩) (Nat.le_refl _) (Nat.le_refl _) (fun r u H locs hw hP hS => ?_)
      rcases hw with ⟨c_2, rfl, rfl⟩ | ⟨c_3, c_4, rfl, rfl⟩ | ⟨c_5, c_6, rfl, rfl⟩
      · refine lv_if_eq (tgt := 37) hx hb dX10_isBig_32 (by decide) (fun _ => ?_) (fun hno => absurd hno (by decide))
        refine lv_iload_n hx hb dX10_isBig_37 rfl (lv_at hl 1 rfl) ?_
        by_cases hg : g = 1
        · refine lv_if_ne (tgt := 57) hx hb dX10_isBig_38 (by decide) (fun _ => ?_) (fun hno => absurd (q_eqn (a := g) (b := 0) (by omega) (by decide) hno) (by omega))
          refine lv_iconst (v := 1) hx hb dX10_isBig_57 (by decide) ?_
          refine lv_goto (tgt := 62) hx hb dX10_isBig_58 (by decide) ?_
          refine lv_istore_n (lv' := [(2, .int 1), (3, .int (nI i)), (1, .int (nI j)), (0, .ref h0)]) hx hb dX10_isBig_62 rfl hl (by decide) rfl (fun ls hl => ?_)
          refine lv_iinc (v := (nI (i + 1))) (lv' := [(3, .int (nI (i + 1))), (2, .int 1), (1, .int (nI j)), (0, .ref h0)]) hx hb dX10_isBig_63 hl (k := 1) rfl (nI_add i 1) (by decide) rfl (fun ls hl => ?_)
          refine lv_goto (tgt := 9) hx hb dX10_isBig_66 (by decide) ?_
          exact ih (i + 1) 1 H locs ls (by omega) (by omega) hP hD hS (lv_sub hl (l' := [(3, .int (nI (i + 1))), (2, .int 1), (1, .int (nI j)), (0, .ref h0)]) [0, 1, 2, 3] rfl) (fun H locs ls hz => kkR H locs ls ((tx_big_a c_2 (tx_up_1 hg)).trans hz)) (fun z H locs ls hz => kkE z H locs ls (hz.trans (tx_big_a c_2 (tx_up_1 hg)).symm))
        · refine lv_if_ne (tgt := 57) hx hb dX10_isBig_38 (by decide) (fun hno => absurd (congrArg nI (show g = 0 by omega)) hno) (fun _ => ?_)
          refine lv_aload_n hx hb dX10_isBig_41 rfl (lv_at hl 3 rfl) ?_
          refine va_get (D := D) (ci := 11) (v := .ref (q 0)) (C := RX10) (T := TX10) (N := 48) hx hb hts inX10 hown hK hP 0 rfl rfl 0 (by decide) (hts _ k_1144) (fun _ h9 => h9) rfl dX10_isBig_42 ?_
          refine lv_iload_n hx hb dX10_isBig_45 rfl (lv_at hl 0 rfl) ?_
          refine q_bld (X := i) (f := (F 0)) hx hb hK hP 1 0 rfl rfl (by omega) (by decide) dX10_isBig_46 ?_
          refine lv_bipush (v := 65) hx hb dX10_isBig_47 (by decide) ?_
          refine lv_bipush (v := 90) hx hb dX10_isBig_49 (by decide) ?_
          refine q_ei (k := cells) (n := slots) hP hS hA (q_rS (wc := []) (tc := []) (As := [.int ((F 0) i), .int 65, .int 90]) (rest := []) hf (m_X10_in_1 _ D ((F 0) i) 65 90 _) k_1296 k_1294 k_1295 k_98 (nA := 3) (by decide +kernel) ⟨Nat.le_trans (by decide) hRf, Nat.le_trans (by decide) hRl⟩ (fun k q h => by simp at h) (hK.sub (tys' := []) [] rfl) (A := A) ⟨fun i j p q h => by simp at h, fun k q h => by simp at h⟩ (fun _ _ _ _ h => h) (fun _ _ _ => trivial) rfl hl.1 rfl (Nat.le_of_ble_eq_true rfl) dX10_isBig_51 ⟨hRc, hRs⟩) (Nat.le_refl _) (Nat.le_refl _) (fun r u H locs hw hP hS => ?_)
          rcases hw with ⟨c_7, rfl, rfl⟩ | ⟨c_8, c_9, rfl, rfl⟩ | ⟨c_10, c_11, rfl, rfl⟩
          · refine lv_if_eq (tgt := 61) hx hb dX10_isBig_54 (by decide) (fun _ => ?_) (fun hno => absurd hno (by decide))
            refine lv_iconst (v := 0) hx hb dX10_isBig_61 (by decide) ?_
            refine lv_istore_n (lv' := [(2, .int 0), (3, .int (nI i)), (1, .int (nI j)), (0, .ref h0)]) hx hb dX10_isBig_62 rfl hl (by decide) rfl (fun ls hl => ?_)
            refine lv_iinc (v := (nI (i + 1))) (lv' := [(3, .int (nI (i + 1))), (2, .int 0), (1, .int (nI j)), (0, .ref h0)]) hx hb dX10_isBig_63 hl (k := 1) rfl (nI_add i 1) (by decide) rfl (fun ls hl => ?_)
            refine lv_goto (tgt := 9) hx hb dX10_isBig_66 (by decide) ?_
            exact ih (i + 1) 0 H locs ls (by omega) (by omega) hP hD hS (lv_sub hl (l' := [(3, .int (nI (i + 1))), (2, .int 0), (1, .int (nI j)), (0, .ref h0)]) [0, 1, 2, 3] rfl) (fun H locs ls hz => kkR H locs ls ((tx_big_a c_2 (tx_up_a hg c_7)).trans hz)) (fun z H locs ls hz => kkE z H locs ls (hz.trans (tx_big_a c_2 (tx_up_a hg c_7)).symm))
          · refine lv_if_eq (tgt := 61) hx hb dX10_isBig_54 (by decide) (fun _ => ?_) (fun hno => absurd hno (by decide))
            refine lv_iconst (v := 0) hx hb dX10_isBig_61 (by decide) ?_
            refine lv_istore_n (lv' := [(2, .int 0), (3, .int (nI i)), (1, .int (nI j)), (0, .ref h0)]) hx hb dX10_isBig_62 rfl hl (by decide) rfl (fun ls hl => ?_)
            refine lv_iinc (v := (nI (i + 1))) (lv' := [(3, .int (nI (i + 1))), (2, .int 0), (1, .int (nI j)), (0, .ref h0)]) hx hb dX10_isBig_63 hl (k := 1) rfl (nI_add i 1) (by decide) rfl (fun ls hl => ?_)
            refine lv_goto (tgt := 9) hx hb dX10_isBig_66 (by decide) ?_
            exact ih (i + 1) 0 H locs ls (by omega) (by omega) hP hD hS (lv_sub hl (l' := [(3, .int (nI (i + 1))), (2, .int 0), (1, .int (nI j)), (0, .ref h0)]) [0, 1, 2, 3] rfl) (fun H locs ls hz => kkR H locs ls ((tx_big_a c_2 (tx_up_b hg c_8 c_9)).trans hz)) (fun z H locs ls hz => kkE z H locs ls (hz.trans (tx_big_a c_2 (tx_up_b hg c_8 c_9)).symm))
          · refine lv_if_eq (tgt := 61) hx hb dX10_isBig_54 (by decide) (fun hno => absurd hno (by decide)) (fun _ => ?_)
            refine lv_iconst (v := 1) hx hb dX10_isBig_57 (by decide) ?_
            refine lv_goto (tgt := 62) hx hb dX10_isBig_58 (by decide) ?_
            refine lv_istore_n (lv' := [(2, .int 1), (3, .int (nI i)), (1, .int (nI j)), (0, .ref h0)]) hx hb dX10_isBig_62 rfl hl (by decide) rfl (fun ls hl => ?_)
            refine lv_iinc (v := (nI (i + 1))) (lv' := [(3, .int (nI (i + 1))), (2, .int 1), (1, .int (nI j)), (0, .ref h0)]) hx hb dX10_isBig_63 hl (k := 1) rfl (nI_add i 1) (by decide) rfl (fun ls hl => ?_)
            refine lv_goto (tgt := 9) hx hb dX10_isBig_66 (by decide) ?_
            exact ih (i + 1) 1 H locs ls (by omega) (by omega) hP hD hS (lv_sub hl (l' := [(3, .int (nI (i + 1))), (2, .int 1), (1, .int (nI j)), (0, .ref h0)]) [0, 1, 2, 3] rfl) (fun H locs ls hz => kkR H locs ls ((tx_big_a c_2 (tx_up_c hg c_10 c_11)).trans hz)) (fun z H locs ls hz => kkE z H locs ls (hz.trans (tx_big_a c_2 (tx_up_c hg c_10 c_11)).symm))
      · refine lv_if_eq (tgt := 37) hx hb dX10_isBig_32 (by decide) (fun _ => ?_) (fun hno => absurd hno (by decide))
        refine lv_iload_n hx hb dX10_isBig_37 rfl (lv_at hl 1 rfl) ?_
        by_cases hg : g = 1
        · refine lv_if_ne (tgt := 57) hx hb dX10_isBig_38 (by decide) (fun _ => ?_) (fun hno => absurd (q_eqn (a := g) (b := 0) (by omega) (by decide) hno) (by omega))
          refine lv_iconst (v := 1) hx hb dX10_isBig_57 (by decide) ?_
          refine lv_goto (tgt := 62) hx hb dX10_isBig_58 (by decide) ?_
          refine lv_istore_n (lv' := [(2, .int 1), (3, .int (nI i)), (1, .int (nI j)), (0, .ref h0)]) hx hb dX10_isBig_62 rfl hl (by decide) rfl (fun ls hl => ?_)
          refine lv_iinc (v := (nI (i + 1))) (lv' := [(3, .int (nI (i + 1))), (2, .int 1), (1, .int (nI j)), (0, .ref h0)]) hx hb dX10_isBig_63 hl (k := 1) rfl (nI_add i 1) (by decide) rfl (fun ls hl => ?_)
          refine lv_goto (tgt := 9) hx hb dX10_isBig_66 (by decide) ?_
          exact ih (i + 1) 1 H locs ls (by omega) (by omega) hP hD hS (lv_sub hl (l' := [(3, .int (nI (i + 1))), (2, .int 1), (1, .int (nI j)), (0, .ref h0)]) [0, 1, 2, 3] rfl) (fun H locs ls hz => kkR H locs ls ((tx_big_b c_3 c_4 (tx_up_1 hg)).trans hz)) (fun z H locs ls hz => kkE z H locs ls (hz.trans (tx_big_b c_3 c_4 (tx_up_1 hg)).symm))
        · refine lv_if_ne (tgt := 57) hx hb dX10_isBig_38 (by decide) (fun hno => absurd (congrArg nI (show g = 0 by omega)) hno) (fun _ => ?_)
          refine lv_aload_n hx hb dX10_isBig_41 rfl (lv_at hl 3 rfl) ?_
          refine va_get (D := D) (ci := 11) (v := .ref (q 0)) (C := RX10) (T := TX10) (N := 48) hx hb hts inX10 hown hK hP 0 rfl rfl 0 (by decide) (hts _ k_1144) (fun _ h9 => h9) rfl dX10_isBig_42 ?_
          refine lv_iload_n hx hb dX10_isBig_45 rfl (lv_at hl 0 rfl) ?_
          refine q_bld (X := i) (f := (F 0)) hx hb hK hP 1 0 rfl rfl (by omega) (by decide) dX10_isBig_46 ?_
          refine lv_bipush (v := 65) hx hb dX10_isBig_47 (by decide) ?_
          refine lv_bipush (v := 90) hx hb dX10_isBig_49 (by decide) ?_
          refine q_ei (k := cells) (n := slots) hP hS hA (q_rS (wc := []) (tc := []) (As := [.int ((F 0) i), .int 65, .int 90]) (rest := []) hf (m_X10_in_1 _ D ((F 0) i) 65 90 _) k_1296 k_1294 k_1295 k_98 (nA := 3) (by decide +kernel) ⟨Nat.le_trans (by decide) hRf, Nat.le_trans (by decide) hRl⟩ (fun k q h => by simp at h) (hK.sub (tys' := []) [] rfl) (A := A) ⟨fun i j p q h => by simp at h, fun k q h => by simp at h⟩ (fun _ _ _ _ h => h) (fun _ _ _ => trivial) rfl hl.1 rfl (Nat.le_of_ble_eq_true rfl) dX10_isBig_51 ⟨hRc, hRs⟩) (Nat.le_refl _) (Nat.le_refl _) (fun r u H locs hw hP hS => ?_)
          rcases hw with ⟨c_12, rfl, rfl⟩ | ⟨c_13, c_14, rfl, rfl⟩ | ⟨c_15, c_16, rfl, rfl⟩
          · refine lv_if_eq (tgt := 61) hx hb dX10_isBig_54 (by decide) (fun _ => ?_) (fun hno => absurd hno (by decide))
            refine lv_iconst (v := 0) hx hb dX10_isBig_61 (by decide) ?_
            refine lv_istore_n (lv' := [(2, .int 0), (3, .int (nI i)), (1, .int (nI j)), (0, .ref h0)]) hx hb dX10_isBig_62 rfl hl (by decide) rfl (fun ls hl => ?_)
            refine lv_iinc (v := (nI (i + 1))) (lv' := [(3, .int (nI (i + 1))), (2, .int 0), (1, .int (nI j)), (0, .ref h0)]) hx hb dX10_isBig_63 hl (k := 1) rfl (nI_add i 1) (by decide) rfl (fun ls hl => ?_)
            refine lv_goto (tgt := 9) hx hb dX10_isBig_66 (by decide) ?_
            exact ih (i + 1) 0 H locs ls (by omega) (by omega) hP hD hS (lv_sub hl (l' := [(3, .int (nI (i + 1))), (2, .int 0), (1, .int (nI j)), (0, .ref h0)]) [0, 1, 2, 3] rfl) (fun H locs ls hz => kkR H locs ls ((tx_big_b c_3 c_4 (tx_up_a hg c_12)).trans hz)) (fun z H locs ls hz => kkE z H locs ls (hz.trans (tx_big_b c_3 c_4 (tx_up_a hg c_12)).symm))
          · refine lv_if_eq (tgt := 61) hx hb dX10_isBig_54 (by decide) (fun _ => ?_) (fun hno => absurd hno (by decide))
            refine lv_iconst (v := 0) hx hb dX10_isBig_61 (by decide) ?_
            refine lv_istore_n (lv' := [(2, .int 0), (3, .int (nI i)), (1, .int (nI j)), (0, .ref h0)]) hx hb dX10_isBig_62 rfl hl (by decide) rfl (fun ls hl => ?_)
            refine lv_iinc (v := (nI (i + 1))) (lv' := [(3, .int (nI (i + 1))), (2, .int 0), (1, .int (nI j)), (0, .ref h0)]) hx hb dX10_isBig_63 hl (k := 1) rfl (nI_add i 1) (by decide) rfl (fun ls hl => ?_)
            refine lv_goto (tgt := 9) hx hb dX10_isBig_66 (by decide) ?_
            exact ih (i + 1) 0 H locs ls (by omega) (by omega) hP hD hS (lv_sub hl (l' := [(3, .int (nI (i + 1))), (2, .int 0), (1, .int (nI j)), (0, .ref h0)]) [0, 1, 2, 3] rfl) (fun H locs ls hz => kkR H locs ls ((tx_big_b c_3 c_4 (tx_up_b hg c_13 c_14)).trans hz)) (fun z H locs ls hz => kkE z H locs ls (hz.trans (tx_big_b c_3 c_4 (tx_up_b hg c_13 c_14)).symm))
          · refine lv_if_eq (tgt := 61) hx hb dX10_isBig_54 (by decide) (fun hno => absurd hno (by decide)) (fun _ => ?_)
            refine lv_iconst (v := 1) hx hb dX10_isBig_57 (by decide) ?_
            refine lv_goto (tgt := 62) hx hb dX10_isBig_58 (by decide) ?_
            refine lv_istore_n (lv' := [(2, .int 1), (3, .int (nI i)), (1, .int (nI j)), (0, .ref h0)]) hx hb dX10_isBig_62 rfl hl (by decide) rfl (fun ls hl => ?_)
            refine lv_iinc (v := (nI (i + 1))) (lv' := [(3, .int (nI (i + 1))), (2, .int 1), (1, .int (nI j)), (0, .ref h0)]) hx hb dX10_isBig_63 hl (k := 1) rfl (nI_add i 1) (by decide) rfl (fun ls hl => ?_)
            refine lv_goto (tgt := 9) hx hb dX10_isBig_66 (by decide) ?_
            exact ih (i + 1) 1 H locs ls (by omega) (by omega) hP hD hS (lv_sub hl (l' := [(3, .int (nI (i + 1))), (2, .int 1), (1, .int (nI j)), (0, .ref h0)]) [0, 1, 2, 3] rfl) (fun H locs ls hz => kkR H locs ls ((tx_big_b c_3 c_4 (tx_up_c hg c_15 c_16)).trans hz)) (fun z H locs ls hz => kkE z H locs ls (hz.trans (tx_big_b c_3 c_4 (tx_up_c hg c_15 c_16)).symm))
      · refine lv_if_eq (tgt := 37) hx hb dX10_isBig_32 (by decide) (fun hno => absurd hno (by decide)) (fun _ => ?_)
        exact kkR H locs ls (tx_big_c c_5 c_6) hP hD hS (lv_sub hl (l' := [(0, .ref h0)]) [3] rfl)
set_option maxHeartbeats 1000000 in
set_option maxRecDepth 100000 in
theorem r_isBig (l : Launch) (D : va_G) (h0 : Nat) (q : Nat → Nat) (cB cI_ cZ : ClassId) (I : Nat → Int32) (F : Nat → Nat → Int32) (L : List (Nat × Nat)) (j : Nat) (hI21 : I 21 = nI L.length) (hL : ∀ j, j < L.length → F 22 j = nI (L.getD j (0, 0)).1 ∧ F 23 j = nI (L.getD j (0, 0)).2) (hok : tx_ok L) (hj : j < L.length) : cI l D yX10_isBig cX10_isBig 4 (some .boolean) 1 22 0 0 [.ref h0, .int (nI j)] zT (mW h0 q cB cI_ cZ I F) (mT cB cI_ cZ) (fun r u => (tx_big (F 0) ((L.getD j (0, 0)).2 - (L.getD j (0, 0)).1) (L.getD j (0, 0)).1 0 = 1 ∧ r = 1 ∨ ¬ tx_big (F 0) ((L.getD j (0, 0)).2 - (L.getD j (0, 0)).1) (L.getD j (0, 0)).1 0 = 1 ∧ r = 0) ∧ u = (mW h0 q cB cI_ cZ I F, mT cB cI_ cZ)) := by
  refine q_si (by decide) (Nat.le_of_ble_eq_true rfl) ?_
  intro p e s m below meth c A ls hAe hf hr hlocks hin hK hP hD hS hA hZ hl
  obtain ⟨hx, hb, hml, hown, hts⟩ := id hf
  have hl : lv_has ls 4 [(0, .ref h0), (1, .int (nI j))] := hl
  have hok1 := hok.1
  have hb1 := hok.2 j hj
  refine lv_iconst (v := 0) hx hb dX10_isBig_0 (by decide) ?_
  refine lv_istore_n (lv' := [(2, .int 0), (0, .ref h0), (1, .int (nI j))]) hx hb dX10_isBig_1 rfl hl (by decide) rfl (fun ls hl => ?_)
  refine lv_aload_n hx hb dX10_isBig_2 rfl (lv_at hl 1 rfl) ?_
  refine va_get (D := D) (ci := 11) (v := .ref (q 22)) (C := RX10) (T := TX10) (N := 48) hx hb hts inX10 hown hK hP 0 rfl rfl 22 (by decide) (hts _ k_1166) (fun _ h9 => h9) rfl dX10_isBig_3 ?_
  refine lv_iload_n hx hb dX10_isBig_6 rfl (lv_at hl 2 rfl) ?_
  refine q_ild (X := j) (f := (F 22)) hx hb hK hP 16 1 rfl rfl (by omega) (by decide) dX10_isBig_7 ?_
  refine q_seti (y := (nI ((L.getD j (0, 0)).1))) (hL j (by omega)).1 ?_
  refine lv_istore_n (lv' := [(3, .int (nI ((L.getD j (0, 0)).1))), (2, .int 0), (0, .ref h0), (1, .int (nI j))]) hx hb dX10_isBig_8 rfl hl (by decide) rfl (fun ls hl => ?_)
  refine lb_big (L := L) (j := j) hI21 hL hok hj (Nat.le_of_ble_eq_true rfl) (Nat.le_of_ble_eq_true rfl) (Nat.le_of_ble_eq_true rfl) (Nat.le_of_ble_eq_true rfl) hA hf hK ((L.getD j (0, 0)).2 - (L.getD j (0, 0)).1) (L.getD j (0, 0)).1 0 _ _ ls (by omega) (by omega) hP hD hS (lv_sub hl (l' := [(3, .int (nI ((L.getD j (0, 0)).1))), (2, .int 0), (1, .int (nI j)), (0, .ref h0)]) [0, 1, 3, 2] rfl) ?_ ?_
  · intro H locs ls hz hP hD hS hl
    refine lv_iconst (v := 0) hx hb dX10_isBig_35 (by decide) ?_
    exact q_zi hf hr rfl hlocks hK hP hD hS (Nat.le_of_ble_eq_true rfl) (Nat.le_of_ble_eq_true rfl) ⟨Or.inr ⟨fun h => absurd (hz.symm.trans h) (by decide), rfl⟩, rfl⟩ dX10_isBig_36
  · intro z H locs ls hz hP hD hS hl
    have hz1 := tx_big_01 (F 0) ((L.getD j (0, 0)).2 - (L.getD j (0, 0)).1) (L.getD j (0, 0)).1 0 (by omega)
    rw [← hz] at hz1
    have hz01 : z = 1 ∨ z = 0 := by omega
    rcases hz01 with rfl | rfl
    · refine lv_iload_n hx hb dX10_isBig_69 rfl (lv_at hl 0 rfl) ?_
      exact q_zi hf hr rfl hlocks hK hP hD hS (Nat.le_of_ble_eq_true rfl) (Nat.le_of_ble_eq_true rfl) ⟨Or.inl ⟨hz.symm, rfl⟩, rfl⟩ dX10_isBig_70
    · refine lv_iload_n hx hb dX10_isBig_69 rfl (lv_at hl 0 rfl) ?_
      exact q_zi hf hr rfl hlocks hK hP hD hS (Nat.le_of_ble_eq_true rfl) (Nat.le_of_ble_eq_true rfl) ⟨Or.inr ⟨fun h => absurd (hz.trans h) (by decide), rfl⟩, rfl⟩ dX10_isBig_70
