abbrev cX10_read : ByteArray := prog_12_method_20_code
def yX10_read : MethodName := ⟨RX10, "read", "()I"⟩
theorem k_48 : (Cond.selects RX10 yX10_kindOfLine yX10_kindOfLine) ∈ gT := gT_i 48 (by decide +kernel) rfl
theorem k_51 : (Cond.selects RX10 yX10_isMore yX10_isMore) ∈ gT := gT_i 51 (by decide +kernel) rfl
theorem k_1313 : (Cond.methodLink RX10 164 yX10_kindOfLine) ∈ gT := gT_i 1313 (by decide +kernel) rfl
theorem k_1315 : (Cond.instanceMethod yX10_kindOfLine) ∈ gT := gT_i 1315 (by decide +kernel) rfl
theorem k_1316 : (Cond.code yX10_kindOfLine cX10_kindOfLine 7 (some .int)) ∈ gT := gT_i 1316 (by decide +kernel) rfl
theorem k_1325 : (Cond.methodLink RX10 167 yX10_isMore) ∈ gT := gT_i 1325 (by decide +kernel) rfl
theorem k_1327 : (Cond.instanceMethod yX10_isMore) ∈ gT := gT_i 1327 (by decide +kernel) rfl
theorem k_1328 : (Cond.code yX10_isMore cX10_isMore 2 (some .boolean)) ∈ gT := gT_i 1328 (by decide +kernel) rfl
theorem dX10_read_8 : decode cX10_read 8 = .ok (.iload_n 2, 1) := by decide +kernel
theorem dX10_read_9 : decode cX10_read 9 = .ok (.aload_n 0, 1) := by decide +kernel
theorem dX10_read_10 : decode cX10_read 10 = .ok (.getfield 126, 3) := by decide +kernel
theorem dX10_read_13 : decode cX10_read 13 = .ok (.if_icmp .ge 44, 3) := by decide +kernel
theorem dX10_read_16 : decode cX10_read 16 = .ok (.aload_n 0, 1) := by decide +kernel
theorem dX10_read_17 : decode cX10_read 17 = .ok (.iload_n 2, 1) := by decide +kernel
theorem dX10_read_18 : decode cX10_read 18 = .ok (.invokevirtual 133, 3) := by decide +kernel
theorem dX10_read_21 : decode cX10_read 21 = .ok (.ifCond .ne 30, 3) := by decide +kernel
theorem dX10_read_51 : decode cX10_read 51 = .ok (.iinc 2 1, 3) := by decide +kernel
theorem dX10_read_54 : decode cX10_read 54 = .ok (.goto (-46), 3) := by decide +kernel
theorem dX10_read_24 : decode cX10_read 24 = .ok (.aload_n 0, 1) := by decide +kernel
theorem dX10_read_25 : decode cX10_read 25 = .ok (.getfield 68, 3) := by decide +kernel
theorem dX10_read_28 : decode cX10_read 28 = .ok (.iload_n 2, 1) := by decide +kernel
theorem dX10_read_29 : decode cX10_read 29 = .ok (.aload_n 0, 1) := by decide +kernel
theorem dX10_read_30 : decode cX10_read 30 = .ok (.iload_n 2, 1) := by decide +kernel
theorem dX10_read_31 : decode cX10_read 31 = .ok (.invokevirtual 164, 3) := by decide +kernel
theorem dX10_read_34 : decode cX10_read 34 = .ok (.iastore, 1) := by decide +kernel
theorem dX10_read_35 : decode cX10_read 35 = .ok (.iload_n 1, 1) := by decide +kernel
theorem dX10_read_36 : decode cX10_read 36 = .ok (.aload_n 0, 1) := by decide +kernel
theorem dX10_read_37 : decode cX10_read 37 = .ok (.iload_n 2, 1) := by decide +kernel
theorem dX10_read_38 : decode cX10_read 38 = .ok (.invokevirtual 167, 3) := by decide +kernel
theorem dX10_read_41 : decode cX10_read 41 = .ok (.ifCond .eq 7, 3) := by decide +kernel
theorem dX10_read_44 : decode cX10_read 44 = .ok (.iconst 0, 1) := by decide +kernel
theorem dX10_read_45 : decode cX10_read 45 = .ok (.goto 4, 3) := by decide +kernel
theorem dX10_read_49 : decode cX10_read 49 = .ok (.iadd, 1) := by decide +kernel
theorem dX10_read_50 : decode cX10_read 50 = .ok (.istore_n 1, 1) := by decide +kernel
theorem dX10_read_48 : decode cX10_read 48 = .ok (.iconst 1, 1) := by decide +kernel
theorem dX10_read_68 : decode cX10_read 68 = .ok (.iload_n 2, 1) := by decide +kernel
theorem dX10_read_69 : decode cX10_read 69 = .ok (.bipush 60, 2) := by decide +kernel
theorem dX10_read_71 : decode cX10_read 71 = .ok (.if_icmp .ge 16, 3) := by decide +kernel
theorem dX10_read_74 : decode cX10_read 74 = .ok (.aload_n 0, 1) := by decide +kernel
theorem dX10_read_75 : decode cX10_read 75 = .ok (.getfield 21, 3) := by decide +kernel
theorem dX10_read_78 : decode cX10_read 78 = .ok (.iload_n 2, 1) := by decide +kernel
theorem dX10_read_79 : decode cX10_read 79 = .ok (.iconst 0, 1) := by decide +kernel
theorem dX10_read_80 : decode cX10_read 80 = .ok (.bastore, 1) := by decide +kernel
theorem dX10_read_81 : decode cX10_read 81 = .ok (.iinc 2 1, 3) := by decide +kernel
theorem dX10_read_84 : decode cX10_read 84 = .ok (.goto (-16), 3) := by decide +kernel
theorem tx_24 {T : Nat → Int32} {L : List (Nat × Nat)} {j : Nat} {f : Nat → Int32} (h : ∀ i, i < j → ¬ tx_free L i → f i = tx_k T L i) : ∀ i, i < j + 1 → ¬ tx_free L i → upd f j (tx_k T L j) i = tx_k T L i := by
  intro i hi hn
  by_cases e : i = j
  · rw [e, pk_us]
  · rw [pk_un e]; exact h i (by omega) hn
theorem tx_24f {T : Nat → Int32} {L : List (Nat × Nat)} {j : Nat} {f : Nat → Int32} (h : ∀ i, i < j → ¬ tx_free L i → f i = tx_k T L i) (hf : tx_free L j) : ∀ i, i < j + 1 → ¬ tx_free L i → f i = tx_k T L i := by
  intro i hi hn
  by_cases e : i = j
  · rw [e] at hn; exact absurd hf hn
  · exact h i (by omega) hn
theorem tx_cnt_n {T : Nat → Int32} {L : List (Nat × Nat)} {j : Nat} (h : tx_free L j ∨ tx_more T L j) : tx_cnt T L j = tx_cnt T L (j + 1) := by
  show _ = tx_cnt T L j + pif (¬ tx_free L j ∧ ¬ tx_more T L j) 1 0
  rw [pif_n (fun z => h.elim z.1 z.2)]
  rfl
theorem tx_cnt_y {T : Nat → Int32} {L : List (Nat × Nat)} {j : Nat} (h : ¬ tx_free L j) (h2 : ¬ tx_more T L j) : tx_cnt T L j + 1 = tx_cnt T L (j + 1) := by
  show _ = tx_cnt T L j + pif (¬ tx_free L j ∧ ¬ tx_more T L j) 1 0
  rw [pif_p ⟨h, h2⟩]
theorem tx_5 {j : Nat} {f : Nat → Int32} (h : ∀ i, i < j → f i = 0) : ∀ i, i < j + 1 → upd f j (vp_nar .boolean 0) i = 0 := by
  intro i hi
  by_cases e : i = j
  · rw [e, pk_us]; rfl
  · rw [pk_un e]; exact h i (by omega)
set_option maxHeartbeats 1000000 in
set_option maxRecDepth 100000 in
theorem la_cnt {p : Program} {l : Launch} {e : Env} {R : Room} {s : State} {m : MethodId} {args : Array Value} {below : List Frame} {meth : Method} {c : Code} {cells slots : Nat} {Q : State → Prop} {D : va_G} {A : Nat → Prop} {h0 : Nat} {q : Nat → Nat} {cB cI cZ : ClassId} {I : Nat → Int32} {F : Nat → Nat → Int32} {L : List (Nat × Nat)} (hI21 : I 21 = nI L.length) (hL : ∀ j, j < L.length → F 22 j = nI (L.getD j (0, 0)).1 ∧ F 23 j = nI (L.getD j (0, 0)).2) (hok : tx_ok L) (hRf : 3 ≤ R.frames) (hRl : 90 ≤ R.locals) (hRc : cells ≤ R.cells) (hRs : slots ≤ R.slots) (hA : ∀ q : Nat, s.heap.size ≤ q → A q) (hf : CallFix p m c cX10_read 4 s args gT yX10_read.cls) (hK : va_K D vcl (mT cB cI cZ) s) :
    ∀ (k : Nat) (j : Nat) (c2 : Nat) (f24 : Nat → Int32) (H : Heap) (locs : List Loc) (ls : Array Slot), j + k = L.length → c2 = tx_cnt (F 0) L j → (∀ i, i < j → ¬ tx_free L i → f24 i = tx_k (F 0) L i) →  va_P D vcl (mW h0 q cB cI cZ I (va_up F 24 f24)) H → va_D A (mW h0 q cB cI cZ I (va_up F 24 f24)) → va_S A s.heap H locs → lv_has ls 4 [(2, .int (nI j)), (1, .int (nI c2)), (0, .ref h0)] →
    (∀ (c3 : Nat) (g24 : Nat → Int32) (H : Heap) (locs : List Loc) (ls : Array Slot), c3 = tx_cnt (F 0) L L.length → (∀ i, i < L.length → ¬ tx_free L i → g24 i = tx_k (F 0) L i) → va_P D vcl (mW h0 q cB cI cZ I (va_up F 24 g24)) H → va_D A (mW h0 q cB cI cZ I (va_up F 24 g24)) → va_S A s.heap H locs → lv_has ls 4 [(1, .int (nI c3)), (0, .ref h0)] → W p l e R s m args below meth c H locs cells slots Q (F0 m 57 ls [])) →
    W p l e R s m args below meth c H locs cells slots Q (F0 m 8 ls []) := by
  obtain ⟨hx, hb, hml, hown, hts⟩ := id hf
  have hok1 := hok.1
  intro k
  induction k with
  | zero =>
    intro j c2 f24 H locs ls hik hc h24 hP hD hS hl kk
    refine lv_iload_n hx hb dX10_read_8 rfl (lv_at hl 0 rfl) ?_
    refine lv_aload_n hx hb dX10_read_9 rfl (lv_at hl 2 rfl) ?_
    refine va_get (D := D) (ci := 11) (v := .int (I 21)) (C := RX10) (T := TX10) (N := 48) hx hb hts inX10 hown hK hP 0 rfl rfl 21 (by decide) (hts _ k_1165) (fun _ h9 => h9) rfl dX10_read_10 ?_
    refine q_seti (y := (nI (L.length))) hI21 ?_
    refine lv_icmp_ge (tgt := 57) hx hb dX10_read_13 (by decide) (fun c_1 => ?_) (fun c_1 => ?_)
    · have c_1 := q_le (a := L.length) (b := j) (by omega) (by omega) c_1
      obtain rfl : j = L.length := by omega
      exact kk c2 f24 H locs ls hc h24 hP hD hS (lv_sub hl (l' := [(1, .int (nI c2)), (0, .ref h0)]) [1, 2] rfl)
    · have c_1 := q_nle (a := L.length) (b := j) (by omega) (by omega) c_1
      exact absurd hik (by omega)
  | succ k ih =>
    intro j c2 f24 H locs ls hik hc h24 hP hD hS hl kk
    refine lv_iload_n hx hb dX10_read_8 rfl (lv_at hl 0 rfl) ?_
    refine lv_aload_n hx hb dX10_read_9 rfl (lv_at hl 2 rfl) ?_
    refine va_get (D := D) (ci := 11) (v := .int (I 21)) (C := RX10) (T := TX10) (N := 48) hx hb hts inX10 hown hK hP 0 rfl rfl 21 (by decide) (hts _ k_1165) (fun _ h9 => h9) rfl dX10_read_10 ?_
    refine q_seti (y := (nI (L.length))) hI21 ?_
    refine lv_icmp_ge (tgt := 57) hx hb dX10_read_13 (by decide) (fun c_1 => ?_) (fun c_1 => ?_)
    · have c_1 := q_le (a := L.length) (b := j) (by omega) (by omega) c_1
      exact absurd hik (by omega)
    · have c_1 := q_nle (a := L.length) (b := j) (by omega) (by omega) c_1
      have hcl := tx_cnt_le (F 0) L j
      rw [← hc] at hcl
      refine lv_aload_n hx hb dX10_read_16 rfl (lv_at hl 2 rfl) ?_
      refine lv_iload_n hx hb dX10_read_17 rfl (lv_at hl 0 rfl) ?_
      refine q_ci (k := cells) (n := slots) hK hP hD hS hA (fun hPc hKc hDc => q_rV (As := [.int (nI j)]) (rest := []) hf (r_isFree _ D h0 q cB cI cZ I (va_up F 24 f24) L j hI21 hL hok (by omega) _) k_1312 k_1309 k_1311 k_47 k_98 (nA := 1) (by decide +kernel) ⟨Nat.le_trans (by decide) hRf, Nat.le_trans (by decide) hRl⟩ hK hP (ci := 11) (q0 := 0) rfl rfl rfl hPc hKc hDc (fun _ _ _ _ h => h) (fun _ _ _ => trivial) rfl hl.1 rfl (Nat.le_of_ble_eq_true rfl) dX10_read_18 ⟨hRc, hRs⟩) (Nat.le_refl _) (Nat.le_refl _) (fun r u H locs hw hK hP hD hS => ?_)
      rcases hw with ⟨⟨c_2, rfl⟩ | ⟨c_2, rfl⟩, rfl⟩
      · have hP : va_P D vcl (mW h0 q cB cI cZ I (va_up F 24 f24)) H := hP
        have hD : va_D A (mW h0 q cB cI cZ I (va_up F 24 f24)) := hD
        refine lv_if_ne (tgt := 51) hx hb dX10_read_21 (by decide) (fun _ => ?_) (fun hno => absurd hno (by decide))
        refine lv_iinc (v := (nI (j + 1))) (lv' := [(2, .int (nI (j + 1))), (1, .int (nI c2)), (0, .ref h0)]) hx hb dX10_read_51 hl (k := 0) rfl (nI_add j 1) (by decide) rfl (fun ls hl => ?_)
        refine lv_goto (tgt := 8) hx hb dX10_read_54 (by decide) ?_
        exact ih (j + 1) c2 f24 H locs ls (by omega) (hc.trans (tx_cnt_n (Or.inl c_2))) (tx_24f h24 c_2) hP hD hS (lv_sub hl (l' := [(2, .int (nI (j + 1))), (1, .int (nI c2)), (0, .ref h0)]) [0, 1, 2] rfl) kk
      · have hP : va_P D vcl (mW h0 q cB cI cZ I (va_up F 24 f24)) H := hP
        have hD : va_D A (mW h0 q cB cI cZ I (va_up F 24 f24)) := hD
        refine lv_if_ne (tgt := 51) hx hb dX10_read_21 (by decide) (fun hno => absurd hno (by decide)) (fun _ => ?_)
        refine lv_aload_n hx hb dX10_read_24 rfl (lv_at hl 2 rfl) ?_
        refine va_get (D := D) (ci := 11) (v := .ref (q 24)) (C := RX10) (T := TX10) (N := 48) hx hb hts inX10 hown hK hP 0 rfl rfl 24 (by decide) (hts _ k_1168) (fun _ h9 => h9) rfl dX10_read_25 ?_
        refine lv_iload_n hx hb dX10_read_28 rfl (lv_at hl 0 rfl) ?_
        refine lv_aload_n hx hb dX10_read_29 rfl (lv_at hl 2 rfl) ?_
        refine lv_iload_n hx hb dX10_read_30 rfl (lv_at hl 0 rfl) ?_
        refine q_ci (k := cells) (n := slots) hK hP hD hS hA (fun hPc hKc hDc => q_rV (As := [.int (nI j)]) (rest := [.int (nI j), .ref (q 24)]) hf (r_kind _ D h0 q cB cI cZ I (va_up F 24 f24) L j hI21 hL hok (by omega) c_2 h24 _) k_1316 k_1313 k_1315 k_48 k_98 (nA := 1) (by decide +kernel) ⟨Nat.le_trans (by decide) hRf, Nat.le_trans (by decide) hRl⟩ hK hP (ci := 11) (q0 := 0) rfl rfl rfl hPc hKc hDc (fun _ _ _ _ h => h) (fun _ _ _ => trivial) rfl hl.1 rfl (Nat.le_of_ble_eq_true rfl) dX10_read_31 ⟨hRc, hRs⟩) (Nat.le_refl _) (Nat.le_refl _) (fun r u H locs hw hK hP hD hS => ?_)
        obtain ⟨rfl, rfl⟩ := hw
        have hP : va_P D vcl (mW h0 q cB cI cZ I (va_up F 24 f24)) H := hP
        have hD : va_D A (mW h0 q cB cI cZ I (va_up F 24 f24)) := hD
        refine q_ist (X := j) (f := f24) (x := (tx_k (F 0) L j)) hx hb hK hP hD hS 18 1 rfl rfl (by omega) (by decide) dX10_read_34 (fun H locs hP hD hS => ?_)
        have hP : va_P D vcl (mW h0 q cB cI cZ I (va_up F 24 (upd f24 j (tx_k (F 0) L j)))) H := hP
        have hD : va_D A (mW h0 q cB cI cZ I (va_up F 24 (upd f24 j (tx_k (F 0) L j)))) := hD
        refine lv_iload_n hx hb dX10_read_35 rfl (lv_at hl 1 rfl) ?_
        refine lv_aload_n hx hb dX10_read_36 rfl (lv_at hl 2 rfl) ?_
        refine lv_iload_n hx hb dX10_read_37 rfl (lv_at hl 0 rfl) ?_
        have h24m := tx_24 h24
        refine q_ci (k := cells) (n := slots) hK hP hD hS hA (fun hPc hKc hDc => q_rV (As := [.int (nI j)]) (rest := [.int (nI c2)]) hf (r_more _ D h0 q cB cI cZ I (va_up F 24 (upd f24 j (tx_k (F 0) L j))) L j hI21 hL hok (by omega) c_2 h24m _) k_1328 k_1325 k_1327 k_51 k_98 (nA := 1) (by decide +kernel) ⟨Nat.le_trans (by decide) hRf, Nat.le_trans (by decide) hRl⟩ hK hP (ci := 11) (q0 := 0) rfl rfl rfl hPc hKc hDc (fun _ _ _ _ h => h) (fun _ _ _ => trivial) rfl hl.1 rfl (Nat.le_of_ble_eq_true rfl) dX10_read_38 ⟨hRc, hRs⟩) (Nat.le_refl _) (Nat.le_refl _) (fun r u H locs hw hK hP hD hS => ?_)
        rcases hw with ⟨⟨c_3, rfl⟩ | ⟨c_3, rfl⟩, rfl⟩
        · have hP : va_P D vcl (mW h0 q cB cI cZ I (va_up F 24 (upd f24 j (tx_k (F 0) L j)))) H := hP
          have hD : va_D A (mW h0 q cB cI cZ I (va_up F 24 (upd f24 j (tx_k (F 0) L j)))) := hD
          refine lv_if_eq (tgt := 48) hx hb dX10_read_41 (by decide) (fun hno => absurd hno (by decide)) (fun _ => ?_)
          refine lv_iconst (v := 0) hx hb dX10_read_44 (by decide) ?_
          refine lv_goto (tgt := 49) hx hb dX10_read_45 (by decide) ?_
          refine lv_iadd hx hb dX10_read_49 ?_
          refine q_seti (y := nI (c2 + 0)) (nI_add c2 0) ?_
          refine q_seti (y := nI c2) (congrArg nI (show c2 + 0 = c2 by omega)) ?_
          refine lv_istore_n (lv' := [(1, .int (nI c2)), (2, .int (nI j)), (0, .ref h0)]) hx hb dX10_read_50 rfl hl (by decide) rfl (fun ls hl => ?_)
          refine lv_iinc (v := (nI (j + 1))) (lv' := [(2, .int (nI (j + 1))), (1, .int (nI c2)), (0, .ref h0)]) hx hb dX10_read_51 hl (k := 1) rfl (nI_add j 1) (by decide) rfl (fun ls hl => ?_)
          refine lv_goto (tgt := 8) hx hb dX10_read_54 (by decide) ?_
          exact ih (j + 1) c2 _ H locs ls (by omega) (hc.trans (tx_cnt_n (Or.inr c_3))) h24m hP hD hS (lv_sub hl (l' := [(2, .int (nI (j + 1))), (1, .int (nI c2)), (0, .ref h0)]) [0, 1, 2] rfl) kk
        · have hP : va_P D vcl (mW h0 q cB cI cZ I (va_up F 24 (upd f24 j (tx_k (F 0) L j)))) H := hP
          have hD : va_D A (mW h0 q cB cI cZ I (va_up F 24 (upd f24 j (tx_k (F 0) L j)))) := hD
          refine lv_if_eq (tgt := 48) hx hb dX10_read_41 (by decide) (fun _ => ?_) (fun hno => absurd hno (by decide))
          refine lv_iconst (v := 1) hx hb dX10_read_48 (by decide) ?_
          refine lv_iadd hx hb dX10_read_49 ?_
          refine q_seti (y := nI (c2 + 1)) (nI_add c2 1) ?_
          refine lv_istore_n (lv' := [(1, .int (nI (c2 + 1))), (2, .int (nI j)), (0, .ref h0)]) hx hb dX10_read_50 rfl hl (by decide) rfl (fun ls hl => ?_)
          refine lv_iinc (v := (nI (j + 1))) (lv' := [(2, .int (nI (j + 1))), (1, .int (nI (c2 + 1))), (0, .ref h0)]) hx hb dX10_read_51 hl (k := 1) rfl (nI_add j 1) (by decide) rfl (fun ls hl => ?_)
          refine lv_goto (tgt := 8) hx hb dX10_read_54 (by decide) ?_
          exact ih (j + 1) (c2 + 1) _ H locs ls (by omega) (by rw [hc]; exact tx_cnt_y c_2 c_3) h24m hP hD hS (lv_sub hl (l' := [(2, .int (nI (j + 1))), (1, .int (nI (c2 + 1))), (0, .ref h0)]) [0, 1, 2] rfl) kk
set_option maxHeartbeats 1000000 in
set_option maxRecDepth 100000 in
theorem lu_use {p : Program} {l : Launch} {e : Env} {R : Room} {s : State} {m : MethodId} {args : Array Value} {below : List Frame} {meth : Method} {c : Code} {cells slots : Nat} {Q : State → Prop} {D : va_G} {A : Nat → Prop} {h0 : Nat} {q : Nat → Nat} {cB cI cZ : ClassId} {I : Nat → Int32} {F : Nat → Nat → Int32} {x1 : Int32} (hRf : 0 ≤ R.frames) (hRl : 0 ≤ R.locals) (hRc : cells ≤ R.cells) (hRs : slots ≤ R.slots) (hA : ∀ q : Nat, s.heap.size ≤ q → A q) (hf : CallFix p m c cX10_read 4 s args gT yX10_read.cls) (hK : va_K D vcl (mT cB cI cZ) s) :
    ∀ (k : Nat) (j : Nat) (f5 : Nat → Int32) (H : Heap) (locs : List Loc) (ls : Array Slot), j + k = 60 → (∀ i, i < j → f5 i = 0) →  va_P D vcl (mW h0 q cB cI cZ I (va_up F 5 f5)) H → va_D A (mW h0 q cB cI cZ I (va_up F 5 f5)) → va_S A s.heap H locs → lv_has ls 4 [(2, .int (nI j)), (1, .int x1), (0, .ref h0)] →
    (∀ (g5 : Nat → Int32) (H : Heap) (locs : List Loc) (ls : Array Slot), (∀ i, i < 60 → g5 i = 0) → va_P D vcl (mW h0 q cB cI cZ I (va_up F 5 g5)) H → va_D A (mW h0 q cB cI cZ I (va_up F 5 g5)) → va_S A s.heap H locs → lv_has ls 4 [(1, .int x1), (0, .ref h0)] → W p l e R s m args below meth c H locs cells slots Q (F0 m 87 ls [])) →
    W p l e R s m args below meth c H locs cells slots Q (F0 m 68 ls []) := by
  obtain ⟨hx, hb, hml, hown, hts⟩ := id hf
  intro k
  induction k with
  | zero =>
    intro j f5 H locs ls hik h5 hP hD hS hl kk
    refine lv_iload_n hx hb dX10_read_68 rfl (lv_at hl 0 rfl) ?_
    refine lv_bipush (v := 60) hx hb dX10_read_69 (by decide) ?_
    refine lv_icmp_ge (tgt := 87) hx hb dX10_read_71 (by decide) (fun c_1 => ?_) (fun c_1 => ?_)
    · have c_1 := q_le (a := 60) (b := j) (by omega) (by omega) c_1
      obtain rfl : j = 60 := by omega
      exact kk f5 H locs ls h5 hP hD hS (lv_sub hl (l' := [(1, .int x1), (0, .ref h0)]) [1, 2] rfl)
    · have c_1 := q_nle (a := 60) (b := j) (by omega) (by omega) c_1
      refine lv_aload_n hx hb dX10_read_74 rfl (lv_at hl 2 rfl) ?_
      refine va_get (D := D) (ci := 11) (v := .ref (q 5)) (C := RX10) (T := TX10) (N := 48) hx hb hts inX10 hown hK hP 0 rfl rfl 5 (by decide) (hts _ k_1149) (fun _ h9 => h9) rfl dX10_read_75 ?_
      refine lv_iload_n hx hb dX10_read_78 rfl (lv_at hl 0 rfl) ?_
      refine lv_iconst (v := 0) hx hb dX10_read_79 (by decide) ?_
      refine q_zst (X := j) (f := f5) (x := 0) hx hb hK hP hD hS 3 2 rfl rfl (by omega) (by decide) dX10_read_80 (fun H locs hP hD hS => ?_)
      have hP : va_P D vcl (mW h0 q cB cI cZ I (va_up F 5 (upd f5 j (vp_nar .boolean 0)))) H := hP
      have hD : va_D A (mW h0 q cB cI cZ I (va_up F 5 (upd f5 j (vp_nar .boolean 0)))) := hD
      refine lv_iinc (v := (nI (j + 1))) (lv' := [(2, .int (nI (j + 1))), (1, .int x1), (0, .ref h0)]) hx hb dX10_read_81 hl (k := 0) rfl (nI_add j 1) (by decide) rfl (fun ls hl => ?_)
      refine lv_goto (tgt := 68) hx hb dX10_read_84 (by decide) ?_
      exact absurd hik (by omega)
  | succ k ih =>
    intro j f5 H locs ls hik h5 hP hD hS hl kk
    refine lv_iload_n hx hb dX10_read_68 rfl (lv_at hl 0 rfl) ?_
    refine lv_bipush (v := 60) hx hb dX10_read_69 (by decide) ?_
    refine lv_icmp_ge (tgt := 87) hx hb dX10_read_71 (by decide) (fun c_1 => ?_) (fun c_1 => ?_)
    · have c_1 := q_le (a := 60) (b := j) (by omega) (by omega) c_1
      exact absurd hik (by omega)
    · have c_1 := q_nle (a := 60) (b := j) (by omega) (by omega) c_1
      refine lv_aload_n hx hb dX10_read_74 rfl (lv_at hl 2 rfl) ?_
      refine va_get (D := D) (ci := 11) (v := .ref (q 5)) (C := RX10) (T := TX10) (N := 48) hx hb hts inX10 hown hK hP 0 rfl rfl 5 (by decide) (hts _ k_1149) (fun _ h9 => h9) rfl dX10_read_75 ?_
      refine lv_iload_n hx hb dX10_read_78 rfl (lv_at hl 0 rfl) ?_
      refine lv_iconst (v := 0) hx hb dX10_read_79 (by decide) ?_
      refine q_zst (X := j) (f := f5) (x := 0) hx hb hK hP hD hS 3 2 rfl rfl (by omega) (by decide) dX10_read_80 (fun H locs hP hD hS => ?_)
      have hP : va_P D vcl (mW h0 q cB cI cZ I (va_up F 5 (upd f5 j (vp_nar .boolean 0)))) H := hP
      have hD : va_D A (mW h0 q cB cI cZ I (va_up F 5 (upd f5 j (vp_nar .boolean 0)))) := hD
      refine lv_iinc (v := (nI (j + 1))) (lv' := [(2, .int (nI (j + 1))), (1, .int x1), (0, .ref h0)]) hx hb dX10_read_81 hl (k := 0) rfl (nI_add j 1) (by decide) rfl (fun ls hl => ?_)
      refine lv_goto (tgt := 68) hx hb dX10_read_84 (by decide) ?_
      exact ih (j + 1) _ H locs ls (by omega) (tx_5 h5) hP hD hS (lv_sub hl (l' := [(2, .int (nI (j + 1))), (1, .int x1), (0, .ref h0)]) [0, 1, 2] rfl) kk
