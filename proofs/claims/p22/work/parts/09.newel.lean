def tx_gap (v : Int32) : Prop := v = 32 ∨ v = 10
abbrev cX10_freeSlot : ByteArray := prog_12_method_12_code
def yX10_freeSlot : MethodName := ⟨RX10, "freeSlot", "()I"⟩
abbrev cX10_isBlank : ByteArray := prog_12_method_15_code
def yX10_isBlank : MethodName := ⟨RX10, "isBlank", "(I)Z"⟩
abbrev cX10_newElement : ByteArray := prog_12_method_13_code
def yX10_newElement : MethodName := ⟨RX10, "newElement", "(I)I"⟩
theorem k_53 : (Cond.selects RX10 yX10_freeSlot yX10_freeSlot) ∈ gT := gT_i 53 (by decide +kernel) rfl
theorem k_1147 : (Cond.fieldLink RX10 144 "ScriptDeskModel" "elements" "I") ∈ gT := gT_i 1147 (by decide +kernel) rfl
theorem k_1148 : (Cond.fieldLink RX10 17 "ScriptDeskModel" "slotOf" "[I") ∈ gT := gT_i 1148 (by decide +kernel) rfl
theorem k_1149 : (Cond.fieldLink RX10 21 "ScriptDeskModel" "isUsed" "[Z") ∈ gT := gT_i 1149 (by decide +kernel) rfl
theorem k_1150 : (Cond.fieldLink RX10 25 "ScriptDeskModel" "kindIn" "[I") ∈ gT := gT_i 1150 (by decide +kernel) rfl
theorem k_1151 : (Cond.fieldLink RX10 28 "ScriptDeskModel" "isStruck" "[Z") ∈ gT := gT_i 1151 (by decide +kernel) rfl
theorem k_1152 : (Cond.fieldLink RX10 31 "ScriptDeskModel" "wordsIn" "[I") ∈ gT := gT_i 1152 (by decide +kernel) rfl
theorem k_1153 : (Cond.fieldLink RX10 34 "ScriptDeskModel" "longIn" "[I") ∈ gT := gT_i 1153 (by decide +kernel) rfl
theorem k_1155 : (Cond.fieldLink RX10 41 "ScriptDeskModel" "rowsIn" "[I") ∈ gT := gT_i 1155 (by decide +kernel) rfl
theorem k_1333 : (Cond.methodLink RX10 140 yX10_freeSlot) ∈ gT := gT_i 1333 (by decide +kernel) rfl
theorem k_1335 : (Cond.instanceMethod yX10_freeSlot) ∈ gT := gT_i 1335 (by decide +kernel) rfl
theorem k_1336 : (Cond.code yX10_freeSlot cX10_freeSlot 2 (some .int)) ∈ gT := gT_i 1336 (by decide +kernel) rfl
theorem dX10_isBlank_0 : decode cX10_isBlank 0 = .ok (.aload_n 0, 1) := by decide +kernel
theorem dX10_isBlank_1 : decode cX10_isBlank 1 = .ok (.getfield 7, 3) := by decide +kernel
theorem dX10_isBlank_4 : decode cX10_isBlank 4 = .ok (.iload_n 1, 1) := by decide +kernel
theorem dX10_isBlank_5 : decode cX10_isBlank 5 = .ok (.baload, 1) := by decide +kernel
theorem dX10_isBlank_6 : decode cX10_isBlank 6 = .ok (.bipush 32, 2) := by decide +kernel
theorem dX10_isBlank_8 : decode cX10_isBlank 8 = .ok (.if_icmp .eq 14, 3) := by decide +kernel
theorem dX10_isBlank_22 : decode cX10_isBlank 22 = .ok (.iconst 1, 1) := by decide +kernel
theorem dX10_isBlank_23 : decode cX10_isBlank 23 = .ok (.goto 4, 3) := by decide +kernel
theorem dX10_isBlank_27 : decode cX10_isBlank 27 = .ok (.ireturn, 1) := by decide +kernel
theorem dX10_isBlank_11 : decode cX10_isBlank 11 = .ok (.aload_n 0, 1) := by decide +kernel
theorem dX10_isBlank_12 : decode cX10_isBlank 12 = .ok (.getfield 7, 3) := by decide +kernel
theorem dX10_isBlank_15 : decode cX10_isBlank 15 = .ok (.iload_n 1, 1) := by decide +kernel
theorem dX10_isBlank_16 : decode cX10_isBlank 16 = .ok (.baload, 1) := by decide +kernel
theorem dX10_isBlank_17 : decode cX10_isBlank 17 = .ok (.bipush 10, 2) := by decide +kernel
theorem dX10_isBlank_19 : decode cX10_isBlank 19 = .ok (.if_icmp .ne 7, 3) := by decide +kernel
theorem dX10_isBlank_26 : decode cX10_isBlank 26 = .ok (.iconst 0, 1) := by decide +kernel
theorem dX10_freeSlot_2 : decode cX10_freeSlot 2 = .ok (.aload_n 0, 1) := by decide +kernel
theorem dX10_freeSlot_3 : decode cX10_freeSlot 3 = .ok (.getfield 21, 3) := by decide +kernel
theorem dX10_freeSlot_6 : decode cX10_freeSlot 6 = .ok (.iload_n 1, 1) := by decide +kernel
theorem dX10_freeSlot_7 : decode cX10_freeSlot 7 = .ok (.baload, 1) := by decide +kernel
theorem dX10_freeSlot_8 : decode cX10_freeSlot 8 = .ok (.ifCond .eq 9, 3) := by decide +kernel
theorem dX10_freeSlot_11 : decode cX10_freeSlot 11 = .ok (.iinc 1 1, 3) := by decide +kernel
theorem dX10_freeSlot_14 : decode cX10_freeSlot 14 = .ok (.goto (-12), 3) := by decide +kernel
theorem dX10_freeSlot_0 : decode cX10_freeSlot 0 = .ok (.iconst 0, 1) := by decide +kernel
theorem dX10_freeSlot_1 : decode cX10_freeSlot 1 = .ok (.istore_n 1, 1) := by decide +kernel
theorem dX10_freeSlot_17 : decode cX10_freeSlot 17 = .ok (.iload_n 1, 1) := by decide +kernel
theorem dX10_freeSlot_18 : decode cX10_freeSlot 18 = .ok (.ireturn, 1) := by decide +kernel
theorem dX10_newElement_0 : decode cX10_newElement 0 = .ok (.aload_n 0, 1) := by decide +kernel
theorem dX10_newElement_1 : decode cX10_newElement 1 = .ok (.invokevirtual 140, 3) := by decide +kernel
theorem dX10_newElement_4 : decode cX10_newElement 4 = .ok (.istore_n 2, 1) := by decide +kernel
theorem dX10_newElement_5 : decode cX10_newElement 5 = .ok (.aload_n 0, 1) := by decide +kernel
theorem dX10_newElement_6 : decode cX10_newElement 6 = .ok (.getfield 21, 3) := by decide +kernel
theorem dX10_newElement_9 : decode cX10_newElement 9 = .ok (.iload_n 2, 1) := by decide +kernel
theorem dX10_newElement_10 : decode cX10_newElement 10 = .ok (.iconst 1, 1) := by decide +kernel
theorem dX10_newElement_11 : decode cX10_newElement 11 = .ok (.bastore, 1) := by decide +kernel
theorem dX10_newElement_12 : decode cX10_newElement 12 = .ok (.aload_n 0, 1) := by decide +kernel
theorem dX10_newElement_13 : decode cX10_newElement 13 = .ok (.getfield 25, 3) := by decide +kernel
theorem dX10_newElement_16 : decode cX10_newElement 16 = .ok (.iload_n 2, 1) := by decide +kernel
theorem dX10_newElement_17 : decode cX10_newElement 17 = .ok (.iload_n 1, 1) := by decide +kernel
theorem dX10_newElement_18 : decode cX10_newElement 18 = .ok (.iastore, 1) := by decide +kernel
theorem dX10_newElement_19 : decode cX10_newElement 19 = .ok (.aload_n 0, 1) := by decide +kernel
theorem dX10_newElement_20 : decode cX10_newElement 20 = .ok (.getfield 28, 3) := by decide +kernel
theorem dX10_newElement_23 : decode cX10_newElement 23 = .ok (.iload_n 2, 1) := by decide +kernel
theorem dX10_newElement_24 : decode cX10_newElement 24 = .ok (.iconst 0, 1) := by decide +kernel
theorem dX10_newElement_25 : decode cX10_newElement 25 = .ok (.bastore, 1) := by decide +kernel
theorem dX10_newElement_26 : decode cX10_newElement 26 = .ok (.aload_n 0, 1) := by decide +kernel
theorem dX10_newElement_27 : decode cX10_newElement 27 = .ok (.getfield 31, 3) := by decide +kernel
theorem dX10_newElement_30 : decode cX10_newElement 30 = .ok (.iload_n 2, 1) := by decide +kernel
theorem dX10_newElement_31 : decode cX10_newElement 31 = .ok (.iconst 0, 1) := by decide +kernel
theorem dX10_newElement_32 : decode cX10_newElement 32 = .ok (.iastore, 1) := by decide +kernel
theorem dX10_newElement_33 : decode cX10_newElement 33 = .ok (.aload_n 0, 1) := by decide +kernel
theorem dX10_newElement_34 : decode cX10_newElement 34 = .ok (.getfield 34, 3) := by decide +kernel
theorem dX10_newElement_37 : decode cX10_newElement 37 = .ok (.iload_n 2, 1) := by decide +kernel
theorem dX10_newElement_38 : decode cX10_newElement 38 = .ok (.iconst 0, 1) := by decide +kernel
theorem dX10_newElement_39 : decode cX10_newElement 39 = .ok (.iastore, 1) := by decide +kernel
theorem dX10_newElement_40 : decode cX10_newElement 40 = .ok (.aload_n 0, 1) := by decide +kernel
theorem dX10_newElement_41 : decode cX10_newElement 41 = .ok (.getfield 41, 3) := by decide +kernel
theorem dX10_newElement_44 : decode cX10_newElement 44 = .ok (.iload_n 2, 1) := by decide +kernel
theorem dX10_newElement_45 : decode cX10_newElement 45 = .ok (.iconst 0, 1) := by decide +kernel
theorem dX10_newElement_46 : decode cX10_newElement 46 = .ok (.iastore, 1) := by decide +kernel
theorem dX10_newElement_47 : decode cX10_newElement 47 = .ok (.aload_n 0, 1) := by decide +kernel
theorem dX10_newElement_48 : decode cX10_newElement 48 = .ok (.getfield 17, 3) := by decide +kernel
theorem dX10_newElement_51 : decode cX10_newElement 51 = .ok (.aload_n 0, 1) := by decide +kernel
theorem dX10_newElement_52 : decode cX10_newElement 52 = .ok (.getfield 144, 3) := by decide +kernel
theorem dX10_newElement_55 : decode cX10_newElement 55 = .ok (.iload_n 2, 1) := by decide +kernel
theorem dX10_newElement_56 : decode cX10_newElement 56 = .ok (.iastore, 1) := by decide +kernel
theorem dX10_newElement_57 : decode cX10_newElement 57 = .ok (.aload_n 0, 1) := by decide +kernel
theorem dX10_newElement_58 : decode cX10_newElement 58 = .ok (.dup, 1) := by decide +kernel
theorem dX10_newElement_59 : decode cX10_newElement 59 = .ok (.getfield 144, 3) := by decide +kernel
theorem dX10_newElement_62 : decode cX10_newElement 62 = .ok (.iconst 1, 1) := by decide +kernel
theorem dX10_newElement_63 : decode cX10_newElement 63 = .ok (.iadd, 1) := by decide +kernel
theorem dX10_newElement_64 : decode cX10_newElement 64 = .ok (.putfield 144, 3) := by decide +kernel
theorem dX10_newElement_67 : decode cX10_newElement 67 = .ok (.iload_n 2, 1) := by decide +kernel
theorem dX10_newElement_68 : decode cX10_newElement 68 = .ok (.ireturn, 1) := by decide +kernel
set_option maxHeartbeats 1000000 in
set_option maxRecDepth 100000 in
theorem r_isBlank (l : Launch) (D : va_G) (h0 : Nat) (q : Nat → Nat) (cB cI_ cZ : ClassId) (I : Nat → Int32) (F : Nat → Nat → Int32) (i : Nat) (hi : i < 1200) : cI l D yX10_isBlank cX10_isBlank 2 (some .boolean) 0 0 0 0 [.ref h0, .int (nI i)] zT (mW h0 q cB cI_ cZ I F) (mT cB cI_ cZ) (fun r u => (tx_gap (F 0 i) ∧ r = 1 ∨ ¬ tx_gap (F 0 i) ∧ r = 0) ∧ u = (mW h0 q cB cI_ cZ I F, mT cB cI_ cZ)) := by
  refine q_si (by decide) (Nat.le_of_ble_eq_true rfl) ?_
  intro p e s m below meth c A ls hAe hf hr hlocks hin hK hP hD hS hA hZ hl
  obtain ⟨hx, hb, hml, hown, hts⟩ := id hf
  have hl : lv_has ls 2 [(0, .ref h0), (1, .int (nI i))] := hl
  refine lv_aload_n hx hb dX10_isBlank_0 rfl (lv_at hl 0 rfl) ?_
  refine va_get (D := D) (ci := 11) (v := .ref (q 0)) (C := RX10) (T := TX10) (N := 48) hx hb hts inX10 hown hK hP 0 rfl rfl 0 (by decide) (hts _ k_1144) (fun _ h9 => h9) rfl dX10_isBlank_1 ?_
  refine lv_iload_n hx hb dX10_isBlank_4 rfl (lv_at hl 1 rfl) ?_
  refine q_bld (X := i) (f := (F 0)) hx hb hK hP 1 0 rfl rfl (by omega) (by decide) dX10_isBlank_5 ?_
  refine lv_bipush (v := 32) hx hb dX10_isBlank_6 (by decide) ?_
  refine lv_icmp_eq (tgt := 22) hx hb dX10_isBlank_8 (by decide) (fun c_1 => ?_) (fun c_1 => ?_)
  · refine lv_iconst (v := 1) hx hb dX10_isBlank_22 (by decide) ?_
    refine lv_goto (tgt := 27) hx hb dX10_isBlank_23 (by decide) ?_
    exact q_zi hf hr rfl hlocks hK hP hD hS (Nat.le_of_ble_eq_true rfl) (Nat.le_of_ble_eq_true rfl) ⟨Or.inl ⟨Or.inl c_1, rfl⟩, rfl⟩ dX10_isBlank_27
  · refine lv_aload_n hx hb dX10_isBlank_11 rfl (lv_at hl 0 rfl) ?_
    refine va_get (D := D) (ci := 11) (v := .ref (q 0)) (C := RX10) (T := TX10) (N := 48) hx hb hts inX10 hown hK hP 0 rfl rfl 0 (by decide) (hts _ k_1144) (fun _ h9 => h9) rfl dX10_isBlank_12 ?_
    refine lv_iload_n hx hb dX10_isBlank_15 rfl (lv_at hl 1 rfl) ?_
    refine q_bld (X := i) (f := (F 0)) hx hb hK hP 1 0 rfl rfl (by omega) (by decide) dX10_isBlank_16 ?_
    refine lv_bipush (v := 10) hx hb dX10_isBlank_17 (by decide) ?_
    refine lv_icmp_ne (tgt := 26) hx hb dX10_isBlank_19 (by decide) (fun c_2 => ?_) (fun c_2 => ?_)
    · refine lv_iconst (v := 0) hx hb dX10_isBlank_26 (by decide) ?_
      exact q_zi hf hr rfl hlocks hK hP hD hS (Nat.le_of_ble_eq_true rfl) (Nat.le_of_ble_eq_true rfl) ⟨Or.inr ⟨fun h => h.elim c_1 c_2, rfl⟩, rfl⟩ dX10_isBlank_27
    · refine lv_iconst (v := 1) hx hb dX10_isBlank_22 (by decide) ?_
      refine lv_goto (tgt := 27) hx hb dX10_isBlank_23 (by decide) ?_
      exact q_zi hf hr rfl hlocks hK hP hD hS (Nat.le_of_ble_eq_true rfl) (Nat.le_of_ble_eq_true rfl) ⟨Or.inl ⟨Or.inr c_2, rfl⟩, rfl⟩ dX10_isBlank_27
set_option maxHeartbeats 1000000 in
set_option maxRecDepth 100000 in
theorem ls_free {p : Program} {l : Launch} {e : Env} {R : Room} {s : State} {m : MethodId} {args : Array Value} {below : List Frame} {meth : Method} {c : Code} {cells slots : Nat} {Q : State → Prop} {D : va_G} {A : Nat → Prop} {h0 : Nat} {q : Nat → Nat} {cB cI cZ : ClassId} {I : Nat → Int32} {F : Nat → Nat → Int32} {z : Nat} (hz60 : z < 60) (hz : F 5 z = 0) (hRf : 0 ≤ R.frames) (hRl : 0 ≤ R.locals) (hRc : cells ≤ R.cells) (hRs : slots ≤ R.slots) (hA : ∀ q : Nat, s.heap.size ≤ q → A q) (hf : CallFix p m c cX10_freeSlot 2 s args gT yX10_freeSlot.cls) (hK : va_K D vcl (mT cB cI cZ) s) :
    ∀ (k : Nat) (t : Nat) (H : Heap) (locs : List Loc) (ls : Array Slot), t + k = z → (∀ w, w < t → ¬ F 5 w = 0) →  va_P D vcl (mW h0 q cB cI cZ I F) H → va_D A (mW h0 q cB cI cZ I F) → va_S A s.heap H locs → lv_has ls 2 [(1, .int (nI t)), (0, .ref h0)] →
    (∀ (t : Nat) (H : Heap) (locs : List Loc) (ls : Array Slot), (∀ w, w < t → ¬ F 5 w = 0) → t ≤ z → F 5 t = 0 → va_P D vcl (mW h0 q cB cI cZ I F) H → va_D A (mW h0 q cB cI cZ I F) → va_S A s.heap H locs → lv_has ls 2 [(1, .int (nI t)), (0, .ref h0)] → W p l e R s m args below meth c H locs cells slots Q (F0 m 17 ls [])) →
    W p l e R s m args below meth c H locs cells slots Q (F0 m 2 ls []) := by
  obtain ⟨hx, hb, hml, hown, hts⟩ := id hf
  intro k
  induction k with
  | zero =>
    intro t H locs ls hik hst hP hD hS hl kk
    refine lv_aload_n hx hb dX10_freeSlot_2 rfl (lv_at hl 1 rfl) ?_
    refine va_get (D := D) (ci := 11) (v := .ref (q 5)) (C := RX10) (T := TX10) (N := 48) hx hb hts inX10 hown hK hP 0 rfl rfl 5 (by decide) (hts _ k_1149) (fun _ h9 => h9) rfl dX10_freeSlot_3 ?_
    refine lv_iload_n hx hb dX10_freeSlot_6 rfl (lv_at hl 0 rfl) ?_
    refine q_zld (X := t) (f := (F 5)) hx hb hK hP 3 2 rfl rfl (by omega) (by decide) dX10_freeSlot_7 ?_
    refine lv_if_eq (tgt := 17) hx hb dX10_freeSlot_8 (by decide) (fun c_1 => ?_) (fun c_1 => ?_)
    · exact kk t H locs ls hst (by omega) c_1 hP hD hS (lv_sub hl (l' := [(1, .int (nI t)), (0, .ref h0)]) [0, 1] rfl)
    · refine lv_iinc (v := (nI (t + 1))) (lv' := [(1, .int (nI (t + 1))), (0, .ref h0)]) hx hb dX10_freeSlot_11 hl (k := 0) rfl (nI_add t 1) (by decide) rfl (fun ls hl => ?_)
      refine lv_goto (tgt := 2) hx hb dX10_freeSlot_14 (by decide) ?_
      exact absurd (show F 5 t = 0 by rw [show t = z by omega]; exact hz) c_1
  | succ k ih =>
    intro t H locs ls hik hst hP hD hS hl kk
    refine lv_aload_n hx hb dX10_freeSlot_2 rfl (lv_at hl 1 rfl) ?_
    refine va_get (D := D) (ci := 11) (v := .ref (q 5)) (C := RX10) (T := TX10) (N := 48) hx hb hts inX10 hown hK hP 0 rfl rfl 5 (by decide) (hts _ k_1149) (fun _ h9 => h9) rfl dX10_freeSlot_3 ?_
    refine lv_iload_n hx hb dX10_freeSlot_6 rfl (lv_at hl 0 rfl) ?_
    refine q_zld (X := t) (f := (F 5)) hx hb hK hP 3 2 rfl rfl (by omega) (by decide) dX10_freeSlot_7 ?_
    refine lv_if_eq (tgt := 17) hx hb dX10_freeSlot_8 (by decide) (fun c_1 => ?_) (fun c_1 => ?_)
    · exact kk t H locs ls hst (by omega) c_1 hP hD hS (lv_sub hl (l' := [(1, .int (nI t)), (0, .ref h0)]) [0, 1] rfl)
    · refine lv_iinc (v := (nI (t + 1))) (lv' := [(1, .int (nI (t + 1))), (0, .ref h0)]) hx hb dX10_freeSlot_11 hl (k := 0) rfl (nI_add t 1) (by decide) rfl (fun ls hl => ?_)
      refine lv_goto (tgt := 2) hx hb dX10_freeSlot_14 (by decide) ?_
      exact ih (t + 1) H locs ls (by omega) (fun w hw => (Nat.lt_succ_iff_lt_or_eq.mp hw).elim (hst w) (fun e9 => by rw [e9]; exact c_1)) hP hD hS (lv_sub hl (l' := [(1, .int (nI (t + 1))), (0, .ref h0)]) [0, 1] rfl) kk
set_option maxHeartbeats 1000000 in
set_option maxRecDepth 100000 in
theorem r_freeSlot (l : Launch) (D : va_G) (h0 : Nat) (q : Nat → Nat) (cB cI_ cZ : ClassId) (I : Nat → Int32) (F : Nat → Nat → Int32) (z : Nat) (hz60 : z < 60) (hz : F 5 z = 0) : cI l D yX10_freeSlot cX10_freeSlot 2 (some .int) 0 0 0 0 [.ref h0] zT (mW h0 q cB cI_ cZ I F) (mT cB cI_ cZ) (fun r u => ∃ t : Nat, r = nI t ∧ ((∀ w, w < t → ¬ F 5 w = 0) ∧ t ≤ z ∧ F 5 t = 0) ∧ u = (mW h0 q cB cI_ cZ I F, mT cB cI_ cZ)) := by
  refine q_si (by decide) (Nat.le_of_ble_eq_true rfl) ?_
  intro p e s m below meth c A ls hAe hf hr hlocks hin hK hP hD hS hA hZ hl
  obtain ⟨hx, hb, hml, hown, hts⟩ := id hf
  have hl : lv_has ls 2 [(0, .ref h0)] := hl
  refine lv_iconst (v := 0) hx hb dX10_freeSlot_0 (by decide) ?_
  refine lv_istore_n (lv' := [(1, .int 0), (0, .ref h0)]) hx hb dX10_freeSlot_1 rfl hl (by decide) rfl (fun ls hl => ?_)
  refine ls_free (z := z) hz60 hz (Nat.le_of_ble_eq_true rfl) (Nat.le_of_ble_eq_true rfl) (Nat.le_of_ble_eq_true rfl) (Nat.le_of_ble_eq_true rfl) hA hf hK z 0 _ _ ls (by omega) (fun w hw => absurd hw (Nat.not_lt_zero w)) hP hD hS (lv_sub hl (l' := [(1, .int 0), (0, .ref h0)]) [0, 1] rfl) (fun t H locs ls h1 h2 h3 hP hD hS hl => ?_)
  refine lv_iload_n hx hb dX10_freeSlot_17 rfl (lv_at hl 0 rfl) ?_
  exact q_zi hf hr rfl hlocks hK hP hD hS (Nat.le_of_ble_eq_true rfl) (Nat.le_of_ble_eq_true rfl) ⟨t, rfl, ⟨h1, h2, h3⟩, rfl⟩ dX10_freeSlot_18
set_option maxHeartbeats 1000000 in
set_option maxRecDepth 100000 in
theorem r_newElement (l : Launch) (D : va_G) (h0 : Nat) (q : Nat → Nat) (cB cI_ cZ : ClassId) (I : Nat → Int32) (F : Nat → Nat → Int32) (z en : Nat) (x1 : Int32) (hz60 : z < 60) (hz : F 5 z = 0) (hI3 : I 3 = nI en) (he : en < 60) : cI l D yX10_newElement cX10_newElement 3 (some .int) 1 21 0 0 [.ref h0, .int x1] zT (mW h0 q cB cI_ cZ I F) (mT cB cI_ cZ) (fun r u => ∃ t : Nat, r = nI t ∧ ((∀ w, w < t → ¬ F 5 w = 0) ∧ t ≤ z ∧ F 5 t = 0) ∧ u = (mW h0 q cB cI_ cZ (upd I 3 (nI (en + 1))) (va_up (va_up (va_up (va_up (va_up (va_up (va_up F 4 (upd (F 4) en (nI t))) 5 (upd (F 5) t (vp_nar .boolean 1))) 6 (upd (F 6) t x1)) 7 (upd (F 7) t (vp_nar .boolean 0))) 8 (upd (F 8) t 0)) 9 (upd (F 9) t 0)) 11 (upd (F 11) t 0)), mT cB cI_ cZ)) := by
  refine q_si (by decide) (Nat.le_of_ble_eq_true rfl) ?_
  intro p e s m below meth c A ls hAe hf hr hlocks hin hK hP hD hS hA hZ hl
  obtain ⟨hx, hb, hml, hown, hts⟩ := id hf
  have hl : lv_has ls 3 [(0, .ref h0), (1, .int x1)] := hl
  refine lv_aload_n hx hb dX10_newElement_0 rfl (lv_at hl 0 rfl) ?_
  refine q_ci (k := 0) (n := 0) hK hP hD hS hA (fun hPc hKc hDc => q_rV (As := []) (rest := []) hf (r_freeSlot _ D h0 q cB cI_ cZ I F z hz60 hz _) k_1336 k_1333 k_1335 k_53 k_98 (nA := 0) (by decide +kernel) ⟨Nat.le_of_ble_eq_true rfl, Nat.le_of_ble_eq_true rfl⟩ hK hP (ci := 11) (q0 := 0) rfl rfl rfl hPc hKc hDc (fun _ _ _ _ h => h) (fun _ _ _ => trivial) rfl hl.1 rfl (Nat.le_of_ble_eq_true rfl) dX10_newElement_1 ⟨Nat.le_of_ble_eq_true rfl, Nat.le_of_ble_eq_true rfl⟩) (by decide) (by decide) (fun r u H locs hw hK hP hD hS => ?_)
  obtain ⟨t, rfl, ⟨h1, h2, h3⟩, rfl⟩ := hw
  have hP : va_P D vcl (mW h0 q cB cI_ cZ I F) H := hP
  have hD : va_D A (mW h0 q cB cI_ cZ I F) := hD
  refine lv_istore_n (lv' := [(2, .int (nI t)), (0, .ref h0), (1, .int x1)]) hx hb dX10_newElement_4 rfl hl (by decide) rfl (fun ls hl => ?_)
  refine lv_aload_n hx hb dX10_newElement_5 rfl (lv_at hl 1 rfl) ?_
  refine va_get (D := D) (ci := 11) (v := .ref (q 5)) (C := RX10) (T := TX10) (N := 48) hx hb hts inX10 hown hK hP 0 rfl rfl 5 (by decide) (hts _ k_1149) (fun _ h9 => h9) rfl dX10_newElement_6 ?_
  refine lv_iload_n hx hb dX10_newElement_9 rfl (lv_at hl 0 rfl) ?_
  refine lv_iconst (v := 1) hx hb dX10_newElement_10 (by decide) ?_
  refine q_zst (X := t) (f := (F 5)) (x := 1) hx hb hK hP hD hS 3 2 rfl rfl (by omega) (by decide) dX10_newElement_11 (fun H locs hP hD hS => ?_)
  have hP : va_P D vcl (mW h0 q cB cI_ cZ I (va_up F 5 (upd (F 5) t (vp_nar .boolean 1)))) H := hP
  have hD : va_D A (mW h0 q cB cI_ cZ I (va_up F 5 (upd (F 5) t (vp_nar .boolean 1)))) := hD
  refine lv_aload_n hx hb dX10_newElement_12 rfl (lv_at hl 1 rfl) ?_
  refine va_get (D := D) (ci := 11) (v := .ref (q 6)) (C := RX10) (T := TX10) (N := 48) hx hb hts inX10 hown hK hP 0 rfl rfl 6 (by decide) (hts _ k_1150) (fun _ h9 => h9) rfl dX10_newElement_13 ?_
  refine lv_iload_n hx hb dX10_newElement_16 rfl (lv_at hl 0 rfl) ?_
  refine lv_iload_n hx hb dX10_newElement_17 rfl (lv_at hl 2 rfl) ?_
  refine q_ist (X := t) (f := (F 6)) (x := x1) hx hb hK hP hD hS 4 1 rfl rfl (by omega) (by decide) dX10_newElement_18 (fun H locs hP hD hS => ?_)
  have hP : va_P D vcl (mW h0 q cB cI_ cZ I (va_up (va_up F 5 (upd (F 5) t (vp_nar .boolean 1))) 6 (upd (F 6) t x1))) H := hP
  have hD : va_D A (mW h0 q cB cI_ cZ I (va_up (va_up F 5 (upd (F 5) t (vp_nar .boolean 1))) 6 (upd (F 6) t x1))) := hD
  refine lv_aload_n hx hb dX10_newElement_19 rfl (lv_at hl 1 rfl) ?_
  refine va_get (D := D) (ci := 11) (v := .ref (q 7)) (C := RX10) (T := TX10) (N := 48) hx hb hts inX10 hown hK hP 0 rfl rfl 7 (by decide) (hts _ k_1151) (fun _ h9 => h9) rfl dX10_newElement_20 ?_
  refine lv_iload_n hx hb dX10_newElement_23 rfl (lv_at hl 0 rfl) ?_
  refine lv_iconst (v := 0) hx hb dX10_newElement_24 (by decide) ?_
  refine q_zst (X := t) (f := (F 7)) (x := 0) hx hb hK hP hD hS 5 2 rfl rfl (by omega) (by decide) dX10_newElement_25 (fun H locs hP hD hS => ?_)
  have hP : va_P D vcl (mW h0 q cB cI_ cZ I (va_up (va_up (va_up F 5 (upd (F 5) t (vp_nar .boolean 1))) 6 (upd (F 6) t x1)) 7 (upd (F 7) t (vp_nar .boolean 0)))) H := hP
  have hD : va_D A (mW h0 q cB cI_ cZ I (va_up (va_up (va_up F 5 (upd (F 5) t (vp_nar .boolean 1))) 6 (upd (F 6) t x1)) 7 (upd (F 7) t (vp_nar .boolean 0)))) := hD
  refine lv_aload_n hx hb dX10_newElement_26 rfl (lv_at hl 1 rfl) ?_
  refine va_get (D := D) (ci := 11) (v := .ref (q 8)) (C := RX10) (T := TX10) (N := 48) hx hb hts inX10 hown hK hP 0 rfl rfl 8 (by decide) (hts _ k_1152) (fun _ h9 => h9) rfl dX10_newElement_27 ?_
  refine lv_iload_n hx hb dX10_newElement_30 rfl (lv_at hl 0 rfl) ?_
  refine lv_iconst (v := 0) hx hb dX10_newElement_31 (by decide) ?_
  refine q_ist (X := t) (f := (F 8)) (x := 0) hx hb hK hP hD hS 6 1 rfl rfl (by omega) (by decide) dX10_newElement_32 (fun H locs hP hD hS => ?_)
  have hP : va_P D vcl (mW h0 q cB cI_ cZ I (va_up (va_up (va_up (va_up F 5 (upd (F 5) t (vp_nar .boolean 1))) 6 (upd (F 6) t x1)) 7 (upd (F 7) t (vp_nar .boolean 0))) 8 (upd (F 8) t 0))) H := hP
  have hD : va_D A (mW h0 q cB cI_ cZ I (va_up (va_up (va_up (va_up F 5 (upd (F 5) t (vp_nar .boolean 1))) 6 (upd (F 6) t x1)) 7 (upd (F 7) t (vp_nar .boolean 0))) 8 (upd (F 8) t 0))) := hD
  refine lv_aload_n hx hb dX10_newElement_33 rfl (lv_at hl 1 rfl) ?_
  refine va_get (D := D) (ci := 11) (v := .ref (q 9)) (C := RX10) (T := TX10) (N := 48) hx hb hts inX10 hown hK hP 0 rfl rfl 9 (by decide) (hts _ k_1153) (fun _ h9 => h9) rfl dX10_newElement_34 ?_
  refine lv_iload_n hx hb dX10_newElement_37 rfl (lv_at hl 0 rfl) ?_
  refine lv_iconst (v := 0) hx hb dX10_newElement_38 (by decide) ?_
  refine q_ist (X := t) (f := (F 9)) (x := 0) hx hb hK hP hD hS 7 1 rfl rfl (by omega) (by decide) dX10_newElement_39 (fun H locs hP hD hS => ?_)
  have hP : va_P D vcl (mW h0 q cB cI_ cZ I (va_up (va_up (va_up (va_up (va_up F 5 (upd (F 5) t (vp_nar .boolean 1))) 6 (upd (F 6) t x1)) 7 (upd (F 7) t (vp_nar .boolean 0))) 8 (upd (F 8) t 0)) 9 (upd (F 9) t 0))) H := hP
  have hD : va_D A (mW h0 q cB cI_ cZ I (va_up (va_up (va_up (va_up (va_up F 5 (upd (F 5) t (vp_nar .boolean 1))) 6 (upd (F 6) t x1)) 7 (upd (F 7) t (vp_nar .boolean 0))) 8 (upd (F 8) t 0)) 9 (upd (F 9) t 0))) := hD
  refine lv_aload_n hx hb dX10_newElement_40 rfl (lv_at hl 1 rfl) ?_
  refine va_get (D := D) (ci := 11) (v := .ref (q 11)) (C := RX10) (T := TX10) (N := 48) hx hb hts inX10 hown hK hP 0 rfl rfl 11 (by decide) (hts _ k_1155) (fun _ h9 => h9) rfl dX10_newElement_41 ?_
  refine lv_iload_n hx hb dX10_newElement_44 rfl (lv_at hl 0 rfl) ?_
  refine lv_iconst (v := 0) hx hb dX10_newElement_45 (by decide) ?_
  refine q_ist (X := t) (f := (F 11)) (x := 0) hx hb hK hP hD hS 9 1 rfl rfl (by omega) (by decide) dX10_newElement_46 (fun H locs hP hD hS => ?_)
  have hP : va_P D vcl (mW h0 q cB cI_ cZ I (va_up (va_up (va_up (va_up (va_up (va_up F 5 (upd (F 5) t (vp_nar .boolean 1))) 6 (upd (F 6) t x1)) 7 (upd (F 7) t (vp_nar .boolean 0))) 8 (upd (F 8) t 0)) 9 (upd (F 9) t 0)) 11 (upd (F 11) t 0))) H := hP
  have hD : va_D A (mW h0 q cB cI_ cZ I (va_up (va_up (va_up (va_up (va_up (va_up F 5 (upd (F 5) t (vp_nar .boolean 1))) 6 (upd (F 6) t x1)) 7 (upd (F 7) t (vp_nar .boolean 0))) 8 (upd (F 8) t 0)) 9 (upd (F 9) t 0)) 11 (upd (F 11) t 0))) := hD
  refine lv_aload_n hx hb dX10_newElement_47 rfl (lv_at hl 1 rfl) ?_
  refine va_get (D := D) (ci := 11) (v := .ref (q 4)) (C := RX10) (T := TX10) (N := 48) hx hb hts inX10 hown hK hP 0 rfl rfl 4 (by decide) (hts _ k_1148) (fun _ h9 => h9) rfl dX10_newElement_48 ?_
  refine lv_aload_n hx hb dX10_newElement_51 rfl (lv_at hl 1 rfl) ?_
  refine va_get (D := D) (ci := 11) (v := .int (I 3)) (C := RX10) (T := TX10) (N := 48) hx hb hts inX10 hown hK hP 0 rfl rfl 3 (by decide) (hts _ k_1147) (fun _ h9 => h9) rfl dX10_newElement_52 ?_
  refine q_seti (y := (nI en)) hI3 ?_
  refine lv_iload_n hx hb dX10_newElement_55 rfl (lv_at hl 0 rfl) ?_
  refine q_ist (X := en) (f := (F 4)) (x := (nI t)) hx hb hK hP hD hS 2 1 rfl rfl (by omega) (by decide) dX10_newElement_56 (fun H locs hP hD hS => ?_)
  have hP : va_P D vcl (mW h0 q cB cI_ cZ I (va_up (va_up (va_up (va_up (va_up (va_up (va_up F 4 (upd (F 4) en (nI t))) 5 (upd (F 5) t (vp_nar .boolean 1))) 6 (upd (F 6) t x1)) 7 (upd (F 7) t (vp_nar .boolean 0))) 8 (upd (F 8) t 0)) 9 (upd (F 9) t 0)) 11 (upd (F 11) t 0))) H := hP
  have hD : va_D A (mW h0 q cB cI_ cZ I (va_up (va_up (va_up (va_up (va_up (va_up (va_up F 4 (upd (F 4) en (nI t))) 5 (upd (F 5) t (vp_nar .boolean 1))) 6 (upd (F 6) t x1)) 7 (upd (F 7) t (vp_nar .boolean 0))) 8 (upd (F 8) t 0)) 9 (upd (F 9) t 0)) 11 (upd (F 11) t 0))) := hD
  refine lv_aload_n hx hb dX10_newElement_57 rfl (lv_at hl 1 rfl) ?_
  refine lv_dup hx hb dX10_newElement_58 rfl ?_
  refine va_get (D := D) (ci := 11) (v := .int (I 3)) (C := RX10) (T := TX10) (N := 48) hx hb hts inX10 hown hK hP 0 rfl rfl 3 (by decide) (hts _ k_1147) (fun _ h9 => h9) rfl dX10_newElement_59 ?_
  refine q_seti (y := (nI en)) hI3 ?_
  refine lv_iconst (v := 1) hx hb dX10_newElement_62 (by decide) ?_
  refine lv_iadd hx hb dX10_newElement_63 ?_
  refine q_seti (y := nI (en + 1)) (nI_add en 1) ?_
  refine va_put (D := D) (ci := 11) (v := .int (nI (en + 1))) (ty := .int) (C := RX10) (T := TX10) (N := 48) hx hb hts inX10 tyX10 tyX10_ok nmX10 hown hK hP hD hS 0 rfl rfl 3 (by decide) (hts _ k_1147) (fun _ h9 => h9) rfl (by decide +kernel) rfl rfl (Nat.le_of_ble_eq_true rfl) dX10_newElement_64 (fun H locs hP hD hS => ?_)
  have hP : va_P D vcl (mW h0 q cB cI_ cZ (upd I 3 (nI (en + 1))) (va_up (va_up (va_up (va_up (va_up (va_up (va_up F 4 (upd (F 4) en (nI t))) 5 (upd (F 5) t (vp_nar .boolean 1))) 6 (upd (F 6) t x1)) 7 (upd (F 7) t (vp_nar .boolean 0))) 8 (upd (F 8) t 0)) 9 (upd (F 9) t 0)) 11 (upd (F 11) t 0))) H := hP
  have hD : va_D A (mW h0 q cB cI_ cZ (upd I 3 (nI (en + 1))) (va_up (va_up (va_up (va_up (va_up (va_up (va_up F 4 (upd (F 4) en (nI t))) 5 (upd (F 5) t (vp_nar .boolean 1))) 6 (upd (F 6) t x1)) 7 (upd (F 7) t (vp_nar .boolean 0))) 8 (upd (F 8) t 0)) 9 (upd (F 9) t 0)) 11 (upd (F 11) t 0))) := hD
  refine lv_iload_n hx hb dX10_newElement_67 rfl (lv_at hl 0 rfl) ?_
  exact q_zi hf hr rfl hlocks hK hP hD hS (Nat.le_of_ble_eq_true rfl) (Nat.le_of_ble_eq_true rfl) ⟨t, rfl, ⟨h1, h2, h3⟩, rfl⟩ dX10_newElement_68
