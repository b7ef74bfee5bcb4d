/-- the pieces as the rows tell them: kind, from, to, rows of the element -/
def rp_ok (F : Nat → Nat → Int32) (pn : Nat) (pe sl : Nat → Nat) (K : Nat → Int32) (Fm To Rr : Nat → Nat) : Prop := pn ≤ 8000 ∧ ∀ p, p < pn → F 15 p = nI (pe p) ∧ pe p < 60 ∧ F 4 (pe p) = nI (sl p) ∧ sl p < 60 ∧ F 6 (sl p) = K p ∧ F 11 (sl p) = nI (Rr p) ∧ F 16 p = nI (Fm p) ∧ F 17 p = nI (To p) ∧ Fm p < To p ∧ To p ≤ Rr p ∧ Rr p ≤ 121
def rp_he (kd : Int32) (fm : Nat) : Prop := ¬ kd = 3 ∧ ¬ kd = 4 ∧ fm = 0
def rp_ra (kd : Int32) (fm p r fi : Nat) : Prop := kd = 4 ∧ (0 < r ∨ (p = fi ∧ 0 < fm))
def rp_rb (kd : Int32) (fm to_ rr p r en : Nat) : Prop := kd = 4 ∧ (r < to_ - fm ∨ (p + 1 = en ∧ to_ < rr))
def rp_me (kd : Int32) (z bp br p r en : Nat) : Prop := (r = z ∧ (p + 1 = en ∨ (¬ kd = 0 ∧ ¬ kd = 2 ∧ ¬ kd = 3))) ∨ (¬ r = z ∧ (kd = 5 ∨ kd = 4) ∧ ((p = bp ∧ br + 2 ≤ r) ∨ (¬ p = bp ∧ 2 ≤ r)) ∧ r + 2 ≤ z)
abbrev cX10_hasEmptyAhead : ByteArray := prog_12_method_28_code
def yX10_hasEmptyAhead : MethodName := ⟨RX10, "hasEmptyAhead", "(I)Z"⟩
abbrev cX10_kindOf : ByteArray := prog_12_method_26_code
def yX10_kindOf : MethodName := ⟨RX10, "kindOf", "(I)I"⟩
abbrev cX10_mayEnd : ByteArray := prog_12_method_31_code
def yX10_mayEnd : MethodName := ⟨RX10, "mayEnd", "(IIIII)Z"⟩
abbrev cX10_rowsAhead : ByteArray := prog_12_method_29_code
def yX10_rowsAhead : MethodName := ⟨RX10, "rowsAhead", "(III)I"⟩
abbrev cX10_rowsBehind : ByteArray := prog_12_method_30_code
def yX10_rowsBehind : MethodName := ⟨RX10, "rowsBehind", "(III)I"⟩
abbrev cX10_size : ByteArray := prog_12_method_27_code
def yX10_size : MethodName := ⟨RX10, "size", "(I)I"⟩
theorem k_62 : (Cond.selects RX10 yX10_size yX10_size) ∈ gT := gT_i 62 (by decide +kernel) rfl
theorem k_65 : (Cond.selects RX10 yX10_kindOf yX10_kindOf) ∈ gT := gT_i 65 (by decide +kernel) rfl
theorem k_1388 : (Cond.methodLink RX10 198 yX10_size) ∈ gT := gT_i 1388 (by decide +kernel) rfl
theorem k_1390 : (Cond.instanceMethod yX10_size) ∈ gT := gT_i 1390 (by decide +kernel) rfl
theorem k_1391 : (Cond.code yX10_size cX10_size 2 (some .int)) ∈ gT := gT_i 1391 (by decide +kernel) rfl
theorem k_1400 : (Cond.methodLink RX10 195 yX10_kindOf) ∈ gT := gT_i 1400 (by decide +kernel) rfl
theorem k_1402 : (Cond.instanceMethod yX10_kindOf) ∈ gT := gT_i 1402 (by decide +kernel) rfl
theorem k_1403 : (Cond.code yX10_kindOf cX10_kindOf 2 (some .int)) ∈ gT := gT_i 1403 (by decide +kernel) rfl
theorem dX10_kindOf_0 : decode cX10_kindOf 0 = .ok (.aload_n 0, 1) := by decide +kernel
theorem dX10_kindOf_1 : decode cX10_kindOf 1 = .ok (.getfield 25, 3) := by decide +kernel
theorem dX10_kindOf_4 : decode cX10_kindOf 4 = .ok (.aload_n 0, 1) := by decide +kernel
theorem dX10_kindOf_5 : decode cX10_kindOf 5 = .ok (.getfield 17, 3) := by decide +kernel
theorem dX10_kindOf_8 : decode cX10_kindOf 8 = .ok (.aload_n 0, 1) := by decide +kernel
theorem dX10_kindOf_9 : decode cX10_kindOf 9 = .ok (.getfield 50, 3) := by decide +kernel
theorem dX10_kindOf_12 : decode cX10_kindOf 12 = .ok (.iload_n 1, 1) := by decide +kernel
theorem dX10_kindOf_13 : decode cX10_kindOf 13 = .ok (.iaload, 1) := by decide +kernel
theorem dX10_kindOf_14 : decode cX10_kindOf 14 = .ok (.iaload, 1) := by decide +kernel
theorem dX10_kindOf_15 : decode cX10_kindOf 15 = .ok (.iaload, 1) := by decide +kernel
theorem dX10_kindOf_16 : decode cX10_kindOf 16 = .ok (.ireturn, 1) := by decide +kernel
theorem dX10_size_0 : decode cX10_size 0 = .ok (.aload_n 0, 1) := by decide +kernel
theorem dX10_size_1 : decode cX10_size 1 = .ok (.getfield 56, 3) := by decide +kernel
theorem dX10_size_4 : decode cX10_size 4 = .ok (.iload_n 1, 1) := by decide +kernel
theorem dX10_size_5 : decode cX10_size 5 = .ok (.iaload, 1) := by decide +kernel
theorem dX10_size_6 : decode cX10_size 6 = .ok (.aload_n 0, 1) := by decide +kernel
theorem dX10_size_7 : decode cX10_size 7 = .ok (.getfield 53, 3) := by decide +kernel
theorem dX10_size_10 : decode cX10_size 10 = .ok (.iload_n 1, 1) := by decide +kernel
theorem dX10_size_11 : decode cX10_size 11 = .ok (.iaload, 1) := by decide +kernel
theorem dX10_size_12 : decode cX10_size 12 = .ok (.isub, 1) := by decide +kernel
theorem dX10_size_13 : decode cX10_size 13 = .ok (.ireturn, 1) := by decide +kernel
theorem dX10_hasEmptyAhead_0 : decode cX10_hasEmptyAhead 0 = .ok (.aload_n 0, 1) := by decide +kernel
theorem dX10_hasEmptyAhead_1 : decode cX10_hasEmptyAhead 1 = .ok (.iload_n 1, 1) := by decide +kernel
theorem dX10_hasEmptyAhead_2 : decode cX10_hasEmptyAhead 2 = .ok (.invokevirtual 195, 3) := by decide +kernel
theorem dX10_hasEmptyAhead_5 : decode cX10_hasEmptyAhead 5 = .ok (.iconst 3, 1) := by decide +kernel
theorem dX10_hasEmptyAhead_6 : decode cX10_hasEmptyAhead 6 = .ok (.if_icmp .eq 25, 3) := by decide +kernel
theorem dX10_hasEmptyAhead_31 : decode cX10_hasEmptyAhead 31 = .ok (.iconst 0, 1) := by decide +kernel
theorem dX10_hasEmptyAhead_32 : decode cX10_hasEmptyAhead 32 = .ok (.ireturn, 1) := by decide +kernel
theorem dX10_hasEmptyAhead_9 : decode cX10_hasEmptyAhead 9 = .ok (.aload_n 0, 1) := by decide +kernel
theorem dX10_hasEmptyAhead_10 : decode cX10_hasEmptyAhead 10 = .ok (.iload_n 1, 1) := by decide +kernel
theorem dX10_hasEmptyAhead_11 : decode cX10_hasEmptyAhead 11 = .ok (.invokevirtual 195, 3) := by decide +kernel
theorem dX10_hasEmptyAhead_14 : decode cX10_hasEmptyAhead 14 = .ok (.iconst 4, 1) := by decide +kernel
theorem dX10_hasEmptyAhead_15 : decode cX10_hasEmptyAhead 15 = .ok (.if_icmp .eq 16, 3) := by decide +kernel
theorem dX10_hasEmptyAhead_18 : decode cX10_hasEmptyAhead 18 = .ok (.aload_n 0, 1) := by decide +kernel
theorem dX10_hasEmptyAhead_19 : decode cX10_hasEmptyAhead 19 = .ok (.getfield 53, 3) := by decide +kernel
theorem dX10_hasEmptyAhead_22 : decode cX10_hasEmptyAhead 22 = .ok (.iload_n 1, 1) := by decide +kernel
theorem dX10_hasEmptyAhead_23 : decode cX10_hasEmptyAhead 23 = .ok (.iaload, 1) := by decide +kernel
theorem dX10_hasEmptyAhead_24 : decode cX10_hasEmptyAhead 24 = .ok (.ifCond .ne 7, 3) := by decide +kernel
theorem dX10_hasEmptyAhead_27 : decode cX10_hasEmptyAhead 27 = .ok (.iconst 1, 1) := by decide +kernel
theorem dX10_hasEmptyAhead_28 : decode cX10_hasEmptyAhead 28 = .ok (.goto 4, 3) := by decide +kernel
theorem dX10_rowsAhead_0 : decode cX10_rowsAhead 0 = .ok (.aload_n 0, 1) := by decide +kernel
theorem dX10_rowsAhead_1 : decode cX10_rowsAhead 1 = .ok (.iload_n 1, 1) := by decide +kernel
theorem dX10_rowsAhead_2 : decode cX10_rowsAhead 2 = .ok (.invokevirtual 195, 3) := by decide +kernel
theorem dX10_rowsAhead_5 : decode cX10_rowsAhead 5 = .ok (.iconst 4, 1) := by decide +kernel
theorem dX10_rowsAhead_6 : decode cX10_rowsAhead 6 = .ok (.if_icmp .ne 25, 3) := by decide +kernel
theorem dX10_rowsAhead_31 : decode cX10_rowsAhead 31 = .ok (.iconst 0, 1) := by decide +kernel
theorem dX10_rowsAhead_32 : decode cX10_rowsAhead 32 = .ok (.ireturn, 1) := by decide +kernel
theorem dX10_rowsAhead_9 : decode cX10_rowsAhead 9 = .ok (.iload_n 2, 1) := by decide +kernel
theorem dX10_rowsAhead_10 : decode cX10_rowsAhead 10 = .ok (.ifCond .gt 17, 3) := by decide +kernel
theorem dX10_rowsAhead_27 : decode cX10_rowsAhead 27 = .ok (.iconst 1, 1) := by decide +kernel
theorem dX10_rowsAhead_28 : decode cX10_rowsAhead 28 = .ok (.goto 4, 3) := by decide +kernel
theorem dX10_rowsAhead_13 : decode cX10_rowsAhead 13 = .ok (.iload_n 1, 1) := by decide +kernel
theorem dX10_rowsAhead_14 : decode cX10_rowsAhead 14 = .ok (.iload_n 3, 1) := by decide +kernel
theorem dX10_rowsAhead_15 : decode cX10_rowsAhead 15 = .ok (.if_icmp .ne 16, 3) := by decide +kernel
theorem dX10_rowsAhead_18 : decode cX10_rowsAhead 18 = .ok (.aload_n 0, 1) := by decide +kernel
theorem dX10_rowsAhead_19 : decode cX10_rowsAhead 19 = .ok (.getfield 53, 3) := by decide +kernel
theorem dX10_rowsAhead_22 : decode cX10_rowsAhead 22 = .ok (.iload_n 1, 1) := by decide +kernel
theorem dX10_rowsAhead_23 : decode cX10_rowsAhead 23 = .ok (.iaload, 1) := by decide +kernel
theorem dX10_rowsAhead_24 : decode cX10_rowsAhead 24 = .ok (.ifCond .le 7, 3) := by decide +kernel
theorem dX10_rowsBehind_0 : decode cX10_rowsBehind 0 = .ok (.iload_n 2, 1) := by decide +kernel
theorem dX10_rowsBehind_1 : decode cX10_rowsBehind 1 = .ok (.aload_n 0, 1) := by decide +kernel
theorem dX10_rowsBehind_2 : decode cX10_rowsBehind 2 = .ok (.iload_n 1, 1) := by decide +kernel
theorem dX10_rowsBehind_3 : decode cX10_rowsBehind 3 = .ok (.invokevirtual 198, 3) := by decide +kernel
theorem dX10_rowsBehind_6 : decode cX10_rowsBehind 6 = .ok (.if_icmp .lt 35, 3) := by decide +kernel
theorem dX10_rowsBehind_41 : decode cX10_rowsBehind 41 = .ok (.iconst 1, 1) := by decide +kernel
theorem dX10_rowsBehind_42 : decode cX10_rowsBehind 42 = .ok (.goto 4, 3) := by decide +kernel
theorem dX10_rowsBehind_46 : decode cX10_rowsBehind 46 = .ok (.istore 4, 2) := by decide +kernel
theorem dX10_rowsBehind_48 : decode cX10_rowsBehind 48 = .ok (.aload_n 0, 1) := by decide +kernel
theorem dX10_rowsBehind_49 : decode cX10_rowsBehind 49 = .ok (.iload_n 1, 1) := by decide +kernel
theorem dX10_rowsBehind_50 : decode cX10_rowsBehind 50 = .ok (.invokevirtual 195, 3) := by decide +kernel
theorem dX10_rowsBehind_53 : decode cX10_rowsBehind 53 = .ok (.iconst 4, 1) := by decide +kernel
theorem dX10_rowsBehind_54 : decode cX10_rowsBehind 54 = .ok (.if_icmp .ne 12, 3) := by decide +kernel
theorem dX10_rowsBehind_66 : decode cX10_rowsBehind 66 = .ok (.iconst 0, 1) := by decide +kernel
theorem dX10_rowsBehind_67 : decode cX10_rowsBehind 67 = .ok (.ireturn, 1) := by decide +kernel
theorem dX10_rowsBehind_57 : decode cX10_rowsBehind 57 = .ok (.iload 4, 2) := by decide +kernel
theorem dX10_rowsBehind_59 : decode cX10_rowsBehind 59 = .ok (.ifCond .eq 7, 3) := by decide +kernel
theorem dX10_rowsBehind_62 : decode cX10_rowsBehind 62 = .ok (.iconst 1, 1) := by decide +kernel
theorem dX10_rowsBehind_63 : decode cX10_rowsBehind 63 = .ok (.goto 4, 3) := by decide +kernel
theorem dX10_rowsBehind_9 : decode cX10_rowsBehind 9 = .ok (.iload_n 1, 1) := by decide +kernel
theorem dX10_rowsBehind_10 : decode cX10_rowsBehind 10 = .ok (.iload_n 3, 1) := by decide +kernel
theorem dX10_rowsBehind_11 : decode cX10_rowsBehind 11 = .ok (.iconst 1, 1) := by decide +kernel
theorem dX10_rowsBehind_12 : decode cX10_rowsBehind 12 = .ok (.isub, 1) := by decide +kernel
theorem dX10_rowsBehind_13 : decode cX10_rowsBehind 13 = .ok (.if_icmp .ne 32, 3) := by decide +kernel
theorem dX10_rowsBehind_45 : decode cX10_rowsBehind 45 = .ok (.iconst 0, 1) := by decide +kernel
theorem dX10_rowsBehind_16 : decode cX10_rowsBehind 16 = .ok (.aload_n 0, 1) := by decide +kernel
theorem dX10_rowsBehind_17 : decode cX10_rowsBehind 17 = .ok (.getfield 56, 3) := by decide +kernel
theorem dX10_rowsBehind_20 : decode cX10_rowsBehind 20 = .ok (.iload_n 1, 1) := by decide +kernel
theorem dX10_rowsBehind_21 : decode cX10_rowsBehind 21 = .ok (.iaload, 1) := by decide +kernel
theorem dX10_rowsBehind_22 : decode cX10_rowsBehind 22 = .ok (.aload_n 0, 1) := by decide +kernel
theorem dX10_rowsBehind_23 : decode cX10_rowsBehind 23 = .ok (.getfield 41, 3) := by decide +kernel
theorem dX10_rowsBehind_26 : decode cX10_rowsBehind 26 = .ok (.aload_n 0, 1) := by decide +kernel
theorem dX10_rowsBehind_27 : decode cX10_rowsBehind 27 = .ok (.getfield 17, 3) := by decide +kernel
theorem dX10_rowsBehind_30 : decode cX10_rowsBehind 30 = .ok (.aload_n 0, 1) := by decide +kernel
theorem dX10_rowsBehind_31 : decode cX10_rowsBehind 31 = .ok (.getfield 50, 3) := by decide +kernel
theorem dX10_rowsBehind_34 : decode cX10_rowsBehind 34 = .ok (.iload_n 1, 1) := by decide +kernel
theorem dX10_rowsBehind_35 : decode cX10_rowsBehind 35 = .ok (.iaload, 1) := by decide +kernel
theorem dX10_rowsBehind_36 : decode cX10_rowsBehind 36 = .ok (.iaload, 1) := by decide +kernel
theorem dX10_rowsBehind_37 : decode cX10_rowsBehind 37 = .ok (.iaload, 1) := by decide +kernel
theorem dX10_rowsBehind_38 : decode cX10_rowsBehind 38 = .ok (.if_icmp .ge 7, 3) := by decide +kernel
theorem dX10_mayEnd_0 : decode cX10_mayEnd 0 = .ok (.aload_n 0, 1) := by decide +kernel
theorem dX10_mayEnd_1 : decode cX10_mayEnd 1 = .ok (.iload_n 3, 1) := by decide +kernel
theorem dX10_mayEnd_2 : decode cX10_mayEnd 2 = .ok (.invokevirtual 195, 3) := by decide +kernel
theorem dX10_mayEnd_5 : decode cX10_mayEnd 5 = .ok (.istore 6, 2) := by decide +kernel
theorem dX10_mayEnd_7 : decode cX10_mayEnd 7 = .ok (.iload 4, 2) := by decide +kernel
theorem dX10_mayEnd_9 : decode cX10_mayEnd 9 = .ok (.aload_n 0, 1) := by decide +kernel
theorem dX10_mayEnd_10 : decode cX10_mayEnd 10 = .ok (.iload_n 3, 1) := by decide +kernel
theorem dX10_mayEnd_11 : decode cX10_mayEnd 11 = .ok (.invokevirtual 198, 3) := by decide +kernel
theorem dX10_mayEnd_14 : decode cX10_mayEnd 14 = .ok (.if_icmp .ne 34, 3) := by decide +kernel
theorem dX10_mayEnd_48 : decode cX10_mayEnd 48 = .ok (.iload 6, 2) := by decide +kernel
theorem dX10_mayEnd_50 : decode cX10_mayEnd 50 = .ok (.iconst 5, 1) := by decide +kernel
theorem dX10_mayEnd_51 : decode cX10_mayEnd 51 = .ok (.if_icmp .eq 9, 3) := by decide +kernel
theorem dX10_mayEnd_60 : decode cX10_mayEnd 60 = .ok (.iload 4, 2) := by decide +kernel
theorem dX10_mayEnd_62 : decode cX10_mayEnd 62 = .ok (.iload_n 3, 1) := by decide +kernel
theorem dX10_mayEnd_63 : decode cX10_mayEnd 63 = .ok (.iload_n 1, 1) := by decide +kernel
theorem dX10_mayEnd_64 : decode cX10_mayEnd 64 = .ok (.if_icmp .ne 7, 3) := by decide +kernel
theorem dX10_mayEnd_71 : decode cX10_mayEnd 71 = .ok (.iconst 0, 1) := by decide +kernel
theorem dX10_mayEnd_72 : decode cX10_mayEnd 72 = .ok (.isub, 1) := by decide +kernel
theorem dX10_mayEnd_73 : decode cX10_mayEnd 73 = .ok (.iconst 2, 1) := by decide +kernel
theorem dX10_mayEnd_74 : decode cX10_mayEnd 74 = .ok (.if_icmp .lt 19, 3) := by decide +kernel
theorem dX10_mayEnd_93 : decode cX10_mayEnd 93 = .ok (.iconst 0, 1) := by decide +kernel
theorem dX10_mayEnd_94 : decode cX10_mayEnd 94 = .ok (.ireturn, 1) := by decide +kernel
theorem dX10_mayEnd_77 : decode cX10_mayEnd 77 = .ok (.aload_n 0, 1) := by decide +kernel
theorem dX10_mayEnd_78 : decode cX10_mayEnd 78 = .ok (.iload_n 3, 1) := by decide +kernel
theorem dX10_mayEnd_79 : decode cX10_mayEnd 79 = .ok (.invokevirtual 198, 3) := by decide +kernel
theorem dX10_mayEnd_82 : decode cX10_mayEnd 82 = .ok (.iload 4, 2) := by decide +kernel
theorem dX10_mayEnd_84 : decode cX10_mayEnd 84 = .ok (.isub, 1) := by decide +kernel
theorem dX10_mayEnd_85 : decode cX10_mayEnd 85 = .ok (.iconst 2, 1) := by decide +kernel
theorem dX10_mayEnd_86 : decode cX10_mayEnd 86 = .ok (.if_icmp .lt 7, 3) := by decide +kernel
theorem dX10_mayEnd_89 : decode cX10_mayEnd 89 = .ok (.iconst 1, 1) := by decide +kernel
theorem dX10_mayEnd_90 : decode cX10_mayEnd 90 = .ok (.goto 4, 3) := by decide +kernel
theorem dX10_mayEnd_67 : decode cX10_mayEnd 67 = .ok (.iload_n 2, 1) := by decide +kernel
theorem dX10_mayEnd_68 : decode cX10_mayEnd 68 = .ok (.goto 4, 3) := by decide +kernel
theorem dX10_mayEnd_54 : decode cX10_mayEnd 54 = .ok (.iload 6, 2) := by decide +kernel
theorem dX10_mayEnd_56 : decode cX10_mayEnd 56 = .ok (.iconst 4, 1) := by decide +kernel
theorem dX10_mayEnd_57 : decode cX10_mayEnd 57 = .ok (.if_icmp .ne 36, 3) := by decide +kernel
theorem dX10_mayEnd_17 : decode cX10_mayEnd 17 = .ok (.iload_n 3, 1) := by decide +kernel
theorem dX10_mayEnd_18 : decode cX10_mayEnd 18 = .ok (.iload 5, 2) := by decide +kernel
theorem dX10_mayEnd_20 : decode cX10_mayEnd 20 = .ok (.iconst 1, 1) := by decide +kernel
theorem dX10_mayEnd_21 : decode cX10_mayEnd 21 = .ok (.isub, 1) := by decide +kernel
theorem dX10_mayEnd_22 : decode cX10_mayEnd 22 = .ok (.if_icmp .eq 20, 3) := by decide +kernel
theorem dX10_mayEnd_42 : decode cX10_mayEnd 42 = .ok (.iconst 1, 1) := by decide +kernel
theorem dX10_mayEnd_43 : decode cX10_mayEnd 43 = .ok (.goto 4, 3) := by decide +kernel
theorem dX10_mayEnd_47 : decode cX10_mayEnd 47 = .ok (.ireturn, 1) := by decide +kernel
theorem dX10_mayEnd_25 : decode cX10_mayEnd 25 = .ok (.iload 6, 2) := by decide +kernel
theorem dX10_mayEnd_27 : decode cX10_mayEnd 27 = .ok (.ifCond .eq 19, 3) := by decide +kernel
theorem dX10_mayEnd_46 : decode cX10_mayEnd 46 = .ok (.iconst 0, 1) := by decide +kernel
theorem dX10_mayEnd_30 : decode cX10_mayEnd 30 = .ok (.iload 6, 2) := by decide +kernel
theorem dX10_mayEnd_32 : decode cX10_mayEnd 32 = .ok (.iconst 2, 1) := by decide +kernel
theorem dX10_mayEnd_33 : decode cX10_mayEnd 33 = .ok (.if_icmp .eq 13, 3) := by decide +kernel
theorem dX10_mayEnd_36 : decode cX10_mayEnd 36 = .ok (.iload 6, 2) := by decide +kernel
theorem dX10_mayEnd_38 : decode cX10_mayEnd 38 = .ok (.iconst 3, 1) := by decide +kernel
theorem dX10_mayEnd_39 : decode cX10_mayEnd 39 = .ok (.if_icmp .eq 7, 3) := by decide +kernel
set_option maxHeartbeats 1000000 in
set_option maxRecDepth 100000 in
theorem r_kindOf (l : Launch) (D : va_G) (h0 : Nat) (q : Nat → Nat) (cB cI_ cZ : ClassId) (I : Nat → Int32) (F : Nat → Nat → Int32) (pn : Nat) (pe sl : Nat → Nat) (K : Nat → Int32) (Fm To Rr : Nat → Nat) (pp : Nat) (hpv : rp_ok F pn pe sl K Fm To Rr) (hp : pp < pn) : cI l D yX10_kindOf cX10_kindOf 2 (some .int) 0 0 0 0 [.ref h0, .int (nI pp)] zT (mW h0 q cB cI_ cZ I F) (mT cB cI_ cZ) (fun r u => r = K pp ∧ u = (mW h0 q cB cI_ cZ I F, mT cB cI_ cZ)) := by
  refine q_si (by decide) (Nat.le_of_ble_eq_true rfl) ?_
  intro p e s m below meth c A ls hAe hf hr hlocks hin hK hP hD hS hA hZ hl
  obtain ⟨hx, hb, hml, hown, hts⟩ := id hf
  have hl : lv_has ls 2 [(0, .ref h0), (1, .int (nI pp))] := hl
  have hpn := hpv.1
  obtain ⟨v1, v2, v3, v4, v5, v6, v7, v8, v9, v10, v11⟩ := hpv.2 pp hp
  refine lv_aload_n hx hb dX10_kindOf_0 rfl (lv_at hl 0 rfl) ?_
  refine va_get (D := D) (ci := 11) (v := .ref (q 6)) (C := RX10) (T := TX10) (N := 48) hx hb hts inX10 hown hK hP 0 rfl rfl 6 (by decide) (hts _ k_1150) (fun _ h9 => h9) rfl dX10_kindOf_1 ?_
  refine lv_aload_n hx hb dX10_kindOf_4 rfl (lv_at hl 0 rfl) ?_
  refine va_get (D := D) (ci := 11) (v := .ref (q 4)) (C := RX10) (T := TX10) (N := 48) hx hb hts inX10 hown hK hP 0 rfl rfl 4 (by decide) (hts _ k_1148) (fun _ h9 => h9) rfl dX10_kindOf_5 ?_
  refine lv_aload_n hx hb dX10_kindOf_8 rfl (lv_at hl 0 rfl) ?_
  refine va_get (D := D) (ci := 11) (v := .ref (q 15)) (C := RX10) (T := TX10) (N := 48) hx hb hts inX10 hown hK hP 0 rfl rfl 15 (by decide) (hts _ k_1159) (fun _ h9 => h9) rfl dX10_kindOf_9 ?_
  refine lv_iload_n hx hb dX10_kindOf_12 rfl (lv_at hl 1 rfl) ?_
  refine q_ild (X := pp) (f := (F 15)) hx hb hK hP 12 1 rfl rfl (by omega) (by decide) dX10_kindOf_13 ?_
  refine q_seti (y := (nI (pe pp))) v1 ?_
  refine q_ild (X := pe pp) (f := (F 4)) hx hb hK hP 2 1 rfl rfl (by omega) (by decide) dX10_kindOf_14 ?_
  refine q_seti (y := (nI (sl pp))) v3 ?_
  refine q_ild (X := sl pp) (f := (F 6)) hx hb hK hP 4 1 rfl rfl (by omega) (by decide) dX10_kindOf_15 ?_
  refine q_seti (y := (K pp)) v5 ?_
  exact q_zi hf hr rfl hlocks hK hP hD hS (Nat.le_of_ble_eq_true rfl) (Nat.le_of_ble_eq_true rfl) ⟨rfl, rfl⟩ dX10_kindOf_16
set_option maxHeartbeats 1000000 in
set_option maxRecDepth 100000 in
theorem r_size (l : Launch) (D : va_G) (h0 : Nat) (q : Nat → Nat) (cB cI_ cZ : ClassId) (I : Nat → Int32) (F : Nat → Nat → Int32) (pn : Nat) (pe sl : Nat → Nat) (K : Nat → Int32) (Fm To Rr : Nat → Nat) (pp : Nat) (hpv : rp_ok F pn pe sl K Fm To Rr) (hp : pp < pn) : cI l D yX10_size cX10_size 2 (some .int) 0 0 0 0 [.ref h0, .int (nI pp)] zT (mW h0 q cB cI_ cZ I F) (mT cB cI_ cZ) (fun r u => r = nI (To pp - Fm pp) ∧ u = (mW h0 q cB cI_ cZ I F, mT cB cI_ cZ)) := by
  refine q_si (by decide) (Nat.le_of_ble_eq_true rfl) ?_
  intro p e s m below meth c A ls hAe hf hr hlocks hin hK hP hD hS hA hZ hl
  obtain ⟨hx, hb, hml, hown, hts⟩ := id hf
  have hl : lv_has ls 2 [(0, .ref h0), (1, .int (nI pp))] := hl
  have hpn := hpv.1
  obtain ⟨v1, v2, v3, v4, v5, v6, v7, v8, v9, v10, v11⟩ := hpv.2 pp hp
  refine lv_aload_n hx hb dX10_size_0 rfl (lv_at hl 0 rfl) ?_
  refine va_get (D := D) (ci := 11) (v := .ref (q 17)) (C := RX10) (T := TX10) (N := 48) hx hb hts inX10 hown hK hP 0 rfl rfl 17 (by decide) (hts _ k_1161) (fun _ h9 => h9) rfl dX10_size_1 ?_
  refine lv_iload_n hx hb dX10_size_4 rfl (lv_at hl 1 rfl) ?_
  refine q_ild (X := pp) (f := (F 17)) hx hb hK hP 14 1 rfl rfl (by omega) (by decide) dX10_size_5 ?_
  refine q_seti (y := (nI (To pp))) v8 ?_
  refine lv_aload_n hx hb dX10_size_6 rfl (lv_at hl 0 rfl) ?_
  refine va_get (D := D) (ci := 11) (v := .ref (q 16)) (C := RX10) (T := TX10) (N := 48) hx hb hts inX10 hown hK hP 0 rfl rfl 16 (by decide) (hts _ k_1160) (fun _ h9 => h9) rfl dX10_size_7 ?_
  refine lv_iload_n hx hb dX10_size_10 rfl (lv_at hl 1 rfl) ?_
  refine q_ild (X := pp) (f := (F 16)) hx hb hK hP 13 1 rfl rfl (by omega) (by decide) dX10_size_11 ?_
  refine q_seti (y := (nI (Fm pp))) v7 ?_
  refine lv_isub hx hb dX10_size_12 ?_
  refine q_seti (y := nI ((To pp) - (Fm pp))) (pk_sub (a := To pp) (b := Fm pp) (by omega)) ?_
  exact q_zi hf hr rfl hlocks hK hP hD hS (Nat.le_of_ble_eq_true rfl) (Nat.le_of_ble_eq_true rfl) ⟨rfl, rfl⟩ dX10_size_13
set_option maxHeartbeats 1000000 in
set_option maxRecDepth 100000 in
theorem r_hasEmptyAhead (l : Launch) (D : va_G) (h0 : Nat) (q : Nat → Nat) (cB cI_ cZ : ClassId) (I : Nat → Int32) (F : Nat → Nat → Int32) (pn : Nat) (pe sl : Nat → Nat) (K : Nat → Int32) (Fm To Rr : Nat → Nat) (pp : Nat) (hpv : rp_ok F pn pe sl K Fm To Rr) (hp : pp < pn) : cI l D yX10_hasEmptyAhead cX10_hasEmptyAhead 2 (some .boolean) 1 21 0 0 [.ref h0, .int (nI pp)] zT (mW h0 q cB cI_ cZ I F) (mT cB cI_ cZ) (fun r u => (rp_he (K pp) (Fm pp) ∧ r = 1 ∨ ¬ rp_he (K pp) (Fm pp) ∧ r = 0) ∧ u = (mW h0 q cB cI_ cZ I F, mT cB cI_ cZ)) := by
  refine q_si (by decide) (Nat.le_of_ble_eq_true rfl) ?_
  intro p e s m below meth c A ls hAe hf hr hlocks hin hK hP hD hS hA hZ hl
  obtain ⟨hx, hb, hml, hown, hts⟩ := id hf
  have hl : lv_has ls 2 [(0, .ref h0), (1, .int (nI pp))] := hl
  have hpn := hpv.1
  obtain ⟨v1, v2, v3, v4, v5, v6, v7, v8, v9, v10, v11⟩ := hpv.2 pp hp
  refine lv_aload_n hx hb dX10_hasEmptyAhead_0 rfl (lv_at hl 0 rfl) ?_
  refine lv_iload_n hx hb dX10_hasEmptyAhead_1 rfl (lv_at hl 1 rfl) ?_
  refine q_ci (k := 0) (n := 0) hK hP hD hS hA (fun hPc hKc hDc => q_rV (As := [.int (nI pp)]) (rest := []) hf (r_kindOf _ D h0 q cB cI_ cZ I F pn pe sl K Fm To Rr pp hpv (by omega) _) k_1403 k_1400 k_1402 k_65 k_98 (nA := 1) (by decide +kernel) ⟨Nat.le_of_ble_eq_true rfl, Nat.le_of_ble_eq_true rfl⟩ hK hP (ci := 11) (q0 := 0) rfl rfl rfl hPc hKc hDc (fun _ _ _ _ h => h) (fun _ _ _ => trivial) rfl hl.1 rfl (Nat.le_of_ble_eq_true rfl) dX10_hasEmptyAhead_2 ⟨Nat.le_of_ble_eq_true rfl, Nat.le_of_ble_eq_true rfl⟩) (by decide) (by decide) (fun r u H locs hw hK hP hD hS => ?_)
  obtain ⟨rfl, rfl⟩ := hw
  have hP : va_P D vcl (mW h0 q cB cI_ cZ I F) H := hP
  have hD : va_D A (mW h0 q cB cI_ cZ I F) := hD
  refine lv_iconst (v := 3) hx hb dX10_hasEmptyAhead_5 (by decide) ?_
  refine lv_icmp_eq (tgt := 31) hx hb dX10_hasEmptyAhead_6 (by decide) (fun c_1 => ?_) (fun c_1 => ?_)
  · refine lv_iconst (v := 0) hx hb dX10_hasEmptyAhead_31 (by decide) ?_
    exact q_zi hf hr rfl hlocks hK hP hD hS (Nat.le_of_ble_eq_true rfl) (Nat.le_of_ble_eq_true rfl) ⟨Or.inr ⟨fun h => h.1 c_1, rfl⟩, rfl⟩ dX10_hasEmptyAhead_32
  · refine lv_aload_n hx hb dX10_hasEmptyAhead_9 rfl (lv_at hl 0 rfl) ?_
    refine lv_iload_n hx hb dX10_hasEmptyAhead_10 rfl (lv_at hl 1 rfl) ?_
    refine q_ci (k := 0) (n := 0) hK hP hD hS hA (fun hPc hKc hDc => q_rV (As := [.int (nI pp)]) (rest := []) hf (r_kindOf _ D h0 q cB cI_ cZ I F pn pe sl K Fm To Rr pp hpv (by omega) _) k_1403 k_1400 k_1402 k_65 k_98 (nA := 1) (by decide +kernel) ⟨Nat.le_of_ble_eq_true rfl, Nat.le_of_ble_eq_true rfl⟩ hK hP (ci := 11) (q0 := 0) rfl rfl rfl hPc hKc hDc (fun _ _ _ _ h => h) (fun _ _ _ => trivial) rfl hl.1 rfl (Nat.le_of_ble_eq_true rfl) dX10_hasEmptyAhead_11 ⟨Nat.le_of_ble_eq_true rfl, Nat.le_of_ble_eq_true rfl⟩) (by decide) (by decide) (fun r u H locs hw hK hP hD hS => ?_)
    obtain ⟨rfl, rfl⟩ := hw
    have hP : va_P D vcl (mW h0 q cB cI_ cZ I F) H := hP
    have hD : va_D A (mW h0 q cB cI_ cZ I F) := hD
    refine lv_iconst (v := 4) hx hb dX10_hasEmptyAhead_14 (by decide) ?_
    refine lv_icmp_eq (tgt := 31) hx hb dX10_hasEmptyAhead_15 (by decide) (fun c_2 => ?_) (fun c_2 => ?_)
    · refine lv_iconst (v := 0) hx hb dX10_hasEmptyAhead_31 (by decide) ?_
      exact q_zi hf hr rfl hlocks hK hP hD hS (Nat.le_of_ble_eq_true rfl) (Nat.le_of_ble_eq_true rfl) ⟨Or.inr ⟨fun h => h.2.1 c_2, rfl⟩, rfl⟩ dX10_hasEmptyAhead_32
    · refine lv_aload_n hx hb dX10_hasEmptyAhead_18 rfl (lv_at hl 0 rfl) ?_
      refine va_get (D := D) (ci := 11) (v := .ref (q 16)) (C := RX10) (T := TX10) (N := 48) hx hb hts inX10 hown hK hP 0 rfl rfl 16 (by decide) (hts _ k_1160) (fun _ h9 => h9) rfl dX10_hasEmptyAhead_19 ?_
      refine lv_iload_n hx hb dX10_hasEmptyAhead_22 rfl (lv_at hl 1 rfl) ?_
      refine q_ild (X := pp) (f := (F 16)) hx hb hK hP 13 1 rfl rfl (by omega) (by decide) dX10_hasEmptyAhead_23 ?_
      refine q_seti (y := (nI (Fm pp))) v7 ?_
      refine lv_if_ne (tgt := 31) hx hb dX10_hasEmptyAhead_24 (by decide) (fun c_3 => ?_) (fun c_3 => ?_)
      · have c_3 := q_nen (a := Fm pp) (b := 0) (by omega) (by omega) c_3
        refine lv_iconst (v := 0) hx hb dX10_hasEmptyAhead_31 (by decide) ?_
        exact q_zi hf hr rfl hlocks hK hP hD hS (Nat.le_of_ble_eq_true rfl) (Nat.le_of_ble_eq_true rfl) ⟨Or.inr ⟨fun h => absurd h.2.2 (by omega), rfl⟩, rfl⟩ dX10_hasEmptyAhead_32
      · have c_3 := q_eqn (a := Fm pp) (b := 0) (by omega) (by omega) c_3
        refine lv_iconst (v := 1) hx hb dX10_hasEmptyAhead_27 (by decide) ?_
        refine lv_goto (tgt := 32) hx hb dX10_hasEmptyAhead_28 (by decide) ?_
        exact q_zi hf hr rfl hlocks hK hP hD hS (Nat.le_of_ble_eq_true rfl) (Nat.le_of_ble_eq_true rfl) ⟨Or.inl ⟨⟨c_1, c_2, by omega⟩, rfl⟩, rfl⟩ dX10_hasEmptyAhead_32
set_option maxHeartbeats 1000000 in
set_option maxRecDepth 100000 in
theorem r_rowsAhead (l : Launch) (D : va_G) (h0 : Nat) (q : Nat → Nat) (cB cI_ cZ : ClassId) (I : Nat → Int32) (F : Nat → Nat → Int32) (pn : Nat) (pe sl : Nat → Nat) (K : Nat → Int32) (Fm To Rr : Nat → Nat) (pp r1 fi : Nat) (hpv : rp_ok F pn pe sl K Fm To Rr) (hp : pp < pn) (hr1 : r1 ≤ 200) (hfi : fi ≤ 8000) : cI l D yX10_rowsAhead cX10_rowsAhead 4 (some .int) 1 21 0 0 [.ref h0, .int (nI pp), .int (nI r1), .int (nI fi)] zT (mW h0 q cB cI_ cZ I F) (mT cB cI_ cZ) (fun r u => (rp_ra (K pp) (Fm pp) pp r1 fi ∧ r = 1 ∨ ¬ rp_ra (K pp) (Fm pp) pp r1 fi ∧ r = 0) ∧ u = (mW h0 q cB cI_ cZ I F, mT cB cI_ cZ)) := by
  refine q_si (by decide) (Nat.le_of_ble_eq_true rfl) ?_
  intro p e s m below meth c A ls hAe hf hr hlocks hin hK hP hD hS hA hZ hl
  obtain ⟨hx, hb, hml, hown, hts⟩ := id hf
  have hl : lv_has ls 4 [(0, .ref h0), (1, .int (nI pp)), (2, .int (nI r1)), (3, .int (nI fi))] := hl
  have hpn := hpv.1
  obtain ⟨v1, v2, v3, v4, v5, v6, v7, v8, v9, v10, v11⟩ := hpv.2 pp hp
  refine lv_aload_n hx hb dX10_rowsAhead_0 rfl (lv_at hl 0 rfl) ?_
  refine lv_iload_n hx hb dX10_rowsAhead_1 rfl (lv_at hl 1 rfl) ?_
  refine q_ci (k := 0) (n := 0) hK hP hD hS hA (fun hPc hKc hDc => q_rV (As := [.int (nI pp)]) (rest := []) hf (r_kindOf _ D h0 q cB cI_ cZ I F pn pe sl K Fm To Rr pp hpv (by omega) _) k_1403 k_1400 k_1402 k_65 k_98 (nA := 1) (by decide +kernel) ⟨Nat.le_of_ble_eq_true rfl, Nat.le_of_ble_eq_true rfl⟩ hK hP (ci := 11) (q0 := 0) rfl rfl rfl hPc hKc hDc (fun _ _ _ _ h => h) (fun _ _ _ => trivial) rfl hl.1 rfl (Nat.le_of_ble_eq_true rfl) dX10_rowsAhead_2 ⟨Nat.le_of_ble_eq_true rfl, Nat.le_of_ble_eq_true rfl⟩) (by decide) (by decide) (fun r u H locs hw hK hP hD hS => ?_)
  obtain ⟨rfl, rfl⟩ := hw
  have hP : va_P D vcl (mW h0 q cB cI_ cZ I F) H := hP
  have hD : va_D A (mW h0 q cB cI_ cZ I F) := hD
  refine lv_iconst (v := 4) hx hb dX10_rowsAhead_5 (by decide) ?_
  refine lv_icmp_ne (tgt := 31) hx hb dX10_rowsAhead_6 (by decide) (fun c_1 => ?_) (fun c_1 => ?_)
  · refine lv_iconst (v := 0) hx hb dX10_rowsAhead_31 (by decide) ?_
    exact q_zi hf hr rfl hlocks hK hP hD hS (Nat.le_of_ble_eq_true rfl) (Nat.le_of_ble_eq_true rfl) ⟨Or.inr ⟨fun h => c_1 h.1, rfl⟩, rfl⟩ dX10_rowsAhead_32
  · refine lv_iload_n hx hb dX10_rowsAhead_9 rfl (lv_at hl 2 rfl) ?_
    refine lv_if_gt (tgt := 27) hx hb dX10_rowsAhead_10 (by decide) (fun c_2 => ?_) (fun c_2 => ?_)
    · have c_2 := q_lt (a := 0) (b := r1) (by omega) (by omega) c_2
      refine lv_iconst (v := 1) hx hb dX10_rowsAhead_27 (by decide) ?_
      refine lv_goto (tgt := 32) hx hb dX10_rowsAhead_28 (by decide) ?_
      exact q_zi hf hr rfl hlocks hK hP hD hS (Nat.le_of_ble_eq_true rfl) (Nat.le_of_ble_eq_true rfl) ⟨Or.inl ⟨⟨c_1, by omega⟩, rfl⟩, rfl⟩ dX10_rowsAhead_32
    · have c_2 := q_nlt (a := 0) (b := r1) (by omega) (by omega) c_2
      refine lv_iload_n hx hb dX10_rowsAhead_13 rfl (lv_at hl 1 rfl) ?_
      refine lv_iload_n hx hb dX10_rowsAhead_14 rfl (lv_at hl 3 rfl) ?_
      refine lv_icmp_ne (tgt := 31) hx hb dX10_rowsAhead_15 (by decide) (fun c_3 => ?_) (fun c_3 => ?_)
      · have c_3 := q_nen (a := pp) (b := fi) (by omega) (by omega) c_3
        refine lv_iconst (v := 0) hx hb dX10_rowsAhead_31 (by decide) ?_
        exact q_zi hf hr rfl hlocks hK hP hD hS (Nat.le_of_ble_eq_true rfl) (Nat.le_of_ble_eq_true rfl) ⟨Or.inr ⟨fun h => absurd h.2 (by omega), rfl⟩, rfl⟩ dX10_rowsAhead_32
      · have c_3 := q_eqn (a := pp) (b := fi) (by omega) (by omega) c_3
        refine lv_aload_n hx hb dX10_rowsAhead_18 rfl (lv_at hl 0 rfl) ?_
        refine va_get (D := D) (ci := 11) (v := .ref (q 16)) (C := RX10) (T := TX10) (N := 48) hx hb hts inX10 hown hK hP 0 rfl rfl 16 (by decide) (hts _ k_1160) (fun _ h9 => h9) rfl dX10_rowsAhead_19 ?_
        refine lv_iload_n hx hb dX10_rowsAhead_22 rfl (lv_at hl 1 rfl) ?_
        refine q_ild (X := pp) (f := (F 16)) hx hb hK hP 13 1 rfl rfl (by omega) (by decide) dX10_rowsAhead_23 ?_
        refine q_seti (y := (nI (Fm pp))) v7 ?_
        refine lv_if_le (tgt := 31) hx hb dX10_rowsAhead_24 (by decide) (fun c_4 => ?_) (fun c_4 => ?_)
        · have c_4 := q_le (a := Fm pp) (b := 0) (by omega) (by omega) c_4
          refine lv_iconst (v := 0) hx hb dX10_rowsAhead_31 (by decide) ?_
          exact q_zi hf hr rfl hlocks hK hP hD hS (Nat.le_of_ble_eq_true rfl) (Nat.le_of_ble_eq_true rfl) ⟨Or.inr ⟨fun h => absurd h.2 (by omega), rfl⟩, rfl⟩ dX10_rowsAhead_32
        · have c_4 := q_nle (a := Fm pp) (b := 0) (by omega) (by omega) c_4
          refine lv_iconst (v := 1) hx hb dX10_rowsAhead_27 (by decide) ?_
          refine lv_goto (tgt := 32) hx hb dX10_rowsAhead_28 (by decide) ?_
          exact q_zi hf hr rfl hlocks hK hP hD hS (Nat.le_of_ble_eq_true rfl) (Nat.le_of_ble_eq_true rfl) ⟨Or.inl ⟨⟨c_1, by omega⟩, rfl⟩, rfl⟩ dX10_rowsAhead_32
set_option maxHeartbeats 1000000 in
set_option maxRecDepth 100000 in
theorem r_rowsBehind (l : Launch) (D : va_G) (h0 : Nat) (q : Nat → Nat) (cB cI_ cZ : ClassId) (I : Nat → Int32) (F : Nat → Nat → Int32) (pn : Nat) (pe sl : Nat → Nat) (K : Nat → Int32) (Fm To Rr : Nat → Nat) (pp r1 en : Nat) (hpv : rp_ok F pn pe sl K Fm To Rr) (hp : pp < pn) (hr1 : r1 ≤ 200) (hen : pp < en) (hen2 : en ≤ 8000) : cI l D yX10_rowsBehind cX10_rowsBehind 5 (some .int) 1 21 0 0 [.ref h0, .int (nI pp), .int (nI r1), .int (nI en)] zT (mW h0 q cB cI_ cZ I F) (mT cB cI_ cZ) (fun r u => (rp_rb (K pp) (Fm pp) (To pp) (Rr pp) pp r1 en ∧ r = 1 ∨ ¬ rp_rb (K pp) (Fm pp) (To pp) (Rr pp) pp r1 en ∧ r = 0) ∧ u = (mW h0 q cB cI_ cZ I F, mT cB cI_ cZ)) := by
  refine q_si (by decide) (Nat.le_of_ble_eq_true rfl) ?_
  intro p e s m below meth c A ls hAe hf hr hlocks hin hK hP hD hS hA hZ hl
  obtain ⟨hx, hb, hml, hown, hts⟩ := id hf
  have hl : lv_has ls 5 [(0, .ref h0), (1, .int (nI pp)), (2, .int (nI r1)), (3, .int (nI en))] := hl
  have hpn := hpv.1
  obtain ⟨v1, v2, v3, v4, v5, v6, v7, v8, v9, v10, v11⟩ := hpv.2 pp hp
  refine lv_iload_n hx hb dX10_rowsBehind_0 rfl (lv_at hl 2 rfl) ?_
  refine lv_aload_n hx hb dX10_rowsBehind_1 rfl (lv_at hl 0 rfl) ?_
  refine lv_iload_n hx hb dX10_rowsBehind_2 rfl (lv_at hl 1 rfl) ?_
  refine q_ci (k := 0) (n := 0) hK hP hD hS hA (fun hPc hKc hDc => q_rV (As := [.int (nI pp)]) (rest := [.int (nI r1)]) hf (r_size _ D h0 q cB cI_ cZ I F pn pe sl K Fm To Rr pp hpv (by omega) _) k_1391 k_1388 k_1390 k_62 k_98 (nA := 1) (by decide +kernel) ⟨Nat.le_of_ble_eq_true rfl, Nat.le_of_ble_eq_true rfl⟩ hK hP (ci := 11) (q0 := 0) rfl rfl rfl hPc hKc hDc (fun _ _ _ _ h => h) (fun _ _ _ => trivial) rfl hl.1 rfl (Nat.le_of_ble_eq_true rfl) dX10_rowsBehind_3 ⟨Nat.le_of_ble_eq_true rfl, Nat.le_of_ble_eq_true rfl⟩) (by decide) (by decide) (fun r u H locs hw hK hP hD hS => ?_)
  obtain ⟨rfl, rfl⟩ := hw
  have hP : va_P D vcl (mW h0 q cB cI_ cZ I F) H := hP
  have hD : va_D A (mW h0 q cB cI_ cZ I F) := hD
  refine lv_icmp_lt (tgt := 41) hx hb dX10_rowsBehind_6 (by decide) (fun c_1 => ?_) (fun c_1 => ?_)
  · have c_1 := q_lt (a := r1) (b := To pp - Fm pp) (by omega) (by omega) c_1
    refine lv_iconst (v := 1) hx hb dX10_rowsBehind_41 (by decide) ?_
    refine lv_goto (tgt := 46) hx hb dX10_rowsBehind_42 (by decide) ?_
    refine lv_istore (lv' := [(4, .int 1), (0, .ref h0), (1, .int (nI pp)), (2, .int (nI r1)), (3, .int (nI en))]) hx hb dX10_rowsBehind_46 hl (by decide) rfl (fun ls hl => ?_)
    refine lv_aload_n hx hb dX10_rowsBehind_48 rfl (lv_at hl 1 rfl) ?_
    refine lv_iload_n hx hb dX10_rowsBehind_49 rfl (lv_at hl 2 rfl) ?_
    refine q_ci (k := 0) (n := 0) hK hP hD hS hA (fun hPc hKc hDc => q_rV (As := [.int (nI pp)]) (rest := []) hf (r_kindOf _ D h0 q cB cI_ cZ I F pn pe sl K Fm To Rr pp hpv (by omega) _) k_1403 k_1400 k_1402 k_65 k_98 (nA := 1) (by decide +kernel) ⟨Nat.le_of_ble_eq_true rfl, Nat.le_of_ble_eq_true rfl⟩ hK hP (ci := 11) (q0 := 0) rfl rfl rfl hPc hKc hDc (fun _ _ _ _ h => h) (fun _ _ _ => trivial) rfl hl.1 rfl (Nat.le_of_ble_eq_true rfl) dX10_rowsBehind_50 ⟨Nat.le_of_ble_eq_true rfl, Nat.le_of_ble_eq_true rfl⟩) (by decide) (by decide) (fun r u H locs hw hK hP hD hS => ?_)
    obtain ⟨rfl, rfl⟩ := hw
    have hP : va_P D vcl (mW h0 q cB cI_ cZ I F) H := hP
    have hD : va_D A (mW h0 q cB cI_ cZ I F) := hD
    refine lv_iconst (v := 4) hx hb dX10_rowsBehind_53 (by decide) ?_
    refine lv_icmp_ne (tgt := 66) hx hb dX10_rowsBehind_54 (by decide) (fun c_2 => ?_) (fun c_2 => ?_)
    · refine lv_iconst (v := 0) hx hb dX10_rowsBehind_66 (by decide) ?_
      exact q_zi hf hr rfl hlocks hK hP hD hS (Nat.le_of_ble_eq_true rfl) (Nat.le_of_ble_eq_true rfl) ⟨Or.inr ⟨fun h => c_2 h.1, rfl⟩, rfl⟩ dX10_rowsBehind_67
    · refine lv_iload hx hb dX10_rowsBehind_57 (lv_at hl 0 rfl) ?_
      refine lv_if_eq (tgt := 66) hx hb dX10_rowsBehind_59 (by decide) (fun hno => absurd hno (by decide)) (fun _ => ?_)
      refine lv_iconst (v := 1) hx hb dX10_rowsBehind_62 (by decide) ?_
      refine lv_goto (tgt := 67) hx hb dX10_rowsBehind_63 (by decide) ?_
      exact q_zi hf hr rfl hlocks hK hP hD hS (Nat.le_of_ble_eq_true rfl) (Nat.le_of_ble_eq_true rfl) ⟨Or.inl ⟨⟨c_2, by omega⟩, rfl⟩, rfl⟩ dX10_rowsBehind_67
  · have c_1 := q_nlt (a := r1) (b := To pp - Fm pp) (by omega) (by omega) c_1
    refine lv_iload_n hx hb dX10_rowsBehind_9 rfl (lv_at hl 1 rfl) ?_
    refine lv_iload_n hx hb dX10_rowsBehind_10 rfl (lv_at hl 3 rfl) ?_
    refine lv_iconst (v := 1) hx hb dX10_rowsBehind_11 (by decide) ?_
    refine lv_isub hx hb dX10_rowsBehind_12 ?_
    refine q_seti (y := nI (en - 1)) (pk_sub (a := en) (b := 1) (by omega)) ?_
    refine lv_icmp_ne (tgt := 45) hx hb dX10_rowsBehind_13 (by decide) (fun c_3 => ?_) (fun c_3 => ?_)
    · have c_3 := q_nen (a := pp) (b := en - 1) (by omega) (by omega) c_3
      refine lv_iconst (v := 0) hx hb dX10_rowsBehind_45 (by decide) ?_
      refine lv_istore (lv' := [(4, .int 0), (0, .ref h0), (1, .int (nI pp)), (2, .int (nI r1)), (3, .int (nI en))]) hx hb dX10_rowsBehind_46 hl (by decide) rfl (fun ls hl => ?_)
      refine lv_aload_n hx hb dX10_rowsBehind_48 rfl (lv_at hl 1 rfl) ?_
      refine lv_iload_n hx hb dX10_rowsBehind_49 rfl (lv_at hl 2 rfl) ?_
      refine q_ci (k := 0) (n := 0) hK hP hD hS hA (fun hPc hKc hDc => q_rV (As := [.int (nI pp)]) (rest := []) hf (r_kindOf _ D h0 q cB cI_ cZ I F pn pe sl K Fm To Rr pp hpv (by omega) _) k_1403 k_1400 k_1402 k_65 k_98 (nA := 1) (by decide +kernel) ⟨Nat.le_of_ble_eq_true rfl, Nat.le_of_ble_eq_true rfl⟩ hK hP (ci := 11) (q0 := 0) rfl rfl rfl hPc hKc hDc (fun _ _ _ _ h => h) (fun _ _ _ => trivial) rfl hl.1 rfl (Nat.le_of_ble_eq_true rfl) dX10_rowsBehind_50 ⟨Nat.le_of_ble_eq_true rfl, Nat.le_of_ble_eq_true rfl⟩) (by decide) (by decide) (fun r u H locs hw hK hP hD hS => ?_)
      obtain ⟨rfl, rfl⟩ := hw
      have hP : va_P D vcl (mW h0 q cB cI_ cZ I F) H := hP
      have hD : va_D A (mW h0 q cB cI_ cZ I F) := hD
      refine lv_iconst (v := 4) hx hb dX10_rowsBehind_53 (by decide) ?_
      refine lv_icmp_ne (tgt := 66) hx hb dX10_rowsBehind_54 (by decide) (fun c_4 => ?_) (fun c_4 => ?_)
      · refine lv_iconst (v := 0) hx hb dX10_rowsBehind_66 (by decide) ?_
        exact q_zi hf hr rfl hlocks hK hP hD hS (Nat.le_of_ble_eq_true rfl) (Nat.le_of_ble_eq_true rfl) ⟨Or.inr ⟨fun h => c_4 h.1, rfl⟩, rfl⟩ dX10_rowsBehind_67
      · refine lv_iload hx hb dX10_rowsBehind_57 (lv_at hl 0 rfl) ?_
        refine lv_if_eq (tgt := 66) hx hb dX10_rowsBehind_59 (by decide) (fun _ => ?_) (fun hno => absurd hno (by decide))
        refine lv_iconst (v := 0) hx hb dX10_rowsBehind_66 (by decide) ?_
        exact q_zi hf hr rfl hlocks hK hP hD hS (Nat.le_of_ble_eq_true rfl) (Nat.le_of_ble_eq_true rfl) ⟨Or.inr ⟨fun h => absurd h.2 (by omega), rfl⟩, rfl⟩ dX10_rowsBehind_67
    · have c_3 := q_eqn (a := pp) (b := en - 1) (by omega) (by omega) c_3
      refine lv_aload_n hx hb dX10_rowsBehind_16 rfl (lv_at hl 0 rfl) ?_
      refine va_get (D := D) (ci := 11) (v := .ref (q 17)) (C := RX10) (T := TX10) (N := 48) hx hb hts inX10 hown hK hP 0 rfl rfl 17 (by decide) (hts _ k_1161) (fun _ h9 => h9) rfl dX10_rowsBehind_17 ?_
      refine lv_iload_n hx hb dX10_rowsBehind_20 rfl (lv_at hl 1 rfl) ?_
      refine q_ild (X := pp) (f := (F 17)) hx hb hK hP 14 1 rfl rfl (by omega) (by decide) dX10_rowsBehind_21 ?_
      refine q_seti (y := (nI (To pp))) v8 ?_
      refine lv_aload_n hx hb dX10_rowsBehind_22 rfl (lv_at hl 0 rfl) ?_
      refine va_get (D := D) (ci := 11) (v := .ref (q 11)) (C := RX10) (T := TX10) (N := 48) hx hb hts inX10 hown hK hP 0 rfl rfl 11 (by decide) (hts _ k_1155) (fun _ h9 => h9) rfl dX10_rowsBehind_23 ?_
      refine lv_aload_n hx hb dX10_rowsBehind_26 rfl (lv_at hl 0 rfl) ?_
      refine va_get (D := D) (ci := 11) (v := .ref (q 4)) (C := RX10) (T := TX10) (N := 48) hx hb hts inX10 hown hK hP 0 rfl rfl 4 (by decide) (hts _ k_1148) (fun _ h9 => h9) rfl dX10_rowsBehind_27 ?_
      refine lv_aload_n hx hb dX10_rowsBehind_30 rfl (lv_at hl 0 rfl) ?_
      refine va_get (D := D) (ci := 11) (v := .ref (q 15)) (C := RX10) (T := TX10) (N := 48) hx hb hts inX10 hown hK hP 0 rfl rfl 15 (by decide) (hts _ k_1159) (fun _ h9 => h9) rfl dX10_rowsBehind_31 ?_
      refine lv_iload_n hx hb dX10_rowsBehind_34 rfl (lv_at hl 1 rfl) ?_
      refine q_ild (X := pp) (f := (F 15)) hx hb hK hP 12 1 rfl rfl (by omega) (by decide) dX10_rowsBehind_35 ?_
      refine q_seti (y := (nI (pe pp))) v1 ?_
      refine q_ild (X := pe pp) (f := (F 4)) hx hb hK hP 2 1 rfl rfl (by omega) (by decide) dX10_rowsBehind_36 ?_
      refine q_seti (y := (nI (sl pp))) v3 ?_
      refine q_ild (X := sl pp) (f := (F 11)) hx hb hK hP 9 1 rfl rfl (by omega) (by decide) dX10_rowsBehind_37 ?_
      refine q_seti (y := (nI (Rr pp))) v6 ?_
      refine lv_icmp_ge (tgt := 45) hx hb dX10_rowsBehind_38 (by decide) (fun c_5 => ?_) (fun c_5 => ?_)
      · have c_5 := q_le (a := Rr pp) (b := To pp) (by omega) (by omega) c_5
        refine lv_iconst (v := 0) hx hb dX10_rowsBehind_45 (by decide) ?_
        refine lv_istore (lv' := [(4, .int 0), (0, .ref h0), (1, .int (nI pp)), (2, .int (nI r1)), (3, .int (nI en))]) hx hb dX10_rowsBehind_46 hl (by decide) rfl (fun ls hl => ?_)
        refine lv_aload_n hx hb dX10_rowsBehind_48 rfl (lv_at hl 1 rfl) ?_
        refine lv_iload_n hx hb dX10_rowsBehind_49 rfl (lv_at hl 2 rfl) ?_
        refine q_ci (k := 0) (n := 0) hK hP hD hS hA (fun hPc hKc hDc => q_rV (As := [.int (nI pp)]) (rest := []) hf (r_kindOf _ D h0 q cB cI_ cZ I F pn pe sl K Fm To Rr pp hpv (by omega) _) k_1403 k_1400 k_1402 k_65 k_98 (nA := 1) (by decide +kernel) ⟨Nat.le_of_ble_eq_true rfl, Nat.le_of_ble_eq_true rfl⟩ hK hP (ci := 11) (q0 := 0) rfl rfl rfl hPc hKc hDc (fun _ _ _ _ h => h) (fun _ _ _ => trivial) rfl hl.1 rfl (Nat.le_of_ble_eq_true rfl) dX10_rowsBehind_50 ⟨Nat.le_of_ble_eq_true rfl, Nat.le_of_ble_eq_true rfl⟩) (by decide) (by decide) (fun r u H locs hw hK hP hD hS => ?_)
        obtain ⟨rfl, rfl⟩ := hw
        have hP : va_P D vcl (mW h0 q cB cI_ cZ I F) H := hP
        have hD : va_D A (mW h0 q cB cI_ cZ I F) := hD
        refine lv_iconst (v := 4) hx hb dX10_rowsBehind_53 (by decide) ?_
        refine lv_icmp_ne (tgt := 66) hx hb dX10_rowsBehind_54 (by decide) (fun c_6 => ?_) (fun c_6 => ?_)
        · refine lv_iconst (v := 0) hx hb dX10_rowsBehind_66 (by decide) ?_
          exact q_zi hf hr rfl hlocks hK hP hD hS (Nat.le_of_ble_eq_true rfl) (Nat.le_of_ble_eq_true rfl) ⟨Or.inr ⟨fun h => c_6 h.1, rfl⟩, rfl⟩ dX10_rowsBehind_67
        · refine lv_iload hx hb dX10_rowsBehind_57 (lv_at hl 0 rfl) ?_
          refine lv_if_eq (tgt := 66) hx hb dX10_rowsBehind_59 (by decide) (fun _ => ?_) (fun hno => absurd hno (by decide))
          refine lv_iconst (v := 0) hx hb dX10_rowsBehind_66 (by decide) ?_
          exact q_zi hf hr rfl hlocks hK hP hD hS (Nat.le_of_ble_eq_true rfl) (Nat.le_of_ble_eq_true rfl) ⟨Or.inr ⟨fun h => absurd h.2 (by omega), rfl⟩, rfl⟩ dX10_rowsBehind_67
      · have c_5 := q_nle (a := Rr pp) (b := To pp) (by omega) (by omega) c_5
        refine lv_iconst (v := 1) hx hb dX10_rowsBehind_41 (by decide) ?_
        refine lv_goto (tgt := 46) hx hb dX10_rowsBehind_42 (by decide) ?_
        refine lv_istore (lv' := [(4, .int 1), (0, .ref h0), (1, .int (nI pp)), (2, .int (nI r1)), (3, .int (nI en))]) hx hb dX10_rowsBehind_46 hl (by decide) rfl (fun ls hl => ?_)
        refine lv_aload_n hx hb dX10_rowsBehind_48 rfl (lv_at hl 1 rfl) ?_
        refine lv_iload_n hx hb dX10_rowsBehind_49 rfl (lv_at hl 2 rfl) ?_
        refine q_ci (k := 0) (n := 0) hK hP hD hS hA (fun hPc hKc hDc => q_rV (As := [.int (nI pp)]) (rest := []) hf (r_kindOf _ D h0 q cB cI_ cZ I F pn pe sl K Fm To Rr pp hpv (by omega) _) k_1403 k_1400 k_1402 k_65 k_98 (nA := 1) (by decide +kernel) ⟨Nat.le_of_ble_eq_true rfl, Nat.le_of_ble_eq_true rfl⟩ hK hP (ci := 11) (q0 := 0) rfl rfl rfl hPc hKc hDc (fun _ _ _ _ h => h) (fun _ _ _ => trivial) rfl hl.1 rfl (Nat.le_of_ble_eq_true rfl) dX10_rowsBehind_50 ⟨Nat.le_of_ble_eq_true rfl, Nat.le_of_ble_eq_true rfl⟩) (by decide) (by decide) (fun r u H locs hw hK hP hD hS => ?_)
        obtain ⟨rfl, rfl⟩ := hw
        have hP : va_P D vcl (mW h0 q cB cI_ cZ I F) H := hP
        have hD : va_D A (mW h0 q cB cI_ cZ I F) := hD
        refine lv_iconst (v := 4) hx hb dX10_rowsBehind_53 (by decide) ?_
        refine lv_icmp_ne (tgt := 66) hx hb dX10_rowsBehind_54 (by decide) (fun c_7 => ?_) (fun c_7 => ?_)
        · refine lv_iconst (v := 0) hx hb dX10_rowsBehind_66 (by decide) ?_
          exact q_zi hf hr rfl hlocks hK hP hD hS (Nat.le_of_ble_eq_true rfl) (Nat.le_of_ble_eq_true rfl) ⟨Or.inr ⟨fun h => c_7 h.1, rfl⟩, rfl⟩ dX10_rowsBehind_67
        · refine lv_iload hx hb dX10_rowsBehind_57 (lv_at hl 0 rfl) ?_
          refine lv_if_eq (tgt := 66) hx hb dX10_rowsBehind_59 (by decide) (fun hno => absurd hno (by decide)) (fun _ => ?_)
          refine lv_iconst (v := 1) hx hb dX10_rowsBehind_62 (by decide) ?_
          refine lv_goto (tgt := 67) hx hb dX10_rowsBehind_63 (by decide) ?_
          exact q_zi hf hr rfl hlocks hK hP hD hS (Nat.le_of_ble_eq_true rfl) (Nat.le_of_ble_eq_true rfl) ⟨Or.inl ⟨⟨c_7, by omega⟩, rfl⟩, rfl⟩ dX10_rowsBehind_67
set_option maxHeartbeats 1000000 in
set_option maxRecDepth 100000 in
theorem r_mayEnd (l : Launch) (D : va_G) (h0 : Nat) (q : Nat → Nat) (cB cI_ cZ : ClassId) (I : Nat → Int32) (F : Nat → Nat → Int32) (pn : Nat) (pe sl : Nat → Nat) (K : Nat → Int32) (Fm To Rr : Nat → Nat) (bp br pp r1 en : Nat) (hpv : rp_ok F pn pe sl K Fm To Rr) (hp : pp < pn) (hr1 : r1 ≤ To pp - Fm pp) (hbp : bp ≤ 8000) (hbr2 : br ≤ 200) (hbr : pp = bp → br ≤ r1) (hen : pp < en) (hen2 : en ≤ 8000) : cI l D yX10_mayEnd cX10_mayEnd 7 (some .boolean) 1 21 0 0 [.ref h0, .int (nI bp), .int (nI br), .int (nI pp), .int (nI r1), .int (nI en)] zT (mW h0 q cB cI_ cZ I F) (mT cB cI_ cZ) (fun r u => (rp_me (K pp) (To pp - Fm pp) bp br pp r1 en ∧ r = 1 ∨ ¬ rp_me (K pp) (To pp - Fm pp) bp br pp r1 en ∧ r = 0) ∧ u = (mW h0 q cB cI_ cZ I F, mT cB cI_ cZ)) := by
  refine q_si (by decide) (Nat.le_of_ble_eq_true rfl) ?_
  intro p e s m below meth c A ls hAe hf hr hlocks hin hK hP hD hS hA hZ hl
  obtain ⟨hx, hb, hml, hown, hts⟩ := id hf
  have hl : lv_has ls 7 [(0, .ref h0), (1, .int (nI bp)), (2, .int (nI br)), (3, .int (nI pp)), (4, .int (nI r1)), (5, .int (nI en))] := hl
  have hpn := hpv.1
  obtain ⟨v1, v2, v3, v4, v5, v6, v7, v8, v9, v10, v11⟩ := hpv.2 pp hp
  refine lv_aload_n hx hb dX10_mayEnd_0 rfl (lv_at hl 0 rfl) ?_
  refine lv_iload_n hx hb dX10_mayEnd_1 rfl (lv_at hl 3 rfl) ?_
  refine q_ci (k := 0) (n := 0) hK hP hD hS hA (fun hPc hKc hDc => q_rV (As := [.int (nI pp)]) (rest := []) hf (r_kindOf _ D h0 q cB cI_ cZ I F pn pe sl K Fm To Rr pp hpv (by omega) _) k_1403 k_1400 k_1402 k_65 k_98 (nA := 1) (by decide +kernel) ⟨Nat.le_of_ble_eq_true rfl, Nat.le_of_ble_eq_true rfl⟩ hK hP (ci := 11) (q0 := 0) rfl rfl rfl hPc hKc hDc (fun _ _ _ _ h => h) (fun _ _ _ => trivial) rfl hl.1 rfl (Nat.le_of_ble_eq_true rfl) dX10_mayEnd_2 ⟨Nat.le_of_ble_eq_true rfl, Nat.le_of_ble_eq_true rfl⟩) (by decide) (by decide) (fun r u H locs hw hK hP hD hS => ?_)
  obtain ⟨rfl, rfl⟩ := hw
  have hP : va_P D vcl (mW h0 q cB cI_ cZ I F) H := hP
  have hD : va_D A (mW h0 q cB cI_ cZ I F) := hD
  refine lv_istore (lv' := [(6, .int (K pp)), (0, .ref h0), (1, .int (nI bp)), (2, .int (nI br)), (3, .int (nI pp)), (4, .int (nI r1)), (5, .int (nI en))]) hx hb dX10_mayEnd_5 hl (by decide) rfl (fun ls hl => ?_)
  refine lv_iload hx hb dX10_mayEnd_7 (lv_at hl 5 rfl) ?_
  refine lv_aload_n hx hb dX10_mayEnd_9 rfl (lv_at hl 1 rfl) ?_
  refine lv_iload_n hx hb dX10_mayEnd_10 rfl (lv_at hl 4 rfl) ?_
  refine q_ci (k := 0) (n := 0) hK hP hD hS hA (fun hPc hKc hDc => q_rV (As := [.int (nI pp)]) (rest := [.int (nI r1)]) hf (r_size _ D h0 q cB cI_ cZ I F pn pe sl K Fm To Rr pp hpv (by omega) _) k_1391 k_1388 k_1390 k_62 k_98 (nA := 1) (by decide +kernel) ⟨Nat.le_of_ble_eq_true rfl, Nat.le_of_ble_eq_true rfl⟩ hK hP (ci := 11) (q0 := 0) rfl rfl rfl hPc hKc hDc (fun _ _ _ _ h => h) (fun _ _ _ => trivial) rfl hl.1 rfl (Nat.le_of_ble_eq_true rfl) dX10_mayEnd_11 ⟨Nat.le_of_ble_eq_true rfl, Nat.le_of_ble_eq_true rfl⟩) (by decide) (by decide) (fun r u H locs hw hK hP hD hS => ?_)
  obtain ⟨rfl, rfl⟩ := hw
  have hP : va_P D vcl (mW h0 q cB cI_ cZ I F) H := hP
  have hD : va_D A (mW h0 q cB cI_ cZ I F) := hD
  refine lv_icmp_ne (tgt := 48) hx hb dX10_mayEnd_14 (by decide) (fun c_1 => ?_) (fun c_1 => ?_)
  · have c_1 := q_nen (a := r1) (b := To pp - Fm pp) (by omega) (by omega) c_1
    refine lv_iload hx hb dX10_mayEnd_48 (lv_at hl 0 rfl) ?_
    refine lv_iconst (v := 5) hx hb dX10_mayEnd_50 (by decide) ?_
    refine lv_icmp_eq (tgt := 60) hx hb dX10_mayEnd_51 (by decide) (fun c_2 => ?_) (fun c_2 => ?_)
    · refine lv_iload hx hb dX10_mayEnd_60 (lv_at hl 5 rfl) ?_
      refine lv_iload_n hx hb dX10_mayEnd_62 rfl (lv_at hl 4 rfl) ?_
      refine lv_iload_n hx hb dX10_mayEnd_63 rfl (lv_at hl 2 rfl) ?_
      refine lv_icmp_ne (tgt := 71) hx hb dX10_mayEnd_64 (by decide) (fun c_3 => ?_) (fun c_3 => ?_)
      · have c_3 := q_nen (a := pp) (b := bp) (by omega) (by omega) c_3
        refine lv_iconst (v := 0) hx hb dX10_mayEnd_71 (by decide) ?_
        refine lv_isub hx hb dX10_mayEnd_72 ?_
        refine q_seti (y := nI (r1 - 0)) (pk_sub (a := r1) (b := 0) (by omega)) ?_
        refine lv_iconst (v := 2) hx hb dX10_mayEnd_73 (by decide) ?_
        refine lv_icmp_lt (tgt := 93) hx hb dX10_mayEnd_74 (by decide) (fun c_4 => ?_) (fun c_4 => ?_)
        · have c_4 := q_lt (a := r1 - 0) (b := 2) (by omega) (by omega) c_4
          refine lv_iconst (v := 0) hx hb dX10_mayEnd_93 (by decide) ?_
          exact q_zi hf hr rfl hlocks hK hP hD hS (Nat.le_of_ble_eq_true rfl) (Nat.le_of_ble_eq_true rfl) ⟨Or.inr ⟨fun h => h.elim (fun h => absurd h.1 (by omega)) (fun h => absurd h.2.2 (by omega)), rfl⟩, rfl⟩ dX10_mayEnd_94
        · have c_4 := q_nlt (a := r1 - 0) (b := 2) (by omega) (by omega) c_4
          refine lv_aload_n hx hb dX10_mayEnd_77 rfl (lv_at hl 1 rfl) ?_
          refine lv_iload_n hx hb dX10_mayEnd_78 rfl (lv_at hl 4 rfl) ?_
          refine q_ci (k := 0) (n := 0) hK hP hD hS hA (fun hPc hKc hDc => q_rV (As := [.int (nI pp)]) (rest := []) hf (r_size _ D h0 q cB cI_ cZ I F pn pe sl K Fm To Rr pp hpv (by omega) _) k_1391 k_1388 k_1390 k_62 k_98 (nA := 1) (by decide +kernel) ⟨Nat.le_of_ble_eq_true rfl, Nat.le_of_ble_eq_true rfl⟩ hK hP (ci := 11) (q0 := 0) rfl rfl rfl hPc hKc hDc (fun _ _ _ _ h => h) (fun _ _ _ => trivial) rfl hl.1 rfl (Nat.le_of_ble_eq_true rfl) dX10_mayEnd_79 ⟨Nat.le_of_ble_eq_true rfl, Nat.le_of_ble_eq_true rfl⟩) (by decide) (by decide) (fun r u H locs hw hK hP hD hS => ?_)
          obtain ⟨rfl, rfl⟩ := hw
          have hP : va_P D vcl (mW h0 q cB cI_ cZ I F) H := hP
          have hD : va_D A (mW h0 q cB cI_ cZ I F) := hD
          refine lv_iload hx hb dX10_mayEnd_82 (lv_at hl 5 rfl) ?_
          refine lv_isub hx hb dX10_mayEnd_84 ?_
          refine q_seti (y := nI ((To pp - Fm pp) - r1)) (pk_sub (a := To pp - Fm pp) (b := r1) (by omega)) ?_
          refine lv_iconst (v := 2) hx hb dX10_mayEnd_85 (by decide) ?_
          refine lv_icmp_lt (tgt := 93) hx hb dX10_mayEnd_86 (by decide) (fun c_5 => ?_) (fun c_5 => ?_)
          · have c_5 := q_lt (a := (To pp - Fm pp) - r1) (b := 2) (by omega) (by omega) c_5
            refine lv_iconst (v := 0) hx hb dX10_mayEnd_93 (by decide) ?_
            exact q_zi hf hr rfl hlocks hK hP hD hS (Nat.le_of_ble_eq_true rfl) (Nat.le_of_ble_eq_true rfl) ⟨Or.inr ⟨fun h => h.elim (fun h => absurd h.1 (by omega)) (fun h => absurd h.2.2 (by omega)), rfl⟩, rfl⟩ dX10_mayEnd_94
          · have c_5 := q_nlt (a := (To pp - Fm pp) - r1) (b := 2) (by omega) (by omega) c_5
            refine lv_iconst (v := 1) hx hb dX10_mayEnd_89 (by decide) ?_
            refine lv_goto (tgt := 94) hx hb dX10_mayEnd_90 (by decide) ?_
            exact q_zi hf hr rfl hlocks hK hP hD hS (Nat.le_of_ble_eq_true rfl) (Nat.le_of_ble_eq_true rfl) ⟨Or.inl ⟨Or.inr ⟨by omega, Or.inl c_2, by omega, by omega⟩, rfl⟩, rfl⟩ dX10_mayEnd_94
      · have c_3 := q_eqn (a := pp) (b := bp) (by omega) (by omega) c_3
        have hbr1 := hbr (by omega)
        refine lv_iload_n hx hb dX10_mayEnd_67 rfl (lv_at hl 3 rfl) ?_
        refine lv_goto (tgt := 72) hx hb dX10_mayEnd_68 (by decide) ?_
        refine lv_isub hx hb dX10_mayEnd_72 ?_
        refine q_seti (y := nI (r1 - br)) (pk_sub (a := r1) (b := br) (by omega)) ?_
        refine lv_iconst (v := 2) hx hb dX10_mayEnd_73 (by decide) ?_
        refine lv_icmp_lt (tgt := 93) hx hb dX10_mayEnd_74 (by decide) (fun c_6 => ?_) (fun c_6 => ?_)
        · have c_6 := q_lt (a := r1 - br) (b := 2) (by omega) (by omega) c_6
          refine lv_iconst (v := 0) hx hb dX10_mayEnd_93 (by decide) ?_
          exact q_zi hf hr rfl hlocks hK hP hD hS (Nat.le_of_ble_eq_true rfl) (Nat.le_of_ble_eq_true rfl) ⟨Or.inr ⟨fun h => h.elim (fun h => absurd h.1 (by omega)) (fun h => absurd h.2.2 (by omega)), rfl⟩, rfl⟩ dX10_mayEnd_94
        · have c_6 := q_nlt (a := r1 - br) (b := 2) (by omega) (by omega) c_6
          refine lv_aload_n hx hb dX10_mayEnd_77 rfl (lv_at hl 1 rfl) ?_
          refine lv_iload_n hx hb dX10_mayEnd_78 rfl (lv_at hl 4 rfl) ?_
          refine q_ci (k := 0) (n := 0) hK hP hD hS hA (fun hPc hKc hDc => q_rV (As := [.int (nI pp)]) (rest := []) hf (r_size _ D h0 q cB cI_ cZ I F pn pe sl K Fm To Rr pp hpv (by omega) _) k_1391 k_1388 k_1390 k_62 k_98 (nA := 1) (by decide +kernel) ⟨Nat.le_of_ble_eq_true rfl, Nat.le_of_ble_eq_true rfl⟩ hK hP (ci := 11) (q0 := 0) rfl rfl rfl hPc hKc hDc (fun _ _ _ _ h => h) (fun _ _ _ => trivial) rfl hl.1 rfl (Nat.le_of_ble_eq_true rfl) dX10_mayEnd_79 ⟨Nat.le_of_ble_eq_true rfl, Nat.le_of_ble_eq_true rfl⟩) (by decide) (by decide) (fun r u H locs hw hK hP hD hS => ?_)
          obtain ⟨rfl, rfl⟩ := hw
          have hP : va_P D vcl (mW h0 q cB cI_ cZ I F) H := hP
          have hD : va_D A (mW h0 q cB cI_ cZ I F) := hD
          refine lv_iload hx hb dX10_mayEnd_82 (lv_at hl 5 rfl) ?_
          refine lv_isub hx hb dX10_mayEnd_84 ?_
          refine q_seti (y := nI ((To pp - Fm pp) - r1)) (pk_sub (a := To pp - Fm pp) (b := r1) (by omega)) ?_
          refine lv_iconst (v := 2) hx hb dX10_mayEnd_85 (by decide) ?_
          refine lv_icmp_lt (tgt := 93) hx hb dX10_mayEnd_86 (by decide) (fun c_7 => ?_) (fun c_7 => ?_)
          · have c_7 := q_lt (a := (To pp - Fm pp) - r1) (b := 2) (by omega) (by omega) c_7
            refine lv_iconst (v := 0) hx hb dX10_mayEnd_93 (by decide) ?_
            exact q_zi hf hr rfl hlocks hK hP hD hS (Nat.le_of_ble_eq_true rfl) (Nat.le_of_ble_eq_true rfl) ⟨Or.inr ⟨fun h => h.elim (fun h => absurd h.1 (by omega)) (fun h => absurd h.2.2 (by omega)), rfl⟩, rfl⟩ dX10_mayEnd_94
          · have c_7 := q_nlt (a := (To pp - Fm pp) - r1) (b := 2) (by omega) (by omega) c_7
            refine lv_iconst (v := 1) hx hb dX10_mayEnd_89 (by decide) ?_
            refine lv_goto (tgt := 94) hx hb dX10_mayEnd_90 (by decide) ?_
            exact q_zi hf hr rfl hlocks hK hP hD hS (Nat.le_of_ble_eq_true rfl) (Nat.le_of_ble_eq_true rfl) ⟨Or.inl ⟨Or.inr ⟨by omega, Or.inl c_2, by omega, by omega⟩, rfl⟩, rfl⟩ dX10_mayEnd_94
    · refine lv_iload hx hb dX10_mayEnd_54 (lv_at hl 0 rfl) ?_
      refine lv_iconst (v := 4) hx hb dX10_mayEnd_56 (by decide) ?_
      refine lv_icmp_ne (tgt := 93) hx hb dX10_mayEnd_57 (by decide) (fun c_8 => ?_) (fun c_8 => ?_)
      · refine lv_iconst (v := 0) hx hb dX10_mayEnd_93 (by decide) ?_
        exact q_zi hf hr rfl hlocks hK hP hD hS (Nat.le_of_ble_eq_true rfl) (Nat.le_of_ble_eq_true rfl) ⟨Or.inr ⟨fun h => h.elim (fun h => absurd h.1 (by omega)) (fun h => h.2.1.elim c_2 c_8), rfl⟩, rfl⟩ dX10_mayEnd_94
      · refine lv_iload hx hb dX10_mayEnd_60 (lv_at hl 5 rfl) ?_
        refine lv_iload_n hx hb dX10_mayEnd_62 rfl (lv_at hl 4 rfl) ?_
        refine lv_iload_n hx hb dX10_mayEnd_63 rfl (lv_at hl 2 rfl) ?_
        refine lv_icmp_ne (tgt := 71) hx hb dX10_mayEnd_64 (by decide) (fun c_9 => ?_) (fun c_9 => ?_)
        · have c_9 := q_nen (a := pp) (b := bp) (by omega) (by omega) c_9
          refine lv_iconst (v := 0) hx hb dX10_mayEnd_71 (by decide) ?_
          refine lv_isub hx hb dX10_mayEnd_72 ?_
          refine q_seti (y := nI (r1 - 0)) (pk_sub (a := r1) (b := 0) (by omega)) ?_
          refine lv_iconst (v := 2) hx hb dX10_mayEnd_73 (by decide) ?_
          refine lv_icmp_lt (tgt := 93) hx hb dX10_mayEnd_74 (by decide) (fun c_10 => ?_) (fun c_10 => ?_)
          · have c_10 := q_lt (a := r1 - 0) (b := 2) (by omega) (by omega) c_10
            refine lv_iconst (v := 0) hx hb dX10_mayEnd_93 (by decide) ?_
            exact q_zi hf hr rfl hlocks hK hP hD hS (Nat.le_of_ble_eq_true rfl) (Nat.le_of_ble_eq_true rfl) ⟨Or.inr ⟨fun h => h.elim (fun h => absurd h.1 (by omega)) (fun h => absurd h.2.2 (by omega)), rfl⟩, rfl⟩ dX10_mayEnd_94
          · have c_10 := q_nlt (a := r1 - 0) (b := 2) (by omega) (by omega) c_10
            refine lv_aload_n hx hb dX10_mayEnd_77 rfl (lv_at hl 1 rfl) ?_
            refine lv_iload_n hx hb dX10_mayEnd_78 rfl (lv_at hl 4 rfl) ?_
            refine q_ci (k := 0) (n := 0) hK hP hD hS hA (fun hPc hKc hDc => q_rV (As := [.int (nI pp)]) (rest := []) hf (r_size _ D h0 q cB cI_ cZ I F pn pe sl K Fm To Rr pp hpv (by omega) _) k_1391 k_1388 k_1390 k_62 k_98 (nA := 1) (by decide +kernel) ⟨Nat.le_of_ble_eq_true rfl, Nat.le_of_ble_eq_true rfl⟩ hK hP (ci := 11) (q0 := 0) rfl rfl rfl hPc hKc hDc (fun _ _ _ _ h => h) (fun _ _ _ => trivial) rfl hl.1 rfl (Nat.le_of_ble_eq_true rfl) dX10_mayEnd_79 ⟨Nat.le_of_ble_eq_true rfl, Nat.le_of_ble_eq_true rfl⟩) (by decide) (by decide) (fun r u H locs hw hK hP hD hS => ?_)
            obtain ⟨rfl, rfl⟩ := hw
            have hP : va_P D vcl (mW h0 q cB cI_ cZ I F) H := hP
            have hD : va_D A (mW h0 q cB cI_ cZ I F) := hD
            refine lv_iload hx hb dX10_mayEnd_82 (lv_at hl 5 rfl) ?_
            refine lv_isub hx hb dX10_mayEnd_84 ?_
            refine q_seti (y := nI ((To pp - Fm pp) - r1)) (pk_sub (a := To pp - Fm pp) (b := r1) (by omega)) ?_
            refine lv_iconst (v := 2) hx hb dX10_mayEnd_85 (by decide) ?_
            refine lv_icmp_lt (tgt := 93) hx hb dX10_mayEnd_86 (by decide) (fun c_11 => ?_) (fun c_11 => ?_)
            · have c_11 := q_lt (a := (To pp - Fm pp) - r1) (b := 2) (by omega) (by omega) c_11
              refine lv_iconst (v := 0) hx hb dX10_mayEnd_93 (by decide) ?_
              exact q_zi hf hr rfl hlocks hK hP hD hS (Nat.le_of_ble_eq_true rfl) (Nat.le_of_ble_eq_true rfl) ⟨Or.inr ⟨fun h => h.elim (fun h => absurd h.1 (by omega)) (fun h => absurd h.2.2 (by omega)), rfl⟩, rfl⟩ dX10_mayEnd_94
            · have c_11 := q_nlt (a := (To pp - Fm pp) - r1) (b := 2) (by omega) (by omega) c_11
              refine lv_iconst (v := 1) hx hb dX10_mayEnd_89 (by decide) ?_
              refine lv_goto (tgt := 94) hx hb dX10_mayEnd_90 (by decide) ?_
              exact q_zi hf hr rfl hlocks hK hP hD hS (Nat.le_of_ble_eq_true rfl) (Nat.le_of_ble_eq_true rfl) ⟨Or.inl ⟨Or.inr ⟨by omega, Or.inr c_8, by omega, by omega⟩, rfl⟩, rfl⟩ dX10_mayEnd_94
        · have c_9 := q_eqn (a := pp) (b := bp) (by omega) (by omega) c_9
          have hbr1 := hbr (by omega)
          refine lv_iload_n hx hb dX10_mayEnd_67 rfl (lv_at hl 3 rfl) ?_
          refine lv_goto (tgt := 72) hx hb dX10_mayEnd_68 (by decide) ?_
          refine lv_isub hx hb dX10_mayEnd_72 ?_
          refine q_seti (y := nI (r1 - br)) (pk_sub (a := r1) (b := br) (by omega)) ?_
          refine lv_iconst (v := 2) hx hb dX10_mayEnd_73 (by decide) ?_
          refine lv_icmp_lt (tgt := 93) hx hb dX10_mayEnd_74 (by decide) (fun c_12 => ?_) (fun c_12 => ?_)
          · have c_12 := q_lt (a := r1 - br) (b := 2) (by omega) (by omega) c_12
            refine lv_iconst (v := 0) hx hb dX10_mayEnd_93 (by decide) ?_
            exact q_zi hf hr rfl hlocks hK hP hD hS (Nat.le_of_ble_eq_true rfl) (Nat.le_of_ble_eq_true rfl) ⟨Or.inr ⟨fun h => h.elim (fun h => absurd h.1 (by omega)) (fun h => absurd h.2.2 (by omega)), rfl⟩, rfl⟩ dX10_mayEnd_94
          · have c_12 := q_nlt (a := r1 - br) (b := 2) (by omega) (by omega) c_12
            refine lv_aload_n hx hb dX10_mayEnd_77 rfl (lv_at hl 1 rfl) ?_
            refine lv_iload_n hx hb dX10_mayEnd_78 rfl (lv_at hl 4 rfl) ?_
            refine q_ci (k := 0) (n := 0) hK hP hD hS hA (fun hPc hKc hDc => q_rV (As := [.int (nI pp)]) (rest := []) hf (r_size _ D h0 q cB cI_ cZ I F pn pe sl K Fm To Rr pp hpv (by omega) _) k_1391 k_1388 k_1390 k_62 k_98 (nA := 1) (by decide +kernel) ⟨Nat.le_of_ble_eq_true rfl, Nat.le_of_ble_eq_true rfl⟩ hK hP (ci := 11) (q0 := 0) rfl rfl rfl hPc hKc hDc (fun _ _ _ _ h => h) (fun _ _ _ => trivial) rfl hl.1 rfl (Nat.le_of_ble_eq_true rfl) dX10_mayEnd_79 ⟨Nat.le_of_ble_eq_true rfl, Nat.le_of_ble_eq_true rfl⟩) (by decide) (by decide) (fun r u H locs hw hK hP hD hS => ?_)
            obtain ⟨rfl, rfl⟩ := hw
            have hP : va_P D vcl (mW h0 q cB cI_ cZ I F) H := hP
            have hD : va_D A (mW h0 q cB cI_ cZ I F) := hD
            refine lv_iload hx hb dX10_mayEnd_82 (lv_at hl 5 rfl) ?_
            refine lv_isub hx hb dX10_mayEnd_84 ?_
            refine q_seti (y := nI ((To pp - Fm pp) - r1)) (pk_sub (a := To pp - Fm pp) (b := r1) (by omega)) ?_
            refine lv_iconst (v := 2) hx hb dX10_mayEnd_85 (by decide) ?_
            refine lv_icmp_lt (tgt := 93) hx hb dX10_mayEnd_86 (by decide) (fun c_13 => ?_) (fun c_13 => ?_)
            · have c_13 := q_lt (a := (To pp - Fm pp) - r1) (b := 2) (by omega) (by omega) c_13
              refine lv_iconst (v := 0) hx hb dX10_mayEnd_93 (by decide) ?_
              exact q_zi hf hr rfl hlocks hK hP hD hS (Nat.le_of_ble_eq_true rfl) (Nat.le_of_ble_eq_true rfl) ⟨Or.inr ⟨fun h => h.elim (fun h => absurd h.1 (by omega)) (fun h => absurd h.2.2 (by omega)), rfl⟩, rfl⟩ dX10_mayEnd_94
            · have c_13 := q_nlt (a := (To pp - Fm pp) - r1) (b := 2) (by omega) (by omega) c_13
              refine lv_iconst (v := 1) hx hb dX10_mayEnd_89 (by decide) ?_
              refine lv_goto (tgt := 94) hx hb dX10_mayEnd_90 (by decide) ?_
              exact q_zi hf hr rfl hlocks hK hP hD hS (Nat.le_of_ble_eq_true rfl) (Nat.le_of_ble_eq_true rfl) ⟨Or.inl ⟨Or.inr ⟨by omega, Or.inr c_8, by omega, by omega⟩, rfl⟩, rfl⟩ dX10_mayEnd_94
  · have c_1 := q_eqn (a := r1) (b := To pp - Fm pp) (by omega) (by omega) c_1
    refine lv_iload_n hx hb dX10_mayEnd_17 rfl (lv_at hl 4 rfl) ?_
    refine lv_iload hx hb dX10_mayEnd_18 (lv_at hl 6 rfl) ?_
    refine lv_iconst (v := 1) hx hb dX10_mayEnd_20 (by decide) ?_
    refine lv_isub hx hb dX10_mayEnd_21 ?_
    refine q_seti (y := nI (en - 1)) (pk_sub (a := en) (b := 1) (by omega)) ?_
    refine lv_icmp_eq (tgt := 42) hx hb dX10_mayEnd_22 (by decide) (fun c_14 => ?_) (fun c_14 => ?_)
    · have c_14 := q_eqn (a := pp) (b := en - 1) (by omega) (by omega) c_14
      refine lv_iconst (v := 1) hx hb dX10_mayEnd_42 (by decide) ?_
      refine lv_goto (tgt := 47) hx hb dX10_mayEnd_43 (by decide) ?_
      exact q_zi hf hr rfl hlocks hK hP hD hS (Nat.le_of_ble_eq_true rfl) (Nat.le_of_ble_eq_true rfl) ⟨Or.inl ⟨Or.inl ⟨by omega, Or.inl (by omega)⟩, rfl⟩, rfl⟩ dX10_mayEnd_47
    · have c_14 := q_nen (a := pp) (b := en - 1) (by omega) (by omega) c_14
      refine lv_iload hx hb dX10_mayEnd_25 (lv_at hl 0 rfl) ?_
      refine lv_if_eq (tgt := 46) hx hb dX10_mayEnd_27 (by decide) (fun c_15 => ?_) (fun c_15 => ?_)
      · refine lv_iconst (v := 0) hx hb dX10_mayEnd_46 (by decide) ?_
        exact q_zi hf hr rfl hlocks hK hP hD hS (Nat.le_of_ble_eq_true rfl) (Nat.le_of_ble_eq_true rfl) ⟨Or.inr ⟨fun h => h.elim (fun h => h.2.elim (fun z => absurd z (by omega)) (fun z => z.1 c_15)) (fun h => absurd (show r1 = To pp - Fm pp by omega) h.1), rfl⟩, rfl⟩ dX10_mayEnd_47
      · refine lv_iload hx hb dX10_mayEnd_30 (lv_at hl 0 rfl) ?_
        refine lv_iconst (v := 2) hx hb dX10_mayEnd_32 (by decide) ?_
        refine lv_icmp_eq (tgt := 46) hx hb dX10_mayEnd_33 (by decide) (fun c_16 => ?_) (fun c_16 => ?_)
        · refine lv_iconst (v := 0) hx hb dX10_mayEnd_46 (by decide) ?_
          exact q_zi hf hr rfl hlocks hK hP hD hS (Nat.le_of_ble_eq_true rfl) (Nat.le_of_ble_eq_true rfl) ⟨Or.inr ⟨fun h => h.elim (fun h => h.2.elim (fun z => absurd z (by omega)) (fun z => z.2.1 c_16)) (fun h => absurd (show r1 = To pp - Fm pp by omega) h.1), rfl⟩, rfl⟩ dX10_mayEnd_47
        · refine lv_iload hx hb dX10_mayEnd_36 (lv_at hl 0 rfl) ?_
          refine lv_iconst (v := 3) hx hb dX10_mayEnd_38 (by decide) ?_
          refine lv_icmp_eq (tgt := 46) hx hb dX10_mayEnd_39 (by decide) (fun c_17 => ?_) (fun c_17 => ?_)
          · refine lv_iconst (v := 0) hx hb dX10_mayEnd_46 (by decide) ?_
            exact q_zi hf hr rfl hlocks hK hP hD hS (Nat.le_of_ble_eq_true rfl) (Nat.le_of_ble_eq_true rfl) ⟨Or.inr ⟨fun h => h.elim (fun h => h.2.elim (fun z => absurd z (by omega)) (fun z => z.2.2 c_17)) (fun h => absurd (show r1 = To pp - Fm pp by omega) h.1), rfl⟩, rfl⟩ dX10_mayEnd_47
          · refine lv_iconst (v := 1) hx hb dX10_mayEnd_42 (by decide) ?_
            refine lv_goto (tgt := 47) hx hb dX10_mayEnd_43 (by decide) ?_
            exact q_zi hf hr rfl hlocks hK hP hD hS (Nat.le_of_ble_eq_true rfl) (Nat.le_of_ble_eq_true rfl) ⟨Or.inl ⟨Or.inl ⟨by omega, Or.inr ⟨c_15, c_16, c_17⟩⟩, rfl⟩, rfl⟩ dX10_mayEnd_47
