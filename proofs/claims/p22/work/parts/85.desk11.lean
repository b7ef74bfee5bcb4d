theorem q_sw_0_3 (x : Int32) : x = 0 ∨ x = 1 ∨ x = 2 ∨ x = 3 ∨ (x.toInt < 0 ∨ 3 < x.toInt) := by
  by_cases h : x.toInt < 0 ∨ 3 < x.toInt
  · exact Or.inr (Or.inr (Or.inr (Or.inr h)))
  · have h1 : x.toInt = 0 ∨ x.toInt = 1 ∨ x.toInt = 2 ∨ x.toInt = 3 := by omega
    rcases h1 with h1 | h1 | h1 | h1
    · exact Or.inl (Int32.toInt_inj.mp h1)
    · exact Or.inr (Or.inl (Int32.toInt_inj.mp h1))
    · exact Or.inr (Or.inr (Or.inl (Int32.toInt_inj.mp h1)))
    · exact Or.inr (Or.inr (Or.inr (Or.inl (Int32.toInt_inj.mp h1))))
theorem q_sw_0_4 (x : Int32) : x = 0 ∨ x = 1 ∨ x = 2 ∨ x = 3 ∨ x = 4 ∨ (x.toInt < 0 ∨ 4 < x.toInt) := by
  by_cases h : x.toInt < 0 ∨ 4 < x.toInt
  · exact Or.inr (Or.inr (Or.inr (Or.inr (Or.inr h))))
  · have h1 : x.toInt = 0 ∨ x.toInt = 1 ∨ x.toInt = 2 ∨ x.toInt = 3 ∨ x.toInt = 4 := by omega
    rcases h1 with h1 | h1 | h1 | h1 | h1
    · exact Or.inl (Int32.toInt_inj.mp h1)
    · exact Or.inr (Or.inl (Int32.toInt_inj.mp h1))
    · exact Or.inr (Or.inr (Or.inl (Int32.toInt_inj.mp h1)))
    · exact Or.inr (Or.inr (Or.inr (Or.inl (Int32.toInt_inj.mp h1))))
    · exact Or.inr (Or.inr (Or.inr (Or.inr (Or.inl (Int32.toInt_inj.mp h1)))))
theorem fd_in {x : Int32} (h1 : ¬ x < 1) (h2 : ¬ 8 < x) : ∃ k : Nat, k < 8 ∧ x = nI (k + 1) := by
  rw [Int32.lt_iff_toInt_lt] at h1 h2
  have e1 : (1 : Int32).toInt = 1 := by decide
  have e8 : (8 : Int32).toInt = 8 := by decide
  have e0 : (0 : Int32).toInt = 0 := by decide
  have e9 : (nI 8).toInt = 8 := by decide
  obtain ⟨j, hj, e⟩ := ix_in (x := x) (n := 8) (by decide) (by rw [Int32.lt_iff_toInt_lt]; omega) (by rw [Int32.lt_iff_toInt_lt]; omega)
  by_cases c : j = 0
  · rw [e, c] at h1
    exact absurd (show (nI 0).toInt < (1 : Int32).toInt by decide) h1
  · exact ⟨j - 1, by omega, by rw [show j - 1 + 1 = j by omega]; exact e⟩
/-- byte k of a word that is fed -/
def fdb (w : Int64) (k : Nat) : Int32 := ((w.toUInt64 >>> ((nI (8 * k)).toInt64.toUInt64 &&& Int64.toUInt64 63)).toInt64).toInt32 &&& 255
noncomputable def tx_fd (w : Int64) : Nat → Nat × (Nat → Int32) → Nat × (Nat → Int32)
  | 0, s => s
  | k + 1, s => tx_fd w k (tx_put s.2 s.1 (fdb w k))
theorem tx_put_le {T : Nat → Int32} {n n1 : Nat} {T1 : Nat → Int32} {b : Int32} (e : (n1, T1) = tx_put T n b) (h : n ≤ 1200) : n1 ≤ 1200 := by
  unfold tx_put at e
  by_cases c : tx_tk b ∧ n < 1200
  · rw [pif_p c] at e; cases e; omega
  · rw [pif_n c] at e; cases e; exact h
abbrev cX9_count : ByteArray := prog_1_method_22_code
def yX9_count : MethodName := ⟨RX9, "count", "(I)I"⟩
abbrev cX9_feed : ByteArray := prog_1_method_2_code
def yX9_feed : MethodName := ⟨RX9, "feed", "(JI)I"⟩
abbrev cX9_rowsNotStruck : ByteArray := prog_1_method_31_code
def yX9_rowsNotStruck : MethodName := ⟨RX9, "rowsNotStruck", "()I"⟩
abbrev cX9_struckElements : ByteArray := prog_1_method_30_code
def yX9_struckElements : MethodName := ⟨RX9, "struckElements", "()I"⟩
theorem k_42 : (Cond.selects RX9 yX9_struckElements yX9_struckElements) ∈ gT := gT_i 42 (by decide +kernel) rfl
theorem k_43 : (Cond.selects RX9 yX9_rowsNotStruck yX9_rowsNotStruck) ∈ gT := gT_i 43 (by decide +kernel) rfl
theorem k_228 : (Cond.fieldLink RX9 130 "ScriptDesk$Element" "kind" "I") ∈ gT := gT_i 228 (by decide +kernel) rfl
theorem k_470 : (Cond.methodLink RX9 85 yX8_hasRoomFor) ∈ gT := gT_i 470 (by decide +kernel) rfl
theorem k_471 : (Cond.instanceMethod yX8_hasRoomFor) ∈ gT := gT_i 471 (by decide +kernel) rfl
theorem k_472 : (Cond.selects RX8 yX8_hasRoomFor yX8_hasRoomFor) ∈ gT := gT_i 472 (by decide +kernel) rfl
theorem k_473 : (Cond.code yX8_hasRoomFor cX8_hasRoomFor 2 (some .boolean)) ∈ gT := gT_i 473 (by decide +kernel) rfl
theorem k_474 : (Cond.methodLink RX9 89 yX8_put) ∈ gT := gT_i 474 (by decide +kernel) rfl
theorem k_475 : (Cond.instanceMethod yX8_put) ∈ gT := gT_i 475 (by decide +kernel) rfl
theorem k_476 : (Cond.selects RX8 yX8_put yX8_put) ∈ gT := gT_i 476 (by decide +kernel) rfl
theorem k_477 : (Cond.code yX8_put cX8_put 3 none) ∈ gT := gT_i 477 (by decide +kernel) rfl
theorem k_741 : (Cond.methodLink RX9 133 yX1_wordCount) ∈ gT := gT_i 741 (by decide +kernel) rfl
theorem k_742 : (Cond.instanceMethod yX1_wordCount) ∈ gT := gT_i 742 (by decide +kernel) rfl
theorem k_743 : (Cond.selects RX1 yX1_wordCount yX1_wordCount) ∈ gT := gT_i 743 (by decide +kernel) rfl
theorem k_744 : (Cond.code yX1_wordCount cX1_wordCount 1 (some .int)) ∈ gT := gT_i 744 (by decide +kernel) rfl
theorem k_1111 : (Cond.methodLink RX9 282 yX9_struckElements) ∈ gT := gT_i 1111 (by decide +kernel) rfl
theorem k_1113 : (Cond.instanceMethod yX9_struckElements) ∈ gT := gT_i 1113 (by decide +kernel) rfl
theorem k_1114 : (Cond.code yX9_struckElements cX9_struckElements 3 (some .int)) ∈ gT := gT_i 1114 (by decide +kernel) rfl
theorem k_1115 : (Cond.methodLink RX9 285 yX9_rowsNotStruck) ∈ gT := gT_i 1115 (by decide +kernel) rfl
theorem k_1117 : (Cond.instanceMethod yX9_rowsNotStruck) ∈ gT := gT_i 1117 (by decide +kernel) rfl
theorem k_1118 : (Cond.code yX9_rowsNotStruck cX9_rowsNotStruck 3 (some .int)) ∈ gT := gT_i 1118 (by decide +kernel) rfl
theorem dX9_feed_33 : decode cX9_feed 33 = .ok (.iload 4, 2) := by decide +kernel
theorem dX9_feed_35 : decode cX9_feed 35 = .ok (.ifCond .lt 28, 3) := by decide +kernel
theorem dX9_feed_38 : decode cX9_feed 38 = .ok (.aload_n 0, 1) := by decide +kernel
theorem dX9_feed_39 : decode cX9_feed 39 = .ok (.getfield 10, 3) := by decide +kernel
theorem dX9_feed_42 : decode cX9_feed 42 = .ok (.lload_n 1, 1) := by decide +kernel
theorem dX9_feed_43 : decode cX9_feed 43 = .ok (.bipush 8, 2) := by decide +kernel
theorem dX9_feed_45 : decode cX9_feed 45 = .ok (.iload 4, 2) := by decide +kernel
theorem dX9_feed_47 : decode cX9_feed 47 = .ok (.imul, 1) := by decide +kernel
theorem dX9_feed_48 : decode cX9_feed 48 = .ok (.lushr, 1) := by decide +kernel
theorem dX9_feed_49 : decode cX9_feed 49 = .ok (.l2i, 1) := by decide +kernel
theorem dX9_feed_50 : decode cX9_feed 50 = .ok (.sipush 255, 3) := by decide +kernel
theorem dX9_feed_53 : decode cX9_feed 53 = .ok (.iand, 1) := by decide +kernel
theorem dX9_feed_54 : decode cX9_feed 54 = .ok (.invokevirtual 89, 3) := by decide +kernel
theorem dX9_feed_57 : decode cX9_feed 57 = .ok (.iinc 4 (-1), 3) := by decide +kernel
theorem dX9_feed_60 : decode cX9_feed 60 = .ok (.goto (-27), 3) := by decide +kernel
theorem dX9_feed_0 : decode cX9_feed 0 = .ok (.iload_n 3, 1) := by decide +kernel
theorem dX9_feed_1 : decode cX9_feed 1 = .ok (.iconst 1, 1) := by decide +kernel
theorem dX9_feed_2 : decode cX9_feed 2 = .ok (.if_icmp .lt 9, 3) := by decide +kernel
theorem dX9_feed_11 : decode cX9_feed 11 = .ok (.bipush (-2), 2) := by decide +kernel
theorem dX9_feed_13 : decode cX9_feed 13 = .ok (.ireturn, 1) := by decide +kernel
theorem dX9_feed_5 : decode cX9_feed 5 = .ok (.iload_n 3, 1) := by decide +kernel
theorem dX9_feed_6 : decode cX9_feed 6 = .ok (.bipush 8, 2) := by decide +kernel
theorem dX9_feed_8 : decode cX9_feed 8 = .ok (.if_icmp .le 6, 3) := by decide +kernel
theorem dX9_feed_14 : decode cX9_feed 14 = .ok (.aload_n 0, 1) := by decide +kernel
theorem dX9_feed_15 : decode cX9_feed 15 = .ok (.getfield 10, 3) := by decide +kernel
theorem dX9_feed_18 : decode cX9_feed 18 = .ok (.iload_n 3, 1) := by decide +kernel
theorem dX9_feed_19 : decode cX9_feed 19 = .ok (.invokevirtual 85, 3) := by decide +kernel
theorem dX9_feed_22 : decode cX9_feed 22 = .ok (.ifCond .ne 6, 3) := by decide +kernel
theorem dX9_feed_28 : decode cX9_feed 28 = .ok (.iload_n 3, 1) := by decide +kernel
theorem dX9_feed_29 : decode cX9_feed 29 = .ok (.iconst 1, 1) := by decide +kernel
theorem dX9_feed_30 : decode cX9_feed 30 = .ok (.isub, 1) := by decide +kernel
theorem dX9_feed_31 : decode cX9_feed 31 = .ok (.istore 4, 2) := by decide +kernel
theorem dX9_feed_63 : decode cX9_feed 63 = .ok (.aload_n 0, 1) := by decide +kernel
theorem dX9_feed_64 : decode cX9_feed 64 = .ok (.getfield 10, 3) := by decide +kernel
theorem dX9_feed_67 : decode cX9_feed 67 = .ok (.invokevirtual 93, 3) := by decide +kernel
theorem dX9_feed_70 : decode cX9_feed 70 = .ok (.ireturn, 1) := by decide +kernel
theorem dX9_feed_25 : decode cX9_feed 25 = .ok (.bipush (-4), 2) := by decide +kernel
theorem dX9_feed_27 : decode cX9_feed 27 = .ok (.ireturn, 1) := by decide +kernel
theorem dX9_element_11 : decode cX9_element 11 = .ok (.aload_n 0, 1) := by decide +kernel
theorem dX9_element_12 : decode cX9_element 12 = .ok (.iload_n 1, 1) := by decide +kernel
theorem dX9_element_13 : decode cX9_element 13 = .ok (.invokevirtual 126, 3) := by decide +kernel
theorem dX9_element_16 : decode cX9_element 16 = .ok (.astore_n 3, 1) := by decide +kernel
theorem dX9_element_17 : decode cX9_element 17 = .ok (.iload_n 2, 1) := by decide +kernel
theorem dX9_element_18 : decode cX9_element 18 = .ok (.tableswitch 58 0 3 #[30, 35, 40, 45], 30) := by decide +kernel
theorem dX9_element_48 : decode cX9_element 48 = .ok (.aload_n 3, 1) := by decide +kernel
theorem dX9_element_49 : decode cX9_element 49 = .ok (.getfield 130, 3) := by decide +kernel
theorem dX9_element_52 : decode cX9_element 52 = .ok (.ireturn, 1) := by decide +kernel
theorem dX9_element_53 : decode cX9_element 53 = .ok (.aload_n 3, 1) := by decide +kernel
theorem dX9_element_54 : decode cX9_element 54 = .ok (.invokevirtual 133, 3) := by decide +kernel
theorem dX9_element_57 : decode cX9_element 57 = .ok (.ireturn, 1) := by decide +kernel
theorem dX9_element_58 : decode cX9_element 58 = .ok (.aload_n 3, 1) := by decide +kernel
theorem dX9_element_59 : decode cX9_element 59 = .ok (.invokevirtual 136, 3) := by decide +kernel
theorem dX9_element_62 : decode cX9_element 62 = .ok (.ireturn, 1) := by decide +kernel
theorem dX9_element_63 : decode cX9_element 63 = .ok (.aload_n 3, 1) := by decide +kernel
theorem dX9_element_64 : decode cX9_element 64 = .ok (.getfield 139, 3) := by decide +kernel
theorem dX9_element_67 : decode cX9_element 67 = .ok (.ifCond .eq 7, 3) := by decide +kernel
theorem dX9_element_74 : decode cX9_element 74 = .ok (.iconst 0, 1) := by decide +kernel
theorem dX9_element_75 : decode cX9_element 75 = .ok (.ireturn, 1) := by decide +kernel
theorem dX9_element_70 : decode cX9_element 70 = .ok (.iconst 1, 1) := by decide +kernel
theorem dX9_element_71 : decode cX9_element 71 = .ok (.goto 4, 3) := by decide +kernel
theorem dX9_element_76 : decode cX9_element 76 = .ok (.bipush (-2), 2) := by decide +kernel
theorem dX9_element_78 : decode cX9_element 78 = .ok (.ireturn, 1) := by decide +kernel
theorem dX9_struckElements_4 : decode cX9_struckElements 4 = .ok (.iload_n 2, 1) := by decide +kernel
theorem dX9_struckElements_5 : decode cX9_struckElements 5 = .ok (.aload_n 0, 1) := by decide +kernel
theorem dX9_struckElements_6 : decode cX9_struckElements 6 = .ok (.getfield 28, 3) := by decide +kernel
theorem dX9_struckElements_9 : decode cX9_struckElements 9 = .ok (.invokevirtual 113, 3) := by decide +kernel
theorem dX9_struckElements_12 : decode cX9_struckElements 12 = .ok (.if_icmp .ge 29, 3) := by decide +kernel
theorem dX9_struckElements_15 : decode cX9_struckElements 15 = .ok (.aload_n 0, 1) := by decide +kernel
theorem dX9_struckElements_16 : decode cX9_struckElements 16 = .ok (.getfield 28, 3) := by decide +kernel
theorem dX9_struckElements_19 : decode cX9_struckElements 19 = .ok (.iload_n 2, 1) := by decide +kernel
theorem dX9_struckElements_20 : decode cX9_struckElements 20 = .ok (.invokevirtual 252, 3) := by decide +kernel
theorem dX9_struckElements_23 : decode cX9_struckElements 23 = .ok (.checkcast 35, 3) := by decide +kernel
theorem dX9_struckElements_26 : decode cX9_struckElements 26 = .ok (.getfield 139, 3) := by decide +kernel
theorem dX9_struckElements_29 : decode cX9_struckElements 29 = .ok (.ifCond .eq 6, 3) := by decide +kernel
theorem dX9_struckElements_35 : decode cX9_struckElements 35 = .ok (.iinc 2 1, 3) := by decide +kernel
theorem dX9_struckElements_38 : decode cX9_struckElements 38 = .ok (.goto (-34), 3) := by decide +kernel
theorem dX9_struckElements_32 : decode cX9_struckElements 32 = .ok (.iinc 1 1, 3) := by decide +kernel
theorem dX9_struckElements_0 : decode cX9_struckElements 0 = .ok (.iconst 0, 1) := by decide +kernel
theorem dX9_struckElements_1 : decode cX9_struckElements 1 = .ok (.istore_n 1, 1) := by decide +kernel
theorem dX9_struckElements_2 : decode cX9_struckElements 2 = .ok (.iconst 0, 1) := by decide +kernel
theorem dX9_struckElements_3 : decode cX9_struckElements 3 = .ok (.istore_n 2, 1) := by decide +kernel
theorem dX9_struckElements_41 : decode cX9_struckElements 41 = .ok (.iload_n 1, 1) := by decide +kernel
theorem dX9_struckElements_42 : decode cX9_struckElements 42 = .ok (.ireturn, 1) := by decide +kernel
theorem dX9_rowsNotStruck_4 : decode cX9_rowsNotStruck 4 = .ok (.iload_n 2, 1) := by decide +kernel
theorem dX9_rowsNotStruck_5 : decode cX9_rowsNotStruck 5 = .ok (.aload_n 0, 1) := by decide +kernel
theorem dX9_rowsNotStruck_6 : decode cX9_rowsNotStruck 6 = .ok (.getfield 28, 3) := by decide +kernel
theorem dX9_rowsNotStruck_9 : decode cX9_rowsNotStruck 9 = .ok (.invokevirtual 113, 3) := by decide +kernel
theorem dX9_rowsNotStruck_12 : decode cX9_rowsNotStruck 12 = .ok (.if_icmp .ge 43, 3) := by decide +kernel
theorem dX9_rowsNotStruck_15 : decode cX9_rowsNotStruck 15 = .ok (.aload_n 0, 1) := by decide +kernel
theorem dX9_rowsNotStruck_16 : decode cX9_rowsNotStruck 16 = .ok (.getfield 28, 3) := by decide +kernel
theorem dX9_rowsNotStruck_19 : decode cX9_rowsNotStruck 19 = .ok (.iload_n 2, 1) := by decide +kernel
theorem dX9_rowsNotStruck_20 : decode cX9_rowsNotStruck 20 = .ok (.invokevirtual 252, 3) := by decide +kernel
theorem dX9_rowsNotStruck_23 : decode cX9_rowsNotStruck 23 = .ok (.checkcast 35, 3) := by decide +kernel
theorem dX9_rowsNotStruck_26 : decode cX9_rowsNotStruck 26 = .ok (.getfield 139, 3) := by decide +kernel
theorem dX9_rowsNotStruck_29 : decode cX9_rowsNotStruck 29 = .ok (.ifCond .ne 20, 3) := by decide +kernel
theorem dX9_rowsNotStruck_49 : decode cX9_rowsNotStruck 49 = .ok (.iinc 2 1, 3) := by decide +kernel
theorem dX9_rowsNotStruck_52 : decode cX9_rowsNotStruck 52 = .ok (.goto (-48), 3) := by decide +kernel
theorem dX9_rowsNotStruck_32 : decode cX9_rowsNotStruck 32 = .ok (.iload_n 1, 1) := by decide +kernel
theorem dX9_rowsNotStruck_33 : decode cX9_rowsNotStruck 33 = .ok (.aload_n 0, 1) := by decide +kernel
theorem dX9_rowsNotStruck_34 : decode cX9_rowsNotStruck 34 = .ok (.getfield 28, 3) := by decide +kernel
theorem dX9_rowsNotStruck_37 : decode cX9_rowsNotStruck 37 = .ok (.iload_n 2, 1) := by decide +kernel
theorem dX9_rowsNotStruck_38 : decode cX9_rowsNotStruck 38 = .ok (.invokevirtual 252, 3) := by decide +kernel
theorem dX9_rowsNotStruck_41 : decode cX9_rowsNotStruck 41 = .ok (.checkcast 35, 3) := by decide +kernel
theorem dX9_rowsNotStruck_44 : decode cX9_rowsNotStruck 44 = .ok (.invokevirtual 136, 3) := by decide +kernel
theorem dX9_rowsNotStruck_47 : decode cX9_rowsNotStruck 47 = .ok (.iadd, 1) := by decide +kernel
theorem dX9_rowsNotStruck_48 : decode cX9_rowsNotStruck 48 = .ok (.istore_n 1, 1) := by decide +kernel
theorem dX9_rowsNotStruck_0 : decode cX9_rowsNotStruck 0 = .ok (.iconst 0, 1) := by decide +kernel
theorem dX9_rowsNotStruck_1 : decode cX9_rowsNotStruck 1 = .ok (.istore_n 1, 1) := by decide +kernel
theorem dX9_rowsNotStruck_2 : decode cX9_rowsNotStruck 2 = .ok (.iconst 0, 1) := by decide +kernel
theorem dX9_rowsNotStruck_3 : decode cX9_rowsNotStruck 3 = .ok (.istore_n 2, 1) := by decide +kernel
theorem dX9_rowsNotStruck_55 : decode cX9_rowsNotStruck 55 = .ok (.iload_n 1, 1) := by decide +kernel
theorem dX9_rowsNotStruck_56 : decode cX9_rowsNotStruck 56 = .ok (.ireturn, 1) := by decide +kernel
theorem dX9_count_0 : decode cX9_count 0 = .ok (.iload_n 1, 1) := by decide +kernel
theorem dX9_count_1 : decode cX9_count 1 = .ok (.tableswitch 83 0 5 #[39, 47, 55, 60, 65, 78], 39) := by decide +kernel
theorem dX9_count_40 : decode cX9_count 40 = .ok (.aload_n 0, 1) := by decide +kernel
theorem dX9_count_41 : decode cX9_count 41 = .ok (.getfield 10, 3) := by decide +kernel
theorem dX9_count_44 : decode cX9_count 44 = .ok (.invokevirtual 93, 3) := by decide +kernel
theorem dX9_count_47 : decode cX9_count 47 = .ok (.ireturn, 1) := by decide +kernel
theorem dX9_count_48 : decode cX9_count 48 = .ok (.aload_n 0, 1) := by decide +kernel
theorem dX9_count_49 : decode cX9_count 49 = .ok (.getfield 28, 3) := by decide +kernel
theorem dX9_count_52 : decode cX9_count 52 = .ok (.invokevirtual 113, 3) := by decide +kernel
theorem dX9_count_55 : decode cX9_count 55 = .ok (.ireturn, 1) := by decide +kernel
theorem dX9_count_56 : decode cX9_count 56 = .ok (.aload_n 0, 1) := by decide +kernel
theorem dX9_count_57 : decode cX9_count 57 = .ok (.invokevirtual 282, 3) := by decide +kernel
theorem dX9_count_60 : decode cX9_count 60 = .ok (.ireturn, 1) := by decide +kernel
theorem dX9_count_61 : decode cX9_count 61 = .ok (.aload_n 0, 1) := by decide +kernel
theorem dX9_count_62 : decode cX9_count 62 = .ok (.invokevirtual 285, 3) := by decide +kernel
theorem dX9_count_65 : decode cX9_count 65 = .ok (.ireturn, 1) := by decide +kernel
theorem dX9_count_66 : decode cX9_count 66 = .ok (.aload_n 0, 1) := by decide +kernel
theorem dX9_count_67 : decode cX9_count 67 = .ok (.getfield 116, 3) := by decide +kernel
theorem dX9_count_70 : decode cX9_count 70 = .ok (.ifCond .eq 7, 3) := by decide +kernel
theorem dX9_count_77 : decode cX9_count 77 = .ok (.iconst 0, 1) := by decide +kernel
theorem dX9_count_78 : decode cX9_count 78 = .ok (.ireturn, 1) := by decide +kernel
theorem dX9_count_73 : decode cX9_count 73 = .ok (.iconst 1, 1) := by decide +kernel
theorem dX9_count_74 : decode cX9_count 74 = .ok (.goto 4, 3) := by decide +kernel
theorem dX9_count_79 : decode cX9_count 79 = .ok (.aload_n 0, 1) := by decide +kernel
theorem dX9_count_80 : decode cX9_count 80 = .ok (.getfield 81, 3) := by decide +kernel
theorem dX9_count_83 : decode cX9_count 83 = .ok (.ireturn, 1) := by decide +kernel
theorem dX9_count_84 : decode cX9_count 84 = .ok (.bipush (-2), 2) := by decide +kernel
theorem dX9_count_86 : decode cX9_count 86 = .ok (.ireturn, 1) := by decide +kernel
set_option maxHeartbeats 1000000 in
set_option maxRecDepth 100000 in
theorem fd_loop {p : Program} {l : Launch} {e : Env} {R : Room} {s : State} {m : MethodId} {args : Array Value} {below : List Frame} {meth : Method} {c : Code} {Q : State → Prop} {D : va_G} {A : Nat → Prop} {z : Nat → Nat} {cB cI_ cO : ClassId} {L0 : List Nat} {g0 : hG} {dk tp rd els reo nob pr bk gl sl mo by_ kn : Nat} {v10 v11 : Int32} {w : Int64} (hRf : 2 ≤ R.frames) (hRl : 40 ≤ R.locals) (hA : ∀ q : Nat, s.heap.size ≤ q → A q) (hf : CallFix p m c cX9_feed 5 s args gT yX9_feed.cls) (hK : va_K D vcl (dT cB cI_ cO) s) (hZ : zA z A s s.heap) (hN : zB z s) :
    ∀ (k : Nat) (x : Int32) (n : Nat) (T : Nat → Int32) (cells slots : Nat) (L : List Nat) (g : hG) (H : Heap) (locs : List Loc) (ls : Array Slot), x = nI k - 1 → k ≤ 8 → n ≤ 1200 → cells ≤ R.cells → slots ≤ R.slots → ho L g dk 1 (.inr (10, [.ref tp, .ref rd, .ref els, .ref reo, .ref nob, .ref pr, .ref bk, .ref gl, .ref sl, .int (nI mo), .int v10, .int v11])) → ho L g tp 2 (.inr (9, [.ref by_, .int (nI n)])) → ho L g by_ 3 (.inl (cB, 1200, .inl T)) → fr [2, 3] L0 g0 L g → va_P D vcl (dW L g) H → va_D A (dW L g) → va_S A s.heap H locs → lv_has ls 5 [(4, .int x), (0, .ref dk), (1, .long w), (3, .int (nI (kn + 1)))] →
    (∀ (n2 : Nat) (T2 : Nat → Int32)  (L : List Nat) (g : hG) (H : Heap) (locs : List Loc) (ls : Array Slot), (n2, T2) = tx_fd w k (n, T) → n2 ≤ 1200 → ho L g dk 1 (.inr (10, [.ref tp, .ref rd, .ref els, .ref reo, .ref nob, .ref pr, .ref bk, .ref gl, .ref sl, .int (nI mo), .int v10, .int v11])) → ho L g tp 2 (.inr (9, [.ref by_, .int (nI n2)])) → ho L g by_ 3 (.inl (cB, 1200, .inl T2)) → fr [2, 3] L0 g0 L g → va_P D vcl (dW L g) H → va_D A (dW L g) → va_S A s.heap H locs → lv_has ls 5 [(0, .ref dk)] → W p l e R s m args below meth c H locs cells slots Q (F0 m 63 ls [])) →
    W p l e R s m args below meth c H locs cells slots Q (F0 m 33 ls []) := by
  obtain ⟨hx, hb, hml, hown, hts⟩ := id hf
  intro k
  induction k with
  | zero =>
    intro x n T cells slots L g H locs ls hx_ hk8 hn hRc hRs h_dk h_tp h_by hfr hP hD hS hl kk
    obtain rfl : x = (-1) := hx_.trans (by decide)
    refine lv_iload hx hb dX9_feed_33 (lv_at hl 0 rfl) ?_
    refine lv_if_lt (tgt := 63) hx hb dX9_feed_35 (by decide) (fun _ => ?_) (fun hno => absurd hno (by decide))
    exact kk n T _ _ H locs ls rfl hn h_dk h_tp h_by hfr hP hD hS (lv_sub hl (l' := [(0, .ref dk)]) [1] rfl)
  | succ k ih =>
    intro x n T cells slots L g H locs ls hx_ hk8 hn hRc hRs h_dk h_tp h_by hfr hP hD hS hl kk
    obtain rfl : x = nI k := hx_.trans (nI_pred k)
    refine lv_iload hx hb dX9_feed_33 (lv_at hl 0 rfl) ?_
    refine lv_if_lt (tgt := 63) hx hb dX9_feed_35 (by decide) (fun c_1 => ?_) (fun c_1 => ?_)
    · have c_1 := q_lt (a := k) (b := 0) (by omega) (by omega) c_1
      exact False.elim (by omega)
    · have c_1 := q_nlt (a := k) (b := 0) (by omega) (by omega) c_1
      refine lv_aload_n hx hb dX9_feed_38 rfl (lv_at hl 1 rfl) ?_
      refine o_get (D := D) (ci := 10) (v := .ref tp) (C := RX9) (T := TX9) (N := 12) hx hb hts inX9 hown hK hP h_dk rfl 0 (by decide) (hts _ k_429) (fun _ h9 => h9) rfl dX9_feed_39 ?_
      refine lv_lload_n hx hb dX9_feed_42 rfl (lv_at hl 2 rfl) ?_
      refine lv_bipush (v := 8) hx hb dX9_feed_43 (by decide) ?_
      refine lv_iload hx hb dX9_feed_45 (lv_at hl 0 rfl) ?_
      refine lv_imul hx hb dX9_feed_47 ?_
      refine q_seti (y := nI (8 * k)) (nI_mulE (a := 8) (b := k) (by omega)) ?_
      refine lv_lushr (v := (w.toUInt64 >>> ((nI (8 * k)).toInt64.toUInt64 &&& Int64.toUInt64 63)).toInt64) hx hb dX9_feed_48 rfl ?_
      refine lv_l2i (v := ((w.toUInt64 >>> ((nI (8 * k)).toInt64.toUInt64 &&& Int64.toUInt64 63)).toInt64).toInt32) hx hb dX9_feed_49 rfl ?_
      refine lv_sipush (v := 255) hx hb dX9_feed_50 (by decide) ?_
      refine lv_iand hx hb dX9_feed_53 ?_
      refine o_cv (k := cells) (n := slots) hK hP hD hS hA (o_rV (As := [.int ((((w.toUInt64 >>> ((nI (8 * k)).toInt64.toUInt64 &&& Int64.toUInt64 63)).toInt64).toInt32) &&& 255)]) (rest := []) hf (t_put _ _ _ _ _ _ _ _ tp by_ n T ((((w.toUInt64 >>> ((nI (8 * k)).toInt64.toUInt64 &&& Int64.toUInt64 63)).toInt64).toInt32) &&& 255) h_tp h_by hn _) k_477 k_474 k_475 k_476 k_85 (nA := 1) (by decide +kernel) ⟨Nat.le_trans (by decide) hRf, Nat.le_trans (by decide) hRl⟩ hK hP hD hS hA hZ hN h_tp rfl rfl rfl hl.1 rfl (Nat.le_of_ble_eq_true rfl) dX9_feed_54 ⟨(show cells + 0 ≤ R.cells by omega), (show slots + 0 ≤ R.slots by omega)⟩) (Nat.le_refl _) (Nat.le_refl _) (fun L g H locs hw hP hD hS => ?_)
      obtain ⟨n1, T1, eT1, hf9, h_tp, h_by⟩ := hw
      have h_dk := h_dk.fr hf9 (by decide)
      have hfr := hfr.tr hf9
      have hn1 := tx_put_le eT1 hn
      refine lv_iinc (v := ((nI k) + (-1))) (lv' := [(4, .int ((nI k) + (-1))), (0, .ref dk), (1, .long w), (3, .int (nI (kn + 1)))]) hx hb dX9_feed_57 hl (k := 0) rfl rfl (by decide) rfl (fun ls hl => ?_)
      refine lv_goto (tgt := 33) hx hb dX9_feed_60 (by decide) ?_
      exact ih _ n1 T1 _ _ _ _ H locs ls (q_dec _) (by omega) hn1 hRc hRs h_dk h_tp h_by hfr hP hD hS (lv_sub hl (l' := [(4, .int ((nI k) + (-1))), (0, .ref dk), (1, .long w), (3, .int (nI (kn + 1)))]) [0, 1, 2, 3] rfl) (fun n2 T2 L g H locs ls a1 => kk n2 T2 L g H locs ls (a1.trans (by rw [eT1]; rfl)))
set_option maxHeartbeats 1000000 in
set_option maxRecDepth 100000 in
theorem d_feed (l : Launch) (D : va_G) (z : Nat → Nat) (cB cI_ cO : ClassId) (L0 : List Nat) (g0 : hG) (dk tp rd els reo nob pr bk gl sl mo : Nat) (v10 v11 : Int32) (by_ n : Nat) (T : Nat → Int32) (w : Int64) (x3 : Int32) (h_dk : ho L0 g0 dk 1 (.inr (10, [.ref tp, .ref rd, .ref els, .ref reo, .ref nob, .ref pr, .ref bk, .ref gl, .ref sl, .int (nI mo), .int v10, .int v11]))) (h_tp : ho L0 g0 tp 2 (.inr (9, [.ref by_, .int (nI n)]))) (h_by : ho L0 g0 by_ 3 (.inl (cB, 1200, .inl T))) (hn : n ≤ 1200) : eI l D yX9_feed cX9_feed 5 (some .int) 2 40 0 0 [.ref dk, .long w, .int x3] z cB cI_ cO L0 g0 (fun r L g => (((x3 < 1 ∨ 8 < x3) ∧ r = (-2) ∧ (L = L0 ∧ g = g0)) ∨ (∃ kn : Nat, kn < 8 ∧ x3 = nI (kn + 1) ∧ ¬ n + (kn + 1) ≤ 1200 ∧ r = (-4) ∧ (L = L0 ∧ g = g0)) ∨ (∃ (kn n2 : Nat) (T2 : Nat → Int32), kn < 8 ∧ x3 = nI (kn + 1) ∧ n + (kn + 1) ≤ 1200 ∧ (n2, T2) = tx_fd w (kn + 1) (n, T) ∧ n2 ≤ 1200 ∧ r = nI n2 ∧ fr [2, 3] L0 g0 L g ∧ ho L g tp 2 (.inr (9, [.ref by_, .int (nI n2)])) ∧ ho L g by_ 3 (.inl (cB, 1200, .inl T2))))) := by
  refine o_si (by decide) (Nat.le_of_ble_eq_true rfl) ?_
  intro p e s m below meth c A ls hf hr hlocks hin hK hP hD hS hA hZ hN hl
  obtain ⟨hx, hb, hml, hown, hts⟩ := id hf
  have hl : lv_has ls 5 [(0, .ref dk), (1, .long w), (3, .int x3)] := hl
  have hfr : fr [2, 3] L0 g0 L0 g0 := fr.rf
  refine lv_iload_n hx hb dX9_feed_0 rfl (lv_at hl 2 rfl) ?_
  refine lv_iconst (v := 1) hx hb dX9_feed_1 (by decide) ?_
  refine lv_icmp_lt (tgt := 11) hx hb dX9_feed_2 (by decide) (fun c_1 => ?_) (fun c_1 => ?_)
  · refine lv_bipush (v := (-2)) hx hb dX9_feed_11 (by decide) ?_
    exact o_ri hf hr rfl hlocks hK hP hD hS (show 0 ≤ 0 by omega) (show 0 ≤ 0 by omega) (Or.inl ⟨Or.inl c_1, rfl, rfl, rfl⟩) dX9_feed_13
  · refine lv_iload_n hx hb dX9_feed_5 rfl (lv_at hl 2 rfl) ?_
    refine lv_bipush (v := 8) hx hb dX9_feed_6 (by decide) ?_
    refine lv_icmp_le (tgt := 14) hx hb dX9_feed_8 (by decide) (fun c_2 => ?_) (fun c_2 => ?_)
    · obtain ⟨kn, hkn, rfl⟩ := fd_in c_1 (q_nlt_le c_2)
      have hl : lv_has ls 5 [(0, .ref dk), (1, .long w), (3, .int (nI (kn + 1)))] := hl
      refine lv_aload_n hx hb dX9_feed_14 rfl (lv_at hl 0 rfl) ?_
      refine o_get (D := D) (ci := 10) (v := .ref tp) (C := RX9) (T := TX9) (N := 12) hx hb hts inX9 hown hK hP h_dk rfl 0 (by decide) (hts _ k_429) (fun _ h9 => h9) rfl dX9_feed_15 ?_
      refine lv_iload_n hx hb dX9_feed_18 rfl (lv_at hl 2 rfl) ?_
      refine o_cis (k := 0) (n := 0) hK hP hD hS hA (o_rV (As := [.int (nI (kn + 1))]) (rest := []) hf (t_hasRoomFor _ _ _ _ _ _ _ _ tp by_ n T (kn + 1) h_tp hn (by omega) _) k_473 k_470 k_471 k_472 k_85 (nA := 1) (by decide +kernel) ⟨Nat.le_of_ble_eq_true rfl, Nat.le_of_ble_eq_true rfl⟩ hK hP hD hS hA hZ hN h_tp rfl rfl rfl hl.1 rfl (Nat.le_of_ble_eq_true rfl) dX9_feed_19 ⟨(show 0 + 0 ≤ 0 by omega), (show 0 + 0 ≤ 0 by omega)⟩) (Nat.le_refl _) (Nat.le_refl _) (fun r H locs hw hP hD hS => ?_)
      rcases hw with ⟨c_3, rfl⟩ | ⟨c_3, rfl⟩
      · have hP := hP
        refine lv_if_ne (tgt := 28) hx hb dX9_feed_22 (by decide) (fun _ => ?_) (fun hno => absurd hno (by decide))
        refine lv_iload_n hx hb dX9_feed_28 rfl (lv_at hl 2 rfl) ?_
        refine lv_iconst (v := 1) hx hb dX9_feed_29 (by decide) ?_
        refine lv_isub hx hb dX9_feed_30 ?_
        refine q_seti (y := nI (kn)) (nI_subE (a := kn + 1) (b := 1) (by omega) (by omega)) ?_
        refine lv_istore (lv' := [(4, .int (nI kn)), (0, .ref dk), (1, .long w), (3, .int (nI (kn + 1)))]) hx hb dX9_feed_31 hl (by decide) rfl (fun ls hl => ?_)
        refine fd_loop (L0 := L0) (g0 := g0) (kn := kn) (w := w) (Nat.le_of_ble_eq_true rfl) (Nat.le_of_ble_eq_true rfl) hA hf hK hZ hN (kn + 1) _ n T _ _ _ _ _ _ ls (nI_pred kn).symm (by omega) hn (Nat.zero_le _) (Nat.zero_le _) h_dk h_tp h_by hfr hP hD hS (lv_sub hl (l' := [(4, .int (nI kn)), (0, .ref dk), (1, .long w), (3, .int (nI (kn + 1)))]) [0, 1, 2, 3] rfl) (fun n2 T2 L g H locs ls a1 a2 h_dk h_tp h_by hfr hP hD hS hl => ?_)
        refine lv_aload_n hx hb dX9_feed_63 rfl (lv_at hl 0 rfl) ?_
        refine o_get (D := D) (ci := 10) (v := .ref tp) (C := RX9) (T := TX9) (N := 12) hx hb hts inX9 hown hK hP h_dk rfl 0 (by decide) (hts _ k_429) (fun _ h9 => h9) rfl dX9_feed_64 ?_
        refine o_cis (k := 0) (n := 0) hK hP hD hS hA (o_rV (As := []) (rest := []) hf (t_used _ _ _ _ _ _ _ _ tp by_ n2 T2 h_tp _) k_481 k_478 k_479 k_480 k_85 (nA := 0) (by decide +kernel) ⟨Nat.le_of_ble_eq_true rfl, Nat.le_of_ble_eq_true rfl⟩ hK hP hD hS hA hZ hN h_tp rfl rfl rfl hl.1 rfl (Nat.le_of_ble_eq_true rfl) dX9_feed_67 ⟨(show 0 + 0 ≤ 0 by omega), (show 0 + 0 ≤ 0 by omega)⟩) (Nat.le_refl _) (Nat.le_refl _) (fun r H locs hw hP hD hS => ?_)
        obtain rfl := hw
        exact o_ri hf hr rfl hlocks hK hP hD hS (show 0 ≤ 0 by omega) (show 0 ≤ 0 by omega) (Or.inr (Or.inr ⟨kn, n2, T2, hkn, rfl, c_3, a1, a2, rfl, hfr, h_tp, h_by⟩)) dX9_feed_70
      · have hP := hP
        refine lv_if_ne (tgt := 28) hx hb dX9_feed_22 (by decide) (fun hno => absurd hno (by decide)) (fun _ => ?_)
        refine lv_bipush (v := (-4)) hx hb dX9_feed_25 (by decide) ?_
        exact o_ri hf hr rfl hlocks hK hP hD hS (show 0 ≤ 0 by omega) (show 0 ≤ 0 by omega) (Or.inr (Or.inl ⟨kn, hkn, rfl, c_3, rfl, rfl, rfl⟩)) dX9_feed_27
    · refine lv_bipush (v := (-2)) hx hb dX9_feed_11 (by decide) ?_
      exact o_ri hf hr rfl hlocks hK hP hD hS (show 0 ≤ 0 by omega) (show 0 ≤ 0 by omega) (Or.inl ⟨Or.inr (q_lt_nle c_2), rfl, rfl, rfl⟩) dX9_feed_13
set_option maxHeartbeats 1000000 in
set_option maxRecDepth 100000 in
theorem d_el (l : Launch) (D : va_G) (z : Nat → Nat) (cB cI_ cO : ClassId) (L0 : List Nat) (g0 : hG) (dk tp rd els reo nob pr bk gl sl mo : Nat) (v10 v11 : Int32) (cap : Nat) (xs : List Nat) (Es : List E5) (x1 x2 : Int32) (h_dk : ho L0 g0 dk 1 (.inr (10, [.ref tp, .ref rd, .ref els, .ref reo, .ref nob, .ref pr, .ref bk, .ref gl, .ref sl, .int (nI mo), .int v10, .int v11]))) (h_els : alR cO (z 0) 5 6 L0 g0 els cap xs) (h_es : elsR cB cI_ L0 g0 xs Es) (hxl : xs.length ≤ 60) : eIs l D yX9_element cX9_element 4 (some .int) 4 85 0 0 [.ref dk, .int x1, .int x2] z cB cI_ cO L0 g0 (fun r => True) := by
  refine o_si (by decide) (Nat.le_of_ble_eq_true rfl) ?_
  intro p e s m below meth c A ls hf hr hlocks hin hK hP hD hS hA hZ hN hl
  obtain ⟨hx, hb, hml, hown, hts⟩ := id hf
  have hl : lv_has ls 4 [(0, .ref dk), (1, .int x1), (2, .int x2)] := hl
  refine lv_aload_n hx hb dX9_element_0 rfl (lv_at hl 0 rfl) ?_
  refine lv_iload_n hx hb dX9_element_1 rfl (lv_at hl 1 rfl) ?_
  refine o_cis (k := 0) (n := 0) hK hP hD hS hA (o_rV (As := [.int x1]) (rest := []) hf (d_isE _ _ _ _ _ _ _ _ dk tp rd els reo nob pr bk gl sl mo v10 v11 cap xs Es x1 h_dk h_els h_es hxl _) k_736 k_733 k_735 k_22 k_84 (nA := 1) (by decide +kernel) ⟨Nat.le_of_ble_eq_true rfl, Nat.le_of_ble_eq_true rfl⟩ hK hP hD hS hA hZ hN h_dk rfl rfl rfl hl.1 rfl (Nat.le_of_ble_eq_true rfl) dX9_element_2 ⟨(show 0 + 0 ≤ 0 by omega), (show 0 + 0 ≤ 0 by omega)⟩) (Nat.le_refl _) (Nat.le_refl _) (fun r H locs hw hP hD hS => ?_)
  rcases hw with ⟨c_1, rfl⟩ | ⟨c_1, rfl⟩
  · have hP := hP
    refine lv_if_ne (tgt := 11) hx hb dX9_element_5 (by decide) (fun _ => ?_) (fun hno => absurd hno (by decide))
    obtain ⟨j, hj, rfl⟩ := c_1
    have hl : lv_has ls 4 [(0, .ref dk), (1, .int (nI j)), (2, .int x2)] := hl
    refine lv_aload_n hx hb dX9_element_11 rfl (lv_at hl 0 rfl) ?_
    refine lv_iload_n hx hb dX9_element_12 rfl (lv_at hl 1 rfl) ?_
    refine o_crs (k := 0) (n := 0) hK hP hD hS hA (o_rV (As := [.int (nI j)]) (rest := []) hf (d_elAt _ _ _ _ _ _ _ _ dk tp rd els reo nob pr bk gl sl mo v10 v11 cap xs Es j h_dk h_els h_es hxl (by omega) _) k_740 k_737 k_739 k_23 k_84 (nA := 1) (by decide +kernel) ⟨Nat.le_of_ble_eq_true rfl, Nat.le_of_ble_eq_true rfl⟩ hK hP hD hS hA hZ hN h_dk rfl rfl rfl hl.1 rfl (Nat.le_of_ble_eq_true rfl) dX9_element_13 ⟨(show 0 + 0 ≤ 0 by omega), (show 0 + 0 ≤ 0 by omega)⟩) (Nat.le_refl _) (Nat.le_refl _) (fun r H locs hw hP hD hS => ?_)
    obtain rfl := hw
    obtain ⟨⟨txg2, rfg2, rtg2, h_eg2⟩, hr_g2⟩ := h_es.o2 (show j < xs.length by omega)
    refine lv_astore_n (lv' := [(3, .ref (xs.getD j 0)), (0, .ref dk), (1, .int (nI j)), (2, .int x2)]) hx hb dX9_element_16 rfl hl (by decide) rfl (fun ls hl => ?_)
    refine lv_iload_n hx hb dX9_element_17 rfl (lv_at hl 3 rfl) ?_
    rcases q_sw_0_3 x2 with c_3 | c_3 | c_3 | c_3 | c_3
    · refine q_seti (y := 0) c_3 ?_
      refine lv_tableIn (off := 30) (tgt := 48) hx hb dX9_element_18 (by decide) (by decide) (by decide) (by decide) ?_
      refine lv_aload_n hx hb dX9_element_48 rfl (lv_at hl 0 rfl) ?_
      refine o_get (D := D) (ci := 2) (v := .int ((Es.getD j dE).1)) (C := RX1) (T := TX1) (N := 9) hx hb hts inX1 hown hK hP h_eg2 rfl 0 (by decide) (hts _ k_228) (fun _ h9 => h9) rfl dX9_element_49 ?_
      exact o_ri hf hr rfl hlocks hK hP hD hS (show 0 ≤ 0 by omega) (show 0 ≤ 0 by omega) ⟨trivial, rfl, rfl⟩ dX9_element_52
    · refine q_seti (y := 1) c_3 ?_
      refine lv_tableIn (off := 35) (tgt := 53) hx hb dX9_element_18 (by decide) (by decide) (by decide) (by decide) ?_
      refine lv_aload_n hx hb dX9_element_53 rfl (lv_at hl 0 rfl) ?_
      refine o_cis (k := 0) (n := 0) hK hP hD hS hA (o_rV (As := []) (rest := []) hf (l_words _ _ _ _ _ _ _ _ (xs.getD j 0) ((Es.getD j dE).1) ((Es.getD j dE).2.1) ((Es.getD j dE).2.2.1) txg2 ((Es.getD j dE).2.2.2.2.length) ((Es.getD j dE).2.2.2.1) rfg2 rtg2 ((eRw (Es.getD j dE))) h_eg2 _) k_744 k_741 k_742 k_743 k_90 (nA := 0) (by decide +kernel) ⟨Nat.le_of_ble_eq_true rfl, Nat.le_of_ble_eq_true rfl⟩ hK hP hD hS hA hZ hN h_eg2 rfl rfl rfl hl.1 rfl (Nat.le_of_ble_eq_true rfl) dX9_element_54 ⟨(show 0 + 0 ≤ 0 by omega), (show 0 + 0 ≤ 0 by omega)⟩) (Nat.le_refl _) (Nat.le_refl _) (fun r H locs hw hP hD hS => ?_)
      obtain rfl := hw
      exact o_ri hf hr rfl hlocks hK hP hD hS (show 0 ≤ 0 by omega) (show 0 ≤ 0 by omega) ⟨trivial, rfl, rfl⟩ dX9_element_57
    · refine q_seti (y := 2) c_3 ?_
      refine lv_tableIn (off := 40) (tgt := 58) hx hb dX9_element_18 (by decide) (by decide) (by decide) (by decide) ?_
      refine lv_aload_n hx hb dX9_element_58 rfl (lv_at hl 0 rfl) ?_
      refine o_cis (k := 0) (n := 0) hK hP hD hS hA (o_rV (As := []) (rest := []) hf (l_rows _ _ _ _ _ _ _ _ (xs.getD j 0) ((Es.getD j dE).1) ((Es.getD j dE).2.1) ((Es.getD j dE).2.2.1) txg2 ((Es.getD j dE).2.2.2.2.length) ((Es.getD j dE).2.2.2.1) rfg2 rtg2 ((eRw (Es.getD j dE))) h_eg2 _) k_695 k_692 k_693 k_694 k_90 (nA := 0) (by decide +kernel) ⟨Nat.le_of_ble_eq_true rfl, Nat.le_of_ble_eq_true rfl⟩ hK hP hD hS hA hZ hN h_eg2 rfl rfl rfl hl.1 rfl (Nat.le_of_ble_eq_true rfl) dX9_element_59 ⟨(show 0 + 0 ≤ 0 by omega), (show 0 + 0 ≤ 0 by omega)⟩) (Nat.le_refl _) (Nat.le_refl _) (fun r H locs hw hP hD hS => ?_)
      obtain rfl := hw
      exact o_ri hf hr rfl hlocks hK hP hD hS (show 0 ≤ 0 by omega) (show 0 ≤ 0 by omega) ⟨trivial, rfl, rfl⟩ dX9_element_62
    · refine q_seti (y := 3) c_3 ?_
      refine lv_tableIn (off := 45) (tgt := 63) hx hb dX9_element_18 (by decide) (by decide) (by decide) (by decide) ?_
      refine lv_aload_n hx hb dX9_element_63 rfl (lv_at hl 0 rfl) ?_
      refine o_get (D := D) (ci := 2) (v := .int ((Es.getD j dE).2.2.1)) (C := RX1) (T := TX1) (N := 9) hx hb hts inX1 hown hK hP h_eg2 rfl 2 (by decide) (hts _ k_235) (fun _ h9 => h9) rfl dX9_element_64 ?_
      refine lv_if_eq (tgt := 74) hx hb dX9_element_67 (by decide) (fun c_4 => ?_) (fun c_4 => ?_)
      · refine lv_iconst (v := 0) hx hb dX9_element_74 (by decide) ?_
        exact o_ri hf hr rfl hlocks hK hP hD hS (show 0 ≤ 0 by omega) (show 0 ≤ 0 by omega) ⟨trivial, rfl, rfl⟩ dX9_element_75
      · refine lv_iconst (v := 1) hx hb dX9_element_70 (by decide) ?_
        refine lv_goto (tgt := 75) hx hb dX9_element_71 (by decide) ?_
        exact o_ri hf hr rfl hlocks hK hP hD hS (show 0 ≤ 0 by omega) (show 0 ≤ 0 by omega) ⟨trivial, rfl, rfl⟩ dX9_element_75
    · refine lv_tableOut (tgt := 76) hx hb dX9_element_18 c_3 (by decide) ?_
      refine lv_bipush (v := (-2)) hx hb dX9_element_76 (by decide) ?_
      exact o_ri hf hr rfl hlocks hK hP hD hS (show 0 ≤ 0 by omega) (show 0 ≤ 0 by omega) ⟨trivial, rfl, rfl⟩ dX9_element_78
  · have hP := hP
    refine lv_if_ne (tgt := 11) hx hb dX9_element_5 (by decide) (fun hno => absurd hno (by decide)) (fun _ => ?_)
    refine lv_bipush (v := (-2)) hx hb dX9_element_8 (by decide) ?_
    exact o_ri hf hr rfl hlocks hK hP hD hS (show 0 ≤ 0 by omega) (show 0 ≤ 0 by omega) ⟨trivial, rfl, rfl⟩ dX9_element_10
set_option maxHeartbeats 1000000 in
set_option maxRecDepth 100000 in
theorem d_strkl {p : Program} {l : Launch} {e : Env} {R : Room} {s : State} {m : MethodId} {args : Array Value} {below : List Frame} {meth : Method} {c : Code} {Q : State → Prop} {D : va_G} {A : Nat → Prop} {z : Nat → Nat} {cB cI_ cO : ClassId} {L0 : List Nat} {g0 : hG} {cells slots : Nat} {dk tp rd els reo nob pr bk gl sl mo : Nat} {v10 v11 : Int32} {cap : Nat} {xs : List Nat} {Es : List E5} (h_dk : ho L0 g0 dk 1 (.inr (10, [.ref tp, .ref rd, .ref els, .ref reo, .ref nob, .ref pr, .ref bk, .ref gl, .ref sl, .int (nI mo), .int v10, .int v11]))) (h_els : alR cO (z 0) 5 6 L0 g0 els cap xs) (h_es : elsR cB cI_ L0 g0 xs Es) (hxl : xs.length ≤ 60) (hRf : 4 ≤ R.frames) (hRl : 100 ≤ R.locals) (hRc : cells ≤ R.cells) (hRs : slots ≤ R.slots) (hA : ∀ q : Nat, s.heap.size ≤ q → A q) (hf : CallFix p m c cX9_struckElements 3 s args gT yX9_struckElements.cls) (hK : va_K D vcl (dT cB cI_ cO) s) (hZ : zA z A s s.heap) (hN : zB z s) :
    ∀ (k : Nat) (i : Nat) (c9 : Nat) (H : Heap) (locs : List Loc) (ls : Array Slot), i + k = xs.length → c9 ≤ 1 * i → va_P D vcl (dW L0 g0) H → va_D A (dW L0 g0) → va_S A s.heap H locs → lv_has ls 3 [(2, .int (nI i)), (1, .int (nI c9)), (0, .ref dk)] →
    (∀ (c9 : Nat) (hc9 : c9 ≤ 1 * 60) (H : Heap) (locs : List Loc) (ls : Array Slot), va_P D vcl (dW L0 g0) H → va_D A (dW L0 g0) → va_S A s.heap H locs → lv_has ls 3 [(1, .int (nI c9)), (0, .ref dk)] → W p l e R s m args below meth c H locs cells slots Q (F0 m 41 ls [])) →
    W p l e R s m args below meth c H locs cells slots Q (F0 m 4 ls []) := by
  obtain ⟨hx, hb, hml, hown, hts⟩ := id hf
  intro k
  induction k with
  | zero =>
    intro i c9 H locs ls hik hc9 hP hD hS hl kk
    refine lv_iload_n hx hb dX9_struckElements_4 rfl (lv_at hl 0 rfl) ?_
    refine lv_aload_n hx hb dX9_struckElements_5 rfl (lv_at hl 2 rfl) ?_
    refine o_get (D := D) (ci := 10) (v := .ref els) (C := RX9) (T := TX9) (N := 12) hx hb hts inX9 hown hK hP h_dk rfl 2 (by decide) (hts _ k_431) (fun _ h9 => h9) rfl dX9_struckElements_6 ?_
    obtain ⟨mc9, d9, h_al9⟩ := h_els.al
    refine o_cis (k := cells) (n := slots) hK hP hD hS hA (o_rV (As := []) (rest := [.int (nI i)]) hf (li_size _ _ _ _ _ _ _ _ els 5 6 cap xs h_els _) k_606 k_686 k_604 k_605 k_89 (nA := 0) (by decide +kernel) ⟨Nat.le_trans (by decide) hRf, Nat.le_trans (by decide) hRl⟩ hK hP hD hS hA hZ hN h_al9 rfl rfl rfl hl.1 rfl (Nat.le_of_ble_eq_true rfl) dX9_struckElements_9 ⟨(show cells + 0 ≤ R.cells by omega), (show slots + 0 ≤ R.slots by omega)⟩) (Nat.le_refl _) (Nat.le_refl _) (fun r H locs hw hP hD hS => ?_)
    obtain rfl := hw
    refine lv_icmp_ge (tgt := 41) hx hb dX9_struckElements_12 (by decide) (fun c_1 => ?_) (fun c_1 => ?_)
    · have c_1 := q_le (a := xs.length) (b := i) (by omega) (by omega) c_1
      exact kk c9 (by omega) H locs ls hP hD hS (lv_sub hl (l' := [(1, .int (nI c9)), (0, .ref dk)]) [1, 2] rfl)
    · have c_1 := q_nle (a := xs.length) (b := i) (by omega) (by omega) c_1
      exact False.elim (by omega)
  | succ k ih =>
    intro i c9 H locs ls hik hc9 hP hD hS hl kk
    refine lv_iload_n hx hb dX9_struckElements_4 rfl (lv_at hl 0 rfl) ?_
    refine lv_aload_n hx hb dX9_struckElements_5 rfl (lv_at hl 2 rfl) ?_
    refine o_get (D := D) (ci := 10) (v := .ref els) (C := RX9) (T := TX9) (N := 12) hx hb hts inX9 hown hK hP h_dk rfl 2 (by decide) (hts _ k_431) (fun _ h9 => h9) rfl dX9_struckElements_6 ?_
    obtain ⟨mc9, d9, h_al9⟩ := h_els.al
    refine o_cis (k := cells) (n := slots) hK hP hD hS hA (o_rV (As := []) (rest := [.int (nI i)]) hf (li_size _ _ _ _ _ _ _ _ els 5 6 cap xs h_els _) k_606 k_686 k_604 k_605 k_89 (nA := 0) (by decide +kernel) ⟨Nat.le_trans (by decide) hRf, Nat.le_trans (by decide) hRl⟩ hK hP hD hS hA hZ hN h_al9 rfl rfl rfl hl.1 rfl (Nat.le_of_ble_eq_true rfl) dX9_struckElements_9 ⟨(show cells + 0 ≤ R.cells by omega), (show slots + 0 ≤ R.slots by omega)⟩) (Nat.le_refl _) (Nat.le_refl _) (fun r H locs hw hP hD hS => ?_)
    obtain rfl := hw
    refine lv_icmp_ge (tgt := 41) hx hb dX9_struckElements_12 (by decide) (fun c_1 => ?_) (fun c_1 => ?_)
    · have c_1 := q_le (a := xs.length) (b := i) (by omega) (by omega) c_1
      exact False.elim (by omega)
    · have c_1 := q_nle (a := xs.length) (b := i) (by omega) (by omega) c_1
      refine lv_aload_n hx hb dX9_struckElements_15 rfl (lv_at hl 2 rfl) ?_
      refine o_get (D := D) (ci := 10) (v := .ref els) (C := RX9) (T := TX9) (N := 12) hx hb hts inX9 hown hK hP h_dk rfl 2 (by decide) (hts _ k_431) (fun _ h9 => h9) rfl dX9_struckElements_16 ?_
      refine lv_iload_n hx hb dX9_struckElements_19 rfl (lv_at hl 0 rfl) ?_
      obtain ⟨mc9, d9, h_al9⟩ := h_els.al
      refine o_crs (k := cells) (n := slots) hK hP hD hS hA (o_rV (As := [.int (nI i)]) (rest := []) hf (li_get _ _ _ _ _ _ _ _ els 5 6 cap xs i h_els (by omega) _) k_675 k_687 k_673 k_674 k_89 (nA := 1) (by decide +kernel) ⟨Nat.le_trans (by decide) hRf, Nat.le_trans (by decide) hRl⟩ hK hP hD hS hA hZ hN h_al9 rfl rfl rfl hl.1 rfl (Nat.le_of_ble_eq_true rfl) dX9_struckElements_20 ⟨(show cells + 0 ≤ R.cells by omega), (show slots + 0 ≤ R.slots by omega)⟩) (Nat.le_refl _) (Nat.le_refl _) (fun r H locs hw hP hD hS => ?_)
      obtain rfl := hw
      obtain ⟨⟨txg2, rfg2, rtg2, h_eg2⟩, hr_g2⟩ := h_es.o2 (show i < xs.length by omega)
      refine o_cast hx hb hown (hts _ k_180) hK hP h_eg2 rfl rfl dX9_struckElements_23 ?_
      refine o_get (D := D) (ci := 2) (v := .int ((Es.getD i dE).2.2.1)) (C := RX1) (T := TX1) (N := 9) hx hb hts inX1 hown hK hP h_eg2 rfl 2 (by decide) (hts _ k_235) (fun _ h9 => h9) rfl dX9_struckElements_26 ?_
      refine lv_if_eq (tgt := 35) hx hb dX9_struckElements_29 (by decide) (fun c_3 => ?_) (fun c_3 => ?_)
      · refine lv_iinc (v := nI (i + 1)) (lv' := [(2, .int (nI (i + 1))), (1, .int (nI c9)), (0, .ref dk)]) hx hb dX9_struckElements_35 hl (k := 0) rfl (nI_addE (a := i) (b := 1) (by omega)) (by decide) rfl (fun ls hl => ?_)
        refine lv_goto (tgt := 4) hx hb dX9_struckElements_38 (by decide) ?_
        exact ih (i + 1) c9 H locs ls (by omega) (by omega) hP hD hS (lv_sub hl (l' := [(2, .int (nI (i + 1))), (1, .int (nI c9)), (0, .ref dk)]) [0, 1, 2] rfl) kk
      · refine lv_iinc (v := nI (c9 + 1)) (lv' := [(1, .int (nI (c9 + 1))), (2, .int (nI i)), (0, .ref dk)]) hx hb dX9_struckElements_32 hl (k := 1) rfl (nI_addE (a := c9) (b := 1) (by omega)) (by decide) rfl (fun ls hl => ?_)
        refine lv_iinc (v := nI (i + 1)) (lv' := [(2, .int (nI (i + 1))), (1, .int (nI (c9 + 1))), (0, .ref dk)]) hx hb dX9_struckElements_35 hl (k := 1) rfl (nI_addE (a := i) (b := 1) (by omega)) (by decide) rfl (fun ls hl => ?_)
        refine lv_goto (tgt := 4) hx hb dX9_struckElements_38 (by decide) ?_
        exact ih (i + 1) (c9 + 1) H locs ls (by omega) (by omega) hP hD hS (lv_sub hl (l' := [(2, .int (nI (i + 1))), (1, .int (nI (c9 + 1))), (0, .ref dk)]) [0, 1, 2] rfl) kk
set_option maxHeartbeats 1000000 in
set_option maxRecDepth 100000 in
theorem d_strk (l : Launch) (D : va_G) (z : Nat → Nat) (cB cI_ cO : ClassId) (L0 : List Nat) (g0 : hG) (dk tp rd els reo nob pr bk gl sl mo : Nat) (v10 v11 : Int32) (cap : Nat) (xs : List Nat) (Es : List E5) (h_dk : ho L0 g0 dk 1 (.inr (10, [.ref tp, .ref rd, .ref els, .ref reo, .ref nob, .ref pr, .ref bk, .ref gl, .ref sl, .int (nI mo), .int v10, .int v11]))) (h_els : alR cO (z 0) 5 6 L0 g0 els cap xs) (h_es : elsR cB cI_ L0 g0 xs Es) (hxl : xs.length ≤ 60) : eIs l D yX9_struckElements cX9_struckElements 3 (some .int) 4 100 0 0 [.ref dk] z cB cI_ cO L0 g0 (fun r => ∃ c9 : Nat, c9 ≤ 1 * 60 ∧ r = nI c9) := by
  refine o_si (by decide) (Nat.le_of_ble_eq_true rfl) ?_
  intro p e s m below meth c A ls hf hr hlocks hin hK hP hD hS hA hZ hN hl
  obtain ⟨hx, hb, hml, hown, hts⟩ := id hf
  have hl : lv_has ls 3 [(0, .ref dk)] := hl
  refine lv_iconst (v := 0) hx hb dX9_struckElements_0 (by decide) ?_
  refine lv_istore_n (lv' := [(1, .int 0), (0, .ref dk)]) hx hb dX9_struckElements_1 rfl hl (by decide) rfl (fun ls hl => ?_)
  refine lv_iconst (v := 0) hx hb dX9_struckElements_2 (by decide) ?_
  refine lv_istore_n (lv' := [(2, .int 0), (1, .int 0), (0, .ref dk)]) hx hb dX9_struckElements_3 rfl hl (by decide) rfl (fun ls hl => ?_)
  refine d_strkl  h_dk h_els h_es hxl (Nat.le_of_ble_eq_true rfl) (Nat.le_of_ble_eq_true rfl) (show 0 ≤ 0 by omega) (show 0 ≤ 0 by omega) hA hf hK hZ hN xs.length 0 0 _ _ ls (by omega) (by omega) hP hD hS (lv_sub hl (l' := [(2, .int 0), (1, .int 0), (0, .ref dk)]) [0, 1, 2] rfl) ?_
  · intro c9 hc9 H locs ls hP hD hS hl
    refine lv_iload_n hx hb dX9_struckElements_41 rfl (lv_at hl 0 rfl) ?_
    exact o_ri hf hr rfl hlocks hK hP hD hS (show 0 ≤ 0 by omega) (show 0 ≤ 0 by omega) ⟨⟨c9, hc9, rfl⟩, rfl, rfl⟩ dX9_struckElements_42
set_option maxHeartbeats 1000000 in
set_option maxRecDepth 100000 in
theorem d_rnsl {p : Program} {l : Launch} {e : Env} {R : Room} {s : State} {m : MethodId} {args : Array Value} {below : List Frame} {meth : Method} {c : Code} {Q : State → Prop} {D : va_G} {A : Nat → Prop} {z : Nat → Nat} {cB cI_ cO : ClassId} {L0 : List Nat} {g0 : hG} {cells slots : Nat} {dk tp rd els reo nob pr bk gl sl mo : Nat} {v10 v11 : Int32} {cap : Nat} {xs : List Nat} {Es : List E5} (h_dk : ho L0 g0 dk 1 (.inr (10, [.ref tp, .ref rd, .ref els, .ref reo, .ref nob, .ref pr, .ref bk, .ref gl, .ref sl, .int (nI mo), .int v10, .int v11]))) (h_els : alR cO (z 0) 5 6 L0 g0 els cap xs) (h_es : elsR cB cI_ L0 g0 xs Es) (hxl : xs.length ≤ 60) (hRf : 4 ≤ R.frames) (hRl : 100 ≤ R.locals) (hRc : cells ≤ R.cells) (hRs : slots ≤ R.slots) (hA : ∀ q : Nat, s.heap.size ≤ q → A q) (hf : CallFix p m c cX9_rowsNotStruck 3 s args gT yX9_rowsNotStruck.cls) (hK : va_K D vcl (dT cB cI_ cO) s) (hZ : zA z A s s.heap) (hN : zB z s) :
    ∀ (k : Nat) (i : Nat) (c9 : Nat) (H : Heap) (locs : List Loc) (ls : Array Slot), i + k = xs.length → c9 ≤ 200 * i → va_P D vcl (dW L0 g0) H → va_D A (dW L0 g0) → va_S A s.heap H locs → lv_has ls 3 [(2, .int (nI i)), (1, .int (nI c9)), (0, .ref dk)] →
    (∀ (c9 : Nat) (hc9 : c9 ≤ 200 * 60) (H : Heap) (locs : List Loc) (ls : Array Slot), va_P D vcl (dW L0 g0) H → va_D A (dW L0 g0) → va_S A s.heap H locs → lv_has ls 3 [(1, .int (nI c9)), (0, .ref dk)] → W p l e R s m args below meth c H locs cells slots Q (F0 m 55 ls [])) →
    W p l e R s m args below meth c H locs cells slots Q (F0 m 4 ls []) := by
  obtain ⟨hx, hb, hml, hown, hts⟩ := id hf
  intro k
  induction k with
  | zero =>
    intro i c9 H locs ls hik hc9 hP hD hS hl kk
    refine lv_iload_n hx hb dX9_rowsNotStruck_4 rfl (lv_at hl 0 rfl) ?_
    refine lv_aload_n hx hb dX9_rowsNotStruck_5 rfl (lv_at hl 2 rfl) ?_
    refine o_get (D := D) (ci := 10) (v := .ref els) (C := RX9) (T := TX9) (N := 12) hx hb hts inX9 hown hK hP h_dk rfl 2 (by decide) (hts _ k_431) (fun _ h9 => h9) rfl dX9_rowsNotStruck_6 ?_
    obtain ⟨mc9, d9, h_al9⟩ := h_els.al
    refine o_cis (k := cells) (n := slots) hK hP hD hS hA (o_rV (As := []) (rest := [.int (nI i)]) hf (li_size _ _ _ _ _ _ _ _ els 5 6 cap xs h_els _) k_606 k_686 k_604 k_605 k_89 (nA := 0) (by decide +kernel) ⟨Nat.le_trans (by decide) hRf, Nat.le_trans (by decide) hRl⟩ hK hP hD hS hA hZ hN h_al9 rfl rfl rfl hl.1 rfl (Nat.le_of_ble_eq_true rfl) dX9_rowsNotStruck_9 ⟨(show cells + 0 ≤ R.cells by omega), (show slots + 0 ≤ R.slots by omega)⟩) (Nat.le_refl _) (Nat.le_refl _) (fun r H locs hw hP hD hS => ?_)
    obtain rfl := hw
    refine lv_icmp_ge (tgt := 55) hx hb dX9_rowsNotStruck_12 (by decide) (fun c_1 => ?_) (fun c_1 => ?_)
    · have c_1 := q_le (a := xs.length) (b := i) (by omega) (by omega) c_1
      exact kk c9 (by omega) H locs ls hP hD hS (lv_sub hl (l' := [(1, .int (nI c9)), (0, .ref dk)]) [1, 2] rfl)
    · have c_1 := q_nle (a := xs.length) (b := i) (by omega) (by omega) c_1
      exact False.elim (by omega)
  | succ k ih =>
    intro i c9 H locs ls hik hc9 hP hD hS hl kk
    refine lv_iload_n hx hb dX9_rowsNotStruck_4 rfl (lv_at hl 0 rfl) ?_
    refine lv_aload_n hx hb dX9_rowsNotStruck_5 rfl (lv_at hl 2 rfl) ?_
    refine o_get (D := D) (ci := 10) (v := .ref els) (C := RX9) (T := TX9) (N := 12) hx hb hts inX9 hown hK hP h_dk rfl 2 (by decide) (hts _ k_431) (fun _ h9 => h9) rfl dX9_rowsNotStruck_6 ?_
    obtain ⟨mc9, d9, h_al9⟩ := h_els.al
    refine o_cis (k := cells) (n := slots) hK hP hD hS hA (o_rV (As := []) (rest := [.int (nI i)]) hf (li_size _ _ _ _ _ _ _ _ els 5 6 cap xs h_els _) k_606 k_686 k_604 k_605 k_89 (nA := 0) (by decide +kernel) ⟨Nat.le_trans (by decide) hRf, Nat.le_trans (by decide) hRl⟩ hK hP hD hS hA hZ hN h_al9 rfl rfl rfl hl.1 rfl (Nat.le_of_ble_eq_true rfl) dX9_rowsNotStruck_9 ⟨(show cells + 0 ≤ R.cells by omega), (show slots + 0 ≤ R.slots by omega)⟩) (Nat.le_refl _) (Nat.le_refl _) (fun r H locs hw hP hD hS => ?_)
    obtain rfl := hw
    refine lv_icmp_ge (tgt := 55) hx hb dX9_rowsNotStruck_12 (by decide) (fun c_1 => ?_) (fun c_1 => ?_)
    · have c_1 := q_le (a := xs.length) (b := i) (by omega) (by omega) c_1
      exact False.elim (by omega)
    · have c_1 := q_nle (a := xs.length) (b := i) (by omega) (by omega) c_1
      refine lv_aload_n hx hb dX9_rowsNotStruck_15 rfl (lv_at hl 2 rfl) ?_
      refine o_get (D := D) (ci := 10) (v := .ref els) (C := RX9) (T := TX9) (N := 12) hx hb hts inX9 hown hK hP h_dk rfl 2 (by decide) (hts _ k_431) (fun _ h9 => h9) rfl dX9_rowsNotStruck_16 ?_
      refine lv_iload_n hx hb dX9_rowsNotStruck_19 rfl (lv_at hl 0 rfl) ?_
      obtain ⟨mc9, d9, h_al9⟩ := h_els.al
      refine o_crs (k := cells) (n := slots) hK hP hD hS hA (o_rV (As := [.int (nI i)]) (rest := []) hf (li_get _ _ _ _ _ _ _ _ els 5 6 cap xs i h_els (by omega) _) k_675 k_687 k_673 k_674 k_89 (nA := 1) (by decide +kernel) ⟨Nat.le_trans (by decide) hRf, Nat.le_trans (by decide) hRl⟩ hK hP hD hS hA hZ hN h_al9 rfl rfl rfl hl.1 rfl (Nat.le_of_ble_eq_true rfl) dX9_rowsNotStruck_20 ⟨(show cells + 0 ≤ R.cells by omega), (show slots + 0 ≤ R.slots by omega)⟩) (Nat.le_refl _) (Nat.le_refl _) (fun r H locs hw hP hD hS => ?_)
      obtain rfl := hw
      obtain ⟨⟨txg2, rfg2, rtg2, h_eg2⟩, hr_g2⟩ := h_es.o2 (show i < xs.length by omega)
      refine o_cast hx hb hown (hts _ k_180) hK hP h_eg2 rfl rfl dX9_rowsNotStruck_23 ?_
      refine o_get (D := D) (ci := 2) (v := .int ((Es.getD i dE).2.2.1)) (C := RX1) (T := TX1) (N := 9) hx hb hts inX1 hown hK hP h_eg2 rfl 2 (by decide) (hts _ k_235) (fun _ h9 => h9) rfl dX9_rowsNotStruck_26 ?_
      refine lv_if_ne (tgt := 49) hx hb dX9_rowsNotStruck_29 (by decide) (fun c_3 => ?_) (fun c_3 => ?_)
      · refine lv_iinc (v := nI (i + 1)) (lv' := [(2, .int (nI (i + 1))), (1, .int (nI c9)), (0, .ref dk)]) hx hb dX9_rowsNotStruck_49 hl (k := 0) rfl (nI_addE (a := i) (b := 1) (by omega)) (by decide) rfl (fun ls hl => ?_)
        refine lv_goto (tgt := 4) hx hb dX9_rowsNotStruck_52 (by decide) ?_
        exact ih (i + 1) c9 H locs ls (by omega) (by omega) hP hD hS (lv_sub hl (l' := [(2, .int (nI (i + 1))), (1, .int (nI c9)), (0, .ref dk)]) [0, 1, 2] rfl) kk
      · refine lv_iload_n hx hb dX9_rowsNotStruck_32 rfl (lv_at hl 1 rfl) ?_
        refine lv_aload_n hx hb dX9_rowsNotStruck_33 rfl (lv_at hl 2 rfl) ?_
        refine o_get (D := D) (ci := 10) (v := .ref els) (C := RX9) (T := TX9) (N := 12) hx hb hts inX9 hown hK hP h_dk rfl 2 (by decide) (hts _ k_431) (fun _ h9 => h9) rfl dX9_rowsNotStruck_34 ?_
        refine lv_iload_n hx hb dX9_rowsNotStruck_37 rfl (lv_at hl 0 rfl) ?_
        obtain ⟨mc9, d9, h_al9⟩ := h_els.al
        refine o_crs (k := cells) (n := slots) hK hP hD hS hA (o_rV (As := [.int (nI i)]) (rest := [.int (nI c9)]) hf (li_get _ _ _ _ _ _ _ _ els 5 6 cap xs i h_els (by omega) _) k_675 k_687 k_673 k_674 k_89 (nA := 1) (by decide +kernel) ⟨Nat.le_trans (by decide) hRf, Nat.le_trans (by decide) hRl⟩ hK hP hD hS hA hZ hN h_al9 rfl rfl rfl hl.1 rfl (Nat.le_of_ble_eq_true rfl) dX9_rowsNotStruck_38 ⟨(show cells + 0 ≤ R.cells by omega), (show slots + 0 ≤ R.slots by omega)⟩) (Nat.le_refl _) (Nat.le_refl _) (fun r H locs hw hP hD hS => ?_)
        obtain rfl := hw
        obtain ⟨⟨txg4, rfg4, rtg4, h_eg4⟩, hr_g4⟩ := h_es.o2 (show i < xs.length by omega)
        refine o_cast hx hb hown (hts _ k_180) hK hP h_eg2 rfl rfl dX9_rowsNotStruck_41 ?_
        refine o_cis (k := cells) (n := slots) hK hP hD hS hA (o_rV (As := []) (rest := [.int (nI c9)]) hf (l_rows _ _ _ _ _ _ _ _ (xs.getD i 0) ((Es.getD i dE).1) ((Es.getD i dE).2.1) ((Es.getD i dE).2.2.1) txg2 ((Es.getD i dE).2.2.2.2.length) ((Es.getD i dE).2.2.2.1) rfg2 rtg2 ((eRw (Es.getD i dE))) h_eg2 _) k_695 k_692 k_693 k_694 k_90 (nA := 0) (by decide +kernel) ⟨Nat.le_trans (by decide) hRf, Nat.le_trans (by decide) hRl⟩ hK hP hD hS hA hZ hN h_eg2 rfl rfl rfl hl.1 rfl (Nat.le_of_ble_eq_true rfl) dX9_rowsNotStruck_44 ⟨(show cells + 0 ≤ R.cells by omega), (show slots + 0 ≤ R.slots by omega)⟩) (Nat.le_refl _) (Nat.le_refl _) (fun r H locs hw hP hD hS => ?_)
        obtain rfl := hw
        refine lv_iadd hx hb dX9_rowsNotStruck_47 ?_
        refine q_seti (y := nI (c9 + eRw (Es.getD i dE))) (nI_addE (a := c9) (b := (eRw (Es.getD i dE))) (by omega)) ?_
        refine lv_istore_n (lv' := [(1, .int (nI (c9 + eRw (Es.getD i dE)))), (2, .int (nI i)), (0, .ref dk)]) hx hb dX9_rowsNotStruck_48 rfl hl (by decide) rfl (fun ls hl => ?_)
        refine lv_iinc (v := nI (i + 1)) (lv' := [(2, .int (nI (i + 1))), (1, .int (nI (c9 + eRw (Es.getD i dE)))), (0, .ref dk)]) hx hb dX9_rowsNotStruck_49 hl (k := 1) rfl (nI_addE (a := i) (b := 1) (by omega)) (by decide) rfl (fun ls hl => ?_)
        refine lv_goto (tgt := 4) hx hb dX9_rowsNotStruck_52 (by decide) ?_
        exact ih (i + 1) (c9 + eRw (Es.getD i dE)) H locs ls (by omega) (by omega) hP hD hS (lv_sub hl (l' := [(2, .int (nI (i + 1))), (1, .int (nI (c9 + eRw (Es.getD i dE)))), (0, .ref dk)]) [0, 1, 2] rfl) kk
set_option maxHeartbeats 1000000 in
set_option maxRecDepth 100000 in
theorem d_rns (l : Launch) (D : va_G) (z : Nat → Nat) (cB cI_ cO : ClassId) (L0 : List Nat) (g0 : hG) (dk tp rd els reo nob pr bk gl sl mo : Nat) (v10 v11 : Int32) (cap : Nat) (xs : List Nat) (Es : List E5) (h_dk : ho L0 g0 dk 1 (.inr (10, [.ref tp, .ref rd, .ref els, .ref reo, .ref nob, .ref pr, .ref bk, .ref gl, .ref sl, .int (nI mo), .int v10, .int v11]))) (h_els : alR cO (z 0) 5 6 L0 g0 els cap xs) (h_es : elsR cB cI_ L0 g0 xs Es) (hxl : xs.length ≤ 60) : eIs l D yX9_rowsNotStruck cX9_rowsNotStruck 3 (some .int) 4 100 0 0 [.ref dk] z cB cI_ cO L0 g0 (fun r => ∃ c9 : Nat, c9 ≤ 200 * 60 ∧ r = nI c9) := by
  refine o_si (by decide) (Nat.le_of_ble_eq_true rfl) ?_
  intro p e s m below meth c A ls hf hr hlocks hin hK hP hD hS hA hZ hN hl
  obtain ⟨hx, hb, hml, hown, hts⟩ := id hf
  have hl : lv_has ls 3 [(0, .ref dk)] := hl
  refine lv_iconst (v := 0) hx hb dX9_rowsNotStruck_0 (by decide) ?_
  refine lv_istore_n (lv' := [(1, .int 0), (0, .ref dk)]) hx hb dX9_rowsNotStruck_1 rfl hl (by decide) rfl (fun ls hl => ?_)
  refine lv_iconst (v := 0) hx hb dX9_rowsNotStruck_2 (by decide) ?_
  refine lv_istore_n (lv' := [(2, .int 0), (1, .int 0), (0, .ref dk)]) hx hb dX9_rowsNotStruck_3 rfl hl (by decide) rfl (fun ls hl => ?_)
  refine d_rnsl  h_dk h_els h_es hxl (Nat.le_of_ble_eq_true rfl) (Nat.le_of_ble_eq_true rfl) (show 0 ≤ 0 by omega) (show 0 ≤ 0 by omega) hA hf hK hZ hN xs.length 0 0 _ _ ls (by omega) (by omega) hP hD hS (lv_sub hl (l' := [(2, .int 0), (1, .int 0), (0, .ref dk)]) [0, 1, 2] rfl) ?_
  · intro c9 hc9 H locs ls hP hD hS hl
    refine lv_iload_n hx hb dX9_rowsNotStruck_55 rfl (lv_at hl 0 rfl) ?_
    exact o_ri hf hr rfl hlocks hK hP hD hS (show 0 ≤ 0 by omega) (show 0 ≤ 0 by omega) ⟨⟨c9, hc9, rfl⟩, rfl, rfl⟩ dX9_rowsNotStruck_56
set_option maxHeartbeats 1000000 in
set_option maxRecDepth 100000 in
theorem d_count (l : Launch) (D : va_G) (z : Nat → Nat) (cB cI_ cO : ClassId) (L0 : List Nat) (g0 : hG) (dk tp rd els reo nob pr bk gl sl mo : Nat) (v10 v11 : Int32) (cap : Nat) (xs : List Nat) (Es : List E5) (by_ n : Nat) (T : Nat → Int32) (x1 : Int32) (h_dk : ho L0 g0 dk 1 (.inr (10, [.ref tp, .ref rd, .ref els, .ref reo, .ref nob, .ref pr, .ref bk, .ref gl, .ref sl, .int (nI mo), .int v10, .int v11]))) (h_els : alR cO (z 0) 5 6 L0 g0 els cap xs) (h_es : elsR cB cI_ L0 g0 xs Es) (h_tp : ho L0 g0 tp 2 (.inr (9, [.ref by_, .int (nI n)]))) (h_by : ho L0 g0 by_ 3 (.inl (cB, 1200, .inl T))) (hxl : xs.length ≤ 60) : eIs l D yX9_count cX9_count 2 (some .int) 5 122 0 0 [.ref dk, .int x1] z cB cI_ cO L0 g0 (fun r => True) := by
  refine o_si (by decide) (Nat.le_of_ble_eq_true rfl) ?_
  intro p e s m below meth c A ls hf hr hlocks hin hK hP hD hS hA hZ hN hl
  obtain ⟨hx, hb, hml, hown, hts⟩ := id hf
  have hl : lv_has ls 2 [(0, .ref dk), (1, .int x1)] := hl
  refine lv_iload_n hx hb dX9_count_0 rfl (lv_at hl 1 rfl) ?_
  rcases q_sw_0_5 x1 with c_1 | c_1 | c_1 | c_1 | c_1 | c_1 | c_1
  · refine q_seti (y := 0) c_1 ?_
    refine lv_tableIn (off := 39) (tgt := 40) hx hb dX9_count_1 (by decide) (by decide) (by decide) (by decide) ?_
    refine lv_aload_n hx hb dX9_count_40 rfl (lv_at hl 0 rfl) ?_
    refine o_get (D := D) (ci := 10) (v := .ref tp) (C := RX9) (T := TX9) (N := 12) hx hb hts inX9 hown hK hP h_dk rfl 0 (by decide) (hts _ k_429) (fun _ h9 => h9) rfl dX9_count_41 ?_
    refine o_cis (k := 0) (n := 0) hK hP hD hS hA (o_rV (As := []) (rest := []) hf (t_used _ _ _ _ _ _ _ _ tp by_ n T h_tp _) k_481 k_478 k_479 k_480 k_85 (nA := 0) (by decide +kernel) ⟨Nat.le_of_ble_eq_true rfl, Nat.le_of_ble_eq_true rfl⟩ hK hP hD hS hA hZ hN h_tp rfl rfl rfl hl.1 rfl (Nat.le_of_ble_eq_true rfl) dX9_count_44 ⟨(show 0 + 0 ≤ 0 by omega), (show 0 + 0 ≤ 0 by omega)⟩) (Nat.le_refl _) (Nat.le_refl _) (fun r H locs hw hP hD hS => ?_)
    obtain rfl := hw
    exact o_ri hf hr rfl hlocks hK hP hD hS (show 0 ≤ 0 by omega) (show 0 ≤ 0 by omega) ⟨trivial, rfl, rfl⟩ dX9_count_47
  · refine q_seti (y := 1) c_1 ?_
    refine lv_tableIn (off := 47) (tgt := 48) hx hb dX9_count_1 (by decide) (by decide) (by decide) (by decide) ?_
    refine lv_aload_n hx hb dX9_count_48 rfl (lv_at hl 0 rfl) ?_
    refine o_get (D := D) (ci := 10) (v := .ref els) (C := RX9) (T := TX9) (N := 12) hx hb hts inX9 hown hK hP h_dk rfl 2 (by decide) (hts _ k_431) (fun _ h9 => h9) rfl dX9_count_49 ?_
    obtain ⟨mc9, d9, h_al9⟩ := h_els.al
    refine o_cis (k := 0) (n := 0) hK hP hD hS hA (o_rV (As := []) (rest := []) hf (li_size _ _ _ _ _ _ _ _ els 5 6 cap xs h_els _) k_606 k_686 k_604 k_605 k_89 (nA := 0) (by decide +kernel) ⟨Nat.le_of_ble_eq_true rfl, Nat.le_of_ble_eq_true rfl⟩ hK hP hD hS hA hZ hN h_al9 rfl rfl rfl hl.1 rfl (Nat.le_of_ble_eq_true rfl) dX9_count_52 ⟨(show 0 + 0 ≤ 0 by omega), (show 0 + 0 ≤ 0 by omega)⟩) (Nat.le_refl _) (Nat.le_refl _) (fun r H locs hw hP hD hS => ?_)
    obtain rfl := hw
    exact o_ri hf hr rfl hlocks hK hP hD hS (show 0 ≤ 0 by omega) (show 0 ≤ 0 by omega) ⟨trivial, rfl, rfl⟩ dX9_count_55
  · refine q_seti (y := 2) c_1 ?_
    refine lv_tableIn (off := 55) (tgt := 56) hx hb dX9_count_1 (by decide) (by decide) (by decide) (by decide) ?_
    refine lv_aload_n hx hb dX9_count_56 rfl (lv_at hl 0 rfl) ?_
    refine o_cis (k := 0) (n := 0) hK hP hD hS hA (o_rV (As := []) (rest := []) hf (d_strk _ _ _ _ _ _ _ _ dk tp rd els reo nob pr bk gl sl mo v10 v11 cap xs Es h_dk h_els h_es hxl _) k_1114 k_1111 k_1113 k_42 k_84 (nA := 0) (by decide +kernel) ⟨Nat.le_of_ble_eq_true rfl, Nat.le_of_ble_eq_true rfl⟩ hK hP hD hS hA hZ hN h_dk rfl rfl rfl hl.1 rfl (Nat.le_of_ble_eq_true rfl) dX9_count_57 ⟨(show 0 + 0 ≤ 0 by omega), (show 0 + 0 ≤ 0 by omega)⟩) (Nat.le_refl _) (Nat.le_refl _) (fun r H locs hw hP hD hS => ?_)
    obtain ⟨c9, hc9, rfl⟩ := hw
    exact o_ri hf hr rfl hlocks hK hP hD hS (show 0 ≤ 0 by omega) (show 0 ≤ 0 by omega) ⟨trivial, rfl, rfl⟩ dX9_count_60
  · refine q_seti (y := 3) c_1 ?_
    refine lv_tableIn (off := 60) (tgt := 61) hx hb dX9_count_1 (by decide) (by decide) (by decide) (by decide) ?_
    refine lv_aload_n hx hb dX9_count_61 rfl (lv_at hl 0 rfl) ?_
    refine o_cis (k := 0) (n := 0) hK hP hD hS hA (o_rV (As := []) (rest := []) hf (d_rns _ _ _ _ _ _ _ _ dk tp rd els reo nob pr bk gl sl mo v10 v11 cap xs Es h_dk h_els h_es hxl _) k_1118 k_1115 k_1117 k_43 k_84 (nA := 0) (by decide +kernel) ⟨Nat.le_of_ble_eq_true rfl, Nat.le_of_ble_eq_true rfl⟩ hK hP hD hS hA hZ hN h_dk rfl rfl rfl hl.1 rfl (Nat.le_of_ble_eq_true rfl) dX9_count_62 ⟨(show 0 + 0 ≤ 0 by omega), (show 0 + 0 ≤ 0 by omega)⟩) (Nat.le_refl _) (Nat.le_refl _) (fun r H locs hw hP hD hS => ?_)
    obtain ⟨c9, hc9, rfl⟩ := hw
    exact o_ri hf hr rfl hlocks hK hP hD hS (show 0 ≤ 0 by omega) (show 0 ≤ 0 by omega) ⟨trivial, rfl, rfl⟩ dX9_count_65
  · refine q_seti (y := 4) c_1 ?_
    refine lv_tableIn (off := 65) (tgt := 66) hx hb dX9_count_1 (by decide) (by decide) (by decide) (by decide) ?_
    refine lv_aload_n hx hb dX9_count_66 rfl (lv_at hl 0 rfl) ?_
    refine o_get (D := D) (ci := 10) (v := .int v10) (C := RX9) (T := TX9) (N := 12) hx hb hts inX9 hown hK hP h_dk rfl 10 (by decide) (hts _ k_439) (fun _ h9 => h9) rfl dX9_count_67 ?_
    refine lv_if_eq (tgt := 77) hx hb dX9_count_70 (by decide) (fun c_2 => ?_) (fun c_2 => ?_)
    · refine lv_iconst (v := 0) hx hb dX9_count_77 (by decide) ?_
      exact o_ri hf hr rfl hlocks hK hP hD hS (show 0 ≤ 0 by omega) (show 0 ≤ 0 by omega) ⟨trivial, rfl, rfl⟩ dX9_count_78
    · refine lv_iconst (v := 1) hx hb dX9_count_73 (by decide) ?_
      refine lv_goto (tgt := 78) hx hb dX9_count_74 (by decide) ?_
      exact o_ri hf hr rfl hlocks hK hP hD hS (show 0 ≤ 0 by omega) (show 0 ≤ 0 by omega) ⟨trivial, rfl, rfl⟩ dX9_count_78
  · refine q_seti (y := 5) c_1 ?_
    refine lv_tableIn (off := 78) (tgt := 79) hx hb dX9_count_1 (by decide) (by decide) (by decide) (by decide) ?_
    refine lv_aload_n hx hb dX9_count_79 rfl (lv_at hl 0 rfl) ?_
    refine o_get (D := D) (ci := 10) (v := .int (nI mo)) (C := RX9) (T := TX9) (N := 12) hx hb hts inX9 hown hK hP h_dk rfl 9 (by decide) (hts _ k_438) (fun _ h9 => h9) rfl dX9_count_80 ?_
    exact o_ri hf hr rfl hlocks hK hP hD hS (show 0 ≤ 0 by omega) (show 0 ≤ 0 by omega) ⟨trivial, rfl, rfl⟩ dX9_count_83
  · refine lv_tableOut (tgt := 84) hx hb dX9_count_1 c_1 (by decide) ?_
    refine lv_bipush (v := (-2)) hx hb dX9_count_84 (by decide) ?_
    exact o_ri hf hr rfl hlocks hK hP hD hS (show 0 ≤ 0 by omega) (show 0 ≤ 0 by omega) ⟨trivial, rfl, rfl⟩ dX9_count_86
