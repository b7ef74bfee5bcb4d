noncomputable def rwAt (x : E5) (i : Nat) : Nat × Nat := (tx_rows x.1 x.2.2.2.2).getD (eRw x - 1 - i) (0, 0)
theorem tx_rv_at {f12 f13 : Nat → Int32} {b : Nat} : ∀ {Rv : List (Nat × Nat)}, tx_rv f12 f13 b Rv → ∀ i, i < Rv.length → f12 (b + i) = nI (Rv.getD (Rv.length - 1 - i) (0, 0)).1 ∧ f13 (b + i) = nI (Rv.getD (Rv.length - 1 - i) (0, 0)).2
  | [], _, i, hi => absurd hi (Nat.not_lt_zero i)
  | x :: t, h, i, hi => by
    have hl : (x :: t).length = t.length + 1 := rfl
    by_cases c : i = t.length
    · rw [c, show (x :: t).length - 1 - t.length = 0 by omega]
      exact ⟨h.1, h.2.1⟩
    · rw [show (x :: t).length - 1 - i = (t.length - 1 - i) + 1 by omega]
      exact tx_rv_at h.2.2 i (by omega)
theorem rwAt_in {x : E5} {i : Nat} (h : i < eRw x) : (rwAt x i).1 + (rwAt x i).2 ≤ x.2.2.2.2.length := by
  have h1 : eRw x - 1 - i < (tx_rows x.1 x.2.2.2.2).length := by show eRw x - 1 - i < eRw x; omega
  have h2 : rwAt x i ∈ tx_rows x.1 x.2.2.2.2 := by
    unfold rwAt
    rw [List.getD_eq_getElem?_getD, List.getElem?_eq_getElem h1]
    exact List.getElem_mem _
  exact (rows_in _ _ _ h2).1
abbrev cX10_count : ByteArray := prog_12_method_62_code
def yX10_count : MethodName := ⟨RX10, "count", "(I)I"⟩
abbrev cX10_element : ByteArray := prog_12_method_24_code
def yX10_element : MethodName := ⟨RX10, "element", "(II)I"⟩
abbrev cX10_elementOf : ByteArray := prog_12_method_23_code
def yX10_elementOf : MethodName := ⟨RX10, "elementOf", "(II)I"⟩
abbrev cX10_page : ByteArray := prog_12_method_37_code
def yX10_page : MethodName := ⟨RX10, "page", "(II)I"⟩
abbrev cX10_rowByte : ByteArray := prog_12_method_25_code
def yX10_rowByte : MethodName := ⟨RX10, "rowByte", "(III)I"⟩
abbrev cX10_sheets : ByteArray := prog_12_method_46_code
def yX10_sheets : MethodName := ⟨RX10, "sheets", "(I)I"⟩
theorem k_60 : (Cond.selects RX10 yX10_elementOf yX10_elementOf) ∈ gT := gT_i 60 (by decide +kernel) rfl
theorem k_74 : (Cond.selects RX10 yX10_isGroup yX10_isGroup) ∈ gT := gT_i 74 (by decide +kernel) rfl
theorem k_1372 : (Cond.methodLink RX10 191 yX10_elementOf) ∈ gT := gT_i 1372 (by decide +kernel) rfl
theorem k_1374 : (Cond.instanceMethod yX10_elementOf) ∈ gT := gT_i 1374 (by decide +kernel) rfl
theorem k_1375 : (Cond.code yX10_elementOf cX10_elementOf 4 (some .int)) ∈ gT := gT_i 1375 (by decide +kernel) rfl
theorem k_1460 : (Cond.methodLink RX10 256 yX10_isGroup) ∈ gT := gT_i 1460 (by decide +kernel) rfl
theorem k_1462 : (Cond.instanceMethod yX10_isGroup) ∈ gT := gT_i 1462 (by decide +kernel) rfl
theorem k_1463 : (Cond.code yX10_isGroup cX10_isGroup 2 (some .boolean)) ∈ gT := gT_i 1463 (by decide +kernel) rfl
theorem dX10_elementOf_0 : decode cX10_elementOf 0 = .ok (.aload_n 0, 1) := by decide +kernel
theorem dX10_elementOf_1 : decode cX10_elementOf 1 = .ok (.getfield 17, 3) := by decide +kernel
theorem dX10_elementOf_4 : decode cX10_elementOf 4 = .ok (.iload_n 1, 1) := by decide +kernel
theorem dX10_elementOf_5 : decode cX10_elementOf 5 = .ok (.iaload, 1) := by decide +kernel
theorem dX10_elementOf_6 : decode cX10_elementOf 6 = .ok (.istore_n 3, 1) := by decide +kernel
theorem dX10_elementOf_7 : decode cX10_elementOf 7 = .ok (.iload_n 2, 1) := by decide +kernel
theorem dX10_elementOf_8 : decode cX10_elementOf 8 = .ok (.ifCond .ne 12, 3) := by decide +kernel
theorem dX10_elementOf_20 : decode cX10_elementOf 20 = .ok (.iload_n 2, 1) := by decide +kernel
theorem dX10_elementOf_21 : decode cX10_elementOf 21 = .ok (.iconst 1, 1) := by decide +kernel
theorem dX10_elementOf_22 : decode cX10_elementOf 22 = .ok (.if_icmp .ne 12, 3) := by decide +kernel
theorem dX10_elementOf_34 : decode cX10_elementOf 34 = .ok (.iload_n 2, 1) := by decide +kernel
theorem dX10_elementOf_35 : decode cX10_elementOf 35 = .ok (.iconst 2, 1) := by decide +kernel
theorem dX10_elementOf_36 : decode cX10_elementOf 36 = .ok (.if_icmp .ne 12, 3) := by decide +kernel
theorem dX10_elementOf_48 : decode cX10_elementOf 48 = .ok (.aload_n 0, 1) := by decide +kernel
theorem dX10_elementOf_49 : decode cX10_elementOf 49 = .ok (.getfield 28, 3) := by decide +kernel
theorem dX10_elementOf_52 : decode cX10_elementOf 52 = .ok (.iload_n 3, 1) := by decide +kernel
theorem dX10_elementOf_53 : decode cX10_elementOf 53 = .ok (.baload, 1) := by decide +kernel
theorem dX10_elementOf_54 : decode cX10_elementOf 54 = .ok (.ifCond .eq 7, 3) := by decide +kernel
theorem dX10_elementOf_61 : decode cX10_elementOf 61 = .ok (.iconst 0, 1) := by decide +kernel
theorem dX10_elementOf_62 : decode cX10_elementOf 62 = .ok (.ireturn, 1) := by decide +kernel
theorem dX10_elementOf_57 : decode cX10_elementOf 57 = .ok (.iconst 1, 1) := by decide +kernel
theorem dX10_elementOf_58 : decode cX10_elementOf 58 = .ok (.goto 4, 3) := by decide +kernel
theorem dX10_elementOf_39 : decode cX10_elementOf 39 = .ok (.aload_n 0, 1) := by decide +kernel
theorem dX10_elementOf_40 : decode cX10_elementOf 40 = .ok (.getfield 41, 3) := by decide +kernel
theorem dX10_elementOf_43 : decode cX10_elementOf 43 = .ok (.iload_n 3, 1) := by decide +kernel
theorem dX10_elementOf_44 : decode cX10_elementOf 44 = .ok (.iaload, 1) := by decide +kernel
theorem dX10_elementOf_45 : decode cX10_elementOf 45 = .ok (.goto 17, 3) := by decide +kernel
theorem dX10_elementOf_25 : decode cX10_elementOf 25 = .ok (.aload_n 0, 1) := by decide +kernel
theorem dX10_elementOf_26 : decode cX10_elementOf 26 = .ok (.getfield 31, 3) := by decide +kernel
theorem dX10_elementOf_29 : decode cX10_elementOf 29 = .ok (.iload_n 3, 1) := by decide +kernel
theorem dX10_elementOf_30 : decode cX10_elementOf 30 = .ok (.iaload, 1) := by decide +kernel
theorem dX10_elementOf_31 : decode cX10_elementOf 31 = .ok (.goto 31, 3) := by decide +kernel
theorem dX10_elementOf_11 : decode cX10_elementOf 11 = .ok (.aload_n 0, 1) := by decide +kernel
theorem dX10_elementOf_12 : decode cX10_elementOf 12 = .ok (.getfield 25, 3) := by decide +kernel
theorem dX10_elementOf_15 : decode cX10_elementOf 15 = .ok (.iload_n 3, 1) := by decide +kernel
theorem dX10_elementOf_16 : decode cX10_elementOf 16 = .ok (.iaload, 1) := by decide +kernel
theorem dX10_elementOf_17 : decode cX10_elementOf 17 = .ok (.goto 45, 3) := by decide +kernel
theorem dX10_element_0 : decode cX10_element 0 = .ok (.aload_n 0, 1) := by decide +kernel
theorem dX10_element_1 : decode cX10_element 1 = .ok (.iload_n 1, 1) := by decide +kernel
theorem dX10_element_2 : decode cX10_element 2 = .ok (.invokevirtual 188, 3) := by decide +kernel
theorem dX10_element_5 : decode cX10_element 5 = .ok (.ifCond .eq 21, 3) := by decide +kernel
theorem dX10_element_8 : decode cX10_element 8 = .ok (.iload_n 2, 1) := by decide +kernel
theorem dX10_element_9 : decode cX10_element 9 = .ok (.iconst 0, 1) := by decide +kernel
theorem dX10_element_10 : decode cX10_element 10 = .ok (.iconst 3, 1) := by decide +kernel
theorem dX10_element_11 : decode cX10_element 11 = .ok (.invokestatic 119, 3) := by decide +kernel
theorem dX10_element_14 : decode cX10_element 14 = .ok (.ifCond .eq 12, 3) := by decide +kernel
theorem dX10_element_26 : decode cX10_element 26 = .ok (.bipush (-2), 2) := by decide +kernel
theorem dX10_element_28 : decode cX10_element 28 = .ok (.ireturn, 1) := by decide +kernel
theorem dX10_element_17 : decode cX10_element 17 = .ok (.aload_n 0, 1) := by decide +kernel
theorem dX10_element_18 : decode cX10_element 18 = .ok (.iload_n 1, 1) := by decide +kernel
theorem dX10_element_19 : decode cX10_element 19 = .ok (.iload_n 2, 1) := by decide +kernel
theorem dX10_element_20 : decode cX10_element 20 = .ok (.invokevirtual 191, 3) := by decide +kernel
theorem dX10_element_23 : decode cX10_element 23 = .ok (.goto 5, 3) := by decide +kernel
theorem dX10_rowByte_0 : decode cX10_rowByte 0 = .ok (.aload_n 0, 1) := by decide +kernel
theorem dX10_rowByte_1 : decode cX10_rowByte 1 = .ok (.iload_n 1, 1) := by decide +kernel
theorem dX10_rowByte_2 : decode cX10_rowByte 2 = .ok (.invokevirtual 188, 3) := by decide +kernel
theorem dX10_rowByte_5 : decode cX10_rowByte 5 = .ok (.ifCond .eq 24, 3) := by decide +kernel
theorem dX10_rowByte_8 : decode cX10_rowByte 8 = .ok (.iload_n 2, 1) := by decide +kernel
theorem dX10_rowByte_9 : decode cX10_rowByte 9 = .ok (.iconst 0, 1) := by decide +kernel
theorem dX10_rowByte_10 : decode cX10_rowByte 10 = .ok (.aload_n 0, 1) := by decide +kernel
theorem dX10_rowByte_11 : decode cX10_rowByte 11 = .ok (.getfield 41, 3) := by decide +kernel
theorem dX10_rowByte_14 : decode cX10_rowByte 14 = .ok (.aload_n 0, 1) := by decide +kernel
theorem dX10_rowByte_15 : decode cX10_rowByte 15 = .ok (.getfield 17, 3) := by decide +kernel
theorem dX10_rowByte_18 : decode cX10_rowByte 18 = .ok (.iload_n 1, 1) := by decide +kernel
theorem dX10_rowByte_19 : decode cX10_rowByte 19 = .ok (.iaload, 1) := by decide +kernel
theorem dX10_rowByte_20 : decode cX10_rowByte 20 = .ok (.iaload, 1) := by decide +kernel
theorem dX10_rowByte_21 : decode cX10_rowByte 21 = .ok (.iconst 1, 1) := by decide +kernel
theorem dX10_rowByte_22 : decode cX10_rowByte 22 = .ok (.isub, 1) := by decide +kernel
theorem dX10_rowByte_23 : decode cX10_rowByte 23 = .ok (.invokestatic 119, 3) := by decide +kernel
theorem dX10_rowByte_26 : decode cX10_rowByte 26 = .ok (.ifCond .ne 6, 3) := by decide +kernel
theorem dX10_rowByte_29 : decode cX10_rowByte 29 = .ok (.bipush (-2), 2) := by decide +kernel
theorem dX10_rowByte_31 : decode cX10_rowByte 31 = .ok (.ireturn, 1) := by decide +kernel
theorem dX10_rowByte_32 : decode cX10_rowByte 32 = .ok (.aload_n 0, 1) := by decide +kernel
theorem dX10_rowByte_33 : decode cX10_rowByte 33 = .ok (.getfield 17, 3) := by decide +kernel
theorem dX10_rowByte_36 : decode cX10_rowByte 36 = .ok (.iload_n 1, 1) := by decide +kernel
theorem dX10_rowByte_37 : decode cX10_rowByte 37 = .ok (.iaload, 1) := by decide +kernel
theorem dX10_rowByte_38 : decode cX10_rowByte 38 = .ok (.istore 4, 2) := by decide +kernel
theorem dX10_rowByte_40 : decode cX10_rowByte 40 = .ok (.sipush 131, 3) := by decide +kernel
theorem dX10_rowByte_43 : decode cX10_rowByte 43 = .ok (.iload 4, 2) := by decide +kernel
theorem dX10_rowByte_45 : decode cX10_rowByte 45 = .ok (.imul, 1) := by decide +kernel
theorem dX10_rowByte_46 : decode cX10_rowByte 46 = .ok (.iload_n 2, 1) := by decide +kernel
theorem dX10_rowByte_47 : decode cX10_rowByte 47 = .ok (.iadd, 1) := by decide +kernel
theorem dX10_rowByte_48 : decode cX10_rowByte 48 = .ok (.istore 5, 2) := by decide +kernel
theorem dX10_rowByte_50 : decode cX10_rowByte 50 = .ok (.iload_n 3, 1) := by decide +kernel
theorem dX10_rowByte_51 : decode cX10_rowByte 51 = .ok (.iconst 0, 1) := by decide +kernel
theorem dX10_rowByte_52 : decode cX10_rowByte 52 = .ok (.aload_n 0, 1) := by decide +kernel
theorem dX10_rowByte_53 : decode cX10_rowByte 53 = .ok (.getfield 47, 3) := by decide +kernel
theorem dX10_rowByte_56 : decode cX10_rowByte 56 = .ok (.iload 5, 2) := by decide +kernel
theorem dX10_rowByte_58 : decode cX10_rowByte 58 = .ok (.iaload, 1) := by decide +kernel
theorem dX10_rowByte_59 : decode cX10_rowByte 59 = .ok (.iconst 1, 1) := by decide +kernel
theorem dX10_rowByte_60 : decode cX10_rowByte 60 = .ok (.isub, 1) := by decide +kernel
theorem dX10_rowByte_61 : decode cX10_rowByte 61 = .ok (.invokestatic 119, 3) := by decide +kernel
theorem dX10_rowByte_64 : decode cX10_rowByte 64 = .ok (.ifCond .eq 27, 3) := by decide +kernel
theorem dX10_rowByte_91 : decode cX10_rowByte 91 = .ok (.iconst (-1), 1) := by decide +kernel
theorem dX10_rowByte_92 : decode cX10_rowByte 92 = .ok (.ireturn, 1) := by decide +kernel
theorem dX10_rowByte_67 : decode cX10_rowByte 67 = .ok (.aload_n 0, 1) := by decide +kernel
theorem dX10_rowByte_68 : decode cX10_rowByte 68 = .ok (.getfield 38, 3) := by decide +kernel
theorem dX10_rowByte_71 : decode cX10_rowByte 71 = .ok (.sipush 1200, 3) := by decide +kernel
theorem dX10_rowByte_74 : decode cX10_rowByte 74 = .ok (.iload 4, 2) := by decide +kernel
theorem dX10_rowByte_76 : decode cX10_rowByte 76 = .ok (.imul, 1) := by decide +kernel
theorem dX10_rowByte_77 : decode cX10_rowByte 77 = .ok (.aload_n 0, 1) := by decide +kernel
theorem dX10_rowByte_78 : decode cX10_rowByte 78 = .ok (.getfield 44, 3) := by decide +kernel
theorem dX10_rowByte_81 : decode cX10_rowByte 81 = .ok (.iload 5, 2) := by decide +kernel
theorem dX10_rowByte_83 : decode cX10_rowByte 83 = .ok (.iaload, 1) := by decide +kernel
theorem dX10_rowByte_84 : decode cX10_rowByte 84 = .ok (.iadd, 1) := by decide +kernel
theorem dX10_rowByte_85 : decode cX10_rowByte 85 = .ok (.iload_n 3, 1) := by decide +kernel
theorem dX10_rowByte_86 : decode cX10_rowByte 86 = .ok (.iadd, 1) := by decide +kernel
theorem dX10_rowByte_87 : decode cX10_rowByte 87 = .ok (.baload, 1) := by decide +kernel
theorem dX10_rowByte_88 : decode cX10_rowByte 88 = .ok (.goto 4, 3) := by decide +kernel
theorem dX10_count_52 : decode cX10_count 52 = .ok (.iload_n 3, 1) := by decide +kernel
theorem dX10_count_53 : decode cX10_count 53 = .ok (.aload_n 0, 1) := by decide +kernel
theorem dX10_count_54 : decode cX10_count 54 = .ok (.getfield 144, 3) := by decide +kernel
theorem dX10_count_57 : decode cX10_count 57 = .ok (.if_icmp .ge 63, 3) := by decide +kernel
theorem dX10_count_60 : decode cX10_count 60 = .ok (.aload_n 0, 1) := by decide +kernel
theorem dX10_count_61 : decode cX10_count 61 = .ok (.getfield 28, 3) := by decide +kernel
theorem dX10_count_64 : decode cX10_count 64 = .ok (.aload_n 0, 1) := by decide +kernel
theorem dX10_count_65 : decode cX10_count 65 = .ok (.getfield 17, 3) := by decide +kernel
theorem dX10_count_68 : decode cX10_count 68 = .ok (.iload_n 3, 1) := by decide +kernel
theorem dX10_count_69 : decode cX10_count 69 = .ok (.iaload, 1) := by decide +kernel
theorem dX10_count_70 : decode cX10_count 70 = .ok (.baload, 1) := by decide +kernel
theorem dX10_count_71 : decode cX10_count 71 = .ok (.istore 4, 2) := by decide +kernel
theorem dX10_count_73 : decode cX10_count 73 = .ok (.iload_n 2, 1) := by decide +kernel
theorem dX10_count_74 : decode cX10_count 74 = .ok (.iload_n 1, 1) := by decide +kernel
theorem dX10_count_75 : decode cX10_count 75 = .ok (.iconst 2, 1) := by decide +kernel
theorem dX10_count_76 : decode cX10_count 76 = .ok (.if_icmp .ne 16, 3) := by decide +kernel
theorem dX10_count_92 : decode cX10_count 92 = .ok (.iload 4, 2) := by decide +kernel
theorem dX10_count_94 : decode cX10_count 94 = .ok (.ifCond .eq 7, 3) := by decide +kernel
theorem dX10_count_101 : decode cX10_count 101 = .ok (.aload_n 0, 1) := by decide +kernel
theorem dX10_count_102 : decode cX10_count 102 = .ok (.getfield 41, 3) := by decide +kernel
theorem dX10_count_105 : decode cX10_count 105 = .ok (.aload_n 0, 1) := by decide +kernel
theorem dX10_count_106 : decode cX10_count 106 = .ok (.getfield 17, 3) := by decide +kernel
theorem dX10_count_109 : decode cX10_count 109 = .ok (.iload_n 3, 1) := by decide +kernel
theorem dX10_count_110 : decode cX10_count 110 = .ok (.iaload, 1) := by decide +kernel
theorem dX10_count_111 : decode cX10_count 111 = .ok (.iaload, 1) := by decide +kernel
theorem dX10_count_112 : decode cX10_count 112 = .ok (.iadd, 1) := by decide +kernel
theorem dX10_count_113 : decode cX10_count 113 = .ok (.istore_n 2, 1) := by decide +kernel
theorem dX10_count_114 : decode cX10_count 114 = .ok (.iinc 3 1, 3) := by decide +kernel
theorem dX10_count_117 : decode cX10_count 117 = .ok (.goto (-65), 3) := by decide +kernel
theorem dX10_count_97 : decode cX10_count 97 = .ok (.iconst 0, 1) := by decide +kernel
theorem dX10_count_98 : decode cX10_count 98 = .ok (.goto 14, 3) := by decide +kernel
theorem dX10_count_79 : decode cX10_count 79 = .ok (.iload 4, 2) := by decide +kernel
theorem dX10_count_81 : decode cX10_count 81 = .ok (.ifCond .eq 7, 3) := by decide +kernel
theorem dX10_count_88 : decode cX10_count 88 = .ok (.iconst 0, 1) := by decide +kernel
theorem dX10_count_89 : decode cX10_count 89 = .ok (.goto 23, 3) := by decide +kernel
theorem dX10_count_84 : decode cX10_count 84 = .ok (.iconst 1, 1) := by decide +kernel
theorem dX10_count_85 : decode cX10_count 85 = .ok (.goto 27, 3) := by decide +kernel
theorem dX10_count_0 : decode cX10_count 0 = .ok (.iconst 0, 1) := by decide +kernel
theorem dX10_count_1 : decode cX10_count 1 = .ok (.istore_n 2, 1) := by decide +kernel
theorem dX10_count_2 : decode cX10_count 2 = .ok (.iload_n 1, 1) := by decide +kernel
theorem dX10_count_3 : decode cX10_count 3 = .ok (.tableswitch 137 0 5 #[37, 42, 47, 47, 119, 132], 37) := by decide +kernel
theorem dX10_count_40 : decode cX10_count 40 = .ok (.aload_n 0, 1) := by decide +kernel
theorem dX10_count_41 : decode cX10_count 41 = .ok (.getfield 123, 3) := by decide +kernel
theorem dX10_count_44 : decode cX10_count 44 = .ok (.ireturn, 1) := by decide +kernel
theorem dX10_count_45 : decode cX10_count 45 = .ok (.aload_n 0, 1) := by decide +kernel
theorem dX10_count_46 : decode cX10_count 46 = .ok (.getfield 144, 3) := by decide +kernel
theorem dX10_count_49 : decode cX10_count 49 = .ok (.ireturn, 1) := by decide +kernel
theorem dX10_count_50 : decode cX10_count 50 = .ok (.iconst 0, 1) := by decide +kernel
theorem dX10_count_51 : decode cX10_count 51 = .ok (.istore_n 3, 1) := by decide +kernel
theorem dX10_count_120 : decode cX10_count 120 = .ok (.iload_n 2, 1) := by decide +kernel
theorem dX10_count_121 : decode cX10_count 121 = .ok (.ireturn, 1) := by decide +kernel
theorem dX10_count_122 : decode cX10_count 122 = .ok (.aload_n 0, 1) := by decide +kernel
theorem dX10_count_123 : decode cX10_count 123 = .ok (.getfield 170, 3) := by decide +kernel
theorem dX10_count_126 : decode cX10_count 126 = .ok (.ifCond .eq 7, 3) := by decide +kernel
theorem dX10_count_133 : decode cX10_count 133 = .ok (.iconst 0, 1) := by decide +kernel
theorem dX10_count_134 : decode cX10_count 134 = .ok (.ireturn, 1) := by decide +kernel
theorem dX10_count_129 : decode cX10_count 129 = .ok (.iconst 1, 1) := by decide +kernel
theorem dX10_count_130 : decode cX10_count 130 = .ok (.goto 4, 3) := by decide +kernel
theorem dX10_count_135 : decode cX10_count 135 = .ok (.aload_n 0, 1) := by decide +kernel
theorem dX10_count_136 : decode cX10_count 136 = .ok (.getfield 13, 3) := by decide +kernel
theorem dX10_count_139 : decode cX10_count 139 = .ok (.ireturn, 1) := by decide +kernel
theorem dX10_count_140 : decode cX10_count 140 = .ok (.bipush (-2), 2) := by decide +kernel
theorem dX10_count_142 : decode cX10_count 142 = .ok (.ireturn, 1) := by decide +kernel
theorem dX10_page_0 : decode cX10_page 0 = .ok (.iload_n 2, 1) := by decide +kernel
theorem dX10_page_1 : decode cX10_page 1 = .ok (.iconst 0, 1) := by decide +kernel
theorem dX10_page_2 : decode cX10_page 2 = .ok (.bipush 6, 2) := by decide +kernel
theorem dX10_page_4 : decode cX10_page 4 = .ok (.invokestatic 119, 3) := by decide +kernel
theorem dX10_page_7 : decode cX10_page 7 = .ok (.ifCond .ne 6, 3) := by decide +kernel
theorem dX10_page_10 : decode cX10_page 10 = .ok (.bipush (-2), 2) := by decide +kernel
theorem dX10_page_12 : decode cX10_page 12 = .ok (.ireturn, 1) := by decide +kernel
theorem dX10_page_13 : decode cX10_page 13 = .ok (.aload_n 0, 1) := by decide +kernel
theorem dX10_page_14 : decode cX10_page 14 = .ok (.getfield 170, 3) := by decide +kernel
theorem dX10_page_17 : decode cX10_page 17 = .ok (.ifCond .eq 6, 3) := by decide +kernel
theorem dX10_page_23 : decode cX10_page 23 = .ok (.aload_n 0, 1) := by decide +kernel
theorem dX10_page_24 : decode cX10_page 24 = .ok (.invokevirtual 237, 3) := by decide +kernel
theorem dX10_page_27 : decode cX10_page 27 = .ok (.iload_n 1, 1) := by decide +kernel
theorem dX10_page_28 : decode cX10_page 28 = .ok (.iconst 0, 1) := by decide +kernel
theorem dX10_page_29 : decode cX10_page 29 = .ok (.aload_n 0, 1) := by decide +kernel
theorem dX10_page_30 : decode cX10_page 30 = .ok (.getfield 228, 3) := by decide +kernel
theorem dX10_page_33 : decode cX10_page 33 = .ok (.iconst 1, 1) := by decide +kernel
theorem dX10_page_34 : decode cX10_page 34 = .ok (.isub, 1) := by decide +kernel
theorem dX10_page_35 : decode cX10_page 35 = .ok (.invokestatic 119, 3) := by decide +kernel
theorem dX10_page_38 : decode cX10_page 38 = .ok (.ifCond .ne 6, 3) := by decide +kernel
theorem dX10_page_41 : decode cX10_page 41 = .ok (.bipush (-2), 2) := by decide +kernel
theorem dX10_page_43 : decode cX10_page 43 = .ok (.ireturn, 1) := by decide +kernel
theorem dX10_page_44 : decode cX10_page 44 = .ok (.aload_n 0, 1) := by decide +kernel
theorem dX10_page_45 : decode cX10_page 45 = .ok (.getfield 86, 3) := by decide +kernel
theorem dX10_page_48 : decode cX10_page 48 = .ok (.iload_n 1, 1) := by decide +kernel
theorem dX10_page_49 : decode cX10_page 49 = .ok (.iaload, 1) := by decide +kernel
theorem dX10_page_50 : decode cX10_page 50 = .ok (.istore_n 3, 1) := by decide +kernel
theorem dX10_page_51 : decode cX10_page 51 = .ok (.aload_n 0, 1) := by decide +kernel
theorem dX10_page_52 : decode cX10_page 52 = .ok (.getfield 89, 3) := by decide +kernel
theorem dX10_page_55 : decode cX10_page 55 = .ok (.iload_n 1, 1) := by decide +kernel
theorem dX10_page_56 : decode cX10_page 56 = .ok (.iaload, 1) := by decide +kernel
theorem dX10_page_57 : decode cX10_page 57 = .ok (.istore 4, 2) := by decide +kernel
theorem dX10_page_59 : decode cX10_page 59 = .ok (.aload_n 0, 1) := by decide +kernel
theorem dX10_page_60 : decode cX10_page 60 = .ok (.getfield 86, 3) := by decide +kernel
theorem dX10_page_63 : decode cX10_page 63 = .ok (.iload_n 1, 1) := by decide +kernel
theorem dX10_page_64 : decode cX10_page 64 = .ok (.iconst 1, 1) := by decide +kernel
theorem dX10_page_65 : decode cX10_page 65 = .ok (.iadd, 1) := by decide +kernel
theorem dX10_page_66 : decode cX10_page 66 = .ok (.iaload, 1) := by decide +kernel
theorem dX10_page_67 : decode cX10_page 67 = .ok (.istore 5, 2) := by decide +kernel
theorem dX10_page_69 : decode cX10_page 69 = .ok (.aload_n 0, 1) := by decide +kernel
theorem dX10_page_70 : decode cX10_page 70 = .ok (.getfield 89, 3) := by decide +kernel
theorem dX10_page_73 : decode cX10_page 73 = .ok (.iload_n 1, 1) := by decide +kernel
theorem dX10_page_74 : decode cX10_page 74 = .ok (.iconst 1, 1) := by decide +kernel
theorem dX10_page_75 : decode cX10_page 75 = .ok (.iadd, 1) := by decide +kernel
theorem dX10_page_76 : decode cX10_page 76 = .ok (.iaload, 1) := by decide +kernel
theorem dX10_page_77 : decode cX10_page 77 = .ok (.istore 6, 2) := by decide +kernel
theorem dX10_page_79 : decode cX10_page 79 = .ok (.iload_n 2, 1) := by decide +kernel
theorem dX10_page_80 : decode cX10_page 80 = .ok (.tableswitch 106 0 5 #[40, 47, 49, 52, 67, 86], 40) := by decide +kernel
theorem dX10_page_120 : decode cX10_page 120 = .ok (.aload_n 0, 1) := by decide +kernel
theorem dX10_page_121 : decode cX10_page 121 = .ok (.getfield 92, 3) := by decide +kernel
theorem dX10_page_124 : decode cX10_page 124 = .ok (.iload_n 1, 1) := by decide +kernel
theorem dX10_page_125 : decode cX10_page 125 = .ok (.iaload, 1) := by decide +kernel
theorem dX10_page_126 : decode cX10_page 126 = .ok (.ireturn, 1) := by decide +kernel
theorem dX10_page_127 : decode cX10_page 127 = .ok (.iload_n 3, 1) := by decide +kernel
theorem dX10_page_128 : decode cX10_page 128 = .ok (.ireturn, 1) := by decide +kernel
theorem dX10_page_129 : decode cX10_page 129 = .ok (.iload 4, 2) := by decide +kernel
theorem dX10_page_131 : decode cX10_page 131 = .ok (.ireturn, 1) := by decide +kernel
theorem dX10_page_132 : decode cX10_page 132 = .ok (.iload 6, 2) := by decide +kernel
theorem dX10_page_134 : decode cX10_page 134 = .ok (.ifCond .ne 10, 3) := by decide +kernel
theorem dX10_page_144 : decode cX10_page 144 = .ok (.iload 5, 2) := by decide +kernel
theorem dX10_page_146 : decode cX10_page 146 = .ok (.ireturn, 1) := by decide +kernel
theorem dX10_page_137 : decode cX10_page 137 = .ok (.iload 5, 2) := by decide +kernel
theorem dX10_page_139 : decode cX10_page 139 = .ok (.iconst 1, 1) := by decide +kernel
theorem dX10_page_140 : decode cX10_page 140 = .ok (.isub, 1) := by decide +kernel
theorem dX10_page_141 : decode cX10_page 141 = .ok (.goto 5, 3) := by decide +kernel
theorem dX10_page_147 : decode cX10_page 147 = .ok (.iload 6, 2) := by decide +kernel
theorem dX10_page_149 : decode cX10_page 149 = .ok (.ifCond .ne 14, 3) := by decide +kernel
theorem dX10_page_163 : decode cX10_page 163 = .ok (.iload 6, 2) := by decide +kernel
theorem dX10_page_165 : decode cX10_page 165 = .ok (.ireturn, 1) := by decide +kernel
theorem dX10_page_152 : decode cX10_page 152 = .ok (.aload_n 0, 1) := by decide +kernel
theorem dX10_page_153 : decode cX10_page 153 = .ok (.iload 5, 2) := by decide +kernel
theorem dX10_page_155 : decode cX10_page 155 = .ok (.iconst 1, 1) := by decide +kernel
theorem dX10_page_156 : decode cX10_page 156 = .ok (.isub, 1) := by decide +kernel
theorem dX10_page_157 : decode cX10_page 157 = .ok (.invokevirtual 198, 3) := by decide +kernel
theorem dX10_page_160 : decode cX10_page 160 = .ok (.goto 5, 3) := by decide +kernel
theorem dX10_page_166 : decode cX10_page 166 = .ok (.iload 4, 2) := by decide +kernel
theorem dX10_page_168 : decode cX10_page 168 = .ok (.ifCond .le 16, 3) := by decide +kernel
theorem dX10_page_184 : decode cX10_page 184 = .ok (.iconst 0, 1) := by decide +kernel
theorem dX10_page_185 : decode cX10_page 185 = .ok (.ireturn, 1) := by decide +kernel
theorem dX10_page_171 : decode cX10_page 171 = .ok (.aload_n 0, 1) := by decide +kernel
theorem dX10_page_172 : decode cX10_page 172 = .ok (.iload_n 3, 1) := by decide +kernel
theorem dX10_page_173 : decode cX10_page 173 = .ok (.invokevirtual 195, 3) := by decide +kernel
theorem dX10_page_176 : decode cX10_page 176 = .ok (.iconst 4, 1) := by decide +kernel
theorem dX10_page_177 : decode cX10_page 177 = .ok (.if_icmp .ne 7, 3) := by decide +kernel
theorem dX10_page_180 : decode cX10_page 180 = .ok (.iconst 1, 1) := by decide +kernel
theorem dX10_page_181 : decode cX10_page 181 = .ok (.goto 4, 3) := by decide +kernel
theorem dX10_page_186 : decode cX10_page 186 = .ok (.iload 6, 2) := by decide +kernel
theorem dX10_page_188 : decode cX10_page 188 = .ok (.ifCond .le 17, 3) := by decide +kernel
theorem dX10_page_205 : decode cX10_page 205 = .ok (.iconst 0, 1) := by decide +kernel
theorem dX10_page_206 : decode cX10_page 206 = .ok (.ireturn, 1) := by decide +kernel
theorem dX10_page_191 : decode cX10_page 191 = .ok (.aload_n 0, 1) := by decide +kernel
theorem dX10_page_192 : decode cX10_page 192 = .ok (.iload 5, 2) := by decide +kernel
theorem dX10_page_194 : decode cX10_page 194 = .ok (.invokevirtual 195, 3) := by decide +kernel
theorem dX10_page_197 : decode cX10_page 197 = .ok (.iconst 4, 1) := by decide +kernel
theorem dX10_page_198 : decode cX10_page 198 = .ok (.if_icmp .ne 7, 3) := by decide +kernel
theorem dX10_page_201 : decode cX10_page 201 = .ok (.iconst 1, 1) := by decide +kernel
theorem dX10_page_202 : decode cX10_page 202 = .ok (.goto 4, 3) := by decide +kernel
theorem dX10_page_20 : decode cX10_page 20 = .ok (.bipush (-3), 2) := by decide +kernel
theorem dX10_page_22 : decode cX10_page 22 = .ok (.ireturn, 1) := by decide +kernel
theorem dX10_sheets_0 : decode cX10_sheets 0 = .ok (.aload_n 0, 1) := by decide +kernel
theorem dX10_sheets_1 : decode cX10_sheets 1 = .ok (.getfield 170, 3) := by decide +kernel
theorem dX10_sheets_4 : decode cX10_sheets 4 = .ok (.ifCond .ne 8, 3) := by decide +kernel
theorem dX10_sheets_12 : decode cX10_sheets 12 = .ok (.aload_n 0, 1) := by decide +kernel
theorem dX10_sheets_13 : decode cX10_sheets 13 = .ok (.iload_n 1, 1) := by decide +kernel
theorem dX10_sheets_14 : decode cX10_sheets 14 = .ok (.invokevirtual 256, 3) := by decide +kernel
theorem dX10_sheets_17 : decode cX10_sheets 17 = .ok (.ifCond .eq 13, 3) := by decide +kernel
theorem dX10_sheets_20 : decode cX10_sheets 20 = .ok (.aload_n 0, 1) := by decide +kernel
theorem dX10_sheets_21 : decode cX10_sheets 21 = .ok (.iload_n 1, 1) := by decide +kernel
theorem dX10_sheets_22 : decode cX10_sheets 22 = .ok (.iconst 1, 1) := by decide +kernel
theorem dX10_sheets_23 : decode cX10_sheets 23 = .ok (.isub, 1) := by decide +kernel
theorem dX10_sheets_24 : decode cX10_sheets 24 = .ok (.invokevirtual 247, 3) := by decide +kernel
theorem dX10_sheets_27 : decode cX10_sheets 27 = .ok (.goto 5, 3) := by decide +kernel
theorem dX10_sheets_32 : decode cX10_sheets 32 = .ok (.ireturn, 1) := by decide +kernel
theorem dX10_sheets_30 : decode cX10_sheets 30 = .ok (.bipush (-2), 2) := by decide +kernel
theorem dX10_sheets_7 : decode cX10_sheets 7 = .ok (.bipush (-3), 2) := by decide +kernel
theorem dX10_sheets_9 : decode cX10_sheets 9 = .ok (.goto 23, 3) := by decide +kernel
set_option maxHeartbeats 1000000 in
set_option maxRecDepth 100000 in
theorem r_elementOf (l : Launch) (D : va_G) (h0 : Nat) (q : Nat → Nat) (cB cI_ cZ : ClassId) (I : Nat → Int32) (F : Nat → Nat → Int32) (Es : List E5) (sl : Nat → Nat) (j : Nat) (x2 : Int32) (hI3 : I 3 = nI Es.length) (hre : reR F Es sl) (hj : j < Es.length) : cI l D yX10_elementOf cX10_elementOf 4 (some .int) 0 0 0 0 [.ref h0, .int (nI j), .int x2] zT (mW h0 q cB cI_ cZ I F) (mT cB cI_ cZ) (fun r u => u = (mW h0 q cB cI_ cZ I F, mT cB cI_ cZ)) := by
  refine q_si (by decide) (Nat.le_of_ble_eq_true rfl) ?_
  intro p e s m below meth c A ls hAe hf hr hlocks hin hK hP hD hS hA hZ hl
  obtain ⟨hx, hb, hml, hown, hts⟩ := id hf
  have hl : lv_has ls 4 [(0, .ref h0), (1, .int (nI j)), (2, .int x2)] := hl
  have hre1 := hre.1
  have hslj := (hre.2.1 j hj).2.1
  refine lv_aload_n hx hb dX10_elementOf_0 rfl (lv_at hl 0 rfl) ?_
  refine va_get (D := D) (ci := 11) (v := .ref (q 4)) (C := RX10) (T := TX10) (N := 48) hx hb hts inX10 hown hK hP 0 rfl rfl 4 (by decide) (hts _ k_1148) (fun _ h9 => h9) rfl dX10_elementOf_1 ?_
  refine lv_iload_n hx hb dX10_elementOf_4 rfl (lv_at hl 1 rfl) ?_
  refine q_ild (X := j) (f := (F 4)) hx hb hK hP 2 1 rfl rfl (by omega) (by decide) dX10_elementOf_5 ?_
  refine q_seti (y := (nI ((sl j)))) (hre.2.1 j (by omega)).1 ?_
  refine lv_istore_n (lv' := [(3, .int (nI ((sl j)))), (0, .ref h0), (1, .int (nI j)), (2, .int x2)]) hx hb dX10_elementOf_6 rfl hl (by decide) rfl (fun ls hl => ?_)
  refine lv_iload_n hx hb dX10_elementOf_7 rfl (lv_at hl 3 rfl) ?_
  refine lv_if_ne (tgt := 20) hx hb dX10_elementOf_8 (by decide) (fun c_1 => ?_) (fun c_1 => ?_)
  · refine lv_iload_n hx hb dX10_elementOf_20 rfl (lv_at hl 3 rfl) ?_
    refine lv_iconst (v := 1) hx hb dX10_elementOf_21 (by decide) ?_
    refine lv_icmp_ne (tgt := 34) hx hb dX10_elementOf_22 (by decide) (fun c_2 => ?_) (fun c_2 => ?_)
    · refine lv_iload_n hx hb dX10_elementOf_34 rfl (lv_at hl 3 rfl) ?_
      refine lv_iconst (v := 2) hx hb dX10_elementOf_35 (by decide) ?_
      refine lv_icmp_ne (tgt := 48) hx hb dX10_elementOf_36 (by decide) (fun c_3 => ?_) (fun c_3 => ?_)
      · refine lv_aload_n hx hb dX10_elementOf_48 rfl (lv_at hl 1 rfl) ?_
        refine va_get (D := D) (ci := 11) (v := .ref (q 7)) (C := RX10) (T := TX10) (N := 48) hx hb hts inX10 hown hK hP 0 rfl rfl 7 (by decide) (hts _ k_1151) (fun _ h9 => h9) rfl dX10_elementOf_49 ?_
        refine lv_iload_n hx hb dX10_elementOf_52 rfl (lv_at hl 0 rfl) ?_
        refine q_zld (X := (sl j)) (f := (F 7)) hx hb hK hP 5 2 rfl rfl (by omega) (by decide) dX10_elementOf_53 ?_
        refine q_seti (y := (Es.getD j dE).2.2.1) (hre.2.1 j (by omega)).2.2.2.2.1 ?_
        refine lv_if_eq (tgt := 61) hx hb dX10_elementOf_54 (by decide) (fun c_4 => ?_) (fun c_4 => ?_)
        · refine lv_iconst (v := 0) hx hb dX10_elementOf_61 (by decide) ?_
          exact q_zi hf hr rfl hlocks hK hP hD hS (Nat.le_of_ble_eq_true rfl) (Nat.le_of_ble_eq_true rfl) rfl dX10_elementOf_62
        · refine lv_iconst (v := 1) hx hb dX10_elementOf_57 (by decide) ?_
          refine lv_goto (tgt := 62) hx hb dX10_elementOf_58 (by decide) ?_
          exact q_zi hf hr rfl hlocks hK hP hD hS (Nat.le_of_ble_eq_true rfl) (Nat.le_of_ble_eq_true rfl) rfl dX10_elementOf_62
      · refine lv_aload_n hx hb dX10_elementOf_39 rfl (lv_at hl 1 rfl) ?_
        refine va_get (D := D) (ci := 11) (v := .ref (q 11)) (C := RX10) (T := TX10) (N := 48) hx hb hts inX10 hown hK hP 0 rfl rfl 11 (by decide) (hts _ k_1155) (fun _ h9 => h9) rfl dX10_elementOf_40 ?_
        refine lv_iload_n hx hb dX10_elementOf_43 rfl (lv_at hl 0 rfl) ?_
        refine q_ild (X := (sl j)) (f := (F 11)) hx hb hK hP 9 1 rfl rfl (by omega) (by decide) dX10_elementOf_44 ?_
        refine q_seti (y := (nI (eRw (Es.getD j dE)))) (hre.2.1 j (by omega)).2.2.2.2.2.2.2.2.2.1 ?_
        refine lv_goto (tgt := 62) hx hb dX10_elementOf_45 (by decide) ?_
        exact q_zi hf hr rfl hlocks hK hP hD hS (Nat.le_of_ble_eq_true rfl) (Nat.le_of_ble_eq_true rfl) rfl dX10_elementOf_62
    · refine lv_aload_n hx hb dX10_elementOf_25 rfl (lv_at hl 1 rfl) ?_
      refine va_get (D := D) (ci := 11) (v := .ref (q 8)) (C := RX10) (T := TX10) (N := 48) hx hb hts inX10 hown hK hP 0 rfl rfl 8 (by decide) (hts _ k_1152) (fun _ h9 => h9) rfl dX10_elementOf_26 ?_
      refine lv_iload_n hx hb dX10_elementOf_29 rfl (lv_at hl 0 rfl) ?_
      refine q_ild (X := (sl j)) (f := (F 8)) hx hb hK hP 6 1 rfl rfl (by omega) (by decide) dX10_elementOf_30 ?_
      refine q_seti (y := (nI ((Es.getD j dE).2.2.2.1))) (hre.2.1 j (by omega)).2.2.2.2.2.1 ?_
      refine lv_goto (tgt := 62) hx hb dX10_elementOf_31 (by decide) ?_
      exact q_zi hf hr rfl hlocks hK hP hD hS (Nat.le_of_ble_eq_true rfl) (Nat.le_of_ble_eq_true rfl) rfl dX10_elementOf_62
  · refine lv_aload_n hx hb dX10_elementOf_11 rfl (lv_at hl 1 rfl) ?_
    refine va_get (D := D) (ci := 11) (v := .ref (q 6)) (C := RX10) (T := TX10) (N := 48) hx hb hts inX10 hown hK hP 0 rfl rfl 6 (by decide) (hts _ k_1150) (fun _ h9 => h9) rfl dX10_elementOf_12 ?_
    refine lv_iload_n hx hb dX10_elementOf_15 rfl (lv_at hl 0 rfl) ?_
    refine q_ild (X := (sl j)) (f := (F 6)) hx hb hK hP 4 1 rfl rfl (by omega) (by decide) dX10_elementOf_16 ?_
    refine q_seti (y := (Es.getD j dE).1) (hre.2.1 j (by omega)).2.2.2.1 ?_
    refine lv_goto (tgt := 62) hx hb dX10_elementOf_17 (by decide) ?_
    exact q_zi hf hr rfl hlocks hK hP hD hS (Nat.le_of_ble_eq_true rfl) (Nat.le_of_ble_eq_true rfl) rfl dX10_elementOf_62
set_option maxHeartbeats 1000000 in
set_option maxRecDepth 100000 in
theorem r_element (l : Launch) (D : va_G) (h0 : Nat) (q : Nat → Nat) (cB cI_ cZ : ClassId) (I : Nat → Int32) (F : Nat → Nat → Int32) (Es : List E5) (sl : Nat → Nat) (x1 x2 : Int32) (hI3 : I 3 = nI Es.length) (hre : reR F Es sl) : cI l D yX10_element cX10_element 3 (some .int) 2 43 0 0 [.ref h0, .int x1, .int x2] zT (mW h0 q cB cI_ cZ I F) (mT cB cI_ cZ) (fun r u => u = (mW h0 q cB cI_ cZ I F, mT cB cI_ cZ)) := by
  refine q_si (by decide) (Nat.le_of_ble_eq_true rfl) ?_
  intro p e s m below meth c A ls hAe hf hr hlocks hin hK hP hD hS hA hZ hl
  obtain ⟨hx, hb, hml, hown, hts⟩ := id hf
  have hl : lv_has ls 3 [(0, .ref h0), (1, .int x1), (2, .int x2)] := hl
  have hre1 := hre.1
  refine lv_aload_n hx hb dX10_element_0 rfl (lv_at hl 0 rfl) ?_
  refine lv_iload_n hx hb dX10_element_1 rfl (lv_at hl 1 rfl) ?_
  refine q_ci (k := 0) (n := 0) hK hP hD hS hA (fun hPc hKc hDc => q_rV (As := [.int x1]) (rest := []) hf (r_isElement _ D h0 q cB cI_ cZ I F Es.length x1 hI3 hre.1 _) k_1371 k_1368 k_1370 k_59 k_98 (nA := 1) (by decide +kernel) ⟨Nat.le_of_ble_eq_true rfl, Nat.le_of_ble_eq_true rfl⟩ hK hP (ci := 11) (q0 := 0) rfl rfl rfl hPc hKc hDc (fun _ _ _ _ h => h) (fun _ _ _ => trivial) rfl hl.1 rfl (Nat.le_of_ble_eq_true rfl) dX10_element_2 ⟨Nat.le_of_ble_eq_true rfl, Nat.le_of_ble_eq_true rfl⟩) (by decide) (by decide) (fun r u H locs hw hK hP hD hS => ?_)
  rcases hw with ⟨⟨c_1, rfl⟩ | ⟨c_1, rfl⟩, rfl⟩
  · have hP : va_P D vcl (mW h0 q cB cI_ cZ I F) H := hP
    have hD : va_D A (mW h0 q cB cI_ cZ I F) := hD
    refine lv_if_eq (tgt := 26) hx hb dX10_element_5 (by decide) (fun hno => absurd hno (by decide)) (fun _ => ?_)
    obtain ⟨j, hj, rfl⟩ := c_1
    have hslj := (hre.2.1 j hj).2.1
    have hrwj := elF_rw (hre.2.1 j hj).2.2
    have hl : lv_has ls 3 [(0, .ref h0), (1, .int (nI j)), (2, .int x2)] := hl
    refine lv_iload_n hx hb dX10_element_8 rfl (lv_at hl 2 rfl) ?_
    refine lv_iconst (v := 0) hx hb dX10_element_9 (by decide) ?_
    refine lv_iconst (v := 3) hx hb dX10_element_10 (by decide) ?_
    refine q_ei (k := 0) (n := 0) hP hS hA (q_rS (wc := []) (tc := []) (As := [.int x2, .int 0, .int 3]) (rest := []) hf (m_X10_in_1 _ D x2 0 3 _) k_1296 k_1294 k_1295 k_98 (nA := 3) (by decide +kernel) ⟨Nat.le_of_ble_eq_true rfl, Nat.le_of_ble_eq_true rfl⟩ (fun k q h => by simp at h) (hK.sub (tys' := []) [] rfl) (A := A) ⟨fun i j p q h => by simp at h, fun k q h => by simp at h⟩ (fun _ _ _ _ h => h) (fun _ _ _ => trivial) rfl hl.1 rfl (Nat.le_of_ble_eq_true rfl) dX10_element_11 ⟨Nat.le_of_ble_eq_true rfl, Nat.le_of_ble_eq_true rfl⟩) (by decide) (by decide) (fun r u H locs hw hP hS => ?_)
    rcases hw with ⟨c_2, rfl, rfl⟩ | ⟨c_3, c_4, rfl, rfl⟩ | ⟨c_5, c_6, rfl, rfl⟩
    · refine lv_if_eq (tgt := 26) hx hb dX10_element_14 (by decide) (fun _ => ?_) (fun hno => absurd hno (by decide))
      refine lv_bipush (v := (-2)) hx hb dX10_element_26 (by decide) ?_
      exact q_zi hf hr rfl hlocks hK hP hD hS (Nat.le_of_ble_eq_true rfl) (Nat.le_of_ble_eq_true rfl) rfl dX10_element_28
    · refine lv_if_eq (tgt := 26) hx hb dX10_element_14 (by decide) (fun _ => ?_) (fun hno => absurd hno (by decide))
      refine lv_bipush (v := (-2)) hx hb dX10_element_26 (by decide) ?_
      exact q_zi hf hr rfl hlocks hK hP hD hS (Nat.le_of_ble_eq_true rfl) (Nat.le_of_ble_eq_true rfl) rfl dX10_element_28
    · refine lv_if_eq (tgt := 26) hx hb dX10_element_14 (by decide) (fun hno => absurd hno (by decide)) (fun _ => ?_)
      refine lv_aload_n hx hb dX10_element_17 rfl (lv_at hl 0 rfl) ?_
      refine lv_iload_n hx hb dX10_element_18 rfl (lv_at hl 1 rfl) ?_
      refine lv_iload_n hx hb dX10_element_19 rfl (lv_at hl 2 rfl) ?_
      refine q_ci (k := 0) (n := 0) hK hP hD hS hA (fun hPc hKc hDc => q_rV (As := [.int (nI j), .int x2]) (rest := []) hf (r_elementOf _ D h0 q cB cI_ cZ I F Es sl j x2 hI3 hre hj _) k_1375 k_1372 k_1374 k_60 k_98 (nA := 2) (by decide +kernel) ⟨Nat.le_of_ble_eq_true rfl, Nat.le_of_ble_eq_true rfl⟩ hK hP (ci := 11) (q0 := 0) rfl rfl rfl hPc hKc hDc (fun _ _ _ _ h => h) (fun _ _ _ => trivial) rfl hl.1 rfl (Nat.le_of_ble_eq_true rfl) dX10_element_20 ⟨Nat.le_of_ble_eq_true rfl, Nat.le_of_ble_eq_true rfl⟩) (by decide) (by decide) (fun r u H locs hw hK hP hD hS => ?_)
      obtain rfl := hw
      have hP : va_P D vcl (mW h0 q cB cI_ cZ I F) H := hP
      have hD : va_D A (mW h0 q cB cI_ cZ I F) := hD
      refine lv_goto (tgt := 28) hx hb dX10_element_23 (by decide) ?_
      exact q_zi hf hr rfl hlocks hK hP hD hS (Nat.le_of_ble_eq_true rfl) (Nat.le_of_ble_eq_true rfl) rfl dX10_element_28
  · have hP : va_P D vcl (mW h0 q cB cI_ cZ I F) H := hP
    have hD : va_D A (mW h0 q cB cI_ cZ I F) := hD
    refine lv_if_eq (tgt := 26) hx hb dX10_element_5 (by decide) (fun _ => ?_) (fun hno => absurd hno (by decide))
    refine lv_bipush (v := (-2)) hx hb dX10_element_26 (by decide) ?_
    exact q_zi hf hr rfl hlocks hK hP hD hS (Nat.le_of_ble_eq_true rfl) (Nat.le_of_ble_eq_true rfl) rfl dX10_element_28
set_option maxHeartbeats 1000000 in
set_option maxRecDepth 100000 in
theorem r_rowByte (l : Launch) (D : va_G) (h0 : Nat) (q : Nat → Nat) (cB cI_ cZ : ClassId) (I : Nat → Int32) (F : Nat → Nat → Int32) (Es : List E5) (sl : Nat → Nat) (x1 x2 x3 : Int32) (hI3 : I 3 = nI Es.length) (hre : reR F Es sl) : cI l D yX10_rowByte cX10_rowByte 6 (some .int) 2 43 0 0 [.ref h0, .int x1, .int x2, .int x3] zT (mW h0 q cB cI_ cZ I F) (mT cB cI_ cZ) (fun r u => u = (mW h0 q cB cI_ cZ I F, mT cB cI_ cZ)) := by
  refine q_si (by decide) (Nat.le_of_ble_eq_true rfl) ?_
  intro p e s m below meth c A ls hAe hf hr hlocks hin hK hP hD hS hA hZ hl
  obtain ⟨hx, hb, hml, hown, hts⟩ := id hf
  have hl : lv_has ls 6 [(0, .ref h0), (1, .int x1), (2, .int x2), (3, .int x3)] := hl
  have hre1 := hre.1
  refine lv_aload_n hx hb dX10_rowByte_0 rfl (lv_at hl 0 rfl) ?_
  refine lv_iload_n hx hb dX10_rowByte_1 rfl (lv_at hl 1 rfl) ?_
  refine q_ci (k := 0) (n := 0) hK hP hD hS hA (fun hPc hKc hDc => q_rV (As := [.int x1]) (rest := []) hf (r_isElement _ D h0 q cB cI_ cZ I F Es.length x1 hI3 hre.1 _) k_1371 k_1368 k_1370 k_59 k_98 (nA := 1) (by decide +kernel) ⟨Nat.le_of_ble_eq_true rfl, Nat.le_of_ble_eq_true rfl⟩ hK hP (ci := 11) (q0 := 0) rfl rfl rfl hPc hKc hDc (fun _ _ _ _ h => h) (fun _ _ _ => trivial) rfl hl.1 rfl (Nat.le_of_ble_eq_true rfl) dX10_rowByte_2 ⟨Nat.le_of_ble_eq_true rfl, Nat.le_of_ble_eq_true rfl⟩) (by decide) (by decide) (fun r u H locs hw hK hP hD hS => ?_)
  rcases hw with ⟨⟨c_1, rfl⟩ | ⟨c_1, rfl⟩, rfl⟩
  · have hP : va_P D vcl (mW h0 q cB cI_ cZ I F) H := hP
    have hD : va_D A (mW h0 q cB cI_ cZ I F) := hD
    refine lv_if_eq (tgt := 29) hx hb dX10_rowByte_5 (by decide) (fun hno => absurd hno (by decide)) (fun _ => ?_)
    obtain ⟨j, hj, rfl⟩ := c_1
    have hslj := (hre.2.1 j hj).2.1
    have hrwj := elF_rw (hre.2.1 j hj).2.2
    have hl : lv_has ls 6 [(0, .ref h0), (1, .int (nI j)), (2, .int x2), (3, .int x3)] := hl
    refine lv_iload_n hx hb dX10_rowByte_8 rfl (lv_at hl 2 rfl) ?_
    refine lv_iconst (v := 0) hx hb dX10_rowByte_9 (by decide) ?_
    refine lv_aload_n hx hb dX10_rowByte_10 rfl (lv_at hl 0 rfl) ?_
    refine va_get (D := D) (ci := 11) (v := .ref (q 11)) (C := RX10) (T := TX10) (N := 48) hx hb hts inX10 hown hK hP 0 rfl rfl 11 (by decide) (hts _ k_1155) (fun _ h9 => h9) rfl dX10_rowByte_11 ?_
    refine lv_aload_n hx hb dX10_rowByte_14 rfl (lv_at hl 0 rfl) ?_
    refine va_get (D := D) (ci := 11) (v := .ref (q 4)) (C := RX10) (T := TX10) (N := 48) hx hb hts inX10 hown hK hP 0 rfl rfl 4 (by decide) (hts _ k_1148) (fun _ h9 => h9) rfl dX10_rowByte_15 ?_
    refine lv_iload_n hx hb dX10_rowByte_18 rfl (lv_at hl 1 rfl) ?_
    refine q_ild (X := j) (f := (F 4)) hx hb hK hP 2 1 rfl rfl (by omega) (by decide) dX10_rowByte_19 ?_
    refine q_seti (y := (nI ((sl j)))) (hre.2.1 j (by omega)).1 ?_
    refine q_ild (X := (sl j)) (f := (F 11)) hx hb hK hP 9 1 rfl rfl (by omega) (by decide) dX10_rowByte_20 ?_
    refine q_seti (y := (nI (eRw (Es.getD j dE)))) (hre.2.1 j (by omega)).2.2.2.2.2.2.2.2.2.1 ?_
    refine lv_iconst (v := 1) hx hb dX10_rowByte_21 (by decide) ?_
    refine lv_isub hx hb dX10_rowByte_22 ?_
    refine q_ei (k := 0) (n := 0) hP hS hA (q_rS (wc := []) (tc := []) (As := [.int x2, .int 0, .int ((nI (eRw (Es.getD j dE))) - 1)]) (rest := []) hf (m_X10_in_1 _ D x2 0 ((nI (eRw (Es.getD j dE))) - 1) _) k_1296 k_1294 k_1295 k_98 (nA := 3) (by decide +kernel) ⟨Nat.le_of_ble_eq_true rfl, Nat.le_of_ble_eq_true rfl⟩ (fun k q h => by simp at h) (hK.sub (tys' := []) [] rfl) (A := A) ⟨fun i j p q h => by simp at h, fun k q h => by simp at h⟩ (fun _ _ _ _ h => h) (fun _ _ _ => trivial) rfl hl.1 rfl (Nat.le_of_ble_eq_true rfl) dX10_rowByte_23 ⟨Nat.le_of_ble_eq_true rfl, Nat.le_of_ble_eq_true rfl⟩) (by decide) (by decide) (fun r u H locs hw hP hS => ?_)
    rcases hw with ⟨c_2, rfl, rfl⟩ | ⟨c_3, c_4, rfl, rfl⟩ | ⟨c_5, c_6, rfl, rfl⟩
    · refine lv_if_ne (tgt := 32) hx hb dX10_rowByte_26 (by decide) (fun hno => absurd hno (by decide)) (fun _ => ?_)
      refine lv_bipush (v := (-2)) hx hb dX10_rowByte_29 (by decide) ?_
      exact q_zi hf hr rfl hlocks hK hP hD hS (Nat.le_of_ble_eq_true rfl) (Nat.le_of_ble_eq_true rfl) rfl dX10_rowByte_31
    · refine lv_if_ne (tgt := 32) hx hb dX10_rowByte_26 (by decide) (fun hno => absurd hno (by decide)) (fun _ => ?_)
      refine lv_bipush (v := (-2)) hx hb dX10_rowByte_29 (by decide) ?_
      exact q_zi hf hr rfl hlocks hK hP hD hS (Nat.le_of_ble_eq_true rfl) (Nat.le_of_ble_eq_true rfl) rfl dX10_rowByte_31
    · refine lv_if_ne (tgt := 32) hx hb dX10_rowByte_26 (by decide) (fun _ => ?_) (fun hno => absurd hno (by decide))
      obtain ⟨r1, hr1, rfl⟩ := ie_1 (by omega) c_5 c_6
      have hl : lv_has ls 6 [(0, .ref h0), (1, .int (nI j)), (2, .int (nI r1)), (3, .int x3)] := hl
      have hrin := rwAt_in (x := Es.getD j dE) hr1
      have htl := (hre.2.1 j hj).2.2.2.2.2.2.2.1
      refine lv_aload_n hx hb dX10_rowByte_32 rfl (lv_at hl 0 rfl) ?_
      refine va_get (D := D) (ci := 11) (v := .ref (q 4)) (C := RX10) (T := TX10) (N := 48) hx hb hts inX10 hown hK hP 0 rfl rfl 4 (by decide) (hts _ k_1148) (fun _ h9 => h9) rfl dX10_rowByte_33 ?_
      refine lv_iload_n hx hb dX10_rowByte_36 rfl (lv_at hl 1 rfl) ?_
      refine q_ild (X := j) (f := (F 4)) hx hb hK hP 2 1 rfl rfl (by omega) (by decide) dX10_rowByte_37 ?_
      refine q_seti (y := (nI ((sl j)))) (hre.2.1 j (by omega)).1 ?_
      refine lv_istore (lv' := [(4, .int (nI ((sl j)))), (0, .ref h0), (1, .int (nI j)), (2, .int (nI r1)), (3, .int x3)]) hx hb dX10_rowByte_38 hl (by decide) rfl (fun ls hl => ?_)
      refine lv_sipush (v := 131) hx hb dX10_rowByte_40 (by decide) ?_
      refine lv_iload hx hb dX10_rowByte_43 (lv_at hl 0 rfl) ?_
      refine lv_imul hx hb dX10_rowByte_45 ?_
      refine q_seti (y := nI (131 * ((sl j)))) (pk_mul 131 ((sl j))) ?_
      refine lv_iload_n hx hb dX10_rowByte_46 rfl (lv_at hl 3 rfl) ?_
      refine lv_iadd hx hb dX10_rowByte_47 ?_
      refine q_seti (y := nI ((131 * ((sl j))) + r1)) (nI_add (131 * ((sl j))) r1) ?_
      refine lv_istore (lv' := [(5, .int (nI ((131 * ((sl j))) + r1))), (4, .int (nI ((sl j)))), (0, .ref h0), (1, .int (nI j)), (2, .int (nI r1)), (3, .int x3)]) hx hb dX10_rowByte_48 hl (by decide) rfl (fun ls hl => ?_)
      refine lv_iload_n hx hb dX10_rowByte_50 rfl (lv_at hl 5 rfl) ?_
      refine lv_iconst (v := 0) hx hb dX10_rowByte_51 (by decide) ?_
      refine lv_aload_n hx hb dX10_rowByte_52 rfl (lv_at hl 2 rfl) ?_
      refine va_get (D := D) (ci := 11) (v := .ref (q 13)) (C := RX10) (T := TX10) (N := 48) hx hb hts inX10 hown hK hP 0 rfl rfl 13 (by decide) (hts _ k_1157) (fun _ h9 => h9) rfl dX10_rowByte_53 ?_
      refine lv_iload hx hb dX10_rowByte_56 (lv_at hl 0 rfl) ?_
      refine q_ild (X := (131 * ((sl j))) + r1) (f := (F 13)) hx hb hK hP 11 1 rfl rfl (by omega) (by decide) dX10_rowByte_58 ?_
      refine q_seti (y := (nI ((rwAt (Es.getD j dE) r1).2))) (tx_rv_at (hre.2.1 j hj).2.2.2.2.2.2.2.2.2.2.1 r1 hr1).2 ?_
      refine lv_iconst (v := 1) hx hb dX10_rowByte_59 (by decide) ?_
      refine lv_isub hx hb dX10_rowByte_60 ?_
      refine q_ei (k := 0) (n := 0) hP hS hA (q_rS (wc := []) (tc := []) (As := [.int x3, .int 0, .int ((nI ((rwAt (Es.getD j dE) r1).2)) - 1)]) (rest := []) hf (m_X10_in_1 _ D x3 0 ((nI ((rwAt (Es.getD j dE) r1).2)) - 1) _) k_1296 k_1294 k_1295 k_98 (nA := 3) (by decide +kernel) ⟨Nat.le_of_ble_eq_true rfl, Nat.le_of_ble_eq_true rfl⟩ (fun k q h => by simp at h) (hK.sub (tys' := []) [] rfl) (A := A) ⟨fun i j p q h => by simp at h, fun k q h => by simp at h⟩ (fun _ _ _ _ h => h) (fun _ _ _ => trivial) rfl hl.1 rfl (Nat.le_of_ble_eq_true rfl) dX10_rowByte_61 ⟨Nat.le_of_ble_eq_true rfl, Nat.le_of_ble_eq_true rfl⟩) (by decide) (by decide) (fun r u H locs hw hP hS => ?_)
      rcases hw with ⟨c_7, rfl, rfl⟩ | ⟨c_8, c_9, rfl, rfl⟩ | ⟨c_10, c_11, rfl, rfl⟩
      · refine lv_if_eq (tgt := 91) hx hb dX10_rowByte_64 (by decide) (fun _ => ?_) (fun hno => absurd hno (by decide))
        refine lv_iconst (v := (-1)) hx hb dX10_rowByte_91 (by decide) ?_
        exact q_zi hf hr rfl hlocks hK hP hD hS (Nat.le_of_ble_eq_true rfl) (Nat.le_of_ble_eq_true rfl) rfl dX10_rowByte_92
      · refine lv_if_eq (tgt := 91) hx hb dX10_rowByte_64 (by decide) (fun _ => ?_) (fun hno => absurd hno (by decide))
        refine lv_iconst (v := (-1)) hx hb dX10_rowByte_91 (by decide) ?_
        exact q_zi hf hr rfl hlocks hK hP hD hS (Nat.le_of_ble_eq_true rfl) (Nat.le_of_ble_eq_true rfl) rfl dX10_rowByte_92
      · refine lv_if_eq (tgt := 91) hx hb dX10_rowByte_64 (by decide) (fun hno => absurd hno (by decide)) (fun _ => ?_)
        obtain ⟨i1, hi1, rfl⟩ := ie_1 (by omega) c_10 c_11
        have hl : lv_has ls 6 [(5, .int (nI ((131 * ((sl j))) + r1))), (4, .int (nI ((sl j)))), (0, .ref h0), (1, .int (nI j)), (2, .int (nI r1)), (3, .int (nI i1))] := hl
        refine lv_aload_n hx hb dX10_rowByte_67 rfl (lv_at hl 2 rfl) ?_
        refine va_get (D := D) (ci := 11) (v := .ref (q 10)) (C := RX10) (T := TX10) (N := 48) hx hb hts inX10 hown hK hP 0 rfl rfl 10 (by decide) (hts _ k_1154) (fun _ h9 => h9) rfl dX10_rowByte_68 ?_
        refine lv_sipush (v := 1200) hx hb dX10_rowByte_71 (by decide) ?_
        refine lv_iload hx hb dX10_rowByte_74 (lv_at hl 1 rfl) ?_
        refine lv_imul hx hb dX10_rowByte_76 ?_
        refine q_seti (y := nI (1200 * ((sl j)))) (pk_mul 1200 ((sl j))) ?_
        refine lv_aload_n hx hb dX10_rowByte_77 rfl (lv_at hl 2 rfl) ?_
        refine va_get (D := D) (ci := 11) (v := .ref (q 12)) (C := RX10) (T := TX10) (N := 48) hx hb hts inX10 hown hK hP 0 rfl rfl 12 (by decide) (hts _ k_1156) (fun _ h9 => h9) rfl dX10_rowByte_78 ?_
        refine lv_iload hx hb dX10_rowByte_81 (lv_at hl 0 rfl) ?_
        refine q_ild (X := (131 * ((sl j))) + r1) (f := (F 12)) hx hb hK hP 10 1 rfl rfl (by omega) (by decide) dX10_rowByte_83 ?_
        refine q_seti (y := (nI ((rwAt (Es.getD j dE) r1).1))) (tx_rv_at (hre.2.1 j hj).2.2.2.2.2.2.2.2.2.2.1 r1 hr1).1 ?_
        refine lv_iadd hx hb dX10_rowByte_84 ?_
        refine q_seti (y := nI ((1200 * ((sl j))) + ((rwAt (Es.getD j dE) r1).1))) (nI_add (1200 * ((sl j))) ((rwAt (Es.getD j dE) r1).1)) ?_
        refine lv_iload_n hx hb dX10_rowByte_85 rfl (lv_at hl 5 rfl) ?_
        refine lv_iadd hx hb dX10_rowByte_86 ?_
        refine q_seti (y := nI (((1200 * ((sl j))) + ((rwAt (Es.getD j dE) r1).1)) + i1)) (nI_add ((1200 * ((sl j))) + ((rwAt (Es.getD j dE) r1).1)) i1) ?_
        refine q_bld (X := ((1200 * ((sl j))) + ((rwAt (Es.getD j dE) r1).1)) + i1) (f := (F 10)) hx hb hK hP 8 0 rfl rfl (by omega) (by decide) dX10_rowByte_87 ?_
        refine lv_goto (tgt := 92) hx hb dX10_rowByte_88 (by decide) ?_
        exact q_zi hf hr rfl hlocks hK hP hD hS (Nat.le_of_ble_eq_true rfl) (Nat.le_of_ble_eq_true rfl) rfl dX10_rowByte_92
  · have hP : va_P D vcl (mW h0 q cB cI_ cZ I F) H := hP
    have hD : va_D A (mW h0 q cB cI_ cZ I F) := hD
    refine lv_if_eq (tgt := 29) hx hb dX10_rowByte_5 (by decide) (fun _ => ?_) (fun hno => absurd hno (by decide))
    refine lv_bipush (v := (-2)) hx hb dX10_rowByte_29 (by decide) ?_
    exact q_zi hf hr rfl hlocks hK hP hD hS (Nat.le_of_ble_eq_true rfl) (Nat.le_of_ble_eq_true rfl) rfl dX10_rowByte_31
set_option maxHeartbeats 1000000 in
set_option maxRecDepth 100000 in
theorem lc_cnt {p : Program} {l : Launch} {e : Env} {R : Room} {s : State} {m : MethodId} {args : Array Value} {below : List Frame} {meth : Method} {c : Code} {cells slots : Nat} {Q : State → Prop} {D : va_G} {A : Nat → Prop} {h0 : Nat} {q : Nat → Nat} {cB cI cZ : ClassId} {I : Nat → Int32} {F : Nat → Nat → Int32} {Es : List E5} {sl : Nat → Nat} {x1 : Int32} (hI3 : I 3 = nI Es.length) (hre : reR F Es sl) (hRf : 0 ≤ R.frames) (hRl : 0 ≤ R.locals) (hRc : cells ≤ R.cells) (hRs : slots ≤ R.slots) (hA : ∀ q : Nat, s.heap.size ≤ q → A q) (hf : CallFix p m c cX10_count 5 s args gT yX10_count.cls) (hK : va_K D vcl (mT cB cI cZ) s) :
    ∀ (k : Nat) (i : Nat) (v : Int32) (H : Heap) (locs : List Loc) (ls : Array Slot), i + k = Es.length →  va_P D vcl (mW h0 q cB cI cZ I F) H → va_D A (mW h0 q cB cI cZ I F) → va_S A s.heap H locs → lv_has ls 5 [(3, .int (nI i)), (2, .int v), (1, .int x1), (0, .ref h0)] →
    (∀ (v : Int32) (H : Heap) (locs : List Loc) (ls : Array Slot), va_P D vcl (mW h0 q cB cI cZ I F) H → va_D A (mW h0 q cB cI cZ I F) → va_S A s.heap H locs → lv_has ls 5 [(2, .int v), (0, .ref h0)] → W p l e R s m args below meth c H locs cells slots Q (F0 m 120 ls [])) →
    W p l e R s m args below meth c H locs cells slots Q (F0 m 52 ls []) := by
  obtain ⟨hx, hb, hml, hown, hts⟩ := id hf
  have hre1 := hre.1
  intro k
  induction k with
  | zero =>
    intro i v H locs ls hik hP hD hS hl kk
    refine lv_iload_n hx hb dX10_count_52 rfl (lv_at hl 0 rfl) ?_
    refine lv_aload_n hx hb dX10_count_53 rfl (lv_at hl 3 rfl) ?_
    refine va_get (D := D) (ci := 11) (v := .int (I 3)) (C := RX10) (T := TX10) (N := 48) hx hb hts inX10 hown hK hP 0 rfl rfl 3 (by decide) (hts _ k_1147) (fun _ h9 => h9) rfl dX10_count_54 ?_
    refine q_seti (y := (nI (Es.length))) hI3 ?_
    refine lv_icmp_ge (tgt := 120) hx hb dX10_count_57 (by decide) (fun c_1 => ?_) (fun c_1 => ?_)
    · have c_1 := q_le (a := Es.length) (b := i) (by omega) (by omega) c_1
      exact kk v H locs ls hP hD hS (lv_sub hl (l' := [(2, .int v), (0, .ref h0)]) [1, 3] rfl)
    · have c_1 := q_nle (a := Es.length) (b := i) (by omega) (by omega) c_1
      exact absurd hik (by omega)
  | succ k ih =>
    intro i v H locs ls hik hP hD hS hl kk
    refine lv_iload_n hx hb dX10_count_52 rfl (lv_at hl 0 rfl) ?_
    refine lv_aload_n hx hb dX10_count_53 rfl (lv_at hl 3 rfl) ?_
    refine va_get (D := D) (ci := 11) (v := .int (I 3)) (C := RX10) (T := TX10) (N := 48) hx hb hts inX10 hown hK hP 0 rfl rfl 3 (by decide) (hts _ k_1147) (fun _ h9 => h9) rfl dX10_count_54 ?_
    refine q_seti (y := (nI (Es.length))) hI3 ?_
    refine lv_icmp_ge (tgt := 120) hx hb dX10_count_57 (by decide) (fun c_1 => ?_) (fun c_1 => ?_)
    · have c_1 := q_le (a := Es.length) (b := i) (by omega) (by omega) c_1
      exact absurd hik (by omega)
    · have c_1 := q_nle (a := Es.length) (b := i) (by omega) (by omega) c_1
      have hslj := (hre.2.1 i (by omega)).2.1
      have hrwj := elF_rw (hre.2.1 i (by omega)).2.2
      refine lv_aload_n hx hb dX10_count_60 rfl (lv_at hl 3 rfl) ?_
      refine va_get (D := D) (ci := 11) (v := .ref (q 7)) (C := RX10) (T := TX10) (N := 48) hx hb hts inX10 hown hK hP 0 rfl rfl 7 (by decide) (hts _ k_1151) (fun _ h9 => h9) rfl dX10_count_61 ?_
      refine lv_aload_n hx hb dX10_count_64 rfl (lv_at hl 3 rfl) ?_
      refine va_get (D := D) (ci := 11) (v := .ref (q 4)) (C := RX10) (T := TX10) (N := 48) hx hb hts inX10 hown hK hP 0 rfl rfl 4 (by decide) (hts _ k_1148) (fun _ h9 => h9) rfl dX10_count_65 ?_
      refine lv_iload_n hx hb dX10_count_68 rfl (lv_at hl 0 rfl) ?_
      refine q_ild (X := i) (f := (F 4)) hx hb hK hP 2 1 rfl rfl (by omega) (by decide) dX10_count_69 ?_
      refine q_seti (y := (nI ((sl i)))) (hre.2.1 i (by omega)).1 ?_
      refine q_zld (X := (sl i)) (f := (F 7)) hx hb hK hP 5 2 rfl rfl (by omega) (by decide) dX10_count_70 ?_
      refine q_seti (y := (Es.getD i dE).2.2.1) (hre.2.1 i (by omega)).2.2.2.2.1 ?_
      refine lv_istore (lv' := [(4, .int ((Es.getD i dE).2.2.1)), (3, .int (nI i)), (2, .int v), (1, .int x1), (0, .ref h0)]) hx hb dX10_count_71 hl (by decide) rfl (fun ls hl => ?_)
      refine lv_iload_n hx hb dX10_count_73 rfl (lv_at hl 2 rfl) ?_
      refine lv_iload_n hx hb dX10_count_74 rfl (lv_at hl 3 rfl) ?_
      refine lv_iconst (v := 2) hx hb dX10_count_75 (by decide) ?_
      refine lv_icmp_ne (tgt := 92) hx hb dX10_count_76 (by decide) (fun c_2 => ?_) (fun c_2 => ?_)
      · refine lv_iload hx hb dX10_count_92 (lv_at hl 0 rfl) ?_
        refine lv_if_eq (tgt := 101) hx hb dX10_count_94 (by decide) (fun c_3 => ?_) (fun c_3 => ?_)
        · refine lv_aload_n hx hb dX10_count_101 rfl (lv_at hl 4 rfl) ?_
          refine va_get (D := D) (ci := 11) (v := .ref (q 11)) (C := RX10) (T := TX10) (N := 48) hx hb hts inX10 hown hK hP 0 rfl rfl 11 (by decide) (hts _ k_1155) (fun _ h9 => h9) rfl dX10_count_102 ?_
          refine lv_aload_n hx hb dX10_count_105 rfl (lv_at hl 4 rfl) ?_
          refine va_get (D := D) (ci := 11) (v := .ref (q 4)) (C := RX10) (T := TX10) (N := 48) hx hb hts inX10 hown hK hP 0 rfl rfl 4 (by decide) (hts _ k_1148) (fun _ h9 => h9) rfl dX10_count_106 ?_
          refine lv_iload_n hx hb dX10_count_109 rfl (lv_at hl 1 rfl) ?_
          refine q_ild (X := i) (f := (F 4)) hx hb hK hP 2 1 rfl rfl (by omega) (by decide) dX10_count_110 ?_
          refine q_seti (y := (nI ((sl i)))) (hre.2.1 i (by omega)).1 ?_
          refine q_ild (X := (sl i)) (f := (F 11)) hx hb hK hP 9 1 rfl rfl (by omega) (by decide) dX10_count_111 ?_
          refine q_seti (y := (nI (eRw (Es.getD i dE)))) (hre.2.1 i (by omega)).2.2.2.2.2.2.2.2.2.1 ?_
          refine lv_iadd hx hb dX10_count_112 ?_
          refine lv_istore_n (lv' := [(2, .int (v + (nI (eRw (Es.getD i dE))))), (4, .int ((Es.getD i dE).2.2.1)), (3, .int (nI i)), (1, .int x1), (0, .ref h0)]) hx hb dX10_count_113 rfl hl (by decide) rfl (fun ls hl => ?_)
          refine lv_iinc (v := (nI (i + 1))) (lv' := [(3, .int (nI (i + 1))), (2, .int (v + (nI (eRw (Es.getD i dE))))), (4, .int ((Es.getD i dE).2.2.1)), (1, .int x1), (0, .ref h0)]) hx hb dX10_count_114 hl (k := 2) rfl (nI_add i 1) (by decide) rfl (fun ls hl => ?_)
          refine lv_goto (tgt := 52) hx hb dX10_count_117 (by decide) ?_
          exact ih (i + 1) _ H locs ls (by omega) hP hD hS (lv_sub hl (l' := [(3, .int (nI (i + 1))), (2, .int (v + (nI (eRw (Es.getD i dE))))), (1, .int x1), (0, .ref h0)]) [0, 1, 3, 4] rfl) kk
        · refine lv_iconst (v := 0) hx hb dX10_count_97 (by decide) ?_
          refine lv_goto (tgt := 112) hx hb dX10_count_98 (by decide) ?_
          refine lv_iadd hx hb dX10_count_112 ?_
          refine lv_istore_n (lv' := [(2, .int (v + 0)), (4, .int ((Es.getD i dE).2.2.1)), (3, .int (nI i)), (1, .int x1), (0, .ref h0)]) hx hb dX10_count_113 rfl hl (by decide) rfl (fun ls hl => ?_)
          refine lv_iinc (v := (nI (i + 1))) (lv' := [(3, .int (nI (i + 1))), (2, .int (v + 0)), (4, .int ((Es.getD i dE).2.2.1)), (1, .int x1), (0, .ref h0)]) hx hb dX10_count_114 hl (k := 2) rfl (nI_add i 1) (by decide) rfl (fun ls hl => ?_)
          refine lv_goto (tgt := 52) hx hb dX10_count_117 (by decide) ?_
          exact ih (i + 1) _ H locs ls (by omega) hP hD hS (lv_sub hl (l' := [(3, .int (nI (i + 1))), (2, .int (v + 0)), (1, .int x1), (0, .ref h0)]) [0, 1, 3, 4] rfl) kk
      · refine lv_iload hx hb dX10_count_79 (lv_at hl 0 rfl) ?_
        refine lv_if_eq (tgt := 88) hx hb dX10_count_81 (by decide) (fun c_4 => ?_) (fun c_4 => ?_)
        · refine lv_iconst (v := 0) hx hb dX10_count_88 (by decide) ?_
          refine lv_goto (tgt := 112) hx hb dX10_count_89 (by decide) ?_
          refine lv_iadd hx hb dX10_count_112 ?_
          refine lv_istore_n (lv' := [(2, .int (v + 0)), (4, .int ((Es.getD i dE).2.2.1)), (3, .int (nI i)), (1, .int x1), (0, .ref h0)]) hx hb dX10_count_113 rfl hl (by decide) rfl (fun ls hl => ?_)
          refine lv_iinc (v := (nI (i + 1))) (lv' := [(3, .int (nI (i + 1))), (2, .int (v + 0)), (4, .int ((Es.getD i dE).2.2.1)), (1, .int x1), (0, .ref h0)]) hx hb dX10_count_114 hl (k := 2) rfl (nI_add i 1) (by decide) rfl (fun ls hl => ?_)
          refine lv_goto (tgt := 52) hx hb dX10_count_117 (by decide) ?_
          exact ih (i + 1) _ H locs ls (by omega) hP hD hS (lv_sub hl (l' := [(3, .int (nI (i + 1))), (2, .int (v + 0)), (1, .int x1), (0, .ref h0)]) [0, 1, 3, 4] rfl) kk
        · refine lv_iconst (v := 1) hx hb dX10_count_84 (by decide) ?_
          refine lv_goto (tgt := 112) hx hb dX10_count_85 (by decide) ?_
          refine lv_iadd hx hb dX10_count_112 ?_
          refine lv_istore_n (lv' := [(2, .int (v + 1)), (4, .int ((Es.getD i dE).2.2.1)), (3, .int (nI i)), (1, .int x1), (0, .ref h0)]) hx hb dX10_count_113 rfl hl (by decide) rfl (fun ls hl => ?_)
          refine lv_iinc (v := (nI (i + 1))) (lv' := [(3, .int (nI (i + 1))), (2, .int (v + 1)), (4, .int ((Es.getD i dE).2.2.1)), (1, .int x1), (0, .ref h0)]) hx hb dX10_count_114 hl (k := 2) rfl (nI_add i 1) (by decide) rfl (fun ls hl => ?_)
          refine lv_goto (tgt := 52) hx hb dX10_count_117 (by decide) ?_
          exact ih (i + 1) _ H locs ls (by omega) hP hD hS (lv_sub hl (l' := [(3, .int (nI (i + 1))), (2, .int (v + 1)), (1, .int x1), (0, .ref h0)]) [0, 1, 3, 4] rfl) kk
set_option maxHeartbeats 1000000 in
set_option maxRecDepth 100000 in
theorem rm_count (l : Launch) (D : va_G) (h0 : Nat) (q : Nat → Nat) (cB cI_ cZ : ClassId) (I : Nat → Int32) (F : Nat → Nat → Int32) (Es : List E5) (sl : Nat → Nat) (x1 : Int32) (hI3 : I 3 = nI Es.length) (hre : reR F Es sl) : cI l D yX10_count cX10_count 5 (some .int) 0 0 0 0 [.ref h0, .int x1] zT (mW h0 q cB cI_ cZ I F) (mT cB cI_ cZ) (fun r u => u = (mW h0 q cB cI_ cZ I F, mT cB cI_ cZ)) := by
  refine q_si (by decide) (Nat.le_of_ble_eq_true rfl) ?_
  intro p e s m below meth c A ls hAe hf hr hlocks hin hK hP hD hS hA hZ hl
  obtain ⟨hx, hb, hml, hown, hts⟩ := id hf
  have hl : lv_has ls 5 [(0, .ref h0), (1, .int x1)] := hl
  refine lv_iconst (v := 0) hx hb dX10_count_0 (by decide) ?_
  refine lv_istore_n (lv' := [(2, .int 0), (0, .ref h0), (1, .int x1)]) hx hb dX10_count_1 rfl hl (by decide) rfl (fun ls hl => ?_)
  refine lv_iload_n hx hb dX10_count_2 rfl (lv_at hl 2 rfl) ?_
  rcases q_sw_0_5 x1 with c_1 | c_1 | c_1 | c_1 | c_1 | c_1 | c_1
  · refine q_seti (y := 0) c_1 ?_
    refine lv_tableIn (off := 37) (tgt := 40) hx hb dX10_count_3 (by decide) (by decide) (by decide) (by decide) ?_
    refine lv_aload_n hx hb dX10_count_40 rfl (lv_at hl 1 rfl) ?_
    refine va_get (D := D) (ci := 11) (v := .int (I 1)) (C := RX10) (T := TX10) (N := 48) hx hb hts inX10 hown hK hP 0 rfl rfl 1 (by decide) (hts _ k_1145) (fun _ h9 => h9) rfl dX10_count_41 ?_
    exact q_zi hf hr rfl hlocks hK hP hD hS (Nat.le_of_ble_eq_true rfl) (Nat.le_of_ble_eq_true rfl) rfl dX10_count_44
  · refine q_seti (y := 1) c_1 ?_
    refine lv_tableIn (off := 42) (tgt := 45) hx hb dX10_count_3 (by decide) (by decide) (by decide) (by decide) ?_
    refine lv_aload_n hx hb dX10_count_45 rfl (lv_at hl 1 rfl) ?_
    refine va_get (D := D) (ci := 11) (v := .int (I 3)) (C := RX10) (T := TX10) (N := 48) hx hb hts inX10 hown hK hP 0 rfl rfl 3 (by decide) (hts _ k_1147) (fun _ h9 => h9) rfl dX10_count_46 ?_
    refine q_seti (y := (nI (Es.length))) hI3 ?_
    exact q_zi hf hr rfl hlocks hK hP hD hS (Nat.le_of_ble_eq_true rfl) (Nat.le_of_ble_eq_true rfl) rfl dX10_count_49
  · refine q_seti (y := 2) c_1 ?_
    refine lv_tableIn (off := 47) (tgt := 50) hx hb dX10_count_3 (by decide) (by decide) (by decide) (by decide) ?_
    refine lv_iconst (v := 0) hx hb dX10_count_50 (by decide) ?_
    refine lv_istore_n (lv' := [(3, .int 0), (2, .int 0), (0, .ref h0), (1, .int x1)]) hx hb dX10_count_51 rfl hl (by decide) rfl (fun ls hl => ?_)
    refine lc_cnt (Es := Es) (sl := sl) (x1 := x1) hI3 hre (Nat.le_of_ble_eq_true rfl) (Nat.le_of_ble_eq_true rfl) (Nat.le_of_ble_eq_true rfl) (Nat.le_of_ble_eq_true rfl) hA hf hK Es.length 0 _ _ _ ls (by omega) hP hD hS (lv_sub hl (l' := [(3, .int 0), (2, .int 0), (1, .int x1), (0, .ref h0)]) [0, 1, 3, 2] rfl) (fun v H locs ls hP hD hS hl => ?_)
    refine lv_iload_n hx hb dX10_count_120 rfl (lv_at hl 0 rfl) ?_
    exact q_zi hf hr rfl hlocks hK hP hD hS (Nat.le_of_ble_eq_true rfl) (Nat.le_of_ble_eq_true rfl) rfl dX10_count_121
  · refine q_seti (y := 3) c_1 ?_
    refine lv_tableIn (off := 47) (tgt := 50) hx hb dX10_count_3 (by decide) (by decide) (by decide) (by decide) ?_
    refine lv_iconst (v := 0) hx hb dX10_count_50 (by decide) ?_
    refine lv_istore_n (lv' := [(3, .int 0), (2, .int 0), (0, .ref h0), (1, .int x1)]) hx hb dX10_count_51 rfl hl (by decide) rfl (fun ls hl => ?_)
    refine lc_cnt (Es := Es) (sl := sl) (x1 := x1) hI3 hre (Nat.le_of_ble_eq_true rfl) (Nat.le_of_ble_eq_true rfl) (Nat.le_of_ble_eq_true rfl) (Nat.le_of_ble_eq_true rfl) hA hf hK Es.length 0 _ _ _ ls (by omega) hP hD hS (lv_sub hl (l' := [(3, .int 0), (2, .int 0), (1, .int x1), (0, .ref h0)]) [0, 1, 3, 2] rfl) (fun v H locs ls hP hD hS hl => ?_)
    refine lv_iload_n hx hb dX10_count_120 rfl (lv_at hl 0 rfl) ?_
    exact q_zi hf hr rfl hlocks hK hP hD hS (Nat.le_of_ble_eq_true rfl) (Nat.le_of_ble_eq_true rfl) rfl dX10_count_121
  · refine q_seti (y := 4) c_1 ?_
    refine lv_tableIn (off := 119) (tgt := 122) hx hb dX10_count_3 (by decide) (by decide) (by decide) (by decide) ?_
    refine lv_aload_n hx hb dX10_count_122 rfl (lv_at hl 1 rfl) ?_
    refine va_get (D := D) (ci := 11) (v := .int (I 20)) (C := RX10) (T := TX10) (N := 48) hx hb hts inX10 hown hK hP 0 rfl rfl 20 (by decide) (hts _ k_1164) (fun _ h9 => h9) rfl dX10_count_123 ?_
    refine lv_if_eq (tgt := 133) hx hb dX10_count_126 (by decide) (fun c_2 => ?_) (fun c_2 => ?_)
    · refine lv_iconst (v := 0) hx hb dX10_count_133 (by decide) ?_
      exact q_zi hf hr rfl hlocks hK hP hD hS (Nat.le_of_ble_eq_true rfl) (Nat.le_of_ble_eq_true rfl) rfl dX10_count_134
    · refine lv_iconst (v := 1) hx hb dX10_count_129 (by decide) ?_
      refine lv_goto (tgt := 134) hx hb dX10_count_130 (by decide) ?_
      exact q_zi hf hr rfl hlocks hK hP hD hS (Nat.le_of_ble_eq_true rfl) (Nat.le_of_ble_eq_true rfl) rfl dX10_count_134
  · refine q_seti (y := 5) c_1 ?_
    refine lv_tableIn (off := 132) (tgt := 135) hx hb dX10_count_3 (by decide) (by decide) (by decide) (by decide) ?_
    refine lv_aload_n hx hb dX10_count_135 rfl (lv_at hl 1 rfl) ?_
    refine va_get (D := D) (ci := 11) (v := .int (I 2)) (C := RX10) (T := TX10) (N := 48) hx hb hts inX10 hown hK hP 0 rfl rfl 2 (by decide) (hts _ k_1146) (fun _ h9 => h9) rfl dX10_count_136 ?_
    exact q_zi hf hr rfl hlocks hK hP hD hS (Nat.le_of_ble_eq_true rfl) (Nat.le_of_ble_eq_true rfl) rfl dX10_count_139
  · refine lv_tableOut (tgt := 140) hx hb dX10_count_3 c_1 (by decide) ?_
    refine lv_bipush (v := (-2)) hx hb dX10_count_140 (by decide) ?_
    exact q_zi hf hr rfl hlocks hK hP hD hS (Nat.le_of_ble_eq_true rfl) (Nat.le_of_ble_eq_true rfl) rfl dX10_count_142
set_option maxHeartbeats 1000000 in
set_option maxRecDepth 100000 in
theorem r_page (l : Launch) (D : va_G) (h0 : Nat) (q : Nat → Nat) (cB cI_ cZ : ClassId) (I : Nat → Int32) (F : Nat → Nat → Int32) (pn lk gs : Nat) (pe sl : Nat → Nat) (K : Nat → Int32) (Fm To Rr : Nat → Nat) (mo : Nat) (x1 x2 : Int32) (hpv : rp_ok F pn pe sl K Fm To Rr) (hI2 : I 2 = nI mo) (hI14 : I 14 = nI pn) (hI20 : I 20 = nI lk) (hlk : lk ≤ 1) (hmo : mo ≤ 40) (hSS : rs_S Fm To pn ≤ 8000) : cI l D yX10_page cX10_page 7 (some .int) 5 150 0 0 [.ref h0, .int x1, .int x2] zT (mW h0 q cB cI_ cZ I F) (mT cB cI_ cZ) (fun r u => (∃ (I2 : Nat → Int32) (F2 : Nat → Nat → Int32), sm I I2 F F2 ∧ u = (mW h0 q cB cI_ cZ I2 F2, mT cB cI_ cZ))) := by
  refine q_si (by decide) (Nat.le_of_ble_eq_true rfl) ?_
  intro p e s m below meth c A ls hAe hf hr hlocks hin hK hP hD hS hA hZ hl
  obtain ⟨hx, hb, hml, hown, hts⟩ := id hf
  have hl : lv_has ls 7 [(0, .ref h0), (1, .int x1), (2, .int x2)] := hl
  refine lv_iload_n hx hb dX10_page_0 rfl (lv_at hl 2 rfl) ?_
  refine lv_iconst (v := 0) hx hb dX10_page_1 (by decide) ?_
  refine lv_bipush (v := 6) hx hb dX10_page_2 (by decide) ?_
  refine q_ei (k := 0) (n := 0) hP hS hA (q_rS (wc := []) (tc := []) (As := [.int x2, .int 0, .int 6]) (rest := []) hf (m_X10_in_1 _ D x2 0 6 _) k_1296 k_1294 k_1295 k_98 (nA := 3) (by decide +kernel) ⟨Nat.le_of_ble_eq_true rfl, Nat.le_of_ble_eq_true rfl⟩ (fun k q h => by simp at h) (hK.sub (tys' := []) [] rfl) (A := A) ⟨fun i j p q h => by simp at h, fun k q h => by simp at h⟩ (fun _ _ _ _ h => h) (fun _ _ _ => trivial) rfl hl.1 rfl (Nat.le_of_ble_eq_true rfl) dX10_page_4 ⟨Nat.le_of_ble_eq_true rfl, Nat.le_of_ble_eq_true rfl⟩) (by decide) (by decide) (fun r u H locs hw hP hS => ?_)
  rcases hw with ⟨c_1, rfl, rfl⟩ | ⟨c_2, c_3, rfl, rfl⟩ | ⟨c_4, c_5, rfl, rfl⟩
  · refine lv_if_ne (tgt := 13) hx hb dX10_page_7 (by decide) (fun hno => absurd hno (by decide)) (fun _ => ?_)
    refine lv_bipush (v := (-2)) hx hb dX10_page_10 (by decide) ?_
    exact q_zi hf hr rfl hlocks hK hP hD hS (Nat.le_of_ble_eq_true rfl) (Nat.le_of_ble_eq_true rfl) ⟨I, F, ⟨⟨rfl, rfl, rfl⟩, ⟨rfl, rfl, rfl⟩, ⟨rfl, rfl, rfl, rfl, rfl, rfl, rfl, rfl, rfl, rfl, rfl⟩, rfl, rfl, rfl, rfl⟩, rfl⟩ dX10_page_12
  · refine lv_if_ne (tgt := 13) hx hb dX10_page_7 (by decide) (fun hno => absurd hno (by decide)) (fun _ => ?_)
    refine lv_bipush (v := (-2)) hx hb dX10_page_10 (by decide) ?_
    exact q_zi hf hr rfl hlocks hK hP hD hS (Nat.le_of_ble_eq_true rfl) (Nat.le_of_ble_eq_true rfl) ⟨I, F, ⟨⟨rfl, rfl, rfl⟩, ⟨rfl, rfl, rfl⟩, ⟨rfl, rfl, rfl, rfl, rfl, rfl, rfl, rfl, rfl, rfl, rfl⟩, rfl, rfl, rfl, rfl⟩, rfl⟩ dX10_page_12
  · refine lv_if_ne (tgt := 13) hx hb dX10_page_7 (by decide) (fun _ => ?_) (fun hno => absurd hno (by decide))
    refine lv_aload_n hx hb dX10_page_13 rfl (lv_at hl 0 rfl) ?_
    refine va_get (D := D) (ci := 11) (v := .int (I 20)) (C := RX10) (T := TX10) (N := 48) hx hb hts inX10 hown hK hP 0 rfl rfl 20 (by decide) (hts _ k_1164) (fun _ h9 => h9) rfl dX10_page_14 ?_
    refine q_seti (y := (nI lk)) hI20 ?_
    refine lv_if_eq (tgt := 23) hx hb dX10_page_17 (by decide) (fun c_6 => ?_) (fun c_6 => ?_)
    · have c_6 := q_eqn (a := lk) (b := 0) (by omega) (by omega) c_6
      refine lv_aload_n hx hb dX10_page_23 rfl (lv_at hl 0 rfl) ?_
      refine q_cv (k := 0) (n := 0) hK hP hD hS hA (fun hPc hKc hDc => q_rV (As := []) (rest := []) hf (r_breaks _ D h0 q cB cI_ cZ I F pn pe sl K Fm To Rr mo hpv hI2 hI14 hmo hSS _) k_1387 k_1384 k_1386 k_61 k_98 (nA := 0) (by decide +kernel) ⟨Nat.le_of_ble_eq_true rfl, Nat.le_of_ble_eq_true rfl⟩ hK hP (ci := 11) (q0 := 0) rfl rfl rfl hPc hKc hDc (fun _ _ _ _ h => h) (fun _ _ _ => trivial) rfl hl.1 rfl (Nat.le_of_ble_eq_true rfl) dX10_page_24 ⟨Nat.le_of_ble_eq_true rfl, Nat.le_of_ble_eq_true rfl⟩) (by decide) (by decide) (fun u H locs hw hK hP hD hS => ?_)
      obtain ⟨C, Pg, g30, w1, w2, w3, w4, g35, g36, g37, eC, ePg, htab, hcl, hpgis, hpge, rfl⟩ := hw
      have hP : va_P D vcl (mW h0 q cB cI_ cZ (upd (upd I 28 (nI (Pg.length))) 29 (bk_least pn C)) (va_up (va_up (va_up (va_up (va_up (va_up (va_up (va_up F 30 g30) 31 w1) 32 w2) 33 w3) 34 w4) 35 g35) 36 g36) 37 g37)) H := hP
      have hD : va_D A (mW h0 q cB cI_ cZ (upd (upd I 28 (nI (Pg.length))) 29 (bk_least pn C)) (va_up (va_up (va_up (va_up (va_up (va_up (va_up (va_up F 30 g30) 31 w1) 32 w2) 33 w3) 34 w4) 35 g35) 36 g36) 37 g37)) := hD
      have hpgl : Pg.length ≤ 8000 := by rw [ePg]; exact bk_pg_le _ _ _
      refine lv_iload_n hx hb dX10_page_27 rfl (lv_at hl 1 rfl) ?_
      refine lv_iconst (v := 0) hx hb dX10_page_28 (by decide) ?_
      refine lv_aload_n hx hb dX10_page_29 rfl (lv_at hl 0 rfl) ?_
      refine va_get (D := D) (ci := 11) (v := .int (nI (Pg.length))) (C := RX10) (T := TX10) (N := 48) hx hb hts inX10 hown hK hP 0 rfl rfl 28 (by decide) (hts _ k_1172) (fun _ h9 => h9) rfl dX10_page_30 ?_
      refine lv_iconst (v := 1) hx hb dX10_page_33 (by decide) ?_
      refine lv_isub hx hb dX10_page_34 ?_
      refine q_ei (k := 0) (n := 0) hP hS hA (q_rS (wc := []) (tc := []) (As := [.int x1, .int 0, .int ((nI (Pg.length)) - 1)]) (rest := []) hf (m_X10_in_1 _ D x1 0 ((nI (Pg.length)) - 1) _) k_1296 k_1294 k_1295 k_98 (nA := 3) (by decide +kernel) ⟨Nat.le_of_ble_eq_true rfl, Nat.le_of_ble_eq_true rfl⟩ (fun k q h => by simp at h) (hK.sub (tys' := []) [] rfl) (A := A) ⟨fun i j p q h => by simp at h, fun k q h => by simp at h⟩ (fun _ _ _ _ h => h) (fun _ _ _ => trivial) rfl hl.1 rfl (Nat.le_of_ble_eq_true rfl) dX10_page_35 ⟨Nat.le_of_ble_eq_true rfl, Nat.le_of_ble_eq_true rfl⟩) (by decide) (by decide) (fun r u H locs hw hP hS => ?_)
      rcases hw with ⟨c_7, rfl, rfl⟩ | ⟨c_8, c_9, rfl, rfl⟩ | ⟨c_10, c_11, rfl, rfl⟩
      · refine lv_if_ne (tgt := 44) hx hb dX10_page_38 (by decide) (fun hno => absurd hno (by decide)) (fun _ => ?_)
        refine lv_bipush (v := (-2)) hx hb dX10_page_41 (by decide) ?_
        exact q_zi hf hr rfl hlocks hK hP hD hS (Nat.le_of_ble_eq_true rfl) (Nat.le_of_ble_eq_true rfl) ⟨(upd (upd I 28 (nI (Pg.length))) 29 (bk_least pn C)), (va_up (va_up (va_up (va_up (va_up (va_up (va_up (va_up F 30 g30) 31 w1) 32 w2) 33 w3) 34 w4) 35 g35) 36 g36) 37 g37), ⟨⟨rfl, rfl, rfl⟩, ⟨rfl, rfl, rfl⟩, ⟨rfl, rfl, rfl, rfl, rfl, rfl, rfl, rfl, rfl, rfl, rfl⟩, rfl, rfl, rfl, rfl⟩, rfl⟩ dX10_page_43
      · refine lv_if_ne (tgt := 44) hx hb dX10_page_38 (by decide) (fun hno => absurd hno (by decide)) (fun _ => ?_)
        refine lv_bipush (v := (-2)) hx hb dX10_page_41 (by decide) ?_
        exact q_zi hf hr rfl hlocks hK hP hD hS (Nat.le_of_ble_eq_true rfl) (Nat.le_of_ble_eq_true rfl) ⟨(upd (upd I 28 (nI (Pg.length))) 29 (bk_least pn C)), (va_up (va_up (va_up (va_up (va_up (va_up (va_up (va_up F 30 g30) 31 w1) 32 w2) 33 w3) 34 w4) 35 g35) 36 g36) 37 g37), ⟨⟨rfl, rfl, rfl⟩, ⟨rfl, rfl, rfl⟩, ⟨rfl, rfl, rfl, rfl, rfl, rfl, rfl, rfl, rfl, rfl, rfl⟩, rfl, rfl, rfl, rfl⟩, rfl⟩ dX10_page_43
      · refine lv_if_ne (tgt := 44) hx hb dX10_page_38 (by decide) (fun _ => ?_) (fun hno => absurd hno (by decide))
        obtain ⟨g1, hg1, rfl⟩ := ie_1 (by omega) c_10 c_11
        have hl : lv_has ls 7 [(0, .ref h0), (1, .int (nI g1)), (2, .int x2)] := hl
        have hz9 : ∀ p, p < pn → 0 < To p - Fm p := fun p hp => by have h9 := hpv.2 p hp; omega
        have hpn8 := hpv.1
        have hne0 : bk_pg Fm To pn C 8000 0 0 ≠ [] := fun z9 => by rw [← ePg] at z9; have h9 := congrArg List.length z9; have h9 : Pg.length = 0 := h9; omega
        obtain ⟨f8, y8, ef8, hp8, hy8, _⟩ := bk_pg_c hne0
        have hat0 : pg_at Fm To pn C 0 0 := ⟨Nat.zero_le _, fun _ => rfl, fun h9 => ⟨hz9 0 h9, y8, hy8⟩⟩
        have hok := pg_ok hz9 htab hcl 8000 0 0 hat0 (by show rs_S Fm To pn ≤ rs_S Fm To 0 + 0 + 8000; omega)
        rw [← ePg] at hok
        have hrd := pg_rd hpgis hpge (by omega)
        have hgd := hok.2.2 g1 hg1
        have hord := rs_ord hgd.1 hgd.2.1 hgd.2.2.1 hgd.2.2.2.1 hgd.2.2.2.2.1 hgd.2.2.2.2.2
        have hqn := hgd.2.2.1
        have hpg0 := hgd.1
        have hrw0 := hpv.2 _ hgd.1
        have hrr0 := hgd.2.1
        have hrw1 := fun (h9 : pg_B pn Pg (g1 + 1) < pn) => hpv.2 _ h9
        have hrr1 := hgd.2.2.2.1
        have hr200 : pg_R pn Pg (g1 + 1) ≤ 200 := by
          rcases Nat.lt_or_ge (pg_B pn Pg (g1 + 1)) pn with h9 | h9
          · have h8 := hrw1 h9; have h7 := hrr1 h9; omega
          · have h8 := hgd.2.2.2.2.1 (by omega); omega
        refine lv_aload_n hx hb dX10_page_44 rfl (lv_at hl 0 rfl) ?_
        refine va_get (D := D) (ci := 11) (v := .ref (q 35)) (C := RX10) (T := TX10) (N := 48) hx hb hts inX10 hown hK hP 0 rfl rfl 35 (by decide) (hts _ k_1179) (fun _ h9 => h9) rfl dX10_page_45 ?_
        refine lv_iload_n hx hb dX10_page_48 rfl (lv_at hl 1 rfl) ?_
        refine q_ild (X := g1) (f := g35) hx hb hK hP 24 1 rfl rfl (by omega) (by decide) dX10_page_49 ?_
        refine q_seti (y := (nI (pg_B pn Pg g1))) (hrd g1 (by omega)).1 ?_
        refine lv_istore_n (lv' := [(3, .int (nI (pg_B pn Pg g1))), (0, .ref h0), (1, .int (nI g1)), (2, .int x2)]) hx hb dX10_page_50 rfl hl (by decide) rfl (fun ls hl => ?_)
        refine lv_aload_n hx hb dX10_page_51 rfl (lv_at hl 1 rfl) ?_
        refine va_get (D := D) (ci := 11) (v := .ref (q 36)) (C := RX10) (T := TX10) (N := 48) hx hb hts inX10 hown hK hP 0 rfl rfl 36 (by decide) (hts _ k_1180) (fun _ h9 => h9) rfl dX10_page_52 ?_
        refine lv_iload_n hx hb dX10_page_55 rfl (lv_at hl 2 rfl) ?_
        refine q_ild (X := g1) (f := g36) hx hb hK hP 25 1 rfl rfl (by omega) (by decide) dX10_page_56 ?_
        refine q_seti (y := (nI (pg_R pn Pg g1))) (hrd g1 (by omega)).2 ?_
        refine lv_istore (lv' := [(4, .int (nI (pg_R pn Pg g1))), (3, .int (nI (pg_B pn Pg g1))), (0, .ref h0), (1, .int (nI g1)), (2, .int x2)]) hx hb dX10_page_57 hl (by decide) rfl (fun ls hl => ?_)
        refine lv_aload_n hx hb dX10_page_59 rfl (lv_at hl 2 rfl) ?_
        refine va_get (D := D) (ci := 11) (v := .ref (q 35)) (C := RX10) (T := TX10) (N := 48) hx hb hts inX10 hown hK hP 0 rfl rfl 35 (by decide) (hts _ k_1179) (fun _ h9 => h9) rfl dX10_page_60 ?_
        refine lv_iload_n hx hb dX10_page_63 rfl (lv_at hl 3 rfl) ?_
        refine lv_iconst (v := 1) hx hb dX10_page_64 (by decide) ?_
        refine lv_iadd hx hb dX10_page_65 ?_
        refine q_seti (y := nI (g1 + 1)) (nI_add g1 1) ?_
        refine q_ild (X := g1 + 1) (f := g35) hx hb hK hP 24 1 rfl rfl (by omega) (by decide) dX10_page_66 ?_
        refine q_seti (y := (nI (pg_B pn Pg (g1 + 1)))) (hrd (g1 + 1) (by omega)).1 ?_
        refine lv_istore (lv' := [(5, .int (nI (pg_B pn Pg (g1 + 1)))), (4, .int (nI (pg_R pn Pg g1))), (3, .int (nI (pg_B pn Pg g1))), (0, .ref h0), (1, .int (nI g1)), (2, .int x2)]) hx hb dX10_page_67 hl (by decide) rfl (fun ls hl => ?_)
        refine lv_aload_n hx hb dX10_page_69 rfl (lv_at hl 3 rfl) ?_
        refine va_get (D := D) (ci := 11) (v := .ref (q 36)) (C := RX10) (T := TX10) (N := 48) hx hb hts inX10 hown hK hP 0 rfl rfl 36 (by decide) (hts _ k_1180) (fun _ h9 => h9) rfl dX10_page_70 ?_
        refine lv_iload_n hx hb dX10_page_73 rfl (lv_at hl 4 rfl) ?_
        refine lv_iconst (v := 1) hx hb dX10_page_74 (by decide) ?_
        refine lv_iadd hx hb dX10_page_75 ?_
        refine q_seti (y := nI (g1 + 1)) (nI_add g1 1) ?_
        refine q_ild (X := g1 + 1) (f := g36) hx hb hK hP 25 1 rfl rfl (by omega) (by decide) dX10_page_76 ?_
        refine q_seti (y := (nI (pg_R pn Pg (g1 + 1)))) (hrd (g1 + 1) (by omega)).2 ?_
        refine lv_istore (lv' := [(6, .int (nI (pg_R pn Pg (g1 + 1)))), (5, .int (nI (pg_B pn Pg (g1 + 1)))), (4, .int (nI (pg_R pn Pg g1))), (3, .int (nI (pg_B pn Pg g1))), (0, .ref h0), (1, .int (nI g1)), (2, .int x2)]) hx hb dX10_page_77 hl (by decide) rfl (fun ls hl => ?_)
        refine lv_iload_n hx hb dX10_page_79 rfl (lv_at hl 6 rfl) ?_
        rcases q_sw_0_5 x2 with c_12 | c_12 | c_12 | c_12 | c_12 | c_12 | c_12
        · refine q_seti (y := 0) c_12 ?_
          refine lv_tableIn (off := 40) (tgt := 120) hx hb dX10_page_80 (by decide) (by decide) (by decide) (by decide) ?_
          refine lv_aload_n hx hb dX10_page_120 rfl (lv_at hl 4 rfl) ?_
          refine va_get (D := D) (ci := 11) (v := .ref (q 37)) (C := RX10) (T := TX10) (N := 48) hx hb hts inX10 hown hK hP 0 rfl rfl 37 (by decide) (hts _ k_1181) (fun _ h9 => h9) rfl dX10_page_121 ?_
          refine lv_iload_n hx hb dX10_page_124 rfl (lv_at hl 5 rfl) ?_
          refine q_ild (X := g1) (f := g37) hx hb hK hP 26 1 rfl rfl (by omega) (by decide) dX10_page_125 ?_
          exact q_zi hf hr rfl hlocks hK hP hD hS (Nat.le_of_ble_eq_true rfl) (Nat.le_of_ble_eq_true rfl) ⟨(upd (upd I 28 (nI (Pg.length))) 29 (bk_least pn C)), (va_up (va_up (va_up (va_up (va_up (va_up (va_up (va_up F 30 g30) 31 w1) 32 w2) 33 w3) 34 w4) 35 g35) 36 g36) 37 g37), ⟨⟨rfl, rfl, rfl⟩, ⟨rfl, rfl, rfl⟩, ⟨rfl, rfl, rfl, rfl, rfl, rfl, rfl, rfl, rfl, rfl, rfl⟩, rfl, rfl, rfl, rfl⟩, rfl⟩ dX10_page_126
        · refine q_seti (y := 1) c_12 ?_
          refine lv_tableIn (off := 47) (tgt := 127) hx hb dX10_page_80 (by decide) (by decide) (by decide) (by decide) ?_
          refine lv_iload_n hx hb dX10_page_127 rfl (lv_at hl 3 rfl) ?_
          exact q_zi hf hr rfl hlocks hK hP hD hS (Nat.le_of_ble_eq_true rfl) (Nat.le_of_ble_eq_true rfl) ⟨(upd (upd I 28 (nI (Pg.length))) 29 (bk_least pn C)), (va_up (va_up (va_up (va_up (va_up (va_up (va_up (va_up F 30 g30) 31 w1) 32 w2) 33 w3) 34 w4) 35 g35) 36 g36) 37 g37), ⟨⟨rfl, rfl, rfl⟩, ⟨rfl, rfl, rfl⟩, ⟨rfl, rfl, rfl, rfl, rfl, rfl, rfl, rfl, rfl, rfl, rfl⟩, rfl, rfl, rfl, rfl⟩, rfl⟩ dX10_page_128
        · refine q_seti (y := 2) c_12 ?_
          refine lv_tableIn (off := 49) (tgt := 129) hx hb dX10_page_80 (by decide) (by decide) (by decide) (by decide) ?_
          refine lv_iload hx hb dX10_page_129 (lv_at hl 2 rfl) ?_
          exact q_zi hf hr rfl hlocks hK hP hD hS (Nat.le_of_ble_eq_true rfl) (Nat.le_of_ble_eq_true rfl) ⟨(upd (upd I 28 (nI (Pg.length))) 29 (bk_least pn C)), (va_up (va_up (va_up (va_up (va_up (va_up (va_up (va_up F 30 g30) 31 w1) 32 w2) 33 w3) 34 w4) 35 g35) 36 g36) 37 g37), ⟨⟨rfl, rfl, rfl⟩, ⟨rfl, rfl, rfl⟩, ⟨rfl, rfl, rfl, rfl, rfl, rfl, rfl, rfl, rfl, rfl, rfl⟩, rfl, rfl, rfl, rfl⟩, rfl⟩ dX10_page_131
        · refine q_seti (y := 3) c_12 ?_
          refine lv_tableIn (off := 52) (tgt := 132) hx hb dX10_page_80 (by decide) (by decide) (by decide) (by decide) ?_
          refine lv_iload hx hb dX10_page_132 (lv_at hl 0 rfl) ?_
          refine lv_if_ne (tgt := 144) hx hb dX10_page_134 (by decide) (fun c_13 => ?_) (fun c_13 => ?_)
          · have c_13 := q_nen (a := pg_R pn Pg (g1 + 1)) (b := 0) (by omega) (by omega) c_13
            refine lv_iload hx hb dX10_page_144 (lv_at hl 1 rfl) ?_
            exact q_zi hf hr rfl hlocks hK hP hD hS (Nat.le_of_ble_eq_true rfl) (Nat.le_of_ble_eq_true rfl) ⟨(upd (upd I 28 (nI (Pg.length))) 29 (bk_least pn C)), (va_up (va_up (va_up (va_up (va_up (va_up (va_up (va_up F 30 g30) 31 w1) 32 w2) 33 w3) 34 w4) 35 g35) 36 g36) 37 g37), ⟨⟨rfl, rfl, rfl⟩, ⟨rfl, rfl, rfl⟩, ⟨rfl, rfl, rfl, rfl, rfl, rfl, rfl, rfl, rfl, rfl, rfl⟩, rfl, rfl, rfl, rfl⟩, rfl⟩ dX10_page_146
          · have c_13 := q_eqn (a := pg_R pn Pg (g1 + 1)) (b := 0) (by omega) (by omega) c_13
            have hq2 : 1 ≤ pg_B pn Pg (g1 + 1) := by
              have h9 := hord.1
              by_cases c9 : pg_B pn Pg g1 = pg_B pn Pg (g1 + 1)
              · have h8 := hord.2 c9; omega
              · omega
            refine lv_iload hx hb dX10_page_137 (lv_at hl 1 rfl) ?_
            refine lv_iconst (v := 1) hx hb dX10_page_139 (by decide) ?_
            refine lv_isub hx hb dX10_page_140 ?_
            refine q_seti (y := nI ((pg_B pn Pg (g1 + 1)) - 1)) (pk_sub (a := pg_B pn Pg (g1 + 1)) (b := 1) (by omega)) ?_
            refine lv_goto (tgt := 146) hx hb dX10_page_141 (by decide) ?_
            exact q_zi hf hr rfl hlocks hK hP hD hS (Nat.le_of_ble_eq_true rfl) (Nat.le_of_ble_eq_true rfl) ⟨(upd (upd I 28 (nI (Pg.length))) 29 (bk_least pn C)), (va_up (va_up (va_up (va_up (va_up (va_up (va_up (va_up F 30 g30) 31 w1) 32 w2) 33 w3) 34 w4) 35 g35) 36 g36) 37 g37), ⟨⟨rfl, rfl, rfl⟩, ⟨rfl, rfl, rfl⟩, ⟨rfl, rfl, rfl, rfl, rfl, rfl, rfl, rfl, rfl, rfl, rfl⟩, rfl, rfl, rfl, rfl⟩, rfl⟩ dX10_page_146
        · refine q_seti (y := 4) c_12 ?_
          refine lv_tableIn (off := 67) (tgt := 147) hx hb dX10_page_80 (by decide) (by decide) (by decide) (by decide) ?_
          refine lv_iload hx hb dX10_page_147 (lv_at hl 0 rfl) ?_
          refine lv_if_ne (tgt := 163) hx hb dX10_page_149 (by decide) (fun c_14 => ?_) (fun c_14 => ?_)
          · have c_14 := q_nen (a := pg_R pn Pg (g1 + 1)) (b := 0) (by omega) (by omega) c_14
            refine lv_iload hx hb dX10_page_163 (lv_at hl 0 rfl) ?_
            exact q_zi hf hr rfl hlocks hK hP hD hS (Nat.le_of_ble_eq_true rfl) (Nat.le_of_ble_eq_true rfl) ⟨(upd (upd I 28 (nI (Pg.length))) 29 (bk_least pn C)), (va_up (va_up (va_up (va_up (va_up (va_up (va_up (va_up F 30 g30) 31 w1) 32 w2) 33 w3) 34 w4) 35 g35) 36 g36) 37 g37), ⟨⟨rfl, rfl, rfl⟩, ⟨rfl, rfl, rfl⟩, ⟨rfl, rfl, rfl, rfl, rfl, rfl, rfl, rfl, rfl, rfl, rfl⟩, rfl, rfl, rfl, rfl⟩, rfl⟩ dX10_page_165
          · have c_14 := q_eqn (a := pg_R pn Pg (g1 + 1)) (b := 0) (by omega) (by omega) c_14
            have hq2 : 1 ≤ pg_B pn Pg (g1 + 1) := by
              have h9 := hord.1
              by_cases c9 : pg_B pn Pg g1 = pg_B pn Pg (g1 + 1)
              · have h8 := hord.2 c9; omega
              · omega
            refine lv_aload_n hx hb dX10_page_152 rfl (lv_at hl 4 rfl) ?_
            refine lv_iload hx hb dX10_page_153 (lv_at hl 1 rfl) ?_
            refine lv_iconst (v := 1) hx hb dX10_page_155 (by decide) ?_
            refine lv_isub hx hb dX10_page_156 ?_
            refine q_seti (y := nI ((pg_B pn Pg (g1 + 1)) - 1)) (pk_sub (a := pg_B pn Pg (g1 + 1)) (b := 1) (by omega)) ?_
            refine q_ci (k := 0) (n := 0) hK hP hD hS hA (fun hPc hKc hDc => q_rV (As := [.int (nI ((pg_B pn Pg (g1 + 1)) - 1))]) (rest := []) hf (r_size _ D h0 q cB cI_ cZ (upd (upd I 28 (nI (Pg.length))) 29 (bk_least pn C)) (va_up (va_up (va_up (va_up (va_up (va_up (va_up (va_up F 30 g30) 31 w1) 32 w2) 33 w3) 34 w4) 35 g35) 36 g36) 37 g37) pn pe sl K Fm To Rr ((pg_B pn Pg (g1 + 1)) - 1) hpv (by omega) _) k_1391 k_1388 k_1390 k_62 k_98 (nA := 1) (by decide +kernel) ⟨Nat.le_of_ble_eq_true rfl, Nat.le_of_ble_eq_true rfl⟩ hK hP (ci := 11) (q0 := 0) rfl rfl rfl hPc hKc hDc (fun _ _ _ _ h => h) (fun _ _ _ => trivial) rfl hl.1 rfl (Nat.le_of_ble_eq_true rfl) dX10_page_157 ⟨Nat.le_of_ble_eq_true rfl, Nat.le_of_ble_eq_true rfl⟩) (by decide) (by decide) (fun r u H locs hw hK hP hD hS => ?_)
            obtain ⟨rfl, rfl⟩ := hw
            have hP : va_P D vcl (mW h0 q cB cI_ cZ (upd (upd I 28 (nI (Pg.length))) 29 (bk_least pn C)) (va_up (va_up (va_up (va_up (va_up (va_up (va_up (va_up F 30 g30) 31 w1) 32 w2) 33 w3) 34 w4) 35 g35) 36 g36) 37 g37)) H := hP
            have hD : va_D A (mW h0 q cB cI_ cZ (upd (upd I 28 (nI (Pg.length))) 29 (bk_least pn C)) (va_up (va_up (va_up (va_up (va_up (va_up (va_up (va_up F 30 g30) 31 w1) 32 w2) 33 w3) 34 w4) 35 g35) 36 g36) 37 g37)) := hD
            refine lv_goto (tgt := 165) hx hb dX10_page_160 (by decide) ?_
            exact q_zi hf hr rfl hlocks hK hP hD hS (Nat.le_of_ble_eq_true rfl) (Nat.le_of_ble_eq_true rfl) ⟨(upd (upd I 28 (nI (Pg.length))) 29 (bk_least pn C)), (va_up (va_up (va_up (va_up (va_up (va_up (va_up (va_up F 30 g30) 31 w1) 32 w2) 33 w3) 34 w4) 35 g35) 36 g36) 37 g37), ⟨⟨rfl, rfl, rfl⟩, ⟨rfl, rfl, rfl⟩, ⟨rfl, rfl, rfl, rfl, rfl, rfl, rfl, rfl, rfl, rfl, rfl⟩, rfl, rfl, rfl, rfl⟩, rfl⟩ dX10_page_165
        · refine q_seti (y := 5) c_12 ?_
          refine lv_tableIn (off := 86) (tgt := 166) hx hb dX10_page_80 (by decide) (by decide) (by decide) (by decide) ?_
          refine lv_iload hx hb dX10_page_166 (lv_at hl 2 rfl) ?_
          refine lv_if_le (tgt := 184) hx hb dX10_page_168 (by decide) (fun c_15 => ?_) (fun c_15 => ?_)
          · have c_15 := q_le (a := pg_R pn Pg g1) (b := 0) (by omega) (by omega) c_15
            refine lv_iconst (v := 0) hx hb dX10_page_184 (by decide) ?_
            exact q_zi hf hr rfl hlocks hK hP hD hS (Nat.le_of_ble_eq_true rfl) (Nat.le_of_ble_eq_true rfl) ⟨(upd (upd I 28 (nI (Pg.length))) 29 (bk_least pn C)), (va_up (va_up (va_up (va_up (va_up (va_up (va_up (va_up F 30 g30) 31 w1) 32 w2) 33 w3) 34 w4) 35 g35) 36 g36) 37 g37), ⟨⟨rfl, rfl, rfl⟩, ⟨rfl, rfl, rfl⟩, ⟨rfl, rfl, rfl, rfl, rfl, rfl, rfl, rfl, rfl, rfl, rfl⟩, rfl, rfl, rfl, rfl⟩, rfl⟩ dX10_page_185
          · have c_15 := q_nle (a := pg_R pn Pg g1) (b := 0) (by omega) (by omega) c_15
            refine lv_aload_n hx hb dX10_page_171 rfl (lv_at hl 4 rfl) ?_
            refine lv_iload_n hx hb dX10_page_172 rfl (lv_at hl 3 rfl) ?_
            refine q_ci (k := 0) (n := 0) hK hP hD hS hA (fun hPc hKc hDc => q_rV (As := [.int (nI (pg_B pn Pg g1))]) (rest := []) hf (r_kindOf _ D h0 q cB cI_ cZ (upd (upd I 28 (nI (Pg.length))) 29 (bk_least pn C)) (va_up (va_up (va_up (va_up (va_up (va_up (va_up (va_up F 30 g30) 31 w1) 32 w2) 33 w3) 34 w4) 35 g35) 36 g36) 37 g37) pn pe sl K Fm To Rr (pg_B pn Pg g1) hpv (by omega) _) k_1403 k_1400 k_1402 k_65 k_98 (nA := 1) (by decide +kernel) ⟨Nat.le_of_ble_eq_true rfl, Nat.le_of_ble_eq_true rfl⟩ hK hP (ci := 11) (q0 := 0) rfl rfl rfl hPc hKc hDc (fun _ _ _ _ h => h) (fun _ _ _ => trivial) rfl hl.1 rfl (Nat.le_of_ble_eq_true rfl) dX10_page_173 ⟨Nat.le_of_ble_eq_true rfl, Nat.le_of_ble_eq_true rfl⟩) (by decide) (by decide) (fun r u H locs hw hK hP hD hS => ?_)
            obtain ⟨rfl, rfl⟩ := hw
            have hP : va_P D vcl (mW h0 q cB cI_ cZ (upd (upd I 28 (nI (Pg.length))) 29 (bk_least pn C)) (va_up (va_up (va_up (va_up (va_up (va_up (va_up (va_up F 30 g30) 31 w1) 32 w2) 33 w3) 34 w4) 35 g35) 36 g36) 37 g37)) H := hP
            have hD : va_D A (mW h0 q cB cI_ cZ (upd (upd I 28 (nI (Pg.length))) 29 (bk_least pn C)) (va_up (va_up (va_up (va_up (va_up (va_up (va_up (va_up F 30 g30) 31 w1) 32 w2) 33 w3) 34 w4) 35 g35) 36 g36) 37 g37)) := hD
            refine lv_iconst (v := 4) hx hb dX10_page_176 (by decide) ?_
            refine lv_icmp_ne (tgt := 184) hx hb dX10_page_177 (by decide) (fun c_16 => ?_) (fun c_16 => ?_)
            · refine lv_iconst (v := 0) hx hb dX10_page_184 (by decide) ?_
              exact q_zi hf hr rfl hlocks hK hP hD hS (Nat.le_of_ble_eq_true rfl) (Nat.le_of_ble_eq_true rfl) ⟨(upd (upd I 28 (nI (Pg.length))) 29 (bk_least pn C)), (va_up (va_up (va_up (va_up (va_up (va_up (va_up (va_up F 30 g30) 31 w1) 32 w2) 33 w3) 34 w4) 35 g35) 36 g36) 37 g37), ⟨⟨rfl, rfl, rfl⟩, ⟨rfl, rfl, rfl⟩, ⟨rfl, rfl, rfl, rfl, rfl, rfl, rfl, rfl, rfl, rfl, rfl⟩, rfl, rfl, rfl, rfl⟩, rfl⟩ dX10_page_185
            · refine lv_iconst (v := 1) hx hb dX10_page_180 (by decide) ?_
              refine lv_goto (tgt := 185) hx hb dX10_page_181 (by decide) ?_
              exact q_zi hf hr rfl hlocks hK hP hD hS (Nat.le_of_ble_eq_true rfl) (Nat.le_of_ble_eq_true rfl) ⟨(upd (upd I 28 (nI (Pg.length))) 29 (bk_least pn C)), (va_up (va_up (va_up (va_up (va_up (va_up (va_up (va_up F 30 g30) 31 w1) 32 w2) 33 w3) 34 w4) 35 g35) 36 g36) 37 g37), ⟨⟨rfl, rfl, rfl⟩, ⟨rfl, rfl, rfl⟩, ⟨rfl, rfl, rfl, rfl, rfl, rfl, rfl, rfl, rfl, rfl, rfl⟩, rfl, rfl, rfl, rfl⟩, rfl⟩ dX10_page_185
        · refine lv_tableOut (tgt := 186) hx hb dX10_page_80 c_12 (by decide) ?_
          refine lv_iload hx hb dX10_page_186 (lv_at hl 0 rfl) ?_
          refine lv_if_le (tgt := 205) hx hb dX10_page_188 (by decide) (fun c_17 => ?_) (fun c_17 => ?_)
          · have c_17 := q_le (a := pg_R pn Pg (g1 + 1)) (b := 0) (by omega) (by omega) c_17
            refine lv_iconst (v := 0) hx hb dX10_page_205 (by decide) ?_
            exact q_zi hf hr rfl hlocks hK hP hD hS (Nat.le_of_ble_eq_true rfl) (Nat.le_of_ble_eq_true rfl) ⟨(upd (upd I 28 (nI (Pg.length))) 29 (bk_least pn C)), (va_up (va_up (va_up (va_up (va_up (va_up (va_up (va_up F 30 g30) 31 w1) 32 w2) 33 w3) 34 w4) 35 g35) 36 g36) 37 g37), ⟨⟨rfl, rfl, rfl⟩, ⟨rfl, rfl, rfl⟩, ⟨rfl, rfl, rfl, rfl, rfl, rfl, rfl, rfl, rfl, rfl, rfl⟩, rfl, rfl, rfl, rfl⟩, rfl⟩ dX10_page_206
          · have c_17 := q_nle (a := pg_R pn Pg (g1 + 1)) (b := 0) (by omega) (by omega) c_17
            have hq3 : pg_B pn Pg (g1 + 1) < pn := by
              by_cases c9 : pg_B pn Pg (g1 + 1) = pn
              · have h8 := hgd.2.2.2.2.1 c9; omega
              · omega
            refine lv_aload_n hx hb dX10_page_191 rfl (lv_at hl 4 rfl) ?_
            refine lv_iload hx hb dX10_page_192 (lv_at hl 1 rfl) ?_
            refine q_ci (k := 0) (n := 0) hK hP hD hS hA (fun hPc hKc hDc => q_rV (As := [.int (nI (pg_B pn Pg (g1 + 1)))]) (rest := []) hf (r_kindOf _ D h0 q cB cI_ cZ (upd (upd I 28 (nI (Pg.length))) 29 (bk_least pn C)) (va_up (va_up (va_up (va_up (va_up (va_up (va_up (va_up F 30 g30) 31 w1) 32 w2) 33 w3) 34 w4) 35 g35) 36 g36) 37 g37) pn pe sl K Fm To Rr (pg_B pn Pg (g1 + 1)) hpv (by omega) _) k_1403 k_1400 k_1402 k_65 k_98 (nA := 1) (by decide +kernel) ⟨Nat.le_of_ble_eq_true rfl, Nat.le_of_ble_eq_true rfl⟩ hK hP (ci := 11) (q0 := 0) rfl rfl rfl hPc hKc hDc (fun _ _ _ _ h => h) (fun _ _ _ => trivial) rfl hl.1 rfl (Nat.le_of_ble_eq_true rfl) dX10_page_194 ⟨Nat.le_of_ble_eq_true rfl, Nat.le_of_ble_eq_true rfl⟩) (by decide) (by decide) (fun r u H locs hw hK hP hD hS => ?_)
            obtain ⟨rfl, rfl⟩ := hw
            have hP : va_P D vcl (mW h0 q cB cI_ cZ (upd (upd I 28 (nI (Pg.length))) 29 (bk_least pn C)) (va_up (va_up (va_up (va_up (va_up (va_up (va_up (va_up F 30 g30) 31 w1) 32 w2) 33 w3) 34 w4) 35 g35) 36 g36) 37 g37)) H := hP
            have hD : va_D A (mW h0 q cB cI_ cZ (upd (upd I 28 (nI (Pg.length))) 29 (bk_least pn C)) (va_up (va_up (va_up (va_up (va_up (va_up (va_up (va_up F 30 g30) 31 w1) 32 w2) 33 w3) 34 w4) 35 g35) 36 g36) 37 g37)) := hD
            refine lv_iconst (v := 4) hx hb dX10_page_197 (by decide) ?_
            refine lv_icmp_ne (tgt := 205) hx hb dX10_page_198 (by decide) (fun c_18 => ?_) (fun c_18 => ?_)
            · refine lv_iconst (v := 0) hx hb dX10_page_205 (by decide) ?_
              exact q_zi hf hr rfl hlocks hK hP hD hS (Nat.le_of_ble_eq_true rfl) (Nat.le_of_ble_eq_true rfl) ⟨(upd (upd I 28 (nI (Pg.length))) 29 (bk_least pn C)), (va_up (va_up (va_up (va_up (va_up (va_up (va_up (va_up F 30 g30) 31 w1) 32 w2) 33 w3) 34 w4) 35 g35) 36 g36) 37 g37), ⟨⟨rfl, rfl, rfl⟩, ⟨rfl, rfl, rfl⟩, ⟨rfl, rfl, rfl, rfl, rfl, rfl, rfl, rfl, rfl, rfl, rfl⟩, rfl, rfl, rfl, rfl⟩, rfl⟩ dX10_page_206
            · refine lv_iconst (v := 1) hx hb dX10_page_201 (by decide) ?_
              refine lv_goto (tgt := 206) hx hb dX10_page_202 (by decide) ?_
              exact q_zi hf hr rfl hlocks hK hP hD hS (Nat.le_of_ble_eq_true rfl) (Nat.le_of_ble_eq_true rfl) ⟨(upd (upd I 28 (nI (Pg.length))) 29 (bk_least pn C)), (va_up (va_up (va_up (va_up (va_up (va_up (va_up (va_up F 30 g30) 31 w1) 32 w2) 33 w3) 34 w4) 35 g35) 36 g36) 37 g37), ⟨⟨rfl, rfl, rfl⟩, ⟨rfl, rfl, rfl⟩, ⟨rfl, rfl, rfl, rfl, rfl, rfl, rfl, rfl, rfl, rfl, rfl⟩, rfl, rfl, rfl, rfl⟩, rfl⟩ dX10_page_206
    · have c_6 := q_nen (a := lk) (b := 0) (by omega) (by omega) c_6
      refine lv_bipush (v := (-3)) hx hb dX10_page_20 (by decide) ?_
      exact q_zi hf hr rfl hlocks hK hP hD hS (Nat.le_of_ble_eq_true rfl) (Nat.le_of_ble_eq_true rfl) ⟨I, F, ⟨⟨rfl, rfl, rfl⟩, ⟨rfl, rfl, rfl⟩, ⟨rfl, rfl, rfl, rfl, rfl, rfl, rfl, rfl, rfl, rfl, rfl⟩, rfl, rfl, rfl, rfl⟩, rfl⟩ dX10_page_22
set_option maxHeartbeats 1000000 in
set_option maxRecDepth 100000 in
theorem r_sheets (l : Launch) (D : va_G) (h0 : Nat) (q : Nat → Nat) (cB cI_ cZ : ClassId) (I : Nat → Int32) (F : Nat → Nat → Int32) (pn lk gs : Nat) (pe sl : Nat → Nat) (K : Nat → Int32) (Fm To Rr : Nat → Nat) (mo : Nat) (Gp : Nat → Nat) (x1 : Int32) (hpv : rp_ok F pn pe sl K Fm To Rr) (hI2 : I 2 = nI mo) (hI14 : I 14 = nI pn) (hI20 : I 20 = nI lk) (hI19 : 0 < lk → I 19 = nI gs) (hlk : lk ≤ 1) (hgs : gs ≤ 8000) (hmo1 : 10 ≤ mo) (hmo : mo ≤ 40) (hSS : rs_S Fm To pn ≤ 8000) (hG : ∀ p, p < pn → F 18 p = nI (Gp p) ∧ Gp p ≤ 8000) (hnc : ∀ g, rs_num K Fm To Rr Gp pn mo g ≤ 8000) : cI l D yX10_sheets cX10_sheets 2 (some .int) 5 156 0 0 [.ref h0, .int x1] zT (mW h0 q cB cI_ cZ I F) (mT cB cI_ cZ) (fun r u => (∃ (I2 : Nat → Int32) (F2 : Nat → Nat → Int32), sm I I2 F F2 ∧ u = (mW h0 q cB cI_ cZ I2 F2, mT cB cI_ cZ))) := by
  refine q_si (by decide) (Nat.le_of_ble_eq_true rfl) ?_
  intro p e s m below meth c A ls hAe hf hr hlocks hin hK hP hD hS hA hZ hl
  obtain ⟨hx, hb, hml, hown, hts⟩ := id hf
  have hl : lv_has ls 2 [(0, .ref h0), (1, .int x1)] := hl
  have hpn8 := hpv.1
  refine lv_aload_n hx hb dX10_sheets_0 rfl (lv_at hl 0 rfl) ?_
  refine va_get (D := D) (ci := 11) (v := .int (I 20)) (C := RX10) (T := TX10) (N := 48) hx hb hts inX10 hown hK hP 0 rfl rfl 20 (by decide) (hts _ k_1164) (fun _ h9 => h9) rfl dX10_sheets_1 ?_
  refine q_seti (y := (nI lk)) hI20 ?_
  refine lv_if_ne (tgt := 12) hx hb dX10_sheets_4 (by decide) (fun c_1 => ?_) (fun c_1 => ?_)
  · have c_1 := q_nen (a := lk) (b := 0) (by omega) (by omega) c_1
    refine lv_aload_n hx hb dX10_sheets_12 rfl (lv_at hl 0 rfl) ?_
    refine lv_iload_n hx hb dX10_sheets_13 rfl (lv_at hl 1 rfl) ?_
    refine q_ci (k := 0) (n := 0) hK hP hD hS hA (fun hPc hKc hDc => q_rV (As := [.int x1]) (rest := []) hf (r_isGroup _ D h0 q cB cI_ cZ I F gs x1 (hI19 (by omega)) hgs _) k_1463 k_1460 k_1462 k_74 k_98 (nA := 1) (by decide +kernel) ⟨Nat.le_of_ble_eq_true rfl, Nat.le_of_ble_eq_true rfl⟩ hK hP (ci := 11) (q0 := 0) rfl rfl rfl hPc hKc hDc (fun _ _ _ _ h => h) (fun _ _ _ => trivial) rfl hl.1 rfl (Nat.le_of_ble_eq_true rfl) dX10_sheets_14 ⟨Nat.le_of_ble_eq_true rfl, Nat.le_of_ble_eq_true rfl⟩) (by decide) (by decide) (fun r u H locs hw hK hP hD hS => ?_)
    rcases hw with ⟨⟨c_2, rfl⟩ | ⟨c_2, rfl⟩, rfl⟩
    · have hP : va_P D vcl (mW h0 q cB cI_ cZ I F) H := hP
      have hD : va_D A (mW h0 q cB cI_ cZ I F) := hD
      refine lv_if_eq (tgt := 30) hx hb dX10_sheets_17 (by decide) (fun hno => absurd hno (by decide)) (fun _ => ?_)
      obtain ⟨g1, hg1, rfl⟩ := c_2
      have hl : lv_has ls 2 [(0, .ref h0), (1, .int (nI (g1 + 1)))] := hl
      refine lv_aload_n hx hb dX10_sheets_20 rfl (lv_at hl 0 rfl) ?_
      refine lv_iload_n hx hb dX10_sheets_21 rfl (lv_at hl 1 rfl) ?_
      refine lv_iconst (v := 1) hx hb dX10_sheets_22 (by decide) ?_
      refine lv_isub hx hb dX10_sheets_23 ?_
      refine q_seti (y := nI ((g1 + 1) - 1)) (pk_sub (a := g1 + 1) (b := 1) (by omega)) ?_
      refine q_seti (y := nI g1) (congrArg nI (show (g1 + 1) - 1 = g1 by omega)) ?_
      refine q_ci (k := 0) (n := 0) hK hP hD hS hA (fun hPc hKc hDc => q_rV (As := [.int (nI g1)]) (rest := []) hf (r_sheetsOf _ D h0 q cB cI_ cZ I F pn pe sl K Fm To Rr mo g1 Gp hpv hI2 hmo1 hmo hI14 hG (by omega) hSS (hnc _) _) k_1447 k_1444 k_1446 k_71 k_98 (nA := 1) (by decide +kernel) ⟨Nat.le_of_ble_eq_true rfl, Nat.le_of_ble_eq_true rfl⟩ hK hP (ci := 11) (q0 := 0) rfl rfl rfl hPc hKc hDc (fun _ _ _ _ h => h) (fun _ _ _ => trivial) rfl hl.1 rfl (Nat.le_of_ble_eq_true rfl) dX10_sheets_24 ⟨Nat.le_of_ble_eq_true rfl, Nat.le_of_ble_eq_true rfl⟩) (by decide) (by decide) (fun r u H locs hw hK hP hD hS => ?_)
      obtain ⟨v1, v2, v3, hr9, rfl⟩ := hw
      obtain ⟨ns, hns, rfl⟩ : ∃ ns : Nat, ns = rs_nm K Fm To Rr Gp pn mo g1 ∧ r = nI ns := ⟨_, rfl, hr9⟩
      have hns8 : 1 ≤ ns ∧ ns ≤ 8000 := by
        have h9 := hnc g1
        rw [hns]; unfold rs_nm; split <;> omega
      have hP : va_P D vcl (mW h0 q cB cI_ cZ (upd (upd (upd I 25 v1) 26 v2) 27 v3) F) H := hP
      have hD : va_D A (mW h0 q cB cI_ cZ (upd (upd (upd I 25 v1) 26 v2) 27 v3) F) := hD
      refine lv_goto (tgt := 32) hx hb dX10_sheets_27 (by decide) ?_
      exact q_zi hf hr rfl hlocks hK hP hD hS (Nat.le_of_ble_eq_true rfl) (Nat.le_of_ble_eq_true rfl) ⟨(upd (upd (upd I 25 v1) 26 v2) 27 v3), F, ⟨⟨rfl, rfl, rfl⟩, ⟨rfl, rfl, rfl⟩, ⟨rfl, rfl, rfl, rfl, rfl, rfl, rfl, rfl, rfl, rfl, rfl⟩, rfl, rfl, rfl, rfl⟩, rfl⟩ dX10_sheets_32
    · have hP : va_P D vcl (mW h0 q cB cI_ cZ I F) H := hP
      have hD : va_D A (mW h0 q cB cI_ cZ I F) := hD
      refine lv_if_eq (tgt := 30) hx hb dX10_sheets_17 (by decide) (fun _ => ?_) (fun hno => absurd hno (by decide))
      refine lv_bipush (v := (-2)) hx hb dX10_sheets_30 (by decide) ?_
      exact q_zi hf hr rfl hlocks hK hP hD hS (Nat.le_of_ble_eq_true rfl) (Nat.le_of_ble_eq_true rfl) ⟨I, F, ⟨⟨rfl, rfl, rfl⟩, ⟨rfl, rfl, rfl⟩, ⟨rfl, rfl, rfl, rfl, rfl, rfl, rfl, rfl, rfl, rfl, rfl⟩, rfl, rfl, rfl, rfl⟩, rfl⟩ dX10_sheets_32
  · have c_1 := q_eqn (a := lk) (b := 0) (by omega) (by omega) c_1
    refine lv_bipush (v := (-3)) hx hb dX10_sheets_7 (by decide) ?_
    refine lv_goto (tgt := 32) hx hb dX10_sheets_9 (by decide) ?_
    exact q_zi hf hr rfl hlocks hK hP hD hS (Nat.le_of_ble_eq_true rfl) (Nat.le_of_ble_eq_true rfl) ⟨I, F, ⟨⟨rfl, rfl, rfl⟩, ⟨rfl, rfl, rfl⟩, ⟨rfl, rfl, rfl, rfl, rfl, rfl, rfl, rfl, rfl, rfl, rfl⟩, rfl, rfl, rfl, rfl⟩, rfl⟩ dX10_sheets_32
