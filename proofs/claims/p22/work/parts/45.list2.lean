abbrev cJx4a65c_add_7a177 : ByteArray := prog_23_method_26_code
def yJx4a65c_add_7a177 : MethodName := ⟨RJx4a65c, "add", "(ILjava/lang/Object;)V"⟩
abbrev cJx4a65c_add_9ea2d : ByteArray := prog_23_method_25_code
def yJx4a65c_add_9ea2d : MethodName := ⟨RJx4a65c, "add", "(Ljava/lang/Object;)Z"⟩
abbrev cJx4a65c_clear_da8c8 : ByteArray := prog_23_method_40_code
def yJx4a65c_clear_da8c8 : MethodName := ⟨RJx4a65c, "clear", "()V"⟩
abbrev cJx4a65c_elementData_915e3 : ByteArray := prog_23_method_18_code
def yJx4a65c_elementData_915e3 : MethodName := ⟨RJx4a65c, "elementData", "(I)Ljava/lang/Object;"⟩
abbrev cJx4a65c_fastRemove_b59b0 : ByteArray := prog_23_method_39_code
def yJx4a65c_fastRemove_b59b0 : MethodName := ⟨RJx4a65c, "fastRemove", "([Ljava/lang/Object;I)V"⟩
abbrev cJx4a65c_get_915e3 : ByteArray := prog_23_method_20_code
def yJx4a65c_get_915e3 : MethodName := ⟨RJx4a65c, "get", "(I)Ljava/lang/Object;"⟩
abbrev cJx4a65c_isEmpty_aae02 : ByteArray := prog_23_method_9_code
def yJx4a65c_isEmpty_aae02 : MethodName := ⟨RJx4a65c, "isEmpty", "()Z"⟩
abbrev cJx4a65c_rangeCheckForAdd_d00df : ByteArray := prog_23_method_45_code
def yJx4a65c_rangeCheckForAdd_d00df : MethodName := ⟨RJx4a65c, "rangeCheckForAdd", "(I)V"⟩
abbrev cJx4a65c_remove_915e3 : ByteArray := prog_23_method_29_code
def yJx4a65c_remove_915e3 : MethodName := ⟨RJx4a65c, "remove", "(I)Ljava/lang/Object;"⟩
abbrev cJx4a65c_size_8abf5 : ByteArray := prog_23_method_8_code
def yJx4a65c_size_8abf5 : MethodName := ⟨RJx4a65c, "size", "()I"⟩
theorem k_16 : (Cond.selects RJx4a65c yJx4a65c_add_72be8 yJx4a65c_add_72be8) ∈ gT := gT_i 16 (by decide +kernel) rfl
theorem k_20 : (Cond.selects RJx4a65c yJx4a65c_fastRemove_b59b0 yJx4a65c_fastRemove_b59b0) ∈ gT := gT_i 20 (by decide +kernel) rfl
theorem k_21 : (Cond.selects RJx4a65c yJx4a65c_rangeCheckForAdd_d00df yJx4a65c_rangeCheckForAdd_d00df) ∈ gT := gT_i 21 (by decide +kernel) rfl
theorem k_106 : (Cond.initialized RJ15) ∈ gT := gT_i 106 (by decide +kernel) rfl
theorem k_171 : (Cond.fieldLink RJx4a65c 63 "java/util/ArrayList" "modCount" "I") ∈ gT := gT_i 171 (by decide +kernel) rfl
theorem k_172 : (Cond.sameField "java/util/ArrayList" "java/util/AbstractList" "modCount" "I") ∈ gT := gT_i 172 (by decide +kernel) rfl
theorem k_612 : (Cond.methodLink RJx4a65c 131 yJx4a65c_add_72be8) ∈ gT := gT_i 612 (by decide +kernel) rfl
theorem k_614 : (Cond.instanceMethod yJx4a65c_add_72be8) ∈ gT := gT_i 614 (by decide +kernel) rfl
theorem k_615 : (Cond.code yJx4a65c_add_72be8 cJx4a65c_add_72be8 4 none) ∈ gT := gT_i 615 (by decide +kernel) rfl
theorem k_676 : (Cond.methodLink RJx4a65c 118 yJ15_checkIndex_7cf53) ∈ gT := gT_i 676 (by decide +kernel) rfl
theorem k_677 : (Cond.static yJ15_checkIndex_7cf53) ∈ gT := gT_i 677 (by decide +kernel) rfl
theorem k_678 : (Cond.code yJ15_checkIndex_7cf53 cJ15_checkIndex_7cf53 2 (some .int)) ∈ gT := gT_i 678 (by decide +kernel) rfl
theorem k_680 : (Cond.methodLink RJx4a65c 123 yJx4a65c_elementData_915e3) ∈ gT := gT_i 680 (by decide +kernel) rfl
theorem k_681 : (Cond.instanceMethod yJx4a65c_elementData_915e3) ∈ gT := gT_i 681 (by decide +kernel) rfl
theorem k_682 : (Cond.selects RJx4a65c yJx4a65c_elementData_915e3 yJx4a65c_elementData_915e3) ∈ gT := gT_i 682 (by decide +kernel) rfl
theorem k_683 : (Cond.code yJx4a65c_elementData_915e3 cJx4a65c_elementData_915e3 2 (some (.object "java/lang/Object"))) ∈ gT := gT_i 683 (by decide +kernel) rfl
theorem k_708 : (Cond.methodLink RJx4a65c 144 yJx4a65c_fastRemove_b59b0) ∈ gT := gT_i 708 (by decide +kernel) rfl
theorem k_710 : (Cond.instanceMethod yJx4a65c_fastRemove_b59b0) ∈ gT := gT_i 710 (by decide +kernel) rfl
theorem k_711 : (Cond.code yJx4a65c_fastRemove_b59b0 cJx4a65c_fastRemove_b59b0 4 none) ∈ gT := gT_i 711 (by decide +kernel) rfl
theorem k_712 : (Cond.methodLink RJx4a65c 112 arraycopyName) ∈ gT := gT_i 712 (by decide +kernel) rfl
theorem k_717 : (Cond.methodLink RJx4a65c 135 yJx4a65c_rangeCheckForAdd_d00df) ∈ gT := gT_i 717 (by decide +kernel) rfl
theorem k_719 : (Cond.instanceMethod yJx4a65c_rangeCheckForAdd_d00df) ∈ gT := gT_i 719 (by decide +kernel) rfl
theorem k_720 : (Cond.code yJx4a65c_rangeCheckForAdd_d00df cJx4a65c_rangeCheckForAdd_d00df 2 none) ∈ gT := gT_i 720 (by decide +kernel) rfl
theorem dJx4a65c_add_9ea2d_0 : decode cJx4a65c_add_9ea2d 0 = .ok (.aload_n 0, 1) := by decide +kernel
theorem dJx4a65c_add_9ea2d_1 : decode cJx4a65c_add_9ea2d 1 = .ok (.dup, 1) := by decide +kernel
theorem dJx4a65c_add_9ea2d_2 : decode cJx4a65c_add_9ea2d 2 = .ok (.getfield 63, 3) := by decide +kernel
theorem dJx4a65c_add_9ea2d_5 : decode cJx4a65c_add_9ea2d 5 = .ok (.iconst 1, 1) := by decide +kernel
theorem dJx4a65c_add_9ea2d_6 : decode cJx4a65c_add_9ea2d 6 = .ok (.iadd, 1) := by decide +kernel
theorem dJx4a65c_add_9ea2d_7 : decode cJx4a65c_add_9ea2d 7 = .ok (.putfield 63, 3) := by decide +kernel
theorem dJx4a65c_add_9ea2d_10 : decode cJx4a65c_add_9ea2d 10 = .ok (.aload_n 0, 1) := by decide +kernel
theorem dJx4a65c_add_9ea2d_11 : decode cJx4a65c_add_9ea2d 11 = .ok (.aload_n 1, 1) := by decide +kernel
theorem dJx4a65c_add_9ea2d_12 : decode cJx4a65c_add_9ea2d 12 = .ok (.aload_n 0, 1) := by decide +kernel
theorem dJx4a65c_add_9ea2d_13 : decode cJx4a65c_add_9ea2d 13 = .ok (.getfield 9, 3) := by decide +kernel
theorem dJx4a65c_add_9ea2d_16 : decode cJx4a65c_add_9ea2d 16 = .ok (.aload_n 0, 1) := by decide +kernel
theorem dJx4a65c_add_9ea2d_17 : decode cJx4a65c_add_9ea2d 17 = .ok (.getfield 48, 3) := by decide +kernel
theorem dJx4a65c_add_9ea2d_20 : decode cJx4a65c_add_9ea2d 20 = .ok (.invokevirtual 131, 3) := by decide +kernel
theorem dJx4a65c_add_9ea2d_23 : decode cJx4a65c_add_9ea2d 23 = .ok (.iconst 1, 1) := by decide +kernel
theorem dJx4a65c_add_9ea2d_24 : decode cJx4a65c_add_9ea2d 24 = .ok (.ireturn, 1) := by decide +kernel
theorem dJx4a65c_rangeCheckForAdd_d00df_0 : decode cJx4a65c_rangeCheckForAdd_d00df 0 = .ok (.iload_n 1, 1) := by decide +kernel
theorem dJx4a65c_rangeCheckForAdd_d00df_1 : decode cJx4a65c_rangeCheckForAdd_d00df 1 = .ok (.aload_n 0, 1) := by decide +kernel
theorem dJx4a65c_rangeCheckForAdd_d00df_2 : decode cJx4a65c_rangeCheckForAdd_d00df 2 = .ok (.getfield 48, 3) := by decide +kernel
theorem dJx4a65c_rangeCheckForAdd_d00df_5 : decode cJx4a65c_rangeCheckForAdd_d00df 5 = .ok (.if_icmp .gt 7, 3) := by decide +kernel
theorem dJx4a65c_rangeCheckForAdd_d00df_8 : decode cJx4a65c_rangeCheckForAdd_d00df 8 = .ok (.iload_n 1, 1) := by decide +kernel
theorem dJx4a65c_rangeCheckForAdd_d00df_9 : decode cJx4a65c_rangeCheckForAdd_d00df 9 = .ok (.ifCond .ge 16, 3) := by decide +kernel
theorem dJx4a65c_rangeCheckForAdd_d00df_25 : decode cJx4a65c_rangeCheckForAdd_d00df 25 = .ok (.return_, 1) := by decide +kernel
theorem dJx4a65c_size_8abf5_0 : decode cJx4a65c_size_8abf5 0 = .ok (.aload_n 0, 1) := by decide +kernel
theorem dJx4a65c_size_8abf5_1 : decode cJx4a65c_size_8abf5 1 = .ok (.getfield 48, 3) := by decide +kernel
theorem dJx4a65c_size_8abf5_4 : decode cJx4a65c_size_8abf5 4 = .ok (.ireturn, 1) := by decide +kernel
theorem dJx4a65c_isEmpty_aae02_0 : decode cJx4a65c_isEmpty_aae02 0 = .ok (.aload_n 0, 1) := by decide +kernel
theorem dJx4a65c_isEmpty_aae02_1 : decode cJx4a65c_isEmpty_aae02 1 = .ok (.getfield 48, 3) := by decide +kernel
theorem dJx4a65c_isEmpty_aae02_4 : decode cJx4a65c_isEmpty_aae02 4 = .ok (.ifCond .ne 7, 3) := by decide +kernel
theorem dJx4a65c_isEmpty_aae02_11 : decode cJx4a65c_isEmpty_aae02 11 = .ok (.iconst 0, 1) := by decide +kernel
theorem dJx4a65c_isEmpty_aae02_12 : decode cJx4a65c_isEmpty_aae02 12 = .ok (.ireturn, 1) := by decide +kernel
theorem dJx4a65c_isEmpty_aae02_7 : decode cJx4a65c_isEmpty_aae02 7 = .ok (.iconst 1, 1) := by decide +kernel
theorem dJx4a65c_isEmpty_aae02_8 : decode cJx4a65c_isEmpty_aae02 8 = .ok (.goto 4, 3) := by decide +kernel
theorem dJx4a65c_elementData_915e3_0 : decode cJx4a65c_elementData_915e3 0 = .ok (.aload_n 0, 1) := by decide +kernel
theorem dJx4a65c_elementData_915e3_1 : decode cJx4a65c_elementData_915e3 1 = .ok (.getfield 9, 3) := by decide +kernel
theorem dJx4a65c_elementData_915e3_4 : decode cJx4a65c_elementData_915e3 4 = .ok (.iload_n 1, 1) := by decide +kernel
theorem dJx4a65c_elementData_915e3_5 : decode cJx4a65c_elementData_915e3 5 = .ok (.aaload, 1) := by decide +kernel
theorem dJx4a65c_elementData_915e3_6 : decode cJx4a65c_elementData_915e3 6 = .ok (.areturn, 1) := by decide +kernel
theorem dJx4a65c_get_915e3_0 : decode cJx4a65c_get_915e3 0 = .ok (.iload_n 1, 1) := by decide +kernel
theorem dJx4a65c_get_915e3_1 : decode cJx4a65c_get_915e3 1 = .ok (.aload_n 0, 1) := by decide +kernel
theorem dJx4a65c_get_915e3_2 : decode cJx4a65c_get_915e3 2 = .ok (.getfield 48, 3) := by decide +kernel
theorem dJx4a65c_get_915e3_5 : decode cJx4a65c_get_915e3 5 = .ok (.invokestatic 118, 3) := by decide +kernel
theorem dJx4a65c_get_915e3_8 : decode cJx4a65c_get_915e3 8 = .ok (.pop, 1) := by decide +kernel
theorem dJx4a65c_get_915e3_9 : decode cJx4a65c_get_915e3 9 = .ok (.aload_n 0, 1) := by decide +kernel
theorem dJx4a65c_get_915e3_10 : decode cJx4a65c_get_915e3 10 = .ok (.iload_n 1, 1) := by decide +kernel
theorem dJx4a65c_get_915e3_11 : decode cJx4a65c_get_915e3 11 = .ok (.invokevirtual 123, 3) := by decide +kernel
theorem dJx4a65c_get_915e3_14 : decode cJx4a65c_get_915e3 14 = .ok (.areturn, 1) := by decide +kernel
theorem dJx4a65c_add_7a177_0 : decode cJx4a65c_add_7a177 0 = .ok (.aload_n 0, 1) := by decide +kernel
theorem dJx4a65c_add_7a177_1 : decode cJx4a65c_add_7a177 1 = .ok (.iload_n 1, 1) := by decide +kernel
theorem dJx4a65c_add_7a177_2 : decode cJx4a65c_add_7a177 2 = .ok (.invokevirtual 135, 3) := by decide +kernel
theorem dJx4a65c_add_7a177_5 : decode cJx4a65c_add_7a177 5 = .ok (.aload_n 0, 1) := by decide +kernel
theorem dJx4a65c_add_7a177_6 : decode cJx4a65c_add_7a177 6 = .ok (.dup, 1) := by decide +kernel
theorem dJx4a65c_add_7a177_7 : decode cJx4a65c_add_7a177 7 = .ok (.getfield 63, 3) := by decide +kernel
theorem dJx4a65c_add_7a177_10 : decode cJx4a65c_add_7a177 10 = .ok (.iconst 1, 1) := by decide +kernel
theorem dJx4a65c_add_7a177_11 : decode cJx4a65c_add_7a177 11 = .ok (.iadd, 1) := by decide +kernel
theorem dJx4a65c_add_7a177_12 : decode cJx4a65c_add_7a177 12 = .ok (.putfield 63, 3) := by decide +kernel
theorem dJx4a65c_add_7a177_15 : decode cJx4a65c_add_7a177 15 = .ok (.aload_n 0, 1) := by decide +kernel
theorem dJx4a65c_add_7a177_16 : decode cJx4a65c_add_7a177 16 = .ok (.getfield 48, 3) := by decide +kernel
theorem dJx4a65c_add_7a177_19 : decode cJx4a65c_add_7a177 19 = .ok (.dup, 1) := by decide +kernel
theorem dJx4a65c_add_7a177_20 : decode cJx4a65c_add_7a177 20 = .ok (.istore_n 3, 1) := by decide +kernel
theorem dJx4a65c_add_7a177_21 : decode cJx4a65c_add_7a177 21 = .ok (.aload_n 0, 1) := by decide +kernel
theorem dJx4a65c_add_7a177_22 : decode cJx4a65c_add_7a177 22 = .ok (.getfield 9, 3) := by decide +kernel
theorem dJx4a65c_add_7a177_25 : decode cJx4a65c_add_7a177 25 = .ok (.dup, 1) := by decide +kernel
theorem dJx4a65c_add_7a177_26 : decode cJx4a65c_add_7a177 26 = .ok (.astore 4, 2) := by decide +kernel
theorem dJx4a65c_add_7a177_28 : decode cJx4a65c_add_7a177 28 = .ok (.arraylength, 1) := by decide +kernel
theorem dJx4a65c_add_7a177_29 : decode cJx4a65c_add_7a177 29 = .ok (.if_icmp .ne 9, 3) := by decide +kernel
theorem dJx4a65c_add_7a177_32 : decode cJx4a65c_add_7a177 32 = .ok (.aload_n 0, 1) := by decide +kernel
theorem dJx4a65c_add_7a177_33 : decode cJx4a65c_add_7a177 33 = .ok (.invokevirtual 129, 3) := by decide +kernel
theorem dJx4a65c_add_7a177_36 : decode cJx4a65c_add_7a177 36 = .ok (.astore 4, 2) := by decide +kernel
theorem dJx4a65c_add_7a177_38 : decode cJx4a65c_add_7a177 38 = .ok (.aload 4, 2) := by decide +kernel
theorem dJx4a65c_add_7a177_40 : decode cJx4a65c_add_7a177 40 = .ok (.iload_n 1, 1) := by decide +kernel
theorem dJx4a65c_add_7a177_41 : decode cJx4a65c_add_7a177 41 = .ok (.aload 4, 2) := by decide +kernel
theorem dJx4a65c_add_7a177_43 : decode cJx4a65c_add_7a177 43 = .ok (.iload_n 1, 1) := by decide +kernel
theorem dJx4a65c_add_7a177_44 : decode cJx4a65c_add_7a177 44 = .ok (.iconst 1, 1) := by decide +kernel
theorem dJx4a65c_add_7a177_45 : decode cJx4a65c_add_7a177 45 = .ok (.iadd, 1) := by decide +kernel
theorem dJx4a65c_add_7a177_46 : decode cJx4a65c_add_7a177 46 = .ok (.iload_n 3, 1) := by decide +kernel
theorem dJx4a65c_add_7a177_47 : decode cJx4a65c_add_7a177 47 = .ok (.iload_n 1, 1) := by decide +kernel
theorem dJx4a65c_add_7a177_48 : decode cJx4a65c_add_7a177 48 = .ok (.isub, 1) := by decide +kernel
theorem dJx4a65c_add_7a177_49 : decode cJx4a65c_add_7a177 49 = .ok (.invokestatic 112, 3) := by decide +kernel
theorem dJx4a65c_add_7a177_52 : decode cJx4a65c_add_7a177 52 = .ok (.aload 4, 2) := by decide +kernel
theorem dJx4a65c_add_7a177_54 : decode cJx4a65c_add_7a177 54 = .ok (.iload_n 1, 1) := by decide +kernel
theorem dJx4a65c_add_7a177_55 : decode cJx4a65c_add_7a177 55 = .ok (.aload_n 2, 1) := by decide +kernel
theorem dJx4a65c_add_7a177_56 : decode cJx4a65c_add_7a177 56 = .ok (.aastore, 1) := by decide +kernel
theorem dJx4a65c_add_7a177_57 : decode cJx4a65c_add_7a177 57 = .ok (.aload_n 0, 1) := by decide +kernel
theorem dJx4a65c_add_7a177_58 : decode cJx4a65c_add_7a177 58 = .ok (.iload_n 3, 1) := by decide +kernel
theorem dJx4a65c_add_7a177_59 : decode cJx4a65c_add_7a177 59 = .ok (.iconst 1, 1) := by decide +kernel
theorem dJx4a65c_add_7a177_60 : decode cJx4a65c_add_7a177 60 = .ok (.iadd, 1) := by decide +kernel
theorem dJx4a65c_add_7a177_61 : decode cJx4a65c_add_7a177 61 = .ok (.putfield 48, 3) := by decide +kernel
theorem dJx4a65c_add_7a177_64 : decode cJx4a65c_add_7a177 64 = .ok (.return_, 1) := by decide +kernel
theorem dJx4a65c_fastRemove_b59b0_0 : decode cJx4a65c_fastRemove_b59b0 0 = .ok (.aload_n 0, 1) := by decide +kernel
theorem dJx4a65c_fastRemove_b59b0_1 : decode cJx4a65c_fastRemove_b59b0 1 = .ok (.dup, 1) := by decide +kernel
theorem dJx4a65c_fastRemove_b59b0_2 : decode cJx4a65c_fastRemove_b59b0 2 = .ok (.getfield 63, 3) := by decide +kernel
theorem dJx4a65c_fastRemove_b59b0_5 : decode cJx4a65c_fastRemove_b59b0 5 = .ok (.iconst 1, 1) := by decide +kernel
theorem dJx4a65c_fastRemove_b59b0_6 : decode cJx4a65c_fastRemove_b59b0 6 = .ok (.iadd, 1) := by decide +kernel
theorem dJx4a65c_fastRemove_b59b0_7 : decode cJx4a65c_fastRemove_b59b0 7 = .ok (.putfield 63, 3) := by decide +kernel
theorem dJx4a65c_fastRemove_b59b0_10 : decode cJx4a65c_fastRemove_b59b0 10 = .ok (.aload_n 0, 1) := by decide +kernel
theorem dJx4a65c_fastRemove_b59b0_11 : decode cJx4a65c_fastRemove_b59b0 11 = .ok (.getfield 48, 3) := by decide +kernel
theorem dJx4a65c_fastRemove_b59b0_14 : decode cJx4a65c_fastRemove_b59b0 14 = .ok (.iconst 1, 1) := by decide +kernel
theorem dJx4a65c_fastRemove_b59b0_15 : decode cJx4a65c_fastRemove_b59b0 15 = .ok (.isub, 1) := by decide +kernel
theorem dJx4a65c_fastRemove_b59b0_16 : decode cJx4a65c_fastRemove_b59b0 16 = .ok (.dup, 1) := by decide +kernel
theorem dJx4a65c_fastRemove_b59b0_17 : decode cJx4a65c_fastRemove_b59b0 17 = .ok (.istore_n 3, 1) := by decide +kernel
theorem dJx4a65c_fastRemove_b59b0_18 : decode cJx4a65c_fastRemove_b59b0 18 = .ok (.iload_n 2, 1) := by decide +kernel
theorem dJx4a65c_fastRemove_b59b0_19 : decode cJx4a65c_fastRemove_b59b0 19 = .ok (.if_icmp .le 15, 3) := by decide +kernel
theorem dJx4a65c_fastRemove_b59b0_34 : decode cJx4a65c_fastRemove_b59b0 34 = .ok (.aload_n 1, 1) := by decide +kernel
theorem dJx4a65c_fastRemove_b59b0_35 : decode cJx4a65c_fastRemove_b59b0 35 = .ok (.aload_n 0, 1) := by decide +kernel
theorem dJx4a65c_fastRemove_b59b0_36 : decode cJx4a65c_fastRemove_b59b0 36 = .ok (.iload_n 3, 1) := by decide +kernel
theorem dJx4a65c_fastRemove_b59b0_37 : decode cJx4a65c_fastRemove_b59b0 37 = .ok (.dup_x1, 1) := by decide +kernel
theorem dJx4a65c_fastRemove_b59b0_38 : decode cJx4a65c_fastRemove_b59b0 38 = .ok (.putfield 48, 3) := by decide +kernel
theorem dJx4a65c_fastRemove_b59b0_41 : decode cJx4a65c_fastRemove_b59b0 41 = .ok (.aconst_null, 1) := by decide +kernel
theorem dJx4a65c_fastRemove_b59b0_42 : decode cJx4a65c_fastRemove_b59b0 42 = .ok (.aastore, 1) := by decide +kernel
theorem dJx4a65c_fastRemove_b59b0_43 : decode cJx4a65c_fastRemove_b59b0 43 = .ok (.return_, 1) := by decide +kernel
theorem dJx4a65c_fastRemove_b59b0_22 : decode cJx4a65c_fastRemove_b59b0 22 = .ok (.aload_n 1, 1) := by decide +kernel
theorem dJx4a65c_fastRemove_b59b0_23 : decode cJx4a65c_fastRemove_b59b0 23 = .ok (.iload_n 2, 1) := by decide +kernel
theorem dJx4a65c_fastRemove_b59b0_24 : decode cJx4a65c_fastRemove_b59b0 24 = .ok (.iconst 1, 1) := by decide +kernel
theorem dJx4a65c_fastRemove_b59b0_25 : decode cJx4a65c_fastRemove_b59b0 25 = .ok (.iadd, 1) := by decide +kernel
theorem dJx4a65c_fastRemove_b59b0_26 : decode cJx4a65c_fastRemove_b59b0 26 = .ok (.aload_n 1, 1) := by decide +kernel
theorem dJx4a65c_fastRemove_b59b0_27 : decode cJx4a65c_fastRemove_b59b0 27 = .ok (.iload_n 2, 1) := by decide +kernel
theorem dJx4a65c_fastRemove_b59b0_28 : decode cJx4a65c_fastRemove_b59b0 28 = .ok (.iload_n 3, 1) := by decide +kernel
theorem dJx4a65c_fastRemove_b59b0_29 : decode cJx4a65c_fastRemove_b59b0 29 = .ok (.iload_n 2, 1) := by decide +kernel
theorem dJx4a65c_fastRemove_b59b0_30 : decode cJx4a65c_fastRemove_b59b0 30 = .ok (.isub, 1) := by decide +kernel
theorem dJx4a65c_fastRemove_b59b0_31 : decode cJx4a65c_fastRemove_b59b0 31 = .ok (.invokestatic 112, 3) := by decide +kernel
theorem dJx4a65c_remove_915e3_0 : decode cJx4a65c_remove_915e3 0 = .ok (.iload_n 1, 1) := by decide +kernel
theorem dJx4a65c_remove_915e3_1 : decode cJx4a65c_remove_915e3 1 = .ok (.aload_n 0, 1) := by decide +kernel
theorem dJx4a65c_remove_915e3_2 : decode cJx4a65c_remove_915e3 2 = .ok (.getfield 48, 3) := by decide +kernel
theorem dJx4a65c_remove_915e3_5 : decode cJx4a65c_remove_915e3 5 = .ok (.invokestatic 118, 3) := by decide +kernel
theorem dJx4a65c_remove_915e3_8 : decode cJx4a65c_remove_915e3 8 = .ok (.pop, 1) := by decide +kernel
theorem dJx4a65c_remove_915e3_9 : decode cJx4a65c_remove_915e3 9 = .ok (.aload_n 0, 1) := by decide +kernel
theorem dJx4a65c_remove_915e3_10 : decode cJx4a65c_remove_915e3 10 = .ok (.getfield 9, 3) := by decide +kernel
theorem dJx4a65c_remove_915e3_13 : decode cJx4a65c_remove_915e3 13 = .ok (.astore_n 2, 1) := by decide +kernel
theorem dJx4a65c_remove_915e3_14 : decode cJx4a65c_remove_915e3 14 = .ok (.aload_n 2, 1) := by decide +kernel
theorem dJx4a65c_remove_915e3_15 : decode cJx4a65c_remove_915e3 15 = .ok (.iload_n 1, 1) := by decide +kernel
theorem dJx4a65c_remove_915e3_16 : decode cJx4a65c_remove_915e3 16 = .ok (.aaload, 1) := by decide +kernel
theorem dJx4a65c_remove_915e3_17 : decode cJx4a65c_remove_915e3 17 = .ok (.astore_n 3, 1) := by decide +kernel
theorem dJx4a65c_remove_915e3_18 : decode cJx4a65c_remove_915e3 18 = .ok (.aload_n 0, 1) := by decide +kernel
theorem dJx4a65c_remove_915e3_19 : decode cJx4a65c_remove_915e3 19 = .ok (.aload_n 2, 1) := by decide +kernel
theorem dJx4a65c_remove_915e3_20 : decode cJx4a65c_remove_915e3 20 = .ok (.iload_n 1, 1) := by decide +kernel
theorem dJx4a65c_remove_915e3_21 : decode cJx4a65c_remove_915e3 21 = .ok (.invokevirtual 144, 3) := by decide +kernel
theorem dJx4a65c_remove_915e3_24 : decode cJx4a65c_remove_915e3 24 = .ok (.aload_n 3, 1) := by decide +kernel
theorem dJx4a65c_remove_915e3_25 : decode cJx4a65c_remove_915e3 25 = .ok (.areturn, 1) := by decide +kernel
theorem dJx4a65c_clear_da8c8_27 : decode cJx4a65c_clear_da8c8 27 = .ok (.iload_n 3, 1) := by decide +kernel
theorem dJx4a65c_clear_da8c8_28 : decode cJx4a65c_clear_da8c8 28 = .ok (.iload_n 2, 1) := by decide +kernel
theorem dJx4a65c_clear_da8c8_29 : decode cJx4a65c_clear_da8c8 29 = .ok (.if_icmp .ge 13, 3) := by decide +kernel
theorem dJx4a65c_clear_da8c8_32 : decode cJx4a65c_clear_da8c8 32 = .ok (.aload_n 1, 1) := by decide +kernel
theorem dJx4a65c_clear_da8c8_33 : decode cJx4a65c_clear_da8c8 33 = .ok (.iload_n 3, 1) := by decide +kernel
theorem dJx4a65c_clear_da8c8_34 : decode cJx4a65c_clear_da8c8 34 = .ok (.aconst_null, 1) := by decide +kernel
theorem dJx4a65c_clear_da8c8_35 : decode cJx4a65c_clear_da8c8 35 = .ok (.aastore, 1) := by decide +kernel
theorem dJx4a65c_clear_da8c8_36 : decode cJx4a65c_clear_da8c8 36 = .ok (.iinc 3 1, 3) := by decide +kernel
theorem dJx4a65c_clear_da8c8_39 : decode cJx4a65c_clear_da8c8 39 = .ok (.goto (-12), 3) := by decide +kernel
theorem dJx4a65c_clear_da8c8_0 : decode cJx4a65c_clear_da8c8 0 = .ok (.aload_n 0, 1) := by decide +kernel
theorem dJx4a65c_clear_da8c8_1 : decode cJx4a65c_clear_da8c8 1 = .ok (.dup, 1) := by decide +kernel
theorem dJx4a65c_clear_da8c8_2 : decode cJx4a65c_clear_da8c8 2 = .ok (.getfield 63, 3) := by decide +kernel
theorem dJx4a65c_clear_da8c8_5 : decode cJx4a65c_clear_da8c8 5 = .ok (.iconst 1, 1) := by decide +kernel
theorem dJx4a65c_clear_da8c8_6 : decode cJx4a65c_clear_da8c8 6 = .ok (.iadd, 1) := by decide +kernel
theorem dJx4a65c_clear_da8c8_7 : decode cJx4a65c_clear_da8c8 7 = .ok (.putfield 63, 3) := by decide +kernel
theorem dJx4a65c_clear_da8c8_10 : decode cJx4a65c_clear_da8c8 10 = .ok (.aload_n 0, 1) := by decide +kernel
theorem dJx4a65c_clear_da8c8_11 : decode cJx4a65c_clear_da8c8 11 = .ok (.getfield 9, 3) := by decide +kernel
theorem dJx4a65c_clear_da8c8_14 : decode cJx4a65c_clear_da8c8 14 = .ok (.astore_n 1, 1) := by decide +kernel
theorem dJx4a65c_clear_da8c8_15 : decode cJx4a65c_clear_da8c8 15 = .ok (.aload_n 0, 1) := by decide +kernel
theorem dJx4a65c_clear_da8c8_16 : decode cJx4a65c_clear_da8c8 16 = .ok (.getfield 48, 3) := by decide +kernel
theorem dJx4a65c_clear_da8c8_19 : decode cJx4a65c_clear_da8c8 19 = .ok (.istore_n 2, 1) := by decide +kernel
theorem dJx4a65c_clear_da8c8_20 : decode cJx4a65c_clear_da8c8 20 = .ok (.aload_n 0, 1) := by decide +kernel
theorem dJx4a65c_clear_da8c8_21 : decode cJx4a65c_clear_da8c8 21 = .ok (.iconst 0, 1) := by decide +kernel
theorem dJx4a65c_clear_da8c8_22 : decode cJx4a65c_clear_da8c8 22 = .ok (.dup_x1, 1) := by decide +kernel
theorem dJx4a65c_clear_da8c8_23 : decode cJx4a65c_clear_da8c8 23 = .ok (.putfield 48, 3) := by decide +kernel
theorem dJx4a65c_clear_da8c8_26 : decode cJx4a65c_clear_da8c8 26 = .ok (.istore_n 3, 1) := by decide +kernel
theorem dJx4a65c_clear_da8c8_42 : decode cJx4a65c_clear_da8c8 42 = .ok (.return_, 1) := by decide +kernel
set_option maxHeartbeats 1000000 in
set_option maxRecDepth 100000 in
theorem a_addV (l : Launch) (D : va_G) (z : Nat → Nat) (cB cI_ cO : ClassId) (L0 : List Nat) (g0 : hG) (al tA tD : Nat) (mc : Int32) (tx x cx : Nat) (rx : vw_C) (fsx : List Value) (h_al : ho L0 g0 al tA (.inr (0, [.int mc, .ref (z 0), .int 0]))) (h_x : ho L0 g0 x tx (.inr (cx, fsx))) (hAD : tA ≠ tD) (hxA : tx ≠ tA) (hxD : tx ≠ tD) (hcx : vcl[cx]? = some rx) (hca : ∀ s : State, zB z s → va_Nw (.castable rx.1 "java/lang/Object") s) : eI l D yJx4a65c_add_9ea2d cJx4a65c_add_9ea2d 2 (some .boolean) 6 130 1 10 [.ref al, .ref x] z cB cI_ cO L0 g0 (fun r L g => r = 1 ∧ ∃ d1 : Nat, fr [tA, tD] L0 g0 L g ∧ ho L g al tA (.inr (0, [.int (mc + 1), .ref d1, .int 1])) ∧ ho L g d1 tD (.inl (cO, 10, .inr (.inr (.inr (.inr (va_up (fun _ => none) 0 (some x)))))))) := by
  refine o_si (by decide) (Nat.le_of_ble_eq_true rfl) ?_
  intro p e s m below meth c A ls hf hr hlocks hin hK hP hD hS hA hZ hN hl
  obtain ⟨hx, hb, hml, hown, hts⟩ := id hf
  have hl : lv_has ls 2 [(0, .ref al), (1, .ref x)] := hl
  have hfr : fr [tA, tD] L0 g0 L0 g0 := fr.rf
  refine lv_aload_n hx hb dJx4a65c_add_9ea2d_0 rfl (lv_at hl 0 rfl) ?_
  refine lv_dup hx hb dJx4a65c_add_9ea2d_1 rfl ?_
  refine o_get (D := D) (ci := 0) (v := .int mc) (C := RJx4a65c) (T := TJx4a65c) (N := 3) hx hb hts inJx4a65c hown hK hP h_al rfl 0 (by decide) (hts _ k_171) (u_same (hts _ k_172)) rfl dJx4a65c_add_9ea2d_2 ?_
  refine lv_iconst (v := 1) hx hb dJx4a65c_add_9ea2d_5 (by decide) ?_
  refine lv_iadd hx hb dJx4a65c_add_9ea2d_6 ?_
  refine o_put (D := D) (ci := 0) (v := .int (mc + 1)) (ty := .int) (C := RJx4a65c) (T := TJx4a65c) (N := 3) (fs1 := [.int (mc + 1), .ref (z 0), .int 0]) hx hb hts inJx4a65c tyJx4a65c tyJx4a65c_ok nmJx4a65c hown hK hP hD hS h_al rfl 0 (by decide) (hts _ k_171) (u_same (hts _ k_172)) rfl (by decide +kernel) rfl rfl (Nat.le_of_ble_eq_true rfl) rfl dJx4a65c_add_9ea2d_7 (fun g H locs h_al hu hP hD hS => ?_)
  have h_x := h_x.up hu hxA
  have hfr := hfr.up hu (by simp)
  refine lv_aload_n hx hb dJx4a65c_add_9ea2d_10 rfl (lv_at hl 0 rfl) ?_
  refine lv_aload_n hx hb dJx4a65c_add_9ea2d_11 rfl (lv_at hl 1 rfl) ?_
  refine lv_aload_n hx hb dJx4a65c_add_9ea2d_12 rfl (lv_at hl 0 rfl) ?_
  refine o_get (D := D) (ci := 0) (v := .ref (z 0)) (C := RJx4a65c) (T := TJx4a65c) (N := 3) hx hb hts inJx4a65c hown hK hP h_al rfl 1 (by decide) (hts _ k_168) (fun _ h9 => h9) rfl dJx4a65c_add_9ea2d_13 ?_
  refine lv_aload_n hx hb dJx4a65c_add_9ea2d_16 rfl (lv_at hl 0 rfl) ?_
  refine o_get (D := D) (ci := 0) (v := .int 0) (C := RJx4a65c) (T := TJx4a65c) (N := 3) hx hb hts inJx4a65c hown hK hP h_al rfl 2 (by decide) (hts _ k_169) (fun _ h9 => h9) rfl dJx4a65c_add_9ea2d_17 ?_
  refine o_cv (k := 0 + 1) (n := 0 + 10) hK hP hD hS hA (o_rV (As := [.ref x, .ref (z 0), .int 0]) (rest := []) hf (a_add3V _ _ _ _ _ _ _ _ al tA tD (mc + 1) tx x cx rx fsx h_al h_x hAD hxA hxD hcx hca _) k_615 k_612 k_614 k_16 k_89 (nA := 3) (by decide +kernel) ⟨Nat.le_of_ble_eq_true rfl, Nat.le_of_ble_eq_true rfl⟩ hK hP hD hS hA hZ hN h_al rfl rfl rfl hl.1 rfl (Nat.le_of_ble_eq_true rfl) dJx4a65c_add_9ea2d_20 ⟨(show 0 + 1 ≤ 1 by omega), (show 0 + 10 ≤ 10 by omega)⟩) (by omega) (by omega) (fun L g H locs hw hP hD hS => ?_)
  obtain ⟨d1, hf9, h_al, h_nd⟩ := hw
  have h_x := h_x.fr hf9 (by simp [hxA, hxD])
  have hfr := hfr.tr hf9
  refine lv_iconst (v := 1) hx hb dJx4a65c_add_9ea2d_23 (by decide) ?_
  exact o_ri hf hr rfl hlocks hK hP hD hS (show 0 + 1 ≤ 1 by omega) (show 0 + 10 ≤ 10 by omega) ⟨rfl, _, hfr, h_al, h_nd⟩ dJx4a65c_add_9ea2d_24
set_option maxHeartbeats 1000000 in
set_option maxRecDepth 100000 in
theorem a_addF (l : Launch) (D : va_G) (z : Nat → Nat) (cB cI_ cO : ClassId) (L0 : List Nat) (g0 : hG) (al tA tD : Nat) (mc : Int32) (tx x cx : Nat) (rx : vw_C) (fsx : List Value) (d cap : Nat) (f : Nat → Option Nat) (h_al : ho L0 g0 al tA (.inr (0, [.int mc, .ref d, .int (nI cap)]))) (h_d : ho L0 g0 d tD (.inl (cO, cap, .inr (.inr (.inr (.inr f)))))) (h_x : ho L0 g0 x tx (.inr (cx, fsx))) (hAD : tA ≠ tD) (hxA : tx ≠ tA) (hxD : tx ≠ tD) (hc10 : 10 ≤ cap) (hc9 : cap ≤ 60000) (hcx : vcl[cx]? = some rx) (hca : ∀ s : State, zB z s → va_Nw (.castable rx.1 "java/lang/Object") s) (hel : ∀ i, i < cap → ∀ y, f i = some y → ∃ fs, ho L0 g0 y tx (.inr (cx, fs))) : eI l D yJx4a65c_add_9ea2d cJx4a65c_add_9ea2d 2 (some .boolean) 6 130 1 ((cap + cap / 2)) [.ref al, .ref x] z cB cI_ cO L0 g0 (fun r L g => r = 1 ∧ ∃ d1 : Nat, fr [tA, tD] L0 g0 L g ∧ ho L g al tA (.inr (0, [.int (mc + 1), .ref d1, .int (nI (cap + 1))])) ∧ ho L g d1 tD (.inl (cO, (cap + cap / 2), .inr (.inr (.inr (.inr (va_up (va_cpy f (fun _ => none) 0 0 cap) cap (some x)))))))) := by
  refine o_si (by decide) (Nat.le_of_ble_eq_true rfl) ?_
  intro p e s m below meth c A ls hf hr hlocks hin hK hP hD hS hA hZ hN hl
  obtain ⟨hx, hb, hml, hown, hts⟩ := id hf
  have hl : lv_has ls 2 [(0, .ref al), (1, .ref x)] := hl
  have hfr : fr [tA, tD] L0 g0 L0 g0 := fr.rf
  refine lv_aload_n hx hb dJx4a65c_add_9ea2d_0 rfl (lv_at hl 0 rfl) ?_
  refine lv_dup hx hb dJx4a65c_add_9ea2d_1 rfl ?_
  refine o_get (D := D) (ci := 0) (v := .int mc) (C := RJx4a65c) (T := TJx4a65c) (N := 3) hx hb hts inJx4a65c hown hK hP h_al rfl 0 (by decide) (hts _ k_171) (u_same (hts _ k_172)) rfl dJx4a65c_add_9ea2d_2 ?_
  refine lv_iconst (v := 1) hx hb dJx4a65c_add_9ea2d_5 (by decide) ?_
  refine lv_iadd hx hb dJx4a65c_add_9ea2d_6 ?_
  refine o_put (D := D) (ci := 0) (v := .int (mc + 1)) (ty := .int) (C := RJx4a65c) (T := TJx4a65c) (N := 3) (fs1 := [.int (mc + 1), .ref d, .int (nI cap)]) hx hb hts inJx4a65c tyJx4a65c tyJx4a65c_ok nmJx4a65c hown hK hP hD hS h_al rfl 0 (by decide) (hts _ k_171) (u_same (hts _ k_172)) rfl (by decide +kernel) rfl rfl (Nat.le_of_ble_eq_true rfl) rfl dJx4a65c_add_9ea2d_7 (fun g H locs h_al hu hP hD hS => ?_)
  have h_d := h_d.up hu (Ne.symm hAD)
  have h_x := h_x.up hu hxA
  have hfr := hfr.up hu (by simp)
  refine lv_aload_n hx hb dJx4a65c_add_9ea2d_10 rfl (lv_at hl 0 rfl) ?_
  refine lv_aload_n hx hb dJx4a65c_add_9ea2d_11 rfl (lv_at hl 1 rfl) ?_
  refine lv_aload_n hx hb dJx4a65c_add_9ea2d_12 rfl (lv_at hl 0 rfl) ?_
  refine o_get (D := D) (ci := 0) (v := .ref d) (C := RJx4a65c) (T := TJx4a65c) (N := 3) hx hb hts inJx4a65c hown hK hP h_al rfl 1 (by decide) (hts _ k_168) (fun _ h9 => h9) rfl dJx4a65c_add_9ea2d_13 ?_
  refine lv_aload_n hx hb dJx4a65c_add_9ea2d_16 rfl (lv_at hl 0 rfl) ?_
  refine o_get (D := D) (ci := 0) (v := .int (nI cap)) (C := RJx4a65c) (T := TJx4a65c) (N := 3) hx hb hts inJx4a65c hown hK hP h_al rfl 2 (by decide) (hts _ k_169) (fun _ h9 => h9) rfl dJx4a65c_add_9ea2d_17 ?_
  refine o_cv (k := 0 + 1) (n := 0 + ((cap + cap / 2))) hK hP hD hS hA (o_rV (As := [.ref x, .ref d, .int (nI cap)]) (rest := []) hf (a_add3F _ _ _ _ _ _ _ _ al tA tD (mc + 1) tx x cx rx fsx d cap f h_al h_d h_x hAD hxA hxD hc10 hc9 hcx hca (fun i hi y hy => (hel i hi y hy).imp (fun fs h9 => h9.fr hfr (by simp [hxA, hxD]))) _) k_615 k_612 k_614 k_16 k_89 (nA := 3) (by decide +kernel) ⟨Nat.le_of_ble_eq_true rfl, Nat.le_of_ble_eq_true rfl⟩ hK hP hD hS hA hZ hN h_al rfl rfl rfl hl.1 rfl (Nat.le_of_ble_eq_true rfl) dJx4a65c_add_9ea2d_20 ⟨(show 0 + 1 ≤ 1 by omega), (show 0 + ((cap + cap / 2)) ≤ (cap + cap / 2) by omega)⟩) (by omega) (by omega) (fun L g H locs hw hP hD hS => ?_)
  obtain ⟨d1, hf9, h_al, h_nd⟩ := hw
  have h_x := h_x.fr hf9 (by simp [hxA, hxD])
  have hfr := hfr.tr hf9
  refine lv_iconst (v := 1) hx hb dJx4a65c_add_9ea2d_23 (by decide) ?_
  exact o_ri hf hr rfl hlocks hK hP hD hS (show 0 + 1 ≤ 1 by omega) (show 0 + ((cap + cap / 2)) ≤ (cap + cap / 2) by omega) ⟨rfl, _, hfr, h_al, h_nd⟩ dJx4a65c_add_9ea2d_24
set_option maxHeartbeats 1000000 in
set_option maxRecDepth 100000 in
theorem a_addN (l : Launch) (D : va_G) (z : Nat → Nat) (cB cI_ cO : ClassId) (L0 : List Nat) (g0 : hG) (al tA tD : Nat) (mc : Int32) (tx x cx : Nat) (rx : vw_C) (fsx : List Value) (d cap sz : Nat) (f : Nat → Option Nat) (h_al : ho L0 g0 al tA (.inr (0, [.int mc, .ref d, .int (nI sz)]))) (h_d : ho L0 g0 d tD (.inl (cO, cap, .inr (.inr (.inr (.inr f)))))) (h_x : ho L0 g0 x tx (.inr (cx, fsx))) (hAD : tA ≠ tD) (hxA : tx ≠ tA) (hxD : tx ≠ tD) (hsz : sz < cap) (hc9 : cap ≤ 60000) (hcx : vcl[cx]? = some rx) (hca : ∀ s : State, zB z s → va_Nw (.castable rx.1 "java/lang/Object") s) : eI l D yJx4a65c_add_9ea2d cJx4a65c_add_9ea2d 2 (some .boolean) 6 130 0 0 [.ref al, .ref x] z cB cI_ cO L0 g0 (fun r L g => r = 1 ∧ ∃ d1 : Nat, fr [tA, tD] L0 g0 L g ∧ ho L g al tA (.inr (0, [.int (mc + 1), .ref d1, .int (nI (sz + 1))])) ∧ ho L g d1 tD (.inl (cO, cap, .inr (.inr (.inr (.inr (va_up f sz (some x)))))))) := by
  refine o_si (by decide) (Nat.le_of_ble_eq_true rfl) ?_
  intro p e s m below meth c A ls hf hr hlocks hin hK hP hD hS hA hZ hN hl
  obtain ⟨hx, hb, hml, hown, hts⟩ := id hf
  have hl : lv_has ls 2 [(0, .ref al), (1, .ref x)] := hl
  have hfr : fr [tA, tD] L0 g0 L0 g0 := fr.rf
  refine lv_aload_n hx hb dJx4a65c_add_9ea2d_0 rfl (lv_at hl 0 rfl) ?_
  refine lv_dup hx hb dJx4a65c_add_9ea2d_1 rfl ?_
  refine o_get (D := D) (ci := 0) (v := .int mc) (C := RJx4a65c) (T := TJx4a65c) (N := 3) hx hb hts inJx4a65c hown hK hP h_al rfl 0 (by decide) (hts _ k_171) (u_same (hts _ k_172)) rfl dJx4a65c_add_9ea2d_2 ?_
  refine lv_iconst (v := 1) hx hb dJx4a65c_add_9ea2d_5 (by decide) ?_
  refine lv_iadd hx hb dJx4a65c_add_9ea2d_6 ?_
  refine o_put (D := D) (ci := 0) (v := .int (mc + 1)) (ty := .int) (C := RJx4a65c) (T := TJx4a65c) (N := 3) (fs1 := [.int (mc + 1), .ref d, .int (nI sz)]) hx hb hts inJx4a65c tyJx4a65c tyJx4a65c_ok nmJx4a65c hown hK hP hD hS h_al rfl 0 (by decide) (hts _ k_171) (u_same (hts _ k_172)) rfl (by decide +kernel) rfl rfl (Nat.le_of_ble_eq_true rfl) rfl dJx4a65c_add_9ea2d_7 (fun g H locs h_al hu hP hD hS => ?_)
  have h_d := h_d.up hu (Ne.symm hAD)
  have h_x := h_x.up hu hxA
  have hfr := hfr.up hu (by simp)
  refine lv_aload_n hx hb dJx4a65c_add_9ea2d_10 rfl (lv_at hl 0 rfl) ?_
  refine lv_aload_n hx hb dJx4a65c_add_9ea2d_11 rfl (lv_at hl 1 rfl) ?_
  refine lv_aload_n hx hb dJx4a65c_add_9ea2d_12 rfl (lv_at hl 0 rfl) ?_
  refine o_get (D := D) (ci := 0) (v := .ref d) (C := RJx4a65c) (T := TJx4a65c) (N := 3) hx hb hts inJx4a65c hown hK hP h_al rfl 1 (by decide) (hts _ k_168) (fun _ h9 => h9) rfl dJx4a65c_add_9ea2d_13 ?_
  refine lv_aload_n hx hb dJx4a65c_add_9ea2d_16 rfl (lv_at hl 0 rfl) ?_
  refine o_get (D := D) (ci := 0) (v := .int (nI sz)) (C := RJx4a65c) (T := TJx4a65c) (N := 3) hx hb hts inJx4a65c hown hK hP h_al rfl 2 (by decide) (hts _ k_169) (fun _ h9 => h9) rfl dJx4a65c_add_9ea2d_17 ?_
  refine o_cv (k := 0) (n := 0) hK hP hD hS hA (o_rV (As := [.ref x, .ref d, .int (nI sz)]) (rest := []) hf (a_add3N _ _ _ _ _ _ _ _ al tA tD (mc + 1) tx x cx rx fsx d cap sz f h_al h_d h_x hAD hxA hxD hsz hc9 hcx hca _) k_615 k_612 k_614 k_16 k_89 (nA := 3) (by decide +kernel) ⟨Nat.le_of_ble_eq_true rfl, Nat.le_of_ble_eq_true rfl⟩ hK hP hD hS hA hZ hN h_al rfl rfl rfl hl.1 rfl (Nat.le_of_ble_eq_true rfl) dJx4a65c_add_9ea2d_20 ⟨(show 0 + 0 ≤ 0 by omega), (show 0 + 0 ≤ 0 by omega)⟩) (Nat.le_refl _) (Nat.le_refl _) (fun L g H locs hw hP hD hS => ?_)
  obtain ⟨d1, hf9, h_al, h_nd⟩ := hw
  have h_x := h_x.fr hf9 (by simp [hxA, hxD])
  have hfr := hfr.tr hf9
  refine lv_iconst (v := 1) hx hb dJx4a65c_add_9ea2d_23 (by decide) ?_
  exact o_ri hf hr rfl hlocks hK hP hD hS (show 0 ≤ 0 by omega) (show 0 ≤ 0 by omega) ⟨rfl, _, hfr, h_al, h_nd⟩ dJx4a65c_add_9ea2d_24
set_option maxHeartbeats 1000000 in
set_option maxRecDepth 100000 in
theorem a_rck (l : Launch) (D : va_G) (z : Nat → Nat) (cB cI_ cO : ClassId) (L0 : List Nat) (g0 : hG) (al tA tD : Nat) (mc : Int32) (d sz i : Nat) (h_al : ho L0 g0 al tA (.inr (0, [.int mc, .ref d, .int (nI sz)]))) (hi : i ≤ sz) (hsz : sz < 2 ^ 30) : eVs l D yJx4a65c_rangeCheckForAdd_d00df cJx4a65c_rangeCheckForAdd_d00df 2 none 0 0 0 0 [.ref al, .int (nI i)] z cB cI_ cO L0 g0 (True) := by
  refine o_sv (by decide) (Nat.le_of_ble_eq_true rfl) ?_
  intro p e s m below meth c A ls hf hr hlocks hin hK hP hD hS hA hZ hN hl
  obtain ⟨hx, hb, hml, hown, hts⟩ := id hf
  have hl : lv_has ls 2 [(0, .ref al), (1, .int (nI i))] := hl
  refine lv_iload_n hx hb dJx4a65c_rangeCheckForAdd_d00df_0 rfl (lv_at hl 1 rfl) ?_
  refine lv_aload_n hx hb dJx4a65c_rangeCheckForAdd_d00df_1 rfl (lv_at hl 0 rfl) ?_
  refine o_get (D := D) (ci := 0) (v := .int (nI sz)) (C := RJx4a65c) (T := TJx4a65c) (N := 3) hx hb hts inJx4a65c hown hK hP h_al rfl 2 (by decide) (hts _ k_169) (fun _ h9 => h9) rfl dJx4a65c_rangeCheckForAdd_d00df_2 ?_
  refine lv_icmp_gt (tgt := 12) hx hb dJx4a65c_rangeCheckForAdd_d00df_5 (by decide) (fun c_1 => ?_) (fun c_1 => ?_)
  · have c_1 := q_lt (a := sz) (b := i) (by omega) (by omega) c_1
    exact False.elim (by omega)
  · have c_1 := q_nlt (a := sz) (b := i) (by omega) (by omega) c_1
    refine lv_iload_n hx hb dJx4a65c_rangeCheckForAdd_d00df_8 rfl (lv_at hl 1 rfl) ?_
    refine lv_if_ge (tgt := 25) hx hb dJx4a65c_rangeCheckForAdd_d00df_9 (by decide) (fun c_2 => ?_) (fun c_2 => ?_)
    · have c_2 := q_le (a := 0) (b := i) (by omega) (by omega) c_2
      exact o_rv hf hr hlocks hK hP hD hS (show 0 ≤ 0 by omega) (show 0 ≤ 0 by omega) ⟨trivial, rfl, rfl⟩ dJx4a65c_rangeCheckForAdd_d00df_25
    · have c_2 := q_nle (a := 0) (b := i) (by omega) (by omega) c_2
      exact False.elim (by omega)
set_option maxHeartbeats 1000000 in
set_option maxRecDepth 100000 in
theorem a_size (l : Launch) (D : va_G) (z : Nat → Nat) (cB cI_ cO : ClassId) (L0 : List Nat) (g0 : hG) (al tA tD : Nat) (mc : Int32) (d sz : Nat) (h_al : ho L0 g0 al tA (.inr (0, [.int mc, .ref d, .int (nI sz)])))  : eIs l D yJx4a65c_size_8abf5 cJx4a65c_size_8abf5 1 (some .int) 0 0 0 0 [.ref al] z cB cI_ cO L0 g0 (fun r => r = nI sz) := by
  refine o_si (by decide) (Nat.le_of_ble_eq_true rfl) ?_
  intro p e s m below meth c A ls hf hr hlocks hin hK hP hD hS hA hZ hN hl
  obtain ⟨hx, hb, hml, hown, hts⟩ := id hf
  have hl : lv_has ls 1 [(0, .ref al)] := hl
  refine lv_aload_n hx hb dJx4a65c_size_8abf5_0 rfl (lv_at hl 0 rfl) ?_
  refine o_get (D := D) (ci := 0) (v := .int (nI sz)) (C := RJx4a65c) (T := TJx4a65c) (N := 3) hx hb hts inJx4a65c hown hK hP h_al rfl 2 (by decide) (hts _ k_169) (fun _ h9 => h9) rfl dJx4a65c_size_8abf5_1 ?_
  exact o_ri hf hr rfl hlocks hK hP hD hS (show 0 ≤ 0 by omega) (show 0 ≤ 0 by omega) ⟨rfl, rfl, rfl⟩ dJx4a65c_size_8abf5_4
set_option maxHeartbeats 1000000 in
set_option maxRecDepth 100000 in
theorem a_isE (l : Launch) (D : va_G) (z : Nat → Nat) (cB cI_ cO : ClassId) (L0 : List Nat) (g0 : hG) (al tA tD : Nat) (mc : Int32) (d sz : Nat) (h_al : ho L0 g0 al tA (.inr (0, [.int mc, .ref d, .int (nI sz)]))) (hsz : sz < 2 ^ 30) : eIs l D yJx4a65c_isEmpty_aae02 cJx4a65c_isEmpty_aae02 1 (some .boolean) 0 0 0 0 [.ref al] z cB cI_ cO L0 g0 (fun r => (sz = 0 ∧ r = 1 ∨ ¬ sz = 0 ∧ r = 0)) := by
  refine o_si (by decide) (Nat.le_of_ble_eq_true rfl) ?_
  intro p e s m below meth c A ls hf hr hlocks hin hK hP hD hS hA hZ hN hl
  obtain ⟨hx, hb, hml, hown, hts⟩ := id hf
  have hl : lv_has ls 1 [(0, .ref al)] := hl
  refine lv_aload_n hx hb dJx4a65c_isEmpty_aae02_0 rfl (lv_at hl 0 rfl) ?_
  refine o_get (D := D) (ci := 0) (v := .int (nI sz)) (C := RJx4a65c) (T := TJx4a65c) (N := 3) hx hb hts inJx4a65c hown hK hP h_al rfl 2 (by decide) (hts _ k_169) (fun _ h9 => h9) rfl dJx4a65c_isEmpty_aae02_1 ?_
  refine lv_if_ne (tgt := 11) hx hb dJx4a65c_isEmpty_aae02_4 (by decide) (fun c_1 => ?_) (fun c_1 => ?_)
  · have c_1 := q_nen (a := sz) (b := 0) (by omega) (by omega) c_1
    refine lv_iconst (v := 0) hx hb dJx4a65c_isEmpty_aae02_11 (by decide) ?_
    exact o_ri hf hr rfl hlocks hK hP hD hS (show 0 ≤ 0 by omega) (show 0 ≤ 0 by omega) ⟨Or.inr ⟨by omega, rfl⟩, rfl, rfl⟩ dJx4a65c_isEmpty_aae02_12
  · have c_1 := q_eqn (a := sz) (b := 0) (by omega) (by omega) c_1
    refine lv_iconst (v := 1) hx hb dJx4a65c_isEmpty_aae02_7 (by decide) ?_
    refine lv_goto (tgt := 12) hx hb dJx4a65c_isEmpty_aae02_8 (by decide) ?_
    exact o_ri hf hr rfl hlocks hK hP hD hS (show 0 ≤ 0 by omega) (show 0 ≤ 0 by omega) ⟨Or.inl ⟨by omega, rfl⟩, rfl, rfl⟩ dJx4a65c_isEmpty_aae02_12
set_option maxHeartbeats 1000000 in
set_option maxRecDepth 100000 in
theorem a_eld (l : Launch) (D : va_G) (z : Nat → Nat) (cB cI_ cO : ClassId) (L0 : List Nat) (g0 : hG) (al tA tD : Nat) (mc : Int32) (d cap sz i x : Nat) (f : Nat → Option Nat) (h_al : ho L0 g0 al tA (.inr (0, [.int mc, .ref d, .int (nI sz)]))) (h_d : ho L0 g0 d tD (.inl (cO, cap, .inr (.inr (.inr (.inr f)))))) (hi : i < cap) (hc9 : cap ≤ 60000) (hfx : f i = some x) : eRs l D yJx4a65c_elementData_915e3 cJx4a65c_elementData_915e3 2 (some (.object "java/lang/Object")) 0 0 0 0 [.ref al, .int (nI i)] z cB cI_ cO L0 g0 (fun r => r = x) := by
  refine o_sr (by decide) (Nat.le_of_ble_eq_true rfl) ?_
  intro p e s m below meth c A ls hf hr hlocks hin hK hP hD hS hA hZ hN hl
  obtain ⟨hx, hb, hml, hown, hts⟩ := id hf
  have hl : lv_has ls 2 [(0, .ref al), (1, .int (nI i))] := hl
  refine lv_aload_n hx hb dJx4a65c_elementData_915e3_0 rfl (lv_at hl 0 rfl) ?_
  refine o_get (D := D) (ci := 0) (v := .ref d) (C := RJx4a65c) (T := TJx4a65c) (N := 3) hx hb hts inJx4a65c hown hK hP h_al rfl 1 (by decide) (hts _ k_168) (fun _ h9 => h9) rfl dJx4a65c_elementData_915e3_1 ?_
  refine lv_iload_n hx hb dJx4a65c_elementData_915e3_4 rfl (lv_at hl 1 rfl) ?_
  refine o_ald (X := i) hx hb hK hP h_d (by omega) (by omega) hfx dJx4a65c_elementData_915e3_5 ?_
  exact o_rr hf hr (Or.inl ⟨_, rfl⟩) hlocks hK hP hD hS (show 0 ≤ 0 by omega) (show 0 ≤ 0 by omega) ⟨rfl, rfl, rfl⟩ dJx4a65c_elementData_915e3_6
set_option maxHeartbeats 1000000 in
set_option maxRecDepth 100000 in
theorem a_get (l : Launch) (D : va_G) (z : Nat → Nat) (cB cI_ cO : ClassId) (L0 : List Nat) (g0 : hG) (al tA tD : Nat) (mc : Int32) (d cap sz i x : Nat) (f : Nat → Option Nat) (h_al : ho L0 g0 al tA (.inr (0, [.int mc, .ref d, .int (nI sz)]))) (h_d : ho L0 g0 d tD (.inl (cO, cap, .inr (.inr (.inr (.inr f)))))) (hi : i < sz) (hsc : sz ≤ cap) (hc9 : cap ≤ 60000) (hfx : f i = some x) : eRs l D yJx4a65c_get_915e3 cJx4a65c_get_915e3 2 (some (.object "java/lang/Object")) 2 43 0 0 [.ref al, .int (nI i)] z cB cI_ cO L0 g0 (fun r => r = x) := by
  refine o_sr (by decide) (Nat.le_of_ble_eq_true rfl) ?_
  intro p e s m below meth c A ls hf hr hlocks hin hK hP hD hS hA hZ hN hl
  obtain ⟨hx, hb, hml, hown, hts⟩ := id hf
  have hl : lv_has ls 2 [(0, .ref al), (1, .int (nI i))] := hl
  refine lv_iload_n hx hb dJx4a65c_get_915e3_0 rfl (lv_at hl 1 rfl) ?_
  refine lv_aload_n hx hb dJx4a65c_get_915e3_1 rfl (lv_at hl 0 rfl) ?_
  refine o_get (D := D) (ci := 0) (v := .int (nI sz)) (C := RJx4a65c) (T := TJx4a65c) (N := 3) hx hb hts inJx4a65c hown hK hP h_al rfl 2 (by decide) (hts _ k_169) (fun _ h9 => h9) rfl dJx4a65c_get_915e3_2 ?_
  refine o_cis (k := 0) (n := 0) hK hP hD hS hA (o_rS (As := [.int (nI i), .int (nI sz)]) (rest := []) hf (k_cko _ _ _ _ _ _ _ _ i sz (by omega) (by omega) _) k_678 k_676 k_677 k_106 (nA := 2) (by decide +kernel) ⟨Nat.le_of_ble_eq_true rfl, Nat.le_of_ble_eq_true rfl⟩ hK hP hD hS hA hZ hN rfl hl.1 rfl (Nat.le_of_ble_eq_true rfl) dJx4a65c_get_915e3_5 ⟨(show 0 + 0 ≤ 0 by omega), (show 0 + 0 ≤ 0 by omega)⟩) (Nat.le_refl _) (Nat.le_refl _) (fun r H locs hw hP hD hS => ?_)
  obtain rfl := hw
  refine lv_pop hx hb dJx4a65c_get_915e3_8 rfl ?_
  refine lv_aload_n hx hb dJx4a65c_get_915e3_9 rfl (lv_at hl 0 rfl) ?_
  refine lv_iload_n hx hb dJx4a65c_get_915e3_10 rfl (lv_at hl 1 rfl) ?_
  refine o_crs (k := 0) (n := 0) hK hP hD hS hA (o_rV (As := [.int (nI i)]) (rest := []) hf (a_eld _ _ _ _ _ _ _ _ al tA tD mc d cap sz i x f h_al h_d (by omega) hc9 hfx _) k_683 k_680 k_681 k_682 k_89 (nA := 1) (by decide +kernel) ⟨Nat.le_of_ble_eq_true rfl, Nat.le_of_ble_eq_true rfl⟩ hK hP hD hS hA hZ hN h_al rfl rfl rfl hl.1 rfl (Nat.le_of_ble_eq_true rfl) dJx4a65c_get_915e3_11 ⟨(show 0 + 0 ≤ 0 by omega), (show 0 + 0 ≤ 0 by omega)⟩) (Nat.le_refl _) (Nat.le_refl _) (fun r H locs hw hP hD hS => ?_)
  obtain rfl := hw
  exact o_rr hf hr (Or.inl ⟨_, rfl⟩) hlocks hK hP hD hS (show 0 ≤ 0 by omega) (show 0 ≤ 0 by omega) ⟨rfl, rfl, rfl⟩ dJx4a65c_get_915e3_14
set_option maxHeartbeats 1000000 in
set_option maxRecDepth 100000 in
theorem a_atV (l : Launch) (D : va_G) (z : Nat → Nat) (cB cI_ cO : ClassId) (L0 : List Nat) (g0 : hG) (al tA tD : Nat) (mc : Int32) (tx x cx : Nat) (rx : vw_C) (fsx : List Value) (h_al : ho L0 g0 al tA (.inr (0, [.int mc, .ref (z 0), .int 0]))) (h_x : ho L0 g0 x tx (.inr (cx, fsx))) (hAD : tA ≠ tD) (hxA : tx ≠ tA) (hxD : tx ≠ tD) (hcx : vcl[cx]? = some rx) (hca : ∀ s : State, zB z s → va_Nw (.castable rx.1 "java/lang/Object") s) : eV l D yJx4a65c_add_7a177 cJx4a65c_add_7a177 5 none 5 107 1 10 [.ref al, .int 0, .ref x] z cB cI_ cO L0 g0 (fun L g => ∃ (d1 : Nat) (f1 : Nat → Option Nat), f1 0 = some x ∧ fr [tA, tD] L0 g0 L g ∧ ho L g al tA (.inr (0, [.int (mc + 1), .ref d1, .int 1])) ∧ ho L g d1 tD (.inl (cO, 10, .inr (.inr (.inr (.inr f1)))))) := by
  refine o_sv (by decide) (Nat.le_of_ble_eq_true rfl) ?_
  intro p e s m below meth c A ls hf hr hlocks hin hK hP hD hS hA hZ hN hl
  obtain ⟨hx, hb, hml, hown, hts⟩ := id hf
  have hl : lv_has ls 5 [(0, .ref al), (1, .int 0), (2, .ref x)] := hl
  have hfr : fr [tA, tD] L0 g0 L0 g0 := fr.rf
  refine lv_aload_n hx hb dJx4a65c_add_7a177_0 rfl (lv_at hl 0 rfl) ?_
  refine lv_iload_n hx hb dJx4a65c_add_7a177_1 rfl (lv_at hl 1 rfl) ?_
  refine o_cvs (k := 0) (n := 0) hK hP hD hS hA (o_rV (As := [.int 0]) (rest := []) hf (a_rck _ _ _ _ _ _ _ _ al tA tD mc (z 0) 0 0 h_al (by omega) (by omega) _) k_720 k_717 k_719 k_21 k_89 (nA := 1) (by decide +kernel) ⟨Nat.le_of_ble_eq_true rfl, Nat.le_of_ble_eq_true rfl⟩ hK hP hD hS hA hZ hN h_al rfl rfl rfl hl.1 rfl (Nat.le_of_ble_eq_true rfl) dJx4a65c_add_7a177_2 ⟨(show 0 + 0 ≤ 1 by omega), (show 0 + 0 ≤ 10 by omega)⟩) (Nat.le_refl _) (Nat.le_refl _) (fun H locs hw hP hD hS => ?_)
  obtain _ := hw
  refine lv_aload_n hx hb dJx4a65c_add_7a177_5 rfl (lv_at hl 0 rfl) ?_
  refine lv_dup hx hb dJx4a65c_add_7a177_6 rfl ?_
  refine o_get (D := D) (ci := 0) (v := .int mc) (C := RJx4a65c) (T := TJx4a65c) (N := 3) hx hb hts inJx4a65c hown hK hP h_al rfl 0 (by decide) (hts _ k_171) (u_same (hts _ k_172)) rfl dJx4a65c_add_7a177_7 ?_
  refine lv_iconst (v := 1) hx hb dJx4a65c_add_7a177_10 (by decide) ?_
  refine lv_iadd hx hb dJx4a65c_add_7a177_11 ?_
  refine o_put (D := D) (ci := 0) (v := .int (mc + 1)) (ty := .int) (C := RJx4a65c) (T := TJx4a65c) (N := 3) (fs1 := [.int (mc + 1), .ref (z 0), .int 0]) hx hb hts inJx4a65c tyJx4a65c tyJx4a65c_ok nmJx4a65c hown hK hP hD hS h_al rfl 0 (by decide) (hts _ k_171) (u_same (hts _ k_172)) rfl (by decide +kernel) rfl rfl (Nat.le_of_ble_eq_true rfl) rfl dJx4a65c_add_7a177_12 (fun g H locs h_al hu hP hD hS => ?_)
  have h_x := h_x.up hu hxA
  have hfr := hfr.up hu (by simp)
  refine lv_aload_n hx hb dJx4a65c_add_7a177_15 rfl (lv_at hl 0 rfl) ?_
  refine o_get (D := D) (ci := 0) (v := .int 0) (C := RJx4a65c) (T := TJx4a65c) (N := 3) hx hb hts inJx4a65c hown hK hP h_al rfl 2 (by decide) (hts _ k_169) (fun _ h9 => h9) rfl dJx4a65c_add_7a177_16 ?_
  refine lv_dup hx hb dJx4a65c_add_7a177_19 rfl ?_
  refine lv_istore_n (lv' := [(3, .int 0), (0, .ref al), (1, .int 0), (2, .ref x)]) hx hb dJx4a65c_add_7a177_20 rfl hl (by decide) rfl (fun ls hl => ?_)
  refine lv_aload_n hx hb dJx4a65c_add_7a177_21 rfl (lv_at hl 1 rfl) ?_
  refine o_get (D := D) (ci := 0) (v := .ref (z 0)) (C := RJx4a65c) (T := TJx4a65c) (N := 3) hx hb hts inJx4a65c hown hK hP h_al rfl 1 (by decide) (hts _ k_168) (fun _ h9 => h9) rfl dJx4a65c_add_7a177_22 ?_
  refine lv_dup hx hb dJx4a65c_add_7a177_25 rfl ?_
  refine lv_astore (lv' := [(4, .ref (z 0)), (3, .int 0), (0, .ref al), (1, .int 0), (2, .ref x)]) hx hb dJx4a65c_add_7a177_26 hl (by decide) rfl (fun ls hl => ?_)
  refine va_tlen (v := 0) hx hb hZ.2.1 hS rfl dJx4a65c_add_7a177_28 ?_
  refine lv_icmp_ne (tgt := 38) hx hb dJx4a65c_add_7a177_29 (by decide) (fun hno => absurd hno (by decide)) (fun _ => ?_)
  refine lv_aload_n hx hb dJx4a65c_add_7a177_32 rfl (lv_at hl 2 rfl) ?_
  refine o_cr (k := 0 + 1) (n := 0 + 10) hK hP hD hS hA (o_rV (As := []) (rest := []) hf (a_grw0V _ _ _ _ _ _ _ _ al tA tD (mc + 1) h_al hAD _) k_619 k_616 k_618 k_17 k_89 (nA := 0) (by decide +kernel) ⟨Nat.le_of_ble_eq_true rfl, Nat.le_of_ble_eq_true rfl⟩ hK hP hD hS hA hZ hN h_al rfl rfl rfl hl.1 rfl (Nat.le_of_ble_eq_true rfl) dJx4a65c_add_7a177_33 ⟨(show 0 + 1 ≤ 1 by omega), (show 0 + 10 ≤ 10 by omega)⟩) (by omega) (by omega) (fun r L g H locs hw hP hD hS => ?_)
  obtain ⟨hf9, h_al, h_nd⟩ := hw
  have h_x := h_x.fr hf9 (by simp [hxA, hxD])
  have hfr := hfr.tr hf9
  refine lv_astore (lv' := [(4, .ref r), (3, .int 0), (0, .ref al), (1, .int 0), (2, .ref x)]) hx hb dJx4a65c_add_7a177_36 hl (by decide) rfl (fun ls hl => ?_)
  refine lv_aload hx hb dJx4a65c_add_7a177_38 (lv_at hl 0 rfl) ?_
  refine lv_iload_n hx hb dJx4a65c_add_7a177_40 rfl (lv_at hl 3 rfl) ?_
  refine lv_aload hx hb dJx4a65c_add_7a177_41 (lv_at hl 0 rfl) ?_
  refine lv_iload_n hx hb dJx4a65c_add_7a177_43 rfl (lv_at hl 3 rfl) ?_
  refine lv_iconst (v := 1) hx hb dJx4a65c_add_7a177_44 (by decide) ?_
  refine lv_iadd hx hb dJx4a65c_add_7a177_45 ?_
  refine q_seti (y := 1) (by decide) ?_
  refine lv_iload_n hx hb dJx4a65c_add_7a177_46 rfl (lv_at hl 1 rfl) ?_
  refine lv_iload_n hx hb dJx4a65c_add_7a177_47 rfl (lv_at hl 3 rfl) ?_
  refine lv_isub hx hb dJx4a65c_add_7a177_48 ?_
  refine q_seti (y := 0) (by decide) ?_
  refine q_eq (pc := 49) (st := (.int (nI 0) :: .int (nI 1) :: .ref r :: .int (nI 0) :: .ref r :: [])) rfl ?_
  refine o_cpyq (sp := 0) (dp := 1) (n := 0) hx hb (by rw [hml]; exact hl.1.symm) hown (hts _ k_712) (hts _ k_660) (hts _ k_659) (hts _ k_105) hK hP hD hS h_nd h_nd (by omega) (by omega) (by omega) (by omega) (fun j hj y hy => absurd hj (by omega)) (Nat.le_of_ble_eq_true rfl) (Nat.le_of_ble_eq_true rfl) dJx4a65c_add_7a177_49 (fun g H locs h_nd hu hP hD hS => ?_)
  have h_x := h_x.up hu hxD
  have h_al := h_al.up hu hAD
  have hfr := hfr.up hu (by simp)
  refine lv_aload hx hb dJx4a65c_add_7a177_52 (lv_at hl 0 rfl) ?_
  refine lv_iload_n hx hb dJx4a65c_add_7a177_54 rfl (lv_at hl 3 rfl) ?_
  refine lv_aload_n hx hb dJx4a65c_add_7a177_55 rfl (lv_at hl 4 rfl) ?_
  refine q_eq (pc := 56) (st := (.ref x :: .int (nI 0) :: .ref r :: [])) rfl ?_
  refine o_ast (X := 0) hx hb hK hP hD hS h_nd h_x hcx (hca _ hN) (by omega) (by omega) dJx4a65c_add_7a177_56 (fun g H locs h_nd hu hP hD hS => ?_)
  have h_x := h_x.up hu hxD
  have h_al := h_al.up hu hAD
  have hfr := hfr.up hu (by simp)
  refine lv_aload_n hx hb dJx4a65c_add_7a177_57 rfl (lv_at hl 2 rfl) ?_
  refine lv_iload_n hx hb dJx4a65c_add_7a177_58 rfl (lv_at hl 1 rfl) ?_
  refine lv_iconst (v := 1) hx hb dJx4a65c_add_7a177_59 (by decide) ?_
  refine lv_iadd hx hb dJx4a65c_add_7a177_60 ?_
  refine q_seti (y := 1) (by decide) ?_
  refine o_put (D := D) (ci := 0) (v := .int 1) (ty := .int) (C := RJx4a65c) (T := TJx4a65c) (N := 3) (fs1 := [.int (mc + 1), .ref r, .int 1]) hx hb hts inJx4a65c tyJx4a65c tyJx4a65c_ok nmJx4a65c hown hK hP hD hS h_al rfl 2 (by decide) (hts _ k_169) (fun _ h9 => h9) rfl (by decide +kernel) rfl rfl (Nat.le_of_ble_eq_true rfl) rfl dJx4a65c_add_7a177_61 (fun g H locs h_al hu hP hD hS => ?_)
  have h_x := h_x.up hu hxA
  have h_nd := h_nd.up hu (Ne.symm hAD)
  have hfr := hfr.up hu (by simp)
  exact o_rv hf hr hlocks hK hP hD hS (show 0 + 1 ≤ 1 by omega) (show 0 + 10 ≤ 10 by omega) ⟨_, _, va_up_self _ _ _, hfr, h_al, h_nd⟩ dJx4a65c_add_7a177_64
set_option maxHeartbeats 1000000 in
set_option maxRecDepth 100000 in
theorem a_atF (l : Launch) (D : va_G) (z : Nat → Nat) (cB cI_ cO : ClassId) (L0 : List Nat) (g0 : hG) (al tA tD : Nat) (mc : Int32) (tx x cx : Nat) (rx : vw_C) (fsx : List Value) (d cap i : Nat) (f : Nat → Option Nat) (h_al : ho L0 g0 al tA (.inr (0, [.int mc, .ref d, .int (nI cap)]))) (h_d : ho L0 g0 d tD (.inl (cO, cap, .inr (.inr (.inr (.inr f)))))) (h_x : ho L0 g0 x tx (.inr (cx, fsx))) (hAD : tA ≠ tD) (hxA : tx ≠ tA) (hxD : tx ≠ tD) (hi : i ≤ cap) (hc10 : 10 ≤ cap) (hc9 : cap ≤ 60000) (hcx : vcl[cx]? = some rx) (hca : ∀ s : State, zB z s → va_Nw (.castable rx.1 "java/lang/Object") s) (hel : ∀ i, i < cap → ∀ y, f i = some y → ∃ fs, ho L0 g0 y tx (.inr (cx, fs))) : eV l D yJx4a65c_add_7a177 cJx4a65c_add_7a177 5 none 5 107 1 ((cap + cap / 2)) [.ref al, .int (nI i), .ref x] z cB cI_ cO L0 g0 (fun L g => ∃ (d1 : Nat) (f1 : Nat → Option Nat), (f1 i = some x ∧ (∀ j, j < i → f1 j = f j) ∧ ∀ j, i ≤ j → j < cap → f1 (j + 1) = f j) ∧ fr [tA, tD] L0 g0 L g ∧ ho L g al tA (.inr (0, [.int (mc + 1), .ref d1, .int (nI (cap + 1))])) ∧ ho L g d1 tD (.inl (cO, (cap + cap / 2), .inr (.inr (.inr (.inr f1)))))) := by
  refine o_sv (by decide) (Nat.le_of_ble_eq_true rfl) ?_
  intro p e s m below meth c A ls hf hr hlocks hin hK hP hD hS hA hZ hN hl
  obtain ⟨hx, hb, hml, hown, hts⟩ := id hf
  have hl : lv_has ls 5 [(0, .ref al), (1, .int (nI i)), (2, .ref x)] := hl
  have hfr : fr [tA, tD] L0 g0 L0 g0 := fr.rf
  refine lv_aload_n hx hb dJx4a65c_add_7a177_0 rfl (lv_at hl 0 rfl) ?_
  refine lv_iload_n hx hb dJx4a65c_add_7a177_1 rfl (lv_at hl 1 rfl) ?_
  refine o_cvs (k := 0) (n := 0) hK hP hD hS hA (o_rV (As := [.int (nI i)]) (rest := []) hf (a_rck _ _ _ _ _ _ _ _ al tA tD mc d cap i h_al (by omega) (by omega) _) k_720 k_717 k_719 k_21 k_89 (nA := 1) (by decide +kernel) ⟨Nat.le_of_ble_eq_true rfl, Nat.le_of_ble_eq_true rfl⟩ hK hP hD hS hA hZ hN h_al rfl rfl rfl hl.1 rfl (Nat.le_of_ble_eq_true rfl) dJx4a65c_add_7a177_2 ⟨(show 0 + 0 ≤ 1 by omega), (show 0 + 0 ≤ (cap + cap / 2) by omega)⟩) (Nat.le_refl _) (Nat.le_refl _) (fun H locs hw hP hD hS => ?_)
  obtain _ := hw
  refine lv_aload_n hx hb dJx4a65c_add_7a177_5 rfl (lv_at hl 0 rfl) ?_
  refine lv_dup hx hb dJx4a65c_add_7a177_6 rfl ?_
  refine o_get (D := D) (ci := 0) (v := .int mc) (C := RJx4a65c) (T := TJx4a65c) (N := 3) hx hb hts inJx4a65c hown hK hP h_al rfl 0 (by decide) (hts _ k_171) (u_same (hts _ k_172)) rfl dJx4a65c_add_7a177_7 ?_
  refine lv_iconst (v := 1) hx hb dJx4a65c_add_7a177_10 (by decide) ?_
  refine lv_iadd hx hb dJx4a65c_add_7a177_11 ?_
  refine o_put (D := D) (ci := 0) (v := .int (mc + 1)) (ty := .int) (C := RJx4a65c) (T := TJx4a65c) (N := 3) (fs1 := [.int (mc + 1), .ref d, .int (nI cap)]) hx hb hts inJx4a65c tyJx4a65c tyJx4a65c_ok nmJx4a65c hown hK hP hD hS h_al rfl 0 (by decide) (hts _ k_171) (u_same (hts _ k_172)) rfl (by decide +kernel) rfl rfl (Nat.le_of_ble_eq_true rfl) rfl dJx4a65c_add_7a177_12 (fun g H locs h_al hu hP hD hS => ?_)
  have h_d := h_d.up hu (Ne.symm hAD)
  have h_x := h_x.up hu hxA
  have hfr := hfr.up hu (by simp)
  refine lv_aload_n hx hb dJx4a65c_add_7a177_15 rfl (lv_at hl 0 rfl) ?_
  refine o_get (D := D) (ci := 0) (v := .int (nI cap)) (C := RJx4a65c) (T := TJx4a65c) (N := 3) hx hb hts inJx4a65c hown hK hP h_al rfl 2 (by decide) (hts _ k_169) (fun _ h9 => h9) rfl dJx4a65c_add_7a177_16 ?_
  refine lv_dup hx hb dJx4a65c_add_7a177_19 rfl ?_
  refine lv_istore_n (lv' := [(3, .int (nI cap)), (0, .ref al), (1, .int (nI i)), (2, .ref x)]) hx hb dJx4a65c_add_7a177_20 rfl hl (by decide) rfl (fun ls hl => ?_)
  refine lv_aload_n hx hb dJx4a65c_add_7a177_21 rfl (lv_at hl 1 rfl) ?_
  refine o_get (D := D) (ci := 0) (v := .ref d) (C := RJx4a65c) (T := TJx4a65c) (N := 3) hx hb hts inJx4a65c hown hK hP h_al rfl 1 (by decide) (hts _ k_168) (fun _ h9 => h9) rfl dJx4a65c_add_7a177_22 ?_
  refine lv_dup hx hb dJx4a65c_add_7a177_25 rfl ?_
  refine lv_astore (lv' := [(4, .ref d), (3, .int (nI cap)), (0, .ref al), (1, .int (nI i)), (2, .ref x)]) hx hb dJx4a65c_add_7a177_26 hl (by decide) rfl (fun ls hl => ?_)
  refine o_lenq hx hb hK hP h_d dJx4a65c_add_7a177_28 ?_
  refine lv_icmp_ne (tgt := 38) hx hb dJx4a65c_add_7a177_29 (by decide) (fun c_1 => ?_) (fun c_1 => ?_)
  · have c_1 := q_nen (a := cap) (b := cap) (by omega) (by omega) c_1
    exact False.elim (by omega)
  · have c_1 := q_eqn (a := cap) (b := cap) (by omega) (by omega) c_1
    refine lv_aload_n hx hb dJx4a65c_add_7a177_32 rfl (lv_at hl 2 rfl) ?_
    refine o_cr (k := 0 + 1) (n := 0 + ((cap + cap / 2))) hK hP hD hS hA (o_rV (As := []) (rest := []) hf (a_grw0O _ _ _ _ _ _ _ _ al tA tD (mc + 1) d cap tx cx f rx h_al h_d hAD hc10 hc9 hcx hca (fun i hi y hy => (hel i hi y hy).imp (fun fs h9 => h9.fr hfr (by simp [hxA, hxD]))) _) k_619 k_616 k_618 k_17 k_89 (nA := 0) (by decide +kernel) ⟨Nat.le_of_ble_eq_true rfl, Nat.le_of_ble_eq_true rfl⟩ hK hP hD hS hA hZ hN h_al rfl rfl rfl hl.1 rfl (Nat.le_of_ble_eq_true rfl) dJx4a65c_add_7a177_33 ⟨(show 0 + 1 ≤ 1 by omega), (show 0 + ((cap + cap / 2)) ≤ (cap + cap / 2) by omega)⟩) (by omega) (by omega) (fun r L g H locs hw hP hD hS => ?_)
    obtain ⟨hf9, h_al, h_nd⟩ := hw
    have h_x := h_x.fr hf9 (by simp [hxA, hxD])
    have hfr := hfr.tr hf9
    refine lv_astore (lv' := [(4, .ref r), (3, .int (nI cap)), (0, .ref al), (1, .int (nI i)), (2, .ref x)]) hx hb dJx4a65c_add_7a177_36 hl (by decide) rfl (fun ls hl => ?_)
    refine lv_aload hx hb dJx4a65c_add_7a177_38 (lv_at hl 0 rfl) ?_
    refine lv_iload_n hx hb dJx4a65c_add_7a177_40 rfl (lv_at hl 3 rfl) ?_
    refine lv_aload hx hb dJx4a65c_add_7a177_41 (lv_at hl 0 rfl) ?_
    refine lv_iload_n hx hb dJx4a65c_add_7a177_43 rfl (lv_at hl 3 rfl) ?_
    refine lv_iconst (v := 1) hx hb dJx4a65c_add_7a177_44 (by decide) ?_
    refine lv_iadd hx hb dJx4a65c_add_7a177_45 ?_
    refine q_seti (y := nI (i + 1)) (nI_addE (a := i) (b := 1) (by omega)) ?_
    refine lv_iload_n hx hb dJx4a65c_add_7a177_46 rfl (lv_at hl 1 rfl) ?_
    refine lv_iload_n hx hb dJx4a65c_add_7a177_47 rfl (lv_at hl 3 rfl) ?_
    refine lv_isub hx hb dJx4a65c_add_7a177_48 ?_
    refine q_seti (y := nI (cap - i)) (nI_subE (a := cap) (b := i) (by omega) (by omega)) ?_
    refine q_eq (pc := 49) (st := (.int (nI (cap - i)) :: .int (nI (i + 1)) :: .ref r :: .int (nI i) :: .ref r :: [])) rfl ?_
    refine o_cpyq (sp := i) (dp := i + 1) (n := cap - i) hx hb (by rw [hml]; exact hl.1.symm) hown (hts _ k_712) (hts _ k_660) (hts _ k_659) (hts _ k_105) hK hP hD hS h_nd h_nd (by omega) (by omega) (by omega) (by omega) (fun j hj y hy => by rw [pk_cpy_in (by omega) (by omega)] at hy; obtain ⟨fs, h9⟩ := hel _ (by omega) y hy; exact o_any hK hP (h9.fr hfr (by simp [hxA, hxD])) hcx (hca _ hN)) (Nat.le_of_ble_eq_true rfl) (Nat.le_of_ble_eq_true rfl) dJx4a65c_add_7a177_49 (fun g H locs h_nd hu hP hD hS => ?_)
    have h_x := h_x.up hu hxD
    have h_al := h_al.up hu hAD
    have hfr := hfr.up hu (by simp)
    refine lv_aload hx hb dJx4a65c_add_7a177_52 (lv_at hl 0 rfl) ?_
    refine lv_iload_n hx hb dJx4a65c_add_7a177_54 rfl (lv_at hl 3 rfl) ?_
    refine lv_aload_n hx hb dJx4a65c_add_7a177_55 rfl (lv_at hl 4 rfl) ?_
    refine o_ast (X := i) hx hb hK hP hD hS h_nd h_x hcx (hca _ hN) (by omega) (by omega) dJx4a65c_add_7a177_56 (fun g H locs h_nd hu hP hD hS => ?_)
    have h_x := h_x.up hu hxD
    have h_al := h_al.up hu hAD
    have hfr := hfr.up hu (by simp)
    refine lv_aload_n hx hb dJx4a65c_add_7a177_57 rfl (lv_at hl 2 rfl) ?_
    refine lv_iload_n hx hb dJx4a65c_add_7a177_58 rfl (lv_at hl 1 rfl) ?_
    refine lv_iconst (v := 1) hx hb dJx4a65c_add_7a177_59 (by decide) ?_
    refine lv_iadd hx hb dJx4a65c_add_7a177_60 ?_
    refine q_seti (y := nI (cap + 1)) (nI_addE (a := cap) (b := 1) (by omega)) ?_
    refine o_put (D := D) (ci := 0) (v := .int (nI (cap + 1))) (ty := .int) (C := RJx4a65c) (T := TJx4a65c) (N := 3) (fs1 := [.int (mc + 1), .ref r, .int (nI (cap + 1))]) hx hb hts inJx4a65c tyJx4a65c tyJx4a65c_ok nmJx4a65c hown hK hP hD hS h_al rfl 2 (by decide) (hts _ k_169) (fun _ h9 => h9) rfl (by decide +kernel) rfl rfl (Nat.le_of_ble_eq_true rfl) rfl dJx4a65c_add_7a177_61 (fun g H locs h_al hu hP hD hS => ?_)
    have h_x := h_x.up hu hxA
    have h_nd := h_nd.up hu (Ne.symm hAD)
    have hfr := hfr.up hu (by simp)
    exact o_rv hf hr hlocks hK hP hD hS (show 0 + 1 ≤ 1 by omega) (show 0 + ((cap + cap / 2)) ≤ (cap + cap / 2) by omega) ⟨_, _, ⟨va_up_self _ _ _, fun j hj => by rw [va_up_ne _ _ (by omega), pk_cpy_out (by omega), pk_cpy_in (by omega) (by omega)]; exact congrArg f (by omega), fun j h1 h2 => by rw [va_up_ne _ _ (by omega), pk_cpy_in (by omega) (by omega), pk_cpy_in (by omega) (by omega)]; exact congrArg f (by omega)⟩, hfr, h_al, h_nd⟩ dJx4a65c_add_7a177_64
set_option maxHeartbeats 1000000 in
set_option maxRecDepth 100000 in
theorem a_atN (l : Launch) (D : va_G) (z : Nat → Nat) (cB cI_ cO : ClassId) (L0 : List Nat) (g0 : hG) (al tA tD : Nat) (mc : Int32) (tx x cx : Nat) (rx : vw_C) (fsx : List Value) (d cap sz i : Nat) (f : Nat → Option Nat) (h_al : ho L0 g0 al tA (.inr (0, [.int mc, .ref d, .int (nI sz)]))) (h_d : ho L0 g0 d tD (.inl (cO, cap, .inr (.inr (.inr (.inr f)))))) (h_x : ho L0 g0 x tx (.inr (cx, fsx))) (hAD : tA ≠ tD) (hxA : tx ≠ tA) (hxD : tx ≠ tD) (hi : i ≤ sz) (hsz : sz < cap) (hc9 : cap ≤ 60000) (hcx : vcl[cx]? = some rx) (hca : ∀ s : State, zB z s → va_Nw (.castable rx.1 "java/lang/Object") s) (hel : ∀ i, i < sz → ∀ y, f i = some y → ∃ fs, ho L0 g0 y tx (.inr (cx, fs))) : eV l D yJx4a65c_add_7a177 cJx4a65c_add_7a177 5 none 5 107 0 0 [.ref al, .int (nI i), .ref x] z cB cI_ cO L0 g0 (fun L g => ∃ (d1 : Nat) (f1 : Nat → Option Nat), (f1 i = some x ∧ (∀ j, j < i → f1 j = f j) ∧ ∀ j, i ≤ j → j < sz → f1 (j + 1) = f j) ∧ fr [tA, tD] L0 g0 L g ∧ ho L g al tA (.inr (0, [.int (mc + 1), .ref d1, .int (nI (sz + 1))])) ∧ ho L g d1 tD (.inl (cO, cap, .inr (.inr (.inr (.inr f1)))))) := by
  refine o_sv (by decide) (Nat.le_of_ble_eq_true rfl) ?_
  intro p e s m below meth c A ls hf hr hlocks hin hK hP hD hS hA hZ hN hl
  obtain ⟨hx, hb, hml, hown, hts⟩ := id hf
  have hl : lv_has ls 5 [(0, .ref al), (1, .int (nI i)), (2, .ref x)] := hl
  have hfr : fr [tA, tD] L0 g0 L0 g0 := fr.rf
  refine lv_aload_n hx hb dJx4a65c_add_7a177_0 rfl (lv_at hl 0 rfl) ?_
  refine lv_iload_n hx hb dJx4a65c_add_7a177_1 rfl (lv_at hl 1 rfl) ?_
  refine o_cvs (k := 0) (n := 0) hK hP hD hS hA (o_rV (As := [.int (nI i)]) (rest := []) hf (a_rck _ _ _ _ _ _ _ _ al tA tD mc d sz i h_al (by omega) (by omega) _) k_720 k_717 k_719 k_21 k_89 (nA := 1) (by decide +kernel) ⟨Nat.le_of_ble_eq_true rfl, Nat.le_of_ble_eq_true rfl⟩ hK hP hD hS hA hZ hN h_al rfl rfl rfl hl.1 rfl (Nat.le_of_ble_eq_true rfl) dJx4a65c_add_7a177_2 ⟨(show 0 + 0 ≤ 0 by omega), (show 0 + 0 ≤ 0 by omega)⟩) (Nat.le_refl _) (Nat.le_refl _) (fun H locs hw hP hD hS => ?_)
  obtain _ := hw
  refine lv_aload_n hx hb dJx4a65c_add_7a177_5 rfl (lv_at hl 0 rfl) ?_
  refine lv_dup hx hb dJx4a65c_add_7a177_6 rfl ?_
  refine o_get (D := D) (ci := 0) (v := .int mc) (C := RJx4a65c) (T := TJx4a65c) (N := 3) hx hb hts inJx4a65c hown hK hP h_al rfl 0 (by decide) (hts _ k_171) (u_same (hts _ k_172)) rfl dJx4a65c_add_7a177_7 ?_
  refine lv_iconst (v := 1) hx hb dJx4a65c_add_7a177_10 (by decide) ?_
  refine lv_iadd hx hb dJx4a65c_add_7a177_11 ?_
  refine o_put (D := D) (ci := 0) (v := .int (mc + 1)) (ty := .int) (C := RJx4a65c) (T := TJx4a65c) (N := 3) (fs1 := [.int (mc + 1), .ref d, .int (nI sz)]) hx hb hts inJx4a65c tyJx4a65c tyJx4a65c_ok nmJx4a65c hown hK hP hD hS h_al rfl 0 (by decide) (hts _ k_171) (u_same (hts _ k_172)) rfl (by decide +kernel) rfl rfl (Nat.le_of_ble_eq_true rfl) rfl dJx4a65c_add_7a177_12 (fun g H locs h_al hu hP hD hS => ?_)
  have h_d := h_d.up hu (Ne.symm hAD)
  have h_x := h_x.up hu hxA
  have hfr := hfr.up hu (by simp)
  refine lv_aload_n hx hb dJx4a65c_add_7a177_15 rfl (lv_at hl 0 rfl) ?_
  refine o_get (D := D) (ci := 0) (v := .int (nI sz)) (C := RJx4a65c) (T := TJx4a65c) (N := 3) hx hb hts inJx4a65c hown hK hP h_al rfl 2 (by decide) (hts _ k_169) (fun _ h9 => h9) rfl dJx4a65c_add_7a177_16 ?_
  refine lv_dup hx hb dJx4a65c_add_7a177_19 rfl ?_
  refine lv_istore_n (lv' := [(3, .int (nI sz)), (0, .ref al), (1, .int (nI i)), (2, .ref x)]) hx hb dJx4a65c_add_7a177_20 rfl hl (by decide) rfl (fun ls hl => ?_)
  refine lv_aload_n hx hb dJx4a65c_add_7a177_21 rfl (lv_at hl 1 rfl) ?_
  refine o_get (D := D) (ci := 0) (v := .ref d) (C := RJx4a65c) (T := TJx4a65c) (N := 3) hx hb hts inJx4a65c hown hK hP h_al rfl 1 (by decide) (hts _ k_168) (fun _ h9 => h9) rfl dJx4a65c_add_7a177_22 ?_
  refine lv_dup hx hb dJx4a65c_add_7a177_25 rfl ?_
  refine lv_astore (lv' := [(4, .ref d), (3, .int (nI sz)), (0, .ref al), (1, .int (nI i)), (2, .ref x)]) hx hb dJx4a65c_add_7a177_26 hl (by decide) rfl (fun ls hl => ?_)
  refine o_lenq hx hb hK hP h_d dJx4a65c_add_7a177_28 ?_
  refine lv_icmp_ne (tgt := 38) hx hb dJx4a65c_add_7a177_29 (by decide) (fun c_1 => ?_) (fun c_1 => ?_)
  · have c_1 := q_nen (a := sz) (b := cap) (by omega) (by omega) c_1
    refine lv_aload hx hb dJx4a65c_add_7a177_38 (lv_at hl 0 rfl) ?_
    refine lv_iload_n hx hb dJx4a65c_add_7a177_40 rfl (lv_at hl 3 rfl) ?_
    refine lv_aload hx hb dJx4a65c_add_7a177_41 (lv_at hl 0 rfl) ?_
    refine lv_iload_n hx hb dJx4a65c_add_7a177_43 rfl (lv_at hl 3 rfl) ?_
    refine lv_iconst (v := 1) hx hb dJx4a65c_add_7a177_44 (by decide) ?_
    refine lv_iadd hx hb dJx4a65c_add_7a177_45 ?_
    refine q_seti (y := nI (i + 1)) (nI_addE (a := i) (b := 1) (by omega)) ?_
    refine lv_iload_n hx hb dJx4a65c_add_7a177_46 rfl (lv_at hl 1 rfl) ?_
    refine lv_iload_n hx hb dJx4a65c_add_7a177_47 rfl (lv_at hl 3 rfl) ?_
    refine lv_isub hx hb dJx4a65c_add_7a177_48 ?_
    refine q_seti (y := nI (sz - i)) (nI_subE (a := sz) (b := i) (by omega) (by omega)) ?_
    refine q_eq (pc := 49) (st := (.int (nI (sz - i)) :: .int (nI (i + 1)) :: .ref d :: .int (nI i) :: .ref d :: [])) rfl ?_
    refine o_cpyq (sp := i) (dp := i + 1) (n := sz - i) hx hb (by rw [hml]; exact hl.1.symm) hown (hts _ k_712) (hts _ k_660) (hts _ k_659) (hts _ k_105) hK hP hD hS h_d h_d (by omega) (by omega) (by omega) (by omega) (fun j hj y hy => by obtain ⟨fs, h9⟩ := hel _ (by omega) y hy; exact o_any hK hP (h9.fr hfr (by simp [hxA, hxD])) hcx (hca _ hN)) (Nat.le_of_ble_eq_true rfl) (Nat.le_of_ble_eq_true rfl) dJx4a65c_add_7a177_49 (fun g H locs h_d hu hP hD hS => ?_)
    have h_al := h_al.up hu hAD
    have h_x := h_x.up hu hxD
    have hfr := hfr.up hu (by simp)
    refine lv_aload hx hb dJx4a65c_add_7a177_52 (lv_at hl 0 rfl) ?_
    refine lv_iload_n hx hb dJx4a65c_add_7a177_54 rfl (lv_at hl 3 rfl) ?_
    refine lv_aload_n hx hb dJx4a65c_add_7a177_55 rfl (lv_at hl 4 rfl) ?_
    refine o_ast (X := i) hx hb hK hP hD hS h_d h_x hcx (hca _ hN) (by omega) (by omega) dJx4a65c_add_7a177_56 (fun g H locs h_d hu hP hD hS => ?_)
    have h_al := h_al.up hu hAD
    have h_x := h_x.up hu hxD
    have hfr := hfr.up hu (by simp)
    refine lv_aload_n hx hb dJx4a65c_add_7a177_57 rfl (lv_at hl 2 rfl) ?_
    refine lv_iload_n hx hb dJx4a65c_add_7a177_58 rfl (lv_at hl 1 rfl) ?_
    refine lv_iconst (v := 1) hx hb dJx4a65c_add_7a177_59 (by decide) ?_
    refine lv_iadd hx hb dJx4a65c_add_7a177_60 ?_
    refine q_seti (y := nI (sz + 1)) (nI_addE (a := sz) (b := 1) (by omega)) ?_
    refine o_put (D := D) (ci := 0) (v := .int (nI (sz + 1))) (ty := .int) (C := RJx4a65c) (T := TJx4a65c) (N := 3) (fs1 := [.int (mc + 1), .ref d, .int (nI (sz + 1))]) hx hb hts inJx4a65c tyJx4a65c tyJx4a65c_ok nmJx4a65c hown hK hP hD hS h_al rfl 2 (by decide) (hts _ k_169) (fun _ h9 => h9) rfl (by decide +kernel) rfl rfl (Nat.le_of_ble_eq_true rfl) rfl dJx4a65c_add_7a177_61 (fun g H locs h_al hu hP hD hS => ?_)
    have h_d := h_d.up hu (Ne.symm hAD)
    have h_x := h_x.up hu hxA
    have hfr := hfr.up hu (by simp)
    exact o_rv hf hr hlocks hK hP hD hS (show 0 ≤ 0 by omega) (show 0 ≤ 0 by omega) ⟨_, _, ⟨va_up_self _ _ _, fun j hj => by rw [va_up_ne _ _ (by omega), pk_cpy_out (by omega)], fun j h1 h2 => by rw [va_up_ne _ _ (by omega), pk_cpy_in (by omega) (by omega)]; exact congrArg f (by omega)⟩, hfr, h_al, h_d⟩ dJx4a65c_add_7a177_64
  · have c_1 := q_eqn (a := sz) (b := cap) (by omega) (by omega) c_1
    exact False.elim (by omega)
set_option maxHeartbeats 1000000 in
set_option maxRecDepth 100000 in
theorem a_frm (l : Launch) (D : va_G) (z : Nat → Nat) (cB cI_ cO : ClassId) (L0 : List Nat) (g0 : hG) (al tA tD : Nat) (mc : Int32) (tx cx : Nat) (rx : vw_C) (d cap sz i : Nat) (f : Nat → Option Nat) (h_al : ho L0 g0 al tA (.inr (0, [.int mc, .ref d, .int (nI sz)]))) (h_d : ho L0 g0 d tD (.inl (cO, cap, .inr (.inr (.inr (.inr f)))))) (hAD : tA ≠ tD) (hxA : tx ≠ tA) (hxD : tx ≠ tD) (hi : i < sz) (hsc : sz ≤ cap) (hc9 : cap ≤ 60000) (hcx : vcl[cx]? = some rx) (hca : ∀ s : State, zB z s → va_Nw (.castable rx.1 "java/lang/Object") s) (hel : ∀ i, i < sz → ∀ y, f i = some y → ∃ fs, ho L0 g0 y tx (.inr (cx, fs))) : eV l D yJx4a65c_fastRemove_b59b0 cJx4a65c_fastRemove_b59b0 4 none 1 20 0 0 [.ref al, .ref d, .int (nI i)] z cB cI_ cO L0 g0 (fun L g => ∃ (f1 : Nat → Option Nat), ((∀ j, j < i → f1 j = f j) ∧ ∀ j, i ≤ j → j + 1 < sz → f1 j = f (j + 1)) ∧ fr [tA, tD] L0 g0 L g ∧ ho L g al tA (.inr (0, [.int (mc + 1), .ref d, .int (nI (sz - 1))])) ∧ ho L g d tD (.inl (cO, cap, .inr (.inr (.inr (.inr f1)))))) := by
  refine o_sv (by decide) (Nat.le_of_ble_eq_true rfl) ?_
  intro p e s m below meth c A ls hf hr hlocks hin hK hP hD hS hA hZ hN hl
  obtain ⟨hx, hb, hml, hown, hts⟩ := id hf
  have hl : lv_has ls 4 [(0, .ref al), (1, .ref d), (2, .int (nI i))] := hl
  have hfr : fr [tA, tD] L0 g0 L0 g0 := fr.rf
  refine lv_aload_n hx hb dJx4a65c_fastRemove_b59b0_0 rfl (lv_at hl 0 rfl) ?_
  refine lv_dup hx hb dJx4a65c_fastRemove_b59b0_1 rfl ?_
  refine o_get (D := D) (ci := 0) (v := .int mc) (C := RJx4a65c) (T := TJx4a65c) (N := 3) hx hb hts inJx4a65c hown hK hP h_al rfl 0 (by decide) (hts _ k_171) (u_same (hts _ k_172)) rfl dJx4a65c_fastRemove_b59b0_2 ?_
  refine lv_iconst (v := 1) hx hb dJx4a65c_fastRemove_b59b0_5 (by decide) ?_
  refine lv_iadd hx hb dJx4a65c_fastRemove_b59b0_6 ?_
  refine o_put (D := D) (ci := 0) (v := .int (mc + 1)) (ty := .int) (C := RJx4a65c) (T := TJx4a65c) (N := 3) (fs1 := [.int (mc + 1), .ref d, .int (nI sz)]) hx hb hts inJx4a65c tyJx4a65c tyJx4a65c_ok nmJx4a65c hown hK hP hD hS h_al rfl 0 (by decide) (hts _ k_171) (u_same (hts _ k_172)) rfl (by decide +kernel) rfl rfl (Nat.le_of_ble_eq_true rfl) rfl dJx4a65c_fastRemove_b59b0_7 (fun g H locs h_al hu hP hD hS => ?_)
  have h_d := h_d.up hu (Ne.symm hAD)
  have hfr := hfr.up hu (by simp)
  refine lv_aload_n hx hb dJx4a65c_fastRemove_b59b0_10 rfl (lv_at hl 0 rfl) ?_
  refine o_get (D := D) (ci := 0) (v := .int (nI sz)) (C := RJx4a65c) (T := TJx4a65c) (N := 3) hx hb hts inJx4a65c hown hK hP h_al rfl 2 (by decide) (hts _ k_169) (fun _ h9 => h9) rfl dJx4a65c_fastRemove_b59b0_11 ?_
  refine lv_iconst (v := 1) hx hb dJx4a65c_fastRemove_b59b0_14 (by decide) ?_
  refine lv_isub hx hb dJx4a65c_fastRemove_b59b0_15 ?_
  refine q_seti (y := nI (sz - 1)) (nI_subE (a := sz) (b := 1) (by omega) (by omega)) ?_
  refine lv_dup hx hb dJx4a65c_fastRemove_b59b0_16 rfl ?_
  refine lv_istore_n (lv' := [(3, .int (nI (sz - 1))), (0, .ref al), (1, .ref d), (2, .int (nI i))]) hx hb dJx4a65c_fastRemove_b59b0_17 rfl hl (by decide) rfl (fun ls hl => ?_)
  refine lv_iload_n hx hb dJx4a65c_fastRemove_b59b0_18 rfl (lv_at hl 3 rfl) ?_
  refine lv_icmp_le (tgt := 34) hx hb dJx4a65c_fastRemove_b59b0_19 (by decide) (fun c_1 => ?_) (fun c_1 => ?_)
  · have c_1 := q_le (a := sz - 1) (b := i) (by omega) (by omega) c_1
    refine lv_aload_n hx hb dJx4a65c_fastRemove_b59b0_34 rfl (lv_at hl 2 rfl) ?_
    refine lv_aload_n hx hb dJx4a65c_fastRemove_b59b0_35 rfl (lv_at hl 1 rfl) ?_
    refine lv_iload_n hx hb dJx4a65c_fastRemove_b59b0_36 rfl (lv_at hl 0 rfl) ?_
    refine lv_dup_x1 hx hb dJx4a65c_fastRemove_b59b0_37 rfl rfl ?_
    refine o_put (D := D) (ci := 0) (v := .int (nI (sz - 1))) (ty := .int) (C := RJx4a65c) (T := TJx4a65c) (N := 3) (fs1 := [.int (mc + 1), .ref d, .int (nI (sz - 1))]) hx hb hts inJx4a65c tyJx4a65c tyJx4a65c_ok nmJx4a65c hown hK hP hD hS h_al rfl 2 (by decide) (hts _ k_169) (fun _ h9 => h9) rfl (by decide +kernel) rfl rfl (Nat.le_of_ble_eq_true rfl) rfl dJx4a65c_fastRemove_b59b0_38 (fun g H locs h_al hu hP hD hS => ?_)
    have h_d := h_d.up hu (Ne.symm hAD)
    have hfr := hfr.up hu (by simp)
    refine lv_null hx hb dJx4a65c_fastRemove_b59b0_41 ?_
    refine o_astN (X := sz - 1) hx hb hK hP hD hS h_d (by omega) (by omega) dJx4a65c_fastRemove_b59b0_42 (fun g H locs h_d hu hP hD hS => ?_)
    have h_al := h_al.up hu hAD
    have hfr := hfr.up hu (by simp)
    exact o_rv hf hr hlocks hK hP hD hS (show 0 ≤ 0 by omega) (show 0 ≤ 0 by omega) ⟨_, ⟨fun j hj => by rw [va_up_ne _ _ (by omega)], fun j h1 h2 => absurd h2 (by omega)⟩, hfr, h_al, h_d⟩ dJx4a65c_fastRemove_b59b0_43
  · have c_1 := q_nle (a := sz - 1) (b := i) (by omega) (by omega) c_1
    refine lv_aload_n hx hb dJx4a65c_fastRemove_b59b0_22 rfl (lv_at hl 2 rfl) ?_
    refine lv_iload_n hx hb dJx4a65c_fastRemove_b59b0_23 rfl (lv_at hl 3 rfl) ?_
    refine lv_iconst (v := 1) hx hb dJx4a65c_fastRemove_b59b0_24 (by decide) ?_
    refine lv_iadd hx hb dJx4a65c_fastRemove_b59b0_25 ?_
    refine q_seti (y := nI (i + 1)) (nI_addE (a := i) (b := 1) (by omega)) ?_
    refine lv_aload_n hx hb dJx4a65c_fastRemove_b59b0_26 rfl (lv_at hl 2 rfl) ?_
    refine lv_iload_n hx hb dJx4a65c_fastRemove_b59b0_27 rfl (lv_at hl 3 rfl) ?_
    refine lv_iload_n hx hb dJx4a65c_fastRemove_b59b0_28 rfl (lv_at hl 0 rfl) ?_
    refine lv_iload_n hx hb dJx4a65c_fastRemove_b59b0_29 rfl (lv_at hl 3 rfl) ?_
    refine lv_isub hx hb dJx4a65c_fastRemove_b59b0_30 ?_
    refine q_seti (y := nI (sz - i - 1)) (nI_subE (a := sz - 1) (b := i) (by omega) (by omega)) ?_
    refine q_eq (pc := 31) (st := (.int (nI (sz - i - 1)) :: .int (nI i) :: .ref d :: .int (nI (i + 1)) :: .ref d :: [])) rfl ?_
    refine o_cpyq (sp := i + 1) (dp := i) (n := sz - i - 1) hx hb (by rw [hml]; exact hl.1.symm) hown (hts _ k_712) (hts _ k_660) (hts _ k_659) (hts _ k_105) hK hP hD hS h_d h_d (by omega) (by omega) (by omega) (by omega) (fun j hj y hy => by obtain ⟨fs, h9⟩ := hel _ (by omega) y hy; exact o_any hK hP (h9.fr hfr (by simp [hxA, hxD])) hcx (hca _ hN)) (Nat.le_of_ble_eq_true rfl) (Nat.le_of_ble_eq_true rfl) dJx4a65c_fastRemove_b59b0_31 (fun g H locs h_d hu hP hD hS => ?_)
    have h_al := h_al.up hu hAD
    have hfr := hfr.up hu (by simp)
    refine lv_aload_n hx hb dJx4a65c_fastRemove_b59b0_34 rfl (lv_at hl 2 rfl) ?_
    refine lv_aload_n hx hb dJx4a65c_fastRemove_b59b0_35 rfl (lv_at hl 1 rfl) ?_
    refine lv_iload_n hx hb dJx4a65c_fastRemove_b59b0_36 rfl (lv_at hl 0 rfl) ?_
    refine lv_dup_x1 hx hb dJx4a65c_fastRemove_b59b0_37 rfl rfl ?_
    refine o_put (D := D) (ci := 0) (v := .int (nI (sz - 1))) (ty := .int) (C := RJx4a65c) (T := TJx4a65c) (N := 3) (fs1 := [.int (mc + 1), .ref d, .int (nI (sz - 1))]) hx hb hts inJx4a65c tyJx4a65c tyJx4a65c_ok nmJx4a65c hown hK hP hD hS h_al rfl 2 (by decide) (hts _ k_169) (fun _ h9 => h9) rfl (by decide +kernel) rfl rfl (Nat.le_of_ble_eq_true rfl) rfl dJx4a65c_fastRemove_b59b0_38 (fun g H locs h_al hu hP hD hS => ?_)
    have h_d := h_d.up hu (Ne.symm hAD)
    have hfr := hfr.up hu (by simp)
    refine lv_null hx hb dJx4a65c_fastRemove_b59b0_41 ?_
    refine o_astN (X := sz - 1) hx hb hK hP hD hS h_d (by omega) (by omega) dJx4a65c_fastRemove_b59b0_42 (fun g H locs h_d hu hP hD hS => ?_)
    have h_al := h_al.up hu hAD
    have hfr := hfr.up hu (by simp)
    exact o_rv hf hr hlocks hK hP hD hS (show 0 ≤ 0 by omega) (show 0 ≤ 0 by omega) ⟨_, ⟨fun j hj => by rw [va_up_ne _ _ (by omega), pk_cpy_out (by omega)], fun j h1 h2 => by rw [va_up_ne _ _ (by omega), pk_cpy_in (by omega) (by omega)]; exact congrArg f (by omega)⟩, hfr, h_al, h_d⟩ dJx4a65c_fastRemove_b59b0_43
set_option maxHeartbeats 1000000 in
set_option maxRecDepth 100000 in
theorem a_rm (l : Launch) (D : va_G) (z : Nat → Nat) (cB cI_ cO : ClassId) (L0 : List Nat) (g0 : hG) (al tA tD : Nat) (mc : Int32) (tx cx : Nat) (rx : vw_C) (d cap sz i : Nat) (f : Nat → Option Nat) (x : Nat) (h_al : ho L0 g0 al tA (.inr (0, [.int mc, .ref d, .int (nI sz)]))) (h_d : ho L0 g0 d tD (.inl (cO, cap, .inr (.inr (.inr (.inr f)))))) (hAD : tA ≠ tD) (hxA : tx ≠ tA) (hxD : tx ≠ tD) (hi : i < sz) (hsc : sz ≤ cap) (hc9 : cap ≤ 60000) (hcx : vcl[cx]? = some rx) (hca : ∀ s : State, zB z s → va_Nw (.castable rx.1 "java/lang/Object") s) (hel : ∀ i, i < sz → ∀ y, f i = some y → ∃ fs, ho L0 g0 y tx (.inr (cx, fs))) (hfx : f i = some x) : eR l D yJx4a65c_remove_915e3 cJx4a65c_remove_915e3 4 (some (.object "java/lang/Object")) 2 43 0 0 [.ref al, .int (nI i)] z cB cI_ cO L0 g0 (fun r L g => r = x ∧ ∃ (f1 : Nat → Option Nat), ((∀ j, j < i → f1 j = f j) ∧ ∀ j, i ≤ j → j + 1 < sz → f1 j = f (j + 1)) ∧ fr [tA, tD] L0 g0 L g ∧ ho L g al tA (.inr (0, [.int (mc + 1), .ref d, .int (nI (sz - 1))])) ∧ ho L g d tD (.inl (cO, cap, .inr (.inr (.inr (.inr f1)))))) := by
  refine o_sr (by decide) (Nat.le_of_ble_eq_true rfl) ?_
  intro p e s m below meth c A ls hf hr hlocks hin hK hP hD hS hA hZ hN hl
  obtain ⟨hx, hb, hml, hown, hts⟩ := id hf
  have hl : lv_has ls 4 [(0, .ref al), (1, .int (nI i))] := hl
  have hfr : fr [tA, tD] L0 g0 L0 g0 := fr.rf
  refine lv_iload_n hx hb dJx4a65c_remove_915e3_0 rfl (lv_at hl 1 rfl) ?_
  refine lv_aload_n hx hb dJx4a65c_remove_915e3_1 rfl (lv_at hl 0 rfl) ?_
  refine o_get (D := D) (ci := 0) (v := .int (nI sz)) (C := RJx4a65c) (T := TJx4a65c) (N := 3) hx hb hts inJx4a65c hown hK hP h_al rfl 2 (by decide) (hts _ k_169) (fun _ h9 => h9) rfl dJx4a65c_remove_915e3_2 ?_
  refine o_cis (k := 0) (n := 0) hK hP hD hS hA (o_rS (As := [.int (nI i), .int (nI sz)]) (rest := []) hf (k_cko _ _ _ _ _ _ _ _ i sz (by omega) (by omega) _) k_678 k_676 k_677 k_106 (nA := 2) (by decide +kernel) ⟨Nat.le_of_ble_eq_true rfl, Nat.le_of_ble_eq_true rfl⟩ hK hP hD hS hA hZ hN rfl hl.1 rfl (Nat.le_of_ble_eq_true rfl) dJx4a65c_remove_915e3_5 ⟨(show 0 + 0 ≤ 0 by omega), (show 0 + 0 ≤ 0 by omega)⟩) (Nat.le_refl _) (Nat.le_refl _) (fun r H locs hw hP hD hS => ?_)
  obtain rfl := hw
  refine lv_pop hx hb dJx4a65c_remove_915e3_8 rfl ?_
  refine lv_aload_n hx hb dJx4a65c_remove_915e3_9 rfl (lv_at hl 0 rfl) ?_
  refine o_get (D := D) (ci := 0) (v := .ref d) (C := RJx4a65c) (T := TJx4a65c) (N := 3) hx hb hts inJx4a65c hown hK hP h_al rfl 1 (by decide) (hts _ k_168) (fun _ h9 => h9) rfl dJx4a65c_remove_915e3_10 ?_
  refine lv_astore_n (lv' := [(2, .ref d), (0, .ref al), (1, .int (nI i))]) hx hb dJx4a65c_remove_915e3_13 rfl hl (by decide) rfl (fun ls hl => ?_)
  refine lv_aload_n hx hb dJx4a65c_remove_915e3_14 rfl (lv_at hl 0 rfl) ?_
  refine lv_iload_n hx hb dJx4a65c_remove_915e3_15 rfl (lv_at hl 2 rfl) ?_
  refine o_ald (X := i) hx hb hK hP h_d (by omega) (by omega) hfx dJx4a65c_remove_915e3_16 ?_
  refine lv_astore_n (lv' := [(3, .ref x), (2, .ref d), (0, .ref al), (1, .int (nI i))]) hx hb dJx4a65c_remove_915e3_17 rfl hl (by decide) rfl (fun ls hl => ?_)
  refine lv_aload_n hx hb dJx4a65c_remove_915e3_18 rfl (lv_at hl 2 rfl) ?_
  refine lv_aload_n hx hb dJx4a65c_remove_915e3_19 rfl (lv_at hl 1 rfl) ?_
  refine lv_iload_n hx hb dJx4a65c_remove_915e3_20 rfl (lv_at hl 3 rfl) ?_
  refine o_cv (k := 0) (n := 0) hK hP hD hS hA (o_rV (As := [.ref d, .int (nI i)]) (rest := []) hf (a_frm _ _ _ _ _ _ _ _ al tA tD mc tx cx rx d cap sz i f h_al h_d hAD hxA hxD hi hsc hc9 hcx hca hel _) k_711 k_708 k_710 k_20 k_89 (nA := 2) (by decide +kernel) ⟨Nat.le_of_ble_eq_true rfl, Nat.le_of_ble_eq_true rfl⟩ hK hP hD hS hA hZ hN h_al rfl rfl rfl hl.1 rfl (Nat.le_of_ble_eq_true rfl) dJx4a65c_remove_915e3_21 ⟨(show 0 + 0 ≤ 0 by omega), (show 0 + 0 ≤ 0 by omega)⟩) (Nat.le_refl _) (Nat.le_refl _) (fun L g H locs hw hP hD hS => ?_)
  obtain ⟨f1, hf1, hf9, h_al, h_d⟩ := hw
  have hfr := hfr.tr hf9
  refine lv_aload_n hx hb dJx4a65c_remove_915e3_24 rfl (lv_at hl 0 rfl) ?_
  exact o_rr hf hr (Or.inl ⟨_, rfl⟩) hlocks hK hP hD hS (show 0 ≤ 0 by omega) (show 0 ≤ 0 by omega) ⟨rfl, f1, hf1, hfr, h_al, h_d⟩ dJx4a65c_remove_915e3_25
set_option maxHeartbeats 1000000 in
set_option maxRecDepth 100000 in
theorem ac_loop {p : Program} {l : Launch} {e : Env} {R : Room} {s : State} {m : MethodId} {args : Array Value} {below : List Frame} {meth : Method} {c : Code} {Q : State → Prop} {D : va_G} {A : Nat → Prop} {z : Nat → Nat} {cB cI_ cO : ClassId} {L0 : List Nat} {g0 : hG} {al tA tD d cap sz : Nat} {mc : Int32} (hAD : tA ≠ tD) (hsc : sz ≤ cap) (hc9 : cap ≤ 60000) (hRf : 0 ≤ R.frames) (hRl : 0 ≤ R.locals) (hA : ∀ q : Nat, s.heap.size ≤ q → A q) (hf : CallFix p m c cJx4a65c_clear_da8c8 4 s args gT yJx4a65c_clear_da8c8.cls) (hK : va_K D vcl (dT cB cI_ cO) s) (hZ : zA z A s s.heap) (hN : zB z s) :
    ∀ (k : Nat) (i : Nat) (f : Nat → Option Nat) (cells slots : Nat) (L : List Nat) (g : hG) (H : Heap) (locs : List Loc) (ls : Array Slot), i + k = sz → cells ≤ R.cells → slots ≤ R.slots → ho L g al tA (.inr (0, [.int mc, .ref d, .int 0])) → ho L g d tD (.inl (cO, cap, .inr (.inr (.inr (.inr f))))) → fr [tA, tD] L0 g0 L g → va_P D vcl (dW L g) H → va_D A (dW L g) → va_S A s.heap H locs → lv_has ls 4 [(3, .int (nI i)), (2, .int (nI sz)), (1, .ref d), (0, .ref al)] →
    (∀ (f1 : Nat → Option Nat)  (L : List Nat) (g : hG) (H : Heap) (locs : List Loc) (ls : Array Slot), ho L g al tA (.inr (0, [.int mc, .ref d, .int 0])) → ho L g d tD (.inl (cO, cap, .inr (.inr (.inr (.inr f1))))) → fr [tA, tD] L0 g0 L g → va_P D vcl (dW L g) H → va_D A (dW L g) → va_S A s.heap H locs → lv_has ls 4 [(0, .ref al)] → W p l e R s m args below meth c H locs cells slots Q (F0 m 42 ls [])) →
    W p l e R s m args below meth c H locs cells slots Q (F0 m 27 ls []) := by
  obtain ⟨hx, hb, hml, hown, hts⟩ := id hf
  intro k
  induction k with
  | zero =>
    intro i f cells slots L g H locs ls hik hRc hRs h_al h_d hfr hP hD hS hl kk
    refine lv_iload_n hx hb dJx4a65c_clear_da8c8_27 rfl (lv_at hl 0 rfl) ?_
    refine lv_iload_n hx hb dJx4a65c_clear_da8c8_28 rfl (lv_at hl 1 rfl) ?_
    refine lv_icmp_ge (tgt := 42) hx hb dJx4a65c_clear_da8c8_29 (by decide) (fun c_1 => ?_) (fun c_1 => ?_)
    · have c_1 := q_le (a := sz) (b := i) (by omega) (by omega) c_1
      exact kk f _ _ H locs ls h_al h_d hfr hP hD hS (lv_sub hl (l' := [(0, .ref al)]) [3] rfl)
    · have c_1 := q_nle (a := sz) (b := i) (by omega) (by omega) c_1
      exact False.elim (by omega)
  | succ k ih =>
    intro i f cells slots L g H locs ls hik hRc hRs h_al h_d hfr hP hD hS hl kk
    refine lv_iload_n hx hb dJx4a65c_clear_da8c8_27 rfl (lv_at hl 0 rfl) ?_
    refine lv_iload_n hx hb dJx4a65c_clear_da8c8_28 rfl (lv_at hl 1 rfl) ?_
    refine lv_icmp_ge (tgt := 42) hx hb dJx4a65c_clear_da8c8_29 (by decide) (fun c_1 => ?_) (fun c_1 => ?_)
    · have c_1 := q_le (a := sz) (b := i) (by omega) (by omega) c_1
      exact False.elim (by omega)
    · have c_1 := q_nle (a := sz) (b := i) (by omega) (by omega) c_1
      refine lv_aload_n hx hb dJx4a65c_clear_da8c8_32 rfl (lv_at hl 2 rfl) ?_
      refine lv_iload_n hx hb dJx4a65c_clear_da8c8_33 rfl (lv_at hl 0 rfl) ?_
      refine lv_null hx hb dJx4a65c_clear_da8c8_34 ?_
      refine o_astN (X := i) hx hb hK hP hD hS h_d (by omega) (by omega) dJx4a65c_clear_da8c8_35 (fun g H locs h_d hu hP hD hS => ?_)
      have h_al := h_al.up hu hAD
      have hfr := hfr.up hu (by simp)
      refine lv_iinc (v := nI (i + 1)) (lv' := [(3, .int (nI (i + 1))), (2, .int (nI sz)), (1, .ref d), (0, .ref al)]) hx hb dJx4a65c_clear_da8c8_36 hl (k := 0) rfl (nI_addE (a := i) (b := 1) (by omega)) (by decide) rfl (fun ls hl => ?_)
      refine lv_goto (tgt := 27) hx hb dJx4a65c_clear_da8c8_39 (by decide) ?_
      exact ih (i + 1) _ cells slots _ _ H locs ls (by omega) hRc hRs h_al h_d hfr hP hD hS (lv_sub hl (l' := [(3, .int (nI (i + 1))), (2, .int (nI sz)), (1, .ref d), (0, .ref al)]) [0, 1, 2, 3] rfl) kk
set_option maxHeartbeats 1000000 in
set_option maxRecDepth 100000 in
theorem a_clrO (l : Launch) (D : va_G) (z : Nat → Nat) (cB cI_ cO : ClassId) (L0 : List Nat) (g0 : hG) (al tA tD : Nat) (mc : Int32) (d cap sz : Nat) (f : Nat → Option Nat) (h_al : ho L0 g0 al tA (.inr (0, [.int mc, .ref d, .int (nI sz)]))) (h_d : ho L0 g0 d tD (.inl (cO, cap, .inr (.inr (.inr (.inr f)))))) (hAD : tA ≠ tD) (hsc : sz ≤ cap) (hc9 : cap ≤ 60000) : eV l D yJx4a65c_clear_da8c8 cJx4a65c_clear_da8c8 4 none 0 0 0 0 [.ref al] z cB cI_ cO L0 g0 (fun L g => ∃ f1 : Nat → Option Nat, fr [tA, tD] L0 g0 L g ∧ ho L g al tA (.inr (0, [.int (mc + 1), .ref d, .int 0])) ∧ ho L g d tD (.inl (cO, cap, .inr (.inr (.inr (.inr f1)))))) := by
  refine o_sv (by decide) (Nat.le_of_ble_eq_true rfl) ?_
  intro p e s m below meth c A ls hf hr hlocks hin hK hP hD hS hA hZ hN hl
  obtain ⟨hx, hb, hml, hown, hts⟩ := id hf
  have hl : lv_has ls 4 [(0, .ref al)] := hl
  have hfr : fr [tA, tD] L0 g0 L0 g0 := fr.rf
  refine lv_aload_n hx hb dJx4a65c_clear_da8c8_0 rfl (lv_at hl 0 rfl) ?_
  refine lv_dup hx hb dJx4a65c_clear_da8c8_1 rfl ?_
  refine o_get (D := D) (ci := 0) (v := .int mc) (C := RJx4a65c) (T := TJx4a65c) (N := 3) hx hb hts inJx4a65c hown hK hP h_al rfl 0 (by decide) (hts _ k_171) (u_same (hts _ k_172)) rfl dJx4a65c_clear_da8c8_2 ?_
  refine lv_iconst (v := 1) hx hb dJx4a65c_clear_da8c8_5 (by decide) ?_
  refine lv_iadd hx hb dJx4a65c_clear_da8c8_6 ?_
  refine o_put (D := D) (ci := 0) (v := .int (mc + 1)) (ty := .int) (C := RJx4a65c) (T := TJx4a65c) (N := 3) (fs1 := [.int (mc + 1), .ref d, .int (nI sz)]) hx hb hts inJx4a65c tyJx4a65c tyJx4a65c_ok nmJx4a65c hown hK hP hD hS h_al rfl 0 (by decide) (hts _ k_171) (u_same (hts _ k_172)) rfl (by decide +kernel) rfl rfl (Nat.le_of_ble_eq_true rfl) rfl dJx4a65c_clear_da8c8_7 (fun g H locs h_al hu hP hD hS => ?_)
  have h_d := h_d.up hu (Ne.symm hAD)
  have hfr := hfr.up hu (by simp)
  refine lv_aload_n hx hb dJx4a65c_clear_da8c8_10 rfl (lv_at hl 0 rfl) ?_
  refine o_get (D := D) (ci := 0) (v := .ref d) (C := RJx4a65c) (T := TJx4a65c) (N := 3) hx hb hts inJx4a65c hown hK hP h_al rfl 1 (by decide) (hts _ k_168) (fun _ h9 => h9) rfl dJx4a65c_clear_da8c8_11 ?_
  refine lv_astore_n (lv' := [(1, .ref d), (0, .ref al)]) hx hb dJx4a65c_clear_da8c8_14 rfl hl (by decide) rfl (fun ls hl => ?_)
  refine lv_aload_n hx hb dJx4a65c_clear_da8c8_15 rfl (lv_at hl 1 rfl) ?_
  refine o_get (D := D) (ci := 0) (v := .int (nI sz)) (C := RJx4a65c) (T := TJx4a65c) (N := 3) hx hb hts inJx4a65c hown hK hP h_al rfl 2 (by decide) (hts _ k_169) (fun _ h9 => h9) rfl dJx4a65c_clear_da8c8_16 ?_
  refine lv_istore_n (lv' := [(2, .int (nI sz)), (1, .ref d), (0, .ref al)]) hx hb dJx4a65c_clear_da8c8_19 rfl hl (by decide) rfl (fun ls hl => ?_)
  refine lv_aload_n hx hb dJx4a65c_clear_da8c8_20 rfl (lv_at hl 2 rfl) ?_
  refine lv_iconst (v := 0) hx hb dJx4a65c_clear_da8c8_21 (by decide) ?_
  refine lv_dup_x1 hx hb dJx4a65c_clear_da8c8_22 rfl rfl ?_
  refine o_put (D := D) (ci := 0) (v := .int 0) (ty := .int) (C := RJx4a65c) (T := TJx4a65c) (N := 3) (fs1 := [.int (mc + 1), .ref d, .int 0]) hx hb hts inJx4a65c tyJx4a65c tyJx4a65c_ok nmJx4a65c hown hK hP hD hS h_al rfl 2 (by decide) (hts _ k_169) (fun _ h9 => h9) rfl (by decide +kernel) rfl rfl (Nat.le_of_ble_eq_true rfl) rfl dJx4a65c_clear_da8c8_23 (fun g H locs h_al hu hP hD hS => ?_)
  have h_d := h_d.up hu (Ne.symm hAD)
  have hfr := hfr.up hu (by simp)
  refine lv_istore_n (lv' := [(3, .int 0), (2, .int (nI sz)), (1, .ref d), (0, .ref al)]) hx hb dJx4a65c_clear_da8c8_26 rfl hl (by decide) rfl (fun ls hl => ?_)
  refine ac_loop (L0 := L0) (g0 := g0) (mc := (mc + 1)) (sz := sz) hAD hsc hc9 (Nat.le_of_ble_eq_true rfl) (Nat.le_of_ble_eq_true rfl) hA hf hK hZ hN sz 0 f 0 0 _ _ _ _ ls (by omega) (Nat.le_of_ble_eq_true rfl) (Nat.le_of_ble_eq_true rfl) h_al h_d hfr hP hD hS (lv_sub hl (l' := [(3, .int 0), (2, .int (nI sz)), (1, .ref d), (0, .ref al)]) [0, 1, 2, 3] rfl) (fun f1 L g H locs ls h_al h_d hfr hP hD hS hl => ?_)
  exact o_rv hf hr hlocks hK hP hD hS (show 0 ≤ 0 by omega) (show 0 ≤ 0 by omega) ⟨f1, hfr, h_al, h_d⟩ dJx4a65c_clear_da8c8_42
set_option maxHeartbeats 1000000 in
set_option maxRecDepth 100000 in
theorem a_clrV (l : Launch) (D : va_G) (z : Nat → Nat) (cB cI_ cO : ClassId) (L0 : List Nat) (g0 : hG) (al tA tD : Nat) (mc : Int32) (h_al : ho L0 g0 al tA (.inr (0, [.int mc, .ref (z 0), .int 0])))  : eV l D yJx4a65c_clear_da8c8 cJx4a65c_clear_da8c8 4 none 0 0 0 0 [.ref al] z cB cI_ cO L0 g0 (fun L g => fr [tA, tD] L0 g0 L g ∧ ho L g al tA (.inr (0, [.int (mc + 1), .ref (z 0), .int 0]))) := by
  refine o_sv (by decide) (Nat.le_of_ble_eq_true rfl) ?_
  intro p e s m below meth c A ls hf hr hlocks hin hK hP hD hS hA hZ hN hl
  obtain ⟨hx, hb, hml, hown, hts⟩ := id hf
  have hl : lv_has ls 4 [(0, .ref al)] := hl
  have hfr : fr [tA, tD] L0 g0 L0 g0 := fr.rf
  refine lv_aload_n hx hb dJx4a65c_clear_da8c8_0 rfl (lv_at hl 0 rfl) ?_
  refine lv_dup hx hb dJx4a65c_clear_da8c8_1 rfl ?_
  refine o_get (D := D) (ci := 0) (v := .int mc) (C := RJx4a65c) (T := TJx4a65c) (N := 3) hx hb hts inJx4a65c hown hK hP h_al rfl 0 (by decide) (hts _ k_171) (u_same (hts _ k_172)) rfl dJx4a65c_clear_da8c8_2 ?_
  refine lv_iconst (v := 1) hx hb dJx4a65c_clear_da8c8_5 (by decide) ?_
  refine lv_iadd hx hb dJx4a65c_clear_da8c8_6 ?_
  refine o_put (D := D) (ci := 0) (v := .int (mc + 1)) (ty := .int) (C := RJx4a65c) (T := TJx4a65c) (N := 3) (fs1 := [.int (mc + 1), .ref (z 0), .int 0]) hx hb hts inJx4a65c tyJx4a65c tyJx4a65c_ok nmJx4a65c hown hK hP hD hS h_al rfl 0 (by decide) (hts _ k_171) (u_same (hts _ k_172)) rfl (by decide +kernel) rfl rfl (Nat.le_of_ble_eq_true rfl) rfl dJx4a65c_clear_da8c8_7 (fun g H locs h_al hu hP hD hS => ?_)
  have hfr := hfr.up hu (by simp)
  refine lv_aload_n hx hb dJx4a65c_clear_da8c8_10 rfl (lv_at hl 0 rfl) ?_
  refine o_get (D := D) (ci := 0) (v := .ref (z 0)) (C := RJx4a65c) (T := TJx4a65c) (N := 3) hx hb hts inJx4a65c hown hK hP h_al rfl 1 (by decide) (hts _ k_168) (fun _ h9 => h9) rfl dJx4a65c_clear_da8c8_11 ?_
  refine lv_astore_n (lv' := [(1, .ref (z 0)), (0, .ref al)]) hx hb dJx4a65c_clear_da8c8_14 rfl hl (by decide) rfl (fun ls hl => ?_)
  refine lv_aload_n hx hb dJx4a65c_clear_da8c8_15 rfl (lv_at hl 1 rfl) ?_
  refine o_get (D := D) (ci := 0) (v := .int 0) (C := RJx4a65c) (T := TJx4a65c) (N := 3) hx hb hts inJx4a65c hown hK hP h_al rfl 2 (by decide) (hts _ k_169) (fun _ h9 => h9) rfl dJx4a65c_clear_da8c8_16 ?_
  refine lv_istore_n (lv' := [(2, .int 0), (1, .ref (z 0)), (0, .ref al)]) hx hb dJx4a65c_clear_da8c8_19 rfl hl (by decide) rfl (fun ls hl => ?_)
  refine lv_aload_n hx hb dJx4a65c_clear_da8c8_20 rfl (lv_at hl 2 rfl) ?_
  refine lv_iconst (v := 0) hx hb dJx4a65c_clear_da8c8_21 (by decide) ?_
  refine lv_dup_x1 hx hb dJx4a65c_clear_da8c8_22 rfl rfl ?_
  refine o_put (D := D) (ci := 0) (v := .int 0) (ty := .int) (C := RJx4a65c) (T := TJx4a65c) (N := 3) (fs1 := [.int (mc + 1), .ref (z 0), .int 0]) hx hb hts inJx4a65c tyJx4a65c tyJx4a65c_ok nmJx4a65c hown hK hP hD hS h_al rfl 2 (by decide) (hts _ k_169) (fun _ h9 => h9) rfl (by decide +kernel) rfl rfl (Nat.le_of_ble_eq_true rfl) rfl dJx4a65c_clear_da8c8_23 (fun g H locs h_al hu hP hD hS => ?_)
  have hfr := hfr.up hu (by simp)
  refine lv_istore_n (lv' := [(3, .int 0), (2, .int 0), (1, .ref (z 0)), (0, .ref al)]) hx hb dJx4a65c_clear_da8c8_26 rfl hl (by decide) rfl (fun ls hl => ?_)
  refine lv_iload_n hx hb dJx4a65c_clear_da8c8_27 rfl (lv_at hl 0 rfl) ?_
  refine lv_iload_n hx hb dJx4a65c_clear_da8c8_28 rfl (lv_at hl 1 rfl) ?_
  refine lv_icmp_ge (tgt := 42) hx hb dJx4a65c_clear_da8c8_29 (by decide) (fun _ => ?_) (fun hno => absurd hno (by decide))
  exact o_rv hf hr hlocks hK hP hD hS (show 0 ≤ 0 by omega) (show 0 ≤ 0 by omega) ⟨hfr, h_al⟩ dJx4a65c_clear_da8c8_42
