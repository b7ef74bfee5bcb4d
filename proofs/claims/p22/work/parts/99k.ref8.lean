abbrev cX10_sheet : ByteArray := prog_12_method_48_code
def yX10_sheet : MethodName := ⟨RX10, "sheet", "(III)I"⟩
abbrev cX10_sheetOf : ByteArray := prog_12_method_47_code
def yX10_sheetOf : MethodName := ⟨RX10, "sheetOf", "(III)I"⟩
abbrev cX10_where : ByteArray := prog_12_method_49_code
def yX10_where : MethodName := ⟨RX10, "where", "(I)I"⟩
theorem k_75 : (Cond.selects RX10 yX10_sheetOf yX10_sheetOf) ∈ gT := gT_i 75 (by decide +kernel) rfl
theorem k_1468 : (Cond.methodLink RX10 259 yX10_sheetOf) ∈ gT := gT_i 1468 (by decide +kernel) rfl
theorem k_1470 : (Cond.instanceMethod yX10_sheetOf) ∈ gT := gT_i 1470 (by decide +kernel) rfl
theorem k_1471 : (Cond.code yX10_sheetOf cX10_sheetOf 9 (some .int)) ∈ gT := gT_i 1471 (by decide +kernel) rfl
theorem dX10_sheetOf_44 : decode cX10_sheetOf 44 = .ok (.iload 8, 2) := by decide +kernel
theorem dX10_sheetOf_46 : decode cX10_sheetOf 46 = .ok (.iload_n 2, 1) := by decide +kernel
theorem dX10_sheetOf_47 : decode cX10_sheetOf 47 = .ok (.if_icmp .ge 33, 3) := by decide +kernel
theorem dX10_sheetOf_50 : decode cX10_sheetOf 50 = .ok (.aload_n 0, 1) := by decide +kernel
theorem dX10_sheetOf_51 : decode cX10_sheetOf 51 = .ok (.iload 6, 2) := by decide +kernel
theorem dX10_sheetOf_53 : decode cX10_sheetOf 53 = .ok (.iload 7, 2) := by decide +kernel
theorem dX10_sheetOf_55 : decode cX10_sheetOf 55 = .ok (.iload 4, 2) := by decide +kernel
theorem dX10_sheetOf_57 : decode cX10_sheetOf 57 = .ok (.iload 5, 2) := by decide +kernel
theorem dX10_sheetOf_59 : decode cX10_sheetOf 59 = .ok (.invokevirtual 253, 3) := by decide +kernel
theorem dX10_sheetOf_62 : decode cX10_sheetOf 62 = .ok (.aload_n 0, 1) := by decide +kernel
theorem dX10_sheetOf_63 : decode cX10_sheetOf 63 = .ok (.getfield 205, 3) := by decide +kernel
theorem dX10_sheetOf_66 : decode cX10_sheetOf 66 = .ok (.istore 6, 2) := by decide +kernel
theorem dX10_sheetOf_68 : decode cX10_sheetOf 68 = .ok (.aload_n 0, 1) := by decide +kernel
theorem dX10_sheetOf_69 : decode cX10_sheetOf 69 = .ok (.getfield 218, 3) := by decide +kernel
theorem dX10_sheetOf_72 : decode cX10_sheetOf 72 = .ok (.istore 7, 2) := by decide +kernel
theorem dX10_sheetOf_74 : decode cX10_sheetOf 74 = .ok (.iinc 8 1, 3) := by decide +kernel
theorem dX10_sheetOf_77 : decode cX10_sheetOf 77 = .ok (.goto (-33), 3) := by decide +kernel
theorem dX10_sheetOf_0 : decode cX10_sheetOf 0 = .ok (.aload_n 0, 1) := by decide +kernel
theorem dX10_sheetOf_1 : decode cX10_sheetOf 1 = .ok (.iload_n 1, 1) := by decide +kernel
theorem dX10_sheetOf_2 : decode cX10_sheetOf 2 = .ok (.invokevirtual 250, 3) := by decide +kernel
theorem dX10_sheetOf_5 : decode cX10_sheetOf 5 = .ok (.istore 4, 2) := by decide +kernel
theorem dX10_sheetOf_7 : decode cX10_sheetOf 7 = .ok (.aload_n 0, 1) := by decide +kernel
theorem dX10_sheetOf_8 : decode cX10_sheetOf 8 = .ok (.iload_n 1, 1) := by decide +kernel
theorem dX10_sheetOf_9 : decode cX10_sheetOf 9 = .ok (.iconst 1, 1) := by decide +kernel
theorem dX10_sheetOf_10 : decode cX10_sheetOf 10 = .ok (.iadd, 1) := by decide +kernel
theorem dX10_sheetOf_11 : decode cX10_sheetOf 11 = .ok (.invokevirtual 250, 3) := by decide +kernel
theorem dX10_sheetOf_14 : decode cX10_sheetOf 14 = .ok (.istore 5, 2) := by decide +kernel
theorem dX10_sheetOf_16 : decode cX10_sheetOf 16 = .ok (.iload 4, 2) := by decide +kernel
theorem dX10_sheetOf_18 : decode cX10_sheetOf 18 = .ok (.iload 5, 2) := by decide +kernel
theorem dX10_sheetOf_20 : decode cX10_sheetOf 20 = .ok (.if_icmp .ne 14, 3) := by decide +kernel
theorem dX10_sheetOf_34 : decode cX10_sheetOf 34 = .ok (.iload 4, 2) := by decide +kernel
theorem dX10_sheetOf_36 : decode cX10_sheetOf 36 = .ok (.istore 6, 2) := by decide +kernel
theorem dX10_sheetOf_38 : decode cX10_sheetOf 38 = .ok (.iconst 0, 1) := by decide +kernel
theorem dX10_sheetOf_39 : decode cX10_sheetOf 39 = .ok (.istore 7, 2) := by decide +kernel
theorem dX10_sheetOf_41 : decode cX10_sheetOf 41 = .ok (.iconst 0, 1) := by decide +kernel
theorem dX10_sheetOf_42 : decode cX10_sheetOf 42 = .ok (.istore 8, 2) := by decide +kernel
theorem dX10_sheetOf_80 : decode cX10_sheetOf 80 = .ok (.aload_n 0, 1) := by decide +kernel
theorem dX10_sheetOf_81 : decode cX10_sheetOf 81 = .ok (.iload 6, 2) := by decide +kernel
theorem dX10_sheetOf_83 : decode cX10_sheetOf 83 = .ok (.iload 7, 2) := by decide +kernel
theorem dX10_sheetOf_85 : decode cX10_sheetOf 85 = .ok (.iload 4, 2) := by decide +kernel
theorem dX10_sheetOf_87 : decode cX10_sheetOf 87 = .ok (.iload 5, 2) := by decide +kernel
theorem dX10_sheetOf_89 : decode cX10_sheetOf 89 = .ok (.invokevirtual 253, 3) := by decide +kernel
theorem dX10_sheetOf_92 : decode cX10_sheetOf 92 = .ok (.aload_n 0, 1) := by decide +kernel
theorem dX10_sheetOf_93 : decode cX10_sheetOf 93 = .ok (.getfield 218, 3) := by decide +kernel
theorem dX10_sheetOf_96 : decode cX10_sheetOf 96 = .ok (.ifCond .le 10, 3) := by decide +kernel
theorem dX10_sheetOf_106 : decode cX10_sheetOf 106 = .ok (.aload_n 0, 1) := by decide +kernel
theorem dX10_sheetOf_107 : decode cX10_sheetOf 107 = .ok (.getfield 205, 3) := by decide +kernel
theorem dX10_sheetOf_110 : decode cX10_sheetOf 110 = .ok (.iconst 1, 1) := by decide +kernel
theorem dX10_sheetOf_111 : decode cX10_sheetOf 111 = .ok (.isub, 1) := by decide +kernel
theorem dX10_sheetOf_112 : decode cX10_sheetOf 112 = .ok (.istore 8, 2) := by decide +kernel
theorem dX10_sheetOf_114 : decode cX10_sheetOf 114 = .ok (.iload_n 3, 1) := by decide +kernel
theorem dX10_sheetOf_115 : decode cX10_sheetOf 115 = .ok (.ifCond .ne 10, 3) := by decide +kernel
theorem dX10_sheetOf_125 : decode cX10_sheetOf 125 = .ok (.iload_n 3, 1) := by decide +kernel
theorem dX10_sheetOf_126 : decode cX10_sheetOf 126 = .ok (.iconst 1, 1) := by decide +kernel
theorem dX10_sheetOf_127 : decode cX10_sheetOf 127 = .ok (.if_icmp .ne 13, 3) := by decide +kernel
theorem dX10_sheetOf_140 : decode cX10_sheetOf 140 = .ok (.iload_n 3, 1) := by decide +kernel
theorem dX10_sheetOf_141 : decode cX10_sheetOf 141 = .ok (.iconst 2, 1) := by decide +kernel
theorem dX10_sheetOf_142 : decode cX10_sheetOf 142 = .ok (.if_icmp .ne 13, 3) := by decide +kernel
theorem dX10_sheetOf_155 : decode cX10_sheetOf 155 = .ok (.aload_n 0, 1) := by decide +kernel
theorem dX10_sheetOf_156 : decode cX10_sheetOf 156 = .ok (.getfield 50, 3) := by decide +kernel
theorem dX10_sheetOf_159 : decode cX10_sheetOf 159 = .ok (.iload 8, 2) := by decide +kernel
theorem dX10_sheetOf_161 : decode cX10_sheetOf 161 = .ok (.iaload, 1) := by decide +kernel
theorem dX10_sheetOf_162 : decode cX10_sheetOf 162 = .ok (.ireturn, 1) := by decide +kernel
theorem dX10_sheetOf_145 : decode cX10_sheetOf 145 = .ok (.aload_n 0, 1) := by decide +kernel
theorem dX10_sheetOf_146 : decode cX10_sheetOf 146 = .ok (.getfield 50, 3) := by decide +kernel
theorem dX10_sheetOf_149 : decode cX10_sheetOf 149 = .ok (.iload 6, 2) := by decide +kernel
theorem dX10_sheetOf_151 : decode cX10_sheetOf 151 = .ok (.iaload, 1) := by decide +kernel
theorem dX10_sheetOf_152 : decode cX10_sheetOf 152 = .ok (.goto 10, 3) := by decide +kernel
theorem dX10_sheetOf_130 : decode cX10_sheetOf 130 = .ok (.iload 8, 2) := by decide +kernel
theorem dX10_sheetOf_132 : decode cX10_sheetOf 132 = .ok (.iload 6, 2) := by decide +kernel
theorem dX10_sheetOf_134 : decode cX10_sheetOf 134 = .ok (.isub, 1) := by decide +kernel
theorem dX10_sheetOf_135 : decode cX10_sheetOf 135 = .ok (.iconst 1, 1) := by decide +kernel
theorem dX10_sheetOf_136 : decode cX10_sheetOf 136 = .ok (.iadd, 1) := by decide +kernel
theorem dX10_sheetOf_137 : decode cX10_sheetOf 137 = .ok (.goto 25, 3) := by decide +kernel
theorem dX10_sheetOf_118 : decode cX10_sheetOf 118 = .ok (.aload_n 0, 1) := by decide +kernel
theorem dX10_sheetOf_119 : decode cX10_sheetOf 119 = .ok (.getfield 221, 3) := by decide +kernel
theorem dX10_sheetOf_122 : decode cX10_sheetOf 122 = .ok (.goto 40, 3) := by decide +kernel
theorem dX10_sheetOf_99 : decode cX10_sheetOf 99 = .ok (.aload_n 0, 1) := by decide +kernel
theorem dX10_sheetOf_100 : decode cX10_sheetOf 100 = .ok (.getfield 205, 3) := by decide +kernel
theorem dX10_sheetOf_103 : decode cX10_sheetOf 103 = .ok (.goto 9, 3) := by decide +kernel
theorem dX10_sheetOf_23 : decode cX10_sheetOf 23 = .ok (.iload_n 3, 1) := by decide +kernel
theorem dX10_sheetOf_24 : decode cX10_sheetOf 24 = .ok (.iconst 2, 1) := by decide +kernel
theorem dX10_sheetOf_25 : decode cX10_sheetOf 25 = .ok (.if_icmp .ge 7, 3) := by decide +kernel
theorem dX10_sheetOf_32 : decode cX10_sheetOf 32 = .ok (.iconst (-1), 1) := by decide +kernel
theorem dX10_sheetOf_33 : decode cX10_sheetOf 33 = .ok (.ireturn, 1) := by decide +kernel
theorem dX10_sheetOf_28 : decode cX10_sheetOf 28 = .ok (.iconst 0, 1) := by decide +kernel
theorem dX10_sheetOf_29 : decode cX10_sheetOf 29 = .ok (.goto 4, 3) := by decide +kernel
theorem dX10_sheet_0 : decode cX10_sheet 0 = .ok (.iload_n 3, 1) := by decide +kernel
theorem dX10_sheet_1 : decode cX10_sheet 1 = .ok (.iconst 0, 1) := by decide +kernel
theorem dX10_sheet_2 : decode cX10_sheet 2 = .ok (.iconst 3, 1) := by decide +kernel
theorem dX10_sheet_3 : decode cX10_sheet 3 = .ok (.invokestatic 119, 3) := by decide +kernel
theorem dX10_sheet_6 : decode cX10_sheet 6 = .ok (.ifCond .ne 6, 3) := by decide +kernel
theorem dX10_sheet_9 : decode cX10_sheet 9 = .ok (.bipush (-2), 2) := by decide +kernel
theorem dX10_sheet_11 : decode cX10_sheet 11 = .ok (.ireturn, 1) := by decide +kernel
theorem dX10_sheet_12 : decode cX10_sheet 12 = .ok (.aload_n 0, 1) := by decide +kernel
theorem dX10_sheet_13 : decode cX10_sheet 13 = .ok (.getfield 170, 3) := by decide +kernel
theorem dX10_sheet_16 : decode cX10_sheet 16 = .ok (.ifCond .ne 6, 3) := by decide +kernel
theorem dX10_sheet_22 : decode cX10_sheet 22 = .ok (.aload_n 0, 1) := by decide +kernel
theorem dX10_sheet_23 : decode cX10_sheet 23 = .ok (.iload_n 1, 1) := by decide +kernel
theorem dX10_sheet_24 : decode cX10_sheet 24 = .ok (.invokevirtual 256, 3) := by decide +kernel
theorem dX10_sheet_27 : decode cX10_sheet 27 = .ok (.ifCond .eq 32, 3) := by decide +kernel
theorem dX10_sheet_30 : decode cX10_sheet 30 = .ok (.iload_n 2, 1) := by decide +kernel
theorem dX10_sheet_31 : decode cX10_sheet 31 = .ok (.iconst 0, 1) := by decide +kernel
theorem dX10_sheet_32 : decode cX10_sheet 32 = .ok (.aload_n 0, 1) := by decide +kernel
theorem dX10_sheet_33 : decode cX10_sheet 33 = .ok (.iload_n 1, 1) := by decide +kernel
theorem dX10_sheet_34 : decode cX10_sheet 34 = .ok (.iconst 1, 1) := by decide +kernel
theorem dX10_sheet_35 : decode cX10_sheet 35 = .ok (.isub, 1) := by decide +kernel
theorem dX10_sheet_36 : decode cX10_sheet 36 = .ok (.invokevirtual 247, 3) := by decide +kernel
theorem dX10_sheet_39 : decode cX10_sheet 39 = .ok (.iconst 1, 1) := by decide +kernel
theorem dX10_sheet_40 : decode cX10_sheet 40 = .ok (.isub, 1) := by decide +kernel
theorem dX10_sheet_41 : decode cX10_sheet 41 = .ok (.invokestatic 119, 3) := by decide +kernel
theorem dX10_sheet_44 : decode cX10_sheet 44 = .ok (.ifCond .eq 15, 3) := by decide +kernel
theorem dX10_sheet_59 : decode cX10_sheet 59 = .ok (.bipush (-2), 2) := by decide +kernel
theorem dX10_sheet_61 : decode cX10_sheet 61 = .ok (.ireturn, 1) := by decide +kernel
theorem dX10_sheet_47 : decode cX10_sheet 47 = .ok (.aload_n 0, 1) := by decide +kernel
theorem dX10_sheet_48 : decode cX10_sheet 48 = .ok (.iload_n 1, 1) := by decide +kernel
theorem dX10_sheet_49 : decode cX10_sheet 49 = .ok (.iconst 1, 1) := by decide +kernel
theorem dX10_sheet_50 : decode cX10_sheet 50 = .ok (.isub, 1) := by decide +kernel
theorem dX10_sheet_51 : decode cX10_sheet 51 = .ok (.iload_n 2, 1) := by decide +kernel
theorem dX10_sheet_52 : decode cX10_sheet 52 = .ok (.iload_n 3, 1) := by decide +kernel
theorem dX10_sheet_53 : decode cX10_sheet 53 = .ok (.invokevirtual 259, 3) := by decide +kernel
theorem dX10_sheet_56 : decode cX10_sheet 56 = .ok (.goto 5, 3) := by decide +kernel
theorem dX10_sheet_19 : decode cX10_sheet 19 = .ok (.bipush (-3), 2) := by decide +kernel
theorem dX10_sheet_21 : decode cX10_sheet 21 = .ok (.ireturn, 1) := by decide +kernel
theorem dX10_where_39 : decode cX10_where 39 = .ok (.aload_n 0, 1) := by decide +kernel
theorem dX10_where_40 : decode cX10_where 40 = .ok (.getfield 50, 3) := by decide +kernel
theorem dX10_where_43 : decode cX10_where 43 = .ok (.iload_n 2, 1) := by decide +kernel
theorem dX10_where_44 : decode cX10_where 44 = .ok (.iaload, 1) := by decide +kernel
theorem dX10_where_45 : decode cX10_where 45 = .ok (.iload_n 1, 1) := by decide +kernel
theorem dX10_where_46 : decode cX10_where 46 = .ok (.if_icmp .eq 9, 3) := by decide +kernel
theorem dX10_where_49 : decode cX10_where 49 = .ok (.iinc 2 1, 3) := by decide +kernel
theorem dX10_where_52 : decode cX10_where 52 = .ok (.goto (-13), 3) := by decide +kernel
theorem dX10_where_92 : decode cX10_where 92 = .ok (.aload_n 0, 1) := by decide +kernel
theorem dX10_where_93 : decode cX10_where 93 = .ok (.getfield 205, 3) := by decide +kernel
theorem dX10_where_96 : decode cX10_where 96 = .ok (.iload_n 2, 1) := by decide +kernel
theorem dX10_where_97 : decode cX10_where 97 = .ok (.if_icmp .gt 40, 3) := by decide +kernel
theorem dX10_where_100 : decode cX10_where 100 = .ok (.aload_n 0, 1) := by decide +kernel
theorem dX10_where_101 : decode cX10_where 101 = .ok (.getfield 205, 3) := by decide +kernel
theorem dX10_where_104 : decode cX10_where 104 = .ok (.iload_n 2, 1) := by decide +kernel
theorem dX10_where_105 : decode cX10_where 105 = .ok (.if_icmp .lt 10, 3) := by decide +kernel
theorem dX10_where_115 : decode cX10_where 115 = .ok (.aload_n 0, 1) := by decide +kernel
theorem dX10_where_116 : decode cX10_where 116 = .ok (.aload_n 0, 1) := by decide +kernel
theorem dX10_where_117 : decode cX10_where 117 = .ok (.getfield 205, 3) := by decide +kernel
theorem dX10_where_120 : decode cX10_where 120 = .ok (.aload_n 0, 1) := by decide +kernel
theorem dX10_where_121 : decode cX10_where 121 = .ok (.getfield 218, 3) := by decide +kernel
theorem dX10_where_124 : decode cX10_where 124 = .ok (.iload 4, 2) := by decide +kernel
theorem dX10_where_126 : decode cX10_where 126 = .ok (.iload 5, 2) := by decide +kernel
theorem dX10_where_128 : decode cX10_where 128 = .ok (.invokevirtual 253, 3) := by decide +kernel
theorem dX10_where_131 : decode cX10_where 131 = .ok (.iinc 6 1, 3) := by decide +kernel
theorem dX10_where_134 : decode cX10_where 134 = .ok (.goto (-42), 3) := by decide +kernel
theorem dX10_where_108 : decode cX10_where 108 = .ok (.aload_n 0, 1) := by decide +kernel
theorem dX10_where_109 : decode cX10_where 109 = .ok (.getfield 218, 3) := by decide +kernel
theorem dX10_where_112 : decode cX10_where 112 = .ok (.ifCond .ne 25, 3) := by decide +kernel
theorem dX10_where_0 : decode cX10_where 0 = .ok (.aload_n 0, 1) := by decide +kernel
theorem dX10_where_1 : decode cX10_where 1 = .ok (.iload_n 1, 1) := by decide +kernel
theorem dX10_where_2 : decode cX10_where 2 = .ok (.invokevirtual 188, 3) := by decide +kernel
theorem dX10_where_5 : decode cX10_where 5 = .ok (.ifCond .ne 6, 3) := by decide +kernel
theorem dX10_where_11 : decode cX10_where 11 = .ok (.aload_n 0, 1) := by decide +kernel
theorem dX10_where_12 : decode cX10_where 12 = .ok (.getfield 170, 3) := by decide +kernel
theorem dX10_where_15 : decode cX10_where 15 = .ok (.ifCond .ne 6, 3) := by decide +kernel
theorem dX10_where_21 : decode cX10_where 21 = .ok (.aload_n 0, 1) := by decide +kernel
theorem dX10_where_22 : decode cX10_where 22 = .ok (.getfield 28, 3) := by decide +kernel
theorem dX10_where_25 : decode cX10_where 25 = .ok (.aload_n 0, 1) := by decide +kernel
theorem dX10_where_26 : decode cX10_where 26 = .ok (.getfield 17, 3) := by decide +kernel
theorem dX10_where_29 : decode cX10_where 29 = .ok (.iload_n 1, 1) := by decide +kernel
theorem dX10_where_30 : decode cX10_where 30 = .ok (.iaload, 1) := by decide +kernel
theorem dX10_where_31 : decode cX10_where 31 = .ok (.baload, 1) := by decide +kernel
theorem dX10_where_32 : decode cX10_where 32 = .ok (.ifCond .eq 5, 3) := by decide +kernel
theorem dX10_where_37 : decode cX10_where 37 = .ok (.iconst 0, 1) := by decide +kernel
theorem dX10_where_38 : decode cX10_where 38 = .ok (.istore_n 2, 1) := by decide +kernel
theorem dX10_where_55 : decode cX10_where 55 = .ok (.aload_n 0, 1) := by decide +kernel
theorem dX10_where_56 : decode cX10_where 56 = .ok (.getfield 59, 3) := by decide +kernel
theorem dX10_where_59 : decode cX10_where 59 = .ok (.iload_n 2, 1) := by decide +kernel
theorem dX10_where_60 : decode cX10_where 60 = .ok (.iaload, 1) := by decide +kernel
theorem dX10_where_61 : decode cX10_where 61 = .ok (.istore_n 3, 1) := by decide +kernel
theorem dX10_where_62 : decode cX10_where 62 = .ok (.aload_n 0, 1) := by decide +kernel
theorem dX10_where_63 : decode cX10_where 63 = .ok (.iload_n 3, 1) := by decide +kernel
theorem dX10_where_64 : decode cX10_where 64 = .ok (.invokevirtual 250, 3) := by decide +kernel
theorem dX10_where_67 : decode cX10_where 67 = .ok (.istore 4, 2) := by decide +kernel
theorem dX10_where_69 : decode cX10_where 69 = .ok (.aload_n 0, 1) := by decide +kernel
theorem dX10_where_70 : decode cX10_where 70 = .ok (.iload_n 3, 1) := by decide +kernel
theorem dX10_where_71 : decode cX10_where 71 = .ok (.iconst 1, 1) := by decide +kernel
theorem dX10_where_72 : decode cX10_where 72 = .ok (.iadd, 1) := by decide +kernel
theorem dX10_where_73 : decode cX10_where 73 = .ok (.invokevirtual 250, 3) := by decide +kernel
theorem dX10_where_76 : decode cX10_where 76 = .ok (.istore 5, 2) := by decide +kernel
theorem dX10_where_78 : decode cX10_where 78 = .ok (.iconst 0, 1) := by decide +kernel
theorem dX10_where_79 : decode cX10_where 79 = .ok (.istore 6, 2) := by decide +kernel
theorem dX10_where_81 : decode cX10_where 81 = .ok (.aload_n 0, 1) := by decide +kernel
theorem dX10_where_82 : decode cX10_where 82 = .ok (.iload 4, 2) := by decide +kernel
theorem dX10_where_84 : decode cX10_where 84 = .ok (.iconst 0, 1) := by decide +kernel
theorem dX10_where_85 : decode cX10_where 85 = .ok (.iload 4, 2) := by decide +kernel
theorem dX10_where_87 : decode cX10_where 87 = .ok (.iload 5, 2) := by decide +kernel
theorem dX10_where_89 : decode cX10_where 89 = .ok (.invokevirtual 253, 3) := by decide +kernel
theorem dX10_where_137 : decode cX10_where 137 = .ok (.bipush 32, 2) := by decide +kernel
theorem dX10_where_139 : decode cX10_where 139 = .ok (.iload_n 3, 1) := by decide +kernel
theorem dX10_where_140 : decode cX10_where 140 = .ok (.iconst 1, 1) := by decide +kernel
theorem dX10_where_141 : decode cX10_where 141 = .ok (.iadd, 1) := by decide +kernel
theorem dX10_where_142 : decode cX10_where 142 = .ok (.imul, 1) := by decide +kernel
theorem dX10_where_143 : decode cX10_where 143 = .ok (.iload 6, 2) := by decide +kernel
theorem dX10_where_145 : decode cX10_where 145 = .ok (.iadd, 1) := by decide +kernel
theorem dX10_where_146 : decode cX10_where 146 = .ok (.ireturn, 1) := by decide +kernel
theorem dX10_where_35 : decode cX10_where 35 = .ok (.iconst (-1), 1) := by decide +kernel
theorem dX10_where_36 : decode cX10_where 36 = .ok (.ireturn, 1) := by decide +kernel
theorem dX10_where_18 : decode cX10_where 18 = .ok (.bipush (-3), 2) := by decide +kernel
theorem dX10_where_20 : decode cX10_where 20 = .ok (.ireturn, 1) := by decide +kernel
theorem dX10_where_8 : decode cX10_where 8 = .ok (.bipush (-2), 2) := by decide +kernel
theorem dX10_where_10 : decode cX10_where 10 = .ok (.ireturn, 1) := by decide +kernel
set_option maxHeartbeats 1000000 in
set_option maxRecDepth 100000 in
theorem lso_ {p : Program} {l : Launch} {e : Env} {R : Room} {s : State} {m : MethodId} {args : Array Value} {below : List Frame} {meth : Method} {c : Code} {cells slots : Nat} {Q : State → Prop} {D : va_G} {A : Nat → Prop} {h0 : Nat} {q : Nat → Nat} {cB cI cZ : ClassId} {I : Nat → Int32} {F : Nat → Nat → Int32} {pn : Nat} {pe sl : Nat → Nat} {K : Nat → Int32} {Fm To Rr : Nat → Nat} {fi en mo s1 nn gg : Nat} {x3 : Int32} (hpv : rp_ok F pn pe sl K Fm To Rr) (hI2 : I 2 = nI mo) (hmo1 : 10 ≤ mo) (hmo : mo ≤ 40) (hen : en ≤ pn) (hfi : fi ≤ 8000) (hs1 : s1 < nn) (hnn : nn ≤ 8000) (hRf : 4 ≤ R.frames) (hRl : 130 ≤ R.locals) (hRc : cells ≤ R.cells) (hRs : slots ≤ R.slots) (hA : ∀ q : Nat, s.heap.size ≤ q → A q) (hf : CallFix p m c cX10_sheetOf 9 s args gT yX10_sheetOf.cls) (hK : va_K D vcl (mT cB cI cZ) s) :
    ∀ (k : Nat) (i : Nat) (pp : Nat) (rr : Nat) (v25 : Int32) (v26 : Int32) (v27 : Int32) (H : Heap) (locs : List Loc) (ls : Array Slot), i + k = s1 → pp ≤ en → (pp < en → rr < To pp - Fm pp) → i + rs_cnt K Fm To Rr fi en mo (8000 - i) pp rr = nn →  va_P D vcl (mW h0 q cB cI cZ (upd (upd (upd I 25 v25) 26 v26) 27 v27) F) H → va_D A (mW h0 q cB cI cZ (upd (upd (upd I 25 v25) 26 v26) 27 v27) F) → va_S A s.heap H locs → lv_has ls 9 [(8, .int (nI i)), (7, .int (nI rr)), (6, .int (nI pp)), (5, .int (nI en)), (4, .int (nI fi)), (3, .int x3), (2, .int (nI s1)), (0, .ref h0)] →
    (∀ (pp : Nat) (rr : Nat) (v1 : Int32) (v2 : Int32) (v3 : Int32) (H : Heap) (locs : List Loc) (ls : Array Slot), pp < en → rr < To pp - Fm pp → va_P D vcl (mW h0 q cB cI cZ (upd (upd (upd I 25 v1) 26 v2) 27 v3) F) H → va_D A (mW h0 q cB cI cZ (upd (upd (upd I 25 v1) 26 v2) 27 v3) F) → va_S A s.heap H locs → lv_has ls 9 [(7, .int (nI rr)), (6, .int (nI pp)), (5, .int (nI en)), (4, .int (nI fi)), (3, .int x3), (0, .ref h0)] → W p l e R s m args below meth c H locs cells slots Q (F0 m 80 ls [])) →
    W p l e R s m args below meth c H locs cells slots Q (F0 m 44 ls []) := by
  obtain ⟨hx, hb, hml, hown, hts⟩ := id hf
  have hpn8 := hpv.1
  have hzz : ∀ p, p < en → 0 < To p - Fm p := fun p hp => by have := hpv.2 p (by omega); omega
  intro k
  induction k with
  | zero =>
    intro i pp rr v25 v26 v27 H locs ls hik hpp hrr hcn hP hD hS hl kk
    refine lv_iload hx hb dX10_sheetOf_44 (lv_at hl 0 rfl) ?_
    refine lv_iload_n hx hb dX10_sheetOf_46 rfl (lv_at hl 6 rfl) ?_
    refine lv_icmp_ge (tgt := 80) hx hb dX10_sheetOf_47 (by decide) (fun c_1 => ?_) (fun c_1 => ?_)
    · have c_1 := q_le (a := s1) (b := i) (by omega) (by omega) c_1
      have hpe : pp < en := by
        rcases Nat.lt_or_ge pp en with h9 | h9
        · exact h9
        · rw [rs_cnt_out (by omega)] at hcn; omega
      exact kk pp rr v25 v26 v27 H locs ls hpe (hrr hpe) hP hD hS (lv_sub hl (l' := [(7, .int (nI rr)), (6, .int (nI pp)), (5, .int (nI en)), (4, .int (nI fi)), (3, .int x3), (0, .ref h0)]) [1, 2, 3, 4, 5, 7] rfl)
    · have c_1 := q_nle (a := s1) (b := i) (by omega) (by omega) c_1
      exact absurd hik (by omega)
  | succ k ih =>
    intro i pp rr v25 v26 v27 H locs ls hik hpp hrr hcn hP hD hS hl kk
    refine lv_iload hx hb dX10_sheetOf_44 (lv_at hl 0 rfl) ?_
    refine lv_iload_n hx hb dX10_sheetOf_46 rfl (lv_at hl 6 rfl) ?_
    refine lv_icmp_ge (tgt := 80) hx hb dX10_sheetOf_47 (by decide) (fun c_1 => ?_) (fun c_1 => ?_)
    · have c_1 := q_le (a := s1) (b := i) (by omega) (by omega) c_1
      exact absurd hik (by omega)
    · have c_1 := q_nle (a := s1) (b := i) (by omega) (by omega) c_1
      have hpe : pp < en := by
        rcases Nat.lt_or_ge pp en with h9 | h9
        · exact h9
        · rw [rs_cnt_out (by omega)] at hcn; omega
      have hrp := hrr hpe
      refine lv_aload_n hx hb dX10_sheetOf_50 rfl (lv_at hl 7 rfl) ?_
      refine lv_iload hx hb dX10_sheetOf_51 (lv_at hl 2 rfl) ?_
      refine lv_iload hx hb dX10_sheetOf_53 (lv_at hl 1 rfl) ?_
      refine lv_iload hx hb dX10_sheetOf_55 (lv_at hl 4 rfl) ?_
      refine lv_iload hx hb dX10_sheetOf_57 (lv_at hl 3 rfl) ?_
      refine q_cv (k := cells) (n := slots) hK hP hD hS hA (fun hPc hKc hDc => q_rV (As := [.int (nI pp), .int (nI rr), .int (nI fi), .int (nI en)]) (rest := []) hf (r_laySheet _ D h0 q cB cI cZ (upd (upd (upd I 25 v25) 26 v26) 27 v27) F pn pe sl K Fm To Rr pp rr fi en mo hpv hI2 hmo1 hmo (by omega) (by omega) (hrr (by omega)) (by omega) _) k_1455 k_1452 k_1454 k_73 k_98 (nA := 4) (by decide +kernel) ⟨Nat.le_trans (by decide) hRf, Nat.le_trans (by decide) hRl⟩ hK hP (ci := 11) (q0 := 0) rfl rfl rfl hPc hKc hDc (fun _ _ _ _ h => h) (fun _ _ _ => trivial) rfl hl.1 rfl (Nat.le_of_ble_eq_true rfl) dX10_sheetOf_59 ⟨hRc, hRs⟩) (Nat.le_refl _) (Nat.le_refl _) (fun u H locs hw hK hP hD hS => ?_)
      obtain ⟨b2, v1, v2, v3, a1, a2, rfl⟩ := hw
      obtain ⟨x, ex, hxf⟩ := rs_some (K := K) (Rr := Rr) (f := 40) hzz hmo1 hmo (show pp < en by omega) (hrr (by omega)) (pb_le (rp_ra (K pp) (Fm pp) pp rr fi))
      rw [a1.trans ex] at a2
      obtain ⟨rfl, rfl, rfl⟩ := a2
      have hP : va_P D vcl (mW h0 q cB cI cZ (upd (upd (upd I 25 (nI (x.1))) 26 (nI (x.2.1))) 27 (nI (x.2.2))) F) H := hP
      have hD : va_D A (mW h0 q cB cI cZ (upd (upd (upd I 25 (nI (x.1))) 26 (nI (x.2.1))) 27 (nI (x.2.2))) F) := hD
      refine lv_aload_n hx hb dX10_sheetOf_62 rfl (lv_at hl 7 rfl) ?_
      refine va_get (D := D) (ci := 11) (v := .int (nI (x.1))) (C := RX10) (T := TX10) (N := 48) hx hb hts inX10 hown hK hP 0 rfl rfl 25 (by decide) (hts _ k_1169) (fun _ h9 => h9) rfl dX10_sheetOf_63 ?_
      refine lv_istore (lv' := [(6, .int (nI (x.1))), (8, .int (nI i)), (7, .int (nI rr)), (5, .int (nI en)), (4, .int (nI fi)), (3, .int x3), (2, .int (nI s1)), (0, .ref h0)]) hx hb dX10_sheetOf_66 hl (by decide) rfl (fun ls hl => ?_)
      refine lv_aload_n hx hb dX10_sheetOf_68 rfl (lv_at hl 7 rfl) ?_
      refine va_get (D := D) (ci := 11) (v := .int (nI (x.2.1))) (C := RX10) (T := TX10) (N := 48) hx hb hts inX10 hown hK hP 0 rfl rfl 26 (by decide) (hts _ k_1170) (fun _ h9 => h9) rfl dX10_sheetOf_69 ?_
      refine lv_istore (lv' := [(7, .int (nI (x.2.1))), (6, .int (nI (x.1))), (8, .int (nI i)), (5, .int (nI en)), (4, .int (nI fi)), (3, .int x3), (2, .int (nI s1)), (0, .ref h0)]) hx hb dX10_sheetOf_72 hl (by decide) rfl (fun ls hl => ?_)
      refine lv_iinc (v := (nI (i + 1))) (lv' := [(8, .int (nI (i + 1))), (7, .int (nI (x.2.1))), (6, .int (nI (x.1))), (5, .int (nI en)), (4, .int (nI fi)), (3, .int x3), (2, .int (nI s1)), (0, .ref h0)]) hx hb dX10_sheetOf_74 hl (k := 2) rfl (nI_add i 1) (by decide) rfl (fun ls hl => ?_)
      refine lv_goto (tgt := 44) hx hb dX10_sheetOf_77 (by decide) ?_
      have hci := rs_cnt_in (f := 8000 - (i + 1)) hpe ex
      rw [show 8000 - (i + 1) + 1 = 8000 - i by omega] at hci
      exact ih (i + 1) x.1 x.2.1 _ _ _ H locs ls (by omega) hxf.2.1 hxf.2.2.1 (by omega) hP hD hS (lv_sub hl (l' := [(8, .int (nI (i + 1))), (7, .int (nI (x.2.1))), (6, .int (nI (x.1))), (5, .int (nI en)), (4, .int (nI fi)), (3, .int x3), (2, .int (nI s1)), (0, .ref h0)]) [0, 1, 2, 3, 4, 5, 6, 7] rfl) kk
set_option maxHeartbeats 1000000 in
set_option maxRecDepth 100000 in
theorem r_sheetOf (l : Launch) (D : va_G) (h0 : Nat) (q : Nat → Nat) (cB cI_ cZ : ClassId) (I : Nat → Int32) (F : Nat → Nat → Int32) (pn : Nat) (pe sl : Nat → Nat) (K : Nat → Int32) (Fm To Rr : Nat → Nat) (mo : Nat) (Gp : Nat → Nat) (gg s1 : Nat) (x3 : Int32) (hpv : rp_ok F pn pe sl K Fm To Rr) (hI2 : I 2 = nI mo) (hI14 : I 14 = nI pn) (hmo1 : 10 ≤ mo) (hmo : mo ≤ 40) (hSS : rs_S Fm To pn ≤ 8000) (hG : ∀ p, p < pn → F 18 p = nI (Gp p) ∧ Gp p ≤ 8000) (hgg : gg ≤ 8000) (hnc : ∀ g, rs_num K Fm To Rr Gp pn mo g ≤ 8000) (hs1 : s1 < rs_nm K Fm To Rr Gp pn mo gg) : cI l D yX10_sheetOf cX10_sheetOf 9 (some .int) 4 130 0 0 [.ref h0, .int (nI gg), .int (nI s1), .int x3] zT (mW h0 q cB cI_ cZ I F) (mT cB cI_ cZ) (fun r u => ∃ (v1 v2 v3 : Int32), u = (mW h0 q cB cI_ cZ (upd (upd (upd I 25 v1) 26 v2) 27 v3) F, mT cB cI_ cZ)) := by
  refine q_si (by decide) (Nat.le_of_ble_eq_true rfl) ?_
  intro p e s m below meth c A ls hAe hf hr hlocks hin hK hP hD hS hA hZ hl
  obtain ⟨hx, hb, hml, hown, hts⟩ := id hf
  have hl : lv_has ls 9 [(0, .ref h0), (1, .int (nI gg)), (2, .int (nI s1)), (3, .int x3)] := hl
  have hpn8 := hpv.1
  have hfa := rg_first_le Gp gg pn 0
  have hfb := rg_first_le Gp (gg + 1) pn 0
  refine lv_aload_n hx hb dX10_sheetOf_0 rfl (lv_at hl 0 rfl) ?_
  refine lv_iload_n hx hb dX10_sheetOf_1 rfl (lv_at hl 1 rfl) ?_
  refine q_ci (k := 0) (n := 0) hK hP hD hS hA (fun hPc hKc hDc => q_rV (As := [.int (nI gg)]) (rest := []) hf (r_firstOf _ D h0 q cB cI_ cZ I F pn gg Gp hI14 hpv.1 (by omega) hG _) k_1451 k_1448 k_1450 k_72 k_98 (nA := 1) (by decide +kernel) ⟨Nat.le_of_ble_eq_true rfl, Nat.le_of_ble_eq_true rfl⟩ hK hP (ci := 11) (q0 := 0) rfl rfl rfl hPc hKc hDc (fun _ _ _ _ h => h) (fun _ _ _ => trivial) rfl hl.1 rfl (Nat.le_of_ble_eq_true rfl) dX10_sheetOf_2 ⟨Nat.le_of_ble_eq_true rfl, Nat.le_of_ble_eq_true rfl⟩) (by decide) (by decide) (fun r u H locs hw hK hP hD hS => ?_)
  obtain ⟨rfl, rfl⟩ := hw
  have hP : va_P D vcl (mW h0 q cB cI_ cZ I F) H := hP
  have hD : va_D A (mW h0 q cB cI_ cZ I F) := hD
  refine lv_istore (lv' := [(4, .int (nI (rg_first Gp gg pn 0))), (0, .ref h0), (1, .int (nI gg)), (2, .int (nI s1)), (3, .int x3)]) hx hb dX10_sheetOf_5 hl (by decide) rfl (fun ls hl => ?_)
  refine lv_aload_n hx hb dX10_sheetOf_7 rfl (lv_at hl 1 rfl) ?_
  refine lv_iload_n hx hb dX10_sheetOf_8 rfl (lv_at hl 2 rfl) ?_
  refine lv_iconst (v := 1) hx hb dX10_sheetOf_9 (by decide) ?_
  refine lv_iadd hx hb dX10_sheetOf_10 ?_
  refine q_seti (y := nI (gg + 1)) (nI_add gg 1) ?_
  refine q_ci (k := 0) (n := 0) hK hP hD hS hA (fun hPc hKc hDc => q_rV (As := [.int (nI (gg + 1))]) (rest := []) hf (r_firstOf _ D h0 q cB cI_ cZ I F pn (gg + 1) Gp hI14 hpv.1 (by omega) hG _) k_1451 k_1448 k_1450 k_72 k_98 (nA := 1) (by decide +kernel) ⟨Nat.le_of_ble_eq_true rfl, Nat.le_of_ble_eq_true rfl⟩ hK hP (ci := 11) (q0 := 0) rfl rfl rfl hPc hKc hDc (fun _ _ _ _ h => h) (fun _ _ _ => trivial) rfl hl.1 rfl (Nat.le_of_ble_eq_true rfl) dX10_sheetOf_11 ⟨Nat.le_of_ble_eq_true rfl, Nat.le_of_ble_eq_true rfl⟩) (by decide) (by decide) (fun r u H locs hw hK hP hD hS => ?_)
  obtain ⟨rfl, rfl⟩ := hw
  have hP : va_P D vcl (mW h0 q cB cI_ cZ I F) H := hP
  have hD : va_D A (mW h0 q cB cI_ cZ I F) := hD
  refine lv_istore (lv' := [(5, .int (nI (rg_first Gp (gg + 1) pn 0))), (4, .int (nI (rg_first Gp gg pn 0))), (0, .ref h0), (1, .int (nI gg)), (2, .int (nI s1)), (3, .int x3)]) hx hb dX10_sheetOf_14 hl (by decide) rfl (fun ls hl => ?_)
  refine lv_iload hx hb dX10_sheetOf_16 (lv_at hl 1 rfl) ?_
  refine lv_iload hx hb dX10_sheetOf_18 (lv_at hl 0 rfl) ?_
  refine lv_icmp_ne (tgt := 34) hx hb dX10_sheetOf_20 (by decide) (fun c_1 => ?_) (fun c_1 => ?_)
  · have c_1 := q_nen (a := rg_first Gp gg pn 0) (b := rg_first Gp (gg + 1) pn 0) (by omega) (by omega) c_1
    have hfm := rg_first_mono Gp gg pn 0
    have hzz : ∀ p, p < rg_first Gp (gg + 1) pn 0 → 0 < To p - Fm p := fun p hp => by have := hpv.2 p (by omega); omega
    have hlt : rg_first Gp gg pn 0 < rg_first Gp (gg + 1) pn 0 := by omega
    have hr0 := hzz _ hlt
    obtain ⟨x, ex, hxf⟩ := rs_some (K := K) (Rr := Rr) (f := 40) hzz hmo1 hmo hlt hr0 (pb_le (rp_ra (K (rg_first Gp gg pn 0)) (Fm (rg_first Gp gg pn 0)) (rg_first Gp gg pn 0) 0 (rg_first Gp gg pn 0)))
    have hci : rs_cnt K Fm To Rr (rg_first Gp gg pn 0) (rg_first Gp (gg + 1) pn 0) mo 8000 (rg_first Gp gg pn 0) 0 = 1 + _ := rs_cnt_in (f := 7999) hlt ex
    have hn9 : s1 < rs_num K Fm To Rr Gp pn mo gg := by
      unfold rs_nm at hs1
      split at hs1
      · rename_i h9; unfold rs_num at h9; omega
      · exact hs1
    clear ex hxf hci
    refine lv_iload hx hb dX10_sheetOf_34 (lv_at hl 1 rfl) ?_
    refine lv_istore (lv' := [(6, .int (nI (rg_first Gp gg pn 0))), (5, .int (nI (rg_first Gp (gg + 1) pn 0))), (4, .int (nI (rg_first Gp gg pn 0))), (0, .ref h0), (1, .int (nI gg)), (2, .int (nI s1)), (3, .int x3)]) hx hb dX10_sheetOf_36 hl (by decide) rfl (fun ls hl => ?_)
    refine lv_iconst (v := 0) hx hb dX10_sheetOf_38 (by decide) ?_
    refine lv_istore (lv' := [(7, .int 0), (6, .int (nI (rg_first Gp gg pn 0))), (5, .int (nI (rg_first Gp (gg + 1) pn 0))), (4, .int (nI (rg_first Gp gg pn 0))), (0, .ref h0), (1, .int (nI gg)), (2, .int (nI s1)), (3, .int x3)]) hx hb dX10_sheetOf_39 hl (by decide) rfl (fun ls hl => ?_)
    refine lv_iconst (v := 0) hx hb dX10_sheetOf_41 (by decide) ?_
    refine lv_istore (lv' := [(8, .int 0), (7, .int 0), (6, .int (nI (rg_first Gp gg pn 0))), (5, .int (nI (rg_first Gp (gg + 1) pn 0))), (4, .int (nI (rg_first Gp gg pn 0))), (0, .ref h0), (1, .int (nI gg)), (2, .int (nI s1)), (3, .int x3)]) hx hb dX10_sheetOf_42 hl (by decide) rfl (fun ls hl => ?_)
    have hn8 := hnc gg
    refine lso_ (I := I) (F := F) (pn := pn) (pe := pe) (sl := sl) (K := K) (Fm := Fm) (To := To) (Rr := Rr) (fi := (rg_first Gp gg pn 0)) (en := (rg_first Gp (gg + 1) pn 0)) (mo := mo) (s1 := s1) (nn := rs_num K Fm To Rr Gp pn mo gg) (gg := gg) (x3 := x3) hpv hI2 hmo1 hmo (by omega) (by omega) hn9 hn8 (Nat.le_of_ble_eq_true rfl) (Nat.le_of_ble_eq_true rfl) (Nat.le_of_ble_eq_true rfl) (Nat.le_of_ble_eq_true rfl) hA hf hK s1 0 (rg_first Gp gg pn 0) 0 (I 25) (I 26) (I 27) _ _ ls (by omega) (by omega) (fun _ => hr0) (Nat.zero_add _) hP hD hS (lv_sub hl (l' := [(8, .int 0), (7, .int 0), (6, .int (nI (rg_first Gp gg pn 0))), (5, .int (nI (rg_first Gp (gg + 1) pn 0))), (4, .int (nI (rg_first Gp gg pn 0))), (3, .int x3), (2, .int (nI s1)), (0, .ref h0)]) [0, 1, 2, 3, 4, 8, 7, 5] rfl) (fun pp rr v1 v2 v3 H locs ls hpe hrp hP hD hS hl => ?_)
    have hP : va_P D vcl (mW h0 q cB cI_ cZ (upd (upd (upd I 25 v1) 26 v2) 27 v3) F) H := hP
    have hD : va_D A (mW h0 q cB cI_ cZ (upd (upd (upd I 25 v1) 26 v2) 27 v3) F) := hD
    refine lv_aload_n hx hb dX10_sheetOf_80 rfl (lv_at hl 5 rfl) ?_
    refine lv_iload hx hb dX10_sheetOf_81 (lv_at hl 1 rfl) ?_
    refine lv_iload hx hb dX10_sheetOf_83 (lv_at hl 0 rfl) ?_
    refine lv_iload hx hb dX10_sheetOf_85 (lv_at hl 3 rfl) ?_
    refine lv_iload hx hb dX10_sheetOf_87 (lv_at hl 2 rfl) ?_
    refine q_cv (k := 0) (n := 0) hK hP hD hS hA (fun hPc hKc hDc => q_rV (As := [.int (nI pp), .int (nI rr), .int (nI ((rg_first Gp gg pn 0))), .int (nI ((rg_first Gp (gg + 1) pn 0)))]) (rest := []) hf (r_laySheet _ D h0 q cB cI_ cZ (upd (upd (upd I 25 v1) 26 v2) 27 v3) F pn pe sl K Fm To Rr pp rr ((rg_first Gp gg pn 0)) ((rg_first Gp (gg + 1) pn 0)) mo hpv hI2 hmo1 hmo (by omega) (by omega) hrp (by omega) _) k_1455 k_1452 k_1454 k_73 k_98 (nA := 4) (by decide +kernel) ⟨Nat.le_of_ble_eq_true rfl, Nat.le_of_ble_eq_true rfl⟩ hK hP (ci := 11) (q0 := 0) rfl rfl rfl hPc hKc hDc (fun _ _ _ _ h => h) (fun _ _ _ => trivial) rfl hl.1 rfl (Nat.le_of_ble_eq_true rfl) dX10_sheetOf_89 ⟨Nat.le_of_ble_eq_true rfl, Nat.le_of_ble_eq_true rfl⟩) (by decide) (by decide) (fun u H locs hw hK hP hD hS => ?_)
    obtain ⟨b2, v1, v2, v3, a1, a2, rfl⟩ := hw
    obtain ⟨x, ex, hxf⟩ := rs_some (K := K) (Rr := Rr) (f := 40) hzz hmo1 hmo (show pp < (rg_first Gp (gg + 1) pn 0) by omega) hrp (pb_le (rp_ra (K pp) (Fm pp) pp rr ((rg_first Gp gg pn 0))))
    rw [a1.trans ex] at a2
    obtain ⟨rfl, rfl, rfl⟩ := a2
    have hP : va_P D vcl (mW h0 q cB cI_ cZ (upd (upd (upd I 25 (nI (x.1))) 26 (nI (x.2.1))) 27 (nI (x.2.2))) F) H := hP
    have hD : va_D A (mW h0 q cB cI_ cZ (upd (upd (upd I 25 (nI (x.1))) 26 (nI (x.2.1))) 27 (nI (x.2.2))) F) := hD
    have hx2 : x.2.1 ≤ 200 := by
      rcases Nat.lt_or_ge x.1 (rg_first Gp (gg + 1) pn 0) with h9 | h9
      · have h8 := hxf.2.2.1 h9; have h7 := hpv.2 x.1 (by omega); omega
      · have h8 := hxf.2.2.2.1 (by have := hxf.2.1; omega); omega
    have hxe := hxf.2.1
    refine lv_aload_n hx hb dX10_sheetOf_92 rfl (lv_at hl 5 rfl) ?_
    refine va_get (D := D) (ci := 11) (v := .int (nI (x.2.1))) (C := RX10) (T := TX10) (N := 48) hx hb hts inX10 hown hK hP 0 rfl rfl 26 (by decide) (hts _ k_1170) (fun _ h9 => h9) rfl dX10_sheetOf_93 ?_
    refine lv_if_le (tgt := 106) hx hb dX10_sheetOf_96 (by decide) (fun c_2 => ?_) (fun c_2 => ?_)
    · have c_2 := q_le (a := x.2.1) (b := 0) (by omega) (by omega) c_2
      have hx1 : 1 ≤ x.1 := by rcases hxf.1 with h9 | h9 <;> omega
      refine lv_aload_n hx hb dX10_sheetOf_106 rfl (lv_at hl 5 rfl) ?_
      refine va_get (D := D) (ci := 11) (v := .int (nI (x.1))) (C := RX10) (T := TX10) (N := 48) hx hb hts inX10 hown hK hP 0 rfl rfl 25 (by decide) (hts _ k_1169) (fun _ h9 => h9) rfl dX10_sheetOf_107 ?_
      refine lv_iconst (v := 1) hx hb dX10_sheetOf_110 (by decide) ?_
      refine lv_isub hx hb dX10_sheetOf_111 ?_
      refine q_seti (y := nI ((x.1) - 1)) (pk_sub (a := x.1) (b := 1) (by omega)) ?_
      refine lv_istore (lv' := [(8, .int (nI ((x.1) - 1))), (7, .int (nI rr)), (6, .int (nI pp)), (5, .int (nI ((rg_first Gp (gg + 1) pn 0)))), (4, .int (nI ((rg_first Gp gg pn 0)))), (3, .int x3), (0, .ref h0)]) hx hb dX10_sheetOf_112 hl (by decide) rfl (fun ls hl => ?_)
      have hxe := hxf.2.1
      refine lv_iload_n hx hb dX10_sheetOf_114 rfl (lv_at hl 5 rfl) ?_
      refine lv_if_ne (tgt := 125) hx hb dX10_sheetOf_115 (by decide) (fun c_3 => ?_) (fun c_3 => ?_)
      · refine lv_iload_n hx hb dX10_sheetOf_125 rfl (lv_at hl 5 rfl) ?_
        refine lv_iconst (v := 1) hx hb dX10_sheetOf_126 (by decide) ?_
        refine lv_icmp_ne (tgt := 140) hx hb dX10_sheetOf_127 (by decide) (fun c_4 => ?_) (fun c_4 => ?_)
        · refine lv_iload_n hx hb dX10_sheetOf_140 rfl (lv_at hl 5 rfl) ?_
          refine lv_iconst (v := 2) hx hb dX10_sheetOf_141 (by decide) ?_
          refine lv_icmp_ne (tgt := 155) hx hb dX10_sheetOf_142 (by decide) (fun c_5 => ?_) (fun c_5 => ?_)
          · refine lv_aload_n hx hb dX10_sheetOf_155 rfl (lv_at hl 6 rfl) ?_
            refine va_get (D := D) (ci := 11) (v := .ref (q 15)) (C := RX10) (T := TX10) (N := 48) hx hb hts inX10 hown hK hP 0 rfl rfl 15 (by decide) (hts _ k_1159) (fun _ h9 => h9) rfl dX10_sheetOf_156 ?_
            refine lv_iload hx hb dX10_sheetOf_159 (lv_at hl 0 rfl) ?_
            refine q_ild (X := (x.1) - 1) (f := (F 15)) hx hb hK hP 12 1 rfl rfl (by omega) (by decide) dX10_sheetOf_161 ?_
            exact q_zi hf hr rfl hlocks hK hP hD hS (Nat.le_of_ble_eq_true rfl) (Nat.le_of_ble_eq_true rfl) ⟨_, _, _, rfl⟩ dX10_sheetOf_162
          · refine lv_aload_n hx hb dX10_sheetOf_145 rfl (lv_at hl 6 rfl) ?_
            refine va_get (D := D) (ci := 11) (v := .ref (q 15)) (C := RX10) (T := TX10) (N := 48) hx hb hts inX10 hown hK hP 0 rfl rfl 15 (by decide) (hts _ k_1159) (fun _ h9 => h9) rfl dX10_sheetOf_146 ?_
            refine lv_iload hx hb dX10_sheetOf_149 (lv_at hl 2 rfl) ?_
            refine q_ild (X := pp) (f := (F 15)) hx hb hK hP 12 1 rfl rfl (by omega) (by decide) dX10_sheetOf_151 ?_
            refine lv_goto (tgt := 162) hx hb dX10_sheetOf_152 (by decide) ?_
            exact q_zi hf hr rfl hlocks hK hP hD hS (Nat.le_of_ble_eq_true rfl) (Nat.le_of_ble_eq_true rfl) ⟨_, _, _, rfl⟩ dX10_sheetOf_162
        · refine lv_iload hx hb dX10_sheetOf_130 (lv_at hl 0 rfl) ?_
          refine lv_iload hx hb dX10_sheetOf_132 (lv_at hl 2 rfl) ?_
          refine lv_isub hx hb dX10_sheetOf_134 ?_
          refine lv_iconst (v := 1) hx hb dX10_sheetOf_135 (by decide) ?_
          refine lv_iadd hx hb dX10_sheetOf_136 ?_
          refine lv_goto (tgt := 162) hx hb dX10_sheetOf_137 (by decide) ?_
          exact q_zi hf hr rfl hlocks hK hP hD hS (Nat.le_of_ble_eq_true rfl) (Nat.le_of_ble_eq_true rfl) ⟨_, _, _, rfl⟩ dX10_sheetOf_162
      · refine lv_aload_n hx hb dX10_sheetOf_118 rfl (lv_at hl 6 rfl) ?_
        refine va_get (D := D) (ci := 11) (v := .int (nI (x.2.2))) (C := RX10) (T := TX10) (N := 48) hx hb hts inX10 hown hK hP 0 rfl rfl 27 (by decide) (hts _ k_1171) (fun _ h9 => h9) rfl dX10_sheetOf_119 ?_
        refine lv_goto (tgt := 162) hx hb dX10_sheetOf_122 (by decide) ?_
        exact q_zi hf hr rfl hlocks hK hP hD hS (Nat.le_of_ble_eq_true rfl) (Nat.le_of_ble_eq_true rfl) ⟨_, _, _, rfl⟩ dX10_sheetOf_162
    · have c_2 := q_nle (a := x.2.1) (b := 0) (by omega) (by omega) c_2
      have hx3 : x.1 < rg_first Gp (gg + 1) pn 0 := by
        by_cases c9 : x.1 = rg_first Gp (gg + 1) pn 0
        · have h8 := hxf.2.2.2.1 c9; omega
        · omega
      refine lv_aload_n hx hb dX10_sheetOf_99 rfl (lv_at hl 5 rfl) ?_
      refine va_get (D := D) (ci := 11) (v := .int (nI (x.1))) (C := RX10) (T := TX10) (N := 48) hx hb hts inX10 hown hK hP 0 rfl rfl 25 (by decide) (hts _ k_1169) (fun _ h9 => h9) rfl dX10_sheetOf_100 ?_
      refine lv_goto (tgt := 112) hx hb dX10_sheetOf_103 (by decide) ?_
      refine lv_istore (lv' := [(8, .int (nI (x.1))), (7, .int (nI rr)), (6, .int (nI pp)), (5, .int (nI ((rg_first Gp (gg + 1) pn 0)))), (4, .int (nI ((rg_first Gp gg pn 0)))), (3, .int x3), (0, .ref h0)]) hx hb dX10_sheetOf_112 hl (by decide) rfl (fun ls hl => ?_)
      have hxe := hxf.2.1
      refine lv_iload_n hx hb dX10_sheetOf_114 rfl (lv_at hl 5 rfl) ?_
      refine lv_if_ne (tgt := 125) hx hb dX10_sheetOf_115 (by decide) (fun c_6 => ?_) (fun c_6 => ?_)
      · refine lv_iload_n hx hb dX10_sheetOf_125 rfl (lv_at hl 5 rfl) ?_
        refine lv_iconst (v := 1) hx hb dX10_sheetOf_126 (by decide) ?_
        refine lv_icmp_ne (tgt := 140) hx hb dX10_sheetOf_127 (by decide) (fun c_7 => ?_) (fun c_7 => ?_)
        · refine lv_iload_n hx hb dX10_sheetOf_140 rfl (lv_at hl 5 rfl) ?_
          refine lv_iconst (v := 2) hx hb dX10_sheetOf_141 (by decide) ?_
          refine lv_icmp_ne (tgt := 155) hx hb dX10_sheetOf_142 (by decide) (fun c_8 => ?_) (fun c_8 => ?_)
          · refine lv_aload_n hx hb dX10_sheetOf_155 rfl (lv_at hl 6 rfl) ?_
            refine va_get (D := D) (ci := 11) (v := .ref (q 15)) (C := RX10) (T := TX10) (N := 48) hx hb hts inX10 hown hK hP 0 rfl rfl 15 (by decide) (hts _ k_1159) (fun _ h9 => h9) rfl dX10_sheetOf_156 ?_
            refine lv_iload hx hb dX10_sheetOf_159 (lv_at hl 0 rfl) ?_
            refine q_ild (X := x.1) (f := (F 15)) hx hb hK hP 12 1 rfl rfl (by omega) (by decide) dX10_sheetOf_161 ?_
            exact q_zi hf hr rfl hlocks hK hP hD hS (Nat.le_of_ble_eq_true rfl) (Nat.le_of_ble_eq_true rfl) ⟨_, _, _, rfl⟩ dX10_sheetOf_162
          · refine lv_aload_n hx hb dX10_sheetOf_145 rfl (lv_at hl 6 rfl) ?_
            refine va_get (D := D) (ci := 11) (v := .ref (q 15)) (C := RX10) (T := TX10) (N := 48) hx hb hts inX10 hown hK hP 0 rfl rfl 15 (by decide) (hts _ k_1159) (fun _ h9 => h9) rfl dX10_sheetOf_146 ?_
            refine lv_iload hx hb dX10_sheetOf_149 (lv_at hl 2 rfl) ?_
            refine q_ild (X := pp) (f := (F 15)) hx hb hK hP 12 1 rfl rfl (by omega) (by decide) dX10_sheetOf_151 ?_
            refine lv_goto (tgt := 162) hx hb dX10_sheetOf_152 (by decide) ?_
            exact q_zi hf hr rfl hlocks hK hP hD hS (Nat.le_of_ble_eq_true rfl) (Nat.le_of_ble_eq_true rfl) ⟨_, _, _, rfl⟩ dX10_sheetOf_162
        · refine lv_iload hx hb dX10_sheetOf_130 (lv_at hl 0 rfl) ?_
          refine lv_iload hx hb dX10_sheetOf_132 (lv_at hl 2 rfl) ?_
          refine lv_isub hx hb dX10_sheetOf_134 ?_
          refine lv_iconst (v := 1) hx hb dX10_sheetOf_135 (by decide) ?_
          refine lv_iadd hx hb dX10_sheetOf_136 ?_
          refine lv_goto (tgt := 162) hx hb dX10_sheetOf_137 (by decide) ?_
          exact q_zi hf hr rfl hlocks hK hP hD hS (Nat.le_of_ble_eq_true rfl) (Nat.le_of_ble_eq_true rfl) ⟨_, _, _, rfl⟩ dX10_sheetOf_162
      · refine lv_aload_n hx hb dX10_sheetOf_118 rfl (lv_at hl 6 rfl) ?_
        refine va_get (D := D) (ci := 11) (v := .int (nI (x.2.2))) (C := RX10) (T := TX10) (N := 48) hx hb hts inX10 hown hK hP 0 rfl rfl 27 (by decide) (hts _ k_1171) (fun _ h9 => h9) rfl dX10_sheetOf_119 ?_
        refine lv_goto (tgt := 162) hx hb dX10_sheetOf_122 (by decide) ?_
        exact q_zi hf hr rfl hlocks hK hP hD hS (Nat.le_of_ble_eq_true rfl) (Nat.le_of_ble_eq_true rfl) ⟨_, _, _, rfl⟩ dX10_sheetOf_162
  · have c_1 := q_eqn (a := rg_first Gp gg pn 0) (b := rg_first Gp (gg + 1) pn 0) (by omega) (by omega) c_1
    refine lv_iload_n hx hb dX10_sheetOf_23 rfl (lv_at hl 5 rfl) ?_
    refine lv_iconst (v := 2) hx hb dX10_sheetOf_24 (by decide) ?_
    refine lv_icmp_ge (tgt := 32) hx hb dX10_sheetOf_25 (by decide) (fun c_9 => ?_) (fun c_9 => ?_)
    · refine lv_iconst (v := (-1)) hx hb dX10_sheetOf_32 (by decide) ?_
      exact q_zi hf hr rfl hlocks hK hP hD hS (Nat.le_of_ble_eq_true rfl) (Nat.le_of_ble_eq_true rfl) ⟨I 25, I 26, I 27, by rw [upd_id9, upd_id9, upd_id9]⟩ dX10_sheetOf_33
    · refine lv_iconst (v := 0) hx hb dX10_sheetOf_28 (by decide) ?_
      refine lv_goto (tgt := 33) hx hb dX10_sheetOf_29 (by decide) ?_
      exact q_zi hf hr rfl hlocks hK hP hD hS (Nat.le_of_ble_eq_true rfl) (Nat.le_of_ble_eq_true rfl) ⟨I 25, I 26, I 27, by rw [upd_id9, upd_id9, upd_id9]⟩ dX10_sheetOf_33
set_option maxHeartbeats 1000000 in
set_option maxRecDepth 100000 in
theorem r_sheet (l : Launch) (D : va_G) (h0 : Nat) (q : Nat → Nat) (cB cI_ cZ : ClassId) (I : Nat → Int32) (F : Nat → Nat → Int32) (pn lk gs : Nat) (pe sl : Nat → Nat) (K : Nat → Int32) (Fm To Rr : Nat → Nat) (mo : Nat) (Gp : Nat → Nat) (x1 x2 x3 : Int32) (hpv : rp_ok F pn pe sl K Fm To Rr) (hI2 : I 2 = nI mo) (hI14 : I 14 = nI pn) (hI20 : I 20 = nI lk) (hI19 : 0 < lk → I 19 = nI gs) (hlk : lk ≤ 1) (hgs : gs ≤ 8000) (hmo1 : 10 ≤ mo) (hmo : mo ≤ 40) (hSS : rs_S Fm To pn ≤ 8000) (hG : ∀ p, p < pn → F 18 p = nI (Gp p) ∧ Gp p ≤ 8000) (hnc : ∀ g, rs_num K Fm To Rr Gp pn mo g ≤ 8000) : cI l D yX10_sheet cX10_sheet 4 (some .int) 6 180 0 0 [.ref h0, .int x1, .int x2, .int x3] zT (mW h0 q cB cI_ cZ I F) (mT cB cI_ cZ) (fun r u => (∃ (I2 : Nat → Int32) (F2 : Nat → Nat → Int32), sm I I2 F F2 ∧ u = (mW h0 q cB cI_ cZ I2 F2, mT cB cI_ cZ))) := by
  refine q_si (by decide) (Nat.le_of_ble_eq_true rfl) ?_
  intro p e s m below meth c A ls hAe hf hr hlocks hin hK hP hD hS hA hZ hl
  obtain ⟨hx, hb, hml, hown, hts⟩ := id hf
  have hl : lv_has ls 4 [(0, .ref h0), (1, .int x1), (2, .int x2), (3, .int x3)] := hl
  have hpn8 := hpv.1
  refine lv_iload_n hx hb dX10_sheet_0 rfl (lv_at hl 3 rfl) ?_
  refine lv_iconst (v := 0) hx hb dX10_sheet_1 (by decide) ?_
  refine lv_iconst (v := 3) hx hb dX10_sheet_2 (by decide) ?_
  refine q_ei (k := 0) (n := 0) hP hS hA (q_rS (wc := []) (tc := []) (As := [.int x3, .int 0, .int 3]) (rest := []) hf (m_X10_in_1 _ D x3 0 3 _) k_1296 k_1294 k_1295 k_98 (nA := 3) (by decide +kernel) ⟨Nat.le_of_ble_eq_true rfl, Nat.le_of_ble_eq_true rfl⟩ (fun k q h => by simp at h) (hK.sub (tys' := []) [] rfl) (A := A) ⟨fun i j p q h => by simp at h, fun k q h => by simp at h⟩ (fun _ _ _ _ h => h) (fun _ _ _ => trivial) rfl hl.1 rfl (Nat.le_of_ble_eq_true rfl) dX10_sheet_3 ⟨Nat.le_of_ble_eq_true rfl, Nat.le_of_ble_eq_true rfl⟩) (by decide) (by decide) (fun r u H locs hw hP hS => ?_)
  rcases hw with ⟨c_1, rfl, rfl⟩ | ⟨c_2, c_3, rfl, rfl⟩ | ⟨c_4, c_5, rfl, rfl⟩
  · refine lv_if_ne (tgt := 12) hx hb dX10_sheet_6 (by decide) (fun hno => absurd hno (by decide)) (fun _ => ?_)
    refine lv_bipush (v := (-2)) hx hb dX10_sheet_9 (by decide) ?_
    exact q_zi hf hr rfl hlocks hK hP hD hS (Nat.le_of_ble_eq_true rfl) (Nat.le_of_ble_eq_true rfl) ⟨I, F, ⟨⟨rfl, rfl, rfl⟩, ⟨rfl, rfl, rfl⟩, ⟨rfl, rfl, rfl, rfl, rfl, rfl, rfl, rfl, rfl, rfl, rfl⟩, rfl, rfl, rfl, rfl⟩, rfl⟩ dX10_sheet_11
  · refine lv_if_ne (tgt := 12) hx hb dX10_sheet_6 (by decide) (fun hno => absurd hno (by decide)) (fun _ => ?_)
    refine lv_bipush (v := (-2)) hx hb dX10_sheet_9 (by decide) ?_
    exact q_zi hf hr rfl hlocks hK hP hD hS (Nat.le_of_ble_eq_true rfl) (Nat.le_of_ble_eq_true rfl) ⟨I, F, ⟨⟨rfl, rfl, rfl⟩, ⟨rfl, rfl, rfl⟩, ⟨rfl, rfl, rfl, rfl, rfl, rfl, rfl, rfl, rfl, rfl, rfl⟩, rfl, rfl, rfl, rfl⟩, rfl⟩ dX10_sheet_11
  · refine lv_if_ne (tgt := 12) hx hb dX10_sheet_6 (by decide) (fun _ => ?_) (fun hno => absurd hno (by decide))
    refine lv_aload_n hx hb dX10_sheet_12 rfl (lv_at hl 0 rfl) ?_
    refine va_get (D := D) (ci := 11) (v := .int (I 20)) (C := RX10) (T := TX10) (N := 48) hx hb hts inX10 hown hK hP 0 rfl rfl 20 (by decide) (hts _ k_1164) (fun _ h9 => h9) rfl dX10_sheet_13 ?_
    refine q_seti (y := (nI lk)) hI20 ?_
    refine lv_if_ne (tgt := 22) hx hb dX10_sheet_16 (by decide) (fun c_6 => ?_) (fun c_6 => ?_)
    · have c_6 := q_nen (a := lk) (b := 0) (by omega) (by omega) c_6
      refine lv_aload_n hx hb dX10_sheet_22 rfl (lv_at hl 0 rfl) ?_
      refine lv_iload_n hx hb dX10_sheet_23 rfl (lv_at hl 1 rfl) ?_
      refine q_ci (k := 0) (n := 0) hK hP hD hS hA (fun hPc hKc hDc => q_rV (As := [.int x1]) (rest := []) hf (r_isGroup _ D h0 q cB cI_ cZ I F gs x1 (hI19 (by omega)) hgs _) k_1463 k_1460 k_1462 k_74 k_98 (nA := 1) (by decide +kernel) ⟨Nat.le_of_ble_eq_true rfl, Nat.le_of_ble_eq_true rfl⟩ hK hP (ci := 11) (q0 := 0) rfl rfl rfl hPc hKc hDc (fun _ _ _ _ h => h) (fun _ _ _ => trivial) rfl hl.1 rfl (Nat.le_of_ble_eq_true rfl) dX10_sheet_24 ⟨Nat.le_of_ble_eq_true rfl, Nat.le_of_ble_eq_true rfl⟩) (by decide) (by decide) (fun r u H locs hw hK hP hD hS => ?_)
      rcases hw with ⟨⟨c_7, rfl⟩ | ⟨c_7, rfl⟩, rfl⟩
      · have hP : va_P D vcl (mW h0 q cB cI_ cZ I F) H := hP
        have hD : va_D A (mW h0 q cB cI_ cZ I F) := hD
        refine lv_if_eq (tgt := 59) hx hb dX10_sheet_27 (by decide) (fun hno => absurd hno (by decide)) (fun _ => ?_)
        obtain ⟨g1, hg1, rfl⟩ := c_7
        have hl : lv_has ls 4 [(0, .ref h0), (1, .int (nI (g1 + 1))), (2, .int x2), (3, .int x3)] := hl
        refine lv_iload_n hx hb dX10_sheet_30 rfl (lv_at hl 2 rfl) ?_
        refine lv_iconst (v := 0) hx hb dX10_sheet_31 (by decide) ?_
        refine lv_aload_n hx hb dX10_sheet_32 rfl (lv_at hl 0 rfl) ?_
        refine lv_iload_n hx hb dX10_sheet_33 rfl (lv_at hl 1 rfl) ?_
        refine lv_iconst (v := 1) hx hb dX10_sheet_34 (by decide) ?_
        refine lv_isub hx hb dX10_sheet_35 ?_
        refine q_seti (y := nI ((g1 + 1) - 1)) (pk_sub (a := g1 + 1) (b := 1) (by omega)) ?_
        refine q_seti (y := nI g1) (congrArg nI (show (g1 + 1) - 1 = g1 by omega)) ?_
        refine q_ci (k := 0) (n := 0) hK hP hD hS hA (fun hPc hKc hDc => q_rV (As := [.int (nI g1)]) (rest := [.int 0, .int x2]) hf (r_sheetsOf _ D h0 q cB cI_ cZ I F pn pe sl K Fm To Rr mo g1 Gp hpv hI2 hmo1 hmo hI14 hG (by omega) hSS (hnc _) _) k_1447 k_1444 k_1446 k_71 k_98 (nA := 1) (by decide +kernel) ⟨Nat.le_of_ble_eq_true rfl, Nat.le_of_ble_eq_true rfl⟩ hK hP (ci := 11) (q0 := 0) rfl rfl rfl hPc hKc hDc (fun _ _ _ _ h => h) (fun _ _ _ => trivial) rfl hl.1 rfl (Nat.le_of_ble_eq_true rfl) dX10_sheet_36 ⟨Nat.le_of_ble_eq_true rfl, Nat.le_of_ble_eq_true rfl⟩) (by decide) (by decide) (fun r u H locs hw hK hP hD hS => ?_)
        obtain ⟨v1, v2, v3, hr9, rfl⟩ := hw
        obtain ⟨ns, hns, rfl⟩ : ∃ ns : Nat, ns = rs_nm K Fm To Rr Gp pn mo g1 ∧ r = nI ns := ⟨_, rfl, hr9⟩
        have hns8 : 1 ≤ ns ∧ ns ≤ 8000 := by
          have h9 := hnc g1
          rw [hns]; unfold rs_nm; split <;> omega
        have hP : va_P D vcl (mW h0 q cB cI_ cZ (upd (upd (upd I 25 v1) 26 v2) 27 v3) F) H := hP
        have hD : va_D A (mW h0 q cB cI_ cZ (upd (upd (upd I 25 v1) 26 v2) 27 v3) F) := hD
        refine lv_iconst (v := 1) hx hb dX10_sheet_39 (by decide) ?_
        refine lv_isub hx hb dX10_sheet_40 ?_
        refine q_ei (k := 0) (n := 0) hP hS hA (q_rS (wc := []) (tc := []) (As := [.int x2, .int 0, .int ((nI ns) - 1)]) (rest := []) hf (m_X10_in_1 _ D x2 0 ((nI ns) - 1) _) k_1296 k_1294 k_1295 k_98 (nA := 3) (by decide +kernel) ⟨Nat.le_of_ble_eq_true rfl, Nat.le_of_ble_eq_true rfl⟩ (fun k q h => by simp at h) (hK.sub (tys' := []) [] rfl) (A := A) ⟨fun i j p q h => by simp at h, fun k q h => by simp at h⟩ (fun _ _ _ _ h => h) (fun _ _ _ => trivial) rfl hl.1 rfl (Nat.le_of_ble_eq_true rfl) dX10_sheet_41 ⟨Nat.le_of_ble_eq_true rfl, Nat.le_of_ble_eq_true rfl⟩) (by decide) (by decide) (fun r u H locs hw hP hS => ?_)
        rcases hw with ⟨c_8, rfl, rfl⟩ | ⟨c_9, c_10, rfl, rfl⟩ | ⟨c_11, c_12, rfl, rfl⟩
        · refine lv_if_eq (tgt := 59) hx hb dX10_sheet_44 (by decide) (fun _ => ?_) (fun hno => absurd hno (by decide))
          refine lv_bipush (v := (-2)) hx hb dX10_sheet_59 (by decide) ?_
          exact q_zi hf hr rfl hlocks hK hP hD hS (Nat.le_of_ble_eq_true rfl) (Nat.le_of_ble_eq_true rfl) ⟨(upd (upd (upd I 25 v1) 26 v2) 27 v3), F, ⟨⟨rfl, rfl, rfl⟩, ⟨rfl, rfl, rfl⟩, ⟨rfl, rfl, rfl, rfl, rfl, rfl, rfl, rfl, rfl, rfl, rfl⟩, rfl, rfl, rfl, rfl⟩, rfl⟩ dX10_sheet_61
        · refine lv_if_eq (tgt := 59) hx hb dX10_sheet_44 (by decide) (fun _ => ?_) (fun hno => absurd hno (by decide))
          refine lv_bipush (v := (-2)) hx hb dX10_sheet_59 (by decide) ?_
          exact q_zi hf hr rfl hlocks hK hP hD hS (Nat.le_of_ble_eq_true rfl) (Nat.le_of_ble_eq_true rfl) ⟨(upd (upd (upd I 25 v1) 26 v2) 27 v3), F, ⟨⟨rfl, rfl, rfl⟩, ⟨rfl, rfl, rfl⟩, ⟨rfl, rfl, rfl, rfl, rfl, rfl, rfl, rfl, rfl, rfl, rfl⟩, rfl, rfl, rfl, rfl⟩, rfl⟩ dX10_sheet_61
        · refine lv_if_eq (tgt := 59) hx hb dX10_sheet_44 (by decide) (fun hno => absurd hno (by decide)) (fun _ => ?_)
          obtain ⟨s1, hs1, rfl⟩ := ie_1 (by omega) c_11 c_12
          have hl : lv_has ls 4 [(0, .ref h0), (1, .int (nI (g1 + 1))), (2, .int (nI s1)), (3, .int x3)] := hl
          refine lv_aload_n hx hb dX10_sheet_47 rfl (lv_at hl 0 rfl) ?_
          refine lv_iload_n hx hb dX10_sheet_48 rfl (lv_at hl 1 rfl) ?_
          refine lv_iconst (v := 1) hx hb dX10_sheet_49 (by decide) ?_
          refine lv_isub hx hb dX10_sheet_50 ?_
          refine q_seti (y := nI ((g1 + 1) - 1)) (pk_sub (a := g1 + 1) (b := 1) (by omega)) ?_
          refine q_seti (y := nI g1) (congrArg nI (show (g1 + 1) - 1 = g1 by omega)) ?_
          refine lv_iload_n hx hb dX10_sheet_51 rfl (lv_at hl 2 rfl) ?_
          refine lv_iload_n hx hb dX10_sheet_52 rfl (lv_at hl 3 rfl) ?_
          refine q_ci (k := 0) (n := 0) hK hP hD hS hA (fun hPc hKc hDc => q_rV (As := [.int (nI g1), .int (nI s1), .int x3]) (rest := []) hf (r_sheetOf _ D h0 q cB cI_ cZ (upd (upd (upd I 25 v1) 26 v2) 27 v3) F pn pe sl K Fm To Rr mo Gp g1 s1 x3 hpv hI2 hI14 hmo1 hmo hSS hG (by omega) hnc (by rw [← hns]; omega) _) k_1471 k_1468 k_1470 k_75 k_98 (nA := 3) (by decide +kernel) ⟨Nat.le_of_ble_eq_true rfl, Nat.le_of_ble_eq_true rfl⟩ hK hP (ci := 11) (q0 := 0) rfl rfl rfl hPc hKc hDc (fun _ _ _ _ h => h) (fun _ _ _ => trivial) rfl hl.1 rfl (Nat.le_of_ble_eq_true rfl) dX10_sheet_53 ⟨Nat.le_of_ble_eq_true rfl, Nat.le_of_ble_eq_true rfl⟩) (by decide) (by decide) (fun r u H locs hw hK hP hD hS => ?_)
          obtain ⟨v4, v5, v6, rfl⟩ := hw
          have hP : va_P D vcl (mW h0 q cB cI_ cZ (upd (upd (upd I 25 v4) 26 v5) 27 v6) F) H := hP
          have hD : va_D A (mW h0 q cB cI_ cZ (upd (upd (upd I 25 v4) 26 v5) 27 v6) F) := hD
          refine lv_goto (tgt := 61) hx hb dX10_sheet_56 (by decide) ?_
          exact q_zi hf hr rfl hlocks hK hP hD hS (Nat.le_of_ble_eq_true rfl) (Nat.le_of_ble_eq_true rfl) ⟨(upd (upd (upd I 25 v4) 26 v5) 27 v6), F, ⟨⟨rfl, rfl, rfl⟩, ⟨rfl, rfl, rfl⟩, ⟨rfl, rfl, rfl, rfl, rfl, rfl, rfl, rfl, rfl, rfl, rfl⟩, rfl, rfl, rfl, rfl⟩, rfl⟩ dX10_sheet_61
      · have hP : va_P D vcl (mW h0 q cB cI_ cZ I F) H := hP
        have hD : va_D A (mW h0 q cB cI_ cZ I F) := hD
        refine lv_if_eq (tgt := 59) hx hb dX10_sheet_27 (by decide) (fun _ => ?_) (fun hno => absurd hno (by decide))
        refine lv_bipush (v := (-2)) hx hb dX10_sheet_59 (by decide) ?_
        exact q_zi hf hr rfl hlocks hK hP hD hS (Nat.le_of_ble_eq_true rfl) (Nat.le_of_ble_eq_true rfl) ⟨I, F, ⟨⟨rfl, rfl, rfl⟩, ⟨rfl, rfl, rfl⟩, ⟨rfl, rfl, rfl, rfl, rfl, rfl, rfl, rfl, rfl, rfl, rfl⟩, rfl, rfl, rfl, rfl⟩, rfl⟩ dX10_sheet_61
    · have c_6 := q_eqn (a := lk) (b := 0) (by omega) (by omega) c_6
      refine lv_bipush (v := (-3)) hx hb dX10_sheet_19 (by decide) ?_
      exact q_zi hf hr rfl hlocks hK hP hD hS (Nat.le_of_ble_eq_true rfl) (Nat.le_of_ble_eq_true rfl) ⟨I, F, ⟨⟨rfl, rfl, rfl⟩, ⟨rfl, rfl, rfl⟩, ⟨rfl, rfl, rfl, rfl, rfl, rfl, rfl, rfl, rfl, rfl, rfl⟩, rfl, rfl, rfl, rfl⟩, rfl⟩ dX10_sheet_21
set_option maxHeartbeats 1000000 in
set_option maxRecDepth 100000 in
theorem lw_a {p : Program} {l : Launch} {e : Env} {R : Room} {s : State} {m : MethodId} {args : Array Value} {below : List Frame} {meth : Method} {c : Code} {cells slots : Nat} {Q : State → Prop} {D : va_G} {A : Nat → Prop} {h0 : Nat} {q : Nat → Nat} {cB cI cZ : ClassId} {I : Nat → Int32} {F : Nat → Nat → Int32} {pn j pl : Nat} {P : List Q4} (hpl9 : P.length = pn) (hpn : pn ≤ 8000) (hpcF : pc_is P (F 15) (F 16) (F 17) (F 18)) (hpb : ∀ i, i < pn → (P.getD i d4).1 < 60) (hj60 : j < 60) (hpl : pl < pn) (hplj : (P.getD pl d4).1 = j) (hfst : ∀ i, i < pl → ¬ (P.getD i d4).1 = j) (hRf : 0 ≤ R.frames) (hRl : 0 ≤ R.locals) (hRc : cells ≤ R.cells) (hRs : slots ≤ R.slots) (hA : ∀ q : Nat, s.heap.size ≤ q → A q) (hf : CallFix p m c cX10_where 7 s args gT yX10_where.cls) (hK : va_K D vcl (mT cB cI cZ) s) :
    ∀ (k : Nat) (i : Nat) (H : Heap) (locs : List Loc) (ls : Array Slot), i + k = pl →  va_P D vcl (mW h0 q cB cI cZ I F) H → va_D A (mW h0 q cB cI cZ I F) → va_S A s.heap H locs → lv_has ls 7 [(2, .int (nI i)), (1, .int (nI j)), (0, .ref h0)] →
    (∀  (H : Heap) (locs : List Loc) (ls : Array Slot), va_P D vcl (mW h0 q cB cI cZ I F) H → va_D A (mW h0 q cB cI cZ I F) → va_S A s.heap H locs → lv_has ls 7 [(2, .int (nI pl)), (1, .int (nI j)), (0, .ref h0)] → W p l e R s m args below meth c H locs cells slots Q (F0 m 55 ls [])) →
    W p l e R s m args below meth c H locs cells slots Q (F0 m 39 ls []) := by
  obtain ⟨hx, hb, hml, hown, hts⟩ := id hf
  intro k
  induction k with
  | zero =>
    intro i H locs ls hik hP hD hS hl kk
    have hpbi := hpb i (by omega)
    refine lv_aload_n hx hb dX10_where_39 rfl (lv_at hl 2 rfl) ?_
    refine va_get (D := D) (ci := 11) (v := .ref (q 15)) (C := RX10) (T := TX10) (N := 48) hx hb hts inX10 hown hK hP 0 rfl rfl 15 (by decide) (hts _ k_1159) (fun _ h9 => h9) rfl dX10_where_40 ?_
    refine lv_iload_n hx hb dX10_where_43 rfl (lv_at hl 0 rfl) ?_
    refine q_ild (X := i) (f := (F 15)) hx hb hK hP 12 1 rfl rfl (by omega) (by decide) dX10_where_44 ?_
    refine q_seti (y := (nI ((P.getD i d4).1))) (hpcF i (by omega)).1 ?_
    refine lv_iload_n hx hb dX10_where_45 rfl (lv_at hl 1 rfl) ?_
    refine lv_icmp_eq (tgt := 55) hx hb dX10_where_46 (by decide) (fun c_1 => ?_) (fun c_1 => ?_)
    · have c_1 := q_eqn (a := (P.getD i d4).1) (b := j) (by omega) (by omega) c_1
      obtain rfl : pl = i := by omega
      exact kk H locs ls hP hD hS (lv_sub hl (l' := [(2, .int (nI pl)), (1, .int (nI j)), (0, .ref h0)]) [0, 1, 2] rfl)
    · have c_1 := q_nen (a := (P.getD i d4).1) (b := j) (by omega) (by omega) c_1
      refine lv_iinc (v := (nI (i + 1))) (lv' := [(2, .int (nI (i + 1))), (1, .int (nI j)), (0, .ref h0)]) hx hb dX10_where_49 hl (k := 0) rfl (nI_add i 1) (by decide) rfl (fun ls hl => ?_)
      refine lv_goto (tgt := 39) hx hb dX10_where_52 (by decide) ?_
      exact absurd (show (P.getD i d4).1 = j by rw [show i = pl by omega]; exact hplj) (by omega)
  | succ k ih =>
    intro i H locs ls hik hP hD hS hl kk
    have hpbi := hpb i (by omega)
    refine lv_aload_n hx hb dX10_where_39 rfl (lv_at hl 2 rfl) ?_
    refine va_get (D := D) (ci := 11) (v := .ref (q 15)) (C := RX10) (T := TX10) (N := 48) hx hb hts inX10 hown hK hP 0 rfl rfl 15 (by decide) (hts _ k_1159) (fun _ h9 => h9) rfl dX10_where_40 ?_
    refine lv_iload_n hx hb dX10_where_43 rfl (lv_at hl 0 rfl) ?_
    refine q_ild (X := i) (f := (F 15)) hx hb hK hP 12 1 rfl rfl (by omega) (by decide) dX10_where_44 ?_
    refine q_seti (y := (nI ((P.getD i d4).1))) (hpcF i (by omega)).1 ?_
    refine lv_iload_n hx hb dX10_where_45 rfl (lv_at hl 1 rfl) ?_
    refine lv_icmp_eq (tgt := 55) hx hb dX10_where_46 (by decide) (fun c_1 => ?_) (fun c_1 => ?_)
    · have c_1 := q_eqn (a := (P.getD i d4).1) (b := j) (by omega) (by omega) c_1
      exact absurd (show (P.getD i d4).1 = j by omega) (hfst i (by omega))
    · have c_1 := q_nen (a := (P.getD i d4).1) (b := j) (by omega) (by omega) c_1
      refine lv_iinc (v := (nI (i + 1))) (lv' := [(2, .int (nI (i + 1))), (1, .int (nI j)), (0, .ref h0)]) hx hb dX10_where_49 hl (k := 0) rfl (nI_add i 1) (by decide) rfl (fun ls hl => ?_)
      refine lv_goto (tgt := 39) hx hb dX10_where_52 (by decide) ?_
      exact ih (i + 1) H locs ls (by omega) hP hD hS (lv_sub hl (l' := [(2, .int (nI (i + 1))), (1, .int (nI j)), (0, .ref h0)]) [0, 1, 2] rfl) kk
set_option maxHeartbeats 1000000 in
set_option maxRecDepth 100000 in
theorem lw_b {p : Program} {l : Launch} {e : Env} {R : Room} {s : State} {m : MethodId} {args : Array Value} {below : List Frame} {meth : Method} {c : Code} {cells slots : Nat} {Q : State → Prop} {D : va_G} {A : Nat → Prop} {h0 : Nat} {q : Nat → Nat} {cB cI cZ : ClassId} {I : Nat → Int32} {F : Nat → Nat → Int32} {pn : Nat} {pe sl : Nat → Nat} {K : Nat → Int32} {Fm To Rr : Nat → Nat} {fi en mo pl gg : Nat} (hpv : rp_ok F pn pe sl K Fm To Rr) (hI2 : I 2 = nI mo) (hmo1 : 10 ≤ mo) (hmo : mo ≤ 40) (hen : en ≤ pn) (hfi : fi ≤ 8000) (hple : pl < en) (hgg : gg ≤ 8000) (hRf : 4 ≤ R.frames) (hRl : 130 ≤ R.locals) (hRc : cells ≤ R.cells) (hRs : slots ≤ R.slots) (hA : ∀ q : Nat, s.heap.size ≤ q → A q) (hf : CallFix p m c cX10_where 7 s args gT yX10_where.cls) (hK : va_K D vcl (mT cB cI cZ) s) :
    ∀ (k : Nat) (pp : Nat) (rr : Nat) (v27 : Int32) (v : Int32) (H : Heap) (locs : List Loc) (ls : Array Slot), rs_S Fm To en ≤ rs_S Fm To pp + rr + k → pp ≤ en → (pp < en → rr < To pp - Fm pp) →  va_P D vcl (mW h0 q cB cI cZ (upd (upd (upd I 25 (nI pp)) 26 (nI rr)) 27 v27) F) H → va_D A (mW h0 q cB cI cZ (upd (upd (upd I 25 (nI pp)) 26 (nI rr)) 27 v27) F) → va_S A s.heap H locs → lv_has ls 7 [(6, .int v), (5, .int (nI en)), (4, .int (nI fi)), (3, .int (nI gg)), (2, .int (nI pl)), (0, .ref h0)] →
    (∀ (v : Int32) (v1 : Int32) (v2 : Int32) (v3 : Int32) (H : Heap) (locs : List Loc) (ls : Array Slot), va_P D vcl (mW h0 q cB cI cZ (upd (upd (upd I 25 v1) 26 v2) 27 v3) F) H → va_D A (mW h0 q cB cI cZ (upd (upd (upd I 25 v1) 26 v2) 27 v3) F) → va_S A s.heap H locs → lv_has ls 7 [(6, .int v), (3, .int (nI gg)), (0, .ref h0)] → W p l e R s m args below meth c H locs cells slots Q (F0 m 137 ls [])) →
    W p l e R s m args below meth c H locs cells slots Q (F0 m 92 ls []) := by
  obtain ⟨hx, hb, hml, hown, hts⟩ := id hf
  have hpn8 := hpv.1
  have hzz : ∀ p, p < en → 0 < To p - Fm p := fun p hp => by have := hpv.2 p (by omega); omega
  intro k
  induction k with
  | zero =>
    intro pp rr v27 v H locs ls hik hpp hrr hP hD hS hl kk
    refine lv_aload_n hx hb dX10_where_92 rfl (lv_at hl 5 rfl) ?_
    refine va_get (D := D) (ci := 11) (v := .int (nI pp)) (C := RX10) (T := TX10) (N := 48) hx hb hts inX10 hown hK hP 0 rfl rfl 25 (by decide) (hts _ k_1169) (fun _ h9 => h9) rfl dX10_where_93 ?_
    refine lv_iload_n hx hb dX10_where_96 rfl (lv_at hl 4 rfl) ?_
    refine lv_icmp_gt (tgt := 137) hx hb dX10_where_97 (by decide) (fun c_1 => ?_) (fun c_1 => ?_)
    · have c_1 := q_lt (a := pl) (b := pp) (by omega) (by omega) c_1
      exact kk v _ _ _ H locs ls hP hD hS (lv_sub hl (l' := [(6, .int v), (3, .int (nI gg)), (0, .ref h0)]) [0, 3, 5] rfl)
    · have c_1 := q_nlt (a := pl) (b := pp) (by omega) (by omega) c_1
      refine lv_aload_n hx hb dX10_where_100 rfl (lv_at hl 5 rfl) ?_
      refine va_get (D := D) (ci := 11) (v := .int (nI pp)) (C := RX10) (T := TX10) (N := 48) hx hb hts inX10 hown hK hP 0 rfl rfl 25 (by decide) (hts _ k_1169) (fun _ h9 => h9) rfl dX10_where_101 ?_
      refine lv_iload_n hx hb dX10_where_104 rfl (lv_at hl 4 rfl) ?_
      refine lv_icmp_lt (tgt := 115) hx hb dX10_where_105 (by decide) (fun c_2 => ?_) (fun c_2 => ?_)
      · have c_2 := q_lt (a := pp) (b := pl) (by omega) (by omega) c_2
        have hrp := hrr (by omega)
        refine lv_aload_n hx hb dX10_where_115 rfl (lv_at hl 5 rfl) ?_
        refine lv_aload_n hx hb dX10_where_116 rfl (lv_at hl 5 rfl) ?_
        refine va_get (D := D) (ci := 11) (v := .int (nI pp)) (C := RX10) (T := TX10) (N := 48) hx hb hts inX10 hown hK hP 0 rfl rfl 25 (by decide) (hts _ k_1169) (fun _ h9 => h9) rfl dX10_where_117 ?_
        refine lv_aload_n hx hb dX10_where_120 rfl (lv_at hl 5 rfl) ?_
        refine va_get (D := D) (ci := 11) (v := .int (nI rr)) (C := RX10) (T := TX10) (N := 48) hx hb hts inX10 hown hK hP 0 rfl rfl 26 (by decide) (hts _ k_1170) (fun _ h9 => h9) rfl dX10_where_121 ?_
        refine lv_iload hx hb dX10_where_124 (lv_at hl 2 rfl) ?_
        refine lv_iload hx hb dX10_where_126 (lv_at hl 1 rfl) ?_
        refine q_cv (k := cells) (n := slots) hK hP hD hS hA (fun hPc hKc hDc => q_rV (As := [.int (nI pp), .int (nI rr), .int (nI fi), .int (nI en)]) (rest := []) hf (r_laySheet _ D h0 q cB cI cZ (upd (upd (upd I 25 (nI pp)) 26 (nI rr)) 27 v27) F pn pe sl K Fm To Rr pp rr fi en mo hpv hI2 hmo1 hmo (by omega) (by omega) hrp (by omega) _) k_1455 k_1452 k_1454 k_73 k_98 (nA := 4) (by decide +kernel) ⟨Nat.le_trans (by decide) hRf, Nat.le_trans (by decide) hRl⟩ hK hP (ci := 11) (q0 := 0) rfl rfl rfl hPc hKc hDc (fun _ _ _ _ h => h) (fun _ _ _ => trivial) rfl hl.1 rfl (Nat.le_of_ble_eq_true rfl) dX10_where_128 ⟨hRc, hRs⟩) (Nat.le_refl _) (Nat.le_refl _) (fun u H locs hw hK hP hD hS => ?_)
        obtain ⟨b2, v1, v2, v3, a1, a2, rfl⟩ := hw
        obtain ⟨x, ex, hxf⟩ := rs_some (K := K) (Rr := Rr) (f := 40) hzz hmo1 hmo (show pp < en by omega) hrp (pb_le (rp_ra (K pp) (Fm pp) pp rr fi))
        rw [a1.trans ex] at a2
        obtain ⟨rfl, rfl, rfl⟩ := a2
        have hP : va_P D vcl (mW h0 q cB cI cZ (upd (upd (upd I 25 (nI (x.1))) 26 (nI (x.2.1))) 27 (nI (x.2.2))) F) H := hP
        have hD : va_D A (mW h0 q cB cI cZ (upd (upd (upd I 25 (nI (x.1))) 26 (nI (x.2.1))) 27 (nI (x.2.2))) F) := hD
        refine lv_iinc (v := (v + 1)) (lv' := [(6, .int (v + 1)), (5, .int (nI en)), (4, .int (nI fi)), (3, .int (nI gg)), (2, .int (nI pl)), (0, .ref h0)]) hx hb dX10_where_131 hl (k := 0) rfl rfl (by decide) rfl (fun ls hl => ?_)
        refine lv_goto (tgt := 92) hx hb dX10_where_134 (by decide) ?_
        have z4 := rs_S_far hxf hrp
        exact False.elim (by have z5 := rs_S_end (Fm := Fm) (To := To) hxf.2.1 hxf.2.2.1 hxf.2.2.2.1; omega)
      · have c_2 := q_nlt (a := pp) (b := pl) (by omega) (by omega) c_2
        have hrp := hrr (by omega)
        have hpq := hpv.2 pp (by omega)
        refine lv_aload_n hx hb dX10_where_108 rfl (lv_at hl 5 rfl) ?_
        refine va_get (D := D) (ci := 11) (v := .int (nI rr)) (C := RX10) (T := TX10) (N := 48) hx hb hts inX10 hown hK hP 0 rfl rfl 26 (by decide) (hts _ k_1170) (fun _ h9 => h9) rfl dX10_where_109 ?_
        refine lv_if_ne (tgt := 137) hx hb dX10_where_112 (by decide) (fun c_3 => ?_) (fun c_3 => ?_)
        · have c_3 := q_nen (a := rr) (b := 0) (by omega) (by omega) c_3
          exact kk v _ _ _ H locs ls hP hD hS (lv_sub hl (l' := [(6, .int v), (3, .int (nI gg)), (0, .ref h0)]) [0, 3, 5] rfl)
        · have c_3 := q_eqn (a := rr) (b := 0) (by omega) (by omega) c_3
          have hrp := hrr (by omega)
          refine lv_aload_n hx hb dX10_where_115 rfl (lv_at hl 5 rfl) ?_
          refine lv_aload_n hx hb dX10_where_116 rfl (lv_at hl 5 rfl) ?_
          refine va_get (D := D) (ci := 11) (v := .int (nI pp)) (C := RX10) (T := TX10) (N := 48) hx hb hts inX10 hown hK hP 0 rfl rfl 25 (by decide) (hts _ k_1169) (fun _ h9 => h9) rfl dX10_where_117 ?_
          refine lv_aload_n hx hb dX10_where_120 rfl (lv_at hl 5 rfl) ?_
          refine va_get (D := D) (ci := 11) (v := .int (nI rr)) (C := RX10) (T := TX10) (N := 48) hx hb hts inX10 hown hK hP 0 rfl rfl 26 (by decide) (hts _ k_1170) (fun _ h9 => h9) rfl dX10_where_121 ?_
          refine lv_iload hx hb dX10_where_124 (lv_at hl 2 rfl) ?_
          refine lv_iload hx hb dX10_where_126 (lv_at hl 1 rfl) ?_
          refine q_cv (k := cells) (n := slots) hK hP hD hS hA (fun hPc hKc hDc => q_rV (As := [.int (nI pp), .int (nI rr), .int (nI fi), .int (nI en)]) (rest := []) hf (r_laySheet _ D h0 q cB cI cZ (upd (upd (upd I 25 (nI pp)) 26 (nI rr)) 27 v27) F pn pe sl K Fm To Rr pp rr fi en mo hpv hI2 hmo1 hmo (by omega) (by omega) hrp (by omega) _) k_1455 k_1452 k_1454 k_73 k_98 (nA := 4) (by decide +kernel) ⟨Nat.le_trans (by decide) hRf, Nat.le_trans (by decide) hRl⟩ hK hP (ci := 11) (q0 := 0) rfl rfl rfl hPc hKc hDc (fun _ _ _ _ h => h) (fun _ _ _ => trivial) rfl hl.1 rfl (Nat.le_of_ble_eq_true rfl) dX10_where_128 ⟨hRc, hRs⟩) (Nat.le_refl _) (Nat.le_refl _) (fun u H locs hw hK hP hD hS => ?_)
          obtain ⟨b2, v1, v2, v3, a1, a2, rfl⟩ := hw
          obtain ⟨x, ex, hxf⟩ := rs_some (K := K) (Rr := Rr) (f := 40) hzz hmo1 hmo (show pp < en by omega) hrp (pb_le (rp_ra (K pp) (Fm pp) pp rr fi))
          rw [a1.trans ex] at a2
          obtain ⟨rfl, rfl, rfl⟩ := a2
          have hP : va_P D vcl (mW h0 q cB cI cZ (upd (upd (upd I 25 (nI (x.1))) 26 (nI (x.2.1))) 27 (nI (x.2.2))) F) H := hP
          have hD : va_D A (mW h0 q cB cI cZ (upd (upd (upd I 25 (nI (x.1))) 26 (nI (x.2.1))) 27 (nI (x.2.2))) F) := hD
          refine lv_iinc (v := (v + 1)) (lv' := [(6, .int (v + 1)), (5, .int (nI en)), (4, .int (nI fi)), (3, .int (nI gg)), (2, .int (nI pl)), (0, .ref h0)]) hx hb dX10_where_131 hl (k := 0) rfl rfl (by decide) rfl (fun ls hl => ?_)
          refine lv_goto (tgt := 92) hx hb dX10_where_134 (by decide) ?_
          have z4 := rs_S_far hxf hrp
          exact False.elim (by have z5 := rs_S_end (Fm := Fm) (To := To) hxf.2.1 hxf.2.2.1 hxf.2.2.2.1; omega)
  | succ k ih =>
    intro pp rr v27 v H locs ls hik hpp hrr hP hD hS hl kk
    refine lv_aload_n hx hb dX10_where_92 rfl (lv_at hl 5 rfl) ?_
    refine va_get (D := D) (ci := 11) (v := .int (nI pp)) (C := RX10) (T := TX10) (N := 48) hx hb hts inX10 hown hK hP 0 rfl rfl 25 (by decide) (hts _ k_1169) (fun _ h9 => h9) rfl dX10_where_93 ?_
    refine lv_iload_n hx hb dX10_where_96 rfl (lv_at hl 4 rfl) ?_
    refine lv_icmp_gt (tgt := 137) hx hb dX10_where_97 (by decide) (fun c_1 => ?_) (fun c_1 => ?_)
    · have c_1 := q_lt (a := pl) (b := pp) (by omega) (by omega) c_1
      exact kk v _ _ _ H locs ls hP hD hS (lv_sub hl (l' := [(6, .int v), (3, .int (nI gg)), (0, .ref h0)]) [0, 3, 5] rfl)
    · have c_1 := q_nlt (a := pl) (b := pp) (by omega) (by omega) c_1
      refine lv_aload_n hx hb dX10_where_100 rfl (lv_at hl 5 rfl) ?_
      refine va_get (D := D) (ci := 11) (v := .int (nI pp)) (C := RX10) (T := TX10) (N := 48) hx hb hts inX10 hown hK hP 0 rfl rfl 25 (by decide) (hts _ k_1169) (fun _ h9 => h9) rfl dX10_where_101 ?_
      refine lv_iload_n hx hb dX10_where_104 rfl (lv_at hl 4 rfl) ?_
      refine lv_icmp_lt (tgt := 115) hx hb dX10_where_105 (by decide) (fun c_2 => ?_) (fun c_2 => ?_)
      · have c_2 := q_lt (a := pp) (b := pl) (by omega) (by omega) c_2
        have hrp := hrr (by omega)
        refine lv_aload_n hx hb dX10_where_115 rfl (lv_at hl 5 rfl) ?_
        refine lv_aload_n hx hb dX10_where_116 rfl (lv_at hl 5 rfl) ?_
        refine va_get (D := D) (ci := 11) (v := .int (nI pp)) (C := RX10) (T := TX10) (N := 48) hx hb hts inX10 hown hK hP 0 rfl rfl 25 (by decide) (hts _ k_1169) (fun _ h9 => h9) rfl dX10_where_117 ?_
        refine lv_aload_n hx hb dX10_where_120 rfl (lv_at hl 5 rfl) ?_
        refine va_get (D := D) (ci := 11) (v := .int (nI rr)) (C := RX10) (T := TX10) (N := 48) hx hb hts inX10 hown hK hP 0 rfl rfl 26 (by decide) (hts _ k_1170) (fun _ h9 => h9) rfl dX10_where_121 ?_
        refine lv_iload hx hb dX10_where_124 (lv_at hl 2 rfl) ?_
        refine lv_iload hx hb dX10_where_126 (lv_at hl 1 rfl) ?_
        refine q_cv (k := cells) (n := slots) hK hP hD hS hA (fun hPc hKc hDc => q_rV (As := [.int (nI pp), .int (nI rr), .int (nI fi), .int (nI en)]) (rest := []) hf (r_laySheet _ D h0 q cB cI cZ (upd (upd (upd I 25 (nI pp)) 26 (nI rr)) 27 v27) F pn pe sl K Fm To Rr pp rr fi en mo hpv hI2 hmo1 hmo (by omega) (by omega) hrp (by omega) _) k_1455 k_1452 k_1454 k_73 k_98 (nA := 4) (by decide +kernel) ⟨Nat.le_trans (by decide) hRf, Nat.le_trans (by decide) hRl⟩ hK hP (ci := 11) (q0 := 0) rfl rfl rfl hPc hKc hDc (fun _ _ _ _ h => h) (fun _ _ _ => trivial) rfl hl.1 rfl (Nat.le_of_ble_eq_true rfl) dX10_where_128 ⟨hRc, hRs⟩) (Nat.le_refl _) (Nat.le_refl _) (fun u H locs hw hK hP hD hS => ?_)
        obtain ⟨b2, v1, v2, v3, a1, a2, rfl⟩ := hw
        obtain ⟨x, ex, hxf⟩ := rs_some (K := K) (Rr := Rr) (f := 40) hzz hmo1 hmo (show pp < en by omega) hrp (pb_le (rp_ra (K pp) (Fm pp) pp rr fi))
        rw [a1.trans ex] at a2
        obtain ⟨rfl, rfl, rfl⟩ := a2
        have hP : va_P D vcl (mW h0 q cB cI cZ (upd (upd (upd I 25 (nI (x.1))) 26 (nI (x.2.1))) 27 (nI (x.2.2))) F) H := hP
        have hD : va_D A (mW h0 q cB cI cZ (upd (upd (upd I 25 (nI (x.1))) 26 (nI (x.2.1))) 27 (nI (x.2.2))) F) := hD
        refine lv_iinc (v := (v + 1)) (lv' := [(6, .int (v + 1)), (5, .int (nI en)), (4, .int (nI fi)), (3, .int (nI gg)), (2, .int (nI pl)), (0, .ref h0)]) hx hb dX10_where_131 hl (k := 0) rfl rfl (by decide) rfl (fun ls hl => ?_)
        refine lv_goto (tgt := 92) hx hb dX10_where_134 (by decide) ?_
        have z4 := rs_S_far hxf hrp
        exact ih x.1 x.2.1 _ _ H locs ls (by omega) hxf.2.1 hxf.2.2.1 hP hD hS (lv_sub hl (l' := [(6, .int (v + 1)), (5, .int (nI en)), (4, .int (nI fi)), (3, .int (nI gg)), (2, .int (nI pl)), (0, .ref h0)]) [0, 1, 2, 3, 4, 5] rfl) kk
      · have c_2 := q_nlt (a := pp) (b := pl) (by omega) (by omega) c_2
        have hrp := hrr (by omega)
        have hpq := hpv.2 pp (by omega)
        refine lv_aload_n hx hb dX10_where_108 rfl (lv_at hl 5 rfl) ?_
        refine va_get (D := D) (ci := 11) (v := .int (nI rr)) (C := RX10) (T := TX10) (N := 48) hx hb hts inX10 hown hK hP 0 rfl rfl 26 (by decide) (hts _ k_1170) (fun _ h9 => h9) rfl dX10_where_109 ?_
        refine lv_if_ne (tgt := 137) hx hb dX10_where_112 (by decide) (fun c_3 => ?_) (fun c_3 => ?_)
        · have c_3 := q_nen (a := rr) (b := 0) (by omega) (by omega) c_3
          exact kk v _ _ _ H locs ls hP hD hS (lv_sub hl (l' := [(6, .int v), (3, .int (nI gg)), (0, .ref h0)]) [0, 3, 5] rfl)
        · have c_3 := q_eqn (a := rr) (b := 0) (by omega) (by omega) c_3
          have hrp := hrr (by omega)
          refine lv_aload_n hx hb dX10_where_115 rfl (lv_at hl 5 rfl) ?_
          refine lv_aload_n hx hb dX10_where_116 rfl (lv_at hl 5 rfl) ?_
          refine va_get (D := D) (ci := 11) (v := .int (nI pp)) (C := RX10) (T := TX10) (N := 48) hx hb hts inX10 hown hK hP 0 rfl rfl 25 (by decide) (hts _ k_1169) (fun _ h9 => h9) rfl dX10_where_117 ?_
          refine lv_aload_n hx hb dX10_where_120 rfl (lv_at hl 5 rfl) ?_
          refine va_get (D := D) (ci := 11) (v := .int (nI rr)) (C := RX10) (T := TX10) (N := 48) hx hb hts inX10 hown hK hP 0 rfl rfl 26 (by decide) (hts _ k_1170) (fun _ h9 => h9) rfl dX10_where_121 ?_
          refine lv_iload hx hb dX10_where_124 (lv_at hl 2 rfl) ?_
          refine lv_iload hx hb dX10_where_126 (lv_at hl 1 rfl) ?_
          refine q_cv (k := cells) (n := slots) hK hP hD hS hA (fun hPc hKc hDc => q_rV (As := [.int (nI pp), .int (nI rr), .int (nI fi), .int (nI en)]) (rest := []) hf (r_laySheet _ D h0 q cB cI cZ (upd (upd (upd I 25 (nI pp)) 26 (nI rr)) 27 v27) F pn pe sl K Fm To Rr pp rr fi en mo hpv hI2 hmo1 hmo (by omega) (by omega) hrp (by omega) _) k_1455 k_1452 k_1454 k_73 k_98 (nA := 4) (by decide +kernel) ⟨Nat.le_trans (by decide) hRf, Nat.le_trans (by decide) hRl⟩ hK hP (ci := 11) (q0 := 0) rfl rfl rfl hPc hKc hDc (fun _ _ _ _ h => h) (fun _ _ _ => trivial) rfl hl.1 rfl (Nat.le_of_ble_eq_true rfl) dX10_where_128 ⟨hRc, hRs⟩) (Nat.le_refl _) (Nat.le_refl _) (fun u H locs hw hK hP hD hS => ?_)
          obtain ⟨b2, v1, v2, v3, a1, a2, rfl⟩ := hw
          obtain ⟨x, ex, hxf⟩ := rs_some (K := K) (Rr := Rr) (f := 40) hzz hmo1 hmo (show pp < en by omega) hrp (pb_le (rp_ra (K pp) (Fm pp) pp rr fi))
          rw [a1.trans ex] at a2
          obtain ⟨rfl, rfl, rfl⟩ := a2
          have hP : va_P D vcl (mW h0 q cB cI cZ (upd (upd (upd I 25 (nI (x.1))) 26 (nI (x.2.1))) 27 (nI (x.2.2))) F) H := hP
          have hD : va_D A (mW h0 q cB cI cZ (upd (upd (upd I 25 (nI (x.1))) 26 (nI (x.2.1))) 27 (nI (x.2.2))) F) := hD
          refine lv_iinc (v := (v + 1)) (lv' := [(6, .int (v + 1)), (5, .int (nI en)), (4, .int (nI fi)), (3, .int (nI gg)), (2, .int (nI pl)), (0, .ref h0)]) hx hb dX10_where_131 hl (k := 0) rfl rfl (by decide) rfl (fun ls hl => ?_)
          refine lv_goto (tgt := 92) hx hb dX10_where_134 (by decide) ?_
          have z4 := rs_S_far hxf hrp
          exact ih x.1 x.2.1 _ _ H locs ls (by omega) hxf.2.1 hxf.2.2.1 hP hD hS (lv_sub hl (l' := [(6, .int (v + 1)), (5, .int (nI en)), (4, .int (nI fi)), (3, .int (nI gg)), (2, .int (nI pl)), (0, .ref h0)]) [0, 1, 2, 3, 4, 5] rfl) kk
set_option maxHeartbeats 1000000 in
set_option maxRecDepth 100000 in
theorem r_where (l : Launch) (D : va_G) (h0 : Nat) (q : Nat → Nat) (cB cI_ cZ : ClassId) (I : Nat → Int32) (F : Nat → Nat → Int32) (Es : List E5) (sl : Nat → Nat) (P : List Q4) (mo lk : Nat) (x1 : Int32) (hI3 : I 3 = nI Es.length) (hre : reR F Es sl) (hI2 : I 2 = nI mo) (hI14 : I 14 = nI P.length) (hI20 : I 20 = nI lk) (hlk : lk ≤ 1) (hmo1 : 10 ≤ mo) (hmo : mo ≤ 40) (hpcF : pc_is P (F 15) (F 16) (F 17) (F 18)) (hQ : pq_ok Es.length (fun e => Es.getD e dE) P) (hpn : P.length ≤ 7000) (hSS : rs_S (qF P) (qT P) P.length ≤ 8000) (hGb : ∀ p, p < P.length → (P.getD p d4).2.2.2 ≤ 8000) (hso : ∀ s t, s ≤ t → t < P.length → (P.getD s d4).2.2.2 ≤ (P.getD t d4).2.2.2) (hfirst : ∀ j, j < Es.length → 0 < lk → (Es.getD j dE).2.2.1 = 0 → ∃ pl, pl < P.length ∧ (P.getD pl d4).1 = j ∧ ∀ i, i < pl → ¬ (P.getD i d4).1 = j) : cI l D yX10_where cX10_where 7 (some .int) 4 130 0 0 [.ref h0, .int x1] zT (mW h0 q cB cI_ cZ I F) (mT cB cI_ cZ) (fun r u => (∃ (I2 : Nat → Int32) (F2 : Nat → Nat → Int32), sm I I2 F F2 ∧ u = (mW h0 q cB cI_ cZ I2 F2, mT cB cI_ cZ))) := by
  refine q_si (by decide) (Nat.le_of_ble_eq_true rfl) ?_
  intro p e s m below meth c A ls hAe hf hr hlocks hin hK hP hD hS hA hZ hl
  obtain ⟨hx, hb, hml, hown, hts⟩ := id hf
  have hl : lv_has ls 7 [(0, .ref h0), (1, .int x1)] := hl
  have hre1 := hre.1
  refine lv_aload_n hx hb dX10_where_0 rfl (lv_at hl 0 rfl) ?_
  refine lv_iload_n hx hb dX10_where_1 rfl (lv_at hl 1 rfl) ?_
  refine q_ci (k := 0) (n := 0) hK hP hD hS hA (fun hPc hKc hDc => q_rV (As := [.int x1]) (rest := []) hf (r_isElement _ D h0 q cB cI_ cZ I F Es.length x1 hI3 hre.1 _) k_1371 k_1368 k_1370 k_59 k_98 (nA := 1) (by decide +kernel) ⟨Nat.le_of_ble_eq_true rfl, Nat.le_of_ble_eq_true rfl⟩ hK hP (ci := 11) (q0 := 0) rfl rfl rfl hPc hKc hDc (fun _ _ _ _ h => h) (fun _ _ _ => trivial) rfl hl.1 rfl (Nat.le_of_ble_eq_true rfl) dX10_where_2 ⟨Nat.le_of_ble_eq_true rfl, Nat.le_of_ble_eq_true rfl⟩) (by decide) (by decide) (fun r u H locs hw hK hP hD hS => ?_)
  rcases hw with ⟨⟨c_1, rfl⟩ | ⟨c_1, rfl⟩, rfl⟩
  · have hP : va_P D vcl (mW h0 q cB cI_ cZ I F) H := hP
    have hD : va_D A (mW h0 q cB cI_ cZ I F) := hD
    refine lv_if_ne (tgt := 11) hx hb dX10_where_5 (by decide) (fun _ => ?_) (fun hno => absurd hno (by decide))
    obtain ⟨j, hj, rfl⟩ := c_1
    have hslj := (hre.2.1 j hj).2.1
    have hrwj := elF_rw (hre.2.1 j hj).2.2
    have hl : lv_has ls 7 [(0, .ref h0), (1, .int (nI j))] := hl
    refine lv_aload_n hx hb dX10_where_11 rfl (lv_at hl 0 rfl) ?_
    refine va_get (D := D) (ci := 11) (v := .int (I 20)) (C := RX10) (T := TX10) (N := 48) hx hb hts inX10 hown hK hP 0 rfl rfl 20 (by decide) (hts _ k_1164) (fun _ h9 => h9) rfl dX10_where_12 ?_
    refine q_seti (y := (nI lk)) hI20 ?_
    refine lv_if_ne (tgt := 21) hx hb dX10_where_15 (by decide) (fun c_2 => ?_) (fun c_2 => ?_)
    · have c_2 := q_nen (a := lk) (b := 0) (by omega) (by omega) c_2
      refine lv_aload_n hx hb dX10_where_21 rfl (lv_at hl 0 rfl) ?_
      refine va_get (D := D) (ci := 11) (v := .ref (q 7)) (C := RX10) (T := TX10) (N := 48) hx hb hts inX10 hown hK hP 0 rfl rfl 7 (by decide) (hts _ k_1151) (fun _ h9 => h9) rfl dX10_where_22 ?_
      refine lv_aload_n hx hb dX10_where_25 rfl (lv_at hl 0 rfl) ?_
      refine va_get (D := D) (ci := 11) (v := .ref (q 4)) (C := RX10) (T := TX10) (N := 48) hx hb hts inX10 hown hK hP 0 rfl rfl 4 (by decide) (hts _ k_1148) (fun _ h9 => h9) rfl dX10_where_26 ?_
      refine lv_iload_n hx hb dX10_where_29 rfl (lv_at hl 1 rfl) ?_
      refine q_ild (X := j) (f := (F 4)) hx hb hK hP 2 1 rfl rfl (by omega) (by decide) dX10_where_30 ?_
      refine q_seti (y := (nI ((sl j)))) (hre.2.1 j (by omega)).1 ?_
      refine q_zld (X := (sl j)) (f := (F 7)) hx hb hK hP 5 2 rfl rfl (by omega) (by decide) dX10_where_31 ?_
      refine q_seti (y := (Es.getD j dE).2.2.1) (hre.2.1 j (by omega)).2.2.2.2.1 ?_
      refine lv_if_eq (tgt := 37) hx hb dX10_where_32 (by decide) (fun c_3 => ?_) (fun c_3 => ?_)
      · refine lv_iconst (v := 0) hx hb dX10_where_37 (by decide) ?_
        refine lv_istore_n (lv' := [(2, .int 0), (0, .ref h0), (1, .int (nI j))]) hx hb dX10_where_38 rfl hl (by decide) rfl (fun ls hl => ?_)
        obtain ⟨pl, hpl, hplj, hfst⟩ := hfirst j hj (by omega) c_3
        refine lw_a (I := I) (F := F) (pn := P.length) (j := j) (pl := pl) (P := P) rfl (by omega) hpcF (fun i hi => Nat.lt_of_lt_of_le (hQ i hi).1 hre.1) (by omega) hpl hplj hfst (Nat.le_of_ble_eq_true rfl) (Nat.le_of_ble_eq_true rfl) (Nat.le_of_ble_eq_true rfl) (Nat.le_of_ble_eq_true rfl) hA hf hK pl 0 _ _ ls (by omega) hP hD hS (lv_sub hl (l' := [(2, .int 0), (1, .int (nI j)), (0, .ref h0)]) [0, 2, 1] rfl) (fun H locs ls hP hD hS hl => ?_)
        refine lv_aload_n hx hb dX10_where_55 rfl (lv_at hl 2 rfl) ?_
        refine va_get (D := D) (ci := 11) (v := .ref (q 18)) (C := RX10) (T := TX10) (N := 48) hx hb hts inX10 hown hK hP 0 rfl rfl 18 (by decide) (hts _ k_1162) (fun _ h9 => h9) rfl dX10_where_56 ?_
        refine lv_iload_n hx hb dX10_where_59 rfl (lv_at hl 0 rfl) ?_
        refine q_ild (X := pl) (f := (F 18)) hx hb hK hP 15 1 rfl rfl (by omega) (by decide) dX10_where_60 ?_
        refine q_seti (y := (nI ((P.getD pl d4).2.2.2))) (hpcF pl hpl).2.2.2 ?_
        refine lv_istore_n (lv' := [(3, .int (nI ((P.getD pl d4).2.2.2))), (2, .int (nI pl)), (1, .int (nI j)), (0, .ref h0)]) hx hb dX10_where_61 rfl hl (by decide) rfl (fun ls hl => ?_)
        have hpv := rp_of hre hpcF hQ (by omega)
        have hgl := hGb pl hpl
        have hfa := rg_first_le (fun p => (P.getD p d4).2.2.2) (P.getD pl d4).2.2.2 P.length 0
        have hfb := rg_first_le (fun p => (P.getD p d4).2.2.2) ((P.getD pl d4).2.2.2 + 1) P.length 0
        have hpa : (rg_first (fun p => (P.getD p d4).2.2.2) (P.getD pl d4).2.2.2 P.length 0) ≤ pl := rg_le (n := 0) P.length 0 pl (Nat.zero_le _) (by omega) (Nat.le_refl _) (fun t _ ht => hso t pl (by omega) hpl)
        have hpb : pl < (rg_first (fun p => (P.getD p d4).2.2.2) ((P.getD pl d4).2.2.2 + 1) P.length 0) := rg_gt P.length 0 pl (Nat.zero_le _) (by omega) (fun t _ ht => by have h9 := hso t pl ht hpl; show (P.getD t d4).2.2.2 < _; omega)
        have hzz : ∀ p, p < (rg_first (fun p => (P.getD p d4).2.2.2) ((P.getD pl d4).2.2.2 + 1) P.length 0) → 0 < qT P p - qF P p := fun p hp => by have h9 := hpv.2 p (by omega); omega
        have hrp := hzz _ (show (rg_first (fun p => (P.getD p d4).2.2.2) (P.getD pl d4).2.2.2 P.length 0) < (rg_first (fun p => (P.getD p d4).2.2.2) ((P.getD pl d4).2.2.2 + 1) P.length 0) by omega)
        refine lv_aload_n hx hb dX10_where_62 rfl (lv_at hl 3 rfl) ?_
        refine lv_iload_n hx hb dX10_where_63 rfl (lv_at hl 0 rfl) ?_
        refine q_ci (k := 0) (n := 0) hK hP hD hS hA (fun hPc hKc hDc => q_rV (As := [.int (nI ((P.getD pl d4).2.2.2))]) (rest := []) hf (r_firstOf _ D h0 q cB cI_ cZ I F P.length ((P.getD pl d4).2.2.2) (fun p => (P.getD p d4).2.2.2) hI14 (by omega) (by omega) (fun p hp => ⟨(hpcF p hp).2.2.2, hGb p hp⟩) _) k_1451 k_1448 k_1450 k_72 k_98 (nA := 1) (by decide +kernel) ⟨Nat.le_of_ble_eq_true rfl, Nat.le_of_ble_eq_true rfl⟩ hK hP (ci := 11) (q0 := 0) rfl rfl rfl hPc hKc hDc (fun _ _ _ _ h => h) (fun _ _ _ => trivial) rfl hl.1 rfl (Nat.le_of_ble_eq_true rfl) dX10_where_64 ⟨Nat.le_of_ble_eq_true rfl, Nat.le_of_ble_eq_true rfl⟩) (by decide) (by decide) (fun r u H locs hw hK hP hD hS => ?_)
        obtain ⟨rfl, rfl⟩ := hw
        have hP : va_P D vcl (mW h0 q cB cI_ cZ I F) H := hP
        have hD : va_D A (mW h0 q cB cI_ cZ I F) := hD
        refine lv_istore (lv' := [(4, .int (nI (rg_first (fun p => (P.getD p d4).2.2.2) ((P.getD pl d4).2.2.2) P.length 0))), (3, .int (nI ((P.getD pl d4).2.2.2))), (2, .int (nI pl)), (1, .int (nI j)), (0, .ref h0)]) hx hb dX10_where_67 hl (by decide) rfl (fun ls hl => ?_)
        refine lv_aload_n hx hb dX10_where_69 rfl (lv_at hl 4 rfl) ?_
        refine lv_iload_n hx hb dX10_where_70 rfl (lv_at hl 1 rfl) ?_
        refine lv_iconst (v := 1) hx hb dX10_where_71 (by decide) ?_
        refine lv_iadd hx hb dX10_where_72 ?_
        refine q_seti (y := nI (((P.getD pl d4).2.2.2) + 1)) (nI_add ((P.getD pl d4).2.2.2) 1) ?_
        refine q_ci (k := 0) (n := 0) hK hP hD hS hA (fun hPc hKc hDc => q_rV (As := [.int (nI (((P.getD pl d4).2.2.2) + 1))]) (rest := []) hf (r_firstOf _ D h0 q cB cI_ cZ I F P.length (((P.getD pl d4).2.2.2) + 1) (fun p => (P.getD p d4).2.2.2) hI14 (by omega) (by omega) (fun p hp => ⟨(hpcF p hp).2.2.2, hGb p hp⟩) _) k_1451 k_1448 k_1450 k_72 k_98 (nA := 1) (by decide +kernel) ⟨Nat.le_of_ble_eq_true rfl, Nat.le_of_ble_eq_true rfl⟩ hK hP (ci := 11) (q0 := 0) rfl rfl rfl hPc hKc hDc (fun _ _ _ _ h => h) (fun _ _ _ => trivial) rfl hl.1 rfl (Nat.le_of_ble_eq_true rfl) dX10_where_73 ⟨Nat.le_of_ble_eq_true rfl, Nat.le_of_ble_eq_true rfl⟩) (by decide) (by decide) (fun r u H locs hw hK hP hD hS => ?_)
        obtain ⟨rfl, rfl⟩ := hw
        have hP : va_P D vcl (mW h0 q cB cI_ cZ I F) H := hP
        have hD : va_D A (mW h0 q cB cI_ cZ I F) := hD
        refine lv_istore (lv' := [(5, .int (nI (rg_first (fun p => (P.getD p d4).2.2.2) (((P.getD pl d4).2.2.2) + 1) P.length 0))), (4, .int (nI (rg_first (fun p => (P.getD p d4).2.2.2) ((P.getD pl d4).2.2.2) P.length 0))), (3, .int (nI ((P.getD pl d4).2.2.2))), (2, .int (nI pl)), (1, .int (nI j)), (0, .ref h0)]) hx hb dX10_where_76 hl (by decide) rfl (fun ls hl => ?_)
        refine lv_iconst (v := 0) hx hb dX10_where_78 (by decide) ?_
        refine lv_istore (lv' := [(6, .int 0), (5, .int (nI (rg_first (fun p => (P.getD p d4).2.2.2) (((P.getD pl d4).2.2.2) + 1) P.length 0))), (4, .int (nI (rg_first (fun p => (P.getD p d4).2.2.2) ((P.getD pl d4).2.2.2) P.length 0))), (3, .int (nI ((P.getD pl d4).2.2.2))), (2, .int (nI pl)), (1, .int (nI j)), (0, .ref h0)]) hx hb dX10_where_79 hl (by decide) rfl (fun ls hl => ?_)
        refine lv_aload_n hx hb dX10_where_81 rfl (lv_at hl 6 rfl) ?_
        refine lv_iload hx hb dX10_where_82 (lv_at hl 2 rfl) ?_
        refine lv_iconst (v := 0) hx hb dX10_where_84 (by decide) ?_
        refine lv_iload hx hb dX10_where_85 (lv_at hl 2 rfl) ?_
        refine lv_iload hx hb dX10_where_87 (lv_at hl 1 rfl) ?_
        refine q_cv (k := 0) (n := 0) hK hP hD hS hA (fun hPc hKc hDc => q_rV (As := [.int (nI (rg_first (fun p => (P.getD p d4).2.2.2) ((P.getD pl d4).2.2.2) P.length 0)), .int 0, .int (nI (rg_first (fun p => (P.getD p d4).2.2.2) ((P.getD pl d4).2.2.2) P.length 0)), .int (nI (rg_first (fun p => (P.getD p d4).2.2.2) (((P.getD pl d4).2.2.2) + 1) P.length 0))]) (rest := []) hf (r_laySheet _ D h0 q cB cI_ cZ I F P.length _ _ (qK (fun e => Es.getD e dE) P) (qF P) (qT P) (qR (fun e => Es.getD e dE) P) (rg_first (fun p => (P.getD p d4).2.2.2) ((P.getD pl d4).2.2.2) P.length 0) 0 (rg_first (fun p => (P.getD p d4).2.2.2) ((P.getD pl d4).2.2.2) P.length 0) (rg_first (fun p => (P.getD p d4).2.2.2) (((P.getD pl d4).2.2.2) + 1) P.length 0) mo hpv hI2 hmo1 hmo (by omega) (by omega) hrp (by omega) _) k_1455 k_1452 k_1454 k_73 k_98 (nA := 4) (by decide +kernel) ⟨Nat.le_of_ble_eq_true rfl, Nat.le_of_ble_eq_true rfl⟩ hK hP (ci := 11) (q0 := 0) rfl rfl rfl hPc hKc hDc (fun _ _ _ _ h => h) (fun _ _ _ => trivial) rfl hl.1 rfl (Nat.le_of_ble_eq_true rfl) dX10_where_89 ⟨Nat.le_of_ble_eq_true rfl, Nat.le_of_ble_eq_true rfl⟩) (by decide) (by decide) (fun u H locs hw hK hP hD hS => ?_)
        obtain ⟨b2, v1, v2, v3, a1, a2, rfl⟩ := hw
        obtain ⟨x, ex, hxf⟩ := rs_some (K := (qK (fun e => Es.getD e dE) P)) (Rr := (qR (fun e => Es.getD e dE) P)) (f := 40) hzz hmo1 hmo (show rg_first (fun p => (P.getD p d4).2.2.2) ((P.getD pl d4).2.2.2) P.length 0 < rg_first (fun p => (P.getD p d4).2.2.2) (((P.getD pl d4).2.2.2) + 1) P.length 0 by omega) hrp (pb_le (rp_ra ((qK (fun e => Es.getD e dE) P) (rg_first (fun p => (P.getD p d4).2.2.2) ((P.getD pl d4).2.2.2) P.length 0)) (qF P (rg_first (fun p => (P.getD p d4).2.2.2) ((P.getD pl d4).2.2.2) P.length 0)) (rg_first (fun p => (P.getD p d4).2.2.2) ((P.getD pl d4).2.2.2) P.length 0) 0 (rg_first (fun p => (P.getD p d4).2.2.2) ((P.getD pl d4).2.2.2) P.length 0)))
        rw [a1.trans ex] at a2
        obtain ⟨rfl, rfl, rfl⟩ := a2
        have hP : va_P D vcl (mW h0 q cB cI_ cZ (upd (upd (upd I 25 (nI (x.1))) 26 (nI (x.2.1))) 27 (nI (x.2.2))) F) H := hP
        have hD : va_D A (mW h0 q cB cI_ cZ (upd (upd (upd I 25 (nI (x.1))) 26 (nI (x.2.1))) 27 (nI (x.2.2))) F) := hD
        refine lw_b (I := I) (F := F) (pn := P.length) (K := (qK (fun e => Es.getD e dE) P)) (Fm := qF P) (To := qT P) (Rr := (qR (fun e => Es.getD e dE) P)) (fi := (rg_first (fun p => (P.getD p d4).2.2.2) (P.getD pl d4).2.2.2 P.length 0)) (en := (rg_first (fun p => (P.getD p d4).2.2.2) ((P.getD pl d4).2.2.2 + 1) P.length 0)) (mo := mo) (pl := pl) (gg := (P.getD pl d4).2.2.2) hpv hI2 hmo1 hmo (by omega) (by omega) hpb hgl (Nat.le_of_ble_eq_true rfl) (Nat.le_of_ble_eq_true rfl) (Nat.le_of_ble_eq_true rfl) (Nat.le_of_ble_eq_true rfl) hA hf hK 8000 x.1 x.2.1 _ _ _ _ ls (by have h9 := rs_S_mono (qF P) (qT P) (P.length - (rg_first (fun p => (P.getD p d4).2.2.2) ((P.getD pl d4).2.2.2 + 1) P.length 0)) (rg_first (fun p => (P.getD p d4).2.2.2) ((P.getD pl d4).2.2.2 + 1) P.length 0); rw [show (rg_first (fun p => (P.getD p d4).2.2.2) ((P.getD pl d4).2.2.2 + 1) P.length 0) + (P.length - (rg_first (fun p => (P.getD p d4).2.2.2) ((P.getD pl d4).2.2.2 + 1) P.length 0)) = P.length by omega] at h9; omega) hxf.2.1 hxf.2.2.1 hP hD hS (lv_sub hl (l' := [(6, .int 0), (5, .int (nI (rg_first (fun p => (P.getD p d4).2.2.2) (((P.getD pl d4).2.2.2) + 1) P.length 0))), (4, .int (nI (rg_first (fun p => (P.getD p d4).2.2.2) ((P.getD pl d4).2.2.2) P.length 0))), (3, .int (nI ((P.getD pl d4).2.2.2))), (2, .int (nI pl)), (0, .ref h0)]) [0, 1, 2, 3, 4, 6] rfl) (fun v v1 v2 v3 H locs ls hP hD hS hl => ?_)
        have hP : va_P D vcl (mW h0 q cB cI_ cZ (upd (upd (upd I 25 v1) 26 v2) 27 v3) F) H := hP
        have hD : va_D A (mW h0 q cB cI_ cZ (upd (upd (upd I 25 v1) 26 v2) 27 v3) F) := hD
        refine lv_bipush (v := 32) hx hb dX10_where_137 (by decide) ?_
        refine lv_iload_n hx hb dX10_where_139 rfl (lv_at hl 1 rfl) ?_
        refine lv_iconst (v := 1) hx hb dX10_where_140 (by decide) ?_
        refine lv_iadd hx hb dX10_where_141 ?_
        refine q_seti (y := nI (((P.getD pl d4).2.2.2) + 1)) (nI_add ((P.getD pl d4).2.2.2) 1) ?_
        refine lv_imul hx hb dX10_where_142 ?_
        refine q_seti (y := nI (32 * (((P.getD pl d4).2.2.2) + 1))) (pk_mul 32 (((P.getD pl d4).2.2.2) + 1)) ?_
        refine lv_iload hx hb dX10_where_143 (lv_at hl 0 rfl) ?_
        refine lv_iadd hx hb dX10_where_145 ?_
        exact q_zi hf hr rfl hlocks hK hP hD hS (Nat.le_of_ble_eq_true rfl) (Nat.le_of_ble_eq_true rfl) ⟨(upd (upd (upd I 25 v1) 26 v2) 27 v3), F, ⟨⟨rfl, rfl, rfl⟩, ⟨rfl, rfl, rfl⟩, ⟨rfl, rfl, rfl, rfl, rfl, rfl, rfl, rfl, rfl, rfl, rfl⟩, rfl, rfl, rfl, rfl⟩, rfl⟩ dX10_where_146
      · refine lv_iconst (v := (-1)) hx hb dX10_where_35 (by decide) ?_
        exact q_zi hf hr rfl hlocks hK hP hD hS (Nat.le_of_ble_eq_true rfl) (Nat.le_of_ble_eq_true rfl) ⟨I, F, ⟨⟨rfl, rfl, rfl⟩, ⟨rfl, rfl, rfl⟩, ⟨rfl, rfl, rfl, rfl, rfl, rfl, rfl, rfl, rfl, rfl, rfl⟩, rfl, rfl, rfl, rfl⟩, rfl⟩ dX10_where_36
    · have c_2 := q_eqn (a := lk) (b := 0) (by omega) (by omega) c_2
      refine lv_bipush (v := (-3)) hx hb dX10_where_18 (by decide) ?_
      exact q_zi hf hr rfl hlocks hK hP hD hS (Nat.le_of_ble_eq_true rfl) (Nat.le_of_ble_eq_true rfl) ⟨I, F, ⟨⟨rfl, rfl, rfl⟩, ⟨rfl, rfl, rfl⟩, ⟨rfl, rfl, rfl, rfl, rfl, rfl, rfl, rfl, rfl, rfl, rfl⟩, rfl, rfl, rfl, rfl⟩, rfl⟩ dX10_where_20
  · have hP : va_P D vcl (mW h0 q cB cI_ cZ I F) H := hP
    have hD : va_D A (mW h0 q cB cI_ cZ I F) := hD
    refine lv_if_ne (tgt := 11) hx hb dX10_where_5 (by decide) (fun hno => absurd hno (by decide)) (fun _ => ?_)
    refine lv_bipush (v := (-2)) hx hb dX10_where_8 (by decide) ?_
    exact q_zi hf hr rfl hlocks hK hP hD hS (Nat.le_of_ble_eq_true rfl) (Nat.le_of_ble_eq_true rfl) ⟨I, F, ⟨⟨rfl, rfl, rfl⟩, ⟨rfl, rfl, rfl⟩, ⟨rfl, rfl, rfl, rfl, rfl, rfl, rfl, rfl, rfl, rfl, rfl⟩, rfl, rfl, rfl, rfl⟩, rfl⟩ dX10_where_10
