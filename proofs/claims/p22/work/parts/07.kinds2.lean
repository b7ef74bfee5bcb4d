noncomputable def pif {α : Type} (P : Prop) (a b : α) : α := @ite α P (Classical.propDecidable P) a b
theorem pif_p {α : Type} {P : Prop} {a b : α} (h : P) : pif P a b = a := if_pos h
theorem pif_n {α : Type} {P : Prop} {a b : α} (h : ¬ P) : pif P a b = b := if_neg h
def tx_beg (T : Nat → Int32) (a b : Nat) (c1 c2 c3 : Int32) : Prop := 4 ≤ b - a ∧ T a = c1 ∧ T (a + 1) = c2 ∧ T (a + 2) = c3 ∧ T (a + 3) = 46
def tx_isbig (T : Nat → Int32) (a b : Nat) : Prop := tx_big T (b - a) a 0 = 1
/-- the kind of a line from a to b; fa: the line ahead is free, fb: the one behind, pk: the kind ahead -/
noncomputable def tx_kd (T : Nat → Int32) (a b : Nat) (fa fb : Prop) (pk : Int32) : Int32 :=
  pif (tx_isbig T a b ∧ fa ∧ (tx_beg T a b 73 78 84 ∨ tx_beg T a b 69 88 84)) 0
  (pif (tx_isbig T a b ∧ fa ∧ fb ∧ T (b - 1) = 58) 1
  (pif (tx_isbig T a b ∧ fa ∧ ¬ fb ∧ b - a ≤ 24) 2
  (pif (¬ fa ∧ ¬ pk < 2 ∧ ¬ 4 < pk) (pif (T a = 40 ∧ T (b - 1) = 41) 3 4) 5)))
abbrev cX10_begins : ByteArray := prog_12_method_9_code
def yX10_begins : MethodName := ⟨RX10, "begins", "(IIII)Z"⟩
abbrev cX10_kindOfLine : ByteArray := prog_12_method_10_code
def yX10_kindOfLine : MethodName := ⟨RX10, "kindOfLine", "(I)I"⟩
theorem k_47 : (Cond.selects RX10 yX10_isFree yX10_isFree) ∈ gT := gT_i 47 (by decide +kernel) rfl
theorem k_49 : (Cond.selects RX10 yX10_isBig yX10_isBig) ∈ gT := gT_i 49 (by decide +kernel) rfl
theorem k_50 : (Cond.selects RX10 yX10_begins yX10_begins) ∈ gT := gT_i 50 (by decide +kernel) rfl
theorem k_1168 : (Cond.fieldLink RX10 68 "ScriptDeskModel" "lineKind" "[I") ∈ gT := gT_i 1168 (by decide +kernel) rfl
theorem k_1309 : (Cond.methodLink RX10 133 yX10_isFree) ∈ gT := gT_i 1309 (by decide +kernel) rfl
theorem k_1311 : (Cond.instanceMethod yX10_isFree) ∈ gT := gT_i 1311 (by decide +kernel) rfl
theorem k_1312 : (Cond.code yX10_isFree cX10_isFree 2 (some .boolean)) ∈ gT := gT_i 1312 (by decide +kernel) rfl
theorem k_1317 : (Cond.methodLink RX10 129 yX10_isBig) ∈ gT := gT_i 1317 (by decide +kernel) rfl
theorem k_1319 : (Cond.instanceMethod yX10_isBig) ∈ gT := gT_i 1319 (by decide +kernel) rfl
theorem k_1320 : (Cond.code yX10_isBig cX10_isBig 4 (some .boolean)) ∈ gT := gT_i 1320 (by decide +kernel) rfl
theorem k_1321 : (Cond.methodLink RX10 136 yX10_begins) ∈ gT := gT_i 1321 (by decide +kernel) rfl
theorem k_1323 : (Cond.instanceMethod yX10_begins) ∈ gT := gT_i 1323 (by decide +kernel) rfl
theorem k_1324 : (Cond.code yX10_begins cX10_begins 6 (some .boolean)) ∈ gT := gT_i 1324 (by decide +kernel) rfl
theorem dX10_begins_0 : decode cX10_begins 0 = .ok (.aload_n 0, 1) := by decide +kernel
theorem dX10_begins_1 : decode cX10_begins 1 = .ok (.getfield 62, 3) := by decide +kernel
theorem dX10_begins_4 : decode cX10_begins 4 = .ok (.iload_n 1, 1) := by decide +kernel
theorem dX10_begins_5 : decode cX10_begins 5 = .ok (.iaload, 1) := by decide +kernel
theorem dX10_begins_6 : decode cX10_begins 6 = .ok (.istore 5, 2) := by decide +kernel
theorem dX10_begins_8 : decode cX10_begins 8 = .ok (.aload_n 0, 1) := by decide +kernel
theorem dX10_begins_9 : decode cX10_begins 9 = .ok (.getfield 65, 3) := by decide +kernel
theorem dX10_begins_12 : decode cX10_begins 12 = .ok (.iload_n 1, 1) := by decide +kernel
theorem dX10_begins_13 : decode cX10_begins 13 = .ok (.iaload, 1) := by decide +kernel
theorem dX10_begins_14 : decode cX10_begins 14 = .ok (.iload 5, 2) := by decide +kernel
theorem dX10_begins_16 : decode cX10_begins 16 = .ok (.isub, 1) := by decide +kernel
theorem dX10_begins_17 : decode cX10_begins 17 = .ok (.iconst 4, 1) := by decide +kernel
theorem dX10_begins_18 : decode cX10_begins 18 = .ok (.if_icmp .lt 59, 3) := by decide +kernel
theorem dX10_begins_77 : decode cX10_begins 77 = .ok (.iconst 0, 1) := by decide +kernel
theorem dX10_begins_78 : decode cX10_begins 78 = .ok (.ireturn, 1) := by decide +kernel
theorem dX10_begins_21 : decode cX10_begins 21 = .ok (.aload_n 0, 1) := by decide +kernel
theorem dX10_begins_22 : decode cX10_begins 22 = .ok (.getfield 7, 3) := by decide +kernel
theorem dX10_begins_25 : decode cX10_begins 25 = .ok (.iload 5, 2) := by decide +kernel
theorem dX10_begins_27 : decode cX10_begins 27 = .ok (.baload, 1) := by decide +kernel
theorem dX10_begins_28 : decode cX10_begins 28 = .ok (.iload_n 2, 1) := by decide +kernel
theorem dX10_begins_29 : decode cX10_begins 29 = .ok (.if_icmp .ne 48, 3) := by decide +kernel
theorem dX10_begins_32 : decode cX10_begins 32 = .ok (.aload_n 0, 1) := by decide +kernel
theorem dX10_begins_33 : decode cX10_begins 33 = .ok (.getfield 7, 3) := by decide +kernel
theorem dX10_begins_36 : decode cX10_begins 36 = .ok (.iload 5, 2) := by decide +kernel
theorem dX10_begins_38 : decode cX10_begins 38 = .ok (.iconst 1, 1) := by decide +kernel
theorem dX10_begins_39 : decode cX10_begins 39 = .ok (.iadd, 1) := by decide +kernel
theorem dX10_begins_40 : decode cX10_begins 40 = .ok (.baload, 1) := by decide +kernel
theorem dX10_begins_41 : decode cX10_begins 41 = .ok (.iload_n 3, 1) := by decide +kernel
theorem dX10_begins_42 : decode cX10_begins 42 = .ok (.if_icmp .ne 35, 3) := by decide +kernel
theorem dX10_begins_45 : decode cX10_begins 45 = .ok (.aload_n 0, 1) := by decide +kernel
theorem dX10_begins_46 : decode cX10_begins 46 = .ok (.getfield 7, 3) := by decide +kernel
theorem dX10_begins_49 : decode cX10_begins 49 = .ok (.iload 5, 2) := by decide +kernel
theorem dX10_begins_51 : decode cX10_begins 51 = .ok (.iconst 2, 1) := by decide +kernel
theorem dX10_begins_52 : decode cX10_begins 52 = .ok (.iadd, 1) := by decide +kernel
theorem dX10_begins_53 : decode cX10_begins 53 = .ok (.baload, 1) := by decide +kernel
theorem dX10_begins_54 : decode cX10_begins 54 = .ok (.iload 4, 2) := by decide +kernel
theorem dX10_begins_56 : decode cX10_begins 56 = .ok (.if_icmp .ne 21, 3) := by decide +kernel
theorem dX10_begins_59 : decode cX10_begins 59 = .ok (.aload_n 0, 1) := by decide +kernel
theorem dX10_begins_60 : decode cX10_begins 60 = .ok (.getfield 7, 3) := by decide +kernel
theorem dX10_begins_63 : decode cX10_begins 63 = .ok (.iload 5, 2) := by decide +kernel
theorem dX10_begins_65 : decode cX10_begins 65 = .ok (.iconst 3, 1) := by decide +kernel
theorem dX10_begins_66 : decode cX10_begins 66 = .ok (.iadd, 1) := by decide +kernel
theorem dX10_begins_67 : decode cX10_begins 67 = .ok (.baload, 1) := by decide +kernel
theorem dX10_begins_68 : decode cX10_begins 68 = .ok (.bipush 46, 2) := by decide +kernel
theorem dX10_begins_70 : decode cX10_begins 70 = .ok (.if_icmp .ne 7, 3) := by decide +kernel
theorem dX10_begins_73 : decode cX10_begins 73 = .ok (.iconst 1, 1) := by decide +kernel
theorem dX10_begins_74 : decode cX10_begins 74 = .ok (.goto 4, 3) := by decide +kernel
theorem dX10_kindOfLine_0 : decode cX10_kindOfLine 0 = .ok (.aload_n 0, 1) := by decide +kernel
theorem dX10_kindOfLine_1 : decode cX10_kindOfLine 1 = .ok (.iload_n 1, 1) := by decide +kernel
theorem dX10_kindOfLine_2 : decode cX10_kindOfLine 2 = .ok (.invokevirtual 129, 3) := by decide +kernel
theorem dX10_kindOfLine_5 : decode cX10_kindOfLine 5 = .ok (.istore_n 2, 1) := by decide +kernel
theorem dX10_kindOfLine_6 : decode cX10_kindOfLine 6 = .ok (.aload_n 0, 1) := by decide +kernel
theorem dX10_kindOfLine_7 : decode cX10_kindOfLine 7 = .ok (.getfield 7, 3) := by decide +kernel
theorem dX10_kindOfLine_10 : decode cX10_kindOfLine 10 = .ok (.aload_n 0, 1) := by decide +kernel
theorem dX10_kindOfLine_11 : decode cX10_kindOfLine 11 = .ok (.getfield 65, 3) := by decide +kernel
theorem dX10_kindOfLine_14 : decode cX10_kindOfLine 14 = .ok (.iload_n 1, 1) := by decide +kernel
theorem dX10_kindOfLine_15 : decode cX10_kindOfLine 15 = .ok (.iaload, 1) := by decide +kernel
theorem dX10_kindOfLine_16 : decode cX10_kindOfLine 16 = .ok (.iconst 1, 1) := by decide +kernel
theorem dX10_kindOfLine_17 : decode cX10_kindOfLine 17 = .ok (.isub, 1) := by decide +kernel
theorem dX10_kindOfLine_18 : decode cX10_kindOfLine 18 = .ok (.baload, 1) := by decide +kernel
theorem dX10_kindOfLine_19 : decode cX10_kindOfLine 19 = .ok (.istore_n 3, 1) := by decide +kernel
theorem dX10_kindOfLine_20 : decode cX10_kindOfLine 20 = .ok (.aload_n 0, 1) := by decide +kernel
theorem dX10_kindOfLine_21 : decode cX10_kindOfLine 21 = .ok (.iload_n 1, 1) := by decide +kernel
theorem dX10_kindOfLine_22 : decode cX10_kindOfLine 22 = .ok (.iconst 1, 1) := by decide +kernel
theorem dX10_kindOfLine_23 : decode cX10_kindOfLine 23 = .ok (.isub, 1) := by decide +kernel
theorem dX10_kindOfLine_24 : decode cX10_kindOfLine 24 = .ok (.invokevirtual 133, 3) := by decide +kernel
theorem dX10_kindOfLine_27 : decode cX10_kindOfLine 27 = .ok (.istore 4, 2) := by decide +kernel
theorem dX10_kindOfLine_29 : decode cX10_kindOfLine 29 = .ok (.aload_n 0, 1) := by decide +kernel
theorem dX10_kindOfLine_30 : decode cX10_kindOfLine 30 = .ok (.iload_n 1, 1) := by decide +kernel
theorem dX10_kindOfLine_31 : decode cX10_kindOfLine 31 = .ok (.iconst 1, 1) := by decide +kernel
theorem dX10_kindOfLine_32 : decode cX10_kindOfLine 32 = .ok (.iadd, 1) := by decide +kernel
theorem dX10_kindOfLine_33 : decode cX10_kindOfLine 33 = .ok (.invokevirtual 133, 3) := by decide +kernel
theorem dX10_kindOfLine_36 : decode cX10_kindOfLine 36 = .ok (.istore 5, 2) := by decide +kernel
theorem dX10_kindOfLine_38 : decode cX10_kindOfLine 38 = .ok (.iload_n 2, 1) := by decide +kernel
theorem dX10_kindOfLine_39 : decode cX10_kindOfLine 39 = .ok (.ifCond .eq 38, 3) := by decide +kernel
theorem dX10_kindOfLine_42 : decode cX10_kindOfLine 42 = .ok (.iload 4, 2) := by decide +kernel
theorem dX10_kindOfLine_44 : decode cX10_kindOfLine 44 = .ok (.ifCond .eq 33, 3) := by decide +kernel
theorem dX10_kindOfLine_47 : decode cX10_kindOfLine 47 = .ok (.aload_n 0, 1) := by decide +kernel
theorem dX10_kindOfLine_48 : decode cX10_kindOfLine 48 = .ok (.iload_n 1, 1) := by decide +kernel
theorem dX10_kindOfLine_49 : decode cX10_kindOfLine 49 = .ok (.bipush 73, 2) := by decide +kernel
theorem dX10_kindOfLine_51 : decode cX10_kindOfLine 51 = .ok (.bipush 78, 2) := by decide +kernel
theorem dX10_kindOfLine_53 : decode cX10_kindOfLine 53 = .ok (.bipush 84, 2) := by decide +kernel
theorem dX10_kindOfLine_55 : decode cX10_kindOfLine 55 = .ok (.invokevirtual 136, 3) := by decide +kernel
theorem dX10_kindOfLine_58 : decode cX10_kindOfLine 58 = .ok (.ifCond .ne 17, 3) := by decide +kernel
theorem dX10_kindOfLine_75 : decode cX10_kindOfLine 75 = .ok (.iconst 0, 1) := by decide +kernel
theorem dX10_kindOfLine_76 : decode cX10_kindOfLine 76 = .ok (.ireturn, 1) := by decide +kernel
theorem dX10_kindOfLine_61 : decode cX10_kindOfLine 61 = .ok (.aload_n 0, 1) := by decide +kernel
theorem dX10_kindOfLine_62 : decode cX10_kindOfLine 62 = .ok (.iload_n 1, 1) := by decide +kernel
theorem dX10_kindOfLine_63 : decode cX10_kindOfLine 63 = .ok (.bipush 69, 2) := by decide +kernel
theorem dX10_kindOfLine_65 : decode cX10_kindOfLine 65 = .ok (.bipush 88, 2) := by decide +kernel
theorem dX10_kindOfLine_67 : decode cX10_kindOfLine 67 = .ok (.bipush 84, 2) := by decide +kernel
theorem dX10_kindOfLine_69 : decode cX10_kindOfLine 69 = .ok (.invokevirtual 136, 3) := by decide +kernel
theorem dX10_kindOfLine_72 : decode cX10_kindOfLine 72 = .ok (.ifCond .eq 5, 3) := by decide +kernel
theorem dX10_kindOfLine_77 : decode cX10_kindOfLine 77 = .ok (.iload_n 2, 1) := by decide +kernel
theorem dX10_kindOfLine_78 : decode cX10_kindOfLine 78 = .ok (.ifCond .eq 21, 3) := by decide +kernel
theorem dX10_kindOfLine_81 : decode cX10_kindOfLine 81 = .ok (.iload 4, 2) := by decide +kernel
theorem dX10_kindOfLine_83 : decode cX10_kindOfLine 83 = .ok (.ifCond .eq 16, 3) := by decide +kernel
theorem dX10_kindOfLine_86 : decode cX10_kindOfLine 86 = .ok (.iload 5, 2) := by decide +kernel
theorem dX10_kindOfLine_88 : decode cX10_kindOfLine 88 = .ok (.ifCond .eq 11, 3) := by decide +kernel
theorem dX10_kindOfLine_91 : decode cX10_kindOfLine 91 = .ok (.iload_n 3, 1) := by decide +kernel
theorem dX10_kindOfLine_92 : decode cX10_kindOfLine 92 = .ok (.bipush 58, 2) := by decide +kernel
theorem dX10_kindOfLine_94 : decode cX10_kindOfLine 94 = .ok (.if_icmp .ne 5, 3) := by decide +kernel
theorem dX10_kindOfLine_99 : decode cX10_kindOfLine 99 = .ok (.iload_n 2, 1) := by decide +kernel
theorem dX10_kindOfLine_100 : decode cX10_kindOfLine 100 = .ok (.ifCond .eq 33, 3) := by decide +kernel
theorem dX10_kindOfLine_103 : decode cX10_kindOfLine 103 = .ok (.iload 4, 2) := by decide +kernel
theorem dX10_kindOfLine_105 : decode cX10_kindOfLine 105 = .ok (.ifCond .eq 28, 3) := by decide +kernel
theorem dX10_kindOfLine_108 : decode cX10_kindOfLine 108 = .ok (.iload 5, 2) := by decide +kernel
theorem dX10_kindOfLine_110 : decode cX10_kindOfLine 110 = .ok (.ifCond .ne 23, 3) := by decide +kernel
theorem dX10_kindOfLine_133 : decode cX10_kindOfLine 133 = .ok (.iload 4, 2) := by decide +kernel
theorem dX10_kindOfLine_135 : decode cX10_kindOfLine 135 = .ok (.ifCond .ne 23, 3) := by decide +kernel
theorem dX10_kindOfLine_158 : decode cX10_kindOfLine 158 = .ok (.iconst 0, 1) := by decide +kernel
theorem dX10_kindOfLine_159 : decode cX10_kindOfLine 159 = .ok (.istore 6, 2) := by decide +kernel
theorem dX10_kindOfLine_161 : decode cX10_kindOfLine 161 = .ok (.iload 6, 2) := by decide +kernel
theorem dX10_kindOfLine_163 : decode cX10_kindOfLine 163 = .ok (.ifCond .eq 27, 3) := by decide +kernel
theorem dX10_kindOfLine_190 : decode cX10_kindOfLine 190 = .ok (.iload 6, 2) := by decide +kernel
theorem dX10_kindOfLine_192 : decode cX10_kindOfLine 192 = .ok (.ifCond .eq 7, 3) := by decide +kernel
theorem dX10_kindOfLine_199 : decode cX10_kindOfLine 199 = .ok (.iconst 5, 1) := by decide +kernel
theorem dX10_kindOfLine_200 : decode cX10_kindOfLine 200 = .ok (.ireturn, 1) := by decide +kernel
theorem dX10_kindOfLine_97 : decode cX10_kindOfLine 97 = .ok (.iconst 1, 1) := by decide +kernel
theorem dX10_kindOfLine_98 : decode cX10_kindOfLine 98 = .ok (.ireturn, 1) := by decide +kernel
theorem dX10_kindOfLine_113 : decode cX10_kindOfLine 113 = .ok (.aload_n 0, 1) := by decide +kernel
theorem dX10_kindOfLine_114 : decode cX10_kindOfLine 114 = .ok (.getfield 65, 3) := by decide +kernel
theorem dX10_kindOfLine_117 : decode cX10_kindOfLine 117 = .ok (.iload_n 1, 1) := by decide +kernel
theorem dX10_kindOfLine_118 : decode cX10_kindOfLine 118 = .ok (.iaload, 1) := by decide +kernel
theorem dX10_kindOfLine_119 : decode cX10_kindOfLine 119 = .ok (.aload_n 0, 1) := by decide +kernel
theorem dX10_kindOfLine_120 : decode cX10_kindOfLine 120 = .ok (.getfield 62, 3) := by decide +kernel
theorem dX10_kindOfLine_123 : decode cX10_kindOfLine 123 = .ok (.iload_n 1, 1) := by decide +kernel
theorem dX10_kindOfLine_124 : decode cX10_kindOfLine 124 = .ok (.iaload, 1) := by decide +kernel
theorem dX10_kindOfLine_125 : decode cX10_kindOfLine 125 = .ok (.isub, 1) := by decide +kernel
theorem dX10_kindOfLine_126 : decode cX10_kindOfLine 126 = .ok (.bipush 24, 2) := by decide +kernel
theorem dX10_kindOfLine_128 : decode cX10_kindOfLine 128 = .ok (.if_icmp .gt 5, 3) := by decide +kernel
theorem dX10_kindOfLine_131 : decode cX10_kindOfLine 131 = .ok (.iconst 2, 1) := by decide +kernel
theorem dX10_kindOfLine_132 : decode cX10_kindOfLine 132 = .ok (.ireturn, 1) := by decide +kernel
theorem dX10_kindOfLine_138 : decode cX10_kindOfLine 138 = .ok (.aload_n 0, 1) := by decide +kernel
theorem dX10_kindOfLine_139 : decode cX10_kindOfLine 139 = .ok (.getfield 68, 3) := by decide +kernel
theorem dX10_kindOfLine_142 : decode cX10_kindOfLine 142 = .ok (.iload_n 1, 1) := by decide +kernel
theorem dX10_kindOfLine_143 : decode cX10_kindOfLine 143 = .ok (.iconst 1, 1) := by decide +kernel
theorem dX10_kindOfLine_144 : decode cX10_kindOfLine 144 = .ok (.isub, 1) := by decide +kernel
theorem dX10_kindOfLine_145 : decode cX10_kindOfLine 145 = .ok (.iaload, 1) := by decide +kernel
theorem dX10_kindOfLine_146 : decode cX10_kindOfLine 146 = .ok (.iconst 2, 1) := by decide +kernel
theorem dX10_kindOfLine_147 : decode cX10_kindOfLine 147 = .ok (.iconst 4, 1) := by decide +kernel
theorem dX10_kindOfLine_148 : decode cX10_kindOfLine 148 = .ok (.invokestatic 119, 3) := by decide +kernel
theorem dX10_kindOfLine_151 : decode cX10_kindOfLine 151 = .ok (.ifCond .eq 7, 3) := by decide +kernel
theorem dX10_kindOfLine_154 : decode cX10_kindOfLine 154 = .ok (.iconst 1, 1) := by decide +kernel
theorem dX10_kindOfLine_155 : decode cX10_kindOfLine 155 = .ok (.goto 4, 3) := by decide +kernel
theorem dX10_kindOfLine_166 : decode cX10_kindOfLine 166 = .ok (.aload_n 0, 1) := by decide +kernel
theorem dX10_kindOfLine_167 : decode cX10_kindOfLine 167 = .ok (.getfield 7, 3) := by decide +kernel
theorem dX10_kindOfLine_170 : decode cX10_kindOfLine 170 = .ok (.aload_n 0, 1) := by decide +kernel
theorem dX10_kindOfLine_171 : decode cX10_kindOfLine 171 = .ok (.getfield 62, 3) := by decide +kernel
theorem dX10_kindOfLine_174 : decode cX10_kindOfLine 174 = .ok (.iload_n 1, 1) := by decide +kernel
theorem dX10_kindOfLine_175 : decode cX10_kindOfLine 175 = .ok (.iaload, 1) := by decide +kernel
theorem dX10_kindOfLine_176 : decode cX10_kindOfLine 176 = .ok (.baload, 1) := by decide +kernel
theorem dX10_kindOfLine_177 : decode cX10_kindOfLine 177 = .ok (.bipush 40, 2) := by decide +kernel
theorem dX10_kindOfLine_179 : decode cX10_kindOfLine 179 = .ok (.if_icmp .ne 11, 3) := by decide +kernel
theorem dX10_kindOfLine_195 : decode cX10_kindOfLine 195 = .ok (.iconst 4, 1) := by decide +kernel
theorem dX10_kindOfLine_196 : decode cX10_kindOfLine 196 = .ok (.goto 4, 3) := by decide +kernel
theorem dX10_kindOfLine_182 : decode cX10_kindOfLine 182 = .ok (.iload_n 3, 1) := by decide +kernel
theorem dX10_kindOfLine_183 : decode cX10_kindOfLine 183 = .ok (.bipush 41, 2) := by decide +kernel
theorem dX10_kindOfLine_185 : decode cX10_kindOfLine 185 = .ok (.if_icmp .ne 5, 3) := by decide +kernel
theorem dX10_kindOfLine_188 : decode cX10_kindOfLine 188 = .ok (.iconst 3, 1) := by decide +kernel
theorem dX10_kindOfLine_189 : decode cX10_kindOfLine 189 = .ok (.ireturn, 1) := by decide +kernel
set_option maxHeartbeats 1000000 in
set_option maxRecDepth 100000 in
theorem r_begins (l : Launch) (D : va_G) (h0 : Nat) (q : Nat → Nat) (cB cI_ cZ : ClassId) (I : Nat → Int32) (F : Nat → Nat → Int32) (L : List (Nat × Nat)) (j : Nat) (x2 x3 x4 : Int32) (hI21 : I 21 = nI L.length) (hL : ∀ j, j < L.length → F 22 j = nI (L.getD j (0, 0)).1 ∧ F 23 j = nI (L.getD j (0, 0)).2) (hok : tx_ok L) (hj : j < L.length) : cI l D yX10_begins cX10_begins 6 (some .boolean) 0 0 0 0 [.ref h0, .int (nI j), .int x2, .int x3, .int x4] zT (mW h0 q cB cI_ cZ I F) (mT cB cI_ cZ) (fun r u => (tx_beg (F 0) (L.getD j (0, 0)).1 (L.getD j (0, 0)).2 x2 x3 x4 ∧ r = 1 ∨ ¬ tx_beg (F 0) (L.getD j (0, 0)).1 (L.getD j (0, 0)).2 x2 x3 x4 ∧ r = 0) ∧ u = (mW h0 q cB cI_ cZ I F, mT cB cI_ cZ)) := by
  refine q_si (by decide) (Nat.le_of_ble_eq_true rfl) ?_
  intro p e s m below meth c A ls hAe hf hr hlocks hin hK hP hD hS hA hZ hl
  obtain ⟨hx, hb, hml, hown, hts⟩ := id hf
  have hl : lv_has ls 6 [(0, .ref h0), (1, .int (nI j)), (2, .int x2), (3, .int x3), (4, .int x4)] := hl
  have hok1 := hok.1
  have hb1 := hok.2 j hj
  refine lv_aload_n hx hb dX10_begins_0 rfl (lv_at hl 0 rfl) ?_
  refine va_get (D := D) (ci := 11) (v := .ref (q 22)) (C := RX10) (T := TX10) (N := 48) hx hb hts inX10 hown hK hP 0 rfl rfl 22 (by decide) (hts _ k_1166) (fun _ h9 => h9) rfl dX10_begins_1 ?_
  refine lv_iload_n hx hb dX10_begins_4 rfl (lv_at hl 1 rfl) ?_
  refine q_ild (X := j) (f := (F 22)) hx hb hK hP 16 1 rfl rfl (by omega) (by decide) dX10_begins_5 ?_
  refine q_seti (y := (nI ((L.getD j (0, 0)).1))) (hL j (by omega)).1 ?_
  refine lv_istore (lv' := [(5, .int (nI ((L.getD j (0, 0)).1))), (0, .ref h0), (1, .int (nI j)), (2, .int x2), (3, .int x3), (4, .int x4)]) hx hb dX10_begins_6 hl (by decide) rfl (fun ls hl => ?_)
  refine lv_aload_n hx hb dX10_begins_8 rfl (lv_at hl 1 rfl) ?_
  refine va_get (D := D) (ci := 11) (v := .ref (q 23)) (C := RX10) (T := TX10) (N := 48) hx hb hts inX10 hown hK hP 0 rfl rfl 23 (by decide) (hts _ k_1167) (fun _ h9 => h9) rfl dX10_begins_9 ?_
  refine lv_iload_n hx hb dX10_begins_12 rfl (lv_at hl 2 rfl) ?_
  refine q_ild (X := j) (f := (F 23)) hx hb hK hP 17 1 rfl rfl (by omega) (by decide) dX10_begins_13 ?_
  refine q_seti (y := (nI ((L.getD j (0, 0)).2))) (hL j (by omega)).2 ?_
  refine lv_iload hx hb dX10_begins_14 (lv_at hl 0 rfl) ?_
  refine lv_isub hx hb dX10_begins_16 ?_
  refine q_seti (y := nI (((L.getD j (0, 0)).2) - ((L.getD j (0, 0)).1))) (pk_sub (a := (L.getD j (0, 0)).2) (b := (L.getD j (0, 0)).1) (by omega)) ?_
  refine lv_iconst (v := 4) hx hb dX10_begins_17 (by decide) ?_
  refine lv_icmp_lt (tgt := 77) hx hb dX10_begins_18 (by decide) (fun c_1 => ?_) (fun c_1 => ?_)
  · have c_1 := q_lt (a := ((L.getD j (0, 0)).2) - ((L.getD j (0, 0)).1)) (b := 4) (by omega) (by omega) c_1
    refine lv_iconst (v := 0) hx hb dX10_begins_77 (by decide) ?_
    exact q_zi hf hr rfl hlocks hK hP hD hS (Nat.le_of_ble_eq_true rfl) (Nat.le_of_ble_eq_true rfl) ⟨Or.inr ⟨fun h => absurd h.1 (by omega), rfl⟩, rfl⟩ dX10_begins_78
  · have c_1 := q_nlt (a := ((L.getD j (0, 0)).2) - ((L.getD j (0, 0)).1)) (b := 4) (by omega) (by omega) c_1
    refine lv_aload_n hx hb dX10_begins_21 rfl (lv_at hl 1 rfl) ?_
    refine va_get (D := D) (ci := 11) (v := .ref (q 0)) (C := RX10) (T := TX10) (N := 48) hx hb hts inX10 hown hK hP 0 rfl rfl 0 (by decide) (hts _ k_1144) (fun _ h9 => h9) rfl dX10_begins_22 ?_
    refine lv_iload hx hb dX10_begins_25 (lv_at hl 0 rfl) ?_
    refine q_bld (X := (L.getD j (0, 0)).1) (f := (F 0)) hx hb hK hP 1 0 rfl rfl (by omega) (by decide) dX10_begins_27 ?_
    refine lv_iload_n hx hb dX10_begins_28 rfl (lv_at hl 3 rfl) ?_
    refine lv_icmp_ne (tgt := 77) hx hb dX10_begins_29 (by decide) (fun c_2 => ?_) (fun c_2 => ?_)
    · refine lv_iconst (v := 0) hx hb dX10_begins_77 (by decide) ?_
      exact q_zi hf hr rfl hlocks hK hP hD hS (Nat.le_of_ble_eq_true rfl) (Nat.le_of_ble_eq_true rfl) ⟨Or.inr ⟨fun h => c_2 h.2.1, rfl⟩, rfl⟩ dX10_begins_78
    · refine lv_aload_n hx hb dX10_begins_32 rfl (lv_at hl 1 rfl) ?_
      refine va_get (D := D) (ci := 11) (v := .ref (q 0)) (C := RX10) (T := TX10) (N := 48) hx hb hts inX10 hown hK hP 0 rfl rfl 0 (by decide) (hts _ k_1144) (fun _ h9 => h9) rfl dX10_begins_33 ?_
      refine lv_iload hx hb dX10_begins_36 (lv_at hl 0 rfl) ?_
      refine lv_iconst (v := 1) hx hb dX10_begins_38 (by decide) ?_
      refine lv_iadd hx hb dX10_begins_39 ?_
      refine q_seti (y := nI (((L.getD j (0, 0)).1) + 1)) (nI_add ((L.getD j (0, 0)).1) 1) ?_
      refine q_bld (X := ((L.getD j (0, 0)).1) + 1) (f := (F 0)) hx hb hK hP 1 0 rfl rfl (by omega) (by decide) dX10_begins_40 ?_
      refine lv_iload_n hx hb dX10_begins_41 rfl (lv_at hl 4 rfl) ?_
      refine lv_icmp_ne (tgt := 77) hx hb dX10_begins_42 (by decide) (fun c_3 => ?_) (fun c_3 => ?_)
      · refine lv_iconst (v := 0) hx hb dX10_begins_77 (by decide) ?_
        exact q_zi hf hr rfl hlocks hK hP hD hS (Nat.le_of_ble_eq_true rfl) (Nat.le_of_ble_eq_true rfl) ⟨Or.inr ⟨fun h => c_3 h.2.2.1, rfl⟩, rfl⟩ dX10_begins_78
      · refine lv_aload_n hx hb dX10_begins_45 rfl (lv_at hl 1 rfl) ?_
        refine va_get (D := D) (ci := 11) (v := .ref (q 0)) (C := RX10) (T := TX10) (N := 48) hx hb hts inX10 hown hK hP 0 rfl rfl 0 (by decide) (hts _ k_1144) (fun _ h9 => h9) rfl dX10_begins_46 ?_
        refine lv_iload hx hb dX10_begins_49 (lv_at hl 0 rfl) ?_
        refine lv_iconst (v := 2) hx hb dX10_begins_51 (by decide) ?_
        refine lv_iadd hx hb dX10_begins_52 ?_
        refine q_seti (y := nI (((L.getD j (0, 0)).1) + 2)) (nI_add ((L.getD j (0, 0)).1) 2) ?_
        refine q_bld (X := ((L.getD j (0, 0)).1) + 2) (f := (F 0)) hx hb hK hP 1 0 rfl rfl (by omega) (by decide) dX10_begins_53 ?_
        refine lv_iload hx hb dX10_begins_54 (lv_at hl 5 rfl) ?_
        refine lv_icmp_ne (tgt := 77) hx hb dX10_begins_56 (by decide) (fun c_4 => ?_) (fun c_4 => ?_)
        · refine lv_iconst (v := 0) hx hb dX10_begins_77 (by decide) ?_
          exact q_zi hf hr rfl hlocks hK hP hD hS (Nat.le_of_ble_eq_true rfl) (Nat.le_of_ble_eq_true rfl) ⟨Or.inr ⟨fun h => c_4 h.2.2.2.1, rfl⟩, rfl⟩ dX10_begins_78
        · refine lv_aload_n hx hb dX10_begins_59 rfl (lv_at hl 1 rfl) ?_
          refine va_get (D := D) (ci := 11) (v := .ref (q 0)) (C := RX10) (T := TX10) (N := 48) hx hb hts inX10 hown hK hP 0 rfl rfl 0 (by decide) (hts _ k_1144) (fun _ h9 => h9) rfl dX10_begins_60 ?_
          refine lv_iload hx hb dX10_begins_63 (lv_at hl 0 rfl) ?_
          refine lv_iconst (v := 3) hx hb dX10_begins_65 (by decide) ?_
          refine lv_iadd hx hb dX10_begins_66 ?_
          refine q_seti (y := nI (((L.getD j (0, 0)).1) + 3)) (nI_add ((L.getD j (0, 0)).1) 3) ?_
          refine q_bld (X := ((L.getD j (0, 0)).1) + 3) (f := (F 0)) hx hb hK hP 1 0 rfl rfl (by omega) (by decide) dX10_begins_67 ?_
          refine lv_bipush (v := 46) hx hb dX10_begins_68 (by decide) ?_
          refine lv_icmp_ne (tgt := 77) hx hb dX10_begins_70 (by decide) (fun c_5 => ?_) (fun c_5 => ?_)
          · refine lv_iconst (v := 0) hx hb dX10_begins_77 (by decide) ?_
            exact q_zi hf hr rfl hlocks hK hP hD hS (Nat.le_of_ble_eq_true rfl) (Nat.le_of_ble_eq_true rfl) ⟨Or.inr ⟨fun h => c_5 h.2.2.2.2, rfl⟩, rfl⟩ dX10_begins_78
          · refine lv_iconst (v := 1) hx hb dX10_begins_73 (by decide) ?_
            refine lv_goto (tgt := 78) hx hb dX10_begins_74 (by decide) ?_
            exact q_zi hf hr rfl hlocks hK hP hD hS (Nat.le_of_ble_eq_true rfl) (Nat.le_of_ble_eq_true rfl) ⟨Or.inl ⟨⟨by omega, c_2, c_3, c_4, c_5⟩, rfl⟩, rfl⟩ dX10_begins_78
set_option maxHeartbeats 1000000 in
set_option maxRecDepth 100000 in
theorem r_kindOfLine_s (l : Launch) (D : va_G) (h0 : Nat) (q : Nat → Nat) (cB cI_ cZ : ClassId) (I : Nat → Int32) (F : Nat → Nat → Int32) (L : List (Nat × Nat)) (j : Nat) (pk : Int32) (hI21 : I 21 = nI L.length) (hL : ∀ j, j < L.length → F 22 j = nI (L.getD j (0, 0)).1 ∧ F 23 j = nI (L.getD j (0, 0)).2) (hok : tx_ok L) (hj : j + 1 < L.length) (hpk : F 24 j = pk) (hnf : ¬ tx_free L (j + 1)) : cI l D yX10_kindOfLine cX10_kindOfLine 7 (some .int) 2 45 0 0 [.ref h0, .int (nI (j + 1))] zT (mW h0 q cB cI_ cZ I F) (mT cB cI_ cZ) (fun r u => r = tx_kd (F 0) (L.getD (j + 1) (0, 0)).1 (L.getD (j + 1) (0, 0)).2 (tx_free L j) (tx_free L (j + 1 + 1)) pk ∧ u = (mW h0 q cB cI_ cZ I F, mT cB cI_ cZ)) := by
  refine q_si (by decide) (Nat.le_of_ble_eq_true rfl) ?_
  intro p e s m below meth c A ls hAe hf hr hlocks hin hK hP hD hS hA hZ hl
  obtain ⟨hx, hb, hml, hown, hts⟩ := id hf
  have hl : lv_has ls 7 [(0, .ref h0), (1, .int (nI (j + 1)))] := hl
  have hok1 := hok.1
  have hb1 := hok.2 (j + 1) hj
  have hne : (L.getD (j + 1) (0, 0)).1 < (L.getD (j + 1) (0, 0)).2 := by have h9 := hnf; unfold tx_free at h9; omega
  refine lv_aload_n hx hb dX10_kindOfLine_0 rfl (lv_at hl 0 rfl) ?_
  refine lv_iload_n hx hb dX10_kindOfLine_1 rfl (lv_at hl 1 rfl) ?_
  refine q_ci (k := 0) (n := 0) hK hP hD hS hA (fun hPc hKc hDc => q_rV (As := [.int (nI (j + 1))]) (rest := []) hf (r_isBig _ D h0 q cB cI_ cZ I F L (j + 1) hI21 hL hok hj _) k_1320 k_1317 k_1319 k_49 k_98 (nA := 1) (by decide +kernel) ⟨Nat.le_of_ble_eq_true rfl, Nat.le_of_ble_eq_true rfl⟩ hK hP (ci := 11) (q0 := 0) rfl rfl rfl hPc hKc hDc (fun _ _ _ _ h => h) (fun _ _ _ => trivial) rfl hl.1 rfl (Nat.le_of_ble_eq_true rfl) dX10_kindOfLine_2 ⟨Nat.le_of_ble_eq_true rfl, Nat.le_of_ble_eq_true rfl⟩) (by decide) (by decide) (fun r u H locs hw hK hP hD hS => ?_)
  rcases hw with ⟨⟨c_1, rfl⟩ | ⟨c_1, rfl⟩, rfl⟩
  · have hP : va_P D vcl (mW h0 q cB cI_ cZ I F) H := hP
    have hD : va_D A (mW h0 q cB cI_ cZ I F) := hD
    refine lv_istore_n (lv' := [(2, .int 1), (0, .ref h0), (1, .int (nI (j + 1)))]) hx hb dX10_kindOfLine_5 rfl hl (by decide) rfl (fun ls hl => ?_)
    refine lv_aload_n hx hb dX10_kindOfLine_6 rfl (lv_at hl 1 rfl) ?_
    refine va_get (D := D) (ci := 11) (v := .ref (q 0)) (C := RX10) (T := TX10) (N := 48) hx hb hts inX10 hown hK hP 0 rfl rfl 0 (by decide) (hts _ k_1144) (fun _ h9 => h9) rfl dX10_kindOfLine_7 ?_
    refine lv_aload_n hx hb dX10_kindOfLine_10 rfl (lv_at hl 1 rfl) ?_
    refine va_get (D := D) (ci := 11) (v := .ref (q 23)) (C := RX10) (T := TX10) (N := 48) hx hb hts inX10 hown hK hP 0 rfl rfl 23 (by decide) (hts _ k_1167) (fun _ h9 => h9) rfl dX10_kindOfLine_11 ?_
    refine lv_iload_n hx hb dX10_kindOfLine_14 rfl (lv_at hl 2 rfl) ?_
    refine q_ild (X := j + 1) (f := (F 23)) hx hb hK hP 17 1 rfl rfl (by omega) (by decide) dX10_kindOfLine_15 ?_
    refine q_seti (y := (nI ((L.getD (j + 1) (0, 0)).2))) (hL (j + 1) (by omega)).2 ?_
    refine lv_iconst (v := 1) hx hb dX10_kindOfLine_16 (by decide) ?_
    refine lv_isub hx hb dX10_kindOfLine_17 ?_
    refine q_seti (y := nI (((L.getD (j + 1) (0, 0)).2) - 1)) (pk_sub (a := (L.getD (j + 1) (0, 0)).2) (b := 1) (by omega)) ?_
    refine q_bld (X := ((L.getD (j + 1) (0, 0)).2) - 1) (f := (F 0)) hx hb hK hP 1 0 rfl rfl (by omega) (by decide) dX10_kindOfLine_18 ?_
    refine lv_istore_n (lv' := [(3, .int ((F 0) (((L.getD (j + 1) (0, 0)).2) - 1))), (2, .int 1), (0, .ref h0), (1, .int (nI (j + 1)))]) hx hb dX10_kindOfLine_19 rfl hl (by decide) rfl (fun ls hl => ?_)
    refine lv_aload_n hx hb dX10_kindOfLine_20 rfl (lv_at hl 2 rfl) ?_
    refine lv_iload_n hx hb dX10_kindOfLine_21 rfl (lv_at hl 3 rfl) ?_
    refine lv_iconst (v := 1) hx hb dX10_kindOfLine_22 (by decide) ?_
    refine lv_isub hx hb dX10_kindOfLine_23 ?_
    refine q_seti (y := nI ((j + 1) - 1)) (pk_sub (a := j + 1) (b := 1) (by omega)) ?_
    refine q_ci (k := 0) (n := 0) hK hP hD hS hA (fun hPc hKc hDc => q_rV (As := [.int (nI ((j + 1) - 1))]) (rest := []) hf (r_isFree _ D h0 q cB cI_ cZ I F L ((j + 1) - 1) hI21 hL hok (by omega) _) k_1312 k_1309 k_1311 k_47 k_98 (nA := 1) (by decide +kernel) ⟨Nat.le_of_ble_eq_true rfl, Nat.le_of_ble_eq_true rfl⟩ hK hP (ci := 11) (q0 := 0) rfl rfl rfl hPc hKc hDc (fun _ _ _ _ h => h) (fun _ _ _ => trivial) rfl hl.1 rfl (Nat.le_of_ble_eq_true rfl) dX10_kindOfLine_24 ⟨Nat.le_of_ble_eq_true rfl, Nat.le_of_ble_eq_true rfl⟩) (by decide) (by decide) (fun r u H locs hw hK hP hD hS => ?_)
    rcases hw with ⟨⟨c_2, rfl⟩ | ⟨c_2, rfl⟩, rfl⟩
    · have hP : va_P D vcl (mW h0 q cB cI_ cZ I F) H := hP
      have hD : va_D A (mW h0 q cB cI_ cZ I F) := hD
      refine lv_istore (lv' := [(4, .int 1), (3, .int ((F 0) (((L.getD (j + 1) (0, 0)).2) - 1))), (2, .int 1), (0, .ref h0), (1, .int (nI (j + 1)))]) hx hb dX10_kindOfLine_27 hl (by decide) rfl (fun ls hl => ?_)
      refine lv_aload_n hx hb dX10_kindOfLine_29 rfl (lv_at hl 3 rfl) ?_
      refine lv_iload_n hx hb dX10_kindOfLine_30 rfl (lv_at hl 4 rfl) ?_
      refine lv_iconst (v := 1) hx hb dX10_kindOfLine_31 (by decide) ?_
      refine lv_iadd hx hb dX10_kindOfLine_32 ?_
      refine q_seti (y := nI ((j + 1) + 1)) (nI_add (j + 1) 1) ?_
      refine q_ci (k := 0) (n := 0) hK hP hD hS hA (fun hPc hKc hDc => q_rV (As := [.int (nI ((j + 1) + 1))]) (rest := []) hf (r_isFree _ D h0 q cB cI_ cZ I F L ((j + 1) + 1) hI21 hL hok (by omega) _) k_1312 k_1309 k_1311 k_47 k_98 (nA := 1) (by decide +kernel) ⟨Nat.le_of_ble_eq_true rfl, Nat.le_of_ble_eq_true rfl⟩ hK hP (ci := 11) (q0 := 0) rfl rfl rfl hPc hKc hDc (fun _ _ _ _ h => h) (fun _ _ _ => trivial) rfl hl.1 rfl (Nat.le_of_ble_eq_true rfl) dX10_kindOfLine_33 ⟨Nat.le_of_ble_eq_true rfl, Nat.le_of_ble_eq_true rfl⟩) (by decide) (by decide) (fun r u H locs hw hK hP hD hS => ?_)
      rcases hw with ⟨⟨c_3, rfl⟩ | ⟨c_3, rfl⟩, rfl⟩
      · have hP : va_P D vcl (mW h0 q cB cI_ cZ I F) H := hP
        have hD : va_D A (mW h0 q cB cI_ cZ I F) := hD
        refine lv_istore (lv' := [(5, .int 1), (4, .int 1), (3, .int ((F 0) (((L.getD (j + 1) (0, 0)).2) - 1))), (2, .int 1), (0, .ref h0), (1, .int (nI (j + 1)))]) hx hb dX10_kindOfLine_36 hl (by decide) rfl (fun ls hl => ?_)
        refine lv_iload_n hx hb dX10_kindOfLine_38 rfl (lv_at hl 3 rfl) ?_
        refine lv_if_eq (tgt := 77) hx hb dX10_kindOfLine_39 (by decide) (fun hno => absurd hno (by decide)) (fun _ => ?_)
        refine lv_iload hx hb dX10_kindOfLine_42 (lv_at hl 1 rfl) ?_
        refine lv_if_eq (tgt := 77) hx hb dX10_kindOfLine_44 (by decide) (fun hno => absurd hno (by decide)) (fun _ => ?_)
        refine lv_aload_n hx hb dX10_kindOfLine_47 rfl (lv_at hl 4 rfl) ?_
        refine lv_iload_n hx hb dX10_kindOfLine_48 rfl (lv_at hl 5 rfl) ?_
        refine lv_bipush (v := 73) hx hb dX10_kindOfLine_49 (by decide) ?_
        refine lv_bipush (v := 78) hx hb dX10_kindOfLine_51 (by decide) ?_
        refine lv_bipush (v := 84) hx hb dX10_kindOfLine_53 (by decide) ?_
        refine q_ci (k := 0) (n := 0) hK hP hD hS hA (fun hPc hKc hDc => q_rV (As := [.int (nI (j + 1)), .int 73, .int 78, .int 84]) (rest := []) hf (r_begins _ D h0 q cB cI_ cZ I F L (j + 1) 73 78 84 hI21 hL hok hj _) k_1324 k_1321 k_1323 k_50 k_98 (nA := 4) (by decide +kernel) ⟨Nat.le_of_ble_eq_true rfl, Nat.le_of_ble_eq_true rfl⟩ hK hP (ci := 11) (q0 := 0) rfl rfl rfl hPc hKc hDc (fun _ _ _ _ h => h) (fun _ _ _ => trivial) rfl hl.1 rfl (Nat.le_of_ble_eq_true rfl) dX10_kindOfLine_55 ⟨Nat.le_of_ble_eq_true rfl, Nat.le_of_ble_eq_true rfl⟩) (by decide) (by decide) (fun r u H locs hw hK hP hD hS => ?_)
        rcases hw with ⟨⟨c_4, rfl⟩ | ⟨c_4, rfl⟩, rfl⟩
        · have hP : va_P D vcl (mW h0 q cB cI_ cZ I F) H := hP
          have hD : va_D A (mW h0 q cB cI_ cZ I F) := hD
          refine lv_if_ne (tgt := 75) hx hb dX10_kindOfLine_58 (by decide) (fun _ => ?_) (fun hno => absurd hno (by decide))
          refine lv_iconst (v := 0) hx hb dX10_kindOfLine_75 (by decide) ?_
          exact q_zi hf hr rfl hlocks hK hP hD hS (Nat.le_of_ble_eq_true rfl) (Nat.le_of_ble_eq_true rfl) ⟨(pif_p ⟨c_1, c_2, Or.inl c_4⟩).symm, rfl⟩ dX10_kindOfLine_76
        · have hP : va_P D vcl (mW h0 q cB cI_ cZ I F) H := hP
          have hD : va_D A (mW h0 q cB cI_ cZ I F) := hD
          refine lv_if_ne (tgt := 75) hx hb dX10_kindOfLine_58 (by decide) (fun hno => absurd hno (by decide)) (fun _ => ?_)
          refine lv_aload_n hx hb dX10_kindOfLine_61 rfl (lv_at hl 4 rfl) ?_
          refine lv_iload_n hx hb dX10_kindOfLine_62 rfl (lv_at hl 5 rfl) ?_
          refine lv_bipush (v := 69) hx hb dX10_kindOfLine_63 (by decide) ?_
          refine lv_bipush (v := 88) hx hb dX10_kindOfLine_65 (by decide) ?_
          refine lv_bipush (v := 84) hx hb dX10_kindOfLine_67 (by decide) ?_
          refine q_ci (k := 0) (n := 0) hK hP hD hS hA (fun hPc hKc hDc => q_rV (As := [.int (nI (j + 1)), .int 69, .int 88, .int 84]) (rest := []) hf (r_begins _ D h0 q cB cI_ cZ I F L (j + 1) 69 88 84 hI21 hL hok hj _) k_1324 k_1321 k_1323 k_50 k_98 (nA := 4) (by decide +kernel) ⟨Nat.le_of_ble_eq_true rfl, Nat.le_of_ble_eq_true rfl⟩ hK hP (ci := 11) (q0 := 0) rfl rfl rfl hPc hKc hDc (fun _ _ _ _ h => h) (fun _ _ _ => trivial) rfl hl.1 rfl (Nat.le_of_ble_eq_true rfl) dX10_kindOfLine_69 ⟨Nat.le_of_ble_eq_true rfl, Nat.le_of_ble_eq_true rfl⟩) (by decide) (by decide) (fun r u H locs hw hK hP hD hS => ?_)
          rcases hw with ⟨⟨c_5, rfl⟩ | ⟨c_5, rfl⟩, rfl⟩
          · have hP : va_P D vcl (mW h0 q cB cI_ cZ I F) H := hP
            have hD : va_D A (mW h0 q cB cI_ cZ I F) := hD
            refine lv_if_eq (tgt := 77) hx hb dX10_kindOfLine_72 (by decide) (fun hno => absurd hno (by decide)) (fun _ => ?_)
            refine lv_iconst (v := 0) hx hb dX10_kindOfLine_75 (by decide) ?_
            exact q_zi hf hr rfl hlocks hK hP hD hS (Nat.le_of_ble_eq_true rfl) (Nat.le_of_ble_eq_true rfl) ⟨(pif_p ⟨c_1, c_2, Or.inr c_5⟩).symm, rfl⟩ dX10_kindOfLine_76
          · have hP : va_P D vcl (mW h0 q cB cI_ cZ I F) H := hP
            have hD : va_D A (mW h0 q cB cI_ cZ I F) := hD
            refine lv_if_eq (tgt := 77) hx hb dX10_kindOfLine_72 (by decide) (fun _ => ?_) (fun hno => absurd hno (by decide))
            refine lv_iload_n hx hb dX10_kindOfLine_77 rfl (lv_at hl 3 rfl) ?_
            refine lv_if_eq (tgt := 99) hx hb dX10_kindOfLine_78 (by decide) (fun hno => absurd hno (by decide)) (fun _ => ?_)
            refine lv_iload hx hb dX10_kindOfLine_81 (lv_at hl 1 rfl) ?_
            refine lv_if_eq (tgt := 99) hx hb dX10_kindOfLine_83 (by decide) (fun hno => absurd hno (by decide)) (fun _ => ?_)
            refine lv_iload hx hb dX10_kindOfLine_86 (lv_at hl 0 rfl) ?_
            refine lv_if_eq (tgt := 99) hx hb dX10_kindOfLine_88 (by decide) (fun hno => absurd hno (by decide)) (fun _ => ?_)
            refine lv_iload_n hx hb dX10_kindOfLine_91 rfl (lv_at hl 2 rfl) ?_
            refine lv_bipush (v := 58) hx hb dX10_kindOfLine_92 (by decide) ?_
            refine lv_icmp_ne (tgt := 99) hx hb dX10_kindOfLine_94 (by decide) (fun c_6 => ?_) (fun c_6 => ?_)
            · refine lv_iload_n hx hb dX10_kindOfLine_99 rfl (lv_at hl 3 rfl) ?_
              refine lv_if_eq (tgt := 133) hx hb dX10_kindOfLine_100 (by decide) (fun hno => absurd hno (by decide)) (fun _ => ?_)
              refine lv_iload hx hb dX10_kindOfLine_103 (lv_at hl 1 rfl) ?_
              refine lv_if_eq (tgt := 133) hx hb dX10_kindOfLine_105 (by decide) (fun hno => absurd hno (by decide)) (fun _ => ?_)
              refine lv_iload hx hb dX10_kindOfLine_108 (lv_at hl 0 rfl) ?_
              refine lv_if_ne (tgt := 133) hx hb dX10_kindOfLine_110 (by decide) (fun _ => ?_) (fun hno => absurd hno (by decide))
              refine lv_iload hx hb dX10_kindOfLine_133 (lv_at hl 1 rfl) ?_
              refine lv_if_ne (tgt := 158) hx hb dX10_kindOfLine_135 (by decide) (fun _ => ?_) (fun hno => absurd hno (by decide))
              refine lv_iconst (v := 0) hx hb dX10_kindOfLine_158 (by decide) ?_
              refine lv_istore (lv' := [(6, .int 0), (5, .int 1), (4, .int 1), (3, .int ((F 0) (((L.getD (j + 1) (0, 0)).2) - 1))), (2, .int 1), (0, .ref h0), (1, .int (nI (j + 1)))]) hx hb dX10_kindOfLine_159 hl (by decide) rfl (fun ls hl => ?_)
              refine lv_iload hx hb dX10_kindOfLine_161 (lv_at hl 0 rfl) ?_
              refine lv_if_eq (tgt := 190) hx hb dX10_kindOfLine_163 (by decide) (fun _ => ?_) (fun hno => absurd hno (by decide))
              refine lv_iload hx hb dX10_kindOfLine_190 (lv_at hl 0 rfl) ?_
              refine lv_if_eq (tgt := 199) hx hb dX10_kindOfLine_192 (by decide) (fun _ => ?_) (fun hno => absurd hno (by decide))
              refine lv_iconst (v := 5) hx hb dX10_kindOfLine_199 (by decide) ?_
              exact q_zi hf hr rfl hlocks hK hP hD hS (Nat.le_of_ble_eq_true rfl) (Nat.le_of_ble_eq_true rfl) ⟨((((pif_n (fun h => h.2.2.elim c_4 c_5)).trans (pif_n (fun h => c_6 h.2.2.2))).trans (pif_n (fun h => h.2.2.1 c_3))).trans (pif_n (fun h => h.1 c_2))).symm, rfl⟩ dX10_kindOfLine_200
            · refine lv_iconst (v := 1) hx hb dX10_kindOfLine_97 (by decide) ?_
              exact q_zi hf hr rfl hlocks hK hP hD hS (Nat.le_of_ble_eq_true rfl) (Nat.le_of_ble_eq_true rfl) ⟨((pif_n (fun h => h.2.2.elim c_4 c_5)).trans (pif_p ⟨c_1, c_2, c_3, c_6⟩)).symm, rfl⟩ dX10_kindOfLine_98
      · have hP : va_P D vcl (mW h0 q cB cI_ cZ I F) H := hP
        have hD : va_D A (mW h0 q cB cI_ cZ I F) := hD
        refine lv_istore (lv' := [(5, .int 0), (4, .int 1), (3, .int ((F 0) (((L.getD (j + 1) (0, 0)).2) - 1))), (2, .int 1), (0, .ref h0), (1, .int (nI (j + 1)))]) hx hb dX10_kindOfLine_36 hl (by decide) rfl (fun ls hl => ?_)
        refine lv_iload_n hx hb dX10_kindOfLine_38 rfl (lv_at hl 3 rfl) ?_
        refine lv_if_eq (tgt := 77) hx hb dX10_kindOfLine_39 (by decide) (fun hno => absurd hno (by decide)) (fun _ => ?_)
        refine lv_iload hx hb dX10_kindOfLine_42 (lv_at hl 1 rfl) ?_
        refine lv_if_eq (tgt := 77) hx hb dX10_kindOfLine_44 (by decide) (fun hno => absurd hno (by decide)) (fun _ => ?_)
        refine lv_aload_n hx hb dX10_kindOfLine_47 rfl (lv_at hl 4 rfl) ?_
        refine lv_iload_n hx hb dX10_kindOfLine_48 rfl (lv_at hl 5 rfl) ?_
        refine lv_bipush (v := 73) hx hb dX10_kindOfLine_49 (by decide) ?_
        refine lv_bipush (v := 78) hx hb dX10_kindOfLine_51 (by decide) ?_
        refine lv_bipush (v := 84) hx hb dX10_kindOfLine_53 (by decide) ?_
        refine q_ci (k := 0) (n := 0) hK hP hD hS hA (fun hPc hKc hDc => q_rV (As := [.int (nI (j + 1)), .int 73, .int 78, .int 84]) (rest := []) hf (r_begins _ D h0 q cB cI_ cZ I F L (j + 1) 73 78 84 hI21 hL hok hj _) k_1324 k_1321 k_1323 k_50 k_98 (nA := 4) (by decide +kernel) ⟨Nat.le_of_ble_eq_true rfl, Nat.le_of_ble_eq_true rfl⟩ hK hP (ci := 11) (q0 := 0) rfl rfl rfl hPc hKc hDc (fun _ _ _ _ h => h) (fun _ _ _ => trivial) rfl hl.1 rfl (Nat.le_of_ble_eq_true rfl) dX10_kindOfLine_55 ⟨Nat.le_of_ble_eq_true rfl, Nat.le_of_ble_eq_true rfl⟩) (by decide) (by decide) (fun r u H locs hw hK hP hD hS => ?_)
        rcases hw with ⟨⟨c_7, rfl⟩ | ⟨c_7, rfl⟩, rfl⟩
        · have hP : va_P D vcl (mW h0 q cB cI_ cZ I F) H := hP
          have hD : va_D A (mW h0 q cB cI_ cZ I F) := hD
          refine lv_if_ne (tgt := 75) hx hb dX10_kindOfLine_58 (by decide) (fun _ => ?_) (fun hno => absurd hno (by decide))
          refine lv_iconst (v := 0) hx hb dX10_kindOfLine_75 (by decide) ?_
          exact q_zi hf hr rfl hlocks hK hP hD hS (Nat.le_of_ble_eq_true rfl) (Nat.le_of_ble_eq_true rfl) ⟨(pif_p ⟨c_1, c_2, Or.inl c_7⟩).symm, rfl⟩ dX10_kindOfLine_76
        · have hP : va_P D vcl (mW h0 q cB cI_ cZ I F) H := hP
          have hD : va_D A (mW h0 q cB cI_ cZ I F) := hD
          refine lv_if_ne (tgt := 75) hx hb dX10_kindOfLine_58 (by decide) (fun hno => absurd hno (by decide)) (fun _ => ?_)
          refine lv_aload_n hx hb dX10_kindOfLine_61 rfl (lv_at hl 4 rfl) ?_
          refine lv_iload_n hx hb dX10_kindOfLine_62 rfl (lv_at hl 5 rfl) ?_
          refine lv_bipush (v := 69) hx hb dX10_kindOfLine_63 (by decide) ?_
          refine lv_bipush (v := 88) hx hb dX10_kindOfLine_65 (by decide) ?_
          refine lv_bipush (v := 84) hx hb dX10_kindOfLine_67 (by decide) ?_
          refine q_ci (k := 0) (n := 0) hK hP hD hS hA (fun hPc hKc hDc => q_rV (As := [.int (nI (j + 1)), .int 69, .int 88, .int 84]) (rest := []) hf (r_begins _ D h0 q cB cI_ cZ I F L (j + 1) 69 88 84 hI21 hL hok hj _) k_1324 k_1321 k_1323 k_50 k_98 (nA := 4) (by decide +kernel) ⟨Nat.le_of_ble_eq_true rfl, Nat.le_of_ble_eq_true rfl⟩ hK hP (ci := 11) (q0 := 0) rfl rfl rfl hPc hKc hDc (fun _ _ _ _ h => h) (fun _ _ _ => trivial) rfl hl.1 rfl (Nat.le_of_ble_eq_true rfl) dX10_kindOfLine_69 ⟨Nat.le_of_ble_eq_true rfl, Nat.le_of_ble_eq_true rfl⟩) (by decide) (by decide) (fun r u H locs hw hK hP hD hS => ?_)
          rcases hw with ⟨⟨c_8, rfl⟩ | ⟨c_8, rfl⟩, rfl⟩
          · have hP : va_P D vcl (mW h0 q cB cI_ cZ I F) H := hP
            have hD : va_D A (mW h0 q cB cI_ cZ I F) := hD
            refine lv_if_eq (tgt := 77) hx hb dX10_kindOfLine_72 (by decide) (fun hno => absurd hno (by decide)) (fun _ => ?_)
            refine lv_iconst (v := 0) hx hb dX10_kindOfLine_75 (by decide) ?_
            exact q_zi hf hr rfl hlocks hK hP hD hS (Nat.le_of_ble_eq_true rfl) (Nat.le_of_ble_eq_true rfl) ⟨(pif_p ⟨c_1, c_2, Or.inr c_8⟩).symm, rfl⟩ dX10_kindOfLine_76
          · have hP : va_P D vcl (mW h0 q cB cI_ cZ I F) H := hP
            have hD : va_D A (mW h0 q cB cI_ cZ I F) := hD
            refine lv_if_eq (tgt := 77) hx hb dX10_kindOfLine_72 (by decide) (fun _ => ?_) (fun hno => absurd hno (by decide))
            refine lv_iload_n hx hb dX10_kindOfLine_77 rfl (lv_at hl 3 rfl) ?_
            refine lv_if_eq (tgt := 99) hx hb dX10_kindOfLine_78 (by decide) (fun hno => absurd hno (by decide)) (fun _ => ?_)
            refine lv_iload hx hb dX10_kindOfLine_81 (lv_at hl 1 rfl) ?_
            refine lv_if_eq (tgt := 99) hx hb dX10_kindOfLine_83 (by decide) (fun hno => absurd hno (by decide)) (fun _ => ?_)
            refine lv_iload hx hb dX10_kindOfLine_86 (lv_at hl 0 rfl) ?_
            refine lv_if_eq (tgt := 99) hx hb dX10_kindOfLine_88 (by decide) (fun _ => ?_) (fun hno => absurd hno (by decide))
            refine lv_iload_n hx hb dX10_kindOfLine_99 rfl (lv_at hl 3 rfl) ?_
            refine lv_if_eq (tgt := 133) hx hb dX10_kindOfLine_100 (by decide) (fun hno => absurd hno (by decide)) (fun _ => ?_)
            refine lv_iload hx hb dX10_kindOfLine_103 (lv_at hl 1 rfl) ?_
            refine lv_if_eq (tgt := 133) hx hb dX10_kindOfLine_105 (by decide) (fun hno => absurd hno (by decide)) (fun _ => ?_)
            refine lv_iload hx hb dX10_kindOfLine_108 (lv_at hl 0 rfl) ?_
            refine lv_if_ne (tgt := 133) hx hb dX10_kindOfLine_110 (by decide) (fun hno => absurd hno (by decide)) (fun _ => ?_)
            refine lv_aload_n hx hb dX10_kindOfLine_113 rfl (lv_at hl 4 rfl) ?_
            refine va_get (D := D) (ci := 11) (v := .ref (q 23)) (C := RX10) (T := TX10) (N := 48) hx hb hts inX10 hown hK hP 0 rfl rfl 23 (by decide) (hts _ k_1167) (fun _ h9 => h9) rfl dX10_kindOfLine_114 ?_
            refine lv_iload_n hx hb dX10_kindOfLine_117 rfl (lv_at hl 5 rfl) ?_
            refine q_ild (X := j + 1) (f := (F 23)) hx hb hK hP 17 1 rfl rfl (by omega) (by decide) dX10_kindOfLine_118 ?_
            refine q_seti (y := (nI ((L.getD (j + 1) (0, 0)).2))) (hL (j + 1) (by omega)).2 ?_
            refine lv_aload_n hx hb dX10_kindOfLine_119 rfl (lv_at hl 4 rfl) ?_
            refine va_get (D := D) (ci := 11) (v := .ref (q 22)) (C := RX10) (T := TX10) (N := 48) hx hb hts inX10 hown hK hP 0 rfl rfl 22 (by decide) (hts _ k_1166) (fun _ h9 => h9) rfl dX10_kindOfLine_120 ?_
            refine lv_iload_n hx hb dX10_kindOfLine_123 rfl (lv_at hl 5 rfl) ?_
            refine q_ild (X := j + 1) (f := (F 22)) hx hb hK hP 16 1 rfl rfl (by omega) (by decide) dX10_kindOfLine_124 ?_
            refine q_seti (y := (nI ((L.getD (j + 1) (0, 0)).1))) (hL (j + 1) (by omega)).1 ?_
            refine lv_isub hx hb dX10_kindOfLine_125 ?_
            refine q_seti (y := nI (((L.getD (j + 1) (0, 0)).2) - ((L.getD (j + 1) (0, 0)).1))) (pk_sub (a := (L.getD (j + 1) (0, 0)).2) (b := (L.getD (j + 1) (0, 0)).1) (by omega)) ?_
            refine lv_bipush (v := 24) hx hb dX10_kindOfLine_126 (by decide) ?_
            refine lv_icmp_gt (tgt := 133) hx hb dX10_kindOfLine_128 (by decide) (fun c_9 => ?_) (fun c_9 => ?_)
            · have c_9 := q_lt (a := 24) (b := ((L.getD (j + 1) (0, 0)).2) - ((L.getD (j + 1) (0, 0)).1)) (by omega) (by omega) c_9
              refine lv_iload hx hb dX10_kindOfLine_133 (lv_at hl 1 rfl) ?_
              refine lv_if_ne (tgt := 158) hx hb dX10_kindOfLine_135 (by decide) (fun _ => ?_) (fun hno => absurd hno (by decide))
              refine lv_iconst (v := 0) hx hb dX10_kindOfLine_158 (by decide) ?_
              refine lv_istore (lv' := [(6, .int 0), (5, .int 0), (4, .int 1), (3, .int ((F 0) (((L.getD (j + 1) (0, 0)).2) - 1))), (2, .int 1), (0, .ref h0), (1, .int (nI (j + 1)))]) hx hb dX10_kindOfLine_159 hl (by decide) rfl (fun ls hl => ?_)
              refine lv_iload hx hb dX10_kindOfLine_161 (lv_at hl 0 rfl) ?_
              refine lv_if_eq (tgt := 190) hx hb dX10_kindOfLine_163 (by decide) (fun _ => ?_) (fun hno => absurd hno (by decide))
              refine lv_iload hx hb dX10_kindOfLine_190 (lv_at hl 0 rfl) ?_
              refine lv_if_eq (tgt := 199) hx hb dX10_kindOfLine_192 (by decide) (fun _ => ?_) (fun hno => absurd hno (by decide))
              refine lv_iconst (v := 5) hx hb dX10_kindOfLine_199 (by decide) ?_
              exact q_zi hf hr rfl hlocks hK hP hD hS (Nat.le_of_ble_eq_true rfl) (Nat.le_of_ble_eq_true rfl) ⟨((((pif_n (fun h => h.2.2.elim c_7 c_8)).trans (pif_n (fun h => c_3 h.2.2.1))).trans (pif_n (fun h => absurd h.2.2.2 (by omega)))).trans (pif_n (fun h => h.1 c_2))).symm, rfl⟩ dX10_kindOfLine_200
            · have c_9 := q_nlt (a := 24) (b := ((L.getD (j + 1) (0, 0)).2) - ((L.getD (j + 1) (0, 0)).1)) (by omega) (by omega) c_9
              refine lv_iconst (v := 2) hx hb dX10_kindOfLine_131 (by decide) ?_
              exact q_zi hf hr rfl hlocks hK hP hD hS (Nat.le_of_ble_eq_true rfl) (Nat.le_of_ble_eq_true rfl) ⟨(((pif_n (fun h => h.2.2.elim c_7 c_8)).trans (pif_n (fun h => c_3 h.2.2.1))).trans (pif_p ⟨c_1, c_2, c_3, by omega⟩)).symm, rfl⟩ dX10_kindOfLine_132
    · have hP : va_P D vcl (mW h0 q cB cI_ cZ I F) H := hP
      have hD : va_D A (mW h0 q cB cI_ cZ I F) := hD
      refine lv_istore (lv' := [(4, .int 0), (3, .int ((F 0) (((L.getD (j + 1) (0, 0)).2) - 1))), (2, .int 1), (0, .ref h0), (1, .int (nI (j + 1)))]) hx hb dX10_kindOfLine_27 hl (by decide) rfl (fun ls hl => ?_)
      refine lv_aload_n hx hb dX10_kindOfLine_29 rfl (lv_at hl 3 rfl) ?_
      refine lv_iload_n hx hb dX10_kindOfLine_30 rfl (lv_at hl 4 rfl) ?_
      refine lv_iconst (v := 1) hx hb dX10_kindOfLine_31 (by decide) ?_
      refine lv_iadd hx hb dX10_kindOfLine_32 ?_
      refine q_seti (y := nI ((j + 1) + 1)) (nI_add (j + 1) 1) ?_
      refine q_ci (k := 0) (n := 0) hK hP hD hS hA (fun hPc hKc hDc => q_rV (As := [.int (nI ((j + 1) + 1))]) (rest := []) hf (r_isFree _ D h0 q cB cI_ cZ I F L ((j + 1) + 1) hI21 hL hok (by omega) _) k_1312 k_1309 k_1311 k_47 k_98 (nA := 1) (by decide +kernel) ⟨Nat.le_of_ble_eq_true rfl, Nat.le_of_ble_eq_true rfl⟩ hK hP (ci := 11) (q0 := 0) rfl rfl rfl hPc hKc hDc (fun _ _ _ _ h => h) (fun _ _ _ => trivial) rfl hl.1 rfl (Nat.le_of_ble_eq_true rfl) dX10_kindOfLine_33 ⟨Nat.le_of_ble_eq_true rfl, Nat.le_of_ble_eq_true rfl⟩) (by decide) (by decide) (fun r u H locs hw hK hP hD hS => ?_)
      rcases hw with ⟨⟨c_10, rfl⟩ | ⟨c_10, rfl⟩, rfl⟩
      · have hP : va_P D vcl (mW h0 q cB cI_ cZ I F) H := hP
        have hD : va_D A (mW h0 q cB cI_ cZ I F) := hD
        refine lv_istore (lv' := [(5, .int 1), (4, .int 0), (3, .int ((F 0) (((L.getD (j + 1) (0, 0)).2) - 1))), (2, .int 1), (0, .ref h0), (1, .int (nI (j + 1)))]) hx hb dX10_kindOfLine_36 hl (by decide) rfl (fun ls hl => ?_)
        refine lv_iload_n hx hb dX10_kindOfLine_38 rfl (lv_at hl 3 rfl) ?_
        refine lv_if_eq (tgt := 77) hx hb dX10_kindOfLine_39 (by decide) (fun hno => absurd hno (by decide)) (fun _ => ?_)
        refine lv_iload hx hb dX10_kindOfLine_42 (lv_at hl 1 rfl) ?_
        refine lv_if_eq (tgt := 77) hx hb dX10_kindOfLine_44 (by decide) (fun _ => ?_) (fun hno => absurd hno (by decide))
        refine lv_iload_n hx hb dX10_kindOfLine_77 rfl (lv_at hl 3 rfl) ?_
        refine lv_if_eq (tgt := 99) hx hb dX10_kindOfLine_78 (by decide) (fun hno => absurd hno (by decide)) (fun _ => ?_)
        refine lv_iload hx hb dX10_kindOfLine_81 (lv_at hl 1 rfl) ?_
        refine lv_if_eq (tgt := 99) hx hb dX10_kindOfLine_83 (by decide) (fun _ => ?_) (fun hno => absurd hno (by decide))
        refine lv_iload_n hx hb dX10_kindOfLine_99 rfl (lv_at hl 3 rfl) ?_
        refine lv_if_eq (tgt := 133) hx hb dX10_kindOfLine_100 (by decide) (fun hno => absurd hno (by decide)) (fun _ => ?_)
        refine lv_iload hx hb dX10_kindOfLine_103 (lv_at hl 1 rfl) ?_
        refine lv_if_eq (tgt := 133) hx hb dX10_kindOfLine_105 (by decide) (fun _ => ?_) (fun hno => absurd hno (by decide))
        refine lv_iload hx hb dX10_kindOfLine_133 (lv_at hl 1 rfl) ?_
        refine lv_if_ne (tgt := 158) hx hb dX10_kindOfLine_135 (by decide) (fun hno => absurd hno (by decide)) (fun _ => ?_)
        refine lv_aload_n hx hb dX10_kindOfLine_138 rfl (lv_at hl 4 rfl) ?_
        refine va_get (D := D) (ci := 11) (v := .ref (q 24)) (C := RX10) (T := TX10) (N := 48) hx hb hts inX10 hown hK hP 0 rfl rfl 24 (by decide) (hts _ k_1168) (fun _ h9 => h9) rfl dX10_kindOfLine_139 ?_
        refine lv_iload_n hx hb dX10_kindOfLine_142 rfl (lv_at hl 5 rfl) ?_
        refine lv_iconst (v := 1) hx hb dX10_kindOfLine_143 (by decide) ?_
        refine lv_isub hx hb dX10_kindOfLine_144 ?_
        refine q_seti (y := nI ((j + 1) - 1)) (pk_sub (a := j + 1) (b := 1) (by omega)) ?_
        refine q_ild (X := (j + 1) - 1) (f := (F 24)) hx hb hK hP 18 1 rfl rfl (by omega) (by decide) dX10_kindOfLine_145 ?_
        refine q_seti (y := pk) hpk ?_
        refine lv_iconst (v := 2) hx hb dX10_kindOfLine_146 (by decide) ?_
        refine lv_iconst (v := 4) hx hb dX10_kindOfLine_147 (by decide) ?_
        refine q_ei (k := 0) (n := 0) hP hS hA (q_rS (wc := []) (tc := []) (As := [.int pk, .int 2, .int 4]) (rest := []) hf (m_X10_in_1 _ D pk 2 4 _) k_1296 k_1294 k_1295 k_98 (nA := 3) (by decide +kernel) ⟨Nat.le_of_ble_eq_true rfl, Nat.le_of_ble_eq_true rfl⟩ (fun k q h => by simp at h) (hK.sub (tys' := []) [] rfl) (A := A) ⟨fun i j p q h => by simp at h, fun k q h => by simp at h⟩ (fun _ _ _ _ h => h) (fun _ _ _ => trivial) rfl hl.1 rfl (Nat.le_of_ble_eq_true rfl) dX10_kindOfLine_148 ⟨Nat.le_of_ble_eq_true rfl, Nat.le_of_ble_eq_true rfl⟩) (by decide) (by decide) (fun r u H locs hw hP hS => ?_)
        rcases hw with ⟨c_11, rfl, rfl⟩ | ⟨c_12, c_13, rfl, rfl⟩ | ⟨c_14, c_15, rfl, rfl⟩
        · refine lv_if_eq (tgt := 158) hx hb dX10_kindOfLine_151 (by decide) (fun _ => ?_) (fun hno => absurd hno (by decide))
          refine lv_iconst (v := 0) hx hb dX10_kindOfLine_158 (by decide) ?_
          refine lv_istore (lv' := [(6, .int 0), (5, .int 1), (4, .int 0), (3, .int ((F 0) (((L.getD (j + 1) (0, 0)).2) - 1))), (2, .int 1), (0, .ref h0), (1, .int (nI (j + 1)))]) hx hb dX10_kindOfLine_159 hl (by decide) rfl (fun ls hl => ?_)
          refine lv_iload hx hb dX10_kindOfLine_161 (lv_at hl 0 rfl) ?_
          refine lv_if_eq (tgt := 190) hx hb dX10_kindOfLine_163 (by decide) (fun _ => ?_) (fun hno => absurd hno (by decide))
          refine lv_iload hx hb dX10_kindOfLine_190 (lv_at hl 0 rfl) ?_
          refine lv_if_eq (tgt := 199) hx hb dX10_kindOfLine_192 (by decide) (fun _ => ?_) (fun hno => absurd hno (by decide))
          refine lv_iconst (v := 5) hx hb dX10_kindOfLine_199 (by decide) ?_
          exact q_zi hf hr rfl hlocks hK hP hD hS (Nat.le_of_ble_eq_true rfl) (Nat.le_of_ble_eq_true rfl) ⟨((((pif_n (fun h => c_2 h.2.1)).trans (pif_n (fun h => c_2 h.2.1))).trans (pif_n (fun h => c_2 h.2.1))).trans (pif_n (fun h => h.2.1 c_11))).symm, rfl⟩ dX10_kindOfLine_200
        · refine lv_if_eq (tgt := 158) hx hb dX10_kindOfLine_151 (by decide) (fun _ => ?_) (fun hno => absurd hno (by decide))
          refine lv_iconst (v := 0) hx hb dX10_kindOfLine_158 (by decide) ?_
          refine lv_istore (lv' := [(6, .int 0), (5, .int 1), (4, .int 0), (3, .int ((F 0) (((L.getD (j + 1) (0, 0)).2) - 1))), (2, .int 1), (0, .ref h0), (1, .int (nI (j + 1)))]) hx hb dX10_kindOfLine_159 hl (by decide) rfl (fun ls hl => ?_)
          refine lv_iload hx hb dX10_kindOfLine_161 (lv_at hl 0 rfl) ?_
          refine lv_if_eq (tgt := 190) hx hb dX10_kindOfLine_163 (by decide) (fun _ => ?_) (fun hno => absurd hno (by decide))
          refine lv_iload hx hb dX10_kindOfLine_190 (lv_at hl 0 rfl) ?_
          refine lv_if_eq (tgt := 199) hx hb dX10_kindOfLine_192 (by decide) (fun _ => ?_) (fun hno => absurd hno (by decide))
          refine lv_iconst (v := 5) hx hb dX10_kindOfLine_199 (by decide) ?_
          exact q_zi hf hr rfl hlocks hK hP hD hS (Nat.le_of_ble_eq_true rfl) (Nat.le_of_ble_eq_true rfl) ⟨((((pif_n (fun h => c_2 h.2.1)).trans (pif_n (fun h => c_2 h.2.1))).trans (pif_n (fun h => c_2 h.2.1))).trans (pif_n (fun h => h.2.2 c_13))).symm, rfl⟩ dX10_kindOfLine_200
        · refine lv_if_eq (tgt := 158) hx hb dX10_kindOfLine_151 (by decide) (fun hno => absurd hno (by decide)) (fun _ => ?_)
          refine lv_iconst (v := 1) hx hb dX10_kindOfLine_154 (by decide) ?_
          refine lv_goto (tgt := 159) hx hb dX10_kindOfLine_155 (by decide) ?_
          refine lv_istore (lv' := [(6, .int 1), (5, .int 1), (4, .int 0), (3, .int ((F 0) (((L.getD (j + 1) (0, 0)).2) - 1))), (2, .int 1), (0, .ref h0), (1, .int (nI (j + 1)))]) hx hb dX10_kindOfLine_159 hl (by decide) rfl (fun ls hl => ?_)
          refine lv_iload hx hb dX10_kindOfLine_161 (lv_at hl 0 rfl) ?_
          refine lv_if_eq (tgt := 190) hx hb dX10_kindOfLine_163 (by decide) (fun hno => absurd hno (by decide)) (fun _ => ?_)
          refine lv_aload_n hx hb dX10_kindOfLine_166 rfl (lv_at hl 5 rfl) ?_
          refine va_get (D := D) (ci := 11) (v := .ref (q 0)) (C := RX10) (T := TX10) (N := 48) hx hb hts inX10 hown hK hP 0 rfl rfl 0 (by decide) (hts _ k_1144) (fun _ h9 => h9) rfl dX10_kindOfLine_167 ?_
          refine lv_aload_n hx hb dX10_kindOfLine_170 rfl (lv_at hl 5 rfl) ?_
          refine va_get (D := D) (ci := 11) (v := .ref (q 22)) (C := RX10) (T := TX10) (N := 48) hx hb hts inX10 hown hK hP 0 rfl rfl 22 (by decide) (hts _ k_1166) (fun _ h9 => h9) rfl dX10_kindOfLine_171 ?_
          refine lv_iload_n hx hb dX10_kindOfLine_174 rfl (lv_at hl 6 rfl) ?_
          refine q_ild (X := j + 1) (f := (F 22)) hx hb hK hP 16 1 rfl rfl (by omega) (by decide) dX10_kindOfLine_175 ?_
          refine q_seti (y := (nI ((L.getD (j + 1) (0, 0)).1))) (hL (j + 1) (by omega)).1 ?_
          refine q_bld (X := (L.getD (j + 1) (0, 0)).1) (f := (F 0)) hx hb hK hP 1 0 rfl rfl (by omega) (by decide) dX10_kindOfLine_176 ?_
          refine lv_bipush (v := 40) hx hb dX10_kindOfLine_177 (by decide) ?_
          refine lv_icmp_ne (tgt := 190) hx hb dX10_kindOfLine_179 (by decide) (fun c_16 => ?_) (fun c_16 => ?_)
          · refine lv_iload hx hb dX10_kindOfLine_190 (lv_at hl 0 rfl) ?_
            refine lv_if_eq (tgt := 199) hx hb dX10_kindOfLine_192 (by decide) (fun hno => absurd hno (by decide)) (fun _ => ?_)
            refine lv_iconst (v := 4) hx hb dX10_kindOfLine_195 (by decide) ?_
            refine lv_goto (tgt := 200) hx hb dX10_kindOfLine_196 (by decide) ?_
            exact q_zi hf hr rfl hlocks hK hP hD hS (Nat.le_of_ble_eq_true rfl) (Nat.le_of_ble_eq_true rfl) ⟨(((((pif_n (fun h => c_2 h.2.1)).trans (pif_n (fun h => c_2 h.2.1))).trans (pif_n (fun h => c_2 h.2.1))).trans (pif_p ⟨c_2, c_14, c_15⟩)).trans (pif_n (fun h => c_16 h.1))).symm, rfl⟩ dX10_kindOfLine_200
          · refine lv_iload_n hx hb dX10_kindOfLine_182 rfl (lv_at hl 3 rfl) ?_
            refine lv_bipush (v := 41) hx hb dX10_kindOfLine_183 (by decide) ?_
            refine lv_icmp_ne (tgt := 190) hx hb dX10_kindOfLine_185 (by decide) (fun c_17 => ?_) (fun c_17 => ?_)
            · refine lv_iload hx hb dX10_kindOfLine_190 (lv_at hl 0 rfl) ?_
              refine lv_if_eq (tgt := 199) hx hb dX10_kindOfLine_192 (by decide) (fun hno => absurd hno (by decide)) (fun _ => ?_)
              refine lv_iconst (v := 4) hx hb dX10_kindOfLine_195 (by decide) ?_
              refine lv_goto (tgt := 200) hx hb dX10_kindOfLine_196 (by decide) ?_
              exact q_zi hf hr rfl hlocks hK hP hD hS (Nat.le_of_ble_eq_true rfl) (Nat.le_of_ble_eq_true rfl) ⟨(((((pif_n (fun h => c_2 h.2.1)).trans (pif_n (fun h => c_2 h.2.1))).trans (pif_n (fun h => c_2 h.2.1))).trans (pif_p ⟨c_2, c_14, c_15⟩)).trans (pif_n (fun h => c_17 h.2))).symm, rfl⟩ dX10_kindOfLine_200
            · refine lv_iconst (v := 3) hx hb dX10_kindOfLine_188 (by decide) ?_
              exact q_zi hf hr rfl hlocks hK hP hD hS (Nat.le_of_ble_eq_true rfl) (Nat.le_of_ble_eq_true rfl) ⟨(((((pif_n (fun h => c_2 h.2.1)).trans (pif_n (fun h => c_2 h.2.1))).trans (pif_n (fun h => c_2 h.2.1))).trans (pif_p ⟨c_2, c_14, c_15⟩)).trans (pif_p ⟨c_16, c_17⟩)).symm, rfl⟩ dX10_kindOfLine_189
      · have hP : va_P D vcl (mW h0 q cB cI_ cZ I F) H := hP
        have hD : va_D A (mW h0 q cB cI_ cZ I F) := hD
        refine lv_istore (lv' := [(5, .int 0), (4, .int 0), (3, .int ((F 0) (((L.getD (j + 1) (0, 0)).2) - 1))), (2, .int 1), (0, .ref h0), (1, .int (nI (j + 1)))]) hx hb dX10_kindOfLine_36 hl (by decide) rfl (fun ls hl => ?_)
        refine lv_iload_n hx hb dX10_kindOfLine_38 rfl (lv_at hl 3 rfl) ?_
        refine lv_if_eq (tgt := 77) hx hb dX10_kindOfLine_39 (by decide) (fun hno => absurd hno (by decide)) (fun _ => ?_)
        refine lv_iload hx hb dX10_kindOfLine_42 (lv_at hl 1 rfl) ?_
        refine lv_if_eq (tgt := 77) hx hb dX10_kindOfLine_44 (by decide) (fun _ => ?_) (fun hno => absurd hno (by decide))
        refine lv_iload_n hx hb dX10_kindOfLine_77 rfl (lv_at hl 3 rfl) ?_
        refine lv_if_eq (tgt := 99) hx hb dX10_kindOfLine_78 (by decide) (fun hno => absurd hno (by decide)) (fun _ => ?_)
        refine lv_iload hx hb dX10_kindOfLine_81 (lv_at hl 1 rfl) ?_
        refine lv_if_eq (tgt := 99) hx hb dX10_kindOfLine_83 (by decide) (fun _ => ?_) (fun hno => absurd hno (by decide))
        refine lv_iload_n hx hb dX10_kindOfLine_99 rfl (lv_at hl 3 rfl) ?_
        refine lv_if_eq (tgt := 133) hx hb dX10_kindOfLine_100 (by decide) (fun hno => absurd hno (by decide)) (fun _ => ?_)
        refine lv_iload hx hb dX10_kindOfLine_103 (lv_at hl 1 rfl) ?_
        refine lv_if_eq (tgt := 133) hx hb dX10_kindOfLine_105 (by decide) (fun _ => ?_) (fun hno => absurd hno (by decide))
        refine lv_iload hx hb dX10_kindOfLine_133 (lv_at hl 1 rfl) ?_
        refine lv_if_ne (tgt := 158) hx hb dX10_kindOfLine_135 (by decide) (fun hno => absurd hno (by decide)) (fun _ => ?_)
        refine lv_aload_n hx hb dX10_kindOfLine_138 rfl (lv_at hl 4 rfl) ?_
        refine va_get (D := D) (ci := 11) (v := .ref (q 24)) (C := RX10) (T := TX10) (N := 48) hx hb hts inX10 hown hK hP 0 rfl rfl 24 (by decide) (hts _ k_1168) (fun _ h9 => h9) rfl dX10_kindOfLine_139 ?_
        refine lv_iload_n hx hb dX10_kindOfLine_142 rfl (lv_at hl 5 rfl) ?_
        refine lv_iconst (v := 1) hx hb dX10_kindOfLine_143 (by decide) ?_
        refine lv_isub hx hb dX10_kindOfLine_144 ?_
        refine q_seti (y := nI ((j + 1) - 1)) (pk_sub (a := j + 1) (b := 1) (by omega)) ?_
        refine q_ild (X := (j + 1) - 1) (f := (F 24)) hx hb hK hP 18 1 rfl rfl (by omega) (by decide) dX10_kindOfLine_145 ?_
        refine q_seti (y := pk) hpk ?_
        refine lv_iconst (v := 2) hx hb dX10_kindOfLine_146 (by decide) ?_
        refine lv_iconst (v := 4) hx hb dX10_kindOfLine_147 (by decide) ?_
        refine q_ei (k := 0) (n := 0) hP hS hA (q_rS (wc := []) (tc := []) (As := [.int pk, .int 2, .int 4]) (rest := []) hf (m_X10_in_1 _ D pk 2 4 _) k_1296 k_1294 k_1295 k_98 (nA := 3) (by decide +kernel) ⟨Nat.le_of_ble_eq_true rfl, Nat.le_of_ble_eq_true rfl⟩ (fun k q h => by simp at h) (hK.sub (tys' := []) [] rfl) (A := A) ⟨fun i j p q h => by simp at h, fun k q h => by simp at h⟩ (fun _ _ _ _ h => h) (fun _ _ _ => trivial) rfl hl.1 rfl (Nat.le_of_ble_eq_true rfl) dX10_kindOfLine_148 ⟨Nat.le_of_ble_eq_true rfl, Nat.le_of_ble_eq_true rfl⟩) (by decide) (by decide) (fun r u H locs hw hP hS => ?_)
        rcases hw with ⟨c_18, rfl, rfl⟩ | ⟨c_19, c_20, rfl, rfl⟩ | ⟨c_21, c_22, rfl, rfl⟩
        · refine lv_if_eq (tgt := 158) hx hb dX10_kindOfLine_151 (by decide) (fun _ => ?_) (fun hno => absurd hno (by decide))
          refine lv_iconst (v := 0) hx hb dX10_kindOfLine_158 (by decide) ?_
          refine lv_istore (lv' := [(6, .int 0), (5, .int 0), (4, .int 0), (3, .int ((F 0) (((L.getD (j + 1) (0, 0)).2) - 1))), (2, .int 1), (0, .ref h0), (1, .int (nI (j + 1)))]) hx hb dX10_kindOfLine_159 hl (by decide) rfl (fun ls hl => ?_)
          refine lv_iload hx hb dX10_kindOfLine_161 (lv_at hl 0 rfl) ?_
          refine lv_if_eq (tgt := 190) hx hb dX10_kindOfLine_163 (by decide) (fun _ => ?_) (fun hno => absurd hno (by decide))
          refine lv_iload hx hb dX10_kindOfLine_190 (lv_at hl 0 rfl) ?_
          refine lv_if_eq (tgt := 199) hx hb dX10_kindOfLine_192 (by decide) (fun _ => ?_) (fun hno => absurd hno (by decide))
          refine lv_iconst (v := 5) hx hb dX10_kindOfLine_199 (by decide) ?_
          exact q_zi hf hr rfl hlocks hK hP hD hS (Nat.le_of_ble_eq_true rfl) (Nat.le_of_ble_eq_true rfl) ⟨((((pif_n (fun h => c_2 h.2.1)).trans (pif_n (fun h => c_2 h.2.1))).trans (pif_n (fun h => c_2 h.2.1))).trans (pif_n (fun h => h.2.1 c_18))).symm, rfl⟩ dX10_kindOfLine_200
        · refine lv_if_eq (tgt := 158) hx hb dX10_kindOfLine_151 (by decide) (fun _ => ?_) (fun hno => absurd hno (by decide))
          refine lv_iconst (v := 0) hx hb dX10_kindOfLine_158 (by decide) ?_
          refine lv_istore (lv' := [(6, .int 0), (5, .int 0), (4, .int 0), (3, .int ((F 0) (((L.getD (j + 1) (0, 0)).2) - 1))), (2, .int 1), (0, .ref h0), (1, .int (nI (j + 1)))]) hx hb dX10_kindOfLine_159 hl (by decide) rfl (fun ls hl => ?_)
          refine lv_iload hx hb dX10_kindOfLine_161 (lv_at hl 0 rfl) ?_
          refine lv_if_eq (tgt := 190) hx hb dX10_kindOfLine_163 (by decide) (fun _ => ?_) (fun hno => absurd hno (by decide))
          refine lv_iload hx hb dX10_kindOfLine_190 (lv_at hl 0 rfl) ?_
          refine lv_if_eq (tgt := 199) hx hb dX10_kindOfLine_192 (by decide) (fun _ => ?_) (fun hno => absurd hno (by decide))
          refine lv_iconst (v := 5) hx hb dX10_kindOfLine_199 (by decide) ?_
          exact q_zi hf hr rfl hlocks hK hP hD hS (Nat.le_of_ble_eq_true rfl) (Nat.le_of_ble_eq_true rfl) ⟨((((pif_n (fun h => c_2 h.2.1)).trans (pif_n (fun h => c_2 h.2.1))).trans (pif_n (fun h => c_2 h.2.1))).trans (pif_n (fun h => h.2.2 c_20))).symm, rfl⟩ dX10_kindOfLine_200
        · refine lv_if_eq (tgt := 158) hx hb dX10_kindOfLine_151 (by decide) (fun hno => absurd hno (by decide)) (fun _ => ?_)
          refine lv_iconst (v := 1) hx hb dX10_kindOfLine_154 (by decide) ?_
          refine lv_goto (tgt := 159) hx hb dX10_kindOfLine_155 (by decide) ?_
          refine lv_istore (lv' := [(6, .int 1), (5, .int 0), (4, .int 0), (3, .int ((F 0) (((L.getD (j + 1) (0, 0)).2) - 1))), (2, .int 1), (0, .ref h0), (1, .int (nI (j + 1)))]) hx hb dX10_kindOfLine_159 hl (by decide) rfl (fun ls hl => ?_)
          refine lv_iload hx hb dX10_kindOfLine_161 (lv_at hl 0 rfl) ?_
          refine lv_if_eq (tgt := 190) hx hb dX10_kindOfLine_163 (by decide) (fun hno => absurd hno (by decide)) (fun _ => ?_)
          refine lv_aload_n hx hb dX10_kindOfLine_166 rfl (lv_at hl 5 rfl) ?_
          refine va_get (D := D) (ci := 11) (v := .ref (q 0)) (C := RX10) (T := TX10) (N := 48) hx hb hts inX10 hown hK hP 0 rfl rfl 0 (by decide) (hts _ k_1144) (fun _ h9 => h9) rfl dX10_kindOfLine_167 ?_
          refine lv_aload_n hx hb dX10_kindOfLine_170 rfl (lv_at hl 5 rfl) ?_
          refine va_get (D := D) (ci := 11) (v := .ref (q 22)) (C := RX10) (T := TX10) (N := 48) hx hb hts inX10 hown hK hP 0 rfl rfl 22 (by decide) (hts _ k_1166) (fun _ h9 => h9) rfl dX10_kindOfLine_171 ?_
          refine lv_iload_n hx hb dX10_kindOfLine_174 rfl (lv_at hl 6 rfl) ?_
          refine q_ild (X := j + 1) (f := (F 22)) hx hb hK hP 16 1 rfl rfl (by omega) (by decide) dX10_kindOfLine_175 ?_
          refine q_seti (y := (nI ((L.getD (j + 1) (0, 0)).1))) (hL (j + 1) (by omega)).1 ?_
          refine q_bld (X := (L.getD (j + 1) (0, 0)).1) (f := (F 0)) hx hb hK hP 1 0 rfl rfl (by omega) (by decide) dX10_kindOfLine_176 ?_
          refine lv_bipush (v := 40) hx hb dX10_kindOfLine_177 (by decide) ?_
          refine lv_icmp_ne (tgt := 190) hx hb dX10_kindOfLine_179 (by decide) (fun c_23 => ?_) (fun c_23 => ?_)
          · refine lv_iload hx hb dX10_kindOfLine_190 (lv_at hl 0 rfl) ?_
            refine lv_if_eq (tgt := 199) hx hb dX10_kindOfLine_192 (by decide) (fun hno => absurd hno (by decide)) (fun _ => ?_)
            refine lv_iconst (v := 4) hx hb dX10_kindOfLine_195 (by decide) ?_
            refine lv_goto (tgt := 200) hx hb dX10_kindOfLine_196 (by decide) ?_
            exact q_zi hf hr rfl hlocks hK hP hD hS (Nat.le_of_ble_eq_true rfl) (Nat.le_of_ble_eq_true rfl) ⟨(((((pif_n (fun h => c_2 h.2.1)).trans (pif_n (fun h => c_2 h.2.1))).trans (pif_n (fun h => c_2 h.2.1))).trans (pif_p ⟨c_2, c_21, c_22⟩)).trans (pif_n (fun h => c_23 h.1))).symm, rfl⟩ dX10_kindOfLine_200
          · refine lv_iload_n hx hb dX10_kindOfLine_182 rfl (lv_at hl 3 rfl) ?_
            refine lv_bipush (v := 41) hx hb dX10_kindOfLine_183 (by decide) ?_
            refine lv_icmp_ne (tgt := 190) hx hb dX10_kindOfLine_185 (by decide) (fun c_24 => ?_) (fun c_24 => ?_)
            · refine lv_iload hx hb dX10_kindOfLine_190 (lv_at hl 0 rfl) ?_
              refine lv_if_eq (tgt := 199) hx hb dX10_kindOfLine_192 (by decide) (fun hno => absurd hno (by decide)) (fun _ => ?_)
              refine lv_iconst (v := 4) hx hb dX10_kindOfLine_195 (by decide) ?_
              refine lv_goto (tgt := 200) hx hb dX10_kindOfLine_196 (by decide) ?_
              exact q_zi hf hr rfl hlocks hK hP hD hS (Nat.le_of_ble_eq_true rfl) (Nat.le_of_ble_eq_true rfl) ⟨(((((pif_n (fun h => c_2 h.2.1)).trans (pif_n (fun h => c_2 h.2.1))).trans (pif_n (fun h => c_2 h.2.1))).trans (pif_p ⟨c_2, c_21, c_22⟩)).trans (pif_n (fun h => c_24 h.2))).symm, rfl⟩ dX10_kindOfLine_200
            · refine lv_iconst (v := 3) hx hb dX10_kindOfLine_188 (by decide) ?_
              exact q_zi hf hr rfl hlocks hK hP hD hS (Nat.le_of_ble_eq_true rfl) (Nat.le_of_ble_eq_true rfl) ⟨(((((pif_n (fun h => c_2 h.2.1)).trans (pif_n (fun h => c_2 h.2.1))).trans (pif_n (fun h => c_2 h.2.1))).trans (pif_p ⟨c_2, c_21, c_22⟩)).trans (pif_p ⟨c_23, c_24⟩)).symm, rfl⟩ dX10_kindOfLine_189
  · have hP : va_P D vcl (mW h0 q cB cI_ cZ I F) H := hP
    have hD : va_D A (mW h0 q cB cI_ cZ I F) := hD
    refine lv_istore_n (lv' := [(2, .int 0), (0, .ref h0), (1, .int (nI (j + 1)))]) hx hb dX10_kindOfLine_5 rfl hl (by decide) rfl (fun ls hl => ?_)
    refine lv_aload_n hx hb dX10_kindOfLine_6 rfl (lv_at hl 1 rfl) ?_
    refine va_get (D := D) (ci := 11) (v := .ref (q 0)) (C := RX10) (T := TX10) (N := 48) hx hb hts inX10 hown hK hP 0 rfl rfl 0 (by decide) (hts _ k_1144) (fun _ h9 => h9) rfl dX10_kindOfLine_7 ?_
    refine lv_aload_n hx hb dX10_kindOfLine_10 rfl (lv_at hl 1 rfl) ?_
    refine va_get (D := D) (ci := 11) (v := .ref (q 23)) (C := RX10) (T := TX10) (N := 48) hx hb hts inX10 hown hK hP 0 rfl rfl 23 (by decide) (hts _ k_1167) (fun _ h9 => h9) rfl dX10_kindOfLine_11 ?_
    refine lv_iload_n hx hb dX10_kindOfLine_14 rfl (lv_at hl 2 rfl) ?_
    refine q_ild (X := j + 1) (f := (F 23)) hx hb hK hP 17 1 rfl rfl (by omega) (by decide) dX10_kindOfLine_15 ?_
    refine q_seti (y := (nI ((L.getD (j + 1) (0, 0)).2))) (hL (j + 1) (by omega)).2 ?_
    refine lv_iconst (v := 1) hx hb dX10_kindOfLine_16 (by decide) ?_
    refine lv_isub hx hb dX10_kindOfLine_17 ?_
    refine q_seti (y := nI (((L.getD (j + 1) (0, 0)).2) - 1)) (pk_sub (a := (L.getD (j + 1) (0, 0)).2) (b := 1) (by omega)) ?_
    refine q_bld (X := ((L.getD (j + 1) (0, 0)).2) - 1) (f := (F 0)) hx hb hK hP 1 0 rfl rfl (by omega) (by decide) dX10_kindOfLine_18 ?_
    refine lv_istore_n (lv' := [(3, .int ((F 0) (((L.getD (j + 1) (0, 0)).2) - 1))), (2, .int 0), (0, .ref h0), (1, .int (nI (j + 1)))]) hx hb dX10_kindOfLine_19 rfl hl (by decide) rfl (fun ls hl => ?_)
    refine lv_aload_n hx hb dX10_kindOfLine_20 rfl (lv_at hl 2 rfl) ?_
    refine lv_iload_n hx hb dX10_kindOfLine_21 rfl (lv_at hl 3 rfl) ?_
    refine lv_iconst (v := 1) hx hb dX10_kindOfLine_22 (by decide) ?_
    refine lv_isub hx hb dX10_kindOfLine_23 ?_
    refine q_seti (y := nI ((j + 1) - 1)) (pk_sub (a := j + 1) (b := 1) (by omega)) ?_
    refine q_ci (k := 0) (n := 0) hK hP hD hS hA (fun hPc hKc hDc => q_rV (As := [.int (nI ((j + 1) - 1))]) (rest := []) hf (r_isFree _ D h0 q cB cI_ cZ I F L ((j + 1) - 1) hI21 hL hok (by omega) _) k_1312 k_1309 k_1311 k_47 k_98 (nA := 1) (by decide +kernel) ⟨Nat.le_of_ble_eq_true rfl, Nat.le_of_ble_eq_true rfl⟩ hK hP (ci := 11) (q0 := 0) rfl rfl rfl hPc hKc hDc (fun _ _ _ _ h => h) (fun _ _ _ => trivial) rfl hl.1 rfl (Nat.le_of_ble_eq_true rfl) dX10_kindOfLine_24 ⟨Nat.le_of_ble_eq_true rfl, Nat.le_of_ble_eq_true rfl⟩) (by decide) (by decide) (fun r u H locs hw hK hP hD hS => ?_)
    rcases hw with ⟨⟨c_25, rfl⟩ | ⟨c_25, rfl⟩, rfl⟩
    · have hP : va_P D vcl (mW h0 q cB cI_ cZ I F) H := hP
      have hD : va_D A (mW h0 q cB cI_ cZ I F) := hD
      refine lv_istore (lv' := [(4, .int 1), (3, .int ((F 0) (((L.getD (j + 1) (0, 0)).2) - 1))), (2, .int 0), (0, .ref h0), (1, .int (nI (j + 1)))]) hx hb dX10_kindOfLine_27 hl (by decide) rfl (fun ls hl => ?_)
      refine lv_aload_n hx hb dX10_kindOfLine_29 rfl (lv_at hl 3 rfl) ?_
      refine lv_iload_n hx hb dX10_kindOfLine_30 rfl (lv_at hl 4 rfl) ?_
      refine lv_iconst (v := 1) hx hb dX10_kindOfLine_31 (by decide) ?_
      refine lv_iadd hx hb dX10_kindOfLine_32 ?_
      refine q_seti (y := nI ((j + 1) + 1)) (nI_add (j + 1) 1) ?_
      refine q_ci (k := 0) (n := 0) hK hP hD hS hA (fun hPc hKc hDc => q_rV (As := [.int (nI ((j + 1) + 1))]) (rest := []) hf (r_isFree _ D h0 q cB cI_ cZ I F L ((j + 1) + 1) hI21 hL hok (by omega) _) k_1312 k_1309 k_1311 k_47 k_98 (nA := 1) (by decide +kernel) ⟨Nat.le_of_ble_eq_true rfl, Nat.le_of_ble_eq_true rfl⟩ hK hP (ci := 11) (q0 := 0) rfl rfl rfl hPc hKc hDc (fun _ _ _ _ h => h) (fun _ _ _ => trivial) rfl hl.1 rfl (Nat.le_of_ble_eq_true rfl) dX10_kindOfLine_33 ⟨Nat.le_of_ble_eq_true rfl, Nat.le_of_ble_eq_true rfl⟩) (by decide) (by decide) (fun r u H locs hw hK hP hD hS => ?_)
      rcases hw with ⟨⟨c_26, rfl⟩ | ⟨c_26, rfl⟩, rfl⟩
      · have hP : va_P D vcl (mW h0 q cB cI_ cZ I F) H := hP
        have hD : va_D A (mW h0 q cB cI_ cZ I F) := hD
        refine lv_istore (lv' := [(5, .int 1), (4, .int 1), (3, .int ((F 0) (((L.getD (j + 1) (0, 0)).2) - 1))), (2, .int 0), (0, .ref h0), (1, .int (nI (j + 1)))]) hx hb dX10_kindOfLine_36 hl (by decide) rfl (fun ls hl => ?_)
        refine lv_iload_n hx hb dX10_kindOfLine_38 rfl (lv_at hl 3 rfl) ?_
        refine lv_if_eq (tgt := 77) hx hb dX10_kindOfLine_39 (by decide) (fun _ => ?_) (fun hno => absurd hno (by decide))
        refine lv_iload_n hx hb dX10_kindOfLine_77 rfl (lv_at hl 3 rfl) ?_
        refine lv_if_eq (tgt := 99) hx hb dX10_kindOfLine_78 (by decide) (fun _ => ?_) (fun hno => absurd hno (by decide))
        refine lv_iload_n hx hb dX10_kindOfLine_99 rfl (lv_at hl 3 rfl) ?_
        refine lv_if_eq (tgt := 133) hx hb dX10_kindOfLine_100 (by decide) (fun _ => ?_) (fun hno => absurd hno (by decide))
        refine lv_iload hx hb dX10_kindOfLine_133 (lv_at hl 1 rfl) ?_
        refine lv_if_ne (tgt := 158) hx hb dX10_kindOfLine_135 (by decide) (fun _ => ?_) (fun hno => absurd hno (by decide))
        refine lv_iconst (v := 0) hx hb dX10_kindOfLine_158 (by decide) ?_
        refine lv_istore (lv' := [(6, .int 0), (5, .int 1), (4, .int 1), (3, .int ((F 0) (((L.getD (j + 1) (0, 0)).2) - 1))), (2, .int 0), (0, .ref h0), (1, .int (nI (j + 1)))]) hx hb dX10_kindOfLine_159 hl (by decide) rfl (fun ls hl => ?_)
        refine lv_iload hx hb dX10_kindOfLine_161 (lv_at hl 0 rfl) ?_
        refine lv_if_eq (tgt := 190) hx hb dX10_kindOfLine_163 (by decide) (fun _ => ?_) (fun hno => absurd hno (by decide))
        refine lv_iload hx hb dX10_kindOfLine_190 (lv_at hl 0 rfl) ?_
        refine lv_if_eq (tgt := 199) hx hb dX10_kindOfLine_192 (by decide) (fun _ => ?_) (fun hno => absurd hno (by decide))
        refine lv_iconst (v := 5) hx hb dX10_kindOfLine_199 (by decide) ?_
        exact q_zi hf hr rfl hlocks hK hP hD hS (Nat.le_of_ble_eq_true rfl) (Nat.le_of_ble_eq_true rfl) ⟨((((pif_n (fun h => c_1 h.1)).trans (pif_n (fun h => c_1 h.1))).trans (pif_n (fun h => c_1 h.1))).trans (pif_n (fun h => h.1 c_25))).symm, rfl⟩ dX10_kindOfLine_200
      · have hP : va_P D vcl (mW h0 q cB cI_ cZ I F) H := hP
        have hD : va_D A (mW h0 q cB cI_ cZ I F) := hD
        refine lv_istore (lv' := [(5, .int 0), (4, .int 1), (3, .int ((F 0) (((L.getD (j + 1) (0, 0)).2) - 1))), (2, .int 0), (0, .ref h0), (1, .int (nI (j + 1)))]) hx hb dX10_kindOfLine_36 hl (by decide) rfl (fun ls hl => ?_)
        refine lv_iload_n hx hb dX10_kindOfLine_38 rfl (lv_at hl 3 rfl) ?_
        refine lv_if_eq (tgt := 77) hx hb dX10_kindOfLine_39 (by decide) (fun _ => ?_) (fun hno => absurd hno (by decide))
        refine lv_iload_n hx hb dX10_kindOfLine_77 rfl (lv_at hl 3 rfl) ?_
        refine lv_if_eq (tgt := 99) hx hb dX10_kindOfLine_78 (by decide) (fun _ => ?_) (fun hno => absurd hno (by decide))
        refine lv_iload_n hx hb dX10_kindOfLine_99 rfl (lv_at hl 3 rfl) ?_
        refine lv_if_eq (tgt := 133) hx hb dX10_kindOfLine_100 (by decide) (fun _ => ?_) (fun hno => absurd hno (by decide))
        refine lv_iload hx hb dX10_kindOfLine_133 (lv_at hl 1 rfl) ?_
        refine lv_if_ne (tgt := 158) hx hb dX10_kindOfLine_135 (by decide) (fun _ => ?_) (fun hno => absurd hno (by decide))
        refine lv_iconst (v := 0) hx hb dX10_kindOfLine_158 (by decide) ?_
        refine lv_istore (lv' := [(6, .int 0), (5, .int 0), (4, .int 1), (3, .int ((F 0) (((L.getD (j + 1) (0, 0)).2) - 1))), (2, .int 0), (0, .ref h0), (1, .int (nI (j + 1)))]) hx hb dX10_kindOfLine_159 hl (by decide) rfl (fun ls hl => ?_)
        refine lv_iload hx hb dX10_kindOfLine_161 (lv_at hl 0 rfl) ?_
        refine lv_if_eq (tgt := 190) hx hb dX10_kindOfLine_163 (by decide) (fun _ => ?_) (fun hno => absurd hno (by decide))
        refine lv_iload hx hb dX10_kindOfLine_190 (lv_at hl 0 rfl) ?_
        refine lv_if_eq (tgt := 199) hx hb dX10_kindOfLine_192 (by decide) (fun _ => ?_) (fun hno => absurd hno (by decide))
        refine lv_iconst (v := 5) hx hb dX10_kindOfLine_199 (by decide) ?_
        exact q_zi hf hr rfl hlocks hK hP hD hS (Nat.le_of_ble_eq_true rfl) (Nat.le_of_ble_eq_true rfl) ⟨((((pif_n (fun h => c_1 h.1)).trans (pif_n (fun h => c_1 h.1))).trans (pif_n (fun h => c_1 h.1))).trans (pif_n (fun h => h.1 c_25))).symm, rfl⟩ dX10_kindOfLine_200
    · have hP : va_P D vcl (mW h0 q cB cI_ cZ I F) H := hP
      have hD : va_D A (mW h0 q cB cI_ cZ I F) := hD
      refine lv_istore (lv' := [(4, .int 0), (3, .int ((F 0) (((L.getD (j + 1) (0, 0)).2) - 1))), (2, .int 0), (0, .ref h0), (1, .int (nI (j + 1)))]) hx hb dX10_kindOfLine_27 hl (by decide) rfl (fun ls hl => ?_)
      refine lv_aload_n hx hb dX10_kindOfLine_29 rfl (lv_at hl 3 rfl) ?_
      refine lv_iload_n hx hb dX10_kindOfLine_30 rfl (lv_at hl 4 rfl) ?_
      refine lv_iconst (v := 1) hx hb dX10_kindOfLine_31 (by decide) ?_
      refine lv_iadd hx hb dX10_kindOfLine_32 ?_
      refine q_seti (y := nI ((j + 1) + 1)) (nI_add (j + 1) 1) ?_
      refine q_ci (k := 0) (n := 0) hK hP hD hS hA (fun hPc hKc hDc => q_rV (As := [.int (nI ((j + 1) + 1))]) (rest := []) hf (r_isFree _ D h0 q cB cI_ cZ I F L ((j + 1) + 1) hI21 hL hok (by omega) _) k_1312 k_1309 k_1311 k_47 k_98 (nA := 1) (by decide +kernel) ⟨Nat.le_of_ble_eq_true rfl, Nat.le_of_ble_eq_true rfl⟩ hK hP (ci := 11) (q0 := 0) rfl rfl rfl hPc hKc hDc (fun _ _ _ _ h => h) (fun _ _ _ => trivial) rfl hl.1 rfl (Nat.le_of_ble_eq_true rfl) dX10_kindOfLine_33 ⟨Nat.le_of_ble_eq_true rfl, Nat.le_of_ble_eq_true rfl⟩) (by decide) (by decide) (fun r u H locs hw hK hP hD hS => ?_)
      rcases hw with ⟨⟨c_27, rfl⟩ | ⟨c_27, rfl⟩, rfl⟩
      · have hP : va_P D vcl (mW h0 q cB cI_ cZ I F) H := hP
        have hD : va_D A (mW h0 q cB cI_ cZ I F) := hD
        refine lv_istore (lv' := [(5, .int 1), (4, .int 0), (3, .int ((F 0) (((L.getD (j + 1) (0, 0)).2) - 1))), (2, .int 0), (0, .ref h0), (1, .int (nI (j + 1)))]) hx hb dX10_kindOfLine_36 hl (by decide) rfl (fun ls hl => ?_)
        refine lv_iload_n hx hb dX10_kindOfLine_38 rfl (lv_at hl 3 rfl) ?_
        refine lv_if_eq (tgt := 77) hx hb dX10_kindOfLine_39 (by decide) (fun _ => ?_) (fun hno => absurd hno (by decide))
        refine lv_iload_n hx hb dX10_kindOfLine_77 rfl (lv_at hl 3 rfl) ?_
        refine lv_if_eq (tgt := 99) hx hb dX10_kindOfLine_78 (by decide) (fun _ => ?_) (fun hno => absurd hno (by decide))
        refine lv_iload_n hx hb dX10_kindOfLine_99 rfl (lv_at hl 3 rfl) ?_
        refine lv_if_eq (tgt := 133) hx hb dX10_kindOfLine_100 (by decide) (fun _ => ?_) (fun hno => absurd hno (by decide))
        refine lv_iload hx hb dX10_kindOfLine_133 (lv_at hl 1 rfl) ?_
        refine lv_if_ne (tgt := 158) hx hb dX10_kindOfLine_135 (by decide) (fun hno => absurd hno (by decide)) (fun _ => ?_)
        refine lv_aload_n hx hb dX10_kindOfLine_138 rfl (lv_at hl 4 rfl) ?_
        refine va_get (D := D) (ci := 11) (v := .ref (q 24)) (C := RX10) (T := TX10) (N := 48) hx hb hts inX10 hown hK hP 0 rfl rfl 24 (by decide) (hts _ k_1168) (fun _ h9 => h9) rfl dX10_kindOfLine_139 ?_
        refine lv_iload_n hx hb dX10_kindOfLine_142 rfl (lv_at hl 5 rfl) ?_
        refine lv_iconst (v := 1) hx hb dX10_kindOfLine_143 (by decide) ?_
        refine lv_isub hx hb dX10_kindOfLine_144 ?_
        refine q_seti (y := nI ((j + 1) - 1)) (pk_sub (a := j + 1) (b := 1) (by omega)) ?_
        refine q_ild (X := (j + 1) - 1) (f := (F 24)) hx hb hK hP 18 1 rfl rfl (by omega) (by decide) dX10_kindOfLine_145 ?_
        refine q_seti (y := pk) hpk ?_
        refine lv_iconst (v := 2) hx hb dX10_kindOfLine_146 (by decide) ?_
        refine lv_iconst (v := 4) hx hb dX10_kindOfLine_147 (by decide) ?_
        refine q_ei (k := 0) (n := 0) hP hS hA (q_rS (wc := []) (tc := []) (As := [.int pk, .int 2, .int 4]) (rest := []) hf (m_X10_in_1 _ D pk 2 4 _) k_1296 k_1294 k_1295 k_98 (nA := 3) (by decide +kernel) ⟨Nat.le_of_ble_eq_true rfl, Nat.le_of_ble_eq_true rfl⟩ (fun k q h => by simp at h) (hK.sub (tys' := []) [] rfl) (A := A) ⟨fun i j p q h => by simp at h, fun k q h => by simp at h⟩ (fun _ _ _ _ h => h) (fun _ _ _ => trivial) rfl hl.1 rfl (Nat.le_of_ble_eq_true rfl) dX10_kindOfLine_148 ⟨Nat.le_of_ble_eq_true rfl, Nat.le_of_ble_eq_true rfl⟩) (by decide) (by decide) (fun r u H locs hw hP hS => ?_)
        rcases hw with ⟨c_28, rfl, rfl⟩ | ⟨c_29, c_30, rfl, rfl⟩ | ⟨c_31, c_32, rfl, rfl⟩
        · refine lv_if_eq (tgt := 158) hx hb dX10_kindOfLine_151 (by decide) (fun _ => ?_) (fun hno => absurd hno (by decide))
          refine lv_iconst (v := 0) hx hb dX10_kindOfLine_158 (by decide) ?_
          refine lv_istore (lv' := [(6, .int 0), (5, .int 1), (4, .int 0), (3, .int ((F 0) (((L.getD (j + 1) (0, 0)).2) - 1))), (2, .int 0), (0, .ref h0), (1, .int (nI (j + 1)))]) hx hb dX10_kindOfLine_159 hl (by decide) rfl (fun ls hl => ?_)
          refine lv_iload hx hb dX10_kindOfLine_161 (lv_at hl 0 rfl) ?_
          refine lv_if_eq (tgt := 190) hx hb dX10_kindOfLine_163 (by decide) (fun _ => ?_) (fun hno => absurd hno (by decide))
          refine lv_iload hx hb dX10_kindOfLine_190 (lv_at hl 0 rfl) ?_
          refine lv_if_eq (tgt := 199) hx hb dX10_kindOfLine_192 (by decide) (fun _ => ?_) (fun hno => absurd hno (by decide))
          refine lv_iconst (v := 5) hx hb dX10_kindOfLine_199 (by decide) ?_
          exact q_zi hf hr rfl hlocks hK hP hD hS (Nat.le_of_ble_eq_true rfl) (Nat.le_of_ble_eq_true rfl) ⟨((((pif_n (fun h => c_1 h.1)).trans (pif_n (fun h => c_1 h.1))).trans (pif_n (fun h => c_1 h.1))).trans (pif_n (fun h => h.2.1 c_28))).symm, rfl⟩ dX10_kindOfLine_200
        · refine lv_if_eq (tgt := 158) hx hb dX10_kindOfLine_151 (by decide) (fun _ => ?_) (fun hno => absurd hno (by decide))
          refine lv_iconst (v := 0) hx hb dX10_kindOfLine_158 (by decide) ?_
          refine lv_istore (lv' := [(6, .int 0), (5, .int 1), (4, .int 0), (3, .int ((F 0) (((L.getD (j + 1) (0, 0)).2) - 1))), (2, .int 0), (0, .ref h0), (1, .int (nI (j + 1)))]) hx hb dX10_kindOfLine_159 hl (by decide) rfl (fun ls hl => ?_)
          refine lv_iload hx hb dX10_kindOfLine_161 (lv_at hl 0 rfl) ?_
          refine lv_if_eq (tgt := 190) hx hb dX10_kindOfLine_163 (by decide) (fun _ => ?_) (fun hno => absurd hno (by decide))
          refine lv_iload hx hb dX10_kindOfLine_190 (lv_at hl 0 rfl) ?_
          refine lv_if_eq (tgt := 199) hx hb dX10_kindOfLine_192 (by decide) (fun _ => ?_) (fun hno => absurd hno (by decide))
          refine lv_iconst (v := 5) hx hb dX10_kindOfLine_199 (by decide) ?_
          exact q_zi hf hr rfl hlocks hK hP hD hS (Nat.le_of_ble_eq_true rfl) (Nat.le_of_ble_eq_true rfl) ⟨((((pif_n (fun h => c_1 h.1)).trans (pif_n (fun h => c_1 h.1))).trans (pif_n (fun h => c_1 h.1))).trans (pif_n (fun h => h.2.2 c_30))).symm, rfl⟩ dX10_kindOfLine_200
        · refine lv_if_eq (tgt := 158) hx hb dX10_kindOfLine_151 (by decide) (fun hno => absurd hno (by decide)) (fun _ => ?_)
          refine lv_iconst (v := 1) hx hb dX10_kindOfLine_154 (by decide) ?_
          refine lv_goto (tgt := 159) hx hb dX10_kindOfLine_155 (by decide) ?_
          refine lv_istore (lv' := [(6, .int 1), (5, .int 1), (4, .int 0), (3, .int ((F 0) (((L.getD (j + 1) (0, 0)).2) - 1))), (2, .int 0), (0, .ref h0), (1, .int (nI (j + 1)))]) hx hb dX10_kindOfLine_159 hl (by decide) rfl (fun ls hl => ?_)
          refine lv_iload hx hb dX10_kindOfLine_161 (lv_at hl 0 rfl) ?_
          refine lv_if_eq (tgt := 190) hx hb dX10_kindOfLine_163 (by decide) (fun hno => absurd hno (by decide)) (fun _ => ?_)
          refine lv_aload_n hx hb dX10_kindOfLine_166 rfl (lv_at hl 5 rfl) ?_
          refine va_get (D := D) (ci := 11) (v := .ref (q 0)) (C := RX10) (T := TX10) (N := 48) hx hb hts inX10 hown hK hP 0 rfl rfl 0 (by decide) (hts _ k_1144) (fun _ h9 => h9) rfl dX10_kindOfLine_167 ?_
          refine lv_aload_n hx hb dX10_kindOfLine_170 rfl (lv_at hl 5 rfl) ?_
          refine va_get (D := D) (ci := 11) (v := .ref (q 22)) (C := RX10) (T := TX10) (N := 48) hx hb hts inX10 hown hK hP 0 rfl rfl 22 (by decide) (hts _ k_1166) (fun _ h9 => h9) rfl dX10_kindOfLine_171 ?_
          refine lv_iload_n hx hb dX10_kindOfLine_174 rfl (lv_at hl 6 rfl) ?_
          refine q_ild (X := j + 1) (f := (F 22)) hx hb hK hP 16 1 rfl rfl (by omega) (by decide) dX10_kindOfLine_175 ?_
          refine q_seti (y := (nI ((L.getD (j + 1) (0, 0)).1))) (hL (j + 1) (by omega)).1 ?_
          refine q_bld (X := (L.getD (j + 1) (0, 0)).1) (f := (F 0)) hx hb hK hP 1 0 rfl rfl (by omega) (by decide) dX10_kindOfLine_176 ?_
          refine lv_bipush (v := 40) hx hb dX10_kindOfLine_177 (by decide) ?_
          refine lv_icmp_ne (tgt := 190) hx hb dX10_kindOfLine_179 (by decide) (fun c_33 => ?_) (fun c_33 => ?_)
          · refine lv_iload hx hb dX10_kindOfLine_190 (lv_at hl 0 rfl) ?_
            refine lv_if_eq (tgt := 199) hx hb dX10_kindOfLine_192 (by decide) (fun hno => absurd hno (by decide)) (fun _ => ?_)
            refine lv_iconst (v := 4) hx hb dX10_kindOfLine_195 (by decide) ?_
            refine lv_goto (tgt := 200) hx hb dX10_kindOfLine_196 (by decide) ?_
            exact q_zi hf hr rfl hlocks hK hP hD hS (Nat.le_of_ble_eq_true rfl) (Nat.le_of_ble_eq_true rfl) ⟨(((((pif_n (fun h => c_1 h.1)).trans (pif_n (fun h => c_1 h.1))).trans (pif_n (fun h => c_1 h.1))).trans (pif_p ⟨c_25, c_31, c_32⟩)).trans (pif_n (fun h => c_33 h.1))).symm, rfl⟩ dX10_kindOfLine_200
          · refine lv_iload_n hx hb dX10_kindOfLine_182 rfl (lv_at hl 3 rfl) ?_
            refine lv_bipush (v := 41) hx hb dX10_kindOfLine_183 (by decide) ?_
            refine lv_icmp_ne (tgt := 190) hx hb dX10_kindOfLine_185 (by decide) (fun c_34 => ?_) (fun c_34 => ?_)
            · refine lv_iload hx hb dX10_kindOfLine_190 (lv_at hl 0 rfl) ?_
              refine lv_if_eq (tgt := 199) hx hb dX10_kindOfLine_192 (by decide) (fun hno => absurd hno (by decide)) (fun _ => ?_)
              refine lv_iconst (v := 4) hx hb dX10_kindOfLine_195 (by decide) ?_
              refine lv_goto (tgt := 200) hx hb dX10_kindOfLine_196 (by decide) ?_
              exact q_zi hf hr rfl hlocks hK hP hD hS (Nat.le_of_ble_eq_true rfl) (Nat.le_of_ble_eq_true rfl) ⟨(((((pif_n (fun h => c_1 h.1)).trans (pif_n (fun h => c_1 h.1))).trans (pif_n (fun h => c_1 h.1))).trans (pif_p ⟨c_25, c_31, c_32⟩)).trans (pif_n (fun h => c_34 h.2))).symm, rfl⟩ dX10_kindOfLine_200
            · refine lv_iconst (v := 3) hx hb dX10_kindOfLine_188 (by decide) ?_
              exact q_zi hf hr rfl hlocks hK hP hD hS (Nat.le_of_ble_eq_true rfl) (Nat.le_of_ble_eq_true rfl) ⟨(((((pif_n (fun h => c_1 h.1)).trans (pif_n (fun h => c_1 h.1))).trans (pif_n (fun h => c_1 h.1))).trans (pif_p ⟨c_25, c_31, c_32⟩)).trans (pif_p ⟨c_33, c_34⟩)).symm, rfl⟩ dX10_kindOfLine_189
      · have hP : va_P D vcl (mW h0 q cB cI_ cZ I F) H := hP
        have hD : va_D A (mW h0 q cB cI_ cZ I F) := hD
        refine lv_istore (lv' := [(5, .int 0), (4, .int 0), (3, .int ((F 0) (((L.getD (j + 1) (0, 0)).2) - 1))), (2, .int 0), (0, .ref h0), (1, .int (nI (j + 1)))]) hx hb dX10_kindOfLine_36 hl (by decide) rfl (fun ls hl => ?_)
        refine lv_iload_n hx hb dX10_kindOfLine_38 rfl (lv_at hl 3 rfl) ?_
        refine lv_if_eq (tgt := 77) hx hb dX10_kindOfLine_39 (by decide) (fun _ => ?_) (fun hno => absurd hno (by decide))
        refine lv_iload_n hx hb dX10_kindOfLine_77 rfl (lv_at hl 3 rfl) ?_
        refine lv_if_eq (tgt := 99) hx hb dX10_kindOfLine_78 (by decide) (fun _ => ?_) (fun hno => absurd hno (by decide))
        refine lv_iload_n hx hb dX10_kindOfLine_99 rfl (lv_at hl 3 rfl) ?_
        refine lv_if_eq (tgt := 133) hx hb dX10_kindOfLine_100 (by decide) (fun _ => ?_) (fun hno => absurd hno (by decide))
        refine lv_iload hx hb dX10_kindOfLine_133 (lv_at hl 1 rfl) ?_
        refine lv_if_ne (tgt := 158) hx hb dX10_kindOfLine_135 (by decide) (fun hno => absurd hno (by decide)) (fun _ => ?_)
        refine lv_aload_n hx hb dX10_kindOfLine_138 rfl (lv_at hl 4 rfl) ?_
        refine va_get (D := D) (ci := 11) (v := .ref (q 24)) (C := RX10) (T := TX10) (N := 48) hx hb hts inX10 hown hK hP 0 rfl rfl 24 (by decide) (hts _ k_1168) (fun _ h9 => h9) rfl dX10_kindOfLine_139 ?_
        refine lv_iload_n hx hb dX10_kindOfLine_142 rfl (lv_at hl 5 rfl) ?_
        refine lv_iconst (v := 1) hx hb dX10_kindOfLine_143 (by decide) ?_
        refine lv_isub hx hb dX10_kindOfLine_144 ?_
        refine q_seti (y := nI ((j + 1) - 1)) (pk_sub (a := j + 1) (b := 1) (by omega)) ?_
        refine q_ild (X := (j + 1) - 1) (f := (F 24)) hx hb hK hP 18 1 rfl rfl (by omega) (by decide) dX10_kindOfLine_145 ?_
        refine q_seti (y := pk) hpk ?_
        refine lv_iconst (v := 2) hx hb dX10_kindOfLine_146 (by decide) ?_
        refine lv_iconst (v := 4) hx hb dX10_kindOfLine_147 (by decide) ?_
        refine q_ei (k := 0) (n := 0) hP hS hA (q_rS (wc := []) (tc := []) (As := [.int pk, .int 2, .int 4]) (rest := []) hf (m_X10_in_1 _ D pk 2 4 _) k_1296 k_1294 k_1295 k_98 (nA := 3) (by decide +kernel) ⟨Nat.le_of_ble_eq_true rfl, Nat.le_of_ble_eq_true rfl⟩ (fun k q h => by simp at h) (hK.sub (tys' := []) [] rfl) (A := A) ⟨fun i j p q h => by simp at h, fun k q h => by simp at h⟩ (fun _ _ _ _ h => h) (fun _ _ _ => trivial) rfl hl.1 rfl (Nat.le_of_ble_eq_true rfl) dX10_kindOfLine_148 ⟨Nat.le_of_ble_eq_true rfl, Nat.le_of_ble_eq_true rfl⟩) (by decide) (by decide) (fun r u H locs hw hP hS => ?_)
        rcases hw with ⟨c_35, rfl, rfl⟩ | ⟨c_36, c_37, rfl, rfl⟩ | ⟨c_38, c_39, rfl, rfl⟩
        · refine lv_if_eq (tgt := 158) hx hb dX10_kindOfLine_151 (by decide) (fun _ => ?_) (fun hno => absurd hno (by decide))
          refine lv_iconst (v := 0) hx hb dX10_kindOfLine_158 (by decide) ?_
          refine lv_istore (lv' := [(6, .int 0), (5, .int 0), (4, .int 0), (3, .int ((F 0) (((L.getD (j + 1) (0, 0)).2) - 1))), (2, .int 0), (0, .ref h0), (1, .int (nI (j + 1)))]) hx hb dX10_kindOfLine_159 hl (by decide) rfl (fun ls hl => ?_)
          refine lv_iload hx hb dX10_kindOfLine_161 (lv_at hl 0 rfl) ?_
          refine lv_if_eq (tgt := 190) hx hb dX10_kindOfLine_163 (by decide) (fun _ => ?_) (fun hno => absurd hno (by decide))
          refine lv_iload hx hb dX10_kindOfLine_190 (lv_at hl 0 rfl) ?_
          refine lv_if_eq (tgt := 199) hx hb dX10_kindOfLine_192 (by decide) (fun _ => ?_) (fun hno => absurd hno (by decide))
          refine lv_iconst (v := 5) hx hb dX10_kindOfLine_199 (by decide) ?_
          exact q_zi hf hr rfl hlocks hK hP hD hS (Nat.le_of_ble_eq_true rfl) (Nat.le_of_ble_eq_true rfl) ⟨((((pif_n (fun h => c_1 h.1)).trans (pif_n (fun h => c_1 h.1))).trans (pif_n (fun h => c_1 h.1))).trans (pif_n (fun h => h.2.1 c_35))).symm, rfl⟩ dX10_kindOfLine_200
        · refine lv_if_eq (tgt := 158) hx hb dX10_kindOfLine_151 (by decide) (fun _ => ?_) (fun hno => absurd hno (by decide))
          refine lv_iconst (v := 0) hx hb dX10_kindOfLine_158 (by decide) ?_
          refine lv_istore (lv' := [(6, .int 0), (5, .int 0), (4, .int 0), (3, .int ((F 0) (((L.getD (j + 1) (0, 0)).2) - 1))), (2, .int 0), (0, .ref h0), (1, .int (nI (j + 1)))]) hx hb dX10_kindOfLine_159 hl (by decide) rfl (fun ls hl => ?_)
          refine lv_iload hx hb dX10_kindOfLine_161 (lv_at hl 0 rfl) ?_
          refine lv_if_eq (tgt := 190) hx hb dX10_kindOfLine_163 (by decide) (fun _ => ?_) (fun hno => absurd hno (by decide))
          refine lv_iload hx hb dX10_kindOfLine_190 (lv_at hl 0 rfl) ?_
          refine lv_if_eq (tgt := 199) hx hb dX10_kindOfLine_192 (by decide) (fun _ => ?_) (fun hno => absurd hno (by decide))
          refine lv_iconst (v := 5) hx hb dX10_kindOfLine_199 (by decide) ?_
          exact q_zi hf hr rfl hlocks hK hP hD hS (Nat.le_of_ble_eq_true rfl) (Nat.le_of_ble_eq_true rfl) ⟨((((pif_n (fun h => c_1 h.1)).trans (pif_n (fun h => c_1 h.1))).trans (pif_n (fun h => c_1 h.1))).trans (pif_n (fun h => h.2.2 c_37))).symm, rfl⟩ dX10_kindOfLine_200
        · refine lv_if_eq (tgt := 158) hx hb dX10_kindOfLine_151 (by decide) (fun hno => absurd hno (by decide)) (fun _ => ?_)
          refine lv_iconst (v := 1) hx hb dX10_kindOfLine_154 (by decide) ?_
          refine lv_goto (tgt := 159) hx hb dX10_kindOfLine_155 (by decide) ?_
          refine lv_istore (lv' := [(6, .int 1), (5, .int 0), (4, .int 0), (3, .int ((F 0) (((L.getD (j + 1) (0, 0)).2) - 1))), (2, .int 0), (0, .ref h0), (1, .int (nI (j + 1)))]) hx hb dX10_kindOfLine_159 hl (by decide) rfl (fun ls hl => ?_)
          refine lv_iload hx hb dX10_kindOfLine_161 (lv_at hl 0 rfl) ?_
          refine lv_if_eq (tgt := 190) hx hb dX10_kindOfLine_163 (by decide) (fun hno => absurd hno (by decide)) (fun _ => ?_)
          refine lv_aload_n hx hb dX10_kindOfLine_166 rfl (lv_at hl 5 rfl) ?_
          refine va_get (D := D) (ci := 11) (v := .ref (q 0)) (C := RX10) (T := TX10) (N := 48) hx hb hts inX10 hown hK hP 0 rfl rfl 0 (by decide) (hts _ k_1144) (fun _ h9 => h9) rfl dX10_kindOfLine_167 ?_
          refine lv_aload_n hx hb dX10_kindOfLine_170 rfl (lv_at hl 5 rfl) ?_
          refine va_get (D := D) (ci := 11) (v := .ref (q 22)) (C := RX10) (T := TX10) (N := 48) hx hb hts inX10 hown hK hP 0 rfl rfl 22 (by decide) (hts _ k_1166) (fun _ h9 => h9) rfl dX10_kindOfLine_171 ?_
          refine lv_iload_n hx hb dX10_kindOfLine_174 rfl (lv_at hl 6 rfl) ?_
          refine q_ild (X := j + 1) (f := (F 22)) hx hb hK hP 16 1 rfl rfl (by omega) (by decide) dX10_kindOfLine_175 ?_
          refine q_seti (y := (nI ((L.getD (j + 1) (0, 0)).1))) (hL (j + 1) (by omega)).1 ?_
          refine q_bld (X := (L.getD (j + 1) (0, 0)).1) (f := (F 0)) hx hb hK hP 1 0 rfl rfl (by omega) (by decide) dX10_kindOfLine_176 ?_
          refine lv_bipush (v := 40) hx hb dX10_kindOfLine_177 (by decide) ?_
          refine lv_icmp_ne (tgt := 190) hx hb dX10_kindOfLine_179 (by decide) (fun c_40 => ?_) (fun c_40 => ?_)
          · refine lv_iload hx hb dX10_kindOfLine_190 (lv_at hl 0 rfl) ?_
            refine lv_if_eq (tgt := 199) hx hb dX10_kindOfLine_192 (by decide) (fun hno => absurd hno (by decide)) (fun _ => ?_)
            refine lv_iconst (v := 4) hx hb dX10_kindOfLine_195 (by decide) ?_
            refine lv_goto (tgt := 200) hx hb dX10_kindOfLine_196 (by decide) ?_
            exact q_zi hf hr rfl hlocks hK hP hD hS (Nat.le_of_ble_eq_true rfl) (Nat.le_of_ble_eq_true rfl) ⟨(((((pif_n (fun h => c_1 h.1)).trans (pif_n (fun h => c_1 h.1))).trans (pif_n (fun h => c_1 h.1))).trans (pif_p ⟨c_25, c_38, c_39⟩)).trans (pif_n (fun h => c_40 h.1))).symm, rfl⟩ dX10_kindOfLine_200
          · refine lv_iload_n hx hb dX10_kindOfLine_182 rfl (lv_at hl 3 rfl) ?_
            refine lv_bipush (v := 41) hx hb dX10_kindOfLine_183 (by decide) ?_
            refine lv_icmp_ne (tgt := 190) hx hb dX10_kindOfLine_185 (by decide) (fun c_41 => ?_) (fun c_41 => ?_)
            · refine lv_iload hx hb dX10_kindOfLine_190 (lv_at hl 0 rfl) ?_
              refine lv_if_eq (tgt := 199) hx hb dX10_kindOfLine_192 (by decide) (fun hno => absurd hno (by decide)) (fun _ => ?_)
              refine lv_iconst (v := 4) hx hb dX10_kindOfLine_195 (by decide) ?_
              refine lv_goto (tgt := 200) hx hb dX10_kindOfLine_196 (by decide) ?_
              exact q_zi hf hr rfl hlocks hK hP hD hS (Nat.le_of_ble_eq_true rfl) (Nat.le_of_ble_eq_true rfl) ⟨(((((pif_n (fun h => c_1 h.1)).trans (pif_n (fun h => c_1 h.1))).trans (pif_n (fun h => c_1 h.1))).trans (pif_p ⟨c_25, c_38, c_39⟩)).trans (pif_n (fun h => c_41 h.2))).symm, rfl⟩ dX10_kindOfLine_200
            · refine lv_iconst (v := 3) hx hb dX10_kindOfLine_188 (by decide) ?_
              exact q_zi hf hr rfl hlocks hK hP hD hS (Nat.le_of_ble_eq_true rfl) (Nat.le_of_ble_eq_true rfl) ⟨(((((pif_n (fun h => c_1 h.1)).trans (pif_n (fun h => c_1 h.1))).trans (pif_n (fun h => c_1 h.1))).trans (pif_p ⟨c_25, c_38, c_39⟩)).trans (pif_p ⟨c_40, c_41⟩)).symm, rfl⟩ dX10_kindOfLine_189
set_option maxHeartbeats 1000000 in
set_option maxRecDepth 100000 in
theorem r_kindOfLine_0 (l : Launch) (D : va_G) (h0 : Nat) (q : Nat → Nat) (cB cI_ cZ : ClassId) (I : Nat → Int32) (F : Nat → Nat → Int32) (L : List (Nat × Nat)) (pk : Int32) (hI21 : I 21 = nI L.length) (hL : ∀ j, j < L.length → F 22 j = nI (L.getD j (0, 0)).1 ∧ F 23 j = nI (L.getD j (0, 0)).2) (hok : tx_ok L) (hj : 0 < L.length) (hnf : ¬ tx_free L 0) : cI l D yX10_kindOfLine cX10_kindOfLine 7 (some .int) 2 45 0 0 [.ref h0, .int 0] zT (mW h0 q cB cI_ cZ I F) (mT cB cI_ cZ) (fun r u => r = tx_kd (F 0) (L.getD 0 (0, 0)).1 (L.getD 0 (0, 0)).2 True (tx_free L (0 + 1)) pk ∧ u = (mW h0 q cB cI_ cZ I F, mT cB cI_ cZ)) := by
  refine q_si (by decide) (Nat.le_of_ble_eq_true rfl) ?_
  intro p e s m below meth c A ls hAe hf hr hlocks hin hK hP hD hS hA hZ hl
  obtain ⟨hx, hb, hml, hown, hts⟩ := id hf
  have hl : lv_has ls 7 [(0, .ref h0), (1, .int 0)] := hl
  have hok1 := hok.1
  have hb1 := hok.2 0 hj
  have hne : (L.getD 0 (0, 0)).1 < (L.getD 0 (0, 0)).2 := by have h9 := hnf; unfold tx_free at h9; omega
  refine lv_aload_n hx hb dX10_kindOfLine_0 rfl (lv_at hl 0 rfl) ?_
  refine lv_iload_n hx hb dX10_kindOfLine_1 rfl (lv_at hl 1 rfl) ?_
  refine q_ci (k := 0) (n := 0) hK hP hD hS hA (fun hPc hKc hDc => q_rV (As := [.int 0]) (rest := []) hf (r_isBig _ D h0 q cB cI_ cZ I F L 0 hI21 hL hok hj _) k_1320 k_1317 k_1319 k_49 k_98 (nA := 1) (by decide +kernel) ⟨Nat.le_of_ble_eq_true rfl, Nat.le_of_ble_eq_true rfl⟩ hK hP (ci := 11) (q0 := 0) rfl rfl rfl hPc hKc hDc (fun _ _ _ _ h => h) (fun _ _ _ => trivial) rfl hl.1 rfl (Nat.le_of_ble_eq_true rfl) dX10_kindOfLine_2 ⟨Nat.le_of_ble_eq_true rfl, Nat.le_of_ble_eq_true rfl⟩) (by decide) (by decide) (fun r u H locs hw hK hP hD hS => ?_)
  rcases hw with ⟨⟨c_1, rfl⟩ | ⟨c_1, rfl⟩, rfl⟩
  · have hP : va_P D vcl (mW h0 q cB cI_ cZ I F) H := hP
    have hD : va_D A (mW h0 q cB cI_ cZ I F) := hD
    refine lv_istore_n (lv' := [(2, .int 1), (0, .ref h0), (1, .int 0)]) hx hb dX10_kindOfLine_5 rfl hl (by decide) rfl (fun ls hl => ?_)
    refine lv_aload_n hx hb dX10_kindOfLine_6 rfl (lv_at hl 1 rfl) ?_
    refine va_get (D := D) (ci := 11) (v := .ref (q 0)) (C := RX10) (T := TX10) (N := 48) hx hb hts inX10 hown hK hP 0 rfl rfl 0 (by decide) (hts _ k_1144) (fun _ h9 => h9) rfl dX10_kindOfLine_7 ?_
    refine lv_aload_n hx hb dX10_kindOfLine_10 rfl (lv_at hl 1 rfl) ?_
    refine va_get (D := D) (ci := 11) (v := .ref (q 23)) (C := RX10) (T := TX10) (N := 48) hx hb hts inX10 hown hK hP 0 rfl rfl 23 (by decide) (hts _ k_1167) (fun _ h9 => h9) rfl dX10_kindOfLine_11 ?_
    refine lv_iload_n hx hb dX10_kindOfLine_14 rfl (lv_at hl 2 rfl) ?_
    refine q_ild (X := 0) (f := (F 23)) hx hb hK hP 17 1 rfl rfl (by omega) (by decide) dX10_kindOfLine_15 ?_
    refine q_seti (y := (nI ((L.getD 0 (0, 0)).2))) (hL 0 (by omega)).2 ?_
    refine lv_iconst (v := 1) hx hb dX10_kindOfLine_16 (by decide) ?_
    refine lv_isub hx hb dX10_kindOfLine_17 ?_
    refine q_seti (y := nI (((L.getD 0 (0, 0)).2) - 1)) (pk_sub (a := (L.getD 0 (0, 0)).2) (b := 1) (by omega)) ?_
    refine q_bld (X := ((L.getD 0 (0, 0)).2) - 1) (f := (F 0)) hx hb hK hP 1 0 rfl rfl (by omega) (by decide) dX10_kindOfLine_18 ?_
    refine lv_istore_n (lv' := [(3, .int ((F 0) (((L.getD 0 (0, 0)).2) - 1))), (2, .int 1), (0, .ref h0), (1, .int 0)]) hx hb dX10_kindOfLine_19 rfl hl (by decide) rfl (fun ls hl => ?_)
    refine lv_aload_n hx hb dX10_kindOfLine_20 rfl (lv_at hl 2 rfl) ?_
    refine lv_iload_n hx hb dX10_kindOfLine_21 rfl (lv_at hl 3 rfl) ?_
    refine lv_iconst (v := 1) hx hb dX10_kindOfLine_22 (by decide) ?_
    refine lv_isub hx hb dX10_kindOfLine_23 ?_
    refine q_seti (y := (-1)) (by decide) ?_
    refine q_ci (k := 0) (n := 0) hK hP hD hS hA (fun hPc hKc hDc => q_rV (As := [.int (-1)]) (rest := []) hf (r_isFree_m _ D h0 q cB cI_ cZ I F L hI21 hL hok _) k_1312 k_1309 k_1311 k_47 k_98 (nA := 1) (by decide +kernel) ⟨Nat.le_of_ble_eq_true rfl, Nat.le_of_ble_eq_true rfl⟩ hK hP (ci := 11) (q0 := 0) rfl rfl rfl hPc hKc hDc (fun _ _ _ _ h => h) (fun _ _ _ => trivial) rfl hl.1 rfl (Nat.le_of_ble_eq_true rfl) dX10_kindOfLine_24 ⟨Nat.le_of_ble_eq_true rfl, Nat.le_of_ble_eq_true rfl⟩) (by decide) (by decide) (fun r u H locs hw hK hP hD hS => ?_)
    obtain ⟨rfl, rfl⟩ := hw
    have hP : va_P D vcl (mW h0 q cB cI_ cZ I F) H := hP
    have hD : va_D A (mW h0 q cB cI_ cZ I F) := hD
    refine lv_istore (lv' := [(4, .int 1), (3, .int ((F 0) (((L.getD 0 (0, 0)).2) - 1))), (2, .int 1), (0, .ref h0), (1, .int 0)]) hx hb dX10_kindOfLine_27 hl (by decide) rfl (fun ls hl => ?_)
    refine lv_aload_n hx hb dX10_kindOfLine_29 rfl (lv_at hl 3 rfl) ?_
    refine lv_iload_n hx hb dX10_kindOfLine_30 rfl (lv_at hl 4 rfl) ?_
    refine lv_iconst (v := 1) hx hb dX10_kindOfLine_31 (by decide) ?_
    refine lv_iadd hx hb dX10_kindOfLine_32 ?_
    refine q_seti (y := 1) (by decide) ?_
    refine q_ci (k := 0) (n := 0) hK hP hD hS hA (fun hPc hKc hDc => q_rV (As := [.int 1]) (rest := []) hf (r_isFree _ D h0 q cB cI_ cZ I F L 1 hI21 hL hok (by omega) _) k_1312 k_1309 k_1311 k_47 k_98 (nA := 1) (by decide +kernel) ⟨Nat.le_of_ble_eq_true rfl, Nat.le_of_ble_eq_true rfl⟩ hK hP (ci := 11) (q0 := 0) rfl rfl rfl hPc hKc hDc (fun _ _ _ _ h => h) (fun _ _ _ => trivial) rfl hl.1 rfl (Nat.le_of_ble_eq_true rfl) dX10_kindOfLine_33 ⟨Nat.le_of_ble_eq_true rfl, Nat.le_of_ble_eq_true rfl⟩) (by decide) (by decide) (fun r u H locs hw hK hP hD hS => ?_)
    rcases hw with ⟨⟨c_2, rfl⟩ | ⟨c_2, rfl⟩, rfl⟩
    · have hP : va_P D vcl (mW h0 q cB cI_ cZ I F) H := hP
      have hD : va_D A (mW h0 q cB cI_ cZ I F) := hD
      refine lv_istore (lv' := [(5, .int 1), (4, .int 1), (3, .int ((F 0) (((L.getD 0 (0, 0)).2) - 1))), (2, .int 1), (0, .ref h0), (1, .int 0)]) hx hb dX10_kindOfLine_36 hl (by decide) rfl (fun ls hl => ?_)
      refine lv_iload_n hx hb dX10_kindOfLine_38 rfl (lv_at hl 3 rfl) ?_
      refine lv_if_eq (tgt := 77) hx hb dX10_kindOfLine_39 (by decide) (fun hno => absurd hno (by decide)) (fun _ => ?_)
      refine lv_iload hx hb dX10_kindOfLine_42 (lv_at hl 1 rfl) ?_
      refine lv_if_eq (tgt := 77) hx hb dX10_kindOfLine_44 (by decide) (fun hno => absurd hno (by decide)) (fun _ => ?_)
      refine lv_aload_n hx hb dX10_kindOfLine_47 rfl (lv_at hl 4 rfl) ?_
      refine lv_iload_n hx hb dX10_kindOfLine_48 rfl (lv_at hl 5 rfl) ?_
      refine lv_bipush (v := 73) hx hb dX10_kindOfLine_49 (by decide) ?_
      refine lv_bipush (v := 78) hx hb dX10_kindOfLine_51 (by decide) ?_
      refine lv_bipush (v := 84) hx hb dX10_kindOfLine_53 (by decide) ?_
      refine q_ci (k := 0) (n := 0) hK hP hD hS hA (fun hPc hKc hDc => q_rV (As := [.int 0, .int 73, .int 78, .int 84]) (rest := []) hf (r_begins _ D h0 q cB cI_ cZ I F L 0 73 78 84 hI21 hL hok hj _) k_1324 k_1321 k_1323 k_50 k_98 (nA := 4) (by decide +kernel) ⟨Nat.le_of_ble_eq_true rfl, Nat.le_of_ble_eq_true rfl⟩ hK hP (ci := 11) (q0 := 0) rfl rfl rfl hPc hKc hDc (fun _ _ _ _ h => h) (fun _ _ _ => trivial) rfl hl.1 rfl (Nat.le_of_ble_eq_true rfl) dX10_kindOfLine_55 ⟨Nat.le_of_ble_eq_true rfl, Nat.le_of_ble_eq_true rfl⟩) (by decide) (by decide) (fun r u H locs hw hK hP hD hS => ?_)
      rcases hw with ⟨⟨c_3, rfl⟩ | ⟨c_3, rfl⟩, rfl⟩
      · have hP : va_P D vcl (mW h0 q cB cI_ cZ I F) H := hP
        have hD : va_D A (mW h0 q cB cI_ cZ I F) := hD
        refine lv_if_ne (tgt := 75) hx hb dX10_kindOfLine_58 (by decide) (fun _ => ?_) (fun hno => absurd hno (by decide))
        refine lv_iconst (v := 0) hx hb dX10_kindOfLine_75 (by decide) ?_
        exact q_zi hf hr rfl hlocks hK hP hD hS (Nat.le_of_ble_eq_true rfl) (Nat.le_of_ble_eq_true rfl) ⟨(pif_p ⟨c_1, trivial, Or.inl c_3⟩).symm, rfl⟩ dX10_kindOfLine_76
      · have hP : va_P D vcl (mW h0 q cB cI_ cZ I F) H := hP
        have hD : va_D A (mW h0 q cB cI_ cZ I F) := hD
        refine lv_if_ne (tgt := 75) hx hb dX10_kindOfLine_58 (by decide) (fun hno => absurd hno (by decide)) (fun _ => ?_)
        refine lv_aload_n hx hb dX10_kindOfLine_61 rfl (lv_at hl 4 rfl) ?_
        refine lv_iload_n hx hb dX10_kindOfLine_62 rfl (lv_at hl 5 rfl) ?_
        refine lv_bipush (v := 69) hx hb dX10_kindOfLine_63 (by decide) ?_
        refine lv_bipush (v := 88) hx hb dX10_kindOfLine_65 (by decide) ?_
        refine lv_bipush (v := 84) hx hb dX10_kindOfLine_67 (by decide) ?_
        refine q_ci (k := 0) (n := 0) hK hP hD hS hA (fun hPc hKc hDc => q_rV (As := [.int 0, .int 69, .int 88, .int 84]) (rest := []) hf (r_begins _ D h0 q cB cI_ cZ I F L 0 69 88 84 hI21 hL hok hj _) k_1324 k_1321 k_1323 k_50 k_98 (nA := 4) (by decide +kernel) ⟨Nat.le_of_ble_eq_true rfl, Nat.le_of_ble_eq_true rfl⟩ hK hP (ci := 11) (q0 := 0) rfl rfl rfl hPc hKc hDc (fun _ _ _ _ h => h) (fun _ _ _ => trivial) rfl hl.1 rfl (Nat.le_of_ble_eq_true rfl) dX10_kindOfLine_69 ⟨Nat.le_of_ble_eq_true rfl, Nat.le_of_ble_eq_true rfl⟩) (by decide) (by decide) (fun r u H locs hw hK hP hD hS => ?_)
        rcases hw with ⟨⟨c_4, rfl⟩ | ⟨c_4, rfl⟩, rfl⟩
        · have hP : va_P D vcl (mW h0 q cB cI_ cZ I F) H := hP
          have hD : va_D A (mW h0 q cB cI_ cZ I F) := hD
          refine lv_if_eq (tgt := 77) hx hb dX10_kindOfLine_72 (by decide) (fun hno => absurd hno (by decide)) (fun _ => ?_)
          refine lv_iconst (v := 0) hx hb dX10_kindOfLine_75 (by decide) ?_
          exact q_zi hf hr rfl hlocks hK hP hD hS (Nat.le_of_ble_eq_true rfl) (Nat.le_of_ble_eq_true rfl) ⟨(pif_p ⟨c_1, trivial, Or.inr c_4⟩).symm, rfl⟩ dX10_kindOfLine_76
        · have hP : va_P D vcl (mW h0 q cB cI_ cZ I F) H := hP
          have hD : va_D A (mW h0 q cB cI_ cZ I F) := hD
          refine lv_if_eq (tgt := 77) hx hb dX10_kindOfLine_72 (by decide) (fun _ => ?_) (fun hno => absurd hno (by decide))
          refine lv_iload_n hx hb dX10_kindOfLine_77 rfl (lv_at hl 3 rfl) ?_
          refine lv_if_eq (tgt := 99) hx hb dX10_kindOfLine_78 (by decide) (fun hno => absurd hno (by decide)) (fun _ => ?_)
          refine lv_iload hx hb dX10_kindOfLine_81 (lv_at hl 1 rfl) ?_
          refine lv_if_eq (tgt := 99) hx hb dX10_kindOfLine_83 (by decide) (fun hno => absurd hno (by decide)) (fun _ => ?_)
          refine lv_iload hx hb dX10_kindOfLine_86 (lv_at hl 0 rfl) ?_
          refine lv_if_eq (tgt := 99) hx hb dX10_kindOfLine_88 (by decide) (fun hno => absurd hno (by decide)) (fun _ => ?_)
          refine lv_iload_n hx hb dX10_kindOfLine_91 rfl (lv_at hl 2 rfl) ?_
          refine lv_bipush (v := 58) hx hb dX10_kindOfLine_92 (by decide) ?_
          refine lv_icmp_ne (tgt := 99) hx hb dX10_kindOfLine_94 (by decide) (fun c_5 => ?_) (fun c_5 => ?_)
          · refine lv_iload_n hx hb dX10_kindOfLine_99 rfl (lv_at hl 3 rfl) ?_
            refine lv_if_eq (tgt := 133) hx hb dX10_kindOfLine_100 (by decide) (fun hno => absurd hno (by decide)) (fun _ => ?_)
            refine lv_iload hx hb dX10_kindOfLine_103 (lv_at hl 1 rfl) ?_
            refine lv_if_eq (tgt := 133) hx hb dX10_kindOfLine_105 (by decide) (fun hno => absurd hno (by decide)) (fun _ => ?_)
            refine lv_iload hx hb dX10_kindOfLine_108 (lv_at hl 0 rfl) ?_
            refine lv_if_ne (tgt := 133) hx hb dX10_kindOfLine_110 (by decide) (fun _ => ?_) (fun hno => absurd hno (by decide))
            refine lv_iload hx hb dX10_kindOfLine_133 (lv_at hl 1 rfl) ?_
            refine lv_if_ne (tgt := 158) hx hb dX10_kindOfLine_135 (by decide) (fun _ => ?_) (fun hno => absurd hno (by decide))
            refine lv_iconst (v := 0) hx hb dX10_kindOfLine_158 (by decide) ?_
            refine lv_istore (lv' := [(6, .int 0), (5, .int 1), (4, .int 1), (3, .int ((F 0) (((L.getD 0 (0, 0)).2) - 1))), (2, .int 1), (0, .ref h0), (1, .int 0)]) hx hb dX10_kindOfLine_159 hl (by decide) rfl (fun ls hl => ?_)
            refine lv_iload hx hb dX10_kindOfLine_161 (lv_at hl 0 rfl) ?_
            refine lv_if_eq (tgt := 190) hx hb dX10_kindOfLine_163 (by decide) (fun _ => ?_) (fun hno => absurd hno (by decide))
            refine lv_iload hx hb dX10_kindOfLine_190 (lv_at hl 0 rfl) ?_
            refine lv_if_eq (tgt := 199) hx hb dX10_kindOfLine_192 (by decide) (fun _ => ?_) (fun hno => absurd hno (by decide))
            refine lv_iconst (v := 5) hx hb dX10_kindOfLine_199 (by decide) ?_
            exact q_zi hf hr rfl hlocks hK hP hD hS (Nat.le_of_ble_eq_true rfl) (Nat.le_of_ble_eq_true rfl) ⟨((((pif_n (fun h => h.2.2.elim c_3 c_4)).trans (pif_n (fun h => c_5 h.2.2.2))).trans (pif_n (fun h => h.2.2.1 c_2))).trans (pif_n (fun h => h.1 trivial))).symm, rfl⟩ dX10_kindOfLine_200
          · refine lv_iconst (v := 1) hx hb dX10_kindOfLine_97 (by decide) ?_
            exact q_zi hf hr rfl hlocks hK hP hD hS (Nat.le_of_ble_eq_true rfl) (Nat.le_of_ble_eq_true rfl) ⟨((pif_n (fun h => h.2.2.elim c_3 c_4)).trans (pif_p ⟨c_1, trivial, c_2, c_5⟩)).symm, rfl⟩ dX10_kindOfLine_98
    · have hP : va_P D vcl (mW h0 q cB cI_ cZ I F) H := hP
      have hD : va_D A (mW h0 q cB cI_ cZ I F) := hD
      refine lv_istore (lv' := [(5, .int 0), (4, .int 1), (3, .int ((F 0) (((L.getD 0 (0, 0)).2) - 1))), (2, .int 1), (0, .ref h0), (1, .int 0)]) hx hb dX10_kindOfLine_36 hl (by decide) rfl (fun ls hl => ?_)
      refine lv_iload_n hx hb dX10_kindOfLine_38 rfl (lv_at hl 3 rfl) ?_
      refine lv_if_eq (tgt := 77) hx hb dX10_kindOfLine_39 (by decide) (fun hno => absurd hno (by decide)) (fun _ => ?_)
      refine lv_iload hx hb dX10_kindOfLine_42 (lv_at hl 1 rfl) ?_
      refine lv_if_eq (tgt := 77) hx hb dX10_kindOfLine_44 (by decide) (fun hno => absurd hno (by decide)) (fun _ => ?_)
      refine lv_aload_n hx hb dX10_kindOfLine_47 rfl (lv_at hl 4 rfl) ?_
      refine lv_iload_n hx hb dX10_kindOfLine_48 rfl (lv_at hl 5 rfl) ?_
      refine lv_bipush (v := 73) hx hb dX10_kindOfLine_49 (by decide) ?_
      refine lv_bipush (v := 78) hx hb dX10_kindOfLine_51 (by decide) ?_
      refine lv_bipush (v := 84) hx hb dX10_kindOfLine_53 (by decide) ?_
      refine q_ci (k := 0) (n := 0) hK hP hD hS hA (fun hPc hKc hDc => q_rV (As := [.int 0, .int 73, .int 78, .int 84]) (rest := []) hf (r_begins _ D h0 q cB cI_ cZ I F L 0 73 78 84 hI21 hL hok hj _) k_1324 k_1321 k_1323 k_50 k_98 (nA := 4) (by decide +kernel) ⟨Nat.le_of_ble_eq_true rfl, Nat.le_of_ble_eq_true rfl⟩ hK hP (ci := 11) (q0 := 0) rfl rfl rfl hPc hKc hDc (fun _ _ _ _ h => h) (fun _ _ _ => trivial) rfl hl.1 rfl (Nat.le_of_ble_eq_true rfl) dX10_kindOfLine_55 ⟨Nat.le_of_ble_eq_true rfl, Nat.le_of_ble_eq_true rfl⟩) (by decide) (by decide) (fun r u H locs hw hK hP hD hS => ?_)
      rcases hw with ⟨⟨c_6, rfl⟩ | ⟨c_6, rfl⟩, rfl⟩
      · have hP : va_P D vcl (mW h0 q cB cI_ cZ I F) H := hP
        have hD : va_D A (mW h0 q cB cI_ cZ I F) := hD
        refine lv_if_ne (tgt := 75) hx hb dX10_kindOfLine_58 (by decide) (fun _ => ?_) (fun hno => absurd hno (by decide))
        refine lv_iconst (v := 0) hx hb dX10_kindOfLine_75 (by decide) ?_
        exact q_zi hf hr rfl hlocks hK hP hD hS (Nat.le_of_ble_eq_true rfl) (Nat.le_of_ble_eq_true rfl) ⟨(pif_p ⟨c_1, trivial, Or.inl c_6⟩).symm, rfl⟩ dX10_kindOfLine_76
      · have hP : va_P D vcl (mW h0 q cB cI_ cZ I F) H := hP
        have hD : va_D A (mW h0 q cB cI_ cZ I F) := hD
        refine lv_if_ne (tgt := 75) hx hb dX10_kindOfLine_58 (by decide) (fun hno => absurd hno (by decide)) (fun _ => ?_)
        refine lv_aload_n hx hb dX10_kindOfLine_61 rfl (lv_at hl 4 rfl) ?_
        refine lv_iload_n hx hb dX10_kindOfLine_62 rfl (lv_at hl 5 rfl) ?_
        refine lv_bipush (v := 69) hx hb dX10_kindOfLine_63 (by decide) ?_
        refine lv_bipush (v := 88) hx hb dX10_kindOfLine_65 (by decide) ?_
        refine lv_bipush (v := 84) hx hb dX10_kindOfLine_67 (by decide) ?_
        refine q_ci (k := 0) (n := 0) hK hP hD hS hA (fun hPc hKc hDc => q_rV (As := [.int 0, .int 69, .int 88, .int 84]) (rest := []) hf (r_begins _ D h0 q cB cI_ cZ I F L 0 69 88 84 hI21 hL hok hj _) k_1324 k_1321 k_1323 k_50 k_98 (nA := 4) (by decide +kernel) ⟨Nat.le_of_ble_eq_true rfl, Nat.le_of_ble_eq_true rfl⟩ hK hP (ci := 11) (q0 := 0) rfl rfl rfl hPc hKc hDc (fun _ _ _ _ h => h) (fun _ _ _ => trivial) rfl hl.1 rfl (Nat.le_of_ble_eq_true rfl) dX10_kindOfLine_69 ⟨Nat.le_of_ble_eq_true rfl, Nat.le_of_ble_eq_true rfl⟩) (by decide) (by decide) (fun r u H locs hw hK hP hD hS => ?_)
        rcases hw with ⟨⟨c_7, rfl⟩ | ⟨c_7, rfl⟩, rfl⟩
        · have hP : va_P D vcl (mW h0 q cB cI_ cZ I F) H := hP
          have hD : va_D A (mW h0 q cB cI_ cZ I F) := hD
          refine lv_if_eq (tgt := 77) hx hb dX10_kindOfLine_72 (by decide) (fun hno => absurd hno (by decide)) (fun _ => ?_)
          refine lv_iconst (v := 0) hx hb dX10_kindOfLine_75 (by decide) ?_
          exact q_zi hf hr rfl hlocks hK hP hD hS (Nat.le_of_ble_eq_true rfl) (Nat.le_of_ble_eq_true rfl) ⟨(pif_p ⟨c_1, trivial, Or.inr c_7⟩).symm, rfl⟩ dX10_kindOfLine_76
        · have hP : va_P D vcl (mW h0 q cB cI_ cZ I F) H := hP
          have hD : va_D A (mW h0 q cB cI_ cZ I F) := hD
          refine lv_if_eq (tgt := 77) hx hb dX10_kindOfLine_72 (by decide) (fun _ => ?_) (fun hno => absurd hno (by decide))
          refine lv_iload_n hx hb dX10_kindOfLine_77 rfl (lv_at hl 3 rfl) ?_
          refine lv_if_eq (tgt := 99) hx hb dX10_kindOfLine_78 (by decide) (fun hno => absurd hno (by decide)) (fun _ => ?_)
          refine lv_iload hx hb dX10_kindOfLine_81 (lv_at hl 1 rfl) ?_
          refine lv_if_eq (tgt := 99) hx hb dX10_kindOfLine_83 (by decide) (fun hno => absurd hno (by decide)) (fun _ => ?_)
          refine lv_iload hx hb dX10_kindOfLine_86 (lv_at hl 0 rfl) ?_
          refine lv_if_eq (tgt := 99) hx hb dX10_kindOfLine_88 (by decide) (fun _ => ?_) (fun hno => absurd hno (by decide))
          refine lv_iload_n hx hb dX10_kindOfLine_99 rfl (lv_at hl 3 rfl) ?_
          refine lv_if_eq (tgt := 133) hx hb dX10_kindOfLine_100 (by decide) (fun hno => absurd hno (by decide)) (fun _ => ?_)
          refine lv_iload hx hb dX10_kindOfLine_103 (lv_at hl 1 rfl) ?_
          refine lv_if_eq (tgt := 133) hx hb dX10_kindOfLine_105 (by decide) (fun hno => absurd hno (by decide)) (fun _ => ?_)
          refine lv_iload hx hb dX10_kindOfLine_108 (lv_at hl 0 rfl) ?_
          refine lv_if_ne (tgt := 133) hx hb dX10_kindOfLine_110 (by decide) (fun hno => absurd hno (by decide)) (fun _ => ?_)
          refine lv_aload_n hx hb dX10_kindOfLine_113 rfl (lv_at hl 4 rfl) ?_
          refine va_get (D := D) (ci := 11) (v := .ref (q 23)) (C := RX10) (T := TX10) (N := 48) hx hb hts inX10 hown hK hP 0 rfl rfl 23 (by decide) (hts _ k_1167) (fun _ h9 => h9) rfl dX10_kindOfLine_114 ?_
          refine lv_iload_n hx hb dX10_kindOfLine_117 rfl (lv_at hl 5 rfl) ?_
          refine q_ild (X := 0) (f := (F 23)) hx hb hK hP 17 1 rfl rfl (by omega) (by decide) dX10_kindOfLine_118 ?_
          refine q_seti (y := (nI ((L.getD 0 (0, 0)).2))) (hL 0 (by omega)).2 ?_
          refine lv_aload_n hx hb dX10_kindOfLine_119 rfl (lv_at hl 4 rfl) ?_
          refine va_get (D := D) (ci := 11) (v := .ref (q 22)) (C := RX10) (T := TX10) (N := 48) hx hb hts inX10 hown hK hP 0 rfl rfl 22 (by decide) (hts _ k_1166) (fun _ h9 => h9) rfl dX10_kindOfLine_120 ?_
          refine lv_iload_n hx hb dX10_kindOfLine_123 rfl (lv_at hl 5 rfl) ?_
          refine q_ild (X := 0) (f := (F 22)) hx hb hK hP 16 1 rfl rfl (by omega) (by decide) dX10_kindOfLine_124 ?_
          refine q_seti (y := (nI ((L.getD 0 (0, 0)).1))) (hL 0 (by omega)).1 ?_
          refine lv_isub hx hb dX10_kindOfLine_125 ?_
          refine q_seti (y := nI (((L.getD 0 (0, 0)).2) - ((L.getD 0 (0, 0)).1))) (pk_sub (a := (L.getD 0 (0, 0)).2) (b := (L.getD 0 (0, 0)).1) (by omega)) ?_
          refine lv_bipush (v := 24) hx hb dX10_kindOfLine_126 (by decide) ?_
          refine lv_icmp_gt (tgt := 133) hx hb dX10_kindOfLine_128 (by decide) (fun c_8 => ?_) (fun c_8 => ?_)
          · have c_8 := q_lt (a := 24) (b := ((L.getD 0 (0, 0)).2) - ((L.getD 0 (0, 0)).1)) (by omega) (by omega) c_8
            refine lv_iload hx hb dX10_kindOfLine_133 (lv_at hl 1 rfl) ?_
            refine lv_if_ne (tgt := 158) hx hb dX10_kindOfLine_135 (by decide) (fun _ => ?_) (fun hno => absurd hno (by decide))
            refine lv_iconst (v := 0) hx hb dX10_kindOfLine_158 (by decide) ?_
            refine lv_istore (lv' := [(6, .int 0), (5, .int 0), (4, .int 1), (3, .int ((F 0) (((L.getD 0 (0, 0)).2) - 1))), (2, .int 1), (0, .ref h0), (1, .int 0)]) hx hb dX10_kindOfLine_159 hl (by decide) rfl (fun ls hl => ?_)
            refine lv_iload hx hb dX10_kindOfLine_161 (lv_at hl 0 rfl) ?_
            refine lv_if_eq (tgt := 190) hx hb dX10_kindOfLine_163 (by decide) (fun _ => ?_) (fun hno => absurd hno (by decide))
            refine lv_iload hx hb dX10_kindOfLine_190 (lv_at hl 0 rfl) ?_
            refine lv_if_eq (tgt := 199) hx hb dX10_kindOfLine_192 (by decide) (fun _ => ?_) (fun hno => absurd hno (by decide))
            refine lv_iconst (v := 5) hx hb dX10_kindOfLine_199 (by decide) ?_
            exact q_zi hf hr rfl hlocks hK hP hD hS (Nat.le_of_ble_eq_true rfl) (Nat.le_of_ble_eq_true rfl) ⟨((((pif_n (fun h => h.2.2.elim c_6 c_7)).trans (pif_n (fun h => c_2 h.2.2.1))).trans (pif_n (fun h => absurd h.2.2.2 (by omega)))).trans (pif_n (fun h => h.1 trivial))).symm, rfl⟩ dX10_kindOfLine_200
          · have c_8 := q_nlt (a := 24) (b := ((L.getD 0 (0, 0)).2) - ((L.getD 0 (0, 0)).1)) (by omega) (by omega) c_8
            refine lv_iconst (v := 2) hx hb dX10_kindOfLine_131 (by decide) ?_
            exact q_zi hf hr rfl hlocks hK hP hD hS (Nat.le_of_ble_eq_true rfl) (Nat.le_of_ble_eq_true rfl) ⟨(((pif_n (fun h => h.2.2.elim c_6 c_7)).trans (pif_n (fun h => c_2 h.2.2.1))).trans (pif_p ⟨c_1, trivial, c_2, by omega⟩)).symm, rfl⟩ dX10_kindOfLine_132
  · have hP : va_P D vcl (mW h0 q cB cI_ cZ I F) H := hP
    have hD : va_D A (mW h0 q cB cI_ cZ I F) := hD
    refine lv_istore_n (lv' := [(2, .int 0), (0, .ref h0), (1, .int 0)]) hx hb dX10_kindOfLine_5 rfl hl (by decide) rfl (fun ls hl => ?_)
    refine lv_aload_n hx hb dX10_kindOfLine_6 rfl (lv_at hl 1 rfl) ?_
    refine va_get (D := D) (ci := 11) (v := .ref (q 0)) (C := RX10) (T := TX10) (N := 48) hx hb hts inX10 hown hK hP 0 rfl rfl 0 (by decide) (hts _ k_1144) (fun _ h9 => h9) rfl dX10_kindOfLine_7 ?_
    refine lv_aload_n hx hb dX10_kindOfLine_10 rfl (lv_at hl 1 rfl) ?_
    refine va_get (D := D) (ci := 11) (v := .ref (q 23)) (C := RX10) (T := TX10) (N := 48) hx hb hts inX10 hown hK hP 0 rfl rfl 23 (by decide) (hts _ k_1167) (fun _ h9 => h9) rfl dX10_kindOfLine_11 ?_
    refine lv_iload_n hx hb dX10_kindOfLine_14 rfl (lv_at hl 2 rfl) ?_
    refine q_ild (X := 0) (f := (F 23)) hx hb hK hP 17 1 rfl rfl (by omega) (by decide) dX10_kindOfLine_15 ?_
    refine q_seti (y := (nI ((L.getD 0 (0, 0)).2))) (hL 0 (by omega)).2 ?_
    refine lv_iconst (v := 1) hx hb dX10_kindOfLine_16 (by decide) ?_
    refine lv_isub hx hb dX10_kindOfLine_17 ?_
    refine q_seti (y := nI (((L.getD 0 (0, 0)).2) - 1)) (pk_sub (a := (L.getD 0 (0, 0)).2) (b := 1) (by omega)) ?_
    refine q_bld (X := ((L.getD 0 (0, 0)).2) - 1) (f := (F 0)) hx hb hK hP 1 0 rfl rfl (by omega) (by decide) dX10_kindOfLine_18 ?_
    refine lv_istore_n (lv' := [(3, .int ((F 0) (((L.getD 0 (0, 0)).2) - 1))), (2, .int 0), (0, .ref h0), (1, .int 0)]) hx hb dX10_kindOfLine_19 rfl hl (by decide) rfl (fun ls hl => ?_)
    refine lv_aload_n hx hb dX10_kindOfLine_20 rfl (lv_at hl 2 rfl) ?_
    refine lv_iload_n hx hb dX10_kindOfLine_21 rfl (lv_at hl 3 rfl) ?_
    refine lv_iconst (v := 1) hx hb dX10_kindOfLine_22 (by decide) ?_
    refine lv_isub hx hb dX10_kindOfLine_23 ?_
    refine q_seti (y := (-1)) (by decide) ?_
    refine q_ci (k := 0) (n := 0) hK hP hD hS hA (fun hPc hKc hDc => q_rV (As := [.int (-1)]) (rest := []) hf (r_isFree_m _ D h0 q cB cI_ cZ I F L hI21 hL hok _) k_1312 k_1309 k_1311 k_47 k_98 (nA := 1) (by decide +kernel) ⟨Nat.le_of_ble_eq_true rfl, Nat.le_of_ble_eq_true rfl⟩ hK hP (ci := 11) (q0 := 0) rfl rfl rfl hPc hKc hDc (fun _ _ _ _ h => h) (fun _ _ _ => trivial) rfl hl.1 rfl (Nat.le_of_ble_eq_true rfl) dX10_kindOfLine_24 ⟨Nat.le_of_ble_eq_true rfl, Nat.le_of_ble_eq_true rfl⟩) (by decide) (by decide) (fun r u H locs hw hK hP hD hS => ?_)
    obtain ⟨rfl, rfl⟩ := hw
    have hP : va_P D vcl (mW h0 q cB cI_ cZ I F) H := hP
    have hD : va_D A (mW h0 q cB cI_ cZ I F) := hD
    refine lv_istore (lv' := [(4, .int 1), (3, .int ((F 0) (((L.getD 0 (0, 0)).2) - 1))), (2, .int 0), (0, .ref h0), (1, .int 0)]) hx hb dX10_kindOfLine_27 hl (by decide) rfl (fun ls hl => ?_)
    refine lv_aload_n hx hb dX10_kindOfLine_29 rfl (lv_at hl 3 rfl) ?_
    refine lv_iload_n hx hb dX10_kindOfLine_30 rfl (lv_at hl 4 rfl) ?_
    refine lv_iconst (v := 1) hx hb dX10_kindOfLine_31 (by decide) ?_
    refine lv_iadd hx hb dX10_kindOfLine_32 ?_
    refine q_seti (y := 1) (by decide) ?_
    refine q_ci (k := 0) (n := 0) hK hP hD hS hA (fun hPc hKc hDc => q_rV (As := [.int 1]) (rest := []) hf (r_isFree _ D h0 q cB cI_ cZ I F L 1 hI21 hL hok (by omega) _) k_1312 k_1309 k_1311 k_47 k_98 (nA := 1) (by decide +kernel) ⟨Nat.le_of_ble_eq_true rfl, Nat.le_of_ble_eq_true rfl⟩ hK hP (ci := 11) (q0 := 0) rfl rfl rfl hPc hKc hDc (fun _ _ _ _ h => h) (fun _ _ _ => trivial) rfl hl.1 rfl (Nat.le_of_ble_eq_true rfl) dX10_kindOfLine_33 ⟨Nat.le_of_ble_eq_true rfl, Nat.le_of_ble_eq_true rfl⟩) (by decide) (by decide) (fun r u H locs hw hK hP hD hS => ?_)
    rcases hw with ⟨⟨c_9, rfl⟩ | ⟨c_9, rfl⟩, rfl⟩
    · have hP : va_P D vcl (mW h0 q cB cI_ cZ I F) H := hP
      have hD : va_D A (mW h0 q cB cI_ cZ I F) := hD
      refine lv_istore (lv' := [(5, .int 1), (4, .int 1), (3, .int ((F 0) (((L.getD 0 (0, 0)).2) - 1))), (2, .int 0), (0, .ref h0), (1, .int 0)]) hx hb dX10_kindOfLine_36 hl (by decide) rfl (fun ls hl => ?_)
      refine lv_iload_n hx hb dX10_kindOfLine_38 rfl (lv_at hl 3 rfl) ?_
      refine lv_if_eq (tgt := 77) hx hb dX10_kindOfLine_39 (by decide) (fun _ => ?_) (fun hno => absurd hno (by decide))
      refine lv_iload_n hx hb dX10_kindOfLine_77 rfl (lv_at hl 3 rfl) ?_
      refine lv_if_eq (tgt := 99) hx hb dX10_kindOfLine_78 (by decide) (fun _ => ?_) (fun hno => absurd hno (by decide))
      refine lv_iload_n hx hb dX10_kindOfLine_99 rfl (lv_at hl 3 rfl) ?_
      refine lv_if_eq (tgt := 133) hx hb dX10_kindOfLine_100 (by decide) (fun _ => ?_) (fun hno => absurd hno (by decide))
      refine lv_iload hx hb dX10_kindOfLine_133 (lv_at hl 1 rfl) ?_
      refine lv_if_ne (tgt := 158) hx hb dX10_kindOfLine_135 (by decide) (fun _ => ?_) (fun hno => absurd hno (by decide))
      refine lv_iconst (v := 0) hx hb dX10_kindOfLine_158 (by decide) ?_
      refine lv_istore (lv' := [(6, .int 0), (5, .int 1), (4, .int 1), (3, .int ((F 0) (((L.getD 0 (0, 0)).2) - 1))), (2, .int 0), (0, .ref h0), (1, .int 0)]) hx hb dX10_kindOfLine_159 hl (by decide) rfl (fun ls hl => ?_)
      refine lv_iload hx hb dX10_kindOfLine_161 (lv_at hl 0 rfl) ?_
      refine lv_if_eq (tgt := 190) hx hb dX10_kindOfLine_163 (by decide) (fun _ => ?_) (fun hno => absurd hno (by decide))
      refine lv_iload hx hb dX10_kindOfLine_190 (lv_at hl 0 rfl) ?_
      refine lv_if_eq (tgt := 199) hx hb dX10_kindOfLine_192 (by decide) (fun _ => ?_) (fun hno => absurd hno (by decide))
      refine lv_iconst (v := 5) hx hb dX10_kindOfLine_199 (by decide) ?_
      exact q_zi hf hr rfl hlocks hK hP hD hS (Nat.le_of_ble_eq_true rfl) (Nat.le_of_ble_eq_true rfl) ⟨((((pif_n (fun h => c_1 h.1)).trans (pif_n (fun h => c_1 h.1))).trans (pif_n (fun h => c_1 h.1))).trans (pif_n (fun h => h.1 trivial))).symm, rfl⟩ dX10_kindOfLine_200
    · have hP : va_P D vcl (mW h0 q cB cI_ cZ I F) H := hP
      have hD : va_D A (mW h0 q cB cI_ cZ I F) := hD
      refine lv_istore (lv' := [(5, .int 0), (4, .int 1), (3, .int ((F 0) (((L.getD 0 (0, 0)).2) - 1))), (2, .int 0), (0, .ref h0), (1, .int 0)]) hx hb dX10_kindOfLine_36 hl (by decide) rfl (fun ls hl => ?_)
      refine lv_iload_n hx hb dX10_kindOfLine_38 rfl (lv_at hl 3 rfl) ?_
      refine lv_if_eq (tgt := 77) hx hb dX10_kindOfLine_39 (by decide) (fun _ => ?_) (fun hno => absurd hno (by decide))
      refine lv_iload_n hx hb dX10_kindOfLine_77 rfl (lv_at hl 3 rfl) ?_
      refine lv_if_eq (tgt := 99) hx hb dX10_kindOfLine_78 (by decide) (fun _ => ?_) (fun hno => absurd hno (by decide))
      refine lv_iload_n hx hb dX10_kindOfLine_99 rfl (lv_at hl 3 rfl) ?_
      refine lv_if_eq (tgt := 133) hx hb dX10_kindOfLine_100 (by decide) (fun _ => ?_) (fun hno => absurd hno (by decide))
      refine lv_iload hx hb dX10_kindOfLine_133 (lv_at hl 1 rfl) ?_
      refine lv_if_ne (tgt := 158) hx hb dX10_kindOfLine_135 (by decide) (fun _ => ?_) (fun hno => absurd hno (by decide))
      refine lv_iconst (v := 0) hx hb dX10_kindOfLine_158 (by decide) ?_
      refine lv_istore (lv' := [(6, .int 0), (5, .int 0), (4, .int 1), (3, .int ((F 0) (((L.getD 0 (0, 0)).2) - 1))), (2, .int 0), (0, .ref h0), (1, .int 0)]) hx hb dX10_kindOfLine_159 hl (by decide) rfl (fun ls hl => ?_)
      refine lv_iload hx hb dX10_kindOfLine_161 (lv_at hl 0 rfl) ?_
      refine lv_if_eq (tgt := 190) hx hb dX10_kindOfLine_163 (by decide) (fun _ => ?_) (fun hno => absurd hno (by decide))
      refine lv_iload hx hb dX10_kindOfLine_190 (lv_at hl 0 rfl) ?_
      refine lv_if_eq (tgt := 199) hx hb dX10_kindOfLine_192 (by decide) (fun _ => ?_) (fun hno => absurd hno (by decide))
      refine lv_iconst (v := 5) hx hb dX10_kindOfLine_199 (by decide) ?_
      exact q_zi hf hr rfl hlocks hK hP hD hS (Nat.le_of_ble_eq_true rfl) (Nat.le_of_ble_eq_true rfl) ⟨((((pif_n (fun h => c_1 h.1)).trans (pif_n (fun h => c_1 h.1))).trans (pif_n (fun h => c_1 h.1))).trans (pif_n (fun h => h.1 trivial))).symm, rfl⟩ dX10_kindOfLine_200
