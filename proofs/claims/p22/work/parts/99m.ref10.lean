def whI (en wn : Nat) (g : Nat → Int32) : Prop := ∀ j, j < wn → ∃ e, e < en ∧ g j = nI e
theorem whI_s {en wn x : Nat} {g : Nat → Int32} (h : whI en wn g) (hx : x < en) : whI en (wn + 1) (upd g wn (nI x)) := by
  intro j hj
  by_cases c : j = wn
  · rw [c, pk_us]; exact ⟨x, hx, rfl⟩
  · rw [pk_un c]; exact h j (by omega)
abbrev cX10_eighths : ByteArray := prog_12_method_58_code
def yX10_eighths : MethodName := ⟨RX10, "eighths", "(I)I"⟩
abbrev cX10_findWho : ByteArray := prog_12_method_56_code
def yX10_findWho : MethodName := ⟨RX10, "findWho", "(I)V"⟩
abbrev cX10_parts : ByteArray := prog_12_method_61_code
def yX10_parts : MethodName := ⟨RX10, "parts", "(I)I"⟩
abbrev cX10_scene : ByteArray := prog_12_method_59_code
def yX10_scene : MethodName := ⟨RX10, "scene", "(II)I"⟩
abbrev cX10_span : ByteArray := prog_12_method_57_code
def yX10_span : MethodName := ⟨RX10, "span", "(I)I"⟩
abbrev cX10_who : ByteArray := prog_12_method_60_code
def yX10_who : MethodName := ⟨RX10, "who", "(II)I"⟩
theorem k_78 : (Cond.selects RX10 yX10_findWho yX10_findWho) ∈ gT := gT_i 78 (by decide +kernel) rfl
theorem k_79 : (Cond.selects RX10 yX10_sceneFrom yX10_sceneFrom) ∈ gT := gT_i 79 (by decide +kernel) rfl
theorem k_80 : (Cond.selects RX10 yX10_areLike yX10_areLike) ∈ gT := gT_i 80 (by decide +kernel) rfl
theorem k_81 : (Cond.selects RX10 yX10_span yX10_span) ∈ gT := gT_i 81 (by decide +kernel) rfl
theorem k_82 : (Cond.selects RX10 yX10_eighths yX10_eighths) ∈ gT := gT_i 82 (by decide +kernel) rfl
theorem k_1190 : (Cond.fieldLink RX10 271 "ScriptDeskModel" "whoMany" "I") ∈ gT := gT_i 1190 (by decide +kernel) rfl
theorem k_1191 : (Cond.fieldLink RX10 116 "ScriptDeskModel" "who" "[I") ∈ gT := gT_i 1191 (by decide +kernel) rfl
theorem k_1481 : (Cond.instanceMethod yX10_scenes) ∈ gT := gT_i 1481 (by decide +kernel) rfl
theorem k_1482 : (Cond.selects RX10 yX10_scenes yX10_scenes) ∈ gT := gT_i 1482 (by decide +kernel) rfl
theorem k_1483 : (Cond.code yX10_scenes cX10_scenes 3 (some .int)) ∈ gT := gT_i 1483 (by decide +kernel) rfl
theorem k_1496 : (Cond.methodLink RX10 284 yX10_scenes) ∈ gT := gT_i 1496 (by decide +kernel) rfl
theorem k_1497 : (Cond.methodLink RX10 287 yX10_findWho) ∈ gT := gT_i 1497 (by decide +kernel) rfl
theorem k_1499 : (Cond.instanceMethod yX10_findWho) ∈ gT := gT_i 1499 (by decide +kernel) rfl
theorem k_1500 : (Cond.code yX10_findWho cX10_findWho 5 none) ∈ gT := gT_i 1500 (by decide +kernel) rfl
theorem k_1501 : (Cond.methodLink RX10 274 yX10_sceneFrom) ∈ gT := gT_i 1501 (by decide +kernel) rfl
theorem k_1503 : (Cond.instanceMethod yX10_sceneFrom) ∈ gT := gT_i 1503 (by decide +kernel) rfl
theorem k_1504 : (Cond.code yX10_sceneFrom cX10_sceneFrom 4 (some .int)) ∈ gT := gT_i 1504 (by decide +kernel) rfl
theorem k_1505 : (Cond.methodLink RX10 277 yX10_areLike) ∈ gT := gT_i 1505 (by decide +kernel) rfl
theorem k_1507 : (Cond.instanceMethod yX10_areLike) ∈ gT := gT_i 1507 (by decide +kernel) rfl
theorem k_1508 : (Cond.code yX10_areLike cX10_areLike 7 (some .boolean)) ∈ gT := gT_i 1508 (by decide +kernel) rfl
theorem k_1509 : (Cond.methodLink RX10 281 yX10_span) ∈ gT := gT_i 1509 (by decide +kernel) rfl
theorem k_1511 : (Cond.instanceMethod yX10_span) ∈ gT := gT_i 1511 (by decide +kernel) rfl
theorem k_1512 : (Cond.code yX10_span cX10_span 5 (some .int)) ∈ gT := gT_i 1512 (by decide +kernel) rfl
theorem k_1513 : (Cond.methodLink RX10 290 yX10_eighths) ∈ gT := gT_i 1513 (by decide +kernel) rfl
theorem k_1515 : (Cond.instanceMethod yX10_eighths) ∈ gT := gT_i 1515 (by decide +kernel) rfl
theorem k_1516 : (Cond.code yX10_eighths cX10_eighths 4 (some .int)) ∈ gT := gT_i 1516 (by decide +kernel) rfl
theorem dX10_findWho_51 : decode cX10_findWho 51 = .ok (.iload 4, 2) := by decide +kernel
theorem dX10_findWho_53 : decode cX10_findWho 53 = .ok (.aload_n 0, 1) := by decide +kernel
theorem dX10_findWho_54 : decode cX10_findWho 54 = .ok (.getfield 271, 3) := by decide +kernel
theorem dX10_findWho_57 : decode cX10_findWho 57 = .ok (.if_icmp .ge 39, 3) := by decide +kernel
theorem dX10_findWho_60 : decode cX10_findWho 60 = .ok (.iload_n 3, 1) := by decide +kernel
theorem dX10_findWho_61 : decode cX10_findWho 61 = .ok (.ifCond .eq 35, 3) := by decide +kernel
theorem dX10_findWho_64 : decode cX10_findWho 64 = .ok (.aload_n 0, 1) := by decide +kernel
theorem dX10_findWho_65 : decode cX10_findWho 65 = .ok (.aload_n 0, 1) := by decide +kernel
theorem dX10_findWho_66 : decode cX10_findWho 66 = .ok (.getfield 116, 3) := by decide +kernel
theorem dX10_findWho_69 : decode cX10_findWho 69 = .ok (.iload 4, 2) := by decide +kernel
theorem dX10_findWho_71 : decode cX10_findWho 71 = .ok (.iaload, 1) := by decide +kernel
theorem dX10_findWho_72 : decode cX10_findWho 72 = .ok (.aload_n 0, 1) := by decide +kernel
theorem dX10_findWho_73 : decode cX10_findWho 73 = .ok (.getfield 113, 3) := by decide +kernel
theorem dX10_findWho_76 : decode cX10_findWho 76 = .ok (.iload_n 2, 1) := by decide +kernel
theorem dX10_findWho_77 : decode cX10_findWho 77 = .ok (.iaload, 1) := by decide +kernel
theorem dX10_findWho_78 : decode cX10_findWho 78 = .ok (.invokevirtual 277, 3) := by decide +kernel
theorem dX10_findWho_81 : decode cX10_findWho 81 = .ok (.ifCond .ne 7, 3) := by decide +kernel
theorem dX10_findWho_88 : decode cX10_findWho 88 = .ok (.iconst 0, 1) := by decide +kernel
theorem dX10_findWho_89 : decode cX10_findWho 89 = .ok (.istore_n 3, 1) := by decide +kernel
theorem dX10_findWho_90 : decode cX10_findWho 90 = .ok (.iinc 4 1, 3) := by decide +kernel
theorem dX10_findWho_93 : decode cX10_findWho 93 = .ok (.goto (-42), 3) := by decide +kernel
theorem dX10_findWho_84 : decode cX10_findWho 84 = .ok (.iconst 1, 1) := by decide +kernel
theorem dX10_findWho_85 : decode cX10_findWho 85 = .ok (.goto 4, 3) := by decide +kernel
theorem dX10_findWho_11 : decode cX10_findWho 11 = .ok (.iload_n 2, 1) := by decide +kernel
theorem dX10_findWho_12 : decode cX10_findWho 12 = .ok (.aload_n 0, 1) := by decide +kernel
theorem dX10_findWho_13 : decode cX10_findWho 13 = .ok (.iload_n 1, 1) := by decide +kernel
theorem dX10_findWho_14 : decode cX10_findWho 14 = .ok (.iconst 1, 1) := by decide +kernel
theorem dX10_findWho_15 : decode cX10_findWho 15 = .ok (.iadd, 1) := by decide +kernel
theorem dX10_findWho_16 : decode cX10_findWho 16 = .ok (.invokevirtual 274, 3) := by decide +kernel
theorem dX10_findWho_19 : decode cX10_findWho 19 = .ok (.if_icmp .ge 112, 3) := by decide +kernel
theorem dX10_findWho_22 : decode cX10_findWho 22 = .ok (.aload_n 0, 1) := by decide +kernel
theorem dX10_findWho_23 : decode cX10_findWho 23 = .ok (.getfield 25, 3) := by decide +kernel
theorem dX10_findWho_26 : decode cX10_findWho 26 = .ok (.aload_n 0, 1) := by decide +kernel
theorem dX10_findWho_27 : decode cX10_findWho 27 = .ok (.getfield 17, 3) := by decide +kernel
theorem dX10_findWho_30 : decode cX10_findWho 30 = .ok (.aload_n 0, 1) := by decide +kernel
theorem dX10_findWho_31 : decode cX10_findWho 31 = .ok (.getfield 113, 3) := by decide +kernel
theorem dX10_findWho_34 : decode cX10_findWho 34 = .ok (.iload_n 2, 1) := by decide +kernel
theorem dX10_findWho_35 : decode cX10_findWho 35 = .ok (.iaload, 1) := by decide +kernel
theorem dX10_findWho_36 : decode cX10_findWho 36 = .ok (.iaload, 1) := by decide +kernel
theorem dX10_findWho_37 : decode cX10_findWho 37 = .ok (.iaload, 1) := by decide +kernel
theorem dX10_findWho_38 : decode cX10_findWho 38 = .ok (.iconst 2, 1) := by decide +kernel
theorem dX10_findWho_39 : decode cX10_findWho 39 = .ok (.if_icmp .ne 7, 3) := by decide +kernel
theorem dX10_findWho_46 : decode cX10_findWho 46 = .ok (.iconst 0, 1) := by decide +kernel
theorem dX10_findWho_47 : decode cX10_findWho 47 = .ok (.istore_n 3, 1) := by decide +kernel
theorem dX10_findWho_48 : decode cX10_findWho 48 = .ok (.iconst 0, 1) := by decide +kernel
theorem dX10_findWho_49 : decode cX10_findWho 49 = .ok (.istore 4, 2) := by decide +kernel
theorem dX10_findWho_96 : decode cX10_findWho 96 = .ok (.iload_n 3, 1) := by decide +kernel
theorem dX10_findWho_97 : decode cX10_findWho 97 = .ok (.ifCond .eq 28, 3) := by decide +kernel
theorem dX10_findWho_125 : decode cX10_findWho 125 = .ok (.iinc 2 1, 3) := by decide +kernel
theorem dX10_findWho_128 : decode cX10_findWho 128 = .ok (.goto (-117), 3) := by decide +kernel
theorem dX10_findWho_100 : decode cX10_findWho 100 = .ok (.aload_n 0, 1) := by decide +kernel
theorem dX10_findWho_101 : decode cX10_findWho 101 = .ok (.getfield 116, 3) := by decide +kernel
theorem dX10_findWho_104 : decode cX10_findWho 104 = .ok (.aload_n 0, 1) := by decide +kernel
theorem dX10_findWho_105 : decode cX10_findWho 105 = .ok (.getfield 271, 3) := by decide +kernel
theorem dX10_findWho_108 : decode cX10_findWho 108 = .ok (.aload_n 0, 1) := by decide +kernel
theorem dX10_findWho_109 : decode cX10_findWho 109 = .ok (.getfield 113, 3) := by decide +kernel
theorem dX10_findWho_112 : decode cX10_findWho 112 = .ok (.iload_n 2, 1) := by decide +kernel
theorem dX10_findWho_113 : decode cX10_findWho 113 = .ok (.iaload, 1) := by decide +kernel
theorem dX10_findWho_114 : decode cX10_findWho 114 = .ok (.iastore, 1) := by decide +kernel
theorem dX10_findWho_115 : decode cX10_findWho 115 = .ok (.aload_n 0, 1) := by decide +kernel
theorem dX10_findWho_116 : decode cX10_findWho 116 = .ok (.dup, 1) := by decide +kernel
theorem dX10_findWho_117 : decode cX10_findWho 117 = .ok (.getfield 271, 3) := by decide +kernel
theorem dX10_findWho_120 : decode cX10_findWho 120 = .ok (.iconst 1, 1) := by decide +kernel
theorem dX10_findWho_121 : decode cX10_findWho 121 = .ok (.iadd, 1) := by decide +kernel
theorem dX10_findWho_122 : decode cX10_findWho 122 = .ok (.putfield 271, 3) := by decide +kernel
theorem dX10_findWho_42 : decode cX10_findWho 42 = .ok (.iconst 1, 1) := by decide +kernel
theorem dX10_findWho_43 : decode cX10_findWho 43 = .ok (.goto 4, 3) := by decide +kernel
theorem dX10_findWho_0 : decode cX10_findWho 0 = .ok (.aload_n 0, 1) := by decide +kernel
theorem dX10_findWho_1 : decode cX10_findWho 1 = .ok (.iconst 0, 1) := by decide +kernel
theorem dX10_findWho_2 : decode cX10_findWho 2 = .ok (.putfield 271, 3) := by decide +kernel
theorem dX10_findWho_5 : decode cX10_findWho 5 = .ok (.aload_n 0, 1) := by decide +kernel
theorem dX10_findWho_6 : decode cX10_findWho 6 = .ok (.iload_n 1, 1) := by decide +kernel
theorem dX10_findWho_7 : decode cX10_findWho 7 = .ok (.invokevirtual 274, 3) := by decide +kernel
theorem dX10_findWho_10 : decode cX10_findWho 10 = .ok (.istore_n 2, 1) := by decide +kernel
theorem dX10_findWho_131 : decode cX10_findWho 131 = .ok (.return_, 1) := by decide +kernel
theorem dX10_span_8 : decode cX10_span 8 = .ok (.iload_n 3, 1) := by decide +kernel
theorem dX10_span_9 : decode cX10_span 9 = .ok (.aload_n 0, 1) := by decide +kernel
theorem dX10_span_10 : decode cX10_span 10 = .ok (.iload_n 1, 1) := by decide +kernel
theorem dX10_span_11 : decode cX10_span 11 = .ok (.iconst 1, 1) := by decide +kernel
theorem dX10_span_12 : decode cX10_span 12 = .ok (.iadd, 1) := by decide +kernel
theorem dX10_span_13 : decode cX10_span 13 = .ok (.invokevirtual 274, 3) := by decide +kernel
theorem dX10_span_16 : decode cX10_span 16 = .ok (.if_icmp .ge 60, 3) := by decide +kernel
theorem dX10_span_19 : decode cX10_span 19 = .ok (.aload_n 0, 1) := by decide +kernel
theorem dX10_span_20 : decode cX10_span 20 = .ok (.getfield 17, 3) := by decide +kernel
theorem dX10_span_23 : decode cX10_span 23 = .ok (.aload_n 0, 1) := by decide +kernel
theorem dX10_span_24 : decode cX10_span 24 = .ok (.getfield 113, 3) := by decide +kernel
theorem dX10_span_27 : decode cX10_span 27 = .ok (.iload_n 3, 1) := by decide +kernel
theorem dX10_span_28 : decode cX10_span 28 = .ok (.iaload, 1) := by decide +kernel
theorem dX10_span_29 : decode cX10_span 29 = .ok (.iaload, 1) := by decide +kernel
theorem dX10_span_30 : decode cX10_span 30 = .ok (.istore 4, 2) := by decide +kernel
theorem dX10_span_32 : decode cX10_span 32 = .ok (.iload_n 2, 1) := by decide +kernel
theorem dX10_span_33 : decode cX10_span 33 = .ok (.aload_n 0, 1) := by decide +kernel
theorem dX10_span_34 : decode cX10_span 34 = .ok (.getfield 41, 3) := by decide +kernel
theorem dX10_span_37 : decode cX10_span 37 = .ok (.iload 4, 2) := by decide +kernel
theorem dX10_span_39 : decode cX10_span 39 = .ok (.iaload, 1) := by decide +kernel
theorem dX10_span_40 : decode cX10_span 40 = .ok (.aload_n 0, 1) := by decide +kernel
theorem dX10_span_41 : decode cX10_span 41 = .ok (.getfield 25, 3) := by decide +kernel
theorem dX10_span_44 : decode cX10_span 44 = .ok (.iload 4, 2) := by decide +kernel
theorem dX10_span_46 : decode cX10_span 46 = .ok (.iaload, 1) := by decide +kernel
theorem dX10_span_47 : decode cX10_span 47 = .ok (.iconst 3, 1) := by decide +kernel
theorem dX10_span_48 : decode cX10_span 48 = .ok (.if_icmp .eq 14, 3) := by decide +kernel
theorem dX10_span_62 : decode cX10_span 62 = .ok (.iconst 0, 1) := by decide +kernel
theorem dX10_span_63 : decode cX10_span 63 = .ok (.goto 4, 3) := by decide +kernel
theorem dX10_span_67 : decode cX10_span 67 = .ok (.iadd, 1) := by decide +kernel
theorem dX10_span_68 : decode cX10_span 68 = .ok (.iadd, 1) := by decide +kernel
theorem dX10_span_69 : decode cX10_span 69 = .ok (.istore_n 2, 1) := by decide +kernel
theorem dX10_span_70 : decode cX10_span 70 = .ok (.iinc 3 1, 3) := by decide +kernel
theorem dX10_span_73 : decode cX10_span 73 = .ok (.goto (-65), 3) := by decide +kernel
theorem dX10_span_51 : decode cX10_span 51 = .ok (.aload_n 0, 1) := by decide +kernel
theorem dX10_span_52 : decode cX10_span 52 = .ok (.getfield 25, 3) := by decide +kernel
theorem dX10_span_55 : decode cX10_span 55 = .ok (.iload 4, 2) := by decide +kernel
theorem dX10_span_57 : decode cX10_span 57 = .ok (.iaload, 1) := by decide +kernel
theorem dX10_span_58 : decode cX10_span 58 = .ok (.iconst 4, 1) := by decide +kernel
theorem dX10_span_59 : decode cX10_span 59 = .ok (.if_icmp .ne 7, 3) := by decide +kernel
theorem dX10_span_66 : decode cX10_span 66 = .ok (.iconst 1, 1) := by decide +kernel
theorem dX10_span_0 : decode cX10_span 0 = .ok (.iconst 0, 1) := by decide +kernel
theorem dX10_span_1 : decode cX10_span 1 = .ok (.istore_n 2, 1) := by decide +kernel
theorem dX10_span_2 : decode cX10_span 2 = .ok (.aload_n 0, 1) := by decide +kernel
theorem dX10_span_3 : decode cX10_span 3 = .ok (.iload_n 1, 1) := by decide +kernel
theorem dX10_span_4 : decode cX10_span 4 = .ok (.invokevirtual 274, 3) := by decide +kernel
theorem dX10_span_7 : decode cX10_span 7 = .ok (.istore_n 3, 1) := by decide +kernel
theorem dX10_span_76 : decode cX10_span 76 = .ok (.iload_n 2, 1) := by decide +kernel
theorem dX10_span_77 : decode cX10_span 77 = .ok (.ireturn, 1) := by decide +kernel
theorem dX10_eighths_4 : decode cX10_eighths 4 = .ok (.iload_n 3, 1) := by decide +kernel
theorem dX10_eighths_5 : decode cX10_eighths 5 = .ok (.iload_n 1, 1) := by decide +kernel
theorem dX10_eighths_6 : decode cX10_eighths 6 = .ok (.if_icmp .ge 17, 3) := by decide +kernel
theorem dX10_eighths_9 : decode cX10_eighths 9 = .ok (.iload_n 2, 1) := by decide +kernel
theorem dX10_eighths_10 : decode cX10_eighths 10 = .ok (.aload_n 0, 1) := by decide +kernel
theorem dX10_eighths_11 : decode cX10_eighths 11 = .ok (.iload_n 3, 1) := by decide +kernel
theorem dX10_eighths_12 : decode cX10_eighths 12 = .ok (.invokevirtual 281, 3) := by decide +kernel
theorem dX10_eighths_15 : decode cX10_eighths 15 = .ok (.iadd, 1) := by decide +kernel
theorem dX10_eighths_16 : decode cX10_eighths 16 = .ok (.istore_n 2, 1) := by decide +kernel
theorem dX10_eighths_17 : decode cX10_eighths 17 = .ok (.iinc 3 1, 3) := by decide +kernel
theorem dX10_eighths_20 : decode cX10_eighths 20 = .ok (.goto (-16), 3) := by decide +kernel
theorem dX10_eighths_0 : decode cX10_eighths 0 = .ok (.iconst 0, 1) := by decide +kernel
theorem dX10_eighths_1 : decode cX10_eighths 1 = .ok (.istore_n 2, 1) := by decide +kernel
theorem dX10_eighths_2 : decode cX10_eighths 2 = .ok (.iconst 0, 1) := by decide +kernel
theorem dX10_eighths_3 : decode cX10_eighths 3 = .ok (.istore_n 3, 1) := by decide +kernel
theorem dX10_eighths_23 : decode cX10_eighths 23 = .ok (.bipush 8, 2) := by decide +kernel
theorem dX10_eighths_25 : decode cX10_eighths 25 = .ok (.iload_n 2, 1) := by decide +kernel
theorem dX10_eighths_26 : decode cX10_eighths 26 = .ok (.aload_n 0, 1) := by decide +kernel
theorem dX10_eighths_27 : decode cX10_eighths 27 = .ok (.iload_n 1, 1) := by decide +kernel
theorem dX10_eighths_28 : decode cX10_eighths 28 = .ok (.invokevirtual 281, 3) := by decide +kernel
theorem dX10_eighths_31 : decode cX10_eighths 31 = .ok (.iadd, 1) := by decide +kernel
theorem dX10_eighths_32 : decode cX10_eighths 32 = .ok (.imul, 1) := by decide +kernel
theorem dX10_eighths_33 : decode cX10_eighths 33 = .ok (.aload_n 0, 1) := by decide +kernel
theorem dX10_eighths_34 : decode cX10_eighths 34 = .ok (.getfield 13, 3) := by decide +kernel
theorem dX10_eighths_37 : decode cX10_eighths 37 = .ok (.idiv, 1) := by decide +kernel
theorem dX10_eighths_38 : decode cX10_eighths 38 = .ok (.bipush 8, 2) := by decide +kernel
theorem dX10_eighths_40 : decode cX10_eighths 40 = .ok (.iload_n 2, 1) := by decide +kernel
theorem dX10_eighths_41 : decode cX10_eighths 41 = .ok (.imul, 1) := by decide +kernel
theorem dX10_eighths_42 : decode cX10_eighths 42 = .ok (.aload_n 0, 1) := by decide +kernel
theorem dX10_eighths_43 : decode cX10_eighths 43 = .ok (.getfield 13, 3) := by decide +kernel
theorem dX10_eighths_46 : decode cX10_eighths 46 = .ok (.idiv, 1) := by decide +kernel
theorem dX10_eighths_47 : decode cX10_eighths 47 = .ok (.isub, 1) := by decide +kernel
theorem dX10_eighths_48 : decode cX10_eighths 48 = .ok (.ireturn, 1) := by decide +kernel
theorem dX10_scene_0 : decode cX10_scene 0 = .ok (.iload_n 1, 1) := by decide +kernel
theorem dX10_scene_1 : decode cX10_scene 1 = .ok (.iconst 0, 1) := by decide +kernel
theorem dX10_scene_2 : decode cX10_scene 2 = .ok (.aload_n 0, 1) := by decide +kernel
theorem dX10_scene_3 : decode cX10_scene 3 = .ok (.invokevirtual 284, 3) := by decide +kernel
theorem dX10_scene_6 : decode cX10_scene 6 = .ok (.iconst 1, 1) := by decide +kernel
theorem dX10_scene_7 : decode cX10_scene 7 = .ok (.isub, 1) := by decide +kernel
theorem dX10_scene_8 : decode cX10_scene 8 = .ok (.invokestatic 119, 3) := by decide +kernel
theorem dX10_scene_11 : decode cX10_scene 11 = .ok (.ifCond .eq 12, 3) := by decide +kernel
theorem dX10_scene_23 : decode cX10_scene 23 = .ok (.bipush (-2), 2) := by decide +kernel
theorem dX10_scene_25 : decode cX10_scene 25 = .ok (.ireturn, 1) := by decide +kernel
theorem dX10_scene_14 : decode cX10_scene 14 = .ok (.iload_n 2, 1) := by decide +kernel
theorem dX10_scene_15 : decode cX10_scene 15 = .ok (.iconst 0, 1) := by decide +kernel
theorem dX10_scene_16 : decode cX10_scene 16 = .ok (.iconst 4, 1) := by decide +kernel
theorem dX10_scene_17 : decode cX10_scene 17 = .ok (.invokestatic 119, 3) := by decide +kernel
theorem dX10_scene_20 : decode cX10_scene 20 = .ok (.ifCond .ne 6, 3) := by decide +kernel
theorem dX10_scene_26 : decode cX10_scene 26 = .ok (.aload_n 0, 1) := by decide +kernel
theorem dX10_scene_27 : decode cX10_scene 27 = .ok (.iload_n 1, 1) := by decide +kernel
theorem dX10_scene_28 : decode cX10_scene 28 = .ok (.invokevirtual 287, 3) := by decide +kernel
theorem dX10_scene_31 : decode cX10_scene 31 = .ok (.iload_n 2, 1) := by decide +kernel
theorem dX10_scene_32 : decode cX10_scene 32 = .ok (.ifCond .ne 16, 3) := by decide +kernel
theorem dX10_scene_48 : decode cX10_scene 48 = .ok (.iload_n 2, 1) := by decide +kernel
theorem dX10_scene_49 : decode cX10_scene 49 = .ok (.iconst 1, 1) := by decide +kernel
theorem dX10_scene_50 : decode cX10_scene 50 = .ok (.if_icmp .ne 10, 3) := by decide +kernel
theorem dX10_scene_60 : decode cX10_scene 60 = .ok (.iload_n 2, 1) := by decide +kernel
theorem dX10_scene_61 : decode cX10_scene 61 = .ok (.iconst 2, 1) := by decide +kernel
theorem dX10_scene_62 : decode cX10_scene 62 = .ok (.if_icmp .ne 11, 3) := by decide +kernel
theorem dX10_scene_73 : decode cX10_scene 73 = .ok (.iload_n 2, 1) := by decide +kernel
theorem dX10_scene_74 : decode cX10_scene 74 = .ok (.iconst 3, 1) := by decide +kernel
theorem dX10_scene_75 : decode cX10_scene 75 = .ok (.if_icmp .ne 11, 3) := by decide +kernel
theorem dX10_scene_86 : decode cX10_scene 86 = .ok (.aload_n 0, 1) := by decide +kernel
theorem dX10_scene_87 : decode cX10_scene 87 = .ok (.iload_n 1, 1) := by decide +kernel
theorem dX10_scene_88 : decode cX10_scene 88 = .ok (.iconst 1, 1) := by decide +kernel
theorem dX10_scene_89 : decode cX10_scene 89 = .ok (.iadd, 1) := by decide +kernel
theorem dX10_scene_90 : decode cX10_scene 90 = .ok (.invokevirtual 274, 3) := by decide +kernel
theorem dX10_scene_93 : decode cX10_scene 93 = .ok (.aload_n 0, 1) := by decide +kernel
theorem dX10_scene_94 : decode cX10_scene 94 = .ok (.iload_n 1, 1) := by decide +kernel
theorem dX10_scene_95 : decode cX10_scene 95 = .ok (.invokevirtual 274, 3) := by decide +kernel
theorem dX10_scene_98 : decode cX10_scene 98 = .ok (.isub, 1) := by decide +kernel
theorem dX10_scene_99 : decode cX10_scene 99 = .ok (.ireturn, 1) := by decide +kernel
theorem dX10_scene_78 : decode cX10_scene 78 = .ok (.aload_n 0, 1) := by decide +kernel
theorem dX10_scene_79 : decode cX10_scene 79 = .ok (.iload_n 1, 1) := by decide +kernel
theorem dX10_scene_80 : decode cX10_scene 80 = .ok (.invokevirtual 290, 3) := by decide +kernel
theorem dX10_scene_83 : decode cX10_scene 83 = .ok (.goto 16, 3) := by decide +kernel
theorem dX10_scene_65 : decode cX10_scene 65 = .ok (.aload_n 0, 1) := by decide +kernel
theorem dX10_scene_66 : decode cX10_scene 66 = .ok (.iload_n 1, 1) := by decide +kernel
theorem dX10_scene_67 : decode cX10_scene 67 = .ok (.invokevirtual 281, 3) := by decide +kernel
theorem dX10_scene_70 : decode cX10_scene 70 = .ok (.goto 29, 3) := by decide +kernel
theorem dX10_scene_53 : decode cX10_scene 53 = .ok (.aload_n 0, 1) := by decide +kernel
theorem dX10_scene_54 : decode cX10_scene 54 = .ok (.getfield 271, 3) := by decide +kernel
theorem dX10_scene_57 : decode cX10_scene 57 = .ok (.goto 42, 3) := by decide +kernel
theorem dX10_scene_35 : decode cX10_scene 35 = .ok (.aload_n 0, 1) := by decide +kernel
theorem dX10_scene_36 : decode cX10_scene 36 = .ok (.getfield 113, 3) := by decide +kernel
theorem dX10_scene_39 : decode cX10_scene 39 = .ok (.aload_n 0, 1) := by decide +kernel
theorem dX10_scene_40 : decode cX10_scene 40 = .ok (.iload_n 1, 1) := by decide +kernel
theorem dX10_scene_41 : decode cX10_scene 41 = .ok (.invokevirtual 274, 3) := by decide +kernel
theorem dX10_scene_44 : decode cX10_scene 44 = .ok (.iaload, 1) := by decide +kernel
theorem dX10_scene_45 : decode cX10_scene 45 = .ok (.goto 54, 3) := by decide +kernel
theorem dX10_who_0 : decode cX10_who 0 = .ok (.iload_n 1, 1) := by decide +kernel
theorem dX10_who_1 : decode cX10_who 1 = .ok (.iconst 0, 1) := by decide +kernel
theorem dX10_who_2 : decode cX10_who 2 = .ok (.aload_n 0, 1) := by decide +kernel
theorem dX10_who_3 : decode cX10_who 3 = .ok (.invokevirtual 284, 3) := by decide +kernel
theorem dX10_who_6 : decode cX10_who 6 = .ok (.iconst 1, 1) := by decide +kernel
theorem dX10_who_7 : decode cX10_who 7 = .ok (.isub, 1) := by decide +kernel
theorem dX10_who_8 : decode cX10_who 8 = .ok (.invokestatic 119, 3) := by decide +kernel
theorem dX10_who_11 : decode cX10_who 11 = .ok (.ifCond .ne 6, 3) := by decide +kernel
theorem dX10_who_14 : decode cX10_who 14 = .ok (.bipush (-2), 2) := by decide +kernel
theorem dX10_who_16 : decode cX10_who 16 = .ok (.ireturn, 1) := by decide +kernel
theorem dX10_who_17 : decode cX10_who 17 = .ok (.aload_n 0, 1) := by decide +kernel
theorem dX10_who_18 : decode cX10_who 18 = .ok (.iload_n 1, 1) := by decide +kernel
theorem dX10_who_19 : decode cX10_who 19 = .ok (.invokevirtual 287, 3) := by decide +kernel
theorem dX10_who_22 : decode cX10_who 22 = .ok (.iload_n 2, 1) := by decide +kernel
theorem dX10_who_23 : decode cX10_who 23 = .ok (.iconst 0, 1) := by decide +kernel
theorem dX10_who_24 : decode cX10_who 24 = .ok (.aload_n 0, 1) := by decide +kernel
theorem dX10_who_25 : decode cX10_who 25 = .ok (.getfield 271, 3) := by decide +kernel
theorem dX10_who_28 : decode cX10_who 28 = .ok (.iconst 1, 1) := by decide +kernel
theorem dX10_who_29 : decode cX10_who 29 = .ok (.isub, 1) := by decide +kernel
theorem dX10_who_30 : decode cX10_who 30 = .ok (.invokestatic 119, 3) := by decide +kernel
theorem dX10_who_33 : decode cX10_who 33 = .ok (.ifCond .eq 12, 3) := by decide +kernel
theorem dX10_who_45 : decode cX10_who 45 = .ok (.iconst (-1), 1) := by decide +kernel
theorem dX10_who_46 : decode cX10_who 46 = .ok (.ireturn, 1) := by decide +kernel
theorem dX10_who_36 : decode cX10_who 36 = .ok (.aload_n 0, 1) := by decide +kernel
theorem dX10_who_37 : decode cX10_who 37 = .ok (.getfield 116, 3) := by decide +kernel
theorem dX10_who_40 : decode cX10_who 40 = .ok (.iload_n 2, 1) := by decide +kernel
theorem dX10_who_41 : decode cX10_who 41 = .ok (.iaload, 1) := by decide +kernel
theorem dX10_who_42 : decode cX10_who 42 = .ok (.goto 4, 3) := by decide +kernel
theorem dX10_parts_71 : decode cX10_parts 71 = .ok (.iload 6, 2) := by decide +kernel
theorem dX10_parts_73 : decode cX10_parts 73 = .ok (.aload_n 0, 1) := by decide +kernel
theorem dX10_parts_74 : decode cX10_parts 74 = .ok (.getfield 271, 3) := by decide +kernel
theorem dX10_parts_77 : decode cX10_parts 77 = .ok (.if_icmp .ge 36, 3) := by decide +kernel
theorem dX10_parts_80 : decode cX10_parts 80 = .ok (.iload 5, 2) := by decide +kernel
theorem dX10_parts_82 : decode cX10_parts 82 = .ok (.ifCond .ne 18, 3) := by decide +kernel
theorem dX10_parts_100 : decode cX10_parts 100 = .ok (.iconst 1, 1) := by decide +kernel
theorem dX10_parts_101 : decode cX10_parts 101 = .ok (.goto 4, 3) := by decide +kernel
theorem dX10_parts_105 : decode cX10_parts 105 = .ok (.istore 5, 2) := by decide +kernel
theorem dX10_parts_107 : decode cX10_parts 107 = .ok (.iinc 6 1, 3) := by decide +kernel
theorem dX10_parts_110 : decode cX10_parts 110 = .ok (.goto (-39), 3) := by decide +kernel
theorem dX10_parts_85 : decode cX10_parts 85 = .ok (.aload_n 0, 1) := by decide +kernel
theorem dX10_parts_86 : decode cX10_parts 86 = .ok (.aload_n 0, 1) := by decide +kernel
theorem dX10_parts_87 : decode cX10_parts 87 = .ok (.getfield 116, 3) := by decide +kernel
theorem dX10_parts_90 : decode cX10_parts 90 = .ok (.iload 6, 2) := by decide +kernel
theorem dX10_parts_92 : decode cX10_parts 92 = .ok (.iaload, 1) := by decide +kernel
theorem dX10_parts_93 : decode cX10_parts 93 = .ok (.iload_n 1, 1) := by decide +kernel
theorem dX10_parts_94 : decode cX10_parts 94 = .ok (.invokevirtual 277, 3) := by decide +kernel
theorem dX10_parts_97 : decode cX10_parts 97 = .ok (.ifCond .eq 7, 3) := by decide +kernel
theorem dX10_parts_104 : decode cX10_parts 104 = .ok (.iconst 0, 1) := by decide +kernel
theorem dX10_parts_53 : decode cX10_parts 53 = .ok (.iload 4, 2) := by decide +kernel
theorem dX10_parts_55 : decode cX10_parts 55 = .ok (.iload_n 2, 1) := by decide +kernel
theorem dX10_parts_56 : decode cX10_parts 56 = .ok (.if_icmp .ge 76, 3) := by decide +kernel
theorem dX10_parts_59 : decode cX10_parts 59 = .ok (.aload_n 0, 1) := by decide +kernel
theorem dX10_parts_60 : decode cX10_parts 60 = .ok (.iload 4, 2) := by decide +kernel
theorem dX10_parts_62 : decode cX10_parts 62 = .ok (.invokevirtual 287, 3) := by decide +kernel
theorem dX10_parts_65 : decode cX10_parts 65 = .ok (.iconst 0, 1) := by decide +kernel
theorem dX10_parts_66 : decode cX10_parts 66 = .ok (.istore 5, 2) := by decide +kernel
theorem dX10_parts_68 : decode cX10_parts 68 = .ok (.iconst 0, 1) := by decide +kernel
theorem dX10_parts_69 : decode cX10_parts 69 = .ok (.istore 6, 2) := by decide +kernel
theorem dX10_parts_113 : decode cX10_parts 113 = .ok (.iload_n 3, 1) := by decide +kernel
theorem dX10_parts_114 : decode cX10_parts 114 = .ok (.iload 5, 2) := by decide +kernel
theorem dX10_parts_116 : decode cX10_parts 116 = .ok (.ifCond .eq 7, 3) := by decide +kernel
theorem dX10_parts_123 : decode cX10_parts 123 = .ok (.iconst 0, 1) := by decide +kernel
theorem dX10_parts_124 : decode cX10_parts 124 = .ok (.iadd, 1) := by decide +kernel
theorem dX10_parts_125 : decode cX10_parts 125 = .ok (.istore_n 3, 1) := by decide +kernel
theorem dX10_parts_126 : decode cX10_parts 126 = .ok (.iinc 4 1, 3) := by decide +kernel
theorem dX10_parts_129 : decode cX10_parts 129 = .ok (.goto (-76), 3) := by decide +kernel
theorem dX10_parts_119 : decode cX10_parts 119 = .ok (.iconst 1, 1) := by decide +kernel
theorem dX10_parts_120 : decode cX10_parts 120 = .ok (.goto 4, 3) := by decide +kernel
theorem dX10_parts_0 : decode cX10_parts 0 = .ok (.aload_n 0, 1) := by decide +kernel
theorem dX10_parts_1 : decode cX10_parts 1 = .ok (.iload_n 1, 1) := by decide +kernel
theorem dX10_parts_2 : decode cX10_parts 2 = .ok (.invokevirtual 188, 3) := by decide +kernel
theorem dX10_parts_5 : decode cX10_parts 5 = .ok (.ifCond .ne 6, 3) := by decide +kernel
theorem dX10_parts_11 : decode cX10_parts 11 = .ok (.aload_n 0, 1) := by decide +kernel
theorem dX10_parts_12 : decode cX10_parts 12 = .ok (.getfield 25, 3) := by decide +kernel
theorem dX10_parts_15 : decode cX10_parts 15 = .ok (.aload_n 0, 1) := by decide +kernel
theorem dX10_parts_16 : decode cX10_parts 16 = .ok (.getfield 17, 3) := by decide +kernel
theorem dX10_parts_19 : decode cX10_parts 19 = .ok (.iload_n 1, 1) := by decide +kernel
theorem dX10_parts_20 : decode cX10_parts 20 = .ok (.iaload, 1) := by decide +kernel
theorem dX10_parts_21 : decode cX10_parts 21 = .ok (.iaload, 1) := by decide +kernel
theorem dX10_parts_22 : decode cX10_parts 22 = .ok (.iconst 2, 1) := by decide +kernel
theorem dX10_parts_23 : decode cX10_parts 23 = .ok (.if_icmp .ne 17, 3) := by decide +kernel
theorem dX10_parts_40 : decode cX10_parts 40 = .ok (.bipush (-3), 2) := by decide +kernel
theorem dX10_parts_42 : decode cX10_parts 42 = .ok (.ireturn, 1) := by decide +kernel
theorem dX10_parts_26 : decode cX10_parts 26 = .ok (.aload_n 0, 1) := by decide +kernel
theorem dX10_parts_27 : decode cX10_parts 27 = .ok (.getfield 28, 3) := by decide +kernel
theorem dX10_parts_30 : decode cX10_parts 30 = .ok (.aload_n 0, 1) := by decide +kernel
theorem dX10_parts_31 : decode cX10_parts 31 = .ok (.getfield 17, 3) := by decide +kernel
theorem dX10_parts_34 : decode cX10_parts 34 = .ok (.iload_n 1, 1) := by decide +kernel
theorem dX10_parts_35 : decode cX10_parts 35 = .ok (.iaload, 1) := by decide +kernel
theorem dX10_parts_36 : decode cX10_parts 36 = .ok (.baload, 1) := by decide +kernel
theorem dX10_parts_37 : decode cX10_parts 37 = .ok (.ifCond .eq 6, 3) := by decide +kernel
theorem dX10_parts_43 : decode cX10_parts 43 = .ok (.aload_n 0, 1) := by decide +kernel
theorem dX10_parts_44 : decode cX10_parts 44 = .ok (.invokevirtual 284, 3) := by decide +kernel
theorem dX10_parts_47 : decode cX10_parts 47 = .ok (.istore_n 2, 1) := by decide +kernel
theorem dX10_parts_48 : decode cX10_parts 48 = .ok (.iconst 0, 1) := by decide +kernel
theorem dX10_parts_49 : decode cX10_parts 49 = .ok (.istore_n 3, 1) := by decide +kernel
theorem dX10_parts_50 : decode cX10_parts 50 = .ok (.iconst 0, 1) := by decide +kernel
theorem dX10_parts_51 : decode cX10_parts 51 = .ok (.istore 4, 2) := by decide +kernel
theorem dX10_parts_132 : decode cX10_parts 132 = .ok (.iload_n 3, 1) := by decide +kernel
theorem dX10_parts_133 : decode cX10_parts 133 = .ok (.ireturn, 1) := by decide +kernel
theorem dX10_parts_8 : decode cX10_parts 8 = .ok (.bipush (-2), 2) := by decide +kernel
theorem dX10_parts_10 : decode cX10_parts 10 = .ok (.ireturn, 1) := by decide +kernel
set_option maxHeartbeats 1000000 in
set_option maxRecDepth 100000 in
theorem lwi_ {p : Program} {l : Launch} {e : Env} {R : Room} {s : State} {m : MethodId} {args : Array Value} {below : List Frame} {meth : Method} {c : Code} {cells slots : Nat} {Q : State → Prop} {D : va_G} {A : Nat → Prop} {h0 : Nat} {q : Nat → Nat} {cB cI cZ : ClassId} {I : Nat → Int32} {F : Nat → Nat → Int32} {Es : List E5} {sl : Nat → Nat} {mr : Nat} {Rw : Nat → Nat} {wn i s1 : Nat} (hre : reR F Es sl) (hI44 : I 44 = nI mr) (hm : mr ≤ 60) (hrow : ∀ j, j < mr → F 45 j = nI (Rw j) ∧ Rw j < Es.length) (hI46 : I 46 = nI wn) (hwn : wn ≤ 60) (hwho : whI Es.length wn (F 47)) (hi : i < mr) (hRf : 1 ≤ R.frames) (hRl : 30 ≤ R.locals) (hRc : cells ≤ R.cells) (hRs : slots ≤ R.slots) (hA : ∀ q : Nat, s.heap.size ≤ q → A q) (hf : CallFix p m c cX10_findWho 5 s args gT yX10_findWho.cls) (hK : va_K D vcl (mT cB cI cZ) s) :
    ∀ (k : Nat) (j : Nat) (b : Int32) (H : Heap) (locs : List Loc) (ls : Array Slot), j + k = wn →  va_P D vcl (mW h0 q cB cI cZ I F) H → va_D A (mW h0 q cB cI cZ I F) → va_S A s.heap H locs → lv_has ls 5 [(4, .int (nI j)), (3, .int b), (2, .int (nI i)), (1, .int (nI s1)), (0, .ref h0)] →
    (∀ (b : Int32) (H : Heap) (locs : List Loc) (ls : Array Slot), va_P D vcl (mW h0 q cB cI cZ I F) H → va_D A (mW h0 q cB cI cZ I F) → va_S A s.heap H locs → lv_has ls 5 [(3, .int b), (2, .int (nI i)), (1, .int (nI s1)), (0, .ref h0)] → W p l e R s m args below meth c H locs cells slots Q (F0 m 96 ls [])) →
    W p l e R s m args below meth c H locs cells slots Q (F0 m 51 ls []) := by
  obtain ⟨hx, hb, hml, hown, hts⟩ := id hf
  have hre1 := hre.1
  intro k
  induction k with
  | zero =>
    intro j b H locs ls hik hP hD hS hl kk
    refine lv_iload hx hb dX10_findWho_51 (lv_at hl 0 rfl) ?_
    refine lv_aload_n hx hb dX10_findWho_53 rfl (lv_at hl 4 rfl) ?_
    refine va_get (D := D) (ci := 11) (v := .int (I 46)) (C := RX10) (T := TX10) (N := 48) hx hb hts inX10 hown hK hP 0 rfl rfl 46 (by decide) (hts _ k_1190) (fun _ h9 => h9) rfl dX10_findWho_54 ?_
    refine q_seti (y := (nI wn)) hI46 ?_
    refine lv_icmp_ge (tgt := 96) hx hb dX10_findWho_57 (by decide) (fun c_1 => ?_) (fun c_1 => ?_)
    · have c_1 := q_le (a := wn) (b := j) (by omega) (by omega) c_1
      exact kk b H locs ls hP hD hS (lv_sub hl (l' := [(3, .int b), (2, .int (nI i)), (1, .int (nI s1)), (0, .ref h0)]) [1, 2, 3, 4] rfl)
    · have c_1 := q_nle (a := wn) (b := j) (by omega) (by omega) c_1
      exact absurd hik (by omega)
  | succ k ih =>
    intro j b H locs ls hik hP hD hS hl kk
    refine lv_iload hx hb dX10_findWho_51 (lv_at hl 0 rfl) ?_
    refine lv_aload_n hx hb dX10_findWho_53 rfl (lv_at hl 4 rfl) ?_
    refine va_get (D := D) (ci := 11) (v := .int (I 46)) (C := RX10) (T := TX10) (N := 48) hx hb hts inX10 hown hK hP 0 rfl rfl 46 (by decide) (hts _ k_1190) (fun _ h9 => h9) rfl dX10_findWho_54 ?_
    refine q_seti (y := (nI wn)) hI46 ?_
    refine lv_icmp_ge (tgt := 96) hx hb dX10_findWho_57 (by decide) (fun c_1 => ?_) (fun c_1 => ?_)
    · have c_1 := q_le (a := wn) (b := j) (by omega) (by omega) c_1
      exact kk b H locs ls hP hD hS (lv_sub hl (l' := [(3, .int b), (2, .int (nI i)), (1, .int (nI s1)), (0, .ref h0)]) [1, 2, 3, 4] rfl)
    · have c_1 := q_nle (a := wn) (b := j) (by omega) (by omega) c_1
      refine lv_iload_n hx hb dX10_findWho_60 rfl (lv_at hl 1 rfl) ?_
      refine lv_if_eq (tgt := 96) hx hb dX10_findWho_61 (by decide) (fun c_2 => ?_) (fun c_2 => ?_)
      · exact kk b H locs ls hP hD hS (lv_sub hl (l' := [(3, .int b), (2, .int (nI i)), (1, .int (nI s1)), (0, .ref h0)]) [1, 2, 3, 4] rfl)
      · obtain ⟨e1, he1, hw1⟩ := hwho j (by omega)
        have hrj1 := (hrow i hi).2
        refine lv_aload_n hx hb dX10_findWho_64 rfl (lv_at hl 4 rfl) ?_
        refine lv_aload_n hx hb dX10_findWho_65 rfl (lv_at hl 4 rfl) ?_
        refine va_get (D := D) (ci := 11) (v := .ref (q 47)) (C := RX10) (T := TX10) (N := 48) hx hb hts inX10 hown hK hP 0 rfl rfl 47 (by decide) (hts _ k_1191) (fun _ h9 => h9) rfl dX10_findWho_66 ?_
        refine lv_iload hx hb dX10_findWho_69 (lv_at hl 0 rfl) ?_
        refine q_ild (X := j) (f := (F 47)) hx hb hK hP 34 1 rfl rfl (by omega) (by decide) dX10_findWho_71 ?_
        refine q_seti (y := (nI e1)) hw1 ?_
        refine lv_aload_n hx hb dX10_findWho_72 rfl (lv_at hl 4 rfl) ?_
        refine va_get (D := D) (ci := 11) (v := .ref (q 45)) (C := RX10) (T := TX10) (N := 48) hx hb hts inX10 hown hK hP 0 rfl rfl 45 (by decide) (hts _ k_1189) (fun _ h9 => h9) rfl dX10_findWho_73 ?_
        refine lv_iload_n hx hb dX10_findWho_76 rfl (lv_at hl 2 rfl) ?_
        refine q_ild (X := i) (f := (F 45)) hx hb hK hP 33 1 rfl rfl (by omega) (by decide) dX10_findWho_77 ?_
        refine q_seti (y := (nI ((Rw i)))) (hrow i (by omega)).1 ?_
        refine q_ci (k := cells) (n := slots) hK hP hD hS hA (fun hPc hKc hDc => q_rV (As := [.int (nI e1), .int (nI ((Rw i)))]) (rest := []) hf (r_areLike _ D h0 q cB cI cZ I F Es sl e1 ((Rw i)) hre (by omega) (by omega) _) k_1508 k_1505 k_1507 k_80 k_98 (nA := 2) (by decide +kernel) ⟨Nat.le_trans (by decide) hRf, Nat.le_trans (by decide) hRl⟩ hK hP (ci := 11) (q0 := 0) rfl rfl rfl hPc hKc hDc (fun _ _ _ _ h => h) (fun _ _ _ => trivial) rfl hl.1 rfl (Nat.le_of_ble_eq_true rfl) dX10_findWho_78 ⟨hRc, hRs⟩) (Nat.le_refl _) (Nat.le_refl _) (fun r u H locs hw hK hP hD hS => ?_)
        obtain rfl := hw
        have hP : va_P D vcl (mW h0 q cB cI cZ I F) H := hP
        have hD : va_D A (mW h0 q cB cI cZ I F) := hD
        refine lv_if_ne (tgt := 88) hx hb dX10_findWho_81 (by decide) (fun c_3 => ?_) (fun c_3 => ?_)
        · refine lv_iconst (v := 0) hx hb dX10_findWho_88 (by decide) ?_
          refine lv_istore_n (lv' := [(3, .int 0), (4, .int (nI j)), (2, .int (nI i)), (1, .int (nI s1)), (0, .ref h0)]) hx hb dX10_findWho_89 rfl hl (by decide) rfl (fun ls hl => ?_)
          refine lv_iinc (v := (nI (j + 1))) (lv' := [(4, .int (nI (j + 1))), (3, .int 0), (2, .int (nI i)), (1, .int (nI s1)), (0, .ref h0)]) hx hb dX10_findWho_90 hl (k := 1) rfl (nI_add j 1) (by decide) rfl (fun ls hl => ?_)
          refine lv_goto (tgt := 51) hx hb dX10_findWho_93 (by decide) ?_
          exact ih (j + 1) _ H locs ls (by omega) hP hD hS (lv_sub hl (l' := [(4, .int (nI (j + 1))), (3, .int 0), (2, .int (nI i)), (1, .int (nI s1)), (0, .ref h0)]) [0, 1, 2, 3, 4] rfl) kk
        · refine lv_iconst (v := 1) hx hb dX10_findWho_84 (by decide) ?_
          refine lv_goto (tgt := 89) hx hb dX10_findWho_85 (by decide) ?_
          refine lv_istore_n (lv' := [(3, .int 1), (4, .int (nI j)), (2, .int (nI i)), (1, .int (nI s1)), (0, .ref h0)]) hx hb dX10_findWho_89 rfl hl (by decide) rfl (fun ls hl => ?_)
          refine lv_iinc (v := (nI (j + 1))) (lv' := [(4, .int (nI (j + 1))), (3, .int 1), (2, .int (nI i)), (1, .int (nI s1)), (0, .ref h0)]) hx hb dX10_findWho_90 hl (k := 1) rfl (nI_add j 1) (by decide) rfl (fun ls hl => ?_)
          refine lv_goto (tgt := 51) hx hb dX10_findWho_93 (by decide) ?_
          exact ih (j + 1) _ H locs ls (by omega) hP hD hS (lv_sub hl (l' := [(4, .int (nI (j + 1))), (3, .int 1), (2, .int (nI i)), (1, .int (nI s1)), (0, .ref h0)]) [0, 1, 2, 3, 4] rfl) kk
set_option maxHeartbeats 1000000 in
set_option maxRecDepth 100000 in
theorem lwo_ {p : Program} {l : Launch} {e : Env} {R : Room} {s : State} {m : MethodId} {args : Array Value} {below : List Frame} {meth : Method} {c : Code} {cells slots : Nat} {Q : State → Prop} {D : va_G} {A : Nat → Prop} {h0 : Nat} {q : Nat → Nat} {cB cI cZ : ClassId} {I : Nat → Int32} {F : Nat → Nat → Int32} {Es : List E5} {sl : Nat → Nat} {mr : Nat} {Rw : Nat → Nat} {s1 : Nat} (hs1 : s1 ≤ 99) (hre : reR F Es sl) (hI44 : I 44 = nI mr) (hm : mr ≤ 60) (hrow : ∀ j, j < mr → F 45 j = nI (Rw j) ∧ Rw j < Es.length) (hRf : 2 ≤ R.frames) (hRl : 60 ≤ R.locals) (hRc : cells ≤ R.cells) (hRs : slots ≤ R.slots) (hA : ∀ q : Nat, s.heap.size ≤ q → A q) (hf : CallFix p m c cX10_findWho 5 s args gT yX10_findWho.cls) (hK : va_K D vcl (mT cB cI cZ) s) :
    ∀ (k : Nat) (i : Nat) (wn : Nat) (g47 : Nat → Int32) (H : Heap) (locs : List Loc) (ls : Array Slot), i + k = mr → wn ≤ i → whI Es.length wn g47 →  va_P D vcl (mW h0 q cB cI cZ (upd I 46 (nI wn)) (va_up F 47 g47)) H → va_D A (mW h0 q cB cI cZ (upd I 46 (nI wn)) (va_up F 47 g47)) → va_S A s.heap H locs → lv_has ls 5 [(2, .int (nI i)), (1, .int (nI s1)), (0, .ref h0)] →
    (∀ (wn : Nat) (g47 : Nat → Int32) (H : Heap) (locs : List Loc) (ls : Array Slot), wn ≤ 60 → whI Es.length wn g47 → va_P D vcl (mW h0 q cB cI cZ (upd I 46 (nI wn)) (va_up F 47 g47)) H → va_D A (mW h0 q cB cI cZ (upd I 46 (nI wn)) (va_up F 47 g47)) → va_S A s.heap H locs → lv_has ls 5 [(0, .ref h0)] → W p l e R s m args below meth c H locs cells slots Q (F0 m 131 ls [])) →
    W p l e R s m args below meth c H locs cells slots Q (F0 m 11 ls []) := by
  obtain ⟨hx, hb, hml, hown, hts⟩ := id hf
  have hre1 := hre.1
  intro k
  induction k with
  | zero =>
    intro i wn g47 H locs ls hik hwi hwho hP hD hS hl kk
    refine lv_iload_n hx hb dX10_findWho_11 rfl (lv_at hl 0 rfl) ?_
    refine lv_aload_n hx hb dX10_findWho_12 rfl (lv_at hl 2 rfl) ?_
    refine lv_iload_n hx hb dX10_findWho_13 rfl (lv_at hl 1 rfl) ?_
    refine lv_iconst (v := 1) hx hb dX10_findWho_14 (by decide) ?_
    refine lv_iadd hx hb dX10_findWho_15 ?_
    refine q_seti (y := nI (s1 + 1)) (nI_add s1 1) ?_
    refine q_ci (k := cells) (n := slots) hK hP hD hS hA (fun hPc hKc hDc => q_rV (As := [.int (nI (s1 + 1))]) (rest := [.int (nI i)]) hf (r_sceneFrom _ D h0 q cB cI cZ (upd I 46 (nI wn)) (va_up F 47 g47) Es sl mr Rw (s1 + 1) (by omega) hre hI44 hm hrow _) k_1504 k_1501 k_1503 k_79 k_98 (nA := 1) (by decide +kernel) ⟨Nat.le_trans (by decide) hRf, Nat.le_trans (by decide) hRl⟩ hK hP (ci := 11) (q0 := 0) rfl rfl rfl hPc hKc hDc (fun _ _ _ _ h => h) (fun _ _ _ => trivial) rfl hl.1 rfl (Nat.le_of_ble_eq_true rfl) dX10_findWho_16 ⟨hRc, hRs⟩) (Nat.le_refl _) (Nat.le_refl _) (fun r u H locs hw hK hP hD hS => ?_)
    obtain ⟨z_1, rfl, hz_1a, hz_1b, rfl⟩ := hw
    have hP : va_P D vcl (mW h0 q cB cI cZ (upd I 46 (nI wn)) (va_up F 47 g47)) H := hP
    have hD : va_D A (mW h0 q cB cI cZ (upd I 46 (nI wn)) (va_up F 47 g47)) := hD
    refine lv_icmp_ge (tgt := 131) hx hb dX10_findWho_19 (by decide) (fun c_2 => ?_) (fun c_2 => ?_)
    · have c_2 := q_le (a := z_1) (b := i) (by omega) (by omega) c_2
      exact kk wn g47 H locs ls (by omega) hwho hP hD hS (lv_sub hl (l' := [(0, .ref h0)]) [2] rfl)
    · have c_2 := q_nle (a := z_1) (b := i) (by omega) (by omega) c_2
      exact absurd hik (by omega)
  | succ k ih =>
    intro i wn g47 H locs ls hik hwi hwho hP hD hS hl kk
    refine lv_iload_n hx hb dX10_findWho_11 rfl (lv_at hl 0 rfl) ?_
    refine lv_aload_n hx hb dX10_findWho_12 rfl (lv_at hl 2 rfl) ?_
    refine lv_iload_n hx hb dX10_findWho_13 rfl (lv_at hl 1 rfl) ?_
    refine lv_iconst (v := 1) hx hb dX10_findWho_14 (by decide) ?_
    refine lv_iadd hx hb dX10_findWho_15 ?_
    refine q_seti (y := nI (s1 + 1)) (nI_add s1 1) ?_
    refine q_ci (k := cells) (n := slots) hK hP hD hS hA (fun hPc hKc hDc => q_rV (As := [.int (nI (s1 + 1))]) (rest := [.int (nI i)]) hf (r_sceneFrom _ D h0 q cB cI cZ (upd I 46 (nI wn)) (va_up F 47 g47) Es sl mr Rw (s1 + 1) (by omega) hre hI44 hm hrow _) k_1504 k_1501 k_1503 k_79 k_98 (nA := 1) (by decide +kernel) ⟨Nat.le_trans (by decide) hRf, Nat.le_trans (by decide) hRl⟩ hK hP (ci := 11) (q0 := 0) rfl rfl rfl hPc hKc hDc (fun _ _ _ _ h => h) (fun _ _ _ => trivial) rfl hl.1 rfl (Nat.le_of_ble_eq_true rfl) dX10_findWho_16 ⟨hRc, hRs⟩) (Nat.le_refl _) (Nat.le_refl _) (fun r u H locs hw hK hP hD hS => ?_)
    obtain ⟨z_1, rfl, hz_1a, hz_1b, rfl⟩ := hw
    have hP : va_P D vcl (mW h0 q cB cI cZ (upd I 46 (nI wn)) (va_up F 47 g47)) H := hP
    have hD : va_D A (mW h0 q cB cI cZ (upd I 46 (nI wn)) (va_up F 47 g47)) := hD
    refine lv_icmp_ge (tgt := 131) hx hb dX10_findWho_19 (by decide) (fun c_2 => ?_) (fun c_2 => ?_)
    · have c_2 := q_le (a := z_1) (b := i) (by omega) (by omega) c_2
      exact kk wn g47 H locs ls (by omega) hwho hP hD hS (lv_sub hl (l' := [(0, .ref h0)]) [2] rfl)
    · have c_2 := q_nle (a := z_1) (b := i) (by omega) (by omega) c_2
      have hrj1 := (hrow i (by omega)).2
      have hsj1 := (hre.2.1 _ hrj1).2.1
      have hwj1 := elF_rw (hre.2.1 _ hrj1).2.2
      refine lv_aload_n hx hb dX10_findWho_22 rfl (lv_at hl 2 rfl) ?_
      refine va_get (D := D) (ci := 11) (v := .ref (q 6)) (C := RX10) (T := TX10) (N := 48) hx hb hts inX10 hown hK hP 0 rfl rfl 6 (by decide) (hts _ k_1150) (fun _ h9 => h9) rfl dX10_findWho_23 ?_
      refine lv_aload_n hx hb dX10_findWho_26 rfl (lv_at hl 2 rfl) ?_
      refine va_get (D := D) (ci := 11) (v := .ref (q 4)) (C := RX10) (T := TX10) (N := 48) hx hb hts inX10 hown hK hP 0 rfl rfl 4 (by decide) (hts _ k_1148) (fun _ h9 => h9) rfl dX10_findWho_27 ?_
      refine lv_aload_n hx hb dX10_findWho_30 rfl (lv_at hl 2 rfl) ?_
      refine va_get (D := D) (ci := 11) (v := .ref (q 45)) (C := RX10) (T := TX10) (N := 48) hx hb hts inX10 hown hK hP 0 rfl rfl 45 (by decide) (hts _ k_1189) (fun _ h9 => h9) rfl dX10_findWho_31 ?_
      refine lv_iload_n hx hb dX10_findWho_34 rfl (lv_at hl 0 rfl) ?_
      refine q_ild (X := i) (f := (F 45)) hx hb hK hP 33 1 rfl rfl (by omega) (by decide) dX10_findWho_35 ?_
      refine q_seti (y := (nI ((Rw i)))) (hrow i (by omega)).1 ?_
      refine q_ild (X := (Rw i)) (f := (F 4)) hx hb hK hP 2 1 rfl rfl (by omega) (by decide) dX10_findWho_36 ?_
      refine q_seti (y := (nI ((sl ((Rw i)))))) (hre.2.1 ((Rw i)) (by omega)).1 ?_
      refine q_ild (X := (sl ((Rw i)))) (f := (F 6)) hx hb hK hP 4 1 rfl rfl (by omega) (by decide) dX10_findWho_37 ?_
      refine q_seti (y := (Es.getD ((Rw i)) dE).1) (hre.2.1 ((Rw i)) (by omega)).2.2.2.1 ?_
      refine lv_iconst (v := 2) hx hb dX10_findWho_38 (by decide) ?_
      refine lv_icmp_ne (tgt := 46) hx hb dX10_findWho_39 (by decide) (fun c_3 => ?_) (fun c_3 => ?_)
      · refine lv_iconst (v := 0) hx hb dX10_findWho_46 (by decide) ?_
        refine lv_istore_n (lv' := [(3, .int 0), (2, .int (nI i)), (1, .int (nI s1)), (0, .ref h0)]) hx hb dX10_findWho_47 rfl hl (by decide) rfl (fun ls hl => ?_)
        refine lv_iconst (v := 0) hx hb dX10_findWho_48 (by decide) ?_
        refine lv_istore (lv' := [(4, .int 0), (3, .int 0), (2, .int (nI i)), (1, .int (nI s1)), (0, .ref h0)]) hx hb dX10_findWho_49 hl (by decide) rfl (fun ls hl => ?_)
        refine lwi_ (I := (upd I 46 (nI wn))) (F := (va_up F 47 g47)) (Es := Es) (sl := sl) (mr := mr) (Rw := Rw) (wn := wn) (i := i) (s1 := s1) hre hI44 hm hrow rfl (by omega) hwho (by omega) (Nat.le_trans (by decide) hRf) (Nat.le_trans (by decide) hRl) hRc hRs hA hf hK wn 0 _ _ _ ls (by omega) hP hD hS (lv_sub hl (l' := [(4, .int 0), (3, .int 0), (2, .int (nI i)), (1, .int (nI s1)), (0, .ref h0)]) [0, 1, 2, 3, 4] rfl) (fun b H locs ls hP hD hS hl => ?_)
        refine lv_iload_n hx hb dX10_findWho_96 rfl (lv_at hl 0 rfl) ?_
        refine lv_if_eq (tgt := 125) hx hb dX10_findWho_97 (by decide) (fun c_4 => ?_) (fun c_4 => ?_)
        · refine lv_iinc (v := (nI (i + 1))) (lv' := [(2, .int (nI (i + 1))), (3, .int b), (1, .int (nI s1)), (0, .ref h0)]) hx hb dX10_findWho_125 hl (k := 1) rfl (nI_add i 1) (by decide) rfl (fun ls hl => ?_)
          refine lv_goto (tgt := 11) hx hb dX10_findWho_128 (by decide) ?_
          exact ih (i + 1) wn g47 H locs ls (by omega) (by omega) hwho hP hD hS (lv_sub hl (l' := [(2, .int (nI (i + 1))), (1, .int (nI s1)), (0, .ref h0)]) [0, 2, 3] rfl) kk
        · refine lv_aload_n hx hb dX10_findWho_100 rfl (lv_at hl 3 rfl) ?_
          refine va_get (D := D) (ci := 11) (v := .ref (q 47)) (C := RX10) (T := TX10) (N := 48) hx hb hts inX10 hown hK hP 0 rfl rfl 47 (by decide) (hts _ k_1191) (fun _ h9 => h9) rfl dX10_findWho_101 ?_
          refine lv_aload_n hx hb dX10_findWho_104 rfl (lv_at hl 3 rfl) ?_
          refine va_get (D := D) (ci := 11) (v := .int (nI wn)) (C := RX10) (T := TX10) (N := 48) hx hb hts inX10 hown hK hP 0 rfl rfl 46 (by decide) (hts _ k_1190) (fun _ h9 => h9) rfl dX10_findWho_105 ?_
          refine lv_aload_n hx hb dX10_findWho_108 rfl (lv_at hl 3 rfl) ?_
          refine va_get (D := D) (ci := 11) (v := .ref (q 45)) (C := RX10) (T := TX10) (N := 48) hx hb hts inX10 hown hK hP 0 rfl rfl 45 (by decide) (hts _ k_1189) (fun _ h9 => h9) rfl dX10_findWho_109 ?_
          refine lv_iload_n hx hb dX10_findWho_112 rfl (lv_at hl 1 rfl) ?_
          refine q_ild (X := i) (f := (F 45)) hx hb hK hP 33 1 rfl rfl (by omega) (by decide) dX10_findWho_113 ?_
          refine q_seti (y := (nI ((Rw i)))) (hrow i (by omega)).1 ?_
          refine q_ist (X := wn) (f := g47) (x := (nI ((Rw i)))) hx hb hK hP hD hS 34 1 rfl rfl (by omega) (by decide) dX10_findWho_114 (fun H locs hP hD hS => ?_)
          have hP : va_P D vcl (mW h0 q cB cI cZ (upd I 46 (nI wn)) (va_up F 47 (upd g47 wn (nI ((Rw i)))))) H := hP
          have hD : va_D A (mW h0 q cB cI cZ (upd I 46 (nI wn)) (va_up F 47 (upd g47 wn (nI ((Rw i)))))) := hD
          refine lv_aload_n hx hb dX10_findWho_115 rfl (lv_at hl 3 rfl) ?_
          refine lv_dup hx hb dX10_findWho_116 rfl ?_
          refine va_get (D := D) (ci := 11) (v := .int (nI wn)) (C := RX10) (T := TX10) (N := 48) hx hb hts inX10 hown hK hP 0 rfl rfl 46 (by decide) (hts _ k_1190) (fun _ h9 => h9) rfl dX10_findWho_117 ?_
          refine lv_iconst (v := 1) hx hb dX10_findWho_120 (by decide) ?_
          refine lv_iadd hx hb dX10_findWho_121 ?_
          refine q_seti (y := nI (wn + 1)) (nI_add wn 1) ?_
          refine va_put (D := D) (ci := 11) (v := .int (nI (wn + 1))) (ty := .int) (C := RX10) (T := TX10) (N := 48) hx hb hts inX10 tyX10 tyX10_ok nmX10 hown hK hP hD hS 0 rfl rfl 46 (by decide) (hts _ k_1190) (fun _ h9 => h9) rfl (by decide +kernel) rfl rfl (Nat.le_of_ble_eq_true rfl) dX10_findWho_122 (fun H locs hP hD hS => ?_)
          have hP : va_P D vcl (mW h0 q cB cI cZ (upd I 46 (nI (wn + 1))) (va_up F 47 (upd g47 wn (nI ((Rw i)))))) H := hP
          have hD : va_D A (mW h0 q cB cI cZ (upd I 46 (nI (wn + 1))) (va_up F 47 (upd g47 wn (nI ((Rw i)))))) := hD
          refine lv_iinc (v := (nI (i + 1))) (lv' := [(2, .int (nI (i + 1))), (3, .int b), (1, .int (nI s1)), (0, .ref h0)]) hx hb dX10_findWho_125 hl (k := 1) rfl (nI_add i 1) (by decide) rfl (fun ls hl => ?_)
          refine lv_goto (tgt := 11) hx hb dX10_findWho_128 (by decide) ?_
          exact ih (i + 1) (wn + 1) _ H locs ls (by omega) (by omega) (whI_s hwho (hrow i (by omega)).2) hP hD hS (lv_sub hl (l' := [(2, .int (nI (i + 1))), (1, .int (nI s1)), (0, .ref h0)]) [0, 2, 3] rfl) kk
      · refine lv_iconst (v := 1) hx hb dX10_findWho_42 (by decide) ?_
        refine lv_goto (tgt := 47) hx hb dX10_findWho_43 (by decide) ?_
        refine lv_istore_n (lv' := [(3, .int 1), (2, .int (nI i)), (1, .int (nI s1)), (0, .ref h0)]) hx hb dX10_findWho_47 rfl hl (by decide) rfl (fun ls hl => ?_)
        refine lv_iconst (v := 0) hx hb dX10_findWho_48 (by decide) ?_
        refine lv_istore (lv' := [(4, .int 0), (3, .int 1), (2, .int (nI i)), (1, .int (nI s1)), (0, .ref h0)]) hx hb dX10_findWho_49 hl (by decide) rfl (fun ls hl => ?_)
        refine lwi_ (I := (upd I 46 (nI wn))) (F := (va_up F 47 g47)) (Es := Es) (sl := sl) (mr := mr) (Rw := Rw) (wn := wn) (i := i) (s1 := s1) hre hI44 hm hrow rfl (by omega) hwho (by omega) (Nat.le_trans (by decide) hRf) (Nat.le_trans (by decide) hRl) hRc hRs hA hf hK wn 0 _ _ _ ls (by omega) hP hD hS (lv_sub hl (l' := [(4, .int 0), (3, .int 1), (2, .int (nI i)), (1, .int (nI s1)), (0, .ref h0)]) [0, 1, 2, 3, 4] rfl) (fun b H locs ls hP hD hS hl => ?_)
        refine lv_iload_n hx hb dX10_findWho_96 rfl (lv_at hl 0 rfl) ?_
        refine lv_if_eq (tgt := 125) hx hb dX10_findWho_97 (by decide) (fun c_5 => ?_) (fun c_5 => ?_)
        · refine lv_iinc (v := (nI (i + 1))) (lv' := [(2, .int (nI (i + 1))), (3, .int b), (1, .int (nI s1)), (0, .ref h0)]) hx hb dX10_findWho_125 hl (k := 1) rfl (nI_add i 1) (by decide) rfl (fun ls hl => ?_)
          refine lv_goto (tgt := 11) hx hb dX10_findWho_128 (by decide) ?_
          exact ih (i + 1) wn g47 H locs ls (by omega) (by omega) hwho hP hD hS (lv_sub hl (l' := [(2, .int (nI (i + 1))), (1, .int (nI s1)), (0, .ref h0)]) [0, 2, 3] rfl) kk
        · refine lv_aload_n hx hb dX10_findWho_100 rfl (lv_at hl 3 rfl) ?_
          refine va_get (D := D) (ci := 11) (v := .ref (q 47)) (C := RX10) (T := TX10) (N := 48) hx hb hts inX10 hown hK hP 0 rfl rfl 47 (by decide) (hts _ k_1191) (fun _ h9 => h9) rfl dX10_findWho_101 ?_
          refine lv_aload_n hx hb dX10_findWho_104 rfl (lv_at hl 3 rfl) ?_
          refine va_get (D := D) (ci := 11) (v := .int (nI wn)) (C := RX10) (T := TX10) (N := 48) hx hb hts inX10 hown hK hP 0 rfl rfl 46 (by decide) (hts _ k_1190) (fun _ h9 => h9) rfl dX10_findWho_105 ?_
          refine lv_aload_n hx hb dX10_findWho_108 rfl (lv_at hl 3 rfl) ?_
          refine va_get (D := D) (ci := 11) (v := .ref (q 45)) (C := RX10) (T := TX10) (N := 48) hx hb hts inX10 hown hK hP 0 rfl rfl 45 (by decide) (hts _ k_1189) (fun _ h9 => h9) rfl dX10_findWho_109 ?_
          refine lv_iload_n hx hb dX10_findWho_112 rfl (lv_at hl 1 rfl) ?_
          refine q_ild (X := i) (f := (F 45)) hx hb hK hP 33 1 rfl rfl (by omega) (by decide) dX10_findWho_113 ?_
          refine q_seti (y := (nI ((Rw i)))) (hrow i (by omega)).1 ?_
          refine q_ist (X := wn) (f := g47) (x := (nI ((Rw i)))) hx hb hK hP hD hS 34 1 rfl rfl (by omega) (by decide) dX10_findWho_114 (fun H locs hP hD hS => ?_)
          have hP : va_P D vcl (mW h0 q cB cI cZ (upd I 46 (nI wn)) (va_up F 47 (upd g47 wn (nI ((Rw i)))))) H := hP
          have hD : va_D A (mW h0 q cB cI cZ (upd I 46 (nI wn)) (va_up F 47 (upd g47 wn (nI ((Rw i)))))) := hD
          refine lv_aload_n hx hb dX10_findWho_115 rfl (lv_at hl 3 rfl) ?_
          refine lv_dup hx hb dX10_findWho_116 rfl ?_
          refine va_get (D := D) (ci := 11) (v := .int (nI wn)) (C := RX10) (T := TX10) (N := 48) hx hb hts inX10 hown hK hP 0 rfl rfl 46 (by decide) (hts _ k_1190) (fun _ h9 => h9) rfl dX10_findWho_117 ?_
          refine lv_iconst (v := 1) hx hb dX10_findWho_120 (by decide) ?_
          refine lv_iadd hx hb dX10_findWho_121 ?_
          refine q_seti (y := nI (wn + 1)) (nI_add wn 1) ?_
          refine va_put (D := D) (ci := 11) (v := .int (nI (wn + 1))) (ty := .int) (C := RX10) (T := TX10) (N := 48) hx hb hts inX10 tyX10 tyX10_ok nmX10 hown hK hP hD hS 0 rfl rfl 46 (by decide) (hts _ k_1190) (fun _ h9 => h9) rfl (by decide +kernel) rfl rfl (Nat.le_of_ble_eq_true rfl) dX10_findWho_122 (fun H locs hP hD hS => ?_)
          have hP : va_P D vcl (mW h0 q cB cI cZ (upd I 46 (nI (wn + 1))) (va_up F 47 (upd g47 wn (nI ((Rw i)))))) H := hP
          have hD : va_D A (mW h0 q cB cI cZ (upd I 46 (nI (wn + 1))) (va_up F 47 (upd g47 wn (nI ((Rw i)))))) := hD
          refine lv_iinc (v := (nI (i + 1))) (lv' := [(2, .int (nI (i + 1))), (3, .int b), (1, .int (nI s1)), (0, .ref h0)]) hx hb dX10_findWho_125 hl (k := 1) rfl (nI_add i 1) (by decide) rfl (fun ls hl => ?_)
          refine lv_goto (tgt := 11) hx hb dX10_findWho_128 (by decide) ?_
          exact ih (i + 1) (wn + 1) _ H locs ls (by omega) (by omega) (whI_s hwho (hrow i (by omega)).2) hP hD hS (lv_sub hl (l' := [(2, .int (nI (i + 1))), (1, .int (nI s1)), (0, .ref h0)]) [0, 2, 3] rfl) kk
set_option maxHeartbeats 1000000 in
set_option maxRecDepth 100000 in
theorem r_findWho (l : Launch) (D : va_G) (h0 : Nat) (q : Nat → Nat) (cB cI_ cZ : ClassId) (I : Nat → Int32) (F : Nat → Nat → Int32) (Es : List E5) (sl : Nat → Nat) (mr : Nat) (Rw : Nat → Nat) (s1 : Nat) (hs1 : s1 ≤ 99) (hre : reR F Es sl) (hI44 : I 44 = nI mr) (hm : mr ≤ 60) (hrow : ∀ j, j < mr → F 45 j = nI (Rw j) ∧ Rw j < Es.length) : cV l D yX10_findWho cX10_findWho 5 none 2 60 0 0 [.ref h0, .int (nI s1)] zT (mW h0 q cB cI_ cZ I F) (mT cB cI_ cZ) (fun u => ∃ (wn : Nat) (g47 : Nat → Int32), wn ≤ 60 ∧ whI Es.length wn g47 ∧ u = (mW h0 q cB cI_ cZ (upd I 46 (nI wn)) (va_up F 47 g47), mT cB cI_ cZ)) := by
  refine q_sv (by decide) (Nat.le_of_ble_eq_true rfl) ?_
  intro p e s m below meth c A ls hAe hf hr hlocks hin hK hP hD hS hA hZ hl
  obtain ⟨hx, hb, hml, hown, hts⟩ := id hf
  have hl : lv_has ls 5 [(0, .ref h0), (1, .int (nI s1))] := hl
  refine lv_aload_n hx hb dX10_findWho_0 rfl (lv_at hl 0 rfl) ?_
  refine lv_iconst (v := 0) hx hb dX10_findWho_1 (by decide) ?_
  refine va_put (D := D) (ci := 11) (v := .int 0) (ty := .int) (C := RX10) (T := TX10) (N := 48) hx hb hts inX10 tyX10 tyX10_ok nmX10 hown hK hP hD hS 0 rfl rfl 46 (by decide) (hts _ k_1190) (fun _ h9 => h9) rfl (by decide +kernel) rfl rfl (Nat.le_of_ble_eq_true rfl) dX10_findWho_2 (fun H locs hP hD hS => ?_)
  have hP : va_P D vcl (mW h0 q cB cI_ cZ (upd I 46 0) F) H := hP
  have hD : va_D A (mW h0 q cB cI_ cZ (upd I 46 0) F) := hD
  refine lv_aload_n hx hb dX10_findWho_5 rfl (lv_at hl 0 rfl) ?_
  refine lv_iload_n hx hb dX10_findWho_6 rfl (lv_at hl 1 rfl) ?_
  refine q_ci (k := 0) (n := 0) hK hP hD hS hA (fun hPc hKc hDc => q_rV (As := [.int (nI s1)]) (rest := []) hf (r_sceneFrom _ D h0 q cB cI_ cZ (upd I 46 0) F Es sl mr Rw s1 (by omega) hre hI44 hm hrow _) k_1504 k_1501 k_1503 k_79 k_98 (nA := 1) (by decide +kernel) ⟨Nat.le_of_ble_eq_true rfl, Nat.le_of_ble_eq_true rfl⟩ hK hP (ci := 11) (q0 := 0) rfl rfl rfl hPc hKc hDc (fun _ _ _ _ h => h) (fun _ _ _ => trivial) rfl hl.1 rfl (Nat.le_of_ble_eq_true rfl) dX10_findWho_7 ⟨Nat.le_of_ble_eq_true rfl, Nat.le_of_ble_eq_true rfl⟩) (by decide) (by decide) (fun r u H locs hw hK hP hD hS => ?_)
  obtain ⟨z_1, rfl, hz_1a, hz_1b, rfl⟩ := hw
  have hP : va_P D vcl (mW h0 q cB cI_ cZ (upd I 46 0) F) H := hP
  have hD : va_D A (mW h0 q cB cI_ cZ (upd I 46 0) F) := hD
  refine lv_istore_n (lv' := [(2, .int (nI z_1)), (0, .ref h0), (1, .int (nI s1))]) hx hb dX10_findWho_10 rfl hl (by decide) rfl (fun ls hl => ?_)
  have hz9 : F = va_up F 47 (F 47) := (va_up_id9 F 47).symm
  obtain ⟨hP, hD⟩ := q_set4 hz9 hP hD
  refine lwo_ (I := I) (F := F) (Es := Es) (sl := sl) (mr := mr) (Rw := Rw) (s1 := s1) hs1 hre hI44 hm hrow (Nat.le_of_ble_eq_true rfl) (Nat.le_of_ble_eq_true rfl) (Nat.le_of_ble_eq_true rfl) (Nat.le_of_ble_eq_true rfl) hA hf hK (mr - z_1) z_1 0 (F 47) _ _ ls (by omega) (Nat.zero_le _) (fun j hj => absurd hj (Nat.not_lt_zero j)) hP hD hS (lv_sub hl (l' := [(2, .int (nI z_1)), (1, .int (nI s1)), (0, .ref h0)]) [0, 2, 1] rfl) (fun wn g47 H locs ls a1 a2 hP hD hS hl => ?_)
  have hP : va_P D vcl (mW h0 q cB cI_ cZ (upd I 46 (nI wn)) (va_up F 47 g47)) H := hP
  have hD : va_D A (mW h0 q cB cI_ cZ (upd I 46 (nI wn)) (va_up F 47 g47)) := hD
  exact q_zv hf hr hlocks hK hP hD hS (Nat.le_of_ble_eq_true rfl) (Nat.le_of_ble_eq_true rfl) ⟨wn, g47, a1, a2, rfl⟩ dX10_findWho_131
set_option maxHeartbeats 1000000 in
set_option maxRecDepth 100000 in
theorem lsp_ {p : Program} {l : Launch} {e : Env} {R : Room} {s : State} {m : MethodId} {args : Array Value} {below : List Frame} {meth : Method} {c : Code} {cells slots : Nat} {Q : State → Prop} {D : va_G} {A : Nat → Prop} {h0 : Nat} {q : Nat → Nat} {cB cI cZ : ClassId} {I : Nat → Int32} {F : Nat → Nat → Int32} {Es : List E5} {sl : Nat → Nat} {mr : Nat} {Rw : Nat → Nat} {s1 : Nat} (hs1 : s1 ≤ 99) (hre : reR F Es sl) (hI44 : I 44 = nI mr) (hm : mr ≤ 60) (hrow : ∀ j, j < mr → F 45 j = nI (Rw j) ∧ Rw j < Es.length) (hRf : 2 ≤ R.frames) (hRl : 60 ≤ R.locals) (hRc : cells ≤ R.cells) (hRs : slots ≤ R.slots) (hA : ∀ q : Nat, s.heap.size ≤ q → A q) (hf : CallFix p m c cX10_span 5 s args gT yX10_span.cls) (hK : va_K D vcl (mT cB cI cZ) s) :
    ∀ (k : Nat) (i : Nat) (v : Int32) (H : Heap) (locs : List Loc) (ls : Array Slot), i + k = mr →  va_P D vcl (mW h0 q cB cI cZ I F) H → va_D A (mW h0 q cB cI cZ I F) → va_S A s.heap H locs → lv_has ls 5 [(3, .int (nI i)), (2, .int v), (1, .int (nI s1)), (0, .ref h0)] →
    (∀ (v : Int32) (H : Heap) (locs : List Loc) (ls : Array Slot), va_P D vcl (mW h0 q cB cI cZ I F) H → va_D A (mW h0 q cB cI cZ I F) → va_S A s.heap H locs → lv_has ls 5 [(2, .int v), (0, .ref h0)] → W p l e R s m args below meth c H locs cells slots Q (F0 m 76 ls [])) →
    W p l e R s m args below meth c H locs cells slots Q (F0 m 8 ls []) := by
  obtain ⟨hx, hb, hml, hown, hts⟩ := id hf
  have hre1 := hre.1
  intro k
  induction k with
  | zero =>
    intro i v H locs ls hik hP hD hS hl kk
    refine lv_iload_n hx hb dX10_span_8 rfl (lv_at hl 0 rfl) ?_
    refine lv_aload_n hx hb dX10_span_9 rfl (lv_at hl 3 rfl) ?_
    refine lv_iload_n hx hb dX10_span_10 rfl (lv_at hl 2 rfl) ?_
    refine lv_iconst (v := 1) hx hb dX10_span_11 (by decide) ?_
    refine lv_iadd hx hb dX10_span_12 ?_
    refine q_seti (y := nI (s1 + 1)) (nI_add s1 1) ?_
    refine q_ci (k := cells) (n := slots) hK hP hD hS hA (fun hPc hKc hDc => q_rV (As := [.int (nI (s1 + 1))]) (rest := [.int (nI i)]) hf (r_sceneFrom _ D h0 q cB cI cZ I F Es sl mr Rw (s1 + 1) (by omega) hre hI44 hm hrow _) k_1504 k_1501 k_1503 k_79 k_98 (nA := 1) (by decide +kernel) ⟨Nat.le_trans (by decide) hRf, Nat.le_trans (by decide) hRl⟩ hK hP (ci := 11) (q0 := 0) rfl rfl rfl hPc hKc hDc (fun _ _ _ _ h => h) (fun _ _ _ => trivial) rfl hl.1 rfl (Nat.le_of_ble_eq_true rfl) dX10_span_13 ⟨hRc, hRs⟩) (Nat.le_refl _) (Nat.le_refl _) (fun r u H locs hw hK hP hD hS => ?_)
    obtain ⟨z_1, rfl, hz_1a, hz_1b, rfl⟩ := hw
    have hP : va_P D vcl (mW h0 q cB cI cZ I F) H := hP
    have hD : va_D A (mW h0 q cB cI cZ I F) := hD
    refine lv_icmp_ge (tgt := 76) hx hb dX10_span_16 (by decide) (fun c_2 => ?_) (fun c_2 => ?_)
    · have c_2 := q_le (a := z_1) (b := i) (by omega) (by omega) c_2
      exact kk v H locs ls hP hD hS (lv_sub hl (l' := [(2, .int v), (0, .ref h0)]) [1, 3] rfl)
    · have c_2 := q_nle (a := z_1) (b := i) (by omega) (by omega) c_2
      exact absurd hik (by omega)
  | succ k ih =>
    intro i v H locs ls hik hP hD hS hl kk
    refine lv_iload_n hx hb dX10_span_8 rfl (lv_at hl 0 rfl) ?_
    refine lv_aload_n hx hb dX10_span_9 rfl (lv_at hl 3 rfl) ?_
    refine lv_iload_n hx hb dX10_span_10 rfl (lv_at hl 2 rfl) ?_
    refine lv_iconst (v := 1) hx hb dX10_span_11 (by decide) ?_
    refine lv_iadd hx hb dX10_span_12 ?_
    refine q_seti (y := nI (s1 + 1)) (nI_add s1 1) ?_
    refine q_ci (k := cells) (n := slots) hK hP hD hS hA (fun hPc hKc hDc => q_rV (As := [.int (nI (s1 + 1))]) (rest := [.int (nI i)]) hf (r_sceneFrom _ D h0 q cB cI cZ I F Es sl mr Rw (s1 + 1) (by omega) hre hI44 hm hrow _) k_1504 k_1501 k_1503 k_79 k_98 (nA := 1) (by decide +kernel) ⟨Nat.le_trans (by decide) hRf, Nat.le_trans (by decide) hRl⟩ hK hP (ci := 11) (q0 := 0) rfl rfl rfl hPc hKc hDc (fun _ _ _ _ h => h) (fun _ _ _ => trivial) rfl hl.1 rfl (Nat.le_of_ble_eq_true rfl) dX10_span_13 ⟨hRc, hRs⟩) (Nat.le_refl _) (Nat.le_refl _) (fun r u H locs hw hK hP hD hS => ?_)
    obtain ⟨z_1, rfl, hz_1a, hz_1b, rfl⟩ := hw
    have hP : va_P D vcl (mW h0 q cB cI cZ I F) H := hP
    have hD : va_D A (mW h0 q cB cI cZ I F) := hD
    refine lv_icmp_ge (tgt := 76) hx hb dX10_span_16 (by decide) (fun c_2 => ?_) (fun c_2 => ?_)
    · have c_2 := q_le (a := z_1) (b := i) (by omega) (by omega) c_2
      exact kk v H locs ls hP hD hS (lv_sub hl (l' := [(2, .int v), (0, .ref h0)]) [1, 3] rfl)
    · have c_2 := q_nle (a := z_1) (b := i) (by omega) (by omega) c_2
      have hrj1 := (hrow i (by omega)).2
      have hsj1 := (hre.2.1 _ hrj1).2.1
      have hwj1 := elF_rw (hre.2.1 _ hrj1).2.2
      refine lv_aload_n hx hb dX10_span_19 rfl (lv_at hl 3 rfl) ?_
      refine va_get (D := D) (ci := 11) (v := .ref (q 4)) (C := RX10) (T := TX10) (N := 48) hx hb hts inX10 hown hK hP 0 rfl rfl 4 (by decide) (hts _ k_1148) (fun _ h9 => h9) rfl dX10_span_20 ?_
      refine lv_aload_n hx hb dX10_span_23 rfl (lv_at hl 3 rfl) ?_
      refine va_get (D := D) (ci := 11) (v := .ref (q 45)) (C := RX10) (T := TX10) (N := 48) hx hb hts inX10 hown hK hP 0 rfl rfl 45 (by decide) (hts _ k_1189) (fun _ h9 => h9) rfl dX10_span_24 ?_
      refine lv_iload_n hx hb dX10_span_27 rfl (lv_at hl 0 rfl) ?_
      refine q_ild (X := i) (f := (F 45)) hx hb hK hP 33 1 rfl rfl (by omega) (by decide) dX10_span_28 ?_
      refine q_seti (y := (nI ((Rw i)))) (hrow i (by omega)).1 ?_
      refine q_ild (X := (Rw i)) (f := (F 4)) hx hb hK hP 2 1 rfl rfl (by omega) (by decide) dX10_span_29 ?_
      refine q_seti (y := (nI ((sl ((Rw i)))))) (hre.2.1 ((Rw i)) (by omega)).1 ?_
      refine lv_istore (lv' := [(4, .int (nI ((sl ((Rw i)))))), (3, .int (nI i)), (2, .int v), (1, .int (nI s1)), (0, .ref h0)]) hx hb dX10_span_30 hl (by decide) rfl (fun ls hl => ?_)
      refine lv_iload_n hx hb dX10_span_32 rfl (lv_at hl 2 rfl) ?_
      refine lv_aload_n hx hb dX10_span_33 rfl (lv_at hl 4 rfl) ?_
      refine va_get (D := D) (ci := 11) (v := .ref (q 11)) (C := RX10) (T := TX10) (N := 48) hx hb hts inX10 hown hK hP 0 rfl rfl 11 (by decide) (hts _ k_1155) (fun _ h9 => h9) rfl dX10_span_34 ?_
      refine lv_iload hx hb dX10_span_37 (lv_at hl 0 rfl) ?_
      refine q_ild (X := (sl ((Rw i)))) (f := (F 11)) hx hb hK hP 9 1 rfl rfl (by omega) (by decide) dX10_span_39 ?_
      refine q_seti (y := (nI (eRw (Es.getD ((Rw i)) dE)))) (hre.2.1 ((Rw i)) (by omega)).2.2.2.2.2.2.2.2.2.1 ?_
      refine lv_aload_n hx hb dX10_span_40 rfl (lv_at hl 4 rfl) ?_
      refine va_get (D := D) (ci := 11) (v := .ref (q 6)) (C := RX10) (T := TX10) (N := 48) hx hb hts inX10 hown hK hP 0 rfl rfl 6 (by decide) (hts _ k_1150) (fun _ h9 => h9) rfl dX10_span_41 ?_
      refine lv_iload hx hb dX10_span_44 (lv_at hl 0 rfl) ?_
      refine q_ild (X := (sl ((Rw i)))) (f := (F 6)) hx hb hK hP 4 1 rfl rfl (by omega) (by decide) dX10_span_46 ?_
      refine q_seti (y := (Es.getD ((Rw i)) dE).1) (hre.2.1 ((Rw i)) (by omega)).2.2.2.1 ?_
      refine lv_iconst (v := 3) hx hb dX10_span_47 (by decide) ?_
      refine lv_icmp_eq (tgt := 62) hx hb dX10_span_48 (by decide) (fun c_3 => ?_) (fun c_3 => ?_)
      · refine lv_iconst (v := 0) hx hb dX10_span_62 (by decide) ?_
        refine lv_goto (tgt := 67) hx hb dX10_span_63 (by decide) ?_
        refine lv_iadd hx hb dX10_span_67 ?_
        refine q_seti (y := nI ((eRw (Es.getD ((Rw i)) dE)) + 0)) (nI_add (eRw (Es.getD ((Rw i)) dE)) 0) ?_
        refine lv_iadd hx hb dX10_span_68 ?_
        refine lv_istore_n (lv' := [(2, .int (v + (nI ((eRw (Es.getD ((Rw i)) dE)) + 0)))), (4, .int (nI ((sl ((Rw i)))))), (3, .int (nI i)), (1, .int (nI s1)), (0, .ref h0)]) hx hb dX10_span_69 rfl hl (by decide) rfl (fun ls hl => ?_)
        refine lv_iinc (v := (nI (i + 1))) (lv' := [(3, .int (nI (i + 1))), (2, .int (v + (nI ((eRw (Es.getD ((Rw i)) dE)) + 0)))), (4, .int (nI ((sl ((Rw i)))))), (1, .int (nI s1)), (0, .ref h0)]) hx hb dX10_span_70 hl (k := 2) rfl (nI_add i 1) (by decide) rfl (fun ls hl => ?_)
        refine lv_goto (tgt := 8) hx hb dX10_span_73 (by decide) ?_
        exact ih (i + 1) _ H locs ls (by omega) hP hD hS (lv_sub hl (l' := [(3, .int (nI (i + 1))), (2, .int (v + (nI ((eRw (Es.getD ((Rw i)) dE)) + 0)))), (1, .int (nI s1)), (0, .ref h0)]) [0, 1, 3, 4] rfl) kk
      · refine lv_aload_n hx hb dX10_span_51 rfl (lv_at hl 4 rfl) ?_
        refine va_get (D := D) (ci := 11) (v := .ref (q 6)) (C := RX10) (T := TX10) (N := 48) hx hb hts inX10 hown hK hP 0 rfl rfl 6 (by decide) (hts _ k_1150) (fun _ h9 => h9) rfl dX10_span_52 ?_
        refine lv_iload hx hb dX10_span_55 (lv_at hl 0 rfl) ?_
        refine q_ild (X := (sl ((Rw i)))) (f := (F 6)) hx hb hK hP 4 1 rfl rfl (by omega) (by decide) dX10_span_57 ?_
        refine q_seti (y := (Es.getD ((Rw i)) dE).1) (hre.2.1 ((Rw i)) (by omega)).2.2.2.1 ?_
        refine lv_iconst (v := 4) hx hb dX10_span_58 (by decide) ?_
        refine lv_icmp_ne (tgt := 66) hx hb dX10_span_59 (by decide) (fun c_4 => ?_) (fun c_4 => ?_)
        · refine lv_iconst (v := 1) hx hb dX10_span_66 (by decide) ?_
          refine lv_iadd hx hb dX10_span_67 ?_
          refine q_seti (y := nI ((eRw (Es.getD ((Rw i)) dE)) + 1)) (nI_add (eRw (Es.getD ((Rw i)) dE)) 1) ?_
          refine lv_iadd hx hb dX10_span_68 ?_
          refine lv_istore_n (lv' := [(2, .int (v + (nI ((eRw (Es.getD ((Rw i)) dE)) + 1)))), (4, .int (nI ((sl ((Rw i)))))), (3, .int (nI i)), (1, .int (nI s1)), (0, .ref h0)]) hx hb dX10_span_69 rfl hl (by decide) rfl (fun ls hl => ?_)
          refine lv_iinc (v := (nI (i + 1))) (lv' := [(3, .int (nI (i + 1))), (2, .int (v + (nI ((eRw (Es.getD ((Rw i)) dE)) + 1)))), (4, .int (nI ((sl ((Rw i)))))), (1, .int (nI s1)), (0, .ref h0)]) hx hb dX10_span_70 hl (k := 2) rfl (nI_add i 1) (by decide) rfl (fun ls hl => ?_)
          refine lv_goto (tgt := 8) hx hb dX10_span_73 (by decide) ?_
          exact ih (i + 1) _ H locs ls (by omega) hP hD hS (lv_sub hl (l' := [(3, .int (nI (i + 1))), (2, .int (v + (nI ((eRw (Es.getD ((Rw i)) dE)) + 1)))), (1, .int (nI s1)), (0, .ref h0)]) [0, 1, 3, 4] rfl) kk
        · refine lv_iconst (v := 0) hx hb dX10_span_62 (by decide) ?_
          refine lv_goto (tgt := 67) hx hb dX10_span_63 (by decide) ?_
          refine lv_iadd hx hb dX10_span_67 ?_
          refine q_seti (y := nI ((eRw (Es.getD ((Rw i)) dE)) + 0)) (nI_add (eRw (Es.getD ((Rw i)) dE)) 0) ?_
          refine lv_iadd hx hb dX10_span_68 ?_
          refine lv_istore_n (lv' := [(2, .int (v + (nI ((eRw (Es.getD ((Rw i)) dE)) + 0)))), (4, .int (nI ((sl ((Rw i)))))), (3, .int (nI i)), (1, .int (nI s1)), (0, .ref h0)]) hx hb dX10_span_69 rfl hl (by decide) rfl (fun ls hl => ?_)
          refine lv_iinc (v := (nI (i + 1))) (lv' := [(3, .int (nI (i + 1))), (2, .int (v + (nI ((eRw (Es.getD ((Rw i)) dE)) + 0)))), (4, .int (nI ((sl ((Rw i)))))), (1, .int (nI s1)), (0, .ref h0)]) hx hb dX10_span_70 hl (k := 2) rfl (nI_add i 1) (by decide) rfl (fun ls hl => ?_)
          refine lv_goto (tgt := 8) hx hb dX10_span_73 (by decide) ?_
          exact ih (i + 1) _ H locs ls (by omega) hP hD hS (lv_sub hl (l' := [(3, .int (nI (i + 1))), (2, .int (v + (nI ((eRw (Es.getD ((Rw i)) dE)) + 0)))), (1, .int (nI s1)), (0, .ref h0)]) [0, 1, 3, 4] rfl) kk
set_option maxHeartbeats 1000000 in
set_option maxRecDepth 100000 in
theorem r_span (l : Launch) (D : va_G) (h0 : Nat) (q : Nat → Nat) (cB cI_ cZ : ClassId) (I : Nat → Int32) (F : Nat → Nat → Int32) (Es : List E5) (sl : Nat → Nat) (mr : Nat) (Rw : Nat → Nat) (s1 : Nat) (hs1 : s1 ≤ 99) (hre : reR F Es sl) (hI44 : I 44 = nI mr) (hm : mr ≤ 60) (hrow : ∀ j, j < mr → F 45 j = nI (Rw j) ∧ Rw j < Es.length) : cI l D yX10_span cX10_span 5 (some .int) 2 60 0 0 [.ref h0, .int (nI s1)] zT (mW h0 q cB cI_ cZ I F) (mT cB cI_ cZ) (fun r u => u = (mW h0 q cB cI_ cZ I F, mT cB cI_ cZ)) := by
  refine q_si (by decide) (Nat.le_of_ble_eq_true rfl) ?_
  intro p e s m below meth c A ls hAe hf hr hlocks hin hK hP hD hS hA hZ hl
  obtain ⟨hx, hb, hml, hown, hts⟩ := id hf
  have hl : lv_has ls 5 [(0, .ref h0), (1, .int (nI s1))] := hl
  refine lv_iconst (v := 0) hx hb dX10_span_0 (by decide) ?_
  refine lv_istore_n (lv' := [(2, .int 0), (0, .ref h0), (1, .int (nI s1))]) hx hb dX10_span_1 rfl hl (by decide) rfl (fun ls hl => ?_)
  refine lv_aload_n hx hb dX10_span_2 rfl (lv_at hl 1 rfl) ?_
  refine lv_iload_n hx hb dX10_span_3 rfl (lv_at hl 2 rfl) ?_
  refine q_ci (k := 0) (n := 0) hK hP hD hS hA (fun hPc hKc hDc => q_rV (As := [.int (nI s1)]) (rest := []) hf (r_sceneFrom _ D h0 q cB cI_ cZ I F Es sl mr Rw s1 (by omega) hre hI44 hm hrow _) k_1504 k_1501 k_1503 k_79 k_98 (nA := 1) (by decide +kernel) ⟨Nat.le_of_ble_eq_true rfl, Nat.le_of_ble_eq_true rfl⟩ hK hP (ci := 11) (q0 := 0) rfl rfl rfl hPc hKc hDc (fun _ _ _ _ h => h) (fun _ _ _ => trivial) rfl hl.1 rfl (Nat.le_of_ble_eq_true rfl) dX10_span_4 ⟨Nat.le_of_ble_eq_true rfl, Nat.le_of_ble_eq_true rfl⟩) (by decide) (by decide) (fun r u H locs hw hK hP hD hS => ?_)
  obtain ⟨z_1, rfl, hz_1a, hz_1b, rfl⟩ := hw
  have hP : va_P D vcl (mW h0 q cB cI_ cZ I F) H := hP
  have hD : va_D A (mW h0 q cB cI_ cZ I F) := hD
  refine lv_istore_n (lv' := [(3, .int (nI z_1)), (2, .int 0), (0, .ref h0), (1, .int (nI s1))]) hx hb dX10_span_7 rfl hl (by decide) rfl (fun ls hl => ?_)
  refine lsp_ (Es := Es) (sl := sl) (mr := mr) (Rw := Rw) (s1 := s1) hs1 hre hI44 hm hrow (Nat.le_of_ble_eq_true rfl) (Nat.le_of_ble_eq_true rfl) (Nat.le_of_ble_eq_true rfl) (Nat.le_of_ble_eq_true rfl) hA hf hK (mr - z_1) z_1 _ _ _ ls (by omega) hP hD hS (lv_sub hl (l' := [(3, .int (nI z_1)), (2, .int 0), (1, .int (nI s1)), (0, .ref h0)]) [0, 1, 3, 2] rfl) (fun v H locs ls hP hD hS hl => ?_)
  refine lv_iload_n hx hb dX10_span_76 rfl (lv_at hl 0 rfl) ?_
  exact q_zi hf hr rfl hlocks hK hP hD hS (Nat.le_of_ble_eq_true rfl) (Nat.le_of_ble_eq_true rfl) rfl dX10_span_77
set_option maxHeartbeats 1000000 in
set_option maxRecDepth 100000 in
theorem lei_ {p : Program} {l : Launch} {e : Env} {R : Room} {s : State} {m : MethodId} {args : Array Value} {below : List Frame} {meth : Method} {c : Code} {cells slots : Nat} {Q : State → Prop} {D : va_G} {A : Nat → Prop} {h0 : Nat} {q : Nat → Nat} {cB cI cZ : ClassId} {I : Nat → Int32} {F : Nat → Nat → Int32} {Es : List E5} {sl : Nat → Nat} {mr : Nat} {Rw : Nat → Nat} {s1 : Nat} (hs1 : s1 ≤ 99) (hre : reR F Es sl) (hI44 : I 44 = nI mr) (hm : mr ≤ 60) (hrow : ∀ j, j < mr → F 45 j = nI (Rw j) ∧ Rw j < Es.length) (hRf : 3 ≤ R.frames) (hRl : 90 ≤ R.locals) (hRc : cells ≤ R.cells) (hRs : slots ≤ R.slots) (hA : ∀ q : Nat, s.heap.size ≤ q → A q) (hf : CallFix p m c cX10_eighths 4 s args gT yX10_eighths.cls) (hK : va_K D vcl (mT cB cI cZ) s) :
    ∀ (k : Nat) (i : Nat) (v : Int32) (H : Heap) (locs : List Loc) (ls : Array Slot), i + k = s1 →  va_P D vcl (mW h0 q cB cI cZ I F) H → va_D A (mW h0 q cB cI cZ I F) → va_S A s.heap H locs → lv_has ls 4 [(3, .int (nI i)), (2, .int v), (1, .int (nI s1)), (0, .ref h0)] →
    (∀ (v : Int32) (H : Heap) (locs : List Loc) (ls : Array Slot), va_P D vcl (mW h0 q cB cI cZ I F) H → va_D A (mW h0 q cB cI cZ I F) → va_S A s.heap H locs → lv_has ls 4 [(2, .int v), (1, .int (nI s1)), (0, .ref h0)] → W p l e R s m args below meth c H locs cells slots Q (F0 m 23 ls [])) →
    W p l e R s m args below meth c H locs cells slots Q (F0 m 4 ls []) := by
  obtain ⟨hx, hb, hml, hown, hts⟩ := id hf
  intro k
  induction k with
  | zero =>
    intro i v H locs ls hik hP hD hS hl kk
    refine lv_iload_n hx hb dX10_eighths_4 rfl (lv_at hl 0 rfl) ?_
    refine lv_iload_n hx hb dX10_eighths_5 rfl (lv_at hl 2 rfl) ?_
    refine lv_icmp_ge (tgt := 23) hx hb dX10_eighths_6 (by decide) (fun c_1 => ?_) (fun c_1 => ?_)
    · have c_1 := q_le (a := s1) (b := i) (by omega) (by omega) c_1
      exact kk v H locs ls hP hD hS (lv_sub hl (l' := [(2, .int v), (1, .int (nI s1)), (0, .ref h0)]) [1, 2, 3] rfl)
    · have c_1 := q_nle (a := s1) (b := i) (by omega) (by omega) c_1
      exact absurd hik (by omega)
  | succ k ih =>
    intro i v H locs ls hik hP hD hS hl kk
    refine lv_iload_n hx hb dX10_eighths_4 rfl (lv_at hl 0 rfl) ?_
    refine lv_iload_n hx hb dX10_eighths_5 rfl (lv_at hl 2 rfl) ?_
    refine lv_icmp_ge (tgt := 23) hx hb dX10_eighths_6 (by decide) (fun c_1 => ?_) (fun c_1 => ?_)
    · have c_1 := q_le (a := s1) (b := i) (by omega) (by omega) c_1
      exact absurd hik (by omega)
    · have c_1 := q_nle (a := s1) (b := i) (by omega) (by omega) c_1
      refine lv_iload_n hx hb dX10_eighths_9 rfl (lv_at hl 1 rfl) ?_
      refine lv_aload_n hx hb dX10_eighths_10 rfl (lv_at hl 3 rfl) ?_
      refine lv_iload_n hx hb dX10_eighths_11 rfl (lv_at hl 0 rfl) ?_
      refine q_ci (k := cells) (n := slots) hK hP hD hS hA (fun hPc hKc hDc => q_rV (As := [.int (nI i)]) (rest := [.int v]) hf (r_span _ D h0 q cB cI cZ I F Es sl mr Rw i (by omega) hre hI44 hm hrow _) k_1512 k_1509 k_1511 k_81 k_98 (nA := 1) (by decide +kernel) ⟨Nat.le_trans (by decide) hRf, Nat.le_trans (by decide) hRl⟩ hK hP (ci := 11) (q0 := 0) rfl rfl rfl hPc hKc hDc (fun _ _ _ _ h => h) (fun _ _ _ => trivial) rfl hl.1 rfl (Nat.le_of_ble_eq_true rfl) dX10_eighths_12 ⟨hRc, hRs⟩) (Nat.le_refl _) (Nat.le_refl _) (fun r u H locs hw hK hP hD hS => ?_)
      obtain rfl := hw
      generalize r = v_2
      have hP : va_P D vcl (mW h0 q cB cI cZ I F) H := hP
      have hD : va_D A (mW h0 q cB cI cZ I F) := hD
      refine lv_iadd hx hb dX10_eighths_15 ?_
      refine lv_istore_n (lv' := [(2, .int (v + v_2)), (3, .int (nI i)), (1, .int (nI s1)), (0, .ref h0)]) hx hb dX10_eighths_16 rfl hl (by decide) rfl (fun ls hl => ?_)
      refine lv_iinc (v := (nI (i + 1))) (lv' := [(3, .int (nI (i + 1))), (2, .int (v + v_2)), (1, .int (nI s1)), (0, .ref h0)]) hx hb dX10_eighths_17 hl (k := 1) rfl (nI_add i 1) (by decide) rfl (fun ls hl => ?_)
      refine lv_goto (tgt := 4) hx hb dX10_eighths_20 (by decide) ?_
      exact ih (i + 1) _ H locs ls (by omega) hP hD hS (lv_sub hl (l' := [(3, .int (nI (i + 1))), (2, .int (v + v_2)), (1, .int (nI s1)), (0, .ref h0)]) [0, 1, 2, 3] rfl) kk
set_option maxHeartbeats 1000000 in
set_option maxRecDepth 100000 in
theorem r_eighths (l : Launch) (D : va_G) (h0 : Nat) (q : Nat → Nat) (cB cI_ cZ : ClassId) (I : Nat → Int32) (F : Nat → Nat → Int32) (Es : List E5) (sl : Nat → Nat) (mr : Nat) (Rw : Nat → Nat) (s1 mo : Nat) (hs1 : s1 ≤ 99) (hI2 : I 2 = nI mo) (hmo1 : 10 ≤ mo) (hmo : mo ≤ 40) (hre : reR F Es sl) (hI44 : I 44 = nI mr) (hm : mr ≤ 60) (hrow : ∀ j, j < mr → F 45 j = nI (Rw j) ∧ Rw j < Es.length) : cI l D yX10_eighths cX10_eighths 4 (some .int) 3 90 0 0 [.ref h0, .int (nI s1)] zT (mW h0 q cB cI_ cZ I F) (mT cB cI_ cZ) (fun r u => u = (mW h0 q cB cI_ cZ I F, mT cB cI_ cZ)) := by
  refine q_si (by decide) (Nat.le_of_ble_eq_true rfl) ?_
  intro p e s m below meth c A ls hAe hf hr hlocks hin hK hP hD hS hA hZ hl
  obtain ⟨hx, hb, hml, hown, hts⟩ := id hf
  have hl : lv_has ls 4 [(0, .ref h0), (1, .int (nI s1))] := hl
  have hmoz : ¬ nI mo = 0 := fun z9 => absurd (q_eqn (a := mo) (b := 0) (by omega) (by decide) z9) (by omega)
  refine lv_iconst (v := 0) hx hb dX10_eighths_0 (by decide) ?_
  refine lv_istore_n (lv' := [(2, .int 0), (0, .ref h0), (1, .int (nI s1))]) hx hb dX10_eighths_1 rfl hl (by decide) rfl (fun ls hl => ?_)
  refine lv_iconst (v := 0) hx hb dX10_eighths_2 (by decide) ?_
  refine lv_istore_n (lv' := [(3, .int 0), (2, .int 0), (0, .ref h0), (1, .int (nI s1))]) hx hb dX10_eighths_3 rfl hl (by decide) rfl (fun ls hl => ?_)
  refine lei_ (Es := Es) (sl := sl) (mr := mr) (Rw := Rw) (s1 := s1) hs1 hre hI44 hm hrow (Nat.le_of_ble_eq_true rfl) (Nat.le_of_ble_eq_true rfl) (Nat.le_of_ble_eq_true rfl) (Nat.le_of_ble_eq_true rfl) hA hf hK s1 0 _ _ _ ls (by omega) hP hD hS (lv_sub hl (l' := [(3, .int 0), (2, .int 0), (1, .int (nI s1)), (0, .ref h0)]) [0, 1, 3, 2] rfl) (fun v H locs ls hP hD hS hl => ?_)
  refine lv_bipush (v := 8) hx hb dX10_eighths_23 (by decide) ?_
  refine lv_iload_n hx hb dX10_eighths_25 rfl (lv_at hl 0 rfl) ?_
  refine lv_aload_n hx hb dX10_eighths_26 rfl (lv_at hl 2 rfl) ?_
  refine lv_iload_n hx hb dX10_eighths_27 rfl (lv_at hl 1 rfl) ?_
  refine q_ci (k := 0) (n := 0) hK hP hD hS hA (fun hPc hKc hDc => q_rV (As := [.int (nI s1)]) (rest := [.int v, .int 8]) hf (r_span _ D h0 q cB cI_ cZ I F Es sl mr Rw s1 (by omega) hre hI44 hm hrow _) k_1512 k_1509 k_1511 k_81 k_98 (nA := 1) (by decide +kernel) ⟨Nat.le_of_ble_eq_true rfl, Nat.le_of_ble_eq_true rfl⟩ hK hP (ci := 11) (q0 := 0) rfl rfl rfl hPc hKc hDc (fun _ _ _ _ h => h) (fun _ _ _ => trivial) rfl hl.1 rfl (Nat.le_of_ble_eq_true rfl) dX10_eighths_28 ⟨Nat.le_of_ble_eq_true rfl, Nat.le_of_ble_eq_true rfl⟩) (by decide) (by decide) (fun r u H locs hw hK hP hD hS => ?_)
  obtain rfl := hw
  generalize r = v_1
  have hP : va_P D vcl (mW h0 q cB cI_ cZ I F) H := hP
  have hD : va_D A (mW h0 q cB cI_ cZ I F) := hD
  refine lv_iadd hx hb dX10_eighths_31 ?_
  refine lv_imul hx hb dX10_eighths_32 ?_
  refine lv_aload_n hx hb dX10_eighths_33 rfl (lv_at hl 2 rfl) ?_
  refine va_get (D := D) (ci := 11) (v := .int (I 2)) (C := RX10) (T := TX10) (N := 48) hx hb hts inX10 hown hK hP 0 rfl rfl 2 (by decide) (hts _ k_1146) (fun _ h9 => h9) rfl dX10_eighths_34 ?_
  refine q_seti (y := (nI mo)) hI2 ?_
  refine lv_idiv hx hb dX10_eighths_37 hmoz ?_
  refine lv_bipush (v := 8) hx hb dX10_eighths_38 (by decide) ?_
  refine lv_iload_n hx hb dX10_eighths_40 rfl (lv_at hl 0 rfl) ?_
  refine lv_imul hx hb dX10_eighths_41 ?_
  refine lv_aload_n hx hb dX10_eighths_42 rfl (lv_at hl 2 rfl) ?_
  refine va_get (D := D) (ci := 11) (v := .int (I 2)) (C := RX10) (T := TX10) (N := 48) hx hb hts inX10 hown hK hP 0 rfl rfl 2 (by decide) (hts _ k_1146) (fun _ h9 => h9) rfl dX10_eighths_43 ?_
  refine q_seti (y := (nI mo)) hI2 ?_
  refine lv_idiv hx hb dX10_eighths_46 hmoz ?_
  refine lv_isub hx hb dX10_eighths_47 ?_
  exact q_zi hf hr rfl hlocks hK hP hD hS (Nat.le_of_ble_eq_true rfl) (Nat.le_of_ble_eq_true rfl) rfl dX10_eighths_48
set_option maxHeartbeats 1000000 in
set_option maxRecDepth 100000 in
theorem r_scene (l : Launch) (D : va_G) (h0 : Nat) (q : Nat → Nat) (cB cI_ cZ : ClassId) (I : Nat → Int32) (F : Nat → Nat → Int32) (Es : List E5) (sl : Nat → Nat) (P : List Q4) (mo : Nat) (x1 x2 : Int32) (hre : reR F Es sl) (hI2 : I 2 = nI mo) (hmo1 : 10 ≤ mo) (hmo : mo ≤ 40) (hI14 : I 14 = nI P.length) (hpn : P.length ≤ 7000) (hpcF : pc_is P (F 15) (F 16) (F 17) (F 18)) (hQ : pq_ok Es.length (fun e => Es.getD e dE) P) (hmg : (mgI P P.length).length ≤ 60) : cI l D yX10_scene cX10_scene 3 (some .int) 4 120 0 0 [.ref h0, .int x1, .int x2] zT (mW h0 q cB cI_ cZ I F) (mT cB cI_ cZ) (fun r u => (∃ (I2 : Nat → Int32) (F2 : Nat → Nat → Int32), sm I I2 F F2 ∧ u = (mW h0 q cB cI_ cZ I2 F2, mT cB cI_ cZ))) := by
  refine q_si (by decide) (Nat.le_of_ble_eq_true rfl) ?_
  intro p e s m below meth c A ls hAe hf hr hlocks hin hK hP hD hS hA hZ hl
  obtain ⟨hx, hb, hml, hown, hts⟩ := id hf
  have hl : lv_has ls 3 [(0, .ref h0), (1, .int x1), (2, .int x2)] := hl
  refine lv_iload_n hx hb dX10_scene_0 rfl (lv_at hl 1 rfl) ?_
  refine lv_iconst (v := 0) hx hb dX10_scene_1 (by decide) ?_
  refine lv_aload_n hx hb dX10_scene_2 rfl (lv_at hl 0 rfl) ?_
  refine q_ci (k := 0) (n := 0) hK hP hD hS hA (fun hPc hKc hDc => q_rV (As := []) (rest := [.int 0, .int x1]) hf (r_scenes _ D h0 q cB cI_ cZ I F Es sl P hre hI14 hpn hpcF hQ hmg _) k_1483 k_1496 k_1481 k_1482 k_98 (nA := 0) (by decide +kernel) ⟨Nat.le_of_ble_eq_true rfl, Nat.le_of_ble_eq_true rfl⟩ hK hP (ci := 11) (q0 := 0) rfl rfl rfl hPc hKc hDc (fun _ _ _ _ h => h) (fun _ _ _ => trivial) rfl hl.1 rfl (Nat.le_of_ble_eq_true rfl) dX10_scene_3 ⟨Nat.le_of_ble_eq_true rfl, Nat.le_of_ble_eq_true rfl⟩) (by decide) (by decide) (fun r u H locs hw hK hP hD hS => ?_)
  obtain ⟨g45, hr9, hrwI, rfl⟩ := hw
  obtain ⟨c9, hc9, rfl⟩ : ∃ c9 : Nat, c9 = hdC Es (fun j => (mgI P P.length).getD j 0) (mgI P P.length).length ∧ r = nI c9 := ⟨_, rfl, hr9⟩
  have hc8 := hdC_le Es (fun j => (mgI P P.length).getD j 0) (mgI P P.length).length
  have hrow : ∀ j, j < (mgI P P.length).length → g45 j = nI ((fun j => (mgI P P.length).getD j 0) j) ∧ (fun j => (mgI P P.length).getD j 0) j < Es.length := fun j hj => ⟨hrwI j hj, mgI_in (fun i hi => (hQ i hi).1) _ (Nat.le_refl _) j hj⟩
  have hP : va_P D vcl (mW h0 q cB cI_ cZ (upd I 44 (nI ((mgI P P.length).length))) (va_up F 45 g45)) H := hP
  have hD : va_D A (mW h0 q cB cI_ cZ (upd I 44 (nI ((mgI P P.length).length))) (va_up F 45 g45)) := hD
  refine lv_iconst (v := 1) hx hb dX10_scene_6 (by decide) ?_
  refine lv_isub hx hb dX10_scene_7 ?_
  refine q_ei (k := 0) (n := 0) hP hS hA (q_rS (wc := []) (tc := []) (As := [.int x1, .int 0, .int ((nI c9) - 1)]) (rest := []) hf (m_X10_in_1 _ D x1 0 ((nI c9) - 1) _) k_1296 k_1294 k_1295 k_98 (nA := 3) (by decide +kernel) ⟨Nat.le_of_ble_eq_true rfl, Nat.le_of_ble_eq_true rfl⟩ (fun k q h => by simp at h) (hK.sub (tys' := []) [] rfl) (A := A) ⟨fun i j p q h => by simp at h, fun k q h => by simp at h⟩ (fun _ _ _ _ h => h) (fun _ _ _ => trivial) rfl hl.1 rfl (Nat.le_of_ble_eq_true rfl) dX10_scene_8 ⟨Nat.le_of_ble_eq_true rfl, Nat.le_of_ble_eq_true rfl⟩) (by decide) (by decide) (fun r u H locs hw hP hS => ?_)
  rcases hw with ⟨c_1, rfl, rfl⟩ | ⟨c_2, c_3, rfl, rfl⟩ | ⟨c_4, c_5, rfl, rfl⟩
  · refine lv_if_eq (tgt := 23) hx hb dX10_scene_11 (by decide) (fun _ => ?_) (fun hno => absurd hno (by decide))
    refine lv_bipush (v := (-2)) hx hb dX10_scene_23 (by decide) ?_
    exact q_zi hf hr rfl hlocks hK hP hD hS (Nat.le_of_ble_eq_true rfl) (Nat.le_of_ble_eq_true rfl) ⟨(upd I 44 (nI ((mgI P P.length).length))), (va_up F 45 g45), ⟨⟨rfl, rfl, rfl⟩, ⟨rfl, rfl, rfl⟩, ⟨rfl, rfl, rfl, rfl, rfl, rfl, rfl, rfl, rfl, rfl, rfl⟩, rfl, rfl, rfl, rfl⟩, rfl⟩ dX10_scene_25
  · refine lv_if_eq (tgt := 23) hx hb dX10_scene_11 (by decide) (fun _ => ?_) (fun hno => absurd hno (by decide))
    refine lv_bipush (v := (-2)) hx hb dX10_scene_23 (by decide) ?_
    exact q_zi hf hr rfl hlocks hK hP hD hS (Nat.le_of_ble_eq_true rfl) (Nat.le_of_ble_eq_true rfl) ⟨(upd I 44 (nI ((mgI P P.length).length))), (va_up F 45 g45), ⟨⟨rfl, rfl, rfl⟩, ⟨rfl, rfl, rfl⟩, ⟨rfl, rfl, rfl, rfl, rfl, rfl, rfl, rfl, rfl, rfl, rfl⟩, rfl, rfl, rfl, rfl⟩, rfl⟩ dX10_scene_25
  · refine lv_if_eq (tgt := 23) hx hb dX10_scene_11 (by decide) (fun hno => absurd hno (by decide)) (fun _ => ?_)
    refine lv_iload_n hx hb dX10_scene_14 rfl (lv_at hl 2 rfl) ?_
    refine lv_iconst (v := 0) hx hb dX10_scene_15 (by decide) ?_
    refine lv_iconst (v := 4) hx hb dX10_scene_16 (by decide) ?_
    refine q_ei (k := 0) (n := 0) hP hS hA (q_rS (wc := []) (tc := []) (As := [.int x2, .int 0, .int 4]) (rest := []) hf (m_X10_in_1 _ D x2 0 4 _) k_1296 k_1294 k_1295 k_98 (nA := 3) (by decide +kernel) ⟨Nat.le_of_ble_eq_true rfl, Nat.le_of_ble_eq_true rfl⟩ (fun k q h => by simp at h) (hK.sub (tys' := []) [] rfl) (A := A) ⟨fun i j p q h => by simp at h, fun k q h => by simp at h⟩ (fun _ _ _ _ h => h) (fun _ _ _ => trivial) rfl hl.1 rfl (Nat.le_of_ble_eq_true rfl) dX10_scene_17 ⟨Nat.le_of_ble_eq_true rfl, Nat.le_of_ble_eq_true rfl⟩) (by decide) (by decide) (fun r u H locs hw hP hS => ?_)
    rcases hw with ⟨c_6, rfl, rfl⟩ | ⟨c_7, c_8, rfl, rfl⟩ | ⟨c_9, c_10, rfl, rfl⟩
    · refine lv_if_ne (tgt := 26) hx hb dX10_scene_20 (by decide) (fun hno => absurd hno (by decide)) (fun _ => ?_)
      refine lv_bipush (v := (-2)) hx hb dX10_scene_23 (by decide) ?_
      exact q_zi hf hr rfl hlocks hK hP hD hS (Nat.le_of_ble_eq_true rfl) (Nat.le_of_ble_eq_true rfl) ⟨(upd I 44 (nI ((mgI P P.length).length))), (va_up F 45 g45), ⟨⟨rfl, rfl, rfl⟩, ⟨rfl, rfl, rfl⟩, ⟨rfl, rfl, rfl, rfl, rfl, rfl, rfl, rfl, rfl, rfl, rfl⟩, rfl, rfl, rfl, rfl⟩, rfl⟩ dX10_scene_25
    · refine lv_if_ne (tgt := 26) hx hb dX10_scene_20 (by decide) (fun hno => absurd hno (by decide)) (fun _ => ?_)
      refine lv_bipush (v := (-2)) hx hb dX10_scene_23 (by decide) ?_
      exact q_zi hf hr rfl hlocks hK hP hD hS (Nat.le_of_ble_eq_true rfl) (Nat.le_of_ble_eq_true rfl) ⟨(upd I 44 (nI ((mgI P P.length).length))), (va_up F 45 g45), ⟨⟨rfl, rfl, rfl⟩, ⟨rfl, rfl, rfl⟩, ⟨rfl, rfl, rfl, rfl, rfl, rfl, rfl, rfl, rfl, rfl, rfl⟩, rfl, rfl, rfl, rfl⟩, rfl⟩ dX10_scene_25
    · refine lv_if_ne (tgt := 26) hx hb dX10_scene_20 (by decide) (fun _ => ?_) (fun hno => absurd hno (by decide))
      obtain ⟨s1, hs1, rfl⟩ := ie_1 (by omega) c_4 c_5
      have hl : lv_has ls 3 [(0, .ref h0), (1, .int (nI s1)), (2, .int x2)] := hl
      refine lv_aload_n hx hb dX10_scene_26 rfl (lv_at hl 0 rfl) ?_
      refine lv_iload_n hx hb dX10_scene_27 rfl (lv_at hl 1 rfl) ?_
      refine q_cv (k := 0) (n := 0) hK hP hD hS hA (fun hPc hKc hDc => q_rV (As := [.int (nI s1)]) (rest := []) hf (r_findWho _ D h0 q cB cI_ cZ (upd I 44 (nI ((mgI P P.length).length))) (va_up F 45 g45) Es sl (mgI P P.length).length (fun j => (mgI P P.length).getD j 0) s1 (by omega) hre rfl hmg hrow _) k_1500 k_1497 k_1499 k_78 k_98 (nA := 1) (by decide +kernel) ⟨Nat.le_of_ble_eq_true rfl, Nat.le_of_ble_eq_true rfl⟩ hK hP (ci := 11) (q0 := 0) rfl rfl rfl hPc hKc hDc (fun _ _ _ _ h => h) (fun _ _ _ => trivial) rfl hl.1 rfl (Nat.le_of_ble_eq_true rfl) dX10_scene_28 ⟨Nat.le_of_ble_eq_true rfl, Nat.le_of_ble_eq_true rfl⟩) (by decide) (by decide) (fun u H locs hw hK hP hD hS => ?_)
      obtain ⟨wn, g47, hwn, hwho, rfl⟩ := hw
      have hP : va_P D vcl (mW h0 q cB cI_ cZ (upd (upd I 44 (nI ((mgI P P.length).length))) 46 (nI wn)) (va_up (va_up F 45 g45) 47 g47)) H := hP
      have hD : va_D A (mW h0 q cB cI_ cZ (upd (upd I 44 (nI ((mgI P P.length).length))) 46 (nI wn)) (va_up (va_up F 45 g45) 47 g47)) := hD
      refine lv_iload_n hx hb dX10_scene_31 rfl (lv_at hl 2 rfl) ?_
      refine lv_if_ne (tgt := 48) hx hb dX10_scene_32 (by decide) (fun c_11 => ?_) (fun c_11 => ?_)
      · refine lv_iload_n hx hb dX10_scene_48 rfl (lv_at hl 2 rfl) ?_
        refine lv_iconst (v := 1) hx hb dX10_scene_49 (by decide) ?_
        refine lv_icmp_ne (tgt := 60) hx hb dX10_scene_50 (by decide) (fun c_12 => ?_) (fun c_12 => ?_)
        · refine lv_iload_n hx hb dX10_scene_60 rfl (lv_at hl 2 rfl) ?_
          refine lv_iconst (v := 2) hx hb dX10_scene_61 (by decide) ?_
          refine lv_icmp_ne (tgt := 73) hx hb dX10_scene_62 (by decide) (fun c_13 => ?_) (fun c_13 => ?_)
          · refine lv_iload_n hx hb dX10_scene_73 rfl (lv_at hl 2 rfl) ?_
            refine lv_iconst (v := 3) hx hb dX10_scene_74 (by decide) ?_
            refine lv_icmp_ne (tgt := 86) hx hb dX10_scene_75 (by decide) (fun c_14 => ?_) (fun c_14 => ?_)
            · refine lv_aload_n hx hb dX10_scene_86 rfl (lv_at hl 0 rfl) ?_
              refine lv_iload_n hx hb dX10_scene_87 rfl (lv_at hl 1 rfl) ?_
              refine lv_iconst (v := 1) hx hb dX10_scene_88 (by decide) ?_
              refine lv_iadd hx hb dX10_scene_89 ?_
              refine q_seti (y := nI (s1 + 1)) (nI_add s1 1) ?_
              refine q_ci (k := 0) (n := 0) hK hP hD hS hA (fun hPc hKc hDc => q_rV (As := [.int (nI (s1 + 1))]) (rest := []) hf (r_sceneFrom _ D h0 q cB cI_ cZ (upd (upd I 44 (nI ((mgI P P.length).length))) 46 (nI wn)) (va_up (va_up F 45 g45) 47 g47) Es sl (mgI P P.length).length (fun j => (mgI P P.length).getD j 0) (s1 + 1) (by omega) hre rfl hmg hrow _) k_1504 k_1501 k_1503 k_79 k_98 (nA := 1) (by decide +kernel) ⟨Nat.le_of_ble_eq_true rfl, Nat.le_of_ble_eq_true rfl⟩ hK hP (ci := 11) (q0 := 0) rfl rfl rfl hPc hKc hDc (fun _ _ _ _ h => h) (fun _ _ _ => trivial) rfl hl.1 rfl (Nat.le_of_ble_eq_true rfl) dX10_scene_90 ⟨Nat.le_of_ble_eq_true rfl, Nat.le_of_ble_eq_true rfl⟩) (by decide) (by decide) (fun r u H locs hw hK hP hD hS => ?_)
              obtain ⟨z_15, rfl, hz_15a, hz_15b, rfl⟩ := hw
              have hP : va_P D vcl (mW h0 q cB cI_ cZ (upd (upd I 44 (nI ((mgI P P.length).length))) 46 (nI wn)) (va_up (va_up F 45 g45) 47 g47)) H := hP
              have hD : va_D A (mW h0 q cB cI_ cZ (upd (upd I 44 (nI ((mgI P P.length).length))) 46 (nI wn)) (va_up (va_up F 45 g45) 47 g47)) := hD
              refine lv_aload_n hx hb dX10_scene_93 rfl (lv_at hl 0 rfl) ?_
              refine lv_iload_n hx hb dX10_scene_94 rfl (lv_at hl 1 rfl) ?_
              refine q_ci (k := 0) (n := 0) hK hP hD hS hA (fun hPc hKc hDc => q_rV (As := [.int (nI s1)]) (rest := [.int (nI z_15)]) hf (r_sceneFrom _ D h0 q cB cI_ cZ (upd (upd I 44 (nI ((mgI P P.length).length))) 46 (nI wn)) (va_up (va_up F 45 g45) 47 g47) Es sl (mgI P P.length).length (fun j => (mgI P P.length).getD j 0) s1 (by omega) hre rfl hmg hrow _) k_1504 k_1501 k_1503 k_79 k_98 (nA := 1) (by decide +kernel) ⟨Nat.le_of_ble_eq_true rfl, Nat.le_of_ble_eq_true rfl⟩ hK hP (ci := 11) (q0 := 0) rfl rfl rfl hPc hKc hDc (fun _ _ _ _ h => h) (fun _ _ _ => trivial) rfl hl.1 rfl (Nat.le_of_ble_eq_true rfl) dX10_scene_95 ⟨Nat.le_of_ble_eq_true rfl, Nat.le_of_ble_eq_true rfl⟩) (by decide) (by decide) (fun r u H locs hw hK hP hD hS => ?_)
              obtain ⟨z_16, rfl, hz_16a, hz_16b, rfl⟩ := hw
              have hP : va_P D vcl (mW h0 q cB cI_ cZ (upd (upd I 44 (nI ((mgI P P.length).length))) 46 (nI wn)) (va_up (va_up F 45 g45) 47 g47)) H := hP
              have hD : va_D A (mW h0 q cB cI_ cZ (upd (upd I 44 (nI ((mgI P P.length).length))) 46 (nI wn)) (va_up (va_up F 45 g45) 47 g47)) := hD
              refine lv_isub hx hb dX10_scene_98 ?_
              exact q_zi hf hr rfl hlocks hK hP hD hS (Nat.le_of_ble_eq_true rfl) (Nat.le_of_ble_eq_true rfl) ⟨(upd (upd I 44 (nI ((mgI P P.length).length))) 46 (nI wn)), (va_up (va_up F 45 g45) 47 g47), ⟨⟨rfl, rfl, rfl⟩, ⟨rfl, rfl, rfl⟩, ⟨rfl, rfl, rfl, rfl, rfl, rfl, rfl, rfl, rfl, rfl, rfl⟩, rfl, rfl, rfl, rfl⟩, rfl⟩ dX10_scene_99
            · refine lv_aload_n hx hb dX10_scene_78 rfl (lv_at hl 0 rfl) ?_
              refine lv_iload_n hx hb dX10_scene_79 rfl (lv_at hl 1 rfl) ?_
              refine q_ci (k := 0) (n := 0) hK hP hD hS hA (fun hPc hKc hDc => q_rV (As := [.int (nI s1)]) (rest := []) hf (r_eighths _ D h0 q cB cI_ cZ (upd (upd I 44 (nI ((mgI P P.length).length))) 46 (nI wn)) (va_up (va_up F 45 g45) 47 g47) Es sl (mgI P P.length).length (fun j => (mgI P P.length).getD j 0) s1 mo (by omega) hI2 hmo1 hmo hre rfl hmg hrow _) k_1516 k_1513 k_1515 k_82 k_98 (nA := 1) (by decide +kernel) ⟨Nat.le_of_ble_eq_true rfl, Nat.le_of_ble_eq_true rfl⟩ hK hP (ci := 11) (q0 := 0) rfl rfl rfl hPc hKc hDc (fun _ _ _ _ h => h) (fun _ _ _ => trivial) rfl hl.1 rfl (Nat.le_of_ble_eq_true rfl) dX10_scene_80 ⟨Nat.le_of_ble_eq_true rfl, Nat.le_of_ble_eq_true rfl⟩) (by decide) (by decide) (fun r u H locs hw hK hP hD hS => ?_)
              obtain rfl := hw
              have hP : va_P D vcl (mW h0 q cB cI_ cZ (upd (upd I 44 (nI ((mgI P P.length).length))) 46 (nI wn)) (va_up (va_up F 45 g45) 47 g47)) H := hP
              have hD : va_D A (mW h0 q cB cI_ cZ (upd (upd I 44 (nI ((mgI P P.length).length))) 46 (nI wn)) (va_up (va_up F 45 g45) 47 g47)) := hD
              refine lv_goto (tgt := 99) hx hb dX10_scene_83 (by decide) ?_
              exact q_zi hf hr rfl hlocks hK hP hD hS (Nat.le_of_ble_eq_true rfl) (Nat.le_of_ble_eq_true rfl) ⟨(upd (upd I 44 (nI ((mgI P P.length).length))) 46 (nI wn)), (va_up (va_up F 45 g45) 47 g47), ⟨⟨rfl, rfl, rfl⟩, ⟨rfl, rfl, rfl⟩, ⟨rfl, rfl, rfl, rfl, rfl, rfl, rfl, rfl, rfl, rfl, rfl⟩, rfl, rfl, rfl, rfl⟩, rfl⟩ dX10_scene_99
          · refine lv_aload_n hx hb dX10_scene_65 rfl (lv_at hl 0 rfl) ?_
            refine lv_iload_n hx hb dX10_scene_66 rfl (lv_at hl 1 rfl) ?_
            refine q_ci (k := 0) (n := 0) hK hP hD hS hA (fun hPc hKc hDc => q_rV (As := [.int (nI s1)]) (rest := []) hf (r_span _ D h0 q cB cI_ cZ (upd (upd I 44 (nI ((mgI P P.length).length))) 46 (nI wn)) (va_up (va_up F 45 g45) 47 g47) Es sl (mgI P P.length).length (fun j => (mgI P P.length).getD j 0) s1 (by omega) hre rfl hmg hrow _) k_1512 k_1509 k_1511 k_81 k_98 (nA := 1) (by decide +kernel) ⟨Nat.le_of_ble_eq_true rfl, Nat.le_of_ble_eq_true rfl⟩ hK hP (ci := 11) (q0 := 0) rfl rfl rfl hPc hKc hDc (fun _ _ _ _ h => h) (fun _ _ _ => trivial) rfl hl.1 rfl (Nat.le_of_ble_eq_true rfl) dX10_scene_67 ⟨Nat.le_of_ble_eq_true rfl, Nat.le_of_ble_eq_true rfl⟩) (by decide) (by decide) (fun r u H locs hw hK hP hD hS => ?_)
            obtain rfl := hw
            generalize r = v_17
            have hP : va_P D vcl (mW h0 q cB cI_ cZ (upd (upd I 44 (nI ((mgI P P.length).length))) 46 (nI wn)) (va_up (va_up F 45 g45) 47 g47)) H := hP
            have hD : va_D A (mW h0 q cB cI_ cZ (upd (upd I 44 (nI ((mgI P P.length).length))) 46 (nI wn)) (va_up (va_up F 45 g45) 47 g47)) := hD
            refine lv_goto (tgt := 99) hx hb dX10_scene_70 (by decide) ?_
            exact q_zi hf hr rfl hlocks hK hP hD hS (Nat.le_of_ble_eq_true rfl) (Nat.le_of_ble_eq_true rfl) ⟨(upd (upd I 44 (nI ((mgI P P.length).length))) 46 (nI wn)), (va_up (va_up F 45 g45) 47 g47), ⟨⟨rfl, rfl, rfl⟩, ⟨rfl, rfl, rfl⟩, ⟨rfl, rfl, rfl, rfl, rfl, rfl, rfl, rfl, rfl, rfl, rfl⟩, rfl, rfl, rfl, rfl⟩, rfl⟩ dX10_scene_99
        · refine lv_aload_n hx hb dX10_scene_53 rfl (lv_at hl 0 rfl) ?_
          refine va_get (D := D) (ci := 11) (v := .int (nI wn)) (C := RX10) (T := TX10) (N := 48) hx hb hts inX10 hown hK hP 0 rfl rfl 46 (by decide) (hts _ k_1190) (fun _ h9 => h9) rfl dX10_scene_54 ?_
          refine lv_goto (tgt := 99) hx hb dX10_scene_57 (by decide) ?_
          exact q_zi hf hr rfl hlocks hK hP hD hS (Nat.le_of_ble_eq_true rfl) (Nat.le_of_ble_eq_true rfl) ⟨(upd (upd I 44 (nI ((mgI P P.length).length))) 46 (nI wn)), (va_up (va_up F 45 g45) 47 g47), ⟨⟨rfl, rfl, rfl⟩, ⟨rfl, rfl, rfl⟩, ⟨rfl, rfl, rfl, rfl, rfl, rfl, rfl, rfl, rfl, rfl, rfl⟩, rfl, rfl, rfl, rfl⟩, rfl⟩ dX10_scene_99
      · refine lv_aload_n hx hb dX10_scene_35 rfl (lv_at hl 0 rfl) ?_
        refine va_get (D := D) (ci := 11) (v := .ref (q 45)) (C := RX10) (T := TX10) (N := 48) hx hb hts inX10 hown hK hP 0 rfl rfl 45 (by decide) (hts _ k_1189) (fun _ h9 => h9) rfl dX10_scene_36 ?_
        refine lv_aload_n hx hb dX10_scene_39 rfl (lv_at hl 0 rfl) ?_
        refine lv_iload_n hx hb dX10_scene_40 rfl (lv_at hl 1 rfl) ?_
        refine q_ci (k := 0) (n := 0) hK hP hD hS hA (fun hPc hKc hDc => q_rV (As := [.int (nI s1)]) (rest := [.ref (q 45)]) hf (r_sceneFrom _ D h0 q cB cI_ cZ (upd (upd I 44 (nI ((mgI P P.length).length))) 46 (nI wn)) (va_up (va_up F 45 g45) 47 g47) Es sl (mgI P P.length).length (fun j => (mgI P P.length).getD j 0) s1 (by omega) hre rfl hmg hrow _) k_1504 k_1501 k_1503 k_79 k_98 (nA := 1) (by decide +kernel) ⟨Nat.le_of_ble_eq_true rfl, Nat.le_of_ble_eq_true rfl⟩ hK hP (ci := 11) (q0 := 0) rfl rfl rfl hPc hKc hDc (fun _ _ _ _ h => h) (fun _ _ _ => trivial) rfl hl.1 rfl (Nat.le_of_ble_eq_true rfl) dX10_scene_41 ⟨Nat.le_of_ble_eq_true rfl, Nat.le_of_ble_eq_true rfl⟩) (by decide) (by decide) (fun r u H locs hw hK hP hD hS => ?_)
        obtain ⟨z_18, rfl, hz_18a, hz_18b, rfl⟩ := hw
        have hP : va_P D vcl (mW h0 q cB cI_ cZ (upd (upd I 44 (nI ((mgI P P.length).length))) 46 (nI wn)) (va_up (va_up F 45 g45) 47 g47)) H := hP
        have hD : va_D A (mW h0 q cB cI_ cZ (upd (upd I 44 (nI ((mgI P P.length).length))) 46 (nI wn)) (va_up (va_up F 45 g45) 47 g47)) := hD
        have hzb := hz_18b (by omega)
        refine q_ild (X := z_18) (f := g45) hx hb hK hP 33 1 rfl rfl (by omega) (by decide) dX10_scene_44 ?_
        refine q_seti (y := (g45 z_18)) rfl ?_
        refine lv_goto (tgt := 99) hx hb dX10_scene_45 (by decide) ?_
        exact q_zi hf hr rfl hlocks hK hP hD hS (Nat.le_of_ble_eq_true rfl) (Nat.le_of_ble_eq_true rfl) ⟨(upd (upd I 44 (nI ((mgI P P.length).length))) 46 (nI wn)), (va_up (va_up F 45 g45) 47 g47), ⟨⟨rfl, rfl, rfl⟩, ⟨rfl, rfl, rfl⟩, ⟨rfl, rfl, rfl, rfl, rfl, rfl, rfl, rfl, rfl, rfl, rfl⟩, rfl, rfl, rfl, rfl⟩, rfl⟩ dX10_scene_99
set_option maxHeartbeats 1000000 in
set_option maxRecDepth 100000 in
theorem r_who (l : Launch) (D : va_G) (h0 : Nat) (q : Nat → Nat) (cB cI_ cZ : ClassId) (I : Nat → Int32) (F : Nat → Nat → Int32) (Es : List E5) (sl : Nat → Nat) (P : List Q4) (x1 x2 : Int32) (hre : reR F Es sl) (hI14 : I 14 = nI P.length) (hpn : P.length ≤ 7000) (hpcF : pc_is P (F 15) (F 16) (F 17) (F 18)) (hQ : pq_ok Es.length (fun e => Es.getD e dE) P) (hmg : (mgI P P.length).length ≤ 60) : cI l D yX10_who cX10_who 3 (some .int) 4 120 0 0 [.ref h0, .int x1, .int x2] zT (mW h0 q cB cI_ cZ I F) (mT cB cI_ cZ) (fun r u => (∃ (I2 : Nat → Int32) (F2 : Nat → Nat → Int32), sm I I2 F F2 ∧ u = (mW h0 q cB cI_ cZ I2 F2, mT cB cI_ cZ))) := by
  refine q_si (by decide) (Nat.le_of_ble_eq_true rfl) ?_
  intro p e s m below meth c A ls hAe hf hr hlocks hin hK hP hD hS hA hZ hl
  obtain ⟨hx, hb, hml, hown, hts⟩ := id hf
  have hl : lv_has ls 3 [(0, .ref h0), (1, .int x1), (2, .int x2)] := hl
  refine lv_iload_n hx hb dX10_who_0 rfl (lv_at hl 1 rfl) ?_
  refine lv_iconst (v := 0) hx hb dX10_who_1 (by decide) ?_
  refine lv_aload_n hx hb dX10_who_2 rfl (lv_at hl 0 rfl) ?_
  refine q_ci (k := 0) (n := 0) hK hP hD hS hA (fun hPc hKc hDc => q_rV (As := []) (rest := [.int 0, .int x1]) hf (r_scenes _ D h0 q cB cI_ cZ I F Es sl P hre hI14 hpn hpcF hQ hmg _) k_1483 k_1496 k_1481 k_1482 k_98 (nA := 0) (by decide +kernel) ⟨Nat.le_of_ble_eq_true rfl, Nat.le_of_ble_eq_true rfl⟩ hK hP (ci := 11) (q0 := 0) rfl rfl rfl hPc hKc hDc (fun _ _ _ _ h => h) (fun _ _ _ => trivial) rfl hl.1 rfl (Nat.le_of_ble_eq_true rfl) dX10_who_3 ⟨Nat.le_of_ble_eq_true rfl, Nat.le_of_ble_eq_true rfl⟩) (by decide) (by decide) (fun r u H locs hw hK hP hD hS => ?_)
  obtain ⟨g45, hr9, hrwI, rfl⟩ := hw
  obtain ⟨c9, hc9, rfl⟩ : ∃ c9 : Nat, c9 = hdC Es (fun j => (mgI P P.length).getD j 0) (mgI P P.length).length ∧ r = nI c9 := ⟨_, rfl, hr9⟩
  have hc8 := hdC_le Es (fun j => (mgI P P.length).getD j 0) (mgI P P.length).length
  have hrow : ∀ j, j < (mgI P P.length).length → g45 j = nI ((fun j => (mgI P P.length).getD j 0) j) ∧ (fun j => (mgI P P.length).getD j 0) j < Es.length := fun j hj => ⟨hrwI j hj, mgI_in (fun i hi => (hQ i hi).1) _ (Nat.le_refl _) j hj⟩
  have hP : va_P D vcl (mW h0 q cB cI_ cZ (upd I 44 (nI ((mgI P P.length).length))) (va_up F 45 g45)) H := hP
  have hD : va_D A (mW h0 q cB cI_ cZ (upd I 44 (nI ((mgI P P.length).length))) (va_up F 45 g45)) := hD
  refine lv_iconst (v := 1) hx hb dX10_who_6 (by decide) ?_
  refine lv_isub hx hb dX10_who_7 ?_
  refine q_ei (k := 0) (n := 0) hP hS hA (q_rS (wc := []) (tc := []) (As := [.int x1, .int 0, .int ((nI c9) - 1)]) (rest := []) hf (m_X10_in_1 _ D x1 0 ((nI c9) - 1) _) k_1296 k_1294 k_1295 k_98 (nA := 3) (by decide +kernel) ⟨Nat.le_of_ble_eq_true rfl, Nat.le_of_ble_eq_true rfl⟩ (fun k q h => by simp at h) (hK.sub (tys' := []) [] rfl) (A := A) ⟨fun i j p q h => by simp at h, fun k q h => by simp at h⟩ (fun _ _ _ _ h => h) (fun _ _ _ => trivial) rfl hl.1 rfl (Nat.le_of_ble_eq_true rfl) dX10_who_8 ⟨Nat.le_of_ble_eq_true rfl, Nat.le_of_ble_eq_true rfl⟩) (by decide) (by decide) (fun r u H locs hw hP hS => ?_)
  rcases hw with ⟨c_1, rfl, rfl⟩ | ⟨c_2, c_3, rfl, rfl⟩ | ⟨c_4, c_5, rfl, rfl⟩
  · refine lv_if_ne (tgt := 17) hx hb dX10_who_11 (by decide) (fun hno => absurd hno (by decide)) (fun _ => ?_)
    refine lv_bipush (v := (-2)) hx hb dX10_who_14 (by decide) ?_
    exact q_zi hf hr rfl hlocks hK hP hD hS (Nat.le_of_ble_eq_true rfl) (Nat.le_of_ble_eq_true rfl) ⟨(upd I 44 (nI ((mgI P P.length).length))), (va_up F 45 g45), ⟨⟨rfl, rfl, rfl⟩, ⟨rfl, rfl, rfl⟩, ⟨rfl, rfl, rfl, rfl, rfl, rfl, rfl, rfl, rfl, rfl, rfl⟩, rfl, rfl, rfl, rfl⟩, rfl⟩ dX10_who_16
  · refine lv_if_ne (tgt := 17) hx hb dX10_who_11 (by decide) (fun hno => absurd hno (by decide)) (fun _ => ?_)
    refine lv_bipush (v := (-2)) hx hb dX10_who_14 (by decide) ?_
    exact q_zi hf hr rfl hlocks hK hP hD hS (Nat.le_of_ble_eq_true rfl) (Nat.le_of_ble_eq_true rfl) ⟨(upd I 44 (nI ((mgI P P.length).length))), (va_up F 45 g45), ⟨⟨rfl, rfl, rfl⟩, ⟨rfl, rfl, rfl⟩, ⟨rfl, rfl, rfl, rfl, rfl, rfl, rfl, rfl, rfl, rfl, rfl⟩, rfl, rfl, rfl, rfl⟩, rfl⟩ dX10_who_16
  · refine lv_if_ne (tgt := 17) hx hb dX10_who_11 (by decide) (fun _ => ?_) (fun hno => absurd hno (by decide))
    obtain ⟨s1, hs1, rfl⟩ := ie_1 (by omega) c_4 c_5
    have hl : lv_has ls 3 [(0, .ref h0), (1, .int (nI s1)), (2, .int x2)] := hl
    refine lv_aload_n hx hb dX10_who_17 rfl (lv_at hl 0 rfl) ?_
    refine lv_iload_n hx hb dX10_who_18 rfl (lv_at hl 1 rfl) ?_
    refine q_cv (k := 0) (n := 0) hK hP hD hS hA (fun hPc hKc hDc => q_rV (As := [.int (nI s1)]) (rest := []) hf (r_findWho _ D h0 q cB cI_ cZ (upd I 44 (nI ((mgI P P.length).length))) (va_up F 45 g45) Es sl (mgI P P.length).length (fun j => (mgI P P.length).getD j 0) s1 (by omega) hre rfl hmg hrow _) k_1500 k_1497 k_1499 k_78 k_98 (nA := 1) (by decide +kernel) ⟨Nat.le_of_ble_eq_true rfl, Nat.le_of_ble_eq_true rfl⟩ hK hP (ci := 11) (q0 := 0) rfl rfl rfl hPc hKc hDc (fun _ _ _ _ h => h) (fun _ _ _ => trivial) rfl hl.1 rfl (Nat.le_of_ble_eq_true rfl) dX10_who_19 ⟨Nat.le_of_ble_eq_true rfl, Nat.le_of_ble_eq_true rfl⟩) (by decide) (by decide) (fun u H locs hw hK hP hD hS => ?_)
    obtain ⟨wn, g47, hwn, hwho, rfl⟩ := hw
    have hP : va_P D vcl (mW h0 q cB cI_ cZ (upd (upd I 44 (nI ((mgI P P.length).length))) 46 (nI wn)) (va_up (va_up F 45 g45) 47 g47)) H := hP
    have hD : va_D A (mW h0 q cB cI_ cZ (upd (upd I 44 (nI ((mgI P P.length).length))) 46 (nI wn)) (va_up (va_up F 45 g45) 47 g47)) := hD
    refine lv_iload_n hx hb dX10_who_22 rfl (lv_at hl 2 rfl) ?_
    refine lv_iconst (v := 0) hx hb dX10_who_23 (by decide) ?_
    refine lv_aload_n hx hb dX10_who_24 rfl (lv_at hl 0 rfl) ?_
    refine va_get (D := D) (ci := 11) (v := .int (nI wn)) (C := RX10) (T := TX10) (N := 48) hx hb hts inX10 hown hK hP 0 rfl rfl 46 (by decide) (hts _ k_1190) (fun _ h9 => h9) rfl dX10_who_25 ?_
    refine lv_iconst (v := 1) hx hb dX10_who_28 (by decide) ?_
    refine lv_isub hx hb dX10_who_29 ?_
    refine q_ei (k := 0) (n := 0) hP hS hA (q_rS (wc := []) (tc := []) (As := [.int x2, .int 0, .int ((nI wn) - 1)]) (rest := []) hf (m_X10_in_1 _ D x2 0 ((nI wn) - 1) _) k_1296 k_1294 k_1295 k_98 (nA := 3) (by decide +kernel) ⟨Nat.le_of_ble_eq_true rfl, Nat.le_of_ble_eq_true rfl⟩ (fun k q h => by simp at h) (hK.sub (tys' := []) [] rfl) (A := A) ⟨fun i j p q h => by simp at h, fun k q h => by simp at h⟩ (fun _ _ _ _ h => h) (fun _ _ _ => trivial) rfl hl.1 rfl (Nat.le_of_ble_eq_true rfl) dX10_who_30 ⟨Nat.le_of_ble_eq_true rfl, Nat.le_of_ble_eq_true rfl⟩) (by decide) (by decide) (fun r u H locs hw hP hS => ?_)
    rcases hw with ⟨c_6, rfl, rfl⟩ | ⟨c_7, c_8, rfl, rfl⟩ | ⟨c_9, c_10, rfl, rfl⟩
    · refine lv_if_eq (tgt := 45) hx hb dX10_who_33 (by decide) (fun _ => ?_) (fun hno => absurd hno (by decide))
      refine lv_iconst (v := (-1)) hx hb dX10_who_45 (by decide) ?_
      exact q_zi hf hr rfl hlocks hK hP hD hS (Nat.le_of_ble_eq_true rfl) (Nat.le_of_ble_eq_true rfl) ⟨(upd (upd I 44 (nI ((mgI P P.length).length))) 46 (nI wn)), (va_up (va_up F 45 g45) 47 g47), ⟨⟨rfl, rfl, rfl⟩, ⟨rfl, rfl, rfl⟩, ⟨rfl, rfl, rfl, rfl, rfl, rfl, rfl, rfl, rfl, rfl, rfl⟩, rfl, rfl, rfl, rfl⟩, rfl⟩ dX10_who_46
    · refine lv_if_eq (tgt := 45) hx hb dX10_who_33 (by decide) (fun _ => ?_) (fun hno => absurd hno (by decide))
      refine lv_iconst (v := (-1)) hx hb dX10_who_45 (by decide) ?_
      exact q_zi hf hr rfl hlocks hK hP hD hS (Nat.le_of_ble_eq_true rfl) (Nat.le_of_ble_eq_true rfl) ⟨(upd (upd I 44 (nI ((mgI P P.length).length))) 46 (nI wn)), (va_up (va_up F 45 g45) 47 g47), ⟨⟨rfl, rfl, rfl⟩, ⟨rfl, rfl, rfl⟩, ⟨rfl, rfl, rfl, rfl, rfl, rfl, rfl, rfl, rfl, rfl, rfl⟩, rfl, rfl, rfl, rfl⟩, rfl⟩ dX10_who_46
    · refine lv_if_eq (tgt := 45) hx hb dX10_who_33 (by decide) (fun hno => absurd hno (by decide)) (fun _ => ?_)
      obtain ⟨i1, hi1, rfl⟩ := ie_1 (by omega) c_9 c_10
      have hl : lv_has ls 3 [(0, .ref h0), (1, .int (nI s1)), (2, .int (nI i1))] := hl
      refine lv_aload_n hx hb dX10_who_36 rfl (lv_at hl 0 rfl) ?_
      refine va_get (D := D) (ci := 11) (v := .ref (q 47)) (C := RX10) (T := TX10) (N := 48) hx hb hts inX10 hown hK hP 0 rfl rfl 47 (by decide) (hts _ k_1191) (fun _ h9 => h9) rfl dX10_who_37 ?_
      refine lv_iload_n hx hb dX10_who_40 rfl (lv_at hl 2 rfl) ?_
      refine q_ild (X := i1) (f := g47) hx hb hK hP 34 1 rfl rfl (by omega) (by decide) dX10_who_41 ?_
      refine q_seti (y := (g47 i1)) rfl ?_
      refine lv_goto (tgt := 46) hx hb dX10_who_42 (by decide) ?_
      exact q_zi hf hr rfl hlocks hK hP hD hS (Nat.le_of_ble_eq_true rfl) (Nat.le_of_ble_eq_true rfl) ⟨(upd (upd I 44 (nI ((mgI P P.length).length))) 46 (nI wn)), (va_up (va_up F 45 g45) 47 g47), ⟨⟨rfl, rfl, rfl⟩, ⟨rfl, rfl, rfl⟩, ⟨rfl, rfl, rfl, rfl, rfl, rfl, rfl, rfl, rfl, rfl, rfl⟩, rfl, rfl, rfl, rfl⟩, rfl⟩ dX10_who_46
set_option maxHeartbeats 1000000 in
set_option maxRecDepth 100000 in
theorem lpi_ {p : Program} {l : Launch} {e : Env} {R : Room} {s : State} {m : MethodId} {args : Array Value} {below : List Frame} {meth : Method} {c : Code} {cells slots : Nat} {Q : State → Prop} {D : va_G} {A : Nat → Prop} {h0 : Nat} {q : Nat → Nat} {cB cI cZ : ClassId} {I : Nat → Int32} {F : Nat → Nat → Int32} {Es : List E5} {sl : Nat → Nat} {wn i e2 c9 : Nat} {v : Int32} (hre : reR F Es sl) (hI46 : I 46 = nI wn) (hwn : wn ≤ 60) (hwho : whI Es.length wn (F 47)) (he2 : e2 < Es.length) (hRf : 1 ≤ R.frames) (hRl : 30 ≤ R.locals) (hRc : cells ≤ R.cells) (hRs : slots ≤ R.slots) (hA : ∀ q : Nat, s.heap.size ≤ q → A q) (hf : CallFix p m c cX10_parts 7 s args gT yX10_parts.cls) (hK : va_K D vcl (mT cB cI cZ) s) :
    ∀ (k : Nat) (j : Nat) (b : Int32) (H : Heap) (locs : List Loc) (ls : Array Slot), j + k = wn →  va_P D vcl (mW h0 q cB cI cZ I F) H → va_D A (mW h0 q cB cI cZ I F) → va_S A s.heap H locs → lv_has ls 7 [(6, .int (nI j)), (5, .int b), (4, .int (nI i)), (3, .int v), (2, .int (nI c9)), (1, .int (nI e2)), (0, .ref h0)] →
    (∀ (b : Int32) (H : Heap) (locs : List Loc) (ls : Array Slot), va_P D vcl (mW h0 q cB cI cZ I F) H → va_D A (mW h0 q cB cI cZ I F) → va_S A s.heap H locs → lv_has ls 7 [(5, .int b), (4, .int (nI i)), (3, .int v), (2, .int (nI c9)), (1, .int (nI e2)), (0, .ref h0)] → W p l e R s m args below meth c H locs cells slots Q (F0 m 113 ls [])) →
    W p l e R s m args below meth c H locs cells slots Q (F0 m 71 ls []) := by
  obtain ⟨hx, hb, hml, hown, hts⟩ := id hf
  have hre1 := hre.1
  intro k
  induction k with
  | zero =>
    intro j b H locs ls hik hP hD hS hl kk
    refine lv_iload hx hb dX10_parts_71 (lv_at hl 0 rfl) ?_
    refine lv_aload_n hx hb dX10_parts_73 rfl (lv_at hl 6 rfl) ?_
    refine va_get (D := D) (ci := 11) (v := .int (I 46)) (C := RX10) (T := TX10) (N := 48) hx hb hts inX10 hown hK hP 0 rfl rfl 46 (by decide) (hts _ k_1190) (fun _ h9 => h9) rfl dX10_parts_74 ?_
    refine q_seti (y := (nI wn)) hI46 ?_
    refine lv_icmp_ge (tgt := 113) hx hb dX10_parts_77 (by decide) (fun c_1 => ?_) (fun c_1 => ?_)
    · have c_1 := q_le (a := wn) (b := j) (by omega) (by omega) c_1
      exact kk b H locs ls hP hD hS (lv_sub hl (l' := [(5, .int b), (4, .int (nI i)), (3, .int v), (2, .int (nI c9)), (1, .int (nI e2)), (0, .ref h0)]) [1, 2, 3, 4, 5, 6] rfl)
    · have c_1 := q_nle (a := wn) (b := j) (by omega) (by omega) c_1
      exact absurd hik (by omega)
  | succ k ih =>
    intro j b H locs ls hik hP hD hS hl kk
    refine lv_iload hx hb dX10_parts_71 (lv_at hl 0 rfl) ?_
    refine lv_aload_n hx hb dX10_parts_73 rfl (lv_at hl 6 rfl) ?_
    refine va_get (D := D) (ci := 11) (v := .int (I 46)) (C := RX10) (T := TX10) (N := 48) hx hb hts inX10 hown hK hP 0 rfl rfl 46 (by decide) (hts _ k_1190) (fun _ h9 => h9) rfl dX10_parts_74 ?_
    refine q_seti (y := (nI wn)) hI46 ?_
    refine lv_icmp_ge (tgt := 113) hx hb dX10_parts_77 (by decide) (fun c_1 => ?_) (fun c_1 => ?_)
    · have c_1 := q_le (a := wn) (b := j) (by omega) (by omega) c_1
      exact absurd hik (by omega)
    · have c_1 := q_nle (a := wn) (b := j) (by omega) (by omega) c_1
      refine lv_iload hx hb dX10_parts_80 (lv_at hl 1 rfl) ?_
      refine lv_if_ne (tgt := 100) hx hb dX10_parts_82 (by decide) (fun c_2 => ?_) (fun c_2 => ?_)
      · refine lv_iconst (v := 1) hx hb dX10_parts_100 (by decide) ?_
        refine lv_goto (tgt := 105) hx hb dX10_parts_101 (by decide) ?_
        refine lv_istore (lv' := [(5, .int 1), (6, .int (nI j)), (4, .int (nI i)), (3, .int v), (2, .int (nI c9)), (1, .int (nI e2)), (0, .ref h0)]) hx hb dX10_parts_105 hl (by decide) rfl (fun ls hl => ?_)
        refine lv_iinc (v := (nI (j + 1))) (lv' := [(6, .int (nI (j + 1))), (5, .int 1), (4, .int (nI i)), (3, .int v), (2, .int (nI c9)), (1, .int (nI e2)), (0, .ref h0)]) hx hb dX10_parts_107 hl (k := 1) rfl (nI_add j 1) (by decide) rfl (fun ls hl => ?_)
        refine lv_goto (tgt := 71) hx hb dX10_parts_110 (by decide) ?_
        exact ih (j + 1) _ H locs ls (by omega) hP hD hS (lv_sub hl (l' := [(6, .int (nI (j + 1))), (5, .int 1), (4, .int (nI i)), (3, .int v), (2, .int (nI c9)), (1, .int (nI e2)), (0, .ref h0)]) [0, 1, 2, 3, 4, 5, 6] rfl) kk
      · obtain ⟨e1, he1, hw1⟩ := hwho j (by omega)
        refine lv_aload_n hx hb dX10_parts_85 rfl (lv_at hl 6 rfl) ?_
        refine lv_aload_n hx hb dX10_parts_86 rfl (lv_at hl 6 rfl) ?_
        refine va_get (D := D) (ci := 11) (v := .ref (q 47)) (C := RX10) (T := TX10) (N := 48) hx hb hts inX10 hown hK hP 0 rfl rfl 47 (by decide) (hts _ k_1191) (fun _ h9 => h9) rfl dX10_parts_87 ?_
        refine lv_iload hx hb dX10_parts_90 (lv_at hl 0 rfl) ?_
        refine q_ild (X := j) (f := (F 47)) hx hb hK hP 34 1 rfl rfl (by omega) (by decide) dX10_parts_92 ?_
        refine q_seti (y := (nI e1)) hw1 ?_
        refine lv_iload_n hx hb dX10_parts_93 rfl (lv_at hl 5 rfl) ?_
        refine q_ci (k := cells) (n := slots) hK hP hD hS hA (fun hPc hKc hDc => q_rV (As := [.int (nI e1), .int (nI e2)]) (rest := []) hf (r_areLike _ D h0 q cB cI cZ I F Es sl e1 e2 hre (by omega) (by omega) _) k_1508 k_1505 k_1507 k_80 k_98 (nA := 2) (by decide +kernel) ⟨Nat.le_trans (by decide) hRf, Nat.le_trans (by decide) hRl⟩ hK hP (ci := 11) (q0 := 0) rfl rfl rfl hPc hKc hDc (fun _ _ _ _ h => h) (fun _ _ _ => trivial) rfl hl.1 rfl (Nat.le_of_ble_eq_true rfl) dX10_parts_94 ⟨hRc, hRs⟩) (Nat.le_refl _) (Nat.le_refl _) (fun r u H locs hw hK hP hD hS => ?_)
        obtain rfl := hw
        have hP : va_P D vcl (mW h0 q cB cI cZ I F) H := hP
        have hD : va_D A (mW h0 q cB cI cZ I F) := hD
        refine lv_if_eq (tgt := 104) hx hb dX10_parts_97 (by decide) (fun c_3 => ?_) (fun c_3 => ?_)
        · refine lv_iconst (v := 0) hx hb dX10_parts_104 (by decide) ?_
          refine lv_istore (lv' := [(5, .int 0), (6, .int (nI j)), (4, .int (nI i)), (3, .int v), (2, .int (nI c9)), (1, .int (nI e2)), (0, .ref h0)]) hx hb dX10_parts_105 hl (by decide) rfl (fun ls hl => ?_)
          refine lv_iinc (v := (nI (j + 1))) (lv' := [(6, .int (nI (j + 1))), (5, .int 0), (4, .int (nI i)), (3, .int v), (2, .int (nI c9)), (1, .int (nI e2)), (0, .ref h0)]) hx hb dX10_parts_107 hl (k := 1) rfl (nI_add j 1) (by decide) rfl (fun ls hl => ?_)
          refine lv_goto (tgt := 71) hx hb dX10_parts_110 (by decide) ?_
          exact ih (j + 1) _ H locs ls (by omega) hP hD hS (lv_sub hl (l' := [(6, .int (nI (j + 1))), (5, .int 0), (4, .int (nI i)), (3, .int v), (2, .int (nI c9)), (1, .int (nI e2)), (0, .ref h0)]) [0, 1, 2, 3, 4, 5, 6] rfl) kk
        · refine lv_iconst (v := 1) hx hb dX10_parts_100 (by decide) ?_
          refine lv_goto (tgt := 105) hx hb dX10_parts_101 (by decide) ?_
          refine lv_istore (lv' := [(5, .int 1), (6, .int (nI j)), (4, .int (nI i)), (3, .int v), (2, .int (nI c9)), (1, .int (nI e2)), (0, .ref h0)]) hx hb dX10_parts_105 hl (by decide) rfl (fun ls hl => ?_)
          refine lv_iinc (v := (nI (j + 1))) (lv' := [(6, .int (nI (j + 1))), (5, .int 1), (4, .int (nI i)), (3, .int v), (2, .int (nI c9)), (1, .int (nI e2)), (0, .ref h0)]) hx hb dX10_parts_107 hl (k := 1) rfl (nI_add j 1) (by decide) rfl (fun ls hl => ?_)
          refine lv_goto (tgt := 71) hx hb dX10_parts_110 (by decide) ?_
          exact ih (j + 1) _ H locs ls (by omega) hP hD hS (lv_sub hl (l' := [(6, .int (nI (j + 1))), (5, .int 1), (4, .int (nI i)), (3, .int v), (2, .int (nI c9)), (1, .int (nI e2)), (0, .ref h0)]) [0, 1, 2, 3, 4, 5, 6] rfl) kk
set_option maxHeartbeats 1000000 in
set_option maxRecDepth 100000 in
theorem lpo_ {p : Program} {l : Launch} {e : Env} {R : Room} {s : State} {m : MethodId} {args : Array Value} {below : List Frame} {meth : Method} {c : Code} {cells slots : Nat} {Q : State → Prop} {D : va_G} {A : Nat → Prop} {h0 : Nat} {q : Nat → Nat} {cB cI cZ : ClassId} {I : Nat → Int32} {F : Nat → Nat → Int32} {Es : List E5} {sl : Nat → Nat} {mr : Nat} {Rw : Nat → Nat} {c9 e2 : Nat} (hc9 : c9 ≤ 60) (he2 : e2 < Es.length) (hre : reR F Es sl) (hI44 : I 44 = nI mr) (hm : mr ≤ 60) (hrow : ∀ j, j < mr → F 45 j = nI (Rw j) ∧ Rw j < Es.length) (hRf : 3 ≤ R.frames) (hRl : 90 ≤ R.locals) (hRc : cells ≤ R.cells) (hRs : slots ≤ R.slots) (hA : ∀ q : Nat, s.heap.size ≤ q → A q) (hf : CallFix p m c cX10_parts 7 s args gT yX10_parts.cls) (hK : va_K D vcl (mT cB cI cZ) s) :
    ∀ (k : Nat) (i : Nat) (v : Int32) (u46 : Int32) (u47 : Nat → Int32) (H : Heap) (locs : List Loc) (ls : Array Slot), i + k = c9 →  va_P D vcl (mW h0 q cB cI cZ (upd I 46 u46) (va_up F 47 u47)) H → va_D A (mW h0 q cB cI cZ (upd I 46 u46) (va_up F 47 u47)) → va_S A s.heap H locs → lv_has ls 7 [(4, .int (nI i)), (3, .int v), (2, .int (nI c9)), (1, .int (nI e2)), (0, .ref h0)] →
    (∀ (v : Int32) (u46 : Int32) (u47 : Nat → Int32) (H : Heap) (locs : List Loc) (ls : Array Slot), va_P D vcl (mW h0 q cB cI cZ (upd I 46 u46) (va_up F 47 u47)) H → va_D A (mW h0 q cB cI cZ (upd I 46 u46) (va_up F 47 u47)) → va_S A s.heap H locs → lv_has ls 7 [(3, .int v), (0, .ref h0)] → W p l e R s m args below meth c H locs cells slots Q (F0 m 132 ls [])) →
    W p l e R s m args below meth c H locs cells slots Q (F0 m 53 ls []) := by
  obtain ⟨hx, hb, hml, hown, hts⟩ := id hf
  have hre1 := hre.1
  intro k
  induction k with
  | zero =>
    intro i v u46 u47 H locs ls hik hP hD hS hl kk
    refine lv_iload hx hb dX10_parts_53 (lv_at hl 0 rfl) ?_
    refine lv_iload_n hx hb dX10_parts_55 rfl (lv_at hl 2 rfl) ?_
    refine lv_icmp_ge (tgt := 132) hx hb dX10_parts_56 (by decide) (fun c_1 => ?_) (fun c_1 => ?_)
    · have c_1 := q_le (a := c9) (b := i) (by omega) (by omega) c_1
      exact kk v u46 u47 H locs ls hP hD hS (lv_sub hl (l' := [(3, .int v), (0, .ref h0)]) [1, 4] rfl)
    · have c_1 := q_nle (a := c9) (b := i) (by omega) (by omega) c_1
      exact absurd hik (by omega)
  | succ k ih =>
    intro i v u46 u47 H locs ls hik hP hD hS hl kk
    refine lv_iload hx hb dX10_parts_53 (lv_at hl 0 rfl) ?_
    refine lv_iload_n hx hb dX10_parts_55 rfl (lv_at hl 2 rfl) ?_
    refine lv_icmp_ge (tgt := 132) hx hb dX10_parts_56 (by decide) (fun c_1 => ?_) (fun c_1 => ?_)
    · have c_1 := q_le (a := c9) (b := i) (by omega) (by omega) c_1
      exact absurd hik (by omega)
    · have c_1 := q_nle (a := c9) (b := i) (by omega) (by omega) c_1
      refine lv_aload_n hx hb dX10_parts_59 rfl (lv_at hl 4 rfl) ?_
      refine lv_iload hx hb dX10_parts_60 (lv_at hl 0 rfl) ?_
      refine q_cv (k := cells) (n := slots) hK hP hD hS hA (fun hPc hKc hDc => q_rV (As := [.int (nI i)]) (rest := []) hf (r_findWho _ D h0 q cB cI cZ (upd I 46 u46) (va_up F 47 u47) Es sl mr Rw i (by omega) hre hI44 hm hrow _) k_1500 k_1497 k_1499 k_78 k_98 (nA := 1) (by decide +kernel) ⟨Nat.le_trans (by decide) hRf, Nat.le_trans (by decide) hRl⟩ hK hP (ci := 11) (q0 := 0) rfl rfl rfl hPc hKc hDc (fun _ _ _ _ h => h) (fun _ _ _ => trivial) rfl hl.1 rfl (Nat.le_of_ble_eq_true rfl) dX10_parts_62 ⟨hRc, hRs⟩) (Nat.le_refl _) (Nat.le_refl _) (fun u H locs hw hK hP hD hS => ?_)
      obtain ⟨wn, g47, hwn, hwho, rfl⟩ := hw
      have hP : va_P D vcl (mW h0 q cB cI cZ (upd I 46 (nI wn)) (va_up F 47 g47)) H := hP
      have hD : va_D A (mW h0 q cB cI cZ (upd I 46 (nI wn)) (va_up F 47 g47)) := hD
      refine lv_iconst (v := 0) hx hb dX10_parts_65 (by decide) ?_
      refine lv_istore (lv' := [(5, .int 0), (4, .int (nI i)), (3, .int v), (2, .int (nI c9)), (1, .int (nI e2)), (0, .ref h0)]) hx hb dX10_parts_66 hl (by decide) rfl (fun ls hl => ?_)
      refine lv_iconst (v := 0) hx hb dX10_parts_68 (by decide) ?_
      refine lv_istore (lv' := [(6, .int 0), (5, .int 0), (4, .int (nI i)), (3, .int v), (2, .int (nI c9)), (1, .int (nI e2)), (0, .ref h0)]) hx hb dX10_parts_69 hl (by decide) rfl (fun ls hl => ?_)
      refine lpi_ (I := (upd I 46 (nI wn))) (F := (va_up F 47 g47)) (Es := Es) (sl := sl) (wn := wn) (i := i) (e2 := e2) (c9 := c9) (v := v) hre rfl hwn hwho he2 (Nat.le_trans (by decide) hRf) (Nat.le_trans (by decide) hRl) hRc hRs hA hf hK wn 0 _ _ _ ls (by omega) hP hD hS (lv_sub hl (l' := [(6, .int 0), (5, .int 0), (4, .int (nI i)), (3, .int v), (2, .int (nI c9)), (1, .int (nI e2)), (0, .ref h0)]) [0, 1, 2, 3, 4, 5, 6] rfl) (fun b H locs ls hP hD hS hl => ?_)
      refine lv_iload_n hx hb dX10_parts_113 rfl (lv_at hl 2 rfl) ?_
      refine lv_iload hx hb dX10_parts_114 (lv_at hl 0 rfl) ?_
      refine lv_if_eq (tgt := 123) hx hb dX10_parts_116 (by decide) (fun c_2 => ?_) (fun c_2 => ?_)
      · refine lv_iconst (v := 0) hx hb dX10_parts_123 (by decide) ?_
        refine lv_iadd hx hb dX10_parts_124 ?_
        refine lv_istore_n (lv' := [(3, .int (v + 0)), (5, .int b), (4, .int (nI i)), (2, .int (nI c9)), (1, .int (nI e2)), (0, .ref h0)]) hx hb dX10_parts_125 rfl hl (by decide) rfl (fun ls hl => ?_)
        refine lv_iinc (v := (nI (i + 1))) (lv' := [(4, .int (nI (i + 1))), (3, .int (v + 0)), (5, .int b), (2, .int (nI c9)), (1, .int (nI e2)), (0, .ref h0)]) hx hb dX10_parts_126 hl (k := 2) rfl (nI_add i 1) (by decide) rfl (fun ls hl => ?_)
        refine lv_goto (tgt := 53) hx hb dX10_parts_129 (by decide) ?_
        exact ih (i + 1) _ _ _ H locs ls (by omega) hP hD hS (lv_sub hl (l' := [(4, .int (nI (i + 1))), (3, .int (v + 0)), (2, .int (nI c9)), (1, .int (nI e2)), (0, .ref h0)]) [0, 1, 3, 4, 5] rfl) kk
      · refine lv_iconst (v := 1) hx hb dX10_parts_119 (by decide) ?_
        refine lv_goto (tgt := 124) hx hb dX10_parts_120 (by decide) ?_
        refine lv_iadd hx hb dX10_parts_124 ?_
        refine lv_istore_n (lv' := [(3, .int (v + 1)), (5, .int b), (4, .int (nI i)), (2, .int (nI c9)), (1, .int (nI e2)), (0, .ref h0)]) hx hb dX10_parts_125 rfl hl (by decide) rfl (fun ls hl => ?_)
        refine lv_iinc (v := (nI (i + 1))) (lv' := [(4, .int (nI (i + 1))), (3, .int (v + 1)), (5, .int b), (2, .int (nI c9)), (1, .int (nI e2)), (0, .ref h0)]) hx hb dX10_parts_126 hl (k := 2) rfl (nI_add i 1) (by decide) rfl (fun ls hl => ?_)
        refine lv_goto (tgt := 53) hx hb dX10_parts_129 (by decide) ?_
        exact ih (i + 1) _ _ _ H locs ls (by omega) hP hD hS (lv_sub hl (l' := [(4, .int (nI (i + 1))), (3, .int (v + 1)), (2, .int (nI c9)), (1, .int (nI e2)), (0, .ref h0)]) [0, 1, 3, 4, 5] rfl) kk
set_option maxHeartbeats 1000000 in
set_option maxRecDepth 100000 in
theorem r_parts (l : Launch) (D : va_G) (h0 : Nat) (q : Nat → Nat) (cB cI_ cZ : ClassId) (I : Nat → Int32) (F : Nat → Nat → Int32) (Es : List E5) (sl : Nat → Nat) (P : List Q4) (x1 : Int32) (hI3 : I 3 = nI Es.length) (hre : reR F Es sl) (hI14 : I 14 = nI P.length) (hpn : P.length ≤ 7000) (hpcF : pc_is P (F 15) (F 16) (F 17) (F 18)) (hQ : pq_ok Es.length (fun e => Es.getD e dE) P) (hmg : (mgI P P.length).length ≤ 60) : cI l D yX10_parts cX10_parts 7 (some .int) 4 120 0 0 [.ref h0, .int x1] zT (mW h0 q cB cI_ cZ I F) (mT cB cI_ cZ) (fun r u => (∃ (I2 : Nat → Int32) (F2 : Nat → Nat → Int32), sm I I2 F F2 ∧ u = (mW h0 q cB cI_ cZ I2 F2, mT cB cI_ cZ))) := by
  refine q_si (by decide) (Nat.le_of_ble_eq_true rfl) ?_
  intro p e s m below meth c A ls hAe hf hr hlocks hin hK hP hD hS hA hZ hl
  obtain ⟨hx, hb, hml, hown, hts⟩ := id hf
  have hl : lv_has ls 7 [(0, .ref h0), (1, .int x1)] := hl
  have hre1 := hre.1
  refine lv_aload_n hx hb dX10_parts_0 rfl (lv_at hl 0 rfl) ?_
  refine lv_iload_n hx hb dX10_parts_1 rfl (lv_at hl 1 rfl) ?_
  refine q_ci (k := 0) (n := 0) hK hP hD hS hA (fun hPc hKc hDc => q_rV (As := [.int x1]) (rest := []) hf (r_isElement _ D h0 q cB cI_ cZ I F Es.length x1 hI3 hre.1 _) k_1371 k_1368 k_1370 k_59 k_98 (nA := 1) (by decide +kernel) ⟨Nat.le_of_ble_eq_true rfl, Nat.le_of_ble_eq_true rfl⟩ hK hP (ci := 11) (q0 := 0) rfl rfl rfl hPc hKc hDc (fun _ _ _ _ h => h) (fun _ _ _ => trivial) rfl hl.1 rfl (Nat.le_of_ble_eq_true rfl) dX10_parts_2 ⟨Nat.le_of_ble_eq_true rfl, Nat.le_of_ble_eq_true rfl⟩) (by decide) (by decide) (fun r u H locs hw hK hP hD hS => ?_)
  rcases hw with ⟨⟨c_1, rfl⟩ | ⟨c_1, rfl⟩, rfl⟩
  · have hP : va_P D vcl (mW h0 q cB cI_ cZ I F) H := hP
    have hD : va_D A (mW h0 q cB cI_ cZ I F) := hD
    refine lv_if_ne (tgt := 11) hx hb dX10_parts_5 (by decide) (fun _ => ?_) (fun hno => absurd hno (by decide))
    obtain ⟨j, hj, rfl⟩ := c_1
    have hslj := (hre.2.1 j hj).2.1
    have hrwj := elF_rw (hre.2.1 j hj).2.2
    have hl : lv_has ls 7 [(0, .ref h0), (1, .int (nI j))] := hl
    refine lv_aload_n hx hb dX10_parts_11 rfl (lv_at hl 0 rfl) ?_
    refine va_get (D := D) (ci := 11) (v := .ref (q 6)) (C := RX10) (T := TX10) (N := 48) hx hb hts inX10 hown hK hP 0 rfl rfl 6 (by decide) (hts _ k_1150) (fun _ h9 => h9) rfl dX10_parts_12 ?_
    refine lv_aload_n hx hb dX10_parts_15 rfl (lv_at hl 0 rfl) ?_
    refine va_get (D := D) (ci := 11) (v := .ref (q 4)) (C := RX10) (T := TX10) (N := 48) hx hb hts inX10 hown hK hP 0 rfl rfl 4 (by decide) (hts _ k_1148) (fun _ h9 => h9) rfl dX10_parts_16 ?_
    refine lv_iload_n hx hb dX10_parts_19 rfl (lv_at hl 1 rfl) ?_
    refine q_ild (X := j) (f := (F 4)) hx hb hK hP 2 1 rfl rfl (by omega) (by decide) dX10_parts_20 ?_
    refine q_seti (y := (nI ((sl j)))) (hre.2.1 j (by omega)).1 ?_
    refine q_ild (X := (sl j)) (f := (F 6)) hx hb hK hP 4 1 rfl rfl (by omega) (by decide) dX10_parts_21 ?_
    refine q_seti (y := (Es.getD j dE).1) (hre.2.1 j (by omega)).2.2.2.1 ?_
    refine lv_iconst (v := 2) hx hb dX10_parts_22 (by decide) ?_
    refine lv_icmp_ne (tgt := 40) hx hb dX10_parts_23 (by decide) (fun c_2 => ?_) (fun c_2 => ?_)
    · refine lv_bipush (v := (-3)) hx hb dX10_parts_40 (by decide) ?_
      exact q_zi hf hr rfl hlocks hK hP hD hS (Nat.le_of_ble_eq_true rfl) (Nat.le_of_ble_eq_true rfl) ⟨I, F, ⟨⟨rfl, rfl, rfl⟩, ⟨rfl, rfl, rfl⟩, ⟨rfl, rfl, rfl, rfl, rfl, rfl, rfl, rfl, rfl, rfl, rfl⟩, rfl, rfl, rfl, rfl⟩, rfl⟩ dX10_parts_42
    · refine lv_aload_n hx hb dX10_parts_26 rfl (lv_at hl 0 rfl) ?_
      refine va_get (D := D) (ci := 11) (v := .ref (q 7)) (C := RX10) (T := TX10) (N := 48) hx hb hts inX10 hown hK hP 0 rfl rfl 7 (by decide) (hts _ k_1151) (fun _ h9 => h9) rfl dX10_parts_27 ?_
      refine lv_aload_n hx hb dX10_parts_30 rfl (lv_at hl 0 rfl) ?_
      refine va_get (D := D) (ci := 11) (v := .ref (q 4)) (C := RX10) (T := TX10) (N := 48) hx hb hts inX10 hown hK hP 0 rfl rfl 4 (by decide) (hts _ k_1148) (fun _ h9 => h9) rfl dX10_parts_31 ?_
      refine lv_iload_n hx hb dX10_parts_34 rfl (lv_at hl 1 rfl) ?_
      refine q_ild (X := j) (f := (F 4)) hx hb hK hP 2 1 rfl rfl (by omega) (by decide) dX10_parts_35 ?_
      refine q_seti (y := (nI ((sl j)))) (hre.2.1 j (by omega)).1 ?_
      refine q_zld (X := (sl j)) (f := (F 7)) hx hb hK hP 5 2 rfl rfl (by omega) (by decide) dX10_parts_36 ?_
      refine q_seti (y := (Es.getD j dE).2.2.1) (hre.2.1 j (by omega)).2.2.2.2.1 ?_
      refine lv_if_eq (tgt := 43) hx hb dX10_parts_37 (by decide) (fun c_3 => ?_) (fun c_3 => ?_)
      · refine lv_aload_n hx hb dX10_parts_43 rfl (lv_at hl 0 rfl) ?_
        refine q_ci (k := 0) (n := 0) hK hP hD hS hA (fun hPc hKc hDc => q_rV (As := []) (rest := []) hf (r_scenes _ D h0 q cB cI_ cZ I F Es sl P hre hI14 hpn hpcF hQ hmg _) k_1483 k_1496 k_1481 k_1482 k_98 (nA := 0) (by decide +kernel) ⟨Nat.le_of_ble_eq_true rfl, Nat.le_of_ble_eq_true rfl⟩ hK hP (ci := 11) (q0 := 0) rfl rfl rfl hPc hKc hDc (fun _ _ _ _ h => h) (fun _ _ _ => trivial) rfl hl.1 rfl (Nat.le_of_ble_eq_true rfl) dX10_parts_44 ⟨Nat.le_of_ble_eq_true rfl, Nat.le_of_ble_eq_true rfl⟩) (by decide) (by decide) (fun r u H locs hw hK hP hD hS => ?_)
        obtain ⟨g45, hr9, hrwI, rfl⟩ := hw
        obtain ⟨c9, hc9, rfl⟩ : ∃ c9 : Nat, c9 = hdC Es (fun j => (mgI P P.length).getD j 0) (mgI P P.length).length ∧ r = nI c9 := ⟨_, rfl, hr9⟩
        have hc8 := hdC_le Es (fun j => (mgI P P.length).getD j 0) (mgI P P.length).length
        have hrow : ∀ j, j < (mgI P P.length).length → g45 j = nI ((fun j => (mgI P P.length).getD j 0) j) ∧ (fun j => (mgI P P.length).getD j 0) j < Es.length := fun j hj => ⟨hrwI j hj, mgI_in (fun i hi => (hQ i hi).1) _ (Nat.le_refl _) j hj⟩
        have hP : va_P D vcl (mW h0 q cB cI_ cZ (upd I 44 (nI ((mgI P P.length).length))) (va_up F 45 g45)) H := hP
        have hD : va_D A (mW h0 q cB cI_ cZ (upd I 44 (nI ((mgI P P.length).length))) (va_up F 45 g45)) := hD
        refine lv_istore_n (lv' := [(2, .int (nI c9)), (0, .ref h0), (1, .int (nI j))]) hx hb dX10_parts_47 rfl hl (by decide) rfl (fun ls hl => ?_)
        refine lv_iconst (v := 0) hx hb dX10_parts_48 (by decide) ?_
        refine lv_istore_n (lv' := [(3, .int 0), (2, .int (nI c9)), (0, .ref h0), (1, .int (nI j))]) hx hb dX10_parts_49 rfl hl (by decide) rfl (fun ls hl => ?_)
        refine lv_iconst (v := 0) hx hb dX10_parts_50 (by decide) ?_
        refine lv_istore (lv' := [(4, .int 0), (3, .int 0), (2, .int (nI c9)), (0, .ref h0), (1, .int (nI j))]) hx hb dX10_parts_51 hl (by decide) rfl (fun ls hl => ?_)
        have hz9 : (va_up F 45 g45) = va_up (va_up F 45 g45) 47 (F 47) := (va_up_id9 (va_up F 45 g45) 47).symm
        obtain ⟨hP, hD⟩ := q_set4 hz9 hP hD
        have hy9 : (upd I 44 (nI ((mgI P P.length).length))) = upd (upd I 44 (nI ((mgI P P.length).length))) 46 (I 46) := (upd_id9 (upd I 44 (nI ((mgI P P.length).length))) 46).symm
        obtain ⟨hP, hD⟩ := q_set5 hy9 hP hD
        refine lpo_ (I := (upd I 44 (nI ((mgI P P.length).length)))) (F := (va_up F 45 g45)) (Es := Es) (sl := sl) (mr := (mgI P P.length).length) (Rw := (fun j => (mgI P P.length).getD j 0)) (c9 := c9) (e2 := j) (by omega) hj hre rfl hmg hrow (Nat.le_of_ble_eq_true rfl) (Nat.le_of_ble_eq_true rfl) (Nat.le_of_ble_eq_true rfl) (Nat.le_of_ble_eq_true rfl) hA hf hK c9 0 _ (I 46) (F 47) _ _ ls (by omega) hP hD hS (lv_sub hl (l' := [(4, .int 0), (3, .int 0), (2, .int (nI c9)), (1, .int (nI j)), (0, .ref h0)]) [0, 1, 2, 4, 3] rfl) (fun v u46 u47 H locs ls hP hD hS hl => ?_)
        have hP : va_P D vcl (mW h0 q cB cI_ cZ (upd (upd I 44 (nI ((mgI P P.length).length))) 46 u46) (va_up (va_up F 45 g45) 47 u47)) H := hP
        have hD : va_D A (mW h0 q cB cI_ cZ (upd (upd I 44 (nI ((mgI P P.length).length))) 46 u46) (va_up (va_up F 45 g45) 47 u47)) := hD
        refine lv_iload_n hx hb dX10_parts_132 rfl (lv_at hl 0 rfl) ?_
        exact q_zi hf hr rfl hlocks hK hP hD hS (Nat.le_of_ble_eq_true rfl) (Nat.le_of_ble_eq_true rfl) ⟨(upd (upd I 44 (nI ((mgI P P.length).length))) 46 u46), (va_up (va_up F 45 g45) 47 u47), ⟨⟨rfl, rfl, rfl⟩, ⟨rfl, rfl, rfl⟩, ⟨rfl, rfl, rfl, rfl, rfl, rfl, rfl, rfl, rfl, rfl, rfl⟩, rfl, rfl, rfl, rfl⟩, rfl⟩ dX10_parts_133
      · refine lv_bipush (v := (-3)) hx hb dX10_parts_40 (by decide) ?_
        exact q_zi hf hr rfl hlocks hK hP hD hS (Nat.le_of_ble_eq_true rfl) (Nat.le_of_ble_eq_true rfl) ⟨I, F, ⟨⟨rfl, rfl, rfl⟩, ⟨rfl, rfl, rfl⟩, ⟨rfl, rfl, rfl, rfl, rfl, rfl, rfl, rfl, rfl, rfl, rfl⟩, rfl, rfl, rfl, rfl⟩, rfl⟩ dX10_parts_42
  · have hP : va_P D vcl (mW h0 q cB cI_ cZ I F) H := hP
    have hD : va_D A (mW h0 q cB cI_ cZ I F) := hD
    refine lv_if_ne (tgt := 11) hx hb dX10_parts_5 (by decide) (fun hno => absurd hno (by decide)) (fun _ => ?_)
    refine lv_bipush (v := (-2)) hx hb dX10_parts_8 (by decide) ?_
    exact q_zi hf hr rfl hlocks hK hP hD hS (Nat.le_of_ble_eq_true rfl) (Nat.le_of_ble_eq_true rfl) ⟨I, F, ⟨⟨rfl, rfl, rfl⟩, ⟨rfl, rfl, rfl⟩, ⟨rfl, rfl, rfl, rfl, rfl, rfl, rfl, rfl, rfl, rfl, rfl⟩, rfl, rfl, rfl, rfl⟩, rfl⟩ dX10_parts_10
