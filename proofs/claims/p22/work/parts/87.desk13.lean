theorem bgs_mw {EE : Nat → E5} {P : List Q4} {n ss s2 t u : Nat} (h1 : bgs EE P n ss t) (h2 : bgs EE P n s2 u) (hs : ss ≤ s2) (ht : t < n) : t ≤ u := by
  rcases h1 with h1 | h1
  · rcases h2 with h2 | h2
    · by_cases c : t ≤ u
      · exact c
      · have h3 := pcnt_mo (bgq EE P 0) (show u + 1 ≤ t by omega)
        rw [pcnt_1 h2.2.1] at h3
        omega
    · omega
  · omega
abbrev cX9_eighthsOf : ByteArray := prog_1_method_28_code
def yX9_eighthsOf : MethodName := ⟨RX9, "eighthsOf", "(II)I"⟩
abbrev cX9_eighthsOfRows : ByteArray := prog_1_method_29_code
def yX9_eighthsOfRows : MethodName := ⟨RX9, "eighthsOfRows", "(I)I"⟩
abbrev cX9_parts : ByteArray := prog_1_method_21_code
def yX9_parts : MethodName := ⟨RX9, "parts", "(I)I"⟩
abbrev cX9_scene : ByteArray := prog_1_method_19_code
def yX9_scene : MethodName := ⟨RX9, "scene", "(II)I"⟩
theorem k_40 : (Cond.selects RX9 yX9_eighthsOf yX9_eighthsOf) ∈ gT := gT_i 40 (by decide +kernel) rfl
theorem k_41 : (Cond.selects RX9 yX9_eighthsOfRows yX9_eighthsOfRows) ∈ gT := gT_i 41 (by decide +kernel) rfl
theorem k_234 : (Cond.fieldLink RX9 224 "ScriptDesk$Element" "number" "I") ∈ gT := gT_i 234 (by decide +kernel) rfl
theorem k_282 : (Cond.fieldLink RX9 249 "ScriptDesk$Piece" "element" "LScriptDesk$Element;") ∈ gT := gT_i 282 (by decide +kernel) rfl
theorem k_945 : (Cond.methodLink RX9 201 yX6_at) ∈ gT := gT_i 945 (by decide +kernel) rfl
theorem k_1061 : (Cond.methodLink RX9 262 yX7_peopleIn) ∈ gT := gT_i 1061 (by decide +kernel) rfl
theorem k_1062 : (Cond.instanceMethod yX7_peopleIn) ∈ gT := gT_i 1062 (by decide +kernel) rfl
theorem k_1063 : (Cond.selects RX7 yX7_peopleIn yX7_peopleIn) ∈ gT := gT_i 1063 (by decide +kernel) rfl
theorem k_1064 : (Cond.code yX7_peopleIn cX7_peopleIn 5 (some .int)) ∈ gT := gT_i 1064 (by decide +kernel) rfl
theorem k_1077 : (Cond.methodLink RX9 265 yX7_spanOf) ∈ gT := gT_i 1077 (by decide +kernel) rfl
theorem k_1078 : (Cond.instanceMethod yX7_spanOf) ∈ gT := gT_i 1078 (by decide +kernel) rfl
theorem k_1079 : (Cond.selects RX7 yX7_spanOf yX7_spanOf) ∈ gT := gT_i 1079 (by decide +kernel) rfl
theorem k_1080 : (Cond.code yX7_spanOf cX7_spanOf 6 (some .int)) ∈ gT := gT_i 1080 (by decide +kernel) rfl
theorem k_1082 : (Cond.methodLink RX9 268 yX9_eighthsOf) ∈ gT := gT_i 1082 (by decide +kernel) rfl
theorem k_1084 : (Cond.instanceMethod yX9_eighthsOf) ∈ gT := gT_i 1084 (by decide +kernel) rfl
theorem k_1085 : (Cond.code yX9_eighthsOf cX9_eighthsOf 5 (some .int)) ∈ gT := gT_i 1085 (by decide +kernel) rfl
theorem k_1086 : (Cond.methodLink RX9 308 yX9_eighthsOfRows) ∈ gT := gT_i 1086 (by decide +kernel) rfl
theorem k_1088 : (Cond.instanceMethod yX9_eighthsOfRows) ∈ gT := gT_i 1088 (by decide +kernel) rfl
theorem k_1089 : (Cond.code yX9_eighthsOfRows cX9_eighthsOfRows 2 (some .int)) ∈ gT := gT_i 1089 (by decide +kernel) rfl
theorem k_1090 : (Cond.methodLink RX9 271 yX7_elementsIn) ∈ gT := gT_i 1090 (by decide +kernel) rfl
theorem k_1091 : (Cond.instanceMethod yX7_elementsIn) ∈ gT := gT_i 1091 (by decide +kernel) rfl
theorem k_1092 : (Cond.selects RX7 yX7_elementsIn yX7_elementsIn) ∈ gT := gT_i 1092 (by decide +kernel) rfl
theorem k_1093 : (Cond.code yX7_elementsIn cX7_elementsIn 5 (some .int)) ∈ gT := gT_i 1093 (by decide +kernel) rfl
theorem k_1106 : (Cond.methodLink RX9 278 yX7_hasPerson) ∈ gT := gT_i 1106 (by decide +kernel) rfl
theorem dX9_eighthsOfRows_0 : decode cX9_eighthsOfRows 0 = .ok (.aload_n 0, 1) := by decide +kernel
theorem dX9_eighthsOfRows_1 : decode cX9_eighthsOfRows 1 = .ok (.getfield 81, 3) := by decide +kernel
theorem dX9_eighthsOfRows_4 : decode cX9_eighthsOfRows 4 = .ok (.bipush 10, 2) := by decide +kernel
theorem dX9_eighthsOfRows_6 : decode cX9_eighthsOfRows 6 = .ok (.if_icmp .ge 7, 3) := by decide +kernel
theorem dX9_eighthsOfRows_13 : decode cX9_eighthsOfRows 13 = .ok (.bipush 8, 2) := by decide +kernel
theorem dX9_eighthsOfRows_15 : decode cX9_eighthsOfRows 15 = .ok (.iload_n 1, 1) := by decide +kernel
theorem dX9_eighthsOfRows_16 : decode cX9_eighthsOfRows 16 = .ok (.imul, 1) := by decide +kernel
theorem dX9_eighthsOfRows_17 : decode cX9_eighthsOfRows 17 = .ok (.aload_n 0, 1) := by decide +kernel
theorem dX9_eighthsOfRows_18 : decode cX9_eighthsOfRows 18 = .ok (.getfield 81, 3) := by decide +kernel
theorem dX9_eighthsOfRows_21 : decode cX9_eighthsOfRows 21 = .ok (.idiv, 1) := by decide +kernel
theorem dX9_eighthsOfRows_22 : decode cX9_eighthsOfRows 22 = .ok (.ireturn, 1) := by decide +kernel
theorem dX9_eighthsOf_0 : decode cX9_eighthsOf 0 = .ok (.aload_n 0, 1) := by decide +kernel
theorem dX9_eighthsOf_1 : decode cX9_eighthsOf 1 = .ok (.getfield 77, 3) := by decide +kernel
theorem dX9_eighthsOf_4 : decode cX9_eighthsOf 4 = .ok (.aload_n 0, 1) := by decide +kernel
theorem dX9_eighthsOf_5 : decode cX9_eighthsOf 5 = .ok (.getfield 77, 3) := by decide +kernel
theorem dX9_eighthsOf_8 : decode cX9_eighthsOf 8 = .ok (.iconst 0, 1) := by decide +kernel
theorem dX9_eighthsOf_9 : decode cX9_eighthsOf 9 = .ok (.invokevirtual 259, 3) := by decide +kernel
theorem dX9_eighthsOf_12 : decode cX9_eighthsOf 12 = .ok (.iload_n 1, 1) := by decide +kernel
theorem dX9_eighthsOf_13 : decode cX9_eighthsOf 13 = .ok (.invokevirtual 265, 3) := by decide +kernel
theorem dX9_eighthsOf_16 : decode cX9_eighthsOf 16 = .ok (.istore_n 3, 1) := by decide +kernel
theorem dX9_eighthsOf_17 : decode cX9_eighthsOf 17 = .ok (.iload_n 3, 1) := by decide +kernel
theorem dX9_eighthsOf_18 : decode cX9_eighthsOf 18 = .ok (.aload_n 0, 1) := by decide +kernel
theorem dX9_eighthsOf_19 : decode cX9_eighthsOf 19 = .ok (.getfield 77, 3) := by decide +kernel
theorem dX9_eighthsOf_22 : decode cX9_eighthsOf 22 = .ok (.iload_n 1, 1) := by decide +kernel
theorem dX9_eighthsOf_23 : decode cX9_eighthsOf 23 = .ok (.iload_n 2, 1) := by decide +kernel
theorem dX9_eighthsOf_24 : decode cX9_eighthsOf 24 = .ok (.invokevirtual 265, 3) := by decide +kernel
theorem dX9_eighthsOf_27 : decode cX9_eighthsOf 27 = .ok (.iadd, 1) := by decide +kernel
theorem dX9_eighthsOf_28 : decode cX9_eighthsOf 28 = .ok (.istore 4, 2) := by decide +kernel
theorem dX9_eighthsOf_30 : decode cX9_eighthsOf 30 = .ok (.aload_n 0, 1) := by decide +kernel
theorem dX9_eighthsOf_31 : decode cX9_eighthsOf 31 = .ok (.iload 4, 2) := by decide +kernel
theorem dX9_eighthsOf_33 : decode cX9_eighthsOf 33 = .ok (.invokevirtual 308, 3) := by decide +kernel
theorem dX9_eighthsOf_36 : decode cX9_eighthsOf 36 = .ok (.aload_n 0, 1) := by decide +kernel
theorem dX9_eighthsOf_37 : decode cX9_eighthsOf 37 = .ok (.iload_n 3, 1) := by decide +kernel
theorem dX9_eighthsOf_38 : decode cX9_eighthsOf 38 = .ok (.invokevirtual 308, 3) := by decide +kernel
theorem dX9_eighthsOf_41 : decode cX9_eighthsOf 41 = .ok (.isub, 1) := by decide +kernel
theorem dX9_eighthsOf_42 : decode cX9_eighthsOf 42 = .ok (.ireturn, 1) := by decide +kernel
theorem dX9_scene_0 : decode cX9_scene 0 = .ok (.iload_n 1, 1) := by decide +kernel
theorem dX9_scene_1 : decode cX9_scene 1 = .ok (.ifCond .lt 14, 3) := by decide +kernel
theorem dX9_scene_15 : decode cX9_scene 15 = .ok (.bipush (-2), 2) := by decide +kernel
theorem dX9_scene_17 : decode cX9_scene 17 = .ok (.ireturn, 1) := by decide +kernel
theorem dX9_scene_4 : decode cX9_scene 4 = .ok (.iload_n 1, 1) := by decide +kernel
theorem dX9_scene_5 : decode cX9_scene 5 = .ok (.aload_n 0, 1) := by decide +kernel
theorem dX9_scene_6 : decode cX9_scene 6 = .ok (.getfield 77, 3) := by decide +kernel
theorem dX9_scene_9 : decode cX9_scene 9 = .ok (.invokevirtual 256, 3) := by decide +kernel
theorem dX9_scene_12 : decode cX9_scene 12 = .ok (.if_icmp .lt 6, 3) := by decide +kernel
theorem dX9_scene_18 : decode cX9_scene 18 = .ok (.aload_n 0, 1) := by decide +kernel
theorem dX9_scene_19 : decode cX9_scene 19 = .ok (.getfield 77, 3) := by decide +kernel
theorem dX9_scene_22 : decode cX9_scene 22 = .ok (.iload_n 1, 1) := by decide +kernel
theorem dX9_scene_23 : decode cX9_scene 23 = .ok (.invokevirtual 259, 3) := by decide +kernel
theorem dX9_scene_26 : decode cX9_scene 26 = .ok (.istore_n 3, 1) := by decide +kernel
theorem dX9_scene_27 : decode cX9_scene 27 = .ok (.aload_n 0, 1) := by decide +kernel
theorem dX9_scene_28 : decode cX9_scene 28 = .ok (.getfield 77, 3) := by decide +kernel
theorem dX9_scene_31 : decode cX9_scene 31 = .ok (.iload_n 1, 1) := by decide +kernel
theorem dX9_scene_32 : decode cX9_scene 32 = .ok (.iconst 1, 1) := by decide +kernel
theorem dX9_scene_33 : decode cX9_scene 33 = .ok (.iadd, 1) := by decide +kernel
theorem dX9_scene_34 : decode cX9_scene 34 = .ok (.invokevirtual 259, 3) := by decide +kernel
theorem dX9_scene_37 : decode cX9_scene 37 = .ok (.istore 4, 2) := by decide +kernel
theorem dX9_scene_39 : decode cX9_scene 39 = .ok (.iload_n 2, 1) := by decide +kernel
theorem dX9_scene_40 : decode cX9_scene 40 = .ok (.tableswitch 92 0 4 #[36, 51, 62, 73, 81], 36) := by decide +kernel
theorem dX9_scene_76 : decode cX9_scene 76 = .ok (.aload_n 0, 1) := by decide +kernel
theorem dX9_scene_77 : decode cX9_scene 77 = .ok (.getfield 49, 3) := by decide +kernel
theorem dX9_scene_80 : decode cX9_scene 80 = .ok (.iload_n 3, 1) := by decide +kernel
theorem dX9_scene_81 : decode cX9_scene 81 = .ok (.invokevirtual 201, 3) := by decide +kernel
theorem dX9_scene_84 : decode cX9_scene 84 = .ok (.getfield 249, 3) := by decide +kernel
theorem dX9_scene_87 : decode cX9_scene 87 = .ok (.getfield 224, 3) := by decide +kernel
theorem dX9_scene_90 : decode cX9_scene 90 = .ok (.ireturn, 1) := by decide +kernel
theorem dX9_scene_91 : decode cX9_scene 91 = .ok (.aload_n 0, 1) := by decide +kernel
theorem dX9_scene_92 : decode cX9_scene 92 = .ok (.getfield 77, 3) := by decide +kernel
theorem dX9_scene_95 : decode cX9_scene 95 = .ok (.iload_n 3, 1) := by decide +kernel
theorem dX9_scene_96 : decode cX9_scene 96 = .ok (.iload 4, 2) := by decide +kernel
theorem dX9_scene_98 : decode cX9_scene 98 = .ok (.invokevirtual 262, 3) := by decide +kernel
theorem dX9_scene_101 : decode cX9_scene 101 = .ok (.ireturn, 1) := by decide +kernel
theorem dX9_scene_102 : decode cX9_scene 102 = .ok (.aload_n 0, 1) := by decide +kernel
theorem dX9_scene_103 : decode cX9_scene 103 = .ok (.getfield 77, 3) := by decide +kernel
theorem dX9_scene_106 : decode cX9_scene 106 = .ok (.iload_n 3, 1) := by decide +kernel
theorem dX9_scene_107 : decode cX9_scene 107 = .ok (.iload 4, 2) := by decide +kernel
theorem dX9_scene_109 : decode cX9_scene 109 = .ok (.invokevirtual 265, 3) := by decide +kernel
theorem dX9_scene_112 : decode cX9_scene 112 = .ok (.ireturn, 1) := by decide +kernel
theorem dX9_scene_113 : decode cX9_scene 113 = .ok (.aload_n 0, 1) := by decide +kernel
theorem dX9_scene_114 : decode cX9_scene 114 = .ok (.iload_n 3, 1) := by decide +kernel
theorem dX9_scene_115 : decode cX9_scene 115 = .ok (.iload 4, 2) := by decide +kernel
theorem dX9_scene_117 : decode cX9_scene 117 = .ok (.invokevirtual 268, 3) := by decide +kernel
theorem dX9_scene_120 : decode cX9_scene 120 = .ok (.ireturn, 1) := by decide +kernel
theorem dX9_scene_121 : decode cX9_scene 121 = .ok (.aload_n 0, 1) := by decide +kernel
theorem dX9_scene_122 : decode cX9_scene 122 = .ok (.getfield 77, 3) := by decide +kernel
theorem dX9_scene_125 : decode cX9_scene 125 = .ok (.iload_n 3, 1) := by decide +kernel
theorem dX9_scene_126 : decode cX9_scene 126 = .ok (.iload 4, 2) := by decide +kernel
theorem dX9_scene_128 : decode cX9_scene 128 = .ok (.invokevirtual 271, 3) := by decide +kernel
theorem dX9_scene_131 : decode cX9_scene 131 = .ok (.ireturn, 1) := by decide +kernel
theorem dX9_scene_132 : decode cX9_scene 132 = .ok (.bipush (-2), 2) := by decide +kernel
theorem dX9_scene_134 : decode cX9_scene 134 = .ok (.ireturn, 1) := by decide +kernel
theorem dX9_parts_49 : decode cX9_parts 49 = .ok (.iload 5, 2) := by decide +kernel
theorem dX9_parts_51 : decode cX9_parts 51 = .ok (.iload 4, 2) := by decide +kernel
theorem dX9_parts_53 : decode cX9_parts 53 = .ok (.if_icmp .ge 43, 3) := by decide +kernel
theorem dX9_parts_56 : decode cX9_parts 56 = .ok (.aload_n 0, 1) := by decide +kernel
theorem dX9_parts_57 : decode cX9_parts 57 = .ok (.getfield 77, 3) := by decide +kernel
theorem dX9_parts_60 : decode cX9_parts 60 = .ok (.aload_n 0, 1) := by decide +kernel
theorem dX9_parts_61 : decode cX9_parts 61 = .ok (.getfield 77, 3) := by decide +kernel
theorem dX9_parts_64 : decode cX9_parts 64 = .ok (.iload 5, 2) := by decide +kernel
theorem dX9_parts_66 : decode cX9_parts 66 = .ok (.invokevirtual 259, 3) := by decide +kernel
theorem dX9_parts_69 : decode cX9_parts 69 = .ok (.aload_n 0, 1) := by decide +kernel
theorem dX9_parts_70 : decode cX9_parts 70 = .ok (.getfield 77, 3) := by decide +kernel
theorem dX9_parts_73 : decode cX9_parts 73 = .ok (.iload 5, 2) := by decide +kernel
theorem dX9_parts_75 : decode cX9_parts 75 = .ok (.iconst 1, 1) := by decide +kernel
theorem dX9_parts_76 : decode cX9_parts 76 = .ok (.iadd, 1) := by decide +kernel
theorem dX9_parts_77 : decode cX9_parts 77 = .ok (.invokevirtual 259, 3) := by decide +kernel
theorem dX9_parts_80 : decode cX9_parts 80 = .ok (.aload_n 2, 1) := by decide +kernel
theorem dX9_parts_81 : decode cX9_parts 81 = .ok (.invokevirtual 278, 3) := by decide +kernel
theorem dX9_parts_84 : decode cX9_parts 84 = .ok (.ifCond .eq 6, 3) := by decide +kernel
theorem dX9_parts_87 : decode cX9_parts 87 = .ok (.iinc 3 1, 3) := by decide +kernel
theorem dX9_parts_90 : decode cX9_parts 90 = .ok (.iinc 5 1, 3) := by decide +kernel
theorem dX9_parts_93 : decode cX9_parts 93 = .ok (.goto (-44), 3) := by decide +kernel
theorem dX9_parts_0 : decode cX9_parts 0 = .ok (.aload_n 0, 1) := by decide +kernel
theorem dX9_parts_1 : decode cX9_parts 1 = .ok (.iload_n 1, 1) := by decide +kernel
theorem dX9_parts_2 : decode cX9_parts 2 = .ok (.invokevirtual 123, 3) := by decide +kernel
theorem dX9_parts_5 : decode cX9_parts 5 = .ok (.ifCond .ne 6, 3) := by decide +kernel
theorem dX9_parts_11 : decode cX9_parts 11 = .ok (.aload_n 0, 1) := by decide +kernel
theorem dX9_parts_12 : decode cX9_parts 12 = .ok (.iload_n 1, 1) := by decide +kernel
theorem dX9_parts_13 : decode cX9_parts 13 = .ok (.invokevirtual 126, 3) := by decide +kernel
theorem dX9_parts_16 : decode cX9_parts 16 = .ok (.astore_n 2, 1) := by decide +kernel
theorem dX9_parts_17 : decode cX9_parts 17 = .ok (.aload_n 2, 1) := by decide +kernel
theorem dX9_parts_18 : decode cX9_parts 18 = .ok (.getfield 130, 3) := by decide +kernel
theorem dX9_parts_21 : decode cX9_parts 21 = .ok (.iconst 2, 1) := by decide +kernel
theorem dX9_parts_22 : decode cX9_parts 22 = .ok (.if_icmp .ne 10, 3) := by decide +kernel
theorem dX9_parts_32 : decode cX9_parts 32 = .ok (.bipush (-3), 2) := by decide +kernel
theorem dX9_parts_34 : decode cX9_parts 34 = .ok (.ireturn, 1) := by decide +kernel
theorem dX9_parts_25 : decode cX9_parts 25 = .ok (.aload_n 2, 1) := by decide +kernel
theorem dX9_parts_26 : decode cX9_parts 26 = .ok (.getfield 139, 3) := by decide +kernel
theorem dX9_parts_29 : decode cX9_parts 29 = .ok (.ifCond .eq 6, 3) := by decide +kernel
theorem dX9_parts_35 : decode cX9_parts 35 = .ok (.iconst 0, 1) := by decide +kernel
theorem dX9_parts_36 : decode cX9_parts 36 = .ok (.istore_n 3, 1) := by decide +kernel
theorem dX9_parts_37 : decode cX9_parts 37 = .ok (.aload_n 0, 1) := by decide +kernel
theorem dX9_parts_38 : decode cX9_parts 38 = .ok (.getfield 77, 3) := by decide +kernel
theorem dX9_parts_41 : decode cX9_parts 41 = .ok (.invokevirtual 256, 3) := by decide +kernel
theorem dX9_parts_44 : decode cX9_parts 44 = .ok (.istore 4, 2) := by decide +kernel
theorem dX9_parts_46 : decode cX9_parts 46 = .ok (.iconst 0, 1) := by decide +kernel
theorem dX9_parts_47 : decode cX9_parts 47 = .ok (.istore 5, 2) := by decide +kernel
theorem dX9_parts_96 : decode cX9_parts 96 = .ok (.iload_n 3, 1) := by decide +kernel
theorem dX9_parts_97 : decode cX9_parts 97 = .ok (.ireturn, 1) := by decide +kernel
theorem dX9_parts_8 : decode cX9_parts 8 = .ok (.bipush (-2), 2) := by decide +kernel
theorem dX9_parts_10 : decode cX9_parts 10 = .ok (.ireturn, 1) := by decide +kernel
set_option maxHeartbeats 1000000 in
set_option maxRecDepth 100000 in
theorem d_e8r (l : Launch) (D : va_G) (z : Nat → Nat) (cB cI_ cO : ClassId) (L0 : List Nat) (g0 : hG) (dk tp rd els reo nob bk gl mo : Nat) (pr pcs spr nwh cp : Nat) (pa : List Nat) (ea : Nat → Nat) (P : List Q4) (ne : Nat) (EE : Nat → E5) (sl : Nat) (v10 v11 : Int32) (rw_ : Nat) (h_dk : ho L0 g0 dk 1 (.inr (10, [.ref tp, .ref rd, .ref els, .ref reo, .ref nob, .ref pr, .ref bk, .ref gl, .ref sl, .int (nI mo), .int v10, .int v11]))) (hmo1 : 10 ≤ mo) (hmo : mo ≤ 40) (hrw : rw_ ≤ 60000) : eIs l D yX9_eighthsOfRows cX9_eighthsOfRows 2 (some .int) 0 0 0 0 [.ref dk, .int (nI rw_)] z cB cI_ cO L0 g0 (fun r => r = nI (8 * rw_ / mo)) := by
  refine o_si (by decide) (Nat.le_of_ble_eq_true rfl) ?_
  intro p e s m below meth c A ls hf hr hlocks hin hK hP hD hS hA hZ hN hl
  obtain ⟨hx, hb, hml, hown, hts⟩ := id hf
  have hl : lv_has ls 2 [(0, .ref dk), (1, .int (nI rw_))] := hl
  refine lv_aload_n hx hb dX9_eighthsOfRows_0 rfl (lv_at hl 0 rfl) ?_
  refine o_get (D := D) (ci := 10) (v := .int (nI mo)) (C := RX9) (T := TX9) (N := 12) hx hb hts inX9 hown hK hP h_dk rfl 9 (by decide) (hts _ k_438) (fun _ h9 => h9) rfl dX9_eighthsOfRows_1 ?_
  refine lv_bipush (v := 10) hx hb dX9_eighthsOfRows_4 (by decide) ?_
  refine lv_icmp_ge (tgt := 13) hx hb dX9_eighthsOfRows_6 (by decide) (fun c_1 => ?_) (fun c_1 => ?_)
  · have c_1 := q_le (a := 10) (b := mo) (by omega) (by omega) c_1
    refine lv_bipush (v := 8) hx hb dX9_eighthsOfRows_13 (by decide) ?_
    refine lv_iload_n hx hb dX9_eighthsOfRows_15 rfl (lv_at hl 1 rfl) ?_
    refine lv_imul hx hb dX9_eighthsOfRows_16 ?_
    refine q_seti (y := nI (8 * rw_)) (nI_mulE (a := 8) (b := rw_) (by omega)) ?_
    refine lv_aload_n hx hb dX9_eighthsOfRows_17 rfl (lv_at hl 0 rfl) ?_
    refine o_get (D := D) (ci := 10) (v := .int (nI mo)) (C := RX9) (T := TX9) (N := 12) hx hb hts inX9 hown hK hP h_dk rfl 9 (by decide) (hts _ k_438) (fun _ h9 => h9) rfl dX9_eighthsOfRows_18 ?_
    refine lv_idiv hx hb dX9_eighthsOfRows_21 (nI_ne0 (by omega) (by omega)) ?_
    refine q_seti (y := nI ((8 * rw_) / mo)) (nI_divE (a := 8 * rw_) (b := mo) (by omega) (by omega) (by omega) rfl) ?_
    exact o_ri hf hr rfl hlocks hK hP hD hS (show 0 ≤ 0 by omega) (show 0 ≤ 0 by omega) ⟨rfl, rfl, rfl⟩ dX9_eighthsOfRows_22
  · have c_1 := q_nle (a := 10) (b := mo) (by omega) (by omega) c_1
    exact False.elim (by omega)
set_option maxHeartbeats 1000000 in
set_option maxRecDepth 100000 in
theorem d_e8 (l : Launch) (D : va_G) (z : Nat → Nat) (cB cI_ cO : ClassId) (L0 : List Nat) (g0 : hG) (dk tp rd els reo nob bk gl mo : Nat) (pr pcs spr nwh cp : Nat) (pa : List Nat) (ea : Nat → Nat) (P : List Q4) (ne : Nat) (EE : Nat → E5) (sl : Nat) (v10 v11 : Int32) (fm to_ ss : Nat) (h_dk : ho L0 g0 dk 1 (.inr (10, [.ref tp, .ref rd, .ref els, .ref reo, .ref nob, .ref pr, .ref bk, .ref gl, .ref sl, .int (nI mo), .int v10, .int v11]))) (h_pr : ho L0 g0 pr 13 (.inr (7, [.ref pcs, .ref spr, .ref nwh]))) (h_pcs : alR cO (z 0) 14 15 L0 g0 pcs cp pa) (h_pc : pcR L0 g0 ea pa P) (h_es : esR cB cI_ L0 g0 ea ne EE) (h_sl : ho L0 g0 sl 29 (.inr (8, [.ref pr]))) (hmo1 : 10 ≤ mo) (hmo : mo ≤ 40) (hpa : pa.length ≤ 20000) (hQ : pq_ok ne EE P) (hft : fm ≤ to_) (hto : to_ ≤ pa.length) (hSn : qS P pa.length ≤ 8000) (hbf : bgs EE P pa.length ss fm) (hsc : ss < pcnt (bgq EE P 0) pa.length) : eIs l D yX9_eighthsOf cX9_eighthsOf 5 (some .int) 9 225 0 0 [.ref dk, .int (nI fm), .int (nI to_)] z cB cI_ cO L0 g0 (fun r => True) := by
  refine o_si (by decide) (Nat.le_of_ble_eq_true rfl) ?_
  intro p e s m below meth c A ls hf hr hlocks hin hK hP hD hS hA hZ hN hl
  obtain ⟨hx, hb, hml, hown, hts⟩ := id hf
  have hl : lv_has ls 5 [(0, .ref dk), (1, .int (nI fm)), (2, .int (nI to_))] := hl
  have hsm2 := pspan_mo EE P hft
  have hsp1 := pspan_le EE P fm
  have hsp2 := pspan_le EE P to_
  have hqm1 := qS_m P (show fm ≤ pa.length by omega)
  have hqm2 := qS_m P hto
  refine lv_aload_n hx hb dX9_eighthsOf_0 rfl (lv_at hl 0 rfl) ?_
  refine o_get (D := D) (ci := 10) (v := .ref sl) (C := RX9) (T := TX9) (N := 12) hx hb hts inX9 hown hK hP h_dk rfl 8 (by decide) (hts _ k_437) (fun _ h9 => h9) rfl dX9_eighthsOf_1 ?_
  refine lv_aload_n hx hb dX9_eighthsOf_4 rfl (lv_at hl 0 rfl) ?_
  refine o_get (D := D) (ci := 10) (v := .ref sl) (C := RX9) (T := TX9) (N := 12) hx hb hts inX9 hown hK hP h_dk rfl 8 (by decide) (hts _ k_437) (fun _ h9 => h9) rfl dX9_eighthsOf_5 ?_
  refine lv_iconst (v := 0) hx hb dX9_eighthsOf_8 (by decide) ?_
  refine o_cis (k := 0) (n := 0) hK hP hD hS hA (o_rV (As := [.int 0]) (rest := [.ref sl]) hf (sl_begin2 _ _ _ _ _ _ _ _ pr pcs spr nwh cp pa ea P ne EE sl 0 h_pr h_pcs h_pc h_es h_sl hpa hQ (by omega) _) k_1060 k_1057 k_1058 k_1059 k_97 (nA := 1) (by decide +kernel) ⟨Nat.le_of_ble_eq_true rfl, Nat.le_of_ble_eq_true rfl⟩ hK hP hD hS hA hZ hN h_sl rfl rfl rfl hl.1 rfl (Nat.le_of_ble_eq_true rfl) dX9_eighthsOf_9 ⟨(show 0 + 0 ≤ 0 by omega), (show 0 + 0 ≤ 0 by omega)⟩) (Nat.le_refl _) (Nat.le_refl _) (fun r H locs hw hP hD hS => ?_)
  obtain ⟨t1, rfl, ht1⟩ := hw
  have hlt1 := bgs_le ht1
  have hk1 := bgs_in ht1 (show 0 < pcnt (bgq EE P 0) pa.length by omega)
  have hk2 := bgs_mw ht1 hbf (Nat.zero_le _) hk1
  have hsm1 := pspan_mo EE P hk2
  refine lv_iload_n hx hb dX9_eighthsOf_12 rfl (lv_at hl 1 rfl) ?_
  refine o_cis (k := 0) (n := 0) hK hP hD hS hA (o_rV (As := [.int (nI t1), .int (nI fm)]) (rest := []) hf (sl_span _ _ _ _ _ _ _ _ pr pcs spr nwh cp pa ea P ne EE sl t1 fm h_pr h_pcs h_pc h_es h_sl hpa hQ (by omega) (by omega) hSn _) k_1080 k_1077 k_1078 k_1079 k_97 (nA := 2) (by decide +kernel) ⟨Nat.le_of_ble_eq_true rfl, Nat.le_of_ble_eq_true rfl⟩ hK hP hD hS hA hZ hN h_sl rfl rfl rfl hl.1 rfl (Nat.le_of_ble_eq_true rfl) dX9_eighthsOf_13 ⟨(show 0 + 0 ≤ 0 by omega), (show 0 + 0 ≤ 0 by omega)⟩) (Nat.le_refl _) (Nat.le_refl _) (fun r H locs hw hP hD hS => ?_)
  obtain rfl := hw
  refine lv_istore_n (lv' := [(3, .int (nI ((pspan EE P fm - pspan EE P t1)))), (0, .ref dk), (1, .int (nI fm)), (2, .int (nI to_))]) hx hb dX9_eighthsOf_16 rfl hl (by decide) rfl (fun ls hl => ?_)
  refine lv_iload_n hx hb dX9_eighthsOf_17 rfl (lv_at hl 0 rfl) ?_
  refine lv_aload_n hx hb dX9_eighthsOf_18 rfl (lv_at hl 1 rfl) ?_
  refine o_get (D := D) (ci := 10) (v := .ref sl) (C := RX9) (T := TX9) (N := 12) hx hb hts inX9 hown hK hP h_dk rfl 8 (by decide) (hts _ k_437) (fun _ h9 => h9) rfl dX9_eighthsOf_19 ?_
  refine lv_iload_n hx hb dX9_eighthsOf_22 rfl (lv_at hl 2 rfl) ?_
  refine lv_iload_n hx hb dX9_eighthsOf_23 rfl (lv_at hl 3 rfl) ?_
  refine o_cis (k := 0) (n := 0) hK hP hD hS hA (o_rV (As := [.int (nI fm), .int (nI to_)]) (rest := [.int (nI ((pspan EE P fm - pspan EE P t1)))]) hf (sl_span _ _ _ _ _ _ _ _ pr pcs spr nwh cp pa ea P ne EE sl fm to_ h_pr h_pcs h_pc h_es h_sl hpa hQ (by omega) (by omega) hSn _) k_1080 k_1077 k_1078 k_1079 k_97 (nA := 2) (by decide +kernel) ⟨Nat.le_of_ble_eq_true rfl, Nat.le_of_ble_eq_true rfl⟩ hK hP hD hS hA hZ hN h_sl rfl rfl rfl hl.1 rfl (Nat.le_of_ble_eq_true rfl) dX9_eighthsOf_24 ⟨(show 0 + 0 ≤ 0 by omega), (show 0 + 0 ≤ 0 by omega)⟩) (Nat.le_refl _) (Nat.le_refl _) (fun r H locs hw hP hD hS => ?_)
  obtain rfl := hw
  refine lv_iadd hx hb dX9_eighthsOf_27 ?_
  refine q_seti (y := nI (pspan EE P to_ - pspan EE P t1)) (nI_addE (a := (pspan EE P fm - pspan EE P t1)) (b := (pspan EE P to_ - pspan EE P fm)) (by omega)) ?_
  refine lv_istore (lv' := [(4, .int (nI (pspan EE P to_ - pspan EE P t1))), (3, .int (nI ((pspan EE P fm - pspan EE P t1)))), (0, .ref dk), (1, .int (nI fm)), (2, .int (nI to_))]) hx hb dX9_eighthsOf_28 hl (by decide) rfl (fun ls hl => ?_)
  refine lv_aload_n hx hb dX9_eighthsOf_30 rfl (lv_at hl 2 rfl) ?_
  refine lv_iload hx hb dX9_eighthsOf_31 (lv_at hl 0 rfl) ?_
  refine o_cis (k := 0) (n := 0) hK hP hD hS hA (o_rV (As := [.int (nI (pspan EE P to_ - pspan EE P t1))]) (rest := []) hf (d_e8r _ _ _ _ _ _ _ _ dk tp rd els reo nob bk gl mo pr pcs spr nwh cp pa ea P ne EE sl v10 v11 (pspan EE P to_ - pspan EE P t1) h_dk hmo1 hmo (by omega) _) k_1089 k_1086 k_1088 k_41 k_84 (nA := 1) (by decide +kernel) ⟨Nat.le_of_ble_eq_true rfl, Nat.le_of_ble_eq_true rfl⟩ hK hP hD hS hA hZ hN h_dk rfl rfl rfl hl.1 rfl (Nat.le_of_ble_eq_true rfl) dX9_eighthsOf_33 ⟨(show 0 + 0 ≤ 0 by omega), (show 0 + 0 ≤ 0 by omega)⟩) (Nat.le_refl _) (Nat.le_refl _) (fun r H locs hw hP hD hS => ?_)
  obtain rfl := hw
  refine lv_aload_n hx hb dX9_eighthsOf_36 rfl (lv_at hl 2 rfl) ?_
  refine lv_iload_n hx hb dX9_eighthsOf_37 rfl (lv_at hl 1 rfl) ?_
  refine o_cis (k := 0) (n := 0) hK hP hD hS hA (o_rV (As := [.int (nI ((pspan EE P fm - pspan EE P t1)))]) (rest := [.int (nI (8 * (pspan EE P to_ - pspan EE P t1) / mo))]) hf (d_e8r _ _ _ _ _ _ _ _ dk tp rd els reo nob bk gl mo pr pcs spr nwh cp pa ea P ne EE sl v10 v11 ((pspan EE P fm - pspan EE P t1)) h_dk hmo1 hmo (by omega) _) k_1089 k_1086 k_1088 k_41 k_84 (nA := 1) (by decide +kernel) ⟨Nat.le_of_ble_eq_true rfl, Nat.le_of_ble_eq_true rfl⟩ hK hP hD hS hA hZ hN h_dk rfl rfl rfl hl.1 rfl (Nat.le_of_ble_eq_true rfl) dX9_eighthsOf_38 ⟨(show 0 + 0 ≤ 0 by omega), (show 0 + 0 ≤ 0 by omega)⟩) (Nat.le_refl _) (Nat.le_refl _) (fun r H locs hw hP hD hS => ?_)
  obtain rfl := hw
  refine lv_isub hx hb dX9_eighthsOf_41 ?_
  exact o_ri hf hr rfl hlocks hK hP hD hS (show 0 ≤ 0 by omega) (show 0 ≤ 0 by omega) ⟨trivial, rfl, rfl⟩ dX9_eighthsOf_42
set_option maxHeartbeats 1000000 in
set_option maxRecDepth 100000 in
theorem d_scene (l : Launch) (D : va_G) (z : Nat → Nat) (cB cI_ cO : ClassId) (L0 : List Nat) (g0 : hG) (dk tp rd els reo nob bk gl mo : Nat) (pr pcs spr nwh cp : Nat) (pa : List Nat) (ea : Nat → Nat) (P : List Q4) (ne : Nat) (EE : Nat → E5) (sl : Nat) (v10 v11 : Int32) (x1 x2 : Int32) (h_dk : ho L0 g0 dk 1 (.inr (10, [.ref tp, .ref rd, .ref els, .ref reo, .ref nob, .ref pr, .ref bk, .ref gl, .ref sl, .int (nI mo), .int v10, .int v11]))) (h_pr : ho L0 g0 pr 13 (.inr (7, [.ref pcs, .ref spr, .ref nwh]))) (h_pcs : alR cO (z 0) 14 15 L0 g0 pcs cp pa) (h_pc : pcR L0 g0 ea pa P) (h_es : esR cB cI_ L0 g0 ea ne EE) (h_sl : ho L0 g0 sl 29 (.inr (8, [.ref pr]))) (hmo1 : 10 ≤ mo) (hmo : mo ≤ 40) (hpa : pa.length ≤ 20000) (hQ : pq_ok ne EE P) (hSn : qS P pa.length ≤ 8000) : eIs l D yX9_scene cX9_scene 5 (some .int) 10 264 0 0 [.ref dk, .int x1, .int x2] z cB cI_ cO L0 g0 (fun r => True) := by
  refine o_si (by decide) (Nat.le_of_ble_eq_true rfl) ?_
  intro p e s m below meth c A ls hf hr hlocks hin hK hP hD hS hA hZ hN hl
  obtain ⟨hx, hb, hml, hown, hts⟩ := id hf
  have hl : lv_has ls 5 [(0, .ref dk), (1, .int x1), (2, .int x2)] := hl
  refine lv_iload_n hx hb dX9_scene_0 rfl (lv_at hl 1 rfl) ?_
  refine lv_if_lt (tgt := 15) hx hb dX9_scene_1 (by decide) (fun c_1 => ?_) (fun c_1 => ?_)
  · refine lv_bipush (v := (-2)) hx hb dX9_scene_15 (by decide) ?_
    exact o_ri hf hr rfl hlocks hK hP hD hS (show 0 ≤ 0 by omega) (show 0 ≤ 0 by omega) ⟨trivial, rfl, rfl⟩ dX9_scene_17
  · refine lv_iload_n hx hb dX9_scene_4 rfl (lv_at hl 1 rfl) ?_
    refine lv_aload_n hx hb dX9_scene_5 rfl (lv_at hl 0 rfl) ?_
    refine o_get (D := D) (ci := 10) (v := .ref sl) (C := RX9) (T := TX9) (N := 12) hx hb hts inX9 hown hK hP h_dk rfl 8 (by decide) (hts _ k_437) (fun _ h9 => h9) rfl dX9_scene_6 ?_
    refine o_cis (k := 0) (n := 0) hK hP hD hS hA (o_rV (As := []) (rest := [.int x1]) hf (sl_count _ _ _ _ _ _ _ _ pr pcs spr nwh cp pa ea P ne EE sl h_pr h_pcs h_pc h_es h_sl hpa hQ _) k_1045 k_1042 k_1043 k_1044 k_97 (nA := 0) (by decide +kernel) ⟨Nat.le_of_ble_eq_true rfl, Nat.le_of_ble_eq_true rfl⟩ hK hP hD hS hA hZ hN h_sl rfl rfl rfl hl.1 rfl (Nat.le_of_ble_eq_true rfl) dX9_scene_9 ⟨(show 0 + 0 ≤ 0 by omega), (show 0 + 0 ≤ 0 by omega)⟩) (Nat.le_refl _) (Nat.le_refl _) (fun r H locs hw hP hD hS => ?_)
    obtain rfl := hw
    refine lv_icmp_lt (tgt := 18) hx hb dX9_scene_12 (by decide) (fun c_2 => ?_) (fun c_2 => ?_)
    · have hpl9 := pcnt_le (bgq EE P 0) pa.length
      obtain ⟨ss, hss, rfl⟩ := ix_lt (by omega) c_1 c_2
      have hl : lv_has ls 5 [(0, .ref dk), (1, .int (nI ss)), (2, .int x2)] := hl
      refine lv_aload_n hx hb dX9_scene_18 rfl (lv_at hl 0 rfl) ?_
      refine o_get (D := D) (ci := 10) (v := .ref sl) (C := RX9) (T := TX9) (N := 12) hx hb hts inX9 hown hK hP h_dk rfl 8 (by decide) (hts _ k_437) (fun _ h9 => h9) rfl dX9_scene_19 ?_
      refine lv_iload_n hx hb dX9_scene_22 rfl (lv_at hl 1 rfl) ?_
      refine o_cis (k := 0) (n := 0) hK hP hD hS hA (o_rV (As := [.int (nI ss)]) (rest := []) hf (sl_begin2 _ _ _ _ _ _ _ _ pr pcs spr nwh cp pa ea P ne EE sl ss h_pr h_pcs h_pc h_es h_sl hpa hQ (by omega) _) k_1060 k_1057 k_1058 k_1059 k_97 (nA := 1) (by decide +kernel) ⟨Nat.le_of_ble_eq_true rfl, Nat.le_of_ble_eq_true rfl⟩ hK hP hD hS hA hZ hN h_sl rfl rfl rfl hl.1 rfl (Nat.le_of_ble_eq_true rfl) dX9_scene_23 ⟨(show 0 + 0 ≤ 0 by omega), (show 0 + 0 ≤ 0 by omega)⟩) (Nat.le_refl _) (Nat.le_refl _) (fun r H locs hw hP hD hS => ?_)
      obtain ⟨t3, rfl, ht3⟩ := hw
      have hlt3 := bgs_le ht3
      have hk1 := bgs_in ht3 (show ss < pcnt (bgq EE P 0) pa.length by omega)
      refine lv_istore_n (lv' := [(3, .int (nI t3)), (0, .ref dk), (1, .int (nI ss)), (2, .int x2)]) hx hb dX9_scene_26 rfl hl (by decide) rfl (fun ls hl => ?_)
      refine lv_aload_n hx hb dX9_scene_27 rfl (lv_at hl 1 rfl) ?_
      refine o_get (D := D) (ci := 10) (v := .ref sl) (C := RX9) (T := TX9) (N := 12) hx hb hts inX9 hown hK hP h_dk rfl 8 (by decide) (hts _ k_437) (fun _ h9 => h9) rfl dX9_scene_28 ?_
      refine lv_iload_n hx hb dX9_scene_31 rfl (lv_at hl 2 rfl) ?_
      refine lv_iconst (v := 1) hx hb dX9_scene_32 (by decide) ?_
      refine lv_iadd hx hb dX9_scene_33 ?_
      refine q_seti (y := nI (ss + 1)) (nI_addE (a := ss) (b := 1) (by omega)) ?_
      refine o_cis (k := 0) (n := 0) hK hP hD hS hA (o_rV (As := [.int (nI (ss + 1))]) (rest := []) hf (sl_begin2 _ _ _ _ _ _ _ _ pr pcs spr nwh cp pa ea P ne EE sl (ss + 1) h_pr h_pcs h_pc h_es h_sl hpa hQ (by omega) _) k_1060 k_1057 k_1058 k_1059 k_97 (nA := 1) (by decide +kernel) ⟨Nat.le_of_ble_eq_true rfl, Nat.le_of_ble_eq_true rfl⟩ hK hP hD hS hA hZ hN h_sl rfl rfl rfl hl.1 rfl (Nat.le_of_ble_eq_true rfl) dX9_scene_34 ⟨(show 0 + 0 ≤ 0 by omega), (show 0 + 0 ≤ 0 by omega)⟩) (Nat.le_refl _) (Nat.le_refl _) (fun r H locs hw hP hD hS => ?_)
      obtain ⟨t4, rfl, ht4⟩ := hw
      have hlt4 := bgs_le ht4
      have hk2 := bgs_mo ht3 ht4 (show ss < ss + 1 by omega) hk1
      refine lv_istore (lv' := [(4, .int (nI t4)), (3, .int (nI t3)), (0, .ref dk), (1, .int (nI ss)), (2, .int x2)]) hx hb dX9_scene_37 hl (by decide) rfl (fun ls hl => ?_)
      refine lv_iload_n hx hb dX9_scene_39 rfl (lv_at hl 4 rfl) ?_
      rcases q_sw_0_4 x2 with c_5 | c_5 | c_5 | c_5 | c_5 | c_5
      · refine q_seti (y := 0) c_5 ?_
        refine lv_tableIn (off := 36) (tgt := 76) hx hb dX9_scene_40 (by decide) (by decide) (by decide) (by decide) ?_
        refine lv_aload_n hx hb dX9_scene_76 rfl (lv_at hl 2 rfl) ?_
        refine o_get (D := D) (ci := 10) (v := .ref pr) (C := RX9) (T := TX9) (N := 12) hx hb hts inX9 hown hK hP h_dk rfl 5 (by decide) (hts _ k_434) (fun _ h9 => h9) rfl dX9_scene_77 ?_
        refine lv_iload_n hx hb dX9_scene_80 rfl (lv_at hl 1 rfl) ?_
        refine o_crs (k := 0) (n := 0) hK hP hD hS hA (o_rV (As := [.int (nI t3)]) (rest := []) hf (p_atI _ _ _ _ _ _ _ _ pr pcs spr nwh cp pa ea P t3 h_pr h_pcs h_pc hpa (by omega) _) k_775 k_945 k_773 k_774 k_92 (nA := 1) (by decide +kernel) ⟨Nat.le_of_ble_eq_true rfl, Nat.le_of_ble_eq_true rfl⟩ hK hP hD hS hA hZ hN h_pr rfl rfl rfl hl.1 rfl (Nat.le_of_ble_eq_true rfl) dX9_scene_81 ⟨(show 0 + 0 ≤ 0 by omega), (show 0 + 0 ≤ 0 by omega)⟩) (Nat.le_refl _) (Nat.le_refl _) (fun r H locs hw hP hD hS => ?_)
        obtain rfl := hw
        have h_p6 := h_pc.2 t3 (by omega)
        have hpl_ := h_pc.1
        have hq_p6 := hQ t3 (by omega)
        have hr_p6 := h_es.rb hq_p6.1
        refine o_get (D := D) (ci := 6) (v := .ref (ea (P.getD t3 d4).1)) (C := RX5) (T := TX5) (N := 4) hx hb hts inX5 hown hK hP h_p6 rfl 0 (by decide) (hts _ k_282) (fun _ h9 => h9) rfl dX9_scene_84 ?_
        obtain ⟨tx6, rf6, rt6, h_e6⟩ := h_es.ob hq_p6.1
        refine o_get (D := D) (ci := 2) (v := .int ((EE (P.getD t3 d4).1).2.1)) (C := RX1) (T := TX1) (N := 9) hx hb hts inX1 hown hK hP h_e6 rfl 1 (by decide) (hts _ k_234) (fun _ h9 => h9) rfl dX9_scene_87 ?_
        exact o_ri hf hr rfl hlocks hK hP hD hS (show 0 ≤ 0 by omega) (show 0 ≤ 0 by omega) ⟨trivial, rfl, rfl⟩ dX9_scene_90
      · refine q_seti (y := 1) c_5 ?_
        refine lv_tableIn (off := 51) (tgt := 91) hx hb dX9_scene_40 (by decide) (by decide) (by decide) (by decide) ?_
        refine lv_aload_n hx hb dX9_scene_91 rfl (lv_at hl 2 rfl) ?_
        refine o_get (D := D) (ci := 10) (v := .ref sl) (C := RX9) (T := TX9) (N := 12) hx hb hts inX9 hown hK hP h_dk rfl 8 (by decide) (hts _ k_437) (fun _ h9 => h9) rfl dX9_scene_92 ?_
        refine lv_iload_n hx hb dX9_scene_95 rfl (lv_at hl 1 rfl) ?_
        refine lv_iload hx hb dX9_scene_96 (lv_at hl 0 rfl) ?_
        refine o_cis (k := 0) (n := 0) hK hP hD hS hA (o_rV (As := [.int (nI t3), .int (nI t4)]) (rest := []) hf (sl_people _ _ _ _ _ _ _ _ pr pcs spr nwh cp pa ea P ne EE sl t3 t4 h_pr h_pcs h_pc h_es h_sl hpa hQ (by omega) (by omega) _) k_1064 k_1061 k_1062 k_1063 k_97 (nA := 2) (by decide +kernel) ⟨Nat.le_of_ble_eq_true rfl, Nat.le_of_ble_eq_true rfl⟩ hK hP hD hS hA hZ hN h_sl rfl rfl rfl hl.1 rfl (Nat.le_of_ble_eq_true rfl) dX9_scene_98 ⟨(show 0 + 0 ≤ 0 by omega), (show 0 + 0 ≤ 0 by omega)⟩) (Nat.le_refl _) (Nat.le_refl _) (fun r H locs hw hP hD hS => ?_)
        obtain rfl := hw
        exact o_ri hf hr rfl hlocks hK hP hD hS (show 0 ≤ 0 by omega) (show 0 ≤ 0 by omega) ⟨trivial, rfl, rfl⟩ dX9_scene_101
      · refine q_seti (y := 2) c_5 ?_
        refine lv_tableIn (off := 62) (tgt := 102) hx hb dX9_scene_40 (by decide) (by decide) (by decide) (by decide) ?_
        refine lv_aload_n hx hb dX9_scene_102 rfl (lv_at hl 2 rfl) ?_
        refine o_get (D := D) (ci := 10) (v := .ref sl) (C := RX9) (T := TX9) (N := 12) hx hb hts inX9 hown hK hP h_dk rfl 8 (by decide) (hts _ k_437) (fun _ h9 => h9) rfl dX9_scene_103 ?_
        refine lv_iload_n hx hb dX9_scene_106 rfl (lv_at hl 1 rfl) ?_
        refine lv_iload hx hb dX9_scene_107 (lv_at hl 0 rfl) ?_
        refine o_cis (k := 0) (n := 0) hK hP hD hS hA (o_rV (As := [.int (nI t3), .int (nI t4)]) (rest := []) hf (sl_span _ _ _ _ _ _ _ _ pr pcs spr nwh cp pa ea P ne EE sl t3 t4 h_pr h_pcs h_pc h_es h_sl hpa hQ (by omega) (by omega) hSn _) k_1080 k_1077 k_1078 k_1079 k_97 (nA := 2) (by decide +kernel) ⟨Nat.le_of_ble_eq_true rfl, Nat.le_of_ble_eq_true rfl⟩ hK hP hD hS hA hZ hN h_sl rfl rfl rfl hl.1 rfl (Nat.le_of_ble_eq_true rfl) dX9_scene_109 ⟨(show 0 + 0 ≤ 0 by omega), (show 0 + 0 ≤ 0 by omega)⟩) (Nat.le_refl _) (Nat.le_refl _) (fun r H locs hw hP hD hS => ?_)
        obtain rfl := hw
        exact o_ri hf hr rfl hlocks hK hP hD hS (show 0 ≤ 0 by omega) (show 0 ≤ 0 by omega) ⟨trivial, rfl, rfl⟩ dX9_scene_112
      · refine q_seti (y := 3) c_5 ?_
        refine lv_tableIn (off := 73) (tgt := 113) hx hb dX9_scene_40 (by decide) (by decide) (by decide) (by decide) ?_
        refine lv_aload_n hx hb dX9_scene_113 rfl (lv_at hl 2 rfl) ?_
        refine lv_iload_n hx hb dX9_scene_114 rfl (lv_at hl 1 rfl) ?_
        refine lv_iload hx hb dX9_scene_115 (lv_at hl 0 rfl) ?_
        refine o_cis (k := 0) (n := 0) hK hP hD hS hA (o_rV (As := [.int (nI t3), .int (nI t4)]) (rest := []) hf (d_e8 _ _ _ _ _ _ _ _ dk tp rd els reo nob bk gl mo pr pcs spr nwh cp pa ea P ne EE sl v10 v11 t3 t4 ss h_dk h_pr h_pcs h_pc h_es h_sl hmo1 hmo hpa hQ (by omega) (by omega) hSn ht3 hss _) k_1085 k_1082 k_1084 k_40 k_84 (nA := 2) (by decide +kernel) ⟨Nat.le_of_ble_eq_true rfl, Nat.le_of_ble_eq_true rfl⟩ hK hP hD hS hA hZ hN h_dk rfl rfl rfl hl.1 rfl (Nat.le_of_ble_eq_true rfl) dX9_scene_117 ⟨(show 0 + 0 ≤ 0 by omega), (show 0 + 0 ≤ 0 by omega)⟩) (Nat.le_refl _) (Nat.le_refl _) (fun r H locs hw hP hD hS => ?_)
        obtain _ := hw
        exact o_ri hf hr rfl hlocks hK hP hD hS (show 0 ≤ 0 by omega) (show 0 ≤ 0 by omega) ⟨trivial, rfl, rfl⟩ dX9_scene_120
      · refine q_seti (y := 4) c_5 ?_
        refine lv_tableIn (off := 81) (tgt := 121) hx hb dX9_scene_40 (by decide) (by decide) (by decide) (by decide) ?_
        refine lv_aload_n hx hb dX9_scene_121 rfl (lv_at hl 2 rfl) ?_
        refine o_get (D := D) (ci := 10) (v := .ref sl) (C := RX9) (T := TX9) (N := 12) hx hb hts inX9 hown hK hP h_dk rfl 8 (by decide) (hts _ k_437) (fun _ h9 => h9) rfl dX9_scene_122 ?_
        refine lv_iload_n hx hb dX9_scene_125 rfl (lv_at hl 1 rfl) ?_
        refine lv_iload hx hb dX9_scene_126 (lv_at hl 0 rfl) ?_
        refine o_cis (k := 0) (n := 0) hK hP hD hS hA (o_rV (As := [.int (nI t3), .int (nI t4)]) (rest := []) hf (sl_elin _ _ _ _ _ _ _ _ pr pcs spr nwh cp pa ea P ne EE sl t3 t4 h_pr h_pcs h_pc h_es h_sl hpa hQ (by omega) (by omega) _) k_1093 k_1090 k_1091 k_1092 k_97 (nA := 2) (by decide +kernel) ⟨Nat.le_of_ble_eq_true rfl, Nat.le_of_ble_eq_true rfl⟩ hK hP hD hS hA hZ hN h_sl rfl rfl rfl hl.1 rfl (Nat.le_of_ble_eq_true rfl) dX9_scene_128 ⟨(show 0 + 0 ≤ 0 by omega), (show 0 + 0 ≤ 0 by omega)⟩) (Nat.le_refl _) (Nat.le_refl _) (fun r H locs hw hP hD hS => ?_)
        obtain rfl := hw
        exact o_ri hf hr rfl hlocks hK hP hD hS (show 0 ≤ 0 by omega) (show 0 ≤ 0 by omega) ⟨trivial, rfl, rfl⟩ dX9_scene_131
      · refine lv_tableOut (tgt := 132) hx hb dX9_scene_40 c_5 (by decide) ?_
        refine lv_bipush (v := (-2)) hx hb dX9_scene_132 (by decide) ?_
        exact o_ri hf hr rfl hlocks hK hP hD hS (show 0 ≤ 0 by omega) (show 0 ≤ 0 by omega) ⟨trivial, rfl, rfl⟩ dX9_scene_134
    · refine lv_bipush (v := (-2)) hx hb dX9_scene_15 (by decide) ?_
      exact o_ri hf hr rfl hlocks hK hP hD hS (show 0 ≤ 0 by omega) (show 0 ≤ 0 by omega) ⟨trivial, rfl, rfl⟩ dX9_scene_17
set_option maxHeartbeats 1000000 in
set_option maxRecDepth 100000 in
theorem pt_loop {p : Program} {l : Launch} {e : Env} {R : Room} {s : State} {m : MethodId} {args : Array Value} {below : List Frame} {meth : Method} {c : Code} {Q : State → Prop} {D : va_G} {A : Nat → Prop} {z : Nat → Nat} {cB cI_ cO : ClassId} {L0 : List Nat} {g0 : hG} {cells slots : Nat} {dk tp rd els reo nob bk gl mo : Nat} {pr pcs spr nwh cp : Nat} {pa : List Nat} {ea : Nat → Nat} {P : List Q4} {ne : Nat} {EE : Nat → E5} {sl : Nat} {v10 v11 : Int32} {el2 tx2 rf2 rt2 rn2 w2 N2 : Nat} {kd2 nm2 sk2 : Int32} {Y : List Int32} {tg : Nat → Int32} (h_dk : ho L0 g0 dk 1 (.inr (10, [.ref tp, .ref rd, .ref els, .ref reo, .ref nob, .ref pr, .ref bk, .ref gl, .ref sl, .int (nI mo), .int v10, .int v11]))) (h_pr : ho L0 g0 pr 13 (.inr (7, [.ref pcs, .ref spr, .ref nwh]))) (h_pcs : alR cO (z 0) 14 15 L0 g0 pcs cp pa) (h_pc : pcR L0 g0 ea pa P) (h_es : esR cB cI_ L0 g0 ea ne EE) (h_sl : ho L0 g0 sl 29 (.inr (8, [.ref pr]))) (h_em : ho L0 g0 el2 9 (.inr (2, [.int kd2, .int nm2, .int sk2, .ref tx2, .int (nI (Y.length)), .int (nI w2), .ref rf2, .ref rt2, .int (nI rn2)]))) (h_ty : ho L0 g0 tx2 10 (.inl (cB, N2, .inl tg))) (hpa : pa.length ≤ 20000) (hQ : pq_ok ne EE P) (hY : tx_is Y tg) (hN2 : Y.length ≤ N2) (hN3 : N2 ≤ 1200) (hRf : 9 ≤ R.frames) (hRl : 230 ≤ R.locals) (hRc : cells ≤ R.cells) (hRs : slots ≤ R.slots) (hA : ∀ q : Nat, s.heap.size ≤ q → A q) (hf : CallFix p m c cX9_parts 6 s args gT yX9_parts.cls) (hK : va_K D vcl (dT cB cI_ cO) s) (hZ : zA z A s s.heap) (hN : zB z s) :
    ∀ (k : Nat) (i : Nat) (c9 : Nat) (H : Heap) (locs : List Loc) (ls : Array Slot), i + k = pcnt (bgq EE P 0) pa.length → c9 ≤ i → va_P D vcl (dW L0 g0) H → va_D A (dW L0 g0) → va_S A s.heap H locs → lv_has ls 6 [(5, .int (nI i)), (3, .int (nI c9)), (0, .ref dk), (2, .ref el2), (4, .int (nI ((pcnt (bgq EE P 0) pa.length))))] →
    (∀ (c9 : Nat) (H : Heap) (locs : List Loc) (ls : Array Slot), va_P D vcl (dW L0 g0) H → va_D A (dW L0 g0) → va_S A s.heap H locs → lv_has ls 6 [(3, .int (nI c9)), (0, .ref dk)] → W p l e R s m args below meth c H locs cells slots Q (F0 m 96 ls [])) →
    W p l e R s m args below meth c H locs cells slots Q (F0 m 49 ls []) := by
  obtain ⟨hx, hb, hml, hown, hts⟩ := id hf
  have hpl9 := pcnt_le (bgq EE P 0) pa.length
  intro k
  induction k with
  | zero =>
    intro i c9 H locs ls hik hc9 hP hD hS hl kk
    refine lv_iload hx hb dX9_parts_49 (lv_at hl 0 rfl) ?_
    refine lv_iload hx hb dX9_parts_51 (lv_at hl 4 rfl) ?_
    refine lv_icmp_ge (tgt := 96) hx hb dX9_parts_53 (by decide) (fun c_1 => ?_) (fun c_1 => ?_)
    · have c_1 := q_le (a := (pcnt (bgq EE P 0) pa.length)) (b := i) (by omega) (by omega) c_1
      exact kk c9 H locs ls hP hD hS (lv_sub hl (l' := [(3, .int (nI c9)), (0, .ref dk)]) [1, 2] rfl)
    · have c_1 := q_nle (a := (pcnt (bgq EE P 0) pa.length)) (b := i) (by omega) (by omega) c_1
      exact False.elim (by omega)
  | succ k ih =>
    intro i c9 H locs ls hik hc9 hP hD hS hl kk
    refine lv_iload hx hb dX9_parts_49 (lv_at hl 0 rfl) ?_
    refine lv_iload hx hb dX9_parts_51 (lv_at hl 4 rfl) ?_
    refine lv_icmp_ge (tgt := 96) hx hb dX9_parts_53 (by decide) (fun c_1 => ?_) (fun c_1 => ?_)
    · have c_1 := q_le (a := (pcnt (bgq EE P 0) pa.length)) (b := i) (by omega) (by omega) c_1
      exact False.elim (by omega)
    · have c_1 := q_nle (a := (pcnt (bgq EE P 0) pa.length)) (b := i) (by omega) (by omega) c_1
      have hpl9 := pcnt_le (bgq EE P 0) pa.length
      refine lv_aload_n hx hb dX9_parts_56 rfl (lv_at hl 2 rfl) ?_
      refine o_get (D := D) (ci := 10) (v := .ref sl) (C := RX9) (T := TX9) (N := 12) hx hb hts inX9 hown hK hP h_dk rfl 8 (by decide) (hts _ k_437) (fun _ h9 => h9) rfl dX9_parts_57 ?_
      refine lv_aload_n hx hb dX9_parts_60 rfl (lv_at hl 2 rfl) ?_
      refine o_get (D := D) (ci := 10) (v := .ref sl) (C := RX9) (T := TX9) (N := 12) hx hb hts inX9 hown hK hP h_dk rfl 8 (by decide) (hts _ k_437) (fun _ h9 => h9) rfl dX9_parts_61 ?_
      refine lv_iload hx hb dX9_parts_64 (lv_at hl 0 rfl) ?_
      refine o_cis (k := cells) (n := slots) hK hP hD hS hA (o_rV (As := [.int (nI i)]) (rest := [.ref sl]) hf (sl_begin2 _ _ _ _ _ _ _ _ pr pcs spr nwh cp pa ea P ne EE sl i h_pr h_pcs h_pc h_es h_sl hpa hQ (by omega) _) k_1060 k_1057 k_1058 k_1059 k_97 (nA := 1) (by decide +kernel) ⟨Nat.le_trans (by decide) hRf, Nat.le_trans (by decide) hRl⟩ hK hP hD hS hA hZ hN h_sl rfl rfl rfl hl.1 rfl (Nat.le_of_ble_eq_true rfl) dX9_parts_66 ⟨(show cells + 0 ≤ R.cells by omega), (show slots + 0 ≤ R.slots by omega)⟩) (Nat.le_refl _) (Nat.le_refl _) (fun r H locs hw hP hD hS => ?_)
      obtain ⟨t2, rfl, ht2⟩ := hw
      have hlt2 := bgs_le ht2
      have hk1 := bgs_in ht2 (show i < pcnt (bgq EE P 0) pa.length by omega)
      refine lv_aload_n hx hb dX9_parts_69 rfl (lv_at hl 2 rfl) ?_
      refine o_get (D := D) (ci := 10) (v := .ref sl) (C := RX9) (T := TX9) (N := 12) hx hb hts inX9 hown hK hP h_dk rfl 8 (by decide) (hts _ k_437) (fun _ h9 => h9) rfl dX9_parts_70 ?_
      refine lv_iload hx hb dX9_parts_73 (lv_at hl 0 rfl) ?_
      refine lv_iconst (v := 1) hx hb dX9_parts_75 (by decide) ?_
      refine lv_iadd hx hb dX9_parts_76 ?_
      refine q_seti (y := nI (i + 1)) (nI_addE (a := i) (b := 1) (by omega)) ?_
      refine o_cis (k := cells) (n := slots) hK hP hD hS hA (o_rV (As := [.int (nI (i + 1))]) (rest := [.int (nI t2), .ref sl]) hf (sl_begin2 _ _ _ _ _ _ _ _ pr pcs spr nwh cp pa ea P ne EE sl (i + 1) h_pr h_pcs h_pc h_es h_sl hpa hQ (by omega) _) k_1060 k_1057 k_1058 k_1059 k_97 (nA := 1) (by decide +kernel) ⟨Nat.le_trans (by decide) hRf, Nat.le_trans (by decide) hRl⟩ hK hP hD hS hA hZ hN h_sl rfl rfl rfl hl.1 rfl (Nat.le_of_ble_eq_true rfl) dX9_parts_77 ⟨(show cells + 0 ≤ R.cells by omega), (show slots + 0 ≤ R.slots by omega)⟩) (Nat.le_refl _) (Nat.le_refl _) (fun r H locs hw hP hD hS => ?_)
      obtain ⟨t3, rfl, ht3⟩ := hw
      have hlt3 := bgs_le ht3
      have hk2 := bgs_mo ht2 ht3 (show i < i + 1 by omega) hk1
      refine lv_aload_n hx hb dX9_parts_80 rfl (lv_at hl 3 rfl) ?_
      refine o_cis (k := cells) (n := slots) hK hP hD hS hA (o_rV (As := [.int (nI t2), .int (nI t3), .ref el2]) (rest := []) hf (sl_has _ _ _ _ _ _ _ _ pr pcs spr nwh cp pa ea P ne EE sl t2 t3 el2 tx2 rf2 rt2 rn2 w2 N2 kd2 nm2 sk2 Y tg h_pr h_pcs h_pc h_es h_sl h_em h_ty hpa hQ (by omega) (by omega) hY hN2 hN3 _) k_1072 k_1106 k_1070 k_1071 k_97 (nA := 3) (by decide +kernel) ⟨Nat.le_trans (by decide) hRf, Nat.le_trans (by decide) hRl⟩ hK hP hD hS hA hZ hN h_sl rfl rfl rfl hl.1 rfl (Nat.le_of_ble_eq_true rfl) dX9_parts_81 ⟨(show cells + 0 ≤ R.cells by omega), (show slots + 0 ≤ R.slots by omega)⟩) (Nat.le_refl _) (Nat.le_refl _) (fun r H locs hw hP hD hS => ?_)
      rcases hw with ⟨c_4, rfl⟩ | ⟨c_4, rfl⟩
      · have hP := hP
        refine lv_if_eq (tgt := 90) hx hb dX9_parts_84 (by decide) (fun hno => absurd hno (by decide)) (fun _ => ?_)
        refine lv_iinc (v := nI (c9 + 1)) (lv' := [(3, .int (nI (c9 + 1))), (5, .int (nI i)), (0, .ref dk), (2, .ref el2), (4, .int (nI ((pcnt (bgq EE P 0) pa.length))))]) hx hb dX9_parts_87 hl (k := 1) rfl (nI_addE (a := c9) (b := 1) (by omega)) (by decide) rfl (fun ls hl => ?_)
        refine lv_iinc (v := nI (i + 1)) (lv' := [(5, .int (nI (i + 1))), (3, .int (nI (c9 + 1))), (0, .ref dk), (2, .ref el2), (4, .int (nI ((pcnt (bgq EE P 0) pa.length))))]) hx hb dX9_parts_90 hl (k := 1) rfl (nI_addE (a := i) (b := 1) (by omega)) (by decide) rfl (fun ls hl => ?_)
        refine lv_goto (tgt := 49) hx hb dX9_parts_93 (by decide) ?_
        exact ih (i + 1) (c9 + 1) H locs ls (by omega) (by omega) hP hD hS (lv_sub hl (l' := [(5, .int (nI (i + 1))), (3, .int (nI (c9 + 1))), (0, .ref dk), (2, .ref el2), (4, .int (nI ((pcnt (bgq EE P 0) pa.length))))]) [0, 1, 2, 3, 4] rfl) kk
      · have hP := hP
        refine lv_if_eq (tgt := 90) hx hb dX9_parts_84 (by decide) (fun _ => ?_) (fun hno => absurd hno (by decide))
        refine lv_iinc (v := nI (i + 1)) (lv' := [(5, .int (nI (i + 1))), (3, .int (nI c9)), (0, .ref dk), (2, .ref el2), (4, .int (nI ((pcnt (bgq EE P 0) pa.length))))]) hx hb dX9_parts_90 hl (k := 0) rfl (nI_addE (a := i) (b := 1) (by omega)) (by decide) rfl (fun ls hl => ?_)
        refine lv_goto (tgt := 49) hx hb dX9_parts_93 (by decide) ?_
        exact ih (i + 1) c9 H locs ls (by omega) (by omega) hP hD hS (lv_sub hl (l' := [(5, .int (nI (i + 1))), (3, .int (nI c9)), (0, .ref dk), (2, .ref el2), (4, .int (nI ((pcnt (bgq EE P 0) pa.length))))]) [0, 1, 2, 3, 4] rfl) kk
set_option maxHeartbeats 1000000 in
set_option maxRecDepth 100000 in
theorem d_parts (l : Launch) (D : va_G) (z : Nat → Nat) (cB cI_ cO : ClassId) (L0 : List Nat) (g0 : hG) (dk tp rd els reo nob bk gl mo : Nat) (pr pcs spr nwh cp : Nat) (pa : List Nat) (ea : Nat → Nat) (P : List Q4) (ne : Nat) (EE : Nat → E5) (sl : Nat) (v10 v11 : Int32) (cap : Nat) (xs : List Nat) (Es : List E5) (x1 : Int32) (h_dk : ho L0 g0 dk 1 (.inr (10, [.ref tp, .ref rd, .ref els, .ref reo, .ref nob, .ref pr, .ref bk, .ref gl, .ref sl, .int (nI mo), .int v10, .int v11]))) (h_pr : ho L0 g0 pr 13 (.inr (7, [.ref pcs, .ref spr, .ref nwh]))) (h_pcs : alR cO (z 0) 14 15 L0 g0 pcs cp pa) (h_pc : pcR L0 g0 ea pa P) (h_es : esR cB cI_ L0 g0 ea ne EE) (h_sl : ho L0 g0 sl 29 (.inr (8, [.ref pr]))) (h_els : alR cO (z 0) 5 6 L0 g0 els cap xs) (hpa : pa.length ≤ 20000) (hQ : pq_ok ne EE P) (hxl : xs.length ≤ 60) (h_els9 : elsR cB cI_ L0 g0 xs Es) : eIs l D yX9_parts cX9_parts 6 (some .int) 9 230 0 0 [.ref dk, .int x1] z cB cI_ cO L0 g0 (fun r => True) := by
  refine o_si (by decide) (Nat.le_of_ble_eq_true rfl) ?_
  intro p e s m below meth c A ls hf hr hlocks hin hK hP hD hS hA hZ hN hl
  obtain ⟨hx, hb, hml, hown, hts⟩ := id hf
  have hl : lv_has ls 6 [(0, .ref dk), (1, .int x1)] := hl
  refine lv_aload_n hx hb dX9_parts_0 rfl (lv_at hl 0 rfl) ?_
  refine lv_iload_n hx hb dX9_parts_1 rfl (lv_at hl 1 rfl) ?_
  refine o_cis (k := 0) (n := 0) hK hP hD hS hA (o_rV (As := [.int x1]) (rest := []) hf (d_isE _ _ _ _ _ _ _ _ dk tp rd els reo nob pr bk gl sl mo v10 v11 cap xs Es x1 h_dk h_els h_els9 hxl _) k_736 k_733 k_735 k_22 k_84 (nA := 1) (by decide +kernel) ⟨Nat.le_of_ble_eq_true rfl, Nat.le_of_ble_eq_true rfl⟩ hK hP hD hS hA hZ hN h_dk rfl rfl rfl hl.1 rfl (Nat.le_of_ble_eq_true rfl) dX9_parts_2 ⟨(show 0 + 0 ≤ 0 by omega), (show 0 + 0 ≤ 0 by omega)⟩) (Nat.le_refl _) (Nat.le_refl _) (fun r H locs hw hP hD hS => ?_)
  rcases hw with ⟨c_1, rfl⟩ | ⟨c_1, rfl⟩
  · have hP := hP
    refine lv_if_ne (tgt := 11) hx hb dX9_parts_5 (by decide) (fun _ => ?_) (fun hno => absurd hno (by decide))
    obtain ⟨j, hj, rfl⟩ := c_1
    have hl : lv_has ls 6 [(0, .ref dk), (1, .int (nI j))] := hl
    refine lv_aload_n hx hb dX9_parts_11 rfl (lv_at hl 0 rfl) ?_
    refine lv_iload_n hx hb dX9_parts_12 rfl (lv_at hl 1 rfl) ?_
    refine o_crs (k := 0) (n := 0) hK hP hD hS hA (o_rV (As := [.int (nI j)]) (rest := []) hf (d_elAt _ _ _ _ _ _ _ _ dk tp rd els reo nob pr bk gl sl mo v10 v11 cap xs Es j h_dk h_els h_els9 hxl hj _) k_740 k_737 k_739 k_23 k_84 (nA := 1) (by decide +kernel) ⟨Nat.le_of_ble_eq_true rfl, Nat.le_of_ble_eq_true rfl⟩ hK hP hD hS hA hZ hN h_dk rfl rfl rfl hl.1 rfl (Nat.le_of_ble_eq_true rfl) dX9_parts_13 ⟨(show 0 + 0 ≤ 0 by omega), (show 0 + 0 ≤ 0 by omega)⟩) (Nat.le_refl _) (Nat.le_refl _) (fun r H locs hw hP hD hS => ?_)
    obtain rfl := hw
    obtain ⟨tx2, rf2, rt2, N2, M2, tg, f12, f22, h_em, h_ty, _, _, hY, _, hYb, _⟩ := h_els9.2.2 j hj
    have hN2 := hYb.1
    have hN3 := hYb.2.1
    refine lv_astore_n (lv' := [(2, .ref (xs.getD j 0)), (0, .ref dk), (1, .int (nI j))]) hx hb dX9_parts_16 rfl hl (by decide) rfl (fun ls hl => ?_)
    refine lv_aload_n hx hb dX9_parts_17 rfl (lv_at hl 0 rfl) ?_
    refine o_get (D := D) (ci := 2) (v := .int ((Es.getD j dE).1)) (C := RX1) (T := TX1) (N := 9) hx hb hts inX1 hown hK hP h_em rfl 0 (by decide) (hts _ k_228) (fun _ h9 => h9) rfl dX9_parts_18 ?_
    refine lv_iconst (v := 2) hx hb dX9_parts_21 (by decide) ?_
    refine lv_icmp_ne (tgt := 32) hx hb dX9_parts_22 (by decide) (fun c_2 => ?_) (fun c_2 => ?_)
    · refine lv_bipush (v := (-3)) hx hb dX9_parts_32 (by decide) ?_
      exact o_ri hf hr rfl hlocks hK hP hD hS (show 0 ≤ 0 by omega) (show 0 ≤ 0 by omega) ⟨trivial, rfl, rfl⟩ dX9_parts_34
    · refine lv_aload_n hx hb dX9_parts_25 rfl (lv_at hl 0 rfl) ?_
      refine o_get (D := D) (ci := 2) (v := .int ((Es.getD j dE).2.2.1)) (C := RX1) (T := TX1) (N := 9) hx hb hts inX1 hown hK hP h_em rfl 2 (by decide) (hts _ k_235) (fun _ h9 => h9) rfl dX9_parts_26 ?_
      refine lv_if_eq (tgt := 35) hx hb dX9_parts_29 (by decide) (fun c_3 => ?_) (fun c_3 => ?_)
      · refine lv_iconst (v := 0) hx hb dX9_parts_35 (by decide) ?_
        refine lv_istore_n (lv' := [(3, .int 0), (2, .ref (xs.getD j 0)), (0, .ref dk), (1, .int (nI j))]) hx hb dX9_parts_36 rfl hl (by decide) rfl (fun ls hl => ?_)
        refine lv_aload_n hx hb dX9_parts_37 rfl (lv_at hl 2 rfl) ?_
        refine o_get (D := D) (ci := 10) (v := .ref sl) (C := RX9) (T := TX9) (N := 12) hx hb hts inX9 hown hK hP h_dk rfl 8 (by decide) (hts _ k_437) (fun _ h9 => h9) rfl dX9_parts_38 ?_
        refine o_cis (k := 0) (n := 0) hK hP hD hS hA (o_rV (As := []) (rest := []) hf (sl_count _ _ _ _ _ _ _ _ pr pcs spr nwh cp pa ea P ne EE sl h_pr h_pcs h_pc h_es h_sl hpa hQ _) k_1045 k_1042 k_1043 k_1044 k_97 (nA := 0) (by decide +kernel) ⟨Nat.le_of_ble_eq_true rfl, Nat.le_of_ble_eq_true rfl⟩ hK hP hD hS hA hZ hN h_sl rfl rfl rfl hl.1 rfl (Nat.le_of_ble_eq_true rfl) dX9_parts_41 ⟨(show 0 + 0 ≤ 0 by omega), (show 0 + 0 ≤ 0 by omega)⟩) (Nat.le_refl _) (Nat.le_refl _) (fun r H locs hw hP hD hS => ?_)
        obtain rfl := hw
        refine lv_istore (lv' := [(4, .int (nI ((pcnt (bgq EE P 0) pa.length)))), (3, .int 0), (2, .ref (xs.getD j 0)), (0, .ref dk), (1, .int (nI j))]) hx hb dX9_parts_44 hl (by decide) rfl (fun ls hl => ?_)
        refine lv_iconst (v := 0) hx hb dX9_parts_46 (by decide) ?_
        refine lv_istore (lv' := [(5, .int 0), (4, .int (nI ((pcnt (bgq EE P 0) pa.length)))), (3, .int 0), (2, .ref (xs.getD j 0)), (0, .ref dk), (1, .int (nI j))]) hx hb dX9_parts_47 hl (by decide) rfl (fun ls hl => ?_)
        refine pt_loop  h_dk h_pr h_pcs h_pc h_es h_sl h_em h_ty hpa hQ hY hN2 hN3 (Nat.le_of_ble_eq_true rfl) (Nat.le_of_ble_eq_true rfl) (show 0 ≤ 0 by omega) (show 0 ≤ 0 by omega) hA hf hK hZ hN (pcnt (bgq EE P 0) pa.length) 0 0 _ _ ls (by omega) (by omega) hP hD hS (lv_sub hl (l' := [(5, .int 0), (3, .int 0), (0, .ref dk), (2, .ref (xs.getD j 0)), (4, .int (nI ((pcnt (bgq EE P 0) pa.length))))]) [0, 2, 4, 3, 1] rfl) ?_
        · intro c9 H locs ls hP hD hS hl
          refine lv_iload_n hx hb dX9_parts_96 rfl (lv_at hl 0 rfl) ?_
          exact o_ri hf hr rfl hlocks hK hP hD hS (show 0 ≤ 0 by omega) (show 0 ≤ 0 by omega) ⟨trivial, rfl, rfl⟩ dX9_parts_97
      · refine lv_bipush (v := (-3)) hx hb dX9_parts_32 (by decide) ?_
        exact o_ri hf hr rfl hlocks hK hP hD hS (show 0 ≤ 0 by omega) (show 0 ≤ 0 by omega) ⟨trivial, rfl, rfl⟩ dX9_parts_34
  · have hP := hP
    refine lv_if_ne (tgt := 11) hx hb dX9_parts_5 (by decide) (fun hno => absurd hno (by decide)) (fun _ => ?_)
    refine lv_bipush (v := (-2)) hx hb dX9_parts_8 (by decide) ?_
    exact o_ri hf hr rfl hlocks hK hP hD hS (show 0 ≤ 0 by omega) (show 0 ≤ 0 by omega) ⟨trivial, rfl, rfl⟩ dX9_parts_10
