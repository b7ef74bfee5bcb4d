abbrev cX1_endOfChunk : ByteArray := prog_3_method_16_code
def yX1_endOfChunk : MethodName := ⟨RX1, "endOfChunk", "(I)I"⟩
abbrev cX1_putInRow : ByteArray := prog_3_method_17_code
def yX1_putInRow : MethodName := ⟨RX1, "putInRow", "(II)V"⟩
abbrev cX1_width : ByteArray := prog_3_method_12_code
def yX1_width : MethodName := ⟨RX1, "width", "()I"⟩
theorem k_4 : (Cond.selects RX1 yX1_width yX1_width) ∈ gT := gT_i 4 (by decide +kernel) rfl
theorem k_91 : (Cond.initialized "java/lang/Math") ∈ gT := gT_i 91 (by decide +kernel) rfl
theorem k_214 : (Cond.methodLink RX1 81 yX1_width) ∈ gT := gT_i 214 (by decide +kernel) rfl
theorem k_216 : (Cond.instanceMethod yX1_width) ∈ gT := gT_i 216 (by decide +kernel) rfl
theorem k_217 : (Cond.code yX1_width cX1_width 1 (some .int)) ∈ gT := gT_i 217 (by decide +kernel) rfl
theorem k_218 : (Cond.fieldLink RX1 59 "ScriptDesk$Element" "WIDTHS" "[I") ∈ gT := gT_i 218 (by decide +kernel) rfl
theorem k_220 : (Cond.methodLink RX1 85 Lib.Math.min.name) ∈ gT := gT_i 220 (by decide +kernel) rfl
theorem k_221 : (Cond.static Lib.Math.min.name) ∈ gT := gT_i 221 (by decide +kernel) rfl
theorem k_222 : (Cond.code Lib.Math.min.name Lib.Math.min.code 2 (some .int)) ∈ gT := gT_i 222 (by decide +kernel) rfl
theorem k_227 : (Cond.fieldLink RX1 15 "ScriptDesk$Element" "kind" "I") ∈ gT := gT_i 227 (by decide +kernel) rfl
theorem k_239 : (Cond.fieldLink RX1 35 "ScriptDesk$Element" "rowFrom" "[I") ∈ gT := gT_i 239 (by decide +kernel) rfl
theorem k_240 : (Cond.fieldLink RX1 39 "ScriptDesk$Element" "rowTo" "[I") ∈ gT := gT_i 240 (by decide +kernel) rfl
theorem k_241 : (Cond.fieldLink RX1 48 "ScriptDesk$Element" "rows" "I") ∈ gT := gT_i 241 (by decide +kernel) rfl
theorem dX1_width_0 : decode cX1_width 0 = .ok (.aload_n 0, 1) := by decide +kernel
theorem dX1_width_1 : decode cX1_width 1 = .ok (.getfield 15, 3) := by decide +kernel
theorem dX1_width_4 : decode cX1_width 4 = .ok (.ifCond .lt 25, 3) := by decide +kernel
theorem dX1_width_7 : decode cX1_width 7 = .ok (.aload_n 0, 1) := by decide +kernel
theorem dX1_width_8 : decode cX1_width 8 = .ok (.getfield 15, 3) := by decide +kernel
theorem dX1_width_11 : decode cX1_width 11 = .ok (.getstatic 59, 3) := by decide +kernel
theorem dX1_width_14 : decode cX1_width 14 = .ok (.arraylength, 1) := by decide +kernel
theorem dX1_width_15 : decode cX1_width 15 = .ok (.if_icmp .ge 14, 3) := by decide +kernel
theorem dX1_width_18 : decode cX1_width 18 = .ok (.getstatic 59, 3) := by decide +kernel
theorem dX1_width_21 : decode cX1_width 21 = .ok (.aload_n 0, 1) := by decide +kernel
theorem dX1_width_22 : decode cX1_width 22 = .ok (.getfield 15, 3) := by decide +kernel
theorem dX1_width_25 : decode cX1_width 25 = .ok (.iaload, 1) := by decide +kernel
theorem dX1_width_26 : decode cX1_width 26 = .ok (.goto 5, 3) := by decide +kernel
theorem dX1_width_31 : decode cX1_width 31 = .ok (.ireturn, 1) := by decide +kernel
theorem dX1_endOfChunk_16 : decode cX1_endOfChunk 16 = .ok (.iload_n 3, 1) := by decide +kernel
theorem dX1_endOfChunk_17 : decode cX1_endOfChunk 17 = .ok (.iload_n 2, 1) := by decide +kernel
theorem dX1_endOfChunk_18 : decode cX1_endOfChunk 18 = .ok (.if_icmp .ge 22, 3) := by decide +kernel
theorem dX1_endOfChunk_21 : decode cX1_endOfChunk 21 = .ok (.aload_n 0, 1) := by decide +kernel
theorem dX1_endOfChunk_22 : decode cX1_endOfChunk 22 = .ok (.getfield 24, 3) := by decide +kernel
theorem dX1_endOfChunk_25 : decode cX1_endOfChunk 25 = .ok (.iload_n 3, 1) := by decide +kernel
theorem dX1_endOfChunk_26 : decode cX1_endOfChunk 26 = .ok (.baload, 1) := by decide +kernel
theorem dX1_endOfChunk_27 : decode cX1_endOfChunk 27 = .ok (.bipush 32, 2) := by decide +kernel
theorem dX1_endOfChunk_29 : decode cX1_endOfChunk 29 = .ok (.if_icmp .ne 5, 3) := by decide +kernel
theorem dX1_endOfChunk_34 : decode cX1_endOfChunk 34 = .ok (.iinc 3 1, 3) := by decide +kernel
theorem dX1_endOfChunk_37 : decode cX1_endOfChunk 37 = .ok (.goto (-21), 3) := by decide +kernel
theorem dX1_endOfChunk_0 : decode cX1_endOfChunk 0 = .ok (.aload_n 0, 1) := by decide +kernel
theorem dX1_endOfChunk_1 : decode cX1_endOfChunk 1 = .ok (.getfield 32, 3) := by decide +kernel
theorem dX1_endOfChunk_4 : decode cX1_endOfChunk 4 = .ok (.iload_n 1, 1) := by decide +kernel
theorem dX1_endOfChunk_5 : decode cX1_endOfChunk 5 = .ok (.aload_n 0, 1) := by decide +kernel
theorem dX1_endOfChunk_6 : decode cX1_endOfChunk 6 = .ok (.invokevirtual 81, 3) := by decide +kernel
theorem dX1_endOfChunk_9 : decode cX1_endOfChunk 9 = .ok (.iadd, 1) := by decide +kernel
theorem dX1_endOfChunk_10 : decode cX1_endOfChunk 10 = .ok (.invokestatic 85, 3) := by decide +kernel
theorem dX1_endOfChunk_13 : decode cX1_endOfChunk 13 = .ok (.istore_n 2, 1) := by decide +kernel
theorem dX1_endOfChunk_14 : decode cX1_endOfChunk 14 = .ok (.iload_n 1, 1) := by decide +kernel
theorem dX1_endOfChunk_15 : decode cX1_endOfChunk 15 = .ok (.istore_n 3, 1) := by decide +kernel
theorem dX1_endOfChunk_32 : decode cX1_endOfChunk 32 = .ok (.iload_n 3, 1) := by decide +kernel
theorem dX1_endOfChunk_33 : decode cX1_endOfChunk 33 = .ok (.ireturn, 1) := by decide +kernel
theorem dX1_endOfChunk_40 : decode cX1_endOfChunk 40 = .ok (.iload_n 2, 1) := by decide +kernel
theorem dX1_endOfChunk_41 : decode cX1_endOfChunk 41 = .ok (.ireturn, 1) := by decide +kernel
theorem dX1_putInRow_0 : decode cX1_putInRow 0 = .ok (.aload_n 0, 1) := by decide +kernel
theorem dX1_putInRow_1 : decode cX1_putInRow 1 = .ok (.getfield 48, 3) := by decide +kernel
theorem dX1_putInRow_4 : decode cX1_putInRow 4 = .ok (.ifCond .le 50, 3) := by decide +kernel
theorem dX1_putInRow_54 : decode cX1_putInRow 54 = .ok (.aload_n 0, 1) := by decide +kernel
theorem dX1_putInRow_55 : decode cX1_putInRow 55 = .ok (.getfield 48, 3) := by decide +kernel
theorem dX1_putInRow_58 : decode cX1_putInRow 58 = .ok (.aload_n 0, 1) := by decide +kernel
theorem dX1_putInRow_59 : decode cX1_putInRow 59 = .ok (.getfield 35, 3) := by decide +kernel
theorem dX1_putInRow_62 : decode cX1_putInRow 62 = .ok (.arraylength, 1) := by decide +kernel
theorem dX1_putInRow_63 : decode cX1_putInRow 63 = .ok (.if_icmp .ge 33, 3) := by decide +kernel
theorem dX1_putInRow_66 : decode cX1_putInRow 66 = .ok (.aload_n 0, 1) := by decide +kernel
theorem dX1_putInRow_67 : decode cX1_putInRow 67 = .ok (.getfield 35, 3) := by decide +kernel
theorem dX1_putInRow_70 : decode cX1_putInRow 70 = .ok (.aload_n 0, 1) := by decide +kernel
theorem dX1_putInRow_71 : decode cX1_putInRow 71 = .ok (.getfield 48, 3) := by decide +kernel
theorem dX1_putInRow_74 : decode cX1_putInRow 74 = .ok (.iload_n 1, 1) := by decide +kernel
theorem dX1_putInRow_75 : decode cX1_putInRow 75 = .ok (.iastore, 1) := by decide +kernel
theorem dX1_putInRow_76 : decode cX1_putInRow 76 = .ok (.aload_n 0, 1) := by decide +kernel
theorem dX1_putInRow_77 : decode cX1_putInRow 77 = .ok (.getfield 39, 3) := by decide +kernel
theorem dX1_putInRow_80 : decode cX1_putInRow 80 = .ok (.aload_n 0, 1) := by decide +kernel
theorem dX1_putInRow_81 : decode cX1_putInRow 81 = .ok (.getfield 48, 3) := by decide +kernel
theorem dX1_putInRow_84 : decode cX1_putInRow 84 = .ok (.iload_n 2, 1) := by decide +kernel
theorem dX1_putInRow_85 : decode cX1_putInRow 85 = .ok (.iastore, 1) := by decide +kernel
theorem dX1_putInRow_86 : decode cX1_putInRow 86 = .ok (.aload_n 0, 1) := by decide +kernel
theorem dX1_putInRow_87 : decode cX1_putInRow 87 = .ok (.dup, 1) := by decide +kernel
theorem dX1_putInRow_88 : decode cX1_putInRow 88 = .ok (.getfield 48, 3) := by decide +kernel
theorem dX1_putInRow_91 : decode cX1_putInRow 91 = .ok (.iconst 1, 1) := by decide +kernel
theorem dX1_putInRow_92 : decode cX1_putInRow 92 = .ok (.iadd, 1) := by decide +kernel
theorem dX1_putInRow_93 : decode cX1_putInRow 93 = .ok (.putfield 48, 3) := by decide +kernel
theorem dX1_putInRow_96 : decode cX1_putInRow 96 = .ok (.return_, 1) := by decide +kernel
theorem dX1_putInRow_7 : decode cX1_putInRow 7 = .ok (.aload_n 0, 1) := by decide +kernel
theorem dX1_putInRow_8 : decode cX1_putInRow 8 = .ok (.getfield 48, 3) := by decide +kernel
theorem dX1_putInRow_11 : decode cX1_putInRow 11 = .ok (.aload_n 0, 1) := by decide +kernel
theorem dX1_putInRow_12 : decode cX1_putInRow 12 = .ok (.getfield 39, 3) := by decide +kernel
theorem dX1_putInRow_15 : decode cX1_putInRow 15 = .ok (.arraylength, 1) := by decide +kernel
theorem dX1_putInRow_16 : decode cX1_putInRow 16 = .ok (.if_icmp .gt 38, 3) := by decide +kernel
theorem dX1_putInRow_19 : decode cX1_putInRow 19 = .ok (.iload_n 2, 1) := by decide +kernel
theorem dX1_putInRow_20 : decode cX1_putInRow 20 = .ok (.aload_n 0, 1) := by decide +kernel
theorem dX1_putInRow_21 : decode cX1_putInRow 21 = .ok (.getfield 35, 3) := by decide +kernel
theorem dX1_putInRow_24 : decode cX1_putInRow 24 = .ok (.aload_n 0, 1) := by decide +kernel
theorem dX1_putInRow_25 : decode cX1_putInRow 25 = .ok (.getfield 48, 3) := by decide +kernel
theorem dX1_putInRow_28 : decode cX1_putInRow 28 = .ok (.iconst 1, 1) := by decide +kernel
theorem dX1_putInRow_29 : decode cX1_putInRow 29 = .ok (.isub, 1) := by decide +kernel
theorem dX1_putInRow_30 : decode cX1_putInRow 30 = .ok (.iaload, 1) := by decide +kernel
theorem dX1_putInRow_31 : decode cX1_putInRow 31 = .ok (.isub, 1) := by decide +kernel
theorem dX1_putInRow_32 : decode cX1_putInRow 32 = .ok (.aload_n 0, 1) := by decide +kernel
theorem dX1_putInRow_33 : decode cX1_putInRow 33 = .ok (.invokevirtual 81, 3) := by decide +kernel
theorem dX1_putInRow_36 : decode cX1_putInRow 36 = .ok (.if_icmp .gt 18, 3) := by decide +kernel
theorem dX1_putInRow_39 : decode cX1_putInRow 39 = .ok (.aload_n 0, 1) := by decide +kernel
theorem dX1_putInRow_40 : decode cX1_putInRow 40 = .ok (.getfield 39, 3) := by decide +kernel
theorem dX1_putInRow_43 : decode cX1_putInRow 43 = .ok (.aload_n 0, 1) := by decide +kernel
theorem dX1_putInRow_44 : decode cX1_putInRow 44 = .ok (.getfield 48, 3) := by decide +kernel
theorem dX1_putInRow_47 : decode cX1_putInRow 47 = .ok (.iconst 1, 1) := by decide +kernel
theorem dX1_putInRow_48 : decode cX1_putInRow 48 = .ok (.isub, 1) := by decide +kernel
theorem dX1_putInRow_49 : decode cX1_putInRow 49 = .ok (.iload_n 2, 1) := by decide +kernel
theorem dX1_putInRow_50 : decode cX1_putInRow 50 = .ok (.iastore, 1) := by decide +kernel
theorem dX1_putInRow_51 : decode cX1_putInRow 51 = .ok (.goto 45, 3) := by decide +kernel
set_option maxHeartbeats 1000000 in
set_option maxRecDepth 100000 in
theorem l_width (l : Launch) (D : va_G) (z : Nat → Nat) (cB cI_ cO : ClassId) (L0 : List Nat) (g0 : hG) (el : Nat) (kd nm sk : Int32) (tx n w rf rt rn : Nat) (h_el : ho L0 g0 el 9 (.inr (2, [.int kd, .int nm, .int sk, .ref tx, .int (nI n), .int (nI w), .ref rf, .ref rt, .int (nI rn)]))) (hk6 : kd6 kd) : eIs l D yX1_width cX1_width 1 (some .int) 0 0 0 0 [.ref el] z cB cI_ cO L0 g0 (fun r => r = nI (tx_w kd)) := by
  refine o_si (by decide) (Nat.le_of_ble_eq_true rfl) ?_
  intro p e s m below meth c A ls hf hr hlocks hin hK hP hD hS hA hZ hN hl
  obtain ⟨hx, hb, hml, hown, hts⟩ := id hf
  have hl : lv_has ls 1 [(0, .ref el)] := hl
  rcases hk6 with rfl | rfl | rfl | rfl | rfl | rfl
  · have hP := hP
    refine lv_aload_n hx hb dX1_width_0 rfl (lv_at hl 0 rfl) ?_
    refine o_get (D := D) (ci := 2) (v := .int 0) (C := RX1) (T := TX1) (N := 9) hx hb hts inX1 hown hK hP h_el rfl 0 (by decide) (hts _ k_227) (fun _ h9 => h9) rfl dX1_width_1 ?_
    refine lv_if_lt (tgt := 29) hx hb dX1_width_4 (by decide) (fun hno => absurd hno (by decide)) (fun _ => ?_)
    refine lv_aload_n hx hb dX1_width_7 rfl (lv_at hl 0 rfl) ?_
    refine o_get (D := D) (ci := 2) (v := .int 0) (C := RX1) (T := TX1) (N := 9) hx hb hts inX1 hown hK hP h_el rfl 0 (by decide) (hts _ k_227) (fun _ h9 => h9) rfl dX1_width_8 ?_
    refine va_gets hx hb hZ.2.2.1 hS hown (hts _ k_218) (fun _ h9 => h9) dX1_width_11 ?_
    refine va_tlen (v := 6) hx hb hZ.2.2.2.1 hS rfl dX1_width_14 ?_
    refine lv_icmp_ge (tgt := 29) hx hb dX1_width_15 (by decide) (fun hno => absurd hno (by decide)) (fun _ => ?_)
    refine va_gets hx hb hZ.2.2.1 hS hown (hts _ k_218) (fun _ h9 => h9) dX1_width_18 ?_
    refine lv_aload_n hx hb dX1_width_21 rfl (lv_at hl 0 rfl) ?_
    refine o_get (D := D) (ci := 2) (v := .int 0) (C := RX1) (T := TX1) (N := 9) hx hb hts inX1 hown hK hP h_el rfl 0 (by decide) (hts _ k_227) (fun _ h9 => h9) rfl dX1_width_22 ?_
    refine va_ti (v := .int 40) hx hb hZ.2.2.2.1 hS (by unfold vp_in; decide) rfl dX1_width_25 ?_
    refine lv_goto (tgt := 31) hx hb dX1_width_26 (by decide) ?_
    exact o_ri hf hr rfl hlocks hK hP hD hS (show 0 ≤ 0 by omega) (show 0 ≤ 0 by omega) ⟨rfl, rfl, rfl⟩ dX1_width_31
  · have hP := hP
    refine lv_aload_n hx hb dX1_width_0 rfl (lv_at hl 0 rfl) ?_
    refine o_get (D := D) (ci := 2) (v := .int 1) (C := RX1) (T := TX1) (N := 9) hx hb hts inX1 hown hK hP h_el rfl 0 (by decide) (hts _ k_227) (fun _ h9 => h9) rfl dX1_width_1 ?_
    refine lv_if_lt (tgt := 29) hx hb dX1_width_4 (by decide) (fun hno => absurd hno (by decide)) (fun _ => ?_)
    refine lv_aload_n hx hb dX1_width_7 rfl (lv_at hl 0 rfl) ?_
    refine o_get (D := D) (ci := 2) (v := .int 1) (C := RX1) (T := TX1) (N := 9) hx hb hts inX1 hown hK hP h_el rfl 0 (by decide) (hts _ k_227) (fun _ h9 => h9) rfl dX1_width_8 ?_
    refine va_gets hx hb hZ.2.2.1 hS hown (hts _ k_218) (fun _ h9 => h9) dX1_width_11 ?_
    refine va_tlen (v := 6) hx hb hZ.2.2.2.1 hS rfl dX1_width_14 ?_
    refine lv_icmp_ge (tgt := 29) hx hb dX1_width_15 (by decide) (fun hno => absurd hno (by decide)) (fun _ => ?_)
    refine va_gets hx hb hZ.2.2.1 hS hown (hts _ k_218) (fun _ h9 => h9) dX1_width_18 ?_
    refine lv_aload_n hx hb dX1_width_21 rfl (lv_at hl 0 rfl) ?_
    refine o_get (D := D) (ci := 2) (v := .int 1) (C := RX1) (T := TX1) (N := 9) hx hb hts inX1 hown hK hP h_el rfl 0 (by decide) (hts _ k_227) (fun _ h9 => h9) rfl dX1_width_22 ?_
    refine va_ti (v := .int 40) hx hb hZ.2.2.2.1 hS (by unfold vp_in; decide) rfl dX1_width_25 ?_
    refine lv_goto (tgt := 31) hx hb dX1_width_26 (by decide) ?_
    exact o_ri hf hr rfl hlocks hK hP hD hS (show 0 ≤ 0 by omega) (show 0 ≤ 0 by omega) ⟨rfl, rfl, rfl⟩ dX1_width_31
  · have hP := hP
    refine lv_aload_n hx hb dX1_width_0 rfl (lv_at hl 0 rfl) ?_
    refine o_get (D := D) (ci := 2) (v := .int 2) (C := RX1) (T := TX1) (N := 9) hx hb hts inX1 hown hK hP h_el rfl 0 (by decide) (hts _ k_227) (fun _ h9 => h9) rfl dX1_width_1 ?_
    refine lv_if_lt (tgt := 29) hx hb dX1_width_4 (by decide) (fun hno => absurd hno (by decide)) (fun _ => ?_)
    refine lv_aload_n hx hb dX1_width_7 rfl (lv_at hl 0 rfl) ?_
    refine o_get (D := D) (ci := 2) (v := .int 2) (C := RX1) (T := TX1) (N := 9) hx hb hts inX1 hown hK hP h_el rfl 0 (by decide) (hts _ k_227) (fun _ h9 => h9) rfl dX1_width_8 ?_
    refine va_gets hx hb hZ.2.2.1 hS hown (hts _ k_218) (fun _ h9 => h9) dX1_width_11 ?_
    refine va_tlen (v := 6) hx hb hZ.2.2.2.1 hS rfl dX1_width_14 ?_
    refine lv_icmp_ge (tgt := 29) hx hb dX1_width_15 (by decide) (fun hno => absurd hno (by decide)) (fun _ => ?_)
    refine va_gets hx hb hZ.2.2.1 hS hown (hts _ k_218) (fun _ h9 => h9) dX1_width_18 ?_
    refine lv_aload_n hx hb dX1_width_21 rfl (lv_at hl 0 rfl) ?_
    refine o_get (D := D) (ci := 2) (v := .int 2) (C := RX1) (T := TX1) (N := 9) hx hb hts inX1 hown hK hP h_el rfl 0 (by decide) (hts _ k_227) (fun _ h9 => h9) rfl dX1_width_22 ?_
    refine va_ti (v := .int 24) hx hb hZ.2.2.2.1 hS (by unfold vp_in; decide) rfl dX1_width_25 ?_
    refine lv_goto (tgt := 31) hx hb dX1_width_26 (by decide) ?_
    exact o_ri hf hr rfl hlocks hK hP hD hS (show 0 ≤ 0 by omega) (show 0 ≤ 0 by omega) ⟨rfl, rfl, rfl⟩ dX1_width_31
  · have hP := hP
    refine lv_aload_n hx hb dX1_width_0 rfl (lv_at hl 0 rfl) ?_
    refine o_get (D := D) (ci := 2) (v := .int 3) (C := RX1) (T := TX1) (N := 9) hx hb hts inX1 hown hK hP h_el rfl 0 (by decide) (hts _ k_227) (fun _ h9 => h9) rfl dX1_width_1 ?_
    refine lv_if_lt (tgt := 29) hx hb dX1_width_4 (by decide) (fun hno => absurd hno (by decide)) (fun _ => ?_)
    refine lv_aload_n hx hb dX1_width_7 rfl (lv_at hl 0 rfl) ?_
    refine o_get (D := D) (ci := 2) (v := .int 3) (C := RX1) (T := TX1) (N := 9) hx hb hts inX1 hown hK hP h_el rfl 0 (by decide) (hts _ k_227) (fun _ h9 => h9) rfl dX1_width_8 ?_
    refine va_gets hx hb hZ.2.2.1 hS hown (hts _ k_218) (fun _ h9 => h9) dX1_width_11 ?_
    refine va_tlen (v := 6) hx hb hZ.2.2.2.1 hS rfl dX1_width_14 ?_
    refine lv_icmp_ge (tgt := 29) hx hb dX1_width_15 (by decide) (fun hno => absurd hno (by decide)) (fun _ => ?_)
    refine va_gets hx hb hZ.2.2.1 hS hown (hts _ k_218) (fun _ h9 => h9) dX1_width_18 ?_
    refine lv_aload_n hx hb dX1_width_21 rfl (lv_at hl 0 rfl) ?_
    refine o_get (D := D) (ci := 2) (v := .int 3) (C := RX1) (T := TX1) (N := 9) hx hb hts inX1 hown hK hP h_el rfl 0 (by decide) (hts _ k_227) (fun _ h9 => h9) rfl dX1_width_22 ?_
    refine va_ti (v := .int 20) hx hb hZ.2.2.2.1 hS (by unfold vp_in; decide) rfl dX1_width_25 ?_
    refine lv_goto (tgt := 31) hx hb dX1_width_26 (by decide) ?_
    exact o_ri hf hr rfl hlocks hK hP hD hS (show 0 ≤ 0 by omega) (show 0 ≤ 0 by omega) ⟨rfl, rfl, rfl⟩ dX1_width_31
  · have hP := hP
    refine lv_aload_n hx hb dX1_width_0 rfl (lv_at hl 0 rfl) ?_
    refine o_get (D := D) (ci := 2) (v := .int 4) (C := RX1) (T := TX1) (N := 9) hx hb hts inX1 hown hK hP h_el rfl 0 (by decide) (hts _ k_227) (fun _ h9 => h9) rfl dX1_width_1 ?_
    refine lv_if_lt (tgt := 29) hx hb dX1_width_4 (by decide) (fun hno => absurd hno (by decide)) (fun _ => ?_)
    refine lv_aload_n hx hb dX1_width_7 rfl (lv_at hl 0 rfl) ?_
    refine o_get (D := D) (ci := 2) (v := .int 4) (C := RX1) (T := TX1) (N := 9) hx hb hts inX1 hown hK hP h_el rfl 0 (by decide) (hts _ k_227) (fun _ h9 => h9) rfl dX1_width_8 ?_
    refine va_gets hx hb hZ.2.2.1 hS hown (hts _ k_218) (fun _ h9 => h9) dX1_width_11 ?_
    refine va_tlen (v := 6) hx hb hZ.2.2.2.1 hS rfl dX1_width_14 ?_
    refine lv_icmp_ge (tgt := 29) hx hb dX1_width_15 (by decide) (fun hno => absurd hno (by decide)) (fun _ => ?_)
    refine va_gets hx hb hZ.2.2.1 hS hown (hts _ k_218) (fun _ h9 => h9) dX1_width_18 ?_
    refine lv_aload_n hx hb dX1_width_21 rfl (lv_at hl 0 rfl) ?_
    refine o_get (D := D) (ci := 2) (v := .int 4) (C := RX1) (T := TX1) (N := 9) hx hb hts inX1 hown hK hP h_el rfl 0 (by decide) (hts _ k_227) (fun _ h9 => h9) rfl dX1_width_22 ?_
    refine va_ti (v := .int 28) hx hb hZ.2.2.2.1 hS (by unfold vp_in; decide) rfl dX1_width_25 ?_
    refine lv_goto (tgt := 31) hx hb dX1_width_26 (by decide) ?_
    exact o_ri hf hr rfl hlocks hK hP hD hS (show 0 ≤ 0 by omega) (show 0 ≤ 0 by omega) ⟨rfl, rfl, rfl⟩ dX1_width_31
  · have hP := hP
    refine lv_aload_n hx hb dX1_width_0 rfl (lv_at hl 0 rfl) ?_
    refine o_get (D := D) (ci := 2) (v := .int 5) (C := RX1) (T := TX1) (N := 9) hx hb hts inX1 hown hK hP h_el rfl 0 (by decide) (hts _ k_227) (fun _ h9 => h9) rfl dX1_width_1 ?_
    refine lv_if_lt (tgt := 29) hx hb dX1_width_4 (by decide) (fun hno => absurd hno (by decide)) (fun _ => ?_)
    refine lv_aload_n hx hb dX1_width_7 rfl (lv_at hl 0 rfl) ?_
    refine o_get (D := D) (ci := 2) (v := .int 5) (C := RX1) (T := TX1) (N := 9) hx hb hts inX1 hown hK hP h_el rfl 0 (by decide) (hts _ k_227) (fun _ h9 => h9) rfl dX1_width_8 ?_
    refine va_gets hx hb hZ.2.2.1 hS hown (hts _ k_218) (fun _ h9 => h9) dX1_width_11 ?_
    refine va_tlen (v := 6) hx hb hZ.2.2.2.1 hS rfl dX1_width_14 ?_
    refine lv_icmp_ge (tgt := 29) hx hb dX1_width_15 (by decide) (fun hno => absurd hno (by decide)) (fun _ => ?_)
    refine va_gets hx hb hZ.2.2.1 hS hown (hts _ k_218) (fun _ h9 => h9) dX1_width_18 ?_
    refine lv_aload_n hx hb dX1_width_21 rfl (lv_at hl 0 rfl) ?_
    refine o_get (D := D) (ci := 2) (v := .int 5) (C := RX1) (T := TX1) (N := 9) hx hb hts inX1 hown hK hP h_el rfl 0 (by decide) (hts _ k_227) (fun _ h9 => h9) rfl dX1_width_22 ?_
    refine va_ti (v := .int 40) hx hb hZ.2.2.2.1 hS (by unfold vp_in; decide) rfl dX1_width_25 ?_
    refine lv_goto (tgt := 31) hx hb dX1_width_26 (by decide) ?_
    exact o_ri hf hr rfl hlocks hK hP hD hS (show 0 ≤ 0 by omega) (show 0 ≤ 0 by omega) ⟨rfl, rfl, rfl⟩ dX1_width_31
set_option maxHeartbeats 1000000 in
set_option maxRecDepth 100000 in
theorem lc_loop {p : Program} {l : Launch} {e : Env} {R : Room} {s : State} {m : MethodId} {args : Array Value} {below : List Frame} {meth : Method} {c : Code} {Q : State → Prop} {D : va_G} {A : Nat → Prop} {z : Nat → Nat} {cB cI_ cO : ClassId} {L0 : List Nat} {g0 : hG} {cells slots : Nat} {el : Nat} {kd nm sk : Int32} {tx n w rf rt rn : Nat} {N0 lm : Nat} {tf : Nat → Int32} {x1 : Int32} (h_el : ho L0 g0 el 9 (.inr (2, [.int kd, .int nm, .int sk, .ref tx, .int (nI n), .int (nI w), .ref rf, .ref rt, .int (nI rn)]))) (h_tx : ho L0 g0 tx 10 (.inl (cB, N0, .inl tf))) (hN0 : N0 ≤ 1200) (hlm : lm ≤ N0) (hRf : 0 ≤ R.frames) (hRl : 0 ≤ R.locals) (hRc : cells ≤ R.cells) (hRs : slots ≤ R.slots) (hA : ∀ q : Nat, s.heap.size ≤ q → A q) (hf : CallFix p m c cX1_endOfChunk 4 s args gT yX1_endOfChunk.cls) (hK : va_K D vcl (dT cB cI_ cO) s) (hZ : zA z A s s.heap) (hN : zB z s) :
    ∀ (k : Nat) (i : Nat) (H : Heap) (locs : List Loc) (ls : Array Slot), i + k = lm → va_P D vcl (dW L0 g0) H → va_D A (dW L0 g0) → va_S A s.heap H locs → lv_has ls 4 [(3, .int (nI i)), (2, .int (nI lm)), (1, .int x1), (0, .ref el)] →
    (∀ (j : Nat) (H : Heap) (locs : List Loc) (ls : Array Slot), j = ck_end tf k i → va_P D vcl (dW L0 g0) H → va_D A (dW L0 g0) → va_S A s.heap H locs → lv_has ls 4 [(3, .int (nI j)), (0, .ref el)] → W p l e R s m args below meth c H locs cells slots Q (F0 m 32 ls [])) →
    (∀  (H : Heap) (locs : List Loc) (ls : Array Slot), lm = ck_end tf k i → va_P D vcl (dW L0 g0) H → va_D A (dW L0 g0) → va_S A s.heap H locs → lv_has ls 4 [(2, .int (nI lm)), (0, .ref el)] → W p l e R s m args below meth c H locs cells slots Q (F0 m 40 ls [])) →
    W p l e R s m args below meth c H locs cells slots Q (F0 m 16 ls []) := by
  obtain ⟨hx, hb, hml, hown, hts⟩ := id hf
  intro k
  induction k with
  | zero =>
    intro i H locs ls hik hP hD hS hl kk1 kk0
    refine lv_iload_n hx hb dX1_endOfChunk_16 rfl (lv_at hl 0 rfl) ?_
    refine lv_iload_n hx hb dX1_endOfChunk_17 rfl (lv_at hl 1 rfl) ?_
    refine lv_icmp_ge (tgt := 40) hx hb dX1_endOfChunk_18 (by decide) (fun c_1 => ?_) (fun c_1 => ?_)
    · have c_1 := q_le (a := lm) (b := i) (by omega) (by omega) c_1
      exact kk0 H locs ls (show lm = i by omega) hP hD hS (lv_sub hl (l' := [(2, .int (nI lm)), (0, .ref el)]) [1, 3] rfl)
    · have c_1 := q_nle (a := lm) (b := i) (by omega) (by omega) c_1
      exact False.elim (by omega)
  | succ k ih =>
    intro i H locs ls hik hP hD hS hl kk1 kk0
    refine lv_iload_n hx hb dX1_endOfChunk_16 rfl (lv_at hl 0 rfl) ?_
    refine lv_iload_n hx hb dX1_endOfChunk_17 rfl (lv_at hl 1 rfl) ?_
    refine lv_icmp_ge (tgt := 40) hx hb dX1_endOfChunk_18 (by decide) (fun c_1 => ?_) (fun c_1 => ?_)
    · have c_1 := q_le (a := lm) (b := i) (by omega) (by omega) c_1
      exact False.elim (by omega)
    · have c_1 := q_nle (a := lm) (b := i) (by omega) (by omega) c_1
      refine lv_aload_n hx hb dX1_endOfChunk_21 rfl (lv_at hl 3 rfl) ?_
      refine o_get (D := D) (ci := 2) (v := .ref tx) (C := RX1) (T := TX1) (N := 9) hx hb hts inX1 hown hK hP h_el rfl 3 (by decide) (hts _ k_236) (fun _ h9 => h9) rfl dX1_endOfChunk_22 ?_
      refine lv_iload_n hx hb dX1_endOfChunk_25 rfl (lv_at hl 0 rfl) ?_
      refine o_bld (X := i) hx hb hK hP h_tx (by omega) (by omega) dX1_endOfChunk_26 ?_
      refine lv_bipush (v := 32) hx hb dX1_endOfChunk_27 (by decide) ?_
      refine lv_icmp_ne (tgt := 34) hx hb dX1_endOfChunk_29 (by decide) (fun c_2 => ?_) (fun c_2 => ?_)
      · refine lv_iinc (v := nI (i + 1)) (lv' := [(3, .int (nI (i + 1))), (2, .int (nI lm)), (1, .int x1), (0, .ref el)]) hx hb dX1_endOfChunk_34 hl (k := 0) rfl (nI_addE (a := i) (b := 1) (by omega)) (by decide) rfl (fun ls hl => ?_)
        refine lv_goto (tgt := 16) hx hb dX1_endOfChunk_37 (by decide) ?_
        exact ih (i + 1) H locs ls (by omega) hP hD hS (lv_sub hl (l' := [(3, .int (nI (i + 1))), (2, .int (nI lm)), (1, .int x1), (0, .ref el)]) [0, 1, 2, 3] rfl) (fun j H locs ls a1 => kk1 j H locs ls (a1.trans (if_neg c_2).symm)) (fun H locs ls a1 => kk0 H locs ls (a1.trans (if_neg c_2).symm))
      · exact kk1 i H locs ls (if_pos c_2).symm hP hD hS (lv_sub hl (l' := [(3, .int (nI i)), (0, .ref el)]) [0, 3] rfl)
set_option maxHeartbeats 1000000 in
set_option maxRecDepth 100000 in
theorem l_chunk (l : Launch) (D : va_G) (z : Nat → Nat) (cB cI_ cO : ClassId) (L0 : List Nat) (g0 : hG) (el : Nat) (kd nm sk : Int32) (tx n w rf rt rn : Nat) (N0 at_ : Nat) (tf : Nat → Int32) (h_el : ho L0 g0 el 9 (.inr (2, [.int kd, .int nm, .int sk, .ref tx, .int (nI n), .int (nI w), .ref rf, .ref rt, .int (nI rn)]))) (h_tx : ho L0 g0 tx 10 (.inl (cB, N0, .inl tf))) (hk6 : kd6 kd) (hN0 : N0 ≤ 1200) (hnN : n ≤ N0) (hat : at_ < n) : eIs l D yX1_endOfChunk cX1_endOfChunk 4 (some .int) 1 20 0 0 [.ref el, .int (nI at_)] z cB cI_ cO L0 g0 (fun r => r = nI (ck_e tf n (tx_w kd) at_)) := by
  refine o_si (by decide) (Nat.le_of_ble_eq_true rfl) ?_
  intro p e s m below meth c A ls hf hr hlocks hin hK hP hD hS hA hZ hN hl
  obtain ⟨hx, hb, hml, hown, hts⟩ := id hf
  have hl : lv_has ls 4 [(0, .ref el), (1, .int (nI at_))] := hl
  refine lv_aload_n hx hb dX1_endOfChunk_0 rfl (lv_at hl 0 rfl) ?_
  refine o_get (D := D) (ci := 2) (v := .int (nI n)) (C := RX1) (T := TX1) (N := 9) hx hb hts inX1 hown hK hP h_el rfl 4 (by decide) (hts _ k_237) (fun _ h9 => h9) rfl dX1_endOfChunk_1 ?_
  refine lv_iload_n hx hb dX1_endOfChunk_4 rfl (lv_at hl 1 rfl) ?_
  refine lv_aload_n hx hb dX1_endOfChunk_5 rfl (lv_at hl 0 rfl) ?_
  refine o_cis (k := 0) (n := 0) hK hP hD hS hA (o_rV (As := []) (rest := [.int (nI at_), .int (nI n)]) hf (l_width _ _ _ _ _ _ _ _ el kd nm sk tx n w rf rt rn h_el hk6 _) k_217 k_214 k_216 k_4 k_90 (nA := 0) (by decide +kernel) ⟨Nat.le_of_ble_eq_true rfl, Nat.le_of_ble_eq_true rfl⟩ hK hP hD hS hA hZ hN h_el rfl rfl rfl hl.1 rfl (Nat.le_of_ble_eq_true rfl) dX1_endOfChunk_6 ⟨(show 0 + 0 ≤ 0 by omega), (show 0 + 0 ≤ 0 by omega)⟩) (Nat.le_refl _) (Nat.le_refl _) (fun r H locs hw hP hD hS => ?_)
  obtain rfl := hw
  have htw := tx_w_in kd
  refine lv_iadd hx hb dX1_endOfChunk_9 ?_
  refine q_seti (y := nI (at_ + tx_w kd)) (nI_addE (a := at_) (b := tx_w kd) (by omega)) ?_
  refine va_mmin hx hb (by rw [hml]; exact hl.1.symm) hown (hts _ k_220) (hts _ k_221) (hts _ k_91) (hts _ k_222) (Nat.le_of_ble_eq_true rfl) (Nat.le_of_ble_eq_true rfl) (show 0 ≤ 0 by omega) (show 0 ≤ 0 by omega) dX1_endOfChunk_10 ?_
  refine q_seti (y := nI (ck_lim n (tx_w kd) at_)) (q_min (a := n) (b := at_ + tx_w kd) (by omega) (by omega) rfl) ?_
  refine lv_istore_n (lv' := [(2, .int (nI (ck_lim n (tx_w kd) at_))), (0, .ref el), (1, .int (nI at_))]) hx hb dX1_endOfChunk_13 rfl hl (by decide) rfl (fun ls hl => ?_)
  refine lv_iload_n hx hb dX1_endOfChunk_14 rfl (lv_at hl 2 rfl) ?_
  refine lv_istore_n (lv' := [(3, .int (nI at_)), (2, .int (nI (ck_lim n (tx_w kd) at_))), (0, .ref el), (1, .int (nI at_))]) hx hb dX1_endOfChunk_15 rfl hl (by decide) rfl (fun ls hl => ?_)
  have hlb := ck_lim_b hat (show 1 ≤ tx_w kd by omega)
  refine lc_loop (x1 := nI at_) h_el h_tx hN0 (by omega) (Nat.le_of_ble_eq_true rfl) (Nat.le_of_ble_eq_true rfl) (show 0 ≤ 0 by omega) (show 0 ≤ 0 by omega) hA hf hK hZ hN (ck_lim n (tx_w kd) at_ - at_) at_ _ _ ls (by omega) hP hD hS (lv_sub hl (l' := [(3, .int (nI at_)), (2, .int (nI (ck_lim n (tx_w kd) at_))), (1, .int (nI at_)), (0, .ref el)]) [0, 1, 3, 2] rfl) ?_ ?_
  · intro j H locs ls a1 hP hD hS hl
    refine lv_iload_n hx hb dX1_endOfChunk_32 rfl (lv_at hl 0 rfl) ?_
    exact o_ri hf hr rfl hlocks hK hP hD hS (show 0 ≤ 0 by omega) (show 0 ≤ 0 by omega) ⟨congrArg nI a1, rfl, rfl⟩ dX1_endOfChunk_33
  · intro H locs ls a1 hP hD hS hl
    refine lv_iload_n hx hb dX1_endOfChunk_40 rfl (lv_at hl 0 rfl) ?_
    exact o_ri hf hr rfl hlocks hK hP hD hS (show 0 ≤ 0 by omega) (show 0 ≤ 0 by omega) ⟨congrArg nI a1, rfl, rfl⟩ dX1_endOfChunk_41
set_option maxHeartbeats 1000000 in
set_option maxRecDepth 100000 in
theorem l_put0 (l : Launch) (D : va_G) (z : Nat → Nat) (cB cI_ cO : ClassId) (L0 : List Nat) (g0 : hG) (el : Nat) (kd nm sk : Int32) (tx n w rf rt M at_ e0 : Nat) (f1 f2 : Nat → Int32) (h_el : ho L0 g0 el 9 (.inr (2, [.int kd, .int nm, .int sk, .ref tx, .int (nI n), .int (nI w), .ref rf, .ref rt, .int 0]))) (h_rf : ho L0 g0 rf 11 (.inl (cI_, M, .inl f1))) (h_rt : ho L0 g0 rt 12 (.inl (cI_, M, .inl f2))) (hk6 : kd6 kd) (hM : M ≤ 200) (hat : at_ ≤ e0) (he0 : e0 ≤ 1200) (hM1 : 0 < M) : eV l D yX1_putInRow cX1_putInRow 3 none 1 20 0 0 [.ref el, .int (nI at_), .int (nI e0)] z cB cI_ cO L0 g0 (fun L g => ∃ (k1 k2 : Nat → Int32), ck_rv k1 k2 (ck_pr (tx_w kd) [] at_ e0) ∧ fr [9, 11, 12] L0 g0 L g ∧ fra [el, rf, rt] L0 g0 L g ∧ ho L g el 9 (.inr (2, [.int kd, .int nm, .int sk, .ref tx, .int (nI n), .int (nI w), .ref rf, .ref rt, .int (nI ((ck_pr (tx_w kd) [] at_ e0).length))])) ∧ ho L g rf 11 (.inl (cI_, M, .inl k1)) ∧ ho L g rt 12 (.inl (cI_, M, .inl k2))) := by
  refine o_sv (by decide) (Nat.le_of_ble_eq_true rfl) ?_
  intro p e s m below meth c A ls hf hr hlocks hin hK hP hD hS hA hZ hN hl
  obtain ⟨hx, hb, hml, hown, hts⟩ := id hf
  have hl : lv_has ls 3 [(0, .ref el), (1, .int (nI at_)), (2, .int (nI e0))] := hl
  have hfr : fr [9, 11, 12] L0 g0 L0 g0 := fr.rf
  have hfa : fra [el, rf, rt] L0 g0 L0 g0 := fra.rf
  refine lv_aload_n hx hb dX1_putInRow_0 rfl (lv_at hl 0 rfl) ?_
  refine o_get (D := D) (ci := 2) (v := .int 0) (C := RX1) (T := TX1) (N := 9) hx hb hts inX1 hown hK hP h_el rfl 8 (by decide) (hts _ k_241) (fun _ h9 => h9) rfl dX1_putInRow_1 ?_
  refine lv_if_le (tgt := 54) hx hb dX1_putInRow_4 (by decide) (fun _ => ?_) (fun hno => absurd hno (by decide))
  refine lv_aload_n hx hb dX1_putInRow_54 rfl (lv_at hl 0 rfl) ?_
  refine o_get (D := D) (ci := 2) (v := .int 0) (C := RX1) (T := TX1) (N := 9) hx hb hts inX1 hown hK hP h_el rfl 8 (by decide) (hts _ k_241) (fun _ h9 => h9) rfl dX1_putInRow_55 ?_
  refine lv_aload_n hx hb dX1_putInRow_58 rfl (lv_at hl 0 rfl) ?_
  refine o_get (D := D) (ci := 2) (v := .ref rf) (C := RX1) (T := TX1) (N := 9) hx hb hts inX1 hown hK hP h_el rfl 6 (by decide) (hts _ k_239) (fun _ h9 => h9) rfl dX1_putInRow_59 ?_
  refine o_leni hx hb hK hP h_rf dX1_putInRow_62 ?_
  refine lv_icmp_ge (tgt := 96) hx hb dX1_putInRow_63 (by decide) (fun c_1 => ?_) (fun c_1 => ?_)
  · have c_1 := q_le (a := M) (b := 0) (by omega) (by omega) c_1
    exact False.elim (by omega)
  · have c_1 := q_nle (a := M) (b := 0) (by omega) (by omega) c_1
    refine lv_aload_n hx hb dX1_putInRow_66 rfl (lv_at hl 0 rfl) ?_
    refine o_get (D := D) (ci := 2) (v := .ref rf) (C := RX1) (T := TX1) (N := 9) hx hb hts inX1 hown hK hP h_el rfl 6 (by decide) (hts _ k_239) (fun _ h9 => h9) rfl dX1_putInRow_67 ?_
    refine lv_aload_n hx hb dX1_putInRow_70 rfl (lv_at hl 0 rfl) ?_
    refine o_get (D := D) (ci := 2) (v := .int 0) (C := RX1) (T := TX1) (N := 9) hx hb hts inX1 hown hK hP h_el rfl 8 (by decide) (hts _ k_241) (fun _ h9 => h9) rfl dX1_putInRow_71 ?_
    refine lv_iload_n hx hb dX1_putInRow_74 rfl (lv_at hl 1 rfl) ?_
    refine o_ist (X := 0) (x := (nI at_)) hx hb hK hP hD hS h_rf (by omega) (by omega) dX1_putInRow_75 (fun g H locs h_rf hu hP hD hS => ?_)
    have h_el := h_el.up hu (by decide)
    have h_rt := h_rt.up hu (by decide)
    have hfr := hfr.up hu (by decide)
    have hfa := hfa.up hu (Or.inl (by simp))
    refine lv_aload_n hx hb dX1_putInRow_76 rfl (lv_at hl 0 rfl) ?_
    refine o_get (D := D) (ci := 2) (v := .ref rt) (C := RX1) (T := TX1) (N := 9) hx hb hts inX1 hown hK hP h_el rfl 7 (by decide) (hts _ k_240) (fun _ h9 => h9) rfl dX1_putInRow_77 ?_
    refine lv_aload_n hx hb dX1_putInRow_80 rfl (lv_at hl 0 rfl) ?_
    refine o_get (D := D) (ci := 2) (v := .int 0) (C := RX1) (T := TX1) (N := 9) hx hb hts inX1 hown hK hP h_el rfl 8 (by decide) (hts _ k_241) (fun _ h9 => h9) rfl dX1_putInRow_81 ?_
    refine lv_iload_n hx hb dX1_putInRow_84 rfl (lv_at hl 2 rfl) ?_
    refine o_ist (X := 0) (x := (nI e0)) hx hb hK hP hD hS h_rt (by omega) (by omega) dX1_putInRow_85 (fun g H locs h_rt hu hP hD hS => ?_)
    have h_el := h_el.up hu (by decide)
    have h_rf := h_rf.up hu (by decide)
    have hfr := hfr.up hu (by decide)
    have hfa := hfa.up hu (Or.inl (by simp))
    refine lv_aload_n hx hb dX1_putInRow_86 rfl (lv_at hl 0 rfl) ?_
    refine lv_dup hx hb dX1_putInRow_87 rfl ?_
    refine o_get (D := D) (ci := 2) (v := .int 0) (C := RX1) (T := TX1) (N := 9) hx hb hts inX1 hown hK hP h_el rfl 8 (by decide) (hts _ k_241) (fun _ h9 => h9) rfl dX1_putInRow_88 ?_
    refine lv_iconst (v := 1) hx hb dX1_putInRow_91 (by decide) ?_
    refine lv_iadd hx hb dX1_putInRow_92 ?_
    refine q_seti (y := 1) (by decide) ?_
    refine o_put (D := D) (ci := 2) (v := .int 1) (ty := .int) (C := RX1) (T := TX1) (N := 9) (fs1 := [.int kd, .int nm, .int sk, .ref tx, .int (nI n), .int (nI w), .ref rf, .ref rt, .int 1]) hx hb hts inX1 tyX1 tyX1_ok nmX1 hown hK hP hD hS h_el rfl 8 (by decide) (hts _ k_241) (fun _ h9 => h9) rfl (by decide +kernel) rfl rfl (Nat.le_of_ble_eq_true rfl) rfl dX1_putInRow_93 (fun g H locs h_el hu hP hD hS => ?_)
    have h_rf := h_rf.up hu (by decide)
    have h_rt := h_rt.up hu (by decide)
    have hfr := hfr.up hu (by decide)
    have hfa := hfa.up hu (Or.inl (by simp))
    exact o_rv hf hr hlocks hK hP hD hS (show 0 ≤ 0 by omega) (show 0 ≤ 0 by omega) ⟨_, _, ck_rv_n (f1 := f1) (f2 := f2) (Rv := []) trivial hat, hfr, hfa, h_el, h_rf, h_rt⟩ dX1_putInRow_96
set_option maxHeartbeats 1000000 in
set_option maxRecDepth 100000 in
theorem l_put1 (l : Launch) (D : va_G) (z : Nat → Nat) (cB cI_ cO : ClassId) (L0 : List Nat) (g0 : hG) (el : Nat) (kd nm sk : Int32) (tx n w rf rt M at_ e0 : Nat) (f1 f2 : Nat → Int32) (x : Nat × Nat) (t : List (Nat × Nat)) (h_el : ho L0 g0 el 9 (.inr (2, [.int kd, .int nm, .int sk, .ref tx, .int (nI n), .int (nI w), .ref rf, .ref rt, .int (nI (t.length + 1))]))) (h_rf : ho L0 g0 rf 11 (.inl (cI_, M, .inl f1))) (h_rt : ho L0 g0 rt 12 (.inl (cI_, M, .inl f2))) (hk6 : kd6 kd) (hM : M ≤ 200) (hat : at_ ≤ e0) (he0 : e0 ≤ 1200) (hrv : ck_rv f1 f2 (x :: t)) (hxe : x.1 ≤ e0) (hM0 : t.length + 1 ≤ M) (hM1 : ¬ e0 - x.1 ≤ tx_w kd → t.length + 1 < M) : eV l D yX1_putInRow cX1_putInRow 3 none 1 20 0 0 [.ref el, .int (nI at_), .int (nI e0)] z cB cI_ cO L0 g0 (fun L g => ∃ (k1 k2 : Nat → Int32), ck_rv k1 k2 (ck_pr (tx_w kd) (x :: t) at_ e0) ∧ fr [9, 11, 12] L0 g0 L g ∧ fra [el, rf, rt] L0 g0 L g ∧ ho L g el 9 (.inr (2, [.int kd, .int nm, .int sk, .ref tx, .int (nI n), .int (nI w), .ref rf, .ref rt, .int (nI ((ck_pr (tx_w kd) (x :: t) at_ e0).length))])) ∧ ho L g rf 11 (.inl (cI_, M, .inl k1)) ∧ ho L g rt 12 (.inl (cI_, M, .inl k2))) := by
  refine o_sv (by decide) (Nat.le_of_ble_eq_true rfl) ?_
  intro p e s m below meth c A ls hf hr hlocks hin hK hP hD hS hA hZ hN hl
  obtain ⟨hx, hb, hml, hown, hts⟩ := id hf
  have hl : lv_has ls 3 [(0, .ref el), (1, .int (nI at_)), (2, .int (nI e0))] := hl
  have hfr : fr [9, 11, 12] L0 g0 L0 g0 := fr.rf
  have hfa : fra [el, rf, rt] L0 g0 L0 g0 := fra.rf
  refine lv_aload_n hx hb dX1_putInRow_0 rfl (lv_at hl 0 rfl) ?_
  refine o_get (D := D) (ci := 2) (v := .int (nI (t.length + 1))) (C := RX1) (T := TX1) (N := 9) hx hb hts inX1 hown hK hP h_el rfl 8 (by decide) (hts _ k_241) (fun _ h9 => h9) rfl dX1_putInRow_1 ?_
  refine lv_if_le (tgt := 54) hx hb dX1_putInRow_4 (by decide) (fun c_1 => ?_) (fun c_1 => ?_)
  · have c_1 := q_le (a := t.length + 1) (b := 0) (by omega) (by omega) c_1
    exact False.elim (by omega)
  · have c_1 := q_nle (a := t.length + 1) (b := 0) (by omega) (by omega) c_1
    refine lv_aload_n hx hb dX1_putInRow_7 rfl (lv_at hl 0 rfl) ?_
    refine o_get (D := D) (ci := 2) (v := .int (nI (t.length + 1))) (C := RX1) (T := TX1) (N := 9) hx hb hts inX1 hown hK hP h_el rfl 8 (by decide) (hts _ k_241) (fun _ h9 => h9) rfl dX1_putInRow_8 ?_
    refine lv_aload_n hx hb dX1_putInRow_11 rfl (lv_at hl 0 rfl) ?_
    refine o_get (D := D) (ci := 2) (v := .ref rt) (C := RX1) (T := TX1) (N := 9) hx hb hts inX1 hown hK hP h_el rfl 7 (by decide) (hts _ k_240) (fun _ h9 => h9) rfl dX1_putInRow_12 ?_
    refine o_leni hx hb hK hP h_rt dX1_putInRow_15 ?_
    refine lv_icmp_gt (tgt := 54) hx hb dX1_putInRow_16 (by decide) (fun c_2 => ?_) (fun c_2 => ?_)
    · have c_2 := q_lt (a := M) (b := t.length + 1) (by omega) (by omega) c_2
      exact False.elim (by omega)
    · have c_2 := q_nlt (a := M) (b := t.length + 1) (by omega) (by omega) c_2
      refine lv_iload_n hx hb dX1_putInRow_19 rfl (lv_at hl 2 rfl) ?_
      refine lv_aload_n hx hb dX1_putInRow_20 rfl (lv_at hl 0 rfl) ?_
      refine o_get (D := D) (ci := 2) (v := .ref rf) (C := RX1) (T := TX1) (N := 9) hx hb hts inX1 hown hK hP h_el rfl 6 (by decide) (hts _ k_239) (fun _ h9 => h9) rfl dX1_putInRow_21 ?_
      refine lv_aload_n hx hb dX1_putInRow_24 rfl (lv_at hl 0 rfl) ?_
      refine o_get (D := D) (ci := 2) (v := .int (nI (t.length + 1))) (C := RX1) (T := TX1) (N := 9) hx hb hts inX1 hown hK hP h_el rfl 8 (by decide) (hts _ k_241) (fun _ h9 => h9) rfl dX1_putInRow_25 ?_
      refine lv_iconst (v := 1) hx hb dX1_putInRow_28 (by decide) ?_
      refine lv_isub hx hb dX1_putInRow_29 ?_
      refine q_seti (y := nI (t.length)) (nI_subE (a := t.length + 1) (b := 1) (by omega) (by omega)) ?_
      refine o_ild (X := t.length) hx hb hK hP h_rf (by omega) (by omega) dX1_putInRow_30 ?_
      refine q_seti (y := (nI (x.1))) hrv.1 ?_
      refine lv_isub hx hb dX1_putInRow_31 ?_
      refine q_seti (y := nI (e0 - x.1)) (nI_subE (a := e0) (b := x.1) (by omega) (by omega)) ?_
      refine lv_aload_n hx hb dX1_putInRow_32 rfl (lv_at hl 0 rfl) ?_
      refine o_cis (k := 0) (n := 0) hK hP hD hS hA (o_rV (As := []) (rest := [.int (nI (e0 - x.1))]) hf (l_width _ _ _ _ _ _ _ _ el kd nm sk tx n w rf rt (t.length + 1) h_el hk6 _) k_217 k_214 k_216 k_4 k_90 (nA := 0) (by decide +kernel) ⟨Nat.le_of_ble_eq_true rfl, Nat.le_of_ble_eq_true rfl⟩ hK hP hD hS hA hZ hN h_el rfl rfl rfl hl.1 rfl (Nat.le_of_ble_eq_true rfl) dX1_putInRow_33 ⟨(show 0 + 0 ≤ 0 by omega), (show 0 + 0 ≤ 0 by omega)⟩) (Nat.le_refl _) (Nat.le_refl _) (fun r H locs hw hP hD hS => ?_)
      obtain rfl := hw
      have htw := tx_w_in kd
      refine lv_icmp_gt (tgt := 54) hx hb dX1_putInRow_36 (by decide) (fun c_3 => ?_) (fun c_3 => ?_)
      · have c_3 := q_lt (a := tx_w kd) (b := e0 - x.1) (by omega) (by omega) c_3
        refine lv_aload_n hx hb dX1_putInRow_54 rfl (lv_at hl 0 rfl) ?_
        refine o_get (D := D) (ci := 2) (v := .int (nI (t.length + 1))) (C := RX1) (T := TX1) (N := 9) hx hb hts inX1 hown hK hP h_el rfl 8 (by decide) (hts _ k_241) (fun _ h9 => h9) rfl dX1_putInRow_55 ?_
        refine lv_aload_n hx hb dX1_putInRow_58 rfl (lv_at hl 0 rfl) ?_
        refine o_get (D := D) (ci := 2) (v := .ref rf) (C := RX1) (T := TX1) (N := 9) hx hb hts inX1 hown hK hP h_el rfl 6 (by decide) (hts _ k_239) (fun _ h9 => h9) rfl dX1_putInRow_59 ?_
        refine o_leni hx hb hK hP h_rf dX1_putInRow_62 ?_
        refine lv_icmp_ge (tgt := 96) hx hb dX1_putInRow_63 (by decide) (fun c_4 => ?_) (fun c_4 => ?_)
        · have c_4 := q_le (a := M) (b := t.length + 1) (by omega) (by omega) c_4
          exact False.elim (by omega)
        · have c_4 := q_nle (a := M) (b := t.length + 1) (by omega) (by omega) c_4
          refine lv_aload_n hx hb dX1_putInRow_66 rfl (lv_at hl 0 rfl) ?_
          refine o_get (D := D) (ci := 2) (v := .ref rf) (C := RX1) (T := TX1) (N := 9) hx hb hts inX1 hown hK hP h_el rfl 6 (by decide) (hts _ k_239) (fun _ h9 => h9) rfl dX1_putInRow_67 ?_
          refine lv_aload_n hx hb dX1_putInRow_70 rfl (lv_at hl 0 rfl) ?_
          refine o_get (D := D) (ci := 2) (v := .int (nI (t.length + 1))) (C := RX1) (T := TX1) (N := 9) hx hb hts inX1 hown hK hP h_el rfl 8 (by decide) (hts _ k_241) (fun _ h9 => h9) rfl dX1_putInRow_71 ?_
          refine lv_iload_n hx hb dX1_putInRow_74 rfl (lv_at hl 1 rfl) ?_
          refine o_ist (X := t.length + 1) (x := (nI at_)) hx hb hK hP hD hS h_rf (by omega) (by omega) dX1_putInRow_75 (fun g H locs h_rf hu hP hD hS => ?_)
          have h_el := h_el.up hu (by decide)
          have h_rt := h_rt.up hu (by decide)
          have hfr := hfr.up hu (by decide)
          have hfa := hfa.up hu (Or.inl (by simp))
          refine lv_aload_n hx hb dX1_putInRow_76 rfl (lv_at hl 0 rfl) ?_
          refine o_get (D := D) (ci := 2) (v := .ref rt) (C := RX1) (T := TX1) (N := 9) hx hb hts inX1 hown hK hP h_el rfl 7 (by decide) (hts _ k_240) (fun _ h9 => h9) rfl dX1_putInRow_77 ?_
          refine lv_aload_n hx hb dX1_putInRow_80 rfl (lv_at hl 0 rfl) ?_
          refine o_get (D := D) (ci := 2) (v := .int (nI (t.length + 1))) (C := RX1) (T := TX1) (N := 9) hx hb hts inX1 hown hK hP h_el rfl 8 (by decide) (hts _ k_241) (fun _ h9 => h9) rfl dX1_putInRow_81 ?_
          refine lv_iload_n hx hb dX1_putInRow_84 rfl (lv_at hl 2 rfl) ?_
          refine o_ist (X := t.length + 1) (x := (nI e0)) hx hb hK hP hD hS h_rt (by omega) (by omega) dX1_putInRow_85 (fun g H locs h_rt hu hP hD hS => ?_)
          have h_el := h_el.up hu (by decide)
          have h_rf := h_rf.up hu (by decide)
          have hfr := hfr.up hu (by decide)
          have hfa := hfa.up hu (Or.inl (by simp))
          refine lv_aload_n hx hb dX1_putInRow_86 rfl (lv_at hl 0 rfl) ?_
          refine lv_dup hx hb dX1_putInRow_87 rfl ?_
          refine o_get (D := D) (ci := 2) (v := .int (nI (t.length + 1))) (C := RX1) (T := TX1) (N := 9) hx hb hts inX1 hown hK hP h_el rfl 8 (by decide) (hts _ k_241) (fun _ h9 => h9) rfl dX1_putInRow_88 ?_
          refine lv_iconst (v := 1) hx hb dX1_putInRow_91 (by decide) ?_
          refine lv_iadd hx hb dX1_putInRow_92 ?_
          refine q_seti (y := nI (t.length + 2)) (nI_addE (a := t.length + 1) (b := 1) (by omega)) ?_
          refine o_put (D := D) (ci := 2) (v := .int (nI (t.length + 2))) (ty := .int) (C := RX1) (T := TX1) (N := 9) (fs1 := [.int kd, .int nm, .int sk, .ref tx, .int (nI n), .int (nI w), .ref rf, .ref rt, .int (nI (t.length + 2))]) hx hb hts inX1 tyX1 tyX1_ok nmX1 hown hK hP hD hS h_el rfl 8 (by decide) (hts _ k_241) (fun _ h9 => h9) rfl (by decide +kernel) rfl rfl (Nat.le_of_ble_eq_true rfl) rfl dX1_putInRow_93 (fun g H locs h_el hu hP hD hS => ?_)
          have h_rf := h_rf.up hu (by decide)
          have h_rt := h_rt.up hu (by decide)
          have hfr := hfr.up hu (by decide)
          have hfa := hfa.up hu (Or.inl (by simp))
          exact o_rv hf hr hlocks hK hP hD hS (show 0 ≤ 0 by omega) (show 0 ≤ 0 by omega) ⟨_, _, by rw [ck_pr_g (by omega)]; exact ck_rv_n (Rv := x :: t) hrv hat, hfr, hfa, by rw [ck_pr_g (by omega)]; exact h_el, h_rf, h_rt⟩ dX1_putInRow_96
      · have c_3 := q_nlt (a := tx_w kd) (b := e0 - x.1) (by omega) (by omega) c_3
        refine lv_aload_n hx hb dX1_putInRow_39 rfl (lv_at hl 0 rfl) ?_
        refine o_get (D := D) (ci := 2) (v := .ref rt) (C := RX1) (T := TX1) (N := 9) hx hb hts inX1 hown hK hP h_el rfl 7 (by decide) (hts _ k_240) (fun _ h9 => h9) rfl dX1_putInRow_40 ?_
        refine lv_aload_n hx hb dX1_putInRow_43 rfl (lv_at hl 0 rfl) ?_
        refine o_get (D := D) (ci := 2) (v := .int (nI (t.length + 1))) (C := RX1) (T := TX1) (N := 9) hx hb hts inX1 hown hK hP h_el rfl 8 (by decide) (hts _ k_241) (fun _ h9 => h9) rfl dX1_putInRow_44 ?_
        refine lv_iconst (v := 1) hx hb dX1_putInRow_47 (by decide) ?_
        refine lv_isub hx hb dX1_putInRow_48 ?_
        refine q_seti (y := nI (t.length)) (nI_subE (a := t.length + 1) (b := 1) (by omega) (by omega)) ?_
        refine lv_iload_n hx hb dX1_putInRow_49 rfl (lv_at hl 2 rfl) ?_
        refine o_ist (X := t.length) (x := (nI e0)) hx hb hK hP hD hS h_rt (by omega) (by omega) dX1_putInRow_50 (fun g H locs h_rt hu hP hD hS => ?_)
        have h_el := h_el.up hu (by decide)
        have h_rf := h_rf.up hu (by decide)
        have hfr := hfr.up hu (by decide)
        have hfa := hfa.up hu (Or.inl (by simp))
        refine lv_goto (tgt := 96) hx hb dX1_putInRow_51 (by decide) ?_
        exact o_rv hf hr hlocks hK hP hD hS (show 0 ≤ 0 by omega) (show 0 ≤ 0 by omega) ⟨_, _, by rw [ck_pr_p (by omega)]; exact ck_rv_j hrv (by omega), hfr, hfa, by rw [ck_pr_p (by omega)]; exact h_el, h_rf, h_rt⟩ dX1_putInRow_96
theorem l_put (l : Launch) (D : va_G) (z : Nat → Nat) (cB cI_ cO : ClassId) (L0 : List Nat) (g0 : hG) (el : Nat) (kd nm sk : Int32) (tx n w rf rt M at_ e0 : Nat) (f1 f2 : Nat → Int32) (Rv : List (Nat × Nat)) (h_el : ho L0 g0 el 9 (.inr (2, [.int kd, .int nm, .int sk, .ref tx, .int (nI n), .int (nI w), .ref rf, .ref rt, .int (nI (Rv.length))]))) (h_rf : ho L0 g0 rf 11 (.inl (cI_, M, .inl f1))) (h_rt : ho L0 g0 rt 12 (.inl (cI_, M, .inl f2))) (hk6 : kd6 kd) (hM : M ≤ 200) (hat : at_ ≤ e0) (he0 : e0 ≤ 1200) (hrv : ck_rv f1 f2 Rv) (hxe : ∀ x t, Rv = x :: t → x.1 ≤ e0) (hM0 : Rv.length ≤ M) (hM1 : (ck_pr (tx_w kd) Rv at_ e0).length ≤ M) : eV l D yX1_putInRow cX1_putInRow 3 none 1 20 0 0 [.ref el, .int (nI at_), .int (nI e0)] z cB cI_ cO L0 g0 (fun L g => ∃ (k1 k2 : Nat → Int32), ck_rv k1 k2 (ck_pr (tx_w kd) Rv at_ e0) ∧ fr [9, 11, 12] L0 g0 L g ∧ fra [el, rf, rt] L0 g0 L g ∧ ho L g el 9 (.inr (2, [.int kd, .int nm, .int sk, .ref tx, .int (nI n), .int (nI w), .ref rf, .ref rt, .int (nI ((ck_pr (tx_w kd) Rv at_ e0).length))])) ∧ ho L g rf 11 (.inl (cI_, M, .inl k1)) ∧ ho L g rt 12 (.inl (cI_, M, .inl k2))) := by
  cases Rv with
  | nil => exact l_put0 l D z cB cI_ cO L0 g0 el kd nm sk tx n w rf rt M at_ e0 f1 f2 h_el h_rf h_rt hk6 hM hat he0 hM1
  | cons x t => exact l_put1 l D z cB cI_ cO L0 g0 el kd nm sk tx n w rf rt M at_ e0 f1 f2 x t h_el h_rf h_rt hk6 hM hat he0 hrv (hxe x t rfl) hM0 (fun z => by rw [ck_pr_g z] at hM1; exact hM1)
