/-- an element of the desk: its kind, its number, struck or not, how many words, its text -/
def elR (cB cI_ : ClassId) (L : List Nat) (g : hG) (a : Nat) (kd nm sk : Int32) (w : Nat) (X : List Int32) : Prop :=
  ∃ (tx rf rt N0 M : Nat) (tf f1 f2 : Nat → Int32), ho L g a 9 (.inr (2, [.int kd, .int nm, .int sk, .ref tx, .int (nI X.length), .int (nI w), .ref rf, .ref rt, .int (nI (tx_rows kd X).length)])) ∧ ho L g tx 10 (.inl (cB, N0, .inl tf)) ∧ ho L g rf 11 (.inl (cI_, M, .inl f1)) ∧ ho L g rt 12 (.inl (cI_, M, .inl f2)) ∧ tx_is X tf ∧ ck_rv f1 f2 (tx_rows kd X) ∧ (X.length ≤ N0 ∧ N0 ≤ 1200 ∧ (tx_rows kd X).length ≤ M ∧ M ≤ 200 ∧ w ≤ X.length) ∧ kd6 kd
theorem elR.fr {cB cI_ : ClassId} {ts L L1 : List Nat} {g g1 : hG} {a w : Nat} {kd nm sk : Int32} {X : List Int32} (h : elR cB cI_ L g a kd nm sk w X) (hf : fr ts L g L1 g1) (ht : (9 ∉ ts ∧ 10 ∉ ts) ∧ 11 ∉ ts ∧ 12 ∉ ts) : elR cB cI_ L1 g1 a kd nm sk w X := by
  obtain ⟨tx, rf, rt, N0, M, tf, f1, f2, h1, h2, h3, h4, h5⟩ := h
  exact ⟨tx, rf, rt, N0, M, tf, f1, f2, h1.fr hf ht.1.1, h2.fr hf ht.1.2, h3.fr hf ht.2.1, h4.fr hf ht.2.2, h5⟩
theorem elR.fa {cB cI_ : ClassId} {as L L1 : List Nat} {g g1 : hG} {a w : Nat} {kd nm sk : Int32} {X : List Int32} (h : elR cB cI_ L g a kd nm sk w X) (hf : fra as L g L1 g1) (hn : ∀ b, b ∈ as → b ∉ L ∨ ((g b).1 ≠ 9 ∧ (g b).1 ≠ 10 ∧ (g b).1 ≠ 11 ∧ (g b).1 ≠ 12)) : elR cB cI_ L1 g1 a kd nm sk w X := by
  obtain ⟨tx, rf, rt, N0, M, tf, f1, f2, h1, h2, h3, h4, h5⟩ := h
  have key : ∀ (b t : Nat) (e : va_E), ho L g b t e → t = 9 ∨ t = 10 ∨ t = 11 ∨ t = 12 → b ∉ as := by
    intro b t e hb ht hz
    rcases hn b hz with h9 | h9
    · exact h9 hb.1
    · rw [hb.2] at h9
      have h9 : t ≠ 9 ∧ t ≠ 10 ∧ t ≠ 11 ∧ t ≠ 12 := h9
      omega
  exact ⟨tx, rf, rt, N0, M, tf, f1, f2, h1.fa hf (key _ _ _ h1 (by omega)), h2.fa hf (key _ _ _ h2 (by omega)), h3.fa hf (key _ _ _ h3 (by omega)), h4.fa hf (key _ _ _ h4 (by omega)), h5⟩
/-- what a making adds -/
theorem elR.nw {cB cI_ : ClassId} {L L1 : List Nat} {g g1 : hG} {a w q : Nat} {kd nm sk : Int32} {X : List Int32} (h : elR cB cI_ L g a kd nm sk w X) (hn : nw1 L g q L1 g1) : elR cB cI_ L1 g1 a kd nm sk w X := by
  obtain ⟨tx, rf, rt, N0, M, tf, f1, f2, h1, h2, h3, h4, h5⟩ := h
  exact ⟨tx, rf, rt, N0, M, tf, f1, f2, h1.nw hn, h2.nw hn, h3.nw hn, h4.nw hn, h5⟩
abbrev cX1_hasEmptyRowAhead : ByteArray := prog_3_method_6_code
def yX1_hasEmptyRowAhead : MethodName := ⟨RX1, "hasEmptyRowAhead", "()Z"⟩
abbrev cX1_init : ByteArray := prog_3_method_1_code
def yX1_init : MethodName := ⟨RX1, "<init>", "(IILScriptDesk$Tape;II)V"⟩
abbrev cX1_isWithin : ByteArray := prog_3_method_9_code
def yX1_isWithin : MethodName := ⟨RX1, "isWithin", "(I)Z"⟩
abbrev cX1_isWithinSpeech : ByteArray := prog_3_method_10_code
def yX1_isWithinSpeech : MethodName := ⟨RX1, "isWithinSpeech", "(I)Z"⟩
abbrev cX1_mayBreakWithin : ByteArray := prog_3_method_7_code
def yX1_mayBreakWithin : MethodName := ⟨RX1, "mayBreakWithin", "()Z"⟩
abbrev cX1_mayEndPage : ByteArray := prog_3_method_8_code
def yX1_mayEndPage : MethodName := ⟨RX1, "mayEndPage", "()Z"⟩
abbrev cX1_rowCount : ByteArray := prog_3_method_3_code
def yX1_rowCount : MethodName := ⟨RX1, "rowCount", "()I"⟩
abbrev cX1_wordCount : ByteArray := prog_3_method_2_code
def yX1_wordCount : MethodName := ⟨RX1, "wordCount", "()I"⟩
theorem k_0 : (Cond.selects RX1 yX1_takeWords yX1_takeWords) ∈ gT := gT_i 0 (by decide +kernel) rfl
theorem k_2 : (Cond.selects RX1 yX1_fillRows yX1_fillRows) ∈ gT := gT_i 2 (by decide +kernel) rfl
theorem k_113 : (Cond.instanceMethod objectInit) ∈ gT := gT_i 113 (by decide +kernel) rfl
theorem k_114 : (Cond.code objectInit ⟨#[0xb1]⟩ 1 none) ∈ gT := gT_i 114 (by decide +kernel) rfl
theorem k_128 : (Cond.arrayClass .byte) ∈ gT := gT_i 128 (by decide +kernel) rfl
theorem k_185 : (Cond.methodLink RX1 3 objectInit) ∈ gT := gT_i 185 (by decide +kernel) rfl
theorem k_186 : (Cond.methodLink RX1 18 Lib.Math.max.name) ∈ gT := gT_i 186 (by decide +kernel) rfl
theorem k_187 : (Cond.static Lib.Math.max.name) ∈ gT := gT_i 187 (by decide +kernel) rfl
theorem k_188 : (Cond.code Lib.Math.max.name Lib.Math.max.code 2 (some .int)) ∈ gT := gT_i 188 (by decide +kernel) rfl
theorem k_189 : (Cond.methodLink RX1 28 yX1_takeWords) ∈ gT := gT_i 189 (by decide +kernel) rfl
theorem k_191 : (Cond.instanceMethod yX1_takeWords) ∈ gT := gT_i 191 (by decide +kernel) rfl
theorem k_192 : (Cond.code yX1_takeWords cX1_takeWords 7 none) ∈ gT := gT_i 192 (by decide +kernel) rfl
theorem k_206 : (Cond.methodLink RX1 42 yX1_fillRows) ∈ gT := gT_i 206 (by decide +kernel) rfl
theorem k_208 : (Cond.instanceMethod yX1_fillRows) ∈ gT := gT_i 208 (by decide +kernel) rfl
theorem k_209 : (Cond.code yX1_fillRows cX1_fillRows 5 none) ∈ gT := gT_i 209 (by decide +kernel) rfl
theorem k_231 : (Cond.fieldLink RX1 9 "ScriptDesk$Element" "number" "I") ∈ gT := gT_i 231 (by decide +kernel) rfl
theorem k_261 : (Cond.arrayClass .int) ∈ gT := gT_i 261 (by decide +kernel) rfl
theorem k_797 : (Cond.methodLink RX1 55 yX1_isWithin) ∈ gT := gT_i 797 (by decide +kernel) rfl
theorem k_798 : (Cond.instanceMethod yX1_isWithin) ∈ gT := gT_i 798 (by decide +kernel) rfl
theorem k_799 : (Cond.selects RX1 yX1_isWithin yX1_isWithin) ∈ gT := gT_i 799 (by decide +kernel) rfl
theorem k_800 : (Cond.code yX1_isWithin cX1_isWithin 2 (some .boolean)) ∈ gT := gT_i 800 (by decide +kernel) rfl
theorem dX1_init_0 : decode cX1_init 0 = .ok (.aload_n 0, 1) := by decide +kernel
theorem dX1_init_1 : decode cX1_init 1 = .ok (.invokespecial 3, 3) := by decide +kernel
theorem dX1_init_4 : decode cX1_init 4 = .ok (.aload_n 0, 1) := by decide +kernel
theorem dX1_init_5 : decode cX1_init 5 = .ok (.iload_n 1, 1) := by decide +kernel
theorem dX1_init_6 : decode cX1_init 6 = .ok (.putfield 9, 3) := by decide +kernel
theorem dX1_init_9 : decode cX1_init 9 = .ok (.aload_n 0, 1) := by decide +kernel
theorem dX1_init_10 : decode cX1_init 10 = .ok (.iload_n 2, 1) := by decide +kernel
theorem dX1_init_11 : decode cX1_init 11 = .ok (.putfield 15, 3) := by decide +kernel
theorem dX1_init_14 : decode cX1_init 14 = .ok (.aload_n 0, 1) := by decide +kernel
theorem dX1_init_15 : decode cX1_init 15 = .ok (.iconst 0, 1) := by decide +kernel
theorem dX1_init_16 : decode cX1_init 16 = .ok (.iload 5, 2) := by decide +kernel
theorem dX1_init_18 : decode cX1_init 18 = .ok (.iload 4, 2) := by decide +kernel
theorem dX1_init_20 : decode cX1_init 20 = .ok (.isub, 1) := by decide +kernel
theorem dX1_init_21 : decode cX1_init 21 = .ok (.invokestatic 18, 3) := by decide +kernel
theorem dX1_init_24 : decode cX1_init 24 = .ok (.newarray .byte, 2) := by decide +kernel
theorem dX1_init_26 : decode cX1_init 26 = .ok (.putfield 24, 3) := by decide +kernel
theorem dX1_init_29 : decode cX1_init 29 = .ok (.aload_n 0, 1) := by decide +kernel
theorem dX1_init_30 : decode cX1_init 30 = .ok (.aload_n 3, 1) := by decide +kernel
theorem dX1_init_31 : decode cX1_init 31 = .ok (.iload 4, 2) := by decide +kernel
theorem dX1_init_33 : decode cX1_init 33 = .ok (.iload 5, 2) := by decide +kernel
theorem dX1_init_35 : decode cX1_init 35 = .ok (.invokevirtual 28, 3) := by decide +kernel
theorem dX1_init_38 : decode cX1_init 38 = .ok (.iconst 2, 1) := by decide +kernel
theorem dX1_init_39 : decode cX1_init 39 = .ok (.aload_n 0, 1) := by decide +kernel
theorem dX1_init_40 : decode cX1_init 40 = .ok (.getfield 32, 3) := by decide +kernel
theorem dX1_init_43 : decode cX1_init 43 = .ok (.bipush 20, 2) := by decide +kernel
theorem dX1_init_45 : decode cX1_init 45 = .ok (.idiv, 1) := by decide +kernel
theorem dX1_init_46 : decode cX1_init 46 = .ok (.imul, 1) := by decide +kernel
theorem dX1_init_47 : decode cX1_init 47 = .ok (.iconst 1, 1) := by decide +kernel
theorem dX1_init_48 : decode cX1_init 48 = .ok (.iadd, 1) := by decide +kernel
theorem dX1_init_49 : decode cX1_init 49 = .ok (.istore 6, 2) := by decide +kernel
theorem dX1_init_51 : decode cX1_init 51 = .ok (.aload_n 0, 1) := by decide +kernel
theorem dX1_init_52 : decode cX1_init 52 = .ok (.iload 6, 2) := by decide +kernel
theorem dX1_init_54 : decode cX1_init 54 = .ok (.newarray .int, 2) := by decide +kernel
theorem dX1_init_56 : decode cX1_init 56 = .ok (.putfield 35, 3) := by decide +kernel
theorem dX1_init_59 : decode cX1_init 59 = .ok (.aload_n 0, 1) := by decide +kernel
theorem dX1_init_60 : decode cX1_init 60 = .ok (.iload 6, 2) := by decide +kernel
theorem dX1_init_62 : decode cX1_init 62 = .ok (.newarray .int, 2) := by decide +kernel
theorem dX1_init_64 : decode cX1_init 64 = .ok (.putfield 39, 3) := by decide +kernel
theorem dX1_init_67 : decode cX1_init 67 = .ok (.aload_n 0, 1) := by decide +kernel
theorem dX1_init_68 : decode cX1_init 68 = .ok (.invokevirtual 42, 3) := by decide +kernel
theorem dX1_init_71 : decode cX1_init 71 = .ok (.return_, 1) := by decide +kernel
theorem dX1_wordCount_0 : decode cX1_wordCount 0 = .ok (.aload_n 0, 1) := by decide +kernel
theorem dX1_wordCount_1 : decode cX1_wordCount 1 = .ok (.getfield 45, 3) := by decide +kernel
theorem dX1_wordCount_4 : decode cX1_wordCount 4 = .ok (.ireturn, 1) := by decide +kernel
theorem dX1_rowCount_0 : decode cX1_rowCount 0 = .ok (.aload_n 0, 1) := by decide +kernel
theorem dX1_rowCount_1 : decode cX1_rowCount 1 = .ok (.getfield 48, 3) := by decide +kernel
theorem dX1_rowCount_4 : decode cX1_rowCount 4 = .ok (.ireturn, 1) := by decide +kernel
theorem dX1_hasEmptyRowAhead_0 : decode cX1_hasEmptyRowAhead 0 = .ok (.aload_n 0, 1) := by decide +kernel
theorem dX1_hasEmptyRowAhead_1 : decode cX1_hasEmptyRowAhead 1 = .ok (.getfield 15, 3) := by decide +kernel
theorem dX1_hasEmptyRowAhead_4 : decode cX1_hasEmptyRowAhead 4 = .ok (.iconst 3, 1) := by decide +kernel
theorem dX1_hasEmptyRowAhead_5 : decode cX1_hasEmptyRowAhead 5 = .ok (.if_icmp .eq 15, 3) := by decide +kernel
theorem dX1_hasEmptyRowAhead_20 : decode cX1_hasEmptyRowAhead 20 = .ok (.iconst 0, 1) := by decide +kernel
theorem dX1_hasEmptyRowAhead_21 : decode cX1_hasEmptyRowAhead 21 = .ok (.ireturn, 1) := by decide +kernel
theorem dX1_hasEmptyRowAhead_8 : decode cX1_hasEmptyRowAhead 8 = .ok (.aload_n 0, 1) := by decide +kernel
theorem dX1_hasEmptyRowAhead_9 : decode cX1_hasEmptyRowAhead 9 = .ok (.getfield 15, 3) := by decide +kernel
theorem dX1_hasEmptyRowAhead_12 : decode cX1_hasEmptyRowAhead 12 = .ok (.iconst 4, 1) := by decide +kernel
theorem dX1_hasEmptyRowAhead_13 : decode cX1_hasEmptyRowAhead 13 = .ok (.if_icmp .eq 7, 3) := by decide +kernel
theorem dX1_hasEmptyRowAhead_16 : decode cX1_hasEmptyRowAhead 16 = .ok (.iconst 1, 1) := by decide +kernel
theorem dX1_hasEmptyRowAhead_17 : decode cX1_hasEmptyRowAhead 17 = .ok (.goto 4, 3) := by decide +kernel
theorem dX1_mayBreakWithin_0 : decode cX1_mayBreakWithin 0 = .ok (.aload_n 0, 1) := by decide +kernel
theorem dX1_mayBreakWithin_1 : decode cX1_mayBreakWithin 1 = .ok (.getfield 15, 3) := by decide +kernel
theorem dX1_mayBreakWithin_4 : decode cX1_mayBreakWithin 4 = .ok (.iconst 4, 1) := by decide +kernel
theorem dX1_mayBreakWithin_5 : decode cX1_mayBreakWithin 5 = .ok (.if_icmp .eq 11, 3) := by decide +kernel
theorem dX1_mayBreakWithin_16 : decode cX1_mayBreakWithin 16 = .ok (.iconst 1, 1) := by decide +kernel
theorem dX1_mayBreakWithin_17 : decode cX1_mayBreakWithin 17 = .ok (.goto 4, 3) := by decide +kernel
theorem dX1_mayBreakWithin_21 : decode cX1_mayBreakWithin 21 = .ok (.ireturn, 1) := by decide +kernel
theorem dX1_mayBreakWithin_8 : decode cX1_mayBreakWithin 8 = .ok (.aload_n 0, 1) := by decide +kernel
theorem dX1_mayBreakWithin_9 : decode cX1_mayBreakWithin 9 = .ok (.getfield 15, 3) := by decide +kernel
theorem dX1_mayBreakWithin_12 : decode cX1_mayBreakWithin 12 = .ok (.iconst 5, 1) := by decide +kernel
theorem dX1_mayBreakWithin_13 : decode cX1_mayBreakWithin 13 = .ok (.if_icmp .ne 7, 3) := by decide +kernel
theorem dX1_mayBreakWithin_20 : decode cX1_mayBreakWithin 20 = .ok (.iconst 0, 1) := by decide +kernel
theorem dX1_mayEndPage_0 : decode cX1_mayEndPage 0 = .ok (.aload_n 0, 1) := by decide +kernel
theorem dX1_mayEndPage_1 : decode cX1_mayEndPage 1 = .ok (.getfield 15, 3) := by decide +kernel
theorem dX1_mayEndPage_4 : decode cX1_mayEndPage 4 = .ok (.ifCond .eq 23, 3) := by decide +kernel
theorem dX1_mayEndPage_27 : decode cX1_mayEndPage 27 = .ok (.iconst 0, 1) := by decide +kernel
theorem dX1_mayEndPage_28 : decode cX1_mayEndPage 28 = .ok (.ireturn, 1) := by decide +kernel
theorem dX1_mayEndPage_7 : decode cX1_mayEndPage 7 = .ok (.aload_n 0, 1) := by decide +kernel
theorem dX1_mayEndPage_8 : decode cX1_mayEndPage 8 = .ok (.getfield 15, 3) := by decide +kernel
theorem dX1_mayEndPage_11 : decode cX1_mayEndPage 11 = .ok (.iconst 2, 1) := by decide +kernel
theorem dX1_mayEndPage_12 : decode cX1_mayEndPage 12 = .ok (.if_icmp .eq 15, 3) := by decide +kernel
theorem dX1_mayEndPage_15 : decode cX1_mayEndPage 15 = .ok (.aload_n 0, 1) := by decide +kernel
theorem dX1_mayEndPage_16 : decode cX1_mayEndPage 16 = .ok (.getfield 15, 3) := by decide +kernel
theorem dX1_mayEndPage_19 : decode cX1_mayEndPage 19 = .ok (.iconst 3, 1) := by decide +kernel
theorem dX1_mayEndPage_20 : decode cX1_mayEndPage 20 = .ok (.if_icmp .eq 7, 3) := by decide +kernel
theorem dX1_mayEndPage_23 : decode cX1_mayEndPage 23 = .ok (.iconst 1, 1) := by decide +kernel
theorem dX1_mayEndPage_24 : decode cX1_mayEndPage 24 = .ok (.goto 4, 3) := by decide +kernel
theorem dX1_isWithin_0 : decode cX1_isWithin 0 = .ok (.iload_n 1, 1) := by decide +kernel
theorem dX1_isWithin_1 : decode cX1_isWithin 1 = .ok (.ifCond .le 15, 3) := by decide +kernel
theorem dX1_isWithin_16 : decode cX1_isWithin 16 = .ok (.iconst 0, 1) := by decide +kernel
theorem dX1_isWithin_17 : decode cX1_isWithin 17 = .ok (.ireturn, 1) := by decide +kernel
theorem dX1_isWithin_4 : decode cX1_isWithin 4 = .ok (.iload_n 1, 1) := by decide +kernel
theorem dX1_isWithin_5 : decode cX1_isWithin 5 = .ok (.aload_n 0, 1) := by decide +kernel
theorem dX1_isWithin_6 : decode cX1_isWithin 6 = .ok (.getfield 48, 3) := by decide +kernel
theorem dX1_isWithin_9 : decode cX1_isWithin 9 = .ok (.if_icmp .ge 7, 3) := by decide +kernel
theorem dX1_isWithin_12 : decode cX1_isWithin 12 = .ok (.iconst 1, 1) := by decide +kernel
theorem dX1_isWithin_13 : decode cX1_isWithin 13 = .ok (.goto 4, 3) := by decide +kernel
theorem dX1_isWithinSpeech_0 : decode cX1_isWithinSpeech 0 = .ok (.aload_n 0, 1) := by decide +kernel
theorem dX1_isWithinSpeech_1 : decode cX1_isWithinSpeech 1 = .ok (.getfield 15, 3) := by decide +kernel
theorem dX1_isWithinSpeech_4 : decode cX1_isWithinSpeech 4 = .ok (.iconst 4, 1) := by decide +kernel
theorem dX1_isWithinSpeech_5 : decode cX1_isWithinSpeech 5 = .ok (.if_icmp .ne 15, 3) := by decide +kernel
theorem dX1_isWithinSpeech_20 : decode cX1_isWithinSpeech 20 = .ok (.iconst 0, 1) := by decide +kernel
theorem dX1_isWithinSpeech_21 : decode cX1_isWithinSpeech 21 = .ok (.ireturn, 1) := by decide +kernel
theorem dX1_isWithinSpeech_8 : decode cX1_isWithinSpeech 8 = .ok (.aload_n 0, 1) := by decide +kernel
theorem dX1_isWithinSpeech_9 : decode cX1_isWithinSpeech 9 = .ok (.iload_n 1, 1) := by decide +kernel
theorem dX1_isWithinSpeech_10 : decode cX1_isWithinSpeech 10 = .ok (.invokevirtual 55, 3) := by decide +kernel
theorem dX1_isWithinSpeech_13 : decode cX1_isWithinSpeech 13 = .ok (.ifCond .eq 7, 3) := by decide +kernel
theorem dX1_isWithinSpeech_16 : decode cX1_isWithinSpeech 16 = .ok (.iconst 1, 1) := by decide +kernel
theorem dX1_isWithinSpeech_17 : decode cX1_isWithinSpeech 17 = .ok (.goto 4, 3) := by decide +kernel
set_option maxHeartbeats 1000000 in
set_option maxRecDepth 100000 in
theorem l_init (l : Launch) (D : va_G) (z : Nat → Nat) (cB cI_ cO : ClassId) (L0 : List Nat) (g0 : hG) (el tp by_ tn fm to_ : Nat) (kd nm : Int32) (T : Nat → Int32) (h_el : ho L0 g0 el 9 (.inr (2, [.int 0, .int 0, .int 0, .null, .int 0, .int 0, .null, .null, .int 0]))) (h_tp : ho L0 g0 tp 2 (.inr (9, [.ref by_, .int (nI tn)]))) (h_by : ho L0 g0 by_ 3 (.inl (cB, 1200, .inl T))) (hn : tn ≤ 1200) (hto : to_ ≤ tn) (hft : fm ≤ to_) (hTb : ∀ i, vp_nar .byte (T i) = T i) (hk6 : kd6 kd) : eV l D yX1_init cX1_init 7 none 3 84 3 ((to_ - fm) + (4 * ((to_ - fm) / 20) + 2)) [.ref el, .int nm, .int kd, .ref tp, .int (nI fm), .int (nI to_)] z cB cI_ cO L0 g0 (fun L g => ∃ (w2 : Nat) (X2 : List Int32), (w2, X2) = tx_sc T (to_ - fm) fm 0 0 [] ∧ fr [9, 10, 11, 12] L0 g0 L g ∧ fra [el] L0 g0 L g ∧ elR cB cI_ L g el kd nm 0 w2 X2) := by
  refine o_sv (by decide) (Nat.le_of_ble_eq_true rfl) ?_
  intro p e s m below meth c A ls hf hr hlocks hin hK hP hD hS hA hZ hN hl
  obtain ⟨hx, hb, hml, hown, hts⟩ := id hf
  have hl : lv_has ls 7 [(0, .ref el), (1, .int nm), (2, .int kd), (3, .ref tp), (4, .int (nI fm)), (5, .int (nI to_))] := hl
  have hfr : fr [9, 10, 11, 12] L0 g0 L0 g0 := fr.rf
  have hfa : fra [el] L0 g0 L0 g0 := fra.rf
  refine lv_aload_n hx hb dX1_init_0 rfl (lv_at hl 0 rfl) ?_
  refine W.objInit hx hb hown (hts _ k_185) (hts _ k_113) (hts _ k_114) rfl (by rw [hml]; exact hl.1) rfl dX1_init_1 (Nat.le_of_ble_eq_true rfl) (Nat.le_of_ble_eq_true rfl) ?_
  refine q_eq (pc := 4) (st := []) rfl ?_
  refine lv_aload_n hx hb dX1_init_4 rfl (lv_at hl 0 rfl) ?_
  refine lv_iload_n hx hb dX1_init_5 rfl (lv_at hl 1 rfl) ?_
  refine o_put (D := D) (ci := 2) (v := .int nm) (ty := .int) (C := RX1) (T := TX1) (N := 9) (fs1 := [.int 0, .int nm, .int 0, .null, .int 0, .int 0, .null, .null, .int 0]) hx hb hts inX1 tyX1 tyX1_ok nmX1 hown hK hP hD hS h_el rfl 1 (by decide) (hts _ k_231) (fun _ h9 => h9) rfl (by decide +kernel) rfl rfl (Nat.le_of_ble_eq_true rfl) rfl dX1_init_6 (fun g H locs h_el hu hP hD hS => ?_)
  have h_tp := h_tp.up hu (by decide)
  have h_by := h_by.up hu (by decide)
  have hfr := hfr.up hu (by decide)
  have hfa := hfa.up hu (Or.inl (by simp))
  refine lv_aload_n hx hb dX1_init_9 rfl (lv_at hl 0 rfl) ?_
  refine lv_iload_n hx hb dX1_init_10 rfl (lv_at hl 2 rfl) ?_
  refine o_putF (D := D) (ci := 2) (v := .int kd) (ty := .int) (C := RX1) (T := TX1) (N := 9) (fs1 := [.int kd, .int nm, .int 0, .null, .int 0, .int 0, .null, .null, .int 0]) hx hb hts inX1 tyX1 tyX1_ok nmX1 hown hK hP hD hS h_el rfl 0 (by decide) (hts _ k_227) (fun _ h9 => h9) rfl hin rfl (by decide +kernel) rfl rfl (Nat.le_of_ble_eq_true rfl) rfl dX1_init_11 (fun g H locs h_el hu hP hD hS => ?_)
  have h_tp := h_tp.up hu (by decide)
  have h_by := h_by.up hu (by decide)
  have hfr := hfr.up hu (by decide)
  have hfa := hfa.up hu (Or.inl (by simp))
  refine lv_aload_n hx hb dX1_init_14 rfl (lv_at hl 0 rfl) ?_
  refine lv_iconst (v := 0) hx hb dX1_init_15 (by decide) ?_
  refine lv_iload hx hb dX1_init_16 (lv_at hl 5 rfl) ?_
  refine lv_iload hx hb dX1_init_18 (lv_at hl 4 rfl) ?_
  refine lv_isub hx hb dX1_init_20 ?_
  refine q_seti (y := nI (to_ - fm)) (nI_subE (a := to_) (b := fm) (by omega) (by omega)) ?_
  refine va_mmax hx hb (by rw [hml]; exact hl.1.symm) hown (hts _ k_186) (hts _ k_187) (hts _ k_91) (hts _ k_188) (Nat.le_of_ble_eq_true rfl) (Nat.le_of_ble_eq_true rfl) (show 0 ≤ 3 by omega) (show 0 ≤ (to_ - fm) + (4 * ((to_ - fm) / 20) + 2) by omega) dX1_init_21 ?_
  refine q_seti (y := nI (to_ - fm)) (q_max0 (by omega)) ?_
  refine o_newb (n := to_ - fm) hx hb 10 (hts (.arrayClass .byte) k_128) hK hP hD hS hA (by omega) (show 0 + 1 ≤ 3 by omega) (show 0 + (to_ - fm) ≤ (to_ - fm) + (4 * ((to_ - fm) / 20) + 2) by omega) dX1_init_24 (fun q_tx L g H h_tx hnw hP hD hS => ?_)
  have h_el := h_el.nw hnw
  have h_tp := h_tp.nw hnw
  have h_by := h_by.nw hnw
  have hfr := hfr.nw hnw
  have hq_q_tx := hfa.nin hnw
  have hfa := hfa.nw hnw
  refine o_putF (D := D) (ci := 2) (v := .ref q_tx) (ty := .array .byte) (C := RX1) (T := TX1) (N := 9) (fs1 := [.int kd, .int nm, .int 0, .ref q_tx, .int 0, .int 0, .null, .null, .int 0]) hx hb hts inX1 tyX1 tyX1_ok nmX1 hown hK hP hD hS h_el rfl 3 (by decide) (hts _ k_236) (fun _ h9 => h9) rfl hin rfl (by decide +kernel) rfl rfl (Nat.le_of_ble_eq_true rfl) rfl dX1_init_26 (fun g H locs h_el hu hP hD hS => ?_)
  have h_tp := h_tp.up hu (by decide)
  have h_by := h_by.up hu (by decide)
  have h_tx := h_tx.up hu (by decide)
  have hfr := hfr.up hu (by decide)
  have hfa := hfa.up hu (Or.inl (by simp))
  refine lv_aload_n hx hb dX1_init_29 rfl (lv_at hl 0 rfl) ?_
  refine lv_aload_n hx hb dX1_init_30 rfl (lv_at hl 3 rfl) ?_
  refine lv_iload hx hb dX1_init_31 (lv_at hl 4 rfl) ?_
  refine lv_iload hx hb dX1_init_33 (lv_at hl 5 rfl) ?_
  refine o_cv (k := 0 + 1) (n := 0 + (to_ - fm)) hK hP hD hS hA (o_rV (As := [.ref tp, .int (nI fm), .int (nI to_)]) (rest := []) hf (l_take _ _ _ _ _ _ _ _ el tp by_ tn q_tx fm to_ (to_ - fm) kd nm 0 T (fun _ => 0) h_el h_tx h_tp h_by hn hto hft (by omega) rfl hTb _) k_192 k_189 k_191 k_0 k_90 (nA := 3) (by decide +kernel) ⟨Nat.le_of_ble_eq_true rfl, Nat.le_of_ble_eq_true rfl⟩ hK hP hD hS hA hZ hN h_el rfl rfl rfl hl.1 rfl (Nat.le_of_ble_eq_true rfl) dX1_init_35 ⟨(show 0 + 1 + 0 ≤ 3 by omega), (show 0 + (to_ - fm) + 0 ≤ (to_ - fm) + (4 * ((to_ - fm) / 20) + 2) by omega)⟩) (Nat.le_refl _) (Nat.le_refl _) (fun L g H locs hw hP hD hS => ?_)
  obtain ⟨w2, n2, X2, tf2, a1, a2, a3, a4, hf9, hfa9, h_el, h_tx⟩ := hw
  have h_tp := h_tp.fr hf9 (by decide)
  have h_by := h_by.fr hf9 (by decide)
  have hfr := hfr.tm hf9 (by decide)
  have hfa := hfa.tm hfa9 (fal_s (Or.inl (by simp)) (fal_s (Or.inr hq_q_tx) fal_0))
  refine lv_iconst (v := 2) hx hb dX1_init_38 (by decide) ?_
  refine lv_aload_n hx hb dX1_init_39 rfl (lv_at hl 0 rfl) ?_
  refine o_get (D := D) (ci := 2) (v := .int (nI n2)) (C := RX1) (T := TX1) (N := 9) hx hb hts inX1 hown hK hP h_el rfl 4 (by decide) (hts _ k_237) (fun _ h9 => h9) rfl dX1_init_40 ?_
  refine lv_bipush (v := 20) hx hb dX1_init_43 (by decide) ?_
  refine lv_idiv hx hb dX1_init_45 (by decide) ?_
  refine q_seti (y := nI (n2 / 20)) (nI_divE (a := n2) (b := 20) (by omega) (by omega) (by omega) rfl) ?_
  refine lv_imul hx hb dX1_init_46 ?_
  refine q_seti (y := nI (2 * (n2 / 20))) (nI_mulE (a := 2) (b := n2 / 20) (by omega)) ?_
  refine lv_iconst (v := 1) hx hb dX1_init_47 (by decide) ?_
  refine lv_iadd hx hb dX1_init_48 ?_
  refine q_seti (y := nI (2 * (n2 / 20) + 1)) (nI_addE (a := 2 * (n2 / 20)) (b := 1) (by omega)) ?_
  refine lv_istore (lv' := [(6, .int (nI (2 * (n2 / 20) + 1))), (0, .ref el), (1, .int nm), (2, .int kd), (3, .ref tp), (4, .int (nI fm)), (5, .int (nI to_))]) hx hb dX1_init_49 hl (by decide) rfl (fun ls hl => ?_)
  refine lv_aload_n hx hb dX1_init_51 rfl (lv_at hl 1 rfl) ?_
  refine lv_iload hx hb dX1_init_52 (lv_at hl 0 rfl) ?_
  refine o_newi (n := 2 * (n2 / 20) + 1) hx hb 11 (hts (.arrayClass .int) k_261) hK hP hD hS hA (by omega) (show 0 + 1 + 1 ≤ 3 by omega) (show 0 + (to_ - fm) + (2 * (n2 / 20) + 1) ≤ (to_ - fm) + (4 * ((to_ - fm) / 20) + 2) by omega) dX1_init_54 (fun q_rf L g H h_rf hnw hP hD hS => ?_)
  have h_tp := h_tp.nw hnw
  have h_by := h_by.nw hnw
  have h_el := h_el.nw hnw
  have h_tx := h_tx.nw hnw
  have hfr := hfr.nw hnw
  have hq_q_rf := hfa.nin hnw
  have hfa := hfa.nw hnw
  refine o_putF (D := D) (ci := 2) (v := .ref q_rf) (ty := .array .int) (C := RX1) (T := TX1) (N := 9) (fs1 := [.int kd, .int nm, .int 0, .ref q_tx, .int (nI n2), .int (nI w2), .ref q_rf, .null, .int 0]) hx hb hts inX1 tyX1 tyX1_ok nmX1 hown hK hP hD hS h_el rfl 6 (by decide) (hts _ k_239) (fun _ h9 => h9) rfl hin rfl (by decide +kernel) rfl rfl (Nat.le_of_ble_eq_true rfl) rfl dX1_init_56 (fun g H locs h_el hu hP hD hS => ?_)
  have h_tp := h_tp.up hu (by decide)
  have h_by := h_by.up hu (by decide)
  have h_tx := h_tx.up hu (by decide)
  have h_rf := h_rf.up hu (by decide)
  have hfr := hfr.up hu (by decide)
  have hfa := hfa.up hu (Or.inl (by simp))
  refine lv_aload_n hx hb dX1_init_59 rfl (lv_at hl 1 rfl) ?_
  refine lv_iload hx hb dX1_init_60 (lv_at hl 0 rfl) ?_
  refine o_newi (n := 2 * (n2 / 20) + 1) hx hb 12 (hts (.arrayClass .int) k_261) hK hP hD hS hA (by omega) (show 0 + 1 + 1 + 1 ≤ 3 by omega) (show 0 + (to_ - fm) + (2 * (n2 / 20) + 1) + (2 * (n2 / 20) + 1) ≤ (to_ - fm) + (4 * ((to_ - fm) / 20) + 2) by omega) dX1_init_62 (fun q_rt L g H h_rt hnw hP hD hS => ?_)
  have h_tp := h_tp.nw hnw
  have h_by := h_by.nw hnw
  have h_el := h_el.nw hnw
  have h_tx := h_tx.nw hnw
  have h_rf := h_rf.nw hnw
  have hfr := hfr.nw hnw
  have hq_q_rt := hfa.nin hnw
  have hfa := hfa.nw hnw
  refine o_putF (D := D) (ci := 2) (v := .ref q_rt) (ty := .array .int) (C := RX1) (T := TX1) (N := 9) (fs1 := [.int kd, .int nm, .int 0, .ref q_tx, .int (nI n2), .int (nI w2), .ref q_rf, .ref q_rt, .int 0]) hx hb hts inX1 tyX1 tyX1_ok nmX1 hown hK hP hD hS h_el rfl 7 (by decide) (hts _ k_240) (fun _ h9 => h9) rfl hin rfl (by decide +kernel) rfl rfl (Nat.le_of_ble_eq_true rfl) rfl dX1_init_64 (fun g H locs h_el hu hP hD hS => ?_)
  have h_tp := h_tp.up hu (by decide)
  have h_by := h_by.up hu (by decide)
  have h_tx := h_tx.up hu (by decide)
  have h_rf := h_rf.up hu (by decide)
  have h_rt := h_rt.up hu (by decide)
  have hfr := hfr.up hu (by decide)
  have hfa := hfa.up hu (Or.inl (by simp))
  refine lv_aload_n hx hb dX1_init_67 rfl (lv_at hl 1 rfl) ?_
  refine o_cv (k := 0 + 1 + 1 + 1) (n := 0 + (to_ - fm) + (2 * (n2 / 20) + 1) + (2 * (n2 / 20) + 1)) hK hP hD hS hA (o_rV (As := []) (rest := []) hf (l_fill _ _ _ _ _ _ _ _ el kd nm 0 q_tx n2 w2 q_rf q_rt (2 * (n2 / 20) + 1) (to_ - fm) tf2 (fun _ => 0) (fun _ => 0) h_el h_tx h_rf h_rt hk6 (by omega) (by omega) rfl _) k_209 k_206 k_208 k_2 k_90 (nA := 0) (by decide +kernel) ⟨Nat.le_of_ble_eq_true rfl, Nat.le_of_ble_eq_true rfl⟩ hK hP hD hS hA hZ hN h_el rfl rfl rfl hl.1 rfl (Nat.le_of_ble_eq_true rfl) dX1_init_68 ⟨(show 0 + 1 + 1 + 1 + 0 ≤ 3 by omega), (show 0 + (to_ - fm) + (2 * (n2 / 20) + 1) + (2 * (n2 / 20) + 1) + 0 ≤ (to_ - fm) + (4 * ((to_ - fm) / 20) + 2) by omega)⟩) (Nat.le_refl _) (Nat.le_refl _) (fun L g H locs hw hP hD hS => ?_)
  obtain ⟨R2, k1, k2, b1, b2, b3, hf9, hfa9, h_el, h_rf, h_rt⟩ := hw
  have h_tp := h_tp.fr hf9 (by decide)
  have h_by := h_by.fr hf9 (by decide)
  have h_tx := h_tx.fr hf9 (by decide)
  have hfr := hfr.tm hf9 (by decide)
  have hfa := hfa.tm hfa9 (fal_s (Or.inl (by simp)) (fal_s (Or.inr hq_q_rf) (fal_s (Or.inr hq_q_rt) fal_0)))
  have hsl := tx_sc_len0 T (to_ - fm) fm
  rw [← a1] at hsl
  have hrw := ck_rows (kd := kd) a4 a2
  rw [hrw] at b1
  rw [b1, a2] at h_el
  rw [b1] at b2 b3
  exact o_rv hf hr hlocks hK hP hD hS (show 0 + 1 + 1 + 1 ≤ 3 by omega) (show 0 + (to_ - fm) + (2 * (n2 / 20) + 1) + (2 * (n2 / 20) + 1) ≤ (to_ - fm) + (4 * ((to_ - fm) / 20) + 2) by omega) ⟨w2, X2, a1, hfr, hfa, _, _, _, _, _, _, _, _, h_el, h_tx, h_rf, h_rt, a4, b2, ⟨by omega, by omega, b3, by omega, hsl.1⟩, hk6⟩ dX1_init_71
set_option maxHeartbeats 1000000 in
set_option maxRecDepth 100000 in
theorem l_words (l : Launch) (D : va_G) (z : Nat → Nat) (cB cI_ cO : ClassId) (L0 : List Nat) (g0 : hG) (el : Nat) (kd nm sk : Int32) (tx n w rf rt rn : Nat) (h_el : ho L0 g0 el 9 (.inr (2, [.int kd, .int nm, .int sk, .ref tx, .int (nI n), .int (nI w), .ref rf, .ref rt, .int (nI rn)])))  : eIs l D yX1_wordCount cX1_wordCount 1 (some .int) 0 0 0 0 [.ref el] z cB cI_ cO L0 g0 (fun r => r = nI w) := by
  refine o_si (by decide) (Nat.le_of_ble_eq_true rfl) ?_
  intro p e s m below meth c A ls hf hr hlocks hin hK hP hD hS hA hZ hN hl
  obtain ⟨hx, hb, hml, hown, hts⟩ := id hf
  have hl : lv_has ls 1 [(0, .ref el)] := hl
  refine lv_aload_n hx hb dX1_wordCount_0 rfl (lv_at hl 0 rfl) ?_
  refine o_get (D := D) (ci := 2) (v := .int (nI w)) (C := RX1) (T := TX1) (N := 9) hx hb hts inX1 hown hK hP h_el rfl 5 (by decide) (hts _ k_238) (fun _ h9 => h9) rfl dX1_wordCount_1 ?_
  exact o_ri hf hr rfl hlocks hK hP hD hS (show 0 ≤ 0 by omega) (show 0 ≤ 0 by omega) ⟨rfl, rfl, rfl⟩ dX1_wordCount_4
set_option maxHeartbeats 1000000 in
set_option maxRecDepth 100000 in
theorem l_rows (l : Launch) (D : va_G) (z : Nat → Nat) (cB cI_ cO : ClassId) (L0 : List Nat) (g0 : hG) (el : Nat) (kd nm sk : Int32) (tx n w rf rt rn : Nat) (h_el : ho L0 g0 el 9 (.inr (2, [.int kd, .int nm, .int sk, .ref tx, .int (nI n), .int (nI w), .ref rf, .ref rt, .int (nI rn)])))  : eIs l D yX1_rowCount cX1_rowCount 1 (some .int) 0 0 0 0 [.ref el] z cB cI_ cO L0 g0 (fun r => r = nI rn) := by
  refine o_si (by decide) (Nat.le_of_ble_eq_true rfl) ?_
  intro p e s m below meth c A ls hf hr hlocks hin hK hP hD hS hA hZ hN hl
  obtain ⟨hx, hb, hml, hown, hts⟩ := id hf
  have hl : lv_has ls 1 [(0, .ref el)] := hl
  refine lv_aload_n hx hb dX1_rowCount_0 rfl (lv_at hl 0 rfl) ?_
  refine o_get (D := D) (ci := 2) (v := .int (nI rn)) (C := RX1) (T := TX1) (N := 9) hx hb hts inX1 hown hK hP h_el rfl 8 (by decide) (hts _ k_241) (fun _ h9 => h9) rfl dX1_rowCount_1 ?_
  exact o_ri hf hr rfl hlocks hK hP hD hS (show 0 ≤ 0 by omega) (show 0 ≤ 0 by omega) ⟨rfl, rfl, rfl⟩ dX1_rowCount_4
set_option maxHeartbeats 1000000 in
set_option maxRecDepth 100000 in
theorem l_empty (l : Launch) (D : va_G) (z : Nat → Nat) (cB cI_ cO : ClassId) (L0 : List Nat) (g0 : hG) (el : Nat) (kd nm sk : Int32) (tx n w rf rt rn : Nat) (h_el : ho L0 g0 el 9 (.inr (2, [.int kd, .int nm, .int sk, .ref tx, .int (nI n), .int (nI w), .ref rf, .ref rt, .int (nI rn)])))  : eIs l D yX1_hasEmptyRowAhead cX1_hasEmptyRowAhead 1 (some .boolean) 0 0 0 0 [.ref el] z cB cI_ cO L0 g0 (fun r => ((¬ kd = 3 ∧ ¬ kd = 4) ∧ r = 1 ∨ ¬ (¬ kd = 3 ∧ ¬ kd = 4) ∧ r = 0)) := by
  refine o_si (by decide) (Nat.le_of_ble_eq_true rfl) ?_
  intro p e s m below meth c A ls hf hr hlocks hin hK hP hD hS hA hZ hN hl
  obtain ⟨hx, hb, hml, hown, hts⟩ := id hf
  have hl : lv_has ls 1 [(0, .ref el)] := hl
  refine lv_aload_n hx hb dX1_hasEmptyRowAhead_0 rfl (lv_at hl 0 rfl) ?_
  refine o_get (D := D) (ci := 2) (v := .int kd) (C := RX1) (T := TX1) (N := 9) hx hb hts inX1 hown hK hP h_el rfl 0 (by decide) (hts _ k_227) (fun _ h9 => h9) rfl dX1_hasEmptyRowAhead_1 ?_
  refine lv_iconst (v := 3) hx hb dX1_hasEmptyRowAhead_4 (by decide) ?_
  refine lv_icmp_eq (tgt := 20) hx hb dX1_hasEmptyRowAhead_5 (by decide) (fun c_1 => ?_) (fun c_1 => ?_)
  · refine lv_iconst (v := 0) hx hb dX1_hasEmptyRowAhead_20 (by decide) ?_
    exact o_ri hf hr rfl hlocks hK hP hD hS (show 0 ≤ 0 by omega) (show 0 ≤ 0 by omega) ⟨Or.inr ⟨fun h => h.1 c_1, rfl⟩, rfl, rfl⟩ dX1_hasEmptyRowAhead_21
  · refine lv_aload_n hx hb dX1_hasEmptyRowAhead_8 rfl (lv_at hl 0 rfl) ?_
    refine o_get (D := D) (ci := 2) (v := .int kd) (C := RX1) (T := TX1) (N := 9) hx hb hts inX1 hown hK hP h_el rfl 0 (by decide) (hts _ k_227) (fun _ h9 => h9) rfl dX1_hasEmptyRowAhead_9 ?_
    refine lv_iconst (v := 4) hx hb dX1_hasEmptyRowAhead_12 (by decide) ?_
    refine lv_icmp_eq (tgt := 20) hx hb dX1_hasEmptyRowAhead_13 (by decide) (fun c_2 => ?_) (fun c_2 => ?_)
    · refine lv_iconst (v := 0) hx hb dX1_hasEmptyRowAhead_20 (by decide) ?_
      exact o_ri hf hr rfl hlocks hK hP hD hS (show 0 ≤ 0 by omega) (show 0 ≤ 0 by omega) ⟨Or.inr ⟨fun h => h.2 c_2, rfl⟩, rfl, rfl⟩ dX1_hasEmptyRowAhead_21
    · refine lv_iconst (v := 1) hx hb dX1_hasEmptyRowAhead_16 (by decide) ?_
      refine lv_goto (tgt := 21) hx hb dX1_hasEmptyRowAhead_17 (by decide) ?_
      exact o_ri hf hr rfl hlocks hK hP hD hS (show 0 ≤ 0 by omega) (show 0 ≤ 0 by omega) ⟨Or.inl ⟨⟨c_1, c_2⟩, rfl⟩, rfl, rfl⟩ dX1_hasEmptyRowAhead_21
set_option maxHeartbeats 1000000 in
set_option maxRecDepth 100000 in
theorem l_mayBr (l : Launch) (D : va_G) (z : Nat → Nat) (cB cI_ cO : ClassId) (L0 : List Nat) (g0 : hG) (el : Nat) (kd nm sk : Int32) (tx n w rf rt rn : Nat) (h_el : ho L0 g0 el 9 (.inr (2, [.int kd, .int nm, .int sk, .ref tx, .int (nI n), .int (nI w), .ref rf, .ref rt, .int (nI rn)])))  : eIs l D yX1_mayBreakWithin cX1_mayBreakWithin 1 (some .boolean) 0 0 0 0 [.ref el] z cB cI_ cO L0 g0 (fun r => ((kd = 4 ∨ kd = 5) ∧ r = 1 ∨ ¬ (kd = 4 ∨ kd = 5) ∧ r = 0)) := by
  refine o_si (by decide) (Nat.le_of_ble_eq_true rfl) ?_
  intro p e s m below meth c A ls hf hr hlocks hin hK hP hD hS hA hZ hN hl
  obtain ⟨hx, hb, hml, hown, hts⟩ := id hf
  have hl : lv_has ls 1 [(0, .ref el)] := hl
  refine lv_aload_n hx hb dX1_mayBreakWithin_0 rfl (lv_at hl 0 rfl) ?_
  refine o_get (D := D) (ci := 2) (v := .int kd) (C := RX1) (T := TX1) (N := 9) hx hb hts inX1 hown hK hP h_el rfl 0 (by decide) (hts _ k_227) (fun _ h9 => h9) rfl dX1_mayBreakWithin_1 ?_
  refine lv_iconst (v := 4) hx hb dX1_mayBreakWithin_4 (by decide) ?_
  refine lv_icmp_eq (tgt := 16) hx hb dX1_mayBreakWithin_5 (by decide) (fun c_1 => ?_) (fun c_1 => ?_)
  · refine lv_iconst (v := 1) hx hb dX1_mayBreakWithin_16 (by decide) ?_
    refine lv_goto (tgt := 21) hx hb dX1_mayBreakWithin_17 (by decide) ?_
    exact o_ri hf hr rfl hlocks hK hP hD hS (show 0 ≤ 0 by omega) (show 0 ≤ 0 by omega) ⟨Or.inl ⟨Or.inl c_1, rfl⟩, rfl, rfl⟩ dX1_mayBreakWithin_21
  · refine lv_aload_n hx hb dX1_mayBreakWithin_8 rfl (lv_at hl 0 rfl) ?_
    refine o_get (D := D) (ci := 2) (v := .int kd) (C := RX1) (T := TX1) (N := 9) hx hb hts inX1 hown hK hP h_el rfl 0 (by decide) (hts _ k_227) (fun _ h9 => h9) rfl dX1_mayBreakWithin_9 ?_
    refine lv_iconst (v := 5) hx hb dX1_mayBreakWithin_12 (by decide) ?_
    refine lv_icmp_ne (tgt := 20) hx hb dX1_mayBreakWithin_13 (by decide) (fun c_2 => ?_) (fun c_2 => ?_)
    · refine lv_iconst (v := 0) hx hb dX1_mayBreakWithin_20 (by decide) ?_
      exact o_ri hf hr rfl hlocks hK hP hD hS (show 0 ≤ 0 by omega) (show 0 ≤ 0 by omega) ⟨Or.inr ⟨fun h => h.elim c_1 c_2, rfl⟩, rfl, rfl⟩ dX1_mayBreakWithin_21
    · refine lv_iconst (v := 1) hx hb dX1_mayBreakWithin_16 (by decide) ?_
      refine lv_goto (tgt := 21) hx hb dX1_mayBreakWithin_17 (by decide) ?_
      exact o_ri hf hr rfl hlocks hK hP hD hS (show 0 ≤ 0 by omega) (show 0 ≤ 0 by omega) ⟨Or.inl ⟨Or.inr c_2, rfl⟩, rfl, rfl⟩ dX1_mayBreakWithin_21
set_option maxHeartbeats 1000000 in
set_option maxRecDepth 100000 in
theorem l_mayEnd (l : Launch) (D : va_G) (z : Nat → Nat) (cB cI_ cO : ClassId) (L0 : List Nat) (g0 : hG) (el : Nat) (kd nm sk : Int32) (tx n w rf rt rn : Nat) (h_el : ho L0 g0 el 9 (.inr (2, [.int kd, .int nm, .int sk, .ref tx, .int (nI n), .int (nI w), .ref rf, .ref rt, .int (nI rn)])))  : eIs l D yX1_mayEndPage cX1_mayEndPage 1 (some .boolean) 0 0 0 0 [.ref el] z cB cI_ cO L0 g0 (fun r => ((¬ kd = 0 ∧ ¬ kd = 2 ∧ ¬ kd = 3) ∧ r = 1 ∨ ¬ (¬ kd = 0 ∧ ¬ kd = 2 ∧ ¬ kd = 3) ∧ r = 0)) := by
  refine o_si (by decide) (Nat.le_of_ble_eq_true rfl) ?_
  intro p e s m below meth c A ls hf hr hlocks hin hK hP hD hS hA hZ hN hl
  obtain ⟨hx, hb, hml, hown, hts⟩ := id hf
  have hl : lv_has ls 1 [(0, .ref el)] := hl
  refine lv_aload_n hx hb dX1_mayEndPage_0 rfl (lv_at hl 0 rfl) ?_
  refine o_get (D := D) (ci := 2) (v := .int kd) (C := RX1) (T := TX1) (N := 9) hx hb hts inX1 hown hK hP h_el rfl 0 (by decide) (hts _ k_227) (fun _ h9 => h9) rfl dX1_mayEndPage_1 ?_
  refine lv_if_eq (tgt := 27) hx hb dX1_mayEndPage_4 (by decide) (fun c_1 => ?_) (fun c_1 => ?_)
  · refine lv_iconst (v := 0) hx hb dX1_mayEndPage_27 (by decide) ?_
    exact o_ri hf hr rfl hlocks hK hP hD hS (show 0 ≤ 0 by omega) (show 0 ≤ 0 by omega) ⟨Or.inr ⟨fun h => h.1 c_1, rfl⟩, rfl, rfl⟩ dX1_mayEndPage_28
  · refine lv_aload_n hx hb dX1_mayEndPage_7 rfl (lv_at hl 0 rfl) ?_
    refine o_get (D := D) (ci := 2) (v := .int kd) (C := RX1) (T := TX1) (N := 9) hx hb hts inX1 hown hK hP h_el rfl 0 (by decide) (hts _ k_227) (fun _ h9 => h9) rfl dX1_mayEndPage_8 ?_
    refine lv_iconst (v := 2) hx hb dX1_mayEndPage_11 (by decide) ?_
    refine lv_icmp_eq (tgt := 27) hx hb dX1_mayEndPage_12 (by decide) (fun c_2 => ?_) (fun c_2 => ?_)
    · refine lv_iconst (v := 0) hx hb dX1_mayEndPage_27 (by decide) ?_
      exact o_ri hf hr rfl hlocks hK hP hD hS (show 0 ≤ 0 by omega) (show 0 ≤ 0 by omega) ⟨Or.inr ⟨fun h => h.2.1 c_2, rfl⟩, rfl, rfl⟩ dX1_mayEndPage_28
    · refine lv_aload_n hx hb dX1_mayEndPage_15 rfl (lv_at hl 0 rfl) ?_
      refine o_get (D := D) (ci := 2) (v := .int kd) (C := RX1) (T := TX1) (N := 9) hx hb hts inX1 hown hK hP h_el rfl 0 (by decide) (hts _ k_227) (fun _ h9 => h9) rfl dX1_mayEndPage_16 ?_
      refine lv_iconst (v := 3) hx hb dX1_mayEndPage_19 (by decide) ?_
      refine lv_icmp_eq (tgt := 27) hx hb dX1_mayEndPage_20 (by decide) (fun c_3 => ?_) (fun c_3 => ?_)
      · refine lv_iconst (v := 0) hx hb dX1_mayEndPage_27 (by decide) ?_
        exact o_ri hf hr rfl hlocks hK hP hD hS (show 0 ≤ 0 by omega) (show 0 ≤ 0 by omega) ⟨Or.inr ⟨fun h => h.2.2 c_3, rfl⟩, rfl, rfl⟩ dX1_mayEndPage_28
      · refine lv_iconst (v := 1) hx hb dX1_mayEndPage_23 (by decide) ?_
        refine lv_goto (tgt := 28) hx hb dX1_mayEndPage_24 (by decide) ?_
        exact o_ri hf hr rfl hlocks hK hP hD hS (show 0 ≤ 0 by omega) (show 0 ≤ 0 by omega) ⟨Or.inl ⟨⟨c_1, c_2, c_3⟩, rfl⟩, rfl, rfl⟩ dX1_mayEndPage_28
set_option maxHeartbeats 1000000 in
set_option maxRecDepth 100000 in
theorem l_within (l : Launch) (D : va_G) (z : Nat → Nat) (cB cI_ cO : ClassId) (L0 : List Nat) (g0 : hG) (el : Nat) (kd nm sk : Int32) (tx n w rf rt rn : Nat) (i : Nat) (h_el : ho L0 g0 el 9 (.inr (2, [.int kd, .int nm, .int sk, .ref tx, .int (nI n), .int (nI w), .ref rf, .ref rt, .int (nI rn)]))) (hi : i < 2 ^ 30) (hrn : rn < 2 ^ 30) : eIs l D yX1_isWithin cX1_isWithin 2 (some .boolean) 0 0 0 0 [.ref el, .int (nI i)] z cB cI_ cO L0 g0 (fun r => ((0 < i ∧ i < rn) ∧ r = 1 ∨ ¬ (0 < i ∧ i < rn) ∧ r = 0)) := by
  refine o_si (by decide) (Nat.le_of_ble_eq_true rfl) ?_
  intro p e s m below meth c A ls hf hr hlocks hin hK hP hD hS hA hZ hN hl
  obtain ⟨hx, hb, hml, hown, hts⟩ := id hf
  have hl : lv_has ls 2 [(0, .ref el), (1, .int (nI i))] := hl
  refine lv_iload_n hx hb dX1_isWithin_0 rfl (lv_at hl 1 rfl) ?_
  refine lv_if_le (tgt := 16) hx hb dX1_isWithin_1 (by decide) (fun c_1 => ?_) (fun c_1 => ?_)
  · have c_1 := q_le (a := i) (b := 0) (by omega) (by omega) c_1
    refine lv_iconst (v := 0) hx hb dX1_isWithin_16 (by decide) ?_
    exact o_ri hf hr rfl hlocks hK hP hD hS (show 0 ≤ 0 by omega) (show 0 ≤ 0 by omega) ⟨Or.inr ⟨by omega, rfl⟩, rfl, rfl⟩ dX1_isWithin_17
  · have c_1 := q_nle (a := i) (b := 0) (by omega) (by omega) c_1
    refine lv_iload_n hx hb dX1_isWithin_4 rfl (lv_at hl 1 rfl) ?_
    refine lv_aload_n hx hb dX1_isWithin_5 rfl (lv_at hl 0 rfl) ?_
    refine o_get (D := D) (ci := 2) (v := .int (nI rn)) (C := RX1) (T := TX1) (N := 9) hx hb hts inX1 hown hK hP h_el rfl 8 (by decide) (hts _ k_241) (fun _ h9 => h9) rfl dX1_isWithin_6 ?_
    refine lv_icmp_ge (tgt := 16) hx hb dX1_isWithin_9 (by decide) (fun c_2 => ?_) (fun c_2 => ?_)
    · have c_2 := q_le (a := rn) (b := i) (by omega) (by omega) c_2
      refine lv_iconst (v := 0) hx hb dX1_isWithin_16 (by decide) ?_
      exact o_ri hf hr rfl hlocks hK hP hD hS (show 0 ≤ 0 by omega) (show 0 ≤ 0 by omega) ⟨Or.inr ⟨by omega, rfl⟩, rfl, rfl⟩ dX1_isWithin_17
    · have c_2 := q_nle (a := rn) (b := i) (by omega) (by omega) c_2
      refine lv_iconst (v := 1) hx hb dX1_isWithin_12 (by decide) ?_
      refine lv_goto (tgt := 17) hx hb dX1_isWithin_13 (by decide) ?_
      exact o_ri hf hr rfl hlocks hK hP hD hS (show 0 ≤ 0 by omega) (show 0 ≤ 0 by omega) ⟨Or.inl ⟨by omega, rfl⟩, rfl, rfl⟩ dX1_isWithin_17
set_option maxHeartbeats 1000000 in
set_option maxRecDepth 100000 in
theorem l_wSp (l : Launch) (D : va_G) (z : Nat → Nat) (cB cI_ cO : ClassId) (L0 : List Nat) (g0 : hG) (el : Nat) (kd nm sk : Int32) (tx n w rf rt rn : Nat) (i : Nat) (h_el : ho L0 g0 el 9 (.inr (2, [.int kd, .int nm, .int sk, .ref tx, .int (nI n), .int (nI w), .ref rf, .ref rt, .int (nI rn)]))) (hi : i < 2 ^ 30) (hrn : rn < 2 ^ 30) : eIs l D yX1_isWithinSpeech cX1_isWithinSpeech 2 (some .boolean) 1 21 0 0 [.ref el, .int (nI i)] z cB cI_ cO L0 g0 (fun r => ((kd = 4 ∧ 0 < i ∧ i < rn) ∧ r = 1 ∨ ¬ (kd = 4 ∧ 0 < i ∧ i < rn) ∧ r = 0)) := by
  refine o_si (by decide) (Nat.le_of_ble_eq_true rfl) ?_
  intro p e s m below meth c A ls hf hr hlocks hin hK hP hD hS hA hZ hN hl
  obtain ⟨hx, hb, hml, hown, hts⟩ := id hf
  have hl : lv_has ls 2 [(0, .ref el), (1, .int (nI i))] := hl
  refine lv_aload_n hx hb dX1_isWithinSpeech_0 rfl (lv_at hl 0 rfl) ?_
  refine o_get (D := D) (ci := 2) (v := .int kd) (C := RX1) (T := TX1) (N := 9) hx hb hts inX1 hown hK hP h_el rfl 0 (by decide) (hts _ k_227) (fun _ h9 => h9) rfl dX1_isWithinSpeech_1 ?_
  refine lv_iconst (v := 4) hx hb dX1_isWithinSpeech_4 (by decide) ?_
  refine lv_icmp_ne (tgt := 20) hx hb dX1_isWithinSpeech_5 (by decide) (fun c_1 => ?_) (fun c_1 => ?_)
  · refine lv_iconst (v := 0) hx hb dX1_isWithinSpeech_20 (by decide) ?_
    exact o_ri hf hr rfl hlocks hK hP hD hS (show 0 ≤ 0 by omega) (show 0 ≤ 0 by omega) ⟨Or.inr ⟨fun h => c_1 h.1, rfl⟩, rfl, rfl⟩ dX1_isWithinSpeech_21
  · refine lv_aload_n hx hb dX1_isWithinSpeech_8 rfl (lv_at hl 0 rfl) ?_
    refine lv_iload_n hx hb dX1_isWithinSpeech_9 rfl (lv_at hl 1 rfl) ?_
    refine o_cis (k := 0) (n := 0) hK hP hD hS hA (o_rV (As := [.int (nI i)]) (rest := []) hf (l_within _ _ _ _ _ _ _ _ el kd nm sk tx n w rf rt rn i h_el (by omega) (by omega) _) k_800 k_797 k_798 k_799 k_90 (nA := 1) (by decide +kernel) ⟨Nat.le_of_ble_eq_true rfl, Nat.le_of_ble_eq_true rfl⟩ hK hP hD hS hA hZ hN h_el rfl rfl rfl hl.1 rfl (Nat.le_of_ble_eq_true rfl) dX1_isWithinSpeech_10 ⟨(show 0 + 0 ≤ 0 by omega), (show 0 + 0 ≤ 0 by omega)⟩) (Nat.le_refl _) (Nat.le_refl _) (fun r H locs hw hP hD hS => ?_)
    rcases hw with ⟨c_2, rfl⟩ | ⟨c_2, rfl⟩
    · have hP := hP
      refine lv_if_eq (tgt := 20) hx hb dX1_isWithinSpeech_13 (by decide) (fun hno => absurd hno (by decide)) (fun _ => ?_)
      refine lv_iconst (v := 1) hx hb dX1_isWithinSpeech_16 (by decide) ?_
      refine lv_goto (tgt := 21) hx hb dX1_isWithinSpeech_17 (by decide) ?_
      exact o_ri hf hr rfl hlocks hK hP hD hS (show 0 ≤ 0 by omega) (show 0 ≤ 0 by omega) ⟨Or.inl ⟨⟨c_1, c_2⟩, rfl⟩, rfl, rfl⟩ dX1_isWithinSpeech_21
    · have hP := hP
      refine lv_if_eq (tgt := 20) hx hb dX1_isWithinSpeech_13 (by decide) (fun _ => ?_) (fun hno => absurd hno (by decide))
      refine lv_iconst (v := 0) hx hb dX1_isWithinSpeech_20 (by decide) ?_
      exact o_ri hf hr rfl hlocks hK hP hD hS (show 0 ≤ 0 by omega) (show 0 ≤ 0 by omega) ⟨Or.inr ⟨fun h => c_2 h.2, rfl⟩, rfl, rfl⟩ dX1_isWithinSpeech_21
