/-- an element as data: kind, number, struck, words, text -/
abbrev E5 : Type := Int32 × Int32 × Int32 × Nat × List Int32
noncomputable abbrev eRw (x : E5) : Nat := (tx_rows x.1 x.2.2.2.2).length
/-- the elements of the desk -/
def esR (cB cI_ : ClassId) (L : List Nat) (g : hG) (ea : Nat → Nat) (ne : Nat) (EE : Nat → E5) : Prop := ∀ e, e < ne → elR cB cI_ L g (ea e) (EE e).1 (EE e).2.1 (EE e).2.2.1 (EE e).2.2.2.1 (EE e).2.2.2.2
theorem esR.frd {cB cI_ : ClassId} {ts L L1 : List Nat} {g g1 : hG} {ea : Nat → Nat} {ne : Nat} {EE : Nat → E5} (h : esR cB cI_ L g ea ne EE) (hf : fr ts L g L1 g1) (hd : (ts.contains 9 = false ∧ ts.contains 10 = false) ∧ ts.contains 11 = false ∧ ts.contains 12 = false) : esR cB cI_ L1 g1 ea ne EE := fun e he => (h e he).fr hf ⟨⟨nc_of hd.1.1, nc_of hd.1.2⟩, nc_of hd.2.1, nc_of hd.2.2⟩
/-- every piece has an element, and rows of it -/
def pq_ok (ne : Nat) (EE : Nat → E5) (P : List Q4) : Prop := ∀ i, i < P.length → (P.getD i d4).1 < ne ∧ (P.getD i d4).2.1 < (P.getD i d4).2.2.1 ∧ (P.getD i d4).2.2.1 ≤ eRw (EE (P.getD i d4).1)
theorem esR.rb {cB cI_ : ClassId} {L : List Nat} {g : hG} {ea : Nat → Nat} {ne : Nat} {EE : Nat → E5} (h : esR cB cI_ L g ea ne EE) {e : Nat} (he : e < ne) : eRw (EE e) ≤ 200 ∧ kd6 (EE e).1 := by
  obtain ⟨tx, rf, rt, N0, M, tf, f1, f2, h1, h2, h3, h4, h5, h6, h7, h8⟩ := h e he
  have h9 := h7.2.2
  exact ⟨Nat.le_trans h9.1 h9.2.1, h8⟩
theorem esR.ob {cB cI_ : ClassId} {L : List Nat} {g : hG} {ea : Nat → Nat} {ne : Nat} {EE : Nat → E5} (h : esR cB cI_ L g ea ne EE) {e : Nat} (he : e < ne) : ∃ tx rf rt : Nat, ho L g (ea e) 9 (.inr (2, [.int (EE e).1, .int (EE e).2.1, .int (EE e).2.2.1, .ref tx, .int (nI (EE e).2.2.2.2.length), .int (nI (EE e).2.2.2.1), .ref rf, .ref rt, .int (nI (eRw (EE e)))])) := by
  obtain ⟨tx, rf, rt, N0, M, tf, f1, f2, h1, h2⟩ := h e he
  exact ⟨tx, rf, rt, h1⟩
abbrev cX3_breakCost : ByteArray := prog_5_method_9_code
def yX3_breakCost : MethodName := ⟨RX3, "breakCost", "()I"⟩
abbrev cX3_endRow : ByteArray := prog_5_method_6_code
def yX3_endRow : MethodName := ⟨RX3, "endRow", "()I"⟩
abbrev cX3_isBehindAll : ByteArray := prog_5_method_4_code
def yX3_isBehindAll : MethodName := ⟨RX3, "isBehindAll", "()Z"⟩
abbrev cX3_lastPiece : ByteArray := prog_5_method_5_code
def yX3_lastPiece : MethodName := ⟨RX3, "lastPiece", "()I"⟩
abbrev cX3_mayEnd : ByteArray := prog_5_method_8_code
def yX3_mayEnd : MethodName := ⟨RX3, "mayEnd", "()Z"⟩
abbrev cX3_open : ByteArray := prog_5_method_2_code
def yX3_open : MethodName := ⟨RX3, "open", "(III)V"⟩
abbrev cX3_rowsWithMore : ByteArray := prog_5_method_7_code
def yX3_rowsWithMore : MethodName := ⟨RX3, "rowsWithMore", "()I"⟩
abbrev cX3_takeRow : ByteArray := prog_5_method_3_code
def yX3_takeRow : MethodName := ⟨RX3, "takeRow", "()V"⟩
theorem k_92 : (Cond.initialized RX6) ∈ gT := gT_i 92 (by decide +kernel) rfl
theorem k_94 : (Cond.initialized RX3) ∈ gT := gT_i 94 (by decide +kernel) rfl
theorem k_229 : (Cond.fieldLink RX3 77 "ScriptDesk$Element" "kind" "I") ∈ gT := gT_i 229 (by decide +kernel) rfl
theorem k_277 : (Cond.fieldLink RX3 37 "ScriptDesk$Piece" "element" "LScriptDesk$Element;") ∈ gT := gT_i 277 (by decide +kernel) rfl
theorem k_285 : (Cond.fieldLink RX3 59 "ScriptDesk$Piece" "from" "I") ∈ gT := gT_i 285 (by decide +kernel) rfl
theorem k_289 : (Cond.fieldLink RX3 56 "ScriptDesk$Piece" "to" "I") ∈ gT := gT_i 289 (by decide +kernel) rfl
theorem k_320 : (Cond.fieldLink RX3 9 "ScriptDesk$Leaf" "standing" "LScriptDesk$PieceRow;") ∈ gT := gT_i 320 (by decide +kernel) rfl
theorem k_321 : (Cond.fieldLink RX3 15 "ScriptDesk$Leaf" "end" "I") ∈ gT := gT_i 321 (by decide +kernel) rfl
theorem k_322 : (Cond.fieldLink RX3 19 "ScriptDesk$Leaf" "firstPiece" "I") ∈ gT := gT_i 322 (by decide +kernel) rfl
theorem k_323 : (Cond.fieldLink RX3 22 "ScriptDesk$Leaf" "firstRow" "I") ∈ gT := gT_i 323 (by decide +kernel) rfl
theorem k_324 : (Cond.fieldLink RX3 25 "ScriptDesk$Leaf" "lastPiece" "I") ∈ gT := gT_i 324 (by decide +kernel) rfl
theorem k_325 : (Cond.fieldLink RX3 28 "ScriptDesk$Leaf" "endRow" "I") ∈ gT := gT_i 325 (by decide +kernel) rfl
theorem k_326 : (Cond.fieldLink RX3 49 "ScriptDesk$Leaf" "rows" "I") ∈ gT := gT_i 326 (by decide +kernel) rfl
theorem k_773 : (Cond.instanceMethod yX6_at) ∈ gT := gT_i 773 (by decide +kernel) rfl
theorem k_774 : (Cond.selects RX6 yX6_at yX6_at) ∈ gT := gT_i 774 (by decide +kernel) rfl
theorem k_775 : (Cond.code yX6_at cX6_at 2 (some (.object "ScriptDesk$Piece"))) ∈ gT := gT_i 775 (by decide +kernel) rfl
theorem k_792 : (Cond.methodLink RX3 31 yX6_at) ∈ gT := gT_i 792 (by decide +kernel) rfl
theorem k_793 : (Cond.methodLink RX3 43 yX1_isWithinSpeech) ∈ gT := gT_i 793 (by decide +kernel) rfl
theorem k_794 : (Cond.instanceMethod yX1_isWithinSpeech) ∈ gT := gT_i 794 (by decide +kernel) rfl
theorem k_795 : (Cond.selects RX1 yX1_isWithinSpeech yX1_isWithinSpeech) ∈ gT := gT_i 795 (by decide +kernel) rfl
theorem k_796 : (Cond.code yX1_isWithinSpeech cX1_isWithinSpeech 2 (some .boolean)) ∈ gT := gT_i 796 (by decide +kernel) rfl
theorem k_802 : (Cond.instanceMethod yX3_isBehindAll) ∈ gT := gT_i 802 (by decide +kernel) rfl
theorem k_803 : (Cond.selects RX3 yX3_isBehindAll yX3_isBehindAll) ∈ gT := gT_i 803 (by decide +kernel) rfl
theorem k_804 : (Cond.code yX3_isBehindAll cX3_isBehindAll 1 (some .boolean)) ∈ gT := gT_i 804 (by decide +kernel) rfl
theorem k_809 : (Cond.methodLink RX3 52 yX3_isBehindAll) ∈ gT := gT_i 809 (by decide +kernel) rfl
theorem k_810 : (Cond.methodLink RX3 62 yX5_beginsElement) ∈ gT := gT_i 810 (by decide +kernel) rfl
theorem k_811 : (Cond.instanceMethod yX5_beginsElement) ∈ gT := gT_i 811 (by decide +kernel) rfl
theorem k_812 : (Cond.selects RX5 yX5_beginsElement yX5_beginsElement) ∈ gT := gT_i 812 (by decide +kernel) rfl
theorem k_813 : (Cond.code yX5_beginsElement cX5_beginsElement 1 (some .boolean)) ∈ gT := gT_i 813 (by decide +kernel) rfl
theorem k_814 : (Cond.methodLink RX3 65 yX1_hasEmptyRowAhead) ∈ gT := gT_i 814 (by decide +kernel) rfl
theorem k_815 : (Cond.instanceMethod yX1_hasEmptyRowAhead) ∈ gT := gT_i 815 (by decide +kernel) rfl
theorem k_816 : (Cond.selects RX1 yX1_hasEmptyRowAhead yX1_hasEmptyRowAhead) ∈ gT := gT_i 816 (by decide +kernel) rfl
theorem k_817 : (Cond.code yX1_hasEmptyRowAhead cX1_hasEmptyRowAhead 1 (some .boolean)) ∈ gT := gT_i 817 (by decide +kernel) rfl
theorem k_826 : (Cond.methodLink RX3 68 yX1_mayEndPage) ∈ gT := gT_i 826 (by decide +kernel) rfl
theorem k_827 : (Cond.instanceMethod yX1_mayEndPage) ∈ gT := gT_i 827 (by decide +kernel) rfl
theorem k_828 : (Cond.selects RX1 yX1_mayEndPage yX1_mayEndPage) ∈ gT := gT_i 828 (by decide +kernel) rfl
theorem k_829 : (Cond.code yX1_mayEndPage cX1_mayEndPage 1 (some .boolean)) ∈ gT := gT_i 829 (by decide +kernel) rfl
theorem k_830 : (Cond.methodLink RX3 71 yX1_mayBreakWithin) ∈ gT := gT_i 830 (by decide +kernel) rfl
theorem k_831 : (Cond.instanceMethod yX1_mayBreakWithin) ∈ gT := gT_i 831 (by decide +kernel) rfl
theorem k_832 : (Cond.selects RX1 yX1_mayBreakWithin yX1_mayBreakWithin) ∈ gT := gT_i 832 (by decide +kernel) rfl
theorem k_833 : (Cond.code yX1_mayBreakWithin cX1_mayBreakWithin 1 (some .boolean)) ∈ gT := gT_i 833 (by decide +kernel) rfl
theorem k_850 : (Cond.methodLink RX3 74 yX1_isWithin) ∈ gT := gT_i 850 (by decide +kernel) rfl
theorem dX3_open_0 : decode cX3_open 0 = .ok (.aload_n 0, 1) := by decide +kernel
theorem dX3_open_1 : decode cX3_open 1 = .ok (.iload_n 3, 1) := by decide +kernel
theorem dX3_open_2 : decode cX3_open 2 = .ok (.putfield 15, 3) := by decide +kernel
theorem dX3_open_5 : decode cX3_open 5 = .ok (.aload_n 0, 1) := by decide +kernel
theorem dX3_open_6 : decode cX3_open 6 = .ok (.iload_n 1, 1) := by decide +kernel
theorem dX3_open_7 : decode cX3_open 7 = .ok (.putfield 19, 3) := by decide +kernel
theorem dX3_open_10 : decode cX3_open 10 = .ok (.aload_n 0, 1) := by decide +kernel
theorem dX3_open_11 : decode cX3_open 11 = .ok (.iload_n 2, 1) := by decide +kernel
theorem dX3_open_12 : decode cX3_open 12 = .ok (.putfield 22, 3) := by decide +kernel
theorem dX3_open_15 : decode cX3_open 15 = .ok (.aload_n 0, 1) := by decide +kernel
theorem dX3_open_16 : decode cX3_open 16 = .ok (.iload_n 1, 1) := by decide +kernel
theorem dX3_open_17 : decode cX3_open 17 = .ok (.putfield 25, 3) := by decide +kernel
theorem dX3_open_20 : decode cX3_open 20 = .ok (.aload_n 0, 1) := by decide +kernel
theorem dX3_open_21 : decode cX3_open 21 = .ok (.iload_n 2, 1) := by decide +kernel
theorem dX3_open_22 : decode cX3_open 22 = .ok (.putfield 28, 3) := by decide +kernel
theorem dX3_open_25 : decode cX3_open 25 = .ok (.aload_n 0, 1) := by decide +kernel
theorem dX3_open_26 : decode cX3_open 26 = .ok (.aload_n 0, 1) := by decide +kernel
theorem dX3_open_27 : decode cX3_open 27 = .ok (.getfield 9, 3) := by decide +kernel
theorem dX3_open_30 : decode cX3_open 30 = .ok (.iload_n 1, 1) := by decide +kernel
theorem dX3_open_31 : decode cX3_open 31 = .ok (.invokevirtual 31, 3) := by decide +kernel
theorem dX3_open_34 : decode cX3_open 34 = .ok (.getfield 37, 3) := by decide +kernel
theorem dX3_open_37 : decode cX3_open 37 = .ok (.iload_n 2, 1) := by decide +kernel
theorem dX3_open_38 : decode cX3_open 38 = .ok (.invokevirtual 43, 3) := by decide +kernel
theorem dX3_open_41 : decode cX3_open 41 = .ok (.ifCond .eq 7, 3) := by decide +kernel
theorem dX3_open_44 : decode cX3_open 44 = .ok (.iconst 1, 1) := by decide +kernel
theorem dX3_open_45 : decode cX3_open 45 = .ok (.goto 4, 3) := by decide +kernel
theorem dX3_open_49 : decode cX3_open 49 = .ok (.putfield 49, 3) := by decide +kernel
theorem dX3_open_52 : decode cX3_open 52 = .ok (.return_, 1) := by decide +kernel
theorem dX3_open_48 : decode cX3_open 48 = .ok (.iconst 0, 1) := by decide +kernel
theorem dX3_isBehindAll_0 : decode cX3_isBehindAll 0 = .ok (.aload_n 0, 1) := by decide +kernel
theorem dX3_isBehindAll_1 : decode cX3_isBehindAll 1 = .ok (.getfield 25, 3) := by decide +kernel
theorem dX3_isBehindAll_4 : decode cX3_isBehindAll 4 = .ok (.aload_n 0, 1) := by decide +kernel
theorem dX3_isBehindAll_5 : decode cX3_isBehindAll 5 = .ok (.getfield 15, 3) := by decide +kernel
theorem dX3_isBehindAll_8 : decode cX3_isBehindAll 8 = .ok (.iconst 1, 1) := by decide +kernel
theorem dX3_isBehindAll_9 : decode cX3_isBehindAll 9 = .ok (.isub, 1) := by decide +kernel
theorem dX3_isBehindAll_10 : decode cX3_isBehindAll 10 = .ok (.if_icmp .lt 28, 3) := by decide +kernel
theorem dX3_isBehindAll_38 : decode cX3_isBehindAll 38 = .ok (.iconst 0, 1) := by decide +kernel
theorem dX3_isBehindAll_39 : decode cX3_isBehindAll 39 = .ok (.ireturn, 1) := by decide +kernel
theorem dX3_isBehindAll_13 : decode cX3_isBehindAll 13 = .ok (.aload_n 0, 1) := by decide +kernel
theorem dX3_isBehindAll_14 : decode cX3_isBehindAll 14 = .ok (.getfield 28, 3) := by decide +kernel
theorem dX3_isBehindAll_17 : decode cX3_isBehindAll 17 = .ok (.aload_n 0, 1) := by decide +kernel
theorem dX3_isBehindAll_18 : decode cX3_isBehindAll 18 = .ok (.getfield 9, 3) := by decide +kernel
theorem dX3_isBehindAll_21 : decode cX3_isBehindAll 21 = .ok (.aload_n 0, 1) := by decide +kernel
theorem dX3_isBehindAll_22 : decode cX3_isBehindAll 22 = .ok (.getfield 25, 3) := by decide +kernel
theorem dX3_isBehindAll_25 : decode cX3_isBehindAll 25 = .ok (.invokevirtual 31, 3) := by decide +kernel
theorem dX3_isBehindAll_28 : decode cX3_isBehindAll 28 = .ok (.getfield 56, 3) := by decide +kernel
theorem dX3_isBehindAll_31 : decode cX3_isBehindAll 31 = .ok (.if_icmp .lt 7, 3) := by decide +kernel
theorem dX3_isBehindAll_34 : decode cX3_isBehindAll 34 = .ok (.iconst 1, 1) := by decide +kernel
theorem dX3_isBehindAll_35 : decode cX3_isBehindAll 35 = .ok (.goto 4, 3) := by decide +kernel
theorem dX3_lastPiece_0 : decode cX3_lastPiece 0 = .ok (.aload_n 0, 1) := by decide +kernel
theorem dX3_lastPiece_1 : decode cX3_lastPiece 1 = .ok (.getfield 25, 3) := by decide +kernel
theorem dX3_lastPiece_4 : decode cX3_lastPiece 4 = .ok (.ireturn, 1) := by decide +kernel
theorem dX3_endRow_0 : decode cX3_endRow 0 = .ok (.aload_n 0, 1) := by decide +kernel
theorem dX3_endRow_1 : decode cX3_endRow 1 = .ok (.getfield 28, 3) := by decide +kernel
theorem dX3_endRow_4 : decode cX3_endRow 4 = .ok (.ireturn, 1) := by decide +kernel
theorem dX3_takeRow_0 : decode cX3_takeRow 0 = .ok (.aload_n 0, 1) := by decide +kernel
theorem dX3_takeRow_1 : decode cX3_takeRow 1 = .ok (.invokevirtual 52, 3) := by decide +kernel
theorem dX3_takeRow_4 : decode cX3_takeRow 4 = .ok (.ifCond .eq 4, 3) := by decide +kernel
theorem dX3_takeRow_8 : decode cX3_takeRow 8 = .ok (.aload_n 0, 1) := by decide +kernel
theorem dX3_takeRow_9 : decode cX3_takeRow 9 = .ok (.getfield 28, 3) := by decide +kernel
theorem dX3_takeRow_12 : decode cX3_takeRow 12 = .ok (.aload_n 0, 1) := by decide +kernel
theorem dX3_takeRow_13 : decode cX3_takeRow 13 = .ok (.getfield 9, 3) := by decide +kernel
theorem dX3_takeRow_16 : decode cX3_takeRow 16 = .ok (.aload_n 0, 1) := by decide +kernel
theorem dX3_takeRow_17 : decode cX3_takeRow 17 = .ok (.getfield 25, 3) := by decide +kernel
theorem dX3_takeRow_20 : decode cX3_takeRow 20 = .ok (.invokevirtual 31, 3) := by decide +kernel
theorem dX3_takeRow_23 : decode cX3_takeRow 23 = .ok (.getfield 56, 3) := by decide +kernel
theorem dX3_takeRow_26 : decode cX3_takeRow 26 = .ok (.if_icmp .lt 60, 3) := by decide +kernel
theorem dX3_takeRow_86 : decode cX3_takeRow 86 = .ok (.aload_n 0, 1) := by decide +kernel
theorem dX3_takeRow_87 : decode cX3_takeRow 87 = .ok (.dup, 1) := by decide +kernel
theorem dX3_takeRow_88 : decode cX3_takeRow 88 = .ok (.getfield 28, 3) := by decide +kernel
theorem dX3_takeRow_91 : decode cX3_takeRow 91 = .ok (.iconst 1, 1) := by decide +kernel
theorem dX3_takeRow_92 : decode cX3_takeRow 92 = .ok (.iadd, 1) := by decide +kernel
theorem dX3_takeRow_93 : decode cX3_takeRow 93 = .ok (.putfield 28, 3) := by decide +kernel
theorem dX3_takeRow_96 : decode cX3_takeRow 96 = .ok (.aload_n 0, 1) := by decide +kernel
theorem dX3_takeRow_97 : decode cX3_takeRow 97 = .ok (.dup, 1) := by decide +kernel
theorem dX3_takeRow_98 : decode cX3_takeRow 98 = .ok (.getfield 49, 3) := by decide +kernel
theorem dX3_takeRow_101 : decode cX3_takeRow 101 = .ok (.iconst 1, 1) := by decide +kernel
theorem dX3_takeRow_102 : decode cX3_takeRow 102 = .ok (.iadd, 1) := by decide +kernel
theorem dX3_takeRow_103 : decode cX3_takeRow 103 = .ok (.putfield 49, 3) := by decide +kernel
theorem dX3_takeRow_106 : decode cX3_takeRow 106 = .ok (.return_, 1) := by decide +kernel
theorem dX3_takeRow_29 : decode cX3_takeRow 29 = .ok (.aload_n 0, 1) := by decide +kernel
theorem dX3_takeRow_30 : decode cX3_takeRow 30 = .ok (.dup, 1) := by decide +kernel
theorem dX3_takeRow_31 : decode cX3_takeRow 31 = .ok (.getfield 25, 3) := by decide +kernel
theorem dX3_takeRow_34 : decode cX3_takeRow 34 = .ok (.iconst 1, 1) := by decide +kernel
theorem dX3_takeRow_35 : decode cX3_takeRow 35 = .ok (.iadd, 1) := by decide +kernel
theorem dX3_takeRow_36 : decode cX3_takeRow 36 = .ok (.putfield 25, 3) := by decide +kernel
theorem dX3_takeRow_39 : decode cX3_takeRow 39 = .ok (.aload_n 0, 1) := by decide +kernel
theorem dX3_takeRow_40 : decode cX3_takeRow 40 = .ok (.getfield 9, 3) := by decide +kernel
theorem dX3_takeRow_43 : decode cX3_takeRow 43 = .ok (.aload_n 0, 1) := by decide +kernel
theorem dX3_takeRow_44 : decode cX3_takeRow 44 = .ok (.getfield 25, 3) := by decide +kernel
theorem dX3_takeRow_47 : decode cX3_takeRow 47 = .ok (.invokevirtual 31, 3) := by decide +kernel
theorem dX3_takeRow_50 : decode cX3_takeRow 50 = .ok (.astore_n 1, 1) := by decide +kernel
theorem dX3_takeRow_51 : decode cX3_takeRow 51 = .ok (.aload_n 0, 1) := by decide +kernel
theorem dX3_takeRow_52 : decode cX3_takeRow 52 = .ok (.aload_n 1, 1) := by decide +kernel
theorem dX3_takeRow_53 : decode cX3_takeRow 53 = .ok (.getfield 59, 3) := by decide +kernel
theorem dX3_takeRow_56 : decode cX3_takeRow 56 = .ok (.putfield 28, 3) := by decide +kernel
theorem dX3_takeRow_59 : decode cX3_takeRow 59 = .ok (.aload_n 1, 1) := by decide +kernel
theorem dX3_takeRow_60 : decode cX3_takeRow 60 = .ok (.invokevirtual 62, 3) := by decide +kernel
theorem dX3_takeRow_63 : decode cX3_takeRow 63 = .ok (.ifCond .eq 23, 3) := by decide +kernel
theorem dX3_takeRow_66 : decode cX3_takeRow 66 = .ok (.aload_n 1, 1) := by decide +kernel
theorem dX3_takeRow_67 : decode cX3_takeRow 67 = .ok (.getfield 37, 3) := by decide +kernel
theorem dX3_takeRow_70 : decode cX3_takeRow 70 = .ok (.invokevirtual 65, 3) := by decide +kernel
theorem dX3_takeRow_73 : decode cX3_takeRow 73 = .ok (.ifCond .eq 13, 3) := by decide +kernel
theorem dX3_takeRow_76 : decode cX3_takeRow 76 = .ok (.aload_n 0, 1) := by decide +kernel
theorem dX3_takeRow_77 : decode cX3_takeRow 77 = .ok (.dup, 1) := by decide +kernel
theorem dX3_takeRow_78 : decode cX3_takeRow 78 = .ok (.getfield 49, 3) := by decide +kernel
theorem dX3_takeRow_81 : decode cX3_takeRow 81 = .ok (.iconst 1, 1) := by decide +kernel
theorem dX3_takeRow_82 : decode cX3_takeRow 82 = .ok (.iadd, 1) := by decide +kernel
theorem dX3_takeRow_83 : decode cX3_takeRow 83 = .ok (.putfield 49, 3) := by decide +kernel
theorem dX3_rowsWithMore_0 : decode cX3_rowsWithMore 0 = .ok (.aload_n 0, 1) := by decide +kernel
theorem dX3_rowsWithMore_1 : decode cX3_rowsWithMore 1 = .ok (.getfield 9, 3) := by decide +kernel
theorem dX3_rowsWithMore_4 : decode cX3_rowsWithMore 4 = .ok (.aload_n 0, 1) := by decide +kernel
theorem dX3_rowsWithMore_5 : decode cX3_rowsWithMore 5 = .ok (.getfield 25, 3) := by decide +kernel
theorem dX3_rowsWithMore_8 : decode cX3_rowsWithMore 8 = .ok (.invokevirtual 31, 3) := by decide +kernel
theorem dX3_rowsWithMore_11 : decode cX3_rowsWithMore 11 = .ok (.getfield 37, 3) := by decide +kernel
theorem dX3_rowsWithMore_14 : decode cX3_rowsWithMore 14 = .ok (.aload_n 0, 1) := by decide +kernel
theorem dX3_rowsWithMore_15 : decode cX3_rowsWithMore 15 = .ok (.getfield 28, 3) := by decide +kernel
theorem dX3_rowsWithMore_18 : decode cX3_rowsWithMore 18 = .ok (.invokevirtual 43, 3) := by decide +kernel
theorem dX3_rowsWithMore_21 : decode cX3_rowsWithMore 21 = .ok (.ifCond .eq 12, 3) := by decide +kernel
theorem dX3_rowsWithMore_24 : decode cX3_rowsWithMore 24 = .ok (.aload_n 0, 1) := by decide +kernel
theorem dX3_rowsWithMore_25 : decode cX3_rowsWithMore 25 = .ok (.getfield 49, 3) := by decide +kernel
theorem dX3_rowsWithMore_28 : decode cX3_rowsWithMore 28 = .ok (.iconst 1, 1) := by decide +kernel
theorem dX3_rowsWithMore_29 : decode cX3_rowsWithMore 29 = .ok (.iadd, 1) := by decide +kernel
theorem dX3_rowsWithMore_30 : decode cX3_rowsWithMore 30 = .ok (.goto 7, 3) := by decide +kernel
theorem dX3_rowsWithMore_37 : decode cX3_rowsWithMore 37 = .ok (.ireturn, 1) := by decide +kernel
theorem dX3_rowsWithMore_33 : decode cX3_rowsWithMore 33 = .ok (.aload_n 0, 1) := by decide +kernel
theorem dX3_rowsWithMore_34 : decode cX3_rowsWithMore 34 = .ok (.getfield 49, 3) := by decide +kernel
theorem dX3_mayEnd_0 : decode cX3_mayEnd 0 = .ok (.aload_n 0, 1) := by decide +kernel
theorem dX3_mayEnd_1 : decode cX3_mayEnd 1 = .ok (.invokevirtual 52, 3) := by decide +kernel
theorem dX3_mayEnd_4 : decode cX3_mayEnd 4 = .ok (.ifCond .eq 5, 3) := by decide +kernel
theorem dX3_mayEnd_7 : decode cX3_mayEnd 7 = .ok (.iconst 1, 1) := by decide +kernel
theorem dX3_mayEnd_8 : decode cX3_mayEnd 8 = .ok (.ireturn, 1) := by decide +kernel
theorem dX3_mayEnd_9 : decode cX3_mayEnd 9 = .ok (.aload_n 0, 1) := by decide +kernel
theorem dX3_mayEnd_10 : decode cX3_mayEnd 10 = .ok (.getfield 9, 3) := by decide +kernel
theorem dX3_mayEnd_13 : decode cX3_mayEnd 13 = .ok (.aload_n 0, 1) := by decide +kernel
theorem dX3_mayEnd_14 : decode cX3_mayEnd 14 = .ok (.getfield 25, 3) := by decide +kernel
theorem dX3_mayEnd_17 : decode cX3_mayEnd 17 = .ok (.invokevirtual 31, 3) := by decide +kernel
theorem dX3_mayEnd_20 : decode cX3_mayEnd 20 = .ok (.astore_n 1, 1) := by decide +kernel
theorem dX3_mayEnd_21 : decode cX3_mayEnd 21 = .ok (.aload_n 0, 1) := by decide +kernel
theorem dX3_mayEnd_22 : decode cX3_mayEnd 22 = .ok (.getfield 28, 3) := by decide +kernel
theorem dX3_mayEnd_25 : decode cX3_mayEnd 25 = .ok (.aload_n 1, 1) := by decide +kernel
theorem dX3_mayEnd_26 : decode cX3_mayEnd 26 = .ok (.getfield 56, 3) := by decide +kernel
theorem dX3_mayEnd_29 : decode cX3_mayEnd 29 = .ok (.if_icmp .lt 11, 3) := by decide +kernel
theorem dX3_mayEnd_40 : decode cX3_mayEnd 40 = .ok (.aload_n 0, 1) := by decide +kernel
theorem dX3_mayEnd_41 : decode cX3_mayEnd 41 = .ok (.getfield 25, 3) := by decide +kernel
theorem dX3_mayEnd_44 : decode cX3_mayEnd 44 = .ok (.aload_n 0, 1) := by decide +kernel
theorem dX3_mayEnd_45 : decode cX3_mayEnd 45 = .ok (.getfield 19, 3) := by decide +kernel
theorem dX3_mayEnd_48 : decode cX3_mayEnd 48 = .ok (.if_icmp .ne 10, 3) := by decide +kernel
theorem dX3_mayEnd_58 : decode cX3_mayEnd 58 = .ok (.aload_n 1, 1) := by decide +kernel
theorem dX3_mayEnd_59 : decode cX3_mayEnd 59 = .ok (.getfield 59, 3) := by decide +kernel
theorem dX3_mayEnd_62 : decode cX3_mayEnd 62 = .ok (.istore_n 2, 1) := by decide +kernel
theorem dX3_mayEnd_63 : decode cX3_mayEnd 63 = .ok (.aload_n 1, 1) := by decide +kernel
theorem dX3_mayEnd_64 : decode cX3_mayEnd 64 = .ok (.getfield 37, 3) := by decide +kernel
theorem dX3_mayEnd_67 : decode cX3_mayEnd 67 = .ok (.invokevirtual 71, 3) := by decide +kernel
theorem dX3_mayEnd_70 : decode cX3_mayEnd 70 = .ok (.ifCond .eq 30, 3) := by decide +kernel
theorem dX3_mayEnd_73 : decode cX3_mayEnd 73 = .ok (.aload_n 0, 1) := by decide +kernel
theorem dX3_mayEnd_74 : decode cX3_mayEnd 74 = .ok (.getfield 28, 3) := by decide +kernel
theorem dX3_mayEnd_77 : decode cX3_mayEnd 77 = .ok (.iload_n 2, 1) := by decide +kernel
theorem dX3_mayEnd_78 : decode cX3_mayEnd 78 = .ok (.isub, 1) := by decide +kernel
theorem dX3_mayEnd_79 : decode cX3_mayEnd 79 = .ok (.iconst 2, 1) := by decide +kernel
theorem dX3_mayEnd_80 : decode cX3_mayEnd 80 = .ok (.if_icmp .lt 20, 3) := by decide +kernel
theorem dX3_mayEnd_100 : decode cX3_mayEnd 100 = .ok (.iconst 0, 1) := by decide +kernel
theorem dX3_mayEnd_101 : decode cX3_mayEnd 101 = .ok (.ireturn, 1) := by decide +kernel
theorem dX3_mayEnd_83 : decode cX3_mayEnd 83 = .ok (.aload_n 1, 1) := by decide +kernel
theorem dX3_mayEnd_84 : decode cX3_mayEnd 84 = .ok (.getfield 56, 3) := by decide +kernel
theorem dX3_mayEnd_87 : decode cX3_mayEnd 87 = .ok (.aload_n 0, 1) := by decide +kernel
theorem dX3_mayEnd_88 : decode cX3_mayEnd 88 = .ok (.getfield 28, 3) := by decide +kernel
theorem dX3_mayEnd_91 : decode cX3_mayEnd 91 = .ok (.isub, 1) := by decide +kernel
theorem dX3_mayEnd_92 : decode cX3_mayEnd 92 = .ok (.iconst 2, 1) := by decide +kernel
theorem dX3_mayEnd_93 : decode cX3_mayEnd 93 = .ok (.if_icmp .lt 7, 3) := by decide +kernel
theorem dX3_mayEnd_96 : decode cX3_mayEnd 96 = .ok (.iconst 1, 1) := by decide +kernel
theorem dX3_mayEnd_97 : decode cX3_mayEnd 97 = .ok (.goto 4, 3) := by decide +kernel
theorem dX3_mayEnd_51 : decode cX3_mayEnd 51 = .ok (.aload_n 0, 1) := by decide +kernel
theorem dX3_mayEnd_52 : decode cX3_mayEnd 52 = .ok (.getfield 22, 3) := by decide +kernel
theorem dX3_mayEnd_55 : decode cX3_mayEnd 55 = .ok (.goto 7, 3) := by decide +kernel
theorem dX3_mayEnd_32 : decode cX3_mayEnd 32 = .ok (.aload_n 1, 1) := by decide +kernel
theorem dX3_mayEnd_33 : decode cX3_mayEnd 33 = .ok (.getfield 37, 3) := by decide +kernel
theorem dX3_mayEnd_36 : decode cX3_mayEnd 36 = .ok (.invokevirtual 68, 3) := by decide +kernel
theorem dX3_mayEnd_39 : decode cX3_mayEnd 39 = .ok (.ireturn, 1) := by decide +kernel
theorem dX3_breakCost_0 : decode cX3_breakCost 0 = .ok (.aload_n 0, 1) := by decide +kernel
theorem dX3_breakCost_1 : decode cX3_breakCost 1 = .ok (.getfield 9, 3) := by decide +kernel
theorem dX3_breakCost_4 : decode cX3_breakCost 4 = .ok (.aload_n 0, 1) := by decide +kernel
theorem dX3_breakCost_5 : decode cX3_breakCost 5 = .ok (.getfield 25, 3) := by decide +kernel
theorem dX3_breakCost_8 : decode cX3_breakCost 8 = .ok (.invokevirtual 31, 3) := by decide +kernel
theorem dX3_breakCost_11 : decode cX3_breakCost 11 = .ok (.getfield 37, 3) := by decide +kernel
theorem dX3_breakCost_14 : decode cX3_breakCost 14 = .ok (.astore_n 1, 1) := by decide +kernel
theorem dX3_breakCost_15 : decode cX3_breakCost 15 = .ok (.aload_n 1, 1) := by decide +kernel
theorem dX3_breakCost_16 : decode cX3_breakCost 16 = .ok (.aload_n 0, 1) := by decide +kernel
theorem dX3_breakCost_17 : decode cX3_breakCost 17 = .ok (.getfield 28, 3) := by decide +kernel
theorem dX3_breakCost_20 : decode cX3_breakCost 20 = .ok (.invokevirtual 74, 3) := by decide +kernel
theorem dX3_breakCost_23 : decode cX3_breakCost 23 = .ok (.ifCond .ne 5, 3) := by decide +kernel
theorem dX3_breakCost_28 : decode cX3_breakCost 28 = .ok (.aload_n 1, 1) := by decide +kernel
theorem dX3_breakCost_29 : decode cX3_breakCost 29 = .ok (.getfield 77, 3) := by decide +kernel
theorem dX3_breakCost_32 : decode cX3_breakCost 32 = .ok (.iconst 4, 1) := by decide +kernel
theorem dX3_breakCost_33 : decode cX3_breakCost 33 = .ok (.if_icmp .ne 8, 3) := by decide +kernel
theorem dX3_breakCost_41 : decode cX3_breakCost 41 = .ok (.bipush 10, 2) := by decide +kernel
theorem dX3_breakCost_43 : decode cX3_breakCost 43 = .ok (.ireturn, 1) := by decide +kernel
theorem dX3_breakCost_36 : decode cX3_breakCost 36 = .ok (.bipush 30, 2) := by decide +kernel
theorem dX3_breakCost_38 : decode cX3_breakCost 38 = .ok (.goto 5, 3) := by decide +kernel
theorem dX3_breakCost_26 : decode cX3_breakCost 26 = .ok (.iconst 0, 1) := by decide +kernel
theorem dX3_breakCost_27 : decode cX3_breakCost 27 = .ok (.ireturn, 1) := by decide +kernel
set_option maxHeartbeats 1000000 in
set_option maxRecDepth 100000 in
theorem lf_open (l : Launch) (D : va_G) (z : Nat → Nat) (cB cI_ cO : ClassId) (L0 : List Nat) (g0 : hG) (pr pcs spr nwh cp : Nat) (pa : List Nat) (ea : Nat → Nat) (P : List Q4) (ne : Nat) (EE : Nat → E5) (lf : Nat) (x1 x2 x3 x4 x5 x6 : Int32) (pp rr ee : Nat) (h_lf : ho L0 g0 lf 20 (.inr (4, [.ref pr, .int x1, .int x2, .int x3, .int x4, .int x5, .int x6]))) (h_pr : ho L0 g0 pr 13 (.inr (7, [.ref pcs, .ref spr, .ref nwh]))) (h_pcs : alR cO (z 0) 14 15 L0 g0 pcs cp pa) (h_pc : pcR L0 g0 ea pa P) (h_es : esR cB cI_ L0 g0 ea ne EE) (hpa : pa.length ≤ 20000) (hQ : pq_ok ne EE P) (hp : pp < pa.length) (hr_ : rr ≤ 20000) : eV l D yX3_open cX3_open 4 none 4 85 0 0 [.ref lf, .int (nI pp), .int (nI rr), .int (nI ee)] z cB cI_ cO L0 g0 (fun L g => fr [20] L0 g0 L g ∧ ho L g lf 20 (.inr (4, [.ref pr, .int (nI ee), .int (nI pp), .int (nI rr), .int (nI pp), .int (nI rr), .int (nI (pb ((EE (P.getD pp d4).1).1 = 4 ∧ 0 < rr ∧ rr < eRw (EE (P.getD pp d4).1))))]))) := by
  refine o_sv (by decide) (Nat.le_of_ble_eq_true rfl) ?_
  intro p e s m below meth c A ls hf hr hlocks hin hK hP hD hS hA hZ hN hl
  obtain ⟨hx, hb, hml, hown, hts⟩ := id hf
  have hl : lv_has ls 4 [(0, .ref lf), (1, .int (nI pp)), (2, .int (nI rr)), (3, .int (nI ee))] := hl
  have hfr : fr [20] L0 g0 L0 g0 := fr.rf
  refine lv_aload_n hx hb dX3_open_0 rfl (lv_at hl 0 rfl) ?_
  refine lv_iload_n hx hb dX3_open_1 rfl (lv_at hl 3 rfl) ?_
  refine o_put (D := D) (ci := 4) (v := .int (nI ee)) (ty := .int) (C := RX3) (T := TX3) (N := 7) (fs1 := [.ref pr, .int (nI ee), .int x2, .int x3, .int x4, .int x5, .int x6]) hx hb hts inX3 tyX3 tyX3_ok nmX3 hown hK hP hD hS h_lf rfl 1 (by decide) (hts _ k_321) (fun _ h9 => h9) rfl (by decide +kernel) rfl rfl (Nat.le_of_ble_eq_true rfl) rfl dX3_open_2 (fun g H locs h_lf hu hP hD hS => ?_)
  have h_pr := h_pr.up hu (by decide)
  have hfr := hfr.up hu (by decide)
  have h_pcs := h_pcs.frd hu.fr (by decide)
  have h_pc := h_pc.frd hu.fr (by decide)
  have h_es := h_es.frd hu.fr (by decide)
  refine lv_aload_n hx hb dX3_open_5 rfl (lv_at hl 0 rfl) ?_
  refine lv_iload_n hx hb dX3_open_6 rfl (lv_at hl 1 rfl) ?_
  refine o_put (D := D) (ci := 4) (v := .int (nI pp)) (ty := .int) (C := RX3) (T := TX3) (N := 7) (fs1 := [.ref pr, .int (nI ee), .int (nI pp), .int x3, .int x4, .int x5, .int x6]) hx hb hts inX3 tyX3 tyX3_ok nmX3 hown hK hP hD hS h_lf rfl 2 (by decide) (hts _ k_322) (fun _ h9 => h9) rfl (by decide +kernel) rfl rfl (Nat.le_of_ble_eq_true rfl) rfl dX3_open_7 (fun g H locs h_lf hu hP hD hS => ?_)
  have h_pr := h_pr.up hu (by decide)
  have hfr := hfr.up hu (by decide)
  have h_pcs := h_pcs.frd hu.fr (by decide)
  have h_pc := h_pc.frd hu.fr (by decide)
  have h_es := h_es.frd hu.fr (by decide)
  refine lv_aload_n hx hb dX3_open_10 rfl (lv_at hl 0 rfl) ?_
  refine lv_iload_n hx hb dX3_open_11 rfl (lv_at hl 2 rfl) ?_
  refine o_put (D := D) (ci := 4) (v := .int (nI rr)) (ty := .int) (C := RX3) (T := TX3) (N := 7) (fs1 := [.ref pr, .int (nI ee), .int (nI pp), .int (nI rr), .int x4, .int x5, .int x6]) hx hb hts inX3 tyX3 tyX3_ok nmX3 hown hK hP hD hS h_lf rfl 3 (by decide) (hts _ k_323) (fun _ h9 => h9) rfl (by decide +kernel) rfl rfl (Nat.le_of_ble_eq_true rfl) rfl dX3_open_12 (fun g H locs h_lf hu hP hD hS => ?_)
  have h_pr := h_pr.up hu (by decide)
  have hfr := hfr.up hu (by decide)
  have h_pcs := h_pcs.frd hu.fr (by decide)
  have h_pc := h_pc.frd hu.fr (by decide)
  have h_es := h_es.frd hu.fr (by decide)
  refine lv_aload_n hx hb dX3_open_15 rfl (lv_at hl 0 rfl) ?_
  refine lv_iload_n hx hb dX3_open_16 rfl (lv_at hl 1 rfl) ?_
  refine o_put (D := D) (ci := 4) (v := .int (nI pp)) (ty := .int) (C := RX3) (T := TX3) (N := 7) (fs1 := [.ref pr, .int (nI ee), .int (nI pp), .int (nI rr), .int (nI pp), .int x5, .int x6]) hx hb hts inX3 tyX3 tyX3_ok nmX3 hown hK hP hD hS h_lf rfl 4 (by decide) (hts _ k_324) (fun _ h9 => h9) rfl (by decide +kernel) rfl rfl (Nat.le_of_ble_eq_true rfl) rfl dX3_open_17 (fun g H locs h_lf hu hP hD hS => ?_)
  have h_pr := h_pr.up hu (by decide)
  have hfr := hfr.up hu (by decide)
  have h_pcs := h_pcs.frd hu.fr (by decide)
  have h_pc := h_pc.frd hu.fr (by decide)
  have h_es := h_es.frd hu.fr (by decide)
  refine lv_aload_n hx hb dX3_open_20 rfl (lv_at hl 0 rfl) ?_
  refine lv_iload_n hx hb dX3_open_21 rfl (lv_at hl 2 rfl) ?_
  refine o_put (D := D) (ci := 4) (v := .int (nI rr)) (ty := .int) (C := RX3) (T := TX3) (N := 7) (fs1 := [.ref pr, .int (nI ee), .int (nI pp), .int (nI rr), .int (nI pp), .int (nI rr), .int x6]) hx hb hts inX3 tyX3 tyX3_ok nmX3 hown hK hP hD hS h_lf rfl 5 (by decide) (hts _ k_325) (fun _ h9 => h9) rfl (by decide +kernel) rfl rfl (Nat.le_of_ble_eq_true rfl) rfl dX3_open_22 (fun g H locs h_lf hu hP hD hS => ?_)
  have h_pr := h_pr.up hu (by decide)
  have hfr := hfr.up hu (by decide)
  have h_pcs := h_pcs.frd hu.fr (by decide)
  have h_pc := h_pc.frd hu.fr (by decide)
  have h_es := h_es.frd hu.fr (by decide)
  refine lv_aload_n hx hb dX3_open_25 rfl (lv_at hl 0 rfl) ?_
  refine lv_aload_n hx hb dX3_open_26 rfl (lv_at hl 0 rfl) ?_
  refine o_get (D := D) (ci := 4) (v := .ref pr) (C := RX3) (T := TX3) (N := 7) hx hb hts inX3 hown hK hP h_lf rfl 0 (by decide) (hts _ k_320) (fun _ h9 => h9) rfl dX3_open_27 ?_
  refine lv_iload_n hx hb dX3_open_30 rfl (lv_at hl 1 rfl) ?_
  refine o_crs (k := 0) (n := 0) hK hP hD hS hA (o_rV (As := [.int (nI pp)]) (rest := [.ref lf]) hf (p_atI _ _ _ _ _ _ _ _ pr pcs spr nwh cp pa ea P pp h_pr h_pcs h_pc hpa (by omega) _) k_775 k_792 k_773 k_774 k_92 (nA := 1) (by decide +kernel) ⟨Nat.le_of_ble_eq_true rfl, Nat.le_of_ble_eq_true rfl⟩ hK hP hD hS hA hZ hN h_pr rfl rfl rfl hl.1 rfl (Nat.le_of_ble_eq_true rfl) dX3_open_31 ⟨(show 0 + 0 ≤ 0 by omega), (show 0 + 0 ≤ 0 by omega)⟩) (Nat.le_refl _) (Nat.le_refl _) (fun r H locs hw hP hD hS => ?_)
  obtain rfl := hw
  have h_p1 := h_pc.2 pp (by omega)
  have hpl_ := h_pc.1
  have hq_p1 := hQ pp (by omega)
  have hr_p1 := h_es.rb hq_p1.1
  refine o_get (D := D) (ci := 6) (v := .ref (ea (P.getD pp d4).1)) (C := RX5) (T := TX5) (N := 4) hx hb hts inX5 hown hK hP h_p1 rfl 0 (by decide) (hts _ k_277) (fun _ h9 => h9) rfl dX3_open_34 ?_
  obtain ⟨tx1, rf1, rt1, h_e1⟩ := h_es.ob hq_p1.1
  refine lv_iload_n hx hb dX3_open_37 rfl (lv_at hl 2 rfl) ?_
  refine o_cis (k := 0) (n := 0) hK hP hD hS hA (o_rV (As := [.int (nI rr)]) (rest := [.ref lf]) hf (l_wSp _ _ _ _ _ _ _ _ (ea (P.getD pp d4).1) ((EE (P.getD pp d4).1).1) ((EE (P.getD pp d4).1).2.1) ((EE (P.getD pp d4).1).2.2.1) tx1 ((EE (P.getD pp d4).1).2.2.2.2.length) ((EE (P.getD pp d4).1).2.2.2.1) rf1 rt1 ((eRw (EE (P.getD pp d4).1))) rr h_e1 (by omega) (by omega) _) k_796 k_793 k_794 k_795 k_90 (nA := 1) (by decide +kernel) ⟨Nat.le_of_ble_eq_true rfl, Nat.le_of_ble_eq_true rfl⟩ hK hP hD hS hA hZ hN h_e1 rfl rfl rfl hl.1 rfl (Nat.le_of_ble_eq_true rfl) dX3_open_38 ⟨(show 0 + 0 ≤ 0 by omega), (show 0 + 0 ≤ 0 by omega)⟩) (Nat.le_refl _) (Nat.le_refl _) (fun r H locs hw hP hD hS => ?_)
  rcases hw with ⟨c_2, rfl⟩ | ⟨c_2, rfl⟩
  · have hP := hP
    refine lv_if_eq (tgt := 48) hx hb dX3_open_41 (by decide) (fun hno => absurd hno (by decide)) (fun _ => ?_)
    refine lv_iconst (v := 1) hx hb dX3_open_44 (by decide) ?_
    refine lv_goto (tgt := 49) hx hb dX3_open_45 (by decide) ?_
    refine o_put (D := D) (ci := 4) (v := .int 1) (ty := .int) (C := RX3) (T := TX3) (N := 7) (fs1 := [.ref pr, .int (nI ee), .int (nI pp), .int (nI rr), .int (nI pp), .int (nI rr), .int 1]) hx hb hts inX3 tyX3 tyX3_ok nmX3 hown hK hP hD hS h_lf rfl 6 (by decide) (hts _ k_326) (fun _ h9 => h9) rfl (by decide +kernel) rfl rfl (Nat.le_of_ble_eq_true rfl) rfl dX3_open_49 (fun g H locs h_lf hu hP hD hS => ?_)
    have h_pr := h_pr.up hu (by decide)
    have h_p1 := h_p1.up hu (by decide)
    have h_e1 := h_e1.up hu (by decide)
    have hfr := hfr.up hu (by decide)
    have h_pcs := h_pcs.frd hu.fr (by decide)
    have h_pc := h_pc.frd hu.fr (by decide)
    have h_es := h_es.frd hu.fr (by decide)
    exact o_rv hf hr hlocks hK hP hD hS (show 0 ≤ 0 by omega) (show 0 ≤ 0 by omega) ⟨hfr, by rw [pb_1 c_2]; exact h_lf⟩ dX3_open_52
  · have hP := hP
    refine lv_if_eq (tgt := 48) hx hb dX3_open_41 (by decide) (fun _ => ?_) (fun hno => absurd hno (by decide))
    refine lv_iconst (v := 0) hx hb dX3_open_48 (by decide) ?_
    refine o_put (D := D) (ci := 4) (v := .int 0) (ty := .int) (C := RX3) (T := TX3) (N := 7) (fs1 := [.ref pr, .int (nI ee), .int (nI pp), .int (nI rr), .int (nI pp), .int (nI rr), .int 0]) hx hb hts inX3 tyX3 tyX3_ok nmX3 hown hK hP hD hS h_lf rfl 6 (by decide) (hts _ k_326) (fun _ h9 => h9) rfl (by decide +kernel) rfl rfl (Nat.le_of_ble_eq_true rfl) rfl dX3_open_49 (fun g H locs h_lf hu hP hD hS => ?_)
    have h_pr := h_pr.up hu (by decide)
    have h_p1 := h_p1.up hu (by decide)
    have h_e1 := h_e1.up hu (by decide)
    have hfr := hfr.up hu (by decide)
    have h_pcs := h_pcs.frd hu.fr (by decide)
    have h_pc := h_pc.frd hu.fr (by decide)
    have h_es := h_es.frd hu.fr (by decide)
    exact o_rv hf hr hlocks hK hP hD hS (show 0 ≤ 0 by omega) (show 0 ≤ 0 by omega) ⟨hfr, by rw [pb_0 c_2]; exact h_lf⟩ dX3_open_52
set_option maxHeartbeats 1000000 in
set_option maxRecDepth 100000 in
theorem lf_beh (l : Launch) (D : va_G) (z : Nat → Nat) (cB cI_ cO : ClassId) (L0 : List Nat) (g0 : hG) (pr pcs spr nwh cp : Nat) (pa : List Nat) (ea : Nat → Nat) (P : List Q4) (ne : Nat) (EE : Nat → E5) (lf : Nat) (le p0 b0 lp lr lw : Nat) (h_lf : ho L0 g0 lf 20 (.inr (4, [.ref pr, .int (nI le), .int (nI p0), .int (nI b0), .int (nI lp), .int (nI lr), .int (nI lw)]))) (h_pr : ho L0 g0 pr 13 (.inr (7, [.ref pcs, .ref spr, .ref nwh]))) (h_pcs : alR cO (z 0) 14 15 L0 g0 pcs cp pa) (h_pc : pcR L0 g0 ea pa P) (h_es : esR cB cI_ L0 g0 ea ne EE) (hpa : pa.length ≤ 20000) (hQ : pq_ok ne EE P) (hle : le ≤ pa.length) (hl0 : lp < le) (hlr : lr ≤ 20000) : eIs l D yX3_isBehindAll cX3_isBehindAll 1 (some .boolean) 4 85 0 0 [.ref lf] z cB cI_ cO L0 g0 (fun r => ((le ≤ lp + 1 ∧ (P.getD lp d4).2.2.1 ≤ lr) ∧ r = 1 ∨ ¬ (le ≤ lp + 1 ∧ (P.getD lp d4).2.2.1 ≤ lr) ∧ r = 0)) := by
  refine o_si (by decide) (Nat.le_of_ble_eq_true rfl) ?_
  intro p e s m below meth c A ls hf hr hlocks hin hK hP hD hS hA hZ hN hl
  obtain ⟨hx, hb, hml, hown, hts⟩ := id hf
  have hl : lv_has ls 1 [(0, .ref lf)] := hl
  refine lv_aload_n hx hb dX3_isBehindAll_0 rfl (lv_at hl 0 rfl) ?_
  refine o_get (D := D) (ci := 4) (v := .int (nI lp)) (C := RX3) (T := TX3) (N := 7) hx hb hts inX3 hown hK hP h_lf rfl 4 (by decide) (hts _ k_324) (fun _ h9 => h9) rfl dX3_isBehindAll_1 ?_
  refine lv_aload_n hx hb dX3_isBehindAll_4 rfl (lv_at hl 0 rfl) ?_
  refine o_get (D := D) (ci := 4) (v := .int (nI le)) (C := RX3) (T := TX3) (N := 7) hx hb hts inX3 hown hK hP h_lf rfl 1 (by decide) (hts _ k_321) (fun _ h9 => h9) rfl dX3_isBehindAll_5 ?_
  refine lv_iconst (v := 1) hx hb dX3_isBehindAll_8 (by decide) ?_
  refine lv_isub hx hb dX3_isBehindAll_9 ?_
  refine q_seti (y := nI (le - 1)) (nI_subE (a := le) (b := 1) (by omega) (by omega)) ?_
  refine lv_icmp_lt (tgt := 38) hx hb dX3_isBehindAll_10 (by decide) (fun c_1 => ?_) (fun c_1 => ?_)
  · have c_1 := q_lt (a := lp) (b := le - 1) (by omega) (by omega) c_1
    refine lv_iconst (v := 0) hx hb dX3_isBehindAll_38 (by decide) ?_
    exact o_ri hf hr rfl hlocks hK hP hD hS (show 0 ≤ 0 by omega) (show 0 ≤ 0 by omega) ⟨Or.inr ⟨by omega, rfl⟩, rfl, rfl⟩ dX3_isBehindAll_39
  · have c_1 := q_nlt (a := lp) (b := le - 1) (by omega) (by omega) c_1
    refine lv_aload_n hx hb dX3_isBehindAll_13 rfl (lv_at hl 0 rfl) ?_
    refine o_get (D := D) (ci := 4) (v := .int (nI lr)) (C := RX3) (T := TX3) (N := 7) hx hb hts inX3 hown hK hP h_lf rfl 5 (by decide) (hts _ k_325) (fun _ h9 => h9) rfl dX3_isBehindAll_14 ?_
    refine lv_aload_n hx hb dX3_isBehindAll_17 rfl (lv_at hl 0 rfl) ?_
    refine o_get (D := D) (ci := 4) (v := .ref pr) (C := RX3) (T := TX3) (N := 7) hx hb hts inX3 hown hK hP h_lf rfl 0 (by decide) (hts _ k_320) (fun _ h9 => h9) rfl dX3_isBehindAll_18 ?_
    refine lv_aload_n hx hb dX3_isBehindAll_21 rfl (lv_at hl 0 rfl) ?_
    refine o_get (D := D) (ci := 4) (v := .int (nI lp)) (C := RX3) (T := TX3) (N := 7) hx hb hts inX3 hown hK hP h_lf rfl 4 (by decide) (hts _ k_324) (fun _ h9 => h9) rfl dX3_isBehindAll_22 ?_
    refine o_crs (k := 0) (n := 0) hK hP hD hS hA (o_rV (As := [.int (nI lp)]) (rest := [.int (nI lr)]) hf (p_atI _ _ _ _ _ _ _ _ pr pcs spr nwh cp pa ea P lp h_pr h_pcs h_pc hpa (by omega) _) k_775 k_792 k_773 k_774 k_92 (nA := 1) (by decide +kernel) ⟨Nat.le_of_ble_eq_true rfl, Nat.le_of_ble_eq_true rfl⟩ hK hP hD hS hA hZ hN h_pr rfl rfl rfl hl.1 rfl (Nat.le_of_ble_eq_true rfl) dX3_isBehindAll_25 ⟨(show 0 + 0 ≤ 0 by omega), (show 0 + 0 ≤ 0 by omega)⟩) (Nat.le_refl _) (Nat.le_refl _) (fun r H locs hw hP hD hS => ?_)
    obtain rfl := hw
    have h_p2 := h_pc.2 lp (by omega)
    have hpl_ := h_pc.1
    have hq_p2 := hQ lp (by omega)
    have hr_p2 := h_es.rb hq_p2.1
    refine o_get (D := D) (ci := 6) (v := .int (nI ((P.getD lp d4).2.2.1))) (C := RX5) (T := TX5) (N := 4) hx hb hts inX5 hown hK hP h_p2 rfl 2 (by decide) (hts _ k_289) (fun _ h9 => h9) rfl dX3_isBehindAll_28 ?_
    refine lv_icmp_lt (tgt := 38) hx hb dX3_isBehindAll_31 (by decide) (fun c_3 => ?_) (fun c_3 => ?_)
    · have c_3 := q_lt (a := lr) (b := (P.getD lp d4).2.2.1) (by omega) (by omega) c_3
      refine lv_iconst (v := 0) hx hb dX3_isBehindAll_38 (by decide) ?_
      exact o_ri hf hr rfl hlocks hK hP hD hS (show 0 ≤ 0 by omega) (show 0 ≤ 0 by omega) ⟨Or.inr ⟨by omega, rfl⟩, rfl, rfl⟩ dX3_isBehindAll_39
    · have c_3 := q_nlt (a := lr) (b := (P.getD lp d4).2.2.1) (by omega) (by omega) c_3
      refine lv_iconst (v := 1) hx hb dX3_isBehindAll_34 (by decide) ?_
      refine lv_goto (tgt := 39) hx hb dX3_isBehindAll_35 (by decide) ?_
      exact o_ri hf hr rfl hlocks hK hP hD hS (show 0 ≤ 0 by omega) (show 0 ≤ 0 by omega) ⟨Or.inl ⟨by omega, rfl⟩, rfl, rfl⟩ dX3_isBehindAll_39
set_option maxHeartbeats 1000000 in
set_option maxRecDepth 100000 in
theorem lf_last (l : Launch) (D : va_G) (z : Nat → Nat) (cB cI_ cO : ClassId) (L0 : List Nat) (g0 : hG) (lf le p0 b0 lp lr lw pr : Nat) (h_lf : ho L0 g0 lf 20 (.inr (4, [.ref pr, .int (nI le), .int (nI p0), .int (nI b0), .int (nI lp), .int (nI lr), .int (nI lw)])))  : eIs l D yX3_lastPiece cX3_lastPiece 1 (some .int) 0 0 0 0 [.ref lf] z cB cI_ cO L0 g0 (fun r => r = nI lp) := by
  refine o_si (by decide) (Nat.le_of_ble_eq_true rfl) ?_
  intro p e s m below meth c A ls hf hr hlocks hin hK hP hD hS hA hZ hN hl
  obtain ⟨hx, hb, hml, hown, hts⟩ := id hf
  have hl : lv_has ls 1 [(0, .ref lf)] := hl
  refine lv_aload_n hx hb dX3_lastPiece_0 rfl (lv_at hl 0 rfl) ?_
  refine o_get (D := D) (ci := 4) (v := .int (nI lp)) (C := RX3) (T := TX3) (N := 7) hx hb hts inX3 hown hK hP h_lf rfl 4 (by decide) (hts _ k_324) (fun _ h9 => h9) rfl dX3_lastPiece_1 ?_
  exact o_ri hf hr rfl hlocks hK hP hD hS (show 0 ≤ 0 by omega) (show 0 ≤ 0 by omega) ⟨rfl, rfl, rfl⟩ dX3_lastPiece_4
set_option maxHeartbeats 1000000 in
set_option maxRecDepth 100000 in
theorem lf_endr (l : Launch) (D : va_G) (z : Nat → Nat) (cB cI_ cO : ClassId) (L0 : List Nat) (g0 : hG) (lf le p0 b0 lp lr lw pr : Nat) (h_lf : ho L0 g0 lf 20 (.inr (4, [.ref pr, .int (nI le), .int (nI p0), .int (nI b0), .int (nI lp), .int (nI lr), .int (nI lw)])))  : eIs l D yX3_endRow cX3_endRow 1 (some .int) 0 0 0 0 [.ref lf] z cB cI_ cO L0 g0 (fun r => r = nI lr) := by
  refine o_si (by decide) (Nat.le_of_ble_eq_true rfl) ?_
  intro p e s m below meth c A ls hf hr hlocks hin hK hP hD hS hA hZ hN hl
  obtain ⟨hx, hb, hml, hown, hts⟩ := id hf
  have hl : lv_has ls 1 [(0, .ref lf)] := hl
  refine lv_aload_n hx hb dX3_endRow_0 rfl (lv_at hl 0 rfl) ?_
  refine o_get (D := D) (ci := 4) (v := .int (nI lr)) (C := RX3) (T := TX3) (N := 7) hx hb hts inX3 hown hK hP h_lf rfl 5 (by decide) (hts _ k_325) (fun _ h9 => h9) rfl dX3_endRow_1 ?_
  exact o_ri hf hr rfl hlocks hK hP hD hS (show 0 ≤ 0 by omega) (show 0 ≤ 0 by omega) ⟨rfl, rfl, rfl⟩ dX3_endRow_4
set_option maxHeartbeats 1000000 in
set_option maxRecDepth 100000 in
theorem lf_takeA (l : Launch) (D : va_G) (z : Nat → Nat) (cB cI_ cO : ClassId) (L0 : List Nat) (g0 : hG) (pr pcs spr nwh cp : Nat) (pa : List Nat) (ea : Nat → Nat) (P : List Q4) (ne : Nat) (EE : Nat → E5) (lf : Nat) (le p0 b0 lp lr lw : Nat) (h_lf : ho L0 g0 lf 20 (.inr (4, [.ref pr, .int (nI le), .int (nI p0), .int (nI b0), .int (nI lp), .int (nI lr), .int (nI lw)]))) (h_pr : ho L0 g0 pr 13 (.inr (7, [.ref pcs, .ref spr, .ref nwh]))) (h_pcs : alR cO (z 0) 14 15 L0 g0 pcs cp pa) (h_pc : pcR L0 g0 ea pa P) (h_es : esR cB cI_ L0 g0 ea ne EE) (hpa : pa.length ≤ 20000) (hQ : pq_ok ne EE P) (hle : le ≤ pa.length) (hl0 : lp < le) (hlr : lr ≤ 20000) (hA_ : lr < (P.getD lp d4).2.2.1) (hlw : lw ≤ 20000) : eV l D yX3_takeRow cX3_takeRow 2 none 5 105 0 0 [.ref lf] z cB cI_ cO L0 g0 (fun L g => fr [20] L0 g0 L g ∧ ho L g lf 20 (.inr (4, [.ref pr, .int (nI le), .int (nI p0), .int (nI b0), .int (nI lp), .int (nI (lr + 1)), .int (nI (lw + 1))]))) := by
  refine o_sv (by decide) (Nat.le_of_ble_eq_true rfl) ?_
  intro p e s m below meth c A ls hf hr hlocks hin hK hP hD hS hA hZ hN hl
  obtain ⟨hx, hb, hml, hown, hts⟩ := id hf
  have hl : lv_has ls 2 [(0, .ref lf)] := hl
  have hfr : fr [20] L0 g0 L0 g0 := fr.rf
  refine lv_aload_n hx hb dX3_takeRow_0 rfl (lv_at hl 0 rfl) ?_
  refine o_cis (k := 0) (n := 0) hK hP hD hS hA (o_rV (As := []) (rest := []) hf (lf_beh _ _ _ _ _ _ _ _ pr pcs spr nwh cp pa ea P ne EE lf le p0 b0 lp lr lw h_lf h_pr h_pcs h_pc h_es hpa hQ (by omega) (by omega) (by omega) _) k_804 k_809 k_802 k_803 k_94 (nA := 0) (by decide +kernel) ⟨Nat.le_of_ble_eq_true rfl, Nat.le_of_ble_eq_true rfl⟩ hK hP hD hS hA hZ hN h_lf rfl rfl rfl hl.1 rfl (Nat.le_of_ble_eq_true rfl) dX3_takeRow_1 ⟨(show 0 + 0 ≤ 0 by omega), (show 0 + 0 ≤ 0 by omega)⟩) (Nat.le_refl _) (Nat.le_refl _) (fun r H locs hw hP hD hS => ?_)
  rcases hw with ⟨c_1, rfl⟩ | ⟨c_1, rfl⟩
  · have hP := hP
    refine lv_if_eq (tgt := 8) hx hb dX3_takeRow_4 (by decide) (fun hno => absurd hno (by decide)) (fun _ => ?_)
    exact False.elim (by omega)
  · have hP := hP
    refine lv_if_eq (tgt := 8) hx hb dX3_takeRow_4 (by decide) (fun _ => ?_) (fun hno => absurd hno (by decide))
    refine lv_aload_n hx hb dX3_takeRow_8 rfl (lv_at hl 0 rfl) ?_
    refine o_get (D := D) (ci := 4) (v := .int (nI lr)) (C := RX3) (T := TX3) (N := 7) hx hb hts inX3 hown hK hP h_lf rfl 5 (by decide) (hts _ k_325) (fun _ h9 => h9) rfl dX3_takeRow_9 ?_
    refine lv_aload_n hx hb dX3_takeRow_12 rfl (lv_at hl 0 rfl) ?_
    refine o_get (D := D) (ci := 4) (v := .ref pr) (C := RX3) (T := TX3) (N := 7) hx hb hts inX3 hown hK hP h_lf rfl 0 (by decide) (hts _ k_320) (fun _ h9 => h9) rfl dX3_takeRow_13 ?_
    refine lv_aload_n hx hb dX3_takeRow_16 rfl (lv_at hl 0 rfl) ?_
    refine o_get (D := D) (ci := 4) (v := .int (nI lp)) (C := RX3) (T := TX3) (N := 7) hx hb hts inX3 hown hK hP h_lf rfl 4 (by decide) (hts _ k_324) (fun _ h9 => h9) rfl dX3_takeRow_17 ?_
    refine o_crs (k := 0) (n := 0) hK hP hD hS hA (o_rV (As := [.int (nI lp)]) (rest := [.int (nI lr)]) hf (p_atI _ _ _ _ _ _ _ _ pr pcs spr nwh cp pa ea P lp h_pr h_pcs h_pc hpa (by omega) _) k_775 k_792 k_773 k_774 k_92 (nA := 1) (by decide +kernel) ⟨Nat.le_of_ble_eq_true rfl, Nat.le_of_ble_eq_true rfl⟩ hK hP hD hS hA hZ hN h_pr rfl rfl rfl hl.1 rfl (Nat.le_of_ble_eq_true rfl) dX3_takeRow_20 ⟨(show 0 + 0 ≤ 0 by omega), (show 0 + 0 ≤ 0 by omega)⟩) (Nat.le_refl _) (Nat.le_refl _) (fun r H locs hw hP hD hS => ?_)
    obtain rfl := hw
    have h_p2 := h_pc.2 lp (by omega)
    have hpl_ := h_pc.1
    have hq_p2 := hQ lp (by omega)
    have hr_p2 := h_es.rb hq_p2.1
    refine o_get (D := D) (ci := 6) (v := .int (nI ((P.getD lp d4).2.2.1))) (C := RX5) (T := TX5) (N := 4) hx hb hts inX5 hown hK hP h_p2 rfl 2 (by decide) (hts _ k_289) (fun _ h9 => h9) rfl dX3_takeRow_23 ?_
    refine lv_icmp_lt (tgt := 86) hx hb dX3_takeRow_26 (by decide) (fun c_3 => ?_) (fun c_3 => ?_)
    · have c_3 := q_lt (a := lr) (b := (P.getD lp d4).2.2.1) (by omega) (by omega) c_3
      refine lv_aload_n hx hb dX3_takeRow_86 rfl (lv_at hl 0 rfl) ?_
      refine lv_dup hx hb dX3_takeRow_87 rfl ?_
      refine o_get (D := D) (ci := 4) (v := .int (nI lr)) (C := RX3) (T := TX3) (N := 7) hx hb hts inX3 hown hK hP h_lf rfl 5 (by decide) (hts _ k_325) (fun _ h9 => h9) rfl dX3_takeRow_88 ?_
      refine lv_iconst (v := 1) hx hb dX3_takeRow_91 (by decide) ?_
      refine lv_iadd hx hb dX3_takeRow_92 ?_
      refine q_seti (y := nI (lr + 1)) (nI_addE (a := lr) (b := 1) (by omega)) ?_
      refine o_put (D := D) (ci := 4) (v := .int (nI (lr + 1))) (ty := .int) (C := RX3) (T := TX3) (N := 7) (fs1 := [.ref pr, .int (nI le), .int (nI p0), .int (nI b0), .int (nI lp), .int (nI (lr + 1)), .int (nI lw)]) hx hb hts inX3 tyX3 tyX3_ok nmX3 hown hK hP hD hS h_lf rfl 5 (by decide) (hts _ k_325) (fun _ h9 => h9) rfl (by decide +kernel) rfl rfl (Nat.le_of_ble_eq_true rfl) rfl dX3_takeRow_93 (fun g H locs h_lf hu hP hD hS => ?_)
      have h_pr := h_pr.up hu (by decide)
      have h_p2 := h_p2.up hu (by decide)
      have hfr := hfr.up hu (by decide)
      have h_pcs := h_pcs.frd hu.fr (by decide)
      have h_pc := h_pc.frd hu.fr (by decide)
      have h_es := h_es.frd hu.fr (by decide)
      refine lv_aload_n hx hb dX3_takeRow_96 rfl (lv_at hl 0 rfl) ?_
      refine lv_dup hx hb dX3_takeRow_97 rfl ?_
      refine o_get (D := D) (ci := 4) (v := .int (nI lw)) (C := RX3) (T := TX3) (N := 7) hx hb hts inX3 hown hK hP h_lf rfl 6 (by decide) (hts _ k_326) (fun _ h9 => h9) rfl dX3_takeRow_98 ?_
      refine lv_iconst (v := 1) hx hb dX3_takeRow_101 (by decide) ?_
      refine lv_iadd hx hb dX3_takeRow_102 ?_
      refine q_seti (y := nI (lw + 1)) (nI_addE (a := lw) (b := 1) (by omega)) ?_
      refine o_put (D := D) (ci := 4) (v := .int (nI (lw + 1))) (ty := .int) (C := RX3) (T := TX3) (N := 7) (fs1 := [.ref pr, .int (nI le), .int (nI p0), .int (nI b0), .int (nI lp), .int (nI (lr + 1)), .int (nI (lw + 1))]) hx hb hts inX3 tyX3 tyX3_ok nmX3 hown hK hP hD hS h_lf rfl 6 (by decide) (hts _ k_326) (fun _ h9 => h9) rfl (by decide +kernel) rfl rfl (Nat.le_of_ble_eq_true rfl) rfl dX3_takeRow_103 (fun g H locs h_lf hu hP hD hS => ?_)
      have h_pr := h_pr.up hu (by decide)
      have h_p2 := h_p2.up hu (by decide)
      have hfr := hfr.up hu (by decide)
      have h_pcs := h_pcs.frd hu.fr (by decide)
      have h_pc := h_pc.frd hu.fr (by decide)
      have h_es := h_es.frd hu.fr (by decide)
      exact o_rv hf hr hlocks hK hP hD hS (show 0 ≤ 0 by omega) (show 0 ≤ 0 by omega) ⟨hfr, h_lf⟩ dX3_takeRow_106
    · have c_3 := q_nlt (a := lr) (b := (P.getD lp d4).2.2.1) (by omega) (by omega) c_3
      exact False.elim (by omega)
set_option maxHeartbeats 1000000 in
set_option maxRecDepth 100000 in
theorem lf_takeB (l : Launch) (D : va_G) (z : Nat → Nat) (cB cI_ cO : ClassId) (L0 : List Nat) (g0 : hG) (pr pcs spr nwh cp : Nat) (pa : List Nat) (ea : Nat → Nat) (P : List Q4) (ne : Nat) (EE : Nat → E5) (lf : Nat) (le p0 b0 lp lr lw : Nat) (h_lf : ho L0 g0 lf 20 (.inr (4, [.ref pr, .int (nI le), .int (nI p0), .int (nI b0), .int (nI lp), .int (nI lr), .int (nI lw)]))) (h_pr : ho L0 g0 pr 13 (.inr (7, [.ref pcs, .ref spr, .ref nwh]))) (h_pcs : alR cO (z 0) 14 15 L0 g0 pcs cp pa) (h_pc : pcR L0 g0 ea pa P) (h_es : esR cB cI_ L0 g0 ea ne EE) (hpa : pa.length ≤ 20000) (hQ : pq_ok ne EE P) (hle : le ≤ pa.length) (hl0 : lp < le) (hlr : lr ≤ 20000) (hA_ : (P.getD lp d4).2.2.1 ≤ lr) (hB_ : lp + 1 < le) (hlw : lw ≤ 20000) : eV l D yX3_takeRow cX3_takeRow 2 none 5 105 0 0 [.ref lf] z cB cI_ cO L0 g0 (fun L g => fr [20] L0 g0 L g ∧ ho L g lf 20 (.inr (4, [.ref pr, .int (nI le), .int (nI p0), .int (nI b0), .int (nI (lp + 1)), .int (nI ((P.getD (lp + 1) d4).2.1 + 1)), .int (nI (lw + pb (rp_he ((EE (P.getD (lp + 1) d4).1).1) ((P.getD (lp + 1) d4).2.1)) + 1))]))) := by
  refine o_sv (by decide) (Nat.le_of_ble_eq_true rfl) ?_
  intro p e s m below meth c A ls hf hr hlocks hin hK hP hD hS hA hZ hN hl
  obtain ⟨hx, hb, hml, hown, hts⟩ := id hf
  have hl : lv_has ls 2 [(0, .ref lf)] := hl
  have hfr : fr [20] L0 g0 L0 g0 := fr.rf
  refine lv_aload_n hx hb dX3_takeRow_0 rfl (lv_at hl 0 rfl) ?_
  refine o_cis (k := 0) (n := 0) hK hP hD hS hA (o_rV (As := []) (rest := []) hf (lf_beh _ _ _ _ _ _ _ _ pr pcs spr nwh cp pa ea P ne EE lf le p0 b0 lp lr lw h_lf h_pr h_pcs h_pc h_es hpa hQ (by omega) (by omega) (by omega) _) k_804 k_809 k_802 k_803 k_94 (nA := 0) (by decide +kernel) ⟨Nat.le_of_ble_eq_true rfl, Nat.le_of_ble_eq_true rfl⟩ hK hP hD hS hA hZ hN h_lf rfl rfl rfl hl.1 rfl (Nat.le_of_ble_eq_true rfl) dX3_takeRow_1 ⟨(show 0 + 0 ≤ 0 by omega), (show 0 + 0 ≤ 0 by omega)⟩) (Nat.le_refl _) (Nat.le_refl _) (fun r H locs hw hP hD hS => ?_)
  rcases hw with ⟨c_1, rfl⟩ | ⟨c_1, rfl⟩
  · have hP := hP
    refine lv_if_eq (tgt := 8) hx hb dX3_takeRow_4 (by decide) (fun hno => absurd hno (by decide)) (fun _ => ?_)
    exact False.elim (by omega)
  · have hP := hP
    refine lv_if_eq (tgt := 8) hx hb dX3_takeRow_4 (by decide) (fun _ => ?_) (fun hno => absurd hno (by decide))
    refine lv_aload_n hx hb dX3_takeRow_8 rfl (lv_at hl 0 rfl) ?_
    refine o_get (D := D) (ci := 4) (v := .int (nI lr)) (C := RX3) (T := TX3) (N := 7) hx hb hts inX3 hown hK hP h_lf rfl 5 (by decide) (hts _ k_325) (fun _ h9 => h9) rfl dX3_takeRow_9 ?_
    refine lv_aload_n hx hb dX3_takeRow_12 rfl (lv_at hl 0 rfl) ?_
    refine o_get (D := D) (ci := 4) (v := .ref pr) (C := RX3) (T := TX3) (N := 7) hx hb hts inX3 hown hK hP h_lf rfl 0 (by decide) (hts _ k_320) (fun _ h9 => h9) rfl dX3_takeRow_13 ?_
    refine lv_aload_n hx hb dX3_takeRow_16 rfl (lv_at hl 0 rfl) ?_
    refine o_get (D := D) (ci := 4) (v := .int (nI lp)) (C := RX3) (T := TX3) (N := 7) hx hb hts inX3 hown hK hP h_lf rfl 4 (by decide) (hts _ k_324) (fun _ h9 => h9) rfl dX3_takeRow_17 ?_
    refine o_crs (k := 0) (n := 0) hK hP hD hS hA (o_rV (As := [.int (nI lp)]) (rest := [.int (nI lr)]) hf (p_atI _ _ _ _ _ _ _ _ pr pcs spr nwh cp pa ea P lp h_pr h_pcs h_pc hpa (by omega) _) k_775 k_792 k_773 k_774 k_92 (nA := 1) (by decide +kernel) ⟨Nat.le_of_ble_eq_true rfl, Nat.le_of_ble_eq_true rfl⟩ hK hP hD hS hA hZ hN h_pr rfl rfl rfl hl.1 rfl (Nat.le_of_ble_eq_true rfl) dX3_takeRow_20 ⟨(show 0 + 0 ≤ 0 by omega), (show 0 + 0 ≤ 0 by omega)⟩) (Nat.le_refl _) (Nat.le_refl _) (fun r H locs hw hP hD hS => ?_)
    obtain rfl := hw
    have h_p2 := h_pc.2 lp (by omega)
    have hpl_ := h_pc.1
    have hq_p2 := hQ lp (by omega)
    have hr_p2 := h_es.rb hq_p2.1
    refine o_get (D := D) (ci := 6) (v := .int (nI ((P.getD lp d4).2.2.1))) (C := RX5) (T := TX5) (N := 4) hx hb hts inX5 hown hK hP h_p2 rfl 2 (by decide) (hts _ k_289) (fun _ h9 => h9) rfl dX3_takeRow_23 ?_
    refine lv_icmp_lt (tgt := 86) hx hb dX3_takeRow_26 (by decide) (fun c_3 => ?_) (fun c_3 => ?_)
    · have c_3 := q_lt (a := lr) (b := (P.getD lp d4).2.2.1) (by omega) (by omega) c_3
      exact False.elim (by omega)
    · have c_3 := q_nlt (a := lr) (b := (P.getD lp d4).2.2.1) (by omega) (by omega) c_3
      refine lv_aload_n hx hb dX3_takeRow_29 rfl (lv_at hl 0 rfl) ?_
      refine lv_dup hx hb dX3_takeRow_30 rfl ?_
      refine o_get (D := D) (ci := 4) (v := .int (nI lp)) (C := RX3) (T := TX3) (N := 7) hx hb hts inX3 hown hK hP h_lf rfl 4 (by decide) (hts _ k_324) (fun _ h9 => h9) rfl dX3_takeRow_31 ?_
      refine lv_iconst (v := 1) hx hb dX3_takeRow_34 (by decide) ?_
      refine lv_iadd hx hb dX3_takeRow_35 ?_
      refine q_seti (y := nI (lp + 1)) (nI_addE (a := lp) (b := 1) (by omega)) ?_
      refine o_put (D := D) (ci := 4) (v := .int (nI (lp + 1))) (ty := .int) (C := RX3) (T := TX3) (N := 7) (fs1 := [.ref pr, .int (nI le), .int (nI p0), .int (nI b0), .int (nI (lp + 1)), .int (nI lr), .int (nI lw)]) hx hb hts inX3 tyX3 tyX3_ok nmX3 hown hK hP hD hS h_lf rfl 4 (by decide) (hts _ k_324) (fun _ h9 => h9) rfl (by decide +kernel) rfl rfl (Nat.le_of_ble_eq_true rfl) rfl dX3_takeRow_36 (fun g H locs h_lf hu hP hD hS => ?_)
      have h_pr := h_pr.up hu (by decide)
      have h_p2 := h_p2.up hu (by decide)
      have hfr := hfr.up hu (by decide)
      have h_pcs := h_pcs.frd hu.fr (by decide)
      have h_pc := h_pc.frd hu.fr (by decide)
      have h_es := h_es.frd hu.fr (by decide)
      refine lv_aload_n hx hb dX3_takeRow_39 rfl (lv_at hl 0 rfl) ?_
      refine o_get (D := D) (ci := 4) (v := .ref pr) (C := RX3) (T := TX3) (N := 7) hx hb hts inX3 hown hK hP h_lf rfl 0 (by decide) (hts _ k_320) (fun _ h9 => h9) rfl dX3_takeRow_40 ?_
      refine lv_aload_n hx hb dX3_takeRow_43 rfl (lv_at hl 0 rfl) ?_
      refine o_get (D := D) (ci := 4) (v := .int (nI (lp + 1))) (C := RX3) (T := TX3) (N := 7) hx hb hts inX3 hown hK hP h_lf rfl 4 (by decide) (hts _ k_324) (fun _ h9 => h9) rfl dX3_takeRow_44 ?_
      refine o_crs (k := 0) (n := 0) hK hP hD hS hA (o_rV (As := [.int (nI (lp + 1))]) (rest := []) hf (p_atI _ _ _ _ _ _ _ _ pr pcs spr nwh cp pa ea P (lp + 1) h_pr h_pcs h_pc hpa (by omega) _) k_775 k_792 k_773 k_774 k_92 (nA := 1) (by decide +kernel) ⟨Nat.le_of_ble_eq_true rfl, Nat.le_of_ble_eq_true rfl⟩ hK hP hD hS hA hZ hN h_pr rfl rfl rfl hl.1 rfl (Nat.le_of_ble_eq_true rfl) dX3_takeRow_47 ⟨(show 0 + 0 ≤ 0 by omega), (show 0 + 0 ≤ 0 by omega)⟩) (Nat.le_refl _) (Nat.le_refl _) (fun r H locs hw hP hD hS => ?_)
      obtain rfl := hw
      have h_p4 := h_pc.2 (lp + 1) (by omega)
      have hpl_ := h_pc.1
      have hq_p4 := hQ (lp + 1) (by omega)
      have hr_p4 := h_es.rb hq_p4.1
      refine lv_astore_n (lv' := [(1, .ref (pa.getD (lp + 1) 0)), (0, .ref lf)]) hx hb dX3_takeRow_50 rfl hl (by decide) rfl (fun ls hl => ?_)
      refine lv_aload_n hx hb dX3_takeRow_51 rfl (lv_at hl 1 rfl) ?_
      refine lv_aload_n hx hb dX3_takeRow_52 rfl (lv_at hl 0 rfl) ?_
      refine o_get (D := D) (ci := 6) (v := .int (nI ((P.getD (lp + 1) d4).2.1))) (C := RX5) (T := TX5) (N := 4) hx hb hts inX5 hown hK hP h_p4 rfl 1 (by decide) (hts _ k_285) (fun _ h9 => h9) rfl dX3_takeRow_53 ?_
      refine o_put (D := D) (ci := 4) (v := .int (nI ((P.getD (lp + 1) d4).2.1))) (ty := .int) (C := RX3) (T := TX3) (N := 7) (fs1 := [.ref pr, .int (nI le), .int (nI p0), .int (nI b0), .int (nI (lp + 1)), .int (nI ((P.getD (lp + 1) d4).2.1)), .int (nI lw)]) hx hb hts inX3 tyX3 tyX3_ok nmX3 hown hK hP hD hS h_lf rfl 5 (by decide) (hts _ k_325) (fun _ h9 => h9) rfl (by decide +kernel) rfl rfl (Nat.le_of_ble_eq_true rfl) rfl dX3_takeRow_56 (fun g H locs h_lf hu hP hD hS => ?_)
      have h_pr := h_pr.up hu (by decide)
      have h_p2 := h_p2.up hu (by decide)
      have h_p4 := h_p4.up hu (by decide)
      have hfr := hfr.up hu (by decide)
      have h_pcs := h_pcs.frd hu.fr (by decide)
      have h_pc := h_pc.frd hu.fr (by decide)
      have h_es := h_es.frd hu.fr (by decide)
      refine lv_aload_n hx hb dX3_takeRow_59 rfl (lv_at hl 0 rfl) ?_
      refine o_cis (k := 0) (n := 0) hK hP hD hS hA (o_rV (As := []) (rest := []) hf (p_begE _ _ _ _ _ _ _ _ (pa.getD (lp + 1) 0) (ea (P.getD (lp + 1) d4).1) ((P.getD (lp + 1) d4).2.1) ((P.getD (lp + 1) d4).2.2.1) ((P.getD (lp + 1) d4).2.2.2) h_p4 (by omega) _) k_813 k_810 k_811 k_812 k_93 (nA := 0) (by decide +kernel) ⟨Nat.le_of_ble_eq_true rfl, Nat.le_of_ble_eq_true rfl⟩ hK hP hD hS hA hZ hN h_p4 rfl rfl rfl hl.1 rfl (Nat.le_of_ble_eq_true rfl) dX3_takeRow_60 ⟨(show 0 + 0 ≤ 0 by omega), (show 0 + 0 ≤ 0 by omega)⟩) (Nat.le_refl _) (Nat.le_refl _) (fun r H locs hw hP hD hS => ?_)
      rcases hw with ⟨c_5, rfl⟩ | ⟨c_5, rfl⟩
      · have hP := hP
        refine lv_if_eq (tgt := 86) hx hb dX3_takeRow_63 (by decide) (fun hno => absurd hno (by decide)) (fun _ => ?_)
        refine lv_aload_n hx hb dX3_takeRow_66 rfl (lv_at hl 0 rfl) ?_
        refine o_get (D := D) (ci := 6) (v := .ref (ea (P.getD (lp + 1) d4).1)) (C := RX5) (T := TX5) (N := 4) hx hb hts inX5 hown hK hP h_p4 rfl 0 (by decide) (hts _ k_277) (fun _ h9 => h9) rfl dX3_takeRow_67 ?_
        obtain ⟨tx4, rf4, rt4, h_e4⟩ := h_es.ob hq_p4.1
        refine o_cis (k := 0) (n := 0) hK hP hD hS hA (o_rV (As := []) (rest := []) hf (l_empty _ _ _ _ _ _ _ _ (ea (P.getD (lp + 1) d4).1) ((EE (P.getD (lp + 1) d4).1).1) ((EE (P.getD (lp + 1) d4).1).2.1) ((EE (P.getD (lp + 1) d4).1).2.2.1) tx4 ((EE (P.getD (lp + 1) d4).1).2.2.2.2.length) ((EE (P.getD (lp + 1) d4).1).2.2.2.1) rf4 rt4 ((eRw (EE (P.getD (lp + 1) d4).1))) h_e4 _) k_817 k_814 k_815 k_816 k_90 (nA := 0) (by decide +kernel) ⟨Nat.le_of_ble_eq_true rfl, Nat.le_of_ble_eq_true rfl⟩ hK hP hD hS hA hZ hN h_e4 rfl rfl rfl hl.1 rfl (Nat.le_of_ble_eq_true rfl) dX3_takeRow_70 ⟨(show 0 + 0 ≤ 0 by omega), (show 0 + 0 ≤ 0 by omega)⟩) (Nat.le_refl _) (Nat.le_refl _) (fun r H locs hw hP hD hS => ?_)
        rcases hw with ⟨c_6, rfl⟩ | ⟨c_6, rfl⟩
        · have hP := hP
          refine lv_if_eq (tgt := 86) hx hb dX3_takeRow_73 (by decide) (fun hno => absurd hno (by decide)) (fun _ => ?_)
          refine lv_aload_n hx hb dX3_takeRow_76 rfl (lv_at hl 1 rfl) ?_
          refine lv_dup hx hb dX3_takeRow_77 rfl ?_
          refine o_get (D := D) (ci := 4) (v := .int (nI lw)) (C := RX3) (T := TX3) (N := 7) hx hb hts inX3 hown hK hP h_lf rfl 6 (by decide) (hts _ k_326) (fun _ h9 => h9) rfl dX3_takeRow_78 ?_
          refine lv_iconst (v := 1) hx hb dX3_takeRow_81 (by decide) ?_
          refine lv_iadd hx hb dX3_takeRow_82 ?_
          refine q_seti (y := nI (lw + 1)) (nI_addE (a := lw) (b := 1) (by omega)) ?_
          refine o_put (D := D) (ci := 4) (v := .int (nI (lw + 1))) (ty := .int) (C := RX3) (T := TX3) (N := 7) (fs1 := [.ref pr, .int (nI le), .int (nI p0), .int (nI b0), .int (nI (lp + 1)), .int (nI ((P.getD (lp + 1) d4).2.1)), .int (nI (lw + 1))]) hx hb hts inX3 tyX3 tyX3_ok nmX3 hown hK hP hD hS h_lf rfl 6 (by decide) (hts _ k_326) (fun _ h9 => h9) rfl (by decide +kernel) rfl rfl (Nat.le_of_ble_eq_true rfl) rfl dX3_takeRow_83 (fun g H locs h_lf hu hP hD hS => ?_)
          have h_pr := h_pr.up hu (by decide)
          have h_p2 := h_p2.up hu (by decide)
          have h_p4 := h_p4.up hu (by decide)
          have h_e4 := h_e4.up hu (by decide)
          have hfr := hfr.up hu (by decide)
          have h_pcs := h_pcs.frd hu.fr (by decide)
          have h_pc := h_pc.frd hu.fr (by decide)
          have h_es := h_es.frd hu.fr (by decide)
          refine lv_aload_n hx hb dX3_takeRow_86 rfl (lv_at hl 1 rfl) ?_
          refine lv_dup hx hb dX3_takeRow_87 rfl ?_
          refine o_get (D := D) (ci := 4) (v := .int (nI ((P.getD (lp + 1) d4).2.1))) (C := RX3) (T := TX3) (N := 7) hx hb hts inX3 hown hK hP h_lf rfl 5 (by decide) (hts _ k_325) (fun _ h9 => h9) rfl dX3_takeRow_88 ?_
          refine lv_iconst (v := 1) hx hb dX3_takeRow_91 (by decide) ?_
          refine lv_iadd hx hb dX3_takeRow_92 ?_
          refine q_seti (y := nI (((P.getD (lp + 1) d4).2.1) + 1)) (nI_addE (a := (P.getD (lp + 1) d4).2.1) (b := 1) (by omega)) ?_
          refine o_put (D := D) (ci := 4) (v := .int (nI (((P.getD (lp + 1) d4).2.1) + 1))) (ty := .int) (C := RX3) (T := TX3) (N := 7) (fs1 := [.ref pr, .int (nI le), .int (nI p0), .int (nI b0), .int (nI (lp + 1)), .int (nI (((P.getD (lp + 1) d4).2.1) + 1)), .int (nI (lw + 1))]) hx hb hts inX3 tyX3 tyX3_ok nmX3 hown hK hP hD hS h_lf rfl 5 (by decide) (hts _ k_325) (fun _ h9 => h9) rfl (by decide +kernel) rfl rfl (Nat.le_of_ble_eq_true rfl) rfl dX3_takeRow_93 (fun g H locs h_lf hu hP hD hS => ?_)
          have h_pr := h_pr.up hu (by decide)
          have h_p2 := h_p2.up hu (by decide)
          have h_p4 := h_p4.up hu (by decide)
          have h_e4 := h_e4.up hu (by decide)
          have hfr := hfr.up hu (by decide)
          have h_pcs := h_pcs.frd hu.fr (by decide)
          have h_pc := h_pc.frd hu.fr (by decide)
          have h_es := h_es.frd hu.fr (by decide)
          refine lv_aload_n hx hb dX3_takeRow_96 rfl (lv_at hl 1 rfl) ?_
          refine lv_dup hx hb dX3_takeRow_97 rfl ?_
          refine o_get (D := D) (ci := 4) (v := .int (nI (lw + 1))) (C := RX3) (T := TX3) (N := 7) hx hb hts inX3 hown hK hP h_lf rfl 6 (by decide) (hts _ k_326) (fun _ h9 => h9) rfl dX3_takeRow_98 ?_
          refine lv_iconst (v := 1) hx hb dX3_takeRow_101 (by decide) ?_
          refine lv_iadd hx hb dX3_takeRow_102 ?_
          refine q_seti (y := nI (lw + 2)) (nI_addE (a := lw + 1) (b := 1) (by omega)) ?_
          refine o_put (D := D) (ci := 4) (v := .int (nI (lw + 2))) (ty := .int) (C := RX3) (T := TX3) (N := 7) (fs1 := [.ref pr, .int (nI le), .int (nI p0), .int (nI b0), .int (nI (lp + 1)), .int (nI (((P.getD (lp + 1) d4).2.1) + 1)), .int (nI (lw + 2))]) hx hb hts inX3 tyX3 tyX3_ok nmX3 hown hK hP hD hS h_lf rfl 6 (by decide) (hts _ k_326) (fun _ h9 => h9) rfl (by decide +kernel) rfl rfl (Nat.le_of_ble_eq_true rfl) rfl dX3_takeRow_103 (fun g H locs h_lf hu hP hD hS => ?_)
          have h_pr := h_pr.up hu (by decide)
          have h_p2 := h_p2.up hu (by decide)
          have h_p4 := h_p4.up hu (by decide)
          have h_e4 := h_e4.up hu (by decide)
          have hfr := hfr.up hu (by decide)
          have h_pcs := h_pcs.frd hu.fr (by decide)
          have h_pc := h_pc.frd hu.fr (by decide)
          have h_es := h_es.frd hu.fr (by decide)
          exact o_rv hf hr hlocks hK hP hD hS (show 0 ≤ 0 by omega) (show 0 ≤ 0 by omega) ⟨hfr, by rw [pb_1 ⟨c_6.1, c_6.2, c_5⟩]; exact h_lf⟩ dX3_takeRow_106
        · have hP := hP
          refine lv_if_eq (tgt := 86) hx hb dX3_takeRow_73 (by decide) (fun _ => ?_) (fun hno => absurd hno (by decide))
          refine lv_aload_n hx hb dX3_takeRow_86 rfl (lv_at hl 1 rfl) ?_
          refine lv_dup hx hb dX3_takeRow_87 rfl ?_
          refine o_get (D := D) (ci := 4) (v := .int (nI ((P.getD (lp + 1) d4).2.1))) (C := RX3) (T := TX3) (N := 7) hx hb hts inX3 hown hK hP h_lf rfl 5 (by decide) (hts _ k_325) (fun _ h9 => h9) rfl dX3_takeRow_88 ?_
          refine lv_iconst (v := 1) hx hb dX3_takeRow_91 (by decide) ?_
          refine lv_iadd hx hb dX3_takeRow_92 ?_
          refine q_seti (y := nI (((P.getD (lp + 1) d4).2.1) + 1)) (nI_addE (a := (P.getD (lp + 1) d4).2.1) (b := 1) (by omega)) ?_
          refine o_put (D := D) (ci := 4) (v := .int (nI (((P.getD (lp + 1) d4).2.1) + 1))) (ty := .int) (C := RX3) (T := TX3) (N := 7) (fs1 := [.ref pr, .int (nI le), .int (nI p0), .int (nI b0), .int (nI (lp + 1)), .int (nI (((P.getD (lp + 1) d4).2.1) + 1)), .int (nI lw)]) hx hb hts inX3 tyX3 tyX3_ok nmX3 hown hK hP hD hS h_lf rfl 5 (by decide) (hts _ k_325) (fun _ h9 => h9) rfl (by decide +kernel) rfl rfl (Nat.le_of_ble_eq_true rfl) rfl dX3_takeRow_93 (fun g H locs h_lf hu hP hD hS => ?_)
          have h_pr := h_pr.up hu (by decide)
          have h_p2 := h_p2.up hu (by decide)
          have h_p4 := h_p4.up hu (by decide)
          have h_e4 := h_e4.up hu (by decide)
          have hfr := hfr.up hu (by decide)
          have h_pcs := h_pcs.frd hu.fr (by decide)
          have h_pc := h_pc.frd hu.fr (by decide)
          have h_es := h_es.frd hu.fr (by decide)
          refine lv_aload_n hx hb dX3_takeRow_96 rfl (lv_at hl 1 rfl) ?_
          refine lv_dup hx hb dX3_takeRow_97 rfl ?_
          refine o_get (D := D) (ci := 4) (v := .int (nI lw)) (C := RX3) (T := TX3) (N := 7) hx hb hts inX3 hown hK hP h_lf rfl 6 (by decide) (hts _ k_326) (fun _ h9 => h9) rfl dX3_takeRow_98 ?_
          refine lv_iconst (v := 1) hx hb dX3_takeRow_101 (by decide) ?_
          refine lv_iadd hx hb dX3_takeRow_102 ?_
          refine q_seti (y := nI (lw + 1)) (nI_addE (a := lw) (b := 1) (by omega)) ?_
          refine o_put (D := D) (ci := 4) (v := .int (nI (lw + 1))) (ty := .int) (C := RX3) (T := TX3) (N := 7) (fs1 := [.ref pr, .int (nI le), .int (nI p0), .int (nI b0), .int (nI (lp + 1)), .int (nI (((P.getD (lp + 1) d4).2.1) + 1)), .int (nI (lw + 1))]) hx hb hts inX3 tyX3 tyX3_ok nmX3 hown hK hP hD hS h_lf rfl 6 (by decide) (hts _ k_326) (fun _ h9 => h9) rfl (by decide +kernel) rfl rfl (Nat.le_of_ble_eq_true rfl) rfl dX3_takeRow_103 (fun g H locs h_lf hu hP hD hS => ?_)
          have h_pr := h_pr.up hu (by decide)
          have h_p2 := h_p2.up hu (by decide)
          have h_p4 := h_p4.up hu (by decide)
          have h_e4 := h_e4.up hu (by decide)
          have hfr := hfr.up hu (by decide)
          have h_pcs := h_pcs.frd hu.fr (by decide)
          have h_pc := h_pc.frd hu.fr (by decide)
          have h_es := h_es.frd hu.fr (by decide)
          exact o_rv hf hr hlocks hK hP hD hS (show 0 ≤ 0 by omega) (show 0 ≤ 0 by omega) ⟨hfr, by rw [pb_0 (fun z9 => c_6 ⟨z9.1, z9.2.1⟩)]; exact h_lf⟩ dX3_takeRow_106
      · have hP := hP
        refine lv_if_eq (tgt := 86) hx hb dX3_takeRow_63 (by decide) (fun _ => ?_) (fun hno => absurd hno (by decide))
        refine lv_aload_n hx hb dX3_takeRow_86 rfl (lv_at hl 1 rfl) ?_
        refine lv_dup hx hb dX3_takeRow_87 rfl ?_
        refine o_get (D := D) (ci := 4) (v := .int (nI ((P.getD (lp + 1) d4).2.1))) (C := RX3) (T := TX3) (N := 7) hx hb hts inX3 hown hK hP h_lf rfl 5 (by decide) (hts _ k_325) (fun _ h9 => h9) rfl dX3_takeRow_88 ?_
        refine lv_iconst (v := 1) hx hb dX3_takeRow_91 (by decide) ?_
        refine lv_iadd hx hb dX3_takeRow_92 ?_
        refine q_seti (y := nI (((P.getD (lp + 1) d4).2.1) + 1)) (nI_addE (a := (P.getD (lp + 1) d4).2.1) (b := 1) (by omega)) ?_
        refine o_put (D := D) (ci := 4) (v := .int (nI (((P.getD (lp + 1) d4).2.1) + 1))) (ty := .int) (C := RX3) (T := TX3) (N := 7) (fs1 := [.ref pr, .int (nI le), .int (nI p0), .int (nI b0), .int (nI (lp + 1)), .int (nI (((P.getD (lp + 1) d4).2.1) + 1)), .int (nI lw)]) hx hb hts inX3 tyX3 tyX3_ok nmX3 hown hK hP hD hS h_lf rfl 5 (by decide) (hts _ k_325) (fun _ h9 => h9) rfl (by decide +kernel) rfl rfl (Nat.le_of_ble_eq_true rfl) rfl dX3_takeRow_93 (fun g H locs h_lf hu hP hD hS => ?_)
        have h_pr := h_pr.up hu (by decide)
        have h_p2 := h_p2.up hu (by decide)
        have h_p4 := h_p4.up hu (by decide)
        have hfr := hfr.up hu (by decide)
        have h_pcs := h_pcs.frd hu.fr (by decide)
        have h_pc := h_pc.frd hu.fr (by decide)
        have h_es := h_es.frd hu.fr (by decide)
        refine lv_aload_n hx hb dX3_takeRow_96 rfl (lv_at hl 1 rfl) ?_
        refine lv_dup hx hb dX3_takeRow_97 rfl ?_
        refine o_get (D := D) (ci := 4) (v := .int (nI lw)) (C := RX3) (T := TX3) (N := 7) hx hb hts inX3 hown hK hP h_lf rfl 6 (by decide) (hts _ k_326) (fun _ h9 => h9) rfl dX3_takeRow_98 ?_
        refine lv_iconst (v := 1) hx hb dX3_takeRow_101 (by decide) ?_
        refine lv_iadd hx hb dX3_takeRow_102 ?_
        refine q_seti (y := nI (lw + 1)) (nI_addE (a := lw) (b := 1) (by omega)) ?_
        refine o_put (D := D) (ci := 4) (v := .int (nI (lw + 1))) (ty := .int) (C := RX3) (T := TX3) (N := 7) (fs1 := [.ref pr, .int (nI le), .int (nI p0), .int (nI b0), .int (nI (lp + 1)), .int (nI (((P.getD (lp + 1) d4).2.1) + 1)), .int (nI (lw + 1))]) hx hb hts inX3 tyX3 tyX3_ok nmX3 hown hK hP hD hS h_lf rfl 6 (by decide) (hts _ k_326) (fun _ h9 => h9) rfl (by decide +kernel) rfl rfl (Nat.le_of_ble_eq_true rfl) rfl dX3_takeRow_103 (fun g H locs h_lf hu hP hD hS => ?_)
        have h_pr := h_pr.up hu (by decide)
        have h_p2 := h_p2.up hu (by decide)
        have h_p4 := h_p4.up hu (by decide)
        have hfr := hfr.up hu (by decide)
        have h_pcs := h_pcs.frd hu.fr (by decide)
        have h_pc := h_pc.frd hu.fr (by decide)
        have h_es := h_es.frd hu.fr (by decide)
        exact o_rv hf hr hlocks hK hP hD hS (show 0 ≤ 0 by omega) (show 0 ≤ 0 by omega) ⟨hfr, by rw [pb_0 (fun z9 => c_5 z9.2.2)]; exact h_lf⟩ dX3_takeRow_106
set_option maxHeartbeats 1000000 in
set_option maxRecDepth 100000 in
theorem lf_more (l : Launch) (D : va_G) (z : Nat → Nat) (cB cI_ cO : ClassId) (L0 : List Nat) (g0 : hG) (pr pcs spr nwh cp : Nat) (pa : List Nat) (ea : Nat → Nat) (P : List Q4) (ne : Nat) (EE : Nat → E5) (lf : Nat) (le p0 b0 lp lr lw : Nat) (h_lf : ho L0 g0 lf 20 (.inr (4, [.ref pr, .int (nI le), .int (nI p0), .int (nI b0), .int (nI lp), .int (nI lr), .int (nI lw)]))) (h_pr : ho L0 g0 pr 13 (.inr (7, [.ref pcs, .ref spr, .ref nwh]))) (h_pcs : alR cO (z 0) 14 15 L0 g0 pcs cp pa) (h_pc : pcR L0 g0 ea pa P) (h_es : esR cB cI_ L0 g0 ea ne EE) (hpa : pa.length ≤ 20000) (hQ : pq_ok ne EE P) (hle : le ≤ pa.length) (hl0 : lp < le) (hlr : lr ≤ 20000) (hlw : lw ≤ 20000) : eIs l D yX3_rowsWithMore cX3_rowsWithMore 1 (some .int) 4 85 0 0 [.ref lf] z cB cI_ cO L0 g0 (fun r => ∃ w : Nat, w = pb ((EE (P.getD lp d4).1).1 = 4 ∧ 0 < lr ∧ lr < eRw (EE (P.getD lp d4).1)) ∧ r = nI (lw + w)) := by
  refine o_si (by decide) (Nat.le_of_ble_eq_true rfl) ?_
  intro p e s m below meth c A ls hf hr hlocks hin hK hP hD hS hA hZ hN hl
  obtain ⟨hx, hb, hml, hown, hts⟩ := id hf
  have hl : lv_has ls 1 [(0, .ref lf)] := hl
  refine lv_aload_n hx hb dX3_rowsWithMore_0 rfl (lv_at hl 0 rfl) ?_
  refine o_get (D := D) (ci := 4) (v := .ref pr) (C := RX3) (T := TX3) (N := 7) hx hb hts inX3 hown hK hP h_lf rfl 0 (by decide) (hts _ k_320) (fun _ h9 => h9) rfl dX3_rowsWithMore_1 ?_
  refine lv_aload_n hx hb dX3_rowsWithMore_4 rfl (lv_at hl 0 rfl) ?_
  refine o_get (D := D) (ci := 4) (v := .int (nI lp)) (C := RX3) (T := TX3) (N := 7) hx hb hts inX3 hown hK hP h_lf rfl 4 (by decide) (hts _ k_324) (fun _ h9 => h9) rfl dX3_rowsWithMore_5 ?_
  refine o_crs (k := 0) (n := 0) hK hP hD hS hA (o_rV (As := [.int (nI lp)]) (rest := []) hf (p_atI _ _ _ _ _ _ _ _ pr pcs spr nwh cp pa ea P lp h_pr h_pcs h_pc hpa (by omega) _) k_775 k_792 k_773 k_774 k_92 (nA := 1) (by decide +kernel) ⟨Nat.le_of_ble_eq_true rfl, Nat.le_of_ble_eq_true rfl⟩ hK hP hD hS hA hZ hN h_pr rfl rfl rfl hl.1 rfl (Nat.le_of_ble_eq_true rfl) dX3_rowsWithMore_8 ⟨(show 0 + 0 ≤ 0 by omega), (show 0 + 0 ≤ 0 by omega)⟩) (Nat.le_refl _) (Nat.le_refl _) (fun r H locs hw hP hD hS => ?_)
  obtain rfl := hw
  have h_p1 := h_pc.2 lp (by omega)
  have hpl_ := h_pc.1
  have hq_p1 := hQ lp (by omega)
  have hr_p1 := h_es.rb hq_p1.1
  refine o_get (D := D) (ci := 6) (v := .ref (ea (P.getD lp d4).1)) (C := RX5) (T := TX5) (N := 4) hx hb hts inX5 hown hK hP h_p1 rfl 0 (by decide) (hts _ k_277) (fun _ h9 => h9) rfl dX3_rowsWithMore_11 ?_
  obtain ⟨tx1, rf1, rt1, h_e1⟩ := h_es.ob hq_p1.1
  refine lv_aload_n hx hb dX3_rowsWithMore_14 rfl (lv_at hl 0 rfl) ?_
  refine o_get (D := D) (ci := 4) (v := .int (nI lr)) (C := RX3) (T := TX3) (N := 7) hx hb hts inX3 hown hK hP h_lf rfl 5 (by decide) (hts _ k_325) (fun _ h9 => h9) rfl dX3_rowsWithMore_15 ?_
  refine o_cis (k := 0) (n := 0) hK hP hD hS hA (o_rV (As := [.int (nI lr)]) (rest := []) hf (l_wSp _ _ _ _ _ _ _ _ (ea (P.getD lp d4).1) ((EE (P.getD lp d4).1).1) ((EE (P.getD lp d4).1).2.1) ((EE (P.getD lp d4).1).2.2.1) tx1 ((EE (P.getD lp d4).1).2.2.2.2.length) ((EE (P.getD lp d4).1).2.2.2.1) rf1 rt1 ((eRw (EE (P.getD lp d4).1))) lr h_e1 (by omega) (by omega) _) k_796 k_793 k_794 k_795 k_90 (nA := 1) (by decide +kernel) ⟨Nat.le_of_ble_eq_true rfl, Nat.le_of_ble_eq_true rfl⟩ hK hP hD hS hA hZ hN h_e1 rfl rfl rfl hl.1 rfl (Nat.le_of_ble_eq_true rfl) dX3_rowsWithMore_18 ⟨(show 0 + 0 ≤ 0 by omega), (show 0 + 0 ≤ 0 by omega)⟩) (Nat.le_refl _) (Nat.le_refl _) (fun r H locs hw hP hD hS => ?_)
  rcases hw with ⟨c_2, rfl⟩ | ⟨c_2, rfl⟩
  · have hP := hP
    refine lv_if_eq (tgt := 33) hx hb dX3_rowsWithMore_21 (by decide) (fun hno => absurd hno (by decide)) (fun _ => ?_)
    refine lv_aload_n hx hb dX3_rowsWithMore_24 rfl (lv_at hl 0 rfl) ?_
    refine o_get (D := D) (ci := 4) (v := .int (nI lw)) (C := RX3) (T := TX3) (N := 7) hx hb hts inX3 hown hK hP h_lf rfl 6 (by decide) (hts _ k_326) (fun _ h9 => h9) rfl dX3_rowsWithMore_25 ?_
    refine lv_iconst (v := 1) hx hb dX3_rowsWithMore_28 (by decide) ?_
    refine lv_iadd hx hb dX3_rowsWithMore_29 ?_
    refine q_seti (y := nI (lw + 1)) (nI_addE (a := lw) (b := 1) (by omega)) ?_
    refine lv_goto (tgt := 37) hx hb dX3_rowsWithMore_30 (by decide) ?_
    exact o_ri hf hr rfl hlocks hK hP hD hS (show 0 ≤ 0 by omega) (show 0 ≤ 0 by omega) ⟨⟨1, (pb_1 c_2).symm, rfl⟩, rfl, rfl⟩ dX3_rowsWithMore_37
  · have hP := hP
    refine lv_if_eq (tgt := 33) hx hb dX3_rowsWithMore_21 (by decide) (fun _ => ?_) (fun hno => absurd hno (by decide))
    refine lv_aload_n hx hb dX3_rowsWithMore_33 rfl (lv_at hl 0 rfl) ?_
    refine o_get (D := D) (ci := 4) (v := .int (nI lw)) (C := RX3) (T := TX3) (N := 7) hx hb hts inX3 hown hK hP h_lf rfl 6 (by decide) (hts _ k_326) (fun _ h9 => h9) rfl dX3_rowsWithMore_34 ?_
    exact o_ri hf hr rfl hlocks hK hP hD hS (show 0 ≤ 0 by omega) (show 0 ≤ 0 by omega) ⟨⟨0, (pb_0 c_2).symm, rfl⟩, rfl, rfl⟩ dX3_rowsWithMore_37
set_option maxHeartbeats 1000000 in
set_option maxRecDepth 100000 in
theorem lf_end (l : Launch) (D : va_G) (z : Nat → Nat) (cB cI_ cO : ClassId) (L0 : List Nat) (g0 : hG) (pr pcs spr nwh cp : Nat) (pa : List Nat) (ea : Nat → Nat) (P : List Q4) (ne : Nat) (EE : Nat → E5) (lf : Nat) (le p0 b0 lp lr lw : Nat) (h_lf : ho L0 g0 lf 20 (.inr (4, [.ref pr, .int (nI le), .int (nI p0), .int (nI b0), .int (nI lp), .int (nI lr), .int (nI lw)]))) (h_pr : ho L0 g0 pr 13 (.inr (7, [.ref pcs, .ref spr, .ref nwh]))) (h_pcs : alR cO (z 0) 14 15 L0 g0 pcs cp pa) (h_pc : pcR L0 g0 ea pa P) (h_es : esR cB cI_ L0 g0 ea ne EE) (hpa : pa.length ≤ 20000) (hQ : pq_ok ne EE P) (hle : le ≤ pa.length) (hl0 : lp < le) (hlr : lr ≤ 20000) (hb0 : b0 ≤ 20000) (hp0 : p0 ≤ lp) (hF : (P.getD lp d4).2.1 ≤ lr ∧ lr ≤ (P.getD lp d4).2.2.1) (hbb : p0 = lp → b0 ≤ lr ∧ (P.getD p0 d4).2.1 ≤ b0) : eIs l D yX3_mayEnd cX3_mayEnd 3 (some .boolean) 5 105 0 0 [.ref lf] z cB cI_ cO L0 g0 (fun r => (rp_me ((EE (P.getD lp d4).1).1) ((P.getD lp d4).2.2.1 - (P.getD lp d4).2.1) p0 (b0 - (P.getD p0 d4).2.1) lp (lr - (P.getD lp d4).2.1) le ∧ r = 1 ∨ ¬ rp_me ((EE (P.getD lp d4).1).1) ((P.getD lp d4).2.2.1 - (P.getD lp d4).2.1) p0 (b0 - (P.getD p0 d4).2.1) lp (lr - (P.getD lp d4).2.1) le ∧ r = 0)) := by
  refine o_si (by decide) (Nat.le_of_ble_eq_true rfl) ?_
  intro p e s m below meth c A ls hf hr hlocks hin hK hP hD hS hA hZ hN hl
  obtain ⟨hx, hb, hml, hown, hts⟩ := id hf
  have hl : lv_has ls 3 [(0, .ref lf)] := hl
  refine lv_aload_n hx hb dX3_mayEnd_0 rfl (lv_at hl 0 rfl) ?_
  refine o_cis (k := 0) (n := 0) hK hP hD hS hA (o_rV (As := []) (rest := []) hf (lf_beh _ _ _ _ _ _ _ _ pr pcs spr nwh cp pa ea P ne EE lf le p0 b0 lp lr lw h_lf h_pr h_pcs h_pc h_es hpa hQ (by omega) (by omega) (by omega) _) k_804 k_809 k_802 k_803 k_94 (nA := 0) (by decide +kernel) ⟨Nat.le_of_ble_eq_true rfl, Nat.le_of_ble_eq_true rfl⟩ hK hP hD hS hA hZ hN h_lf rfl rfl rfl hl.1 rfl (Nat.le_of_ble_eq_true rfl) dX3_mayEnd_1 ⟨(show 0 + 0 ≤ 0 by omega), (show 0 + 0 ≤ 0 by omega)⟩) (Nat.le_refl _) (Nat.le_refl _) (fun r H locs hw hP hD hS => ?_)
  rcases hw with ⟨c_1, rfl⟩ | ⟨c_1, rfl⟩
  · have hP := hP
    refine lv_if_eq (tgt := 9) hx hb dX3_mayEnd_4 (by decide) (fun hno => absurd hno (by decide)) (fun _ => ?_)
    refine lv_iconst (v := 1) hx hb dX3_mayEnd_7 (by decide) ?_
    exact o_ri hf hr rfl hlocks hK hP hD hS (show 0 ≤ 0 by omega) (show 0 ≤ 0 by omega) ⟨Or.inl ⟨Or.inl ⟨by omega, Or.inl (by omega)⟩, rfl⟩, rfl, rfl⟩ dX3_mayEnd_8
  · have hP := hP
    refine lv_if_eq (tgt := 9) hx hb dX3_mayEnd_4 (by decide) (fun _ => ?_) (fun hno => absurd hno (by decide))
    refine lv_aload_n hx hb dX3_mayEnd_9 rfl (lv_at hl 0 rfl) ?_
    refine o_get (D := D) (ci := 4) (v := .ref pr) (C := RX3) (T := TX3) (N := 7) hx hb hts inX3 hown hK hP h_lf rfl 0 (by decide) (hts _ k_320) (fun _ h9 => h9) rfl dX3_mayEnd_10 ?_
    refine lv_aload_n hx hb dX3_mayEnd_13 rfl (lv_at hl 0 rfl) ?_
    refine o_get (D := D) (ci := 4) (v := .int (nI lp)) (C := RX3) (T := TX3) (N := 7) hx hb hts inX3 hown hK hP h_lf rfl 4 (by decide) (hts _ k_324) (fun _ h9 => h9) rfl dX3_mayEnd_14 ?_
    refine o_crs (k := 0) (n := 0) hK hP hD hS hA (o_rV (As := [.int (nI lp)]) (rest := []) hf (p_atI _ _ _ _ _ _ _ _ pr pcs spr nwh cp pa ea P lp h_pr h_pcs h_pc hpa (by omega) _) k_775 k_792 k_773 k_774 k_92 (nA := 1) (by decide +kernel) ⟨Nat.le_of_ble_eq_true rfl, Nat.le_of_ble_eq_true rfl⟩ hK hP hD hS hA hZ hN h_pr rfl rfl rfl hl.1 rfl (Nat.le_of_ble_eq_true rfl) dX3_mayEnd_17 ⟨(show 0 + 0 ≤ 0 by omega), (show 0 + 0 ≤ 0 by omega)⟩) (Nat.le_refl _) (Nat.le_refl _) (fun r H locs hw hP hD hS => ?_)
    obtain rfl := hw
    have h_p2 := h_pc.2 lp (by omega)
    have hpl_ := h_pc.1
    have hq_p2 := hQ lp (by omega)
    have hr_p2 := h_es.rb hq_p2.1
    refine lv_astore_n (lv' := [(1, .ref (pa.getD lp 0)), (0, .ref lf)]) hx hb dX3_mayEnd_20 rfl hl (by decide) rfl (fun ls hl => ?_)
    refine lv_aload_n hx hb dX3_mayEnd_21 rfl (lv_at hl 1 rfl) ?_
    refine o_get (D := D) (ci := 4) (v := .int (nI lr)) (C := RX3) (T := TX3) (N := 7) hx hb hts inX3 hown hK hP h_lf rfl 5 (by decide) (hts _ k_325) (fun _ h9 => h9) rfl dX3_mayEnd_22 ?_
    refine lv_aload_n hx hb dX3_mayEnd_25 rfl (lv_at hl 0 rfl) ?_
    refine o_get (D := D) (ci := 6) (v := .int (nI ((P.getD lp d4).2.2.1))) (C := RX5) (T := TX5) (N := 4) hx hb hts inX5 hown hK hP h_p2 rfl 2 (by decide) (hts _ k_289) (fun _ h9 => h9) rfl dX3_mayEnd_26 ?_
    refine lv_icmp_lt (tgt := 40) hx hb dX3_mayEnd_29 (by decide) (fun c_3 => ?_) (fun c_3 => ?_)
    · have c_3 := q_lt (a := lr) (b := (P.getD lp d4).2.2.1) (by omega) (by omega) c_3
      refine lv_aload_n hx hb dX3_mayEnd_40 rfl (lv_at hl 1 rfl) ?_
      refine o_get (D := D) (ci := 4) (v := .int (nI lp)) (C := RX3) (T := TX3) (N := 7) hx hb hts inX3 hown hK hP h_lf rfl 4 (by decide) (hts _ k_324) (fun _ h9 => h9) rfl dX3_mayEnd_41 ?_
      refine lv_aload_n hx hb dX3_mayEnd_44 rfl (lv_at hl 1 rfl) ?_
      refine o_get (D := D) (ci := 4) (v := .int (nI p0)) (C := RX3) (T := TX3) (N := 7) hx hb hts inX3 hown hK hP h_lf rfl 2 (by decide) (hts _ k_322) (fun _ h9 => h9) rfl dX3_mayEnd_45 ?_
      refine lv_icmp_ne (tgt := 58) hx hb dX3_mayEnd_48 (by decide) (fun c_4 => ?_) (fun c_4 => ?_)
      · have c_4 := q_nen (a := lp) (b := p0) (by omega) (by omega) c_4
        refine lv_aload_n hx hb dX3_mayEnd_58 rfl (lv_at hl 0 rfl) ?_
        refine o_get (D := D) (ci := 6) (v := .int (nI ((P.getD lp d4).2.1))) (C := RX5) (T := TX5) (N := 4) hx hb hts inX5 hown hK hP h_p2 rfl 1 (by decide) (hts _ k_285) (fun _ h9 => h9) rfl dX3_mayEnd_59 ?_
        refine lv_istore_n (lv' := [(2, .int (nI ((P.getD lp d4).2.1))), (1, .ref (pa.getD lp 0)), (0, .ref lf)]) hx hb dX3_mayEnd_62 rfl hl (by decide) rfl (fun ls hl => ?_)
        refine lv_aload_n hx hb dX3_mayEnd_63 rfl (lv_at hl 1 rfl) ?_
        refine o_get (D := D) (ci := 6) (v := .ref (ea (P.getD lp d4).1)) (C := RX5) (T := TX5) (N := 4) hx hb hts inX5 hown hK hP h_p2 rfl 0 (by decide) (hts _ k_277) (fun _ h9 => h9) rfl dX3_mayEnd_64 ?_
        obtain ⟨tx2, rf2, rt2, h_e2⟩ := h_es.ob hq_p2.1
        refine o_cis (k := 0) (n := 0) hK hP hD hS hA (o_rV (As := []) (rest := []) hf (l_mayBr _ _ _ _ _ _ _ _ (ea (P.getD lp d4).1) ((EE (P.getD lp d4).1).1) ((EE (P.getD lp d4).1).2.1) ((EE (P.getD lp d4).1).2.2.1) tx2 ((EE (P.getD lp d4).1).2.2.2.2.length) ((EE (P.getD lp d4).1).2.2.2.1) rf2 rt2 ((eRw (EE (P.getD lp d4).1))) h_e2 _) k_833 k_830 k_831 k_832 k_90 (nA := 0) (by decide +kernel) ⟨Nat.le_of_ble_eq_true rfl, Nat.le_of_ble_eq_true rfl⟩ hK hP hD hS hA hZ hN h_e2 rfl rfl rfl hl.1 rfl (Nat.le_of_ble_eq_true rfl) dX3_mayEnd_67 ⟨(show 0 + 0 ≤ 0 by omega), (show 0 + 0 ≤ 0 by omega)⟩) (Nat.le_refl _) (Nat.le_refl _) (fun r H locs hw hP hD hS => ?_)
        rcases hw with ⟨c_5, rfl⟩ | ⟨c_5, rfl⟩
        · have hP := hP
          refine lv_if_eq (tgt := 100) hx hb dX3_mayEnd_70 (by decide) (fun hno => absurd hno (by decide)) (fun _ => ?_)
          refine lv_aload_n hx hb dX3_mayEnd_73 rfl (lv_at hl 2 rfl) ?_
          refine o_get (D := D) (ci := 4) (v := .int (nI lr)) (C := RX3) (T := TX3) (N := 7) hx hb hts inX3 hown hK hP h_lf rfl 5 (by decide) (hts _ k_325) (fun _ h9 => h9) rfl dX3_mayEnd_74 ?_
          refine lv_iload_n hx hb dX3_mayEnd_77 rfl (lv_at hl 0 rfl) ?_
          refine lv_isub hx hb dX3_mayEnd_78 ?_
          refine q_seti (y := nI (lr - ((P.getD lp d4).2.1))) (nI_subE (a := lr) (b := (P.getD lp d4).2.1) (by omega) (by omega)) ?_
          refine lv_iconst (v := 2) hx hb dX3_mayEnd_79 (by decide) ?_
          refine lv_icmp_lt (tgt := 100) hx hb dX3_mayEnd_80 (by decide) (fun c_6 => ?_) (fun c_6 => ?_)
          · have c_6 := q_lt (a := lr - ((P.getD lp d4).2.1)) (b := 2) (by omega) (by omega) c_6
            refine lv_iconst (v := 0) hx hb dX3_mayEnd_100 (by decide) ?_
            exact o_ri hf hr rfl hlocks hK hP hD hS (show 0 ≤ 0 by omega) (show 0 ≤ 0 by omega) ⟨Or.inr ⟨fun z9 => Or.elim z9 (fun y9 => absurd y9.1 (by omega)) (fun y9 => by have y8 := y9.2.2; omega), rfl⟩, rfl, rfl⟩ dX3_mayEnd_101
          · have c_6 := q_nlt (a := lr - ((P.getD lp d4).2.1)) (b := 2) (by omega) (by omega) c_6
            refine lv_aload_n hx hb dX3_mayEnd_83 rfl (lv_at hl 1 rfl) ?_
            refine o_get (D := D) (ci := 6) (v := .int (nI ((P.getD lp d4).2.2.1))) (C := RX5) (T := TX5) (N := 4) hx hb hts inX5 hown hK hP h_p2 rfl 2 (by decide) (hts _ k_289) (fun _ h9 => h9) rfl dX3_mayEnd_84 ?_
            refine lv_aload_n hx hb dX3_mayEnd_87 rfl (lv_at hl 2 rfl) ?_
            refine o_get (D := D) (ci := 4) (v := .int (nI lr)) (C := RX3) (T := TX3) (N := 7) hx hb hts inX3 hown hK hP h_lf rfl 5 (by decide) (hts _ k_325) (fun _ h9 => h9) rfl dX3_mayEnd_88 ?_
            refine lv_isub hx hb dX3_mayEnd_91 ?_
            refine q_seti (y := nI (((P.getD lp d4).2.2.1) - lr)) (nI_subE (a := (P.getD lp d4).2.2.1) (b := lr) (by omega) (by omega)) ?_
            refine lv_iconst (v := 2) hx hb dX3_mayEnd_92 (by decide) ?_
            refine lv_icmp_lt (tgt := 100) hx hb dX3_mayEnd_93 (by decide) (fun c_7 => ?_) (fun c_7 => ?_)
            · have c_7 := q_lt (a := ((P.getD lp d4).2.2.1) - lr) (b := 2) (by omega) (by omega) c_7
              refine lv_iconst (v := 0) hx hb dX3_mayEnd_100 (by decide) ?_
              exact o_ri hf hr rfl hlocks hK hP hD hS (show 0 ≤ 0 by omega) (show 0 ≤ 0 by omega) ⟨Or.inr ⟨fun z9 => Or.elim z9 (fun y9 => absurd y9.1 (by omega)) (fun y9 => by have y8 := y9.2.2; omega), rfl⟩, rfl, rfl⟩ dX3_mayEnd_101
            · have c_7 := q_nlt (a := ((P.getD lp d4).2.2.1) - lr) (b := 2) (by omega) (by omega) c_7
              refine lv_iconst (v := 1) hx hb dX3_mayEnd_96 (by decide) ?_
              refine lv_goto (tgt := 101) hx hb dX3_mayEnd_97 (by decide) ?_
              exact o_ri hf hr rfl hlocks hK hP hD hS (show 0 ≤ 0 by omega) (show 0 ≤ 0 by omega) ⟨Or.inl ⟨Or.inr ⟨by omega, c_5.symm, Or.inr ⟨by omega, by omega⟩, by omega⟩, rfl⟩, rfl, rfl⟩ dX3_mayEnd_101
        · have hP := hP
          refine lv_if_eq (tgt := 100) hx hb dX3_mayEnd_70 (by decide) (fun _ => ?_) (fun hno => absurd hno (by decide))
          refine lv_iconst (v := 0) hx hb dX3_mayEnd_100 (by decide) ?_
          exact o_ri hf hr rfl hlocks hK hP hD hS (show 0 ≤ 0 by omega) (show 0 ≤ 0 by omega) ⟨Or.inr ⟨fun z9 => Or.elim z9 (fun y9 => absurd y9.1 (by omega)) (fun y9 => c_5 y9.2.1.symm), rfl⟩, rfl, rfl⟩ dX3_mayEnd_101
      · have c_4 := q_eqn (a := lp) (b := p0) (by omega) (by omega) c_4
        have hfq : (P.getD p0 d4).2.1 = (P.getD lp d4).2.1 := by rw [c_4]
        refine lv_aload_n hx hb dX3_mayEnd_51 rfl (lv_at hl 1 rfl) ?_
        refine o_get (D := D) (ci := 4) (v := .int (nI b0)) (C := RX3) (T := TX3) (N := 7) hx hb hts inX3 hown hK hP h_lf rfl 3 (by decide) (hts _ k_323) (fun _ h9 => h9) rfl dX3_mayEnd_52 ?_
        refine lv_goto (tgt := 62) hx hb dX3_mayEnd_55 (by decide) ?_
        refine lv_istore_n (lv' := [(2, .int (nI b0)), (1, .ref (pa.getD lp 0)), (0, .ref lf)]) hx hb dX3_mayEnd_62 rfl hl (by decide) rfl (fun ls hl => ?_)
        refine lv_aload_n hx hb dX3_mayEnd_63 rfl (lv_at hl 1 rfl) ?_
        refine o_get (D := D) (ci := 6) (v := .ref (ea (P.getD lp d4).1)) (C := RX5) (T := TX5) (N := 4) hx hb hts inX5 hown hK hP h_p2 rfl 0 (by decide) (hts _ k_277) (fun _ h9 => h9) rfl dX3_mayEnd_64 ?_
        obtain ⟨tx2, rf2, rt2, h_e2⟩ := h_es.ob hq_p2.1
        refine o_cis (k := 0) (n := 0) hK hP hD hS hA (o_rV (As := []) (rest := []) hf (l_mayBr _ _ _ _ _ _ _ _ (ea (P.getD lp d4).1) ((EE (P.getD lp d4).1).1) ((EE (P.getD lp d4).1).2.1) ((EE (P.getD lp d4).1).2.2.1) tx2 ((EE (P.getD lp d4).1).2.2.2.2.length) ((EE (P.getD lp d4).1).2.2.2.1) rf2 rt2 ((eRw (EE (P.getD lp d4).1))) h_e2 _) k_833 k_830 k_831 k_832 k_90 (nA := 0) (by decide +kernel) ⟨Nat.le_of_ble_eq_true rfl, Nat.le_of_ble_eq_true rfl⟩ hK hP hD hS hA hZ hN h_e2 rfl rfl rfl hl.1 rfl (Nat.le_of_ble_eq_true rfl) dX3_mayEnd_67 ⟨(show 0 + 0 ≤ 0 by omega), (show 0 + 0 ≤ 0 by omega)⟩) (Nat.le_refl _) (Nat.le_refl _) (fun r H locs hw hP hD hS => ?_)
        rcases hw with ⟨c_8, rfl⟩ | ⟨c_8, rfl⟩
        · have hP := hP
          refine lv_if_eq (tgt := 100) hx hb dX3_mayEnd_70 (by decide) (fun hno => absurd hno (by decide)) (fun _ => ?_)
          refine lv_aload_n hx hb dX3_mayEnd_73 rfl (lv_at hl 2 rfl) ?_
          refine o_get (D := D) (ci := 4) (v := .int (nI lr)) (C := RX3) (T := TX3) (N := 7) hx hb hts inX3 hown hK hP h_lf rfl 5 (by decide) (hts _ k_325) (fun _ h9 => h9) rfl dX3_mayEnd_74 ?_
          refine lv_iload_n hx hb dX3_mayEnd_77 rfl (lv_at hl 0 rfl) ?_
          refine lv_isub hx hb dX3_mayEnd_78 ?_
          refine q_seti (y := nI (lr - b0)) (nI_subE (a := lr) (b := b0) (by omega) (by omega)) ?_
          refine lv_iconst (v := 2) hx hb dX3_mayEnd_79 (by decide) ?_
          refine lv_icmp_lt (tgt := 100) hx hb dX3_mayEnd_80 (by decide) (fun c_9 => ?_) (fun c_9 => ?_)
          · have c_9 := q_lt (a := lr - b0) (b := 2) (by omega) (by omega) c_9
            refine lv_iconst (v := 0) hx hb dX3_mayEnd_100 (by decide) ?_
            exact o_ri hf hr rfl hlocks hK hP hD hS (show 0 ≤ 0 by omega) (show 0 ≤ 0 by omega) ⟨Or.inr ⟨fun z9 => Or.elim z9 (fun y9 => absurd y9.1 (by omega)) (fun y9 => by have y8 := y9.2.2; omega), rfl⟩, rfl, rfl⟩ dX3_mayEnd_101
          · have c_9 := q_nlt (a := lr - b0) (b := 2) (by omega) (by omega) c_9
            refine lv_aload_n hx hb dX3_mayEnd_83 rfl (lv_at hl 1 rfl) ?_
            refine o_get (D := D) (ci := 6) (v := .int (nI ((P.getD lp d4).2.2.1))) (C := RX5) (T := TX5) (N := 4) hx hb hts inX5 hown hK hP h_p2 rfl 2 (by decide) (hts _ k_289) (fun _ h9 => h9) rfl dX3_mayEnd_84 ?_
            refine lv_aload_n hx hb dX3_mayEnd_87 rfl (lv_at hl 2 rfl) ?_
            refine o_get (D := D) (ci := 4) (v := .int (nI lr)) (C := RX3) (T := TX3) (N := 7) hx hb hts inX3 hown hK hP h_lf rfl 5 (by decide) (hts _ k_325) (fun _ h9 => h9) rfl dX3_mayEnd_88 ?_
            refine lv_isub hx hb dX3_mayEnd_91 ?_
            refine q_seti (y := nI (((P.getD lp d4).2.2.1) - lr)) (nI_subE (a := (P.getD lp d4).2.2.1) (b := lr) (by omega) (by omega)) ?_
            refine lv_iconst (v := 2) hx hb dX3_mayEnd_92 (by decide) ?_
            refine lv_icmp_lt (tgt := 100) hx hb dX3_mayEnd_93 (by decide) (fun c_10 => ?_) (fun c_10 => ?_)
            · have c_10 := q_lt (a := ((P.getD lp d4).2.2.1) - lr) (b := 2) (by omega) (by omega) c_10
              refine lv_iconst (v := 0) hx hb dX3_mayEnd_100 (by decide) ?_
              exact o_ri hf hr rfl hlocks hK hP hD hS (show 0 ≤ 0 by omega) (show 0 ≤ 0 by omega) ⟨Or.inr ⟨fun z9 => Or.elim z9 (fun y9 => absurd y9.1 (by omega)) (fun y9 => by have y8 := y9.2.2; omega), rfl⟩, rfl, rfl⟩ dX3_mayEnd_101
            · have c_10 := q_nlt (a := ((P.getD lp d4).2.2.1) - lr) (b := 2) (by omega) (by omega) c_10
              refine lv_iconst (v := 1) hx hb dX3_mayEnd_96 (by decide) ?_
              refine lv_goto (tgt := 101) hx hb dX3_mayEnd_97 (by decide) ?_
              exact o_ri hf hr rfl hlocks hK hP hD hS (show 0 ≤ 0 by omega) (show 0 ≤ 0 by omega) ⟨Or.inl ⟨Or.inr ⟨by omega, c_8.symm, Or.inl ⟨by omega, by omega⟩, by omega⟩, rfl⟩, rfl, rfl⟩ dX3_mayEnd_101
        · have hP := hP
          refine lv_if_eq (tgt := 100) hx hb dX3_mayEnd_70 (by decide) (fun _ => ?_) (fun hno => absurd hno (by decide))
          refine lv_iconst (v := 0) hx hb dX3_mayEnd_100 (by decide) ?_
          exact o_ri hf hr rfl hlocks hK hP hD hS (show 0 ≤ 0 by omega) (show 0 ≤ 0 by omega) ⟨Or.inr ⟨fun z9 => Or.elim z9 (fun y9 => absurd y9.1 (by omega)) (fun y9 => c_8 y9.2.1.symm), rfl⟩, rfl, rfl⟩ dX3_mayEnd_101
    · have c_3 := q_nlt (a := lr) (b := (P.getD lp d4).2.2.1) (by omega) (by omega) c_3
      refine lv_aload_n hx hb dX3_mayEnd_32 rfl (lv_at hl 0 rfl) ?_
      refine o_get (D := D) (ci := 6) (v := .ref (ea (P.getD lp d4).1)) (C := RX5) (T := TX5) (N := 4) hx hb hts inX5 hown hK hP h_p2 rfl 0 (by decide) (hts _ k_277) (fun _ h9 => h9) rfl dX3_mayEnd_33 ?_
      obtain ⟨tx2, rf2, rt2, h_e2⟩ := h_es.ob hq_p2.1
      refine o_cis (k := 0) (n := 0) hK hP hD hS hA (o_rV (As := []) (rest := []) hf (l_mayEnd _ _ _ _ _ _ _ _ (ea (P.getD lp d4).1) ((EE (P.getD lp d4).1).1) ((EE (P.getD lp d4).1).2.1) ((EE (P.getD lp d4).1).2.2.1) tx2 ((EE (P.getD lp d4).1).2.2.2.2.length) ((EE (P.getD lp d4).1).2.2.2.1) rf2 rt2 ((eRw (EE (P.getD lp d4).1))) h_e2 _) k_829 k_826 k_827 k_828 k_90 (nA := 0) (by decide +kernel) ⟨Nat.le_of_ble_eq_true rfl, Nat.le_of_ble_eq_true rfl⟩ hK hP hD hS hA hZ hN h_e2 rfl rfl rfl hl.1 rfl (Nat.le_of_ble_eq_true rfl) dX3_mayEnd_36 ⟨(show 0 + 0 ≤ 0 by omega), (show 0 + 0 ≤ 0 by omega)⟩) (Nat.le_refl _) (Nat.le_refl _) (fun r H locs hw hP hD hS => ?_)
      rcases hw with ⟨c_11, rfl⟩ | ⟨c_11, rfl⟩
      · have hP := hP
        exact o_ri hf hr rfl hlocks hK hP hD hS (show 0 ≤ 0 by omega) (show 0 ≤ 0 by omega) ⟨Or.inl ⟨Or.inl ⟨by omega, Or.inr c_11⟩, rfl⟩, rfl, rfl⟩ dX3_mayEnd_39
      · have hP := hP
        exact o_ri hf hr rfl hlocks hK hP hD hS (show 0 ≤ 0 by omega) (show 0 ≤ 0 by omega) ⟨Or.inr ⟨fun z9 => Or.elim z9 (fun y9 => y9.2.elim (fun x9 => absurd x9 (by omega)) c_11) (fun y9 => absurd y9.1 (by omega)), rfl⟩, rfl, rfl⟩ dX3_mayEnd_39
set_option maxHeartbeats 1000000 in
set_option maxRecDepth 100000 in
theorem lf_bcost (l : Launch) (D : va_G) (z : Nat → Nat) (cB cI_ cO : ClassId) (L0 : List Nat) (g0 : hG) (pr pcs spr nwh cp : Nat) (pa : List Nat) (ea : Nat → Nat) (P : List Q4) (ne : Nat) (EE : Nat → E5) (lf : Nat) (le p0 b0 lp lr lw : Nat) (h_lf : ho L0 g0 lf 20 (.inr (4, [.ref pr, .int (nI le), .int (nI p0), .int (nI b0), .int (nI lp), .int (nI lr), .int (nI lw)]))) (h_pr : ho L0 g0 pr 13 (.inr (7, [.ref pcs, .ref spr, .ref nwh]))) (h_pcs : alR cO (z 0) 14 15 L0 g0 pcs cp pa) (h_pc : pcR L0 g0 ea pa P) (h_es : esR cB cI_ L0 g0 ea ne EE) (hpa : pa.length ≤ 20000) (hQ : pq_ok ne EE P) (hle : le ≤ pa.length) (hl0 : lp < le) (hlr : lr ≤ 20000) (h0 : 0 < lr) : eIs l D yX3_breakCost cX3_breakCost 2 (some .int) 4 85 0 0 [.ref lf] z cB cI_ cO L0 g0 (fun r => ∃ w : Nat, w = pif (lr < eRw (EE (P.getD lp d4).1)) (pif ((EE (P.getD lp d4).1).1 = 4) 30 10) 0 ∧ r = nI w) := by
  refine o_si (by decide) (Nat.le_of_ble_eq_true rfl) ?_
  intro p e s m below meth c A ls hf hr hlocks hin hK hP hD hS hA hZ hN hl
  obtain ⟨hx, hb, hml, hown, hts⟩ := id hf
  have hl : lv_has ls 2 [(0, .ref lf)] := hl
  refine lv_aload_n hx hb dX3_breakCost_0 rfl (lv_at hl 0 rfl) ?_
  refine o_get (D := D) (ci := 4) (v := .ref pr) (C := RX3) (T := TX3) (N := 7) hx hb hts inX3 hown hK hP h_lf rfl 0 (by decide) (hts _ k_320) (fun _ h9 => h9) rfl dX3_breakCost_1 ?_
  refine lv_aload_n hx hb dX3_breakCost_4 rfl (lv_at hl 0 rfl) ?_
  refine o_get (D := D) (ci := 4) (v := .int (nI lp)) (C := RX3) (T := TX3) (N := 7) hx hb hts inX3 hown hK hP h_lf rfl 4 (by decide) (hts _ k_324) (fun _ h9 => h9) rfl dX3_breakCost_5 ?_
  refine o_crs (k := 0) (n := 0) hK hP hD hS hA (o_rV (As := [.int (nI lp)]) (rest := []) hf (p_atI _ _ _ _ _ _ _ _ pr pcs spr nwh cp pa ea P lp h_pr h_pcs h_pc hpa (by omega) _) k_775 k_792 k_773 k_774 k_92 (nA := 1) (by decide +kernel) ⟨Nat.le_of_ble_eq_true rfl, Nat.le_of_ble_eq_true rfl⟩ hK hP hD hS hA hZ hN h_pr rfl rfl rfl hl.1 rfl (Nat.le_of_ble_eq_true rfl) dX3_breakCost_8 ⟨(show 0 + 0 ≤ 0 by omega), (show 0 + 0 ≤ 0 by omega)⟩) (Nat.le_refl _) (Nat.le_refl _) (fun r H locs hw hP hD hS => ?_)
  obtain rfl := hw
  have h_p1 := h_pc.2 lp (by omega)
  have hpl_ := h_pc.1
  have hq_p1 := hQ lp (by omega)
  have hr_p1 := h_es.rb hq_p1.1
  refine o_get (D := D) (ci := 6) (v := .ref (ea (P.getD lp d4).1)) (C := RX5) (T := TX5) (N := 4) hx hb hts inX5 hown hK hP h_p1 rfl 0 (by decide) (hts _ k_277) (fun _ h9 => h9) rfl dX3_breakCost_11 ?_
  obtain ⟨tx1, rf1, rt1, h_e1⟩ := h_es.ob hq_p1.1
  refine lv_astore_n (lv' := [(1, .ref (ea (P.getD lp d4).1)), (0, .ref lf)]) hx hb dX3_breakCost_14 rfl hl (by decide) rfl (fun ls hl => ?_)
  refine lv_aload_n hx hb dX3_breakCost_15 rfl (lv_at hl 0 rfl) ?_
  refine lv_aload_n hx hb dX3_breakCost_16 rfl (lv_at hl 1 rfl) ?_
  refine o_get (D := D) (ci := 4) (v := .int (nI lr)) (C := RX3) (T := TX3) (N := 7) hx hb hts inX3 hown hK hP h_lf rfl 5 (by decide) (hts _ k_325) (fun _ h9 => h9) rfl dX3_breakCost_17 ?_
  refine o_cis (k := 0) (n := 0) hK hP hD hS hA (o_rV (As := [.int (nI lr)]) (rest := []) hf (l_within _ _ _ _ _ _ _ _ (ea (P.getD lp d4).1) ((EE (P.getD lp d4).1).1) ((EE (P.getD lp d4).1).2.1) ((EE (P.getD lp d4).1).2.2.1) tx1 ((EE (P.getD lp d4).1).2.2.2.2.length) ((EE (P.getD lp d4).1).2.2.2.1) rf1 rt1 ((eRw (EE (P.getD lp d4).1))) lr h_e1 (by omega) (by omega) _) k_800 k_850 k_798 k_799 k_90 (nA := 1) (by decide +kernel) ⟨Nat.le_of_ble_eq_true rfl, Nat.le_of_ble_eq_true rfl⟩ hK hP hD hS hA hZ hN h_e1 rfl rfl rfl hl.1 rfl (Nat.le_of_ble_eq_true rfl) dX3_breakCost_20 ⟨(show 0 + 0 ≤ 0 by omega), (show 0 + 0 ≤ 0 by omega)⟩) (Nat.le_refl _) (Nat.le_refl _) (fun r H locs hw hP hD hS => ?_)
  rcases hw with ⟨c_2, rfl⟩ | ⟨c_2, rfl⟩
  · have hP := hP
    refine lv_if_ne (tgt := 28) hx hb dX3_breakCost_23 (by decide) (fun _ => ?_) (fun hno => absurd hno (by decide))
    refine lv_aload_n hx hb dX3_breakCost_28 rfl (lv_at hl 0 rfl) ?_
    refine o_get (D := D) (ci := 2) (v := .int ((EE (P.getD lp d4).1).1)) (C := RX1) (T := TX1) (N := 9) hx hb hts inX1 hown hK hP h_e1 rfl 0 (by decide) (hts _ k_229) (fun _ h9 => h9) rfl dX3_breakCost_29 ?_
    refine lv_iconst (v := 4) hx hb dX3_breakCost_32 (by decide) ?_
    refine lv_icmp_ne (tgt := 41) hx hb dX3_breakCost_33 (by decide) (fun c_3 => ?_) (fun c_3 => ?_)
    · refine lv_bipush (v := 10) hx hb dX3_breakCost_41 (by decide) ?_
      exact o_ri hf hr rfl hlocks hK hP hD hS (show 0 ≤ 0 by omega) (show 0 ≤ 0 by omega) ⟨⟨10, by rw [pif_p c_2.2, pif_n c_3], rfl⟩, rfl, rfl⟩ dX3_breakCost_43
    · refine lv_bipush (v := 30) hx hb dX3_breakCost_36 (by decide) ?_
      refine lv_goto (tgt := 43) hx hb dX3_breakCost_38 (by decide) ?_
      exact o_ri hf hr rfl hlocks hK hP hD hS (show 0 ≤ 0 by omega) (show 0 ≤ 0 by omega) ⟨⟨30, by rw [pif_p c_2.2, pif_p c_3], rfl⟩, rfl, rfl⟩ dX3_breakCost_43
  · have hP := hP
    refine lv_if_ne (tgt := 28) hx hb dX3_breakCost_23 (by decide) (fun hno => absurd hno (by decide)) (fun _ => ?_)
    refine lv_iconst (v := 0) hx hb dX3_breakCost_26 (by decide) ?_
    exact o_ri hf hr rfl hlocks hK hP hD hS (show 0 ≤ 0 by omega) (show 0 ≤ 0 by omega) ⟨⟨0, (pif_n (fun z9 => c_2 ⟨h0, z9⟩)).symm, rfl⟩, rfl, rfl⟩ dX3_breakCost_27
