/-- the end of the line that begins at i -/
def tx_el2 (T : Nat → Int32) (n i : Nat) : Nat := if i < n then tx_eol T (n - i) i else n
theorem tx_el2_in {T : Nat → Int32} {n i : Nat} (h : i < n) : tx_el2 T n i = tx_eol T (n - i) i := if_pos h
theorem tx_el2_out {T : Nat → Int32} {n i : Nat} (h : ¬ i < n) : tx_el2 T n i = n := if_neg h
theorem tx_el2_le (T : Nat → Int32) (n i : Nat) : tx_el2 T n i ≤ n := by
  by_cases h : i < n
  · rw [tx_el2_in h]; have := tx_eol_le T (n - i) i; omega
  · rw [tx_el2_out h]; exact Nat.le_refl _
/-- nothing but blanks from i on, k bytes -/
def tx_ab (T : Nat → Int32) (k i : Nat) : Prop := tx_sk T k i = i + k
theorem tx_ab_0 (T : Nat → Int32) (i : Nat) : tx_ab T 0 i := rfl
theorem tx_ab_s {T : Nat → Int32} {k i : Nat} (h : T i = 32) : tx_ab T (k + 1) i ↔ tx_ab T k (i + 1) := by
  unfold tx_ab
  rw [show tx_sk T (k + 1) i = tx_sk T k (i + 1) from if_pos h]
  omega
theorem tx_ab_n {T : Nat → Int32} {k i : Nat} (h : ¬ T i = 32) : ¬ tx_ab T (k + 1) i := by
  unfold tx_ab
  rw [show tx_sk T (k + 1) i = i from if_neg h]
  omega
/-- the line that begins at i is free, or there is none -/
def tx_fb (T : Nat → Int32) (n i : Nat) : Prop := tx_ab T (tx_el2 T n i - i) i
/-- the kind of the line from fm to to_; ka: the kind ahead (-1: free), fb: free behind -/
noncomputable def tx_kc (T : Nat → Int32) (fm to_ : Nat) (ka : Int32) (fb : Prop) : Int32 := if fm < to_ then tx_kd T fm to_ (ka = -1) fb ka else -1
theorem tx_sp {ka : Int32} (h : ka = 2 ∨ ka = 3 ∨ ka = 4) : ¬ ka = -1 ∧ ¬ ka < 2 ∧ ¬ 4 < ka := by
  rcases h with rfl | rfl | rfl <;> decide
theorem tx_nsp {ka : Int32} (h2 : ¬ ka = 2) (h3 : ¬ ka = 3) (h4 : ¬ ka = 4) : ¬ (¬ ka = -1 ∧ ¬ ka < 2 ∧ ¬ 4 < ka) := by
  rintro ⟨-, h5, h6⟩
  rw [Int32.lt_iff_toInt_lt] at h5 h6
  have e2 : (2 : Int32).toInt = 2 := by decide
  have e4 : (4 : Int32).toInt = 4 := by decide
  rw [e2] at h5
  rw [e4] at h6
  have h7 : ka.toInt = 2 ∨ ka.toInt = 3 ∨ ka.toInt = 4 := by omega
  rcases h7 with h7 | h7 | h7
  · exact h2 (Int32.toInt_inj.mp h7)
  · exact h3 (Int32.toInt_inj.mp h7)
  · exact h4 (Int32.toInt_inj.mp h7)
abbrev cX4_beginsLikeHead : ByteArray := prog_6_method_11_code
def yX4_beginsLikeHead : MethodName := ⟨RX4, "beginsLikeHead", "()Z"⟩
abbrev cX4_endOfLine : ByteArray := prog_6_method_8_code
def yX4_endOfLine : MethodName := ⟨RX4, "endOfLine", "(I)I"⟩
abbrev cX4_isBig : ByteArray := prog_6_method_10_code
def yX4_isBig : MethodName := ⟨RX4, "isBig", "()Z"⟩
abbrev cX4_isFreeBehind : ByteArray := prog_6_method_13_code
def yX4_isFreeBehind : MethodName := ⟨RX4, "isFreeBehind", "()Z"⟩
abbrev cX4_joinsLineAhead : ByteArray := prog_6_method_7_code
def yX4_joinsLineAhead : MethodName := ⟨RX4, "joinsLineAhead", "()Z"⟩
abbrev cX4_kindOfLine : ByteArray := prog_6_method_9_code
def yX4_kindOfLine : MethodName := ⟨RX4, "kindOfLine", "()I"⟩
abbrev cX4_lineBeginsWith : ByteArray := prog_6_method_12_code
def yX4_lineBeginsWith : MethodName := ⟨RX4, "lineBeginsWith", "(Ljava/lang/String;)Z"⟩
abbrev cX4_rewind : ByteArray := prog_6_method_5_code
def yX4_rewind : MethodName := ⟨RX4, "rewind", "()V"⟩
theorem k_8 : (Cond.selects RX4 yX4_endOfLine yX4_endOfLine) ∈ gT := gT_i 8 (by decide +kernel) rfl
theorem k_10 : (Cond.selects RX4 yX4_isBig yX4_isBig) ∈ gT := gT_i 10 (by decide +kernel) rfl
theorem k_11 : (Cond.selects RX4 yX4_beginsLikeHead yX4_beginsLikeHead) ∈ gT := gT_i 11 (by decide +kernel) rfl
theorem k_12 : (Cond.selects RX4 yX4_lineBeginsWith yX4_lineBeginsWith) ∈ gT := gT_i 12 (by decide +kernel) rfl
theorem k_13 : (Cond.selects RX4 yX4_isFreeBehind yX4_isFreeBehind) ∈ gT := gT_i 13 (by decide +kernel) rfl
theorem k_86 : (Cond.initialized RX4) ∈ gT := gT_i 86 (by decide +kernel) rfl
theorem k_135 : (Cond.fieldLink RX4 9 "ScriptDesk$LineReader" "tape" "LScriptDesk$Tape;") ∈ gT := gT_i 135 (by decide +kernel) rfl
theorem k_136 : (Cond.fieldLink RX4 20 "ScriptDesk$LineReader" "next" "I") ∈ gT := gT_i 136 (by decide +kernel) rfl
theorem k_137 : (Cond.fieldLink RX4 42 "ScriptDesk$LineReader" "from" "I") ∈ gT := gT_i 137 (by decide +kernel) rfl
theorem k_138 : (Cond.fieldLink RX4 45 "ScriptDesk$LineReader" "to" "I") ∈ gT := gT_i 138 (by decide +kernel) rfl
theorem k_139 : (Cond.fieldLink RX4 31 "ScriptDesk$LineReader" "kind" "I") ∈ gT := gT_i 139 (by decide +kernel) rfl
theorem k_140 : (Cond.fieldLink RX4 62 "ScriptDesk$LineReader" "kindAhead" "I") ∈ gT := gT_i 140 (by decide +kernel) rfl
theorem k_479 : (Cond.instanceMethod yX8_used) ∈ gT := gT_i 479 (by decide +kernel) rfl
theorem k_480 : (Cond.selects RX8 yX8_used yX8_used) ∈ gT := gT_i 480 (by decide +kernel) rfl
theorem k_481 : (Cond.code yX8_used cX8_used 1 (some .int)) ∈ gT := gT_i 481 (by decide +kernel) rfl
theorem k_502 : (Cond.methodLink RX4 24 yX8_used) ∈ gT := gT_i 502 (by decide +kernel) rfl
theorem k_507 : (Cond.methodLink RX4 65 yX4_endOfLine) ∈ gT := gT_i 507 (by decide +kernel) rfl
theorem k_509 : (Cond.instanceMethod yX4_endOfLine) ∈ gT := gT_i 509 (by decide +kernel) rfl
theorem k_510 : (Cond.code yX4_endOfLine cX4_endOfLine 3 (some .int)) ∈ gT := gT_i 510 (by decide +kernel) rfl
theorem k_511 : (Cond.methodLink RX4 76 yX8_at) ∈ gT := gT_i 511 (by decide +kernel) rfl
theorem k_512 : (Cond.methodLink RX4 69 yX8_isBlank) ∈ gT := gT_i 512 (by decide +kernel) rfl
theorem k_513 : (Cond.instanceMethod yX8_isBlank) ∈ gT := gT_i 513 (by decide +kernel) rfl
theorem k_514 : (Cond.selects RX8 yX8_isBlank yX8_isBlank) ∈ gT := gT_i 514 (by decide +kernel) rfl
theorem k_515 : (Cond.code yX8_isBlank cX8_isBlank 2 (some .boolean)) ∈ gT := gT_i 515 (by decide +kernel) rfl
theorem k_520 : (Cond.methodLink RX4 79 yX4_isBig) ∈ gT := gT_i 520 (by decide +kernel) rfl
theorem k_522 : (Cond.instanceMethod yX4_isBig) ∈ gT := gT_i 522 (by decide +kernel) rfl
theorem k_523 : (Cond.code yX4_isBig cX4_isBig 4 (some .boolean)) ∈ gT := gT_i 523 (by decide +kernel) rfl
theorem k_524 : (Cond.methodLink RX4 82 yX4_beginsLikeHead) ∈ gT := gT_i 524 (by decide +kernel) rfl
theorem k_526 : (Cond.instanceMethod yX4_beginsLikeHead) ∈ gT := gT_i 526 (by decide +kernel) rfl
theorem k_527 : (Cond.code yX4_beginsLikeHead cX4_beginsLikeHead 1 (some .boolean)) ∈ gT := gT_i 527 (by decide +kernel) rfl
theorem k_529 : (Cond.methodLink RX4 90 yX4_lineBeginsWith) ∈ gT := gT_i 529 (by decide +kernel) rfl
theorem k_531 : (Cond.instanceMethod yX4_lineBeginsWith) ∈ gT := gT_i 531 (by decide +kernel) rfl
theorem k_532 : (Cond.code yX4_lineBeginsWith cX4_lineBeginsWith 3 (some .boolean)) ∈ gT := gT_i 532 (by decide +kernel) rfl
theorem k_533 : (Cond.methodLink RX4 96 yJ0_length_8abf5) ∈ gT := gT_i 533 (by decide +kernel) rfl
theorem k_534 : (Cond.instanceMethod yJ0_length_8abf5) ∈ gT := gT_i 534 (by decide +kernel) rfl
theorem k_535 : (Cond.selects RJ0 yJ0_length_8abf5 yJ0_length_8abf5) ∈ gT := gT_i 535 (by decide +kernel) rfl
theorem k_536 : (Cond.code yJ0_length_8abf5 cJ0_length_8abf5 1 (some .int)) ∈ gT := gT_i 536 (by decide +kernel) rfl
theorem k_543 : (Cond.methodLink RX4 101 yJ0_charAt_5068e) ∈ gT := gT_i 543 (by decide +kernel) rfl
theorem k_544 : (Cond.instanceMethod yJ0_charAt_5068e) ∈ gT := gT_i 544 (by decide +kernel) rfl
theorem k_545 : (Cond.selects RJ0 yJ0_charAt_5068e yJ0_charAt_5068e) ∈ gT := gT_i 545 (by decide +kernel) rfl
theorem k_546 : (Cond.code yJ0_charAt_5068e cJ0_charAt_5068e 2 (some .char)) ∈ gT := gT_i 546 (by decide +kernel) rfl
theorem k_582 : (Cond.methodLink RX4 85 yX4_isFreeBehind) ∈ gT := gT_i 582 (by decide +kernel) rfl
theorem k_584 : (Cond.instanceMethod yX4_isFreeBehind) ∈ gT := gT_i 584 (by decide +kernel) rfl
theorem k_585 : (Cond.code yX4_isFreeBehind cX4_isFreeBehind 3 (some .boolean)) ∈ gT := gT_i 585 (by decide +kernel) rfl
theorem dX4_endOfLine_2 : decode cX4_endOfLine 2 = .ok (.iload_n 2, 1) := by decide +kernel
theorem dX4_endOfLine_3 : decode cX4_endOfLine 3 = .ok (.aload_n 0, 1) := by decide +kernel
theorem dX4_endOfLine_4 : decode cX4_endOfLine 4 = .ok (.getfield 9, 3) := by decide +kernel
theorem dX4_endOfLine_7 : decode cX4_endOfLine 7 = .ok (.invokevirtual 24, 3) := by decide +kernel
theorem dX4_endOfLine_10 : decode cX4_endOfLine 10 = .ok (.if_icmp .ge 24, 3) := by decide +kernel
theorem dX4_endOfLine_13 : decode cX4_endOfLine 13 = .ok (.aload_n 0, 1) := by decide +kernel
theorem dX4_endOfLine_14 : decode cX4_endOfLine 14 = .ok (.getfield 9, 3) := by decide +kernel
theorem dX4_endOfLine_17 : decode cX4_endOfLine 17 = .ok (.iload_n 2, 1) := by decide +kernel
theorem dX4_endOfLine_18 : decode cX4_endOfLine 18 = .ok (.invokevirtual 76, 3) := by decide +kernel
theorem dX4_endOfLine_21 : decode cX4_endOfLine 21 = .ok (.bipush 10, 2) := by decide +kernel
theorem dX4_endOfLine_23 : decode cX4_endOfLine 23 = .ok (.if_icmp .ne 5, 3) := by decide +kernel
theorem dX4_endOfLine_28 : decode cX4_endOfLine 28 = .ok (.iinc 2 1, 3) := by decide +kernel
theorem dX4_endOfLine_31 : decode cX4_endOfLine 31 = .ok (.goto (-29), 3) := by decide +kernel
theorem dX4_endOfLine_0 : decode cX4_endOfLine 0 = .ok (.iload_n 1, 1) := by decide +kernel
theorem dX4_endOfLine_1 : decode cX4_endOfLine 1 = .ok (.istore_n 2, 1) := by decide +kernel
theorem dX4_endOfLine_26 : decode cX4_endOfLine 26 = .ok (.iload_n 2, 1) := by decide +kernel
theorem dX4_endOfLine_27 : decode cX4_endOfLine 27 = .ok (.ireturn, 1) := by decide +kernel
theorem dX4_endOfLine_34 : decode cX4_endOfLine 34 = .ok (.aload_n 0, 1) := by decide +kernel
theorem dX4_endOfLine_35 : decode cX4_endOfLine 35 = .ok (.getfield 9, 3) := by decide +kernel
theorem dX4_endOfLine_38 : decode cX4_endOfLine 38 = .ok (.invokevirtual 24, 3) := by decide +kernel
theorem dX4_endOfLine_41 : decode cX4_endOfLine 41 = .ok (.ireturn, 1) := by decide +kernel
theorem dX4_isFreeBehind_14 : decode cX4_isFreeBehind 14 = .ok (.iload_n 2, 1) := by decide +kernel
theorem dX4_isFreeBehind_15 : decode cX4_isFreeBehind 15 = .ok (.iload_n 1, 1) := by decide +kernel
theorem dX4_isFreeBehind_16 : decode cX4_isFreeBehind 16 = .ok (.if_icmp .ge 22, 3) := by decide +kernel
theorem dX4_isFreeBehind_19 : decode cX4_isFreeBehind 19 = .ok (.aload_n 0, 1) := by decide +kernel
theorem dX4_isFreeBehind_20 : decode cX4_isFreeBehind 20 = .ok (.getfield 9, 3) := by decide +kernel
theorem dX4_isFreeBehind_23 : decode cX4_isFreeBehind 23 = .ok (.iload_n 2, 1) := by decide +kernel
theorem dX4_isFreeBehind_24 : decode cX4_isFreeBehind 24 = .ok (.invokevirtual 69, 3) := by decide +kernel
theorem dX4_isFreeBehind_27 : decode cX4_isFreeBehind 27 = .ok (.ifCond .ne 5, 3) := by decide +kernel
theorem dX4_isFreeBehind_32 : decode cX4_isFreeBehind 32 = .ok (.iinc 2 1, 3) := by decide +kernel
theorem dX4_isFreeBehind_35 : decode cX4_isFreeBehind 35 = .ok (.goto (-21), 3) := by decide +kernel
theorem dX4_isFreeBehind_0 : decode cX4_isFreeBehind 0 = .ok (.aload_n 0, 1) := by decide +kernel
theorem dX4_isFreeBehind_1 : decode cX4_isFreeBehind 1 = .ok (.aload_n 0, 1) := by decide +kernel
theorem dX4_isFreeBehind_2 : decode cX4_isFreeBehind 2 = .ok (.getfield 20, 3) := by decide +kernel
theorem dX4_isFreeBehind_5 : decode cX4_isFreeBehind 5 = .ok (.invokevirtual 65, 3) := by decide +kernel
theorem dX4_isFreeBehind_8 : decode cX4_isFreeBehind 8 = .ok (.istore_n 1, 1) := by decide +kernel
theorem dX4_isFreeBehind_9 : decode cX4_isFreeBehind 9 = .ok (.aload_n 0, 1) := by decide +kernel
theorem dX4_isFreeBehind_10 : decode cX4_isFreeBehind 10 = .ok (.getfield 20, 3) := by decide +kernel
theorem dX4_isFreeBehind_13 : decode cX4_isFreeBehind 13 = .ok (.istore_n 2, 1) := by decide +kernel
theorem dX4_isFreeBehind_38 : decode cX4_isFreeBehind 38 = .ok (.iconst 1, 1) := by decide +kernel
theorem dX4_isFreeBehind_39 : decode cX4_isFreeBehind 39 = .ok (.ireturn, 1) := by decide +kernel
theorem dX4_isFreeBehind_30 : decode cX4_isFreeBehind 30 = .ok (.iconst 0, 1) := by decide +kernel
theorem dX4_isFreeBehind_31 : decode cX4_isFreeBehind 31 = .ok (.ireturn, 1) := by decide +kernel
theorem dX4_isBig_7 : decode cX4_isBig 7 = .ok (.iload_n 2, 1) := by decide +kernel
theorem dX4_isBig_8 : decode cX4_isBig 8 = .ok (.aload_n 0, 1) := by decide +kernel
theorem dX4_isBig_9 : decode cX4_isBig 9 = .ok (.getfield 45, 3) := by decide +kernel
theorem dX4_isBig_12 : decode cX4_isBig 12 = .ok (.if_icmp .ge 54, 3) := by decide +kernel
theorem dX4_isBig_15 : decode cX4_isBig 15 = .ok (.aload_n 0, 1) := by decide +kernel
theorem dX4_isBig_16 : decode cX4_isBig 16 = .ok (.getfield 9, 3) := by decide +kernel
theorem dX4_isBig_19 : decode cX4_isBig 19 = .ok (.iload_n 2, 1) := by decide +kernel
theorem dX4_isBig_20 : decode cX4_isBig 20 = .ok (.invokevirtual 76, 3) := by decide +kernel
theorem dX4_isBig_23 : decode cX4_isBig 23 = .ok (.istore_n 3, 1) := by decide +kernel
theorem dX4_isBig_24 : decode cX4_isBig 24 = .ok (.iload_n 3, 1) := by decide +kernel
theorem dX4_isBig_25 : decode cX4_isBig 25 = .ok (.bipush 97, 2) := by decide +kernel
theorem dX4_isBig_27 : decode cX4_isBig 27 = .ok (.if_icmp .lt 11, 3) := by decide +kernel
theorem dX4_isBig_38 : decode cX4_isBig 38 = .ok (.iload_n 1, 1) := by decide +kernel
theorem dX4_isBig_39 : decode cX4_isBig 39 = .ok (.ifCond .ne 15, 3) := by decide +kernel
theorem dX4_isBig_54 : decode cX4_isBig 54 = .ok (.iconst 1, 1) := by decide +kernel
theorem dX4_isBig_55 : decode cX4_isBig 55 = .ok (.goto 4, 3) := by decide +kernel
theorem dX4_isBig_59 : decode cX4_isBig 59 = .ok (.istore_n 1, 1) := by decide +kernel
theorem dX4_isBig_60 : decode cX4_isBig 60 = .ok (.iinc 2 1, 3) := by decide +kernel
theorem dX4_isBig_63 : decode cX4_isBig 63 = .ok (.goto (-56), 3) := by decide +kernel
theorem dX4_isBig_42 : decode cX4_isBig 42 = .ok (.iload_n 3, 1) := by decide +kernel
theorem dX4_isBig_43 : decode cX4_isBig 43 = .ok (.bipush 65, 2) := by decide +kernel
theorem dX4_isBig_45 : decode cX4_isBig 45 = .ok (.if_icmp .lt 13, 3) := by decide +kernel
theorem dX4_isBig_58 : decode cX4_isBig 58 = .ok (.iconst 0, 1) := by decide +kernel
theorem dX4_isBig_48 : decode cX4_isBig 48 = .ok (.iload_n 3, 1) := by decide +kernel
theorem dX4_isBig_49 : decode cX4_isBig 49 = .ok (.bipush 90, 2) := by decide +kernel
theorem dX4_isBig_51 : decode cX4_isBig 51 = .ok (.if_icmp .gt 7, 3) := by decide +kernel
theorem dX4_isBig_30 : decode cX4_isBig 30 = .ok (.iload_n 3, 1) := by decide +kernel
theorem dX4_isBig_31 : decode cX4_isBig 31 = .ok (.bipush 122, 2) := by decide +kernel
theorem dX4_isBig_33 : decode cX4_isBig 33 = .ok (.if_icmp .gt 5, 3) := by decide +kernel
theorem dX4_isBig_0 : decode cX4_isBig 0 = .ok (.iconst 0, 1) := by decide +kernel
theorem dX4_isBig_1 : decode cX4_isBig 1 = .ok (.istore_n 1, 1) := by decide +kernel
theorem dX4_isBig_2 : decode cX4_isBig 2 = .ok (.aload_n 0, 1) := by decide +kernel
theorem dX4_isBig_3 : decode cX4_isBig 3 = .ok (.getfield 42, 3) := by decide +kernel
theorem dX4_isBig_6 : decode cX4_isBig 6 = .ok (.istore_n 2, 1) := by decide +kernel
theorem dX4_isBig_36 : decode cX4_isBig 36 = .ok (.iconst 0, 1) := by decide +kernel
theorem dX4_isBig_37 : decode cX4_isBig 37 = .ok (.ireturn, 1) := by decide +kernel
theorem dX4_isBig_66 : decode cX4_isBig 66 = .ok (.iload_n 1, 1) := by decide +kernel
theorem dX4_isBig_67 : decode cX4_isBig 67 = .ok (.ireturn, 1) := by decide +kernel
theorem dX4_lineBeginsWith_0 : decode cX4_lineBeginsWith 0 = .ok (.aload_n 0, 1) := by decide +kernel
theorem dX4_lineBeginsWith_1 : decode cX4_lineBeginsWith 1 = .ok (.getfield 45, 3) := by decide +kernel
theorem dX4_lineBeginsWith_4 : decode cX4_lineBeginsWith 4 = .ok (.aload_n 0, 1) := by decide +kernel
theorem dX4_lineBeginsWith_5 : decode cX4_lineBeginsWith 5 = .ok (.getfield 42, 3) := by decide +kernel
theorem dX4_lineBeginsWith_8 : decode cX4_lineBeginsWith 8 = .ok (.isub, 1) := by decide +kernel
theorem dX4_lineBeginsWith_9 : decode cX4_lineBeginsWith 9 = .ok (.aload_n 1, 1) := by decide +kernel
theorem dX4_lineBeginsWith_10 : decode cX4_lineBeginsWith 10 = .ok (.invokevirtual 96, 3) := by decide +kernel
theorem dX4_lineBeginsWith_13 : decode cX4_lineBeginsWith 13 = .ok (.if_icmp .ge 5, 3) := by decide +kernel
theorem dX4_lineBeginsWith_18 : decode cX4_lineBeginsWith 18 = .ok (.iconst 0, 1) := by decide +kernel
theorem dX4_lineBeginsWith_19 : decode cX4_lineBeginsWith 19 = .ok (.istore_n 2, 1) := by decide +kernel
theorem dX4_lineBeginsWith_20 : decode cX4_lineBeginsWith 20 = .ok (.iload_n 2, 1) := by decide +kernel
theorem dX4_lineBeginsWith_21 : decode cX4_lineBeginsWith 21 = .ok (.aload_n 1, 1) := by decide +kernel
theorem dX4_lineBeginsWith_22 : decode cX4_lineBeginsWith 22 = .ok (.invokevirtual 96, 3) := by decide +kernel
theorem dX4_lineBeginsWith_25 : decode cX4_lineBeginsWith 25 = .ok (.if_icmp .ge 32, 3) := by decide +kernel
theorem dX4_lineBeginsWith_28 : decode cX4_lineBeginsWith 28 = .ok (.aload_n 0, 1) := by decide +kernel
theorem dX4_lineBeginsWith_29 : decode cX4_lineBeginsWith 29 = .ok (.getfield 9, 3) := by decide +kernel
theorem dX4_lineBeginsWith_32 : decode cX4_lineBeginsWith 32 = .ok (.aload_n 0, 1) := by decide +kernel
theorem dX4_lineBeginsWith_33 : decode cX4_lineBeginsWith 33 = .ok (.getfield 42, 3) := by decide +kernel
theorem dX4_lineBeginsWith_36 : decode cX4_lineBeginsWith 36 = .ok (.iload_n 2, 1) := by decide +kernel
theorem dX4_lineBeginsWith_37 : decode cX4_lineBeginsWith 37 = .ok (.iadd, 1) := by decide +kernel
theorem dX4_lineBeginsWith_38 : decode cX4_lineBeginsWith 38 = .ok (.invokevirtual 76, 3) := by decide +kernel
theorem dX4_lineBeginsWith_41 : decode cX4_lineBeginsWith 41 = .ok (.aload_n 1, 1) := by decide +kernel
theorem dX4_lineBeginsWith_42 : decode cX4_lineBeginsWith 42 = .ok (.iload_n 2, 1) := by decide +kernel
theorem dX4_lineBeginsWith_43 : decode cX4_lineBeginsWith 43 = .ok (.invokevirtual 101, 3) := by decide +kernel
theorem dX4_lineBeginsWith_46 : decode cX4_lineBeginsWith 46 = .ok (.if_icmp .eq 5, 3) := by decide +kernel
theorem dX4_lineBeginsWith_51 : decode cX4_lineBeginsWith 51 = .ok (.iinc 2 1, 3) := by decide +kernel
theorem dX4_lineBeginsWith_54 : decode cX4_lineBeginsWith 54 = .ok (.goto (-34), 3) := by decide +kernel
theorem dX4_lineBeginsWith_57 : decode cX4_lineBeginsWith 57 = .ok (.iconst 1, 1) := by decide +kernel
theorem dX4_lineBeginsWith_58 : decode cX4_lineBeginsWith 58 = .ok (.ireturn, 1) := by decide +kernel
theorem dX4_lineBeginsWith_49 : decode cX4_lineBeginsWith 49 = .ok (.iconst 0, 1) := by decide +kernel
theorem dX4_lineBeginsWith_50 : decode cX4_lineBeginsWith 50 = .ok (.ireturn, 1) := by decide +kernel
theorem dX4_lineBeginsWith_16 : decode cX4_lineBeginsWith 16 = .ok (.iconst 0, 1) := by decide +kernel
theorem dX4_lineBeginsWith_17 : decode cX4_lineBeginsWith 17 = .ok (.ireturn, 1) := by decide +kernel
theorem dX4_beginsLikeHead_0 : decode cX4_beginsLikeHead 0 = .ok (.aload_n 0, 1) := by decide +kernel
theorem dX4_beginsLikeHead_1 : decode cX4_beginsLikeHead 1 = .ok (.ldc 88, 2) := by decide +kernel
theorem dX4_beginsLikeHead_3 : decode cX4_beginsLikeHead 3 = .ok (.invokevirtual 90, 3) := by decide +kernel
theorem dX4_beginsLikeHead_6 : decode cX4_beginsLikeHead 6 = .ok (.ifCond .ne 12, 3) := by decide +kernel
theorem dX4_beginsLikeHead_18 : decode cX4_beginsLikeHead 18 = .ok (.iconst 1, 1) := by decide +kernel
theorem dX4_beginsLikeHead_19 : decode cX4_beginsLikeHead 19 = .ok (.goto 4, 3) := by decide +kernel
theorem dX4_beginsLikeHead_23 : decode cX4_beginsLikeHead 23 = .ok (.ireturn, 1) := by decide +kernel
theorem dX4_beginsLikeHead_9 : decode cX4_beginsLikeHead 9 = .ok (.aload_n 0, 1) := by decide +kernel
theorem dX4_beginsLikeHead_10 : decode cX4_beginsLikeHead 10 = .ok (.ldc 94, 2) := by decide +kernel
theorem dX4_beginsLikeHead_12 : decode cX4_beginsLikeHead 12 = .ok (.invokevirtual 90, 3) := by decide +kernel
theorem dX4_beginsLikeHead_15 : decode cX4_beginsLikeHead 15 = .ok (.ifCond .eq 7, 3) := by decide +kernel
theorem dX4_beginsLikeHead_22 : decode cX4_beginsLikeHead 22 = .ok (.iconst 0, 1) := by decide +kernel
theorem dX4_kindOfLine_0 : decode cX4_kindOfLine 0 = .ok (.aload_n 0, 1) := by decide +kernel
theorem dX4_kindOfLine_1 : decode cX4_kindOfLine 1 = .ok (.getfield 42, 3) := by decide +kernel
theorem dX4_kindOfLine_4 : decode cX4_kindOfLine 4 = .ok (.aload_n 0, 1) := by decide +kernel
theorem dX4_kindOfLine_5 : decode cX4_kindOfLine 5 = .ok (.getfield 45, 3) := by decide +kernel
theorem dX4_kindOfLine_8 : decode cX4_kindOfLine 8 = .ok (.if_icmp .lt 5, 3) := by decide +kernel
theorem dX4_kindOfLine_13 : decode cX4_kindOfLine 13 = .ok (.aload_n 0, 1) := by decide +kernel
theorem dX4_kindOfLine_14 : decode cX4_kindOfLine 14 = .ok (.getfield 62, 3) := by decide +kernel
theorem dX4_kindOfLine_17 : decode cX4_kindOfLine 17 = .ok (.iconst (-1), 1) := by decide +kernel
theorem dX4_kindOfLine_18 : decode cX4_kindOfLine 18 = .ok (.if_icmp .ne 68, 3) := by decide +kernel
theorem dX4_kindOfLine_86 : decode cX4_kindOfLine 86 = .ok (.aload_n 0, 1) := by decide +kernel
theorem dX4_kindOfLine_87 : decode cX4_kindOfLine 87 = .ok (.getfield 62, 3) := by decide +kernel
theorem dX4_kindOfLine_90 : decode cX4_kindOfLine 90 = .ok (.iconst 2, 1) := by decide +kernel
theorem dX4_kindOfLine_91 : decode cX4_kindOfLine 91 = .ok (.if_icmp .eq 19, 3) := by decide +kernel
theorem dX4_kindOfLine_110 : decode cX4_kindOfLine 110 = .ok (.aload_n 0, 1) := by decide +kernel
theorem dX4_kindOfLine_111 : decode cX4_kindOfLine 111 = .ok (.getfield 9, 3) := by decide +kernel
theorem dX4_kindOfLine_114 : decode cX4_kindOfLine 114 = .ok (.aload_n 0, 1) := by decide +kernel
theorem dX4_kindOfLine_115 : decode cX4_kindOfLine 115 = .ok (.getfield 42, 3) := by decide +kernel
theorem dX4_kindOfLine_118 : decode cX4_kindOfLine 118 = .ok (.invokevirtual 76, 3) := by decide +kernel
theorem dX4_kindOfLine_121 : decode cX4_kindOfLine 121 = .ok (.bipush 40, 2) := by decide +kernel
theorem dX4_kindOfLine_123 : decode cX4_kindOfLine 123 = .ok (.if_icmp .ne 25, 3) := by decide +kernel
theorem dX4_kindOfLine_148 : decode cX4_kindOfLine 148 = .ok (.iconst 0, 1) := by decide +kernel
theorem dX4_kindOfLine_149 : decode cX4_kindOfLine 149 = .ok (.istore_n 1, 1) := by decide +kernel
theorem dX4_kindOfLine_150 : decode cX4_kindOfLine 150 = .ok (.iload_n 1, 1) := by decide +kernel
theorem dX4_kindOfLine_151 : decode cX4_kindOfLine 151 = .ok (.ifCond .eq 7, 3) := by decide +kernel
theorem dX4_kindOfLine_158 : decode cX4_kindOfLine 158 = .ok (.iconst 4, 1) := by decide +kernel
theorem dX4_kindOfLine_159 : decode cX4_kindOfLine 159 = .ok (.ireturn, 1) := by decide +kernel
theorem dX4_kindOfLine_126 : decode cX4_kindOfLine 126 = .ok (.aload_n 0, 1) := by decide +kernel
theorem dX4_kindOfLine_127 : decode cX4_kindOfLine 127 = .ok (.getfield 9, 3) := by decide +kernel
theorem dX4_kindOfLine_130 : decode cX4_kindOfLine 130 = .ok (.aload_n 0, 1) := by decide +kernel
theorem dX4_kindOfLine_131 : decode cX4_kindOfLine 131 = .ok (.getfield 45, 3) := by decide +kernel
theorem dX4_kindOfLine_134 : decode cX4_kindOfLine 134 = .ok (.iconst 1, 1) := by decide +kernel
theorem dX4_kindOfLine_135 : decode cX4_kindOfLine 135 = .ok (.isub, 1) := by decide +kernel
theorem dX4_kindOfLine_136 : decode cX4_kindOfLine 136 = .ok (.invokevirtual 76, 3) := by decide +kernel
theorem dX4_kindOfLine_139 : decode cX4_kindOfLine 139 = .ok (.bipush 41, 2) := by decide +kernel
theorem dX4_kindOfLine_141 : decode cX4_kindOfLine 141 = .ok (.if_icmp .ne 7, 3) := by decide +kernel
theorem dX4_kindOfLine_144 : decode cX4_kindOfLine 144 = .ok (.iconst 1, 1) := by decide +kernel
theorem dX4_kindOfLine_145 : decode cX4_kindOfLine 145 = .ok (.goto 4, 3) := by decide +kernel
theorem dX4_kindOfLine_154 : decode cX4_kindOfLine 154 = .ok (.iconst 3, 1) := by decide +kernel
theorem dX4_kindOfLine_155 : decode cX4_kindOfLine 155 = .ok (.goto 4, 3) := by decide +kernel
theorem dX4_kindOfLine_94 : decode cX4_kindOfLine 94 = .ok (.aload_n 0, 1) := by decide +kernel
theorem dX4_kindOfLine_95 : decode cX4_kindOfLine 95 = .ok (.getfield 62, 3) := by decide +kernel
theorem dX4_kindOfLine_98 : decode cX4_kindOfLine 98 = .ok (.iconst 3, 1) := by decide +kernel
theorem dX4_kindOfLine_99 : decode cX4_kindOfLine 99 = .ok (.if_icmp .eq 11, 3) := by decide +kernel
theorem dX4_kindOfLine_102 : decode cX4_kindOfLine 102 = .ok (.aload_n 0, 1) := by decide +kernel
theorem dX4_kindOfLine_103 : decode cX4_kindOfLine 103 = .ok (.getfield 62, 3) := by decide +kernel
theorem dX4_kindOfLine_106 : decode cX4_kindOfLine 106 = .ok (.iconst 4, 1) := by decide +kernel
theorem dX4_kindOfLine_107 : decode cX4_kindOfLine 107 = .ok (.if_icmp .ne 53, 3) := by decide +kernel
theorem dX4_kindOfLine_160 : decode cX4_kindOfLine 160 = .ok (.iconst 5, 1) := by decide +kernel
theorem dX4_kindOfLine_161 : decode cX4_kindOfLine 161 = .ok (.ireturn, 1) := by decide +kernel
theorem dX4_kindOfLine_21 : decode cX4_kindOfLine 21 = .ok (.aload_n 0, 1) := by decide +kernel
theorem dX4_kindOfLine_22 : decode cX4_kindOfLine 22 = .ok (.invokevirtual 79, 3) := by decide +kernel
theorem dX4_kindOfLine_25 : decode cX4_kindOfLine 25 = .ok (.ifCond .eq 61, 3) := by decide +kernel
theorem dX4_kindOfLine_28 : decode cX4_kindOfLine 28 = .ok (.aload_n 0, 1) := by decide +kernel
theorem dX4_kindOfLine_29 : decode cX4_kindOfLine 29 = .ok (.invokevirtual 82, 3) := by decide +kernel
theorem dX4_kindOfLine_32 : decode cX4_kindOfLine 32 = .ok (.ifCond .eq 5, 3) := by decide +kernel
theorem dX4_kindOfLine_35 : decode cX4_kindOfLine 35 = .ok (.iconst 0, 1) := by decide +kernel
theorem dX4_kindOfLine_36 : decode cX4_kindOfLine 36 = .ok (.ireturn, 1) := by decide +kernel
theorem dX4_kindOfLine_37 : decode cX4_kindOfLine 37 = .ok (.aload_n 0, 1) := by decide +kernel
theorem dX4_kindOfLine_38 : decode cX4_kindOfLine 38 = .ok (.invokevirtual 85, 3) := by decide +kernel
theorem dX4_kindOfLine_41 : decode cX4_kindOfLine 41 = .ok (.istore_n 1, 1) := by decide +kernel
theorem dX4_kindOfLine_42 : decode cX4_kindOfLine 42 = .ok (.iload_n 1, 1) := by decide +kernel
theorem dX4_kindOfLine_43 : decode cX4_kindOfLine 43 = .ok (.ifCond .eq 23, 3) := by decide +kernel
theorem dX4_kindOfLine_46 : decode cX4_kindOfLine 46 = .ok (.aload_n 0, 1) := by decide +kernel
theorem dX4_kindOfLine_47 : decode cX4_kindOfLine 47 = .ok (.getfield 9, 3) := by decide +kernel
theorem dX4_kindOfLine_50 : decode cX4_kindOfLine 50 = .ok (.aload_n 0, 1) := by decide +kernel
theorem dX4_kindOfLine_51 : decode cX4_kindOfLine 51 = .ok (.getfield 45, 3) := by decide +kernel
theorem dX4_kindOfLine_54 : decode cX4_kindOfLine 54 = .ok (.iconst 1, 1) := by decide +kernel
theorem dX4_kindOfLine_55 : decode cX4_kindOfLine 55 = .ok (.isub, 1) := by decide +kernel
theorem dX4_kindOfLine_56 : decode cX4_kindOfLine 56 = .ok (.invokevirtual 76, 3) := by decide +kernel
theorem dX4_kindOfLine_59 : decode cX4_kindOfLine 59 = .ok (.bipush 58, 2) := by decide +kernel
theorem dX4_kindOfLine_61 : decode cX4_kindOfLine 61 = .ok (.if_icmp .ne 5, 3) := by decide +kernel
theorem dX4_kindOfLine_66 : decode cX4_kindOfLine 66 = .ok (.iload_n 1, 1) := by decide +kernel
theorem dX4_kindOfLine_67 : decode cX4_kindOfLine 67 = .ok (.ifCond .ne 19, 3) := by decide +kernel
theorem dX4_kindOfLine_64 : decode cX4_kindOfLine 64 = .ok (.iconst 1, 1) := by decide +kernel
theorem dX4_kindOfLine_65 : decode cX4_kindOfLine 65 = .ok (.ireturn, 1) := by decide +kernel
theorem dX4_kindOfLine_70 : decode cX4_kindOfLine 70 = .ok (.aload_n 0, 1) := by decide +kernel
theorem dX4_kindOfLine_71 : decode cX4_kindOfLine 71 = .ok (.getfield 45, 3) := by decide +kernel
theorem dX4_kindOfLine_74 : decode cX4_kindOfLine 74 = .ok (.aload_n 0, 1) := by decide +kernel
theorem dX4_kindOfLine_75 : decode cX4_kindOfLine 75 = .ok (.getfield 42, 3) := by decide +kernel
theorem dX4_kindOfLine_78 : decode cX4_kindOfLine 78 = .ok (.isub, 1) := by decide +kernel
theorem dX4_kindOfLine_79 : decode cX4_kindOfLine 79 = .ok (.bipush 24, 2) := by decide +kernel
theorem dX4_kindOfLine_81 : decode cX4_kindOfLine 81 = .ok (.if_icmp .gt 5, 3) := by decide +kernel
theorem dX4_kindOfLine_84 : decode cX4_kindOfLine 84 = .ok (.iconst 2, 1) := by decide +kernel
theorem dX4_kindOfLine_85 : decode cX4_kindOfLine 85 = .ok (.ireturn, 1) := by decide +kernel
theorem dX4_kindOfLine_11 : decode cX4_kindOfLine 11 = .ok (.iconst (-1), 1) := by decide +kernel
theorem dX4_kindOfLine_12 : decode cX4_kindOfLine 12 = .ok (.ireturn, 1) := by decide +kernel
theorem dX4_joinsLineAhead_0 : decode cX4_joinsLineAhead 0 = .ok (.aload_n 0, 1) := by decide +kernel
theorem dX4_joinsLineAhead_1 : decode cX4_joinsLineAhead 1 = .ok (.getfield 31, 3) := by decide +kernel
theorem dX4_joinsLineAhead_4 : decode cX4_joinsLineAhead 4 = .ok (.aload_n 0, 1) := by decide +kernel
theorem dX4_joinsLineAhead_5 : decode cX4_joinsLineAhead 5 = .ok (.getfield 62, 3) := by decide +kernel
theorem dX4_joinsLineAhead_8 : decode cX4_joinsLineAhead 8 = .ok (.if_icmp .ne 23, 3) := by decide +kernel
theorem dX4_joinsLineAhead_31 : decode cX4_joinsLineAhead 31 = .ok (.iconst 0, 1) := by decide +kernel
theorem dX4_joinsLineAhead_32 : decode cX4_joinsLineAhead 32 = .ok (.ireturn, 1) := by decide +kernel
theorem dX4_joinsLineAhead_11 : decode cX4_joinsLineAhead 11 = .ok (.aload_n 0, 1) := by decide +kernel
theorem dX4_joinsLineAhead_12 : decode cX4_joinsLineAhead 12 = .ok (.getfield 31, 3) := by decide +kernel
theorem dX4_joinsLineAhead_15 : decode cX4_joinsLineAhead 15 = .ok (.iconst 4, 1) := by decide +kernel
theorem dX4_joinsLineAhead_16 : decode cX4_joinsLineAhead 16 = .ok (.if_icmp .eq 11, 3) := by decide +kernel
theorem dX4_joinsLineAhead_27 : decode cX4_joinsLineAhead 27 = .ok (.iconst 1, 1) := by decide +kernel
theorem dX4_joinsLineAhead_28 : decode cX4_joinsLineAhead 28 = .ok (.goto 4, 3) := by decide +kernel
theorem dX4_joinsLineAhead_19 : decode cX4_joinsLineAhead 19 = .ok (.aload_n 0, 1) := by decide +kernel
theorem dX4_joinsLineAhead_20 : decode cX4_joinsLineAhead 20 = .ok (.getfield 31, 3) := by decide +kernel
theorem dX4_joinsLineAhead_23 : decode cX4_joinsLineAhead 23 = .ok (.iconst 5, 1) := by decide +kernel
theorem dX4_joinsLineAhead_24 : decode cX4_joinsLineAhead 24 = .ok (.if_icmp .ne 7, 3) := by decide +kernel
theorem dX4_rewind_0 : decode cX4_rewind 0 = .ok (.aload_n 0, 1) := by decide +kernel
theorem dX4_rewind_1 : decode cX4_rewind 1 = .ok (.iconst 0, 1) := by decide +kernel
theorem dX4_rewind_2 : decode cX4_rewind 2 = .ok (.putfield 20, 3) := by decide +kernel
theorem dX4_rewind_5 : decode cX4_rewind 5 = .ok (.aload_n 0, 1) := by decide +kernel
theorem dX4_rewind_6 : decode cX4_rewind 6 = .ok (.iconst (-1), 1) := by decide +kernel
theorem dX4_rewind_7 : decode cX4_rewind 7 = .ok (.putfield 31, 3) := by decide +kernel
theorem dX4_rewind_10 : decode cX4_rewind 10 = .ok (.return_, 1) := by decide +kernel
set_option maxHeartbeats 1000000 in
set_option maxRecDepth 100000 in
theorem re_loop {p : Program} {l : Launch} {e : Env} {R : Room} {s : State} {m : MethodId} {args : Array Value} {below : List Frame} {meth : Method} {c : Code} {Q : State → Prop} {D : va_G} {A : Nat → Prop} {z : Nat → Nat} {cB cI_ cO : ClassId} {L0 : List Nat} {g0 : hG} {cells slots : Nat} {rd tp by_ n nx fm to_ : Nat} {T : Nat → Int32} {kd ka : Int32} {x1 : Int32} (h_rd : ho L0 g0 rd 4 (.inr (5, [.ref tp, .int (nI nx), .int (nI fm), .int (nI to_), .int kd, .int ka]))) (h_tp : ho L0 g0 tp 2 (.inr (9, [.ref by_, .int (nI n)]))) (h_by : ho L0 g0 by_ 3 (.inl (cB, 1200, .inl T))) (hn : n ≤ 1200) (hRf : 1 ≤ R.frames) (hRl : 21 ≤ R.locals) (hRc : cells ≤ R.cells) (hRs : slots ≤ R.slots) (hA : ∀ q : Nat, s.heap.size ≤ q → A q) (hf : CallFix p m c cX4_endOfLine 3 s args gT yX4_endOfLine.cls) (hK : va_K D vcl (dT cB cI_ cO) s) (hZ : zA z A s s.heap) (hN : zB z s) :
    ∀ (k : Nat) (i : Nat) (H : Heap) (locs : List Loc) (ls : Array Slot), i + k = n → va_P D vcl (dW L0 g0) H → va_D A (dW L0 g0) → va_S A s.heap H locs → lv_has ls 3 [(2, .int (nI i)), (1, .int x1), (0, .ref rd)] →
    (∀ (j : Nat) (H : Heap) (locs : List Loc) (ls : Array Slot), j = tx_eol T k i → va_P D vcl (dW L0 g0) H → va_D A (dW L0 g0) → va_S A s.heap H locs → lv_has ls 3 [(2, .int (nI j)), (0, .ref rd)] → W p l e R s m args below meth c H locs cells slots Q (F0 m 26 ls [])) →
    (∀  (H : Heap) (locs : List Loc) (ls : Array Slot), n = tx_eol T k i → va_P D vcl (dW L0 g0) H → va_D A (dW L0 g0) → va_S A s.heap H locs → lv_has ls 3 [(0, .ref rd)] → W p l e R s m args below meth c H locs cells slots Q (F0 m 34 ls [])) →
    W p l e R s m args below meth c H locs cells slots Q (F0 m 2 ls []) := by
  obtain ⟨hx, hb, hml, hown, hts⟩ := id hf
  intro k
  induction k with
  | zero =>
    intro i H locs ls hik hP hD hS hl kk1 kk0
    refine lv_iload_n hx hb dX4_endOfLine_2 rfl (lv_at hl 0 rfl) ?_
    refine lv_aload_n hx hb dX4_endOfLine_3 rfl (lv_at hl 2 rfl) ?_
    refine o_get (D := D) (ci := 5) (v := .ref tp) (C := RX4) (T := TX4) (N := 6) hx hb hts inX4 hown hK hP h_rd rfl 0 (by decide) (hts _ k_135) (fun _ h9 => h9) rfl dX4_endOfLine_4 ?_
    refine o_cis (k := cells) (n := slots) hK hP hD hS hA (o_rV (As := []) (rest := [.int (nI i)]) hf (t_used _ _ _ _ _ _ _ _ tp by_ n T h_tp _) k_481 k_502 k_479 k_480 k_85 (nA := 0) (by decide +kernel) ⟨Nat.le_trans (by decide) hRf, Nat.le_trans (by decide) hRl⟩ hK hP hD hS hA hZ hN h_tp rfl rfl rfl hl.1 rfl (Nat.le_of_ble_eq_true rfl) dX4_endOfLine_7 ⟨(show cells + 0 ≤ R.cells by omega), (show slots + 0 ≤ R.slots by omega)⟩) (Nat.le_refl _) (Nat.le_refl _) (fun r H locs hw hP hD hS => ?_)
    obtain rfl := hw
    refine lv_icmp_ge (tgt := 34) hx hb dX4_endOfLine_10 (by decide) (fun c_1 => ?_) (fun c_1 => ?_)
    · have c_1 := q_le (a := n) (b := i) (by omega) (by omega) c_1
      obtain rfl : i = n := by omega
      exact kk0 H locs ls rfl hP hD hS (lv_sub hl (l' := [(0, .ref rd)]) [2] rfl)
    · have c_1 := q_nle (a := n) (b := i) (by omega) (by omega) c_1
      exact False.elim (by omega)
  | succ k ih =>
    intro i H locs ls hik hP hD hS hl kk1 kk0
    refine lv_iload_n hx hb dX4_endOfLine_2 rfl (lv_at hl 0 rfl) ?_
    refine lv_aload_n hx hb dX4_endOfLine_3 rfl (lv_at hl 2 rfl) ?_
    refine o_get (D := D) (ci := 5) (v := .ref tp) (C := RX4) (T := TX4) (N := 6) hx hb hts inX4 hown hK hP h_rd rfl 0 (by decide) (hts _ k_135) (fun _ h9 => h9) rfl dX4_endOfLine_4 ?_
    refine o_cis (k := cells) (n := slots) hK hP hD hS hA (o_rV (As := []) (rest := [.int (nI i)]) hf (t_used _ _ _ _ _ _ _ _ tp by_ n T h_tp _) k_481 k_502 k_479 k_480 k_85 (nA := 0) (by decide +kernel) ⟨Nat.le_trans (by decide) hRf, Nat.le_trans (by decide) hRl⟩ hK hP hD hS hA hZ hN h_tp rfl rfl rfl hl.1 rfl (Nat.le_of_ble_eq_true rfl) dX4_endOfLine_7 ⟨(show cells + 0 ≤ R.cells by omega), (show slots + 0 ≤ R.slots by omega)⟩) (Nat.le_refl _) (Nat.le_refl _) (fun r H locs hw hP hD hS => ?_)
    obtain rfl := hw
    refine lv_icmp_ge (tgt := 34) hx hb dX4_endOfLine_10 (by decide) (fun c_1 => ?_) (fun c_1 => ?_)
    · have c_1 := q_le (a := n) (b := i) (by omega) (by omega) c_1
      exact False.elim (by omega)
    · have c_1 := q_nle (a := n) (b := i) (by omega) (by omega) c_1
      refine lv_aload_n hx hb dX4_endOfLine_13 rfl (lv_at hl 2 rfl) ?_
      refine o_get (D := D) (ci := 5) (v := .ref tp) (C := RX4) (T := TX4) (N := 6) hx hb hts inX4 hown hK hP h_rd rfl 0 (by decide) (hts _ k_135) (fun _ h9 => h9) rfl dX4_endOfLine_14 ?_
      refine lv_iload_n hx hb dX4_endOfLine_17 rfl (lv_at hl 0 rfl) ?_
      refine o_cis (k := cells) (n := slots) hK hP hD hS hA (o_rV (As := [.int (nI i)]) (rest := []) hf (t_atI _ _ _ _ _ _ _ _ tp by_ n T i h_tp h_by hn (by omega) _) k_200 k_511 k_198 k_199 k_85 (nA := 1) (by decide +kernel) ⟨Nat.le_trans (by decide) hRf, Nat.le_trans (by decide) hRl⟩ hK hP hD hS hA hZ hN h_tp rfl rfl rfl hl.1 rfl (Nat.le_of_ble_eq_true rfl) dX4_endOfLine_18 ⟨(show cells + 0 ≤ R.cells by omega), (show slots + 0 ≤ R.slots by omega)⟩) (Nat.le_refl _) (Nat.le_refl _) (fun r H locs hw hP hD hS => ?_)
      obtain rfl := hw
      refine lv_bipush (v := 10) hx hb dX4_endOfLine_21 (by decide) ?_
      refine lv_icmp_ne (tgt := 28) hx hb dX4_endOfLine_23 (by decide) (fun c_2 => ?_) (fun c_2 => ?_)
      · refine lv_iinc (v := nI (i + 1)) (lv' := [(2, .int (nI (i + 1))), (1, .int x1), (0, .ref rd)]) hx hb dX4_endOfLine_28 hl (k := 0) rfl (nI_addE (a := i) (b := 1) (by omega)) (by decide) rfl (fun ls hl => ?_)
        refine lv_goto (tgt := 2) hx hb dX4_endOfLine_31 (by decide) ?_
        exact ih (i + 1) H locs ls (by omega) hP hD hS (lv_sub hl (l' := [(2, .int (nI (i + 1))), (1, .int x1), (0, .ref rd)]) [0, 1, 2] rfl) (fun j H locs ls a1 => kk1 j H locs ls (a1.trans (if_neg c_2).symm)) (fun H locs ls a1 => kk0 H locs ls (a1.trans (if_neg c_2).symm))
      · exact kk1 i H locs ls (if_pos c_2).symm hP hD hS (lv_sub hl (l' := [(2, .int (nI i)), (0, .ref rd)]) [0, 2] rfl)
set_option maxHeartbeats 1000000 in
set_option maxRecDepth 100000 in
theorem r_eol (l : Launch) (D : va_G) (z : Nat → Nat) (cB cI_ cO : ClassId) (L0 : List Nat) (g0 : hG) (rd tp by_ n nx fm to_ : Nat) (T : Nat → Int32) (kd ka : Int32) (i0 : Nat) (h_rd : ho L0 g0 rd 4 (.inr (5, [.ref tp, .int (nI nx), .int (nI fm), .int (nI to_), .int kd, .int ka]))) (h_tp : ho L0 g0 tp 2 (.inr (9, [.ref by_, .int (nI n)]))) (h_by : ho L0 g0 by_ 3 (.inl (cB, 1200, .inl T))) (hn : n ≤ 1200) (hi : i0 ≤ n + 1) : eIs l D yX4_endOfLine cX4_endOfLine 3 (some .int) 1 21 0 0 [.ref rd, .int (nI i0)] z cB cI_ cO L0 g0 (fun r => r = nI (tx_el2 T n i0)) := by
  refine o_si (by decide) (Nat.le_of_ble_eq_true rfl) ?_
  intro p e s m below meth c A ls hf hr hlocks hin hK hP hD hS hA hZ hN hl
  obtain ⟨hx, hb, hml, hown, hts⟩ := id hf
  have hl : lv_has ls 3 [(0, .ref rd), (1, .int (nI i0))] := hl
  refine lv_iload_n hx hb dX4_endOfLine_0 rfl (lv_at hl 1 rfl) ?_
  refine lv_istore_n (lv' := [(2, .int (nI i0)), (0, .ref rd), (1, .int (nI i0))]) hx hb dX4_endOfLine_1 rfl hl (by decide) rfl (fun ls hl => ?_)
  by_cases hc : i0 < n
  · have heo := tx_eol_le T (n - i0) i0
    refine re_loop (x1 := nI i0) h_rd h_tp h_by hn (Nat.le_of_ble_eq_true rfl) (Nat.le_of_ble_eq_true rfl) (show 0 ≤ 0 by omega) (show 0 ≤ 0 by omega) hA hf hK hZ hN (n - i0) i0 _ _ ls (by omega) hP hD hS (lv_sub hl (l' := [(2, .int (nI i0)), (1, .int (nI i0)), (0, .ref rd)]) [0, 2, 1] rfl) ?_ ?_
    · intro j H locs ls a1 hP hD hS hl
      refine lv_iload_n hx hb dX4_endOfLine_26 rfl (lv_at hl 0 rfl) ?_
      exact o_ri hf hr rfl hlocks hK hP hD hS (show 0 ≤ 0 by omega) (show 0 ≤ 0 by omega) ⟨by rw [tx_el2_in hc, ← a1], rfl, rfl⟩ dX4_endOfLine_27
    · intro H locs ls a1 hP hD hS hl
      refine lv_aload_n hx hb dX4_endOfLine_34 rfl (lv_at hl 0 rfl) ?_
      refine o_get (D := D) (ci := 5) (v := .ref tp) (C := RX4) (T := TX4) (N := 6) hx hb hts inX4 hown hK hP h_rd rfl 0 (by decide) (hts _ k_135) (fun _ h9 => h9) rfl dX4_endOfLine_35 ?_
      refine o_cis (k := 0) (n := 0) hK hP hD hS hA (o_rV (As := []) (rest := []) hf (t_used _ _ _ _ _ _ _ _ tp by_ n T h_tp _) k_481 k_502 k_479 k_480 k_85 (nA := 0) (by decide +kernel) ⟨Nat.le_of_ble_eq_true rfl, Nat.le_of_ble_eq_true rfl⟩ hK hP hD hS hA hZ hN h_tp rfl rfl rfl hl.1 rfl (Nat.le_of_ble_eq_true rfl) dX4_endOfLine_38 ⟨(show 0 + 0 ≤ 0 by omega), (show 0 + 0 ≤ 0 by omega)⟩) (Nat.le_refl _) (Nat.le_refl _) (fun r H locs hw hP hD hS => ?_)
      obtain rfl := hw
      exact o_ri hf hr rfl hlocks hK hP hD hS (show 0 ≤ 0 by omega) (show 0 ≤ 0 by omega) ⟨by rw [tx_el2_in hc, ← a1], rfl, rfl⟩ dX4_endOfLine_41
  · have hc2 := hc
    refine lv_iload_n hx hb dX4_endOfLine_2 rfl (lv_at hl 0 rfl) ?_
    refine lv_aload_n hx hb dX4_endOfLine_3 rfl (lv_at hl 1 rfl) ?_
    refine o_get (D := D) (ci := 5) (v := .ref tp) (C := RX4) (T := TX4) (N := 6) hx hb hts inX4 hown hK hP h_rd rfl 0 (by decide) (hts _ k_135) (fun _ h9 => h9) rfl dX4_endOfLine_4 ?_
    refine o_cis (k := 0) (n := 0) hK hP hD hS hA (o_rV (As := []) (rest := [.int (nI i0)]) hf (t_used _ _ _ _ _ _ _ _ tp by_ n T h_tp _) k_481 k_502 k_479 k_480 k_85 (nA := 0) (by decide +kernel) ⟨Nat.le_of_ble_eq_true rfl, Nat.le_of_ble_eq_true rfl⟩ hK hP hD hS hA hZ hN h_tp rfl rfl rfl hl.1 rfl (Nat.le_of_ble_eq_true rfl) dX4_endOfLine_7 ⟨(show 0 + 0 ≤ 0 by omega), (show 0 + 0 ≤ 0 by omega)⟩) (Nat.le_refl _) (Nat.le_refl _) (fun r H locs hw hP hD hS => ?_)
    obtain rfl := hw
    refine lv_icmp_ge (tgt := 34) hx hb dX4_endOfLine_10 (by decide) (fun c_1 => ?_) (fun c_1 => ?_)
    · have c_1 := q_le (a := n) (b := i0) (by omega) (by omega) c_1
      refine lv_aload_n hx hb dX4_endOfLine_34 rfl (lv_at hl 1 rfl) ?_
      refine o_get (D := D) (ci := 5) (v := .ref tp) (C := RX4) (T := TX4) (N := 6) hx hb hts inX4 hown hK hP h_rd rfl 0 (by decide) (hts _ k_135) (fun _ h9 => h9) rfl dX4_endOfLine_35 ?_
      refine o_cis (k := 0) (n := 0) hK hP hD hS hA (o_rV (As := []) (rest := []) hf (t_used _ _ _ _ _ _ _ _ tp by_ n T h_tp _) k_481 k_502 k_479 k_480 k_85 (nA := 0) (by decide +kernel) ⟨Nat.le_of_ble_eq_true rfl, Nat.le_of_ble_eq_true rfl⟩ hK hP hD hS hA hZ hN h_tp rfl rfl rfl hl.1 rfl (Nat.le_of_ble_eq_true rfl) dX4_endOfLine_38 ⟨(show 0 + 0 ≤ 0 by omega), (show 0 + 0 ≤ 0 by omega)⟩) (Nat.le_refl _) (Nat.le_refl _) (fun r H locs hw hP hD hS => ?_)
      obtain rfl := hw
      exact o_ri hf hr rfl hlocks hK hP hD hS (show 0 ≤ 0 by omega) (show 0 ≤ 0 by omega) ⟨by rw [tx_el2_out hc], rfl, rfl⟩ dX4_endOfLine_41
    · have c_1 := q_nle (a := n) (b := i0) (by omega) (by omega) c_1
      exact False.elim (by omega)
set_option maxHeartbeats 1000000 in
set_option maxRecDepth 100000 in
theorem rf_loop {p : Program} {l : Launch} {e : Env} {R : Room} {s : State} {m : MethodId} {args : Array Value} {below : List Frame} {meth : Method} {c : Code} {Q : State → Prop} {D : va_G} {A : Nat → Prop} {z : Nat → Nat} {cB cI_ cO : ClassId} {L0 : List Nat} {g0 : hG} {cells slots : Nat} {rd tp by_ n nx fm to_ : Nat} {T : Nat → Int32} {kd ka : Int32} {e0 : Nat} (h_rd : ho L0 g0 rd 4 (.inr (5, [.ref tp, .int (nI nx), .int (nI fm), .int (nI to_), .int kd, .int ka]))) (h_tp : ho L0 g0 tp 2 (.inr (9, [.ref by_, .int (nI n)]))) (h_by : ho L0 g0 by_ 3 (.inl (cB, 1200, .inl T))) (hn : n ≤ 1200) (he0 : e0 ≤ n) (hRf : 2 ≤ R.frames) (hRl : 45 ≤ R.locals) (hRc : cells ≤ R.cells) (hRs : slots ≤ R.slots) (hA : ∀ q : Nat, s.heap.size ≤ q → A q) (hf : CallFix p m c cX4_isFreeBehind 3 s args gT yX4_isFreeBehind.cls) (hK : va_K D vcl (dT cB cI_ cO) s) (hZ : zA z A s s.heap) (hN : zB z s) :
    ∀ (k : Nat) (i : Nat) (H : Heap) (locs : List Loc) (ls : Array Slot), i + k = e0 → va_P D vcl (dW L0 g0) H → va_D A (dW L0 g0) → va_S A s.heap H locs → lv_has ls 3 [(2, .int (nI i)), (1, .int (nI e0)), (0, .ref rd)] →
    (∀  (H : Heap) (locs : List Loc) (ls : Array Slot), tx_ab T k i → va_P D vcl (dW L0 g0) H → va_D A (dW L0 g0) → va_S A s.heap H locs → lv_has ls 3 [(0, .ref rd)] → W p l e R s m args below meth c H locs cells slots Q (F0 m 38 ls [])) →
    (∀  (H : Heap) (locs : List Loc) (ls : Array Slot), ¬ tx_ab T k i → va_P D vcl (dW L0 g0) H → va_D A (dW L0 g0) → va_S A s.heap H locs → lv_has ls 3 [(0, .ref rd)] → W p l e R s m args below meth c H locs cells slots Q (F0 m 30 ls [])) →
    W p l e R s m args below meth c H locs cells slots Q (F0 m 14 ls []) := by
  obtain ⟨hx, hb, hml, hown, hts⟩ := id hf
  intro k
  induction k with
  | zero =>
    intro i H locs ls hik hP hD hS hl kk1 kk0
    refine lv_iload_n hx hb dX4_isFreeBehind_14 rfl (lv_at hl 0 rfl) ?_
    refine lv_iload_n hx hb dX4_isFreeBehind_15 rfl (lv_at hl 1 rfl) ?_
    refine lv_icmp_ge (tgt := 38) hx hb dX4_isFreeBehind_16 (by decide) (fun c_1 => ?_) (fun c_1 => ?_)
    · have c_1 := q_le (a := e0) (b := i) (by omega) (by omega) c_1
      exact kk1 H locs ls (tx_ab_0 T i) hP hD hS (lv_sub hl (l' := [(0, .ref rd)]) [2] rfl)
    · have c_1 := q_nle (a := e0) (b := i) (by omega) (by omega) c_1
      exact False.elim (by omega)
  | succ k ih =>
    intro i H locs ls hik hP hD hS hl kk1 kk0
    refine lv_iload_n hx hb dX4_isFreeBehind_14 rfl (lv_at hl 0 rfl) ?_
    refine lv_iload_n hx hb dX4_isFreeBehind_15 rfl (lv_at hl 1 rfl) ?_
    refine lv_icmp_ge (tgt := 38) hx hb dX4_isFreeBehind_16 (by decide) (fun c_1 => ?_) (fun c_1 => ?_)
    · have c_1 := q_le (a := e0) (b := i) (by omega) (by omega) c_1
      exact False.elim (by omega)
    · have c_1 := q_nle (a := e0) (b := i) (by omega) (by omega) c_1
      refine lv_aload_n hx hb dX4_isFreeBehind_19 rfl (lv_at hl 2 rfl) ?_
      refine o_get (D := D) (ci := 5) (v := .ref tp) (C := RX4) (T := TX4) (N := 6) hx hb hts inX4 hown hK hP h_rd rfl 0 (by decide) (hts _ k_135) (fun _ h9 => h9) rfl dX4_isFreeBehind_20 ?_
      refine lv_iload_n hx hb dX4_isFreeBehind_23 rfl (lv_at hl 0 rfl) ?_
      refine o_cis (k := cells) (n := slots) hK hP hD hS hA (o_rV (As := [.int (nI i)]) (rest := []) hf (t_isBlankI _ _ _ _ _ _ _ _ tp by_ n T i h_tp h_by hn (by omega) _) k_515 k_512 k_513 k_514 k_85 (nA := 1) (by decide +kernel) ⟨Nat.le_trans (by decide) hRf, Nat.le_trans (by decide) hRl⟩ hK hP hD hS hA hZ hN h_tp rfl rfl rfl hl.1 rfl (Nat.le_of_ble_eq_true rfl) dX4_isFreeBehind_24 ⟨(show cells + 0 ≤ R.cells by omega), (show slots + 0 ≤ R.slots by omega)⟩) (Nat.le_refl _) (Nat.le_refl _) (fun r H locs hw hP hD hS => ?_)
      rcases hw with ⟨c_2, rfl⟩ | ⟨c_2, rfl⟩
      · have hP := hP
        refine lv_if_ne (tgt := 32) hx hb dX4_isFreeBehind_27 (by decide) (fun _ => ?_) (fun hno => absurd hno (by decide))
        refine lv_iinc (v := nI (i + 1)) (lv' := [(2, .int (nI (i + 1))), (1, .int (nI e0)), (0, .ref rd)]) hx hb dX4_isFreeBehind_32 hl (k := 0) rfl (nI_addE (a := i) (b := 1) (by omega)) (by decide) rfl (fun ls hl => ?_)
        refine lv_goto (tgt := 14) hx hb dX4_isFreeBehind_35 (by decide) ?_
        exact ih (i + 1) H locs ls (by omega) hP hD hS (lv_sub hl (l' := [(2, .int (nI (i + 1))), (1, .int (nI e0)), (0, .ref rd)]) [0, 1, 2] rfl) (fun H locs ls a1 => kk1 H locs ls ((tx_ab_s c_2).mpr a1)) (fun H locs ls a1 => kk0 H locs ls (fun z => a1 ((tx_ab_s c_2).mp z)))
      · have hP := hP
        refine lv_if_ne (tgt := 32) hx hb dX4_isFreeBehind_27 (by decide) (fun hno => absurd hno (by decide)) (fun _ => ?_)
        exact kk0 H locs ls (tx_ab_n c_2) hP hD hS (lv_sub hl (l' := [(0, .ref rd)]) [2] rfl)
set_option maxHeartbeats 1000000 in
set_option maxRecDepth 100000 in
theorem r_freeB (l : Launch) (D : va_G) (z : Nat → Nat) (cB cI_ cO : ClassId) (L0 : List Nat) (g0 : hG) (rd tp by_ n nx fm to_ : Nat) (T : Nat → Int32) (kd ka : Int32) (h_rd : ho L0 g0 rd 4 (.inr (5, [.ref tp, .int (nI nx), .int (nI fm), .int (nI to_), .int kd, .int ka]))) (h_tp : ho L0 g0 tp 2 (.inr (9, [.ref by_, .int (nI n)]))) (h_by : ho L0 g0 by_ 3 (.inl (cB, 1200, .inl T))) (hn : n ≤ 1200) (hnx : nx ≤ n + 1) : eIs l D yX4_isFreeBehind cX4_isFreeBehind 3 (some .boolean) 2 45 0 0 [.ref rd] z cB cI_ cO L0 g0 (fun r => (tx_fb T n nx ∧ r = 1 ∨ ¬ tx_fb T n nx ∧ r = 0)) := by
  refine o_si (by decide) (Nat.le_of_ble_eq_true rfl) ?_
  intro p e s m below meth c A ls hf hr hlocks hin hK hP hD hS hA hZ hN hl
  obtain ⟨hx, hb, hml, hown, hts⟩ := id hf
  have hl : lv_has ls 3 [(0, .ref rd)] := hl
  refine lv_aload_n hx hb dX4_isFreeBehind_0 rfl (lv_at hl 0 rfl) ?_
  refine lv_aload_n hx hb dX4_isFreeBehind_1 rfl (lv_at hl 0 rfl) ?_
  refine o_get (D := D) (ci := 5) (v := .int (nI nx)) (C := RX4) (T := TX4) (N := 6) hx hb hts inX4 hown hK hP h_rd rfl 1 (by decide) (hts _ k_136) (fun _ h9 => h9) rfl dX4_isFreeBehind_2 ?_
  refine o_cis (k := 0) (n := 0) hK hP hD hS hA (o_rV (As := [.int (nI nx)]) (rest := []) hf (r_eol _ _ _ _ _ _ _ _ rd tp by_ n nx fm to_ T kd ka nx h_rd h_tp h_by hn (by omega) _) k_510 k_507 k_509 k_8 k_86 (nA := 1) (by decide +kernel) ⟨Nat.le_of_ble_eq_true rfl, Nat.le_of_ble_eq_true rfl⟩ hK hP hD hS hA hZ hN h_rd rfl rfl rfl hl.1 rfl (Nat.le_of_ble_eq_true rfl) dX4_isFreeBehind_5 ⟨(show 0 + 0 ≤ 0 by omega), (show 0 + 0 ≤ 0 by omega)⟩) (Nat.le_refl _) (Nat.le_refl _) (fun r H locs hw hP hD hS => ?_)
  obtain rfl := hw
  refine lv_istore_n (lv' := [(1, .int (nI (tx_el2 T n nx))), (0, .ref rd)]) hx hb dX4_isFreeBehind_8 rfl hl (by decide) rfl (fun ls hl => ?_)
  refine lv_aload_n hx hb dX4_isFreeBehind_9 rfl (lv_at hl 1 rfl) ?_
  refine o_get (D := D) (ci := 5) (v := .int (nI nx)) (C := RX4) (T := TX4) (N := 6) hx hb hts inX4 hown hK hP h_rd rfl 1 (by decide) (hts _ k_136) (fun _ h9 => h9) rfl dX4_isFreeBehind_10 ?_
  refine lv_istore_n (lv' := [(2, .int (nI nx)), (1, .int (nI (tx_el2 T n nx))), (0, .ref rd)]) hx hb dX4_isFreeBehind_13 rfl hl (by decide) rfl (fun ls hl => ?_)
  have hle := tx_el2_le T n nx
  by_cases hc : nx ≤ tx_el2 T n nx
  · have hc2 := hc
    refine rf_loop (e0 := tx_el2 T n nx) h_rd h_tp h_by hn hle (Nat.le_of_ble_eq_true rfl) (Nat.le_of_ble_eq_true rfl) (show 0 ≤ 0 by omega) (show 0 ≤ 0 by omega) hA hf hK hZ hN (tx_el2 T n nx - nx) nx _ _ ls (by omega) hP hD hS (lv_sub hl (l' := [(2, .int (nI nx)), (1, .int (nI (tx_el2 T n nx))), (0, .ref rd)]) [0, 1, 2] rfl) ?_ ?_
    · intro H locs ls a1 hP hD hS hl
      refine lv_iconst (v := 1) hx hb dX4_isFreeBehind_38 (by decide) ?_
      exact o_ri hf hr rfl hlocks hK hP hD hS (show 0 ≤ 0 by omega) (show 0 ≤ 0 by omega) ⟨Or.inl ⟨a1, rfl⟩, rfl, rfl⟩ dX4_isFreeBehind_39
    · intro H locs ls a1 hP hD hS hl
      refine lv_iconst (v := 0) hx hb dX4_isFreeBehind_30 (by decide) ?_
      exact o_ri hf hr rfl hlocks hK hP hD hS (show 0 ≤ 0 by omega) (show 0 ≤ 0 by omega) ⟨Or.inr ⟨a1, rfl⟩, rfl, rfl⟩ dX4_isFreeBehind_31
  · have hc2 := hc
    refine lv_iload_n hx hb dX4_isFreeBehind_14 rfl (lv_at hl 0 rfl) ?_
    refine lv_iload_n hx hb dX4_isFreeBehind_15 rfl (lv_at hl 1 rfl) ?_
    refine lv_icmp_ge (tgt := 38) hx hb dX4_isFreeBehind_16 (by decide) (fun c_1 => ?_) (fun c_1 => ?_)
    · have c_1 := q_le (a := tx_el2 T n nx) (b := nx) (by omega) (by omega) c_1
      refine lv_iconst (v := 1) hx hb dX4_isFreeBehind_38 (by decide) ?_
      exact o_ri hf hr rfl hlocks hK hP hD hS (show 0 ≤ 0 by omega) (show 0 ≤ 0 by omega) ⟨Or.inl ⟨by show tx_ab T (tx_el2 T n nx - nx) nx; rw [show tx_el2 T n nx - nx = 0 by omega]; exact tx_ab_0 T nx, rfl⟩, rfl, rfl⟩ dX4_isFreeBehind_39
    · have c_1 := q_nle (a := tx_el2 T n nx) (b := nx) (by omega) (by omega) c_1
      exact False.elim (by omega)
set_option maxHeartbeats 1000000 in
set_option maxRecDepth 100000 in
theorem rb_loop {p : Program} {l : Launch} {e : Env} {R : Room} {s : State} {m : MethodId} {args : Array Value} {below : List Frame} {meth : Method} {c : Code} {Q : State → Prop} {D : va_G} {A : Nat → Prop} {z : Nat → Nat} {cB cI_ cO : ClassId} {L0 : List Nat} {g0 : hG} {cells slots : Nat} {rd tp by_ n nx fm to_ : Nat} {T : Nat → Int32} {kd ka : Int32} (h_rd : ho L0 g0 rd 4 (.inr (5, [.ref tp, .int (nI nx), .int (nI fm), .int (nI to_), .int kd, .int ka]))) (h_tp : ho L0 g0 tp 2 (.inr (9, [.ref by_, .int (nI n)]))) (h_by : ho L0 g0 by_ 3 (.inl (cB, 1200, .inl T))) (hn : n ≤ 1200) (hto : to_ ≤ n) (hRf : 1 ≤ R.frames) (hRl : 21 ≤ R.locals) (hRc : cells ≤ R.cells) (hRs : slots ≤ R.slots) (hA : ∀ q : Nat, s.heap.size ≤ q → A q) (hf : CallFix p m c cX4_isBig 4 s args gT yX4_isBig.cls) (hK : va_K D vcl (dT cB cI_ cO) s) (hZ : zA z A s s.heap) (hN : zB z s) :
    ∀ (k : Nat) (i : Nat) (gg : Nat) (H : Heap) (locs : List Loc) (ls : Array Slot), i + k = to_ → gg ≤ 1 → va_P D vcl (dW L0 g0) H → va_D A (dW L0 g0) → va_S A s.heap H locs → lv_has ls 4 [(2, .int (nI i)), (1, .int (nI gg)), (0, .ref rd)] →
    (∀  (H : Heap) (locs : List Loc) (ls : Array Slot), tx_big T k i gg = 0 → va_P D vcl (dW L0 g0) H → va_D A (dW L0 g0) → va_S A s.heap H locs → lv_has ls 4 [(0, .ref rd)] → W p l e R s m args below meth c H locs cells slots Q (F0 m 36 ls [])) →
    (∀ (w : Nat) (H : Heap) (locs : List Loc) (ls : Array Slot), w = tx_big T k i gg → va_P D vcl (dW L0 g0) H → va_D A (dW L0 g0) → va_S A s.heap H locs → lv_has ls 4 [(1, .int (nI w)), (0, .ref rd)] → W p l e R s m args below meth c H locs cells slots Q (F0 m 66 ls [])) →
    W p l e R s m args below meth c H locs cells slots Q (F0 m 7 ls []) := by
  obtain ⟨hx, hb, hml, hown, hts⟩ := id hf
  intro k
  induction k with
  | zero =>
    intro i gg H locs ls hik hg1 hP hD hS hl kkR kkE
    refine lv_iload_n hx hb dX4_isBig_7 rfl (lv_at hl 0 rfl) ?_
    refine lv_aload_n hx hb dX4_isBig_8 rfl (lv_at hl 2 rfl) ?_
    refine o_get (D := D) (ci := 5) (v := .int (nI to_)) (C := RX4) (T := TX4) (N := 6) hx hb hts inX4 hown hK hP h_rd rfl 3 (by decide) (hts _ k_138) (fun _ h9 => h9) rfl dX4_isBig_9 ?_
    refine lv_icmp_ge (tgt := 66) hx hb dX4_isBig_12 (by decide) (fun c_1 => ?_) (fun c_1 => ?_)
    · have c_1 := q_le (a := to_) (b := i) (by omega) (by omega) c_1
      exact kkE gg H locs ls rfl hP hD hS (lv_sub hl (l' := [(1, .int (nI gg)), (0, .ref rd)]) [1, 2] rfl)
    · have c_1 := q_nle (a := to_) (b := i) (by omega) (by omega) c_1
      exact False.elim (by omega)
  | succ k ih =>
    intro i gg H locs ls hik hg1 hP hD hS hl kkR kkE
    refine lv_iload_n hx hb dX4_isBig_7 rfl (lv_at hl 0 rfl) ?_
    refine lv_aload_n hx hb dX4_isBig_8 rfl (lv_at hl 2 rfl) ?_
    refine o_get (D := D) (ci := 5) (v := .int (nI to_)) (C := RX4) (T := TX4) (N := 6) hx hb hts inX4 hown hK hP h_rd rfl 3 (by decide) (hts _ k_138) (fun _ h9 => h9) rfl dX4_isBig_9 ?_
    refine lv_icmp_ge (tgt := 66) hx hb dX4_isBig_12 (by decide) (fun c_1 => ?_) (fun c_1 => ?_)
    · have c_1 := q_le (a := to_) (b := i) (by omega) (by omega) c_1
      exact False.elim (by omega)
    · have c_1 := q_nle (a := to_) (b := i) (by omega) (by omega) c_1
      refine lv_aload_n hx hb dX4_isBig_15 rfl (lv_at hl 2 rfl) ?_
      refine o_get (D := D) (ci := 5) (v := .ref tp) (C := RX4) (T := TX4) (N := 6) hx hb hts inX4 hown hK hP h_rd rfl 0 (by decide) (hts _ k_135) (fun _ h9 => h9) rfl dX4_isBig_16 ?_
      refine lv_iload_n hx hb dX4_isBig_19 rfl (lv_at hl 0 rfl) ?_
      refine o_cis (k := cells) (n := slots) hK hP hD hS hA (o_rV (As := [.int (nI i)]) (rest := []) hf (t_atI _ _ _ _ _ _ _ _ tp by_ n T i h_tp h_by hn (by omega) _) k_200 k_511 k_198 k_199 k_85 (nA := 1) (by decide +kernel) ⟨Nat.le_trans (by decide) hRf, Nat.le_trans (by decide) hRl⟩ hK hP hD hS hA hZ hN h_tp rfl rfl rfl hl.1 rfl (Nat.le_of_ble_eq_true rfl) dX4_isBig_20 ⟨(show cells + 0 ≤ R.cells by omega), (show slots + 0 ≤ R.slots by omega)⟩) (Nat.le_refl _) (Nat.le_refl _) (fun r H locs hw hP hD hS => ?_)
      obtain rfl := hw
      refine lv_istore_n (lv' := [(3, .int (T i)), (2, .int (nI i)), (1, .int (nI gg)), (0, .ref rd)]) hx hb dX4_isBig_23 rfl hl (by decide) rfl (fun ls hl => ?_)
      refine lv_iload_n hx hb dX4_isBig_24 rfl (lv_at hl 0 rfl) ?_
      refine lv_bipush (v := 97) hx hb dX4_isBig_25 (by decide) ?_
      refine lv_icmp_lt (tgt := 38) hx hb dX4_isBig_27 (by decide) (fun c_2 => ?_) (fun c_2 => ?_)
      · refine lv_iload_n hx hb dX4_isBig_38 rfl (lv_at hl 2 rfl) ?_
        by_cases hg : gg = 1
        · refine lv_if_ne (tgt := 54) hx hb dX4_isBig_39 (by decide) (fun _ => ?_) (fun hno => absurd (q_eqn (a := gg) (b := 0) (by omega) (by decide) hno) (by omega))
          refine lv_iconst (v := 1) hx hb dX4_isBig_54 (by decide) ?_
          refine lv_goto (tgt := 59) hx hb dX4_isBig_55 (by decide) ?_
          refine lv_istore_n (lv' := [(1, .int 1), (3, .int (T i)), (2, .int (nI i)), (0, .ref rd)]) hx hb dX4_isBig_59 rfl hl (by decide) rfl (fun ls hl => ?_)
          refine lv_iinc (v := nI (i + 1)) (lv' := [(2, .int (nI (i + 1))), (1, .int 1), (3, .int (T i)), (0, .ref rd)]) hx hb dX4_isBig_60 hl (k := 2) rfl (nI_addE (a := i) (b := 1) (by omega)) (by decide) rfl (fun ls hl => ?_)
          refine lv_goto (tgt := 7) hx hb dX4_isBig_63 (by decide) ?_
          exact ih (i + 1) 1 H locs ls (by omega) (by omega) hP hD hS (lv_sub hl (l' := [(2, .int (nI (i + 1))), (1, .int 1), (0, .ref rd)]) [0, 1, 3] rfl) (fun H locs ls hz => kkR H locs ls ((tx_big_a c_2 (tx_up_1 hg)).trans hz)) (fun w H locs ls hz => kkE w H locs ls (hz.trans (tx_big_a c_2 (tx_up_1 hg)).symm))
        · refine lv_if_ne (tgt := 54) hx hb dX4_isBig_39 (by decide) (fun hno => absurd (congrArg nI (show gg = 0 by omega)) hno) (fun _ => ?_)
          refine lv_iload_n hx hb dX4_isBig_42 rfl (lv_at hl 0 rfl) ?_
          refine lv_bipush (v := 65) hx hb dX4_isBig_43 (by decide) ?_
          refine lv_icmp_lt (tgt := 58) hx hb dX4_isBig_45 (by decide) (fun c_3 => ?_) (fun c_3 => ?_)
          · refine lv_iconst (v := 0) hx hb dX4_isBig_58 (by decide) ?_
            refine lv_istore_n (lv' := [(1, .int 0), (3, .int (T i)), (2, .int (nI i)), (0, .ref rd)]) hx hb dX4_isBig_59 rfl hl (by decide) rfl (fun ls hl => ?_)
            refine lv_iinc (v := nI (i + 1)) (lv' := [(2, .int (nI (i + 1))), (1, .int 0), (3, .int (T i)), (0, .ref rd)]) hx hb dX4_isBig_60 hl (k := 2) rfl (nI_addE (a := i) (b := 1) (by omega)) (by decide) rfl (fun ls hl => ?_)
            refine lv_goto (tgt := 7) hx hb dX4_isBig_63 (by decide) ?_
            exact ih (i + 1) 0 H locs ls (by omega) (by omega) hP hD hS (lv_sub hl (l' := [(2, .int (nI (i + 1))), (1, .int 0), (0, .ref rd)]) [0, 1, 3] rfl) (fun H locs ls hz => kkR H locs ls ((tx_big_a c_2 (tx_up_a hg c_3)).trans hz)) (fun w H locs ls hz => kkE w H locs ls (hz.trans (tx_big_a c_2 (tx_up_a hg c_3)).symm))
          · refine lv_iload_n hx hb dX4_isBig_48 rfl (lv_at hl 0 rfl) ?_
            refine lv_bipush (v := 90) hx hb dX4_isBig_49 (by decide) ?_
            refine lv_icmp_gt (tgt := 58) hx hb dX4_isBig_51 (by decide) (fun c_4 => ?_) (fun c_4 => ?_)
            · refine lv_iconst (v := 0) hx hb dX4_isBig_58 (by decide) ?_
              refine lv_istore_n (lv' := [(1, .int 0), (3, .int (T i)), (2, .int (nI i)), (0, .ref rd)]) hx hb dX4_isBig_59 rfl hl (by decide) rfl (fun ls hl => ?_)
              refine lv_iinc (v := nI (i + 1)) (lv' := [(2, .int (nI (i + 1))), (1, .int 0), (3, .int (T i)), (0, .ref rd)]) hx hb dX4_isBig_60 hl (k := 2) rfl (nI_addE (a := i) (b := 1) (by omega)) (by decide) rfl (fun ls hl => ?_)
              refine lv_goto (tgt := 7) hx hb dX4_isBig_63 (by decide) ?_
              exact ih (i + 1) 0 H locs ls (by omega) (by omega) hP hD hS (lv_sub hl (l' := [(2, .int (nI (i + 1))), (1, .int 0), (0, .ref rd)]) [0, 1, 3] rfl) (fun H locs ls hz => kkR H locs ls ((tx_big_a c_2 (tx_up_b hg c_3 c_4)).trans hz)) (fun w H locs ls hz => kkE w H locs ls (hz.trans (tx_big_a c_2 (tx_up_b hg c_3 c_4)).symm))
            · refine lv_iconst (v := 1) hx hb dX4_isBig_54 (by decide) ?_
              refine lv_goto (tgt := 59) hx hb dX4_isBig_55 (by decide) ?_
              refine lv_istore_n (lv' := [(1, .int 1), (3, .int (T i)), (2, .int (nI i)), (0, .ref rd)]) hx hb dX4_isBig_59 rfl hl (by decide) rfl (fun ls hl => ?_)
              refine lv_iinc (v := nI (i + 1)) (lv' := [(2, .int (nI (i + 1))), (1, .int 1), (3, .int (T i)), (0, .ref rd)]) hx hb dX4_isBig_60 hl (k := 2) rfl (nI_addE (a := i) (b := 1) (by omega)) (by decide) rfl (fun ls hl => ?_)
              refine lv_goto (tgt := 7) hx hb dX4_isBig_63 (by decide) ?_
              exact ih (i + 1) 1 H locs ls (by omega) (by omega) hP hD hS (lv_sub hl (l' := [(2, .int (nI (i + 1))), (1, .int 1), (0, .ref rd)]) [0, 1, 3] rfl) (fun H locs ls hz => kkR H locs ls ((tx_big_a c_2 (tx_up_c hg c_3 c_4)).trans hz)) (fun w H locs ls hz => kkE w H locs ls (hz.trans (tx_big_a c_2 (tx_up_c hg c_3 c_4)).symm))
      · refine lv_iload_n hx hb dX4_isBig_30 rfl (lv_at hl 0 rfl) ?_
        refine lv_bipush (v := 122) hx hb dX4_isBig_31 (by decide) ?_
        refine lv_icmp_gt (tgt := 38) hx hb dX4_isBig_33 (by decide) (fun c_5 => ?_) (fun c_5 => ?_)
        · refine lv_iload_n hx hb dX4_isBig_38 rfl (lv_at hl 2 rfl) ?_
          by_cases hg : gg = 1
          · refine lv_if_ne (tgt := 54) hx hb dX4_isBig_39 (by decide) (fun _ => ?_) (fun hno => absurd (q_eqn (a := gg) (b := 0) (by omega) (by decide) hno) (by omega))
            refine lv_iconst (v := 1) hx hb dX4_isBig_54 (by decide) ?_
            refine lv_goto (tgt := 59) hx hb dX4_isBig_55 (by decide) ?_
            refine lv_istore_n (lv' := [(1, .int 1), (3, .int (T i)), (2, .int (nI i)), (0, .ref rd)]) hx hb dX4_isBig_59 rfl hl (by decide) rfl (fun ls hl => ?_)
            refine lv_iinc (v := nI (i + 1)) (lv' := [(2, .int (nI (i + 1))), (1, .int 1), (3, .int (T i)), (0, .ref rd)]) hx hb dX4_isBig_60 hl (k := 2) rfl (nI_addE (a := i) (b := 1) (by omega)) (by decide) rfl (fun ls hl => ?_)
            refine lv_goto (tgt := 7) hx hb dX4_isBig_63 (by decide) ?_
            exact ih (i + 1) 1 H locs ls (by omega) (by omega) hP hD hS (lv_sub hl (l' := [(2, .int (nI (i + 1))), (1, .int 1), (0, .ref rd)]) [0, 1, 3] rfl) (fun H locs ls hz => kkR H locs ls ((tx_big_b c_2 c_5 (tx_up_1 hg)).trans hz)) (fun w H locs ls hz => kkE w H locs ls (hz.trans (tx_big_b c_2 c_5 (tx_up_1 hg)).symm))
          · refine lv_if_ne (tgt := 54) hx hb dX4_isBig_39 (by decide) (fun hno => absurd (congrArg nI (show gg = 0 by omega)) hno) (fun _ => ?_)
            refine lv_iload_n hx hb dX4_isBig_42 rfl (lv_at hl 0 rfl) ?_
            refine lv_bipush (v := 65) hx hb dX4_isBig_43 (by decide) ?_
            refine lv_icmp_lt (tgt := 58) hx hb dX4_isBig_45 (by decide) (fun c_6 => ?_) (fun c_6 => ?_)
            · exact False.elim (q_emp_ws c_2 c_6 (by decide))
            · refine lv_iload_n hx hb dX4_isBig_48 rfl (lv_at hl 0 rfl) ?_
              refine lv_bipush (v := 90) hx hb dX4_isBig_49 (by decide) ?_
              refine lv_icmp_gt (tgt := 58) hx hb dX4_isBig_51 (by decide) (fun c_7 => ?_) (fun c_7 => ?_)
              · refine lv_iconst (v := 0) hx hb dX4_isBig_58 (by decide) ?_
                refine lv_istore_n (lv' := [(1, .int 0), (3, .int (T i)), (2, .int (nI i)), (0, .ref rd)]) hx hb dX4_isBig_59 rfl hl (by decide) rfl (fun ls hl => ?_)
                refine lv_iinc (v := nI (i + 1)) (lv' := [(2, .int (nI (i + 1))), (1, .int 0), (3, .int (T i)), (0, .ref rd)]) hx hb dX4_isBig_60 hl (k := 2) rfl (nI_addE (a := i) (b := 1) (by omega)) (by decide) rfl (fun ls hl => ?_)
                refine lv_goto (tgt := 7) hx hb dX4_isBig_63 (by decide) ?_
                exact ih (i + 1) 0 H locs ls (by omega) (by omega) hP hD hS (lv_sub hl (l' := [(2, .int (nI (i + 1))), (1, .int 0), (0, .ref rd)]) [0, 1, 3] rfl) (fun H locs ls hz => kkR H locs ls ((tx_big_b c_2 c_5 (tx_up_b hg c_6 c_7)).trans hz)) (fun w H locs ls hz => kkE w H locs ls (hz.trans (tx_big_b c_2 c_5 (tx_up_b hg c_6 c_7)).symm))
              · exact False.elim (q_emp_ww c_2 c_7 (by decide))
        · exact kkR H locs ls (tx_big_c c_2 c_5) hP hD hS (lv_sub hl (l' := [(0, .ref rd)]) [3] rfl)
set_option maxHeartbeats 1000000 in
set_option maxRecDepth 100000 in
theorem r_big (l : Launch) (D : va_G) (z : Nat → Nat) (cB cI_ cO : ClassId) (L0 : List Nat) (g0 : hG) (rd tp by_ n nx fm to_ : Nat) (T : Nat → Int32) (kd ka : Int32) (h_rd : ho L0 g0 rd 4 (.inr (5, [.ref tp, .int (nI nx), .int (nI fm), .int (nI to_), .int kd, .int ka]))) (h_tp : ho L0 g0 tp 2 (.inr (9, [.ref by_, .int (nI n)]))) (h_by : ho L0 g0 by_ 3 (.inl (cB, 1200, .inl T))) (hn : n ≤ 1200) (hto : to_ ≤ n) (hft : fm ≤ to_) : eIs l D yX4_isBig cX4_isBig 4 (some .boolean) 1 21 0 0 [.ref rd] z cB cI_ cO L0 g0 (fun r => (tx_isbig T fm to_ ∧ r = 1 ∨ ¬ tx_isbig T fm to_ ∧ r = 0)) := by
  refine o_si (by decide) (Nat.le_of_ble_eq_true rfl) ?_
  intro p e s m below meth c A ls hf hr hlocks hin hK hP hD hS hA hZ hN hl
  obtain ⟨hx, hb, hml, hown, hts⟩ := id hf
  have hl : lv_has ls 4 [(0, .ref rd)] := hl
  refine lv_iconst (v := 0) hx hb dX4_isBig_0 (by decide) ?_
  refine lv_istore_n (lv' := [(1, .int 0), (0, .ref rd)]) hx hb dX4_isBig_1 rfl hl (by decide) rfl (fun ls hl => ?_)
  refine lv_aload_n hx hb dX4_isBig_2 rfl (lv_at hl 1 rfl) ?_
  refine o_get (D := D) (ci := 5) (v := .int (nI fm)) (C := RX4) (T := TX4) (N := 6) hx hb hts inX4 hown hK hP h_rd rfl 2 (by decide) (hts _ k_137) (fun _ h9 => h9) rfl dX4_isBig_3 ?_
  refine lv_istore_n (lv' := [(2, .int (nI fm)), (1, .int 0), (0, .ref rd)]) hx hb dX4_isBig_6 rfl hl (by decide) rfl (fun ls hl => ?_)
  refine rb_loop  h_rd h_tp h_by hn hto (Nat.le_of_ble_eq_true rfl) (Nat.le_of_ble_eq_true rfl) (show 0 ≤ 0 by omega) (show 0 ≤ 0 by omega) hA hf hK hZ hN (to_ - fm) fm 0 _ _ ls (by omega) (by omega) hP hD hS (lv_sub hl (l' := [(2, .int (nI fm)), (1, .int 0), (0, .ref rd)]) [0, 1, 2] rfl) ?_ ?_
  · intro H locs ls hz hP hD hS hl
    refine lv_iconst (v := 0) hx hb dX4_isBig_36 (by decide) ?_
    exact o_ri hf hr rfl hlocks hK hP hD hS (show 0 ≤ 0 by omega) (show 0 ≤ 0 by omega) ⟨Or.inr ⟨fun h => absurd (hz.symm.trans h) (by decide), rfl⟩, rfl, rfl⟩ dX4_isBig_37
  · intro w H locs ls hz hP hD hS hl
    have hz1 := tx_big_01 T (to_ - fm) fm 0 (by omega)
    rw [← hz] at hz1
    have hz01 : w = 1 ∨ w = 0 := by omega
    rcases hz01 with rfl | rfl
    · have hP := hP
      refine lv_iload_n hx hb dX4_isBig_66 rfl (lv_at hl 0 rfl) ?_
      exact o_ri hf hr rfl hlocks hK hP hD hS (show 0 ≤ 0 by omega) (show 0 ≤ 0 by omega) ⟨Or.inl ⟨hz.symm, rfl⟩, rfl, rfl⟩ dX4_isBig_67
    · have hP := hP
      refine lv_iload_n hx hb dX4_isBig_66 rfl (lv_at hl 0 rfl) ?_
      exact o_ri hf hr rfl hlocks hK hP hD hS (show 0 ≤ 0 by omega) (show 0 ≤ 0 by omega) ⟨Or.inr ⟨fun h => absurd (hz.trans h) (by decide), rfl⟩, rfl, rfl⟩ dX4_isBig_67
set_option maxHeartbeats 1000000 in
set_option maxRecDepth 100000 in
theorem r_begins_0 (l : Launch) (D : va_G) (z : Nat → Nat) (cB cI_ cO : ClassId) (L0 : List Nat) (g0 : hG) (rd tp by_ n nx fm to_ : Nat) (T : Nat → Int32) (kd ka : Int32) (h_rd : ho L0 g0 rd 4 (.inr (5, [.ref tp, .int (nI nx), .int (nI fm), .int (nI to_), .int kd, .int ka]))) (h_tp : ho L0 g0 tp 2 (.inr (9, [.ref by_, .int (nI n)]))) (h_by : ho L0 g0 by_ 3 (.inl (cB, 1200, .inl T))) (hn : n ≤ 1200) (hto : to_ ≤ n) (hft : fm ≤ to_) : eIs l D yX4_lineBeginsWith cX4_lineBeginsWith 3 (some .boolean) 4 85 0 0 [.ref rd, .ref (z 2)] z cB cI_ cO L0 g0 (fun r => (tx_beg T fm to_ 73 78 84 ∧ r = 1 ∨ ¬ tx_beg T fm to_ 73 78 84 ∧ r = 0)) := by
  refine o_si (by decide) (Nat.le_of_ble_eq_true rfl) ?_
  intro p e s m below meth c A ls hf hr hlocks hin hK hP hD hS hA hZ hN hl
  obtain ⟨hx, hb, hml, hown, hts⟩ := id hf
  have hl : lv_has ls 3 [(0, .ref rd), (1, .ref (z 2))] := hl
  refine lv_aload_n hx hb dX4_lineBeginsWith_0 rfl (lv_at hl 0 rfl) ?_
  refine o_get (D := D) (ci := 5) (v := .int (nI to_)) (C := RX4) (T := TX4) (N := 6) hx hb hts inX4 hown hK hP h_rd rfl 3 (by decide) (hts _ k_138) (fun _ h9 => h9) rfl dX4_lineBeginsWith_1 ?_
  refine lv_aload_n hx hb dX4_lineBeginsWith_4 rfl (lv_at hl 0 rfl) ?_
  refine o_get (D := D) (ci := 5) (v := .int (nI fm)) (C := RX4) (T := TX4) (N := 6) hx hb hts inX4 hown hK hP h_rd rfl 2 (by decide) (hts _ k_137) (fun _ h9 => h9) rfl dX4_lineBeginsWith_5 ?_
  refine lv_isub hx hb dX4_lineBeginsWith_8 ?_
  refine q_seti (y := nI (to_ - fm)) (nI_subE (a := to_) (b := fm) (by omega) (by omega)) ?_
  refine lv_aload_n hx hb dX4_lineBeginsWith_9 rfl (lv_at hl 1 rfl) ?_
  refine o_cis (k := 0) (n := 0) hK hP hD hS hA (o_rX (b := z 2) (As := []) (rest := [.int (nI (to_ - fm))]) hf (s_length_0 _ _ _ _ _ _ _ _ _) k_536 k_533 k_534 k_535 k_99 (nA := 0) (by decide +kernel) ⟨Nat.le_of_ble_eq_true rfl, Nat.le_of_ble_eq_true rfl⟩ hK hP hD hS hA hZ hN (vk_recv (i := 0) hZ.2.2.2.2.2.1 (by decide) hS) rfl hl.1 rfl (Nat.le_of_ble_eq_true rfl) dX4_lineBeginsWith_10 ⟨(show 0 + 0 ≤ 0 by omega), (show 0 + 0 ≤ 0 by omega)⟩) (Nat.le_refl _) (Nat.le_refl _) (fun r H locs hw hP hD hS => ?_)
  obtain rfl := hw
  refine lv_icmp_ge (tgt := 18) hx hb dX4_lineBeginsWith_13 (by decide) (fun c_1 => ?_) (fun c_1 => ?_)
  · have c_1 := q_le (a := 4) (b := to_ - fm) (by omega) (by omega) c_1
    refine lv_iconst (v := 0) hx hb dX4_lineBeginsWith_18 (by decide) ?_
    refine lv_istore_n (lv' := [(2, .int 0), (0, .ref rd), (1, .ref (z 2))]) hx hb dX4_lineBeginsWith_19 rfl hl (by decide) rfl (fun ls hl => ?_)
    refine lv_iload_n hx hb dX4_lineBeginsWith_20 rfl (lv_at hl 0 rfl) ?_
    refine lv_aload_n hx hb dX4_lineBeginsWith_21 rfl (lv_at hl 2 rfl) ?_
    refine o_cis (k := 0) (n := 0) hK hP hD hS hA (o_rX (b := z 2) (As := []) (rest := [.int 0]) hf (s_length_0 _ _ _ _ _ _ _ _ _) k_536 k_533 k_534 k_535 k_99 (nA := 0) (by decide +kernel) ⟨Nat.le_of_ble_eq_true rfl, Nat.le_of_ble_eq_true rfl⟩ hK hP hD hS hA hZ hN (vk_recv (i := 0) hZ.2.2.2.2.2.1 (by decide) hS) rfl hl.1 rfl (Nat.le_of_ble_eq_true rfl) dX4_lineBeginsWith_22 ⟨(show 0 + 0 ≤ 0 by omega), (show 0 + 0 ≤ 0 by omega)⟩) (Nat.le_refl _) (Nat.le_refl _) (fun r H locs hw hP hD hS => ?_)
    obtain rfl := hw
    refine lv_icmp_ge (tgt := 57) hx hb dX4_lineBeginsWith_25 (by decide) (fun hno => absurd hno (by decide)) (fun _ => ?_)
    refine lv_aload_n hx hb dX4_lineBeginsWith_28 rfl (lv_at hl 1 rfl) ?_
    refine o_get (D := D) (ci := 5) (v := .ref tp) (C := RX4) (T := TX4) (N := 6) hx hb hts inX4 hown hK hP h_rd rfl 0 (by decide) (hts _ k_135) (fun _ h9 => h9) rfl dX4_lineBeginsWith_29 ?_
    refine lv_aload_n hx hb dX4_lineBeginsWith_32 rfl (lv_at hl 1 rfl) ?_
    refine o_get (D := D) (ci := 5) (v := .int (nI fm)) (C := RX4) (T := TX4) (N := 6) hx hb hts inX4 hown hK hP h_rd rfl 2 (by decide) (hts _ k_137) (fun _ h9 => h9) rfl dX4_lineBeginsWith_33 ?_
    refine lv_iload_n hx hb dX4_lineBeginsWith_36 rfl (lv_at hl 0 rfl) ?_
    refine lv_iadd hx hb dX4_lineBeginsWith_37 ?_
    refine q_seti (y := nI (fm)) (nI_addE (a := fm) (b := 0) (by omega)) ?_
    refine o_cis (k := 0) (n := 0) hK hP hD hS hA (o_rV (As := [.int (nI fm)]) (rest := []) hf (t_atI _ _ _ _ _ _ _ _ tp by_ n T fm h_tp h_by hn (by omega) _) k_200 k_511 k_198 k_199 k_85 (nA := 1) (by decide +kernel) ⟨Nat.le_of_ble_eq_true rfl, Nat.le_of_ble_eq_true rfl⟩ hK hP hD hS hA hZ hN h_tp rfl rfl rfl hl.1 rfl (Nat.le_of_ble_eq_true rfl) dX4_lineBeginsWith_38 ⟨(show 0 + 0 ≤ 0 by omega), (show 0 + 0 ≤ 0 by omega)⟩) (Nat.le_refl _) (Nat.le_refl _) (fun r H locs hw hP hD hS => ?_)
    obtain rfl := hw
    refine lv_aload_n hx hb dX4_lineBeginsWith_41 rfl (lv_at hl 2 rfl) ?_
    refine lv_iload_n hx hb dX4_lineBeginsWith_42 rfl (lv_at hl 0 rfl) ?_
    refine o_cis (k := 0) (n := 0) hK hP hD hS hA (o_rX (b := z 2) (As := [.int 0]) (rest := [.int (T fm)]) hf (s_charAt_00 _ _ _ _ _ _ _ _ _) k_546 k_543 k_544 k_545 k_99 (nA := 1) (by decide +kernel) ⟨Nat.le_of_ble_eq_true rfl, Nat.le_of_ble_eq_true rfl⟩ hK hP hD hS hA hZ hN (vk_recv (i := 0) hZ.2.2.2.2.2.1 (by decide) hS) rfl hl.1 rfl (Nat.le_of_ble_eq_true rfl) dX4_lineBeginsWith_43 ⟨(show 0 + 0 ≤ 0 by omega), (show 0 + 0 ≤ 0 by omega)⟩) (Nat.le_refl _) (Nat.le_refl _) (fun r H locs hw hP hD hS => ?_)
    obtain rfl := hw
    refine lv_icmp_eq (tgt := 51) hx hb dX4_lineBeginsWith_46 (by decide) (fun c_2 => ?_) (fun c_2 => ?_)
    · refine lv_iinc (v := 1) (lv' := [(2, .int 1), (0, .ref rd), (1, .ref (z 2))]) hx hb dX4_lineBeginsWith_51 hl (k := 0) rfl (by decide) (by decide) rfl (fun ls hl => ?_)
      refine lv_goto (tgt := 20) hx hb dX4_lineBeginsWith_54 (by decide) ?_
      refine lv_iload_n hx hb dX4_lineBeginsWith_20 rfl (lv_at hl 0 rfl) ?_
      refine lv_aload_n hx hb dX4_lineBeginsWith_21 rfl (lv_at hl 2 rfl) ?_
      refine o_cis (k := 0) (n := 0) hK hP hD hS hA (o_rX (b := z 2) (As := []) (rest := [.int 1]) hf (s_length_0 _ _ _ _ _ _ _ _ _) k_536 k_533 k_534 k_535 k_99 (nA := 0) (by decide +kernel) ⟨Nat.le_of_ble_eq_true rfl, Nat.le_of_ble_eq_true rfl⟩ hK hP hD hS hA hZ hN (vk_recv (i := 0) hZ.2.2.2.2.2.1 (by decide) hS) rfl hl.1 rfl (Nat.le_of_ble_eq_true rfl) dX4_lineBeginsWith_22 ⟨(show 0 + 0 ≤ 0 by omega), (show 0 + 0 ≤ 0 by omega)⟩) (Nat.le_refl _) (Nat.le_refl _) (fun r H locs hw hP hD hS => ?_)
      obtain rfl := hw
      refine lv_icmp_ge (tgt := 57) hx hb dX4_lineBeginsWith_25 (by decide) (fun hno => absurd hno (by decide)) (fun _ => ?_)
      refine lv_aload_n hx hb dX4_lineBeginsWith_28 rfl (lv_at hl 1 rfl) ?_
      refine o_get (D := D) (ci := 5) (v := .ref tp) (C := RX4) (T := TX4) (N := 6) hx hb hts inX4 hown hK hP h_rd rfl 0 (by decide) (hts _ k_135) (fun _ h9 => h9) rfl dX4_lineBeginsWith_29 ?_
      refine lv_aload_n hx hb dX4_lineBeginsWith_32 rfl (lv_at hl 1 rfl) ?_
      refine o_get (D := D) (ci := 5) (v := .int (nI fm)) (C := RX4) (T := TX4) (N := 6) hx hb hts inX4 hown hK hP h_rd rfl 2 (by decide) (hts _ k_137) (fun _ h9 => h9) rfl dX4_lineBeginsWith_33 ?_
      refine lv_iload_n hx hb dX4_lineBeginsWith_36 rfl (lv_at hl 0 rfl) ?_
      refine lv_iadd hx hb dX4_lineBeginsWith_37 ?_
      refine q_seti (y := nI (fm + 1)) (nI_addE (a := fm) (b := 1) (by omega)) ?_
      refine o_cis (k := 0) (n := 0) hK hP hD hS hA (o_rV (As := [.int (nI (fm + 1))]) (rest := []) hf (t_atI _ _ _ _ _ _ _ _ tp by_ n T (fm + 1) h_tp h_by hn (by omega) _) k_200 k_511 k_198 k_199 k_85 (nA := 1) (by decide +kernel) ⟨Nat.le_of_ble_eq_true rfl, Nat.le_of_ble_eq_true rfl⟩ hK hP hD hS hA hZ hN h_tp rfl rfl rfl hl.1 rfl (Nat.le_of_ble_eq_true rfl) dX4_lineBeginsWith_38 ⟨(show 0 + 0 ≤ 0 by omega), (show 0 + 0 ≤ 0 by omega)⟩) (Nat.le_refl _) (Nat.le_refl _) (fun r H locs hw hP hD hS => ?_)
      obtain rfl := hw
      refine lv_aload_n hx hb dX4_lineBeginsWith_41 rfl (lv_at hl 2 rfl) ?_
      refine lv_iload_n hx hb dX4_lineBeginsWith_42 rfl (lv_at hl 0 rfl) ?_
      refine o_cis (k := 0) (n := 0) hK hP hD hS hA (o_rX (b := z 2) (As := [.int 1]) (rest := [.int (T (fm + 1))]) hf (s_charAt_01 _ _ _ _ _ _ _ _ _) k_546 k_543 k_544 k_545 k_99 (nA := 1) (by decide +kernel) ⟨Nat.le_of_ble_eq_true rfl, Nat.le_of_ble_eq_true rfl⟩ hK hP hD hS hA hZ hN (vk_recv (i := 0) hZ.2.2.2.2.2.1 (by decide) hS) rfl hl.1 rfl (Nat.le_of_ble_eq_true rfl) dX4_lineBeginsWith_43 ⟨(show 0 + 0 ≤ 0 by omega), (show 0 + 0 ≤ 0 by omega)⟩) (Nat.le_refl _) (Nat.le_refl _) (fun r H locs hw hP hD hS => ?_)
      obtain rfl := hw
      refine lv_icmp_eq (tgt := 51) hx hb dX4_lineBeginsWith_46 (by decide) (fun c_3 => ?_) (fun c_3 => ?_)
      · refine lv_iinc (v := 2) (lv' := [(2, .int 2), (0, .ref rd), (1, .ref (z 2))]) hx hb dX4_lineBeginsWith_51 hl (k := 0) rfl (by decide) (by decide) rfl (fun ls hl => ?_)
        refine lv_goto (tgt := 20) hx hb dX4_lineBeginsWith_54 (by decide) ?_
        refine lv_iload_n hx hb dX4_lineBeginsWith_20 rfl (lv_at hl 0 rfl) ?_
        refine lv_aload_n hx hb dX4_lineBeginsWith_21 rfl (lv_at hl 2 rfl) ?_
        refine o_cis (k := 0) (n := 0) hK hP hD hS hA (o_rX (b := z 2) (As := []) (rest := [.int 2]) hf (s_length_0 _ _ _ _ _ _ _ _ _) k_536 k_533 k_534 k_535 k_99 (nA := 0) (by decide +kernel) ⟨Nat.le_of_ble_eq_true rfl, Nat.le_of_ble_eq_true rfl⟩ hK hP hD hS hA hZ hN (vk_recv (i := 0) hZ.2.2.2.2.2.1 (by decide) hS) rfl hl.1 rfl (Nat.le_of_ble_eq_true rfl) dX4_lineBeginsWith_22 ⟨(show 0 + 0 ≤ 0 by omega), (show 0 + 0 ≤ 0 by omega)⟩) (Nat.le_refl _) (Nat.le_refl _) (fun r H locs hw hP hD hS => ?_)
        obtain rfl := hw
        refine lv_icmp_ge (tgt := 57) hx hb dX4_lineBeginsWith_25 (by decide) (fun hno => absurd hno (by decide)) (fun _ => ?_)
        refine lv_aload_n hx hb dX4_lineBeginsWith_28 rfl (lv_at hl 1 rfl) ?_
        refine o_get (D := D) (ci := 5) (v := .ref tp) (C := RX4) (T := TX4) (N := 6) hx hb hts inX4 hown hK hP h_rd rfl 0 (by decide) (hts _ k_135) (fun _ h9 => h9) rfl dX4_lineBeginsWith_29 ?_
        refine lv_aload_n hx hb dX4_lineBeginsWith_32 rfl (lv_at hl 1 rfl) ?_
        refine o_get (D := D) (ci := 5) (v := .int (nI fm)) (C := RX4) (T := TX4) (N := 6) hx hb hts inX4 hown hK hP h_rd rfl 2 (by decide) (hts _ k_137) (fun _ h9 => h9) rfl dX4_lineBeginsWith_33 ?_
        refine lv_iload_n hx hb dX4_lineBeginsWith_36 rfl (lv_at hl 0 rfl) ?_
        refine lv_iadd hx hb dX4_lineBeginsWith_37 ?_
        refine q_seti (y := nI (fm + 2)) (nI_addE (a := fm) (b := 2) (by omega)) ?_
        refine o_cis (k := 0) (n := 0) hK hP hD hS hA (o_rV (As := [.int (nI (fm + 2))]) (rest := []) hf (t_atI _ _ _ _ _ _ _ _ tp by_ n T (fm + 2) h_tp h_by hn (by omega) _) k_200 k_511 k_198 k_199 k_85 (nA := 1) (by decide +kernel) ⟨Nat.le_of_ble_eq_true rfl, Nat.le_of_ble_eq_true rfl⟩ hK hP hD hS hA hZ hN h_tp rfl rfl rfl hl.1 rfl (Nat.le_of_ble_eq_true rfl) dX4_lineBeginsWith_38 ⟨(show 0 + 0 ≤ 0 by omega), (show 0 + 0 ≤ 0 by omega)⟩) (Nat.le_refl _) (Nat.le_refl _) (fun r H locs hw hP hD hS => ?_)
        obtain rfl := hw
        refine lv_aload_n hx hb dX4_lineBeginsWith_41 rfl (lv_at hl 2 rfl) ?_
        refine lv_iload_n hx hb dX4_lineBeginsWith_42 rfl (lv_at hl 0 rfl) ?_
        refine o_cis (k := 0) (n := 0) hK hP hD hS hA (o_rX (b := z 2) (As := [.int 2]) (rest := [.int (T (fm + 2))]) hf (s_charAt_02 _ _ _ _ _ _ _ _ _) k_546 k_543 k_544 k_545 k_99 (nA := 1) (by decide +kernel) ⟨Nat.le_of_ble_eq_true rfl, Nat.le_of_ble_eq_true rfl⟩ hK hP hD hS hA hZ hN (vk_recv (i := 0) hZ.2.2.2.2.2.1 (by decide) hS) rfl hl.1 rfl (Nat.le_of_ble_eq_true rfl) dX4_lineBeginsWith_43 ⟨(show 0 + 0 ≤ 0 by omega), (show 0 + 0 ≤ 0 by omega)⟩) (Nat.le_refl _) (Nat.le_refl _) (fun r H locs hw hP hD hS => ?_)
        obtain rfl := hw
        refine lv_icmp_eq (tgt := 51) hx hb dX4_lineBeginsWith_46 (by decide) (fun c_4 => ?_) (fun c_4 => ?_)
        · refine lv_iinc (v := 3) (lv' := [(2, .int 3), (0, .ref rd), (1, .ref (z 2))]) hx hb dX4_lineBeginsWith_51 hl (k := 0) rfl (by decide) (by decide) rfl (fun ls hl => ?_)
          refine lv_goto (tgt := 20) hx hb dX4_lineBeginsWith_54 (by decide) ?_
          refine lv_iload_n hx hb dX4_lineBeginsWith_20 rfl (lv_at hl 0 rfl) ?_
          refine lv_aload_n hx hb dX4_lineBeginsWith_21 rfl (lv_at hl 2 rfl) ?_
          refine o_cis (k := 0) (n := 0) hK hP hD hS hA (o_rX (b := z 2) (As := []) (rest := [.int 3]) hf (s_length_0 _ _ _ _ _ _ _ _ _) k_536 k_533 k_534 k_535 k_99 (nA := 0) (by decide +kernel) ⟨Nat.le_of_ble_eq_true rfl, Nat.le_of_ble_eq_true rfl⟩ hK hP hD hS hA hZ hN (vk_recv (i := 0) hZ.2.2.2.2.2.1 (by decide) hS) rfl hl.1 rfl (Nat.le_of_ble_eq_true rfl) dX4_lineBeginsWith_22 ⟨(show 0 + 0 ≤ 0 by omega), (show 0 + 0 ≤ 0 by omega)⟩) (Nat.le_refl _) (Nat.le_refl _) (fun r H locs hw hP hD hS => ?_)
          obtain rfl := hw
          refine lv_icmp_ge (tgt := 57) hx hb dX4_lineBeginsWith_25 (by decide) (fun hno => absurd hno (by decide)) (fun _ => ?_)
          refine lv_aload_n hx hb dX4_lineBeginsWith_28 rfl (lv_at hl 1 rfl) ?_
          refine o_get (D := D) (ci := 5) (v := .ref tp) (C := RX4) (T := TX4) (N := 6) hx hb hts inX4 hown hK hP h_rd rfl 0 (by decide) (hts _ k_135) (fun _ h9 => h9) rfl dX4_lineBeginsWith_29 ?_
          refine lv_aload_n hx hb dX4_lineBeginsWith_32 rfl (lv_at hl 1 rfl) ?_
          refine o_get (D := D) (ci := 5) (v := .int (nI fm)) (C := RX4) (T := TX4) (N := 6) hx hb hts inX4 hown hK hP h_rd rfl 2 (by decide) (hts _ k_137) (fun _ h9 => h9) rfl dX4_lineBeginsWith_33 ?_
          refine lv_iload_n hx hb dX4_lineBeginsWith_36 rfl (lv_at hl 0 rfl) ?_
          refine lv_iadd hx hb dX4_lineBeginsWith_37 ?_
          refine q_seti (y := nI (fm + 3)) (nI_addE (a := fm) (b := 3) (by omega)) ?_
          refine o_cis (k := 0) (n := 0) hK hP hD hS hA (o_rV (As := [.int (nI (fm + 3))]) (rest := []) hf (t_atI _ _ _ _ _ _ _ _ tp by_ n T (fm + 3) h_tp h_by hn (by omega) _) k_200 k_511 k_198 k_199 k_85 (nA := 1) (by decide +kernel) ⟨Nat.le_of_ble_eq_true rfl, Nat.le_of_ble_eq_true rfl⟩ hK hP hD hS hA hZ hN h_tp rfl rfl rfl hl.1 rfl (Nat.le_of_ble_eq_true rfl) dX4_lineBeginsWith_38 ⟨(show 0 + 0 ≤ 0 by omega), (show 0 + 0 ≤ 0 by omega)⟩) (Nat.le_refl _) (Nat.le_refl _) (fun r H locs hw hP hD hS => ?_)
          obtain rfl := hw
          refine lv_aload_n hx hb dX4_lineBeginsWith_41 rfl (lv_at hl 2 rfl) ?_
          refine lv_iload_n hx hb dX4_lineBeginsWith_42 rfl (lv_at hl 0 rfl) ?_
          refine o_cis (k := 0) (n := 0) hK hP hD hS hA (o_rX (b := z 2) (As := [.int 3]) (rest := [.int (T (fm + 3))]) hf (s_charAt_03 _ _ _ _ _ _ _ _ _) k_546 k_543 k_544 k_545 k_99 (nA := 1) (by decide +kernel) ⟨Nat.le_of_ble_eq_true rfl, Nat.le_of_ble_eq_true rfl⟩ hK hP hD hS hA hZ hN (vk_recv (i := 0) hZ.2.2.2.2.2.1 (by decide) hS) rfl hl.1 rfl (Nat.le_of_ble_eq_true rfl) dX4_lineBeginsWith_43 ⟨(show 0 + 0 ≤ 0 by omega), (show 0 + 0 ≤ 0 by omega)⟩) (Nat.le_refl _) (Nat.le_refl _) (fun r H locs hw hP hD hS => ?_)
          obtain rfl := hw
          refine lv_icmp_eq (tgt := 51) hx hb dX4_lineBeginsWith_46 (by decide) (fun c_5 => ?_) (fun c_5 => ?_)
          · refine lv_iinc (v := 4) (lv' := [(2, .int 4), (0, .ref rd), (1, .ref (z 2))]) hx hb dX4_lineBeginsWith_51 hl (k := 0) rfl (by decide) (by decide) rfl (fun ls hl => ?_)
            refine lv_goto (tgt := 20) hx hb dX4_lineBeginsWith_54 (by decide) ?_
            refine lv_iload_n hx hb dX4_lineBeginsWith_20 rfl (lv_at hl 0 rfl) ?_
            refine lv_aload_n hx hb dX4_lineBeginsWith_21 rfl (lv_at hl 2 rfl) ?_
            refine o_cis (k := 0) (n := 0) hK hP hD hS hA (o_rX (b := z 2) (As := []) (rest := [.int 4]) hf (s_length_0 _ _ _ _ _ _ _ _ _) k_536 k_533 k_534 k_535 k_99 (nA := 0) (by decide +kernel) ⟨Nat.le_of_ble_eq_true rfl, Nat.le_of_ble_eq_true rfl⟩ hK hP hD hS hA hZ hN (vk_recv (i := 0) hZ.2.2.2.2.2.1 (by decide) hS) rfl hl.1 rfl (Nat.le_of_ble_eq_true rfl) dX4_lineBeginsWith_22 ⟨(show 0 + 0 ≤ 0 by omega), (show 0 + 0 ≤ 0 by omega)⟩) (Nat.le_refl _) (Nat.le_refl _) (fun r H locs hw hP hD hS => ?_)
            obtain rfl := hw
            refine lv_icmp_ge (tgt := 57) hx hb dX4_lineBeginsWith_25 (by decide) (fun _ => ?_) (fun hno => absurd hno (by decide))
            refine lv_iconst (v := 1) hx hb dX4_lineBeginsWith_57 (by decide) ?_
            exact o_ri hf hr rfl hlocks hK hP hD hS (show 0 ≤ 0 by omega) (show 0 ≤ 0 by omega) ⟨Or.inl ⟨⟨by omega, c_2, c_3, c_4, c_5⟩, rfl⟩, rfl, rfl⟩ dX4_lineBeginsWith_58
          · refine lv_iconst (v := 0) hx hb dX4_lineBeginsWith_49 (by decide) ?_
            exact o_ri hf hr rfl hlocks hK hP hD hS (show 0 ≤ 0 by omega) (show 0 ≤ 0 by omega) ⟨Or.inr ⟨fun h => c_5 h.2.2.2.2, rfl⟩, rfl, rfl⟩ dX4_lineBeginsWith_50
        · refine lv_iconst (v := 0) hx hb dX4_lineBeginsWith_49 (by decide) ?_
          exact o_ri hf hr rfl hlocks hK hP hD hS (show 0 ≤ 0 by omega) (show 0 ≤ 0 by omega) ⟨Or.inr ⟨fun h => c_4 h.2.2.2.1, rfl⟩, rfl, rfl⟩ dX4_lineBeginsWith_50
      · refine lv_iconst (v := 0) hx hb dX4_lineBeginsWith_49 (by decide) ?_
        exact o_ri hf hr rfl hlocks hK hP hD hS (show 0 ≤ 0 by omega) (show 0 ≤ 0 by omega) ⟨Or.inr ⟨fun h => c_3 h.2.2.1, rfl⟩, rfl, rfl⟩ dX4_lineBeginsWith_50
    · refine lv_iconst (v := 0) hx hb dX4_lineBeginsWith_49 (by decide) ?_
      exact o_ri hf hr rfl hlocks hK hP hD hS (show 0 ≤ 0 by omega) (show 0 ≤ 0 by omega) ⟨Or.inr ⟨fun h => c_2 h.2.1, rfl⟩, rfl, rfl⟩ dX4_lineBeginsWith_50
  · have c_1 := q_nle (a := 4) (b := to_ - fm) (by omega) (by omega) c_1
    refine lv_iconst (v := 0) hx hb dX4_lineBeginsWith_16 (by decide) ?_
    exact o_ri hf hr rfl hlocks hK hP hD hS (show 0 ≤ 0 by omega) (show 0 ≤ 0 by omega) ⟨Or.inr ⟨fun h => absurd h.1 (by omega), rfl⟩, rfl, rfl⟩ dX4_lineBeginsWith_17
set_option maxHeartbeats 1000000 in
set_option maxRecDepth 100000 in
theorem r_begins_1 (l : Launch) (D : va_G) (z : Nat → Nat) (cB cI_ cO : ClassId) (L0 : List Nat) (g0 : hG) (rd tp by_ n nx fm to_ : Nat) (T : Nat → Int32) (kd ka : Int32) (h_rd : ho L0 g0 rd 4 (.inr (5, [.ref tp, .int (nI nx), .int (nI fm), .int (nI to_), .int kd, .int ka]))) (h_tp : ho L0 g0 tp 2 (.inr (9, [.ref by_, .int (nI n)]))) (h_by : ho L0 g0 by_ 3 (.inl (cB, 1200, .inl T))) (hn : n ≤ 1200) (hto : to_ ≤ n) (hft : fm ≤ to_) : eIs l D yX4_lineBeginsWith cX4_lineBeginsWith 3 (some .boolean) 4 85 0 0 [.ref rd, .ref (z 3)] z cB cI_ cO L0 g0 (fun r => (tx_beg T fm to_ 69 88 84 ∧ r = 1 ∨ ¬ tx_beg T fm to_ 69 88 84 ∧ r = 0)) := by
  refine o_si (by decide) (Nat.le_of_ble_eq_true rfl) ?_
  intro p e s m below meth c A ls hf hr hlocks hin hK hP hD hS hA hZ hN hl
  obtain ⟨hx, hb, hml, hown, hts⟩ := id hf
  have hl : lv_has ls 3 [(0, .ref rd), (1, .ref (z 3))] := hl
  refine lv_aload_n hx hb dX4_lineBeginsWith_0 rfl (lv_at hl 0 rfl) ?_
  refine o_get (D := D) (ci := 5) (v := .int (nI to_)) (C := RX4) (T := TX4) (N := 6) hx hb hts inX4 hown hK hP h_rd rfl 3 (by decide) (hts _ k_138) (fun _ h9 => h9) rfl dX4_lineBeginsWith_1 ?_
  refine lv_aload_n hx hb dX4_lineBeginsWith_4 rfl (lv_at hl 0 rfl) ?_
  refine o_get (D := D) (ci := 5) (v := .int (nI fm)) (C := RX4) (T := TX4) (N := 6) hx hb hts inX4 hown hK hP h_rd rfl 2 (by decide) (hts _ k_137) (fun _ h9 => h9) rfl dX4_lineBeginsWith_5 ?_
  refine lv_isub hx hb dX4_lineBeginsWith_8 ?_
  refine q_seti (y := nI (to_ - fm)) (nI_subE (a := to_) (b := fm) (by omega) (by omega)) ?_
  refine lv_aload_n hx hb dX4_lineBeginsWith_9 rfl (lv_at hl 1 rfl) ?_
  refine o_cis (k := 0) (n := 0) hK hP hD hS hA (o_rX (b := z 3) (As := []) (rest := [.int (nI (to_ - fm))]) hf (s_length_1 _ _ _ _ _ _ _ _ _) k_536 k_533 k_534 k_535 k_99 (nA := 0) (by decide +kernel) ⟨Nat.le_of_ble_eq_true rfl, Nat.le_of_ble_eq_true rfl⟩ hK hP hD hS hA hZ hN (vk_recv (i := 1) hZ.2.2.2.2.2.1 (by decide) hS) rfl hl.1 rfl (Nat.le_of_ble_eq_true rfl) dX4_lineBeginsWith_10 ⟨(show 0 + 0 ≤ 0 by omega), (show 0 + 0 ≤ 0 by omega)⟩) (Nat.le_refl _) (Nat.le_refl _) (fun r H locs hw hP hD hS => ?_)
  obtain rfl := hw
  refine lv_icmp_ge (tgt := 18) hx hb dX4_lineBeginsWith_13 (by decide) (fun c_1 => ?_) (fun c_1 => ?_)
  · have c_1 := q_le (a := 4) (b := to_ - fm) (by omega) (by omega) c_1
    refine lv_iconst (v := 0) hx hb dX4_lineBeginsWith_18 (by decide) ?_
    refine lv_istore_n (lv' := [(2, .int 0), (0, .ref rd), (1, .ref (z 3))]) hx hb dX4_lineBeginsWith_19 rfl hl (by decide) rfl (fun ls hl => ?_)
    refine lv_iload_n hx hb dX4_lineBeginsWith_20 rfl (lv_at hl 0 rfl) ?_
    refine lv_aload_n hx hb dX4_lineBeginsWith_21 rfl (lv_at hl 2 rfl) ?_
    refine o_cis (k := 0) (n := 0) hK hP hD hS hA (o_rX (b := z 3) (As := []) (rest := [.int 0]) hf (s_length_1 _ _ _ _ _ _ _ _ _) k_536 k_533 k_534 k_535 k_99 (nA := 0) (by decide +kernel) ⟨Nat.le_of_ble_eq_true rfl, Nat.le_of_ble_eq_true rfl⟩ hK hP hD hS hA hZ hN (vk_recv (i := 1) hZ.2.2.2.2.2.1 (by decide) hS) rfl hl.1 rfl (Nat.le_of_ble_eq_true rfl) dX4_lineBeginsWith_22 ⟨(show 0 + 0 ≤ 0 by omega), (show 0 + 0 ≤ 0 by omega)⟩) (Nat.le_refl _) (Nat.le_refl _) (fun r H locs hw hP hD hS => ?_)
    obtain rfl := hw
    refine lv_icmp_ge (tgt := 57) hx hb dX4_lineBeginsWith_25 (by decide) (fun hno => absurd hno (by decide)) (fun _ => ?_)
    refine lv_aload_n hx hb dX4_lineBeginsWith_28 rfl (lv_at hl 1 rfl) ?_
    refine o_get (D := D) (ci := 5) (v := .ref tp) (C := RX4) (T := TX4) (N := 6) hx hb hts inX4 hown hK hP h_rd rfl 0 (by decide) (hts _ k_135) (fun _ h9 => h9) rfl dX4_lineBeginsWith_29 ?_
    refine lv_aload_n hx hb dX4_lineBeginsWith_32 rfl (lv_at hl 1 rfl) ?_
    refine o_get (D := D) (ci := 5) (v := .int (nI fm)) (C := RX4) (T := TX4) (N := 6) hx hb hts inX4 hown hK hP h_rd rfl 2 (by decide) (hts _ k_137) (fun _ h9 => h9) rfl dX4_lineBeginsWith_33 ?_
    refine lv_iload_n hx hb dX4_lineBeginsWith_36 rfl (lv_at hl 0 rfl) ?_
    refine lv_iadd hx hb dX4_lineBeginsWith_37 ?_
    refine q_seti (y := nI (fm)) (nI_addE (a := fm) (b := 0) (by omega)) ?_
    refine o_cis (k := 0) (n := 0) hK hP hD hS hA (o_rV (As := [.int (nI fm)]) (rest := []) hf (t_atI _ _ _ _ _ _ _ _ tp by_ n T fm h_tp h_by hn (by omega) _) k_200 k_511 k_198 k_199 k_85 (nA := 1) (by decide +kernel) ⟨Nat.le_of_ble_eq_true rfl, Nat.le_of_ble_eq_true rfl⟩ hK hP hD hS hA hZ hN h_tp rfl rfl rfl hl.1 rfl (Nat.le_of_ble_eq_true rfl) dX4_lineBeginsWith_38 ⟨(show 0 + 0 ≤ 0 by omega), (show 0 + 0 ≤ 0 by omega)⟩) (Nat.le_refl _) (Nat.le_refl _) (fun r H locs hw hP hD hS => ?_)
    obtain rfl := hw
    refine lv_aload_n hx hb dX4_lineBeginsWith_41 rfl (lv_at hl 2 rfl) ?_
    refine lv_iload_n hx hb dX4_lineBeginsWith_42 rfl (lv_at hl 0 rfl) ?_
    refine o_cis (k := 0) (n := 0) hK hP hD hS hA (o_rX (b := z 3) (As := [.int 0]) (rest := [.int (T fm)]) hf (s_charAt_10 _ _ _ _ _ _ _ _ _) k_546 k_543 k_544 k_545 k_99 (nA := 1) (by decide +kernel) ⟨Nat.le_of_ble_eq_true rfl, Nat.le_of_ble_eq_true rfl⟩ hK hP hD hS hA hZ hN (vk_recv (i := 1) hZ.2.2.2.2.2.1 (by decide) hS) rfl hl.1 rfl (Nat.le_of_ble_eq_true rfl) dX4_lineBeginsWith_43 ⟨(show 0 + 0 ≤ 0 by omega), (show 0 + 0 ≤ 0 by omega)⟩) (Nat.le_refl _) (Nat.le_refl _) (fun r H locs hw hP hD hS => ?_)
    obtain rfl := hw
    refine lv_icmp_eq (tgt := 51) hx hb dX4_lineBeginsWith_46 (by decide) (fun c_2 => ?_) (fun c_2 => ?_)
    · refine lv_iinc (v := 1) (lv' := [(2, .int 1), (0, .ref rd), (1, .ref (z 3))]) hx hb dX4_lineBeginsWith_51 hl (k := 0) rfl (by decide) (by decide) rfl (fun ls hl => ?_)
      refine lv_goto (tgt := 20) hx hb dX4_lineBeginsWith_54 (by decide) ?_
      refine lv_iload_n hx hb dX4_lineBeginsWith_20 rfl (lv_at hl 0 rfl) ?_
      refine lv_aload_n hx hb dX4_lineBeginsWith_21 rfl (lv_at hl 2 rfl) ?_
      refine o_cis (k := 0) (n := 0) hK hP hD hS hA (o_rX (b := z 3) (As := []) (rest := [.int 1]) hf (s_length_1 _ _ _ _ _ _ _ _ _) k_536 k_533 k_534 k_535 k_99 (nA := 0) (by decide +kernel) ⟨Nat.le_of_ble_eq_true rfl, Nat.le_of_ble_eq_true rfl⟩ hK hP hD hS hA hZ hN (vk_recv (i := 1) hZ.2.2.2.2.2.1 (by decide) hS) rfl hl.1 rfl (Nat.le_of_ble_eq_true rfl) dX4_lineBeginsWith_22 ⟨(show 0 + 0 ≤ 0 by omega), (show 0 + 0 ≤ 0 by omega)⟩) (Nat.le_refl _) (Nat.le_refl _) (fun r H locs hw hP hD hS => ?_)
      obtain rfl := hw
      refine lv_icmp_ge (tgt := 57) hx hb dX4_lineBeginsWith_25 (by decide) (fun hno => absurd hno (by decide)) (fun _ => ?_)
      refine lv_aload_n hx hb dX4_lineBeginsWith_28 rfl (lv_at hl 1 rfl) ?_
      refine o_get (D := D) (ci := 5) (v := .ref tp) (C := RX4) (T := TX4) (N := 6) hx hb hts inX4 hown hK hP h_rd rfl 0 (by decide) (hts _ k_135) (fun _ h9 => h9) rfl dX4_lineBeginsWith_29 ?_
      refine lv_aload_n hx hb dX4_lineBeginsWith_32 rfl (lv_at hl 1 rfl) ?_
      refine o_get (D := D) (ci := 5) (v := .int (nI fm)) (C := RX4) (T := TX4) (N := 6) hx hb hts inX4 hown hK hP h_rd rfl 2 (by decide) (hts _ k_137) (fun _ h9 => h9) rfl dX4_lineBeginsWith_33 ?_
      refine lv_iload_n hx hb dX4_lineBeginsWith_36 rfl (lv_at hl 0 rfl) ?_
      refine lv_iadd hx hb dX4_lineBeginsWith_37 ?_
      refine q_seti (y := nI (fm + 1)) (nI_addE (a := fm) (b := 1) (by omega)) ?_
      refine o_cis (k := 0) (n := 0) hK hP hD hS hA (o_rV (As := [.int (nI (fm + 1))]) (rest := []) hf (t_atI _ _ _ _ _ _ _ _ tp by_ n T (fm + 1) h_tp h_by hn (by omega) _) k_200 k_511 k_198 k_199 k_85 (nA := 1) (by decide +kernel) ⟨Nat.le_of_ble_eq_true rfl, Nat.le_of_ble_eq_true rfl⟩ hK hP hD hS hA hZ hN h_tp rfl rfl rfl hl.1 rfl (Nat.le_of_ble_eq_true rfl) dX4_lineBeginsWith_38 ⟨(show 0 + 0 ≤ 0 by omega), (show 0 + 0 ≤ 0 by omega)⟩) (Nat.le_refl _) (Nat.le_refl _) (fun r H locs hw hP hD hS => ?_)
      obtain rfl := hw
      refine lv_aload_n hx hb dX4_lineBeginsWith_41 rfl (lv_at hl 2 rfl) ?_
      refine lv_iload_n hx hb dX4_lineBeginsWith_42 rfl (lv_at hl 0 rfl) ?_
      refine o_cis (k := 0) (n := 0) hK hP hD hS hA (o_rX (b := z 3) (As := [.int 1]) (rest := [.int (T (fm + 1))]) hf (s_charAt_11 _ _ _ _ _ _ _ _ _) k_546 k_543 k_544 k_545 k_99 (nA := 1) (by decide +kernel) ⟨Nat.le_of_ble_eq_true rfl, Nat.le_of_ble_eq_true rfl⟩ hK hP hD hS hA hZ hN (vk_recv (i := 1) hZ.2.2.2.2.2.1 (by decide) hS) rfl hl.1 rfl (Nat.le_of_ble_eq_true rfl) dX4_lineBeginsWith_43 ⟨(show 0 + 0 ≤ 0 by omega), (show 0 + 0 ≤ 0 by omega)⟩) (Nat.le_refl _) (Nat.le_refl _) (fun r H locs hw hP hD hS => ?_)
      obtain rfl := hw
      refine lv_icmp_eq (tgt := 51) hx hb dX4_lineBeginsWith_46 (by decide) (fun c_3 => ?_) (fun c_3 => ?_)
      · refine lv_iinc (v := 2) (lv' := [(2, .int 2), (0, .ref rd), (1, .ref (z 3))]) hx hb dX4_lineBeginsWith_51 hl (k := 0) rfl (by decide) (by decide) rfl (fun ls hl => ?_)
        refine lv_goto (tgt := 20) hx hb dX4_lineBeginsWith_54 (by decide) ?_
        refine lv_iload_n hx hb dX4_lineBeginsWith_20 rfl (lv_at hl 0 rfl) ?_
        refine lv_aload_n hx hb dX4_lineBeginsWith_21 rfl (lv_at hl 2 rfl) ?_
        refine o_cis (k := 0) (n := 0) hK hP hD hS hA (o_rX (b := z 3) (As := []) (rest := [.int 2]) hf (s_length_1 _ _ _ _ _ _ _ _ _) k_536 k_533 k_534 k_535 k_99 (nA := 0) (by decide +kernel) ⟨Nat.le_of_ble_eq_true rfl, Nat.le_of_ble_eq_true rfl⟩ hK hP hD hS hA hZ hN (vk_recv (i := 1) hZ.2.2.2.2.2.1 (by decide) hS) rfl hl.1 rfl (Nat.le_of_ble_eq_true rfl) dX4_lineBeginsWith_22 ⟨(show 0 + 0 ≤ 0 by omega), (show 0 + 0 ≤ 0 by omega)⟩) (Nat.le_refl _) (Nat.le_refl _) (fun r H locs hw hP hD hS => ?_)
        obtain rfl := hw
        refine lv_icmp_ge (tgt := 57) hx hb dX4_lineBeginsWith_25 (by decide) (fun hno => absurd hno (by decide)) (fun _ => ?_)
        refine lv_aload_n hx hb dX4_lineBeginsWith_28 rfl (lv_at hl 1 rfl) ?_
        refine o_get (D := D) (ci := 5) (v := .ref tp) (C := RX4) (T := TX4) (N := 6) hx hb hts inX4 hown hK hP h_rd rfl 0 (by decide) (hts _ k_135) (fun _ h9 => h9) rfl dX4_lineBeginsWith_29 ?_
        refine lv_aload_n hx hb dX4_lineBeginsWith_32 rfl (lv_at hl 1 rfl) ?_
        refine o_get (D := D) (ci := 5) (v := .int (nI fm)) (C := RX4) (T := TX4) (N := 6) hx hb hts inX4 hown hK hP h_rd rfl 2 (by decide) (hts _ k_137) (fun _ h9 => h9) rfl dX4_lineBeginsWith_33 ?_
        refine lv_iload_n hx hb dX4_lineBeginsWith_36 rfl (lv_at hl 0 rfl) ?_
        refine lv_iadd hx hb dX4_lineBeginsWith_37 ?_
        refine q_seti (y := nI (fm + 2)) (nI_addE (a := fm) (b := 2) (by omega)) ?_
        refine o_cis (k := 0) (n := 0) hK hP hD hS hA (o_rV (As := [.int (nI (fm + 2))]) (rest := []) hf (t_atI _ _ _ _ _ _ _ _ tp by_ n T (fm + 2) h_tp h_by hn (by omega) _) k_200 k_511 k_198 k_199 k_85 (nA := 1) (by decide +kernel) ⟨Nat.le_of_ble_eq_true rfl, Nat.le_of_ble_eq_true rfl⟩ hK hP hD hS hA hZ hN h_tp rfl rfl rfl hl.1 rfl (Nat.le_of_ble_eq_true rfl) dX4_lineBeginsWith_38 ⟨(show 0 + 0 ≤ 0 by omega), (show 0 + 0 ≤ 0 by omega)⟩) (Nat.le_refl _) (Nat.le_refl _) (fun r H locs hw hP hD hS => ?_)
        obtain rfl := hw
        refine lv_aload_n hx hb dX4_lineBeginsWith_41 rfl (lv_at hl 2 rfl) ?_
        refine lv_iload_n hx hb dX4_lineBeginsWith_42 rfl (lv_at hl 0 rfl) ?_
        refine o_cis (k := 0) (n := 0) hK hP hD hS hA (o_rX (b := z 3) (As := [.int 2]) (rest := [.int (T (fm + 2))]) hf (s_charAt_12 _ _ _ _ _ _ _ _ _) k_546 k_543 k_544 k_545 k_99 (nA := 1) (by decide +kernel) ⟨Nat.le_of_ble_eq_true rfl, Nat.le_of_ble_eq_true rfl⟩ hK hP hD hS hA hZ hN (vk_recv (i := 1) hZ.2.2.2.2.2.1 (by decide) hS) rfl hl.1 rfl (Nat.le_of_ble_eq_true rfl) dX4_lineBeginsWith_43 ⟨(show 0 + 0 ≤ 0 by omega), (show 0 + 0 ≤ 0 by omega)⟩) (Nat.le_refl _) (Nat.le_refl _) (fun r H locs hw hP hD hS => ?_)
        obtain rfl := hw
        refine lv_icmp_eq (tgt := 51) hx hb dX4_lineBeginsWith_46 (by decide) (fun c_4 => ?_) (fun c_4 => ?_)
        · refine lv_iinc (v := 3) (lv' := [(2, .int 3), (0, .ref rd), (1, .ref (z 3))]) hx hb dX4_lineBeginsWith_51 hl (k := 0) rfl (by decide) (by decide) rfl (fun ls hl => ?_)
          refine lv_goto (tgt := 20) hx hb dX4_lineBeginsWith_54 (by decide) ?_
          refine lv_iload_n hx hb dX4_lineBeginsWith_20 rfl (lv_at hl 0 rfl) ?_
          refine lv_aload_n hx hb dX4_lineBeginsWith_21 rfl (lv_at hl 2 rfl) ?_
          refine o_cis (k := 0) (n := 0) hK hP hD hS hA (o_rX (b := z 3) (As := []) (rest := [.int 3]) hf (s_length_1 _ _ _ _ _ _ _ _ _) k_536 k_533 k_534 k_535 k_99 (nA := 0) (by decide +kernel) ⟨Nat.le_of_ble_eq_true rfl, Nat.le_of_ble_eq_true rfl⟩ hK hP hD hS hA hZ hN (vk_recv (i := 1) hZ.2.2.2.2.2.1 (by decide) hS) rfl hl.1 rfl (Nat.le_of_ble_eq_true rfl) dX4_lineBeginsWith_22 ⟨(show 0 + 0 ≤ 0 by omega), (show 0 + 0 ≤ 0 by omega)⟩) (Nat.le_refl _) (Nat.le_refl _) (fun r H locs hw hP hD hS => ?_)
          obtain rfl := hw
          refine lv_icmp_ge (tgt := 57) hx hb dX4_lineBeginsWith_25 (by decide) (fun hno => absurd hno (by decide)) (fun _ => ?_)
          refine lv_aload_n hx hb dX4_lineBeginsWith_28 rfl (lv_at hl 1 rfl) ?_
          refine o_get (D := D) (ci := 5) (v := .ref tp) (C := RX4) (T := TX4) (N := 6) hx hb hts inX4 hown hK hP h_rd rfl 0 (by decide) (hts _ k_135) (fun _ h9 => h9) rfl dX4_lineBeginsWith_29 ?_
          refine lv_aload_n hx hb dX4_lineBeginsWith_32 rfl (lv_at hl 1 rfl) ?_
          refine o_get (D := D) (ci := 5) (v := .int (nI fm)) (C := RX4) (T := TX4) (N := 6) hx hb hts inX4 hown hK hP h_rd rfl 2 (by decide) (hts _ k_137) (fun _ h9 => h9) rfl dX4_lineBeginsWith_33 ?_
          refine lv_iload_n hx hb dX4_lineBeginsWith_36 rfl (lv_at hl 0 rfl) ?_
          refine lv_iadd hx hb dX4_lineBeginsWith_37 ?_
          refine q_seti (y := nI (fm + 3)) (nI_addE (a := fm) (b := 3) (by omega)) ?_
          refine o_cis (k := 0) (n := 0) hK hP hD hS hA (o_rV (As := [.int (nI (fm + 3))]) (rest := []) hf (t_atI _ _ _ _ _ _ _ _ tp by_ n T (fm + 3) h_tp h_by hn (by omega) _) k_200 k_511 k_198 k_199 k_85 (nA := 1) (by decide +kernel) ⟨Nat.le_of_ble_eq_true rfl, Nat.le_of_ble_eq_true rfl⟩ hK hP hD hS hA hZ hN h_tp rfl rfl rfl hl.1 rfl (Nat.le_of_ble_eq_true rfl) dX4_lineBeginsWith_38 ⟨(show 0 + 0 ≤ 0 by omega), (show 0 + 0 ≤ 0 by omega)⟩) (Nat.le_refl _) (Nat.le_refl _) (fun r H locs hw hP hD hS => ?_)
          obtain rfl := hw
          refine lv_aload_n hx hb dX4_lineBeginsWith_41 rfl (lv_at hl 2 rfl) ?_
          refine lv_iload_n hx hb dX4_lineBeginsWith_42 rfl (lv_at hl 0 rfl) ?_
          refine o_cis (k := 0) (n := 0) hK hP hD hS hA (o_rX (b := z 3) (As := [.int 3]) (rest := [.int (T (fm + 3))]) hf (s_charAt_13 _ _ _ _ _ _ _ _ _) k_546 k_543 k_544 k_545 k_99 (nA := 1) (by decide +kernel) ⟨Nat.le_of_ble_eq_true rfl, Nat.le_of_ble_eq_true rfl⟩ hK hP hD hS hA hZ hN (vk_recv (i := 1) hZ.2.2.2.2.2.1 (by decide) hS) rfl hl.1 rfl (Nat.le_of_ble_eq_true rfl) dX4_lineBeginsWith_43 ⟨(show 0 + 0 ≤ 0 by omega), (show 0 + 0 ≤ 0 by omega)⟩) (Nat.le_refl _) (Nat.le_refl _) (fun r H locs hw hP hD hS => ?_)
          obtain rfl := hw
          refine lv_icmp_eq (tgt := 51) hx hb dX4_lineBeginsWith_46 (by decide) (fun c_5 => ?_) (fun c_5 => ?_)
          · refine lv_iinc (v := 4) (lv' := [(2, .int 4), (0, .ref rd), (1, .ref (z 3))]) hx hb dX4_lineBeginsWith_51 hl (k := 0) rfl (by decide) (by decide) rfl (fun ls hl => ?_)
            refine lv_goto (tgt := 20) hx hb dX4_lineBeginsWith_54 (by decide) ?_
            refine lv_iload_n hx hb dX4_lineBeginsWith_20 rfl (lv_at hl 0 rfl) ?_
            refine lv_aload_n hx hb dX4_lineBeginsWith_21 rfl (lv_at hl 2 rfl) ?_
            refine o_cis (k := 0) (n := 0) hK hP hD hS hA (o_rX (b := z 3) (As := []) (rest := [.int 4]) hf (s_length_1 _ _ _ _ _ _ _ _ _) k_536 k_533 k_534 k_535 k_99 (nA := 0) (by decide +kernel) ⟨Nat.le_of_ble_eq_true rfl, Nat.le_of_ble_eq_true rfl⟩ hK hP hD hS hA hZ hN (vk_recv (i := 1) hZ.2.2.2.2.2.1 (by decide) hS) rfl hl.1 rfl (Nat.le_of_ble_eq_true rfl) dX4_lineBeginsWith_22 ⟨(show 0 + 0 ≤ 0 by omega), (show 0 + 0 ≤ 0 by omega)⟩) (Nat.le_refl _) (Nat.le_refl _) (fun r H locs hw hP hD hS => ?_)
            obtain rfl := hw
            refine lv_icmp_ge (tgt := 57) hx hb dX4_lineBeginsWith_25 (by decide) (fun _ => ?_) (fun hno => absurd hno (by decide))
            refine lv_iconst (v := 1) hx hb dX4_lineBeginsWith_57 (by decide) ?_
            exact o_ri hf hr rfl hlocks hK hP hD hS (show 0 ≤ 0 by omega) (show 0 ≤ 0 by omega) ⟨Or.inl ⟨⟨by omega, c_2, c_3, c_4, c_5⟩, rfl⟩, rfl, rfl⟩ dX4_lineBeginsWith_58
          · refine lv_iconst (v := 0) hx hb dX4_lineBeginsWith_49 (by decide) ?_
            exact o_ri hf hr rfl hlocks hK hP hD hS (show 0 ≤ 0 by omega) (show 0 ≤ 0 by omega) ⟨Or.inr ⟨fun h => c_5 h.2.2.2.2, rfl⟩, rfl, rfl⟩ dX4_lineBeginsWith_50
        · refine lv_iconst (v := 0) hx hb dX4_lineBeginsWith_49 (by decide) ?_
          exact o_ri hf hr rfl hlocks hK hP hD hS (show 0 ≤ 0 by omega) (show 0 ≤ 0 by omega) ⟨Or.inr ⟨fun h => c_4 h.2.2.2.1, rfl⟩, rfl, rfl⟩ dX4_lineBeginsWith_50
      · refine lv_iconst (v := 0) hx hb dX4_lineBeginsWith_49 (by decide) ?_
        exact o_ri hf hr rfl hlocks hK hP hD hS (show 0 ≤ 0 by omega) (show 0 ≤ 0 by omega) ⟨Or.inr ⟨fun h => c_3 h.2.2.1, rfl⟩, rfl, rfl⟩ dX4_lineBeginsWith_50
    · refine lv_iconst (v := 0) hx hb dX4_lineBeginsWith_49 (by decide) ?_
      exact o_ri hf hr rfl hlocks hK hP hD hS (show 0 ≤ 0 by omega) (show 0 ≤ 0 by omega) ⟨Or.inr ⟨fun h => c_2 h.2.1, rfl⟩, rfl, rfl⟩ dX4_lineBeginsWith_50
  · have c_1 := q_nle (a := 4) (b := to_ - fm) (by omega) (by omega) c_1
    refine lv_iconst (v := 0) hx hb dX4_lineBeginsWith_16 (by decide) ?_
    exact o_ri hf hr rfl hlocks hK hP hD hS (show 0 ≤ 0 by omega) (show 0 ≤ 0 by omega) ⟨Or.inr ⟨fun h => absurd h.1 (by omega), rfl⟩, rfl, rfl⟩ dX4_lineBeginsWith_17
set_option maxHeartbeats 1000000 in
set_option maxRecDepth 100000 in
theorem r_likeHead (l : Launch) (D : va_G) (z : Nat → Nat) (cB cI_ cO : ClassId) (L0 : List Nat) (g0 : hG) (rd tp by_ n nx fm to_ : Nat) (T : Nat → Int32) (kd ka : Int32) (h_rd : ho L0 g0 rd 4 (.inr (5, [.ref tp, .int (nI nx), .int (nI fm), .int (nI to_), .int kd, .int ka]))) (h_tp : ho L0 g0 tp 2 (.inr (9, [.ref by_, .int (nI n)]))) (h_by : ho L0 g0 by_ 3 (.inl (cB, 1200, .inl T))) (hn : n ≤ 1200) (hto : to_ ≤ n) (hft : fm ≤ to_) : eIs l D yX4_beginsLikeHead cX4_beginsLikeHead 1 (some .boolean) 5 107 0 0 [.ref rd] z cB cI_ cO L0 g0 (fun r => ((tx_beg T fm to_ 73 78 84 ∨ tx_beg T fm to_ 69 88 84) ∧ r = 1 ∨ ¬ (tx_beg T fm to_ 73 78 84 ∨ tx_beg T fm to_ 69 88 84) ∧ r = 0)) := by
  refine o_si (by decide) (Nat.le_of_ble_eq_true rfl) ?_
  intro p e s m below meth c A ls hf hr hlocks hin hK hP hD hS hA hZ hN hl
  obtain ⟨hx, hb, hml, hown, hts⟩ := id hf
  have hl : lv_has ls 1 [(0, .ref rd)] := hl
  refine lv_aload_n hx hb dX4_beginsLikeHead_0 rfl (lv_at hl 0 rfl) ?_
  refine va_ldcS hx hb hown hN.1 dX4_beginsLikeHead_1 ?_
  refine o_cis (k := 0) (n := 0) hK hP hD hS hA (o_rV (As := [.ref (z 2)]) (rest := []) hf (r_begins_0 _ _ _ _ _ _ _ _ rd tp by_ n nx fm to_ T kd ka h_rd h_tp h_by hn (by omega) (by omega) _) k_532 k_529 k_531 k_12 k_86 (nA := 1) (by decide +kernel) ⟨Nat.le_of_ble_eq_true rfl, Nat.le_of_ble_eq_true rfl⟩ hK hP hD hS hA hZ hN h_rd rfl rfl rfl hl.1 rfl (Nat.le_of_ble_eq_true rfl) dX4_beginsLikeHead_3 ⟨(show 0 + 0 ≤ 0 by omega), (show 0 + 0 ≤ 0 by omega)⟩) (Nat.le_refl _) (Nat.le_refl _) (fun r H locs hw hP hD hS => ?_)
  rcases hw with ⟨c_1, rfl⟩ | ⟨c_1, rfl⟩
  · have hP := hP
    refine lv_if_ne (tgt := 18) hx hb dX4_beginsLikeHead_6 (by decide) (fun _ => ?_) (fun hno => absurd hno (by decide))
    refine lv_iconst (v := 1) hx hb dX4_beginsLikeHead_18 (by decide) ?_
    refine lv_goto (tgt := 23) hx hb dX4_beginsLikeHead_19 (by decide) ?_
    exact o_ri hf hr rfl hlocks hK hP hD hS (show 0 ≤ 0 by omega) (show 0 ≤ 0 by omega) ⟨Or.inl ⟨Or.inl c_1, rfl⟩, rfl, rfl⟩ dX4_beginsLikeHead_23
  · have hP := hP
    refine lv_if_ne (tgt := 18) hx hb dX4_beginsLikeHead_6 (by decide) (fun hno => absurd hno (by decide)) (fun _ => ?_)
    refine lv_aload_n hx hb dX4_beginsLikeHead_9 rfl (lv_at hl 0 rfl) ?_
    refine va_ldcS hx hb hown hN.2.1 dX4_beginsLikeHead_10 ?_
    refine o_cis (k := 0) (n := 0) hK hP hD hS hA (o_rV (As := [.ref (z 3)]) (rest := []) hf (r_begins_1 _ _ _ _ _ _ _ _ rd tp by_ n nx fm to_ T kd ka h_rd h_tp h_by hn (by omega) (by omega) _) k_532 k_529 k_531 k_12 k_86 (nA := 1) (by decide +kernel) ⟨Nat.le_of_ble_eq_true rfl, Nat.le_of_ble_eq_true rfl⟩ hK hP hD hS hA hZ hN h_rd rfl rfl rfl hl.1 rfl (Nat.le_of_ble_eq_true rfl) dX4_beginsLikeHead_12 ⟨(show 0 + 0 ≤ 0 by omega), (show 0 + 0 ≤ 0 by omega)⟩) (Nat.le_refl _) (Nat.le_refl _) (fun r H locs hw hP hD hS => ?_)
    rcases hw with ⟨c_2, rfl⟩ | ⟨c_2, rfl⟩
    · have hP := hP
      refine lv_if_eq (tgt := 22) hx hb dX4_beginsLikeHead_15 (by decide) (fun hno => absurd hno (by decide)) (fun _ => ?_)
      refine lv_iconst (v := 1) hx hb dX4_beginsLikeHead_18 (by decide) ?_
      refine lv_goto (tgt := 23) hx hb dX4_beginsLikeHead_19 (by decide) ?_
      exact o_ri hf hr rfl hlocks hK hP hD hS (show 0 ≤ 0 by omega) (show 0 ≤ 0 by omega) ⟨Or.inl ⟨Or.inr c_2, rfl⟩, rfl, rfl⟩ dX4_beginsLikeHead_23
    · have hP := hP
      refine lv_if_eq (tgt := 22) hx hb dX4_beginsLikeHead_15 (by decide) (fun _ => ?_) (fun hno => absurd hno (by decide))
      refine lv_iconst (v := 0) hx hb dX4_beginsLikeHead_22 (by decide) ?_
      exact o_ri hf hr rfl hlocks hK hP hD hS (show 0 ≤ 0 by omega) (show 0 ≤ 0 by omega) ⟨Or.inr ⟨fun h => h.elim c_1 c_2, rfl⟩, rfl, rfl⟩ dX4_beginsLikeHead_23
set_option maxHeartbeats 1000000 in
set_option maxRecDepth 100000 in
theorem r_kindOf4 (l : Launch) (D : va_G) (z : Nat → Nat) (cB cI_ cO : ClassId) (L0 : List Nat) (g0 : hG) (rd tp by_ n nx fm to_ : Nat) (T : Nat → Int32) (kd ka : Int32) (h_rd : ho L0 g0 rd 4 (.inr (5, [.ref tp, .int (nI nx), .int (nI fm), .int (nI to_), .int kd, .int ka]))) (h_tp : ho L0 g0 tp 2 (.inr (9, [.ref by_, .int (nI n)]))) (h_by : ho L0 g0 by_ 3 (.inl (cB, 1200, .inl T))) (hn : n ≤ 1200) (hto : to_ ≤ n) (hft : fm ≤ to_) (hnx : nx ≤ n + 1) : eIs l D yX4_kindOfLine cX4_kindOfLine 2 (some .int) 6 127 0 0 [.ref rd] z cB cI_ cO L0 g0 (fun r => r = tx_kc T fm to_ ka (tx_fb T n nx)) := by
  refine o_si (by decide) (Nat.le_of_ble_eq_true rfl) ?_
  intro p e s m below meth c A ls hf hr hlocks hin hK hP hD hS hA hZ hN hl
  obtain ⟨hx, hb, hml, hown, hts⟩ := id hf
  have hl : lv_has ls 2 [(0, .ref rd)] := hl
  refine lv_aload_n hx hb dX4_kindOfLine_0 rfl (lv_at hl 0 rfl) ?_
  refine o_get (D := D) (ci := 5) (v := .int (nI fm)) (C := RX4) (T := TX4) (N := 6) hx hb hts inX4 hown hK hP h_rd rfl 2 (by decide) (hts _ k_137) (fun _ h9 => h9) rfl dX4_kindOfLine_1 ?_
  refine lv_aload_n hx hb dX4_kindOfLine_4 rfl (lv_at hl 0 rfl) ?_
  refine o_get (D := D) (ci := 5) (v := .int (nI to_)) (C := RX4) (T := TX4) (N := 6) hx hb hts inX4 hown hK hP h_rd rfl 3 (by decide) (hts _ k_138) (fun _ h9 => h9) rfl dX4_kindOfLine_5 ?_
  refine lv_icmp_lt (tgt := 13) hx hb dX4_kindOfLine_8 (by decide) (fun c_1 => ?_) (fun c_1 => ?_)
  · have c_1 := q_lt (a := fm) (b := to_) (by omega) (by omega) c_1
    refine lv_aload_n hx hb dX4_kindOfLine_13 rfl (lv_at hl 0 rfl) ?_
    refine o_get (D := D) (ci := 5) (v := .int ka) (C := RX4) (T := TX4) (N := 6) hx hb hts inX4 hown hK hP h_rd rfl 5 (by decide) (hts _ k_140) (fun _ h9 => h9) rfl dX4_kindOfLine_14 ?_
    refine lv_iconst (v := (-1)) hx hb dX4_kindOfLine_17 (by decide) ?_
    refine lv_icmp_ne (tgt := 86) hx hb dX4_kindOfLine_18 (by decide) (fun c_2 => ?_) (fun c_2 => ?_)
    · refine lv_aload_n hx hb dX4_kindOfLine_86 rfl (lv_at hl 0 rfl) ?_
      refine o_get (D := D) (ci := 5) (v := .int ka) (C := RX4) (T := TX4) (N := 6) hx hb hts inX4 hown hK hP h_rd rfl 5 (by decide) (hts _ k_140) (fun _ h9 => h9) rfl dX4_kindOfLine_87 ?_
      refine lv_iconst (v := 2) hx hb dX4_kindOfLine_90 (by decide) ?_
      refine lv_icmp_eq (tgt := 110) hx hb dX4_kindOfLine_91 (by decide) (fun c_3 => ?_) (fun c_3 => ?_)
      · refine lv_aload_n hx hb dX4_kindOfLine_110 rfl (lv_at hl 0 rfl) ?_
        refine o_get (D := D) (ci := 5) (v := .ref tp) (C := RX4) (T := TX4) (N := 6) hx hb hts inX4 hown hK hP h_rd rfl 0 (by decide) (hts _ k_135) (fun _ h9 => h9) rfl dX4_kindOfLine_111 ?_
        refine lv_aload_n hx hb dX4_kindOfLine_114 rfl (lv_at hl 0 rfl) ?_
        refine o_get (D := D) (ci := 5) (v := .int (nI fm)) (C := RX4) (T := TX4) (N := 6) hx hb hts inX4 hown hK hP h_rd rfl 2 (by decide) (hts _ k_137) (fun _ h9 => h9) rfl dX4_kindOfLine_115 ?_
        refine o_cis (k := 0) (n := 0) hK hP hD hS hA (o_rV (As := [.int (nI fm)]) (rest := []) hf (t_atI _ _ _ _ _ _ _ _ tp by_ n T fm h_tp h_by hn (by omega) _) k_200 k_511 k_198 k_199 k_85 (nA := 1) (by decide +kernel) ⟨Nat.le_of_ble_eq_true rfl, Nat.le_of_ble_eq_true rfl⟩ hK hP hD hS hA hZ hN h_tp rfl rfl rfl hl.1 rfl (Nat.le_of_ble_eq_true rfl) dX4_kindOfLine_118 ⟨(show 0 + 0 ≤ 0 by omega), (show 0 + 0 ≤ 0 by omega)⟩) (Nat.le_refl _) (Nat.le_refl _) (fun r H locs hw hP hD hS => ?_)
        obtain rfl := hw
        refine lv_bipush (v := 40) hx hb dX4_kindOfLine_121 (by decide) ?_
        refine lv_icmp_ne (tgt := 148) hx hb dX4_kindOfLine_123 (by decide) (fun c_4 => ?_) (fun c_4 => ?_)
        · refine lv_iconst (v := 0) hx hb dX4_kindOfLine_148 (by decide) ?_
          refine lv_istore_n (lv' := [(1, .int 0), (0, .ref rd)]) hx hb dX4_kindOfLine_149 rfl hl (by decide) rfl (fun ls hl => ?_)
          refine lv_iload_n hx hb dX4_kindOfLine_150 rfl (lv_at hl 0 rfl) ?_
          refine lv_if_eq (tgt := 158) hx hb dX4_kindOfLine_151 (by decide) (fun _ => ?_) (fun hno => absurd hno (by decide))
          refine lv_iconst (v := 4) hx hb dX4_kindOfLine_158 (by decide) ?_
          exact o_ri hf hr rfl hlocks hK hP hD hS (show 0 ≤ 0 by omega) (show 0 ≤ 0 by omega) ⟨((if_pos (show fm < to_ by omega)).trans (((((pif_n (fun h => c_2 h.2.1)).trans (pif_n (fun h => c_2 h.2.1))).trans (pif_n (fun h => c_2 h.2.1))).trans (pif_p (tx_sp (Or.inl c_3)))).trans (pif_n (fun h => c_4 h.1)))).symm, rfl, rfl⟩ dX4_kindOfLine_159
        · refine lv_aload_n hx hb dX4_kindOfLine_126 rfl (lv_at hl 0 rfl) ?_
          refine o_get (D := D) (ci := 5) (v := .ref tp) (C := RX4) (T := TX4) (N := 6) hx hb hts inX4 hown hK hP h_rd rfl 0 (by decide) (hts _ k_135) (fun _ h9 => h9) rfl dX4_kindOfLine_127 ?_
          refine lv_aload_n hx hb dX4_kindOfLine_130 rfl (lv_at hl 0 rfl) ?_
          refine o_get (D := D) (ci := 5) (v := .int (nI to_)) (C := RX4) (T := TX4) (N := 6) hx hb hts inX4 hown hK hP h_rd rfl 3 (by decide) (hts _ k_138) (fun _ h9 => h9) rfl dX4_kindOfLine_131 ?_
          refine lv_iconst (v := 1) hx hb dX4_kindOfLine_134 (by decide) ?_
          refine lv_isub hx hb dX4_kindOfLine_135 ?_
          refine q_seti (y := nI (to_ - 1)) (nI_subE (a := to_) (b := 1) (by omega) (by omega)) ?_
          refine o_cis (k := 0) (n := 0) hK hP hD hS hA (o_rV (As := [.int (nI (to_ - 1))]) (rest := []) hf (t_atI _ _ _ _ _ _ _ _ tp by_ n T (to_ - 1) h_tp h_by hn (by omega) _) k_200 k_511 k_198 k_199 k_85 (nA := 1) (by decide +kernel) ⟨Nat.le_of_ble_eq_true rfl, Nat.le_of_ble_eq_true rfl⟩ hK hP hD hS hA hZ hN h_tp rfl rfl rfl hl.1 rfl (Nat.le_of_ble_eq_true rfl) dX4_kindOfLine_136 ⟨(show 0 + 0 ≤ 0 by omega), (show 0 + 0 ≤ 0 by omega)⟩) (Nat.le_refl _) (Nat.le_refl _) (fun r H locs hw hP hD hS => ?_)
          obtain rfl := hw
          refine lv_bipush (v := 41) hx hb dX4_kindOfLine_139 (by decide) ?_
          refine lv_icmp_ne (tgt := 148) hx hb dX4_kindOfLine_141 (by decide) (fun c_5 => ?_) (fun c_5 => ?_)
          · refine lv_iconst (v := 0) hx hb dX4_kindOfLine_148 (by decide) ?_
            refine lv_istore_n (lv' := [(1, .int 0), (0, .ref rd)]) hx hb dX4_kindOfLine_149 rfl hl (by decide) rfl (fun ls hl => ?_)
            refine lv_iload_n hx hb dX4_kindOfLine_150 rfl (lv_at hl 0 rfl) ?_
            refine lv_if_eq (tgt := 158) hx hb dX4_kindOfLine_151 (by decide) (fun _ => ?_) (fun hno => absurd hno (by decide))
            refine lv_iconst (v := 4) hx hb dX4_kindOfLine_158 (by decide) ?_
            exact o_ri hf hr rfl hlocks hK hP hD hS (show 0 ≤ 0 by omega) (show 0 ≤ 0 by omega) ⟨((if_pos (show fm < to_ by omega)).trans (((((pif_n (fun h => c_2 h.2.1)).trans (pif_n (fun h => c_2 h.2.1))).trans (pif_n (fun h => c_2 h.2.1))).trans (pif_p (tx_sp (Or.inl c_3)))).trans (pif_n (fun h => c_5 h.2)))).symm, rfl, rfl⟩ dX4_kindOfLine_159
          · refine lv_iconst (v := 1) hx hb dX4_kindOfLine_144 (by decide) ?_
            refine lv_goto (tgt := 149) hx hb dX4_kindOfLine_145 (by decide) ?_
            refine lv_istore_n (lv' := [(1, .int 1), (0, .ref rd)]) hx hb dX4_kindOfLine_149 rfl hl (by decide) rfl (fun ls hl => ?_)
            refine lv_iload_n hx hb dX4_kindOfLine_150 rfl (lv_at hl 0 rfl) ?_
            refine lv_if_eq (tgt := 158) hx hb dX4_kindOfLine_151 (by decide) (fun hno => absurd hno (by decide)) (fun _ => ?_)
            refine lv_iconst (v := 3) hx hb dX4_kindOfLine_154 (by decide) ?_
            refine lv_goto (tgt := 159) hx hb dX4_kindOfLine_155 (by decide) ?_
            exact o_ri hf hr rfl hlocks hK hP hD hS (show 0 ≤ 0 by omega) (show 0 ≤ 0 by omega) ⟨((if_pos (show fm < to_ by omega)).trans (((((pif_n (fun h => c_2 h.2.1)).trans (pif_n (fun h => c_2 h.2.1))).trans (pif_n (fun h => c_2 h.2.1))).trans (pif_p (tx_sp (Or.inl c_3)))).trans (pif_p ⟨c_4, c_5⟩))).symm, rfl, rfl⟩ dX4_kindOfLine_159
      · refine lv_aload_n hx hb dX4_kindOfLine_94 rfl (lv_at hl 0 rfl) ?_
        refine o_get (D := D) (ci := 5) (v := .int ka) (C := RX4) (T := TX4) (N := 6) hx hb hts inX4 hown hK hP h_rd rfl 5 (by decide) (hts _ k_140) (fun _ h9 => h9) rfl dX4_kindOfLine_95 ?_
        refine lv_iconst (v := 3) hx hb dX4_kindOfLine_98 (by decide) ?_
        refine lv_icmp_eq (tgt := 110) hx hb dX4_kindOfLine_99 (by decide) (fun c_6 => ?_) (fun c_6 => ?_)
        · refine lv_aload_n hx hb dX4_kindOfLine_110 rfl (lv_at hl 0 rfl) ?_
          refine o_get (D := D) (ci := 5) (v := .ref tp) (C := RX4) (T := TX4) (N := 6) hx hb hts inX4 hown hK hP h_rd rfl 0 (by decide) (hts _ k_135) (fun _ h9 => h9) rfl dX4_kindOfLine_111 ?_
          refine lv_aload_n hx hb dX4_kindOfLine_114 rfl (lv_at hl 0 rfl) ?_
          refine o_get (D := D) (ci := 5) (v := .int (nI fm)) (C := RX4) (T := TX4) (N := 6) hx hb hts inX4 hown hK hP h_rd rfl 2 (by decide) (hts _ k_137) (fun _ h9 => h9) rfl dX4_kindOfLine_115 ?_
          refine o_cis (k := 0) (n := 0) hK hP hD hS hA (o_rV (As := [.int (nI fm)]) (rest := []) hf (t_atI _ _ _ _ _ _ _ _ tp by_ n T fm h_tp h_by hn (by omega) _) k_200 k_511 k_198 k_199 k_85 (nA := 1) (by decide +kernel) ⟨Nat.le_of_ble_eq_true rfl, Nat.le_of_ble_eq_true rfl⟩ hK hP hD hS hA hZ hN h_tp rfl rfl rfl hl.1 rfl (Nat.le_of_ble_eq_true rfl) dX4_kindOfLine_118 ⟨(show 0 + 0 ≤ 0 by omega), (show 0 + 0 ≤ 0 by omega)⟩) (Nat.le_refl _) (Nat.le_refl _) (fun r H locs hw hP hD hS => ?_)
          obtain rfl := hw
          refine lv_bipush (v := 40) hx hb dX4_kindOfLine_121 (by decide) ?_
          refine lv_icmp_ne (tgt := 148) hx hb dX4_kindOfLine_123 (by decide) (fun c_7 => ?_) (fun c_7 => ?_)
          · refine lv_iconst (v := 0) hx hb dX4_kindOfLine_148 (by decide) ?_
            refine lv_istore_n (lv' := [(1, .int 0), (0, .ref rd)]) hx hb dX4_kindOfLine_149 rfl hl (by decide) rfl (fun ls hl => ?_)
            refine lv_iload_n hx hb dX4_kindOfLine_150 rfl (lv_at hl 0 rfl) ?_
            refine lv_if_eq (tgt := 158) hx hb dX4_kindOfLine_151 (by decide) (fun _ => ?_) (fun hno => absurd hno (by decide))
            refine lv_iconst (v := 4) hx hb dX4_kindOfLine_158 (by decide) ?_
            exact o_ri hf hr rfl hlocks hK hP hD hS (show 0 ≤ 0 by omega) (show 0 ≤ 0 by omega) ⟨((if_pos (show fm < to_ by omega)).trans (((((pif_n (fun h => c_2 h.2.1)).trans (pif_n (fun h => c_2 h.2.1))).trans (pif_n (fun h => c_2 h.2.1))).trans (pif_p (tx_sp (Or.inr (Or.inl c_6))))).trans (pif_n (fun h => c_7 h.1)))).symm, rfl, rfl⟩ dX4_kindOfLine_159
          · refine lv_aload_n hx hb dX4_kindOfLine_126 rfl (lv_at hl 0 rfl) ?_
            refine o_get (D := D) (ci := 5) (v := .ref tp) (C := RX4) (T := TX4) (N := 6) hx hb hts inX4 hown hK hP h_rd rfl 0 (by decide) (hts _ k_135) (fun _ h9 => h9) rfl dX4_kindOfLine_127 ?_
            refine lv_aload_n hx hb dX4_kindOfLine_130 rfl (lv_at hl 0 rfl) ?_
            refine o_get (D := D) (ci := 5) (v := .int (nI to_)) (C := RX4) (T := TX4) (N := 6) hx hb hts inX4 hown hK hP h_rd rfl 3 (by decide) (hts _ k_138) (fun _ h9 => h9) rfl dX4_kindOfLine_131 ?_
            refine lv_iconst (v := 1) hx hb dX4_kindOfLine_134 (by decide) ?_
            refine lv_isub hx hb dX4_kindOfLine_135 ?_
            refine q_seti (y := nI (to_ - 1)) (nI_subE (a := to_) (b := 1) (by omega) (by omega)) ?_
            refine o_cis (k := 0) (n := 0) hK hP hD hS hA (o_rV (As := [.int (nI (to_ - 1))]) (rest := []) hf (t_atI _ _ _ _ _ _ _ _ tp by_ n T (to_ - 1) h_tp h_by hn (by omega) _) k_200 k_511 k_198 k_199 k_85 (nA := 1) (by decide +kernel) ⟨Nat.le_of_ble_eq_true rfl, Nat.le_of_ble_eq_true rfl⟩ hK hP hD hS hA hZ hN h_tp rfl rfl rfl hl.1 rfl (Nat.le_of_ble_eq_true rfl) dX4_kindOfLine_136 ⟨(show 0 + 0 ≤ 0 by omega), (show 0 + 0 ≤ 0 by omega)⟩) (Nat.le_refl _) (Nat.le_refl _) (fun r H locs hw hP hD hS => ?_)
            obtain rfl := hw
            refine lv_bipush (v := 41) hx hb dX4_kindOfLine_139 (by decide) ?_
            refine lv_icmp_ne (tgt := 148) hx hb dX4_kindOfLine_141 (by decide) (fun c_8 => ?_) (fun c_8 => ?_)
            · refine lv_iconst (v := 0) hx hb dX4_kindOfLine_148 (by decide) ?_
              refine lv_istore_n (lv' := [(1, .int 0), (0, .ref rd)]) hx hb dX4_kindOfLine_149 rfl hl (by decide) rfl (fun ls hl => ?_)
              refine lv_iload_n hx hb dX4_kindOfLine_150 rfl (lv_at hl 0 rfl) ?_
              refine lv_if_eq (tgt := 158) hx hb dX4_kindOfLine_151 (by decide) (fun _ => ?_) (fun hno => absurd hno (by decide))
              refine lv_iconst (v := 4) hx hb dX4_kindOfLine_158 (by decide) ?_
              exact o_ri hf hr rfl hlocks hK hP hD hS (show 0 ≤ 0 by omega) (show 0 ≤ 0 by omega) ⟨((if_pos (show fm < to_ by omega)).trans (((((pif_n (fun h => c_2 h.2.1)).trans (pif_n (fun h => c_2 h.2.1))).trans (pif_n (fun h => c_2 h.2.1))).trans (pif_p (tx_sp (Or.inr (Or.inl c_6))))).trans (pif_n (fun h => c_8 h.2)))).symm, rfl, rfl⟩ dX4_kindOfLine_159
            · refine lv_iconst (v := 1) hx hb dX4_kindOfLine_144 (by decide) ?_
              refine lv_goto (tgt := 149) hx hb dX4_kindOfLine_145 (by decide) ?_
              refine lv_istore_n (lv' := [(1, .int 1), (0, .ref rd)]) hx hb dX4_kindOfLine_149 rfl hl (by decide) rfl (fun ls hl => ?_)
              refine lv_iload_n hx hb dX4_kindOfLine_150 rfl (lv_at hl 0 rfl) ?_
              refine lv_if_eq (tgt := 158) hx hb dX4_kindOfLine_151 (by decide) (fun hno => absurd hno (by decide)) (fun _ => ?_)
              refine lv_iconst (v := 3) hx hb dX4_kindOfLine_154 (by decide) ?_
              refine lv_goto (tgt := 159) hx hb dX4_kindOfLine_155 (by decide) ?_
              exact o_ri hf hr rfl hlocks hK hP hD hS (show 0 ≤ 0 by omega) (show 0 ≤ 0 by omega) ⟨((if_pos (show fm < to_ by omega)).trans (((((pif_n (fun h => c_2 h.2.1)).trans (pif_n (fun h => c_2 h.2.1))).trans (pif_n (fun h => c_2 h.2.1))).trans (pif_p (tx_sp (Or.inr (Or.inl c_6))))).trans (pif_p ⟨c_7, c_8⟩))).symm, rfl, rfl⟩ dX4_kindOfLine_159
        · refine lv_aload_n hx hb dX4_kindOfLine_102 rfl (lv_at hl 0 rfl) ?_
          refine o_get (D := D) (ci := 5) (v := .int ka) (C := RX4) (T := TX4) (N := 6) hx hb hts inX4 hown hK hP h_rd rfl 5 (by decide) (hts _ k_140) (fun _ h9 => h9) rfl dX4_kindOfLine_103 ?_
          refine lv_iconst (v := 4) hx hb dX4_kindOfLine_106 (by decide) ?_
          refine lv_icmp_ne (tgt := 160) hx hb dX4_kindOfLine_107 (by decide) (fun c_9 => ?_) (fun c_9 => ?_)
          · refine lv_iconst (v := 5) hx hb dX4_kindOfLine_160 (by decide) ?_
            exact o_ri hf hr rfl hlocks hK hP hD hS (show 0 ≤ 0 by omega) (show 0 ≤ 0 by omega) ⟨((if_pos (show fm < to_ by omega)).trans ((((pif_n (fun h => c_2 h.2.1)).trans (pif_n (fun h => c_2 h.2.1))).trans (pif_n (fun h => c_2 h.2.1))).trans (pif_n (tx_nsp c_3 c_6 c_9)))).symm, rfl, rfl⟩ dX4_kindOfLine_161
          · refine lv_aload_n hx hb dX4_kindOfLine_110 rfl (lv_at hl 0 rfl) ?_
            refine o_get (D := D) (ci := 5) (v := .ref tp) (C := RX4) (T := TX4) (N := 6) hx hb hts inX4 hown hK hP h_rd rfl 0 (by decide) (hts _ k_135) (fun _ h9 => h9) rfl dX4_kindOfLine_111 ?_
            refine lv_aload_n hx hb dX4_kindOfLine_114 rfl (lv_at hl 0 rfl) ?_
            refine o_get (D := D) (ci := 5) (v := .int (nI fm)) (C := RX4) (T := TX4) (N := 6) hx hb hts inX4 hown hK hP h_rd rfl 2 (by decide) (hts _ k_137) (fun _ h9 => h9) rfl dX4_kindOfLine_115 ?_
            refine o_cis (k := 0) (n := 0) hK hP hD hS hA (o_rV (As := [.int (nI fm)]) (rest := []) hf (t_atI _ _ _ _ _ _ _ _ tp by_ n T fm h_tp h_by hn (by omega) _) k_200 k_511 k_198 k_199 k_85 (nA := 1) (by decide +kernel) ⟨Nat.le_of_ble_eq_true rfl, Nat.le_of_ble_eq_true rfl⟩ hK hP hD hS hA hZ hN h_tp rfl rfl rfl hl.1 rfl (Nat.le_of_ble_eq_true rfl) dX4_kindOfLine_118 ⟨(show 0 + 0 ≤ 0 by omega), (show 0 + 0 ≤ 0 by omega)⟩) (Nat.le_refl _) (Nat.le_refl _) (fun r H locs hw hP hD hS => ?_)
            obtain rfl := hw
            refine lv_bipush (v := 40) hx hb dX4_kindOfLine_121 (by decide) ?_
            refine lv_icmp_ne (tgt := 148) hx hb dX4_kindOfLine_123 (by decide) (fun c_10 => ?_) (fun c_10 => ?_)
            · refine lv_iconst (v := 0) hx hb dX4_kindOfLine_148 (by decide) ?_
              refine lv_istore_n (lv' := [(1, .int 0), (0, .ref rd)]) hx hb dX4_kindOfLine_149 rfl hl (by decide) rfl (fun ls hl => ?_)
              refine lv_iload_n hx hb dX4_kindOfLine_150 rfl (lv_at hl 0 rfl) ?_
              refine lv_if_eq (tgt := 158) hx hb dX4_kindOfLine_151 (by decide) (fun _ => ?_) (fun hno => absurd hno (by decide))
              refine lv_iconst (v := 4) hx hb dX4_kindOfLine_158 (by decide) ?_
              exact o_ri hf hr rfl hlocks hK hP hD hS (show 0 ≤ 0 by omega) (show 0 ≤ 0 by omega) ⟨((if_pos (show fm < to_ by omega)).trans (((((pif_n (fun h => c_2 h.2.1)).trans (pif_n (fun h => c_2 h.2.1))).trans (pif_n (fun h => c_2 h.2.1))).trans (pif_p (tx_sp (Or.inr (Or.inr c_9))))).trans (pif_n (fun h => c_10 h.1)))).symm, rfl, rfl⟩ dX4_kindOfLine_159
            · refine lv_aload_n hx hb dX4_kindOfLine_126 rfl (lv_at hl 0 rfl) ?_
              refine o_get (D := D) (ci := 5) (v := .ref tp) (C := RX4) (T := TX4) (N := 6) hx hb hts inX4 hown hK hP h_rd rfl 0 (by decide) (hts _ k_135) (fun _ h9 => h9) rfl dX4_kindOfLine_127 ?_
              refine lv_aload_n hx hb dX4_kindOfLine_130 rfl (lv_at hl 0 rfl) ?_
              refine o_get (D := D) (ci := 5) (v := .int (nI to_)) (C := RX4) (T := TX4) (N := 6) hx hb hts inX4 hown hK hP h_rd rfl 3 (by decide) (hts _ k_138) (fun _ h9 => h9) rfl dX4_kindOfLine_131 ?_
              refine lv_iconst (v := 1) hx hb dX4_kindOfLine_134 (by decide) ?_
              refine lv_isub hx hb dX4_kindOfLine_135 ?_
              refine q_seti (y := nI (to_ - 1)) (nI_subE (a := to_) (b := 1) (by omega) (by omega)) ?_
              refine o_cis (k := 0) (n := 0) hK hP hD hS hA (o_rV (As := [.int (nI (to_ - 1))]) (rest := []) hf (t_atI _ _ _ _ _ _ _ _ tp by_ n T (to_ - 1) h_tp h_by hn (by omega) _) k_200 k_511 k_198 k_199 k_85 (nA := 1) (by decide +kernel) ⟨Nat.le_of_ble_eq_true rfl, Nat.le_of_ble_eq_true rfl⟩ hK hP hD hS hA hZ hN h_tp rfl rfl rfl hl.1 rfl (Nat.le_of_ble_eq_true rfl) dX4_kindOfLine_136 ⟨(show 0 + 0 ≤ 0 by omega), (show 0 + 0 ≤ 0 by omega)⟩) (Nat.le_refl _) (Nat.le_refl _) (fun r H locs hw hP hD hS => ?_)
              obtain rfl := hw
              refine lv_bipush (v := 41) hx hb dX4_kindOfLine_139 (by decide) ?_
              refine lv_icmp_ne (tgt := 148) hx hb dX4_kindOfLine_141 (by decide) (fun c_11 => ?_) (fun c_11 => ?_)
              · refine lv_iconst (v := 0) hx hb dX4_kindOfLine_148 (by decide) ?_
                refine lv_istore_n (lv' := [(1, .int 0), (0, .ref rd)]) hx hb dX4_kindOfLine_149 rfl hl (by decide) rfl (fun ls hl => ?_)
                refine lv_iload_n hx hb dX4_kindOfLine_150 rfl (lv_at hl 0 rfl) ?_
                refine lv_if_eq (tgt := 158) hx hb dX4_kindOfLine_151 (by decide) (fun _ => ?_) (fun hno => absurd hno (by decide))
                refine lv_iconst (v := 4) hx hb dX4_kindOfLine_158 (by decide) ?_
                exact o_ri hf hr rfl hlocks hK hP hD hS (show 0 ≤ 0 by omega) (show 0 ≤ 0 by omega) ⟨((if_pos (show fm < to_ by omega)).trans (((((pif_n (fun h => c_2 h.2.1)).trans (pif_n (fun h => c_2 h.2.1))).trans (pif_n (fun h => c_2 h.2.1))).trans (pif_p (tx_sp (Or.inr (Or.inr c_9))))).trans (pif_n (fun h => c_11 h.2)))).symm, rfl, rfl⟩ dX4_kindOfLine_159
              · refine lv_iconst (v := 1) hx hb dX4_kindOfLine_144 (by decide) ?_
                refine lv_goto (tgt := 149) hx hb dX4_kindOfLine_145 (by decide) ?_
                refine lv_istore_n (lv' := [(1, .int 1), (0, .ref rd)]) hx hb dX4_kindOfLine_149 rfl hl (by decide) rfl (fun ls hl => ?_)
                refine lv_iload_n hx hb dX4_kindOfLine_150 rfl (lv_at hl 0 rfl) ?_
                refine lv_if_eq (tgt := 158) hx hb dX4_kindOfLine_151 (by decide) (fun hno => absurd hno (by decide)) (fun _ => ?_)
                refine lv_iconst (v := 3) hx hb dX4_kindOfLine_154 (by decide) ?_
                refine lv_goto (tgt := 159) hx hb dX4_kindOfLine_155 (by decide) ?_
                exact o_ri hf hr rfl hlocks hK hP hD hS (show 0 ≤ 0 by omega) (show 0 ≤ 0 by omega) ⟨((if_pos (show fm < to_ by omega)).trans (((((pif_n (fun h => c_2 h.2.1)).trans (pif_n (fun h => c_2 h.2.1))).trans (pif_n (fun h => c_2 h.2.1))).trans (pif_p (tx_sp (Or.inr (Or.inr c_9))))).trans (pif_p ⟨c_10, c_11⟩))).symm, rfl, rfl⟩ dX4_kindOfLine_159
    · refine lv_aload_n hx hb dX4_kindOfLine_21 rfl (lv_at hl 0 rfl) ?_
      refine o_cis (k := 0) (n := 0) hK hP hD hS hA (o_rV (As := []) (rest := []) hf (r_big _ _ _ _ _ _ _ _ rd tp by_ n nx fm to_ T kd ka h_rd h_tp h_by hn (by omega) (by omega) _) k_523 k_520 k_522 k_10 k_86 (nA := 0) (by decide +kernel) ⟨Nat.le_of_ble_eq_true rfl, Nat.le_of_ble_eq_true rfl⟩ hK hP hD hS hA hZ hN h_rd rfl rfl rfl hl.1 rfl (Nat.le_of_ble_eq_true rfl) dX4_kindOfLine_22 ⟨(show 0 + 0 ≤ 0 by omega), (show 0 + 0 ≤ 0 by omega)⟩) (Nat.le_refl _) (Nat.le_refl _) (fun r H locs hw hP hD hS => ?_)
      rcases hw with ⟨c_12, rfl⟩ | ⟨c_12, rfl⟩
      · have hP := hP
        refine lv_if_eq (tgt := 86) hx hb dX4_kindOfLine_25 (by decide) (fun hno => absurd hno (by decide)) (fun _ => ?_)
        refine lv_aload_n hx hb dX4_kindOfLine_28 rfl (lv_at hl 0 rfl) ?_
        refine o_cis (k := 0) (n := 0) hK hP hD hS hA (o_rV (As := []) (rest := []) hf (r_likeHead _ _ _ _ _ _ _ _ rd tp by_ n nx fm to_ T kd ka h_rd h_tp h_by hn (by omega) (by omega) _) k_527 k_524 k_526 k_11 k_86 (nA := 0) (by decide +kernel) ⟨Nat.le_of_ble_eq_true rfl, Nat.le_of_ble_eq_true rfl⟩ hK hP hD hS hA hZ hN h_rd rfl rfl rfl hl.1 rfl (Nat.le_of_ble_eq_true rfl) dX4_kindOfLine_29 ⟨(show 0 + 0 ≤ 0 by omega), (show 0 + 0 ≤ 0 by omega)⟩) (Nat.le_refl _) (Nat.le_refl _) (fun r H locs hw hP hD hS => ?_)
        rcases hw with ⟨c_13, rfl⟩ | ⟨c_13, rfl⟩
        · have hP := hP
          refine lv_if_eq (tgt := 37) hx hb dX4_kindOfLine_32 (by decide) (fun hno => absurd hno (by decide)) (fun _ => ?_)
          refine lv_iconst (v := 0) hx hb dX4_kindOfLine_35 (by decide) ?_
          exact o_ri hf hr rfl hlocks hK hP hD hS (show 0 ≤ 0 by omega) (show 0 ≤ 0 by omega) ⟨((if_pos (show fm < to_ by omega)).trans (pif_p ⟨c_12, c_2, c_13⟩)).symm, rfl, rfl⟩ dX4_kindOfLine_36
        · have hP := hP
          refine lv_if_eq (tgt := 37) hx hb dX4_kindOfLine_32 (by decide) (fun _ => ?_) (fun hno => absurd hno (by decide))
          refine lv_aload_n hx hb dX4_kindOfLine_37 rfl (lv_at hl 0 rfl) ?_
          refine o_cis (k := 0) (n := 0) hK hP hD hS hA (o_rV (As := []) (rest := []) hf (r_freeB _ _ _ _ _ _ _ _ rd tp by_ n nx fm to_ T kd ka h_rd h_tp h_by hn (by omega) _) k_585 k_582 k_584 k_13 k_86 (nA := 0) (by decide +kernel) ⟨Nat.le_of_ble_eq_true rfl, Nat.le_of_ble_eq_true rfl⟩ hK hP hD hS hA hZ hN h_rd rfl rfl rfl hl.1 rfl (Nat.le_of_ble_eq_true rfl) dX4_kindOfLine_38 ⟨(show 0 + 0 ≤ 0 by omega), (show 0 + 0 ≤ 0 by omega)⟩) (Nat.le_refl _) (Nat.le_refl _) (fun r H locs hw hP hD hS => ?_)
          rcases hw with ⟨c_14, rfl⟩ | ⟨c_14, rfl⟩
          · have hP := hP
            refine lv_istore_n (lv' := [(1, .int 1), (0, .ref rd)]) hx hb dX4_kindOfLine_41 rfl hl (by decide) rfl (fun ls hl => ?_)
            refine lv_iload_n hx hb dX4_kindOfLine_42 rfl (lv_at hl 0 rfl) ?_
            refine lv_if_eq (tgt := 66) hx hb dX4_kindOfLine_43 (by decide) (fun hno => absurd hno (by decide)) (fun _ => ?_)
            refine lv_aload_n hx hb dX4_kindOfLine_46 rfl (lv_at hl 1 rfl) ?_
            refine o_get (D := D) (ci := 5) (v := .ref tp) (C := RX4) (T := TX4) (N := 6) hx hb hts inX4 hown hK hP h_rd rfl 0 (by decide) (hts _ k_135) (fun _ h9 => h9) rfl dX4_kindOfLine_47 ?_
            refine lv_aload_n hx hb dX4_kindOfLine_50 rfl (lv_at hl 1 rfl) ?_
            refine o_get (D := D) (ci := 5) (v := .int (nI to_)) (C := RX4) (T := TX4) (N := 6) hx hb hts inX4 hown hK hP h_rd rfl 3 (by decide) (hts _ k_138) (fun _ h9 => h9) rfl dX4_kindOfLine_51 ?_
            refine lv_iconst (v := 1) hx hb dX4_kindOfLine_54 (by decide) ?_
            refine lv_isub hx hb dX4_kindOfLine_55 ?_
            refine q_seti (y := nI (to_ - 1)) (nI_subE (a := to_) (b := 1) (by omega) (by omega)) ?_
            refine o_cis (k := 0) (n := 0) hK hP hD hS hA (o_rV (As := [.int (nI (to_ - 1))]) (rest := []) hf (t_atI _ _ _ _ _ _ _ _ tp by_ n T (to_ - 1) h_tp h_by hn (by omega) _) k_200 k_511 k_198 k_199 k_85 (nA := 1) (by decide +kernel) ⟨Nat.le_of_ble_eq_true rfl, Nat.le_of_ble_eq_true rfl⟩ hK hP hD hS hA hZ hN h_tp rfl rfl rfl hl.1 rfl (Nat.le_of_ble_eq_true rfl) dX4_kindOfLine_56 ⟨(show 0 + 0 ≤ 0 by omega), (show 0 + 0 ≤ 0 by omega)⟩) (Nat.le_refl _) (Nat.le_refl _) (fun r H locs hw hP hD hS => ?_)
            obtain rfl := hw
            refine lv_bipush (v := 58) hx hb dX4_kindOfLine_59 (by decide) ?_
            refine lv_icmp_ne (tgt := 66) hx hb dX4_kindOfLine_61 (by decide) (fun c_15 => ?_) (fun c_15 => ?_)
            · refine lv_iload_n hx hb dX4_kindOfLine_66 rfl (lv_at hl 0 rfl) ?_
              refine lv_if_ne (tgt := 86) hx hb dX4_kindOfLine_67 (by decide) (fun _ => ?_) (fun hno => absurd hno (by decide))
              refine lv_aload_n hx hb dX4_kindOfLine_86 rfl (lv_at hl 1 rfl) ?_
              refine o_get (D := D) (ci := 5) (v := .int ka) (C := RX4) (T := TX4) (N := 6) hx hb hts inX4 hown hK hP h_rd rfl 5 (by decide) (hts _ k_140) (fun _ h9 => h9) rfl dX4_kindOfLine_87 ?_
              refine lv_iconst (v := 2) hx hb dX4_kindOfLine_90 (by decide) ?_
              refine lv_icmp_eq (tgt := 110) hx hb dX4_kindOfLine_91 (by decide) (fun hno => absurd hno (fun z => absurd (c_2.symm.trans z) (by decide))) (fun _ => ?_)
              refine lv_aload_n hx hb dX4_kindOfLine_94 rfl (lv_at hl 1 rfl) ?_
              refine o_get (D := D) (ci := 5) (v := .int ka) (C := RX4) (T := TX4) (N := 6) hx hb hts inX4 hown hK hP h_rd rfl 5 (by decide) (hts _ k_140) (fun _ h9 => h9) rfl dX4_kindOfLine_95 ?_
              refine lv_iconst (v := 3) hx hb dX4_kindOfLine_98 (by decide) ?_
              refine lv_icmp_eq (tgt := 110) hx hb dX4_kindOfLine_99 (by decide) (fun hno => absurd hno (fun z => absurd (c_2.symm.trans z) (by decide))) (fun _ => ?_)
              refine lv_aload_n hx hb dX4_kindOfLine_102 rfl (lv_at hl 1 rfl) ?_
              refine o_get (D := D) (ci := 5) (v := .int ka) (C := RX4) (T := TX4) (N := 6) hx hb hts inX4 hown hK hP h_rd rfl 5 (by decide) (hts _ k_140) (fun _ h9 => h9) rfl dX4_kindOfLine_103 ?_
              refine lv_iconst (v := 4) hx hb dX4_kindOfLine_106 (by decide) ?_
              refine lv_icmp_ne (tgt := 160) hx hb dX4_kindOfLine_107 (by decide) (fun _ => ?_) (fun hno => absurd hno (fun z => absurd (c_2.symm.trans z) (by decide)))
              refine lv_iconst (v := 5) hx hb dX4_kindOfLine_160 (by decide) ?_
              exact o_ri hf hr rfl hlocks hK hP hD hS (show 0 ≤ 0 by omega) (show 0 ≤ 0 by omega) ⟨((if_pos (show fm < to_ by omega)).trans ((((pif_n (fun h => c_13 h.2.2)).trans (pif_n (fun h => c_15 h.2.2.2))).trans (pif_n (fun h => h.2.2.1 c_14))).trans (pif_n (tx_nsp (fun z => absurd (c_2.symm.trans z) (by decide)) (fun z => absurd (c_2.symm.trans z) (by decide)) (fun z => absurd (c_2.symm.trans z) (by decide)))))).symm, rfl, rfl⟩ dX4_kindOfLine_161
            · refine lv_iconst (v := 1) hx hb dX4_kindOfLine_64 (by decide) ?_
              exact o_ri hf hr rfl hlocks hK hP hD hS (show 0 ≤ 0 by omega) (show 0 ≤ 0 by omega) ⟨((if_pos (show fm < to_ by omega)).trans ((pif_n (fun h => c_13 h.2.2)).trans (pif_p ⟨c_12, c_2, c_14, c_15⟩))).symm, rfl, rfl⟩ dX4_kindOfLine_65
          · have hP := hP
            refine lv_istore_n (lv' := [(1, .int 0), (0, .ref rd)]) hx hb dX4_kindOfLine_41 rfl hl (by decide) rfl (fun ls hl => ?_)
            refine lv_iload_n hx hb dX4_kindOfLine_42 rfl (lv_at hl 0 rfl) ?_
            refine lv_if_eq (tgt := 66) hx hb dX4_kindOfLine_43 (by decide) (fun _ => ?_) (fun hno => absurd hno (by decide))
            refine lv_iload_n hx hb dX4_kindOfLine_66 rfl (lv_at hl 0 rfl) ?_
            refine lv_if_ne (tgt := 86) hx hb dX4_kindOfLine_67 (by decide) (fun hno => absurd hno (by decide)) (fun _ => ?_)
            refine lv_aload_n hx hb dX4_kindOfLine_70 rfl (lv_at hl 1 rfl) ?_
            refine o_get (D := D) (ci := 5) (v := .int (nI to_)) (C := RX4) (T := TX4) (N := 6) hx hb hts inX4 hown hK hP h_rd rfl 3 (by decide) (hts _ k_138) (fun _ h9 => h9) rfl dX4_kindOfLine_71 ?_
            refine lv_aload_n hx hb dX4_kindOfLine_74 rfl (lv_at hl 1 rfl) ?_
            refine o_get (D := D) (ci := 5) (v := .int (nI fm)) (C := RX4) (T := TX4) (N := 6) hx hb hts inX4 hown hK hP h_rd rfl 2 (by decide) (hts _ k_137) (fun _ h9 => h9) rfl dX4_kindOfLine_75 ?_
            refine lv_isub hx hb dX4_kindOfLine_78 ?_
            refine q_seti (y := nI (to_ - fm)) (nI_subE (a := to_) (b := fm) (by omega) (by omega)) ?_
            refine lv_bipush (v := 24) hx hb dX4_kindOfLine_79 (by decide) ?_
            refine lv_icmp_gt (tgt := 86) hx hb dX4_kindOfLine_81 (by decide) (fun c_16 => ?_) (fun c_16 => ?_)
            · have c_16 := q_lt (a := 24) (b := to_ - fm) (by omega) (by omega) c_16
              refine lv_aload_n hx hb dX4_kindOfLine_86 rfl (lv_at hl 1 rfl) ?_
              refine o_get (D := D) (ci := 5) (v := .int ka) (C := RX4) (T := TX4) (N := 6) hx hb hts inX4 hown hK hP h_rd rfl 5 (by decide) (hts _ k_140) (fun _ h9 => h9) rfl dX4_kindOfLine_87 ?_
              refine lv_iconst (v := 2) hx hb dX4_kindOfLine_90 (by decide) ?_
              refine lv_icmp_eq (tgt := 110) hx hb dX4_kindOfLine_91 (by decide) (fun hno => absurd hno (fun z => absurd (c_2.symm.trans z) (by decide))) (fun _ => ?_)
              refine lv_aload_n hx hb dX4_kindOfLine_94 rfl (lv_at hl 1 rfl) ?_
              refine o_get (D := D) (ci := 5) (v := .int ka) (C := RX4) (T := TX4) (N := 6) hx hb hts inX4 hown hK hP h_rd rfl 5 (by decide) (hts _ k_140) (fun _ h9 => h9) rfl dX4_kindOfLine_95 ?_
              refine lv_iconst (v := 3) hx hb dX4_kindOfLine_98 (by decide) ?_
              refine lv_icmp_eq (tgt := 110) hx hb dX4_kindOfLine_99 (by decide) (fun hno => absurd hno (fun z => absurd (c_2.symm.trans z) (by decide))) (fun _ => ?_)
              refine lv_aload_n hx hb dX4_kindOfLine_102 rfl (lv_at hl 1 rfl) ?_
              refine o_get (D := D) (ci := 5) (v := .int ka) (C := RX4) (T := TX4) (N := 6) hx hb hts inX4 hown hK hP h_rd rfl 5 (by decide) (hts _ k_140) (fun _ h9 => h9) rfl dX4_kindOfLine_103 ?_
              refine lv_iconst (v := 4) hx hb dX4_kindOfLine_106 (by decide) ?_
              refine lv_icmp_ne (tgt := 160) hx hb dX4_kindOfLine_107 (by decide) (fun _ => ?_) (fun hno => absurd hno (fun z => absurd (c_2.symm.trans z) (by decide)))
              refine lv_iconst (v := 5) hx hb dX4_kindOfLine_160 (by decide) ?_
              exact o_ri hf hr rfl hlocks hK hP hD hS (show 0 ≤ 0 by omega) (show 0 ≤ 0 by omega) ⟨((if_pos (show fm < to_ by omega)).trans ((((pif_n (fun h => c_13 h.2.2)).trans (pif_n (fun h => c_14 h.2.2.1))).trans (pif_n (fun h => absurd h.2.2.2 (by omega)))).trans (pif_n (tx_nsp (fun z => absurd (c_2.symm.trans z) (by decide)) (fun z => absurd (c_2.symm.trans z) (by decide)) (fun z => absurd (c_2.symm.trans z) (by decide)))))).symm, rfl, rfl⟩ dX4_kindOfLine_161
            · have c_16 := q_nlt (a := 24) (b := to_ - fm) (by omega) (by omega) c_16
              refine lv_iconst (v := 2) hx hb dX4_kindOfLine_84 (by decide) ?_
              exact o_ri hf hr rfl hlocks hK hP hD hS (show 0 ≤ 0 by omega) (show 0 ≤ 0 by omega) ⟨((if_pos (show fm < to_ by omega)).trans (((pif_n (fun h => c_13 h.2.2)).trans (pif_n (fun h => c_14 h.2.2.1))).trans (pif_p ⟨c_12, c_2, c_14, by omega⟩))).symm, rfl, rfl⟩ dX4_kindOfLine_85
      · have hP := hP
        refine lv_if_eq (tgt := 86) hx hb dX4_kindOfLine_25 (by decide) (fun _ => ?_) (fun hno => absurd hno (by decide))
        refine lv_aload_n hx hb dX4_kindOfLine_86 rfl (lv_at hl 0 rfl) ?_
        refine o_get (D := D) (ci := 5) (v := .int ka) (C := RX4) (T := TX4) (N := 6) hx hb hts inX4 hown hK hP h_rd rfl 5 (by decide) (hts _ k_140) (fun _ h9 => h9) rfl dX4_kindOfLine_87 ?_
        refine lv_iconst (v := 2) hx hb dX4_kindOfLine_90 (by decide) ?_
        refine lv_icmp_eq (tgt := 110) hx hb dX4_kindOfLine_91 (by decide) (fun hno => absurd hno (fun z => absurd (c_2.symm.trans z) (by decide))) (fun _ => ?_)
        refine lv_aload_n hx hb dX4_kindOfLine_94 rfl (lv_at hl 0 rfl) ?_
        refine o_get (D := D) (ci := 5) (v := .int ka) (C := RX4) (T := TX4) (N := 6) hx hb hts inX4 hown hK hP h_rd rfl 5 (by decide) (hts _ k_140) (fun _ h9 => h9) rfl dX4_kindOfLine_95 ?_
        refine lv_iconst (v := 3) hx hb dX4_kindOfLine_98 (by decide) ?_
        refine lv_icmp_eq (tgt := 110) hx hb dX4_kindOfLine_99 (by decide) (fun hno => absurd hno (fun z => absurd (c_2.symm.trans z) (by decide))) (fun _ => ?_)
        refine lv_aload_n hx hb dX4_kindOfLine_102 rfl (lv_at hl 0 rfl) ?_
        refine o_get (D := D) (ci := 5) (v := .int ka) (C := RX4) (T := TX4) (N := 6) hx hb hts inX4 hown hK hP h_rd rfl 5 (by decide) (hts _ k_140) (fun _ h9 => h9) rfl dX4_kindOfLine_103 ?_
        refine lv_iconst (v := 4) hx hb dX4_kindOfLine_106 (by decide) ?_
        refine lv_icmp_ne (tgt := 160) hx hb dX4_kindOfLine_107 (by decide) (fun _ => ?_) (fun hno => absurd hno (fun z => absurd (c_2.symm.trans z) (by decide)))
        refine lv_iconst (v := 5) hx hb dX4_kindOfLine_160 (by decide) ?_
        exact o_ri hf hr rfl hlocks hK hP hD hS (show 0 ≤ 0 by omega) (show 0 ≤ 0 by omega) ⟨((if_pos (show fm < to_ by omega)).trans ((((pif_n (fun h => c_12 h.1)).trans (pif_n (fun h => c_12 h.1))).trans (pif_n (fun h => c_12 h.1))).trans (pif_n (tx_nsp (fun z => absurd (c_2.symm.trans z) (by decide)) (fun z => absurd (c_2.symm.trans z) (by decide)) (fun z => absurd (c_2.symm.trans z) (by decide)))))).symm, rfl, rfl⟩ dX4_kindOfLine_161
  · have c_1 := q_nlt (a := fm) (b := to_) (by omega) (by omega) c_1
    refine lv_iconst (v := (-1)) hx hb dX4_kindOfLine_11 (by decide) ?_
    exact o_ri hf hr rfl hlocks hK hP hD hS (show 0 ≤ 0 by omega) (show 0 ≤ 0 by omega) ⟨(if_neg (by omega)).symm, rfl, rfl⟩ dX4_kindOfLine_12
set_option maxHeartbeats 1000000 in
set_option maxRecDepth 100000 in
theorem r_joins (l : Launch) (D : va_G) (z : Nat → Nat) (cB cI_ cO : ClassId) (L0 : List Nat) (g0 : hG) (rd tp by_ n nx fm to_ : Nat) (T : Nat → Int32) (kd ka : Int32) (h_rd : ho L0 g0 rd 4 (.inr (5, [.ref tp, .int (nI nx), .int (nI fm), .int (nI to_), .int kd, .int ka])))  : eIs l D yX4_joinsLineAhead cX4_joinsLineAhead 1 (some .boolean) 0 0 0 0 [.ref rd] z cB cI_ cO L0 g0 (fun r => ((kd = ka ∧ (kd = 4 ∨ kd = 5)) ∧ r = 1 ∨ ¬ (kd = ka ∧ (kd = 4 ∨ kd = 5)) ∧ r = 0)) := by
  refine o_si (by decide) (Nat.le_of_ble_eq_true rfl) ?_
  intro p e s m below meth c A ls hf hr hlocks hin hK hP hD hS hA hZ hN hl
  obtain ⟨hx, hb, hml, hown, hts⟩ := id hf
  have hl : lv_has ls 1 [(0, .ref rd)] := hl
  refine lv_aload_n hx hb dX4_joinsLineAhead_0 rfl (lv_at hl 0 rfl) ?_
  refine o_get (D := D) (ci := 5) (v := .int kd) (C := RX4) (T := TX4) (N := 6) hx hb hts inX4 hown hK hP h_rd rfl 4 (by decide) (hts _ k_139) (fun _ h9 => h9) rfl dX4_joinsLineAhead_1 ?_
  refine lv_aload_n hx hb dX4_joinsLineAhead_4 rfl (lv_at hl 0 rfl) ?_
  refine o_get (D := D) (ci := 5) (v := .int ka) (C := RX4) (T := TX4) (N := 6) hx hb hts inX4 hown hK hP h_rd rfl 5 (by decide) (hts _ k_140) (fun _ h9 => h9) rfl dX4_joinsLineAhead_5 ?_
  refine lv_icmp_ne (tgt := 31) hx hb dX4_joinsLineAhead_8 (by decide) (fun c_1 => ?_) (fun c_1 => ?_)
  · refine lv_iconst (v := 0) hx hb dX4_joinsLineAhead_31 (by decide) ?_
    exact o_ri hf hr rfl hlocks hK hP hD hS (show 0 ≤ 0 by omega) (show 0 ≤ 0 by omega) ⟨Or.inr ⟨fun h => c_1 h.1, rfl⟩, rfl, rfl⟩ dX4_joinsLineAhead_32
  · refine lv_aload_n hx hb dX4_joinsLineAhead_11 rfl (lv_at hl 0 rfl) ?_
    refine o_get (D := D) (ci := 5) (v := .int kd) (C := RX4) (T := TX4) (N := 6) hx hb hts inX4 hown hK hP h_rd rfl 4 (by decide) (hts _ k_139) (fun _ h9 => h9) rfl dX4_joinsLineAhead_12 ?_
    refine lv_iconst (v := 4) hx hb dX4_joinsLineAhead_15 (by decide) ?_
    refine lv_icmp_eq (tgt := 27) hx hb dX4_joinsLineAhead_16 (by decide) (fun c_2 => ?_) (fun c_2 => ?_)
    · refine lv_iconst (v := 1) hx hb dX4_joinsLineAhead_27 (by decide) ?_
      refine lv_goto (tgt := 32) hx hb dX4_joinsLineAhead_28 (by decide) ?_
      exact o_ri hf hr rfl hlocks hK hP hD hS (show 0 ≤ 0 by omega) (show 0 ≤ 0 by omega) ⟨Or.inl ⟨⟨c_1, Or.inl c_2⟩, rfl⟩, rfl, rfl⟩ dX4_joinsLineAhead_32
    · refine lv_aload_n hx hb dX4_joinsLineAhead_19 rfl (lv_at hl 0 rfl) ?_
      refine o_get (D := D) (ci := 5) (v := .int kd) (C := RX4) (T := TX4) (N := 6) hx hb hts inX4 hown hK hP h_rd rfl 4 (by decide) (hts _ k_139) (fun _ h9 => h9) rfl dX4_joinsLineAhead_20 ?_
      refine lv_iconst (v := 5) hx hb dX4_joinsLineAhead_23 (by decide) ?_
      refine lv_icmp_ne (tgt := 31) hx hb dX4_joinsLineAhead_24 (by decide) (fun c_3 => ?_) (fun c_3 => ?_)
      · refine lv_iconst (v := 0) hx hb dX4_joinsLineAhead_31 (by decide) ?_
        exact o_ri hf hr rfl hlocks hK hP hD hS (show 0 ≤ 0 by omega) (show 0 ≤ 0 by omega) ⟨Or.inr ⟨fun h => h.2.elim c_2 c_3, rfl⟩, rfl, rfl⟩ dX4_joinsLineAhead_32
      · refine lv_iconst (v := 1) hx hb dX4_joinsLineAhead_27 (by decide) ?_
        refine lv_goto (tgt := 32) hx hb dX4_joinsLineAhead_28 (by decide) ?_
        exact o_ri hf hr rfl hlocks hK hP hD hS (show 0 ≤ 0 by omega) (show 0 ≤ 0 by omega) ⟨Or.inl ⟨⟨c_1, Or.inr c_3⟩, rfl⟩, rfl, rfl⟩ dX4_joinsLineAhead_32
set_option maxHeartbeats 1000000 in
set_option maxRecDepth 100000 in
theorem r_rewind (l : Launch) (D : va_G) (z : Nat → Nat) (cB cI_ cO : ClassId) (L0 : List Nat) (g0 : hG) (rd tp by_ n nx fm to_ : Nat) (T : Nat → Int32) (kd ka : Int32) (h_rd : ho L0 g0 rd 4 (.inr (5, [.ref tp, .int (nI nx), .int (nI fm), .int (nI to_), .int kd, .int ka])))  : eV l D yX4_rewind cX4_rewind 1 none 0 0 0 0 [.ref rd] z cB cI_ cO L0 g0 (fun L g => fr [4] L0 g0 L g ∧ ho L g rd 4 (.inr (5, [.ref tp, .int 0, .int (nI fm), .int (nI to_), .int (-1), .int ka]))) := by
  refine o_sv (by decide) (Nat.le_of_ble_eq_true rfl) ?_
  intro p e s m below meth c A ls hf hr hlocks hin hK hP hD hS hA hZ hN hl
  obtain ⟨hx, hb, hml, hown, hts⟩ := id hf
  have hl : lv_has ls 1 [(0, .ref rd)] := hl
  have hfr : fr [4] L0 g0 L0 g0 := fr.rf
  refine lv_aload_n hx hb dX4_rewind_0 rfl (lv_at hl 0 rfl) ?_
  refine lv_iconst (v := 0) hx hb dX4_rewind_1 (by decide) ?_
  refine o_put (D := D) (ci := 5) (v := .int 0) (ty := .int) (C := RX4) (T := TX4) (N := 6) (fs1 := [.ref tp, .int 0, .int (nI fm), .int (nI to_), .int kd, .int ka]) hx hb hts inX4 tyX4 tyX4_ok nmX4 hown hK hP hD hS h_rd rfl 1 (by decide) (hts _ k_136) (fun _ h9 => h9) rfl (by decide +kernel) rfl rfl (Nat.le_of_ble_eq_true rfl) rfl dX4_rewind_2 (fun g H locs h_rd hu hP hD hS => ?_)
  have hfr := hfr.up hu (by decide)
  refine lv_aload_n hx hb dX4_rewind_5 rfl (lv_at hl 0 rfl) ?_
  refine lv_iconst (v := (-1)) hx hb dX4_rewind_6 (by decide) ?_
  refine o_put (D := D) (ci := 5) (v := .int (-1)) (ty := .int) (C := RX4) (T := TX4) (N := 6) (fs1 := [.ref tp, .int 0, .int (nI fm), .int (nI to_), .int (-1), .int ka]) hx hb hts inX4 tyX4 tyX4_ok nmX4 hown hK hP hD hS h_rd rfl 4 (by decide) (hts _ k_139) (fun _ h9 => h9) rfl (by decide +kernel) rfl rfl (Nat.le_of_ble_eq_true rfl) rfl dX4_rewind_7 (fun g H locs h_rd hu hP hD hS => ?_)
  have hfr := hfr.up hu (by decide)
  exact o_rv hf hr hlocks hK hP hD hS (show 0 ≤ 0 by omega) (show 0 ≤ 0 by omega) ⟨hfr, h_rd⟩ dX4_rewind_10
