-- ===== PART A: goes FIRST, ahead of the names: the tables' words, and 'selects' of the private methods out of them =====
/-- a private method of a class that the tables say can be made, by its rows of tables_1 -/
def lw_okq (q : MethodName × Nat) : Prop := (q.1.cls ≠ "java/lang/invoke/MethodHandle" ∧ q.1.cls ≠ "java/lang/invoke/VarHandle") ∧ Cond.instantiable q.1.cls q.2 ∈ tables_1 ∧ Cond.privateMethod q.1 ∈ tables_1 ∧ Cond.instanceMethod q.1 ∈ tables_1
theorem lw_p0 : lw_okq (⟨"ScriptDesk$Element", "takeWords", "(LScriptDesk$Tape;II)V"⟩, 9) := ⟨⟨by decide +kernel, by decide +kernel⟩, List.mem_of_getElem? (i := 98) (by decide +kernel), List.mem_of_getElem? (i := 107) (by decide +kernel), List.mem_of_getElem? (i := 108) (by decide +kernel)⟩
theorem lw_p1 : lw_okq (⟨"ScriptDesk$Element", "addToText", "(I)V"⟩, 9) := ⟨⟨by decide +kernel, by decide +kernel⟩, List.mem_of_getElem? (i := 98) (by decide +kernel), List.mem_of_getElem? (i := 119) (by decide +kernel), List.mem_of_getElem? (i := 120) (by decide +kernel)⟩
theorem lw_p2 : lw_okq (⟨"ScriptDesk$Element", "fillRows", "()V"⟩, 9) := ⟨⟨by decide +kernel, by decide +kernel⟩, List.mem_of_getElem? (i := 98) (by decide +kernel), List.mem_of_getElem? (i := 124) (by decide +kernel), List.mem_of_getElem? (i := 125) (by decide +kernel)⟩
theorem lw_p3 : lw_okq (⟨"ScriptDesk$Element", "endOfChunk", "(I)I"⟩, 9) := ⟨⟨by decide +kernel, by decide +kernel⟩, List.mem_of_getElem? (i := 98) (by decide +kernel), List.mem_of_getElem? (i := 128) (by decide +kernel), List.mem_of_getElem? (i := 129) (by decide +kernel)⟩
theorem lw_p4 : lw_okq (⟨"ScriptDesk$Element", "width", "()I"⟩, 9) := ⟨⟨by decide +kernel, by decide +kernel⟩, List.mem_of_getElem? (i := 98) (by decide +kernel), List.mem_of_getElem? (i := 132) (by decide +kernel), List.mem_of_getElem? (i := 133) (by decide +kernel)⟩
theorem lw_p5 : lw_okq (⟨"ScriptDesk$Element", "putInRow", "(II)V"⟩, 9) := ⟨⟨by decide +kernel, by decide +kernel⟩, List.mem_of_getElem? (i := 98) (by decide +kernel), List.mem_of_getElem? (i := 141) (by decide +kernel), List.mem_of_getElem? (i := 142) (by decide +kernel)⟩
theorem lw_p6 : lw_okq (⟨"ScriptDesk$LineReader", "rewind", "()V"⟩, 6) := ⟨⟨by decide +kernel, by decide +kernel⟩, List.mem_of_getElem? (i := 47) (by decide +kernel), List.mem_of_getElem? (i := 416) (by decide +kernel), List.mem_of_getElem? (i := 417) (by decide +kernel)⟩
theorem lw_p7 : lw_okq (⟨"ScriptDesk$LineReader", "step", "()V"⟩, 6) := ⟨⟨by decide +kernel, by decide +kernel⟩, List.mem_of_getElem? (i := 47) (by decide +kernel), List.mem_of_getElem? (i := 421) (by decide +kernel), List.mem_of_getElem? (i := 422) (by decide +kernel)⟩
theorem lw_p8 : lw_okq (⟨"ScriptDesk$LineReader", "endOfLine", "(I)I"⟩, 6) := ⟨⟨by decide +kernel, by decide +kernel⟩, List.mem_of_getElem? (i := 47) (by decide +kernel), List.mem_of_getElem? (i := 425) (by decide +kernel), List.mem_of_getElem? (i := 426) (by decide +kernel)⟩
theorem lw_p9 : lw_okq (⟨"ScriptDesk$LineReader", "kindOfLine", "()I"⟩, 6) := ⟨⟨by decide +kernel, by decide +kernel⟩, List.mem_of_getElem? (i := 47) (by decide +kernel), List.mem_of_getElem? (i := 434) (by decide +kernel), List.mem_of_getElem? (i := 435) (by decide +kernel)⟩
theorem lw_p10 : lw_okq (⟨"ScriptDesk$LineReader", "isBig", "()Z"⟩, 6) := ⟨⟨by decide +kernel, by decide +kernel⟩, List.mem_of_getElem? (i := 47) (by decide +kernel), List.mem_of_getElem? (i := 438) (by decide +kernel), List.mem_of_getElem? (i := 439) (by decide +kernel)⟩
theorem lw_p11 : lw_okq (⟨"ScriptDesk$LineReader", "beginsLikeHead", "()Z"⟩, 6) := ⟨⟨by decide +kernel, by decide +kernel⟩, List.mem_of_getElem? (i := 47) (by decide +kernel), List.mem_of_getElem? (i := 442) (by decide +kernel), List.mem_of_getElem? (i := 443) (by decide +kernel)⟩
theorem lw_p12 : lw_okq (⟨"ScriptDesk$LineReader", "lineBeginsWith", "(Ljava/lang/String;)Z"⟩, 6) := ⟨⟨by decide +kernel, by decide +kernel⟩, List.mem_of_getElem? (i := 47) (by decide +kernel), List.mem_of_getElem? (i := 447) (by decide +kernel), List.mem_of_getElem? (i := 448) (by decide +kernel)⟩
theorem lw_p13 : lw_okq (⟨"ScriptDesk$LineReader", "isFreeBehind", "()Z"⟩, 6) := ⟨⟨by decide +kernel, by decide +kernel⟩, List.mem_of_getElem? (i := 47) (by decide +kernel), List.mem_of_getElem? (i := 500) (by decide +kernel), List.mem_of_getElem? (i := 501) (by decide +kernel)⟩
theorem lw_p14 : lw_okq (⟨"ScriptDesk$LineReader", "joinsLineAhead", "()Z"⟩, 6) := ⟨⟨by decide +kernel, by decide +kernel⟩, List.mem_of_getElem? (i := 47) (by decide +kernel), List.mem_of_getElem? (i := 504) (by decide +kernel), List.mem_of_getElem? (i := 505) (by decide +kernel)⟩
theorem lw_p15 : lw_okq (⟨"ScriptDesk$LineReader", "close", "(Ljava/util/ArrayList;III)V"⟩, 6) := ⟨⟨by decide +kernel, by decide +kernel⟩, List.mem_of_getElem? (i := 47) (by decide +kernel), List.mem_of_getElem? (i := 516) (by decide +kernel), List.mem_of_getElem? (i := 517) (by decide +kernel)⟩
def lw_privs_1 : List (MethodName × Nat) := [(⟨"ScriptDesk$Element", "takeWords", "(LScriptDesk$Tape;II)V"⟩, 9), (⟨"ScriptDesk$Element", "addToText", "(I)V"⟩, 9), (⟨"ScriptDesk$Element", "fillRows", "()V"⟩, 9), (⟨"ScriptDesk$Element", "endOfChunk", "(I)I"⟩, 9), (⟨"ScriptDesk$Element", "width", "()I"⟩, 9), (⟨"ScriptDesk$Element", "putInRow", "(II)V"⟩, 9), (⟨"ScriptDesk$LineReader", "rewind", "()V"⟩, 6), (⟨"ScriptDesk$LineReader", "step", "()V"⟩, 6), (⟨"ScriptDesk$LineReader", "endOfLine", "(I)I"⟩, 6), (⟨"ScriptDesk$LineReader", "kindOfLine", "()I"⟩, 6), (⟨"ScriptDesk$LineReader", "isBig", "()Z"⟩, 6), (⟨"ScriptDesk$LineReader", "beginsLikeHead", "()Z"⟩, 6), (⟨"ScriptDesk$LineReader", "lineBeginsWith", "(Ljava/lang/String;)Z"⟩, 6), (⟨"ScriptDesk$LineReader", "isFreeBehind", "()Z"⟩, 6), (⟨"ScriptDesk$LineReader", "joinsLineAhead", "()Z"⟩, 6), (⟨"ScriptDesk$LineReader", "close", "(Ljava/util/ArrayList;III)V"⟩, 6)]
theorem lw_r1 : ∀ q ∈ lw_privs_1, lw_okq q := List.forall_mem_cons.mpr ⟨lw_p0, List.forall_mem_cons.mpr ⟨lw_p1, List.forall_mem_cons.mpr ⟨lw_p2, List.forall_mem_cons.mpr ⟨lw_p3, List.forall_mem_cons.mpr ⟨lw_p4, List.forall_mem_cons.mpr ⟨lw_p5, List.forall_mem_cons.mpr ⟨lw_p6, List.forall_mem_cons.mpr ⟨lw_p7, List.forall_mem_cons.mpr ⟨lw_p8, List.forall_mem_cons.mpr ⟨lw_p9, List.forall_mem_cons.mpr ⟨lw_p10, List.forall_mem_cons.mpr ⟨lw_p11, List.forall_mem_cons.mpr ⟨lw_p12, List.forall_mem_cons.mpr ⟨lw_p13, List.forall_mem_cons.mpr ⟨lw_p14, List.forall_mem_cons.mpr ⟨lw_p15, fun _ h => absurd h List.not_mem_nil⟩⟩⟩⟩⟩⟩⟩⟩⟩⟩⟩⟩⟩⟩⟩⟩
theorem lw_p16 : lw_okq (⟨"java/util/ArrayList", "add", "(Ljava/lang/Object;[Ljava/lang/Object;I)V"⟩, 3) := ⟨⟨by decide +kernel, by decide +kernel⟩, List.mem_of_getElem? (i := 72) (by decide +kernel), List.mem_of_getElem? (i := 530) (by decide +kernel), List.mem_of_getElem? (i := 531) (by decide +kernel)⟩
theorem lw_p17 : lw_okq (⟨"java/util/ArrayList", "grow", "()[Ljava/lang/Object;"⟩, 3) := ⟨⟨by decide +kernel, by decide +kernel⟩, List.mem_of_getElem? (i := 72) (by decide +kernel), List.mem_of_getElem? (i := 534) (by decide +kernel), List.mem_of_getElem? (i := 535) (by decide +kernel)⟩
theorem lw_p18 : lw_okq (⟨"java/util/ArrayList", "grow", "(I)[Ljava/lang/Object;"⟩, 3) := ⟨⟨by decide +kernel, by decide +kernel⟩, List.mem_of_getElem? (i := 72) (by decide +kernel), List.mem_of_getElem? (i := 538) (by decide +kernel), List.mem_of_getElem? (i := 539) (by decide +kernel)⟩
theorem lw_p19 : lw_okq (⟨"ScriptDesk", "standUnlocked", "()V"⟩, 12) := ⟨⟨by decide +kernel, by decide +kernel⟩, List.mem_of_getElem? (i := 25) (by decide +kernel), List.mem_of_getElem? (i := 581) (by decide +kernel), List.mem_of_getElem? (i := 582) (by decide +kernel)⟩
theorem lw_p20 : lw_okq (⟨"java/util/ArrayList", "fastRemove", "([Ljava/lang/Object;I)V"⟩, 3) := ⟨⟨by decide +kernel, by decide +kernel⟩, List.mem_of_getElem? (i := 72) (by decide +kernel), List.mem_of_getElem? (i := 626) (by decide +kernel), List.mem_of_getElem? (i := 627) (by decide +kernel)⟩
theorem lw_p21 : lw_okq (⟨"java/util/ArrayList", "rangeCheckForAdd", "(I)V"⟩, 3) := ⟨⟨by decide +kernel, by decide +kernel⟩, List.mem_of_getElem? (i := 72) (by decide +kernel), List.mem_of_getElem? (i := 635) (by decide +kernel), List.mem_of_getElem? (i := 636) (by decide +kernel)⟩
theorem lw_p22 : lw_okq (⟨"ScriptDesk", "isElement", "(I)Z"⟩, 12) := ⟨⟨by decide +kernel, by decide +kernel⟩, List.mem_of_getElem? (i := 25) (by decide +kernel), List.mem_of_getElem? (i := 651) (by decide +kernel), List.mem_of_getElem? (i := 652) (by decide +kernel)⟩
theorem lw_p23 : lw_okq (⟨"ScriptDesk", "elementAt", "(I)LScriptDesk$Element;"⟩, 12) := ⟨⟨by decide +kernel, by decide +kernel⟩, List.mem_of_getElem? (i := 25) (by decide +kernel), List.mem_of_getElem? (i := 655) (by decide +kernel), List.mem_of_getElem? (i := 656) (by decide +kernel)⟩
theorem lw_p24 : lw_okq (⟨"ScriptDesk$Breaking", "numberPlaces", "()V"⟩, 11) := ⟨⟨by decide +kernel, by decide +kernel⟩, List.mem_of_getElem? (i := 260) (by decide +kernel), List.mem_of_getElem? (i := 684) (by decide +kernel), List.mem_of_getElem? (i := 685) (by decide +kernel)⟩
theorem lw_p25 : lw_okq (⟨"ScriptDesk$Breaking", "makeRoom", "()V"⟩, 11) := ⟨⟨by decide +kernel, by decide +kernel⟩, List.mem_of_getElem? (i := 260) (by decide +kernel), List.mem_of_getElem? (i := 694) (by decide +kernel), List.mem_of_getElem? (i := 695) (by decide +kernel)⟩
theorem lw_p26 : lw_okq (⟨"ScriptDesk$Breaking", "weigh", "(III)V"⟩, 11) := ⟨⟨by decide +kernel, by decide +kernel⟩, List.mem_of_getElem? (i := 260) (by decide +kernel), List.mem_of_getElem? (i := 698) (by decide +kernel), List.mem_of_getElem? (i := 699) (by decide +kernel)⟩
theorem lw_p27 : lw_okq (⟨"ScriptDesk$Breaking", "beginOf", "(I)I"⟩, 11) := ⟨⟨by decide +kernel, by decide +kernel⟩, List.mem_of_getElem? (i := 260) (by decide +kernel), List.mem_of_getElem? (i := 702) (by decide +kernel), List.mem_of_getElem? (i := 703) (by decide +kernel)⟩
theorem lw_p28 : lw_okq (⟨"ScriptDesk$Breaking", "weighEnd", "(II)V"⟩, 11) := ⟨⟨by decide +kernel, by decide +kernel⟩, List.mem_of_getElem? (i := 260) (by decide +kernel), List.mem_of_getElem? (i := 752) (by decide +kernel), List.mem_of_getElem? (i := 753) (by decide +kernel)⟩
theorem lw_p29 : lw_okq (⟨"ScriptDesk$Breaking", "countPages", "()V"⟩, 11) := ⟨⟨by decide +kernel, by decide +kernel⟩, List.mem_of_getElem? (i := 260) (by decide +kernel), List.mem_of_getElem? (i := 769) (by decide +kernel), List.mem_of_getElem? (i := 770) (by decide +kernel)⟩
theorem lw_p30 : lw_okq (⟨"ScriptDesk$Breaking", "placeBehind", "(I)I"⟩, 11) := ⟨⟨by decide +kernel, by decide +kernel⟩, List.mem_of_getElem? (i := 260) (by decide +kernel), List.mem_of_getElem? (i := 773) (by decide +kernel), List.mem_of_getElem? (i := 774) (by decide +kernel)⟩
theorem lw_p31 : lw_okq (⟨"ScriptDesk$Breaking", "pieceWithPlace", "(I)I"⟩, 11) := ⟨⟨by decide +kernel, by decide +kernel⟩, List.mem_of_getElem? (i := 260) (by decide +kernel), List.mem_of_getElem? (i := 805) (by decide +kernel), List.mem_of_getElem? (i := 806) (by decide +kernel)⟩
def lw_privs_2 : List (MethodName × Nat) := [(⟨"java/util/ArrayList", "add", "(Ljava/lang/Object;[Ljava/lang/Object;I)V"⟩, 3), (⟨"java/util/ArrayList", "grow", "()[Ljava/lang/Object;"⟩, 3), (⟨"java/util/ArrayList", "grow", "(I)[Ljava/lang/Object;"⟩, 3), (⟨"ScriptDesk", "standUnlocked", "()V"⟩, 12), (⟨"java/util/ArrayList", "fastRemove", "([Ljava/lang/Object;I)V"⟩, 3), (⟨"java/util/ArrayList", "rangeCheckForAdd", "(I)V"⟩, 3), (⟨"ScriptDesk", "isElement", "(I)Z"⟩, 12), (⟨"ScriptDesk", "elementAt", "(I)LScriptDesk$Element;"⟩, 12), (⟨"ScriptDesk$Breaking", "numberPlaces", "()V"⟩, 11), (⟨"ScriptDesk$Breaking", "makeRoom", "()V"⟩, 11), (⟨"ScriptDesk$Breaking", "weigh", "(III)V"⟩, 11), (⟨"ScriptDesk$Breaking", "beginOf", "(I)I"⟩, 11), (⟨"ScriptDesk$Breaking", "weighEnd", "(II)V"⟩, 11), (⟨"ScriptDesk$Breaking", "countPages", "()V"⟩, 11), (⟨"ScriptDesk$Breaking", "placeBehind", "(I)I"⟩, 11), (⟨"ScriptDesk$Breaking", "pieceWithPlace", "(I)I"⟩, 11)]
theorem lw_r2 : ∀ q ∈ lw_privs_2, lw_okq q := List.forall_mem_cons.mpr ⟨lw_p16, List.forall_mem_cons.mpr ⟨lw_p17, List.forall_mem_cons.mpr ⟨lw_p18, List.forall_mem_cons.mpr ⟨lw_p19, List.forall_mem_cons.mpr ⟨lw_p20, List.forall_mem_cons.mpr ⟨lw_p21, List.forall_mem_cons.mpr ⟨lw_p22, List.forall_mem_cons.mpr ⟨lw_p23, List.forall_mem_cons.mpr ⟨lw_p24, List.forall_mem_cons.mpr ⟨lw_p25, List.forall_mem_cons.mpr ⟨lw_p26, List.forall_mem_cons.mpr ⟨lw_p27, List.forall_mem_cons.mpr ⟨lw_p28, List.forall_mem_cons.mpr ⟨lw_p29, List.forall_mem_cons.mpr ⟨lw_p30, List.forall_mem_cons.mpr ⟨lw_p31, fun _ h => absurd h List.not_mem_nil⟩⟩⟩⟩⟩⟩⟩⟩⟩⟩⟩⟩⟩⟩⟩⟩
theorem lw_p32 : lw_okq (⟨"ScriptDesk", "addPiecesOfPage", "(I)V"⟩, 12) := ⟨⟨by decide +kernel, by decide +kernel⟩, List.mem_of_getElem? (i := 25) (by decide +kernel), List.mem_of_getElem? (i := 838) (by decide +kernel), List.mem_of_getElem? (i := 839) (by decide +kernel)⟩
theorem lw_p33 : lw_okq (⟨"ScriptDesk$GroupLayout", "addSheet", "(III)V"⟩, 10) := ⟨⟨by decide +kernel, by decide +kernel⟩, List.mem_of_getElem? (i := 300) (by decide +kernel), List.mem_of_getElem? (i := 872) (by decide +kernel), List.mem_of_getElem? (i := 873) (by decide +kernel)⟩
theorem lw_p34 : lw_okq (⟨"ScriptDesk$GroupLayout", "rowsOfPieces", "(I)I"⟩, 10) := ⟨⟨by decide +kernel, by decide +kernel⟩, List.mem_of_getElem? (i := 300) (by decide +kernel), List.mem_of_getElem? (i := 887) (by decide +kernel), List.mem_of_getElem? (i := 888) (by decide +kernel)⟩
theorem lw_p35 : lw_okq (⟨"ScriptDesk$GroupLayout", "fillSheet", "(III)V"⟩, 10) := ⟨⟨by decide +kernel, by decide +kernel⟩, List.mem_of_getElem? (i := 300) (by decide +kernel), List.mem_of_getElem? (i := 891) (by decide +kernel), List.mem_of_getElem? (i := 892) (by decide +kernel)⟩
theorem lw_p36 : lw_okq (⟨"ScriptDesk$GroupLayout", "markPlace", "()V"⟩, 10) := ⟨⟨by decide +kernel, by decide +kernel⟩, List.mem_of_getElem? (i := 300) (by decide +kernel), List.mem_of_getElem? (i := 900) (by decide +kernel), List.mem_of_getElem? (i := 901) (by decide +kernel)⟩
theorem lw_p37 : lw_okq (⟨"ScriptDesk$GroupLayout", "isSheet", "(I)Z"⟩, 10) := ⟨⟨by decide +kernel, by decide +kernel⟩, List.mem_of_getElem? (i := 300) (by decide +kernel), List.mem_of_getElem? (i := 923) (by decide +kernel), List.mem_of_getElem? (i := 924) (by decide +kernel)⟩
theorem lw_p38 : lw_okq (⟨"ScriptDesk$SceneList", "beginsElementOf", "(II)Z"⟩, 1) := ⟨⟨by decide +kernel, by decide +kernel⟩, List.mem_of_getElem? (i := 337) (by decide +kernel), List.mem_of_getElem? (i := 965) (by decide +kernel), List.mem_of_getElem? (i := 966) (by decide +kernel)⟩
theorem lw_p39 : lw_okq (⟨"ScriptDesk$SceneList", "tellsSomebodyNew", "(II)Z"⟩, 1) := ⟨⟨by decide +kernel, by decide +kernel⟩, List.mem_of_getElem? (i := 337) (by decide +kernel), List.mem_of_getElem? (i := 983) (by decide +kernel), List.mem_of_getElem? (i := 984) (by decide +kernel)⟩
theorem lw_p40 : lw_okq (⟨"ScriptDesk", "eighthsOf", "(II)I"⟩, 12) := ⟨⟨by decide +kernel, by decide +kernel⟩, List.mem_of_getElem? (i := 25) (by decide +kernel), List.mem_of_getElem? (i := 1000) (by decide +kernel), List.mem_of_getElem? (i := 1001) (by decide +kernel)⟩
theorem lw_p41 : lw_okq (⟨"ScriptDesk", "eighthsOfRows", "(I)I"⟩, 12) := ⟨⟨by decide +kernel, by decide +kernel⟩, List.mem_of_getElem? (i := 25) (by decide +kernel), List.mem_of_getElem? (i := 1004) (by decide +kernel), List.mem_of_getElem? (i := 1005) (by decide +kernel)⟩
theorem lw_p42 : lw_okq (⟨"ScriptDesk", "struckElements", "()I"⟩, 12) := ⟨⟨by decide +kernel, by decide +kernel⟩, List.mem_of_getElem? (i := 25) (by decide +kernel), List.mem_of_getElem? (i := 1029) (by decide +kernel), List.mem_of_getElem? (i := 1030) (by decide +kernel)⟩
theorem lw_p43 : lw_okq (⟨"ScriptDesk", "rowsNotStruck", "()I"⟩, 12) := ⟨⟨by decide +kernel, by decide +kernel⟩, List.mem_of_getElem? (i := 25) (by decide +kernel), List.mem_of_getElem? (i := 1033) (by decide +kernel), List.mem_of_getElem? (i := 1034) (by decide +kernel)⟩
theorem lw_p44 : lw_okq (⟨"ScriptDesk", "digestOfElement", "(JI)J"⟩, 12) := ⟨⟨by decide +kernel, by decide +kernel⟩, List.mem_of_getElem? (i := 25) (by decide +kernel), List.mem_of_getElem? (i := 1044) (by decide +kernel), List.mem_of_getElem? (i := 1045) (by decide +kernel)⟩
theorem lw_p45 : lw_okq (⟨"ScriptDesk", "digestOfGroup", "(JI)J"⟩, 12) := ⟨⟨by decide +kernel, by decide +kernel⟩, List.mem_of_getElem? (i := 25) (by decide +kernel), List.mem_of_getElem? (i := 1051) (by decide +kernel), List.mem_of_getElem? (i := 1052) (by decide +kernel)⟩
theorem lw_p46 : lw_okq (⟨"ScriptDeskModel", "findLines", "()V"⟩, 48) := ⟨⟨by decide +kernel, by decide +kernel⟩, List.mem_of_getElem? (i := 1055) (by decide +kernel), List.mem_of_getElem? (i := 1223) (by decide +kernel), List.mem_of_getElem? (i := 1224) (by decide +kernel)⟩
theorem lw_p47 : lw_okq (⟨"ScriptDeskModel", "isFree", "(I)Z"⟩, 48) := ⟨⟨by decide +kernel, by decide +kernel⟩, List.mem_of_getElem? (i := 1055) (by decide +kernel), List.mem_of_getElem? (i := 1227) (by decide +kernel), List.mem_of_getElem? (i := 1228) (by decide +kernel)⟩
def lw_privs_3 : List (MethodName × Nat) := [(⟨"ScriptDesk", "addPiecesOfPage", "(I)V"⟩, 12), (⟨"ScriptDesk$GroupLayout", "addSheet", "(III)V"⟩, 10), (⟨"ScriptDesk$GroupLayout", "rowsOfPieces", "(I)I"⟩, 10), (⟨"ScriptDesk$GroupLayout", "fillSheet", "(III)V"⟩, 10), (⟨"ScriptDesk$GroupLayout", "markPlace", "()V"⟩, 10), (⟨"ScriptDesk$GroupLayout", "isSheet", "(I)Z"⟩, 10), (⟨"ScriptDesk$SceneList", "beginsElementOf", "(II)Z"⟩, 1), (⟨"ScriptDesk$SceneList", "tellsSomebodyNew", "(II)Z"⟩, 1), (⟨"ScriptDesk", "eighthsOf", "(II)I"⟩, 12), (⟨"ScriptDesk", "eighthsOfRows", "(I)I"⟩, 12), (⟨"ScriptDesk", "struckElements", "()I"⟩, 12), (⟨"ScriptDesk", "rowsNotStruck", "()I"⟩, 12), (⟨"ScriptDesk", "digestOfElement", "(JI)J"⟩, 12), (⟨"ScriptDesk", "digestOfGroup", "(JI)J"⟩, 12), (⟨"ScriptDeskModel", "findLines", "()V"⟩, 48), (⟨"ScriptDeskModel", "isFree", "(I)Z"⟩, 48)]
theorem lw_r3 : ∀ q ∈ lw_privs_3, lw_okq q := List.forall_mem_cons.mpr ⟨lw_p32, List.forall_mem_cons.mpr ⟨lw_p33, List.forall_mem_cons.mpr ⟨lw_p34, List.forall_mem_cons.mpr ⟨lw_p35, List.forall_mem_cons.mpr ⟨lw_p36, List.forall_mem_cons.mpr ⟨lw_p37, List.forall_mem_cons.mpr ⟨lw_p38, List.forall_mem_cons.mpr ⟨lw_p39, List.forall_mem_cons.mpr ⟨lw_p40, List.forall_mem_cons.mpr ⟨lw_p41, List.forall_mem_cons.mpr ⟨lw_p42, List.forall_mem_cons.mpr ⟨lw_p43, List.forall_mem_cons.mpr ⟨lw_p44, List.forall_mem_cons.mpr ⟨lw_p45, List.forall_mem_cons.mpr ⟨lw_p46, List.forall_mem_cons.mpr ⟨lw_p47, fun _ h => absurd h List.not_mem_nil⟩⟩⟩⟩⟩⟩⟩⟩⟩⟩⟩⟩⟩⟩⟩⟩
theorem lw_p48 : lw_okq (⟨"ScriptDeskModel", "kindOfLine", "(I)I"⟩, 48) := ⟨⟨by decide +kernel, by decide +kernel⟩, List.mem_of_getElem? (i := 1055) (by decide +kernel), List.mem_of_getElem? (i := 1231) (by decide +kernel), List.mem_of_getElem? (i := 1232) (by decide +kernel)⟩
theorem lw_p49 : lw_okq (⟨"ScriptDeskModel", "isBig", "(I)Z"⟩, 48) := ⟨⟨by decide +kernel, by decide +kernel⟩, List.mem_of_getElem? (i := 1055) (by decide +kernel), List.mem_of_getElem? (i := 1235) (by decide +kernel), List.mem_of_getElem? (i := 1236) (by decide +kernel)⟩
theorem lw_p50 : lw_okq (⟨"ScriptDeskModel", "begins", "(IIII)Z"⟩, 48) := ⟨⟨by decide +kernel, by decide +kernel⟩, List.mem_of_getElem? (i := 1055) (by decide +kernel), List.mem_of_getElem? (i := 1239) (by decide +kernel), List.mem_of_getElem? (i := 1240) (by decide +kernel)⟩
theorem lw_p51 : lw_okq (⟨"ScriptDeskModel", "isMore", "(I)Z"⟩, 48) := ⟨⟨by decide +kernel, by decide +kernel⟩, List.mem_of_getElem? (i := 1055) (by decide +kernel), List.mem_of_getElem? (i := 1243) (by decide +kernel), List.mem_of_getElem? (i := 1244) (by decide +kernel)⟩
theorem lw_p52 : lw_okq (⟨"ScriptDeskModel", "newElement", "(I)I"⟩, 48) := ⟨⟨by decide +kernel, by decide +kernel⟩, List.mem_of_getElem? (i := 1055) (by decide +kernel), List.mem_of_getElem? (i := 1247) (by decide +kernel), List.mem_of_getElem? (i := 1248) (by decide +kernel)⟩
theorem lw_p53 : lw_okq (⟨"ScriptDeskModel", "freeSlot", "()I"⟩, 48) := ⟨⟨by decide +kernel, by decide +kernel⟩, List.mem_of_getElem? (i := 1055) (by decide +kernel), List.mem_of_getElem? (i := 1251) (by decide +kernel), List.mem_of_getElem? (i := 1252) (by decide +kernel)⟩
theorem lw_p54 : lw_okq (⟨"ScriptDeskModel", "words", "(III)V"⟩, 48) := ⟨⟨by decide +kernel, by decide +kernel⟩, List.mem_of_getElem? (i := 1055) (by decide +kernel), List.mem_of_getElem? (i := 1255) (by decide +kernel), List.mem_of_getElem? (i := 1256) (by decide +kernel)⟩
theorem lw_p55 : lw_okq (⟨"ScriptDeskModel", "isBlank", "(I)Z"⟩, 48) := ⟨⟨by decide +kernel, by decide +kernel⟩, List.mem_of_getElem? (i := 1055) (by decide +kernel), List.mem_of_getElem? (i := 1259) (by decide +kernel), List.mem_of_getElem? (i := 1260) (by decide +kernel)⟩
theorem lw_p56 : lw_okq (⟨"ScriptDeskModel", "layRows", "(I)V"⟩, 48) := ⟨⟨by decide +kernel, by decide +kernel⟩, List.mem_of_getElem? (i := 1055) (by decide +kernel), List.mem_of_getElem? (i := 1263) (by decide +kernel), List.mem_of_getElem? (i := 1264) (by decide +kernel)⟩
theorem lw_p57 : lw_okq (⟨"ScriptDeskModel", "part", "(IIII)V"⟩, 48) := ⟨⟨by decide +kernel, by decide +kernel⟩, List.mem_of_getElem? (i := 1055) (by decide +kernel), List.mem_of_getElem? (i := 1270) (by decide +kernel), List.mem_of_getElem? (i := 1271) (by decide +kernel)⟩
theorem lw_p58 : lw_okq (⟨"ScriptDeskModel", "wholePieces", "()V"⟩, 48) := ⟨⟨by decide +kernel, by decide +kernel⟩, List.mem_of_getElem? (i := 1055) (by decide +kernel), List.mem_of_getElem? (i := 1274) (by decide +kernel), List.mem_of_getElem? (i := 1275) (by decide +kernel)⟩
theorem lw_p59 : lw_okq (⟨"ScriptDeskModel", "isElement", "(I)Z"⟩, 48) := ⟨⟨by decide +kernel, by decide +kernel⟩, List.mem_of_getElem? (i := 1055) (by decide +kernel), List.mem_of_getElem? (i := 1286) (by decide +kernel), List.mem_of_getElem? (i := 1287) (by decide +kernel)⟩
theorem lw_p60 : lw_okq (⟨"ScriptDeskModel", "elementOf", "(II)I"⟩, 48) := ⟨⟨by decide +kernel, by decide +kernel⟩, List.mem_of_getElem? (i := 1055) (by decide +kernel), List.mem_of_getElem? (i := 1290) (by decide +kernel), List.mem_of_getElem? (i := 1291) (by decide +kernel)⟩
theorem lw_p61 : lw_okq (⟨"ScriptDeskModel", "breaks", "()V"⟩, 48) := ⟨⟨by decide +kernel, by decide +kernel⟩, List.mem_of_getElem? (i := 1055) (by decide +kernel), List.mem_of_getElem? (i := 1302) (by decide +kernel), List.mem_of_getElem? (i := 1303) (by decide +kernel)⟩
theorem lw_p62 : lw_okq (⟨"ScriptDeskModel", "size", "(I)I"⟩, 48) := ⟨⟨by decide +kernel, by decide +kernel⟩, List.mem_of_getElem? (i := 1055) (by decide +kernel), List.mem_of_getElem? (i := 1306) (by decide +kernel), List.mem_of_getElem? (i := 1307) (by decide +kernel)⟩
theorem lw_p63 : lw_okq (⟨"ScriptDeskModel", "bestEnd", "(II)V"⟩, 48) := ⟨⟨by decide +kernel, by decide +kernel⟩, List.mem_of_getElem? (i := 1055) (by decide +kernel), List.mem_of_getElem? (i := 1310) (by decide +kernel), List.mem_of_getElem? (i := 1311) (by decide +kernel)⟩
def lw_privs_4 : List (MethodName × Nat) := [(⟨"ScriptDeskModel", "kindOfLine", "(I)I"⟩, 48), (⟨"ScriptDeskModel", "isBig", "(I)Z"⟩, 48), (⟨"ScriptDeskModel", "begins", "(IIII)Z"⟩, 48), (⟨"ScriptDeskModel", "isMore", "(I)Z"⟩, 48), (⟨"ScriptDeskModel", "newElement", "(I)I"⟩, 48), (⟨"ScriptDeskModel", "freeSlot", "()I"⟩, 48), (⟨"ScriptDeskModel", "words", "(III)V"⟩, 48), (⟨"ScriptDeskModel", "isBlank", "(I)Z"⟩, 48), (⟨"ScriptDeskModel", "layRows", "(I)V"⟩, 48), (⟨"ScriptDeskModel", "part", "(IIII)V"⟩, 48), (⟨"ScriptDeskModel", "wholePieces", "()V"⟩, 48), (⟨"ScriptDeskModel", "isElement", "(I)Z"⟩, 48), (⟨"ScriptDeskModel", "elementOf", "(II)I"⟩, 48), (⟨"ScriptDeskModel", "breaks", "()V"⟩, 48), (⟨"ScriptDeskModel", "size", "(I)I"⟩, 48), (⟨"ScriptDeskModel", "bestEnd", "(II)V"⟩, 48)]
theorem lw_r4 : ∀ q ∈ lw_privs_4, lw_okq q := List.forall_mem_cons.mpr ⟨lw_p48, List.forall_mem_cons.mpr ⟨lw_p49, List.forall_mem_cons.mpr ⟨lw_p50, List.forall_mem_cons.mpr ⟨lw_p51, List.forall_mem_cons.mpr ⟨lw_p52, List.forall_mem_cons.mpr ⟨lw_p53, List.forall_mem_cons.mpr ⟨lw_p54, List.forall_mem_cons.mpr ⟨lw_p55, List.forall_mem_cons.mpr ⟨lw_p56, List.forall_mem_cons.mpr ⟨lw_p57, List.forall_mem_cons.mpr ⟨lw_p58, List.forall_mem_cons.mpr ⟨lw_p59, List.forall_mem_cons.mpr ⟨lw_p60, List.forall_mem_cons.mpr ⟨lw_p61, List.forall_mem_cons.mpr ⟨lw_p62, List.forall_mem_cons.mpr ⟨lw_p63, fun _ h => absurd h List.not_mem_nil⟩⟩⟩⟩⟩⟩⟩⟩⟩⟩⟩⟩⟩⟩⟩⟩
theorem lw_p64 : lw_okq (⟨"ScriptDeskModel", "rowsAhead", "(III)I"⟩, 48) := ⟨⟨by decide +kernel, by decide +kernel⟩, List.mem_of_getElem? (i := 1055) (by decide +kernel), List.mem_of_getElem? (i := 1314) (by decide +kernel), List.mem_of_getElem? (i := 1315) (by decide +kernel)⟩
theorem lw_p65 : lw_okq (⟨"ScriptDeskModel", "kindOf", "(I)I"⟩, 48) := ⟨⟨by decide +kernel, by decide +kernel⟩, List.mem_of_getElem? (i := 1055) (by decide +kernel), List.mem_of_getElem? (i := 1318) (by decide +kernel), List.mem_of_getElem? (i := 1319) (by decide +kernel)⟩
theorem lw_p66 : lw_okq (⟨"ScriptDeskModel", "hasEmptyAhead", "(I)Z"⟩, 48) := ⟨⟨by decide +kernel, by decide +kernel⟩, List.mem_of_getElem? (i := 1055) (by decide +kernel), List.mem_of_getElem? (i := 1322) (by decide +kernel), List.mem_of_getElem? (i := 1323) (by decide +kernel)⟩
theorem lw_p67 : lw_okq (⟨"ScriptDeskModel", "rowsBehind", "(III)I"⟩, 48) := ⟨⟨by decide +kernel, by decide +kernel⟩, List.mem_of_getElem? (i := 1055) (by decide +kernel), List.mem_of_getElem? (i := 1326) (by decide +kernel), List.mem_of_getElem? (i := 1327) (by decide +kernel)⟩
theorem lw_p68 : lw_okq (⟨"ScriptDeskModel", "mayEnd", "(IIIII)Z"⟩, 48) := ⟨⟨by decide +kernel, by decide +kernel⟩, List.mem_of_getElem? (i := 1055) (by decide +kernel), List.mem_of_getElem? (i := 1330) (by decide +kernel), List.mem_of_getElem? (i := 1331) (by decide +kernel)⟩
theorem lw_p69 : lw_okq (⟨"ScriptDeskModel", "hasWord", "()Z"⟩, 48) := ⟨⟨by decide +kernel, by decide +kernel⟩, List.mem_of_getElem? (i := 1055) (by decide +kernel), List.mem_of_getElem? (i := 1354) (by decide +kernel), List.mem_of_getElem? (i := 1355) (by decide +kernel)⟩
theorem lw_p70 : lw_okq (⟨"ScriptDeskModel", "insertPiece", "(II)V"⟩, 48) := ⟨⟨by decide +kernel, by decide +kernel⟩, List.mem_of_getElem? (i := 1055) (by decide +kernel), List.mem_of_getElem? (i := 1358) (by decide +kernel), List.mem_of_getElem? (i := 1359) (by decide +kernel)⟩
theorem lw_p71 : lw_okq (⟨"ScriptDeskModel", "sheetsOf", "(I)I"⟩, 48) := ⟨⟨by decide +kernel, by decide +kernel⟩, List.mem_of_getElem? (i := 1055) (by decide +kernel), List.mem_of_getElem? (i := 1362) (by decide +kernel), List.mem_of_getElem? (i := 1363) (by decide +kernel)⟩
theorem lw_p72 : lw_okq (⟨"ScriptDeskModel", "firstOf", "(I)I"⟩, 48) := ⟨⟨by decide +kernel, by decide +kernel⟩, List.mem_of_getElem? (i := 1055) (by decide +kernel), List.mem_of_getElem? (i := 1366) (by decide +kernel), List.mem_of_getElem? (i := 1367) (by decide +kernel)⟩
theorem lw_p73 : lw_okq (⟨"ScriptDeskModel", "laySheet", "(IIII)V"⟩, 48) := ⟨⟨by decide +kernel, by decide +kernel⟩, List.mem_of_getElem? (i := 1055) (by decide +kernel), List.mem_of_getElem? (i := 1370) (by decide +kernel), List.mem_of_getElem? (i := 1371) (by decide +kernel)⟩
theorem lw_p74 : lw_okq (⟨"ScriptDeskModel", "isGroup", "(I)Z"⟩, 48) := ⟨⟨by decide +kernel, by decide +kernel⟩, List.mem_of_getElem? (i := 1055) (by decide +kernel), List.mem_of_getElem? (i := 1378) (by decide +kernel), List.mem_of_getElem? (i := 1379) (by decide +kernel)⟩
theorem lw_p75 : lw_okq (⟨"ScriptDeskModel", "sheetOf", "(III)I"⟩, 48) := ⟨⟨by decide +kernel, by decide +kernel⟩, List.mem_of_getElem? (i := 1055) (by decide +kernel), List.mem_of_getElem? (i := 1386) (by decide +kernel), List.mem_of_getElem? (i := 1387) (by decide +kernel)⟩
theorem lw_p76 : lw_okq (⟨"ScriptDeskModel", "findRow", "()V"⟩, 48) := ⟨⟨by decide +kernel, by decide +kernel⟩, List.mem_of_getElem? (i := 1055) (by decide +kernel), List.mem_of_getElem? (i := 1402) (by decide +kernel), List.mem_of_getElem? (i := 1403) (by decide +kernel)⟩
theorem lw_p77 : lw_okq (⟨"ScriptDeskModel", "isHead", "(I)Z"⟩, 48) := ⟨⟨by decide +kernel, by decide +kernel⟩, List.mem_of_getElem? (i := 1055) (by decide +kernel), List.mem_of_getElem? (i := 1406) (by decide +kernel), List.mem_of_getElem? (i := 1407) (by decide +kernel)⟩
theorem lw_p78 : lw_okq (⟨"ScriptDeskModel", "findWho", "(I)V"⟩, 48) := ⟨⟨by decide +kernel, by decide +kernel⟩, List.mem_of_getElem? (i := 1055) (by decide +kernel), List.mem_of_getElem? (i := 1415) (by decide +kernel), List.mem_of_getElem? (i := 1416) (by decide +kernel)⟩
theorem lw_p79 : lw_okq (⟨"ScriptDeskModel", "sceneFrom", "(I)I"⟩, 48) := ⟨⟨by decide +kernel, by decide +kernel⟩, List.mem_of_getElem? (i := 1055) (by decide +kernel), List.mem_of_getElem? (i := 1419) (by decide +kernel), List.mem_of_getElem? (i := 1420) (by decide +kernel)⟩
def lw_privs_5 : List (MethodName × Nat) := [(⟨"ScriptDeskModel", "rowsAhead", "(III)I"⟩, 48), (⟨"ScriptDeskModel", "kindOf", "(I)I"⟩, 48), (⟨"ScriptDeskModel", "hasEmptyAhead", "(I)Z"⟩, 48), (⟨"ScriptDeskModel", "rowsBehind", "(III)I"⟩, 48), (⟨"ScriptDeskModel", "mayEnd", "(IIIII)Z"⟩, 48), (⟨"ScriptDeskModel", "hasWord", "()Z"⟩, 48), (⟨"ScriptDeskModel", "insertPiece", "(II)V"⟩, 48), (⟨"ScriptDeskModel", "sheetsOf", "(I)I"⟩, 48), (⟨"ScriptDeskModel", "firstOf", "(I)I"⟩, 48), (⟨"ScriptDeskModel", "laySheet", "(IIII)V"⟩, 48), (⟨"ScriptDeskModel", "isGroup", "(I)Z"⟩, 48), (⟨"ScriptDeskModel", "sheetOf", "(III)I"⟩, 48), (⟨"ScriptDeskModel", "findRow", "()V"⟩, 48), (⟨"ScriptDeskModel", "isHead", "(I)Z"⟩, 48), (⟨"ScriptDeskModel", "findWho", "(I)V"⟩, 48), (⟨"ScriptDeskModel", "sceneFrom", "(I)I"⟩, 48)]
theorem lw_r5 : ∀ q ∈ lw_privs_5, lw_okq q := List.forall_mem_cons.mpr ⟨lw_p64, List.forall_mem_cons.mpr ⟨lw_p65, List.forall_mem_cons.mpr ⟨lw_p66, List.forall_mem_cons.mpr ⟨lw_p67, List.forall_mem_cons.mpr ⟨lw_p68, List.forall_mem_cons.mpr ⟨lw_p69, List.forall_mem_cons.mpr ⟨lw_p70, List.forall_mem_cons.mpr ⟨lw_p71, List.forall_mem_cons.mpr ⟨lw_p72, List.forall_mem_cons.mpr ⟨lw_p73, List.forall_mem_cons.mpr ⟨lw_p74, List.forall_mem_cons.mpr ⟨lw_p75, List.forall_mem_cons.mpr ⟨lw_p76, List.forall_mem_cons.mpr ⟨lw_p77, List.forall_mem_cons.mpr ⟨lw_p78, List.forall_mem_cons.mpr ⟨lw_p79, fun _ h => absurd h List.not_mem_nil⟩⟩⟩⟩⟩⟩⟩⟩⟩⟩⟩⟩⟩⟩⟩⟩
theorem lw_p80 : lw_okq (⟨"ScriptDeskModel", "areLike", "(II)Z"⟩, 48) := ⟨⟨by decide +kernel, by decide +kernel⟩, List.mem_of_getElem? (i := 1055) (by decide +kernel), List.mem_of_getElem? (i := 1423) (by decide +kernel), List.mem_of_getElem? (i := 1424) (by decide +kernel)⟩
theorem lw_p81 : lw_okq (⟨"ScriptDeskModel", "span", "(I)I"⟩, 48) := ⟨⟨by decide +kernel, by decide +kernel⟩, List.mem_of_getElem? (i := 1055) (by decide +kernel), List.mem_of_getElem? (i := 1427) (by decide +kernel), List.mem_of_getElem? (i := 1428) (by decide +kernel)⟩
theorem lw_p82 : lw_okq (⟨"ScriptDeskModel", "eighths", "(I)I"⟩, 48) := ⟨⟨by decide +kernel, by decide +kernel⟩, List.mem_of_getElem? (i := 1055) (by decide +kernel), List.mem_of_getElem? (i := 1431) (by decide +kernel), List.mem_of_getElem? (i := 1432) (by decide +kernel)⟩
def lw_privs_6 : List (MethodName × Nat) := [(⟨"ScriptDeskModel", "areLike", "(II)Z"⟩, 48), (⟨"ScriptDeskModel", "span", "(I)I"⟩, 48), (⟨"ScriptDeskModel", "eighths", "(I)I"⟩, 48)]
theorem lw_r6 : ∀ q ∈ lw_privs_6, lw_okq q := List.forall_mem_cons.mpr ⟨lw_p80, List.forall_mem_cons.mpr ⟨lw_p81, List.forall_mem_cons.mpr ⟨lw_p82, fun _ h => absurd h List.not_mem_nil⟩⟩⟩
def lw_privs : List (MethodName × Nat) := lw_privs_1 ++ (lw_privs_2 ++ (lw_privs_3 ++ (lw_privs_4 ++ (lw_privs_5 ++ (lw_privs_6)))))
def lw_tbl : List Cond := k2_sels lw_privs ++ tables_1
theorem lw_privs_ok : ∀ q ∈ lw_privs, lw_okq q := by
  show ∀ q ∈ lw_privs_1 ++ (lw_privs_2 ++ (lw_privs_3 ++ (lw_privs_4 ++ (lw_privs_5 ++ (lw_privs_6))))), lw_okq q
  exact List.forall_mem_append.mpr ⟨lw_r1, List.forall_mem_append.mpr ⟨lw_r2, List.forall_mem_append.mpr ⟨lw_r3, List.forall_mem_append.mpr ⟨lw_r4, List.forall_mem_append.mpr ⟨lw_r5, lw_r6⟩⟩⟩⟩⟩
-- ===== end of PART A; then your names; then what follows =====
def R_law : String := "ScriptDeskLaw"
def RJx4a65c : String := "java/util/ArrayList"
def TJx4a65c : u_T := fun k => match k with
  | 0 => ("java/util/AbstractList", "modCount", "I", false)
  | 1 => ("java/util/ArrayList", "elementData", "[Ljava/lang/Object;", false)
  | _ => ("java/util/ArrayList", "size", "I", false)
def tyJx4a65c : Nat → FieldType := fun k => match k with
  | 0 => .int
  | 1 => .array (.object "java/lang/Object")
  | _ => .int
theorem nmJx4a65c : ∀ a, a < 3 → ∀ b, b < 3 → a ≠ b → (TJx4a65c a).2.1 ≠ (TJx4a65c b).2.1 := by decide +kernel
theorem tyJx4a65c_ok : ∀ k, k < 3 → parseFieldDescriptor (TJx4a65c k).2.2.1 = some (tyJx4a65c k) := by decide +kernel
def RX0 : String := "ScriptDesk$Breaking"
def TX0 : u_T := fun k => match k with
  | 0 => ("ScriptDesk$Breaking", "standing", "LScriptDesk$PieceRow;", true)
  | 1 => ("ScriptDesk$Breaking", "leaf", "LScriptDesk$Leaf;", true)
  | 2 => ("ScriptDesk$Breaking", "beginOfPiece", "[I", true)
  | 3 => ("ScriptDesk$Breaking", "pieces", "I", false)
  | 4 => ("ScriptDesk$Breaking", "places", "I", false)
  | 5 => ("ScriptDesk$Breaking", "costFrom", "[I", false)
  | 6 => ("ScriptDesk$Breaking", "nextPlace", "[I", false)
  | 7 => ("ScriptDesk$Breaking", "known", "Z", false)
  | 8 => ("ScriptDesk$Breaking", "pageCount", "I", false)
  | 9 => ("ScriptDesk$Breaking", "pageBegin", "I", false)
  | _ => ("ScriptDesk$Breaking", "pageEnd", "I", false)
def tyX0 : Nat → FieldType := fun k => match k with
  | 0 => .object "ScriptDesk$PieceRow"
  | 1 => .object "ScriptDesk$Leaf"
  | 2 => .array .int
  | 3 => .int
  | 4 => .int
  | 5 => .array .int
  | 6 => .array .int
  | 7 => .boolean
  | 8 => .int
  | 9 => .int
  | _ => .int
theorem nmX0 : ∀ a, a < 11 → ∀ b, b < 11 → a ≠ b → (TX0 a).2.1 ≠ (TX0 b).2.1 := by decide +kernel
theorem tyX0_ok : ∀ k, k < 11 → parseFieldDescriptor (TX0 k).2.2.1 = some (tyX0 k) := by decide +kernel
def RX1 : String := "ScriptDesk$Element"
def TX1 : u_T := fun k => match k with
  | 0 => ("ScriptDesk$Element", "kind", "I", true)
  | 1 => ("ScriptDesk$Element", "number", "I", false)
  | 2 => ("ScriptDesk$Element", "struck", "Z", false)
  | 3 => ("ScriptDesk$Element", "text", "[B", true)
  | 4 => ("ScriptDesk$Element", "size", "I", false)
  | 5 => ("ScriptDesk$Element", "words", "I", false)
  | 6 => ("ScriptDesk$Element", "rowFrom", "[I", true)
  | 7 => ("ScriptDesk$Element", "rowTo", "[I", true)
  | _ => ("ScriptDesk$Element", "rows", "I", false)
def tyX1 : Nat → FieldType := fun k => match k with
  | 0 => .int
  | 1 => .int
  | 2 => .boolean
  | 3 => .array .byte
  | 4 => .int
  | 5 => .int
  | 6 => .array .int
  | 7 => .array .int
  | _ => .int
theorem nmX1 : ∀ a, a < 9 → ∀ b, b < 9 → a ≠ b → (TX1 a).2.1 ≠ (TX1 b).2.1 := by decide +kernel
theorem tyX1_ok : ∀ k, k < 9 → parseFieldDescriptor (TX1 k).2.2.1 = some (tyX1 k) := by decide +kernel
def RX2 : String := "ScriptDesk$GroupLayout"
def TX2 : u_T := fun k => match k with
  | 0 => ("ScriptDesk$GroupLayout", "standing", "LScriptDesk$PieceRow;", true)
  | 1 => ("ScriptDesk$GroupLayout", "leaf", "LScriptDesk$Leaf;", true)
  | 2 => ("ScriptDesk$GroupLayout", "rows", "[I", false)
  | 3 => ("ScriptDesk$GroupLayout", "first", "[I", false)
  | 4 => ("ScriptDesk$GroupLayout", "last", "[I", false)
  | 5 => ("ScriptDesk$GroupLayout", "sheetCount", "I", false)
  | 6 => ("ScriptDesk$GroupLayout", "end", "I", false)
  | 7 => ("ScriptDesk$GroupLayout", "markedPiece", "I", false)
  | 8 => ("ScriptDesk$GroupLayout", "markedRow", "I", false)
  | _ => ("ScriptDesk$GroupLayout", "markedRows", "I", false)
def tyX2 : Nat → FieldType := fun k => match k with
  | 0 => .object "ScriptDesk$PieceRow"
  | 1 => .object "ScriptDesk$Leaf"
  | 2 => .array .int
  | 3 => .array .int
  | 4 => .array .int
  | 5 => .int
  | 6 => .int
  | 7 => .int
  | 8 => .int
  | _ => .int
theorem nmX2 : ∀ a, a < 10 → ∀ b, b < 10 → a ≠ b → (TX2 a).2.1 ≠ (TX2 b).2.1 := by decide +kernel
theorem tyX2_ok : ∀ k, k < 10 → parseFieldDescriptor (TX2 k).2.2.1 = some (tyX2 k) := by decide +kernel
def RX3 : String := "ScriptDesk$Leaf"
def TX3 : u_T := fun k => match k with
  | 0 => ("ScriptDesk$Leaf", "standing", "LScriptDesk$PieceRow;", true)
  | 1 => ("ScriptDesk$Leaf", "end", "I", false)
  | 2 => ("ScriptDesk$Leaf", "firstPiece", "I", false)
  | 3 => ("ScriptDesk$Leaf", "firstRow", "I", false)
  | 4 => ("ScriptDesk$Leaf", "lastPiece", "I", false)
  | 5 => ("ScriptDesk$Leaf", "endRow", "I", false)
  | _ => ("ScriptDesk$Leaf", "rows", "I", false)
def tyX3 : Nat → FieldType := fun k => match k with
  | 0 => .object "ScriptDesk$PieceRow"
  | 1 => .int
  | 2 => .int
  | 3 => .int
  | 4 => .int
  | 5 => .int
  | _ => .int
theorem nmX3 : ∀ a, a < 7 → ∀ b, b < 7 → a ≠ b → (TX3 a).2.1 ≠ (TX3 b).2.1 := by decide +kernel
theorem tyX3_ok : ∀ k, k < 7 → parseFieldDescriptor (TX3 k).2.2.1 = some (tyX3 k) := by decide +kernel
def RX4 : String := "ScriptDesk$LineReader"
def TX4 : u_T := fun k => match k with
  | 0 => ("ScriptDesk$LineReader", "tape", "LScriptDesk$Tape;", true)
  | 1 => ("ScriptDesk$LineReader", "next", "I", false)
  | 2 => ("ScriptDesk$LineReader", "from", "I", false)
  | 3 => ("ScriptDesk$LineReader", "to", "I", false)
  | 4 => ("ScriptDesk$LineReader", "kind", "I", false)
  | _ => ("ScriptDesk$LineReader", "kindAhead", "I", false)
def tyX4 : Nat → FieldType := fun k => match k with
  | 0 => .object "ScriptDesk$Tape"
  | 1 => .int
  | 2 => .int
  | 3 => .int
  | 4 => .int
  | _ => .int
theorem nmX4 : ∀ a, a < 6 → ∀ b, b < 6 → a ≠ b → (TX4 a).2.1 ≠ (TX4 b).2.1 := by decide +kernel
theorem tyX4_ok : ∀ k, k < 6 → parseFieldDescriptor (TX4 k).2.2.1 = some (tyX4 k) := by decide +kernel
def RX5 : String := "ScriptDesk$Piece"
def TX5 : u_T := fun k => match k with
  | 0 => ("ScriptDesk$Piece", "element", "LScriptDesk$Element;", false)
  | 1 => ("ScriptDesk$Piece", "from", "I", false)
  | 2 => ("ScriptDesk$Piece", "to", "I", false)
  | _ => ("ScriptDesk$Piece", "group", "I", false)
def tyX5 : Nat → FieldType := fun k => match k with
  | 0 => .object "ScriptDesk$Element"
  | 1 => .int
  | 2 => .int
  | _ => .int
theorem nmX5 : ∀ a, a < 4 → ∀ b, b < 4 → a ≠ b → (TX5 a).2.1 ≠ (TX5 b).2.1 := by decide +kernel
theorem tyX5_ok : ∀ k, k < 4 → parseFieldDescriptor (TX5 k).2.2.1 = some (tyX5 k) := by decide +kernel
def RX6 : String := "ScriptDesk$PieceRow"
def TX6 : u_T := fun k => match k with
  | 0 => ("ScriptDesk$PieceRow", "pieces", "Ljava/util/ArrayList;", true)
  | 1 => ("ScriptDesk$PieceRow", "spare", "Ljava/util/ArrayList;", true)
  | _ => ("ScriptDesk$PieceRow", "nowhere", "LScriptDesk$Piece;", true)
def tyX6 : Nat → FieldType := fun k => match k with
  | 0 => .object "java/util/ArrayList"
  | 1 => .object "java/util/ArrayList"
  | _ => .object "ScriptDesk$Piece"
theorem nmX6 : ∀ a, a < 3 → ∀ b, b < 3 → a ≠ b → (TX6 a).2.1 ≠ (TX6 b).2.1 := by decide +kernel
theorem tyX6_ok : ∀ k, k < 3 → parseFieldDescriptor (TX6 k).2.2.1 = some (tyX6 k) := by decide +kernel
def RX7 : String := "ScriptDesk$SceneList"
def TX7 : u_T := fun k => match k with
  | _ => ("ScriptDesk$SceneList", "standing", "LScriptDesk$PieceRow;", true)
def tyX7 : Nat → FieldType := fun k => match k with
  | _ => .object "ScriptDesk$PieceRow"
theorem nmX7 : ∀ a, a < 1 → ∀ b, b < 1 → a ≠ b → (TX7 a).2.1 ≠ (TX7 b).2.1 := by decide +kernel
theorem tyX7_ok : ∀ k, k < 1 → parseFieldDescriptor (TX7 k).2.2.1 = some (tyX7 k) := by decide +kernel
def RX8 : String := "ScriptDesk$Tape"
def TX8 : u_T := fun k => match k with
  | 0 => ("ScriptDesk$Tape", "bytes", "[B", true)
  | _ => ("ScriptDesk$Tape", "size", "I", false)
def tyX8 : Nat → FieldType := fun k => match k with
  | 0 => .array .byte
  | _ => .int
theorem nmX8 : ∀ a, a < 2 → ∀ b, b < 2 → a ≠ b → (TX8 a).2.1 ≠ (TX8 b).2.1 := by decide +kernel
theorem tyX8_ok : ∀ k, k < 2 → parseFieldDescriptor (TX8 k).2.2.1 = some (tyX8 k) := by decide +kernel
def RX9 : String := "ScriptDesk"
def TX9 : u_T := fun k => match k with
  | 0 => ("ScriptDesk", "tape", "LScriptDesk$Tape;", true)
  | 1 => ("ScriptDesk", "reader", "LScriptDesk$LineReader;", true)
  | 2 => ("ScriptDesk", "elements", "Ljava/util/ArrayList;", true)
  | 3 => ("ScriptDesk", "reordered", "Ljava/util/ArrayList;", true)
  | 4 => ("ScriptDesk", "nobody", "LScriptDesk$Element;", true)
  | 5 => ("ScriptDesk", "standing", "LScriptDesk$PieceRow;", true)
  | 6 => ("ScriptDesk", "breaking", "LScriptDesk$Breaking;", true)
  | 7 => ("ScriptDesk", "layout", "LScriptDesk$GroupLayout;", true)
  | 8 => ("ScriptDesk", "sceneList", "LScriptDesk$SceneList;", true)
  | 9 => ("ScriptDesk", "pageLength", "I", false)
  | 10 => ("ScriptDesk", "locked", "Z", false)
  | _ => ("ScriptDesk", "groups", "I", false)
def tyX9 : Nat → FieldType := fun k => match k with
  | 0 => .object "ScriptDesk$Tape"
  | 1 => .object "ScriptDesk$LineReader"
  | 2 => .object "java/util/ArrayList"
  | 3 => .object "java/util/ArrayList"
  | 4 => .object "ScriptDesk$Element"
  | 5 => .object "ScriptDesk$PieceRow"
  | 6 => .object "ScriptDesk$Breaking"
  | 7 => .object "ScriptDesk$GroupLayout"
  | 8 => .object "ScriptDesk$SceneList"
  | 9 => .int
  | 10 => .boolean
  | _ => .int
theorem nmX9 : ∀ a, a < 12 → ∀ b, b < 12 → a ≠ b → (TX9 a).2.1 ≠ (TX9 b).2.1 := by decide +kernel
theorem tyX9_ok : ∀ k, k < 12 → parseFieldDescriptor (TX9 k).2.2.1 = some (tyX9 k) := by decide +kernel
def RX10 : String := "ScriptDeskModel"
def TX10 : u_T := fun k => match k with
  | 0 => ("ScriptDeskModel", "tape", "[B", true)
  | 1 => ("ScriptDeskModel", "taped", "I", false)
  | 2 => ("ScriptDeskModel", "most", "I", false)
  | 3 => ("ScriptDeskModel", "elements", "I", false)
  | 4 => ("ScriptDeskModel", "slotOf", "[I", true)
  | 5 => ("ScriptDeskModel", "isUsed", "[Z", true)
  | 6 => ("ScriptDeskModel", "kindIn", "[I", true)
  | 7 => ("ScriptDeskModel", "isStruck", "[Z", true)
  | 8 => ("ScriptDeskModel", "wordsIn", "[I", true)
  | 9 => ("ScriptDeskModel", "longIn", "[I", true)
  | 10 => ("ScriptDeskModel", "text", "[B", true)
  | 11 => ("ScriptDeskModel", "rowsIn", "[I", true)
  | 12 => ("ScriptDeskModel", "rowFrom", "[I", true)
  | 13 => ("ScriptDeskModel", "rowLong", "[I", true)
  | 14 => ("ScriptDeskModel", "pieces", "I", false)
  | 15 => ("ScriptDeskModel", "pieceOf", "[I", true)
  | 16 => ("ScriptDeskModel", "pieceFrom", "[I", true)
  | 17 => ("ScriptDeskModel", "pieceTo", "[I", true)
  | 18 => ("ScriptDeskModel", "groupOf", "[I", true)
  | 19 => ("ScriptDeskModel", "groups", "I", false)
  | 20 => ("ScriptDeskModel", "isLocked", "Z", false)
  | 21 => ("ScriptDeskModel", "lines", "I", false)
  | 22 => ("ScriptDeskModel", "lineFrom", "[I", true)
  | 23 => ("ScriptDeskModel", "lineTo", "[I", true)
  | 24 => ("ScriptDeskModel", "lineKind", "[I", true)
  | 25 => ("ScriptDeskModel", "nextP", "I", false)
  | 26 => ("ScriptDeskModel", "nextR", "I", false)
  | 27 => ("ScriptDeskModel", "sheetRows", "I", false)
  | 28 => ("ScriptDeskModel", "pages", "I", false)
  | 29 => ("ScriptDeskModel", "least", "I", false)
  | 30 => ("ScriptDeskModel", "startOf", "[I", true)
  | 31 => ("ScriptDeskModel", "costs", "[I", true)
  | 32 => ("ScriptDeskModel", "endP", "[I", true)
  | 33 => ("ScriptDeskModel", "endR", "[I", true)
  | 34 => ("ScriptDeskModel", "rowsOn", "[I", true)
  | 35 => ("ScriptDeskModel", "pageP", "[I", true)
  | 36 => ("ScriptDeskModel", "pageR", "[I", true)
  | 37 => ("ScriptDeskModel", "pageRows", "[I", true)
  | 38 => ("ScriptDeskModel", "newOf", "[I", true)
  | 39 => ("ScriptDeskModel", "newFrom", "[I", true)
  | 40 => ("ScriptDeskModel", "newTo", "[I", true)
  | 41 => ("ScriptDeskModel", "newGroup", "[I", true)
  | 42 => ("ScriptDeskModel", "oldSlot", "[I", true)
  | 43 => ("ScriptDeskModel", "newNumber", "[I", true)
  | 44 => ("ScriptDeskModel", "rowMany", "I", false)
  | 45 => ("ScriptDeskModel", "row", "[I", true)
  | 46 => ("ScriptDeskModel", "whoMany", "I", false)
  | _ => ("ScriptDeskModel", "who", "[I", true)
def tyX10 : Nat → FieldType := fun k => match k with
  | 0 => .array .byte
  | 1 => .int
  | 2 => .int
  | 3 => .int
  | 4 => .array .int
  | 5 => .array .boolean
  | 6 => .array .int
  | 7 => .array .boolean
  | 8 => .array .int
  | 9 => .array .int
  | 10 => .array .byte
  | 11 => .array .int
  | 12 => .array .int
  | 13 => .array .int
  | 14 => .int
  | 15 => .array .int
  | 16 => .array .int
  | 17 => .array .int
  | 18 => .array .int
  | 19 => .int
  | 20 => .boolean
  | 21 => .int
  | 22 => .array .int
  | 23 => .array .int
  | 24 => .array .int
  | 25 => .int
  | 26 => .int
  | 27 => .int
  | 28 => .int
  | 29 => .int
  | 30 => .array .int
  | 31 => .array .int
  | 32 => .array .int
  | 33 => .array .int
  | 34 => .array .int
  | 35 => .array .int
  | 36 => .array .int
  | 37 => .array .int
  | 38 => .array .int
  | 39 => .array .int
  | 40 => .array .int
  | 41 => .array .int
  | 42 => .array .int
  | 43 => .array .int
  | 44 => .int
  | 45 => .array .int
  | 46 => .int
  | _ => .array .int
theorem nmX10 : ∀ a, a < 48 → ∀ b, b < 48 → a ≠ b → (TX10 a).2.1 ≠ (TX10 b).2.1 := by decide +kernel
theorem tyX10_ok : ∀ k, k < 48 → parseFieldDescriptor (TX10 k).2.2.1 = some (tyX10 k) := by decide +kernel
def RJxc12de : String := "java/util/AbstractList"
def RJxa1e45 : String := "java/util/AbstractCollection"
def RJ9 : String := "java/lang/Math"
abbrev vcl : List vw_C := [(RJx4a65c, TJx4a65c, 3), (RX0, TX0, 11), (RX1, TX1, 9), (RX2, TX2, 10), (RX3, TX3, 7), (RX4, TX4, 6), (RX5, TX5, 4), (RX6, TX6, 3), (RX7, TX7, 1), (RX8, TX8, 2), (RX9, TX9, 12), (RX10, TX10, 48)]
theorem dfJx4a65c : ∀ j, j < 3 → defaultValue (tyJx4a65c j) = vp_V [.int 0, .null, .int 0] j := by decide +kernel
theorem dfX0 : ∀ j, j < 11 → defaultValue (tyX0 j) = vp_V [.null, .null, .null, .int 0, .int 0, .null, .null, .int 0, .int 0, .int 0, .int 0] j := by decide +kernel
theorem dfX1 : ∀ j, j < 9 → defaultValue (tyX1 j) = vp_V [.int 0, .int 0, .int 0, .null, .int 0, .int 0, .null, .null, .int 0] j := by decide +kernel
theorem dfX2 : ∀ j, j < 10 → defaultValue (tyX2 j) = vp_V [.null, .null, .null, .null, .null, .int 0, .int 0, .int 0, .int 0, .int 0] j := by decide +kernel
theorem dfX3 : ∀ j, j < 7 → defaultValue (tyX3 j) = vp_V [.null, .int 0, .int 0, .int 0, .int 0, .int 0, .int 0] j := by decide +kernel
theorem dfX4 : ∀ j, j < 6 → defaultValue (tyX4 j) = vp_V [.null, .int 0, .int 0, .int 0, .int 0, .int 0] j := by decide +kernel
theorem dfX5 : ∀ j, j < 4 → defaultValue (tyX5 j) = vp_V [.null, .int 0, .int 0, .int 0] j := by decide +kernel
theorem dfX6 : ∀ j, j < 3 → defaultValue (tyX6 j) = vp_V [.null, .null, .null] j := by decide +kernel
theorem dfX7 : ∀ j, j < 1 → defaultValue (tyX7 j) = vp_V [.null] j := by decide +kernel
theorem dfX8 : ∀ j, j < 2 → defaultValue (tyX8 j) = vp_V [.null, .int 0] j := by decide +kernel
theorem dfX9 : ∀ j, j < 12 → defaultValue (tyX9 j) = vp_V [.null, .null, .null, .null, .null, .null, .null, .null, .null, .int 0, .int 0, .int 0] j := by decide +kernel
theorem dfX10 : ∀ j, j < 48 → defaultValue (tyX10 j) = vp_V [.null, .int 0, .int 0, .int 0, .null, .null, .null, .null, .null, .null, .null, .null, .null, .null, .int 0, .null, .null, .null, .null, .int 0, .int 0, .int 0, .null, .null, .null, .int 0, .int 0, .int 0, .int 0, .int 0, .null, .null, .null, .null, .null, .null, .null, .null, .null, .null, .null, .null, .null, .null, .int 0, .null, .int 0, .null] j := by decide +kernel
