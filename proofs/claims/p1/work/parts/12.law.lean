/-! THE CLAIM OUT OF ONE WALK OF THE LAW'S BODY. Your part is whole_start (and what it stands on); all else here is the same for every law, but numbers. -/
def lw_P (b : Addr) (xs : List Int32) (args : Array Value) (s : State) : Prop := args = #[.ref b] ∧ s.IntsAt b xs ∧ xs.length ≤ 4 ∧ (Jvm.Cond.and given_1 narrow_1).before args s = true
def lw_Q (_ : Array Value) (s : State) (o : Outcome) (t : State) : Prop := o = .returned (some (.int 1)) ∧ Framed s o t [] 600000 7302249
def lw_Z (below : List Frame) (a : Array Value) (s : State) : State → Prop := fun t => ∃ o, t.status = .running ∧ Ended t below o ∧ lw_Q a s o t
/-- the law's own end, with 1 on the stack, nothing written that was there before, its room as the claim has it -/
theorem lw_ret {p : Program} {l : Launch} {e : Env} {s : State} {m : MethodId} {below : List Frame} {meth : Method} {c : Code} {b : Nat} (hx : p.tables.exec = Jvm.exec) (hb : c.code = code) (hr : meth.sig.returnType = ret) (hlocks : meth.locks = false) {pc : Nat} {H : Heap} {ls : Array Slot} (hdg : decode code pc = .ok (.ireturn, 1)) : W p l e room_1 s m #[Value.ref b] below meth c H [] 600000 7302249 (lw_Z below #[Value.ref b] s) (F0 m pc ls [.int 1]) := by
  intro T hT X
  obtain ⟨fs, hret, hrun, hended, hW, hframe⟩ := X.leave (v := some (.int 1)) (hlocks := hlocks) (fun h => by rw [hr] at h; cases h)
  have hmeth' : T.vm.method? m = some meth := X.method'
  refine ⟨T.setFrames fs, ?_, .returned (some (.int 1)), hrun, hended, rfl, ⟨_, rfl⟩, hW, hframe⟩
  jvm_step X.here [X.here.top, hx, hb, hdg, hmeth', hr, ret, narrow_b1]
  (try refine ⟨rfl, ?_⟩); (try refine ⟨rfl, ?_⟩)
  first | (intro acts; rw [hret _ acts rfl rfl rfl]) | rw [hret _ _ rfl rfl rfl]
  exact Steps.refl _
/-- what holds at the law's entry: the machine, the code, the tables' words (any of lw_tbl by 'hts w (by decide +kernel)'), the script of L ints xs at the cell b, what the Statement gives of the start (any of its parts by flat_of_before) -/
def lw_At (p : Program) (s : State) (m : MethodId) (meth : Method) (c : Code) (b L : Nat) (xs : Nat → Int32) : Prop :=
  p.tables.exec = Jvm.exec ∧ c.code = code ∧ meth.sig.returnType = ret ∧ c.maxLocals = 4 ∧ s.vm.findClass R_law = some m.cls ∧ (∀ w ∈ lw_tbl, w.before #[Value.ref b] s = true) ∧ va_X b L xs s s.heap ∧ b < s.heap.size ∧ meth.locks = false ∧ (Jvm.Cond.and given_1 narrow_1).before #[Value.ref b] s = true
abbrev cL_law : ByteArray := code
theorem k_107 : (Cond.classLink R_law 7 RX9) ∈ gT := gT_i 107 (by decide +kernel) rfl
theorem k_108 : (Cond.instantiable RX9 12) ∈ gT := gT_i 108 (by decide +kernel) rfl
theorem k_109 : (Cond.methodLink R_law 9 yX9_init) ∈ gT := gT_i 109 (by decide +kernel) rfl
theorem k_110 : (Cond.instanceMethod yX9_init) ∈ gT := gT_i 110 (by decide +kernel) rfl
theorem k_111 : (Cond.code yX9_init cX9_init 2 none) ∈ gT := gT_i 111 (by decide +kernel) rfl
theorem k_466 : (Cond.methodLink R_law 15 yX9_feed) ∈ gT := gT_i 466 (by decide +kernel) rfl
theorem k_467 : (Cond.instanceMethod yX9_feed) ∈ gT := gT_i 467 (by decide +kernel) rfl
theorem k_468 : (Cond.selects RX9 yX9_feed yX9_feed) ∈ gT := gT_i 468 (by decide +kernel) rfl
theorem k_469 : (Cond.code yX9_feed cX9_feed 5 (some .int)) ∈ gT := gT_i 469 (by decide +kernel) rfl
theorem k_482 : (Cond.methodLink R_law 20 yX9_cut) ∈ gT := gT_i 482 (by decide +kernel) rfl
theorem k_483 : (Cond.instanceMethod yX9_cut) ∈ gT := gT_i 483 (by decide +kernel) rfl
theorem k_484 : (Cond.selects RX9 yX9_cut yX9_cut) ∈ gT := gT_i 484 (by decide +kernel) rfl
theorem k_485 : (Cond.code yX9_cut cX9_cut 3 (some .int)) ∈ gT := gT_i 485 (by decide +kernel) rfl
theorem k_490 : (Cond.methodLink R_law 25 yX9_read) ∈ gT := gT_i 490 (by decide +kernel) rfl
theorem k_491 : (Cond.instanceMethod yX9_read) ∈ gT := gT_i 491 (by decide +kernel) rfl
theorem k_492 : (Cond.selects RX9 yX9_read yX9_read) ∈ gT := gT_i 492 (by decide +kernel) rfl
theorem k_493 : (Cond.code yX9_read cX9_read 1 (some .int)) ∈ gT := gT_i 493 (by decide +kernel) rfl
theorem k_725 : (Cond.methodLink R_law 30 yX9_length) ∈ gT := gT_i 725 (by decide +kernel) rfl
theorem k_726 : (Cond.instanceMethod yX9_length) ∈ gT := gT_i 726 (by decide +kernel) rfl
theorem k_727 : (Cond.selects RX9 yX9_length yX9_length) ∈ gT := gT_i 727 (by decide +kernel) rfl
theorem k_728 : (Cond.code yX9_length cX9_length 3 (some .int)) ∈ gT := gT_i 728 (by decide +kernel) rfl
theorem k_729 : (Cond.methodLink R_law 34 yX9_element) ∈ gT := gT_i 729 (by decide +kernel) rfl
theorem k_730 : (Cond.instanceMethod yX9_element) ∈ gT := gT_i 730 (by decide +kernel) rfl
theorem k_731 : (Cond.selects RX9 yX9_element yX9_element) ∈ gT := gT_i 731 (by decide +kernel) rfl
theorem k_732 : (Cond.code yX9_element cX9_element 4 (some .int)) ∈ gT := gT_i 732 (by decide +kernel) rfl
theorem k_745 : (Cond.methodLink R_law 39 yX9_rowByte) ∈ gT := gT_i 745 (by decide +kernel) rfl
theorem k_746 : (Cond.instanceMethod yX9_rowByte) ∈ gT := gT_i 746 (by decide +kernel) rfl
theorem k_747 : (Cond.selects RX9 yX9_rowByte yX9_rowByte) ∈ gT := gT_i 747 (by decide +kernel) rfl
theorem k_748 : (Cond.code yX9_rowByte cX9_rowByte 5 (some .int)) ∈ gT := gT_i 748 (by decide +kernel) rfl
theorem k_758 : (Cond.methodLink R_law 44 yX9_pages) ∈ gT := gT_i 758 (by decide +kernel) rfl
theorem k_863 : (Cond.methodLink R_law 48 yX9_cost) ∈ gT := gT_i 863 (by decide +kernel) rfl
theorem k_871 : (Cond.methodLink R_law 52 yX9_page) ∈ gT := gT_i 871 (by decide +kernel) rfl
theorem k_872 : (Cond.instanceMethod yX9_page) ∈ gT := gT_i 872 (by decide +kernel) rfl
theorem k_873 : (Cond.selects RX9 yX9_page yX9_page) ∈ gT := gT_i 873 (by decide +kernel) rfl
theorem k_874 : (Cond.code yX9_page cX9_page 3 (some .int)) ∈ gT := gT_i 874 (by decide +kernel) rfl
theorem k_916 : (Cond.methodLink R_law 56 yX9_lock) ∈ gT := gT_i 916 (by decide +kernel) rfl
theorem k_917 : (Cond.instanceMethod yX9_lock) ∈ gT := gT_i 917 (by decide +kernel) rfl
theorem k_918 : (Cond.selects RX9 yX9_lock yX9_lock) ∈ gT := gT_i 918 (by decide +kernel) rfl
theorem k_919 : (Cond.code yX9_lock cX9_lock 2 (some .int)) ∈ gT := gT_i 919 (by decide +kernel) rfl
theorem k_924 : (Cond.methodLink R_law 60 yX9_strike) ∈ gT := gT_i 924 (by decide +kernel) rfl
theorem k_925 : (Cond.instanceMethod yX9_strike) ∈ gT := gT_i 925 (by decide +kernel) rfl
theorem k_926 : (Cond.selects RX9 yX9_strike yX9_strike) ∈ gT := gT_i 926 (by decide +kernel) rfl
theorem k_927 : (Cond.code yX9_strike cX9_strike 3 (some .int)) ∈ gT := gT_i 927 (by decide +kernel) rfl
theorem k_932 : (Cond.methodLink R_law 64 yX9_insert) ∈ gT := gT_i 932 (by decide +kernel) rfl
theorem k_933 : (Cond.instanceMethod yX9_insert) ∈ gT := gT_i 933 (by decide +kernel) rfl
theorem k_934 : (Cond.selects RX9 yX9_insert yX9_insert) ∈ gT := gT_i 934 (by decide +kernel) rfl
theorem k_935 : (Cond.code yX9_insert cX9_insert 7 (some .int)) ∈ gT := gT_i 935 (by decide +kernel) rfl
theorem k_993 : (Cond.methodLink R_law 68 yX9_sheets) ∈ gT := gT_i 993 (by decide +kernel) rfl
theorem k_994 : (Cond.instanceMethod yX9_sheets) ∈ gT := gT_i 994 (by decide +kernel) rfl
theorem k_995 : (Cond.selects RX9 yX9_sheets yX9_sheets) ∈ gT := gT_i 995 (by decide +kernel) rfl
theorem k_996 : (Cond.code yX9_sheets cX9_sheets 2 (some .int)) ∈ gT := gT_i 996 (by decide +kernel) rfl
theorem k_997 : (Cond.methodLink R_law 72 yX9_sheet) ∈ gT := gT_i 997 (by decide +kernel) rfl
theorem k_998 : (Cond.instanceMethod yX9_sheet) ∈ gT := gT_i 998 (by decide +kernel) rfl
theorem k_999 : (Cond.selects RX9 yX9_sheet yX9_sheet) ∈ gT := gT_i 999 (by decide +kernel) rfl
theorem k_1000 : (Cond.code yX9_sheet cX9_sheet 4 (some .int)) ∈ gT := gT_i 1000 (by decide +kernel) rfl
theorem k_1021 : (Cond.methodLink R_law 76 yX9_where) ∈ gT := gT_i 1021 (by decide +kernel) rfl
theorem k_1022 : (Cond.instanceMethod yX9_where) ∈ gT := gT_i 1022 (by decide +kernel) rfl
theorem k_1023 : (Cond.selects RX9 yX9_where yX9_where) ∈ gT := gT_i 1023 (by decide +kernel) rfl
theorem k_1024 : (Cond.code yX9_where cX9_where 5 (some .int)) ∈ gT := gT_i 1024 (by decide +kernel) rfl
theorem k_1033 : (Cond.methodLink R_law 80 yX9_merge) ∈ gT := gT_i 1033 (by decide +kernel) rfl
theorem k_1034 : (Cond.instanceMethod yX9_merge) ∈ gT := gT_i 1034 (by decide +kernel) rfl
theorem k_1035 : (Cond.selects RX9 yX9_merge yX9_merge) ∈ gT := gT_i 1035 (by decide +kernel) rfl
theorem k_1036 : (Cond.code yX9_merge cX9_merge 3 (some .int)) ∈ gT := gT_i 1036 (by decide +kernel) rfl
theorem k_1038 : (Cond.methodLink R_law 84 yX9_scenes) ∈ gT := gT_i 1038 (by decide +kernel) rfl
theorem k_1039 : (Cond.instanceMethod yX9_scenes) ∈ gT := gT_i 1039 (by decide +kernel) rfl
theorem k_1040 : (Cond.selects RX9 yX9_scenes yX9_scenes) ∈ gT := gT_i 1040 (by decide +kernel) rfl
theorem k_1041 : (Cond.code yX9_scenes cX9_scenes 1 (some .int)) ∈ gT := gT_i 1041 (by decide +kernel) rfl
theorem k_1053 : (Cond.methodLink R_law 88 yX9_scene) ∈ gT := gT_i 1053 (by decide +kernel) rfl
theorem k_1054 : (Cond.instanceMethod yX9_scene) ∈ gT := gT_i 1054 (by decide +kernel) rfl
theorem k_1055 : (Cond.selects RX9 yX9_scene yX9_scene) ∈ gT := gT_i 1055 (by decide +kernel) rfl
theorem k_1056 : (Cond.code yX9_scene cX9_scene 5 (some .int)) ∈ gT := gT_i 1056 (by decide +kernel) rfl
theorem k_1094 : (Cond.methodLink R_law 92 yX9_who) ∈ gT := gT_i 1094 (by decide +kernel) rfl
theorem k_1095 : (Cond.instanceMethod yX9_who) ∈ gT := gT_i 1095 (by decide +kernel) rfl
theorem k_1096 : (Cond.selects RX9 yX9_who yX9_who) ∈ gT := gT_i 1096 (by decide +kernel) rfl
theorem k_1097 : (Cond.code yX9_who cX9_who 3 (some .int)) ∈ gT := gT_i 1097 (by decide +kernel) rfl
theorem k_1102 : (Cond.methodLink R_law 96 yX9_parts) ∈ gT := gT_i 1102 (by decide +kernel) rfl
theorem k_1103 : (Cond.instanceMethod yX9_parts) ∈ gT := gT_i 1103 (by decide +kernel) rfl
theorem k_1104 : (Cond.selects RX9 yX9_parts yX9_parts) ∈ gT := gT_i 1104 (by decide +kernel) rfl
theorem k_1105 : (Cond.code yX9_parts cX9_parts 6 (some .int)) ∈ gT := gT_i 1105 (by decide +kernel) rfl
theorem k_1107 : (Cond.methodLink R_law 100 yX9_count) ∈ gT := gT_i 1107 (by decide +kernel) rfl
theorem k_1119 : (Cond.methodLink R_law 104 yX9_digest) ∈ gT := gT_i 1119 (by decide +kernel) rfl
theorem k_1120 : (Cond.instanceMethod yX9_digest) ∈ gT := gT_i 1120 (by decide +kernel) rfl
theorem k_1121 : (Cond.selects RX9 yX9_digest yX9_digest) ∈ gT := gT_i 1121 (by decide +kernel) rfl
theorem k_1122 : (Cond.code yX9_digest cX9_digest 4 (some .long)) ∈ gT := gT_i 1122 (by decide +kernel) rfl
theorem k_1137 : (Cond.classLink R_law 10 RX10) ∈ gT := gT_i 1137 (by decide +kernel) rfl
theorem k_1138 : (Cond.instantiable RX10 48) ∈ gT := gT_i 1138 (by decide +kernel) rfl
theorem k_1139 : (Cond.methodLink R_law 12 yX10_init) ∈ gT := gT_i 1139 (by decide +kernel) rfl
theorem k_1140 : (Cond.instanceMethod yX10_init) ∈ gT := gT_i 1140 (by decide +kernel) rfl
theorem k_1141 : (Cond.code yX10_init cX10_init 1 none) ∈ gT := gT_i 1141 (by decide +kernel) rfl
theorem k_1290 : (Cond.methodLink R_law 19 yX10_feed) ∈ gT := gT_i 1290 (by decide +kernel) rfl
theorem k_1291 : (Cond.instanceMethod yX10_feed) ∈ gT := gT_i 1291 (by decide +kernel) rfl
theorem k_1292 : (Cond.selects RX10 yX10_feed yX10_feed) ∈ gT := gT_i 1292 (by decide +kernel) rfl
theorem k_1293 : (Cond.code yX10_feed cX10_feed 6 (some .int)) ∈ gT := gT_i 1293 (by decide +kernel) rfl
theorem k_1297 : (Cond.methodLink R_law 24 yX10_cut) ∈ gT := gT_i 1297 (by decide +kernel) rfl
theorem k_1298 : (Cond.instanceMethod yX10_cut) ∈ gT := gT_i 1298 (by decide +kernel) rfl
theorem k_1299 : (Cond.selects RX10 yX10_cut yX10_cut) ∈ gT := gT_i 1299 (by decide +kernel) rfl
theorem k_1300 : (Cond.code yX10_cut cX10_cut 3 (some .int)) ∈ gT := gT_i 1300 (by decide +kernel) rfl
theorem k_1301 : (Cond.methodLink R_law 29 yX10_read) ∈ gT := gT_i 1301 (by decide +kernel) rfl
theorem k_1302 : (Cond.instanceMethod yX10_read) ∈ gT := gT_i 1302 (by decide +kernel) rfl
theorem k_1303 : (Cond.selects RX10 yX10_read yX10_read) ∈ gT := gT_i 1303 (by decide +kernel) rfl
theorem k_1304 : (Cond.code yX10_read cX10_read 4 (some .int)) ∈ gT := gT_i 1304 (by decide +kernel) rfl
theorem k_1360 : (Cond.methodLink R_law 33 yX10_length) ∈ gT := gT_i 1360 (by decide +kernel) rfl
theorem k_1361 : (Cond.instanceMethod yX10_length) ∈ gT := gT_i 1361 (by decide +kernel) rfl
theorem k_1362 : (Cond.selects RX10 yX10_length yX10_length) ∈ gT := gT_i 1362 (by decide +kernel) rfl
theorem k_1363 : (Cond.code yX10_length cX10_length 3 (some .int)) ∈ gT := gT_i 1363 (by decide +kernel) rfl
theorem k_1364 : (Cond.methodLink R_law 38 yX10_element) ∈ gT := gT_i 1364 (by decide +kernel) rfl
theorem k_1365 : (Cond.instanceMethod yX10_element) ∈ gT := gT_i 1365 (by decide +kernel) rfl
theorem k_1366 : (Cond.selects RX10 yX10_element yX10_element) ∈ gT := gT_i 1366 (by decide +kernel) rfl
theorem k_1367 : (Cond.code yX10_element cX10_element 3 (some .int)) ∈ gT := gT_i 1367 (by decide +kernel) rfl
theorem k_1376 : (Cond.methodLink R_law 43 yX10_rowByte) ∈ gT := gT_i 1376 (by decide +kernel) rfl
theorem k_1377 : (Cond.instanceMethod yX10_rowByte) ∈ gT := gT_i 1377 (by decide +kernel) rfl
theorem k_1378 : (Cond.selects RX10 yX10_rowByte yX10_rowByte) ∈ gT := gT_i 1378 (by decide +kernel) rfl
theorem k_1379 : (Cond.code yX10_rowByte cX10_rowByte 6 (some .int)) ∈ gT := gT_i 1379 (by decide +kernel) rfl
theorem k_1380 : (Cond.methodLink R_law 47 yX10_pages) ∈ gT := gT_i 1380 (by decide +kernel) rfl
theorem k_1416 : (Cond.methodLink R_law 51 yX10_cost) ∈ gT := gT_i 1416 (by decide +kernel) rfl
theorem k_1417 : (Cond.instanceMethod yX10_cost) ∈ gT := gT_i 1417 (by decide +kernel) rfl
theorem k_1418 : (Cond.selects RX10 yX10_cost yX10_cost) ∈ gT := gT_i 1418 (by decide +kernel) rfl
theorem k_1419 : (Cond.code yX10_cost cX10_cost 1 (some .int)) ∈ gT := gT_i 1419 (by decide +kernel) rfl
theorem k_1420 : (Cond.methodLink R_law 55 yX10_page) ∈ gT := gT_i 1420 (by decide +kernel) rfl
theorem k_1421 : (Cond.instanceMethod yX10_page) ∈ gT := gT_i 1421 (by decide +kernel) rfl
theorem k_1422 : (Cond.selects RX10 yX10_page yX10_page) ∈ gT := gT_i 1422 (by decide +kernel) rfl
theorem k_1423 : (Cond.code yX10_page cX10_page 7 (some .int)) ∈ gT := gT_i 1423 (by decide +kernel) rfl
theorem k_1424 : (Cond.methodLink R_law 59 yX10_lock) ∈ gT := gT_i 1424 (by decide +kernel) rfl
theorem k_1425 : (Cond.instanceMethod yX10_lock) ∈ gT := gT_i 1425 (by decide +kernel) rfl
theorem k_1426 : (Cond.selects RX10 yX10_lock yX10_lock) ∈ gT := gT_i 1426 (by decide +kernel) rfl
theorem k_1427 : (Cond.code yX10_lock cX10_lock 6 (some .int)) ∈ gT := gT_i 1427 (by decide +kernel) rfl
theorem k_1428 : (Cond.methodLink R_law 63 yX10_strike) ∈ gT := gT_i 1428 (by decide +kernel) rfl
theorem k_1429 : (Cond.instanceMethod yX10_strike) ∈ gT := gT_i 1429 (by decide +kernel) rfl
theorem k_1430 : (Cond.selects RX10 yX10_strike yX10_strike) ∈ gT := gT_i 1430 (by decide +kernel) rfl
theorem k_1431 : (Cond.code yX10_strike cX10_strike 4 (some .int)) ∈ gT := gT_i 1431 (by decide +kernel) rfl
theorem k_1432 : (Cond.methodLink R_law 67 yX10_insert) ∈ gT := gT_i 1432 (by decide +kernel) rfl
theorem k_1433 : (Cond.instanceMethod yX10_insert) ∈ gT := gT_i 1433 (by decide +kernel) rfl
theorem k_1434 : (Cond.selects RX10 yX10_insert yX10_insert) ∈ gT := gT_i 1434 (by decide +kernel) rfl
theorem k_1435 : (Cond.code yX10_insert cX10_insert 6 (some .int)) ∈ gT := gT_i 1435 (by decide +kernel) rfl
theorem k_1456 : (Cond.methodLink R_law 71 yX10_sheets) ∈ gT := gT_i 1456 (by decide +kernel) rfl
theorem k_1457 : (Cond.instanceMethod yX10_sheets) ∈ gT := gT_i 1457 (by decide +kernel) rfl
theorem k_1458 : (Cond.selects RX10 yX10_sheets yX10_sheets) ∈ gT := gT_i 1458 (by decide +kernel) rfl
theorem k_1459 : (Cond.code yX10_sheets cX10_sheets 2 (some .int)) ∈ gT := gT_i 1459 (by decide +kernel) rfl
theorem k_1464 : (Cond.methodLink R_law 75 yX10_sheet) ∈ gT := gT_i 1464 (by decide +kernel) rfl
theorem k_1465 : (Cond.instanceMethod yX10_sheet) ∈ gT := gT_i 1465 (by decide +kernel) rfl
theorem k_1466 : (Cond.selects RX10 yX10_sheet yX10_sheet) ∈ gT := gT_i 1466 (by decide +kernel) rfl
theorem k_1467 : (Cond.code yX10_sheet cX10_sheet 4 (some .int)) ∈ gT := gT_i 1467 (by decide +kernel) rfl
theorem k_1472 : (Cond.methodLink R_law 79 yX10_where) ∈ gT := gT_i 1472 (by decide +kernel) rfl
theorem k_1473 : (Cond.instanceMethod yX10_where) ∈ gT := gT_i 1473 (by decide +kernel) rfl
theorem k_1474 : (Cond.selects RX10 yX10_where yX10_where) ∈ gT := gT_i 1474 (by decide +kernel) rfl
theorem k_1475 : (Cond.code yX10_where cX10_where 7 (some .int)) ∈ gT := gT_i 1475 (by decide +kernel) rfl
theorem k_1476 : (Cond.methodLink R_law 83 yX10_merge) ∈ gT := gT_i 1476 (by decide +kernel) rfl
theorem k_1477 : (Cond.instanceMethod yX10_merge) ∈ gT := gT_i 1477 (by decide +kernel) rfl
theorem k_1478 : (Cond.selects RX10 yX10_merge yX10_merge) ∈ gT := gT_i 1478 (by decide +kernel) rfl
theorem k_1479 : (Cond.code yX10_merge cX10_merge 4 (some .int)) ∈ gT := gT_i 1479 (by decide +kernel) rfl
theorem k_1480 : (Cond.methodLink R_law 87 yX10_scenes) ∈ gT := gT_i 1480 (by decide +kernel) rfl
theorem k_1492 : (Cond.methodLink R_law 91 yX10_scene) ∈ gT := gT_i 1492 (by decide +kernel) rfl
theorem k_1493 : (Cond.instanceMethod yX10_scene) ∈ gT := gT_i 1493 (by decide +kernel) rfl
theorem k_1494 : (Cond.selects RX10 yX10_scene yX10_scene) ∈ gT := gT_i 1494 (by decide +kernel) rfl
theorem k_1495 : (Cond.code yX10_scene cX10_scene 3 (some .int)) ∈ gT := gT_i 1495 (by decide +kernel) rfl
theorem k_1517 : (Cond.methodLink R_law 95 yX10_who) ∈ gT := gT_i 1517 (by decide +kernel) rfl
theorem k_1518 : (Cond.instanceMethod yX10_who) ∈ gT := gT_i 1518 (by decide +kernel) rfl
theorem k_1519 : (Cond.selects RX10 yX10_who yX10_who) ∈ gT := gT_i 1519 (by decide +kernel) rfl
theorem k_1520 : (Cond.code yX10_who cX10_who 3 (some .int)) ∈ gT := gT_i 1520 (by decide +kernel) rfl
theorem k_1521 : (Cond.methodLink R_law 99 yX10_parts) ∈ gT := gT_i 1521 (by decide +kernel) rfl
theorem k_1522 : (Cond.instanceMethod yX10_parts) ∈ gT := gT_i 1522 (by decide +kernel) rfl
theorem k_1523 : (Cond.selects RX10 yX10_parts yX10_parts) ∈ gT := gT_i 1523 (by decide +kernel) rfl
theorem k_1524 : (Cond.code yX10_parts cX10_parts 7 (some .int)) ∈ gT := gT_i 1524 (by decide +kernel) rfl
theorem k_1525 : (Cond.methodLink R_law 103 yX10_count) ∈ gT := gT_i 1525 (by decide +kernel) rfl
theorem k_1529 : (Cond.methodLink R_law 108 yX10_digest) ∈ gT := gT_i 1529 (by decide +kernel) rfl
theorem k_1530 : (Cond.instanceMethod yX10_digest) ∈ gT := gT_i 1530 (by decide +kernel) rfl
theorem k_1531 : (Cond.selects RX10 yX10_digest yX10_digest) ∈ gT := gT_i 1531 (by decide +kernel) rfl
theorem k_1532 : (Cond.code yX10_digest cX10_digest 7 (some .long)) ∈ gT := gT_i 1532 (by decide +kernel) rfl
theorem k_1537 : (Cond.constantLong R_law 13 (4294967295)) ∈ gT := gT_i 1537 (by decide +kernel) rfl
theorem dL_law_136 : decode cL_law 136 = .ok (.aload_n 1, 1) := by decide +kernel
theorem dL_law_137 : decode cL_law 137 = .ok (.aload_n 0, 1) := by decide +kernel
theorem dL_law_138 : decode cL_law 138 = .ok (.iload_n 3, 1) := by decide +kernel
theorem dL_law_139 : decode cL_law 139 = .ok (.iconst 1, 1) := by decide +kernel
theorem dL_law_140 : decode cL_law 140 = .ok (.iadd, 1) := by decide +kernel
theorem dL_law_141 : decode cL_law 141 = .ok (.iaload, 1) := by decide +kernel
theorem dL_law_142 : decode cL_law 142 = .ok (.i2l, 1) := by decide +kernel
theorem dL_law_143 : decode cL_law 143 = .ok (.bipush 32, 2) := by decide +kernel
theorem dL_law_145 : decode cL_law 145 = .ok (.lshl, 1) := by decide +kernel
theorem dL_law_146 : decode cL_law 146 = .ok (.aload_n 0, 1) := by decide +kernel
theorem dL_law_147 : decode cL_law 147 = .ok (.iload_n 3, 1) := by decide +kernel
theorem dL_law_148 : decode cL_law 148 = .ok (.iconst 2, 1) := by decide +kernel
theorem dL_law_149 : decode cL_law 149 = .ok (.iadd, 1) := by decide +kernel
theorem dL_law_150 : decode cL_law 150 = .ok (.iaload, 1) := by decide +kernel
theorem dL_law_151 : decode cL_law 151 = .ok (.i2l, 1) := by decide +kernel
theorem dL_law_152 : decode cL_law 152 = .ok (.ldc2_w 13, 3) := by decide +kernel
theorem dL_law_155 : decode cL_law 155 = .ok (.land, 1) := by decide +kernel
theorem dL_law_156 : decode cL_law 156 = .ok (.lor, 1) := by decide +kernel
theorem dL_law_157 : decode cL_law 157 = .ok (.aload_n 0, 1) := by decide +kernel
theorem dL_law_158 : decode cL_law 158 = .ok (.iload_n 3, 1) := by decide +kernel
theorem dL_law_159 : decode cL_law 159 = .ok (.iconst 3, 1) := by decide +kernel
theorem dL_law_160 : decode cL_law 160 = .ok (.iadd, 1) := by decide +kernel
theorem dL_law_161 : decode cL_law 161 = .ok (.iaload, 1) := by decide +kernel
theorem dL_law_162 : decode cL_law 162 = .ok (.invokevirtual 15, 3) := by decide +kernel
theorem dL_law_165 : decode cL_law 165 = .ok (.aload_n 2, 1) := by decide +kernel
theorem dL_law_166 : decode cL_law 166 = .ok (.aload_n 0, 1) := by decide +kernel
theorem dL_law_167 : decode cL_law 167 = .ok (.iload_n 3, 1) := by decide +kernel
theorem dL_law_168 : decode cL_law 168 = .ok (.iconst 1, 1) := by decide +kernel
theorem dL_law_169 : decode cL_law 169 = .ok (.iadd, 1) := by decide +kernel
theorem dL_law_170 : decode cL_law 170 = .ok (.iaload, 1) := by decide +kernel
theorem dL_law_171 : decode cL_law 171 = .ok (.i2l, 1) := by decide +kernel
theorem dL_law_172 : decode cL_law 172 = .ok (.bipush 32, 2) := by decide +kernel
theorem dL_law_174 : decode cL_law 174 = .ok (.lshl, 1) := by decide +kernel
theorem dL_law_175 : decode cL_law 175 = .ok (.aload_n 0, 1) := by decide +kernel
theorem dL_law_176 : decode cL_law 176 = .ok (.iload_n 3, 1) := by decide +kernel
theorem dL_law_177 : decode cL_law 177 = .ok (.iconst 2, 1) := by decide +kernel
theorem dL_law_178 : decode cL_law 178 = .ok (.iadd, 1) := by decide +kernel
theorem dL_law_179 : decode cL_law 179 = .ok (.iaload, 1) := by decide +kernel
theorem dL_law_180 : decode cL_law 180 = .ok (.i2l, 1) := by decide +kernel
theorem dL_law_181 : decode cL_law 181 = .ok (.ldc2_w 13, 3) := by decide +kernel
theorem dL_law_184 : decode cL_law 184 = .ok (.land, 1) := by decide +kernel
theorem dL_law_185 : decode cL_law 185 = .ok (.lor, 1) := by decide +kernel
theorem dL_law_186 : decode cL_law 186 = .ok (.aload_n 0, 1) := by decide +kernel
theorem dL_law_187 : decode cL_law 187 = .ok (.iload_n 3, 1) := by decide +kernel
theorem dL_law_188 : decode cL_law 188 = .ok (.iconst 3, 1) := by decide +kernel
theorem dL_law_189 : decode cL_law 189 = .ok (.iadd, 1) := by decide +kernel
theorem dL_law_190 : decode cL_law 190 = .ok (.iaload, 1) := by decide +kernel
theorem dL_law_191 : decode cL_law 191 = .ok (.invokevirtual 19, 3) := by decide +kernel
theorem dL_law_194 : decode cL_law 194 = .ok (.if_icmp .eq 509, 3) := by decide +kernel
theorem dL_law_199 : decode cL_law 199 = .ok (.aload_n 1, 1) := by decide +kernel
theorem dL_law_200 : decode cL_law 200 = .ok (.aload_n 0, 1) := by decide +kernel
theorem dL_law_201 : decode cL_law 201 = .ok (.iload_n 3, 1) := by decide +kernel
theorem dL_law_202 : decode cL_law 202 = .ok (.iconst 1, 1) := by decide +kernel
theorem dL_law_203 : decode cL_law 203 = .ok (.iadd, 1) := by decide +kernel
theorem dL_law_204 : decode cL_law 204 = .ok (.iaload, 1) := by decide +kernel
theorem dL_law_205 : decode cL_law 205 = .ok (.invokevirtual 20, 3) := by decide +kernel
theorem dL_law_208 : decode cL_law 208 = .ok (.aload_n 2, 1) := by decide +kernel
theorem dL_law_209 : decode cL_law 209 = .ok (.aload_n 0, 1) := by decide +kernel
theorem dL_law_210 : decode cL_law 210 = .ok (.iload_n 3, 1) := by decide +kernel
theorem dL_law_211 : decode cL_law 211 = .ok (.iconst 1, 1) := by decide +kernel
theorem dL_law_212 : decode cL_law 212 = .ok (.iadd, 1) := by decide +kernel
theorem dL_law_213 : decode cL_law 213 = .ok (.iaload, 1) := by decide +kernel
theorem dL_law_214 : decode cL_law 214 = .ok (.invokevirtual 24, 3) := by decide +kernel
theorem dL_law_217 : decode cL_law 217 = .ok (.if_icmp .eq 486, 3) := by decide +kernel
theorem dL_law_222 : decode cL_law 222 = .ok (.aload_n 1, 1) := by decide +kernel
theorem dL_law_223 : decode cL_law 223 = .ok (.invokevirtual 25, 3) := by decide +kernel
theorem dL_law_226 : decode cL_law 226 = .ok (.aload_n 2, 1) := by decide +kernel
theorem dL_law_227 : decode cL_law 227 = .ok (.invokevirtual 29, 3) := by decide +kernel
theorem dL_law_230 : decode cL_law 230 = .ok (.if_icmp .eq 473, 3) := by decide +kernel
theorem dL_law_235 : decode cL_law 235 = .ok (.aload_n 1, 1) := by decide +kernel
theorem dL_law_236 : decode cL_law 236 = .ok (.aload_n 0, 1) := by decide +kernel
theorem dL_law_237 : decode cL_law 237 = .ok (.iload_n 3, 1) := by decide +kernel
theorem dL_law_238 : decode cL_law 238 = .ok (.iconst 1, 1) := by decide +kernel
theorem dL_law_239 : decode cL_law 239 = .ok (.iadd, 1) := by decide +kernel
theorem dL_law_240 : decode cL_law 240 = .ok (.iaload, 1) := by decide +kernel
theorem dL_law_241 : decode cL_law 241 = .ok (.invokevirtual 30, 3) := by decide +kernel
theorem dL_law_244 : decode cL_law 244 = .ok (.aload_n 2, 1) := by decide +kernel
theorem dL_law_245 : decode cL_law 245 = .ok (.aload_n 0, 1) := by decide +kernel
theorem dL_law_246 : decode cL_law 246 = .ok (.iload_n 3, 1) := by decide +kernel
theorem dL_law_247 : decode cL_law 247 = .ok (.iconst 1, 1) := by decide +kernel
theorem dL_law_248 : decode cL_law 248 = .ok (.iadd, 1) := by decide +kernel
theorem dL_law_249 : decode cL_law 249 = .ok (.iaload, 1) := by decide +kernel
theorem dL_law_250 : decode cL_law 250 = .ok (.invokevirtual 33, 3) := by decide +kernel
theorem dL_law_253 : decode cL_law 253 = .ok (.if_icmp .eq 450, 3) := by decide +kernel
theorem dL_law_258 : decode cL_law 258 = .ok (.aload_n 1, 1) := by decide +kernel
theorem dL_law_259 : decode cL_law 259 = .ok (.aload_n 0, 1) := by decide +kernel
theorem dL_law_260 : decode cL_law 260 = .ok (.iload_n 3, 1) := by decide +kernel
theorem dL_law_261 : decode cL_law 261 = .ok (.iconst 1, 1) := by decide +kernel
theorem dL_law_262 : decode cL_law 262 = .ok (.iadd, 1) := by decide +kernel
theorem dL_law_263 : decode cL_law 263 = .ok (.iaload, 1) := by decide +kernel
theorem dL_law_264 : decode cL_law 264 = .ok (.aload_n 0, 1) := by decide +kernel
theorem dL_law_265 : decode cL_law 265 = .ok (.iload_n 3, 1) := by decide +kernel
theorem dL_law_266 : decode cL_law 266 = .ok (.iconst 2, 1) := by decide +kernel
theorem dL_law_267 : decode cL_law 267 = .ok (.iadd, 1) := by decide +kernel
theorem dL_law_268 : decode cL_law 268 = .ok (.iaload, 1) := by decide +kernel
theorem dL_law_269 : decode cL_law 269 = .ok (.invokevirtual 34, 3) := by decide +kernel
theorem dL_law_272 : decode cL_law 272 = .ok (.aload_n 2, 1) := by decide +kernel
theorem dL_law_273 : decode cL_law 273 = .ok (.aload_n 0, 1) := by decide +kernel
theorem dL_law_274 : decode cL_law 274 = .ok (.iload_n 3, 1) := by decide +kernel
theorem dL_law_275 : decode cL_law 275 = .ok (.iconst 1, 1) := by decide +kernel
theorem dL_law_276 : decode cL_law 276 = .ok (.iadd, 1) := by decide +kernel
theorem dL_law_277 : decode cL_law 277 = .ok (.iaload, 1) := by decide +kernel
theorem dL_law_278 : decode cL_law 278 = .ok (.aload_n 0, 1) := by decide +kernel
theorem dL_law_279 : decode cL_law 279 = .ok (.iload_n 3, 1) := by decide +kernel
theorem dL_law_280 : decode cL_law 280 = .ok (.iconst 2, 1) := by decide +kernel
theorem dL_law_281 : decode cL_law 281 = .ok (.iadd, 1) := by decide +kernel
theorem dL_law_282 : decode cL_law 282 = .ok (.iaload, 1) := by decide +kernel
theorem dL_law_283 : decode cL_law 283 = .ok (.invokevirtual 38, 3) := by decide +kernel
theorem dL_law_286 : decode cL_law 286 = .ok (.if_icmp .eq 417, 3) := by decide +kernel
theorem dL_law_291 : decode cL_law 291 = .ok (.aload_n 1, 1) := by decide +kernel
theorem dL_law_292 : decode cL_law 292 = .ok (.aload_n 0, 1) := by decide +kernel
theorem dL_law_293 : decode cL_law 293 = .ok (.iload_n 3, 1) := by decide +kernel
theorem dL_law_294 : decode cL_law 294 = .ok (.iconst 1, 1) := by decide +kernel
theorem dL_law_295 : decode cL_law 295 = .ok (.iadd, 1) := by decide +kernel
theorem dL_law_296 : decode cL_law 296 = .ok (.iaload, 1) := by decide +kernel
theorem dL_law_297 : decode cL_law 297 = .ok (.aload_n 0, 1) := by decide +kernel
theorem dL_law_298 : decode cL_law 298 = .ok (.iload_n 3, 1) := by decide +kernel
theorem dL_law_299 : decode cL_law 299 = .ok (.iconst 2, 1) := by decide +kernel
theorem dL_law_300 : decode cL_law 300 = .ok (.iadd, 1) := by decide +kernel
theorem dL_law_301 : decode cL_law 301 = .ok (.iaload, 1) := by decide +kernel
theorem dL_law_302 : decode cL_law 302 = .ok (.aload_n 0, 1) := by decide +kernel
theorem dL_law_303 : decode cL_law 303 = .ok (.iload_n 3, 1) := by decide +kernel
theorem dL_law_304 : decode cL_law 304 = .ok (.iconst 3, 1) := by decide +kernel
theorem dL_law_305 : decode cL_law 305 = .ok (.iadd, 1) := by decide +kernel
theorem dL_law_306 : decode cL_law 306 = .ok (.iaload, 1) := by decide +kernel
theorem dL_law_307 : decode cL_law 307 = .ok (.invokevirtual 39, 3) := by decide +kernel
theorem dL_law_310 : decode cL_law 310 = .ok (.aload_n 2, 1) := by decide +kernel
theorem dL_law_311 : decode cL_law 311 = .ok (.aload_n 0, 1) := by decide +kernel
theorem dL_law_312 : decode cL_law 312 = .ok (.iload_n 3, 1) := by decide +kernel
theorem dL_law_313 : decode cL_law 313 = .ok (.iconst 1, 1) := by decide +kernel
theorem dL_law_314 : decode cL_law 314 = .ok (.iadd, 1) := by decide +kernel
theorem dL_law_315 : decode cL_law 315 = .ok (.iaload, 1) := by decide +kernel
theorem dL_law_316 : decode cL_law 316 = .ok (.aload_n 0, 1) := by decide +kernel
theorem dL_law_317 : decode cL_law 317 = .ok (.iload_n 3, 1) := by decide +kernel
theorem dL_law_318 : decode cL_law 318 = .ok (.iconst 2, 1) := by decide +kernel
theorem dL_law_319 : decode cL_law 319 = .ok (.iadd, 1) := by decide +kernel
theorem dL_law_320 : decode cL_law 320 = .ok (.iaload, 1) := by decide +kernel
theorem dL_law_321 : decode cL_law 321 = .ok (.aload_n 0, 1) := by decide +kernel
theorem dL_law_322 : decode cL_law 322 = .ok (.iload_n 3, 1) := by decide +kernel
theorem dL_law_323 : decode cL_law 323 = .ok (.iconst 3, 1) := by decide +kernel
theorem dL_law_324 : decode cL_law 324 = .ok (.iadd, 1) := by decide +kernel
theorem dL_law_325 : decode cL_law 325 = .ok (.iaload, 1) := by decide +kernel
theorem dL_law_326 : decode cL_law 326 = .ok (.invokevirtual 43, 3) := by decide +kernel
theorem dL_law_329 : decode cL_law 329 = .ok (.if_icmp .eq 374, 3) := by decide +kernel
theorem dL_law_334 : decode cL_law 334 = .ok (.aload_n 1, 1) := by decide +kernel
theorem dL_law_335 : decode cL_law 335 = .ok (.invokevirtual 44, 3) := by decide +kernel
theorem dL_law_338 : decode cL_law 338 = .ok (.aload_n 2, 1) := by decide +kernel
theorem dL_law_339 : decode cL_law 339 = .ok (.invokevirtual 47, 3) := by decide +kernel
theorem dL_law_342 : decode cL_law 342 = .ok (.if_icmp .eq 361, 3) := by decide +kernel
theorem dL_law_347 : decode cL_law 347 = .ok (.aload_n 1, 1) := by decide +kernel
theorem dL_law_348 : decode cL_law 348 = .ok (.invokevirtual 48, 3) := by decide +kernel
theorem dL_law_351 : decode cL_law 351 = .ok (.aload_n 2, 1) := by decide +kernel
theorem dL_law_352 : decode cL_law 352 = .ok (.invokevirtual 51, 3) := by decide +kernel
theorem dL_law_355 : decode cL_law 355 = .ok (.if_icmp .eq 348, 3) := by decide +kernel
theorem dL_law_360 : decode cL_law 360 = .ok (.aload_n 1, 1) := by decide +kernel
theorem dL_law_361 : decode cL_law 361 = .ok (.aload_n 0, 1) := by decide +kernel
theorem dL_law_362 : decode cL_law 362 = .ok (.iload_n 3, 1) := by decide +kernel
theorem dL_law_363 : decode cL_law 363 = .ok (.iconst 1, 1) := by decide +kernel
theorem dL_law_364 : decode cL_law 364 = .ok (.iadd, 1) := by decide +kernel
theorem dL_law_365 : decode cL_law 365 = .ok (.iaload, 1) := by decide +kernel
theorem dL_law_366 : decode cL_law 366 = .ok (.aload_n 0, 1) := by decide +kernel
theorem dL_law_367 : decode cL_law 367 = .ok (.iload_n 3, 1) := by decide +kernel
theorem dL_law_368 : decode cL_law 368 = .ok (.iconst 2, 1) := by decide +kernel
theorem dL_law_369 : decode cL_law 369 = .ok (.iadd, 1) := by decide +kernel
theorem dL_law_370 : decode cL_law 370 = .ok (.iaload, 1) := by decide +kernel
theorem dL_law_371 : decode cL_law 371 = .ok (.invokevirtual 52, 3) := by decide +kernel
theorem dL_law_374 : decode cL_law 374 = .ok (.aload_n 2, 1) := by decide +kernel
theorem dL_law_375 : decode cL_law 375 = .ok (.aload_n 0, 1) := by decide +kernel
theorem dL_law_376 : decode cL_law 376 = .ok (.iload_n 3, 1) := by decide +kernel
theorem dL_law_377 : decode cL_law 377 = .ok (.iconst 1, 1) := by decide +kernel
theorem dL_law_378 : decode cL_law 378 = .ok (.iadd, 1) := by decide +kernel
theorem dL_law_379 : decode cL_law 379 = .ok (.iaload, 1) := by decide +kernel
theorem dL_law_380 : decode cL_law 380 = .ok (.aload_n 0, 1) := by decide +kernel
theorem dL_law_381 : decode cL_law 381 = .ok (.iload_n 3, 1) := by decide +kernel
theorem dL_law_382 : decode cL_law 382 = .ok (.iconst 2, 1) := by decide +kernel
theorem dL_law_383 : decode cL_law 383 = .ok (.iadd, 1) := by decide +kernel
theorem dL_law_384 : decode cL_law 384 = .ok (.iaload, 1) := by decide +kernel
theorem dL_law_385 : decode cL_law 385 = .ok (.invokevirtual 55, 3) := by decide +kernel
theorem dL_law_388 : decode cL_law 388 = .ok (.if_icmp .eq 315, 3) := by decide +kernel
theorem dL_law_393 : decode cL_law 393 = .ok (.aload_n 1, 1) := by decide +kernel
theorem dL_law_394 : decode cL_law 394 = .ok (.invokevirtual 56, 3) := by decide +kernel
theorem dL_law_397 : decode cL_law 397 = .ok (.aload_n 2, 1) := by decide +kernel
theorem dL_law_398 : decode cL_law 398 = .ok (.invokevirtual 59, 3) := by decide +kernel
theorem dL_law_401 : decode cL_law 401 = .ok (.if_icmp .eq 302, 3) := by decide +kernel
theorem dL_law_406 : decode cL_law 406 = .ok (.aload_n 1, 1) := by decide +kernel
theorem dL_law_407 : decode cL_law 407 = .ok (.aload_n 0, 1) := by decide +kernel
theorem dL_law_408 : decode cL_law 408 = .ok (.iload_n 3, 1) := by decide +kernel
theorem dL_law_409 : decode cL_law 409 = .ok (.iconst 1, 1) := by decide +kernel
theorem dL_law_410 : decode cL_law 410 = .ok (.iadd, 1) := by decide +kernel
theorem dL_law_411 : decode cL_law 411 = .ok (.iaload, 1) := by decide +kernel
theorem dL_law_412 : decode cL_law 412 = .ok (.invokevirtual 60, 3) := by decide +kernel
theorem dL_law_415 : decode cL_law 415 = .ok (.aload_n 2, 1) := by decide +kernel
theorem dL_law_416 : decode cL_law 416 = .ok (.aload_n 0, 1) := by decide +kernel
theorem dL_law_417 : decode cL_law 417 = .ok (.iload_n 3, 1) := by decide +kernel
theorem dL_law_418 : decode cL_law 418 = .ok (.iconst 1, 1) := by decide +kernel
theorem dL_law_419 : decode cL_law 419 = .ok (.iadd, 1) := by decide +kernel
theorem dL_law_420 : decode cL_law 420 = .ok (.iaload, 1) := by decide +kernel
theorem dL_law_421 : decode cL_law 421 = .ok (.invokevirtual 63, 3) := by decide +kernel
theorem dL_law_424 : decode cL_law 424 = .ok (.if_icmp .eq 279, 3) := by decide +kernel
theorem dL_law_429 : decode cL_law 429 = .ok (.aload_n 1, 1) := by decide +kernel
theorem dL_law_430 : decode cL_law 430 = .ok (.aload_n 0, 1) := by decide +kernel
theorem dL_law_431 : decode cL_law 431 = .ok (.iload_n 3, 1) := by decide +kernel
theorem dL_law_432 : decode cL_law 432 = .ok (.iconst 1, 1) := by decide +kernel
theorem dL_law_433 : decode cL_law 433 = .ok (.iadd, 1) := by decide +kernel
theorem dL_law_434 : decode cL_law 434 = .ok (.iaload, 1) := by decide +kernel
theorem dL_law_435 : decode cL_law 435 = .ok (.aload_n 0, 1) := by decide +kernel
theorem dL_law_436 : decode cL_law 436 = .ok (.iload_n 3, 1) := by decide +kernel
theorem dL_law_437 : decode cL_law 437 = .ok (.iconst 2, 1) := by decide +kernel
theorem dL_law_438 : decode cL_law 438 = .ok (.iadd, 1) := by decide +kernel
theorem dL_law_439 : decode cL_law 439 = .ok (.iaload, 1) := by decide +kernel
theorem dL_law_440 : decode cL_law 440 = .ok (.invokevirtual 64, 3) := by decide +kernel
theorem dL_law_443 : decode cL_law 443 = .ok (.aload_n 2, 1) := by decide +kernel
theorem dL_law_444 : decode cL_law 444 = .ok (.aload_n 0, 1) := by decide +kernel
theorem dL_law_445 : decode cL_law 445 = .ok (.iload_n 3, 1) := by decide +kernel
theorem dL_law_446 : decode cL_law 446 = .ok (.iconst 1, 1) := by decide +kernel
theorem dL_law_447 : decode cL_law 447 = .ok (.iadd, 1) := by decide +kernel
theorem dL_law_448 : decode cL_law 448 = .ok (.iaload, 1) := by decide +kernel
theorem dL_law_449 : decode cL_law 449 = .ok (.aload_n 0, 1) := by decide +kernel
theorem dL_law_450 : decode cL_law 450 = .ok (.iload_n 3, 1) := by decide +kernel
theorem dL_law_451 : decode cL_law 451 = .ok (.iconst 2, 1) := by decide +kernel
theorem dL_law_452 : decode cL_law 452 = .ok (.iadd, 1) := by decide +kernel
theorem dL_law_453 : decode cL_law 453 = .ok (.iaload, 1) := by decide +kernel
theorem dL_law_454 : decode cL_law 454 = .ok (.invokevirtual 67, 3) := by decide +kernel
theorem dL_law_457 : decode cL_law 457 = .ok (.if_icmp .eq 246, 3) := by decide +kernel
theorem dL_law_462 : decode cL_law 462 = .ok (.aload_n 1, 1) := by decide +kernel
theorem dL_law_463 : decode cL_law 463 = .ok (.aload_n 0, 1) := by decide +kernel
theorem dL_law_464 : decode cL_law 464 = .ok (.iload_n 3, 1) := by decide +kernel
theorem dL_law_465 : decode cL_law 465 = .ok (.iconst 1, 1) := by decide +kernel
theorem dL_law_466 : decode cL_law 466 = .ok (.iadd, 1) := by decide +kernel
theorem dL_law_467 : decode cL_law 467 = .ok (.iaload, 1) := by decide +kernel
theorem dL_law_468 : decode cL_law 468 = .ok (.invokevirtual 68, 3) := by decide +kernel
theorem dL_law_471 : decode cL_law 471 = .ok (.aload_n 2, 1) := by decide +kernel
theorem dL_law_472 : decode cL_law 472 = .ok (.aload_n 0, 1) := by decide +kernel
theorem dL_law_473 : decode cL_law 473 = .ok (.iload_n 3, 1) := by decide +kernel
theorem dL_law_474 : decode cL_law 474 = .ok (.iconst 1, 1) := by decide +kernel
theorem dL_law_475 : decode cL_law 475 = .ok (.iadd, 1) := by decide +kernel
theorem dL_law_476 : decode cL_law 476 = .ok (.iaload, 1) := by decide +kernel
theorem dL_law_477 : decode cL_law 477 = .ok (.invokevirtual 71, 3) := by decide +kernel
theorem dL_law_480 : decode cL_law 480 = .ok (.if_icmp .eq 223, 3) := by decide +kernel
theorem dL_law_485 : decode cL_law 485 = .ok (.aload_n 1, 1) := by decide +kernel
theorem dL_law_486 : decode cL_law 486 = .ok (.aload_n 0, 1) := by decide +kernel
theorem dL_law_487 : decode cL_law 487 = .ok (.iload_n 3, 1) := by decide +kernel
theorem dL_law_488 : decode cL_law 488 = .ok (.iconst 1, 1) := by decide +kernel
theorem dL_law_489 : decode cL_law 489 = .ok (.iadd, 1) := by decide +kernel
theorem dL_law_490 : decode cL_law 490 = .ok (.iaload, 1) := by decide +kernel
theorem dL_law_491 : decode cL_law 491 = .ok (.aload_n 0, 1) := by decide +kernel
theorem dL_law_492 : decode cL_law 492 = .ok (.iload_n 3, 1) := by decide +kernel
theorem dL_law_493 : decode cL_law 493 = .ok (.iconst 2, 1) := by decide +kernel
theorem dL_law_494 : decode cL_law 494 = .ok (.iadd, 1) := by decide +kernel
theorem dL_law_495 : decode cL_law 495 = .ok (.iaload, 1) := by decide +kernel
theorem dL_law_496 : decode cL_law 496 = .ok (.aload_n 0, 1) := by decide +kernel
theorem dL_law_497 : decode cL_law 497 = .ok (.iload_n 3, 1) := by decide +kernel
theorem dL_law_498 : decode cL_law 498 = .ok (.iconst 3, 1) := by decide +kernel
theorem dL_law_499 : decode cL_law 499 = .ok (.iadd, 1) := by decide +kernel
theorem dL_law_500 : decode cL_law 500 = .ok (.iaload, 1) := by decide +kernel
theorem dL_law_501 : decode cL_law 501 = .ok (.invokevirtual 72, 3) := by decide +kernel
theorem dL_law_504 : decode cL_law 504 = .ok (.aload_n 2, 1) := by decide +kernel
theorem dL_law_505 : decode cL_law 505 = .ok (.aload_n 0, 1) := by decide +kernel
theorem dL_law_506 : decode cL_law 506 = .ok (.iload_n 3, 1) := by decide +kernel
theorem dL_law_507 : decode cL_law 507 = .ok (.iconst 1, 1) := by decide +kernel
theorem dL_law_508 : decode cL_law 508 = .ok (.iadd, 1) := by decide +kernel
theorem dL_law_509 : decode cL_law 509 = .ok (.iaload, 1) := by decide +kernel
theorem dL_law_510 : decode cL_law 510 = .ok (.aload_n 0, 1) := by decide +kernel
theorem dL_law_511 : decode cL_law 511 = .ok (.iload_n 3, 1) := by decide +kernel
theorem dL_law_512 : decode cL_law 512 = .ok (.iconst 2, 1) := by decide +kernel
theorem dL_law_513 : decode cL_law 513 = .ok (.iadd, 1) := by decide +kernel
theorem dL_law_514 : decode cL_law 514 = .ok (.iaload, 1) := by decide +kernel
theorem dL_law_515 : decode cL_law 515 = .ok (.aload_n 0, 1) := by decide +kernel
theorem dL_law_516 : decode cL_law 516 = .ok (.iload_n 3, 1) := by decide +kernel
theorem dL_law_517 : decode cL_law 517 = .ok (.iconst 3, 1) := by decide +kernel
theorem dL_law_518 : decode cL_law 518 = .ok (.iadd, 1) := by decide +kernel
theorem dL_law_519 : decode cL_law 519 = .ok (.iaload, 1) := by decide +kernel
theorem dL_law_520 : decode cL_law 520 = .ok (.invokevirtual 75, 3) := by decide +kernel
theorem dL_law_523 : decode cL_law 523 = .ok (.if_icmp .eq 180, 3) := by decide +kernel
theorem dL_law_528 : decode cL_law 528 = .ok (.aload_n 1, 1) := by decide +kernel
theorem dL_law_529 : decode cL_law 529 = .ok (.aload_n 0, 1) := by decide +kernel
theorem dL_law_530 : decode cL_law 530 = .ok (.iload_n 3, 1) := by decide +kernel
theorem dL_law_531 : decode cL_law 531 = .ok (.iconst 1, 1) := by decide +kernel
theorem dL_law_532 : decode cL_law 532 = .ok (.iadd, 1) := by decide +kernel
theorem dL_law_533 : decode cL_law 533 = .ok (.iaload, 1) := by decide +kernel
theorem dL_law_534 : decode cL_law 534 = .ok (.invokevirtual 76, 3) := by decide +kernel
theorem dL_law_537 : decode cL_law 537 = .ok (.aload_n 2, 1) := by decide +kernel
theorem dL_law_538 : decode cL_law 538 = .ok (.aload_n 0, 1) := by decide +kernel
theorem dL_law_539 : decode cL_law 539 = .ok (.iload_n 3, 1) := by decide +kernel
theorem dL_law_540 : decode cL_law 540 = .ok (.iconst 1, 1) := by decide +kernel
theorem dL_law_541 : decode cL_law 541 = .ok (.iadd, 1) := by decide +kernel
theorem dL_law_542 : decode cL_law 542 = .ok (.iaload, 1) := by decide +kernel
theorem dL_law_543 : decode cL_law 543 = .ok (.invokevirtual 79, 3) := by decide +kernel
theorem dL_law_546 : decode cL_law 546 = .ok (.if_icmp .eq 157, 3) := by decide +kernel
theorem dL_law_551 : decode cL_law 551 = .ok (.aload_n 1, 1) := by decide +kernel
theorem dL_law_552 : decode cL_law 552 = .ok (.invokevirtual 80, 3) := by decide +kernel
theorem dL_law_555 : decode cL_law 555 = .ok (.aload_n 2, 1) := by decide +kernel
theorem dL_law_556 : decode cL_law 556 = .ok (.invokevirtual 83, 3) := by decide +kernel
theorem dL_law_559 : decode cL_law 559 = .ok (.if_icmp .eq 144, 3) := by decide +kernel
theorem dL_law_564 : decode cL_law 564 = .ok (.aload_n 1, 1) := by decide +kernel
theorem dL_law_565 : decode cL_law 565 = .ok (.invokevirtual 84, 3) := by decide +kernel
theorem dL_law_568 : decode cL_law 568 = .ok (.aload_n 2, 1) := by decide +kernel
theorem dL_law_569 : decode cL_law 569 = .ok (.invokevirtual 87, 3) := by decide +kernel
theorem dL_law_572 : decode cL_law 572 = .ok (.if_icmp .eq 131, 3) := by decide +kernel
theorem dL_law_577 : decode cL_law 577 = .ok (.aload_n 1, 1) := by decide +kernel
theorem dL_law_578 : decode cL_law 578 = .ok (.aload_n 0, 1) := by decide +kernel
theorem dL_law_579 : decode cL_law 579 = .ok (.iload_n 3, 1) := by decide +kernel
theorem dL_law_580 : decode cL_law 580 = .ok (.iconst 1, 1) := by decide +kernel
theorem dL_law_581 : decode cL_law 581 = .ok (.iadd, 1) := by decide +kernel
theorem dL_law_582 : decode cL_law 582 = .ok (.iaload, 1) := by decide +kernel
theorem dL_law_583 : decode cL_law 583 = .ok (.aload_n 0, 1) := by decide +kernel
theorem dL_law_584 : decode cL_law 584 = .ok (.iload_n 3, 1) := by decide +kernel
theorem dL_law_585 : decode cL_law 585 = .ok (.iconst 2, 1) := by decide +kernel
theorem dL_law_586 : decode cL_law 586 = .ok (.iadd, 1) := by decide +kernel
theorem dL_law_587 : decode cL_law 587 = .ok (.iaload, 1) := by decide +kernel
theorem dL_law_588 : decode cL_law 588 = .ok (.invokevirtual 88, 3) := by decide +kernel
theorem dL_law_591 : decode cL_law 591 = .ok (.aload_n 2, 1) := by decide +kernel
theorem dL_law_592 : decode cL_law 592 = .ok (.aload_n 0, 1) := by decide +kernel
theorem dL_law_593 : decode cL_law 593 = .ok (.iload_n 3, 1) := by decide +kernel
theorem dL_law_594 : decode cL_law 594 = .ok (.iconst 1, 1) := by decide +kernel
theorem dL_law_595 : decode cL_law 595 = .ok (.iadd, 1) := by decide +kernel
theorem dL_law_596 : decode cL_law 596 = .ok (.iaload, 1) := by decide +kernel
theorem dL_law_597 : decode cL_law 597 = .ok (.aload_n 0, 1) := by decide +kernel
theorem dL_law_598 : decode cL_law 598 = .ok (.iload_n 3, 1) := by decide +kernel
theorem dL_law_599 : decode cL_law 599 = .ok (.iconst 2, 1) := by decide +kernel
theorem dL_law_600 : decode cL_law 600 = .ok (.iadd, 1) := by decide +kernel
theorem dL_law_601 : decode cL_law 601 = .ok (.iaload, 1) := by decide +kernel
theorem dL_law_602 : decode cL_law 602 = .ok (.invokevirtual 91, 3) := by decide +kernel
theorem dL_law_605 : decode cL_law 605 = .ok (.if_icmp .eq 98, 3) := by decide +kernel
theorem dL_law_610 : decode cL_law 610 = .ok (.aload_n 1, 1) := by decide +kernel
theorem dL_law_611 : decode cL_law 611 = .ok (.aload_n 0, 1) := by decide +kernel
theorem dL_law_612 : decode cL_law 612 = .ok (.iload_n 3, 1) := by decide +kernel
theorem dL_law_613 : decode cL_law 613 = .ok (.iconst 1, 1) := by decide +kernel
theorem dL_law_614 : decode cL_law 614 = .ok (.iadd, 1) := by decide +kernel
theorem dL_law_615 : decode cL_law 615 = .ok (.iaload, 1) := by decide +kernel
theorem dL_law_616 : decode cL_law 616 = .ok (.aload_n 0, 1) := by decide +kernel
theorem dL_law_617 : decode cL_law 617 = .ok (.iload_n 3, 1) := by decide +kernel
theorem dL_law_618 : decode cL_law 618 = .ok (.iconst 2, 1) := by decide +kernel
theorem dL_law_619 : decode cL_law 619 = .ok (.iadd, 1) := by decide +kernel
theorem dL_law_620 : decode cL_law 620 = .ok (.iaload, 1) := by decide +kernel
theorem dL_law_621 : decode cL_law 621 = .ok (.invokevirtual 92, 3) := by decide +kernel
theorem dL_law_624 : decode cL_law 624 = .ok (.aload_n 2, 1) := by decide +kernel
theorem dL_law_625 : decode cL_law 625 = .ok (.aload_n 0, 1) := by decide +kernel
theorem dL_law_626 : decode cL_law 626 = .ok (.iload_n 3, 1) := by decide +kernel
theorem dL_law_627 : decode cL_law 627 = .ok (.iconst 1, 1) := by decide +kernel
theorem dL_law_628 : decode cL_law 628 = .ok (.iadd, 1) := by decide +kernel
theorem dL_law_629 : decode cL_law 629 = .ok (.iaload, 1) := by decide +kernel
theorem dL_law_630 : decode cL_law 630 = .ok (.aload_n 0, 1) := by decide +kernel
theorem dL_law_631 : decode cL_law 631 = .ok (.iload_n 3, 1) := by decide +kernel
theorem dL_law_632 : decode cL_law 632 = .ok (.iconst 2, 1) := by decide +kernel
theorem dL_law_633 : decode cL_law 633 = .ok (.iadd, 1) := by decide +kernel
theorem dL_law_634 : decode cL_law 634 = .ok (.iaload, 1) := by decide +kernel
theorem dL_law_635 : decode cL_law 635 = .ok (.invokevirtual 95, 3) := by decide +kernel
theorem dL_law_638 : decode cL_law 638 = .ok (.if_icmp .eq 65, 3) := by decide +kernel
theorem dL_law_643 : decode cL_law 643 = .ok (.aload_n 1, 1) := by decide +kernel
theorem dL_law_644 : decode cL_law 644 = .ok (.aload_n 0, 1) := by decide +kernel
theorem dL_law_645 : decode cL_law 645 = .ok (.iload_n 3, 1) := by decide +kernel
theorem dL_law_646 : decode cL_law 646 = .ok (.iconst 1, 1) := by decide +kernel
theorem dL_law_647 : decode cL_law 647 = .ok (.iadd, 1) := by decide +kernel
theorem dL_law_648 : decode cL_law 648 = .ok (.iaload, 1) := by decide +kernel
theorem dL_law_649 : decode cL_law 649 = .ok (.invokevirtual 96, 3) := by decide +kernel
theorem dL_law_652 : decode cL_law 652 = .ok (.aload_n 2, 1) := by decide +kernel
theorem dL_law_653 : decode cL_law 653 = .ok (.aload_n 0, 1) := by decide +kernel
theorem dL_law_654 : decode cL_law 654 = .ok (.iload_n 3, 1) := by decide +kernel
theorem dL_law_655 : decode cL_law 655 = .ok (.iconst 1, 1) := by decide +kernel
theorem dL_law_656 : decode cL_law 656 = .ok (.iadd, 1) := by decide +kernel
theorem dL_law_657 : decode cL_law 657 = .ok (.iaload, 1) := by decide +kernel
theorem dL_law_658 : decode cL_law 658 = .ok (.invokevirtual 99, 3) := by decide +kernel
theorem dL_law_661 : decode cL_law 661 = .ok (.if_icmp .eq 42, 3) := by decide +kernel
theorem dL_law_666 : decode cL_law 666 = .ok (.aload_n 1, 1) := by decide +kernel
theorem dL_law_667 : decode cL_law 667 = .ok (.aload_n 0, 1) := by decide +kernel
theorem dL_law_668 : decode cL_law 668 = .ok (.iload_n 3, 1) := by decide +kernel
theorem dL_law_669 : decode cL_law 669 = .ok (.iconst 1, 1) := by decide +kernel
theorem dL_law_670 : decode cL_law 670 = .ok (.iadd, 1) := by decide +kernel
theorem dL_law_671 : decode cL_law 671 = .ok (.iaload, 1) := by decide +kernel
theorem dL_law_672 : decode cL_law 672 = .ok (.invokevirtual 100, 3) := by decide +kernel
theorem dL_law_675 : decode cL_law 675 = .ok (.aload_n 2, 1) := by decide +kernel
theorem dL_law_676 : decode cL_law 676 = .ok (.aload_n 0, 1) := by decide +kernel
theorem dL_law_677 : decode cL_law 677 = .ok (.iload_n 3, 1) := by decide +kernel
theorem dL_law_678 : decode cL_law 678 = .ok (.iconst 1, 1) := by decide +kernel
theorem dL_law_679 : decode cL_law 679 = .ok (.iadd, 1) := by decide +kernel
theorem dL_law_680 : decode cL_law 680 = .ok (.iaload, 1) := by decide +kernel
theorem dL_law_681 : decode cL_law 681 = .ok (.invokevirtual 103, 3) := by decide +kernel
theorem dL_law_684 : decode cL_law 684 = .ok (.if_icmp .eq 19, 3) := by decide +kernel
theorem dL_law_689 : decode cL_law 689 = .ok (.aload_n 1, 1) := by decide +kernel
theorem dL_law_690 : decode cL_law 690 = .ok (.invokevirtual 104, 3) := by decide +kernel
theorem dL_law_693 : decode cL_law 693 = .ok (.aload_n 2, 1) := by decide +kernel
theorem dL_law_694 : decode cL_law 694 = .ok (.invokevirtual 108, 3) := by decide +kernel
theorem dL_law_697 : decode cL_law 697 = .ok (.lcmp, 1) := by decide +kernel
theorem dL_law_698 : decode cL_law 698 = .ok (.ifCond .eq 5, 3) := by decide +kernel
theorem dL_law_703 : decode cL_law 703 = .ok (.iinc 3 4, 3) := by decide +kernel
theorem dL_law_706 : decode cL_law 706 = .ok (.goto (-688), 3) := by decide +kernel
theorem dL_law_18 : decode cL_law 18 = .ok (.iload_n 3, 1) := by decide +kernel
theorem dL_law_19 : decode cL_law 19 = .ok (.aload_n 0, 1) := by decide +kernel
theorem dL_law_20 : decode cL_law 20 = .ok (.arraylength, 1) := by decide +kernel
theorem dL_law_21 : decode cL_law 21 = .ok (.iconst 4, 1) := by decide +kernel
theorem dL_law_22 : decode cL_law 22 = .ok (.isub, 1) := by decide +kernel
theorem dL_law_23 : decode cL_law 23 = .ok (.if_icmp .gt 686, 3) := by decide +kernel
theorem dL_law_709 : decode cL_law 709 = .ok (.iconst 1, 1) := by decide +kernel
theorem dL_law_710 : decode cL_law 710 = .ok (.ireturn, 1) := by decide +kernel
theorem dL_law_0 : decode cL_law 0 = .ok (.new 7, 3) := by decide +kernel
theorem dL_law_3 : decode cL_law 3 = .ok (.dup, 1) := by decide +kernel
theorem dL_law_4 : decode cL_law 4 = .ok (.invokespecial 9, 3) := by decide +kernel
theorem dL_law_7 : decode cL_law 7 = .ok (.astore_n 1, 1) := by decide +kernel
theorem dL_law_8 : decode cL_law 8 = .ok (.new 10, 3) := by decide +kernel
theorem dL_law_11 : decode cL_law 11 = .ok (.dup, 1) := by decide +kernel
theorem dL_law_12 : decode cL_law 12 = .ok (.invokespecial 12, 3) := by decide +kernel
theorem dL_law_15 : decode cL_law 15 = .ok (.astore_n 2, 1) := by decide +kernel
theorem dL_law_16 : decode cL_law 16 = .ok (.iconst 0, 1) := by decide +kernel
theorem dL_law_17 : decode cL_law 17 = .ok (.istore_n 3, 1) := by decide +kernel
theorem dL_law_26 : decode cL_law 26 = .ok (.aload_n 0, 1) := by decide +kernel
theorem dL_law_27 : decode cL_law 27 = .ok (.iload_n 3, 1) := by decide +kernel
theorem dL_law_28 : decode cL_law 28 = .ok (.iaload, 1) := by decide +kernel
theorem dL_law_29 : decode cL_law 29 = .ok (.bipush 31, 2) := by decide +kernel
theorem dL_law_31 : decode cL_law 31 = .ok (.iand, 1) := by decide +kernel
theorem dL_law_32 : decode cL_law 32 = .ok (.tableswitch 671 0 21 #[104, 167, 190, 203, 226, 259, 302, 315, 328, 361, 374, 397, 430, 453, 496, 519, 532, 545, 578, 611, 634, 657], 104) := by decide +kernel
theorem eq_feed {v1 : Int64} {v2 : Int32} {r1 r2 : Int32} {u1 u2 : wU} (h1 : (fun r u => (v2 < 1 ∧ r = (-2) ∧ u = ([], [])) ∨ (¬ v2 < 1 ∧ ¬ 8 < v2 ∧ (1200 - v2) < 0 ∧ r = (-4) ∧ u = ([], [])) ∨ (¬ v2 < 1 ∧ ¬ 8 < v2 ∧ ¬ (1200 - v2) < 0 ∧ r = (fd v1 v2) ∧ u = ([], [])) ∨ (¬ v2 < 1 ∧ 8 < v2 ∧ r = (-2) ∧ u = ([], []))) r1 u1) (h2 : (fun r u => (v2 < 1 ∧ r = (-2) ∧ u = ([], [])) ∨ (¬ v2 < 1 ∧ 8 < v2 ∧ r = (-2) ∧ u = ([], [])) ∨ (¬ v2 < 1 ∧ ¬ 8 < v2 ∧ ¬ (1200 - v2) < 0 ∧ r = (fd v1 v2) ∧ u = ([], [])) ∨ (¬ v2 < 1 ∧ ¬ 8 < v2 ∧ (1200 - v2) < 0 ∧ r = (-4) ∧ u = ([], []))) r2 u2) : r1 = r2 := by
  rcases h1 with ⟨a1, e1, -⟩ | ⟨a1, a2, a3, e1, -⟩ | ⟨a1, a2, a3, e1, -⟩ | ⟨a1, a2, e1, -⟩
  · rcases h2 with ⟨b1, e2, -⟩ | ⟨b1, b2, e2, -⟩ | ⟨b1, b2, b3, e2, -⟩ | ⟨b1, b2, b3, e2, -⟩
    · exact e1.trans e2.symm
    · exact absurd a1 b1
    · exact absurd a1 b1
    · exact absurd a1 b1
  · rcases h2 with ⟨b1, e2, -⟩ | ⟨b1, b2, e2, -⟩ | ⟨b1, b2, b3, e2, -⟩ | ⟨b1, b2, b3, e2, -⟩
    · exact absurd b1 a1
    · exact absurd b2 a2
    · exact absurd a3 b3
    · exact e1.trans e2.symm
  · rcases h2 with ⟨b1, e2, -⟩ | ⟨b1, b2, e2, -⟩ | ⟨b1, b2, b3, e2, -⟩ | ⟨b1, b2, b3, e2, -⟩
    · exact absurd b1 a1
    · exact absurd b2 a2
    · exact e1.trans e2.symm
    · exact absurd b3 a3
  · rcases h2 with ⟨b1, e2, -⟩ | ⟨b1, b2, e2, -⟩ | ⟨b1, b2, b3, e2, -⟩ | ⟨b1, b2, b3, e2, -⟩
    · exact absurd b1 a1
    · exact e1.trans e2.symm
    · exact absurd a2 b2
    · exact absurd a2 b2
theorem eq_cut {v1 : Int32} {r1 r2 : Int32} {u1 u2 : wU} (h1 : (fun r u => (v1 < 0 ∧ r = (-2) ∧ u = ([], [])) ∨ (¬ v1 < 0 ∧ ¬ 0 < v1 ∧ ¬ v1 < 0 ∧ r = (0 - v1) ∧ u = ([], [])) ∨ (¬ v1 < 0 ∧ 0 < v1 ∧ r = (-2) ∧ u = ([], []))) r1 u1) (h2 : (fun r u => (v1 < 0 ∧ r = (-2) ∧ u = ([], [])) ∨ (¬ v1 < 0 ∧ 0 < v1 ∧ r = (-2) ∧ u = ([], [])) ∨ (¬ v1 < 0 ∧ ¬ 0 < v1 ∧ r = (0 - v1) ∧ u = ([], []))) r2 u2) : r1 = r2 := by
  rcases h1 with ⟨a1, e1, -⟩ | ⟨a1, a2, a3, e1, -⟩ | ⟨a1, a2, e1, -⟩
  · rcases h2 with ⟨b1, e2, -⟩ | ⟨b1, b2, e2, -⟩ | ⟨b1, b2, e2, -⟩
    · exact e1.trans e2.symm
    · exact absurd a1 b1
    · exact absurd a1 b1
  · rcases h2 with ⟨b1, e2, -⟩ | ⟨b1, b2, e2, -⟩ | ⟨b1, b2, e2, -⟩
    · exact absurd b1 a3
    · exact absurd b2 a2
    · exact e1.trans e2.symm
  · rcases h2 with ⟨b1, e2, -⟩ | ⟨b1, b2, e2, -⟩ | ⟨b1, b2, e2, -⟩
    · exact absurd b1 a1
    · exact e1.trans e2.symm
    · exact absurd a2 b2
theorem eq_length {v1 : Int32} {r1 r2 : Int32} {u1 u2 : wU} (h1 : (fun r u => (v1 < 10 ∧ r = (-2) ∧ u = ([], [])) ∨ (¬ v1 < 10 ∧ ¬ 40 < v1 ∧ r = 20 ∧ u = ([], [])) ∨ (¬ v1 < 10 ∧ 40 < v1 ∧ r = (-2) ∧ u = ([], []))) r1 u1) (h2 : (fun r u => (v1 < 10 ∧ r = (-2) ∧ u = ([], [])) ∨ (¬ v1 < 10 ∧ 40 < v1 ∧ r = (-2) ∧ u = ([], [])) ∨ (¬ v1 < 10 ∧ ¬ 40 < v1 ∧ r = 20 ∧ u = ([], []))) r2 u2) : r1 = r2 := by
  rcases h1 with ⟨a1, e1, -⟩ | ⟨a1, a2, e1, -⟩ | ⟨a1, a2, e1, -⟩
  · rcases h2 with ⟨b1, e2, -⟩ | ⟨b1, b2, e2, -⟩ | ⟨b1, b2, e2, -⟩
    · exact e1.trans e2.symm
    · exact absurd a1 b1
    · exact absurd a1 b1
  · rcases h2 with ⟨b1, e2, -⟩ | ⟨b1, b2, e2, -⟩ | ⟨b1, b2, e2, -⟩
    · exact absurd b1 a1
    · exact absurd b2 a2
    · exact e1.trans e2.symm
  · rcases h2 with ⟨b1, e2, -⟩ | ⟨b1, b2, e2, -⟩ | ⟨b1, b2, e2, -⟩
    · exact absurd b1 a1
    · exact e1.trans e2.symm
    · exact absurd a2 b2
theorem eq_element {v1 : Int32} {v2 : Int32} {r1 r2 : Int32} {u1 u2 : wU} (h1 : (fun r u => (v1 < 0 ∧ r = (-2) ∧ u = ([], [])) ∨ (¬ v1 < 0 ∧ r = (-2) ∧ u = ([], []))) r1 u1) (h2 : (fun r u => (v1 < 0 ∧ r = (-2) ∧ u = ([], [])) ∨ (¬ v1 < 0 ∧ (-1) < v1 ∧ r = (-2) ∧ u = ([], []))) r2 u2) : r1 = r2 := by
  rcases h1 with ⟨a1, e1, -⟩ | ⟨a1, e1, -⟩
  · rcases h2 with ⟨b1, e2, -⟩ | ⟨b1, b2, e2, -⟩
    · exact e1.trans e2.symm
    · exact absurd a1 b1
  · rcases h2 with ⟨b1, e2, -⟩ | ⟨b1, b2, e2, -⟩
    · exact absurd b1 a1
    · exact e1.trans e2.symm
theorem eq_rowByte {v1 : Int32} {v2 : Int32} {v3 : Int32} {r1 r2 : Int32} {u1 u2 : wU} (h1 : (fun r u => (v1 < 0 ∧ r = (-2) ∧ u = ([], [])) ∨ (¬ v1 < 0 ∧ r = (-2) ∧ u = ([], []))) r1 u1) (h2 : (fun r u => (v1 < 0 ∧ r = (-2) ∧ u = ([], [])) ∨ (¬ v1 < 0 ∧ (-1) < v1 ∧ r = (-2) ∧ u = ([], []))) r2 u2) : r1 = r2 := by
  rcases h1 with ⟨a1, e1, -⟩ | ⟨a1, e1, -⟩
  · rcases h2 with ⟨b1, e2, -⟩ | ⟨b1, b2, e2, -⟩
    · exact e1.trans e2.symm
    · exact absurd a1 b1
  · rcases h2 with ⟨b1, e2, -⟩ | ⟨b1, b2, e2, -⟩
    · exact absurd b1 a1
    · exact e1.trans e2.symm
theorem eq_page {v1 : Int32} {v2 : Int32} {r1 r2 : Int32} {u1 u2 : wU} (h1 : (fun r u => (v2 < 0 ∧ r = (-2) ∧ u = ([], [])) ∨ (¬ v2 < 0 ∧ ¬ 6 < v2 ∧ v1 < 0 ∧ r = (-2) ∧ u = ([], [])) ∨ (¬ v2 < 0 ∧ ¬ 6 < v2 ∧ ¬ v1 < 0 ∧ r = (-2) ∧ u = ([], [])) ∨ (¬ v2 < 0 ∧ 6 < v2 ∧ r = (-2) ∧ u = ([], []))) r1 u1) (h2 : (fun r u => (v2 < 0 ∧ r = (-2) ∧ u = ([], [])) ∨ (¬ v2 < 0 ∧ 6 < v2 ∧ r = (-2) ∧ u = ([], [])) ∨ (¬ v2 < 0 ∧ ¬ 6 < v2 ∧ v1 < 0 ∧ r = (-2) ∧ u = ([], [])) ∨ (¬ v2 < 0 ∧ ¬ 6 < v2 ∧ ¬ v1 < 0 ∧ (-1) < v1 ∧ r = (-2) ∧ u = ([], []))) r2 u2) : r1 = r2 := by
  rcases h1 with ⟨a1, e1, -⟩ | ⟨a1, a2, a3, e1, -⟩ | ⟨a1, a2, a3, e1, -⟩ | ⟨a1, a2, e1, -⟩
  · rcases h2 with ⟨b1, e2, -⟩ | ⟨b1, b2, e2, -⟩ | ⟨b1, b2, b3, e2, -⟩ | ⟨b1, b2, b3, b4, e2, -⟩
    · exact e1.trans e2.symm
    · exact absurd a1 b1
    · exact absurd a1 b1
    · exact absurd a1 b1
  · rcases h2 with ⟨b1, e2, -⟩ | ⟨b1, b2, e2, -⟩ | ⟨b1, b2, b3, e2, -⟩ | ⟨b1, b2, b3, b4, e2, -⟩
    · exact absurd b1 a1
    · exact absurd b2 a2
    · exact e1.trans e2.symm
    · exact absurd a3 b3
  · rcases h2 with ⟨b1, e2, -⟩ | ⟨b1, b2, e2, -⟩ | ⟨b1, b2, b3, e2, -⟩ | ⟨b1, b2, b3, b4, e2, -⟩
    · exact absurd b1 a1
    · exact absurd b2 a2
    · exact absurd b3 a3
    · exact e1.trans e2.symm
  · rcases h2 with ⟨b1, e2, -⟩ | ⟨b1, b2, e2, -⟩ | ⟨b1, b2, b3, e2, -⟩ | ⟨b1, b2, b3, b4, e2, -⟩
    · exact absurd b1 a1
    · exact e1.trans e2.symm
    · exact absurd a2 b2
    · exact absurd a2 b2
theorem eq_strike {v1 : Int32} {r1 r2 : Int32} {u1 u2 : wU} (h1 : (fun r u => (v1 < 0 ∧ r = (-2) ∧ u = ([], [])) ∨ (¬ v1 < 0 ∧ r = (-2) ∧ u = ([], []))) r1 u1) (h2 : (fun r u => (v1 < 0 ∧ r = (-2) ∧ u = ([], [])) ∨ (¬ v1 < 0 ∧ (-1) < v1 ∧ r = (-2) ∧ u = ([], []))) r2 u2) : r1 = r2 := by
  rcases h1 with ⟨a1, e1, -⟩ | ⟨a1, e1, -⟩
  · rcases h2 with ⟨b1, e2, -⟩ | ⟨b1, b2, e2, -⟩
    · exact e1.trans e2.symm
    · exact absurd a1 b1
  · rcases h2 with ⟨b1, e2, -⟩ | ⟨b1, b2, e2, -⟩
    · exact absurd b1 a1
    · exact e1.trans e2.symm
theorem eq_insert {v1 : Int32} {v2 : Int32} {r1 r2 : Int32} {u1 u2 : wU} (h1 : (fun r u => (v1 < 0 ∧ r = (-2) ∧ u = ([], [])) ∨ (¬ v1 < 0 ∧ r = (-2) ∧ u = ([], []))) r1 u1) (h2 : (fun r u => (v1 < 0 ∧ r = (-2) ∧ u = ([], [])) ∨ (¬ v1 < 0 ∧ (-1) < v1 ∧ r = (-2) ∧ u = ([], []))) r2 u2) : r1 = r2 := by
  rcases h1 with ⟨a1, e1, -⟩ | ⟨a1, e1, -⟩
  · rcases h2 with ⟨b1, e2, -⟩ | ⟨b1, b2, e2, -⟩
    · exact e1.trans e2.symm
    · exact absurd a1 b1
  · rcases h2 with ⟨b1, e2, -⟩ | ⟨b1, b2, e2, -⟩
    · exact absurd b1 a1
    · exact e1.trans e2.symm
theorem eq_sheet {v1 : Int32} {v2 : Int32} {v3 : Int32} {r1 r2 : Int32} {u1 u2 : wU} (h1 : (fun r u => (v3 < 0 ∧ r = (-2) ∧ u = ([], [])) ∨ (¬ v3 < 0 ∧ ¬ 3 < v3 ∧ r = (-3) ∧ u = ([], [])) ∨ (¬ v3 < 0 ∧ 3 < v3 ∧ r = (-2) ∧ u = ([], []))) r1 u1) (h2 : (fun r u => (v3 < 0 ∧ r = (-2) ∧ u = ([], [])) ∨ (¬ v3 < 0 ∧ 3 < v3 ∧ r = (-2) ∧ u = ([], [])) ∨ (¬ v3 < 0 ∧ ¬ 3 < v3 ∧ r = (-3) ∧ u = ([], []))) r2 u2) : r1 = r2 := by
  rcases h1 with ⟨a1, e1, -⟩ | ⟨a1, a2, e1, -⟩ | ⟨a1, a2, e1, -⟩
  · rcases h2 with ⟨b1, e2, -⟩ | ⟨b1, b2, e2, -⟩ | ⟨b1, b2, e2, -⟩
    · exact e1.trans e2.symm
    · exact absurd a1 b1
    · exact absurd a1 b1
  · rcases h2 with ⟨b1, e2, -⟩ | ⟨b1, b2, e2, -⟩ | ⟨b1, b2, e2, -⟩
    · exact absurd b1 a1
    · exact absurd b2 a2
    · exact e1.trans e2.symm
  · rcases h2 with ⟨b1, e2, -⟩ | ⟨b1, b2, e2, -⟩ | ⟨b1, b2, e2, -⟩
    · exact absurd b1 a1
    · exact e1.trans e2.symm
    · exact absurd a2 b2
theorem eq_where {v1 : Int32} {r1 r2 : Int32} {u1 u2 : wU} (h1 : (fun r u => (v1 < 0 ∧ r = (-2) ∧ u = ([], [])) ∨ (¬ v1 < 0 ∧ r = (-2) ∧ u = ([], []))) r1 u1) (h2 : (fun r u => (v1 < 0 ∧ r = (-2) ∧ u = ([], [])) ∨ (¬ v1 < 0 ∧ (-1) < v1 ∧ r = (-2) ∧ u = ([], []))) r2 u2) : r1 = r2 := by
  rcases h1 with ⟨a1, e1, -⟩ | ⟨a1, e1, -⟩
  · rcases h2 with ⟨b1, e2, -⟩ | ⟨b1, b2, e2, -⟩
    · exact e1.trans e2.symm
    · exact absurd a1 b1
  · rcases h2 with ⟨b1, e2, -⟩ | ⟨b1, b2, e2, -⟩
    · exact absurd b1 a1
    · exact e1.trans e2.symm
theorem eq_scene {v1 : Int32} {v2 : Int32} {r1 r2 : Int32} {u1 u2 : wU} (h1 : (fun r u => (v1 < 0 ∧ r = (-2) ∧ u = ([], [])) ∨ (¬ v1 < 0 ∧ r = (-2) ∧ u = ([], []))) r1 u1) (h2 : (fun r u => (v1 < 0 ∧ r = (-2) ∧ u = ([], [])) ∨ (¬ v1 < 0 ∧ (-1) < v1 ∧ r = (-2) ∧ u = ([], []))) r2 u2) : r1 = r2 := by
  rcases h1 with ⟨a1, e1, -⟩ | ⟨a1, e1, -⟩
  · rcases h2 with ⟨b1, e2, -⟩ | ⟨b1, b2, e2, -⟩
    · exact e1.trans e2.symm
    · exact absurd a1 b1
  · rcases h2 with ⟨b1, e2, -⟩ | ⟨b1, b2, e2, -⟩
    · exact absurd b1 a1
    · exact e1.trans e2.symm
theorem eq_who {v1 : Int32} {v2 : Int32} {r1 r2 : Int32} {u1 u2 : wU} (h1 : (fun r u => (v1 < 0 ∧ r = (-2) ∧ u = ([], [])) ∨ (¬ v1 < 0 ∧ r = (-2) ∧ u = ([], []))) r1 u1) (h2 : (fun r u => (v1 < 0 ∧ r = (-2) ∧ u = ([], [])) ∨ (¬ v1 < 0 ∧ (-1) < v1 ∧ r = (-2) ∧ u = ([], []))) r2 u2) : r1 = r2 := by
  rcases h1 with ⟨a1, e1, -⟩ | ⟨a1, e1, -⟩
  · rcases h2 with ⟨b1, e2, -⟩ | ⟨b1, b2, e2, -⟩
    · exact e1.trans e2.symm
    · exact absurd a1 b1
  · rcases h2 with ⟨b1, e2, -⟩ | ⟨b1, b2, e2, -⟩
    · exact absurd b1 a1
    · exact e1.trans e2.symm
theorem eq_parts {v1 : Int32} {r1 r2 : Int32} {u1 u2 : wU} (h1 : (fun r u => (v1 < 0 ∧ r = (-2) ∧ u = ([], [])) ∨ (¬ v1 < 0 ∧ r = (-2) ∧ u = ([], []))) r1 u1) (h2 : (fun r u => (v1 < 0 ∧ r = (-2) ∧ u = ([], [])) ∨ (¬ v1 < 0 ∧ (-1) < v1 ∧ r = (-2) ∧ u = ([], []))) r2 u2) : r1 = r2 := by
  rcases h1 with ⟨a1, e1, -⟩ | ⟨a1, e1, -⟩
  · rcases h2 with ⟨b1, e2, -⟩ | ⟨b1, b2, e2, -⟩
    · exact e1.trans e2.symm
    · exact absurd a1 b1
  · rcases h2 with ⟨b1, e2, -⟩ | ⟨b1, b2, e2, -⟩
    · exact absurd b1 a1
    · exact e1.trans e2.symm
theorem eq_count {v1 : Int32} {r1 r2 : Int32} {u1 u2 : wU} (h1 : (fun r u => (v1 = 0 ∧ r = 0 ∧ u = ([], [])) ∨ (v1 = 1 ∧ r = 0 ∧ u = ([], [])) ∨ (v1 = 2 ∧ r = 0 ∧ u = ([], [])) ∨ (v1 = 3 ∧ r = 0 ∧ u = ([], [])) ∨ (v1 = 4 ∧ r = 0 ∧ u = ([], [])) ∨ (v1 = 5 ∧ r = 20 ∧ u = ([], [])) ∨ ((v1.toInt < 0 ∨ 5 < v1.toInt) ∧ r = (-2) ∧ u = ([], []))) r1 u1) (h2 : (fun r u => (v1 = 0 ∧ r = 0 ∧ u = ([], [])) ∨ (v1 = 1 ∧ r = 0 ∧ u = ([], [])) ∨ (v1 = 2 ∧ r = 0 ∧ u = ([], [])) ∨ (v1 = 3 ∧ r = 0 ∧ u = ([], [])) ∨ (v1 = 4 ∧ r = 0 ∧ u = ([], [])) ∨ (v1 = 5 ∧ r = 20 ∧ u = ([], [])) ∨ ((v1.toInt < 0 ∨ 5 < v1.toInt) ∧ r = (-2) ∧ u = ([], []))) r2 u2) : r1 = r2 := by
  rcases h1 with ⟨a1, e1, -⟩ | ⟨a1, e1, -⟩ | ⟨a1, e1, -⟩ | ⟨a1, e1, -⟩ | ⟨a1, e1, -⟩ | ⟨a1, e1, -⟩ | ⟨a1, e1, -⟩
  · rcases h2 with ⟨b1, e2, -⟩ | ⟨b1, e2, -⟩ | ⟨b1, e2, -⟩ | ⟨b1, e2, -⟩ | ⟨b1, e2, -⟩ | ⟨b1, e2, -⟩ | ⟨b1, e2, -⟩
    · exact e1.trans e2.symm
    · exact e1.trans e2.symm
    · exact e1.trans e2.symm
    · exact e1.trans e2.symm
    · exact e1.trans e2.symm
    · exact absurd (a1.symm.trans b1) (by decide)
    · rw [a1] at b1; exact absurd b1 (by decide)
  · rcases h2 with ⟨b1, e2, -⟩ | ⟨b1, e2, -⟩ | ⟨b1, e2, -⟩ | ⟨b1, e2, -⟩ | ⟨b1, e2, -⟩ | ⟨b1, e2, -⟩ | ⟨b1, e2, -⟩
    · exact e1.trans e2.symm
    · exact e1.trans e2.symm
    · exact e1.trans e2.symm
    · exact e1.trans e2.symm
    · exact e1.trans e2.symm
    · exact absurd (a1.symm.trans b1) (by decide)
    · rw [a1] at b1; exact absurd b1 (by decide)
  · rcases h2 with ⟨b1, e2, -⟩ | ⟨b1, e2, -⟩ | ⟨b1, e2, -⟩ | ⟨b1, e2, -⟩ | ⟨b1, e2, -⟩ | ⟨b1, e2, -⟩ | ⟨b1, e2, -⟩
    · exact e1.trans e2.symm
    · exact e1.trans e2.symm
    · exact e1.trans e2.symm
    · exact e1.trans e2.symm
    · exact e1.trans e2.symm
    · exact absurd (a1.symm.trans b1) (by decide)
    · rw [a1] at b1; exact absurd b1 (by decide)
  · rcases h2 with ⟨b1, e2, -⟩ | ⟨b1, e2, -⟩ | ⟨b1, e2, -⟩ | ⟨b1, e2, -⟩ | ⟨b1, e2, -⟩ | ⟨b1, e2, -⟩ | ⟨b1, e2, -⟩
    · exact e1.trans e2.symm
    · exact e1.trans e2.symm
    · exact e1.trans e2.symm
    · exact e1.trans e2.symm
    · exact e1.trans e2.symm
    · exact absurd (a1.symm.trans b1) (by decide)
    · rw [a1] at b1; exact absurd b1 (by decide)
  · rcases h2 with ⟨b1, e2, -⟩ | ⟨b1, e2, -⟩ | ⟨b1, e2, -⟩ | ⟨b1, e2, -⟩ | ⟨b1, e2, -⟩ | ⟨b1, e2, -⟩ | ⟨b1, e2, -⟩
    · exact e1.trans e2.symm
    · exact e1.trans e2.symm
    · exact e1.trans e2.symm
    · exact e1.trans e2.symm
    · exact e1.trans e2.symm
    · exact absurd (a1.symm.trans b1) (by decide)
    · rw [a1] at b1; exact absurd b1 (by decide)
  · rcases h2 with ⟨b1, e2, -⟩ | ⟨b1, e2, -⟩ | ⟨b1, e2, -⟩ | ⟨b1, e2, -⟩ | ⟨b1, e2, -⟩ | ⟨b1, e2, -⟩ | ⟨b1, e2, -⟩
    · exact absurd (a1.symm.trans b1) (by decide)
    · exact absurd (a1.symm.trans b1) (by decide)
    · exact absurd (a1.symm.trans b1) (by decide)
    · exact absurd (a1.symm.trans b1) (by decide)
    · exact absurd (a1.symm.trans b1) (by decide)
    · exact e1.trans e2.symm
    · rw [a1] at b1; exact absurd b1 (by decide)
  · rcases h2 with ⟨b1, e2, -⟩ | ⟨b1, e2, -⟩ | ⟨b1, e2, -⟩ | ⟨b1, e2, -⟩ | ⟨b1, e2, -⟩ | ⟨b1, e2, -⟩ | ⟨b1, e2, -⟩
    · rw [b1] at a1; exact absurd a1 (by decide)
    · rw [b1] at a1; exact absurd a1 (by decide)
    · rw [b1] at a1; exact absurd a1 (by decide)
    · rw [b1] at a1; exact absurd a1 (by decide)
    · rw [b1] at a1; exact absurd a1 (by decide)
    · rw [b1] at a1; exact absurd a1 (by decide)
    · exact e1.trans e2.symm
set_option maxHeartbeats 1000000 in
set_option maxRecDepth 100000 in
theorem law_end {p : Program} {l : Launch} {e : Env} {s : State} {m : MethodId} {below : List Frame} {meth : Method} {c : Code} {A : Nat → Prop} {b : Nat} {xs : Nat → Int32} {H : Heap} {locs : List Loc} {ls : Array Slot} (hf : CallFix p m c cL_law 4 s #[Value.ref b] gT R_law) (hr : meth.sig.returnType = ret) (hlocks : meth.locks = false) (hX : va_X b 4 xs s s.heap) (hbl : b < s.heap.size) (hAq : ∀ q : Nat, A q → s.heap.size ≤ q) (hS : va_S A s.heap H locs) (hl : lv_has ls 4 [(3, .int 0), (0, .ref b)]) : W p l e room_1 s m #[Value.ref b] below meth c H locs 59 222914 (lw_Z below #[Value.ref b] s) (F0 m 703 ls []) := by
  obtain ⟨hx, hb, hml, hown, hts⟩ := id hf
  have hbA : ¬ A b := fun h => absurd (hAq b h) (Nat.not_le.mpr hbl)
  refine lv_iinc (v := 4) (lv' := [(3, .int 4), (0, .ref b)]) hx hb dL_law_703 hl (k := 0) rfl (by decide) (by decide) rfl (fun ls hl => ?_)
  refine lv_goto (tgt := 18) hx hb dL_law_706 (by decide) ?_
  refine lv_iload_n hx hb dL_law_18 rfl (lv_at hl 0 rfl) ?_
  refine lv_aload_n hx hb dL_law_19 rfl (lv_at hl 1 rfl) ?_
  refine va_slen hx hb hX hbl hbA hS dL_law_20 ?_
  refine lv_iconst (v := 4) hx hb dL_law_21 (by decide) ?_
  refine lv_isub hx hb dL_law_22 ?_
  refine q_seti (y := 0) (by decide) ?_
  refine lv_icmp_gt (tgt := 709) hx hb dL_law_23 (by decide) (fun _ => ?_) (fun hno => absurd hno (by decide))
  refine lv_iconst (v := 1) hx hb dL_law_709 (by decide) ?_
  refine va_forget (fun q hq => hAq _ (hS.2.2 q hq)) ?_
  refine W.widen (k := 600000) (n := 7302249) (by decide) (by decide) ?_
  exact lw_ret hx hb hr hlocks dL_law_710
