theorem mgI_in {P : List Q4} {en : Nat} (h : ∀ i, i < P.length → (P.getD i d4).1 < en) : ∀ k, k ≤ P.length → ∀ j, j < (mgI P k).length → (mgI P k).getD j 0 < en := by
  intro k hk j hj
  obtain ⟨i, hi, e, _⟩ := mgI_mem k (gn_m hj)
  rw [e]
  exact h i (by omega)
def rwI (M : List Nat) (g : Nat → Int32) : Prop := ∀ j, j < M.length → g j = nI (M.getD j 0)
theorem rwI_s {M : List Nat} {g : Nat → Int32} {x n : Nat} (hn : n = M.length) (h : rwI M g) : rwI (M ++ [x]) (upd g n (nI x)) := by
  intro j hj
  rw [List.length_append] at hj
  have hj : j < M.length + 1 := hj
  by_cases c : j = n
  · rw [c, pk_us, hn, gn_r]
  · rw [pk_un c, gn_l (by omega)]; exact h j (by omega)
/-- heads among the first k of a row -/
def hdC (Es : List E5) (Rw : Nat → Nat) : Nat → Nat
  | 0 => 0
  | k + 1 => if (Es.getD (Rw k) dE).1 = 0 then hdC Es Rw k + 1 else hdC Es Rw k
theorem hdC_y {Es : List E5} {Rw : Nat → Nat} {k : Nat} (h : (Es.getD (Rw k) dE).1 = 0) : hdC Es Rw (k + 1) = hdC Es Rw k + 1 := if_pos h
theorem hdC_n {Es : List E5} {Rw : Nat → Nat} {k : Nat} (h : ¬ (Es.getD (Rw k) dE).1 = 0) : hdC Es Rw (k + 1) = hdC Es Rw k := if_neg h
theorem hdC_le (Es : List E5) (Rw : Nat → Nat) : ∀ k, hdC Es Rw k ≤ k := by
  intro k
  induction k with
  | zero => exact Nat.le_refl _
  | succ k ih =>
    by_cases h : (Es.getD (Rw k) dE).1 = 0
    · rw [hdC_y h]; omega
    · rw [hdC_n h]; omega
abbrev cX10_areLike : ByteArray := prog_12_method_55_code
def yX10_areLike : MethodName := ⟨RX10, "areLike", "(II)Z"⟩
abbrev cX10_findRow : ByteArray := prog_12_method_51_code
def yX10_findRow : MethodName := ⟨RX10, "findRow", "()V"⟩
abbrev cX10_isHead : ByteArray := prog_12_method_52_code
def yX10_isHead : MethodName := ⟨RX10, "isHead", "(I)Z"⟩
abbrev cX10_sceneFrom : ByteArray := prog_12_method_54_code
def yX10_sceneFrom : MethodName := ⟨RX10, "sceneFrom", "(I)I"⟩
abbrev cX10_scenes : ByteArray := prog_12_method_53_code
def yX10_scenes : MethodName := ⟨RX10, "scenes", "()I"⟩
theorem k_76 : (Cond.selects RX10 yX10_findRow yX10_findRow) ∈ gT := gT_i 76 (by decide +kernel) rfl
theorem k_77 : (Cond.selects RX10 yX10_isHead yX10_isHead) ∈ gT := gT_i 77 (by decide +kernel) rfl
theorem k_1188 : (Cond.fieldLink RX10 262 "ScriptDeskModel" "rowMany" "I") ∈ gT := gT_i 1188 (by decide +kernel) rfl
theorem k_1189 : (Cond.fieldLink RX10 113 "ScriptDeskModel" "row" "[I") ∈ gT := gT_i 1189 (by decide +kernel) rfl
theorem k_1484 : (Cond.methodLink RX10 265 yX10_findRow) ∈ gT := gT_i 1484 (by decide +kernel) rfl
theorem k_1486 : (Cond.instanceMethod yX10_findRow) ∈ gT := gT_i 1486 (by decide +kernel) rfl
theorem k_1487 : (Cond.code yX10_findRow cX10_findRow 2 none) ∈ gT := gT_i 1487 (by decide +kernel) rfl
theorem k_1488 : (Cond.methodLink RX10 268 yX10_isHead) ∈ gT := gT_i 1488 (by decide +kernel) rfl
theorem k_1490 : (Cond.instanceMethod yX10_isHead) ∈ gT := gT_i 1490 (by decide +kernel) rfl
theorem k_1491 : (Cond.code yX10_isHead cX10_isHead 2 (some .boolean)) ∈ gT := gT_i 1491 (by decide +kernel) rfl
theorem dX10_findRow_7 : decode cX10_findRow 7 = .ok (.iload_n 1, 1) := by decide +kernel
theorem dX10_findRow_8 : decode cX10_findRow 8 = .ok (.aload_n 0, 1) := by decide +kernel
theorem dX10_findRow_9 : decode cX10_findRow 9 = .ok (.getfield 158, 3) := by decide +kernel
theorem dX10_findRow_12 : decode cX10_findRow 12 = .ok (.if_icmp .ge 43, 3) := by decide +kernel
theorem dX10_findRow_15 : decode cX10_findRow 15 = .ok (.aload_n 0, 1) := by decide +kernel
theorem dX10_findRow_16 : decode cX10_findRow 16 = .ok (.getfield 53, 3) := by decide +kernel
theorem dX10_findRow_19 : decode cX10_findRow 19 = .ok (.iload_n 1, 1) := by decide +kernel
theorem dX10_findRow_20 : decode cX10_findRow 20 = .ok (.iaload, 1) := by decide +kernel
theorem dX10_findRow_21 : decode cX10_findRow 21 = .ok (.ifCond .ne 28, 3) := by decide +kernel
theorem dX10_findRow_49 : decode cX10_findRow 49 = .ok (.iinc 1 1, 3) := by decide +kernel
theorem dX10_findRow_52 : decode cX10_findRow 52 = .ok (.goto (-45), 3) := by decide +kernel
theorem dX10_findRow_24 : decode cX10_findRow 24 = .ok (.aload_n 0, 1) := by decide +kernel
theorem dX10_findRow_25 : decode cX10_findRow 25 = .ok (.getfield 113, 3) := by decide +kernel
theorem dX10_findRow_28 : decode cX10_findRow 28 = .ok (.aload_n 0, 1) := by decide +kernel
theorem dX10_findRow_29 : decode cX10_findRow 29 = .ok (.getfield 262, 3) := by decide +kernel
theorem dX10_findRow_32 : decode cX10_findRow 32 = .ok (.aload_n 0, 1) := by decide +kernel
theorem dX10_findRow_33 : decode cX10_findRow 33 = .ok (.getfield 50, 3) := by decide +kernel
theorem dX10_findRow_36 : decode cX10_findRow 36 = .ok (.iload_n 1, 1) := by decide +kernel
theorem dX10_findRow_37 : decode cX10_findRow 37 = .ok (.iaload, 1) := by decide +kernel
theorem dX10_findRow_38 : decode cX10_findRow 38 = .ok (.iastore, 1) := by decide +kernel
theorem dX10_findRow_39 : decode cX10_findRow 39 = .ok (.aload_n 0, 1) := by decide +kernel
theorem dX10_findRow_40 : decode cX10_findRow 40 = .ok (.dup, 1) := by decide +kernel
theorem dX10_findRow_41 : decode cX10_findRow 41 = .ok (.getfield 262, 3) := by decide +kernel
theorem dX10_findRow_44 : decode cX10_findRow 44 = .ok (.iconst 1, 1) := by decide +kernel
theorem dX10_findRow_45 : decode cX10_findRow 45 = .ok (.iadd, 1) := by decide +kernel
theorem dX10_findRow_46 : decode cX10_findRow 46 = .ok (.putfield 262, 3) := by decide +kernel
theorem dX10_findRow_0 : decode cX10_findRow 0 = .ok (.aload_n 0, 1) := by decide +kernel
theorem dX10_findRow_1 : decode cX10_findRow 1 = .ok (.iconst 0, 1) := by decide +kernel
theorem dX10_findRow_2 : decode cX10_findRow 2 = .ok (.putfield 262, 3) := by decide +kernel
theorem dX10_findRow_5 : decode cX10_findRow 5 = .ok (.iconst 0, 1) := by decide +kernel
theorem dX10_findRow_6 : decode cX10_findRow 6 = .ok (.istore_n 1, 1) := by decide +kernel
theorem dX10_findRow_55 : decode cX10_findRow 55 = .ok (.return_, 1) := by decide +kernel
theorem dX10_isHead_0 : decode cX10_isHead 0 = .ok (.aload_n 0, 1) := by decide +kernel
theorem dX10_isHead_1 : decode cX10_isHead 1 = .ok (.getfield 25, 3) := by decide +kernel
theorem dX10_isHead_4 : decode cX10_isHead 4 = .ok (.aload_n 0, 1) := by decide +kernel
theorem dX10_isHead_5 : decode cX10_isHead 5 = .ok (.getfield 17, 3) := by decide +kernel
theorem dX10_isHead_8 : decode cX10_isHead 8 = .ok (.aload_n 0, 1) := by decide +kernel
theorem dX10_isHead_9 : decode cX10_isHead 9 = .ok (.getfield 113, 3) := by decide +kernel
theorem dX10_isHead_12 : decode cX10_isHead 12 = .ok (.iload_n 1, 1) := by decide +kernel
theorem dX10_isHead_13 : decode cX10_isHead 13 = .ok (.iaload, 1) := by decide +kernel
theorem dX10_isHead_14 : decode cX10_isHead 14 = .ok (.iaload, 1) := by decide +kernel
theorem dX10_isHead_15 : decode cX10_isHead 15 = .ok (.iaload, 1) := by decide +kernel
theorem dX10_isHead_16 : decode cX10_isHead 16 = .ok (.ifCond .ne 7, 3) := by decide +kernel
theorem dX10_isHead_23 : decode cX10_isHead 23 = .ok (.iconst 0, 1) := by decide +kernel
theorem dX10_isHead_24 : decode cX10_isHead 24 = .ok (.ireturn, 1) := by decide +kernel
theorem dX10_isHead_19 : decode cX10_isHead 19 = .ok (.iconst 1, 1) := by decide +kernel
theorem dX10_isHead_20 : decode cX10_isHead 20 = .ok (.goto 4, 3) := by decide +kernel
theorem dX10_scenes_8 : decode cX10_scenes 8 = .ok (.iload_n 2, 1) := by decide +kernel
theorem dX10_scenes_9 : decode cX10_scenes 9 = .ok (.aload_n 0, 1) := by decide +kernel
theorem dX10_scenes_10 : decode cX10_scenes 10 = .ok (.getfield 262, 3) := by decide +kernel
theorem dX10_scenes_13 : decode cX10_scenes 13 = .ok (.if_icmp .ge 25, 3) := by decide +kernel
theorem dX10_scenes_16 : decode cX10_scenes 16 = .ok (.iload_n 1, 1) := by decide +kernel
theorem dX10_scenes_17 : decode cX10_scenes 17 = .ok (.aload_n 0, 1) := by decide +kernel
theorem dX10_scenes_18 : decode cX10_scenes 18 = .ok (.iload_n 2, 1) := by decide +kernel
theorem dX10_scenes_19 : decode cX10_scenes 19 = .ok (.invokevirtual 268, 3) := by decide +kernel
theorem dX10_scenes_22 : decode cX10_scenes 22 = .ok (.ifCond .eq 7, 3) := by decide +kernel
theorem dX10_scenes_25 : decode cX10_scenes 25 = .ok (.iconst 1, 1) := by decide +kernel
theorem dX10_scenes_26 : decode cX10_scenes 26 = .ok (.goto 4, 3) := by decide +kernel
theorem dX10_scenes_30 : decode cX10_scenes 30 = .ok (.iadd, 1) := by decide +kernel
theorem dX10_scenes_31 : decode cX10_scenes 31 = .ok (.istore_n 1, 1) := by decide +kernel
theorem dX10_scenes_32 : decode cX10_scenes 32 = .ok (.iinc 2 1, 3) := by decide +kernel
theorem dX10_scenes_35 : decode cX10_scenes 35 = .ok (.goto (-27), 3) := by decide +kernel
theorem dX10_scenes_29 : decode cX10_scenes 29 = .ok (.iconst 0, 1) := by decide +kernel
theorem dX10_scenes_0 : decode cX10_scenes 0 = .ok (.aload_n 0, 1) := by decide +kernel
theorem dX10_scenes_1 : decode cX10_scenes 1 = .ok (.invokevirtual 265, 3) := by decide +kernel
theorem dX10_scenes_4 : decode cX10_scenes 4 = .ok (.iconst 0, 1) := by decide +kernel
theorem dX10_scenes_5 : decode cX10_scenes 5 = .ok (.istore_n 1, 1) := by decide +kernel
theorem dX10_scenes_6 : decode cX10_scenes 6 = .ok (.iconst 0, 1) := by decide +kernel
theorem dX10_scenes_7 : decode cX10_scenes 7 = .ok (.istore_n 2, 1) := by decide +kernel
theorem dX10_scenes_38 : decode cX10_scenes 38 = .ok (.iload_n 1, 1) := by decide +kernel
theorem dX10_scenes_39 : decode cX10_scenes 39 = .ok (.ireturn, 1) := by decide +kernel
theorem dX10_sceneFrom_4 : decode cX10_sceneFrom 4 = .ok (.iload_n 3, 1) := by decide +kernel
theorem dX10_sceneFrom_5 : decode cX10_sceneFrom 5 = .ok (.aload_n 0, 1) := by decide +kernel
theorem dX10_sceneFrom_6 : decode cX10_sceneFrom 6 = .ok (.getfield 262, 3) := by decide +kernel
theorem dX10_sceneFrom_9 : decode cX10_sceneFrom 9 = .ok (.if_icmp .ge 26, 3) := by decide +kernel
theorem dX10_sceneFrom_12 : decode cX10_sceneFrom 12 = .ok (.aload_n 0, 1) := by decide +kernel
theorem dX10_sceneFrom_13 : decode cX10_sceneFrom 13 = .ok (.iload_n 3, 1) := by decide +kernel
theorem dX10_sceneFrom_14 : decode cX10_sceneFrom 14 = .ok (.invokevirtual 268, 3) := by decide +kernel
theorem dX10_sceneFrom_17 : decode cX10_sceneFrom 17 = .ok (.ifCond .eq 12, 3) := by decide +kernel
theorem dX10_sceneFrom_20 : decode cX10_sceneFrom 20 = .ok (.iload_n 2, 1) := by decide +kernel
theorem dX10_sceneFrom_21 : decode cX10_sceneFrom 21 = .ok (.ifCond .ne 5, 3) := by decide +kernel
theorem dX10_sceneFrom_26 : decode cX10_sceneFrom 26 = .ok (.iinc 2 (-1), 3) := by decide +kernel
theorem dX10_sceneFrom_29 : decode cX10_sceneFrom 29 = .ok (.iinc 3 1, 3) := by decide +kernel
theorem dX10_sceneFrom_32 : decode cX10_sceneFrom 32 = .ok (.goto (-28), 3) := by decide +kernel
theorem dX10_sceneFrom_0 : decode cX10_sceneFrom 0 = .ok (.iload_n 1, 1) := by decide +kernel
theorem dX10_sceneFrom_1 : decode cX10_sceneFrom 1 = .ok (.istore_n 2, 1) := by decide +kernel
theorem dX10_sceneFrom_2 : decode cX10_sceneFrom 2 = .ok (.iconst 0, 1) := by decide +kernel
theorem dX10_sceneFrom_3 : decode cX10_sceneFrom 3 = .ok (.istore_n 3, 1) := by decide +kernel
theorem dX10_sceneFrom_24 : decode cX10_sceneFrom 24 = .ok (.iload_n 3, 1) := by decide +kernel
theorem dX10_sceneFrom_25 : decode cX10_sceneFrom 25 = .ok (.ireturn, 1) := by decide +kernel
theorem dX10_sceneFrom_35 : decode cX10_sceneFrom 35 = .ok (.aload_n 0, 1) := by decide +kernel
theorem dX10_sceneFrom_36 : decode cX10_sceneFrom 36 = .ok (.getfield 262, 3) := by decide +kernel
theorem dX10_sceneFrom_39 : decode cX10_sceneFrom 39 = .ok (.ireturn, 1) := by decide +kernel
theorem dX10_areLike_41 : decode cX10_areLike 41 = .ok (.iload 6, 2) := by decide +kernel
theorem dX10_areLike_43 : decode cX10_areLike 43 = .ok (.aload_n 0, 1) := by decide +kernel
theorem dX10_areLike_44 : decode cX10_areLike 44 = .ok (.getfield 34, 3) := by decide +kernel
theorem dX10_areLike_47 : decode cX10_areLike 47 = .ok (.iload_n 3, 1) := by decide +kernel
theorem dX10_areLike_48 : decode cX10_areLike 48 = .ok (.iaload, 1) := by decide +kernel
theorem dX10_areLike_49 : decode cX10_areLike 49 = .ok (.if_icmp .ge 51, 3) := by decide +kernel
theorem dX10_areLike_52 : decode cX10_areLike 52 = .ok (.iload 5, 2) := by decide +kernel
theorem dX10_areLike_54 : decode cX10_areLike 54 = .ok (.ifCond .eq 46, 3) := by decide +kernel
theorem dX10_areLike_57 : decode cX10_areLike 57 = .ok (.aload_n 0, 1) := by decide +kernel
theorem dX10_areLike_58 : decode cX10_areLike 58 = .ok (.getfield 38, 3) := by decide +kernel
theorem dX10_areLike_61 : decode cX10_areLike 61 = .ok (.sipush 1200, 3) := by decide +kernel
theorem dX10_areLike_64 : decode cX10_areLike 64 = .ok (.iload_n 3, 1) := by decide +kernel
theorem dX10_areLike_65 : decode cX10_areLike 65 = .ok (.imul, 1) := by decide +kernel
theorem dX10_areLike_66 : decode cX10_areLike 66 = .ok (.iload 6, 2) := by decide +kernel
theorem dX10_areLike_68 : decode cX10_areLike 68 = .ok (.iadd, 1) := by decide +kernel
theorem dX10_areLike_69 : decode cX10_areLike 69 = .ok (.baload, 1) := by decide +kernel
theorem dX10_areLike_70 : decode cX10_areLike 70 = .ok (.aload_n 0, 1) := by decide +kernel
theorem dX10_areLike_71 : decode cX10_areLike 71 = .ok (.getfield 38, 3) := by decide +kernel
theorem dX10_areLike_74 : decode cX10_areLike 74 = .ok (.sipush 1200, 3) := by decide +kernel
theorem dX10_areLike_77 : decode cX10_areLike 77 = .ok (.iload 4, 2) := by decide +kernel
theorem dX10_areLike_79 : decode cX10_areLike 79 = .ok (.imul, 1) := by decide +kernel
theorem dX10_areLike_80 : decode cX10_areLike 80 = .ok (.iload 6, 2) := by decide +kernel
theorem dX10_areLike_82 : decode cX10_areLike 82 = .ok (.iadd, 1) := by decide +kernel
theorem dX10_areLike_83 : decode cX10_areLike 83 = .ok (.baload, 1) := by decide +kernel
theorem dX10_areLike_84 : decode cX10_areLike 84 = .ok (.if_icmp .ne 7, 3) := by decide +kernel
theorem dX10_areLike_91 : decode cX10_areLike 91 = .ok (.iconst 0, 1) := by decide +kernel
theorem dX10_areLike_92 : decode cX10_areLike 92 = .ok (.istore 5, 2) := by decide +kernel
theorem dX10_areLike_94 : decode cX10_areLike 94 = .ok (.iinc 6 1, 3) := by decide +kernel
theorem dX10_areLike_97 : decode cX10_areLike 97 = .ok (.goto (-56), 3) := by decide +kernel
theorem dX10_areLike_87 : decode cX10_areLike 87 = .ok (.iconst 1, 1) := by decide +kernel
theorem dX10_areLike_88 : decode cX10_areLike 88 = .ok (.goto 4, 3) := by decide +kernel
theorem dX10_areLike_0 : decode cX10_areLike 0 = .ok (.aload_n 0, 1) := by decide +kernel
theorem dX10_areLike_1 : decode cX10_areLike 1 = .ok (.getfield 17, 3) := by decide +kernel
theorem dX10_areLike_4 : decode cX10_areLike 4 = .ok (.iload_n 1, 1) := by decide +kernel
theorem dX10_areLike_5 : decode cX10_areLike 5 = .ok (.iaload, 1) := by decide +kernel
theorem dX10_areLike_6 : decode cX10_areLike 6 = .ok (.istore_n 3, 1) := by decide +kernel
theorem dX10_areLike_7 : decode cX10_areLike 7 = .ok (.aload_n 0, 1) := by decide +kernel
theorem dX10_areLike_8 : decode cX10_areLike 8 = .ok (.getfield 17, 3) := by decide +kernel
theorem dX10_areLike_11 : decode cX10_areLike 11 = .ok (.iload_n 2, 1) := by decide +kernel
theorem dX10_areLike_12 : decode cX10_areLike 12 = .ok (.iaload, 1) := by decide +kernel
theorem dX10_areLike_13 : decode cX10_areLike 13 = .ok (.istore 4, 2) := by decide +kernel
theorem dX10_areLike_15 : decode cX10_areLike 15 = .ok (.aload_n 0, 1) := by decide +kernel
theorem dX10_areLike_16 : decode cX10_areLike 16 = .ok (.getfield 34, 3) := by decide +kernel
theorem dX10_areLike_19 : decode cX10_areLike 19 = .ok (.iload_n 3, 1) := by decide +kernel
theorem dX10_areLike_20 : decode cX10_areLike 20 = .ok (.iaload, 1) := by decide +kernel
theorem dX10_areLike_21 : decode cX10_areLike 21 = .ok (.aload_n 0, 1) := by decide +kernel
theorem dX10_areLike_22 : decode cX10_areLike 22 = .ok (.getfield 34, 3) := by decide +kernel
theorem dX10_areLike_25 : decode cX10_areLike 25 = .ok (.iload 4, 2) := by decide +kernel
theorem dX10_areLike_27 : decode cX10_areLike 27 = .ok (.iaload, 1) := by decide +kernel
theorem dX10_areLike_28 : decode cX10_areLike 28 = .ok (.if_icmp .ne 7, 3) := by decide +kernel
theorem dX10_areLike_35 : decode cX10_areLike 35 = .ok (.iconst 0, 1) := by decide +kernel
theorem dX10_areLike_36 : decode cX10_areLike 36 = .ok (.istore 5, 2) := by decide +kernel
theorem dX10_areLike_38 : decode cX10_areLike 38 = .ok (.iconst 0, 1) := by decide +kernel
theorem dX10_areLike_39 : decode cX10_areLike 39 = .ok (.istore 6, 2) := by decide +kernel
theorem dX10_areLike_100 : decode cX10_areLike 100 = .ok (.iload 5, 2) := by decide +kernel
theorem dX10_areLike_102 : decode cX10_areLike 102 = .ok (.ireturn, 1) := by decide +kernel
theorem dX10_areLike_31 : decode cX10_areLike 31 = .ok (.iconst 1, 1) := by decide +kernel
theorem dX10_areLike_32 : decode cX10_areLike 32 = .ok (.goto 4, 3) := by decide +kernel
set_option maxHeartbeats 1000000 in
set_option maxRecDepth 100000 in
theorem lfr_ {p : Program} {l : Launch} {e : Env} {R : Room} {s : State} {m : MethodId} {args : Array Value} {below : List Frame} {meth : Method} {c : Code} {cells slots : Nat} {Q : State → Prop} {D : va_G} {A : Nat → Prop} {h0 : Nat} {q : Nat → Nat} {cB cI cZ : ClassId} {I : Nat → Int32} {F : Nat → Nat → Int32} {Es : List E5} {sl : Nat → Nat} {P : List Q4} (hre : reR F Es sl) (hI14 : I 14 = nI P.length) (hpn : P.length ≤ 7000) (hpcF : pc_is P (F 15) (F 16) (F 17) (F 18)) (hQ : pq_ok Es.length (fun e => Es.getD e dE) P) (hmg : (mgI P P.length).length ≤ 60) (hRf : 0 ≤ R.frames) (hRl : 0 ≤ R.locals) (hRc : cells ≤ R.cells) (hRs : slots ≤ R.slots) (hA : ∀ q : Nat, s.heap.size ≤ q → A q) (hf : CallFix p m c cX10_findRow 2 s args gT yX10_findRow.cls) (hK : va_K D vcl (mT cB cI cZ) s) :
    ∀ (k : Nat) (i : Nat) (n : Nat) (g45 : Nat → Int32) (H : Heap) (locs : List Loc) (ls : Array Slot), i + k = P.length → n = (mgI P i).length → rwI (mgI P i) g45 →  va_P D vcl (mW h0 q cB cI cZ (upd I 44 (nI n)) (va_up F 45 g45)) H → va_D A (mW h0 q cB cI cZ (upd I 44 (nI n)) (va_up F 45 g45)) → va_S A s.heap H locs → lv_has ls 2 [(1, .int (nI i)), (0, .ref h0)] →
    (∀ (n : Nat) (g45 : Nat → Int32) (H : Heap) (locs : List Loc) (ls : Array Slot), n = (mgI P P.length).length → rwI (mgI P P.length) g45 → va_P D vcl (mW h0 q cB cI cZ (upd I 44 (nI n)) (va_up F 45 g45)) H → va_D A (mW h0 q cB cI cZ (upd I 44 (nI n)) (va_up F 45 g45)) → va_S A s.heap H locs → lv_has ls 2 [(0, .ref h0)] → W p l e R s m args below meth c H locs cells slots Q (F0 m 55 ls [])) →
    W p l e R s m args below meth c H locs cells slots Q (F0 m 7 ls []) := by
  obtain ⟨hx, hb, hml, hown, hts⟩ := id hf
  intro k
  induction k with
  | zero =>
    intro i n g45 H locs ls hik hn hrw hP hD hS hl kk
    refine lv_iload_n hx hb dX10_findRow_7 rfl (lv_at hl 0 rfl) ?_
    refine lv_aload_n hx hb dX10_findRow_8 rfl (lv_at hl 1 rfl) ?_
    refine va_get (D := D) (ci := 11) (v := .int (I 14)) (C := RX10) (T := TX10) (N := 48) hx hb hts inX10 hown hK hP 0 rfl rfl 14 (by decide) (hts _ k_1158) (fun _ h9 => h9) rfl dX10_findRow_9 ?_
    refine q_seti (y := (nI (P.length))) hI14 ?_
    refine lv_icmp_ge (tgt := 55) hx hb dX10_findRow_12 (by decide) (fun c_1 => ?_) (fun c_1 => ?_)
    · have c_1 := q_le (a := P.length) (b := i) (by omega) (by omega) c_1
      obtain rfl : i = P.length := by omega
      exact kk n g45 H locs ls hn hrw hP hD hS (lv_sub hl (l' := [(0, .ref h0)]) [1] rfl)
    · have c_1 := q_nle (a := P.length) (b := i) (by omega) (by omega) c_1
      exact absurd hik (by omega)
  | succ k ih =>
    intro i n g45 H locs ls hik hn hrw hP hD hS hl kk
    refine lv_iload_n hx hb dX10_findRow_7 rfl (lv_at hl 0 rfl) ?_
    refine lv_aload_n hx hb dX10_findRow_8 rfl (lv_at hl 1 rfl) ?_
    refine va_get (D := D) (ci := 11) (v := .int (I 14)) (C := RX10) (T := TX10) (N := 48) hx hb hts inX10 hown hK hP 0 rfl rfl 14 (by decide) (hts _ k_1158) (fun _ h9 => h9) rfl dX10_findRow_9 ?_
    refine q_seti (y := (nI (P.length))) hI14 ?_
    refine lv_icmp_ge (tgt := 55) hx hb dX10_findRow_12 (by decide) (fun c_1 => ?_) (fun c_1 => ?_)
    · have c_1 := q_le (a := P.length) (b := i) (by omega) (by omega) c_1
      exact absurd hik (by omega)
    · have c_1 := q_nle (a := P.length) (b := i) (by omega) (by omega) c_1
      have hq9 := hQ i (by omega)
      have hpf9 := elF_rw (hre.2.1 _ hq9.1).2.2
      have hq8 : (P.getD i d4).2.2.1 ≤ eRw (Es.getD (P.getD i d4).1 dE) := hq9.2.2
      have hre1 := hre.1
      refine lv_aload_n hx hb dX10_findRow_15 rfl (lv_at hl 1 rfl) ?_
      refine va_get (D := D) (ci := 11) (v := .ref (q 16)) (C := RX10) (T := TX10) (N := 48) hx hb hts inX10 hown hK hP 0 rfl rfl 16 (by decide) (hts _ k_1160) (fun _ h9 => h9) rfl dX10_findRow_16 ?_
      refine lv_iload_n hx hb dX10_findRow_19 rfl (lv_at hl 0 rfl) ?_
      refine q_ild (X := i) (f := (F 16)) hx hb hK hP 13 1 rfl rfl (by omega) (by decide) dX10_findRow_20 ?_
      refine q_seti (y := (nI ((P.getD i d4).2.1))) (hpcF i (by omega)).2.1 ?_
      refine lv_if_ne (tgt := 49) hx hb dX10_findRow_21 (by decide) (fun c_2 => ?_) (fun c_2 => ?_)
      · have c_2 := q_nen (a := (P.getD i d4).2.1) (b := 0) (by omega) (by omega) c_2
        refine lv_iinc (v := (nI (i + 1))) (lv' := [(1, .int (nI (i + 1))), (0, .ref h0)]) hx hb dX10_findRow_49 hl (k := 0) rfl (nI_add i 1) (by decide) rfl (fun ls hl => ?_)
        refine lv_goto (tgt := 7) hx hb dX10_findRow_52 (by decide) ?_
        have hm9 := mgI_0 (P := P) (n := i) (by omega)
        exact ih (i + 1) n g45 H locs ls (by omega) (by rw [hm9]; exact hn) (by rw [hm9]; exact hrw) hP hD hS (lv_sub hl (l' := [(1, .int (nI (i + 1))), (0, .ref h0)]) [0, 1] rfl) kk
      · have c_2 := q_eqn (a := (P.getD i d4).2.1) (b := 0) (by omega) (by omega) c_2
        have hm8 := mgI_1 (P := P) (n := i) (by omega)
        have hm7 := mgI_mo P (show i + 1 ≤ P.length by omega)
        rw [hm8, List.length_append] at hm7
        have hm7 : (mgI P i).length + 1 ≤ (mgI P P.length).length := hm7
        refine lv_aload_n hx hb dX10_findRow_24 rfl (lv_at hl 1 rfl) ?_
        refine va_get (D := D) (ci := 11) (v := .ref (q 45)) (C := RX10) (T := TX10) (N := 48) hx hb hts inX10 hown hK hP 0 rfl rfl 45 (by decide) (hts _ k_1189) (fun _ h9 => h9) rfl dX10_findRow_25 ?_
        refine lv_aload_n hx hb dX10_findRow_28 rfl (lv_at hl 1 rfl) ?_
        refine va_get (D := D) (ci := 11) (v := .int (nI n)) (C := RX10) (T := TX10) (N := 48) hx hb hts inX10 hown hK hP 0 rfl rfl 44 (by decide) (hts _ k_1188) (fun _ h9 => h9) rfl dX10_findRow_29 ?_
        refine lv_aload_n hx hb dX10_findRow_32 rfl (lv_at hl 1 rfl) ?_
        refine va_get (D := D) (ci := 11) (v := .ref (q 15)) (C := RX10) (T := TX10) (N := 48) hx hb hts inX10 hown hK hP 0 rfl rfl 15 (by decide) (hts _ k_1159) (fun _ h9 => h9) rfl dX10_findRow_33 ?_
        refine lv_iload_n hx hb dX10_findRow_36 rfl (lv_at hl 0 rfl) ?_
        refine q_ild (X := i) (f := (F 15)) hx hb hK hP 12 1 rfl rfl (by omega) (by decide) dX10_findRow_37 ?_
        refine q_seti (y := (nI ((P.getD i d4).1))) (hpcF i (by omega)).1 ?_
        refine q_ist (X := n) (f := g45) (x := (nI ((P.getD i d4).1))) hx hb hK hP hD hS 33 1 rfl rfl (by omega) (by decide) dX10_findRow_38 (fun H locs hP hD hS => ?_)
        have hP : va_P D vcl (mW h0 q cB cI cZ (upd I 44 (nI n)) (va_up F 45 (upd g45 n (nI ((P.getD i d4).1))))) H := hP
        have hD : va_D A (mW h0 q cB cI cZ (upd I 44 (nI n)) (va_up F 45 (upd g45 n (nI ((P.getD i d4).1))))) := hD
        refine lv_aload_n hx hb dX10_findRow_39 rfl (lv_at hl 1 rfl) ?_
        refine lv_dup hx hb dX10_findRow_40 rfl ?_
        refine va_get (D := D) (ci := 11) (v := .int (nI n)) (C := RX10) (T := TX10) (N := 48) hx hb hts inX10 hown hK hP 0 rfl rfl 44 (by decide) (hts _ k_1188) (fun _ h9 => h9) rfl dX10_findRow_41 ?_
        refine lv_iconst (v := 1) hx hb dX10_findRow_44 (by decide) ?_
        refine lv_iadd hx hb dX10_findRow_45 ?_
        refine q_seti (y := nI (n + 1)) (nI_add n 1) ?_
        refine va_put (D := D) (ci := 11) (v := .int (nI (n + 1))) (ty := .int) (C := RX10) (T := TX10) (N := 48) hx hb hts inX10 tyX10 tyX10_ok nmX10 hown hK hP hD hS 0 rfl rfl 44 (by decide) (hts _ k_1188) (fun _ h9 => h9) rfl (by decide +kernel) rfl rfl (Nat.le_of_ble_eq_true rfl) dX10_findRow_46 (fun H locs hP hD hS => ?_)
        have hP : va_P D vcl (mW h0 q cB cI cZ (upd I 44 (nI (n + 1))) (va_up F 45 (upd g45 n (nI ((P.getD i d4).1))))) H := hP
        have hD : va_D A (mW h0 q cB cI cZ (upd I 44 (nI (n + 1))) (va_up F 45 (upd g45 n (nI ((P.getD i d4).1))))) := hD
        refine lv_iinc (v := (nI (i + 1))) (lv' := [(1, .int (nI (i + 1))), (0, .ref h0)]) hx hb dX10_findRow_49 hl (k := 0) rfl (nI_add i 1) (by decide) rfl (fun ls hl => ?_)
        refine lv_goto (tgt := 7) hx hb dX10_findRow_52 (by decide) ?_
        have hm9 := mgI_1 (P := P) (n := i) (by omega)
        exact ih (i + 1) (n + 1) _ H locs ls (by omega) (by rw [hm9, List.length_append, ← hn]; rfl) (by rw [hm9]; exact rwI_s hn hrw) hP hD hS (lv_sub hl (l' := [(1, .int (nI (i + 1))), (0, .ref h0)]) [0, 1] rfl) kk
set_option maxHeartbeats 1000000 in
set_option maxRecDepth 100000 in
theorem r_findRow (l : Launch) (D : va_G) (h0 : Nat) (q : Nat → Nat) (cB cI_ cZ : ClassId) (I : Nat → Int32) (F : Nat → Nat → Int32) (Es : List E5) (sl : Nat → Nat) (P : List Q4) (hre : reR F Es sl) (hI14 : I 14 = nI P.length) (hpn : P.length ≤ 7000) (hpcF : pc_is P (F 15) (F 16) (F 17) (F 18)) (hQ : pq_ok Es.length (fun e => Es.getD e dE) P) (hmg : (mgI P P.length).length ≤ 60) : cV l D yX10_findRow cX10_findRow 2 none 0 0 0 0 [.ref h0] zT (mW h0 q cB cI_ cZ I F) (mT cB cI_ cZ) (fun u => ∃ (g45 : Nat → Int32), rwI (mgI P P.length) g45 ∧ u = (mW h0 q cB cI_ cZ (upd I 44 (nI (mgI P P.length).length)) (va_up F 45 g45), mT cB cI_ cZ)) := by
  refine q_sv (by decide) (Nat.le_of_ble_eq_true rfl) ?_
  intro p e s m below meth c A ls hAe hf hr hlocks hin hK hP hD hS hA hZ hl
  obtain ⟨hx, hb, hml, hown, hts⟩ := id hf
  have hl : lv_has ls 2 [(0, .ref h0)] := hl
  refine lv_aload_n hx hb dX10_findRow_0 rfl (lv_at hl 0 rfl) ?_
  refine lv_iconst (v := 0) hx hb dX10_findRow_1 (by decide) ?_
  refine va_put (D := D) (ci := 11) (v := .int 0) (ty := .int) (C := RX10) (T := TX10) (N := 48) hx hb hts inX10 tyX10 tyX10_ok nmX10 hown hK hP hD hS 0 rfl rfl 44 (by decide) (hts _ k_1188) (fun _ h9 => h9) rfl (by decide +kernel) rfl rfl (Nat.le_of_ble_eq_true rfl) dX10_findRow_2 (fun H locs hP hD hS => ?_)
  have hP : va_P D vcl (mW h0 q cB cI_ cZ (upd I 44 0) F) H := hP
  have hD : va_D A (mW h0 q cB cI_ cZ (upd I 44 0) F) := hD
  refine lv_iconst (v := 0) hx hb dX10_findRow_5 (by decide) ?_
  refine lv_istore_n (lv' := [(1, .int 0), (0, .ref h0)]) hx hb dX10_findRow_6 rfl hl (by decide) rfl (fun ls hl => ?_)
  have hz9 : F = va_up F 45 (F 45) := (va_up_id9 F 45).symm
  obtain ⟨hP, hD⟩ := q_set4 hz9 hP hD
  refine lfr_ (I := I) (F := F) (Es := Es) (sl := sl) (P := P) hre hI14 hpn hpcF hQ hmg (Nat.le_of_ble_eq_true rfl) (Nat.le_of_ble_eq_true rfl) (Nat.le_of_ble_eq_true rfl) (Nat.le_of_ble_eq_true rfl) hA hf hK P.length 0 0 (F 45) _ _ ls (by omega) rfl (fun j hj => absurd hj (Nat.not_lt_zero j)) hP hD hS (lv_sub hl (l' := [(1, .int 0), (0, .ref h0)]) [0, 1] rfl) (fun n g45 H locs ls a1 a2 hP hD hS hl => ?_)
  have hP : va_P D vcl (mW h0 q cB cI_ cZ (upd I 44 (nI n)) (va_up F 45 g45)) H := hP
  have hD : va_D A (mW h0 q cB cI_ cZ (upd I 44 (nI n)) (va_up F 45 g45)) := hD
  exact q_zv hf hr hlocks hK hP hD hS (Nat.le_of_ble_eq_true rfl) (Nat.le_of_ble_eq_true rfl) ⟨g45, a2, by rw [← a1]⟩ dX10_findRow_55
set_option maxHeartbeats 1000000 in
set_option maxRecDepth 100000 in
theorem r_isHead (l : Launch) (D : va_G) (h0 : Nat) (q : Nat → Nat) (cB cI_ cZ : ClassId) (I : Nat → Int32) (F : Nat → Nat → Int32) (Es : List E5) (sl : Nat → Nat) (mr : Nat) (Rw : Nat → Nat) (j : Nat) (hre : reR F Es sl) (hI44 : I 44 = nI mr) (hm : mr ≤ 60) (hrow : ∀ j, j < mr → F 45 j = nI (Rw j) ∧ Rw j < Es.length) (hj : j < mr) : cI l D yX10_isHead cX10_isHead 2 (some .boolean) 0 0 0 0 [.ref h0, .int (nI j)] zT (mW h0 q cB cI_ cZ I F) (mT cB cI_ cZ) (fun r u => (((Es.getD (Rw j) dE).1 = 0) ∧ r = 1 ∨ ¬ ((Es.getD (Rw j) dE).1 = 0) ∧ r = 0) ∧ u = (mW h0 q cB cI_ cZ I F, mT cB cI_ cZ)) := by
  refine q_si (by decide) (Nat.le_of_ble_eq_true rfl) ?_
  intro p e s m below meth c A ls hAe hf hr hlocks hin hK hP hD hS hA hZ hl
  obtain ⟨hx, hb, hml, hown, hts⟩ := id hf
  have hl : lv_has ls 2 [(0, .ref h0), (1, .int (nI j))] := hl
  have hre1 := hre.1
  have hrj1 := (hrow j (by omega)).2
  have hsj1 := (hre.2.1 _ hrj1).2.1
  have hwj1 := elF_rw (hre.2.1 _ hrj1).2.2
  refine lv_aload_n hx hb dX10_isHead_0 rfl (lv_at hl 0 rfl) ?_
  refine va_get (D := D) (ci := 11) (v := .ref (q 6)) (C := RX10) (T := TX10) (N := 48) hx hb hts inX10 hown hK hP 0 rfl rfl 6 (by decide) (hts _ k_1150) (fun _ h9 => h9) rfl dX10_isHead_1 ?_
  refine lv_aload_n hx hb dX10_isHead_4 rfl (lv_at hl 0 rfl) ?_
  refine va_get (D := D) (ci := 11) (v := .ref (q 4)) (C := RX10) (T := TX10) (N := 48) hx hb hts inX10 hown hK hP 0 rfl rfl 4 (by decide) (hts _ k_1148) (fun _ h9 => h9) rfl dX10_isHead_5 ?_
  refine lv_aload_n hx hb dX10_isHead_8 rfl (lv_at hl 0 rfl) ?_
  refine va_get (D := D) (ci := 11) (v := .ref (q 45)) (C := RX10) (T := TX10) (N := 48) hx hb hts inX10 hown hK hP 0 rfl rfl 45 (by decide) (hts _ k_1189) (fun _ h9 => h9) rfl dX10_isHead_9 ?_
  refine lv_iload_n hx hb dX10_isHead_12 rfl (lv_at hl 1 rfl) ?_
  refine q_ild (X := j) (f := (F 45)) hx hb hK hP 33 1 rfl rfl (by omega) (by decide) dX10_isHead_13 ?_
  refine q_seti (y := (nI ((Rw j)))) (hrow j (by omega)).1 ?_
  refine q_ild (X := (Rw j)) (f := (F 4)) hx hb hK hP 2 1 rfl rfl (by omega) (by decide) dX10_isHead_14 ?_
  refine q_seti (y := (nI ((sl ((Rw j)))))) (hre.2.1 ((Rw j)) (by omega)).1 ?_
  refine q_ild (X := (sl ((Rw j)))) (f := (F 6)) hx hb hK hP 4 1 rfl rfl (by omega) (by decide) dX10_isHead_15 ?_
  refine q_seti (y := (Es.getD ((Rw j)) dE).1) (hre.2.1 ((Rw j)) (by omega)).2.2.2.1 ?_
  refine lv_if_ne (tgt := 23) hx hb dX10_isHead_16 (by decide) (fun c_1 => ?_) (fun c_1 => ?_)
  · refine lv_iconst (v := 0) hx hb dX10_isHead_23 (by decide) ?_
    exact q_zi hf hr rfl hlocks hK hP hD hS (Nat.le_of_ble_eq_true rfl) (Nat.le_of_ble_eq_true rfl) ⟨Or.inr ⟨c_1, rfl⟩, rfl⟩ dX10_isHead_24
  · refine lv_iconst (v := 1) hx hb dX10_isHead_19 (by decide) ?_
    refine lv_goto (tgt := 24) hx hb dX10_isHead_20 (by decide) ?_
    exact q_zi hf hr rfl hlocks hK hP hD hS (Nat.le_of_ble_eq_true rfl) (Nat.le_of_ble_eq_true rfl) ⟨Or.inl ⟨c_1, rfl⟩, rfl⟩ dX10_isHead_24
set_option maxHeartbeats 1000000 in
set_option maxRecDepth 100000 in
theorem lsc_ {p : Program} {l : Launch} {e : Env} {R : Room} {s : State} {m : MethodId} {args : Array Value} {below : List Frame} {meth : Method} {c : Code} {cells slots : Nat} {Q : State → Prop} {D : va_G} {A : Nat → Prop} {h0 : Nat} {q : Nat → Nat} {cB cI cZ : ClassId} {I : Nat → Int32} {F : Nat → Nat → Int32} {Es : List E5} {sl : Nat → Nat} {mr : Nat} {Rw : Nat → Nat} (hre : reR F Es sl) (hI44 : I 44 = nI mr) (hm : mr ≤ 60) (hrow : ∀ j, j < mr → F 45 j = nI (Rw j) ∧ Rw j < Es.length) (hRf : 1 ≤ R.frames) (hRl : 21 ≤ R.locals) (hRc : cells ≤ R.cells) (hRs : slots ≤ R.slots) (hA : ∀ q : Nat, s.heap.size ≤ q → A q) (hf : CallFix p m c cX10_scenes 3 s args gT yX10_scenes.cls) (hK : va_K D vcl (mT cB cI cZ) s) :
    ∀ (k : Nat) (i : Nat) (v : Nat) (H : Heap) (locs : List Loc) (ls : Array Slot), i + k = mr → v = hdC Es Rw i →  va_P D vcl (mW h0 q cB cI cZ I F) H → va_D A (mW h0 q cB cI cZ I F) → va_S A s.heap H locs → lv_has ls 3 [(2, .int (nI i)), (1, .int (nI v)), (0, .ref h0)] →
    (∀ (v : Nat) (H : Heap) (locs : List Loc) (ls : Array Slot), v = hdC Es Rw mr → va_P D vcl (mW h0 q cB cI cZ I F) H → va_D A (mW h0 q cB cI cZ I F) → va_S A s.heap H locs → lv_has ls 3 [(1, .int (nI v)), (0, .ref h0)] → W p l e R s m args below meth c H locs cells slots Q (F0 m 38 ls [])) →
    W p l e R s m args below meth c H locs cells slots Q (F0 m 8 ls []) := by
  obtain ⟨hx, hb, hml, hown, hts⟩ := id hf
  intro k
  induction k with
  | zero =>
    intro i v H locs ls hik hv hP hD hS hl kk
    have hdl := hdC_le Es Rw i
    refine lv_iload_n hx hb dX10_scenes_8 rfl (lv_at hl 0 rfl) ?_
    refine lv_aload_n hx hb dX10_scenes_9 rfl (lv_at hl 2 rfl) ?_
    refine va_get (D := D) (ci := 11) (v := .int (I 44)) (C := RX10) (T := TX10) (N := 48) hx hb hts inX10 hown hK hP 0 rfl rfl 44 (by decide) (hts _ k_1188) (fun _ h9 => h9) rfl dX10_scenes_10 ?_
    refine q_seti (y := (nI mr)) hI44 ?_
    refine lv_icmp_ge (tgt := 38) hx hb dX10_scenes_13 (by decide) (fun c_1 => ?_) (fun c_1 => ?_)
    · have c_1 := q_le (a := mr) (b := i) (by omega) (by omega) c_1
      obtain rfl : mr = i := by omega
      exact kk v H locs ls hv hP hD hS (lv_sub hl (l' := [(1, .int (nI v)), (0, .ref h0)]) [1, 2] rfl)
    · have c_1 := q_nle (a := mr) (b := i) (by omega) (by omega) c_1
      exact absurd hik (by omega)
  | succ k ih =>
    intro i v H locs ls hik hv hP hD hS hl kk
    have hdl := hdC_le Es Rw i
    refine lv_iload_n hx hb dX10_scenes_8 rfl (lv_at hl 0 rfl) ?_
    refine lv_aload_n hx hb dX10_scenes_9 rfl (lv_at hl 2 rfl) ?_
    refine va_get (D := D) (ci := 11) (v := .int (I 44)) (C := RX10) (T := TX10) (N := 48) hx hb hts inX10 hown hK hP 0 rfl rfl 44 (by decide) (hts _ k_1188) (fun _ h9 => h9) rfl dX10_scenes_10 ?_
    refine q_seti (y := (nI mr)) hI44 ?_
    refine lv_icmp_ge (tgt := 38) hx hb dX10_scenes_13 (by decide) (fun c_1 => ?_) (fun c_1 => ?_)
    · have c_1 := q_le (a := mr) (b := i) (by omega) (by omega) c_1
      exact absurd hik (by omega)
    · have c_1 := q_nle (a := mr) (b := i) (by omega) (by omega) c_1
      refine lv_iload_n hx hb dX10_scenes_16 rfl (lv_at hl 1 rfl) ?_
      refine lv_aload_n hx hb dX10_scenes_17 rfl (lv_at hl 2 rfl) ?_
      refine lv_iload_n hx hb dX10_scenes_18 rfl (lv_at hl 0 rfl) ?_
      refine q_ci (k := cells) (n := slots) hK hP hD hS hA (fun hPc hKc hDc => q_rV (As := [.int (nI i)]) (rest := [.int (nI v)]) hf (r_isHead _ D h0 q cB cI cZ I F Es sl mr Rw i hre hI44 hm hrow (by omega) _) k_1491 k_1488 k_1490 k_77 k_98 (nA := 1) (by decide +kernel) ⟨Nat.le_trans (by decide) hRf, Nat.le_trans (by decide) hRl⟩ hK hP (ci := 11) (q0 := 0) rfl rfl rfl hPc hKc hDc (fun _ _ _ _ h => h) (fun _ _ _ => trivial) rfl hl.1 rfl (Nat.le_of_ble_eq_true rfl) dX10_scenes_19 ⟨hRc, hRs⟩) (Nat.le_refl _) (Nat.le_refl _) (fun r u H locs hw hK hP hD hS => ?_)
      rcases hw with ⟨⟨c_2, rfl⟩ | ⟨c_2, rfl⟩, rfl⟩
      · have hP : va_P D vcl (mW h0 q cB cI cZ I F) H := hP
        have hD : va_D A (mW h0 q cB cI cZ I F) := hD
        refine lv_if_eq (tgt := 29) hx hb dX10_scenes_22 (by decide) (fun hno => absurd hno (by decide)) (fun _ => ?_)
        refine lv_iconst (v := 1) hx hb dX10_scenes_25 (by decide) ?_
        refine lv_goto (tgt := 30) hx hb dX10_scenes_26 (by decide) ?_
        refine lv_iadd hx hb dX10_scenes_30 ?_
        refine q_seti (y := nI (v + 1)) (nI_add v 1) ?_
        refine lv_istore_n (lv' := [(1, .int (nI (v + 1))), (2, .int (nI i)), (0, .ref h0)]) hx hb dX10_scenes_31 rfl hl (by decide) rfl (fun ls hl => ?_)
        refine lv_iinc (v := (nI (i + 1))) (lv' := [(2, .int (nI (i + 1))), (1, .int (nI (v + 1))), (0, .ref h0)]) hx hb dX10_scenes_32 hl (k := 1) rfl (nI_add i 1) (by decide) rfl (fun ls hl => ?_)
        refine lv_goto (tgt := 8) hx hb dX10_scenes_35 (by decide) ?_
        have hh9 := hdC_y (Es := Es) (Rw := Rw) c_2
        exact ih (i + 1) _ H locs ls (by omega) (by rw [hh9, hv]) hP hD hS (lv_sub hl (l' := [(2, .int (nI (i + 1))), (1, .int (nI (v + 1))), (0, .ref h0)]) [0, 1, 2] rfl) kk
      · have hP : va_P D vcl (mW h0 q cB cI cZ I F) H := hP
        have hD : va_D A (mW h0 q cB cI cZ I F) := hD
        refine lv_if_eq (tgt := 29) hx hb dX10_scenes_22 (by decide) (fun _ => ?_) (fun hno => absurd hno (by decide))
        refine lv_iconst (v := 0) hx hb dX10_scenes_29 (by decide) ?_
        refine lv_iadd hx hb dX10_scenes_30 ?_
        refine q_seti (y := nI (v + 0)) (nI_add v 0) ?_
        refine q_seti (y := nI v) (congrArg nI (show v + 0 = v by omega)) ?_
        refine lv_istore_n (lv' := [(1, .int (nI v)), (2, .int (nI i)), (0, .ref h0)]) hx hb dX10_scenes_31 rfl hl (by decide) rfl (fun ls hl => ?_)
        refine lv_iinc (v := (nI (i + 1))) (lv' := [(2, .int (nI (i + 1))), (1, .int (nI v)), (0, .ref h0)]) hx hb dX10_scenes_32 hl (k := 1) rfl (nI_add i 1) (by decide) rfl (fun ls hl => ?_)
        refine lv_goto (tgt := 8) hx hb dX10_scenes_35 (by decide) ?_
        have hh9 := hdC_n (Es := Es) (Rw := Rw) c_2
        exact ih (i + 1) _ H locs ls (by omega) (by rw [hh9, hv]) hP hD hS (lv_sub hl (l' := [(2, .int (nI (i + 1))), (1, .int (nI v)), (0, .ref h0)]) [0, 1, 2] rfl) kk
set_option maxHeartbeats 1000000 in
set_option maxRecDepth 100000 in
theorem r_scenes (l : Launch) (D : va_G) (h0 : Nat) (q : Nat → Nat) (cB cI_ cZ : ClassId) (I : Nat → Int32) (F : Nat → Nat → Int32) (Es : List E5) (sl : Nat → Nat) (P : List Q4) (hre : reR F Es sl) (hI14 : I 14 = nI P.length) (hpn : P.length ≤ 7000) (hpcF : pc_is P (F 15) (F 16) (F 17) (F 18)) (hQ : pq_ok Es.length (fun e => Es.getD e dE) P) (hmg : (mgI P P.length).length ≤ 60) : cI l D yX10_scenes cX10_scenes 3 (some .int) 1 21 0 0 [.ref h0] zT (mW h0 q cB cI_ cZ I F) (mT cB cI_ cZ) (fun r u => ∃ (g45 : Nat → Int32), r = nI (hdC Es (fun j => (mgI P P.length).getD j 0) (mgI P P.length).length) ∧ rwI (mgI P P.length) g45 ∧ u = (mW h0 q cB cI_ cZ (upd I 44 (nI (mgI P P.length).length)) (va_up F 45 g45), mT cB cI_ cZ)) := by
  refine q_si (by decide) (Nat.le_of_ble_eq_true rfl) ?_
  intro p e s m below meth c A ls hAe hf hr hlocks hin hK hP hD hS hA hZ hl
  obtain ⟨hx, hb, hml, hown, hts⟩ := id hf
  have hl : lv_has ls 3 [(0, .ref h0)] := hl
  refine lv_aload_n hx hb dX10_scenes_0 rfl (lv_at hl 0 rfl) ?_
  refine q_cv (k := 0) (n := 0) hK hP hD hS hA (fun hPc hKc hDc => q_rV (As := []) (rest := []) hf (r_findRow _ D h0 q cB cI_ cZ I F Es sl P hre hI14 hpn hpcF hQ hmg _) k_1487 k_1484 k_1486 k_76 k_98 (nA := 0) (by decide +kernel) ⟨Nat.le_of_ble_eq_true rfl, Nat.le_of_ble_eq_true rfl⟩ hK hP (ci := 11) (q0 := 0) rfl rfl rfl hPc hKc hDc (fun _ _ _ _ h => h) (fun _ _ _ => trivial) rfl hl.1 rfl (Nat.le_of_ble_eq_true rfl) dX10_scenes_1 ⟨Nat.le_of_ble_eq_true rfl, Nat.le_of_ble_eq_true rfl⟩) (by decide) (by decide) (fun u H locs hw hK hP hD hS => ?_)
  obtain ⟨g45, hrwI, rfl⟩ := hw
  have hP : va_P D vcl (mW h0 q cB cI_ cZ (upd I 44 (nI ((mgI P P.length).length))) (va_up F 45 g45)) H := hP
  have hD : va_D A (mW h0 q cB cI_ cZ (upd I 44 (nI ((mgI P P.length).length))) (va_up F 45 g45)) := hD
  have hrow : ∀ j, j < (mgI P P.length).length → g45 j = nI ((fun j => (mgI P P.length).getD j 0) j) ∧ (fun j => (mgI P P.length).getD j 0) j < Es.length := fun j hj => ⟨hrwI j hj, mgI_in (fun i hi => (hQ i hi).1) _ (Nat.le_refl _) j hj⟩
  refine lv_iconst (v := 0) hx hb dX10_scenes_4 (by decide) ?_
  refine lv_istore_n (lv' := [(1, .int 0), (0, .ref h0)]) hx hb dX10_scenes_5 rfl hl (by decide) rfl (fun ls hl => ?_)
  refine lv_iconst (v := 0) hx hb dX10_scenes_6 (by decide) ?_
  refine lv_istore_n (lv' := [(2, .int 0), (1, .int 0), (0, .ref h0)]) hx hb dX10_scenes_7 rfl hl (by decide) rfl (fun ls hl => ?_)
  refine lsc_ (I := (upd I 44 (nI ((mgI P P.length).length)))) (F := (va_up F 45 g45)) (Es := Es) (sl := sl) (mr := (mgI P P.length).length) (Rw := (fun j => (mgI P P.length).getD j 0)) hre rfl hmg hrow (Nat.le_of_ble_eq_true rfl) (Nat.le_of_ble_eq_true rfl) (Nat.le_of_ble_eq_true rfl) (Nat.le_of_ble_eq_true rfl) hA hf hK (mgI P P.length).length 0 0 _ _ ls (by omega) rfl hP hD hS (lv_sub hl (l' := [(2, .int 0), (1, .int 0), (0, .ref h0)]) [0, 1, 2] rfl) (fun v H locs ls a1 hP hD hS hl => ?_)
  refine lv_iload_n hx hb dX10_scenes_38 rfl (lv_at hl 0 rfl) ?_
  exact q_zi hf hr rfl hlocks hK hP hD hS (Nat.le_of_ble_eq_true rfl) (Nat.le_of_ble_eq_true rfl) ⟨g45, congrArg nI a1, hrwI, rfl⟩ dX10_scenes_39
set_option maxHeartbeats 1000000 in
set_option maxRecDepth 100000 in
theorem lsf_ {p : Program} {l : Launch} {e : Env} {R : Room} {s : State} {m : MethodId} {args : Array Value} {below : List Frame} {meth : Method} {c : Code} {cells slots : Nat} {Q : State → Prop} {D : va_G} {A : Nat → Prop} {h0 : Nat} {q : Nat → Nat} {cB cI cZ : ClassId} {I : Nat → Int32} {F : Nat → Nat → Int32} {Es : List E5} {sl : Nat → Nat} {mr : Nat} {Rw : Nat → Nat} {s1 : Nat} (hs1 : s1 ≤ 100) (hre : reR F Es sl) (hI44 : I 44 = nI mr) (hm : mr ≤ 60) (hrow : ∀ j, j < mr → F 45 j = nI (Rw j) ∧ Rw j < Es.length) (hRf : 1 ≤ R.frames) (hRl : 21 ≤ R.locals) (hRc : cells ≤ R.cells) (hRs : slots ≤ R.slots) (hA : ∀ q : Nat, s.heap.size ≤ q → A q) (hf : CallFix p m c cX10_sceneFrom 4 s args gT yX10_sceneFrom.cls) (hK : va_K D vcl (mT cB cI cZ) s) :
    ∀ (k : Nat) (i : Nat) (lf : Nat) (H : Heap) (locs : List Loc) (ls : Array Slot), i + k = mr → lf + hdC Es Rw i = s1 →  va_P D vcl (mW h0 q cB cI cZ I F) H → va_D A (mW h0 q cB cI cZ I F) → va_S A s.heap H locs → lv_has ls 4 [(3, .int (nI i)), (2, .int (nI lf)), (0, .ref h0)] →
    (∀ (i : Nat) (H : Heap) (locs : List Loc) (ls : Array Slot), i < mr → va_P D vcl (mW h0 q cB cI cZ I F) H → va_D A (mW h0 q cB cI cZ I F) → va_S A s.heap H locs → lv_has ls 4 [(3, .int (nI i)), (0, .ref h0)] → W p l e R s m args below meth c H locs cells slots Q (F0 m 24 ls [])) →
    (∀  (H : Heap) (locs : List Loc) (ls : Array Slot), hdC Es Rw mr ≤ s1 → va_P D vcl (mW h0 q cB cI cZ I F) H → va_D A (mW h0 q cB cI cZ I F) → va_S A s.heap H locs → lv_has ls 4 [(0, .ref h0)] → W p l e R s m args below meth c H locs cells slots Q (F0 m 35 ls [])) →
    W p l e R s m args below meth c H locs cells slots Q (F0 m 4 ls []) := by
  obtain ⟨hx, hb, hml, hown, hts⟩ := id hf
  intro k
  induction k with
  | zero =>
    intro i lf H locs ls hik hv hP hD hS hl kA kB
    refine lv_iload_n hx hb dX10_sceneFrom_4 rfl (lv_at hl 0 rfl) ?_
    refine lv_aload_n hx hb dX10_sceneFrom_5 rfl (lv_at hl 2 rfl) ?_
    refine va_get (D := D) (ci := 11) (v := .int (I 44)) (C := RX10) (T := TX10) (N := 48) hx hb hts inX10 hown hK hP 0 rfl rfl 44 (by decide) (hts _ k_1188) (fun _ h9 => h9) rfl dX10_sceneFrom_6 ?_
    refine q_seti (y := (nI mr)) hI44 ?_
    refine lv_icmp_ge (tgt := 35) hx hb dX10_sceneFrom_9 (by decide) (fun c_1 => ?_) (fun c_1 => ?_)
    · have c_1 := q_le (a := mr) (b := i) (by omega) (by omega) c_1
      obtain rfl : mr = i := by omega
      exact kB H locs ls (by omega) hP hD hS (lv_sub hl (l' := [(0, .ref h0)]) [2] rfl)
    · have c_1 := q_nle (a := mr) (b := i) (by omega) (by omega) c_1
      exact absurd hik (by omega)
  | succ k ih =>
    intro i lf H locs ls hik hv hP hD hS hl kA kB
    refine lv_iload_n hx hb dX10_sceneFrom_4 rfl (lv_at hl 0 rfl) ?_
    refine lv_aload_n hx hb dX10_sceneFrom_5 rfl (lv_at hl 2 rfl) ?_
    refine va_get (D := D) (ci := 11) (v := .int (I 44)) (C := RX10) (T := TX10) (N := 48) hx hb hts inX10 hown hK hP 0 rfl rfl 44 (by decide) (hts _ k_1188) (fun _ h9 => h9) rfl dX10_sceneFrom_6 ?_
    refine q_seti (y := (nI mr)) hI44 ?_
    refine lv_icmp_ge (tgt := 35) hx hb dX10_sceneFrom_9 (by decide) (fun c_1 => ?_) (fun c_1 => ?_)
    · have c_1 := q_le (a := mr) (b := i) (by omega) (by omega) c_1
      exact absurd hik (by omega)
    · have c_1 := q_nle (a := mr) (b := i) (by omega) (by omega) c_1
      refine lv_aload_n hx hb dX10_sceneFrom_12 rfl (lv_at hl 2 rfl) ?_
      refine lv_iload_n hx hb dX10_sceneFrom_13 rfl (lv_at hl 0 rfl) ?_
      refine q_ci (k := cells) (n := slots) hK hP hD hS hA (fun hPc hKc hDc => q_rV (As := [.int (nI i)]) (rest := []) hf (r_isHead _ D h0 q cB cI cZ I F Es sl mr Rw i hre hI44 hm hrow (by omega) _) k_1491 k_1488 k_1490 k_77 k_98 (nA := 1) (by decide +kernel) ⟨Nat.le_trans (by decide) hRf, Nat.le_trans (by decide) hRl⟩ hK hP (ci := 11) (q0 := 0) rfl rfl rfl hPc hKc hDc (fun _ _ _ _ h => h) (fun _ _ _ => trivial) rfl hl.1 rfl (Nat.le_of_ble_eq_true rfl) dX10_sceneFrom_14 ⟨hRc, hRs⟩) (Nat.le_refl _) (Nat.le_refl _) (fun r u H locs hw hK hP hD hS => ?_)
      rcases hw with ⟨⟨c_2, rfl⟩ | ⟨c_2, rfl⟩, rfl⟩
      · have hP : va_P D vcl (mW h0 q cB cI cZ I F) H := hP
        have hD : va_D A (mW h0 q cB cI cZ I F) := hD
        refine lv_if_eq (tgt := 29) hx hb dX10_sceneFrom_17 (by decide) (fun hno => absurd hno (by decide)) (fun _ => ?_)
        refine lv_iload_n hx hb dX10_sceneFrom_20 rfl (lv_at hl 1 rfl) ?_
        refine lv_if_ne (tgt := 26) hx hb dX10_sceneFrom_21 (by decide) (fun c_3 => ?_) (fun c_3 => ?_)
        · have c_3 := q_nen (a := lf) (b := 0) (by omega) (by omega) c_3
          refine lv_iinc (v := (nI (lf - 1))) (lv' := [(2, .int (nI (lf - 1))), (3, .int (nI i)), (0, .ref h0)]) hx hb dX10_sceneFrom_26 hl (k := 1) rfl (sb_m1 (by omega)) (by decide) rfl (fun ls hl => ?_)
          refine lv_iinc (v := (nI (i + 1))) (lv' := [(3, .int (nI (i + 1))), (2, .int (nI (lf - 1))), (0, .ref h0)]) hx hb dX10_sceneFrom_29 hl (k := 1) rfl (nI_add i 1) (by decide) rfl (fun ls hl => ?_)
          refine lv_goto (tgt := 4) hx hb dX10_sceneFrom_32 (by decide) ?_
          have hh9 := hdC_y (Es := Es) (Rw := Rw) c_2
          exact ih (i + 1) _ H locs ls (by omega) (by rw [hh9]; omega) hP hD hS (lv_sub hl (l' := [(3, .int (nI (i + 1))), (2, .int (nI (lf - 1))), (0, .ref h0)]) [0, 1, 2] rfl) kA kB
        · have c_3 := q_eqn (a := lf) (b := 0) (by omega) (by omega) c_3
          exact kA i H locs ls (by omega) hP hD hS (lv_sub hl (l' := [(3, .int (nI i)), (0, .ref h0)]) [0, 2] rfl)
      · have hP : va_P D vcl (mW h0 q cB cI cZ I F) H := hP
        have hD : va_D A (mW h0 q cB cI cZ I F) := hD
        refine lv_if_eq (tgt := 29) hx hb dX10_sceneFrom_17 (by decide) (fun _ => ?_) (fun hno => absurd hno (by decide))
        refine lv_iinc (v := (nI (i + 1))) (lv' := [(3, .int (nI (i + 1))), (2, .int (nI lf)), (0, .ref h0)]) hx hb dX10_sceneFrom_29 hl (k := 0) rfl (nI_add i 1) (by decide) rfl (fun ls hl => ?_)
        refine lv_goto (tgt := 4) hx hb dX10_sceneFrom_32 (by decide) ?_
        have hh9 := hdC_n (Es := Es) (Rw := Rw) c_2
        exact ih (i + 1) _ H locs ls (by omega) (by rw [hh9]; omega) hP hD hS (lv_sub hl (l' := [(3, .int (nI (i + 1))), (2, .int (nI lf)), (0, .ref h0)]) [0, 1, 2] rfl) kA kB
set_option maxHeartbeats 1000000 in
set_option maxRecDepth 100000 in
theorem r_sceneFrom (l : Launch) (D : va_G) (h0 : Nat) (q : Nat → Nat) (cB cI_ cZ : ClassId) (I : Nat → Int32) (F : Nat → Nat → Int32) (Es : List E5) (sl : Nat → Nat) (mr : Nat) (Rw : Nat → Nat) (s1 : Nat) (hs1 : s1 ≤ 100) (hre : reR F Es sl) (hI44 : I 44 = nI mr) (hm : mr ≤ 60) (hrow : ∀ j, j < mr → F 45 j = nI (Rw j) ∧ Rw j < Es.length) : cI l D yX10_sceneFrom cX10_sceneFrom 4 (some .int) 1 21 0 0 [.ref h0, .int (nI s1)] zT (mW h0 q cB cI_ cZ I F) (mT cB cI_ cZ) (fun r u => ∃ z : Nat, r = nI z ∧ z ≤ mr ∧ (s1 < hdC Es Rw mr → z < mr) ∧ u = (mW h0 q cB cI_ cZ I F, mT cB cI_ cZ)) := by
  refine q_si (by decide) (Nat.le_of_ble_eq_true rfl) ?_
  intro p e s m below meth c A ls hAe hf hr hlocks hin hK hP hD hS hA hZ hl
  obtain ⟨hx, hb, hml, hown, hts⟩ := id hf
  have hl : lv_has ls 4 [(0, .ref h0), (1, .int (nI s1))] := hl
  refine lv_iload_n hx hb dX10_sceneFrom_0 rfl (lv_at hl 1 rfl) ?_
  refine lv_istore_n (lv' := [(2, .int (nI s1)), (0, .ref h0), (1, .int (nI s1))]) hx hb dX10_sceneFrom_1 rfl hl (by decide) rfl (fun ls hl => ?_)
  refine lv_iconst (v := 0) hx hb dX10_sceneFrom_2 (by decide) ?_
  refine lv_istore_n (lv' := [(3, .int 0), (2, .int (nI s1)), (0, .ref h0), (1, .int (nI s1))]) hx hb dX10_sceneFrom_3 rfl hl (by decide) rfl (fun ls hl => ?_)
  refine lsf_ (Es := Es) (sl := sl) (mr := mr) (Rw := Rw) (s1 := s1) hs1 hre hI44 hm hrow (Nat.le_of_ble_eq_true rfl) (Nat.le_of_ble_eq_true rfl) (Nat.le_of_ble_eq_true rfl) (Nat.le_of_ble_eq_true rfl) hA hf hK mr 0 s1 _ _ ls (by omega) (Nat.add_zero _) hP hD hS (lv_sub hl (l' := [(3, .int 0), (2, .int (nI s1)), (0, .ref h0)]) [0, 1, 2] rfl) (fun i H locs ls a1 hP hD hS hl => ?_) (fun H locs ls a1 hP hD hS hl => ?_)
  · refine lv_iload_n hx hb dX10_sceneFrom_24 rfl (lv_at hl 0 rfl) ?_
    exact q_zi hf hr rfl hlocks hK hP hD hS (Nat.le_of_ble_eq_true rfl) (Nat.le_of_ble_eq_true rfl) ⟨i, rfl, by omega, fun _ => a1, rfl⟩ dX10_sceneFrom_25
  · refine lv_aload_n hx hb dX10_sceneFrom_35 rfl (lv_at hl 0 rfl) ?_
    refine va_get (D := D) (ci := 11) (v := .int (I 44)) (C := RX10) (T := TX10) (N := 48) hx hb hts inX10 hown hK hP 0 rfl rfl 44 (by decide) (hts _ k_1188) (fun _ h9 => h9) rfl dX10_sceneFrom_36 ?_
    refine q_seti (y := (nI mr)) hI44 ?_
    exact q_zi hf hr rfl hlocks hK hP hD hS (Nat.le_of_ble_eq_true rfl) (Nat.le_of_ble_eq_true rfl) ⟨mr, rfl, Nat.le_refl _, fun h9 => absurd h9 (by omega), rfl⟩ dX10_sceneFrom_39
set_option maxHeartbeats 1000000 in
set_option maxRecDepth 100000 in
theorem lal_ {p : Program} {l : Launch} {e : Env} {R : Room} {s : State} {m : MethodId} {args : Array Value} {below : List Frame} {meth : Method} {c : Code} {cells slots : Nat} {Q : State → Prop} {D : va_G} {A : Nat → Prop} {h0 : Nat} {q : Nat → Nat} {cB cI cZ : ClassId} {I : Nat → Int32} {F : Nat → Nat → Int32} {Es : List E5} {sl : Nat → Nat} {e1 e2 : Nat} (hre : reR F Es sl) (he1 : e1 < Es.length) (he2 : e2 < Es.length) (hRf : 0 ≤ R.frames) (hRl : 0 ≤ R.locals) (hRc : cells ≤ R.cells) (hRs : slots ≤ R.slots) (hA : ∀ q : Nat, s.heap.size ≤ q → A q) (hf : CallFix p m c cX10_areLike 7 s args gT yX10_areLike.cls) (hK : va_K D vcl (mT cB cI cZ) s) :
    ∀ (k : Nat) (i : Nat) (b : Nat) (H : Heap) (locs : List Loc) (ls : Array Slot), i + k = (Es.getD e1 dE).2.2.2.2.length → b ≤ 1 →  va_P D vcl (mW h0 q cB cI cZ I F) H → va_D A (mW h0 q cB cI cZ I F) → va_S A s.heap H locs → lv_has ls 7 [(6, .int (nI i)), (5, .int (nI b)), (4, .int (nI ((sl e2)))), (3, .int (nI ((sl e1)))), (0, .ref h0)] →
    (∀ (b : Nat) (H : Heap) (locs : List Loc) (ls : Array Slot), b ≤ 1 → va_P D vcl (mW h0 q cB cI cZ I F) H → va_D A (mW h0 q cB cI cZ I F) → va_S A s.heap H locs → lv_has ls 7 [(5, .int (nI b)), (0, .ref h0)] → W p l e R s m args below meth c H locs cells slots Q (F0 m 100 ls [])) →
    W p l e R s m args below meth c H locs cells slots Q (F0 m 41 ls []) := by
  obtain ⟨hx, hb, hml, hown, hts⟩ := id hf
  have hre1 := hre.1
  have hq1 := (hre.2.1 e1 he1).2.1
  have hq2 := (hre.2.1 e2 he2).2.1
  have hl1 := (hre.2.1 e1 he1).2.2.2.2.2.2.2.1
  have hl2 := (hre.2.1 e2 he2).2.2.2.2.2.2.2.1
  intro k
  induction k with
  | zero =>
    intro i b H locs ls hik hb1 hP hD hS hl kk
    refine lv_iload hx hb dX10_areLike_41 (lv_at hl 0 rfl) ?_
    refine lv_aload_n hx hb dX10_areLike_43 rfl (lv_at hl 4 rfl) ?_
    refine va_get (D := D) (ci := 11) (v := .ref (q 9)) (C := RX10) (T := TX10) (N := 48) hx hb hts inX10 hown hK hP 0 rfl rfl 9 (by decide) (hts _ k_1153) (fun _ h9 => h9) rfl dX10_areLike_44 ?_
    refine lv_iload_n hx hb dX10_areLike_47 rfl (lv_at hl 3 rfl) ?_
    refine q_ild (X := (sl e1)) (f := (F 9)) hx hb hK hP 7 1 rfl rfl (by omega) (by decide) dX10_areLike_48 ?_
    refine q_seti (y := (nI ((Es.getD e1 dE).2.2.2.2.length))) (hre.2.1 e1 (by omega)).2.2.2.2.2.2.1 ?_
    refine lv_icmp_ge (tgt := 100) hx hb dX10_areLike_49 (by decide) (fun c_1 => ?_) (fun c_1 => ?_)
    · have c_1 := q_le (a := (Es.getD e1 dE).2.2.2.2.length) (b := i) (by omega) (by omega) c_1
      exact kk b H locs ls hb1 hP hD hS (lv_sub hl (l' := [(5, .int (nI b)), (0, .ref h0)]) [1, 4] rfl)
    · have c_1 := q_nle (a := (Es.getD e1 dE).2.2.2.2.length) (b := i) (by omega) (by omega) c_1
      exact absurd hik (by omega)
  | succ k ih =>
    intro i b H locs ls hik hb1 hP hD hS hl kk
    refine lv_iload hx hb dX10_areLike_41 (lv_at hl 0 rfl) ?_
    refine lv_aload_n hx hb dX10_areLike_43 rfl (lv_at hl 4 rfl) ?_
    refine va_get (D := D) (ci := 11) (v := .ref (q 9)) (C := RX10) (T := TX10) (N := 48) hx hb hts inX10 hown hK hP 0 rfl rfl 9 (by decide) (hts _ k_1153) (fun _ h9 => h9) rfl dX10_areLike_44 ?_
    refine lv_iload_n hx hb dX10_areLike_47 rfl (lv_at hl 3 rfl) ?_
    refine q_ild (X := (sl e1)) (f := (F 9)) hx hb hK hP 7 1 rfl rfl (by omega) (by decide) dX10_areLike_48 ?_
    refine q_seti (y := (nI ((Es.getD e1 dE).2.2.2.2.length))) (hre.2.1 e1 (by omega)).2.2.2.2.2.2.1 ?_
    refine lv_icmp_ge (tgt := 100) hx hb dX10_areLike_49 (by decide) (fun c_1 => ?_) (fun c_1 => ?_)
    · have c_1 := q_le (a := (Es.getD e1 dE).2.2.2.2.length) (b := i) (by omega) (by omega) c_1
      exact kk b H locs ls hb1 hP hD hS (lv_sub hl (l' := [(5, .int (nI b)), (0, .ref h0)]) [1, 4] rfl)
    · have c_1 := q_nle (a := (Es.getD e1 dE).2.2.2.2.length) (b := i) (by omega) (by omega) c_1
      refine lv_iload hx hb dX10_areLike_52 (lv_at hl 1 rfl) ?_
      refine lv_if_eq (tgt := 100) hx hb dX10_areLike_54 (by decide) (fun c_2 => ?_) (fun c_2 => ?_)
      · have c_2 := q_eqn (a := b) (b := 0) (by omega) (by omega) c_2
        exact kk b H locs ls hb1 hP hD hS (lv_sub hl (l' := [(5, .int (nI b)), (0, .ref h0)]) [1, 4] rfl)
      · have c_2 := q_nen (a := b) (b := 0) (by omega) (by omega) c_2
        refine lv_aload_n hx hb dX10_areLike_57 rfl (lv_at hl 4 rfl) ?_
        refine va_get (D := D) (ci := 11) (v := .ref (q 10)) (C := RX10) (T := TX10) (N := 48) hx hb hts inX10 hown hK hP 0 rfl rfl 10 (by decide) (hts _ k_1154) (fun _ h9 => h9) rfl dX10_areLike_58 ?_
        refine lv_sipush (v := 1200) hx hb dX10_areLike_61 (by decide) ?_
        refine lv_iload_n hx hb dX10_areLike_64 rfl (lv_at hl 3 rfl) ?_
        refine lv_imul hx hb dX10_areLike_65 ?_
        refine q_seti (y := nI (1200 * ((sl e1)))) (pk_mul 1200 ((sl e1))) ?_
        refine lv_iload hx hb dX10_areLike_66 (lv_at hl 0 rfl) ?_
        refine lv_iadd hx hb dX10_areLike_68 ?_
        refine q_seti (y := nI ((1200 * ((sl e1))) + i)) (nI_add (1200 * ((sl e1))) i) ?_
        refine q_bld (X := (1200 * ((sl e1))) + i) (f := (F 10)) hx hb hK hP 8 0 rfl rfl (by omega) (by decide) dX10_areLike_69 ?_
        refine lv_aload_n hx hb dX10_areLike_70 rfl (lv_at hl 4 rfl) ?_
        refine va_get (D := D) (ci := 11) (v := .ref (q 10)) (C := RX10) (T := TX10) (N := 48) hx hb hts inX10 hown hK hP 0 rfl rfl 10 (by decide) (hts _ k_1154) (fun _ h9 => h9) rfl dX10_areLike_71 ?_
        refine lv_sipush (v := 1200) hx hb dX10_areLike_74 (by decide) ?_
        refine lv_iload hx hb dX10_areLike_77 (lv_at hl 2 rfl) ?_
        refine lv_imul hx hb dX10_areLike_79 ?_
        refine q_seti (y := nI (1200 * ((sl e2)))) (pk_mul 1200 ((sl e2))) ?_
        refine lv_iload hx hb dX10_areLike_80 (lv_at hl 0 rfl) ?_
        refine lv_iadd hx hb dX10_areLike_82 ?_
        refine q_seti (y := nI ((1200 * ((sl e2))) + i)) (nI_add (1200 * ((sl e2))) i) ?_
        refine q_bld (X := (1200 * ((sl e2))) + i) (f := (F 10)) hx hb hK hP 8 0 rfl rfl (by omega) (by decide) dX10_areLike_83 ?_
        refine lv_icmp_ne (tgt := 91) hx hb dX10_areLike_84 (by decide) (fun c_3 => ?_) (fun c_3 => ?_)
        · refine lv_iconst (v := 0) hx hb dX10_areLike_91 (by decide) ?_
          refine lv_istore (lv' := [(5, .int 0), (6, .int (nI i)), (4, .int (nI ((sl e2)))), (3, .int (nI ((sl e1)))), (0, .ref h0)]) hx hb dX10_areLike_92 hl (by decide) rfl (fun ls hl => ?_)
          refine lv_iinc (v := (nI (i + 1))) (lv' := [(6, .int (nI (i + 1))), (5, .int 0), (4, .int (nI ((sl e2)))), (3, .int (nI ((sl e1)))), (0, .ref h0)]) hx hb dX10_areLike_94 hl (k := 1) rfl (nI_add i 1) (by decide) rfl (fun ls hl => ?_)
          refine lv_goto (tgt := 41) hx hb dX10_areLike_97 (by decide) ?_
          exact ih (i + 1) 0 H locs ls (by omega) (by omega) hP hD hS (lv_sub hl (l' := [(6, .int (nI (i + 1))), (5, .int 0), (4, .int (nI ((sl e2)))), (3, .int (nI ((sl e1)))), (0, .ref h0)]) [0, 1, 2, 3, 4] rfl) kk
        · refine lv_iconst (v := 1) hx hb dX10_areLike_87 (by decide) ?_
          refine lv_goto (tgt := 92) hx hb dX10_areLike_88 (by decide) ?_
          refine lv_istore (lv' := [(5, .int 1), (6, .int (nI i)), (4, .int (nI ((sl e2)))), (3, .int (nI ((sl e1)))), (0, .ref h0)]) hx hb dX10_areLike_92 hl (by decide) rfl (fun ls hl => ?_)
          refine lv_iinc (v := (nI (i + 1))) (lv' := [(6, .int (nI (i + 1))), (5, .int 1), (4, .int (nI ((sl e2)))), (3, .int (nI ((sl e1)))), (0, .ref h0)]) hx hb dX10_areLike_94 hl (k := 1) rfl (nI_add i 1) (by decide) rfl (fun ls hl => ?_)
          refine lv_goto (tgt := 41) hx hb dX10_areLike_97 (by decide) ?_
          exact ih (i + 1) 1 H locs ls (by omega) (by omega) hP hD hS (lv_sub hl (l' := [(6, .int (nI (i + 1))), (5, .int 1), (4, .int (nI ((sl e2)))), (3, .int (nI ((sl e1)))), (0, .ref h0)]) [0, 1, 2, 3, 4] rfl) kk
set_option maxHeartbeats 1000000 in
set_option maxRecDepth 100000 in
theorem r_areLike (l : Launch) (D : va_G) (h0 : Nat) (q : Nat → Nat) (cB cI_ cZ : ClassId) (I : Nat → Int32) (F : Nat → Nat → Int32) (Es : List E5) (sl : Nat → Nat) (e1 e2 : Nat) (hre : reR F Es sl) (he1 : e1 < Es.length) (he2 : e2 < Es.length) : cI l D yX10_areLike cX10_areLike 7 (some .boolean) 0 0 0 0 [.ref h0, .int (nI e1), .int (nI e2)] zT (mW h0 q cB cI_ cZ I F) (mT cB cI_ cZ) (fun r u => u = (mW h0 q cB cI_ cZ I F, mT cB cI_ cZ)) := by
  refine q_si (by decide) (Nat.le_of_ble_eq_true rfl) ?_
  intro p e s m below meth c A ls hAe hf hr hlocks hin hK hP hD hS hA hZ hl
  obtain ⟨hx, hb, hml, hown, hts⟩ := id hf
  have hl : lv_has ls 7 [(0, .ref h0), (1, .int (nI e1)), (2, .int (nI e2))] := hl
  have hre1 := hre.1
  have hq1 := (hre.2.1 e1 he1).2.1
  have hq2 := (hre.2.1 e2 he2).2.1
  have hl1 := (hre.2.1 e1 he1).2.2.2.2.2.2.2.1
  have hl2 := (hre.2.1 e2 he2).2.2.2.2.2.2.2.1
  refine lv_aload_n hx hb dX10_areLike_0 rfl (lv_at hl 0 rfl) ?_
  refine va_get (D := D) (ci := 11) (v := .ref (q 4)) (C := RX10) (T := TX10) (N := 48) hx hb hts inX10 hown hK hP 0 rfl rfl 4 (by decide) (hts _ k_1148) (fun _ h9 => h9) rfl dX10_areLike_1 ?_
  refine lv_iload_n hx hb dX10_areLike_4 rfl (lv_at hl 1 rfl) ?_
  refine q_ild (X := e1) (f := (F 4)) hx hb hK hP 2 1 rfl rfl (by omega) (by decide) dX10_areLike_5 ?_
  refine q_seti (y := (nI ((sl e1)))) (hre.2.1 e1 (by omega)).1 ?_
  refine lv_istore_n (lv' := [(3, .int (nI ((sl e1)))), (0, .ref h0), (1, .int (nI e1)), (2, .int (nI e2))]) hx hb dX10_areLike_6 rfl hl (by decide) rfl (fun ls hl => ?_)
  refine lv_aload_n hx hb dX10_areLike_7 rfl (lv_at hl 1 rfl) ?_
  refine va_get (D := D) (ci := 11) (v := .ref (q 4)) (C := RX10) (T := TX10) (N := 48) hx hb hts inX10 hown hK hP 0 rfl rfl 4 (by decide) (hts _ k_1148) (fun _ h9 => h9) rfl dX10_areLike_8 ?_
  refine lv_iload_n hx hb dX10_areLike_11 rfl (lv_at hl 3 rfl) ?_
  refine q_ild (X := e2) (f := (F 4)) hx hb hK hP 2 1 rfl rfl (by omega) (by decide) dX10_areLike_12 ?_
  refine q_seti (y := (nI ((sl e2)))) (hre.2.1 e2 (by omega)).1 ?_
  refine lv_istore (lv' := [(4, .int (nI ((sl e2)))), (3, .int (nI ((sl e1)))), (0, .ref h0), (1, .int (nI e1)), (2, .int (nI e2))]) hx hb dX10_areLike_13 hl (by decide) rfl (fun ls hl => ?_)
  refine lv_aload_n hx hb dX10_areLike_15 rfl (lv_at hl 2 rfl) ?_
  refine va_get (D := D) (ci := 11) (v := .ref (q 9)) (C := RX10) (T := TX10) (N := 48) hx hb hts inX10 hown hK hP 0 rfl rfl 9 (by decide) (hts _ k_1153) (fun _ h9 => h9) rfl dX10_areLike_16 ?_
  refine lv_iload_n hx hb dX10_areLike_19 rfl (lv_at hl 1 rfl) ?_
  refine q_ild (X := (sl e1)) (f := (F 9)) hx hb hK hP 7 1 rfl rfl (by omega) (by decide) dX10_areLike_20 ?_
  refine q_seti (y := (nI ((Es.getD e1 dE).2.2.2.2.length))) (hre.2.1 e1 (by omega)).2.2.2.2.2.2.1 ?_
  refine lv_aload_n hx hb dX10_areLike_21 rfl (lv_at hl 2 rfl) ?_
  refine va_get (D := D) (ci := 11) (v := .ref (q 9)) (C := RX10) (T := TX10) (N := 48) hx hb hts inX10 hown hK hP 0 rfl rfl 9 (by decide) (hts _ k_1153) (fun _ h9 => h9) rfl dX10_areLike_22 ?_
  refine lv_iload hx hb dX10_areLike_25 (lv_at hl 0 rfl) ?_
  refine q_ild (X := (sl e2)) (f := (F 9)) hx hb hK hP 7 1 rfl rfl (by omega) (by decide) dX10_areLike_27 ?_
  refine q_seti (y := (nI ((Es.getD e2 dE).2.2.2.2.length))) (hre.2.1 e2 (by omega)).2.2.2.2.2.2.1 ?_
  refine lv_icmp_ne (tgt := 35) hx hb dX10_areLike_28 (by decide) (fun c_1 => ?_) (fun c_1 => ?_)
  · have c_1 := q_nen (a := (Es.getD e1 dE).2.2.2.2.length) (b := (Es.getD e2 dE).2.2.2.2.length) (by omega) (by omega) c_1
    refine lv_iconst (v := 0) hx hb dX10_areLike_35 (by decide) ?_
    refine lv_istore (lv' := [(5, .int 0), (4, .int (nI ((sl e2)))), (3, .int (nI ((sl e1)))), (0, .ref h0), (1, .int (nI e1)), (2, .int (nI e2))]) hx hb dX10_areLike_36 hl (by decide) rfl (fun ls hl => ?_)
    refine lv_iconst (v := 0) hx hb dX10_areLike_38 (by decide) ?_
    refine lv_istore (lv' := [(6, .int 0), (5, .int 0), (4, .int (nI ((sl e2)))), (3, .int (nI ((sl e1)))), (0, .ref h0), (1, .int (nI e1)), (2, .int (nI e2))]) hx hb dX10_areLike_39 hl (by decide) rfl (fun ls hl => ?_)
    refine lal_ (Es := Es) (sl := sl) (e1 := e1) (e2 := e2) hre he1 he2 (Nat.le_of_ble_eq_true rfl) (Nat.le_of_ble_eq_true rfl) (Nat.le_of_ble_eq_true rfl) (Nat.le_of_ble_eq_true rfl) hA hf hK _ 0 0 _ _ ls (Nat.zero_add _) (by omega) hP hD hS (lv_sub hl (l' := [(6, .int 0), (5, .int 0), (4, .int (nI ((sl e2)))), (3, .int (nI ((sl e1)))), (0, .ref h0)]) [0, 1, 2, 3, 4] rfl) (fun b H locs ls hb1 hP hD hS hl => ?_)
    have hb01 : b = 1 ∨ b = 0 := by omega
    rcases hb01 with rfl | rfl
    · refine lv_iload hx hb dX10_areLike_100 (lv_at hl 0 rfl) ?_
      exact q_zi hf hr rfl hlocks hK hP hD hS (Nat.le_of_ble_eq_true rfl) (Nat.le_of_ble_eq_true rfl) rfl dX10_areLike_102
    · refine lv_iload hx hb dX10_areLike_100 (lv_at hl 0 rfl) ?_
      exact q_zi hf hr rfl hlocks hK hP hD hS (Nat.le_of_ble_eq_true rfl) (Nat.le_of_ble_eq_true rfl) rfl dX10_areLike_102
  · have c_1 := q_eqn (a := (Es.getD e1 dE).2.2.2.2.length) (b := (Es.getD e2 dE).2.2.2.2.length) (by omega) (by omega) c_1
    refine lv_iconst (v := 1) hx hb dX10_areLike_31 (by decide) ?_
    refine lv_goto (tgt := 36) hx hb dX10_areLike_32 (by decide) ?_
    refine lv_istore (lv' := [(5, .int 1), (4, .int (nI ((sl e2)))), (3, .int (nI ((sl e1)))), (0, .ref h0), (1, .int (nI e1)), (2, .int (nI e2))]) hx hb dX10_areLike_36 hl (by decide) rfl (fun ls hl => ?_)
    refine lv_iconst (v := 0) hx hb dX10_areLike_38 (by decide) ?_
    refine lv_istore (lv' := [(6, .int 0), (5, .int 1), (4, .int (nI ((sl e2)))), (3, .int (nI ((sl e1)))), (0, .ref h0), (1, .int (nI e1)), (2, .int (nI e2))]) hx hb dX10_areLike_39 hl (by decide) rfl (fun ls hl => ?_)
    refine lal_ (Es := Es) (sl := sl) (e1 := e1) (e2 := e2) hre he1 he2 (Nat.le_of_ble_eq_true rfl) (Nat.le_of_ble_eq_true rfl) (Nat.le_of_ble_eq_true rfl) (Nat.le_of_ble_eq_true rfl) hA hf hK _ 0 1 _ _ ls (Nat.zero_add _) (by omega) hP hD hS (lv_sub hl (l' := [(6, .int 0), (5, .int 1), (4, .int (nI ((sl e2)))), (3, .int (nI ((sl e1)))), (0, .ref h0)]) [0, 1, 2, 3, 4] rfl) (fun b H locs ls hb1 hP hD hS hl => ?_)
    have hb01 : b = 1 ∨ b = 0 := by omega
    rcases hb01 with rfl | rfl
    · refine lv_iload hx hb dX10_areLike_100 (lv_at hl 0 rfl) ?_
      exact q_zi hf hr rfl hlocks hK hP hD hS (Nat.le_of_ble_eq_true rfl) (Nat.le_of_ble_eq_true rfl) rfl dX10_areLike_102
    · refine lv_iload hx hb dX10_areLike_100 (lv_at hl 0 rfl) ?_
      exact q_zi hf hr rfl hlocks hK hP hD hS (Nat.le_of_ble_eq_true rfl) (Nat.le_of_ble_eq_true rfl) rfl dX10_areLike_102
