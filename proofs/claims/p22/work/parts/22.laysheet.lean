abbrev cX10_laySheet : ByteArray := prog_12_method_32_code
def yX10_laySheet : MethodName := ⟨RX10, "laySheet", "(IIII)V"⟩
theorem k_66 : (Cond.selects RX10 yX10_hasEmptyAhead yX10_hasEmptyAhead) ∈ gT := gT_i 66 (by decide +kernel) rfl
theorem k_67 : (Cond.selects RX10 yX10_rowsBehind yX10_rowsBehind) ∈ gT := gT_i 67 (by decide +kernel) rfl
theorem k_68 : (Cond.selects RX10 yX10_mayEnd yX10_mayEnd) ∈ gT := gT_i 68 (by decide +kernel) rfl
theorem k_1146 : (Cond.fieldLink RX10 13 "ScriptDeskModel" "most" "I") ∈ gT := gT_i 1146 (by decide +kernel) rfl
theorem k_1169 : (Cond.fieldLink RX10 205 "ScriptDeskModel" "nextP" "I") ∈ gT := gT_i 1169 (by decide +kernel) rfl
theorem k_1170 : (Cond.fieldLink RX10 218 "ScriptDeskModel" "nextR" "I") ∈ gT := gT_i 1170 (by decide +kernel) rfl
theorem k_1171 : (Cond.fieldLink RX10 221 "ScriptDeskModel" "sheetRows" "I") ∈ gT := gT_i 1171 (by decide +kernel) rfl
theorem k_1404 : (Cond.methodLink RX10 208 yX10_hasEmptyAhead) ∈ gT := gT_i 1404 (by decide +kernel) rfl
theorem k_1406 : (Cond.instanceMethod yX10_hasEmptyAhead) ∈ gT := gT_i 1406 (by decide +kernel) rfl
theorem k_1407 : (Cond.code yX10_hasEmptyAhead cX10_hasEmptyAhead 2 (some .boolean)) ∈ gT := gT_i 1407 (by decide +kernel) rfl
theorem k_1408 : (Cond.methodLink RX10 211 yX10_rowsBehind) ∈ gT := gT_i 1408 (by decide +kernel) rfl
theorem k_1410 : (Cond.instanceMethod yX10_rowsBehind) ∈ gT := gT_i 1410 (by decide +kernel) rfl
theorem k_1411 : (Cond.code yX10_rowsBehind cX10_rowsBehind 5 (some .int)) ∈ gT := gT_i 1411 (by decide +kernel) rfl
theorem k_1412 : (Cond.methodLink RX10 214 yX10_mayEnd) ∈ gT := gT_i 1412 (by decide +kernel) rfl
theorem k_1414 : (Cond.instanceMethod yX10_mayEnd) ∈ gT := gT_i 1414 (by decide +kernel) rfl
theorem k_1415 : (Cond.code yX10_mayEnd cX10_mayEnd 7 (some .boolean)) ∈ gT := gT_i 1415 (by decide +kernel) rfl
theorem dX10_laySheet_26 : decode cX10_laySheet 26 = .ok (.iload 7, 2) := by decide +kernel
theorem dX10_laySheet_28 : decode cX10_laySheet 28 = .ok (.ifCond .eq 196, 3) := by decide +kernel
theorem dX10_laySheet_31 : decode cX10_laySheet 31 = .ok (.iload 8, 2) := by decide +kernel
theorem dX10_laySheet_33 : decode cX10_laySheet 33 = .ok (.iload 4, 2) := by decide +kernel
theorem dX10_laySheet_35 : decode cX10_laySheet 35 = .ok (.if_icmp .ge 189, 3) := by decide +kernel
theorem dX10_laySheet_65 : decode cX10_laySheet 65 = .ok (.iadd, 1) := by decide +kernel
theorem dX10_laySheet_66 : decode cX10_laySheet 66 = .ok (.istore 5, 2) := by decide +kernel
theorem dX10_laySheet_68 : decode cX10_laySheet 68 = .ok (.iinc 5 1, 3) := by decide +kernel
theorem dX10_laySheet_71 : decode cX10_laySheet 71 = .ok (.iinc 9 1, 3) := by decide +kernel
theorem dX10_laySheet_74 : decode cX10_laySheet 74 = .ok (.iload 5, 2) := by decide +kernel
theorem dX10_laySheet_76 : decode cX10_laySheet 76 = .ok (.aload_n 0, 1) := by decide +kernel
theorem dX10_laySheet_77 : decode cX10_laySheet 77 = .ok (.getfield 13, 3) := by decide +kernel
theorem dX10_laySheet_80 : decode cX10_laySheet 80 = .ok (.if_icmp .gt 7, 3) := by decide +kernel
theorem dX10_laySheet_87 : decode cX10_laySheet 87 = .ok (.iconst 0, 1) := by decide +kernel
theorem dX10_laySheet_88 : decode cX10_laySheet 88 = .ok (.istore 7, 2) := by decide +kernel
theorem dX10_laySheet_90 : decode cX10_laySheet 90 = .ok (.iload 5, 2) := by decide +kernel
theorem dX10_laySheet_92 : decode cX10_laySheet 92 = .ok (.aload_n 0, 1) := by decide +kernel
theorem dX10_laySheet_93 : decode cX10_laySheet 93 = .ok (.iload 8, 2) := by decide +kernel
theorem dX10_laySheet_95 : decode cX10_laySheet 95 = .ok (.iload 9, 2) := by decide +kernel
theorem dX10_laySheet_97 : decode cX10_laySheet 97 = .ok (.iload 4, 2) := by decide +kernel
theorem dX10_laySheet_99 : decode cX10_laySheet 99 = .ok (.invokevirtual 211, 3) := by decide +kernel
theorem dX10_laySheet_102 : decode cX10_laySheet 102 = .ok (.iadd, 1) := by decide +kernel
theorem dX10_laySheet_103 : decode cX10_laySheet 103 = .ok (.istore 10, 2) := by decide +kernel
theorem dX10_laySheet_105 : decode cX10_laySheet 105 = .ok (.aload_n 0, 1) := by decide +kernel
theorem dX10_laySheet_106 : decode cX10_laySheet 106 = .ok (.iload_n 1, 1) := by decide +kernel
theorem dX10_laySheet_107 : decode cX10_laySheet 107 = .ok (.iload_n 2, 1) := by decide +kernel
theorem dX10_laySheet_108 : decode cX10_laySheet 108 = .ok (.iload 8, 2) := by decide +kernel
theorem dX10_laySheet_110 : decode cX10_laySheet 110 = .ok (.iload 9, 2) := by decide +kernel
theorem dX10_laySheet_112 : decode cX10_laySheet 112 = .ok (.iload 4, 2) := by decide +kernel
theorem dX10_laySheet_114 : decode cX10_laySheet 114 = .ok (.invokevirtual 214, 3) := by decide +kernel
theorem dX10_laySheet_117 : decode cX10_laySheet 117 = .ok (.istore 11, 2) := by decide +kernel
theorem dX10_laySheet_119 : decode cX10_laySheet 119 = .ok (.iload 7, 2) := by decide +kernel
theorem dX10_laySheet_121 : decode cX10_laySheet 121 = .ok (.ifCond .eq 83, 3) := by decide +kernel
theorem dX10_laySheet_204 : decode cX10_laySheet 204 = .ok (.iload 9, 2) := by decide +kernel
theorem dX10_laySheet_206 : decode cX10_laySheet 206 = .ok (.aload_n 0, 1) := by decide +kernel
theorem dX10_laySheet_207 : decode cX10_laySheet 207 = .ok (.iload 8, 2) := by decide +kernel
theorem dX10_laySheet_209 : decode cX10_laySheet 209 = .ok (.invokevirtual 198, 3) := by decide +kernel
theorem dX10_laySheet_212 : decode cX10_laySheet 212 = .ok (.if_icmp .ne 9, 3) := by decide +kernel
theorem dX10_laySheet_221 : decode cX10_laySheet 221 = .ok (.goto (-195), 3) := by decide +kernel
theorem dX10_laySheet_215 : decode cX10_laySheet 215 = .ok (.iinc 8 1, 3) := by decide +kernel
theorem dX10_laySheet_218 : decode cX10_laySheet 218 = .ok (.iconst 0, 1) := by decide +kernel
theorem dX10_laySheet_219 : decode cX10_laySheet 219 = .ok (.istore 9, 2) := by decide +kernel
theorem dX10_laySheet_83 : decode cX10_laySheet 83 = .ok (.iconst 1, 1) := by decide +kernel
theorem dX10_laySheet_84 : decode cX10_laySheet 84 = .ok (.goto 4, 3) := by decide +kernel
theorem dX10_laySheet_124 : decode cX10_laySheet 124 = .ok (.iload 10, 2) := by decide +kernel
theorem dX10_laySheet_126 : decode cX10_laySheet 126 = .ok (.aload_n 0, 1) := by decide +kernel
theorem dX10_laySheet_127 : decode cX10_laySheet 127 = .ok (.getfield 13, 3) := by decide +kernel
theorem dX10_laySheet_130 : decode cX10_laySheet 130 = .ok (.if_icmp .gt 74, 3) := by decide +kernel
theorem dX10_laySheet_133 : decode cX10_laySheet 133 = .ok (.iload 11, 2) := by decide +kernel
theorem dX10_laySheet_135 : decode cX10_laySheet 135 = .ok (.ifCond .ne 8, 3) := by decide +kernel
theorem dX10_laySheet_143 : decode cX10_laySheet 143 = .ok (.iload 11, 2) := by decide +kernel
theorem dX10_laySheet_145 : decode cX10_laySheet 145 = .ok (.istore 6, 2) := by decide +kernel
theorem dX10_laySheet_147 : decode cX10_laySheet 147 = .ok (.iload 9, 2) := by decide +kernel
theorem dX10_laySheet_149 : decode cX10_laySheet 149 = .ok (.aload_n 0, 1) := by decide +kernel
theorem dX10_laySheet_150 : decode cX10_laySheet 150 = .ok (.iload 8, 2) := by decide +kernel
theorem dX10_laySheet_152 : decode cX10_laySheet 152 = .ok (.invokevirtual 198, 3) := by decide +kernel
theorem dX10_laySheet_155 : decode cX10_laySheet 155 = .ok (.if_icmp .ne 7, 3) := by decide +kernel
theorem dX10_laySheet_162 : decode cX10_laySheet 162 = .ok (.iconst 0, 1) := by decide +kernel
theorem dX10_laySheet_163 : decode cX10_laySheet 163 = .ok (.istore 12, 2) := by decide +kernel
theorem dX10_laySheet_165 : decode cX10_laySheet 165 = .ok (.aload_n 0, 1) := by decide +kernel
theorem dX10_laySheet_166 : decode cX10_laySheet 166 = .ok (.iload 12, 2) := by decide +kernel
theorem dX10_laySheet_168 : decode cX10_laySheet 168 = .ok (.ifCond .eq 10, 3) := by decide +kernel
theorem dX10_laySheet_178 : decode cX10_laySheet 178 = .ok (.iload 8, 2) := by decide +kernel
theorem dX10_laySheet_180 : decode cX10_laySheet 180 = .ok (.putfield 205, 3) := by decide +kernel
theorem dX10_laySheet_183 : decode cX10_laySheet 183 = .ok (.aload_n 0, 1) := by decide +kernel
theorem dX10_laySheet_184 : decode cX10_laySheet 184 = .ok (.iload 12, 2) := by decide +kernel
theorem dX10_laySheet_186 : decode cX10_laySheet 186 = .ok (.ifCond .eq 7, 3) := by decide +kernel
theorem dX10_laySheet_193 : decode cX10_laySheet 193 = .ok (.iload 9, 2) := by decide +kernel
theorem dX10_laySheet_195 : decode cX10_laySheet 195 = .ok (.putfield 218, 3) := by decide +kernel
theorem dX10_laySheet_198 : decode cX10_laySheet 198 = .ok (.aload_n 0, 1) := by decide +kernel
theorem dX10_laySheet_199 : decode cX10_laySheet 199 = .ok (.iload 10, 2) := by decide +kernel
theorem dX10_laySheet_201 : decode cX10_laySheet 201 = .ok (.putfield 221, 3) := by decide +kernel
theorem dX10_laySheet_158 : decode cX10_laySheet 158 = .ok (.iconst 1, 1) := by decide +kernel
theorem dX10_laySheet_159 : decode cX10_laySheet 159 = .ok (.goto 4, 3) := by decide +kernel
theorem dX10_laySheet_171 : decode cX10_laySheet 171 = .ok (.iload 8, 2) := by decide +kernel
theorem dX10_laySheet_173 : decode cX10_laySheet 173 = .ok (.iconst 1, 1) := by decide +kernel
theorem dX10_laySheet_174 : decode cX10_laySheet 174 = .ok (.iadd, 1) := by decide +kernel
theorem dX10_laySheet_175 : decode cX10_laySheet 175 = .ok (.goto 5, 3) := by decide +kernel
theorem dX10_laySheet_189 : decode cX10_laySheet 189 = .ok (.iconst 0, 1) := by decide +kernel
theorem dX10_laySheet_190 : decode cX10_laySheet 190 = .ok (.goto 5, 3) := by decide +kernel
theorem dX10_laySheet_138 : decode cX10_laySheet 138 = .ok (.iload 6, 2) := by decide +kernel
theorem dX10_laySheet_140 : decode cX10_laySheet 140 = .ok (.ifCond .ne 64, 3) := by decide +kernel
theorem dX10_laySheet_38 : decode cX10_laySheet 38 = .ok (.iload 5, 2) := by decide +kernel
theorem dX10_laySheet_40 : decode cX10_laySheet 40 = .ok (.iload 8, 2) := by decide +kernel
theorem dX10_laySheet_42 : decode cX10_laySheet 42 = .ok (.iload_n 1, 1) := by decide +kernel
theorem dX10_laySheet_43 : decode cX10_laySheet 43 = .ok (.if_icmp .le 21, 3) := by decide +kernel
theorem dX10_laySheet_64 : decode cX10_laySheet 64 = .ok (.iconst 0, 1) := by decide +kernel
theorem dX10_laySheet_46 : decode cX10_laySheet 46 = .ok (.iload 9, 2) := by decide +kernel
theorem dX10_laySheet_48 : decode cX10_laySheet 48 = .ok (.ifCond .ne 16, 3) := by decide +kernel
theorem dX10_laySheet_51 : decode cX10_laySheet 51 = .ok (.aload_n 0, 1) := by decide +kernel
theorem dX10_laySheet_52 : decode cX10_laySheet 52 = .ok (.iload 8, 2) := by decide +kernel
theorem dX10_laySheet_54 : decode cX10_laySheet 54 = .ok (.invokevirtual 208, 3) := by decide +kernel
theorem dX10_laySheet_57 : decode cX10_laySheet 57 = .ok (.ifCond .eq 7, 3) := by decide +kernel
theorem dX10_laySheet_60 : decode cX10_laySheet 60 = .ok (.iconst 1, 1) := by decide +kernel
theorem dX10_laySheet_61 : decode cX10_laySheet 61 = .ok (.goto 4, 3) := by decide +kernel
set_option maxHeartbeats 1000000 in
set_option maxRecDepth 100000 in
theorem ls_lay {p : Program} {l : Launch} {e : Env} {R : Room} {s : State} {m : MethodId} {args : Array Value} {below : List Frame} {meth : Method} {c : Code} {cells slots : Nat} {Q : State → Prop} {D : va_G} {A : Nat → Prop} {h0 : Nat} {q : Nat → Nat} {cB cI cZ : ClassId} {I : Nat → Int32} {F : Nat → Nat → Int32} {pn : Nat} {pe sl : Nat → Nat} {K : Nat → Int32} {Fm To Rr : Nat → Nat} {p0 r0 en mo : Nat} {x3 : Int32} (hpv : rp_ok F pn pe sl K Fm To Rr) (hI2 : I 2 = nI mo) (hmo : mo ≤ 40) (hen : en ≤ pn) (hp0 : p0 < en) (hr0 : r0 ≤ 121) (hRf : 3 ≤ R.frames) (hRl : 80 ≤ R.locals) (hRc : cells ≤ R.cells) (hRs : slots ≤ R.slots) (hA : ∀ q : Nat, s.heap.size ≤ q → A q) (hf : CallFix p m c cX10_laySheet 13 s args gT yX10_laySheet.cls) (hK : va_K D vcl (mT cB cI cZ) s) :
    ∀ (k : Nat) (pq : Nat) (i : Nat) (rows : Nat) (al : Nat) (v25 : Int32) (v26 : Int32) (v27 : Int32) (b : Option (Nat × Nat × Nat)) (H : Heap) (locs : List Loc) (ls : Array Slot), mo + 1 ≤ rows + k → rows ≤ mo → pq ≤ en → al ≤ 1 → (pq < en → i < To pq - Fm pq) → rs_is b v25 v26 v27 → (pq = p0 → r0 ≤ i) → p0 ≤ pq →  va_P D vcl (mW h0 q cB cI cZ (upd (upd (upd I 25 v25) 26 v26) 27 v27) F) H → va_D A (mW h0 q cB cI cZ (upd (upd (upd I 25 v25) 26 v26) 27 v27) F) → va_S A s.heap H locs → lv_has ls 13 [(9, .int (nI i)), (8, .int (nI pq)), (7, .int 1), (6, .int (nI al)), (5, .int (nI rows)), (4, .int (nI en)), (3, .int x3), (2, .int (nI r0)), (1, .int (nI p0)), (0, .ref h0)] →
    (∀ (b2 : Option (Nat × Nat × Nat)) (v1 : Int32) (v2 : Int32) (v3 : Int32) (H : Heap) (locs : List Loc) (ls : Array Slot), b2 = rs_lay K Fm To Rr p0 r0 en mo k pq i rows al b → rs_is b2 v1 v2 v3 → va_P D vcl (mW h0 q cB cI cZ (upd (upd (upd I 25 v1) 26 v2) 27 v3) F) H → va_D A (mW h0 q cB cI cZ (upd (upd (upd I 25 v1) 26 v2) 27 v3) F) → va_S A s.heap H locs → lv_has ls 13 [(0, .ref h0)] → W p l e R s m args below meth c H locs cells slots Q (F0 m 224 ls [])) →
    W p l e R s m args below meth c H locs cells slots Q (F0 m 26 ls []) := by
  obtain ⟨hx, hb, hml, hown, hts⟩ := id hf
  have hpn8 := hpv.1
  intro k
  induction k with
  | zero =>
    intro pq i rows al v25 v26 v27 b H locs ls hik hrm hpq hal hiZ hb9 hri hppq hP hD hS hl kk
    refine lv_iload hx hb dX10_laySheet_26 (lv_at hl 2 rfl) ?_
    exact absurd hik (by omega)
  | succ k ih =>
    intro pq i rows al v25 v26 v27 b H locs ls hik hrm hpq hal hiZ hb9 hri hppq hP hD hS hl kk
    refine lv_iload hx hb dX10_laySheet_26 (lv_at hl 2 rfl) ?_
    refine lv_if_eq (tgt := 224) hx hb dX10_laySheet_28 (by decide) (fun hno => absurd hno (by decide)) (fun _ => ?_)
    refine lv_iload hx hb dX10_laySheet_31 (lv_at hl 1 rfl) ?_
    refine lv_iload hx hb dX10_laySheet_33 (lv_at hl 5 rfl) ?_
    refine lv_icmp_ge (tgt := 224) hx hb dX10_laySheet_35 (by decide) (fun c_1 => ?_) (fun c_1 => ?_)
    · have c_1 := q_le (a := en) (b := pq) (by omega) (by omega) c_1
      exact kk b _ _ _ H locs ls (rs_end (by omega)).symm hb9 hP hD hS (lv_sub hl (l' := [(0, .ref h0)]) [9] rfl)
    · have c_1 := q_nle (a := en) (b := pq) (by omega) (by omega) c_1
      have hZ := hiZ (by omega)
      have hpn8 := hpv.1
      have hpvq := hpv.2 pq (by omega)
      have key : ∀ (dd : Nat) (H : Heap) (locs : List Loc) (ls : Array Slot), dd = pb (p0 < pq ∧ i = 0 ∧ rp_he (K pq) (Fm pq)) → va_P D vcl (mW h0 q cB cI cZ (upd (upd (upd I 25 v25) 26 v26) 27 v27) F) H → va_D A (mW h0 q cB cI cZ (upd (upd (upd I 25 v25) 26 v26) 27 v27) F) → va_S A s.heap H locs → lv_has ls 13 [(9, .int (nI i)), (8, .int (nI pq)), (7, .int 1), (6, .int (nI al)), (5, .int (nI rows)), (4, .int (nI en)), (3, .int x3), (2, .int (nI r0)), (1, .int (nI p0)), (0, .ref h0)] → W p l e R s m args below meth c H locs cells slots Q (F0 m 65 ls [.int (nI dd), .int (nI rows)]) := by
        intro dd H locs ls edd hP hD hS hl
        have hdd := pb_le (p0 < pq ∧ i = 0 ∧ rp_he (K pq) (Fm pq))
        rw [← edd] at hdd
        refine lv_iadd hx hb dX10_laySheet_65 ?_
        refine q_seti (y := nI (rows + dd)) (nI_add rows dd) ?_
        refine lv_istore (lv' := [(5, .int (nI (rows + dd))), (9, .int (nI i)), (8, .int (nI pq)), (7, .int 1), (6, .int (nI al)), (4, .int (nI en)), (3, .int x3), (2, .int (nI r0)), (1, .int (nI p0)), (0, .ref h0)]) hx hb dX10_laySheet_66 hl (by decide) rfl (fun ls hl => ?_)
        refine lv_iinc (v := (nI ((rows + dd) + 1))) (lv' := [(5, .int (nI ((rows + dd) + 1))), (9, .int (nI i)), (8, .int (nI pq)), (7, .int 1), (6, .int (nI al)), (4, .int (nI en)), (3, .int x3), (2, .int (nI r0)), (1, .int (nI p0)), (0, .ref h0)]) hx hb dX10_laySheet_68 hl (k := 0) rfl (nI_add (rows + dd) 1) (by decide) rfl (fun ls hl => ?_)
        refine lv_iinc (v := (nI (i + 1))) (lv' := [(9, .int (nI (i + 1))), (5, .int (nI ((rows + dd) + 1))), (8, .int (nI pq)), (7, .int 1), (6, .int (nI al)), (4, .int (nI en)), (3, .int x3), (2, .int (nI r0)), (1, .int (nI p0)), (0, .ref h0)]) hx hb dX10_laySheet_71 hl (k := 1) rfl (nI_add i 1) (by decide) rfl (fun ls hl => ?_)
        refine lv_iload hx hb dX10_laySheet_74 (lv_at hl 1 rfl) ?_
        refine lv_aload_n hx hb dX10_laySheet_76 rfl (lv_at hl 9 rfl) ?_
        refine va_get (D := D) (ci := 11) (v := .int (I 2)) (C := RX10) (T := TX10) (N := 48) hx hb hts inX10 hown hK hP 0 rfl rfl 2 (by decide) (hts _ k_1146) (fun _ h9 => h9) rfl dX10_laySheet_77 ?_
        refine q_seti (y := (nI mo)) hI2 ?_
        refine lv_icmp_gt (tgt := 87) hx hb dX10_laySheet_80 (by decide) (fun c_2 => ?_) (fun c_2 => ?_)
        · have c_2 := q_lt (a := mo) (b := (rows + dd) + 1) (by omega) (by omega) c_2
          refine lv_iconst (v := 0) hx hb dX10_laySheet_87 (by decide) ?_
          refine lv_istore (lv' := [(7, .int 0), (9, .int (nI (i + 1))), (5, .int (nI ((rows + dd) + 1))), (8, .int (nI pq)), (6, .int (nI al)), (4, .int (nI en)), (3, .int x3), (2, .int (nI r0)), (1, .int (nI p0)), (0, .ref h0)]) hx hb dX10_laySheet_88 hl (by decide) rfl (fun ls hl => ?_)
          refine lv_iload hx hb dX10_laySheet_90 (lv_at hl 2 rfl) ?_
          refine lv_aload_n hx hb dX10_laySheet_92 rfl (lv_at hl 9 rfl) ?_
          refine lv_iload hx hb dX10_laySheet_93 (lv_at hl 3 rfl) ?_
          refine lv_iload hx hb dX10_laySheet_95 (lv_at hl 1 rfl) ?_
          refine lv_iload hx hb dX10_laySheet_97 (lv_at hl 5 rfl) ?_
          refine q_ci (k := cells) (n := slots) hK hP hD hS hA (fun hPc hKc hDc => q_rV (As := [.int (nI pq), .int (nI (i + 1)), .int (nI en)]) (rest := [.int (nI ((rows + dd) + 1))]) hf (r_rowsBehind _ D h0 q cB cI cZ (upd (upd (upd I 25 v25) 26 v26) 27 v27) F pn pe sl K Fm To Rr pq (i + 1) en hpv (by omega) (by omega) (by omega) (by omega) _) k_1411 k_1408 k_1410 k_67 k_98 (nA := 3) (by decide +kernel) ⟨Nat.le_trans (by decide) hRf, Nat.le_trans (by decide) hRl⟩ hK hP (ci := 11) (q0 := 0) rfl rfl rfl hPc hKc hDc (fun _ _ _ _ h => h) (fun _ _ _ => trivial) rfl hl.1 rfl (Nat.le_of_ble_eq_true rfl) dX10_laySheet_99 ⟨hRc, hRs⟩) (Nat.le_refl _) (Nat.le_refl _) (fun r u H locs hw hK hP hD hS => ?_)
          obtain ⟨rfl, rfl⟩ := pb_of (P := rp_rb (K pq) (Fm pq) (To pq) (Rr pq) pq (i + 1) en) hw
          obtain ⟨tb, etb⟩ : ∃ x, x = pb (rp_rb (K pq) (Fm pq) (To pq) (Rr pq) pq (i + 1) en) := ⟨_, rfl⟩
          have htb := pb_le (rp_rb (K pq) (Fm pq) (To pq) (Rr pq) pq (i + 1) en)
          rw [← etb] at htb
          refine q_seti (y := nI tb) (congrArg nI etb.symm) ?_
          have hP : va_P D vcl (mW h0 q cB cI cZ (upd (upd (upd I 25 v25) 26 v26) 27 v27) F) H := hP
          have hD : va_D A (mW h0 q cB cI cZ (upd (upd (upd I 25 v25) 26 v26) 27 v27) F) := hD
          refine lv_iadd hx hb dX10_laySheet_102 ?_
          refine q_seti (y := nI (((rows + dd) + 1) + tb)) (nI_add ((rows + dd) + 1) tb) ?_
          refine lv_istore (lv' := [(10, .int (nI (((rows + dd) + 1) + tb))), (7, .int 0), (9, .int (nI (i + 1))), (5, .int (nI ((rows + dd) + 1))), (8, .int (nI pq)), (6, .int (nI al)), (4, .int (nI en)), (3, .int x3), (2, .int (nI r0)), (1, .int (nI p0)), (0, .ref h0)]) hx hb dX10_laySheet_103 hl (by decide) rfl (fun ls hl => ?_)
          refine lv_aload_n hx hb dX10_laySheet_105 rfl (lv_at hl 10 rfl) ?_
          refine lv_iload_n hx hb dX10_laySheet_106 rfl (lv_at hl 9 rfl) ?_
          refine lv_iload_n hx hb dX10_laySheet_107 rfl (lv_at hl 8 rfl) ?_
          refine lv_iload hx hb dX10_laySheet_108 (lv_at hl 4 rfl) ?_
          refine lv_iload hx hb dX10_laySheet_110 (lv_at hl 2 rfl) ?_
          refine lv_iload hx hb dX10_laySheet_112 (lv_at hl 6 rfl) ?_
          refine q_ci (k := cells) (n := slots) hK hP hD hS hA (fun hPc hKc hDc => q_rV (As := [.int (nI p0), .int (nI r0), .int (nI pq), .int (nI (i + 1)), .int (nI en)]) (rest := []) hf (r_mayEnd _ D h0 q cB cI cZ (upd (upd (upd I 25 v25) 26 v26) 27 v27) F pn pe sl K Fm To Rr p0 r0 pq (i + 1) en hpv (by omega) (by omega) (by omega) (by omega) (fun z => by have := hri z; omega) (by omega) (by omega) _) k_1415 k_1412 k_1414 k_68 k_98 (nA := 5) (by decide +kernel) ⟨Nat.le_trans (by decide) hRf, Nat.le_trans (by decide) hRl⟩ hK hP (ci := 11) (q0 := 0) rfl rfl rfl hPc hKc hDc (fun _ _ _ _ h => h) (fun _ _ _ => trivial) rfl hl.1 rfl (Nat.le_of_ble_eq_true rfl) dX10_laySheet_114 ⟨hRc, hRs⟩) (Nat.le_refl _) (Nat.le_refl _) (fun r u H locs hw hK hP hD hS => ?_)
          obtain ⟨rfl, rfl⟩ := pb_of (P := rp_me (K pq) (To pq - Fm pq) p0 r0 pq (i + 1) en) hw
          obtain ⟨mb, emb⟩ : ∃ x, x = pb (rp_me (K pq) (To pq - Fm pq) p0 r0 pq (i + 1) en) := ⟨_, rfl⟩
          have hmb := pb_le (rp_me (K pq) (To pq - Fm pq) p0 r0 pq (i + 1) en)
          rw [← emb] at hmb
          refine q_seti (y := nI mb) (congrArg nI emb.symm) ?_
          have hP : va_P D vcl (mW h0 q cB cI cZ (upd (upd (upd I 25 v25) 26 v26) 27 v27) F) H := hP
          have hD : va_D A (mW h0 q cB cI cZ (upd (upd (upd I 25 v25) 26 v26) 27 v27) F) := hD
          refine lv_istore (lv' := [(11, .int (nI mb)), (10, .int (nI (((rows + dd) + 1) + tb))), (7, .int 0), (9, .int (nI (i + 1))), (5, .int (nI ((rows + dd) + 1))), (8, .int (nI pq)), (6, .int (nI al)), (4, .int (nI en)), (3, .int x3), (2, .int (nI r0)), (1, .int (nI p0)), (0, .ref h0)]) hx hb dX10_laySheet_117 hl (by decide) rfl (fun ls hl => ?_)
          refine lv_iload hx hb dX10_laySheet_119 (lv_at hl 2 rfl) ?_
          refine lv_if_eq (tgt := 204) hx hb dX10_laySheet_121 (by decide) (fun _ => ?_) (fun hno => absurd hno (by decide))
          refine lv_iload hx hb dX10_laySheet_204 (lv_at hl 3 rfl) ?_
          refine lv_aload_n hx hb dX10_laySheet_206 rfl (lv_at hl 11 rfl) ?_
          refine lv_iload hx hb dX10_laySheet_207 (lv_at hl 5 rfl) ?_
          refine q_ci (k := cells) (n := slots) hK hP hD hS hA (fun hPc hKc hDc => q_rV (As := [.int (nI pq)]) (rest := [.int (nI (i + 1))]) hf (r_size _ D h0 q cB cI cZ (upd (upd (upd I 25 v25) 26 v26) 27 v27) F pn pe sl K Fm To Rr pq hpv (by omega) _) k_1391 k_1388 k_1390 k_62 k_98 (nA := 1) (by decide +kernel) ⟨Nat.le_trans (by decide) hRf, Nat.le_trans (by decide) hRl⟩ hK hP (ci := 11) (q0 := 0) rfl rfl rfl hPc hKc hDc (fun _ _ _ _ h => h) (fun _ _ _ => trivial) rfl hl.1 rfl (Nat.le_of_ble_eq_true rfl) dX10_laySheet_209 ⟨hRc, hRs⟩) (Nat.le_refl _) (Nat.le_refl _) (fun r u H locs hw hK hP hD hS => ?_)
          obtain ⟨rfl, rfl⟩ := hw
          have hP : va_P D vcl (mW h0 q cB cI cZ (upd (upd (upd I 25 v25) 26 v26) 27 v27) F) H := hP
          have hD : va_D A (mW h0 q cB cI cZ (upd (upd (upd I 25 v25) 26 v26) 27 v27) F) := hD
          refine lv_icmp_ne (tgt := 221) hx hb dX10_laySheet_212 (by decide) (fun c_3 => ?_) (fun c_3 => ?_)
          · have c_3 := q_nen (a := i + 1) (b := To pq - Fm pq) (by omega) (by omega) c_3
            refine lv_goto (tgt := 26) hx hb dX10_laySheet_221 (by decide) ?_
            refine lv_iload hx hb dX10_laySheet_26 (lv_at hl 2 rfl) ?_
            refine lv_if_eq (tgt := 224) hx hb dX10_laySheet_28 (by decide) (fun _ => ?_) (fun hno => absurd hno (by decide))
            exact kk b _ _ _ H locs ls (rs_out edd (by omega)).symm hb9 hP hD hS (lv_sub hl (l' := [(0, .ref h0)]) [11] rfl)
          · have c_3 := q_eqn (a := i + 1) (b := To pq - Fm pq) (by omega) (by omega) c_3
            refine lv_iinc (v := (nI (pq + 1))) (lv' := [(8, .int (nI (pq + 1))), (11, .int (nI mb)), (10, .int (nI (((rows + dd) + 1) + tb))), (7, .int 0), (9, .int (nI (i + 1))), (5, .int (nI ((rows + dd) + 1))), (6, .int (nI al)), (4, .int (nI en)), (3, .int x3), (2, .int (nI r0)), (1, .int (nI p0)), (0, .ref h0)]) hx hb dX10_laySheet_215 hl (k := 5) rfl (nI_add pq 1) (by decide) rfl (fun ls hl => ?_)
            refine lv_iconst (v := 0) hx hb dX10_laySheet_218 (by decide) ?_
            refine lv_istore (lv' := [(9, .int 0), (8, .int (nI (pq + 1))), (11, .int (nI mb)), (10, .int (nI (((rows + dd) + 1) + tb))), (7, .int 0), (5, .int (nI ((rows + dd) + 1))), (6, .int (nI al)), (4, .int (nI en)), (3, .int x3), (2, .int (nI r0)), (1, .int (nI p0)), (0, .ref h0)]) hx hb dX10_laySheet_219 hl (by decide) rfl (fun ls hl => ?_)
            refine lv_goto (tgt := 26) hx hb dX10_laySheet_221 (by decide) ?_
            refine lv_iload hx hb dX10_laySheet_26 (lv_at hl 4 rfl) ?_
            refine lv_if_eq (tgt := 224) hx hb dX10_laySheet_28 (by decide) (fun _ => ?_) (fun hno => absurd hno (by decide))
            exact kk b _ _ _ H locs ls (rs_out edd (by omega)).symm hb9 hP hD hS (lv_sub hl (l' := [(0, .ref h0)]) [11] rfl)
        · have c_2 := q_nlt (a := mo) (b := (rows + dd) + 1) (by omega) (by omega) c_2
          refine lv_iconst (v := 1) hx hb dX10_laySheet_83 (by decide) ?_
          refine lv_goto (tgt := 88) hx hb dX10_laySheet_84 (by decide) ?_
          refine lv_istore (lv' := [(7, .int 1), (9, .int (nI (i + 1))), (5, .int (nI ((rows + dd) + 1))), (8, .int (nI pq)), (6, .int (nI al)), (4, .int (nI en)), (3, .int x3), (2, .int (nI r0)), (1, .int (nI p0)), (0, .ref h0)]) hx hb dX10_laySheet_88 hl (by decide) rfl (fun ls hl => ?_)
          refine lv_iload hx hb dX10_laySheet_90 (lv_at hl 2 rfl) ?_
          refine lv_aload_n hx hb dX10_laySheet_92 rfl (lv_at hl 9 rfl) ?_
          refine lv_iload hx hb dX10_laySheet_93 (lv_at hl 3 rfl) ?_
          refine lv_iload hx hb dX10_laySheet_95 (lv_at hl 1 rfl) ?_
          refine lv_iload hx hb dX10_laySheet_97 (lv_at hl 5 rfl) ?_
          refine q_ci (k := cells) (n := slots) hK hP hD hS hA (fun hPc hKc hDc => q_rV (As := [.int (nI pq), .int (nI (i + 1)), .int (nI en)]) (rest := [.int (nI ((rows + dd) + 1))]) hf (r_rowsBehind _ D h0 q cB cI cZ (upd (upd (upd I 25 v25) 26 v26) 27 v27) F pn pe sl K Fm To Rr pq (i + 1) en hpv (by omega) (by omega) (by omega) (by omega) _) k_1411 k_1408 k_1410 k_67 k_98 (nA := 3) (by decide +kernel) ⟨Nat.le_trans (by decide) hRf, Nat.le_trans (by decide) hRl⟩ hK hP (ci := 11) (q0 := 0) rfl rfl rfl hPc hKc hDc (fun _ _ _ _ h => h) (fun _ _ _ => trivial) rfl hl.1 rfl (Nat.le_of_ble_eq_true rfl) dX10_laySheet_99 ⟨hRc, hRs⟩) (Nat.le_refl _) (Nat.le_refl _) (fun r u H locs hw hK hP hD hS => ?_)
          obtain ⟨rfl, rfl⟩ := pb_of (P := rp_rb (K pq) (Fm pq) (To pq) (Rr pq) pq (i + 1) en) hw
          obtain ⟨tb, etb⟩ : ∃ x, x = pb (rp_rb (K pq) (Fm pq) (To pq) (Rr pq) pq (i + 1) en) := ⟨_, rfl⟩
          have htb := pb_le (rp_rb (K pq) (Fm pq) (To pq) (Rr pq) pq (i + 1) en)
          rw [← etb] at htb
          refine q_seti (y := nI tb) (congrArg nI etb.symm) ?_
          have hP : va_P D vcl (mW h0 q cB cI cZ (upd (upd (upd I 25 v25) 26 v26) 27 v27) F) H := hP
          have hD : va_D A (mW h0 q cB cI cZ (upd (upd (upd I 25 v25) 26 v26) 27 v27) F) := hD
          refine lv_iadd hx hb dX10_laySheet_102 ?_
          refine q_seti (y := nI (((rows + dd) + 1) + tb)) (nI_add ((rows + dd) + 1) tb) ?_
          refine lv_istore (lv' := [(10, .int (nI (((rows + dd) + 1) + tb))), (7, .int 1), (9, .int (nI (i + 1))), (5, .int (nI ((rows + dd) + 1))), (8, .int (nI pq)), (6, .int (nI al)), (4, .int (nI en)), (3, .int x3), (2, .int (nI r0)), (1, .int (nI p0)), (0, .ref h0)]) hx hb dX10_laySheet_103 hl (by decide) rfl (fun ls hl => ?_)
          refine lv_aload_n hx hb dX10_laySheet_105 rfl (lv_at hl 10 rfl) ?_
          refine lv_iload_n hx hb dX10_laySheet_106 rfl (lv_at hl 9 rfl) ?_
          refine lv_iload_n hx hb dX10_laySheet_107 rfl (lv_at hl 8 rfl) ?_
          refine lv_iload hx hb dX10_laySheet_108 (lv_at hl 4 rfl) ?_
          refine lv_iload hx hb dX10_laySheet_110 (lv_at hl 2 rfl) ?_
          refine lv_iload hx hb dX10_laySheet_112 (lv_at hl 6 rfl) ?_
          refine q_ci (k := cells) (n := slots) hK hP hD hS hA (fun hPc hKc hDc => q_rV (As := [.int (nI p0), .int (nI r0), .int (nI pq), .int (nI (i + 1)), .int (nI en)]) (rest := []) hf (r_mayEnd _ D h0 q cB cI cZ (upd (upd (upd I 25 v25) 26 v26) 27 v27) F pn pe sl K Fm To Rr p0 r0 pq (i + 1) en hpv (by omega) (by omega) (by omega) (by omega) (fun z => by have := hri z; omega) (by omega) (by omega) _) k_1415 k_1412 k_1414 k_68 k_98 (nA := 5) (by decide +kernel) ⟨Nat.le_trans (by decide) hRf, Nat.le_trans (by decide) hRl⟩ hK hP (ci := 11) (q0 := 0) rfl rfl rfl hPc hKc hDc (fun _ _ _ _ h => h) (fun _ _ _ => trivial) rfl hl.1 rfl (Nat.le_of_ble_eq_true rfl) dX10_laySheet_114 ⟨hRc, hRs⟩) (Nat.le_refl _) (Nat.le_refl _) (fun r u H locs hw hK hP hD hS => ?_)
          obtain ⟨rfl, rfl⟩ := pb_of (P := rp_me (K pq) (To pq - Fm pq) p0 r0 pq (i + 1) en) hw
          obtain ⟨mb, emb⟩ : ∃ x, x = pb (rp_me (K pq) (To pq - Fm pq) p0 r0 pq (i + 1) en) := ⟨_, rfl⟩
          have hmb := pb_le (rp_me (K pq) (To pq - Fm pq) p0 r0 pq (i + 1) en)
          rw [← emb] at hmb
          refine q_seti (y := nI mb) (congrArg nI emb.symm) ?_
          have hP : va_P D vcl (mW h0 q cB cI cZ (upd (upd (upd I 25 v25) 26 v26) 27 v27) F) H := hP
          have hD : va_D A (mW h0 q cB cI cZ (upd (upd (upd I 25 v25) 26 v26) 27 v27) F) := hD
          refine lv_istore (lv' := [(11, .int (nI mb)), (10, .int (nI (((rows + dd) + 1) + tb))), (7, .int 1), (9, .int (nI (i + 1))), (5, .int (nI ((rows + dd) + 1))), (8, .int (nI pq)), (6, .int (nI al)), (4, .int (nI en)), (3, .int x3), (2, .int (nI r0)), (1, .int (nI p0)), (0, .ref h0)]) hx hb dX10_laySheet_117 hl (by decide) rfl (fun ls hl => ?_)
          refine lv_iload hx hb dX10_laySheet_119 (lv_at hl 2 rfl) ?_
          refine lv_if_eq (tgt := 204) hx hb dX10_laySheet_121 (by decide) (fun hno => absurd hno (by decide)) (fun _ => ?_)
          refine lv_iload hx hb dX10_laySheet_124 (lv_at hl 1 rfl) ?_
          refine lv_aload_n hx hb dX10_laySheet_126 rfl (lv_at hl 11 rfl) ?_
          refine va_get (D := D) (ci := 11) (v := .int (I 2)) (C := RX10) (T := TX10) (N := 48) hx hb hts inX10 hown hK hP 0 rfl rfl 2 (by decide) (hts _ k_1146) (fun _ h9 => h9) rfl dX10_laySheet_127 ?_
          refine q_seti (y := (nI mo)) hI2 ?_
          refine lv_icmp_gt (tgt := 204) hx hb dX10_laySheet_130 (by decide) (fun c_4 => ?_) (fun c_4 => ?_)
          · have c_4 := q_lt (a := mo) (b := ((rows + dd) + 1) + tb) (by omega) (by omega) c_4
            refine lv_iload hx hb dX10_laySheet_204 (lv_at hl 3 rfl) ?_
            refine lv_aload_n hx hb dX10_laySheet_206 rfl (lv_at hl 11 rfl) ?_
            refine lv_iload hx hb dX10_laySheet_207 (lv_at hl 5 rfl) ?_
            refine q_ci (k := cells) (n := slots) hK hP hD hS hA (fun hPc hKc hDc => q_rV (As := [.int (nI pq)]) (rest := [.int (nI (i + 1))]) hf (r_size _ D h0 q cB cI cZ (upd (upd (upd I 25 v25) 26 v26) 27 v27) F pn pe sl K Fm To Rr pq hpv (by omega) _) k_1391 k_1388 k_1390 k_62 k_98 (nA := 1) (by decide +kernel) ⟨Nat.le_trans (by decide) hRf, Nat.le_trans (by decide) hRl⟩ hK hP (ci := 11) (q0 := 0) rfl rfl rfl hPc hKc hDc (fun _ _ _ _ h => h) (fun _ _ _ => trivial) rfl hl.1 rfl (Nat.le_of_ble_eq_true rfl) dX10_laySheet_209 ⟨hRc, hRs⟩) (Nat.le_refl _) (Nat.le_refl _) (fun r u H locs hw hK hP hD hS => ?_)
            obtain ⟨rfl, rfl⟩ := hw
            have hP : va_P D vcl (mW h0 q cB cI cZ (upd (upd (upd I 25 v25) 26 v26) 27 v27) F) H := hP
            have hD : va_D A (mW h0 q cB cI cZ (upd (upd (upd I 25 v25) 26 v26) 27 v27) F) := hD
            refine lv_icmp_ne (tgt := 221) hx hb dX10_laySheet_212 (by decide) (fun c_5 => ?_) (fun c_5 => ?_)
            · have c_5 := q_nen (a := i + 1) (b := To pq - Fm pq) (by omega) (by omega) c_5
              refine lv_goto (tgt := 26) hx hb dX10_laySheet_221 (by decide) ?_
              refine ih pq (i + 1) (rows + dd + 1) al _ _ _ b H locs ls (by omega) (by omega) (by omega) (by omega) (fun h9 => ?_) hb9 (fun z => ?_) (by omega) hP hD hS (lv_sub hl (l' := [(9, .int (nI (i + 1))), (8, .int (nI pq)), (7, .int 1), (6, .int (nI al)), (5, .int (nI ((rows + dd) + 1))), (4, .int (nI en)), (3, .int x3), (2, .int (nI r0)), (1, .int (nI p0)), (0, .ref h0)]) [3, 5, 2, 6, 4, 7, 8, 9, 10, 11] rfl) (fun b2 v1 v2 v3 H locs ls a1 a2 => kk b2 v1 v2 v3 H locs ls (a1.trans (rs_in (by omega) (by omega) edd etb emb (if_neg (by omega)).symm (if_neg (by omega)).symm (if_neg (by omega)).symm (if_neg (by omega)).symm).symm) a2)
              · show i + 1 < To pq - Fm pq
                omega
              · have := hri z
                omega
            · have c_5 := q_eqn (a := i + 1) (b := To pq - Fm pq) (by omega) (by omega) c_5
              refine lv_iinc (v := (nI (pq + 1))) (lv' := [(8, .int (nI (pq + 1))), (11, .int (nI mb)), (10, .int (nI (((rows + dd) + 1) + tb))), (7, .int 1), (9, .int (nI (i + 1))), (5, .int (nI ((rows + dd) + 1))), (6, .int (nI al)), (4, .int (nI en)), (3, .int x3), (2, .int (nI r0)), (1, .int (nI p0)), (0, .ref h0)]) hx hb dX10_laySheet_215 hl (k := 5) rfl (nI_add pq 1) (by decide) rfl (fun ls hl => ?_)
              refine lv_iconst (v := 0) hx hb dX10_laySheet_218 (by decide) ?_
              refine lv_istore (lv' := [(9, .int 0), (8, .int (nI (pq + 1))), (11, .int (nI mb)), (10, .int (nI (((rows + dd) + 1) + tb))), (7, .int 1), (5, .int (nI ((rows + dd) + 1))), (6, .int (nI al)), (4, .int (nI en)), (3, .int x3), (2, .int (nI r0)), (1, .int (nI p0)), (0, .ref h0)]) hx hb dX10_laySheet_219 hl (by decide) rfl (fun ls hl => ?_)
              refine lv_goto (tgt := 26) hx hb dX10_laySheet_221 (by decide) ?_
              refine ih (pq + 1) 0 (rows + dd + 1) al _ _ _ b H locs ls (by omega) (by omega) (by omega) (by omega) (fun h9 => ?_) hb9 (fun z => ?_) (by omega) hP hD hS (lv_sub hl (l' := [(9, .int 0), (8, .int (nI (pq + 1))), (7, .int 1), (6, .int (nI al)), (5, .int (nI ((rows + dd) + 1))), (4, .int (nI en)), (3, .int x3), (2, .int (nI r0)), (1, .int (nI p0)), (0, .ref h0)]) [0, 1, 4, 6, 5, 7, 8, 9, 10, 11] rfl) (fun b2 v1 v2 v3 H locs ls a1 a2 => kk b2 v1 v2 v3 H locs ls (a1.trans (rs_in (by omega) (by omega) edd etb emb (if_pos (by omega)).symm (if_pos (by omega)).symm (if_neg (by omega)).symm (if_neg (by omega)).symm).symm) a2)
              · have z9 := hpv.2 (pq + 1) (by omega)
                omega
              · exact absurd z (by omega)
          · have c_4 := q_nlt (a := mo) (b := ((rows + dd) + 1) + tb) (by omega) (by omega) c_4
            refine lv_iload hx hb dX10_laySheet_133 (lv_at hl 0 rfl) ?_
            refine lv_if_ne (tgt := 143) hx hb dX10_laySheet_135 (by decide) (fun c_6 => ?_) (fun c_6 => ?_)
            · have c_6 := q_nen (a := mb) (b := 0) (by omega) (by omega) c_6
              refine lv_iload hx hb dX10_laySheet_143 (lv_at hl 0 rfl) ?_
              refine lv_istore (lv' := [(6, .int (nI mb)), (11, .int (nI mb)), (10, .int (nI (((rows + dd) + 1) + tb))), (7, .int 1), (9, .int (nI (i + 1))), (5, .int (nI ((rows + dd) + 1))), (8, .int (nI pq)), (4, .int (nI en)), (3, .int x3), (2, .int (nI r0)), (1, .int (nI p0)), (0, .ref h0)]) hx hb dX10_laySheet_145 hl (by decide) rfl (fun ls hl => ?_)
              refine lv_iload hx hb dX10_laySheet_147 (lv_at hl 4 rfl) ?_
              refine lv_aload_n hx hb dX10_laySheet_149 rfl (lv_at hl 11 rfl) ?_
              refine lv_iload hx hb dX10_laySheet_150 (lv_at hl 6 rfl) ?_
              refine q_ci (k := cells) (n := slots) hK hP hD hS hA (fun hPc hKc hDc => q_rV (As := [.int (nI pq)]) (rest := [.int (nI (i + 1))]) hf (r_size _ D h0 q cB cI cZ (upd (upd (upd I 25 v25) 26 v26) 27 v27) F pn pe sl K Fm To Rr pq hpv (by omega) _) k_1391 k_1388 k_1390 k_62 k_98 (nA := 1) (by decide +kernel) ⟨Nat.le_trans (by decide) hRf, Nat.le_trans (by decide) hRl⟩ hK hP (ci := 11) (q0 := 0) rfl rfl rfl hPc hKc hDc (fun _ _ _ _ h => h) (fun _ _ _ => trivial) rfl hl.1 rfl (Nat.le_of_ble_eq_true rfl) dX10_laySheet_152 ⟨hRc, hRs⟩) (Nat.le_refl _) (Nat.le_refl _) (fun r u H locs hw hK hP hD hS => ?_)
              obtain ⟨rfl, rfl⟩ := hw
              have hP : va_P D vcl (mW h0 q cB cI cZ (upd (upd (upd I 25 v25) 26 v26) 27 v27) F) H := hP
              have hD : va_D A (mW h0 q cB cI cZ (upd (upd (upd I 25 v25) 26 v26) 27 v27) F) := hD
              refine lv_icmp_ne (tgt := 162) hx hb dX10_laySheet_155 (by decide) (fun c_7 => ?_) (fun c_7 => ?_)
              · have c_7 := q_nen (a := i + 1) (b := To pq - Fm pq) (by omega) (by omega) c_7
                refine lv_iconst (v := 0) hx hb dX10_laySheet_162 (by decide) ?_
                refine lv_istore (lv' := [(12, .int 0), (6, .int (nI mb)), (11, .int (nI mb)), (10, .int (nI (((rows + dd) + 1) + tb))), (7, .int 1), (9, .int (nI (i + 1))), (5, .int (nI ((rows + dd) + 1))), (8, .int (nI pq)), (4, .int (nI en)), (3, .int x3), (2, .int (nI r0)), (1, .int (nI p0)), (0, .ref h0)]) hx hb dX10_laySheet_163 hl (by decide) rfl (fun ls hl => ?_)
                refine lv_aload_n hx hb dX10_laySheet_165 rfl (lv_at hl 12 rfl) ?_
                refine lv_iload hx hb dX10_laySheet_166 (lv_at hl 0 rfl) ?_
                refine lv_if_eq (tgt := 178) hx hb dX10_laySheet_168 (by decide) (fun _ => ?_) (fun hno => absurd hno (by decide))
                refine lv_iload hx hb dX10_laySheet_178 (lv_at hl 7 rfl) ?_
                refine va_put (D := D) (ci := 11) (v := .int (nI pq)) (ty := .int) (C := RX10) (T := TX10) (N := 48) hx hb hts inX10 tyX10 tyX10_ok nmX10 hown hK hP hD hS 0 rfl rfl 25 (by decide) (hts _ k_1169) (fun _ h9 => h9) rfl (by decide +kernel) rfl rfl (Nat.le_of_ble_eq_true rfl) dX10_laySheet_180 (fun H locs hP hD hS => ?_)
                have hP : va_P D vcl (mW h0 q cB cI cZ (upd (upd (upd I 25 (nI pq)) 26 v26) 27 v27) F) H := hP
                have hD : va_D A (mW h0 q cB cI cZ (upd (upd (upd I 25 (nI pq)) 26 v26) 27 v27) F) := hD
                refine lv_aload_n hx hb dX10_laySheet_183 rfl (lv_at hl 12 rfl) ?_
                refine lv_iload hx hb dX10_laySheet_184 (lv_at hl 0 rfl) ?_
                refine lv_if_eq (tgt := 193) hx hb dX10_laySheet_186 (by decide) (fun _ => ?_) (fun hno => absurd hno (by decide))
                refine lv_iload hx hb dX10_laySheet_193 (lv_at hl 5 rfl) ?_
                refine va_put (D := D) (ci := 11) (v := .int (nI (i + 1))) (ty := .int) (C := RX10) (T := TX10) (N := 48) hx hb hts inX10 tyX10 tyX10_ok nmX10 hown hK hP hD hS 0 rfl rfl 26 (by decide) (hts _ k_1170) (fun _ h9 => h9) rfl (by decide +kernel) rfl rfl (Nat.le_of_ble_eq_true rfl) dX10_laySheet_195 (fun H locs hP hD hS => ?_)
                have hP : va_P D vcl (mW h0 q cB cI cZ (upd (upd (upd I 25 (nI pq)) 26 (nI (i + 1))) 27 v27) F) H := hP
                have hD : va_D A (mW h0 q cB cI cZ (upd (upd (upd I 25 (nI pq)) 26 (nI (i + 1))) 27 v27) F) := hD
                refine lv_aload_n hx hb dX10_laySheet_198 rfl (lv_at hl 12 rfl) ?_
                refine lv_iload hx hb dX10_laySheet_199 (lv_at hl 3 rfl) ?_
                refine va_put (D := D) (ci := 11) (v := .int (nI (((rows + dd) + 1) + tb))) (ty := .int) (C := RX10) (T := TX10) (N := 48) hx hb hts inX10 tyX10 tyX10_ok nmX10 hown hK hP hD hS 0 rfl rfl 27 (by decide) (hts _ k_1171) (fun _ h9 => h9) rfl (by decide +kernel) rfl rfl (Nat.le_of_ble_eq_true rfl) dX10_laySheet_201 (fun H locs hP hD hS => ?_)
                have hP : va_P D vcl (mW h0 q cB cI cZ (upd (upd (upd I 25 (nI pq)) 26 (nI (i + 1))) 27 (nI (((rows + dd) + 1) + tb))) F) H := hP
                have hD : va_D A (mW h0 q cB cI cZ (upd (upd (upd I 25 (nI pq)) 26 (nI (i + 1))) 27 (nI (((rows + dd) + 1) + tb))) F) := hD
                refine lv_iload hx hb dX10_laySheet_204 (lv_at hl 5 rfl) ?_
                refine lv_aload_n hx hb dX10_laySheet_206 rfl (lv_at hl 12 rfl) ?_
                refine lv_iload hx hb dX10_laySheet_207 (lv_at hl 7 rfl) ?_
                refine q_ci (k := cells) (n := slots) hK hP hD hS hA (fun hPc hKc hDc => q_rV (As := [.int (nI pq)]) (rest := [.int (nI (i + 1))]) hf (r_size _ D h0 q cB cI cZ (upd (upd (upd I 25 (nI pq)) 26 (nI (i + 1))) 27 (nI (((rows + dd) + 1) + tb))) F pn pe sl K Fm To Rr pq hpv (by omega) _) k_1391 k_1388 k_1390 k_62 k_98 (nA := 1) (by decide +kernel) ⟨Nat.le_trans (by decide) hRf, Nat.le_trans (by decide) hRl⟩ hK hP (ci := 11) (q0 := 0) rfl rfl rfl hPc hKc hDc (fun _ _ _ _ h => h) (fun _ _ _ => trivial) rfl hl.1 rfl (Nat.le_of_ble_eq_true rfl) dX10_laySheet_209 ⟨hRc, hRs⟩) (Nat.le_refl _) (Nat.le_refl _) (fun r u H locs hw hK hP hD hS => ?_)
                obtain ⟨rfl, rfl⟩ := hw
                have hP : va_P D vcl (mW h0 q cB cI cZ (upd (upd (upd I 25 (nI pq)) 26 (nI (i + 1))) 27 (nI (((rows + dd) + 1) + tb))) F) H := hP
                have hD : va_D A (mW h0 q cB cI cZ (upd (upd (upd I 25 (nI pq)) 26 (nI (i + 1))) 27 (nI (((rows + dd) + 1) + tb))) F) := hD
                refine lv_icmp_ne (tgt := 221) hx hb dX10_laySheet_212 (by decide) (fun c_8 => ?_) (fun c_8 => ?_)
                · have c_8 := q_nen (a := i + 1) (b := To pq - Fm pq) (by omega) (by omega) c_8
                  refine lv_goto (tgt := 26) hx hb dX10_laySheet_221 (by decide) ?_
                  refine ih pq (i + 1) (rows + dd + 1) mb _ _ _ (some (pq, i + 1, ((rows + dd) + 1) + tb)) H locs ls (by omega) (by omega) (by omega) (by omega) (fun h9 => ?_) ⟨rfl, rfl, rfl⟩ (fun z => ?_) (by omega) hP hD hS (lv_sub hl (l' := [(9, .int (nI (i + 1))), (8, .int (nI pq)), (7, .int 1), (6, .int (nI mb)), (5, .int (nI ((rows + dd) + 1))), (4, .int (nI en)), (3, .int x3), (2, .int (nI r0)), (1, .int (nI p0)), (0, .ref h0)]) [5, 7, 4, 1, 6, 8, 9, 10, 11, 12] rfl) (fun b2 v1 v2 v3 H locs ls a1 a2 => kk b2 v1 v2 v3 H locs ls (a1.trans (rs_in (by omega) (by omega) edd etb emb (if_neg (by omega)).symm (if_neg (by omega)).symm (if_pos (by omega)).symm (if_pos (by omega)).symm).symm) a2)
                  · show i + 1 < To pq - Fm pq
                    omega
                  · have := hri z
                    omega
                · have c_8 := q_eqn (a := i + 1) (b := To pq - Fm pq) (by omega) (by omega) c_8
                  exact False.elim (by omega)
              · have c_7 := q_eqn (a := i + 1) (b := To pq - Fm pq) (by omega) (by omega) c_7
                refine lv_iconst (v := 1) hx hb dX10_laySheet_158 (by decide) ?_
                refine lv_goto (tgt := 163) hx hb dX10_laySheet_159 (by decide) ?_
                refine lv_istore (lv' := [(12, .int 1), (6, .int (nI mb)), (11, .int (nI mb)), (10, .int (nI (((rows + dd) + 1) + tb))), (7, .int 1), (9, .int (nI (i + 1))), (5, .int (nI ((rows + dd) + 1))), (8, .int (nI pq)), (4, .int (nI en)), (3, .int x3), (2, .int (nI r0)), (1, .int (nI p0)), (0, .ref h0)]) hx hb dX10_laySheet_163 hl (by decide) rfl (fun ls hl => ?_)
                refine lv_aload_n hx hb dX10_laySheet_165 rfl (lv_at hl 12 rfl) ?_
                refine lv_iload hx hb dX10_laySheet_166 (lv_at hl 0 rfl) ?_
                refine lv_if_eq (tgt := 178) hx hb dX10_laySheet_168 (by decide) (fun hno => absurd hno (by decide)) (fun _ => ?_)
                refine lv_iload hx hb dX10_laySheet_171 (lv_at hl 7 rfl) ?_
                refine lv_iconst (v := 1) hx hb dX10_laySheet_173 (by decide) ?_
                refine lv_iadd hx hb dX10_laySheet_174 ?_
                refine q_seti (y := nI (pq + 1)) (nI_add pq 1) ?_
                refine lv_goto (tgt := 180) hx hb dX10_laySheet_175 (by decide) ?_
                refine va_put (D := D) (ci := 11) (v := .int (nI (pq + 1))) (ty := .int) (C := RX10) (T := TX10) (N := 48) hx hb hts inX10 tyX10 tyX10_ok nmX10 hown hK hP hD hS 0 rfl rfl 25 (by decide) (hts _ k_1169) (fun _ h9 => h9) rfl (by decide +kernel) rfl rfl (Nat.le_of_ble_eq_true rfl) dX10_laySheet_180 (fun H locs hP hD hS => ?_)
                have hP : va_P D vcl (mW h0 q cB cI cZ (upd (upd (upd I 25 (nI (pq + 1))) 26 v26) 27 v27) F) H := hP
                have hD : va_D A (mW h0 q cB cI cZ (upd (upd (upd I 25 (nI (pq + 1))) 26 v26) 27 v27) F) := hD
                refine lv_aload_n hx hb dX10_laySheet_183 rfl (lv_at hl 12 rfl) ?_
                refine lv_iload hx hb dX10_laySheet_184 (lv_at hl 0 rfl) ?_
                refine lv_if_eq (tgt := 193) hx hb dX10_laySheet_186 (by decide) (fun hno => absurd hno (by decide)) (fun _ => ?_)
                refine lv_iconst (v := 0) hx hb dX10_laySheet_189 (by decide) ?_
                refine lv_goto (tgt := 195) hx hb dX10_laySheet_190 (by decide) ?_
                refine va_put (D := D) (ci := 11) (v := .int 0) (ty := .int) (C := RX10) (T := TX10) (N := 48) hx hb hts inX10 tyX10 tyX10_ok nmX10 hown hK hP hD hS 0 rfl rfl 26 (by decide) (hts _ k_1170) (fun _ h9 => h9) rfl (by decide +kernel) rfl rfl (Nat.le_of_ble_eq_true rfl) dX10_laySheet_195 (fun H locs hP hD hS => ?_)
                have hP : va_P D vcl (mW h0 q cB cI cZ (upd (upd (upd I 25 (nI (pq + 1))) 26 0) 27 v27) F) H := hP
                have hD : va_D A (mW h0 q cB cI cZ (upd (upd (upd I 25 (nI (pq + 1))) 26 0) 27 v27) F) := hD
                refine lv_aload_n hx hb dX10_laySheet_198 rfl (lv_at hl 12 rfl) ?_
                refine lv_iload hx hb dX10_laySheet_199 (lv_at hl 3 rfl) ?_
                refine va_put (D := D) (ci := 11) (v := .int (nI (((rows + dd) + 1) + tb))) (ty := .int) (C := RX10) (T := TX10) (N := 48) hx hb hts inX10 tyX10 tyX10_ok nmX10 hown hK hP hD hS 0 rfl rfl 27 (by decide) (hts _ k_1171) (fun _ h9 => h9) rfl (by decide +kernel) rfl rfl (Nat.le_of_ble_eq_true rfl) dX10_laySheet_201 (fun H locs hP hD hS => ?_)
                have hP : va_P D vcl (mW h0 q cB cI cZ (upd (upd (upd I 25 (nI (pq + 1))) 26 0) 27 (nI (((rows + dd) + 1) + tb))) F) H := hP
                have hD : va_D A (mW h0 q cB cI cZ (upd (upd (upd I 25 (nI (pq + 1))) 26 0) 27 (nI (((rows + dd) + 1) + tb))) F) := hD
                refine lv_iload hx hb dX10_laySheet_204 (lv_at hl 5 rfl) ?_
                refine lv_aload_n hx hb dX10_laySheet_206 rfl (lv_at hl 12 rfl) ?_
                refine lv_iload hx hb dX10_laySheet_207 (lv_at hl 7 rfl) ?_
                refine q_ci (k := cells) (n := slots) hK hP hD hS hA (fun hPc hKc hDc => q_rV (As := [.int (nI pq)]) (rest := [.int (nI (i + 1))]) hf (r_size _ D h0 q cB cI cZ (upd (upd (upd I 25 (nI (pq + 1))) 26 0) 27 (nI (((rows + dd) + 1) + tb))) F pn pe sl K Fm To Rr pq hpv (by omega) _) k_1391 k_1388 k_1390 k_62 k_98 (nA := 1) (by decide +kernel) ⟨Nat.le_trans (by decide) hRf, Nat.le_trans (by decide) hRl⟩ hK hP (ci := 11) (q0 := 0) rfl rfl rfl hPc hKc hDc (fun _ _ _ _ h => h) (fun _ _ _ => trivial) rfl hl.1 rfl (Nat.le_of_ble_eq_true rfl) dX10_laySheet_209 ⟨hRc, hRs⟩) (Nat.le_refl _) (Nat.le_refl _) (fun r u H locs hw hK hP hD hS => ?_)
                obtain ⟨rfl, rfl⟩ := hw
                have hP : va_P D vcl (mW h0 q cB cI cZ (upd (upd (upd I 25 (nI (pq + 1))) 26 0) 27 (nI (((rows + dd) + 1) + tb))) F) H := hP
                have hD : va_D A (mW h0 q cB cI cZ (upd (upd (upd I 25 (nI (pq + 1))) 26 0) 27 (nI (((rows + dd) + 1) + tb))) F) := hD
                refine lv_icmp_ne (tgt := 221) hx hb dX10_laySheet_212 (by decide) (fun c_9 => ?_) (fun c_9 => ?_)
                · have c_9 := q_nen (a := i + 1) (b := To pq - Fm pq) (by omega) (by omega) c_9
                  exact False.elim (by omega)
                · have c_9 := q_eqn (a := i + 1) (b := To pq - Fm pq) (by omega) (by omega) c_9
                  refine lv_iinc (v := (nI (pq + 1))) (lv' := [(8, .int (nI (pq + 1))), (12, .int 1), (6, .int (nI mb)), (11, .int (nI mb)), (10, .int (nI (((rows + dd) + 1) + tb))), (7, .int 1), (9, .int (nI (i + 1))), (5, .int (nI ((rows + dd) + 1))), (4, .int (nI en)), (3, .int x3), (2, .int (nI r0)), (1, .int (nI p0)), (0, .ref h0)]) hx hb dX10_laySheet_215 hl (k := 7) rfl (nI_add pq 1) (by decide) rfl (fun ls hl => ?_)
                  refine lv_iconst (v := 0) hx hb dX10_laySheet_218 (by decide) ?_
                  refine lv_istore (lv' := [(9, .int 0), (8, .int (nI (pq + 1))), (12, .int 1), (6, .int (nI mb)), (11, .int (nI mb)), (10, .int (nI (((rows + dd) + 1) + tb))), (7, .int 1), (5, .int (nI ((rows + dd) + 1))), (4, .int (nI en)), (3, .int x3), (2, .int (nI r0)), (1, .int (nI p0)), (0, .ref h0)]) hx hb dX10_laySheet_219 hl (by decide) rfl (fun ls hl => ?_)
                  refine lv_goto (tgt := 26) hx hb dX10_laySheet_221 (by decide) ?_
                  refine ih (pq + 1) 0 (rows + dd + 1) mb _ _ _ (some (pq + 1, 0, ((rows + dd) + 1) + tb)) H locs ls (by omega) (by omega) (by omega) (by omega) (fun h9 => ?_) ⟨rfl, rfl, rfl⟩ (fun z => ?_) (by omega) hP hD hS (lv_sub hl (l' := [(9, .int 0), (8, .int (nI (pq + 1))), (7, .int 1), (6, .int (nI mb)), (5, .int (nI ((rows + dd) + 1))), (4, .int (nI en)), (3, .int x3), (2, .int (nI r0)), (1, .int (nI p0)), (0, .ref h0)]) [0, 1, 6, 3, 7, 8, 9, 10, 11, 12] rfl) (fun b2 v1 v2 v3 H locs ls a1 a2 => kk b2 v1 v2 v3 H locs ls (a1.trans (rs_in (by omega) (by omega) edd etb emb (if_pos (by omega)).symm (if_pos (by omega)).symm (if_pos (by omega)).symm (if_pos (by omega)).symm).symm) a2)
                  · have z9 := hpv.2 (pq + 1) (by omega)
                    omega
                  · exact absurd z (by omega)
            · have c_6 := q_eqn (a := mb) (b := 0) (by omega) (by omega) c_6
              refine lv_iload hx hb dX10_laySheet_138 (lv_at hl 6 rfl) ?_
              refine lv_if_ne (tgt := 204) hx hb dX10_laySheet_140 (by decide) (fun c_10 => ?_) (fun c_10 => ?_)
              · have c_10 := q_nen (a := al) (b := 0) (by omega) (by omega) c_10
                refine lv_iload hx hb dX10_laySheet_204 (lv_at hl 3 rfl) ?_
                refine lv_aload_n hx hb dX10_laySheet_206 rfl (lv_at hl 11 rfl) ?_
                refine lv_iload hx hb dX10_laySheet_207 (lv_at hl 5 rfl) ?_
                refine q_ci (k := cells) (n := slots) hK hP hD hS hA (fun hPc hKc hDc => q_rV (As := [.int (nI pq)]) (rest := [.int (nI (i + 1))]) hf (r_size _ D h0 q cB cI cZ (upd (upd (upd I 25 v25) 26 v26) 27 v27) F pn pe sl K Fm To Rr pq hpv (by omega) _) k_1391 k_1388 k_1390 k_62 k_98 (nA := 1) (by decide +kernel) ⟨Nat.le_trans (by decide) hRf, Nat.le_trans (by decide) hRl⟩ hK hP (ci := 11) (q0 := 0) rfl rfl rfl hPc hKc hDc (fun _ _ _ _ h => h) (fun _ _ _ => trivial) rfl hl.1 rfl (Nat.le_of_ble_eq_true rfl) dX10_laySheet_209 ⟨hRc, hRs⟩) (Nat.le_refl _) (Nat.le_refl _) (fun r u H locs hw hK hP hD hS => ?_)
                obtain ⟨rfl, rfl⟩ := hw
                have hP : va_P D vcl (mW h0 q cB cI cZ (upd (upd (upd I 25 v25) 26 v26) 27 v27) F) H := hP
                have hD : va_D A (mW h0 q cB cI cZ (upd (upd (upd I 25 v25) 26 v26) 27 v27) F) := hD
                refine lv_icmp_ne (tgt := 221) hx hb dX10_laySheet_212 (by decide) (fun c_11 => ?_) (fun c_11 => ?_)
                · have c_11 := q_nen (a := i + 1) (b := To pq - Fm pq) (by omega) (by omega) c_11
                  refine lv_goto (tgt := 26) hx hb dX10_laySheet_221 (by decide) ?_
                  refine ih pq (i + 1) (rows + dd + 1) al _ _ _ b H locs ls (by omega) (by omega) (by omega) (by omega) (fun h9 => ?_) hb9 (fun z => ?_) (by omega) hP hD hS (lv_sub hl (l' := [(9, .int (nI (i + 1))), (8, .int (nI pq)), (7, .int 1), (6, .int (nI al)), (5, .int (nI ((rows + dd) + 1))), (4, .int (nI en)), (3, .int x3), (2, .int (nI r0)), (1, .int (nI p0)), (0, .ref h0)]) [3, 5, 2, 6, 4, 7, 8, 9, 10, 11] rfl) (fun b2 v1 v2 v3 H locs ls a1 a2 => kk b2 v1 v2 v3 H locs ls (a1.trans (rs_in (by omega) (by omega) edd etb emb (if_neg (by omega)).symm (if_neg (by omega)).symm (if_neg (by omega)).symm (if_neg (by omega)).symm).symm) a2)
                  · show i + 1 < To pq - Fm pq
                    omega
                  · have := hri z
                    omega
                · have c_11 := q_eqn (a := i + 1) (b := To pq - Fm pq) (by omega) (by omega) c_11
                  refine lv_iinc (v := (nI (pq + 1))) (lv' := [(8, .int (nI (pq + 1))), (11, .int (nI mb)), (10, .int (nI (((rows + dd) + 1) + tb))), (7, .int 1), (9, .int (nI (i + 1))), (5, .int (nI ((rows + dd) + 1))), (6, .int (nI al)), (4, .int (nI en)), (3, .int x3), (2, .int (nI r0)), (1, .int (nI p0)), (0, .ref h0)]) hx hb dX10_laySheet_215 hl (k := 5) rfl (nI_add pq 1) (by decide) rfl (fun ls hl => ?_)
                  refine lv_iconst (v := 0) hx hb dX10_laySheet_218 (by decide) ?_
                  refine lv_istore (lv' := [(9, .int 0), (8, .int (nI (pq + 1))), (11, .int (nI mb)), (10, .int (nI (((rows + dd) + 1) + tb))), (7, .int 1), (5, .int (nI ((rows + dd) + 1))), (6, .int (nI al)), (4, .int (nI en)), (3, .int x3), (2, .int (nI r0)), (1, .int (nI p0)), (0, .ref h0)]) hx hb dX10_laySheet_219 hl (by decide) rfl (fun ls hl => ?_)
                  refine lv_goto (tgt := 26) hx hb dX10_laySheet_221 (by decide) ?_
                  refine ih (pq + 1) 0 (rows + dd + 1) al _ _ _ b H locs ls (by omega) (by omega) (by omega) (by omega) (fun h9 => ?_) hb9 (fun z => ?_) (by omega) hP hD hS (lv_sub hl (l' := [(9, .int 0), (8, .int (nI (pq + 1))), (7, .int 1), (6, .int (nI al)), (5, .int (nI ((rows + dd) + 1))), (4, .int (nI en)), (3, .int x3), (2, .int (nI r0)), (1, .int (nI p0)), (0, .ref h0)]) [0, 1, 4, 6, 5, 7, 8, 9, 10, 11] rfl) (fun b2 v1 v2 v3 H locs ls a1 a2 => kk b2 v1 v2 v3 H locs ls (a1.trans (rs_in (by omega) (by omega) edd etb emb (if_pos (by omega)).symm (if_pos (by omega)).symm (if_neg (by omega)).symm (if_neg (by omega)).symm).symm) a2)
                  · have z9 := hpv.2 (pq + 1) (by omega)
                    omega
                  · exact absurd z (by omega)
              · have c_10 := q_eqn (a := al) (b := 0) (by omega) (by omega) c_10
                refine lv_iload hx hb dX10_laySheet_143 (lv_at hl 0 rfl) ?_
                refine lv_istore (lv' := [(6, .int (nI mb)), (11, .int (nI mb)), (10, .int (nI (((rows + dd) + 1) + tb))), (7, .int 1), (9, .int (nI (i + 1))), (5, .int (nI ((rows + dd) + 1))), (8, .int (nI pq)), (4, .int (nI en)), (3, .int x3), (2, .int (nI r0)), (1, .int (nI p0)), (0, .ref h0)]) hx hb dX10_laySheet_145 hl (by decide) rfl (fun ls hl => ?_)
                refine lv_iload hx hb dX10_laySheet_147 (lv_at hl 4 rfl) ?_
                refine lv_aload_n hx hb dX10_laySheet_149 rfl (lv_at hl 11 rfl) ?_
                refine lv_iload hx hb dX10_laySheet_150 (lv_at hl 6 rfl) ?_
                refine q_ci (k := cells) (n := slots) hK hP hD hS hA (fun hPc hKc hDc => q_rV (As := [.int (nI pq)]) (rest := [.int (nI (i + 1))]) hf (r_size _ D h0 q cB cI cZ (upd (upd (upd I 25 v25) 26 v26) 27 v27) F pn pe sl K Fm To Rr pq hpv (by omega) _) k_1391 k_1388 k_1390 k_62 k_98 (nA := 1) (by decide +kernel) ⟨Nat.le_trans (by decide) hRf, Nat.le_trans (by decide) hRl⟩ hK hP (ci := 11) (q0 := 0) rfl rfl rfl hPc hKc hDc (fun _ _ _ _ h => h) (fun _ _ _ => trivial) rfl hl.1 rfl (Nat.le_of_ble_eq_true rfl) dX10_laySheet_152 ⟨hRc, hRs⟩) (Nat.le_refl _) (Nat.le_refl _) (fun r u H locs hw hK hP hD hS => ?_)
                obtain ⟨rfl, rfl⟩ := hw
                have hP : va_P D vcl (mW h0 q cB cI cZ (upd (upd (upd I 25 v25) 26 v26) 27 v27) F) H := hP
                have hD : va_D A (mW h0 q cB cI cZ (upd (upd (upd I 25 v25) 26 v26) 27 v27) F) := hD
                refine lv_icmp_ne (tgt := 162) hx hb dX10_laySheet_155 (by decide) (fun c_12 => ?_) (fun c_12 => ?_)
                · have c_12 := q_nen (a := i + 1) (b := To pq - Fm pq) (by omega) (by omega) c_12
                  refine lv_iconst (v := 0) hx hb dX10_laySheet_162 (by decide) ?_
                  refine lv_istore (lv' := [(12, .int 0), (6, .int (nI mb)), (11, .int (nI mb)), (10, .int (nI (((rows + dd) + 1) + tb))), (7, .int 1), (9, .int (nI (i + 1))), (5, .int (nI ((rows + dd) + 1))), (8, .int (nI pq)), (4, .int (nI en)), (3, .int x3), (2, .int (nI r0)), (1, .int (nI p0)), (0, .ref h0)]) hx hb dX10_laySheet_163 hl (by decide) rfl (fun ls hl => ?_)
                  refine lv_aload_n hx hb dX10_laySheet_165 rfl (lv_at hl 12 rfl) ?_
                  refine lv_iload hx hb dX10_laySheet_166 (lv_at hl 0 rfl) ?_
                  refine lv_if_eq (tgt := 178) hx hb dX10_laySheet_168 (by decide) (fun _ => ?_) (fun hno => absurd hno (by decide))
                  refine lv_iload hx hb dX10_laySheet_178 (lv_at hl 7 rfl) ?_
                  refine va_put (D := D) (ci := 11) (v := .int (nI pq)) (ty := .int) (C := RX10) (T := TX10) (N := 48) hx hb hts inX10 tyX10 tyX10_ok nmX10 hown hK hP hD hS 0 rfl rfl 25 (by decide) (hts _ k_1169) (fun _ h9 => h9) rfl (by decide +kernel) rfl rfl (Nat.le_of_ble_eq_true rfl) dX10_laySheet_180 (fun H locs hP hD hS => ?_)
                  have hP : va_P D vcl (mW h0 q cB cI cZ (upd (upd (upd I 25 (nI pq)) 26 v26) 27 v27) F) H := hP
                  have hD : va_D A (mW h0 q cB cI cZ (upd (upd (upd I 25 (nI pq)) 26 v26) 27 v27) F) := hD
                  refine lv_aload_n hx hb dX10_laySheet_183 rfl (lv_at hl 12 rfl) ?_
                  refine lv_iload hx hb dX10_laySheet_184 (lv_at hl 0 rfl) ?_
                  refine lv_if_eq (tgt := 193) hx hb dX10_laySheet_186 (by decide) (fun _ => ?_) (fun hno => absurd hno (by decide))
                  refine lv_iload hx hb dX10_laySheet_193 (lv_at hl 5 rfl) ?_
                  refine va_put (D := D) (ci := 11) (v := .int (nI (i + 1))) (ty := .int) (C := RX10) (T := TX10) (N := 48) hx hb hts inX10 tyX10 tyX10_ok nmX10 hown hK hP hD hS 0 rfl rfl 26 (by decide) (hts _ k_1170) (fun _ h9 => h9) rfl (by decide +kernel) rfl rfl (Nat.le_of_ble_eq_true rfl) dX10_laySheet_195 (fun H locs hP hD hS => ?_)
                  have hP : va_P D vcl (mW h0 q cB cI cZ (upd (upd (upd I 25 (nI pq)) 26 (nI (i + 1))) 27 v27) F) H := hP
                  have hD : va_D A (mW h0 q cB cI cZ (upd (upd (upd I 25 (nI pq)) 26 (nI (i + 1))) 27 v27) F) := hD
                  refine lv_aload_n hx hb dX10_laySheet_198 rfl (lv_at hl 12 rfl) ?_
                  refine lv_iload hx hb dX10_laySheet_199 (lv_at hl 3 rfl) ?_
                  refine va_put (D := D) (ci := 11) (v := .int (nI (((rows + dd) + 1) + tb))) (ty := .int) (C := RX10) (T := TX10) (N := 48) hx hb hts inX10 tyX10 tyX10_ok nmX10 hown hK hP hD hS 0 rfl rfl 27 (by decide) (hts _ k_1171) (fun _ h9 => h9) rfl (by decide +kernel) rfl rfl (Nat.le_of_ble_eq_true rfl) dX10_laySheet_201 (fun H locs hP hD hS => ?_)
                  have hP : va_P D vcl (mW h0 q cB cI cZ (upd (upd (upd I 25 (nI pq)) 26 (nI (i + 1))) 27 (nI (((rows + dd) + 1) + tb))) F) H := hP
                  have hD : va_D A (mW h0 q cB cI cZ (upd (upd (upd I 25 (nI pq)) 26 (nI (i + 1))) 27 (nI (((rows + dd) + 1) + tb))) F) := hD
                  refine lv_iload hx hb dX10_laySheet_204 (lv_at hl 5 rfl) ?_
                  refine lv_aload_n hx hb dX10_laySheet_206 rfl (lv_at hl 12 rfl) ?_
                  refine lv_iload hx hb dX10_laySheet_207 (lv_at hl 7 rfl) ?_
                  refine q_ci (k := cells) (n := slots) hK hP hD hS hA (fun hPc hKc hDc => q_rV (As := [.int (nI pq)]) (rest := [.int (nI (i + 1))]) hf (r_size _ D h0 q cB cI cZ (upd (upd (upd I 25 (nI pq)) 26 (nI (i + 1))) 27 (nI (((rows + dd) + 1) + tb))) F pn pe sl K Fm To Rr pq hpv (by omega) _) k_1391 k_1388 k_1390 k_62 k_98 (nA := 1) (by decide +kernel) ⟨Nat.le_trans (by decide) hRf, Nat.le_trans (by decide) hRl⟩ hK hP (ci := 11) (q0 := 0) rfl rfl rfl hPc hKc hDc (fun _ _ _ _ h => h) (fun _ _ _ => trivial) rfl hl.1 rfl (Nat.le_of_ble_eq_true rfl) dX10_laySheet_209 ⟨hRc, hRs⟩) (Nat.le_refl _) (Nat.le_refl _) (fun r u H locs hw hK hP hD hS => ?_)
                  obtain ⟨rfl, rfl⟩ := hw
                  have hP : va_P D vcl (mW h0 q cB cI cZ (upd (upd (upd I 25 (nI pq)) 26 (nI (i + 1))) 27 (nI (((rows + dd) + 1) + tb))) F) H := hP
                  have hD : va_D A (mW h0 q cB cI cZ (upd (upd (upd I 25 (nI pq)) 26 (nI (i + 1))) 27 (nI (((rows + dd) + 1) + tb))) F) := hD
                  refine lv_icmp_ne (tgt := 221) hx hb dX10_laySheet_212 (by decide) (fun c_13 => ?_) (fun c_13 => ?_)
                  · have c_13 := q_nen (a := i + 1) (b := To pq - Fm pq) (by omega) (by omega) c_13
                    refine lv_goto (tgt := 26) hx hb dX10_laySheet_221 (by decide) ?_
                    refine ih pq (i + 1) (rows + dd + 1) mb _ _ _ (some (pq, i + 1, ((rows + dd) + 1) + tb)) H locs ls (by omega) (by omega) (by omega) (by omega) (fun h9 => ?_) ⟨rfl, rfl, rfl⟩ (fun z => ?_) (by omega) hP hD hS (lv_sub hl (l' := [(9, .int (nI (i + 1))), (8, .int (nI pq)), (7, .int 1), (6, .int (nI mb)), (5, .int (nI ((rows + dd) + 1))), (4, .int (nI en)), (3, .int x3), (2, .int (nI r0)), (1, .int (nI p0)), (0, .ref h0)]) [5, 7, 4, 1, 6, 8, 9, 10, 11, 12] rfl) (fun b2 v1 v2 v3 H locs ls a1 a2 => kk b2 v1 v2 v3 H locs ls (a1.trans (rs_in (by omega) (by omega) edd etb emb (if_neg (by omega)).symm (if_neg (by omega)).symm (if_pos (by omega)).symm (if_pos (by omega)).symm).symm) a2)
                    · show i + 1 < To pq - Fm pq
                      omega
                    · have := hri z
                      omega
                  · have c_13 := q_eqn (a := i + 1) (b := To pq - Fm pq) (by omega) (by omega) c_13
                    exact False.elim (by omega)
                · have c_12 := q_eqn (a := i + 1) (b := To pq - Fm pq) (by omega) (by omega) c_12
                  refine lv_iconst (v := 1) hx hb dX10_laySheet_158 (by decide) ?_
                  refine lv_goto (tgt := 163) hx hb dX10_laySheet_159 (by decide) ?_
                  refine lv_istore (lv' := [(12, .int 1), (6, .int (nI mb)), (11, .int (nI mb)), (10, .int (nI (((rows + dd) + 1) + tb))), (7, .int 1), (9, .int (nI (i + 1))), (5, .int (nI ((rows + dd) + 1))), (8, .int (nI pq)), (4, .int (nI en)), (3, .int x3), (2, .int (nI r0)), (1, .int (nI p0)), (0, .ref h0)]) hx hb dX10_laySheet_163 hl (by decide) rfl (fun ls hl => ?_)
                  refine lv_aload_n hx hb dX10_laySheet_165 rfl (lv_at hl 12 rfl) ?_
                  refine lv_iload hx hb dX10_laySheet_166 (lv_at hl 0 rfl) ?_
                  refine lv_if_eq (tgt := 178) hx hb dX10_laySheet_168 (by decide) (fun hno => absurd hno (by decide)) (fun _ => ?_)
                  refine lv_iload hx hb dX10_laySheet_171 (lv_at hl 7 rfl) ?_
                  refine lv_iconst (v := 1) hx hb dX10_laySheet_173 (by decide) ?_
                  refine lv_iadd hx hb dX10_laySheet_174 ?_
                  refine q_seti (y := nI (pq + 1)) (nI_add pq 1) ?_
                  refine lv_goto (tgt := 180) hx hb dX10_laySheet_175 (by decide) ?_
                  refine va_put (D := D) (ci := 11) (v := .int (nI (pq + 1))) (ty := .int) (C := RX10) (T := TX10) (N := 48) hx hb hts inX10 tyX10 tyX10_ok nmX10 hown hK hP hD hS 0 rfl rfl 25 (by decide) (hts _ k_1169) (fun _ h9 => h9) rfl (by decide +kernel) rfl rfl (Nat.le_of_ble_eq_true rfl) dX10_laySheet_180 (fun H locs hP hD hS => ?_)
                  have hP : va_P D vcl (mW h0 q cB cI cZ (upd (upd (upd I 25 (nI (pq + 1))) 26 v26) 27 v27) F) H := hP
                  have hD : va_D A (mW h0 q cB cI cZ (upd (upd (upd I 25 (nI (pq + 1))) 26 v26) 27 v27) F) := hD
                  refine lv_aload_n hx hb dX10_laySheet_183 rfl (lv_at hl 12 rfl) ?_
                  refine lv_iload hx hb dX10_laySheet_184 (lv_at hl 0 rfl) ?_
                  refine lv_if_eq (tgt := 193) hx hb dX10_laySheet_186 (by decide) (fun hno => absurd hno (by decide)) (fun _ => ?_)
                  refine lv_iconst (v := 0) hx hb dX10_laySheet_189 (by decide) ?_
                  refine lv_goto (tgt := 195) hx hb dX10_laySheet_190 (by decide) ?_
                  refine va_put (D := D) (ci := 11) (v := .int 0) (ty := .int) (C := RX10) (T := TX10) (N := 48) hx hb hts inX10 tyX10 tyX10_ok nmX10 hown hK hP hD hS 0 rfl rfl 26 (by decide) (hts _ k_1170) (fun _ h9 => h9) rfl (by decide +kernel) rfl rfl (Nat.le_of_ble_eq_true rfl) dX10_laySheet_195 (fun H locs hP hD hS => ?_)
                  have hP : va_P D vcl (mW h0 q cB cI cZ (upd (upd (upd I 25 (nI (pq + 1))) 26 0) 27 v27) F) H := hP
                  have hD : va_D A (mW h0 q cB cI cZ (upd (upd (upd I 25 (nI (pq + 1))) 26 0) 27 v27) F) := hD
                  refine lv_aload_n hx hb dX10_laySheet_198 rfl (lv_at hl 12 rfl) ?_
                  refine lv_iload hx hb dX10_laySheet_199 (lv_at hl 3 rfl) ?_
                  refine va_put (D := D) (ci := 11) (v := .int (nI (((rows + dd) + 1) + tb))) (ty := .int) (C := RX10) (T := TX10) (N := 48) hx hb hts inX10 tyX10 tyX10_ok nmX10 hown hK hP hD hS 0 rfl rfl 27 (by decide) (hts _ k_1171) (fun _ h9 => h9) rfl (by decide +kernel) rfl rfl (Nat.le_of_ble_eq_true rfl) dX10_laySheet_201 (fun H locs hP hD hS => ?_)
                  have hP : va_P D vcl (mW h0 q cB cI cZ (upd (upd (upd I 25 (nI (pq + 1))) 26 0) 27 (nI (((rows + dd) + 1) + tb))) F) H := hP
                  have hD : va_D A (mW h0 q cB cI cZ (upd (upd (upd I 25 (nI (pq + 1))) 26 0) 27 (nI (((rows + dd) + 1) + tb))) F) := hD
                  refine lv_iload hx hb dX10_laySheet_204 (lv_at hl 5 rfl) ?_
                  refine lv_aload_n hx hb dX10_laySheet_206 rfl (lv_at hl 12 rfl) ?_
                  refine lv_iload hx hb dX10_laySheet_207 (lv_at hl 7 rfl) ?_
                  refine q_ci (k := cells) (n := slots) hK hP hD hS hA (fun hPc hKc hDc => q_rV (As := [.int (nI pq)]) (rest := [.int (nI (i + 1))]) hf (r_size _ D h0 q cB cI cZ (upd (upd (upd I 25 (nI (pq + 1))) 26 0) 27 (nI (((rows + dd) + 1) + tb))) F pn pe sl K Fm To Rr pq hpv (by omega) _) k_1391 k_1388 k_1390 k_62 k_98 (nA := 1) (by decide +kernel) ⟨Nat.le_trans (by decide) hRf, Nat.le_trans (by decide) hRl⟩ hK hP (ci := 11) (q0 := 0) rfl rfl rfl hPc hKc hDc (fun _ _ _ _ h => h) (fun _ _ _ => trivial) rfl hl.1 rfl (Nat.le_of_ble_eq_true rfl) dX10_laySheet_209 ⟨hRc, hRs⟩) (Nat.le_refl _) (Nat.le_refl _) (fun r u H locs hw hK hP hD hS => ?_)
                  obtain ⟨rfl, rfl⟩ := hw
                  have hP : va_P D vcl (mW h0 q cB cI cZ (upd (upd (upd I 25 (nI (pq + 1))) 26 0) 27 (nI (((rows + dd) + 1) + tb))) F) H := hP
                  have hD : va_D A (mW h0 q cB cI cZ (upd (upd (upd I 25 (nI (pq + 1))) 26 0) 27 (nI (((rows + dd) + 1) + tb))) F) := hD
                  refine lv_icmp_ne (tgt := 221) hx hb dX10_laySheet_212 (by decide) (fun c_14 => ?_) (fun c_14 => ?_)
                  · have c_14 := q_nen (a := i + 1) (b := To pq - Fm pq) (by omega) (by omega) c_14
                    exact False.elim (by omega)
                  · have c_14 := q_eqn (a := i + 1) (b := To pq - Fm pq) (by omega) (by omega) c_14
                    refine lv_iinc (v := (nI (pq + 1))) (lv' := [(8, .int (nI (pq + 1))), (12, .int 1), (6, .int (nI mb)), (11, .int (nI mb)), (10, .int (nI (((rows + dd) + 1) + tb))), (7, .int 1), (9, .int (nI (i + 1))), (5, .int (nI ((rows + dd) + 1))), (4, .int (nI en)), (3, .int x3), (2, .int (nI r0)), (1, .int (nI p0)), (0, .ref h0)]) hx hb dX10_laySheet_215 hl (k := 7) rfl (nI_add pq 1) (by decide) rfl (fun ls hl => ?_)
                    refine lv_iconst (v := 0) hx hb dX10_laySheet_218 (by decide) ?_
                    refine lv_istore (lv' := [(9, .int 0), (8, .int (nI (pq + 1))), (12, .int 1), (6, .int (nI mb)), (11, .int (nI mb)), (10, .int (nI (((rows + dd) + 1) + tb))), (7, .int 1), (5, .int (nI ((rows + dd) + 1))), (4, .int (nI en)), (3, .int x3), (2, .int (nI r0)), (1, .int (nI p0)), (0, .ref h0)]) hx hb dX10_laySheet_219 hl (by decide) rfl (fun ls hl => ?_)
                    refine lv_goto (tgt := 26) hx hb dX10_laySheet_221 (by decide) ?_
                    refine ih (pq + 1) 0 (rows + dd + 1) mb _ _ _ (some (pq + 1, 0, ((rows + dd) + 1) + tb)) H locs ls (by omega) (by omega) (by omega) (by omega) (fun h9 => ?_) ⟨rfl, rfl, rfl⟩ (fun z => ?_) (by omega) hP hD hS (lv_sub hl (l' := [(9, .int 0), (8, .int (nI (pq + 1))), (7, .int 1), (6, .int (nI mb)), (5, .int (nI ((rows + dd) + 1))), (4, .int (nI en)), (3, .int x3), (2, .int (nI r0)), (1, .int (nI p0)), (0, .ref h0)]) [0, 1, 6, 3, 7, 8, 9, 10, 11, 12] rfl) (fun b2 v1 v2 v3 H locs ls a1 a2 => kk b2 v1 v2 v3 H locs ls (a1.trans (rs_in (by omega) (by omega) edd etb emb (if_pos (by omega)).symm (if_pos (by omega)).symm (if_pos (by omega)).symm (if_pos (by omega)).symm).symm) a2)
                    · have z9 := hpv.2 (pq + 1) (by omega)
                      omega
                    · exact absurd z (by omega)
      refine lv_iload hx hb dX10_laySheet_38 (lv_at hl 4 rfl) ?_
      refine lv_iload hx hb dX10_laySheet_40 (lv_at hl 1 rfl) ?_
      refine lv_iload_n hx hb dX10_laySheet_42 rfl (lv_at hl 8 rfl) ?_
      refine lv_icmp_le (tgt := 64) hx hb dX10_laySheet_43 (by decide) (fun c_15 => ?_) (fun c_15 => ?_)
      · have c_15 := q_le (a := pq) (b := p0) (by omega) (by omega) c_15
        refine lv_iconst (v := 0) hx hb dX10_laySheet_64 (by decide) ?_
        exact key 0 H locs ls (pb_0 (fun z => absurd z.1 (by omega))).symm hP hD hS (lv_sub hl (l' := [(9, .int (nI i)), (8, .int (nI pq)), (7, .int 1), (6, .int (nI al)), (5, .int (nI rows)), (4, .int (nI en)), (3, .int x3), (2, .int (nI r0)), (1, .int (nI p0)), (0, .ref h0)]) [0, 1, 2, 3, 4, 5, 6, 7, 8, 9] rfl)
      · have c_15 := q_nle (a := pq) (b := p0) (by omega) (by omega) c_15
        refine lv_iload hx hb dX10_laySheet_46 (lv_at hl 0 rfl) ?_
        refine lv_if_ne (tgt := 64) hx hb dX10_laySheet_48 (by decide) (fun c_16 => ?_) (fun c_16 => ?_)
        · have c_16 := q_nen (a := i) (b := 0) (by omega) (by omega) c_16
          refine lv_iconst (v := 0) hx hb dX10_laySheet_64 (by decide) ?_
          exact key 0 H locs ls (pb_0 (fun z => absurd z.2.1 (by omega))).symm hP hD hS (lv_sub hl (l' := [(9, .int (nI i)), (8, .int (nI pq)), (7, .int 1), (6, .int (nI al)), (5, .int (nI rows)), (4, .int (nI en)), (3, .int x3), (2, .int (nI r0)), (1, .int (nI p0)), (0, .ref h0)]) [0, 1, 2, 3, 4, 5, 6, 7, 8, 9] rfl)
        · have c_16 := q_eqn (a := i) (b := 0) (by omega) (by omega) c_16
          refine lv_aload_n hx hb dX10_laySheet_51 rfl (lv_at hl 9 rfl) ?_
          refine lv_iload hx hb dX10_laySheet_52 (lv_at hl 1 rfl) ?_
          refine q_ci (k := cells) (n := slots) hK hP hD hS hA (fun hPc hKc hDc => q_rV (As := [.int (nI pq)]) (rest := [.int (nI rows)]) hf (r_hasEmptyAhead _ D h0 q cB cI cZ (upd (upd (upd I 25 v25) 26 v26) 27 v27) F pn pe sl K Fm To Rr pq hpv (by omega) _) k_1407 k_1404 k_1406 k_66 k_98 (nA := 1) (by decide +kernel) ⟨Nat.le_trans (by decide) hRf, Nat.le_trans (by decide) hRl⟩ hK hP (ci := 11) (q0 := 0) rfl rfl rfl hPc hKc hDc (fun _ _ _ _ h => h) (fun _ _ _ => trivial) rfl hl.1 rfl (Nat.le_of_ble_eq_true rfl) dX10_laySheet_54 ⟨hRc, hRs⟩) (Nat.le_refl _) (Nat.le_refl _) (fun r u H locs hw hK hP hD hS => ?_)
          rcases hw with ⟨⟨c_17, rfl⟩ | ⟨c_17, rfl⟩, rfl⟩
          · have hP : va_P D vcl (mW h0 q cB cI cZ (upd (upd (upd I 25 v25) 26 v26) 27 v27) F) H := hP
            have hD : va_D A (mW h0 q cB cI cZ (upd (upd (upd I 25 v25) 26 v26) 27 v27) F) := hD
            refine lv_if_eq (tgt := 64) hx hb dX10_laySheet_57 (by decide) (fun hno => absurd hno (by decide)) (fun _ => ?_)
            refine lv_iconst (v := 1) hx hb dX10_laySheet_60 (by decide) ?_
            refine lv_goto (tgt := 65) hx hb dX10_laySheet_61 (by decide) ?_
            exact key 1 H locs ls (pb_1 ⟨by omega, by omega, c_17⟩).symm hP hD hS (lv_sub hl (l' := [(9, .int (nI i)), (8, .int (nI pq)), (7, .int 1), (6, .int (nI al)), (5, .int (nI rows)), (4, .int (nI en)), (3, .int x3), (2, .int (nI r0)), (1, .int (nI p0)), (0, .ref h0)]) [0, 1, 2, 3, 4, 5, 6, 7, 8, 9] rfl)
          · have hP : va_P D vcl (mW h0 q cB cI cZ (upd (upd (upd I 25 v25) 26 v26) 27 v27) F) H := hP
            have hD : va_D A (mW h0 q cB cI cZ (upd (upd (upd I 25 v25) 26 v26) 27 v27) F) := hD
            refine lv_if_eq (tgt := 64) hx hb dX10_laySheet_57 (by decide) (fun _ => ?_) (fun hno => absurd hno (by decide))
            refine lv_iconst (v := 0) hx hb dX10_laySheet_64 (by decide) ?_
            exact key 0 H locs ls (pb_0 (fun z => c_17 z.2.2)).symm hP hD hS (lv_sub hl (l' := [(9, .int (nI i)), (8, .int (nI pq)), (7, .int 1), (6, .int (nI al)), (5, .int (nI rows)), (4, .int (nI en)), (3, .int x3), (2, .int (nI r0)), (1, .int (nI p0)), (0, .ref h0)]) [0, 1, 2, 3, 4, 5, 6, 7, 8, 9] rfl)
