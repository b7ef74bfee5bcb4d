/-- the pieces of the first n that aren't of element e -/
def flI (e : Nat) (P : List Q4) : Nat → List Q4
  | 0 => []
  | n + 1 => if (P.getD n d4).1 = e then flI e P n else flI e P n ++ [P.getD n d4]
theorem flI_y {e : Nat} {P : List Q4} {n : Nat} (h : (P.getD n d4).1 = e) : flI e P (n + 1) = flI e P n := if_pos h
theorem flI_n {e : Nat} {P : List Q4} {n : Nat} (h : ¬ (P.getD n d4).1 = e) : flI e P (n + 1) = flI e P n ++ [P.getD n d4] := if_neg h
theorem pc_is_t {P : List Q4} {f1 f2 f3 f4 : Nat → Int32} {x : Q4} {n : Nat} (hn : n = P.length) (h : pc_is P f1 f2 f3 f4) : pc_is (P ++ [x]) (upd f1 n (nI x.1)) (upd f2 n (nI x.2.1)) (upd f3 n (nI x.2.2.1)) (upd f4 n (nI x.2.2.2)) := pc_is_s (a := x.1) (b := x.2.1) (c := x.2.2.1) (d := x.2.2.2) hn h
abbrev cX10_strike : ByteArray := prog_12_method_39_code
def yX10_strike : MethodName := ⟨RX10, "strike", "(I)I"⟩
theorem k_59 : (Cond.selects RX10 yX10_isElement yX10_isElement) ∈ gT := gT_i 59 (by decide +kernel) rfl
theorem k_1368 : (Cond.methodLink RX10 188 yX10_isElement) ∈ gT := gT_i 1368 (by decide +kernel) rfl
theorem k_1370 : (Cond.instanceMethod yX10_isElement) ∈ gT := gT_i 1370 (by decide +kernel) rfl
theorem k_1371 : (Cond.code yX10_isElement cX10_isElement 2 (some .boolean)) ∈ gT := gT_i 1371 (by decide +kernel) rfl
theorem dX10_strike_51 : decode cX10_strike 51 = .ok (.iload_n 3, 1) := by decide +kernel
theorem dX10_strike_52 : decode cX10_strike 52 = .ok (.aload_n 0, 1) := by decide +kernel
theorem dX10_strike_53 : decode cX10_strike 53 = .ok (.getfield 158, 3) := by decide +kernel
theorem dX10_strike_56 : decode cX10_strike 56 = .ok (.if_icmp .ge 70, 3) := by decide +kernel
theorem dX10_strike_59 : decode cX10_strike 59 = .ok (.aload_n 0, 1) := by decide +kernel
theorem dX10_strike_60 : decode cX10_strike 60 = .ok (.getfield 50, 3) := by decide +kernel
theorem dX10_strike_63 : decode cX10_strike 63 = .ok (.iload_n 3, 1) := by decide +kernel
theorem dX10_strike_64 : decode cX10_strike 64 = .ok (.iaload, 1) := by decide +kernel
theorem dX10_strike_65 : decode cX10_strike 65 = .ok (.iload_n 1, 1) := by decide +kernel
theorem dX10_strike_66 : decode cX10_strike 66 = .ok (.if_icmp .eq 54, 3) := by decide +kernel
theorem dX10_strike_120 : decode cX10_strike 120 = .ok (.iinc 3 1, 3) := by decide +kernel
theorem dX10_strike_123 : decode cX10_strike 123 = .ok (.goto (-72), 3) := by decide +kernel
theorem dX10_strike_69 : decode cX10_strike 69 = .ok (.aload_n 0, 1) := by decide +kernel
theorem dX10_strike_70 : decode cX10_strike 70 = .ok (.getfield 50, 3) := by decide +kernel
theorem dX10_strike_73 : decode cX10_strike 73 = .ok (.iload_n 2, 1) := by decide +kernel
theorem dX10_strike_74 : decode cX10_strike 74 = .ok (.aload_n 0, 1) := by decide +kernel
theorem dX10_strike_75 : decode cX10_strike 75 = .ok (.getfield 50, 3) := by decide +kernel
theorem dX10_strike_78 : decode cX10_strike 78 = .ok (.iload_n 3, 1) := by decide +kernel
theorem dX10_strike_79 : decode cX10_strike 79 = .ok (.iaload, 1) := by decide +kernel
theorem dX10_strike_80 : decode cX10_strike 80 = .ok (.iastore, 1) := by decide +kernel
theorem dX10_strike_81 : decode cX10_strike 81 = .ok (.aload_n 0, 1) := by decide +kernel
theorem dX10_strike_82 : decode cX10_strike 82 = .ok (.getfield 53, 3) := by decide +kernel
theorem dX10_strike_85 : decode cX10_strike 85 = .ok (.iload_n 2, 1) := by decide +kernel
theorem dX10_strike_86 : decode cX10_strike 86 = .ok (.aload_n 0, 1) := by decide +kernel
theorem dX10_strike_87 : decode cX10_strike 87 = .ok (.getfield 53, 3) := by decide +kernel
theorem dX10_strike_90 : decode cX10_strike 90 = .ok (.iload_n 3, 1) := by decide +kernel
theorem dX10_strike_91 : decode cX10_strike 91 = .ok (.iaload, 1) := by decide +kernel
theorem dX10_strike_92 : decode cX10_strike 92 = .ok (.iastore, 1) := by decide +kernel
theorem dX10_strike_93 : decode cX10_strike 93 = .ok (.aload_n 0, 1) := by decide +kernel
theorem dX10_strike_94 : decode cX10_strike 94 = .ok (.getfield 56, 3) := by decide +kernel
theorem dX10_strike_97 : decode cX10_strike 97 = .ok (.iload_n 2, 1) := by decide +kernel
theorem dX10_strike_98 : decode cX10_strike 98 = .ok (.aload_n 0, 1) := by decide +kernel
theorem dX10_strike_99 : decode cX10_strike 99 = .ok (.getfield 56, 3) := by decide +kernel
theorem dX10_strike_102 : decode cX10_strike 102 = .ok (.iload_n 3, 1) := by decide +kernel
theorem dX10_strike_103 : decode cX10_strike 103 = .ok (.iaload, 1) := by decide +kernel
theorem dX10_strike_104 : decode cX10_strike 104 = .ok (.iastore, 1) := by decide +kernel
theorem dX10_strike_105 : decode cX10_strike 105 = .ok (.aload_n 0, 1) := by decide +kernel
theorem dX10_strike_106 : decode cX10_strike 106 = .ok (.getfield 59, 3) := by decide +kernel
theorem dX10_strike_109 : decode cX10_strike 109 = .ok (.iload_n 2, 1) := by decide +kernel
theorem dX10_strike_110 : decode cX10_strike 110 = .ok (.aload_n 0, 1) := by decide +kernel
theorem dX10_strike_111 : decode cX10_strike 111 = .ok (.getfield 59, 3) := by decide +kernel
theorem dX10_strike_114 : decode cX10_strike 114 = .ok (.iload_n 3, 1) := by decide +kernel
theorem dX10_strike_115 : decode cX10_strike 115 = .ok (.iaload, 1) := by decide +kernel
theorem dX10_strike_116 : decode cX10_strike 116 = .ok (.iastore, 1) := by decide +kernel
theorem dX10_strike_117 : decode cX10_strike 117 = .ok (.iinc 2 1, 3) := by decide +kernel
theorem dX10_strike_0 : decode cX10_strike 0 = .ok (.aload_n 0, 1) := by decide +kernel
theorem dX10_strike_1 : decode cX10_strike 1 = .ok (.iload_n 1, 1) := by decide +kernel
theorem dX10_strike_2 : decode cX10_strike 2 = .ok (.invokevirtual 188, 3) := by decide +kernel
theorem dX10_strike_5 : decode cX10_strike 5 = .ok (.ifCond .ne 6, 3) := by decide +kernel
theorem dX10_strike_11 : decode cX10_strike 11 = .ok (.aload_n 0, 1) := by decide +kernel
theorem dX10_strike_12 : decode cX10_strike 12 = .ok (.getfield 170, 3) := by decide +kernel
theorem dX10_strike_15 : decode cX10_strike 15 = .ok (.ifCond .eq 17, 3) := by decide +kernel
theorem dX10_strike_32 : decode cX10_strike 32 = .ok (.bipush (-3), 2) := by decide +kernel
theorem dX10_strike_34 : decode cX10_strike 34 = .ok (.ireturn, 1) := by decide +kernel
theorem dX10_strike_18 : decode cX10_strike 18 = .ok (.aload_n 0, 1) := by decide +kernel
theorem dX10_strike_19 : decode cX10_strike 19 = .ok (.getfield 28, 3) := by decide +kernel
theorem dX10_strike_22 : decode cX10_strike 22 = .ok (.aload_n 0, 1) := by decide +kernel
theorem dX10_strike_23 : decode cX10_strike 23 = .ok (.getfield 17, 3) := by decide +kernel
theorem dX10_strike_26 : decode cX10_strike 26 = .ok (.iload_n 1, 1) := by decide +kernel
theorem dX10_strike_27 : decode cX10_strike 27 = .ok (.iaload, 1) := by decide +kernel
theorem dX10_strike_28 : decode cX10_strike 28 = .ok (.baload, 1) := by decide +kernel
theorem dX10_strike_29 : decode cX10_strike 29 = .ok (.ifCond .eq 6, 3) := by decide +kernel
theorem dX10_strike_35 : decode cX10_strike 35 = .ok (.aload_n 0, 1) := by decide +kernel
theorem dX10_strike_36 : decode cX10_strike 36 = .ok (.getfield 28, 3) := by decide +kernel
theorem dX10_strike_39 : decode cX10_strike 39 = .ok (.aload_n 0, 1) := by decide +kernel
theorem dX10_strike_40 : decode cX10_strike 40 = .ok (.getfield 17, 3) := by decide +kernel
theorem dX10_strike_43 : decode cX10_strike 43 = .ok (.iload_n 1, 1) := by decide +kernel
theorem dX10_strike_44 : decode cX10_strike 44 = .ok (.iaload, 1) := by decide +kernel
theorem dX10_strike_45 : decode cX10_strike 45 = .ok (.iconst 1, 1) := by decide +kernel
theorem dX10_strike_46 : decode cX10_strike 46 = .ok (.bastore, 1) := by decide +kernel
theorem dX10_strike_47 : decode cX10_strike 47 = .ok (.iconst 0, 1) := by decide +kernel
theorem dX10_strike_48 : decode cX10_strike 48 = .ok (.istore_n 2, 1) := by decide +kernel
theorem dX10_strike_49 : decode cX10_strike 49 = .ok (.iconst 0, 1) := by decide +kernel
theorem dX10_strike_50 : decode cX10_strike 50 = .ok (.istore_n 3, 1) := by decide +kernel
theorem dX10_strike_126 : decode cX10_strike 126 = .ok (.aload_n 0, 1) := by decide +kernel
theorem dX10_strike_127 : decode cX10_strike 127 = .ok (.iload_n 2, 1) := by decide +kernel
theorem dX10_strike_128 : decode cX10_strike 128 = .ok (.putfield 158, 3) := by decide +kernel
theorem dX10_strike_131 : decode cX10_strike 131 = .ok (.iconst 1, 1) := by decide +kernel
theorem dX10_strike_132 : decode cX10_strike 132 = .ok (.ireturn, 1) := by decide +kernel
theorem dX10_strike_8 : decode cX10_strike 8 = .ok (.bipush (-2), 2) := by decide +kernel
theorem dX10_strike_10 : decode cX10_strike 10 = .ok (.ireturn, 1) := by decide +kernel
set_option maxHeartbeats 1000000 in
set_option maxRecDepth 100000 in
theorem lr_str {p : Program} {l : Launch} {e : Env} {R : Room} {s : State} {m : MethodId} {args : Array Value} {below : List Frame} {meth : Method} {c : Code} {cells slots : Nat} {Q : State → Prop} {D : va_G} {A : Nat → Prop} {h0 : Nat} {q : Nat → Nat} {cB cI cZ : ClassId} {I : Nat → Int32} {F : Nat → Nat → Int32} {pn e_ : Nat} {P : List Q4} (hI14 : I 14 = nI pn) (hpl : P.length = pn) (hpn : pn ≤ 8000) (hpcF : pc_is P (F 15) (F 16) (F 17) (F 18)) (hpb : ∀ i, i < pn → (P.getD i d4).1 < 60) (he : e_ < 60) (hRf : 0 ≤ R.frames) (hRl : 0 ≤ R.locals) (hRc : cells ≤ R.cells) (hRs : slots ≤ R.slots) (hA : ∀ q : Nat, s.heap.size ≤ q → A q) (hf : CallFix p m c cX10_strike 4 s args gT yX10_strike.cls) (hK : va_K D vcl (mT cB cI cZ) s) :
    ∀ (k : Nat) (i : Nat) (n : Nat) (g15 : Nat → Int32) (g16 : Nat → Int32) (g17 : Nat → Int32) (g18 : Nat → Int32) (H : Heap) (locs : List Loc) (ls : Array Slot), i + k = pn → n ≤ i → n = (flI e_ P i).length → pc_is (flI e_ P i) g15 g16 g17 g18 → (∀ j, i ≤ j → g15 j = F 15 j ∧ g16 j = F 16 j ∧ g17 j = F 17 j ∧ g18 j = F 18 j) →  va_P D vcl (mW h0 q cB cI cZ I (va_up (va_up (va_up (va_up F 15 g15) 16 g16) 17 g17) 18 g18)) H → va_D A (mW h0 q cB cI cZ I (va_up (va_up (va_up (va_up F 15 g15) 16 g16) 17 g17) 18 g18)) → va_S A s.heap H locs → lv_has ls 4 [(3, .int (nI i)), (2, .int (nI n)), (1, .int (nI e_)), (0, .ref h0)] →
    (∀ (n2 : Nat) (g15 : Nat → Int32) (g16 : Nat → Int32) (g17 : Nat → Int32) (g18 : Nat → Int32) (H : Heap) (locs : List Loc) (ls : Array Slot), n2 = (flI e_ P pn).length → pc_is (flI e_ P pn) g15 g16 g17 g18 → va_P D vcl (mW h0 q cB cI cZ I (va_up (va_up (va_up (va_up F 15 g15) 16 g16) 17 g17) 18 g18)) H → va_D A (mW h0 q cB cI cZ I (va_up (va_up (va_up (va_up F 15 g15) 16 g16) 17 g17) 18 g18)) → va_S A s.heap H locs → lv_has ls 4 [(2, .int (nI n2)), (0, .ref h0)] → W p l e R s m args below meth c H locs cells slots Q (F0 m 126 ls [])) →
    W p l e R s m args below meth c H locs cells slots Q (F0 m 51 ls []) := by
  obtain ⟨hx, hb, hml, hown, hts⟩ := id hf
  intro k
  induction k with
  | zero =>
    intro i n g15 g16 g17 g18 H locs ls hik hni hn hpc hre hP hD hS hl kk
    refine lv_iload_n hx hb dX10_strike_51 rfl (lv_at hl 0 rfl) ?_
    refine lv_aload_n hx hb dX10_strike_52 rfl (lv_at hl 3 rfl) ?_
    refine va_get (D := D) (ci := 11) (v := .int (I 14)) (C := RX10) (T := TX10) (N := 48) hx hb hts inX10 hown hK hP 0 rfl rfl 14 (by decide) (hts _ k_1158) (fun _ h9 => h9) rfl dX10_strike_53 ?_
    refine q_seti (y := (nI pn)) hI14 ?_
    refine lv_icmp_ge (tgt := 126) hx hb dX10_strike_56 (by decide) (fun c_1 => ?_) (fun c_1 => ?_)
    · have c_1 := q_le (a := pn) (b := i) (by omega) (by omega) c_1
      obtain rfl : i = pn := by omega
      exact kk n g15 g16 g17 g18 H locs ls hn hpc hP hD hS (lv_sub hl (l' := [(2, .int (nI n)), (0, .ref h0)]) [1, 3] rfl)
    · have c_1 := q_nle (a := pn) (b := i) (by omega) (by omega) c_1
      exact absurd hik (by omega)
  | succ k ih =>
    intro i n g15 g16 g17 g18 H locs ls hik hni hn hpc hre hP hD hS hl kk
    refine lv_iload_n hx hb dX10_strike_51 rfl (lv_at hl 0 rfl) ?_
    refine lv_aload_n hx hb dX10_strike_52 rfl (lv_at hl 3 rfl) ?_
    refine va_get (D := D) (ci := 11) (v := .int (I 14)) (C := RX10) (T := TX10) (N := 48) hx hb hts inX10 hown hK hP 0 rfl rfl 14 (by decide) (hts _ k_1158) (fun _ h9 => h9) rfl dX10_strike_53 ?_
    refine q_seti (y := (nI pn)) hI14 ?_
    refine lv_icmp_ge (tgt := 126) hx hb dX10_strike_56 (by decide) (fun c_1 => ?_) (fun c_1 => ?_)
    · have c_1 := q_le (a := pn) (b := i) (by omega) (by omega) c_1
      exact absurd hik (by omega)
    · have c_1 := q_nle (a := pn) (b := i) (by omega) (by omega) c_1
      have hpb9 := hpb i (by omega)
      refine lv_aload_n hx hb dX10_strike_59 rfl (lv_at hl 3 rfl) ?_
      refine va_get (D := D) (ci := 11) (v := .ref (q 15)) (C := RX10) (T := TX10) (N := 48) hx hb hts inX10 hown hK hP 0 rfl rfl 15 (by decide) (hts _ k_1159) (fun _ h9 => h9) rfl dX10_strike_60 ?_
      refine lv_iload_n hx hb dX10_strike_63 rfl (lv_at hl 0 rfl) ?_
      refine q_ild (X := i) (f := g15) hx hb hK hP 12 1 rfl rfl (by omega) (by decide) dX10_strike_64 ?_
      refine q_seti (y := (nI ((P.getD i d4).1))) ((hre i (Nat.le_refl _)).1.trans (hpcF i (by omega)).1) ?_
      refine lv_iload_n hx hb dX10_strike_65 rfl (lv_at hl 2 rfl) ?_
      refine lv_icmp_eq (tgt := 120) hx hb dX10_strike_66 (by decide) (fun c_2 => ?_) (fun c_2 => ?_)
      · have c_2 := q_eqn (a := (P.getD i d4).1) (b := e_) (by omega) (by omega) c_2
        refine lv_iinc (v := (nI (i + 1))) (lv' := [(3, .int (nI (i + 1))), (2, .int (nI n)), (1, .int (nI e_)), (0, .ref h0)]) hx hb dX10_strike_120 hl (k := 0) rfl (nI_add i 1) (by decide) rfl (fun ls hl => ?_)
        refine lv_goto (tgt := 51) hx hb dX10_strike_123 (by decide) ?_
        have hy9 := flI_y (P := P) (e := e_) (show (P.getD i d4).1 = e_ by omega)
        exact ih (i + 1) n g15 g16 g17 g18 H locs ls (by omega) (by omega) (by rw [hy9]; exact hn) (by rw [hy9]; exact hpc) (fun j hj => hre j (by omega)) hP hD hS (lv_sub hl (l' := [(3, .int (nI (i + 1))), (2, .int (nI n)), (1, .int (nI e_)), (0, .ref h0)]) [0, 1, 2, 3] rfl) kk
      · have c_2 := q_nen (a := (P.getD i d4).1) (b := e_) (by omega) (by omega) c_2
        refine lv_aload_n hx hb dX10_strike_69 rfl (lv_at hl 3 rfl) ?_
        refine va_get (D := D) (ci := 11) (v := .ref (q 15)) (C := RX10) (T := TX10) (N := 48) hx hb hts inX10 hown hK hP 0 rfl rfl 15 (by decide) (hts _ k_1159) (fun _ h9 => h9) rfl dX10_strike_70 ?_
        refine lv_iload_n hx hb dX10_strike_73 rfl (lv_at hl 1 rfl) ?_
        refine lv_aload_n hx hb dX10_strike_74 rfl (lv_at hl 3 rfl) ?_
        refine va_get (D := D) (ci := 11) (v := .ref (q 15)) (C := RX10) (T := TX10) (N := 48) hx hb hts inX10 hown hK hP 0 rfl rfl 15 (by decide) (hts _ k_1159) (fun _ h9 => h9) rfl dX10_strike_75 ?_
        refine lv_iload_n hx hb dX10_strike_78 rfl (lv_at hl 0 rfl) ?_
        refine q_ild (X := i) (f := g15) hx hb hK hP 12 1 rfl rfl (by omega) (by decide) dX10_strike_79 ?_
        refine q_seti (y := (nI ((P.getD i d4).1))) ((hre i (Nat.le_refl _)).1.trans (hpcF i (by omega)).1) ?_
        refine q_ist (X := n) (f := g15) (x := (nI ((P.getD i d4).1))) hx hb hK hP hD hS 12 1 rfl rfl (by omega) (by decide) dX10_strike_80 (fun H locs hP hD hS => ?_)
        have hP : va_P D vcl (mW h0 q cB cI cZ I (va_up (va_up (va_up (va_up F 15 (upd g15 n (nI ((P.getD i d4).1)))) 16 g16) 17 g17) 18 g18)) H := hP
        have hD : va_D A (mW h0 q cB cI cZ I (va_up (va_up (va_up (va_up F 15 (upd g15 n (nI ((P.getD i d4).1)))) 16 g16) 17 g17) 18 g18)) := hD
        refine lv_aload_n hx hb dX10_strike_81 rfl (lv_at hl 3 rfl) ?_
        refine va_get (D := D) (ci := 11) (v := .ref (q 16)) (C := RX10) (T := TX10) (N := 48) hx hb hts inX10 hown hK hP 0 rfl rfl 16 (by decide) (hts _ k_1160) (fun _ h9 => h9) rfl dX10_strike_82 ?_
        refine lv_iload_n hx hb dX10_strike_85 rfl (lv_at hl 1 rfl) ?_
        refine lv_aload_n hx hb dX10_strike_86 rfl (lv_at hl 3 rfl) ?_
        refine va_get (D := D) (ci := 11) (v := .ref (q 16)) (C := RX10) (T := TX10) (N := 48) hx hb hts inX10 hown hK hP 0 rfl rfl 16 (by decide) (hts _ k_1160) (fun _ h9 => h9) rfl dX10_strike_87 ?_
        refine lv_iload_n hx hb dX10_strike_90 rfl (lv_at hl 0 rfl) ?_
        refine q_ild (X := i) (f := g16) hx hb hK hP 13 1 rfl rfl (by omega) (by decide) dX10_strike_91 ?_
        refine q_seti (y := (nI ((P.getD i d4).2.1))) ((hre i (Nat.le_refl _)).2.1.trans (hpcF i (by omega)).2.1) ?_
        refine q_ist (X := n) (f := g16) (x := (nI ((P.getD i d4).2.1))) hx hb hK hP hD hS 13 1 rfl rfl (by omega) (by decide) dX10_strike_92 (fun H locs hP hD hS => ?_)
        have hP : va_P D vcl (mW h0 q cB cI cZ I (va_up (va_up (va_up (va_up F 15 (upd g15 n (nI ((P.getD i d4).1)))) 16 (upd g16 n (nI ((P.getD i d4).2.1)))) 17 g17) 18 g18)) H := hP
        have hD : va_D A (mW h0 q cB cI cZ I (va_up (va_up (va_up (va_up F 15 (upd g15 n (nI ((P.getD i d4).1)))) 16 (upd g16 n (nI ((P.getD i d4).2.1)))) 17 g17) 18 g18)) := hD
        refine lv_aload_n hx hb dX10_strike_93 rfl (lv_at hl 3 rfl) ?_
        refine va_get (D := D) (ci := 11) (v := .ref (q 17)) (C := RX10) (T := TX10) (N := 48) hx hb hts inX10 hown hK hP 0 rfl rfl 17 (by decide) (hts _ k_1161) (fun _ h9 => h9) rfl dX10_strike_94 ?_
        refine lv_iload_n hx hb dX10_strike_97 rfl (lv_at hl 1 rfl) ?_
        refine lv_aload_n hx hb dX10_strike_98 rfl (lv_at hl 3 rfl) ?_
        refine va_get (D := D) (ci := 11) (v := .ref (q 17)) (C := RX10) (T := TX10) (N := 48) hx hb hts inX10 hown hK hP 0 rfl rfl 17 (by decide) (hts _ k_1161) (fun _ h9 => h9) rfl dX10_strike_99 ?_
        refine lv_iload_n hx hb dX10_strike_102 rfl (lv_at hl 0 rfl) ?_
        refine q_ild (X := i) (f := g17) hx hb hK hP 14 1 rfl rfl (by omega) (by decide) dX10_strike_103 ?_
        refine q_seti (y := (nI ((P.getD i d4).2.2.1))) ((hre i (Nat.le_refl _)).2.2.1.trans (hpcF i (by omega)).2.2.1) ?_
        refine q_ist (X := n) (f := g17) (x := (nI ((P.getD i d4).2.2.1))) hx hb hK hP hD hS 14 1 rfl rfl (by omega) (by decide) dX10_strike_104 (fun H locs hP hD hS => ?_)
        have hP : va_P D vcl (mW h0 q cB cI cZ I (va_up (va_up (va_up (va_up F 15 (upd g15 n (nI ((P.getD i d4).1)))) 16 (upd g16 n (nI ((P.getD i d4).2.1)))) 17 (upd g17 n (nI ((P.getD i d4).2.2.1)))) 18 g18)) H := hP
        have hD : va_D A (mW h0 q cB cI cZ I (va_up (va_up (va_up (va_up F 15 (upd g15 n (nI ((P.getD i d4).1)))) 16 (upd g16 n (nI ((P.getD i d4).2.1)))) 17 (upd g17 n (nI ((P.getD i d4).2.2.1)))) 18 g18)) := hD
        refine lv_aload_n hx hb dX10_strike_105 rfl (lv_at hl 3 rfl) ?_
        refine va_get (D := D) (ci := 11) (v := .ref (q 18)) (C := RX10) (T := TX10) (N := 48) hx hb hts inX10 hown hK hP 0 rfl rfl 18 (by decide) (hts _ k_1162) (fun _ h9 => h9) rfl dX10_strike_106 ?_
        refine lv_iload_n hx hb dX10_strike_109 rfl (lv_at hl 1 rfl) ?_
        refine lv_aload_n hx hb dX10_strike_110 rfl (lv_at hl 3 rfl) ?_
        refine va_get (D := D) (ci := 11) (v := .ref (q 18)) (C := RX10) (T := TX10) (N := 48) hx hb hts inX10 hown hK hP 0 rfl rfl 18 (by decide) (hts _ k_1162) (fun _ h9 => h9) rfl dX10_strike_111 ?_
        refine lv_iload_n hx hb dX10_strike_114 rfl (lv_at hl 0 rfl) ?_
        refine q_ild (X := i) (f := g18) hx hb hK hP 15 1 rfl rfl (by omega) (by decide) dX10_strike_115 ?_
        refine q_seti (y := (nI ((P.getD i d4).2.2.2))) ((hre i (Nat.le_refl _)).2.2.2.trans (hpcF i (by omega)).2.2.2) ?_
        refine q_ist (X := n) (f := g18) (x := (nI ((P.getD i d4).2.2.2))) hx hb hK hP hD hS 15 1 rfl rfl (by omega) (by decide) dX10_strike_116 (fun H locs hP hD hS => ?_)
        have hP : va_P D vcl (mW h0 q cB cI cZ I (va_up (va_up (va_up (va_up F 15 (upd g15 n (nI ((P.getD i d4).1)))) 16 (upd g16 n (nI ((P.getD i d4).2.1)))) 17 (upd g17 n (nI ((P.getD i d4).2.2.1)))) 18 (upd g18 n (nI ((P.getD i d4).2.2.2))))) H := hP
        have hD : va_D A (mW h0 q cB cI cZ I (va_up (va_up (va_up (va_up F 15 (upd g15 n (nI ((P.getD i d4).1)))) 16 (upd g16 n (nI ((P.getD i d4).2.1)))) 17 (upd g17 n (nI ((P.getD i d4).2.2.1)))) 18 (upd g18 n (nI ((P.getD i d4).2.2.2))))) := hD
        refine lv_iinc (v := (nI (n + 1))) (lv' := [(2, .int (nI (n + 1))), (3, .int (nI i)), (1, .int (nI e_)), (0, .ref h0)]) hx hb dX10_strike_117 hl (k := 1) rfl (nI_add n 1) (by decide) rfl (fun ls hl => ?_)
        refine lv_iinc (v := (nI (i + 1))) (lv' := [(3, .int (nI (i + 1))), (2, .int (nI (n + 1))), (1, .int (nI e_)), (0, .ref h0)]) hx hb dX10_strike_120 hl (k := 1) rfl (nI_add i 1) (by decide) rfl (fun ls hl => ?_)
        refine lv_goto (tgt := 51) hx hb dX10_strike_123 (by decide) ?_
        have hy9 := flI_n (P := P) (e := e_) (show ¬ (P.getD i d4).1 = e_ by omega)
        exact ih (i + 1) (n + 1) _ _ _ _ H locs ls (by omega) (by omega) (by rw [hy9, List.length_append, ← hn]; rfl) (by rw [hy9]; exact pc_is_t hn hpc) (fun j hj => ⟨(pk_un (by omega)).trans (hre j (by omega)).1, (pk_un (by omega)).trans (hre j (by omega)).2.1, (pk_un (by omega)).trans (hre j (by omega)).2.2.1, (pk_un (by omega)).trans (hre j (by omega)).2.2.2⟩) hP hD hS (lv_sub hl (l' := [(3, .int (nI (i + 1))), (2, .int (nI (n + 1))), (1, .int (nI e_)), (0, .ref h0)]) [0, 1, 2, 3] rfl) kk
set_option maxHeartbeats 1000000 in
set_option maxRecDepth 100000 in
theorem r_strike (l : Launch) (D : va_G) (h0 : Nat) (q : Nat → Nat) (cB cI_ cZ : ClassId) (I : Nat → Int32) (F : Nat → Nat → Int32) (pn en lk : Nat) (P : List Q4) (sl : Nat → Nat) (x1 : Int32) (hI14 : I 14 = nI pn) (hI3 : I 3 = nI en) (hI20 : I 20 = nI lk) (hlk : lk ≤ 1) (hen : en ≤ 60) (hpl : P.length = pn) (hpn : pn ≤ 8000) (hpcF : pc_is P (F 15) (F 16) (F 17) (F 18)) (hpb : ∀ i, i < pn → (P.getD i d4).1 < 60) (hsl : ∀ e, e < en → F 4 e = nI (sl e) ∧ sl e < 60) : cI l D yX10_strike cX10_strike 4 (some .int) 2 43 0 0 [.ref h0, .int x1] zT (mW h0 q cB cI_ cZ I F) (mT cB cI_ cZ) (fun r u => (¬ (∃ j : Nat, j < en ∧ x1 = nI j) ∧ r = (-2) ∧ u = (mW h0 q cB cI_ cZ I F, mT cB cI_ cZ)) ∨ (∃ j : Nat, j < en ∧ x1 = nI j ∧ (lk = 0 ∨ ¬ F 7 (sl j) = 0) ∧ r = (-3) ∧ u = (mW h0 q cB cI_ cZ I F, mT cB cI_ cZ)) ∨ (∃ (j n2 : Nat) (g15 g16 g17 g18 : Nat → Int32), j < en ∧ x1 = nI j ∧ 0 < lk ∧ F 7 (sl j) = 0 ∧ r = 1 ∧ n2 = (flI j P pn).length ∧ pc_is (flI j P pn) g15 g16 g17 g18 ∧ u = (mW h0 q cB cI_ cZ (upd I 14 (nI n2)) (va_up (va_up (va_up (va_up (va_up F 7 (upd (F 7) (sl j) (vp_nar .boolean 1))) 15 g15) 16 g16) 17 g17) 18 g18), mT cB cI_ cZ))) := by
  refine q_si (by decide) (Nat.le_of_ble_eq_true rfl) ?_
  intro p e s m below meth c A ls hAe hf hr hlocks hin hK hP hD hS hA hZ hl
  obtain ⟨hx, hb, hml, hown, hts⟩ := id hf
  have hl : lv_has ls 4 [(0, .ref h0), (1, .int x1)] := hl
  refine lv_aload_n hx hb dX10_strike_0 rfl (lv_at hl 0 rfl) ?_
  refine lv_iload_n hx hb dX10_strike_1 rfl (lv_at hl 1 rfl) ?_
  refine q_ci (k := 0) (n := 0) hK hP hD hS hA (fun hPc hKc hDc => q_rV (As := [.int x1]) (rest := []) hf (r_isElement _ D h0 q cB cI_ cZ I F en x1 hI3 hen _) k_1371 k_1368 k_1370 k_59 k_98 (nA := 1) (by decide +kernel) ⟨Nat.le_of_ble_eq_true rfl, Nat.le_of_ble_eq_true rfl⟩ hK hP (ci := 11) (q0 := 0) rfl rfl rfl hPc hKc hDc (fun _ _ _ _ h => h) (fun _ _ _ => trivial) rfl hl.1 rfl (Nat.le_of_ble_eq_true rfl) dX10_strike_2 ⟨Nat.le_of_ble_eq_true rfl, Nat.le_of_ble_eq_true rfl⟩) (by decide) (by decide) (fun r u H locs hw hK hP hD hS => ?_)
  rcases hw with ⟨⟨c_1, rfl⟩ | ⟨c_1, rfl⟩, rfl⟩
  · have hP : va_P D vcl (mW h0 q cB cI_ cZ I F) H := hP
    have hD : va_D A (mW h0 q cB cI_ cZ I F) := hD
    refine lv_if_ne (tgt := 11) hx hb dX10_strike_5 (by decide) (fun _ => ?_) (fun hno => absurd hno (by decide))
    obtain ⟨j, hj, rfl⟩ := c_1
    have hsj := (hsl j hj).2
    have hl : lv_has ls 4 [(0, .ref h0), (1, .int (nI j))] := hl
    refine lv_aload_n hx hb dX10_strike_11 rfl (lv_at hl 0 rfl) ?_
    refine va_get (D := D) (ci := 11) (v := .int (I 20)) (C := RX10) (T := TX10) (N := 48) hx hb hts inX10 hown hK hP 0 rfl rfl 20 (by decide) (hts _ k_1164) (fun _ h9 => h9) rfl dX10_strike_12 ?_
    refine q_seti (y := (nI lk)) hI20 ?_
    refine lv_if_eq (tgt := 32) hx hb dX10_strike_15 (by decide) (fun c_2 => ?_) (fun c_2 => ?_)
    · have c_2 := q_eqn (a := lk) (b := 0) (by omega) (by omega) c_2
      refine lv_bipush (v := (-3)) hx hb dX10_strike_32 (by decide) ?_
      exact q_zi hf hr rfl hlocks hK hP hD hS (Nat.le_of_ble_eq_true rfl) (Nat.le_of_ble_eq_true rfl) (Or.inr (Or.inl ⟨j, hj, rfl, Or.inl (by omega), rfl, rfl⟩)) dX10_strike_34
    · have c_2 := q_nen (a := lk) (b := 0) (by omega) (by omega) c_2
      refine lv_aload_n hx hb dX10_strike_18 rfl (lv_at hl 0 rfl) ?_
      refine va_get (D := D) (ci := 11) (v := .ref (q 7)) (C := RX10) (T := TX10) (N := 48) hx hb hts inX10 hown hK hP 0 rfl rfl 7 (by decide) (hts _ k_1151) (fun _ h9 => h9) rfl dX10_strike_19 ?_
      refine lv_aload_n hx hb dX10_strike_22 rfl (lv_at hl 0 rfl) ?_
      refine va_get (D := D) (ci := 11) (v := .ref (q 4)) (C := RX10) (T := TX10) (N := 48) hx hb hts inX10 hown hK hP 0 rfl rfl 4 (by decide) (hts _ k_1148) (fun _ h9 => h9) rfl dX10_strike_23 ?_
      refine lv_iload_n hx hb dX10_strike_26 rfl (lv_at hl 1 rfl) ?_
      refine q_ild (X := j) (f := (F 4)) hx hb hK hP 2 1 rfl rfl (by omega) (by decide) dX10_strike_27 ?_
      refine q_seti (y := (nI ((sl j)))) (hsl j (by omega)).1 ?_
      refine q_zld (X := (sl j)) (f := (F 7)) hx hb hK hP 5 2 rfl rfl (by omega) (by decide) dX10_strike_28 ?_
      refine lv_if_eq (tgt := 35) hx hb dX10_strike_29 (by decide) (fun c_3 => ?_) (fun c_3 => ?_)
      · refine lv_aload_n hx hb dX10_strike_35 rfl (lv_at hl 0 rfl) ?_
        refine va_get (D := D) (ci := 11) (v := .ref (q 7)) (C := RX10) (T := TX10) (N := 48) hx hb hts inX10 hown hK hP 0 rfl rfl 7 (by decide) (hts _ k_1151) (fun _ h9 => h9) rfl dX10_strike_36 ?_
        refine lv_aload_n hx hb dX10_strike_39 rfl (lv_at hl 0 rfl) ?_
        refine va_get (D := D) (ci := 11) (v := .ref (q 4)) (C := RX10) (T := TX10) (N := 48) hx hb hts inX10 hown hK hP 0 rfl rfl 4 (by decide) (hts _ k_1148) (fun _ h9 => h9) rfl dX10_strike_40 ?_
        refine lv_iload_n hx hb dX10_strike_43 rfl (lv_at hl 1 rfl) ?_
        refine q_ild (X := j) (f := (F 4)) hx hb hK hP 2 1 rfl rfl (by omega) (by decide) dX10_strike_44 ?_
        refine q_seti (y := (nI ((sl j)))) (hsl j (by omega)).1 ?_
        refine lv_iconst (v := 1) hx hb dX10_strike_45 (by decide) ?_
        refine q_zst (X := (sl j)) (f := (F 7)) (x := 1) hx hb hK hP hD hS 5 2 rfl rfl (by omega) (by decide) dX10_strike_46 (fun H locs hP hD hS => ?_)
        have hP : va_P D vcl (mW h0 q cB cI_ cZ I (va_up F 7 (upd (F 7) ((sl j)) (vp_nar .boolean 1)))) H := hP
        have hD : va_D A (mW h0 q cB cI_ cZ I (va_up F 7 (upd (F 7) ((sl j)) (vp_nar .boolean 1)))) := hD
        refine lv_iconst (v := 0) hx hb dX10_strike_47 (by decide) ?_
        refine lv_istore_n (lv' := [(2, .int 0), (0, .ref h0), (1, .int (nI j))]) hx hb dX10_strike_48 rfl hl (by decide) rfl (fun ls hl => ?_)
        refine lv_iconst (v := 0) hx hb dX10_strike_49 (by decide) ?_
        refine lv_istore_n (lv' := [(3, .int 0), (2, .int 0), (0, .ref h0), (1, .int (nI j))]) hx hb dX10_strike_50 rfl hl (by decide) rfl (fun ls hl => ?_)
        refine lr_str (I := I) (F := (va_up F 7 (upd (F 7) (sl j) (vp_nar .boolean 1)))) (pn := pn) (e_ := j) (P := P) hI14 hpl hpn hpcF hpb (by omega) (Nat.le_of_ble_eq_true rfl) (Nat.le_of_ble_eq_true rfl) (Nat.le_of_ble_eq_true rfl) (Nat.le_of_ble_eq_true rfl) hA hf hK pn 0 0 (F 15) (F 16) (F 17) (F 18) _ _ ls (by omega) (Nat.le_refl _) rfl (fun i hi => absurd hi (Nat.not_lt_zero i)) (fun i _ => ⟨rfl, rfl, rfl, rfl⟩) hP hD hS (lv_sub hl (l' := [(3, .int 0), (2, .int 0), (1, .int (nI j)), (0, .ref h0)]) [0, 1, 3, 2] rfl) (fun n2 g15 g16 g17 g18 H locs ls a1 a2 hP hD hS hl => ?_)
        refine lv_aload_n hx hb dX10_strike_126 rfl (lv_at hl 1 rfl) ?_
        refine lv_iload_n hx hb dX10_strike_127 rfl (lv_at hl 0 rfl) ?_
        refine va_put (D := D) (ci := 11) (v := .int (nI n2)) (ty := .int) (C := RX10) (T := TX10) (N := 48) hx hb hts inX10 tyX10 tyX10_ok nmX10 hown hK hP hD hS 0 rfl rfl 14 (by decide) (hts _ k_1158) (fun _ h9 => h9) rfl (by decide +kernel) rfl rfl (Nat.le_of_ble_eq_true rfl) dX10_strike_128 (fun H locs hP hD hS => ?_)
        have hP : va_P D vcl (mW h0 q cB cI_ cZ (upd I 14 (nI n2)) (va_up (va_up (va_up (va_up (va_up F 7 (upd (F 7) (sl j) (vp_nar .boolean 1))) 15 g15) 16 g16) 17 g17) 18 g18)) H := hP
        have hD : va_D A (mW h0 q cB cI_ cZ (upd I 14 (nI n2)) (va_up (va_up (va_up (va_up (va_up F 7 (upd (F 7) (sl j) (vp_nar .boolean 1))) 15 g15) 16 g16) 17 g17) 18 g18)) := hD
        refine lv_iconst (v := 1) hx hb dX10_strike_131 (by decide) ?_
        exact q_zi hf hr rfl hlocks hK hP hD hS (Nat.le_of_ble_eq_true rfl) (Nat.le_of_ble_eq_true rfl) (Or.inr (Or.inr ⟨j, n2, g15, g16, g17, g18, hj, rfl, by omega, c_3, rfl, a1, a2, rfl⟩)) dX10_strike_132
      · refine lv_bipush (v := (-3)) hx hb dX10_strike_32 (by decide) ?_
        exact q_zi hf hr rfl hlocks hK hP hD hS (Nat.le_of_ble_eq_true rfl) (Nat.le_of_ble_eq_true rfl) (Or.inr (Or.inl ⟨j, hj, rfl, Or.inr c_3, rfl, rfl⟩)) dX10_strike_34
  · have hP : va_P D vcl (mW h0 q cB cI_ cZ I F) H := hP
    have hD : va_D A (mW h0 q cB cI_ cZ I F) := hD
    refine lv_if_ne (tgt := 11) hx hb dX10_strike_5 (by decide) (fun hno => absurd hno (by decide)) (fun _ => ?_)
    refine lv_bipush (v := (-2)) hx hb dX10_strike_8 (by decide) ?_
    exact q_zi hf hr rfl hlocks hK hP hD hS (Nat.le_of_ble_eq_true rfl) (Nat.le_of_ble_eq_true rfl) (Or.inl ⟨c_1, rfl, rfl⟩) dX10_strike_10
