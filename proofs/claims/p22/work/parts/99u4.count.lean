noncomputable def ctS (Es : List E5) : Nat → Nat
  | 0 => 0
  | k + 1 => ctS Es k + (if (Es.getD k dE).2.2.1 = 0 then 0 else 1)
noncomputable def ctR (Es : List E5) : Nat → Nat
  | 0 => 0
  | k + 1 => ctR Es k + (if (Es.getD k dE).2.2.1 = 0 then eRw (Es.getD k dE) else 0)
theorem ctS_0 {Es : List E5} {k : Nat} (h : (Es.getD k dE).2.2.1 = 0) : ctS Es (k + 1) = ctS Es k := by
  show ctS Es k + (if (Es.getD k dE).2.2.1 = 0 then 0 else 1) = _
  rw [if_pos h]
  rfl
theorem ctS_1 {Es : List E5} {k : Nat} (h : ¬ (Es.getD k dE).2.2.1 = 0) : ctS Es (k + 1) = ctS Es k + 1 := by
  show ctS Es k + (if (Es.getD k dE).2.2.1 = 0 then 0 else 1) = _
  rw [if_neg h]
theorem ctR_0 {Es : List E5} {k : Nat} (h : (Es.getD k dE).2.2.1 = 0) : ctR Es (k + 1) = ctR Es k + eRw (Es.getD k dE) := by
  show ctR Es k + (if (Es.getD k dE).2.2.1 = 0 then eRw (Es.getD k dE) else 0) = _
  rw [if_pos h]
theorem ctR_1 {Es : List E5} {k : Nat} (h : ¬ (Es.getD k dE).2.2.1 = 0) : ctR Es (k + 1) = ctR Es k := by
  show ctR Es k + (if (Es.getD k dE).2.2.1 = 0 then eRw (Es.getD k dE) else 0) = _
  rw [if_neg h]
  rfl
noncomputable def ctW (x1 : Int32) (Es : List E5) (i : Nat) : Int32 := if x1 = 2 then nI (ctS Es i) else nI (ctR Es i)
theorem ctW_S1 {x1 v : Int32} {Es : List E5} {i : Nat} (hv : v = ctW x1 Es i) (c : x1 = 2) (c2 : ¬ (Es.getD i dE).2.2.1 = 0) : v + 1 = ctW x1 Es (i + 1) := by
  rw [hv]; unfold ctW; rw [if_pos c, if_pos c, ctS_1 c2]; exact nI_add _ 1
theorem ctW_S0 {x1 v : Int32} {Es : List E5} {i : Nat} (hv : v = ctW x1 Es i) (c : x1 = 2) (c2 : (Es.getD i dE).2.2.1 = 0) : v + 0 = ctW x1 Es (i + 1) := by
  rw [hv]; unfold ctW; rw [if_pos c, if_pos c, ctS_0 c2]; exact nI_add _ 0
theorem ctW_R0 {x1 v : Int32} {Es : List E5} {i : Nat} (hv : v = ctW x1 Es i) (c : ¬ x1 = 2) (c2 : (Es.getD i dE).2.2.1 = 0) : v + nI (eRw (Es.getD i dE)) = ctW x1 Es (i + 1) := by
  rw [hv]; unfold ctW; rw [if_neg c, if_neg c, ctR_0 c2]; exact nI_add _ _
theorem ctW_R1 {x1 v : Int32} {Es : List E5} {i : Nat} (hv : v = ctW x1 Es i) (c : ¬ x1 = 2) (c2 : ¬ (Es.getD i dE).2.2.1 = 0) : v + 0 = ctW x1 Es (i + 1) := by
  rw [hv]; unfold ctW; rw [if_neg c, if_neg c, ctR_1 c2]; exact nI_add _ 0
/-- count: the answer -/
noncomputable def ctV (n ne : Nat) (Es : List E5) (lk mo : Nat) (w : Int32) : Int32 := if w = 0 then nI n else if w = 1 then nI ne else if w = 2 then nI (ctS Es ne) else if w = 3 then nI (ctR Es ne) else if w = 4 then (if lk = 0 then 0 else 1) else if w = 5 then nI mo else (-2)
theorem ctV_0 {n ne : Nat} {Es : List E5} {lk mo : Nat} {w : Int32} (h : w = 0) : ctV n ne Es lk mo w = nI n := by
  rw [h]; unfold ctV; rw [if_pos rfl]
theorem ctV_1 {n ne : Nat} {Es : List E5} {lk mo : Nat} {w : Int32} (h : w = 1) : ctV n ne Es lk mo w = nI ne := by
  rw [h]; unfold ctV; rw [if_neg (by decide), if_pos rfl]
theorem ctV_2 {n ne : Nat} {Es : List E5} {lk mo : Nat} {w : Int32} (h : w = 2) : ctV n ne Es lk mo w = nI (ctS Es ne) := by
  rw [h]; unfold ctV; rw [if_neg (by decide), if_neg (by decide), if_pos rfl]
theorem ctV_3 {n ne : Nat} {Es : List E5} {lk mo : Nat} {w : Int32} (h : w = 3) : ctV n ne Es lk mo w = nI (ctR Es ne) := by
  rw [h]; unfold ctV; rw [if_neg (by decide), if_neg (by decide), if_neg (by decide), if_pos rfl]
theorem ctV_4 {n ne : Nat} {Es : List E5} {lk mo : Nat} {w : Int32} (h : w = 4) : ctV n ne Es lk mo w = (if lk = 0 then 0 else 1) := by
  rw [h]; unfold ctV; rw [if_neg (by decide), if_neg (by decide), if_neg (by decide), if_neg (by decide), if_pos rfl]
theorem ctV_5 {n ne : Nat} {Es : List E5} {lk mo : Nat} {w : Int32} (h : w = 5) : ctV n ne Es lk mo w = nI mo := by
  rw [h]; unfold ctV; rw [if_neg (by decide), if_neg (by decide), if_neg (by decide), if_neg (by decide), if_neg (by decide), if_pos rfl]
theorem ctV_4a {n ne : Nat} {Es : List E5} {lk mo : Nat} {w : Int32} (h : w = 4) (h1 : lk = 0) : ctV n ne Es lk mo w = 0 := by rw [ctV_4 h, if_pos h1]
theorem ctV_4b {n ne : Nat} {Es : List E5} {lk mo : Nat} {w : Int32} (h : w = 4) (h1 : ¬ lk = 0) : ctV n ne Es lk mo w = 1 := by rw [ctV_4 h, if_neg h1]
theorem ctV_out {n ne : Nat} {Es : List E5} {lk mo : Nat} {w : Int32} (h : w.toInt < 0 ∨ 5 < w.toInt) : ctV n ne Es lk mo w = (-2) := by
  have n0 : ¬ w = 0 := fun z9 => by rw [z9] at h; revert h; decide
  have n1 : ¬ w = 1 := fun z9 => by rw [z9] at h; revert h; decide
  have n2 : ¬ w = 2 := fun z9 => by rw [z9] at h; revert h; decide
  have n3 : ¬ w = 3 := fun z9 => by rw [z9] at h; revert h; decide
  have n4 : ¬ w = 4 := fun z9 => by rw [z9] at h; revert h; decide
  have n5 : ¬ w = 5 := fun z9 => by rw [z9] at h; revert h; decide
  unfold ctV
  rw [if_neg n0, if_neg n1, if_neg n2, if_neg n3, if_neg n4, if_neg n5]
theorem ctV_W2 {n ne : Nat} {Es : List E5} {lk mo : Nat} {w : Int32} (h : w = 2) : ctW w Es ne = ctV n ne Es lk mo w := by rw [ctV_2 h]; unfold ctW; rw [if_pos h]
theorem ctV_W3 {n ne : Nat} {Es : List E5} {lk mo : Nat} {w : Int32} (h : w = 3) : ctW w Es ne = ctV n ne Es lk mo w := by rw [ctV_3 h]; unfold ctW; rw [if_neg (by rw [h]; decide)]

set_option maxHeartbeats 1000000 in
set_option maxRecDepth 100000 in
theorem lc_cnt2 {p : Program} {l : Launch} {e : Env} {R : Room} {s : State} {m : MethodId} {args : Array Value} {below : List Frame} {meth : Method} {c : Code} {cells slots : Nat} {Q : State → Prop} {D : va_G} {A : Nat → Prop} {h0 : Nat} {q : Nat → Nat} {cB cI cZ : ClassId} {I : Nat → Int32} {F : Nat → Nat → Int32} {Es : List E5} {sl : Nat → Nat} {x1 : Int32} (hI3 : I 3 = nI Es.length) (hre : reR F Es sl) (hRf : 0 ≤ R.frames) (hRl : 0 ≤ R.locals) (hRc : cells ≤ R.cells) (hRs : slots ≤ R.slots) (hA : ∀ q : Nat, s.heap.size ≤ q → A q) (hf : CallFix p m c cX10_count 5 s args gT yX10_count.cls) (hK : va_K D vcl (mT cB cI cZ) s) :
    ∀ (k : Nat) (i : Nat) (v : Int32) (H : Heap) (locs : List Loc) (ls : Array Slot), i + k = Es.length → v = ctW x1 Es i →  va_P D vcl (mW h0 q cB cI cZ I F) H → va_D A (mW h0 q cB cI cZ I F) → va_S A s.heap H locs → lv_has ls 5 [(3, .int (nI i)), (2, .int v), (1, .int x1), (0, .ref h0)] →
    (∀ (v : Int32) (H : Heap) (locs : List Loc) (ls : Array Slot), v = ctW x1 Es Es.length → va_P D vcl (mW h0 q cB cI cZ I F) H → va_D A (mW h0 q cB cI cZ I F) → va_S A s.heap H locs → lv_has ls 5 [(2, .int v), (1, .int x1), (0, .ref h0)] → W p l e R s m args below meth c H locs cells slots Q (F0 m 120 ls [])) →
    W p l e R s m args below meth c H locs cells slots Q (F0 m 52 ls []) := by
  obtain ⟨hx, hb, hml, hown, hts⟩ := id hf
  have hre1 := hre.1
  intro k
  induction k with
  | zero =>
    intro i v H locs ls hik hv hP hD hS hl kk
    refine lv_iload_n hx hb dX10_count_52 rfl (lv_at hl 0 rfl) ?_
    refine lv_aload_n hx hb dX10_count_53 rfl (lv_at hl 3 rfl) ?_
    refine va_get (D := D) (ci := 11) (v := .int (I 3)) (C := RX10) (T := TX10) (N := 48) hx hb hts inX10 hown hK hP 0 rfl rfl 3 (by decide) (hts _ k_1147) (fun _ h9 => h9) rfl dX10_count_54 ?_
    refine q_seti (y := (nI (Es.length))) hI3 ?_
    refine lv_icmp_ge (tgt := 120) hx hb dX10_count_57 (by decide) (fun c_1 => ?_) (fun c_1 => ?_)
    · have c_1 := q_le (a := Es.length) (b := i) (by omega) (by omega) c_1
      obtain rfl : i = Es.length := by omega
      exact kk v H locs ls hv hP hD hS (lv_sub hl (l' := [(2, .int v), (1, .int x1), (0, .ref h0)]) [1, 2, 3] rfl)
    · have c_1 := q_nle (a := Es.length) (b := i) (by omega) (by omega) c_1
      exact absurd hik (by omega)
  | succ k ih =>
    intro i v H locs ls hik hv hP hD hS hl kk
    refine lv_iload_n hx hb dX10_count_52 rfl (lv_at hl 0 rfl) ?_
    refine lv_aload_n hx hb dX10_count_53 rfl (lv_at hl 3 rfl) ?_
    refine va_get (D := D) (ci := 11) (v := .int (I 3)) (C := RX10) (T := TX10) (N := 48) hx hb hts inX10 hown hK hP 0 rfl rfl 3 (by decide) (hts _ k_1147) (fun _ h9 => h9) rfl dX10_count_54 ?_
    refine q_seti (y := (nI (Es.length))) hI3 ?_
    refine lv_icmp_ge (tgt := 120) hx hb dX10_count_57 (by decide) (fun c_1 => ?_) (fun c_1 => ?_)
    · have c_1 := q_le (a := Es.length) (b := i) (by omega) (by omega) c_1
      exact absurd hik (by omega)
    · have c_1 := q_nle (a := Es.length) (b := i) (by omega) (by omega) c_1
      have hslj := (hre.2.1 i (by omega)).2.1
      have hrwj := elF_rw (hre.2.1 i (by omega)).2.2
      refine lv_aload_n hx hb dX10_count_60 rfl (lv_at hl 3 rfl) ?_
      refine va_get (D := D) (ci := 11) (v := .ref (q 7)) (C := RX10) (T := TX10) (N := 48) hx hb hts inX10 hown hK hP 0 rfl rfl 7 (by decide) (hts _ k_1151) (fun _ h9 => h9) rfl dX10_count_61 ?_
      refine lv_aload_n hx hb dX10_count_64 rfl (lv_at hl 3 rfl) ?_
      refine va_get (D := D) (ci := 11) (v := .ref (q 4)) (C := RX10) (T := TX10) (N := 48) hx hb hts inX10 hown hK hP 0 rfl rfl 4 (by decide) (hts _ k_1148) (fun _ h9 => h9) rfl dX10_count_65 ?_
      refine lv_iload_n hx hb dX10_count_68 rfl (lv_at hl 0 rfl) ?_
      refine q_ild (X := i) (f := (F 4)) hx hb hK hP 2 1 rfl rfl (by omega) (by decide) dX10_count_69 ?_
      refine q_seti (y := (nI ((sl i)))) (hre.2.1 i (by omega)).1 ?_
      refine q_zld (X := (sl i)) (f := (F 7)) hx hb hK hP 5 2 rfl rfl (by omega) (by decide) dX10_count_70 ?_
      refine q_seti (y := (Es.getD i dE).2.2.1) (hre.2.1 i (by omega)).2.2.2.2.1 ?_
      refine lv_istore (lv' := [(4, .int ((Es.getD i dE).2.2.1)), (3, .int (nI i)), (2, .int v), (1, .int x1), (0, .ref h0)]) hx hb dX10_count_71 hl (by decide) rfl (fun ls hl => ?_)
      refine lv_iload_n hx hb dX10_count_73 rfl (lv_at hl 2 rfl) ?_
      refine lv_iload_n hx hb dX10_count_74 rfl (lv_at hl 3 rfl) ?_
      refine lv_iconst (v := 2) hx hb dX10_count_75 (by decide) ?_
      refine lv_icmp_ne (tgt := 92) hx hb dX10_count_76 (by decide) (fun c_2 => ?_) (fun c_2 => ?_)
      · refine lv_iload hx hb dX10_count_92 (lv_at hl 0 rfl) ?_
        refine lv_if_eq (tgt := 101) hx hb dX10_count_94 (by decide) (fun c_3 => ?_) (fun c_3 => ?_)
        · refine lv_aload_n hx hb dX10_count_101 rfl (lv_at hl 4 rfl) ?_
          refine va_get (D := D) (ci := 11) (v := .ref (q 11)) (C := RX10) (T := TX10) (N := 48) hx hb hts inX10 hown hK hP 0 rfl rfl 11 (by decide) (hts _ k_1155) (fun _ h9 => h9) rfl dX10_count_102 ?_
          refine lv_aload_n hx hb dX10_count_105 rfl (lv_at hl 4 rfl) ?_
          refine va_get (D := D) (ci := 11) (v := .ref (q 4)) (C := RX10) (T := TX10) (N := 48) hx hb hts inX10 hown hK hP 0 rfl rfl 4 (by decide) (hts _ k_1148) (fun _ h9 => h9) rfl dX10_count_106 ?_
          refine lv_iload_n hx hb dX10_count_109 rfl (lv_at hl 1 rfl) ?_
          refine q_ild (X := i) (f := (F 4)) hx hb hK hP 2 1 rfl rfl (by omega) (by decide) dX10_count_110 ?_
          refine q_seti (y := (nI ((sl i)))) (hre.2.1 i (by omega)).1 ?_
          refine q_ild (X := (sl i)) (f := (F 11)) hx hb hK hP 9 1 rfl rfl (by omega) (by decide) dX10_count_111 ?_
          refine q_seti (y := (nI (eRw (Es.getD i dE)))) (hre.2.1 i (by omega)).2.2.2.2.2.2.2.2.2.1 ?_
          refine lv_iadd hx hb dX10_count_112 ?_
          refine lv_istore_n (lv' := [(2, .int (v + (nI (eRw (Es.getD i dE))))), (4, .int ((Es.getD i dE).2.2.1)), (3, .int (nI i)), (1, .int x1), (0, .ref h0)]) hx hb dX10_count_113 rfl hl (by decide) rfl (fun ls hl => ?_)
          refine lv_iinc (v := (nI (i + 1))) (lv' := [(3, .int (nI (i + 1))), (2, .int (v + (nI (eRw (Es.getD i dE))))), (4, .int ((Es.getD i dE).2.2.1)), (1, .int x1), (0, .ref h0)]) hx hb dX10_count_114 hl (k := 2) rfl (nI_add i 1) (by decide) rfl (fun ls hl => ?_)
          refine lv_goto (tgt := 52) hx hb dX10_count_117 (by decide) ?_
          exact ih (i + 1) _ H locs ls (by omega) (ctW_R0 hv c_2 c_3) hP hD hS (lv_sub hl (l' := [(3, .int (nI (i + 1))), (2, .int (v + (nI (eRw (Es.getD i dE))))), (1, .int x1), (0, .ref h0)]) [0, 1, 3, 4] rfl) kk
        · refine lv_iconst (v := 0) hx hb dX10_count_97 (by decide) ?_
          refine lv_goto (tgt := 112) hx hb dX10_count_98 (by decide) ?_
          refine lv_iadd hx hb dX10_count_112 ?_
          refine lv_istore_n (lv' := [(2, .int (v + 0)), (4, .int ((Es.getD i dE).2.2.1)), (3, .int (nI i)), (1, .int x1), (0, .ref h0)]) hx hb dX10_count_113 rfl hl (by decide) rfl (fun ls hl => ?_)
          refine lv_iinc (v := (nI (i + 1))) (lv' := [(3, .int (nI (i + 1))), (2, .int (v + 0)), (4, .int ((Es.getD i dE).2.2.1)), (1, .int x1), (0, .ref h0)]) hx hb dX10_count_114 hl (k := 2) rfl (nI_add i 1) (by decide) rfl (fun ls hl => ?_)
          refine lv_goto (tgt := 52) hx hb dX10_count_117 (by decide) ?_
          exact ih (i + 1) _ H locs ls (by omega) (ctW_R1 hv c_2 c_3) hP hD hS (lv_sub hl (l' := [(3, .int (nI (i + 1))), (2, .int (v + 0)), (1, .int x1), (0, .ref h0)]) [0, 1, 3, 4] rfl) kk
      · refine lv_iload hx hb dX10_count_79 (lv_at hl 0 rfl) ?_
        refine lv_if_eq (tgt := 88) hx hb dX10_count_81 (by decide) (fun c_4 => ?_) (fun c_4 => ?_)
        · refine lv_iconst (v := 0) hx hb dX10_count_88 (by decide) ?_
          refine lv_goto (tgt := 112) hx hb dX10_count_89 (by decide) ?_
          refine lv_iadd hx hb dX10_count_112 ?_
          refine lv_istore_n (lv' := [(2, .int (v + 0)), (4, .int ((Es.getD i dE).2.2.1)), (3, .int (nI i)), (1, .int x1), (0, .ref h0)]) hx hb dX10_count_113 rfl hl (by decide) rfl (fun ls hl => ?_)
          refine lv_iinc (v := (nI (i + 1))) (lv' := [(3, .int (nI (i + 1))), (2, .int (v + 0)), (4, .int ((Es.getD i dE).2.2.1)), (1, .int x1), (0, .ref h0)]) hx hb dX10_count_114 hl (k := 2) rfl (nI_add i 1) (by decide) rfl (fun ls hl => ?_)
          refine lv_goto (tgt := 52) hx hb dX10_count_117 (by decide) ?_
          exact ih (i + 1) _ H locs ls (by omega) (ctW_S0 hv c_2 c_4) hP hD hS (lv_sub hl (l' := [(3, .int (nI (i + 1))), (2, .int (v + 0)), (1, .int x1), (0, .ref h0)]) [0, 1, 3, 4] rfl) kk
        · refine lv_iconst (v := 1) hx hb dX10_count_84 (by decide) ?_
          refine lv_goto (tgt := 112) hx hb dX10_count_85 (by decide) ?_
          refine lv_iadd hx hb dX10_count_112 ?_
          refine lv_istore_n (lv' := [(2, .int (v + 1)), (4, .int ((Es.getD i dE).2.2.1)), (3, .int (nI i)), (1, .int x1), (0, .ref h0)]) hx hb dX10_count_113 rfl hl (by decide) rfl (fun ls hl => ?_)
          refine lv_iinc (v := (nI (i + 1))) (lv' := [(3, .int (nI (i + 1))), (2, .int (v + 1)), (4, .int ((Es.getD i dE).2.2.1)), (1, .int x1), (0, .ref h0)]) hx hb dX10_count_114 hl (k := 2) rfl (nI_add i 1) (by decide) rfl (fun ls hl => ?_)
          refine lv_goto (tgt := 52) hx hb dX10_count_117 (by decide) ?_
          exact ih (i + 1) _ H locs ls (by omega) (ctW_S1 hv c_2 c_4) hP hD hS (lv_sub hl (l' := [(3, .int (nI (i + 1))), (2, .int (v + 1)), (1, .int x1), (0, .ref h0)]) [0, 1, 3, 4] rfl) kk
set_option maxHeartbeats 1000000 in
set_option maxRecDepth 100000 in
theorem rm_count2 (l : Launch) (D : va_G) (h0 : Nat) (q : Nat → Nat) (cB cI_ cZ : ClassId) (I : Nat → Int32) (F : Nat → Nat → Int32) (Es : List E5) (sl : Nat → Nat) (n mo lk : Nat) (x1 : Int32) (hI3 : I 3 = nI Es.length) (hre : reR F Es sl) (hI1 : I 1 = nI n) (hI2 : I 2 = nI mo) (hI20 : I 20 = nI lk) (hlk : lk ≤ 1) : cI l D yX10_count cX10_count 5 (some .int) 0 0 0 0 [.ref h0, .int x1] zT (mW h0 q cB cI_ cZ I F) (mT cB cI_ cZ) (fun r u => r = ctV n Es.length Es lk mo x1 ∧ u = (mW h0 q cB cI_ cZ I F, mT cB cI_ cZ)) := by
  refine q_si (by decide) (Nat.le_of_ble_eq_true rfl) ?_
  intro p e s m below meth c A ls hAe hf hr hlocks hin hK hP hD hS hA hZ hl
  obtain ⟨hx, hb, hml, hown, hts⟩ := id hf
  have hl : lv_has ls 5 [(0, .ref h0), (1, .int x1)] := hl
  refine lv_iconst (v := 0) hx hb dX10_count_0 (by decide) ?_
  refine lv_istore_n (lv' := [(2, .int 0), (0, .ref h0), (1, .int x1)]) hx hb dX10_count_1 rfl hl (by decide) rfl (fun ls hl => ?_)
  refine lv_iload_n hx hb dX10_count_2 rfl (lv_at hl 2 rfl) ?_
  rcases q_sw_0_5 x1 with c_1 | c_1 | c_1 | c_1 | c_1 | c_1 | c_1
  · refine q_seti (y := 0) c_1 ?_
    refine lv_tableIn (off := 37) (tgt := 40) hx hb dX10_count_3 (by decide) (by decide) (by decide) (by decide) ?_
    refine lv_aload_n hx hb dX10_count_40 rfl (lv_at hl 1 rfl) ?_
    refine va_get (D := D) (ci := 11) (v := .int (I 1)) (C := RX10) (T := TX10) (N := 48) hx hb hts inX10 hown hK hP 0 rfl rfl 1 (by decide) (hts _ k_1145) (fun _ h9 => h9) rfl dX10_count_41 ?_
    refine q_seti (y := (nI n)) hI1 ?_
    exact q_zi hf hr rfl hlocks hK hP hD hS (Nat.le_of_ble_eq_true rfl) (Nat.le_of_ble_eq_true rfl) ⟨(ctV_0 c_1).symm, rfl⟩ dX10_count_44
  · refine q_seti (y := 1) c_1 ?_
    refine lv_tableIn (off := 42) (tgt := 45) hx hb dX10_count_3 (by decide) (by decide) (by decide) (by decide) ?_
    refine lv_aload_n hx hb dX10_count_45 rfl (lv_at hl 1 rfl) ?_
    refine va_get (D := D) (ci := 11) (v := .int (I 3)) (C := RX10) (T := TX10) (N := 48) hx hb hts inX10 hown hK hP 0 rfl rfl 3 (by decide) (hts _ k_1147) (fun _ h9 => h9) rfl dX10_count_46 ?_
    refine q_seti (y := (nI (Es.length))) hI3 ?_
    exact q_zi hf hr rfl hlocks hK hP hD hS (Nat.le_of_ble_eq_true rfl) (Nat.le_of_ble_eq_true rfl) ⟨(ctV_1 c_1).symm, rfl⟩ dX10_count_49
  · refine q_seti (y := 2) c_1 ?_
    refine lv_tableIn (off := 47) (tgt := 50) hx hb dX10_count_3 (by decide) (by decide) (by decide) (by decide) ?_
    refine lv_iconst (v := 0) hx hb dX10_count_50 (by decide) ?_
    refine lv_istore_n (lv' := [(3, .int 0), (2, .int 0), (0, .ref h0), (1, .int x1)]) hx hb dX10_count_51 rfl hl (by decide) rfl (fun ls hl => ?_)
    refine lc_cnt2 (Es := Es) (sl := sl) (x1 := x1) hI3 hre (Nat.le_of_ble_eq_true rfl) (Nat.le_of_ble_eq_true rfl) (Nat.le_of_ble_eq_true rfl) (Nat.le_of_ble_eq_true rfl) hA hf hK Es.length 0 _ _ _ ls (by omega) (by unfold ctW; split <;> rfl) hP hD hS (lv_sub hl (l' := [(3, .int 0), (2, .int 0), (1, .int x1), (0, .ref h0)]) [0, 1, 3, 2] rfl) (fun v H locs ls hv hP hD hS hl => ?_)
    refine lv_iload_n hx hb dX10_count_120 rfl (lv_at hl 0 rfl) ?_
    exact q_zi hf hr rfl hlocks hK hP hD hS (Nat.le_of_ble_eq_true rfl) (Nat.le_of_ble_eq_true rfl) ⟨hv.trans (ctV_W2 c_1), rfl⟩ dX10_count_121
  · refine q_seti (y := 3) c_1 ?_
    refine lv_tableIn (off := 47) (tgt := 50) hx hb dX10_count_3 (by decide) (by decide) (by decide) (by decide) ?_
    refine lv_iconst (v := 0) hx hb dX10_count_50 (by decide) ?_
    refine lv_istore_n (lv' := [(3, .int 0), (2, .int 0), (0, .ref h0), (1, .int x1)]) hx hb dX10_count_51 rfl hl (by decide) rfl (fun ls hl => ?_)
    refine lc_cnt2 (Es := Es) (sl := sl) (x1 := x1) hI3 hre (Nat.le_of_ble_eq_true rfl) (Nat.le_of_ble_eq_true rfl) (Nat.le_of_ble_eq_true rfl) (Nat.le_of_ble_eq_true rfl) hA hf hK Es.length 0 _ _ _ ls (by omega) (by unfold ctW; split <;> rfl) hP hD hS (lv_sub hl (l' := [(3, .int 0), (2, .int 0), (1, .int x1), (0, .ref h0)]) [0, 1, 3, 2] rfl) (fun v H locs ls hv hP hD hS hl => ?_)
    refine lv_iload_n hx hb dX10_count_120 rfl (lv_at hl 0 rfl) ?_
    exact q_zi hf hr rfl hlocks hK hP hD hS (Nat.le_of_ble_eq_true rfl) (Nat.le_of_ble_eq_true rfl) ⟨hv.trans (ctV_W3 c_1), rfl⟩ dX10_count_121
  · refine q_seti (y := 4) c_1 ?_
    refine lv_tableIn (off := 119) (tgt := 122) hx hb dX10_count_3 (by decide) (by decide) (by decide) (by decide) ?_
    refine lv_aload_n hx hb dX10_count_122 rfl (lv_at hl 1 rfl) ?_
    refine va_get (D := D) (ci := 11) (v := .int (I 20)) (C := RX10) (T := TX10) (N := 48) hx hb hts inX10 hown hK hP 0 rfl rfl 20 (by decide) (hts _ k_1164) (fun _ h9 => h9) rfl dX10_count_123 ?_
    refine q_seti (y := (nI lk)) hI20 ?_
    refine lv_if_eq (tgt := 133) hx hb dX10_count_126 (by decide) (fun c_2 => ?_) (fun c_2 => ?_)
    · have c_2 := q_eqn (a := lk) (b := 0) (by omega) (by omega) c_2
      refine lv_iconst (v := 0) hx hb dX10_count_133 (by decide) ?_
      exact q_zi hf hr rfl hlocks hK hP hD hS (Nat.le_of_ble_eq_true rfl) (Nat.le_of_ble_eq_true rfl) ⟨(ctV_4a c_1 (by omega)).symm, rfl⟩ dX10_count_134
    · have c_2 := q_nen (a := lk) (b := 0) (by omega) (by omega) c_2
      refine lv_iconst (v := 1) hx hb dX10_count_129 (by decide) ?_
      refine lv_goto (tgt := 134) hx hb dX10_count_130 (by decide) ?_
      exact q_zi hf hr rfl hlocks hK hP hD hS (Nat.le_of_ble_eq_true rfl) (Nat.le_of_ble_eq_true rfl) ⟨(ctV_4b c_1 (by omega)).symm, rfl⟩ dX10_count_134
  · refine q_seti (y := 5) c_1 ?_
    refine lv_tableIn (off := 132) (tgt := 135) hx hb dX10_count_3 (by decide) (by decide) (by decide) (by decide) ?_
    refine lv_aload_n hx hb dX10_count_135 rfl (lv_at hl 1 rfl) ?_
    refine va_get (D := D) (ci := 11) (v := .int (I 2)) (C := RX10) (T := TX10) (N := 48) hx hb hts inX10 hown hK hP 0 rfl rfl 2 (by decide) (hts _ k_1146) (fun _ h9 => h9) rfl dX10_count_136 ?_
    refine q_seti (y := (nI mo)) hI2 ?_
    exact q_zi hf hr rfl hlocks hK hP hD hS (Nat.le_of_ble_eq_true rfl) (Nat.le_of_ble_eq_true rfl) ⟨(ctV_5 c_1).symm, rfl⟩ dX10_count_139
  · refine lv_tableOut (tgt := 140) hx hb dX10_count_3 c_1 (by decide) ?_
    refine lv_bipush (v := (-2)) hx hb dX10_count_140 (by decide) ?_
    exact q_zi hf hr rfl hlocks hK hP hD hS (Nat.le_of_ble_eq_true rfl) (Nat.le_of_ble_eq_true rfl) ⟨(ctV_out c_1).symm, rfl⟩ dX10_count_142
set_option maxHeartbeats 1000000 in
set_option maxRecDepth 100000 in
theorem d_strk2l {p : Program} {l : Launch} {e : Env} {R : Room} {s : State} {m : MethodId} {args : Array Value} {below : List Frame} {meth : Method} {c : Code} {Q : State → Prop} {D : va_G} {A : Nat → Prop} {z : Nat → Nat} {cB cI_ cO : ClassId} {L0 : List Nat} {g0 : hG} {cells slots : Nat} {dk tp rd els reo nob pr bk gl sl mo : Nat} {v10 v11 : Int32} {cap : Nat} {xs : List Nat} {Es : List E5} (h_dk : ho L0 g0 dk 1 (.inr (10, [.ref tp, .ref rd, .ref els, .ref reo, .ref nob, .ref pr, .ref bk, .ref gl, .ref sl, .int (nI mo), .int v10, .int v11]))) (h_els : alR cO (z 0) 5 6 L0 g0 els cap xs) (h_es : elsR cB cI_ L0 g0 xs Es) (hxl : xs.length ≤ 60) (hRf : 4 ≤ R.frames) (hRl : 100 ≤ R.locals) (hRc : cells ≤ R.cells) (hRs : slots ≤ R.slots) (hA : ∀ q : Nat, s.heap.size ≤ q → A q) (hf : CallFix p m c cX9_struckElements 3 s args gT yX9_struckElements.cls) (hK : va_K D vcl (dT cB cI_ cO) s) (hZ : zA z A s s.heap) (hN : zB z s) :
    ∀ (k : Nat) (i : Nat) (c9 : Nat) (H : Heap) (locs : List Loc) (ls : Array Slot), i + k = xs.length → c9 = ctS Es i → c9 ≤ 1 * i → va_P D vcl (dW L0 g0) H → va_D A (dW L0 g0) → va_S A s.heap H locs → lv_has ls 3 [(2, .int (nI i)), (1, .int (nI c9)), (0, .ref dk)] →
    (∀ (c9 : Nat) (hc9 : c9 = ctS Es xs.length) (H : Heap) (locs : List Loc) (ls : Array Slot), va_P D vcl (dW L0 g0) H → va_D A (dW L0 g0) → va_S A s.heap H locs → lv_has ls 3 [(1, .int (nI c9)), (0, .ref dk)] → W p l e R s m args below meth c H locs cells slots Q (F0 m 41 ls [])) →
    W p l e R s m args below meth c H locs cells slots Q (F0 m 4 ls []) := by
  obtain ⟨hx, hb, hml, hown, hts⟩ := id hf
  intro k
  induction k with
  | zero =>
    intro i c9 H locs ls hik hc9 hcb hP hD hS hl kk
    refine lv_iload_n hx hb dX9_struckElements_4 rfl (lv_at hl 0 rfl) ?_
    refine lv_aload_n hx hb dX9_struckElements_5 rfl (lv_at hl 2 rfl) ?_
    refine o_get (D := D) (ci := 10) (v := .ref els) (C := RX9) (T := TX9) (N := 12) hx hb hts inX9 hown hK hP h_dk rfl 2 (by decide) (hts _ k_431) (fun _ h9 => h9) rfl dX9_struckElements_6 ?_
    obtain ⟨mc9, d9, h_al9⟩ := h_els.al
    refine o_cis (k := cells) (n := slots) hK hP hD hS hA (o_rV (As := []) (rest := [.int (nI i)]) hf (li_size _ _ _ _ _ _ _ _ els 5 6 cap xs h_els _) k_606 k_686 k_604 k_605 k_89 (nA := 0) (by decide +kernel) ⟨Nat.le_trans (by decide) hRf, Nat.le_trans (by decide) hRl⟩ hK hP hD hS hA hZ hN h_al9 rfl rfl rfl hl.1 rfl (Nat.le_of_ble_eq_true rfl) dX9_struckElements_9 ⟨(show cells + 0 ≤ R.cells by omega), (show slots + 0 ≤ R.slots by omega)⟩) (Nat.le_refl _) (Nat.le_refl _) (fun r H locs hw hP hD hS => ?_)
    obtain rfl := hw
    refine lv_icmp_ge (tgt := 41) hx hb dX9_struckElements_12 (by decide) (fun c_1 => ?_) (fun c_1 => ?_)
    · have c_1 := q_le (a := xs.length) (b := i) (by omega) (by omega) c_1
      obtain rfl : i = xs.length := by omega
      exact kk c9 hc9 H locs ls hP hD hS (lv_sub hl (l' := [(1, .int (nI c9)), (0, .ref dk)]) [1, 2] rfl)
    · have c_1 := q_nle (a := xs.length) (b := i) (by omega) (by omega) c_1
      exact False.elim (by omega)
  | succ k ih =>
    intro i c9 H locs ls hik hc9 hcb hP hD hS hl kk
    refine lv_iload_n hx hb dX9_struckElements_4 rfl (lv_at hl 0 rfl) ?_
    refine lv_aload_n hx hb dX9_struckElements_5 rfl (lv_at hl 2 rfl) ?_
    refine o_get (D := D) (ci := 10) (v := .ref els) (C := RX9) (T := TX9) (N := 12) hx hb hts inX9 hown hK hP h_dk rfl 2 (by decide) (hts _ k_431) (fun _ h9 => h9) rfl dX9_struckElements_6 ?_
    obtain ⟨mc9, d9, h_al9⟩ := h_els.al
    refine o_cis (k := cells) (n := slots) hK hP hD hS hA (o_rV (As := []) (rest := [.int (nI i)]) hf (li_size _ _ _ _ _ _ _ _ els 5 6 cap xs h_els _) k_606 k_686 k_604 k_605 k_89 (nA := 0) (by decide +kernel) ⟨Nat.le_trans (by decide) hRf, Nat.le_trans (by decide) hRl⟩ hK hP hD hS hA hZ hN h_al9 rfl rfl rfl hl.1 rfl (Nat.le_of_ble_eq_true rfl) dX9_struckElements_9 ⟨(show cells + 0 ≤ R.cells by omega), (show slots + 0 ≤ R.slots by omega)⟩) (Nat.le_refl _) (Nat.le_refl _) (fun r H locs hw hP hD hS => ?_)
    obtain rfl := hw
    refine lv_icmp_ge (tgt := 41) hx hb dX9_struckElements_12 (by decide) (fun c_1 => ?_) (fun c_1 => ?_)
    · have c_1 := q_le (a := xs.length) (b := i) (by omega) (by omega) c_1
      exact False.elim (by omega)
    · have c_1 := q_nle (a := xs.length) (b := i) (by omega) (by omega) c_1
      refine lv_aload_n hx hb dX9_struckElements_15 rfl (lv_at hl 2 rfl) ?_
      refine o_get (D := D) (ci := 10) (v := .ref els) (C := RX9) (T := TX9) (N := 12) hx hb hts inX9 hown hK hP h_dk rfl 2 (by decide) (hts _ k_431) (fun _ h9 => h9) rfl dX9_struckElements_16 ?_
      refine lv_iload_n hx hb dX9_struckElements_19 rfl (lv_at hl 0 rfl) ?_
      obtain ⟨mc9, d9, h_al9⟩ := h_els.al
      refine o_crs (k := cells) (n := slots) hK hP hD hS hA (o_rV (As := [.int (nI i)]) (rest := []) hf (li_get _ _ _ _ _ _ _ _ els 5 6 cap xs i h_els (by omega) _) k_675 k_687 k_673 k_674 k_89 (nA := 1) (by decide +kernel) ⟨Nat.le_trans (by decide) hRf, Nat.le_trans (by decide) hRl⟩ hK hP hD hS hA hZ hN h_al9 rfl rfl rfl hl.1 rfl (Nat.le_of_ble_eq_true rfl) dX9_struckElements_20 ⟨(show cells + 0 ≤ R.cells by omega), (show slots + 0 ≤ R.slots by omega)⟩) (Nat.le_refl _) (Nat.le_refl _) (fun r H locs hw hP hD hS => ?_)
      obtain rfl := hw
      obtain ⟨⟨txg2, rfg2, rtg2, h_eg2⟩, hr_g2⟩ := h_es.o2 (show i < xs.length by omega)
      refine o_cast hx hb hown (hts _ k_180) hK hP h_eg2 rfl rfl dX9_struckElements_23 ?_
      refine o_get (D := D) (ci := 2) (v := .int ((Es.getD i dE).2.2.1)) (C := RX1) (T := TX1) (N := 9) hx hb hts inX1 hown hK hP h_eg2 rfl 2 (by decide) (hts _ k_235) (fun _ h9 => h9) rfl dX9_struckElements_26 ?_
      refine lv_if_eq (tgt := 35) hx hb dX9_struckElements_29 (by decide) (fun c_3 => ?_) (fun c_3 => ?_)
      · refine lv_iinc (v := nI (i + 1)) (lv' := [(2, .int (nI (i + 1))), (1, .int (nI c9)), (0, .ref dk)]) hx hb dX9_struckElements_35 hl (k := 0) rfl (nI_addE (a := i) (b := 1) (by omega)) (by decide) rfl (fun ls hl => ?_)
        refine lv_goto (tgt := 4) hx hb dX9_struckElements_38 (by decide) ?_
        have h0_ := ctS_0 c_3
        exact ih (i + 1) c9 H locs ls (by omega) (by omega) (by omega) hP hD hS (lv_sub hl (l' := [(2, .int (nI (i + 1))), (1, .int (nI c9)), (0, .ref dk)]) [0, 1, 2] rfl) kk
      · refine lv_iinc (v := nI (c9 + 1)) (lv' := [(1, .int (nI (c9 + 1))), (2, .int (nI i)), (0, .ref dk)]) hx hb dX9_struckElements_32 hl (k := 1) rfl (nI_addE (a := c9) (b := 1) (by omega)) (by decide) rfl (fun ls hl => ?_)
        refine lv_iinc (v := nI (i + 1)) (lv' := [(2, .int (nI (i + 1))), (1, .int (nI (c9 + 1))), (0, .ref dk)]) hx hb dX9_struckElements_35 hl (k := 1) rfl (nI_addE (a := i) (b := 1) (by omega)) (by decide) rfl (fun ls hl => ?_)
        refine lv_goto (tgt := 4) hx hb dX9_struckElements_38 (by decide) ?_
        have h0_ := ctS_1 c_3
        exact ih (i + 1) (c9 + 1) H locs ls (by omega) (by omega) (by omega) hP hD hS (lv_sub hl (l' := [(2, .int (nI (i + 1))), (1, .int (nI (c9 + 1))), (0, .ref dk)]) [0, 1, 2] rfl) kk
set_option maxHeartbeats 1000000 in
set_option maxRecDepth 100000 in
theorem d_strk2 (l : Launch) (D : va_G) (z : Nat → Nat) (cB cI_ cO : ClassId) (L0 : List Nat) (g0 : hG) (dk tp rd els reo nob pr bk gl sl mo : Nat) (v10 v11 : Int32) (cap : Nat) (xs : List Nat) (Es : List E5) (h_dk : ho L0 g0 dk 1 (.inr (10, [.ref tp, .ref rd, .ref els, .ref reo, .ref nob, .ref pr, .ref bk, .ref gl, .ref sl, .int (nI mo), .int v10, .int v11]))) (h_els : alR cO (z 0) 5 6 L0 g0 els cap xs) (h_es : elsR cB cI_ L0 g0 xs Es) (hxl : xs.length ≤ 60) : eIs l D yX9_struckElements cX9_struckElements 3 (some .int) 4 100 0 0 [.ref dk] z cB cI_ cO L0 g0 (fun r => r = nI (ctS Es xs.length)) := by
  refine o_si (by decide) (Nat.le_of_ble_eq_true rfl) ?_
  intro p e s m below meth c A ls hf hr hlocks hin hK hP hD hS hA hZ hN hl
  obtain ⟨hx, hb, hml, hown, hts⟩ := id hf
  have hl : lv_has ls 3 [(0, .ref dk)] := hl
  refine lv_iconst (v := 0) hx hb dX9_struckElements_0 (by decide) ?_
  refine lv_istore_n (lv' := [(1, .int 0), (0, .ref dk)]) hx hb dX9_struckElements_1 rfl hl (by decide) rfl (fun ls hl => ?_)
  refine lv_iconst (v := 0) hx hb dX9_struckElements_2 (by decide) ?_
  refine lv_istore_n (lv' := [(2, .int 0), (1, .int 0), (0, .ref dk)]) hx hb dX9_struckElements_3 rfl hl (by decide) rfl (fun ls hl => ?_)
  refine d_strk2l  h_dk h_els h_es hxl (Nat.le_of_ble_eq_true rfl) (Nat.le_of_ble_eq_true rfl) (show 0 ≤ 0 by omega) (show 0 ≤ 0 by omega) hA hf hK hZ hN xs.length 0 0 _ _ ls (by omega) rfl (by omega) hP hD hS (lv_sub hl (l' := [(2, .int 0), (1, .int 0), (0, .ref dk)]) [0, 1, 2] rfl) ?_
  · intro c9 hc9 H locs ls hP hD hS hl
    refine lv_iload_n hx hb dX9_struckElements_41 rfl (lv_at hl 0 rfl) ?_
    exact o_ri hf hr rfl hlocks hK hP hD hS (show 0 ≤ 0 by omega) (show 0 ≤ 0 by omega) ⟨congrArg nI hc9, rfl, rfl⟩ dX9_struckElements_42
set_option maxHeartbeats 1000000 in
set_option maxRecDepth 100000 in
theorem d_rns2l {p : Program} {l : Launch} {e : Env} {R : Room} {s : State} {m : MethodId} {args : Array Value} {below : List Frame} {meth : Method} {c : Code} {Q : State → Prop} {D : va_G} {A : Nat → Prop} {z : Nat → Nat} {cB cI_ cO : ClassId} {L0 : List Nat} {g0 : hG} {cells slots : Nat} {dk tp rd els reo nob pr bk gl sl mo : Nat} {v10 v11 : Int32} {cap : Nat} {xs : List Nat} {Es : List E5} (h_dk : ho L0 g0 dk 1 (.inr (10, [.ref tp, .ref rd, .ref els, .ref reo, .ref nob, .ref pr, .ref bk, .ref gl, .ref sl, .int (nI mo), .int v10, .int v11]))) (h_els : alR cO (z 0) 5 6 L0 g0 els cap xs) (h_es : elsR cB cI_ L0 g0 xs Es) (hxl : xs.length ≤ 60) (hRf : 4 ≤ R.frames) (hRl : 100 ≤ R.locals) (hRc : cells ≤ R.cells) (hRs : slots ≤ R.slots) (hA : ∀ q : Nat, s.heap.size ≤ q → A q) (hf : CallFix p m c cX9_rowsNotStruck 3 s args gT yX9_rowsNotStruck.cls) (hK : va_K D vcl (dT cB cI_ cO) s) (hZ : zA z A s s.heap) (hN : zB z s) :
    ∀ (k : Nat) (i : Nat) (c9 : Nat) (H : Heap) (locs : List Loc) (ls : Array Slot), i + k = xs.length → c9 = ctR Es i → c9 ≤ 200 * i → va_P D vcl (dW L0 g0) H → va_D A (dW L0 g0) → va_S A s.heap H locs → lv_has ls 3 [(2, .int (nI i)), (1, .int (nI c9)), (0, .ref dk)] →
    (∀ (c9 : Nat) (hc9 : c9 = ctR Es xs.length) (H : Heap) (locs : List Loc) (ls : Array Slot), va_P D vcl (dW L0 g0) H → va_D A (dW L0 g0) → va_S A s.heap H locs → lv_has ls 3 [(1, .int (nI c9)), (0, .ref dk)] → W p l e R s m args below meth c H locs cells slots Q (F0 m 55 ls [])) →
    W p l e R s m args below meth c H locs cells slots Q (F0 m 4 ls []) := by
  obtain ⟨hx, hb, hml, hown, hts⟩ := id hf
  intro k
  induction k with
  | zero =>
    intro i c9 H locs ls hik hc9 hcb hP hD hS hl kk
    refine lv_iload_n hx hb dX9_rowsNotStruck_4 rfl (lv_at hl 0 rfl) ?_
    refine lv_aload_n hx hb dX9_rowsNotStruck_5 rfl (lv_at hl 2 rfl) ?_
    refine o_get (D := D) (ci := 10) (v := .ref els) (C := RX9) (T := TX9) (N := 12) hx hb hts inX9 hown hK hP h_dk rfl 2 (by decide) (hts _ k_431) (fun _ h9 => h9) rfl dX9_rowsNotStruck_6 ?_
    obtain ⟨mc9, d9, h_al9⟩ := h_els.al
    refine o_cis (k := cells) (n := slots) hK hP hD hS hA (o_rV (As := []) (rest := [.int (nI i)]) hf (li_size _ _ _ _ _ _ _ _ els 5 6 cap xs h_els _) k_606 k_686 k_604 k_605 k_89 (nA := 0) (by decide +kernel) ⟨Nat.le_trans (by decide) hRf, Nat.le_trans (by decide) hRl⟩ hK hP hD hS hA hZ hN h_al9 rfl rfl rfl hl.1 rfl (Nat.le_of_ble_eq_true rfl) dX9_rowsNotStruck_9 ⟨(show cells + 0 ≤ R.cells by omega), (show slots + 0 ≤ R.slots by omega)⟩) (Nat.le_refl _) (Nat.le_refl _) (fun r H locs hw hP hD hS => ?_)
    obtain rfl := hw
    refine lv_icmp_ge (tgt := 55) hx hb dX9_rowsNotStruck_12 (by decide) (fun c_1 => ?_) (fun c_1 => ?_)
    · have c_1 := q_le (a := xs.length) (b := i) (by omega) (by omega) c_1
      obtain rfl : i = xs.length := by omega
      exact kk c9 hc9 H locs ls hP hD hS (lv_sub hl (l' := [(1, .int (nI c9)), (0, .ref dk)]) [1, 2] rfl)
    · have c_1 := q_nle (a := xs.length) (b := i) (by omega) (by omega) c_1
      exact False.elim (by omega)
  | succ k ih =>
    intro i c9 H locs ls hik hc9 hcb hP hD hS hl kk
    refine lv_iload_n hx hb dX9_rowsNotStruck_4 rfl (lv_at hl 0 rfl) ?_
    refine lv_aload_n hx hb dX9_rowsNotStruck_5 rfl (lv_at hl 2 rfl) ?_
    refine o_get (D := D) (ci := 10) (v := .ref els) (C := RX9) (T := TX9) (N := 12) hx hb hts inX9 hown hK hP h_dk rfl 2 (by decide) (hts _ k_431) (fun _ h9 => h9) rfl dX9_rowsNotStruck_6 ?_
    obtain ⟨mc9, d9, h_al9⟩ := h_els.al
    refine o_cis (k := cells) (n := slots) hK hP hD hS hA (o_rV (As := []) (rest := [.int (nI i)]) hf (li_size _ _ _ _ _ _ _ _ els 5 6 cap xs h_els _) k_606 k_686 k_604 k_605 k_89 (nA := 0) (by decide +kernel) ⟨Nat.le_trans (by decide) hRf, Nat.le_trans (by decide) hRl⟩ hK hP hD hS hA hZ hN h_al9 rfl rfl rfl hl.1 rfl (Nat.le_of_ble_eq_true rfl) dX9_rowsNotStruck_9 ⟨(show cells + 0 ≤ R.cells by omega), (show slots + 0 ≤ R.slots by omega)⟩) (Nat.le_refl _) (Nat.le_refl _) (fun r H locs hw hP hD hS => ?_)
    obtain rfl := hw
    refine lv_icmp_ge (tgt := 55) hx hb dX9_rowsNotStruck_12 (by decide) (fun c_1 => ?_) (fun c_1 => ?_)
    · have c_1 := q_le (a := xs.length) (b := i) (by omega) (by omega) c_1
      exact False.elim (by omega)
    · have c_1 := q_nle (a := xs.length) (b := i) (by omega) (by omega) c_1
      refine lv_aload_n hx hb dX9_rowsNotStruck_15 rfl (lv_at hl 2 rfl) ?_
      refine o_get (D := D) (ci := 10) (v := .ref els) (C := RX9) (T := TX9) (N := 12) hx hb hts inX9 hown hK hP h_dk rfl 2 (by decide) (hts _ k_431) (fun _ h9 => h9) rfl dX9_rowsNotStruck_16 ?_
      refine lv_iload_n hx hb dX9_rowsNotStruck_19 rfl (lv_at hl 0 rfl) ?_
      obtain ⟨mc9, d9, h_al9⟩ := h_els.al
      refine o_crs (k := cells) (n := slots) hK hP hD hS hA (o_rV (As := [.int (nI i)]) (rest := []) hf (li_get _ _ _ _ _ _ _ _ els 5 6 cap xs i h_els (by omega) _) k_675 k_687 k_673 k_674 k_89 (nA := 1) (by decide +kernel) ⟨Nat.le_trans (by decide) hRf, Nat.le_trans (by decide) hRl⟩ hK hP hD hS hA hZ hN h_al9 rfl rfl rfl hl.1 rfl (Nat.le_of_ble_eq_true rfl) dX9_rowsNotStruck_20 ⟨(show cells + 0 ≤ R.cells by omega), (show slots + 0 ≤ R.slots by omega)⟩) (Nat.le_refl _) (Nat.le_refl _) (fun r H locs hw hP hD hS => ?_)
      obtain rfl := hw
      obtain ⟨⟨txg2, rfg2, rtg2, h_eg2⟩, hr_g2⟩ := h_es.o2 (show i < xs.length by omega)
      refine o_cast hx hb hown (hts _ k_180) hK hP h_eg2 rfl rfl dX9_rowsNotStruck_23 ?_
      refine o_get (D := D) (ci := 2) (v := .int ((Es.getD i dE).2.2.1)) (C := RX1) (T := TX1) (N := 9) hx hb hts inX1 hown hK hP h_eg2 rfl 2 (by decide) (hts _ k_235) (fun _ h9 => h9) rfl dX9_rowsNotStruck_26 ?_
      refine lv_if_ne (tgt := 49) hx hb dX9_rowsNotStruck_29 (by decide) (fun c_3 => ?_) (fun c_3 => ?_)
      · refine lv_iinc (v := nI (i + 1)) (lv' := [(2, .int (nI (i + 1))), (1, .int (nI c9)), (0, .ref dk)]) hx hb dX9_rowsNotStruck_49 hl (k := 0) rfl (nI_addE (a := i) (b := 1) (by omega)) (by decide) rfl (fun ls hl => ?_)
        refine lv_goto (tgt := 4) hx hb dX9_rowsNotStruck_52 (by decide) ?_
        have h0_ := ctR_1 c_3
        exact ih (i + 1) c9 H locs ls (by omega) (by omega) (by omega) hP hD hS (lv_sub hl (l' := [(2, .int (nI (i + 1))), (1, .int (nI c9)), (0, .ref dk)]) [0, 1, 2] rfl) kk
      · refine lv_iload_n hx hb dX9_rowsNotStruck_32 rfl (lv_at hl 1 rfl) ?_
        refine lv_aload_n hx hb dX9_rowsNotStruck_33 rfl (lv_at hl 2 rfl) ?_
        refine o_get (D := D) (ci := 10) (v := .ref els) (C := RX9) (T := TX9) (N := 12) hx hb hts inX9 hown hK hP h_dk rfl 2 (by decide) (hts _ k_431) (fun _ h9 => h9) rfl dX9_rowsNotStruck_34 ?_
        refine lv_iload_n hx hb dX9_rowsNotStruck_37 rfl (lv_at hl 0 rfl) ?_
        obtain ⟨mc9, d9, h_al9⟩ := h_els.al
        refine o_crs (k := cells) (n := slots) hK hP hD hS hA (o_rV (As := [.int (nI i)]) (rest := [.int (nI c9)]) hf (li_get _ _ _ _ _ _ _ _ els 5 6 cap xs i h_els (by omega) _) k_675 k_687 k_673 k_674 k_89 (nA := 1) (by decide +kernel) ⟨Nat.le_trans (by decide) hRf, Nat.le_trans (by decide) hRl⟩ hK hP hD hS hA hZ hN h_al9 rfl rfl rfl hl.1 rfl (Nat.le_of_ble_eq_true rfl) dX9_rowsNotStruck_38 ⟨(show cells + 0 ≤ R.cells by omega), (show slots + 0 ≤ R.slots by omega)⟩) (Nat.le_refl _) (Nat.le_refl _) (fun r H locs hw hP hD hS => ?_)
        obtain rfl := hw
        obtain ⟨⟨txg4, rfg4, rtg4, h_eg4⟩, hr_g4⟩ := h_es.o2 (show i < xs.length by omega)
        refine o_cast hx hb hown (hts _ k_180) hK hP h_eg2 rfl rfl dX9_rowsNotStruck_41 ?_
        refine o_cis (k := cells) (n := slots) hK hP hD hS hA (o_rV (As := []) (rest := [.int (nI c9)]) hf (l_rows _ _ _ _ _ _ _ _ (xs.getD i 0) ((Es.getD i dE).1) ((Es.getD i dE).2.1) ((Es.getD i dE).2.2.1) txg2 ((Es.getD i dE).2.2.2.2.length) ((Es.getD i dE).2.2.2.1) rfg2 rtg2 ((eRw (Es.getD i dE))) h_eg2 _) k_695 k_692 k_693 k_694 k_90 (nA := 0) (by decide +kernel) ⟨Nat.le_trans (by decide) hRf, Nat.le_trans (by decide) hRl⟩ hK hP hD hS hA hZ hN h_eg2 rfl rfl rfl hl.1 rfl (Nat.le_of_ble_eq_true rfl) dX9_rowsNotStruck_44 ⟨(show cells + 0 ≤ R.cells by omega), (show slots + 0 ≤ R.slots by omega)⟩) (Nat.le_refl _) (Nat.le_refl _) (fun r H locs hw hP hD hS => ?_)
        obtain rfl := hw
        refine lv_iadd hx hb dX9_rowsNotStruck_47 ?_
        refine q_seti (y := nI (c9 + eRw (Es.getD i dE))) (nI_addE (a := c9) (b := (eRw (Es.getD i dE))) (by omega)) ?_
        refine lv_istore_n (lv' := [(1, .int (nI (c9 + eRw (Es.getD i dE)))), (2, .int (nI i)), (0, .ref dk)]) hx hb dX9_rowsNotStruck_48 rfl hl (by decide) rfl (fun ls hl => ?_)
        refine lv_iinc (v := nI (i + 1)) (lv' := [(2, .int (nI (i + 1))), (1, .int (nI (c9 + eRw (Es.getD i dE)))), (0, .ref dk)]) hx hb dX9_rowsNotStruck_49 hl (k := 1) rfl (nI_addE (a := i) (b := 1) (by omega)) (by decide) rfl (fun ls hl => ?_)
        refine lv_goto (tgt := 4) hx hb dX9_rowsNotStruck_52 (by decide) ?_
        have h0_ := ctR_0 c_3
        exact ih (i + 1) (c9 + eRw (Es.getD i dE)) H locs ls (by omega) (by omega) (by omega) hP hD hS (lv_sub hl (l' := [(2, .int (nI (i + 1))), (1, .int (nI (c9 + eRw (Es.getD i dE)))), (0, .ref dk)]) [0, 1, 2] rfl) kk
set_option maxHeartbeats 1000000 in
set_option maxRecDepth 100000 in
theorem d_rns2 (l : Launch) (D : va_G) (z : Nat → Nat) (cB cI_ cO : ClassId) (L0 : List Nat) (g0 : hG) (dk tp rd els reo nob pr bk gl sl mo : Nat) (v10 v11 : Int32) (cap : Nat) (xs : List Nat) (Es : List E5) (h_dk : ho L0 g0 dk 1 (.inr (10, [.ref tp, .ref rd, .ref els, .ref reo, .ref nob, .ref pr, .ref bk, .ref gl, .ref sl, .int (nI mo), .int v10, .int v11]))) (h_els : alR cO (z 0) 5 6 L0 g0 els cap xs) (h_es : elsR cB cI_ L0 g0 xs Es) (hxl : xs.length ≤ 60) : eIs l D yX9_rowsNotStruck cX9_rowsNotStruck 3 (some .int) 4 100 0 0 [.ref dk] z cB cI_ cO L0 g0 (fun r => r = nI (ctR Es xs.length)) := by
  refine o_si (by decide) (Nat.le_of_ble_eq_true rfl) ?_
  intro p e s m below meth c A ls hf hr hlocks hin hK hP hD hS hA hZ hN hl
  obtain ⟨hx, hb, hml, hown, hts⟩ := id hf
  have hl : lv_has ls 3 [(0, .ref dk)] := hl
  refine lv_iconst (v := 0) hx hb dX9_rowsNotStruck_0 (by decide) ?_
  refine lv_istore_n (lv' := [(1, .int 0), (0, .ref dk)]) hx hb dX9_rowsNotStruck_1 rfl hl (by decide) rfl (fun ls hl => ?_)
  refine lv_iconst (v := 0) hx hb dX9_rowsNotStruck_2 (by decide) ?_
  refine lv_istore_n (lv' := [(2, .int 0), (1, .int 0), (0, .ref dk)]) hx hb dX9_rowsNotStruck_3 rfl hl (by decide) rfl (fun ls hl => ?_)
  refine d_rns2l  h_dk h_els h_es hxl (Nat.le_of_ble_eq_true rfl) (Nat.le_of_ble_eq_true rfl) (show 0 ≤ 0 by omega) (show 0 ≤ 0 by omega) hA hf hK hZ hN xs.length 0 0 _ _ ls (by omega) rfl (by omega) hP hD hS (lv_sub hl (l' := [(2, .int 0), (1, .int 0), (0, .ref dk)]) [0, 1, 2] rfl) ?_
  · intro c9 hc9 H locs ls hP hD hS hl
    refine lv_iload_n hx hb dX9_rowsNotStruck_55 rfl (lv_at hl 0 rfl) ?_
    exact o_ri hf hr rfl hlocks hK hP hD hS (show 0 ≤ 0 by omega) (show 0 ≤ 0 by omega) ⟨congrArg nI hc9, rfl, rfl⟩ dX9_rowsNotStruck_56
set_option maxHeartbeats 1000000 in
set_option maxRecDepth 100000 in
theorem d_count2 (l : Launch) (D : va_G) (z : Nat → Nat) (cB cI_ cO : ClassId) (L0 : List Nat) (g0 : hG) (dk tp rd els reo nob pr bk gl sl mo : Nat) (v11 : Int32) (cap : Nat) (xs : List Nat) (Es : List E5) (lk by_ n : Nat) (T : Nat → Int32) (x1 : Int32) (h_dk : ho L0 g0 dk 1 (.inr (10, [.ref tp, .ref rd, .ref els, .ref reo, .ref nob, .ref pr, .ref bk, .ref gl, .ref sl, .int (nI mo), .int (nI lk), .int v11]))) (h_els : alR cO (z 0) 5 6 L0 g0 els cap xs) (h_es : elsR cB cI_ L0 g0 xs Es) (h_tp : ho L0 g0 tp 2 (.inr (9, [.ref by_, .int (nI n)]))) (h_by : ho L0 g0 by_ 3 (.inl (cB, 1200, .inl T))) (hxl : xs.length ≤ 60) (hlk : lk ≤ 1) : eIs l D yX9_count cX9_count 2 (some .int) 5 122 0 0 [.ref dk, .int x1] z cB cI_ cO L0 g0 (fun r => r = ctV n xs.length Es lk mo x1) := by
  refine o_si (by decide) (Nat.le_of_ble_eq_true rfl) ?_
  intro p e s m below meth c A ls hf hr hlocks hin hK hP hD hS hA hZ hN hl
  obtain ⟨hx, hb, hml, hown, hts⟩ := id hf
  have hl : lv_has ls 2 [(0, .ref dk), (1, .int x1)] := hl
  refine lv_iload_n hx hb dX9_count_0 rfl (lv_at hl 1 rfl) ?_
  rcases q_sw_0_5 x1 with c_1 | c_1 | c_1 | c_1 | c_1 | c_1 | c_1
  · refine q_seti (y := 0) c_1 ?_
    refine lv_tableIn (off := 39) (tgt := 40) hx hb dX9_count_1 (by decide) (by decide) (by decide) (by decide) ?_
    refine lv_aload_n hx hb dX9_count_40 rfl (lv_at hl 0 rfl) ?_
    refine o_get (D := D) (ci := 10) (v := .ref tp) (C := RX9) (T := TX9) (N := 12) hx hb hts inX9 hown hK hP h_dk rfl 0 (by decide) (hts _ k_429) (fun _ h9 => h9) rfl dX9_count_41 ?_
    refine o_cis (k := 0) (n := 0) hK hP hD hS hA (o_rV (As := []) (rest := []) hf (t_used _ _ _ _ _ _ _ _ tp by_ n T h_tp _) k_481 k_478 k_479 k_480 k_85 (nA := 0) (by decide +kernel) ⟨Nat.le_of_ble_eq_true rfl, Nat.le_of_ble_eq_true rfl⟩ hK hP hD hS hA hZ hN h_tp rfl rfl rfl hl.1 rfl (Nat.le_of_ble_eq_true rfl) dX9_count_44 ⟨(show 0 + 0 ≤ 0 by omega), (show 0 + 0 ≤ 0 by omega)⟩) (Nat.le_refl _) (Nat.le_refl _) (fun r H locs hw hP hD hS => ?_)
    obtain rfl := hw
    exact o_ri hf hr rfl hlocks hK hP hD hS (show 0 ≤ 0 by omega) (show 0 ≤ 0 by omega) ⟨(ctV_0 c_1).symm, rfl, rfl⟩ dX9_count_47
  · refine q_seti (y := 1) c_1 ?_
    refine lv_tableIn (off := 47) (tgt := 48) hx hb dX9_count_1 (by decide) (by decide) (by decide) (by decide) ?_
    refine lv_aload_n hx hb dX9_count_48 rfl (lv_at hl 0 rfl) ?_
    refine o_get (D := D) (ci := 10) (v := .ref els) (C := RX9) (T := TX9) (N := 12) hx hb hts inX9 hown hK hP h_dk rfl 2 (by decide) (hts _ k_431) (fun _ h9 => h9) rfl dX9_count_49 ?_
    obtain ⟨mc9, d9, h_al9⟩ := h_els.al
    refine o_cis (k := 0) (n := 0) hK hP hD hS hA (o_rV (As := []) (rest := []) hf (li_size _ _ _ _ _ _ _ _ els 5 6 cap xs h_els _) k_606 k_686 k_604 k_605 k_89 (nA := 0) (by decide +kernel) ⟨Nat.le_of_ble_eq_true rfl, Nat.le_of_ble_eq_true rfl⟩ hK hP hD hS hA hZ hN h_al9 rfl rfl rfl hl.1 rfl (Nat.le_of_ble_eq_true rfl) dX9_count_52 ⟨(show 0 + 0 ≤ 0 by omega), (show 0 + 0 ≤ 0 by omega)⟩) (Nat.le_refl _) (Nat.le_refl _) (fun r H locs hw hP hD hS => ?_)
    obtain rfl := hw
    exact o_ri hf hr rfl hlocks hK hP hD hS (show 0 ≤ 0 by omega) (show 0 ≤ 0 by omega) ⟨(ctV_1 c_1).symm, rfl, rfl⟩ dX9_count_55
  · refine q_seti (y := 2) c_1 ?_
    refine lv_tableIn (off := 55) (tgt := 56) hx hb dX9_count_1 (by decide) (by decide) (by decide) (by decide) ?_
    refine lv_aload_n hx hb dX9_count_56 rfl (lv_at hl 0 rfl) ?_
    refine o_cis (k := 0) (n := 0) hK hP hD hS hA (o_rV (As := []) (rest := []) hf (d_strk2 _ _ _ _ _ _ _ _ dk tp rd els reo nob pr bk gl sl mo (nI lk) v11 cap xs Es h_dk h_els h_es hxl _) k_1114 k_1111 k_1113 k_42 k_84 (nA := 0) (by decide +kernel) ⟨Nat.le_of_ble_eq_true rfl, Nat.le_of_ble_eq_true rfl⟩ hK hP hD hS hA hZ hN h_dk rfl rfl rfl hl.1 rfl (Nat.le_of_ble_eq_true rfl) dX9_count_57 ⟨(show 0 + 0 ≤ 0 by omega), (show 0 + 0 ≤ 0 by omega)⟩) (Nat.le_refl _) (Nat.le_refl _) (fun r H locs hw hP hD hS => ?_)
    obtain rfl := hw
    exact o_ri hf hr rfl hlocks hK hP hD hS (show 0 ≤ 0 by omega) (show 0 ≤ 0 by omega) ⟨(ctV_2 c_1).symm, rfl, rfl⟩ dX9_count_60
  · refine q_seti (y := 3) c_1 ?_
    refine lv_tableIn (off := 60) (tgt := 61) hx hb dX9_count_1 (by decide) (by decide) (by decide) (by decide) ?_
    refine lv_aload_n hx hb dX9_count_61 rfl (lv_at hl 0 rfl) ?_
    refine o_cis (k := 0) (n := 0) hK hP hD hS hA (o_rV (As := []) (rest := []) hf (d_rns2 _ _ _ _ _ _ _ _ dk tp rd els reo nob pr bk gl sl mo (nI lk) v11 cap xs Es h_dk h_els h_es hxl _) k_1118 k_1115 k_1117 k_43 k_84 (nA := 0) (by decide +kernel) ⟨Nat.le_of_ble_eq_true rfl, Nat.le_of_ble_eq_true rfl⟩ hK hP hD hS hA hZ hN h_dk rfl rfl rfl hl.1 rfl (Nat.le_of_ble_eq_true rfl) dX9_count_62 ⟨(show 0 + 0 ≤ 0 by omega), (show 0 + 0 ≤ 0 by omega)⟩) (Nat.le_refl _) (Nat.le_refl _) (fun r H locs hw hP hD hS => ?_)
    obtain rfl := hw
    exact o_ri hf hr rfl hlocks hK hP hD hS (show 0 ≤ 0 by omega) (show 0 ≤ 0 by omega) ⟨(ctV_3 c_1).symm, rfl, rfl⟩ dX9_count_65
  · refine q_seti (y := 4) c_1 ?_
    refine lv_tableIn (off := 65) (tgt := 66) hx hb dX9_count_1 (by decide) (by decide) (by decide) (by decide) ?_
    refine lv_aload_n hx hb dX9_count_66 rfl (lv_at hl 0 rfl) ?_
    refine o_get (D := D) (ci := 10) (v := .int (nI lk)) (C := RX9) (T := TX9) (N := 12) hx hb hts inX9 hown hK hP h_dk rfl 10 (by decide) (hts _ k_439) (fun _ h9 => h9) rfl dX9_count_67 ?_
    refine lv_if_eq (tgt := 77) hx hb dX9_count_70 (by decide) (fun c_2 => ?_) (fun c_2 => ?_)
    · have c_2 := q_eqn (a := lk) (b := 0) (by omega) (by omega) c_2
      refine lv_iconst (v := 0) hx hb dX9_count_77 (by decide) ?_
      exact o_ri hf hr rfl hlocks hK hP hD hS (show 0 ≤ 0 by omega) (show 0 ≤ 0 by omega) ⟨(ctV_4a c_1 (by omega)).symm, rfl, rfl⟩ dX9_count_78
    · have c_2 := q_nen (a := lk) (b := 0) (by omega) (by omega) c_2
      refine lv_iconst (v := 1) hx hb dX9_count_73 (by decide) ?_
      refine lv_goto (tgt := 78) hx hb dX9_count_74 (by decide) ?_
      exact o_ri hf hr rfl hlocks hK hP hD hS (show 0 ≤ 0 by omega) (show 0 ≤ 0 by omega) ⟨(ctV_4b c_1 (by omega)).symm, rfl, rfl⟩ dX9_count_78
  · refine q_seti (y := 5) c_1 ?_
    refine lv_tableIn (off := 78) (tgt := 79) hx hb dX9_count_1 (by decide) (by decide) (by decide) (by decide) ?_
    refine lv_aload_n hx hb dX9_count_79 rfl (lv_at hl 0 rfl) ?_
    refine o_get (D := D) (ci := 10) (v := .int (nI mo)) (C := RX9) (T := TX9) (N := 12) hx hb hts inX9 hown hK hP h_dk rfl 9 (by decide) (hts _ k_438) (fun _ h9 => h9) rfl dX9_count_80 ?_
    exact o_ri hf hr rfl hlocks hK hP hD hS (show 0 ≤ 0 by omega) (show 0 ≤ 0 by omega) ⟨(ctV_5 c_1).symm, rfl, rfl⟩ dX9_count_83
  · refine lv_tableOut (tgt := 84) hx hb dX9_count_1 c_1 (by decide) ?_
    refine lv_bipush (v := (-2)) hx hb dX9_count_84 (by decide) ?_
    exact o_ri hf hr rfl hlocks hK hP hD hS (show 0 ≤ 0 by omega) (show 0 ≤ 0 by omega) ⟨(ctV_out c_1).symm, rfl, rfl⟩ dX9_count_86
