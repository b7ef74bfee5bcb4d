/-- a range is taken word by word into a text with single blanks; b: within a word, w: words so far -/
noncomputable def tx_sc (T : Nat → Int32) : Nat → Nat → Nat → Nat → List Int32 → Nat × List Int32
  | 0, _, _, w, X => (w, X)
  | r + 1, i, b, w, X => pif (tx_gap (T i)) (tx_sc T r (i + 1) 0 w X) (tx_sc T r (i + 1) 1 (if b = 1 then w else w + 1) ((if b = 1 then X else if w = 0 then X else X ++ [32]) ++ [T i]))
theorem tx_sc_g {T : Nat → Int32} {r i b w : Nat} {X : List Int32} (h : tx_gap (T i)) (hr : 0 < r) : tx_sc T r i b w X = tx_sc T (r - 1) (i + 1) 0 w X := by
  cases r with
  | zero => exact absurd hr (Nat.lt_irrefl 0)
  | succ r => exact pif_p h
theorem tx_sc_1 {T : Nat → Int32} {r i w : Nat} {X : List Int32} (h : ¬ tx_gap (T i)) (hr : 0 < r) : tx_sc T r i 1 w X = tx_sc T (r - 1) (i + 1) 1 w (X ++ [T i]) := by
  cases r with
  | zero => exact absurd hr (Nat.lt_irrefl 0)
  | succ r => exact pif_n h
theorem tx_sc_00 {T : Nat → Int32} {r i w : Nat} {X : List Int32} (h : ¬ tx_gap (T i)) (hr : 0 < r) (hw : w = 0) : tx_sc T r i 0 w X = tx_sc T r i 1 (w + 1) X := by
  cases r with
  | zero => exact absurd hr (Nat.lt_irrefl 0)
  | succ r =>
    refine (pif_n h).trans ((tx_sc_1 h hr).trans ?_).symm
    rw [if_neg (by decide), if_neg (by decide), if_pos hw]
    rfl
theorem tx_sc_0s {T : Nat → Int32} {r i w : Nat} {X : List Int32} (h : ¬ tx_gap (T i)) (hr : 0 < r) (hw : ¬ w = 0) : tx_sc T r i 0 w X = tx_sc T r i 1 (w + 1) (X ++ [32]) := by
  cases r with
  | zero => exact absurd hr (Nat.lt_irrefl 0)
  | succ r =>
    refine (pif_n h).trans ((tx_sc_1 h hr).trans ?_).symm
    rw [if_neg (by decide), if_neg (by decide), if_neg hw]
    rfl
theorem tx_sc_01 {T : Nat → Int32} {r i w : Nat} {X : List Int32} (h : r = 0 ∨ tx_gap (T i)) : tx_sc T r i 1 w X = tx_sc T r i 0 w X := by
  cases r with
  | zero => rfl
  | succ r =>
    rcases h with h | h
    · exact absurd h (Nat.succ_ne_zero r)
    · exact (tx_sc_g h (Nat.succ_pos r)).trans (tx_sc_g h (Nat.succ_pos r)).symm
/-- slot t holds w words and the text X; all other slots as in F -/
def tx_st (F : Nat → Nat → Int32) (t w : Nat) (X : List Int32) (f8 f9 g : Nat → Int32) : Prop := f8 t = nI w ∧ f9 t = nI X.length ∧ (∀ i, i < X.length → g (1200 * t + i) = X.getD i 0) ∧ (∀ j, j ≠ t → f8 j = F 8 j ∧ f9 j = F 9 j) ∧ ∀ j, j < 1200 * t ∨ 1200 * t + 1200 ≤ j → g j = F 10 j
theorem tx_st_w {F : Nat → Nat → Int32} {t w : Nat} {X : List Int32} {f8 f9 g : Nat → Int32} (h : tx_st F t w X f8 f9 g) : tx_st F t (w + 1) X (upd f8 t (nI (w + 1))) f9 g := by
  obtain ⟨h1, h2, h3, h4, h5⟩ := h
  refine ⟨pk_us, h2, h3, fun j hj => ?_, h5⟩
  rw [pk_un hj]
  exact h4 j hj
theorem tx_st_a {F : Nat → Nat → Int32} {t w : Nat} {X : List Int32} {f8 f9 g : Nat → Int32} (v : Int32) (h : tx_st F t w X f8 f9 g) (hX : X.length < 1200) : tx_st F t w (X ++ [v]) f8 (upd f9 t (nI (X.length + 1))) (upd g (1200 * t + X.length) v) := by
  obtain ⟨h1, h2, h3, h4, h5⟩ := h
  refine ⟨h1, ?_, ?_, ?_, ?_⟩
  · rw [pk_us, List.length_append]; rfl
  · intro i hi
    rw [List.length_append] at hi
    have hi : i < X.length + 1 := hi
    by_cases he : i = X.length
    · rw [he, pk_us]
      simp
    · rw [pk_un (by omega), h3 i (by omega)]
      simp only [List.getD_eq_getElem?_getD]
      rw [List.getElem?_append_left (by omega)]
  · intro j hj
    rw [pk_un hj]
    exact h4 j hj
  · intro j hj
    rw [pk_un (by omega)]
    exact h5 j hj
abbrev cX10_words : ByteArray := prog_12_method_14_code
def yX10_words : MethodName := ⟨RX10, "words", "(III)V"⟩
theorem k_55 : (Cond.selects RX10 yX10_isBlank yX10_isBlank) ∈ gT := gT_i 55 (by decide +kernel) rfl
theorem k_1154 : (Cond.fieldLink RX10 38 "ScriptDeskModel" "text" "[B") ∈ gT := gT_i 1154 (by decide +kernel) rfl
theorem k_1341 : (Cond.methodLink RX10 147 yX10_isBlank) ∈ gT := gT_i 1341 (by decide +kernel) rfl
theorem k_1343 : (Cond.instanceMethod yX10_isBlank) ∈ gT := gT_i 1343 (by decide +kernel) rfl
theorem k_1344 : (Cond.code yX10_isBlank cX10_isBlank 2 (some .boolean)) ∈ gT := gT_i 1344 (by decide +kernel) rfl
theorem dX10_words_76 : decode cX10_words 76 = .ok (.iload 4, 2) := by decide +kernel
theorem dX10_words_78 : decode cX10_words 78 = .ok (.iload_n 3, 1) := by decide +kernel
theorem dX10_words_79 : decode cX10_words 79 = .ok (.if_icmp .ge 49, 3) := by decide +kernel
theorem dX10_words_82 : decode cX10_words 82 = .ok (.aload_n 0, 1) := by decide +kernel
theorem dX10_words_83 : decode cX10_words 83 = .ok (.iload 4, 2) := by decide +kernel
theorem dX10_words_85 : decode cX10_words 85 = .ok (.invokevirtual 147, 3) := by decide +kernel
theorem dX10_words_88 : decode cX10_words 88 = .ok (.ifCond .ne 40, 3) := by decide +kernel
theorem dX10_words_91 : decode cX10_words 91 = .ok (.aload_n 0, 1) := by decide +kernel
theorem dX10_words_92 : decode cX10_words 92 = .ok (.getfield 38, 3) := by decide +kernel
theorem dX10_words_95 : decode cX10_words 95 = .ok (.iload 5, 2) := by decide +kernel
theorem dX10_words_97 : decode cX10_words 97 = .ok (.aload_n 0, 1) := by decide +kernel
theorem dX10_words_98 : decode cX10_words 98 = .ok (.getfield 34, 3) := by decide +kernel
theorem dX10_words_101 : decode cX10_words 101 = .ok (.iload_n 1, 1) := by decide +kernel
theorem dX10_words_102 : decode cX10_words 102 = .ok (.iaload, 1) := by decide +kernel
theorem dX10_words_103 : decode cX10_words 103 = .ok (.iadd, 1) := by decide +kernel
theorem dX10_words_104 : decode cX10_words 104 = .ok (.aload_n 0, 1) := by decide +kernel
theorem dX10_words_105 : decode cX10_words 105 = .ok (.getfield 7, 3) := by decide +kernel
theorem dX10_words_108 : decode cX10_words 108 = .ok (.iload 4, 2) := by decide +kernel
theorem dX10_words_110 : decode cX10_words 110 = .ok (.baload, 1) := by decide +kernel
theorem dX10_words_111 : decode cX10_words 111 = .ok (.bastore, 1) := by decide +kernel
theorem dX10_words_112 : decode cX10_words 112 = .ok (.aload_n 0, 1) := by decide +kernel
theorem dX10_words_113 : decode cX10_words 113 = .ok (.getfield 34, 3) := by decide +kernel
theorem dX10_words_116 : decode cX10_words 116 = .ok (.iload_n 1, 1) := by decide +kernel
theorem dX10_words_117 : decode cX10_words 117 = .ok (.dup2, 1) := by decide +kernel
theorem dX10_words_118 : decode cX10_words 118 = .ok (.iaload, 1) := by decide +kernel
theorem dX10_words_119 : decode cX10_words 119 = .ok (.iconst 1, 1) := by decide +kernel
theorem dX10_words_120 : decode cX10_words 120 = .ok (.iadd, 1) := by decide +kernel
theorem dX10_words_121 : decode cX10_words 121 = .ok (.iastore, 1) := by decide +kernel
theorem dX10_words_122 : decode cX10_words 122 = .ok (.iinc 4 1, 3) := by decide +kernel
theorem dX10_words_125 : decode cX10_words 125 = .ok (.goto (-49), 3) := by decide +kernel
theorem dX10_words_3 : decode cX10_words 3 = .ok (.iload 4, 2) := by decide +kernel
theorem dX10_words_5 : decode cX10_words 5 = .ok (.iload_n 3, 1) := by decide +kernel
theorem dX10_words_6 : decode cX10_words 6 = .ok (.if_icmp .ge 125, 3) := by decide +kernel
theorem dX10_words_9 : decode cX10_words 9 = .ok (.aload_n 0, 1) := by decide +kernel
theorem dX10_words_10 : decode cX10_words 10 = .ok (.iload 4, 2) := by decide +kernel
theorem dX10_words_12 : decode cX10_words 12 = .ok (.invokevirtual 147, 3) := by decide +kernel
theorem dX10_words_15 : decode cX10_words 15 = .ok (.ifCond .eq 9, 3) := by decide +kernel
theorem dX10_words_18 : decode cX10_words 18 = .ok (.iinc 4 1, 3) := by decide +kernel
theorem dX10_words_21 : decode cX10_words 21 = .ok (.goto (-18), 3) := by decide +kernel
theorem dX10_words_24 : decode cX10_words 24 = .ok (.sipush 1200, 3) := by decide +kernel
theorem dX10_words_27 : decode cX10_words 27 = .ok (.iload_n 1, 1) := by decide +kernel
theorem dX10_words_28 : decode cX10_words 28 = .ok (.imul, 1) := by decide +kernel
theorem dX10_words_29 : decode cX10_words 29 = .ok (.istore 5, 2) := by decide +kernel
theorem dX10_words_31 : decode cX10_words 31 = .ok (.aload_n 0, 1) := by decide +kernel
theorem dX10_words_32 : decode cX10_words 32 = .ok (.getfield 31, 3) := by decide +kernel
theorem dX10_words_35 : decode cX10_words 35 = .ok (.iload_n 1, 1) := by decide +kernel
theorem dX10_words_36 : decode cX10_words 36 = .ok (.iaload, 1) := by decide +kernel
theorem dX10_words_37 : decode cX10_words 37 = .ok (.ifCond .le 29, 3) := by decide +kernel
theorem dX10_words_66 : decode cX10_words 66 = .ok (.aload_n 0, 1) := by decide +kernel
theorem dX10_words_67 : decode cX10_words 67 = .ok (.getfield 31, 3) := by decide +kernel
theorem dX10_words_70 : decode cX10_words 70 = .ok (.iload_n 1, 1) := by decide +kernel
theorem dX10_words_71 : decode cX10_words 71 = .ok (.dup2, 1) := by decide +kernel
theorem dX10_words_72 : decode cX10_words 72 = .ok (.iaload, 1) := by decide +kernel
theorem dX10_words_73 : decode cX10_words 73 = .ok (.iconst 1, 1) := by decide +kernel
theorem dX10_words_74 : decode cX10_words 74 = .ok (.iadd, 1) := by decide +kernel
theorem dX10_words_75 : decode cX10_words 75 = .ok (.iastore, 1) := by decide +kernel
theorem dX10_words_40 : decode cX10_words 40 = .ok (.aload_n 0, 1) := by decide +kernel
theorem dX10_words_41 : decode cX10_words 41 = .ok (.getfield 38, 3) := by decide +kernel
theorem dX10_words_44 : decode cX10_words 44 = .ok (.iload 5, 2) := by decide +kernel
theorem dX10_words_46 : decode cX10_words 46 = .ok (.aload_n 0, 1) := by decide +kernel
theorem dX10_words_47 : decode cX10_words 47 = .ok (.getfield 34, 3) := by decide +kernel
theorem dX10_words_50 : decode cX10_words 50 = .ok (.iload_n 1, 1) := by decide +kernel
theorem dX10_words_51 : decode cX10_words 51 = .ok (.iaload, 1) := by decide +kernel
theorem dX10_words_52 : decode cX10_words 52 = .ok (.iadd, 1) := by decide +kernel
theorem dX10_words_53 : decode cX10_words 53 = .ok (.bipush 32, 2) := by decide +kernel
theorem dX10_words_55 : decode cX10_words 55 = .ok (.bastore, 1) := by decide +kernel
theorem dX10_words_56 : decode cX10_words 56 = .ok (.aload_n 0, 1) := by decide +kernel
theorem dX10_words_57 : decode cX10_words 57 = .ok (.getfield 34, 3) := by decide +kernel
theorem dX10_words_60 : decode cX10_words 60 = .ok (.iload_n 1, 1) := by decide +kernel
theorem dX10_words_61 : decode cX10_words 61 = .ok (.dup2, 1) := by decide +kernel
theorem dX10_words_62 : decode cX10_words 62 = .ok (.iaload, 1) := by decide +kernel
theorem dX10_words_63 : decode cX10_words 63 = .ok (.iconst 1, 1) := by decide +kernel
theorem dX10_words_64 : decode cX10_words 64 = .ok (.iadd, 1) := by decide +kernel
theorem dX10_words_65 : decode cX10_words 65 = .ok (.iastore, 1) := by decide +kernel
theorem dX10_words_128 : decode cX10_words 128 = .ok (.goto (-125), 3) := by decide +kernel
theorem dX10_words_0 : decode cX10_words 0 = .ok (.iload_n 2, 1) := by decide +kernel
theorem dX10_words_1 : decode cX10_words 1 = .ok (.istore 4, 2) := by decide +kernel
theorem dX10_words_131 : decode cX10_words 131 = .ok (.return_, 1) := by decide +kernel
set_option maxHeartbeats 1000000 in
set_option maxRecDepth 100000 in
theorem lw_in {p : Program} {l : Launch} {e : Env} {R : Room} {s : State} {m : MethodId} {args : Array Value} {below : List Frame} {meth : Method} {c : Code} {cells slots : Nat} {Q : State → Prop} {D : va_G} {A : Nat → Prop} {h0 : Nat} {q : Nat → Nat} {cB cI cZ : ClassId} {I : Nat → Int32} {F : Nat → Nat → Int32} {t b2 : Nat} (ht : t < 60) (hb2 : b2 ≤ 1200) (hTb : ∀ i, i < b2 → vp_nar .byte (F 0 i) = F 0 i) {w : Nat} {f8 : Nat → Int32} (hRf : 1 ≤ R.frames) (hRl : 21 ≤ R.locals) (hRc : cells ≤ R.cells) (hRs : slots ≤ R.slots) (hA : ∀ q : Nat, s.heap.size ≤ q → A q) (hf : CallFix p m c cX10_words 6 s args gT yX10_words.cls) (hK : va_K D vcl (mT cB cI cZ) s) :
    ∀ (k : Nat) (r : Nat) (i : Nat) (X : List Int32) (f9 : Nat → Int32) (g : Nat → Int32) (H : Heap) (locs : List Loc) (ls : Array Slot), r ≤ k → i + r = b2 → X.length + r ≤ 1200 → tx_st F t w X f8 f9 g →  va_P D vcl (mW h0 q cB cI cZ I (va_up (va_up (va_up F 8 f8) 9 f9) 10 g)) H → va_D A (mW h0 q cB cI cZ I (va_up (va_up (va_up F 8 f8) 9 f9) 10 g)) → va_S A s.heap H locs → lv_has ls 6 [(5, .int (nI (1200 * t))), (4, .int (nI i)), (3, .int (nI b2)), (1, .int (nI t)), (0, .ref h0)] →
    (∀ (r2 : Nat) (i2 : Nat) (X2 : List Int32) (f92 : Nat → Int32) (g2 : Nat → Int32) (H : Heap) (locs : List Loc) (ls : Array Slot), i2 + r2 = b2 → X2.length + r2 ≤ 1200 → (r2 = 0 ∨ tx_gap (F 0 i2)) → tx_sc (F 0) r2 i2 0 w X2 = tx_sc (F 0) r i 1 w X → (r2 < r ∨ (r2 = r ∧ (r = 0 ∨ tx_gap (F 0 i)))) → tx_st F t w X2 f8 f92 g2 → va_P D vcl (mW h0 q cB cI cZ I (va_up (va_up (va_up F 8 f8) 9 f92) 10 g2)) H → va_D A (mW h0 q cB cI cZ I (va_up (va_up (va_up F 8 f8) 9 f92) 10 g2)) → va_S A s.heap H locs → lv_has ls 6 [(4, .int (nI i2)), (3, .int (nI b2)), (1, .int (nI t)), (0, .ref h0)] → W p l e R s m args below meth c H locs cells slots Q (F0 m 128 ls [])) →
    W p l e R s m args below meth c H locs cells slots Q (F0 m 76 ls []) := by
  obtain ⟨hx, hb, hml, hown, hts⟩ := id hf
  intro k
  induction k with
  | zero =>
    intro r i X f9 g H locs ls hik hir hXr hst hP hD hS hl kk
    refine lv_iload hx hb dX10_words_76 (lv_at hl 1 rfl) ?_
    refine lv_iload_n hx hb dX10_words_78 rfl (lv_at hl 2 rfl) ?_
    refine lv_icmp_ge (tgt := 128) hx hb dX10_words_79 (by decide) (fun c_1 => ?_) (fun c_1 => ?_)
    · have c_1 := q_le (a := b2) (b := i) (by omega) (by omega) c_1
      exact kk r i X f9 g H locs ls hir hXr (Or.inl (by omega)) (tx_sc_01 (Or.inl (by omega))).symm (Or.inr ⟨rfl, Or.inl (by omega)⟩) hst hP hD hS (lv_sub hl (l' := [(4, .int (nI i)), (3, .int (nI b2)), (1, .int (nI t)), (0, .ref h0)]) [1, 2, 3, 4] rfl)
    · have c_1 := q_nle (a := b2) (b := i) (by omega) (by omega) c_1
      refine lv_aload_n hx hb dX10_words_82 rfl (lv_at hl 4 rfl) ?_
      refine lv_iload hx hb dX10_words_83 (lv_at hl 1 rfl) ?_
      refine q_ci (k := cells) (n := slots) hK hP hD hS hA (fun hPc hKc hDc => q_rV (As := [.int (nI i)]) (rest := []) hf (r_isBlank _ D h0 q cB cI cZ I (va_up (va_up (va_up F 8 f8) 9 f9) 10 g) i (by omega) _) k_1344 k_1341 k_1343 k_55 k_98 (nA := 1) (by decide +kernel) ⟨Nat.le_trans (by decide) hRf, Nat.le_trans (by decide) hRl⟩ hK hP (ci := 11) (q0 := 0) rfl rfl rfl hPc hKc hDc (fun _ _ _ _ h => h) (fun _ _ _ => trivial) rfl hl.1 rfl (Nat.le_of_ble_eq_true rfl) dX10_words_85 ⟨hRc, hRs⟩) (Nat.le_refl _) (Nat.le_refl _) (fun r u H locs hw hK hP hD hS => ?_)
      rcases hw with ⟨⟨c_2, rfl⟩ | ⟨c_2, rfl⟩, rfl⟩
      · have hP : va_P D vcl (mW h0 q cB cI cZ I (va_up (va_up (va_up F 8 f8) 9 f9) 10 g)) H := hP
        have hD : va_D A (mW h0 q cB cI cZ I (va_up (va_up (va_up F 8 f8) 9 f9) 10 g)) := hD
        refine lv_if_ne (tgt := 128) hx hb dX10_words_88 (by decide) (fun _ => ?_) (fun hno => absurd hno (by decide))
        exact kk r i X f9 g H locs ls hir hXr (Or.inr c_2) (tx_sc_01 (Or.inr c_2)).symm (Or.inr ⟨rfl, Or.inr c_2⟩) hst hP hD hS (lv_sub hl (l' := [(4, .int (nI i)), (3, .int (nI b2)), (1, .int (nI t)), (0, .ref h0)]) [1, 2, 3, 4] rfl)
      · have hP : va_P D vcl (mW h0 q cB cI cZ I (va_up (va_up (va_up F 8 f8) 9 f9) 10 g)) H := hP
        have hD : va_D A (mW h0 q cB cI cZ I (va_up (va_up (va_up F 8 f8) 9 f9) 10 g)) := hD
        refine lv_if_ne (tgt := 128) hx hb dX10_words_88 (by decide) (fun hno => absurd hno (by decide)) (fun _ => ?_)
        refine lv_aload_n hx hb dX10_words_91 rfl (lv_at hl 4 rfl) ?_
        refine va_get (D := D) (ci := 11) (v := .ref (q 10)) (C := RX10) (T := TX10) (N := 48) hx hb hts inX10 hown hK hP 0 rfl rfl 10 (by decide) (hts _ k_1154) (fun _ h9 => h9) rfl dX10_words_92 ?_
        refine lv_iload hx hb dX10_words_95 (lv_at hl 0 rfl) ?_
        refine lv_aload_n hx hb dX10_words_97 rfl (lv_at hl 4 rfl) ?_
        refine va_get (D := D) (ci := 11) (v := .ref (q 9)) (C := RX10) (T := TX10) (N := 48) hx hb hts inX10 hown hK hP 0 rfl rfl 9 (by decide) (hts _ k_1153) (fun _ h9 => h9) rfl dX10_words_98 ?_
        refine lv_iload_n hx hb dX10_words_101 rfl (lv_at hl 3 rfl) ?_
        refine q_ild (X := t) (f := f9) hx hb hK hP 7 1 rfl rfl (by omega) (by decide) dX10_words_102 ?_
        refine q_seti (y := (nI (X.length))) hst.2.1 ?_
        refine lv_iadd hx hb dX10_words_103 ?_
        refine q_seti (y := nI ((1200 * t) + (X.length))) (nI_add (1200 * t) (X.length)) ?_
        refine lv_aload_n hx hb dX10_words_104 rfl (lv_at hl 4 rfl) ?_
        refine va_get (D := D) (ci := 11) (v := .ref (q 0)) (C := RX10) (T := TX10) (N := 48) hx hb hts inX10 hown hK hP 0 rfl rfl 0 (by decide) (hts _ k_1144) (fun _ h9 => h9) rfl dX10_words_105 ?_
        refine lv_iload hx hb dX10_words_108 (lv_at hl 1 rfl) ?_
        refine q_bld (X := i) (f := (F 0)) hx hb hK hP 1 0 rfl rfl (by omega) (by decide) dX10_words_110 ?_
        refine q_bst (X := (1200 * t) + (X.length)) (f := g) (x := ((F 0) i)) hx hb hK hP hD hS 8 0 rfl rfl (by omega) (by decide) dX10_words_111 (fun H locs hP hD hS => ?_)
        have hP : va_P D vcl (mW h0 q cB cI cZ I (va_up (va_up (va_up F 8 f8) 9 f9) 10 (upd g ((1200 * t) + (X.length)) (vp_nar .byte ((F 0) i))))) H := hP
        have hD : va_D A (mW h0 q cB cI cZ I (va_up (va_up (va_up F 8 f8) 9 f9) 10 (upd g ((1200 * t) + (X.length)) (vp_nar .byte ((F 0) i))))) := hD
        refine lv_aload_n hx hb dX10_words_112 rfl (lv_at hl 4 rfl) ?_
        refine va_get (D := D) (ci := 11) (v := .ref (q 9)) (C := RX10) (T := TX10) (N := 48) hx hb hts inX10 hown hK hP 0 rfl rfl 9 (by decide) (hts _ k_1153) (fun _ h9 => h9) rfl dX10_words_113 ?_
        refine lv_iload_n hx hb dX10_words_116 rfl (lv_at hl 3 rfl) ?_
        refine lv_dup2_11 hx hb dX10_words_117 rfl rfl ?_
        refine q_ild (X := t) (f := f9) hx hb hK hP 7 1 rfl rfl (by omega) (by decide) dX10_words_118 ?_
        refine q_seti (y := (nI (X.length))) hst.2.1 ?_
        refine lv_iconst (v := 1) hx hb dX10_words_119 (by decide) ?_
        refine lv_iadd hx hb dX10_words_120 ?_
        refine q_seti (y := nI ((X.length) + 1)) (nI_add (X.length) 1) ?_
        refine q_ist (X := t) (f := f9) (x := (nI ((X.length) + 1))) hx hb hK hP hD hS 7 1 rfl rfl (by omega) (by decide) dX10_words_121 (fun H locs hP hD hS => ?_)
        have hP : va_P D vcl (mW h0 q cB cI cZ I (va_up (va_up (va_up F 8 f8) 9 (upd f9 t (nI ((X.length) + 1)))) 10 (upd g ((1200 * t) + (X.length)) (vp_nar .byte ((F 0) i))))) H := hP
        have hD : va_D A (mW h0 q cB cI cZ I (va_up (va_up (va_up F 8 f8) 9 (upd f9 t (nI ((X.length) + 1)))) 10 (upd g ((1200 * t) + (X.length)) (vp_nar .byte ((F 0) i))))) := hD
        refine lv_iinc (v := (nI (i + 1))) (lv' := [(4, .int (nI (i + 1))), (5, .int (nI (1200 * t))), (3, .int (nI b2)), (1, .int (nI t)), (0, .ref h0)]) hx hb dX10_words_122 hl (k := 1) rfl (nI_add i 1) (by decide) rfl (fun ls hl => ?_)
        refine lv_goto (tgt := 76) hx hb dX10_words_125 (by decide) ?_
        exact absurd hik (by omega)
  | succ k ih =>
    intro r i X f9 g H locs ls hik hir hXr hst hP hD hS hl kk
    refine lv_iload hx hb dX10_words_76 (lv_at hl 1 rfl) ?_
    refine lv_iload_n hx hb dX10_words_78 rfl (lv_at hl 2 rfl) ?_
    refine lv_icmp_ge (tgt := 128) hx hb dX10_words_79 (by decide) (fun c_1 => ?_) (fun c_1 => ?_)
    · have c_1 := q_le (a := b2) (b := i) (by omega) (by omega) c_1
      exact kk r i X f9 g H locs ls hir hXr (Or.inl (by omega)) (tx_sc_01 (Or.inl (by omega))).symm (Or.inr ⟨rfl, Or.inl (by omega)⟩) hst hP hD hS (lv_sub hl (l' := [(4, .int (nI i)), (3, .int (nI b2)), (1, .int (nI t)), (0, .ref h0)]) [1, 2, 3, 4] rfl)
    · have c_1 := q_nle (a := b2) (b := i) (by omega) (by omega) c_1
      refine lv_aload_n hx hb dX10_words_82 rfl (lv_at hl 4 rfl) ?_
      refine lv_iload hx hb dX10_words_83 (lv_at hl 1 rfl) ?_
      refine q_ci (k := cells) (n := slots) hK hP hD hS hA (fun hPc hKc hDc => q_rV (As := [.int (nI i)]) (rest := []) hf (r_isBlank _ D h0 q cB cI cZ I (va_up (va_up (va_up F 8 f8) 9 f9) 10 g) i (by omega) _) k_1344 k_1341 k_1343 k_55 k_98 (nA := 1) (by decide +kernel) ⟨Nat.le_trans (by decide) hRf, Nat.le_trans (by decide) hRl⟩ hK hP (ci := 11) (q0 := 0) rfl rfl rfl hPc hKc hDc (fun _ _ _ _ h => h) (fun _ _ _ => trivial) rfl hl.1 rfl (Nat.le_of_ble_eq_true rfl) dX10_words_85 ⟨hRc, hRs⟩) (Nat.le_refl _) (Nat.le_refl _) (fun r u H locs hw hK hP hD hS => ?_)
      rcases hw with ⟨⟨c_2, rfl⟩ | ⟨c_2, rfl⟩, rfl⟩
      · have hP : va_P D vcl (mW h0 q cB cI cZ I (va_up (va_up (va_up F 8 f8) 9 f9) 10 g)) H := hP
        have hD : va_D A (mW h0 q cB cI cZ I (va_up (va_up (va_up F 8 f8) 9 f9) 10 g)) := hD
        refine lv_if_ne (tgt := 128) hx hb dX10_words_88 (by decide) (fun _ => ?_) (fun hno => absurd hno (by decide))
        exact kk r i X f9 g H locs ls hir hXr (Or.inr c_2) (tx_sc_01 (Or.inr c_2)).symm (Or.inr ⟨rfl, Or.inr c_2⟩) hst hP hD hS (lv_sub hl (l' := [(4, .int (nI i)), (3, .int (nI b2)), (1, .int (nI t)), (0, .ref h0)]) [1, 2, 3, 4] rfl)
      · have hP : va_P D vcl (mW h0 q cB cI cZ I (va_up (va_up (va_up F 8 f8) 9 f9) 10 g)) H := hP
        have hD : va_D A (mW h0 q cB cI cZ I (va_up (va_up (va_up F 8 f8) 9 f9) 10 g)) := hD
        refine lv_if_ne (tgt := 128) hx hb dX10_words_88 (by decide) (fun hno => absurd hno (by decide)) (fun _ => ?_)
        refine lv_aload_n hx hb dX10_words_91 rfl (lv_at hl 4 rfl) ?_
        refine va_get (D := D) (ci := 11) (v := .ref (q 10)) (C := RX10) (T := TX10) (N := 48) hx hb hts inX10 hown hK hP 0 rfl rfl 10 (by decide) (hts _ k_1154) (fun _ h9 => h9) rfl dX10_words_92 ?_
        refine lv_iload hx hb dX10_words_95 (lv_at hl 0 rfl) ?_
        refine lv_aload_n hx hb dX10_words_97 rfl (lv_at hl 4 rfl) ?_
        refine va_get (D := D) (ci := 11) (v := .ref (q 9)) (C := RX10) (T := TX10) (N := 48) hx hb hts inX10 hown hK hP 0 rfl rfl 9 (by decide) (hts _ k_1153) (fun _ h9 => h9) rfl dX10_words_98 ?_
        refine lv_iload_n hx hb dX10_words_101 rfl (lv_at hl 3 rfl) ?_
        refine q_ild (X := t) (f := f9) hx hb hK hP 7 1 rfl rfl (by omega) (by decide) dX10_words_102 ?_
        refine q_seti (y := (nI (X.length))) hst.2.1 ?_
        refine lv_iadd hx hb dX10_words_103 ?_
        refine q_seti (y := nI ((1200 * t) + (X.length))) (nI_add (1200 * t) (X.length)) ?_
        refine lv_aload_n hx hb dX10_words_104 rfl (lv_at hl 4 rfl) ?_
        refine va_get (D := D) (ci := 11) (v := .ref (q 0)) (C := RX10) (T := TX10) (N := 48) hx hb hts inX10 hown hK hP 0 rfl rfl 0 (by decide) (hts _ k_1144) (fun _ h9 => h9) rfl dX10_words_105 ?_
        refine lv_iload hx hb dX10_words_108 (lv_at hl 1 rfl) ?_
        refine q_bld (X := i) (f := (F 0)) hx hb hK hP 1 0 rfl rfl (by omega) (by decide) dX10_words_110 ?_
        refine q_bst (X := (1200 * t) + (X.length)) (f := g) (x := ((F 0) i)) hx hb hK hP hD hS 8 0 rfl rfl (by omega) (by decide) dX10_words_111 (fun H locs hP hD hS => ?_)
        have hP : va_P D vcl (mW h0 q cB cI cZ I (va_up (va_up (va_up F 8 f8) 9 f9) 10 (upd g ((1200 * t) + (X.length)) (vp_nar .byte ((F 0) i))))) H := hP
        have hD : va_D A (mW h0 q cB cI cZ I (va_up (va_up (va_up F 8 f8) 9 f9) 10 (upd g ((1200 * t) + (X.length)) (vp_nar .byte ((F 0) i))))) := hD
        refine lv_aload_n hx hb dX10_words_112 rfl (lv_at hl 4 rfl) ?_
        refine va_get (D := D) (ci := 11) (v := .ref (q 9)) (C := RX10) (T := TX10) (N := 48) hx hb hts inX10 hown hK hP 0 rfl rfl 9 (by decide) (hts _ k_1153) (fun _ h9 => h9) rfl dX10_words_113 ?_
        refine lv_iload_n hx hb dX10_words_116 rfl (lv_at hl 3 rfl) ?_
        refine lv_dup2_11 hx hb dX10_words_117 rfl rfl ?_
        refine q_ild (X := t) (f := f9) hx hb hK hP 7 1 rfl rfl (by omega) (by decide) dX10_words_118 ?_
        refine q_seti (y := (nI (X.length))) hst.2.1 ?_
        refine lv_iconst (v := 1) hx hb dX10_words_119 (by decide) ?_
        refine lv_iadd hx hb dX10_words_120 ?_
        refine q_seti (y := nI ((X.length) + 1)) (nI_add (X.length) 1) ?_
        refine q_ist (X := t) (f := f9) (x := (nI ((X.length) + 1))) hx hb hK hP hD hS 7 1 rfl rfl (by omega) (by decide) dX10_words_121 (fun H locs hP hD hS => ?_)
        have hP : va_P D vcl (mW h0 q cB cI cZ I (va_up (va_up (va_up F 8 f8) 9 (upd f9 t (nI ((X.length) + 1)))) 10 (upd g ((1200 * t) + (X.length)) (vp_nar .byte ((F 0) i))))) H := hP
        have hD : va_D A (mW h0 q cB cI cZ I (va_up (va_up (va_up F 8 f8) 9 (upd f9 t (nI ((X.length) + 1)))) 10 (upd g ((1200 * t) + (X.length)) (vp_nar .byte ((F 0) i))))) := hD
        refine lv_iinc (v := (nI (i + 1))) (lv' := [(4, .int (nI (i + 1))), (5, .int (nI (1200 * t))), (3, .int (nI b2)), (1, .int (nI t)), (0, .ref h0)]) hx hb dX10_words_122 hl (k := 1) rfl (nI_add i 1) (by decide) rfl (fun ls hl => ?_)
        refine lv_goto (tgt := 76) hx hb dX10_words_125 (by decide) ?_
        have hst2 := tx_st_a (F 0 i) hst (by omega)
        rw [hTb i (by omega)] at hP hD
        refine ih (r - 1) (i + 1) (X ++ [F 0 i]) _ _ H locs ls (by omega) (by omega) (by rw [List.length_append]; show X.length + 1 + (r - 1) ≤ 1200; omega) hst2 hP hD hS (lv_sub hl (l' := [(5, .int (nI (1200 * t))), (4, .int (nI (i + 1))), (3, .int (nI b2)), (1, .int (nI t)), (0, .ref h0)]) [1, 0, 2, 3, 4] rfl) (fun r2 i2 X2 f92 g2 H locs ls a1 a2 a3 a4 a5 => kk r2 i2 X2 f92 g2 H locs ls a1 a2 a3 (a4.trans (tx_sc_1 c_2 (by omega)).symm) (Or.inl (by omega)))
set_option maxHeartbeats 1000000 in
set_option maxRecDepth 100000 in
theorem lw_out {p : Program} {l : Launch} {e : Env} {R : Room} {s : State} {m : MethodId} {args : Array Value} {below : List Frame} {meth : Method} {c : Code} {cells slots : Nat} {Q : State → Prop} {D : va_G} {A : Nat → Prop} {h0 : Nat} {q : Nat → Nat} {cB cI cZ : ClassId} {I : Nat → Int32} {F : Nat → Nat → Int32} {t b2 : Nat} (ht : t < 60) (hb2 : b2 ≤ 1200) (hTb : ∀ i, i < b2 → vp_nar .byte (F 0 i) = F 0 i) (hRf : 1 ≤ R.frames) (hRl : 21 ≤ R.locals) (hRc : cells ≤ R.cells) (hRs : slots ≤ R.slots) (hA : ∀ q : Nat, s.heap.size ≤ q → A q) (hf : CallFix p m c cX10_words 6 s args gT yX10_words.cls) (hK : va_K D vcl (mT cB cI cZ) s) :
    ∀ (k : Nat) (r : Nat) (i : Nat) (w : Nat) (X : List Int32) (f8 : Nat → Int32) (f9 : Nat → Int32) (g : Nat → Int32) (H : Heap) (locs : List Loc) (ls : Array Slot), r ≤ k → i + r = b2 → X.length + r ≤ 1200 → w + r ≤ 9600 → (0 < w → ¬ tx_gap (F 0 i) → 0 < r → X.length + r + 1 ≤ 1200) → tx_st F t w X f8 f9 g →  va_P D vcl (mW h0 q cB cI cZ I (va_up (va_up (va_up F 8 f8) 9 f9) 10 g)) H → va_D A (mW h0 q cB cI cZ I (va_up (va_up (va_up F 8 f8) 9 f9) 10 g)) → va_S A s.heap H locs → lv_has ls 6 [(4, .int (nI i)), (3, .int (nI b2)), (1, .int (nI t)), (0, .ref h0)] →
    (∀ (w2 : Nat) (X2 : List Int32) (f82 : Nat → Int32) (f92 : Nat → Int32) (g2 : Nat → Int32) (H : Heap) (locs : List Loc) (ls : Array Slot), (w2, X2) = tx_sc (F 0) r i 0 w X → tx_st F t w2 X2 f82 f92 g2 → va_P D vcl (mW h0 q cB cI cZ I (va_up (va_up (va_up F 8 f82) 9 f92) 10 g2)) H → va_D A (mW h0 q cB cI cZ I (va_up (va_up (va_up F 8 f82) 9 f92) 10 g2)) → va_S A s.heap H locs → lv_has ls 6 [(0, .ref h0)] → W p l e R s m args below meth c H locs cells slots Q (F0 m 131 ls [])) →
    W p l e R s m args below meth c H locs cells slots Q (F0 m 3 ls []) := by
  obtain ⟨hx, hb, hml, hown, hts⟩ := id hf
  intro k
  induction k with
  | zero =>
    intro r i w X f8 f9 g H locs ls hik hir hXr hwb hX1 hst hP hD hS hl kk
    refine lv_iload hx hb dX10_words_3 (lv_at hl 0 rfl) ?_
    refine lv_iload_n hx hb dX10_words_5 rfl (lv_at hl 1 rfl) ?_
    refine lv_icmp_ge (tgt := 131) hx hb dX10_words_6 (by decide) (fun c_1 => ?_) (fun c_1 => ?_)
    · have c_1 := q_le (a := b2) (b := i) (by omega) (by omega) c_1
      obtain rfl : r = 0 := by omega
      exact kk w X f8 f9 g H locs ls rfl hst hP hD hS (lv_sub hl (l' := [(0, .ref h0)]) [3] rfl)
    · have c_1 := q_nle (a := b2) (b := i) (by omega) (by omega) c_1
      refine lv_aload_n hx hb dX10_words_9 rfl (lv_at hl 3 rfl) ?_
      refine lv_iload hx hb dX10_words_10 (lv_at hl 0 rfl) ?_
      refine q_ci (k := cells) (n := slots) hK hP hD hS hA (fun hPc hKc hDc => q_rV (As := [.int (nI i)]) (rest := []) hf (r_isBlank _ D h0 q cB cI cZ I (va_up (va_up (va_up F 8 f8) 9 f9) 10 g) i (by omega) _) k_1344 k_1341 k_1343 k_55 k_98 (nA := 1) (by decide +kernel) ⟨Nat.le_trans (by decide) hRf, Nat.le_trans (by decide) hRl⟩ hK hP (ci := 11) (q0 := 0) rfl rfl rfl hPc hKc hDc (fun _ _ _ _ h => h) (fun _ _ _ => trivial) rfl hl.1 rfl (Nat.le_of_ble_eq_true rfl) dX10_words_12 ⟨hRc, hRs⟩) (Nat.le_refl _) (Nat.le_refl _) (fun r u H locs hw hK hP hD hS => ?_)
      rcases hw with ⟨⟨c_2, rfl⟩ | ⟨c_2, rfl⟩, rfl⟩
      · have hP : va_P D vcl (mW h0 q cB cI cZ I (va_up (va_up (va_up F 8 f8) 9 f9) 10 g)) H := hP
        have hD : va_D A (mW h0 q cB cI cZ I (va_up (va_up (va_up F 8 f8) 9 f9) 10 g)) := hD
        refine lv_if_eq (tgt := 24) hx hb dX10_words_15 (by decide) (fun hno => absurd hno (by decide)) (fun _ => ?_)
        refine lv_iinc (v := (nI (i + 1))) (lv' := [(4, .int (nI (i + 1))), (3, .int (nI b2)), (1, .int (nI t)), (0, .ref h0)]) hx hb dX10_words_18 hl (k := 0) rfl (nI_add i 1) (by decide) rfl (fun ls hl => ?_)
        refine lv_goto (tgt := 3) hx hb dX10_words_21 (by decide) ?_
        exact absurd hik (by omega)
      · have hP : va_P D vcl (mW h0 q cB cI cZ I (va_up (va_up (va_up F 8 f8) 9 f9) 10 g)) H := hP
        have hD : va_D A (mW h0 q cB cI cZ I (va_up (va_up (va_up F 8 f8) 9 f9) 10 g)) := hD
        refine lv_if_eq (tgt := 24) hx hb dX10_words_15 (by decide) (fun _ => ?_) (fun hno => absurd hno (by decide))
        refine lv_sipush (v := 1200) hx hb dX10_words_24 (by decide) ?_
        refine lv_iload_n hx hb dX10_words_27 rfl (lv_at hl 2 rfl) ?_
        refine lv_imul hx hb dX10_words_28 ?_
        refine q_seti (y := nI (1200 * t)) (pk_mul 1200 t) ?_
        refine lv_istore (lv' := [(5, .int (nI (1200 * t))), (4, .int (nI i)), (3, .int (nI b2)), (1, .int (nI t)), (0, .ref h0)]) hx hb dX10_words_29 hl (by decide) rfl (fun ls hl => ?_)
        refine lv_aload_n hx hb dX10_words_31 rfl (lv_at hl 4 rfl) ?_
        refine va_get (D := D) (ci := 11) (v := .ref (q 8)) (C := RX10) (T := TX10) (N := 48) hx hb hts inX10 hown hK hP 0 rfl rfl 8 (by decide) (hts _ k_1152) (fun _ h9 => h9) rfl dX10_words_32 ?_
        refine lv_iload_n hx hb dX10_words_35 rfl (lv_at hl 3 rfl) ?_
        refine q_ild (X := t) (f := f8) hx hb hK hP 6 1 rfl rfl (by omega) (by decide) dX10_words_36 ?_
        refine q_seti (y := (nI w)) hst.1 ?_
        refine lv_if_le (tgt := 66) hx hb dX10_words_37 (by decide) (fun c_3 => ?_) (fun c_3 => ?_)
        · have c_3 := q_le (a := w) (b := 0) (by omega) (by omega) c_3
          refine lv_aload_n hx hb dX10_words_66 rfl (lv_at hl 4 rfl) ?_
          refine va_get (D := D) (ci := 11) (v := .ref (q 8)) (C := RX10) (T := TX10) (N := 48) hx hb hts inX10 hown hK hP 0 rfl rfl 8 (by decide) (hts _ k_1152) (fun _ h9 => h9) rfl dX10_words_67 ?_
          refine lv_iload_n hx hb dX10_words_70 rfl (lv_at hl 3 rfl) ?_
          refine lv_dup2_11 hx hb dX10_words_71 rfl rfl ?_
          refine q_ild (X := t) (f := f8) hx hb hK hP 6 1 rfl rfl (by omega) (by decide) dX10_words_72 ?_
          refine q_seti (y := (nI w)) hst.1 ?_
          refine lv_iconst (v := 1) hx hb dX10_words_73 (by decide) ?_
          refine lv_iadd hx hb dX10_words_74 ?_
          refine q_seti (y := nI (w + 1)) (nI_add w 1) ?_
          refine q_ist (X := t) (f := f8) (x := (nI (w + 1))) hx hb hK hP hD hS 6 1 rfl rfl (by omega) (by decide) dX10_words_75 (fun H locs hP hD hS => ?_)
          have hP : va_P D vcl (mW h0 q cB cI cZ I (va_up (va_up (va_up F 8 (upd f8 t (nI (w + 1)))) 9 f9) 10 g)) H := hP
          have hD : va_D A (mW h0 q cB cI cZ I (va_up (va_up (va_up F 8 (upd f8 t (nI (w + 1)))) 9 f9) 10 g)) := hD
          exact absurd hik (by omega)
        · have c_3 := q_nle (a := w) (b := 0) (by omega) (by omega) c_3
          refine lv_aload_n hx hb dX10_words_40 rfl (lv_at hl 4 rfl) ?_
          refine va_get (D := D) (ci := 11) (v := .ref (q 10)) (C := RX10) (T := TX10) (N := 48) hx hb hts inX10 hown hK hP 0 rfl rfl 10 (by decide) (hts _ k_1154) (fun _ h9 => h9) rfl dX10_words_41 ?_
          refine lv_iload hx hb dX10_words_44 (lv_at hl 0 rfl) ?_
          refine lv_aload_n hx hb dX10_words_46 rfl (lv_at hl 4 rfl) ?_
          refine va_get (D := D) (ci := 11) (v := .ref (q 9)) (C := RX10) (T := TX10) (N := 48) hx hb hts inX10 hown hK hP 0 rfl rfl 9 (by decide) (hts _ k_1153) (fun _ h9 => h9) rfl dX10_words_47 ?_
          refine lv_iload_n hx hb dX10_words_50 rfl (lv_at hl 3 rfl) ?_
          refine q_ild (X := t) (f := f9) hx hb hK hP 7 1 rfl rfl (by omega) (by decide) dX10_words_51 ?_
          refine q_seti (y := (nI (X.length))) hst.2.1 ?_
          refine lv_iadd hx hb dX10_words_52 ?_
          refine q_seti (y := nI ((1200 * t) + (X.length))) (nI_add (1200 * t) (X.length)) ?_
          refine lv_bipush (v := 32) hx hb dX10_words_53 (by decide) ?_
          refine q_bst (X := (1200 * t) + (X.length)) (f := g) (x := 32) hx hb hK hP hD hS 8 0 rfl rfl (by omega) (by decide) dX10_words_55 (fun H locs hP hD hS => ?_)
          have hP : va_P D vcl (mW h0 q cB cI cZ I (va_up (va_up (va_up F 8 f8) 9 f9) 10 (upd g ((1200 * t) + (X.length)) (vp_nar .byte 32)))) H := hP
          have hD : va_D A (mW h0 q cB cI cZ I (va_up (va_up (va_up F 8 f8) 9 f9) 10 (upd g ((1200 * t) + (X.length)) (vp_nar .byte 32)))) := hD
          refine lv_aload_n hx hb dX10_words_56 rfl (lv_at hl 4 rfl) ?_
          refine va_get (D := D) (ci := 11) (v := .ref (q 9)) (C := RX10) (T := TX10) (N := 48) hx hb hts inX10 hown hK hP 0 rfl rfl 9 (by decide) (hts _ k_1153) (fun _ h9 => h9) rfl dX10_words_57 ?_
          refine lv_iload_n hx hb dX10_words_60 rfl (lv_at hl 3 rfl) ?_
          refine lv_dup2_11 hx hb dX10_words_61 rfl rfl ?_
          refine q_ild (X := t) (f := f9) hx hb hK hP 7 1 rfl rfl (by omega) (by decide) dX10_words_62 ?_
          refine q_seti (y := (nI (X.length))) hst.2.1 ?_
          refine lv_iconst (v := 1) hx hb dX10_words_63 (by decide) ?_
          refine lv_iadd hx hb dX10_words_64 ?_
          refine q_seti (y := nI ((X.length) + 1)) (nI_add (X.length) 1) ?_
          refine q_ist (X := t) (f := f9) (x := (nI ((X.length) + 1))) hx hb hK hP hD hS 7 1 rfl rfl (by omega) (by decide) dX10_words_65 (fun H locs hP hD hS => ?_)
          have hP : va_P D vcl (mW h0 q cB cI cZ I (va_up (va_up (va_up F 8 f8) 9 (upd f9 t (nI ((X.length) + 1)))) 10 (upd g ((1200 * t) + (X.length)) (vp_nar .byte 32)))) H := hP
          have hD : va_D A (mW h0 q cB cI cZ I (va_up (va_up (va_up F 8 f8) 9 (upd f9 t (nI ((X.length) + 1)))) 10 (upd g ((1200 * t) + (X.length)) (vp_nar .byte 32)))) := hD
          refine lv_aload_n hx hb dX10_words_66 rfl (lv_at hl 4 rfl) ?_
          refine va_get (D := D) (ci := 11) (v := .ref (q 8)) (C := RX10) (T := TX10) (N := 48) hx hb hts inX10 hown hK hP 0 rfl rfl 8 (by decide) (hts _ k_1152) (fun _ h9 => h9) rfl dX10_words_67 ?_
          refine lv_iload_n hx hb dX10_words_70 rfl (lv_at hl 3 rfl) ?_
          refine lv_dup2_11 hx hb dX10_words_71 rfl rfl ?_
          refine q_ild (X := t) (f := f8) hx hb hK hP 6 1 rfl rfl (by omega) (by decide) dX10_words_72 ?_
          refine q_seti (y := (nI w)) hst.1 ?_
          refine lv_iconst (v := 1) hx hb dX10_words_73 (by decide) ?_
          refine lv_iadd hx hb dX10_words_74 ?_
          refine q_seti (y := nI (w + 1)) (nI_add w 1) ?_
          refine q_ist (X := t) (f := f8) (x := (nI (w + 1))) hx hb hK hP hD hS 6 1 rfl rfl (by omega) (by decide) dX10_words_75 (fun H locs hP hD hS => ?_)
          have hP : va_P D vcl (mW h0 q cB cI cZ I (va_up (va_up (va_up F 8 (upd f8 t (nI (w + 1)))) 9 (upd f9 t (nI ((X.length) + 1)))) 10 (upd g ((1200 * t) + (X.length)) (vp_nar .byte 32)))) H := hP
          have hD : va_D A (mW h0 q cB cI cZ I (va_up (va_up (va_up F 8 (upd f8 t (nI (w + 1)))) 9 (upd f9 t (nI ((X.length) + 1)))) 10 (upd g ((1200 * t) + (X.length)) (vp_nar .byte 32)))) := hD
          exact absurd hik (by omega)
  | succ k ih =>
    intro r i w X f8 f9 g H locs ls hik hir hXr hwb hX1 hst hP hD hS hl kk
    refine lv_iload hx hb dX10_words_3 (lv_at hl 0 rfl) ?_
    refine lv_iload_n hx hb dX10_words_5 rfl (lv_at hl 1 rfl) ?_
    refine lv_icmp_ge (tgt := 131) hx hb dX10_words_6 (by decide) (fun c_1 => ?_) (fun c_1 => ?_)
    · have c_1 := q_le (a := b2) (b := i) (by omega) (by omega) c_1
      obtain rfl : r = 0 := by omega
      exact kk w X f8 f9 g H locs ls rfl hst hP hD hS (lv_sub hl (l' := [(0, .ref h0)]) [3] rfl)
    · have c_1 := q_nle (a := b2) (b := i) (by omega) (by omega) c_1
      refine lv_aload_n hx hb dX10_words_9 rfl (lv_at hl 3 rfl) ?_
      refine lv_iload hx hb dX10_words_10 (lv_at hl 0 rfl) ?_
      refine q_ci (k := cells) (n := slots) hK hP hD hS hA (fun hPc hKc hDc => q_rV (As := [.int (nI i)]) (rest := []) hf (r_isBlank _ D h0 q cB cI cZ I (va_up (va_up (va_up F 8 f8) 9 f9) 10 g) i (by omega) _) k_1344 k_1341 k_1343 k_55 k_98 (nA := 1) (by decide +kernel) ⟨Nat.le_trans (by decide) hRf, Nat.le_trans (by decide) hRl⟩ hK hP (ci := 11) (q0 := 0) rfl rfl rfl hPc hKc hDc (fun _ _ _ _ h => h) (fun _ _ _ => trivial) rfl hl.1 rfl (Nat.le_of_ble_eq_true rfl) dX10_words_12 ⟨hRc, hRs⟩) (Nat.le_refl _) (Nat.le_refl _) (fun r u H locs hw hK hP hD hS => ?_)
      rcases hw with ⟨⟨c_2, rfl⟩ | ⟨c_2, rfl⟩, rfl⟩
      · have hP : va_P D vcl (mW h0 q cB cI cZ I (va_up (va_up (va_up F 8 f8) 9 f9) 10 g)) H := hP
        have hD : va_D A (mW h0 q cB cI cZ I (va_up (va_up (va_up F 8 f8) 9 f9) 10 g)) := hD
        refine lv_if_eq (tgt := 24) hx hb dX10_words_15 (by decide) (fun hno => absurd hno (by decide)) (fun _ => ?_)
        refine lv_iinc (v := (nI (i + 1))) (lv' := [(4, .int (nI (i + 1))), (3, .int (nI b2)), (1, .int (nI t)), (0, .ref h0)]) hx hb dX10_words_18 hl (k := 0) rfl (nI_add i 1) (by decide) rfl (fun ls hl => ?_)
        refine lv_goto (tgt := 3) hx hb dX10_words_21 (by decide) ?_
        exact ih (r - 1) (i + 1) w X f8 f9 g H locs ls (by omega) (by omega) (by omega) (by omega) (fun _ _ _ => by omega) hst hP hD hS (lv_sub hl (l' := [(4, .int (nI (i + 1))), (3, .int (nI b2)), (1, .int (nI t)), (0, .ref h0)]) [0, 1, 2, 3] rfl) (fun w2 X2 f82 f92 g2 H locs ls a1 => kk w2 X2 f82 f92 g2 H locs ls (a1.trans (tx_sc_g c_2 (by omega)).symm))
      · have hP : va_P D vcl (mW h0 q cB cI cZ I (va_up (va_up (va_up F 8 f8) 9 f9) 10 g)) H := hP
        have hD : va_D A (mW h0 q cB cI cZ I (va_up (va_up (va_up F 8 f8) 9 f9) 10 g)) := hD
        refine lv_if_eq (tgt := 24) hx hb dX10_words_15 (by decide) (fun _ => ?_) (fun hno => absurd hno (by decide))
        refine lv_sipush (v := 1200) hx hb dX10_words_24 (by decide) ?_
        refine lv_iload_n hx hb dX10_words_27 rfl (lv_at hl 2 rfl) ?_
        refine lv_imul hx hb dX10_words_28 ?_
        refine q_seti (y := nI (1200 * t)) (pk_mul 1200 t) ?_
        refine lv_istore (lv' := [(5, .int (nI (1200 * t))), (4, .int (nI i)), (3, .int (nI b2)), (1, .int (nI t)), (0, .ref h0)]) hx hb dX10_words_29 hl (by decide) rfl (fun ls hl => ?_)
        refine lv_aload_n hx hb dX10_words_31 rfl (lv_at hl 4 rfl) ?_
        refine va_get (D := D) (ci := 11) (v := .ref (q 8)) (C := RX10) (T := TX10) (N := 48) hx hb hts inX10 hown hK hP 0 rfl rfl 8 (by decide) (hts _ k_1152) (fun _ h9 => h9) rfl dX10_words_32 ?_
        refine lv_iload_n hx hb dX10_words_35 rfl (lv_at hl 3 rfl) ?_
        refine q_ild (X := t) (f := f8) hx hb hK hP 6 1 rfl rfl (by omega) (by decide) dX10_words_36 ?_
        refine q_seti (y := (nI w)) hst.1 ?_
        refine lv_if_le (tgt := 66) hx hb dX10_words_37 (by decide) (fun c_3 => ?_) (fun c_3 => ?_)
        · have c_3 := q_le (a := w) (b := 0) (by omega) (by omega) c_3
          refine lv_aload_n hx hb dX10_words_66 rfl (lv_at hl 4 rfl) ?_
          refine va_get (D := D) (ci := 11) (v := .ref (q 8)) (C := RX10) (T := TX10) (N := 48) hx hb hts inX10 hown hK hP 0 rfl rfl 8 (by decide) (hts _ k_1152) (fun _ h9 => h9) rfl dX10_words_67 ?_
          refine lv_iload_n hx hb dX10_words_70 rfl (lv_at hl 3 rfl) ?_
          refine lv_dup2_11 hx hb dX10_words_71 rfl rfl ?_
          refine q_ild (X := t) (f := f8) hx hb hK hP 6 1 rfl rfl (by omega) (by decide) dX10_words_72 ?_
          refine q_seti (y := (nI w)) hst.1 ?_
          refine lv_iconst (v := 1) hx hb dX10_words_73 (by decide) ?_
          refine lv_iadd hx hb dX10_words_74 ?_
          refine q_seti (y := nI (w + 1)) (nI_add w 1) ?_
          refine q_ist (X := t) (f := f8) (x := (nI (w + 1))) hx hb hK hP hD hS 6 1 rfl rfl (by omega) (by decide) dX10_words_75 (fun H locs hP hD hS => ?_)
          have hP : va_P D vcl (mW h0 q cB cI cZ I (va_up (va_up (va_up F 8 (upd f8 t (nI (w + 1)))) 9 f9) 10 g)) H := hP
          have hD : va_D A (mW h0 q cB cI cZ I (va_up (va_up (va_up F 8 (upd f8 t (nI (w + 1)))) 9 f9) 10 g)) := hD
          have hst2 := tx_st_w hst
          have hw0 : w = 0 := by omega
          have hlen : X.length + r ≤ 1200 := hXr
          refine lw_in (t := t) (b2 := b2) (w := w + 1) (f8 := (upd f8 t (nI (w + 1)))) ht hb2 hTb hRf hRl hRc hRs hA hf hK r r i X f9 g H locs ls (Nat.le_refl r) hir hlen hst2 hP hD hS (lv_sub hl (l' := [(5, .int (nI (1200 * t))), (4, .int (nI i)), (3, .int (nI b2)), (1, .int (nI t)), (0, .ref h0)]) [0, 1, 2, 3, 4] rfl) (fun r2 i2 X2 f92 g2 H locs ls a1 a2 a3 a4 a5 a6 hP hD hS hl => ?_)
          have hr2 : r2 < r := a5.elim id (fun h => h.2.elim (fun h0 => absurd h0 (by omega)) (fun h1 => absurd h1 c_2))
          refine lv_goto (tgt := 3) hx hb dX10_words_128 (by decide) ?_
          exact ih r2 i2 (w + 1) X2 _ f92 g2 H locs ls (by omega) a1 a2 (by omega) (fun _ hn h0 => a3.elim (fun z => absurd z (by omega)) (fun z => absurd z hn)) a6 hP hD hS hl (fun w3 X3 f83 f93 g3 H locs ls z1 => kk w3 X3 f83 f93 g3 H locs ls (z1.trans (a4.trans (tx_sc_00 c_2 (by omega) hw0).symm)))
        · have c_3 := q_nle (a := w) (b := 0) (by omega) (by omega) c_3
          refine lv_aload_n hx hb dX10_words_40 rfl (lv_at hl 4 rfl) ?_
          refine va_get (D := D) (ci := 11) (v := .ref (q 10)) (C := RX10) (T := TX10) (N := 48) hx hb hts inX10 hown hK hP 0 rfl rfl 10 (by decide) (hts _ k_1154) (fun _ h9 => h9) rfl dX10_words_41 ?_
          refine lv_iload hx hb dX10_words_44 (lv_at hl 0 rfl) ?_
          refine lv_aload_n hx hb dX10_words_46 rfl (lv_at hl 4 rfl) ?_
          refine va_get (D := D) (ci := 11) (v := .ref (q 9)) (C := RX10) (T := TX10) (N := 48) hx hb hts inX10 hown hK hP 0 rfl rfl 9 (by decide) (hts _ k_1153) (fun _ h9 => h9) rfl dX10_words_47 ?_
          refine lv_iload_n hx hb dX10_words_50 rfl (lv_at hl 3 rfl) ?_
          refine q_ild (X := t) (f := f9) hx hb hK hP 7 1 rfl rfl (by omega) (by decide) dX10_words_51 ?_
          refine q_seti (y := (nI (X.length))) hst.2.1 ?_
          refine lv_iadd hx hb dX10_words_52 ?_
          refine q_seti (y := nI ((1200 * t) + (X.length))) (nI_add (1200 * t) (X.length)) ?_
          refine lv_bipush (v := 32) hx hb dX10_words_53 (by decide) ?_
          refine q_bst (X := (1200 * t) + (X.length)) (f := g) (x := 32) hx hb hK hP hD hS 8 0 rfl rfl (by omega) (by decide) dX10_words_55 (fun H locs hP hD hS => ?_)
          have hP : va_P D vcl (mW h0 q cB cI cZ I (va_up (va_up (va_up F 8 f8) 9 f9) 10 (upd g ((1200 * t) + (X.length)) (vp_nar .byte 32)))) H := hP
          have hD : va_D A (mW h0 q cB cI cZ I (va_up (va_up (va_up F 8 f8) 9 f9) 10 (upd g ((1200 * t) + (X.length)) (vp_nar .byte 32)))) := hD
          refine lv_aload_n hx hb dX10_words_56 rfl (lv_at hl 4 rfl) ?_
          refine va_get (D := D) (ci := 11) (v := .ref (q 9)) (C := RX10) (T := TX10) (N := 48) hx hb hts inX10 hown hK hP 0 rfl rfl 9 (by decide) (hts _ k_1153) (fun _ h9 => h9) rfl dX10_words_57 ?_
          refine lv_iload_n hx hb dX10_words_60 rfl (lv_at hl 3 rfl) ?_
          refine lv_dup2_11 hx hb dX10_words_61 rfl rfl ?_
          refine q_ild (X := t) (f := f9) hx hb hK hP 7 1 rfl rfl (by omega) (by decide) dX10_words_62 ?_
          refine q_seti (y := (nI (X.length))) hst.2.1 ?_
          refine lv_iconst (v := 1) hx hb dX10_words_63 (by decide) ?_
          refine lv_iadd hx hb dX10_words_64 ?_
          refine q_seti (y := nI ((X.length) + 1)) (nI_add (X.length) 1) ?_
          refine q_ist (X := t) (f := f9) (x := (nI ((X.length) + 1))) hx hb hK hP hD hS 7 1 rfl rfl (by omega) (by decide) dX10_words_65 (fun H locs hP hD hS => ?_)
          have hP : va_P D vcl (mW h0 q cB cI cZ I (va_up (va_up (va_up F 8 f8) 9 (upd f9 t (nI ((X.length) + 1)))) 10 (upd g ((1200 * t) + (X.length)) (vp_nar .byte 32)))) H := hP
          have hD : va_D A (mW h0 q cB cI cZ I (va_up (va_up (va_up F 8 f8) 9 (upd f9 t (nI ((X.length) + 1)))) 10 (upd g ((1200 * t) + (X.length)) (vp_nar .byte 32)))) := hD
          refine lv_aload_n hx hb dX10_words_66 rfl (lv_at hl 4 rfl) ?_
          refine va_get (D := D) (ci := 11) (v := .ref (q 8)) (C := RX10) (T := TX10) (N := 48) hx hb hts inX10 hown hK hP 0 rfl rfl 8 (by decide) (hts _ k_1152) (fun _ h9 => h9) rfl dX10_words_67 ?_
          refine lv_iload_n hx hb dX10_words_70 rfl (lv_at hl 3 rfl) ?_
          refine lv_dup2_11 hx hb dX10_words_71 rfl rfl ?_
          refine q_ild (X := t) (f := f8) hx hb hK hP 6 1 rfl rfl (by omega) (by decide) dX10_words_72 ?_
          refine q_seti (y := (nI w)) hst.1 ?_
          refine lv_iconst (v := 1) hx hb dX10_words_73 (by decide) ?_
          refine lv_iadd hx hb dX10_words_74 ?_
          refine q_seti (y := nI (w + 1)) (nI_add w 1) ?_
          refine q_ist (X := t) (f := f8) (x := (nI (w + 1))) hx hb hK hP hD hS 6 1 rfl rfl (by omega) (by decide) dX10_words_75 (fun H locs hP hD hS => ?_)
          have hP : va_P D vcl (mW h0 q cB cI cZ I (va_up (va_up (va_up F 8 (upd f8 t (nI (w + 1)))) 9 (upd f9 t (nI ((X.length) + 1)))) 10 (upd g ((1200 * t) + (X.length)) (vp_nar .byte 32)))) H := hP
          have hD : va_D A (mW h0 q cB cI cZ I (va_up (va_up (va_up F 8 (upd f8 t (nI (w + 1)))) 9 (upd f9 t (nI ((X.length) + 1)))) 10 (upd g ((1200 * t) + (X.length)) (vp_nar .byte 32)))) := hD
          have hst2 := tx_st_w (tx_st_a 32 hst (by omega))
          have hw0 : ¬ w = 0 := by omega
          have hlen : (X ++ [(32 : Int32)]).length + r ≤ 1200 := by rw [List.length_append]; show X.length + 1 + r ≤ 1200; have := hX1 (by omega) c_2 (by omega); omega
          refine lw_in (t := t) (b2 := b2) (w := w + 1) (f8 := (upd f8 t (nI (w + 1)))) ht hb2 hTb hRf hRl hRc hRs hA hf hK r r i (X ++ [32]) (upd f9 t (nI ((X.length) + 1))) (upd g ((1200 * t) + (X.length)) (vp_nar .byte 32)) H locs ls (Nat.le_refl r) hir hlen hst2 hP hD hS (lv_sub hl (l' := [(5, .int (nI (1200 * t))), (4, .int (nI i)), (3, .int (nI b2)), (1, .int (nI t)), (0, .ref h0)]) [0, 1, 2, 3, 4] rfl) (fun r2 i2 X2 f92 g2 H locs ls a1 a2 a3 a4 a5 a6 hP hD hS hl => ?_)
          have hr2 : r2 < r := a5.elim id (fun h => h.2.elim (fun h0 => absurd h0 (by omega)) (fun h1 => absurd h1 c_2))
          refine lv_goto (tgt := 3) hx hb dX10_words_128 (by decide) ?_
          exact ih r2 i2 (w + 1) X2 _ f92 g2 H locs ls (by omega) a1 a2 (by omega) (fun _ hn h0 => a3.elim (fun z => absurd z (by omega)) (fun z => absurd z hn)) a6 hP hD hS hl (fun w3 X3 f83 f93 g3 H locs ls z1 => kk w3 X3 f83 f93 g3 H locs ls (z1.trans (a4.trans (tx_sc_0s c_2 (by omega) hw0).symm)))
set_option maxHeartbeats 1000000 in
set_option maxRecDepth 100000 in
theorem r_words (l : Launch) (D : va_G) (h0 : Nat) (q : Nat → Nat) (cB cI_ cZ : ClassId) (I : Nat → Int32) (F : Nat → Nat → Int32) (t b2 r i w : Nat) (X : List Int32) (ht : t < 60) (hb2 : b2 ≤ 1200) (hTb : ∀ i, i < b2 → vp_nar .byte (F 0 i) = F 0 i) (hir : i + r = b2) (hXr : X.length + r ≤ 1200) (hwb : w + r ≤ 9600) (hX1 : 0 < w → ¬ tx_gap (F 0 i) → 0 < r → X.length + r + 1 ≤ 1200) (hst : tx_st F t w X (F 8) (F 9) (F 10)) : cV l D yX10_words cX10_words 6 none 1 21 0 0 [.ref h0, .int (nI t), .int (nI i), .int (nI b2)] zT (mW h0 q cB cI_ cZ I F) (mT cB cI_ cZ) (fun u => ∃ (w2 : Nat) (X2 : List Int32) (f82 f92 g2 : Nat → Int32), (w2, X2) = tx_sc (F 0) r i 0 w X ∧ tx_st F t w2 X2 f82 f92 g2 ∧ u = (mW h0 q cB cI_ cZ I (va_up (va_up (va_up F 8 f82) 9 f92) 10 g2), mT cB cI_ cZ)) := by
  refine q_sv (by decide) (Nat.le_of_ble_eq_true rfl) ?_
  intro p e s m below meth c A ls hAe hf hr hlocks hin hK hP hD hS hA hZ hl
  obtain ⟨hx, hb, hml, hown, hts⟩ := id hf
  have hl : lv_has ls 6 [(0, .ref h0), (1, .int (nI t)), (2, .int (nI i)), (3, .int (nI b2))] := hl
  refine lv_iload_n hx hb dX10_words_0 rfl (lv_at hl 2 rfl) ?_
  refine lv_istore (lv' := [(4, .int (nI i)), (0, .ref h0), (1, .int (nI t)), (2, .int (nI i)), (3, .int (nI b2))]) hx hb dX10_words_1 hl (by decide) rfl (fun ls hl => ?_)
  refine lw_out (F := F) (t := t) (b2 := b2) ht hb2 hTb (Nat.le_of_ble_eq_true rfl) (Nat.le_of_ble_eq_true rfl) (Nat.le_of_ble_eq_true rfl) (Nat.le_of_ble_eq_true rfl) hA hf hK r r i w X (F 8) (F 9) (F 10) _ _ ls (Nat.le_refl r) hir hXr hwb hX1 hst hP hD hS (lv_sub hl (l' := [(4, .int (nI i)), (3, .int (nI b2)), (1, .int (nI t)), (0, .ref h0)]) [0, 4, 2, 1] rfl) (fun w2 X2 f82 f92 g2 H locs ls a1 a6 hP hD hS hl => ?_)
  exact q_zv hf hr hlocks hK hP hD hS (Nat.le_of_ble_eq_true rfl) (Nat.le_of_ble_eq_true rfl) ⟨w2, X2, f82, f92, g2, a1, a6, rfl⟩ dX10_words_131
