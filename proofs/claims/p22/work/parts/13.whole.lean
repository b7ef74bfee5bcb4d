abbrev cX10_wholePieces : ByteArray := prog_12_method_19_code
def yX10_wholePieces : MethodName := ⟨RX10, "wholePieces", "()V"⟩
theorem k_1158 : (Cond.fieldLink RX10 158 "ScriptDeskModel" "pieces" "I") ∈ gT := gT_i 1158 (by decide +kernel) rfl
theorem k_1159 : (Cond.fieldLink RX10 50 "ScriptDeskModel" "pieceOf" "[I") ∈ gT := gT_i 1159 (by decide +kernel) rfl
theorem k_1160 : (Cond.fieldLink RX10 53 "ScriptDeskModel" "pieceFrom" "[I") ∈ gT := gT_i 1160 (by decide +kernel) rfl
theorem k_1161 : (Cond.fieldLink RX10 56 "ScriptDeskModel" "pieceTo" "[I") ∈ gT := gT_i 1161 (by decide +kernel) rfl
theorem k_1162 : (Cond.fieldLink RX10 59 "ScriptDeskModel" "groupOf" "[I") ∈ gT := gT_i 1162 (by decide +kernel) rfl
theorem dX10_wholePieces_7 : decode cX10_wholePieces 7 = .ok (.iload_n 1, 1) := by decide +kernel
theorem dX10_wholePieces_8 : decode cX10_wholePieces 8 = .ok (.aload_n 0, 1) := by decide +kernel
theorem dX10_wholePieces_9 : decode cX10_wholePieces 9 = .ok (.getfield 144, 3) := by decide +kernel
theorem dX10_wholePieces_12 : decode cX10_wholePieces 12 = .ok (.if_icmp .ge 57, 3) := by decide +kernel
theorem dX10_wholePieces_15 : decode cX10_wholePieces 15 = .ok (.aload_n 0, 1) := by decide +kernel
theorem dX10_wholePieces_16 : decode cX10_wholePieces 16 = .ok (.getfield 50, 3) := by decide +kernel
theorem dX10_wholePieces_19 : decode cX10_wholePieces 19 = .ok (.iload_n 1, 1) := by decide +kernel
theorem dX10_wholePieces_20 : decode cX10_wholePieces 20 = .ok (.iload_n 1, 1) := by decide +kernel
theorem dX10_wholePieces_21 : decode cX10_wholePieces 21 = .ok (.iastore, 1) := by decide +kernel
theorem dX10_wholePieces_22 : decode cX10_wholePieces 22 = .ok (.aload_n 0, 1) := by decide +kernel
theorem dX10_wholePieces_23 : decode cX10_wholePieces 23 = .ok (.getfield 53, 3) := by decide +kernel
theorem dX10_wholePieces_26 : decode cX10_wholePieces 26 = .ok (.iload_n 1, 1) := by decide +kernel
theorem dX10_wholePieces_27 : decode cX10_wholePieces 27 = .ok (.iconst 0, 1) := by decide +kernel
theorem dX10_wholePieces_28 : decode cX10_wholePieces 28 = .ok (.iastore, 1) := by decide +kernel
theorem dX10_wholePieces_29 : decode cX10_wholePieces 29 = .ok (.aload_n 0, 1) := by decide +kernel
theorem dX10_wholePieces_30 : decode cX10_wholePieces 30 = .ok (.getfield 56, 3) := by decide +kernel
theorem dX10_wholePieces_33 : decode cX10_wholePieces 33 = .ok (.iload_n 1, 1) := by decide +kernel
theorem dX10_wholePieces_34 : decode cX10_wholePieces 34 = .ok (.aload_n 0, 1) := by decide +kernel
theorem dX10_wholePieces_35 : decode cX10_wholePieces 35 = .ok (.getfield 41, 3) := by decide +kernel
theorem dX10_wholePieces_38 : decode cX10_wholePieces 38 = .ok (.aload_n 0, 1) := by decide +kernel
theorem dX10_wholePieces_39 : decode cX10_wholePieces 39 = .ok (.getfield 17, 3) := by decide +kernel
theorem dX10_wholePieces_42 : decode cX10_wholePieces 42 = .ok (.iload_n 1, 1) := by decide +kernel
theorem dX10_wholePieces_43 : decode cX10_wholePieces 43 = .ok (.iaload, 1) := by decide +kernel
theorem dX10_wholePieces_44 : decode cX10_wholePieces 44 = .ok (.iaload, 1) := by decide +kernel
theorem dX10_wholePieces_45 : decode cX10_wholePieces 45 = .ok (.iastore, 1) := by decide +kernel
theorem dX10_wholePieces_46 : decode cX10_wholePieces 46 = .ok (.aload_n 0, 1) := by decide +kernel
theorem dX10_wholePieces_47 : decode cX10_wholePieces 47 = .ok (.getfield 59, 3) := by decide +kernel
theorem dX10_wholePieces_50 : decode cX10_wholePieces 50 = .ok (.iload_n 1, 1) := by decide +kernel
theorem dX10_wholePieces_51 : decode cX10_wholePieces 51 = .ok (.iconst 0, 1) := by decide +kernel
theorem dX10_wholePieces_52 : decode cX10_wholePieces 52 = .ok (.iastore, 1) := by decide +kernel
theorem dX10_wholePieces_53 : decode cX10_wholePieces 53 = .ok (.aload_n 0, 1) := by decide +kernel
theorem dX10_wholePieces_54 : decode cX10_wholePieces 54 = .ok (.dup, 1) := by decide +kernel
theorem dX10_wholePieces_55 : decode cX10_wholePieces 55 = .ok (.getfield 158, 3) := by decide +kernel
theorem dX10_wholePieces_58 : decode cX10_wholePieces 58 = .ok (.iconst 1, 1) := by decide +kernel
theorem dX10_wholePieces_59 : decode cX10_wholePieces 59 = .ok (.iadd, 1) := by decide +kernel
theorem dX10_wholePieces_60 : decode cX10_wholePieces 60 = .ok (.putfield 158, 3) := by decide +kernel
theorem dX10_wholePieces_63 : decode cX10_wholePieces 63 = .ok (.iinc 1 1, 3) := by decide +kernel
theorem dX10_wholePieces_66 : decode cX10_wholePieces 66 = .ok (.goto (-59), 3) := by decide +kernel
theorem dX10_wholePieces_0 : decode cX10_wholePieces 0 = .ok (.aload_n 0, 1) := by decide +kernel
theorem dX10_wholePieces_1 : decode cX10_wholePieces 1 = .ok (.iconst 0, 1) := by decide +kernel
theorem dX10_wholePieces_2 : decode cX10_wholePieces 2 = .ok (.putfield 158, 3) := by decide +kernel
theorem dX10_wholePieces_5 : decode cX10_wholePieces 5 = .ok (.iconst 0, 1) := by decide +kernel
theorem dX10_wholePieces_6 : decode cX10_wholePieces 6 = .ok (.istore_n 1, 1) := by decide +kernel
theorem dX10_wholePieces_69 : decode cX10_wholePieces 69 = .ok (.return_, 1) := by decide +kernel
theorem cI_mono {l : Launch} {D : va_G} {y : MethodName} {b : ByteArray} {n : Nat} {r : Option FieldType} {fr lo mc ms : Nat} {As : List Value} {Z : Nat → State → Prop} {w0 : va_W} {t0 : List (ClassId × FieldType)} {post post2 : Int32 → wU → Prop} (h : cI l D y b n r fr lo mc ms As Z w0 t0 post) (hp : ∀ r u, post r u → post2 r u) : cI l D y b n r fr lo mc ms As Z w0 t0 post2 := by
  intro sz p e a1 a2 a3 s m args below b1 b2 b3 b4
  obtain ⟨k, o, c1, c2, c3, ⟨⟨⟨r, u, d1, d2, d3⟩, d4⟩, d5⟩⟩ := h sz p e a1 a2 a3 s m args below b1 b2 b3 b4
  exact ⟨k, o, c1, c2, c3, ⟨⟨r, u, d1, hp r u d2, d3⟩, d4⟩, d5⟩
theorem cV_mono {l : Launch} {D : va_G} {y : MethodName} {b : ByteArray} {n : Nat} {r : Option FieldType} {fr lo mc ms : Nat} {As : List Value} {Z : Nat → State → Prop} {w0 : va_W} {t0 : List (ClassId × FieldType)} {post post2 : wU → Prop} (h : cV l D y b n r fr lo mc ms As Z w0 t0 post) (hp : ∀ u, post u → post2 u) : cV l D y b n r fr lo mc ms As Z w0 t0 post2 := by
  intro sz p e a1 a2 a3 s m args below b1 b2 b3 b4
  obtain ⟨k, o, c1, c2, c3, ⟨⟨⟨u, d1, d2, d3⟩, d4⟩, d5⟩⟩ := h sz p e a1 a2 a3 s m args below b1 b2 b3 b4
  exact ⟨k, o, c1, c2, c3, ⟨⟨u, d1, hp u d2, d3⟩, d4⟩, d5⟩
/-- kindOfLine of any line that isn't free, the kinds ahead being known -/
theorem r_kind (l : Launch) (D : va_G) (h0 : Nat) (q : Nat → Nat) (cB cI_ cZ : ClassId) (I : Nat → Int32) (F : Nat → Nat → Int32) (L : List (Nat × Nat)) (j : Nat) (hI21 : I 21 = nI L.length) (hL : ∀ j, j < L.length → F 22 j = nI (L.getD j (0, 0)).1 ∧ F 23 j = nI (L.getD j (0, 0)).2) (hok : tx_ok L) (hj : j < L.length) (hnf : ¬ tx_free L j) (h24 : ∀ i, i < j → ¬ tx_free L i → F 24 i = tx_k (F 0) L i) : cI l D yX10_kindOfLine cX10_kindOfLine 7 (some .int) 2 45 0 0 [.ref h0, .int (nI j)] zT (mW h0 q cB cI_ cZ I F) (mT cB cI_ cZ) (fun r u => r = tx_k (F 0) L j ∧ u = (mW h0 q cB cI_ cZ I F, mT cB cI_ cZ)) := by
  cases j with
  | zero =>
    refine cI_mono (r_kindOfLine_0 l D h0 q cB cI_ cZ I F L (-1) hI21 hL hok hj hnf) (fun r u h => ⟨h.1.trans ?_, h.2⟩)
    exact (pif_n hnf).symm
  | succ j =>
    refine cI_mono (r_kindOfLine_s l D h0 q cB cI_ cZ I F L j (F 24 j) hI21 hL hok hj rfl hnf) (fun r u h => ⟨h.1.trans ?_, h.2⟩)
    refine (tx_kd_fa ?_).trans (pif_n hnf).symm
    by_cases hf : tx_free L j
    · exact Or.inl hf
    · exact Or.inr (h24 j (Nat.lt_succ_self j) hf)
theorem r_more (l : Launch) (D : va_G) (h0 : Nat) (q : Nat → Nat) (cB cI_ cZ : ClassId) (I : Nat → Int32) (F : Nat → Nat → Int32) (L : List (Nat × Nat)) (j : Nat) (hI21 : I 21 = nI L.length) (hL : ∀ j, j < L.length → F 22 j = nI (L.getD j (0, 0)).1 ∧ F 23 j = nI (L.getD j (0, 0)).2) (hok : tx_ok L) (hj : j < L.length) (hnf : ¬ tx_free L j) (h24 : ∀ i, i < j + 1 → ¬ tx_free L i → F 24 i = tx_k (F 0) L i) : cI l D yX10_isMore cX10_isMore 2 (some .boolean) 2 43 0 0 [.ref h0, .int (nI j)] zT (mW h0 q cB cI_ cZ I F) (mT cB cI_ cZ) (fun r u => (tx_more (F 0) L j ∧ r = 1 ∨ ¬ tx_more (F 0) L j ∧ r = 0) ∧ u = (mW h0 q cB cI_ cZ I F, mT cB cI_ cZ)) := by
  cases j with
  | zero => exact cI_mono (r_isMore_0 l D h0 q cB cI_ cZ I F L hI21 hL hok) (fun r u h => ⟨Or.inr ⟨fun z => absurd z.1 (by omega), h.1⟩, h.2⟩)
  | succ j =>
    have h1 := h24 (j + 1) (Nat.lt_succ_self _) hnf
    refine cI_mono (r_isMore_s l D h0 q cB cI_ cZ I F L j (F 24 j) (F 24 (j + 1)) hI21 hL hok hj rfl rfl) (fun r u h => ⟨?_, h.2⟩)
    rcases h.1 with ⟨z, hr⟩ | ⟨z, hr⟩
    · have h0 := h24 j (by omega) z.1
      rw [h0, h1] at z
      exact Or.inl ⟨⟨by omega, z.1, z.2.1, z.2.2.1, z.2.2.2⟩, hr⟩
    · refine Or.inr ⟨fun y => z ?_, hr⟩
      have h0 := h24 j (by omega) y.2.1
      rw [h0, h1]
      exact ⟨y.2.1, y.2.2.1, y.2.2.2.1, y.2.2.2.2⟩
noncomputable def tx_cnt (T : Nat → Int32) (L : List (Nat × Nat)) : Nat → Nat
  | 0 => 0
  | j + 1 => tx_cnt T L j + pif (¬ tx_free L j ∧ ¬ tx_more T L j) 1 0
theorem tx_cnt_le (T : Nat → Int32) (L : List (Nat × Nat)) : ∀ j, tx_cnt T L j ≤ j := by
  intro j
  induction j with
  | zero => exact Nat.le_refl 0
  | succ j ih =>
    show tx_cnt T L j + pif (¬ tx_free L j ∧ ¬ tx_more T L j) 1 0 ≤ j + 1
    by_cases h : ¬ tx_free L j ∧ ¬ tx_more T L j
    · rw [pif_p h]; omega
    · rw [pif_n h]; omega
theorem tx_wp_in {Rn : Nat → Nat} {j : Nat} {f15 f16 f17 f18 : Nat → Int32} (h : ∀ i, i < j → f15 i = nI i ∧ f16 i = 0 ∧ f17 i = nI (Rn i) ∧ f18 i = 0) : ∀ i, i < j + 1 → upd f15 j (nI j) i = nI i ∧ upd f16 j 0 i = 0 ∧ upd f17 j (nI (Rn j)) i = nI (Rn i) ∧ upd f18 j 0 i = 0 := by
  intro i hi
  by_cases e : i = j
  · rw [e, pk_us, pk_us, pk_us, pk_us]; exact ⟨rfl, rfl, rfl, rfl⟩
  · rw [pk_un e, pk_un e, pk_un e, pk_un e]; exact h i (by omega)
set_option maxHeartbeats 1000000 in
set_option maxRecDepth 100000 in
theorem lp_wp {p : Program} {l : Launch} {e : Env} {R : Room} {s : State} {m : MethodId} {args : Array Value} {below : List Frame} {meth : Method} {c : Code} {cells slots : Nat} {Q : State → Prop} {D : va_G} {A : Nat → Prop} {h0 : Nat} {q : Nat → Nat} {cB cI cZ : ClassId} {I : Nat → Int32} {F : Nat → Nat → Int32} {en : Nat} {Sl Rn : Nat → Nat} (hI3 : I 3 = nI en) (hen : en ≤ 60) (hsl : ∀ j, j < en → F 4 j = nI (Sl j) ∧ Sl j < 60 ∧ F 11 (Sl j) = nI (Rn j)) (hRf : 0 ≤ R.frames) (hRl : 0 ≤ R.locals) (hRc : cells ≤ R.cells) (hRs : slots ≤ R.slots) (hA : ∀ q : Nat, s.heap.size ≤ q → A q) (hf : CallFix p m c cX10_wholePieces 2 s args gT yX10_wholePieces.cls) (hK : va_K D vcl (mT cB cI cZ) s) :
    ∀ (k : Nat) (j : Nat) (f15 : Nat → Int32) (f16 : Nat → Int32) (f17 : Nat → Int32) (f18 : Nat → Int32) (H : Heap) (locs : List Loc) (ls : Array Slot), j + k = en → (∀ i, i < j → f15 i = nI i ∧ f16 i = 0 ∧ f17 i = nI (Rn i) ∧ f18 i = 0) →  va_P D vcl (mW h0 q cB cI cZ (upd I 14 (nI j)) (va_up (va_up (va_up (va_up F 15 f15) 16 f16) 17 f17) 18 f18)) H → va_D A (mW h0 q cB cI cZ (upd I 14 (nI j)) (va_up (va_up (va_up (va_up F 15 f15) 16 f16) 17 f17) 18 f18)) → va_S A s.heap H locs → lv_has ls 2 [(1, .int (nI j)), (0, .ref h0)] →
    (∀ (g15 : Nat → Int32) (g16 : Nat → Int32) (g17 : Nat → Int32) (g18 : Nat → Int32) (H : Heap) (locs : List Loc) (ls : Array Slot), (∀ i, i < en → g15 i = nI i ∧ g16 i = 0 ∧ g17 i = nI (Rn i) ∧ g18 i = 0) → va_P D vcl (mW h0 q cB cI cZ (upd I 14 (nI en)) (va_up (va_up (va_up (va_up F 15 g15) 16 g16) 17 g17) 18 g18)) H → va_D A (mW h0 q cB cI cZ (upd I 14 (nI en)) (va_up (va_up (va_up (va_up F 15 g15) 16 g16) 17 g17) 18 g18)) → va_S A s.heap H locs → lv_has ls 2 [(0, .ref h0)] → W p l e R s m args below meth c H locs cells slots Q (F0 m 69 ls [])) →
    W p l e R s m args below meth c H locs cells slots Q (F0 m 7 ls []) := by
  obtain ⟨hx, hb, hml, hown, hts⟩ := id hf
  intro k
  induction k with
  | zero =>
    intro j f15 f16 f17 f18 H locs ls hik hinv hP hD hS hl kk
    refine lv_iload_n hx hb dX10_wholePieces_7 rfl (lv_at hl 0 rfl) ?_
    refine lv_aload_n hx hb dX10_wholePieces_8 rfl (lv_at hl 1 rfl) ?_
    refine va_get (D := D) (ci := 11) (v := .int (I 3)) (C := RX10) (T := TX10) (N := 48) hx hb hts inX10 hown hK hP 0 rfl rfl 3 (by decide) (hts _ k_1147) (fun _ h9 => h9) rfl dX10_wholePieces_9 ?_
    refine q_seti (y := (nI en)) hI3 ?_
    refine lv_icmp_ge (tgt := 69) hx hb dX10_wholePieces_12 (by decide) (fun c_1 => ?_) (fun c_1 => ?_)
    · have c_1 := q_le (a := en) (b := j) (by omega) (by omega) c_1
      obtain rfl : j = en := by omega
      exact kk f15 f16 f17 f18 H locs ls hinv hP hD hS (lv_sub hl (l' := [(0, .ref h0)]) [1] rfl)
    · have c_1 := q_nle (a := en) (b := j) (by omega) (by omega) c_1
      exact absurd hik (by omega)
  | succ k ih =>
    intro j f15 f16 f17 f18 H locs ls hik hinv hP hD hS hl kk
    refine lv_iload_n hx hb dX10_wholePieces_7 rfl (lv_at hl 0 rfl) ?_
    refine lv_aload_n hx hb dX10_wholePieces_8 rfl (lv_at hl 1 rfl) ?_
    refine va_get (D := D) (ci := 11) (v := .int (I 3)) (C := RX10) (T := TX10) (N := 48) hx hb hts inX10 hown hK hP 0 rfl rfl 3 (by decide) (hts _ k_1147) (fun _ h9 => h9) rfl dX10_wholePieces_9 ?_
    refine q_seti (y := (nI en)) hI3 ?_
    refine lv_icmp_ge (tgt := 69) hx hb dX10_wholePieces_12 (by decide) (fun c_1 => ?_) (fun c_1 => ?_)
    · have c_1 := q_le (a := en) (b := j) (by omega) (by omega) c_1
      exact absurd hik (by omega)
    · have c_1 := q_nle (a := en) (b := j) (by omega) (by omega) c_1
      have hsl9 := (hsl j (by omega)).2.1
      refine lv_aload_n hx hb dX10_wholePieces_15 rfl (lv_at hl 1 rfl) ?_
      refine va_get (D := D) (ci := 11) (v := .ref (q 15)) (C := RX10) (T := TX10) (N := 48) hx hb hts inX10 hown hK hP 0 rfl rfl 15 (by decide) (hts _ k_1159) (fun _ h9 => h9) rfl dX10_wholePieces_16 ?_
      refine lv_iload_n hx hb dX10_wholePieces_19 rfl (lv_at hl 0 rfl) ?_
      refine lv_iload_n hx hb dX10_wholePieces_20 rfl (lv_at hl 0 rfl) ?_
      refine q_ist (X := j) (f := f15) (x := (nI j)) hx hb hK hP hD hS 12 1 rfl rfl (by omega) (by decide) dX10_wholePieces_21 (fun H locs hP hD hS => ?_)
      have hP : va_P D vcl (mW h0 q cB cI cZ (upd I 14 (nI j)) (va_up (va_up (va_up (va_up F 15 (upd f15 j (nI j))) 16 f16) 17 f17) 18 f18)) H := hP
      have hD : va_D A (mW h0 q cB cI cZ (upd I 14 (nI j)) (va_up (va_up (va_up (va_up F 15 (upd f15 j (nI j))) 16 f16) 17 f17) 18 f18)) := hD
      refine lv_aload_n hx hb dX10_wholePieces_22 rfl (lv_at hl 1 rfl) ?_
      refine va_get (D := D) (ci := 11) (v := .ref (q 16)) (C := RX10) (T := TX10) (N := 48) hx hb hts inX10 hown hK hP 0 rfl rfl 16 (by decide) (hts _ k_1160) (fun _ h9 => h9) rfl dX10_wholePieces_23 ?_
      refine lv_iload_n hx hb dX10_wholePieces_26 rfl (lv_at hl 0 rfl) ?_
      refine lv_iconst (v := 0) hx hb dX10_wholePieces_27 (by decide) ?_
      refine q_ist (X := j) (f := f16) (x := 0) hx hb hK hP hD hS 13 1 rfl rfl (by omega) (by decide) dX10_wholePieces_28 (fun H locs hP hD hS => ?_)
      have hP : va_P D vcl (mW h0 q cB cI cZ (upd I 14 (nI j)) (va_up (va_up (va_up (va_up F 15 (upd f15 j (nI j))) 16 (upd f16 j 0)) 17 f17) 18 f18)) H := hP
      have hD : va_D A (mW h0 q cB cI cZ (upd I 14 (nI j)) (va_up (va_up (va_up (va_up F 15 (upd f15 j (nI j))) 16 (upd f16 j 0)) 17 f17) 18 f18)) := hD
      refine lv_aload_n hx hb dX10_wholePieces_29 rfl (lv_at hl 1 rfl) ?_
      refine va_get (D := D) (ci := 11) (v := .ref (q 17)) (C := RX10) (T := TX10) (N := 48) hx hb hts inX10 hown hK hP 0 rfl rfl 17 (by decide) (hts _ k_1161) (fun _ h9 => h9) rfl dX10_wholePieces_30 ?_
      refine lv_iload_n hx hb dX10_wholePieces_33 rfl (lv_at hl 0 rfl) ?_
      refine lv_aload_n hx hb dX10_wholePieces_34 rfl (lv_at hl 1 rfl) ?_
      refine va_get (D := D) (ci := 11) (v := .ref (q 11)) (C := RX10) (T := TX10) (N := 48) hx hb hts inX10 hown hK hP 0 rfl rfl 11 (by decide) (hts _ k_1155) (fun _ h9 => h9) rfl dX10_wholePieces_35 ?_
      refine lv_aload_n hx hb dX10_wholePieces_38 rfl (lv_at hl 1 rfl) ?_
      refine va_get (D := D) (ci := 11) (v := .ref (q 4)) (C := RX10) (T := TX10) (N := 48) hx hb hts inX10 hown hK hP 0 rfl rfl 4 (by decide) (hts _ k_1148) (fun _ h9 => h9) rfl dX10_wholePieces_39 ?_
      refine lv_iload_n hx hb dX10_wholePieces_42 rfl (lv_at hl 0 rfl) ?_
      refine q_ild (X := j) (f := (F 4)) hx hb hK hP 2 1 rfl rfl (by omega) (by decide) dX10_wholePieces_43 ?_
      refine q_seti (y := (nI (Sl j))) (hsl j (by omega)).1 ?_
      refine q_ild (X := Sl j) (f := (F 11)) hx hb hK hP 9 1 rfl rfl (by omega) (by decide) dX10_wholePieces_44 ?_
      refine q_seti (y := (nI (Rn j))) (hsl j (by omega)).2.2 ?_
      refine q_ist (X := j) (f := f17) (x := (nI (Rn j))) hx hb hK hP hD hS 14 1 rfl rfl (by omega) (by decide) dX10_wholePieces_45 (fun H locs hP hD hS => ?_)
      have hP : va_P D vcl (mW h0 q cB cI cZ (upd I 14 (nI j)) (va_up (va_up (va_up (va_up F 15 (upd f15 j (nI j))) 16 (upd f16 j 0)) 17 (upd f17 j (nI (Rn j)))) 18 f18)) H := hP
      have hD : va_D A (mW h0 q cB cI cZ (upd I 14 (nI j)) (va_up (va_up (va_up (va_up F 15 (upd f15 j (nI j))) 16 (upd f16 j 0)) 17 (upd f17 j (nI (Rn j)))) 18 f18)) := hD
      refine lv_aload_n hx hb dX10_wholePieces_46 rfl (lv_at hl 1 rfl) ?_
      refine va_get (D := D) (ci := 11) (v := .ref (q 18)) (C := RX10) (T := TX10) (N := 48) hx hb hts inX10 hown hK hP 0 rfl rfl 18 (by decide) (hts _ k_1162) (fun _ h9 => h9) rfl dX10_wholePieces_47 ?_
      refine lv_iload_n hx hb dX10_wholePieces_50 rfl (lv_at hl 0 rfl) ?_
      refine lv_iconst (v := 0) hx hb dX10_wholePieces_51 (by decide) ?_
      refine q_ist (X := j) (f := f18) (x := 0) hx hb hK hP hD hS 15 1 rfl rfl (by omega) (by decide) dX10_wholePieces_52 (fun H locs hP hD hS => ?_)
      have hP : va_P D vcl (mW h0 q cB cI cZ (upd I 14 (nI j)) (va_up (va_up (va_up (va_up F 15 (upd f15 j (nI j))) 16 (upd f16 j 0)) 17 (upd f17 j (nI (Rn j)))) 18 (upd f18 j 0))) H := hP
      have hD : va_D A (mW h0 q cB cI cZ (upd I 14 (nI j)) (va_up (va_up (va_up (va_up F 15 (upd f15 j (nI j))) 16 (upd f16 j 0)) 17 (upd f17 j (nI (Rn j)))) 18 (upd f18 j 0))) := hD
      refine lv_aload_n hx hb dX10_wholePieces_53 rfl (lv_at hl 1 rfl) ?_
      refine lv_dup hx hb dX10_wholePieces_54 rfl ?_
      refine va_get (D := D) (ci := 11) (v := .int (nI j)) (C := RX10) (T := TX10) (N := 48) hx hb hts inX10 hown hK hP 0 rfl rfl 14 (by decide) (hts _ k_1158) (fun _ h9 => h9) rfl dX10_wholePieces_55 ?_
      refine lv_iconst (v := 1) hx hb dX10_wholePieces_58 (by decide) ?_
      refine lv_iadd hx hb dX10_wholePieces_59 ?_
      refine q_seti (y := nI (j + 1)) (nI_add j 1) ?_
      refine va_put (D := D) (ci := 11) (v := .int (nI (j + 1))) (ty := .int) (C := RX10) (T := TX10) (N := 48) hx hb hts inX10 tyX10 tyX10_ok nmX10 hown hK hP hD hS 0 rfl rfl 14 (by decide) (hts _ k_1158) (fun _ h9 => h9) rfl (by decide +kernel) rfl rfl (Nat.le_of_ble_eq_true rfl) dX10_wholePieces_60 (fun H locs hP hD hS => ?_)
      have hP : va_P D vcl (mW h0 q cB cI cZ (upd I 14 (nI (j + 1))) (va_up (va_up (va_up (va_up F 15 (upd f15 j (nI j))) 16 (upd f16 j 0)) 17 (upd f17 j (nI (Rn j)))) 18 (upd f18 j 0))) H := hP
      have hD : va_D A (mW h0 q cB cI cZ (upd I 14 (nI (j + 1))) (va_up (va_up (va_up (va_up F 15 (upd f15 j (nI j))) 16 (upd f16 j 0)) 17 (upd f17 j (nI (Rn j)))) 18 (upd f18 j 0))) := hD
      refine lv_iinc (v := (nI (j + 1))) (lv' := [(1, .int (nI (j + 1))), (0, .ref h0)]) hx hb dX10_wholePieces_63 hl (k := 0) rfl (nI_add j 1) (by decide) rfl (fun ls hl => ?_)
      refine lv_goto (tgt := 7) hx hb dX10_wholePieces_66 (by decide) ?_
      exact ih (j + 1) _ _ _ _ H locs ls (by omega) (tx_wp_in hinv) hP hD hS (lv_sub hl (l' := [(1, .int (nI (j + 1))), (0, .ref h0)]) [0, 1] rfl) kk
set_option maxHeartbeats 1000000 in
set_option maxRecDepth 100000 in
theorem r_wholePieces (l : Launch) (D : va_G) (h0 : Nat) (q : Nat → Nat) (cB cI_ cZ : ClassId) (I : Nat → Int32) (F : Nat → Nat → Int32) (en : Nat) (Sl Rn : Nat → Nat) (hI3 : I 3 = nI en) (hen : en ≤ 60) (hsl : ∀ j, j < en → F 4 j = nI (Sl j) ∧ Sl j < 60 ∧ F 11 (Sl j) = nI (Rn j)) : cV l D yX10_wholePieces cX10_wholePieces 2 none 0 0 0 0 [.ref h0] zT (mW h0 q cB cI_ cZ I F) (mT cB cI_ cZ) (fun u => ∃ (g15 g16 g17 g18 : Nat → Int32), (∀ i, i < en → g15 i = nI i ∧ g16 i = 0 ∧ g17 i = nI (Rn i) ∧ g18 i = 0) ∧ u = (mW h0 q cB cI_ cZ (upd I 14 (nI en)) (va_up (va_up (va_up (va_up F 15 g15) 16 g16) 17 g17) 18 g18), mT cB cI_ cZ)) := by
  refine q_sv (by decide) (Nat.le_of_ble_eq_true rfl) ?_
  intro p e s m below meth c A ls hAe hf hr hlocks hin hK hP hD hS hA hZ hl
  obtain ⟨hx, hb, hml, hown, hts⟩ := id hf
  have hl : lv_has ls 2 [(0, .ref h0)] := hl
  refine lv_aload_n hx hb dX10_wholePieces_0 rfl (lv_at hl 0 rfl) ?_
  refine lv_iconst (v := 0) hx hb dX10_wholePieces_1 (by decide) ?_
  refine va_put (D := D) (ci := 11) (v := .int 0) (ty := .int) (C := RX10) (T := TX10) (N := 48) hx hb hts inX10 tyX10 tyX10_ok nmX10 hown hK hP hD hS 0 rfl rfl 14 (by decide) (hts _ k_1158) (fun _ h9 => h9) rfl (by decide +kernel) rfl rfl (Nat.le_of_ble_eq_true rfl) dX10_wholePieces_2 (fun H locs hP hD hS => ?_)
  have hP : va_P D vcl (mW h0 q cB cI_ cZ (upd I 14 0) F) H := hP
  have hD : va_D A (mW h0 q cB cI_ cZ (upd I 14 0) F) := hD
  refine lv_iconst (v := 0) hx hb dX10_wholePieces_5 (by decide) ?_
  refine lv_istore_n (lv' := [(1, .int 0), (0, .ref h0)]) hx hb dX10_wholePieces_6 rfl hl (by decide) rfl (fun ls hl => ?_)
  refine lp_wp (I := I) (F := F) hI3 hen hsl (Nat.le_of_ble_eq_true rfl) (Nat.le_of_ble_eq_true rfl) (Nat.le_of_ble_eq_true rfl) (Nat.le_of_ble_eq_true rfl) hA hf hK en 0 (F 15) (F 16) (F 17) (F 18) _ _ ls (by omega) (fun i hi => absurd hi (Nat.not_lt_zero i)) hP hD hS (lv_sub hl (l' := [(1, .int 0), (0, .ref h0)]) [0, 1] rfl) (fun g15 g16 g17 g18 H locs ls a1 hP hD hS hl => ?_)
  exact q_zv hf hr hlocks hK hP hD hS (Nat.le_of_ble_eq_true rfl) (Nat.le_of_ble_eq_true rfl) ⟨g15, g16, g17, g18, a1, rfl⟩ dX10_wholePieces_69
