theorem k_52 : (Cond.selects RX10 yX10_newElement yX10_newElement) ∈ gT := gT_i 52 (by decide +kernel) rfl
theorem k_54 : (Cond.selects RX10 yX10_words yX10_words) ∈ gT := gT_i 54 (by decide +kernel) rfl
theorem k_1329 : (Cond.methodLink RX10 174 yX10_newElement) ∈ gT := gT_i 1329 (by decide +kernel) rfl
theorem k_1331 : (Cond.instanceMethod yX10_newElement) ∈ gT := gT_i 1331 (by decide +kernel) rfl
theorem k_1332 : (Cond.code yX10_newElement cX10_newElement 3 (some .int)) ∈ gT := gT_i 1332 (by decide +kernel) rfl
theorem k_1337 : (Cond.methodLink RX10 177 yX10_words) ∈ gT := gT_i 1337 (by decide +kernel) rfl
theorem k_1339 : (Cond.instanceMethod yX10_words) ∈ gT := gT_i 1339 (by decide +kernel) rfl
theorem k_1340 : (Cond.code yX10_words cX10_words 6 none) ∈ gT := gT_i 1340 (by decide +kernel) rfl
theorem dX10_read_101 : decode cX10_read 101 = .ok (.iload_n 3, 1) := by decide +kernel
theorem dX10_read_102 : decode cX10_read 102 = .ok (.aload_n 0, 1) := by decide +kernel
theorem dX10_read_103 : decode cX10_read 103 = .ok (.getfield 126, 3) := by decide +kernel
theorem dX10_read_106 : decode cX10_read 106 = .ok (.if_icmp .ge 57, 3) := by decide +kernel
theorem dX10_read_109 : decode cX10_read 109 = .ok (.aload_n 0, 1) := by decide +kernel
theorem dX10_read_110 : decode cX10_read 110 = .ok (.iload_n 3, 1) := by decide +kernel
theorem dX10_read_111 : decode cX10_read 111 = .ok (.invokevirtual 133, 3) := by decide +kernel
theorem dX10_read_114 : decode cX10_read 114 = .ok (.ifCond .ne 43, 3) := by decide +kernel
theorem dX10_read_157 : decode cX10_read 157 = .ok (.iinc 3 1, 3) := by decide +kernel
theorem dX10_read_160 : decode cX10_read 160 = .ok (.goto (-59), 3) := by decide +kernel
theorem dX10_read_117 : decode cX10_read 117 = .ok (.aload_n 0, 1) := by decide +kernel
theorem dX10_read_118 : decode cX10_read 118 = .ok (.iload_n 3, 1) := by decide +kernel
theorem dX10_read_119 : decode cX10_read 119 = .ok (.invokevirtual 167, 3) := by decide +kernel
theorem dX10_read_122 : decode cX10_read 122 = .ok (.ifCond .eq 7, 3) := by decide +kernel
theorem dX10_read_125 : decode cX10_read 125 = .ok (.iload_n 2, 1) := by decide +kernel
theorem dX10_read_126 : decode cX10_read 126 = .ok (.goto 13, 3) := by decide +kernel
theorem dX10_read_139 : decode cX10_read 139 = .ok (.istore_n 2, 1) := by decide +kernel
theorem dX10_read_140 : decode cX10_read 140 = .ok (.aload_n 0, 1) := by decide +kernel
theorem dX10_read_141 : decode cX10_read 141 = .ok (.iload_n 2, 1) := by decide +kernel
theorem dX10_read_142 : decode cX10_read 142 = .ok (.aload_n 0, 1) := by decide +kernel
theorem dX10_read_143 : decode cX10_read 143 = .ok (.getfield 62, 3) := by decide +kernel
theorem dX10_read_146 : decode cX10_read 146 = .ok (.iload_n 3, 1) := by decide +kernel
theorem dX10_read_147 : decode cX10_read 147 = .ok (.iaload, 1) := by decide +kernel
theorem dX10_read_148 : decode cX10_read 148 = .ok (.aload_n 0, 1) := by decide +kernel
theorem dX10_read_149 : decode cX10_read 149 = .ok (.getfield 65, 3) := by decide +kernel
theorem dX10_read_152 : decode cX10_read 152 = .ok (.iload_n 3, 1) := by decide +kernel
theorem dX10_read_153 : decode cX10_read 153 = .ok (.iaload, 1) := by decide +kernel
theorem dX10_read_154 : decode cX10_read 154 = .ok (.invokevirtual 177, 3) := by decide +kernel
theorem dX10_read_129 : decode cX10_read 129 = .ok (.aload_n 0, 1) := by decide +kernel
theorem dX10_read_130 : decode cX10_read 130 = .ok (.aload_n 0, 1) := by decide +kernel
theorem dX10_read_131 : decode cX10_read 131 = .ok (.getfield 68, 3) := by decide +kernel
theorem dX10_read_134 : decode cX10_read 134 = .ok (.iload_n 3, 1) := by decide +kernel
theorem dX10_read_135 : decode cX10_read 135 = .ok (.iaload, 1) := by decide +kernel
theorem dX10_read_136 : decode cX10_read 136 = .ok (.invokevirtual 174, 3) := by decide +kernel
theorem tx_st_of {F : Nat → Nat → Int32} {t w : Nat} {X : List Int32} {f8 f9 g : Nat → Int32} (h1 : f8 t = nI w) (h2 : f9 t = nI X.length) (h3 : ∀ i, i < X.length → g (1200 * t + i) = X.getD i 0) (e8 : F 8 = f8) (e9 : F 9 = f9) (e10 : F 10 = g) : tx_st F t w X (F 8) (F 9) (F 10) := by
  rw [e8, e9, e10]
  exact ⟨h1, h2, h3, fun j _ => ⟨by rw [e8], by rw [e9]⟩, fun j _ => by rw [e10]⟩
theorem tx_el_m {F : Nat → Nat → Int32} {f4 f5 f6 f7 f8 f9 f11 g f82 f92 g2 : Nat → Int32} {x : Int32 × Nat × List Int32} {tl : List (Int32 × Nat × List Int32)} {w2 : Nat} {X2 : List Int32} (hel : tx_el f4 f5 f6 f7 f8 f9 f11 g (x :: tl)) (h : tx_st F tl.length w2 X2 f82 f92 g2) (hb : ∀ y, y ∈ tl → y.2.2.length ≤ 1200) (e8 : F 8 = f8) (e9 : F 9 = f9) (e10 : F 10 = g) : tx_el f4 f5 f6 f7 f82 f92 f11 g2 ((x.1, w2, X2) :: tl) := by
  obtain ⟨⟨a1, a2, a3, a4, a5, a6, a7, a8⟩, a9⟩ := hel
  refine ⟨⟨a1, a2, a3, a4, h.1, h.2.1, a7, h.2.2.1⟩, tx_el_c hb (fun j hj => ?_) (fun j hj => ?_) a9⟩
  · have := h.2.2.2.1 j (by omega)
    rw [e8, e9] at this
    exact ⟨rfl, rfl, rfl, rfl, this.1, this.2, rfl⟩
  · have := h.2.2.2.2 j (Or.inl hj)
    rw [e10] at this
    exact this
theorem tx_el_n {F : Nat → Nat → Int32} {f4 f5 f6 f7 f8 f9 f11 g f82 f92 g2 : Nat → Int32} {kx : Int32} {acc : List (Int32 × Nat × List Int32)} {w2 : Nat} {X2 : List Int32} (hel : tx_el f4 f5 f6 f7 f8 f9 f11 g acc) (h : tx_st F acc.length w2 X2 f82 f92 g2) (hb : ∀ y, y ∈ acc → y.2.2.length ≤ 1200) (e8 : F 8 = upd f8 acc.length 0) (e9 : F 9 = upd f9 acc.length 0) (e10 : F 10 = g) : tx_el (upd f4 acc.length (nI acc.length)) (upd f5 acc.length (vp_nar .boolean 1)) (upd f6 acc.length kx) (upd f7 acc.length (vp_nar .boolean 0)) f82 f92 (upd f11 acc.length 0) g2 ((kx, w2, X2) :: acc) := by
  refine ⟨⟨pk_us, pk_us, pk_us, pk_us, h.1, h.2.1, pk_us, h.2.2.1⟩, tx_el_c hb (fun j hj => ?_) (fun j hj => ?_) hel⟩
  · have := h.2.2.2.1 j (by omega)
    rw [e8, e9, pk_un (by omega), pk_un (by omega)] at this
    rw [pk_un (by omega), pk_un (by omega), pk_un (by omega), pk_un (by omega), pk_un (by omega)]
    exact ⟨rfl, rfl, rfl, rfl, this.1, this.2, rfl⟩
  · have := h.2.2.2.2 j (Or.inl hj)
    rw [e10] at this
    exact this
set_option maxHeartbeats 1000000 in
set_option maxRecDepth 100000 in
theorem lc_bld {p : Program} {l : Launch} {e : Env} {R : Room} {s : State} {m : MethodId} {args : Array Value} {below : List Frame} {meth : Method} {c : Code} {cells slots : Nat} {Q : State → Prop} {D : va_G} {A : Nat → Prop} {h0 : Nat} {q : Nat → Nat} {cB cI cZ : ClassId} {I : Nat → Int32} {F : Nat → Nat → Int32} {L : List (Nat × Nat)} {x1 : Int32} (hI21 : I 21 = nI L.length) (hL : ∀ j, j < L.length → F 22 j = nI (L.getD j (0, 0)).1 ∧ F 23 j = nI (L.getD j (0, 0)).2) (hok : tx_ok L) (h60 : tx_cnt (F 0) L L.length ≤ 60) (hord : ∀ i, i + 1 < L.length → (L.getD i (0, 0)).2 + 1 ≤ (L.getD (i + 1) (0, 0)).1) (h24 : ∀ i, i < L.length → ¬ tx_free L i → F 24 i = tx_k (F 0) L i) (hTb : ∀ i, vp_nar .byte (F 0 i) = F 0 i) (hRf : 3 ≤ R.frames) (hRl : 90 ≤ R.locals) (hRc : cells ≤ R.cells) (hRs : slots ≤ R.slots) (hA : ∀ q : Nat, s.heap.size ≤ q → A q) (hf : CallFix p m c cX10_read 4 s args gT yX10_read.cls) (hK : va_K D vcl (mT cB cI cZ) s) :
    ∀ (k : Nat) (j : Nat) (sv : Nat) (acc : List (Int32 × Nat × List Int32)) (f4 : Nat → Int32) (f5 : Nat → Int32) (f6 : Nat → Int32) (f7 : Nat → Int32) (f8 : Nat → Int32) (f9 : Nat → Int32) (f11 : Nat → Int32) (g : Nat → Int32) (H : Heap) (locs : List Loc) (ls : Array Slot), j + k = L.length → acc = tx_acc (F 0) L j → (sv < 60 ∧ (0 < acc.length → sv + 1 = acc.length)) → tx_el f4 f5 f6 f7 f8 f9 f11 g acc → (∀ i, acc.length ≤ i → i < 60 → f5 i = 0) → (∀ x, x ∈ acc → x.2.2.length ≤ 1200) → (∀ x tl, acc = x :: tl → 1 ≤ j ∧ x.2.2.length ≤ (L.getD (j - 1) (0, 0)).2 ∧ x.2.1 ≤ x.2.2.length) →  va_P D vcl (mW h0 q cB cI cZ (upd I 3 (nI (acc.length))) (va_up (va_up (va_up (va_up (va_up (va_up (va_up (va_up F 4 f4) 5 f5) 6 f6) 7 f7) 8 f8) 9 f9) 10 g) 11 f11)) H → va_D A (mW h0 q cB cI cZ (upd I 3 (nI (acc.length))) (va_up (va_up (va_up (va_up (va_up (va_up (va_up (va_up F 4 f4) 5 f5) 6 f6) 7 f7) 8 f8) 9 f9) 10 g) 11 f11)) → va_S A s.heap H locs → lv_has ls 4 [(3, .int (nI j)), (2, .int (nI sv)), (1, .int x1), (0, .ref h0)] →
    (∀ (ac : List (Int32 × Nat × List Int32)) (kf4 : Nat → Int32) (kf5 : Nat → Int32) (kf6 : Nat → Int32) (kf7 : Nat → Int32) (kf8 : Nat → Int32) (kf9 : Nat → Int32) (kf11 : Nat → Int32) (kg : Nat → Int32) (H : Heap) (locs : List Loc) (ls : Array Slot), ac = tx_acc (F 0) L L.length → tx_el kf4 kf5 kf6 kf7 kf8 kf9 kf11 kg ac → (∀ x, x ∈ ac → x.2.2.length ≤ 1200) → (∀ i, ac.length ≤ i → i < 60 → kf5 i = 0) → va_P D vcl (mW h0 q cB cI cZ (upd I 3 (nI (ac.length))) (va_up (va_up (va_up (va_up (va_up (va_up (va_up (va_up F 4 kf4) 5 kf5) 6 kf6) 7 kf7) 8 kf8) 9 kf9) 10 kg) 11 kf11)) H → va_D A (mW h0 q cB cI cZ (upd I 3 (nI (ac.length))) (va_up (va_up (va_up (va_up (va_up (va_up (va_up (va_up F 4 kf4) 5 kf5) 6 kf6) 7 kf7) 8 kf8) 9 kf9) 10 kg) 11 kf11)) → va_S A s.heap H locs → lv_has ls 4 [(0, .ref h0)] → W p l e R s m args below meth c H locs cells slots Q (F0 m 163 ls [])) →
    W p l e R s m args below meth c H locs cells slots Q (F0 m 101 ls []) := by
  obtain ⟨hx, hb, hml, hown, hts⟩ := id hf
  have hok1 := hok.1
  intro k
  induction k with
  | zero =>
    intro j sv acc f4 f5 f6 f7 f8 f9 f11 g H locs ls hik hacc hsv hel hun hbx hhd hP hD hS hl kk
    refine lv_iload_n hx hb dX10_read_101 rfl (lv_at hl 0 rfl) ?_
    refine lv_aload_n hx hb dX10_read_102 rfl (lv_at hl 3 rfl) ?_
    refine va_get (D := D) (ci := 11) (v := .int (I 21)) (C := RX10) (T := TX10) (N := 48) hx hb hts inX10 hown hK hP 0 rfl rfl 21 (by decide) (hts _ k_1165) (fun _ h9 => h9) rfl dX10_read_103 ?_
    refine q_seti (y := (nI (L.length))) hI21 ?_
    refine lv_icmp_ge (tgt := 163) hx hb dX10_read_106 (by decide) (fun c_1 => ?_) (fun c_1 => ?_)
    · have c_1 := q_le (a := L.length) (b := j) (by omega) (by omega) c_1
      obtain rfl : j = L.length := by omega
      exact kk acc f4 f5 f6 f7 f8 f9 f11 g H locs ls hacc hel hbx hun hP hD hS (lv_sub hl (l' := [(0, .ref h0)]) [3] rfl)
    · have c_1 := q_nle (a := L.length) (b := j) (by omega) (by omega) c_1
      exact absurd hik (by omega)
  | succ k ih =>
    intro j sv acc f4 f5 f6 f7 f8 f9 f11 g H locs ls hik hacc hsv hel hun hbx hhd hP hD hS hl kk
    refine lv_iload_n hx hb dX10_read_101 rfl (lv_at hl 0 rfl) ?_
    refine lv_aload_n hx hb dX10_read_102 rfl (lv_at hl 3 rfl) ?_
    refine va_get (D := D) (ci := 11) (v := .int (I 21)) (C := RX10) (T := TX10) (N := 48) hx hb hts inX10 hown hK hP 0 rfl rfl 21 (by decide) (hts _ k_1165) (fun _ h9 => h9) rfl dX10_read_103 ?_
    refine q_seti (y := (nI (L.length))) hI21 ?_
    refine lv_icmp_ge (tgt := 163) hx hb dX10_read_106 (by decide) (fun c_1 => ?_) (fun c_1 => ?_)
    · have c_1 := q_le (a := L.length) (b := j) (by omega) (by omega) c_1
      exact absurd hik (by omega)
    · have c_1 := q_nle (a := L.length) (b := j) (by omega) (by omega) c_1
      refine lv_aload_n hx hb dX10_read_109 rfl (lv_at hl 3 rfl) ?_
      refine lv_iload_n hx hb dX10_read_110 rfl (lv_at hl 0 rfl) ?_
      refine q_ci (k := cells) (n := slots) hK hP hD hS hA (fun hPc hKc hDc => q_rV (As := [.int (nI j)]) (rest := []) hf (r_isFree _ D h0 q cB cI cZ (upd I 3 (nI (acc.length))) (va_up (va_up (va_up (va_up (va_up (va_up (va_up (va_up F 4 f4) 5 f5) 6 f6) 7 f7) 8 f8) 9 f9) 10 g) 11 f11) L j hI21 hL hok (by omega) _) k_1312 k_1309 k_1311 k_47 k_98 (nA := 1) (by decide +kernel) ⟨Nat.le_trans (by decide) hRf, Nat.le_trans (by decide) hRl⟩ hK hP (ci := 11) (q0 := 0) rfl rfl rfl hPc hKc hDc (fun _ _ _ _ h => h) (fun _ _ _ => trivial) rfl hl.1 rfl (Nat.le_of_ble_eq_true rfl) dX10_read_111 ⟨hRc, hRs⟩) (Nat.le_refl _) (Nat.le_refl _) (fun r u H locs hw hK hP hD hS => ?_)
      rcases hw with ⟨⟨c_2, rfl⟩ | ⟨c_2, rfl⟩, rfl⟩
      · have hP : va_P D vcl (mW h0 q cB cI cZ (upd I 3 (nI (acc.length))) (va_up (va_up (va_up (va_up (va_up (va_up (va_up (va_up F 4 f4) 5 f5) 6 f6) 7 f7) 8 f8) 9 f9) 10 g) 11 f11)) H := hP
        have hD : va_D A (mW h0 q cB cI cZ (upd I 3 (nI (acc.length))) (va_up (va_up (va_up (va_up (va_up (va_up (va_up (va_up F 4 f4) 5 f5) 6 f6) 7 f7) 8 f8) 9 f9) 10 g) 11 f11)) := hD
        refine lv_if_ne (tgt := 157) hx hb dX10_read_114 (by decide) (fun _ => ?_) (fun hno => absurd hno (by decide))
        refine lv_iinc (v := (nI (j + 1))) (lv' := [(3, .int (nI (j + 1))), (2, .int (nI sv)), (1, .int x1), (0, .ref h0)]) hx hb dX10_read_157 hl (k := 0) rfl (nI_add j 1) (by decide) rfl (fun ls hl => ?_)
        refine lv_goto (tgt := 101) hx hb dX10_read_160 (by decide) ?_
        have hb1 := hok.2 j (by omega)
        refine ih (j + 1) sv acc f4 f5 f6 f7 f8 f9 f11 g H locs ls (by omega) (hacc.trans (tx_acc_f c_2).symm) hsv hel hun hbx (fun x tl hxt => ?_) hP hD hS (lv_sub hl (l' := [(3, .int (nI (j + 1))), (2, .int (nI sv)), (1, .int x1), (0, .ref h0)]) [0, 1, 2, 3] rfl) kk
        have hh := hhd x tl hxt
        have ho := hord (j - 1) (by omega)
        rw [show j - 1 + 1 = j by omega] at ho
        exact ⟨by omega, by show _ ≤ (L.getD j (0, 0)).2; omega, hh.2.2⟩
      · have hP : va_P D vcl (mW h0 q cB cI cZ (upd I 3 (nI (acc.length))) (va_up (va_up (va_up (va_up (va_up (va_up (va_up (va_up F 4 f4) 5 f5) 6 f6) 7 f7) 8 f8) 9 f9) 10 g) 11 f11)) H := hP
        have hD : va_D A (mW h0 q cB cI cZ (upd I 3 (nI (acc.length))) (va_up (va_up (va_up (va_up (va_up (va_up (va_up (va_up F 4 f4) 5 f5) 6 f6) 7 f7) 8 f8) 9 f9) 10 g) 11 f11)) := hD
        refine lv_if_ne (tgt := 157) hx hb dX10_read_114 (by decide) (fun hno => absurd hno (by decide)) (fun _ => ?_)
        refine lv_aload_n hx hb dX10_read_117 rfl (lv_at hl 3 rfl) ?_
        refine lv_iload_n hx hb dX10_read_118 rfl (lv_at hl 0 rfl) ?_
        have h24m : ∀ i, i < j + 1 → ¬ tx_free L i → F 24 i = tx_k (F 0) L i := fun i hi hn => h24 i (by omega) hn
        refine q_ci (k := cells) (n := slots) hK hP hD hS hA (fun hPc hKc hDc => q_rV (As := [.int (nI j)]) (rest := []) hf (r_more _ D h0 q cB cI cZ (upd I 3 (nI (acc.length))) (va_up (va_up (va_up (va_up (va_up (va_up (va_up (va_up F 4 f4) 5 f5) 6 f6) 7 f7) 8 f8) 9 f9) 10 g) 11 f11) L j hI21 hL hok (by omega) c_2 h24m _) k_1328 k_1325 k_1327 k_51 k_98 (nA := 1) (by decide +kernel) ⟨Nat.le_trans (by decide) hRf, Nat.le_trans (by decide) hRl⟩ hK hP (ci := 11) (q0 := 0) rfl rfl rfl hPc hKc hDc (fun _ _ _ _ h => h) (fun _ _ _ => trivial) rfl hl.1 rfl (Nat.le_of_ble_eq_true rfl) dX10_read_119 ⟨hRc, hRs⟩) (Nat.le_refl _) (Nat.le_refl _) (fun r u H locs hw hK hP hD hS => ?_)
        rcases hw with ⟨⟨c_3, rfl⟩ | ⟨c_3, rfl⟩, rfl⟩
        · have hP : va_P D vcl (mW h0 q cB cI cZ (upd I 3 (nI (acc.length))) (va_up (va_up (va_up (va_up (va_up (va_up (va_up (va_up F 4 f4) 5 f5) 6 f6) 7 f7) 8 f8) 9 f9) 10 g) 11 f11)) H := hP
          have hD : va_D A (mW h0 q cB cI cZ (upd I 3 (nI (acc.length))) (va_up (va_up (va_up (va_up (va_up (va_up (va_up (va_up F 4 f4) 5 f5) 6 f6) 7 f7) 8 f8) 9 f9) 10 g) 11 f11)) := hD
          refine lv_if_eq (tgt := 129) hx hb dX10_read_122 (by decide) (fun hno => absurd hno (by decide)) (fun _ => ?_)
          refine lv_iload_n hx hb dX10_read_125 rfl (lv_at hl 1 rfl) ?_
          refine lv_goto (tgt := 139) hx hb dX10_read_126 (by decide) ?_
          refine lv_istore_n (lv' := [(2, .int (nI sv)), (3, .int (nI j)), (1, .int x1), (0, .ref h0)]) hx hb dX10_read_139 rfl hl (by decide) rfl (fun ls hl => ?_)
          refine lv_aload_n hx hb dX10_read_140 rfl (lv_at hl 3 rfl) ?_
          refine lv_iload_n hx hb dX10_read_141 rfl (lv_at hl 0 rfl) ?_
          refine lv_aload_n hx hb dX10_read_142 rfl (lv_at hl 3 rfl) ?_
          refine va_get (D := D) (ci := 11) (v := .ref (q 22)) (C := RX10) (T := TX10) (N := 48) hx hb hts inX10 hown hK hP 0 rfl rfl 22 (by decide) (hts _ k_1166) (fun _ h9 => h9) rfl dX10_read_143 ?_
          refine lv_iload_n hx hb dX10_read_146 rfl (lv_at hl 1 rfl) ?_
          refine q_ild (X := j) (f := (F 22)) hx hb hK hP 16 1 rfl rfl (by omega) (by decide) dX10_read_147 ?_
          refine q_seti (y := (nI ((L.getD j (0, 0)).1))) (hL j (by omega)).1 ?_
          refine lv_aload_n hx hb dX10_read_148 rfl (lv_at hl 3 rfl) ?_
          refine va_get (D := D) (ci := 11) (v := .ref (q 23)) (C := RX10) (T := TX10) (N := 48) hx hb hts inX10 hown hK hP 0 rfl rfl 23 (by decide) (hts _ k_1167) (fun _ h9 => h9) rfl dX10_read_149 ?_
          refine lv_iload_n hx hb dX10_read_152 rfl (lv_at hl 1 rfl) ?_
          refine q_ild (X := j) (f := (F 23)) hx hb hK hP 17 1 rfl rfl (by omega) (by decide) dX10_read_153 ?_
          refine q_seti (y := (nI ((L.getD j (0, 0)).2))) (hL j (by omega)).2 ?_
          have hb1 := hok.2 j (by omega)
          have hj1 := c_3.1
          have hpos : 0 < acc.length := by
            have z1 := tx_acc_ne (F 0) L (j - 1) c_3.2.1
            rw [show j - 1 + 1 = j by omega, ← hacc] at z1
            exact z1
          obtain ⟨x, tl, hxt⟩ : ∃ x tl, acc = x :: tl := by
            cases acc with
            | nil => exact absurd hpos (Nat.lt_irrefl 0)
            | cons x tl => exact ⟨x, tl, rfl⟩
          have hlen : acc.length = tl.length + 1 := by rw [hxt]; rfl
          have hsv2 : sv = tl.length := by have := hsv.2 hpos; omega
          have hel2 := hel
          rw [hxt] at hel2
          have hh := hhd x tl hxt
          have ho := hord (j - 1) (by omega)
          rw [show j - 1 + 1 = j by omega] at ho
          refine q_cv (k := cells) (n := slots) hK hP hD hS hA (fun hPc hKc hDc => q_rV (As := [.int (nI sv), .int (nI ((L.getD j (0, 0)).1)), .int (nI ((L.getD j (0, 0)).2))]) (rest := []) hf (r_words _ D h0 q cB cI cZ (upd I 3 (nI (acc.length))) (va_up (va_up (va_up (va_up (va_up (va_up (va_up (va_up F 4 f4) 5 f5) 6 f6) 7 f7) 8 f8) 9 f9) 10 g) 11 f11) sv ((L.getD j (0, 0)).2) ((L.getD j (0, 0)).2 - (L.getD j (0, 0)).1) ((L.getD j (0, 0)).1) x.2.1 x.2.2 hsv.1 (by omega) (fun i _ => hTb i) (by omega) (by omega) (by omega) (fun _ _ _ => by omega) (tx_st_of (f8 := f8) (f9 := f9) (g := g) (by rw [hsv2]; exact hel2.1.2.2.2.2.1) (by rw [hsv2]; exact hel2.1.2.2.2.2.2.1) (by rw [hsv2]; exact hel2.1.2.2.2.2.2.2.2) rfl rfl rfl) _) k_1340 k_1337 k_1339 k_54 k_98 (nA := 3) (by decide +kernel) ⟨Nat.le_trans (by decide) hRf, Nat.le_trans (by decide) hRl⟩ hK hP (ci := 11) (q0 := 0) rfl rfl rfl hPc hKc hDc (fun _ _ _ _ h => h) (fun _ _ _ => trivial) rfl hl.1 rfl (Nat.le_of_ble_eq_true rfl) dX10_read_154 ⟨hRc, hRs⟩) (Nat.le_refl _) (Nat.le_refl _) (fun u H locs hw hK hP hD hS => ?_)
          obtain ⟨w2, X2, f82, f92, g2, a1, a6, rfl⟩ := hw
          have hP : va_P D vcl (mW h0 q cB cI cZ (upd I 3 (nI (acc.length))) (va_up (va_up (va_up (va_up (va_up (va_up (va_up (va_up F 4 f4) 5 f5) 6 f6) 7 f7) 8 f82) 9 f92) 10 g2) 11 f11)) H := hP
          have hD : va_D A (mW h0 q cB cI cZ (upd I 3 (nI (acc.length))) (va_up (va_up (va_up (va_up (va_up (va_up (va_up (va_up F 4 f4) 5 f5) 6 f6) 7 f7) 8 f82) 9 f92) 10 g2) 11 f11)) := hD
          refine lv_iinc (v := (nI (j + 1))) (lv' := [(3, .int (nI (j + 1))), (2, .int (nI sv)), (1, .int x1), (0, .ref h0)]) hx hb dX10_read_157 hl (k := 1) rfl (nI_add j 1) (by decide) rfl (fun ls hl => ?_)
          refine lv_goto (tgt := 101) hx hb dX10_read_160 (by decide) ?_
          have a1 : (w2, X2) = tx_sc (F 0) ((L.getD j (0, 0)).2 - (L.getD j (0, 0)).1) (L.getD j (0, 0)).1 0 x.2.1 x.2.2 := a1
          have hacc2 : (x.1, w2, X2) :: tl = tx_acc (F 0) L (j + 1) := by rw [tx_acc_m (T := F 0) c_2 c_3, ← hacc, hxt]; show _ = (x.1, tx_sc (F 0) ((L.getD j (0, 0)).2 - (L.getD j (0, 0)).1) (L.getD j (0, 0)).1 0 x.2.1 x.2.2) :: tl; rw [← a1]
          have hsl := tx_sc_len1 (F 0) ((L.getD j (0, 0)).2 - (L.getD j (0, 0)).1) (L.getD j (0, 0)).1 x.2.1 x.2.2 hh.2.2
          have a1 : (w2, X2) = tx_sc (F 0) ((L.getD j (0, 0)).2 - (L.getD j (0, 0)).1) (L.getD j (0, 0)).1 0 x.2.1 x.2.2 := a1
          rw [← a1] at hsl
          have hX2 : w2 ≤ X2.length ∧ X2.length ≤ x.2.2.length + ((L.getD j (0, 0)).2 - (L.getD j (0, 0)).1) + 1 := hsl
          rw [hsv2] at a6
          have hel3 := tx_el_m hel2 a6 (fun y hy => hbx y (by rw [hxt]; exact List.mem_cons_of_mem _ hy)) rfl rfl rfl
          have hl3 : ((x.1, w2, X2) :: tl).length = acc.length := by rw [hlen]; rfl
          rw [← hl3] at hP hD
          exact ih (j + 1) sv ((x.1, w2, X2) :: tl) f4 f5 f6 f7 f82 f92 f11 g2 H locs ls (by omega) hacc2 (by rw [hl3]; exact hsv) hel3 (by rw [hl3]; exact hun) (fun y hy => by rcases List.mem_cons.mp hy with hy | hy; (rw [hy]; show X2.length ≤ 1200; omega); exact hbx y (by rw [hxt]; exact List.mem_cons_of_mem _ hy)) (fun y t2 hy => by cases hy; exact ⟨by omega, by show X2.length ≤ (L.getD j (0, 0)).2; omega, hX2.1⟩) hP hD hS (lv_sub hl (l' := [(3, .int (nI (j + 1))), (2, .int (nI sv)), (1, .int x1), (0, .ref h0)]) [0, 1, 2, 3] rfl) kk
        · have hP : va_P D vcl (mW h0 q cB cI cZ (upd I 3 (nI (acc.length))) (va_up (va_up (va_up (va_up (va_up (va_up (va_up (va_up F 4 f4) 5 f5) 6 f6) 7 f7) 8 f8) 9 f9) 10 g) 11 f11)) H := hP
          have hD : va_D A (mW h0 q cB cI cZ (upd I 3 (nI (acc.length))) (va_up (va_up (va_up (va_up (va_up (va_up (va_up (va_up F 4 f4) 5 f5) 6 f6) 7 f7) 8 f8) 9 f9) 10 g) 11 f11)) := hD
          refine lv_if_eq (tgt := 129) hx hb dX10_read_122 (by decide) (fun _ => ?_) (fun hno => absurd hno (by decide))
          refine lv_aload_n hx hb dX10_read_129 rfl (lv_at hl 3 rfl) ?_
          refine lv_aload_n hx hb dX10_read_130 rfl (lv_at hl 3 rfl) ?_
          refine va_get (D := D) (ci := 11) (v := .ref (q 24)) (C := RX10) (T := TX10) (N := 48) hx hb hts inX10 hown hK hP 0 rfl rfl 24 (by decide) (hts _ k_1168) (fun _ h9 => h9) rfl dX10_read_131 ?_
          refine lv_iload_n hx hb dX10_read_134 rfl (lv_at hl 0 rfl) ?_
          refine q_ild (X := j) (f := (F 24)) hx hb hK hP 18 1 rfl rfl (by omega) (by decide) dX10_read_135 ?_
          refine q_seti (y := (tx_k (F 0) L j)) (h24 j (by omega) c_2) ?_
          have hn60 : acc.length < 60 := by
            have z1 := tx_cnt_y (T := F 0) c_2 c_3
            have z2 := tx_cnt_mono (F 0) L (L.length - (j + 1)) (j + 1)
            rw [show j + 1 + (L.length - (j + 1)) = L.length by omega] at z2
            have z3 := tx_acc_len (F 0) L j
            rw [← hacc] at z3
            omega
          refine q_ci (k := cells) (n := slots) hK hP hD hS hA (fun hPc hKc hDc => q_rV (As := [.int (tx_k (F 0) L j)]) (rest := []) hf (r_newElement _ D h0 q cB cI cZ (upd I 3 (nI (acc.length))) (va_up (va_up (va_up (va_up (va_up (va_up (va_up (va_up F 4 f4) 5 f5) 6 f6) 7 f7) 8 f8) 9 f9) 10 g) 11 f11) acc.length acc.length (tx_k (F 0) L j) hn60 (hun _ (Nat.le_refl _) hn60) rfl hn60 _) k_1332 k_1329 k_1331 k_52 k_98 (nA := 1) (by decide +kernel) ⟨Nat.le_trans (by decide) hRf, Nat.le_trans (by decide) hRl⟩ hK hP (ci := 11) (q0 := 0) rfl rfl rfl hPc hKc hDc (fun _ _ _ _ h => h) (fun _ _ _ => trivial) rfl hl.1 rfl (Nat.le_of_ble_eq_true rfl) dX10_read_136 ⟨hRc, hRs⟩) (Nat.le_refl _) (Nat.le_refl _) (fun r u H locs hw hK hP hD hS => ?_)
          obtain ⟨t, rfl, ⟨h1, h2, h3⟩, rfl⟩ := hw
          obtain rfl : t = acc.length := by
            rcases Nat.lt_or_ge t acc.length with h9 | h9
            · exact absurd ((tx_el_5 hel t h9).symm.trans h3) (by decide)
            · omega
          have hP : va_P D vcl (mW h0 q cB cI cZ (upd I 3 (nI (acc.length + 1))) (va_up (va_up (va_up (va_up (va_up (va_up (va_up (va_up F 4 (upd f4 acc.length (nI acc.length))) 5 (upd f5 acc.length (vp_nar .boolean 1))) 6 (upd f6 acc.length (tx_k (F 0) L j))) 7 (upd f7 acc.length (vp_nar .boolean 0))) 8 (upd f8 acc.length 0)) 9 (upd f9 acc.length 0)) 10 g) 11 (upd f11 acc.length 0))) H := hP
          have hD : va_D A (mW h0 q cB cI cZ (upd I 3 (nI (acc.length + 1))) (va_up (va_up (va_up (va_up (va_up (va_up (va_up (va_up F 4 (upd f4 acc.length (nI acc.length))) 5 (upd f5 acc.length (vp_nar .boolean 1))) 6 (upd f6 acc.length (tx_k (F 0) L j))) 7 (upd f7 acc.length (vp_nar .boolean 0))) 8 (upd f8 acc.length 0)) 9 (upd f9 acc.length 0)) 10 g) 11 (upd f11 acc.length 0))) := hD
          refine lv_istore_n (lv' := [(2, .int (nI (acc.length))), (3, .int (nI j)), (1, .int x1), (0, .ref h0)]) hx hb dX10_read_139 rfl hl (by decide) rfl (fun ls hl => ?_)
          refine lv_aload_n hx hb dX10_read_140 rfl (lv_at hl 3 rfl) ?_
          refine lv_iload_n hx hb dX10_read_141 rfl (lv_at hl 0 rfl) ?_
          refine lv_aload_n hx hb dX10_read_142 rfl (lv_at hl 3 rfl) ?_
          refine va_get (D := D) (ci := 11) (v := .ref (q 22)) (C := RX10) (T := TX10) (N := 48) hx hb hts inX10 hown hK hP 0 rfl rfl 22 (by decide) (hts _ k_1166) (fun _ h9 => h9) rfl dX10_read_143 ?_
          refine lv_iload_n hx hb dX10_read_146 rfl (lv_at hl 1 rfl) ?_
          refine q_ild (X := j) (f := (F 22)) hx hb hK hP 16 1 rfl rfl (by omega) (by decide) dX10_read_147 ?_
          refine q_seti (y := (nI ((L.getD j (0, 0)).1))) (hL j (by omega)).1 ?_
          refine lv_aload_n hx hb dX10_read_148 rfl (lv_at hl 3 rfl) ?_
          refine va_get (D := D) (ci := 11) (v := .ref (q 23)) (C := RX10) (T := TX10) (N := 48) hx hb hts inX10 hown hK hP 0 rfl rfl 23 (by decide) (hts _ k_1167) (fun _ h9 => h9) rfl dX10_read_149 ?_
          refine lv_iload_n hx hb dX10_read_152 rfl (lv_at hl 1 rfl) ?_
          refine q_ild (X := j) (f := (F 23)) hx hb hK hP 17 1 rfl rfl (by omega) (by decide) dX10_read_153 ?_
          refine q_seti (y := (nI ((L.getD j (0, 0)).2))) (hL j (by omega)).2 ?_
          have hb1 := hok.2 j (by omega)
          refine q_cv (k := cells) (n := slots) hK hP hD hS hA (fun hPc hKc hDc => q_rV (As := [.int (nI (acc.length)), .int (nI ((L.getD j (0, 0)).1)), .int (nI ((L.getD j (0, 0)).2))]) (rest := []) hf (r_words _ D h0 q cB cI cZ (upd I 3 (nI (acc.length + 1))) (va_up (va_up (va_up (va_up (va_up (va_up (va_up (va_up F 4 (upd f4 acc.length (nI acc.length))) 5 (upd f5 acc.length (vp_nar .boolean 1))) 6 (upd f6 acc.length (tx_k (F 0) L j))) 7 (upd f7 acc.length (vp_nar .boolean 0))) 8 (upd f8 acc.length 0)) 9 (upd f9 acc.length 0)) 10 g) 11 (upd f11 acc.length 0)) acc.length ((L.getD j (0, 0)).2) ((L.getD j (0, 0)).2 - (L.getD j (0, 0)).1) ((L.getD j (0, 0)).1) 0 [] hn60 (by omega) (fun i _ => hTb i) (by omega) (by show 0 + _ ≤ 1200; omega) (by omega) (fun z => absurd z (Nat.lt_irrefl 0)) (tx_st_of (f8 := upd f8 acc.length 0) (f9 := upd f9 acc.length 0) (g := g) pk_us pk_us (fun i hi => absurd hi (Nat.not_lt_zero i)) rfl rfl rfl) _) k_1340 k_1337 k_1339 k_54 k_98 (nA := 3) (by decide +kernel) ⟨Nat.le_trans (by decide) hRf, Nat.le_trans (by decide) hRl⟩ hK hP (ci := 11) (q0 := 0) rfl rfl rfl hPc hKc hDc (fun _ _ _ _ h => h) (fun _ _ _ => trivial) rfl hl.1 rfl (Nat.le_of_ble_eq_true rfl) dX10_read_154 ⟨hRc, hRs⟩) (Nat.le_refl _) (Nat.le_refl _) (fun u H locs hw hK hP hD hS => ?_)
          obtain ⟨w2, X2, f82, f92, g2, a1, a6, rfl⟩ := hw
          have hP : va_P D vcl (mW h0 q cB cI cZ (upd I 3 (nI (acc.length + 1))) (va_up (va_up (va_up (va_up (va_up (va_up (va_up (va_up F 4 (upd f4 acc.length (nI acc.length))) 5 (upd f5 acc.length (vp_nar .boolean 1))) 6 (upd f6 acc.length (tx_k (F 0) L j))) 7 (upd f7 acc.length (vp_nar .boolean 0))) 8 f82) 9 f92) 10 g2) 11 (upd f11 acc.length 0))) H := hP
          have hD : va_D A (mW h0 q cB cI cZ (upd I 3 (nI (acc.length + 1))) (va_up (va_up (va_up (va_up (va_up (va_up (va_up (va_up F 4 (upd f4 acc.length (nI acc.length))) 5 (upd f5 acc.length (vp_nar .boolean 1))) 6 (upd f6 acc.length (tx_k (F 0) L j))) 7 (upd f7 acc.length (vp_nar .boolean 0))) 8 f82) 9 f92) 10 g2) 11 (upd f11 acc.length 0))) := hD
          refine lv_iinc (v := (nI (j + 1))) (lv' := [(3, .int (nI (j + 1))), (2, .int (nI (acc.length))), (1, .int x1), (0, .ref h0)]) hx hb dX10_read_157 hl (k := 1) rfl (nI_add j 1) (by decide) rfl (fun ls hl => ?_)
          refine lv_goto (tgt := 101) hx hb dX10_read_160 (by decide) ?_
          have a1 : (w2, X2) = tx_sc (F 0) ((L.getD j (0, 0)).2 - (L.getD j (0, 0)).1) (L.getD j (0, 0)).1 0 0 [] := a1
          have hacc2 : (tx_k (F 0) L j, w2, X2) :: acc = tx_acc (F 0) L (j + 1) := by rw [tx_acc_n (T := F 0) c_2 c_3, ← hacc, ← a1]
          have hsl := tx_sc_len0 (F 0) ((L.getD j (0, 0)).2 - (L.getD j (0, 0)).1) (L.getD j (0, 0)).1
          have a1 : (w2, X2) = tx_sc (F 0) ((L.getD j (0, 0)).2 - (L.getD j (0, 0)).1) (L.getD j (0, 0)).1 0 0 [] := a1
          rw [← a1] at hsl
          have hX2 : w2 ≤ X2.length ∧ X2.length ≤ (L.getD j (0, 0)).2 - (L.getD j (0, 0)).1 := hsl
          have hel3 := tx_el_n (kx := tx_k (F 0) L j) hel a6 hbx rfl rfl rfl
          exact ih (j + 1) acc.length ((tx_k (F 0) L j, w2, X2) :: acc) _ _ _ _ f82 f92 _ g2 H locs ls (by omega) hacc2 ⟨hn60, fun _ => rfl⟩ hel3 (fun i h1 h2 => by have h1 : acc.length + 1 ≤ i := h1; rw [pk_un (by omega)]; exact hun i (by omega) h2) (fun y hy => by rcases List.mem_cons.mp hy with hy | hy; (rw [hy]; show X2.length ≤ 1200; omega); exact hbx y hy) (fun y t2 hy => by cases hy; exact ⟨by omega, by show X2.length ≤ (L.getD j (0, 0)).2; omega, hX2.1⟩) hP hD hS (lv_sub hl (l' := [(3, .int (nI (j + 1))), (2, .int (nI (acc.length))), (1, .int x1), (0, .ref h0)]) [0, 1, 2, 3] rfl) kk
