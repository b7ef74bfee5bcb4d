theorem k_46 : (Cond.selects RX10 yX10_findLines yX10_findLines) ∈ gT := gT_i 46 (by decide +kernel) rfl
theorem k_56 : (Cond.selects RX10 yX10_layRows yX10_layRows) ∈ gT := gT_i 56 (by decide +kernel) rfl
theorem k_58 : (Cond.selects RX10 yX10_wholePieces yX10_wholePieces) ∈ gT := gT_i 58 (by decide +kernel) rfl
theorem k_1164 : (Cond.fieldLink RX10 170 "ScriptDeskModel" "isLocked" "Z") ∈ gT := gT_i 1164 (by decide +kernel) rfl
theorem k_1305 : (Cond.methodLink RX10 161 yX10_findLines) ∈ gT := gT_i 1305 (by decide +kernel) rfl
theorem k_1307 : (Cond.instanceMethod yX10_findLines) ∈ gT := gT_i 1307 (by decide +kernel) rfl
theorem k_1308 : (Cond.code yX10_findLines cX10_findLines 5 none) ∈ gT := gT_i 1308 (by decide +kernel) rfl
theorem k_1345 : (Cond.methodLink RX10 181 yX10_layRows) ∈ gT := gT_i 1345 (by decide +kernel) rfl
theorem k_1347 : (Cond.instanceMethod yX10_layRows) ∈ gT := gT_i 1347 (by decide +kernel) rfl
theorem k_1348 : (Cond.code yX10_layRows cX10_layRows 5 none) ∈ gT := gT_i 1348 (by decide +kernel) rfl
theorem k_1356 : (Cond.methodLink RX10 185 yX10_wholePieces) ∈ gT := gT_i 1356 (by decide +kernel) rfl
theorem k_1358 : (Cond.instanceMethod yX10_wholePieces) ∈ gT := gT_i 1358 (by decide +kernel) rfl
theorem k_1359 : (Cond.code yX10_wholePieces cX10_wholePieces 2 none) ∈ gT := gT_i 1359 (by decide +kernel) rfl
theorem dX10_read_165 : decode cX10_read 165 = .ok (.iload_n 3, 1) := by decide +kernel
theorem dX10_read_166 : decode cX10_read 166 = .ok (.aload_n 0, 1) := by decide +kernel
theorem dX10_read_167 : decode cX10_read 167 = .ok (.getfield 144, 3) := by decide +kernel
theorem dX10_read_170 : decode cX10_read 170 = .ok (.if_icmp .ge 19, 3) := by decide +kernel
theorem dX10_read_173 : decode cX10_read 173 = .ok (.aload_n 0, 1) := by decide +kernel
theorem dX10_read_174 : decode cX10_read 174 = .ok (.aload_n 0, 1) := by decide +kernel
theorem dX10_read_175 : decode cX10_read 175 = .ok (.getfield 17, 3) := by decide +kernel
theorem dX10_read_178 : decode cX10_read 178 = .ok (.iload_n 3, 1) := by decide +kernel
theorem dX10_read_179 : decode cX10_read 179 = .ok (.iaload, 1) := by decide +kernel
theorem dX10_read_180 : decode cX10_read 180 = .ok (.invokevirtual 181, 3) := by decide +kernel
theorem dX10_read_183 : decode cX10_read 183 = .ok (.iinc 3 1, 3) := by decide +kernel
theorem dX10_read_186 : decode cX10_read 186 = .ok (.goto (-21), 3) := by decide +kernel
theorem dX10_read_0 : decode cX10_read 0 = .ok (.aload_n 0, 1) := by decide +kernel
theorem dX10_read_1 : decode cX10_read 1 = .ok (.invokevirtual 161, 3) := by decide +kernel
theorem dX10_read_4 : decode cX10_read 4 = .ok (.iconst 0, 1) := by decide +kernel
theorem dX10_read_5 : decode cX10_read 5 = .ok (.istore_n 1, 1) := by decide +kernel
theorem dX10_read_6 : decode cX10_read 6 = .ok (.iconst 0, 1) := by decide +kernel
theorem dX10_read_7 : decode cX10_read 7 = .ok (.istore_n 2, 1) := by decide +kernel
theorem dX10_read_57 : decode cX10_read 57 = .ok (.iload_n 1, 1) := by decide +kernel
theorem dX10_read_58 : decode cX10_read 58 = .ok (.bipush 60, 2) := by decide +kernel
theorem dX10_read_60 : decode cX10_read 60 = .ok (.if_icmp .le 6, 3) := by decide +kernel
theorem dX10_read_66 : decode cX10_read 66 = .ok (.iconst 0, 1) := by decide +kernel
theorem dX10_read_67 : decode cX10_read 67 = .ok (.istore_n 2, 1) := by decide +kernel
theorem dX10_read_87 : decode cX10_read 87 = .ok (.aload_n 0, 1) := by decide +kernel
theorem dX10_read_88 : decode cX10_read 88 = .ok (.iconst 0, 1) := by decide +kernel
theorem dX10_read_89 : decode cX10_read 89 = .ok (.putfield 144, 3) := by decide +kernel
theorem dX10_read_92 : decode cX10_read 92 = .ok (.aload_n 0, 1) := by decide +kernel
theorem dX10_read_93 : decode cX10_read 93 = .ok (.iconst 0, 1) := by decide +kernel
theorem dX10_read_94 : decode cX10_read 94 = .ok (.putfield 170, 3) := by decide +kernel
theorem dX10_read_97 : decode cX10_read 97 = .ok (.iconst 0, 1) := by decide +kernel
theorem dX10_read_98 : decode cX10_read 98 = .ok (.istore_n 2, 1) := by decide +kernel
theorem dX10_read_99 : decode cX10_read 99 = .ok (.iconst 0, 1) := by decide +kernel
theorem dX10_read_100 : decode cX10_read 100 = .ok (.istore_n 3, 1) := by decide +kernel
theorem dX10_read_163 : decode cX10_read 163 = .ok (.iconst 0, 1) := by decide +kernel
theorem dX10_read_164 : decode cX10_read 164 = .ok (.istore_n 3, 1) := by decide +kernel
theorem dX10_read_189 : decode cX10_read 189 = .ok (.aload_n 0, 1) := by decide +kernel
theorem dX10_read_190 : decode cX10_read 190 = .ok (.iconst 0, 1) := by decide +kernel
theorem dX10_read_191 : decode cX10_read 191 = .ok (.putfield 123, 3) := by decide +kernel
theorem dX10_read_194 : decode cX10_read 194 = .ok (.aload_n 0, 1) := by decide +kernel
theorem dX10_read_195 : decode cX10_read 195 = .ok (.invokevirtual 185, 3) := by decide +kernel
theorem dX10_read_198 : decode cX10_read 198 = .ok (.aload_n 0, 1) := by decide +kernel
theorem dX10_read_199 : decode cX10_read 199 = .ok (.getfield 144, 3) := by decide +kernel
theorem dX10_read_202 : decode cX10_read 202 = .ok (.ireturn, 1) := by decide +kernel
theorem dX10_read_63 : decode cX10_read 63 = .ok (.bipush (-4), 2) := by decide +kernel
theorem dX10_read_65 : decode cX10_read 65 = .ok (.ireturn, 1) := by decide +kernel
/-- what read leaves: the elements ac in the slots 0, 1, .., each as one piece; the tape empty, nothing locked -/
def rd_ok (I I2 : Nat → Int32) (F F2 : Nat → Nat → Int32) (ac : List (Int32 × Nat × List Int32)) : Prop :=
  (I2 1 = 0 ∧ I2 2 = I 2 ∧ I2 3 = nI ac.length ∧ I2 14 = nI ac.length ∧ I2 20 = 0) ∧ F2 0 = F 0 ∧ (∃ z : Nat → Int32, tx_el (F2 4) (F2 5) (F2 6) (F2 7) (F2 8) (F2 9) z (F2 10) ac) ∧ (∀ x, x ∈ ac → x.2.2.length ≤ 1200) ∧ (∀ i, ac.length ≤ i → i < 60 → F2 5 i = 0) ∧ tx_rws ac ac.length (F2 11) (F2 12) (F2 13) ∧
  (∀ i, i < ac.length → F2 15 i = nI i ∧ F2 16 i = 0 ∧ F2 17 i = nI (tx_rows (tx_at ac i).1 (tx_at ac i).2.2).length ∧ F2 18 i = 0)
def rd_no (I I2 : Nat → Int32) (F F2 : Nat → Nat → Int32) : Prop := (∀ k, k ≠ 21 → I2 k = I k) ∧ ∀ k, k ≠ 22 → k ≠ 23 → k ≠ 24 → F2 k = F k
set_option maxHeartbeats 1000000 in
set_option maxRecDepth 100000 in
theorem ld_rows {p : Program} {l : Launch} {e : Env} {R : Room} {s : State} {m : MethodId} {args : Array Value} {below : List Frame} {meth : Method} {c : Code} {cells slots : Nat} {Q : State → Prop} {D : va_G} {A : Nat → Prop} {h0 : Nat} {q : Nat → Nat} {cB cI cZ : ClassId} {I : Nat → Int32} {F : Nat → Nat → Int32} {ac : List (Int32 × Nat × List Int32)} (hI3 : I 3 = nI ac.length) (h60 : ac.length ≤ 60) (hel : tx_el (F 4) (F 5) (F 6) (F 7) (F 8) (F 9) (F 11) (F 10) ac) (hbx : ∀ x, x ∈ ac → x.2.2.length ≤ 1200) (hRf : 3 ≤ R.frames) (hRl : 90 ≤ R.locals) (hRc : cells ≤ R.cells) (hRs : slots ≤ R.slots) (hA : ∀ q : Nat, s.heap.size ≤ q → A q) (hf : CallFix p m c cX10_read 4 s args gT yX10_read.cls) (hK : va_K D vcl (mT cB cI cZ) s) :
    ∀ (k : Nat) (j : Nat) (f11 : Nat → Int32) (f12 : Nat → Int32) (f13 : Nat → Int32) (H : Heap) (locs : List Loc) (ls : Array Slot), j + k = ac.length → tx_rws ac j f11 f12 f13 → (∀ i, j ≤ i → i < ac.length → f11 i = 0) →  va_P D vcl (mW h0 q cB cI cZ I (va_up (va_up (va_up F 11 f11) 12 f12) 13 f13)) H → va_D A (mW h0 q cB cI cZ I (va_up (va_up (va_up F 11 f11) 12 f12) 13 f13)) → va_S A s.heap H locs → lv_has ls 4 [(3, .int (nI j)), (0, .ref h0)] →
    (∀ (g11 : Nat → Int32) (g12 : Nat → Int32) (g13 : Nat → Int32) (H : Heap) (locs : List Loc) (ls : Array Slot), tx_rws ac ac.length g11 g12 g13 → va_P D vcl (mW h0 q cB cI cZ I (va_up (va_up (va_up F 11 g11) 12 g12) 13 g13)) H → va_D A (mW h0 q cB cI cZ I (va_up (va_up (va_up F 11 g11) 12 g12) 13 g13)) → va_S A s.heap H locs → lv_has ls 4 [(0, .ref h0)] → W p l e R s m args below meth c H locs cells slots Q (F0 m 189 ls [])) →
    W p l e R s m args below meth c H locs cells slots Q (F0 m 165 ls []) := by
  obtain ⟨hx, hb, hml, hown, hts⟩ := id hf
  intro k
  induction k with
  | zero =>
    intro j f11 f12 f13 H locs ls hik hrw hz hP hD hS hl kk
    refine lv_iload_n hx hb dX10_read_165 rfl (lv_at hl 0 rfl) ?_
    refine lv_aload_n hx hb dX10_read_166 rfl (lv_at hl 1 rfl) ?_
    refine va_get (D := D) (ci := 11) (v := .int (I 3)) (C := RX10) (T := TX10) (N := 48) hx hb hts inX10 hown hK hP 0 rfl rfl 3 (by decide) (hts _ k_1147) (fun _ h9 => h9) rfl dX10_read_167 ?_
    refine q_seti (y := (nI (ac.length))) hI3 ?_
    refine lv_icmp_ge (tgt := 189) hx hb dX10_read_170 (by decide) (fun c_1 => ?_) (fun c_1 => ?_)
    · have c_1 := q_le (a := ac.length) (b := j) (by omega) (by omega) c_1
      obtain rfl : j = ac.length := by omega
      exact kk f11 f12 f13 H locs ls hrw hP hD hS (lv_sub hl (l' := [(0, .ref h0)]) [1] rfl)
    · have c_1 := q_nle (a := ac.length) (b := j) (by omega) (by omega) c_1
      exact absurd hik (by omega)
  | succ k ih =>
    intro j f11 f12 f13 H locs ls hik hrw hz hP hD hS hl kk
    refine lv_iload_n hx hb dX10_read_165 rfl (lv_at hl 0 rfl) ?_
    refine lv_aload_n hx hb dX10_read_166 rfl (lv_at hl 1 rfl) ?_
    refine va_get (D := D) (ci := 11) (v := .int (I 3)) (C := RX10) (T := TX10) (N := 48) hx hb hts inX10 hown hK hP 0 rfl rfl 3 (by decide) (hts _ k_1147) (fun _ h9 => h9) rfl dX10_read_167 ?_
    refine q_seti (y := (nI (ac.length))) hI3 ?_
    refine lv_icmp_ge (tgt := 189) hx hb dX10_read_170 (by decide) (fun c_1 => ?_) (fun c_1 => ?_)
    · have c_1 := q_le (a := ac.length) (b := j) (by omega) (by omega) c_1
      exact absurd hik (by omega)
    · have c_1 := q_nle (a := ac.length) (b := j) (by omega) (by omega) c_1
      have hat := tx_el_at hel j (by omega)
      refine lv_aload_n hx hb dX10_read_173 rfl (lv_at hl 1 rfl) ?_
      refine lv_aload_n hx hb dX10_read_174 rfl (lv_at hl 1 rfl) ?_
      refine va_get (D := D) (ci := 11) (v := .ref (q 4)) (C := RX10) (T := TX10) (N := 48) hx hb hts inX10 hown hK hP 0 rfl rfl 4 (by decide) (hts _ k_1148) (fun _ h9 => h9) rfl dX10_read_175 ?_
      refine lv_iload_n hx hb dX10_read_178 rfl (lv_at hl 0 rfl) ?_
      refine q_ild (X := j) (f := (F 4)) hx hb hK hP 2 1 rfl rfl (by omega) (by decide) dX10_read_179 ?_
      refine q_seti (y := (nI j)) hat.1 ?_
      refine q_cv (k := cells) (n := slots) hK hP hD hS hA (fun hPc hKc hDc => q_rV (As := [.int (nI j)]) (rest := []) hf (r_layRows _ D h0 q cB cI cZ I (va_up (va_up (va_up F 11 f11) 12 f12) 13 f13) j (tx_at ac j).2.2.length (tx_at ac j).1 (by omega) (hbx _ (tx_at_mem (by omega))) hat.2.2.2.2.2.1 hat.2.2.1 ⟨hz j (Nat.le_refl j) (by omega), trivial, fun _ _ => rfl, fun _ _ => ⟨rfl, rfl⟩⟩ _) k_1348 k_1345 k_1347 k_56 k_98 (nA := 1) (by decide +kernel) ⟨Nat.le_trans (by decide) hRf, Nat.le_trans (by decide) hRl⟩ hK hP (ci := 11) (q0 := 0) rfl rfl rfl hPc hKc hDc (fun _ _ _ _ h => h) (fun _ _ _ => trivial) rfl hl.1 rfl (Nat.le_of_ble_eq_true rfl) dX10_read_180 ⟨hRc, hRs⟩) (Nat.le_refl _) (Nat.le_refl _) (fun u H locs hw hK hP hD hS => ?_)
      obtain ⟨Rv2, j11, j12, j13, a1, a2, a5, rfl⟩ := hw
      have hP : va_P D vcl (mW h0 q cB cI cZ I (va_up (va_up (va_up F 11 j11) 12 j12) 13 j13)) H := hP
      have hD : va_D A (mW h0 q cB cI cZ I (va_up (va_up (va_up F 11 j11) 12 j12) 13 j13)) := hD
      refine lv_iinc (v := (nI (j + 1))) (lv' := [(3, .int (nI (j + 1))), (0, .ref h0)]) hx hb dX10_read_183 hl (k := 0) rfl (nI_add j 1) (by decide) rfl (fun ls hl => ?_)
      refine lv_goto (tgt := 165) hx hb dX10_read_186 (by decide) ?_
      have e9 : Rv2 = tx_rows (tx_at ac j).1 (tx_at ac j).2.2 := a1.trans (tx_lay_c (fun i hi => (hat.2.2.2.2.2.2.2 i hi).trans (by rw [Nat.zero_add])) _ _ _)
      exact ih (j + 1) j11 j12 j13 H locs ls (by omega) (tx_rws_s hrw (fun i hi => hbx _ (tx_at_mem (by omega))) a5 e9 a2 rfl rfl rfl) (fun i h1 h2 => (a5.2.2.1 i (by omega)).trans (hz i (by omega) h2)) hP hD hS (lv_sub hl (l' := [(3, .int (nI (j + 1))), (0, .ref h0)]) [0, 1] rfl) kk
set_option maxHeartbeats 1000000 in
set_option maxRecDepth 100000 in
theorem r_read (l : Launch) (D : va_G) (h0 : Nat) (q : Nat → Nat) (cB cI_ cZ : ClassId) (I : Nat → Int32) (F : Nat → Nat → Int32) (n : Nat) (hI1 : I 1 = nI n) (hn : n ≤ 1200) (hTb : ∀ i, vp_nar .byte (F 0 i) = F 0 i) : cI l D yX10_read cX10_read 4 (some .int) 3 90 0 0 [.ref h0] zT (mW h0 q cB cI_ cZ I F) (mT cB cI_ cZ) (fun r u => ∃ (L : List (Nat × Nat)) (I2 : Nat → Int32) (F2 : Nat → Nat → Int32), L = tx_ln (F 0) n (n + 1) 0 ∧ ((60 < tx_cnt (F 0) L L.length ∧ r = (-4) ∧ rd_no I I2 F F2) ∨ (tx_cnt (F 0) L L.length ≤ 60 ∧ r = nI (tx_acc (F 0) L L.length).length ∧ rd_ok I I2 F F2 (tx_acc (F 0) L L.length))) ∧ u = (mW h0 q cB cI_ cZ I2 F2, mT cB cI_ cZ)) := by
  refine q_si (by decide) (Nat.le_of_ble_eq_true rfl) ?_
  intro p e s m below meth c A ls hAe hf hr hlocks hin hK hP hD hS hA hZ hl
  obtain ⟨hx, hb, hml, hown, hts⟩ := id hf
  have hl : lv_has ls 4 [(0, .ref h0)] := hl
  refine lv_aload_n hx hb dX10_read_0 rfl (lv_at hl 0 rfl) ?_
  refine q_cv (k := 0) (n := 0) hK hP hD hS hA (fun hPc hKc hDc => q_rV (As := []) (rest := []) hf (r_findLines _ D h0 q cB cI_ cZ I F n hI1 hn _) k_1308 k_1305 k_1307 k_46 k_98 (nA := 0) (by decide +kernel) ⟨Nat.le_of_ble_eq_true rfl, Nat.le_of_ble_eq_true rfl⟩ hK hP (ci := 11) (q0 := 0) rfl rfl rfl hPc hKc hDc (fun _ _ _ _ h => h) (fun _ _ _ => trivial) rfl hl.1 rfl (Nat.le_of_ble_eq_true rfl) dX10_read_1 ⟨Nat.le_of_ble_eq_true rfl, Nat.le_of_ble_eq_true rfl⟩) (by decide) (by decide) (fun u H locs hw hK hP hD hS => ?_)
  obtain ⟨L, g22, g23, eL, hhi, rfl⟩ := hw
  have hP : va_P D vcl (mW h0 q cB cI_ cZ (upd I 21 (nI (L.length))) (va_up (va_up F 22 g22) 23 g23)) H := hP
  have hD : va_D A (mW h0 q cB cI_ cZ (upd I 21 (nI (L.length))) (va_up (va_up F 22 g22) 23 g23)) := hD
  have hL := tx_arr0 hhi
  have hok : tx_ok L := by rw [eL]; exact tx_ln_ok hn
  have hord := (tx_ln_ord (F 0) n (n + 1) 0).2
  rw [← eL] at hord
  have hok1 := hok.1
  refine lv_iconst (v := 0) hx hb dX10_read_4 (by decide) ?_
  refine lv_istore_n (lv' := [(1, .int 0), (0, .ref h0)]) hx hb dX10_read_5 rfl hl (by decide) rfl (fun ls hl => ?_)
  refine lv_iconst (v := 0) hx hb dX10_read_6 (by decide) ?_
  refine lv_istore_n (lv' := [(2, .int 0), (1, .int 0), (0, .ref h0)]) hx hb dX10_read_7 rfl hl (by decide) rfl (fun ls hl => ?_)
  refine la_cnt (I := (upd I 21 (nI (L.length)))) (F := (va_up (va_up F 22 g22) 23 g23)) (L := L) rfl hL hok (Nat.le_of_ble_eq_true rfl) (Nat.le_of_ble_eq_true rfl) (Nat.le_of_ble_eq_true rfl) (Nat.le_of_ble_eq_true rfl) hA hf hK L.length 0 0 (F 24) _ _ ls (by omega) rfl (fun i hi => absurd hi (Nat.not_lt_zero i)) hP hD hS (lv_sub hl (l' := [(2, .int 0), (1, .int 0), (0, .ref h0)]) [0, 1, 2] rfl) (fun c3 g24 H locs ls b1 b2 hP hD hS hl => ?_)
  have b1 : c3 = tx_cnt (F 0) L L.length := b1
  have b3 := tx_cnt_le (F 0) L L.length
  rw [← b1] at b3
  refine lv_iload_n hx hb dX10_read_57 rfl (lv_at hl 0 rfl) ?_
  refine lv_bipush (v := 60) hx hb dX10_read_58 (by decide) ?_
  refine lv_icmp_le (tgt := 66) hx hb dX10_read_60 (by decide) (fun c_1 => ?_) (fun c_1 => ?_)
  · have c_1 := q_le (a := c3) (b := 60) (by omega) (by omega) c_1
    refine lv_iconst (v := 0) hx hb dX10_read_66 (by decide) ?_
    refine lv_istore_n (lv' := [(2, .int 0), (1, .int (nI c3)), (0, .ref h0)]) hx hb dX10_read_67 rfl hl (by decide) rfl (fun ls hl => ?_)
    refine lu_use (I := (upd I 21 (nI (L.length)))) (F := (va_up (va_up (va_up F 22 g22) 23 g23) 24 g24)) (x1 := nI c3) (Nat.le_of_ble_eq_true rfl) (Nat.le_of_ble_eq_true rfl) (Nat.le_of_ble_eq_true rfl) (Nat.le_of_ble_eq_true rfl) hA hf hK 60 0 (F 5) _ _ ls (by omega) (fun i hi => absurd hi (Nat.not_lt_zero i)) hP hD hS (lv_sub hl (l' := [(2, .int 0), (1, .int (nI c3)), (0, .ref h0)]) [0, 1, 2] rfl) (fun g5 H locs ls b5 hP hD hS hl => ?_)
    refine lv_aload_n hx hb dX10_read_87 rfl (lv_at hl 1 rfl) ?_
    refine lv_iconst (v := 0) hx hb dX10_read_88 (by decide) ?_
    refine va_put (D := D) (ci := 11) (v := .int 0) (ty := .int) (C := RX10) (T := TX10) (N := 48) hx hb hts inX10 tyX10 tyX10_ok nmX10 hown hK hP hD hS 0 rfl rfl 3 (by decide) (hts _ k_1147) (fun _ h9 => h9) rfl (by decide +kernel) rfl rfl (Nat.le_of_ble_eq_true rfl) dX10_read_89 (fun H locs hP hD hS => ?_)
    have hP : va_P D vcl (mW h0 q cB cI_ cZ (upd (upd I 3 0) 21 (nI (L.length))) (va_up (va_up (va_up (va_up F 5 g5) 22 g22) 23 g23) 24 g24)) H := hP
    have hD : va_D A (mW h0 q cB cI_ cZ (upd (upd I 3 0) 21 (nI (L.length))) (va_up (va_up (va_up (va_up F 5 g5) 22 g22) 23 g23) 24 g24)) := hD
    refine lv_aload_n hx hb dX10_read_92 rfl (lv_at hl 1 rfl) ?_
    refine lv_iconst (v := 0) hx hb dX10_read_93 (by decide) ?_
    refine va_put (D := D) (ci := 11) (v := .int 0) (ty := .boolean) (C := RX10) (T := TX10) (N := 48) hx hb hts inX10 tyX10 tyX10_ok nmX10 hown hK hP hD hS 0 rfl rfl 20 (by decide) (hts _ k_1164) (fun _ h9 => h9) rfl (by decide +kernel) rfl rfl (Nat.le_of_ble_eq_true rfl) dX10_read_94 (fun H locs hP hD hS => ?_)
    have hP : va_P D vcl (mW h0 q cB cI_ cZ (upd (upd (upd I 3 0) 20 0) 21 (nI (L.length))) (va_up (va_up (va_up (va_up F 5 g5) 22 g22) 23 g23) 24 g24)) H := hP
    have hD : va_D A (mW h0 q cB cI_ cZ (upd (upd (upd I 3 0) 20 0) 21 (nI (L.length))) (va_up (va_up (va_up (va_up F 5 g5) 22 g22) 23 g23) 24 g24)) := hD
    refine lv_iconst (v := 0) hx hb dX10_read_97 (by decide) ?_
    refine lv_istore_n (lv' := [(2, .int 0), (1, .int (nI c3)), (0, .ref h0)]) hx hb dX10_read_98 rfl hl (by decide) rfl (fun ls hl => ?_)
    refine lv_iconst (v := 0) hx hb dX10_read_99 (by decide) ?_
    refine lv_istore_n (lv' := [(3, .int 0), (2, .int 0), (1, .int (nI c3)), (0, .ref h0)]) hx hb dX10_read_100 rfl hl (by decide) rfl (fun ls hl => ?_)
    refine lc_bld (I := (upd (upd (upd I 3 0) 20 0) 21 (nI (L.length)))) (F := (va_up (va_up (va_up (va_up F 5 g5) 22 g22) 23 g23) 24 g24)) (L := L) (x1 := nI c3) rfl hL hok (by show tx_cnt (F 0) L L.length ≤ 60; omega) hord b2 hTb (Nat.le_of_ble_eq_true rfl) (Nat.le_of_ble_eq_true rfl) (Nat.le_of_ble_eq_true rfl) (Nat.le_of_ble_eq_true rfl) hA hf hK L.length 0 0 [] (F 4) g5 (F 6) (F 7) (F 8) (F 9) (F 11) (F 10) _ _ ls (by omega) rfl ⟨by decide, fun z => absurd z (Nat.lt_irrefl 0)⟩ trivial (fun i _ h => b5 i h) (fun x hx => absurd hx List.not_mem_nil) (fun x tl hx => by cases hx) hP hD hS (lv_sub hl (l' := [(3, .int 0), (2, .int 0), (1, .int (nI c3)), (0, .ref h0)]) [0, 1, 2, 3] rfl) (fun ac kf4 kf5 kf6 kf7 kf8 kf9 kf11 kg H locs ls z1 z2 z3 z4 hP hD hS hl => ?_)
    have z1 : ac = tx_acc (F 0) L L.length := z1
    have hac : ac.length ≤ 60 := by rw [z1, tx_acc_len]; omega
    have hP : va_P D vcl (mW h0 q cB cI_ cZ (upd (upd (upd I 3 (nI (ac.length))) 20 0) 21 (nI (L.length))) (va_up (va_up (va_up (va_up (va_up (va_up (va_up (va_up (va_up (va_up (va_up F 4 kf4) 5 kf5) 6 kf6) 7 kf7) 8 kf8) 9 kf9) 10 kg) 11 kf11) 22 g22) 23 g23) 24 g24)) H := hP
    have hD : va_D A (mW h0 q cB cI_ cZ (upd (upd (upd I 3 (nI (ac.length))) 20 0) 21 (nI (L.length))) (va_up (va_up (va_up (va_up (va_up (va_up (va_up (va_up (va_up (va_up (va_up F 4 kf4) 5 kf5) 6 kf6) 7 kf7) 8 kf8) 9 kf9) 10 kg) 11 kf11) 22 g22) 23 g23) 24 g24)) := hD
    refine lv_iconst (v := 0) hx hb dX10_read_163 (by decide) ?_
    refine lv_istore_n (lv' := [(3, .int 0), (0, .ref h0)]) hx hb dX10_read_164 rfl hl (by decide) rfl (fun ls hl => ?_)
    refine ld_rows (I := (upd (upd (upd I 3 (nI (ac.length))) 20 0) 21 (nI (L.length)))) (F := (va_up (va_up (va_up (va_up (va_up (va_up (va_up (va_up (va_up (va_up (va_up F 4 kf4) 5 kf5) 6 kf6) 7 kf7) 8 kf8) 9 kf9) 10 kg) 11 kf11) 22 g22) 23 g23) 24 g24)) (ac := ac) rfl hac z2 z3 (Nat.le_of_ble_eq_true rfl) (Nat.le_of_ble_eq_true rfl) (Nat.le_of_ble_eq_true rfl) (Nat.le_of_ble_eq_true rfl) hA hf hK ac.length 0 kf11 (F 12) (F 13) _ _ ls (by omega) (fun i hi => absurd hi (Nat.not_lt_zero i)) (fun i _ h => (tx_el_at z2 i h).2.2.2.2.2.2.1) hP hD hS (lv_sub hl (l' := [(3, .int 0), (0, .ref h0)]) [0, 1] rfl) (fun g11 g12 g13 H locs ls b6 hP hD hS hl => ?_)
    have hP : va_P D vcl (mW h0 q cB cI_ cZ (upd (upd (upd I 3 (nI (ac.length))) 20 0) 21 (nI (L.length))) (va_up (va_up (va_up (va_up (va_up (va_up (va_up (va_up (va_up (va_up (va_up (va_up (va_up F 4 kf4) 5 kf5) 6 kf6) 7 kf7) 8 kf8) 9 kf9) 10 kg) 11 g11) 12 g12) 13 g13) 22 g22) 23 g23) 24 g24)) H := hP
    have hD : va_D A (mW h0 q cB cI_ cZ (upd (upd (upd I 3 (nI (ac.length))) 20 0) 21 (nI (L.length))) (va_up (va_up (va_up (va_up (va_up (va_up (va_up (va_up (va_up (va_up (va_up (va_up (va_up F 4 kf4) 5 kf5) 6 kf6) 7 kf7) 8 kf8) 9 kf9) 10 kg) 11 g11) 12 g12) 13 g13) 22 g22) 23 g23) 24 g24)) := hD
    refine lv_aload_n hx hb dX10_read_189 rfl (lv_at hl 0 rfl) ?_
    refine lv_iconst (v := 0) hx hb dX10_read_190 (by decide) ?_
    refine va_put (D := D) (ci := 11) (v := .int 0) (ty := .int) (C := RX10) (T := TX10) (N := 48) hx hb hts inX10 tyX10 tyX10_ok nmX10 hown hK hP hD hS 0 rfl rfl 1 (by decide) (hts _ k_1145) (fun _ h9 => h9) rfl (by decide +kernel) rfl rfl (Nat.le_of_ble_eq_true rfl) dX10_read_191 (fun H locs hP hD hS => ?_)
    have hP : va_P D vcl (mW h0 q cB cI_ cZ (upd (upd (upd (upd I 1 0) 3 (nI (ac.length))) 20 0) 21 (nI (L.length))) (va_up (va_up (va_up (va_up (va_up (va_up (va_up (va_up (va_up (va_up (va_up (va_up (va_up F 4 kf4) 5 kf5) 6 kf6) 7 kf7) 8 kf8) 9 kf9) 10 kg) 11 g11) 12 g12) 13 g13) 22 g22) 23 g23) 24 g24)) H := hP
    have hD : va_D A (mW h0 q cB cI_ cZ (upd (upd (upd (upd I 1 0) 3 (nI (ac.length))) 20 0) 21 (nI (L.length))) (va_up (va_up (va_up (va_up (va_up (va_up (va_up (va_up (va_up (va_up (va_up (va_up (va_up F 4 kf4) 5 kf5) 6 kf6) 7 kf7) 8 kf8) 9 kf9) 10 kg) 11 g11) 12 g12) 13 g13) 22 g22) 23 g23) 24 g24)) := hD
    refine lv_aload_n hx hb dX10_read_194 rfl (lv_at hl 0 rfl) ?_
    refine q_cv (k := 0) (n := 0) hK hP hD hS hA (fun hPc hKc hDc => q_rV (As := []) (rest := []) hf (r_wholePieces _ D h0 q cB cI_ cZ (upd (upd (upd (upd I 1 0) 3 (nI (ac.length))) 20 0) 21 (nI (L.length))) (va_up (va_up (va_up (va_up (va_up (va_up (va_up (va_up (va_up (va_up (va_up (va_up (va_up F 4 kf4) 5 kf5) 6 kf6) 7 kf7) 8 kf8) 9 kf9) 10 kg) 11 g11) 12 g12) 13 g13) 22 g22) 23 g23) 24 g24) ac.length (fun i => i) (fun i => (tx_rows (tx_at ac i).1 (tx_at ac i).2.2).length) rfl hac (fun i hi => ⟨(tx_el_at z2 i hi).1, Nat.lt_of_lt_of_le hi hac, (b6 i hi).1⟩) _) k_1359 k_1356 k_1358 k_58 k_98 (nA := 0) (by decide +kernel) ⟨Nat.le_of_ble_eq_true rfl, Nat.le_of_ble_eq_true rfl⟩ hK hP (ci := 11) (q0 := 0) rfl rfl rfl hPc hKc hDc (fun _ _ _ _ h => h) (fun _ _ _ => trivial) rfl hl.1 rfl (Nat.le_of_ble_eq_true rfl) dX10_read_195 ⟨Nat.le_of_ble_eq_true rfl, Nat.le_of_ble_eq_true rfl⟩) (by decide) (by decide) (fun u H locs hw hK hP hD hS => ?_)
    obtain ⟨g15, g16, g17, g18, b7, rfl⟩ := hw
    have hP : va_P D vcl (mW h0 q cB cI_ cZ (upd (upd (upd (upd (upd I 1 0) 3 (nI (ac.length))) 14 (nI (ac.length))) 20 0) 21 (nI (L.length))) (va_up (va_up (va_up (va_up (va_up (va_up (va_up (va_up (va_up (va_up (va_up (va_up (va_up (va_up (va_up (va_up (va_up F 4 kf4) 5 kf5) 6 kf6) 7 kf7) 8 kf8) 9 kf9) 10 kg) 11 g11) 12 g12) 13 g13) 15 g15) 16 g16) 17 g17) 18 g18) 22 g22) 23 g23) 24 g24)) H := hP
    have hD : va_D A (mW h0 q cB cI_ cZ (upd (upd (upd (upd (upd I 1 0) 3 (nI (ac.length))) 14 (nI (ac.length))) 20 0) 21 (nI (L.length))) (va_up (va_up (va_up (va_up (va_up (va_up (va_up (va_up (va_up (va_up (va_up (va_up (va_up (va_up (va_up (va_up (va_up F 4 kf4) 5 kf5) 6 kf6) 7 kf7) 8 kf8) 9 kf9) 10 kg) 11 g11) 12 g12) 13 g13) 15 g15) 16 g16) 17 g17) 18 g18) 22 g22) 23 g23) 24 g24)) := hD
    refine lv_aload_n hx hb dX10_read_198 rfl (lv_at hl 0 rfl) ?_
    refine va_get (D := D) (ci := 11) (v := .int (nI (ac.length))) (C := RX10) (T := TX10) (N := 48) hx hb hts inX10 hown hK hP 0 rfl rfl 3 (by decide) (hts _ k_1147) (fun _ h9 => h9) rfl dX10_read_199 ?_
    exact q_zi hf hr rfl hlocks hK hP hD hS (Nat.le_of_ble_eq_true rfl) (Nat.le_of_ble_eq_true rfl) ⟨L, (upd (upd (upd (upd (upd I 1 0) 3 (nI (ac.length))) 14 (nI (ac.length))) 20 0) 21 (nI (L.length))), (va_up (va_up (va_up (va_up (va_up (va_up (va_up (va_up (va_up (va_up (va_up (va_up (va_up (va_up (va_up (va_up (va_up F 4 kf4) 5 kf5) 6 kf6) 7 kf7) 8 kf8) 9 kf9) 10 kg) 11 g11) 12 g12) 13 g13) 15 g15) 16 g16) 17 g17) 18 g18) 22 g22) 23 g23) 24 g24), eL, Or.inr ⟨by omega, by rw [← z1], by rw [← z1]; exact ⟨⟨rfl, rfl, rfl, rfl, rfl⟩, rfl, ⟨kf11, z2⟩, z3, z4, b6, b7⟩⟩, rfl⟩ dX10_read_202
  · have c_1 := q_nle (a := c3) (b := 60) (by omega) (by omega) c_1
    refine lv_bipush (v := (-4)) hx hb dX10_read_63 (by decide) ?_
    exact q_zi hf hr rfl hlocks hK hP hD hS (Nat.le_of_ble_eq_true rfl) (Nat.le_of_ble_eq_true rfl) ⟨L, (upd I 21 (nI (L.length))), (va_up (va_up (va_up F 22 g22) 23 g23) 24 g24), eL, Or.inl ⟨by omega, rfl, fun k hk => by rw [pk_un hk], fun k h1 h2 h3 => by rw [va_up_ne _ _ h3, va_up_ne _ _ h2, va_up_ne _ _ h1]⟩, rfl⟩ dX10_read_65
