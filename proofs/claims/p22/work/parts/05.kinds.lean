section QE
variable {p : Program} {l : Launch} {e : Env} {R : Room} {s : State} {m : MethodId} {args : Array Value} {below : List Frame} {meth : Method} {c : Code} {H : Heap} {locs : List Loc} {cells slots : Nat} {Q : State → Prop}
variable {pc : Nat} {ls : Array Slot} {rest st0 : List Value} {D : va_G} {A : Nat → Prop} {ws : va_W}
theorem q_ei {post : Int32 → wU → Prop} {a : Array Value} {mc ms k n : Nat} (hP : va_P D vcl ws H) (hS : va_S A s.heap H locs) (hA : ∀ q : Nat, s.heap.size ≤ q → A q)
    (run : va_Run p l e R s m args below meth c H locs cells slots mc ms (F0 m pc ls st0) rest (va_Qi post (wB D (va_A [] H.size)) (va_A [] H.size) a) (va_A [] H.size))
    (hk : cells + mc ≤ k) (hs : slots + ms ≤ n)
    (kk : ∀ (r : Int32) (u : wU) (H1 : Heap) (locs1 : List Loc), post r u → va_P D vcl ws H1 → va_S A s.heap H1 locs1 → W p l e R s m args below meth c H1 locs1 k n Q (F0 m (pc + 3) ls (.int r :: rest))) :
    W p l e R s m args below meth c H locs cells slots Q (F0 m pc ls st0) := by
  have hFc : ∀ q, va_A [] H.size q → A q := by
    intro q h
    rcases h with ⟨k, e, h⟩ | h
    · simp at h
    · exact hA q (Nat.le_trans hS.1 h)
  refine va_calli run hS (fun q _ h => hFc q h) hFc (fun r u t H1 locs1 ht hvm hw hB hz1 hk1 hS1 => ?_)
  refine W.widen hk hs (kk r u H1 locs1 hw (hP.kept (fun k q h => hk1 q.1 (hP k q h).lt (fun z => ?_))) hS1)
  rcases z with ⟨k2, e2, z⟩ | z
  · simp at z
  · exact absurd (hP k q h).lt (Nat.not_lt.mpr z)
end QE
theorem q_m1t {a : Nat} (ha : a < 2 ^ 30) : (nI a - 1).toInt = (a : Int) - 1 := pk_sub_toInt (b := 1) ha (by decide)
theorem q_m1lt {a b : Nat} (ha : a < 2 ^ 30) (hb : b < 2 ^ 31) (h : nI a - 1 < nI b) : a ≤ b := by
  rw [Int32.lt_iff_toInt_lt, q_m1t ha, nI_toInt hb] at h; omega
theorem q_m1nlt {a b : Nat} (ha : a < 2 ^ 30) (hb : b < 2 ^ 31) (h : ¬ nI a - 1 < nI b) : b < a := by
  rw [Int32.lt_iff_toInt_lt, q_m1t ha, nI_toInt hb] at h; omega
theorem tx_arr0 {L : List (Nat × Nat)} {g1 g2 : Nat → Int32} (h : tx_arr L 0 g1 g2) : ∀ j, j < L.length → g1 j = nI (L.getD j (0, 0)).1 ∧ g2 j = nI (L.getD j (0, 0)).2 := fun j hj => by
  have h1 := h j hj
  rw [Nat.zero_add] at h1
  exact h1
def tx_ok (L : List (Nat × Nat)) : Prop := L.length ≤ 1200 ∧ ∀ j, j < L.length → (L.getD j (0, 0)).1 ≤ (L.getD j (0, 0)).2 ∧ (L.getD j (0, 0)).2 ≤ 1200
def tx_free (L : List (Nat × Nat)) (j : Nat) : Prop := L.length ≤ j ∨ (L.getD j (0, 0)).1 = (L.getD j (0, 0)).2
abbrev cX10_in : ByteArray := prog_12_method_3_code
def yX10_in : MethodName := ⟨RX10, "in", "(III)Z"⟩
abbrev cX10_isFree : ByteArray := prog_12_method_7_code
def yX10_isFree : MethodName := ⟨RX10, "isFree", "(I)Z"⟩
theorem k_98 : (Cond.initialized RX10) ∈ gT := gT_i 98 (by decide +kernel) rfl
theorem k_1294 : (Cond.methodLink RX10 119 yX10_in) ∈ gT := gT_i 1294 (by decide +kernel) rfl
theorem k_1295 : (Cond.static yX10_in) ∈ gT := gT_i 1295 (by decide +kernel) rfl
theorem k_1296 : (Cond.code yX10_in cX10_in 3 (some .boolean)) ∈ gT := gT_i 1296 (by decide +kernel) rfl
theorem dX10_isFree_0 : decode cX10_isFree 0 = .ok (.iload_n 1, 1) := by decide +kernel
theorem dX10_isFree_1 : decode cX10_isFree 1 = .ok (.iconst 0, 1) := by decide +kernel
theorem dX10_isFree_2 : decode cX10_isFree 2 = .ok (.aload_n 0, 1) := by decide +kernel
theorem dX10_isFree_3 : decode cX10_isFree 3 = .ok (.getfield 126, 3) := by decide +kernel
theorem dX10_isFree_6 : decode cX10_isFree 6 = .ok (.iconst 1, 1) := by decide +kernel
theorem dX10_isFree_7 : decode cX10_isFree 7 = .ok (.isub, 1) := by decide +kernel
theorem dX10_isFree_8 : decode cX10_isFree 8 = .ok (.invokestatic 119, 3) := by decide +kernel
theorem dX10_in_0 : decode cX10_in 0 = .ok (.iload_n 0, 1) := by decide +kernel
theorem dX10_in_1 : decode cX10_in 1 = .ok (.iload_n 1, 1) := by decide +kernel
theorem dX10_in_2 : decode cX10_in 2 = .ok (.if_icmp .lt 12, 3) := by decide +kernel
theorem dX10_in_14 : decode cX10_in 14 = .ok (.iconst 0, 1) := by decide +kernel
theorem dX10_in_15 : decode cX10_in 15 = .ok (.ireturn, 1) := by decide +kernel
theorem dX10_in_5 : decode cX10_in 5 = .ok (.iload_n 0, 1) := by decide +kernel
theorem dX10_in_6 : decode cX10_in 6 = .ok (.iload_n 2, 1) := by decide +kernel
theorem dX10_in_7 : decode cX10_in 7 = .ok (.if_icmp .gt 7, 3) := by decide +kernel
theorem dX10_in_10 : decode cX10_in 10 = .ok (.iconst 1, 1) := by decide +kernel
theorem dX10_in_11 : decode cX10_in 11 = .ok (.goto 4, 3) := by decide +kernel
theorem dX10_isFree_11 : decode cX10_isFree 11 = .ok (.ifCond .eq 18, 3) := by decide +kernel
theorem dX10_isFree_29 : decode cX10_isFree 29 = .ok (.iconst 1, 1) := by decide +kernel
theorem dX10_isFree_30 : decode cX10_isFree 30 = .ok (.goto 4, 3) := by decide +kernel
theorem dX10_isFree_34 : decode cX10_isFree 34 = .ok (.ireturn, 1) := by decide +kernel
theorem dX10_isFree_14 : decode cX10_isFree 14 = .ok (.aload_n 0, 1) := by decide +kernel
theorem dX10_isFree_15 : decode cX10_isFree 15 = .ok (.getfield 62, 3) := by decide +kernel
theorem dX10_isFree_18 : decode cX10_isFree 18 = .ok (.iload_n 1, 1) := by decide +kernel
theorem dX10_isFree_19 : decode cX10_isFree 19 = .ok (.iaload, 1) := by decide +kernel
theorem dX10_isFree_20 : decode cX10_isFree 20 = .ok (.aload_n 0, 1) := by decide +kernel
theorem dX10_isFree_21 : decode cX10_isFree 21 = .ok (.getfield 65, 3) := by decide +kernel
theorem dX10_isFree_24 : decode cX10_isFree 24 = .ok (.iload_n 1, 1) := by decide +kernel
theorem dX10_isFree_25 : decode cX10_isFree 25 = .ok (.iaload, 1) := by decide +kernel
theorem dX10_isFree_26 : decode cX10_isFree 26 = .ok (.if_icmp .ne 7, 3) := by decide +kernel
theorem dX10_isFree_33 : decode cX10_isFree 33 = .ok (.iconst 0, 1) := by decide +kernel
set_option maxHeartbeats 1000000 in
set_option maxRecDepth 100000 in
theorem m_X10_in_1 (l : Launch) (D : va_G) (i0 : Int32) (i1 : Int32) (i2 : Int32) : cI l D yX10_in cX10_in 3 (some .boolean) 0 0 0 0 [.int i0, .int i1, .int i2] zT [] [] (fun r u => (i0 < i1 ∧ r = 0 ∧ u = ([], [])) ∨ (¬ i0 < i1 ∧ i2 < i0 ∧ r = 0 ∧ u = ([], [])) ∨ (¬ i0 < i1 ∧ ¬ i2 < i0 ∧ r = 1 ∧ u = ([], []))) := by
  refine q_si (by decide) (Nat.le_of_ble_eq_true rfl) ?_
  intro p e s m below meth c A ls hAe hf hr hlocks hin hK hP hD hS hA hZ hl
  obtain ⟨hx, hb, hml, hown, hts⟩ := id hf
  have hl : lv_has ls 3 [(0, .int i0), (1, .int i1), (2, .int i2)] := hl
  refine lv_iload_n hx hb dX10_in_0 rfl (lv_at hl 0 rfl) ?_
  refine lv_iload_n hx hb dX10_in_1 rfl (lv_at hl 1 rfl) ?_
  refine lv_icmp_lt (tgt := 14) hx hb dX10_in_2 (by decide) (fun c_1 => ?_) (fun c_1 => ?_)
  · refine lv_iconst (v := 0) hx hb dX10_in_14 (by decide) ?_
    exact q_ri hf hr rfl hlocks hK hP hD hS [] [] (w1 := []) (t1 := []) rfl (by decide) rfl (Nat.le_of_ble_eq_true rfl) (Nat.le_of_ble_eq_true rfl) (Or.inl ⟨c_1, rfl, rfl⟩) dX10_in_15
  · refine lv_iload_n hx hb dX10_in_5 rfl (lv_at hl 0 rfl) ?_
    refine lv_iload_n hx hb dX10_in_6 rfl (lv_at hl 2 rfl) ?_
    refine lv_icmp_gt (tgt := 14) hx hb dX10_in_7 (by decide) (fun c_2 => ?_) (fun c_2 => ?_)
    · refine lv_iconst (v := 0) hx hb dX10_in_14 (by decide) ?_
      exact q_ri hf hr rfl hlocks hK hP hD hS [] [] (w1 := []) (t1 := []) rfl (by decide) rfl (Nat.le_of_ble_eq_true rfl) (Nat.le_of_ble_eq_true rfl) (Or.inr (Or.inl ⟨c_1, c_2, rfl, rfl⟩)) dX10_in_15
    · refine lv_iconst (v := 1) hx hb dX10_in_10 (by decide) ?_
      refine lv_goto (tgt := 15) hx hb dX10_in_11 (by decide) ?_
      exact q_ri hf hr rfl hlocks hK hP hD hS [] [] (w1 := []) (t1 := []) rfl (by decide) rfl (Nat.le_of_ble_eq_true rfl) (Nat.le_of_ble_eq_true rfl) (Or.inr (Or.inr ⟨c_1, c_2, rfl, rfl⟩)) dX10_in_15
set_option maxHeartbeats 1000000 in
set_option maxRecDepth 100000 in
theorem r_isFree (l : Launch) (D : va_G) (h0 : Nat) (q : Nat → Nat) (cB cI_ cZ : ClassId) (I : Nat → Int32) (F : Nat → Nat → Int32) (L : List (Nat × Nat)) (j : Nat) (hI21 : I 21 = nI L.length) (hL : ∀ j, j < L.length → F 22 j = nI (L.getD j (0, 0)).1 ∧ F 23 j = nI (L.getD j (0, 0)).2) (hok : tx_ok L) (hj : j < 2 ^ 30) : cI l D yX10_isFree cX10_isFree 2 (some .boolean) 1 22 0 0 [.ref h0, .int (nI j)] zT (mW h0 q cB cI_ cZ I F) (mT cB cI_ cZ) (fun r u => (tx_free L j ∧ r = 1 ∨ ¬ tx_free L j ∧ r = 0) ∧ u = (mW h0 q cB cI_ cZ I F, mT cB cI_ cZ)) := by
  refine q_si (by decide) (Nat.le_of_ble_eq_true rfl) ?_
  intro p e s m below meth c A ls hAe hf hr hlocks hin hK hP hD hS hA hZ hl
  obtain ⟨hx, hb, hml, hown, hts⟩ := id hf
  have hl : lv_has ls 2 [(0, .ref h0), (1, .int (nI j))] := hl
  have hok1 := hok.1
  refine lv_iload_n hx hb dX10_isFree_0 rfl (lv_at hl 1 rfl) ?_
  refine lv_iconst (v := 0) hx hb dX10_isFree_1 (by decide) ?_
  refine lv_aload_n hx hb dX10_isFree_2 rfl (lv_at hl 0 rfl) ?_
  refine va_get (D := D) (ci := 11) (v := .int (I 21)) (C := RX10) (T := TX10) (N := 48) hx hb hts inX10 hown hK hP 0 rfl rfl 21 (by decide) (hts _ k_1165) (fun _ h9 => h9) rfl dX10_isFree_3 ?_
  refine q_seti (y := (nI (L.length))) hI21 ?_
  refine lv_iconst (v := 1) hx hb dX10_isFree_6 (by decide) ?_
  refine lv_isub hx hb dX10_isFree_7 ?_
  refine q_ei (k := 0) (n := 0) hP hS hA (q_rS (wc := []) (tc := []) (As := [.int (nI j), .int 0, .int ((nI (L.length)) - 1)]) (rest := []) hf (m_X10_in_1 _ D (nI j) 0 ((nI (L.length)) - 1) _) k_1296 k_1294 k_1295 k_98 (nA := 3) (by decide +kernel) ⟨Nat.le_of_ble_eq_true rfl, Nat.le_of_ble_eq_true rfl⟩ (fun k q h => by simp at h) (hK.sub (tys' := []) [] rfl) (A := A) ⟨fun i j p q h => by simp at h, fun k q h => by simp at h⟩ (fun _ _ _ _ h => h) (fun _ _ _ => trivial) rfl hl.1 rfl (Nat.le_of_ble_eq_true rfl) dX10_isFree_8 ⟨Nat.le_of_ble_eq_true rfl, Nat.le_of_ble_eq_true rfl⟩) (by decide) (by decide) (fun r u H locs hw hP hS => ?_)
  rcases hw with ⟨c_1, rfl, rfl⟩ | ⟨c_2, c_3, rfl, rfl⟩ | ⟨c_4, c_5, rfl, rfl⟩
  · have c_1 := q_lt (a := j) (b := 0) (by omega) (by omega) c_1
    exact absurd c_1 (Nat.not_lt_zero _)
  · have c_2 := q_nlt (a := j) (b := 0) (by omega) (by omega) c_2
    have c_3 := q_m1lt (a := L.length) (b := j) (by omega) (by omega) c_3
    refine lv_if_eq (tgt := 29) hx hb dX10_isFree_11 (by decide) (fun _ => ?_) (fun hno => absurd hno (by decide))
    refine lv_iconst (v := 1) hx hb dX10_isFree_29 (by decide) ?_
    refine lv_goto (tgt := 34) hx hb dX10_isFree_30 (by decide) ?_
    exact q_zi hf hr rfl hlocks hK hP hD hS (Nat.le_of_ble_eq_true rfl) (Nat.le_of_ble_eq_true rfl) ⟨Or.inl ⟨by unfold tx_free; omega, rfl⟩, rfl⟩ dX10_isFree_34
  · have c_4 := q_nlt (a := j) (b := 0) (by omega) (by omega) c_4
    have c_5 := q_m1nlt (a := L.length) (b := j) (by omega) (by omega) c_5
    refine lv_if_eq (tgt := 29) hx hb dX10_isFree_11 (by decide) (fun hno => absurd hno (by decide)) (fun _ => ?_)
    have hb1 := hok.2 j (by omega)
    refine lv_aload_n hx hb dX10_isFree_14 rfl (lv_at hl 0 rfl) ?_
    refine va_get (D := D) (ci := 11) (v := .ref (q 22)) (C := RX10) (T := TX10) (N := 48) hx hb hts inX10 hown hK hP 0 rfl rfl 22 (by decide) (hts _ k_1166) (fun _ h9 => h9) rfl dX10_isFree_15 ?_
    refine lv_iload_n hx hb dX10_isFree_18 rfl (lv_at hl 1 rfl) ?_
    refine q_ild (X := j) (f := (F 22)) hx hb hK hP 16 1 rfl rfl (by omega) (by decide) dX10_isFree_19 ?_
    refine q_seti (y := (nI ((L.getD j (0, 0)).1))) (hL j (by omega)).1 ?_
    refine lv_aload_n hx hb dX10_isFree_20 rfl (lv_at hl 0 rfl) ?_
    refine va_get (D := D) (ci := 11) (v := .ref (q 23)) (C := RX10) (T := TX10) (N := 48) hx hb hts inX10 hown hK hP 0 rfl rfl 23 (by decide) (hts _ k_1167) (fun _ h9 => h9) rfl dX10_isFree_21 ?_
    refine lv_iload_n hx hb dX10_isFree_24 rfl (lv_at hl 1 rfl) ?_
    refine q_ild (X := j) (f := (F 23)) hx hb hK hP 17 1 rfl rfl (by omega) (by decide) dX10_isFree_25 ?_
    refine q_seti (y := (nI ((L.getD j (0, 0)).2))) (hL j (by omega)).2 ?_
    refine lv_icmp_ne (tgt := 33) hx hb dX10_isFree_26 (by decide) (fun c_6 => ?_) (fun c_6 => ?_)
    · have c_6 := q_nen (a := (L.getD j (0, 0)).1) (b := (L.getD j (0, 0)).2) (by omega) (by omega) c_6
      refine lv_iconst (v := 0) hx hb dX10_isFree_33 (by decide) ?_
      exact q_zi hf hr rfl hlocks hK hP hD hS (Nat.le_of_ble_eq_true rfl) (Nat.le_of_ble_eq_true rfl) ⟨Or.inr ⟨by unfold tx_free; omega, rfl⟩, rfl⟩ dX10_isFree_34
    · have c_6 := q_eqn (a := (L.getD j (0, 0)).1) (b := (L.getD j (0, 0)).2) (by omega) (by omega) c_6
      refine lv_iconst (v := 1) hx hb dX10_isFree_29 (by decide) ?_
      refine lv_goto (tgt := 34) hx hb dX10_isFree_30 (by decide) ?_
      exact q_zi hf hr rfl hlocks hK hP hD hS (Nat.le_of_ble_eq_true rfl) (Nat.le_of_ble_eq_true rfl) ⟨Or.inl ⟨by unfold tx_free; omega, rfl⟩, rfl⟩ dX10_isFree_34
set_option maxHeartbeats 1000000 in
set_option maxRecDepth 100000 in
theorem r_isFree_m (l : Launch) (D : va_G) (h0 : Nat) (q : Nat → Nat) (cB cI_ cZ : ClassId) (I : Nat → Int32) (F : Nat → Nat → Int32) (L : List (Nat × Nat)) (hI21 : I 21 = nI L.length) (hL : ∀ j, j < L.length → F 22 j = nI (L.getD j (0, 0)).1 ∧ F 23 j = nI (L.getD j (0, 0)).2) (hok : tx_ok L) : cI l D yX10_isFree cX10_isFree 2 (some .boolean) 1 22 0 0 [.ref h0, .int (-1)] zT (mW h0 q cB cI_ cZ I F) (mT cB cI_ cZ) (fun r u => r = 1 ∧ u = (mW h0 q cB cI_ cZ I F, mT cB cI_ cZ)) := by
  refine q_si (by decide) (Nat.le_of_ble_eq_true rfl) ?_
  intro p e s m below meth c A ls hAe hf hr hlocks hin hK hP hD hS hA hZ hl
  obtain ⟨hx, hb, hml, hown, hts⟩ := id hf
  have hl : lv_has ls 2 [(0, .ref h0), (1, .int (-1))] := hl
  have hok1 := hok.1
  refine lv_iload_n hx hb dX10_isFree_0 rfl (lv_at hl 1 rfl) ?_
  refine lv_iconst (v := 0) hx hb dX10_isFree_1 (by decide) ?_
  refine lv_aload_n hx hb dX10_isFree_2 rfl (lv_at hl 0 rfl) ?_
  refine va_get (D := D) (ci := 11) (v := .int (I 21)) (C := RX10) (T := TX10) (N := 48) hx hb hts inX10 hown hK hP 0 rfl rfl 21 (by decide) (hts _ k_1165) (fun _ h9 => h9) rfl dX10_isFree_3 ?_
  refine q_seti (y := (nI (L.length))) hI21 ?_
  refine lv_iconst (v := 1) hx hb dX10_isFree_6 (by decide) ?_
  refine lv_isub hx hb dX10_isFree_7 ?_
  refine q_ei (k := 0) (n := 0) hP hS hA (q_rS (wc := []) (tc := []) (As := [.int (-1), .int 0, .int ((nI (L.length)) - 1)]) (rest := []) hf (m_X10_in_1 _ D (-1) 0 ((nI (L.length)) - 1) _) k_1296 k_1294 k_1295 k_98 (nA := 3) (by decide +kernel) ⟨Nat.le_of_ble_eq_true rfl, Nat.le_of_ble_eq_true rfl⟩ (fun k q h => by simp at h) (hK.sub (tys' := []) [] rfl) (A := A) ⟨fun i j p q h => by simp at h, fun k q h => by simp at h⟩ (fun _ _ _ _ h => h) (fun _ _ _ => trivial) rfl hl.1 rfl (Nat.le_of_ble_eq_true rfl) dX10_isFree_8 ⟨Nat.le_of_ble_eq_true rfl, Nat.le_of_ble_eq_true rfl⟩) (by decide) (by decide) (fun r u H locs hw hP hS => ?_)
  rcases hw with ⟨c_1, rfl, rfl⟩ | ⟨c_2, c_3, rfl, rfl⟩ | ⟨c_4, c_5, rfl, rfl⟩
  · refine lv_if_eq (tgt := 29) hx hb dX10_isFree_11 (by decide) (fun _ => ?_) (fun hno => absurd hno (by decide))
    refine lv_iconst (v := 1) hx hb dX10_isFree_29 (by decide) ?_
    refine lv_goto (tgt := 34) hx hb dX10_isFree_30 (by decide) ?_
    exact q_zi hf hr rfl hlocks hK hP hD hS (Nat.le_of_ble_eq_true rfl) (Nat.le_of_ble_eq_true rfl) ⟨rfl, rfl⟩ dX10_isFree_34
  · exact absurd c_2 (by decide)
  · exact absurd c_4 (by decide)
