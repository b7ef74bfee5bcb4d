theorem lg_pre {wd e : Nat} (hw : 1 ≤ wd) : ∀ f k Rv, tx_pre wd k Rv → k ≤ e → e - k ≤ f → tx_pre wd (tx_lg wd f k e Rv).1 (tx_lg wd f k e Rv).2 ∧ (tx_lg wd f k e Rv).1 ≤ e ∧ e - (tx_lg wd f k e Rv).1 ≤ wd := by
  intro f
  induction f with
  | zero => intro k Rv h h1 h2; exact ⟨h, h1, by show e - k ≤ wd; omega⟩
  | succ f ih =>
    intro k Rv h h1 h2
    by_cases c : wd < e - k
    · rw [show tx_lg wd (f + 1) k e Rv = tx_lg wd f (k + wd) e (tx_pt wd Rv k wd) from if_pos c]
      exact ih _ _ (tx_pre_f h) (by omega) (by omega)
    · rw [show tx_lg wd (f + 1) k e Rv = (k, Rv) from if_neg c]
      exact ⟨h, h1, by show e - k ≤ wd; omega⟩
theorem lay_rok {wd n : Nat} {g : Nat → Int32} (hw : 1 ≤ wd) : ∀ f k Rv, tx_pre wd k Rv → (∃ z, z ≤ n ∧ tx_rok wd z Rv) → ∃ z, z ≤ n ∧ tx_rok wd z (tx_lay wd g 0 n f k Rv) := by
  intro f
  induction f with
  | zero => intro k Rv _ h; exact h
  | succ f ih =>
    intro k Rv hp h
    by_cases c : k < n
    · have he := tx_eow_le g 0 (n - k) k
      have hl := lg_pre (wd := wd) (e := tx_eow g 0 (n - k) k) hw (tx_eow g 0 (n - k) k - k) k Rv hp he.1 (Nat.le_refl _)
      have h3 := tx_pre_p hl.1 hl.2.2
      rw [show (tx_lg wd (tx_eow g 0 (n - k) k - k) k (tx_eow g 0 (n - k) k) Rv).1 + (tx_eow g 0 (n - k) k - (tx_lg wd (tx_eow g 0 (n - k) k - k) k (tx_eow g 0 (n - k) k) Rv).1) = tx_eow g 0 (n - k) k by omega] at h3
      rw [tx_lay_in c rfl rfl]
      exact ih _ _ (tx_pre_n h3) ⟨_, by omega, h3⟩
    · rw [tx_lay_out (by omega)]
      exact h
/-- the rows of an element lie within its text -/
theorem rows_in (kd : Int32) (X : List Int32) : ∀ x, x ∈ tx_rows kd X → x.1 + x.2 ≤ X.length ∧ x.2 ≤ tx_w kd := by
  obtain ⟨z, hz, h⟩ := lay_rok (wd := tx_w kd) (n := X.length) (g := fun i => X.getD i 0) (by have := (tx_w_in kd).1; omega) X.length 0 [] (tx_pre_0 _) ⟨0, Nat.zero_le _, tx_rok_0 _⟩
  intro x hx
  have h1 := h.2.1 x hx
  exact ⟨by omega, h1.2⟩
theorem ck_rv_at {f1 f2 : Nat → Int32} : ∀ {Rv : List (Nat × Nat)}, ck_rv f1 f2 Rv → ∀ j, j < Rv.length → ∃ x, x ∈ Rv ∧ f1 j = nI x.1 ∧ f2 j = nI (x.1 + x.2)
  | [], _, j, hj => absurd hj (Nat.not_lt_zero j)
  | x :: t, h, j, hj => by
    have hj : j < t.length + 1 := hj
    by_cases c : j = t.length
    · rw [c]; exact ⟨x, List.mem_cons_self, h.1, h.2.1⟩
    · obtain ⟨y, h1, h2⟩ := ck_rv_at h.2.2 j (by omega)
      exact ⟨y, List.mem_cons_of_mem _ h1, h2⟩
theorem elR.row {cB cI_ : ClassId} {L : List Nat} {g : hG} {el w : Nat} {kd nm sk : Int32} {X : List Int32} (h : elR cB cI_ L g el kd nm sk w X) : ∃ (tx rf rt N0 M : Nat) (tf f1 f2 : Nat → Int32), ho L g el 9 (.inr (2, [.int kd, .int nm, .int sk, .ref tx, .int (nI X.length), .int (nI w), .ref rf, .ref rt, .int (nI (tx_rows kd X).length)])) ∧ ho L g tx 10 (.inl (cB, N0, .inl tf)) ∧ ho L g rf 11 (.inl (cI_, M, .inl f1)) ∧ ho L g rt 12 (.inl (cI_, M, .inl f2)) ∧ ((tx_rows kd X).length ≤ M ∧ M ≤ 200 ∧ N0 ≤ 1200 ∧ (tx_rows kd X).length ≤ 200) ∧ ∀ row, row < (tx_rows kd X).length → ∃ a b : Nat, f1 row = nI a ∧ f2 row = nI b ∧ a ≤ b ∧ b ≤ N0 ∧ b - a ≤ 40 := by
  obtain ⟨tx, rf, rt, N0, M, tf, f1, f2, h1, h2, h3, h4, h5, h6, h7, h8⟩ := h
  refine ⟨tx, rf, rt, N0, M, tf, f1, f2, h1, h2, h3, h4, ⟨h7.2.2.1, h7.2.2.2.1, h7.2.1, by omega⟩, fun row hr => ?_⟩
  obtain ⟨x, hx, e1, e2⟩ := ck_rv_at h6 row hr
  have hi := rows_in kd X x hx
  have hw := (tx_w_in kd).2
  exact ⟨x.1, x.1 + x.2, e1, e2, by omega, by omega, by omega⟩
def bgs (EE : Nat → E5) (P : List Q4) (n ss t : Nat) : Prop := (t < n ∧ bgq EE P 0 t ∧ pcnt (bgq EE P 0) t = ss) ∨ (t = n ∧ ∀ u, u < n → bgq EE P 0 u → ¬ pcnt (bgq EE P 0) u = ss)
theorem bgs_le {EE : Nat → E5} {P : List Q4} {n ss t : Nat} (h : bgs EE P n ss t) : t ≤ n := by
  rcases h with h | h <;> omega
theorem bgs_mo {EE : Nat → E5} {P : List Q4} {n ss s2 t u : Nat} (h1 : bgs EE P n ss t) (h2 : bgs EE P n s2 u) (hs : ss < s2) (ht : t < n) : t ≤ u := by
  rcases h1 with h1 | h1
  · rcases h2 with h2 | h2
    · by_cases c : t ≤ u
      · exact c
      · have h3 := pcnt_mo (bgq EE P 0) (show u ≤ t by omega)
        omega
    · omega
  · omega
theorem bgs_in {EE : Nat → E5} {P : List Q4} {n ss t : Nat} (h : bgs EE P n ss t) (hs : ss < pcnt (bgq EE P 0) n) : t < n := by
  rcases h with h | h
  · exact h.1
  · exfalso
    have key : ∀ m, m ≤ n → ss < pcnt (bgq EE P 0) m → False := by
      intro m
      induction m with
      | zero => intro _ h3; exact absurd h3 (Nat.not_lt_zero _)
      | succ m ih =>
        intro hm h3
        by_cases c : bgq EE P 0 m
        · rw [pcnt_1 c] at h3
          by_cases c2 : pcnt (bgq EE P 0) m = ss
          · exact h.2 m (by omega) c c2
          · exact ih (by omega) (by omega)
        · rw [pcnt_0 c] at h3
          exact ih (by omega) h3
    exact key n (Nat.le_refl _) hs
theorem ix_any {x : Int32} (h : ¬ x < 0) : ∃ j : Nat, j < 2 ^ 31 ∧ x = nI j := by
  rw [Int32.lt_iff_toInt_lt] at h
  have h2 := Int32.toInt_lt x
  have e0 : (0 : Int32).toInt = 0 := by decide
  refine ⟨x.toInt.toNat, by omega, ?_⟩
  refine Int32.toInt_inj.mp ?_
  rw [nI_toInt (by omega)]
  omega
abbrev cX9_rowByte : ByteArray := prog_1_method_7_code
def yX9_rowByte : MethodName := ⟨RX9, "rowByte", "(III)I"⟩
abbrev cX9_who : ByteArray := prog_1_method_20_code
def yX9_who : MethodName := ⟨RX9, "who", "(II)I"⟩
theorem k_749 : (Cond.methodLink RX9 142 yX1_rowLength) ∈ gT := gT_i 749 (by decide +kernel) rfl
theorem k_753 : (Cond.methodLink RX9 146 yX1_byteOfRow) ∈ gT := gT_i 753 (by decide +kernel) rfl
theorem k_754 : (Cond.instanceMethod yX1_byteOfRow) ∈ gT := gT_i 754 (by decide +kernel) rfl
theorem k_755 : (Cond.selects RX1 yX1_byteOfRow yX1_byteOfRow) ∈ gT := gT_i 755 (by decide +kernel) rfl
theorem k_756 : (Cond.code yX1_byteOfRow cX1_byteOfRow 3 (some .int)) ∈ gT := gT_i 756 (by decide +kernel) rfl
theorem k_1057 : (Cond.methodLink RX9 259 yX7_begin) ∈ gT := gT_i 1057 (by decide +kernel) rfl
theorem k_1058 : (Cond.instanceMethod yX7_begin) ∈ gT := gT_i 1058 (by decide +kernel) rfl
theorem k_1059 : (Cond.selects RX7 yX7_begin yX7_begin) ∈ gT := gT_i 1059 (by decide +kernel) rfl
theorem k_1060 : (Cond.code yX7_begin cX7_begin 4 (some .int)) ∈ gT := gT_i 1060 (by decide +kernel) rfl
theorem k_1098 : (Cond.methodLink RX9 274 yX7_personIn) ∈ gT := gT_i 1098 (by decide +kernel) rfl
theorem k_1099 : (Cond.instanceMethod yX7_personIn) ∈ gT := gT_i 1099 (by decide +kernel) rfl
theorem k_1100 : (Cond.selects RX7 yX7_personIn yX7_personIn) ∈ gT := gT_i 1100 (by decide +kernel) rfl
theorem k_1101 : (Cond.code yX7_personIn cX7_personIn 6 (some .int)) ∈ gT := gT_i 1101 (by decide +kernel) rfl
theorem dX9_rowByte_0 : decode cX9_rowByte 0 = .ok (.aload_n 0, 1) := by decide +kernel
theorem dX9_rowByte_1 : decode cX9_rowByte 1 = .ok (.iload_n 1, 1) := by decide +kernel
theorem dX9_rowByte_2 : decode cX9_rowByte 2 = .ok (.invokevirtual 123, 3) := by decide +kernel
theorem dX9_rowByte_5 : decode cX9_rowByte 5 = .ok (.ifCond .eq 7, 3) := by decide +kernel
theorem dX9_rowByte_8 : decode cX9_rowByte 8 = .ok (.iload_n 3, 1) := by decide +kernel
theorem dX9_rowByte_9 : decode cX9_rowByte 9 = .ok (.ifCond .ge 6, 3) := by decide +kernel
theorem dX9_rowByte_15 : decode cX9_rowByte 15 = .ok (.aload_n 0, 1) := by decide +kernel
theorem dX9_rowByte_16 : decode cX9_rowByte 16 = .ok (.iload_n 1, 1) := by decide +kernel
theorem dX9_rowByte_17 : decode cX9_rowByte 17 = .ok (.invokevirtual 126, 3) := by decide +kernel
theorem dX9_rowByte_20 : decode cX9_rowByte 20 = .ok (.astore 4, 2) := by decide +kernel
theorem dX9_rowByte_22 : decode cX9_rowByte 22 = .ok (.iload_n 2, 1) := by decide +kernel
theorem dX9_rowByte_23 : decode cX9_rowByte 23 = .ok (.ifCond .lt 12, 3) := by decide +kernel
theorem dX9_rowByte_35 : decode cX9_rowByte 35 = .ok (.bipush (-2), 2) := by decide +kernel
theorem dX9_rowByte_37 : decode cX9_rowByte 37 = .ok (.ireturn, 1) := by decide +kernel
theorem dX9_rowByte_26 : decode cX9_rowByte 26 = .ok (.iload_n 2, 1) := by decide +kernel
theorem dX9_rowByte_27 : decode cX9_rowByte 27 = .ok (.aload 4, 2) := by decide +kernel
theorem dX9_rowByte_29 : decode cX9_rowByte 29 = .ok (.invokevirtual 136, 3) := by decide +kernel
theorem dX9_rowByte_32 : decode cX9_rowByte 32 = .ok (.if_icmp .lt 6, 3) := by decide +kernel
theorem dX9_rowByte_38 : decode cX9_rowByte 38 = .ok (.iload_n 3, 1) := by decide +kernel
theorem dX9_rowByte_39 : decode cX9_rowByte 39 = .ok (.aload 4, 2) := by decide +kernel
theorem dX9_rowByte_41 : decode cX9_rowByte 41 = .ok (.iload_n 2, 1) := by decide +kernel
theorem dX9_rowByte_42 : decode cX9_rowByte 42 = .ok (.invokevirtual 142, 3) := by decide +kernel
theorem dX9_rowByte_45 : decode cX9_rowByte 45 = .ok (.if_icmp .ge 13, 3) := by decide +kernel
theorem dX9_rowByte_58 : decode cX9_rowByte 58 = .ok (.iconst (-1), 1) := by decide +kernel
theorem dX9_rowByte_59 : decode cX9_rowByte 59 = .ok (.ireturn, 1) := by decide +kernel
theorem dX9_rowByte_48 : decode cX9_rowByte 48 = .ok (.aload 4, 2) := by decide +kernel
theorem dX9_rowByte_50 : decode cX9_rowByte 50 = .ok (.iload_n 2, 1) := by decide +kernel
theorem dX9_rowByte_51 : decode cX9_rowByte 51 = .ok (.iload_n 3, 1) := by decide +kernel
theorem dX9_rowByte_52 : decode cX9_rowByte 52 = .ok (.invokevirtual 146, 3) := by decide +kernel
theorem dX9_rowByte_55 : decode cX9_rowByte 55 = .ok (.goto 4, 3) := by decide +kernel
theorem dX9_rowByte_12 : decode cX9_rowByte 12 = .ok (.bipush (-2), 2) := by decide +kernel
theorem dX9_rowByte_14 : decode cX9_rowByte 14 = .ok (.ireturn, 1) := by decide +kernel
theorem dX9_who_0 : decode cX9_who 0 = .ok (.iload_n 1, 1) := by decide +kernel
theorem dX9_who_1 : decode cX9_who 1 = .ok (.ifCond .lt 18, 3) := by decide +kernel
theorem dX9_who_19 : decode cX9_who 19 = .ok (.bipush (-2), 2) := by decide +kernel
theorem dX9_who_21 : decode cX9_who 21 = .ok (.ireturn, 1) := by decide +kernel
theorem dX9_who_4 : decode cX9_who 4 = .ok (.iload_n 1, 1) := by decide +kernel
theorem dX9_who_5 : decode cX9_who 5 = .ok (.aload_n 0, 1) := by decide +kernel
theorem dX9_who_6 : decode cX9_who 6 = .ok (.getfield 77, 3) := by decide +kernel
theorem dX9_who_9 : decode cX9_who 9 = .ok (.invokevirtual 256, 3) := by decide +kernel
theorem dX9_who_12 : decode cX9_who 12 = .ok (.if_icmp .ge 7, 3) := by decide +kernel
theorem dX9_who_15 : decode cX9_who 15 = .ok (.iload_n 2, 1) := by decide +kernel
theorem dX9_who_16 : decode cX9_who 16 = .ok (.ifCond .ge 6, 3) := by decide +kernel
theorem dX9_who_22 : decode cX9_who 22 = .ok (.aload_n 0, 1) := by decide +kernel
theorem dX9_who_23 : decode cX9_who 23 = .ok (.getfield 77, 3) := by decide +kernel
theorem dX9_who_26 : decode cX9_who 26 = .ok (.aload_n 0, 1) := by decide +kernel
theorem dX9_who_27 : decode cX9_who 27 = .ok (.getfield 77, 3) := by decide +kernel
theorem dX9_who_30 : decode cX9_who 30 = .ok (.iload_n 1, 1) := by decide +kernel
theorem dX9_who_31 : decode cX9_who 31 = .ok (.invokevirtual 259, 3) := by decide +kernel
theorem dX9_who_34 : decode cX9_who 34 = .ok (.aload_n 0, 1) := by decide +kernel
theorem dX9_who_35 : decode cX9_who 35 = .ok (.getfield 77, 3) := by decide +kernel
theorem dX9_who_38 : decode cX9_who 38 = .ok (.iload_n 1, 1) := by decide +kernel
theorem dX9_who_39 : decode cX9_who 39 = .ok (.iconst 1, 1) := by decide +kernel
theorem dX9_who_40 : decode cX9_who 40 = .ok (.iadd, 1) := by decide +kernel
theorem dX9_who_41 : decode cX9_who 41 = .ok (.invokevirtual 259, 3) := by decide +kernel
theorem dX9_who_44 : decode cX9_who 44 = .ok (.iload_n 2, 1) := by decide +kernel
theorem dX9_who_45 : decode cX9_who 45 = .ok (.invokevirtual 274, 3) := by decide +kernel
theorem dX9_who_48 : decode cX9_who 48 = .ok (.ireturn, 1) := by decide +kernel
set_option maxHeartbeats 1000000 in
set_option maxRecDepth 100000 in
theorem d_rb (l : Launch) (D : va_G) (z : Nat → Nat) (cB cI_ cO : ClassId) (L0 : List Nat) (g0 : hG) (dk tp rd els reo nob pr bk gl sl mo : Nat) (v10 v11 : Int32) (cap : Nat) (xs : List Nat) (Es : List E5) (x1 x2 x3 : Int32) (h_dk : ho L0 g0 dk 1 (.inr (10, [.ref tp, .ref rd, .ref els, .ref reo, .ref nob, .ref pr, .ref bk, .ref gl, .ref sl, .int (nI mo), .int v10, .int v11]))) (h_els : alR cO (z 0) 5 6 L0 g0 els cap xs) (h_es : elsR cB cI_ L0 g0 xs Es) (hxl : xs.length ≤ 60) : eIs l D yX9_rowByte cX9_rowByte 5 (some .int) 4 85 0 0 [.ref dk, .int x1, .int x2, .int x3] z cB cI_ cO L0 g0 (fun r => True) := by
  refine o_si (by decide) (Nat.le_of_ble_eq_true rfl) ?_
  intro p e s m below meth c A ls hf hr hlocks hin hK hP hD hS hA hZ hN hl
  obtain ⟨hx, hb, hml, hown, hts⟩ := id hf
  have hl : lv_has ls 5 [(0, .ref dk), (1, .int x1), (2, .int x2), (3, .int x3)] := hl
  refine lv_aload_n hx hb dX9_rowByte_0 rfl (lv_at hl 0 rfl) ?_
  refine lv_iload_n hx hb dX9_rowByte_1 rfl (lv_at hl 1 rfl) ?_
  refine o_cis (k := 0) (n := 0) hK hP hD hS hA (o_rV (As := [.int x1]) (rest := []) hf (d_isE _ _ _ _ _ _ _ _ dk tp rd els reo nob pr bk gl sl mo v10 v11 cap xs Es x1 h_dk h_els h_es hxl _) k_736 k_733 k_735 k_22 k_84 (nA := 1) (by decide +kernel) ⟨Nat.le_of_ble_eq_true rfl, Nat.le_of_ble_eq_true rfl⟩ hK hP hD hS hA hZ hN h_dk rfl rfl rfl hl.1 rfl (Nat.le_of_ble_eq_true rfl) dX9_rowByte_2 ⟨(show 0 + 0 ≤ 0 by omega), (show 0 + 0 ≤ 0 by omega)⟩) (Nat.le_refl _) (Nat.le_refl _) (fun r H locs hw hP hD hS => ?_)
  rcases hw with ⟨c_1, rfl⟩ | ⟨c_1, rfl⟩
  · have hP := hP
    refine lv_if_eq (tgt := 12) hx hb dX9_rowByte_5 (by decide) (fun hno => absurd hno (by decide)) (fun _ => ?_)
    refine lv_iload_n hx hb dX9_rowByte_8 rfl (lv_at hl 3 rfl) ?_
    refine lv_if_ge (tgt := 15) hx hb dX9_rowByte_9 (by decide) (fun c_2 => ?_) (fun c_2 => ?_)
    · obtain ⟨j, hj, rfl⟩ := c_1
      have hl : lv_has ls 5 [(0, .ref dk), (1, .int (nI j)), (2, .int x2), (3, .int x3)] := hl
      refine lv_aload_n hx hb dX9_rowByte_15 rfl (lv_at hl 0 rfl) ?_
      refine lv_iload_n hx hb dX9_rowByte_16 rfl (lv_at hl 1 rfl) ?_
      refine o_crs (k := 0) (n := 0) hK hP hD hS hA (o_rV (As := [.int (nI j)]) (rest := []) hf (d_elAt _ _ _ _ _ _ _ _ dk tp rd els reo nob pr bk gl sl mo v10 v11 cap xs Es j h_dk h_els h_es hxl (by omega) _) k_740 k_737 k_739 k_23 k_84 (nA := 1) (by decide +kernel) ⟨Nat.le_of_ble_eq_true rfl, Nat.le_of_ble_eq_true rfl⟩ hK hP hD hS hA hZ hN h_dk rfl rfl rfl hl.1 rfl (Nat.le_of_ble_eq_true rfl) dX9_rowByte_17 ⟨(show 0 + 0 ≤ 0 by omega), (show 0 + 0 ≤ 0 by omega)⟩) (Nat.le_refl _) (Nat.le_refl _) (fun r H locs hw hP hD hS => ?_)
      obtain rfl := hw
      obtain ⟨⟨txg3, rfg3, rtg3, h_eg3⟩, hr_g3⟩ := h_es.o2 (show j < xs.length by omega)
      refine lv_astore (lv' := [(4, .ref (xs.getD j 0)), (0, .ref dk), (1, .int (nI j)), (2, .int x2), (3, .int x3)]) hx hb dX9_rowByte_20 hl (by decide) rfl (fun ls hl => ?_)
      obtain ⟨tx, rf, rt, N0, M, tf, f1, f2, h_el, h_tx, h_rf, h_rt, hrb, hrow_⟩ := (h_es.2.2 j hj).row
      refine lv_iload_n hx hb dX9_rowByte_22 rfl (lv_at hl 3 rfl) ?_
      refine lv_if_lt (tgt := 35) hx hb dX9_rowByte_23 (by decide) (fun c_4 => ?_) (fun c_4 => ?_)
      · refine lv_bipush (v := (-2)) hx hb dX9_rowByte_35 (by decide) ?_
        exact o_ri hf hr rfl hlocks hK hP hD hS (show 0 ≤ 0 by omega) (show 0 ≤ 0 by omega) ⟨trivial, rfl, rfl⟩ dX9_rowByte_37
      · refine lv_iload_n hx hb dX9_rowByte_26 rfl (lv_at hl 3 rfl) ?_
        refine lv_aload hx hb dX9_rowByte_27 (lv_at hl 0 rfl) ?_
        refine o_cis (k := 0) (n := 0) hK hP hD hS hA (o_rV (As := []) (rest := [.int x2]) hf (l_rows _ _ _ _ _ _ _ _ (xs.getD j 0) ((Es.getD j dE).1) ((Es.getD j dE).2.1) ((Es.getD j dE).2.2.1) tx ((Es.getD j dE).2.2.2.2.length) ((Es.getD j dE).2.2.2.1) rf rt ((tx_rows (Es.getD j dE).1 (Es.getD j dE).2.2.2.2).length) h_el _) k_695 k_692 k_693 k_694 k_90 (nA := 0) (by decide +kernel) ⟨Nat.le_of_ble_eq_true rfl, Nat.le_of_ble_eq_true rfl⟩ hK hP hD hS hA hZ hN h_el rfl rfl rfl hl.1 rfl (Nat.le_of_ble_eq_true rfl) dX9_rowByte_29 ⟨(show 0 + 0 ≤ 0 by omega), (show 0 + 0 ≤ 0 by omega)⟩) (Nat.le_refl _) (Nat.le_refl _) (fun r H locs hw hP hD hS => ?_)
        obtain rfl := hw
        refine lv_icmp_lt (tgt := 38) hx hb dX9_rowByte_32 (by decide) (fun c_5 => ?_) (fun c_5 => ?_)
        · obtain ⟨row, hrow, rfl⟩ := ix_lt (by omega) c_4 c_5
          obtain ⟨a, b, ha, hb_, hab, hbN, hba⟩ := hrow_ row hrow
          have hl : lv_has ls 5 [(4, .ref (xs.getD j 0)), (0, .ref dk), (1, .int (nI j)), (2, .int (nI row)), (3, .int x3)] := hl
          refine lv_iload_n hx hb dX9_rowByte_38 rfl (lv_at hl 4 rfl) ?_
          refine lv_aload hx hb dX9_rowByte_39 (lv_at hl 0 rfl) ?_
          refine lv_iload_n hx hb dX9_rowByte_41 rfl (lv_at hl 3 rfl) ?_
          refine o_cis (k := 0) (n := 0) hK hP hD hS hA (o_rV (As := [.int (nI row)]) (rest := [.int x3]) hf (l_rlen _ _ _ _ _ _ _ _ (xs.getD j 0) tx rf rt _ _ _ _ _ M _ f1 f2 row a b h_el h_rf h_rt hrow hrb.1 hrb.2.1 ha hb_ hab (by omega) _) k_752 k_749 k_750 k_751 k_90 (nA := 1) (by decide +kernel) ⟨Nat.le_of_ble_eq_true rfl, Nat.le_of_ble_eq_true rfl⟩ hK hP hD hS hA hZ hN h_el rfl rfl rfl hl.1 rfl (Nat.le_of_ble_eq_true rfl) dX9_rowByte_42 ⟨(show 0 + 0 ≤ 0 by omega), (show 0 + 0 ≤ 0 by omega)⟩) (Nat.le_refl _) (Nat.le_refl _) (fun r H locs hw hP hD hS => ?_)
          obtain rfl := hw
          refine lv_icmp_ge (tgt := 58) hx hb dX9_rowByte_45 (by decide) (fun c_6 => ?_) (fun c_6 => ?_)
          · refine lv_iconst (v := (-1)) hx hb dX9_rowByte_58 (by decide) ?_
            exact o_ri hf hr rfl hlocks hK hP hD hS (show 0 ≤ 0 by omega) (show 0 ≤ 0 by omega) ⟨trivial, rfl, rfl⟩ dX9_rowByte_59
          · obtain ⟨i, hi, rfl⟩ := ix_lt (by omega) (q_nlt_le c_2) (q_lt_nle c_6)
            have hl : lv_has ls 5 [(4, .ref (xs.getD j 0)), (0, .ref dk), (1, .int (nI j)), (2, .int (nI row)), (3, .int (nI i))] := hl
            refine lv_aload hx hb dX9_rowByte_48 (lv_at hl 0 rfl) ?_
            refine lv_iload_n hx hb dX9_rowByte_50 rfl (lv_at hl 3 rfl) ?_
            refine lv_iload_n hx hb dX9_rowByte_51 rfl (lv_at hl 4 rfl) ?_
            refine o_cis (k := 0) (n := 0) hK hP hD hS hA (o_rV (As := [.int (nI row), .int (nI i)]) (rest := []) hf (l_rbyte _ _ _ _ _ _ _ _ (xs.getD j 0) tx rf rt _ _ _ _ _ M _ f1 f2 row a b N0 i tf h_el h_rf h_rt h_tx hrow hrb.1 hrb.2.1 ha hb_ hab (by omega) hi hbN hrb.2.2.1 _) k_756 k_753 k_754 k_755 k_90 (nA := 2) (by decide +kernel) ⟨Nat.le_of_ble_eq_true rfl, Nat.le_of_ble_eq_true rfl⟩ hK hP hD hS hA hZ hN h_el rfl rfl rfl hl.1 rfl (Nat.le_of_ble_eq_true rfl) dX9_rowByte_52 ⟨(show 0 + 0 ≤ 0 by omega), (show 0 + 0 ≤ 0 by omega)⟩) (Nat.le_refl _) (Nat.le_refl _) (fun r H locs hw hP hD hS => ?_)
            obtain rfl := hw
            refine lv_goto (tgt := 59) hx hb dX9_rowByte_55 (by decide) ?_
            exact o_ri hf hr rfl hlocks hK hP hD hS (show 0 ≤ 0 by omega) (show 0 ≤ 0 by omega) ⟨trivial, rfl, rfl⟩ dX9_rowByte_59
        · refine lv_bipush (v := (-2)) hx hb dX9_rowByte_35 (by decide) ?_
          exact o_ri hf hr rfl hlocks hK hP hD hS (show 0 ≤ 0 by omega) (show 0 ≤ 0 by omega) ⟨trivial, rfl, rfl⟩ dX9_rowByte_37
    · refine lv_bipush (v := (-2)) hx hb dX9_rowByte_12 (by decide) ?_
      exact o_ri hf hr rfl hlocks hK hP hD hS (show 0 ≤ 0 by omega) (show 0 ≤ 0 by omega) ⟨trivial, rfl, rfl⟩ dX9_rowByte_14
  · have hP := hP
    refine lv_if_eq (tgt := 12) hx hb dX9_rowByte_5 (by decide) (fun _ => ?_) (fun hno => absurd hno (by decide))
    refine lv_bipush (v := (-2)) hx hb dX9_rowByte_12 (by decide) ?_
    exact o_ri hf hr rfl hlocks hK hP hD hS (show 0 ≤ 0 by omega) (show 0 ≤ 0 by omega) ⟨trivial, rfl, rfl⟩ dX9_rowByte_14
theorem sl_begin2 (l : Launch) (D : va_G) (z : Nat → Nat) (cB cI_ cO : ClassId) (L0 : List Nat) (g0 : hG) (pr pcs spr nwh cp : Nat) (pa : List Nat) (ea : Nat → Nat) (P : List Q4) (ne : Nat) (EE : Nat → E5) (sl : Nat) (ss : Nat) (h_pr : ho L0 g0 pr 13 (.inr (7, [.ref pcs, .ref spr, .ref nwh]))) (h_pcs : alR cO (z 0) 14 15 L0 g0 pcs cp pa) (h_pc : pcR L0 g0 ea pa P) (h_es : esR cB cI_ L0 g0 ea ne EE) (h_sl : ho L0 g0 sl 29 (.inr (8, [.ref pr]))) (hpa : pa.length ≤ 20000) (hQ : pq_ok ne EE P) (hss : ss ≤ 20000) : eIs l D yX7_begin cX7_begin 4 (some .int) 8 200 0 0 [.ref sl, .int (nI ss)] z cB cI_ cO L0 g0 (fun r => ∃ t, r = nI t ∧ bgs EE P pa.length ss t) := by
  refine eI_mo (sl_begin l D z cB cI_ cO L0 g0 pr pcs spr nwh cp pa ea P ne EE sl ss h_pr h_pcs h_pc h_es h_sl hpa hQ hss) (fun r L g h => ?_)
  obtain ⟨h1, h2, h3⟩ := h
  refine ⟨?_, h2, h3⟩
  rcases h1 with ⟨t, h4, h5⟩ | ⟨h4, h5⟩
  · exact ⟨t, h5, Or.inl h4⟩
  · exact ⟨_, h5, Or.inr ⟨rfl, h4⟩⟩
theorem sl_person2 (l : Launch) (D : va_G) (z : Nat → Nat) (cB cI_ cO : ClassId) (L0 : List Nat) (g0 : hG) (pr pcs spr nwh cp : Nat) (pa : List Nat) (ea : Nat → Nat) (P : List Q4) (ne : Nat) (EE : Nat → E5) (sl : Nat) (fm to_ : Nat) (x2 : Int32) (h_pr : ho L0 g0 pr 13 (.inr (7, [.ref pcs, .ref spr, .ref nwh]))) (h_pcs : alR cO (z 0) 14 15 L0 g0 pcs cp pa) (h_pc : pcR L0 g0 ea pa P) (h_es : esR cB cI_ L0 g0 ea ne EE) (h_sl : ho L0 g0 sl 29 (.inr (8, [.ref pr]))) (hpa : pa.length ≤ 20000) (hQ : pq_ok ne EE P) (hft : fm ≤ to_) (hto : to_ ≤ pa.length) (hx2 : ¬ x2 < 0) : eIs l D yX7_personIn cX7_personIn 6 (some .int) 9 240 0 0 [.ref sl, .int (nI fm), .int (nI to_), .int x2] z cB cI_ cO L0 g0 (fun _ => True ∧ True) := by
  obtain ⟨wt, hwt, rfl⟩ := ix_any hx2
  refine eI_mo (sl_person l D z cB cI_ cO L0 g0 pr pcs spr nwh cp pa ea P ne EE sl fm to_ wt h_pr h_pcs h_pc h_es h_sl hpa hQ hft hto hwt) (fun r L g h => ⟨⟨trivial, trivial⟩, h.2⟩)
set_option maxHeartbeats 1000000 in
set_option maxRecDepth 100000 in
theorem d_who (l : Launch) (D : va_G) (z : Nat → Nat) (cB cI_ cO : ClassId) (L0 : List Nat) (g0 : hG) (dk tp rd els reo nob bk gl mo : Nat) (pr pcs spr nwh cp : Nat) (pa : List Nat) (ea : Nat → Nat) (P : List Q4) (ne : Nat) (EE : Nat → E5) (sl : Nat) (v10 v11 : Int32) (x1 x2 : Int32) (h_dk : ho L0 g0 dk 1 (.inr (10, [.ref tp, .ref rd, .ref els, .ref reo, .ref nob, .ref pr, .ref bk, .ref gl, .ref sl, .int (nI mo), .int v10, .int v11]))) (h_pr : ho L0 g0 pr 13 (.inr (7, [.ref pcs, .ref spr, .ref nwh]))) (h_pcs : alR cO (z 0) 14 15 L0 g0 pcs cp pa) (h_pc : pcR L0 g0 ea pa P) (h_es : esR cB cI_ L0 g0 ea ne EE) (h_sl : ho L0 g0 sl 29 (.inr (8, [.ref pr]))) (hpa : pa.length ≤ 20000) (hQ : pq_ok ne EE P) (hSn : qS P pa.length ≤ 8000) : eIs l D yX9_who cX9_who 3 (some .int) 10 265 0 0 [.ref dk, .int x1, .int x2] z cB cI_ cO L0 g0 (fun r => True) := by
  refine o_si (by decide) (Nat.le_of_ble_eq_true rfl) ?_
  intro p e s m below meth c A ls hf hr hlocks hin hK hP hD hS hA hZ hN hl
  obtain ⟨hx, hb, hml, hown, hts⟩ := id hf
  have hl : lv_has ls 3 [(0, .ref dk), (1, .int x1), (2, .int x2)] := hl
  refine lv_iload_n hx hb dX9_who_0 rfl (lv_at hl 1 rfl) ?_
  refine lv_if_lt (tgt := 19) hx hb dX9_who_1 (by decide) (fun c_1 => ?_) (fun c_1 => ?_)
  · refine lv_bipush (v := (-2)) hx hb dX9_who_19 (by decide) ?_
    exact o_ri hf hr rfl hlocks hK hP hD hS (show 0 ≤ 0 by omega) (show 0 ≤ 0 by omega) ⟨trivial, rfl, rfl⟩ dX9_who_21
  · refine lv_iload_n hx hb dX9_who_4 rfl (lv_at hl 1 rfl) ?_
    refine lv_aload_n hx hb dX9_who_5 rfl (lv_at hl 0 rfl) ?_
    refine o_get (D := D) (ci := 10) (v := .ref sl) (C := RX9) (T := TX9) (N := 12) hx hb hts inX9 hown hK hP h_dk rfl 8 (by decide) (hts _ k_437) (fun _ h9 => h9) rfl dX9_who_6 ?_
    refine o_cis (k := 0) (n := 0) hK hP hD hS hA (o_rV (As := []) (rest := [.int x1]) hf (sl_count _ _ _ _ _ _ _ _ pr pcs spr nwh cp pa ea P ne EE sl h_pr h_pcs h_pc h_es h_sl hpa hQ _) k_1045 k_1042 k_1043 k_1044 k_97 (nA := 0) (by decide +kernel) ⟨Nat.le_of_ble_eq_true rfl, Nat.le_of_ble_eq_true rfl⟩ hK hP hD hS hA hZ hN h_sl rfl rfl rfl hl.1 rfl (Nat.le_of_ble_eq_true rfl) dX9_who_9 ⟨(show 0 + 0 ≤ 0 by omega), (show 0 + 0 ≤ 0 by omega)⟩) (Nat.le_refl _) (Nat.le_refl _) (fun r H locs hw hP hD hS => ?_)
    obtain rfl := hw
    refine lv_icmp_ge (tgt := 19) hx hb dX9_who_12 (by decide) (fun c_2 => ?_) (fun c_2 => ?_)
    · refine lv_bipush (v := (-2)) hx hb dX9_who_19 (by decide) ?_
      exact o_ri hf hr rfl hlocks hK hP hD hS (show 0 ≤ 0 by omega) (show 0 ≤ 0 by omega) ⟨trivial, rfl, rfl⟩ dX9_who_21
    · refine lv_iload_n hx hb dX9_who_15 rfl (lv_at hl 2 rfl) ?_
      refine lv_if_ge (tgt := 22) hx hb dX9_who_16 (by decide) (fun c_3 => ?_) (fun c_3 => ?_)
      · have hpl9 := pcnt_le (bgq EE P 0) pa.length
        obtain ⟨ss, hss, rfl⟩ := ix_lt (by omega) c_1 (q_lt_nle c_2)
        have hl : lv_has ls 3 [(0, .ref dk), (1, .int (nI ss)), (2, .int x2)] := hl
        have hw31 := (q_nlt_le c_3)
        refine lv_aload_n hx hb dX9_who_22 rfl (lv_at hl 0 rfl) ?_
        refine o_get (D := D) (ci := 10) (v := .ref sl) (C := RX9) (T := TX9) (N := 12) hx hb hts inX9 hown hK hP h_dk rfl 8 (by decide) (hts _ k_437) (fun _ h9 => h9) rfl dX9_who_23 ?_
        refine lv_aload_n hx hb dX9_who_26 rfl (lv_at hl 0 rfl) ?_
        refine o_get (D := D) (ci := 10) (v := .ref sl) (C := RX9) (T := TX9) (N := 12) hx hb hts inX9 hown hK hP h_dk rfl 8 (by decide) (hts _ k_437) (fun _ h9 => h9) rfl dX9_who_27 ?_
        refine lv_iload_n hx hb dX9_who_30 rfl (lv_at hl 1 rfl) ?_
        refine o_cis (k := 0) (n := 0) hK hP hD hS hA (o_rV (As := [.int (nI ss)]) (rest := [.ref sl]) hf (sl_begin2 _ _ _ _ _ _ _ _ pr pcs spr nwh cp pa ea P ne EE sl ss h_pr h_pcs h_pc h_es h_sl hpa hQ (by omega) _) k_1060 k_1057 k_1058 k_1059 k_97 (nA := 1) (by decide +kernel) ⟨Nat.le_of_ble_eq_true rfl, Nat.le_of_ble_eq_true rfl⟩ hK hP hD hS hA hZ hN h_sl rfl rfl rfl hl.1 rfl (Nat.le_of_ble_eq_true rfl) dX9_who_31 ⟨(show 0 + 0 ≤ 0 by omega), (show 0 + 0 ≤ 0 by omega)⟩) (Nat.le_refl _) (Nat.le_refl _) (fun r H locs hw hP hD hS => ?_)
        obtain ⟨t4, rfl, ht4⟩ := hw
        have hlt4 := bgs_le ht4
        have hk1 := bgs_in ht4 (show ss < pcnt (bgq EE P 0) pa.length by omega)
        refine lv_aload_n hx hb dX9_who_34 rfl (lv_at hl 0 rfl) ?_
        refine o_get (D := D) (ci := 10) (v := .ref sl) (C := RX9) (T := TX9) (N := 12) hx hb hts inX9 hown hK hP h_dk rfl 8 (by decide) (hts _ k_437) (fun _ h9 => h9) rfl dX9_who_35 ?_
        refine lv_iload_n hx hb dX9_who_38 rfl (lv_at hl 1 rfl) ?_
        refine lv_iconst (v := 1) hx hb dX9_who_39 (by decide) ?_
        refine lv_iadd hx hb dX9_who_40 ?_
        refine q_seti (y := nI (ss + 1)) (nI_addE (a := ss) (b := 1) (by omega)) ?_
        refine o_cis (k := 0) (n := 0) hK hP hD hS hA (o_rV (As := [.int (nI (ss + 1))]) (rest := [.int (nI t4), .ref sl]) hf (sl_begin2 _ _ _ _ _ _ _ _ pr pcs spr nwh cp pa ea P ne EE sl (ss + 1) h_pr h_pcs h_pc h_es h_sl hpa hQ (by omega) _) k_1060 k_1057 k_1058 k_1059 k_97 (nA := 1) (by decide +kernel) ⟨Nat.le_of_ble_eq_true rfl, Nat.le_of_ble_eq_true rfl⟩ hK hP hD hS hA hZ hN h_sl rfl rfl rfl hl.1 rfl (Nat.le_of_ble_eq_true rfl) dX9_who_41 ⟨(show 0 + 0 ≤ 0 by omega), (show 0 + 0 ≤ 0 by omega)⟩) (Nat.le_refl _) (Nat.le_refl _) (fun r H locs hw hP hD hS => ?_)
        obtain ⟨t5, rfl, ht5⟩ := hw
        have hlt5 := bgs_le ht5
        have hk2 := bgs_mo ht4 ht5 (show ss < ss + 1 by omega) hk1
        refine lv_iload_n hx hb dX9_who_44 rfl (lv_at hl 2 rfl) ?_
        refine o_cis (k := 0) (n := 0) hK hP hD hS hA (o_rV (As := [.int (nI t4), .int (nI t5), .int x2]) (rest := []) hf (sl_person2 _ _ _ _ _ _ _ _ pr pcs spr nwh cp pa ea P ne EE sl t4 t5 x2 h_pr h_pcs h_pc h_es h_sl hpa hQ (by omega) (by omega) hw31 _) k_1101 k_1098 k_1099 k_1100 k_97 (nA := 3) (by decide +kernel) ⟨Nat.le_of_ble_eq_true rfl, Nat.le_of_ble_eq_true rfl⟩ hK hP hD hS hA hZ hN h_sl rfl rfl rfl hl.1 rfl (Nat.le_of_ble_eq_true rfl) dX9_who_45 ⟨(show 0 + 0 ≤ 0 by omega), (show 0 + 0 ≤ 0 by omega)⟩) (Nat.le_refl _) (Nat.le_refl _) (fun r H locs hw hP hD hS => ?_)
        obtain ⟨hpe, _⟩ := hw
        exact o_ri hf hr rfl hlocks hK hP hD hS (show 0 ≤ 0 by omega) (show 0 ≤ 0 by omega) ⟨trivial, rfl, rfl⟩ dX9_who_48
      · refine lv_bipush (v := (-2)) hx hb dX9_who_19 (by decide) ?_
        exact o_ri hf hr rfl hlocks hK hP hD hS (show 0 ≤ 0 by omega) (show 0 ≤ 0 by omega) ⟨trivial, rfl, rfl⟩ dX9_who_21
