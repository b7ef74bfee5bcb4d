abbrev cX10_layRows : ByteArray := prog_12_method_18_code
def yX10_layRows : MethodName := ⟨RX10, "layRows", "(I)V"⟩
abbrev cX10_width : ByteArray := prog_12_method_16_code
def yX10_width : MethodName := ⟨RX10, "width", "(I)I"⟩
theorem k_57 : (Cond.selects RX10 yX10_part yX10_part) ∈ gT := gT_i 57 (by decide +kernel) rfl
theorem k_1349 : (Cond.methodLink RX10 150 yX10_width) ∈ gT := gT_i 1349 (by decide +kernel) rfl
theorem k_1350 : (Cond.static yX10_width) ∈ gT := gT_i 1350 (by decide +kernel) rfl
theorem k_1351 : (Cond.code yX10_width cX10_width 1 (some .int)) ∈ gT := gT_i 1351 (by decide +kernel) rfl
theorem k_1352 : (Cond.methodLink RX10 154 yX10_part) ∈ gT := gT_i 1352 (by decide +kernel) rfl
theorem k_1354 : (Cond.instanceMethod yX10_part) ∈ gT := gT_i 1354 (by decide +kernel) rfl
theorem k_1355 : (Cond.code yX10_part cX10_part 6 none) ∈ gT := gT_i 1355 (by decide +kernel) rfl
theorem dX10_width_0 : decode cX10_width 0 = .ok (.iload_n 0, 1) := by decide +kernel
theorem dX10_width_1 : decode cX10_width 1 = .ok (.iconst 2, 1) := by decide +kernel
theorem dX10_width_2 : decode cX10_width 2 = .ok (.if_icmp .ne 8, 3) := by decide +kernel
theorem dX10_width_10 : decode cX10_width 10 = .ok (.iload_n 0, 1) := by decide +kernel
theorem dX10_width_11 : decode cX10_width 11 = .ok (.iconst 3, 1) := by decide +kernel
theorem dX10_width_12 : decode cX10_width 12 = .ok (.if_icmp .ne 8, 3) := by decide +kernel
theorem dX10_width_20 : decode cX10_width 20 = .ok (.iload_n 0, 1) := by decide +kernel
theorem dX10_width_21 : decode cX10_width 21 = .ok (.iconst 4, 1) := by decide +kernel
theorem dX10_width_22 : decode cX10_width 22 = .ok (.if_icmp .ne 8, 3) := by decide +kernel
theorem dX10_width_30 : decode cX10_width 30 = .ok (.bipush 40, 2) := by decide +kernel
theorem dX10_width_32 : decode cX10_width 32 = .ok (.ireturn, 1) := by decide +kernel
theorem dX10_width_25 : decode cX10_width 25 = .ok (.bipush 28, 2) := by decide +kernel
theorem dX10_width_27 : decode cX10_width 27 = .ok (.goto 5, 3) := by decide +kernel
theorem dX10_width_15 : decode cX10_width 15 = .ok (.bipush 20, 2) := by decide +kernel
theorem dX10_width_17 : decode cX10_width 17 = .ok (.goto 15, 3) := by decide +kernel
theorem dX10_width_5 : decode cX10_width 5 = .ok (.bipush 24, 2) := by decide +kernel
theorem dX10_width_7 : decode cX10_width 7 = .ok (.goto 25, 3) := by decide +kernel
theorem dX10_layRows_25 : decode cX10_layRows 25 = .ok (.iload 4, 2) := by decide +kernel
theorem dX10_layRows_27 : decode cX10_layRows 27 = .ok (.aload_n 0, 1) := by decide +kernel
theorem dX10_layRows_28 : decode cX10_layRows 28 = .ok (.getfield 34, 3) := by decide +kernel
theorem dX10_layRows_31 : decode cX10_layRows 31 = .ok (.iload_n 1, 1) := by decide +kernel
theorem dX10_layRows_32 : decode cX10_layRows 32 = .ok (.iaload, 1) := by decide +kernel
theorem dX10_layRows_33 : decode cX10_layRows 33 = .ok (.if_icmp .ge 27, 3) := by decide +kernel
theorem dX10_layRows_36 : decode cX10_layRows 36 = .ok (.aload_n 0, 1) := by decide +kernel
theorem dX10_layRows_37 : decode cX10_layRows 37 = .ok (.getfield 38, 3) := by decide +kernel
theorem dX10_layRows_40 : decode cX10_layRows 40 = .ok (.sipush 1200, 3) := by decide +kernel
theorem dX10_layRows_43 : decode cX10_layRows 43 = .ok (.iload_n 1, 1) := by decide +kernel
theorem dX10_layRows_44 : decode cX10_layRows 44 = .ok (.imul, 1) := by decide +kernel
theorem dX10_layRows_45 : decode cX10_layRows 45 = .ok (.iload 4, 2) := by decide +kernel
theorem dX10_layRows_47 : decode cX10_layRows 47 = .ok (.iadd, 1) := by decide +kernel
theorem dX10_layRows_48 : decode cX10_layRows 48 = .ok (.baload, 1) := by decide +kernel
theorem dX10_layRows_49 : decode cX10_layRows 49 = .ok (.bipush 32, 2) := by decide +kernel
theorem dX10_layRows_51 : decode cX10_layRows 51 = .ok (.if_icmp .eq 9, 3) := by decide +kernel
theorem dX10_layRows_54 : decode cX10_layRows 54 = .ok (.iinc 4 1, 3) := by decide +kernel
theorem dX10_layRows_57 : decode cX10_layRows 57 = .ok (.goto (-32), 3) := by decide +kernel
theorem dX10_layRows_60 : decode cX10_layRows 60 = .ok (.iload 4, 2) := by decide +kernel
theorem dX10_layRows_62 : decode cX10_layRows 62 = .ok (.iload_n 3, 1) := by decide +kernel
theorem dX10_layRows_63 : decode cX10_layRows 63 = .ok (.isub, 1) := by decide +kernel
theorem dX10_layRows_64 : decode cX10_layRows 64 = .ok (.iload_n 2, 1) := by decide +kernel
theorem dX10_layRows_65 : decode cX10_layRows 65 = .ok (.if_icmp .le 18, 3) := by decide +kernel
theorem dX10_layRows_68 : decode cX10_layRows 68 = .ok (.aload_n 0, 1) := by decide +kernel
theorem dX10_layRows_69 : decode cX10_layRows 69 = .ok (.iload_n 1, 1) := by decide +kernel
theorem dX10_layRows_70 : decode cX10_layRows 70 = .ok (.iload_n 3, 1) := by decide +kernel
theorem dX10_layRows_71 : decode cX10_layRows 71 = .ok (.iload_n 2, 1) := by decide +kernel
theorem dX10_layRows_72 : decode cX10_layRows 72 = .ok (.iload_n 2, 1) := by decide +kernel
theorem dX10_layRows_73 : decode cX10_layRows 73 = .ok (.invokevirtual 154, 3) := by decide +kernel
theorem dX10_layRows_76 : decode cX10_layRows 76 = .ok (.iload_n 3, 1) := by decide +kernel
theorem dX10_layRows_77 : decode cX10_layRows 77 = .ok (.iload_n 2, 1) := by decide +kernel
theorem dX10_layRows_78 : decode cX10_layRows 78 = .ok (.iadd, 1) := by decide +kernel
theorem dX10_layRows_79 : decode cX10_layRows 79 = .ok (.istore_n 3, 1) := by decide +kernel
theorem dX10_layRows_80 : decode cX10_layRows 80 = .ok (.goto (-20), 3) := by decide +kernel
theorem dX10_layRows_12 : decode cX10_layRows 12 = .ok (.iload_n 3, 1) := by decide +kernel
theorem dX10_layRows_13 : decode cX10_layRows 13 = .ok (.aload_n 0, 1) := by decide +kernel
theorem dX10_layRows_14 : decode cX10_layRows 14 = .ok (.getfield 34, 3) := by decide +kernel
theorem dX10_layRows_17 : decode cX10_layRows 17 = .ok (.iload_n 1, 1) := by decide +kernel
theorem dX10_layRows_18 : decode cX10_layRows 18 = .ok (.iaload, 1) := by decide +kernel
theorem dX10_layRows_19 : decode cX10_layRows 19 = .ok (.if_icmp .ge 83, 3) := by decide +kernel
theorem dX10_layRows_22 : decode cX10_layRows 22 = .ok (.iload_n 3, 1) := by decide +kernel
theorem dX10_layRows_23 : decode cX10_layRows 23 = .ok (.istore 4, 2) := by decide +kernel
theorem dX10_layRows_83 : decode cX10_layRows 83 = .ok (.aload_n 0, 1) := by decide +kernel
theorem dX10_layRows_84 : decode cX10_layRows 84 = .ok (.iload_n 1, 1) := by decide +kernel
theorem dX10_layRows_85 : decode cX10_layRows 85 = .ok (.iload_n 3, 1) := by decide +kernel
theorem dX10_layRows_86 : decode cX10_layRows 86 = .ok (.iload 4, 2) := by decide +kernel
theorem dX10_layRows_88 : decode cX10_layRows 88 = .ok (.iload_n 3, 1) := by decide +kernel
theorem dX10_layRows_89 : decode cX10_layRows 89 = .ok (.isub, 1) := by decide +kernel
theorem dX10_layRows_90 : decode cX10_layRows 90 = .ok (.iload_n 2, 1) := by decide +kernel
theorem dX10_layRows_91 : decode cX10_layRows 91 = .ok (.invokevirtual 154, 3) := by decide +kernel
theorem dX10_layRows_94 : decode cX10_layRows 94 = .ok (.iload 4, 2) := by decide +kernel
theorem dX10_layRows_96 : decode cX10_layRows 96 = .ok (.iconst 1, 1) := by decide +kernel
theorem dX10_layRows_97 : decode cX10_layRows 97 = .ok (.iadd, 1) := by decide +kernel
theorem dX10_layRows_98 : decode cX10_layRows 98 = .ok (.istore_n 3, 1) := by decide +kernel
theorem dX10_layRows_99 : decode cX10_layRows 99 = .ok (.goto (-87), 3) := by decide +kernel
theorem dX10_layRows_0 : decode cX10_layRows 0 = .ok (.aload_n 0, 1) := by decide +kernel
theorem dX10_layRows_1 : decode cX10_layRows 1 = .ok (.getfield 25, 3) := by decide +kernel
theorem dX10_layRows_4 : decode cX10_layRows 4 = .ok (.iload_n 1, 1) := by decide +kernel
theorem dX10_layRows_5 : decode cX10_layRows 5 = .ok (.iaload, 1) := by decide +kernel
theorem dX10_layRows_6 : decode cX10_layRows 6 = .ok (.invokestatic 150, 3) := by decide +kernel
theorem dX10_layRows_9 : decode cX10_layRows 9 = .ok (.istore_n 2, 1) := by decide +kernel
theorem dX10_layRows_10 : decode cX10_layRows 10 = .ok (.iconst 0, 1) := by decide +kernel
theorem dX10_layRows_11 : decode cX10_layRows 11 = .ok (.istore_n 3, 1) := by decide +kernel
theorem dX10_layRows_102 : decode cX10_layRows 102 = .ok (.return_, 1) := by decide +kernel
set_option maxHeartbeats 1000000 in
set_option maxRecDepth 100000 in
theorem m_X10_width_1 (l : Launch) (D : va_G) (i0 : Int32) : cI l D yX10_width cX10_width 1 (some .int) 0 0 0 0 [.int i0] zT [] [] (fun r u => (¬ i0 = 2 ∧ ¬ i0 = 3 ∧ ¬ i0 = 4 ∧ r = 40 ∧ u = ([], [])) ∨ (¬ i0 = 2 ∧ ¬ i0 = 3 ∧ i0 = 4 ∧ r = 28 ∧ u = ([], [])) ∨ (¬ i0 = 2 ∧ i0 = 3 ∧ r = 20 ∧ u = ([], [])) ∨ (i0 = 2 ∧ r = 24 ∧ u = ([], []))) := by
  refine q_si (by decide) (Nat.le_of_ble_eq_true rfl) ?_
  intro p e s m below meth c A ls hAe hf hr hlocks hin hK hP hD hS hA hZ hl
  obtain ⟨hx, hb, hml, hown, hts⟩ := id hf
  have hl : lv_has ls 1 [(0, .int i0)] := hl
  refine lv_iload_n hx hb dX10_width_0 rfl (lv_at hl 0 rfl) ?_
  refine lv_iconst (v := 2) hx hb dX10_width_1 (by decide) ?_
  refine lv_icmp_ne (tgt := 10) hx hb dX10_width_2 (by decide) (fun c_1 => ?_) (fun c_1 => ?_)
  · refine lv_iload_n hx hb dX10_width_10 rfl (lv_at hl 0 rfl) ?_
    refine lv_iconst (v := 3) hx hb dX10_width_11 (by decide) ?_
    refine lv_icmp_ne (tgt := 20) hx hb dX10_width_12 (by decide) (fun c_2 => ?_) (fun c_2 => ?_)
    · refine lv_iload_n hx hb dX10_width_20 rfl (lv_at hl 0 rfl) ?_
      refine lv_iconst (v := 4) hx hb dX10_width_21 (by decide) ?_
      refine lv_icmp_ne (tgt := 30) hx hb dX10_width_22 (by decide) (fun c_3 => ?_) (fun c_3 => ?_)
      · refine lv_bipush (v := 40) hx hb dX10_width_30 (by decide) ?_
        exact q_ri hf hr rfl hlocks hK hP hD hS [] [] (w1 := []) (t1 := []) rfl (by decide) rfl (Nat.le_of_ble_eq_true rfl) (Nat.le_of_ble_eq_true rfl) (Or.inl ⟨c_1, c_2, c_3, rfl, rfl⟩) dX10_width_32
      · refine lv_bipush (v := 28) hx hb dX10_width_25 (by decide) ?_
        refine lv_goto (tgt := 32) hx hb dX10_width_27 (by decide) ?_
        exact q_ri hf hr rfl hlocks hK hP hD hS [] [] (w1 := []) (t1 := []) rfl (by decide) rfl (Nat.le_of_ble_eq_true rfl) (Nat.le_of_ble_eq_true rfl) (Or.inr (Or.inl ⟨c_1, c_2, c_3, rfl, rfl⟩)) dX10_width_32
    · refine lv_bipush (v := 20) hx hb dX10_width_15 (by decide) ?_
      refine lv_goto (tgt := 32) hx hb dX10_width_17 (by decide) ?_
      exact q_ri hf hr rfl hlocks hK hP hD hS [] [] (w1 := []) (t1 := []) rfl (by decide) rfl (Nat.le_of_ble_eq_true rfl) (Nat.le_of_ble_eq_true rfl) (Or.inr (Or.inr (Or.inl ⟨c_1, c_2, rfl, rfl⟩))) dX10_width_32
  · refine lv_bipush (v := 24) hx hb dX10_width_5 (by decide) ?_
    refine lv_goto (tgt := 32) hx hb dX10_width_7 (by decide) ?_
    exact q_ri hf hr rfl hlocks hK hP hD hS [] [] (w1 := []) (t1 := []) rfl (by decide) rfl (Nat.le_of_ble_eq_true rfl) (Nat.le_of_ble_eq_true rfl) (Or.inr (Or.inr (Or.inr ⟨c_1, rfl, rfl⟩))) dX10_width_32
theorem r_part (l : Launch) (D : va_G) (h0 : Nat) (q : Nat → Nat) (cB cI_ cZ : ClassId) (I : Nat → Int32) (F : Nat → Nat → Int32) (t fm n wd : Nat) (Rv : List (Nat × Nat)) (ht : t < 60) (hfm : fm ≤ 1200) (hn : n ≤ 1200) (hwd : wd ≤ 40) (hrs : tx_rs F t Rv (F 11) (F 12) (F 13)) (hR : Rv.length ≤ 121) (hx2 : ∀ x, x ∈ Rv → x.2 ≤ 1200) : cV l D yX10_part cX10_part 6 none 0 0 0 0 [.ref h0, .int (nI t), .int (nI fm), .int (nI n), .int (nI wd)] zT (mW h0 q cB cI_ cZ I F) (mT cB cI_ cZ) (fun u => ∃ (f11 f12 f13 : Nat → Int32), tx_rs F t (tx_pt wd Rv fm n) f11 f12 f13 ∧ u = (mW h0 q cB cI_ cZ I (va_up (va_up (va_up F 11 f11) 12 f12) 13 f13), mT cB cI_ cZ)) := by
  cases Rv with
  | nil => exact r_part_0 l D h0 q cB cI_ cZ I F t fm n wd ht hfm hn hwd hrs
  | cons x Rv => exact r_part_s l D h0 q cB cI_ cZ I F t fm n wd x Rv ht hfm hn hwd hrs (by have : (x :: Rv).length = Rv.length + 1 := rfl; omega) (hx2 x List.mem_cons_self)
theorem tx_rs_tr {F : Nat → Nat → Int32} {t : Nat} {Rv Rv2 : List (Nat × Nat)} {f11 f12 f13 g11 g12 g13 : Nat → Int32} (h : tx_rs F t Rv f11 f12 f13) (h2 : tx_rs (va_up (va_up (va_up F 11 f11) 12 f12) 13 f13) t Rv2 g11 g12 g13) : tx_rs F t Rv2 g11 g12 g13 :=
  ⟨h2.1, h2.2.1, fun j hj => (h2.2.2.1 j hj).trans (h.2.2.1 j hj), fun j hj => ⟨(h2.2.2.2 j hj).1.trans (h.2.2.2 j hj).1, (h2.2.2.2 j hj).2.trans (h.2.2.2 j hj).2⟩⟩
def tx_eow (g : Nat → Int32) (b : Nat) : Nat → Nat → Nat
  | 0, i => i
  | k + 1, i => if g (b + i) = 32 then i else tx_eow g b k (i + 1)
theorem tx_eow_le (g : Nat → Int32) (b : Nat) : ∀ k i, i ≤ tx_eow g b k i ∧ tx_eow g b k i ≤ i + k := by
  intro k
  induction k with
  | zero => intro i; exact ⟨Nat.le_refl _, Nat.le_refl _⟩
  | succ k ih =>
    intro i
    unfold tx_eow
    by_cases h : g (b + i) = 32
    · rw [if_pos h]; omega
    · rw [if_neg h]; have := ih (i + 1); omega
/-- the parts of a long word that fill a row each -/
def tx_lg (wd : Nat) : Nat → Nat → Nat → List (Nat × Nat) → Nat × List (Nat × Nat)
  | 0, k, _, Rv => (k, Rv)
  | f + 1, k, e, Rv => if wd < e - k then tx_lg wd f (k + wd) e (tx_pt wd Rv k wd) else (k, Rv)
def tx_lay (wd : Nat) (g : Nat → Int32) (b n : Nat) : Nat → Nat → List (Nat × Nat) → List (Nat × Nat)
  | 0, _, Rv => Rv
  | f + 1, k, Rv => if k < n then tx_lay wd g b n f (tx_eow g b (n - k) k + 1) (tx_pt wd (tx_lg wd (tx_eow g b (n - k) k - k) k (tx_eow g b (n - k) k) Rv).2 (tx_lg wd (tx_eow g b (n - k) k - k) k (tx_eow g b (n - k) k) Rv).1 (tx_eow g b (n - k) k - (tx_lg wd (tx_eow g b (n - k) k - k) k (tx_eow g b (n - k) k) Rv).1)) else Rv
def tx_pre (wd k : Nat) (Rv : List (Nat × Nat)) : Prop := tx_rok wd k Rv ∧ ∀ x t, Rv = x :: t → x.2 + 1 ≤ wd → tx_sum Rv + 1 ≤ k ∧ x.1 + x.2 + 1 ≤ k
theorem tx_pre_0 (wd : Nat) : tx_pre wd 0 [] := ⟨tx_rok_0 wd, fun x t h => by cases h⟩
theorem tx_pre_p {wd k n : Nat} {Rv : List (Nat × Nat)} (h : tx_pre wd k Rv) (hn : n ≤ wd) : tx_rok wd (k + n) (tx_pt wd Rv k n) := tx_rok_p h.1 hn (Nat.le_refl _) (Nat.le_refl _) (fun x t e hc => by have := h.2 x t e (by omega); omega)
theorem tx_pre_f {wd k : Nat} {Rv : List (Nat × Nat)} (h : tx_pre wd k Rv) : tx_pre wd (k + wd) (tx_pt wd Rv k wd) := by
  refine ⟨tx_pre_p h (Nat.le_refl _), fun x t e hx => ?_⟩
  cases Rv with
  | nil => cases e; exact absurd hx (by show ¬ wd + 1 ≤ wd; omega)
  | cons y t2 =>
    have e2 : tx_pt wd (y :: t2) k wd = (k, wd) :: y :: t2 := if_neg (by omega)
    rw [e2] at e
    cases e
    exact absurd hx (by show ¬ wd + 1 ≤ wd; omega)
theorem tx_pre_n {wd k : Nat} {Rv : List (Nat × Nat)} (h : tx_rok wd k Rv) : tx_pre wd (k + 1) Rv := ⟨tx_rok_k h (by omega), fun x t e _ => by
  have h1 := h.1
  have h2 := (h.2.1 x (by rw [e]; exact List.mem_cons_self)).1
  omega⟩
theorem tx_lg_out {wd f k e : Nat} {Rv : List (Nat × Nat)} (h : ¬ wd < e - k) : tx_lg wd f k e Rv = (k, Rv) := by
  cases f with
  | zero => rfl
  | succ f => exact if_neg h
theorem tx_w_of {x r : Int32} {u : wU} (h : (fun r u => (¬ x = 2 ∧ ¬ x = 3 ∧ ¬ x = 4 ∧ r = 40 ∧ u = ([], [])) ∨ (¬ x = 2 ∧ ¬ x = 3 ∧ x = 4 ∧ r = 28 ∧ u = ([], [])) ∨ (¬ x = 2 ∧ x = 3 ∧ r = 20 ∧ u = ([], [])) ∨ (x = 2 ∧ r = 24 ∧ u = ([], []))) r u) : r = nI (tx_w x) ∧ u = ([], []) := by
  rcases h with ⟨a1, a2, a3, e, hu⟩ | ⟨a1, a2, a3, e, hu⟩ | ⟨a1, a2, e, hu⟩ | ⟨a1, e, hu⟩
  · exact ⟨e.trans (congrArg nI (show tx_w x = 40 by unfold tx_w; rw [if_neg a1, if_neg a2, if_neg a3])).symm, hu⟩
  · exact ⟨e.trans (congrArg nI (show tx_w x = 28 by unfold tx_w; rw [if_neg a1, if_neg a2, if_pos a3])).symm, hu⟩
  · exact ⟨e.trans (congrArg nI (show tx_w x = 20 by unfold tx_w; rw [if_neg a1, if_pos a2])).symm, hu⟩
  · exact ⟨e.trans (congrArg nI (show tx_w x = 24 by unfold tx_w; rw [if_pos a1])).symm, hu⟩
theorem tx_rs_self {F : Nat → Nat → Int32} {t : Nat} {Rv : List (Nat × Nat)} {f11 f12 f13 : Nat → Int32} (h : tx_rs F t Rv f11 f12 f13) : tx_rs (va_up (va_up (va_up F 11 f11) 12 f12) 13 f13) t Rv f11 f12 f13 := ⟨h.1, h.2.1, fun _ _ => rfl, fun _ _ => ⟨rfl, rfl⟩⟩
theorem tx_lay_out {wd : Nat} {g : Nat → Int32} {b n f k : Nat} {Rv : List (Nat × Nat)} (h : n ≤ k) : tx_lay wd g b n f k Rv = Rv := by
  cases f with
  | zero => rfl
  | succ f => exact if_neg (by omega)
theorem tx_lay_in {wd : Nat} {g : Nat → Int32} {b n f k z k2 : Nat} {Rv Rv2 : List (Nat × Nat)} (h : k < n) (ez : z = tx_eow g b (n - k) k) (e2 : (k2, Rv2) = tx_lg wd (z - k) k z Rv) : tx_lay wd g b n (f + 1) k Rv = tx_lay wd g b n f (z + 1) (tx_pt wd Rv2 k2 (z - k2)) := by
  have e3 : (tx_lg wd (z - k) k z Rv).1 = k2 := (congrArg Prod.fst e2).symm
  have e4 : (tx_lg wd (z - k) k z Rv).2 = Rv2 := (congrArg Prod.snd e2).symm
  rw [← e3, ← e4, ez]
  exact if_pos h
theorem tx_pre_k {wd k k2 : Nat} {Rv : List (Nat × Nat)} (h : tx_pre wd k Rv) (hk : k ≤ k2) : tx_pre wd k2 Rv := ⟨tx_rok_k h.1 hk, fun x t e hx => by have := h.2 x t e hx; omega⟩
set_option maxHeartbeats 1000000 in
set_option maxRecDepth 100000 in
theorem ll_eow {p : Program} {l : Launch} {e : Env} {R : Room} {s : State} {m : MethodId} {args : Array Value} {below : List Frame} {meth : Method} {c : Code} {cells slots : Nat} {Q : State → Prop} {D : va_G} {A : Nat → Prop} {h0 : Nat} {q : Nat → Nat} {cB cI cZ : ClassId} {I : Nat → Int32} {F : Nat → Nat → Int32} {t n wd : Nat} (ht : t < 60) (hn : n ≤ 1200) (hF9 : F 9 t = nI n) (hw1 : 20 ≤ wd) (hw2 : wd ≤ 40) {k0 : Nat} {f11 f12 f13 : Nat → Int32} (hRf : 0 ≤ R.frames) (hRl : 0 ≤ R.locals) (hRc : cells ≤ R.cells) (hRs : slots ≤ R.slots) (hA : ∀ q : Nat, s.heap.size ≤ q → A q) (hf : CallFix p m c cX10_layRows 5 s args gT yX10_layRows.cls) (hK : va_K D vcl (mT cB cI cZ) s) :
    ∀ (k : Nat) (i : Nat) (H : Heap) (locs : List Loc) (ls : Array Slot), i + k = n →  va_P D vcl (mW h0 q cB cI cZ I (va_up (va_up (va_up F 11 f11) 12 f12) 13 f13)) H → va_D A (mW h0 q cB cI cZ I (va_up (va_up (va_up F 11 f11) 12 f12) 13 f13)) → va_S A s.heap H locs → lv_has ls 5 [(4, .int (nI i)), (3, .int (nI k0)), (2, .int (nI wd)), (1, .int (nI t)), (0, .ref h0)] →
    (∀ (z : Nat) (H : Heap) (locs : List Loc) (ls : Array Slot), z = tx_eow (F 10) (1200 * t) k i → va_P D vcl (mW h0 q cB cI cZ I (va_up (va_up (va_up F 11 f11) 12 f12) 13 f13)) H → va_D A (mW h0 q cB cI cZ I (va_up (va_up (va_up F 11 f11) 12 f12) 13 f13)) → va_S A s.heap H locs → lv_has ls 5 [(4, .int (nI z)), (3, .int (nI k0)), (2, .int (nI wd)), (1, .int (nI t)), (0, .ref h0)] → W p l e R s m args below meth c H locs cells slots Q (F0 m 60 ls [])) →
    W p l e R s m args below meth c H locs cells slots Q (F0 m 25 ls []) := by
  obtain ⟨hx, hb, hml, hown, hts⟩ := id hf
  intro k
  induction k with
  | zero =>
    intro i H locs ls hik hP hD hS hl kk
    refine lv_iload hx hb dX10_layRows_25 (lv_at hl 0 rfl) ?_
    refine lv_aload_n hx hb dX10_layRows_27 rfl (lv_at hl 4 rfl) ?_
    refine va_get (D := D) (ci := 11) (v := .ref (q 9)) (C := RX10) (T := TX10) (N := 48) hx hb hts inX10 hown hK hP 0 rfl rfl 9 (by decide) (hts _ k_1153) (fun _ h9 => h9) rfl dX10_layRows_28 ?_
    refine lv_iload_n hx hb dX10_layRows_31 rfl (lv_at hl 3 rfl) ?_
    refine q_ild (X := t) (f := (F 9)) hx hb hK hP 7 1 rfl rfl (by omega) (by decide) dX10_layRows_32 ?_
    refine q_seti (y := (nI n)) hF9 ?_
    refine lv_icmp_ge (tgt := 60) hx hb dX10_layRows_33 (by decide) (fun c_1 => ?_) (fun c_1 => ?_)
    · have c_1 := q_le (a := n) (b := i) (by omega) (by omega) c_1
      exact kk i H locs ls rfl hP hD hS (lv_sub hl (l' := [(4, .int (nI i)), (3, .int (nI k0)), (2, .int (nI wd)), (1, .int (nI t)), (0, .ref h0)]) [0, 1, 2, 3, 4] rfl)
    · have c_1 := q_nle (a := n) (b := i) (by omega) (by omega) c_1
      refine lv_aload_n hx hb dX10_layRows_36 rfl (lv_at hl 4 rfl) ?_
      refine va_get (D := D) (ci := 11) (v := .ref (q 10)) (C := RX10) (T := TX10) (N := 48) hx hb hts inX10 hown hK hP 0 rfl rfl 10 (by decide) (hts _ k_1154) (fun _ h9 => h9) rfl dX10_layRows_37 ?_
      refine lv_sipush (v := 1200) hx hb dX10_layRows_40 (by decide) ?_
      refine lv_iload_n hx hb dX10_layRows_43 rfl (lv_at hl 3 rfl) ?_
      refine lv_imul hx hb dX10_layRows_44 ?_
      refine q_seti (y := nI (1200 * t)) (pk_mul 1200 t) ?_
      refine lv_iload hx hb dX10_layRows_45 (lv_at hl 0 rfl) ?_
      refine lv_iadd hx hb dX10_layRows_47 ?_
      refine q_seti (y := nI ((1200 * t) + i)) (nI_add (1200 * t) i) ?_
      refine q_bld (X := (1200 * t) + i) (f := (F 10)) hx hb hK hP 8 0 rfl rfl (by omega) (by decide) dX10_layRows_48 ?_
      refine lv_bipush (v := 32) hx hb dX10_layRows_49 (by decide) ?_
      refine lv_icmp_eq (tgt := 60) hx hb dX10_layRows_51 (by decide) (fun c_2 => ?_) (fun c_2 => ?_)
      · exact kk i H locs ls rfl hP hD hS (lv_sub hl (l' := [(4, .int (nI i)), (3, .int (nI k0)), (2, .int (nI wd)), (1, .int (nI t)), (0, .ref h0)]) [0, 1, 2, 3, 4] rfl)
      · refine lv_iinc (v := (nI (i + 1))) (lv' := [(4, .int (nI (i + 1))), (3, .int (nI k0)), (2, .int (nI wd)), (1, .int (nI t)), (0, .ref h0)]) hx hb dX10_layRows_54 hl (k := 0) rfl (nI_add i 1) (by decide) rfl (fun ls hl => ?_)
        refine lv_goto (tgt := 25) hx hb dX10_layRows_57 (by decide) ?_
        exact absurd hik (by omega)
  | succ k ih =>
    intro i H locs ls hik hP hD hS hl kk
    refine lv_iload hx hb dX10_layRows_25 (lv_at hl 0 rfl) ?_
    refine lv_aload_n hx hb dX10_layRows_27 rfl (lv_at hl 4 rfl) ?_
    refine va_get (D := D) (ci := 11) (v := .ref (q 9)) (C := RX10) (T := TX10) (N := 48) hx hb hts inX10 hown hK hP 0 rfl rfl 9 (by decide) (hts _ k_1153) (fun _ h9 => h9) rfl dX10_layRows_28 ?_
    refine lv_iload_n hx hb dX10_layRows_31 rfl (lv_at hl 3 rfl) ?_
    refine q_ild (X := t) (f := (F 9)) hx hb hK hP 7 1 rfl rfl (by omega) (by decide) dX10_layRows_32 ?_
    refine q_seti (y := (nI n)) hF9 ?_
    refine lv_icmp_ge (tgt := 60) hx hb dX10_layRows_33 (by decide) (fun c_1 => ?_) (fun c_1 => ?_)
    · have c_1 := q_le (a := n) (b := i) (by omega) (by omega) c_1
      exact absurd hik (by omega)
    · have c_1 := q_nle (a := n) (b := i) (by omega) (by omega) c_1
      refine lv_aload_n hx hb dX10_layRows_36 rfl (lv_at hl 4 rfl) ?_
      refine va_get (D := D) (ci := 11) (v := .ref (q 10)) (C := RX10) (T := TX10) (N := 48) hx hb hts inX10 hown hK hP 0 rfl rfl 10 (by decide) (hts _ k_1154) (fun _ h9 => h9) rfl dX10_layRows_37 ?_
      refine lv_sipush (v := 1200) hx hb dX10_layRows_40 (by decide) ?_
      refine lv_iload_n hx hb dX10_layRows_43 rfl (lv_at hl 3 rfl) ?_
      refine lv_imul hx hb dX10_layRows_44 ?_
      refine q_seti (y := nI (1200 * t)) (pk_mul 1200 t) ?_
      refine lv_iload hx hb dX10_layRows_45 (lv_at hl 0 rfl) ?_
      refine lv_iadd hx hb dX10_layRows_47 ?_
      refine q_seti (y := nI ((1200 * t) + i)) (nI_add (1200 * t) i) ?_
      refine q_bld (X := (1200 * t) + i) (f := (F 10)) hx hb hK hP 8 0 rfl rfl (by omega) (by decide) dX10_layRows_48 ?_
      refine lv_bipush (v := 32) hx hb dX10_layRows_49 (by decide) ?_
      refine lv_icmp_eq (tgt := 60) hx hb dX10_layRows_51 (by decide) (fun c_2 => ?_) (fun c_2 => ?_)
      · exact kk i H locs ls (if_pos c_2).symm hP hD hS (lv_sub hl (l' := [(4, .int (nI i)), (3, .int (nI k0)), (2, .int (nI wd)), (1, .int (nI t)), (0, .ref h0)]) [0, 1, 2, 3, 4] rfl)
      · refine lv_iinc (v := (nI (i + 1))) (lv' := [(4, .int (nI (i + 1))), (3, .int (nI k0)), (2, .int (nI wd)), (1, .int (nI t)), (0, .ref h0)]) hx hb dX10_layRows_54 hl (k := 0) rfl (nI_add i 1) (by decide) rfl (fun ls hl => ?_)
        refine lv_goto (tgt := 25) hx hb dX10_layRows_57 (by decide) ?_
        exact ih (i + 1) H locs ls (by omega) hP hD hS (lv_sub hl (l' := [(4, .int (nI (i + 1))), (3, .int (nI k0)), (2, .int (nI wd)), (1, .int (nI t)), (0, .ref h0)]) [0, 1, 2, 3, 4] rfl) (fun z H locs ls ez => kk z H locs ls (ez.trans (if_neg c_2).symm))
set_option maxHeartbeats 1000000 in
set_option maxRecDepth 100000 in
theorem ll_lg {p : Program} {l : Launch} {e : Env} {R : Room} {s : State} {m : MethodId} {args : Array Value} {below : List Frame} {meth : Method} {c : Code} {cells slots : Nat} {Q : State → Prop} {D : va_G} {A : Nat → Prop} {h0 : Nat} {q : Nat → Nat} {cB cI cZ : ClassId} {I : Nat → Int32} {F : Nat → Nat → Int32} {t n wd : Nat} (ht : t < 60) (hn : n ≤ 1200) (hF9 : F 9 t = nI n) (hw1 : 20 ≤ wd) (hw2 : wd ≤ 40) {to_ : Nat} (hto : to_ ≤ n) (hRf : 1 ≤ R.frames) (hRl : 25 ≤ R.locals) (hRc : cells ≤ R.cells) (hRs : slots ≤ R.slots) (hA : ∀ q : Nat, s.heap.size ≤ q → A q) (hf : CallFix p m c cX10_layRows 5 s args gT yX10_layRows.cls) (hK : va_K D vcl (mT cB cI cZ) s) :
    ∀ (k : Nat) (k0 : Nat) (Rv : List (Nat × Nat)) (f11 : Nat → Int32) (f12 : Nat → Int32) (f13 : Nat → Int32) (H : Heap) (locs : List Loc) (ls : Array Slot), to_ ≤ k0 + k → k0 ≤ to_ → tx_pre wd k0 Rv → tx_rs F t Rv f11 f12 f13 →  va_P D vcl (mW h0 q cB cI cZ I (va_up (va_up (va_up F 11 f11) 12 f12) 13 f13)) H → va_D A (mW h0 q cB cI cZ I (va_up (va_up (va_up F 11 f11) 12 f12) 13 f13)) → va_S A s.heap H locs → lv_has ls 5 [(4, .int (nI to_)), (3, .int (nI k0)), (2, .int (nI wd)), (1, .int (nI t)), (0, .ref h0)] →
    (∀ (k2 : Nat) (Rv2 : List (Nat × Nat)) (j11 : Nat → Int32) (j12 : Nat → Int32) (j13 : Nat → Int32) (H : Heap) (locs : List Loc) (ls : Array Slot), (k2, Rv2) = tx_lg wd k k0 to_ Rv → tx_pre wd k2 Rv2 → k2 ≤ to_ → to_ - k2 ≤ wd → tx_rs F t Rv2 j11 j12 j13 → va_P D vcl (mW h0 q cB cI cZ I (va_up (va_up (va_up F 11 j11) 12 j12) 13 j13)) H → va_D A (mW h0 q cB cI cZ I (va_up (va_up (va_up F 11 j11) 12 j12) 13 j13)) → va_S A s.heap H locs → lv_has ls 5 [(4, .int (nI to_)), (3, .int (nI k2)), (2, .int (nI wd)), (1, .int (nI t)), (0, .ref h0)] → W p l e R s m args below meth c H locs cells slots Q (F0 m 83 ls [])) →
    W p l e R s m args below meth c H locs cells slots Q (F0 m 60 ls []) := by
  obtain ⟨hx, hb, hml, hown, hts⟩ := id hf
  intro k
  induction k with
  | zero =>
    intro k0 Rv f11 f12 f13 H locs ls hik hk0 hpre hrs hP hD hS hl kk
    refine lv_iload hx hb dX10_layRows_60 (lv_at hl 0 rfl) ?_
    refine lv_iload_n hx hb dX10_layRows_62 rfl (lv_at hl 1 rfl) ?_
    refine lv_isub hx hb dX10_layRows_63 ?_
    refine q_seti (y := nI (to_ - k0)) (pk_sub (a := to_) (b := k0) (by omega)) ?_
    refine lv_iload_n hx hb dX10_layRows_64 rfl (lv_at hl 2 rfl) ?_
    refine lv_icmp_le (tgt := 83) hx hb dX10_layRows_65 (by decide) (fun c_1 => ?_) (fun c_1 => ?_)
    · have c_1 := q_le (a := to_ - k0) (b := wd) (by omega) (by omega) c_1
      exact kk k0 Rv f11 f12 f13 H locs ls (tx_lg_out (by omega)).symm hpre (by omega) (by omega) hrs hP hD hS (lv_sub hl (l' := [(4, .int (nI to_)), (3, .int (nI k0)), (2, .int (nI wd)), (1, .int (nI t)), (0, .ref h0)]) [0, 1, 2, 3, 4] rfl)
    · have c_1 := q_nle (a := to_ - k0) (b := wd) (by omega) (by omega) c_1
      refine lv_aload_n hx hb dX10_layRows_68 rfl (lv_at hl 4 rfl) ?_
      refine lv_iload_n hx hb dX10_layRows_69 rfl (lv_at hl 3 rfl) ?_
      refine lv_iload_n hx hb dX10_layRows_70 rfl (lv_at hl 1 rfl) ?_
      refine lv_iload_n hx hb dX10_layRows_71 rfl (lv_at hl 2 rfl) ?_
      refine lv_iload_n hx hb dX10_layRows_72 rfl (lv_at hl 2 rfl) ?_
      refine q_cv (k := cells) (n := slots) hK hP hD hS hA (fun hPc hKc hDc => q_rV (As := [.int (nI t), .int (nI k0), .int (nI wd), .int (nI wd)]) (rest := []) hf (r_part _ D h0 q cB cI cZ I (va_up (va_up (va_up F 11 f11) 12 f12) 13 f13) t k0 wd wd Rv ht (by omega) (by omega) (by omega) (show tx_rs (va_up (va_up (va_up F 11 f11) 12 f12) 13 f13) t Rv f11 f12 f13 from tx_rs_self hrs) (tx_rok_len hpre.1 (by omega) hw1) (fun x hx => by have := (hpre.1.2.1 x hx).2; omega) _) k_1355 k_1352 k_1354 k_57 k_98 (nA := 4) (by decide +kernel) ⟨Nat.le_trans (by decide) hRf, Nat.le_trans (by decide) hRl⟩ hK hP (ci := 11) (q0 := 0) rfl rfl rfl hPc hKc hDc (fun _ _ _ _ h => h) (fun _ _ _ => trivial) rfl hl.1 rfl (Nat.le_of_ble_eq_true rfl) dX10_layRows_73 ⟨hRc, hRs⟩) (Nat.le_refl _) (Nat.le_refl _) (fun u H locs hw hK hP hD hS => ?_)
      obtain ⟨g11, g12, g13, hrs2, rfl⟩ := hw
      have hP : va_P D vcl (mW h0 q cB cI cZ I (va_up (va_up (va_up F 11 g11) 12 g12) 13 g13)) H := hP
      have hD : va_D A (mW h0 q cB cI cZ I (va_up (va_up (va_up F 11 g11) 12 g12) 13 g13)) := hD
      have hrs2 := tx_rs_tr hrs hrs2
      refine lv_iload_n hx hb dX10_layRows_76 rfl (lv_at hl 1 rfl) ?_
      refine lv_iload_n hx hb dX10_layRows_77 rfl (lv_at hl 2 rfl) ?_
      refine lv_iadd hx hb dX10_layRows_78 ?_
      refine q_seti (y := nI (k0 + wd)) (nI_add k0 wd) ?_
      refine lv_istore_n (lv' := [(3, .int (nI (k0 + wd))), (4, .int (nI to_)), (2, .int (nI wd)), (1, .int (nI t)), (0, .ref h0)]) hx hb dX10_layRows_79 rfl hl (by decide) rfl (fun ls hl => ?_)
      refine lv_goto (tgt := 60) hx hb dX10_layRows_80 (by decide) ?_
      exact absurd hik (by omega)
  | succ k ih =>
    intro k0 Rv f11 f12 f13 H locs ls hik hk0 hpre hrs hP hD hS hl kk
    refine lv_iload hx hb dX10_layRows_60 (lv_at hl 0 rfl) ?_
    refine lv_iload_n hx hb dX10_layRows_62 rfl (lv_at hl 1 rfl) ?_
    refine lv_isub hx hb dX10_layRows_63 ?_
    refine q_seti (y := nI (to_ - k0)) (pk_sub (a := to_) (b := k0) (by omega)) ?_
    refine lv_iload_n hx hb dX10_layRows_64 rfl (lv_at hl 2 rfl) ?_
    refine lv_icmp_le (tgt := 83) hx hb dX10_layRows_65 (by decide) (fun c_1 => ?_) (fun c_1 => ?_)
    · have c_1 := q_le (a := to_ - k0) (b := wd) (by omega) (by omega) c_1
      exact kk k0 Rv f11 f12 f13 H locs ls (tx_lg_out (by omega)).symm hpre (by omega) (by omega) hrs hP hD hS (lv_sub hl (l' := [(4, .int (nI to_)), (3, .int (nI k0)), (2, .int (nI wd)), (1, .int (nI t)), (0, .ref h0)]) [0, 1, 2, 3, 4] rfl)
    · have c_1 := q_nle (a := to_ - k0) (b := wd) (by omega) (by omega) c_1
      refine lv_aload_n hx hb dX10_layRows_68 rfl (lv_at hl 4 rfl) ?_
      refine lv_iload_n hx hb dX10_layRows_69 rfl (lv_at hl 3 rfl) ?_
      refine lv_iload_n hx hb dX10_layRows_70 rfl (lv_at hl 1 rfl) ?_
      refine lv_iload_n hx hb dX10_layRows_71 rfl (lv_at hl 2 rfl) ?_
      refine lv_iload_n hx hb dX10_layRows_72 rfl (lv_at hl 2 rfl) ?_
      refine q_cv (k := cells) (n := slots) hK hP hD hS hA (fun hPc hKc hDc => q_rV (As := [.int (nI t), .int (nI k0), .int (nI wd), .int (nI wd)]) (rest := []) hf (r_part _ D h0 q cB cI cZ I (va_up (va_up (va_up F 11 f11) 12 f12) 13 f13) t k0 wd wd Rv ht (by omega) (by omega) (by omega) (show tx_rs (va_up (va_up (va_up F 11 f11) 12 f12) 13 f13) t Rv f11 f12 f13 from tx_rs_self hrs) (tx_rok_len hpre.1 (by omega) hw1) (fun x hx => by have := (hpre.1.2.1 x hx).2; omega) _) k_1355 k_1352 k_1354 k_57 k_98 (nA := 4) (by decide +kernel) ⟨Nat.le_trans (by decide) hRf, Nat.le_trans (by decide) hRl⟩ hK hP (ci := 11) (q0 := 0) rfl rfl rfl hPc hKc hDc (fun _ _ _ _ h => h) (fun _ _ _ => trivial) rfl hl.1 rfl (Nat.le_of_ble_eq_true rfl) dX10_layRows_73 ⟨hRc, hRs⟩) (Nat.le_refl _) (Nat.le_refl _) (fun u H locs hw hK hP hD hS => ?_)
      obtain ⟨g11, g12, g13, hrs2, rfl⟩ := hw
      have hP : va_P D vcl (mW h0 q cB cI cZ I (va_up (va_up (va_up F 11 g11) 12 g12) 13 g13)) H := hP
      have hD : va_D A (mW h0 q cB cI cZ I (va_up (va_up (va_up F 11 g11) 12 g12) 13 g13)) := hD
      have hrs2 := tx_rs_tr hrs hrs2
      refine lv_iload_n hx hb dX10_layRows_76 rfl (lv_at hl 1 rfl) ?_
      refine lv_iload_n hx hb dX10_layRows_77 rfl (lv_at hl 2 rfl) ?_
      refine lv_iadd hx hb dX10_layRows_78 ?_
      refine q_seti (y := nI (k0 + wd)) (nI_add k0 wd) ?_
      refine lv_istore_n (lv' := [(3, .int (nI (k0 + wd))), (4, .int (nI to_)), (2, .int (nI wd)), (1, .int (nI t)), (0, .ref h0)]) hx hb dX10_layRows_79 rfl hl (by decide) rfl (fun ls hl => ?_)
      refine lv_goto (tgt := 60) hx hb dX10_layRows_80 (by decide) ?_
      exact ih (k0 + wd) (tx_pt wd Rv k0 wd) g11 g12 g13 H locs ls (by omega) (by omega) (tx_pre_f hpre) hrs2 hP hD hS (lv_sub hl (l' := [(4, .int (nI to_)), (3, .int (nI (k0 + wd))), (2, .int (nI wd)), (1, .int (nI t)), (0, .ref h0)]) [1, 0, 2, 3, 4] rfl) (fun k2 Rv2 j11 j12 j13 H locs ls a1 => kk k2 Rv2 j11 j12 j13 H locs ls (a1.trans (if_pos (by omega)).symm))
set_option maxHeartbeats 1000000 in
set_option maxRecDepth 100000 in
theorem ll_out {p : Program} {l : Launch} {e : Env} {R : Room} {s : State} {m : MethodId} {args : Array Value} {below : List Frame} {meth : Method} {c : Code} {cells slots : Nat} {Q : State → Prop} {D : va_G} {A : Nat → Prop} {h0 : Nat} {q : Nat → Nat} {cB cI cZ : ClassId} {I : Nat → Int32} {F : Nat → Nat → Int32} {t n wd : Nat} (ht : t < 60) (hn : n ≤ 1200) (hF9 : F 9 t = nI n) (hw1 : 20 ≤ wd) (hw2 : wd ≤ 40) (hRf : 1 ≤ R.frames) (hRl : 25 ≤ R.locals) (hRc : cells ≤ R.cells) (hRs : slots ≤ R.slots) (hA : ∀ q : Nat, s.heap.size ≤ q → A q) (hf : CallFix p m c cX10_layRows 5 s args gT yX10_layRows.cls) (hK : va_K D vcl (mT cB cI cZ) s) :
    ∀ (k : Nat) (k0 : Nat) (Rv : List (Nat × Nat)) (f11 : Nat → Int32) (f12 : Nat → Int32) (f13 : Nat → Int32) (H : Heap) (locs : List Loc) (ls : Array Slot), n ≤ k0 + k → k0 ≤ n + 1 → tx_pre wd k0 Rv → tx_rs F t Rv f11 f12 f13 →  va_P D vcl (mW h0 q cB cI cZ I (va_up (va_up (va_up F 11 f11) 12 f12) 13 f13)) H → va_D A (mW h0 q cB cI cZ I (va_up (va_up (va_up F 11 f11) 12 f12) 13 f13)) → va_S A s.heap H locs → lv_has ls 5 [(3, .int (nI k0)), (2, .int (nI wd)), (1, .int (nI t)), (0, .ref h0)] →
    (∀ (Rv2 : List (Nat × Nat)) (j11 : Nat → Int32) (j12 : Nat → Int32) (j13 : Nat → Int32) (H : Heap) (locs : List Loc) (ls : Array Slot), Rv2 = tx_lay wd (F 10) (1200 * t) n k k0 Rv → tx_pre wd (n + 1) Rv2 → tx_rs F t Rv2 j11 j12 j13 → va_P D vcl (mW h0 q cB cI cZ I (va_up (va_up (va_up F 11 j11) 12 j12) 13 j13)) H → va_D A (mW h0 q cB cI cZ I (va_up (va_up (va_up F 11 j11) 12 j12) 13 j13)) → va_S A s.heap H locs → lv_has ls 5 [(0, .ref h0)] → W p l e R s m args below meth c H locs cells slots Q (F0 m 102 ls [])) →
    W p l e R s m args below meth c H locs cells slots Q (F0 m 12 ls []) := by
  obtain ⟨hx, hb, hml, hown, hts⟩ := id hf
  intro k
  induction k with
  | zero =>
    intro k0 Rv f11 f12 f13 H locs ls hik hk0 hpre hrs hP hD hS hl kk
    refine lv_iload_n hx hb dX10_layRows_12 rfl (lv_at hl 0 rfl) ?_
    refine lv_aload_n hx hb dX10_layRows_13 rfl (lv_at hl 3 rfl) ?_
    refine va_get (D := D) (ci := 11) (v := .ref (q 9)) (C := RX10) (T := TX10) (N := 48) hx hb hts inX10 hown hK hP 0 rfl rfl 9 (by decide) (hts _ k_1153) (fun _ h9 => h9) rfl dX10_layRows_14 ?_
    refine lv_iload_n hx hb dX10_layRows_17 rfl (lv_at hl 2 rfl) ?_
    refine q_ild (X := t) (f := (F 9)) hx hb hK hP 7 1 rfl rfl (by omega) (by decide) dX10_layRows_18 ?_
    refine q_seti (y := (nI n)) hF9 ?_
    refine lv_icmp_ge (tgt := 102) hx hb dX10_layRows_19 (by decide) (fun c_1 => ?_) (fun c_1 => ?_)
    · have c_1 := q_le (a := n) (b := k0) (by omega) (by omega) c_1
      exact kk Rv f11 f12 f13 H locs ls (tx_lay_out (by omega)).symm (tx_pre_k hpre (by omega)) hrs hP hD hS (lv_sub hl (l' := [(0, .ref h0)]) [3] rfl)
    · have c_1 := q_nle (a := n) (b := k0) (by omega) (by omega) c_1
      exact absurd hik (by omega)
  | succ k ih =>
    intro k0 Rv f11 f12 f13 H locs ls hik hk0 hpre hrs hP hD hS hl kk
    refine lv_iload_n hx hb dX10_layRows_12 rfl (lv_at hl 0 rfl) ?_
    refine lv_aload_n hx hb dX10_layRows_13 rfl (lv_at hl 3 rfl) ?_
    refine va_get (D := D) (ci := 11) (v := .ref (q 9)) (C := RX10) (T := TX10) (N := 48) hx hb hts inX10 hown hK hP 0 rfl rfl 9 (by decide) (hts _ k_1153) (fun _ h9 => h9) rfl dX10_layRows_14 ?_
    refine lv_iload_n hx hb dX10_layRows_17 rfl (lv_at hl 2 rfl) ?_
    refine q_ild (X := t) (f := (F 9)) hx hb hK hP 7 1 rfl rfl (by omega) (by decide) dX10_layRows_18 ?_
    refine q_seti (y := (nI n)) hF9 ?_
    refine lv_icmp_ge (tgt := 102) hx hb dX10_layRows_19 (by decide) (fun c_1 => ?_) (fun c_1 => ?_)
    · have c_1 := q_le (a := n) (b := k0) (by omega) (by omega) c_1
      exact kk Rv f11 f12 f13 H locs ls (tx_lay_out (by omega)).symm (tx_pre_k hpre (by omega)) hrs hP hD hS (lv_sub hl (l' := [(0, .ref h0)]) [3] rfl)
    · have c_1 := q_nle (a := n) (b := k0) (by omega) (by omega) c_1
      have hlt : k0 < n := by omega
      refine lv_iload_n hx hb dX10_layRows_22 rfl (lv_at hl 0 rfl) ?_
      refine lv_istore (lv' := [(4, .int (nI k0)), (3, .int (nI k0)), (2, .int (nI wd)), (1, .int (nI t)), (0, .ref h0)]) hx hb dX10_layRows_23 hl (by decide) rfl (fun ls hl => ?_)
      refine ll_eow (F := F) (t := t) (n := n) (wd := wd) (k0 := k0) ht hn hF9 hw1 hw2 (Nat.zero_le _) (Nat.zero_le _) hRc hRs hA hf hK (n - k0) k0 H locs ls (by omega) hP hD hS (lv_sub hl (l' := [(4, .int (nI k0)), (3, .int (nI k0)), (2, .int (nI wd)), (1, .int (nI t)), (0, .ref h0)]) [0, 1, 2, 3, 4] rfl) (fun z H locs ls ez hP hD hS hl => ?_)
      have bz := tx_eow_le (F 10) (1200 * t) (n - k0) k0
      rw [← ez] at bz
      refine ll_lg (F := F) (t := t) (n := n) (wd := wd) (to_ := z) ht hn hF9 hw1 hw2 (by omega) hRf hRl hRc hRs hA hf hK (z - k0) k0 Rv f11 f12 f13 H locs ls (by omega) (by omega) hpre hrs hP hD hS hl (fun k2 Rv2 j11 j12 j13 H locs ls a1 a2 a3 a4 a5 hP hD hS hl => ?_)
      refine lv_aload_n hx hb dX10_layRows_83 rfl (lv_at hl 4 rfl) ?_
      refine lv_iload_n hx hb dX10_layRows_84 rfl (lv_at hl 3 rfl) ?_
      refine lv_iload_n hx hb dX10_layRows_85 rfl (lv_at hl 1 rfl) ?_
      refine lv_iload hx hb dX10_layRows_86 (lv_at hl 0 rfl) ?_
      refine lv_iload_n hx hb dX10_layRows_88 rfl (lv_at hl 1 rfl) ?_
      refine lv_isub hx hb dX10_layRows_89 ?_
      refine q_seti (y := nI (z - k2)) (pk_sub (a := z) (b := k2) (by omega)) ?_
      refine lv_iload_n hx hb dX10_layRows_90 rfl (lv_at hl 2 rfl) ?_
      refine q_cv (k := cells) (n := slots) hK hP hD hS hA (fun hPc hKc hDc => q_rV (As := [.int (nI t), .int (nI k2), .int (nI (z - k2)), .int (nI wd)]) (rest := []) hf (r_part _ D h0 q cB cI cZ I (va_up (va_up (va_up F 11 j11) 12 j12) 13 j13) t k2 (z - k2) wd Rv2 ht (by omega) (by omega) (by omega) (show tx_rs (va_up (va_up (va_up F 11 j11) 12 j12) 13 j13) t Rv2 j11 j12 j13 from tx_rs_self a5) (tx_rok_len a2.1 (by omega) hw1) (fun x hx => by have := (a2.1.2.1 x hx).2; omega) _) k_1355 k_1352 k_1354 k_57 k_98 (nA := 4) (by decide +kernel) ⟨Nat.le_trans (by decide) hRf, Nat.le_trans (by decide) hRl⟩ hK hP (ci := 11) (q0 := 0) rfl rfl rfl hPc hKc hDc (fun _ _ _ _ h => h) (fun _ _ _ => trivial) rfl hl.1 rfl (Nat.le_of_ble_eq_true rfl) dX10_layRows_91 ⟨hRc, hRs⟩) (Nat.le_refl _) (Nat.le_refl _) (fun u H locs hw hK hP hD hS => ?_)
      obtain ⟨g11, g12, g13, hrs2, rfl⟩ := hw
      have hP : va_P D vcl (mW h0 q cB cI cZ I (va_up (va_up (va_up F 11 g11) 12 g12) 13 g13)) H := hP
      have hD : va_D A (mW h0 q cB cI cZ I (va_up (va_up (va_up F 11 g11) 12 g12) 13 g13)) := hD
      have hrs2 := tx_rs_tr a5 hrs2
      refine lv_iload hx hb dX10_layRows_94 (lv_at hl 0 rfl) ?_
      refine lv_iconst (v := 1) hx hb dX10_layRows_96 (by decide) ?_
      refine lv_iadd hx hb dX10_layRows_97 ?_
      refine q_seti (y := nI (z + 1)) (nI_add z 1) ?_
      refine lv_istore_n (lv' := [(3, .int (nI (z + 1))), (4, .int (nI z)), (2, .int (nI wd)), (1, .int (nI t)), (0, .ref h0)]) hx hb dX10_layRows_98 rfl hl (by decide) rfl (fun ls hl => ?_)
      refine lv_goto (tgt := 12) hx hb dX10_layRows_99 (by decide) ?_
      exact ih (z + 1) (tx_pt wd Rv2 k2 (z - k2)) g11 g12 g13 H locs ls (by omega) (by omega) (by have h9 := tx_pre_n (tx_pre_p a2 a4); rw [show k2 + (z - k2) + 1 = z + 1 by omega] at h9; exact h9) hrs2 hP hD hS (lv_sub hl (l' := [(3, .int (nI (z + 1))), (2, .int (nI wd)), (1, .int (nI t)), (0, .ref h0)]) [0, 2, 3, 4] rfl) (fun Rv3 m11 m12 m13 H locs ls b1 => kk Rv3 m11 m12 m13 H locs ls (b1.trans (tx_lay_in hlt ez a1).symm))
set_option maxHeartbeats 1000000 in
set_option maxRecDepth 100000 in
theorem r_layRows (l : Launch) (D : va_G) (h0 : Nat) (q : Nat → Nat) (cB cI_ cZ : ClassId) (I : Nat → Int32) (F : Nat → Nat → Int32) (t n : Nat) (x6 : Int32) (ht : t < 60) (hn : n ≤ 1200) (hF9 : F 9 t = nI n) (hF6 : F 6 t = x6) (hrs : tx_rs F t [] (F 11) (F 12) (F 13)) : cV l D yX10_layRows cX10_layRows 5 none 1 25 0 0 [.ref h0, .int (nI t)] zT (mW h0 q cB cI_ cZ I F) (mT cB cI_ cZ) (fun u => ∃ (Rv2 : List (Nat × Nat)) (j11 j12 j13 : Nat → Int32), Rv2 = tx_lay (tx_w x6) (F 10) (1200 * t) n n 0 [] ∧ tx_pre (tx_w x6) (n + 1) Rv2 ∧ tx_rs F t Rv2 j11 j12 j13 ∧ u = (mW h0 q cB cI_ cZ I (va_up (va_up (va_up F 11 j11) 12 j12) 13 j13), mT cB cI_ cZ)) := by
  refine q_sv (by decide) (Nat.le_of_ble_eq_true rfl) ?_
  intro p e s m below meth c A ls hAe hf hr hlocks hin hK hP hD hS hA hZ hl
  obtain ⟨hx, hb, hml, hown, hts⟩ := id hf
  have hl : lv_has ls 5 [(0, .ref h0), (1, .int (nI t))] := hl
  refine lv_aload_n hx hb dX10_layRows_0 rfl (lv_at hl 0 rfl) ?_
  refine va_get (D := D) (ci := 11) (v := .ref (q 6)) (C := RX10) (T := TX10) (N := 48) hx hb hts inX10 hown hK hP 0 rfl rfl 6 (by decide) (hts _ k_1150) (fun _ h9 => h9) rfl dX10_layRows_1 ?_
  refine lv_iload_n hx hb dX10_layRows_4 rfl (lv_at hl 1 rfl) ?_
  refine q_ild (X := t) (f := (F 6)) hx hb hK hP 4 1 rfl rfl (by omega) (by decide) dX10_layRows_5 ?_
  refine q_seti (y := x6) hF6 ?_
  refine q_ei (k := 0) (n := 0) hP hS hA (q_rS (wc := []) (tc := []) (As := [.int x6]) (rest := []) hf (m_X10_width_1 _ D x6 _) k_1351 k_1349 k_1350 k_98 (nA := 1) (by decide +kernel) ⟨Nat.le_of_ble_eq_true rfl, Nat.le_of_ble_eq_true rfl⟩ (fun k q h => by simp at h) (hK.sub (tys' := []) [] rfl) (A := A) ⟨fun i j p q h => by simp at h, fun k q h => by simp at h⟩ (fun _ _ _ _ h => h) (fun _ _ _ => trivial) rfl hl.1 rfl (Nat.le_of_ble_eq_true rfl) dX10_layRows_6 ⟨Nat.le_of_ble_eq_true rfl, Nat.le_of_ble_eq_true rfl⟩) (by decide) (by decide) (fun r u H locs hw hP hS => ?_)
  obtain ⟨rfl, rfl⟩ := tx_w_of (x := x6) hw
  refine lv_istore_n (lv' := [(2, .int (nI (tx_w x6))), (0, .ref h0), (1, .int (nI t))]) hx hb dX10_layRows_9 rfl hl (by decide) rfl (fun ls hl => ?_)
  refine lv_iconst (v := 0) hx hb dX10_layRows_10 (by decide) ?_
  refine lv_istore_n (lv' := [(3, .int 0), (2, .int (nI (tx_w x6))), (0, .ref h0), (1, .int (nI t))]) hx hb dX10_layRows_11 rfl hl (by decide) rfl (fun ls hl => ?_)
  have hw := tx_w_in x6
  refine ll_out (F := F) (t := t) (n := n) (wd := tx_w x6) ht hn hF9 hw.1 hw.2 (Nat.le_of_ble_eq_true rfl) (Nat.le_of_ble_eq_true rfl) (Nat.le_of_ble_eq_true rfl) (Nat.le_of_ble_eq_true rfl) hA hf hK n 0 [] (F 11) (F 12) (F 13) _ _ ls (by omega) (by omega) (tx_pre_0 _) hrs hP hD hS (lv_sub hl (l' := [(3, .int 0), (2, .int (nI (tx_w x6))), (1, .int (nI t)), (0, .ref h0)]) [0, 1, 3, 2] rfl) (fun Rv2 j11 j12 j13 H locs ls a1 a2 a5 hP hD hS hl => ?_)
  exact q_zv hf hr hlocks hK hP hD hS (Nat.le_of_ble_eq_true rfl) (Nat.le_of_ble_eq_true rfl) ⟨Rv2, j11, j12, j13, a1, a2, a5, rfl⟩ dX10_layRows_102
