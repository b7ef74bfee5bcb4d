def tx_w (k : Int32) : Nat := if k = 2 then 24 else if k = 3 then 20 else if k = 4 then 28 else 40
theorem tx_w_in (k : Int32) : 20 ≤ tx_w k ∧ tx_w k ≤ 40 := by
  unfold tx_w
  split
  · omega
  · split
    · omega
    · split <;> omega
/-- rows, the last one first: where each begins, how long it is -/
def tx_pt (wd : Nat) (Rv : List (Nat × Nat)) (fm n : Nat) : List (Nat × Nat) := match Rv with
  | [] => [(fm, n)]
  | x :: t => if x.2 + 1 + n ≤ wd then (x.1, x.2 + 1 + n) :: t else (fm, n) :: x :: t
def tx_rv (f12 f13 : Nat → Int32) (b : Nat) : List (Nat × Nat) → Prop
  | [] => True
  | x :: t => f12 (b + t.length) = nI x.1 ∧ f13 (b + t.length) = nI x.2 ∧ tx_rv f12 f13 b t
theorem tx_rv_up {f12 f13 : Nat → Int32} {b j : Nat} {v w : Int32} : ∀ {Rv : List (Nat × Nat)}, b + Rv.length ≤ j → tx_rv f12 f13 b Rv → tx_rv (upd f12 j v) (upd f13 j w) b Rv
  | [], _, _ => trivial
  | x :: t, hj, h => by
    have hl : (x :: t).length = t.length + 1 := rfl
    refine ⟨?_, ?_, tx_rv_up (by omega) h.2.2⟩
    · rw [pk_un (by omega)]; exact h.1
    · rw [pk_un (by omega)]; exact h.2.1
theorem tx_rv_u2 {f12 f13 : Nat → Int32} {b j : Nat} {w : Int32} : ∀ {Rv : List (Nat × Nat)}, b + Rv.length ≤ j → tx_rv f12 f13 b Rv → tx_rv f12 (upd f13 j w) b Rv
  | [], _, _ => trivial
  | x :: t, hj, h => by
    have hl : (x :: t).length = t.length + 1 := rfl
    refine ⟨h.1, ?_, tx_rv_u2 (by omega) h.2.2⟩
    rw [pk_un (by omega)]; exact h.2.1
def tx_sum (Rv : List (Nat × Nat)) : Nat := match Rv with
  | [] => 0
  | x :: t => x.2 + tx_sum t
def tx_ev (wd : Nat) : List (Nat × Nat) → Prop
  | [] => True
  | [_] => False
  | x :: y :: t => wd ≤ x.2 + y.2 ∧ tx_ev wd t
def tx_od (wd : Nat) : List (Nat × Nat) → Prop
  | [] => False
  | _ :: t => tx_ev wd t
theorem tx_ev_len (wd : Nat) : ∀ (Rv : List (Nat × Nat)), tx_ev wd Rv → wd * Rv.length ≤ 2 * tx_sum Rv
  | [], _ => by simp
  | [_], h => h.elim
  | x :: y :: t, h => by
    have h1 := tx_ev_len wd t h.2
    have h2 := h.1
    show wd * (t.length + 1 + 1) ≤ 2 * (x.2 + (y.2 + tx_sum t))
    rw [Nat.mul_add, Nat.mul_add]
    omega
/-- all rows so far, of the first k places of a text -/
def tx_rok (wd k : Nat) (Rv : List (Nat × Nat)) : Prop := tx_sum Rv ≤ k ∧ (∀ x, x ∈ Rv → x.1 + x.2 ≤ k ∧ x.2 ≤ wd) ∧ (tx_ev wd Rv ∨ tx_od wd Rv)
theorem tx_rok_0 (wd : Nat) : tx_rok wd 0 [] := ⟨Nat.le_refl 0, fun x h => absurd h List.not_mem_nil, Or.inl trivial⟩
theorem tx_rok_len {wd k : Nat} {Rv : List (Nat × Nat)} (h : tx_rok wd k Rv) (hk : k ≤ 1200) (hw : 20 ≤ wd) : Rv.length ≤ 121 := by
  have h1 := h.1
  rcases h.2.2 with h2 | h2
  · have h3 := tx_ev_len wd Rv h2
    have h4 : 20 * Rv.length ≤ wd * Rv.length := Nat.mul_le_mul_right _ hw
    omega
  · cases Rv with
    | nil => exact h2.elim
    | cons x t =>
      have h3 := tx_ev_len wd t h2
      have h4 : 20 * t.length ≤ wd * t.length := Nat.mul_le_mul_right _ hw
      have h5 : tx_sum (x :: t) = x.2 + tx_sum t := rfl
      show t.length + 1 ≤ 121
      omega
theorem tx_rok_k {wd k k2 : Nat} {Rv : List (Nat × Nat)} (h : tx_rok wd k Rv) (hk : k ≤ k2) : tx_rok wd k2 Rv := ⟨Nat.le_trans h.1 hk, fun x hx => ⟨Nat.le_trans (h.2.1 x hx).1 hk, (h.2.1 x hx).2⟩, h.2.2⟩
/-- a part of n places that begins at fm, the text ahead of it being k places long at most; one blank stands between, where it joins a row -/
theorem tx_rok_p {wd k fm n k2 : Nat} {Rv : List (Nat × Nat)} (h : tx_rok wd k Rv) (hn : n ≤ wd) (hf : fm + n ≤ k2) (hs : k + n ≤ k2) (hj : ∀ x t, Rv = x :: t → x.2 + 1 + n ≤ wd → tx_sum Rv + 1 + n ≤ k2 ∧ x.1 + (x.2 + 1 + n) ≤ k2) : tx_rok wd k2 (tx_pt wd Rv fm n) := by
  cases Rv with
  | nil =>
    refine ⟨?_, ?_, Or.inr trivial⟩
    · show n + 0 ≤ k2; omega
    · intro x hx
      rw [List.mem_singleton.mp hx]
      exact ⟨hf, hn⟩
  | cons y t =>
    have h1 : y.2 + tx_sum t ≤ k := h.1
    have h2 := h.2.1
    have h3 := h.2.2
    by_cases hc : y.2 + 1 + n ≤ wd
    · have e : tx_pt wd (y :: t) fm n = (y.1, y.2 + 1 + n) :: t := if_pos hc
      rw [e]
      have hj1 := hj y t rfl hc
      have h5 : tx_sum (y :: t) = y.2 + tx_sum t := rfl
      refine ⟨?_, ?_, ?_⟩
      · show y.2 + 1 + n + tx_sum t ≤ k2; omega
      · intro x hx
        rcases List.mem_cons.mp hx with hx | hx
        · rw [hx]; exact ⟨hj1.2, hc⟩
        · have := h2 x (List.mem_cons_of_mem _ hx)
          exact ⟨by omega, this.2⟩
      · rcases h3 with h3 | h3
        · cases t with
          | nil => exact h3.elim
          | cons z t2 => exact Or.inl ⟨by have := h3.1; show wd ≤ y.2 + 1 + n + z.2; omega, h3.2⟩
        · exact Or.inr h3
    · have e : tx_pt wd (y :: t) fm n = (fm, n) :: y :: t := if_neg hc
      rw [e]
      refine ⟨?_, ?_, ?_⟩
      · show n + (y.2 + tx_sum t) ≤ k2; omega
      · intro x hx
        rcases List.mem_cons.mp hx with hx | hx
        · rw [hx]; exact ⟨hf, hn⟩
        · have := h2 x hx
          exact ⟨by omega, this.2⟩
      · rcases h3 with h3 | h3
        · exact Or.inr h3
        · exact Or.inl ⟨by show wd ≤ n + y.2; omega, h3⟩
/-- slot t holds the rows Rv -/
def tx_rs (F : Nat → Nat → Int32) (t : Nat) (Rv : List (Nat × Nat)) (f11 f12 f13 : Nat → Int32) : Prop := f11 t = nI Rv.length ∧ tx_rv f12 f13 (131 * t) Rv ∧ (∀ j, j ≠ t → f11 j = F 11 j) ∧ ∀ j, j < 131 * t ∨ 131 * t + 131 ≤ j → f12 j = F 12 j ∧ f13 j = F 13 j
theorem tx_rs_n {F : Nat → Nat → Int32} {t fm n : Nat} {Rv : List (Nat × Nat)} {f11 f12 f13 : Nat → Int32} (h : tx_rs F t Rv f11 f12 f13) (hR : Rv.length < 131) : tx_rs F t ((fm, n) :: Rv) (upd f11 t (nI (Rv.length + 1))) (upd f12 (131 * t + Rv.length) (nI fm)) (upd f13 (131 * t + Rv.length) (nI n)) := by
  obtain ⟨h1, h2, h3, h4⟩ := h
  refine ⟨pk_us, ⟨pk_us, pk_us, tx_rv_up (Nat.le_refl _) h2⟩, fun j hj => ?_, fun j hj => ?_⟩
  · rw [pk_un hj]; exact h3 j hj
  · rw [pk_un (by omega), pk_un (by omega)]; exact h4 j hj
theorem tx_rs_j {F : Nat → Nat → Int32} {t n : Nat} {x : Nat × Nat} {Rv : List (Nat × Nat)} {f11 f12 f13 : Nat → Int32} (h : tx_rs F t (x :: Rv) f11 f12 f13) (hR : Rv.length < 131) : tx_rs F t ((x.1, n) :: Rv) f11 f12 (upd f13 (131 * t + Rv.length) (nI n)) := by
  obtain ⟨h1, h2, h3, h4⟩ := h
  refine ⟨h1, ⟨h2.1, pk_us, tx_rv_u2 (Nat.le_refl _) h2.2.2⟩, h3, fun j hj => ?_⟩
  rw [pk_un (by omega)]; exact h4 j hj
theorem q_pm (a : Int32) : a - 1 + 1 = a := by
  rw [Int32.sub_eq_add_neg, Int32.add_assoc]
  have h : (-1 : Int32) + 1 = 0 := by decide
  rw [h, Int32.add_zero]
abbrev cX10_part : ByteArray := prog_12_method_17_code
def yX10_part : MethodName := ⟨RX10, "part", "(IIII)V"⟩
theorem k_1156 : (Cond.fieldLink RX10 44 "ScriptDeskModel" "rowFrom" "[I") ∈ gT := gT_i 1156 (by decide +kernel) rfl
theorem k_1157 : (Cond.fieldLink RX10 47 "ScriptDeskModel" "rowLong" "[I") ∈ gT := gT_i 1157 (by decide +kernel) rfl
theorem dX10_part_0 : decode cX10_part 0 = .ok (.sipush 131, 3) := by decide +kernel
theorem dX10_part_3 : decode cX10_part 3 = .ok (.iload_n 1, 1) := by decide +kernel
theorem dX10_part_4 : decode cX10_part 4 = .ok (.imul, 1) := by decide +kernel
theorem dX10_part_5 : decode cX10_part 5 = .ok (.aload_n 0, 1) := by decide +kernel
theorem dX10_part_6 : decode cX10_part 6 = .ok (.getfield 41, 3) := by decide +kernel
theorem dX10_part_9 : decode cX10_part 9 = .ok (.iload_n 1, 1) := by decide +kernel
theorem dX10_part_10 : decode cX10_part 10 = .ok (.iaload, 1) := by decide +kernel
theorem dX10_part_11 : decode cX10_part 11 = .ok (.iadd, 1) := by decide +kernel
theorem dX10_part_12 : decode cX10_part 12 = .ok (.iconst 1, 1) := by decide +kernel
theorem dX10_part_13 : decode cX10_part 13 = .ok (.isub, 1) := by decide +kernel
theorem dX10_part_14 : decode cX10_part 14 = .ok (.istore 5, 2) := by decide +kernel
theorem dX10_part_16 : decode cX10_part 16 = .ok (.aload_n 0, 1) := by decide +kernel
theorem dX10_part_17 : decode cX10_part 17 = .ok (.getfield 41, 3) := by decide +kernel
theorem dX10_part_20 : decode cX10_part 20 = .ok (.iload_n 1, 1) := by decide +kernel
theorem dX10_part_21 : decode cX10_part 21 = .ok (.iaload, 1) := by decide +kernel
theorem dX10_part_22 : decode cX10_part 22 = .ok (.ifCond .le 35, 3) := by decide +kernel
theorem dX10_part_57 : decode cX10_part 57 = .ok (.aload_n 0, 1) := by decide +kernel
theorem dX10_part_58 : decode cX10_part 58 = .ok (.getfield 44, 3) := by decide +kernel
theorem dX10_part_61 : decode cX10_part 61 = .ok (.iload 5, 2) := by decide +kernel
theorem dX10_part_63 : decode cX10_part 63 = .ok (.iconst 1, 1) := by decide +kernel
theorem dX10_part_64 : decode cX10_part 64 = .ok (.iadd, 1) := by decide +kernel
theorem dX10_part_65 : decode cX10_part 65 = .ok (.iload_n 2, 1) := by decide +kernel
theorem dX10_part_66 : decode cX10_part 66 = .ok (.iastore, 1) := by decide +kernel
theorem dX10_part_67 : decode cX10_part 67 = .ok (.aload_n 0, 1) := by decide +kernel
theorem dX10_part_68 : decode cX10_part 68 = .ok (.getfield 47, 3) := by decide +kernel
theorem dX10_part_71 : decode cX10_part 71 = .ok (.iload 5, 2) := by decide +kernel
theorem dX10_part_73 : decode cX10_part 73 = .ok (.iconst 1, 1) := by decide +kernel
theorem dX10_part_74 : decode cX10_part 74 = .ok (.iadd, 1) := by decide +kernel
theorem dX10_part_75 : decode cX10_part 75 = .ok (.iload_n 3, 1) := by decide +kernel
theorem dX10_part_76 : decode cX10_part 76 = .ok (.iastore, 1) := by decide +kernel
theorem dX10_part_77 : decode cX10_part 77 = .ok (.aload_n 0, 1) := by decide +kernel
theorem dX10_part_78 : decode cX10_part 78 = .ok (.getfield 41, 3) := by decide +kernel
theorem dX10_part_81 : decode cX10_part 81 = .ok (.iload_n 1, 1) := by decide +kernel
theorem dX10_part_82 : decode cX10_part 82 = .ok (.dup2, 1) := by decide +kernel
theorem dX10_part_83 : decode cX10_part 83 = .ok (.iaload, 1) := by decide +kernel
theorem dX10_part_84 : decode cX10_part 84 = .ok (.iconst 1, 1) := by decide +kernel
theorem dX10_part_85 : decode cX10_part 85 = .ok (.iadd, 1) := by decide +kernel
theorem dX10_part_86 : decode cX10_part 86 = .ok (.iastore, 1) := by decide +kernel
theorem dX10_part_87 : decode cX10_part 87 = .ok (.return_, 1) := by decide +kernel
theorem dX10_part_25 : decode cX10_part 25 = .ok (.aload_n 0, 1) := by decide +kernel
theorem dX10_part_26 : decode cX10_part 26 = .ok (.getfield 47, 3) := by decide +kernel
theorem dX10_part_29 : decode cX10_part 29 = .ok (.iload 5, 2) := by decide +kernel
theorem dX10_part_31 : decode cX10_part 31 = .ok (.iaload, 1) := by decide +kernel
theorem dX10_part_32 : decode cX10_part 32 = .ok (.iconst 1, 1) := by decide +kernel
theorem dX10_part_33 : decode cX10_part 33 = .ok (.iadd, 1) := by decide +kernel
theorem dX10_part_34 : decode cX10_part 34 = .ok (.iload_n 3, 1) := by decide +kernel
theorem dX10_part_35 : decode cX10_part 35 = .ok (.iadd, 1) := by decide +kernel
theorem dX10_part_36 : decode cX10_part 36 = .ok (.iload 4, 2) := by decide +kernel
theorem dX10_part_38 : decode cX10_part 38 = .ok (.if_icmp .gt 19, 3) := by decide +kernel
theorem dX10_part_41 : decode cX10_part 41 = .ok (.aload_n 0, 1) := by decide +kernel
theorem dX10_part_42 : decode cX10_part 42 = .ok (.getfield 47, 3) := by decide +kernel
theorem dX10_part_45 : decode cX10_part 45 = .ok (.iload 5, 2) := by decide +kernel
theorem dX10_part_47 : decode cX10_part 47 = .ok (.dup2, 1) := by decide +kernel
theorem dX10_part_48 : decode cX10_part 48 = .ok (.iaload, 1) := by decide +kernel
theorem dX10_part_49 : decode cX10_part 49 = .ok (.iconst 1, 1) := by decide +kernel
theorem dX10_part_50 : decode cX10_part 50 = .ok (.iload_n 3, 1) := by decide +kernel
theorem dX10_part_51 : decode cX10_part 51 = .ok (.iadd, 1) := by decide +kernel
theorem dX10_part_52 : decode cX10_part 52 = .ok (.iadd, 1) := by decide +kernel
theorem dX10_part_53 : decode cX10_part 53 = .ok (.iastore, 1) := by decide +kernel
theorem dX10_part_54 : decode cX10_part 54 = .ok (.goto 33, 3) := by decide +kernel
set_option maxHeartbeats 1000000 in
set_option maxRecDepth 100000 in
theorem r_part_0 (l : Launch) (D : va_G) (h0 : Nat) (q : Nat → Nat) (cB cI_ cZ : ClassId) (I : Nat → Int32) (F : Nat → Nat → Int32) (t fm n wd : Nat) (ht : t < 60) (hfm : fm ≤ 1200) (hn : n ≤ 1200) (hwd : wd ≤ 40) (hrs : tx_rs F t [] (F 11) (F 12) (F 13)) : cV l D yX10_part cX10_part 6 none 0 0 0 0 [.ref h0, .int (nI t), .int (nI fm), .int (nI n), .int (nI wd)] zT (mW h0 q cB cI_ cZ I F) (mT cB cI_ cZ) (fun u => ∃ (f11 f12 f13 : Nat → Int32), tx_rs F t (tx_pt wd [] fm n) f11 f12 f13 ∧ u = (mW h0 q cB cI_ cZ I (va_up (va_up (va_up F 11 f11) 12 f12) 13 f13), mT cB cI_ cZ)) := by
  refine q_sv (by decide) (Nat.le_of_ble_eq_true rfl) ?_
  intro p e s m below meth c A ls hAe hf hr hlocks hin hK hP hD hS hA hZ hl
  obtain ⟨hx, hb, hml, hown, hts⟩ := id hf
  have hl : lv_has ls 6 [(0, .ref h0), (1, .int (nI t)), (2, .int (nI fm)), (3, .int (nI n)), (4, .int (nI wd))] := hl
  refine lv_sipush (v := 131) hx hb dX10_part_0 (by decide) ?_
  refine lv_iload_n hx hb dX10_part_3 rfl (lv_at hl 1 rfl) ?_
  refine lv_imul hx hb dX10_part_4 ?_
  refine q_seti (y := nI (131 * t)) (pk_mul 131 t) ?_
  refine lv_aload_n hx hb dX10_part_5 rfl (lv_at hl 0 rfl) ?_
  refine va_get (D := D) (ci := 11) (v := .ref (q 11)) (C := RX10) (T := TX10) (N := 48) hx hb hts inX10 hown hK hP 0 rfl rfl 11 (by decide) (hts _ k_1155) (fun _ h9 => h9) rfl dX10_part_6 ?_
  refine lv_iload_n hx hb dX10_part_9 rfl (lv_at hl 1 rfl) ?_
  refine q_ild (X := t) (f := (F 11)) hx hb hK hP 9 1 rfl rfl (by omega) (by decide) dX10_part_10 ?_
  refine q_seti (y := 0) hrs.1 ?_
  refine lv_iadd hx hb dX10_part_11 ?_
  refine q_seti (y := nI ((131 * t) + 0)) (nI_add (131 * t) 0) ?_
  refine q_seti (y := nI (131 * t)) (congrArg nI (show (131 * t) + 0 = 131 * t by omega)) ?_
  refine lv_iconst (v := 1) hx hb dX10_part_12 (by decide) ?_
  refine lv_isub hx hb dX10_part_13 ?_
  refine lv_istore (lv' := [(5, .int ((nI (131 * t)) - 1)), (0, .ref h0), (1, .int (nI t)), (2, .int (nI fm)), (3, .int (nI n)), (4, .int (nI wd))]) hx hb dX10_part_14 hl (by decide) rfl (fun ls hl => ?_)
  refine lv_aload_n hx hb dX10_part_16 rfl (lv_at hl 1 rfl) ?_
  refine va_get (D := D) (ci := 11) (v := .ref (q 11)) (C := RX10) (T := TX10) (N := 48) hx hb hts inX10 hown hK hP 0 rfl rfl 11 (by decide) (hts _ k_1155) (fun _ h9 => h9) rfl dX10_part_17 ?_
  refine lv_iload_n hx hb dX10_part_20 rfl (lv_at hl 2 rfl) ?_
  refine q_ild (X := t) (f := (F 11)) hx hb hK hP 9 1 rfl rfl (by omega) (by decide) dX10_part_21 ?_
  refine q_seti (y := 0) hrs.1 ?_
  refine lv_if_le (tgt := 57) hx hb dX10_part_22 (by decide) (fun _ => ?_) (fun hno => absurd hno (by decide))
  refine lv_aload_n hx hb dX10_part_57 rfl (lv_at hl 1 rfl) ?_
  refine va_get (D := D) (ci := 11) (v := .ref (q 12)) (C := RX10) (T := TX10) (N := 48) hx hb hts inX10 hown hK hP 0 rfl rfl 12 (by decide) (hts _ k_1156) (fun _ h9 => h9) rfl dX10_part_58 ?_
  refine lv_iload hx hb dX10_part_61 (lv_at hl 0 rfl) ?_
  refine lv_iconst (v := 1) hx hb dX10_part_63 (by decide) ?_
  refine lv_iadd hx hb dX10_part_64 ?_
  refine q_seti (y := nI (131 * t)) (q_pm _) ?_
  refine lv_iload_n hx hb dX10_part_65 rfl (lv_at hl 3 rfl) ?_
  refine q_ist (X := 131 * t) (f := (F 12)) (x := (nI fm)) hx hb hK hP hD hS 10 1 rfl rfl (by omega) (by decide) dX10_part_66 (fun H locs hP hD hS => ?_)
  have hP : va_P D vcl (mW h0 q cB cI_ cZ I (va_up F 12 (upd (F 12) (131 * t) (nI fm)))) H := hP
  have hD : va_D A (mW h0 q cB cI_ cZ I (va_up F 12 (upd (F 12) (131 * t) (nI fm)))) := hD
  refine lv_aload_n hx hb dX10_part_67 rfl (lv_at hl 1 rfl) ?_
  refine va_get (D := D) (ci := 11) (v := .ref (q 13)) (C := RX10) (T := TX10) (N := 48) hx hb hts inX10 hown hK hP 0 rfl rfl 13 (by decide) (hts _ k_1157) (fun _ h9 => h9) rfl dX10_part_68 ?_
  refine lv_iload hx hb dX10_part_71 (lv_at hl 0 rfl) ?_
  refine lv_iconst (v := 1) hx hb dX10_part_73 (by decide) ?_
  refine lv_iadd hx hb dX10_part_74 ?_
  refine q_seti (y := nI (131 * t)) (q_pm _) ?_
  refine lv_iload_n hx hb dX10_part_75 rfl (lv_at hl 4 rfl) ?_
  refine q_ist (X := 131 * t) (f := (F 13)) (x := (nI n)) hx hb hK hP hD hS 11 1 rfl rfl (by omega) (by decide) dX10_part_76 (fun H locs hP hD hS => ?_)
  have hP : va_P D vcl (mW h0 q cB cI_ cZ I (va_up (va_up F 12 (upd (F 12) (131 * t) (nI fm))) 13 (upd (F 13) (131 * t) (nI n)))) H := hP
  have hD : va_D A (mW h0 q cB cI_ cZ I (va_up (va_up F 12 (upd (F 12) (131 * t) (nI fm))) 13 (upd (F 13) (131 * t) (nI n)))) := hD
  refine lv_aload_n hx hb dX10_part_77 rfl (lv_at hl 1 rfl) ?_
  refine va_get (D := D) (ci := 11) (v := .ref (q 11)) (C := RX10) (T := TX10) (N := 48) hx hb hts inX10 hown hK hP 0 rfl rfl 11 (by decide) (hts _ k_1155) (fun _ h9 => h9) rfl dX10_part_78 ?_
  refine lv_iload_n hx hb dX10_part_81 rfl (lv_at hl 2 rfl) ?_
  refine lv_dup2_11 hx hb dX10_part_82 rfl rfl ?_
  refine q_ild (X := t) (f := (F 11)) hx hb hK hP 9 1 rfl rfl (by omega) (by decide) dX10_part_83 ?_
  refine q_seti (y := 0) hrs.1 ?_
  refine lv_iconst (v := 1) hx hb dX10_part_84 (by decide) ?_
  refine lv_iadd hx hb dX10_part_85 ?_
  refine q_seti (y := 1) (by decide) ?_
  refine q_ist (X := t) (f := (F 11)) (x := 1) hx hb hK hP hD hS 9 1 rfl rfl (by omega) (by decide) dX10_part_86 (fun H locs hP hD hS => ?_)
  have hP : va_P D vcl (mW h0 q cB cI_ cZ I (va_up (va_up (va_up F 11 (upd (F 11) t 1)) 12 (upd (F 12) (131 * t) (nI fm))) 13 (upd (F 13) (131 * t) (nI n)))) H := hP
  have hD : va_D A (mW h0 q cB cI_ cZ I (va_up (va_up (va_up F 11 (upd (F 11) t 1)) 12 (upd (F 12) (131 * t) (nI fm))) 13 (upd (F 13) (131 * t) (nI n)))) := hD
  exact q_zv hf hr hlocks hK hP hD hS (Nat.le_of_ble_eq_true rfl) (Nat.le_of_ble_eq_true rfl) ⟨_, _, _, tx_rs_n hrs (by decide), rfl⟩ dX10_part_87
set_option maxHeartbeats 1000000 in
set_option maxRecDepth 100000 in
theorem r_part_s (l : Launch) (D : va_G) (h0 : Nat) (q : Nat → Nat) (cB cI_ cZ : ClassId) (I : Nat → Int32) (F : Nat → Nat → Int32) (t fm n wd : Nat) (x : Nat × Nat) (Rv : List (Nat × Nat)) (ht : t < 60) (hfm : fm ≤ 1200) (hn : n ≤ 1200) (hwd : wd ≤ 40) (hrs : tx_rs F t (x :: Rv) (F 11) (F 12) (F 13)) (hR : Rv.length < 130) (hx2 : x.2 ≤ 1200) : cV l D yX10_part cX10_part 6 none 0 0 0 0 [.ref h0, .int (nI t), .int (nI fm), .int (nI n), .int (nI wd)] zT (mW h0 q cB cI_ cZ I F) (mT cB cI_ cZ) (fun u => ∃ (f11 f12 f13 : Nat → Int32), tx_rs F t (tx_pt wd (x :: Rv) fm n) f11 f12 f13 ∧ u = (mW h0 q cB cI_ cZ I (va_up (va_up (va_up F 11 f11) 12 f12) 13 f13), mT cB cI_ cZ)) := by
  refine q_sv (by decide) (Nat.le_of_ble_eq_true rfl) ?_
  intro p e s m below meth c A ls hAe hf hr hlocks hin hK hP hD hS hA hZ hl
  obtain ⟨hx, hb, hml, hown, hts⟩ := id hf
  have hl : lv_has ls 6 [(0, .ref h0), (1, .int (nI t)), (2, .int (nI fm)), (3, .int (nI n)), (4, .int (nI wd))] := hl
  refine lv_sipush (v := 131) hx hb dX10_part_0 (by decide) ?_
  refine lv_iload_n hx hb dX10_part_3 rfl (lv_at hl 1 rfl) ?_
  refine lv_imul hx hb dX10_part_4 ?_
  refine q_seti (y := nI (131 * t)) (pk_mul 131 t) ?_
  refine lv_aload_n hx hb dX10_part_5 rfl (lv_at hl 0 rfl) ?_
  refine va_get (D := D) (ci := 11) (v := .ref (q 11)) (C := RX10) (T := TX10) (N := 48) hx hb hts inX10 hown hK hP 0 rfl rfl 11 (by decide) (hts _ k_1155) (fun _ h9 => h9) rfl dX10_part_6 ?_
  refine lv_iload_n hx hb dX10_part_9 rfl (lv_at hl 1 rfl) ?_
  refine q_ild (X := t) (f := (F 11)) hx hb hK hP 9 1 rfl rfl (by omega) (by decide) dX10_part_10 ?_
  refine q_seti (y := (nI (Rv.length + 1))) hrs.1 ?_
  refine lv_iadd hx hb dX10_part_11 ?_
  refine q_seti (y := nI ((131 * t) + (Rv.length + 1))) (nI_add (131 * t) (Rv.length + 1)) ?_
  refine q_seti (y := nI (131 * t + Rv.length + 1)) (congrArg nI (show (131 * t) + (Rv.length + 1) = 131 * t + Rv.length + 1 by omega)) ?_
  refine lv_iconst (v := 1) hx hb dX10_part_12 (by decide) ?_
  refine lv_isub hx hb dX10_part_13 ?_
  refine q_seti (y := nI ((131 * t + Rv.length + 1) - 1)) (pk_sub (a := 131 * t + Rv.length + 1) (b := 1) (by omega)) ?_
  refine q_seti (y := nI (131 * t + Rv.length)) (congrArg nI (show (131 * t + Rv.length + 1) - 1 = 131 * t + Rv.length by omega)) ?_
  refine lv_istore (lv' := [(5, .int (nI (131 * t + Rv.length))), (0, .ref h0), (1, .int (nI t)), (2, .int (nI fm)), (3, .int (nI n)), (4, .int (nI wd))]) hx hb dX10_part_14 hl (by decide) rfl (fun ls hl => ?_)
  refine lv_aload_n hx hb dX10_part_16 rfl (lv_at hl 1 rfl) ?_
  refine va_get (D := D) (ci := 11) (v := .ref (q 11)) (C := RX10) (T := TX10) (N := 48) hx hb hts inX10 hown hK hP 0 rfl rfl 11 (by decide) (hts _ k_1155) (fun _ h9 => h9) rfl dX10_part_17 ?_
  refine lv_iload_n hx hb dX10_part_20 rfl (lv_at hl 2 rfl) ?_
  refine q_ild (X := t) (f := (F 11)) hx hb hK hP 9 1 rfl rfl (by omega) (by decide) dX10_part_21 ?_
  refine q_seti (y := (nI (Rv.length + 1))) hrs.1 ?_
  refine lv_if_le (tgt := 57) hx hb dX10_part_22 (by decide) (fun c_1 => ?_) (fun c_1 => ?_)
  · have c_1 := q_le (a := Rv.length + 1) (b := 0) (by omega) (by omega) c_1
    refine lv_aload_n hx hb dX10_part_57 rfl (lv_at hl 1 rfl) ?_
    refine va_get (D := D) (ci := 11) (v := .ref (q 12)) (C := RX10) (T := TX10) (N := 48) hx hb hts inX10 hown hK hP 0 rfl rfl 12 (by decide) (hts _ k_1156) (fun _ h9 => h9) rfl dX10_part_58 ?_
    refine lv_iload hx hb dX10_part_61 (lv_at hl 0 rfl) ?_
    refine lv_iconst (v := 1) hx hb dX10_part_63 (by decide) ?_
    refine lv_iadd hx hb dX10_part_64 ?_
    refine q_seti (y := nI ((131 * t + Rv.length) + 1)) (nI_add (131 * t + Rv.length) 1) ?_
    refine q_seti (y := nI (131 * t + (Rv.length + 1))) (congrArg nI (show (131 * t + Rv.length) + 1 = 131 * t + (Rv.length + 1) by omega)) ?_
    refine lv_iload_n hx hb dX10_part_65 rfl (lv_at hl 3 rfl) ?_
    refine q_ist (X := 131 * t + (Rv.length + 1)) (f := (F 12)) (x := (nI fm)) hx hb hK hP hD hS 10 1 rfl rfl (by omega) (by decide) dX10_part_66 (fun H locs hP hD hS => ?_)
    have hP : va_P D vcl (mW h0 q cB cI_ cZ I (va_up F 12 (upd (F 12) (131 * t + (Rv.length + 1)) (nI fm)))) H := hP
    have hD : va_D A (mW h0 q cB cI_ cZ I (va_up F 12 (upd (F 12) (131 * t + (Rv.length + 1)) (nI fm)))) := hD
    refine lv_aload_n hx hb dX10_part_67 rfl (lv_at hl 1 rfl) ?_
    refine va_get (D := D) (ci := 11) (v := .ref (q 13)) (C := RX10) (T := TX10) (N := 48) hx hb hts inX10 hown hK hP 0 rfl rfl 13 (by decide) (hts _ k_1157) (fun _ h9 => h9) rfl dX10_part_68 ?_
    refine lv_iload hx hb dX10_part_71 (lv_at hl 0 rfl) ?_
    refine lv_iconst (v := 1) hx hb dX10_part_73 (by decide) ?_
    refine lv_iadd hx hb dX10_part_74 ?_
    refine q_seti (y := nI ((131 * t + Rv.length) + 1)) (nI_add (131 * t + Rv.length) 1) ?_
    refine q_seti (y := nI (131 * t + (Rv.length + 1))) (congrArg nI (show (131 * t + Rv.length) + 1 = 131 * t + (Rv.length + 1) by omega)) ?_
    refine lv_iload_n hx hb dX10_part_75 rfl (lv_at hl 4 rfl) ?_
    refine q_ist (X := 131 * t + (Rv.length + 1)) (f := (F 13)) (x := (nI n)) hx hb hK hP hD hS 11 1 rfl rfl (by omega) (by decide) dX10_part_76 (fun H locs hP hD hS => ?_)
    have hP : va_P D vcl (mW h0 q cB cI_ cZ I (va_up (va_up F 12 (upd (F 12) (131 * t + (Rv.length + 1)) (nI fm))) 13 (upd (F 13) (131 * t + (Rv.length + 1)) (nI n)))) H := hP
    have hD : va_D A (mW h0 q cB cI_ cZ I (va_up (va_up F 12 (upd (F 12) (131 * t + (Rv.length + 1)) (nI fm))) 13 (upd (F 13) (131 * t + (Rv.length + 1)) (nI n)))) := hD
    refine lv_aload_n hx hb dX10_part_77 rfl (lv_at hl 1 rfl) ?_
    refine va_get (D := D) (ci := 11) (v := .ref (q 11)) (C := RX10) (T := TX10) (N := 48) hx hb hts inX10 hown hK hP 0 rfl rfl 11 (by decide) (hts _ k_1155) (fun _ h9 => h9) rfl dX10_part_78 ?_
    refine lv_iload_n hx hb dX10_part_81 rfl (lv_at hl 2 rfl) ?_
    refine lv_dup2_11 hx hb dX10_part_82 rfl rfl ?_
    refine q_ild (X := t) (f := (F 11)) hx hb hK hP 9 1 rfl rfl (by omega) (by decide) dX10_part_83 ?_
    refine q_seti (y := (nI (Rv.length + 1))) hrs.1 ?_
    refine lv_iconst (v := 1) hx hb dX10_part_84 (by decide) ?_
    refine lv_iadd hx hb dX10_part_85 ?_
    refine q_seti (y := nI ((Rv.length + 1) + 1)) (nI_add (Rv.length + 1) 1) ?_
    refine q_seti (y := nI (Rv.length + 1 + 1)) (congrArg nI (show (Rv.length + 1) + 1 = Rv.length + 1 + 1 by omega)) ?_
    refine q_ist (X := t) (f := (F 11)) (x := (nI (Rv.length + 1 + 1))) hx hb hK hP hD hS 9 1 rfl rfl (by omega) (by decide) dX10_part_86 (fun H locs hP hD hS => ?_)
    have hP : va_P D vcl (mW h0 q cB cI_ cZ I (va_up (va_up (va_up F 11 (upd (F 11) t (nI (Rv.length + 1 + 1)))) 12 (upd (F 12) (131 * t + (Rv.length + 1)) (nI fm))) 13 (upd (F 13) (131 * t + (Rv.length + 1)) (nI n)))) H := hP
    have hD : va_D A (mW h0 q cB cI_ cZ I (va_up (va_up (va_up F 11 (upd (F 11) t (nI (Rv.length + 1 + 1)))) 12 (upd (F 12) (131 * t + (Rv.length + 1)) (nI fm))) 13 (upd (F 13) (131 * t + (Rv.length + 1)) (nI n)))) := hD
    exact q_zv hf hr hlocks hK hP hD hS (Nat.le_of_ble_eq_true rfl) (Nat.le_of_ble_eq_true rfl) ⟨_, _, _, by rw [show tx_pt wd (x :: Rv) fm n = (fm, n) :: x :: Rv from if_neg (by omega)]; exact tx_rs_n hrs (show Rv.length + 1 < 131 by omega), rfl⟩ dX10_part_87
  · have c_1 := q_nle (a := Rv.length + 1) (b := 0) (by omega) (by omega) c_1
    refine lv_aload_n hx hb dX10_part_25 rfl (lv_at hl 1 rfl) ?_
    refine va_get (D := D) (ci := 11) (v := .ref (q 13)) (C := RX10) (T := TX10) (N := 48) hx hb hts inX10 hown hK hP 0 rfl rfl 13 (by decide) (hts _ k_1157) (fun _ h9 => h9) rfl dX10_part_26 ?_
    refine lv_iload hx hb dX10_part_29 (lv_at hl 0 rfl) ?_
    refine q_ild (X := 131 * t + Rv.length) (f := (F 13)) hx hb hK hP 11 1 rfl rfl (by omega) (by decide) dX10_part_31 ?_
    refine q_seti (y := (nI (x.2))) hrs.2.1.2.1 ?_
    refine lv_iconst (v := 1) hx hb dX10_part_32 (by decide) ?_
    refine lv_iadd hx hb dX10_part_33 ?_
    refine q_seti (y := nI ((x.2) + 1)) (nI_add (x.2) 1) ?_
    refine lv_iload_n hx hb dX10_part_34 rfl (lv_at hl 4 rfl) ?_
    refine lv_iadd hx hb dX10_part_35 ?_
    refine q_seti (y := nI (((x.2) + 1) + n)) (nI_add ((x.2) + 1) n) ?_
    refine q_seti (y := nI (x.2 + 1 + n)) (congrArg nI (show ((x.2) + 1) + n = x.2 + 1 + n by omega)) ?_
    refine lv_iload hx hb dX10_part_36 (lv_at hl 5 rfl) ?_
    refine lv_icmp_gt (tgt := 57) hx hb dX10_part_38 (by decide) (fun c_2 => ?_) (fun c_2 => ?_)
    · have c_2 := q_lt (a := wd) (b := x.2 + 1 + n) (by omega) (by omega) c_2
      refine lv_aload_n hx hb dX10_part_57 rfl (lv_at hl 1 rfl) ?_
      refine va_get (D := D) (ci := 11) (v := .ref (q 12)) (C := RX10) (T := TX10) (N := 48) hx hb hts inX10 hown hK hP 0 rfl rfl 12 (by decide) (hts _ k_1156) (fun _ h9 => h9) rfl dX10_part_58 ?_
      refine lv_iload hx hb dX10_part_61 (lv_at hl 0 rfl) ?_
      refine lv_iconst (v := 1) hx hb dX10_part_63 (by decide) ?_
      refine lv_iadd hx hb dX10_part_64 ?_
      refine q_seti (y := nI ((131 * t + Rv.length) + 1)) (nI_add (131 * t + Rv.length) 1) ?_
      refine q_seti (y := nI (131 * t + (Rv.length + 1))) (congrArg nI (show (131 * t + Rv.length) + 1 = 131 * t + (Rv.length + 1) by omega)) ?_
      refine lv_iload_n hx hb dX10_part_65 rfl (lv_at hl 3 rfl) ?_
      refine q_ist (X := 131 * t + (Rv.length + 1)) (f := (F 12)) (x := (nI fm)) hx hb hK hP hD hS 10 1 rfl rfl (by omega) (by decide) dX10_part_66 (fun H locs hP hD hS => ?_)
      have hP : va_P D vcl (mW h0 q cB cI_ cZ I (va_up F 12 (upd (F 12) (131 * t + (Rv.length + 1)) (nI fm)))) H := hP
      have hD : va_D A (mW h0 q cB cI_ cZ I (va_up F 12 (upd (F 12) (131 * t + (Rv.length + 1)) (nI fm)))) := hD
      refine lv_aload_n hx hb dX10_part_67 rfl (lv_at hl 1 rfl) ?_
      refine va_get (D := D) (ci := 11) (v := .ref (q 13)) (C := RX10) (T := TX10) (N := 48) hx hb hts inX10 hown hK hP 0 rfl rfl 13 (by decide) (hts _ k_1157) (fun _ h9 => h9) rfl dX10_part_68 ?_
      refine lv_iload hx hb dX10_part_71 (lv_at hl 0 rfl) ?_
      refine lv_iconst (v := 1) hx hb dX10_part_73 (by decide) ?_
      refine lv_iadd hx hb dX10_part_74 ?_
      refine q_seti (y := nI ((131 * t + Rv.length) + 1)) (nI_add (131 * t + Rv.length) 1) ?_
      refine q_seti (y := nI (131 * t + (Rv.length + 1))) (congrArg nI (show (131 * t + Rv.length) + 1 = 131 * t + (Rv.length + 1) by omega)) ?_
      refine lv_iload_n hx hb dX10_part_75 rfl (lv_at hl 4 rfl) ?_
      refine q_ist (X := 131 * t + (Rv.length + 1)) (f := (F 13)) (x := (nI n)) hx hb hK hP hD hS 11 1 rfl rfl (by omega) (by decide) dX10_part_76 (fun H locs hP hD hS => ?_)
      have hP : va_P D vcl (mW h0 q cB cI_ cZ I (va_up (va_up F 12 (upd (F 12) (131 * t + (Rv.length + 1)) (nI fm))) 13 (upd (F 13) (131 * t + (Rv.length + 1)) (nI n)))) H := hP
      have hD : va_D A (mW h0 q cB cI_ cZ I (va_up (va_up F 12 (upd (F 12) (131 * t + (Rv.length + 1)) (nI fm))) 13 (upd (F 13) (131 * t + (Rv.length + 1)) (nI n)))) := hD
      refine lv_aload_n hx hb dX10_part_77 rfl (lv_at hl 1 rfl) ?_
      refine va_get (D := D) (ci := 11) (v := .ref (q 11)) (C := RX10) (T := TX10) (N := 48) hx hb hts inX10 hown hK hP 0 rfl rfl 11 (by decide) (hts _ k_1155) (fun _ h9 => h9) rfl dX10_part_78 ?_
      refine lv_iload_n hx hb dX10_part_81 rfl (lv_at hl 2 rfl) ?_
      refine lv_dup2_11 hx hb dX10_part_82 rfl rfl ?_
      refine q_ild (X := t) (f := (F 11)) hx hb hK hP 9 1 rfl rfl (by omega) (by decide) dX10_part_83 ?_
      refine q_seti (y := (nI (Rv.length + 1))) hrs.1 ?_
      refine lv_iconst (v := 1) hx hb dX10_part_84 (by decide) ?_
      refine lv_iadd hx hb dX10_part_85 ?_
      refine q_seti (y := nI ((Rv.length + 1) + 1)) (nI_add (Rv.length + 1) 1) ?_
      refine q_seti (y := nI (Rv.length + 1 + 1)) (congrArg nI (show (Rv.length + 1) + 1 = Rv.length + 1 + 1 by omega)) ?_
      refine q_ist (X := t) (f := (F 11)) (x := (nI (Rv.length + 1 + 1))) hx hb hK hP hD hS 9 1 rfl rfl (by omega) (by decide) dX10_part_86 (fun H locs hP hD hS => ?_)
      have hP : va_P D vcl (mW h0 q cB cI_ cZ I (va_up (va_up (va_up F 11 (upd (F 11) t (nI (Rv.length + 1 + 1)))) 12 (upd (F 12) (131 * t + (Rv.length + 1)) (nI fm))) 13 (upd (F 13) (131 * t + (Rv.length + 1)) (nI n)))) H := hP
      have hD : va_D A (mW h0 q cB cI_ cZ I (va_up (va_up (va_up F 11 (upd (F 11) t (nI (Rv.length + 1 + 1)))) 12 (upd (F 12) (131 * t + (Rv.length + 1)) (nI fm))) 13 (upd (F 13) (131 * t + (Rv.length + 1)) (nI n)))) := hD
      exact q_zv hf hr hlocks hK hP hD hS (Nat.le_of_ble_eq_true rfl) (Nat.le_of_ble_eq_true rfl) ⟨_, _, _, by rw [show tx_pt wd (x :: Rv) fm n = (fm, n) :: x :: Rv from if_neg (by omega)]; exact tx_rs_n hrs (show Rv.length + 1 < 131 by omega), rfl⟩ dX10_part_87
    · have c_2 := q_nlt (a := wd) (b := x.2 + 1 + n) (by omega) (by omega) c_2
      refine lv_aload_n hx hb dX10_part_41 rfl (lv_at hl 1 rfl) ?_
      refine va_get (D := D) (ci := 11) (v := .ref (q 13)) (C := RX10) (T := TX10) (N := 48) hx hb hts inX10 hown hK hP 0 rfl rfl 13 (by decide) (hts _ k_1157) (fun _ h9 => h9) rfl dX10_part_42 ?_
      refine lv_iload hx hb dX10_part_45 (lv_at hl 0 rfl) ?_
      refine lv_dup2_11 hx hb dX10_part_47 rfl rfl ?_
      refine q_ild (X := 131 * t + Rv.length) (f := (F 13)) hx hb hK hP 11 1 rfl rfl (by omega) (by decide) dX10_part_48 ?_
      refine q_seti (y := (nI (x.2))) hrs.2.1.2.1 ?_
      refine lv_iconst (v := 1) hx hb dX10_part_49 (by decide) ?_
      refine lv_iload_n hx hb dX10_part_50 rfl (lv_at hl 4 rfl) ?_
      refine lv_iadd hx hb dX10_part_51 ?_
      refine q_seti (y := nI (1 + n)) (nI_add 1 n) ?_
      refine lv_iadd hx hb dX10_part_52 ?_
      refine q_seti (y := nI ((x.2) + (1 + n))) (nI_add (x.2) (1 + n)) ?_
      refine q_seti (y := nI (x.2 + 1 + n)) (congrArg nI (show (x.2) + (1 + n) = x.2 + 1 + n by omega)) ?_
      refine q_ist (X := 131 * t + Rv.length) (f := (F 13)) (x := (nI (x.2 + 1 + n))) hx hb hK hP hD hS 11 1 rfl rfl (by omega) (by decide) dX10_part_53 (fun H locs hP hD hS => ?_)
      have hP : va_P D vcl (mW h0 q cB cI_ cZ I (va_up F 13 (upd (F 13) (131 * t + Rv.length) (nI (x.2 + 1 + n))))) H := hP
      have hD : va_D A (mW h0 q cB cI_ cZ I (va_up F 13 (upd (F 13) (131 * t + Rv.length) (nI (x.2 + 1 + n))))) := hD
      refine lv_goto (tgt := 87) hx hb dX10_part_54 (by decide) ?_
      exact q_zv hf hr hlocks hK hP hD hS (Nat.le_of_ble_eq_true rfl) (Nat.le_of_ble_eq_true rfl) ⟨F 11, F 12, upd (F 13) (131 * t + Rv.length) (nI (x.2 + 1 + n)), by rw [show tx_pt wd (x :: Rv) fm n = (x.1, x.2 + 1 + n) :: Rv from if_pos (by omega)]; exact tx_rs_j hrs (by omega), rfl⟩ dX10_part_87
