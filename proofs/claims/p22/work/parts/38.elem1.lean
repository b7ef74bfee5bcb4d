def kd6 (kd : Int32) : Prop := kd = 0 ∨ kd = 1 ∨ kd = 2 ∨ kd = 3 ∨ kd = 4 ∨ kd = 5
/-- the first n of a row of bytes are a text -/
def tx_is (X : List Int32) (f : Nat → Int32) : Prop := ∀ i, i < X.length → f i = X.getD i 0
theorem tx_is_0 (f : Nat → Int32) : tx_is [] f := fun i h => absurd h (Nat.not_lt_zero i)
theorem tx_is_a {X : List Int32} {f : Nat → Int32} {v w : Int32} (h : tx_is X f) (hv : w = v) : tx_is (X ++ [v]) (upd f X.length w) := by
  intro i hi
  rw [List.length_append] at hi
  have hi : i < X.length + 1 := hi
  by_cases he : i = X.length
  · rw [he, pk_us, hv]; simp
  · rw [pk_un he, h i (by omega)]
    simp only [List.getD_eq_getElem?_getD]
    rw [List.getElem?_append_left (by omega)]
theorem tx_bb {x : Int32} (h : vp_nar .byte x = x) : vp_nar .byte x.toInt8.toInt32 = x := by
  rw [vp_nar_byte] at h
  rw [h, vp_nar_byte, h]
/-- the end of a chunk: the first blank from i on, k bytes -/
def ck_end (g : Nat → Int32) : Nat → Nat → Nat
  | 0, i => i
  | k + 1, i => if g i = 32 then i else ck_end g k (i + 1)
theorem ck_end_le (g : Nat → Int32) : ∀ k i, i ≤ ck_end g k i ∧ ck_end g k i ≤ i + k := by
  intro k
  induction k with
  | zero => intro i; exact ⟨Nat.le_refl _, Nat.le_refl _⟩
  | succ k ih =>
    intro i
    unfold ck_end
    by_cases h : g i = 32
    · rw [if_pos h]; omega
    · rw [if_neg h]; have := ih (i + 1); omega
def ck_lim (n wd at_ : Nat) : Nat := if at_ + wd < n then at_ + wd else n
def ck_e (g : Nat → Int32) (n wd at_ : Nat) : Nat := ck_end g (ck_lim n wd at_ - at_) at_
def ck_pr (wd : Nat) (Rv : List (Nat × Nat)) (at_ e : Nat) : List (Nat × Nat) := match Rv with
  | [] => [(at_, e - at_)]
  | x :: t => if e - x.1 ≤ wd then (x.1, e - x.1) :: t else (at_, e - at_) :: x :: t
def ck_rv (f1 f2 : Nat → Int32) : List (Nat × Nat) → Prop
  | [] => True
  | x :: t => f1 t.length = nI x.1 ∧ f2 t.length = nI (x.1 + x.2) ∧ ck_rv f1 f2 t
theorem ck_rv_up {f1 f2 : Nat → Int32} {j : Nat} {v w : Int32} : ∀ {Rv : List (Nat × Nat)}, Rv.length ≤ j → ck_rv f1 f2 Rv → ck_rv (upd f1 j v) (upd f2 j w) Rv
  | [], _, _ => trivial
  | x :: t, hj, h => by
    have hj : t.length + 1 ≤ j := hj
    refine ⟨?_, ?_, ck_rv_up (by omega) h.2.2⟩
    · rw [pk_un (by omega)]; exact h.1
    · rw [pk_un (by omega)]; exact h.2.1
theorem ck_rv_u2 {f1 f2 : Nat → Int32} {j : Nat} {w : Int32} : ∀ {Rv : List (Nat × Nat)}, Rv.length ≤ j → ck_rv f1 f2 Rv → ck_rv f1 (upd f2 j w) Rv
  | [], _, _ => trivial
  | x :: t, hj, h => by
    have hj : t.length + 1 ≤ j := hj
    refine ⟨h.1, ?_, ck_rv_u2 (by omega) h.2.2⟩
    rw [pk_un (by omega)]; exact h.2.1
theorem ck_rv_n {f1 f2 : Nat → Int32} {Rv : List (Nat × Nat)} {a e : Nat} (h : ck_rv f1 f2 Rv) (hae : a ≤ e) : ck_rv (upd f1 Rv.length (nI a)) (upd f2 Rv.length (nI e)) ((a, e - a) :: Rv) := by
  refine ⟨pk_us, ?_, ck_rv_up (Nat.le_refl _) h⟩
  rw [pk_us]
  exact congrArg nI (show e = a + (e - a) by omega)
theorem ck_rv_j {f1 f2 : Nat → Int32} {t : List (Nat × Nat)} {x : Nat × Nat} {e : Nat} (h : ck_rv f1 f2 (x :: t)) (hae : x.1 ≤ e) : ck_rv f1 (upd f2 t.length (nI e)) ((x.1, e - x.1) :: t) := by
  refine ⟨h.1, ?_, ck_rv_u2 (Nat.le_refl _) h.2.2⟩
  rw [pk_us]
  exact congrArg nI (show e = x.1 + (e - x.1) by omega)
theorem q_min {a b r : Nat} (ha : a < 2 ^ 31) (hb : b < 2 ^ 31) (h : (if b < a then b else a) = r) : (if nI b < nI a then nI b else nI a) = nI r := by
  by_cases c : b < a
  · rw [if_pos (nI_lt c ha)]; rw [if_pos c] at h; rw [h]
  · rw [if_neg (nI_nlt (by omega) (by omega))]; rw [if_neg c] at h; rw [h]
theorem q_max {a b r : Nat} (ha : a < 2 ^ 31) (hb : b < 2 ^ 31) (h : (if a < b then b else a) = r) : (if nI a < nI b then nI b else nI a) = nI r := by
  by_cases c : a < b
  · rw [if_pos (nI_lt c hb)]; rw [if_pos c] at h; rw [h]
  · rw [if_neg (nI_nlt (by omega) (by omega))]; rw [if_neg c] at h; rw [h]
theorem tx_is_b {X : List Int32} {f : Nat → Int32} {v w : Int32} {n : Nat} (hn : n = X.length) (h : tx_is X f) (hv : w = v) : tx_is (X ++ [v]) (upd f n w) := by rw [hn]; exact tx_is_a h hv
theorem tx_len1 {X : List Int32} {v : Int32} {n : Nat} (hn : n = X.length) : n + 1 = (X ++ [v]).length := by rw [List.length_append, hn]; rfl
theorem tx_b32 : vp_nar .byte (32 : Int32).toInt8.toInt32 = 32 := by decide
theorem tx_sc_b0 {T : Nat → Int32} {r i w b : Nat} {X : List Int32} (h : ¬ tx_gap (T i)) (hb : b = 0) (hw : w = 0) : tx_sc T (r + 1) i b w X = tx_sc T r (i + 1) 1 (w + 1) (X ++ [T i]) := hb ▸ (tx_sc_00 h (Nat.succ_pos r) hw).trans (tx_sc_1 h (Nat.succ_pos r))
theorem tx_sc_bs {T : Nat → Int32} {r i w b : Nat} {X : List Int32} (h : ¬ tx_gap (T i)) (hb : b = 0) (hw : ¬ w = 0) : tx_sc T (r + 1) i b w X = tx_sc T r (i + 1) 1 (w + 1) (X ++ [32] ++ [T i]) := hb ▸ (tx_sc_0s h (Nat.succ_pos r) hw).trans (tx_sc_1 h (Nat.succ_pos r))
theorem tx_sc_b1 {T : Nat → Int32} {r i w b : Nat} {X : List Int32} (h : ¬ tx_gap (T i)) (hb : b = 1) : tx_sc T (r + 1) i b w X = tx_sc T r (i + 1) 1 w (X ++ [T i]) := by rw [hb]; exact tx_sc_1 h (Nat.succ_pos r)
theorem tx_sc_bg {T : Nat → Int32} {r i w b : Nat} {X : List Int32} (h : tx_gap (T i)) : tx_sc T (r + 1) i b w X = tx_sc T r (i + 1) 0 w X := tx_sc_g h (Nat.succ_pos r)
abbrev cX1_addToText : ByteArray := prog_3_method_14_code
def yX1_addToText : MethodName := ⟨RX1, "addToText", "(I)V"⟩
abbrev cX1_takeWords : ByteArray := prog_3_method_13_code
def yX1_takeWords : MethodName := ⟨RX1, "takeWords", "(LScriptDesk$Tape;II)V"⟩
theorem k_1 : (Cond.selects RX1 yX1_addToText yX1_addToText) ∈ gT := gT_i 1 (by decide +kernel) rfl
theorem k_90 : (Cond.initialized RX1) ∈ gT := gT_i 90 (by decide +kernel) rfl
theorem k_193 : (Cond.methodLink RX1 62 yX8_isGap) ∈ gT := gT_i 193 (by decide +kernel) rfl
theorem k_201 : (Cond.methodLink RX1 67 yX1_addToText) ∈ gT := gT_i 201 (by decide +kernel) rfl
theorem k_203 : (Cond.instanceMethod yX1_addToText) ∈ gT := gT_i 203 (by decide +kernel) rfl
theorem k_204 : (Cond.code yX1_addToText cX1_addToText 2 none) ∈ gT := gT_i 204 (by decide +kernel) rfl
theorem k_205 : (Cond.methodLink RX1 71 yX8_at) ∈ gT := gT_i 205 (by decide +kernel) rfl
theorem k_236 : (Cond.fieldLink RX1 24 "ScriptDesk$Element" "text" "[B") ∈ gT := gT_i 236 (by decide +kernel) rfl
theorem k_237 : (Cond.fieldLink RX1 32 "ScriptDesk$Element" "size" "I") ∈ gT := gT_i 237 (by decide +kernel) rfl
theorem k_238 : (Cond.fieldLink RX1 45 "ScriptDesk$Element" "words" "I") ∈ gT := gT_i 238 (by decide +kernel) rfl
theorem dX1_addToText_0 : decode cX1_addToText 0 = .ok (.aload_n 0, 1) := by decide +kernel
theorem dX1_addToText_1 : decode cX1_addToText 1 = .ok (.getfield 32, 3) := by decide +kernel
theorem dX1_addToText_4 : decode cX1_addToText 4 = .ok (.aload_n 0, 1) := by decide +kernel
theorem dX1_addToText_5 : decode cX1_addToText 5 = .ok (.getfield 24, 3) := by decide +kernel
theorem dX1_addToText_8 : decode cX1_addToText 8 = .ok (.arraylength, 1) := by decide +kernel
theorem dX1_addToText_9 : decode cX1_addToText 9 = .ok (.if_icmp .ge 24, 3) := by decide +kernel
theorem dX1_addToText_12 : decode cX1_addToText 12 = .ok (.aload_n 0, 1) := by decide +kernel
theorem dX1_addToText_13 : decode cX1_addToText 13 = .ok (.getfield 24, 3) := by decide +kernel
theorem dX1_addToText_16 : decode cX1_addToText 16 = .ok (.aload_n 0, 1) := by decide +kernel
theorem dX1_addToText_17 : decode cX1_addToText 17 = .ok (.getfield 32, 3) := by decide +kernel
theorem dX1_addToText_20 : decode cX1_addToText 20 = .ok (.iload_n 1, 1) := by decide +kernel
theorem dX1_addToText_21 : decode cX1_addToText 21 = .ok (.i2b, 1) := by decide +kernel
theorem dX1_addToText_22 : decode cX1_addToText 22 = .ok (.bastore, 1) := by decide +kernel
theorem dX1_addToText_23 : decode cX1_addToText 23 = .ok (.aload_n 0, 1) := by decide +kernel
theorem dX1_addToText_24 : decode cX1_addToText 24 = .ok (.dup, 1) := by decide +kernel
theorem dX1_addToText_25 : decode cX1_addToText 25 = .ok (.getfield 32, 3) := by decide +kernel
theorem dX1_addToText_28 : decode cX1_addToText 28 = .ok (.iconst 1, 1) := by decide +kernel
theorem dX1_addToText_29 : decode cX1_addToText 29 = .ok (.iadd, 1) := by decide +kernel
theorem dX1_addToText_30 : decode cX1_addToText 30 = .ok (.putfield 32, 3) := by decide +kernel
theorem dX1_addToText_33 : decode cX1_addToText 33 = .ok (.return_, 1) := by decide +kernel
theorem dX1_takeWords_6 : decode cX1_takeWords 6 = .ok (.iload 5, 2) := by decide +kernel
theorem dX1_takeWords_8 : decode cX1_takeWords 8 = .ok (.iload_n 3, 1) := by decide +kernel
theorem dX1_takeWords_9 : decode cX1_takeWords 9 = .ok (.if_icmp .ge 78, 3) := by decide +kernel
theorem dX1_takeWords_12 : decode cX1_takeWords 12 = .ok (.aload_n 1, 1) := by decide +kernel
theorem dX1_takeWords_13 : decode cX1_takeWords 13 = .ok (.iload 5, 2) := by decide +kernel
theorem dX1_takeWords_15 : decode cX1_takeWords 15 = .ok (.invokevirtual 62, 3) := by decide +kernel
theorem dX1_takeWords_18 : decode cX1_takeWords 18 = .ok (.istore 6, 2) := by decide +kernel
theorem dX1_takeWords_20 : decode cX1_takeWords 20 = .ok (.iload 6, 2) := by decide +kernel
theorem dX1_takeWords_22 : decode cX1_takeWords 22 = .ok (.ifCond .ne 32, 3) := by decide +kernel
theorem dX1_takeWords_54 : decode cX1_takeWords 54 = .ok (.iload 6, 2) := by decide +kernel
theorem dX1_takeWords_56 : decode cX1_takeWords 56 = .ok (.ifCond .ne 13, 3) := by decide +kernel
theorem dX1_takeWords_69 : decode cX1_takeWords 69 = .ok (.iload 6, 2) := by decide +kernel
theorem dX1_takeWords_71 : decode cX1_takeWords 71 = .ok (.ifCond .ne 7, 3) := by decide +kernel
theorem dX1_takeWords_78 : decode cX1_takeWords 78 = .ok (.iconst 0, 1) := by decide +kernel
theorem dX1_takeWords_79 : decode cX1_takeWords 79 = .ok (.istore 4, 2) := by decide +kernel
theorem dX1_takeWords_81 : decode cX1_takeWords 81 = .ok (.iinc 5 1, 3) := by decide +kernel
theorem dX1_takeWords_84 : decode cX1_takeWords 84 = .ok (.goto (-78), 3) := by decide +kernel
theorem dX1_takeWords_25 : decode cX1_takeWords 25 = .ok (.iload 4, 2) := by decide +kernel
theorem dX1_takeWords_27 : decode cX1_takeWords 27 = .ok (.ifCond .ne 27, 3) := by decide +kernel
theorem dX1_takeWords_59 : decode cX1_takeWords 59 = .ok (.aload_n 0, 1) := by decide +kernel
theorem dX1_takeWords_60 : decode cX1_takeWords 60 = .ok (.aload_n 1, 1) := by decide +kernel
theorem dX1_takeWords_61 : decode cX1_takeWords 61 = .ok (.iload 5, 2) := by decide +kernel
theorem dX1_takeWords_63 : decode cX1_takeWords 63 = .ok (.invokevirtual 71, 3) := by decide +kernel
theorem dX1_takeWords_66 : decode cX1_takeWords 66 = .ok (.invokevirtual 67, 3) := by decide +kernel
theorem dX1_takeWords_74 : decode cX1_takeWords 74 = .ok (.iconst 1, 1) := by decide +kernel
theorem dX1_takeWords_75 : decode cX1_takeWords 75 = .ok (.goto 4, 3) := by decide +kernel
theorem dX1_takeWords_30 : decode cX1_takeWords 30 = .ok (.aload_n 0, 1) := by decide +kernel
theorem dX1_takeWords_31 : decode cX1_takeWords 31 = .ok (.dup, 1) := by decide +kernel
theorem dX1_takeWords_32 : decode cX1_takeWords 32 = .ok (.getfield 45, 3) := by decide +kernel
theorem dX1_takeWords_35 : decode cX1_takeWords 35 = .ok (.iconst 1, 1) := by decide +kernel
theorem dX1_takeWords_36 : decode cX1_takeWords 36 = .ok (.iadd, 1) := by decide +kernel
theorem dX1_takeWords_37 : decode cX1_takeWords 37 = .ok (.putfield 45, 3) := by decide +kernel
theorem dX1_takeWords_40 : decode cX1_takeWords 40 = .ok (.aload_n 0, 1) := by decide +kernel
theorem dX1_takeWords_41 : decode cX1_takeWords 41 = .ok (.getfield 45, 3) := by decide +kernel
theorem dX1_takeWords_44 : decode cX1_takeWords 44 = .ok (.iconst 1, 1) := by decide +kernel
theorem dX1_takeWords_45 : decode cX1_takeWords 45 = .ok (.if_icmp .le 9, 3) := by decide +kernel
theorem dX1_takeWords_48 : decode cX1_takeWords 48 = .ok (.aload_n 0, 1) := by decide +kernel
theorem dX1_takeWords_49 : decode cX1_takeWords 49 = .ok (.bipush 32, 2) := by decide +kernel
theorem dX1_takeWords_51 : decode cX1_takeWords 51 = .ok (.invokevirtual 67, 3) := by decide +kernel
theorem dX1_takeWords_0 : decode cX1_takeWords 0 = .ok (.iconst 0, 1) := by decide +kernel
theorem dX1_takeWords_1 : decode cX1_takeWords 1 = .ok (.istore 4, 2) := by decide +kernel
theorem dX1_takeWords_3 : decode cX1_takeWords 3 = .ok (.iload_n 2, 1) := by decide +kernel
theorem dX1_takeWords_4 : decode cX1_takeWords 4 = .ok (.istore 5, 2) := by decide +kernel
theorem dX1_takeWords_87 : decode cX1_takeWords 87 = .ok (.return_, 1) := by decide +kernel
set_option maxHeartbeats 1000000 in
set_option maxRecDepth 100000 in
theorem l_add (l : Launch) (D : va_G) (z : Nat → Nat) (cB cI_ cO : ClassId) (L0 : List Nat) (g0 : hG) (el : Nat) (kd nm sk : Int32) (tx n w : Nat) (N0 : Nat) (tf : Nat → Int32) (b : Int32) (h_el : ho L0 g0 el 9 (.inr (2, [.int kd, .int nm, .int sk, .ref tx, .int (nI n), .int (nI w), .null, .null, .int 0]))) (h_tx : ho L0 g0 tx 10 (.inl (cB, N0, .inl tf))) (hn : n < N0) (hN0 : N0 ≤ 1200) : eV l D yX1_addToText cX1_addToText 2 none 0 0 0 0 [.ref el, .int b] z cB cI_ cO L0 g0 (fun L g => fr [9, 10] L0 g0 L g ∧ fra [el, tx] L0 g0 L g ∧ ho L g el 9 (.inr (2, [.int kd, .int nm, .int sk, .ref tx, .int (nI (n + 1)), .int (nI w), .null, .null, .int 0])) ∧ ho L g tx 10 (.inl (cB, N0, .inl (upd tf n (vp_nar .byte b.toInt8.toInt32))))) := by
  refine o_sv (by decide) (Nat.le_of_ble_eq_true rfl) ?_
  intro p e s m below meth c A ls hf hr hlocks hin hK hP hD hS hA hZ hN hl
  obtain ⟨hx, hb, hml, hown, hts⟩ := id hf
  have hl : lv_has ls 2 [(0, .ref el), (1, .int b)] := hl
  have hfr : fr [9, 10] L0 g0 L0 g0 := fr.rf
  have hfa : fra [el, tx] L0 g0 L0 g0 := fra.rf
  refine lv_aload_n hx hb dX1_addToText_0 rfl (lv_at hl 0 rfl) ?_
  refine o_get (D := D) (ci := 2) (v := .int (nI n)) (C := RX1) (T := TX1) (N := 9) hx hb hts inX1 hown hK hP h_el rfl 4 (by decide) (hts _ k_237) (fun _ h9 => h9) rfl dX1_addToText_1 ?_
  refine lv_aload_n hx hb dX1_addToText_4 rfl (lv_at hl 0 rfl) ?_
  refine o_get (D := D) (ci := 2) (v := .ref tx) (C := RX1) (T := TX1) (N := 9) hx hb hts inX1 hown hK hP h_el rfl 3 (by decide) (hts _ k_236) (fun _ h9 => h9) rfl dX1_addToText_5 ?_
  refine o_lenb hx hb hK hP h_tx dX1_addToText_8 ?_
  refine lv_icmp_ge (tgt := 33) hx hb dX1_addToText_9 (by decide) (fun c_1 => ?_) (fun c_1 => ?_)
  · have c_1 := q_le (a := N0) (b := n) (by omega) (by omega) c_1
    exact False.elim (by omega)
  · have c_1 := q_nle (a := N0) (b := n) (by omega) (by omega) c_1
    refine lv_aload_n hx hb dX1_addToText_12 rfl (lv_at hl 0 rfl) ?_
    refine o_get (D := D) (ci := 2) (v := .ref tx) (C := RX1) (T := TX1) (N := 9) hx hb hts inX1 hown hK hP h_el rfl 3 (by decide) (hts _ k_236) (fun _ h9 => h9) rfl dX1_addToText_13 ?_
    refine lv_aload_n hx hb dX1_addToText_16 rfl (lv_at hl 0 rfl) ?_
    refine o_get (D := D) (ci := 2) (v := .int (nI n)) (C := RX1) (T := TX1) (N := 9) hx hb hts inX1 hown hK hP h_el rfl 4 (by decide) (hts _ k_237) (fun _ h9 => h9) rfl dX1_addToText_17 ?_
    refine lv_iload_n hx hb dX1_addToText_20 rfl (lv_at hl 1 rfl) ?_
    refine lv_i2b (v := b.toInt8.toInt32) hx hb dX1_addToText_21 rfl ?_
    refine o_bst (X := n) (x := b.toInt8.toInt32) hx hb hK hP hD hS h_tx (by omega) (by omega) dX1_addToText_22 (fun g H locs h_tx hu hP hD hS => ?_)
    have h_el := h_el.up hu (by decide)
    have hfr := hfr.up hu (by decide)
    have hfa := hfa.up hu (Or.inl (by simp))
    refine lv_aload_n hx hb dX1_addToText_23 rfl (lv_at hl 0 rfl) ?_
    refine lv_dup hx hb dX1_addToText_24 rfl ?_
    refine o_get (D := D) (ci := 2) (v := .int (nI n)) (C := RX1) (T := TX1) (N := 9) hx hb hts inX1 hown hK hP h_el rfl 4 (by decide) (hts _ k_237) (fun _ h9 => h9) rfl dX1_addToText_25 ?_
    refine lv_iconst (v := 1) hx hb dX1_addToText_28 (by decide) ?_
    refine lv_iadd hx hb dX1_addToText_29 ?_
    refine q_seti (y := nI (n + 1)) (nI_addE (a := n) (b := 1) (by omega)) ?_
    refine o_put (D := D) (ci := 2) (v := .int (nI (n + 1))) (ty := .int) (C := RX1) (T := TX1) (N := 9) (fs1 := [.int kd, .int nm, .int sk, .ref tx, .int (nI (n + 1)), .int (nI w), .null, .null, .int 0]) hx hb hts inX1 tyX1 tyX1_ok nmX1 hown hK hP hD hS h_el rfl 4 (by decide) (hts _ k_237) (fun _ h9 => h9) rfl (by decide +kernel) rfl rfl (Nat.le_of_ble_eq_true rfl) rfl dX1_addToText_30 (fun g H locs h_el hu hP hD hS => ?_)
    have h_tx := h_tx.up hu (by decide)
    have hfr := hfr.up hu (by decide)
    have hfa := hfa.up hu (Or.inl (by simp))
    exact o_rv hf hr hlocks hK hP hD hS (show 0 ≤ 0 by omega) (show 0 ≤ 0 by omega) ⟨hfr, hfa, h_el, h_tx⟩ dX1_addToText_33
set_option maxHeartbeats 1000000 in
set_option maxRecDepth 100000 in
theorem lt_loop {p : Program} {l : Launch} {e : Env} {R : Room} {s : State} {m : MethodId} {args : Array Value} {below : List Frame} {meth : Method} {c : Code} {Q : State → Prop} {D : va_G} {A : Nat → Prop} {z : Nat → Nat} {cB cI_ cO : ClassId} {L0 : List Nat} {g0 : hG} {el tp by_ tn tx to_ N0 : Nat} {kd nm sk x2 : Int32} {T : Nat → Int32} (hn : tn ≤ 1200) (hto : to_ ≤ tn) (hN0 : N0 ≤ 1200) (hTb : ∀ i, vp_nar .byte (T i) = T i) (hRf : 2 ≤ R.frames) (hRl : 45 ≤ R.locals) (hA : ∀ q : Nat, s.heap.size ≤ q → A q) (hf : CallFix p m c cX1_takeWords 7 s args gT yX1_takeWords.cls) (hK : va_K D vcl (dT cB cI_ cO) s) (hZ : zA z A s s.heap) (hN : zB z s) :
    ∀ (k : Nat) (i : Nat) (b : Nat) (n : Nat) (w : Nat) (X : List Int32) (tf : Nat → Int32) (cells slots : Nat) (L : List Nat) (g : hG) (H : Heap) (locs : List Loc) (ls : Array Slot), i + k = to_ → b ≤ 1 → n + k ≤ N0 → (b = 0 → 0 < w → n + k + 1 ≤ N0) → n = X.length → w ≤ n → tx_is X tf → cells ≤ R.cells → slots ≤ R.slots → ho L g el 9 (.inr (2, [.int kd, .int nm, .int sk, .ref tx, .int (nI n), .int (nI w), .null, .null, .int 0])) → ho L g tx 10 (.inl (cB, N0, .inl tf)) → ho L g tp 2 (.inr (9, [.ref by_, .int (nI tn)])) → ho L g by_ 3 (.inl (cB, 1200, .inl T)) → fr [9, 10] L0 g0 L g → fra [el, tx] L0 g0 L g → va_P D vcl (dW L g) H → va_D A (dW L g) → va_S A s.heap H locs → lv_has ls 7 [(5, .int (nI i)), (4, .int (nI b)), (3, .int (nI to_)), (2, .int x2), (1, .ref tp), (0, .ref el)] →
    (∀ (w2 : Nat) (X2 : List Int32) (tf2 : Nat → Int32) (n2 : Nat)  (L : List Nat) (g : hG) (H : Heap) (locs : List Loc) (ls : Array Slot), (w2, X2) = tx_sc T k i b w X → n2 = X2.length → n2 ≤ N0 → tx_is X2 tf2 → ho L g el 9 (.inr (2, [.int kd, .int nm, .int sk, .ref tx, .int (nI n2), .int (nI w2), .null, .null, .int 0])) → ho L g tx 10 (.inl (cB, N0, .inl tf2)) → ho L g tp 2 (.inr (9, [.ref by_, .int (nI tn)])) → ho L g by_ 3 (.inl (cB, 1200, .inl T)) → fr [9, 10] L0 g0 L g → fra [el, tx] L0 g0 L g → va_P D vcl (dW L g) H → va_D A (dW L g) → va_S A s.heap H locs → lv_has ls 7 [(0, .ref el)] → W p l e R s m args below meth c H locs cells slots Q (F0 m 87 ls [])) →
    W p l e R s m args below meth c H locs cells slots Q (F0 m 6 ls []) := by
  obtain ⟨hx, hb, hml, hown, hts⟩ := id hf
  intro k
  induction k with
  | zero =>
    intro i b n w X tf cells slots L g H locs ls hik hb1 hXk hX1 hnX hwn hX hRc hRs h_el h_tx h_tp h_by hfr hfa hP hD hS hl kk
    refine lv_iload hx hb dX1_takeWords_6 (lv_at hl 0 rfl) ?_
    refine lv_iload_n hx hb dX1_takeWords_8 rfl (lv_at hl 2 rfl) ?_
    refine lv_icmp_ge (tgt := 87) hx hb dX1_takeWords_9 (by decide) (fun c_1 => ?_) (fun c_1 => ?_)
    · have c_1 := q_le (a := to_) (b := i) (by omega) (by omega) c_1
      exact kk w X tf n _ _ H locs ls rfl hnX (by omega) hX h_el h_tx h_tp h_by hfr hfa hP hD hS (lv_sub hl (l' := [(0, .ref el)]) [5] rfl)
    · have c_1 := q_nle (a := to_) (b := i) (by omega) (by omega) c_1
      exact False.elim (by omega)
  | succ k ih =>
    intro i b n w X tf cells slots L g H locs ls hik hb1 hXk hX1 hnX hwn hX hRc hRs h_el h_tx h_tp h_by hfr hfa hP hD hS hl kk
    refine lv_iload hx hb dX1_takeWords_6 (lv_at hl 0 rfl) ?_
    refine lv_iload_n hx hb dX1_takeWords_8 rfl (lv_at hl 2 rfl) ?_
    refine lv_icmp_ge (tgt := 87) hx hb dX1_takeWords_9 (by decide) (fun c_1 => ?_) (fun c_1 => ?_)
    · have c_1 := q_le (a := to_) (b := i) (by omega) (by omega) c_1
      exact False.elim (by omega)
    · have c_1 := q_nle (a := to_) (b := i) (by omega) (by omega) c_1
      refine lv_aload_n hx hb dX1_takeWords_12 rfl (lv_at hl 4 rfl) ?_
      refine lv_iload hx hb dX1_takeWords_13 (lv_at hl 0 rfl) ?_
      refine o_cis (k := cells) (n := slots) hK hP hD hS hA (o_rV (As := [.int (nI i)]) (rest := []) hf (t_isGapI _ _ _ _ _ _ _ _ tp by_ tn T i h_tp h_by hn (by omega) _) k_196 k_193 k_194 k_195 k_85 (nA := 1) (by decide +kernel) ⟨Nat.le_trans (by decide) hRf, Nat.le_trans (by decide) hRl⟩ hK hP hD hS hA hZ hN h_tp rfl rfl rfl hl.1 rfl (Nat.le_of_ble_eq_true rfl) dX1_takeWords_15 ⟨(show cells + 0 ≤ R.cells by omega), (show slots + 0 ≤ R.slots by omega)⟩) (Nat.le_refl _) (Nat.le_refl _) (fun r H locs hw hP hD hS => ?_)
      rcases hw with ⟨c_2, rfl⟩ | ⟨c_2, rfl⟩
      · have hP := hP
        refine lv_istore (lv' := [(6, .int 1), (5, .int (nI i)), (4, .int (nI b)), (3, .int (nI to_)), (2, .int x2), (1, .ref tp), (0, .ref el)]) hx hb dX1_takeWords_18 hl (by decide) rfl (fun ls hl => ?_)
        refine lv_iload hx hb dX1_takeWords_20 (lv_at hl 0 rfl) ?_
        refine lv_if_ne (tgt := 54) hx hb dX1_takeWords_22 (by decide) (fun _ => ?_) (fun hno => absurd hno (by decide))
        refine lv_iload hx hb dX1_takeWords_54 (lv_at hl 0 rfl) ?_
        refine lv_if_ne (tgt := 69) hx hb dX1_takeWords_56 (by decide) (fun _ => ?_) (fun hno => absurd hno (by decide))
        refine lv_iload hx hb dX1_takeWords_69 (lv_at hl 0 rfl) ?_
        refine lv_if_ne (tgt := 78) hx hb dX1_takeWords_71 (by decide) (fun _ => ?_) (fun hno => absurd hno (by decide))
        refine lv_iconst (v := 0) hx hb dX1_takeWords_78 (by decide) ?_
        refine lv_istore (lv' := [(4, .int 0), (6, .int 1), (5, .int (nI i)), (3, .int (nI to_)), (2, .int x2), (1, .ref tp), (0, .ref el)]) hx hb dX1_takeWords_79 hl (by decide) rfl (fun ls hl => ?_)
        refine lv_iinc (v := nI (i + 1)) (lv' := [(5, .int (nI (i + 1))), (4, .int 0), (6, .int 1), (3, .int (nI to_)), (2, .int x2), (1, .ref tp), (0, .ref el)]) hx hb dX1_takeWords_81 hl (k := 2) rfl (nI_addE (a := i) (b := 1) (by omega)) (by decide) rfl (fun ls hl => ?_)
        refine lv_goto (tgt := 6) hx hb dX1_takeWords_84 (by decide) ?_
        exact ih (i + 1) 0 n w X tf cells slots _ _ H locs ls (by omega) (by omega) (by omega) (by omega) hnX (by omega) hX hRc hRs h_el h_tx h_tp h_by hfr hfa hP hD hS (lv_sub hl (l' := [(5, .int (nI (i + 1))), (4, .int 0), (3, .int (nI to_)), (2, .int x2), (1, .ref tp), (0, .ref el)]) [0, 1, 3, 4, 5, 6] rfl) (fun w3 X3 tf3 n3 L g H locs ls a1 => kk w3 X3 tf3 n3 L g H locs ls (a1.trans (tx_sc_bg c_2).symm))
      · have hP := hP
        refine lv_istore (lv' := [(6, .int 0), (5, .int (nI i)), (4, .int (nI b)), (3, .int (nI to_)), (2, .int x2), (1, .ref tp), (0, .ref el)]) hx hb dX1_takeWords_18 hl (by decide) rfl (fun ls hl => ?_)
        refine lv_iload hx hb dX1_takeWords_20 (lv_at hl 0 rfl) ?_
        refine lv_if_ne (tgt := 54) hx hb dX1_takeWords_22 (by decide) (fun hno => absurd hno (by decide)) (fun _ => ?_)
        refine lv_iload hx hb dX1_takeWords_25 (lv_at hl 2 rfl) ?_
        refine lv_if_ne (tgt := 54) hx hb dX1_takeWords_27 (by decide) (fun c_3 => ?_) (fun c_3 => ?_)
        · have c_3 := q_nen (a := b) (b := 0) (by omega) (by omega) c_3
          refine lv_iload hx hb dX1_takeWords_54 (lv_at hl 0 rfl) ?_
          refine lv_if_ne (tgt := 69) hx hb dX1_takeWords_56 (by decide) (fun hno => absurd hno (by decide)) (fun _ => ?_)
          refine lv_aload_n hx hb dX1_takeWords_59 rfl (lv_at hl 6 rfl) ?_
          refine lv_aload_n hx hb dX1_takeWords_60 rfl (lv_at hl 5 rfl) ?_
          refine lv_iload hx hb dX1_takeWords_61 (lv_at hl 1 rfl) ?_
          refine o_cis (k := cells) (n := slots) hK hP hD hS hA (o_rV (As := [.int (nI i)]) (rest := [.ref el]) hf (t_atI _ _ _ _ _ _ _ _ tp by_ tn T i h_tp h_by hn (by omega) _) k_200 k_205 k_198 k_199 k_85 (nA := 1) (by decide +kernel) ⟨Nat.le_trans (by decide) hRf, Nat.le_trans (by decide) hRl⟩ hK hP hD hS hA hZ hN h_tp rfl rfl rfl hl.1 rfl (Nat.le_of_ble_eq_true rfl) dX1_takeWords_63 ⟨(show cells + 0 ≤ R.cells by omega), (show slots + 0 ≤ R.slots by omega)⟩) (Nat.le_refl _) (Nat.le_refl _) (fun r H locs hw hP hD hS => ?_)
          obtain rfl := hw
          refine o_cv (k := cells) (n := slots) hK hP hD hS hA (o_rV (As := [.int (T i)]) (rest := []) hf (l_add _ _ _ _ _ _ _ _ el kd nm sk tx n w N0 tf (T i) h_el h_tx (by omega) hN0 _) k_204 k_201 k_203 k_1 k_90 (nA := 1) (by decide +kernel) ⟨Nat.le_trans (by decide) hRf, Nat.le_trans (by decide) hRl⟩ hK hP hD hS hA hZ hN h_el rfl rfl rfl hl.1 rfl (Nat.le_of_ble_eq_true rfl) dX1_takeWords_66 ⟨(show cells + 0 ≤ R.cells by omega), (show slots + 0 ≤ R.slots by omega)⟩) (Nat.le_refl _) (Nat.le_refl _) (fun L g H locs hw hP hD hS => ?_)
          obtain ⟨hf9, hfa9, h_el, h_tx⟩ := hw
          have h_tp := h_tp.fr hf9 (by decide)
          have h_by := h_by.fr hf9 (by decide)
          have hfr := hfr.tr hf9
          have hfa := hfa.tm hfa9 (fal_s (Or.inl (by simp)) (fal_s (Or.inl (by simp)) fal_0))
          refine lv_iload hx hb dX1_takeWords_69 (lv_at hl 0 rfl) ?_
          refine lv_if_ne (tgt := 78) hx hb dX1_takeWords_71 (by decide) (fun hno => absurd hno (by decide)) (fun _ => ?_)
          refine lv_iconst (v := 1) hx hb dX1_takeWords_74 (by decide) ?_
          refine lv_goto (tgt := 79) hx hb dX1_takeWords_75 (by decide) ?_
          refine lv_istore (lv' := [(4, .int 1), (6, .int 0), (5, .int (nI i)), (3, .int (nI to_)), (2, .int x2), (1, .ref tp), (0, .ref el)]) hx hb dX1_takeWords_79 hl (by decide) rfl (fun ls hl => ?_)
          refine lv_iinc (v := nI (i + 1)) (lv' := [(5, .int (nI (i + 1))), (4, .int 1), (6, .int 0), (3, .int (nI to_)), (2, .int x2), (1, .ref tp), (0, .ref el)]) hx hb dX1_takeWords_81 hl (k := 2) rfl (nI_addE (a := i) (b := 1) (by omega)) (by decide) rfl (fun ls hl => ?_)
          refine lv_goto (tgt := 6) hx hb dX1_takeWords_84 (by decide) ?_
          exact ih (i + 1) 1 (n + 1) w (X ++ [T i]) (upd tf n (vp_nar .byte (T i).toInt8.toInt32)) cells slots _ _ H locs ls (by omega) (by omega) (by omega) (by omega) (tx_len1 hnX) (by omega) (tx_is_b hnX hX (tx_bb (hTb i))) hRc hRs h_el h_tx h_tp h_by hfr hfa hP hD hS (lv_sub hl (l' := [(5, .int (nI (i + 1))), (4, .int 1), (3, .int (nI to_)), (2, .int x2), (1, .ref tp), (0, .ref el)]) [0, 1, 3, 4, 5, 6] rfl) (fun w3 X3 tf3 n3 L g H locs ls a1 => kk w3 X3 tf3 n3 L g H locs ls (a1.trans (tx_sc_b1 c_2 (by omega)).symm))
        · have c_3 := q_eqn (a := b) (b := 0) (by omega) (by omega) c_3
          refine lv_aload_n hx hb dX1_takeWords_30 rfl (lv_at hl 6 rfl) ?_
          refine lv_dup hx hb dX1_takeWords_31 rfl ?_
          refine o_get (D := D) (ci := 2) (v := .int (nI w)) (C := RX1) (T := TX1) (N := 9) hx hb hts inX1 hown hK hP h_el rfl 5 (by decide) (hts _ k_238) (fun _ h9 => h9) rfl dX1_takeWords_32 ?_
          refine lv_iconst (v := 1) hx hb dX1_takeWords_35 (by decide) ?_
          refine lv_iadd hx hb dX1_takeWords_36 ?_
          refine q_seti (y := nI (w + 1)) (nI_addE (a := w) (b := 1) (by omega)) ?_
          refine o_put (D := D) (ci := 2) (v := .int (nI (w + 1))) (ty := .int) (C := RX1) (T := TX1) (N := 9) (fs1 := [.int kd, .int nm, .int sk, .ref tx, .int (nI n), .int (nI (w + 1)), .null, .null, .int 0]) hx hb hts inX1 tyX1 tyX1_ok nmX1 hown hK hP hD hS h_el rfl 5 (by decide) (hts _ k_238) (fun _ h9 => h9) rfl (by decide +kernel) rfl rfl (Nat.le_of_ble_eq_true rfl) rfl dX1_takeWords_37 (fun g H locs h_el hu hP hD hS => ?_)
          have h_tx := h_tx.up hu (by decide)
          have h_tp := h_tp.up hu (by decide)
          have h_by := h_by.up hu (by decide)
          have hfr := hfr.up hu (by decide)
          have hfa := hfa.up hu (Or.inl (by simp))
          refine lv_aload_n hx hb dX1_takeWords_40 rfl (lv_at hl 6 rfl) ?_
          refine o_get (D := D) (ci := 2) (v := .int (nI (w + 1))) (C := RX1) (T := TX1) (N := 9) hx hb hts inX1 hown hK hP h_el rfl 5 (by decide) (hts _ k_238) (fun _ h9 => h9) rfl dX1_takeWords_41 ?_
          refine lv_iconst (v := 1) hx hb dX1_takeWords_44 (by decide) ?_
          refine lv_icmp_le (tgt := 54) hx hb dX1_takeWords_45 (by decide) (fun c_4 => ?_) (fun c_4 => ?_)
          · have c_4 := q_le (a := w + 1) (b := 1) (by omega) (by omega) c_4
            refine lv_iload hx hb dX1_takeWords_54 (lv_at hl 0 rfl) ?_
            refine lv_if_ne (tgt := 69) hx hb dX1_takeWords_56 (by decide) (fun hno => absurd hno (by decide)) (fun _ => ?_)
            refine lv_aload_n hx hb dX1_takeWords_59 rfl (lv_at hl 6 rfl) ?_
            refine lv_aload_n hx hb dX1_takeWords_60 rfl (lv_at hl 5 rfl) ?_
            refine lv_iload hx hb dX1_takeWords_61 (lv_at hl 1 rfl) ?_
            refine o_cis (k := cells) (n := slots) hK hP hD hS hA (o_rV (As := [.int (nI i)]) (rest := [.ref el]) hf (t_atI _ _ _ _ _ _ _ _ tp by_ tn T i h_tp h_by hn (by omega) _) k_200 k_205 k_198 k_199 k_85 (nA := 1) (by decide +kernel) ⟨Nat.le_trans (by decide) hRf, Nat.le_trans (by decide) hRl⟩ hK hP hD hS hA hZ hN h_tp rfl rfl rfl hl.1 rfl (Nat.le_of_ble_eq_true rfl) dX1_takeWords_63 ⟨(show cells + 0 ≤ R.cells by omega), (show slots + 0 ≤ R.slots by omega)⟩) (Nat.le_refl _) (Nat.le_refl _) (fun r H locs hw hP hD hS => ?_)
            obtain rfl := hw
            refine o_cv (k := cells) (n := slots) hK hP hD hS hA (o_rV (As := [.int (T i)]) (rest := []) hf (l_add _ _ _ _ _ _ _ _ el kd nm sk tx n (w + 1) N0 tf (T i) h_el h_tx (by omega) hN0 _) k_204 k_201 k_203 k_1 k_90 (nA := 1) (by decide +kernel) ⟨Nat.le_trans (by decide) hRf, Nat.le_trans (by decide) hRl⟩ hK hP hD hS hA hZ hN h_el rfl rfl rfl hl.1 rfl (Nat.le_of_ble_eq_true rfl) dX1_takeWords_66 ⟨(show cells + 0 ≤ R.cells by omega), (show slots + 0 ≤ R.slots by omega)⟩) (Nat.le_refl _) (Nat.le_refl _) (fun L g H locs hw hP hD hS => ?_)
            obtain ⟨hf9, hfa9, h_el, h_tx⟩ := hw
            have h_tp := h_tp.fr hf9 (by decide)
            have h_by := h_by.fr hf9 (by decide)
            have hfr := hfr.tr hf9
            have hfa := hfa.tm hfa9 (fal_s (Or.inl (by simp)) (fal_s (Or.inl (by simp)) fal_0))
            refine lv_iload hx hb dX1_takeWords_69 (lv_at hl 0 rfl) ?_
            refine lv_if_ne (tgt := 78) hx hb dX1_takeWords_71 (by decide) (fun hno => absurd hno (by decide)) (fun _ => ?_)
            refine lv_iconst (v := 1) hx hb dX1_takeWords_74 (by decide) ?_
            refine lv_goto (tgt := 79) hx hb dX1_takeWords_75 (by decide) ?_
            refine lv_istore (lv' := [(4, .int 1), (6, .int 0), (5, .int (nI i)), (3, .int (nI to_)), (2, .int x2), (1, .ref tp), (0, .ref el)]) hx hb dX1_takeWords_79 hl (by decide) rfl (fun ls hl => ?_)
            refine lv_iinc (v := nI (i + 1)) (lv' := [(5, .int (nI (i + 1))), (4, .int 1), (6, .int 0), (3, .int (nI to_)), (2, .int x2), (1, .ref tp), (0, .ref el)]) hx hb dX1_takeWords_81 hl (k := 2) rfl (nI_addE (a := i) (b := 1) (by omega)) (by decide) rfl (fun ls hl => ?_)
            refine lv_goto (tgt := 6) hx hb dX1_takeWords_84 (by decide) ?_
            exact ih (i + 1) 1 (n + 1) (w + 1) (X ++ [T i]) (upd tf n (vp_nar .byte (T i).toInt8.toInt32)) cells slots _ _ H locs ls (by omega) (by omega) (by omega) (by omega) (tx_len1 hnX) (by omega) (tx_is_b hnX hX (tx_bb (hTb i))) hRc hRs h_el h_tx h_tp h_by hfr hfa hP hD hS (lv_sub hl (l' := [(5, .int (nI (i + 1))), (4, .int 1), (3, .int (nI to_)), (2, .int x2), (1, .ref tp), (0, .ref el)]) [0, 1, 3, 4, 5, 6] rfl) (fun w3 X3 tf3 n3 L g H locs ls a1 => kk w3 X3 tf3 n3 L g H locs ls (a1.trans (tx_sc_b0 c_2 (by omega) (by omega)).symm))
          · have c_4 := q_nle (a := w + 1) (b := 1) (by omega) (by omega) c_4
            refine lv_aload_n hx hb dX1_takeWords_48 rfl (lv_at hl 6 rfl) ?_
            refine lv_bipush (v := 32) hx hb dX1_takeWords_49 (by decide) ?_
            refine o_cv (k := cells) (n := slots) hK hP hD hS hA (o_rV (As := [.int 32]) (rest := []) hf (l_add _ _ _ _ _ _ _ _ el kd nm sk tx n (w + 1) N0 tf 32 h_el h_tx (by omega) hN0 _) k_204 k_201 k_203 k_1 k_90 (nA := 1) (by decide +kernel) ⟨Nat.le_trans (by decide) hRf, Nat.le_trans (by decide) hRl⟩ hK hP hD hS hA hZ hN h_el rfl rfl rfl hl.1 rfl (Nat.le_of_ble_eq_true rfl) dX1_takeWords_51 ⟨(show cells + 0 ≤ R.cells by omega), (show slots + 0 ≤ R.slots by omega)⟩) (Nat.le_refl _) (Nat.le_refl _) (fun L g H locs hw hP hD hS => ?_)
            obtain ⟨hf9, hfa9, h_el, h_tx⟩ := hw
            have h_tp := h_tp.fr hf9 (by decide)
            have h_by := h_by.fr hf9 (by decide)
            have hfr := hfr.tr hf9
            have hfa := hfa.tm hfa9 (fal_s (Or.inl (by simp)) (fal_s (Or.inl (by simp)) fal_0))
            refine lv_iload hx hb dX1_takeWords_54 (lv_at hl 0 rfl) ?_
            refine lv_if_ne (tgt := 69) hx hb dX1_takeWords_56 (by decide) (fun hno => absurd hno (by decide)) (fun _ => ?_)
            refine lv_aload_n hx hb dX1_takeWords_59 rfl (lv_at hl 6 rfl) ?_
            refine lv_aload_n hx hb dX1_takeWords_60 rfl (lv_at hl 5 rfl) ?_
            refine lv_iload hx hb dX1_takeWords_61 (lv_at hl 1 rfl) ?_
            refine o_cis (k := cells) (n := slots) hK hP hD hS hA (o_rV (As := [.int (nI i)]) (rest := [.ref el]) hf (t_atI _ _ _ _ _ _ _ _ tp by_ tn T i h_tp h_by hn (by omega) _) k_200 k_205 k_198 k_199 k_85 (nA := 1) (by decide +kernel) ⟨Nat.le_trans (by decide) hRf, Nat.le_trans (by decide) hRl⟩ hK hP hD hS hA hZ hN h_tp rfl rfl rfl hl.1 rfl (Nat.le_of_ble_eq_true rfl) dX1_takeWords_63 ⟨(show cells + 0 ≤ R.cells by omega), (show slots + 0 ≤ R.slots by omega)⟩) (Nat.le_refl _) (Nat.le_refl _) (fun r H locs hw hP hD hS => ?_)
            obtain rfl := hw
            refine o_cv (k := cells) (n := slots) hK hP hD hS hA (o_rV (As := [.int (T i)]) (rest := []) hf (l_add _ _ _ _ _ _ _ _ el kd nm sk tx (n + 1) (w + 1) N0 (upd tf n (vp_nar .byte (32 : Int32).toInt8.toInt32)) (T i) h_el h_tx (by omega) hN0 _) k_204 k_201 k_203 k_1 k_90 (nA := 1) (by decide +kernel) ⟨Nat.le_trans (by decide) hRf, Nat.le_trans (by decide) hRl⟩ hK hP hD hS hA hZ hN h_el rfl rfl rfl hl.1 rfl (Nat.le_of_ble_eq_true rfl) dX1_takeWords_66 ⟨(show cells + 0 ≤ R.cells by omega), (show slots + 0 ≤ R.slots by omega)⟩) (Nat.le_refl _) (Nat.le_refl _) (fun L g H locs hw hP hD hS => ?_)
            obtain ⟨hf9, hfa9, h_el, h_tx⟩ := hw
            have h_tp := h_tp.fr hf9 (by decide)
            have h_by := h_by.fr hf9 (by decide)
            have hfr := hfr.tr hf9
            have hfa := hfa.tm hfa9 (fal_s (Or.inl (by simp)) (fal_s (Or.inl (by simp)) fal_0))
            refine lv_iload hx hb dX1_takeWords_69 (lv_at hl 0 rfl) ?_
            refine lv_if_ne (tgt := 78) hx hb dX1_takeWords_71 (by decide) (fun hno => absurd hno (by decide)) (fun _ => ?_)
            refine lv_iconst (v := 1) hx hb dX1_takeWords_74 (by decide) ?_
            refine lv_goto (tgt := 79) hx hb dX1_takeWords_75 (by decide) ?_
            refine lv_istore (lv' := [(4, .int 1), (6, .int 0), (5, .int (nI i)), (3, .int (nI to_)), (2, .int x2), (1, .ref tp), (0, .ref el)]) hx hb dX1_takeWords_79 hl (by decide) rfl (fun ls hl => ?_)
            refine lv_iinc (v := nI (i + 1)) (lv' := [(5, .int (nI (i + 1))), (4, .int 1), (6, .int 0), (3, .int (nI to_)), (2, .int x2), (1, .ref tp), (0, .ref el)]) hx hb dX1_takeWords_81 hl (k := 2) rfl (nI_addE (a := i) (b := 1) (by omega)) (by decide) rfl (fun ls hl => ?_)
            refine lv_goto (tgt := 6) hx hb dX1_takeWords_84 (by decide) ?_
            exact ih (i + 1) 1 (n + 2) (w + 1) (X ++ [32] ++ [T i]) (upd (upd tf n (vp_nar .byte (32 : Int32).toInt8.toInt32)) (n + 1) (vp_nar .byte (T i).toInt8.toInt32)) cells slots _ _ H locs ls (by omega) (by omega) (by omega) (by omega) (tx_len1 (tx_len1 hnX)) (by omega) (tx_is_b (tx_len1 hnX) (tx_is_b hnX hX tx_b32) (tx_bb (hTb i))) hRc hRs h_el h_tx h_tp h_by hfr hfa hP hD hS (lv_sub hl (l' := [(5, .int (nI (i + 1))), (4, .int 1), (3, .int (nI to_)), (2, .int x2), (1, .ref tp), (0, .ref el)]) [0, 1, 3, 4, 5, 6] rfl) (fun w3 X3 tf3 n3 L g H locs ls a1 => kk w3 X3 tf3 n3 L g H locs ls (a1.trans (tx_sc_bs c_2 (by omega) (by omega)).symm))
set_option maxHeartbeats 1000000 in
set_option maxRecDepth 100000 in
theorem l_take (l : Launch) (D : va_G) (z : Nat → Nat) (cB cI_ cO : ClassId) (L0 : List Nat) (g0 : hG) (el tp by_ tn tx fm to_ N0 : Nat) (kd nm sk : Int32) (T tf : Nat → Int32) (h_el : ho L0 g0 el 9 (.inr (2, [.int kd, .int nm, .int sk, .ref tx, .int 0, .int 0, .null, .null, .int 0]))) (h_tx : ho L0 g0 tx 10 (.inl (cB, N0, .inl tf))) (h_tp : ho L0 g0 tp 2 (.inr (9, [.ref by_, .int (nI tn)]))) (h_by : ho L0 g0 by_ 3 (.inl (cB, 1200, .inl T))) (hn : tn ≤ 1200) (hto : to_ ≤ tn) (hft : fm ≤ to_) (hN0 : N0 ≤ 1200) (hNf : N0 = to_ - fm) (hTb : ∀ i, vp_nar .byte (T i) = T i) : eV l D yX1_takeWords cX1_takeWords 7 none 2 45 0 0 [.ref el, .ref tp, .int (nI fm), .int (nI to_)] z cB cI_ cO L0 g0 (fun L g => ∃ (w2 n2 : Nat) (X2 : List Int32) (tf2 : Nat → Int32), (w2, X2) = tx_sc T (to_ - fm) fm 0 0 [] ∧ n2 = X2.length ∧ n2 ≤ N0 ∧ tx_is X2 tf2 ∧ fr [9, 10] L0 g0 L g ∧ fra [el, tx] L0 g0 L g ∧ ho L g el 9 (.inr (2, [.int kd, .int nm, .int sk, .ref tx, .int (nI n2), .int (nI w2), .null, .null, .int 0])) ∧ ho L g tx 10 (.inl (cB, N0, .inl tf2))) := by
  refine o_sv (by decide) (Nat.le_of_ble_eq_true rfl) ?_
  intro p e s m below meth c A ls hf hr hlocks hin hK hP hD hS hA hZ hN hl
  obtain ⟨hx, hb, hml, hown, hts⟩ := id hf
  have hl : lv_has ls 7 [(0, .ref el), (1, .ref tp), (2, .int (nI fm)), (3, .int (nI to_))] := hl
  have hfr : fr [9, 10] L0 g0 L0 g0 := fr.rf
  have hfa : fra [el, tx] L0 g0 L0 g0 := fra.rf
  refine lv_iconst (v := 0) hx hb dX1_takeWords_0 (by decide) ?_
  refine lv_istore (lv' := [(4, .int 0), (0, .ref el), (1, .ref tp), (2, .int (nI fm)), (3, .int (nI to_))]) hx hb dX1_takeWords_1 hl (by decide) rfl (fun ls hl => ?_)
  refine lv_iload_n hx hb dX1_takeWords_3 rfl (lv_at hl 3 rfl) ?_
  refine lv_istore (lv' := [(5, .int (nI fm)), (4, .int 0), (0, .ref el), (1, .ref tp), (2, .int (nI fm)), (3, .int (nI to_))]) hx hb dX1_takeWords_4 hl (by decide) rfl (fun ls hl => ?_)
  refine lt_loop (L0 := L0) (g0 := g0) (x2 := nI fm) hn hto hN0 hTb (Nat.le_of_ble_eq_true rfl) (Nat.le_of_ble_eq_true rfl) hA hf hK hZ hN (to_ - fm) fm 0 0 0 [] tf 0 0 _ _ _ _ ls (by omega) (by omega) (by omega) (fun _ z => absurd z (by omega)) rfl (by omega) (tx_is_0 tf) (Nat.le_of_ble_eq_true rfl) (Nat.le_of_ble_eq_true rfl) h_el h_tx h_tp h_by hfr hfa hP hD hS (lv_sub hl (l' := [(5, .int (nI fm)), (4, .int 0), (3, .int (nI to_)), (2, .int (nI fm)), (1, .ref tp), (0, .ref el)]) [0, 1, 5, 4, 3, 2] rfl) (fun w2 X2 tf2 n2 L g H locs ls a1 a2 a3 a4 h_el h_tx h_tp h_by hfr hfa hP hD hS hl => ?_)
  exact o_rv hf hr hlocks hK hP hD hS (show 0 ≤ 0 by omega) (show 0 ≤ 0 by omega) ⟨w2, n2, X2, tf2, a1, a2, a3, a4, hfr, hfa, h_el, h_tx⟩ dX1_takeWords_87
