theorem dW_rt (L : List Nat) (g : hG) (q t : Nat) : dW L g = dW L (va_up g q (t, (g q).2)) := by
  unfold dW
  congr 1
  funext a
  by_cases c : a = q
  · rw [c, va_up_self]
  · rw [va_up_ne _ _ c]
theorem ho.rt {L : List Nat} {g g2 : hG} {a t q t2 : Nat} {e e2 : va_E} (h : ho L g a t e) (hq : ho L g q t2 e2) (hne : t ≠ t2) (eg : g2 = va_up g q (30, (g q).2)) : ho L g2 a t e := by
  refine ⟨h.1, ?_⟩
  have c : a ≠ q := fun z => hne (by have h1 := h.2; rw [z, hq.2] at h1; exact (congrArg Prod.fst h1).symm)
  rw [eg, va_up_ne _ _ c]
  exact h.2
theorem ho.rs {L : List Nat} {g g2 : hG} {q t2 : Nat} {e2 : va_E} (hq : ho L g q t2 e2) (eg : g2 = va_up g q (30, (g q).2)) : ho L g2 q 30 e2 := by
  refine ⟨hq.1, ?_⟩
  rw [eg, va_up_self, hq.2]
abbrev cJx4a65c_init_da8c8 : ByteArray := prog_23_method_2_code
def yJx4a65c_init_da8c8 : MethodName := ⟨RJx4a65c, "<init>", "()V"⟩
abbrev cJxa1e45_init_da8c8 : ByteArray := prog_21_method_1_code
def yJxa1e45_init_da8c8 : MethodName := ⟨RJxa1e45, "<init>", "()V"⟩
abbrev cJxc12de_init_da8c8 : ByteArray := prog_22_method_1_code
def yJxc12de_init_da8c8 : MethodName := ⟨RJxc12de, "<init>", "()V"⟩
abbrev cX0_init : ByteArray := prog_2_method_1_code
def yX0_init : MethodName := ⟨RX0, "<init>", "(LScriptDesk$PieceRow;LScriptDesk$Leaf;)V"⟩
abbrev cX2_init : ByteArray := prog_4_method_1_code
def yX2_init : MethodName := ⟨RX2, "<init>", "(LScriptDesk$PieceRow;LScriptDesk$Leaf;)V"⟩
abbrev cX3_init : ByteArray := prog_5_method_1_code
def yX3_init : MethodName := ⟨RX3, "<init>", "(LScriptDesk$PieceRow;)V"⟩
abbrev cX4_init : ByteArray := prog_6_method_1_code
def yX4_init : MethodName := ⟨RX4, "<init>", "(LScriptDesk$Tape;)V"⟩
abbrev cX6_init : ByteArray := prog_8_method_1_code
def yX6_init : MethodName := ⟨RX6, "<init>", "(LScriptDesk$Element;)V"⟩
abbrev cX7_init : ByteArray := prog_9_method_1_code
def yX7_init : MethodName := ⟨RX7, "<init>", "(LScriptDesk$PieceRow;)V"⟩
abbrev cX8_init : ByteArray := prog_10_method_1_code
def yX8_init : MethodName := ⟨RX8, "<init>", "()V"⟩
theorem k_87 : (Cond.initialized RJxa1e45) ∈ gT := gT_i 87 (by decide +kernel) rfl
theorem k_88 : (Cond.initialized RJxc12de) ∈ gT := gT_i 88 (by decide +kernel) rfl
theorem k_120 : (Cond.methodLink RX8 1 objectInit) ∈ gT := gT_i 120 (by decide +kernel) rfl
theorem k_134 : (Cond.methodLink RX4 3 objectInit) ∈ gT := gT_i 134 (by decide +kernel) rfl
theorem k_155 : (Cond.instantiable RJx4a65c 3) ∈ gT := gT_i 155 (by decide +kernel) rfl
theorem k_157 : (Cond.instanceMethod yJx4a65c_init_da8c8) ∈ gT := gT_i 157 (by decide +kernel) rfl
theorem k_158 : (Cond.code yJx4a65c_init_da8c8 cJx4a65c_init_da8c8 1 none) ∈ gT := gT_i 158 (by decide +kernel) rfl
theorem k_159 : (Cond.methodLink RJx4a65c 1 yJxc12de_init_da8c8) ∈ gT := gT_i 159 (by decide +kernel) rfl
theorem k_160 : (Cond.instanceMethod yJxc12de_init_da8c8) ∈ gT := gT_i 160 (by decide +kernel) rfl
theorem k_161 : (Cond.code yJxc12de_init_da8c8 cJxc12de_init_da8c8 1 none) ∈ gT := gT_i 161 (by decide +kernel) rfl
theorem k_162 : (Cond.methodLink RJxc12de 1 yJxa1e45_init_da8c8) ∈ gT := gT_i 162 (by decide +kernel) rfl
theorem k_163 : (Cond.instanceMethod yJxa1e45_init_da8c8) ∈ gT := gT_i 163 (by decide +kernel) rfl
theorem k_164 : (Cond.code yJxa1e45_init_da8c8 cJxa1e45_init_da8c8 1 none) ∈ gT := gT_i 164 (by decide +kernel) rfl
theorem k_165 : (Cond.methodLink RJxa1e45 1 objectInit) ∈ gT := gT_i 165 (by decide +kernel) rfl
theorem k_170 : (Cond.fieldLink RJxc12de 7 "java/util/AbstractList" "modCount" "I") ∈ gT := gT_i 170 (by decide +kernel) rfl
theorem k_267 : (Cond.methodLink RX6 3 objectInit) ∈ gT := gT_i 267 (by decide +kernel) rfl
theorem k_268 : (Cond.classLink RX6 9 RJx4a65c) ∈ gT := gT_i 268 (by decide +kernel) rfl
theorem k_269 : (Cond.methodLink RX6 11 yJx4a65c_init_da8c8) ∈ gT := gT_i 269 (by decide +kernel) rfl
theorem k_319 : (Cond.methodLink RX3 3 objectInit) ∈ gT := gT_i 319 (by decide +kernel) rfl
theorem k_347 : (Cond.methodLink RX0 3 objectInit) ∈ gT := gT_i 347 (by decide +kernel) rfl
theorem k_387 : (Cond.methodLink RX2 3 objectInit) ∈ gT := gT_i 387 (by decide +kernel) rfl
theorem k_424 : (Cond.methodLink RX7 3 objectInit) ∈ gT := gT_i 424 (by decide +kernel) rfl
theorem dJxa1e45_init_da8c8_0 : decode cJxa1e45_init_da8c8 0 = .ok (.aload_n 0, 1) := by decide +kernel
theorem dJxa1e45_init_da8c8_1 : decode cJxa1e45_init_da8c8 1 = .ok (.invokespecial 1, 3) := by decide +kernel
theorem dJxa1e45_init_da8c8_4 : decode cJxa1e45_init_da8c8 4 = .ok (.return_, 1) := by decide +kernel
theorem dJxc12de_init_da8c8_0 : decode cJxc12de_init_da8c8 0 = .ok (.aload_n 0, 1) := by decide +kernel
theorem dJxc12de_init_da8c8_1 : decode cJxc12de_init_da8c8 1 = .ok (.invokespecial 1, 3) := by decide +kernel
theorem dJxc12de_init_da8c8_4 : decode cJxc12de_init_da8c8 4 = .ok (.aload_n 0, 1) := by decide +kernel
theorem dJxc12de_init_da8c8_5 : decode cJxc12de_init_da8c8 5 = .ok (.iconst 0, 1) := by decide +kernel
theorem dJxc12de_init_da8c8_6 : decode cJxc12de_init_da8c8 6 = .ok (.putfield 7, 3) := by decide +kernel
theorem dJxc12de_init_da8c8_9 : decode cJxc12de_init_da8c8 9 = .ok (.return_, 1) := by decide +kernel
theorem dJx4a65c_init_da8c8_0 : decode cJx4a65c_init_da8c8 0 = .ok (.aload_n 0, 1) := by decide +kernel
theorem dJx4a65c_init_da8c8_1 : decode cJx4a65c_init_da8c8 1 = .ok (.invokespecial 1, 3) := by decide +kernel
theorem dJx4a65c_init_da8c8_4 : decode cJx4a65c_init_da8c8 4 = .ok (.aload_n 0, 1) := by decide +kernel
theorem dJx4a65c_init_da8c8_5 : decode cJx4a65c_init_da8c8 5 = .ok (.getstatic 39, 3) := by decide +kernel
theorem dJx4a65c_init_da8c8_8 : decode cJx4a65c_init_da8c8 8 = .ok (.putfield 9, 3) := by decide +kernel
theorem dJx4a65c_init_da8c8_11 : decode cJx4a65c_init_da8c8 11 = .ok (.return_, 1) := by decide +kernel
theorem dX8_init_0 : decode cX8_init 0 = .ok (.aload_n 0, 1) := by decide +kernel
theorem dX8_init_1 : decode cX8_init 1 = .ok (.invokespecial 1, 3) := by decide +kernel
theorem dX8_init_4 : decode cX8_init 4 = .ok (.aload_n 0, 1) := by decide +kernel
theorem dX8_init_5 : decode cX8_init 5 = .ok (.sipush 1200, 3) := by decide +kernel
theorem dX8_init_8 : decode cX8_init 8 = .ok (.newarray .byte, 2) := by decide +kernel
theorem dX8_init_10 : decode cX8_init 10 = .ok (.putfield 9, 3) := by decide +kernel
theorem dX8_init_13 : decode cX8_init 13 = .ok (.return_, 1) := by decide +kernel
theorem dX4_init_0 : decode cX4_init 0 = .ok (.aload_n 0, 1) := by decide +kernel
theorem dX4_init_1 : decode cX4_init 1 = .ok (.invokespecial 3, 3) := by decide +kernel
theorem dX4_init_4 : decode cX4_init 4 = .ok (.aload_n 0, 1) := by decide +kernel
theorem dX4_init_5 : decode cX4_init 5 = .ok (.aload_n 1, 1) := by decide +kernel
theorem dX4_init_6 : decode cX4_init 6 = .ok (.putfield 9, 3) := by decide +kernel
theorem dX4_init_9 : decode cX4_init 9 = .ok (.return_, 1) := by decide +kernel
theorem dX3_init_0 : decode cX3_init 0 = .ok (.aload_n 0, 1) := by decide +kernel
theorem dX3_init_1 : decode cX3_init 1 = .ok (.invokespecial 3, 3) := by decide +kernel
theorem dX3_init_4 : decode cX3_init 4 = .ok (.aload_n 0, 1) := by decide +kernel
theorem dX3_init_5 : decode cX3_init 5 = .ok (.aload_n 1, 1) := by decide +kernel
theorem dX3_init_6 : decode cX3_init 6 = .ok (.putfield 9, 3) := by decide +kernel
theorem dX3_init_9 : decode cX3_init 9 = .ok (.return_, 1) := by decide +kernel
theorem dX7_init_0 : decode cX7_init 0 = .ok (.aload_n 0, 1) := by decide +kernel
theorem dX7_init_1 : decode cX7_init 1 = .ok (.invokespecial 3, 3) := by decide +kernel
theorem dX7_init_4 : decode cX7_init 4 = .ok (.aload_n 0, 1) := by decide +kernel
theorem dX7_init_5 : decode cX7_init 5 = .ok (.aload_n 1, 1) := by decide +kernel
theorem dX7_init_6 : decode cX7_init 6 = .ok (.putfield 9, 3) := by decide +kernel
theorem dX7_init_9 : decode cX7_init 9 = .ok (.return_, 1) := by decide +kernel
theorem dX0_init_0 : decode cX0_init 0 = .ok (.aload_n 0, 1) := by decide +kernel
theorem dX0_init_1 : decode cX0_init 1 = .ok (.invokespecial 3, 3) := by decide +kernel
theorem dX0_init_4 : decode cX0_init 4 = .ok (.aload_n 0, 1) := by decide +kernel
theorem dX0_init_5 : decode cX0_init 5 = .ok (.bipush 61, 2) := by decide +kernel
theorem dX0_init_7 : decode cX0_init 7 = .ok (.newarray .int, 2) := by decide +kernel
theorem dX0_init_9 : decode cX0_init 9 = .ok (.putfield 9, 3) := by decide +kernel
theorem dX0_init_12 : decode cX0_init 12 = .ok (.aload_n 0, 1) := by decide +kernel
theorem dX0_init_13 : decode cX0_init 13 = .ok (.sipush 128, 3) := by decide +kernel
theorem dX0_init_16 : decode cX0_init 16 = .ok (.newarray .int, 2) := by decide +kernel
theorem dX0_init_18 : decode cX0_init 18 = .ok (.putfield 15, 3) := by decide +kernel
theorem dX0_init_21 : decode cX0_init 21 = .ok (.aload_n 0, 1) := by decide +kernel
theorem dX0_init_22 : decode cX0_init 22 = .ok (.sipush 128, 3) := by decide +kernel
theorem dX0_init_25 : decode cX0_init 25 = .ok (.newarray .int, 2) := by decide +kernel
theorem dX0_init_27 : decode cX0_init 27 = .ok (.putfield 18, 3) := by decide +kernel
theorem dX0_init_30 : decode cX0_init 30 = .ok (.aload_n 0, 1) := by decide +kernel
theorem dX0_init_31 : decode cX0_init 31 = .ok (.aload_n 1, 1) := by decide +kernel
theorem dX0_init_32 : decode cX0_init 32 = .ok (.putfield 21, 3) := by decide +kernel
theorem dX0_init_35 : decode cX0_init 35 = .ok (.aload_n 0, 1) := by decide +kernel
theorem dX0_init_36 : decode cX0_init 36 = .ok (.aload_n 2, 1) := by decide +kernel
theorem dX0_init_37 : decode cX0_init 37 = .ok (.putfield 25, 3) := by decide +kernel
theorem dX0_init_40 : decode cX0_init 40 = .ok (.return_, 1) := by decide +kernel
theorem dX2_init_0 : decode cX2_init 0 = .ok (.aload_n 0, 1) := by decide +kernel
theorem dX2_init_1 : decode cX2_init 1 = .ok (.invokespecial 3, 3) := by decide +kernel
theorem dX2_init_4 : decode cX2_init 4 = .ok (.aload_n 0, 1) := by decide +kernel
theorem dX2_init_5 : decode cX2_init 5 = .ok (.bipush 28, 2) := by decide +kernel
theorem dX2_init_7 : decode cX2_init 7 = .ok (.newarray .int, 2) := by decide +kernel
theorem dX2_init_9 : decode cX2_init 9 = .ok (.putfield 9, 3) := by decide +kernel
theorem dX2_init_12 : decode cX2_init 12 = .ok (.aload_n 0, 1) := by decide +kernel
theorem dX2_init_13 : decode cX2_init 13 = .ok (.bipush 28, 2) := by decide +kernel
theorem dX2_init_15 : decode cX2_init 15 = .ok (.newarray .int, 2) := by decide +kernel
theorem dX2_init_17 : decode cX2_init 17 = .ok (.putfield 15, 3) := by decide +kernel
theorem dX2_init_20 : decode cX2_init 20 = .ok (.aload_n 0, 1) := by decide +kernel
theorem dX2_init_21 : decode cX2_init 21 = .ok (.bipush 28, 2) := by decide +kernel
theorem dX2_init_23 : decode cX2_init 23 = .ok (.newarray .int, 2) := by decide +kernel
theorem dX2_init_25 : decode cX2_init 25 = .ok (.putfield 18, 3) := by decide +kernel
theorem dX2_init_28 : decode cX2_init 28 = .ok (.aload_n 0, 1) := by decide +kernel
theorem dX2_init_29 : decode cX2_init 29 = .ok (.aload_n 1, 1) := by decide +kernel
theorem dX2_init_30 : decode cX2_init 30 = .ok (.putfield 21, 3) := by decide +kernel
theorem dX2_init_33 : decode cX2_init 33 = .ok (.aload_n 0, 1) := by decide +kernel
theorem dX2_init_34 : decode cX2_init 34 = .ok (.aload_n 2, 1) := by decide +kernel
theorem dX2_init_35 : decode cX2_init 35 = .ok (.putfield 25, 3) := by decide +kernel
theorem dX2_init_38 : decode cX2_init 38 = .ok (.return_, 1) := by decide +kernel
theorem dX6_init_0 : decode cX6_init 0 = .ok (.aload_n 0, 1) := by decide +kernel
theorem dX6_init_1 : decode cX6_init 1 = .ok (.invokespecial 3, 3) := by decide +kernel
theorem dX6_init_4 : decode cX6_init 4 = .ok (.aload_n 0, 1) := by decide +kernel
theorem dX6_init_5 : decode cX6_init 5 = .ok (.new 9, 3) := by decide +kernel
theorem dX6_init_8 : decode cX6_init 8 = .ok (.dup, 1) := by decide +kernel
theorem dX6_init_9 : decode cX6_init 9 = .ok (.invokespecial 11, 3) := by decide +kernel
theorem dX6_init_12 : decode cX6_init 12 = .ok (.putfield 12, 3) := by decide +kernel
theorem dX6_init_15 : decode cX6_init 15 = .ok (.aload_n 0, 1) := by decide +kernel
theorem dX6_init_16 : decode cX6_init 16 = .ok (.new 9, 3) := by decide +kernel
theorem dX6_init_19 : decode cX6_init 19 = .ok (.dup, 1) := by decide +kernel
theorem dX6_init_20 : decode cX6_init 20 = .ok (.invokespecial 11, 3) := by decide +kernel
theorem dX6_init_23 : decode cX6_init 23 = .ok (.putfield 18, 3) := by decide +kernel
theorem dX6_init_26 : decode cX6_init 26 = .ok (.aload_n 0, 1) := by decide +kernel
theorem dX6_init_27 : decode cX6_init 27 = .ok (.new 21, 3) := by decide +kernel
theorem dX6_init_30 : decode cX6_init 30 = .ok (.dup, 1) := by decide +kernel
theorem dX6_init_31 : decode cX6_init 31 = .ok (.aload_n 1, 1) := by decide +kernel
theorem dX6_init_32 : decode cX6_init 32 = .ok (.invokespecial 23, 3) := by decide +kernel
theorem dX6_init_35 : decode cX6_init 35 = .ok (.putfield 26, 3) := by decide +kernel
theorem dX6_init_38 : decode cX6_init 38 = .ok (.return_, 1) := by decide +kernel
set_option maxHeartbeats 1000000 in
set_option maxRecDepth 100000 in
theorem i_ac (l : Launch) (D : va_G) (z : Nat → Nat) (cB cI_ cO : ClassId) (L0 : List Nat) (g0 : hG) (al : Nat)   : eVs l D yJxa1e45_init_da8c8 cJxa1e45_init_da8c8 1 none 1 12 0 0 [.ref al] z cB cI_ cO L0 g0 (True) := by
  refine o_sv (by decide) (Nat.le_of_ble_eq_true rfl) ?_
  intro p e s m below meth c A ls hf hr hlocks hin hK hP hD hS hA hZ hN hl
  obtain ⟨hx, hb, hml, hown, hts⟩ := id hf
  have hl : lv_has ls 1 [(0, .ref al)] := hl
  refine lv_aload_n hx hb dJxa1e45_init_da8c8_0 rfl (lv_at hl 0 rfl) ?_
  refine W.objInit hx hb hown (hts _ k_165) (hts _ k_113) (hts _ k_114) rfl (by rw [hml]; exact hl.1) rfl dJxa1e45_init_da8c8_1 (Nat.le_of_ble_eq_true rfl) (Nat.le_of_ble_eq_true rfl) ?_
  refine q_eq (pc := 4) (st := []) rfl ?_
  exact o_rv hf hr hlocks hK hP hD hS (show 0 ≤ 0 by omega) (show 0 ≤ 0 by omega) ⟨trivial, rfl, rfl⟩ dJxa1e45_init_da8c8_4
set_option maxHeartbeats 1000000 in
set_option maxRecDepth 100000 in
theorem i_abl (l : Launch) (D : va_G) (z : Nat → Nat) (cB cI_ cO : ClassId) (L0 : List Nat) (g0 : hG) (al tA : Nat) (h_al : ho L0 g0 al tA (.inr (0, [.int 0, .null, .int 0])))  : eV l D yJxc12de_init_da8c8 cJxc12de_init_da8c8 1 none 2 32 0 0 [.ref al] z cB cI_ cO L0 g0 (fun L g => fr [tA] L0 g0 L g ∧ ho L g al tA (.inr (0, [.int 0, .null, .int 0]))) := by
  refine o_sv (by decide) (Nat.le_of_ble_eq_true rfl) ?_
  intro p e s m below meth c A ls hf hr hlocks hin hK hP hD hS hA hZ hN hl
  obtain ⟨hx, hb, hml, hown, hts⟩ := id hf
  have hl : lv_has ls 1 [(0, .ref al)] := hl
  have hfr : fr [tA] L0 g0 L0 g0 := fr.rf
  refine lv_aload_n hx hb dJxc12de_init_da8c8_0 rfl (lv_at hl 0 rfl) ?_
  refine o_cvs (k := 0) (n := 0) hK hP hD hS hA (o_rI (As := []) (rest := []) hf (i_ac _ _ _ _ _ _ _ _ al _) k_164 k_162 k_163 k_87 rfl (nA := 0) (by decide +kernel) ⟨Nat.le_of_ble_eq_true rfl, Nat.le_of_ble_eq_true rfl⟩ hK hP hD hS hA hZ hN rfl hl.1 rfl (Nat.le_of_ble_eq_true rfl) dJxc12de_init_da8c8_1 ⟨(show 0 + 0 ≤ 0 by omega), (show 0 + 0 ≤ 0 by omega)⟩) (Nat.le_refl _) (Nat.le_refl _) (fun H locs hw hP hD hS => ?_)
  obtain _ := hw
  refine lv_aload_n hx hb dJxc12de_init_da8c8_4 rfl (lv_at hl 0 rfl) ?_
  refine lv_iconst (v := 0) hx hb dJxc12de_init_da8c8_5 (by decide) ?_
  refine o_put (D := D) (ci := 0) (v := .int 0) (ty := .int) (C := RJx4a65c) (T := TJx4a65c) (N := 3) (fs1 := [.int 0, .null, .int 0]) hx hb hts inJx4a65c tyJx4a65c tyJx4a65c_ok nmJx4a65c hown hK hP hD hS h_al rfl 0 (by decide) (hts _ k_170) (fun _ h9 => h9) rfl (by decide +kernel) rfl rfl (Nat.le_of_ble_eq_true rfl) rfl dJxc12de_init_da8c8_6 (fun g H locs h_al hu hP hD hS => ?_)
  have hfr := hfr.up hu (by simp)
  exact o_rv hf hr hlocks hK hP hD hS (show 0 ≤ 0 by omega) (show 0 ≤ 0 by omega) ⟨hfr, h_al⟩ dJxc12de_init_da8c8_9
set_option maxHeartbeats 1000000 in
set_option maxRecDepth 100000 in
theorem i_al (l : Launch) (D : va_G) (z : Nat → Nat) (cB cI_ cO : ClassId) (L0 : List Nat) (g0 : hG) (al tA : Nat) (h_al : ho L0 g0 al tA (.inr (0, [.int 0, .null, .int 0])))  : eV l D yJx4a65c_init_da8c8 cJx4a65c_init_da8c8 1 none 3 52 0 0 [.ref al] z cB cI_ cO L0 g0 (fun L g => fr [tA] L0 g0 L g ∧ ho L g al tA (.inr (0, [.int 0, .ref (z 0), .int 0]))) := by
  refine o_sv (by decide) (Nat.le_of_ble_eq_true rfl) ?_
  intro p e s m below meth c A ls hf hr hlocks hin hK hP hD hS hA hZ hN hl
  obtain ⟨hx, hb, hml, hown, hts⟩ := id hf
  have hl : lv_has ls 1 [(0, .ref al)] := hl
  have hfr : fr [tA] L0 g0 L0 g0 := fr.rf
  refine lv_aload_n hx hb dJx4a65c_init_da8c8_0 rfl (lv_at hl 0 rfl) ?_
  refine o_cv (k := 0) (n := 0) hK hP hD hS hA (o_rI (As := []) (rest := []) hf (i_abl _ _ _ _ _ _ _ _ al tA h_al _) k_161 k_159 k_160 k_88 rfl (nA := 0) (by decide +kernel) ⟨Nat.le_of_ble_eq_true rfl, Nat.le_of_ble_eq_true rfl⟩ hK hP hD hS hA hZ hN rfl hl.1 rfl (Nat.le_of_ble_eq_true rfl) dJx4a65c_init_da8c8_1 ⟨(show 0 + 0 ≤ 0 by omega), (show 0 + 0 ≤ 0 by omega)⟩) (Nat.le_refl _) (Nat.le_refl _) (fun L g H locs hw hP hD hS => ?_)
  obtain ⟨hf9, h_al⟩ := hw
  have hfr := hfr.tr hf9
  refine lv_aload_n hx hb dJx4a65c_init_da8c8_4 rfl (lv_at hl 0 rfl) ?_
  refine va_gets hx hb hZ.1 hS hown (hts _ k_166) (fun _ h9 => h9) dJx4a65c_init_da8c8_5 ?_
  refine o_put (D := D) (ci := 0) (v := .ref (z 0)) (ty := .array (.object "java/lang/Object")) (C := RJx4a65c) (T := TJx4a65c) (N := 3) (fs1 := [.int 0, .ref (z 0), .int 0]) hx hb hts inJx4a65c tyJx4a65c tyJx4a65c_ok nmJx4a65c hown hK hP hD hS h_al rfl 1 (by decide) (hts _ k_168) (fun _ h9 => h9) rfl (by decide +kernel) rfl rfl (Nat.le_of_ble_eq_true rfl) rfl dJx4a65c_init_da8c8_8 (fun g H locs h_al hu hP hD hS => ?_)
  have hfr := hfr.up hu (by simp)
  exact o_rv hf hr hlocks hK hP hD hS (show 0 ≤ 0 by omega) (show 0 ≤ 0 by omega) ⟨hfr, h_al⟩ dJx4a65c_init_da8c8_11
set_option maxHeartbeats 1000000 in
set_option maxRecDepth 100000 in
theorem i_tp (l : Launch) (D : va_G) (z : Nat → Nat) (cB cI_ cO : ClassId) (L0 : List Nat) (g0 : hG) (tp : Nat) (h_tp : ho L0 g0 tp 2 (.inr (9, [.null, .int 0])))  : eV l D yX8_init cX8_init 1 none 1 12 1 1200 [.ref tp] z cB cI_ cO L0 g0 (fun L g => ∃ by_ : Nat, fr [2] L0 g0 L g ∧ ho L g tp 2 (.inr (9, [.ref by_, .int 0])) ∧ ho L g by_ 3 (.inl (cB, 1200, .inl (fun _ => 0)))) := by
  refine o_sv (by decide) (Nat.le_of_ble_eq_true rfl) ?_
  intro p e s m below meth c A ls hf hr hlocks hin hK hP hD hS hA hZ hN hl
  obtain ⟨hx, hb, hml, hown, hts⟩ := id hf
  have hl : lv_has ls 1 [(0, .ref tp)] := hl
  have hfr : fr [2] L0 g0 L0 g0 := fr.rf
  refine lv_aload_n hx hb dX8_init_0 rfl (lv_at hl 0 rfl) ?_
  refine W.objInit hx hb hown (hts _ k_120) (hts _ k_113) (hts _ k_114) rfl (by rw [hml]; exact hl.1) rfl dX8_init_1 (Nat.le_of_ble_eq_true rfl) (Nat.le_of_ble_eq_true rfl) ?_
  refine q_eq (pc := 4) (st := []) rfl ?_
  refine lv_aload_n hx hb dX8_init_4 rfl (lv_at hl 0 rfl) ?_
  refine lv_sipush (v := 1200) hx hb dX8_init_5 (by decide) ?_
  refine q_seti (y := nI 1200) rfl ?_
  refine o_newb (n := 1200) hx hb 3 (hts (.arrayClass .byte) k_128) hK hP hD hS hA (by omega) (show 0 + 1 ≤ 1 by omega) (show 0 + 1200 ≤ 1200 by omega) dX8_init_8 (fun q_by L g H h_by hnw hP hD hS => ?_)
  have h_tp := h_tp.nw hnw
  have hfr := hfr.nw hnw
  refine o_putF (D := D) (ci := 9) (v := .ref q_by) (ty := .array .byte) (C := RX8) (T := TX8) (N := 2) (fs1 := [.ref q_by, .int 0]) hx hb hts inX8 tyX8 tyX8_ok nmX8 hown hK hP hD hS h_tp rfl 0 (by decide) (hts _ k_121) (fun _ h9 => h9) rfl hin rfl (by decide +kernel) rfl rfl (Nat.le_of_ble_eq_true rfl) rfl dX8_init_10 (fun g H locs h_tp hu hP hD hS => ?_)
  have h_by := h_by.up hu (by decide)
  have hfr := hfr.up hu (by decide)
  exact o_rv hf hr hlocks hK hP hD hS (show 0 + 1 ≤ 1 by omega) (show 0 + 1200 ≤ 1200 by omega) ⟨q_by, hfr, h_tp, h_by⟩ dX8_init_13
set_option maxHeartbeats 1000000 in
set_option maxRecDepth 100000 in
theorem i_rd (l : Launch) (D : va_G) (z : Nat → Nat) (cB cI_ cO : ClassId) (L0 : List Nat) (g0 : hG) (rd tp : Nat) (h_rd : ho L0 g0 rd 4 (.inr (5, [.null, .int 0, .int 0, .int 0, .int 0, .int 0])))  : eV l D yX4_init cX4_init 2 none 1 12 0 0 [.ref rd, .ref tp] z cB cI_ cO L0 g0 (fun L g => fr [4] L0 g0 L g ∧ ho L g rd 4 (.inr (5, [.ref tp, .int 0, .int 0, .int 0, .int 0, .int 0]))) := by
  refine o_sv (by decide) (Nat.le_of_ble_eq_true rfl) ?_
  intro p e s m below meth c A ls hf hr hlocks hin hK hP hD hS hA hZ hN hl
  obtain ⟨hx, hb, hml, hown, hts⟩ := id hf
  have hl : lv_has ls 2 [(0, .ref rd), (1, .ref tp)] := hl
  have hfr : fr [4] L0 g0 L0 g0 := fr.rf
  refine lv_aload_n hx hb dX4_init_0 rfl (lv_at hl 0 rfl) ?_
  refine W.objInit hx hb hown (hts _ k_134) (hts _ k_113) (hts _ k_114) rfl (by rw [hml]; exact hl.1) rfl dX4_init_1 (Nat.le_of_ble_eq_true rfl) (Nat.le_of_ble_eq_true rfl) ?_
  refine q_eq (pc := 4) (st := []) rfl ?_
  refine lv_aload_n hx hb dX4_init_4 rfl (lv_at hl 0 rfl) ?_
  refine lv_aload_n hx hb dX4_init_5 rfl (lv_at hl 1 rfl) ?_
  refine o_putF (D := D) (ci := 5) (v := .ref tp) (ty := .object "ScriptDesk$Tape") (C := RX4) (T := TX4) (N := 6) (fs1 := [.ref tp, .int 0, .int 0, .int 0, .int 0, .int 0]) hx hb hts inX4 tyX4 tyX4_ok nmX4 hown hK hP hD hS h_rd rfl 0 (by decide) (hts _ k_135) (fun _ h9 => h9) rfl hin rfl (by decide +kernel) rfl rfl (Nat.le_of_ble_eq_true rfl) rfl dX4_init_6 (fun g H locs h_rd hu hP hD hS => ?_)
  have hfr := hfr.up hu (by decide)
  exact o_rv hf hr hlocks hK hP hD hS (show 0 ≤ 0 by omega) (show 0 ≤ 0 by omega) ⟨hfr, h_rd⟩ dX4_init_9
set_option maxHeartbeats 1000000 in
set_option maxRecDepth 100000 in
theorem i_lf (l : Launch) (D : va_G) (z : Nat → Nat) (cB cI_ cO : ClassId) (L0 : List Nat) (g0 : hG) (lf pr : Nat) (h_lf : ho L0 g0 lf 20 (.inr (4, [.null, .int 0, .int 0, .int 0, .int 0, .int 0, .int 0])))  : eV l D yX3_init cX3_init 2 none 1 12 0 0 [.ref lf, .ref pr] z cB cI_ cO L0 g0 (fun L g => fr [20] L0 g0 L g ∧ ho L g lf 20 (.inr (4, [.ref pr, .int 0, .int 0, .int 0, .int 0, .int 0, .int 0]))) := by
  refine o_sv (by decide) (Nat.le_of_ble_eq_true rfl) ?_
  intro p e s m below meth c A ls hf hr hlocks hin hK hP hD hS hA hZ hN hl
  obtain ⟨hx, hb, hml, hown, hts⟩ := id hf
  have hl : lv_has ls 2 [(0, .ref lf), (1, .ref pr)] := hl
  have hfr : fr [20] L0 g0 L0 g0 := fr.rf
  refine lv_aload_n hx hb dX3_init_0 rfl (lv_at hl 0 rfl) ?_
  refine W.objInit hx hb hown (hts _ k_319) (hts _ k_113) (hts _ k_114) rfl (by rw [hml]; exact hl.1) rfl dX3_init_1 (Nat.le_of_ble_eq_true rfl) (Nat.le_of_ble_eq_true rfl) ?_
  refine q_eq (pc := 4) (st := []) rfl ?_
  refine lv_aload_n hx hb dX3_init_4 rfl (lv_at hl 0 rfl) ?_
  refine lv_aload_n hx hb dX3_init_5 rfl (lv_at hl 1 rfl) ?_
  refine o_putF (D := D) (ci := 4) (v := .ref pr) (ty := .object "ScriptDesk$PieceRow") (C := RX3) (T := TX3) (N := 7) (fs1 := [.ref pr, .int 0, .int 0, .int 0, .int 0, .int 0, .int 0]) hx hb hts inX3 tyX3 tyX3_ok nmX3 hown hK hP hD hS h_lf rfl 0 (by decide) (hts _ k_320) (fun _ h9 => h9) rfl hin rfl (by decide +kernel) rfl rfl (Nat.le_of_ble_eq_true rfl) rfl dX3_init_6 (fun g H locs h_lf hu hP hD hS => ?_)
  have hfr := hfr.up hu (by decide)
  exact o_rv hf hr hlocks hK hP hD hS (show 0 ≤ 0 by omega) (show 0 ≤ 0 by omega) ⟨hfr, h_lf⟩ dX3_init_9
set_option maxHeartbeats 1000000 in
set_option maxRecDepth 100000 in
theorem i_sl (l : Launch) (D : va_G) (z : Nat → Nat) (cB cI_ cO : ClassId) (L0 : List Nat) (g0 : hG) (sl pr : Nat) (h_sl : ho L0 g0 sl 29 (.inr (8, [.null])))  : eV l D yX7_init cX7_init 2 none 1 12 0 0 [.ref sl, .ref pr] z cB cI_ cO L0 g0 (fun L g => fr [29] L0 g0 L g ∧ ho L g sl 29 (.inr (8, [.ref pr]))) := by
  refine o_sv (by decide) (Nat.le_of_ble_eq_true rfl) ?_
  intro p e s m below meth c A ls hf hr hlocks hin hK hP hD hS hA hZ hN hl
  obtain ⟨hx, hb, hml, hown, hts⟩ := id hf
  have hl : lv_has ls 2 [(0, .ref sl), (1, .ref pr)] := hl
  have hfr : fr [29] L0 g0 L0 g0 := fr.rf
  refine lv_aload_n hx hb dX7_init_0 rfl (lv_at hl 0 rfl) ?_
  refine W.objInit hx hb hown (hts _ k_424) (hts _ k_113) (hts _ k_114) rfl (by rw [hml]; exact hl.1) rfl dX7_init_1 (Nat.le_of_ble_eq_true rfl) (Nat.le_of_ble_eq_true rfl) ?_
  refine q_eq (pc := 4) (st := []) rfl ?_
  refine lv_aload_n hx hb dX7_init_4 rfl (lv_at hl 0 rfl) ?_
  refine lv_aload_n hx hb dX7_init_5 rfl (lv_at hl 1 rfl) ?_
  refine o_putF (D := D) (ci := 8) (v := .ref pr) (ty := .object "ScriptDesk$PieceRow") (C := RX7) (T := TX7) (N := 1) (fs1 := [.ref pr]) hx hb hts inX7 tyX7 tyX7_ok nmX7 hown hK hP hD hS h_sl rfl 0 (by decide) (hts _ k_425) (fun _ h9 => h9) rfl hin rfl (by decide +kernel) rfl rfl (Nat.le_of_ble_eq_true rfl) rfl dX7_init_6 (fun g H locs h_sl hu hP hD hS => ?_)
  have hfr := hfr.up hu (by decide)
  exact o_rv hf hr hlocks hK hP hD hS (show 0 ≤ 0 by omega) (show 0 ≤ 0 by omega) ⟨hfr, h_sl⟩ dX7_init_9
set_option maxHeartbeats 1000000 in
set_option maxRecDepth 100000 in
theorem i_nw (l : Launch) (D : va_G) (z : Nat → Nat) (cB cI_ cO : ClassId) (L0 : List Nat) (g0 : hG) (nwh el : Nat) (h_nwh : ho L0 g0 nwh 19 (.inr (6, [.null, .int 0, .int 0, .int 0])))  : eV l D yX5_init cX5_init 2 none 1 12 0 0 [.ref nwh, .ref el] z cB cI_ cO L0 g0 (fun L g => fr [19] L0 g0 L g ∧ ho L g nwh 19 (.inr (6, [.ref el, .int 0, .int 0, .int 0]))) := by
  refine o_sv (by decide) (Nat.le_of_ble_eq_true rfl) ?_
  intro p e s m below meth c A ls hf hr hlocks hin hK hP hD hS hA hZ hN hl
  obtain ⟨hx, hb, hml, hown, hts⟩ := id hf
  have hl : lv_has ls 2 [(0, .ref nwh), (1, .ref el)] := hl
  have hfr : fr [19] L0 g0 L0 g0 := fr.rf
  refine lv_aload_n hx hb dX5_init_0 rfl (lv_at hl 0 rfl) ?_
  refine W.objInit hx hb hown (hts _ k_275) (hts _ k_113) (hts _ k_114) rfl (by rw [hml]; exact hl.1) rfl dX5_init_1 (Nat.le_of_ble_eq_true rfl) (Nat.le_of_ble_eq_true rfl) ?_
  refine q_eq (pc := 4) (st := []) rfl ?_
  refine lv_aload_n hx hb dX5_init_4 rfl (lv_at hl 0 rfl) ?_
  refine lv_aload_n hx hb dX5_init_5 rfl (lv_at hl 1 rfl) ?_
  refine o_put (D := D) (ci := 6) (v := .ref el) (ty := .object "ScriptDesk$Element") (C := RX5) (T := TX5) (N := 4) (fs1 := [.ref el, .int 0, .int 0, .int 0]) hx hb hts inX5 tyX5 tyX5_ok nmX5 hown hK hP hD hS h_nwh rfl 0 (by decide) (hts _ k_276) (fun _ h9 => h9) rfl (by decide +kernel) rfl rfl (Nat.le_of_ble_eq_true rfl) rfl dX5_init_6 (fun g H locs h_nwh hu hP hD hS => ?_)
  have hfr := hfr.up hu (by decide)
  exact o_rv hf hr hlocks hK hP hD hS (show 0 ≤ 0 by omega) (show 0 ≤ 0 by omega) ⟨hfr, h_nwh⟩ dX5_init_9
set_option maxHeartbeats 1000000 in
set_option maxRecDepth 100000 in
theorem i_bk (l : Launch) (D : va_G) (z : Nat → Nat) (cB cI_ cO : ClassId) (L0 : List Nat) (g0 : hG) (bk pr lf : Nat) (h_bk : ho L0 g0 bk 21 (.inr (1, [.null, .null, .null, .int 0, .int 0, .null, .null, .int 0, .int 0, .int 0, .int 0])))  : eV l D yX0_init cX0_init 3 none 1 12 3 317 [.ref bk, .ref pr, .ref lf] z cB cI_ cO L0 g0 (fun L g => ∃ bop cf nx : Nat, fr [21] L0 g0 L g ∧ ho L g bk 21 (.inr (1, [.ref pr, .ref lf, .ref bop, .int 0, .int 0, .ref cf, .ref nx, .int 0, .int 0, .int 0, .int 0])) ∧ ho L g bop 22 (.inl (cI_, 61, .inl (fun _ => 0))) ∧ ho L g cf 23 (.inl (cI_, 128, .inl (fun _ => 0))) ∧ ho L g nx 24 (.inl (cI_, 128, .inl (fun _ => 0)))) := by
  refine o_sv (by decide) (Nat.le_of_ble_eq_true rfl) ?_
  intro p e s m below meth c A ls hf hr hlocks hin hK hP hD hS hA hZ hN hl
  obtain ⟨hx, hb, hml, hown, hts⟩ := id hf
  have hl : lv_has ls 3 [(0, .ref bk), (1, .ref pr), (2, .ref lf)] := hl
  have hfr : fr [21] L0 g0 L0 g0 := fr.rf
  refine lv_aload_n hx hb dX0_init_0 rfl (lv_at hl 0 rfl) ?_
  refine W.objInit hx hb hown (hts _ k_347) (hts _ k_113) (hts _ k_114) rfl (by rw [hml]; exact hl.1) rfl dX0_init_1 (Nat.le_of_ble_eq_true rfl) (Nat.le_of_ble_eq_true rfl) ?_
  refine q_eq (pc := 4) (st := []) rfl ?_
  refine lv_aload_n hx hb dX0_init_4 rfl (lv_at hl 0 rfl) ?_
  refine lv_bipush (v := 61) hx hb dX0_init_5 (by decide) ?_
  refine q_seti (y := nI 61) rfl ?_
  refine o_newi (n := 61) hx hb 22 (hts (.arrayClass .int) k_261) hK hP hD hS hA (by omega) (show 0 + 1 ≤ 3 by omega) (show 0 + 61 ≤ 317 by omega) dX0_init_7 (fun q_bop L g H h_bop hnw hP hD hS => ?_)
  have h_bk := h_bk.nw hnw
  have hfr := hfr.nw hnw
  refine o_putF (D := D) (ci := 1) (v := .ref q_bop) (ty := .array .int) (C := RX0) (T := TX0) (N := 11) (fs1 := [.null, .null, .ref q_bop, .int 0, .int 0, .null, .null, .int 0, .int 0, .int 0, .int 0]) hx hb hts inX0 tyX0 tyX0_ok nmX0 hown hK hP hD hS h_bk rfl 2 (by decide) (hts _ k_350) (fun _ h9 => h9) rfl hin rfl (by decide +kernel) rfl rfl (Nat.le_of_ble_eq_true rfl) rfl dX0_init_9 (fun g H locs h_bk hu hP hD hS => ?_)
  have h_bop := h_bop.up hu (by decide)
  have hfr := hfr.up hu (by decide)
  refine lv_aload_n hx hb dX0_init_12 rfl (lv_at hl 0 rfl) ?_
  refine lv_sipush (v := 128) hx hb dX0_init_13 (by decide) ?_
  refine q_seti (y := nI 128) rfl ?_
  refine o_newi (n := 128) hx hb 23 (hts (.arrayClass .int) k_261) hK hP hD hS hA (by omega) (show 0 + 1 + 1 ≤ 3 by omega) (show 0 + 61 + 128 ≤ 317 by omega) dX0_init_16 (fun q_cf L g H h_cf hnw hP hD hS => ?_)
  have h_bk := h_bk.nw hnw
  have h_bop := h_bop.nw hnw
  have hfr := hfr.nw hnw
  refine o_put (D := D) (ci := 1) (v := .ref q_cf) (ty := .array .int) (C := RX0) (T := TX0) (N := 11) (fs1 := [.null, .null, .ref q_bop, .int 0, .int 0, .ref q_cf, .null, .int 0, .int 0, .int 0, .int 0]) hx hb hts inX0 tyX0 tyX0_ok nmX0 hown hK hP hD hS h_bk rfl 5 (by decide) (hts _ k_353) (fun _ h9 => h9) rfl (by decide +kernel) rfl rfl (Nat.le_of_ble_eq_true rfl) rfl dX0_init_18 (fun g H locs h_bk hu hP hD hS => ?_)
  have h_bop := h_bop.up hu (by decide)
  have h_cf := h_cf.up hu (by decide)
  have hfr := hfr.up hu (by decide)
  refine lv_aload_n hx hb dX0_init_21 rfl (lv_at hl 0 rfl) ?_
  refine lv_sipush (v := 128) hx hb dX0_init_22 (by decide) ?_
  refine q_seti (y := nI 128) rfl ?_
  refine o_newi (n := 128) hx hb 24 (hts (.arrayClass .int) k_261) hK hP hD hS hA (by omega) (show 0 + 1 + 1 + 1 ≤ 3 by omega) (show 0 + 61 + 128 + 128 ≤ 317 by omega) dX0_init_25 (fun q_nx L g H h_nx hnw hP hD hS => ?_)
  have h_bk := h_bk.nw hnw
  have h_bop := h_bop.nw hnw
  have h_cf := h_cf.nw hnw
  have hfr := hfr.nw hnw
  refine o_put (D := D) (ci := 1) (v := .ref q_nx) (ty := .array .int) (C := RX0) (T := TX0) (N := 11) (fs1 := [.null, .null, .ref q_bop, .int 0, .int 0, .ref q_cf, .ref q_nx, .int 0, .int 0, .int 0, .int 0]) hx hb hts inX0 tyX0 tyX0_ok nmX0 hown hK hP hD hS h_bk rfl 6 (by decide) (hts _ k_354) (fun _ h9 => h9) rfl (by decide +kernel) rfl rfl (Nat.le_of_ble_eq_true rfl) rfl dX0_init_27 (fun g H locs h_bk hu hP hD hS => ?_)
  have h_bop := h_bop.up hu (by decide)
  have h_cf := h_cf.up hu (by decide)
  have h_nx := h_nx.up hu (by decide)
  have hfr := hfr.up hu (by decide)
  refine lv_aload_n hx hb dX0_init_30 rfl (lv_at hl 0 rfl) ?_
  refine lv_aload_n hx hb dX0_init_31 rfl (lv_at hl 1 rfl) ?_
  refine o_putF (D := D) (ci := 1) (v := .ref pr) (ty := .object "ScriptDesk$PieceRow") (C := RX0) (T := TX0) (N := 11) (fs1 := [.ref pr, .null, .ref q_bop, .int 0, .int 0, .ref q_cf, .ref q_nx, .int 0, .int 0, .int 0, .int 0]) hx hb hts inX0 tyX0 tyX0_ok nmX0 hown hK hP hD hS h_bk rfl 0 (by decide) (hts _ k_348) (fun _ h9 => h9) rfl hin rfl (by decide +kernel) rfl rfl (Nat.le_of_ble_eq_true rfl) rfl dX0_init_32 (fun g H locs h_bk hu hP hD hS => ?_)
  have h_bop := h_bop.up hu (by decide)
  have h_cf := h_cf.up hu (by decide)
  have h_nx := h_nx.up hu (by decide)
  have hfr := hfr.up hu (by decide)
  refine lv_aload_n hx hb dX0_init_35 rfl (lv_at hl 0 rfl) ?_
  refine lv_aload_n hx hb dX0_init_36 rfl (lv_at hl 2 rfl) ?_
  refine o_putF (D := D) (ci := 1) (v := .ref lf) (ty := .object "ScriptDesk$Leaf") (C := RX0) (T := TX0) (N := 11) (fs1 := [.ref pr, .ref lf, .ref q_bop, .int 0, .int 0, .ref q_cf, .ref q_nx, .int 0, .int 0, .int 0, .int 0]) hx hb hts inX0 tyX0 tyX0_ok nmX0 hown hK hP hD hS h_bk rfl 1 (by decide) (hts _ k_349) (fun _ h9 => h9) rfl hin rfl (by decide +kernel) rfl rfl (Nat.le_of_ble_eq_true rfl) rfl dX0_init_37 (fun g H locs h_bk hu hP hD hS => ?_)
  have h_bop := h_bop.up hu (by decide)
  have h_cf := h_cf.up hu (by decide)
  have h_nx := h_nx.up hu (by decide)
  have hfr := hfr.up hu (by decide)
  exact o_rv hf hr hlocks hK hP hD hS (show 0 + 1 + 1 + 1 ≤ 3 by omega) (show 0 + 61 + 128 + 128 ≤ 317 by omega) ⟨q_bop, q_cf, q_nx, hfr, h_bk, h_bop, h_cf, h_nx⟩ dX0_init_40
set_option maxHeartbeats 1000000 in
set_option maxRecDepth 100000 in
theorem i_gl (l : Launch) (D : va_G) (z : Nat → Nat) (cB cI_ cO : ClassId) (L0 : List Nat) (g0 : hG) (gl pr lf : Nat) (h_gl : ho L0 g0 gl 25 (.inr (3, [.null, .null, .null, .null, .null, .int 0, .int 0, .int 0, .int 0, .int 0])))  : eV l D yX2_init cX2_init 3 none 1 12 3 84 [.ref gl, .ref pr, .ref lf] z cB cI_ cO L0 g0 (fun L g => ∃ ra fa la : Nat, fr [25] L0 g0 L g ∧ ho L g gl 25 (.inr (3, [.ref pr, .ref lf, .ref ra, .ref fa, .ref la, .int 0, .int 0, .int 0, .int 0, .int 0])) ∧ ho L g ra 26 (.inl (cI_, 28, .inl (fun _ => 0))) ∧ ho L g fa 27 (.inl (cI_, 28, .inl (fun _ => 0))) ∧ ho L g la 28 (.inl (cI_, 28, .inl (fun _ => 0)))) := by
  refine o_sv (by decide) (Nat.le_of_ble_eq_true rfl) ?_
  intro p e s m below meth c A ls hf hr hlocks hin hK hP hD hS hA hZ hN hl
  obtain ⟨hx, hb, hml, hown, hts⟩ := id hf
  have hl : lv_has ls 3 [(0, .ref gl), (1, .ref pr), (2, .ref lf)] := hl
  have hfr : fr [25] L0 g0 L0 g0 := fr.rf
  refine lv_aload_n hx hb dX2_init_0 rfl (lv_at hl 0 rfl) ?_
  refine W.objInit hx hb hown (hts _ k_387) (hts _ k_113) (hts _ k_114) rfl (by rw [hml]; exact hl.1) rfl dX2_init_1 (Nat.le_of_ble_eq_true rfl) (Nat.le_of_ble_eq_true rfl) ?_
  refine q_eq (pc := 4) (st := []) rfl ?_
  refine lv_aload_n hx hb dX2_init_4 rfl (lv_at hl 0 rfl) ?_
  refine lv_bipush (v := 28) hx hb dX2_init_5 (by decide) ?_
  refine q_seti (y := nI 28) rfl ?_
  refine o_newi (n := 28) hx hb 26 (hts (.arrayClass .int) k_261) hK hP hD hS hA (by omega) (show 0 + 1 ≤ 3 by omega) (show 0 + 28 ≤ 84 by omega) dX2_init_7 (fun q_ra L g H h_ra hnw hP hD hS => ?_)
  have h_gl := h_gl.nw hnw
  have hfr := hfr.nw hnw
  refine o_put (D := D) (ci := 3) (v := .ref q_ra) (ty := .array .int) (C := RX2) (T := TX2) (N := 10) (fs1 := [.null, .null, .ref q_ra, .null, .null, .int 0, .int 0, .int 0, .int 0, .int 0]) hx hb hts inX2 tyX2 tyX2_ok nmX2 hown hK hP hD hS h_gl rfl 2 (by decide) (hts _ k_390) (fun _ h9 => h9) rfl (by decide +kernel) rfl rfl (Nat.le_of_ble_eq_true rfl) rfl dX2_init_9 (fun g H locs h_gl hu hP hD hS => ?_)
  have h_ra := h_ra.up hu (by decide)
  have hfr := hfr.up hu (by decide)
  refine lv_aload_n hx hb dX2_init_12 rfl (lv_at hl 0 rfl) ?_
  refine lv_bipush (v := 28) hx hb dX2_init_13 (by decide) ?_
  refine q_seti (y := nI 28) rfl ?_
  refine o_newi (n := 28) hx hb 27 (hts (.arrayClass .int) k_261) hK hP hD hS hA (by omega) (show 0 + 1 + 1 ≤ 3 by omega) (show 0 + 28 + 28 ≤ 84 by omega) dX2_init_15 (fun q_fa L g H h_fa hnw hP hD hS => ?_)
  have h_gl := h_gl.nw hnw
  have h_ra := h_ra.nw hnw
  have hfr := hfr.nw hnw
  refine o_put (D := D) (ci := 3) (v := .ref q_fa) (ty := .array .int) (C := RX2) (T := TX2) (N := 10) (fs1 := [.null, .null, .ref q_ra, .ref q_fa, .null, .int 0, .int 0, .int 0, .int 0, .int 0]) hx hb hts inX2 tyX2 tyX2_ok nmX2 hown hK hP hD hS h_gl rfl 3 (by decide) (hts _ k_391) (fun _ h9 => h9) rfl (by decide +kernel) rfl rfl (Nat.le_of_ble_eq_true rfl) rfl dX2_init_17 (fun g H locs h_gl hu hP hD hS => ?_)
  have h_ra := h_ra.up hu (by decide)
  have h_fa := h_fa.up hu (by decide)
  have hfr := hfr.up hu (by decide)
  refine lv_aload_n hx hb dX2_init_20 rfl (lv_at hl 0 rfl) ?_
  refine lv_bipush (v := 28) hx hb dX2_init_21 (by decide) ?_
  refine q_seti (y := nI 28) rfl ?_
  refine o_newi (n := 28) hx hb 28 (hts (.arrayClass .int) k_261) hK hP hD hS hA (by omega) (show 0 + 1 + 1 + 1 ≤ 3 by omega) (show 0 + 28 + 28 + 28 ≤ 84 by omega) dX2_init_23 (fun q_la L g H h_la hnw hP hD hS => ?_)
  have h_gl := h_gl.nw hnw
  have h_ra := h_ra.nw hnw
  have h_fa := h_fa.nw hnw
  have hfr := hfr.nw hnw
  refine o_put (D := D) (ci := 3) (v := .ref q_la) (ty := .array .int) (C := RX2) (T := TX2) (N := 10) (fs1 := [.null, .null, .ref q_ra, .ref q_fa, .ref q_la, .int 0, .int 0, .int 0, .int 0, .int 0]) hx hb hts inX2 tyX2 tyX2_ok nmX2 hown hK hP hD hS h_gl rfl 4 (by decide) (hts _ k_392) (fun _ h9 => h9) rfl (by decide +kernel) rfl rfl (Nat.le_of_ble_eq_true rfl) rfl dX2_init_25 (fun g H locs h_gl hu hP hD hS => ?_)
  have h_ra := h_ra.up hu (by decide)
  have h_fa := h_fa.up hu (by decide)
  have h_la := h_la.up hu (by decide)
  have hfr := hfr.up hu (by decide)
  refine lv_aload_n hx hb dX2_init_28 rfl (lv_at hl 0 rfl) ?_
  refine lv_aload_n hx hb dX2_init_29 rfl (lv_at hl 1 rfl) ?_
  refine o_putF (D := D) (ci := 3) (v := .ref pr) (ty := .object "ScriptDesk$PieceRow") (C := RX2) (T := TX2) (N := 10) (fs1 := [.ref pr, .null, .ref q_ra, .ref q_fa, .ref q_la, .int 0, .int 0, .int 0, .int 0, .int 0]) hx hb hts inX2 tyX2 tyX2_ok nmX2 hown hK hP hD hS h_gl rfl 0 (by decide) (hts _ k_388) (fun _ h9 => h9) rfl hin rfl (by decide +kernel) rfl rfl (Nat.le_of_ble_eq_true rfl) rfl dX2_init_30 (fun g H locs h_gl hu hP hD hS => ?_)
  have h_ra := h_ra.up hu (by decide)
  have h_fa := h_fa.up hu (by decide)
  have h_la := h_la.up hu (by decide)
  have hfr := hfr.up hu (by decide)
  refine lv_aload_n hx hb dX2_init_33 rfl (lv_at hl 0 rfl) ?_
  refine lv_aload_n hx hb dX2_init_34 rfl (lv_at hl 2 rfl) ?_
  refine o_putF (D := D) (ci := 3) (v := .ref lf) (ty := .object "ScriptDesk$Leaf") (C := RX2) (T := TX2) (N := 10) (fs1 := [.ref pr, .ref lf, .ref q_ra, .ref q_fa, .ref q_la, .int 0, .int 0, .int 0, .int 0, .int 0]) hx hb hts inX2 tyX2 tyX2_ok nmX2 hown hK hP hD hS h_gl rfl 1 (by decide) (hts _ k_389) (fun _ h9 => h9) rfl hin rfl (by decide +kernel) rfl rfl (Nat.le_of_ble_eq_true rfl) rfl dX2_init_35 (fun g H locs h_gl hu hP hD hS => ?_)
  have h_ra := h_ra.up hu (by decide)
  have h_fa := h_fa.up hu (by decide)
  have h_la := h_la.up hu (by decide)
  have hfr := hfr.up hu (by decide)
  exact o_rv hf hr hlocks hK hP hD hS (show 0 + 1 + 1 + 1 ≤ 3 by omega) (show 0 + 28 + 28 + 28 ≤ 84 by omega) ⟨q_ra, q_fa, q_la, hfr, h_gl, h_ra, h_fa, h_la⟩ dX2_init_38
set_option maxHeartbeats 1000000 in
set_option maxRecDepth 100000 in
theorem i_pr (l : Launch) (D : va_G) (z : Nat → Nat) (cB cI_ cO : ClassId) (L0 : List Nat) (g0 : hG) (pr nob : Nat) (h_pr : ho L0 g0 pr 13 (.inr (7, [.null, .null, .null])))  : eV l D yX6_init cX6_init 2 none 4 72 3 10 [.ref pr, .ref nob] z cB cI_ cO L0 g0 (fun L g => ∃ pcs spr nwh : Nat, fr [13, 14, 16, 19] L0 g0 L g ∧ ho L g pr 13 (.inr (7, [.ref pcs, .ref spr, .ref nwh])) ∧ ho L g pcs 14 (.inr (0, [.int 0, .ref (z 0), .int 0])) ∧ ho L g spr 16 (.inr (0, [.int 0, .ref (z 0), .int 0])) ∧ ho L g nwh 19 (.inr (6, [.ref nob, .int 0, .int 0, .int 0]))) := by
  refine o_sv (by decide) (Nat.le_of_ble_eq_true rfl) ?_
  intro p e s m below meth c A ls hf hr hlocks hin hK hP hD hS hA hZ hN hl
  obtain ⟨hx, hb, hml, hown, hts⟩ := id hf
  have hl : lv_has ls 2 [(0, .ref pr), (1, .ref nob)] := hl
  have hfr : fr [13, 14, 16, 19] L0 g0 L0 g0 := fr.rf
  refine lv_aload_n hx hb dX6_init_0 rfl (lv_at hl 0 rfl) ?_
  refine W.objInit hx hb hown (hts _ k_267) (hts _ k_113) (hts _ k_114) rfl (by rw [hml]; exact hl.1) rfl dX6_init_1 (Nat.le_of_ble_eq_true rfl) (Nat.le_of_ble_eq_true rfl) ?_
  refine q_eq (pc := 4) (st := []) rfl ?_
  refine lv_aload_n hx hb dX6_init_4 rfl (lv_at hl 0 rfl) ?_
  refine o_new (ci := 0) (fs := [.int 0, .null, .int 0]) (C := RJx4a65c) (T := TJx4a65c) (N := 3) hx hb 14 hts inJx4a65c tyJx4a65c tyJx4a65c_ok hown (hts _ k_268) (hts _ k_155) (hts _ k_89) hK hP hD hS hA rfl dfJx4a65c (show 0 + 1 ≤ 3 by omega) (show 0 + 3 ≤ 10 by omega) dX6_init_5 (fun q_pcs L g H h_pcs hnw hP hD hS => ?_)
  have h_pr := h_pr.nw hnw
  have hfr := hfr.nw hnw
  refine lv_dup hx hb dX6_init_8 rfl ?_
  refine o_cv (k := 0 + 1) (n := 0 + 3) hK hP hD hS hA (o_rI (As := []) (rest := [.ref q_pcs, .ref pr]) hf (i_al _ _ _ _ _ _ _ _ q_pcs 14 h_pcs _) k_158 k_269 k_157 k_89 rfl (nA := 0) (by decide +kernel) ⟨Nat.le_of_ble_eq_true rfl, Nat.le_of_ble_eq_true rfl⟩ hK hP hD hS hA hZ hN rfl hl.1 rfl (Nat.le_of_ble_eq_true rfl) dX6_init_9 ⟨(show 0 + 1 + 0 ≤ 3 by omega), (show 0 + 3 + 0 ≤ 10 by omega)⟩) (Nat.le_refl _) (Nat.le_refl _) (fun L g H locs hw hP hD hS => ?_)
  obtain ⟨hf9, h_pcs⟩ := hw
  have h_pr := h_pr.fr hf9 (by decide)
  have hfr := hfr.tm hf9 (by decide)
  refine o_putF (D := D) (ci := 7) (v := .ref q_pcs) (ty := .object "java/util/ArrayList") (C := RX6) (T := TX6) (N := 3) (fs1 := [.ref q_pcs, .null, .null]) hx hb hts inX6 tyX6 tyX6_ok nmX6 hown hK hP hD hS h_pr rfl 0 (by decide) (hts _ k_304) (fun _ h9 => h9) rfl hin rfl (by decide +kernel) rfl rfl (Nat.le_of_ble_eq_true rfl) rfl dX6_init_12 (fun g H locs h_pr hu hP hD hS => ?_)
  have h_pcs := h_pcs.up hu (by decide)
  have hfr := hfr.up hu (by decide)
  refine lv_aload_n hx hb dX6_init_15 rfl (lv_at hl 0 rfl) ?_
  refine o_new (ci := 0) (fs := [.int 0, .null, .int 0]) (C := RJx4a65c) (T := TJx4a65c) (N := 3) hx hb 16 hts inJx4a65c tyJx4a65c tyJx4a65c_ok hown (hts _ k_268) (hts _ k_155) (hts _ k_89) hK hP hD hS hA rfl dfJx4a65c (show 0 + 1 + 1 ≤ 3 by omega) (show 0 + 3 + 3 ≤ 10 by omega) dX6_init_16 (fun q_spr L g H h_spr hnw hP hD hS => ?_)
  have h_pr := h_pr.nw hnw
  have h_pcs := h_pcs.nw hnw
  have hfr := hfr.nw hnw
  refine lv_dup hx hb dX6_init_19 rfl ?_
  refine o_cv (k := 0 + 1 + 1) (n := 0 + 3 + 3) hK hP hD hS hA (o_rI (As := []) (rest := [.ref q_spr, .ref pr]) hf (i_al _ _ _ _ _ _ _ _ q_spr 16 h_spr _) k_158 k_269 k_157 k_89 rfl (nA := 0) (by decide +kernel) ⟨Nat.le_of_ble_eq_true rfl, Nat.le_of_ble_eq_true rfl⟩ hK hP hD hS hA hZ hN rfl hl.1 rfl (Nat.le_of_ble_eq_true rfl) dX6_init_20 ⟨(show 0 + 1 + 1 + 0 ≤ 3 by omega), (show 0 + 3 + 3 + 0 ≤ 10 by omega)⟩) (Nat.le_refl _) (Nat.le_refl _) (fun L g H locs hw hP hD hS => ?_)
  obtain ⟨hf9, h_spr⟩ := hw
  have h_pr := h_pr.fr hf9 (by decide)
  have h_pcs := h_pcs.fr hf9 (by decide)
  have hfr := hfr.tm hf9 (by decide)
  refine o_putF (D := D) (ci := 7) (v := .ref q_spr) (ty := .object "java/util/ArrayList") (C := RX6) (T := TX6) (N := 3) (fs1 := [.ref q_pcs, .ref q_spr, .null]) hx hb hts inX6 tyX6 tyX6_ok nmX6 hown hK hP hD hS h_pr rfl 1 (by decide) (hts _ k_305) (fun _ h9 => h9) rfl hin rfl (by decide +kernel) rfl rfl (Nat.le_of_ble_eq_true rfl) rfl dX6_init_23 (fun g H locs h_pr hu hP hD hS => ?_)
  have h_pcs := h_pcs.up hu (by decide)
  have h_spr := h_spr.up hu (by decide)
  have hfr := hfr.up hu (by decide)
  refine lv_aload_n hx hb dX6_init_26 rfl (lv_at hl 0 rfl) ?_
  refine o_new (ci := 6) (fs := [.null, .int 0, .int 0, .int 0]) (C := RX5) (T := TX5) (N := 4) hx hb 19 hts inX5 tyX5 tyX5_ok hown (hts _ k_270) (hts _ k_271) (hts _ k_93) hK hP hD hS hA rfl dfX5 (show 0 + 1 + 1 + 1 ≤ 3 by omega) (show 0 + 3 + 3 + 4 ≤ 10 by omega) dX6_init_27 (fun q_nwh L g H h_nwh hnw hP hD hS => ?_)
  have h_pr := h_pr.nw hnw
  have h_pcs := h_pcs.nw hnw
  have h_spr := h_spr.nw hnw
  have hfr := hfr.nw hnw
  refine lv_dup hx hb dX6_init_30 rfl ?_
  refine lv_aload_n hx hb dX6_init_31 rfl (lv_at hl 1 rfl) ?_
  refine o_cv (k := 0 + 1 + 1 + 1) (n := 0 + 3 + 3 + 4) hK hP hD hS hA (o_rI (As := [.ref nob]) (rest := [.ref q_nwh, .ref pr]) hf (i_nw _ _ _ _ _ _ _ _ q_nwh nob h_nwh _) k_274 k_272 k_273 k_93 rfl (nA := 1) (by decide +kernel) ⟨Nat.le_of_ble_eq_true rfl, Nat.le_of_ble_eq_true rfl⟩ hK hP hD hS hA hZ hN rfl hl.1 rfl (Nat.le_of_ble_eq_true rfl) dX6_init_32 ⟨(show 0 + 1 + 1 + 1 + 0 ≤ 3 by omega), (show 0 + 3 + 3 + 4 + 0 ≤ 10 by omega)⟩) (Nat.le_refl _) (Nat.le_refl _) (fun L g H locs hw hP hD hS => ?_)
  obtain ⟨hf9, h_nwh⟩ := hw
  have h_pr := h_pr.fr hf9 (by decide)
  have h_pcs := h_pcs.fr hf9 (by decide)
  have h_spr := h_spr.fr hf9 (by decide)
  have hfr := hfr.tm hf9 (by decide)
  refine o_putF (D := D) (ci := 7) (v := .ref q_nwh) (ty := .object "ScriptDesk$Piece") (C := RX6) (T := TX6) (N := 3) (fs1 := [.ref q_pcs, .ref q_spr, .ref q_nwh]) hx hb hts inX6 tyX6 tyX6_ok nmX6 hown hK hP hD hS h_pr rfl 2 (by decide) (hts _ k_306) (fun _ h9 => h9) rfl hin rfl (by decide +kernel) rfl rfl (Nat.le_of_ble_eq_true rfl) rfl dX6_init_35 (fun g H locs h_pr hu hP hD hS => ?_)
  have h_pcs := h_pcs.up hu (by decide)
  have h_spr := h_spr.up hu (by decide)
  have h_nwh := h_nwh.up hu (by decide)
  have hfr := hfr.up hu (by decide)
  exact o_rv hf hr hlocks hK hP hD hS (show 0 + 1 + 1 + 1 ≤ 3 by omega) (show 0 + 3 + 3 + 4 ≤ 10 by omega) ⟨q_pcs, q_spr, q_nwh, hfr, h_pr, h_pcs, h_spr, h_nwh⟩ dX6_init_38
