abbrev cJx4a65c_add_72be8 : ByteArray := prog_23_method_24_code
def yJx4a65c_add_72be8 : MethodName := ⟨RJx4a65c, "add", "(Ljava/lang/Object;[Ljava/lang/Object;I)V"⟩
abbrev cJx4a65c_grow_92f84 : ByteArray := prog_23_method_6_code
def yJx4a65c_grow_92f84 : MethodName := ⟨RJx4a65c, "grow", "(I)[Ljava/lang/Object;"⟩
abbrev cJx4a65c_grow_d5877 : ByteArray := prog_23_method_7_code
def yJx4a65c_grow_d5877 : MethodName := ⟨RJx4a65c, "grow", "()[Ljava/lang/Object;"⟩
theorem k_17 : (Cond.selects RJx4a65c yJx4a65c_grow_d5877 yJx4a65c_grow_d5877) ∈ gT := gT_i 17 (by decide +kernel) rfl
theorem k_18 : (Cond.selects RJx4a65c yJx4a65c_grow_92f84 yJx4a65c_grow_92f84) ∈ gT := gT_i 18 (by decide +kernel) rfl
theorem k_89 : (Cond.initialized RJx4a65c) ∈ gT := gT_i 89 (by decide +kernel) rfl
theorem k_103 : (Cond.initialized RJ8) ∈ gT := gT_i 103 (by decide +kernel) rfl
theorem k_166 : (Cond.fieldLink RJx4a65c 39 "java/util/ArrayList" "DEFAULTCAPACITY_EMPTY_ELEMENTDATA" "[Ljava/lang/Object;") ∈ gT := gT_i 166 (by decide +kernel) rfl
theorem k_168 : (Cond.fieldLink RJx4a65c 9 "java/util/ArrayList" "elementData" "[Ljava/lang/Object;") ∈ gT := gT_i 168 (by decide +kernel) rfl
theorem k_169 : (Cond.fieldLink RJx4a65c 48 "java/util/ArrayList" "size" "I") ∈ gT := gT_i 169 (by decide +kernel) rfl
theorem k_616 : (Cond.methodLink RJx4a65c 129 yJx4a65c_grow_d5877) ∈ gT := gT_i 616 (by decide +kernel) rfl
theorem k_618 : (Cond.instanceMethod yJx4a65c_grow_d5877) ∈ gT := gT_i 618 (by decide +kernel) rfl
theorem k_619 : (Cond.code yJx4a65c_grow_d5877 cJx4a65c_grow_d5877 1 (some (.array (.object "java/lang/Object")))) ∈ gT := gT_i 619 (by decide +kernel) rfl
theorem k_620 : (Cond.methodLink RJx4a65c 69 yJx4a65c_grow_92f84) ∈ gT := gT_i 620 (by decide +kernel) rfl
theorem k_622 : (Cond.instanceMethod yJx4a65c_grow_92f84) ∈ gT := gT_i 622 (by decide +kernel) rfl
theorem k_623 : (Cond.code yJx4a65c_grow_92f84 cJx4a65c_grow_92f84 4 (some (.array (.object "java/lang/Object")))) ∈ gT := gT_i 623 (by decide +kernel) rfl
theorem k_624 : (Cond.methodLink RJx4a65c 73 yJ8_newLength_cabcc) ∈ gT := gT_i 624 (by decide +kernel) rfl
theorem k_625 : (Cond.static yJ8_newLength_cabcc) ∈ gT := gT_i 625 (by decide +kernel) rfl
theorem k_626 : (Cond.code yJ8_newLength_cabcc cJ8_newLength_cabcc 4 (some .int)) ∈ gT := gT_i 626 (by decide +kernel) rfl
theorem k_632 : (Cond.methodLink RJx4a65c 66 yJ7_copyOf_1904c) ∈ gT := gT_i 632 (by decide +kernel) rfl
theorem k_633 : (Cond.static yJ7_copyOf_1904c) ∈ gT := gT_i 633 (by decide +kernel) rfl
theorem k_634 : (Cond.code yJ7_copyOf_1904c cJ7_copyOf_1904c 2 (some (.array (.object "java/lang/Object")))) ∈ gT := gT_i 634 (by decide +kernel) rfl
theorem k_661 : (Cond.methodLink RJx4a65c 79 Lib.Math.max.name) ∈ gT := gT_i 661 (by decide +kernel) rfl
theorem k_662 : (Cond.classLink RJx4a65c 7 "java/lang/Object") ∈ gT := gT_i 662 (by decide +kernel) rfl
theorem dJx4a65c_grow_92f84_0 : decode cJx4a65c_grow_92f84 0 = .ok (.aload_n 0, 1) := by decide +kernel
theorem dJx4a65c_grow_92f84_1 : decode cJx4a65c_grow_92f84 1 = .ok (.getfield 9, 3) := by decide +kernel
theorem dJx4a65c_grow_92f84_4 : decode cJx4a65c_grow_92f84 4 = .ok (.arraylength, 1) := by decide +kernel
theorem dJx4a65c_grow_92f84_5 : decode cJx4a65c_grow_92f84 5 = .ok (.istore_n 2, 1) := by decide +kernel
theorem dJx4a65c_grow_92f84_6 : decode cJx4a65c_grow_92f84 6 = .ok (.iload_n 2, 1) := by decide +kernel
theorem dJx4a65c_grow_92f84_7 : decode cJx4a65c_grow_92f84 7 = .ok (.ifCond .gt 13, 3) := by decide +kernel
theorem dJx4a65c_grow_92f84_10 : decode cJx4a65c_grow_92f84 10 = .ok (.aload_n 0, 1) := by decide +kernel
theorem dJx4a65c_grow_92f84_11 : decode cJx4a65c_grow_92f84 11 = .ok (.getfield 9, 3) := by decide +kernel
theorem dJx4a65c_grow_92f84_14 : decode cJx4a65c_grow_92f84 14 = .ok (.getstatic 39, 3) := by decide +kernel
theorem dJx4a65c_grow_92f84_17 : decode cJx4a65c_grow_92f84 17 = .ok (.if_acmp .eq 28, 3) := by decide +kernel
theorem dJx4a65c_grow_92f84_45 : decode cJx4a65c_grow_92f84 45 = .ok (.aload_n 0, 1) := by decide +kernel
theorem dJx4a65c_grow_92f84_46 : decode cJx4a65c_grow_92f84 46 = .ok (.bipush 10, 2) := by decide +kernel
theorem dJx4a65c_grow_92f84_48 : decode cJx4a65c_grow_92f84 48 = .ok (.iload_n 1, 1) := by decide +kernel
theorem dJx4a65c_grow_92f84_49 : decode cJx4a65c_grow_92f84 49 = .ok (.invokestatic 79, 3) := by decide +kernel
theorem dJx4a65c_grow_92f84_52 : decode cJx4a65c_grow_92f84 52 = .ok (.anewarray 7, 3) := by decide +kernel
theorem dJx4a65c_grow_92f84_55 : decode cJx4a65c_grow_92f84 55 = .ok (.dup_x1, 1) := by decide +kernel
theorem dJx4a65c_grow_92f84_56 : decode cJx4a65c_grow_92f84 56 = .ok (.putfield 9, 3) := by decide +kernel
theorem dJx4a65c_grow_92f84_59 : decode cJx4a65c_grow_92f84 59 = .ok (.areturn, 1) := by decide +kernel
theorem dJx4a65c_grow_92f84_20 : decode cJx4a65c_grow_92f84 20 = .ok (.iload_n 2, 1) := by decide +kernel
theorem dJx4a65c_grow_92f84_21 : decode cJx4a65c_grow_92f84 21 = .ok (.iload_n 1, 1) := by decide +kernel
theorem dJx4a65c_grow_92f84_22 : decode cJx4a65c_grow_92f84 22 = .ok (.iload_n 2, 1) := by decide +kernel
theorem dJx4a65c_grow_92f84_23 : decode cJx4a65c_grow_92f84 23 = .ok (.isub, 1) := by decide +kernel
theorem dJx4a65c_grow_92f84_24 : decode cJx4a65c_grow_92f84 24 = .ok (.iload_n 2, 1) := by decide +kernel
theorem dJx4a65c_grow_92f84_25 : decode cJx4a65c_grow_92f84 25 = .ok (.iconst 1, 1) := by decide +kernel
theorem dJx4a65c_grow_92f84_26 : decode cJx4a65c_grow_92f84 26 = .ok (.ishr, 1) := by decide +kernel
theorem dJx4a65c_grow_92f84_27 : decode cJx4a65c_grow_92f84 27 = .ok (.invokestatic 73, 3) := by decide +kernel
theorem dJx4a65c_grow_92f84_30 : decode cJx4a65c_grow_92f84 30 = .ok (.istore_n 3, 1) := by decide +kernel
theorem dJx4a65c_grow_92f84_31 : decode cJx4a65c_grow_92f84 31 = .ok (.aload_n 0, 1) := by decide +kernel
theorem dJx4a65c_grow_92f84_32 : decode cJx4a65c_grow_92f84 32 = .ok (.aload_n 0, 1) := by decide +kernel
theorem dJx4a65c_grow_92f84_33 : decode cJx4a65c_grow_92f84 33 = .ok (.getfield 9, 3) := by decide +kernel
theorem dJx4a65c_grow_92f84_36 : decode cJx4a65c_grow_92f84 36 = .ok (.iload_n 3, 1) := by decide +kernel
theorem dJx4a65c_grow_92f84_37 : decode cJx4a65c_grow_92f84 37 = .ok (.invokestatic 66, 3) := by decide +kernel
theorem dJx4a65c_grow_92f84_40 : decode cJx4a65c_grow_92f84 40 = .ok (.dup_x1, 1) := by decide +kernel
theorem dJx4a65c_grow_92f84_41 : decode cJx4a65c_grow_92f84 41 = .ok (.putfield 9, 3) := by decide +kernel
theorem dJx4a65c_grow_92f84_44 : decode cJx4a65c_grow_92f84 44 = .ok (.areturn, 1) := by decide +kernel
theorem dJx4a65c_grow_d5877_0 : decode cJx4a65c_grow_d5877 0 = .ok (.aload_n 0, 1) := by decide +kernel
theorem dJx4a65c_grow_d5877_1 : decode cJx4a65c_grow_d5877 1 = .ok (.aload_n 0, 1) := by decide +kernel
theorem dJx4a65c_grow_d5877_2 : decode cJx4a65c_grow_d5877 2 = .ok (.getfield 48, 3) := by decide +kernel
theorem dJx4a65c_grow_d5877_5 : decode cJx4a65c_grow_d5877 5 = .ok (.iconst 1, 1) := by decide +kernel
theorem dJx4a65c_grow_d5877_6 : decode cJx4a65c_grow_d5877 6 = .ok (.iadd, 1) := by decide +kernel
theorem dJx4a65c_grow_d5877_7 : decode cJx4a65c_grow_d5877 7 = .ok (.invokevirtual 69, 3) := by decide +kernel
theorem dJx4a65c_grow_d5877_10 : decode cJx4a65c_grow_d5877 10 = .ok (.areturn, 1) := by decide +kernel
theorem dJx4a65c_add_72be8_0 : decode cJx4a65c_add_72be8 0 = .ok (.iload_n 3, 1) := by decide +kernel
theorem dJx4a65c_add_72be8_1 : decode cJx4a65c_add_72be8 1 = .ok (.aload_n 2, 1) := by decide +kernel
theorem dJx4a65c_add_72be8_2 : decode cJx4a65c_add_72be8 2 = .ok (.arraylength, 1) := by decide +kernel
theorem dJx4a65c_add_72be8_3 : decode cJx4a65c_add_72be8 3 = .ok (.if_icmp .ne 8, 3) := by decide +kernel
theorem dJx4a65c_add_72be8_6 : decode cJx4a65c_add_72be8 6 = .ok (.aload_n 0, 1) := by decide +kernel
theorem dJx4a65c_add_72be8_7 : decode cJx4a65c_add_72be8 7 = .ok (.invokevirtual 129, 3) := by decide +kernel
theorem dJx4a65c_add_72be8_10 : decode cJx4a65c_add_72be8 10 = .ok (.astore_n 2, 1) := by decide +kernel
theorem dJx4a65c_add_72be8_11 : decode cJx4a65c_add_72be8 11 = .ok (.aload_n 2, 1) := by decide +kernel
theorem dJx4a65c_add_72be8_12 : decode cJx4a65c_add_72be8 12 = .ok (.iload_n 3, 1) := by decide +kernel
theorem dJx4a65c_add_72be8_13 : decode cJx4a65c_add_72be8 13 = .ok (.aload_n 1, 1) := by decide +kernel
theorem dJx4a65c_add_72be8_14 : decode cJx4a65c_add_72be8 14 = .ok (.aastore, 1) := by decide +kernel
theorem dJx4a65c_add_72be8_15 : decode cJx4a65c_add_72be8 15 = .ok (.aload_n 0, 1) := by decide +kernel
theorem dJx4a65c_add_72be8_16 : decode cJx4a65c_add_72be8 16 = .ok (.iload_n 3, 1) := by decide +kernel
theorem dJx4a65c_add_72be8_17 : decode cJx4a65c_add_72be8 17 = .ok (.iconst 1, 1) := by decide +kernel
theorem dJx4a65c_add_72be8_18 : decode cJx4a65c_add_72be8 18 = .ok (.iadd, 1) := by decide +kernel
theorem dJx4a65c_add_72be8_19 : decode cJx4a65c_add_72be8 19 = .ok (.putfield 48, 3) := by decide +kernel
theorem dJx4a65c_add_72be8_22 : decode cJx4a65c_add_72be8 22 = .ok (.return_, 1) := by decide +kernel
set_option maxHeartbeats 1000000 in
set_option maxRecDepth 100000 in
theorem a_growV (l : Launch) (D : va_G) (z : Nat → Nat) (cB cI_ cO : ClassId) (L0 : List Nat) (g0 : hG) (al tA tD : Nat) (mc : Int32) (h_al : ho L0 g0 al tA (.inr (0, [.int mc, .ref (z 0), .int 0]))) (hAD : tA ≠ tD) : eR l D yJx4a65c_grow_92f84 cJx4a65c_grow_92f84 4 (some (.array (.object "java/lang/Object"))) 3 64 1 10 [.ref al, .int 1] z cB cI_ cO L0 g0 (fun r L g => fr [tA, tD] L0 g0 L g ∧ ho L g al tA (.inr (0, [.int mc, .ref r, .int 0])) ∧ ho L g r tD (.inl (cO, 10, .inr (.inr (.inr (.inr (fun _ => none))))))) := by
  refine o_sr (by decide) (Nat.le_of_ble_eq_true rfl) ?_
  intro p e s m below meth c A ls hf hr hlocks hin hK hP hD hS hA hZ hN hl
  obtain ⟨hx, hb, hml, hown, hts⟩ := id hf
  have hl : lv_has ls 4 [(0, .ref al), (1, .int 1)] := hl
  have hfr : fr [tA, tD] L0 g0 L0 g0 := fr.rf
  refine lv_aload_n hx hb dJx4a65c_grow_92f84_0 rfl (lv_at hl 0 rfl) ?_
  refine o_get (D := D) (ci := 0) (v := .ref (z 0)) (C := RJx4a65c) (T := TJx4a65c) (N := 3) hx hb hts inJx4a65c hown hK hP h_al rfl 1 (by decide) (hts _ k_168) (fun _ h9 => h9) rfl dJx4a65c_grow_92f84_1 ?_
  refine va_tlen (v := 0) hx hb hZ.2.1 hS rfl dJx4a65c_grow_92f84_4 ?_
  refine lv_istore_n (lv' := [(2, .int 0), (0, .ref al), (1, .int 1)]) hx hb dJx4a65c_grow_92f84_5 rfl hl (by decide) rfl (fun ls hl => ?_)
  refine lv_iload_n hx hb dJx4a65c_grow_92f84_6 rfl (lv_at hl 0 rfl) ?_
  refine lv_if_gt (tgt := 20) hx hb dJx4a65c_grow_92f84_7 (by decide) (fun hno => absurd hno (by decide)) (fun _ => ?_)
  refine lv_aload_n hx hb dJx4a65c_grow_92f84_10 rfl (lv_at hl 1 rfl) ?_
  refine o_get (D := D) (ci := 0) (v := .ref (z 0)) (C := RJx4a65c) (T := TJx4a65c) (N := 3) hx hb hts inJx4a65c hown hK hP h_al rfl 1 (by decide) (hts _ k_168) (fun _ h9 => h9) rfl dJx4a65c_grow_92f84_11 ?_
  refine va_gets hx hb hZ.1 hS hown (hts _ k_166) (fun _ h9 => h9) dJx4a65c_grow_92f84_14 ?_
  refine lv_acmp_eq (rx := (some (z 0))) (ry := (some (z 0))) (tgt := 45) hx hb dJx4a65c_grow_92f84_17 (by decide) (fun _ => ?_) (fun hno => absurd rfl hno)
  refine lv_aload_n hx hb dJx4a65c_grow_92f84_45 rfl (lv_at hl 1 rfl) ?_
  refine lv_bipush (v := 10) hx hb dJx4a65c_grow_92f84_46 (by decide) ?_
  refine lv_iload_n hx hb dJx4a65c_grow_92f84_48 rfl (lv_at hl 2 rfl) ?_
  refine va_mmax hx hb (by rw [hml]; exact hl.1.symm) hown (hts _ k_661) (hts _ k_187) (hts _ k_91) (hts _ k_188) (Nat.le_of_ble_eq_true rfl) (Nat.le_of_ble_eq_true rfl) (show 0 ≤ 1 by omega) (show 0 ≤ 10 by omega) dJx4a65c_grow_92f84_49 ?_
  refine q_seti (y := nI 10) (by decide) ?_
  refine o_newq (n := 10) hx hb tD hown (hts _ k_662) hN.2.2.1 hK hP hD hS hA (by omega) (show 0 + 1 ≤ 1 by omega) (show 0 + 10 ≤ 10 by omega) dJx4a65c_grow_92f84_52 (fun q_nd L g H h_nd hnw hP hD hS => ?_)
  have h_al := h_al.nw hnw
  have hfr := hfr.nw hnw
  refine lv_dup_x1 hx hb dJx4a65c_grow_92f84_55 rfl rfl ?_
  refine o_put (D := D) (ci := 0) (v := .ref q_nd) (ty := .array (.object "java/lang/Object")) (C := RJx4a65c) (T := TJx4a65c) (N := 3) (fs1 := [.int mc, .ref q_nd, .int 0]) hx hb hts inJx4a65c tyJx4a65c tyJx4a65c_ok nmJx4a65c hown hK hP hD hS h_al rfl 1 (by decide) (hts _ k_168) (fun _ h9 => h9) rfl (by decide +kernel) rfl rfl (Nat.le_of_ble_eq_true rfl) rfl dJx4a65c_grow_92f84_56 (fun g H locs h_al hu hP hD hS => ?_)
  have h_nd := h_nd.up hu (Ne.symm hAD)
  have hfr := hfr.up hu (by simp)
  exact o_rr hf hr (Or.inr ⟨_, rfl⟩) hlocks hK hP hD hS (show 0 + 1 ≤ 1 by omega) (show 0 + 10 ≤ 10 by omega) ⟨hfr, h_al, h_nd⟩ dJx4a65c_grow_92f84_59
set_option maxHeartbeats 1000000 in
set_option maxRecDepth 100000 in
theorem a_growO (l : Launch) (D : va_G) (z : Nat → Nat) (cB cI_ cO : ClassId) (L0 : List Nat) (g0 : hG) (al tA tD : Nat) (mc : Int32) (d cap sz tx cx : Nat) (f : Nat → Option Nat) (rx : vw_C) (h_al : ho L0 g0 al tA (.inr (0, [.int mc, .ref d, .int (nI sz)]))) (h_d : ho L0 g0 d tD (.inl (cO, cap, .inr (.inr (.inr (.inr f)))))) (hAD : tA ≠ tD) (hc10 : 10 ≤ cap) (hc9 : cap ≤ 60000) (hcx : vcl[cx]? = some rx) (hca : ∀ s : State, zB z s → va_Nw (.castable rx.1 "java/lang/Object") s) (hel : ∀ i, i < cap → ∀ y, f i = some y → ∃ fs, ho L0 g0 y tx (.inr (cx, fs))) : eR l D yJx4a65c_grow_92f84 cJx4a65c_grow_92f84 4 (some (.array (.object "java/lang/Object"))) 3 64 1 ((cap + cap / 2)) [.ref al, .int (nI (cap + 1))] z cB cI_ cO L0 g0 (fun r L g => fr [tA, tD] L0 g0 L g ∧ ho L g al tA (.inr (0, [.int mc, .ref r, .int (nI sz)])) ∧ ho L g r tD (.inl (cO, (cap + cap / 2), .inr (.inr (.inr (.inr (va_cpy f (fun _ => none) 0 0 cap))))))) := by
  refine o_sr (by decide) (Nat.le_of_ble_eq_true rfl) ?_
  intro p e s m below meth c A ls hf hr hlocks hin hK hP hD hS hA hZ hN hl
  obtain ⟨hx, hb, hml, hown, hts⟩ := id hf
  have hl : lv_has ls 4 [(0, .ref al), (1, .int (nI (cap + 1)))] := hl
  have hfr : fr [tA, tD] L0 g0 L0 g0 := fr.rf
  refine lv_aload_n hx hb dJx4a65c_grow_92f84_0 rfl (lv_at hl 0 rfl) ?_
  refine o_get (D := D) (ci := 0) (v := .ref d) (C := RJx4a65c) (T := TJx4a65c) (N := 3) hx hb hts inJx4a65c hown hK hP h_al rfl 1 (by decide) (hts _ k_168) (fun _ h9 => h9) rfl dJx4a65c_grow_92f84_1 ?_
  refine o_lenq hx hb hK hP h_d dJx4a65c_grow_92f84_4 ?_
  refine lv_istore_n (lv' := [(2, .int (nI cap)), (0, .ref al), (1, .int (nI (cap + 1)))]) hx hb dJx4a65c_grow_92f84_5 rfl hl (by decide) rfl (fun ls hl => ?_)
  refine lv_iload_n hx hb dJx4a65c_grow_92f84_6 rfl (lv_at hl 0 rfl) ?_
  refine lv_if_gt (tgt := 20) hx hb dJx4a65c_grow_92f84_7 (by decide) (fun c_1 => ?_) (fun c_1 => ?_)
  · have c_1 := q_lt (a := 0) (b := cap) (by omega) (by omega) c_1
    refine lv_iload_n hx hb dJx4a65c_grow_92f84_20 rfl (lv_at hl 0 rfl) ?_
    refine lv_iload_n hx hb dJx4a65c_grow_92f84_21 rfl (lv_at hl 2 rfl) ?_
    refine lv_iload_n hx hb dJx4a65c_grow_92f84_22 rfl (lv_at hl 0 rfl) ?_
    refine lv_isub hx hb dJx4a65c_grow_92f84_23 ?_
    refine q_seti (y := nI (1)) (nI_subE (a := cap + 1) (b := cap) (by omega) (by omega)) ?_
    refine lv_iload_n hx hb dJx4a65c_grow_92f84_24 rfl (lv_at hl 0 rfl) ?_
    refine lv_iconst (v := 1) hx hb dJx4a65c_grow_92f84_25 (by decide) ?_
    refine lv_ishr hx hb dJx4a65c_grow_92f84_26 ?_
    refine q_seti (y := nI (cap / 2)) (pk_shrN (n := cap) (by omega) _ 1 (by decide)) ?_
    refine o_cis (k := 0) (n := 0) hK hP hD hS hA (o_rS (As := [.int (nI cap), .int (nI 1), .int (nI (cap / 2))]) (rest := []) hf (a_newLen _ _ _ _ _ _ _ _ cap 1 (cap / 2) (by omega) (by omega) _) k_626 k_624 k_625 k_103 (nA := 3) (by decide +kernel) ⟨Nat.le_of_ble_eq_true rfl, Nat.le_of_ble_eq_true rfl⟩ hK hP hD hS hA hZ hN rfl hl.1 rfl (Nat.le_of_ble_eq_true rfl) dJx4a65c_grow_92f84_27 ⟨(show 0 + 0 ≤ 1 by omega), (show 0 + 0 ≤ (cap + cap / 2) by omega)⟩) (Nat.le_refl _) (Nat.le_refl _) (fun r H locs hw hP hD hS => ?_)
    obtain rfl := hw
    refine q_seti (y := nI (cap + cap / 2)) (congrArg nI (by omega)) ?_
    refine lv_istore_n (lv' := [(3, .int (nI (cap + cap / 2))), (2, .int (nI cap)), (0, .ref al), (1, .int (nI (cap + 1)))]) hx hb dJx4a65c_grow_92f84_30 rfl hl (by decide) rfl (fun ls hl => ?_)
    refine lv_aload_n hx hb dJx4a65c_grow_92f84_31 rfl (lv_at hl 2 rfl) ?_
    refine lv_aload_n hx hb dJx4a65c_grow_92f84_32 rfl (lv_at hl 2 rfl) ?_
    refine o_get (D := D) (ci := 0) (v := .ref d) (C := RJx4a65c) (T := TJx4a65c) (N := 3) hx hb hts inJx4a65c hown hK hP h_al rfl 1 (by decide) (hts _ k_168) (fun _ h9 => h9) rfl dJx4a65c_grow_92f84_33 ?_
    refine lv_iload_n hx hb dJx4a65c_grow_92f84_36 rfl (lv_at hl 0 rfl) ?_
    refine o_cr (k := 0 + 1) (n := 0 + (cap + cap / 2)) hK hP hD hS hA (o_rS (As := [.ref d, .int (nI (cap + cap / 2))]) (rest := [.ref al]) hf (a_copy2 _ _ _ _ _ _ _ _ d cap (cap + cap / 2) tD f cx rx tx h_d (by omega) (by omega) hcx hca hel _) k_634 k_632 k_633 k_104 (nA := 2) (by decide +kernel) ⟨Nat.le_of_ble_eq_true rfl, Nat.le_of_ble_eq_true rfl⟩ hK hP hD hS hA hZ hN rfl hl.1 rfl (Nat.le_of_ble_eq_true rfl) dJx4a65c_grow_92f84_37 ⟨(show 0 + 1 ≤ 1 by omega), (show 0 + (cap + cap / 2) ≤ (cap + cap / 2) by omega)⟩) (by omega) (by omega) (fun r L g H locs hw hP hD hS => ?_)
    obtain ⟨hfa9, h_nd⟩ := hw
    have hf9 := hfa9.fr (ts := [])
    have h_al := h_al.fr hf9 List.not_mem_nil
    have h_d := h_d.fr hf9 List.not_mem_nil
    have hfr := hfr.tr hfa9.fr
    refine lv_dup_x1 hx hb dJx4a65c_grow_92f84_40 rfl rfl ?_
    refine o_put (D := D) (ci := 0) (v := .ref r) (ty := .array (.object "java/lang/Object")) (C := RJx4a65c) (T := TJx4a65c) (N := 3) (fs1 := [.int mc, .ref r, .int (nI sz)]) hx hb hts inJx4a65c tyJx4a65c tyJx4a65c_ok nmJx4a65c hown hK hP hD hS h_al rfl 1 (by decide) (hts _ k_168) (fun _ h9 => h9) rfl (by decide +kernel) rfl rfl (Nat.le_of_ble_eq_true rfl) rfl dJx4a65c_grow_92f84_41 (fun g H locs h_al hu hP hD hS => ?_)
    have h_d := h_d.up hu (Ne.symm hAD)
    have h_nd := h_nd.up hu (Ne.symm hAD)
    have hfr := hfr.up hu (by simp)
    exact o_rr hf hr (Or.inr ⟨_, rfl⟩) hlocks hK hP hD hS (show 0 + 1 ≤ 1 by omega) (show 0 + (cap + cap / 2) ≤ (cap + cap / 2) by omega) ⟨hfr, h_al, h_nd⟩ dJx4a65c_grow_92f84_44
  · have c_1 := q_nlt (a := 0) (b := cap) (by omega) (by omega) c_1
    exact False.elim (by omega)
set_option maxHeartbeats 1000000 in
set_option maxRecDepth 100000 in
theorem a_grw0V (l : Launch) (D : va_G) (z : Nat → Nat) (cB cI_ cO : ClassId) (L0 : List Nat) (g0 : hG) (al tA tD : Nat) (mc : Int32) (h_al : ho L0 g0 al tA (.inr (0, [.int mc, .ref (z 0), .int 0]))) (hAD : tA ≠ tD) : eR l D yJx4a65c_grow_d5877 cJx4a65c_grow_d5877 1 (some (.array (.object "java/lang/Object"))) 4 87 1 10 [.ref al] z cB cI_ cO L0 g0 (fun r L g => fr [tA, tD] L0 g0 L g ∧ ho L g al tA (.inr (0, [.int mc, .ref r, .int 0])) ∧ ho L g r tD (.inl (cO, 10, .inr (.inr (.inr (.inr (fun _ => none))))))) := by
  refine o_sr (by decide) (Nat.le_of_ble_eq_true rfl) ?_
  intro p e s m below meth c A ls hf hr hlocks hin hK hP hD hS hA hZ hN hl
  obtain ⟨hx, hb, hml, hown, hts⟩ := id hf
  have hl : lv_has ls 1 [(0, .ref al)] := hl
  have hfr : fr [tA, tD] L0 g0 L0 g0 := fr.rf
  refine lv_aload_n hx hb dJx4a65c_grow_d5877_0 rfl (lv_at hl 0 rfl) ?_
  refine lv_aload_n hx hb dJx4a65c_grow_d5877_1 rfl (lv_at hl 0 rfl) ?_
  refine o_get (D := D) (ci := 0) (v := .int 0) (C := RJx4a65c) (T := TJx4a65c) (N := 3) hx hb hts inJx4a65c hown hK hP h_al rfl 2 (by decide) (hts _ k_169) (fun _ h9 => h9) rfl dJx4a65c_grow_d5877_2 ?_
  refine lv_iconst (v := 1) hx hb dJx4a65c_grow_d5877_5 (by decide) ?_
  refine lv_iadd hx hb dJx4a65c_grow_d5877_6 ?_
  refine q_seti (y := 1) (by decide) ?_
  refine o_cr (k := 0 + 1) (n := 0 + 10) hK hP hD hS hA (o_rV (As := [.int 1]) (rest := []) hf (a_growV _ _ _ _ _ _ _ _ al tA tD mc h_al hAD _) k_623 k_620 k_622 k_18 k_89 (nA := 1) (by decide +kernel) ⟨Nat.le_of_ble_eq_true rfl, Nat.le_of_ble_eq_true rfl⟩ hK hP hD hS hA hZ hN h_al rfl rfl rfl hl.1 rfl (Nat.le_of_ble_eq_true rfl) dJx4a65c_grow_d5877_7 ⟨(show 0 + 1 ≤ 1 by omega), (show 0 + 10 ≤ 10 by omega)⟩) (by omega) (by omega) (fun r L g H locs hw hP hD hS => ?_)
  obtain ⟨hf9, h_al, h_nd⟩ := hw
  have hfr := hfr.tr hf9
  exact o_rr hf hr (Or.inr ⟨_, rfl⟩) hlocks hK hP hD hS (show 0 + 1 ≤ 1 by omega) (show 0 + 10 ≤ 10 by omega) ⟨hfr, h_al, h_nd⟩ dJx4a65c_grow_d5877_10
set_option maxHeartbeats 1000000 in
set_option maxRecDepth 100000 in
theorem a_grw0O (l : Launch) (D : va_G) (z : Nat → Nat) (cB cI_ cO : ClassId) (L0 : List Nat) (g0 : hG) (al tA tD : Nat) (mc : Int32) (d cap tx cx : Nat) (f : Nat → Option Nat) (rx : vw_C) (h_al : ho L0 g0 al tA (.inr (0, [.int mc, .ref d, .int (nI cap)]))) (h_d : ho L0 g0 d tD (.inl (cO, cap, .inr (.inr (.inr (.inr f)))))) (hAD : tA ≠ tD) (hc10 : 10 ≤ cap) (hc9 : cap ≤ 60000) (hcx : vcl[cx]? = some rx) (hca : ∀ s : State, zB z s → va_Nw (.castable rx.1 "java/lang/Object") s) (hel : ∀ i, i < cap → ∀ y, f i = some y → ∃ fs, ho L0 g0 y tx (.inr (cx, fs))) : eR l D yJx4a65c_grow_d5877 cJx4a65c_grow_d5877 1 (some (.array (.object "java/lang/Object"))) 4 87 1 ((cap + cap / 2)) [.ref al] z cB cI_ cO L0 g0 (fun r L g => fr [tA, tD] L0 g0 L g ∧ ho L g al tA (.inr (0, [.int mc, .ref r, .int (nI cap)])) ∧ ho L g r tD (.inl (cO, (cap + cap / 2), .inr (.inr (.inr (.inr (va_cpy f (fun _ => none) 0 0 cap))))))) := by
  refine o_sr (by decide) (Nat.le_of_ble_eq_true rfl) ?_
  intro p e s m below meth c A ls hf hr hlocks hin hK hP hD hS hA hZ hN hl
  obtain ⟨hx, hb, hml, hown, hts⟩ := id hf
  have hl : lv_has ls 1 [(0, .ref al)] := hl
  have hfr : fr [tA, tD] L0 g0 L0 g0 := fr.rf
  refine lv_aload_n hx hb dJx4a65c_grow_d5877_0 rfl (lv_at hl 0 rfl) ?_
  refine lv_aload_n hx hb dJx4a65c_grow_d5877_1 rfl (lv_at hl 0 rfl) ?_
  refine o_get (D := D) (ci := 0) (v := .int (nI cap)) (C := RJx4a65c) (T := TJx4a65c) (N := 3) hx hb hts inJx4a65c hown hK hP h_al rfl 2 (by decide) (hts _ k_169) (fun _ h9 => h9) rfl dJx4a65c_grow_d5877_2 ?_
  refine lv_iconst (v := 1) hx hb dJx4a65c_grow_d5877_5 (by decide) ?_
  refine lv_iadd hx hb dJx4a65c_grow_d5877_6 ?_
  refine q_seti (y := nI (cap + 1)) (nI_addE (a := cap) (b := 1) (by omega)) ?_
  refine o_cr (k := 0 + 1) (n := 0 + ((cap + cap / 2))) hK hP hD hS hA (o_rV (As := [.int (nI (cap + 1))]) (rest := []) hf (a_growO _ _ _ _ _ _ _ _ al tA tD mc d cap cap tx cx f rx h_al h_d hAD hc10 hc9 hcx hca hel _) k_623 k_620 k_622 k_18 k_89 (nA := 1) (by decide +kernel) ⟨Nat.le_of_ble_eq_true rfl, Nat.le_of_ble_eq_true rfl⟩ hK hP hD hS hA hZ hN h_al rfl rfl rfl hl.1 rfl (Nat.le_of_ble_eq_true rfl) dJx4a65c_grow_d5877_7 ⟨(show 0 + 1 ≤ 1 by omega), (show 0 + ((cap + cap / 2)) ≤ (cap + cap / 2) by omega)⟩) (by omega) (by omega) (fun r L g H locs hw hP hD hS => ?_)
  obtain ⟨hf9, h_al, h_nd⟩ := hw
  have hfr := hfr.tr hf9
  exact o_rr hf hr (Or.inr ⟨_, rfl⟩) hlocks hK hP hD hS (show 0 + 1 ≤ 1 by omega) (show 0 + ((cap + cap / 2)) ≤ (cap + cap / 2) by omega) ⟨hfr, h_al, h_nd⟩ dJx4a65c_grow_d5877_10
set_option maxHeartbeats 1000000 in
set_option maxRecDepth 100000 in
theorem a_add3V (l : Launch) (D : va_G) (z : Nat → Nat) (cB cI_ cO : ClassId) (L0 : List Nat) (g0 : hG) (al tA tD : Nat) (mc : Int32) (tx x cx : Nat) (rx : vw_C) (fsx : List Value) (h_al : ho L0 g0 al tA (.inr (0, [.int mc, .ref (z 0), .int 0]))) (h_x : ho L0 g0 x tx (.inr (cx, fsx))) (hAD : tA ≠ tD) (hxA : tx ≠ tA) (hxD : tx ≠ tD) (hcx : vcl[cx]? = some rx) (hca : ∀ s : State, zB z s → va_Nw (.castable rx.1 "java/lang/Object") s) : eV l D yJx4a65c_add_72be8 cJx4a65c_add_72be8 4 none 5 107 1 10 [.ref al, .ref x, .ref (z 0), .int 0] z cB cI_ cO L0 g0 (fun L g => ∃ d1 : Nat, fr [tA, tD] L0 g0 L g ∧ ho L g al tA (.inr (0, [.int mc, .ref d1, .int 1])) ∧ ho L g d1 tD (.inl (cO, 10, .inr (.inr (.inr (.inr (va_up (fun _ => none) 0 (some x)))))))) := by
  refine o_sv (by decide) (Nat.le_of_ble_eq_true rfl) ?_
  intro p e s m below meth c A ls hf hr hlocks hin hK hP hD hS hA hZ hN hl
  obtain ⟨hx, hb, hml, hown, hts⟩ := id hf
  have hl : lv_has ls 4 [(0, .ref al), (1, .ref x), (2, .ref (z 0)), (3, .int 0)] := hl
  have hfr : fr [tA, tD] L0 g0 L0 g0 := fr.rf
  refine lv_iload_n hx hb dJx4a65c_add_72be8_0 rfl (lv_at hl 3 rfl) ?_
  refine lv_aload_n hx hb dJx4a65c_add_72be8_1 rfl (lv_at hl 2 rfl) ?_
  refine va_tlen (v := 0) hx hb hZ.2.1 hS rfl dJx4a65c_add_72be8_2 ?_
  refine lv_icmp_ne (tgt := 11) hx hb dJx4a65c_add_72be8_3 (by decide) (fun hno => absurd hno (by decide)) (fun _ => ?_)
  refine lv_aload_n hx hb dJx4a65c_add_72be8_6 rfl (lv_at hl 0 rfl) ?_
  refine o_cr (k := 0 + 1) (n := 0 + 10) hK hP hD hS hA (o_rV (As := []) (rest := []) hf (a_grw0V _ _ _ _ _ _ _ _ al tA tD mc h_al hAD _) k_619 k_616 k_618 k_17 k_89 (nA := 0) (by decide +kernel) ⟨Nat.le_of_ble_eq_true rfl, Nat.le_of_ble_eq_true rfl⟩ hK hP hD hS hA hZ hN h_al rfl rfl rfl hl.1 rfl (Nat.le_of_ble_eq_true rfl) dJx4a65c_add_72be8_7 ⟨(show 0 + 1 ≤ 1 by omega), (show 0 + 10 ≤ 10 by omega)⟩) (by omega) (by omega) (fun r L g H locs hw hP hD hS => ?_)
  obtain ⟨hf9, h_al, h_nd⟩ := hw
  have h_x := h_x.fr hf9 (by simp [hxA, hxD])
  have hfr := hfr.tr hf9
  refine lv_astore_n (lv' := [(2, .ref r), (0, .ref al), (1, .ref x), (3, .int 0)]) hx hb dJx4a65c_add_72be8_10 rfl hl (by decide) rfl (fun ls hl => ?_)
  refine lv_aload_n hx hb dJx4a65c_add_72be8_11 rfl (lv_at hl 0 rfl) ?_
  refine lv_iload_n hx hb dJx4a65c_add_72be8_12 rfl (lv_at hl 3 rfl) ?_
  refine lv_aload_n hx hb dJx4a65c_add_72be8_13 rfl (lv_at hl 2 rfl) ?_
  refine q_eq (pc := 14) (st := (.ref x :: .int (nI 0) :: .ref r :: [])) rfl ?_
  refine o_ast (X := 0) hx hb hK hP hD hS h_nd h_x hcx (hca _ hN) (by omega) (by omega) dJx4a65c_add_72be8_14 (fun g H locs h_nd hu hP hD hS => ?_)
  have h_x := h_x.up hu hxD
  have h_al := h_al.up hu hAD
  have hfr := hfr.up hu (by simp)
  refine lv_aload_n hx hb dJx4a65c_add_72be8_15 rfl (lv_at hl 1 rfl) ?_
  refine lv_iload_n hx hb dJx4a65c_add_72be8_16 rfl (lv_at hl 3 rfl) ?_
  refine lv_iconst (v := 1) hx hb dJx4a65c_add_72be8_17 (by decide) ?_
  refine lv_iadd hx hb dJx4a65c_add_72be8_18 ?_
  refine q_seti (y := 1) (by decide) ?_
  refine o_put (D := D) (ci := 0) (v := .int 1) (ty := .int) (C := RJx4a65c) (T := TJx4a65c) (N := 3) (fs1 := [.int mc, .ref r, .int 1]) hx hb hts inJx4a65c tyJx4a65c tyJx4a65c_ok nmJx4a65c hown hK hP hD hS h_al rfl 2 (by decide) (hts _ k_169) (fun _ h9 => h9) rfl (by decide +kernel) rfl rfl (Nat.le_of_ble_eq_true rfl) rfl dJx4a65c_add_72be8_19 (fun g H locs h_al hu hP hD hS => ?_)
  have h_x := h_x.up hu hxA
  have h_nd := h_nd.up hu (Ne.symm hAD)
  have hfr := hfr.up hu (by simp)
  exact o_rv hf hr hlocks hK hP hD hS (show 0 + 1 ≤ 1 by omega) (show 0 + 10 ≤ 10 by omega) ⟨_, hfr, h_al, h_nd⟩ dJx4a65c_add_72be8_22
set_option maxHeartbeats 1000000 in
set_option maxRecDepth 100000 in
theorem a_add3F (l : Launch) (D : va_G) (z : Nat → Nat) (cB cI_ cO : ClassId) (L0 : List Nat) (g0 : hG) (al tA tD : Nat) (mc : Int32) (tx x cx : Nat) (rx : vw_C) (fsx : List Value) (d cap : Nat) (f : Nat → Option Nat) (h_al : ho L0 g0 al tA (.inr (0, [.int mc, .ref d, .int (nI cap)]))) (h_d : ho L0 g0 d tD (.inl (cO, cap, .inr (.inr (.inr (.inr f)))))) (h_x : ho L0 g0 x tx (.inr (cx, fsx))) (hAD : tA ≠ tD) (hxA : tx ≠ tA) (hxD : tx ≠ tD) (hc10 : 10 ≤ cap) (hc9 : cap ≤ 60000) (hcx : vcl[cx]? = some rx) (hca : ∀ s : State, zB z s → va_Nw (.castable rx.1 "java/lang/Object") s) (hel : ∀ i, i < cap → ∀ y, f i = some y → ∃ fs, ho L0 g0 y tx (.inr (cx, fs))) : eV l D yJx4a65c_add_72be8 cJx4a65c_add_72be8 4 none 5 107 1 ((cap + cap / 2)) [.ref al, .ref x, .ref d, .int (nI cap)] z cB cI_ cO L0 g0 (fun L g => ∃ d1 : Nat, fr [tA, tD] L0 g0 L g ∧ ho L g al tA (.inr (0, [.int mc, .ref d1, .int (nI (cap + 1))])) ∧ ho L g d1 tD (.inl (cO, (cap + cap / 2), .inr (.inr (.inr (.inr (va_up (va_cpy f (fun _ => none) 0 0 cap) cap (some x)))))))) := by
  refine o_sv (by decide) (Nat.le_of_ble_eq_true rfl) ?_
  intro p e s m below meth c A ls hf hr hlocks hin hK hP hD hS hA hZ hN hl
  obtain ⟨hx, hb, hml, hown, hts⟩ := id hf
  have hl : lv_has ls 4 [(0, .ref al), (1, .ref x), (2, .ref d), (3, .int (nI cap))] := hl
  have hfr : fr [tA, tD] L0 g0 L0 g0 := fr.rf
  refine lv_iload_n hx hb dJx4a65c_add_72be8_0 rfl (lv_at hl 3 rfl) ?_
  refine lv_aload_n hx hb dJx4a65c_add_72be8_1 rfl (lv_at hl 2 rfl) ?_
  refine o_lenq hx hb hK hP h_d dJx4a65c_add_72be8_2 ?_
  refine lv_icmp_ne (tgt := 11) hx hb dJx4a65c_add_72be8_3 (by decide) (fun c_1 => ?_) (fun c_1 => ?_)
  · have c_1 := q_nen (a := cap) (b := cap) (by omega) (by omega) c_1
    exact False.elim (by omega)
  · have c_1 := q_eqn (a := cap) (b := cap) (by omega) (by omega) c_1
    refine lv_aload_n hx hb dJx4a65c_add_72be8_6 rfl (lv_at hl 0 rfl) ?_
    refine o_cr (k := 0 + 1) (n := 0 + ((cap + cap / 2))) hK hP hD hS hA (o_rV (As := []) (rest := []) hf (a_grw0O _ _ _ _ _ _ _ _ al tA tD mc d cap tx cx f rx h_al h_d hAD hc10 hc9 hcx hca hel _) k_619 k_616 k_618 k_17 k_89 (nA := 0) (by decide +kernel) ⟨Nat.le_of_ble_eq_true rfl, Nat.le_of_ble_eq_true rfl⟩ hK hP hD hS hA hZ hN h_al rfl rfl rfl hl.1 rfl (Nat.le_of_ble_eq_true rfl) dJx4a65c_add_72be8_7 ⟨(show 0 + 1 ≤ 1 by omega), (show 0 + ((cap + cap / 2)) ≤ (cap + cap / 2) by omega)⟩) (by omega) (by omega) (fun r L g H locs hw hP hD hS => ?_)
    obtain ⟨hf9, h_al, h_nd⟩ := hw
    have h_x := h_x.fr hf9 (by simp [hxA, hxD])
    have hfr := hfr.tr hf9
    refine lv_astore_n (lv' := [(2, .ref r), (0, .ref al), (1, .ref x), (3, .int (nI cap))]) hx hb dJx4a65c_add_72be8_10 rfl hl (by decide) rfl (fun ls hl => ?_)
    refine lv_aload_n hx hb dJx4a65c_add_72be8_11 rfl (lv_at hl 0 rfl) ?_
    refine lv_iload_n hx hb dJx4a65c_add_72be8_12 rfl (lv_at hl 3 rfl) ?_
    refine lv_aload_n hx hb dJx4a65c_add_72be8_13 rfl (lv_at hl 2 rfl) ?_
    refine o_ast (X := cap) hx hb hK hP hD hS h_nd h_x hcx (hca _ hN) (by omega) (by omega) dJx4a65c_add_72be8_14 (fun g H locs h_nd hu hP hD hS => ?_)
    have h_x := h_x.up hu hxD
    have h_al := h_al.up hu hAD
    have hfr := hfr.up hu (by simp)
    refine lv_aload_n hx hb dJx4a65c_add_72be8_15 rfl (lv_at hl 1 rfl) ?_
    refine lv_iload_n hx hb dJx4a65c_add_72be8_16 rfl (lv_at hl 3 rfl) ?_
    refine lv_iconst (v := 1) hx hb dJx4a65c_add_72be8_17 (by decide) ?_
    refine lv_iadd hx hb dJx4a65c_add_72be8_18 ?_
    refine q_seti (y := nI (cap + 1)) (nI_addE (a := cap) (b := 1) (by omega)) ?_
    refine o_put (D := D) (ci := 0) (v := .int (nI (cap + 1))) (ty := .int) (C := RJx4a65c) (T := TJx4a65c) (N := 3) (fs1 := [.int mc, .ref r, .int (nI (cap + 1))]) hx hb hts inJx4a65c tyJx4a65c tyJx4a65c_ok nmJx4a65c hown hK hP hD hS h_al rfl 2 (by decide) (hts _ k_169) (fun _ h9 => h9) rfl (by decide +kernel) rfl rfl (Nat.le_of_ble_eq_true rfl) rfl dJx4a65c_add_72be8_19 (fun g H locs h_al hu hP hD hS => ?_)
    have h_x := h_x.up hu hxA
    have h_nd := h_nd.up hu (Ne.symm hAD)
    have hfr := hfr.up hu (by simp)
    exact o_rv hf hr hlocks hK hP hD hS (show 0 + 1 ≤ 1 by omega) (show 0 + ((cap + cap / 2)) ≤ (cap + cap / 2) by omega) ⟨_, hfr, h_al, h_nd⟩ dJx4a65c_add_72be8_22
set_option maxHeartbeats 1000000 in
set_option maxRecDepth 100000 in
theorem a_add3N (l : Launch) (D : va_G) (z : Nat → Nat) (cB cI_ cO : ClassId) (L0 : List Nat) (g0 : hG) (al tA tD : Nat) (mc : Int32) (tx x cx : Nat) (rx : vw_C) (fsx : List Value) (d cap sz : Nat) (f : Nat → Option Nat) (h_al : ho L0 g0 al tA (.inr (0, [.int mc, .ref d, .int (nI sz)]))) (h_d : ho L0 g0 d tD (.inl (cO, cap, .inr (.inr (.inr (.inr f)))))) (h_x : ho L0 g0 x tx (.inr (cx, fsx))) (hAD : tA ≠ tD) (hxA : tx ≠ tA) (hxD : tx ≠ tD) (hsz : sz < cap) (hc9 : cap ≤ 60000) (hcx : vcl[cx]? = some rx) (hca : ∀ s : State, zB z s → va_Nw (.castable rx.1 "java/lang/Object") s) : eV l D yJx4a65c_add_72be8 cJx4a65c_add_72be8 4 none 5 107 0 0 [.ref al, .ref x, .ref d, .int (nI sz)] z cB cI_ cO L0 g0 (fun L g => ∃ d1 : Nat, fr [tA, tD] L0 g0 L g ∧ ho L g al tA (.inr (0, [.int mc, .ref d1, .int (nI (sz + 1))])) ∧ ho L g d1 tD (.inl (cO, cap, .inr (.inr (.inr (.inr (va_up f sz (some x)))))))) := by
  refine o_sv (by decide) (Nat.le_of_ble_eq_true rfl) ?_
  intro p e s m below meth c A ls hf hr hlocks hin hK hP hD hS hA hZ hN hl
  obtain ⟨hx, hb, hml, hown, hts⟩ := id hf
  have hl : lv_has ls 4 [(0, .ref al), (1, .ref x), (2, .ref d), (3, .int (nI sz))] := hl
  have hfr : fr [tA, tD] L0 g0 L0 g0 := fr.rf
  refine lv_iload_n hx hb dJx4a65c_add_72be8_0 rfl (lv_at hl 3 rfl) ?_
  refine lv_aload_n hx hb dJx4a65c_add_72be8_1 rfl (lv_at hl 2 rfl) ?_
  refine o_lenq hx hb hK hP h_d dJx4a65c_add_72be8_2 ?_
  refine lv_icmp_ne (tgt := 11) hx hb dJx4a65c_add_72be8_3 (by decide) (fun c_1 => ?_) (fun c_1 => ?_)
  · have c_1 := q_nen (a := sz) (b := cap) (by omega) (by omega) c_1
    refine lv_aload_n hx hb dJx4a65c_add_72be8_11 rfl (lv_at hl 2 rfl) ?_
    refine lv_iload_n hx hb dJx4a65c_add_72be8_12 rfl (lv_at hl 3 rfl) ?_
    refine lv_aload_n hx hb dJx4a65c_add_72be8_13 rfl (lv_at hl 1 rfl) ?_
    refine o_ast (X := sz) hx hb hK hP hD hS h_d h_x hcx (hca _ hN) (by omega) (by omega) dJx4a65c_add_72be8_14 (fun g H locs h_d hu hP hD hS => ?_)
    have h_al := h_al.up hu hAD
    have h_x := h_x.up hu hxD
    have hfr := hfr.up hu (by simp)
    refine lv_aload_n hx hb dJx4a65c_add_72be8_15 rfl (lv_at hl 0 rfl) ?_
    refine lv_iload_n hx hb dJx4a65c_add_72be8_16 rfl (lv_at hl 3 rfl) ?_
    refine lv_iconst (v := 1) hx hb dJx4a65c_add_72be8_17 (by decide) ?_
    refine lv_iadd hx hb dJx4a65c_add_72be8_18 ?_
    refine q_seti (y := nI (sz + 1)) (nI_addE (a := sz) (b := 1) (by omega)) ?_
    refine o_put (D := D) (ci := 0) (v := .int (nI (sz + 1))) (ty := .int) (C := RJx4a65c) (T := TJx4a65c) (N := 3) (fs1 := [.int mc, .ref d, .int (nI (sz + 1))]) hx hb hts inJx4a65c tyJx4a65c tyJx4a65c_ok nmJx4a65c hown hK hP hD hS h_al rfl 2 (by decide) (hts _ k_169) (fun _ h9 => h9) rfl (by decide +kernel) rfl rfl (Nat.le_of_ble_eq_true rfl) rfl dJx4a65c_add_72be8_19 (fun g H locs h_al hu hP hD hS => ?_)
    have h_d := h_d.up hu (Ne.symm hAD)
    have h_x := h_x.up hu hxA
    have hfr := hfr.up hu (by simp)
    exact o_rv hf hr hlocks hK hP hD hS (show 0 ≤ 0 by omega) (show 0 ≤ 0 by omega) ⟨_, hfr, h_al, h_d⟩ dJx4a65c_add_72be8_22
  · have c_1 := q_eqn (a := sz) (b := cap) (by omega) (by omega) c_1
    exact False.elim (by omega)
