abbrev I3 : Type := Int32 × Int32 × Int32
/-- the sheets of a group: rows, first piece, last piece -/
def sh_is (A : List I3) (f0 f1 f2 : Nat → Int32) : Prop := ∀ j, j < A.length → f0 j = (A.getD j (0, 0, 0)).1 ∧ f1 j = (A.getD j (0, 0, 0)).2.1 ∧ f2 j = (A.getD j (0, 0, 0)).2.2
def gcp (n M : Nat) : Nat := if n = M then 2 * M else M
theorem sh_add {A : List I3} {f0 f1 f2 g0 g1 g2 : Nat → Int32} {w : I3} (h : sh_is A f0 f1 f2) (h0 : ∀ j, j < A.length → g0 j = f0 j ∧ g1 j = f1 j ∧ g2 j = f2 j) : sh_is (A ++ [w]) (upd g0 A.length w.1) (upd g1 A.length w.2.1) (upd g2 A.length w.2.2) := by
  intro j hj
  rw [List.length_append] at hj
  have hj : j < A.length + 1 := hj
  by_cases e : j = A.length
  · rw [e, pk_us, pk_us, pk_us]
    simp
  · have e2 : (A ++ [w]).getD j (0, 0, 0) = A.getD j (0, 0, 0) := by
      simp only [List.getD_eq_getElem?_getD]
      rw [List.getElem?_append_left (by omega)]
    have h2 := h0 j (by omega)
    rw [pk_un e, pk_un e, pk_un e, e2, h2.1, h2.2.1, h2.2.2]
    exact h j (by omega)
theorem cpy_lt {f g : Nat → Int32} {n j : Nat} (h : j < n) : va_cpy f g 0 0 n j = f j := by
  unfold va_cpy
  rw [if_pos ⟨Nat.zero_le _, by omega⟩, Nat.zero_add]
  rfl
abbrev cJ7_copyOf_59c91 : ByteArray := prog_24_method_123_code
def yJ7_copyOf_59c91 : MethodName := ⟨RJ7, "copyOf", "([II)[I"⟩
abbrev cX2_addSheet : ByteArray := prog_4_method_13_code
def yX2_addSheet : MethodName := ⟨RX2, "addSheet", "(III)V"⟩
abbrev cX2_rowsOfPieces : ByteArray := prog_4_method_10_code
def yX2_rowsOfPieces : MethodName := ⟨RX2, "rowsOfPieces", "(I)I"⟩
theorem k_284 : (Cond.fieldLink RX2 50 "ScriptDesk$Piece" "from" "I") ∈ gT := gT_i 284 (by decide +kernel) rfl
theorem k_288 : (Cond.fieldLink RX2 70 "ScriptDesk$Piece" "to" "I") ∈ gT := gT_i 288 (by decide +kernel) rfl
theorem k_388 : (Cond.fieldLink RX2 21 "ScriptDesk$GroupLayout" "standing" "LScriptDesk$PieceRow;") ∈ gT := gT_i 388 (by decide +kernel) rfl
theorem k_390 : (Cond.fieldLink RX2 9 "ScriptDesk$GroupLayout" "rows" "[I") ∈ gT := gT_i 390 (by decide +kernel) rfl
theorem k_391 : (Cond.fieldLink RX2 15 "ScriptDesk$GroupLayout" "first" "[I") ∈ gT := gT_i 391 (by decide +kernel) rfl
theorem k_392 : (Cond.fieldLink RX2 18 "ScriptDesk$GroupLayout" "last" "[I") ∈ gT := gT_i 392 (by decide +kernel) rfl
theorem k_393 : (Cond.fieldLink RX2 29 "ScriptDesk$GroupLayout" "sheetCount" "I") ∈ gT := gT_i 393 (by decide +kernel) rfl
theorem k_958 : (Cond.methodLink RX2 114 yJ7_copyOf_59c91) ∈ gT := gT_i 958 (by decide +kernel) rfl
theorem k_959 : (Cond.static yJ7_copyOf_59c91) ∈ gT := gT_i 959 (by decide +kernel) rfl
theorem k_960 : (Cond.code yJ7_copyOf_59c91 cJ7_copyOf_59c91 3 (some (.array .int))) ∈ gT := gT_i 960 (by decide +kernel) rfl
theorem k_968 : (Cond.methodLink RX2 46 yX6_at) ∈ gT := gT_i 968 (by decide +kernel) rfl
theorem dJ7_copyOf_59c91_0 : decode cJ7_copyOf_59c91 0 = .ok (.iload_n 1, 1) := by decide +kernel
theorem dJ7_copyOf_59c91_1 : decode cJ7_copyOf_59c91 1 = .ok (.aload_n 0, 1) := by decide +kernel
theorem dJ7_copyOf_59c91_2 : decode cJ7_copyOf_59c91 2 = .ok (.arraylength, 1) := by decide +kernel
theorem dJ7_copyOf_59c91_3 : decode cJ7_copyOf_59c91 3 = .ok (.if_icmp .ne 11, 3) := by decide +kernel
theorem dJ7_copyOf_59c91_14 : decode cJ7_copyOf_59c91 14 = .ok (.iload_n 1, 1) := by decide +kernel
theorem dJ7_copyOf_59c91_15 : decode cJ7_copyOf_59c91 15 = .ok (.newarray .int, 2) := by decide +kernel
theorem dJ7_copyOf_59c91_17 : decode cJ7_copyOf_59c91 17 = .ok (.astore_n 2, 1) := by decide +kernel
theorem dJ7_copyOf_59c91_18 : decode cJ7_copyOf_59c91 18 = .ok (.aload_n 0, 1) := by decide +kernel
theorem dJ7_copyOf_59c91_19 : decode cJ7_copyOf_59c91 19 = .ok (.iconst 0, 1) := by decide +kernel
theorem dJ7_copyOf_59c91_20 : decode cJ7_copyOf_59c91 20 = .ok (.aload_n 2, 1) := by decide +kernel
theorem dJ7_copyOf_59c91_21 : decode cJ7_copyOf_59c91 21 = .ok (.iconst 0, 1) := by decide +kernel
theorem dJ7_copyOf_59c91_22 : decode cJ7_copyOf_59c91 22 = .ok (.aload_n 0, 1) := by decide +kernel
theorem dJ7_copyOf_59c91_23 : decode cJ7_copyOf_59c91 23 = .ok (.arraylength, 1) := by decide +kernel
theorem dJ7_copyOf_59c91_24 : decode cJ7_copyOf_59c91 24 = .ok (.iload_n 1, 1) := by decide +kernel
theorem dJ7_copyOf_59c91_25 : decode cJ7_copyOf_59c91 25 = .ok (.invokestatic 304, 3) := by decide +kernel
theorem dJ7_copyOf_59c91_28 : decode cJ7_copyOf_59c91 28 = .ok (.invokestatic 150, 3) := by decide +kernel
theorem dJ7_copyOf_59c91_31 : decode cJ7_copyOf_59c91 31 = .ok (.aload_n 2, 1) := by decide +kernel
theorem dJ7_copyOf_59c91_32 : decode cJ7_copyOf_59c91 32 = .ok (.areturn, 1) := by decide +kernel
theorem dX2_addSheet_0 : decode cX2_addSheet 0 = .ok (.aload_n 0, 1) := by decide +kernel
theorem dX2_addSheet_1 : decode cX2_addSheet 1 = .ok (.getfield 29, 3) := by decide +kernel
theorem dX2_addSheet_4 : decode cX2_addSheet 4 = .ok (.aload_n 0, 1) := by decide +kernel
theorem dX2_addSheet_5 : decode cX2_addSheet 5 = .ok (.getfield 9, 3) := by decide +kernel
theorem dX2_addSheet_8 : decode cX2_addSheet 8 = .ok (.arraylength, 1) := by decide +kernel
theorem dX2_addSheet_9 : decode cX2_addSheet 9 = .ok (.if_icmp .lt 54, 3) := by decide +kernel
theorem dX2_addSheet_63 : decode cX2_addSheet 63 = .ok (.aload_n 0, 1) := by decide +kernel
theorem dX2_addSheet_64 : decode cX2_addSheet 64 = .ok (.getfield 29, 3) := by decide +kernel
theorem dX2_addSheet_67 : decode cX2_addSheet 67 = .ok (.aload_n 0, 1) := by decide +kernel
theorem dX2_addSheet_68 : decode cX2_addSheet 68 = .ok (.getfield 9, 3) := by decide +kernel
theorem dX2_addSheet_71 : decode cX2_addSheet 71 = .ok (.arraylength, 1) := by decide +kernel
theorem dX2_addSheet_72 : decode cX2_addSheet 72 = .ok (.if_icmp .ge 43, 3) := by decide +kernel
theorem dX2_addSheet_75 : decode cX2_addSheet 75 = .ok (.aload_n 0, 1) := by decide +kernel
theorem dX2_addSheet_76 : decode cX2_addSheet 76 = .ok (.getfield 9, 3) := by decide +kernel
theorem dX2_addSheet_79 : decode cX2_addSheet 79 = .ok (.aload_n 0, 1) := by decide +kernel
theorem dX2_addSheet_80 : decode cX2_addSheet 80 = .ok (.getfield 29, 3) := by decide +kernel
theorem dX2_addSheet_83 : decode cX2_addSheet 83 = .ok (.iload_n 1, 1) := by decide +kernel
theorem dX2_addSheet_84 : decode cX2_addSheet 84 = .ok (.iastore, 1) := by decide +kernel
theorem dX2_addSheet_85 : decode cX2_addSheet 85 = .ok (.aload_n 0, 1) := by decide +kernel
theorem dX2_addSheet_86 : decode cX2_addSheet 86 = .ok (.getfield 15, 3) := by decide +kernel
theorem dX2_addSheet_89 : decode cX2_addSheet 89 = .ok (.aload_n 0, 1) := by decide +kernel
theorem dX2_addSheet_90 : decode cX2_addSheet 90 = .ok (.getfield 29, 3) := by decide +kernel
theorem dX2_addSheet_93 : decode cX2_addSheet 93 = .ok (.iload_n 2, 1) := by decide +kernel
theorem dX2_addSheet_94 : decode cX2_addSheet 94 = .ok (.iastore, 1) := by decide +kernel
theorem dX2_addSheet_95 : decode cX2_addSheet 95 = .ok (.aload_n 0, 1) := by decide +kernel
theorem dX2_addSheet_96 : decode cX2_addSheet 96 = .ok (.getfield 18, 3) := by decide +kernel
theorem dX2_addSheet_99 : decode cX2_addSheet 99 = .ok (.aload_n 0, 1) := by decide +kernel
theorem dX2_addSheet_100 : decode cX2_addSheet 100 = .ok (.getfield 29, 3) := by decide +kernel
theorem dX2_addSheet_103 : decode cX2_addSheet 103 = .ok (.iload_n 3, 1) := by decide +kernel
theorem dX2_addSheet_104 : decode cX2_addSheet 104 = .ok (.iastore, 1) := by decide +kernel
theorem dX2_addSheet_105 : decode cX2_addSheet 105 = .ok (.aload_n 0, 1) := by decide +kernel
theorem dX2_addSheet_106 : decode cX2_addSheet 106 = .ok (.dup, 1) := by decide +kernel
theorem dX2_addSheet_107 : decode cX2_addSheet 107 = .ok (.getfield 29, 3) := by decide +kernel
theorem dX2_addSheet_110 : decode cX2_addSheet 110 = .ok (.iconst 1, 1) := by decide +kernel
theorem dX2_addSheet_111 : decode cX2_addSheet 111 = .ok (.iadd, 1) := by decide +kernel
theorem dX2_addSheet_112 : decode cX2_addSheet 112 = .ok (.putfield 29, 3) := by decide +kernel
theorem dX2_addSheet_115 : decode cX2_addSheet 115 = .ok (.return_, 1) := by decide +kernel
theorem dX2_addSheet_12 : decode cX2_addSheet 12 = .ok (.aload_n 0, 1) := by decide +kernel
theorem dX2_addSheet_13 : decode cX2_addSheet 13 = .ok (.aload_n 0, 1) := by decide +kernel
theorem dX2_addSheet_14 : decode cX2_addSheet 14 = .ok (.getfield 9, 3) := by decide +kernel
theorem dX2_addSheet_17 : decode cX2_addSheet 17 = .ok (.iconst 2, 1) := by decide +kernel
theorem dX2_addSheet_18 : decode cX2_addSheet 18 = .ok (.aload_n 0, 1) := by decide +kernel
theorem dX2_addSheet_19 : decode cX2_addSheet 19 = .ok (.getfield 29, 3) := by decide +kernel
theorem dX2_addSheet_22 : decode cX2_addSheet 22 = .ok (.imul, 1) := by decide +kernel
theorem dX2_addSheet_23 : decode cX2_addSheet 23 = .ok (.invokestatic 114, 3) := by decide +kernel
theorem dX2_addSheet_26 : decode cX2_addSheet 26 = .ok (.putfield 9, 3) := by decide +kernel
theorem dX2_addSheet_29 : decode cX2_addSheet 29 = .ok (.aload_n 0, 1) := by decide +kernel
theorem dX2_addSheet_30 : decode cX2_addSheet 30 = .ok (.aload_n 0, 1) := by decide +kernel
theorem dX2_addSheet_31 : decode cX2_addSheet 31 = .ok (.getfield 15, 3) := by decide +kernel
theorem dX2_addSheet_34 : decode cX2_addSheet 34 = .ok (.iconst 2, 1) := by decide +kernel
theorem dX2_addSheet_35 : decode cX2_addSheet 35 = .ok (.aload_n 0, 1) := by decide +kernel
theorem dX2_addSheet_36 : decode cX2_addSheet 36 = .ok (.getfield 29, 3) := by decide +kernel
theorem dX2_addSheet_39 : decode cX2_addSheet 39 = .ok (.imul, 1) := by decide +kernel
theorem dX2_addSheet_40 : decode cX2_addSheet 40 = .ok (.invokestatic 114, 3) := by decide +kernel
theorem dX2_addSheet_43 : decode cX2_addSheet 43 = .ok (.putfield 15, 3) := by decide +kernel
theorem dX2_addSheet_46 : decode cX2_addSheet 46 = .ok (.aload_n 0, 1) := by decide +kernel
theorem dX2_addSheet_47 : decode cX2_addSheet 47 = .ok (.aload_n 0, 1) := by decide +kernel
theorem dX2_addSheet_48 : decode cX2_addSheet 48 = .ok (.getfield 18, 3) := by decide +kernel
theorem dX2_addSheet_51 : decode cX2_addSheet 51 = .ok (.iconst 2, 1) := by decide +kernel
theorem dX2_addSheet_52 : decode cX2_addSheet 52 = .ok (.aload_n 0, 1) := by decide +kernel
theorem dX2_addSheet_53 : decode cX2_addSheet 53 = .ok (.getfield 29, 3) := by decide +kernel
theorem dX2_addSheet_56 : decode cX2_addSheet 56 = .ok (.imul, 1) := by decide +kernel
theorem dX2_addSheet_57 : decode cX2_addSheet 57 = .ok (.invokestatic 114, 3) := by decide +kernel
theorem dX2_addSheet_60 : decode cX2_addSheet 60 = .ok (.putfield 18, 3) := by decide +kernel
theorem dX2_rowsOfPieces_4 : decode cX2_rowsOfPieces 4 = .ok (.iload_n 3, 1) := by decide +kernel
theorem dX2_rowsOfPieces_5 : decode cX2_rowsOfPieces 5 = .ok (.aload_n 0, 1) := by decide +kernel
theorem dX2_rowsOfPieces_6 : decode cX2_rowsOfPieces 6 = .ok (.getfield 39, 3) := by decide +kernel
theorem dX2_rowsOfPieces_9 : decode cX2_rowsOfPieces 9 = .ok (.if_icmp .ge 35, 3) := by decide +kernel
theorem dX2_rowsOfPieces_12 : decode cX2_rowsOfPieces 12 = .ok (.iload_n 2, 1) := by decide +kernel
theorem dX2_rowsOfPieces_13 : decode cX2_rowsOfPieces 13 = .ok (.aload_n 0, 1) := by decide +kernel
theorem dX2_rowsOfPieces_14 : decode cX2_rowsOfPieces 14 = .ok (.getfield 21, 3) := by decide +kernel
theorem dX2_rowsOfPieces_17 : decode cX2_rowsOfPieces 17 = .ok (.iload_n 3, 1) := by decide +kernel
theorem dX2_rowsOfPieces_18 : decode cX2_rowsOfPieces 18 = .ok (.invokevirtual 46, 3) := by decide +kernel
theorem dX2_rowsOfPieces_21 : decode cX2_rowsOfPieces 21 = .ok (.getfield 70, 3) := by decide +kernel
theorem dX2_rowsOfPieces_24 : decode cX2_rowsOfPieces 24 = .ok (.aload_n 0, 1) := by decide +kernel
theorem dX2_rowsOfPieces_25 : decode cX2_rowsOfPieces 25 = .ok (.getfield 21, 3) := by decide +kernel
theorem dX2_rowsOfPieces_28 : decode cX2_rowsOfPieces 28 = .ok (.iload_n 3, 1) := by decide +kernel
theorem dX2_rowsOfPieces_29 : decode cX2_rowsOfPieces 29 = .ok (.invokevirtual 46, 3) := by decide +kernel
theorem dX2_rowsOfPieces_32 : decode cX2_rowsOfPieces 32 = .ok (.getfield 50, 3) := by decide +kernel
theorem dX2_rowsOfPieces_35 : decode cX2_rowsOfPieces 35 = .ok (.isub, 1) := by decide +kernel
theorem dX2_rowsOfPieces_36 : decode cX2_rowsOfPieces 36 = .ok (.iadd, 1) := by decide +kernel
theorem dX2_rowsOfPieces_37 : decode cX2_rowsOfPieces 37 = .ok (.istore_n 2, 1) := by decide +kernel
theorem dX2_rowsOfPieces_38 : decode cX2_rowsOfPieces 38 = .ok (.iinc 3 1, 3) := by decide +kernel
theorem dX2_rowsOfPieces_41 : decode cX2_rowsOfPieces 41 = .ok (.goto (-37), 3) := by decide +kernel
theorem dX2_rowsOfPieces_0 : decode cX2_rowsOfPieces 0 = .ok (.iconst 0, 1) := by decide +kernel
theorem dX2_rowsOfPieces_1 : decode cX2_rowsOfPieces 1 = .ok (.istore_n 2, 1) := by decide +kernel
theorem dX2_rowsOfPieces_2 : decode cX2_rowsOfPieces 2 = .ok (.iload_n 1, 1) := by decide +kernel
theorem dX2_rowsOfPieces_3 : decode cX2_rowsOfPieces 3 = .ok (.istore_n 3, 1) := by decide +kernel
theorem dX2_rowsOfPieces_44 : decode cX2_rowsOfPieces 44 = .ok (.iload_n 2, 1) := by decide +kernel
theorem dX2_rowsOfPieces_45 : decode cX2_rowsOfPieces 45 = .ok (.ireturn, 1) := by decide +kernel
set_option maxHeartbeats 1000000 in
set_option maxRecDepth 100000 in
theorem a_cpyi (l : Launch) (D : va_G) (z : Nat → Nat) (cB cI_ cO : ClassId) (L0 : List Nat) (g0 : hG) (d cap nc tD : Nat) (f : Nat → Int32) (h_d : ho L0 g0 d tD (.inl (cI_, cap, .inl f))) (hc : cap < nc) (hnc : nc ≤ 100000) : eR l D yJ7_copyOf_59c91 cJ7_copyOf_59c91 3 (some (.array .int)) 1 20 1 nc [.ref d, .int (nI nc)] z cB cI_ cO L0 g0 (fun r L g => fra [] L0 g0 L g ∧ ho L g r tD (.inl (cI_, nc, .inl (va_cpy f (fun _ => 0) 0 0 cap)))) := by
  refine o_sr (by decide) (Nat.le_of_ble_eq_true rfl) ?_
  intro p e s m below meth c A ls hf hr hlocks hin hK hP hD hS hA hZ hN hl
  obtain ⟨hx, hb, hml, hown, hts⟩ := id hf
  have hl : lv_has ls 3 [(0, .ref d), (1, .int (nI nc))] := hl
  have h_d0 := h_d
  have hfa : fra [] L0 g0 L0 g0 := fra.rf
  refine lv_iload_n hx hb dJ7_copyOf_59c91_0 rfl (lv_at hl 1 rfl) ?_
  refine lv_aload_n hx hb dJ7_copyOf_59c91_1 rfl (lv_at hl 0 rfl) ?_
  refine o_leni hx hb hK hP h_d dJ7_copyOf_59c91_2 ?_
  refine lv_icmp_ne (tgt := 14) hx hb dJ7_copyOf_59c91_3 (by decide) (fun c_1 => ?_) (fun c_1 => ?_)
  · have c_1 := q_nen (a := nc) (b := cap) (by omega) (by omega) c_1
    refine lv_iload_n hx hb dJ7_copyOf_59c91_14 rfl (lv_at hl 1 rfl) ?_
    refine o_newi (n := nc) hx hb tD (hts (.arrayClass .int) k_261) hK hP hD hS hA (by omega) (show 0 + 1 ≤ 1 by omega) (show 0 + nc ≤ nc by omega) dJ7_copyOf_59c91_15 (fun q_nd L g H h_nd hnw hP hD hS => ?_)
    have h_d := h_d.nw hnw
    have hq_q_nd := hfa.nin hnw
    have hfa := hfa.nw hnw
    refine lv_astore_n (lv' := [(2, .ref q_nd), (0, .ref d), (1, .int (nI nc))]) hx hb dJ7_copyOf_59c91_17 rfl hl (by decide) rfl (fun ls hl => ?_)
    refine lv_aload_n hx hb dJ7_copyOf_59c91_18 rfl (lv_at hl 1 rfl) ?_
    refine lv_iconst (v := 0) hx hb dJ7_copyOf_59c91_19 (by decide) ?_
    refine lv_aload_n hx hb dJ7_copyOf_59c91_20 rfl (lv_at hl 0 rfl) ?_
    refine lv_iconst (v := 0) hx hb dJ7_copyOf_59c91_21 (by decide) ?_
    refine lv_aload_n hx hb dJ7_copyOf_59c91_22 rfl (lv_at hl 1 rfl) ?_
    refine o_leni hx hb hK hP h_d dJ7_copyOf_59c91_23 ?_
    refine lv_iload_n hx hb dJ7_copyOf_59c91_24 rfl (lv_at hl 2 rfl) ?_
    refine va_mmin hx hb (by rw [hml]; exact hl.1.symm) hown (hts _ k_657) (hts _ k_221) (hts _ k_91) (hts _ k_222) (Nat.le_of_ble_eq_true rfl) (Nat.le_of_ble_eq_true rfl) (show 0 + 1 ≤ 1 by omega) (show 0 + nc ≤ nc by omega) dJ7_copyOf_59c91_25 ?_
    refine q_seti (y := nI cap) (q_minE (a := cap) (b := nc) (by omega) (by omega) (by omega)) ?_
    refine q_eq (pc := 28) (st := (.int (nI cap) :: .int (nI 0) :: .ref q_nd :: .int (nI 0) :: .ref d :: [])) rfl ?_
    refine o_cpyi (sp := 0) (dp := 0) (n := cap) hx hb (by rw [hml]; exact hl.1.symm) hown (hts _ k_658) (hts _ k_660) (hts _ k_659) (hts _ k_105) hK hP hD hS h_d h_nd (by omega) (by omega) (by omega) (by omega) (Nat.le_of_ble_eq_true rfl) (Nat.le_of_ble_eq_true rfl) dJ7_copyOf_59c91_28 (fun g H locs h_nd hu hP hD hS => ?_)
    have h_d := h_d.un hu (fun z9 => hq_q_nd (z9 ▸ h_d0.1))
    have hfa := hfa.up hu (Or.inr hq_q_nd)
    refine lv_aload_n hx hb dJ7_copyOf_59c91_31 rfl (lv_at hl 0 rfl) ?_
    exact o_rr hf hr (Or.inr ⟨_, rfl⟩) hlocks hK hP hD hS (show 0 + 1 ≤ 1 by omega) (show 0 + nc ≤ nc by omega) ⟨hfa, h_nd⟩ dJ7_copyOf_59c91_32
  · have c_1 := q_eqn (a := nc) (b := cap) (by omega) (by omega) c_1
    exact False.elim (by omega)
set_option maxHeartbeats 1000000 in
set_option maxRecDepth 100000 in
theorem gl_addA (l : Launch) (D : va_G) (z : Nat → Nat) (cB cI_ cO : ClassId) (L0 : List Nat) (g0 : hG) (pr gl lf ra fa la en : Nat) (v7 v8 v9 : Int32) (M : Nat) (f0 f1 f2 : Nat → Int32) (Sh : List I3) (w1 w2 w3 : Int32) (h_gl : ho L0 g0 gl 25 (.inr (3, [.ref pr, .ref lf, .ref ra, .ref fa, .ref la, .int (nI (Sh.length)), .int (nI en), .int v7, .int v8, .int v9]))) (h_ra : ho L0 g0 ra 26 (.inl (cI_, M, .inl f0))) (h_fa : ho L0 g0 fa 27 (.inl (cI_, M, .inl f1))) (h_la : ho L0 g0 la 28 (.inl (cI_, M, .inl f2))) (hsh : sh_is Sh f0 f1 f2) (hM : M ≤ 30000) (hM1 : 1 ≤ M) (hll : Sh.length < M) : eV l D yX2_addSheet cX2_addSheet 4 none 4 80 (3 * (gcp Sh.length M - M)) (6 * (gcp Sh.length M - M)) [.ref gl, .int w1, .int w2, .int w3] z cB cI_ cO L0 g0 (fun L g => ∃ (r2 a2 l2 : Nat) (k0 k1 k2 : Nat → Int32), sh_is (Sh ++ [(w1, w2, w3)]) k0 k1 k2 ∧ fr [25, 26, 27, 28] L0 g0 L g ∧ ho L g gl 25 (.inr (3, [.ref pr, .ref lf, .ref r2, .ref a2, .ref l2, .int (nI ((Sh.length + 1))), .int (nI en), .int v7, .int v8, .int v9])) ∧ ho L g r2 26 (.inl (cI_, (gcp Sh.length M), .inl k0)) ∧ ho L g a2 27 (.inl (cI_, (gcp Sh.length M), .inl k1)) ∧ ho L g l2 28 (.inl (cI_, (gcp Sh.length M), .inl k2))) := by
  refine o_sv (by decide) (Nat.le_of_ble_eq_true rfl) ?_
  intro p e s m below meth c A ls hf hr hlocks hin hK hP hD hS hA hZ hN hl
  obtain ⟨hx, hb, hml, hown, hts⟩ := id hf
  have hl : lv_has ls 4 [(0, .ref gl), (1, .int w1), (2, .int w2), (3, .int w3)] := hl
  have hfr : fr [25, 26, 27, 28] L0 g0 L0 g0 := fr.rf
  refine lv_aload_n hx hb dX2_addSheet_0 rfl (lv_at hl 0 rfl) ?_
  refine o_get (D := D) (ci := 3) (v := .int (nI (Sh.length))) (C := RX2) (T := TX2) (N := 10) hx hb hts inX2 hown hK hP h_gl rfl 5 (by decide) (hts _ k_393) (fun _ h9 => h9) rfl dX2_addSheet_1 ?_
  refine lv_aload_n hx hb dX2_addSheet_4 rfl (lv_at hl 0 rfl) ?_
  refine o_get (D := D) (ci := 3) (v := .ref ra) (C := RX2) (T := TX2) (N := 10) hx hb hts inX2 hown hK hP h_gl rfl 2 (by decide) (hts _ k_390) (fun _ h9 => h9) rfl dX2_addSheet_5 ?_
  refine o_leni hx hb hK hP h_ra dX2_addSheet_8 ?_
  refine lv_icmp_lt (tgt := 63) hx hb dX2_addSheet_9 (by decide) (fun c_1 => ?_) (fun c_1 => ?_)
  · have c_1 := q_lt (a := Sh.length) (b := M) (by omega) (by omega) c_1
    refine lv_aload_n hx hb dX2_addSheet_63 rfl (lv_at hl 0 rfl) ?_
    refine o_get (D := D) (ci := 3) (v := .int (nI (Sh.length))) (C := RX2) (T := TX2) (N := 10) hx hb hts inX2 hown hK hP h_gl rfl 5 (by decide) (hts _ k_393) (fun _ h9 => h9) rfl dX2_addSheet_64 ?_
    refine lv_aload_n hx hb dX2_addSheet_67 rfl (lv_at hl 0 rfl) ?_
    refine o_get (D := D) (ci := 3) (v := .ref ra) (C := RX2) (T := TX2) (N := 10) hx hb hts inX2 hown hK hP h_gl rfl 2 (by decide) (hts _ k_390) (fun _ h9 => h9) rfl dX2_addSheet_68 ?_
    refine o_leni hx hb hK hP h_ra dX2_addSheet_71 ?_
    refine lv_icmp_ge (tgt := 115) hx hb dX2_addSheet_72 (by decide) (fun c_2 => ?_) (fun c_2 => ?_)
    · have c_2 := q_le (a := M) (b := Sh.length) (by omega) (by omega) c_2
      exact False.elim (by omega)
    · have c_2 := q_nle (a := M) (b := Sh.length) (by omega) (by omega) c_2
      refine lv_aload_n hx hb dX2_addSheet_75 rfl (lv_at hl 0 rfl) ?_
      refine o_get (D := D) (ci := 3) (v := .ref ra) (C := RX2) (T := TX2) (N := 10) hx hb hts inX2 hown hK hP h_gl rfl 2 (by decide) (hts _ k_390) (fun _ h9 => h9) rfl dX2_addSheet_76 ?_
      refine lv_aload_n hx hb dX2_addSheet_79 rfl (lv_at hl 0 rfl) ?_
      refine o_get (D := D) (ci := 3) (v := .int (nI (Sh.length))) (C := RX2) (T := TX2) (N := 10) hx hb hts inX2 hown hK hP h_gl rfl 5 (by decide) (hts _ k_393) (fun _ h9 => h9) rfl dX2_addSheet_80 ?_
      refine lv_iload_n hx hb dX2_addSheet_83 rfl (lv_at hl 1 rfl) ?_
      refine o_ist (X := Sh.length) (x := w1) hx hb hK hP hD hS h_ra (by omega) (by omega) dX2_addSheet_84 (fun g H locs h_ra hu hP hD hS => ?_)
      have h_gl := h_gl.up hu (by decide)
      have h_fa := h_fa.up hu (by decide)
      have h_la := h_la.up hu (by decide)
      have hfr := hfr.up hu (by decide)
      refine lv_aload_n hx hb dX2_addSheet_85 rfl (lv_at hl 0 rfl) ?_
      refine o_get (D := D) (ci := 3) (v := .ref fa) (C := RX2) (T := TX2) (N := 10) hx hb hts inX2 hown hK hP h_gl rfl 3 (by decide) (hts _ k_391) (fun _ h9 => h9) rfl dX2_addSheet_86 ?_
      refine lv_aload_n hx hb dX2_addSheet_89 rfl (lv_at hl 0 rfl) ?_
      refine o_get (D := D) (ci := 3) (v := .int (nI (Sh.length))) (C := RX2) (T := TX2) (N := 10) hx hb hts inX2 hown hK hP h_gl rfl 5 (by decide) (hts _ k_393) (fun _ h9 => h9) rfl dX2_addSheet_90 ?_
      refine lv_iload_n hx hb dX2_addSheet_93 rfl (lv_at hl 2 rfl) ?_
      refine o_ist (X := Sh.length) (x := w2) hx hb hK hP hD hS h_fa (by omega) (by omega) dX2_addSheet_94 (fun g H locs h_fa hu hP hD hS => ?_)
      have h_gl := h_gl.up hu (by decide)
      have h_ra := h_ra.up hu (by decide)
      have h_la := h_la.up hu (by decide)
      have hfr := hfr.up hu (by decide)
      refine lv_aload_n hx hb dX2_addSheet_95 rfl (lv_at hl 0 rfl) ?_
      refine o_get (D := D) (ci := 3) (v := .ref la) (C := RX2) (T := TX2) (N := 10) hx hb hts inX2 hown hK hP h_gl rfl 4 (by decide) (hts _ k_392) (fun _ h9 => h9) rfl dX2_addSheet_96 ?_
      refine lv_aload_n hx hb dX2_addSheet_99 rfl (lv_at hl 0 rfl) ?_
      refine o_get (D := D) (ci := 3) (v := .int (nI (Sh.length))) (C := RX2) (T := TX2) (N := 10) hx hb hts inX2 hown hK hP h_gl rfl 5 (by decide) (hts _ k_393) (fun _ h9 => h9) rfl dX2_addSheet_100 ?_
      refine lv_iload_n hx hb dX2_addSheet_103 rfl (lv_at hl 3 rfl) ?_
      refine o_ist (X := Sh.length) (x := w3) hx hb hK hP hD hS h_la (by omega) (by omega) dX2_addSheet_104 (fun g H locs h_la hu hP hD hS => ?_)
      have h_gl := h_gl.up hu (by decide)
      have h_ra := h_ra.up hu (by decide)
      have h_fa := h_fa.up hu (by decide)
      have hfr := hfr.up hu (by decide)
      refine lv_aload_n hx hb dX2_addSheet_105 rfl (lv_at hl 0 rfl) ?_
      refine lv_dup hx hb dX2_addSheet_106 rfl ?_
      refine o_get (D := D) (ci := 3) (v := .int (nI (Sh.length))) (C := RX2) (T := TX2) (N := 10) hx hb hts inX2 hown hK hP h_gl rfl 5 (by decide) (hts _ k_393) (fun _ h9 => h9) rfl dX2_addSheet_107 ?_
      refine lv_iconst (v := 1) hx hb dX2_addSheet_110 (by decide) ?_
      refine lv_iadd hx hb dX2_addSheet_111 ?_
      refine q_seti (y := nI (Sh.length + 1)) (nI_addE (a := Sh.length) (b := 1) (by omega)) ?_
      refine o_put (D := D) (ci := 3) (v := .int (nI (Sh.length + 1))) (ty := .int) (C := RX2) (T := TX2) (N := 10) (fs1 := [.ref pr, .ref lf, .ref ra, .ref fa, .ref la, .int (nI (Sh.length + 1)), .int (nI en), .int v7, .int v8, .int v9]) hx hb hts inX2 tyX2 tyX2_ok nmX2 hown hK hP hD hS h_gl rfl 5 (by decide) (hts _ k_393) (fun _ h9 => h9) rfl (by decide +kernel) rfl rfl (Nat.le_of_ble_eq_true rfl) rfl dX2_addSheet_112 (fun g H locs h_gl hu hP hD hS => ?_)
      have h_ra := h_ra.up hu (by decide)
      have h_fa := h_fa.up hu (by decide)
      have h_la := h_la.up hu (by decide)
      have hfr := hfr.up hu (by decide)
      have eg : gcp Sh.length M = M := if_neg (by omega)
      exact o_rv hf hr hlocks hK hP hD hS (show 0 ≤ 3 * (gcp Sh.length M - M) by omega) (show 0 ≤ 6 * (gcp Sh.length M - M) by omega) ⟨ra, fa, la, _, _, _, sh_add (w := (w1, w2, w3)) hsh (fun _ _ => ⟨rfl, rfl, rfl⟩), hfr, h_gl, (by rw [eg]; exact h_ra), (by rw [eg]; exact h_fa), (by rw [eg]; exact h_la)⟩ dX2_addSheet_115
  · have c_1 := q_nlt (a := Sh.length) (b := M) (by omega) (by omega) c_1
    exact False.elim (by omega)
set_option maxHeartbeats 1000000 in
set_option maxRecDepth 100000 in
theorem gl_addB (l : Launch) (D : va_G) (z : Nat → Nat) (cB cI_ cO : ClassId) (L0 : List Nat) (g0 : hG) (pr gl lf ra fa la en : Nat) (v7 v8 v9 : Int32) (M : Nat) (f0 f1 f2 : Nat → Int32) (Sh : List I3) (w1 w2 w3 : Int32) (h_gl : ho L0 g0 gl 25 (.inr (3, [.ref pr, .ref lf, .ref ra, .ref fa, .ref la, .int (nI (Sh.length)), .int (nI en), .int v7, .int v8, .int v9]))) (h_ra : ho L0 g0 ra 26 (.inl (cI_, M, .inl f0))) (h_fa : ho L0 g0 fa 27 (.inl (cI_, M, .inl f1))) (h_la : ho L0 g0 la 28 (.inl (cI_, M, .inl f2))) (hsh : sh_is Sh f0 f1 f2) (hM : M ≤ 30000) (hM1 : 1 ≤ M) (hll : Sh.length = M) : eV l D yX2_addSheet cX2_addSheet 4 none 4 80 (3 * (gcp Sh.length M - M)) (6 * (gcp Sh.length M - M)) [.ref gl, .int w1, .int w2, .int w3] z cB cI_ cO L0 g0 (fun L g => ∃ (r2 a2 l2 : Nat) (k0 k1 k2 : Nat → Int32), sh_is (Sh ++ [(w1, w2, w3)]) k0 k1 k2 ∧ fr [25, 26, 27, 28] L0 g0 L g ∧ ho L g gl 25 (.inr (3, [.ref pr, .ref lf, .ref r2, .ref a2, .ref l2, .int (nI ((Sh.length + 1))), .int (nI en), .int v7, .int v8, .int v9])) ∧ ho L g r2 26 (.inl (cI_, (gcp Sh.length M), .inl k0)) ∧ ho L g a2 27 (.inl (cI_, (gcp Sh.length M), .inl k1)) ∧ ho L g l2 28 (.inl (cI_, (gcp Sh.length M), .inl k2))) := by
  refine o_sv (by decide) (Nat.le_of_ble_eq_true rfl) ?_
  intro p e s m below meth c A ls hf hr hlocks hin hK hP hD hS hA hZ hN hl
  obtain ⟨hx, hb, hml, hown, hts⟩ := id hf
  have hl : lv_has ls 4 [(0, .ref gl), (1, .int w1), (2, .int w2), (3, .int w3)] := hl
  have eg0 : gcp Sh.length M = 2 * M := if_pos hll
  have hfr : fr [25, 26, 27, 28] L0 g0 L0 g0 := fr.rf
  refine lv_aload_n hx hb dX2_addSheet_0 rfl (lv_at hl 0 rfl) ?_
  refine o_get (D := D) (ci := 3) (v := .int (nI (Sh.length))) (C := RX2) (T := TX2) (N := 10) hx hb hts inX2 hown hK hP h_gl rfl 5 (by decide) (hts _ k_393) (fun _ h9 => h9) rfl dX2_addSheet_1 ?_
  refine lv_aload_n hx hb dX2_addSheet_4 rfl (lv_at hl 0 rfl) ?_
  refine o_get (D := D) (ci := 3) (v := .ref ra) (C := RX2) (T := TX2) (N := 10) hx hb hts inX2 hown hK hP h_gl rfl 2 (by decide) (hts _ k_390) (fun _ h9 => h9) rfl dX2_addSheet_5 ?_
  refine o_leni hx hb hK hP h_ra dX2_addSheet_8 ?_
  refine lv_icmp_lt (tgt := 63) hx hb dX2_addSheet_9 (by decide) (fun c_1 => ?_) (fun c_1 => ?_)
  · have c_1 := q_lt (a := Sh.length) (b := M) (by omega) (by omega) c_1
    exact False.elim (by omega)
  · have c_1 := q_nlt (a := Sh.length) (b := M) (by omega) (by omega) c_1
    refine lv_aload_n hx hb dX2_addSheet_12 rfl (lv_at hl 0 rfl) ?_
    refine lv_aload_n hx hb dX2_addSheet_13 rfl (lv_at hl 0 rfl) ?_
    refine o_get (D := D) (ci := 3) (v := .ref ra) (C := RX2) (T := TX2) (N := 10) hx hb hts inX2 hown hK hP h_gl rfl 2 (by decide) (hts _ k_390) (fun _ h9 => h9) rfl dX2_addSheet_14 ?_
    refine lv_iconst (v := 2) hx hb dX2_addSheet_17 (by decide) ?_
    refine lv_aload_n hx hb dX2_addSheet_18 rfl (lv_at hl 0 rfl) ?_
    refine o_get (D := D) (ci := 3) (v := .int (nI (Sh.length))) (C := RX2) (T := TX2) (N := 10) hx hb hts inX2 hown hK hP h_gl rfl 5 (by decide) (hts _ k_393) (fun _ h9 => h9) rfl dX2_addSheet_19 ?_
    refine lv_imul hx hb dX2_addSheet_22 ?_
    refine q_seti (y := nI (2 * Sh.length)) (nI_mulE (a := 2) (b := Sh.length) (by omega)) ?_
    refine o_cr (k := 0 + 1) (n := 0 + (2 * Sh.length)) hK hP hD hS hA (o_rS (As := [.ref ra, .int (nI (2 * Sh.length))]) (rest := [.ref gl]) hf (a_cpyi _ _ _ _ _ _ _ _ ra M (2 * Sh.length) 26 f0 h_ra (by omega) (by omega) _) k_960 k_958 k_959 k_104 (nA := 2) (by decide +kernel) ⟨Nat.le_of_ble_eq_true rfl, Nat.le_of_ble_eq_true rfl⟩ hK hP hD hS hA hZ hN rfl hl.1 rfl (Nat.le_of_ble_eq_true rfl) dX2_addSheet_23 ⟨(show 0 + 1 ≤ 3 * (gcp Sh.length M - M) by omega), (show 0 + (2 * Sh.length) ≤ 6 * (gcp Sh.length M - M) by omega)⟩) (by omega) (by omega) (fun r L g H locs hw hP hD hS => ?_)
    obtain ⟨hfa9, h_ra2⟩ := hw
    have hf9 := hfa9.fr (ts := [])
    have h_gl := h_gl.fr hf9 List.not_mem_nil
    have h_ra := h_ra.fr hf9 List.not_mem_nil
    have h_fa := h_fa.fr hf9 List.not_mem_nil
    have h_la := h_la.fr hf9 List.not_mem_nil
    have hfr := hfr.tr hfa9.fr
    obtain ⟨q_ra2, rfl⟩ : ∃ x : Nat, x = r := ⟨_, rfl⟩
    refine o_put (D := D) (ci := 3) (v := .ref q_ra2) (ty := .array .int) (C := RX2) (T := TX2) (N := 10) (fs1 := [.ref pr, .ref lf, .ref q_ra2, .ref fa, .ref la, .int (nI (Sh.length)), .int (nI en), .int v7, .int v8, .int v9]) hx hb hts inX2 tyX2 tyX2_ok nmX2 hown hK hP hD hS h_gl rfl 2 (by decide) (hts _ k_390) (fun _ h9 => h9) rfl (by decide +kernel) rfl rfl (Nat.le_of_ble_eq_true rfl) rfl dX2_addSheet_26 (fun g H locs h_gl hu hP hD hS => ?_)
    have h_ra := h_ra.up hu (by decide)
    have h_fa := h_fa.up hu (by decide)
    have h_la := h_la.up hu (by decide)
    have h_ra2 := h_ra2.up hu (by decide)
    have hfr := hfr.up hu (by decide)
    refine lv_aload_n hx hb dX2_addSheet_29 rfl (lv_at hl 0 rfl) ?_
    refine lv_aload_n hx hb dX2_addSheet_30 rfl (lv_at hl 0 rfl) ?_
    refine o_get (D := D) (ci := 3) (v := .ref fa) (C := RX2) (T := TX2) (N := 10) hx hb hts inX2 hown hK hP h_gl rfl 3 (by decide) (hts _ k_391) (fun _ h9 => h9) rfl dX2_addSheet_31 ?_
    refine lv_iconst (v := 2) hx hb dX2_addSheet_34 (by decide) ?_
    refine lv_aload_n hx hb dX2_addSheet_35 rfl (lv_at hl 0 rfl) ?_
    refine o_get (D := D) (ci := 3) (v := .int (nI (Sh.length))) (C := RX2) (T := TX2) (N := 10) hx hb hts inX2 hown hK hP h_gl rfl 5 (by decide) (hts _ k_393) (fun _ h9 => h9) rfl dX2_addSheet_36 ?_
    refine lv_imul hx hb dX2_addSheet_39 ?_
    refine q_seti (y := nI (2 * Sh.length)) (nI_mulE (a := 2) (b := Sh.length) (by omega)) ?_
    refine o_cr (k := 0 + 1 + 1) (n := 0 + (2 * Sh.length) + (2 * Sh.length)) hK hP hD hS hA (o_rS (As := [.ref fa, .int (nI (2 * Sh.length))]) (rest := [.ref gl]) hf (a_cpyi _ _ _ _ _ _ _ _ fa M (2 * Sh.length) 27 f1 h_fa (by omega) (by omega) _) k_960 k_958 k_959 k_104 (nA := 2) (by decide +kernel) ⟨Nat.le_of_ble_eq_true rfl, Nat.le_of_ble_eq_true rfl⟩ hK hP hD hS hA hZ hN rfl hl.1 rfl (Nat.le_of_ble_eq_true rfl) dX2_addSheet_40 ⟨(show 0 + 1 + 1 ≤ 3 * (gcp Sh.length M - M) by omega), (show 0 + (2 * Sh.length) + (2 * Sh.length) ≤ 6 * (gcp Sh.length M - M) by omega)⟩) (by omega) (by omega) (fun r L g H locs hw hP hD hS => ?_)
    obtain ⟨hfa9, h_fa2⟩ := hw
    have hf9 := hfa9.fr (ts := [])
    have h_gl := h_gl.fr hf9 List.not_mem_nil
    have h_ra := h_ra.fr hf9 List.not_mem_nil
    have h_fa := h_fa.fr hf9 List.not_mem_nil
    have h_la := h_la.fr hf9 List.not_mem_nil
    have h_ra2 := h_ra2.fr hf9 List.not_mem_nil
    have hfr := hfr.tr hfa9.fr
    obtain ⟨q_fa2, rfl⟩ : ∃ x : Nat, x = r := ⟨_, rfl⟩
    refine o_put (D := D) (ci := 3) (v := .ref q_fa2) (ty := .array .int) (C := RX2) (T := TX2) (N := 10) (fs1 := [.ref pr, .ref lf, .ref q_ra2, .ref q_fa2, .ref la, .int (nI (Sh.length)), .int (nI en), .int v7, .int v8, .int v9]) hx hb hts inX2 tyX2 tyX2_ok nmX2 hown hK hP hD hS h_gl rfl 3 (by decide) (hts _ k_391) (fun _ h9 => h9) rfl (by decide +kernel) rfl rfl (Nat.le_of_ble_eq_true rfl) rfl dX2_addSheet_43 (fun g H locs h_gl hu hP hD hS => ?_)
    have h_ra := h_ra.up hu (by decide)
    have h_fa := h_fa.up hu (by decide)
    have h_la := h_la.up hu (by decide)
    have h_ra2 := h_ra2.up hu (by decide)
    have h_fa2 := h_fa2.up hu (by decide)
    have hfr := hfr.up hu (by decide)
    refine lv_aload_n hx hb dX2_addSheet_46 rfl (lv_at hl 0 rfl) ?_
    refine lv_aload_n hx hb dX2_addSheet_47 rfl (lv_at hl 0 rfl) ?_
    refine o_get (D := D) (ci := 3) (v := .ref la) (C := RX2) (T := TX2) (N := 10) hx hb hts inX2 hown hK hP h_gl rfl 4 (by decide) (hts _ k_392) (fun _ h9 => h9) rfl dX2_addSheet_48 ?_
    refine lv_iconst (v := 2) hx hb dX2_addSheet_51 (by decide) ?_
    refine lv_aload_n hx hb dX2_addSheet_52 rfl (lv_at hl 0 rfl) ?_
    refine o_get (D := D) (ci := 3) (v := .int (nI (Sh.length))) (C := RX2) (T := TX2) (N := 10) hx hb hts inX2 hown hK hP h_gl rfl 5 (by decide) (hts _ k_393) (fun _ h9 => h9) rfl dX2_addSheet_53 ?_
    refine lv_imul hx hb dX2_addSheet_56 ?_
    refine q_seti (y := nI (2 * Sh.length)) (nI_mulE (a := 2) (b := Sh.length) (by omega)) ?_
    refine o_cr (k := 0 + 1 + 1 + 1) (n := 0 + (2 * Sh.length) + (2 * Sh.length) + (2 * Sh.length)) hK hP hD hS hA (o_rS (As := [.ref la, .int (nI (2 * Sh.length))]) (rest := [.ref gl]) hf (a_cpyi _ _ _ _ _ _ _ _ la M (2 * Sh.length) 28 f2 h_la (by omega) (by omega) _) k_960 k_958 k_959 k_104 (nA := 2) (by decide +kernel) ⟨Nat.le_of_ble_eq_true rfl, Nat.le_of_ble_eq_true rfl⟩ hK hP hD hS hA hZ hN rfl hl.1 rfl (Nat.le_of_ble_eq_true rfl) dX2_addSheet_57 ⟨(show 0 + 1 + 1 + 1 ≤ 3 * (gcp Sh.length M - M) by omega), (show 0 + (2 * Sh.length) + (2 * Sh.length) + (2 * Sh.length) ≤ 6 * (gcp Sh.length M - M) by omega)⟩) (by omega) (by omega) (fun r L g H locs hw hP hD hS => ?_)
    obtain ⟨hfa9, h_la2⟩ := hw
    have hf9 := hfa9.fr (ts := [])
    have h_gl := h_gl.fr hf9 List.not_mem_nil
    have h_ra := h_ra.fr hf9 List.not_mem_nil
    have h_fa := h_fa.fr hf9 List.not_mem_nil
    have h_la := h_la.fr hf9 List.not_mem_nil
    have h_ra2 := h_ra2.fr hf9 List.not_mem_nil
    have h_fa2 := h_fa2.fr hf9 List.not_mem_nil
    have hfr := hfr.tr hfa9.fr
    obtain ⟨q_la2, rfl⟩ : ∃ x : Nat, x = r := ⟨_, rfl⟩
    refine o_put (D := D) (ci := 3) (v := .ref q_la2) (ty := .array .int) (C := RX2) (T := TX2) (N := 10) (fs1 := [.ref pr, .ref lf, .ref q_ra2, .ref q_fa2, .ref q_la2, .int (nI (Sh.length)), .int (nI en), .int v7, .int v8, .int v9]) hx hb hts inX2 tyX2 tyX2_ok nmX2 hown hK hP hD hS h_gl rfl 4 (by decide) (hts _ k_392) (fun _ h9 => h9) rfl (by decide +kernel) rfl rfl (Nat.le_of_ble_eq_true rfl) rfl dX2_addSheet_60 (fun g H locs h_gl hu hP hD hS => ?_)
    have h_ra := h_ra.up hu (by decide)
    have h_fa := h_fa.up hu (by decide)
    have h_la := h_la.up hu (by decide)
    have h_ra2 := h_ra2.up hu (by decide)
    have h_fa2 := h_fa2.up hu (by decide)
    have h_la2 := h_la2.up hu (by decide)
    have hfr := hfr.up hu (by decide)
    refine lv_aload_n hx hb dX2_addSheet_63 rfl (lv_at hl 0 rfl) ?_
    refine o_get (D := D) (ci := 3) (v := .int (nI (Sh.length))) (C := RX2) (T := TX2) (N := 10) hx hb hts inX2 hown hK hP h_gl rfl 5 (by decide) (hts _ k_393) (fun _ h9 => h9) rfl dX2_addSheet_64 ?_
    refine lv_aload_n hx hb dX2_addSheet_67 rfl (lv_at hl 0 rfl) ?_
    refine o_get (D := D) (ci := 3) (v := .ref q_ra2) (C := RX2) (T := TX2) (N := 10) hx hb hts inX2 hown hK hP h_gl rfl 2 (by decide) (hts _ k_390) (fun _ h9 => h9) rfl dX2_addSheet_68 ?_
    refine o_leni hx hb hK hP h_ra2 dX2_addSheet_71 ?_
    refine lv_icmp_ge (tgt := 115) hx hb dX2_addSheet_72 (by decide) (fun c_2 => ?_) (fun c_2 => ?_)
    · have c_2 := q_le (a := 2 * Sh.length) (b := Sh.length) (by omega) (by omega) c_2
      exact False.elim (by omega)
    · have c_2 := q_nle (a := 2 * Sh.length) (b := Sh.length) (by omega) (by omega) c_2
      refine lv_aload_n hx hb dX2_addSheet_75 rfl (lv_at hl 0 rfl) ?_
      refine o_get (D := D) (ci := 3) (v := .ref q_ra2) (C := RX2) (T := TX2) (N := 10) hx hb hts inX2 hown hK hP h_gl rfl 2 (by decide) (hts _ k_390) (fun _ h9 => h9) rfl dX2_addSheet_76 ?_
      refine lv_aload_n hx hb dX2_addSheet_79 rfl (lv_at hl 0 rfl) ?_
      refine o_get (D := D) (ci := 3) (v := .int (nI (Sh.length))) (C := RX2) (T := TX2) (N := 10) hx hb hts inX2 hown hK hP h_gl rfl 5 (by decide) (hts _ k_393) (fun _ h9 => h9) rfl dX2_addSheet_80 ?_
      refine lv_iload_n hx hb dX2_addSheet_83 rfl (lv_at hl 1 rfl) ?_
      refine o_ist (X := Sh.length) (x := w1) hx hb hK hP hD hS h_ra2 (by omega) (by omega) dX2_addSheet_84 (fun g H locs h_ra2 hu hP hD hS => ?_)
      have h_gl := h_gl.up hu (by decide)
      have h_fa := h_fa.up hu (by decide)
      have h_la := h_la.up hu (by decide)
      have h_fa2 := h_fa2.up hu (by decide)
      have h_la2 := h_la2.up hu (by decide)
      have hfr := hfr.up hu (by decide)
      refine lv_aload_n hx hb dX2_addSheet_85 rfl (lv_at hl 0 rfl) ?_
      refine o_get (D := D) (ci := 3) (v := .ref q_fa2) (C := RX2) (T := TX2) (N := 10) hx hb hts inX2 hown hK hP h_gl rfl 3 (by decide) (hts _ k_391) (fun _ h9 => h9) rfl dX2_addSheet_86 ?_
      refine lv_aload_n hx hb dX2_addSheet_89 rfl (lv_at hl 0 rfl) ?_
      refine o_get (D := D) (ci := 3) (v := .int (nI (Sh.length))) (C := RX2) (T := TX2) (N := 10) hx hb hts inX2 hown hK hP h_gl rfl 5 (by decide) (hts _ k_393) (fun _ h9 => h9) rfl dX2_addSheet_90 ?_
      refine lv_iload_n hx hb dX2_addSheet_93 rfl (lv_at hl 2 rfl) ?_
      refine o_ist (X := Sh.length) (x := w2) hx hb hK hP hD hS h_fa2 (by omega) (by omega) dX2_addSheet_94 (fun g H locs h_fa2 hu hP hD hS => ?_)
      have h_gl := h_gl.up hu (by decide)
      have h_la := h_la.up hu (by decide)
      have h_ra2 := h_ra2.up hu (by decide)
      have h_la2 := h_la2.up hu (by decide)
      have hfr := hfr.up hu (by decide)
      refine lv_aload_n hx hb dX2_addSheet_95 rfl (lv_at hl 0 rfl) ?_
      refine o_get (D := D) (ci := 3) (v := .ref q_la2) (C := RX2) (T := TX2) (N := 10) hx hb hts inX2 hown hK hP h_gl rfl 4 (by decide) (hts _ k_392) (fun _ h9 => h9) rfl dX2_addSheet_96 ?_
      refine lv_aload_n hx hb dX2_addSheet_99 rfl (lv_at hl 0 rfl) ?_
      refine o_get (D := D) (ci := 3) (v := .int (nI (Sh.length))) (C := RX2) (T := TX2) (N := 10) hx hb hts inX2 hown hK hP h_gl rfl 5 (by decide) (hts _ k_393) (fun _ h9 => h9) rfl dX2_addSheet_100 ?_
      refine lv_iload_n hx hb dX2_addSheet_103 rfl (lv_at hl 3 rfl) ?_
      refine o_ist (X := Sh.length) (x := w3) hx hb hK hP hD hS h_la2 (by omega) (by omega) dX2_addSheet_104 (fun g H locs h_la2 hu hP hD hS => ?_)
      have h_gl := h_gl.up hu (by decide)
      have h_ra2 := h_ra2.up hu (by decide)
      have h_fa2 := h_fa2.up hu (by decide)
      have hfr := hfr.up hu (by decide)
      refine lv_aload_n hx hb dX2_addSheet_105 rfl (lv_at hl 0 rfl) ?_
      refine lv_dup hx hb dX2_addSheet_106 rfl ?_
      refine o_get (D := D) (ci := 3) (v := .int (nI (Sh.length))) (C := RX2) (T := TX2) (N := 10) hx hb hts inX2 hown hK hP h_gl rfl 5 (by decide) (hts _ k_393) (fun _ h9 => h9) rfl dX2_addSheet_107 ?_
      refine lv_iconst (v := 1) hx hb dX2_addSheet_110 (by decide) ?_
      refine lv_iadd hx hb dX2_addSheet_111 ?_
      refine q_seti (y := nI (Sh.length + 1)) (nI_addE (a := Sh.length) (b := 1) (by omega)) ?_
      refine o_put (D := D) (ci := 3) (v := .int (nI (Sh.length + 1))) (ty := .int) (C := RX2) (T := TX2) (N := 10) (fs1 := [.ref pr, .ref lf, .ref q_ra2, .ref q_fa2, .ref q_la2, .int (nI (Sh.length + 1)), .int (nI en), .int v7, .int v8, .int v9]) hx hb hts inX2 tyX2 tyX2_ok nmX2 hown hK hP hD hS h_gl rfl 5 (by decide) (hts _ k_393) (fun _ h9 => h9) rfl (by decide +kernel) rfl rfl (Nat.le_of_ble_eq_true rfl) rfl dX2_addSheet_112 (fun g H locs h_gl hu hP hD hS => ?_)
      have h_ra2 := h_ra2.up hu (by decide)
      have h_fa2 := h_fa2.up hu (by decide)
      have h_la2 := h_la2.up hu (by decide)
      have hfr := hfr.up hu (by decide)
      have eg : gcp Sh.length M = 2 * Sh.length := by rw [eg0]; omega
      exact o_rv hf hr hlocks hK hP hD hS (show 0 + 1 + 1 + 1 ≤ 3 * (gcp Sh.length M - M) by omega) (show 0 + (2 * Sh.length) + (2 * Sh.length) + (2 * Sh.length) ≤ 6 * (gcp Sh.length M - M) by omega) ⟨q_ra2, q_fa2, q_la2, _, _, _, sh_add (w := (w1, w2, w3)) (g0 := va_cpy f0 (fun _ => 0) 0 0 M) (g1 := va_cpy f1 (fun _ => 0) 0 0 M) (g2 := va_cpy f2 (fun _ => 0) 0 0 M) hsh (fun j9 h9 => ⟨cpy_lt (by omega), cpy_lt (by omega), cpy_lt (by omega)⟩), hfr, h_gl, (by rw [eg]; exact h_ra2), (by rw [eg]; exact h_fa2), (by rw [eg]; exact h_la2)⟩ dX2_addSheet_115
theorem gl_add (l : Launch) (D : va_G) (z : Nat → Nat) (cB cI_ cO : ClassId) (L0 : List Nat) (g0 : hG) (pr gl lf ra fa la en : Nat) (v7 v8 v9 : Int32) (M : Nat) (f0 f1 f2 : Nat → Int32) (Sh : List I3) (w1 w2 w3 : Int32) (h_gl : ho L0 g0 gl 25 (.inr (3, [.ref pr, .ref lf, .ref ra, .ref fa, .ref la, .int (nI (Sh.length)), .int (nI en), .int v7, .int v8, .int v9]))) (h_ra : ho L0 g0 ra 26 (.inl (cI_, M, .inl f0))) (h_fa : ho L0 g0 fa 27 (.inl (cI_, M, .inl f1))) (h_la : ho L0 g0 la 28 (.inl (cI_, M, .inl f2))) (hsh : sh_is Sh f0 f1 f2) (hM : M ≤ 30000) (hM1 : 1 ≤ M) (hll : Sh.length ≤ M) : eV l D yX2_addSheet cX2_addSheet 4 none 4 80 (3 * (gcp Sh.length M - M)) (6 * (gcp Sh.length M - M)) [.ref gl, .int w1, .int w2, .int w3] z cB cI_ cO L0 g0 (fun L g => ∃ (r2 a2 l2 : Nat) (k0 k1 k2 : Nat → Int32), sh_is (Sh ++ [(w1, w2, w3)]) k0 k1 k2 ∧ fr [25, 26, 27, 28] L0 g0 L g ∧ ho L g gl 25 (.inr (3, [.ref pr, .ref lf, .ref r2, .ref a2, .ref l2, .int (nI ((Sh.length + 1))), .int (nI en), .int v7, .int v8, .int v9])) ∧ ho L g r2 26 (.inl (cI_, (gcp Sh.length M), .inl k0)) ∧ ho L g a2 27 (.inl (cI_, (gcp Sh.length M), .inl k1)) ∧ ho L g l2 28 (.inl (cI_, (gcp Sh.length M), .inl k2))) := by
  by_cases h : Sh.length < M
  · exact gl_addA l D z cB cI_ cO L0 g0 pr gl lf ra fa la en v7 v8 v9 M f0 f1 f2 Sh w1 w2 w3 h_gl h_ra h_fa h_la hsh hM hM1 h
  · exact gl_addB l D z cB cI_ cO L0 g0 pr gl lf ra fa la en v7 v8 v9 M f0 f1 f2 Sh w1 w2 w3 h_gl h_ra h_fa h_la hsh hM hM1 (by omega)
set_option maxHeartbeats 1000000 in
set_option maxRecDepth 100000 in
theorem rq_loop {p : Program} {l : Launch} {e : Env} {R : Room} {s : State} {m : MethodId} {args : Array Value} {below : List Frame} {meth : Method} {c : Code} {Q : State → Prop} {D : va_G} {A : Nat → Prop} {z : Nat → Nat} {cB cI_ cO : ClassId} {L0 : List Nat} {g0 : hG} {cells slots : Nat} {pr pcs spr nwh cp : Nat} {pa : List Nat} {ea : Nat → Nat} {P : List Q4} {ne : Nat} {EE : Nat → E5} {gl lf ra fa la en fi : Nat} {v5 v7 v8 v9 : Int32} (h_pr : ho L0 g0 pr 13 (.inr (7, [.ref pcs, .ref spr, .ref nwh]))) (h_pcs : alR cO (z 0) 14 15 L0 g0 pcs cp pa) (h_pc : pcR L0 g0 ea pa P) (h_es : esR cB cI_ L0 g0 ea ne EE) (h_gl : ho L0 g0 gl 25 (.inr (3, [.ref pr, .ref lf, .ref ra, .ref fa, .ref la, .int v5, .int (nI en), .int v7, .int v8, .int v9]))) (hpa : pa.length ≤ 20000) (hQ : pq_ok ne EE P) (hen : en ≤ pa.length) (hSn : qS P pa.length ≤ 8000) (hRf : 8 ≤ R.frames) (hRl : 160 ≤ R.locals) (hRc : cells ≤ R.cells) (hRs : slots ≤ R.slots) (hA : ∀ q : Nat, s.heap.size ≤ q → A q) (hf : CallFix p m c cX2_rowsOfPieces 4 s args gT yX2_rowsOfPieces.cls) (hK : va_K D vcl (dT cB cI_ cO) s) (hZ : zA z A s s.heap) (hN : zB z s) :
    ∀ (k : Nat) (i : Nat) (H : Heap) (locs : List Loc) (ls : Array Slot), i + k = en → fi ≤ i → va_P D vcl (dW L0 g0) H → va_D A (dW L0 g0) → va_S A s.heap H locs → lv_has ls 4 [(3, .int (nI i)), (2, .int (nI ((qS P i - qS P fi)))), (0, .ref gl), (1, .int (nI fi))] →
    (∀  (H : Heap) (locs : List Loc) (ls : Array Slot), va_P D vcl (dW L0 g0) H → va_D A (dW L0 g0) → va_S A s.heap H locs → lv_has ls 4 [(2, .int (nI ((qS P en - qS P fi)))), (0, .ref gl)] → W p l e R s m args below meth c H locs cells slots Q (F0 m 44 ls [])) →
    W p l e R s m args below meth c H locs cells slots Q (F0 m 4 ls []) := by
  obtain ⟨hx, hb, hml, hown, hts⟩ := id hf
  intro k
  induction k with
  | zero =>
    intro i H locs ls hik hfi hP hD hS hl kk
    refine lv_iload_n hx hb dX2_rowsOfPieces_4 rfl (lv_at hl 0 rfl) ?_
    refine lv_aload_n hx hb dX2_rowsOfPieces_5 rfl (lv_at hl 2 rfl) ?_
    refine o_get (D := D) (ci := 3) (v := .int (nI en)) (C := RX2) (T := TX2) (N := 10) hx hb hts inX2 hown hK hP h_gl rfl 6 (by decide) (hts _ k_394) (fun _ h9 => h9) rfl dX2_rowsOfPieces_6 ?_
    refine lv_icmp_ge (tgt := 44) hx hb dX2_rowsOfPieces_9 (by decide) (fun c_1 => ?_) (fun c_1 => ?_)
    · have c_1 := q_le (a := en) (b := i) (by omega) (by omega) c_1
      obtain rfl : i = en := by omega
      exact kk H locs ls hP hD hS (lv_sub hl (l' := [(2, .int (nI ((qS P i - qS P fi)))), (0, .ref gl)]) [1, 2] rfl)
    · have c_1 := q_nle (a := en) (b := i) (by omega) (by omega) c_1
      exact False.elim (by omega)
  | succ k ih =>
    intro i H locs ls hik hfi hP hD hS hl kk
    refine lv_iload_n hx hb dX2_rowsOfPieces_4 rfl (lv_at hl 0 rfl) ?_
    refine lv_aload_n hx hb dX2_rowsOfPieces_5 rfl (lv_at hl 2 rfl) ?_
    refine o_get (D := D) (ci := 3) (v := .int (nI en)) (C := RX2) (T := TX2) (N := 10) hx hb hts inX2 hown hK hP h_gl rfl 6 (by decide) (hts _ k_394) (fun _ h9 => h9) rfl dX2_rowsOfPieces_6 ?_
    refine lv_icmp_ge (tgt := 44) hx hb dX2_rowsOfPieces_9 (by decide) (fun c_1 => ?_) (fun c_1 => ?_)
    · have c_1 := q_le (a := en) (b := i) (by omega) (by omega) c_1
      exact False.elim (by omega)
    · have c_1 := q_nle (a := en) (b := i) (by omega) (by omega) c_1
      have hqs := qS_s P i
      have hm1 := qS_m P (show fi ≤ i by omega)
      have hm2 := qS_m P (show i + 1 ≤ pa.length by omega)
      refine lv_iload_n hx hb dX2_rowsOfPieces_12 rfl (lv_at hl 1 rfl) ?_
      refine lv_aload_n hx hb dX2_rowsOfPieces_13 rfl (lv_at hl 2 rfl) ?_
      refine o_get (D := D) (ci := 3) (v := .ref pr) (C := RX2) (T := TX2) (N := 10) hx hb hts inX2 hown hK hP h_gl rfl 0 (by decide) (hts _ k_388) (fun _ h9 => h9) rfl dX2_rowsOfPieces_14 ?_
      refine lv_iload_n hx hb dX2_rowsOfPieces_17 rfl (lv_at hl 0 rfl) ?_
      refine o_crs (k := cells) (n := slots) hK hP hD hS hA (o_rV (As := [.int (nI i)]) (rest := [.int (nI ((qS P i - qS P fi)))]) hf (p_atI _ _ _ _ _ _ _ _ pr pcs spr nwh cp pa ea P i h_pr h_pcs h_pc hpa (by omega) _) k_775 k_968 k_773 k_774 k_92 (nA := 1) (by decide +kernel) ⟨Nat.le_trans (by decide) hRf, Nat.le_trans (by decide) hRl⟩ hK hP hD hS hA hZ hN h_pr rfl rfl rfl hl.1 rfl (Nat.le_of_ble_eq_true rfl) dX2_rowsOfPieces_18 ⟨(show cells + 0 ≤ R.cells by omega), (show slots + 0 ≤ R.slots by omega)⟩) (Nat.le_refl _) (Nat.le_refl _) (fun r H locs hw hP hD hS => ?_)
      obtain rfl := hw
      have h_p2 := h_pc.2 i (by omega)
      have hpl_ := h_pc.1
      have hq_p2 := hQ i (by omega)
      have hr_p2 := h_es.rb hq_p2.1
      refine o_get (D := D) (ci := 6) (v := .int (nI ((P.getD i d4).2.2.1))) (C := RX5) (T := TX5) (N := 4) hx hb hts inX5 hown hK hP h_p2 rfl 2 (by decide) (hts _ k_288) (fun _ h9 => h9) rfl dX2_rowsOfPieces_21 ?_
      refine lv_aload_n hx hb dX2_rowsOfPieces_24 rfl (lv_at hl 2 rfl) ?_
      refine o_get (D := D) (ci := 3) (v := .ref pr) (C := RX2) (T := TX2) (N := 10) hx hb hts inX2 hown hK hP h_gl rfl 0 (by decide) (hts _ k_388) (fun _ h9 => h9) rfl dX2_rowsOfPieces_25 ?_
      refine lv_iload_n hx hb dX2_rowsOfPieces_28 rfl (lv_at hl 0 rfl) ?_
      refine o_crs (k := cells) (n := slots) hK hP hD hS hA (o_rV (As := [.int (nI i)]) (rest := [.int (nI ((P.getD i d4).2.2.1)), .int (nI ((qS P i - qS P fi)))]) hf (p_atI _ _ _ _ _ _ _ _ pr pcs spr nwh cp pa ea P i h_pr h_pcs h_pc hpa (by omega) _) k_775 k_968 k_773 k_774 k_92 (nA := 1) (by decide +kernel) ⟨Nat.le_trans (by decide) hRf, Nat.le_trans (by decide) hRl⟩ hK hP hD hS hA hZ hN h_pr rfl rfl rfl hl.1 rfl (Nat.le_of_ble_eq_true rfl) dX2_rowsOfPieces_29 ⟨(show cells + 0 ≤ R.cells by omega), (show slots + 0 ≤ R.slots by omega)⟩) (Nat.le_refl _) (Nat.le_refl _) (fun r H locs hw hP hD hS => ?_)
      obtain rfl := hw
      refine o_get (D := D) (ci := 6) (v := .int (nI ((P.getD i d4).2.1))) (C := RX5) (T := TX5) (N := 4) hx hb hts inX5 hown hK hP h_p2 rfl 1 (by decide) (hts _ k_284) (fun _ h9 => h9) rfl dX2_rowsOfPieces_32 ?_
      refine lv_isub hx hb dX2_rowsOfPieces_35 ?_
      refine q_seti (y := nI (((P.getD i d4).2.2.1) - ((P.getD i d4).2.1))) (nI_subE (a := (P.getD i d4).2.2.1) (b := (P.getD i d4).2.1) (by omega) (by omega)) ?_
      refine lv_iadd hx hb dX2_rowsOfPieces_36 ?_
      refine q_seti (y := nI (qS P i + ((P.getD i d4).2.2.1) - qS P fi - ((P.getD i d4).2.1))) (nI_addE (a := (qS P i - qS P fi)) (b := ((P.getD i d4).2.2.1) - ((P.getD i d4).2.1)) (by omega)) ?_
      refine lv_istore_n (lv' := [(2, .int (nI (qS P i + ((P.getD i d4).2.2.1) - qS P fi - ((P.getD i d4).2.1)))), (3, .int (nI i)), (0, .ref gl), (1, .int (nI fi))]) hx hb dX2_rowsOfPieces_37 rfl hl (by decide) rfl (fun ls hl => ?_)
      refine lv_iinc (v := nI (i + 1)) (lv' := [(3, .int (nI (i + 1))), (2, .int (nI (qS P i + ((P.getD i d4).2.2.1) - qS P fi - ((P.getD i d4).2.1)))), (0, .ref gl), (1, .int (nI fi))]) hx hb dX2_rowsOfPieces_38 hl (k := 1) rfl (nI_addE (a := i) (b := 1) (by omega)) (by decide) rfl (fun ls hl => ?_)
      refine lv_goto (tgt := 4) hx hb dX2_rowsOfPieces_41 (by decide) ?_
      rw [show qS P i + ((P.getD i d4).2.2.1) - qS P fi - ((P.getD i d4).2.1) = qS P (i + 1) - qS P fi by omega] at hl
      exact ih (i + 1) H locs ls (by omega) (by omega) hP hD hS (lv_sub hl (l' := [(3, .int (nI (i + 1))), (2, .int (nI ((qS P (i + 1) - qS P fi)))), (0, .ref gl), (1, .int (nI fi))]) [0, 1, 2, 3] rfl) kk
set_option maxHeartbeats 1000000 in
set_option maxRecDepth 100000 in
theorem gl_rows (l : Launch) (D : va_G) (z : Nat → Nat) (cB cI_ cO : ClassId) (L0 : List Nat) (g0 : hG) (pr pcs spr nwh cp : Nat) (pa : List Nat) (ea : Nat → Nat) (P : List Q4) (ne : Nat) (EE : Nat → E5) (gl lf ra fa la en fi : Nat) (v5 v7 v8 v9 : Int32) (h_pr : ho L0 g0 pr 13 (.inr (7, [.ref pcs, .ref spr, .ref nwh]))) (h_pcs : alR cO (z 0) 14 15 L0 g0 pcs cp pa) (h_pc : pcR L0 g0 ea pa P) (h_es : esR cB cI_ L0 g0 ea ne EE) (h_gl : ho L0 g0 gl 25 (.inr (3, [.ref pr, .ref lf, .ref ra, .ref fa, .ref la, .int v5, .int (nI en), .int v7, .int v8, .int v9]))) (hpa : pa.length ≤ 20000) (hQ : pq_ok ne EE P) (hen : en ≤ pa.length) (hSn : qS P pa.length ≤ 8000) (hfi : fi ≤ en) : eIs l D yX2_rowsOfPieces cX2_rowsOfPieces 4 (some .int) 8 160 0 0 [.ref gl, .int (nI fi)] z cB cI_ cO L0 g0 (fun r => r = nI (qS P en - qS P fi)) := by
  refine o_si (by decide) (Nat.le_of_ble_eq_true rfl) ?_
  intro p e s m below meth c A ls hf hr hlocks hin hK hP hD hS hA hZ hN hl
  obtain ⟨hx, hb, hml, hown, hts⟩ := id hf
  have hl : lv_has ls 4 [(0, .ref gl), (1, .int (nI fi))] := hl
  refine lv_iconst (v := 0) hx hb dX2_rowsOfPieces_0 (by decide) ?_
  refine lv_istore_n (lv' := [(2, .int 0), (0, .ref gl), (1, .int (nI fi))]) hx hb dX2_rowsOfPieces_1 rfl hl (by decide) rfl (fun ls hl => ?_)
  refine lv_iload_n hx hb dX2_rowsOfPieces_2 rfl (lv_at hl 2 rfl) ?_
  refine lv_istore_n (lv' := [(3, .int (nI fi)), (2, .int 0), (0, .ref gl), (1, .int (nI fi))]) hx hb dX2_rowsOfPieces_3 rfl hl (by decide) rfl (fun ls hl => ?_)
  have e0 : (.int 0 : Value) = .int (nI (qS P fi - qS P fi)) := by rw [Nat.sub_self]; rfl
  rw [e0] at hl
  refine rq_loop  h_pr h_pcs h_pc h_es h_gl hpa hQ hen hSn (Nat.le_of_ble_eq_true rfl) (Nat.le_of_ble_eq_true rfl) (show 0 ≤ 0 by omega) (show 0 ≤ 0 by omega) hA hf hK hZ hN (en - fi) fi _ _ ls (by omega) (Nat.le_refl _) hP hD hS (lv_sub hl (l' := [(3, .int (nI fi)), (2, .int (nI ((qS P fi - qS P fi)))), (0, .ref gl), (1, .int (nI fi))]) [0, 1, 2, 3] rfl) ?_
  · intro H locs ls hP hD hS hl
    refine lv_iload_n hx hb dX2_rowsOfPieces_44 rfl (lv_at hl 0 rfl) ?_
    exact o_ri hf hr rfl hlocks hK hP hD hS (show 0 ≤ 0 by omega) (show 0 ≤ 0 by omega) ⟨rfl, rfl, rfl⟩ dX2_rowsOfPieces_45
