noncomputable def gl_S (EE : Nat → E5) (P : List Q4) (fi en mo : Nat) : List I3 := if fi < en then rs_sh (qK EE P) (qF P) (qT P) (qR EE P) fi en mo 8000 fi 0 else [(0, -1, -1)]
abbrev cX2_firstElementOn : ByteArray := prog_4_method_6_code
def yX2_firstElementOn : MethodName := ⟨RX2, "firstElementOn", "(I)I"⟩
abbrev cX2_isSheet : ByteArray := prog_4_method_9_code
def yX2_isSheet : MethodName := ⟨RX2, "isSheet", "(I)Z"⟩
abbrev cX2_lastElementOn : ByteArray := prog_4_method_7_code
def yX2_lastElementOn : MethodName := ⟨RX2, "lastElementOn", "(I)I"⟩
abbrev cX2_piecesOn : ByteArray := prog_4_method_5_code
def yX2_piecesOn : MethodName := ⟨RX2, "piecesOn", "(I)I"⟩
abbrev cX2_rowsOn : ByteArray := prog_4_method_4_code
def yX2_rowsOn : MethodName := ⟨RX2, "rowsOn", "(I)I"⟩
abbrev cX2_sheetCount : ByteArray := prog_4_method_3_code
def yX2_sheetCount : MethodName := ⟨RX2, "sheetCount", "()I"⟩
abbrev cX2_sheetWherePieceBegins : ByteArray := prog_4_method_8_code
def yX2_sheetWherePieceBegins : MethodName := ⟨RX2, "sheetWherePieceBegins", "(I)I"⟩
theorem k_37 : (Cond.selects RX2 yX2_isSheet yX2_isSheet) ∈ gT := gT_i 37 (by decide +kernel) rfl
theorem k_232 : (Cond.fieldLink RX2 81 "ScriptDesk$Element" "number" "I") ∈ gT := gT_i 232 (by decide +kernel) rfl
theorem k_280 : (Cond.fieldLink RX2 77 "ScriptDesk$Piece" "element" "LScriptDesk$Element;") ∈ gT := gT_i 280 (by decide +kernel) rfl
theorem k_1005 : (Cond.methodLink RX2 73 yX2_isSheet) ∈ gT := gT_i 1005 (by decide +kernel) rfl
theorem k_1007 : (Cond.instanceMethod yX2_isSheet) ∈ gT := gT_i 1007 (by decide +kernel) rfl
theorem k_1008 : (Cond.code yX2_isSheet cX2_isSheet 2 (some .boolean)) ∈ gT := gT_i 1008 (by decide +kernel) rfl
theorem dX2_sheetCount_0 : decode cX2_sheetCount 0 = .ok (.aload_n 0, 1) := by decide +kernel
theorem dX2_sheetCount_1 : decode cX2_sheetCount 1 = .ok (.getfield 29, 3) := by decide +kernel
theorem dX2_sheetCount_4 : decode cX2_sheetCount 4 = .ok (.ireturn, 1) := by decide +kernel
theorem dX2_isSheet_0 : decode cX2_isSheet 0 = .ok (.iload_n 1, 1) := by decide +kernel
theorem dX2_isSheet_1 : decode cX2_isSheet 1 = .ok (.ifCond .lt 24, 3) := by decide +kernel
theorem dX2_isSheet_4 : decode cX2_isSheet 4 = .ok (.iload_n 1, 1) := by decide +kernel
theorem dX2_isSheet_5 : decode cX2_isSheet 5 = .ok (.aload_n 0, 1) := by decide +kernel
theorem dX2_isSheet_6 : decode cX2_isSheet 6 = .ok (.getfield 29, 3) := by decide +kernel
theorem dX2_isSheet_9 : decode cX2_isSheet 9 = .ok (.if_icmp .ge 16, 3) := by decide +kernel
theorem dX2_isSheet_12 : decode cX2_isSheet 12 = .ok (.iload_n 1, 1) := by decide +kernel
theorem dX2_isSheet_13 : decode cX2_isSheet 13 = .ok (.aload_n 0, 1) := by decide +kernel
theorem dX2_isSheet_14 : decode cX2_isSheet 14 = .ok (.getfield 9, 3) := by decide +kernel
theorem dX2_isSheet_17 : decode cX2_isSheet 17 = .ok (.arraylength, 1) := by decide +kernel
theorem dX2_isSheet_18 : decode cX2_isSheet 18 = .ok (.if_icmp .ge 7, 3) := by decide +kernel
theorem dX2_isSheet_21 : decode cX2_isSheet 21 = .ok (.iconst 1, 1) := by decide +kernel
theorem dX2_isSheet_22 : decode cX2_isSheet 22 = .ok (.goto 4, 3) := by decide +kernel
theorem dX2_isSheet_26 : decode cX2_isSheet 26 = .ok (.ireturn, 1) := by decide +kernel
theorem dX2_rowsOn_0 : decode cX2_rowsOn 0 = .ok (.aload_n 0, 1) := by decide +kernel
theorem dX2_rowsOn_1 : decode cX2_rowsOn 1 = .ok (.iload_n 1, 1) := by decide +kernel
theorem dX2_rowsOn_2 : decode cX2_rowsOn 2 = .ok (.invokevirtual 73, 3) := by decide +kernel
theorem dX2_rowsOn_5 : decode cX2_rowsOn 5 = .ok (.ifCond .eq 12, 3) := by decide +kernel
theorem dX2_rowsOn_8 : decode cX2_rowsOn 8 = .ok (.aload_n 0, 1) := by decide +kernel
theorem dX2_rowsOn_9 : decode cX2_rowsOn 9 = .ok (.getfield 9, 3) := by decide +kernel
theorem dX2_rowsOn_12 : decode cX2_rowsOn 12 = .ok (.iload_n 1, 1) := by decide +kernel
theorem dX2_rowsOn_13 : decode cX2_rowsOn 13 = .ok (.iaload, 1) := by decide +kernel
theorem dX2_rowsOn_14 : decode cX2_rowsOn 14 = .ok (.goto 4, 3) := by decide +kernel
theorem dX2_rowsOn_18 : decode cX2_rowsOn 18 = .ok (.ireturn, 1) := by decide +kernel
theorem dX2_piecesOn_0 : decode cX2_piecesOn 0 = .ok (.aload_n 0, 1) := by decide +kernel
theorem dX2_piecesOn_1 : decode cX2_piecesOn 1 = .ok (.iload_n 1, 1) := by decide +kernel
theorem dX2_piecesOn_2 : decode cX2_piecesOn 2 = .ok (.invokevirtual 73, 3) := by decide +kernel
theorem dX2_piecesOn_5 : decode cX2_piecesOn 5 = .ok (.ifCond .eq 31, 3) := by decide +kernel
theorem dX2_piecesOn_8 : decode cX2_piecesOn 8 = .ok (.aload_n 0, 1) := by decide +kernel
theorem dX2_piecesOn_9 : decode cX2_piecesOn 9 = .ok (.getfield 15, 3) := by decide +kernel
theorem dX2_piecesOn_12 : decode cX2_piecesOn 12 = .ok (.iload_n 1, 1) := by decide +kernel
theorem dX2_piecesOn_13 : decode cX2_piecesOn 13 = .ok (.iaload, 1) := by decide +kernel
theorem dX2_piecesOn_14 : decode cX2_piecesOn 14 = .ok (.iconst (-1), 1) := by decide +kernel
theorem dX2_piecesOn_15 : decode cX2_piecesOn 15 = .ok (.if_icmp .eq 21, 3) := by decide +kernel
theorem dX2_piecesOn_36 : decode cX2_piecesOn 36 = .ok (.iconst 0, 1) := by decide +kernel
theorem dX2_piecesOn_37 : decode cX2_piecesOn 37 = .ok (.ireturn, 1) := by decide +kernel
theorem dX2_piecesOn_18 : decode cX2_piecesOn 18 = .ok (.aload_n 0, 1) := by decide +kernel
theorem dX2_piecesOn_19 : decode cX2_piecesOn 19 = .ok (.getfield 18, 3) := by decide +kernel
theorem dX2_piecesOn_22 : decode cX2_piecesOn 22 = .ok (.iload_n 1, 1) := by decide +kernel
theorem dX2_piecesOn_23 : decode cX2_piecesOn 23 = .ok (.iaload, 1) := by decide +kernel
theorem dX2_piecesOn_24 : decode cX2_piecesOn 24 = .ok (.aload_n 0, 1) := by decide +kernel
theorem dX2_piecesOn_25 : decode cX2_piecesOn 25 = .ok (.getfield 15, 3) := by decide +kernel
theorem dX2_piecesOn_28 : decode cX2_piecesOn 28 = .ok (.iload_n 1, 1) := by decide +kernel
theorem dX2_piecesOn_29 : decode cX2_piecesOn 29 = .ok (.iaload, 1) := by decide +kernel
theorem dX2_piecesOn_30 : decode cX2_piecesOn 30 = .ok (.isub, 1) := by decide +kernel
theorem dX2_piecesOn_31 : decode cX2_piecesOn 31 = .ok (.iconst 1, 1) := by decide +kernel
theorem dX2_piecesOn_32 : decode cX2_piecesOn 32 = .ok (.iadd, 1) := by decide +kernel
theorem dX2_piecesOn_33 : decode cX2_piecesOn 33 = .ok (.goto 4, 3) := by decide +kernel
theorem dX2_firstElementOn_0 : decode cX2_firstElementOn 0 = .ok (.aload_n 0, 1) := by decide +kernel
theorem dX2_firstElementOn_1 : decode cX2_firstElementOn 1 = .ok (.iload_n 1, 1) := by decide +kernel
theorem dX2_firstElementOn_2 : decode cX2_firstElementOn 2 = .ok (.invokevirtual 73, 3) := by decide +kernel
theorem dX2_firstElementOn_5 : decode cX2_firstElementOn 5 = .ok (.ifCond .eq 25, 3) := by decide +kernel
theorem dX2_firstElementOn_8 : decode cX2_firstElementOn 8 = .ok (.aload_n 0, 1) := by decide +kernel
theorem dX2_firstElementOn_9 : decode cX2_firstElementOn 9 = .ok (.getfield 21, 3) := by decide +kernel
theorem dX2_firstElementOn_12 : decode cX2_firstElementOn 12 = .ok (.aload_n 0, 1) := by decide +kernel
theorem dX2_firstElementOn_13 : decode cX2_firstElementOn 13 = .ok (.getfield 15, 3) := by decide +kernel
theorem dX2_firstElementOn_16 : decode cX2_firstElementOn 16 = .ok (.iload_n 1, 1) := by decide +kernel
theorem dX2_firstElementOn_17 : decode cX2_firstElementOn 17 = .ok (.iaload, 1) := by decide +kernel
theorem dX2_firstElementOn_18 : decode cX2_firstElementOn 18 = .ok (.invokevirtual 46, 3) := by decide +kernel
theorem dX2_firstElementOn_21 : decode cX2_firstElementOn 21 = .ok (.getfield 77, 3) := by decide +kernel
theorem dX2_firstElementOn_24 : decode cX2_firstElementOn 24 = .ok (.getfield 81, 3) := by decide +kernel
theorem dX2_firstElementOn_27 : decode cX2_firstElementOn 27 = .ok (.goto 4, 3) := by decide +kernel
theorem dX2_firstElementOn_31 : decode cX2_firstElementOn 31 = .ok (.ireturn, 1) := by decide +kernel
theorem dX2_lastElementOn_0 : decode cX2_lastElementOn 0 = .ok (.aload_n 0, 1) := by decide +kernel
theorem dX2_lastElementOn_1 : decode cX2_lastElementOn 1 = .ok (.iload_n 1, 1) := by decide +kernel
theorem dX2_lastElementOn_2 : decode cX2_lastElementOn 2 = .ok (.invokevirtual 73, 3) := by decide +kernel
theorem dX2_lastElementOn_5 : decode cX2_lastElementOn 5 = .ok (.ifCond .eq 25, 3) := by decide +kernel
theorem dX2_lastElementOn_8 : decode cX2_lastElementOn 8 = .ok (.aload_n 0, 1) := by decide +kernel
theorem dX2_lastElementOn_9 : decode cX2_lastElementOn 9 = .ok (.getfield 21, 3) := by decide +kernel
theorem dX2_lastElementOn_12 : decode cX2_lastElementOn 12 = .ok (.aload_n 0, 1) := by decide +kernel
theorem dX2_lastElementOn_13 : decode cX2_lastElementOn 13 = .ok (.getfield 18, 3) := by decide +kernel
theorem dX2_lastElementOn_16 : decode cX2_lastElementOn 16 = .ok (.iload_n 1, 1) := by decide +kernel
theorem dX2_lastElementOn_17 : decode cX2_lastElementOn 17 = .ok (.iaload, 1) := by decide +kernel
theorem dX2_lastElementOn_18 : decode cX2_lastElementOn 18 = .ok (.invokevirtual 46, 3) := by decide +kernel
theorem dX2_lastElementOn_21 : decode cX2_lastElementOn 21 = .ok (.getfield 77, 3) := by decide +kernel
theorem dX2_lastElementOn_24 : decode cX2_lastElementOn 24 = .ok (.getfield 81, 3) := by decide +kernel
theorem dX2_lastElementOn_27 : decode cX2_lastElementOn 27 = .ok (.goto 4, 3) := by decide +kernel
theorem dX2_lastElementOn_31 : decode cX2_lastElementOn 31 = .ok (.ireturn, 1) := by decide +kernel
theorem dX2_sheetWherePieceBegins_2 : decode cX2_sheetWherePieceBegins 2 = .ok (.iload_n 2, 1) := by decide +kernel
theorem dX2_sheetWherePieceBegins_3 : decode cX2_sheetWherePieceBegins 3 = .ok (.aload_n 0, 1) := by decide +kernel
theorem dX2_sheetWherePieceBegins_4 : decode cX2_sheetWherePieceBegins 4 = .ok (.getfield 29, 3) := by decide +kernel
theorem dX2_sheetWherePieceBegins_7 : decode cX2_sheetWherePieceBegins 7 = .ok (.if_icmp .ge 30, 3) := by decide +kernel
theorem dX2_sheetWherePieceBegins_10 : decode cX2_sheetWherePieceBegins 10 = .ok (.iload_n 2, 1) := by decide +kernel
theorem dX2_sheetWherePieceBegins_11 : decode cX2_sheetWherePieceBegins 11 = .ok (.aload_n 0, 1) := by decide +kernel
theorem dX2_sheetWherePieceBegins_12 : decode cX2_sheetWherePieceBegins 12 = .ok (.getfield 18, 3) := by decide +kernel
theorem dX2_sheetWherePieceBegins_15 : decode cX2_sheetWherePieceBegins 15 = .ok (.arraylength, 1) := by decide +kernel
theorem dX2_sheetWherePieceBegins_16 : decode cX2_sheetWherePieceBegins 16 = .ok (.if_icmp .ge 21, 3) := by decide +kernel
theorem dX2_sheetWherePieceBegins_19 : decode cX2_sheetWherePieceBegins 19 = .ok (.aload_n 0, 1) := by decide +kernel
theorem dX2_sheetWherePieceBegins_20 : decode cX2_sheetWherePieceBegins 20 = .ok (.getfield 18, 3) := by decide +kernel
theorem dX2_sheetWherePieceBegins_23 : decode cX2_sheetWherePieceBegins 23 = .ok (.iload_n 2, 1) := by decide +kernel
theorem dX2_sheetWherePieceBegins_24 : decode cX2_sheetWherePieceBegins 24 = .ok (.iaload, 1) := by decide +kernel
theorem dX2_sheetWherePieceBegins_25 : decode cX2_sheetWherePieceBegins 25 = .ok (.iload_n 1, 1) := by decide +kernel
theorem dX2_sheetWherePieceBegins_26 : decode cX2_sheetWherePieceBegins 26 = .ok (.if_icmp .lt 5, 3) := by decide +kernel
theorem dX2_sheetWherePieceBegins_31 : decode cX2_sheetWherePieceBegins 31 = .ok (.iinc 2 1, 3) := by decide +kernel
theorem dX2_sheetWherePieceBegins_34 : decode cX2_sheetWherePieceBegins 34 = .ok (.goto (-32), 3) := by decide +kernel
theorem dX2_sheetWherePieceBegins_0 : decode cX2_sheetWherePieceBegins 0 = .ok (.iconst 0, 1) := by decide +kernel
theorem dX2_sheetWherePieceBegins_1 : decode cX2_sheetWherePieceBegins 1 = .ok (.istore_n 2, 1) := by decide +kernel
theorem dX2_sheetWherePieceBegins_29 : decode cX2_sheetWherePieceBegins 29 = .ok (.iload_n 2, 1) := by decide +kernel
theorem dX2_sheetWherePieceBegins_30 : decode cX2_sheetWherePieceBegins 30 = .ok (.ireturn, 1) := by decide +kernel
theorem dX2_sheetWherePieceBegins_37 : decode cX2_sheetWherePieceBegins 37 = .ok (.iconst 0, 1) := by decide +kernel
theorem dX2_sheetWherePieceBegins_38 : decode cX2_sheetWherePieceBegins 38 = .ok (.ireturn, 1) := by decide +kernel
theorem gl_lay (l : Launch) (D : va_G) (z : Nat → Nat) (cB cI_ cO : ClassId) (L0 : List Nat) (g0 : hG) (pr pcs spr nwh cp : Nat) (pa : List Nat) (ea : Nat → Nat) (P : List Q4) (ne : Nat) (EE : Nat → E5) (nob gl lf ra fa la : Nat) (v5 v6 v7 v8 v9 x1 x2 x3 x4 x5 x6 : Int32) (M : Nat) (f0 f1 f2 : Nat → Int32) (mo gg fi en B : Nat) (h_pr : ho L0 g0 pr 13 (.inr (7, [.ref pcs, .ref spr, .ref nwh]))) (h_pcs : alR cO (z 0) 14 15 L0 g0 pcs cp pa) (h_pc : pcR L0 g0 ea pa P) (h_es : esR cB cI_ L0 g0 ea ne EE) (h_nwh : ho L0 g0 nwh 19 (.inr (6, [.ref nob, .int 0, .int 0, .int 0]))) (h_gl : ho L0 g0 gl 25 (.inr (3, [.ref pr, .ref lf, .ref ra, .ref fa, .ref la, .int v5, .int v6, .int v7, .int v8, .int v9]))) (h_lf : ho L0 g0 lf 20 (.inr (4, [.ref pr, .int x1, .int x2, .int x3, .int x4, .int x5, .int x6]))) (h_ra : ho L0 g0 ra 26 (.inl (cI_, M, .inl f0))) (h_fa : ho L0 g0 fa 27 (.inl (cI_, M, .inl f1))) (h_la : ho L0 g0 la 28 (.inl (cI_, M, .inl f2))) (hpa : pa.length ≤ 20000) (hQ : pq_ok ne EE P) (hSn : qS P pa.length ≤ 8000) (hmo1 : 10 ≤ mo) (hmo : mo ≤ 40) (hgg : gg ≤ 20000) (hG : ∀ t, t < pa.length → (P.getD t d4).2.2.2 ≤ 30000) (efi : fi = rg_first (fun t => (P.getD t d4).2.2.2) gg pa.length 0) (een : en = rg_first (fun t => (P.getD t d4).2.2.2) (gg + 1) pa.length 0) (hgF : ∀ p, fi < p → p < en → (P.getD p d4).2.1 = 0) (hgT : ∀ p, fi ≤ p → p + 1 < en → (P.getD p d4).2.2.1 = eRw (EE (P.getD p d4).1)) (hM1 : 1 ≤ M) (hB9 : B ≤ 30000) (hB2 : B = glx M 0 (gl_S EE P fi en mo)) : eV l D yX2_lay cX2_lay 8 none 10 300 (3 * (B - M)) (6 * (B - M)) [.ref gl, .int (nI gg), .int (nI mo)] z cB cI_ cO L0 g0 (fun L g => ∃ (S2 : List I3) (ra2 fa2 la2 M2 : Nat) (k0 k1 k2 : Nat → Int32) (w7 w8 w9 u1 u2 u3 u4 u5 u6 : Int32), S2 = gl_S EE P fi en mo ∧ sh_is S2 k0 k1 k2 ∧ (S2.length ≤ M2 ∧ M2 = B ∧ 1 ≤ M2) ∧ fr [20, 25, 26, 27, 28] L0 g0 L g ∧ ho L g gl 25 (.inr (3, [.ref pr, .ref lf, .ref ra2, .ref fa2, .ref la2, .int (nI (S2.length)), .int (nI en), .int w7, .int w8, .int w9])) ∧ ho L g lf 20 (.inr (4, [.ref pr, .int u1, .int u2, .int u3, .int u4, .int u5, .int u6])) ∧ ho L g ra2 26 (.inl (cI_, M2, .inl k0)) ∧ ho L g fa2 27 (.inl (cI_, M2, .inl k1)) ∧ ho L g la2 28 (.inl (cI_, M2, .inl k2))) := by
  unfold gl_S at hB2 ⊢
  by_cases h : fi < en
  · rw [if_pos h] at hB2 ⊢
    exact gl_layN l D z cB cI_ cO L0 g0 pr pcs spr nwh cp pa ea P ne EE nob gl lf ra fa la v5 v6 v7 v8 v9 x1 x2 x3 x4 x5 x6 M f0 f1 f2 mo gg fi en B h_pr h_pcs h_pc h_es h_nwh h_gl h_lf h_ra h_fa h_la hpa hQ hSn hmo1 hmo hgg hG efi een hgF hgT hM1 hB9 h hB2
  · rw [if_neg h] at hB2 ⊢
    exact gl_layE l D z cB cI_ cO L0 g0 pr pcs spr nwh cp pa ea P ne EE nob gl lf ra fa la v5 v6 v7 v8 v9 x1 x2 x3 x4 x5 x6 M f0 f1 f2 mo gg fi en B h_pr h_pcs h_pc h_es h_nwh h_gl h_lf h_ra h_fa h_la hpa hQ hSn hmo1 hmo hgg hG efi een hgF hgT hM1 hB9 (by omega) hB2
set_option maxHeartbeats 1000000 in
set_option maxRecDepth 100000 in
theorem gl_sc (l : Launch) (D : va_G) (z : Nat → Nat) (cB cI_ cO : ClassId) (L0 : List Nat) (g0 : hG) (pr gl lf ra fa la sn : Nat) (v6 v7 v8 v9 : Int32) (h_gl : ho L0 g0 gl 25 (.inr (3, [.ref pr, .ref lf, .ref ra, .ref fa, .ref la, .int (nI sn), .int v6, .int v7, .int v8, .int v9])))  : eIs l D yX2_sheetCount cX2_sheetCount 1 (some .int) 0 0 0 0 [.ref gl] z cB cI_ cO L0 g0 (fun r => r = nI sn) := by
  refine o_si (by decide) (Nat.le_of_ble_eq_true rfl) ?_
  intro p e s m below meth c A ls hf hr hlocks hin hK hP hD hS hA hZ hN hl
  obtain ⟨hx, hb, hml, hown, hts⟩ := id hf
  have hl : lv_has ls 1 [(0, .ref gl)] := hl
  refine lv_aload_n hx hb dX2_sheetCount_0 rfl (lv_at hl 0 rfl) ?_
  refine o_get (D := D) (ci := 3) (v := .int (nI sn)) (C := RX2) (T := TX2) (N := 10) hx hb hts inX2 hown hK hP h_gl rfl 5 (by decide) (hts _ k_393) (fun _ h9 => h9) rfl dX2_sheetCount_1 ?_
  exact o_ri hf hr rfl hlocks hK hP hD hS (show 0 ≤ 0 by omega) (show 0 ≤ 0 by omega) ⟨rfl, rfl, rfl⟩ dX2_sheetCount_4
set_option maxHeartbeats 1000000 in
set_option maxRecDepth 100000 in
theorem gl_isS (l : Launch) (D : va_G) (z : Nat → Nat) (cB cI_ cO : ClassId) (L0 : List Nat) (g0 : hG) (pr gl lf ra fa la M sn : Nat) (v6 v7 v8 v9 : Int32) (f0 f1 f2 : Nat → Int32) (s_ : Nat) (h_gl : ho L0 g0 gl 25 (.inr (3, [.ref pr, .ref lf, .ref ra, .ref fa, .ref la, .int (nI sn), .int v6, .int v7, .int v8, .int v9]))) (h_ra : ho L0 g0 ra 26 (.inl (cI_, M, .inl f0))) (hM : M ≤ 30000) (hll : sn ≤ M) (hs : s_ < sn) : eIs l D yX2_isSheet cX2_isSheet 2 (some .boolean) 0 0 0 0 [.ref gl, .int (nI s_)] z cB cI_ cO L0 g0 (fun r => r = 1) := by
  refine o_si (by decide) (Nat.le_of_ble_eq_true rfl) ?_
  intro p e s m below meth c A ls hf hr hlocks hin hK hP hD hS hA hZ hN hl
  obtain ⟨hx, hb, hml, hown, hts⟩ := id hf
  have hl : lv_has ls 2 [(0, .ref gl), (1, .int (nI s_))] := hl
  refine lv_iload_n hx hb dX2_isSheet_0 rfl (lv_at hl 1 rfl) ?_
  refine lv_if_lt (tgt := 25) hx hb dX2_isSheet_1 (by decide) (fun c_1 => ?_) (fun c_1 => ?_)
  · have c_1 := q_lt (a := s_) (b := 0) (by omega) (by omega) c_1
    exact False.elim (by omega)
  · have c_1 := q_nlt (a := s_) (b := 0) (by omega) (by omega) c_1
    refine lv_iload_n hx hb dX2_isSheet_4 rfl (lv_at hl 1 rfl) ?_
    refine lv_aload_n hx hb dX2_isSheet_5 rfl (lv_at hl 0 rfl) ?_
    refine o_get (D := D) (ci := 3) (v := .int (nI sn)) (C := RX2) (T := TX2) (N := 10) hx hb hts inX2 hown hK hP h_gl rfl 5 (by decide) (hts _ k_393) (fun _ h9 => h9) rfl dX2_isSheet_6 ?_
    refine lv_icmp_ge (tgt := 25) hx hb dX2_isSheet_9 (by decide) (fun c_2 => ?_) (fun c_2 => ?_)
    · have c_2 := q_le (a := sn) (b := s_) (by omega) (by omega) c_2
      exact False.elim (by omega)
    · have c_2 := q_nle (a := sn) (b := s_) (by omega) (by omega) c_2
      refine lv_iload_n hx hb dX2_isSheet_12 rfl (lv_at hl 1 rfl) ?_
      refine lv_aload_n hx hb dX2_isSheet_13 rfl (lv_at hl 0 rfl) ?_
      refine o_get (D := D) (ci := 3) (v := .ref ra) (C := RX2) (T := TX2) (N := 10) hx hb hts inX2 hown hK hP h_gl rfl 2 (by decide) (hts _ k_390) (fun _ h9 => h9) rfl dX2_isSheet_14 ?_
      refine o_leni hx hb hK hP h_ra dX2_isSheet_17 ?_
      refine lv_icmp_ge (tgt := 25) hx hb dX2_isSheet_18 (by decide) (fun c_3 => ?_) (fun c_3 => ?_)
      · have c_3 := q_le (a := M) (b := s_) (by omega) (by omega) c_3
        exact False.elim (by omega)
      · have c_3 := q_nle (a := M) (b := s_) (by omega) (by omega) c_3
        refine lv_iconst (v := 1) hx hb dX2_isSheet_21 (by decide) ?_
        refine lv_goto (tgt := 26) hx hb dX2_isSheet_22 (by decide) ?_
        exact o_ri hf hr rfl hlocks hK hP hD hS (show 0 ≤ 0 by omega) (show 0 ≤ 0 by omega) ⟨rfl, rfl, rfl⟩ dX2_isSheet_26
set_option maxHeartbeats 1000000 in
set_option maxRecDepth 100000 in
theorem gl_ron (l : Launch) (D : va_G) (z : Nat → Nat) (cB cI_ cO : ClassId) (L0 : List Nat) (g0 : hG) (pr gl lf ra fa la M sn : Nat) (v6 v7 v8 v9 : Int32) (f0 f1 f2 : Nat → Int32) (s_ : Nat) (h_gl : ho L0 g0 gl 25 (.inr (3, [.ref pr, .ref lf, .ref ra, .ref fa, .ref la, .int (nI sn), .int v6, .int v7, .int v8, .int v9]))) (h_ra : ho L0 g0 ra 26 (.inl (cI_, M, .inl f0))) (hM : M ≤ 30000) (hll : sn ≤ M) (hs : s_ < sn) : eIs l D yX2_rowsOn cX2_rowsOn 2 (some .int) 1 21 0 0 [.ref gl, .int (nI s_)] z cB cI_ cO L0 g0 (fun r => r = f0 s_) := by
  refine o_si (by decide) (Nat.le_of_ble_eq_true rfl) ?_
  intro p e s m below meth c A ls hf hr hlocks hin hK hP hD hS hA hZ hN hl
  obtain ⟨hx, hb, hml, hown, hts⟩ := id hf
  have hl : lv_has ls 2 [(0, .ref gl), (1, .int (nI s_))] := hl
  refine lv_aload_n hx hb dX2_rowsOn_0 rfl (lv_at hl 0 rfl) ?_
  refine lv_iload_n hx hb dX2_rowsOn_1 rfl (lv_at hl 1 rfl) ?_
  refine o_cis (k := 0) (n := 0) hK hP hD hS hA (o_rV (As := [.int (nI s_)]) (rest := []) hf (gl_isS _ _ _ _ _ _ _ _ pr gl lf ra fa la M sn v6 v7 v8 v9 f0 f1 f2 s_ h_gl h_ra hM hll hs _) k_1008 k_1005 k_1007 k_37 k_96 (nA := 1) (by decide +kernel) ⟨Nat.le_of_ble_eq_true rfl, Nat.le_of_ble_eq_true rfl⟩ hK hP hD hS hA hZ hN h_gl rfl rfl rfl hl.1 rfl (Nat.le_of_ble_eq_true rfl) dX2_rowsOn_2 ⟨(show 0 + 0 ≤ 0 by omega), (show 0 + 0 ≤ 0 by omega)⟩) (Nat.le_refl _) (Nat.le_refl _) (fun r H locs hw hP hD hS => ?_)
  obtain rfl := hw
  refine lv_if_eq (tgt := 17) hx hb dX2_rowsOn_5 (by decide) (fun hno => absurd hno (by decide)) (fun _ => ?_)
  refine lv_aload_n hx hb dX2_rowsOn_8 rfl (lv_at hl 0 rfl) ?_
  refine o_get (D := D) (ci := 3) (v := .ref ra) (C := RX2) (T := TX2) (N := 10) hx hb hts inX2 hown hK hP h_gl rfl 2 (by decide) (hts _ k_390) (fun _ h9 => h9) rfl dX2_rowsOn_9 ?_
  refine lv_iload_n hx hb dX2_rowsOn_12 rfl (lv_at hl 1 rfl) ?_
  refine o_ild (X := s_) hx hb hK hP h_ra (by omega) (by omega) dX2_rowsOn_13 ?_
  refine lv_goto (tgt := 18) hx hb dX2_rowsOn_14 (by decide) ?_
  exact o_ri hf hr rfl hlocks hK hP hD hS (show 0 ≤ 0 by omega) (show 0 ≤ 0 by omega) ⟨rfl, rfl, rfl⟩ dX2_rowsOn_18
set_option maxHeartbeats 1000000 in
set_option maxRecDepth 100000 in
theorem gl_ponE (l : Launch) (D : va_G) (z : Nat → Nat) (cB cI_ cO : ClassId) (L0 : List Nat) (g0 : hG) (pr gl lf ra fa la M sn : Nat) (v6 v7 v8 v9 : Int32) (f0 f1 f2 : Nat → Int32) (s_ : Nat) (h_gl : ho L0 g0 gl 25 (.inr (3, [.ref pr, .ref lf, .ref ra, .ref fa, .ref la, .int (nI sn), .int v6, .int v7, .int v8, .int v9]))) (h_ra : ho L0 g0 ra 26 (.inl (cI_, M, .inl f0))) (h_fa : ho L0 g0 fa 27 (.inl (cI_, M, .inl f1))) (h_la : ho L0 g0 la 28 (.inl (cI_, M, .inl f2))) (hM : M ≤ 30000) (hll : sn ≤ M) (hs : s_ < sn) (h1 : f1 s_ = -1) : eIs l D yX2_piecesOn cX2_piecesOn 2 (some .int) 1 21 0 0 [.ref gl, .int (nI s_)] z cB cI_ cO L0 g0 (fun r => r = 0) := by
  refine o_si (by decide) (Nat.le_of_ble_eq_true rfl) ?_
  intro p e s m below meth c A ls hf hr hlocks hin hK hP hD hS hA hZ hN hl
  obtain ⟨hx, hb, hml, hown, hts⟩ := id hf
  have hl : lv_has ls 2 [(0, .ref gl), (1, .int (nI s_))] := hl
  refine lv_aload_n hx hb dX2_piecesOn_0 rfl (lv_at hl 0 rfl) ?_
  refine lv_iload_n hx hb dX2_piecesOn_1 rfl (lv_at hl 1 rfl) ?_
  refine o_cis (k := 0) (n := 0) hK hP hD hS hA (o_rV (As := [.int (nI s_)]) (rest := []) hf (gl_isS _ _ _ _ _ _ _ _ pr gl lf ra fa la M sn v6 v7 v8 v9 f0 f1 f2 s_ h_gl h_ra hM hll hs _) k_1008 k_1005 k_1007 k_37 k_96 (nA := 1) (by decide +kernel) ⟨Nat.le_of_ble_eq_true rfl, Nat.le_of_ble_eq_true rfl⟩ hK hP hD hS hA hZ hN h_gl rfl rfl rfl hl.1 rfl (Nat.le_of_ble_eq_true rfl) dX2_piecesOn_2 ⟨(show 0 + 0 ≤ 0 by omega), (show 0 + 0 ≤ 0 by omega)⟩) (Nat.le_refl _) (Nat.le_refl _) (fun r H locs hw hP hD hS => ?_)
  obtain rfl := hw
  refine lv_if_eq (tgt := 36) hx hb dX2_piecesOn_5 (by decide) (fun hno => absurd hno (by decide)) (fun _ => ?_)
  refine lv_aload_n hx hb dX2_piecesOn_8 rfl (lv_at hl 0 rfl) ?_
  refine o_get (D := D) (ci := 3) (v := .ref fa) (C := RX2) (T := TX2) (N := 10) hx hb hts inX2 hown hK hP h_gl rfl 3 (by decide) (hts _ k_391) (fun _ h9 => h9) rfl dX2_piecesOn_9 ?_
  refine lv_iload_n hx hb dX2_piecesOn_12 rfl (lv_at hl 1 rfl) ?_
  refine o_ild (X := s_) hx hb hK hP h_fa (by omega) (by omega) dX2_piecesOn_13 ?_
  refine q_seti (y := (-1)) h1 ?_
  refine lv_iconst (v := (-1)) hx hb dX2_piecesOn_14 (by decide) ?_
  refine lv_icmp_eq (tgt := 36) hx hb dX2_piecesOn_15 (by decide) (fun _ => ?_) (fun hno => absurd hno (by decide))
  refine lv_iconst (v := 0) hx hb dX2_piecesOn_36 (by decide) ?_
  exact o_ri hf hr rfl hlocks hK hP hD hS (show 0 ≤ 0 by omega) (show 0 ≤ 0 by omega) ⟨rfl, rfl, rfl⟩ dX2_piecesOn_37
set_option maxHeartbeats 1000000 in
set_option maxRecDepth 100000 in
theorem gl_pon (l : Launch) (D : va_G) (z : Nat → Nat) (cB cI_ cO : ClassId) (L0 : List Nat) (g0 : hG) (pr gl lf ra fa la M sn : Nat) (v6 v7 v8 v9 : Int32) (f0 f1 f2 : Nat → Int32) (s_ a b : Nat) (h_gl : ho L0 g0 gl 25 (.inr (3, [.ref pr, .ref lf, .ref ra, .ref fa, .ref la, .int (nI sn), .int v6, .int v7, .int v8, .int v9]))) (h_ra : ho L0 g0 ra 26 (.inl (cI_, M, .inl f0))) (h_fa : ho L0 g0 fa 27 (.inl (cI_, M, .inl f1))) (h_la : ho L0 g0 la 28 (.inl (cI_, M, .inl f2))) (hM : M ≤ 30000) (hll : sn ≤ M) (hs : s_ < sn) (h1 : f1 s_ = nI a) (h2 : f2 s_ = nI b) (hab : a ≤ b) (hb9 : b ≤ 20000) : eIs l D yX2_piecesOn cX2_piecesOn 2 (some .int) 1 21 0 0 [.ref gl, .int (nI s_)] z cB cI_ cO L0 g0 (fun r => r = nI (b - a + 1)) := by
  refine o_si (by decide) (Nat.le_of_ble_eq_true rfl) ?_
  intro p e s m below meth c A ls hf hr hlocks hin hK hP hD hS hA hZ hN hl
  obtain ⟨hx, hb, hml, hown, hts⟩ := id hf
  have hl : lv_has ls 2 [(0, .ref gl), (1, .int (nI s_))] := hl
  refine lv_aload_n hx hb dX2_piecesOn_0 rfl (lv_at hl 0 rfl) ?_
  refine lv_iload_n hx hb dX2_piecesOn_1 rfl (lv_at hl 1 rfl) ?_
  refine o_cis (k := 0) (n := 0) hK hP hD hS hA (o_rV (As := [.int (nI s_)]) (rest := []) hf (gl_isS _ _ _ _ _ _ _ _ pr gl lf ra fa la M sn v6 v7 v8 v9 f0 f1 f2 s_ h_gl h_ra hM hll hs _) k_1008 k_1005 k_1007 k_37 k_96 (nA := 1) (by decide +kernel) ⟨Nat.le_of_ble_eq_true rfl, Nat.le_of_ble_eq_true rfl⟩ hK hP hD hS hA hZ hN h_gl rfl rfl rfl hl.1 rfl (Nat.le_of_ble_eq_true rfl) dX2_piecesOn_2 ⟨(show 0 + 0 ≤ 0 by omega), (show 0 + 0 ≤ 0 by omega)⟩) (Nat.le_refl _) (Nat.le_refl _) (fun r H locs hw hP hD hS => ?_)
  obtain rfl := hw
  refine lv_if_eq (tgt := 36) hx hb dX2_piecesOn_5 (by decide) (fun hno => absurd hno (by decide)) (fun _ => ?_)
  refine lv_aload_n hx hb dX2_piecesOn_8 rfl (lv_at hl 0 rfl) ?_
  refine o_get (D := D) (ci := 3) (v := .ref fa) (C := RX2) (T := TX2) (N := 10) hx hb hts inX2 hown hK hP h_gl rfl 3 (by decide) (hts _ k_391) (fun _ h9 => h9) rfl dX2_piecesOn_9 ?_
  refine lv_iload_n hx hb dX2_piecesOn_12 rfl (lv_at hl 1 rfl) ?_
  refine o_ild (X := s_) hx hb hK hP h_fa (by omega) (by omega) dX2_piecesOn_13 ?_
  refine q_seti (y := (nI a)) h1 ?_
  refine lv_iconst (v := (-1)) hx hb dX2_piecesOn_14 (by decide) ?_
  refine lv_icmp_eq (tgt := 36) hx hb dX2_piecesOn_15 (by decide) (fun hno => absurd hno (q_nem (by decide) (by omega))) (fun _ => ?_)
  refine lv_aload_n hx hb dX2_piecesOn_18 rfl (lv_at hl 0 rfl) ?_
  refine o_get (D := D) (ci := 3) (v := .ref la) (C := RX2) (T := TX2) (N := 10) hx hb hts inX2 hown hK hP h_gl rfl 4 (by decide) (hts _ k_392) (fun _ h9 => h9) rfl dX2_piecesOn_19 ?_
  refine lv_iload_n hx hb dX2_piecesOn_22 rfl (lv_at hl 1 rfl) ?_
  refine o_ild (X := s_) hx hb hK hP h_la (by omega) (by omega) dX2_piecesOn_23 ?_
  refine q_seti (y := (nI b)) h2 ?_
  refine lv_aload_n hx hb dX2_piecesOn_24 rfl (lv_at hl 0 rfl) ?_
  refine o_get (D := D) (ci := 3) (v := .ref fa) (C := RX2) (T := TX2) (N := 10) hx hb hts inX2 hown hK hP h_gl rfl 3 (by decide) (hts _ k_391) (fun _ h9 => h9) rfl dX2_piecesOn_25 ?_
  refine lv_iload_n hx hb dX2_piecesOn_28 rfl (lv_at hl 1 rfl) ?_
  refine o_ild (X := s_) hx hb hK hP h_fa (by omega) (by omega) dX2_piecesOn_29 ?_
  refine q_seti (y := (nI a)) h1 ?_
  refine lv_isub hx hb dX2_piecesOn_30 ?_
  refine q_seti (y := nI (b - a)) (nI_subE (a := b) (b := a) (by omega) (by omega)) ?_
  refine lv_iconst (v := 1) hx hb dX2_piecesOn_31 (by decide) ?_
  refine lv_iadd hx hb dX2_piecesOn_32 ?_
  refine q_seti (y := nI (b + 1 - a)) (nI_addE (a := b - a) (b := 1) (by omega)) ?_
  refine lv_goto (tgt := 37) hx hb dX2_piecesOn_33 (by decide) ?_
  exact o_ri hf hr rfl hlocks hK hP hD hS (show 0 ≤ 0 by omega) (show 0 ≤ 0 by omega) ⟨congrArg nI (show b + 1 - a = b - a + 1 by omega), rfl, rfl⟩ dX2_piecesOn_37
set_option maxHeartbeats 1000000 in
set_option maxRecDepth 100000 in
theorem gl_fe (l : Launch) (D : va_G) (z : Nat → Nat) (cB cI_ cO : ClassId) (L0 : List Nat) (g0 : hG) (pr pcs spr nwh cp : Nat) (pa : List Nat) (ea : Nat → Nat) (P : List Q4) (ne : Nat) (EE : Nat → E5) (gl lf ra fa la M sn : Nat) (v6 v7 v8 v9 : Int32) (f0 f1 f2 : Nat → Int32) (s_ a : Nat) (h_pr : ho L0 g0 pr 13 (.inr (7, [.ref pcs, .ref spr, .ref nwh]))) (h_pcs : alR cO (z 0) 14 15 L0 g0 pcs cp pa) (h_pc : pcR L0 g0 ea pa P) (h_es : esR cB cI_ L0 g0 ea ne EE) (h_gl : ho L0 g0 gl 25 (.inr (3, [.ref pr, .ref lf, .ref ra, .ref fa, .ref la, .int (nI sn), .int v6, .int v7, .int v8, .int v9]))) (h_ra : ho L0 g0 ra 26 (.inl (cI_, M, .inl f0))) (h_fa : ho L0 g0 fa 27 (.inl (cI_, M, .inl f1))) (hpa : pa.length ≤ 20000) (hQ : pq_ok ne EE P) (hM : M ≤ 30000) (hll : sn ≤ M) (hs : s_ < sn) (h1 : f1 s_ = nI a) (ha : a < pa.length) : eIs l D yX2_firstElementOn cX2_firstElementOn 2 (some .int) 4 85 0 0 [.ref gl, .int (nI s_)] z cB cI_ cO L0 g0 (fun r => r = (EE (P.getD a d4).1).2.1) := by
  refine o_si (by decide) (Nat.le_of_ble_eq_true rfl) ?_
  intro p e s m below meth c A ls hf hr hlocks hin hK hP hD hS hA hZ hN hl
  obtain ⟨hx, hb, hml, hown, hts⟩ := id hf
  have hl : lv_has ls 2 [(0, .ref gl), (1, .int (nI s_))] := hl
  refine lv_aload_n hx hb dX2_firstElementOn_0 rfl (lv_at hl 0 rfl) ?_
  refine lv_iload_n hx hb dX2_firstElementOn_1 rfl (lv_at hl 1 rfl) ?_
  refine o_cis (k := 0) (n := 0) hK hP hD hS hA (o_rV (As := [.int (nI s_)]) (rest := []) hf (gl_isS _ _ _ _ _ _ _ _ pr gl lf ra fa la M sn v6 v7 v8 v9 f0 f1 f2 s_ h_gl h_ra hM hll hs _) k_1008 k_1005 k_1007 k_37 k_96 (nA := 1) (by decide +kernel) ⟨Nat.le_of_ble_eq_true rfl, Nat.le_of_ble_eq_true rfl⟩ hK hP hD hS hA hZ hN h_gl rfl rfl rfl hl.1 rfl (Nat.le_of_ble_eq_true rfl) dX2_firstElementOn_2 ⟨(show 0 + 0 ≤ 0 by omega), (show 0 + 0 ≤ 0 by omega)⟩) (Nat.le_refl _) (Nat.le_refl _) (fun r H locs hw hP hD hS => ?_)
  obtain rfl := hw
  refine lv_if_eq (tgt := 30) hx hb dX2_firstElementOn_5 (by decide) (fun hno => absurd hno (by decide)) (fun _ => ?_)
  refine lv_aload_n hx hb dX2_firstElementOn_8 rfl (lv_at hl 0 rfl) ?_
  refine o_get (D := D) (ci := 3) (v := .ref pr) (C := RX2) (T := TX2) (N := 10) hx hb hts inX2 hown hK hP h_gl rfl 0 (by decide) (hts _ k_388) (fun _ h9 => h9) rfl dX2_firstElementOn_9 ?_
  refine lv_aload_n hx hb dX2_firstElementOn_12 rfl (lv_at hl 0 rfl) ?_
  refine o_get (D := D) (ci := 3) (v := .ref fa) (C := RX2) (T := TX2) (N := 10) hx hb hts inX2 hown hK hP h_gl rfl 3 (by decide) (hts _ k_391) (fun _ h9 => h9) rfl dX2_firstElementOn_13 ?_
  refine lv_iload_n hx hb dX2_firstElementOn_16 rfl (lv_at hl 1 rfl) ?_
  refine o_ild (X := s_) hx hb hK hP h_fa (by omega) (by omega) dX2_firstElementOn_17 ?_
  refine q_seti (y := (nI a)) h1 ?_
  refine o_crs (k := 0) (n := 0) hK hP hD hS hA (o_rV (As := [.int (nI a)]) (rest := []) hf (p_atI _ _ _ _ _ _ _ _ pr pcs spr nwh cp pa ea P a h_pr h_pcs h_pc hpa (by omega) _) k_775 k_968 k_773 k_774 k_92 (nA := 1) (by decide +kernel) ⟨Nat.le_of_ble_eq_true rfl, Nat.le_of_ble_eq_true rfl⟩ hK hP hD hS hA hZ hN h_pr rfl rfl rfl hl.1 rfl (Nat.le_of_ble_eq_true rfl) dX2_firstElementOn_18 ⟨(show 0 + 0 ≤ 0 by omega), (show 0 + 0 ≤ 0 by omega)⟩) (Nat.le_refl _) (Nat.le_refl _) (fun r H locs hw hP hD hS => ?_)
  obtain rfl := hw
  have h_p1 := h_pc.2 a (by omega)
  have hpl_ := h_pc.1
  have hq_p1 := hQ a (by omega)
  have hr_p1 := h_es.rb hq_p1.1
  refine o_get (D := D) (ci := 6) (v := .ref (ea (P.getD a d4).1)) (C := RX5) (T := TX5) (N := 4) hx hb hts inX5 hown hK hP h_p1 rfl 0 (by decide) (hts _ k_280) (fun _ h9 => h9) rfl dX2_firstElementOn_21 ?_
  obtain ⟨tx1, rf1, rt1, h_e1⟩ := h_es.ob hq_p1.1
  refine o_get (D := D) (ci := 2) (v := .int ((EE (P.getD a d4).1).2.1)) (C := RX1) (T := TX1) (N := 9) hx hb hts inX1 hown hK hP h_e1 rfl 1 (by decide) (hts _ k_232) (fun _ h9 => h9) rfl dX2_firstElementOn_24 ?_
  refine lv_goto (tgt := 31) hx hb dX2_firstElementOn_27 (by decide) ?_
  exact o_ri hf hr rfl hlocks hK hP hD hS (show 0 ≤ 0 by omega) (show 0 ≤ 0 by omega) ⟨rfl, rfl, rfl⟩ dX2_firstElementOn_31
set_option maxHeartbeats 1000000 in
set_option maxRecDepth 100000 in
theorem gl_le (l : Launch) (D : va_G) (z : Nat → Nat) (cB cI_ cO : ClassId) (L0 : List Nat) (g0 : hG) (pr pcs spr nwh cp : Nat) (pa : List Nat) (ea : Nat → Nat) (P : List Q4) (ne : Nat) (EE : Nat → E5) (gl lf ra fa la M sn : Nat) (v6 v7 v8 v9 : Int32) (f0 f1 f2 : Nat → Int32) (s_ a : Nat) (h_pr : ho L0 g0 pr 13 (.inr (7, [.ref pcs, .ref spr, .ref nwh]))) (h_pcs : alR cO (z 0) 14 15 L0 g0 pcs cp pa) (h_pc : pcR L0 g0 ea pa P) (h_es : esR cB cI_ L0 g0 ea ne EE) (h_gl : ho L0 g0 gl 25 (.inr (3, [.ref pr, .ref lf, .ref ra, .ref fa, .ref la, .int (nI sn), .int v6, .int v7, .int v8, .int v9]))) (h_ra : ho L0 g0 ra 26 (.inl (cI_, M, .inl f0))) (h_la : ho L0 g0 la 28 (.inl (cI_, M, .inl f2))) (hpa : pa.length ≤ 20000) (hQ : pq_ok ne EE P) (hM : M ≤ 30000) (hll : sn ≤ M) (hs : s_ < sn) (h1 : f2 s_ = nI a) (ha : a < pa.length) : eIs l D yX2_lastElementOn cX2_lastElementOn 2 (some .int) 4 85 0 0 [.ref gl, .int (nI s_)] z cB cI_ cO L0 g0 (fun r => r = (EE (P.getD a d4).1).2.1) := by
  refine o_si (by decide) (Nat.le_of_ble_eq_true rfl) ?_
  intro p e s m below meth c A ls hf hr hlocks hin hK hP hD hS hA hZ hN hl
  obtain ⟨hx, hb, hml, hown, hts⟩ := id hf
  have hl : lv_has ls 2 [(0, .ref gl), (1, .int (nI s_))] := hl
  refine lv_aload_n hx hb dX2_lastElementOn_0 rfl (lv_at hl 0 rfl) ?_
  refine lv_iload_n hx hb dX2_lastElementOn_1 rfl (lv_at hl 1 rfl) ?_
  refine o_cis (k := 0) (n := 0) hK hP hD hS hA (o_rV (As := [.int (nI s_)]) (rest := []) hf (gl_isS _ _ _ _ _ _ _ _ pr gl lf ra fa la M sn v6 v7 v8 v9 f0 f1 f2 s_ h_gl h_ra hM hll hs _) k_1008 k_1005 k_1007 k_37 k_96 (nA := 1) (by decide +kernel) ⟨Nat.le_of_ble_eq_true rfl, Nat.le_of_ble_eq_true rfl⟩ hK hP hD hS hA hZ hN h_gl rfl rfl rfl hl.1 rfl (Nat.le_of_ble_eq_true rfl) dX2_lastElementOn_2 ⟨(show 0 + 0 ≤ 0 by omega), (show 0 + 0 ≤ 0 by omega)⟩) (Nat.le_refl _) (Nat.le_refl _) (fun r H locs hw hP hD hS => ?_)
  obtain rfl := hw
  refine lv_if_eq (tgt := 30) hx hb dX2_lastElementOn_5 (by decide) (fun hno => absurd hno (by decide)) (fun _ => ?_)
  refine lv_aload_n hx hb dX2_lastElementOn_8 rfl (lv_at hl 0 rfl) ?_
  refine o_get (D := D) (ci := 3) (v := .ref pr) (C := RX2) (T := TX2) (N := 10) hx hb hts inX2 hown hK hP h_gl rfl 0 (by decide) (hts _ k_388) (fun _ h9 => h9) rfl dX2_lastElementOn_9 ?_
  refine lv_aload_n hx hb dX2_lastElementOn_12 rfl (lv_at hl 0 rfl) ?_
  refine o_get (D := D) (ci := 3) (v := .ref la) (C := RX2) (T := TX2) (N := 10) hx hb hts inX2 hown hK hP h_gl rfl 4 (by decide) (hts _ k_392) (fun _ h9 => h9) rfl dX2_lastElementOn_13 ?_
  refine lv_iload_n hx hb dX2_lastElementOn_16 rfl (lv_at hl 1 rfl) ?_
  refine o_ild (X := s_) hx hb hK hP h_la (by omega) (by omega) dX2_lastElementOn_17 ?_
  refine q_seti (y := (nI a)) h1 ?_
  refine o_crs (k := 0) (n := 0) hK hP hD hS hA (o_rV (As := [.int (nI a)]) (rest := []) hf (p_atI _ _ _ _ _ _ _ _ pr pcs spr nwh cp pa ea P a h_pr h_pcs h_pc hpa (by omega) _) k_775 k_968 k_773 k_774 k_92 (nA := 1) (by decide +kernel) ⟨Nat.le_of_ble_eq_true rfl, Nat.le_of_ble_eq_true rfl⟩ hK hP hD hS hA hZ hN h_pr rfl rfl rfl hl.1 rfl (Nat.le_of_ble_eq_true rfl) dX2_lastElementOn_18 ⟨(show 0 + 0 ≤ 0 by omega), (show 0 + 0 ≤ 0 by omega)⟩) (Nat.le_refl _) (Nat.le_refl _) (fun r H locs hw hP hD hS => ?_)
  obtain rfl := hw
  have h_p1 := h_pc.2 a (by omega)
  have hpl_ := h_pc.1
  have hq_p1 := hQ a (by omega)
  have hr_p1 := h_es.rb hq_p1.1
  refine o_get (D := D) (ci := 6) (v := .ref (ea (P.getD a d4).1)) (C := RX5) (T := TX5) (N := 4) hx hb hts inX5 hown hK hP h_p1 rfl 0 (by decide) (hts _ k_280) (fun _ h9 => h9) rfl dX2_lastElementOn_21 ?_
  obtain ⟨tx1, rf1, rt1, h_e1⟩ := h_es.ob hq_p1.1
  refine o_get (D := D) (ci := 2) (v := .int ((EE (P.getD a d4).1).2.1)) (C := RX1) (T := TX1) (N := 9) hx hb hts inX1 hown hK hP h_e1 rfl 1 (by decide) (hts _ k_232) (fun _ h9 => h9) rfl dX2_lastElementOn_24 ?_
  refine lv_goto (tgt := 31) hx hb dX2_lastElementOn_27 (by decide) ?_
  exact o_ri hf hr rfl hlocks hK hP hD hS (show 0 ≤ 0 by omega) (show 0 ≤ 0 by omega) ⟨rfl, rfl, rfl⟩ dX2_lastElementOn_31
set_option maxHeartbeats 1000000 in
set_option maxRecDepth 100000 in
theorem gl_feE (l : Launch) (D : va_G) (z : Nat → Nat) (cB cI_ cO : ClassId) (L0 : List Nat) (g0 : hG) (pr pcs spr nwh cp : Nat) (pa : List Nat) (ea : Nat → Nat) (P : List Q4) (nob nt nf nr gl lf ra fa la M sn : Nat) (v6 v7 v8 v9 : Int32) (f0 f1 f2 : Nat → Int32) (s_ : Nat) (h_pr : ho L0 g0 pr 13 (.inr (7, [.ref pcs, .ref spr, .ref nwh]))) (h_pcs : alR cO (z 0) 14 15 L0 g0 pcs cp pa) (h_nwh : ho L0 g0 nwh 19 (.inr (6, [.ref nob, .int 0, .int 0, .int 0]))) (h_nob : ho L0 g0 nob 30 (.inr (2, [.int 5, .int (-1), .int 0, .ref nt, .int 0, .int 0, .ref nf, .ref nr, .int 0]))) (h_gl : ho L0 g0 gl 25 (.inr (3, [.ref pr, .ref lf, .ref ra, .ref fa, .ref la, .int (nI sn), .int v6, .int v7, .int v8, .int v9]))) (h_ra : ho L0 g0 ra 26 (.inl (cI_, M, .inl f0))) (h_fa : ho L0 g0 fa 27 (.inl (cI_, M, .inl f1))) (hM : M ≤ 30000) (hll : sn ≤ M) (hs : s_ < sn) (h1 : f1 s_ = -1) : eIs l D yX2_firstElementOn cX2_firstElementOn 2 (some .int) 1 21 0 0 [.ref gl, .int (nI s_)] z cB cI_ cO L0 g0 (fun r => r = -1) := by
  refine o_si (by decide) (Nat.le_of_ble_eq_true rfl) ?_
  intro p e s m below meth c A ls hf hr hlocks hin hK hP hD hS hA hZ hN hl
  obtain ⟨hx, hb, hml, hown, hts⟩ := id hf
  have hl : lv_has ls 2 [(0, .ref gl), (1, .int (nI s_))] := hl
  refine lv_aload_n hx hb dX2_firstElementOn_0 rfl (lv_at hl 0 rfl) ?_
  refine lv_iload_n hx hb dX2_firstElementOn_1 rfl (lv_at hl 1 rfl) ?_
  refine o_cis (k := 0) (n := 0) hK hP hD hS hA (o_rV (As := [.int (nI s_)]) (rest := []) hf (gl_isS _ _ _ _ _ _ _ _ pr gl lf ra fa la M sn v6 v7 v8 v9 f0 f1 f2 s_ h_gl h_ra hM hll hs _) k_1008 k_1005 k_1007 k_37 k_96 (nA := 1) (by decide +kernel) ⟨Nat.le_of_ble_eq_true rfl, Nat.le_of_ble_eq_true rfl⟩ hK hP hD hS hA hZ hN h_gl rfl rfl rfl hl.1 rfl (Nat.le_of_ble_eq_true rfl) dX2_firstElementOn_2 ⟨(show 0 + 0 ≤ 0 by omega), (show 0 + 0 ≤ 0 by omega)⟩) (Nat.le_refl _) (Nat.le_refl _) (fun r H locs hw hP hD hS => ?_)
  obtain rfl := hw
  refine lv_if_eq (tgt := 30) hx hb dX2_firstElementOn_5 (by decide) (fun hno => absurd hno (by decide)) (fun _ => ?_)
  refine lv_aload_n hx hb dX2_firstElementOn_8 rfl (lv_at hl 0 rfl) ?_
  refine o_get (D := D) (ci := 3) (v := .ref pr) (C := RX2) (T := TX2) (N := 10) hx hb hts inX2 hown hK hP h_gl rfl 0 (by decide) (hts _ k_388) (fun _ h9 => h9) rfl dX2_firstElementOn_9 ?_
  refine lv_aload_n hx hb dX2_firstElementOn_12 rfl (lv_at hl 0 rfl) ?_
  refine o_get (D := D) (ci := 3) (v := .ref fa) (C := RX2) (T := TX2) (N := 10) hx hb hts inX2 hown hK hP h_gl rfl 3 (by decide) (hts _ k_391) (fun _ h9 => h9) rfl dX2_firstElementOn_13 ?_
  refine lv_iload_n hx hb dX2_firstElementOn_16 rfl (lv_at hl 1 rfl) ?_
  refine o_ild (X := s_) hx hb hK hP h_fa (by omega) (by omega) dX2_firstElementOn_17 ?_
  refine q_seti (y := (-1)) h1 ?_
  refine o_crs (k := 0) (n := 0) hK hP hD hS hA (o_rV (As := [.int (-1)]) (rest := []) hf (p_atM _ _ _ _ _ _ _ _ pr pcs spr nwh cp pa ea P h_pr h_pcs _) k_775 k_968 k_773 k_774 k_92 (nA := 1) (by decide +kernel) ⟨Nat.le_of_ble_eq_true rfl, Nat.le_of_ble_eq_true rfl⟩ hK hP hD hS hA hZ hN h_pr rfl rfl rfl hl.1 rfl (Nat.le_of_ble_eq_true rfl) dX2_firstElementOn_18 ⟨(show 0 + 0 ≤ 0 by omega), (show 0 + 0 ≤ 0 by omega)⟩) (Nat.le_refl _) (Nat.le_refl _) (fun r H locs hw hP hD hS => ?_)
  obtain rfl := hw
  refine o_get (D := D) (ci := 6) (v := .ref nob) (C := RX5) (T := TX5) (N := 4) hx hb hts inX5 hown hK hP h_nwh rfl 0 (by decide) (hts _ k_280) (fun _ h9 => h9) rfl dX2_firstElementOn_21 ?_
  refine o_get (D := D) (ci := 2) (v := .int (-1)) (C := RX1) (T := TX1) (N := 9) hx hb hts inX1 hown hK hP h_nob rfl 1 (by decide) (hts _ k_232) (fun _ h9 => h9) rfl dX2_firstElementOn_24 ?_
  refine lv_goto (tgt := 31) hx hb dX2_firstElementOn_27 (by decide) ?_
  exact o_ri hf hr rfl hlocks hK hP hD hS (show 0 ≤ 0 by omega) (show 0 ≤ 0 by omega) ⟨rfl, rfl, rfl⟩ dX2_firstElementOn_31
set_option maxHeartbeats 1000000 in
set_option maxRecDepth 100000 in
theorem gl_leE (l : Launch) (D : va_G) (z : Nat → Nat) (cB cI_ cO : ClassId) (L0 : List Nat) (g0 : hG) (pr pcs spr nwh cp : Nat) (pa : List Nat) (ea : Nat → Nat) (P : List Q4) (nob nt nf nr gl lf ra fa la M sn : Nat) (v6 v7 v8 v9 : Int32) (f0 f1 f2 : Nat → Int32) (s_ : Nat) (h_pr : ho L0 g0 pr 13 (.inr (7, [.ref pcs, .ref spr, .ref nwh]))) (h_pcs : alR cO (z 0) 14 15 L0 g0 pcs cp pa) (h_nwh : ho L0 g0 nwh 19 (.inr (6, [.ref nob, .int 0, .int 0, .int 0]))) (h_nob : ho L0 g0 nob 30 (.inr (2, [.int 5, .int (-1), .int 0, .ref nt, .int 0, .int 0, .ref nf, .ref nr, .int 0]))) (h_gl : ho L0 g0 gl 25 (.inr (3, [.ref pr, .ref lf, .ref ra, .ref fa, .ref la, .int (nI sn), .int v6, .int v7, .int v8, .int v9]))) (h_ra : ho L0 g0 ra 26 (.inl (cI_, M, .inl f0))) (h_la : ho L0 g0 la 28 (.inl (cI_, M, .inl f2))) (hM : M ≤ 30000) (hll : sn ≤ M) (hs : s_ < sn) (h1 : f2 s_ = -1) : eIs l D yX2_lastElementOn cX2_lastElementOn 2 (some .int) 1 21 0 0 [.ref gl, .int (nI s_)] z cB cI_ cO L0 g0 (fun r => r = -1) := by
  refine o_si (by decide) (Nat.le_of_ble_eq_true rfl) ?_
  intro p e s m below meth c A ls hf hr hlocks hin hK hP hD hS hA hZ hN hl
  obtain ⟨hx, hb, hml, hown, hts⟩ := id hf
  have hl : lv_has ls 2 [(0, .ref gl), (1, .int (nI s_))] := hl
  refine lv_aload_n hx hb dX2_lastElementOn_0 rfl (lv_at hl 0 rfl) ?_
  refine lv_iload_n hx hb dX2_lastElementOn_1 rfl (lv_at hl 1 rfl) ?_
  refine o_cis (k := 0) (n := 0) hK hP hD hS hA (o_rV (As := [.int (nI s_)]) (rest := []) hf (gl_isS _ _ _ _ _ _ _ _ pr gl lf ra fa la M sn v6 v7 v8 v9 f0 f1 f2 s_ h_gl h_ra hM hll hs _) k_1008 k_1005 k_1007 k_37 k_96 (nA := 1) (by decide +kernel) ⟨Nat.le_of_ble_eq_true rfl, Nat.le_of_ble_eq_true rfl⟩ hK hP hD hS hA hZ hN h_gl rfl rfl rfl hl.1 rfl (Nat.le_of_ble_eq_true rfl) dX2_lastElementOn_2 ⟨(show 0 + 0 ≤ 0 by omega), (show 0 + 0 ≤ 0 by omega)⟩) (Nat.le_refl _) (Nat.le_refl _) (fun r H locs hw hP hD hS => ?_)
  obtain rfl := hw
  refine lv_if_eq (tgt := 30) hx hb dX2_lastElementOn_5 (by decide) (fun hno => absurd hno (by decide)) (fun _ => ?_)
  refine lv_aload_n hx hb dX2_lastElementOn_8 rfl (lv_at hl 0 rfl) ?_
  refine o_get (D := D) (ci := 3) (v := .ref pr) (C := RX2) (T := TX2) (N := 10) hx hb hts inX2 hown hK hP h_gl rfl 0 (by decide) (hts _ k_388) (fun _ h9 => h9) rfl dX2_lastElementOn_9 ?_
  refine lv_aload_n hx hb dX2_lastElementOn_12 rfl (lv_at hl 0 rfl) ?_
  refine o_get (D := D) (ci := 3) (v := .ref la) (C := RX2) (T := TX2) (N := 10) hx hb hts inX2 hown hK hP h_gl rfl 4 (by decide) (hts _ k_392) (fun _ h9 => h9) rfl dX2_lastElementOn_13 ?_
  refine lv_iload_n hx hb dX2_lastElementOn_16 rfl (lv_at hl 1 rfl) ?_
  refine o_ild (X := s_) hx hb hK hP h_la (by omega) (by omega) dX2_lastElementOn_17 ?_
  refine q_seti (y := (-1)) h1 ?_
  refine o_crs (k := 0) (n := 0) hK hP hD hS hA (o_rV (As := [.int (-1)]) (rest := []) hf (p_atM _ _ _ _ _ _ _ _ pr pcs spr nwh cp pa ea P h_pr h_pcs _) k_775 k_968 k_773 k_774 k_92 (nA := 1) (by decide +kernel) ⟨Nat.le_of_ble_eq_true rfl, Nat.le_of_ble_eq_true rfl⟩ hK hP hD hS hA hZ hN h_pr rfl rfl rfl hl.1 rfl (Nat.le_of_ble_eq_true rfl) dX2_lastElementOn_18 ⟨(show 0 + 0 ≤ 0 by omega), (show 0 + 0 ≤ 0 by omega)⟩) (Nat.le_refl _) (Nat.le_refl _) (fun r H locs hw hP hD hS => ?_)
  obtain rfl := hw
  refine o_get (D := D) (ci := 6) (v := .ref nob) (C := RX5) (T := TX5) (N := 4) hx hb hts inX5 hown hK hP h_nwh rfl 0 (by decide) (hts _ k_280) (fun _ h9 => h9) rfl dX2_lastElementOn_21 ?_
  refine o_get (D := D) (ci := 2) (v := .int (-1)) (C := RX1) (T := TX1) (N := 9) hx hb hts inX1 hown hK hP h_nob rfl 1 (by decide) (hts _ k_232) (fun _ h9 => h9) rfl dX2_lastElementOn_24 ?_
  refine lv_goto (tgt := 31) hx hb dX2_lastElementOn_27 (by decide) ?_
  exact o_ri hf hr rfl hlocks hK hP hD hS (show 0 ≤ 0 by omega) (show 0 ≤ 0 by omega) ⟨rfl, rfl, rfl⟩ dX2_lastElementOn_31
set_option maxHeartbeats 1000000 in
set_option maxRecDepth 100000 in
theorem sw_loop {p : Program} {l : Launch} {e : Env} {R : Room} {s : State} {m : MethodId} {args : Array Value} {below : List Frame} {meth : Method} {c : Code} {Q : State → Prop} {D : va_G} {A : Nat → Prop} {z : Nat → Nat} {cB cI_ cO : ClassId} {L0 : List Nat} {g0 : hG} {cells slots : Nat} {pr gl lf ra fa la M sn pp : Nat} {v6 v7 v8 v9 : Int32} {f2 : Nat → Int32} {ln : Nat → Nat} (h_gl : ho L0 g0 gl 25 (.inr (3, [.ref pr, .ref lf, .ref ra, .ref fa, .ref la, .int (nI sn), .int v6, .int v7, .int v8, .int v9]))) (h_la : ho L0 g0 la 28 (.inl (cI_, M, .inl f2))) (hM : M ≤ 30000) (hll : sn ≤ M) (hpp : pp ≤ 20000) (hln : ∀ t, t < sn → f2 t = nI (ln t) ∧ ln t ≤ 20000) (hRf : 8 ≤ R.frames) (hRl : 100 ≤ R.locals) (hRc : cells ≤ R.cells) (hRs : slots ≤ R.slots) (hA : ∀ q : Nat, s.heap.size ≤ q → A q) (hf : CallFix p m c cX2_sheetWherePieceBegins 3 s args gT yX2_sheetWherePieceBegins.cls) (hK : va_K D vcl (dT cB cI_ cO) s) (hZ : zA z A s s.heap) (hN : zB z s) :
    ∀ (k : Nat) (i : Nat) (H : Heap) (locs : List Loc) (ls : Array Slot), i + k = sn → (∀ u, u < i → ln u < pp) → va_P D vcl (dW L0 g0) H → va_D A (dW L0 g0) → va_S A s.heap H locs → lv_has ls 3 [(2, .int (nI i)), (0, .ref gl), (1, .int (nI pp))] →
    (∀ (t : Nat) (H : Heap) (locs : List Loc) (ls : Array Slot), (t < sn ∧ pp ≤ ln t ∧ (∀ u, u < t → ln u < pp)) → va_P D vcl (dW L0 g0) H → va_D A (dW L0 g0) → va_S A s.heap H locs → lv_has ls 3 [(2, .int (nI t)), (0, .ref gl)] → W p l e R s m args below meth c H locs cells slots Q (F0 m 29 ls [])) →
    (∀  (H : Heap) (locs : List Loc) (ls : Array Slot), (∀ u, u < sn → ln u < pp) → va_P D vcl (dW L0 g0) H → va_D A (dW L0 g0) → va_S A s.heap H locs → lv_has ls 3 [(0, .ref gl)] → W p l e R s m args below meth c H locs cells slots Q (F0 m 37 ls [])) →
    W p l e R s m args below meth c H locs cells slots Q (F0 m 2 ls []) := by
  obtain ⟨hx, hb, hml, hown, hts⟩ := id hf
  intro k
  induction k with
  | zero =>
    intro i H locs ls hik hno hP hD hS hl kk1 kk0
    refine lv_iload_n hx hb dX2_sheetWherePieceBegins_2 rfl (lv_at hl 0 rfl) ?_
    refine lv_aload_n hx hb dX2_sheetWherePieceBegins_3 rfl (lv_at hl 1 rfl) ?_
    refine o_get (D := D) (ci := 3) (v := .int (nI sn)) (C := RX2) (T := TX2) (N := 10) hx hb hts inX2 hown hK hP h_gl rfl 5 (by decide) (hts _ k_393) (fun _ h9 => h9) rfl dX2_sheetWherePieceBegins_4 ?_
    refine lv_icmp_ge (tgt := 37) hx hb dX2_sheetWherePieceBegins_7 (by decide) (fun c_1 => ?_) (fun c_1 => ?_)
    · have c_1 := q_le (a := sn) (b := i) (by omega) (by omega) c_1
      exact kk0 H locs ls (fun t h9 => hno t (by omega)) hP hD hS (lv_sub hl (l' := [(0, .ref gl)]) [1] rfl)
    · have c_1 := q_nle (a := sn) (b := i) (by omega) (by omega) c_1
      refine lv_iload_n hx hb dX2_sheetWherePieceBegins_10 rfl (lv_at hl 0 rfl) ?_
      refine lv_aload_n hx hb dX2_sheetWherePieceBegins_11 rfl (lv_at hl 1 rfl) ?_
      refine o_get (D := D) (ci := 3) (v := .ref la) (C := RX2) (T := TX2) (N := 10) hx hb hts inX2 hown hK hP h_gl rfl 4 (by decide) (hts _ k_392) (fun _ h9 => h9) rfl dX2_sheetWherePieceBegins_12 ?_
      refine o_leni hx hb hK hP h_la dX2_sheetWherePieceBegins_15 ?_
      refine lv_icmp_ge (tgt := 37) hx hb dX2_sheetWherePieceBegins_16 (by decide) (fun c_2 => ?_) (fun c_2 => ?_)
      · have c_2 := q_le (a := M) (b := i) (by omega) (by omega) c_2
        exact kk0 H locs ls (fun t h9 => hno t (by omega)) hP hD hS (lv_sub hl (l' := [(0, .ref gl)]) [1] rfl)
      · have c_2 := q_nle (a := M) (b := i) (by omega) (by omega) c_2
        exact False.elim (by omega)
  | succ k ih =>
    intro i H locs ls hik hno hP hD hS hl kk1 kk0
    refine lv_iload_n hx hb dX2_sheetWherePieceBegins_2 rfl (lv_at hl 0 rfl) ?_
    refine lv_aload_n hx hb dX2_sheetWherePieceBegins_3 rfl (lv_at hl 1 rfl) ?_
    refine o_get (D := D) (ci := 3) (v := .int (nI sn)) (C := RX2) (T := TX2) (N := 10) hx hb hts inX2 hown hK hP h_gl rfl 5 (by decide) (hts _ k_393) (fun _ h9 => h9) rfl dX2_sheetWherePieceBegins_4 ?_
    refine lv_icmp_ge (tgt := 37) hx hb dX2_sheetWherePieceBegins_7 (by decide) (fun c_1 => ?_) (fun c_1 => ?_)
    · have c_1 := q_le (a := sn) (b := i) (by omega) (by omega) c_1
      exact False.elim (by omega)
    · have c_1 := q_nle (a := sn) (b := i) (by omega) (by omega) c_1
      refine lv_iload_n hx hb dX2_sheetWherePieceBegins_10 rfl (lv_at hl 0 rfl) ?_
      refine lv_aload_n hx hb dX2_sheetWherePieceBegins_11 rfl (lv_at hl 1 rfl) ?_
      refine o_get (D := D) (ci := 3) (v := .ref la) (C := RX2) (T := TX2) (N := 10) hx hb hts inX2 hown hK hP h_gl rfl 4 (by decide) (hts _ k_392) (fun _ h9 => h9) rfl dX2_sheetWherePieceBegins_12 ?_
      refine o_leni hx hb hK hP h_la dX2_sheetWherePieceBegins_15 ?_
      refine lv_icmp_ge (tgt := 37) hx hb dX2_sheetWherePieceBegins_16 (by decide) (fun c_2 => ?_) (fun c_2 => ?_)
      · have c_2 := q_le (a := M) (b := i) (by omega) (by omega) c_2
        exact False.elim (by omega)
      · have c_2 := q_nle (a := M) (b := i) (by omega) (by omega) c_2
        have hl9 := hln i (by omega)
        refine lv_aload_n hx hb dX2_sheetWherePieceBegins_19 rfl (lv_at hl 1 rfl) ?_
        refine o_get (D := D) (ci := 3) (v := .ref la) (C := RX2) (T := TX2) (N := 10) hx hb hts inX2 hown hK hP h_gl rfl 4 (by decide) (hts _ k_392) (fun _ h9 => h9) rfl dX2_sheetWherePieceBegins_20 ?_
        refine lv_iload_n hx hb dX2_sheetWherePieceBegins_23 rfl (lv_at hl 0 rfl) ?_
        refine o_ild (X := i) hx hb hK hP h_la (by omega) (by omega) dX2_sheetWherePieceBegins_24 ?_
        refine q_seti (y := (nI ((ln i)))) (hln i (by omega)).1 ?_
        refine lv_iload_n hx hb dX2_sheetWherePieceBegins_25 rfl (lv_at hl 2 rfl) ?_
        refine lv_icmp_lt (tgt := 31) hx hb dX2_sheetWherePieceBegins_26 (by decide) (fun c_3 => ?_) (fun c_3 => ?_)
        · have c_3 := q_lt (a := (ln i)) (b := pp) (by omega) (by omega) c_3
          refine lv_iinc (v := nI (i + 1)) (lv' := [(2, .int (nI (i + 1))), (0, .ref gl), (1, .int (nI pp))]) hx hb dX2_sheetWherePieceBegins_31 hl (k := 0) rfl (nI_addE (a := i) (b := 1) (by omega)) (by decide) rfl (fun ls hl => ?_)
          refine lv_goto (tgt := 2) hx hb dX2_sheetWherePieceBegins_34 (by decide) ?_
          exact ih (i + 1) H locs ls (by omega) (fun t h9 => by by_cases e9 : t = i; (· rw [e9]; omega); exact hno t (by omega)) hP hD hS (lv_sub hl (l' := [(2, .int (nI (i + 1))), (0, .ref gl), (1, .int (nI pp))]) [0, 1, 2] rfl) kk1 kk0
        · have c_3 := q_nlt (a := (ln i)) (b := pp) (by omega) (by omega) c_3
          exact kk1 i H locs ls ⟨by omega, by omega, hno⟩ hP hD hS (lv_sub hl (l' := [(2, .int (nI i)), (0, .ref gl)]) [0, 1] rfl)
set_option maxHeartbeats 1000000 in
set_option maxRecDepth 100000 in
theorem gl_where (l : Launch) (D : va_G) (z : Nat → Nat) (cB cI_ cO : ClassId) (L0 : List Nat) (g0 : hG) (pr gl lf ra fa la M sn pp : Nat) (v6 v7 v8 v9 : Int32) (f2 : Nat → Int32) (ln : Nat → Nat) (h_gl : ho L0 g0 gl 25 (.inr (3, [.ref pr, .ref lf, .ref ra, .ref fa, .ref la, .int (nI sn), .int v6, .int v7, .int v8, .int v9]))) (h_la : ho L0 g0 la 28 (.inl (cI_, M, .inl f2))) (hM : M ≤ 30000) (hll : sn ≤ M) (hpp : pp ≤ 20000) (hln : ∀ t, t < sn → f2 t = nI (ln t) ∧ ln t ≤ 20000) : eIs l D yX2_sheetWherePieceBegins cX2_sheetWherePieceBegins 3 (some .int) 8 100 0 0 [.ref gl, .int (nI pp)] z cB cI_ cO L0 g0 (fun r => ((∃ t, (t < sn ∧ pp ≤ ln t ∧ (∀ u, u < t → ln u < pp)) ∧ r = nI t) ∨ ((∀ u, u < sn → ln u < pp) ∧ r = 0))) := by
  refine o_si (by decide) (Nat.le_of_ble_eq_true rfl) ?_
  intro p e s m below meth c A ls hf hr hlocks hin hK hP hD hS hA hZ hN hl
  obtain ⟨hx, hb, hml, hown, hts⟩ := id hf
  have hl : lv_has ls 3 [(0, .ref gl), (1, .int (nI pp))] := hl
  refine lv_iconst (v := 0) hx hb dX2_sheetWherePieceBegins_0 (by decide) ?_
  refine lv_istore_n (lv' := [(2, .int 0), (0, .ref gl), (1, .int (nI pp))]) hx hb dX2_sheetWherePieceBegins_1 rfl hl (by decide) rfl (fun ls hl => ?_)
  refine sw_loop  h_gl h_la hM hll hpp hln (Nat.le_of_ble_eq_true rfl) (Nat.le_of_ble_eq_true rfl) (show 0 ≤ 0 by omega) (show 0 ≤ 0 by omega) hA hf hK hZ hN sn 0 _ _ ls (by omega) (fun u h9 => absurd h9 (Nat.not_lt_zero u)) hP hD hS (lv_sub hl (l' := [(2, .int 0), (0, .ref gl), (1, .int (nI pp))]) [0, 1, 2] rfl) ?_ ?_
  · intro t H locs ls b1 hP hD hS hl
    refine lv_iload_n hx hb dX2_sheetWherePieceBegins_29 rfl (lv_at hl 0 rfl) ?_
    exact o_ri hf hr rfl hlocks hK hP hD hS (show 0 ≤ 0 by omega) (show 0 ≤ 0 by omega) ⟨Or.inl ⟨t, b1, rfl⟩, rfl, rfl⟩ dX2_sheetWherePieceBegins_30
  · intro H locs ls b1 hP hD hS hl
    refine lv_iconst (v := 0) hx hb dX2_sheetWherePieceBegins_37 (by decide) ?_
    exact o_ri hf hr rfl hlocks hK hP hD hS (show 0 ≤ 0 by omega) (show 0 ≤ 0 by omega) ⟨Or.inr ⟨b1, rfl⟩, rfl, rfl⟩ dX2_sheetWherePieceBegins_38
